/**
 * One ball of snow that a village rolls from yard to yard. The numbered promises are those of
 * ../shared/DOC.md; words in capitals are its terms.
 */
public final class SnowOwed {
    public static final int BAD = -1000000001, NO = -1000000002, FULL = -1000000003, NONE = -1000000005, NOTHING = -1000000011, KIND = -1000000012, INDEX = -1000000013, SIZE = -1000000014;

    private static final int YARD = 0, SLOPE = 1, PROUD = 2, STEEP = 3, VAIN = 4, STRAW = 5;
    private static final int MOST_YARDS = 10, MOST_LAYERS = 30, MOST_THINGS = 6, MOST_TEXTS = 14;
    private static final int MOST_BYTES = 96, MOST_SHEETS = 4, MOST_PLACES = 24, MOST_SLOTS = 5;
    private static final int MOST_WAITING = 60, LAST_DAY = 9999, MOST_SNOW = 999, LONGEST_WAY = 5;
    private static final int OUT = 100;
    private static final int KEY_SIZE = 0, KEY_GIVE = 1, KEY_FINE = 2, KEYS = 3;
    private static final int MISSING = -1, SHORTS = 0, FLOATS = 1;
    private static final int HOLDS_NOTHING = 0, HOLDS_YARD = 1, HOLDS_SHEET = 2, HOLDS_NUMBER = 3;

    private final Village now = new Village();
    private final Village image = new Village();
    private boolean imageKept = false;
    private final Paths paths = new Paths();
    private final Tape tape = new Tape();
    private final Reader reader = new Reader();
    private final Law[] laws = new Law[MOST_TEXTS];
    private final Sheet[] sheets = new Sheet[MOST_SHEETS];
    private final Slot[] slots = new Slot[MOST_SLOTS];
    private final int[] waiting = new int[MOST_WAITING];
    private int waits = 0;

    public SnowOwed() {
        for (int i = 0; i < MOST_SHEETS; i++) {
            sheets[i] = new Sheet();
        }
        for (int i = 0; i < MOST_SLOTS; i++) {
            slots[i] = new Slot();
        }
    }

    // ---- yards

    public int yard(int kind, int snow, int gate) {
        if (!Kinds.has(kind) || !isSnow(snow) || !isGate(gate)) {
            return BAD;
        }
        if (now.ring.count >= MOST_YARDS) {
            return FULL;
        }
        return now.ring.add(kind, snow, gate);
    }

    public int told(int yard, int what) {
        Ring ring = now.ring;
        if (!ring.has(yard)) {
            return BAD;
        }
        switch (what) {
            case 0: return ring.kinds[yard];
            case 1: return ring.snow[yard];
            case 2: return ring.gates[yard];
            case 3: return ring.broken[yard];
            case 4: return now.gives(yard);
            case 5: return Kinds.goesOn(ring.kinds[yard], now.day);
            case 6: return Kinds.worth(ring.kinds[yard], ring.snow[yard], ring.gates[yard]);
            case 7: return now.ball.led(yard);
            default: return BAD;
        }
    }

    public int as(int yard, int kind) {
        if (!now.ring.has(yard) || !Kinds.has(kind)) {
            return BAD;
        }
        return Kinds.isOf(now.ring.kinds[yard], kind) ? now.ring.snow[yard] : KIND;
    }

    public int turns(int yard, int kind) {
        if (!now.ring.has(yard) || !Kinds.has(kind)) {
            return BAD;
        }
        int was = now.ring.kinds[yard];
        now.ring.kinds[yard] = kind;
        return was;
    }

    public int set(int yard, int what, int v) {
        if (!now.ring.has(yard)) {
            return BAD;
        }
        if (what == 1 && isSnow(v)) {
            int was = now.ring.snow[yard];
            now.ring.snow[yard] = v;
            return was;
        }
        if (what == 2 && isGate(v)) {
            int was = now.ring.gates[yard];
            now.ring.gates[yard] = v;
            return was;
        }
        return BAD;
    }

    public int deal(int n) {
        if (n < 1 || n > MOST_YARDS) {
            return BAD;
        }
        int come = Math.min(n, MOST_YARDS - now.ring.count);
        for (int i = 0; i < come; i++) {
            int kind = now.drawnRest(6);
            int snow = now.drawnRest(200);
            int gate = 1 + now.drawnRest(100);
            now.ring.add(kind, snow, gate);
        }
        return come;
    }

    public int seed(int v) {
        int was = now.z;
        now.z = v;
        return was;
    }

    // ---- the ball

    public int rule(int what, int v) {
        int was;
        if (what == 0 && v >= 0 && v <= 99) {
            was = now.warm;
            now.warm = v;
        } else if (what == 1 && v >= 0 && v <= 99) {
            was = now.fall;
            now.fall = v;
        } else if (what == 2 && v >= -9 && v <= 9) {
            was = now.move;
            now.move = v;
        } else {
            was = BAD;
        }
        return was;
    }

    public int at(int yard) {
        if (!now.ring.has(yard)) {
            return BAD;
        }
        int was = now.ball.place;
        now.ball.place = yard;
        return was;
    }

    public int ball(int what) {
        switch (what) {
            case 0: return now.ball.weight;
            case 1: return now.ballSize();
            case 2: return now.ball.place;
            case 3: return now.ball.layers;
            case 4: return now.ball.melted;
            default: return BAD;
        }
    }

    public int layer(int layer, int what) {
        if (layer < 0 || layer >= now.ball.layers || what < 0 || what > 1) {
            return BAD;
        }
        return what == 0 ? now.ball.owners[layer] : now.ball.kilos[layer];
    }

    public int pack(int yard, int kilos) {
        if (!now.ring.has(yard) || kilos < 1 || kilos > 999) {
            return BAD;
        }
        now.ball.grow(yard, kilos);
        return now.ball.weight;
    }

    public int lose(int thing) {
        if (!isThing(thing)) {
            return BAD;
        }
        if (now.ball.layers == 0) {
            return NO;
        }
        now.ball.things[thing] = now.ball.layers - 1;
        return now.ball.layers - 1;
    }

    public int find(int thing) {
        if (!isThing(thing)) {
            return BAD;
        }
        int was = now.ball.things[thing];
        now.ball.things[thing] = NONE;
        return was == NONE ? 0 : 1;
    }

    public int thing(int thing) {
        return isThing(thing) ? now.ball.things[thing] : BAD;
    }

    public int days(int n) {
        if (n < 1 || n > 100) {
            return BAD;
        }
        return now.passDays(Math.min(n, LAST_DAY - now.day));
    }

    // ---- what will be

    public int behind(int n, int what) {
        if (n < 0 || n > 100 || what < 0 || what > 3) {
            return BAD;
        }
        Village then = paths.thoughtOf(now);
        then.passDays(n);
        switch (what) {
            case 0: return then.ball.weight;
            case 1: return then.ball.place;
            case 2: return then.ring.brokenOfAll();
            default: return then.ball.layers;
        }
    }

    public int gone() {
        Village then = paths.thoughtOf(now);
        for (int day = 0; day < 300; day++) {
            if (then.ball.weight == 0) {
                return day;
            }
            then.passDay();
        }
        return then.ball.weight == 0 ? 300 : NONE;
    }

    public int way(int n, int what) {
        if (n < 1 || n > LONGEST_WAY || what < 0 || what > 2) {
            return BAD;
        }
        if (now.ring.count == 0) {
            return NONE;
        }
        paths.search(now, n);
        switch (what) {
            case 0: return paths.bestBroken;
            case 1: return paths.bestWeight;
            default: return paths.bestMoves;
        }
    }

    public int most() {
        if (now.ball.layers == 0) {
            return NONE;
        }
        int most = 0;
        for (int yard = 1; yard < now.ring.count; yard++) {
            if (now.ball.led(yard) > now.ball.led(most)) {
                most = yard;
            }
        }
        return most;
    }

    public int warmed(int sheet, int what) {
        if (!isSheet(sheet) || what < 0 || what > 1) {
            return BAD;
        }
        if (sheets[sheet].sort == MISSING) {
            return NOTHING;
        }
        int best = 0;
        int least = differences(sheets[sheet], 0);
        for (int warm = 1; warm <= 20; warm++) {
            int apart = differences(sheets[sheet], warm);
            if (apart < least) {
                best = warm;
                least = apart;
            }
        }
        return what == 0 ? best : least;
    }

    public int fine(int yard) {
        return now.ring.has(yard) ? now.fineOf(yard) : BAD;
    }

    // ---- texts

    public int feed(int a, int b, int c) {
        if (tape.length + 12 > MOST_BYTES) {
            return FULL;
        }
        tape.put(a);
        tape.put(b);
        tape.put(c);
        return tape.length;
    }

    public int trim(int n) {
        if (n < 0 || n > tape.length) {
            return BAD;
        }
        tape.length = n;
        return n;
    }

    public int text() {
        int fault = reader.faultOf(tape);
        tape.length = 0;
        if (fault >= 0) {
            return -100 - fault;
        }
        if (now.texts >= MOST_TEXTS) {
            return FULL;
        }
        int number = now.texts;
        laws[number] = reader.lawNumbered(number);
        now.adopt(laws[number]);
        return number;
    }

    public int textTold(int text, int what) {
        if (text < 0 || text >= now.texts || what < 0 || what > 1) {
            return BAD;
        }
        Law law = laws[text];
        if (law == null) {
            return BAD;
        }
        return what == 0 ? law.key : law.atoms;
    }

    public int why(int key) {
        if (key < 0 || key >= KEYS) {
            return BAD;
        }
        Law law = now.counting[key];
        return law == null ? NONE : law.number;
    }

    // ---- sheets, slots

    public int sheet(int sheet, int sort, int n) {
        if (!isSheet(sheet) || sort < MISSING || sort > FLOATS) {
            return BAD;
        }
        if (sort == MISSING) {
            sheets[sheet].become(MISSING, 0);
            return 0;
        }
        if (n > MOST_PLACES) {
            return BAD;
        }
        if (n < 0) {
            return SIZE;
        }
        sheets[sheet].become(sort, n);
        return n;
    }

    public int mark(int sheet, int place, int v) {
        if (!isSheet(sheet)) {
            return BAD;
        }
        Sheet row = sheets[sheet];
        if (row.sort == MISSING) {
            return NOTHING;
        }
        if (!row.has(place)) {
            return INDEX;
        }
        if (row.sort == SHORTS) {
            if (v == NONE) {
                return KIND;
            }
            row.numbers[place] = (short) v;
            return 1;
        }
        if (v != NONE && (v < -99999 || v > 99999)) {
            return BAD;
        }
        row.numbers[place] = v;
        return 1;
    }

    public int pour(int sheet) {
        if (!isSheet(sheet)) {
            return BAD;
        }
        Sheet row = sheets[sheet];
        if (row.sort == MISSING) {
            return NOTHING;
        }
        int otherwise = 0;
        for (int i = 0; i < row.places && i < now.ring.count; i++) {
            int snow = held(row.numbers[i], MOST_SNOW);
            if (row.numbers[i] != NONE && snow != now.ring.snow[i]) {
                now.ring.snow[i] = snow;
                otherwise++;
            }
        }
        return otherwise;
    }

    public int reads(int sheet) {
        if (!isSheet(sheet)) {
            return BAD;
        }
        Sheet row = sheets[sheet];
        if (row.sort == MISSING) {
            return NOTHING;
        }
        for (int i = 0; i < row.places; i++) {
            boolean right = i < now.ball.layers && row.numbers[i] == now.ball.kilos[i];
            if (row.numbers[i] != NONE && !right) {
                return i;
            }
        }
        return NONE;
    }

    public int copy(int from, int place, int to, int at, int many) {
        if (!isSheet(from) || !isSheet(to)) {
            return BAD;
        }
        Sheet source = sheets[from];
        Sheet target = sheets[to];
        if (source.sort == MISSING || target.sort == MISSING) {
            return NOTHING;
        }
        if (source.sort != target.sort) {
            return KIND;
        }
        if (!source.hasMany(place, many) || !target.hasMany(at, many)) {
            return INDEX;
        }
        System.arraycopy(source.numbers, place, target.numbers, at, many);
        return many;
    }

    public int lay(int slot, int thing, int k) {
        if (!isSlot(slot) || thing < HOLDS_NOTHING || thing > HOLDS_NUMBER) {
            return BAD;
        }
        Slot here = slots[slot];
        int held = here.holds;
        if (thing == HOLDS_YARD) {
            if (!now.ring.has(k)) {
                return BAD;
            }
            here.takeYard(now.ring, k);
        } else if (thing == HOLDS_SHEET) {
            if (!isSheet(k)) {
                return BAD;
            }
            if (sheets[k].sort == MISSING) {
                return NOTHING;
            }
            here.row.take(sheets[k]);
        } else {
            here.number = k;
        }
        here.holds = thing;
        return held;
    }

    public int ask(int slot, int kind) {
        if (!isSlot(slot) || !Kinds.has(kind)) {
            return BAD;
        }
        Slot here = slots[slot];
        if (here.holds == HOLDS_NOTHING) {
            return NOTHING;
        }
        if (here.holds != HOLDS_YARD || !Kinds.isOf(here.kind, kind)) {
            return KIND;
        }
        return Kinds.worth(here.kind, here.snow, here.gate);
    }

    public int item(int slot, int place) {
        if (!isSlot(slot)) {
            return BAD;
        }
        Slot here = slots[slot];
        if (here.holds == HOLDS_NOTHING) {
            return NOTHING;
        }
        if (here.holds != HOLDS_SHEET) {
            return KIND;
        }
        if (!here.row.has(place)) {
            return INDEX;
        }
        int number = here.row.numbers[place];
        return number == NONE ? KIND : number;
    }

    public int rest(int slot, int n) {
        if (!isSlot(slot)) {
            return BAD;
        }
        Slot here = slots[slot];
        if (here.holds == HOLDS_NOTHING) {
            return NOTHING;
        }
        if (here.holds != HOLDS_NUMBER) {
            return KIND;
        }
        return n == 0 ? NO : here.number % n;
    }

    // ---- rows, images

    public int tell(int v) {
        if (waits >= MOST_WAITING) {
            return FULL;
        }
        waiting[waits] = v;
        waits++;
        return waits;
    }

    public int check(int n) {
        int told = waits;
        waits = 0;
        if (n < 1 || n > 30) {
            return BAD;
        }
        if (!imageKept) {
            return NO;
        }
        Village then = paths.thoughtOf(image);
        int days = Math.min(n, LAST_DAY - image.day);
        int right = 0;
        for (int day = 0; day < days; day++) {
            then.passDay();
            if (!waitsAt(right, told, then.ball.weight)) {
                return 1 + right;
            }
            right++;
            if (!waitsAt(right, told, then.ball.place)) {
                return 1 + right;
            }
            right++;
        }
        return told > right ? 1 + right : 0;
    }

    public int keep() {
        image.become(now);
        imageKept = true;
        return now.ring.count;
    }

    public int back() {
        if (!imageKept) {
            return NO;
        }
        now.become(image);
        return now.ring.count;
    }

    public int count(int what) {
        switch (what) {
            case 0: return now.ring.count;
            case 1: return now.day;
            case 2: return now.warm;
            case 3: return now.fall;
            case 4: return now.move;
            case 5: return now.ring.brokenOfAll();
            case 6: return now.ring.snowOfAll();
            case 7: return now.texts;
            case 8: return waits;
            case 9: return tape.length;
            case 10: return now.z;
            default: return BAD;
        }
    }

    private static boolean isSnow(int v) {
        return v >= 0 && v <= MOST_SNOW;
    }

    private static boolean isGate(int v) {
        return v >= 1 && v <= 999;
    }

    private static boolean isThing(int v) {
        return v >= 0 && v < MOST_THINGS;
    }

    private static boolean isSheet(int v) {
        return v >= 0 && v < MOST_SHEETS;
    }

    private static boolean isSlot(int v) {
        return v >= 0 && v < MOST_SLOTS;
    }

    private static int held(int v, int most) {
        return Math.max(0, Math.min(most, v));
    }

    private int differences(Sheet row, int warm) {
        Village then = paths.thoughtOf(now);
        then.warm = warm;
        int together = 0;
        for (int i = 0; i < row.places; i++) {
            then.passDays(i == 0 ? 0 : 1);
            if (row.numbers[i] != NONE) {
                together += Math.abs(then.ball.weight - row.numbers[i]);
            }
        }
        return together;
    }

    private boolean waitsAt(int place, int told, int v) {
        return place < told && place < MOST_WAITING && waiting[place] == v;
    }

    /** What the KINDS of YARDS do; a KIND that is not named in a switch does as the one above it. */
    private static final class Kinds {
        private static final int[] ABOVE = {-1, YARD, YARD, SLOPE, PROUD, YARD};

        static boolean has(int kind) {
            return kind >= YARD && kind <= STRAW;
        }

        static boolean isOf(int kind, int wanted) {
            int one = kind;
            for (int i = 0; i < ABOVE.length && has(one); i++) {
                if (one == wanted) {
                    return true;
                }
                one = ABOVE[one];
            }
            return false;
        }

        /** plain: what the YARD would give as YARD. */
        static int gift(int kind, int plain, int snow) {
            int proud = Math.min(snow, plain + 10);
            switch (kind) {
                case SLOPE:
                case STEEP: return plain / 2;
                case PROUD: return proud;
                case VAIN: return Math.min(snow, 2 * proud);
                case STRAW: return 0;
                default: return plain;
            }
        }

        static int goesOn(int kind, int day) {
            switch (kind) {
                case STEEP: return 2;
                case STRAW: return day % 2 == 0 ? 0 : 1;
                default: return 1;
            }
        }

        static int worth(int kind, int snow, int gate) {
            switch (kind) {
                case SLOPE: return snow + 5;
                case STEEP: return 2 * (snow + 5);
                case PROUD: return 999 - snow;
                case VAIN: return 999 - snow - 8;
                case STRAW: return gate;
                default: return snow;
            }
        }
    }

    /** The YARDS. */
    private static final class Ring {
        final int[] kinds = new int[MOST_YARDS];
        final int[] snow = new int[MOST_YARDS];
        final int[] gates = new int[MOST_YARDS];
        final int[] broken = new int[MOST_YARDS];
        int count = 0;

        boolean has(int yard) {
            return yard >= 0 && yard < count;
        }

        int add(int kind, int itsSnow, int gate) {
            if (count >= MOST_YARDS) {
                return FULL;
            }
            kinds[count] = kind;
            snow[count] = itsSnow;
            gates[count] = gate;
            broken[count] = 0;
            count++;
            return count - 1;
        }

        int squeezeThrough(int yard, int size) {
            if (!has(yard) || size <= gates[yard]) {
                return 0;
            }
            broken[yard]++;
            gates[yard] = size;
            return 1;
        }

        void snowOn(int fall) {
            for (int i = 0; i < count; i++) {
                snow[i] = Math.min(MOST_SNOW, snow[i] + fall);
            }
        }

        int brokenOfAll() {
            int all = 0;
            for (int i = 0; i < count; i++) {
                all += broken[i];
            }
            return all;
        }

        int snowOfAll() {
            int all = 0;
            for (int i = 0; i < count; i++) {
                all += snow[i];
            }
            return all;
        }

        void become(Ring other) {
            count = other.count;
            System.arraycopy(other.kinds, 0, kinds, 0, count);
            System.arraycopy(other.snow, 0, snow, 0, count);
            System.arraycopy(other.gates, 0, gates, 0, count);
            System.arraycopy(other.broken, 0, broken, 0, count);
        }
    }

    /** THE BALL with its LAYERS, and the THINGS, each as thing() tells it. */
    private static final class Ball {
        final int[] owners = new int[MOST_LAYERS];
        final int[] kilos = new int[MOST_LAYERS];
        final int[] things = new int[MOST_THINGS];
        int layers = 0;
        int weight = 0;
        int place = 0;
        int melted = 0;

        Ball() {
            for (int i = 0; i < MOST_THINGS; i++) {
                things[i] = NONE;
            }
        }

        void grow(int owner, int more) {
            if (more <= 0) {
                return;
            }
            int outer = layers - 1;
            if (outer >= 0 && (layers >= MOST_LAYERS || owners[outer] == owner)) {
                kilos[outer] += more;
            } else {
                owners[layers] = owner;
                kilos[layers] = more;
                layers++;
            }
            weight += more;
        }

        void melt(int most) {
            int left = Math.min(most, weight);
            weight -= left;
            melted += left;
            for (int outer = layers - 1; outer >= 0 && left > 0; outer--) {
                int off = Math.min(left, kilos[outer]);
                kilos[outer] -= off;
                left -= off;
                if (kilos[outer] <= 0) {
                    layers = outer;
                    bareThings(outer);
                }
            }
        }

        private void bareThings(int layer) {
            for (int i = 0; i < MOST_THINGS; i++) {
                if (things[i] == layer) {
                    things[i] = OUT + place;
                }
            }
        }

        int led(int yard) {
            int all = 0;
            for (int i = 0; i < layers; i++) {
                if (owners[i] == yard) {
                    all += kilos[i];
                }
            }
            return all;
        }

        void become(Ball other) {
            layers = other.layers;
            weight = other.weight;
            place = other.place;
            melted = other.melted;
            System.arraycopy(other.owners, 0, owners, 0, layers);
            System.arraycopy(other.kilos, 0, kilos, 0, layers);
            System.arraycopy(other.things, 0, things, 0, MOST_THINGS);
        }
    }

    /** All that AN IMAGE keeps, so that one village can be thought on from another. */
    private static final class Village {
        final Ring ring = new Ring();
        final Ball ball = new Ball();
        /** By KEY the TEXT that counts, or null. */
        final Law[] counting = new Law[KEYS];
        int texts = 0;
        int day = 0;
        int warm = 5;
        int fall = 3;
        int move = 0;
        int z = 1;

        void become(Village other) {
            ring.become(other.ring);
            ball.become(other.ball);
            for (int i = 0; i < KEYS; i++) {
                counting[i] = other.counting[i];
            }
            texts = other.texts;
            day = other.day;
            warm = other.warm;
            fall = other.fall;
            move = other.move;
            z = other.z;
        }

        void adopt(Law law) {
            counting[law.key] = law;
            texts++;
        }

        int drawnRest(int by) {
            z = z * 1103515245 + 12345;
            return by > 0 ? (z >>> 8) % by : 0;
        }

        int ballSize() {
            Law law = counting[KEY_SIZE];
            int size = law == null ? ball.weight / 10 : law.value(ball.weight, ball.layers, 0);
            return held(size, 999);
        }

        int gives(int yard) {
            if (!ring.has(yard)) {
                return 0;
            }
            int snow = ring.snow[yard];
            Law law = counting[KEY_GIVE];
            int plain = law == null ? snow / 2 : held(law.value(ball.weight, snow, day), snow);
            return Kinds.gift(ring.kinds[yard], plain, snow);
        }

        int fineOf(int yard) {
            if (!ring.has(yard)) {
                return 0;
            }
            Law law = counting[KEY_FINE];
            return law == null ? ring.broken[yard] : law.value(ball.weight, ring.broken[yard], 0);
        }

        /** How many GATES were BROKEN. */
        int passDays(int n) {
            int broke = 0;
            for (int i = 0; i < n; i++) {
                broke += passDay();
            }
            return broke;
        }

        int passDay() {
            int broke = 0;
            if (ring.has(ball.place)) {
                int here = ball.place;
                int thaw = drawnRest(warm + 1);
                ball.melt(ring.kinds[here] == STRAW ? thaw / 2 : thaw);
                int gift = gives(here);
                ring.snow[here] -= gift;
                ball.grow(here, gift);
                broke = roll(Kinds.goesOn(ring.kinds[here], day) + move, ballSize());
                ring.snowOn(fall);
            }
            day++;
            return broke;
        }

        private int roll(int steps, int size) {
            int last = ring.count - 1;
            int broke = 0;
            for (int i = 0; i < steps; i++) {
                broke += ring.squeezeThrough(ball.place, size);
                ball.place = ball.place >= last ? 0 : ball.place + 1;
            }
            for (int i = 0; i > steps; i--) {
                ball.place = ball.place <= 0 ? last : ball.place - 1;
                broke += ring.squeezeThrough(ball.place, size);
            }
            return broke;
        }
    }

    /** Villages that are only thought, made once and used again by every call. */
    private static final class Paths {
        private final Village[] thoughts = new Village[LONGEST_WAY];
        private boolean found = false;
        int bestBroken = 0;
        int bestWeight = 0;
        int bestMoves = 0;

        Paths() {
            for (int i = 0; i < LONGEST_WAY; i++) {
                thoughts[i] = new Village();
            }
        }

        Village thoughtOf(Village real) {
            thoughts[0].become(real);
            return thoughts[0];
        }

        void search(Village from, int n) {
            found = false;
            branch(this, from, Math.min(n, LONGEST_WAY), 0, 0);
        }

        /** Static, for LANGUAGE.md lets only such a method call itself alone (rule 8). */
        private static void branch(Paths paths, Village from, int n, int depth, int moves) {
            if (depth >= n || depth >= LONGEST_WAY) {
                paths.weigh(from, moves);
                return;
            }
            Village next = paths.thoughts[depth];
            for (int move = -1; move <= 1; move++) {
                next.become(from);
                next.move = move;
                next.passDay();
                branch(paths, next, n, depth + 1, moves * 3 + move + 1);
            }
        }

        /** Ways come in order, so that one which is only as good as an earlier one is left out. */
        private void weigh(Village end, int moves) {
            int broken = end.ring.brokenOfAll();
            int weight = end.ball.weight;
            boolean better = broken < bestBroken || broken == bestBroken && weight > bestWeight;
            if (!found || better) {
                found = true;
                bestBroken = broken;
                bestWeight = weight;
                bestMoves = moves;
            }
        }
    }

    /** THE TAPE. */
    private static final class Tape {
        final int[] bytes = new int[MOST_BYTES];
        int length = 0;

        void put(int four) {
            for (int shift = 24; shift >= 0 && length < MOST_BYTES; shift -= 8) {
                bytes[length] = four >>> shift & 255;
                length++;
            }
        }
    }

    /** A TEXT: its E, operands ahead of their signs, so that it is worked out without recursion. */
    private static final class Law {
        /** Codes below NAMES are NUMBERS, those below SIGNS are NAMES. */
        static final int NAMES = 10000, SIGNS = 10100;

        final int number;
        final int key;
        final int atoms;
        private final int[] codes;
        private final int[] stack;

        Law(int itsNumber, int itsKey, int itsAtoms, int[] itsCodes) {
            number = itsNumber;
            key = itsKey;
            atoms = itsAtoms;
            codes = itsCodes;
            stack = new int[itsAtoms];
        }

        /** The values of the NAMES, in the order of Reader.names. */
        int value(int first, int second, int third) {
            int top = 0;
            for (int code : codes) {
                if (code < SIGNS) {
                    if (top < stack.length) {
                        stack[top] = code < NAMES ? code : named(code - NAMES, first, second, third);
                        top++;
                    }
                } else if (code == SIGNS + '!') {
                    if (top > 0) {
                        stack[top - 1] = stack[top - 1] == 0 ? 1 : 0;
                    }
                } else if (top > 1) {
                    top--;
                    stack[top - 1] = joined(code - SIGNS, stack[top - 1], stack[top]);
                }
            }
            return top > 0 ? stack[top - 1] : 0;
        }

        private static int named(int name, int first, int second, int third) {
            return name == 0 ? first : name == 1 ? second : third;
        }

        private static int joined(int sign, int a, int b) {
            switch (sign) {
                case '|': return a != 0 || b != 0 ? 1 : 0;
                case '&': return a != 0 && b != 0 ? 1 : 0;
                case '<': return a < b ? 1 : 0;
                case '=': return a == b ? 1 : 0;
                case '>': return a > b ? 1 : 0;
                case '+': return a + b;
                case '-': return a - b;
                case '*': return a * b;
                default: return b == 0 ? 0 : a / b;
            }
        }
    }

    /** Reads THE TAPE as KEY E; what it has read last can be made a Law. */
    private static final class Reader {
        private static final int END = 0, LETTERS = 1, DIGITS = 2, SIGN = 3, WRONG = 4;
        private static final int DEEPEST = 8, TIGHTEST = 4, COMPARES = 2;
        private static final String KEY_WORDS = "sizegivefine";

        private final int[] codes = new int[MOST_BYTES];
        private int codeCount = 0;
        private int atoms = 0;
        private int key = 0;
        /** Those of THE TAPE; any row will do until one is read, so that it is never null. */
        private int[] bytes = codes;
        private int length = 0;
        /** The word or sign at hand: what it is, its first byte, the place behind it. */
        private int sort = END;
        private int start = 0;
        private int behindIt = 0;

        /** The place of the FAULT; -1: there is none. */
        int faultOf(Tape tape) {
            bytes = tape.bytes;
            length = Math.min(tape.length, bytes.length);
            codeCount = 0;
            atoms = 0;
            sort = END;
            behindIt = 0;
            next();
            key = keyAtHand();
            if (key < 0) {
                return start;
            }
            next();
            return level(0, 0, 0) && sort == END ? -1 : start;
        }

        Law lawNumbered(int number) {
            int[] its = new int[codeCount];
            System.arraycopy(codes, 0, its, 0, codeCount);
            return new Law(number, key, atoms, its);
        }

        private void next() {
            int wordEnd = sort == LETTERS || sort == DIGITS ? behindIt : -1;
            start = behindIt;
            while (start < length && bytes[start] == ' ') {
                start++;
            }
            behindIt = start;
            if (start >= length) {
                sort = END;
                return;
            }
            sort = sortOf(bytes[start]);
            behindIt++;
            if (sort == SIGN) {
                return;
            }
            while (behindIt < length && sortOf(bytes[behindIt]) == sort) {
                behindIt++;
            }
            if (start == wordEnd) {
                sort = WRONG;
            }
        }

        private static int sortOf(int one) {
            if (one >= 'a' && one <= 'z') {
                return LETTERS;
            }
            return one >= '0' && one <= '9' ? DIGITS : SIGN;
        }

        private int byteAtHand() {
            return start >= 0 && start < length ? bytes[start] : 0;
        }

        private boolean isSign(int wanted) {
            return sort == SIGN && byteAtHand() == wanted;
        }

        private int keyAtHand() {
            if (sort != LETTERS || behindIt - start != 4) {
                return -1;
            }
            for (int one = 0; one < KEYS; one++) {
                boolean same = true;
                for (int i = 0; i < 4; i++) {
                    same = same && bytes[start + i] == KEY_WORDS.charAt(4 * one + i);
                }
                if (same) {
                    return one;
                }
            }
            return -1;
        }

        private static String names(int key) {
            switch (key) {
                case KEY_SIZE: return "wl";
                case KEY_GIVE: return "wsd";
                default: return "wb";
            }
        }

        /** From 0, the loosest, to TIGHTEST; -1: the word or sign at hand joins nothing. */
        private int levelAtHand() {
            if (sort != SIGN) {
                return -1;
            }
            switch (byteAtHand()) {
                case '|': return 0;
                case '&': return 1;
                case '<':
                case '=':
                case '>': return COMPARES;
                case '+':
                case '-': return 3;
                case '*':
                case '/': return TIGHTEST;
                default: return -1;
            }
        }

        private void put(int code) {
            if (codeCount < MOST_BYTES) {
                codes[codeCount] = code;
                codeCount++;
            }
        }

        /** False: the word or sign at hand is the FAULT. */
        private boolean level(int tight, int parens, int bangs) {
            if (tight > TIGHTEST) {
                return piece(parens, bangs);
            }
            if (!level(tight + 1, parens, bangs)) {
                return false;
            }
            int most = tight == COMPARES ? 1 : MOST_BYTES;
            for (int i = 0; i < most && levelAtHand() == tight; i++) {
                int sign = byteAtHand();
                next();
                if (!level(tight + 1, parens, bangs)) {
                    return false;
                }
                put(Law.SIGNS + sign);
            }
            return true;
        }

        private boolean piece(int parens, int bangs) {
            int atom = atomAtHand();
            if (atom >= 0) {
                put(atom);
                atoms++;
                next();
                return true;
            }
            if (isSign('!') && bangs < DEEPEST) {
                next();
                if (!piece(parens, bangs + 1)) {
                    return false;
                }
                put(Law.SIGNS + '!');
                return true;
            }
            if (isSign('(') && parens < DEEPEST) {
                next();
                if (!level(0, parens + 1, bangs) || !isSign(')')) {
                    return false;
                }
                next();
                return true;
            }
            return false;
        }

        /** The code of the NUMBER or NAME at hand; -1: there is none. */
        private int atomAtHand() {
            int width = behindIt - start;
            if (sort == DIGITS && width <= 4) {
                int value = 0;
                for (int i = start; i < behindIt; i++) {
                    value = value * 10 + bytes[i] - '0';
                }
                return value;
            }
            if (sort == LETTERS && width == 1) {
                int which = names(key).indexOf((char) byteAtHand());
                return which < 0 ? -1 : Law.NAMES + which;
            }
            return -1;
        }
    }

    /** A SHEET; a place that is NO NUMBER holds NONE, which no number of a SHEET can be. */
    private static final class Sheet {
        final int[] numbers = new int[MOST_PLACES];
        int sort = MISSING;
        int places = 0;

        void become(int itsSort, int n) {
            sort = itsSort;
            places = n;
            for (int i = 0; i < MOST_PLACES; i++) {
                numbers[i] = 0;
            }
        }

        void take(Sheet other) {
            sort = other.sort;
            places = other.places;
            System.arraycopy(other.numbers, 0, numbers, 0, MOST_PLACES);
        }

        boolean has(int place) {
            return place >= 0 && place < places;
        }

        boolean hasMany(int place, int many) {
            return place >= 0 && many >= 0 && many <= places && place <= places - many;
        }
    }

    /** A SLOT; the YARD, the SHEET and the number each count only if holds says so. */
    private static final class Slot {
        final Sheet row = new Sheet();
        int holds = HOLDS_NOTHING;
        int kind = YARD;
        int snow = 0;
        int gate = 0;
        int number = 0;

        void takeYard(Ring ring, int yard) {
            if (ring.has(yard)) {
                kind = ring.kinds[yard];
                snow = ring.snow[yard];
                gate = ring.gates[yard];
            }
        }
    }
}
