import java.io.IOException;
import java.lang.reflect.Constructor;
import java.lang.reflect.Field;
import java.lang.reflect.Method;
import java.lang.reflect.Modifier;
import java.nio.file.Files;
import java.nio.file.Path;
import java.util.ArrayList;
import java.util.LinkedHashMap;
import java.util.List;
import java.util.Map;
import java.util.Set;
import java.util.TreeSet;
import java.util.regex.Matcher;
import java.util.regex.Pattern;

/** The public face of the document, and the rules of LANGUAGE.md that can be seen from outside. */
public final class LanguageTest {
    private static final Path SOURCE = Path.of("src/main/java/SnowOwed.java");
    private static final String FACE = "yard/3 told/2 as/2 turns/2 set/3 deal/1 seed/1 rule/2 at/1 ball/1 layer/2 pack/2"
        + " lose/1 find/1 thing/1 days/1 behind/2 gone/0 way/2 most/0 warmed/2 fine/1 feed/3 trim/1 text/0 textTold/2 why/1"
        + " sheet/3 mark/3 pour/1 reads/1 copy/5 lay/3 ask/2 item/2 rest/2 tell/1 check/1 keep/0 back/0 count/1";
    private static final String CONSTANTS = "BAD NO FULL NONE NOTHING KIND INDEX SIZE";

    public static void main(String[] args) throws IOException {
        face();
        constants();
        classesInside();
        source(Files.readString(SOURCE));
        Due.end();
    }

    private static void face() {
        Class<?> c = SnowOwed.class;
        Due.isTrue("public and final", Modifier.isPublic(c.getModifiers()) && Modifier.isFinal(c.getModifiers()));
        Set<String> due = new TreeSet<>(List.of(FACE.split(" ")));
        Set<String> names = new TreeSet<>();
        Set<String> found = new TreeSet<>();
        for (Method m : c.getDeclaredMethods()) {
            if (!Modifier.isPrivate(m.getModifiers())) {
                Due.isTrue(m + " is public, not static, answers int", Modifier.isPublic(m.getModifiers())
                    && !Modifier.isStatic(m.getModifiers()) && m.getReturnType() == int.class);
                for (Class<?> p : m.getParameterTypes()) {
                    Due.isTrue(m + " takes ints", p == int.class);
                }
                found.add(m.getName() + "/" + m.getParameterCount());
                names.add(m.getName());
            }
        }
        Due.isTrue("methods are " + found, found.equals(due));
        for (Method m : c.getDeclaredMethods()) {
            boolean secret = Modifier.isPrivate(m.getModifiers());
            Due.isTrue(m + " has a name of its own", !secret || !names.contains(m.getName()));
        }
        Constructor<?>[] made = c.getDeclaredConstructors();
        Due.due("constructors", made.length, 1);
        Due.isTrue("public, without arguments", Modifier.isPublic(made[0].getModifiers()) && made[0].getParameterCount() == 0);
    }

    private static void constants() {
        Set<String> found = new TreeSet<>();
        for (Field f : SnowOwed.class.getDeclaredFields()) {
            if (!Modifier.isPrivate(f.getModifiers())) {
                int m = f.getModifiers();
                Due.isTrue(f + " is a constant", Modifier.isPublic(m) && Modifier.isStatic(m) && Modifier.isFinal(m)
                    && f.getType() == int.class);
                found.add(f.getName());
            }
        }
        Due.isTrue("constants are " + found, found.equals(new TreeSet<>(List.of(CONSTANTS.split(" ")))));
        int[] got = {SnowOwed.BAD, SnowOwed.NO, SnowOwed.FULL, SnowOwed.NONE, SnowOwed.NOTHING, SnowOwed.KIND,
            SnowOwed.INDEX, SnowOwed.SIZE};
        int[] due = {Due.BAD, Due.NO, Due.FULL, Due.NONE, Due.NOTHING, Due.KIND, Due.INDEX, Due.SIZE};
        for (int i = 0; i < due.length; i++) {
            Due.due("constant " + i, got[i], due[i]);
        }
    }

    private static void classesInside() {
        List<Class<?>> all = new ArrayList<>(List.of(SnowOwed.class.getDeclaredClasses()));
        Due.isTrue("twelve classes at most", all.size() < 12);
        for (Class<?> c : all) {
            int m = c.getModifiers();
            Due.isTrue(c + " is static, and private or package-visible", Modifier.isStatic(m) && !Modifier.isPublic(m)
                && !Modifier.isProtected(m));
            Due.due("classes inside " + c, c.getDeclaredClasses().length, 0);
        }
        all.add(SnowOwed.class);
        for (Class<?> c : all) {
            int fields = 0;
            for (Field f : c.getDeclaredFields()) {
                boolean constant = Modifier.isStatic(f.getModifiers());
                Due.isTrue(f + ": static fields are final", !constant || Modifier.isFinal(f.getModifiers()));
                fields += constant ? 0 : 1;
            }
            Due.isTrue(c + " has twenty fields at most", fields <= 20);
            for (Method m : c.getDeclaredMethods()) {
                Due.isTrue(m + " takes seven at most", m.getParameterCount() <= 7);
            }
        }
    }

    private static void source(String text) {
        String bare = text.replaceAll("(?s)/\\*.*?\\*/", "").replaceAll("//[^\n]*", "")
            .replaceAll("\"[^\"\n]*\"", "\"\"").replaceAll("'[^'\n]+'", "' '");
        String[] forbidden = {"\\bthrows?\\b", "\\btry\\b", "\\bcatch\\b", "\\bsynchronized\\b", "\\bassert\\b", "->", "::",
            "\\bpackage\\b", "Exact\\b", "\\bSystem\\.(?!arraycopy\\b)", "\\bstatic\\s*\\{", "\\bThread\\b", "\\bObject\\b",
            "\\bRandom\\b", "\\bvolatile\\b", "\\bvar\\b", "\\bnative\\b", "\\.(hashCode|toString|getClass)\\b",
            "\\)\\s*\\{\\s*@"};
        for (String f : forbidden) {
            Matcher m = Pattern.compile(f).matcher(bare);
            Due.isTrue("without " + f, !m.find());
        }
        Matcher imports = Pattern.compile("import\\s+([^;]+);").matcher(bare);
        Set<String> free = Set.of("java.util.ArrayList", "java.util.List", "java.util.Arrays", "java.util.Iterator");
        while (imports.find()) {
            Due.isTrue("import " + imports.group(1), free.contains(imports.group(1)));
        }
        for (char c : text.toCharArray()) {
            if (c > 126) {
                Due.isTrue("plain signs alone", false);
            }
        }
        methodsAreShort(bare);
        recursionIsPrivate(bare);
    }

    /** By its first line, the lines of each method: it ends where a brace stands in as deep as that line. */
    private static Map<String, String> methods(String bare) {
        Map<String, String> all = new LinkedHashMap<>();
        String[] lines = bare.split("\n");
        Pattern head = Pattern.compile("^( {4}| {8})[a-zA-Z][^;=]*\\) \\{$");
        for (int i = 0; i < lines.length; i++) {
            Matcher m = head.matcher(lines[i]);
            if (m.find()) {
                StringBuilder body = new StringBuilder();
                for (int k = i + 1; k < lines.length && !lines[k].equals(m.group(1) + "}"); k++) {
                    body.append(lines[k]).append('\n');
                }
                all.put(i + " " + lines[i].trim(), body.toString());
            }
        }
        return all;
    }

    private static void methodsAreShort(String bare) {
        Map<String, String> all = methods(bare);
        all.forEach((head, body) -> Due.isTrue("sixty lines at most: " + head, body.split("\n").length < 60));
        Due.isTrue("methods were seen", all.size() > 60);
    }

    /** Rule 8: what calls itself is private, and static unless it and another one call each other. */
    private static void recursionIsPrivate(String bare) {
        Map<String, String> all = methods(bare);
        int seen = 0;
        for (String one : all.keySet()) {
            if (!calls(all.get(one), one)) {
                continue;
            }
            seen++;
            boolean withAnother = all.keySet().stream().anyMatch(other -> !other.equals(one)
                && other.contains(" private ") && calls(all.get(one), other) && calls(all.get(other), one));
            Due.isTrue("rule 8: " + one, one.contains(" private static ") || one.contains(" private ") && withAnother);
        }
        Due.isTrue("methods that call themselves were seen", seen > 0);
    }

    private static boolean calls(String body, String head) {
        String name = head.substring(0, head.indexOf('(')).replaceAll(".* ", "");
        return Pattern.compile("(?<![\\w.])" + name + "\\(").matcher(body).find();
    }
}
