/-! ===== the two parsers go together ===== -/
def hdR (n : Nat) (ws : List Int32) : Prop := ∀ w, ws.head? = some w → w = -11 ∨ rk w ≤ n
def opsP (n : Nat) (P : List Int32) : Prop := ∀ w, w ∈ P → ¬ w = -11 ∧ ¬ w = -10 ∧ n ≤ rk w
theorem stl_pop {n : Nat} {ws : List Int32} (hd : ∀ w, ws.head? = some w → w = -11 ∨ ¬ n ≤ rk w) : ∀ (P cs : List Int32), (∀ w, w ∈ P → ¬ w = -11 ∧ n ≤ rk w) → stl n (P ++ ws) cs = (ws, P.reverse ++ cs) := by
  intro P
  induction P with
  | nil =>
    intro cs _
    cases ws with
    | nil => rfl
    | cons w ws =>
      have := hd w rfl
      rw [List.nil_append, stl, if_neg (fun z => this.elim z.1 (fun q => q z.2))]
      rfl
  | cons w P ih =>
    intro cs h
    rw [List.cons_append, stl, if_pos (h w List.mem_cons_self), ih (w :: cs) (fun x hx => h x (List.mem_cons_of_mem _ hx)), List.reverse_cons, List.append_assoc]
    rfl
theorem stl_rep {k : Nat} {ws cs : List Int32} (hd : hdR 5 ws) : stl 6 (List.replicate k (-10) ++ ws) cs = (ws, List.replicate k (-10) ++ cs) := by
  rw [stl_pop (fun w hw => (hd w hw).imp id (fun z => by omega)) _ _ (fun w hw => by rw [List.eq_of_mem_replicate hw]; decide), List.reverse_replicate]
theorem nt_app : ∀ (P ws : List Int32), ntC (P ++ ws) = ntC P + ntC ws
  | [], ws => by rw [List.nil_append, ntC, Nat.zero_add]
  | w :: P, ws => by rw [List.cons_append, ntC, ntC, nt_app P ws]; omega
theorem nt_ops {n : Nat} : ∀ (P : List Int32), opsP n P → ntC P = 0
  | [], _ => rfl
  | w :: P, h => by rw [ntC, nt_ops P (fun x hx => h x (List.mem_cons_of_mem _ hx)), if_neg (h w List.mem_cons_self).2.1]
theorem nt_rep : ∀ k : Nat, ntC (List.replicate k (-10)) = k
  | 0 => rfl
  | k + 1 => by rw [List.replicate_succ, ntC, nt_rep k, if_pos rfl]
section LP
variable {t : Ar} {L key : Nat} {ts : TS} {cs ws : List Int32} {a p no g : Nat} {te : Nat → Bool}
theorem lp_not (h : ts.1 = 3 ∧ t ts.2.1 = 33) (h2 : no < 8) : lp t L key (1 + g) ts cs a ws p no true te = lp t L key g (nxT t L ts) cs a (-10 :: ws) p (ntC (-10 :: ws)) true te := by
  rw [Nat.add_comm 1 g, lp, if_pos rfl, if_pos ⟨h, h2⟩]
theorem lp_open (h : ts.1 = 3 ∧ t ts.2.1 = 40) (h2 : p < 8) : lp t L key (1 + g) ts cs a ws p no true te = lp t L key g (nxT t L ts) cs a (-11 :: ws) (p + 1) (ntC (-11 :: ws)) true (upB te (p + 1) false) := by
  rw [Nat.add_comm 1 g, lp, if_pos rfl, if_neg (fun z => absurd (z.1.2.symm.trans h.2) (by decide)), if_pos ⟨h, h2⟩]
theorem lp_at (hw : TW t L ts) (h : 0 ≤ atF t key ts) : lp t L key (1 + g) ts cs a ws p no true te = lp t L key g (nxT t L ts) (stl 6 ws (atF t key ts :: cs)).2 (a + 1) (stl 6 ws (atF t key ts :: cs)).1 p (ntC (stl 6 ws (atF t key ts :: cs)).1) false te := by
  have h1 := (at_ok hw h).1
  rw [Nat.add_comm 1 g, lp, if_pos rfl, if_neg (fun z => by omega), if_neg (fun z => by omega), if_pos h]
theorem lp_f1 (h1 : ¬ ((ts.1 = 3 ∧ t ts.2.1 = 33) ∧ no < 8)) (h2 : ¬ ((ts.1 = 3 ∧ t ts.2.1 = 40) ∧ p < 8)) (h3 : ¬ 0 ≤ atF t key ts) : lp t L key (0 + 1 + g) ts cs a ws p no true te = (false, ts, cs, a) := by
  rw [show 0 + 1 + g = g + 1 by omega, lp, if_pos rfl, if_neg h1, if_neg h2, if_neg h3]
theorem lp_end (h : ts.1 = 0) : lp t L key (0 + 1 + g) ts cs a ws p no false te = (decide (p = 0), ts, (stl 0 ws cs).2, a) := by
  rw [show 0 + 1 + g = g + 1 by omega, lp, if_neg (by decide), if_pos h]
theorem lp_close (h : ts.1 = 3 ∧ t ts.2.1 = 41) (hp : 0 < p) : lp t L key (1 + g) ts cs a ws p no false te = lp t L key g (nxT t L ts) (stl 6 (stl 0 ws cs).1.tail (stl 0 ws cs).2).2 a (stl 6 (stl 0 ws cs).1.tail (stl 0 ws cs).2).1 (p - 1) (ntC (stl 6 (stl 0 ws cs).1.tail (stl 0 ws cs).2).1) false te := by
  rw [Nat.add_comm 1 g, lp, if_neg (by decide), if_neg (by omega), if_pos ⟨h, hp⟩]
theorem lp_bad (h0 : ¬ ts.1 = 0) (h1 : ¬ ((ts.1 = 3 ∧ t ts.2.1 = 41) ∧ 0 < p)) (h2 : ¬ ts.1 = 3 ∨ sgB (t ts.2.1) = 0 ∨ (rk (sgB (t ts.2.1)) = 3 ∧ te p = true)) : lp t L key (0 + 1 + g) ts cs a ws p no false te = (false, ts, cs, a) := by
  rw [show 0 + 1 + g = g + 1 by omega, lp, if_neg (by decide), if_neg h0, if_neg h1, if_pos h2]
theorem lp_op (h1 : ¬ ((ts.1 = 3 ∧ t ts.2.1 = 41) ∧ 0 < p)) (h3 : ts.1 = 3) (h2 : ¬ (¬ ts.1 = 3 ∨ sgB (t ts.2.1) = 0 ∨ (rk (sgB (t ts.2.1)) = 3 ∧ te p = true))) : lp t L key (1 + g) ts cs a ws p no false te = lp t L key g (nxT t L ts) (stl (rk (sgB (t ts.2.1))) ws cs).2 a (sgB (t ts.2.1) :: (stl (rk (sgB (t ts.2.1))) ws cs).1) p no true (upB te p (teN te p (rk (sgB (t ts.2.1))))) := by
  rw [Nat.add_comm 1 g, lp, if_neg (by decide), if_neg (by omega), if_neg h1, if_neg h2]
end LP
/-- what stands behind a level -/
def look (t : Ar) (tt : Nat) (te : Bool) (ts : TS) : Prop := lvT t ts = 9 ∨ lvT t ts < tt ∨ (lvT t ts = 2 ∧ tt ≤ 2 ∧ te = true)
theorem look_bad {t : Ar} {p : Nat} {te : Nat → Bool} {ts : TS} (h : look t 0 (te p) ts) : ¬ ts.1 = 3 ∨ sgB (t ts.2.1) = 0 ∨ (rk (sgB (t ts.2.1)) = 3 ∧ te p = true) := by
  by_cases c : ts.1 = 3
  · refine Or.inr ?_
    rcases h with h | h | h
    · rcases lv_sg (t ts.2.1) with q | q
      · exact Or.inl q.2
      · unfold lvT at h; rw [if_pos c] at h; omega
    · omega
    · exact Or.inr ⟨(lvT_3 h.1 (by decide)).2.2.1, h.2.2⟩
  · exact Or.inl c
/-- the loop fails at ts' -/
def LpF (t : Ar) (L key : Nat) (ts : TS) (cs : List Int32) (a : Nat) (ws : List Int32) (p no : Nat) (wa : Bool) (te : Nat → Bool) (ts' : TS) : Prop := ∃ n c' a', ∀ g, lp t L key (n + 1 + g) ts cs a ws p no wa te = (false, ts', c', a')
/-- the loop comes behind a level -/
def LpS (t : Ar) (L key tt : Nat) (ts : TS) (cs : List Int32) (a : Nat) (ws0 : List Int32) (wa : Bool) (te : Nat → Bool) (ws : List Int32) (p : Nat) (r : PS) : Prop :=
  ∃ n P c te', opsP (tt + 1) P ∧ r.2.1 = P.reverse ++ c ∧ (∀ j, j < p → te' j = te j) ∧ (3 ≤ tt → te' p = te p) ∧ look t tt (te' p) r.1 ∧ ∀ g, lp t L key (n + g) ts cs a ws0 p (ntC ws) wa te = lp t L key g r.1 c r.2.2 (P ++ ws) p (ntC ws) false te'
def Sm5 (t : Ar) (L key f : Nat) : Prop := ∀ p b k w0 ts cs a te r, b = k + ntC w0 → hdR 5 w0 → TW t L ts → ev t L key f 5 0 p b (ts, cs, a) = r →
  (r.1 = 1 → ∃ n te', (∀ j, j ≤ p → te' j = te j) ∧ ∀ g, lp t L key (n + g) ts cs a (List.replicate k (-10) ++ w0) p b true te = lp t L key g r.2.1 (List.replicate k (-10) ++ r.2.2.1) r.2.2.2 w0 p (ntC w0) false te') ∧
  (r.1 = 0 → LpF t L key ts cs a (List.replicate k (-10) ++ w0) p b true te r.2.1)
def Sm0 (t : Ar) (L key f : Nat) : Prop := ∀ tt p ws ts cs a te r, tt ≤ 4 → hdR tt ws → (tt ≤ 2 → te p = false) → TW t L ts → ev t L key f tt 0 p (ntC ws) (ts, cs, a) = r →
  (r.1 = 1 → LpS t L key tt ts cs a ws true te ws p r.2) ∧ (r.1 = 0 → LpF t L key ts cs a ws p (ntC ws) true te r.2.1)
def Sm1 (t : Ar) (L key f : Nat) : Prop := ∀ tt i p ws P ts c a te r, tt ≤ 4 → hdR tt ws → opsP (tt + 1) P → (lvT t ts = 9 ∨ lvT t ts ≤ tt ∨ (lvT t ts = 2 ∧ tt ≤ 2 ∧ te p = true)) → (tt = 2 → (te p = true ↔ 0 < i)) → i ≤ ts.2.1 → TW t L ts → ev t L key f tt (i + 1) p (ntC ws) (ts, P.reverse ++ c, a) = r →
  (r.1 = 1 → LpS t L key tt ts c a (P ++ ws) false te ws p r.2) ∧ (r.1 = 0 → LpF t L key ts c a (P ++ ws) p (ntC ws) false te r.2.1)
theorem LpF.pre {t : Ar} {L key : Nat} {ts ts1 ts' : TS} {cs c1 ws w1 : List Int32} {a a1 p p1 no no1 n : Nat} {wa wa1 : Bool} {te te1 : Nat → Bool} (h : LpF t L key ts1 c1 a1 w1 p1 no1 wa1 te1 ts') (e : ∀ g, lp t L key (n + g) ts cs a ws p no wa te = lp t L key g ts1 c1 a1 w1 p1 no1 wa1 te1) : LpF t L key ts cs a ws p no wa te ts' := by
  obtain ⟨m, c', a', hm⟩ := h
  exact ⟨n + m, c', a', fun g => by rw [show n + m + 1 + g = n + (m + 1 + g) by omega, e, hm]⟩
theorem LpS.pre {t : Ar} {L key tt : Nat} {ts ts1 : TS} {cs c1 ws0 w1 ws : List Int32} {a a1 p n : Nat} {wa wa1 : Bool} {te te1 : Nat → Bool} {r : PS} (h : LpS t L key tt ts1 c1 a1 w1 wa1 te1 ws p r) (e : ∀ g, lp t L key (n + g) ts cs a ws0 p (ntC ws) wa te = lp t L key g ts1 c1 a1 w1 p (ntC ws) wa1 te1) (h1 : ∀ j, j < p → te1 j = te j) (h2 : 3 ≤ tt → te1 p = te p) : LpS t L key tt ts cs a ws0 wa te ws p r := by
  obtain ⟨m, P, c, te', a1, a2, a3, a4, a5, a6⟩ := h
  exact ⟨n + m, P, c, te', a1, a2, fun j hj => (a3 j hj).trans (h1 j hj), fun z => (a4 z).trans (h2 z), a5, fun g => by rw [Nat.add_assoc, e, a6]⟩
/-- an operand of a level -/
theorem sm_arg {t : Ar} {L key f : Nat} (h5 : Sm5 t L key f) (h0 : Sm0 t L key f) {tt p : Nat} {ws : List Int32} {ts : TS} {cs : List Int32} {a : Nat} {te : Nat → Bool} {r : Nat × PS} (ht : tt ≤ 5) (hh : hdR tt ws) (hte : tt ≤ 2 → te p = false) (hw : TW t L ts) (hr : ev t L key f tt 0 p (ntC ws) (ts, cs, a) = r) :
    (r.1 = 1 → LpS t L key tt ts cs a ws true te ws p r.2) ∧ (r.1 = 0 → LpF t L key ts cs a ws p (ntC ws) true te r.2.1) := by
  by_cases c : tt = 5
  · subst c
    obtain ⟨q1, q2⟩ := h5 p (ntC ws) 0 ws ts cs a te r (by omega) hh hw hr
    refine ⟨fun z => ?_, fun z => q2 z⟩
    obtain ⟨n, te', e1, e2⟩ := q1 z
    refine ⟨n, [], r.2.2.1, te', (fun w hw => by cases hw), rfl, fun j hj => e1 j (by omega), fun _ => e1 p (Nat.le_refl _), ?_, e2⟩
    unfold look lvT
    by_cases c3 : r.2.1.1 = 3
    · rw [if_pos c3]
      rcases lv_sg (t r.2.1.2.1) with q | q
      · exact Or.inl q.1
      · exact Or.inr (Or.inl (by omega))
    · rw [if_neg c3]; exact Or.inl rfl
  · exact h0 tt p ws ts cs a te r (by omega) hh hte hw hr
theorem sim {t : Ar} {L key : Nat} (hL : L ≤ 96) : ∀ f, Sm5 t L key f ∧ Sm0 t L key f ∧ Sm1 t L key f := by
  intro f
  induction f with
  | zero =>
    refine ⟨fun p b k w0 ts cs a te r _ _ _ hr => ?_, fun tt p ws ts cs a te r _ _ _ _ hr => ?_, fun tt i p ws P ts c a te r _ _ _ _ _ _ _ hr => ?_⟩ <;> subst hr <;> exact ⟨(fun z => by cases z), fun z => by cases z⟩
  | succ f ih =>
    obtain ⟨h5, h0, h1⟩ := ih
    refine ⟨?_, ?_, ?_⟩
    · intro p b k w0 ts cs a te r hb hd hw hr
      rw [ev, if_pos rfl] at hr
      by_cases c1 : 0 ≤ atF t key ts
      · rw [if_pos c1] at hr
        subst hr
        refine ⟨fun _ => ⟨1, te, fun _ _ => rfl, fun g => ?_⟩, fun z => by cases z⟩
        rw [lp_at hw c1, stl_rep hd]
      · rw [if_neg c1] at hr
        by_cases c2 : (ts.1 = 3 ∧ t ts.2.1 = 33) ∧ b < 8
        · rw [if_pos c2] at hr
          have hr1 := h5 p (b + 1) (k + 1) w0 (nxT t L ts) cs a te _ (by omega) hd hw.nx rfl
          have e0 : ∀ g, lp t L key (1 + g) ts cs a (List.replicate k (-10) ++ w0) p b true te = lp t L key g (nxT t L ts) cs a (List.replicate (k + 1) (-10) ++ w0) p (b + 1) true te := by
            intro g
            rw [lp_not c2.1 c2.2, List.replicate_succ, List.cons_append, ntC, nt_app, nt_rep, if_pos rfl, hb]
          generalize ev t L key f 5 0 p (b + 1) (nxT t L ts, cs, a) = r1 at hr hr1
          unfold afN at hr
          by_cases q : r1.1 = 1
          · rw [if_pos q] at hr
            subst hr
            refine ⟨fun _ => ?_, fun z => by cases z⟩
            obtain ⟨n, te', e1, e2⟩ := hr1.1 q
            refine ⟨1 + n, te', e1, fun g => ?_⟩
            rw [Nat.add_assoc, e0, e2, List.replicate_succ', List.append_assoc]
            rfl
          · rw [if_neg q] at hr
            subst hr
            exact ⟨fun z => absurd z q, fun z => (hr1.2 z).pre e0⟩
        · rw [if_neg c2] at hr
          by_cases c3 : (ts.1 = 3 ∧ t ts.2.1 = 40) ∧ p < 8
          · rw [if_pos c3] at hr
            have en : ntC (-11 :: (List.replicate k (-10) ++ w0)) = b := by rw [ntC, nt_app, nt_rep, if_neg (by decide), hb]; rfl
            have hr1 := h0 0 (p + 1) (-11 :: (List.replicate k (-10) ++ w0)) (nxT t L ts) cs a (upB te (p + 1) false) _ (by decide) (fun w hw => by cases hw; exact Or.inl rfl) (fun _ => if_pos rfl) hw.nx rfl
            rw [en] at hr1
            have e0 : ∀ g, lp t L key (1 + g) ts cs a (List.replicate k (-10) ++ w0) p b true te = lp t L key g (nxT t L ts) cs a (-11 :: (List.replicate k (-10) ++ w0)) (p + 1) b true (upB te (p + 1) false) := by
              intro g
              rw [lp_open c3.1 c3.2, en]
            have hA := evA (t := t) (L := L) (key := key) f 0 0 (p + 1) b (nxT t L ts, cs, a) (by decide) hw.nx
            generalize ev t L key f 0 0 (p + 1) b (nxT t L ts, cs, a) = r1 at hr hr1 hA
            unfold afP at hr
            by_cases q : r1.1 = 1
            · rw [if_pos q] at hr
              obtain ⟨n, P, c, te', g1, g2, g3, g4, g5, g6⟩ := hr1.1 q
              rw [en] at g6
              have g2' : r1.2.2.1 = P.reverse ++ c := g2
              by_cases q2 : r1.2.1.1 = 3 ∧ t r1.2.1.2.1 = 41
              · rw [if_pos q2] at hr
                subst hr
                refine ⟨fun _ => ⟨1 + n + 1, te', fun j hj => (g3 j (by omega)).trans (if_neg (by omega)), fun g => ?_⟩, fun z => by cases z⟩
                have es : stl 0 (P ++ -11 :: (List.replicate k (-10) ++ w0)) c = (-11 :: (List.replicate k (-10) ++ w0), P.reverse ++ c) := stl_pop (fun w hw => by cases hw; exact Or.inl rfl) P c (fun w hw => ⟨(g1 w hw).1, Nat.zero_le _⟩)
                rw [show 1 + n + 1 + g = 1 + (n + (1 + g)) by omega, e0, g6, lp_close q2 (by omega), es, List.tail_cons, stl_rep hd, ← g2', Nat.add_sub_cancel]
              · rw [if_neg q2] at hr
                subst hr
                refine ⟨(fun z => by cases z), fun _ => ?_⟩
                have e1 : ∀ g, lp t L key (1 + n + g) ts cs a (List.replicate k (-10) ++ w0) p b true te = lp t L key g r1.2.1 c r1.2.2.2 (P ++ -11 :: (List.replicate k (-10) ++ w0)) (p + 1) b false te' := fun g => by rw [Nat.add_assoc, e0, g6]
                refine LpF.pre ?_ e1
                by_cases q3 : r1.2.1.1 = 0
                · exact ⟨0, _, _, fun g => by rw [lp_end q3, decide_eq_false (by omega)]⟩
                · exact ⟨0, _, _, fun g => lp_bad q3 (fun z => q2 z.1) (look_bad g5)⟩
            · rw [if_neg q] at hr
              subst hr
              exact ⟨fun z => absurd z q, fun z => (hr1.2 z).pre e0⟩
          · rw [if_neg c3] at hr
            subst hr
            exact ⟨(fun z => by cases z), fun _ => ⟨0, _, _, fun g => lp_f1 c2 c3 c1⟩⟩
    · intro tt p ws ts cs a te r ht hh hte hw hr
      rw [ev, if_neg (by omega), if_pos rfl] at hr
      have hr1 := sm_arg h5 h0 (tt := tt + 1) (p := p) (ws := ws) (ts := ts) (cs := cs) (a := a) (te := te) (by omega) (fun w hw => (hh w hw).imp id (fun z => by omega)) (fun z => hte (by omega)) hw rfl
      have hA := evA (t := t) (L := L) (key := key) f (tt + 1) 0 p (ntC ws) (ts, cs, a) (by omega) hw
      generalize ev t L key f (tt + 1) 0 p (ntC ws) (ts, cs, a) = r1 at hr hr1 hA
      by_cases q : r1.1 = 1
      · rw [if_pos q] at hr
        obtain ⟨n, P, c, te', g1, g2, g3, g4, g5, g6⟩ := hr1.1 q
        have hw1 := (hA q).1
        have hr' : ev t L key f tt (0 + 1) p (ntC ws) (r1.2.1, P.reverse ++ c, r1.2.2.2) = r := by rw [← g2]; exact hr
        have k := h1 tt 0 p ws P r1.2.1 c r1.2.2.2 te' r ht hh (fun w hw => ⟨(g1 w hw).1, (g1 w hw).2.1, by have := (g1 w hw).2.2; omega⟩) (g5.imp id (fun z => z.imp (fun z => by omega) (fun z => ⟨z.1, by omega, z.2.2⟩))) (fun z => by rw [g4 (by omega), hte (by omega)]; exact ⟨(fun y => by cases y), fun y => by cases y⟩) (Nat.zero_le _) hw1 hr'
        exact ⟨fun z => (k.1 z).pre g6 g3 (fun z => g4 (by omega)), fun z => (k.2 z).pre g6⟩
      · rw [if_neg q] at hr
        subst hr
        exact ⟨fun z => absurd z q, hr1.2⟩
    · intro tt i p ws P ts c a te r ht hh hP hlk hcm hi hw hr
      rw [ev, if_neg (by omega), if_neg (by omega), Nat.add_sub_cancel] at hr
      by_cases c1 : i < most tt ∧ lvT t ts = tt
      · rw [if_pos c1] at hr
        obtain ⟨k1, k2, k3, k4, k5, k6, k7⟩ := lvT_3 c1.2 ht
        have n41 : ¬ t ts.2.1 = 41 := fun z => by rw [z] at k2; have : lvB 41 = 9 := by decide
                                                  omega
        have nte : ¬ (rk (sgB (t ts.2.1)) = 3 ∧ te p = true) := by
          rintro ⟨z1, z2⟩
          have e2 : tt = 2 := by omega
          have := (hcm e2).mp z2
          have hm := c1.1
          rw [e2] at hm
          have : most 2 = 1 := rfl
          omega
        have es : stl (tt + 1) (P ++ ws) c = (ws, P.reverse ++ c) := stl_pop (fun w hw => (hh w hw).imp id (fun z => by omega)) P c (fun w hw => ⟨(hP w hw).1, (hP w hw).2.2⟩)
        have e0 : ∀ g, lp t L key (1 + g) ts c a (P ++ ws) p (ntC ws) false te = lp t L key g (nxT t L ts) (P.reverse ++ c) a (sgB (t ts.2.1) :: ws) p (ntC ws) true (upB te p (teN te p (tt + 1))) := by
          intro g
          rw [lp_op (fun z => n41 z.1.2) k1 (fun z => z.elim (fun y => y k1) (fun y => y.elim k5 nte)), k3, es]
        have en : ntC (sgB (t ts.2.1) :: ws) = ntC ws := by rw [ntC, if_neg k6]; rfl
        have hr1 := sm_arg h5 h0 (tt := tt + 1) (p := p) (ws := sgB (t ts.2.1) :: ws) (ts := nxT t L ts) (cs := P.reverse ++ c) (a := a) (te := upB te p (teN te p (tt + 1))) (by omega) (fun w hw => by cases hw; exact Or.inr (by omega)) (fun z => by unfold upB teN; rw [if_pos rfl, decide_eq_false (show ¬ tt + 1 = 3 by omega), decide_eq_false (show ¬ 3 < tt + 1 by omega)]; rfl) hw.nx rfl
        rw [en] at hr1
        have hA := evA (t := t) (L := L) (key := key) f (tt + 1) 0 p (ntC ws) (nxT t L ts, P.reverse ++ c, a) (by omega) hw.nx
        rw [show decide (tt + 1 = 5 ∨ 0 = 0) = true from decide_eq_true (Or.inr rfl)] at hA
        generalize ev t L key f (tt + 1) 0 p (ntC ws) (nxT t L ts, P.reverse ++ c, a) = r1 at hr hr1 hA
        by_cases q : r1.1 = 1
        · rw [if_pos q] at hr
          obtain ⟨n, P1, c2, te2, g1, g2, g3, g4, g5, g6⟩ := hr1.1 q
          rw [en] at g6
          obtain ⟨w1, -, -, w4, -⟩ := hA q
          have w4' : (nxT t L ts).2.1 < r1.2.1.2.1 := w4 rfl
          have hlt := hw.lt (by omega)
          have hr' : ev t L key f tt (i + 1 + 1) p (ntC ws) (r1.2.1, (P1 ++ [sgB (t ts.2.1)]).reverse ++ c2, r1.2.2.2) = r := by
            rw [List.reverse_append]
            show ev t L key f tt (i + 1 + 1) p (ntC ws) (r1.2.1, sgB (t ts.2.1) :: (P1.reverse ++ c2), r1.2.2.2) = r
            rw [← g2]; exact hr
          have k := h1 tt (i + 1) p ws (P1 ++ [sgB (t ts.2.1)]) r1.2.1 c2 r1.2.2.2 te2 r ht hh (fun w hw => by
              rcases List.mem_append.mp hw with z | z
              · exact ⟨(g1 w z).1, (g1 w z).2.1, by have := (g1 w z).2.2; omega⟩
              · rw [List.mem_singleton.mp z]; exact ⟨k7, k6, by omega⟩) (g5.imp id (fun z => z.imp (fun z => by omega) (fun z => ⟨z.1, by omega, z.2.2⟩)))
            (fun z => by rw [g4 (by omega)]; unfold upB teN; rw [if_pos rfl, z]; exact ⟨fun _ => by omega, fun _ => rfl⟩) (by omega) w1 hr'
          rw [List.append_assoc] at k
          have e1 : ∀ g, lp t L key (1 + n + g) ts c a (P ++ ws) p (ntC ws) false te = lp t L key g r1.2.1 c2 r1.2.2.2 (P1 ++ ([sgB (t ts.2.1)] ++ ws)) p (ntC ws) false te2 := fun g => by rw [Nat.add_assoc, e0, g6]; rfl
          exact ⟨fun z => (k.1 z).pre e1 (fun j hj => (g3 j hj).trans (if_neg (by omega))) (fun z => by rw [g4 (by omega)]; unfold upB teN; rw [if_pos rfl, decide_eq_false (show ¬ tt + 1 = 3 by omega), decide_eq_true (show 3 < tt + 1 by omega)]; rfl), fun z => (k.2 z).pre e1⟩
        · rw [if_neg q] at hr
          subst hr
          exact ⟨fun z => absurd z q, fun z => (hr1.2 z).pre e0⟩
      · rw [if_neg c1] at hr
        subst hr
        refine ⟨fun _ => ⟨0, P, c, te, hP, rfl, fun _ _ => rfl, fun _ => rfl, ?_, fun g => by rw [Nat.zero_add]⟩, fun z => by cases z⟩
        rcases hlk with z | z | z
        · exact Or.inl z
        · by_cases e : lvT t ts = tt
          · have hm : ¬ i < most tt := fun y => c1 ⟨y, e⟩
            by_cases e2 : tt = 2
            · rw [e2] at hm
              have : most 2 = 1 := rfl
              exact Or.inr (Or.inr ⟨by show lvT t ts = 2; omega, by omega, (hcm e2).mpr (by omega)⟩)
            · have := hw.fL (by have := (lvT_3 e ht).1; omega)
              unfold most at hm
              rw [if_neg e2] at hm
              omega
          · exact Or.inr (Or.inl (by show lvT t ts < tt; omega))
        · exact Or.inr (Or.inr z)
theorem sim_top {t : Ar} {L key f : Nat} {ts : TS} {te : Nat → Bool} {r : Nat × PS} (hL : L ≤ 96) (hw : TW t L ts) (h0 : te 0 = false) (hr : ev t L key f 0 0 0 0 (ts, [], 0) = r) :
    (r.1 = 1 ∧ r.2.1.1 = 0 → ∃ n, ∀ g, lp t L key (n + g) ts [] 0 [] 0 0 true te = (true, r.2.1, r.2.2.1, r.2.2.2)) ∧ (r.1 = 0 ∨ (r.1 = 1 ∧ ¬ r.2.1.1 = 0) → ∃ n c a, ∀ g, lp t L key (n + g) ts [] 0 [] 0 0 true te = (false, r.2.1, c, a)) := by
  obtain ⟨k1, k2⟩ := (sim (t := t) (key := key) hL f).2.1 0 0 [] ts [] 0 te r (by decide) (fun w hw => by cases hw) (fun _ => h0) hw hr
  refine ⟨fun z => ?_, fun z => ?_⟩
  · obtain ⟨n, P, c, te', g1, g2, g3, g4, g5, g6⟩ := k1 z.1
    refine ⟨n + 1, fun g => ?_⟩
    have es : stl 0 (P ++ []) c = ([], P.reverse ++ c) := stl_pop (fun w hw => by cases hw) P c (fun w hw => ⟨(g1 w hw).1, Nat.zero_le _⟩)
    have g6' := g6 (0 + 1 + g)
    rw [lp_end z.2, es, ← g2] at g6'
    rw [show n + 1 + g = n + (0 + 1 + g) by omega]
    exact g6'
  · rcases z with z | z
    · obtain ⟨n, c', a', e⟩ := k2 z
      exact ⟨n + 1, c', a', e⟩
    · obtain ⟨n, P, c, te', g1, g2, g3, g4, g5, g6⟩ := k1 z.1
      refine ⟨n + 1, c, r.2.2.2, fun g => ?_⟩
      have g6' := g6 (0 + 1 + g)
      rw [lp_bad z.2 (fun z => by omega) (look_bad g5)] at g6'
      rw [show n + 1 + g = n + (0 + 1 + g) by omega]
      exact g6'
