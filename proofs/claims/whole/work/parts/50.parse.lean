/-! ===== TEXTS: words and signs; the class's parser, the reference's; that they are one ===== -/
abbrev TS : Type := Nat × Nat × Nat
def srt (c : Int32) : Nat := if 97 ≤ c ∧ c ≤ 122 then 1 else if 48 ≤ c ∧ c ≤ 57 then 2 else 3
def spE (t : Ar) (L : Nat) : Nat → Nat → Nat
  | 0, p => p
  | f + 1, p => if p < L ∧ t p = 32 then spE t L f (p + 1) else p
def rnE (t : Ar) (L c : Nat) : Nat → Nat → Nat
  | 0, p => p
  | f + 1, p => if p < L ∧ srt (t p) = c then rnE t L c f (p + 1) else p
/-- the first place from p on that is no space; the first that is of another sort -/
def spP (t : Ar) (L p : Nat) : Nat := spE t L (L - p) p
def rnP (t : Ar) (L c p : Nat) : Nat := rnE t L c (L - p) p
theorem sp_go {t : Ar} {L p : Nat} (h : p < L) (h2 : t p = 32) : spP t L p = spP t L (p + 1) := by
  unfold spP
  rw [show L - p = (L - (p + 1)) + 1 by omega, spE, if_pos ⟨h, h2⟩]
theorem sp_no {t : Ar} {L p : Nat} (h : ¬ (p < L ∧ t p = 32)) : spP t L p = p := by
  unfold spP
  cases L - p with
  | zero => rfl
  | succ f => rw [spE, if_neg h]
theorem rn_go {t : Ar} {L c p : Nat} (h : p < L) (h2 : srt (t p) = c) : rnP t L c p = rnP t L c (p + 1) := by
  unfold rnP
  rw [show L - p = (L - (p + 1)) + 1 by omega, rnE, if_pos ⟨h, h2⟩]
theorem rn_no {t : Ar} {L c p : Nat} (h : ¬ (p < L ∧ srt (t p) = c)) : rnP t L c p = p := by
  unfold rnP
  cases L - p with
  | zero => rfl
  | succ f => rw [rnE, if_neg h]
theorem sp_le {t : Ar} {L : Nat} : ∀ k p, L - p = k → p ≤ L → p ≤ spP t L p ∧ spP t L p ≤ L := by
  intro k
  induction k with
  | zero => intro p h1 h2; rw [sp_no (fun z => by omega)]; omega
  | succ k ih =>
    intro p h1 h2
    by_cases c : p < L ∧ t p = 32
    · rw [sp_go c.1 c.2]; have := ih (p + 1) (by omega) (by omega); omega
    · rw [sp_no c]; omega
theorem rn_le {t : Ar} {L c : Nat} : ∀ k p, L - p = k → p ≤ L → p ≤ rnP t L c p ∧ rnP t L c p ≤ L ∧ ∀ j, p ≤ j → j < rnP t L c p → srt (t j) = c := by
  intro k
  induction k with
  | zero => intro p h1 h2; rw [rn_no (fun z => by omega)]; exact ⟨by omega, by omega, fun j _ _ => by omega⟩
  | succ k ih =>
    intro p h1 h2
    by_cases q : p < L ∧ srt (t p) = c
    · rw [rn_go q.1 q.2]
      obtain ⟨a1, a2, a3⟩ := ih (p + 1) (by omega) (by omega)
      refine ⟨by omega, a2, fun j h3 h4 => ?_⟩
      by_cases e : j = p
      · subst e; exact q.2
      · exact a3 j (by omega) h4
    · rw [rn_no q]; exact ⟨by omega, by omega, fun j _ _ => by omega⟩
theorem srt_123 (c : Int32) : srt c = 1 ∨ srt c = 2 ∨ srt c = 3 := by
  unfold srt
  by_cases h1 : 97 ≤ c ∧ c ≤ 122
  · rw [if_pos h1]; exact Or.inl rfl
  · rw [if_neg h1]
    by_cases h2 : 48 ≤ c ∧ c ≤ 57
    · rw [if_pos h2]; exact Or.inr (Or.inl rfl)
    · rw [if_neg h2]; exact Or.inr (Or.inr rfl)
/-- the next word or sign: its sort, its first place, the place behind it -/
def nxT (t : Ar) (L : Nat) (s : TS) : TS :=
  if L ≤ spP t L s.2.2 then (0, spP t L s.2.2, spP t L s.2.2) else if srt (t (spP t L s.2.2)) = 3 then (3, spP t L s.2.2, spP t L s.2.2 + 1) else
    (if (s.1 = 1 ∨ s.1 = 2) ∧ spP t L s.2.2 = s.2.2 then 4 else srt (t (spP t L s.2.2)), spP t L s.2.2, rnP t L (srt (t (spP t L s.2.2))) (spP t L s.2.2 + 1))
def TW (t : Ar) (L : Nat) (s : TS) : Prop := s.2.1 ≤ s.2.2 ∧ s.2.2 ≤ L ∧ s.1 ≤ 4 ∧ (¬ s.1 = 0 → s.2.1 < s.2.2) ∧ (s.1 = 2 → ∀ j, s.2.1 ≤ j → j < s.2.2 → srt (t j) = 2)
theorem nx_TW {t : Ar} {L : Nat} {s : TS} (h : TW t L s) : TW t L (nxT t L s) ∧ s.2.2 ≤ (nxT t L s).2.1 := by
  obtain ⟨a1, a2⟩ := sp_le (t := t) (L - s.2.2) s.2.2 rfl h.2.1
  unfold nxT
  by_cases h1 : L ≤ spP t L s.2.2
  · rw [if_pos h1]
    exact ⟨⟨Nat.le_refl _, a2, Nat.zero_le _, fun z => absurd rfl z, fun z => by cases z⟩, a1⟩
  · rw [if_neg h1]
    by_cases h2 : srt (t (spP t L s.2.2)) = 3
    · rw [if_pos h2]
      exact ⟨⟨by show spP t L s.2.2 ≤ spP t L s.2.2 + 1; omega, by show spP t L s.2.2 + 1 ≤ L; omega, by show (3 : Nat) ≤ 4; decide, fun _ => by show spP t L s.2.2 < spP t L s.2.2 + 1; omega, fun z => by cases z⟩, a1⟩
    · rw [if_neg h2]
      obtain ⟨b1, b2, b3⟩ := rn_le (t := t) (c := srt (t (spP t L s.2.2))) (L - (spP t L s.2.2 + 1)) (spP t L s.2.2 + 1) rfl (by omega)
      refine ⟨⟨?_, b2, ?_, fun _ => ?_, fun z j h3 h4 => ?_⟩, a1⟩
      · show spP t L s.2.2 ≤ rnP t L _ (spP t L s.2.2 + 1); omega
      · show (if (s.1 = 1 ∨ s.1 = 2) ∧ spP t L s.2.2 = s.2.2 then 4 else srt (t (spP t L s.2.2))) ≤ 4
        split
        · exact Nat.le_refl _
        · have := srt_123 (t (spP t L s.2.2)); omega
      · show spP t L s.2.2 < rnP t L _ (spP t L s.2.2 + 1); omega
      · have e : (if (s.1 = 1 ∨ s.1 = 2) ∧ spP t L s.2.2 = s.2.2 then 4 else srt (t (spP t L s.2.2))) = 2 := z
        have e2 : srt (t (spP t L s.2.2)) = 2 := by
          by_cases q : (s.1 = 1 ∨ s.1 = 2) ∧ spP t L s.2.2 = s.2.2
          · rw [if_pos q] at e; cases e
          · rw [if_neg q] at e; exact e
        by_cases q : j = spP t L s.2.2
        · rw [q]; exact e2
        · rw [b3 j (by have h3' : spP t L s.2.2 ≤ j := h3; omega) h4]; exact e2
theorem TW.nx {t : Ar} {L : Nat} {s : TS} (h : TW t L s) : TW t L (nxT t L s) := (nx_TW h).1
theorem TW.lt {t : Ar} {L : Nat} {s : TS} (h : TW t L s) (h0 : ¬ s.1 = 0) : s.2.1 < (nxT t L s).2.1 := by have := (nx_TW h).2; have := h.2.2.2.1 h0; omega
theorem TW.fL {t : Ar} {L : Nat} {s : TS} (h : TW t L s) (h0 : ¬ s.1 = 0) : s.2.1 < L := by have := h.2.2.2.1 h0; have := h.2.1; omega
theorem TW.fle {t : Ar} {L : Nat} {s : TS} (h : TW t L s) : s.2.1 ≤ L := by have := h.1; have := h.2.1; omega
theorem TW.z {t : Ar} {L : Nat} : TW t L (0, 0, 0) := ⟨Nat.le_refl _, Nat.zero_le _, Nat.zero_le _, fun z => absurd rfl z, fun z => by cases z⟩
/-- a sign's level (9: it joins nothing), its code, its rank -/
def lvB (c : Int32) : Nat := if c = 124 then 0 else if c = 38 then 1 else if c = 60 then 2 else if c = 61 then 2 else if c = 62 then 2 else if c = 43 then 3 else if c = 45 then 3 else if c = 42 then 4 else if c = 47 then 4 else 9
def sgB (c : Int32) : Int32 := if c = 124 then -1 else if c = 38 then -2 else if c = 60 then -3 else if c = 61 then -4 else if c = 62 then -5 else if c = 43 then -6 else if c = 45 then -7 else if c = 42 then -8 else if c = 47 then -9 else 0
def rk (c : Int32) : Nat := if c = -1 then 1 else if c = -2 then 2 else if -5 ≤ c then 3 else if -7 ≤ c then 4 else if -9 ≤ c then 5 else 6
theorem lv_sg (c : Int32) : (lvB c = 9 ∧ sgB c = 0) ∨ (lvB c ≤ 4 ∧ rk (sgB c) = lvB c + 1 ∧ sgB c < 0 ∧ ¬ sgB c = 0 ∧ ¬ sgB c = -10 ∧ ¬ sgB c = -11) := by
  unfold lvB sgB
  by_cases h1 : c = 124
  · simp only [if_pos h1]; decide
  simp only [if_neg h1]
  by_cases h2 : c = 38
  · simp only [if_pos h2]; decide
  simp only [if_neg h2]
  by_cases h3 : c = 60
  · simp only [if_pos h3]; decide
  simp only [if_neg h3]
  by_cases h4 : c = 61
  · simp only [if_pos h4]; decide
  simp only [if_neg h4]
  by_cases h5 : c = 62
  · simp only [if_pos h5]; decide
  simp only [if_neg h5]
  by_cases h6 : c = 43
  · simp only [if_pos h6]; decide
  simp only [if_neg h6]
  by_cases h7 : c = 45
  · simp only [if_pos h7]; decide
  simp only [if_neg h7]
  by_cases h8 : c = 42
  · simp only [if_pos h8]; decide
  simp only [if_neg h8]
  by_cases h9 : c = 47
  · simp only [if_pos h9]; decide
  exact Or.inl ⟨if_neg h9, if_neg h9⟩
def lvT (t : Ar) (s : TS) : Nat := if s.1 = 3 then lvB (t s.2.1) else 9
def nmK (key : Nat) (c : Int32) : Int32 := if key = 0 then (if c = 119 then 0 else if c = 108 then 1 else -1) else if key = 1 then (if c = 115 then 0 else if c = 119 then 1 else if c = 100 then 2 else -1) else (if c = 119 then 0 else if c = 98 then 1 else -1)
def numV (t : Ar) (p : Nat) : Nat → Int32
  | 0 => 0
  | k + 1 => numV t p k * 10 + t (p + k) - 48
/-- the number or name at hand, by the reference's code; -1: there is none -/
def atF (t : Ar) (key : Nat) (s : TS) : Int32 := if s.1 = 2 ∧ s.2.2 - s.2.1 ≤ 4 then numV t s.2.1 (s.2.2 - s.2.1) else if s.1 = 1 ∧ s.2.2 - s.2.1 = 1 ∧ 0 ≤ nmK key (t s.2.1) then 10000 + nmK key (t s.2.1) else -1
abbrev PS : Type := TS × List Int32 × Nat
def afN (r : Nat × PS) : Nat × PS := if r.1 = 1 then (1, r.2.1, -10 :: r.2.2.1, r.2.2.2) else r
def afP (t : Ar) (L : Nat) (r : Nat × PS) : Nat × PS := if r.1 = 1 then (if r.2.1.1 = 3 ∧ t r.2.1.2.1 = 41 then (1, nxT t L r.2.1, r.2.2) else (0, r.2)) else r
def most (tt : Nat) : Nat := if tt = 2 then 1 else 96
/-- the class's parser: fuel; the level (5: a piece); 0: a level's beginning, i + 1: its loop behind i times; open parentheses, open '!' -/
def ev (t : Ar) (L key : Nat) : Nat → Nat → Nat → Nat → Nat → PS → Nat × PS
  | 0, _, _, _, _, s => (2, s)
  | f + 1, tt, i, p, b, s =>
    if tt = 5 then
      (if 0 ≤ atF t key s.1 then (1, nxT t L s.1, atF t key s.1 :: s.2.1, s.2.2 + 1)
      else if (s.1.1 = 3 ∧ t s.1.2.1 = 33) ∧ b < 8 then afN (ev t L key f 5 0 p (b + 1) (nxT t L s.1, s.2))
      else if (s.1.1 = 3 ∧ t s.1.2.1 = 40) ∧ p < 8 then afP t L (ev t L key f 0 0 (p + 1) b (nxT t L s.1, s.2))
      else (0, s))
    else if i = 0 then
      (if (ev t L key f (tt + 1) 0 p b s).1 = 1 then ev t L key f tt 1 p b (ev t L key f (tt + 1) 0 p b s).2 else ev t L key f (tt + 1) 0 p b s)
    else if i - 1 < most tt ∧ lvT t s.1 = tt then
      (if (ev t L key f (tt + 1) 0 p b (nxT t L s.1, s.2)).1 = 1 then ev t L key f tt (i + 1) p b ((ev t L key f (tt + 1) 0 p b (nxT t L s.1, s.2)).2.1, sgB (t s.1.2.1) :: (ev t L key f (tt + 1) 0 p b (nxT t L s.1, s.2)).2.2.1, (ev t L key f (tt + 1) 0 p b (nxT t L s.1, s.2)).2.2.2)
      else ev t L key f (tt + 1) 0 p b (nxT t L s.1, s.2))
    else (1, s)
/-- the reference's: signs that wait, head first -/
def stl (n : Nat) : List Int32 → List Int32 → List Int32 × List Int32
  | [], cs => ([], cs)
  | w :: ws, cs => if ¬ w = -11 ∧ n ≤ rk w then stl n ws (w :: cs) else (w :: ws, cs)
def ntC : List Int32 → Nat
  | [] => 0
  | w :: ws => ntC ws + (if w = -10 then 1 else 0)
def upB (te : Nat → Bool) (k : Nat) (b : Bool) : Nat → Bool := fun j => if j = k then b else te j
def teN (te : Nat → Bool) (p r : Nat) : Bool := decide (r = 3) || (decide (3 < r) && te p)
def lp (t : Ar) (L key : Nat) : Nat → TS → List Int32 → Nat → List Int32 → Nat → Nat → Bool → (Nat → Bool) → Bool × PS
  | 0, ts, cs, a, _, _, _, _, _ => (false, ts, cs, a)
  | f + 1, ts, cs, a, ws, p, no, wa, te =>
    if wa = true then
      (if (ts.1 = 3 ∧ t ts.2.1 = 33) ∧ no < 8 then lp t L key f (nxT t L ts) cs a (-10 :: ws) p (ntC (-10 :: ws)) true te
      else if (ts.1 = 3 ∧ t ts.2.1 = 40) ∧ p < 8 then lp t L key f (nxT t L ts) cs a (-11 :: ws) (p + 1) (ntC (-11 :: ws)) true (upB te (p + 1) false)
      else if 0 ≤ atF t key ts then lp t L key f (nxT t L ts) (stl 6 ws (atF t key ts :: cs)).2 (a + 1) (stl 6 ws (atF t key ts :: cs)).1 p (ntC (stl 6 ws (atF t key ts :: cs)).1) false te
      else (false, ts, cs, a))
    else if ts.1 = 0 then (decide (p = 0), ts, (stl 0 ws cs).2, a)
    else if (ts.1 = 3 ∧ t ts.2.1 = 41) ∧ 0 < p then lp t L key f (nxT t L ts) (stl 6 (stl 0 ws cs).1.tail (stl 0 ws cs).2).2 a (stl 6 (stl 0 ws cs).1.tail (stl 0 ws cs).2).1 (p - 1) (ntC (stl 6 (stl 0 ws cs).1.tail (stl 0 ws cs).2).1) false te
    else if ¬ ts.1 = 3 ∨ sgB (t ts.2.1) = 0 ∨ (rk (sgB (t ts.2.1)) = 3 ∧ te p = true) then (false, ts, cs, a)
    else lp t L key f (nxT t L ts) (stl (rk (sgB (t ts.2.1))) ws cs).2 a (sgB (t ts.2.1) :: (stl (rk (sgB (t ts.2.1))) ws cs).1) p no true (upB te p (teN te p (rk (sgB (t ts.2.1)))))
/-! what the class's parser keeps -/
def dl : List Int32 → Nat
  | [] => 0
  | c :: l => if c < 0 then (if c = -10 then dl l else dl l - 1) else dl l + 1
def nA : List Int32 → Nat
  | [] => 0
  | c :: l => nA l + (if c < 0 then 0 else 1)
def WL (nf : Nat) : List Int32 → Prop
  | [] => True
  | c :: l => WL nf l ∧ (¬ c < 0 → 10000 ≤ c → ∃ i, i < nf ∧ c = nI (10000 + i)) ∧ (c < 0 → (c = -10 → 1 ≤ dl l) ∧ (¬ c = -10 → 2 ≤ dl l))
theorem num_nI {t : Ar} {p n : Nat} (h : ∀ j, p ≤ j → j < p + n → srt (t j) = 2) : ∀ k, k ≤ n → k ≤ 4 → ∃ v, v < 10 ^ k ∧ numV t p k = nI v := by
  intro k
  induction k with
  | zero => intro _ _; exact ⟨0, by decide, rfl⟩
  | succ k ih =>
    intro hk hk4
    obtain ⟨v, hv, e⟩ := ih (by omega) (by omega)
    have hs := h (p + k) (by omega) (by omega)
    have hd : 48 ≤ t (p + k) ∧ t (p + k) ≤ 57 := by
      unfold srt at hs
      by_cases h1 : 97 ≤ t (p + k) ∧ t (p + k) ≤ 122
      · rw [if_pos h1] at hs; cases hs
      · rw [if_neg h1] at hs
        by_cases h2 : 48 ≤ t (p + k) ∧ t (p + k) ≤ 57
        · exact h2
        · rw [if_neg h2] at hs; cases hs
    obtain ⟨d, hd9, ed⟩ : ∃ d, d ≤ 9 ∧ t (p + k) = nI (48 + d) := by
      have e1 := Int32.le_iff_toInt_le.mp hd.1
      have e2 := Int32.le_iff_toInt_le.mp hd.2
      have k1 : (48 : Int32).toInt = 48 := by decide
      have k2 : (57 : Int32).toInt = 57 := by decide
      refine ⟨((t (p + k)).toInt - 48).toNat, by omega, ?_⟩
      apply Int32.toInt_inj.mp
      rw [nI_toInt (by omega)]
      omega
    refine ⟨v * 10 + d, ?_, ?_⟩
    · rw [Nat.pow_succ]; omega
    · rw [numV, e, ed, show (10 : Int32) = nI 10 from rfl, pk_mul, nI_add, show v * 10 + (48 + d) = v * 10 + d + 48 by omega, ← nI_add]
      show nI (v * 10 + d) + 48 - 48 = _
      rw [Int32.add_sub_cancel]
theorem pow_le {k : Nat} (h : k ≤ 4) : 10 ^ k ≤ 10000 := by
  have : k = 0 ∨ k = 1 ∨ k = 2 ∨ k = 3 ∨ k = 4 := by omega
  rcases this with rfl | rfl | rfl | rfl | rfl <;> decide
theorem at_ok {t : Ar} {L key : Nat} {s : TS} (h : TW t L s) (h0 : 0 ≤ atF t key s) : (s.1 = 1 ∨ s.1 = 2) ∧ ¬ atF t key s < 0 ∧ (10000 ≤ atF t key s → ∃ i, i < nfs key ∧ atF t key s = nI (10000 + i)) := by
  refine ⟨?_, Int32.not_lt.mpr h0, ?_⟩
  · unfold atF at h0
    by_cases c1 : s.1 = 2 ∧ s.2.2 - s.2.1 ≤ 4
    · exact Or.inr c1.1
    · rw [if_neg c1] at h0
      by_cases c2 : s.1 = 1 ∧ s.2.2 - s.2.1 = 1 ∧ 0 ≤ nmK key (t s.2.1)
      · exact Or.inl c2.1
      · rw [if_neg c2] at h0; exact absurd h0 (by decide)
  · unfold atF at h0 ⊢
    by_cases c1 : s.1 = 2 ∧ s.2.2 - s.2.1 ≤ 4
    · rw [if_pos c1]
      obtain ⟨v, hv, e⟩ := num_nI (t := t) (p := s.2.1) (n := s.2.2 - s.2.1) (fun j h1 h2 => h.2.2.2.2 c1.1 j h1 (by omega)) (s.2.2 - s.2.1) (Nat.le_refl _) c1.2
      have := pow_le c1.2
      rw [e]
      intro z
      have := (nI_leI (a := 10000) (b := v) (by omega) (by omega)).mp z
      omega
    · rw [if_neg c1] at h0 ⊢
      by_cases c2 : s.1 = 1 ∧ s.2.2 - s.2.1 = 1 ∧ 0 ≤ nmK key (t s.2.1)
      · rw [if_pos c2]
        intro _
        have c3 := c2.2.2
        revert c3
        unfold nmK nfs
        intro c3
        repeat' split at c3
        all_goals first | exact absurd c3 (by decide) | skip
        all_goals simp_all
        all_goals first | exact ⟨0, by decide, by decide⟩ | exact ⟨1, by decide, by decide⟩ | exact ⟨2, by decide, by decide⟩
      · rw [if_neg c2]; intro z; exact absurd z (by decide)
def EK (t : Ar) (L nf : Nat) (st : Bool) (s r : PS) : Prop := TW t L r.1 ∧ s.1.2.1 + r.2.1.length ≤ r.1.2.1 + s.2.1.length ∧ s.1.2.1 ≤ r.1.2.1 ∧ (st = true → s.1.2.1 < r.1.2.1) ∧ (WL nf s.2.1 → (st = false → 1 ≤ dl s.2.1) → WL nf r.2.1 ∧ dl r.2.1 = dl s.2.1 + (if st = true then 1 else 0)) ∧ (nA s.2.1 = s.2.2 → nA r.2.1 = r.2.2)
theorem lvT_3 {t : Ar} {s : TS} {tt : Nat} (h : lvT t s = tt) (ht : tt ≤ 4) : s.1 = 3 ∧ lvB (t s.2.1) = tt ∧ rk (sgB (t s.2.1)) = tt + 1 ∧ sgB (t s.2.1) < 0 ∧ ¬ sgB (t s.2.1) = 0 ∧ ¬ sgB (t s.2.1) = -10 ∧ ¬ sgB (t s.2.1) = -11 := by
  unfold lvT at h
  by_cases c : s.1 = 3
  · rw [if_pos c] at h
    rcases lv_sg (t s.2.1) with q | q
    · omega
    · exact ⟨c, h, by rw [← h]; exact q.2.1, q.2.2⟩
  · rw [if_neg c] at h; omega
theorem evA {t : Ar} {L key : Nat} : ∀ f tt i p b (s : PS), tt ≤ 5 → TW t L s.1 → (ev t L key f tt i p b s).1 = 1 → EK t L (nfs key) (decide (tt = 5 ∨ i = 0)) s (ev t L key f tt i p b s).2 := by
  intro f
  induction f with
  | zero => intro tt i p b s _ _ h; cases h
  | succ f ih =>
    intro tt i p b s ht hw h
    rw [ev] at h ⊢
    by_cases c5 : tt = 5
    · rw [if_pos c5] at h ⊢
      rw [show decide (tt = 5 ∨ i = 0) = true from decide_eq_true (Or.inl c5)]
      by_cases c1 : 0 ≤ atF t key s.1
      · rw [if_pos c1]
        obtain ⟨e1, e2, e3⟩ := at_ok hw c1
        have hlt := hw.lt (by omega)
        refine ⟨hw.nx, ?_, Nat.le_of_lt hlt, fun _ => hlt, fun h1 _ => ⟨⟨h1, fun _ => e3, fun z => absurd z e2⟩, ?_⟩, fun h1 => ?_⟩
        · show s.1.2.1 + (s.2.1.length + 1) ≤ (nxT t L s.1).2.1 + s.2.1.length; omega
        · show dl (atF t key s.1 :: s.2.1) = _; rw [dl, if_neg e2, if_pos rfl]
        · show nA (atF t key s.1 :: s.2.1) = s.2.2 + 1; rw [nA, if_neg e2, h1]
      · rw [if_neg c1] at h ⊢
        by_cases c2 : (s.1.1 = 3 ∧ t s.1.2.1 = 33) ∧ b < 8
        · rw [if_pos c2] at h ⊢
          have hlt := hw.lt (by omega)
          have IH := ih 5 0 p (b + 1) (nxT t L s.1, s.2) (Nat.le_refl _) hw.nx
          generalize ev t L key f 5 0 p (b + 1) (nxT t L s.1, s.2) = r at h IH ⊢
          unfold afN at h ⊢
          by_cases q : r.1 = 1
          · rw [if_pos q]
            obtain ⟨a1, a2, a3, a4, a5, a6⟩ := IH q
            have a4' : (nxT t L s.1).2.1 < r.2.1.2.1 := a4 rfl
            have a2' : (nxT t L s.1).2.1 + r.2.2.1.length ≤ r.2.1.2.1 + s.2.1.length := a2
            refine ⟨a1, ?_, ?_, fun _ => ?_, fun h1 h2 => ?_, fun h1 => ?_⟩
            · show s.1.2.1 + (r.2.2.1.length + 1) ≤ r.2.1.2.1 + s.2.1.length; omega
            · show s.1.2.1 ≤ r.2.1.2.1; omega
            · show s.1.2.1 < r.2.1.2.1; omega
            · obtain ⟨b1, b2⟩ := a5 h1 (fun z => by cases z)
              have b2' : dl r.2.2.1 = dl s.2.1 + 1 := b2
              exact ⟨⟨b1, fun z => absurd (by decide) z, fun _ => ⟨fun _ => by omega, fun z => absurd rfl z⟩⟩, by show dl (-10 :: r.2.2.1) = dl s.2.1 + 1; rw [dl, if_pos (by decide), if_pos rfl]; exact b2'⟩
            · show nA (-10 :: r.2.2.1) = r.2.2.2; rw [nA, if_pos (by decide)]; exact a6 h1
          · rw [if_neg q] at h; exact absurd h q
        · rw [if_neg c2] at h ⊢
          by_cases c3 : (s.1.1 = 3 ∧ t s.1.2.1 = 40) ∧ p < 8
          · rw [if_pos c3] at h ⊢
            have hlt := hw.lt (by omega)
            have IH := ih 0 0 (p + 1) b (nxT t L s.1, s.2) (Nat.zero_le _) hw.nx
            generalize ev t L key f 0 0 (p + 1) b (nxT t L s.1, s.2) = r at h IH ⊢
            unfold afP at h ⊢
            by_cases q : r.1 = 1
            · rw [if_pos q] at h ⊢
              obtain ⟨a1, a2, a3, a4, a5, a6⟩ := IH q
              have a4' : (nxT t L s.1).2.1 < r.2.1.2.1 := a4 rfl
              have a2' : (nxT t L s.1).2.1 + r.2.2.1.length ≤ r.2.1.2.1 + s.2.1.length := a2
              by_cases q2 : r.2.1.1 = 3 ∧ t r.2.1.2.1 = 41
              · rw [if_pos q2]
                have := a1.lt (by omega)
                refine ⟨a1.nx, ?_, ?_, fun _ => ?_, fun h1 h2 => a5 h1 (fun z => by cases z), a6⟩
                · show s.1.2.1 + r.2.2.1.length ≤ (nxT t L r.2.1).2.1 + s.2.1.length; omega
                · show s.1.2.1 ≤ (nxT t L r.2.1).2.1; omega
                · show s.1.2.1 < (nxT t L r.2.1).2.1; omega
              · rw [if_neg q2] at h; cases h
            · rw [if_neg q] at h; exact absurd h q
          · rw [if_neg c3] at h; cases h
    · rw [if_neg c5] at h ⊢
      by_cases c0 : i = 0
      · rw [if_pos c0] at h ⊢
        rw [show decide (tt = 5 ∨ i = 0) = true from decide_eq_true (Or.inr c0)]
        have IH := ih (tt + 1) 0 p b s (by omega) hw
        rw [show decide (tt + 1 = 5 ∨ 0 = 0) = true from decide_eq_true (Or.inr rfl)] at IH
        generalize ev t L key f (tt + 1) 0 p b s = r at h IH ⊢
        by_cases q : r.1 = 1
        · rw [if_pos q] at h ⊢
          obtain ⟨a1, a2, a3, a4, a5, a6⟩ := IH q
          have IH2 := ih tt 1 p b r.2 ht a1 h
          rw [show decide (tt = 5 ∨ 1 = 0) = false from decide_eq_false (by omega)] at IH2
          obtain ⟨b1, b2, b3, b4, b5, b6⟩ := IH2
          have a4' := a4 rfl
          refine ⟨b1, by omega, by omega, fun _ => by omega, fun h1 h2 => ?_, fun h1 => b6 (a6 h1)⟩
          obtain ⟨g1, g2⟩ := a5 h1 (fun z => by cases z)
          rw [if_pos rfl] at g2
          obtain ⟨g3, g4⟩ := b5 g1 (fun _ => by omega)
          exact ⟨g3, by rw [g4, g2, if_pos rfl, if_neg (by decide)]⟩
        · rw [if_neg q] at h; exact absurd h q
      · rw [if_neg c0] at h ⊢
        rw [show decide (tt = 5 ∨ i = 0) = false from decide_eq_false (by omega)]
        by_cases c1 : i - 1 < most tt ∧ lvT t s.1 = tt
        · rw [if_pos c1] at h ⊢
          obtain ⟨k1, k2, k3, k4, k5, k6, k7⟩ := lvT_3 c1.2 (by omega)
          have hlt := hw.lt (by omega)
          have IH := ih (tt + 1) 0 p b (nxT t L s.1, s.2) (by omega) hw.nx
          rw [show decide (tt + 1 = 5 ∨ 0 = 0) = true from decide_eq_true (Or.inr rfl)] at IH
          generalize ev t L key f (tt + 1) 0 p b (nxT t L s.1, s.2) = r at h IH ⊢
          by_cases q : r.1 = 1
          · rw [if_pos q] at h ⊢
            obtain ⟨a1, a2, a3, a4, a5, a6⟩ := IH q
            have IH2 := ih tt (i + 1) p b (r.2.1, sgB (t s.1.2.1) :: r.2.2.1, r.2.2.2) ht a1 h
            rw [show decide (tt = 5 ∨ i + 1 = 0) = false from decide_eq_false (by omega)] at IH2
            obtain ⟨b1, b2, b3, b4, b5, b6⟩ := IH2
            have a4' : (nxT t L s.1).2.1 < r.2.1.2.1 := a4 rfl
            have a2' : (nxT t L s.1).2.1 + r.2.2.1.length ≤ r.2.1.2.1 + s.2.1.length := a2
            have b3' := b3
            have b2' := b2
            simp only [List.length_cons] at b2'
            refine ⟨b1, by simp only [] at b2' b3' ⊢; omega, by simp only [] at b3' ⊢; omega, (fun z => by cases z), fun h1 h2 => ?_, fun h1 => b6 ?_⟩
            · obtain ⟨g1, g2⟩ := a5 h1 (fun z => by cases z)
              have g2' : dl r.2.2.1 = dl s.2.1 + 1 := g2
              have h2' := h2 rfl
              have e1 : dl (sgB (t s.1.2.1) :: r.2.2.1) = dl s.2.1 := by rw [dl, if_pos k4, if_neg k6, g2']; omega
              obtain ⟨g3, g4⟩ := b5 ⟨g1, fun z => absurd k4 z, fun _ => ⟨fun z => absurd z k6, fun _ => by omega⟩⟩ (fun _ => by show 1 ≤ dl (sgB (t s.1.2.1) :: r.2.2.1); omega)
              exact ⟨g3, g4.trans (by show dl (sgB (t s.1.2.1) :: r.2.2.1) + _ = _; rw [e1])⟩
            · show nA (sgB (t s.1.2.1) :: r.2.2.1) = r.2.2.2
              rw [nA, if_pos k4]; exact a6 h1
          · rw [if_neg q] at h; exact absurd h q
        · rw [if_neg c1]
          exact ⟨hw, Nat.le_refl _, Nat.le_refl _, (fun z => by cases z), fun h1 _ => ⟨h1, by rw [if_neg (by decide)]; rfl⟩, fun h1 => h1⟩
