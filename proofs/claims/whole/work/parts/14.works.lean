theorem v_drop {own : String} {cc : ByteArray} {nL : Nat} {ret : Option FieldType} {nm : String} {ro : Ro} {R : Room} {Qf : Wd → List Frame → Array Value → State → State → Prop} {cells slots pc : Nat} {al al' st : List Value} {S : St} {I : In} (i : Nat) (h : al.set i JJ = al') (kk : V own cc nL ret nm ro R Qf cells slots pc al' st S I) : V own cc nL ret nm ro R Qf cells slots pc al st S I := by
  subst h
  intro w p l e s m args below meth c C H locs ls hR hl
  refine kk w p l e s m args below meth c C H locs ls hR ⟨hl.1, hl.2.1, fun q hq => hl.2.2 q ?_⟩
  obtain ⟨j, x⟩ := q
  obtain ⟨h1, h2⟩ := mem_prs.mp hq
  by_cases hj : j = i
  · subst hj
    by_cases hlen : j < al.length
    · rw [List.getElem?_set_self hlen] at h1
      cases h1
      cases h2
    · rw [List.getElem?_eq_none (by simp; omega)] at h1
      cases h1
  · rw [List.getElem?_set_ne (fun q => hj q.symm)] at h1
    exact mem_prs.mpr ⟨h1, h2⟩
def stNot : List Int32 → List Int32
  | a :: r => (if a = 0 then 1 else 0) :: r
  | [] => []
def stTwo (c : Int32) : List Int32 → List Int32
  | b :: a :: r => twoF c a b :: r
  | [_] => []
  | [] => []
/-- one sign of a TEXT's code, on a stack -/
def wkStep (fa : Ar) (st : List Int32) (c : Int32) : List Int32 :=
  if c < 0 then (if c = -10 then stNot st else stTwo c st) else (if 10000 ≤ c then fa (c - 10000).toNatClampNeg else c) :: st
def wkL (cd fa : Ar) : Nat → List Int32
  | 0 => []
  | k + 1 => wkStep fa (wkL cd fa k) (cd k)
/-- how deep the stack is -/
def dpt (cd : Ar) : Nat → Nat
  | 0 => 0
  | k + 1 => if cd k < 0 then (if cd k = -10 then dpt cd k else dpt cd k - 1) else dpt cd k + 1
/-- a code that can be worked out: of n signs, with nf names, na of them numbers and names -/
def WFT (cd : Ar) (nf n na : Nat) : Prop := (∀ k, k < n → (¬ cd k < 0 → 10000 ≤ cd k → ∃ i, i < nf ∧ cd k = nI (10000 + i)) ∧ (cd k < 0 → (cd k = -10 → 1 ≤ dpt cd k) ∧ (¬ cd k = -10 → 2 ≤ dpt cd k))) ∧ dpt cd n = 1 ∧ n ≤ 96 ∧ (∀ k, k ≤ n → dpt cd k ≤ na) ∧ na ≤ 96
theorem wkL_len {cd fa : Ar} {nf n na : Nat} (h : WFT cd nf n na) : ∀ k, k ≤ n → (wkL cd fa k).length = dpt cd k := by
  intro k
  induction k with
  | zero => intro _; rfl
  | succ k ih =>
    intro hk
    have hl := ih (by omega)
    obtain ⟨h1, h2⟩ := h.1 k (by omega)
    simp only [wkL, wkStep, dpt]
    by_cases c0 : cd k < 0
    · rw [if_pos c0, if_pos c0]
      by_cases c1 : cd k = -10
      · rw [if_pos c1, if_pos c1]
        have := (h2 c0).1 c1
        cases hs : wkL cd fa k with
        | nil => rw [hs] at hl; simp at hl; omega
        | cons a r => rw [hs] at hl; simpa [stNot] using hl
      · rw [if_neg c1, if_neg c1]
        have := (h2 c0).2 c1
        cases hs : wkL cd fa k with
        | nil => rw [hs] at hl; simp at hl; omega
        | cons b r =>
          cases r with
          | nil => rw [hs] at hl; simp at hl; omega
          | cons a r => rw [hs] at hl; simp [stTwo] at hl ⊢; omega
    · rw [if_neg c0, if_neg c0]
      simp [hl]
def Stk (f : Ar) : List Int32 → Prop
  | [] => True
  | a :: r => f r.length = a ∧ Stk f r
theorem Stk.up {f : Ar} {j : Nat} {x : Int32} : ∀ {r : List Int32}, Stk f r → r.length ≤ j → Stk (upd f j x) r
  | [], _, _ => trivial
  | a :: r, h, hj => by
    simp only [List.length_cons] at hj
    exact ⟨(pk_un (by omega)).trans h.1, h.2.up (by omega)⟩

theorem Stk.push {f : Ar} {x : Int32} {r : List Int32} (h : Stk f r) : Stk (upd f r.length x) (x :: r) := ⟨pk_us, h.up (Nat.le_refl _)⟩
theorem row_oo {I : In} {a b j : Nat} {f : Ar} (h : b ≠ a) : row I a f b j = I b j := by rw [row_o h]
theorem nI_p1 {k : Nat} (h : 1 ≤ k) : nI k - 1 = nI (k - 1) := by
  obtain ⟨j, rfl⟩ : ∃ j, k = j + 1 := ⟨k - 1, by omega⟩
  exact nI_pred j
theorem nI_m1 {k : Nat} (h : 1 ≤ k) : nI k + (-1) = nI (k - 1) := by
  rw [← nI_p1 h]; exact (Int32.sub_eq_add_neg ..).symm

theorem lit_nI (n : Nat) : (OfNat.ofNat n : Int32) = nI n := rfl
theorem nI_10k {i : Nat} : nI (10000 + i) - 10000 = nI i := by
  rw [lit_nI 10000, pk_sub (by omega), show 10000 + i - 10000 = i by omega]
theorem wk_end {f : Ar} {st : List Int32} (h : Stk f st) (hl : st.length = 1) : f 0 = st.headD 0 := by
  cases st with
  | nil => simp at hl
  | cons a r =>
    cases r with
    | nil => exact h.1
    | cons b r => simp at hl
theorem wk_not {f : Ar} {st : List Int32} {d : Nat} {x : Int32} (h : Stk f st) (hl : st.length = d) (hd : 1 ≤ d) (hx : x = if f (d - 1) = 0 then 1 else 0) : Stk (upd f (d - 1) x) (stNot st) := by
  subst hl
  cases st with
  | nil => simp at hd
  | cons a r =>
    have e1 : (a :: r).length - 1 = r.length := by simp
    rw [e1] at hx ⊢
    rw [h.1] at hx
    rw [stNot, ← hx]
    exact h.2.push
theorem wk_two {f : Ar} {st : List Int32} {d : Nat} {c : Int32} (h : Stk f st) (hl : st.length = d) (hd : 2 ≤ d) : Stk (upd f (d - 1 - 1) (twoF c (f (d - 1 - 1)) (f (d - 1)))) (stTwo c st) := by
  subst hl
  cases st with
  | nil => simp at hd
  | cons b r =>
    cases r with
    | nil => simp at hd
    | cons a r =>
      have e1 : (b :: a :: r).length - 1 - 1 = r.length := by simp
      have e2 : (b :: a :: r).length - 1 = (a :: r).length := by simp
      rw [e1, e2, h.1, h.2.1, stTwo]
      exact h.2.2.push

set_option maxRecDepth 100000 in
set_option maxHeartbeats 1000000 in
theorem l_X11_worksOut {ro : Ro} {S : St} {I : In} {m t n nf na : Nat} (L : LayM S m) (ht : t < 14) (h : WFT (fun j => I (m + 1) (144 + 96 * t + j)) nf n na) (hnf : nf ≤ 4) : ∀ j k, k ≤ n → n < k + j → ∀ f, Stk f (wkL (fun j => I (m + 1) (144 + 96 * t + j)) (I (m + 13)) k) → V RX11 cX11_worksOut 6 (some .int) "worksOut" ro (rmD 1 0 0) (QM 0 0 (fun r S' I' => r = some (.int ((wkL (fun j => I (m + 1) (144 + 96 * t + j)) (I (m + 13)) n).headD 0)) ∧ S' = S ∧ ∃ f, I' = row I (m + 12) f)) 0 0 21 [.ref m, .int (nI t), .int (nI (dpt (fun j => I (m + 1) (144 + 96 * t + j)) k)), .int (nI n), .int (nI k), JJ] [] S (row I (m + 12) f) := by
  have hn96 := h.2.2.1
  have hna := h.2.2.2.2
  intro j
  induction j with
  | zero => intro k hk hj; exact absurd hj (by omega)
  | succ j ih =>
    intro k hk hj f hS
    refine v_iload (n := 23) dX11_worksOut_21 rfl rfl ?_
    refine v_iload_n (n := 24) dX11_worksOut_23 rfl rfl rfl ?_
    refine v_icmp_ge (n := 27) (tgt := 156) dX11_worksOut_24 (by decide) rfl (fun hq24 => ?_) (fun hq24 => ?_)
    · obtain rfl : k = n := Nat.le_antisymm hk (le_out hq24 (by omega) (by omega))
      refine v_aload_n (n := 157) dX11_worksOut_156 rfl rfl rfl ?_
      refine v_getR (n := 160) f_X11_45 rfl L.s L.g22 dX11_worksOut_157 rfl ?_
      refine v_iconst (n := 161) (v := 0) dX11_worksOut_160 c_0 rfl ?_
      refine v_iald (n := 162) (j := 0) L.c22 (ix_lit rfl rfl rfl) dX11_worksOut_161 rfl ?_
      refine v_iret rfl ⟨?_, rfl, f, rfl⟩ ⟨l8 rfl, l8 rfl⟩ dX11_worksOut_162
      rw [row_s, wk_end hS (by rw [wkL_len h _ (Nat.le_refl _)]; exact h.2.1)]
    · have hlt := nle_in hq24 (by omega) (by omega)
      have hwf := h.1 k hlt
      have hle := h.2.2.2.1 k (by omega)
      have hle1 := h.2.2.2.1 (k + 1) (by omega)
      have hlen := wkL_len (fa := (I (m + 13))) h k (by omega)
      refine v_aload_n (n := 28) dX11_worksOut_27 rfl rfl rfl ?_
      refine v_getR (n := 31) f_X11_9 rfl L.s L.g0 dX11_worksOut_28 rfl ?_
      refine v_sipush (n := 34) (v := 144) dX11_worksOut_31 s_144 rfl ?_
      refine v_bipush (n := 36) (v := 96) dX11_worksOut_34 b_96 rfl ?_
      refine v_iload_n (n := 37) dX11_worksOut_36 rfl rfl rfl ?_
      refine v_imul (n := 38) dX11_worksOut_37 rfl ?_
      refine v_iadd (n := 39) dX11_worksOut_38 rfl ?_
      refine v_iload (n := 41) dX11_worksOut_39 rfl rfl ?_
      refine v_iadd (n := 42) dX11_worksOut_41 rfl ?_
      refine v_iald (n := 43) (j := 144 + 96 * t + k) L.c0 (ix_of (i_co t k) (by omega) (by decide)) dX11_worksOut_42 rfl ?_
      rw [row_oo (show m + 1 ≠ m + 12 by omega)]
      refine v_istore (n := 45) (al' := [.ref m, .int (nI t), .int (nI (dpt (fun j => I (m + 1) (144 + 96 * t + j)) k)), .int (nI n), .int (nI k), .int (I (m + 1) (144 + 96 * t + k))]) dX11_worksOut_43 rfl rfl rfl ?_
      refine v_iload (n := 47) dX11_worksOut_45 rfl rfl ?_
      refine v_if_lt (n := 50) (tgt := 86) dX11_worksOut_47 (by decide) rfl (fun hq47 => ?_) (fun hq47 => ?_)
      · refine v_iload (n := 88) dX11_worksOut_86 rfl rfl ?_
        refine v_bipush (n := 90) (v := (-10)) dX11_worksOut_88 b_m10 rfl ?_
        refine v_icmp_ne (n := 93) (tgt := 120) dX11_worksOut_90 (by decide) rfl (fun hq90 => ?_) (fun hq90 => ?_)
        · have hdp := (hwf.2 hq47).2 hq90
          refine v_iinc (n := 123) (v := (nI (dpt (fun j => I (m + 1) (144 + 96 * t + j)) k)) + (-1)) (al' := [.ref m, .int (nI t), .int ((nI (dpt (fun j => I (m + 1) (144 + 96 * t + j)) k)) + (-1)), .int (nI n), .int (nI k), .int (I (m + 1) (144 + 96 * t + k))]) dX11_worksOut_120 rfl (by rw [c_m1]) rfl rfl rfl ?_
          refine v_aload_n (n := 124) dX11_worksOut_123 rfl rfl rfl ?_
          refine v_getR (n := 127) f_X11_45 rfl L.s L.g22 dX11_worksOut_124 rfl ?_
          refine v_iload_n (n := 128) dX11_worksOut_127 rfl rfl rfl ?_
          refine v_iconst (n := 129) (v := 1) dX11_worksOut_128 c_1 rfl ?_
          refine v_isub (n := 130) dX11_worksOut_129 rfl ?_
          refine v_iload (n := 132) dX11_worksOut_130 rfl rfl ?_
          refine v_aload_n (n := 133) dX11_worksOut_132 rfl rfl rfl ?_
          refine v_getR (n := 136) f_X11_45 rfl L.s L.g22 dX11_worksOut_133 rfl ?_
          refine v_iload_n (n := 137) dX11_worksOut_136 rfl rfl rfl ?_
          refine v_iconst (n := 138) (v := 1) dX11_worksOut_137 c_1 rfl ?_
          refine v_isub (n := 139) dX11_worksOut_138 rfl ?_
          refine v_iald (n := 140) (j := dpt (fun j => I (m + 1) (144 + 96 * t + j)) k - 1 - 1) L.c22 (ix_of (by rw [nI_m1 (by omega), nI_p1 (by omega)]) (by omega) (by decide)) dX11_worksOut_139 rfl ?_
          refine v_aload_n (n := 141) dX11_worksOut_140 rfl rfl rfl ?_
          refine v_getR (n := 144) f_X11_45 rfl L.s L.g22 dX11_worksOut_141 rfl ?_
          refine v_iload_n (n := 145) dX11_worksOut_144 rfl rfl rfl ?_
          refine v_iald (n := 146) (j := dpt (fun j => I (m + 1) (144 + 96 * t + j)) k - 1) L.c22 (ix_of (nI_m1 (by omega)) (by omega) (by decide)) dX11_worksOut_145 rfl ?_
          refine v_cSi (n := 149) (x := (twoF (I (m + 1) (144 + 96 * t + k)) ((row I (m + 12) f) (m + 12) (dpt (fun j => I (m + 1) (144 + 96 * t + j)) k - 1 - 1)) ((row I (m + 12) f) (m + 12) (dpt (fun j => I (m + 1) (144 + 96 * t + j)) k - 1)))) mc_X11_two l_X11_251 sta_X11_two k_X11_two ⟨rfl, rfl⟩ (l8 rfl) ⟨l8 rfl, l8 rfl⟩ rfl rfl (l8 rfl) dX11_worksOut_146 rfl ?_
          refine v_iast (n := 150) (j := dpt (fun j => I (m + 1) (144 + 96 * t + j)) k - 1 - 1) L.c22 (ix_of (by rw [nI_m1 (by omega), nI_p1 (by omega)]) (by omega) (by decide)) dX11_worksOut_149 rfl ?_
          refine v_iinc (n := 153) (v := (nI k) + 1) (al' := [.ref m, .int (nI t), .int ((nI (dpt (fun j => I (m + 1) (144 + 96 * t + j)) k)) + (-1)), .int (nI n), .int ((nI k) + 1), .int (I (m + 1) (144 + 96 * t + k))]) dX11_worksOut_150 rfl (by rw [c_1]) rfl rfl rfl ?_
          refine v_goto (tgt := 21) dX11_worksOut_153 (by decide) ?_
          refine v_drop 5 (al' := [.ref m, .int (nI t), .int ((nI (dpt (fun j => I (m + 1) (144 + 96 * t + j)) k)) + (-1)), .int (nI n), .int ((nI k) + 1), JJ]) rfl ?_
          rw [nI_1 k]
          rw [nI_m1 (by omega), row_setS]
          have hd1 : dpt (fun j => I (m + 1) (144 + 96 * t + j)) (k + 1) = dpt (fun j => I (m + 1) (144 + 96 * t + j)) k - 1 := by rw [dpt, if_pos hq47, if_neg hq90]
          rw [← hd1]
          refine ih (k + 1) hlt (by omega) _ ?_
          rw [row_s]
          rw [wkL, wkStep, if_pos hq47, if_neg hq90, hd1]
          exact wk_two hS hlen (by omega)
        · have hdp := (hwf.2 hq47).1 hq90
          refine v_aload_n (n := 94) dX11_worksOut_93 rfl rfl rfl ?_
          refine v_getR (n := 97) f_X11_45 rfl L.s L.g22 dX11_worksOut_94 rfl ?_
          refine v_iload_n (n := 98) dX11_worksOut_97 rfl rfl rfl ?_
          refine v_iconst (n := 99) (v := 1) dX11_worksOut_98 c_1 rfl ?_
          refine v_isub (n := 100) dX11_worksOut_99 rfl ?_
          refine v_aload_n (n := 101) dX11_worksOut_100 rfl rfl rfl ?_
          refine v_getR (n := 104) f_X11_45 rfl L.s L.g22 dX11_worksOut_101 rfl ?_
          refine v_iload_n (n := 105) dX11_worksOut_104 rfl rfl rfl ?_
          refine v_iconst (n := 106) (v := 1) dX11_worksOut_105 c_1 rfl ?_
          refine v_isub (n := 107) dX11_worksOut_106 rfl ?_
          refine v_iald (n := 108) (j := dpt (fun j => I (m + 1) (144 + 96 * t + j)) k - 1) L.c22 (ix_of (nI_p1 hdp) (by omega) (by decide)) dX11_worksOut_107 rfl ?_
          refine v_if_ne (n := 111) (tgt := 115) dX11_worksOut_108 (by decide) rfl (fun hq108 => ?_) (fun hq108 => ?_)
          · refine v_iconst (n := 116) (v := 0) dX11_worksOut_115 c_0 rfl ?_
            refine v_iast (n := 117) (j := dpt (fun j => I (m + 1) (144 + 96 * t + j)) k - 1) L.c22 (ix_of (nI_p1 hdp) (by omega) (by decide)) dX11_worksOut_116 rfl ?_
            refine v_goto (tgt := 150) dX11_worksOut_117 (by decide) ?_
            refine v_iinc (n := 153) (v := (nI k) + 1) (al' := [.ref m, .int (nI t), .int (nI (dpt (fun j => I (m + 1) (144 + 96 * t + j)) k)), .int (nI n), .int ((nI k) + 1), .int (I (m + 1) (144 + 96 * t + k))]) dX11_worksOut_150 rfl (by rw [c_1]) rfl rfl rfl ?_
            refine v_goto (tgt := 21) dX11_worksOut_153 (by decide) ?_
            refine v_drop 5 (al' := [.ref m, .int (nI t), .int (nI (dpt (fun j => I (m + 1) (144 + 96 * t + j)) k)), .int (nI n), .int ((nI k) + 1), JJ]) rfl ?_
            rw [nI_1 k]
            rw [row_setS]
            have hd1 : dpt (fun j => I (m + 1) (144 + 96 * t + j)) (k + 1) = dpt (fun j => I (m + 1) (144 + 96 * t + j)) k := by rw [dpt, if_pos hq47, if_pos hq90]
            rw [← hd1]
            refine ih (k + 1) hlt (by omega) _ ?_
            rw [wkL, wkStep, if_pos hq47, if_pos hq90, hd1]
            rw [row_s] at hq108
            exact wk_not hS hlen (by omega) (by first | rw [if_pos hq108] | rw [if_neg hq108])
          · refine v_iconst (n := 112) (v := 1) dX11_worksOut_111 c_1 rfl ?_
            refine v_goto (tgt := 116) dX11_worksOut_112 (by decide) ?_
            refine v_iast (n := 117) (j := dpt (fun j => I (m + 1) (144 + 96 * t + j)) k - 1) L.c22 (ix_of (nI_p1 hdp) (by omega) (by decide)) dX11_worksOut_116 rfl ?_
            refine v_goto (tgt := 150) dX11_worksOut_117 (by decide) ?_
            refine v_iinc (n := 153) (v := (nI k) + 1) (al' := [.ref m, .int (nI t), .int (nI (dpt (fun j => I (m + 1) (144 + 96 * t + j)) k)), .int (nI n), .int ((nI k) + 1), .int (I (m + 1) (144 + 96 * t + k))]) dX11_worksOut_150 rfl (by rw [c_1]) rfl rfl rfl ?_
            refine v_goto (tgt := 21) dX11_worksOut_153 (by decide) ?_
            refine v_drop 5 (al' := [.ref m, .int (nI t), .int (nI (dpt (fun j => I (m + 1) (144 + 96 * t + j)) k)), .int (nI n), .int ((nI k) + 1), JJ]) rfl ?_
            rw [nI_1 k]
            rw [row_setS]
            have hd1 : dpt (fun j => I (m + 1) (144 + 96 * t + j)) (k + 1) = dpt (fun j => I (m + 1) (144 + 96 * t + j)) k := by rw [dpt, if_pos hq47, if_pos hq90]
            rw [← hd1]
            refine ih (k + 1) hlt (by omega) _ ?_
            rw [wkL, wkStep, if_pos hq47, if_pos hq90, hd1]
            rw [row_s] at hq108
            exact wk_not hS hlen (by omega) (by first | rw [if_pos hq108] | rw [if_neg hq108])
      · have hd1 : dpt (fun j => I (m + 1) (144 + 96 * t + j)) (k + 1) = dpt (fun j => I (m + 1) (144 + 96 * t + j)) k + 1 := if_neg hq47
        rw [hd1] at hle1
        refine v_aload_n (n := 51) dX11_worksOut_50 rfl rfl rfl ?_
        refine v_getR (n := 54) f_X11_45 rfl L.s L.g22 dX11_worksOut_51 rfl ?_
        refine v_iload_n (n := 55) dX11_worksOut_54 rfl rfl rfl ?_
        refine v_iload (n := 57) dX11_worksOut_55 rfl rfl ?_
        refine v_sipush (n := 60) (v := 10000) dX11_worksOut_57 s_10000 rfl ?_
        refine v_icmp_ge (n := 63) (tgt := 68) dX11_worksOut_60 (by decide) rfl (fun hq60 => ?_) (fun hq60 => ?_)
        · obtain ⟨i0, hi0l, hi0⟩ := hwf.1 hq47 hq60
          have hi0 : (I (m + 1) (144 + 96 * t + k)) = nI (10000 + i0) := hi0
          refine v_aload_n (n := 69) dX11_worksOut_68 rfl rfl rfl ?_
          refine v_getR (n := 72) f_X11_48 rfl L.s L.g23 dX11_worksOut_69 rfl ?_
          refine v_iload (n := 74) dX11_worksOut_72 rfl rfl ?_
          refine v_sipush (n := 77) (v := 10000) dX11_worksOut_74 s_10000 rfl ?_
          refine v_isub (n := 78) dX11_worksOut_77 rfl ?_
          refine v_iald (n := 79) (j := i0) L.c23 (ix_of (by rw [hi0, nI_10k]) (by omega) (by decide)) dX11_worksOut_78 rfl ?_
          refine v_iast (n := 80) (j := dpt (fun j => I (m + 1) (144 + 96 * t + j)) k) L.c22 (ix_nI (by omega) (by decide)) dX11_worksOut_79 rfl ?_
          refine v_iinc (n := 83) (v := (nI (dpt (fun j => I (m + 1) (144 + 96 * t + j)) k)) + 1) (al' := [.ref m, .int (nI t), .int ((nI (dpt (fun j => I (m + 1) (144 + 96 * t + j)) k)) + 1), .int (nI n), .int (nI k), .int (I (m + 1) (144 + 96 * t + k))]) dX11_worksOut_80 rfl (by rw [c_1]) rfl rfl rfl ?_
          refine v_goto (tgt := 150) dX11_worksOut_83 (by decide) ?_
          refine v_iinc (n := 153) (v := (nI k) + 1) (al' := [.ref m, .int (nI t), .int ((nI (dpt (fun j => I (m + 1) (144 + 96 * t + j)) k)) + 1), .int (nI n), .int ((nI k) + 1), .int (I (m + 1) (144 + 96 * t + k))]) dX11_worksOut_150 rfl (by rw [c_1]) rfl rfl rfl ?_
          refine v_goto (tgt := 21) dX11_worksOut_153 (by decide) ?_
          refine v_drop 5 (al' := [.ref m, .int (nI t), .int ((nI (dpt (fun j => I (m + 1) (144 + 96 * t + j)) k)) + 1), .int (nI n), .int ((nI k) + 1), JJ]) rfl ?_
          rw [nI_1 k]
          rw [nI_1, ← hd1, row_setS]
          refine ih (k + 1) hlt (by omega) _ ?_
          rw [wkL, wkStep, if_neg hq47]
          rw [← hlen]
          rw [if_pos hq60, row_oo (show m + 13 ≠ m + 12 by omega), show (I (m + 1) (144 + 96 * t + k) - 10000).toNatClampNeg = i0 from by rw [hi0, nI_10k, nI_clamp (by omega)]]
          exact hS.push
        · refine v_iload (n := 65) dX11_worksOut_63 rfl rfl ?_
          refine v_goto (tgt := 79) dX11_worksOut_65 (by decide) ?_
          refine v_iast (n := 80) (j := dpt (fun j => I (m + 1) (144 + 96 * t + j)) k) L.c22 (ix_nI (by omega) (by decide)) dX11_worksOut_79 rfl ?_
          refine v_iinc (n := 83) (v := (nI (dpt (fun j => I (m + 1) (144 + 96 * t + j)) k)) + 1) (al' := [.ref m, .int (nI t), .int ((nI (dpt (fun j => I (m + 1) (144 + 96 * t + j)) k)) + 1), .int (nI n), .int (nI k), .int (I (m + 1) (144 + 96 * t + k))]) dX11_worksOut_80 rfl (by rw [c_1]) rfl rfl rfl ?_
          refine v_goto (tgt := 150) dX11_worksOut_83 (by decide) ?_
          refine v_iinc (n := 153) (v := (nI k) + 1) (al' := [.ref m, .int (nI t), .int ((nI (dpt (fun j => I (m + 1) (144 + 96 * t + j)) k)) + 1), .int (nI n), .int ((nI k) + 1), .int (I (m + 1) (144 + 96 * t + k))]) dX11_worksOut_150 rfl (by rw [c_1]) rfl rfl rfl ?_
          refine v_goto (tgt := 21) dX11_worksOut_153 (by decide) ?_
          refine v_drop 5 (al' := [.ref m, .int (nI t), .int ((nI (dpt (fun j => I (m + 1) (144 + 96 * t + j)) k)) + 1), .int (nI n), .int ((nI k) + 1), JJ]) rfl ?_
          rw [nI_1 k]
          rw [nI_1, ← hd1, row_setS]
          refine ih (k + 1) hlt (by omega) _ ?_
          rw [wkL, wkStep, if_neg hq47]
          rw [← hlen]
          rw [if_neg hq60]
          exact hS.push

set_option maxRecDepth 100000 in
set_option maxHeartbeats 1000000 in
theorem k_X11_worksOut {ro : Ro} {S : St} {I : In} {m t n nf na : Nat} (L : LayM S m) (ht : t < 14) (hn : I (m + 1) (116 + 2 * t) % 1000 = nI n) (h : WFT (fun j => I (m + 1) (144 + 96 * t + j)) nf n na) (hnf : nf ≤ 4) : Ok mX11_worksOut ro 1 0 0 [.ref m, .int (nI t)] S I (fun r S' I' => r = some (.int ((wkL (fun j => I (m + 1) (144 + 96 * t + j)) (I (m + 13)) n).headD 0)) ∧ S' = S ∧ ∃ f, I' = row I (m + 12) f) := by
  refine ok_of (al := [.ref m, .int (nI t), JJ, JJ, JJ, JJ]) (by decide) (l8 rfl) rfl ?_
  refine v_iconst (n := 1) (v := 0) dX11_worksOut_0 c_0 rfl ?_
  refine v_istore_n (n := 2) (al' := [.ref m, .int (nI t), .int 0, JJ, JJ, JJ]) dX11_worksOut_1 rfl rfl rfl rfl ?_
  refine v_aload_n (n := 3) dX11_worksOut_2 rfl rfl rfl ?_
  refine v_getR (n := 6) f_X11_9 rfl L.s L.g0 dX11_worksOut_3 rfl ?_
  refine v_bipush (n := 8) (v := 116) dX11_worksOut_6 b_116 rfl ?_
  refine v_iconst (n := 9) (v := 2) dX11_worksOut_8 c_2 rfl ?_
  refine v_iload_n (n := 10) dX11_worksOut_9 rfl rfl rfl ?_
  refine v_imul (n := 11) dX11_worksOut_10 rfl ?_
  refine v_iadd (n := 12) dX11_worksOut_11 rfl ?_
  refine v_iald (n := 13) (j := 116 + 2 * t) L.c0 (ix_of (i_ta t) (by omega) (by decide)) dX11_worksOut_12 rfl ?_
  refine v_sipush (n := 16) (v := 1000) dX11_worksOut_13 s_1000 rfl ?_
  refine v_irem (n := 17) dX11_worksOut_16 (by decide) rfl ?_
  refine v_istore_n (n := 18) (al' := [.ref m, .int (nI t), .int 0, .int ((I (m + 1) (116 + 2 * t)) % 1000), JJ, JJ]) dX11_worksOut_17 rfl rfl rfl rfl ?_
  refine v_iconst (n := 19) (v := 0) dX11_worksOut_18 c_0 rfl ?_
  refine v_istore (n := 21) (al' := [.ref m, .int (nI t), .int 0, .int ((I (m + 1) (116 + 2 * t)) % 1000), .int 0, JJ]) dX11_worksOut_19 rfl rfl rfl ?_
  rw [hn]
  refine v_I (I' := row I (m + 12) (I (m + 12))) row_id.symm ?_
  exact l_X11_worksOut L ht h hnf (n + 1) 0 (Nat.zero_le _) (by omega) _ trivial

