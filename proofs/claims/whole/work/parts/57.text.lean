/-! ===== the reference: text ===== -/
theorem ev_fuel {t : Ar} {n key : Nat} : ∀ f tt i p b (s : PS), tt ≤ 5 → TW t n s.1 → 10 * (n - s.1.2.1) + (7 - tt) ≤ f → (ev t n key f tt i p b s).1 = 0 ∨ (ev t n key f tt i p b s).1 = 1 := by
  intro f
  induction f with
  | zero => intro tt i p b s ht hw hf; omega
  | succ f ih =>
    intro tt i p b s ht hw hf
    have hfl := hw.fle
    rw [ev]
    by_cases c5 : tt = 5
    · rw [if_pos c5]
      by_cases c1 : 0 ≤ atF t key s.1
      · rw [if_pos c1]; exact Or.inr rfl
      · rw [if_neg c1]
        by_cases c2 : (s.1.1 = 3 ∧ t s.1.2.1 = 33) ∧ b < 8
        · rw [if_pos c2]
          have hlt := hw.lt (by omega)
          have h2 := hw.nx.fle
          have IH := ih 5 0 p (b + 1) (nxT t n s.1, s.2) (Nat.le_refl _) hw.nx (by show 10 * (n - (nxT t n s.1).2.1) + _ ≤ _; omega)
          unfold afN
          by_cases q : (ev t n key f 5 0 p (b + 1) (nxT t n s.1, s.2)).1 = 1
          · rw [if_pos q]; exact Or.inr rfl
          · rw [if_neg q]; exact IH
        · rw [if_neg c2]
          by_cases c3 : (s.1.1 = 3 ∧ t s.1.2.1 = 40) ∧ p < 8
          · rw [if_pos c3]
            have hlt := hw.lt (by omega)
            have h2 := hw.nx.fle
            have IH := ih 0 0 (p + 1) b (nxT t n s.1, s.2) (Nat.zero_le _) hw.nx (by show 10 * (n - (nxT t n s.1).2.1) + _ ≤ _; omega)
            unfold afP
            by_cases q : (ev t n key f 0 0 (p + 1) b (nxT t n s.1, s.2)).1 = 1
            · rw [if_pos q]
              split
              · exact Or.inr rfl
              · exact Or.inl rfl
            · rw [if_neg q]; exact IH
          · rw [if_neg c3]; exact Or.inl rfl
    · rw [if_neg c5]
      by_cases c0 : i = 0
      · rw [if_pos c0]
        have IH := ih (tt + 1) 0 p b s (by omega) hw (by omega)
        by_cases q : (ev t n key f (tt + 1) 0 p b s).1 = 1
        · rw [if_pos q]
          obtain ⟨a1, a2, a3, a4, -⟩ := evA f (tt + 1) 0 p b s (by omega) hw q
          have a4' := a4 (decide_eq_true (Or.inr rfl))
          have h2 := a1.fle
          exact ih tt 1 p b _ ht a1 (by omega)
        · rw [if_neg q]; exact IH
      · rw [if_neg c0]
        by_cases c1 : i - 1 < most tt ∧ lvT t s.1 = tt
        · rw [if_pos c1]
          have k1 := (lvT_3 c1.2 (by omega)).1
          have hlt := hw.lt (by omega)
          have h2 := hw.nx.fle
          have IH := ih (tt + 1) 0 p b (nxT t n s.1, s.2) (by omega) hw.nx (by show 10 * (n - (nxT t n s.1).2.1) + _ ≤ _; omega)
          by_cases q : (ev t n key f (tt + 1) 0 p b (nxT t n s.1, s.2)).1 = 1
          · rw [if_pos q]
            obtain ⟨a1, a2, a3, a4, -⟩ := evA f (tt + 1) 0 p b (nxT t n s.1, s.2) (by omega) hw.nx q
            have a3' : (nxT t n s.1).2.1 ≤ (ev t n key f (tt + 1) 0 p b (nxT t n s.1, s.2)).2.1.2.1 := a3
            have h3 := a1.fle
            exact ih tt (i + 1) p b _ ht a1 (by show 10 * (n - (ev t n key f (tt + 1) 0 p b (nxT t n s.1, s.2)).2.1.2.1) + _ ≤ _; omega)
          · rw [if_neg q]; exact IH
        · rw [if_neg c1]; exact Or.inr rfl
def fs1 (t : Ar) (n : Nat) : TS := nxT t n (0, 0, 0)
def kyT (t : Ar) (n : Nat) : Nat := keyF t (fs1 t n)
def psR (t : Ar) (n : Nat) : Nat × PS := ev t n (kyT t n) (100 + 20 * n) 0 0 0 0 (nxT t n (fs1 t n), [], 0)
def okT (t : Ar) (n : Nat) : Bool := decide (kyT t n < 3) && (decide ((psR t n).1 = 1) && decide ((psR t n).2.1.1 = 0))
/-- where the FAULT is -/
def ftP (t : Ar) (n : Nat) : Nat := if kyT t n < 3 then (psR t n).2.1.2.1 else (fs1 t n).2.1
def cdL (cs : List Int32) : Ar := fun k => cs.reverse.getD k 0
def uA (X : Ar) (off : Nat) (f : Ar) (k : Nat) : Ar := fun j => if off ≤ j ∧ j < off + k then f (j - off) else X j
def txX (X : Ar) (T key : Nat) (cd : Ar) (len na : Nat) : Ar := upd (uA (upd (upd X (116 + 2 * T) (nI (1000 * key + len))) (117 + 2 * T) (nI na)) (144 + 96 * T) cd len) 9 (nI (T + 1))
def textS (t : Ar) (n : Nat) (X : Ar) (T : Nat) : Int32 × Ar := if okT t n = true then (if X 9 = 14 then (-1000000003, X) else (nI T, txX X T (kyT t n) (cdL (psR t n).2.2.1) (psR t n).2.2.1.length (psR t n).2.2.2)) else (-100 - nI (ftP t n), X)
theorem TW.f1 {t : Ar} {n : Nat} : TW t n (fs1 t n) := TW.z.nx
theorem ps_01 (t : Ar) (n : Nat) (hn : n ≤ 96) : (psR t n).1 = 0 ∨ (psR t n).1 = 1 := ev_fuel (100 + 20 * n) 0 0 0 0 (nxT t n (fs1 t n), [], 0) (by decide) TW.f1.nx (by have := (TW.f1 (t := t) (n := n)).nx.fle; show 10 * (n - (nxT t n (fs1 t n)).2.1) + (7 - 0) ≤ 100 + 20 * n; omega)
theorem stk_cd {f : Ar} : ∀ {cs : List Int32}, Stk f cs → ∀ k, k < cs.length → f k = cdL cs k
  | [], _, k, hk => absurd hk (by simp)
  | c :: cs, h, k, hk => by
    rw [List.length_cons] at hk
    unfold cdL
    rw [List.reverse_cons]
    by_cases e : k < cs.length
    · rw [stk_cd h.2 k e]
      unfold cdL
      rw [List.getD_eq_getElem?_getD, List.getD_eq_getElem?_getD, List.getElem?_append_left (by rw [List.length_reverse]; exact e)]
    · have e2 : k = cs.length := by omega
      rw [List.getD_eq_getElem?_getD, List.getElem?_append_right (by rw [List.length_reverse]; omega), e2, List.length_reverse, Nat.sub_self]
      exact h.1
theorem uA_s {X : Ar} {off k : Nat} {f : Ar} : upd (uA X off f k) (off + k) (f k) = uA X off f (k + 1) := by
  funext j
  unfold uA
  by_cases h : j = off + k
  · rw [h, pk_us, if_pos (by omega), show off + k - off = k by omega]
  · rw [pk_un h]
    by_cases h2 : off ≤ j ∧ j < off + k
    · rw [if_pos h2, if_pos (by omega)]
    · rw [if_neg h2, if_neg (by omega)]
theorem uA_c {X : Ar} {off k : Nat} {f g : Ar} (h : ∀ j, j < k → f j = g j) : uA X off f k = uA X off g k := by
  funext j
  unfold uA
  by_cases h2 : off ≤ j ∧ j < off + k
  · rw [if_pos h2, if_pos h2, h _ (by omega)]
  · rw [if_neg h2, if_neg h2]
theorem uA_0 {X : Ar} {off : Nat} {f : Ar} : uA X off f 0 = X := by
  funext j
  exact if_neg (by omega)
def FrT (m : Nat) (I J : In) : Prop := (∀ k, (k < 7 ∨ 20 < k) → J m k = I m k) ∧ ∀ a, a ≠ m → a ≠ m + 1 → (a < m + 9 ∨ m + 11 < a) → J a = I a
def XtQ (S : St) (I : In) (m : Nat) (F : Int32 × Ar) : Option Value → St → In → Prop := fun r S' I' => S' = S ∧ r = some (.int F.1) ∧ I' (m + 1) = F.2 ∧ I' m 7 = 0 ∧ FrT m I I'

def FrE' (m : Nat) (I J : In) : Prop := (∀ k, (k < 8 ∨ 20 < k) → J m k = I m k) ∧ ∀ a, a ≠ m → (a < m + 9 ∨ m + 11 < a) → J a = I a
set_option maxRecDepth 100000 in
set_option maxHeartbeats 1000000 in
theorem a_X11_text {ro : Ro} {S : St} {I J : In} {m n T : Nat} {t X : Ar} (L : LayM S m) (hX : I (m + 1) = X) (hF : FrE' m I J) (hok : okT t n = false) (h9 : J m 9 = nI (ftP t n)) : V RX11 cX11_text 4 (some .int) "text" ro (rmD 4 0 0) (QM 0 0 (XtQ S I m (textS t n X T))) 0 0 33 [.ref m, JJ, JJ, JJ] [.int 0] S J := by
  refine v_istore_n (n := 34) (al' := [.ref m, .int 0, JJ, JJ]) dX11_text_33 rfl rfl rfl rfl ?_
  refine v_aload_n (n := 35) dX11_text_34 rfl rfl rfl ?_
  refine v_iconst (n := 36) (v := 0) dX11_text_35 c_0 rfl ?_
  refine v_putI (n := 39) f_X11_186 rfl (Or.inl rfl) L.s dX11_text_36 rfl ?_
  refine v_iload_n (n := 40) dX11_text_39 rfl rfl rfl ?_
  refine v_if_ne (n := 43) (tgt := 51) dX11_text_40 (by decide) rfl (fun hq40 => ?_) (fun hq40 => ?_)
  · exact absurd rfl hq40
  · refine v_bipush (n := 45) (v := (-100)) dX11_text_43 b_m100 rfl ?_
    refine v_aload_n (n := 46) dX11_text_45 rfl rfl rfl ?_
    refine v_getI (n := 49) f_X11_193 rfl L.s dX11_text_46 rfl ?_
    rw [sI_k (by decide), h9]
    refine v_isub (n := 50) dX11_text_49 rfl ?_
    rw [textS, if_neg (by rw [hok]; decide)]
    exact v_iret rfl ⟨rfl, rfl, by rw [setI_ne (by omega), hF.2 _ (by omega) (by omega)]; exact hX, sI_s, fun k hk => by rw [sI_k (by omega)]; exact hF.1 k (by omega), fun a h1 h2 h3 => by rw [setI_ne h1]; exact hF.2 a h1 h3⟩ ⟨l8 rfl, l8 rfl⟩ dX11_text_50

set_option maxRecDepth 100000 in
set_option maxHeartbeats 1000000 in
theorem l_X11_text {ro : Ro} {S : St} {I J0 : In} {m n T : Nat} {t X : Ar} (L : LayM S m) (hX : I (m + 1) = X) {cd : Ar} (hT : T < 14) (h17 : J0 m 17 = nI (psR t n).2.2.1.length) (hlen : (psR t n).2.2.1.length ≤ 96) (hcd : J0 (m + 9) = cd) (hsk : ∀ k, k < (psR t n).2.2.1.length → cd k = cdL (psR t n).2.2.1 k) (hF : FrT m I J0) (h70 : J0 m 7 = 0) (hok : okT t n = true) (hX9 : X 9 = nI T) : ∀ c k J, k ≤ (psR t n).2.2.1.length → (psR t n).2.2.1.length < k + c → (∀ a, a ≠ m + 1 → J a = J0 a) → J (m + 1) = uA (upd (upd X (116 + 2 * T) (nI (1000 * kyT t n + (psR t n).2.2.1.length))) (117 + 2 * T) (nI (psR t n).2.2.2)) (144 + 96 * T) cd k → V RX11 cX11_text 4 (some .int) "text" ro (rmD 4 0 0) (QM 0 0 (XtQ S I m (textS t n X T))) 0 0 117 [.ref m, JJ, .int (nI T), .int (nI k)] [] S J := by
  intro c
  induction c with
  | zero => intro k J hk hc; exact absurd hc (by omega)
  | succ c ih =>
    intro k J hk hc hJ hr
    refine v_iload_n (n := 118) dX11_text_117 rfl rfl rfl ?_
    refine v_aload_n (n := 119) dX11_text_118 rfl rfl rfl ?_
    refine v_getI (n := 122) f_X11_223 rfl L.s dX11_text_119 rfl ?_
    rw [hJ m (by omega), h17]
    refine v_icmp_ge (n := 125) (tgt := 152) dX11_text_122 (by decide) rfl (fun hq122 => ?_) (fun hq122 => ?_)
    · have hke : k = (psR t n).2.2.1.length := Nat.le_antisymm hk (le_out hq122 (by omega) (by omega))
      refine v_aload_n (n := 153) dX11_text_152 rfl rfl rfl ?_
      refine v_getR (n := 156) f_X11_9 rfl L.s L.g0 dX11_text_153 rfl ?_
      refine v_bipush (n := 158) (v := 9) dX11_text_156 b_9 rfl ?_
      refine v_dup2 (n := 159) dX11_text_158 ⟨rfl, rfl⟩ rfl ?_
      refine v_iald (n := 160) (j := 9) L.c0 (ix_lit rfl rfl rfl) dX11_text_159 rfl ?_
      rw [hr, show uA (upd (upd X (116 + 2 * T) (nI (1000 * kyT t n + (psR t n).2.2.1.length))) (117 + 2 * T) (nI (psR t n).2.2.2)) (144 + 96 * T) cd k 9 = nI T from by unfold uA; rw [if_neg (by omega), pk_un (by omega), pk_un (by omega)]; exact hX9]
      refine v_iconst (n := 161) (v := 1) dX11_text_160 c_1 rfl ?_
      refine v_iadd (n := 162) dX11_text_161 rfl ?_
      rw [nI_1]
      refine v_iast (n := 163) (j := 9) L.c0 (ix_lit rfl rfl rfl) dX11_text_162 rfl ?_
      refine v_iload_n (n := 164) dX11_text_163 rfl rfl rfl ?_
      refine v_iret rfl ⟨rfl, by rw [textS, if_pos hok, if_neg (by rw [hX9]; exact fun z => absurd ((nI_eq (b := 14) (by omega) (by decide)).mp z) (by omega))], ?_, ?_, fun j hj => ?_, fun a h1 h2 h3 => ?_⟩ ⟨l8 rfl, l8 rfl⟩ dX11_text_164
      · rw [textS, if_pos hok, if_neg (by rw [hX9]; exact fun z => absurd ((nI_eq (b := 14) (by omega) (by decide)).mp z) (by omega)), sI_row, hr, hke, uA_c hsk]; rfl
      · rw [sI_o (by omega), hJ m (by omega)]; exact h70
      · rw [sI_o (by omega), hJ m (by omega)]; exact hF.1 j hj
      · rw [setI_ne h2, hJ a h2]; exact hF.2 a h1 h2 h3
    · have hlt := nle_in hq122 (by omega) (by omega)
      refine v_aload_n (n := 126) dX11_text_125 rfl rfl rfl ?_
      refine v_getR (n := 129) f_X11_9 rfl L.s L.g0 dX11_text_126 rfl ?_
      refine v_sipush (n := 132) (v := 144) dX11_text_129 s_144 rfl ?_
      refine v_bipush (n := 134) (v := 96) dX11_text_132 b_96 rfl ?_
      refine v_iload_n (n := 135) dX11_text_134 rfl rfl rfl ?_
      refine v_imul (n := 136) dX11_text_135 rfl ?_
      refine v_iadd (n := 137) dX11_text_136 rfl ?_
      refine v_iload_n (n := 138) dX11_text_137 rfl rfl rfl ?_
      refine v_iadd (n := 139) dX11_text_138 rfl ?_
      refine v_aload_n (n := 140) dX11_text_139 rfl rfl rfl ?_
      refine v_getR (n := 143) f_X11_35 rfl L.s L.g16 dX11_text_140 rfl ?_
      refine v_iload_n (n := 144) dX11_text_143 rfl rfl rfl ?_
      refine v_iald (n := 145) (j := k) L.c16 (ix_nI (by omega) (by decide)) dX11_text_144 rfl ?_
      rw [hJ _ (by omega), hcd]
      refine v_iast (n := 146) (j := 144 + 96 * T + k) L.c0 (ix_of (i_co T k) (by omega) (by decide)) dX11_text_145 rfl ?_
      refine v_iinc (n := 149) (v := (nI k) + 1) (al' := [.ref m, JJ, .int (nI T), .int ((nI k) + 1)]) dX11_text_146 rfl (by rw [c_1]) rfl rfl rfl ?_
      refine v_goto (tgt := 117) dX11_text_149 (by decide) ?_
      rw [nI_1]
      exact ih (k + 1) _ hlt (by omega) (fun a ha => by rw [setI_ne ha]; exact hJ a ha) (by rw [sI_row, hr, uA_s])

theorem i_tb (i : Nat) : 116 + 2 * nI i + 1 = nI (117 + 2 * i) := by
  rw [i_ta, nI_1]; congr 1; omega
set_option maxRecDepth 100000 in
set_option maxHeartbeats 1000000 in
theorem b_X11_text {ro : Ro} {S : St} {I J : In} {m n T : Nat} {t X : Ar} (L : LayM S m) (hX : I (m + 1) = X) (hF : FrE' m I J) (hok : okT t n = true) (hsk : Stk (J (m + 9)) (psR t n).2.2.1) (h17 : J m 17 = nI (psR t n).2.2.1.length) (h18 : J m 18 = nI (psR t n).2.2.2) (h13 : J m 13 = nI (kyT t n)) (hlen : (psR t n).2.2.1.length ≤ 96) (hX9 : X 9 = nI T) (hT14 : T ≤ 14) : V RX11 cX11_text 4 (some .int) "text" ro (rmD 4 0 0) (QM 0 0 (XtQ S I m (textS t n X T))) 0 0 33 [.ref m, JJ, JJ, JJ] [.int 1] S J := by
  have hj1 : J (m + 1) = X := by rw [hF.2 _ (by omega) (by omega)]; exact hX
  refine v_istore_n (n := 34) (al' := [.ref m, .int 1, JJ, JJ]) dX11_text_33 rfl rfl rfl rfl ?_
  refine v_aload_n (n := 35) dX11_text_34 rfl rfl rfl ?_
  refine v_iconst (n := 36) (v := 0) dX11_text_35 c_0 rfl ?_
  refine v_putI (n := 39) f_X11_186 rfl (Or.inl rfl) L.s dX11_text_36 rfl ?_
  refine v_iload_n (n := 40) dX11_text_39 rfl rfl rfl ?_
  refine v_if_ne (n := 43) (tgt := 51) dX11_text_40 (by decide) rfl (fun hq40 => ?_) (fun hq40 => ?_)
  · refine v_aload_n (n := 52) dX11_text_51 rfl rfl rfl ?_
    refine v_getR (n := 55) f_X11_9 rfl L.s L.g0 dX11_text_52 rfl ?_
    refine v_bipush (n := 57) (v := 9) dX11_text_55 b_9 rfl ?_
    refine v_iald (n := 58) (j := 9) L.c0 (ix_lit rfl rfl rfl) dX11_text_57 rfl ?_
    rw [setI_ne (by omega), hj1]
    refine v_bipush (n := 60) (v := 14) dX11_text_58 b_14 rfl ?_
    refine v_icmp_ne (n := 63) (tgt := 66) dX11_text_60 (by decide) rfl (fun hq60 => ?_) (fun hq60 => ?_)
    · have hT : T < 14 := by have : ¬ T = 14 := fun z => hq60 (by rw [hX9, z]; rfl); omega
      refine v_aload_n (n := 67) dX11_text_66 rfl rfl rfl ?_
      refine v_getR (n := 70) f_X11_9 rfl L.s L.g0 dX11_text_67 rfl ?_
      refine v_bipush (n := 72) (v := 9) dX11_text_70 b_9 rfl ?_
      refine v_iald (n := 73) (j := 9) L.c0 (ix_lit rfl rfl rfl) dX11_text_72 rfl ?_
      rw [setI_ne (by omega), hj1, hX9]
      refine v_istore_n (n := 74) (al' := [.ref m, .int 1, .int (nI T), JJ]) dX11_text_73 rfl rfl rfl rfl ?_
      refine v_aload_n (n := 75) dX11_text_74 rfl rfl rfl ?_
      refine v_getR (n := 78) f_X11_9 rfl L.s L.g0 dX11_text_75 rfl ?_
      refine v_bipush (n := 80) (v := 116) dX11_text_78 b_116 rfl ?_
      refine v_iconst (n := 81) (v := 2) dX11_text_80 c_2 rfl ?_
      refine v_iload_n (n := 82) dX11_text_81 rfl rfl rfl ?_
      refine v_imul (n := 83) dX11_text_82 rfl ?_
      refine v_iadd (n := 84) dX11_text_83 rfl ?_
      refine v_sipush (n := 87) (v := 1000) dX11_text_84 s_1000 rfl ?_
      refine v_aload_n (n := 88) dX11_text_87 rfl rfl rfl ?_
      refine v_getI (n := 91) f_X11_211 rfl L.s dX11_text_88 rfl ?_
      rw [sI_k (by decide), h13]
      refine v_imul (n := 92) dX11_text_91 rfl ?_
      refine v_aload_n (n := 93) dX11_text_92 rfl rfl rfl ?_
      refine v_getI (n := 96) f_X11_223 rfl L.s dX11_text_93 rfl ?_
      rw [sI_k (by decide), h17]
      refine v_iadd (n := 97) dX11_text_96 rfl ?_
      rw [show (1000 : Int32) = nI 1000 from rfl, pk_mul, nI_add]
      refine v_iast (n := 98) (j := 116 + 2 * T) L.c0 (ix_of (i_ta T) (by omega) (by decide)) dX11_text_97 rfl ?_
      refine v_aload_n (n := 99) dX11_text_98 rfl rfl rfl ?_
      refine v_getR (n := 102) f_X11_9 rfl L.s L.g0 dX11_text_99 rfl ?_
      refine v_bipush (n := 104) (v := 116) dX11_text_102 b_116 rfl ?_
      refine v_iconst (n := 105) (v := 2) dX11_text_104 c_2 rfl ?_
      refine v_iload_n (n := 106) dX11_text_105 rfl rfl rfl ?_
      refine v_imul (n := 107) dX11_text_106 rfl ?_
      refine v_iadd (n := 108) dX11_text_107 rfl ?_
      refine v_iconst (n := 109) (v := 1) dX11_text_108 c_1 rfl ?_
      refine v_iadd (n := 110) dX11_text_109 rfl ?_
      refine v_aload_n (n := 111) dX11_text_110 rfl rfl rfl ?_
      refine v_getI (n := 114) f_X11_229 rfl L.s dX11_text_111 rfl ?_
      rw [sI_o (by omega), sI_k (by decide), h18]
      refine v_iast (n := 115) (j := 117 + 2 * T) L.c0 (ix_of (i_tb T) (by omega) (by decide)) dX11_text_114 rfl ?_
      refine v_iconst (n := 116) (v := 0) dX11_text_115 c_0 rfl ?_
      refine v_istore_n (n := 117) (al' := [.ref m, .int 1, .int (nI T), .int 0]) dX11_text_116 rfl rfl rfl rfl ?_
      refine v_drop 1 (al' := [.ref m, JJ, .int (nI T), .int 0]) rfl ?_
      exact l_X11_text (J0 := (setI J m 7 0)) L hX hT (by rw [sI_k (by decide)]; exact h17) hlen rfl (fun k hk => by rw [setI_ne (by omega)]; exact stk_cd hsk k hk) ⟨fun k hk => by rw [sI_k (by omega)]; exact hF.1 k (by omega), fun a h1 h2 h3 => by rw [setI_ne h1]; exact hF.2 a h1 h3⟩ sI_s hok hX9 ((psR t n).2.2.1.length + 1) 0 (setI (setI (setI J m 7 0) (m + 1) (116 + 2 * T) (nI (1000 * kyT t n + (psR t n).2.2.1.length))) (m + 1) (117 + 2 * T) (nI (psR t n).2.2.2)) (Nat.zero_le _) (by omega) (fun a ha => by rw [setI_ne ha, setI_ne ha]) (by rw [uA_0, sI_row, sI_row, setI_ne (by omega), hj1])
    · refine v_ldc (n := 65) k_X11_91 dX11_text_63 rfl ?_
      rw [textS, if_pos hok, if_pos hq60]
      exact v_iret rfl ⟨rfl, rfl, by rw [setI_ne (by omega)]; exact hj1, sI_s, fun k hk => by rw [sI_k (by omega)]; exact hF.1 k (by omega), fun a h1 h2 h3 => by rw [setI_ne h1]; exact hF.2 a h1 h3⟩ ⟨l8 rfl, l8 rfl⟩ dX11_text_65
  · exact absurd hq40 (by decide)

theorem FrE.p {m : Nat} {I J : In} (h : FrE m I J) : FrE' m I J := ⟨fun k hk => h.1 k (by omega), h.2⟩
theorem FrE'.tr {m : Nat} {I J J2 : In} (h : FrE' m I J) (h2 : FrE' m J J2) : FrE' m I J2 := ⟨fun k hk => (h2.1 k hk).trans (h.1 k hk), fun a h3 h4 => (h2.2 a h3 h4).trans (h.2 a h3 h4)⟩
set_option maxRecDepth 100000 in
set_option maxHeartbeats 1000000 in
theorem k_X11_text {ro : Ro} {S : St} {I : In} {m n T : Nat} {t X : Ar} (L : LayM S m) (hX : I (m + 1) = X) (h7 : I m 7 = nI n) (hn : n ≤ 96) (ht : I (m + 6) = t) (hK : KyM I m) (hX9 : X 9 = nI T) (hT14 : T ≤ 14) : Ok mX11_text ro 4 0 0 [.ref m] S I (XtQ S I m (textS t n X T)) := by
  refine ok_of (al := [.ref m, JJ, JJ, JJ]) (by decide) (l8 rfl) rfl ?_
  refine v_aload_n (n := 1) dX11_text_0 rfl rfl rfl ?_
  refine v_iconst (n := 2) (v := 0) dX11_text_1 c_0 rfl ?_
  refine v_putI (n := 5) f_X11_190 rfl (Or.inl rfl) L.s dX11_text_2 rfl ?_
  refine v_aload_n (n := 6) dX11_text_5 rfl rfl rfl ?_
  refine v_iconst (n := 7) (v := (-1)) dX11_text_6 c_m1 rfl ?_
  refine v_putI (n := 10) f_X11_196 rfl (Or.inl rfl) L.s dX11_text_7 rfl ?_
  refine v_aload_n (n := 11) dX11_text_10 rfl rfl rfl ?_
  refine v_callV (n := 14) mc_X11_go l_X11_214 iv_X11_go se_X11_go (ci := 10) ⟨by decide, rfl⟩ L.s (k_X11_go (s := (0, 0, 0)) (n := n) (t := t) L (by rw [sI_k (by decide), sI_k (by decide)]; exact h7) hn (by rw [setI_ne (by omega), setI_ne (by omega)]; exact ht) (by rw [sI_k (by decide), sI_s]; rfl) (Nat.zero_le _) (fun z => by rcases z with z | z <;> cases z) (fun _ => by rw [sI_s]; decide)) ⟨rfl, rfl⟩ (l8 rfl) ⟨l8 rfl, l8 rfl⟩ rfl rfl (l8 rfl) dX11_text_11 rfl ?_
  rintro _ _ J1 ⟨rfl, hS9, hT1, hF1⟩
  replace hS9 := hS9.symm
  subst hS9
  have hT1 : TkM J1 m t (fs1 t n) := hT1
  have hFr1 : FrE' m I J1 := ⟨fun k hk => by rw [hF1.1 k (fun z => by have := z.1; have := z.2; omega), sI_k (by omega), sI_k (by omega)], fun a h1 h2 => by rw [hF1.2 a h1, setI_ne h1, setI_ne h1]⟩
  have hK1 : KyM J1 m := ⟨fun j hj => by rw [hFr1.2 _ (by omega) (by omega)]; exact hK.1 j hj, fun j hj => by rw [hFr1.2 _ (by omega) (by omega)]; exact hK.2 j hj⟩
  refine v_aload_n (n := 15) dX11_text_14 rfl rfl rfl ?_
  refine v_callV (n := 18) mc_X11_takesKey l_X11_245 iv_X11_takesKey se_X11_takesKey (ci := 10) ⟨by decide, rfl⟩ L.s (k_X11_takesKey (s := fs1 t n) (n := n) (t := t) L (by rw [hFr1.1 7 (by omega)]; exact h7) hn (by rw [hFr1.2 _ (by omega) (by omega)]; exact ht) hT1 TW.f1 hK1) ⟨rfl, rfl⟩ (l8 rfl) ⟨l8 rfl, l8 rfl⟩ rfl rfl (l8 rfl) dX11_text_15 rfl ?_
  rintro _ _ J2 ⟨hS9, hor⟩
  replace hS9 := hS9.symm
  subst hS9
  rcases hor with ⟨hk3, rfl, hT2, h13, hF2⟩ | ⟨hk3, rfl, rfl⟩
  · have hFr : FrE' m I J2 := ⟨fun k hk => by rw [hF2.1 k (fun z => z.elim (fun y => by have := y.1; have := y.2; omega) (fun y => by omega))]; exact hFr1.1 k hk, fun a h1 h2 => by rw [hF2.2 a h1]; exact hFr1.2 a h1 h2⟩
    refine v_if_eq (n := 21) (tgt := 32) dX11_text_18 (by decide) rfl (fun hq18 => ?_) (fun hq18 => ?_)
    · exact absurd hq18 (by decide)
    · have hk3 : kyT t n < 3 := hk3
      have h13 : J2 m 13 = nI (kyT t n) := h13
      have hsim := sim_top (t := t) (te := fun _ => false) hn (TW.f1 (t := t) (n := n)).nx rfl (rfl : psR t n = psR t n)
      rcases Bool.eq_false_or_eq_true (okT t n) with hok | hok
      · have hokk := Bool.and_eq_true_iff.mp hok
        have hok2 := Bool.and_eq_true_iff.mp hokk.2
        obtain ⟨nn, hnn⟩ := hsim.1 ⟨of_decide_eq_true hok2.1, of_decide_eq_true hok2.2⟩
        have hR := hnn 100
        have hA := evA (t := t) (L := n) (key := kyT t n) (100 + 20 * n) 0 0 0 0 (nxT t n (fs1 t n), [], 0) (by decide) TW.f1.nx (of_decide_eq_true hok2.1)
        have hl96 : (psR t n).2.2.1.length ≤ 96 := by have h1 : (nxT t n (fs1 t n)).2.1 + (psR t n).2.2.1.length ≤ (psR t n).2.1.2.1 + 0 := hA.2.1; have h2 : (psR t n).2.1.2.1 ≤ n := hA.1.fle; omega
        refine v_aload_n (n := 22) dX11_text_21 rfl rfl rfl ?_
        refine v_callV (n := 25) mc_X11_takesE l_X11_248 iv_X11_takesE se_X11_takesE (ci := 10) ⟨by decide, rfl⟩ L.s (k_X11_takesE (F := nn + 100) (te := fun _ => false) L (by rw [hFr.1 7 (by omega)]; exact h7) hn (by rw [hFr.2 _ (by omega) (by omega)]; exact ht) h13 hk3 hT2 TW.f1.nx rfl (by omega)) ⟨rfl, rfl⟩ (l8 rfl) ⟨l8 rfl, l8 rfl⟩ rfl rfl (l8 rfl) dX11_text_22 rfl ?_
        rintro _ _ J3 ⟨hS9, rfl, h9f, h9k, hF3⟩
        replace hS9 := hS9.symm
        subst hS9
        rw [show bi (lp t n (kyT t n) (nn + 100) (nxT t n (fs1 t n)) [] 0 [] 0 0 true (fun _ => false)).1 = 1 from by rw [hR]; rfl]
        refine v_if_eq (n := 28) (tgt := 32) dX11_text_25 (by decide) rfl (fun hq25 => ?_) (fun hq25 => ?_)
        · exact absurd hq25 (by decide)
        · refine v_iconst (n := 29) (v := 1) dX11_text_28 c_1 rfl ?_
          refine v_goto (tgt := 33) dX11_text_29 (by decide) ?_
          refine b_X11_text L hX (hFr.tr (FrE.p hF3)) hok ?_ ?_ ?_ (by rw [hF3.1 13 (by omega)]; exact h13) hl96 hX9 hT14
          · rw [hR] at h9k; exact (h9k rfl).1
          · rw [hR] at h9k; exact (h9k rfl).2.1
          · rw [hR] at h9k; exact (h9k rfl).2.2
      · have h0 : (psR t n).1 = 0 ∨ ((psR t n).1 = 1 ∧ ¬ (psR t n).2.1.1 = 0) := by
          rcases ps_01 t n hn with q | q
          · exact Or.inl q
          · refine Or.inr ⟨q, fun z => ?_⟩
            have : okT t n = true := by unfold okT; rw [decide_eq_true hk3, decide_eq_true q, decide_eq_true z]; rfl
            rw [hok] at this; cases this
        obtain ⟨nn, c9, a9, hnn⟩ := hsim.2 h0
        have hR := hnn 100
        refine v_aload_n (n := 22) dX11_text_21 rfl rfl rfl ?_
        refine v_callV (n := 25) mc_X11_takesE l_X11_248 iv_X11_takesE se_X11_takesE (ci := 10) ⟨by decide, rfl⟩ L.s (k_X11_takesE (F := nn + 100) (te := fun _ => false) L (by rw [hFr.1 7 (by omega)]; exact h7) hn (by rw [hFr.2 _ (by omega) (by omega)]; exact ht) h13 hk3 hT2 TW.f1.nx rfl (by omega)) ⟨rfl, rfl⟩ (l8 rfl) ⟨l8 rfl, l8 rfl⟩ rfl rfl (l8 rfl) dX11_text_22 rfl ?_
        rintro _ _ J3 ⟨hS9, rfl, h9f, h9k, hF3⟩
        replace hS9 := hS9.symm
        subst hS9
        rw [show bi (lp t n (kyT t n) (nn + 100) (nxT t n (fs1 t n)) [] 0 [] 0 0 true (fun _ => false)).1 = 0 from by rw [hR]; rfl]
        refine v_if_eq (n := 28) (tgt := 32) dX11_text_25 (by decide) rfl (fun hq25 => ?_) (fun hq25 => ?_)
        · refine v_iconst (n := 33) (v := 0) dX11_text_32 c_0 rfl ?_
          exact a_X11_text L hX (hFr.tr (FrE.p hF3)) hok (by rw [h9f, hR, ftP, if_pos hk3])
        · exact absurd rfl hq25
  · refine v_if_eq (n := 21) (tgt := 32) dX11_text_18 (by decide) rfl (fun hq18 => ?_) (fun hq18 => ?_)
    · refine v_iconst (n := 33) (v := 0) dX11_text_32 c_0 rfl ?_
      exact a_X11_text L hX hFr1 (by unfold okT; rw [decide_eq_false (show ¬ kyT t n < 3 by unfold kyT; omega)]; rfl) (by rw [hT1.2.1, ftP, if_neg (show ¬ kyT t n < 3 by unfold kyT; omega)])
    · exact absurd rfl hq18

