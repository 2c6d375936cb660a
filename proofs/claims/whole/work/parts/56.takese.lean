/-! ===== the reference: takesE ===== -/
def opC : List Int32 → Nat
  | [] => 0
  | w :: ws => opC ws + (if w = -11 then 1 else 0)
theorem op_stl {l : Nat} : ∀ ws cs : List Int32, opC (stl l ws cs).1 = opC ws
  | [], cs => rfl
  | w :: ws, cs => by
    rw [stl]
    by_cases c : ¬ w = -11 ∧ l ≤ rk w
    · rw [if_pos c, op_stl ws (w :: cs), opC, if_neg c.1]; rfl
    · rw [if_neg c]
theorem stl_len {l : Nat} : ∀ ws cs : List Int32, (stl l ws cs).1.length + (stl l ws cs).2.length = ws.length + cs.length
  | [], cs => rfl
  | w :: ws, cs => by
    rw [stl]
    by_cases c : ¬ w = -11 ∧ l ≤ rk w
    · rw [if_pos c, stl_len ws (w :: cs)]; simp only [List.length_cons]; omega
    · rw [if_neg c]
theorem op_head : ∀ ws cs : List Int32, 0 < opC ws → ∃ r, (stl 0 ws cs).1 = -11 :: r
  | [], cs, h => absurd h (by decide)
  | w :: ws, cs, h => by
    rw [stl]
    by_cases c : w = -11
    · rw [if_neg (fun z => z.1 c), c]; exact ⟨ws, rfl⟩
    · rw [if_pos ⟨c, Nat.zero_le _⟩]
      rw [opC, if_neg c] at h
      exact op_head ws (w :: cs) h
def FrE (m : Nat) (I J : In) : Prop := (∀ k, (k < 8 ∨ k = 13 ∨ 20 < k) → J m k = I m k) ∧ ∀ a, a ≠ m → (a < m + 9 ∨ m + 11 < a) → J a = I a
theorem FrE.tr {m : Nat} {I J J2 : In} (h : FrE m I J) (h2 : FrE m J J2) : FrE m I J2 := ⟨fun k hk => (h2.1 k hk).trans (h.1 k hk), fun a h3 h4 => (h2.2 a h3 h4).trans (h.2 a h3 h4)⟩
theorem FrE.go {m : Nat} {I J : In} (h : Fr m K5 I J) : FrE m I J := ⟨fun k hk => h.1 k (fun z => by have := z.1; have := z.2; omega), fun a h1 _ => h.2 a h1⟩
theorem FrE.st {m : Nat} {I J : In} (h : FrS m I J) : FrE m I J := ⟨fun k hk => h.1 k (by omega) (by omega), fun a h1 h2 => h.2 a h1 (by omega)⟩
theorem FrE.kk {m : Nat} {I J : In} (h : FrK m I J) : FrE m I J := ⟨fun k hk => h.1 k (fun z => by have := z.1; have := z.2; omega) (by omega) (by omega) (by omega), fun a h1 h2 => h.2 a h1 (by omega)⟩
theorem FrE.s0 {m k : Nat} {I J : In} {x : Int32} (h : FrE m I J) (hk : ¬ (k < 8 ∨ k = 13 ∨ 20 < k)) : FrE m I (setI J m k x) := ⟨fun j hj => by rw [sI_k (fun z => hk (by rw [← z]; exact hj))]; exact h.1 j hj, fun a h1 h2 => by rw [setI_ne h1]; exact h.2 a h1 h2⟩
theorem FrE.sA {m b k : Nat} {I J : In} {x : Int32} (h : FrE m I J) (hb : m + 9 ≤ b ∧ b ≤ m + 11) : FrE m I (setI J b k x) := ⟨fun j hj => by rw [sI_o (by omega)]; exact h.1 j hj, fun a h1 h2 => by rw [setI_ne (by omega)]; exact h.2 a h1 h2⟩
def EI (I J : In) (m n : Nat) (t : Ar) (ts : TS) (cs : List Int32) (a : Nat) (ws : List Int32) (p no : Nat) (te : Nat → Bool) : Prop := TkM J m t ts ∧ TW t n ts ∧ StM J m ws cs ∧ J m 18 = nI a ∧ (∀ j, j ≤ p → J (m + 11) j = bi (te j)) ∧ p = opC ws ∧ p ≤ 8 ∧ ws.length + cs.length ≤ ts.2.1 ∧ no ≤ 96 ∧ FrE m I J
def EQ (S : St) (I : In) (m : Nat) (R : Bool × PS) : Option Value → St → In → Prop := fun r S' I' => S' = S ∧ r = some (.int (bi R.1)) ∧ I' m 9 = nI R.2.1.2.1 ∧ (R.1 = true → Stk (I' (m + 9)) R.2.2.1 ∧ I' m 17 = nI R.2.2.1.length ∧ I' m 18 = nI R.2.2.2) ∧ FrE m I I'
theorem StM.mv {I J : In} {m : Nat} {ws cs : List Int32} (h : StM I m ws cs) (h1 : J m 17 = I m 17) (h2 : J m 20 = I m 20) (h3 : J (m + 9) = I (m + 9)) (h4 : J (m + 10) = I (m + 10)) : StM J m ws cs := by
  unfold StM; rw [h1, h2, h3, h4]; exact h
theorem StM.go {I J : In} {m : Nat} {ws cs : List Int32} (h : StM I m ws cs) (hF : Fr m K5 I J) : StM J m ws cs := h.mv (hF.1 17 (fun z => absurd z.2 (by decide))) (hF.1 20 (fun z => absurd z.2 (by decide))) (hF.2 _ (by omega)) (hF.2 _ (by omega))
theorem StM.psh {I : In} {m : Nat} {ws cs : List Int32} {x : Int32} (h : StM I m ws cs) : StM (setI (setI I (m + 10) ws.length x) m 20 (nI (ws.length + 1))) m (x :: ws) cs :=
  ⟨by rw [setI_ne (by omega), sI_row]; exact h.1.push, sI_s, by rw [setI_ne (by omega), setI_ne (by omega)]; exact h.2.2.1, by rw [sI_k (by decide), sI_o (by omega)]; exact h.2.2.2⟩
theorem EI.tl {I J : In} {m n : Nat} {t : Ar} {ts : TS} {cs : List Int32} {a : Nat} {ws : List Int32} {p no : Nat} {te : Nat → Bool} (h : EI I J m n t ts cs a ws p no te) : ts.2.1 ≤ n := h.2.1.fle
theorem nI_8 {q : Nat} (h : ¬ 8 ≤ nI q) (hq : q < 2 ^ 31) : q < 8 := by
  rcases Nat.lt_or_ge q 8 with z | z
  · exact z
  · exact absurd ((nI_leI (a := 8) (by decide) hq).mpr z) h
theorem nI_8' {q : Nat} (h : 8 ≤ nI q) (hq : q < 2 ^ 31) : ¬ q < 8 := Nat.not_lt.mpr ((nI_leI (a := 8) (by decide) hq).mp h)
theorem rk_3 {g : Int32} : nI (rk g) = 3 ↔ rk g = 3 := nI_eq (b := 3) (by have := rk_6 g; omega) (by decide)
theorem rk_le3 {g : Int32} : nI (rk g) ≤ 3 ↔ rk g ≤ 3 := nI_leI (b := 3) (by have := rk_6 g; omega) (by decide)

theorem FrE.rf {m : Nat} {I : In} : FrE m I I := ⟨fun _ _ => rfl, fun _ _ _ => rfl⟩
set_option maxRecDepth 100000 in
set_option maxHeartbeats 1000000 in
theorem a_X11_takesE {ro : Ro} {S : St} {I J : In} {m n key : Nat} {t : Ar} {ts : TS} {cs ws : List Int32} {a p no f : Nat} {te : Nat → Bool} (L : LayM S m) (h7 : I m 7 = nI n) (hn : n ≤ 96) (ht : I (m + 6) = t) (hk : I m 13 = nI key) (hkey : key < 3) (ih : ∀ ts cs a ws p no wa te J, EI I J m n t ts cs a ws p no te → n - ts.2.1 < f → V RX11 cX11_takesE 5 (some .boolean) "takesE" ro (rmD 3 0 0) (QM 0 0 (EQ S I m (lp t n key f ts cs a ws p no wa te))) 0 0 28 [.ref m, .int (nI p), .int (nI no), .int (bi wa), JJ] [] S J) {R : Bool × PS} (hE : EI I J m n t ts cs a ws p no te) (hf : n - ts.2.1 < f + 1) (hR : R = if 0 ≤ atF t key ts then lp t n key f (nxT t n ts) (stl 6 ws (atF t key ts :: cs)).2 (a + 1) (stl 6 ws (atF t key ts :: cs)).1 p (ntC (stl 6 ws (atF t key ts :: cs)).1) false te else (false, ts, cs, a)) : V RX11 cX11_takesE 5 (some .boolean) "takesE" ro (rmD 3 0 0) (QM 0 0 (EQ S I m R)) 0 0 158 [.ref m, .int (nI p), .int (nI no), .int (bi true), JJ] [] S J := by
  obtain ⟨hT, hw, hs, h18, hte, hop, hp8, hlen, hno, hF⟩ := hE
  have j7 : J m 7 = nI n := by rw [hF.1 7 (by omega)]; exact h7
  have j6 : J (m + 6) = t := by rw [hF.2 _ (by omega) (by omega)]; exact ht
  have j13 : J m 13 = nI key := by rw [hF.1 13 (by omega)]; exact hk
  have hfl := hw.fle
  refine v_aload_n (n := 159) dX11_takesE_158 rfl rfl rfl ?_
  refine v_callV (n := 162) mc_X11_takesPart l_X11_235 iv_X11_takesPart se_X11_takesPart (ci := 10) ⟨by decide, rfl⟩ L.s (k_X11_takesPart L j7 hn j6 j13 hkey hT hw hs hlen) ⟨rfl, rfl⟩ (l8 rfl) ⟨l8 rfl, l8 rfl⟩ rfl rfl (l8 rfl) dX11_takesE_159 rfl ?_
  rintro _ _ J1 ⟨hS9, hor⟩
  replace hS9 := hS9.symm
  subst hS9
  rcases hor with ⟨h0, rfl, hT1, hs1, h181, hF1⟩ | ⟨h0, rfl, rfl⟩
  · refine v_if_eq (n := 165) (tgt := 170) dX11_takesE_162 (by decide) rfl (fun hq162 => ?_) (fun hq162 => ?_)
    · exact absurd hq162 (by decide)
    · refine v_iconst (n := 166) (v := 0) dX11_takesE_165 c_0 rfl ?_
      refine v_istore_n (n := 167) (al' := [.ref m, .int (nI p), .int (nI no), .int 0, JJ]) dX11_takesE_166 rfl rfl rfl rfl ?_
      refine v_goto (tgt := 172) dX11_takesE_167 (by decide) ?_
      refine v_aload_n (n := 173) dX11_takesE_172 rfl rfl rfl ?_
      have hfL := hw.fL (by have := (at_ok hw h0).1; omega)
      have hl0 := stl_len (l := 6) ws (atF t key ts :: cs)
      rw [List.length_cons] at hl0
      refine v_cVi (n := 176) (x := (nI (ntC (stl 6 ws (atF t key ts :: cs)).1))) mc_X11_notsOpen l_X11_239 iv_X11_notsOpen se_X11_notsOpen (ci := 10) ⟨by decide, rfl⟩ L.s (k_X11_notsOpen (ws := (stl 6 ws (atF t key ts :: cs)).1) L hs1 (by omega)) ⟨rfl, rfl⟩ (l8 rfl) ⟨l8 rfl, l8 rfl⟩ rfl rfl (l8 rfl) dX11_takesE_173 rfl ?_
      refine v_istore_n (n := 177) (al' := [.ref m, .int (nI p), .int (nI (ntC (stl 6 ws (atF t key ts :: cs)).1)), .int 0, JJ]) dX11_takesE_176 rfl rfl rfl rfl ?_
      refine v_goto (tgt := 28) dX11_takesE_177 (by decide) ?_
      rw [hR, if_pos h0]
      have hl := stl_len (l := 6) ws (atF t key ts :: cs)
      rw [List.length_cons] at hl
      have hlt := hw.lt (by have := (at_ok hw h0).1; omega)
      have hfl2 := hw.nx.fle
      exact ih (nxT t n ts) (stl 6 ws (atF t key ts :: cs)).2 (a + 1) (stl 6 ws (atF t key ts :: cs)).1 p (ntC (stl 6 ws (atF t key ts :: cs)).1) false te J1 ⟨hT1, hw.nx, hs1, by rw [h181, h18, nI_1], fun j hj => by rw [hF1.2 _ (by omega) (by omega)]; exact hte j hj, by rw [op_stl]; exact hop, hp8, by omega, by have := nt_len (stl 6 ws (atF t key ts :: cs)).1; omega, hF.tr (FrE.kk hF1)⟩ (by omega)
  · refine v_if_eq (n := 165) (tgt := 170) dX11_takesE_162 (by decide) rfl (fun hq162 => ?_) (fun hq162 => ?_)
    · refine v_iconst (n := 171) (v := 0) dX11_takesE_170 c_0 rfl ?_
      rw [hR, if_neg h0]
      exact v_zret rfl (bool_nar (Or.inl rfl)).1 ⟨rfl, rfl, hT.2.1, (fun z => by cases z), hF⟩ ⟨l8 rfl, l8 rfl⟩ dX11_takesE_171
    · exact absurd rfl hq162

set_option maxRecDepth 100000 in
set_option maxHeartbeats 1000000 in
theorem b_X11_takesE {ro : Ro} {S : St} {I J : In} {m n key : Nat} {t : Ar} {ts : TS} {cs ws : List Int32} {a p no f : Nat} {te : Nat → Bool} (L : LayM S m) (h7 : I m 7 = nI n) (hn : n ≤ 96) (ht : I (m + 6) = t) (hk : I m 13 = nI key) (hkey : key < 3) (ih : ∀ ts cs a ws p no wa te J, EI I J m n t ts cs a ws p no te → n - ts.2.1 < f → V RX11 cX11_takesE 5 (some .boolean) "takesE" ro (rmD 3 0 0) (QM 0 0 (EQ S I m (lp t n key f ts cs a ws p no wa te))) 0 0 28 [.ref m, .int (nI p), .int (nI no), .int (bi wa), JJ] [] S J) {R : Bool × PS} (hE : EI I J m n t ts cs a ws p no te) (hf : n - ts.2.1 < f + 1) (hR : R = if (ts.1 = 3 ∧ t ts.2.1 = 40) ∧ p < 8 then lp t n key f (nxT t n ts) cs a (-11 :: ws) (p + 1) (ntC (-11 :: ws)) true (upB te (p + 1) false) else if 0 ≤ atF t key ts then lp t n key f (nxT t n ts) (stl 6 ws (atF t key ts :: cs)).2 (a + 1) (stl 6 ws (atF t key ts :: cs)).1 p (ntC (stl 6 ws (atF t key ts :: cs)).1) false te else (false, ts, cs, a)) : V RX11 cX11_takesE 5 (some .boolean) "takesE" ro (rmD 3 0 0) (QM 0 0 (EQ S I m R)) 0 0 97 [.ref m, .int (nI p), .int (nI no), .int (bi true), JJ] [] S J := by
  obtain ⟨hT, hw, hs, h18, hte, hop, hp8, hlen, hno, hF⟩ := hE
  have j7 : J m 7 = nI n := by rw [hF.1 7 (by omega)]; exact h7
  have j6 : J (m + 6) = t := by rw [hF.2 _ (by omega) (by omega)]; exact ht
  have j13 : J m 13 = nI key := by rw [hF.1 13 (by omega)]; exact hk
  have hfl := hw.fle
  refine v_aload_n (n := 98) dX11_takesE_97 rfl rfl rfl ?_
  refine v_getI (n := 101) f_X11_199 rfl L.s dX11_takesE_98 rfl ?_
  refine v_iconst (n := 102) (v := 3) dX11_takesE_101 c_3 rfl ?_
  refine v_icmp_ne (n := 105) (tgt := 158) dX11_takesE_102 (by decide) rfl (fun hq102 => ?_) (fun hq102 => ?_)
  · exact a_X11_takesE L h7 hn ht hk hkey ih ⟨hT, hw, hs, h18, hte, hop, hp8, hlen, hno, hF⟩ hf (by rw [hR, if_neg (fun z => hq102 ((tk_3 hT hw).mpr z.1.1))])
  · refine v_aload_n (n := 106) dX11_takesE_105 rfl rfl rfl ?_
    refine v_getI (n := 109) f_X11_205 rfl L.s dX11_takesE_106 rfl ?_
    rw [hT.2.2.2.1 (Or.inr ((tk_3 hT hw).mp hq102))]
    refine v_bipush (n := 111) (v := 40) dX11_takesE_109 b_40 rfl ?_
    refine v_icmp_ne (n := 114) (tgt := 158) dX11_takesE_111 (by decide) rfl (fun hq111 => ?_) (fun hq111 => ?_)
    · exact a_X11_takesE L h7 hn ht hk hkey ih ⟨hT, hw, hs, h18, hte, hop, hp8, hlen, hno, hF⟩ hf (by rw [hR, if_neg (fun z => hq111 z.1.2)])
    · refine v_iload_n (n := 115) dX11_takesE_114 rfl rfl rfl ?_
      refine v_bipush (n := 117) (v := 8) dX11_takesE_115 b_8 rfl ?_
      refine v_icmp_ge (n := 120) (tgt := 158) dX11_takesE_117 (by decide) rfl (fun hq117 => ?_) (fun hq117 => ?_)
      · exact a_X11_takesE L h7 hn ht hk hkey ih ⟨hT, hw, hs, h18, hte, hop, hp8, hlen, hno, hF⟩ hf (by rw [hR, if_neg (fun z => nI_8' hq117 (by omega) z.2)])
      · have c3 := (tk_3 hT hw).mp hq102
        have cp := nI_8 hq117 (by omega)
        have hfL := hw.fL (by omega)
        have hlt := hw.lt (by omega)
        have hfl2 := hw.nx.fle
        refine v_aload_n (n := 121) dX11_takesE_120 rfl rfl rfl ?_
        refine v_getR (n := 124) f_X11_38 rfl L.s L.g19 dX11_takesE_121 rfl ?_
        refine v_aload_n (n := 125) dX11_takesE_124 rfl rfl rfl ?_
        refine v_getI (n := 128) f_X11_217 rfl L.s dX11_takesE_125 rfl ?_
        rw [hs.2.1]
        refine v_bipush (n := 130) (v := (-11)) dX11_takesE_128 b_m11 rfl ?_
        refine v_iast (n := 131) (j := ws.length) L.c19 (ix_nI (by omega) (by decide)) dX11_takesE_130 rfl ?_
        refine v_aload_n (n := 132) dX11_takesE_131 rfl rfl rfl ?_
        refine v_dup (n := 133) dX11_takesE_132 rfl rfl ?_
        refine v_getI (n := 136) f_X11_217 rfl L.s dX11_takesE_133 rfl ?_
        rw [sI_o (by omega), hs.2.1]
        refine v_iconst (n := 137) (v := 1) dX11_takesE_136 c_1 rfl ?_
        refine v_iadd (n := 138) dX11_takesE_137 rfl ?_
        rw [nI_1]
        refine v_putI (n := 141) f_X11_217 rfl (Or.inl rfl) L.s dX11_takesE_138 rfl ?_
        refine v_iinc (n := 144) (v := (nI p) + 1) (al' := [.ref m, .int ((nI p) + 1), .int (nI no), .int (bi true), JJ]) dX11_takesE_141 rfl (by rw [c_1]) rfl rfl rfl ?_
        rw [nI_1]
        refine v_aload_n (n := 145) dX11_takesE_144 rfl rfl rfl ?_
        refine v_getR (n := 148) f_X11_41 rfl L.s L.g21 dX11_takesE_145 rfl ?_
        refine v_iload_n (n := 149) dX11_takesE_148 rfl rfl rfl ?_
        refine v_iconst (n := 150) (v := 0) dX11_takesE_149 c_0 rfl ?_
        refine v_zast (n := 151) (j := p + 1) L.c21 (ix_nI (by omega) (by decide)) (Or.inl rfl) dX11_takesE_150 rfl ?_
        refine v_aload_n (n := 152) dX11_takesE_151 rfl rfl rfl ?_
        refine v_callV (n := 155) mc_X11_go l_X11_214 iv_X11_go se_X11_go (ci := 10) ⟨by decide, rfl⟩ L.s (k_X11_go2 L (by rw [sI_o (by omega), sI_k (by decide), sI_o (by omega)]; exact j7) hn (by rw [setI_ne (by omega), setI_ne (by omega), setI_ne (by omega)]; exact j6) (hT.fr (fun k h1 h2 => by rw [sI_o (by omega), sI_k (by omega), sI_o (by omega)])) hw (Or.inr (Or.inr c3))) ⟨rfl, rfl⟩ (l8 rfl) ⟨l8 rfl, l8 rfl⟩ rfl rfl (l8 rfl) dX11_takesE_152 rfl ?_
        rintro _ _ J2 ⟨rfl, hS9, hT2, hF2⟩
        replace hS9 := hS9.symm
        subst hS9
        refine v_goto (tgt := 172) dX11_takesE_155 (by decide) ?_
        refine v_aload_n (n := 173) dX11_takesE_172 rfl rfl rfl ?_
        have hs1 : StM (setI (setI (setI J (m + 10) ws.length (-11)) m 20 (nI (ws.length + 1))) (m + 11) (p + 1) 0) m (-11 :: ws) cs := (hs.psh (x := -11)).mv (by rw [sI_o (by omega)]) (by rw [sI_o (by omega)]) (by rw [setI_ne (by omega)]) (by rw [setI_ne (by omega)])
        have hs2 := hs1.go hF2
        have hl9 : (-11 :: ws).length = ws.length + 1 := rfl
        refine v_cVi (n := 176) (x := (nI (ntC (-11 :: ws)))) mc_X11_notsOpen l_X11_239 iv_X11_notsOpen se_X11_notsOpen (ci := 10) ⟨by decide, rfl⟩ L.s (k_X11_notsOpen (ws := (-11 :: ws)) L hs2 (by omega)) ⟨rfl, rfl⟩ (l8 rfl) ⟨l8 rfl, l8 rfl⟩ rfl rfl (l8 rfl) dX11_takesE_173 rfl ?_
        refine v_istore_n (n := 177) (al' := [.ref m, .int (nI (p + 1)), .int (nI (ntC (-11 :: ws))), .int (bi true), JJ]) dX11_takesE_176 rfl rfl rfl rfl ?_
        refine v_goto (tgt := 28) dX11_takesE_177 (by decide) ?_
        rw [hR, if_pos ⟨⟨c3, hq111⟩, cp⟩]
        refine ih (nxT t n ts) cs a (-11 :: ws) (p + 1) (ntC (-11 :: ws)) true (upB te (p + 1) false) J2 ⟨hT2, hw.nx, hs2, by rw [hF2.1 18 (fun z => absurd z.2 (by decide)), sI_o (by omega), sI_k (by decide), sI_o (by omega)]; exact h18, fun j hj => ?_, by rw [opC, if_pos rfl, hop], by omega, by rw [List.length_cons]; omega, by have := nt_len (-11 :: ws); omega, hF.tr ((((FrE.sA (b := m + 10) (FrE.rf) (by omega)).s0 (k := 20) (by omega)).sA (b := m + 11) (by omega)).tr (FrE.go hF2))⟩ (by omega)
        rw [hF2.2 _ (by omega)]
        unfold upB
        by_cases e : j = p + 1
        · rw [e, sI_s, if_pos rfl]; rfl
        · rw [sI_k e, if_neg e, sI_o (by omega), sI_o (by omega)]; exact hte j (by omega)

set_option maxRecDepth 100000 in
set_option maxHeartbeats 1000000 in
theorem c_X11_takesE {ro : Ro} {S : St} {I J : In} {m n key : Nat} {t : Ar} {ts : TS} {cs ws : List Int32} {a p no f : Nat} {te : Nat → Bool} (L : LayM S m) (h7 : I m 7 = nI n) (hn : n ≤ 96) (ht : I (m + 6) = t) (hk : I m 13 = nI key) (hkey : key < 3) (ih : ∀ ts cs a ws p no wa te J, EI I J m n t ts cs a ws p no te → n - ts.2.1 < f → V RX11 cX11_takesE 5 (some .boolean) "takesE" ro (rmD 3 0 0) (QM 0 0 (EQ S I m (lp t n key f ts cs a ws p no wa te))) 0 0 28 [.ref m, .int (nI p), .int (nI no), .int (bi wa), JJ] [] S J) {R : Bool × PS} (hE : EI I J m n t ts cs a ws p no te) (hf : n - ts.2.1 < f + 1) (hR : R = if (ts.1 = 3 ∧ t ts.2.1 = 33) ∧ no < 8 then lp t n key f (nxT t n ts) cs a (-10 :: ws) p (ntC (-10 :: ws)) true te else if (ts.1 = 3 ∧ t ts.2.1 = 40) ∧ p < 8 then lp t n key f (nxT t n ts) cs a (-11 :: ws) (p + 1) (ntC (-11 :: ws)) true (upB te (p + 1) false) else if 0 ≤ atF t key ts then lp t n key f (nxT t n ts) (stl 6 ws (atF t key ts :: cs)).2 (a + 1) (stl 6 ws (atF t key ts :: cs)).1 p (ntC (stl 6 ws (atF t key ts :: cs)).1) false te else (false, ts, cs, a)) : V RX11 cX11_takesE 5 (some .boolean) "takesE" ro (rmD 3 0 0) (QM 0 0 (EQ S I m R)) 0 0 28 [.ref m, .int (nI p), .int (nI no), .int (bi true), JJ] [] S J := by
  obtain ⟨hT, hw, hs, h18, hte, hop, hp8, hlen, hno, hF⟩ := hE
  have j7 : J m 7 = nI n := by rw [hF.1 7 (by omega)]; exact h7
  have j6 : J (m + 6) = t := by rw [hF.2 _ (by omega) (by omega)]; exact ht
  have j13 : J m 13 = nI key := by rw [hF.1 13 (by omega)]; exact hk
  have hfl := hw.fle
  refine v_iload_n (n := 29) dX11_takesE_28 rfl rfl rfl ?_
  refine v_if_ne (n := 32) (tgt := 39) dX11_takesE_29 (by decide) rfl (fun hq29 => ?_) (fun hq29 => ?_)
  · refine v_iload_n (n := 40) dX11_takesE_39 rfl rfl rfl ?_
    refine v_if_eq (n := 43) (tgt := 180) dX11_takesE_40 (by decide) rfl (fun hq40 => ?_) (fun hq40 => ?_)
    · exact absurd hq40 (by decide)
    · refine v_aload_n (n := 44) dX11_takesE_43 rfl rfl rfl ?_
      refine v_getI (n := 47) f_X11_199 rfl L.s dX11_takesE_44 rfl ?_
      refine v_iconst (n := 48) (v := 3) dX11_takesE_47 c_3 rfl ?_
      refine v_icmp_ne (n := 51) (tgt := 97) dX11_takesE_48 (by decide) rfl (fun hq48 => ?_) (fun hq48 => ?_)
      · exact b_X11_takesE L h7 hn ht hk hkey ih ⟨hT, hw, hs, h18, hte, hop, hp8, hlen, hno, hF⟩ hf (by rw [hR, if_neg (fun z => hq48 ((tk_3 hT hw).mpr z.1.1))])
      · refine v_aload_n (n := 52) dX11_takesE_51 rfl rfl rfl ?_
        refine v_getI (n := 55) f_X11_205 rfl L.s dX11_takesE_52 rfl ?_
        rw [hT.2.2.2.1 (Or.inr ((tk_3 hT hw).mp hq48))]
        refine v_bipush (n := 57) (v := 33) dX11_takesE_55 b_33 rfl ?_
        refine v_icmp_ne (n := 60) (tgt := 97) dX11_takesE_57 (by decide) rfl (fun hq57 => ?_) (fun hq57 => ?_)
        · exact b_X11_takesE L h7 hn ht hk hkey ih ⟨hT, hw, hs, h18, hte, hop, hp8, hlen, hno, hF⟩ hf (by rw [hR, if_neg (fun z => hq57 z.1.2)])
        · refine v_iload_n (n := 61) dX11_takesE_60 rfl rfl rfl ?_
          refine v_bipush (n := 63) (v := 8) dX11_takesE_61 b_8 rfl ?_
          refine v_icmp_ge (n := 66) (tgt := 97) dX11_takesE_63 (by decide) rfl (fun hq63 => ?_) (fun hq63 => ?_)
          · exact b_X11_takesE L h7 hn ht hk hkey ih ⟨hT, hw, hs, h18, hte, hop, hp8, hlen, hno, hF⟩ hf (by rw [hR, if_neg (fun z => nI_8' hq63 (by omega) z.2)])
          · have c3 := (tk_3 hT hw).mp hq48
            have cn := nI_8 hq63 (by omega)
            have hfL := hw.fL (by omega)
            have hlt := hw.lt (by omega)
            have hfl2 := hw.nx.fle
            refine v_aload_n (n := 67) dX11_takesE_66 rfl rfl rfl ?_
            refine v_getR (n := 70) f_X11_38 rfl L.s L.g19 dX11_takesE_67 rfl ?_
            refine v_aload_n (n := 71) dX11_takesE_70 rfl rfl rfl ?_
            refine v_getI (n := 74) f_X11_217 rfl L.s dX11_takesE_71 rfl ?_
            rw [hs.2.1]
            refine v_bipush (n := 76) (v := (-10)) dX11_takesE_74 b_m10 rfl ?_
            refine v_iast (n := 77) (j := ws.length) L.c19 (ix_nI (by omega) (by decide)) dX11_takesE_76 rfl ?_
            refine v_aload_n (n := 78) dX11_takesE_77 rfl rfl rfl ?_
            refine v_dup (n := 79) dX11_takesE_78 rfl rfl ?_
            refine v_getI (n := 82) f_X11_217 rfl L.s dX11_takesE_79 rfl ?_
            rw [sI_o (by omega), hs.2.1]
            refine v_iconst (n := 83) (v := 1) dX11_takesE_82 c_1 rfl ?_
            refine v_iadd (n := 84) dX11_takesE_83 rfl ?_
            rw [nI_1]
            refine v_putI (n := 87) f_X11_217 rfl (Or.inl rfl) L.s dX11_takesE_84 rfl ?_
            refine v_iinc (n := 90) (v := (nI no) + 1) (al' := [.ref m, .int (nI p), .int ((nI no) + 1), .int (bi true), JJ]) dX11_takesE_87 rfl (by rw [c_1]) rfl rfl rfl ?_
            refine v_aload_n (n := 91) dX11_takesE_90 rfl rfl rfl ?_
            refine v_callV (n := 94) mc_X11_go l_X11_214 iv_X11_go se_X11_go (ci := 10) ⟨by decide, rfl⟩ L.s (k_X11_go2 L (by rw [sI_k (by decide), sI_o (by omega)]; exact j7) hn (by rw [setI_ne (by omega), setI_ne (by omega)]; exact j6) (hT.fr (fun k h1 h2 => by rw [sI_k (by omega), sI_o (by omega)])) hw (Or.inr (Or.inr c3))) ⟨rfl, rfl⟩ (l8 rfl) ⟨l8 rfl, l8 rfl⟩ rfl rfl (l8 rfl) dX11_takesE_91 rfl ?_
            rintro _ _ J2 ⟨rfl, hS9, hT2, hF2⟩
            replace hS9 := hS9.symm
            subst hS9
            refine v_goto (tgt := 172) dX11_takesE_94 (by decide) ?_
            refine v_aload_n (n := 173) dX11_takesE_172 rfl rfl rfl ?_
            have hs2 := (hs.psh (x := -10)).go hF2
            have hl9 : (-10 :: ws).length = ws.length + 1 := rfl
            refine v_cVi (n := 176) (x := (nI (ntC (-10 :: ws)))) mc_X11_notsOpen l_X11_239 iv_X11_notsOpen se_X11_notsOpen (ci := 10) ⟨by decide, rfl⟩ L.s (k_X11_notsOpen (ws := (-10 :: ws)) L hs2 (by omega)) ⟨rfl, rfl⟩ (l8 rfl) ⟨l8 rfl, l8 rfl⟩ rfl rfl (l8 rfl) dX11_takesE_173 rfl ?_
            refine v_istore_n (n := 177) (al' := [.ref m, .int (nI p), .int (nI (ntC (-10 :: ws))), .int (bi true), JJ]) dX11_takesE_176 rfl rfl rfl rfl ?_
            refine v_goto (tgt := 28) dX11_takesE_177 (by decide) ?_
            rw [hR, if_pos ⟨⟨c3, hq57⟩, cn⟩]
            exact ih (nxT t n ts) cs a (-10 :: ws) p (ntC (-10 :: ws)) true te J2 ⟨hT2, hw.nx, hs2, by rw [hF2.1 18 (fun z => absurd z.2 (by decide)), sI_k (by decide), sI_o (by omega)]; exact h18, fun j hj => by rw [hF2.2 _ (by omega), sI_o (by omega), sI_o (by omega)]; exact hte j hj, by rw [opC, if_neg (by decide)]; exact hop, hp8, by rw [List.length_cons]; omega, by have := nt_len (-10 :: ws); omega, hF.tr (((FrE.sA (b := m + 10) FrE.rf (by omega)).s0 (k := 20) (by omega)).tr (FrE.go hF2))⟩ (by omega)
  · exact absurd hq29 (by decide)

set_option maxRecDepth 100000 in
set_option maxHeartbeats 1000000 in
theorem d_X11_takesE {ro : Ro} {S : St} {I J : In} {m n key : Nat} {t : Ar} {ts : TS} {cs ws : List Int32} {a p no f : Nat} {te : Nat → Bool} (L : LayM S m) (h7 : I m 7 = nI n) (hn : n ≤ 96) (ht : I (m + 6) = t) (hk : I m 13 = nI key) (hkey : key < 3) (ih : ∀ ts cs a ws p no wa te J, EI I J m n t ts cs a ws p no te → n - ts.2.1 < f → V RX11 cX11_takesE 5 (some .boolean) "takesE" ro (rmD 3 0 0) (QM 0 0 (EQ S I m (lp t n key f ts cs a ws p no wa te))) 0 0 28 [.ref m, .int (nI p), .int (nI no), .int (bi wa), JJ] [] S J) {R : Bool × PS} (hE : EI I J m n t ts cs a ws p no te) (hf : n - ts.2.1 < f + 1) {g : Int32} (c3 : ts.1 = 3) (hg : g = sgB (t ts.2.1)) (g11 : ¬ g = -11) (hR : R = lp t n key f (nxT t n ts) (stl (rk g) ws cs).2 a (g :: (stl (rk g) ws cs).1) p no true (upB te p (teN te p (rk g)))) : V RX11 cX11_takesE 5 (some .boolean) "takesE" ro (rmD 3 0 0) (QM 0 0 (EQ S I m R)) 0 0 305 [.ref m, .int (nI p), .int (nI no), .int (bi false), .int g] [.int (bi (teN te p (rk g))), .int (nI p), .ref (m + 11)] S J := by
  obtain ⟨hT, hw, hs, h18, hte, hop, hp8, hlen, hno, hF⟩ := hE
  have j7 : J m 7 = nI n := by rw [hF.1 7 (by omega)]; exact h7
  have j6 : J (m + 6) = t := by rw [hF.2 _ (by omega) (by omega)]; exact ht
  have j13 : J m 13 = nI key := by rw [hF.1 13 (by omega)]; exact hk
  have hfl := hw.fle
  have hfL := hw.fL (by omega)
  have hlt := hw.lt (by omega)
  have hfl2 := hw.nx.fle
  refine v_zast (n := 306) (j := p) L.c21 (ix_nI (by omega) (by decide)) (bi_01 _) dX11_takesE_305 rfl ?_
  refine v_aload_n (n := 307) dX11_takesE_306 rfl rfl rfl ?_
  refine v_iload (n := 309) dX11_takesE_307 rfl rfl ?_
  refine v_cSi (n := 312) (x := (nI (rk g))) mc_X11_rank l_X11_220 sta_X11_rank k_X11_rank ⟨rfl, rfl⟩ (l8 rfl) ⟨l8 rfl, l8 rfl⟩ rfl rfl (l8 rfl) dX11_takesE_309 rfl ?_
  have hs0 : StM (setI J (m + 11) p (bi (teN te p (rk g)))) m ws cs := hs.mv (by rw [sI_o (by omega)]) (by rw [sI_o (by omega)]) (by rw [setI_ne (by omega)]) (by rw [setI_ne (by omega)])
  refine v_callV (n := 315) mc_X11_settle l_X11_232 iv_X11_settle se_X11_settle (ci := 10) ⟨by decide, rfl⟩ L.s (k_X11_settle (ws := ws) (cs := cs) L (rk_6 g) hs0 (by omega)) ⟨rfl, rfl⟩ (l8 rfl) ⟨l8 rfl, l8 rfl⟩ rfl rfl (l8 rfl) dX11_takesE_312 rfl ?_
  rintro _ _ J1 ⟨rfl, hS9, hs1, hfs⟩
  replace hS9 := hS9.symm
  subst hS9
  have hl9 := stl_len (l := rk g) ws cs
  have g1 : ∀ k, k ≠ 17 → k ≠ 20 → J1 m k = J m k := fun k a1 a2 => by rw [hfs.1 k a1 a2, sI_o (by omega)]
  have g2 : ∀ a, a ≠ m → a ≠ m + 9 → a ≠ m + 11 → J1 a = J a := fun a a1 a2 a3 => by rw [hfs.2 a a1 a2, setI_ne a3]
  refine v_aload_n (n := 316) dX11_takesE_315 rfl rfl rfl ?_
  refine v_getR (n := 319) f_X11_38 rfl L.s L.g19 dX11_takesE_316 rfl ?_
  refine v_aload_n (n := 320) dX11_takesE_319 rfl rfl rfl ?_
  refine v_getI (n := 323) f_X11_217 rfl L.s dX11_takesE_320 rfl ?_
  rw [hs1.2.1]
  refine v_iload (n := 325) dX11_takesE_323 rfl rfl ?_
  refine v_iast (n := 326) (j := (stl (rk g) ws cs).1.length) L.c19 (ix_nI (by omega) (by decide)) dX11_takesE_325 rfl ?_
  refine v_aload_n (n := 327) dX11_takesE_326 rfl rfl rfl ?_
  refine v_dup (n := 328) dX11_takesE_327 rfl rfl ?_
  refine v_getI (n := 331) f_X11_217 rfl L.s dX11_takesE_328 rfl ?_
  rw [sI_o (by omega), hs1.2.1]
  refine v_iconst (n := 332) (v := 1) dX11_takesE_331 c_1 rfl ?_
  refine v_iadd (n := 333) dX11_takesE_332 rfl ?_
  rw [nI_1]
  refine v_putI (n := 336) f_X11_217 rfl (Or.inl rfl) L.s dX11_takesE_333 rfl ?_
  refine v_iconst (n := 337) (v := 1) dX11_takesE_336 c_1 rfl ?_
  refine v_istore_n (n := 338) (al' := [.ref m, .int (nI p), .int (nI no), .int 1, .int g]) dX11_takesE_337 rfl rfl rfl rfl ?_
  refine v_aload_n (n := 339) dX11_takesE_338 rfl rfl rfl ?_
  refine v_callV (n := 342) mc_X11_go l_X11_214 iv_X11_go se_X11_go (ci := 10) ⟨by decide, rfl⟩ L.s (k_X11_go2 L (by rw [sI_k (by decide), sI_o (by omega), g1 7 (by decide) (by decide)]; exact j7) hn (by rw [setI_ne (by omega), setI_ne (by omega), g2 _ (by omega) (by omega) (by omega)]; exact j6) (hT.fr (fun k h1 h2 => by rw [sI_k (by omega), sI_o (by omega), g1 k (by omega) (by omega)])) hw (Or.inr (Or.inr c3))) ⟨rfl, rfl⟩ (l8 rfl) ⟨l8 rfl, l8 rfl⟩ rfl rfl (l8 rfl) dX11_takesE_339 rfl ?_
  rintro _ _ J2 ⟨rfl, hS9, hT2, hF2⟩
  replace hS9 := hS9.symm
  subst hS9
  refine v_drop 4 (al' := [.ref m, .int (nI p), .int (nI no), .int 1, JJ]) rfl ?_
  refine v_goto (tgt := 28) dX11_takesE_342 (by decide) ?_
  rw [hR]
  have hs2 := (hs1.psh (x := g)).go hF2
  refine ih (nxT t n ts) (stl (rk g) ws cs).2 a (g :: (stl (rk g) ws cs).1) p no true (upB te p (teN te p (rk g))) J2 ⟨hT2, hw.nx, hs2, by rw [hF2.1 18 (fun z => absurd z.2 (by decide)), sI_k (by decide), sI_o (by omega), g1 18 (by decide) (by decide)]; exact h18, fun j hj => ?_, by rw [opC, if_neg g11, op_stl]; exact hop, hp8, by rw [List.length_cons]; omega, hno, ?_⟩ (by omega)
  · rw [hF2.2 _ (by omega), sI_o (by omega), sI_o (by omega), hfs.2 _ (by omega) (by omega)]
    unfold upB
    by_cases e : j = p
    · rw [e, sI_s, if_pos rfl]
    · rw [sI_k e, if_neg e]; exact hte j hj
  · exact hF.tr ((((FrE.sA (b := m + 11) FrE.rf (by omega)).tr (FrE.st hfs)).tr ((FrE.sA (b := m + 10) FrE.rf (by omega)).s0 (k := 20) (by omega))).tr (FrE.go hF2))

set_option maxRecDepth 100000 in
set_option maxHeartbeats 1000000 in
theorem e_X11_takesE {ro : Ro} {S : St} {I J : In} {m n key : Nat} {t : Ar} {ts : TS} {cs ws : List Int32} {a p no f : Nat} {te : Nat → Bool} (L : LayM S m) (h7 : I m 7 = nI n) (hn : n ≤ 96) (ht : I (m + 6) = t) (hk : I m 13 = nI key) (hkey : key < 3) (ih : ∀ ts cs a ws p no wa te J, EI I J m n t ts cs a ws p no te → n - ts.2.1 < f → V RX11 cX11_takesE 5 (some .boolean) "takesE" ro (rmD 3 0 0) (QM 0 0 (EQ S I m (lp t n key f ts cs a ws p no wa te))) 0 0 28 [.ref m, .int (nI p), .int (nI no), .int (bi wa), JJ] [] S J) {R : Bool × PS} (hE : EI I J m n t ts cs a ws p no te) (hf : n - ts.2.1 < f + 1) {g : Int32} (c3 : ts.1 = 3) (hg : g = sgB (t ts.2.1)) (g11 : ¬ g = -11) (hR : R = lp t n key f (nxT t n ts) (stl (rk g) ws cs).2 a (g :: (stl (rk g) ws cs).1) p no true (upB te p (teN te p (rk g)))) : V RX11 cX11_takesE 5 (some .boolean) "takesE" ro (rmD 3 0 0) (QM 0 0 (EQ S I m R)) 0 0 268 [.ref m, .int (nI p), .int (nI no), .int (bi false), .int g] [] S J := by
  obtain ⟨hT, hw, hs, h18, hte, hop, hp8, hlen, hno, hF⟩ := hE
  have j7 : J m 7 = nI n := by rw [hF.1 7 (by omega)]; exact h7
  have j6 : J (m + 6) = t := by rw [hF.2 _ (by omega) (by omega)]; exact ht
  have j13 : J m 13 = nI key := by rw [hF.1 13 (by omega)]; exact hk
  have hfl := hw.fle
  refine v_aload_n (n := 269) dX11_takesE_268 rfl rfl rfl ?_
  refine v_getR (n := 272) f_X11_41 rfl L.s L.g21 dX11_takesE_269 rfl ?_
  refine v_iload_n (n := 273) dX11_takesE_272 rfl rfl rfl ?_
  refine v_iload (n := 275) dX11_takesE_273 rfl rfl ?_
  refine v_cSi (n := 278) (x := (nI (rk g))) mc_X11_rank l_X11_220 sta_X11_rank k_X11_rank ⟨rfl, rfl⟩ (l8 rfl) ⟨l8 rfl, l8 rfl⟩ rfl rfl (l8 rfl) dX11_takesE_275 rfl ?_
  refine v_iconst (n := 279) (v := 3) dX11_takesE_278 c_3 rfl ?_
  refine v_icmp_eq (n := 282) (tgt := 300) dX11_takesE_279 (by decide) rfl (fun hq279 => ?_) (fun hq279 => ?_)
  · refine v_iconst (n := 301) (v := 1) dX11_takesE_300 c_1 rfl ?_
    refine v_goto (tgt := 305) dX11_takesE_301 (by decide) ?_
    rw [show (1 : Int32) = bi (teN te p (rk g)) from by unfold teN; rw [decide_eq_true (rk_3.mp hq279)]; rfl]
    exact d_X11_takesE L h7 hn ht hk hkey ih ⟨hT, hw, hs, h18, hte, hop, hp8, hlen, hno, hF⟩ hf c3 hg g11 hR
  · refine v_iload (n := 284) dX11_takesE_282 rfl rfl ?_
    refine v_cSi (n := 287) (x := (nI (rk g))) mc_X11_rank l_X11_220 sta_X11_rank k_X11_rank ⟨rfl, rfl⟩ (l8 rfl) ⟨l8 rfl, l8 rfl⟩ rfl rfl (l8 rfl) dX11_takesE_284 rfl ?_
    refine v_iconst (n := 288) (v := 3) dX11_takesE_287 c_3 rfl ?_
    refine v_icmp_le (n := 291) (tgt := 304) dX11_takesE_288 (by decide) rfl (fun hq288 => ?_) (fun hq288 => ?_)
    · refine v_iconst (n := 305) (v := 0) dX11_takesE_304 c_0 rfl ?_
      rw [show (Value.int 0) = Value.int (bi (teN te p (rk g))) from by unfold teN; rw [decide_eq_false (fun z => hq279 (rk_3.mpr z)), decide_eq_false (Nat.not_lt.mpr (rk_le3.mp hq288))]; rfl]
      exact d_X11_takesE L h7 hn ht hk hkey ih ⟨hT, hw, hs, h18, hte, hop, hp8, hlen, hno, hF⟩ hf c3 hg g11 hR
    · refine v_aload_n (n := 292) dX11_takesE_291 rfl rfl rfl ?_
      refine v_getR (n := 295) f_X11_41 rfl L.s L.g21 dX11_takesE_292 rfl ?_
      refine v_iload_n (n := 296) dX11_takesE_295 rfl rfl rfl ?_
      refine v_zald (n := 297) (j := p) L.c21 (ix_nI (by omega) (by decide)) dX11_takesE_296 rfl ?_
      rw [hte p (Nat.le_refl _)]
      refine v_if_eq (n := 300) (tgt := 304) dX11_takesE_297 (by decide) rfl (fun hq297 => ?_) (fun hq297 => ?_)
      · refine v_iconst (n := 305) (v := 0) dX11_takesE_304 c_0 rfl ?_
        rw [show (Value.int 0) = Value.int (bi (teN te p (rk g))) from by unfold teN; rw [decide_eq_false (fun z => hq279 (rk_3.mpr z)), bi_0.mp hq297, Bool.and_false]; rfl]
        exact d_X11_takesE L h7 hn ht hk hkey ih ⟨hT, hw, hs, h18, hte, hop, hp8, hlen, hno, hF⟩ hf c3 hg g11 hR
      · refine v_iconst (n := 301) (v := 1) dX11_takesE_300 c_1 rfl ?_
        refine v_goto (tgt := 305) dX11_takesE_301 (by decide) ?_
        rw [show (1 : Int32) = bi (teN te p (rk g)) from by unfold teN; rw [decide_eq_false (fun z => hq279 (rk_3.mpr z)), bi_n0.mp hq297, decide_eq_true (Nat.not_le.mp (fun z => hq288 (rk_le3.mpr z)))]; rfl]
        exact d_X11_takesE L h7 hn ht hk hkey ih ⟨hT, hw, hs, h18, hte, hop, hp8, hlen, hno, hF⟩ hf c3 hg g11 hR

theorem bad_0 {I : In} {m n p : Nat} {t : Ar} {s : TS} {g : Int32} {te : Nat → Bool} (hT : TkM I m t s) (hw : TW t n s) (hg : (if I m 10 = 3 then sgB (I m 11) else 0) = g) (h : g = 0) : ¬ s.1 = 3 ∨ sgB (t s.2.1) = 0 ∨ (rk (sgB (t s.2.1)) = 3 ∧ te p = true) := by
  by_cases c : s.1 = 3
  · rw [if_pos ((tk_3 hT hw).mpr c), hT.2.2.2.1 (Or.inr c)] at hg
    exact Or.inr (Or.inl (hg.trans h))
  · exact Or.inl c
set_option maxRecDepth 100000 in
set_option maxHeartbeats 1000000 in
theorem f_X11_takesE {ro : Ro} {S : St} {I J : In} {m n key : Nat} {t : Ar} {ts : TS} {cs ws : List Int32} {a p no f : Nat} {te : Nat → Bool} (L : LayM S m) (h7 : I m 7 = nI n) (hn : n ≤ 96) (ht : I (m + 6) = t) (hk : I m 13 = nI key) (hkey : key < 3) (ih : ∀ ts cs a ws p no wa te J, EI I J m n t ts cs a ws p no te → n - ts.2.1 < f → V RX11 cX11_takesE 5 (some .boolean) "takesE" ro (rmD 3 0 0) (QM 0 0 (EQ S I m (lp t n key f ts cs a ws p no wa te))) 0 0 28 [.ref m, .int (nI p), .int (nI no), .int (bi wa), JJ] [] S J) {R : Bool × PS} (hE : EI I J m n t ts cs a ws p no te) (hf : n - ts.2.1 < f + 1) (hR : R = if ¬ ts.1 = 3 ∨ sgB (t ts.2.1) = 0 ∨ (rk (sgB (t ts.2.1)) = 3 ∧ te p = true) then (false, ts, cs, a) else lp t n key f (nxT t n ts) (stl (rk (sgB (t ts.2.1))) ws cs).2 a (sgB (t ts.2.1) :: (stl (rk (sgB (t ts.2.1))) ws cs).1) p no true (upB te p (teN te p (rk (sgB (t ts.2.1)))))) : V RX11 cX11_takesE 5 (some .boolean) "takesE" ro (rmD 3 0 0) (QM 0 0 (EQ S I m R)) 0 0 237 [.ref m, .int (nI p), .int (nI no), .int (bi false), JJ] [] S J := by
  obtain ⟨hT, hw, hs, h18, hte, hop, hp8, hlen, hno, hF⟩ := hE
  have j7 : J m 7 = nI n := by rw [hF.1 7 (by omega)]; exact h7
  have j6 : J (m + 6) = t := by rw [hF.2 _ (by omega) (by omega)]; exact ht
  have j13 : J m 13 = nI key := by rw [hF.1 13 (by omega)]; exact hk
  have hfl := hw.fle
  obtain ⟨g, hg0⟩ : ∃ g, (if J m 10 = 3 then sgB (J m 11) else 0) = g := ⟨_, rfl⟩
  refine v_aload_n (n := 238) dX11_takesE_237 rfl rfl rfl ?_
  refine v_cVi (n := 241) (x := g) mc_X11_signHere l_X11_242 iv_X11_signHere se_X11_signHere (ci := 10) ⟨by decide, rfl⟩ L.s (hg0 ▸ k_X11_signHere L) ⟨rfl, rfl⟩ (l8 rfl) ⟨l8 rfl, l8 rfl⟩ rfl rfl (l8 rfl) dX11_takesE_238 rfl ?_
  refine v_istore (n := 243) (al' := [.ref m, .int (nI p), .int (nI no), .int (bi false), .int g]) dX11_takesE_241 rfl rfl rfl ?_
  refine v_iload (n := 245) dX11_takesE_243 rfl rfl ?_
  refine v_if_eq (n := 248) (tgt := 266) dX11_takesE_245 (by decide) rfl (fun hq245 => ?_) (fun hq245 => ?_)
  · refine v_iconst (n := 267) (v := 0) dX11_takesE_266 c_0 rfl ?_
    rw [hR, if_pos (bad_0 hT hw hg0 hq245)]
    exact v_zret rfl (bool_nar (Or.inl rfl)).1 ⟨rfl, rfl, hT.2.1, (fun z => by cases z), hF⟩ ⟨l8 rfl, l8 rfl⟩ dX11_takesE_267
  · have c3 : ts.1 = 3 := by
      by_cases c : J m 10 = 3
      · exact (tk_3 hT hw).mp c
      · exact absurd (hg0.symm.trans (if_neg c)) hq245
    have hg : g = sgB (t ts.2.1) := by rw [← hg0, if_pos ((tk_3 hT hw).mpr c3), hT.2.2.2.1 (Or.inr c3)]
    have g11 : ¬ g = -11 := by
      rw [hg]
      rcases lv_sg (t ts.2.1) with q | q
      · rw [q.2]; decide
      · exact q.2.2.2.2.2
    refine v_iload (n := 250) dX11_takesE_248 rfl rfl ?_
    refine v_cSi (n := 253) (x := (nI (rk g))) mc_X11_rank l_X11_220 sta_X11_rank k_X11_rank ⟨rfl, rfl⟩ (l8 rfl) ⟨l8 rfl, l8 rfl⟩ rfl rfl (l8 rfl) dX11_takesE_250 rfl ?_
    refine v_iconst (n := 254) (v := 3) dX11_takesE_253 c_3 rfl ?_
    refine v_icmp_ne (n := 257) (tgt := 268) dX11_takesE_254 (by decide) rfl (fun hq254 => ?_) (fun hq254 => ?_)
    · exact e_X11_takesE L h7 hn ht hk hkey ih ⟨hT, hw, hs, h18, hte, hop, hp8, hlen, hno, hF⟩ hf c3 hg g11 (by rw [hR, if_neg (fun z => z.elim (fun y => y c3) (fun y => y.elim (fun y => hq245 (by rw [hg]; exact y)) (fun y => hq254 (rk_3.mpr (by rw [hg]; exact y.1))))), hg])
    · refine v_aload_n (n := 258) dX11_takesE_257 rfl rfl rfl ?_
      refine v_getR (n := 261) f_X11_41 rfl L.s L.g21 dX11_takesE_258 rfl ?_
      refine v_iload_n (n := 262) dX11_takesE_261 rfl rfl rfl ?_
      refine v_zald (n := 263) (j := p) L.c21 (ix_nI (by omega) (by decide)) dX11_takesE_262 rfl ?_
      rw [hte p (Nat.le_refl _)]
      refine v_if_eq (n := 266) (tgt := 268) dX11_takesE_263 (by decide) rfl (fun hq263 => ?_) (fun hq263 => ?_)
      · exact e_X11_takesE L h7 hn ht hk hkey ih ⟨hT, hw, hs, h18, hte, hop, hp8, hlen, hno, hF⟩ hf c3 hg g11 (by rw [hR, if_neg (fun z => z.elim (fun y => y c3) (fun y => y.elim (fun y => hq245 (by rw [hg]; exact y)) (fun y => absurd y.2 (by rw [bi_0.mp hq263]; decide)))), hg])
      · refine v_iconst (n := 267) (v := 0) dX11_takesE_266 c_0 rfl ?_
        rw [hR, if_pos (Or.inr (Or.inr ⟨by rw [← hg]; exact rk_3.mp hq254, bi_n0.mp hq263⟩))]
        exact v_zret rfl (bool_nar (Or.inl rfl)).1 ⟨rfl, rfl, hT.2.1, (fun z => by cases z), hF⟩ ⟨l8 rfl, l8 rfl⟩ dX11_takesE_267

set_option maxRecDepth 100000 in
set_option maxHeartbeats 1000000 in
theorem g_X11_takesE {ro : Ro} {S : St} {I J : In} {m n key : Nat} {t : Ar} {ts : TS} {cs ws : List Int32} {a p no f : Nat} {te : Nat → Bool} (L : LayM S m) (h7 : I m 7 = nI n) (hn : n ≤ 96) (ht : I (m + 6) = t) (hk : I m 13 = nI key) (hkey : key < 3) (ih : ∀ ts cs a ws p no wa te J, EI I J m n t ts cs a ws p no te → n - ts.2.1 < f → V RX11 cX11_takesE 5 (some .boolean) "takesE" ro (rmD 3 0 0) (QM 0 0 (EQ S I m (lp t n key f ts cs a ws p no wa te))) 0 0 28 [.ref m, .int (nI p), .int (nI no), .int (bi wa), JJ] [] S J) {R : Bool × PS} (hE : EI I J m n t ts cs a ws p no te) (hf : n - ts.2.1 < f + 1) (hR : R = if ts.1 = 0 then (decide (p = 0), ts, (stl 0 ws cs).2, a) else if (ts.1 = 3 ∧ t ts.2.1 = 41) ∧ 0 < p then lp t n key f (nxT t n ts) (stl 6 (stl 0 ws cs).1.tail (stl 0 ws cs).2).2 a (stl 6 (stl 0 ws cs).1.tail (stl 0 ws cs).2).1 (p - 1) (ntC (stl 6 (stl 0 ws cs).1.tail (stl 0 ws cs).2).1) false te else if ¬ ts.1 = 3 ∨ sgB (t ts.2.1) = 0 ∨ (rk (sgB (t ts.2.1)) = 3 ∧ te p = true) then (false, ts, cs, a) else lp t n key f (nxT t n ts) (stl (rk (sgB (t ts.2.1))) ws cs).2 a (sgB (t ts.2.1) :: (stl (rk (sgB (t ts.2.1))) ws cs).1) p no true (upB te p (teN te p (rk (sgB (t ts.2.1)))))) : V RX11 cX11_takesE 5 (some .boolean) "takesE" ro (rmD 3 0 0) (QM 0 0 (EQ S I m R)) 0 0 28 [.ref m, .int (nI p), .int (nI no), .int (bi false), JJ] [] S J := by
  obtain ⟨hT, hw, hs, h18, hte, hop, hp8, hlen, hno, hF⟩ := hE
  have j7 : J m 7 = nI n := by rw [hF.1 7 (by omega)]; exact h7
  have j6 : J (m + 6) = t := by rw [hF.2 _ (by omega) (by omega)]; exact ht
  have j13 : J m 13 = nI key := by rw [hF.1 13 (by omega)]; exact hk
  have hfl := hw.fle
  refine v_iload_n (n := 29) dX11_takesE_28 rfl rfl rfl ?_
  refine v_if_ne (n := 32) (tgt := 39) dX11_takesE_29 (by decide) rfl (fun hq29 => ?_) (fun hq29 => ?_)
  · exact absurd (by decide) hq29
  · refine v_aload_n (n := 33) dX11_takesE_32 rfl rfl rfl ?_
    refine v_getI (n := 36) f_X11_199 rfl L.s dX11_takesE_33 rfl ?_
    refine v_if_eq (n := 39) (tgt := 345) dX11_takesE_36 (by decide) rfl (fun hq36 => ?_) (fun hq36 => ?_)
    · refine v_aload_n (n := 346) dX11_takesE_345 rfl rfl rfl ?_
      refine v_iconst (n := 347) (v := 0) dX11_takesE_346 c_0 rfl ?_
      refine v_callV (n := 350) mc_X11_settle l_X11_232 iv_X11_settle se_X11_settle (ci := 10) ⟨by decide, rfl⟩ L.s (k_X11_settle (l := 0) (ws := ws) (cs := cs) L (by decide) hs (by omega)) ⟨rfl, rfl⟩ (l8 rfl) ⟨l8 rfl, l8 rfl⟩ rfl rfl (l8 rfl) dX11_takesE_347 rfl ?_
      rintro _ _ J1 ⟨rfl, hS9, hs1, hfs⟩
      replace hS9 := hS9.symm
      subst hS9
      have z0 := (tk_0 hT hw).mp hq36
      refine v_iload_n (n := 351) dX11_takesE_350 rfl rfl rfl ?_
      refine v_if_ne (n := 354) (tgt := 358) dX11_takesE_351 (by decide) rfl (fun hq351 => ?_) (fun hq351 => ?_)
      · refine v_iconst (n := 359) (v := 0) dX11_takesE_358 c_0 rfl ?_
        rw [hR, if_pos z0, show decide (p = 0) = false from decide_eq_false (fun z => hq351 (by rw [z]; rfl))]
        exact v_zret rfl (bool_nar (Or.inl rfl)).1 ⟨rfl, rfl, by rw [hfs.1 9 (by decide) (by decide)]; exact hT.2.1, fun _ => ⟨hs1.2.2.1, hs1.2.2.2, by rw [hfs.1 18 (by decide) (by decide)]; exact h18⟩, hF.tr (FrE.st hfs)⟩ ⟨l8 rfl, l8 rfl⟩ dX11_takesE_359
      · refine v_iconst (n := 355) (v := 1) dX11_takesE_354 c_1 rfl ?_
        refine v_goto (tgt := 359) dX11_takesE_355 (by decide) ?_
        rw [hR, if_pos z0, show decide (p = 0) = true from decide_eq_true ((nI_eq (b := 0) (by omega) (by decide)).mp hq351)]
        exact v_zret rfl (bool_nar (Or.inr rfl)).1 ⟨rfl, rfl, by rw [hfs.1 9 (by decide) (by decide)]; exact hT.2.1, fun _ => ⟨hs1.2.2.1, hs1.2.2.2, by rw [hfs.1 18 (by decide) (by decide)]; exact h18⟩, hF.tr (FrE.st hfs)⟩ ⟨l8 rfl, l8 rfl⟩ dX11_takesE_359
    · refine v_iload_n (n := 40) dX11_takesE_39 rfl rfl rfl ?_
      refine v_if_eq (n := 43) (tgt := 180) dX11_takesE_40 (by decide) rfl (fun hq40 => ?_) (fun hq40 => ?_)
      · refine v_aload_n (n := 181) dX11_takesE_180 rfl rfl rfl ?_
        refine v_getI (n := 184) f_X11_199 rfl L.s dX11_takesE_181 rfl ?_
        refine v_iconst (n := 185) (v := 3) dX11_takesE_184 c_3 rfl ?_
        refine v_icmp_ne (n := 188) (tgt := 237) dX11_takesE_185 (by decide) rfl (fun hq185 => ?_) (fun hq185 => ?_)
        · exact f_X11_takesE L h7 hn ht hk hkey ih ⟨hT, hw, hs, h18, hte, hop, hp8, hlen, hno, hF⟩ hf (by rw [hR, if_neg (fun z => hq36 ((tk_0 hT hw).mpr z)), if_neg (fun z => hq185 ((tk_3 hT hw).mpr z.1.1))])
        · refine v_aload_n (n := 189) dX11_takesE_188 rfl rfl rfl ?_
          refine v_getI (n := 192) f_X11_205 rfl L.s dX11_takesE_189 rfl ?_
          rw [hT.2.2.2.1 (Or.inr ((tk_3 hT hw).mp hq185))]
          refine v_bipush (n := 194) (v := 41) dX11_takesE_192 b_41 rfl ?_
          refine v_icmp_ne (n := 197) (tgt := 237) dX11_takesE_194 (by decide) rfl (fun hq194 => ?_) (fun hq194 => ?_)
          · exact f_X11_takesE L h7 hn ht hk hkey ih ⟨hT, hw, hs, h18, hte, hop, hp8, hlen, hno, hF⟩ hf (by rw [hR, if_neg (fun z => hq36 ((tk_0 hT hw).mpr z)), if_neg (fun z => hq194 z.1.2)])
          · refine v_iload_n (n := 198) dX11_takesE_197 rfl rfl rfl ?_
            refine v_if_le (n := 201) (tgt := 237) dX11_takesE_198 (by decide) rfl (fun hq198 => ?_) (fun hq198 => ?_)
            · exact f_X11_takesE L h7 hn ht hk hkey ih ⟨hT, hw, hs, h18, hte, hop, hp8, hlen, hno, hF⟩ hf (by rw [hR, if_neg (fun z => hq36 ((tk_0 hT hw).mpr z)), if_neg (fun z => absurd (le_out (b := 0) hq198 (by omega) (by decide)) (by omega))])
            · have c3 := (tk_3 hT hw).mp hq185
              have cp : 1 ≤ p := by
                rcases Nat.eq_zero_or_pos p with q | q
                · exact absurd (by rw [q]; decide) hq198
                · exact q
              have hfL := hw.fL (by omega)
              have hlt := hw.lt (by omega)
              have hfl2 := hw.nx.fle
              obtain ⟨r, er⟩ := op_head ws cs (by omega)
              have hl0 := stl_len (l := 0) ws cs
              rw [er, List.length_cons] at hl0
              have hl6 := stl_len (l := 6) r (stl 0 ws cs).2
              have ho := op_stl (l := 0) ws cs
              rw [er, opC, if_pos rfl] at ho
              refine v_aload_n (n := 202) dX11_takesE_201 rfl rfl rfl ?_
              refine v_iconst (n := 203) (v := 0) dX11_takesE_202 c_0 rfl ?_
              refine v_callV (n := 206) mc_X11_settle l_X11_232 iv_X11_settle se_X11_settle (ci := 10) ⟨by decide, rfl⟩ L.s (k_X11_settle (l := 0) (ws := ws) (cs := cs) L (by decide) hs (by omega)) ⟨rfl, rfl⟩ (l8 rfl) ⟨l8 rfl, l8 rfl⟩ rfl rfl (l8 rfl) dX11_takesE_203 rfl ?_
              rintro _ _ J1 ⟨rfl, hS9, hs1, hfs⟩
              replace hS9 := hS9.symm
              subst hS9
              refine v_aload_n (n := 207) dX11_takesE_206 rfl rfl rfl ?_
              refine v_dup (n := 208) dX11_takesE_207 rfl rfl ?_
              refine v_getI (n := 211) f_X11_217 rfl L.s dX11_takesE_208 rfl ?_
              rw [hs1.2.1, er, List.length_cons]
              refine v_iconst (n := 212) (v := 1) dX11_takesE_211 c_1 rfl ?_
              refine v_isub (n := 213) dX11_takesE_212 rfl ?_
              rw [nI_pred]
              refine v_putI (n := 216) f_X11_217 rfl (Or.inl rfl) L.s dX11_takesE_213 rfl ?_
              refine v_iinc (n := 219) (v := (nI p) + (-1)) (al' := [.ref m, .int ((nI p) + (-1)), .int (nI no), .int (bi false), JJ]) dX11_takesE_216 rfl (by rw [c_m1]) rfl rfl rfl ?_
              rw [nI_m1 cp]
              refine v_aload_n (n := 220) dX11_takesE_219 rfl rfl rfl ?_
              refine v_bipush (n := 222) (v := 6) dX11_takesE_220 b_6 rfl ?_
              have hs2 : StM (setI J1 m 20 (nI r.length)) m r (stl 0 ws cs).2 := ⟨by rw [setI_ne (by omega)]; have := hs1.1; rw [er] at this; exact this.2, sI_s, by rw [setI_ne (by omega)]; exact hs1.2.2.1, by rw [sI_k (by decide)]; exact hs1.2.2.2⟩
              refine v_callV (n := 225) mc_X11_settle l_X11_232 iv_X11_settle se_X11_settle (ci := 10) ⟨by decide, rfl⟩ L.s (k_X11_settle (l := 6) (ws := r) (cs := (stl 0 ws cs).2) L (by decide) hs2 (by omega)) ⟨rfl, rfl⟩ (l8 rfl) ⟨l8 rfl, l8 rfl⟩ rfl rfl (l8 rfl) dX11_takesE_222 rfl ?_
              rintro _ _ J2 ⟨rfl, hS9, hs3, hfs2⟩
              replace hS9 := hS9.symm
              subst hS9
              have g1 : ∀ k, k ≠ 17 → k ≠ 20 → J2 m k = J m k := fun k a1 a2 => by rw [hfs2.1 k a1 a2, sI_k a2, hfs.1 k a1 a2]
              have g2 : ∀ a, a ≠ m → a ≠ m + 9 → J2 a = J a := fun a a1 a2 => by rw [hfs2.2 a a1 a2, setI_ne a1, hfs.2 a a1 a2]
              refine v_aload_n (n := 226) dX11_takesE_225 rfl rfl rfl ?_
              refine v_cVi (n := 229) (x := (nI (ntC (stl 6 r (stl 0 ws cs).2).1))) mc_X11_notsOpen l_X11_239 iv_X11_notsOpen se_X11_notsOpen (ci := 10) ⟨by decide, rfl⟩ L.s (k_X11_notsOpen (ws := (stl 6 r (stl 0 ws cs).2).1) L hs3 (by omega)) ⟨rfl, rfl⟩ (l8 rfl) ⟨l8 rfl, l8 rfl⟩ rfl rfl (l8 rfl) dX11_takesE_226 rfl ?_
              refine v_istore_n (n := 230) (al' := [.ref m, .int (nI (p - 1)), .int (nI (ntC (stl 6 r (stl 0 ws cs).2).1)), .int (bi false), JJ]) dX11_takesE_229 rfl rfl rfl rfl ?_
              refine v_aload_n (n := 231) dX11_takesE_230 rfl rfl rfl ?_
              refine v_callV (n := 234) mc_X11_go l_X11_214 iv_X11_go se_X11_go (ci := 10) ⟨by decide, rfl⟩ L.s (k_X11_go2 L (by rw [g1 7 (by decide) (by decide)]; exact j7) hn (by rw [g2 _ (by omega) (by omega)]; exact j6) (hT.fr (fun k h1 h2 => g1 k (by omega) (by omega))) hw (Or.inr (Or.inr c3))) ⟨rfl, rfl⟩ (l8 rfl) ⟨l8 rfl, l8 rfl⟩ rfl rfl (l8 rfl) dX11_takesE_231 rfl ?_
              rintro _ _ J3 ⟨rfl, hS9, hT3, hF3⟩
              replace hS9 := hS9.symm
              subst hS9
              refine v_goto (tgt := 28) dX11_takesE_234 (by decide) ?_
              rw [hR, if_neg (fun z => hq36 ((tk_0 hT hw).mpr z)), if_pos ⟨⟨c3, hq194⟩, cp⟩, er, List.tail_cons]
              exact ih (nxT t n ts) (stl 6 r (stl 0 ws cs).2).2 a (stl 6 r (stl 0 ws cs).2).1 (p - 1) (ntC (stl 6 r (stl 0 ws cs).2).1) false te J3 ⟨hT3, hw.nx, hs3.go hF3, by rw [hF3.1 18 (fun z => absurd z.2 (by decide)), g1 18 (by decide) (by decide)]; exact h18, fun j hj => by rw [hF3.2 _ (by omega), g2 _ (by omega) (by omega)]; exact hte j (by omega), by rw [op_stl]; omega, by omega, by omega, by have := nt_len (stl 6 r (stl 0 ws cs).2).1; omega, hF.tr ((((FrE.st hfs).s0 (k := 20) (by omega)).tr (FrE.st hfs2)).tr (FrE.go hF3))⟩ (by omega)
      · exact absurd (by decide) hq40

set_option maxRecDepth 100000 in
set_option maxHeartbeats 1000000 in
theorem l_X11_takesE {ro : Ro} {S : St} {I : In} {m n key : Nat} {t : Ar} (L : LayM S m) (h7 : I m 7 = nI n) (hn : n ≤ 96) (ht : I (m + 6) = t) (hk : I m 13 = nI key) (hkey : key < 3) : ∀ f ts cs a ws p no wa te J, EI I J m n t ts cs a ws p no te → n - ts.2.1 < f → V RX11 cX11_takesE 5 (some .boolean) "takesE" ro (rmD 3 0 0) (QM 0 0 (EQ S I m (lp t n key f ts cs a ws p no wa te))) 0 0 28 [.ref m, .int (nI p), .int (nI no), .int (bi wa), JJ] [] S J := by
  intro f
  induction f with
  | zero => intro ts cs a ws p no wa te J _ h; exact absurd h (by omega)
  | succ f ih =>
    intro ts cs a ws p no wa te J hE hf
    cases wa with
    | true => exact c_X11_takesE L h7 hn ht hk hkey ih hE hf (by rw [lp, if_pos rfl])
    | false => exact g_X11_takesE L h7 hn ht hk hkey ih hE hf (by rw [lp, if_neg (by decide)])

set_option maxRecDepth 100000 in
set_option maxHeartbeats 1000000 in
theorem k_X11_takesE {ro : Ro} {S : St} {I : In} {m n key F : Nat} {t : Ar} {ts : TS} {te : Nat → Bool} (L : LayM S m) (h7 : I m 7 = nI n) (hn : n ≤ 96) (ht : I (m + 6) = t) (hk : I m 13 = nI key) (hkey : key < 3) (hT : TkM I m t ts) (hw : TW t n ts) (hte : te 0 = false) (hF : n - ts.2.1 < F) : Ok mX11_takesE ro 3 0 0 [.ref m] S I (EQ S I m (lp t n key F ts [] 0 [] 0 0 true te)) := by
  refine ok_of (al := [.ref m, JJ, JJ, JJ, JJ]) (by decide) (l8 rfl) rfl ?_
  refine v_iconst (n := 1) (v := 0) dX11_takesE_0 c_0 rfl ?_
  refine v_istore_n (n := 2) (al' := [.ref m, .int 0, JJ, JJ, JJ]) dX11_takesE_1 rfl rfl rfl rfl ?_
  refine v_iconst (n := 3) (v := 0) dX11_takesE_2 c_0 rfl ?_
  refine v_istore_n (n := 4) (al' := [.ref m, .int 0, .int 0, JJ, JJ]) dX11_takesE_3 rfl rfl rfl rfl ?_
  refine v_iconst (n := 5) (v := 1) dX11_takesE_4 c_1 rfl ?_
  refine v_istore_n (n := 6) (al' := [.ref m, .int 0, .int 0, .int 1, JJ]) dX11_takesE_5 rfl rfl rfl rfl ?_
  refine v_aload_n (n := 7) dX11_takesE_6 rfl rfl rfl ?_
  refine v_iconst (n := 8) (v := 0) dX11_takesE_7 c_0 rfl ?_
  refine v_putI (n := 11) f_X11_223 rfl (Or.inl rfl) L.s dX11_takesE_8 rfl ?_
  refine v_aload_n (n := 12) dX11_takesE_11 rfl rfl rfl ?_
  refine v_iconst (n := 13) (v := 0) dX11_takesE_12 c_0 rfl ?_
  refine v_putI (n := 16) f_X11_229 rfl (Or.inl rfl) L.s dX11_takesE_13 rfl ?_
  refine v_aload_n (n := 17) dX11_takesE_16 rfl rfl rfl ?_
  refine v_iconst (n := 18) (v := 0) dX11_takesE_17 c_0 rfl ?_
  refine v_putI (n := 21) f_X11_217 rfl (Or.inl rfl) L.s dX11_takesE_18 rfl ?_
  refine v_aload_n (n := 22) dX11_takesE_21 rfl rfl rfl ?_
  refine v_getR (n := 25) f_X11_41 rfl L.s L.g21 dX11_takesE_22 rfl ?_
  refine v_iconst (n := 26) (v := 0) dX11_takesE_25 c_0 rfl ?_
  refine v_iconst (n := 27) (v := 0) dX11_takesE_26 c_0 rfl ?_
  refine v_zast (n := 28) (j := 0) L.c21 (ix_lit rfl rfl rfl) (Or.inl rfl) dX11_takesE_27 rfl ?_
  exact l_X11_takesE L h7 hn ht hk hkey F ts [] 0 [] 0 0 true te _ ⟨hT.fr (fun k h1 h2 => by rw [sI_o (by omega), sI_k (by omega), sI_k (by omega), sI_k (by omega)]), hw, ⟨trivial, by rw [sI_o (by omega), sI_s]; rfl, trivial, by rw [sI_o (by omega), sI_k (by decide), sI_k (by decide), sI_s]; rfl⟩, by rw [sI_o (by omega), sI_k (by decide), sI_s]; rfl, fun j hj => by rw [Nat.le_zero.mp hj, sI_s, hte]; rfl, rfl, by decide, Nat.zero_le _, by decide, (((FrE.rf.s0 (k := 17) (by omega)).s0 (k := 18) (by omega)).s0 (k := 20) (by omega)).sA (b := m + 11) (by omega)⟩ hF

