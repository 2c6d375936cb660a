theorem v_ldcw {own : String} {cc : ByteArray} {nL : Nat} {ret : Option FieldType} {nm : String} {ro : Ro} {R : Room} {Qf : Wd → List Frame → Array Value → State → State → Prop} {cells slots pc n : Nat} {al st : List Value} {S : St} {I : In} {index : Nat} {v : Int32} (hw : Cond.constant own index v ∈ GW) (hd : decode cc pc = .ok (.ldc_w index, 3)) (hn : pc + 3 = n) (k : V own cc nL ret nm ro R Qf cells slots n al (.int v :: st) S I) : V own cc nL ret nm ro R Qf cells slots pc al (st) S I := by
  subst hn
  intro w p l e s m args below meth c C H locs ls hR hl
  exact lv_ldcw C.1 C.2.1 C.2.2.2.2.2.2.1 (C.2.2.2.2.2.2.2.1 _ hw) hd (k w p l e s m args below meth c C H locs ls hR hl)
/-- n places of the row a from off on are those of f -/
def uO (I : In) (a off : Nat) (f : Ar) (n : Nat) : In := fun b j => if b = a ∧ off ≤ j ∧ j < off + n then f (j - off) else I b j
theorem uO_0 {I : In} {a off : Nat} {f : Ar} : uO I a off f 0 = I := by
  funext b j
  unfold uO
  rw [if_neg (by omega)]
theorem uO_s {I : In} {a off n : Nat} {f : Ar} : setI (uO I a off f n) a (off + n) (f n) = uO I a off f (n + 1) := by
  funext b j
  unfold setI uO
  by_cases h : b = a ∧ j = off + n
  · obtain ⟨rfl, rfl⟩ := h
    rw [if_pos ⟨rfl, rfl⟩, if_pos ⟨rfl, by omega, by omega⟩]
    congr 1; omega
  · rw [if_neg h]
    by_cases h2 : b = a ∧ off ≤ j ∧ j < off + n
    · rw [if_pos h2, if_pos ⟨h2.1, h2.2.1, by omega⟩]
    · rw [if_neg h2, if_neg (fun q => h2 ⟨q.1, q.2.1, by
        rcases Nat.lt_or_ge j (off + n) with z | z
        · exact z
        · exact absurd ⟨q.1, by omega⟩ h⟩)]
theorem uO_ne {I : In} {a off n b : Nat} {f : Ar} (h : b ≠ a) : uO I a off f n b = I b := by funext j; exact if_neg (fun q => h q.1)
theorem uO_in {I : In} {a off n j : Nat} {f : Ar} (h : j < n) : uO I a off f n a (off + j) = f j := by
  unfold uO
  rw [if_pos ⟨rfl, by omega, by omega⟩]
  congr 1; omega
theorem uO_k {I : In} {a off n j : Nat} {f : Ar} (h : j < off ∨ off + n ≤ j) : uO I a off f n a j = I a j := if_neg (by omega)
theorem i_24 (s p : Nat) : 24 * nI s + nI p = nI (24 * s + p) := by rw [lit_nI 24, pk_mul, nI_add]
theorem i_24c (s p k : Nat) : 24 * nI s + nI p + nI k = nI (24 * s + p + k) := by rw [i_24, nI_add]
/-- what always holds of the reference's other rows -/
def MW (I : In) (m : Nat) : Prop := (∀ s, s < 4 → (I (m + 14) s = -1 ∨ I (m + 14) s = 0 ∨ I (m + 14) s = 1) ∧ ∃ z, z ≤ 24 ∧ I (m + 15) s = nI z) ∧ (∀ s, s < 5 → (I (m + 17) s = 0 ∨ I (m + 17) s = 1 ∨ I (m + 17) s = 2 ∨ I (m + 17) s = 3) ∧ (I (m + 17) s = 2 → ∃ z, z ≤ 24 ∧ I (m + 18) s = nI z)) ∧ (∃ w, w ≤ 60 ∧ I m 33 = nI w) ∧ (∃ t, t ≤ 96 ∧ I m 7 = nI t) ∧ (I m 3 = 0 ∨ I m 3 = 1)
def sheetM (I : In) (m : Nat) (a b c : Int32) : Int32 × In := if (inn a 0 3 && inn b (-1) 1) = true then (if ¬ b < 0 ∧ ¬ c ≤ 24 then (-1000000001, I) else if ¬ b < 0 ∧ ¬ 0 ≤ c then (-1000000014, I) else ((if 0 ≤ b then c else 0), uO (setI (setI I (m + 14) a.toNatClampNeg b) (m + 15) a.toNatClampNeg (if 0 ≤ b then c else 0)) (m + 16) (24 * a.toNatClampNeg) (fun _ => 0) 24)) else (-1000000001, I)
def markM (I : In) (m : Nat) (a b c : Int32) : Int32 × In := if inn a 0 3 = true then (if 0 ≤ I (m + 14) a.toNatClampNeg then (if inn b 0 (I (m + 15) a.toNatClampNeg - 1) = true then (if I (m + 14) a.toNatClampNeg = 0 then (if c = -1000000005 then (-1000000012, I) else (1, setI I (m + 16) (24 * a.toNatClampNeg + b.toNatClampNeg) c.toInt16.toInt32)) else if c = -1000000005 ∨ inn c (-99999) 99999 = true then (1, setI I (m + 16) (24 * a.toNatClampNeg + b.toNatClampNeg) c) else (-1000000001, I)) else (-1000000013, I)) else (-1000000011, I)) else (-1000000001, I)
def askM (I : In) (m : Nat) (a b : Int32) : Int32 := if (inn a 0 4 && inn b 0 5) = true then (if I (m + 17) a.toNatClampNeg = 0 then -1000000011 else if I (m + 17) a.toNatClampNeg = 1 ∧ under (I (m + 18) a.toNatClampNeg) b = true then I (m + 19) a.toNatClampNeg else -1000000012) else -1000000001
def itemM (I : In) (m : Nat) (a b : Int32) : Int32 := if inn a 0 4 = true then (if I (m + 17) a.toNatClampNeg = 0 then -1000000011 else if I (m + 17) a.toNatClampNeg = 2 then (if inn b 0 (I (m + 18) a.toNatClampNeg - 1) = true then (if I (m + 20) (24 * a.toNatClampNeg + b.toNatClampNeg) = -1000000005 then -1000000012 else I (m + 20) (24 * a.toNatClampNeg + b.toNatClampNeg)) else -1000000013) else -1000000012) else -1000000001
def restM (I : In) (m : Nat) (a b : Int32) : Int32 := if inn a 0 4 = true then (if I (m + 17) a.toNatClampNeg = 0 then -1000000011 else if I (m + 17) a.toNatClampNeg = 3 then (if b = 0 then -1000000002 else if b = -1 then 0 else I (m + 18) a.toNatClampNeg % b) else -1000000012) else -1000000001
def tellM (I : In) (m : Nat) (a : Int32) : Int32 × In := if I m 33 = 60 then (-1000000003, I) else (I m 33 + 1, setI (setI I (m + 22) (I m 33).toNatClampNeg a) m 33 (I m 33 + 1))
def whyM (X : Ar) (T : Nat) (a : Int32) : Int32 := if inn a 0 2 = true then (if 0 ≤ cnt X a T then cnt X a T else -1000000005) else -1000000001
def textToldM (X : Ar) (a b : Int32) : Int32 := if (inn a 0 (X 9 - 1) && inn b 0 1) = true then (if b = 0 then X (116 + 2 * a.toNatClampNeg) / 1000 else X (117 + 2 * a.toNatClampNeg)) else -1000000001
def countM (I : In) (m n : Nat) (a : Int32) : Int32 := if a = 0 then I (m + 1) 1 else if a = 1 then I (m + 1) 2 else if a = 2 then I (m + 1) 3 else if a = 3 then I (m + 1) 4 else if a = 4 then I (m + 1) 5 else if a = 5 then sumX (I (m + 1)) 3 n else if a = 6 then sumX (I (m + 1)) 1 n else if a = 7 then I (m + 1) 9 else if a = 8 then I m 33 else if a = 9 then I m 7 else if a = 10 then I (m + 1) 0 else -1000000001
theorem sz_get {a : Int32} {z : Nat} {w : Int32} (h : inn a 0 (w - 1) = true) (hw : w = nI z) (hz : z ≤ 2 ^ 20) : ∃ y, y < z ∧ a = nI y := by
  subst hw
  rcases Nat.eq_zero_or_pos z with q | q
  · subst q
    simp only [inn, Bool.and_eq_true, Bool.not_eq_true', decide_eq_false_iff_not] at h
    exact absurd (by
      have := h.1
      have h2 := h.2
      rw [Int32.lt_iff_toInt_lt] at this h2
      have e1 : (0 : Int32).toInt = 0 := rfl
      have e2 : (nI 0 - 1).toInt = -1 := by decide
      omega) id
  · rw [nI_p1 q] at h
    obtain ⟨k, hk, rfl⟩ := inn_get h (by omega)
    exact ⟨k, by omega, rfl⟩

set_option maxRecDepth 100000 in
set_option maxHeartbeats 1000000 in
theorem k_X11_ask {ro : Ro} {S : St} {I : In} {xa xb : Int32} {m : Nat} (L : LayM S m) (h : MW I m) : Ok mX11_ask ro 2 0 0 [.ref m, .int xa, .int xb] S I (RI (askM I m xa xb) S I) := by
  refine ok_of (al := [.ref m, .int xa, .int xb]) (by decide) (l8 rfl) rfl ?_
  refine v_iload_n (n := 1) dX11_ask_0 rfl rfl rfl ?_
  refine v_cSi (n := 4) (x := (bi (inn xa 0 4))) mc_X11_isSlot l_X11_258 sta_X11_isSlot k_X11_isSlot ⟨rfl, rfl⟩ (l8 rfl) ⟨l8 rfl, l8 rfl⟩ rfl rfl (l8 rfl) dX11_ask_1 rfl ?_
  refine v_if_eq (n := 7) (tgt := 16) dX11_ask_4 (by decide) rfl (fun hq4 => ?_) (fun hq4 => ?_)
  · refine v_ldc (n := 18) k_X11_90 dX11_ask_16 rfl ?_
    exact v_rI rfl (by clear h; simp_all [-Int32.not_lt, -Int32.not_le, bi_0, bi_n0, askM]) rfl rfl ⟨l8 rfl, l8 rfl⟩ dX11_ask_18
  · refine v_iload_n (n := 8) dX11_ask_7 rfl rfl rfl ?_
    refine v_iconst (n := 9) (v := 0) dX11_ask_8 c_0 rfl ?_
    refine v_iconst (n := 10) (v := 5) dX11_ask_9 c_5 rfl ?_
    refine v_cSi (n := 13) (x := (bi (inn xb 0 5))) mc_X11_in l_X11_78 sta_X11_in k_X11_in ⟨rfl, rfl⟩ (l8 rfl) ⟨l8 rfl, l8 rfl⟩ rfl rfl (l8 rfl) dX11_ask_10 rfl ?_
    refine v_if_ne (n := 16) (tgt := 19) dX11_ask_13 (by decide) rfl (fun hq13 => ?_) (fun hq13 => ?_)
    · obtain ⟨s, hs, rfl⟩ := inn_get (a := 4) (bi_n0.mp hq4) (by decide)
      refine v_aload_n (n := 20) dX11_ask_19 rfl rfl rfl ?_
      refine v_getR (n := 23) f_X11_60 rfl L.s L.g27 dX11_ask_20 rfl ?_
      refine v_iload_n (n := 24) dX11_ask_23 rfl rfl rfl ?_
      refine v_iald (n := 25) (j := s) L.c27 (ix_nI (by omega) (by decide)) dX11_ask_24 rfl ?_
      refine v_if_ne (n := 28) (tgt := 31) dX11_ask_25 (by decide) rfl (fun hq25 => ?_) (fun hq25 => ?_)
      · refine v_aload_n (n := 32) dX11_ask_31 rfl rfl rfl ?_
        refine v_getR (n := 35) f_X11_60 rfl L.s L.g27 dX11_ask_32 rfl ?_
        refine v_iload_n (n := 36) dX11_ask_35 rfl rfl rfl ?_
        refine v_iald (n := 37) (j := s) L.c27 (ix_nI (by omega) (by decide)) dX11_ask_36 rfl ?_
        refine v_iconst (n := 38) (v := 1) dX11_ask_37 c_1 rfl ?_
        refine v_icmp_ne (n := 41) (tgt := 63) dX11_ask_38 (by decide) rfl (fun hq38 => ?_) (fun hq38 => ?_)
        · refine v_ldc (n := 65) k_X11_133 dX11_ask_63 rfl ?_
          exact v_rI rfl (by clear h; simp_all [-Int32.not_lt, -Int32.not_le, bi_0, bi_n0, askM, nI_clamp (show s < 2 ^ 31 by omega)]) rfl rfl ⟨l8 rfl, l8 rfl⟩ dX11_ask_65
        · refine v_aload_n (n := 42) dX11_ask_41 rfl rfl rfl ?_
          refine v_getR (n := 45) f_X11_63 rfl L.s L.g28 dX11_ask_42 rfl ?_
          refine v_iload_n (n := 46) dX11_ask_45 rfl rfl rfl ?_
          refine v_iald (n := 47) (j := s) L.c28 (ix_nI (by omega) (by decide)) dX11_ask_46 rfl ?_
          refine v_iload_n (n := 48) dX11_ask_47 rfl rfl rfl ?_
          refine v_cSi (n := 51) (x := (bi (under (I (m + 18) s) xb))) mc_X11_isUnder l_X11_130 sta_X11_isUnder k_X11_isUnder ⟨rfl, rfl⟩ (l8 rfl) ⟨l8 rfl, l8 rfl⟩ rfl rfl (l8 rfl) dX11_ask_48 rfl ?_
          refine v_if_eq (n := 54) (tgt := 63) dX11_ask_51 (by decide) rfl (fun hq51 => ?_) (fun hq51 => ?_)
          · refine v_ldc (n := 65) k_X11_133 dX11_ask_63 rfl ?_
            exact v_rI rfl (by clear h; simp_all [-Int32.not_lt, -Int32.not_le, bi_0, bi_n0, askM, nI_clamp (show s < 2 ^ 31 by omega)]) rfl rfl ⟨l8 rfl, l8 rfl⟩ dX11_ask_65
          · refine v_aload_n (n := 55) dX11_ask_54 rfl rfl rfl ?_
            refine v_getR (n := 58) f_X11_66 rfl L.s L.g29 dX11_ask_55 rfl ?_
            refine v_iload_n (n := 59) dX11_ask_58 rfl rfl rfl ?_
            refine v_iald (n := 60) (j := s) L.c29 (ix_nI (by omega) (by decide)) dX11_ask_59 rfl ?_
            refine v_goto (tgt := 65) dX11_ask_60 (by decide) ?_
            exact v_rI rfl (by clear h; simp_all [-Int32.not_lt, -Int32.not_le, bi_0, bi_n0, askM, nI_clamp (show s < 2 ^ 31 by omega)]) rfl rfl ⟨l8 rfl, l8 rfl⟩ dX11_ask_65
      · refine v_ldc (n := 30) k_X11_181 dX11_ask_28 rfl ?_
        exact v_rI rfl (by clear h; simp_all [-Int32.not_lt, -Int32.not_le, bi_0, bi_n0, askM, nI_clamp (show s < 2 ^ 31 by omega)]) rfl rfl ⟨l8 rfl, l8 rfl⟩ dX11_ask_30
    · refine v_ldc (n := 18) k_X11_90 dX11_ask_16 rfl ?_
      exact v_rI rfl (by clear h; simp_all [-Int32.not_lt, -Int32.not_le, bi_0, bi_n0, askM]) rfl rfl ⟨l8 rfl, l8 rfl⟩ dX11_ask_18

set_option maxRecDepth 100000 in
set_option maxHeartbeats 1000000 in
theorem k_X11_item {ro : Ro} {S : St} {I : In} {xa xb : Int32} {m : Nat} (L : LayM S m) (h : MW I m) : Ok mX11_item ro 2 0 0 [.ref m, .int xa, .int xb] S I (RI (itemM I m xa xb) S I) := by
  refine ok_of (al := [.ref m, .int xa, .int xb, JJ]) (by decide) (l8 rfl) rfl ?_
  refine v_iload_n (n := 1) dX11_item_0 rfl rfl rfl ?_
  refine v_cSi (n := 4) (x := (bi (inn xa 0 4))) mc_X11_isSlot l_X11_258 sta_X11_isSlot k_X11_isSlot ⟨rfl, rfl⟩ (l8 rfl) ⟨l8 rfl, l8 rfl⟩ rfl rfl (l8 rfl) dX11_item_1 rfl ?_
  refine v_if_ne (n := 7) (tgt := 10) dX11_item_4 (by decide) rfl (fun hq4 => ?_) (fun hq4 => ?_)
  · obtain ⟨s, hs, rfl⟩ := inn_get (a := 4) (bi_n0.mp hq4) (by decide)
    refine v_aload_n (n := 11) dX11_item_10 rfl rfl rfl ?_
    refine v_getR (n := 14) f_X11_60 rfl L.s L.g27 dX11_item_11 rfl ?_
    refine v_iload_n (n := 15) dX11_item_14 rfl rfl rfl ?_
    refine v_iald (n := 16) (j := s) L.c27 (ix_nI (by omega) (by decide)) dX11_item_15 rfl ?_
    refine v_if_ne (n := 19) (tgt := 22) dX11_item_16 (by decide) rfl (fun hq16 => ?_) (fun hq16 => ?_)
    · refine v_aload_n (n := 23) dX11_item_22 rfl rfl rfl ?_
      refine v_getR (n := 26) f_X11_60 rfl L.s L.g27 dX11_item_23 rfl ?_
      refine v_iload_n (n := 27) dX11_item_26 rfl rfl rfl ?_
      refine v_iald (n := 28) (j := s) L.c27 (ix_nI (by omega) (by decide)) dX11_item_27 rfl ?_
      refine v_iconst (n := 29) (v := 2) dX11_item_28 c_2 rfl ?_
      refine v_icmp_eq (n := 32) (tgt := 35) dX11_item_29 (by decide) rfl (fun hq29 => ?_) (fun hq29 => ?_)
      · refine v_iload_n (n := 36) dX11_item_35 rfl rfl rfl ?_
        refine v_iconst (n := 37) (v := 0) dX11_item_36 c_0 rfl ?_
        refine v_aload_n (n := 38) dX11_item_37 rfl rfl rfl ?_
        refine v_getR (n := 41) f_X11_63 rfl L.s L.g28 dX11_item_38 rfl ?_
        refine v_iload_n (n := 42) dX11_item_41 rfl rfl rfl ?_
        refine v_iald (n := 43) (j := s) L.c28 (ix_nI (by omega) (by decide)) dX11_item_42 rfl ?_
        refine v_iconst (n := 44) (v := 1) dX11_item_43 c_1 rfl ?_
        refine v_isub (n := 45) dX11_item_44 rfl ?_
        refine v_cSi (n := 48) (x := (bi (inn xb 0 ((I (m + 18) s) - 1)))) mc_X11_in l_X11_78 sta_X11_in k_X11_in ⟨rfl, rfl⟩ (l8 rfl) ⟨l8 rfl, l8 rfl⟩ rfl rfl (l8 rfl) dX11_item_45 rfl ?_
        refine v_if_ne (n := 51) (tgt := 54) dX11_item_48 (by decide) rfl (fun hq48 => ?_) (fun hq48 => ?_)
        · obtain ⟨z0, hz0, ez⟩ := (h.2.1 s (by omega)).2 hq29
          obtain ⟨p, hp, rfl⟩ := sz_get (bi_n0.mp hq48) ez (by omega)
          refine v_aload_n (n := 55) dX11_item_54 rfl rfl rfl ?_
          refine v_getR (n := 58) f_X11_69 rfl L.s L.g30 dX11_item_55 rfl ?_
          refine v_bipush (n := 60) (v := 24) dX11_item_58 b_24 rfl ?_
          refine v_iload_n (n := 61) dX11_item_60 rfl rfl rfl ?_
          refine v_imul (n := 62) dX11_item_61 rfl ?_
          refine v_iload_n (n := 63) dX11_item_62 rfl rfl rfl ?_
          refine v_iadd (n := 64) dX11_item_63 rfl ?_
          refine v_iald (n := 65) (j := 24 * s + p) L.c30 (ix_of (i_24 s p) (by omega) (by decide)) dX11_item_64 rfl ?_
          refine v_istore_n (n := 66) (al' := [.ref m, .int (nI s), .int (nI p), .int (I (m + 20) (24 * s + p))]) dX11_item_65 rfl rfl rfl rfl ?_
          refine v_iload_n (n := 67) dX11_item_66 rfl rfl rfl ?_
          refine v_ldc (n := 69) k_X11_152 dX11_item_67 rfl ?_
          refine v_icmp_ne (n := 72) (tgt := 77) dX11_item_69 (by decide) rfl (fun hq69 => ?_) (fun hq69 => ?_)
          · refine v_iload_n (n := 78) dX11_item_77 rfl rfl rfl ?_
            exact v_rI rfl (by clear h; simp_all [-Int32.not_lt, -Int32.not_le, bi_0, bi_n0, itemM, nI_clamp (show s < 2 ^ 31 by omega), nI_clamp (show p < 2 ^ 31 by omega)]) rfl rfl ⟨l8 rfl, l8 rfl⟩ dX11_item_78
          · refine v_ldc (n := 74) k_X11_133 dX11_item_72 rfl ?_
            refine v_goto (tgt := 78) dX11_item_74 (by decide) ?_
            exact v_rI rfl (by clear h; simp_all [-Int32.not_lt, -Int32.not_le, bi_0, bi_n0, itemM, nI_clamp (show s < 2 ^ 31 by omega), nI_clamp (show p < 2 ^ 31 by omega)]) rfl rfl ⟨l8 rfl, l8 rfl⟩ dX11_item_78
        · refine v_ldc (n := 53) k_X11_255 dX11_item_51 rfl ?_
          exact v_rI rfl (by clear h; simp_all [-Int32.not_lt, -Int32.not_le, bi_0, bi_n0, itemM, nI_clamp (show s < 2 ^ 31 by omega)]) rfl rfl ⟨l8 rfl, l8 rfl⟩ dX11_item_53
      · refine v_ldc (n := 34) k_X11_133 dX11_item_32 rfl ?_
        exact v_rI rfl (by clear h; simp_all [-Int32.not_lt, -Int32.not_le, bi_0, bi_n0, itemM, nI_clamp (show s < 2 ^ 31 by omega)]) rfl rfl ⟨l8 rfl, l8 rfl⟩ dX11_item_34
    · refine v_ldc (n := 21) k_X11_181 dX11_item_19 rfl ?_
      exact v_rI rfl (by clear h; simp_all [-Int32.not_lt, -Int32.not_le, bi_0, bi_n0, itemM, nI_clamp (show s < 2 ^ 31 by omega)]) rfl rfl ⟨l8 rfl, l8 rfl⟩ dX11_item_21
  · refine v_ldc (n := 9) k_X11_90 dX11_item_7 rfl ?_
    exact v_rI rfl (by clear h; simp_all [-Int32.not_lt, -Int32.not_le, bi_0, bi_n0, itemM]) rfl rfl ⟨l8 rfl, l8 rfl⟩ dX11_item_9

set_option maxRecDepth 100000 in
set_option maxHeartbeats 1000000 in
theorem k_X11_rest {ro : Ro} {S : St} {I : In} {xa xb : Int32} {m : Nat} (L : LayM S m) (h : MW I m) : Ok mX11_rest ro 2 0 0 [.ref m, .int xa, .int xb] S I (RI (restM I m xa xb) S I) := by
  refine ok_of (al := [.ref m, .int xa, .int xb]) (by decide) (l8 rfl) rfl ?_
  refine v_iload_n (n := 1) dX11_rest_0 rfl rfl rfl ?_
  refine v_cSi (n := 4) (x := (bi (inn xa 0 4))) mc_X11_isSlot l_X11_258 sta_X11_isSlot k_X11_isSlot ⟨rfl, rfl⟩ (l8 rfl) ⟨l8 rfl, l8 rfl⟩ rfl rfl (l8 rfl) dX11_rest_1 rfl ?_
  refine v_if_ne (n := 7) (tgt := 10) dX11_rest_4 (by decide) rfl (fun hq4 => ?_) (fun hq4 => ?_)
  · obtain ⟨s, hs, rfl⟩ := inn_get (a := 4) (bi_n0.mp hq4) (by decide)
    refine v_aload_n (n := 11) dX11_rest_10 rfl rfl rfl ?_
    refine v_getR (n := 14) f_X11_60 rfl L.s L.g27 dX11_rest_11 rfl ?_
    refine v_iload_n (n := 15) dX11_rest_14 rfl rfl rfl ?_
    refine v_iald (n := 16) (j := s) L.c27 (ix_nI (by omega) (by decide)) dX11_rest_15 rfl ?_
    refine v_if_ne (n := 19) (tgt := 22) dX11_rest_16 (by decide) rfl (fun hq16 => ?_) (fun hq16 => ?_)
    · refine v_aload_n (n := 23) dX11_rest_22 rfl rfl rfl ?_
      refine v_getR (n := 26) f_X11_60 rfl L.s L.g27 dX11_rest_23 rfl ?_
      refine v_iload_n (n := 27) dX11_rest_26 rfl rfl rfl ?_
      refine v_iald (n := 28) (j := s) L.c27 (ix_nI (by omega) (by decide)) dX11_rest_27 rfl ?_
      refine v_iconst (n := 29) (v := 3) dX11_rest_28 c_3 rfl ?_
      refine v_icmp_eq (n := 32) (tgt := 35) dX11_rest_29 (by decide) rfl (fun hq29 => ?_) (fun hq29 => ?_)
      · refine v_iload_n (n := 36) dX11_rest_35 rfl rfl rfl ?_
        refine v_if_ne (n := 39) (tgt := 44) dX11_rest_36 (by decide) rfl (fun hq36 => ?_) (fun hq36 => ?_)
        · refine v_iload_n (n := 45) dX11_rest_44 rfl rfl rfl ?_
          refine v_iconst (n := 46) (v := (-1)) dX11_rest_45 c_m1 rfl ?_
          refine v_icmp_ne (n := 49) (tgt := 53) dX11_rest_46 (by decide) rfl (fun hq46 => ?_) (fun hq46 => ?_)
          · refine v_aload_n (n := 54) dX11_rest_53 rfl rfl rfl ?_
            refine v_getR (n := 57) f_X11_63 rfl L.s L.g28 dX11_rest_54 rfl ?_
            refine v_iload_n (n := 58) dX11_rest_57 rfl rfl rfl ?_
            refine v_iald (n := 59) (j := s) L.c28 (ix_nI (by omega) (by decide)) dX11_rest_58 rfl ?_
            refine v_iload_n (n := 60) dX11_rest_59 rfl rfl rfl ?_
            refine v_irem (n := 61) dX11_rest_60 hq36 rfl ?_
            exact v_rI rfl (by clear h; simp_all [-Int32.not_lt, -Int32.not_le, bi_0, bi_n0, restM, nI_clamp (show s < 2 ^ 31 by omega)]) rfl rfl ⟨l8 rfl, l8 rfl⟩ dX11_rest_61
          · refine v_iconst (n := 50) (v := 0) dX11_rest_49 c_0 rfl ?_
            refine v_goto (tgt := 61) dX11_rest_50 (by decide) ?_
            exact v_rI rfl (by clear h; simp_all [-Int32.not_lt, -Int32.not_le, bi_0, bi_n0, restM, nI_clamp (show s < 2 ^ 31 by omega)]) rfl rfl ⟨l8 rfl, l8 rfl⟩ dX11_rest_61
        · refine v_ldc (n := 41) k_X11_151 dX11_rest_39 rfl ?_
          refine v_goto (tgt := 61) dX11_rest_41 (by decide) ?_
          exact v_rI rfl (by clear h; simp_all [-Int32.not_lt, -Int32.not_le, bi_0, bi_n0, restM, nI_clamp (show s < 2 ^ 31 by omega)]) rfl rfl ⟨l8 rfl, l8 rfl⟩ dX11_rest_61
      · refine v_ldc (n := 34) k_X11_133 dX11_rest_32 rfl ?_
        exact v_rI rfl (by clear h; simp_all [-Int32.not_lt, -Int32.not_le, bi_0, bi_n0, restM, nI_clamp (show s < 2 ^ 31 by omega)]) rfl rfl ⟨l8 rfl, l8 rfl⟩ dX11_rest_34
    · refine v_ldc (n := 21) k_X11_181 dX11_rest_19 rfl ?_
      exact v_rI rfl (by clear h; simp_all [-Int32.not_lt, -Int32.not_le, bi_0, bi_n0, restM, nI_clamp (show s < 2 ^ 31 by omega)]) rfl rfl ⟨l8 rfl, l8 rfl⟩ dX11_rest_21
  · refine v_ldc (n := 9) k_X11_90 dX11_rest_7 rfl ?_
    exact v_rI rfl (by clear h; simp_all [-Int32.not_lt, -Int32.not_le, bi_0, bi_n0, restM]) rfl rfl ⟨l8 rfl, l8 rfl⟩ dX11_rest_9

set_option maxRecDepth 100000 in
set_option maxHeartbeats 1000000 in
theorem k_X11_tell {ro : Ro} {S : St} {I : In} {xa : Int32} {m : Nat} (L : LayM S m) (h : MW I m) : Ok mX11_tell ro 0 0 0 [.ref m, .int xa] S I (RI (tellM I m xa).1 S (tellM I m xa).2) := by
  refine ok_of (al := [.ref m, .int xa]) (by decide) (l8 rfl) rfl ?_
  refine v_aload_n (n := 1) dX11_tell_0 rfl rfl rfl ?_
  refine v_getI (n := 4) f_X11_261 rfl L.s dX11_tell_1 rfl ?_
  refine v_bipush (n := 6) (v := 60) dX11_tell_4 b_60 rfl ?_
  refine v_icmp_ne (n := 9) (tgt := 12) dX11_tell_6 (by decide) rfl (fun hq6 => ?_) (fun hq6 => ?_)
  · obtain ⟨w, hw, hw2⟩ := h.2.2.1
    have hw3 : w < 60 := by
      rcases Nat.lt_or_ge w 60 with q | q
      · exact q
      · exact absurd (by rw [hw2, show w = 60 by omega]; rfl) hq6
    refine v_aload_n (n := 13) dX11_tell_12 rfl rfl rfl ?_
    refine v_getR (n := 16) f_X11_75 rfl L.s L.g32 dX11_tell_13 rfl ?_
    refine v_aload_n (n := 17) dX11_tell_16 rfl rfl rfl ?_
    refine v_getI (n := 20) f_X11_261 rfl L.s dX11_tell_17 rfl ?_
    refine v_iload_n (n := 21) dX11_tell_20 rfl rfl rfl ?_
    refine v_iast (n := 22) (j := w) L.c32 (ix_of hw2 (by omega) (by decide)) dX11_tell_21 rfl ?_
    refine v_aload_n (n := 23) dX11_tell_22 rfl rfl rfl ?_
    refine v_dup (n := 24) dX11_tell_23 rfl rfl ?_
    refine v_getI (n := 27) f_X11_261 rfl L.s dX11_tell_24 rfl ?_
    refine v_iconst (n := 28) (v := 1) dX11_tell_27 c_1 rfl ?_
    refine v_iadd (n := 29) dX11_tell_28 rfl ?_
    refine v_putI (n := 32) f_X11_261 rfl (Or.inl rfl) L.s dX11_tell_29 rfl ?_
    refine v_aload_n (n := 33) dX11_tell_32 rfl rfl rfl ?_
    refine v_getI (n := 36) f_X11_261 rfl L.s dX11_tell_33 rfl ?_
    exact v_rI rfl (by rw [tellM, if_neg hq6, sI_s, sI_o (by omega)]) rfl (by rw [tellM, if_neg hq6, sI_o (by omega), show (I m 33).toNatClampNeg = w from by rw [hw2, nI_clamp (by omega)]]) ⟨l8 rfl, l8 rfl⟩ dX11_tell_36
  · refine v_ldc (n := 11) k_X11_91 dX11_tell_9 rfl ?_
    exact v_rI rfl (by rw [tellM, if_pos hq6]) rfl (by rw [tellM, if_pos hq6]) ⟨l8 rfl, l8 rfl⟩ dX11_tell_11

set_option maxRecDepth 100000 in
set_option maxHeartbeats 1000000 in
theorem k_X11_why {ro : Ro} {S : St} {I : In} {xa : Int32} {m T n l b : Nat} (L : LayM S m) (h : WX (I (m + 1)) T n l b) : Ok mX11_why ro 1 0 0 [.ref m, .int xa] S I (RI (whyM (I (m + 1)) T xa) S I) := by
  refine ok_of (al := [.ref m, .int xa, JJ]) (by decide) (l8 rfl) rfl ?_
  refine v_iload_n (n := 1) dX11_why_0 rfl rfl rfl ?_
  refine v_iconst (n := 2) (v := 0) dX11_why_1 c_0 rfl ?_
  refine v_iconst (n := 3) (v := 2) dX11_why_2 c_2 rfl ?_
  refine v_cSi (n := 6) (x := (bi (inn xa 0 2))) mc_X11_in l_X11_78 sta_X11_in k_X11_in ⟨rfl, rfl⟩ (l8 rfl) ⟨l8 rfl, l8 rfl⟩ rfl rfl (l8 rfl) dX11_why_3 rfl ?_
  refine v_if_ne (n := 9) (tgt := 12) dX11_why_6 (by decide) rfl (fun hq6 => ?_) (fun hq6 => ?_)
  · refine v_aload_n (n := 13) dX11_why_12 rfl rfl rfl ?_
    refine v_iload_n (n := 14) dX11_why_13 rfl rfl rfl ?_
    refine v_cVi (n := 17) (x := (cnt (I (m + 1)) xa T)) mc_X11_counts l_X11_96 iv_X11_counts se_X11_counts (ci := 10) ⟨by decide, rfl⟩ L.s (k_X11_counts L h.2.2.2.2.1.1 h.2.2.2.2.1.2.1) ⟨rfl, rfl⟩ (l8 rfl) ⟨l8 rfl, l8 rfl⟩ rfl rfl (l8 rfl) dX11_why_14 rfl ?_
    refine v_istore_n (n := 18) (al' := [.ref m, .int xa, .int (cnt (I (m + 1)) xa T)]) dX11_why_17 rfl rfl rfl rfl ?_
    refine v_iload_n (n := 19) dX11_why_18 rfl rfl rfl ?_
    refine v_if_ge (n := 22) (tgt := 27) dX11_why_19 (by decide) rfl (fun hq19 => ?_) (fun hq19 => ?_)
    · refine v_iload_n (n := 28) dX11_why_27 rfl rfl rfl ?_
      exact v_rI rfl (by rw [whyM, if_pos (bi_n0.mp hq6), if_pos hq19]) rfl rfl ⟨l8 rfl, l8 rfl⟩ dX11_why_28
    · refine v_ldc (n := 24) k_X11_152 dX11_why_22 rfl ?_
      refine v_goto (tgt := 28) dX11_why_24 (by decide) ?_
      exact v_rI rfl (by rw [whyM, if_pos (bi_n0.mp hq6), if_neg hq19]) rfl rfl ⟨l8 rfl, l8 rfl⟩ dX11_why_28
  · refine v_ldc (n := 11) k_X11_90 dX11_why_9 rfl ?_
    exact v_rI rfl (by clear h; simp_all [-Int32.not_lt, -Int32.not_le, bi_0, bi_n0, whyM]) rfl rfl ⟨l8 rfl, l8 rfl⟩ dX11_why_11

set_option maxRecDepth 100000 in
set_option maxHeartbeats 1000000 in
theorem k_X11_textTold {ro : Ro} {S : St} {I : In} {xa xb : Int32} {m T n l b : Nat} (L : LayM S m) (h : WX (I (m + 1)) T n l b) : Ok mX11_textTold ro 1 0 0 [.ref m, .int xa, .int xb] S I (RI (textToldM (I (m + 1)) xa xb) S I) := by
  refine ok_of (al := [.ref m, .int xa, .int xb]) (by decide) (l8 rfl) rfl ?_
  refine v_iload_n (n := 1) dX11_textTold_0 rfl rfl rfl ?_
  refine v_iconst (n := 2) (v := 0) dX11_textTold_1 c_0 rfl ?_
  refine v_aload_n (n := 3) dX11_textTold_2 rfl rfl rfl ?_
  refine v_getR (n := 6) f_X11_9 rfl L.s L.g0 dX11_textTold_3 rfl ?_
  refine v_bipush (n := 8) (v := 9) dX11_textTold_6 b_9 rfl ?_
  refine v_iald (n := 9) (j := 9) L.c0 (ix_lit rfl rfl rfl) dX11_textTold_8 rfl ?_
  refine v_iconst (n := 10) (v := 1) dX11_textTold_9 c_1 rfl ?_
  refine v_isub (n := 11) dX11_textTold_10 rfl ?_
  refine v_cSi (n := 14) (x := (bi (inn xa 0 ((I (m + 1) 9) - 1)))) mc_X11_in l_X11_78 sta_X11_in k_X11_in ⟨rfl, rfl⟩ (l8 rfl) ⟨l8 rfl, l8 rfl⟩ rfl rfl (l8 rfl) dX11_textTold_11 rfl ?_
  refine v_if_eq (n := 17) (tgt := 26) dX11_textTold_14 (by decide) rfl (fun hq14 => ?_) (fun hq14 => ?_)
  · refine v_ldc (n := 28) k_X11_90 dX11_textTold_26 rfl ?_
    exact v_rI rfl (by clear h; simp_all [-Int32.not_lt, -Int32.not_le, bi_0, bi_n0, textToldM]) rfl rfl ⟨l8 rfl, l8 rfl⟩ dX11_textTold_28
  · refine v_iload_n (n := 18) dX11_textTold_17 rfl rfl rfl ?_
    refine v_iconst (n := 19) (v := 0) dX11_textTold_18 c_0 rfl ?_
    refine v_iconst (n := 20) (v := 1) dX11_textTold_19 c_1 rfl ?_
    refine v_cSi (n := 23) (x := (bi (inn xb 0 1))) mc_X11_in l_X11_78 sta_X11_in k_X11_in ⟨rfl, rfl⟩ (l8 rfl) ⟨l8 rfl, l8 rfl⟩ rfl rfl (l8 rfl) dX11_textTold_20 rfl ?_
    refine v_if_ne (n := 26) (tgt := 29) dX11_textTold_23 (by decide) rfl (fun hq23 => ?_) (fun hq23 => ?_)
    · obtain ⟨s, hs, rfl⟩ := sz_get (bi_n0.mp hq14) h.2.2.2.2.1.1 (by have := h.2.2.2.2.1.2.1; omega)
      have ht14 := h.2.2.2.2.1.2.1
      refine v_iload_n (n := 30) dX11_textTold_29 rfl rfl rfl ?_
      refine v_if_ne (n := 33) (tgt := 51) dX11_textTold_30 (by decide) rfl (fun hq30 => ?_) (fun hq30 => ?_)
      · refine v_aload_n (n := 52) dX11_textTold_51 rfl rfl rfl ?_
        refine v_getR (n := 55) f_X11_9 rfl L.s L.g0 dX11_textTold_52 rfl ?_
        refine v_bipush (n := 57) (v := 116) dX11_textTold_55 b_116 rfl ?_
        refine v_iconst (n := 58) (v := 2) dX11_textTold_57 c_2 rfl ?_
        refine v_iload_n (n := 59) dX11_textTold_58 rfl rfl rfl ?_
        refine v_imul (n := 60) dX11_textTold_59 rfl ?_
        refine v_iadd (n := 61) dX11_textTold_60 rfl ?_
        refine v_iconst (n := 62) (v := 1) dX11_textTold_61 c_1 rfl ?_
        refine v_iadd (n := 63) dX11_textTold_62 rfl ?_
        refine v_iald (n := 64) (j := 117 + 2 * s) L.c0 (ix_of (by rw [i_ta, nI_1, show 116 + 2 * s + 1 = 117 + 2 * s by omega]) (by omega) (by decide)) dX11_textTold_63 rfl ?_
        exact v_rI rfl (by clear h; simp_all [-Int32.not_lt, -Int32.not_le, bi_0, bi_n0, textToldM, nI_clamp (show s < 2 ^ 31 by omega)]) rfl rfl ⟨l8 rfl, l8 rfl⟩ dX11_textTold_64
      · refine v_aload_n (n := 34) dX11_textTold_33 rfl rfl rfl ?_
        refine v_getR (n := 37) f_X11_9 rfl L.s L.g0 dX11_textTold_34 rfl ?_
        refine v_bipush (n := 39) (v := 116) dX11_textTold_37 b_116 rfl ?_
        refine v_iconst (n := 40) (v := 2) dX11_textTold_39 c_2 rfl ?_
        refine v_iload_n (n := 41) dX11_textTold_40 rfl rfl rfl ?_
        refine v_imul (n := 42) dX11_textTold_41 rfl ?_
        refine v_iadd (n := 43) dX11_textTold_42 rfl ?_
        refine v_iald (n := 44) (j := 116 + 2 * s) L.c0 (ix_of (i_ta s) (by omega) (by decide)) dX11_textTold_43 rfl ?_
        refine v_sipush (n := 47) (v := 1000) dX11_textTold_44 s_1000 rfl ?_
        refine v_idiv (n := 48) dX11_textTold_47 (by decide) rfl ?_
        refine v_goto (tgt := 64) dX11_textTold_48 (by decide) ?_
        exact v_rI rfl (by clear h; simp_all [-Int32.not_lt, -Int32.not_le, bi_0, bi_n0, textToldM, nI_clamp (show s < 2 ^ 31 by omega)]) rfl rfl ⟨l8 rfl, l8 rfl⟩ dX11_textTold_64
    · refine v_ldc (n := 28) k_X11_90 dX11_textTold_26 rfl ?_
      exact v_rI rfl (by clear h; simp_all [-Int32.not_lt, -Int32.not_le, bi_0, bi_n0, textToldM]) rfl rfl ⟨l8 rfl, l8 rfl⟩ dX11_textTold_28

set_option maxRecDepth 100000 in
set_option maxHeartbeats 1000000 in
theorem k_X11_count {ro : Ro} {S : St} {I : In} {xa : Int32} {m T n l b : Nat} (L : LayM S m) (h : WX (I (m + 1)) T n l b) : Ok mX11_count ro 2 0 0 [.ref m, .int xa] S I (RI (countM I m n xa) S I) := by
  refine ok_of (al := [.ref m, .int xa]) (by decide) (l8 rfl) rfl ?_
  refine v_iload_n (n := 1) dX11_count_0 rfl rfl rfl ?_
  by_cases hw1_0 : xa = 0
  · refine v_table (tgt := 60) (off := 59) dX11_count_1 (by rw [hw1_0, t_0]; decide) (by rw [hw1_0, t_0]; rfl) (by decide) ?_
    refine v_aload_n (n := 61) dX11_count_60 rfl rfl rfl ?_
    refine v_getR (n := 64) f_X11_9 rfl L.s L.g0 dX11_count_61 rfl ?_
    refine v_iconst (n := 65) (v := 1) dX11_count_64 c_1 rfl ?_
    refine v_iald (n := 66) (j := 1) L.c0 (ix_lit rfl rfl rfl) dX11_count_65 rfl ?_
    exact v_rI rfl (by clear h; simp_all [countM]) rfl rfl ⟨l8 rfl, l8 rfl⟩ dX11_count_66
  by_cases hw1_1 : xa = 1
  · refine v_table (tgt := 67) (off := 66) dX11_count_1 (by rw [hw1_1, t_1]; decide) (by rw [hw1_1, t_1]; rfl) (by decide) ?_
    refine v_aload_n (n := 68) dX11_count_67 rfl rfl rfl ?_
    refine v_getR (n := 71) f_X11_9 rfl L.s L.g0 dX11_count_68 rfl ?_
    refine v_iconst (n := 72) (v := 1) dX11_count_71 c_1 rfl ?_
    refine v_iload_n (n := 73) dX11_count_72 rfl rfl rfl ?_
    refine v_iadd (n := 74) dX11_count_73 rfl ?_
    refine v_iald (n := 75) (j := 2) L.c0 (ix_lit (by rw [hw1_1]; rfl) rfl rfl) dX11_count_74 rfl ?_
    exact v_rI rfl (by clear h; simp_all [countM]) rfl rfl ⟨l8 rfl, l8 rfl⟩ dX11_count_75
  by_cases hw1_2 : xa = 2
  · refine v_table (tgt := 67) (off := 66) dX11_count_1 (by rw [hw1_2, t_2]; decide) (by rw [hw1_2, t_2]; rfl) (by decide) ?_
    refine v_aload_n (n := 68) dX11_count_67 rfl rfl rfl ?_
    refine v_getR (n := 71) f_X11_9 rfl L.s L.g0 dX11_count_68 rfl ?_
    refine v_iconst (n := 72) (v := 1) dX11_count_71 c_1 rfl ?_
    refine v_iload_n (n := 73) dX11_count_72 rfl rfl rfl ?_
    refine v_iadd (n := 74) dX11_count_73 rfl ?_
    refine v_iald (n := 75) (j := 3) L.c0 (ix_lit (by rw [hw1_2]; rfl) rfl rfl) dX11_count_74 rfl ?_
    exact v_rI rfl (by clear h; simp_all [countM]) rfl rfl ⟨l8 rfl, l8 rfl⟩ dX11_count_75
  by_cases hw1_3 : xa = 3
  · refine v_table (tgt := 67) (off := 66) dX11_count_1 (by rw [hw1_3, t_3]; decide) (by rw [hw1_3, t_3]; rfl) (by decide) ?_
    refine v_aload_n (n := 68) dX11_count_67 rfl rfl rfl ?_
    refine v_getR (n := 71) f_X11_9 rfl L.s L.g0 dX11_count_68 rfl ?_
    refine v_iconst (n := 72) (v := 1) dX11_count_71 c_1 rfl ?_
    refine v_iload_n (n := 73) dX11_count_72 rfl rfl rfl ?_
    refine v_iadd (n := 74) dX11_count_73 rfl ?_
    refine v_iald (n := 75) (j := 4) L.c0 (ix_lit (by rw [hw1_3]; rfl) rfl rfl) dX11_count_74 rfl ?_
    exact v_rI rfl (by clear h; simp_all [countM]) rfl rfl ⟨l8 rfl, l8 rfl⟩ dX11_count_75
  by_cases hw1_4 : xa = 4
  · refine v_table (tgt := 67) (off := 66) dX11_count_1 (by rw [hw1_4, t_4]; decide) (by rw [hw1_4, t_4]; rfl) (by decide) ?_
    refine v_aload_n (n := 68) dX11_count_67 rfl rfl rfl ?_
    refine v_getR (n := 71) f_X11_9 rfl L.s L.g0 dX11_count_68 rfl ?_
    refine v_iconst (n := 72) (v := 1) dX11_count_71 c_1 rfl ?_
    refine v_iload_n (n := 73) dX11_count_72 rfl rfl rfl ?_
    refine v_iadd (n := 74) dX11_count_73 rfl ?_
    refine v_iald (n := 75) (j := 5) L.c0 (ix_lit (by rw [hw1_4]; rfl) rfl rfl) dX11_count_74 rfl ?_
    exact v_rI rfl (by clear h; simp_all [countM]) rfl rfl ⟨l8 rfl, l8 rfl⟩ dX11_count_75
  by_cases hw1_5 : xa = 5
  · refine v_table (tgt := 76) (off := 75) dX11_count_1 (by rw [hw1_5, t_5]; decide) (by rw [hw1_5, t_5]; rfl) (by decide) ?_
    refine v_aload_n (n := 77) dX11_count_76 rfl rfl rfl ?_
    refine v_iconst (n := 78) (v := 3) dX11_count_77 c_3 rfl ?_
    refine v_cVi (n := 81) (x := (sumX (I (m + 1)) 3 n)) mc_X11_sumOf l_X11_169 iv_X11_sumOf se_X11_sumOf (ci := 10) ⟨by decide, rfl⟩ L.s (k_X11_sumOf (u := 3) (n := n) L h.1 h.2.1 (by decide)) ⟨rfl, rfl⟩ (l8 rfl) ⟨l8 rfl, l8 rfl⟩ rfl rfl (l8 rfl) dX11_count_78 rfl ?_
    exact v_rI rfl (by clear h; simp_all [countM]) rfl rfl ⟨l8 rfl, l8 rfl⟩ dX11_count_81
  by_cases hw1_6 : xa = 6
  · refine v_table (tgt := 82) (off := 81) dX11_count_1 (by rw [hw1_6, t_6]; decide) (by rw [hw1_6, t_6]; rfl) (by decide) ?_
    refine v_aload_n (n := 83) dX11_count_82 rfl rfl rfl ?_
    refine v_iconst (n := 84) (v := 1) dX11_count_83 c_1 rfl ?_
    refine v_cVi (n := 87) (x := (sumX (I (m + 1)) 1 n)) mc_X11_sumOf l_X11_169 iv_X11_sumOf se_X11_sumOf (ci := 10) ⟨by decide, rfl⟩ L.s (k_X11_sumOf (u := 1) (n := n) L h.1 h.2.1 (by decide)) ⟨rfl, rfl⟩ (l8 rfl) ⟨l8 rfl, l8 rfl⟩ rfl rfl (l8 rfl) dX11_count_84 rfl ?_
    exact v_rI rfl (by clear h; simp_all [countM]) rfl rfl ⟨l8 rfl, l8 rfl⟩ dX11_count_87
  by_cases hw1_7 : xa = 7
  · refine v_table (tgt := 88) (off := 87) dX11_count_1 (by rw [hw1_7, t_7]; decide) (by rw [hw1_7, t_7]; rfl) (by decide) ?_
    refine v_aload_n (n := 89) dX11_count_88 rfl rfl rfl ?_
    refine v_getR (n := 92) f_X11_9 rfl L.s L.g0 dX11_count_89 rfl ?_
    refine v_bipush (n := 94) (v := 9) dX11_count_92 b_9 rfl ?_
    refine v_iald (n := 95) (j := 9) L.c0 (ix_lit rfl rfl rfl) dX11_count_94 rfl ?_
    exact v_rI rfl (by clear h; simp_all [countM]) rfl rfl ⟨l8 rfl, l8 rfl⟩ dX11_count_95
  by_cases hw1_8 : xa = 8
  · refine v_table (tgt := 96) (off := 95) dX11_count_1 (by rw [hw1_8, t_8]; decide) (by rw [hw1_8, t_8]; rfl) (by decide) ?_
    refine v_aload_n (n := 97) dX11_count_96 rfl rfl rfl ?_
    refine v_getI (n := 100) f_X11_261 rfl L.s dX11_count_97 rfl ?_
    exact v_rI rfl (by clear h; simp_all [countM]) rfl rfl ⟨l8 rfl, l8 rfl⟩ dX11_count_100
  by_cases hw1_9 : xa = 9
  · refine v_table (tgt := 101) (off := 100) dX11_count_1 (by rw [hw1_9, t_9]; decide) (by rw [hw1_9, t_9]; rfl) (by decide) ?_
    refine v_aload_n (n := 102) dX11_count_101 rfl rfl rfl ?_
    refine v_getI (n := 105) f_X11_186 rfl L.s dX11_count_102 rfl ?_
    exact v_rI rfl (by clear h; simp_all [countM]) rfl rfl ⟨l8 rfl, l8 rfl⟩ dX11_count_105
  by_cases hw1_10 : xa = 10
  · refine v_table (tgt := 106) (off := 105) dX11_count_1 (by rw [hw1_10, t_10]; decide) (by rw [hw1_10, t_10]; rfl) (by decide) ?_
    refine v_aload_n (n := 107) dX11_count_106 rfl rfl rfl ?_
    refine v_getR (n := 110) f_X11_9 rfl L.s L.g0 dX11_count_107 rfl ?_
    refine v_iconst (n := 111) (v := 0) dX11_count_110 c_0 rfl ?_
    refine v_iald (n := 112) (j := 0) L.c0 (ix_lit rfl rfl rfl) dX11_count_111 rfl ?_
    exact v_rI rfl (by clear h; simp_all [countM]) rfl rfl ⟨l8 rfl, l8 rfl⟩ dX11_count_112
  refine v_tableO (tgt := 113) dX11_count_1 (sw_out11 (lo := 0) hw1_0 hw1_1 hw1_2 hw1_3 hw1_4 hw1_5 hw1_6 hw1_7 hw1_8 hw1_9 hw1_10 t_0 t_1 t_2 t_3 t_4 t_5 t_6 t_7 t_8 t_9 t_10) (by decide) ?_
  refine v_ldc (n := 115) k_X11_90 dX11_count_113 rfl ?_
  exact v_rI rfl (by clear h; simp_all [countM]) rfl rfl ⟨l8 rfl, l8 rfl⟩ dX11_count_115

set_option maxRecDepth 100000 in
set_option maxHeartbeats 1000000 in
theorem l_X11_sheet {ro : Ro} {S : St} {I : In} {m s : Nat} {R : Int32} (L : LayM S m) (hs : s ≤ 3) (hR : I (m + 15) s = R) : ∀ k i, i ≤ 24 → 24 < i + k → V RX11 cX11_sheet 5 (some .int) "sheet" ro (rmD 2 0 0) (QM 0 0 (RI R S (uO I (m + 16) (24 * s) (fun _ => 0) 24))) 0 0 65 [.ref m, .int (nI s), JJ, JJ, .int (nI i)] [] S (uO I (m + 16) (24 * s) (fun _ => 0) i) := by
  intro k
  induction k with
  | zero => intro i hi hk; exact absurd hk (by omega)
  | succ k ih =>
    intro i hi hk
    refine v_iload (n := 67) dX11_sheet_65 rfl rfl ?_
    refine v_bipush (n := 69) (v := 24) dX11_sheet_67 b_24 rfl ?_
    refine v_icmp_ge (n := 72) (tgt := 91) dX11_sheet_69 (by decide) rfl (fun hq69 => ?_) (fun hq69 => ?_)
    · rw [lit_nI 24] at hq69
      obtain rfl : i = 24 := Nat.le_antisymm hi (le_out hq69 (by decide) (by omega))
      refine v_aload_n (n := 92) dX11_sheet_91 rfl rfl rfl ?_
      refine v_getR (n := 95) f_X11_54 rfl L.s L.g25 dX11_sheet_92 rfl ?_
      refine v_iload_n (n := 96) dX11_sheet_95 rfl rfl rfl ?_
      refine v_iald (n := 97) (j := s) L.c25 (ix_nI (by omega) (by decide)) dX11_sheet_96 rfl ?_
      exact v_rI rfl (by rw [uO_ne (by omega)]; exact hR) rfl rfl ⟨l8 rfl, l8 rfl⟩ dX11_sheet_97
    · rw [lit_nI 24] at hq69
      have hlt := nle_in hq69 (by decide) (by omega)
      refine v_aload_n (n := 73) dX11_sheet_72 rfl rfl rfl ?_
      refine v_getR (n := 76) f_X11_57 rfl L.s L.g26 dX11_sheet_73 rfl ?_
      refine v_bipush (n := 78) (v := 24) dX11_sheet_76 b_24 rfl ?_
      refine v_iload_n (n := 79) dX11_sheet_78 rfl rfl rfl ?_
      refine v_imul (n := 80) dX11_sheet_79 rfl ?_
      refine v_iload (n := 82) dX11_sheet_80 rfl rfl ?_
      refine v_iadd (n := 83) dX11_sheet_82 rfl ?_
      refine v_iconst (n := 84) (v := 0) dX11_sheet_83 c_0 rfl ?_
      refine v_iast (n := 85) (j := 24 * s + i) L.c26 (ix_of (i_24 s i) (by omega) (by decide)) dX11_sheet_84 rfl ?_
      refine v_iinc (n := 88) (v := (nI i) + 1) (al' := [.ref m, .int (nI s), JJ, JJ, .int ((nI i) + 1)]) dX11_sheet_85 rfl (by rw [c_1]) rfl rfl rfl ?_
      refine v_goto (tgt := 65) dX11_sheet_88 (by decide) ?_
      rw [nI_1]
      refine v_I (I' := uO I (m + 16) (24 * s) (fun _ => 0) (i + 1)) (uO_s (f := fun _ => 0)) ?_
      exact ih (i + 1) hlt (by omega)

set_option maxRecDepth 100000 in
set_option maxHeartbeats 1000000 in
theorem k_X11_sheet {ro : Ro} {S : St} {I : In} {xa xb xc : Int32} {m : Nat} (L : LayM S m) (h : MW I m) : Ok mX11_sheet ro 2 0 0 [.ref m, .int xa, .int xb, .int xc] S I (RI (sheetM I m xa xb xc).1 S (sheetM I m xa xb xc).2) := by
  refine ok_of (al := [.ref m, .int xa, .int xb, .int xc, JJ]) (by decide) (l8 rfl) rfl ?_
  refine v_iload_n (n := 1) dX11_sheet_0 rfl rfl rfl ?_
  refine v_cSi (n := 4) (x := (bi (inn xa 0 3))) mc_X11_isSheet l_X11_178 sta_X11_isSheet k_X11_isSheet ⟨rfl, rfl⟩ (l8 rfl) ⟨l8 rfl, l8 rfl⟩ rfl rfl (l8 rfl) dX11_sheet_1 rfl ?_
  refine v_if_eq (n := 7) (tgt := 26) dX11_sheet_4 (by decide) rfl (fun hq4 => ?_) (fun hq4 => ?_)
  · refine v_ldc (n := 28) k_X11_90 dX11_sheet_26 rfl ?_
    exact v_rI rfl (by clear h; simp_all [-Int32.not_lt, -Int32.not_le, bi_0, bi_n0, sheetM]) rfl (by clear h; simp_all [-Int32.not_lt, -Int32.not_le, bi_0, bi_n0, sheetM]) ⟨l8 rfl, l8 rfl⟩ dX11_sheet_28
  · refine v_iload_n (n := 8) dX11_sheet_7 rfl rfl rfl ?_
    refine v_iconst (n := 9) (v := (-1)) dX11_sheet_8 c_m1 rfl ?_
    refine v_iconst (n := 10) (v := 1) dX11_sheet_9 c_1 rfl ?_
    refine v_cSi (n := 13) (x := (bi (inn xb (-1) 1))) mc_X11_in l_X11_78 sta_X11_in k_X11_in ⟨rfl, rfl⟩ (l8 rfl) ⟨l8 rfl, l8 rfl⟩ rfl rfl (l8 rfl) dX11_sheet_10 rfl ?_
    refine v_if_eq (n := 16) (tgt := 26) dX11_sheet_13 (by decide) rfl (fun hq13 => ?_) (fun hq13 => ?_)
    · refine v_ldc (n := 28) k_X11_90 dX11_sheet_26 rfl ?_
      exact v_rI rfl (by clear h; simp_all [-Int32.not_lt, -Int32.not_le, bi_0, bi_n0, sheetM]) rfl (by clear h; simp_all [-Int32.not_lt, -Int32.not_le, bi_0, bi_n0, sheetM]) ⟨l8 rfl, l8 rfl⟩ dX11_sheet_28
    · refine v_iload_n (n := 17) dX11_sheet_16 rfl rfl rfl ?_
      refine v_if_lt (n := 20) (tgt := 29) dX11_sheet_17 (by decide) rfl (fun hq17 => ?_) (fun hq17 => ?_)
      · refine v_iload_n (n := 30) dX11_sheet_29 rfl rfl rfl ?_
        refine v_if_lt (n := 33) (tgt := 40) dX11_sheet_30 (by decide) rfl (fun hq30 => ?_) (fun hq30 => ?_)
        · obtain ⟨s, hs, rfl⟩ := inn_get (a := 3) (bi_n0.mp hq4) (by decide)
          refine v_aload_n (n := 41) dX11_sheet_40 rfl rfl rfl ?_
          refine v_getR (n := 44) f_X11_51 rfl L.s L.g24 dX11_sheet_41 rfl ?_
          refine v_iload_n (n := 45) dX11_sheet_44 rfl rfl rfl ?_
          refine v_iload_n (n := 46) dX11_sheet_45 rfl rfl rfl ?_
          refine v_iast (n := 47) (j := s) L.c24 (ix_nI (by omega) (by decide)) dX11_sheet_46 rfl ?_
          refine v_aload_n (n := 48) dX11_sheet_47 rfl rfl rfl ?_
          refine v_getR (n := 51) f_X11_54 rfl L.s L.g25 dX11_sheet_48 rfl ?_
          refine v_iload_n (n := 52) dX11_sheet_51 rfl rfl rfl ?_
          refine v_iload_n (n := 53) dX11_sheet_52 rfl rfl rfl ?_
          refine v_if_ge (n := 56) (tgt := 60) dX11_sheet_53 (by decide) rfl (fun hq53 => ?_) (fun hq53 => ?_)
          · refine v_iload_n (n := 61) dX11_sheet_60 rfl rfl rfl ?_
            refine v_iast (n := 62) (j := s) L.c25 (ix_nI (by omega) (by decide)) dX11_sheet_61 rfl ?_
            refine v_iconst (n := 63) (v := 0) dX11_sheet_62 c_0 rfl ?_
            refine v_istore (n := 65) (al' := [.ref m, .int (nI s), .int xb, .int xc, .int 0]) dX11_sheet_63 rfl rfl rfl ?_
            refine v_drop 2 (al' := [.ref m, .int (nI s), JJ, .int xc, .int 0]) rfl ?_
            refine v_drop 3 (al' := [.ref m, .int (nI s), JJ, JJ, .int 0]) rfl ?_
            rw [show sheetM I m (nI s) xb xc = (xc, uO (setI (setI I (m + 14) s xb) (m + 15) s xc) (m + 16) (24 * s) (fun _ => 0) 24) from by clear h; simp_all [-Int32.not_lt, -Int32.not_le, bi_0, bi_n0, sheetM, nI_clamp (show s < 2 ^ 31 by omega)]]
            refine v_I (I' := uO (setI (setI I (m + 14) s xb) (m + 15) s xc) (m + 16) (24 * s) (fun _ => 0) 0) uO_0.symm ?_
            exact l_X11_sheet L hs sI_s 25 0 (by decide) (by decide)
          · refine v_iconst (n := 57) (v := 0) dX11_sheet_56 c_0 rfl ?_
            refine v_goto (tgt := 61) dX11_sheet_57 (by decide) ?_
            refine v_iast (n := 62) (j := s) L.c25 (ix_nI (by omega) (by decide)) dX11_sheet_61 rfl ?_
            refine v_iconst (n := 63) (v := 0) dX11_sheet_62 c_0 rfl ?_
            refine v_istore (n := 65) (al' := [.ref m, .int (nI s), .int xb, .int xc, .int 0]) dX11_sheet_63 rfl rfl rfl ?_
            refine v_drop 2 (al' := [.ref m, .int (nI s), JJ, .int xc, .int 0]) rfl ?_
            refine v_drop 3 (al' := [.ref m, .int (nI s), JJ, JJ, .int 0]) rfl ?_
            rw [show sheetM I m (nI s) xb xc = (0, uO (setI (setI I (m + 14) s xb) (m + 15) s 0) (m + 16) (24 * s) (fun _ => 0) 24) from by clear h; simp_all [-Int32.not_lt, -Int32.not_le, bi_0, bi_n0, sheetM, nI_clamp (show s < 2 ^ 31 by omega)]]
            refine v_I (I' := uO (setI (setI I (m + 14) s xb) (m + 15) s 0) (m + 16) (24 * s) (fun _ => 0) 0) uO_0.symm ?_
            exact l_X11_sheet L hs sI_s 25 0 (by decide) (by decide)
        · refine v_iload_n (n := 34) dX11_sheet_33 rfl rfl rfl ?_
          refine v_if_ge (n := 37) (tgt := 40) dX11_sheet_34 (by decide) rfl (fun hq34 => ?_) (fun hq34 => ?_)
          · obtain ⟨s, hs, rfl⟩ := inn_get (a := 3) (bi_n0.mp hq4) (by decide)
            refine v_aload_n (n := 41) dX11_sheet_40 rfl rfl rfl ?_
            refine v_getR (n := 44) f_X11_51 rfl L.s L.g24 dX11_sheet_41 rfl ?_
            refine v_iload_n (n := 45) dX11_sheet_44 rfl rfl rfl ?_
            refine v_iload_n (n := 46) dX11_sheet_45 rfl rfl rfl ?_
            refine v_iast (n := 47) (j := s) L.c24 (ix_nI (by omega) (by decide)) dX11_sheet_46 rfl ?_
            refine v_aload_n (n := 48) dX11_sheet_47 rfl rfl rfl ?_
            refine v_getR (n := 51) f_X11_54 rfl L.s L.g25 dX11_sheet_48 rfl ?_
            refine v_iload_n (n := 52) dX11_sheet_51 rfl rfl rfl ?_
            refine v_iload_n (n := 53) dX11_sheet_52 rfl rfl rfl ?_
            refine v_if_ge (n := 56) (tgt := 60) dX11_sheet_53 (by decide) rfl (fun hq53 => ?_) (fun hq53 => ?_)
            · refine v_iload_n (n := 61) dX11_sheet_60 rfl rfl rfl ?_
              refine v_iast (n := 62) (j := s) L.c25 (ix_nI (by omega) (by decide)) dX11_sheet_61 rfl ?_
              refine v_iconst (n := 63) (v := 0) dX11_sheet_62 c_0 rfl ?_
              refine v_istore (n := 65) (al' := [.ref m, .int (nI s), .int xb, .int xc, .int 0]) dX11_sheet_63 rfl rfl rfl ?_
              refine v_drop 2 (al' := [.ref m, .int (nI s), JJ, .int xc, .int 0]) rfl ?_
              refine v_drop 3 (al' := [.ref m, .int (nI s), JJ, JJ, .int 0]) rfl ?_
              rw [show sheetM I m (nI s) xb xc = (xc, uO (setI (setI I (m + 14) s xb) (m + 15) s xc) (m + 16) (24 * s) (fun _ => 0) 24) from by clear h; simp_all [-Int32.not_lt, -Int32.not_le, bi_0, bi_n0, sheetM, nI_clamp (show s < 2 ^ 31 by omega)]]
              refine v_I (I' := uO (setI (setI I (m + 14) s xb) (m + 15) s xc) (m + 16) (24 * s) (fun _ => 0) 0) uO_0.symm ?_
              exact l_X11_sheet L hs sI_s 25 0 (by decide) (by decide)
            · refine v_iconst (n := 57) (v := 0) dX11_sheet_56 c_0 rfl ?_
              refine v_goto (tgt := 61) dX11_sheet_57 (by decide) ?_
              refine v_iast (n := 62) (j := s) L.c25 (ix_nI (by omega) (by decide)) dX11_sheet_61 rfl ?_
              refine v_iconst (n := 63) (v := 0) dX11_sheet_62 c_0 rfl ?_
              refine v_istore (n := 65) (al' := [.ref m, .int (nI s), .int xb, .int xc, .int 0]) dX11_sheet_63 rfl rfl rfl ?_
              refine v_drop 2 (al' := [.ref m, .int (nI s), JJ, .int xc, .int 0]) rfl ?_
              refine v_drop 3 (al' := [.ref m, .int (nI s), JJ, JJ, .int 0]) rfl ?_
              rw [show sheetM I m (nI s) xb xc = (0, uO (setI (setI I (m + 14) s xb) (m + 15) s 0) (m + 16) (24 * s) (fun _ => 0) 24) from by clear h; simp_all [-Int32.not_lt, -Int32.not_le, bi_0, bi_n0, sheetM, nI_clamp (show s < 2 ^ 31 by omega)]]
              refine v_I (I' := uO (setI (setI I (m + 14) s xb) (m + 15) s 0) (m + 16) (24 * s) (fun _ => 0) 0) uO_0.symm ?_
              exact l_X11_sheet L hs sI_s 25 0 (by decide) (by decide)
          · refine v_ldc (n := 39) k_X11_254 dX11_sheet_37 rfl ?_
            exact v_rI rfl (by clear h; simp_all [-Int32.not_lt, -Int32.not_le, bi_0, bi_n0, sheetM]) rfl (by clear h; simp_all [-Int32.not_lt, -Int32.not_le, bi_0, bi_n0, sheetM]) ⟨l8 rfl, l8 rfl⟩ dX11_sheet_39
      · refine v_iload_n (n := 21) dX11_sheet_20 rfl rfl rfl ?_
        refine v_bipush (n := 23) (v := 24) dX11_sheet_21 b_24 rfl ?_
        refine v_icmp_le (n := 26) (tgt := 29) dX11_sheet_23 (by decide) rfl (fun hq23 => ?_) (fun hq23 => ?_)
        · refine v_iload_n (n := 30) dX11_sheet_29 rfl rfl rfl ?_
          refine v_if_lt (n := 33) (tgt := 40) dX11_sheet_30 (by decide) rfl (fun hq30 => ?_) (fun hq30 => ?_)
          · obtain ⟨s, hs, rfl⟩ := inn_get (a := 3) (bi_n0.mp hq4) (by decide)
            refine v_aload_n (n := 41) dX11_sheet_40 rfl rfl rfl ?_
            refine v_getR (n := 44) f_X11_51 rfl L.s L.g24 dX11_sheet_41 rfl ?_
            refine v_iload_n (n := 45) dX11_sheet_44 rfl rfl rfl ?_
            refine v_iload_n (n := 46) dX11_sheet_45 rfl rfl rfl ?_
            refine v_iast (n := 47) (j := s) L.c24 (ix_nI (by omega) (by decide)) dX11_sheet_46 rfl ?_
            refine v_aload_n (n := 48) dX11_sheet_47 rfl rfl rfl ?_
            refine v_getR (n := 51) f_X11_54 rfl L.s L.g25 dX11_sheet_48 rfl ?_
            refine v_iload_n (n := 52) dX11_sheet_51 rfl rfl rfl ?_
            refine v_iload_n (n := 53) dX11_sheet_52 rfl rfl rfl ?_
            refine v_if_ge (n := 56) (tgt := 60) dX11_sheet_53 (by decide) rfl (fun hq53 => ?_) (fun hq53 => ?_)
            · refine v_iload_n (n := 61) dX11_sheet_60 rfl rfl rfl ?_
              refine v_iast (n := 62) (j := s) L.c25 (ix_nI (by omega) (by decide)) dX11_sheet_61 rfl ?_
              refine v_iconst (n := 63) (v := 0) dX11_sheet_62 c_0 rfl ?_
              refine v_istore (n := 65) (al' := [.ref m, .int (nI s), .int xb, .int xc, .int 0]) dX11_sheet_63 rfl rfl rfl ?_
              refine v_drop 2 (al' := [.ref m, .int (nI s), JJ, .int xc, .int 0]) rfl ?_
              refine v_drop 3 (al' := [.ref m, .int (nI s), JJ, JJ, .int 0]) rfl ?_
              rw [show sheetM I m (nI s) xb xc = (xc, uO (setI (setI I (m + 14) s xb) (m + 15) s xc) (m + 16) (24 * s) (fun _ => 0) 24) from by clear h; simp_all [-Int32.not_lt, -Int32.not_le, bi_0, bi_n0, sheetM, nI_clamp (show s < 2 ^ 31 by omega)]]
              refine v_I (I' := uO (setI (setI I (m + 14) s xb) (m + 15) s xc) (m + 16) (24 * s) (fun _ => 0) 0) uO_0.symm ?_
              exact l_X11_sheet L hs sI_s 25 0 (by decide) (by decide)
            · refine v_iconst (n := 57) (v := 0) dX11_sheet_56 c_0 rfl ?_
              refine v_goto (tgt := 61) dX11_sheet_57 (by decide) ?_
              refine v_iast (n := 62) (j := s) L.c25 (ix_nI (by omega) (by decide)) dX11_sheet_61 rfl ?_
              refine v_iconst (n := 63) (v := 0) dX11_sheet_62 c_0 rfl ?_
              refine v_istore (n := 65) (al' := [.ref m, .int (nI s), .int xb, .int xc, .int 0]) dX11_sheet_63 rfl rfl rfl ?_
              refine v_drop 2 (al' := [.ref m, .int (nI s), JJ, .int xc, .int 0]) rfl ?_
              refine v_drop 3 (al' := [.ref m, .int (nI s), JJ, JJ, .int 0]) rfl ?_
              rw [show sheetM I m (nI s) xb xc = (0, uO (setI (setI I (m + 14) s xb) (m + 15) s 0) (m + 16) (24 * s) (fun _ => 0) 24) from by clear h; simp_all [-Int32.not_lt, -Int32.not_le, bi_0, bi_n0, sheetM, nI_clamp (show s < 2 ^ 31 by omega)]]
              refine v_I (I' := uO (setI (setI I (m + 14) s xb) (m + 15) s 0) (m + 16) (24 * s) (fun _ => 0) 0) uO_0.symm ?_
              exact l_X11_sheet L hs sI_s 25 0 (by decide) (by decide)
          · refine v_iload_n (n := 34) dX11_sheet_33 rfl rfl rfl ?_
            refine v_if_ge (n := 37) (tgt := 40) dX11_sheet_34 (by decide) rfl (fun hq34 => ?_) (fun hq34 => ?_)
            · obtain ⟨s, hs, rfl⟩ := inn_get (a := 3) (bi_n0.mp hq4) (by decide)
              refine v_aload_n (n := 41) dX11_sheet_40 rfl rfl rfl ?_
              refine v_getR (n := 44) f_X11_51 rfl L.s L.g24 dX11_sheet_41 rfl ?_
              refine v_iload_n (n := 45) dX11_sheet_44 rfl rfl rfl ?_
              refine v_iload_n (n := 46) dX11_sheet_45 rfl rfl rfl ?_
              refine v_iast (n := 47) (j := s) L.c24 (ix_nI (by omega) (by decide)) dX11_sheet_46 rfl ?_
              refine v_aload_n (n := 48) dX11_sheet_47 rfl rfl rfl ?_
              refine v_getR (n := 51) f_X11_54 rfl L.s L.g25 dX11_sheet_48 rfl ?_
              refine v_iload_n (n := 52) dX11_sheet_51 rfl rfl rfl ?_
              refine v_iload_n (n := 53) dX11_sheet_52 rfl rfl rfl ?_
              refine v_if_ge (n := 56) (tgt := 60) dX11_sheet_53 (by decide) rfl (fun hq53 => ?_) (fun hq53 => ?_)
              · refine v_iload_n (n := 61) dX11_sheet_60 rfl rfl rfl ?_
                refine v_iast (n := 62) (j := s) L.c25 (ix_nI (by omega) (by decide)) dX11_sheet_61 rfl ?_
                refine v_iconst (n := 63) (v := 0) dX11_sheet_62 c_0 rfl ?_
                refine v_istore (n := 65) (al' := [.ref m, .int (nI s), .int xb, .int xc, .int 0]) dX11_sheet_63 rfl rfl rfl ?_
                refine v_drop 2 (al' := [.ref m, .int (nI s), JJ, .int xc, .int 0]) rfl ?_
                refine v_drop 3 (al' := [.ref m, .int (nI s), JJ, JJ, .int 0]) rfl ?_
                rw [show sheetM I m (nI s) xb xc = (xc, uO (setI (setI I (m + 14) s xb) (m + 15) s xc) (m + 16) (24 * s) (fun _ => 0) 24) from by clear h; simp_all [-Int32.not_lt, -Int32.not_le, bi_0, bi_n0, sheetM, nI_clamp (show s < 2 ^ 31 by omega)]]
                refine v_I (I' := uO (setI (setI I (m + 14) s xb) (m + 15) s xc) (m + 16) (24 * s) (fun _ => 0) 0) uO_0.symm ?_
                exact l_X11_sheet L hs sI_s 25 0 (by decide) (by decide)
              · refine v_iconst (n := 57) (v := 0) dX11_sheet_56 c_0 rfl ?_
                refine v_goto (tgt := 61) dX11_sheet_57 (by decide) ?_
                refine v_iast (n := 62) (j := s) L.c25 (ix_nI (by omega) (by decide)) dX11_sheet_61 rfl ?_
                refine v_iconst (n := 63) (v := 0) dX11_sheet_62 c_0 rfl ?_
                refine v_istore (n := 65) (al' := [.ref m, .int (nI s), .int xb, .int xc, .int 0]) dX11_sheet_63 rfl rfl rfl ?_
                refine v_drop 2 (al' := [.ref m, .int (nI s), JJ, .int xc, .int 0]) rfl ?_
                refine v_drop 3 (al' := [.ref m, .int (nI s), JJ, JJ, .int 0]) rfl ?_
                rw [show sheetM I m (nI s) xb xc = (0, uO (setI (setI I (m + 14) s xb) (m + 15) s 0) (m + 16) (24 * s) (fun _ => 0) 24) from by clear h; simp_all [-Int32.not_lt, -Int32.not_le, bi_0, bi_n0, sheetM, nI_clamp (show s < 2 ^ 31 by omega)]]
                refine v_I (I' := uO (setI (setI I (m + 14) s xb) (m + 15) s 0) (m + 16) (24 * s) (fun _ => 0) 0) uO_0.symm ?_
                exact l_X11_sheet L hs sI_s 25 0 (by decide) (by decide)
            · refine v_ldc (n := 39) k_X11_254 dX11_sheet_37 rfl ?_
              exact v_rI rfl (by clear h; simp_all [-Int32.not_lt, -Int32.not_le, bi_0, bi_n0, sheetM]) rfl (by clear h; simp_all [-Int32.not_lt, -Int32.not_le, bi_0, bi_n0, sheetM]) ⟨l8 rfl, l8 rfl⟩ dX11_sheet_39
        · refine v_ldc (n := 28) k_X11_90 dX11_sheet_26 rfl ?_
          exact v_rI rfl (by clear h; simp_all [-Int32.not_lt, -Int32.not_le, bi_0, bi_n0, sheetM]) rfl (by clear h; simp_all [-Int32.not_lt, -Int32.not_le, bi_0, bi_n0, sheetM]) ⟨l8 rfl, l8 rfl⟩ dX11_sheet_28

set_option maxRecDepth 100000 in
set_option maxHeartbeats 1000000 in
theorem k_X11_mark {ro : Ro} {S : St} {I : In} {xa xb xc : Int32} {m : Nat} (L : LayM S m) (h : MW I m) : Ok mX11_mark ro 2 0 0 [.ref m, .int xa, .int xb, .int xc] S I (RI (markM I m xa xb xc).1 S (markM I m xa xb xc).2) := by
  refine ok_of (al := [.ref m, .int xa, .int xb, .int xc]) (by decide) (l8 rfl) rfl ?_
  refine v_iload_n (n := 1) dX11_mark_0 rfl rfl rfl ?_
  refine v_cSi (n := 4) (x := (bi (inn xa 0 3))) mc_X11_isSheet l_X11_178 sta_X11_isSheet k_X11_isSheet ⟨rfl, rfl⟩ (l8 rfl) ⟨l8 rfl, l8 rfl⟩ rfl rfl (l8 rfl) dX11_mark_1 rfl ?_
  refine v_if_ne (n := 7) (tgt := 10) dX11_mark_4 (by decide) rfl (fun hq4 => ?_) (fun hq4 => ?_)
  · obtain ⟨s, hs, rfl⟩ := inn_get (a := 3) (bi_n0.mp hq4) (by decide)
    obtain ⟨hso, z0, hz0, ez⟩ := h.1 s (by omega)
    refine v_aload_n (n := 11) dX11_mark_10 rfl rfl rfl ?_
    refine v_getR (n := 14) f_X11_51 rfl L.s L.g24 dX11_mark_11 rfl ?_
    refine v_iload_n (n := 15) dX11_mark_14 rfl rfl rfl ?_
    refine v_iald (n := 16) (j := s) L.c24 (ix_nI (by omega) (by decide)) dX11_mark_15 rfl ?_
    refine v_if_ge (n := 19) (tgt := 22) dX11_mark_16 (by decide) rfl (fun hq16 => ?_) (fun hq16 => ?_)
    · refine v_iload_n (n := 23) dX11_mark_22 rfl rfl rfl ?_
      refine v_iconst (n := 24) (v := 0) dX11_mark_23 c_0 rfl ?_
      refine v_aload_n (n := 25) dX11_mark_24 rfl rfl rfl ?_
      refine v_getR (n := 28) f_X11_54 rfl L.s L.g25 dX11_mark_25 rfl ?_
      refine v_iload_n (n := 29) dX11_mark_28 rfl rfl rfl ?_
      refine v_iald (n := 30) (j := s) L.c25 (ix_nI (by omega) (by decide)) dX11_mark_29 rfl ?_
      refine v_iconst (n := 31) (v := 1) dX11_mark_30 c_1 rfl ?_
      refine v_isub (n := 32) dX11_mark_31 rfl ?_
      refine v_cSi (n := 35) (x := (bi (inn xb 0 ((I (m + 15) s) - 1)))) mc_X11_in l_X11_78 sta_X11_in k_X11_in ⟨rfl, rfl⟩ (l8 rfl) ⟨l8 rfl, l8 rfl⟩ rfl rfl (l8 rfl) dX11_mark_32 rfl ?_
      refine v_if_ne (n := 38) (tgt := 41) dX11_mark_35 (by decide) rfl (fun hq35 => ?_) (fun hq35 => ?_)
      · obtain ⟨p, hp, rfl⟩ := sz_get (bi_n0.mp hq35) ez (by omega)
        clear ez
        refine v_aload_n (n := 42) dX11_mark_41 rfl rfl rfl ?_
        refine v_getR (n := 45) f_X11_51 rfl L.s L.g24 dX11_mark_42 rfl ?_
        refine v_iload_n (n := 46) dX11_mark_45 rfl rfl rfl ?_
        refine v_iald (n := 47) (j := s) L.c24 (ix_nI (by omega) (by decide)) dX11_mark_46 rfl ?_
        refine v_if_ne (n := 50) (tgt := 59) dX11_mark_47 (by decide) rfl (fun hq47 => ?_) (fun hq47 => ?_)
        · refine v_aload_n (n := 60) dX11_mark_59 rfl rfl rfl ?_
          refine v_getR (n := 63) f_X11_51 rfl L.s L.g24 dX11_mark_60 rfl ?_
          refine v_iload_n (n := 64) dX11_mark_63 rfl rfl rfl ?_
          refine v_iald (n := 65) (j := s) L.c24 (ix_nI (by omega) (by decide)) dX11_mark_64 rfl ?_
          refine v_iconst (n := 66) (v := 1) dX11_mark_65 c_1 rfl ?_
          refine v_icmp_ne (n := 69) (tgt := 91) dX11_mark_66 (by decide) rfl (fun hq66 => ?_) (fun hq66 => ?_)
          · refine v_aload_n (n := 92) dX11_mark_91 rfl rfl rfl ?_
            refine v_getR (n := 95) f_X11_57 rfl L.s L.g26 dX11_mark_92 rfl ?_
            refine v_bipush (n := 97) (v := 24) dX11_mark_95 b_24 rfl ?_
            refine v_iload_n (n := 98) dX11_mark_97 rfl rfl rfl ?_
            refine v_imul (n := 99) dX11_mark_98 rfl ?_
            refine v_iload_n (n := 100) dX11_mark_99 rfl rfl rfl ?_
            refine v_iadd (n := 101) dX11_mark_100 rfl ?_
            refine v_aload_n (n := 102) dX11_mark_101 rfl rfl rfl ?_
            refine v_getR (n := 105) f_X11_51 rfl L.s L.g24 dX11_mark_102 rfl ?_
            refine v_iload_n (n := 106) dX11_mark_105 rfl rfl rfl ?_
            refine v_iald (n := 107) (j := s) L.c24 (ix_nI (by omega) (by decide)) dX11_mark_106 rfl ?_
            refine v_if_ne (n := 110) (tgt := 115) dX11_mark_107 (by decide) rfl (fun hq107 => ?_) (fun hq107 => ?_)
            · refine v_iload_n (n := 116) dX11_mark_115 rfl rfl rfl ?_
              refine v_iast (n := 117) (j := 24 * s + p) L.c26 (ix_of (i_24 s p) (by omega) (by decide)) dX11_mark_116 rfl ?_
              refine v_iconst (n := 118) (v := 1) dX11_mark_117 c_1 rfl ?_
              exact v_rI rfl (by clear h; simp_all [-Int32.not_lt, -Int32.not_le, bi_0, bi_n0, markM, nI_clamp (show s < 2 ^ 31 by omega), nI_clamp (show p < 2 ^ 31 by omega)]) rfl (by clear h; simp_all [-Int32.not_lt, -Int32.not_le, bi_0, bi_n0, markM, nI_clamp (show s < 2 ^ 31 by omega), nI_clamp (show p < 2 ^ 31 by omega)]) ⟨l8 rfl, l8 rfl⟩ dX11_mark_118
            · refine v_iload_n (n := 111) dX11_mark_110 rfl rfl rfl ?_
              refine v_i2s (n := 112) dX11_mark_111 rfl ?_
              refine v_goto (tgt := 116) dX11_mark_112 (by decide) ?_
              refine v_iast (n := 117) (j := 24 * s + p) L.c26 (ix_of (i_24 s p) (by omega) (by decide)) dX11_mark_116 rfl ?_
              refine v_iconst (n := 118) (v := 1) dX11_mark_117 c_1 rfl ?_
              exact v_rI rfl (by clear h; simp_all [-Int32.not_lt, -Int32.not_le, bi_0, bi_n0, markM, nI_clamp (show s < 2 ^ 31 by omega), nI_clamp (show p < 2 ^ 31 by omega)]) rfl (by clear h; simp_all [-Int32.not_lt, -Int32.not_le, bi_0, bi_n0, markM, nI_clamp (show s < 2 ^ 31 by omega), nI_clamp (show p < 2 ^ 31 by omega)]) ⟨l8 rfl, l8 rfl⟩ dX11_mark_118
          · refine v_iload_n (n := 70) dX11_mark_69 rfl rfl rfl ?_
            refine v_ldc (n := 72) k_X11_152 dX11_mark_70 rfl ?_
            refine v_icmp_eq (n := 75) (tgt := 91) dX11_mark_72 (by decide) rfl (fun hq72 => ?_) (fun hq72 => ?_)
            · refine v_aload_n (n := 92) dX11_mark_91 rfl rfl rfl ?_
              refine v_getR (n := 95) f_X11_57 rfl L.s L.g26 dX11_mark_92 rfl ?_
              refine v_bipush (n := 97) (v := 24) dX11_mark_95 b_24 rfl ?_
              refine v_iload_n (n := 98) dX11_mark_97 rfl rfl rfl ?_
              refine v_imul (n := 99) dX11_mark_98 rfl ?_
              refine v_iload_n (n := 100) dX11_mark_99 rfl rfl rfl ?_
              refine v_iadd (n := 101) dX11_mark_100 rfl ?_
              refine v_aload_n (n := 102) dX11_mark_101 rfl rfl rfl ?_
              refine v_getR (n := 105) f_X11_51 rfl L.s L.g24 dX11_mark_102 rfl ?_
              refine v_iload_n (n := 106) dX11_mark_105 rfl rfl rfl ?_
              refine v_iald (n := 107) (j := s) L.c24 (ix_nI (by omega) (by decide)) dX11_mark_106 rfl ?_
              refine v_if_ne (n := 110) (tgt := 115) dX11_mark_107 (by decide) rfl (fun hq107 => ?_) (fun hq107 => ?_)
              · refine v_iload_n (n := 116) dX11_mark_115 rfl rfl rfl ?_
                refine v_iast (n := 117) (j := 24 * s + p) L.c26 (ix_of (i_24 s p) (by omega) (by decide)) dX11_mark_116 rfl ?_
                refine v_iconst (n := 118) (v := 1) dX11_mark_117 c_1 rfl ?_
                exact v_rI rfl (by clear h; simp_all [-Int32.not_lt, -Int32.not_le, bi_0, bi_n0, markM, nI_clamp (show s < 2 ^ 31 by omega), nI_clamp (show p < 2 ^ 31 by omega)]) rfl (by clear h; simp_all [-Int32.not_lt, -Int32.not_le, bi_0, bi_n0, markM, nI_clamp (show s < 2 ^ 31 by omega), nI_clamp (show p < 2 ^ 31 by omega)]) ⟨l8 rfl, l8 rfl⟩ dX11_mark_118
              · refine v_iload_n (n := 111) dX11_mark_110 rfl rfl rfl ?_
                refine v_i2s (n := 112) dX11_mark_111 rfl ?_
                refine v_goto (tgt := 116) dX11_mark_112 (by decide) ?_
                refine v_iast (n := 117) (j := 24 * s + p) L.c26 (ix_of (i_24 s p) (by omega) (by decide)) dX11_mark_116 rfl ?_
                refine v_iconst (n := 118) (v := 1) dX11_mark_117 c_1 rfl ?_
                exact v_rI rfl (by clear h; simp_all [-Int32.not_lt, -Int32.not_le, bi_0, bi_n0, markM, nI_clamp (show s < 2 ^ 31 by omega), nI_clamp (show p < 2 ^ 31 by omega)]) rfl (by clear h; simp_all [-Int32.not_lt, -Int32.not_le, bi_0, bi_n0, markM, nI_clamp (show s < 2 ^ 31 by omega), nI_clamp (show p < 2 ^ 31 by omega)]) ⟨l8 rfl, l8 rfl⟩ dX11_mark_118
            · refine v_iload_n (n := 76) dX11_mark_75 rfl rfl rfl ?_
              refine v_ldcw (n := 79) k_X11_256 dX11_mark_76 rfl ?_
              refine v_ldcw (n := 82) k_X11_257 dX11_mark_79 rfl ?_
              refine v_cSi (n := 85) (x := (bi (inn xc (-99999) 99999))) mc_X11_in l_X11_78 sta_X11_in k_X11_in ⟨rfl, rfl⟩ (l8 rfl) ⟨l8 rfl, l8 rfl⟩ rfl rfl (l8 rfl) dX11_mark_82 rfl ?_
              refine v_if_ne (n := 88) (tgt := 91) dX11_mark_85 (by decide) rfl (fun hq85 => ?_) (fun hq85 => ?_)
              · refine v_aload_n (n := 92) dX11_mark_91 rfl rfl rfl ?_
                refine v_getR (n := 95) f_X11_57 rfl L.s L.g26 dX11_mark_92 rfl ?_
                refine v_bipush (n := 97) (v := 24) dX11_mark_95 b_24 rfl ?_
                refine v_iload_n (n := 98) dX11_mark_97 rfl rfl rfl ?_
                refine v_imul (n := 99) dX11_mark_98 rfl ?_
                refine v_iload_n (n := 100) dX11_mark_99 rfl rfl rfl ?_
                refine v_iadd (n := 101) dX11_mark_100 rfl ?_
                refine v_aload_n (n := 102) dX11_mark_101 rfl rfl rfl ?_
                refine v_getR (n := 105) f_X11_51 rfl L.s L.g24 dX11_mark_102 rfl ?_
                refine v_iload_n (n := 106) dX11_mark_105 rfl rfl rfl ?_
                refine v_iald (n := 107) (j := s) L.c24 (ix_nI (by omega) (by decide)) dX11_mark_106 rfl ?_
                refine v_if_ne (n := 110) (tgt := 115) dX11_mark_107 (by decide) rfl (fun hq107 => ?_) (fun hq107 => ?_)
                · refine v_iload_n (n := 116) dX11_mark_115 rfl rfl rfl ?_
                  refine v_iast (n := 117) (j := 24 * s + p) L.c26 (ix_of (i_24 s p) (by omega) (by decide)) dX11_mark_116 rfl ?_
                  refine v_iconst (n := 118) (v := 1) dX11_mark_117 c_1 rfl ?_
                  exact v_rI rfl (by clear h; simp_all [-Int32.not_lt, -Int32.not_le, bi_0, bi_n0, markM, nI_clamp (show s < 2 ^ 31 by omega), nI_clamp (show p < 2 ^ 31 by omega)]) rfl (by clear h; simp_all [-Int32.not_lt, -Int32.not_le, bi_0, bi_n0, markM, nI_clamp (show s < 2 ^ 31 by omega), nI_clamp (show p < 2 ^ 31 by omega)]) ⟨l8 rfl, l8 rfl⟩ dX11_mark_118
                · refine v_iload_n (n := 111) dX11_mark_110 rfl rfl rfl ?_
                  refine v_i2s (n := 112) dX11_mark_111 rfl ?_
                  refine v_goto (tgt := 116) dX11_mark_112 (by decide) ?_
                  refine v_iast (n := 117) (j := 24 * s + p) L.c26 (ix_of (i_24 s p) (by omega) (by decide)) dX11_mark_116 rfl ?_
                  refine v_iconst (n := 118) (v := 1) dX11_mark_117 c_1 rfl ?_
                  exact v_rI rfl (by clear h; simp_all [-Int32.not_lt, -Int32.not_le, bi_0, bi_n0, markM, nI_clamp (show s < 2 ^ 31 by omega), nI_clamp (show p < 2 ^ 31 by omega)]) rfl (by clear h; simp_all [-Int32.not_lt, -Int32.not_le, bi_0, bi_n0, markM, nI_clamp (show s < 2 ^ 31 by omega), nI_clamp (show p < 2 ^ 31 by omega)]) ⟨l8 rfl, l8 rfl⟩ dX11_mark_118
              · refine v_ldc (n := 90) k_X11_90 dX11_mark_88 rfl ?_
                exact v_rI rfl (by clear h; simp_all [-Int32.not_lt, -Int32.not_le, bi_0, bi_n0, markM, nI_clamp (show s < 2 ^ 31 by omega), nI_clamp (show p < 2 ^ 31 by omega)]) rfl (by clear h; simp_all [-Int32.not_lt, -Int32.not_le, bi_0, bi_n0, markM, nI_clamp (show s < 2 ^ 31 by omega), nI_clamp (show p < 2 ^ 31 by omega)]) ⟨l8 rfl, l8 rfl⟩ dX11_mark_90
        · refine v_iload_n (n := 51) dX11_mark_50 rfl rfl rfl ?_
          refine v_ldc (n := 53) k_X11_152 dX11_mark_51 rfl ?_
          refine v_icmp_ne (n := 56) (tgt := 59) dX11_mark_53 (by decide) rfl (fun hq53 => ?_) (fun hq53 => ?_)
          · refine v_aload_n (n := 60) dX11_mark_59 rfl rfl rfl ?_
            refine v_getR (n := 63) f_X11_51 rfl L.s L.g24 dX11_mark_60 rfl ?_
            refine v_iload_n (n := 64) dX11_mark_63 rfl rfl rfl ?_
            refine v_iald (n := 65) (j := s) L.c24 (ix_nI (by omega) (by decide)) dX11_mark_64 rfl ?_
            refine v_iconst (n := 66) (v := 1) dX11_mark_65 c_1 rfl ?_
            refine v_icmp_ne (n := 69) (tgt := 91) dX11_mark_66 (by decide) rfl (fun hq66 => ?_) (fun hq66 => ?_)
            · refine v_aload_n (n := 92) dX11_mark_91 rfl rfl rfl ?_
              refine v_getR (n := 95) f_X11_57 rfl L.s L.g26 dX11_mark_92 rfl ?_
              refine v_bipush (n := 97) (v := 24) dX11_mark_95 b_24 rfl ?_
              refine v_iload_n (n := 98) dX11_mark_97 rfl rfl rfl ?_
              refine v_imul (n := 99) dX11_mark_98 rfl ?_
              refine v_iload_n (n := 100) dX11_mark_99 rfl rfl rfl ?_
              refine v_iadd (n := 101) dX11_mark_100 rfl ?_
              refine v_aload_n (n := 102) dX11_mark_101 rfl rfl rfl ?_
              refine v_getR (n := 105) f_X11_51 rfl L.s L.g24 dX11_mark_102 rfl ?_
              refine v_iload_n (n := 106) dX11_mark_105 rfl rfl rfl ?_
              refine v_iald (n := 107) (j := s) L.c24 (ix_nI (by omega) (by decide)) dX11_mark_106 rfl ?_
              refine v_if_ne (n := 110) (tgt := 115) dX11_mark_107 (by decide) rfl (fun hq107 => ?_) (fun hq107 => ?_)
              · refine v_iload_n (n := 116) dX11_mark_115 rfl rfl rfl ?_
                refine v_iast (n := 117) (j := 24 * s + p) L.c26 (ix_of (i_24 s p) (by omega) (by decide)) dX11_mark_116 rfl ?_
                refine v_iconst (n := 118) (v := 1) dX11_mark_117 c_1 rfl ?_
                exact v_rI rfl (by clear h; simp_all [-Int32.not_lt, -Int32.not_le, bi_0, bi_n0, markM, nI_clamp (show s < 2 ^ 31 by omega), nI_clamp (show p < 2 ^ 31 by omega)]) rfl (by clear h; simp_all [-Int32.not_lt, -Int32.not_le, bi_0, bi_n0, markM, nI_clamp (show s < 2 ^ 31 by omega), nI_clamp (show p < 2 ^ 31 by omega)]) ⟨l8 rfl, l8 rfl⟩ dX11_mark_118
              · refine v_iload_n (n := 111) dX11_mark_110 rfl rfl rfl ?_
                refine v_i2s (n := 112) dX11_mark_111 rfl ?_
                refine v_goto (tgt := 116) dX11_mark_112 (by decide) ?_
                refine v_iast (n := 117) (j := 24 * s + p) L.c26 (ix_of (i_24 s p) (by omega) (by decide)) dX11_mark_116 rfl ?_
                refine v_iconst (n := 118) (v := 1) dX11_mark_117 c_1 rfl ?_
                exact v_rI rfl (by clear h; simp_all [-Int32.not_lt, -Int32.not_le, bi_0, bi_n0, markM, nI_clamp (show s < 2 ^ 31 by omega), nI_clamp (show p < 2 ^ 31 by omega)]) rfl (by clear h; simp_all [-Int32.not_lt, -Int32.not_le, bi_0, bi_n0, markM, nI_clamp (show s < 2 ^ 31 by omega), nI_clamp (show p < 2 ^ 31 by omega)]) ⟨l8 rfl, l8 rfl⟩ dX11_mark_118
            · refine v_iload_n (n := 70) dX11_mark_69 rfl rfl rfl ?_
              refine v_ldc (n := 72) k_X11_152 dX11_mark_70 rfl ?_
              refine v_icmp_eq (n := 75) (tgt := 91) dX11_mark_72 (by decide) rfl (fun hq72 => ?_) (fun hq72 => ?_)
              · refine v_aload_n (n := 92) dX11_mark_91 rfl rfl rfl ?_
                refine v_getR (n := 95) f_X11_57 rfl L.s L.g26 dX11_mark_92 rfl ?_
                refine v_bipush (n := 97) (v := 24) dX11_mark_95 b_24 rfl ?_
                refine v_iload_n (n := 98) dX11_mark_97 rfl rfl rfl ?_
                refine v_imul (n := 99) dX11_mark_98 rfl ?_
                refine v_iload_n (n := 100) dX11_mark_99 rfl rfl rfl ?_
                refine v_iadd (n := 101) dX11_mark_100 rfl ?_
                refine v_aload_n (n := 102) dX11_mark_101 rfl rfl rfl ?_
                refine v_getR (n := 105) f_X11_51 rfl L.s L.g24 dX11_mark_102 rfl ?_
                refine v_iload_n (n := 106) dX11_mark_105 rfl rfl rfl ?_
                refine v_iald (n := 107) (j := s) L.c24 (ix_nI (by omega) (by decide)) dX11_mark_106 rfl ?_
                refine v_if_ne (n := 110) (tgt := 115) dX11_mark_107 (by decide) rfl (fun hq107 => ?_) (fun hq107 => ?_)
                · refine v_iload_n (n := 116) dX11_mark_115 rfl rfl rfl ?_
                  refine v_iast (n := 117) (j := 24 * s + p) L.c26 (ix_of (i_24 s p) (by omega) (by decide)) dX11_mark_116 rfl ?_
                  refine v_iconst (n := 118) (v := 1) dX11_mark_117 c_1 rfl ?_
                  exact v_rI rfl (by clear h; simp_all [-Int32.not_lt, -Int32.not_le, bi_0, bi_n0, markM, nI_clamp (show s < 2 ^ 31 by omega), nI_clamp (show p < 2 ^ 31 by omega)]) rfl (by clear h; simp_all [-Int32.not_lt, -Int32.not_le, bi_0, bi_n0, markM, nI_clamp (show s < 2 ^ 31 by omega), nI_clamp (show p < 2 ^ 31 by omega)]) ⟨l8 rfl, l8 rfl⟩ dX11_mark_118
                · refine v_iload_n (n := 111) dX11_mark_110 rfl rfl rfl ?_
                  refine v_i2s (n := 112) dX11_mark_111 rfl ?_
                  refine v_goto (tgt := 116) dX11_mark_112 (by decide) ?_
                  refine v_iast (n := 117) (j := 24 * s + p) L.c26 (ix_of (i_24 s p) (by omega) (by decide)) dX11_mark_116 rfl ?_
                  refine v_iconst (n := 118) (v := 1) dX11_mark_117 c_1 rfl ?_
                  exact v_rI rfl (by clear h; simp_all [-Int32.not_lt, -Int32.not_le, bi_0, bi_n0, markM, nI_clamp (show s < 2 ^ 31 by omega), nI_clamp (show p < 2 ^ 31 by omega)]) rfl (by clear h; simp_all [-Int32.not_lt, -Int32.not_le, bi_0, bi_n0, markM, nI_clamp (show s < 2 ^ 31 by omega), nI_clamp (show p < 2 ^ 31 by omega)]) ⟨l8 rfl, l8 rfl⟩ dX11_mark_118
              · refine v_iload_n (n := 76) dX11_mark_75 rfl rfl rfl ?_
                refine v_ldcw (n := 79) k_X11_256 dX11_mark_76 rfl ?_
                refine v_ldcw (n := 82) k_X11_257 dX11_mark_79 rfl ?_
                refine v_cSi (n := 85) (x := (bi (inn xc (-99999) 99999))) mc_X11_in l_X11_78 sta_X11_in k_X11_in ⟨rfl, rfl⟩ (l8 rfl) ⟨l8 rfl, l8 rfl⟩ rfl rfl (l8 rfl) dX11_mark_82 rfl ?_
                refine v_if_ne (n := 88) (tgt := 91) dX11_mark_85 (by decide) rfl (fun hq85 => ?_) (fun hq85 => ?_)
                · refine v_aload_n (n := 92) dX11_mark_91 rfl rfl rfl ?_
                  refine v_getR (n := 95) f_X11_57 rfl L.s L.g26 dX11_mark_92 rfl ?_
                  refine v_bipush (n := 97) (v := 24) dX11_mark_95 b_24 rfl ?_
                  refine v_iload_n (n := 98) dX11_mark_97 rfl rfl rfl ?_
                  refine v_imul (n := 99) dX11_mark_98 rfl ?_
                  refine v_iload_n (n := 100) dX11_mark_99 rfl rfl rfl ?_
                  refine v_iadd (n := 101) dX11_mark_100 rfl ?_
                  refine v_aload_n (n := 102) dX11_mark_101 rfl rfl rfl ?_
                  refine v_getR (n := 105) f_X11_51 rfl L.s L.g24 dX11_mark_102 rfl ?_
                  refine v_iload_n (n := 106) dX11_mark_105 rfl rfl rfl ?_
                  refine v_iald (n := 107) (j := s) L.c24 (ix_nI (by omega) (by decide)) dX11_mark_106 rfl ?_
                  refine v_if_ne (n := 110) (tgt := 115) dX11_mark_107 (by decide) rfl (fun hq107 => ?_) (fun hq107 => ?_)
                  · refine v_iload_n (n := 116) dX11_mark_115 rfl rfl rfl ?_
                    refine v_iast (n := 117) (j := 24 * s + p) L.c26 (ix_of (i_24 s p) (by omega) (by decide)) dX11_mark_116 rfl ?_
                    refine v_iconst (n := 118) (v := 1) dX11_mark_117 c_1 rfl ?_
                    exact v_rI rfl (by clear h; simp_all [-Int32.not_lt, -Int32.not_le, bi_0, bi_n0, markM, nI_clamp (show s < 2 ^ 31 by omega), nI_clamp (show p < 2 ^ 31 by omega)]) rfl (by clear h; simp_all [-Int32.not_lt, -Int32.not_le, bi_0, bi_n0, markM, nI_clamp (show s < 2 ^ 31 by omega), nI_clamp (show p < 2 ^ 31 by omega)]) ⟨l8 rfl, l8 rfl⟩ dX11_mark_118
                  · refine v_iload_n (n := 111) dX11_mark_110 rfl rfl rfl ?_
                    refine v_i2s (n := 112) dX11_mark_111 rfl ?_
                    refine v_goto (tgt := 116) dX11_mark_112 (by decide) ?_
                    refine v_iast (n := 117) (j := 24 * s + p) L.c26 (ix_of (i_24 s p) (by omega) (by decide)) dX11_mark_116 rfl ?_
                    refine v_iconst (n := 118) (v := 1) dX11_mark_117 c_1 rfl ?_
                    exact v_rI rfl (by clear h; simp_all [-Int32.not_lt, -Int32.not_le, bi_0, bi_n0, markM, nI_clamp (show s < 2 ^ 31 by omega), nI_clamp (show p < 2 ^ 31 by omega)]) rfl (by clear h; simp_all [-Int32.not_lt, -Int32.not_le, bi_0, bi_n0, markM, nI_clamp (show s < 2 ^ 31 by omega), nI_clamp (show p < 2 ^ 31 by omega)]) ⟨l8 rfl, l8 rfl⟩ dX11_mark_118
                · refine v_ldc (n := 90) k_X11_90 dX11_mark_88 rfl ?_
                  exact v_rI rfl (by clear h; simp_all [-Int32.not_lt, -Int32.not_le, bi_0, bi_n0, markM, nI_clamp (show s < 2 ^ 31 by omega), nI_clamp (show p < 2 ^ 31 by omega)]) rfl (by clear h; simp_all [-Int32.not_lt, -Int32.not_le, bi_0, bi_n0, markM, nI_clamp (show s < 2 ^ 31 by omega), nI_clamp (show p < 2 ^ 31 by omega)]) ⟨l8 rfl, l8 rfl⟩ dX11_mark_90
          · refine v_ldc (n := 58) k_X11_133 dX11_mark_56 rfl ?_
            exact v_rI rfl (by clear h; simp_all [-Int32.not_lt, -Int32.not_le, bi_0, bi_n0, markM, nI_clamp (show s < 2 ^ 31 by omega), nI_clamp (show p < 2 ^ 31 by omega)]) rfl (by clear h; simp_all [-Int32.not_lt, -Int32.not_le, bi_0, bi_n0, markM, nI_clamp (show s < 2 ^ 31 by omega), nI_clamp (show p < 2 ^ 31 by omega)]) ⟨l8 rfl, l8 rfl⟩ dX11_mark_58
      · refine v_ldc (n := 40) k_X11_255 dX11_mark_38 rfl ?_
        exact v_rI rfl (by clear h; simp_all [-Int32.not_lt, -Int32.not_le, bi_0, bi_n0, markM, nI_clamp (show s < 2 ^ 31 by omega)]) rfl (by clear h; simp_all [-Int32.not_lt, -Int32.not_le, bi_0, bi_n0, markM, nI_clamp (show s < 2 ^ 31 by omega)]) ⟨l8 rfl, l8 rfl⟩ dX11_mark_40
    · refine v_ldc (n := 21) k_X11_181 dX11_mark_19 rfl ?_
      exact v_rI rfl (by clear h; simp_all [-Int32.not_lt, -Int32.not_le, bi_0, bi_n0, markM, nI_clamp (show s < 2 ^ 31 by omega)]) rfl (by clear h; simp_all [-Int32.not_lt, -Int32.not_le, bi_0, bi_n0, markM, nI_clamp (show s < 2 ^ 31 by omega)]) ⟨l8 rfl, l8 rfl⟩ dX11_mark_21
  · refine v_ldc (n := 9) k_X11_90 dX11_mark_7 rfl ?_
    exact v_rI rfl (by clear h; simp_all [-Int32.not_lt, -Int32.not_le, bi_0, bi_n0, markM]) rfl (by clear h; simp_all [-Int32.not_lt, -Int32.not_le, bi_0, bi_n0, markM]) ⟨l8 rfl, l8 rfl⟩ dX11_mark_9

