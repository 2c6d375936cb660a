/-! ===== the reference's calls, further ===== -/
def trimM (I : In) (m : Nat) (a : Int32) : Int32 × In := if inn a 0 (I m 7) = true then (a, setI I m 7 a) else (-1000000001, I)
def feedB (a b c : Int32) (k : Nat) : Int32 := ((if k < 4 then a else if k < 8 then b else c) >>> ((24 - 8 * (nI k % 4)) &&& 31)) &&& 255
def feedM (I : In) (m : Nat) (a b c : Int32) : Int32 × In := if I m 7 + 12 ≤ 96 then (I m 7 + 12, setI (uO I (m + 6) (I m 7).toNatClampNeg (feedB a b c) 12) m 7 (I m 7 + 12)) else (-1000000003, I)
def keepM (I : In) (m : Nat) : In := setI (uP I (m + 2) (I (m + 1)) 1488) m 3 1
def backM (I : In) (m : Nat) : Int32 × In := if I m 3 = 0 then (-1000000002, I) else (I (m + 2) 1, uP I (m + 1) (I (m + 2)) 1488)
def pTo (X ce : Ar) (i : Nat) : Int32 := if ce i = -1000000005 then X (76 + 4 * i + 1) else win (ce i) 0 999
def pouX (X ce : Ar) : Nat → Ar
  | 0 => X
  | i + 1 => upd (pouX X ce i) (76 + 4 * i + 1) (pTo X ce i)
def pouN (X ce : Ar) : Nat → Int32
  | 0 => 0
  | i + 1 => pouN X ce i + (if X (76 + 4 * i + 1) = pTo X ce i then 0 else 1)
theorem pou_o {X ce : Ar} {j : Nat} : ∀ i, (j < 76 ∨ 76 + 4 * i ≤ j ∨ j % 4 ≠ 1) → pouX X ce i j = X j
  | 0, _ => rfl
  | i + 1, h => by rw [pouX, pk_un (by omega), pou_o i (by omega)]
def pourM (I : In) (m n : Nat) (a : Int32) : Int32 × In := if inn a 0 3 = true then (if 0 ≤ I (m + 14) a.toNatClampNeg then (pouN (I (m + 1)) (fun j => I (m + 16) (24 * a.toNatClampNeg + j)) (min (I (m + 15) a.toNatClampNeg).toNatClampNeg n), row I (m + 1) (pouX (I (m + 1)) (fun j => I (m + 16) (24 * a.toNatClampNeg + j)) (min (I (m + 15) a.toNatClampNeg).toNatClampNeg n))) else (-1000000011, I)) else (-1000000001, I)
def rdF (X ce : Ar) (l : Nat) : Nat → Nat → Int32
  | 0, _ => -1000000005
  | r + 1, k => if ¬ ce k = -1000000005 ∧ (l ≤ k ∨ ¬ ce k = X (17 + 2 * k)) then nI k else rdF X ce l r (k + 1)
def readsM (I : In) (m l : Nat) (a : Int32) : Int32 := if inn a 0 3 = true then (if 0 ≤ I (m + 14) a.toNatClampNeg then rdF (I (m + 1)) (fun j => I (m + 16) (24 * a.toNatClampNeg + j)) l (I (m + 15) a.toNatClampNeg).toNatClampNeg 0 else -1000000011) else -1000000001
def cpF (I : In) (m : Nat) (a b : Int32) : Ar := fun k => I (m + 16) (24 * a.toNatClampNeg + b.toNatClampNeg + k)
def copyM (I : In) (m : Nat) (a b c d e : Int32) : Int32 × In := if (inn a 0 3 && inn c 0 3) = true then (if I (m + 14) a.toNatClampNeg < 0 then (-1000000011, I) else if 0 ≤ I (m + 14) c.toNatClampNeg then (if I (m + 14) a.toNatClampNeg = I (m + 14) c.toNatClampNeg then (if b < 0 then (-1000000013, I) else if d < 0 then (-1000000013, I) else if e < 0 then (-1000000013, I) else if I (m + 15) a.toNatClampNeg - e < b then (-1000000013, I) else if d ≤ I (m + 15) c.toNatClampNeg - e then (e, uO (uP I (m + 21) (cpF I m a b) e.toNatClampNeg) (m + 16) (24 * c.toNatClampNeg + d.toNatClampNeg) (cpF I m a b) e.toNatClampNeg) else (-1000000013, I)) else (-1000000012, I)) else (-1000000011, I)) else (-1000000001, I)
def layA (I : In) (m : Nat) (b c : Int32) : Int32 := if b = 1 then I (m + 1) (76 + 4 * c.toNatClampNeg) else if b = 2 then I (m + 15) c.toNatClampNeg else c
def layB (I : In) (m : Nat) (b c : Int32) : Int32 := if b = 1 then kWorthM (I (m + 1) (76 + 4 * c.toNatClampNeg)) (I (m + 1) (76 + 4 * c.toNatClampNeg + 1)) (I (m + 1) (76 + 4 * c.toNatClampNeg + 2)) else 0
def layI (I : In) (m : Nat) (a b c : Int32) : In := setI (setI (setI I (m + 17) a.toNatClampNeg b) (m + 18) a.toNatClampNeg (layA I m b c)) (m + 19) a.toNatClampNeg (layB I m b c)
def layM (I : In) (m : Nat) (a b c : Int32) : Int32 × In := if (inn a 0 4 && inn b 0 3) = true then (if b = 1 ∧ yd (I (m + 1)) c = false then (-1000000001, I) else if b = 2 ∧ inn c 0 3 = false then (-1000000001, I) else if b = 2 ∧ ¬ 0 ≤ I (m + 14) c.toNatClampNeg then (-1000000011, I) else (I (m + 17) a.toNatClampNeg, if b = 2 then uO (layI I m a b c) (m + 20) (24 * a.toNatClampNeg) (fun i => I (m + 16) (24 * c.toNatClampNeg + i)) 24 else layI I m a b c)) else (-1000000001, I)

set_option maxRecDepth 100000 in
set_option maxHeartbeats 1000000 in
theorem k_X11_trim {ro : Ro} {S : St} {I : In} {xa : Int32} {m : Nat} (L : LayM S m) : Ok mX11_trim ro 1 0 0 [.ref m, .int xa] S I (RI (trimM I m xa).1 S (trimM I m xa).2) := by
  refine ok_of (al := [.ref m, .int xa]) (by decide) (l8 rfl) rfl ?_
  refine v_iload_n (n := 1) dX11_trim_0 rfl rfl rfl ?_
  refine v_iconst (n := 2) (v := 0) dX11_trim_1 c_0 rfl ?_
  refine v_aload_n (n := 3) dX11_trim_2 rfl rfl rfl ?_
  refine v_getI (n := 6) f_X11_186 rfl L.s dX11_trim_3 rfl ?_
  refine v_cSi (n := 9) (x := (bi (inn xa 0 (I m 7)))) mc_X11_in l_X11_78 sta_X11_in k_X11_in ⟨rfl, rfl⟩ (l8 rfl) ⟨l8 rfl, l8 rfl⟩ rfl rfl (l8 rfl) dX11_trim_6 rfl ?_
  refine v_if_ne (n := 12) (tgt := 15) dX11_trim_9 (by decide) rfl (fun hq9 => ?_) (fun hq9 => ?_)
  · refine v_aload_n (n := 16) dX11_trim_15 rfl rfl rfl ?_
    refine v_iload_n (n := 17) dX11_trim_16 rfl rfl rfl ?_
    refine v_putI (n := 20) f_X11_186 rfl (Or.inl rfl) L.s dX11_trim_17 rfl ?_
    refine v_iload_n (n := 21) dX11_trim_20 rfl rfl rfl ?_
    exact v_rI rfl (by rw [trimM, if_pos (bi_n0.mp hq9)]) rfl (by rw [trimM, if_pos (bi_n0.mp hq9)]) ⟨l8 rfl, l8 rfl⟩ dX11_trim_21
  · refine v_ldc (n := 14) k_X11_90 dX11_trim_12 rfl ?_
    exact v_rI rfl (by simp_all [bi_0, trimM]) rfl (by simp_all [bi_0, trimM]) ⟨l8 rfl, l8 rfl⟩ dX11_trim_14

set_option maxRecDepth 100000 in
set_option maxHeartbeats 1000000 in
theorem k_X11_keep {ro : Ro} {S : St} {I : In} {m : Nat} (L : LayM S m) : Ok mX11_keep ro 1 0 0 [.ref m] S I (RI (I (m + 1) 1) S (keepM I m)) := by
  refine ok_of (al := [.ref m]) (by decide) (l8 rfl) rfl ?_
  refine v_aload_n (n := 1) dX11_keep_0 rfl rfl rfl ?_
  refine v_getR (n := 4) f_X11_9 rfl L.s L.g0 dX11_keep_1 rfl ?_
  refine v_aload_n (n := 5) dX11_keep_4 rfl rfl rfl ?_
  refine v_getR (n := 8) f_X11_13 rfl L.s L.g1 dX11_keep_5 rfl ?_
  refine v_cSv (n := 11) mc_X11_copyAll l_X11_268 sta_X11_copyAll (k_X11_copyAll L.c0 L.c1 (by omega)) ⟨rfl, rfl⟩ (l8 rfl) ⟨l8 rfl, l8 rfl⟩ rfl rfl (l8 rfl) dX11_keep_8 rfl ?_
  refine v_aload_n (n := 12) dX11_keep_11 rfl rfl rfl ?_
  refine v_iconst (n := 13) (v := 1) dX11_keep_12 c_1 rfl ?_
  refine v_putZ (n := 16) f_X11_264 rfl (Or.inl rfl) L.s (by decide) dX11_keep_13 rfl ?_
  refine v_aload_n (n := 17) dX11_keep_16 rfl rfl rfl ?_
  refine v_getR (n := 20) f_X11_9 rfl L.s L.g0 dX11_keep_17 rfl ?_
  refine v_iconst (n := 21) (v := 1) dX11_keep_20 c_1 rfl ?_
  refine v_iald (n := 22) (j := 1) L.c0 (ix_lit rfl rfl rfl) dX11_keep_21 rfl ?_
  exact v_rI rfl (by rw [sI_o (by omega), uP_o (by omega)]) rfl rfl ⟨l8 rfl, l8 rfl⟩ dX11_keep_22

set_option maxRecDepth 100000 in
set_option maxHeartbeats 1000000 in
theorem k_X11_back {ro : Ro} {S : St} {I : In} {m : Nat} (L : LayM S m) : Ok mX11_back ro 1 0 0 [.ref m] S I (RI (backM I m).1 S (backM I m).2) := by
  refine ok_of (al := [.ref m]) (by decide) (l8 rfl) rfl ?_
  refine v_aload_n (n := 1) dX11_back_0 rfl rfl rfl ?_
  refine v_getI (n := 4) f_X11_264 rfl L.s dX11_back_1 rfl ?_
  refine v_if_ne (n := 7) (tgt := 10) dX11_back_4 (by decide) rfl (fun hq4 => ?_) (fun hq4 => ?_)
  · refine v_aload_n (n := 11) dX11_back_10 rfl rfl rfl ?_
    refine v_getR (n := 14) f_X11_13 rfl L.s L.g1 dX11_back_11 rfl ?_
    refine v_aload_n (n := 15) dX11_back_14 rfl rfl rfl ?_
    refine v_getR (n := 18) f_X11_9 rfl L.s L.g0 dX11_back_15 rfl ?_
    refine v_cSv (n := 21) mc_X11_copyAll l_X11_268 sta_X11_copyAll (k_X11_copyAll L.c1 L.c0 (by omega)) ⟨rfl, rfl⟩ (l8 rfl) ⟨l8 rfl, l8 rfl⟩ rfl rfl (l8 rfl) dX11_back_18 rfl ?_
    refine v_aload_n (n := 22) dX11_back_21 rfl rfl rfl ?_
    refine v_getR (n := 25) f_X11_9 rfl L.s L.g0 dX11_back_22 rfl ?_
    refine v_iconst (n := 26) (v := 1) dX11_back_25 c_1 rfl ?_
    refine v_iald (n := 27) (j := 1) L.c0 (ix_lit rfl rfl rfl) dX11_back_26 rfl ?_
    exact v_rI rfl (by rw [backM, if_neg hq4, uP_in (by decide)]) rfl (by rw [backM, if_neg hq4]) ⟨l8 rfl, l8 rfl⟩ dX11_back_27
  · refine v_ldc (n := 9) k_X11_151 dX11_back_7 rfl ?_
    exact v_rI rfl (by rw [backM, if_pos hq4]) rfl (by rw [backM, if_pos hq4]) ⟨l8 rfl, l8 rfl⟩ dX11_back_9

set_option maxRecDepth 100000 in
set_option maxHeartbeats 1000000 in
theorem l_X11_feed {ro : Ro} {S : St} {I : In} {m t : Nat} {xa xb xc : Int32} (L : LayM S m) (ht : I m 7 = nI t) (ht2 : t + 12 ≤ 96) : ∀ k i, i ≤ 12 → 12 < i + k → V RX11 cX11_feed 6 (some .int) "feed" ro (rmD 0 0 0) (QM 0 0 (RI (I m 7 + 12) S (setI (uO I (m + 6) t (feedB xa xb xc) 12) m 7 (I m 7 + 12)))) 0 0 18 [.ref m, .int xa, .int xb, .int xc, .int (nI i), JJ] [] S (uO I (m + 6) t (feedB xa xb xc) i) := by
  intro k
  induction k with
  | zero => intro i hi hk; exact absurd hk (by omega)
  | succ k ih =>
    intro i hi hk
    refine v_iload (n := 20) dX11_feed_18 rfl rfl ?_
    refine v_bipush (n := 22) (v := 12) dX11_feed_20 b_12 rfl ?_
    refine v_icmp_ge (n := 25) (tgt := 84) dX11_feed_22 (by decide) rfl (fun hq22 => ?_) (fun hq22 => ?_)
    · rw [lit_nI 12] at hq22
      obtain rfl : i = 12 := Nat.le_antisymm hi (le_out hq22 (by decide) (by omega))
      refine v_aload_n (n := 85) dX11_feed_84 rfl rfl rfl ?_
      refine v_dup (n := 86) dX11_feed_85 rfl rfl ?_
      refine v_getI (n := 89) f_X11_186 rfl L.s dX11_feed_86 rfl ?_
      refine v_bipush (n := 91) (v := 12) dX11_feed_89 b_12 rfl ?_
      refine v_iadd (n := 92) dX11_feed_91 rfl ?_
      refine v_putI (n := 95) f_X11_186 rfl (Or.inl rfl) L.s dX11_feed_92 rfl ?_
      refine v_aload_n (n := 96) dX11_feed_95 rfl rfl rfl ?_
      refine v_getI (n := 99) f_X11_186 rfl L.s dX11_feed_96 rfl ?_
      exact v_rI rfl (by rw [sI_s, uO_ne (by omega)]) rfl (by rw [uO_ne (by omega)]) ⟨l8 rfl, l8 rfl⟩ dX11_feed_99
    · rw [lit_nI 12] at hq22
      have hlt := nle_in hq22 (by decide) (by omega)
      refine v_iload (n := 27) dX11_feed_25 rfl rfl ?_
      refine v_iconst (n := 28) (v := 4) dX11_feed_27 c_4 rfl ?_
      refine v_icmp_ge (n := 31) (tgt := 35) dX11_feed_28 (by decide) rfl (fun hq28 => ?_) (fun hq28 => ?_)
      · rw [lit_nI 4] at hq28
        have hq28 := le_out hq28 (by decide) (by omega)
        refine v_iload (n := 37) dX11_feed_35 rfl rfl ?_
        refine v_bipush (n := 39) (v := 8) dX11_feed_37 b_8 rfl ?_
        refine v_icmp_ge (n := 42) (tgt := 46) dX11_feed_39 (by decide) rfl (fun hq39 => ?_) (fun hq39 => ?_)
        · rw [lit_nI 8] at hq39
          have hq39 := le_out hq39 (by decide) (by omega)
          refine v_iload_n (n := 47) dX11_feed_46 rfl rfl rfl ?_
          refine v_istore (n := 49) (al' := [.ref m, .int xa, .int xb, .int xc, .int (nI i), .int xc]) dX11_feed_47 rfl rfl rfl ?_
          refine v_aload_n (n := 50) dX11_feed_49 rfl rfl rfl ?_
          refine v_getR (n := 53) f_X11_25 rfl L.s L.g6 dX11_feed_50 rfl ?_
          refine v_aload_n (n := 54) dX11_feed_53 rfl rfl rfl ?_
          refine v_getI (n := 57) f_X11_186 rfl L.s dX11_feed_54 rfl ?_
          refine v_iload (n := 59) dX11_feed_57 rfl rfl ?_
          refine v_iadd (n := 60) dX11_feed_59 rfl ?_
          refine v_iload (n := 62) dX11_feed_60 rfl rfl ?_
          refine v_bipush (n := 64) (v := 24) dX11_feed_62 b_24 rfl ?_
          refine v_bipush (n := 66) (v := 8) dX11_feed_64 b_8 rfl ?_
          refine v_iload (n := 68) dX11_feed_66 rfl rfl ?_
          refine v_iconst (n := 69) (v := 4) dX11_feed_68 c_4 rfl ?_
          refine v_irem (n := 70) dX11_feed_69 (by decide) rfl ?_
          refine v_imul (n := 71) dX11_feed_70 rfl ?_
          refine v_isub (n := 72) dX11_feed_71 rfl ?_
          refine v_ishr (n := 73) dX11_feed_72 rfl ?_
          refine v_sipush (n := 76) (v := 255) dX11_feed_73 s_255 rfl ?_
          refine v_iand (n := 77) dX11_feed_76 rfl ?_
          refine v_iast (n := 78) (j := t + i) L.c6 (ix_of (by rw [uO_ne (by omega), ht, nI_add]) (by omega) (by decide)) dX11_feed_77 rfl ?_
          refine v_iinc (n := 81) (v := (nI i) + 1) (al' := [.ref m, .int xa, .int xb, .int xc, .int ((nI i) + 1), .int xc]) dX11_feed_78 rfl (by rw [c_1]) rfl rfl rfl ?_
          refine v_goto (tgt := 18) dX11_feed_81 (by decide) ?_
          refine v_drop 5 (al' := [.ref m, .int xa, .int xb, .int xc, .int ((nI i) + 1), JJ]) rfl ?_
          rw [nI_1]
          refine v_I (I' := uO I (m + 6) t (feedB xa xb xc) (i + 1)) (by rw [← uO_s, show feedB xa xb xc i = ((xc >>> ((24 - (8 * ((nI i) % 4))) &&& 31)) &&& 255) from by rw [feedB, if_neg (by omega), if_neg (by omega)]]) ?_
          exact ih (i + 1) hlt (by omega)
        · rw [lit_nI 8] at hq39
          have hq39 := nle_in hq39 (by decide) (by omega)
          refine v_iload_n (n := 43) dX11_feed_42 rfl rfl rfl ?_
          refine v_goto (tgt := 47) dX11_feed_43 (by decide) ?_
          refine v_istore (n := 49) (al' := [.ref m, .int xa, .int xb, .int xc, .int (nI i), .int xb]) dX11_feed_47 rfl rfl rfl ?_
          refine v_aload_n (n := 50) dX11_feed_49 rfl rfl rfl ?_
          refine v_getR (n := 53) f_X11_25 rfl L.s L.g6 dX11_feed_50 rfl ?_
          refine v_aload_n (n := 54) dX11_feed_53 rfl rfl rfl ?_
          refine v_getI (n := 57) f_X11_186 rfl L.s dX11_feed_54 rfl ?_
          refine v_iload (n := 59) dX11_feed_57 rfl rfl ?_
          refine v_iadd (n := 60) dX11_feed_59 rfl ?_
          refine v_iload (n := 62) dX11_feed_60 rfl rfl ?_
          refine v_bipush (n := 64) (v := 24) dX11_feed_62 b_24 rfl ?_
          refine v_bipush (n := 66) (v := 8) dX11_feed_64 b_8 rfl ?_
          refine v_iload (n := 68) dX11_feed_66 rfl rfl ?_
          refine v_iconst (n := 69) (v := 4) dX11_feed_68 c_4 rfl ?_
          refine v_irem (n := 70) dX11_feed_69 (by decide) rfl ?_
          refine v_imul (n := 71) dX11_feed_70 rfl ?_
          refine v_isub (n := 72) dX11_feed_71 rfl ?_
          refine v_ishr (n := 73) dX11_feed_72 rfl ?_
          refine v_sipush (n := 76) (v := 255) dX11_feed_73 s_255 rfl ?_
          refine v_iand (n := 77) dX11_feed_76 rfl ?_
          refine v_iast (n := 78) (j := t + i) L.c6 (ix_of (by rw [uO_ne (by omega), ht, nI_add]) (by omega) (by decide)) dX11_feed_77 rfl ?_
          refine v_iinc (n := 81) (v := (nI i) + 1) (al' := [.ref m, .int xa, .int xb, .int xc, .int ((nI i) + 1), .int xb]) dX11_feed_78 rfl (by rw [c_1]) rfl rfl rfl ?_
          refine v_goto (tgt := 18) dX11_feed_81 (by decide) ?_
          refine v_drop 5 (al' := [.ref m, .int xa, .int xb, .int xc, .int ((nI i) + 1), JJ]) rfl ?_
          rw [nI_1]
          refine v_I (I' := uO I (m + 6) t (feedB xa xb xc) (i + 1)) (by rw [← uO_s, show feedB xa xb xc i = ((xb >>> ((24 - (8 * ((nI i) % 4))) &&& 31)) &&& 255) from by rw [feedB, if_neg (by omega), if_pos hq39]]) ?_
          exact ih (i + 1) hlt (by omega)
      · rw [lit_nI 4] at hq28
        have hq28 := nle_in hq28 (by decide) (by omega)
        refine v_iload_n (n := 32) dX11_feed_31 rfl rfl rfl ?_
        refine v_goto (tgt := 47) dX11_feed_32 (by decide) ?_
        refine v_istore (n := 49) (al' := [.ref m, .int xa, .int xb, .int xc, .int (nI i), .int xa]) dX11_feed_47 rfl rfl rfl ?_
        refine v_aload_n (n := 50) dX11_feed_49 rfl rfl rfl ?_
        refine v_getR (n := 53) f_X11_25 rfl L.s L.g6 dX11_feed_50 rfl ?_
        refine v_aload_n (n := 54) dX11_feed_53 rfl rfl rfl ?_
        refine v_getI (n := 57) f_X11_186 rfl L.s dX11_feed_54 rfl ?_
        refine v_iload (n := 59) dX11_feed_57 rfl rfl ?_
        refine v_iadd (n := 60) dX11_feed_59 rfl ?_
        refine v_iload (n := 62) dX11_feed_60 rfl rfl ?_
        refine v_bipush (n := 64) (v := 24) dX11_feed_62 b_24 rfl ?_
        refine v_bipush (n := 66) (v := 8) dX11_feed_64 b_8 rfl ?_
        refine v_iload (n := 68) dX11_feed_66 rfl rfl ?_
        refine v_iconst (n := 69) (v := 4) dX11_feed_68 c_4 rfl ?_
        refine v_irem (n := 70) dX11_feed_69 (by decide) rfl ?_
        refine v_imul (n := 71) dX11_feed_70 rfl ?_
        refine v_isub (n := 72) dX11_feed_71 rfl ?_
        refine v_ishr (n := 73) dX11_feed_72 rfl ?_
        refine v_sipush (n := 76) (v := 255) dX11_feed_73 s_255 rfl ?_
        refine v_iand (n := 77) dX11_feed_76 rfl ?_
        refine v_iast (n := 78) (j := t + i) L.c6 (ix_of (by rw [uO_ne (by omega), ht, nI_add]) (by omega) (by decide)) dX11_feed_77 rfl ?_
        refine v_iinc (n := 81) (v := (nI i) + 1) (al' := [.ref m, .int xa, .int xb, .int xc, .int ((nI i) + 1), .int xa]) dX11_feed_78 rfl (by rw [c_1]) rfl rfl rfl ?_
        refine v_goto (tgt := 18) dX11_feed_81 (by decide) ?_
        refine v_drop 5 (al' := [.ref m, .int xa, .int xb, .int xc, .int ((nI i) + 1), JJ]) rfl ?_
        rw [nI_1]
        refine v_I (I' := uO I (m + 6) t (feedB xa xb xc) (i + 1)) (by rw [← uO_s, show feedB xa xb xc i = ((xa >>> ((24 - (8 * ((nI i) % 4))) &&& 31)) &&& 255) from by rw [feedB, if_pos hq28]]) ?_
        exact ih (i + 1) hlt (by omega)

set_option maxRecDepth 100000 in
set_option maxHeartbeats 1000000 in
theorem k_X11_feed {ro : Ro} {S : St} {I : In} {xa xb xc : Int32} {m : Nat} (L : LayM S m) (h : MW I m) : Ok mX11_feed ro 0 0 0 [.ref m, .int xa, .int xb, .int xc] S I (RI (feedM I m xa xb xc).1 S (feedM I m xa xb xc).2) := by
  refine ok_of (al := [.ref m, .int xa, .int xb, .int xc, JJ, JJ]) (by decide) (l8 rfl) rfl ?_
  refine v_aload_n (n := 1) dX11_feed_0 rfl rfl rfl ?_
  refine v_getI (n := 4) f_X11_186 rfl L.s dX11_feed_1 rfl ?_
  refine v_bipush (n := 6) (v := 12) dX11_feed_4 b_12 rfl ?_
  refine v_iadd (n := 7) dX11_feed_6 rfl ?_
  refine v_bipush (n := 9) (v := 96) dX11_feed_7 b_96 rfl ?_
  refine v_icmp_le (n := 12) (tgt := 15) dX11_feed_9 (by decide) rfl (fun hq9 => ?_) (fun hq9 => ?_)
  · obtain ⟨t, ht, ht2⟩ := h.2.2.2.1
    have ht3 : t + 12 ≤ 96 := by
      rw [ht2, lit_nI 12, nI_add, lit_nI 96] at hq9
      exact le_out hq9 (by omega) (by decide)
    refine v_iconst (n := 16) (v := 0) dX11_feed_15 c_0 rfl ?_
    refine v_istore (n := 18) (al' := [.ref m, .int xa, .int xb, .int xc, .int 0, JJ]) dX11_feed_16 rfl rfl rfl ?_
    rw [show feedM I m xa xb xc = (I m 7 + 12, setI (uO I (m + 6) t (feedB xa xb xc) 12) m 7 (I m 7 + 12)) from by rw [feedM, if_pos hq9, show (I m 7).toNatClampNeg = t from by rw [ht2, nI_clamp (by omega)]]]
    refine v_I (I' := uO I (m + 6) t (feedB xa xb xc) 0) uO_0.symm ?_
    exact l_X11_feed L ht2 ht3 13 0 (by decide) (by decide)
  · refine v_ldc (n := 14) k_X11_91 dX11_feed_12 rfl ?_
    exact v_rI rfl (by rw [feedM, if_neg hq9]) rfl (by rw [feedM, if_neg hq9]) ⟨l8 rfl, l8 rfl⟩ dX11_feed_14

set_option maxRecDepth 100000 in
set_option maxHeartbeats 1000000 in
theorem l_X11_pour {ro : Ro} {S : St} {I : In} {m s z n K : Nat} (L : LayM S m) (hs : s ≤ 3) (hz : I (m + 15) s = nI z) (hz24 : z ≤ 24) (h1 : I (m + 1) 1 = nI n) (hn10 : n ≤ 10) (hK : K = min z n) : ∀ k i, i ≤ K → K < i + k → V RX11 cX11_pour 6 (some .int) "pour" ro (rmD 2 0 0) (QM 0 0 (RI (pouN (I (m + 1)) (fun j => I (m + 16) (24 * s + j)) K) S (row I (m + 1) (pouX (I (m + 1)) (fun j => I (m + 16) (24 * s + j)) K)))) 0 0 26 [.ref m, .int (nI s), .int (pouN (I (m + 1)) (fun j => I (m + 16) (24 * s + j)) i), .int (nI i), JJ, JJ] [] S (row I (m + 1) (pouX (I (m + 1)) (fun j => I (m + 16) (24 * s + j)) i)) := by
  intro k
  induction k with
  | zero => intro i hi hk; exact absurd hk (by omega)
  | succ k ih =>
    intro i hi hk
    refine v_iload_n (n := 27) dX11_pour_26 rfl rfl rfl ?_
    refine v_aload_n (n := 28) dX11_pour_27 rfl rfl rfl ?_
    refine v_getR (n := 31) f_X11_54 rfl L.s L.g25 dX11_pour_28 rfl ?_
    refine v_iload_n (n := 32) dX11_pour_31 rfl rfl rfl ?_
    refine v_iald (n := 33) (j := s) L.c25 (ix_nI (by omega) (by decide)) dX11_pour_32 rfl ?_
    refine v_icmp_ge (n := 36) (tgt := 119) dX11_pour_33 (by decide) rfl (fun hq33 => ?_) (fun hq33 => ?_)
    · rw [row_oo (by omega), hz] at hq33
      have hq := le_out hq33 (by omega) (by omega)
      obtain rfl : i = K := by omega
      refine v_iload_n (n := 120) dX11_pour_119 rfl rfl rfl ?_
      exact v_rI rfl rfl rfl rfl ⟨l8 rfl, l8 rfl⟩ dX11_pour_120
    · rw [row_oo (by omega), hz] at hq33
      have hq := nle_in hq33 (by omega) (by omega)
      refine v_iload_n (n := 37) dX11_pour_36 rfl rfl rfl ?_
      refine v_aload_n (n := 38) dX11_pour_37 rfl rfl rfl ?_
      refine v_getR (n := 41) f_X11_9 rfl L.s L.g0 dX11_pour_38 rfl ?_
      refine v_iconst (n := 42) (v := 1) dX11_pour_41 c_1 rfl ?_
      refine v_iald (n := 43) (j := 1) L.c0 (ix_lit rfl rfl rfl) dX11_pour_42 rfl ?_
      refine v_icmp_ge (n := 46) (tgt := 119) dX11_pour_43 (by decide) rfl (fun hq43 => ?_) (fun hq43 => ?_)
      · rw [row_s, pou_o i (by omega), h1] at hq43
        have hqn := le_out hq43 (by omega) (by omega)
        obtain rfl : i = K := by omega
        refine v_iload_n (n := 120) dX11_pour_119 rfl rfl rfl ?_
        exact v_rI rfl rfl rfl rfl ⟨l8 rfl, l8 rfl⟩ dX11_pour_120
      · rw [row_s, pou_o i (by omega), h1] at hq43
        have hqn := nle_in hq43 (by omega) (by omega)
        refine v_aload_n (n := 47) dX11_pour_46 rfl rfl rfl ?_
        refine v_getR (n := 50) f_X11_57 rfl L.s L.g26 dX11_pour_47 rfl ?_
        refine v_bipush (n := 52) (v := 24) dX11_pour_50 b_24 rfl ?_
        refine v_iload_n (n := 53) dX11_pour_52 rfl rfl rfl ?_
        refine v_imul (n := 54) dX11_pour_53 rfl ?_
        refine v_iload_n (n := 55) dX11_pour_54 rfl rfl rfl ?_
        refine v_iadd (n := 56) dX11_pour_55 rfl ?_
        refine v_iald (n := 57) (j := 24 * s + i) L.c26 (ix_of (i_24 s i) (by omega) (by decide)) dX11_pour_56 rfl ?_
        rw [row_oo (by omega)]
        refine v_istore (n := 59) (al' := [.ref m, .int (nI s), .int (pouN (I (m + 1)) (fun j => I (m + 16) (24 * s + j)) i), .int (nI i), .int (I (m + 16) (24 * s + i)), JJ]) dX11_pour_57 rfl rfl rfl ?_
        refine v_iload (n := 61) dX11_pour_59 rfl rfl ?_
        refine v_ldc (n := 63) k_X11_152 dX11_pour_61 rfl ?_
        refine v_icmp_ne (n := 66) (tgt := 75) dX11_pour_63 (by decide) rfl (fun hq63 => ?_) (fun hq63 => ?_)
        · refine v_iload (n := 77) dX11_pour_75 rfl rfl ?_
          refine v_iconst (n := 78) (v := 0) dX11_pour_77 c_0 rfl ?_
          refine v_sipush (n := 81) (v := 999) dX11_pour_78 s_999 rfl ?_
          refine v_cSi (n := 84) (x := (win (I (m + 16) (24 * s + i)) 0 999)) mc_X11_within l_X11_107 sta_X11_within k_X11_within ⟨rfl, rfl⟩ (l8 rfl) ⟨l8 rfl, l8 rfl⟩ rfl rfl (l8 rfl) dX11_pour_81 rfl ?_
          refine v_istore (n := 86) (al' := [.ref m, .int (nI s), .int (pouN (I (m + 1)) (fun j => I (m + 16) (24 * s + j)) i), .int (nI i), .int (I (m + 16) (24 * s + i)), .int (win (I (m + 16) (24 * s + i)) 0 999)]) dX11_pour_84 rfl rfl rfl ?_
          refine v_iload_n (n := 87) dX11_pour_86 rfl rfl rfl ?_
          refine v_aload_n (n := 88) dX11_pour_87 rfl rfl rfl ?_
          refine v_bipush (n := 90) (v := 76) dX11_pour_88 b_76 rfl ?_
          refine v_iconst (n := 91) (v := 4) dX11_pour_90 c_4 rfl ?_
          refine v_iload_n (n := 92) dX11_pour_91 rfl rfl rfl ?_
          refine v_imul (n := 93) dX11_pour_92 rfl ?_
          refine v_iadd (n := 94) dX11_pour_93 rfl ?_
          refine v_iconst (n := 95) (v := 1) dX11_pour_94 c_1 rfl ?_
          refine v_iadd (n := 96) dX11_pour_95 rfl ?_
          refine v_iload (n := 98) dX11_pour_96 rfl rfl ?_
          rw [show 76 + 4 * nI i + 1 = nI (76 + 4 * i + 1) from i_of i 1]
          refine v_cVi (n := 101) (x := ((row I (m + 1) (pouX (I (m + 1)) (fun j => I (m + 16) (24 * s + j)) i)) (m + 1) (76 + 4 * i + 1))) mc_X11_becomes l_X11_134 iv_X11_becomes se_X11_becomes (ci := 10) ⟨by decide, rfl⟩ L.s (k_X11_becomes (u := 76 + 4 * i + 1) L (by omega)) ⟨rfl, rfl⟩ (l8 rfl) ⟨l8 rfl, l8 rfl⟩ rfl rfl (l8 rfl) dX11_pour_98 rfl ?_
          refine v_iload (n := 103) dX11_pour_101 rfl rfl ?_
          refine v_icmp_ne (n := 106) (tgt := 110) dX11_pour_103 (by decide) rfl (fun hq103 => ?_) (fun hq103 => ?_)
          · rw [row_s, pou_o i (by omega)] at hq103
            refine v_iconst (n := 111) (v := 1) dX11_pour_110 c_1 rfl ?_
            refine v_iadd (n := 112) dX11_pour_111 rfl ?_
            refine v_istore_n (n := 113) (al' := [.ref m, .int (nI s), .int ((pouN (I (m + 1)) (fun j => I (m + 16) (24 * s + j)) i) + 1), .int (nI i), .int (I (m + 16) (24 * s + i)), .int (win (I (m + 16) (24 * s + i)) 0 999)]) dX11_pour_112 rfl rfl rfl rfl ?_
            refine v_iinc (n := 116) (v := (nI i) + 1) (al' := [.ref m, .int (nI s), .int ((pouN (I (m + 1)) (fun j => I (m + 16) (24 * s + j)) i) + 1), .int ((nI i) + 1), .int (I (m + 16) (24 * s + i)), .int (win (I (m + 16) (24 * s + i)) 0 999)]) dX11_pour_113 rfl (by rw [c_1]) rfl rfl rfl ?_
            refine v_goto (tgt := 26) dX11_pour_116 (by decide) ?_
            refine v_drop 4 (al' := [.ref m, .int (nI s), .int ((pouN (I (m + 1)) (fun j => I (m + 16) (24 * s + j)) i) + 1), .int ((nI i) + 1), JJ, .int (win (I (m + 16) (24 * s + i)) 0 999)]) rfl ?_
            refine v_drop 5 (al' := [.ref m, .int (nI s), .int ((pouN (I (m + 1)) (fun j => I (m + 16) (24 * s + j)) i) + 1), .int ((nI i) + 1), JJ, JJ]) rfl ?_
            rw [nI_1, row_s, row_row]
            have hto : pTo (I (m + 1)) (fun j => I (m + 16) (24 * s + j)) i = (win (I (m + 16) (24 * s + i)) 0 999) := if_neg hq63
            rw [show ((pouN (I (m + 1)) (fun j => I (m + 16) (24 * s + j)) i) + 1) = pouN (I (m + 1)) (fun j => I (m + 16) (24 * s + j)) (i + 1) from by rw [pouN, hto, if_neg hq103]]
            rw [← hto, show upd (pouX (I (m + 1)) (fun j => I (m + 16) (24 * s + j)) i) (76 + 4 * i + 1) (pTo (I (m + 1)) (fun j => I (m + 16) (24 * s + j)) i) = pouX (I (m + 1)) (fun j => I (m + 16) (24 * s + j)) (i + 1) from rfl]
            exact ih (i + 1) (by omega) (by omega)
          · rw [row_s, pou_o i (by omega)] at hq103
            refine v_iconst (n := 107) (v := 0) dX11_pour_106 c_0 rfl ?_
            refine v_goto (tgt := 111) dX11_pour_107 (by decide) ?_
            refine v_iadd (n := 112) dX11_pour_111 rfl ?_
            refine v_istore_n (n := 113) (al' := [.ref m, .int (nI s), .int ((pouN (I (m + 1)) (fun j => I (m + 16) (24 * s + j)) i) + 0), .int (nI i), .int (I (m + 16) (24 * s + i)), .int (win (I (m + 16) (24 * s + i)) 0 999)]) dX11_pour_112 rfl rfl rfl rfl ?_
            refine v_iinc (n := 116) (v := (nI i) + 1) (al' := [.ref m, .int (nI s), .int ((pouN (I (m + 1)) (fun j => I (m + 16) (24 * s + j)) i) + 0), .int ((nI i) + 1), .int (I (m + 16) (24 * s + i)), .int (win (I (m + 16) (24 * s + i)) 0 999)]) dX11_pour_113 rfl (by rw [c_1]) rfl rfl rfl ?_
            refine v_goto (tgt := 26) dX11_pour_116 (by decide) ?_
            refine v_drop 4 (al' := [.ref m, .int (nI s), .int ((pouN (I (m + 1)) (fun j => I (m + 16) (24 * s + j)) i) + 0), .int ((nI i) + 1), JJ, .int (win (I (m + 16) (24 * s + i)) 0 999)]) rfl ?_
            refine v_drop 5 (al' := [.ref m, .int (nI s), .int ((pouN (I (m + 1)) (fun j => I (m + 16) (24 * s + j)) i) + 0), .int ((nI i) + 1), JJ, JJ]) rfl ?_
            rw [nI_1, row_s, row_row]
            have hto : pTo (I (m + 1)) (fun j => I (m + 16) (24 * s + j)) i = (win (I (m + 16) (24 * s + i)) 0 999) := if_neg hq63
            rw [show ((pouN (I (m + 1)) (fun j => I (m + 16) (24 * s + j)) i) + 0) = pouN (I (m + 1)) (fun j => I (m + 16) (24 * s + j)) (i + 1) from by rw [pouN, hto, if_pos hq103]]
            rw [← hto, show upd (pouX (I (m + 1)) (fun j => I (m + 16) (24 * s + j)) i) (76 + 4 * i + 1) (pTo (I (m + 1)) (fun j => I (m + 16) (24 * s + j)) i) = pouX (I (m + 1)) (fun j => I (m + 16) (24 * s + j)) (i + 1) from rfl]
            exact ih (i + 1) (by omega) (by omega)
        · refine v_aload_n (n := 67) dX11_pour_66 rfl rfl rfl ?_
          refine v_iload_n (n := 68) dX11_pour_67 rfl rfl rfl ?_
          refine v_iconst (n := 69) (v := 1) dX11_pour_68 c_1 rfl ?_
          refine v_cVi (n := 72) (x := ((row I (m + 1) (pouX (I (m + 1)) (fun j => I (m + 16) (24 * s + j)) i)) (m + 1) (76 + 4 * i + 1))) mc_X11_of l_X11_110 iv_X11_of se_X11_of (ci := 10) ⟨by decide, rfl⟩ L.s (k_X11_of (y := i) (u := 1) L (by omega) (by decide)) ⟨rfl, rfl⟩ (l8 rfl) ⟨l8 rfl, l8 rfl⟩ rfl rfl (l8 rfl) dX11_pour_69 rfl ?_
          refine v_goto (tgt := 84) dX11_pour_72 (by decide) ?_
          refine v_istore (n := 86) (al' := [.ref m, .int (nI s), .int (pouN (I (m + 1)) (fun j => I (m + 16) (24 * s + j)) i), .int (nI i), .int (I (m + 16) (24 * s + i)), .int ((row I (m + 1) (pouX (I (m + 1)) (fun j => I (m + 16) (24 * s + j)) i)) (m + 1) (76 + 4 * i + 1))]) dX11_pour_84 rfl rfl rfl ?_
          refine v_iload_n (n := 87) dX11_pour_86 rfl rfl rfl ?_
          refine v_aload_n (n := 88) dX11_pour_87 rfl rfl rfl ?_
          refine v_bipush (n := 90) (v := 76) dX11_pour_88 b_76 rfl ?_
          refine v_iconst (n := 91) (v := 4) dX11_pour_90 c_4 rfl ?_
          refine v_iload_n (n := 92) dX11_pour_91 rfl rfl rfl ?_
          refine v_imul (n := 93) dX11_pour_92 rfl ?_
          refine v_iadd (n := 94) dX11_pour_93 rfl ?_
          refine v_iconst (n := 95) (v := 1) dX11_pour_94 c_1 rfl ?_
          refine v_iadd (n := 96) dX11_pour_95 rfl ?_
          refine v_iload (n := 98) dX11_pour_96 rfl rfl ?_
          rw [show 76 + 4 * nI i + 1 = nI (76 + 4 * i + 1) from i_of i 1]
          refine v_cVi (n := 101) (x := ((row I (m + 1) (pouX (I (m + 1)) (fun j => I (m + 16) (24 * s + j)) i)) (m + 1) (76 + 4 * i + 1))) mc_X11_becomes l_X11_134 iv_X11_becomes se_X11_becomes (ci := 10) ⟨by decide, rfl⟩ L.s (k_X11_becomes (u := 76 + 4 * i + 1) L (by omega)) ⟨rfl, rfl⟩ (l8 rfl) ⟨l8 rfl, l8 rfl⟩ rfl rfl (l8 rfl) dX11_pour_98 rfl ?_
          refine v_iload (n := 103) dX11_pour_101 rfl rfl ?_
          refine v_icmp_ne (n := 106) (tgt := 110) dX11_pour_103 (by decide) rfl (fun hq103 => ?_) (fun hq103 => ?_)
          · rw [row_s, pou_o i (by omega)] at hq103
            refine v_iconst (n := 111) (v := 1) dX11_pour_110 c_1 rfl ?_
            refine v_iadd (n := 112) dX11_pour_111 rfl ?_
            refine v_istore_n (n := 113) (al' := [.ref m, .int (nI s), .int ((pouN (I (m + 1)) (fun j => I (m + 16) (24 * s + j)) i) + 1), .int (nI i), .int (I (m + 16) (24 * s + i)), .int ((row I (m + 1) (pouX (I (m + 1)) (fun j => I (m + 16) (24 * s + j)) i)) (m + 1) (76 + 4 * i + 1))]) dX11_pour_112 rfl rfl rfl rfl ?_
            refine v_iinc (n := 116) (v := (nI i) + 1) (al' := [.ref m, .int (nI s), .int ((pouN (I (m + 1)) (fun j => I (m + 16) (24 * s + j)) i) + 1), .int ((nI i) + 1), .int (I (m + 16) (24 * s + i)), .int ((row I (m + 1) (pouX (I (m + 1)) (fun j => I (m + 16) (24 * s + j)) i)) (m + 1) (76 + 4 * i + 1))]) dX11_pour_113 rfl (by rw [c_1]) rfl rfl rfl ?_
            refine v_goto (tgt := 26) dX11_pour_116 (by decide) ?_
            refine v_drop 4 (al' := [.ref m, .int (nI s), .int ((pouN (I (m + 1)) (fun j => I (m + 16) (24 * s + j)) i) + 1), .int ((nI i) + 1), JJ, .int ((row I (m + 1) (pouX (I (m + 1)) (fun j => I (m + 16) (24 * s + j)) i)) (m + 1) (76 + 4 * i + 1))]) rfl ?_
            refine v_drop 5 (al' := [.ref m, .int (nI s), .int ((pouN (I (m + 1)) (fun j => I (m + 16) (24 * s + j)) i) + 1), .int ((nI i) + 1), JJ, JJ]) rfl ?_
            rw [nI_1, row_s, row_row, pou_o i (by omega)]
            have hto : pTo (I (m + 1)) (fun j => I (m + 16) (24 * s + j)) i = (I (m + 1) (76 + 4 * i + 1)) := if_pos hq63
            rw [show ((pouN (I (m + 1)) (fun j => I (m + 16) (24 * s + j)) i) + 1) = pouN (I (m + 1)) (fun j => I (m + 16) (24 * s + j)) (i + 1) from by rw [pouN, hto, if_neg hq103]]
            rw [← hto, show upd (pouX (I (m + 1)) (fun j => I (m + 16) (24 * s + j)) i) (76 + 4 * i + 1) (pTo (I (m + 1)) (fun j => I (m + 16) (24 * s + j)) i) = pouX (I (m + 1)) (fun j => I (m + 16) (24 * s + j)) (i + 1) from rfl]
            exact ih (i + 1) (by omega) (by omega)
          · rw [row_s, pou_o i (by omega)] at hq103
            refine v_iconst (n := 107) (v := 0) dX11_pour_106 c_0 rfl ?_
            refine v_goto (tgt := 111) dX11_pour_107 (by decide) ?_
            refine v_iadd (n := 112) dX11_pour_111 rfl ?_
            refine v_istore_n (n := 113) (al' := [.ref m, .int (nI s), .int ((pouN (I (m + 1)) (fun j => I (m + 16) (24 * s + j)) i) + 0), .int (nI i), .int (I (m + 16) (24 * s + i)), .int ((row I (m + 1) (pouX (I (m + 1)) (fun j => I (m + 16) (24 * s + j)) i)) (m + 1) (76 + 4 * i + 1))]) dX11_pour_112 rfl rfl rfl rfl ?_
            refine v_iinc (n := 116) (v := (nI i) + 1) (al' := [.ref m, .int (nI s), .int ((pouN (I (m + 1)) (fun j => I (m + 16) (24 * s + j)) i) + 0), .int ((nI i) + 1), .int (I (m + 16) (24 * s + i)), .int ((row I (m + 1) (pouX (I (m + 1)) (fun j => I (m + 16) (24 * s + j)) i)) (m + 1) (76 + 4 * i + 1))]) dX11_pour_113 rfl (by rw [c_1]) rfl rfl rfl ?_
            refine v_goto (tgt := 26) dX11_pour_116 (by decide) ?_
            refine v_drop 4 (al' := [.ref m, .int (nI s), .int ((pouN (I (m + 1)) (fun j => I (m + 16) (24 * s + j)) i) + 0), .int ((nI i) + 1), JJ, .int ((row I (m + 1) (pouX (I (m + 1)) (fun j => I (m + 16) (24 * s + j)) i)) (m + 1) (76 + 4 * i + 1))]) rfl ?_
            refine v_drop 5 (al' := [.ref m, .int (nI s), .int ((pouN (I (m + 1)) (fun j => I (m + 16) (24 * s + j)) i) + 0), .int ((nI i) + 1), JJ, JJ]) rfl ?_
            rw [nI_1, row_s, row_row, pou_o i (by omega)]
            have hto : pTo (I (m + 1)) (fun j => I (m + 16) (24 * s + j)) i = (I (m + 1) (76 + 4 * i + 1)) := if_pos hq63
            rw [show ((pouN (I (m + 1)) (fun j => I (m + 16) (24 * s + j)) i) + 0) = pouN (I (m + 1)) (fun j => I (m + 16) (24 * s + j)) (i + 1) from by rw [pouN, hto, if_pos hq103]]
            rw [← hto, show upd (pouX (I (m + 1)) (fun j => I (m + 16) (24 * s + j)) i) (76 + 4 * i + 1) (pTo (I (m + 1)) (fun j => I (m + 16) (24 * s + j)) i) = pouX (I (m + 1)) (fun j => I (m + 16) (24 * s + j)) (i + 1) from rfl]
            exact ih (i + 1) (by omega) (by omega)

set_option maxRecDepth 100000 in
set_option maxHeartbeats 1000000 in
theorem k_X11_pour {ro : Ro} {S : St} {I : In} {xa : Int32} {n : Nat} {m : Nat} (L : LayM S m) (h : MW I m) (h1 : I (m + 1) 1 = nI n) (hn10 : n ≤ 10) : Ok mX11_pour ro 2 0 0 [.ref m, .int xa] S I (RI (pourM I m n xa).1 S (pourM I m n xa).2) := by
  refine ok_of (al := [.ref m, .int xa, JJ, JJ, JJ, JJ]) (by decide) (l8 rfl) rfl ?_
  refine v_iload_n (n := 1) dX11_pour_0 rfl rfl rfl ?_
  refine v_cSi (n := 4) (x := (bi (inn xa 0 3))) mc_X11_isSheet l_X11_178 sta_X11_isSheet k_X11_isSheet ⟨rfl, rfl⟩ (l8 rfl) ⟨l8 rfl, l8 rfl⟩ rfl rfl (l8 rfl) dX11_pour_1 rfl ?_
  refine v_if_ne (n := 7) (tgt := 10) dX11_pour_4 (by decide) rfl (fun hq4 => ?_) (fun hq4 => ?_)
  · obtain ⟨s, hs, rfl⟩ := inn_get (a := 3) (bi_n0.mp hq4) (by decide)
    obtain ⟨hso, z0, hz0, ez⟩ := h.1 s (by omega)
    refine v_aload_n (n := 11) dX11_pour_10 rfl rfl rfl ?_
    refine v_getR (n := 14) f_X11_51 rfl L.s L.g24 dX11_pour_11 rfl ?_
    refine v_iload_n (n := 15) dX11_pour_14 rfl rfl rfl ?_
    refine v_iald (n := 16) (j := s) L.c24 (ix_nI (by omega) (by decide)) dX11_pour_15 rfl ?_
    refine v_if_ge (n := 19) (tgt := 22) dX11_pour_16 (by decide) rfl (fun hq16 => ?_) (fun hq16 => ?_)
    · refine v_iconst (n := 23) (v := 0) dX11_pour_22 c_0 rfl ?_
      refine v_istore_n (n := 24) (al' := [.ref m, .int (nI s), .int 0, JJ, JJ, JJ]) dX11_pour_23 rfl rfl rfl rfl ?_
      refine v_iconst (n := 25) (v := 0) dX11_pour_24 c_0 rfl ?_
      refine v_istore_n (n := 26) (al' := [.ref m, .int (nI s), .int 0, .int 0, JJ, JJ]) dX11_pour_25 rfl rfl rfl rfl ?_
      rw [show pourM I m n (nI s) = (pouN (I (m + 1)) (fun j => I (m + 16) (24 * s + j)) (min z0 n), row I (m + 1) (pouX (I (m + 1)) (fun j => I (m + 16) (24 * s + j)) (min z0 n))) from by rw [pourM, if_pos (bi_n0.mp hq4), nI_clamp (by omega), if_pos hq16, ez, nI_clamp (by omega)]]
      refine v_I (I' := row I (m + 1) (pouX (I (m + 1)) (fun j => I (m + 16) (24 * s + j)) 0)) row_same ?_
      exact l_X11_pour L hs ez hz0 h1 hn10 rfl (min z0 n + 1) 0 (Nat.zero_le _) (by omega)
    · refine v_ldc (n := 21) k_X11_181 dX11_pour_19 rfl ?_
      exact v_rI rfl (by clear h; simp_all [-Int32.not_lt, -Int32.not_le, bi_0, bi_n0, pourM, nI_clamp (show s < 2 ^ 31 by omega)]) rfl (by clear h; simp_all [-Int32.not_lt, -Int32.not_le, bi_0, bi_n0, pourM, nI_clamp (show s < 2 ^ 31 by omega)]) ⟨l8 rfl, l8 rfl⟩ dX11_pour_21
  · refine v_ldc (n := 9) k_X11_90 dX11_pour_7 rfl ?_
    exact v_rI rfl (by clear h; simp_all [-Int32.not_lt, -Int32.not_le, bi_0, bi_n0, pourM]) rfl (by clear h; simp_all [-Int32.not_lt, -Int32.not_le, bi_0, bi_n0, pourM]) ⟨l8 rfl, l8 rfl⟩ dX11_pour_9

set_option maxRecDepth 100000 in
set_option maxHeartbeats 1000000 in
theorem l_X11_reads {ro : Ro} {S : St} {I : In} {m s z l : Nat} (L : LayM S m) (hs : s ≤ 3) (hz : I (m + 15) s = nI z) (hz24 : z ≤ 24) (hl : I (m + 1) 7 = nI l) (hl30 : l ≤ 30) : ∀ k i r, i + r = z → z < i + k → V RX11 cX11_reads 4 (some .int) "reads" ro (rmD 2 0 0) (QM 0 0 (RI (rdF (I (m + 1)) (fun j => I (m + 16) (24 * s + j)) l r i) S I)) 0 0 24 [.ref m, .int (nI s), .int (nI i), JJ] [] S I := by
  intro k
  induction k with
  | zero => intro i r hi hk; exact absurd hk (by omega)
  | succ k ih =>
    intro i r hi hk
    refine v_iload_n (n := 25) dX11_reads_24 rfl rfl rfl ?_
    refine v_aload_n (n := 26) dX11_reads_25 rfl rfl rfl ?_
    refine v_getR (n := 29) f_X11_54 rfl L.s L.g25 dX11_reads_26 rfl ?_
    refine v_iload_n (n := 30) dX11_reads_29 rfl rfl rfl ?_
    refine v_iald (n := 31) (j := s) L.c25 (ix_nI (by omega) (by decide)) dX11_reads_30 rfl ?_
    refine v_icmp_ge (n := 34) (tgt := 88) dX11_reads_31 (by decide) rfl (fun hq31 => ?_) (fun hq31 => ?_)
    · rw [hz] at hq31
      have hq := le_out hq31 (by omega) (by omega)
      obtain rfl : r = 0 := by omega
      refine v_ldc (n := 90) k_X11_152 dX11_reads_88 rfl ?_
      exact v_rI rfl rfl rfl rfl ⟨l8 rfl, l8 rfl⟩ dX11_reads_90
    · rw [hz] at hq31
      have hq := nle_in hq31 (by omega) (by omega)
      obtain ⟨r, rfl⟩ : ∃ q, r = q + 1 := ⟨r - 1, by omega⟩
      refine v_aload_n (n := 35) dX11_reads_34 rfl rfl rfl ?_
      refine v_getR (n := 38) f_X11_57 rfl L.s L.g26 dX11_reads_35 rfl ?_
      refine v_bipush (n := 40) (v := 24) dX11_reads_38 b_24 rfl ?_
      refine v_iload_n (n := 41) dX11_reads_40 rfl rfl rfl ?_
      refine v_imul (n := 42) dX11_reads_41 rfl ?_
      refine v_iload_n (n := 43) dX11_reads_42 rfl rfl rfl ?_
      refine v_iadd (n := 44) dX11_reads_43 rfl ?_
      refine v_iald (n := 45) (j := 24 * s + i) L.c26 (ix_of (i_24 s i) (by omega) (by decide)) dX11_reads_44 rfl ?_
      refine v_istore_n (n := 46) (al' := [.ref m, .int (nI s), .int (nI i), .int (I (m + 16) (24 * s + i))]) dX11_reads_45 rfl rfl rfl rfl ?_
      refine v_iload_n (n := 47) dX11_reads_46 rfl rfl rfl ?_
      refine v_ldc (n := 49) k_X11_152 dX11_reads_47 rfl ?_
      refine v_icmp_eq (n := 52) (tgt := 82) dX11_reads_49 (by decide) rfl (fun hq49 => ?_) (fun hq49 => ?_)
      · refine v_iinc (n := 85) (v := (nI i) + 1) (al' := [.ref m, .int (nI s), .int ((nI i) + 1), .int (I (m + 16) (24 * s + i))]) dX11_reads_82 rfl (by rw [c_1]) rfl rfl rfl ?_
        refine v_goto (tgt := 24) dX11_reads_85 (by decide) ?_
        refine v_drop 3 (al' := [.ref m, .int (nI s), .int ((nI i) + 1), JJ]) rfl ?_
        rw [nI_1]
        rw [rdF, if_neg (fun hh => hh.1 hq49)]
        exact ih (i + 1) r (by omega) (by omega)
      · refine v_iload_n (n := 53) dX11_reads_52 rfl rfl rfl ?_
        refine v_aload_n (n := 54) dX11_reads_53 rfl rfl rfl ?_
        refine v_getR (n := 57) f_X11_9 rfl L.s L.g0 dX11_reads_54 rfl ?_
        refine v_bipush (n := 59) (v := 7) dX11_reads_57 b_7 rfl ?_
        refine v_iald (n := 60) (j := 7) L.c0 (ix_lit rfl rfl rfl) dX11_reads_59 rfl ?_
        refine v_icmp_ge (n := 63) (tgt := 80) dX11_reads_60 (by decide) rfl (fun hq60 => ?_) (fun hq60 => ?_)
        · rw [hl] at hq60
          have hql := le_out hq60 (by omega) (by omega)
          refine v_iload_n (n := 81) dX11_reads_80 rfl rfl rfl ?_
          exact v_rI rfl (by rw [rdF, if_pos ⟨hq49, Or.inl hql⟩]) rfl rfl ⟨l8 rfl, l8 rfl⟩ dX11_reads_81
        · rw [hl] at hq60
          have hql := nle_in hq60 (by omega) (by omega)
          refine v_iload_n (n := 64) dX11_reads_63 rfl rfl rfl ?_
          refine v_aload_n (n := 65) dX11_reads_64 rfl rfl rfl ?_
          refine v_getR (n := 68) f_X11_9 rfl L.s L.g0 dX11_reads_65 rfl ?_
          refine v_bipush (n := 70) (v := 16) dX11_reads_68 b_16 rfl ?_
          refine v_iconst (n := 71) (v := 2) dX11_reads_70 c_2 rfl ?_
          refine v_iload_n (n := 72) dX11_reads_71 rfl rfl rfl ?_
          refine v_imul (n := 73) dX11_reads_72 rfl ?_
          refine v_iadd (n := 74) dX11_reads_73 rfl ?_
          refine v_iconst (n := 75) (v := 1) dX11_reads_74 c_1 rfl ?_
          refine v_iadd (n := 76) dX11_reads_75 rfl ?_
          refine v_iald (n := 77) (j := 17 + 2 * i) L.c0 (ix_of (i_lb i) (by omega) (by decide)) dX11_reads_76 rfl ?_
          refine v_icmp_eq (n := 80) (tgt := 82) dX11_reads_77 (by decide) rfl (fun hq77 => ?_) (fun hq77 => ?_)
          · refine v_iinc (n := 85) (v := (nI i) + 1) (al' := [.ref m, .int (nI s), .int ((nI i) + 1), .int (I (m + 16) (24 * s + i))]) dX11_reads_82 rfl (by rw [c_1]) rfl rfl rfl ?_
            refine v_goto (tgt := 24) dX11_reads_85 (by decide) ?_
            refine v_drop 3 (al' := [.ref m, .int (nI s), .int ((nI i) + 1), JJ]) rfl ?_
            rw [nI_1]
            rw [rdF, if_neg (fun hh => hh.2.elim (fun z9 => absurd z9 (by omega)) (fun z9 => z9 hq77))]
            exact ih (i + 1) r (by omega) (by omega)
          · refine v_iload_n (n := 81) dX11_reads_80 rfl rfl rfl ?_
            exact v_rI rfl (by rw [rdF, if_pos ⟨hq49, Or.inr hq77⟩]) rfl rfl ⟨l8 rfl, l8 rfl⟩ dX11_reads_81

set_option maxRecDepth 100000 in
set_option maxHeartbeats 1000000 in
theorem k_X11_reads {ro : Ro} {S : St} {I : In} {xa : Int32} {l : Nat} {m : Nat} (L : LayM S m) (h : MW I m) (hl : I (m + 1) 7 = nI l) (hl30 : l ≤ 30) : Ok mX11_reads ro 2 0 0 [.ref m, .int xa] S I (RI (readsM I m l xa) S I) := by
  refine ok_of (al := [.ref m, .int xa, JJ, JJ]) (by decide) (l8 rfl) rfl ?_
  refine v_iload_n (n := 1) dX11_reads_0 rfl rfl rfl ?_
  refine v_cSi (n := 4) (x := (bi (inn xa 0 3))) mc_X11_isSheet l_X11_178 sta_X11_isSheet k_X11_isSheet ⟨rfl, rfl⟩ (l8 rfl) ⟨l8 rfl, l8 rfl⟩ rfl rfl (l8 rfl) dX11_reads_1 rfl ?_
  refine v_if_ne (n := 7) (tgt := 10) dX11_reads_4 (by decide) rfl (fun hq4 => ?_) (fun hq4 => ?_)
  · obtain ⟨s, hs, rfl⟩ := inn_get (a := 3) (bi_n0.mp hq4) (by decide)
    obtain ⟨hso, z0, hz0, ez⟩ := h.1 s (by omega)
    refine v_aload_n (n := 11) dX11_reads_10 rfl rfl rfl ?_
    refine v_getR (n := 14) f_X11_51 rfl L.s L.g24 dX11_reads_11 rfl ?_
    refine v_iload_n (n := 15) dX11_reads_14 rfl rfl rfl ?_
    refine v_iald (n := 16) (j := s) L.c24 (ix_nI (by omega) (by decide)) dX11_reads_15 rfl ?_
    refine v_if_ge (n := 19) (tgt := 22) dX11_reads_16 (by decide) rfl (fun hq16 => ?_) (fun hq16 => ?_)
    · refine v_iconst (n := 23) (v := 0) dX11_reads_22 c_0 rfl ?_
      refine v_istore_n (n := 24) (al' := [.ref m, .int (nI s), .int 0, JJ]) dX11_reads_23 rfl rfl rfl rfl ?_
      rw [show readsM I m l (nI s) = rdF (I (m + 1)) (fun j => I (m + 16) (24 * s + j)) l z0 0 from by rw [readsM, if_pos (bi_n0.mp hq4), nI_clamp (by omega), if_pos hq16, ez, nI_clamp (by omega)]]
      exact l_X11_reads L hs ez hz0 hl hl30 (z0 + 1) 0 z0 (by omega) (by omega)
    · refine v_ldc (n := 21) k_X11_181 dX11_reads_19 rfl ?_
      exact v_rI rfl (by clear h; simp_all [-Int32.not_lt, -Int32.not_le, bi_0, bi_n0, readsM, nI_clamp (show s < 2 ^ 31 by omega)]) rfl rfl ⟨l8 rfl, l8 rfl⟩ dX11_reads_21
  · refine v_ldc (n := 9) k_X11_90 dX11_reads_7 rfl ?_
    exact v_rI rfl (by clear h; simp_all [-Int32.not_lt, -Int32.not_le, bi_0, bi_n0, readsM]) rfl rfl ⟨l8 rfl, l8 rfl⟩ dX11_reads_9

