/-! more of the reference -/
def drawZ (z : Int32) : Int32 := z * 1103515245 + 12345
def packX (X : Ar) (l : Nat) (y k : Int32) : Ar := if l = 0 ∨ (l < 30 ∧ ¬ X (16 + 2 * (l - 1)) = y) then upd (upd (upd X (16 + 2 * l) y) (17 + 2 * l) k) 7 (nI (l + 1)) else upd X (17 + 2 * (l - 1)) (X (17 + 2 * (l - 1)) + k)
def thOut (X : Ar) (l n : Nat) : Ar := fun j => if 10 ≤ j ∧ j < 10 + n ∧ X j = nI l then 100 + X 6 else X j
def thawX (X : Ar) (left : Int32) : Nat → Ar
  | 0 => X
  | l + 1 => if left ≤ 0 then X else
    if X (17 + 2 * l) - win left 0 (X (17 + 2 * l)) = 0 then thawX (thOut (upd (upd (upd X (17 + 2 * l) 0) 8 (X 8 + win left 0 (X (17 + 2 * l)))) 7 (nI l)) l 6) (left - win left 0 (X (17 + 2 * l))) l
    else upd (upd X (17 + 2 * l) (X (17 + 2 * l) - win left 0 (X (17 + 2 * l)))) 8 (X 8 + win left 0 (X (17 + 2 * l)))
def passX (X : Ar) (T l y : Nat) : Ar := if X (76 + 4 * y + 2) < wideX X T l then upd (upd X (76 + 4 * y + 2) (wideX X T l)) (76 + 4 * y + 3) (X (76 + 4 * y + 3) + 1) else X
def passN (X : Ar) (T l y : Nat) : Int32 := if X (76 + 4 * y + 2) < wideX X T l then 1 else 0
def sumX (X : Ar) (u n : Nat) : Int32 := sm (fun i => X (76 + 4 * i + u)) n
def under (k one : Int32) : Bool := decide (one = 0) || decide (k = one) || (decide (one = 1) && decide (k = 3)) || (decide (one = 2) && decide (k = 4))
theorem upd_r {X : Ar} {a : Nat} {x y : Int32} : upd (upd X a x) a y = upd X a y := by
  funext j
  unfold upd
  by_cases h : j = a <;> simp [h]
theorem upd_c {X : Ar} {a b : Nat} {x y : Int32} (h : a ≠ b) : upd (upd X a x) b y = upd (upd X b y) a x := by
  funext j
  unfold upd
  by_cases h1 : j = a
  · subst h1; simp [h]
  · simp [h1]

set_option maxRecDepth 100000 in
set_option maxHeartbeats 1000000 in
theorem k_X11_draw {ro : Ro} {S : St} {I : In} {m : Nat} (L : LayM S m) : Ok mX11_draw ro 0 0 0 [.ref m] S I (RI (ushr (drawZ (I (m + 1) 0)) 8) S (row I (m + 1) (upd (I (m + 1)) 0 (drawZ (I (m + 1) 0))))) := by
  refine ok_of (al := [.ref m]) (by decide) (l8 rfl) rfl ?_
  refine v_aload_n (n := 1) dX11_draw_0 rfl rfl rfl ?_
  refine v_getR (n := 4) f_X11_9 rfl L.s L.g0 dX11_draw_1 rfl ?_
  refine v_iconst (n := 5) (v := 0) dX11_draw_4 c_0 rfl ?_
  refine v_aload_n (n := 6) dX11_draw_5 rfl rfl rfl ?_
  refine v_getR (n := 9) f_X11_9 rfl L.s L.g0 dX11_draw_6 rfl ?_
  refine v_iconst (n := 10) (v := 0) dX11_draw_9 c_0 rfl ?_
  refine v_iald (n := 11) (j := 0) L.c0 (ix_lit rfl rfl rfl) dX11_draw_10 rfl ?_
  refine v_ldc (n := 13) k_X11_137 dX11_draw_11 rfl ?_
  refine v_imul (n := 14) dX11_draw_13 rfl ?_
  refine v_sipush (n := 17) (v := 12345) dX11_draw_14 s_12345 rfl ?_
  refine v_iadd (n := 18) dX11_draw_17 rfl ?_
  refine v_iast (n := 19) (j := 0) L.c0 (ix_lit rfl rfl rfl) dX11_draw_18 rfl ?_
  refine v_aload_n (n := 20) dX11_draw_19 rfl rfl rfl ?_
  refine v_getR (n := 23) f_X11_9 rfl L.s L.g0 dX11_draw_20 rfl ?_
  refine v_iconst (n := 24) (v := 0) dX11_draw_23 c_0 rfl ?_
  refine v_iald (n := 25) (j := 0) L.c0 (ix_lit rfl rfl rfl) dX11_draw_24 rfl ?_
  refine v_bipush (n := 27) (v := 8) dX11_draw_25 b_8 rfl ?_
  refine v_iushr (n := 28) dX11_draw_27 rfl ?_
  exact v_rI rfl (by rw [sI_s]; rfl) rfl row_set ⟨l8 rfl, l8 rfl⟩ dX11_draw_28

set_option maxRecDepth 100000 in
set_option maxHeartbeats 1000000 in
theorem k_X11_isUnder {ro : Ro} {S : St} {I : In} {x y : Int32} : Ok mX11_isUnder ro 0 0 0 [.int x, .int y] S I (RI (bi (under x y)) S I) := by
  refine ok_of (al := [.int x, .int y]) (by decide) (l8 rfl) rfl ?_
  refine v_iload_n (n := 1) dX11_isUnder_0 rfl rfl rfl ?_
  refine v_if_eq (n := 4) (tgt := 29) dX11_isUnder_1 (by decide) rfl (fun hq1 => ?_) (fun hq1 => ?_)
  · refine v_iconst (n := 30) (v := 1) dX11_isUnder_29 c_1 rfl ?_
    refine v_goto (tgt := 34) dX11_isUnder_30 (by decide) ?_
    exact v_rZ rfl (by simp_all [under, bi]) rfl rfl ⟨l8 rfl, l8 rfl⟩ dX11_isUnder_34
  · refine v_iload_n (n := 5) dX11_isUnder_4 rfl rfl rfl ?_
    refine v_iload_n (n := 6) dX11_isUnder_5 rfl rfl rfl ?_
    refine v_icmp_eq (n := 9) (tgt := 29) dX11_isUnder_6 (by decide) rfl (fun hq6 => ?_) (fun hq6 => ?_)
    · refine v_iconst (n := 30) (v := 1) dX11_isUnder_29 c_1 rfl ?_
      refine v_goto (tgt := 34) dX11_isUnder_30 (by decide) ?_
      exact v_rZ rfl (by simp_all [under, bi]) rfl rfl ⟨l8 rfl, l8 rfl⟩ dX11_isUnder_34
    · refine v_iload_n (n := 10) dX11_isUnder_9 rfl rfl rfl ?_
      refine v_iconst (n := 11) (v := 1) dX11_isUnder_10 c_1 rfl ?_
      refine v_icmp_ne (n := 14) (tgt := 19) dX11_isUnder_11 (by decide) rfl (fun hq11 => ?_) (fun hq11 => ?_)
      · refine v_iload_n (n := 20) dX11_isUnder_19 rfl rfl rfl ?_
        refine v_iconst (n := 21) (v := 2) dX11_isUnder_20 c_2 rfl ?_
        refine v_icmp_ne (n := 24) (tgt := 33) dX11_isUnder_21 (by decide) rfl (fun hq21 => ?_) (fun hq21 => ?_)
        · refine v_iconst (n := 34) (v := 0) dX11_isUnder_33 c_0 rfl ?_
          exact v_rZ rfl (by simp_all [under, bi]) rfl rfl ⟨l8 rfl, l8 rfl⟩ dX11_isUnder_34
        · refine v_iload_n (n := 25) dX11_isUnder_24 rfl rfl rfl ?_
          refine v_iconst (n := 26) (v := 4) dX11_isUnder_25 c_4 rfl ?_
          refine v_icmp_ne (n := 29) (tgt := 33) dX11_isUnder_26 (by decide) rfl (fun hq26 => ?_) (fun hq26 => ?_)
          · refine v_iconst (n := 34) (v := 0) dX11_isUnder_33 c_0 rfl ?_
            exact v_rZ rfl (by simp_all [under, bi]) rfl rfl ⟨l8 rfl, l8 rfl⟩ dX11_isUnder_34
          · refine v_iconst (n := 30) (v := 1) dX11_isUnder_29 c_1 rfl ?_
            refine v_goto (tgt := 34) dX11_isUnder_30 (by decide) ?_
            exact v_rZ rfl (by simp_all [under, bi]) rfl rfl ⟨l8 rfl, l8 rfl⟩ dX11_isUnder_34
      · refine v_iload_n (n := 15) dX11_isUnder_14 rfl rfl rfl ?_
        refine v_iconst (n := 16) (v := 3) dX11_isUnder_15 c_3 rfl ?_
        refine v_icmp_eq (n := 19) (tgt := 29) dX11_isUnder_16 (by decide) rfl (fun hq16 => ?_) (fun hq16 => ?_)
        · refine v_iconst (n := 30) (v := 1) dX11_isUnder_29 c_1 rfl ?_
          refine v_goto (tgt := 34) dX11_isUnder_30 (by decide) ?_
          exact v_rZ rfl (by simp_all [under, bi]) rfl rfl ⟨l8 rfl, l8 rfl⟩ dX11_isUnder_34
        · refine v_iload_n (n := 20) dX11_isUnder_19 rfl rfl rfl ?_
          refine v_iconst (n := 21) (v := 2) dX11_isUnder_20 c_2 rfl ?_
          refine v_icmp_ne (n := 24) (tgt := 33) dX11_isUnder_21 (by decide) rfl (fun hq21 => ?_) (fun hq21 => ?_)
          · refine v_iconst (n := 34) (v := 0) dX11_isUnder_33 c_0 rfl ?_
            exact v_rZ rfl (by simp_all [under, bi]) rfl rfl ⟨l8 rfl, l8 rfl⟩ dX11_isUnder_34
          · refine v_iload_n (n := 25) dX11_isUnder_24 rfl rfl rfl ?_
            refine v_iconst (n := 26) (v := 4) dX11_isUnder_25 c_4 rfl ?_
            refine v_icmp_ne (n := 29) (tgt := 33) dX11_isUnder_26 (by decide) rfl (fun hq26 => ?_) (fun hq26 => ?_)
            · refine v_iconst (n := 34) (v := 0) dX11_isUnder_33 c_0 rfl ?_
              exact v_rZ rfl (by simp_all [under, bi]) rfl rfl ⟨l8 rfl, l8 rfl⟩ dX11_isUnder_34
            · refine v_iconst (n := 30) (v := 1) dX11_isUnder_29 c_1 rfl ?_
              refine v_goto (tgt := 34) dX11_isUnder_30 (by decide) ?_
              exact v_rZ rfl (by simp_all [under, bi]) rfl rfl ⟨l8 rfl, l8 rfl⟩ dX11_isUnder_34

set_option maxRecDepth 100000 in
set_option maxHeartbeats 1000000 in
theorem k_X11_comes {ro : Ro} {S : St} {I : In} {m n : Nat} {x y w : Int32} (L : LayM S m) (hn : I (m + 1) 1 = nI n) (hlt : n < 10) : Ok mX11_comes ro 1 0 0 [.ref m, .int x, .int y, .int w] S I (RI (nI n) S (row I (m + 1) (upd (upd (upd (upd (upd (I (m + 1)) (76 + 4 * n) x) (76 + 4 * n + 1) y) (76 + 4 * n + 2) w) (76 + 4 * n + 3) 0) 1 (nI (n + 1))))) := by
  refine ok_of (al := [.ref m, .int x, .int y, .int w, JJ]) (by decide) (l8 rfl) rfl ?_
  refine v_aload_n (n := 1) dX11_comes_0 rfl rfl rfl ?_
  refine v_getR (n := 4) f_X11_9 rfl L.s L.g0 dX11_comes_1 rfl ?_
  refine v_iconst (n := 5) (v := 1) dX11_comes_4 c_1 rfl ?_
  refine v_iald (n := 6) (j := 1) L.c0 (ix_lit rfl rfl rfl) dX11_comes_5 rfl ?_
  rw [hn]
  refine v_istore (n := 8) (al' := [.ref m, .int x, .int y, .int w, .int (nI n)]) dX11_comes_6 rfl rfl rfl ?_
  refine v_aload_n (n := 9) dX11_comes_8 rfl rfl rfl ?_
  refine v_iload (n := 11) dX11_comes_9 rfl rfl ?_
  refine v_iconst (n := 12) (v := 0) dX11_comes_11 c_0 rfl ?_
  refine v_iload_n (n := 13) dX11_comes_12 rfl rfl rfl ?_
  refine v_cVv (n := 16) mc_X11_put l_X11_82 iv_X11_put se_X11_put (ci := 10) ⟨by decide, rfl⟩ L.s (k_X11_put (y := n) (u := 0) L hlt (by decide)) ⟨rfl, rfl⟩ (l8 rfl) ⟨l8 rfl, l8 rfl⟩ rfl rfl (l8 rfl) dX11_comes_13 rfl ?_
  refine v_aload_n (n := 17) dX11_comes_16 rfl rfl rfl ?_
  refine v_iload (n := 19) dX11_comes_17 rfl rfl ?_
  refine v_iconst (n := 20) (v := 1) dX11_comes_19 c_1 rfl ?_
  refine v_iload_n (n := 21) dX11_comes_20 rfl rfl rfl ?_
  refine v_cVv (n := 24) mc_X11_put l_X11_82 iv_X11_put se_X11_put (ci := 10) ⟨by decide, rfl⟩ L.s (k_X11_put (y := n) (u := 1) L hlt (by decide)) ⟨rfl, rfl⟩ (l8 rfl) ⟨l8 rfl, l8 rfl⟩ rfl rfl (l8 rfl) dX11_comes_21 rfl ?_
  refine v_aload_n (n := 25) dX11_comes_24 rfl rfl rfl ?_
  refine v_iload (n := 27) dX11_comes_25 rfl rfl ?_
  refine v_iconst (n := 28) (v := 2) dX11_comes_27 c_2 rfl ?_
  refine v_iload_n (n := 29) dX11_comes_28 rfl rfl rfl ?_
  refine v_cVv (n := 32) mc_X11_put l_X11_82 iv_X11_put se_X11_put (ci := 10) ⟨by decide, rfl⟩ L.s (k_X11_put (y := n) (u := 2) L hlt (by decide)) ⟨rfl, rfl⟩ (l8 rfl) ⟨l8 rfl, l8 rfl⟩ rfl rfl (l8 rfl) dX11_comes_29 rfl ?_
  refine v_aload_n (n := 33) dX11_comes_32 rfl rfl rfl ?_
  refine v_iload (n := 35) dX11_comes_33 rfl rfl ?_
  refine v_iconst (n := 36) (v := 3) dX11_comes_35 c_3 rfl ?_
  refine v_iconst (n := 37) (v := 0) dX11_comes_36 c_0 rfl ?_
  refine v_cVv (n := 40) mc_X11_put l_X11_82 iv_X11_put se_X11_put (ci := 10) ⟨by decide, rfl⟩ L.s (k_X11_put (y := n) (u := 3) L hlt (by decide)) ⟨rfl, rfl⟩ (l8 rfl) ⟨l8 rfl, l8 rfl⟩ rfl rfl (l8 rfl) dX11_comes_37 rfl ?_
  refine v_aload_n (n := 41) dX11_comes_40 rfl rfl rfl ?_
  refine v_getR (n := 44) f_X11_9 rfl L.s L.g0 dX11_comes_41 rfl ?_
  refine v_iconst (n := 45) (v := 1) dX11_comes_44 c_1 rfl ?_
  refine v_dup2 (n := 46) dX11_comes_45 ⟨rfl, rfl⟩ rfl ?_
  refine v_iald (n := 47) (j := 1) L.c0 (ix_lit rfl rfl rfl) dX11_comes_46 rfl ?_
  refine v_iconst (n := 48) (v := 1) dX11_comes_47 c_1 rfl ?_
  refine v_iadd (n := 49) dX11_comes_48 rfl ?_
  refine v_iast (n := 50) (j := 1) L.c0 (ix_lit rfl rfl rfl) dX11_comes_49 rfl ?_
  refine v_iload (n := 52) dX11_comes_50 rfl rfl ?_
  refine v_rI rfl rfl rfl ?_ ⟨l8 rfl, l8 rfl⟩ dX11_comes_52
  simp only [row_s, row_row, row_setS]
  congr 1
  funext j
  simp only [upd]
  rw [hn]
  simp [nI_1, show ¬ 1 = 76 + 4 * n by omega]

set_option maxRecDepth 100000 in
set_option maxHeartbeats 1000000 in
theorem k_X11_packs {ro : Ro} {S : St} {I : In} {m l : Nat} {y k : Int32} (L : LayM S m) (hl : I (m + 1) 7 = nI l) (hl30 : l ≤ 30) : Ok mX11_packs ro 0 0 0 [.ref m, .int y, .int k] S I (RV S (row I (m + 1) (packX (I (m + 1)) l y k))) := by
  refine ok_of (al := [.ref m, .int y, .int k, JJ]) (by decide) (l8 rfl) rfl ?_
  refine v_aload_n (n := 1) dX11_packs_0 rfl rfl rfl ?_
  refine v_getR (n := 4) f_X11_9 rfl L.s L.g0 dX11_packs_1 rfl ?_
  refine v_bipush (n := 6) (v := 7) dX11_packs_4 b_7 rfl ?_
  refine v_iald (n := 7) (j := 7) L.c0 (ix_lit rfl rfl rfl) dX11_packs_6 rfl ?_
  refine v_iconst (n := 8) (v := 1) dX11_packs_7 c_1 rfl ?_
  refine v_isub (n := 9) dX11_packs_8 rfl ?_
  rw [hl]
  refine v_istore_n (n := 10) (al' := [.ref m, .int y, .int k, .int (nI l - 1)]) dX11_packs_9 rfl rfl rfl rfl ?_
  refine v_iload_n (n := 11) dX11_packs_10 rfl rfl rfl ?_
  refine v_if_lt (n := 14) (tgt := 35) dX11_packs_11 (by decide) rfl (fun hq11 => ?_) (fun hq11 => ?_)
  · have hl0 : l = 0 := by
      rcases Nat.eq_zero_or_pos l with h0 | h0
      · exact h0
      · exact absurd hq11 (by rw [nI_p1 h0]; exact nI_pos (by omega))
    refine v_iinc (n := 38) (v := (nI l - 1) + 1) (al' := [.ref m, .int y, .int k, .int ((nI l - 1) + 1)]) dX11_packs_35 rfl (by rw [c_1]) rfl rfl rfl ?_
    rw [show nI l - 1 + 1 = nI l from Int32.sub_add_cancel ..]
    refine v_aload_n (n := 39) dX11_packs_38 rfl rfl rfl ?_
    refine v_getR (n := 42) f_X11_9 rfl L.s L.g0 dX11_packs_39 rfl ?_
    refine v_bipush (n := 44) (v := 16) dX11_packs_42 b_16 rfl ?_
    refine v_iconst (n := 45) (v := 2) dX11_packs_44 c_2 rfl ?_
    refine v_iload_n (n := 46) dX11_packs_45 rfl rfl rfl ?_
    refine v_imul (n := 47) dX11_packs_46 rfl ?_
    refine v_iadd (n := 48) dX11_packs_47 rfl ?_
    refine v_iload_n (n := 49) dX11_packs_48 rfl rfl rfl ?_
    refine v_iast (n := 50) (j := 16 + 2 * l) L.c0 (ix_of (i_la l) (by omega) (by decide)) dX11_packs_49 rfl ?_
    refine v_aload_n (n := 51) dX11_packs_50 rfl rfl rfl ?_
    refine v_getR (n := 54) f_X11_9 rfl L.s L.g0 dX11_packs_51 rfl ?_
    refine v_bipush (n := 56) (v := 16) dX11_packs_54 b_16 rfl ?_
    refine v_iconst (n := 57) (v := 2) dX11_packs_56 c_2 rfl ?_
    refine v_iload_n (n := 58) dX11_packs_57 rfl rfl rfl ?_
    refine v_imul (n := 59) dX11_packs_58 rfl ?_
    refine v_iadd (n := 60) dX11_packs_59 rfl ?_
    refine v_iconst (n := 61) (v := 1) dX11_packs_60 c_1 rfl ?_
    refine v_iadd (n := 62) dX11_packs_61 rfl ?_
    refine v_iconst (n := 63) (v := 0) dX11_packs_62 c_0 rfl ?_
    refine v_iast (n := 64) (j := 17 + 2 * l) L.c0 (ix_of (i_lb l) (by omega) (by decide)) dX11_packs_63 rfl ?_
    refine v_aload_n (n := 65) dX11_packs_64 rfl rfl rfl ?_
    refine v_getR (n := 68) f_X11_9 rfl L.s L.g0 dX11_packs_65 rfl ?_
    refine v_bipush (n := 70) (v := 7) dX11_packs_68 b_7 rfl ?_
    refine v_dup2 (n := 71) dX11_packs_70 ⟨rfl, rfl⟩ rfl ?_
    refine v_iald (n := 72) (j := 7) L.c0 (ix_lit rfl rfl rfl) dX11_packs_71 rfl ?_
    refine v_iconst (n := 73) (v := 1) dX11_packs_72 c_1 rfl ?_
    refine v_iadd (n := 74) dX11_packs_73 rfl ?_
    refine v_iast (n := 75) (j := 7) L.c0 (ix_lit rfl rfl rfl) dX11_packs_74 rfl ?_
    refine v_aload_n (n := 76) dX11_packs_75 rfl rfl rfl ?_
    refine v_getR (n := 79) f_X11_9 rfl L.s L.g0 dX11_packs_76 rfl ?_
    refine v_bipush (n := 81) (v := 16) dX11_packs_79 b_16 rfl ?_
    refine v_iconst (n := 82) (v := 2) dX11_packs_81 c_2 rfl ?_
    refine v_iload_n (n := 83) dX11_packs_82 rfl rfl rfl ?_
    refine v_imul (n := 84) dX11_packs_83 rfl ?_
    refine v_iadd (n := 85) dX11_packs_84 rfl ?_
    refine v_iconst (n := 86) (v := 1) dX11_packs_85 c_1 rfl ?_
    refine v_iadd (n := 87) dX11_packs_86 rfl ?_
    refine v_dup2 (n := 88) dX11_packs_87 ⟨rfl, rfl⟩ rfl ?_
    refine v_iald (n := 89) (j := 17 + 2 * l) L.c0 (ix_of (i_lb l) (by omega) (by decide)) dX11_packs_88 rfl ?_
    refine v_iload_n (n := 90) dX11_packs_89 rfl rfl rfl ?_
    refine v_iadd (n := 91) dX11_packs_90 rfl ?_
    refine v_iast (n := 92) (j := 17 + 2 * l) L.c0 (ix_of (i_lb l) (by omega) (by decide)) dX11_packs_91 rfl ?_
    refine v_rV rfl rfl ?_ ⟨l8 rfl, l8 rfl⟩ dX11_packs_92
    simp only [row_set, row_s, row_row]
    rw [packX, if_pos (by first | exact Or.inl hl0 | exact Or.inr ⟨h30, hq32⟩)]
    congr 1
    funext j
    simp only [upd]
    by_cases h7 : j = 7
    · subst h7; simp [hl, nI_1, show ¬ 7 = 17 + 2 * l by omega, show ¬ 7 = 16 + 2 * l by omega]
    · by_cases h8 : j = 17 + 2 * l
      · subst h8; simp [h7, Int32.zero_add]
      · simp [h7, h8]
  · have hl1 : 1 ≤ l := by
      rcases Nat.eq_zero_or_pos l with h0 | h0
      · subst h0; exact absurd (by decide) hq11
      · exact h0
    refine v_iload_n (n := 15) dX11_packs_14 rfl rfl rfl ?_
    refine v_bipush (n := 17) (v := 29) dX11_packs_15 b_29 rfl ?_
    refine v_icmp_ge (n := 20) (tgt := 75) dX11_packs_17 (by decide) rfl (fun hq17 => ?_) (fun hq17 => ?_)
    · have h30 : l = 30 := by
        rw [nI_p1 hl1, lit_nI 29] at hq17
        have := le_out hq17 (by decide) (by omega)
        omega
      refine v_aload_n (n := 76) dX11_packs_75 rfl rfl rfl ?_
      refine v_getR (n := 79) f_X11_9 rfl L.s L.g0 dX11_packs_76 rfl ?_
      refine v_bipush (n := 81) (v := 16) dX11_packs_79 b_16 rfl ?_
      refine v_iconst (n := 82) (v := 2) dX11_packs_81 c_2 rfl ?_
      refine v_iload_n (n := 83) dX11_packs_82 rfl rfl rfl ?_
      refine v_imul (n := 84) dX11_packs_83 rfl ?_
      refine v_iadd (n := 85) dX11_packs_84 rfl ?_
      refine v_iconst (n := 86) (v := 1) dX11_packs_85 c_1 rfl ?_
      refine v_iadd (n := 87) dX11_packs_86 rfl ?_
      refine v_dup2 (n := 88) dX11_packs_87 ⟨rfl, rfl⟩ rfl ?_
      refine v_iald (n := 89) (j := 17 + 2 * (l - 1)) L.c0 (ix_of (by rw [nI_p1 hl1, i_lb]) (by omega) (by decide)) dX11_packs_88 rfl ?_
      refine v_iload_n (n := 90) dX11_packs_89 rfl rfl rfl ?_
      refine v_iadd (n := 91) dX11_packs_90 rfl ?_
      refine v_iast (n := 92) (j := 17 + 2 * (l - 1)) L.c0 (ix_of (by rw [nI_p1 hl1, i_lb]) (by omega) (by decide)) dX11_packs_91 rfl ?_
      refine v_rV rfl rfl ?_ ⟨l8 rfl, l8 rfl⟩ dX11_packs_92
      rw [row_set, packX, if_neg (by first | (rw [h30]; simp) | (simp only [not_or, not_and]; exact ⟨by omega, fun _ => Classical.not_not.mpr hq32⟩))]
    · have h30 : l < 30 := by
        rw [nI_p1 hl1, lit_nI 29] at hq17
        have := nle_in hq17 (by decide) (by omega)
        omega
      refine v_aload_n (n := 21) dX11_packs_20 rfl rfl rfl ?_
      refine v_getR (n := 24) f_X11_9 rfl L.s L.g0 dX11_packs_21 rfl ?_
      refine v_bipush (n := 26) (v := 16) dX11_packs_24 b_16 rfl ?_
      refine v_iconst (n := 27) (v := 2) dX11_packs_26 c_2 rfl ?_
      refine v_iload_n (n := 28) dX11_packs_27 rfl rfl rfl ?_
      refine v_imul (n := 29) dX11_packs_28 rfl ?_
      refine v_iadd (n := 30) dX11_packs_29 rfl ?_
      refine v_iald (n := 31) (j := 16 + 2 * (l - 1)) L.c0 (ix_of (by rw [nI_p1 hl1, i_la]) (by omega) (by decide)) dX11_packs_30 rfl ?_
      refine v_iload_n (n := 32) dX11_packs_31 rfl rfl rfl ?_
      refine v_icmp_eq (n := 35) (tgt := 75) dX11_packs_32 (by decide) rfl (fun hq32 => ?_) (fun hq32 => ?_)
      · refine v_aload_n (n := 76) dX11_packs_75 rfl rfl rfl ?_
        refine v_getR (n := 79) f_X11_9 rfl L.s L.g0 dX11_packs_76 rfl ?_
        refine v_bipush (n := 81) (v := 16) dX11_packs_79 b_16 rfl ?_
        refine v_iconst (n := 82) (v := 2) dX11_packs_81 c_2 rfl ?_
        refine v_iload_n (n := 83) dX11_packs_82 rfl rfl rfl ?_
        refine v_imul (n := 84) dX11_packs_83 rfl ?_
        refine v_iadd (n := 85) dX11_packs_84 rfl ?_
        refine v_iconst (n := 86) (v := 1) dX11_packs_85 c_1 rfl ?_
        refine v_iadd (n := 87) dX11_packs_86 rfl ?_
        refine v_dup2 (n := 88) dX11_packs_87 ⟨rfl, rfl⟩ rfl ?_
        refine v_iald (n := 89) (j := 17 + 2 * (l - 1)) L.c0 (ix_of (by rw [nI_p1 hl1, i_lb]) (by omega) (by decide)) dX11_packs_88 rfl ?_
        refine v_iload_n (n := 90) dX11_packs_89 rfl rfl rfl ?_
        refine v_iadd (n := 91) dX11_packs_90 rfl ?_
        refine v_iast (n := 92) (j := 17 + 2 * (l - 1)) L.c0 (ix_of (by rw [nI_p1 hl1, i_lb]) (by omega) (by decide)) dX11_packs_91 rfl ?_
        refine v_rV rfl rfl ?_ ⟨l8 rfl, l8 rfl⟩ dX11_packs_92
        rw [row_set, packX, if_neg (by first | (rw [h30]; simp) | (simp only [not_or, not_and]; exact ⟨by omega, fun _ => Classical.not_not.mpr hq32⟩))]
      · refine v_iinc (n := 38) (v := (nI l - 1) + 1) (al' := [.ref m, .int y, .int k, .int ((nI l - 1) + 1)]) dX11_packs_35 rfl (by rw [c_1]) rfl rfl rfl ?_
        rw [show nI l - 1 + 1 = nI l from Int32.sub_add_cancel ..]
        refine v_aload_n (n := 39) dX11_packs_38 rfl rfl rfl ?_
        refine v_getR (n := 42) f_X11_9 rfl L.s L.g0 dX11_packs_39 rfl ?_
        refine v_bipush (n := 44) (v := 16) dX11_packs_42 b_16 rfl ?_
        refine v_iconst (n := 45) (v := 2) dX11_packs_44 c_2 rfl ?_
        refine v_iload_n (n := 46) dX11_packs_45 rfl rfl rfl ?_
        refine v_imul (n := 47) dX11_packs_46 rfl ?_
        refine v_iadd (n := 48) dX11_packs_47 rfl ?_
        refine v_iload_n (n := 49) dX11_packs_48 rfl rfl rfl ?_
        refine v_iast (n := 50) (j := 16 + 2 * l) L.c0 (ix_of (i_la l) (by omega) (by decide)) dX11_packs_49 rfl ?_
        refine v_aload_n (n := 51) dX11_packs_50 rfl rfl rfl ?_
        refine v_getR (n := 54) f_X11_9 rfl L.s L.g0 dX11_packs_51 rfl ?_
        refine v_bipush (n := 56) (v := 16) dX11_packs_54 b_16 rfl ?_
        refine v_iconst (n := 57) (v := 2) dX11_packs_56 c_2 rfl ?_
        refine v_iload_n (n := 58) dX11_packs_57 rfl rfl rfl ?_
        refine v_imul (n := 59) dX11_packs_58 rfl ?_
        refine v_iadd (n := 60) dX11_packs_59 rfl ?_
        refine v_iconst (n := 61) (v := 1) dX11_packs_60 c_1 rfl ?_
        refine v_iadd (n := 62) dX11_packs_61 rfl ?_
        refine v_iconst (n := 63) (v := 0) dX11_packs_62 c_0 rfl ?_
        refine v_iast (n := 64) (j := 17 + 2 * l) L.c0 (ix_of (i_lb l) (by omega) (by decide)) dX11_packs_63 rfl ?_
        refine v_aload_n (n := 65) dX11_packs_64 rfl rfl rfl ?_
        refine v_getR (n := 68) f_X11_9 rfl L.s L.g0 dX11_packs_65 rfl ?_
        refine v_bipush (n := 70) (v := 7) dX11_packs_68 b_7 rfl ?_
        refine v_dup2 (n := 71) dX11_packs_70 ⟨rfl, rfl⟩ rfl ?_
        refine v_iald (n := 72) (j := 7) L.c0 (ix_lit rfl rfl rfl) dX11_packs_71 rfl ?_
        refine v_iconst (n := 73) (v := 1) dX11_packs_72 c_1 rfl ?_
        refine v_iadd (n := 74) dX11_packs_73 rfl ?_
        refine v_iast (n := 75) (j := 7) L.c0 (ix_lit rfl rfl rfl) dX11_packs_74 rfl ?_
        refine v_aload_n (n := 76) dX11_packs_75 rfl rfl rfl ?_
        refine v_getR (n := 79) f_X11_9 rfl L.s L.g0 dX11_packs_76 rfl ?_
        refine v_bipush (n := 81) (v := 16) dX11_packs_79 b_16 rfl ?_
        refine v_iconst (n := 82) (v := 2) dX11_packs_81 c_2 rfl ?_
        refine v_iload_n (n := 83) dX11_packs_82 rfl rfl rfl ?_
        refine v_imul (n := 84) dX11_packs_83 rfl ?_
        refine v_iadd (n := 85) dX11_packs_84 rfl ?_
        refine v_iconst (n := 86) (v := 1) dX11_packs_85 c_1 rfl ?_
        refine v_iadd (n := 87) dX11_packs_86 rfl ?_
        refine v_dup2 (n := 88) dX11_packs_87 ⟨rfl, rfl⟩ rfl ?_
        refine v_iald (n := 89) (j := 17 + 2 * l) L.c0 (ix_of (i_lb l) (by omega) (by decide)) dX11_packs_88 rfl ?_
        refine v_iload_n (n := 90) dX11_packs_89 rfl rfl rfl ?_
        refine v_iadd (n := 91) dX11_packs_90 rfl ?_
        refine v_iast (n := 92) (j := 17 + 2 * l) L.c0 (ix_of (i_lb l) (by omega) (by decide)) dX11_packs_91 rfl ?_
        refine v_rV rfl rfl ?_ ⟨l8 rfl, l8 rfl⟩ dX11_packs_92
        simp only [row_set, row_s, row_row]
        rw [packX, if_pos (by first | exact Or.inl hl0 | exact Or.inr ⟨h30, hq32⟩)]
        congr 1
        funext j
        simp only [upd]
        by_cases h7 : j = 7
        · subst h7; simp [hl, nI_1, show ¬ 7 = 17 + 2 * l by omega, show ¬ 7 = 16 + 2 * l by omega]
        · by_cases h8 : j = 17 + 2 * l
          · subst h8; simp [h7, Int32.zero_add]
          · simp [h7, h8]

set_option maxRecDepth 100000 in
set_option maxHeartbeats 1000000 in
theorem l_X11_sumOf {ro : Ro} {S : St} {I : In} {m n u : Nat} (L : LayM S m) (hn : I (m + 1) 1 = nI n) (hn10 : n ≤ 10) (hu : u < 4) : ∀ k i, i ≤ n → n < i + k → V RX11 cX11_sumOf 4 (some .int) "sumOf" ro (rmD 1 0 0) (QM 0 0 (RI (sumX (I (m + 1)) u n) S I)) 0 0 4 [.ref m, .int (nI u), .int (sumX (I (m + 1)) u i), .int (nI i)] [] S I := by
  intro k
  induction k with
  | zero => intro i hi hk; exact absurd hk (by omega)
  | succ k ih =>
    intro i hi hk
    refine v_iload_n (n := 5) dX11_sumOf_4 rfl rfl rfl ?_
    refine v_aload_n (n := 6) dX11_sumOf_5 rfl rfl rfl ?_
    refine v_getR (n := 9) f_X11_9 rfl L.s L.g0 dX11_sumOf_6 rfl ?_
    refine v_iconst (n := 10) (v := 1) dX11_sumOf_9 c_1 rfl ?_
    refine v_iald (n := 11) (j := 1) L.c0 (ix_lit rfl rfl rfl) dX11_sumOf_10 rfl ?_
    refine v_icmp_ge (n := 14) (tgt := 29) dX11_sumOf_11 (by decide) rfl (fun hq11 => ?_) (fun hq11 => ?_)
    · rw [hn] at hq11
      obtain rfl : i = n := Nat.le_antisymm hi (le_out hq11 (by omega) (by omega))
      refine v_iload_n (n := 30) dX11_sumOf_29 rfl rfl rfl ?_
      exact v_rI rfl rfl rfl rfl ⟨l8 rfl, l8 rfl⟩ dX11_sumOf_30
    · rw [hn] at hq11
      have hlt := nle_in hq11 (by omega) (by omega)
      refine v_iload_n (n := 15) dX11_sumOf_14 rfl rfl rfl ?_
      refine v_aload_n (n := 16) dX11_sumOf_15 rfl rfl rfl ?_
      refine v_iload_n (n := 17) dX11_sumOf_16 rfl rfl rfl ?_
      refine v_iload_n (n := 18) dX11_sumOf_17 rfl rfl rfl ?_
      refine v_cVi (n := 21) (x := (I (m + 1) (76 + 4 * i + u))) mc_X11_of l_X11_110 iv_X11_of se_X11_of (ci := 10) ⟨by decide, rfl⟩ L.s (k_X11_of (y := i) (u := u) L (by omega) hu) ⟨rfl, rfl⟩ (l8 rfl) ⟨l8 rfl, l8 rfl⟩ rfl rfl (l8 rfl) dX11_sumOf_18 rfl ?_
      refine v_iadd (n := 22) dX11_sumOf_21 rfl ?_
      refine v_istore_n (n := 23) (al' := [.ref m, .int (nI u), .int ((sumX (I (m + 1)) u i) + (I (m + 1) (76 + 4 * i + u))), .int (nI i)]) dX11_sumOf_22 rfl rfl rfl rfl ?_
      refine v_iinc (n := 26) (v := (nI i) + 1) (al' := [.ref m, .int (nI u), .int ((sumX (I (m + 1)) u i) + (I (m + 1) (76 + 4 * i + u))), .int ((nI i) + 1)]) dX11_sumOf_23 rfl (by rw [c_1]) rfl rfl rfl ?_
      refine v_goto (tgt := 4) dX11_sumOf_26 (by decide) ?_
      rw [nI_1]
      exact ih (i + 1) hlt (by omega)

set_option maxRecDepth 100000 in
set_option maxHeartbeats 1000000 in
theorem k_X11_sumOf {ro : Ro} {S : St} {I : In} {m n u : Nat} (L : LayM S m) (hn : I (m + 1) 1 = nI n) (hn10 : n ≤ 10) (hu : u < 4) : Ok mX11_sumOf ro 1 0 0 [.ref m, .int (nI u)] S I (RI (sumX (I (m + 1)) u n) S I) := by
  refine ok_of (al := [.ref m, .int (nI u), JJ, JJ]) (by decide) (l8 rfl) rfl ?_
  refine v_iconst (n := 1) (v := 0) dX11_sumOf_0 c_0 rfl ?_
  refine v_istore_n (n := 2) (al' := [.ref m, .int (nI u), .int 0, JJ]) dX11_sumOf_1 rfl rfl rfl rfl ?_
  refine v_iconst (n := 3) (v := 0) dX11_sumOf_2 c_0 rfl ?_
  refine v_istore_n (n := 4) (al' := [.ref m, .int (nI u), .int 0, .int 0]) dX11_sumOf_3 rfl rfl rfl rfl ?_
  exact l_X11_sumOf L hn hn10 hu (n + 1) 0 (Nat.zero_le _) (by omega)

set_option maxRecDepth 100000 in
set_option maxHeartbeats 1000000 in
theorem l_X11_thinks {ro : Ro} {S : St} {I : In} {m : Nat} (L : LayM S m) : ∀ k i, i ≤ 116 → 116 < i + k → V RX11 cX11_thinks 2 (none) "thinks" ro (rmD 0 0 0) (QM 0 0 (RV S (uP I (m + 4) (I (m + 1)) 116))) 0 0 2 [.ref m, .int (nI i)] [] S (uP I (m + 4) (I (m + 1)) i) := by
  intro k
  induction k with
  | zero => intro i hi hk; exact absurd hk (by omega)
  | succ k ih =>
    intro i hi hk
    refine v_iload_n (n := 3) dX11_thinks_2 rfl rfl rfl ?_
    refine v_bipush (n := 5) (v := 116) dX11_thinks_3 b_116 rfl ?_
    refine v_icmp_ge (n := 8) (tgt := 26) dX11_thinks_5 (by decide) rfl (fun hq5 => ?_) (fun hq5 => ?_)
    · rw [lit_nI 116] at hq5
      obtain rfl : i = 116 := Nat.le_antisymm hi (le_out hq5 (by decide) (by omega))
      exact v_rV rfl rfl rfl ⟨l8 rfl, l8 rfl⟩ dX11_thinks_26
    · rw [lit_nI 116] at hq5
      have hlt := nle_in hq5 (by decide) (by omega)
      refine v_aload_n (n := 9) dX11_thinks_8 rfl rfl rfl ?_
      refine v_getR (n := 12) f_X11_19 rfl L.s L.g4 dX11_thinks_9 rfl ?_
      refine v_iload_n (n := 13) dX11_thinks_12 rfl rfl rfl ?_
      refine v_aload_n (n := 14) dX11_thinks_13 rfl rfl rfl ?_
      refine v_getR (n := 17) f_X11_9 rfl L.s L.g0 dX11_thinks_14 rfl ?_
      refine v_iload_n (n := 18) dX11_thinks_17 rfl rfl rfl ?_
      refine v_iald (n := 19) (j := i) L.c0 (ix_nI (by omega) (by decide)) dX11_thinks_18 rfl ?_
      refine v_iast (n := 20) (j := i) L.c4 (ix_nI (by omega) (by decide)) dX11_thinks_19 rfl ?_
      refine v_iinc (n := 23) (v := (nI i) + 1) (al' := [.ref m, .int ((nI i) + 1)]) dX11_thinks_20 rfl (by rw [c_1]) rfl rfl rfl ?_
      refine v_goto (tgt := 2) dX11_thinks_23 (by decide) ?_
      rw [nI_1]
      refine v_I (I' := uP I (m + 4) (I (m + 1)) (i + 1)) (by rw [uP_o (by omega)]; exact uP_s) ?_
      exact ih (i + 1) hlt (by omega)

set_option maxRecDepth 100000 in
set_option maxHeartbeats 1000000 in
theorem k_X11_thinks {ro : Ro} {S : St} {I : In} {m : Nat} (L : LayM S m) : Ok mX11_thinks ro 0 0 0 [.ref m] S I (RV S (uP I (m + 4) (I (m + 1)) 116)) := by
  refine ok_of (al := [.ref m, JJ]) (by decide) (l8 rfl) rfl ?_
  refine v_iconst (n := 1) (v := 0) dX11_thinks_0 c_0 rfl ?_
  refine v_istore_n (n := 2) (al' := [.ref m, .int 0]) dX11_thinks_1 rfl rfl rfl rfl ?_
  refine v_I (I' := uP I (m + 4) (I (m + 1)) 0) uP_0.symm ?_
  exact l_X11_thinks L 117 0 (Nat.zero_le _) (by decide)

set_option maxRecDepth 100000 in
set_option maxHeartbeats 1000000 in
theorem l_X11_putsBack {ro : Ro} {S : St} {I : In} {m : Nat} (L : LayM S m) : ∀ k i, i ≤ 116 → 116 < i + k → V RX11 cX11_putsBack 2 (none) "putsBack" ro (rmD 0 0 0) (QM 0 0 (RV S (uP I (m + 1) (I (m + 4)) 116))) 0 0 2 [.ref m, .int (nI i)] [] S (uP I (m + 1) (I (m + 4)) i) := by
  intro k
  induction k with
  | zero => intro i hi hk; exact absurd hk (by omega)
  | succ k ih =>
    intro i hi hk
    refine v_iload_n (n := 3) dX11_putsBack_2 rfl rfl rfl ?_
    refine v_bipush (n := 5) (v := 116) dX11_putsBack_3 b_116 rfl ?_
    refine v_icmp_ge (n := 8) (tgt := 26) dX11_putsBack_5 (by decide) rfl (fun hq5 => ?_) (fun hq5 => ?_)
    · rw [lit_nI 116] at hq5
      obtain rfl : i = 116 := Nat.le_antisymm hi (le_out hq5 (by decide) (by omega))
      exact v_rV rfl rfl rfl ⟨l8 rfl, l8 rfl⟩ dX11_putsBack_26
    · rw [lit_nI 116] at hq5
      have hlt := nle_in hq5 (by decide) (by omega)
      refine v_aload_n (n := 9) dX11_putsBack_8 rfl rfl rfl ?_
      refine v_getR (n := 12) f_X11_9 rfl L.s L.g0 dX11_putsBack_9 rfl ?_
      refine v_iload_n (n := 13) dX11_putsBack_12 rfl rfl rfl ?_
      refine v_aload_n (n := 14) dX11_putsBack_13 rfl rfl rfl ?_
      refine v_getR (n := 17) f_X11_19 rfl L.s L.g4 dX11_putsBack_14 rfl ?_
      refine v_iload_n (n := 18) dX11_putsBack_17 rfl rfl rfl ?_
      refine v_iald (n := 19) (j := i) L.c4 (ix_nI (by omega) (by decide)) dX11_putsBack_18 rfl ?_
      refine v_iast (n := 20) (j := i) L.c0 (ix_nI (by omega) (by decide)) dX11_putsBack_19 rfl ?_
      refine v_iinc (n := 23) (v := (nI i) + 1) (al' := [.ref m, .int ((nI i) + 1)]) dX11_putsBack_20 rfl (by rw [c_1]) rfl rfl rfl ?_
      refine v_goto (tgt := 2) dX11_putsBack_23 (by decide) ?_
      rw [nI_1]
      refine v_I (I' := uP I (m + 1) (I (m + 4)) (i + 1)) (by rw [uP_o (by omega)]; exact uP_s) ?_
      exact ih (i + 1) hlt (by omega)

set_option maxRecDepth 100000 in
set_option maxHeartbeats 1000000 in
theorem k_X11_putsBack {ro : Ro} {S : St} {I : In} {m : Nat} (L : LayM S m) : Ok mX11_putsBack ro 0 0 0 [.ref m] S I (RV S (uP I (m + 1) (I (m + 4)) 116)) := by
  refine ok_of (al := [.ref m, JJ]) (by decide) (l8 rfl) rfl ?_
  refine v_iconst (n := 1) (v := 0) dX11_putsBack_0 c_0 rfl ?_
  refine v_istore_n (n := 2) (al' := [.ref m, .int 0]) dX11_putsBack_1 rfl rfl rfl rfl ?_
  refine v_I (I' := uP I (m + 1) (I (m + 4)) 0) uP_0.symm ?_
  exact l_X11_putsBack L 117 0 (Nat.zero_le _) (by decide)

set_option maxRecDepth 100000 in
set_option maxHeartbeats 1000000 in
theorem l_X11_copyAll {ro : Ro} {S : St} {I : In} {a b : Nat} (ha : S.1 a = some (20, 1488)) (hb : S.1 b = some (20, 1488)) (hab : a ≠ b) : ∀ k i, i ≤ 1488 → 1488 < i + k → V RX11 cX11_copyAll 3 (none) "copyAll" ro (rmD 0 0 0) (QM 0 0 (RV S (uP I b (I a) 1488))) 0 0 2 [.ref a, .ref b, .int (nI i)] [] S (uP I b (I a) i) := by
  intro k
  induction k with
  | zero => intro i hi hk; exact absurd hk (by omega)
  | succ k ih =>
    intro i hi hk
    refine v_iload_n (n := 3) dX11_copyAll_2 rfl rfl rfl ?_
    refine v_sipush (n := 6) (v := 1488) dX11_copyAll_3 s_1488 rfl ?_
    refine v_icmp_ge (n := 9) (tgt := 21) dX11_copyAll_6 (by decide) rfl (fun hq6 => ?_) (fun hq6 => ?_)
    · rw [lit_nI 1488] at hq6
      obtain rfl : i = 1488 := Nat.le_antisymm hi (le_out hq6 (by decide) (by omega))
      exact v_rV rfl rfl rfl ⟨l8 rfl, l8 rfl⟩ dX11_copyAll_21
    · rw [lit_nI 1488] at hq6
      have hlt := nle_in hq6 (by decide) (by omega)
      refine v_aload_n (n := 10) dX11_copyAll_9 rfl rfl rfl ?_
      refine v_iload_n (n := 11) dX11_copyAll_10 rfl rfl rfl ?_
      refine v_aload_n (n := 12) dX11_copyAll_11 rfl rfl rfl ?_
      refine v_iload_n (n := 13) dX11_copyAll_12 rfl rfl rfl ?_
      refine v_iald (n := 14) (j := i) ha (ix_nI (by omega) (by decide)) dX11_copyAll_13 rfl ?_
      refine v_iast (n := 15) (j := i) hb (ix_nI (by omega) (by decide)) dX11_copyAll_14 rfl ?_
      refine v_iinc (n := 18) (v := (nI i) + 1) (al' := [.ref a, .ref b, .int ((nI i) + 1)]) dX11_copyAll_15 rfl (by rw [c_1]) rfl rfl rfl ?_
      refine v_goto (tgt := 2) dX11_copyAll_18 (by decide) ?_
      rw [nI_1]
      refine v_I (I' := uP I b (I a) (i + 1)) (by rw [uP_o hab]; exact uP_s) ?_
      exact ih (i + 1) hlt (by omega)

set_option maxRecDepth 100000 in
set_option maxHeartbeats 1000000 in
theorem k_X11_copyAll {ro : Ro} {S : St} {I : In} {a b : Nat} (ha : S.1 a = some (20, 1488)) (hb : S.1 b = some (20, 1488)) (hab : a ≠ b) : Ok mX11_copyAll ro 0 0 0 [.ref a, .ref b] S I (RV S (uP I b (I a) 1488)) := by
  refine ok_of (al := [.ref a, .ref b, JJ]) (by decide) (l8 rfl) rfl ?_
  refine v_iconst (n := 1) (v := 0) dX11_copyAll_0 c_0 rfl ?_
  refine v_istore_n (n := 2) (al' := [.ref a, .ref b, .int 0]) dX11_copyAll_1 rfl rfl rfl rfl ?_
  refine v_I (I' := uP I b (I a) 0) uP_0.symm ?_
  exact l_X11_copyAll ha hb hab 1489 0 (Nat.zero_le _) (by decide)

def scN (m a : Nat) : Prop := a = m + 1 ∨ scM m a
set_option maxRecDepth 100000 in
set_option maxHeartbeats 1000000 in
theorem k_X11_passes {ro : Ro} {S : St} {I : In} {m T l y : Nat} (L : LayM S m) (hT : TXW (I (m + 1)) T) (hl : I (m + 1) 7 = nI l) (hl30 : l ≤ 30) (hy : y < 10) : Ok mX11_passes ro 3 0 0 [.ref m, .int (nI y)] S I (fun r S' I' => r = some (.int (passN (I (m + 1)) T l y)) ∧ S' = S ∧ I' (m + 1) = passX (I (m + 1)) T l y ∧ Eqx (scN m) I I') := by
  refine ok_of (al := [.ref m, .int (nI y), JJ]) (by decide) (l8 rfl) rfl ?_
  refine v_aload_n (n := 1) dX11_passes_0 rfl rfl rfl ?_
  refine v_callV (n := 4) mc_X11_wide l_X11_141 iv_X11_wide se_X11_wide (ci := 10) ⟨by decide, rfl⟩ L.s (k_X11_wide L hT hl hl30) ⟨rfl, rfl⟩ (l8 rfl) ⟨l8 rfl, l8 rfl⟩ rfl rfl (l8 rfl) dX11_passes_1 rfl ?_
  rintro _ _ I1 ⟨rfl, rfl, hE1⟩
  have hX1 := hE1.now
  refine v_istore_n (n := 5) (al' := [.ref m, .int (nI y), .int (wideX (I (m + 1)) T l)]) dX11_passes_4 rfl rfl rfl rfl ?_
  refine v_iload_n (n := 6) dX11_passes_5 rfl rfl rfl ?_
  refine v_aload_n (n := 7) dX11_passes_6 rfl rfl rfl ?_
  refine v_iload_n (n := 8) dX11_passes_7 rfl rfl rfl ?_
  refine v_iconst (n := 9) (v := 2) dX11_passes_8 c_2 rfl ?_
  refine v_cVi (n := 12) (x := (I1 (m + 1) (76 + 4 * y + 2))) mc_X11_of l_X11_110 iv_X11_of se_X11_of (ci := 10) ⟨by decide, rfl⟩ L.s (k_X11_of (y := y) (u := 2) L hy (by decide)) ⟨rfl, rfl⟩ (l8 rfl) ⟨l8 rfl, l8 rfl⟩ rfl rfl (l8 rfl) dX11_passes_9 rfl ?_
  refine v_icmp_gt (n := 15) (tgt := 17) dX11_passes_12 (by decide) rfl (fun hq12 => ?_) (fun hq12 => ?_)
  · rw [hX1] at hq12
    refine v_aload_n (n := 18) dX11_passes_17 rfl rfl rfl ?_
    refine v_iload_n (n := 19) dX11_passes_18 rfl rfl rfl ?_
    refine v_iconst (n := 20) (v := 2) dX11_passes_19 c_2 rfl ?_
    refine v_iload_n (n := 21) dX11_passes_20 rfl rfl rfl ?_
    refine v_cVv (n := 24) mc_X11_put l_X11_82 iv_X11_put se_X11_put (ci := 10) ⟨by decide, rfl⟩ L.s (k_X11_put (y := y) (u := 2) L hy (by decide)) ⟨rfl, rfl⟩ (l8 rfl) ⟨l8 rfl, l8 rfl⟩ rfl rfl (l8 rfl) dX11_passes_21 rfl ?_
    refine v_aload_n (n := 25) dX11_passes_24 rfl rfl rfl ?_
    refine v_iload_n (n := 26) dX11_passes_25 rfl rfl rfl ?_
    refine v_iconst (n := 27) (v := 3) dX11_passes_26 c_3 rfl ?_
    refine v_aload_n (n := 28) dX11_passes_27 rfl rfl rfl ?_
    refine v_iload_n (n := 29) dX11_passes_28 rfl rfl rfl ?_
    refine v_iconst (n := 30) (v := 3) dX11_passes_29 c_3 rfl ?_
    refine v_cVi (n := 33) (x := ((row I1 (m + 1) (upd (I1 (m + 1)) (76 + 4 * y + 2) (wideX (I (m + 1)) T l))) (m + 1) (76 + 4 * y + 3))) mc_X11_of l_X11_110 iv_X11_of se_X11_of (ci := 10) ⟨by decide, rfl⟩ L.s (k_X11_of (y := y) (u := 3) L hy (by decide)) ⟨rfl, rfl⟩ (l8 rfl) ⟨l8 rfl, l8 rfl⟩ rfl rfl (l8 rfl) dX11_passes_30 rfl ?_
    refine v_iconst (n := 34) (v := 1) dX11_passes_33 c_1 rfl ?_
    refine v_iadd (n := 35) dX11_passes_34 rfl ?_
    refine v_cVv (n := 38) mc_X11_put l_X11_82 iv_X11_put se_X11_put (ci := 10) ⟨by decide, rfl⟩ L.s (k_X11_put (y := y) (u := 3) L hy (by decide)) ⟨rfl, rfl⟩ (l8 rfl) ⟨l8 rfl, l8 rfl⟩ rfl rfl (l8 rfl) dX11_passes_35 rfl ?_
    refine v_iconst (n := 39) (v := 1) dX11_passes_38 c_1 rfl ?_
    refine v_iret rfl ⟨by rw [passN, if_pos hq12], rfl, ?_, fun a ha => ?_⟩ ⟨l8 rfl, l8 rfl⟩ dX11_passes_39
    · rw [passX, if_pos hq12]
      simp only [row_s, row_row, hX1]
      rw [pk_un (by omega)]
    · have h1 : a ≠ m + 1 := fun q => ha (Or.inl q)
      simp only [row_o h1]
      exact hE1 a (fun q => ha (Or.inr q))
  · rw [hX1] at hq12
    refine v_iconst (n := 16) (v := 0) dX11_passes_15 c_0 rfl ?_
    exact v_iret rfl ⟨by rw [passN, if_neg hq12], rfl, by rw [passX, if_neg hq12]; exact hX1, fun a ha => hE1 a (fun q => ha (Or.inr q))⟩ ⟨l8 rfl, l8 rfl⟩ dX11_passes_16

