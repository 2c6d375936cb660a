/-! ===== what the calls answer, on the array; the reference answers so ===== -/
def yd (X : Ar) (a : Int32) : Bool := inn a 0 (X 1 - 1)
def comesX (X : Ar) (a b c : Int32) : Ar := upd (upd (upd (upd (upd X (76 + 4 * (X 1).toNatClampNeg) a) (76 + 4 * (X 1).toNatClampNeg + 1) b) (76 + 4 * (X 1).toNatClampNeg + 2) c) (76 + 4 * (X 1).toNatClampNeg + 3) 0) 1 (nI ((X 1).toNatClampNeg + 1))
def yardS (X : Ar) (a b c : Int32) : Int32 × Ar := if (inn a 0 5 && inn b 0 999 && inn c 1 999) = true then (if X 1 = 10 then (-1000000003, X) else (X 1, comesX X a b c)) else (-1000000001, X)
def toldS (X : Ar) (T l : Nat) (a b : Int32) : Int32 := if yd X a = true then (if b = 0 then X (76 + 4 * a.toNatClampNeg) else if b = 1 then X (76 + 4 * a.toNatClampNeg + 1) else if b = 2 then X (76 + 4 * a.toNatClampNeg + 2) else if b = 3 then X (76 + 4 * a.toNatClampNeg + 3) else if b = 4 then givesX X T l a.toNatClampNeg else if b = 5 then kGoes (X (76 + 4 * a.toNatClampNeg)) (X 2) else if b = 6 then kWorthM (X (76 + 4 * a.toNatClampNeg)) (X (76 + 4 * a.toNatClampNeg + 1)) (X (76 + 4 * a.toNatClampNeg + 2)) else if b = 7 then ledS X a l else -1000000001) else -1000000001
def asS (X : Ar) (a b : Int32) : Int32 := if (yd X a && inn b 0 5) = true then (if under (X (76 + 4 * a.toNatClampNeg)) b = true then X (76 + 4 * a.toNatClampNeg + 1) else -1000000012) else -1000000001
def turnsS (X : Ar) (a b : Int32) : Int32 × Ar := if (yd X a && inn b 0 5) = true then (X (76 + 4 * a.toNatClampNeg), upd X (76 + 4 * a.toNatClampNeg) b) else (-1000000001, X)
def setS (X : Ar) (a b c : Int32) : Int32 × Ar := if (yd X a && inn b 1 2 && inn c (if b = 1 then 0 else 1) 999) = true then (X (76 + 4 * a.toNatClampNeg + b.toNatClampNeg), upd X (76 + 4 * a.toNatClampNeg + b.toNatClampNeg) c) else (-1000000001, X)
def ruleS (X : Ar) (a v : Int32) : Int32 × Ar := if (inn a 0 2 && inn v (if a = 2 then -9 else 0) (if a = 2 then 9 else 99)) = true then (X (3 + a.toNatClampNeg), upd X (3 + a.toNatClampNeg) v) else (-1000000001, X)
def atS (X : Ar) (a : Int32) : Int32 × Ar := if yd X a = true then (X 6, upd X 6 a) else (-1000000001, X)
def ballS (X : Ar) (T l : Nat) (a : Int32) : Int32 := if a = 0 then wS X l else if a = 1 then wideX X T l else if a = 2 then X 6 else if a = 3 then X 7 else if a = 4 then X 8 else -1000000001
def layerS (X : Ar) (a b : Int32) : Int32 := if (inn a 0 (X 7 - 1) && inn b 0 1) = true then X (16 + 2 * a.toNatClampNeg + b.toNatClampNeg) else -1000000001
def packS (X : Ar) (l : Nat) (a k : Int32) : Int32 × Ar := if (yd X a && inn k 1 999) = true then (wS (packX X l a k) (ln (packX X l a k)), packX X l a k) else (-1000000001, X)
def loseS (X : Ar) (a : Int32) : Int32 × Ar := if inn a 0 5 = true then (if X 7 = 0 then (-1000000002, X) else (X 7 - 1, upd X (10 + a.toNatClampNeg) (X 7 - 1))) else (-1000000001, X)
def findS (X : Ar) (a : Int32) : Int32 × Ar := if inn a 0 5 = true then ((if 0 ≤ X (10 + a.toNatClampNeg) then 1 else 0), upd X (10 + a.toNatClampNeg) (-1)) else (-1000000001, X)
def thingS (X : Ar) (a : Int32) : Int32 := if inn a 0 5 = true then (if 0 ≤ X (10 + a.toNatClampNeg) then X (10 + a.toNatClampNeg) else -1000000005) else -1000000001
def mstF (X : Ar) (l : Nat) : Nat → Int32
  | 0 => 0
  | i + 1 => if ledS X (nI (i + 1)) l ≤ ledS X (mstF X l i) l then mstF X l i else nI (i + 1)
def mostS (X : Ar) (n l : Nat) : Int32 := if X 7 = 0 then -1000000005 else mstF X l (n - 1)
def daysS (X : Ar) (T n : Nat) (a : Int32) : Int32 × Ar := if inn a 1 100 = true then (itN X T n (win (9999 - X 2) 0 a).toNatClampNeg, itX X T n (win (9999 - X 2) 0 a).toNatClampNeg) else (-1000000001, X)
def goneF (X : Ar) (T n : Nat) : Nat → Nat → Int32
  | 0, _ => -1000000005
  | r + 1, k => if itX X T n k 7 ≤ 0 then nI k else goneF X T n r (k + 1)
def fineS (X : Ar) (T l : Nat) (a : Int32) : Int32 := if yd X a = true then txt X T 2 (fa3 (wS X l) (X (76 + 4 * a.toNatClampNeg + 3)) 0) (X (76 + 4 * a.toNatClampNeg + 3)) else -1000000001
def dealOne (X : Ar) : Ar := comesX (upd X 0 (drawZ (drawZ (drawZ (X 0))))) (ushr (drawZ (X 0)) 8 % 6) (ushr (drawZ (drawZ (X 0))) 8 % 200) (1 + ushr (drawZ (drawZ (drawZ (X 0)))) 8 % 100)
def dlX (X : Ar) : Nat → Ar
  | 0 => X
  | k + 1 => dealOne (dlX X k)
def dealS (X : Ar) (n : Nat) (a : Int32) : Int32 × Ar := if inn a 1 10 = true then (nI (min a.toNatClampNeg (10 - n)), dlX X (min a.toNatClampNeg (10 - n))) else (-1000000001, X)
theorem yd_get {X : Ar} {a : Int32} {n : Nat} (h : yd X a = true) (h1 : X 1 = nI n) (hn : n ≤ 10) : ∃ y, y < n ∧ a = nI y := by
  rw [yd, h1] at h
  rcases Nat.eq_zero_or_pos n with q | q
  · subst q
    simp only [inn, Bool.and_eq_true, Bool.not_eq_true', decide_eq_false_iff_not] at h
    exact absurd (by
      have := h.1
      have h2 := h.2
      rw [Int32.lt_iff_toInt_lt] at this h2
      have e1 : (0 : Int32).toInt = 0 := rfl
      have e2 : (nI 0 - 1).toInt = -1 := by decide
      omega) id
  · rw [nI_p1 q] at h
    obtain ⟨k, hk, rfl⟩ := inn_get h (by omega)
    exact ⟨k, by omega, rfl⟩
theorem row_same {I : In} {a : Nat} : I = row I a (I a) := row_id.symm

set_option maxRecDepth 100000 in
set_option maxHeartbeats 1000000 in
theorem k_X11_isThing {ro : Ro} {S : St} {I : In} {xa : Int32} : Ok mX11_isThing ro 1 0 0 [.int xa] S I (RI (bi (inn xa 0 5)) S I) := by
  refine ok_of (al := [.int xa]) (by decide) (l8 rfl) rfl ?_
  refine v_iload_n (n := 1) dX11_isThing_0 rfl rfl rfl ?_
  refine v_iconst (n := 2) (v := 0) dX11_isThing_1 c_0 rfl ?_
  refine v_iconst (n := 3) (v := 5) dX11_isThing_2 c_5 rfl ?_
  refine v_cSi (n := 6) (x := (bi (inn xa 0 5))) mc_X11_in l_X11_78 sta_X11_in k_X11_in ⟨rfl, rfl⟩ (l8 rfl) ⟨l8 rfl, l8 rfl⟩ rfl rfl (l8 rfl) dX11_isThing_3 rfl ?_
  exact v_rZ rfl rfl rfl rfl ⟨l8 rfl, l8 rfl⟩ dX11_isThing_6

set_option maxRecDepth 100000 in
set_option maxHeartbeats 1000000 in
theorem k_X11_isSheet {ro : Ro} {S : St} {I : In} {xa : Int32} : Ok mX11_isSheet ro 1 0 0 [.int xa] S I (RI (bi (inn xa 0 3)) S I) := by
  refine ok_of (al := [.int xa]) (by decide) (l8 rfl) rfl ?_
  refine v_iload_n (n := 1) dX11_isSheet_0 rfl rfl rfl ?_
  refine v_iconst (n := 2) (v := 0) dX11_isSheet_1 c_0 rfl ?_
  refine v_iconst (n := 3) (v := 3) dX11_isSheet_2 c_3 rfl ?_
  refine v_cSi (n := 6) (x := (bi (inn xa 0 3))) mc_X11_in l_X11_78 sta_X11_in k_X11_in ⟨rfl, rfl⟩ (l8 rfl) ⟨l8 rfl, l8 rfl⟩ rfl rfl (l8 rfl) dX11_isSheet_3 rfl ?_
  exact v_rZ rfl rfl rfl rfl ⟨l8 rfl, l8 rfl⟩ dX11_isSheet_6

set_option maxRecDepth 100000 in
set_option maxHeartbeats 1000000 in
theorem k_X11_isSlot {ro : Ro} {S : St} {I : In} {xa : Int32} : Ok mX11_isSlot ro 1 0 0 [.int xa] S I (RI (bi (inn xa 0 4)) S I) := by
  refine ok_of (al := [.int xa]) (by decide) (l8 rfl) rfl ?_
  refine v_iload_n (n := 1) dX11_isSlot_0 rfl rfl rfl ?_
  refine v_iconst (n := 2) (v := 0) dX11_isSlot_1 c_0 rfl ?_
  refine v_iconst (n := 3) (v := 4) dX11_isSlot_2 c_4 rfl ?_
  refine v_cSi (n := 6) (x := (bi (inn xa 0 4))) mc_X11_in l_X11_78 sta_X11_in k_X11_in ⟨rfl, rfl⟩ (l8 rfl) ⟨l8 rfl, l8 rfl⟩ rfl rfl (l8 rfl) dX11_isSlot_3 rfl ?_
  exact v_rZ rfl rfl rfl rfl ⟨l8 rfl, l8 rfl⟩ dX11_isSlot_6

set_option maxRecDepth 100000 in
set_option maxHeartbeats 1000000 in
theorem k_X11_seed {ro : Ro} {S : St} {I : In} {xa : Int32} {m T n l b : Nat} (L : LayM S m) (h : WX (I (m + 1)) T n l b) : Ok mX11_seed ro 1 0 0 [.ref m, .int xa] S I (RI (((I (m + 1)) 0, upd (I (m + 1)) 0 xa)).1 S (row I (m + 1) (((I (m + 1)) 0, upd (I (m + 1)) 0 xa)).2)) := by
  refine ok_of (al := [.ref m, .int xa]) (by decide) (l8 rfl) rfl ?_
  refine v_aload_n (n := 1) dX11_seed_0 rfl rfl rfl ?_
  refine v_iconst (n := 2) (v := 0) dX11_seed_1 c_0 rfl ?_
  refine v_iload_n (n := 3) dX11_seed_2 rfl rfl rfl ?_
  refine v_cVi (n := 6) (x := (I (m + 1) 0)) mc_X11_becomes l_X11_134 iv_X11_becomes se_X11_becomes (ci := 10) ⟨by decide, rfl⟩ L.s (k_X11_becomes (u := 0) L (by decide)) ⟨rfl, rfl⟩ (l8 rfl) ⟨l8 rfl, l8 rfl⟩ rfl rfl (l8 rfl) dX11_seed_3 rfl ?_
  exact v_rI rfl rfl rfl rfl ⟨l8 rfl, l8 rfl⟩ dX11_seed_6

set_option maxRecDepth 100000 in
set_option maxHeartbeats 1000000 in
theorem k_X11_at {ro : Ro} {S : St} {I : In} {xa : Int32} {m T n l b : Nat} (L : LayM S m) (h : WX (I (m + 1)) T n l b) : Ok mX11_at ro 2 0 0 [.ref m, .int xa] S I (RI (atS (I (m + 1)) xa).1 S (row I (m + 1) (atS (I (m + 1)) xa).2)) := by
  refine ok_of (al := [.ref m, .int xa]) (by decide) (l8 rfl) rfl ?_
  refine v_aload_n (n := 1) dX11_at_0 rfl rfl rfl ?_
  refine v_iload_n (n := 2) dX11_at_1 rfl rfl rfl ?_
  refine v_cVi (n := 5) (x := (bi (yd (I (m + 1)) xa))) mc_X11_isYard l_X11_114 iv_X11_isYard se_X11_isYard (ci := 10) ⟨by decide, rfl⟩ L.s (k_X11_isYard L) ⟨rfl, rfl⟩ (l8 rfl) ⟨l8 rfl, l8 rfl⟩ rfl rfl (l8 rfl) dX11_at_2 rfl ?_
  refine v_if_eq (n := 8) (tgt := 18) dX11_at_5 (by decide) rfl (fun hq5 => ?_) (fun hq5 => ?_)
  · refine v_ldc (n := 20) k_X11_90 dX11_at_18 rfl ?_
    refine v_rI rfl ?_ rfl ?_ ⟨l8 rfl, l8 rfl⟩ dX11_at_20
    · clear h; simp_all [bi_0, bi_n0, atS]
    · rw [show (atS (I (m + 1)) xa).2 = I (m + 1) from (by clear h; simp_all [bi_0, bi_n0, atS])]; exact row_same
  · refine v_aload_n (n := 9) dX11_at_8 rfl rfl rfl ?_
    refine v_bipush (n := 11) (v := 6) dX11_at_9 b_6 rfl ?_
    refine v_iload_n (n := 12) dX11_at_11 rfl rfl rfl ?_
    refine v_cVi (n := 15) (x := (I (m + 1) 6)) mc_X11_becomes l_X11_134 iv_X11_becomes se_X11_becomes (ci := 10) ⟨by decide, rfl⟩ L.s (k_X11_becomes (u := 6) L (by decide)) ⟨rfl, rfl⟩ (l8 rfl) ⟨l8 rfl, l8 rfl⟩ rfl rfl (l8 rfl) dX11_at_12 rfl ?_
    refine v_goto (tgt := 20) dX11_at_15 (by decide) ?_
    exact v_rI rfl (by rw [atS, if_pos (bi_n0.mp hq5)]) rfl (by rw [atS, if_pos (bi_n0.mp hq5)]) ⟨l8 rfl, l8 rfl⟩ dX11_at_20

set_option maxRecDepth 100000 in
set_option maxHeartbeats 1000000 in
theorem k_X11_yard {ro : Ro} {S : St} {I : In} {xa xb xc : Int32} {m T n l b : Nat} (L : LayM S m) (h : WX (I (m + 1)) T n l b) : Ok mX11_yard ro 2 0 0 [.ref m, .int xa, .int xb, .int xc] S I (RI (yardS (I (m + 1)) xa xb xc).1 S (row I (m + 1) (yardS (I (m + 1)) xa xb xc).2)) := by
  refine ok_of (al := [.ref m, .int xa, .int xb, .int xc]) (by decide) (l8 rfl) rfl ?_
  refine v_iload_n (n := 1) dX11_yard_0 rfl rfl rfl ?_
  refine v_iconst (n := 2) (v := 0) dX11_yard_1 c_0 rfl ?_
  refine v_iconst (n := 3) (v := 5) dX11_yard_2 c_5 rfl ?_
  refine v_cSi (n := 6) (x := (bi (inn xa 0 5))) mc_X11_in l_X11_78 sta_X11_in k_X11_in ⟨rfl, rfl⟩ (l8 rfl) ⟨l8 rfl, l8 rfl⟩ rfl rfl (l8 rfl) dX11_yard_3 rfl ?_
  refine v_if_eq (n := 9) (tgt := 25) dX11_yard_6 (by decide) rfl (fun hq6 => ?_) (fun hq6 => ?_)
  · refine v_ldc (n := 27) k_X11_90 dX11_yard_25 rfl ?_
    refine v_rI rfl ?_ rfl ?_ ⟨l8 rfl, l8 rfl⟩ dX11_yard_27
    · clear h; simp_all [bi_0, bi_n0, yardS]
    · rw [show (yardS (I (m + 1)) xa xb xc).2 = I (m + 1) from (by clear h; simp_all [bi_0, bi_n0, yardS])]; exact row_same
  · refine v_iconst (n := 10) (v := 1) dX11_yard_9 c_1 rfl ?_
    refine v_iload_n (n := 11) dX11_yard_10 rfl rfl rfl ?_
    refine v_cSi (n := 14) (x := (bi (inn xb (if 1 = 1 then 0 else 1) 999))) mc_X11_isOf l_X11_86 sta_X11_isOf k_X11_isOf ⟨rfl, rfl⟩ (l8 rfl) ⟨l8 rfl, l8 rfl⟩ rfl rfl (l8 rfl) dX11_yard_11 rfl ?_
    refine v_if_eq (n := 17) (tgt := 25) dX11_yard_14 (by decide) rfl (fun hq14 => ?_) (fun hq14 => ?_)
    · refine v_ldc (n := 27) k_X11_90 dX11_yard_25 rfl ?_
      refine v_rI rfl ?_ rfl ?_ ⟨l8 rfl, l8 rfl⟩ dX11_yard_27
      · clear h; simp_all [bi_0, bi_n0, yardS]
      · rw [show (yardS (I (m + 1)) xa xb xc).2 = I (m + 1) from (by clear h; simp_all [bi_0, bi_n0, yardS])]; exact row_same
    · refine v_iconst (n := 18) (v := 2) dX11_yard_17 c_2 rfl ?_
      refine v_iload_n (n := 19) dX11_yard_18 rfl rfl rfl ?_
      refine v_cSi (n := 22) (x := (bi (inn xc (if 2 = 1 then 0 else 1) 999))) mc_X11_isOf l_X11_86 sta_X11_isOf k_X11_isOf ⟨rfl, rfl⟩ (l8 rfl) ⟨l8 rfl, l8 rfl⟩ rfl rfl (l8 rfl) dX11_yard_19 rfl ?_
      refine v_if_ne (n := 25) (tgt := 28) dX11_yard_22 (by decide) rfl (fun hq22 => ?_) (fun hq22 => ?_)
      · refine v_aload_n (n := 29) dX11_yard_28 rfl rfl rfl ?_
        refine v_getR (n := 32) f_X11_9 rfl L.s L.g0 dX11_yard_29 rfl ?_
        refine v_iconst (n := 33) (v := 1) dX11_yard_32 c_1 rfl ?_
        refine v_iald (n := 34) (j := 1) L.c0 (ix_lit rfl rfl rfl) dX11_yard_33 rfl ?_
        refine v_bipush (n := 36) (v := 10) dX11_yard_34 b_10 rfl ?_
        refine v_icmp_ne (n := 39) (tgt := 44) dX11_yard_36 (by decide) rfl (fun hq36 => ?_) (fun hq36 => ?_)
        · have hn9 : n < 10 := by
            have := h.2.1
            rcases Nat.lt_or_ge n 10 with q | q
            · exact q
            · exact absurd (by rw [h.1, show n = 10 by omega]; rfl) hq36
          refine v_aload_n (n := 45) dX11_yard_44 rfl rfl rfl ?_
          refine v_iload_n (n := 46) dX11_yard_45 rfl rfl rfl ?_
          refine v_iload_n (n := 47) dX11_yard_46 rfl rfl rfl ?_
          refine v_iload_n (n := 48) dX11_yard_47 rfl rfl rfl ?_
          refine v_cVi (n := 51) (x := (nI n)) mc_X11_comes l_X11_92 iv_X11_comes se_X11_comes (ci := 10) ⟨by decide, rfl⟩ L.s (k_X11_comes (n := n) L h.1 (by omega)) ⟨rfl, rfl⟩ (l8 rfl) ⟨l8 rfl, l8 rfl⟩ rfl rfl (l8 rfl) dX11_yard_48 rfl ?_
          have hg : (inn xa 0 5 && inn xb 0 999 && inn xc 1 999) = true := by simp [bi_n0.mp hq6, show inn xb 0 999 = true from bi_n0.mp hq14, show inn xc 1 999 = true from bi_n0.mp hq22]
          exact v_rI rfl (by rw [yardS, if_pos hg, if_neg hq36]; exact h.1.symm) rfl (by rw [yardS, if_pos hg, if_neg hq36]; simp only [comesX]; rw [h.1, nI_clamp (by omega)]) ⟨l8 rfl, l8 rfl⟩ dX11_yard_51
        · refine v_ldc (n := 41) k_X11_91 dX11_yard_39 rfl ?_
          refine v_goto (tgt := 51) dX11_yard_41 (by decide) ?_
          refine v_rI rfl ?_ rfl ?_ ⟨l8 rfl, l8 rfl⟩ dX11_yard_51
          · clear h; simp_all [bi_0, bi_n0, yardS]
          · rw [show (yardS (I (m + 1)) xa xb xc).2 = I (m + 1) from (by clear h; simp_all [bi_0, bi_n0, yardS])]; exact row_same
      · refine v_ldc (n := 27) k_X11_90 dX11_yard_25 rfl ?_
        refine v_rI rfl ?_ rfl ?_ ⟨l8 rfl, l8 rfl⟩ dX11_yard_27
        · clear h; simp_all [bi_0, bi_n0, yardS]
        · rw [show (yardS (I (m + 1)) xa xb xc).2 = I (m + 1) from (by clear h; simp_all [bi_0, bi_n0, yardS])]; exact row_same

set_option maxRecDepth 100000 in
set_option maxHeartbeats 1000000 in
theorem k_X11_as {ro : Ro} {S : St} {I : In} {xa xb : Int32} {m T n l b : Nat} (L : LayM S m) (h : WX (I (m + 1)) T n l b) : Ok mX11_as ro 2 0 0 [.ref m, .int xa, .int xb] S I (RI (asS (I (m + 1)) xa xb) S I) := by
  refine ok_of (al := [.ref m, .int xa, .int xb]) (by decide) (l8 rfl) rfl ?_
  refine v_aload_n (n := 1) dX11_as_0 rfl rfl rfl ?_
  refine v_iload_n (n := 2) dX11_as_1 rfl rfl rfl ?_
  refine v_cVi (n := 5) (x := (bi (yd (I (m + 1)) xa))) mc_X11_isYard l_X11_114 iv_X11_isYard se_X11_isYard (ci := 10) ⟨by decide, rfl⟩ L.s (k_X11_isYard L) ⟨rfl, rfl⟩ (l8 rfl) ⟨l8 rfl, l8 rfl⟩ rfl rfl (l8 rfl) dX11_as_2 rfl ?_
  refine v_if_eq (n := 8) (tgt := 17) dX11_as_5 (by decide) rfl (fun hq5 => ?_) (fun hq5 => ?_)
  · refine v_ldc (n := 19) k_X11_90 dX11_as_17 rfl ?_
    exact v_rI rfl (by clear h; simp_all [bi_0, bi_n0, asS]) rfl rfl ⟨l8 rfl, l8 rfl⟩ dX11_as_19
  · refine v_iload_n (n := 9) dX11_as_8 rfl rfl rfl ?_
    refine v_iconst (n := 10) (v := 0) dX11_as_9 c_0 rfl ?_
    refine v_iconst (n := 11) (v := 5) dX11_as_10 c_5 rfl ?_
    refine v_cSi (n := 14) (x := (bi (inn xb 0 5))) mc_X11_in l_X11_78 sta_X11_in k_X11_in ⟨rfl, rfl⟩ (l8 rfl) ⟨l8 rfl, l8 rfl⟩ rfl rfl (l8 rfl) dX11_as_11 rfl ?_
    refine v_if_ne (n := 17) (tgt := 20) dX11_as_14 (by decide) rfl (fun hq14 => ?_) (fun hq14 => ?_)
    · obtain ⟨y, hy, rfl⟩ := yd_get (bi_n0.mp hq5) h.1 h.2.1
      have hn10 := h.2.1
      refine v_aload_n (n := 21) dX11_as_20 rfl rfl rfl ?_
      refine v_iload_n (n := 22) dX11_as_21 rfl rfl rfl ?_
      refine v_iconst (n := 23) (v := 0) dX11_as_22 c_0 rfl ?_
      refine v_cVi (n := 26) (x := (I (m + 1) (76 + 4 * y))) mc_X11_of l_X11_110 iv_X11_of se_X11_of (ci := 10) ⟨by decide, rfl⟩ L.s (k_X11_of (y := y) (u := 0) L (by omega) (by decide)) ⟨rfl, rfl⟩ (l8 rfl) ⟨l8 rfl, l8 rfl⟩ rfl rfl (l8 rfl) dX11_as_23 rfl ?_
      refine v_iload_n (n := 27) dX11_as_26 rfl rfl rfl ?_
      refine v_cSi (n := 30) (x := (bi (under (I (m + 1) (76 + 4 * y)) xb))) mc_X11_isUnder l_X11_130 sta_X11_isUnder k_X11_isUnder ⟨rfl, rfl⟩ (l8 rfl) ⟨l8 rfl, l8 rfl⟩ rfl rfl (l8 rfl) dX11_as_27 rfl ?_
      refine v_if_eq (n := 33) (tgt := 42) dX11_as_30 (by decide) rfl (fun hq30 => ?_) (fun hq30 => ?_)
      · refine v_ldc (n := 44) k_X11_133 dX11_as_42 rfl ?_
        exact v_rI rfl (by rw [asS, if_pos (by simp [bi_n0.mp hq5, bi_n0.mp hq14]), nI_clamp (by omega)]; clear h; simp_all [bi_0, bi_n0]) rfl rfl ⟨l8 rfl, l8 rfl⟩ dX11_as_44
      · refine v_aload_n (n := 34) dX11_as_33 rfl rfl rfl ?_
        refine v_iload_n (n := 35) dX11_as_34 rfl rfl rfl ?_
        refine v_iconst (n := 36) (v := 1) dX11_as_35 c_1 rfl ?_
        refine v_cVi (n := 39) (x := (I (m + 1) (76 + 4 * y + 1))) mc_X11_of l_X11_110 iv_X11_of se_X11_of (ci := 10) ⟨by decide, rfl⟩ L.s (k_X11_of (y := y) (u := 1) L (by omega) (by decide)) ⟨rfl, rfl⟩ (l8 rfl) ⟨l8 rfl, l8 rfl⟩ rfl rfl (l8 rfl) dX11_as_36 rfl ?_
        refine v_goto (tgt := 44) dX11_as_39 (by decide) ?_
        exact v_rI rfl (by rw [asS, if_pos (by simp [bi_n0.mp hq5, bi_n0.mp hq14]), nI_clamp (by omega)]; clear h; simp_all [bi_0, bi_n0]) rfl rfl ⟨l8 rfl, l8 rfl⟩ dX11_as_44
    · refine v_ldc (n := 19) k_X11_90 dX11_as_17 rfl ?_
      exact v_rI rfl (by clear h; simp_all [bi_0, bi_n0, asS]) rfl rfl ⟨l8 rfl, l8 rfl⟩ dX11_as_19

theorem i_y0 (y : Nat) : 76 + 4 * nI y = nI (76 + 4 * y) := by rw [show (76 : Int32) = nI 76 from rfl, show (4 : Int32) = nI 4 from rfl, pk_mul, nI_add]
set_option maxRecDepth 100000 in
set_option maxHeartbeats 1000000 in
theorem k_X11_turns {ro : Ro} {S : St} {I : In} {xa xb : Int32} {m T n l b : Nat} (L : LayM S m) (h : WX (I (m + 1)) T n l b) : Ok mX11_turns ro 2 0 0 [.ref m, .int xa, .int xb] S I (RI (turnsS (I (m + 1)) xa xb).1 S (row I (m + 1) (turnsS (I (m + 1)) xa xb).2)) := by
  refine ok_of (al := [.ref m, .int xa, .int xb]) (by decide) (l8 rfl) rfl ?_
  refine v_aload_n (n := 1) dX11_turns_0 rfl rfl rfl ?_
  refine v_iload_n (n := 2) dX11_turns_1 rfl rfl rfl ?_
  refine v_cVi (n := 5) (x := (bi (yd (I (m + 1)) xa))) mc_X11_isYard l_X11_114 iv_X11_isYard se_X11_isYard (ci := 10) ⟨by decide, rfl⟩ L.s (k_X11_isYard L) ⟨rfl, rfl⟩ (l8 rfl) ⟨l8 rfl, l8 rfl⟩ rfl rfl (l8 rfl) dX11_turns_2 rfl ?_
  refine v_if_eq (n := 8) (tgt := 31) dX11_turns_5 (by decide) rfl (fun hq5 => ?_) (fun hq5 => ?_)
  · refine v_ldc (n := 33) k_X11_90 dX11_turns_31 rfl ?_
    refine v_rI rfl ?_ rfl ?_ ⟨l8 rfl, l8 rfl⟩ dX11_turns_33
    · clear h; simp_all [bi_0, bi_n0, turnsS]
    · rw [show (turnsS (I (m + 1)) xa xb).2 = I (m + 1) from (by clear h; simp_all [bi_0, bi_n0, turnsS])]; exact row_same
  · refine v_iload_n (n := 9) dX11_turns_8 rfl rfl rfl ?_
    refine v_iconst (n := 10) (v := 0) dX11_turns_9 c_0 rfl ?_
    refine v_iconst (n := 11) (v := 5) dX11_turns_10 c_5 rfl ?_
    refine v_cSi (n := 14) (x := (bi (inn xb 0 5))) mc_X11_in l_X11_78 sta_X11_in k_X11_in ⟨rfl, rfl⟩ (l8 rfl) ⟨l8 rfl, l8 rfl⟩ rfl rfl (l8 rfl) dX11_turns_11 rfl ?_
    refine v_if_eq (n := 17) (tgt := 31) dX11_turns_14 (by decide) rfl (fun hq14 => ?_) (fun hq14 => ?_)
    · refine v_ldc (n := 33) k_X11_90 dX11_turns_31 rfl ?_
      refine v_rI rfl ?_ rfl ?_ ⟨l8 rfl, l8 rfl⟩ dX11_turns_33
      · clear h; simp_all [bi_0, bi_n0, turnsS]
      · rw [show (turnsS (I (m + 1)) xa xb).2 = I (m + 1) from (by clear h; simp_all [bi_0, bi_n0, turnsS])]; exact row_same
    · obtain ⟨y, hy, rfl⟩ := yd_get (bi_n0.mp hq5) h.1 h.2.1
      have hn10 := h.2.1
      refine v_aload_n (n := 18) dX11_turns_17 rfl rfl rfl ?_
      refine v_bipush (n := 20) (v := 76) dX11_turns_18 b_76 rfl ?_
      refine v_iconst (n := 21) (v := 4) dX11_turns_20 c_4 rfl ?_
      refine v_iload_n (n := 22) dX11_turns_21 rfl rfl rfl ?_
      refine v_imul (n := 23) dX11_turns_22 rfl ?_
      refine v_iadd (n := 24) dX11_turns_23 rfl ?_
      refine v_iload_n (n := 25) dX11_turns_24 rfl rfl rfl ?_
      rw [i_y0]
      refine v_cVi (n := 28) (x := (I (m + 1) (76 + 4 * y))) mc_X11_becomes l_X11_134 iv_X11_becomes se_X11_becomes (ci := 10) ⟨by decide, rfl⟩ L.s (k_X11_becomes (u := 76 + 4 * y) L (by omega)) ⟨rfl, rfl⟩ (l8 rfl) ⟨l8 rfl, l8 rfl⟩ rfl rfl (l8 rfl) dX11_turns_25 rfl ?_
      refine v_goto (tgt := 33) dX11_turns_28 (by decide) ?_
      exact v_rI rfl (by rw [turnsS, if_pos (by simp [bi_n0.mp hq5, bi_n0.mp hq14]), nI_clamp (by omega)]) rfl (by rw [turnsS, if_pos (by simp [bi_n0.mp hq5, bi_n0.mp hq14]), nI_clamp (by omega)]) ⟨l8 rfl, l8 rfl⟩ dX11_turns_33

set_option maxRecDepth 100000 in
set_option maxHeartbeats 1000000 in
theorem k_X11_set {ro : Ro} {S : St} {I : In} {xa xb xc : Int32} {m T n l b : Nat} (L : LayM S m) (h : WX (I (m + 1)) T n l b) : Ok mX11_set ro 2 0 0 [.ref m, .int xa, .int xb, .int xc] S I (RI (setS (I (m + 1)) xa xb xc).1 S (row I (m + 1) (setS (I (m + 1)) xa xb xc).2)) := by
  refine ok_of (al := [.ref m, .int xa, .int xb, .int xc]) (by decide) (l8 rfl) rfl ?_
  refine v_aload_n (n := 1) dX11_set_0 rfl rfl rfl ?_
  refine v_iload_n (n := 2) dX11_set_1 rfl rfl rfl ?_
  refine v_cVi (n := 5) (x := (bi (yd (I (m + 1)) xa))) mc_X11_isYard l_X11_114 iv_X11_isYard se_X11_isYard (ci := 10) ⟨by decide, rfl⟩ L.s (k_X11_isYard L) ⟨rfl, rfl⟩ (l8 rfl) ⟨l8 rfl, l8 rfl⟩ rfl rfl (l8 rfl) dX11_set_2 rfl ?_
  refine v_if_eq (n := 8) (tgt := 41) dX11_set_5 (by decide) rfl (fun hq5 => ?_) (fun hq5 => ?_)
  · refine v_ldc (n := 43) k_X11_90 dX11_set_41 rfl ?_
    refine v_rI rfl ?_ rfl ?_ ⟨l8 rfl, l8 rfl⟩ dX11_set_43
    · clear h; simp_all [bi_0, bi_n0, setS]
    · rw [show (setS (I (m + 1)) xa xb xc).2 = I (m + 1) from (by clear h; simp_all [bi_0, bi_n0, setS])]; exact row_same
  · refine v_iload_n (n := 9) dX11_set_8 rfl rfl rfl ?_
    refine v_iconst (n := 10) (v := 1) dX11_set_9 c_1 rfl ?_
    refine v_iconst (n := 11) (v := 2) dX11_set_10 c_2 rfl ?_
    refine v_cSi (n := 14) (x := (bi (inn xb 1 2))) mc_X11_in l_X11_78 sta_X11_in k_X11_in ⟨rfl, rfl⟩ (l8 rfl) ⟨l8 rfl, l8 rfl⟩ rfl rfl (l8 rfl) dX11_set_11 rfl ?_
    refine v_if_eq (n := 17) (tgt := 41) dX11_set_14 (by decide) rfl (fun hq14 => ?_) (fun hq14 => ?_)
    · refine v_ldc (n := 43) k_X11_90 dX11_set_41 rfl ?_
      refine v_rI rfl ?_ rfl ?_ ⟨l8 rfl, l8 rfl⟩ dX11_set_43
      · clear h; simp_all [bi_0, bi_n0, setS]
      · rw [show (setS (I (m + 1)) xa xb xc).2 = I (m + 1) from (by clear h; simp_all [bi_0, bi_n0, setS])]; exact row_same
    · refine v_iload_n (n := 18) dX11_set_17 rfl rfl rfl ?_
      refine v_iload_n (n := 19) dX11_set_18 rfl rfl rfl ?_
      refine v_cSi (n := 22) (x := (bi (inn xc (if xb = 1 then 0 else 1) 999))) mc_X11_isOf l_X11_86 sta_X11_isOf k_X11_isOf ⟨rfl, rfl⟩ (l8 rfl) ⟨l8 rfl, l8 rfl⟩ rfl rfl (l8 rfl) dX11_set_19 rfl ?_
      refine v_if_eq (n := 25) (tgt := 41) dX11_set_22 (by decide) rfl (fun hq22 => ?_) (fun hq22 => ?_)
      · refine v_ldc (n := 43) k_X11_90 dX11_set_41 rfl ?_
        refine v_rI rfl ?_ rfl ?_ ⟨l8 rfl, l8 rfl⟩ dX11_set_43
        · clear h; simp_all [bi_0, bi_n0, setS]
        · rw [show (setS (I (m + 1)) xa xb xc).2 = I (m + 1) from (by clear h; simp_all [bi_0, bi_n0, setS])]; exact row_same
      · obtain ⟨y, hy, rfl⟩ := yd_get (bi_n0.mp hq5) h.1 h.2.1
        have hn10 := h.2.1
        obtain ⟨u, hu1, hu2, rfl⟩ := inn_get1 (a := 2) (c := 1) (bi_n0.mp hq14) (by decide) (by decide)
        refine v_aload_n (n := 26) dX11_set_25 rfl rfl rfl ?_
        refine v_bipush (n := 28) (v := 76) dX11_set_26 b_76 rfl ?_
        refine v_iconst (n := 29) (v := 4) dX11_set_28 c_4 rfl ?_
        refine v_iload_n (n := 30) dX11_set_29 rfl rfl rfl ?_
        refine v_imul (n := 31) dX11_set_30 rfl ?_
        refine v_iadd (n := 32) dX11_set_31 rfl ?_
        refine v_iload_n (n := 33) dX11_set_32 rfl rfl rfl ?_
        refine v_iadd (n := 34) dX11_set_33 rfl ?_
        refine v_iload_n (n := 35) dX11_set_34 rfl rfl rfl ?_
        rw [i_of]
        refine v_cVi (n := 38) (x := (I (m + 1) (76 + 4 * y + u))) mc_X11_becomes l_X11_134 iv_X11_becomes se_X11_becomes (ci := 10) ⟨by decide, rfl⟩ L.s (k_X11_becomes (u := 76 + 4 * y + u) L (by omega)) ⟨rfl, rfl⟩ (l8 rfl) ⟨l8 rfl, l8 rfl⟩ rfl rfl (l8 rfl) dX11_set_35 rfl ?_
        refine v_goto (tgt := 43) dX11_set_38 (by decide) ?_
        have hg : (yd (I (m + 1)) (nI y) && inn (nI u) 1 2 && inn xc (if nI u = 1 then 0 else 1) 999) = true := by simp only [Bool.and_eq_true]; exact ⟨⟨bi_n0.mp hq5, bi_n0.mp hq14⟩, bi_n0.mp hq22⟩
        exact v_rI rfl (by rw [setS, if_pos hg, nI_clamp (by omega), nI_clamp (by omega)]) rfl (by rw [setS, if_pos hg, nI_clamp (by omega), nI_clamp (by omega)]) ⟨l8 rfl, l8 rfl⟩ dX11_set_43

theorem i_3 (u : Nat) : 3 + nI u = nI (3 + u) := by rw [show (3 : Int32) = nI 3 from rfl, nI_add]
set_option maxRecDepth 100000 in
set_option maxHeartbeats 1000000 in
theorem k_X11_rule {ro : Ro} {S : St} {I : In} {xa xb : Int32} {m T n l b : Nat} (L : LayM S m) (h : WX (I (m + 1)) T n l b) : Ok mX11_rule ro 1 0 0 [.ref m, .int xa, .int xb] S I (RI (ruleS (I (m + 1)) xa xb).1 S (row I (m + 1) (ruleS (I (m + 1)) xa xb).2)) := by
  refine ok_of (al := [.ref m, .int xa, .int xb]) (by decide) (l8 rfl) rfl ?_
  refine v_iload_n (n := 1) dX11_rule_0 rfl rfl rfl ?_
  refine v_iconst (n := 2) (v := 0) dX11_rule_1 c_0 rfl ?_
  refine v_iconst (n := 3) (v := 2) dX11_rule_2 c_2 rfl ?_
  refine v_cSi (n := 6) (x := (bi (inn xa 0 2))) mc_X11_in l_X11_78 sta_X11_in k_X11_in ⟨rfl, rfl⟩ (l8 rfl) ⟨l8 rfl, l8 rfl⟩ rfl rfl (l8 rfl) dX11_rule_3 rfl ?_
  refine v_if_eq (n := 9) (tgt := 50) dX11_rule_6 (by decide) rfl (fun hq6 => ?_) (fun hq6 => ?_)
  · refine v_ldc (n := 52) k_X11_90 dX11_rule_50 rfl ?_
    refine v_rI rfl ?_ rfl ?_ ⟨l8 rfl, l8 rfl⟩ dX11_rule_52
    · clear h; simp_all [bi_0, bi_n0, ruleS]
    · rw [show (ruleS (I (m + 1)) xa xb).2 = I (m + 1) from (by clear h; simp_all [bi_0, bi_n0, ruleS])]; exact row_same
  · refine v_iload_n (n := 10) dX11_rule_9 rfl rfl rfl ?_
    refine v_iload_n (n := 11) dX11_rule_10 rfl rfl rfl ?_
    refine v_iconst (n := 12) (v := 2) dX11_rule_11 c_2 rfl ?_
    refine v_icmp_ne (n := 15) (tgt := 20) dX11_rule_12 (by decide) rfl (fun hq12 => ?_) (fun hq12 => ?_)
    · refine v_iconst (n := 21) (v := 0) dX11_rule_20 c_0 rfl ?_
      refine v_iload_n (n := 22) dX11_rule_21 rfl rfl rfl ?_
      refine v_iconst (n := 23) (v := 2) dX11_rule_22 c_2 rfl ?_
      refine v_icmp_ne (n := 26) (tgt := 31) dX11_rule_23 (by decide) rfl (fun hq23 => ?_) (fun hq23 => ?_)
      · refine v_bipush (n := 33) (v := 99) dX11_rule_31 b_99 rfl ?_
        refine v_cSi (n := 36) (x := (bi (inn xb 0 99))) mc_X11_in l_X11_78 sta_X11_in k_X11_in ⟨rfl, rfl⟩ (l8 rfl) ⟨l8 rfl, l8 rfl⟩ rfl rfl (l8 rfl) dX11_rule_33 rfl ?_
        refine v_if_eq (n := 39) (tgt := 50) dX11_rule_36 (by decide) rfl (fun hq36 => ?_) (fun hq36 => ?_)
        · refine v_ldc (n := 52) k_X11_90 dX11_rule_50 rfl ?_
          refine v_rI rfl ?_ rfl ?_ ⟨l8 rfl, l8 rfl⟩ dX11_rule_52
          · clear h; simp_all [bi_0, bi_n0, ruleS]
          · rw [show (ruleS (I (m + 1)) xa xb).2 = I (m + 1) from (by clear h; simp_all [bi_0, bi_n0, ruleS])]; exact row_same
        · obtain ⟨u, hu2, rfl⟩ := inn_get (a := 2) (bi_n0.mp hq6) (by decide)
          refine v_aload_n (n := 40) dX11_rule_39 rfl rfl rfl ?_
          refine v_iconst (n := 41) (v := 3) dX11_rule_40 c_3 rfl ?_
          refine v_iload_n (n := 42) dX11_rule_41 rfl rfl rfl ?_
          refine v_iadd (n := 43) dX11_rule_42 rfl ?_
          refine v_iload_n (n := 44) dX11_rule_43 rfl rfl rfl ?_
          rw [i_3]
          refine v_cVi (n := 47) (x := (I (m + 1) (3 + u))) mc_X11_becomes l_X11_134 iv_X11_becomes se_X11_becomes (ci := 10) ⟨by decide, rfl⟩ L.s (k_X11_becomes (u := 3 + u) L (by omega)) ⟨rfl, rfl⟩ (l8 rfl) ⟨l8 rfl, l8 rfl⟩ rfl rfl (l8 rfl) dX11_rule_44 rfl ?_
          refine v_goto (tgt := 52) dX11_rule_47 (by decide) ?_
          have hg : (inn (nI u) 0 2 && inn xb (if nI u = 2 then -9 else 0) (if nI u = 2 then 9 else 99)) = true := by clear h; simp_all [bi_n0]
          exact v_rI rfl (by rw [ruleS, if_pos hg, nI_clamp (by omega)]) rfl (by rw [ruleS, if_pos hg, nI_clamp (by omega)]) ⟨l8 rfl, l8 rfl⟩ dX11_rule_52
      · refine v_bipush (n := 28) (v := 9) dX11_rule_26 b_9 rfl ?_
        refine v_goto (tgt := 33) dX11_rule_28 (by decide) ?_
        refine v_cSi (n := 36) (x := (bi (inn xb 0 9))) mc_X11_in l_X11_78 sta_X11_in k_X11_in ⟨rfl, rfl⟩ (l8 rfl) ⟨l8 rfl, l8 rfl⟩ rfl rfl (l8 rfl) dX11_rule_33 rfl ?_
        refine v_if_eq (n := 39) (tgt := 50) dX11_rule_36 (by decide) rfl (fun hq36 => ?_) (fun hq36 => ?_)
        · refine v_ldc (n := 52) k_X11_90 dX11_rule_50 rfl ?_
          refine v_rI rfl ?_ rfl ?_ ⟨l8 rfl, l8 rfl⟩ dX11_rule_52
          · clear h; simp_all [bi_0, bi_n0, ruleS]
          · rw [show (ruleS (I (m + 1)) xa xb).2 = I (m + 1) from (by clear h; simp_all [bi_0, bi_n0, ruleS])]; exact row_same
        · obtain ⟨u, hu2, rfl⟩ := inn_get (a := 2) (bi_n0.mp hq6) (by decide)
          refine v_aload_n (n := 40) dX11_rule_39 rfl rfl rfl ?_
          refine v_iconst (n := 41) (v := 3) dX11_rule_40 c_3 rfl ?_
          refine v_iload_n (n := 42) dX11_rule_41 rfl rfl rfl ?_
          refine v_iadd (n := 43) dX11_rule_42 rfl ?_
          refine v_iload_n (n := 44) dX11_rule_43 rfl rfl rfl ?_
          rw [i_3]
          refine v_cVi (n := 47) (x := (I (m + 1) (3 + u))) mc_X11_becomes l_X11_134 iv_X11_becomes se_X11_becomes (ci := 10) ⟨by decide, rfl⟩ L.s (k_X11_becomes (u := 3 + u) L (by omega)) ⟨rfl, rfl⟩ (l8 rfl) ⟨l8 rfl, l8 rfl⟩ rfl rfl (l8 rfl) dX11_rule_44 rfl ?_
          refine v_goto (tgt := 52) dX11_rule_47 (by decide) ?_
          have hg : (inn (nI u) 0 2 && inn xb (if nI u = 2 then -9 else 0) (if nI u = 2 then 9 else 99)) = true := by clear h; simp_all [bi_n0]
          exact v_rI rfl (by rw [ruleS, if_pos hg, nI_clamp (by omega)]) rfl (by rw [ruleS, if_pos hg, nI_clamp (by omega)]) ⟨l8 rfl, l8 rfl⟩ dX11_rule_52
    · refine v_bipush (n := 17) (v := (-9)) dX11_rule_15 b_m9 rfl ?_
      refine v_goto (tgt := 21) dX11_rule_17 (by decide) ?_
      refine v_iload_n (n := 22) dX11_rule_21 rfl rfl rfl ?_
      refine v_iconst (n := 23) (v := 2) dX11_rule_22 c_2 rfl ?_
      refine v_icmp_ne (n := 26) (tgt := 31) dX11_rule_23 (by decide) rfl (fun hq23 => ?_) (fun hq23 => ?_)
      · refine v_bipush (n := 33) (v := 99) dX11_rule_31 b_99 rfl ?_
        refine v_cSi (n := 36) (x := (bi (inn xb (-9) 99))) mc_X11_in l_X11_78 sta_X11_in k_X11_in ⟨rfl, rfl⟩ (l8 rfl) ⟨l8 rfl, l8 rfl⟩ rfl rfl (l8 rfl) dX11_rule_33 rfl ?_
        refine v_if_eq (n := 39) (tgt := 50) dX11_rule_36 (by decide) rfl (fun hq36 => ?_) (fun hq36 => ?_)
        · refine v_ldc (n := 52) k_X11_90 dX11_rule_50 rfl ?_
          refine v_rI rfl ?_ rfl ?_ ⟨l8 rfl, l8 rfl⟩ dX11_rule_52
          · clear h; simp_all [bi_0, bi_n0, ruleS]
          · rw [show (ruleS (I (m + 1)) xa xb).2 = I (m + 1) from (by clear h; simp_all [bi_0, bi_n0, ruleS])]; exact row_same
        · obtain ⟨u, hu2, rfl⟩ := inn_get (a := 2) (bi_n0.mp hq6) (by decide)
          refine v_aload_n (n := 40) dX11_rule_39 rfl rfl rfl ?_
          refine v_iconst (n := 41) (v := 3) dX11_rule_40 c_3 rfl ?_
          refine v_iload_n (n := 42) dX11_rule_41 rfl rfl rfl ?_
          refine v_iadd (n := 43) dX11_rule_42 rfl ?_
          refine v_iload_n (n := 44) dX11_rule_43 rfl rfl rfl ?_
          rw [i_3]
          refine v_cVi (n := 47) (x := (I (m + 1) (3 + u))) mc_X11_becomes l_X11_134 iv_X11_becomes se_X11_becomes (ci := 10) ⟨by decide, rfl⟩ L.s (k_X11_becomes (u := 3 + u) L (by omega)) ⟨rfl, rfl⟩ (l8 rfl) ⟨l8 rfl, l8 rfl⟩ rfl rfl (l8 rfl) dX11_rule_44 rfl ?_
          refine v_goto (tgt := 52) dX11_rule_47 (by decide) ?_
          have hg : (inn (nI u) 0 2 && inn xb (if nI u = 2 then -9 else 0) (if nI u = 2 then 9 else 99)) = true := by clear h; simp_all [bi_n0]
          exact v_rI rfl (by rw [ruleS, if_pos hg, nI_clamp (by omega)]) rfl (by rw [ruleS, if_pos hg, nI_clamp (by omega)]) ⟨l8 rfl, l8 rfl⟩ dX11_rule_52
      · refine v_bipush (n := 28) (v := 9) dX11_rule_26 b_9 rfl ?_
        refine v_goto (tgt := 33) dX11_rule_28 (by decide) ?_
        refine v_cSi (n := 36) (x := (bi (inn xb (-9) 9))) mc_X11_in l_X11_78 sta_X11_in k_X11_in ⟨rfl, rfl⟩ (l8 rfl) ⟨l8 rfl, l8 rfl⟩ rfl rfl (l8 rfl) dX11_rule_33 rfl ?_
        refine v_if_eq (n := 39) (tgt := 50) dX11_rule_36 (by decide) rfl (fun hq36 => ?_) (fun hq36 => ?_)
        · refine v_ldc (n := 52) k_X11_90 dX11_rule_50 rfl ?_
          refine v_rI rfl ?_ rfl ?_ ⟨l8 rfl, l8 rfl⟩ dX11_rule_52
          · clear h; simp_all [bi_0, bi_n0, ruleS]
          · rw [show (ruleS (I (m + 1)) xa xb).2 = I (m + 1) from (by clear h; simp_all [bi_0, bi_n0, ruleS])]; exact row_same
        · obtain ⟨u, hu2, rfl⟩ := inn_get (a := 2) (bi_n0.mp hq6) (by decide)
          refine v_aload_n (n := 40) dX11_rule_39 rfl rfl rfl ?_
          refine v_iconst (n := 41) (v := 3) dX11_rule_40 c_3 rfl ?_
          refine v_iload_n (n := 42) dX11_rule_41 rfl rfl rfl ?_
          refine v_iadd (n := 43) dX11_rule_42 rfl ?_
          refine v_iload_n (n := 44) dX11_rule_43 rfl rfl rfl ?_
          rw [i_3]
          refine v_cVi (n := 47) (x := (I (m + 1) (3 + u))) mc_X11_becomes l_X11_134 iv_X11_becomes se_X11_becomes (ci := 10) ⟨by decide, rfl⟩ L.s (k_X11_becomes (u := 3 + u) L (by omega)) ⟨rfl, rfl⟩ (l8 rfl) ⟨l8 rfl, l8 rfl⟩ rfl rfl (l8 rfl) dX11_rule_44 rfl ?_
          refine v_goto (tgt := 52) dX11_rule_47 (by decide) ?_
          have hg : (inn (nI u) 0 2 && inn xb (if nI u = 2 then -9 else 0) (if nI u = 2 then 9 else 99)) = true := by clear h; simp_all [bi_n0]
          exact v_rI rfl (by rw [ruleS, if_pos hg, nI_clamp (by omega)]) rfl (by rw [ruleS, if_pos hg, nI_clamp (by omega)]) ⟨l8 rfl, l8 rfl⟩ dX11_rule_52

theorem i_ly (y u : Nat) : 16 + 2 * nI y + nI u = nI (16 + 2 * y + u) := by rw [i_la, nI_add]
theorem ly_get {X : Ar} {a : Int32} {l : Nat} (h : inn a 0 (X 7 - 1) = true) (h1 : X 7 = nI l) (hn : l ≤ 30) : ∃ y, y < l ∧ a = nI y := by
  rw [h1] at h
  rcases Nat.eq_zero_or_pos l with q | q
  · subst q
    simp only [inn, Bool.and_eq_true, Bool.not_eq_true', decide_eq_false_iff_not] at h
    exact absurd (by
      have := h.1
      have h2 := h.2
      rw [Int32.lt_iff_toInt_lt] at this h2
      have e1 : (0 : Int32).toInt = 0 := rfl
      have e2 : (nI 0 - 1).toInt = -1 := by decide
      omega) id
  · rw [nI_p1 q] at h
    obtain ⟨k, hk, rfl⟩ := inn_get h (by omega)
    exact ⟨k, by omega, rfl⟩
set_option maxRecDepth 100000 in
set_option maxHeartbeats 1000000 in
theorem k_X11_layer {ro : Ro} {S : St} {I : In} {xa xb : Int32} {m T n l b : Nat} (L : LayM S m) (h : WX (I (m + 1)) T n l b) : Ok mX11_layer ro 1 0 0 [.ref m, .int xa, .int xb] S I (RI (layerS (I (m + 1)) xa xb) S I) := by
  refine ok_of (al := [.ref m, .int xa, .int xb]) (by decide) (l8 rfl) rfl ?_
  refine v_iload_n (n := 1) dX11_layer_0 rfl rfl rfl ?_
  refine v_iconst (n := 2) (v := 0) dX11_layer_1 c_0 rfl ?_
  refine v_aload_n (n := 3) dX11_layer_2 rfl rfl rfl ?_
  refine v_getR (n := 6) f_X11_9 rfl L.s L.g0 dX11_layer_3 rfl ?_
  refine v_bipush (n := 8) (v := 7) dX11_layer_6 b_7 rfl ?_
  refine v_iald (n := 9) (j := 7) L.c0 (ix_lit rfl rfl rfl) dX11_layer_8 rfl ?_
  refine v_iconst (n := 10) (v := 1) dX11_layer_9 c_1 rfl ?_
  refine v_isub (n := 11) dX11_layer_10 rfl ?_
  refine v_cSi (n := 14) (x := (bi (inn xa 0 ((I (m + 1) 7) - 1)))) mc_X11_in l_X11_78 sta_X11_in k_X11_in ⟨rfl, rfl⟩ (l8 rfl) ⟨l8 rfl, l8 rfl⟩ rfl rfl (l8 rfl) dX11_layer_11 rfl ?_
  refine v_if_eq (n := 17) (tgt := 42) dX11_layer_14 (by decide) rfl (fun hq14 => ?_) (fun hq14 => ?_)
  · refine v_ldc (n := 44) k_X11_90 dX11_layer_42 rfl ?_
    exact v_rI rfl (by clear h; simp_all [bi_0, bi_n0, layerS]) rfl rfl ⟨l8 rfl, l8 rfl⟩ dX11_layer_44
  · refine v_iload_n (n := 18) dX11_layer_17 rfl rfl rfl ?_
    refine v_iconst (n := 19) (v := 0) dX11_layer_18 c_0 rfl ?_
    refine v_iconst (n := 20) (v := 1) dX11_layer_19 c_1 rfl ?_
    refine v_cSi (n := 23) (x := (bi (inn xb 0 1))) mc_X11_in l_X11_78 sta_X11_in k_X11_in ⟨rfl, rfl⟩ (l8 rfl) ⟨l8 rfl, l8 rfl⟩ rfl rfl (l8 rfl) dX11_layer_20 rfl ?_
    refine v_if_eq (n := 26) (tgt := 42) dX11_layer_23 (by decide) rfl (fun hq23 => ?_) (fun hq23 => ?_)
    · refine v_ldc (n := 44) k_X11_90 dX11_layer_42 rfl ?_
      exact v_rI rfl (by clear h; simp_all [bi_0, bi_n0, layerS]) rfl rfl ⟨l8 rfl, l8 rfl⟩ dX11_layer_44
    · obtain ⟨u, hu2, rfl⟩ := inn_get (a := 1) (bi_n0.mp hq23) (by decide)
      obtain ⟨y, hy, rfl⟩ := ly_get (bi_n0.mp hq14) h.2.2.1 h.2.2.2.1
      have hl30 := h.2.2.2.1
      refine v_aload_n (n := 27) dX11_layer_26 rfl rfl rfl ?_
      refine v_getR (n := 30) f_X11_9 rfl L.s L.g0 dX11_layer_27 rfl ?_
      refine v_bipush (n := 32) (v := 16) dX11_layer_30 b_16 rfl ?_
      refine v_iconst (n := 33) (v := 2) dX11_layer_32 c_2 rfl ?_
      refine v_iload_n (n := 34) dX11_layer_33 rfl rfl rfl ?_
      refine v_imul (n := 35) dX11_layer_34 rfl ?_
      refine v_iadd (n := 36) dX11_layer_35 rfl ?_
      refine v_iload_n (n := 37) dX11_layer_36 rfl rfl rfl ?_
      refine v_iadd (n := 38) dX11_layer_37 rfl ?_
      refine v_iald (n := 39) (j := 16 + 2 * y + u) L.c0 (ix_of (i_ly y u) (by omega) (by decide)) dX11_layer_38 rfl ?_
      refine v_goto (tgt := 44) dX11_layer_39 (by decide) ?_
      exact v_rI rfl (by rw [layerS, if_pos (by simp only [Bool.and_eq_true]; exact ⟨bi_n0.mp hq14, bi_n0.mp hq23⟩), nI_clamp (by omega), nI_clamp (by omega)]) rfl rfl ⟨l8 rfl, l8 rfl⟩ dX11_layer_44

set_option maxRecDepth 100000 in
set_option maxHeartbeats 1000000 in
theorem k_X11_lose {ro : Ro} {S : St} {I : In} {xa : Int32} {m T n l b : Nat} (L : LayM S m) (h : WX (I (m + 1)) T n l b) : Ok mX11_lose ro 2 0 0 [.ref m, .int xa] S I (RI (loseS (I (m + 1)) xa).1 S (row I (m + 1) (loseS (I (m + 1)) xa).2)) := by
  refine ok_of (al := [.ref m, .int xa]) (by decide) (l8 rfl) rfl ?_
  refine v_iload_n (n := 1) dX11_lose_0 rfl rfl rfl ?_
  refine v_cSi (n := 4) (x := (bi (inn xa 0 5))) mc_X11_isThing l_X11_148 sta_X11_isThing k_X11_isThing ⟨rfl, rfl⟩ (l8 rfl) ⟨l8 rfl, l8 rfl⟩ rfl rfl (l8 rfl) dX11_lose_1 rfl ?_
  refine v_if_ne (n := 7) (tgt := 10) dX11_lose_4 (by decide) rfl (fun hq4 => ?_) (fun hq4 => ?_)
  · obtain ⟨y, hy, rfl⟩ := inn_get (a := 5) (bi_n0.mp hq4) (by decide)
    refine v_aload_n (n := 11) dX11_lose_10 rfl rfl rfl ?_
    refine v_getR (n := 14) f_X11_9 rfl L.s L.g0 dX11_lose_11 rfl ?_
    refine v_bipush (n := 16) (v := 7) dX11_lose_14 b_7 rfl ?_
    refine v_iald (n := 17) (j := 7) L.c0 (ix_lit rfl rfl rfl) dX11_lose_16 rfl ?_
    refine v_if_ne (n := 20) (tgt := 23) dX11_lose_17 (by decide) rfl (fun hq17 => ?_) (fun hq17 => ?_)
    · refine v_aload_n (n := 24) dX11_lose_23 rfl rfl rfl ?_
      refine v_getR (n := 27) f_X11_9 rfl L.s L.g0 dX11_lose_24 rfl ?_
      refine v_bipush (n := 29) (v := 10) dX11_lose_27 b_10 rfl ?_
      refine v_iload_n (n := 30) dX11_lose_29 rfl rfl rfl ?_
      refine v_iadd (n := 31) dX11_lose_30 rfl ?_
      refine v_aload_n (n := 32) dX11_lose_31 rfl rfl rfl ?_
      refine v_getR (n := 35) f_X11_9 rfl L.s L.g0 dX11_lose_32 rfl ?_
      refine v_bipush (n := 37) (v := 7) dX11_lose_35 b_7 rfl ?_
      refine v_iald (n := 38) (j := 7) L.c0 (ix_lit rfl rfl rfl) dX11_lose_37 rfl ?_
      refine v_iconst (n := 39) (v := 1) dX11_lose_38 c_1 rfl ?_
      refine v_isub (n := 40) dX11_lose_39 rfl ?_
      refine v_iast (n := 41) (j := 10 + y) L.c0 (ix_of (i_th y) (by omega) (by decide)) dX11_lose_40 rfl ?_
      refine v_aload_n (n := 42) dX11_lose_41 rfl rfl rfl ?_
      refine v_getR (n := 45) f_X11_9 rfl L.s L.g0 dX11_lose_42 rfl ?_
      refine v_bipush (n := 47) (v := 7) dX11_lose_45 b_7 rfl ?_
      refine v_iald (n := 48) (j := 7) L.c0 (ix_lit rfl rfl rfl) dX11_lose_47 rfl ?_
      refine v_iconst (n := 49) (v := 1) dX11_lose_48 c_1 rfl ?_
      refine v_isub (n := 50) dX11_lose_49 rfl ?_
      exact v_rI rfl (by rw [loseS, if_pos (bi_n0.mp hq4), if_neg hq17, sI_k (by omega)]) rfl (by rw [loseS, if_pos (bi_n0.mp hq4), if_neg hq17, row_set, nI_clamp (by omega)]) ⟨l8 rfl, l8 rfl⟩ dX11_lose_50
    · refine v_ldc (n := 22) k_X11_151 dX11_lose_20 rfl ?_
      exact v_rI rfl (by rw [loseS, if_pos (bi_n0.mp hq4), if_pos hq17]) rfl (by rw [loseS, if_pos (bi_n0.mp hq4), if_pos hq17]; exact row_same) ⟨l8 rfl, l8 rfl⟩ dX11_lose_22
  · refine v_ldc (n := 9) k_X11_90 dX11_lose_7 rfl ?_
    refine v_rI rfl ?_ rfl ?_ ⟨l8 rfl, l8 rfl⟩ dX11_lose_9
    · clear h; simp_all [bi_0, bi_n0, loseS]
    · rw [show (loseS (I (m + 1)) xa).2 = I (m + 1) from (by clear h; simp_all [bi_0, bi_n0, loseS])]; exact row_same

set_option maxRecDepth 100000 in
set_option maxHeartbeats 1000000 in
theorem k_X11_find {ro : Ro} {S : St} {I : In} {xa : Int32} {m T n l b : Nat} (L : LayM S m) (h : WX (I (m + 1)) T n l b) : Ok mX11_find ro 2 0 0 [.ref m, .int xa] S I (RI (findS (I (m + 1)) xa).1 S (row I (m + 1) (findS (I (m + 1)) xa).2)) := by
  refine ok_of (al := [.ref m, .int xa]) (by decide) (l8 rfl) rfl ?_
  refine v_iload_n (n := 1) dX11_find_0 rfl rfl rfl ?_
  refine v_cSi (n := 4) (x := (bi (inn xa 0 5))) mc_X11_isThing l_X11_148 sta_X11_isThing k_X11_isThing ⟨rfl, rfl⟩ (l8 rfl) ⟨l8 rfl, l8 rfl⟩ rfl rfl (l8 rfl) dX11_find_1 rfl ?_
  refine v_if_ne (n := 7) (tgt := 10) dX11_find_4 (by decide) rfl (fun hq4 => ?_) (fun hq4 => ?_)
  · obtain ⟨y, hy, rfl⟩ := inn_get (a := 5) (bi_n0.mp hq4) (by decide)
    refine v_aload_n (n := 11) dX11_find_10 rfl rfl rfl ?_
    refine v_bipush (n := 13) (v := 10) dX11_find_11 b_10 rfl ?_
    refine v_iload_n (n := 14) dX11_find_13 rfl rfl rfl ?_
    refine v_iadd (n := 15) dX11_find_14 rfl ?_
    refine v_iconst (n := 16) (v := (-1)) dX11_find_15 c_m1 rfl ?_
    rw [i_th]
    refine v_cVi (n := 19) (x := (I (m + 1) (10 + y))) mc_X11_becomes l_X11_134 iv_X11_becomes se_X11_becomes (ci := 10) ⟨by decide, rfl⟩ L.s (k_X11_becomes (u := 10 + y) L (by omega)) ⟨rfl, rfl⟩ (l8 rfl) ⟨l8 rfl, l8 rfl⟩ rfl rfl (l8 rfl) dX11_find_16 rfl ?_
    refine v_if_ge (n := 22) (tgt := 26) dX11_find_19 (by decide) rfl (fun hq19 => ?_) (fun hq19 => ?_)
    · refine v_iconst (n := 27) (v := 1) dX11_find_26 c_1 rfl ?_
      exact v_rI rfl (by rw [findS, if_pos (bi_n0.mp hq4), nI_clamp (by omega)]; clear h; simp_all) rfl (by rw [findS, if_pos (bi_n0.mp hq4), nI_clamp (by omega)]) ⟨l8 rfl, l8 rfl⟩ dX11_find_27
    · refine v_iconst (n := 23) (v := 0) dX11_find_22 c_0 rfl ?_
      refine v_goto (tgt := 27) dX11_find_23 (by decide) ?_
      exact v_rI rfl (by rw [findS, if_pos (bi_n0.mp hq4), nI_clamp (by omega)]; clear h; simp_all) rfl (by rw [findS, if_pos (bi_n0.mp hq4), nI_clamp (by omega)]) ⟨l8 rfl, l8 rfl⟩ dX11_find_27
  · refine v_ldc (n := 9) k_X11_90 dX11_find_7 rfl ?_
    refine v_rI rfl ?_ rfl ?_ ⟨l8 rfl, l8 rfl⟩ dX11_find_9
    · clear h; simp_all [bi_0, bi_n0, findS]
    · rw [show (findS (I (m + 1)) xa).2 = I (m + 1) from (by clear h; simp_all [bi_0, bi_n0, findS])]; exact row_same

set_option maxRecDepth 100000 in
set_option maxHeartbeats 1000000 in
theorem k_X11_thing {ro : Ro} {S : St} {I : In} {xa : Int32} {m T n l b : Nat} (L : LayM S m) (h : WX (I (m + 1)) T n l b) : Ok mX11_thing ro 2 0 0 [.ref m, .int xa] S I (RI (thingS (I (m + 1)) xa) S I) := by
  refine ok_of (al := [.ref m, .int xa]) (by decide) (l8 rfl) rfl ?_
  refine v_iload_n (n := 1) dX11_thing_0 rfl rfl rfl ?_
  refine v_cSi (n := 4) (x := (bi (inn xa 0 5))) mc_X11_isThing l_X11_148 sta_X11_isThing k_X11_isThing ⟨rfl, rfl⟩ (l8 rfl) ⟨l8 rfl, l8 rfl⟩ rfl rfl (l8 rfl) dX11_thing_1 rfl ?_
  refine v_if_ne (n := 7) (tgt := 12) dX11_thing_4 (by decide) rfl (fun hq4 => ?_) (fun hq4 => ?_)
  · obtain ⟨y, hy, rfl⟩ := inn_get (a := 5) (bi_n0.mp hq4) (by decide)
    refine v_aload_n (n := 13) dX11_thing_12 rfl rfl rfl ?_
    refine v_getR (n := 16) f_X11_9 rfl L.s L.g0 dX11_thing_13 rfl ?_
    refine v_bipush (n := 18) (v := 10) dX11_thing_16 b_10 rfl ?_
    refine v_iload_n (n := 19) dX11_thing_18 rfl rfl rfl ?_
    refine v_iadd (n := 20) dX11_thing_19 rfl ?_
    refine v_iald (n := 21) (j := 10 + y) L.c0 (ix_of (i_th y) (by omega) (by decide)) dX11_thing_20 rfl ?_
    refine v_if_ge (n := 24) (tgt := 29) dX11_thing_21 (by decide) rfl (fun hq21 => ?_) (fun hq21 => ?_)
    · refine v_aload_n (n := 30) dX11_thing_29 rfl rfl rfl ?_
      refine v_getR (n := 33) f_X11_9 rfl L.s L.g0 dX11_thing_30 rfl ?_
      refine v_bipush (n := 35) (v := 10) dX11_thing_33 b_10 rfl ?_
      refine v_iload_n (n := 36) dX11_thing_35 rfl rfl rfl ?_
      refine v_iadd (n := 37) dX11_thing_36 rfl ?_
      refine v_iald (n := 38) (j := 10 + y) L.c0 (ix_of (i_th y) (by omega) (by decide)) dX11_thing_37 rfl ?_
      exact v_rI rfl (by rw [thingS, if_pos (bi_n0.mp hq4), nI_clamp (by omega), if_pos hq21]) rfl rfl ⟨l8 rfl, l8 rfl⟩ dX11_thing_38
    · refine v_ldc (n := 26) k_X11_152 dX11_thing_24 rfl ?_
      refine v_goto (tgt := 38) dX11_thing_26 (by decide) ?_
      exact v_rI rfl (by rw [thingS, if_pos (bi_n0.mp hq4), nI_clamp (by omega), if_neg hq21]) rfl rfl ⟨l8 rfl, l8 rfl⟩ dX11_thing_38
  · refine v_ldc (n := 9) k_X11_90 dX11_thing_7 rfl ?_
    refine v_goto (tgt := 38) dX11_thing_9 (by decide) ?_
    exact v_rI rfl (by clear h; simp_all [bi_0, bi_n0, thingS]) rfl rfl ⟨l8 rfl, l8 rfl⟩ dX11_thing_38

