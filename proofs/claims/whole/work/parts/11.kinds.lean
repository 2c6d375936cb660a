def kHas (k : Int32) : Bool := !decide (k < 0) && !decide (5 < k)
set_option maxRecDepth 100000 in
set_option maxHeartbeats 4000000 in
theorem k_X1_has {ro : Ro} {S : St} {I : In} {x : Int32} : Ok mX1_has ro 0 0 0 [.int x] S I (RI (bi (kHas x)) S I) := by
  refine ok_of (al := [.int x]) (by decide) (l8 rfl) rfl ?_
  refine v_iload_n (n := 1) dX1_has_0 rfl rfl rfl ?_
  refine v_if_lt (n := 4) (tgt := 13) dX1_has_1 (by decide) rfl (fun hq1 => ?_) (fun hq1 => ?_)
  · refine v_iconst (n := 14) (v := 0) dX1_has_13 c_0 rfl ?_
    exact v_rZ rfl (by simp [kHas, bi, *]) rfl rfl ⟨l8 rfl, l8 rfl⟩ dX1_has_14
  · refine v_iload_n (n := 5) dX1_has_4 rfl rfl rfl ?_
    refine v_iconst (n := 6) (v := 5) dX1_has_5 c_5 rfl ?_
    refine v_icmp_gt (n := 9) (tgt := 13) dX1_has_6 (by decide) rfl (fun hq6 => ?_) (fun hq6 => ?_)
    · refine v_iconst (n := 14) (v := 0) dX1_has_13 c_0 rfl ?_
      exact v_rZ rfl (by simp [kHas, bi, *]) rfl rfl ⟨l8 rfl, l8 rfl⟩ dX1_has_14
    · refine v_iconst (n := 10) (v := 1) dX1_has_9 c_1 rfl ?_
      refine v_goto (tgt := 14) dX1_has_10 (by decide) ?_
      exact v_rZ rfl (by simp [kHas, bi, *]) rfl rfl ⟨l8 rfl, l8 rfl⟩ dX1_has_14

def kGift (k pl sn : Int32) : Int32 := if k = 1 ∨ k = 3 then pl / 2 else if k = 2 then mn sn (pl + 10) else if k = 4 then mn sn (2 * mn sn (pl + 10)) else if k = 5 then 0 else pl
set_option maxRecDepth 100000 in
set_option maxHeartbeats 4000000 in
theorem k_X1_gift {ro : Ro} {S : St} {I : In} {x y w : Int32} : Ok mX1_gift ro 1 0 0 [.int x, .int y, .int w] S I (RI (kGift x y w) S I) := by
  refine ok_of (al := [.int x, .int y, .int w, JJ]) (by decide) (l8 rfl) rfl ?_
  refine v_iload_n (n := 1) dX1_gift_0 rfl rfl rfl ?_
  refine v_iload_n (n := 2) dX1_gift_1 rfl rfl rfl ?_
  refine v_bipush (n := 4) (v := 10) dX1_gift_2 b_10 rfl ?_
  refine v_iadd (n := 5) dX1_gift_4 rfl ?_
  refine v_min (n := 8) l_X1_19 min_sta ini_J9 min_code ⟨rfl, rfl⟩ ⟨l8 rfl, l8 rfl⟩ (l8 rfl) dX1_gift_5 rfl ?_
  refine v_istore_n (n := 9) (al' := [.int x, .int y, .int w, .int (mn w (y + 10))]) dX1_gift_8 rfl rfl rfl rfl ?_
  refine v_iload_n (n := 10) dX1_gift_9 rfl rfl rfl ?_
  by_cases hw10_0 : x = 1
  · refine v_table (tgt := 44) (off := 34) dX1_gift_10 (by rw [hw10_0, t_1]; decide) (by rw [hw10_0, t_1]; rfl) (by decide) ?_
    refine v_iload_n (n := 45) dX1_gift_44 rfl rfl rfl ?_
    refine v_iconst (n := 46) (v := 2) dX1_gift_45 c_2 rfl ?_
    refine v_idiv (n := 47) dX1_gift_46 (by decide) rfl ?_
    exact v_rI rfl (by simp [kGift, *]) rfl rfl ⟨l8 rfl, l8 rfl⟩ dX1_gift_47
  by_cases hw10_1 : x = 2
  · refine v_table (tgt := 48) (off := 38) dX1_gift_10 (by rw [hw10_1, t_2]; decide) (by rw [hw10_1, t_2]; rfl) (by decide) ?_
    refine v_iload_n (n := 49) dX1_gift_48 rfl rfl rfl ?_
    exact v_rI rfl (by simp [kGift, *]) rfl rfl ⟨l8 rfl, l8 rfl⟩ dX1_gift_49
  by_cases hw10_2 : x = 3
  · refine v_table (tgt := 44) (off := 34) dX1_gift_10 (by rw [hw10_2, t_3]; decide) (by rw [hw10_2, t_3]; rfl) (by decide) ?_
    refine v_iload_n (n := 45) dX1_gift_44 rfl rfl rfl ?_
    refine v_iconst (n := 46) (v := 2) dX1_gift_45 c_2 rfl ?_
    refine v_idiv (n := 47) dX1_gift_46 (by decide) rfl ?_
    exact v_rI rfl (by simp [kGift, *]) rfl rfl ⟨l8 rfl, l8 rfl⟩ dX1_gift_47
  by_cases hw10_3 : x = 4
  · refine v_table (tgt := 50) (off := 40) dX1_gift_10 (by rw [hw10_3, t_4]; decide) (by rw [hw10_3, t_4]; rfl) (by decide) ?_
    refine v_iload_n (n := 51) dX1_gift_50 rfl rfl rfl ?_
    refine v_iconst (n := 52) (v := 2) dX1_gift_51 c_2 rfl ?_
    refine v_iload_n (n := 53) dX1_gift_52 rfl rfl rfl ?_
    refine v_imul (n := 54) dX1_gift_53 rfl ?_
    refine v_min (n := 57) l_X1_19 min_sta ini_J9 min_code ⟨rfl, rfl⟩ ⟨l8 rfl, l8 rfl⟩ (l8 rfl) dX1_gift_54 rfl ?_
    exact v_rI rfl (by simp [kGift, *]) rfl rfl ⟨l8 rfl, l8 rfl⟩ dX1_gift_57
  by_cases hw10_4 : x = 5
  · refine v_table (tgt := 58) (off := 48) dX1_gift_10 (by rw [hw10_4, t_5]; decide) (by rw [hw10_4, t_5]; rfl) (by decide) ?_
    refine v_iconst (n := 59) (v := 0) dX1_gift_58 c_0 rfl ?_
    exact v_rI rfl (by simp [kGift, *]) rfl rfl ⟨l8 rfl, l8 rfl⟩ dX1_gift_59
  refine v_tableO (tgt := 60) dX1_gift_10 (sw_out5 (lo := 1) hw10_0 hw10_1 hw10_2 hw10_3 hw10_4 t_1 t_2 t_3 t_4 t_5) (by decide) ?_
  refine v_iload_n (n := 61) dX1_gift_60 rfl rfl rfl ?_
  exact v_rI rfl (by simp [kGift, *]) rfl rfl ⟨l8 rfl, l8 rfl⟩ dX1_gift_61

def kGoes (k d : Int32) : Int32 := if k = 3 then 2 else if k = 5 then (if d % 2 = 0 then 0 else 1) else 1
set_option maxRecDepth 100000 in
set_option maxHeartbeats 4000000 in
theorem k_X1_goesOn {ro : Ro} {S : St} {I : In} {x y : Int32} : Ok mX1_goesOn ro 0 0 0 [.int x, .int y] S I (RI (kGoes x y) S I) := by
  refine ok_of (al := [.int x, .int y]) (by decide) (l8 rfl) rfl ?_
  refine v_iload_n (n := 1) dX1_goesOn_0 rfl rfl rfl ?_
  by_cases hw1_0 : x = 3
  · refine v_lookup (tgt := 28) (off := 27) dX1_goesOn_1 (by decide) (by rw [hw1_0, t_3]; decide) (by decide) ?_
    refine v_iconst (n := 29) (v := 2) dX1_goesOn_28 c_2 rfl ?_
    exact v_rI rfl (by simp [kGoes, *]) rfl rfl ⟨l8 rfl, l8 rfl⟩ dX1_goesOn_29
  by_cases hw1_1 : x = 5
  · refine v_lookup (tgt := 30) (off := 29) dX1_goesOn_1 (by decide) (by rw [hw1_1, t_5]; decide) (by decide) ?_
    refine v_iload_n (n := 31) dX1_goesOn_30 rfl rfl rfl ?_
    refine v_iconst (n := 32) (v := 2) dX1_goesOn_31 c_2 rfl ?_
    refine v_irem (n := 33) dX1_goesOn_32 (by decide) rfl ?_
    refine v_if_ne (n := 36) (tgt := 40) dX1_goesOn_33 (by decide) rfl (fun hq33 => ?_) (fun hq33 => ?_)
    · refine v_iconst (n := 41) (v := 1) dX1_goesOn_40 c_1 rfl ?_
      exact v_rI rfl (by simp [kGoes, *]) rfl rfl ⟨l8 rfl, l8 rfl⟩ dX1_goesOn_41
    · refine v_iconst (n := 37) (v := 0) dX1_goesOn_36 c_0 rfl ?_
      refine v_goto (tgt := 41) dX1_goesOn_37 (by decide) ?_
      exact v_rI rfl (by simp [kGoes, *]) rfl rfl ⟨l8 rfl, l8 rfl⟩ dX1_goesOn_41
  refine v_lookup (tgt := 42) (off := 41) dX1_goesOn_1 (by decide) (by simp only [Op.lookupswitch.offset_cons, if_neg (lk_ne hw1_0 t_3), if_neg (lk_ne hw1_1 t_5)]; rfl) (by decide) ?_
  refine v_iconst (n := 43) (v := 1) dX1_goesOn_42 c_1 rfl ?_
  exact v_rI rfl (by simp [kGoes, *]) rfl rfl ⟨l8 rfl, l8 rfl⟩ dX1_goesOn_43

def kWorth (k sn g : Int32) : Int32 := if k = 1 then sn + 5 else if k = 2 then 999 - sn else if k = 3 then 2 * (sn + 5) else if k = 4 then 999 - sn - 8 else if k = 5 then g else sn
set_option maxRecDepth 100000 in
set_option maxHeartbeats 4000000 in
theorem k_X1_worth {ro : Ro} {S : St} {I : In} {x y w : Int32} : Ok mX1_worth ro 0 0 0 [.int x, .int y, .int w] S I (RI (kWorth x y w) S I) := by
  refine ok_of (al := [.int x, .int y, .int w]) (by decide) (l8 rfl) rfl ?_
  refine v_iload_n (n := 1) dX1_worth_0 rfl rfl rfl ?_
  by_cases hw1_0 : x = 1
  · refine v_table (tgt := 36) (off := 35) dX1_worth_1 (by rw [hw1_0, t_1]; decide) (by rw [hw1_0, t_1]; rfl) (by decide) ?_
    refine v_iload_n (n := 37) dX1_worth_36 rfl rfl rfl ?_
    refine v_iconst (n := 38) (v := 5) dX1_worth_37 c_5 rfl ?_
    refine v_iadd (n := 39) dX1_worth_38 rfl ?_
    exact v_rI rfl (by simp [kWorth, *]) rfl rfl ⟨l8 rfl, l8 rfl⟩ dX1_worth_39
  by_cases hw1_1 : x = 2
  · refine v_table (tgt := 46) (off := 45) dX1_worth_1 (by rw [hw1_1, t_2]; decide) (by rw [hw1_1, t_2]; rfl) (by decide) ?_
    refine v_sipush (n := 49) (v := 999) dX1_worth_46 s_999 rfl ?_
    refine v_iload_n (n := 50) dX1_worth_49 rfl rfl rfl ?_
    refine v_isub (n := 51) dX1_worth_50 rfl ?_
    exact v_rI rfl (by simp [kWorth, *]) rfl rfl ⟨l8 rfl, l8 rfl⟩ dX1_worth_51
  by_cases hw1_2 : x = 3
  · refine v_table (tgt := 40) (off := 39) dX1_worth_1 (by rw [hw1_2, t_3]; decide) (by rw [hw1_2, t_3]; rfl) (by decide) ?_
    refine v_iconst (n := 41) (v := 2) dX1_worth_40 c_2 rfl ?_
    refine v_iload_n (n := 42) dX1_worth_41 rfl rfl rfl ?_
    refine v_iconst (n := 43) (v := 5) dX1_worth_42 c_5 rfl ?_
    refine v_iadd (n := 44) dX1_worth_43 rfl ?_
    refine v_imul (n := 45) dX1_worth_44 rfl ?_
    exact v_rI rfl (by simp [kWorth, *]) rfl rfl ⟨l8 rfl, l8 rfl⟩ dX1_worth_45
  by_cases hw1_3 : x = 4
  · refine v_table (tgt := 52) (off := 51) dX1_worth_1 (by rw [hw1_3, t_4]; decide) (by rw [hw1_3, t_4]; rfl) (by decide) ?_
    refine v_sipush (n := 55) (v := 999) dX1_worth_52 s_999 rfl ?_
    refine v_iload_n (n := 56) dX1_worth_55 rfl rfl rfl ?_
    refine v_isub (n := 57) dX1_worth_56 rfl ?_
    refine v_bipush (n := 59) (v := 8) dX1_worth_57 b_8 rfl ?_
    refine v_isub (n := 60) dX1_worth_59 rfl ?_
    exact v_rI rfl (by simp [kWorth, *]) rfl rfl ⟨l8 rfl, l8 rfl⟩ dX1_worth_60
  by_cases hw1_4 : x = 5
  · refine v_table (tgt := 61) (off := 60) dX1_worth_1 (by rw [hw1_4, t_5]; decide) (by rw [hw1_4, t_5]; rfl) (by decide) ?_
    refine v_iload_n (n := 62) dX1_worth_61 rfl rfl rfl ?_
    exact v_rI rfl (by simp [kWorth, *]) rfl rfl ⟨l8 rfl, l8 rfl⟩ dX1_worth_62
  refine v_tableO (tgt := 63) dX1_worth_1 (sw_out5 (lo := 1) hw1_0 hw1_1 hw1_2 hw1_3 hw1_4 t_1 t_2 t_3 t_4 t_5) (by decide) ?_
  refine v_iload_n (n := 64) dX1_worth_63 rfl rfl rfl ?_
  exact v_rI rfl (by simp [kWorth, *]) rfl rfl ⟨l8 rfl, l8 rfl⟩ dX1_worth_64

def x_isSnow (v : Int32) : Bool := !decide (v < 0) && !decide (999 < v)
set_option maxRecDepth 100000 in
set_option maxHeartbeats 4000000 in
theorem k_X10_isSnow {ro : Ro} {S : St} {I : In} {x : Int32} : Ok mX10_isSnow ro 0 0 0 [.int x] S I (RI (bi (x_isSnow x)) S I) := by
  refine ok_of (al := [.int x]) (by decide) (l8 rfl) rfl ?_
  refine v_iload_n (n := 1) dX10_isSnow_0 rfl rfl rfl ?_
  refine v_if_lt (n := 4) (tgt := 15) dX10_isSnow_1 (by decide) rfl (fun hq1 => ?_) (fun hq1 => ?_)
  · refine v_iconst (n := 16) (v := 0) dX10_isSnow_15 c_0 rfl ?_
    exact v_rZ rfl (by simp [x_isSnow, bi, *]) rfl rfl ⟨l8 rfl, l8 rfl⟩ dX10_isSnow_16
  · refine v_iload_n (n := 5) dX10_isSnow_4 rfl rfl rfl ?_
    refine v_sipush (n := 8) (v := 999) dX10_isSnow_5 s_999 rfl ?_
    refine v_icmp_gt (n := 11) (tgt := 15) dX10_isSnow_8 (by decide) rfl (fun hq8 => ?_) (fun hq8 => ?_)
    · refine v_iconst (n := 16) (v := 0) dX10_isSnow_15 c_0 rfl ?_
      exact v_rZ rfl (by simp [x_isSnow, bi, *]) rfl rfl ⟨l8 rfl, l8 rfl⟩ dX10_isSnow_16
    · refine v_iconst (n := 12) (v := 1) dX10_isSnow_11 c_1 rfl ?_
      refine v_goto (tgt := 16) dX10_isSnow_12 (by decide) ?_
      exact v_rZ rfl (by simp [x_isSnow, bi, *]) rfl rfl ⟨l8 rfl, l8 rfl⟩ dX10_isSnow_16

def x_isGate (v : Int32) : Bool := !decide (v < 1) && !decide (999 < v)
set_option maxRecDepth 100000 in
set_option maxHeartbeats 4000000 in
theorem k_X10_isGate {ro : Ro} {S : St} {I : In} {x : Int32} : Ok mX10_isGate ro 0 0 0 [.int x] S I (RI (bi (x_isGate x)) S I) := by
  refine ok_of (al := [.int x]) (by decide) (l8 rfl) rfl ?_
  refine v_iload_n (n := 1) dX10_isGate_0 rfl rfl rfl ?_
  refine v_iconst (n := 2) (v := 1) dX10_isGate_1 c_1 rfl ?_
  refine v_icmp_lt (n := 5) (tgt := 16) dX10_isGate_2 (by decide) rfl (fun hq2 => ?_) (fun hq2 => ?_)
  · refine v_iconst (n := 17) (v := 0) dX10_isGate_16 c_0 rfl ?_
    exact v_rZ rfl (by simp [x_isGate, bi, *]) rfl rfl ⟨l8 rfl, l8 rfl⟩ dX10_isGate_17
  · refine v_iload_n (n := 6) dX10_isGate_5 rfl rfl rfl ?_
    refine v_sipush (n := 9) (v := 999) dX10_isGate_6 s_999 rfl ?_
    refine v_icmp_gt (n := 12) (tgt := 16) dX10_isGate_9 (by decide) rfl (fun hq9 => ?_) (fun hq9 => ?_)
    · refine v_iconst (n := 17) (v := 0) dX10_isGate_16 c_0 rfl ?_
      exact v_rZ rfl (by simp [x_isGate, bi, *]) rfl rfl ⟨l8 rfl, l8 rfl⟩ dX10_isGate_17
    · refine v_iconst (n := 13) (v := 1) dX10_isGate_12 c_1 rfl ?_
      refine v_goto (tgt := 17) dX10_isGate_13 (by decide) ?_
      exact v_rZ rfl (by simp [x_isGate, bi, *]) rfl rfl ⟨l8 rfl, l8 rfl⟩ dX10_isGate_17

def x_isThing (v : Int32) : Bool := !decide (v < 0) && !decide (6 ≤ v)
set_option maxRecDepth 100000 in
set_option maxHeartbeats 4000000 in
theorem k_X10_isThing {ro : Ro} {S : St} {I : In} {x : Int32} : Ok mX10_isThing ro 0 0 0 [.int x] S I (RI (bi (x_isThing x)) S I) := by
  refine ok_of (al := [.int x]) (by decide) (l8 rfl) rfl ?_
  refine v_iload_n (n := 1) dX10_isThing_0 rfl rfl rfl ?_
  refine v_if_lt (n := 4) (tgt := 14) dX10_isThing_1 (by decide) rfl (fun hq1 => ?_) (fun hq1 => ?_)
  · refine v_iconst (n := 15) (v := 0) dX10_isThing_14 c_0 rfl ?_
    exact v_rZ rfl (by simp [x_isThing, bi, *]) rfl rfl ⟨l8 rfl, l8 rfl⟩ dX10_isThing_15
  · refine v_iload_n (n := 5) dX10_isThing_4 rfl rfl rfl ?_
    refine v_bipush (n := 7) (v := 6) dX10_isThing_5 b_6 rfl ?_
    refine v_icmp_ge (n := 10) (tgt := 14) dX10_isThing_7 (by decide) rfl (fun hq7 => ?_) (fun hq7 => ?_)
    · refine v_iconst (n := 15) (v := 0) dX10_isThing_14 c_0 rfl ?_
      exact v_rZ rfl (by simp [x_isThing, bi, *]) rfl rfl ⟨l8 rfl, l8 rfl⟩ dX10_isThing_15
    · refine v_iconst (n := 11) (v := 1) dX10_isThing_10 c_1 rfl ?_
      refine v_goto (tgt := 15) dX10_isThing_11 (by decide) ?_
      exact v_rZ rfl (by simp [x_isThing, bi, *]) rfl rfl ⟨l8 rfl, l8 rfl⟩ dX10_isThing_15

def x_isSheet (v : Int32) : Bool := !decide (v < 0) && !decide (4 ≤ v)
set_option maxRecDepth 100000 in
set_option maxHeartbeats 4000000 in
theorem k_X10_isSheet {ro : Ro} {S : St} {I : In} {x : Int32} : Ok mX10_isSheet ro 0 0 0 [.int x] S I (RI (bi (x_isSheet x)) S I) := by
  refine ok_of (al := [.int x]) (by decide) (l8 rfl) rfl ?_
  refine v_iload_n (n := 1) dX10_isSheet_0 rfl rfl rfl ?_
  refine v_if_lt (n := 4) (tgt := 13) dX10_isSheet_1 (by decide) rfl (fun hq1 => ?_) (fun hq1 => ?_)
  · refine v_iconst (n := 14) (v := 0) dX10_isSheet_13 c_0 rfl ?_
    exact v_rZ rfl (by simp [x_isSheet, bi, *]) rfl rfl ⟨l8 rfl, l8 rfl⟩ dX10_isSheet_14
  · refine v_iload_n (n := 5) dX10_isSheet_4 rfl rfl rfl ?_
    refine v_iconst (n := 6) (v := 4) dX10_isSheet_5 c_4 rfl ?_
    refine v_icmp_ge (n := 9) (tgt := 13) dX10_isSheet_6 (by decide) rfl (fun hq6 => ?_) (fun hq6 => ?_)
    · refine v_iconst (n := 14) (v := 0) dX10_isSheet_13 c_0 rfl ?_
      exact v_rZ rfl (by simp [x_isSheet, bi, *]) rfl rfl ⟨l8 rfl, l8 rfl⟩ dX10_isSheet_14
    · refine v_iconst (n := 10) (v := 1) dX10_isSheet_9 c_1 rfl ?_
      refine v_goto (tgt := 14) dX10_isSheet_10 (by decide) ?_
      exact v_rZ rfl (by simp [x_isSheet, bi, *]) rfl rfl ⟨l8 rfl, l8 rfl⟩ dX10_isSheet_14

def x_isSlot (v : Int32) : Bool := !decide (v < 0) && !decide (5 ≤ v)
set_option maxRecDepth 100000 in
set_option maxHeartbeats 4000000 in
theorem k_X10_isSlot {ro : Ro} {S : St} {I : In} {x : Int32} : Ok mX10_isSlot ro 0 0 0 [.int x] S I (RI (bi (x_isSlot x)) S I) := by
  refine ok_of (al := [.int x]) (by decide) (l8 rfl) rfl ?_
  refine v_iload_n (n := 1) dX10_isSlot_0 rfl rfl rfl ?_
  refine v_if_lt (n := 4) (tgt := 13) dX10_isSlot_1 (by decide) rfl (fun hq1 => ?_) (fun hq1 => ?_)
  · refine v_iconst (n := 14) (v := 0) dX10_isSlot_13 c_0 rfl ?_
    exact v_rZ rfl (by simp [x_isSlot, bi, *]) rfl rfl ⟨l8 rfl, l8 rfl⟩ dX10_isSlot_14
  · refine v_iload_n (n := 5) dX10_isSlot_4 rfl rfl rfl ?_
    refine v_iconst (n := 6) (v := 5) dX10_isSlot_5 c_5 rfl ?_
    refine v_icmp_ge (n := 9) (tgt := 13) dX10_isSlot_6 (by decide) rfl (fun hq6 => ?_) (fun hq6 => ?_)
    · refine v_iconst (n := 14) (v := 0) dX10_isSlot_13 c_0 rfl ?_
      exact v_rZ rfl (by simp [x_isSlot, bi, *]) rfl rfl ⟨l8 rfl, l8 rfl⟩ dX10_isSlot_14
    · refine v_iconst (n := 10) (v := 1) dX10_isSlot_9 c_1 rfl ?_
      refine v_goto (tgt := 14) dX10_isSlot_10 (by decide) ?_
      exact v_rZ rfl (by simp [x_isSlot, bi, *]) rfl rfl ⟨l8 rfl, l8 rfl⟩ dX10_isSlot_14

set_option maxRecDepth 100000 in
set_option maxHeartbeats 4000000 in
theorem k_X10_held {ro : Ro} {S : St} {I : In} {x y : Int32} : Ok mX10_held ro 1 0 0 [.int x, .int y] S I (RI (mx 0 (mn y x)) S I) := by
  refine ok_of (al := [.int x, .int y]) (by decide) (l8 rfl) rfl ?_
  refine v_iconst (n := 1) (v := 0) dX10_held_0 c_0 rfl ?_
  refine v_iload_n (n := 2) dX10_held_1 rfl rfl rfl ?_
  refine v_iload_n (n := 3) dX10_held_2 rfl rfl rfl ?_
  refine v_min (n := 6) l_X10_140 min_sta ini_J9 min_code ⟨rfl, rfl⟩ ⟨l8 rfl, l8 rfl⟩ (l8 rfl) dX10_held_3 rfl ?_
  refine v_max (n := 9) l_X10_331 max_sta ini_J9 max_code ⟨rfl, rfl⟩ ⟨l8 rfl, l8 rfl⟩ (l8 rfl) dX10_held_6 rfl ?_
  exact v_rI rfl rfl rfl rfl ⟨l8 rfl, l8 rfl⟩ dX10_held_9

def rHas (n y : Int32) : Bool := !decide (y < 0) && !decide (n ≤ y)
set_option maxRecDepth 100000 in
set_option maxHeartbeats 4000000 in
theorem k_X5_has {ro : Ro} {S : St} {I : In} {r : Nat} {x : Int32} (L : LayR S r) : Ok mX5_has ro 0 0 0 [.ref r, .int x] S I (RI (bi (rHas (I r 4) x)) S I) := by
  refine ok_of (al := [.ref r, .int x]) (by decide) (l8 rfl) rfl ?_
  refine v_iload_n (n := 1) dX5_has_0 rfl rfl rfl ?_
  refine v_if_lt (n := 4) (tgt := 16) dX5_has_1 (by decide) rfl (fun hq1 => ?_) (fun hq1 => ?_)
  · refine v_iconst (n := 17) (v := 0) dX5_has_16 c_0 rfl ?_
    exact v_rZ rfl (by simp [rHas, bi, *]) rfl rfl ⟨l8 rfl, l8 rfl⟩ dX5_has_17
  · refine v_iload_n (n := 5) dX5_has_4 rfl rfl rfl ?_
    refine v_aload_n (n := 6) dX5_has_5 rfl rfl rfl ?_
    refine v_getI (n := 9) f_X5_24 rfl L.s dX5_has_6 rfl ?_
    refine v_icmp_ge (n := 12) (tgt := 16) dX5_has_9 (by decide) rfl (fun hq9 => ?_) (fun hq9 => ?_)
    · refine v_iconst (n := 17) (v := 0) dX5_has_16 c_0 rfl ?_
      exact v_rZ rfl (by simp [rHas, bi, *]) rfl rfl ⟨l8 rfl, l8 rfl⟩ dX5_has_17
    · refine v_iconst (n := 13) (v := 1) dX5_has_12 c_1 rfl ?_
      refine v_goto (tgt := 17) dX5_has_13 (by decide) ?_
      exact v_rZ rfl (by simp [rHas, bi, *]) rfl rfl ⟨l8 rfl, l8 rfl⟩ dX5_has_17

