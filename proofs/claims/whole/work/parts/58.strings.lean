/-! ===== String constants: charAt, indexOf ===== -/
section STR
variable {own : String} {cc : ByteArray} {nL : Nat} {ret : Option FieldType} {nm : String} {ro : Ro} {R : Room} {Qf : Wd → List Frame → Array Value → State → State → Prop} {cells slots pc n : Nat} {al st : List Value} {S : St} {I : In}
theorem v_ldcS {i idx : Nat} (hi : i < 4) (hw : RX4 = own ∧ strIx i = idx) (hd : decode cc pc = .ok (.ldc idx, 2)) (hn : pc + 2 = n) (kk : V own cc nL ret nm ro R Qf cells slots n al (.ref (ro.2.2.1 i) :: st) S I) : V own cc nL ret nm ro R Qf cells slots pc al st S I := by
  subst hn
  intro w p l e s m args below meth c C H locs ls hR hl
  obtain ⟨hx, hb, -, -, -, -, hown, hts, hK⟩ := id C
  have h8 := hK.2.2.2.2.2.2.2.1 i hi
  rw [hw.1, hw.2] at h8
  exact va_ldcS hx hb hown h8 hd (kk w p l e s m args below meth c C H locs ls hR hl)
theorem v_strV {i idx : Nat} (hi : i < 4) (hw : Cond.fieldLink own idx "java/lang/String" "value" "[B" ∈ GW) (hd : decode cc pc = .ok (.getfield idx, 3)) (hn : pc + 3 = n) (kk : V own cc nL ret nm ro R Qf cells slots n al (.ref (ro.2.2.2 i) :: st) S I) : V own cc nL ret nm ro R Qf cells slots pc al (.ref (ro.2.2.1 i) :: st) S I := by
  subst hn
  intro w p l e s m args below meth c C H locs ls hR hl
  obtain ⟨hx, hb, -, -, -, -, hown, hts, hK⟩ := id C
  obtain ⟨cf, k, fi, f, cell, h1, h2, h3, h4, h5, h6⟩ := (hK.2.2.2.2.2.2.1.1 i hi).2.2.1.kept hR.S.2.1
  exact W.getf hx hb hown (hts _ hw) h1 h2 h3 h4 (v := .ref (ro.2.2.2 i)) h5 rfl rfl hd (kk w p l e s m args below meth c C H locs ls hR hl)
theorem v_strC {i idx : Nat} (hi : i < 4) (hw : Cond.fieldLink own idx "java/lang/String" "coder" "B" ∈ GW) (hd : decode cc pc = .ok (.getfield idx, 3)) (hn : pc + 3 = n) (kk : V own cc nL ret nm ro R Qf cells slots n al (.int 0 :: st) S I) : V own cc nL ret nm ro R Qf cells slots pc al (.ref (ro.2.2.1 i) :: st) S I := by
  subst hn
  intro w p l e s m args below meth c C H locs ls hR hl
  obtain ⟨hx, hb, -, -, -, -, hown, hts, hK⟩ := id C
  obtain ⟨cf, k, fi, f, cell, h1, h2, h3, h4, h5, h6⟩ := (hK.2.2.2.2.2.2.1.1 i hi).2.1.kept hR.S.2.1
  exact W.getf hx hb hown (hts _ hw) h1 h2 h3 h4 (v := .int 0) h5 rfl rfl hd (kk w p l e s m args below meth c C H locs ls hR hl)
theorem v_comp {idx : Nat} (hw : Cond.fieldLink own idx "java/lang/String" "COMPACT_STRINGS" "Z" ∈ GW) (hd : decode cc pc = .ok (.getstatic idx, 3)) (hn : pc + 3 = n) (kk : V own cc nL ret nm ro R Qf cells slots n al (.int 1 :: st) S I) : V own cc nL ret nm ro R Qf cells slots pc al st S I := by
  subst hn
  intro w p l e s m args below meth c C H locs ls hR hl
  obtain ⟨hx, hb, -, -, -, -, hown, hts, hK⟩ := id C
  obtain ⟨cf, kf, fi, f, a, cell, h1, h2, h3, h4, h5, h6, h7, h8⟩ := hK.2.2.2.2.2.2.2.2.1
  exact W.gets hx hb hown (hts _ hw) h1 h2 h3 h4 (by rw [hR.S.2.1 a (Array.getElem?_eq_some_iff.mp h5).1 h8]; exact h5) (fun e => by rw [e] at h6; cases h6) h7 rfl hd (kk w p l e s m args below meth c C H locs ls hR hl)
theorem v_siob {idx : Nat} (hw : Cond.fieldLink own idx "jdk/internal/util/Preconditions" "SIOOBE_FORMATTER" "Ljava/util/function/BiFunction;" ∈ GW) (hd : decode cc pc = .ok (.getstatic idx, 3)) (hn : pc + 3 = n) (k1 : V own cc nL ret nm ro R Qf cells slots n al (.null :: st) S I) (k2 : ∀ t, V own cc nL ret nm ro R Qf cells slots n al (.ref t :: st) S I) : V own cc nL ret nm ro R Qf cells slots pc al st S I := by
  subst hn
  intro w p l e s m args below meth c C H locs ls hR hl
  obtain ⟨hx, hb, -, -, -, -, hown, hts, hK⟩ := id C
  rcases hK.2.2.2.2.2.2.2.2.2 with hz | ⟨t, hz⟩
  · obtain ⟨cf, kf, fi, f, a, cell, h1, h2, h3, h4, h5, h6, h7, h8⟩ := hz
    exact W.gets hx hb hown (hts _ hw) h1 h2 h3 h4 (by rw [hR.S.2.1 a (Array.getElem?_eq_some_iff.mp h5).1 h8]; exact h5) (fun e => by rw [e] at h6; cases h6) h7 rfl hd (k1 w p l e s m args below meth c C H locs ls hR hl)
  · obtain ⟨cf, kf, fi, f, a, cell, h1, h2, h3, h4, h5, h6, h7, h8⟩ := hz
    exact W.gets hx hb hown (hts _ hw) h1 h2 h3 h4 (by rw [hR.S.2.1 a (Array.getElem?_eq_some_iff.mp h5).1 h8]; exact h5) (fun e => by rw [e] at h6; cases h6) h7 rfl hd (k2 t w p l e s m args below meth c C H locs ls hR hl)
theorem v_strLen {i : Nat} (hi : i < 4) (hd : decode cc pc = .ok (.arraylength, 1)) (hn : pc + 1 = n) (kk : V own cc nL ret nm ro R Qf cells slots n al (.int (nI (strLen.getD i 0)) :: st) S I) : V own cc nL ret nm ro R Qf cells slots pc al (.ref (ro.2.2.2 i) :: st) S I := by
  subst hn
  intro w p l e s m args below meth c C H locs ls hR hl
  obtain ⟨hx, hb, -, -, -, -, hown, hts, hK⟩ := id C
  obtain ⟨cell, h1, h2, h3, h4, h5, h6, h7⟩ := (hK.2.2.2.2.2.2.1.1 i hi).2.2.2
  exact W.alen (n := nI (strLen.getD i 0)) hx hb (by rw [hR.S.2.1 _ (Array.getElem?_eq_some_iff.mp h1).1 h7]; exact h1) h2 h5 rfl rfl hd (kk w p l e s m args below meth c C H locs ls hR hl)
theorem v_strB {i j : Nat} {x : Int32} (hi : i < 4) (hj : ix x j (strLen.getD i 0)) (hd : decode cc pc = .ok (.baload, 1)) (hn : pc + 1 = n) (kk : V own cc nL ret nm ro R Qf cells slots n al (.int ((strBy.getD i []).getD j 0) :: st) S I) : V own cc nL ret nm ro R Qf cells slots pc al (.int x :: .ref (ro.2.2.2 i) :: st) S I := by
  subst hn
  intro w p l e s m args below meth c C H locs ls hR hl
  obtain ⟨hx, hb, -, -, -, -, hown, hts, hK⟩ := id C
  obtain ⟨cell, h1, h2, h3, h4, h5, h6, h7⟩ := (hK.2.2.2.2.2.2.1.1 i hi).2.2.2
  have hlt := hj.lt
  obtain ⟨hin, rfl⟩ := hj
  exact W.bald (v := .int ((strBy.getD i []).getD x.toNatClampNeg 0)) hx hb (by rw [hR.S.2.1 _ (Array.getElem?_eq_some_iff.mp h1).1 h7]; exact h1) h2 h3 (fun q => hin (q.elim Or.inl (fun q => absurd q (by omega)))) (h6 _ hlt) rfl rfl hd (kk w p l e s m args below meth c C H locs ls hR hl)
theorem v_callT {y : Mth} {idx np d' D mc' ms' i : Nat} {As rest : List Value} {Q' : Option Value → St → In → Prop} (hM : MC y np) (h1 : Cond.methodLink own idx y.1 ∈ GW) (h2 : Cond.instanceMethod y.1 ∈ GW) (h3 : Cond.selects y.1.cls y.1 y.1 ∈ GW) (hi : i < 4) (hy : y.1.cls = "java/lang/String")
    (hO : Ok y ro d' mc' ms' (.ref (ro.2.2.1 i) :: As) S I Q') (hR0 : R.frames = D ∧ R.locals = 64 * D) (hd' : d' + 1 ≤ D) (hc : cells + mc' ≤ R.cells ∧ slots + ms' ≤ R.slots) (hn : As.length = np) (hst : st = As.reverse ++ .ref (ro.2.2.1 i) :: rest) (hw : (rest.map fun v => v.category).sum ≤ 8) (hd : decode cc pc = .ok (.invokevirtual idx, 3)) (hpc : pc + 3 = n)
    (kk : ∀ r S' I', Q' r S' I' → V own cc nL ret nm ro R Qf (cells + mc') (slots + ms') n al (r.toList ++ rest) S' I') : V own cc nL ret nm ro R Qf cells slots pc al st S I := by
  subst hpc
  intro w p l e s m args below meth c C H locs ls hR hl
  obtain ⟨hx, hb, hml, -, -, -, hown, hts, hK⟩ := id C
  obtain ⟨cell, q1, q2, q3, -⟩ := (hK.2.2.2.2.2.2.1.1 i hi).1.kept hR.S.2.1
  refine v_go C hR hl (va_runV (As := As) (rest := rest) (C := y.1.cls) ⟨hx, hb, hml, hown, hts⟩ (hO l w) ⟨callB_of np hts (code_gw hM) rfl rfl rfl (hts _ hM.2.1) (hts _ h1) hM.2.2.1 ⟨?_, ?_⟩, hts _ h2, hts _ h3⟩ ⟨pc_blind, ⟨cell, q1, q2, by rw [hy]; exact q3⟩, fun U hU hW => ⟨rfl, by rw [hU]; exact hR.1, hK.warm hW⟩⟩ rfl hn hl.1 hst (lv_room hw) hd hc) kk
  · show d' + 1 ≤ R.frames
    omega
  · have := hM.2.2.2
    show 8 + (y.2.2.1 + 11) + 64 * d' ≤ R.locals
    omega
end STR

set_option maxRecDepth 100000 in
set_option maxHeartbeats 1000000 in
theorem k_isLatin1 {ro : Ro} {S : St} {I : In} {i : Nat} (hi : i < 4) : Ok mJ0_isLatin1_aae02 ro 0 0 0 [.ref (ro.2.2.1 i)] S I (RI (bi true) S I) := by
  refine ok_of (al := [.ref (ro.2.2.1 i)]) (by decide) (l8 rfl) rfl ?_
  refine v_comp (n := 3) fl_J0_38 dJ0_isLatin1_aae02_0 rfl ?_
  refine v_if_eq (n := 6) (tgt := 17) dJ0_isLatin1_aae02_3 (by decide) rfl (fun z => absurd z (by decide)) (fun _ => ?_)
  refine v_aload_n (n := 7) dJ0_isLatin1_aae02_6 rfl rfl rfl ?_
  refine v_strC (n := 10) hi fl_J0_15 dJ0_isLatin1_aae02_7 rfl ?_
  refine v_if_ne (n := 13) (tgt := 17) dJ0_isLatin1_aae02_10 (by decide) rfl (fun z => absurd rfl z) (fun _ => ?_)
  refine v_iconst (n := 14) (v := 1) dJ0_isLatin1_aae02_13 c_1 rfl ?_
  refine v_goto (tgt := 18) dJ0_isLatin1_aae02_14 (by decide) ?_
  exact v_rZ rfl rfl rfl rfl ⟨l8 rfl, l8 rfl⟩ dJ0_isLatin1_aae02_18

set_option maxRecDepth 100000 in
set_option maxHeartbeats 1000000 in
theorem k_coder {ro : Ro} {S : St} {I : In} {i : Nat} (hi : i < 4) : Ok mJ0_coder_7d493 ro 0 0 0 [.ref (ro.2.2.1 i)] S I (RI 0 S I) := by
  refine ok_of (al := [.ref (ro.2.2.1 i)]) (by decide) (l8 rfl) rfl ?_
  refine v_comp (n := 3) fl_J0_38 dJ0_coder_7d493_0 rfl ?_
  refine v_if_eq (n := 6) (tgt := 13) dJ0_coder_7d493_3 (by decide) rfl (fun z => absurd z (by decide)) (fun _ => ?_)
  refine v_aload_n (n := 7) dJ0_coder_7d493_6 rfl rfl rfl ?_
  refine v_strC (n := 10) hi fl_J0_15 dJ0_coder_7d493_7 rfl ?_
  refine v_goto (tgt := 14) dJ0_coder_7d493_10 (by decide) ?_
  exact v_zret rfl rfl ⟨rfl, rfl, rfl⟩ ⟨l8 rfl, l8 rfl⟩ dJ0_coder_7d493_14

set_option maxRecDepth 100000 in
set_option maxHeartbeats 1000000 in
theorem k_length {ro : Ro} {S : St} {I : In} {i : Nat} (hi : i < 4) : Ok mJ0_length_8abf5 ro 1 0 0 [.ref (ro.2.2.1 i)] S I (RI (nI (strLen.getD i 0)) S I) := by
  refine ok_of (al := [.ref (ro.2.2.1 i)]) (by decide) (l8 rfl) rfl ?_
  refine v_aload_n (n := 1) dJ0_length_8abf5_0 rfl rfl rfl ?_
  refine v_strV (n := 4) hi fl_J0_9 dJ0_length_8abf5_1 rfl ?_
  refine v_strLen (n := 5) hi dJ0_length_8abf5_4 rfl ?_
  refine v_aload_n (n := 6) dJ0_length_8abf5_5 rfl rfl rfl ?_
  refine v_callT (n := 9) (i := i) mc_J0_coder_7d493 l_J0_335 iv_J0_coder_7d493 se_J0_coder_7d493 hi rfl (k_coder hi) ⟨rfl, rfl⟩ (l8 rfl) ⟨l8 rfl, l8 rfl⟩ rfl rfl (l8 rfl) dJ0_length_8abf5_6 rfl ?_
  rintro _ _ _ ⟨rfl, hS9, hI9⟩
  subst hS9
  subst hI9
  refine v_ishr (n := 10) dJ0_length_8abf5_9 rfl ?_
  exact v_rI rfl (by rcases (show i = 0 ∨ i = 1 ∨ i = 2 ∨ i = 3 by omega) with rfl | rfl | rfl | rfl <;> decide) rfl rfl ⟨l8 rfl, l8 rfl⟩ dJ0_length_8abf5_10

set_option maxRecDepth 100000 in
set_option maxHeartbeats 1000000 in
theorem k_pren {ro : Ro} {S : St} {I : In} {k n : Nat} (hk : k < n) (hn : n < 2 ^ 30) : Ok mJ3_checkIndex_8e157 ro 0 0 0 [.int (nI k), .int (nI n), .null] S I (RI (nI k) S I) := by
  refine ok_of (al := [.int (nI k), .int (nI n), .null]) (by decide) (l8 rfl) rfl ?_
  refine v_iload_n (n := 1) dJ3_checkIndex_8e157_0 rfl rfl rfl ?_
  refine v_if_lt (n := 4) (tgt := 9) dJ3_checkIndex_8e157_1 (by decide) rfl (fun z => absurd z (nI_nlt0 (by omega))) (fun _ => ?_)
  refine v_iload_n (n := 5) dJ3_checkIndex_8e157_4 rfl rfl rfl ?_
  refine v_iload_n (n := 6) dJ3_checkIndex_8e157_5 rfl rfl rfl ?_
  refine v_icmp_lt (n := 9) (tgt := 16) dJ3_checkIndex_8e157_6 (by decide) rfl (fun _ => ?_) (fun z => absurd (nI_lt hk (by omega)) z)
  refine v_iload_n (n := 17) dJ3_checkIndex_8e157_16 rfl rfl rfl ?_
  exact v_rI rfl rfl rfl rfl ⟨l8 rfl, l8 rfl⟩ dJ3_checkIndex_8e157_17

set_option maxRecDepth 100000 in
set_option maxHeartbeats 1000000 in
theorem k_prer {ro : Ro} {S : St} {I : In} {k n : Nat} (hk : k < n) (hn : n < 2 ^ 30) {q : Nat} : Ok mJ3_checkIndex_8e157 ro 0 0 0 [.int (nI k), .int (nI n), .ref q] S I (RI (nI k) S I) := by
  refine ok_of (al := [.int (nI k), .int (nI n), .ref q]) (by decide) (l8 rfl) rfl ?_
  refine v_iload_n (n := 1) dJ3_checkIndex_8e157_0 rfl rfl rfl ?_
  refine v_if_lt (n := 4) (tgt := 9) dJ3_checkIndex_8e157_1 (by decide) rfl (fun z => absurd z (nI_nlt0 (by omega))) (fun _ => ?_)
  refine v_iload_n (n := 5) dJ3_checkIndex_8e157_4 rfl rfl rfl ?_
  refine v_iload_n (n := 6) dJ3_checkIndex_8e157_5 rfl rfl rfl ?_
  refine v_icmp_lt (n := 9) (tgt := 16) dJ3_checkIndex_8e157_6 (by decide) rfl (fun _ => ?_) (fun z => absurd (nI_lt hk (by omega)) z)
  refine v_iload_n (n := 17) dJ3_checkIndex_8e157_16 rfl rfl rfl ?_
  exact v_rI rfl rfl rfl rfl ⟨l8 rfl, l8 rfl⟩ dJ3_checkIndex_8e157_17

set_option maxRecDepth 100000 in
set_option maxHeartbeats 1000000 in
theorem k_chk {ro : Ro} {S : St} {I : In} {k n : Nat} (hk : k < n) (hn : n < 2 ^ 30) : Ok mJ0_checkIndex_df160 ro 1 0 0 [.int (nI k), .int (nI n)] S I (RV S I) := by
  refine ok_of (al := [.int (nI k), .int (nI n)]) (by decide) (l8 rfl) rfl ?_
  refine v_iload_n (n := 1) dJ0_checkIndex_df160_0 rfl rfl rfl ?_
  refine v_iload_n (n := 2) dJ0_checkIndex_df160_1 rfl rfl rfl ?_
  refine v_siob (n := 5) fl_J0_1053 dJ0_checkIndex_df160_2 rfl ?_ (fun q => ?_)
  · refine v_cSi (n := 8) (x := nI k) mc_J3_checkIndex_8e157 l_J0_1059 sta_J3_checkIndex_8e157 (k_pren hk hn) ⟨rfl, rfl⟩ (l8 rfl) ⟨l8 rfl, l8 rfl⟩ rfl rfl (l8 rfl) dJ0_checkIndex_df160_5 rfl ?_
    refine v_pop (n := 9) dJ0_checkIndex_df160_8 rfl rfl ?_
    exact v_rV rfl rfl rfl ⟨l8 rfl, l8 rfl⟩ dJ0_checkIndex_df160_9
  · refine v_cSi (n := 8) (x := nI k) mc_J3_checkIndex_8e157 l_J0_1059 sta_J3_checkIndex_8e157 (k_prer hk hn) ⟨rfl, rfl⟩ (l8 rfl) ⟨l8 rfl, l8 rfl⟩ rfl rfl (l8 rfl) dJ0_checkIndex_df160_5 rfl ?_
    refine v_pop (n := 9) dJ0_checkIndex_df160_8 rfl rfl ?_
    exact v_rV rfl rfl rfl ⟨l8 rfl, l8 rfl⟩ dJ0_checkIndex_df160_9

theorem kc_ch {k : Nat} (hk : k < 12) : (((strBy.getD 0 []).getD k 0 &&& 255).toUInt32 % 65536).toInt32 = kc k ∧ narrow .char (.int (kc k)) = .int (kc k) := by
  have c : k = 0 ∨ k = 1 ∨ k = 2 ∨ k = 3 ∨ k = 4 ∨ k = 5 ∨ k = 6 ∨ k = 7 ∨ k = 8 ∨ k = 9 ∨ k = 10 ∨ k = 11 := by omega
  rcases c with rfl | rfl | rfl | rfl | rfl | rfl | rfl | rfl | rfl | rfl | rfl | rfl <;> exact ⟨by decide, by rfl⟩
set_option maxRecDepth 100000 in
set_option maxHeartbeats 1000000 in
theorem k_ch1 {ro : Ro} {S : St} {I : In} {k : Nat} (hk : k < 12) : Ok mJ1_charAt_3b067 ro 2 0 0 [.ref (ro.2.2.2 0), .int (nI k)] S I (RI (kc k) S I) := by
  refine ok_of (al := [.ref (ro.2.2.2 0), .int (nI k)]) (by decide) (l8 rfl) rfl ?_
  refine v_iload_n (n := 1) dJ1_charAt_3b067_0 rfl rfl rfl ?_
  refine v_aload_n (n := 2) dJ1_charAt_3b067_1 rfl rfl rfl ?_
  refine v_strLen (n := 3) (i := 0) (by decide) dJ1_charAt_3b067_2 rfl ?_
  refine v_cSv (n := 6) mc_J0_checkIndex_df160 l_J1_9 sta_J0_checkIndex_df160 (k_chk (n := 12) hk (by decide)) ⟨rfl, rfl⟩ (l8 rfl) ⟨l8 rfl, l8 rfl⟩ rfl rfl (l8 rfl) dJ1_charAt_3b067_3 rfl ?_
  refine v_aload_n (n := 7) dJ1_charAt_3b067_6 rfl rfl rfl ?_
  refine v_iload_n (n := 8) dJ1_charAt_3b067_7 rfl rfl rfl ?_
  refine v_strB (n := 9) (i := 0) (j := k) (by decide) (ix_nI hk (by decide)) dJ1_charAt_3b067_8 rfl ?_
  refine v_sipush (n := 12) (v := 255) dJ1_charAt_3b067_9 s_255 rfl ?_
  refine v_iand (n := 13) dJ1_charAt_3b067_12 rfl ?_
  refine v_i2c (n := 14) dJ1_charAt_3b067_13 rfl ?_
  rw [(kc_ch hk).1]
  exact v_zret rfl (kc_ch hk).2 ⟨rfl, rfl, rfl⟩ ⟨l8 rfl, l8 rfl⟩ dJ1_charAt_3b067_14

set_option maxRecDepth 100000 in
set_option maxHeartbeats 1000000 in
theorem k_charAt {ro : Ro} {S : St} {I : In} {k : Nat} (hk : k < 12) : Ok mJ0_charAt_5068e ro 3 0 0 [.ref (ro.2.2.1 0), .int (nI k)] S I (RI (kc k) S I) := by
  refine ok_of (al := [.ref (ro.2.2.1 0), .int (nI k)]) (by decide) (l8 rfl) rfl ?_
  refine v_aload_n (n := 1) dJ0_charAt_5068e_0 rfl rfl rfl ?_
  refine v_callT (n := 4) (i := 0) mc_J0_isLatin1_aae02 l_J0_492 iv_J0_isLatin1_aae02 se_J0_isLatin1_aae02 (by decide) rfl (k_isLatin1 (by decide)) ⟨rfl, rfl⟩ (l8 rfl) ⟨l8 rfl, l8 rfl⟩ rfl rfl (l8 rfl) dJ0_charAt_5068e_1 rfl ?_
  rintro _ _ _ ⟨rfl, hS9, hI9⟩
  subst hS9
  subst hI9
  refine v_if_eq (n := 7) (tgt := 16) dJ0_charAt_5068e_4 (by decide) rfl (fun z => absurd z (by decide)) (fun _ => ?_)
  refine v_aload_n (n := 8) dJ0_charAt_5068e_7 rfl rfl rfl ?_
  refine v_strV (n := 11) (i := 0) (by decide) fl_J0_9 dJ0_charAt_5068e_8 rfl ?_
  refine v_iload_n (n := 12) dJ0_charAt_5068e_11 rfl rfl rfl ?_
  refine v_cSi (n := 15) (x := kc k) mc_J1_charAt_3b067 l_J0_495 sta_J1_charAt_3b067 (k_ch1 hk) ⟨rfl, rfl⟩ (l8 rfl) ⟨l8 rfl, l8 rfl⟩ rfl rfl (l8 rfl) dJ0_charAt_5068e_12 rfl ?_
  exact v_zret rfl (kc_ch hk).2 ⟨rfl, rfl, rfl⟩ ⟨l8 rfl, l8 rfl⟩ dJ0_charAt_5068e_15

def ixB (c : Int32) : List Int32 → Nat → Int32
  | [], _ => -1
  | b :: l, k => if b = c then nI k else ixB c l (k + 1)
def lowL (c : Int32) : Prop := 97 ≤ c ∧ c ≤ 122
theorem low_get {c : Int32} (h : lowL c) : ∃ k, k ≤ 25 ∧ c = nI (97 + k) := by
  have h1 := Int32.le_iff_toInt_le.mp h.1
  have h2 := Int32.le_iff_toInt_le.mp h.2
  have e1 : (97 : Int32).toInt = 97 := by decide
  have e2 : (122 : Int32).toInt = 122 := by decide
  refine ⟨(c.toInt - 97).toNat, by omega, Int32.toInt_inj.mp ?_⟩
  rw [nI_toInt (by omega)]; omega
theorem low_b {c : Int32} (h : lowL c) : c.toInt8.toInt32 = c ∧ ¬ c < 0 ∧ ¬ 255 < c ∧ (c.toUInt32 % 65536).toInt32 = c := by
  obtain ⟨k, hk, rfl⟩ := low_get h
  have : ∀ k, k ≤ 25 → ((nI (97 + k)).toInt8.toInt32 = nI (97 + k) ∧ ¬ nI (97 + k) < 0 ∧ ¬ 255 < nI (97 + k) ∧ ((nI (97 + k)).toUInt32 % 65536).toInt32 = nI (97 + k)) := by
    intro k hk
    have c : k = 0 ∨ k = 1 ∨ k = 2 ∨ k = 3 ∨ k = 4 ∨ k = 5 ∨ k = 6 ∨ k = 7 ∨ k = 8 ∨ k = 9 ∨ k = 10 ∨ k = 11 ∨ k = 12 ∨ k = 13 ∨ k = 14 ∨ k = 15 ∨ k = 16 ∨ k = 17 ∨ k = 18 ∨ k = 19 ∨ k = 20 ∨ k = 21 ∨ k = 22 ∨ k = 23 ∨ k = 24 ∨ k = 25 := by omega
    rcases c with rfl | rfl | rfl | rfl | rfl | rfl | rfl | rfl | rfl | rfl | rfl | rfl | rfl | rfl | rfl | rfl | rfl | rfl | rfl | rfl | rfl | rfl | rfl | rfl | rfl | rfl <;> decide
  exact this k hk
theorem str_len {i : Nat} (hi : i < 4) : (strBy.getD i []).length = strLen.getD i 0 ∧ 1 ≤ strLen.getD i 0 ∧ strLen.getD i 0 ≤ 12 := by
  have c : i = 0 ∨ i = 1 ∨ i = 2 ∨ i = 3 := by omega
  rcases c with rfl | rfl | rfl | rfl <;> decide
set_option maxRecDepth 100000 in
set_option maxHeartbeats 1000000 in
theorem k_can {ro : Ro} {S : St} {I : In} {c : Int32} (hc : lowL c) : Ok mJ1_canEncode_9a6ad ro 0 0 0 [.int c] S I (RI (bi true) S I) := by
  refine ok_of (al := [.int c]) (by decide) (l8 rfl) rfl ?_
  refine v_iload_n (n := 1) dJ1_canEncode_9a6ad_0 rfl rfl rfl ?_
  refine v_if_lt (n := 4) (tgt := 15) dJ1_canEncode_9a6ad_1 (by decide) rfl (fun z => absurd z (low_b hc).2.1) (fun _ => ?_)
  refine v_iload_n (n := 5) dJ1_canEncode_9a6ad_4 rfl rfl rfl ?_
  refine v_sipush (n := 8) (v := 255) dJ1_canEncode_9a6ad_5 s_255 rfl ?_
  refine v_icmp_gt (n := 11) (tgt := 15) dJ1_canEncode_9a6ad_8 (by decide) rfl (fun z => absurd z (low_b hc).2.2.1) (fun _ => ?_)
  refine v_iconst (n := 12) (v := 1) dJ1_canEncode_9a6ad_11 c_1 rfl ?_
  refine v_goto (tgt := 16) dJ1_canEncode_9a6ad_12 (by decide) ?_
  exact v_rZ rfl rfl rfl rfl ⟨l8 rfl, l8 rfl⟩ dJ1_canEncode_9a6ad_16

set_option maxRecDepth 100000 in
set_option maxHeartbeats 1000000 in
theorem l_ixc {ro : Ro} {S : St} {I : In} {i : Nat} {c : Int32} {Q : Option Value → St → In → Prop} (hi : i < 4) (hQ : ∀ r, r = ixB c (strBy.getD i []) 0 → Q (some (.int r)) S I) : ∀ l j, (strBy.getD i []).drop j = l → j ≤ strLen.getD i 0 → ixB c l j = ixB c (strBy.getD i []) 0 → V RJ1 cJ1_indexOfChar_4cfef 6 (some .int) "indexOfChar" ro (rmD 0 0 0) (QM 0 0 Q) 0 0 7 [.ref (ro.2.2.2 i), .int c, .int 0, .int (nI (strLen.getD i 0)), .int c, .int (nI j)] [] S I := by
  obtain ⟨h1, h2, h3⟩ := str_len hi
  intro l
  induction l with
  | nil =>
    intro j hj hl he
    have hje : strLen.getD i 0 ≤ j := by rw [← h1]; exact List.drop_eq_nil_iff.mp hj
    refine v_iload (n := 9) dJ1_indexOfChar_4cfef_7 rfl rfl ?_
    refine v_iload_n (n := 10) dJ1_indexOfChar_4cfef_9 rfl rfl rfl ?_
    refine v_icmp_ge (n := 13) (tgt := 31) dJ1_indexOfChar_4cfef_10 (by decide) rfl (fun _ => ?_) (fun z => absurd ((nI_leI (by omega) (by omega)).mpr hje) z)
    refine v_iconst (n := 32) (v := -1) dJ1_indexOfChar_4cfef_31 c_m1 rfl ?_
    exact v_iret rfl (hQ _ he) ⟨l8 rfl, l8 rfl⟩ dJ1_indexOfChar_4cfef_32
  | cons b l ih =>
    intro j hj hl he
    have hjl : j < (strBy.getD i []).length := by
      rcases Nat.lt_or_ge j (strBy.getD i []).length with q | q
      · exact q
      · rw [List.drop_eq_nil_of_le q] at hj; cases hj
    have hb : (strBy.getD i []).getD j 0 = b := by
      rw [List.getD_eq_getElem?_getD, List.getElem?_eq_getElem hjl]
      rw [List.drop_eq_getElem_cons hjl] at hj
      exact (List.cons.inj hj).1
    have hd1 : (strBy.getD i []).drop (j + 1) = l := by
      rw [List.drop_eq_getElem_cons hjl] at hj
      exact (List.cons.inj hj).2
    refine v_iload (n := 9) dJ1_indexOfChar_4cfef_7 rfl rfl ?_
    refine v_iload_n (n := 10) dJ1_indexOfChar_4cfef_9 rfl rfl rfl ?_
    refine v_icmp_ge (n := 13) (tgt := 31) dJ1_indexOfChar_4cfef_10 (by decide) rfl (fun z => absurd (le_out z (by omega) (by omega)) (by omega)) (fun _ => ?_)
    refine v_aload_n (n := 14) dJ1_indexOfChar_4cfef_13 rfl rfl rfl ?_
    refine v_iload (n := 16) dJ1_indexOfChar_4cfef_14 rfl rfl ?_
    refine v_strB (n := 17) (i := i) (j := j) hi (ix_nI (by omega) (by omega)) dJ1_indexOfChar_4cfef_16 rfl ?_
    rw [hb]
    refine v_iload (n := 19) dJ1_indexOfChar_4cfef_17 rfl rfl ?_
    refine v_icmp_ne (n := 22) (tgt := 25) dJ1_indexOfChar_4cfef_19 (by decide) rfl (fun hq => ?_) (fun hq => ?_)
    · refine v_iinc (n := 28) (v := (nI j) + 1) (al' := [.ref (ro.2.2.2 i), .int c, .int 0, .int (nI (strLen.getD i 0)), .int c, .int ((nI j) + 1)]) dJ1_indexOfChar_4cfef_25 rfl (by rw [c_1]) rfl rfl rfl ?_
      refine v_goto (tgt := 7) dJ1_indexOfChar_4cfef_28 (by decide) ?_
      rw [nI_1]
      exact ih (j + 1) hd1 (by omega) (by rw [← he, ixB, if_neg hq])
    · refine v_iload (n := 24) dJ1_indexOfChar_4cfef_22 rfl rfl ?_
      exact v_iret rfl (hQ _ (by rw [← he, ixB, if_pos hq])) ⟨l8 rfl, l8 rfl⟩ dJ1_indexOfChar_4cfef_24

set_option maxRecDepth 100000 in
set_option maxHeartbeats 1000000 in
theorem k_ixc {ro : Ro} {S : St} {I : In} {i : Nat} {c : Int32} (hi : i < 4) (hc : lowL c) : Ok mJ1_indexOfChar_4cfef ro 0 0 0 [.ref (ro.2.2.2 i), .int c, .int 0, .int (nI (strLen.getD i 0))] S I (RI (ixB c (strBy.getD i []) 0) S I) := by
  refine ok_of (al := [.ref (ro.2.2.2 i), .int c, .int 0, .int (nI (strLen.getD i 0)), JJ, JJ]) (by decide) (l8 rfl) rfl ?_
  refine v_iload_n (n := 1) dJ1_indexOfChar_4cfef_0 rfl rfl rfl ?_
  refine v_i2b (n := 2) dJ1_indexOfChar_4cfef_1 rfl ?_
  rw [(low_b hc).1]
  refine v_istore (n := 4) (al' := [.ref (ro.2.2.2 i), .int c, .int 0, .int (nI (strLen.getD i 0)), .int c, JJ]) dJ1_indexOfChar_4cfef_2 rfl rfl rfl ?_
  refine v_iload_n (n := 5) dJ1_indexOfChar_4cfef_4 rfl rfl rfl ?_
  refine v_istore (n := 7) (al' := [.ref (ro.2.2.2 i), .int c, .int 0, .int (nI (strLen.getD i 0)), .int c, .int 0]) dJ1_indexOfChar_4cfef_5 rfl rfl rfl ?_
  exact l_ixc hi (fun r hr => ⟨by rw [hr], rfl, rfl⟩) _ 0 rfl (Nat.zero_le _) rfl

set_option maxRecDepth 100000 in
set_option maxHeartbeats 1000000 in
theorem k_ix1 {ro : Ro} {S : St} {I : In} {i : Nat} {c : Int32} (hi : i < 4) (hc : lowL c) : Ok mJ1_indexOf_4cfef ro 1 0 0 [.ref (ro.2.2.2 i), .int c, .int 0, .int (nI (strLen.getD i 0))] S I (RI (ixB c (strBy.getD i []) 0) S I) := by
  refine ok_of (al := [.ref (ro.2.2.2 i), .int c, .int 0, .int (nI (strLen.getD i 0))]) (by decide) (l8 rfl) rfl ?_
  obtain ⟨h1, h2, h3⟩ := str_len hi
  refine v_iload_n (n := 1) dJ1_indexOf_4cfef_0 rfl rfl rfl ?_
  refine v_cSi (n := 4) (x := bi true) mc_J1_canEncode_9a6ad l_J1_88 sta_J1_canEncode_9a6ad (k_can hc) ⟨rfl, rfl⟩ (l8 rfl) ⟨l8 rfl, l8 rfl⟩ rfl rfl (l8 rfl) dJ1_indexOf_4cfef_1 rfl ?_
  refine v_if_ne (n := 7) (tgt := 9) dJ1_indexOf_4cfef_4 (by decide) rfl (fun _ => ?_) (fun z => absurd z (by decide))
  refine v_iload_n (n := 10) dJ1_indexOf_4cfef_9 rfl rfl rfl ?_
  refine v_iconst (n := 11) (v := 0) dJ1_indexOf_4cfef_10 c_0 rfl ?_
  refine v_max (n := 14) l_J1_92 max_sta ini_J9 max_code ⟨rfl, rfl⟩ ⟨l8 rfl, l8 rfl⟩ (l8 rfl) dJ1_indexOf_4cfef_11 rfl ?_
  rw [show mx 0 0 = 0 from rfl]
  refine v_istore_n (n := 15) (al' := [.ref (ro.2.2.2 i), .int c, .int 0, .int (nI (strLen.getD i 0))]) dJ1_indexOf_4cfef_14 rfl rfl rfl rfl ?_
  refine v_iload_n (n := 16) dJ1_indexOf_4cfef_15 rfl rfl rfl ?_
  refine v_aload_n (n := 17) dJ1_indexOf_4cfef_16 rfl rfl rfl ?_
  refine v_strLen (n := 18) (i := i) hi dJ1_indexOf_4cfef_17 rfl ?_
  refine v_min (n := 21) l_J1_38 min_sta ini_J9 min_code ⟨rfl, rfl⟩ ⟨l8 rfl, l8 rfl⟩ (l8 rfl) dJ1_indexOf_4cfef_18 rfl ?_
  rw [show mn (nI (strLen.getD i 0)) (nI (strLen.getD i 0)) = (nI (strLen.getD i 0)) from if_neg (nI_nlt (Nat.le_refl _) (by omega))]
  refine v_istore_n (n := 22) (al' := [.ref (ro.2.2.2 i), .int c, .int 0, .int (nI (strLen.getD i 0))]) dJ1_indexOf_4cfef_21 rfl rfl rfl rfl ?_
  refine v_iload_n (n := 23) dJ1_indexOf_4cfef_22 rfl rfl rfl ?_
  refine v_iload_n (n := 24) dJ1_indexOf_4cfef_23 rfl rfl rfl ?_
  refine v_icmp_lt (n := 27) (tgt := 29) dJ1_indexOf_4cfef_24 (by decide) rfl (fun _ => ?_) (fun z => absurd (nI_lt (a := 0) (by omega) (by omega)) z)
  refine v_aload_n (n := 30) dJ1_indexOf_4cfef_29 rfl rfl rfl ?_
  refine v_iload_n (n := 31) dJ1_indexOf_4cfef_30 rfl rfl rfl ?_
  refine v_iload_n (n := 32) dJ1_indexOf_4cfef_31 rfl rfl rfl ?_
  refine v_iload_n (n := 33) dJ1_indexOf_4cfef_32 rfl rfl rfl ?_
  refine v_cSi (n := 36) (x := ixB c (strBy.getD i []) 0) mc_J1_indexOfChar_4cfef l_J1_95 sta_J1_indexOfChar_4cfef (k_ixc hi hc) ⟨rfl, rfl⟩ (l8 rfl) ⟨l8 rfl, l8 rfl⟩ rfl rfl (l8 rfl) dJ1_indexOf_4cfef_33 rfl ?_
  exact v_rI rfl rfl rfl rfl ⟨l8 rfl, l8 rfl⟩ dJ1_indexOf_4cfef_36

set_option maxRecDepth 100000 in
set_option maxHeartbeats 1000000 in
theorem k_ix2 {ro : Ro} {S : St} {I : In} {i : Nat} {c : Int32} (hi : i < 4) (hc : lowL c) : Ok mJ0_indexOf_7cf53 ro 2 0 0 [.ref (ro.2.2.1 i), .int c, .int 0] S I (RI (ixB c (strBy.getD i []) 0) S I) := by
  refine ok_of (al := [.ref (ro.2.2.1 i), .int c, .int 0]) (by decide) (l8 rfl) rfl ?_
  refine v_aload_n (n := 1) dJ0_indexOf_7cf53_0 rfl rfl rfl ?_
  refine v_callT (n := 4) (i := i) mc_J0_isLatin1_aae02 l_J0_492 iv_J0_isLatin1_aae02 se_J0_isLatin1_aae02 hi rfl (k_isLatin1 hi) ⟨rfl, rfl⟩ (l8 rfl) ⟨l8 rfl, l8 rfl⟩ rfl rfl (l8 rfl) dJ0_indexOf_7cf53_1 rfl ?_
  rintro _ _ _ ⟨rfl, hS9, hI9⟩
  subst hS9
  subst hI9
  refine v_if_eq (n := 7) (tgt := 23) dJ0_indexOf_7cf53_4 (by decide) rfl (fun z => absurd z (by decide)) (fun _ => ?_)
  refine v_aload_n (n := 8) dJ0_indexOf_7cf53_7 rfl rfl rfl ?_
  refine v_strV (n := 11) (i := i) hi fl_J0_9 dJ0_indexOf_7cf53_8 rfl ?_
  refine v_iload_n (n := 12) dJ0_indexOf_7cf53_11 rfl rfl rfl ?_
  refine v_iload_n (n := 13) dJ0_indexOf_7cf53_12 rfl rfl rfl ?_
  refine v_aload_n (n := 14) dJ0_indexOf_7cf53_13 rfl rfl rfl ?_
  refine v_callT (n := 17) (i := i) mc_J0_length_8abf5 l_J0_505 iv_J0_length_8abf5 se_J0_length_8abf5 hi rfl (k_length hi) ⟨rfl, rfl⟩ (l8 rfl) ⟨l8 rfl, l8 rfl⟩ rfl rfl (l8 rfl) dJ0_indexOf_7cf53_14 rfl ?_
  rintro _ _ _ ⟨rfl, hS9, hI9⟩
  subst hS9
  subst hI9
  refine v_cSi (n := 20) (x := ixB c (strBy.getD i []) 0) mc_J1_indexOf_4cfef l_J0_637 sta_J1_indexOf_4cfef (k_ix1 hi hc) ⟨rfl, rfl⟩ (l8 rfl) ⟨l8 rfl, l8 rfl⟩ rfl rfl (l8 rfl) dJ0_indexOf_7cf53_17 rfl ?_
  refine v_goto (tgt := 36) dJ0_indexOf_7cf53_20 (by decide) ?_
  exact v_rI rfl rfl rfl rfl ⟨l8 rfl, l8 rfl⟩ dJ0_indexOf_7cf53_36

set_option maxRecDepth 100000 in
set_option maxHeartbeats 1000000 in
theorem k_indexOf {ro : Ro} {S : St} {I : In} {i : Nat} {c : Int32} (hi : i < 4) (hc : lowL c) : Ok mJ0_indexOf_0f7a4 ro 3 0 0 [.ref (ro.2.2.1 i), .int c] S I (RI (ixB c (strBy.getD i []) 0) S I) := by
  refine ok_of (al := [.ref (ro.2.2.1 i), .int c]) (by decide) (l8 rfl) rfl ?_
  refine v_aload_n (n := 1) dJ0_indexOf_0f7a4_0 rfl rfl rfl ?_
  refine v_iload_n (n := 2) dJ0_indexOf_0f7a4_1 rfl rfl rfl ?_
  refine v_iconst (n := 3) (v := 0) dJ0_indexOf_0f7a4_2 c_0 rfl ?_
  refine v_callT (n := 6) (i := i) mc_J0_indexOf_7cf53 l_J0_633 iv_J0_indexOf_7cf53 se_J0_indexOf_7cf53 hi rfl (k_ix2 hi hc) ⟨rfl, rfl⟩ (l8 rfl) ⟨l8 rfl, l8 rfl⟩ rfl rfl (l8 rfl) dJ0_indexOf_0f7a4_3 rfl ?_
  rintro _ _ _ ⟨rfl, hS9, hI9⟩
  subst hS9
  subst hI9
  exact v_rI rfl rfl rfl rfl ⟨l8 rfl, l8 rfl⟩ dJ0_indexOf_0f7a4_6

