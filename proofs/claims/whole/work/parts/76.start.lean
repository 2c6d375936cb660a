/-! ===== the law: its start ===== -/
theorem x0_n : yn X0f = 0 := rfl
theorem x0_l : ln X0f = 0 := rfl
theorem gi_0 {S : St} {I : In} {x m B : Nat} (hm : m = x + 111) (hB : B = x + 134) (L : LayX S x) (LM : LayM S m) (hf : Fre S) (hx : IniX S I x) (hi : IniM I m) (hr : ∀ k, I m k = 0) (hz : S.2.2 = x + 134) : GI S I x m B 0 0 := by
  obtain ⟨⟨a1, ⟨a2, a3, a4, a5⟩, a6, ⟨a7, a8, a9, a10, a11, a12⟩, a13⟩, b1, b2, b3, b4, b5, b6, b7⟩ := hx
  obtain ⟨c1, c2, c3, ⟨c4, c5, c6⟩, c7, c8, c9⟩ := hi
  have e1 : I (m + 1) = X0f := funext c1
  have hV : VN S I (x + 1) B (I (m + 1)) 0 (fun _ => 0) := by
    rw [e1]
    unfold VN
    rw [x0_n, x0_l]
    refine ⟨⟨a1, fun y hy => absurd hy (by omega)⟩, ⟨⟨a2, a3, a4, a5⟩, fun i hi => absurd hi (by omega), fun t ht => ?_⟩, ⟨a7, a8, a9, a10, a11, a12⟩, fun k hk => ?_, fun t ht => absurd ht (by omega)⟩
    · rw [show x + 1 + 6 + 3 = x + 1 + 9 by omega, a6 t ht]
      rcases (show t = 0 ∨ t = 1 ∨ t = 2 ∨ t = 3 ∨ t = 4 ∨ t = 5 by omega) with rfl | rfl | rfl | rfl | rfl | rfl <;> rfl
    · rw [a13 k]
      exact (if_pos (show cnt X0f (nI k) 0 < 0 from (by decide : (-1 : Int32) < 0))).symm
  have hk : VK (I (m + 1)) 0 0 := by
    rw [e1]
    refine ⟨⟨rfl, by rw [x0_n]; omega, rfl, by rw [x0_l]; omega, ⟨rfl, by omega, fun t ht => absurd ht (by omega)⟩, ⟨fun _ => 0, fun i hi => absurd hi (by rw [x0_l]; omega), by rw [x0_l]; exact Nat.le_refl _⟩, ⟨0, rfl, Or.inr rfl⟩, ⟨5, by omega, rfl⟩, ⟨3, by omega, rfl⟩, fun y hy => absurd hy (by rw [x0_n]; omega)⟩, ⟨by decide, by decide⟩, ⟨0, by omega, rfl⟩, fun q hq => ?_⟩
    unfold X0f
    rw [if_neg (by omega), if_neg (by omega), if_neg (by omega), if_neg (by omega)]
  refine ⟨⟨hm, hB⟩, ⟨L, LM, hf⟩, 0, fun _ => 0, 0, ⟨hV, hk⟩, ⟨fun u hu => absurd hu (by omega), ⟨by rw [b1, hr], fun h0 => absurd (hr 3) h0⟩, ⟨fun s hs => ?_, fun s hs => ?_, ⟨by rw [b5, hr], fun q => by rw [b6, c3]⟩, ⟨by rw [b2, hr], fun q _ => by rw [b7, c8]⟩⟩, ⟨fun s hs => ?_, fun s hs => ?_, ⟨0, by omega, hr 33⟩, ⟨0, by omega, hr 7⟩, Or.inl (hr 3)⟩, fun q hq => ?_, c2, fun q _ => c9 q⟩, by omega, by omega⟩
  · obtain ⟨d1, d2, d3⟩ := b3 s hs
    exact ⟨by rw [d1, c4 s hs], by rw [d2, c5], fun q _ => by rw [d3, c6]⟩
  · refine ⟨by rw [b4 s hs, c7], fun z => ?_, fun z => ?_, fun z => ?_⟩
    · rw [c7] at z; exact absurd z (by decide)
    · rw [c7] at z; exact absurd z (by decide)
    · rw [c7] at z; exact absurd z (by decide)
  · exact ⟨Or.inl (c4 s hs), 0, by omega, c5 s⟩
  · exact ⟨Or.inl (c7 s), fun z => absurd z (by rw [c7]; decide)⟩
  · rw [c6]; exact Or.inr (by decide)
set_option maxRecDepth 100000 in
set_option maxHeartbeats 4000000 in
theorem la_start {rt : Option FieldType} {nm : String} {ro : Ro} {Qf : Wd → List Frame → Array Value → State → State → Prop} {x : Nat} (hb0 : ∀ w s, KK w ro s → ¬ wA w ro.2.1.1) (hL : ro.2.1.2.1 ≤ 384) (hend : ∀ cells slots al S I, cells ≤ 600000 → slots ≤ 7302250 → LW rt nm ro Qf cells slots 1402 al [.int 1] S I) : LW rt nm ro Qf 0 0 0 [.ref ro.2.1.1, JJ, JJ, JJ] [] (fun _ => none, fun _ _ => .null, x) (fun _ _ => 0) := by
  refine v_new (n := 3) (ci := 9) (N := 11) (by decide) rfl cl_L_7 in_X10 ini_X10 ⟨l8 rfl, l8 rfl⟩ dL_law_0 rfl ?_
  refine v_dup (n := 4) dL_law_3 rfl rfl ?_
  refine v_callI (n := 7) (D := 200) (As := []) (rest := [.ref x]) mc_X10_init l_L_9 iv_X10_init rfl (k_X10_init (x := x) rfl (if_pos rfl)) ⟨rfl, rfl⟩ (l8 rfl) ⟨l8 rfl, l8 rfl⟩ rfl rfl (l8 rfl) dL_law_4 rfl ?_
  rintro _ S1 I1 ⟨rfl, L1, X1, z1, -, f1⟩
  have F1 : Fre S1 := f1 (fun c hc => if_neg (fun z => by subst z; exact absurd hc (Nat.not_succ_le_self _)))
  clear f1
  refine v_astore_n (n := 8) (al' := [.ref ro.2.1.1, .ref x, JJ, JJ]) dL_law_7 rfl rfl rfl rfl ?_
  refine v_new (n := 11) (ci := 10) (N := 34) (by decide) rfl cl_L_10 in_X11 ini_X11 ⟨l8 rfl, l8 rfl⟩ dL_law_8 rfl ?_
  rw [z1]
  refine v_dup (n := 12) dL_law_11 rfl rfl ?_
  refine v_callI (n := 15) (D := 200) (As := []) (rest := [.ref (x + 111)]) mc_X11_init l_L_12 iv_X11_init rfl (k_X11_init (m := x + 111) (by show S1.2.2 + 1 = _; rw [z1]) (by show (if x + 111 = S1.2.2 then some (10, 0) else S1.1 (x + 111)) = _; rw [z1, if_pos rfl])) ⟨rfl, rfl⟩ (l8 rfl) ⟨l8 rfl, l8 rfl⟩ rfl rfl (l8 rfl) dL_law_12 rfl ?_
  rintro _ S2 I2 ⟨rfl, LM, XM, mm, z2, e2, f2⟩
  have F2 : Fre S2 := f2 (fun c hc => by
    have hc' : S1.2.2 + 1 ≤ c := hc
    show (if c = S1.2.2 then some (10, 0) else S1.1 c) = none
    rw [if_neg (by omega)]
    exact F1 c (by omega))
  clear f2
  refine v_astore_n (n := 16) (al' := [.ref ro.2.1.1, .ref x, .ref (x + 111), JJ]) dL_law_15 rfl rfl rfl rfl ?_
  refine v_iconst (n := 17) (v := 0) dL_law_16 rfl rfl ?_
  refine v_istore_n (n := 18) (al' := [.ref ro.2.1.1, .ref x, .ref (x + 111), .int (nI (6 * 0))]) dL_law_17 rfl rfl rfl rfl ?_
  have q : ∀ c, c < x + 111 → S2.1 c = S1.1 c ∧ S2.2.1 c = S1.2.1 c ∧ I2 c = I1 c := fun c hc => by
    obtain ⟨g1, g2, g3⟩ := e2 c (Nat.zero_le _) hc
    refine ⟨g1.trans (if_neg (by omega)), g2.trans ?_, g3.trans ?_⟩
    · funext k; exact if_neg (by omega)
    · funext k; exact if_neg (by omega)
  refine la_loop hb0 hL hend 384 0 _ _ S2 I2 (by omega) (by omega) (gi_0 rfl rfl ?_ LM F2 ?_ XM ?_ (by rw [z2])) (l8 rfl) (l8 rfl)
  · exact L1.tx (fun c _ c2 => (q c c2).1) (fun c _ c2 _ _ _ => (q c c2).2.1) (by rw [(q (x + 82) (by omega)).2.1])
  · obtain ⟨b0, b1, b2, b3, b4, b5, b6, b7⟩ := X1
    have i : ∀ c, c < x + 111 → I2 c = I1 c := fun c hc => (q c hc).2.2
    refine ⟨b0.eb (fun c c1 c2 => q c (by omega)), by rw [i x (by omega)]; exact b1, by rw [i x (by omega)]; exact b2, fun k hk => ?_, fun k hk => by rw [i _ (by omega)]; exact b4 k hk, by rw [i _ (by omega)]; exact b5, fun k => by rw [i _ (by omega)]; exact b6 k, fun k => by rw [i _ (by omega)]; exact b7 k⟩
    obtain ⟨d1, d2, d3⟩ := b3 k hk
    exact ⟨by rw [i _ (by omega)]; exact d1, by rw [i _ (by omega)]; exact d2, fun n => by rw [i _ (by omega)]; exact d3 n⟩
  · intro k
    rw [mm]
    show (if x + 111 = S1.2.2 then (0 : Int32) else I1 (x + 111) k) = 0
    rw [z1, if_pos rfl]
