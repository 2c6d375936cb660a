/-! ===== the calls of the class: text ===== -/
theorem LayV.tx {S S' : St} {v : Nat} (h : LayV S v) (h1 : ∀ c, v ≤ c → c < v + 11 → S'.1 c = S.1 c) (h2 : ∀ c, v ≤ c → c < v + 10 → S'.2.1 c = S.2.1 c) : LayV S' v :=
  have e : ∀ I : In, EqB v (v + 10) S I S' I := fun I c a b => ⟨h1 c a (by omega), h2 c a b, rfl⟩
  ⟨by rw [h1 v (by omega) (by omega)]; exact h.1, by rw [h2 v (by omega) (by omega)]; exact h.2.1, h.2.2.1.eb ((e (fun _ _ => 0)).sub (by omega) (by omega)), h.2.2.2.1.eb ((e (fun _ _ => 0)).sub (by omega) (by omega)), by rw [h1 (v + 10) (by omega) (by omega)]; exact h.2.2.2.2⟩
theorem LayX.tx {S S' : St} {x : Nat} (h : LayX S x) (h1 : ∀ c, x ≤ c → c < x + 111 → S'.1 c = S.1 c) (h2 : ∀ c, x ≤ c → c < x + 111 → c ≠ x + 82 → c ≠ x + 84 → c ≠ x + 11 → S'.2.1 c = S.2.1 c) (h82 : S'.2.1 (x + 82) 0 = S.2.1 (x + 82) 0) : LayX S' x := by
  obtain ⟨q1, q2, ⟨a1, a2, a3, a4, a5⟩, q4, q5, q6⟩ := h
  have e : ∀ lo hi, x ≤ lo → hi ≤ x + 111 → (hi ≤ x + 11 ∨ x + 12 ≤ lo) → (hi ≤ x + 82 ∨ x + 85 ≤ lo) → EqB lo hi S (fun _ _ => 0) S' (fun _ _ => 0) := fun lo hi u1 u2 u3 u4 c c1 c2 => ⟨h1 c (by omega) (by omega), h2 c (by omega) (by omega) (by omega) (by omega) (by omega), rfl⟩
  refine ⟨by rw [h1 x (by omega) (by omega)]; exact q1, by rw [h2 x (by omega) (by omega) (by omega) (by omega) (by omega)]; exact q2, ⟨a1.tx (fun c _ _ => h1 c (by omega) (by omega)) (fun c _ _ => h2 c (by omega) (by omega) (by omega) (by omega) (by omega)), a2.eb (e _ _ (by omega) (by omega) (by omega) (by omega)), a3.eb (e _ _ (by omega) (by omega) (by omega) (by omega)), a4.eb (e _ _ (by omega) (by omega) (by omega) (by omega)), ⟨by rw [h1 _ (by omega) (by omega)]; exact a5.1, by rw [h82]; exact a5.2.1, by rw [h1 _ (by omega) (by omega)]; exact a5.2.2⟩⟩, ⟨by rw [h1 _ (by omega) (by omega)]; exact q4.1, by rw [h1 _ (by omega) (by omega)]; exact q4.2.1, by rw [h1 _ (by omega) (by omega)]; exact q4.2.2.1, by rw [h1 _ (by omega) (by omega)]; exact q4.2.2.2⟩, fun i hi => ?_, fun i hi => ?_⟩
  · rw [h2 (x + 85) (by omega) (by omega) (by omega) (by omega) (by omega)]
    exact ⟨(q5 i hi).1, (q5 i hi).2.eb (e _ _ (by omega) (by omega) (by omega) (by omega))⟩
  · rw [h2 (x + 86) (by omega) (by omega) (by omega) (by omega) (by omega)]
    exact ⟨(q6 i hi).1, (q6 i hi).2.eb (e _ _ (by omega) (by omega) (by omega) (by omega))⟩
theorem BlR.cg2 {J : In} {b l : Nat} {X Y : Ar} (h : BlR J b X l) (hl : l ≤ 30) (he : ∀ j, 6 ≤ j → j < 76 → j ≠ 7 → j ≠ 9 → Y j = X j) : BlR J b Y l := by
  obtain ⟨⟨a1, a2, a3, a4⟩, r, t⟩ := h
  refine ⟨⟨a1, ?_, ?_, ?_⟩, fun i hi => ?_, fun i hi => ?_⟩
  · rw [wS_cong (X := X) (Y := Y) l (fun i hi => he _ (by omega) (by omega) (by omega) (by omega))]; exact a2
  · rw [he 6 (by decide) (by decide) (by decide) (by decide)]; exact a3
  · rw [he 8 (by decide) (by decide) (by decide) (by decide)]; exact a4
  · rw [he _ (by omega) (by omega) (by omega) (by omega), he _ (by omega) (by omega) (by omega) (by omega)]; exact r i hi
  · rw [he _ (by omega) (by omega) (by omega) (by omega)]; exact t i hi
/-- how far a text may change the heap -/
def TxF (S : St) (I : In) (x : Nat) (S' : St) (I' : In) : Prop := (∀ c, c < S.2.2 → S'.1 c = S.1 c) ∧ (∀ c, c < S.2.2 → c ≠ x + 82 → c ≠ x + 84 → c ≠ x + 11 → S'.2.1 c = S.2.1 c) ∧ ∀ c, c < S.2.2 → c ≠ x + 1 → c ≠ x + 80 → c ≠ x + 82 → c ≠ x + 83 → I' c = I c
theorem fre_lt {S : St} {c : Nat} {q : Nat × Nat} (h : Fre S) (hc : S.1 c = some q) : c < S.2.2 := by
  rcases Nat.lt_or_ge c S.2.2 with z | z
  · exact z
  · rw [h c z] at hc; cases hc
theorem LawR.tx {S S' : St} {I I' : In} {x B t c : Nat} {X Y : Ar} (h : LawR S I B X t c) (hB : x + 134 ≤ B) (hf : Fre S) (hT : TxF S I x S' I') (he : Y (116 + 2 * t) = X (116 + 2 * t) ∧ Y (117 + 2 * t) = X (117 + 2 * t) ∧ ∀ j, j < 96 → Y (144 + 96 * t + j) = X (144 + 96 * t + j)) : LawR S' I' B Y t c := by
  obtain ⟨key, n, na, i, h1, h2, h3, h4, h5, h6, h7, h8, h9, h10, h11⟩ := h
  have c2 := fre_lt hf h3.c4
  have r : ∀ d, B ≤ d → d < S.2.2 → S'.1 d = S.1 d ∧ S'.2.1 d = S.2.1 d ∧ I' d = I d := fun d d1 d2 => ⟨hT.1 d d2, hT.2.1 d d2 (by omega) (by omega) (by omega), hT.2.2 d d2 (by omega) (by omega) (by omega) (by omega)⟩
  obtain ⟨e1, e2, e3⟩ := he
  refine ⟨key, n, na, i, h1, h2, ⟨by rw [(r c (by omega) (by omega)).1]; exact h3.1, by rw [(r (c + 1) (by omega) (by omega)).1]; exact h3.2.1, by rw [(r (c + 2) (by omega) (by omega)).1]; exact h3.2.2.1, by rw [(r (c + 1) (by omega) (by omega)).2.1]; exact h3.2.2.2⟩, by rw [(r (c + 1) (by omega) (by omega)).2.2]; exact h4, by rw [(r (c + 1) (by omega) (by omega)).2.2]; exact h5, by rw [(r (c + 1) (by omega) (by omega)).2.2]; exact h6, fun k hk => ?_, e1.trans h8, e2.trans h9, h10, h11.cong e3⟩
  rw [(r c (by omega) (by omega)).2.2, e3 k (by omega)]
  exact h7 k hk
theorem cnt_lt {X : Ar} {k : Int32} : ∀ {T : Nat}, ¬ cnt X k T < 0 → T ≤ 14 → (cnt X k T).toNatClampNeg < T
  | 0, h, _ => absurd (show cnt X k 0 < 0 from (by decide : (-1 : Int32) < 0)) h
  | T + 1, h, hT => by
    rw [cnt] at h ⊢
    by_cases q : X (116 + 2 * T) / 1000 = k
    · rw [if_pos q, nI_clamp (by omega)]; omega
    · rw [if_neg q] at h ⊢
      have := cnt_lt h (by omega)
      omega
/-- the image over a text -/
theorem VN.img {S S' : St} {I I' : In} {x B T T2 : Nat} {Y : Ar} {lw lw2 : Nat → Nat} (h : VN S I (x + 12) B Y T2 lw) (hB : x + 134 ≤ B) (hBz : B ≤ S.2.2) (hf : Fre S) (hT : TxF S I x S' I') (hle : T2 ≤ T) (hT14 : T2 ≤ 14) (hlw : ∀ t, t < T → lw2 t = lw t) : VN S' I' (x + 12) B Y T2 lw2 := by
  obtain ⟨h1, h2, h3, h4, h5⟩ := h
  have r : ∀ c, x + 12 ≤ c → c < x + 23 → I' c = I c := fun c c1 c2 => hT.2.2 c (by omega) (by omega) (by omega) (by omega) (by omega)
  have hE : Eqx (fun a => a < x + 12 ∨ x + 23 ≤ a) I I' := fun a ha => r a (by omega) (by omega)
  refine ⟨h1.eqx hE (fun a z => by omega), h2.eqx hE (fun a z => by omega), h3.eqx hE (by omega), fun k hk => ?_, fun t ht => ?_⟩
  · rw [hT.2.1 _ (by omega) (by omega) (by omega) (by omega), h4 k hk]
    by_cases q : cnt Y (nI k) T2 < 0
    · rw [if_pos q, if_pos q]
    · rw [if_neg q, if_neg q, hlw _ (by have := cnt_lt q hT14; omega)]
  · rw [hlw t (by omega)]
    exact (h5 t ht).tx hB hf hT ⟨rfl, rfl, fun _ _ => rfl⟩

def TxQ (S : St) (I : In) (x B T b i0 : Nat) (lw : Nat → Nat) (F : Int32 × Ar) : Option Value → St → In → Prop := fun r S' I' => r = some (.int F.1) ∧ I' (x + 80) 1 = 0 ∧ Fre S' ∧ LayX S' x ∧ TxF S I x S' I' ∧ ∃ T' lw' i1, VN S' I' (x + 1) B F.2 T' lw' ∧ WN F.2 T' b ∧ (∀ u, u < T' → S'.2.1 (x + 84) u = .ref (lw' u + 1)) ∧ T ≤ T' ∧ (∀ u, u < T → lw' u = lw u) ∧ S'.2.2 = B + 3 * i1 ∧ i1 ≤ i0 + 1
theorem tx_VN {S S' : St} {I I' : In} {x B T key len na : Nat} {X cd : Ar} {lw : Nat → Nat} (h : VN S I (x + 1) B X T lw) (hB : x + 134 ≤ B) (hBz : B ≤ S.2.2) (hf : Fre S) (hF : TxF S I x S' I') (hT : T < 14) (hn10 : yn X ≤ 10) (hl30 : ln X ≤ 30) (hk : key < 3) (hl : len ≤ 96) (hw : WFT cd (nfs key) len na) (hc : ∃ i, S.2.2 = B + 3 * i) (LL : LayL S' S.2.2 len na) (h0 : I' (S.2.2 + 1) 0 = nI T ∧ I' (S.2.2 + 1) 1 = nI key ∧ I' (S.2.2 + 1) 2 = nI na) (hcd : ∀ k, k < len → I' S.2.2 k = trC key (cd k)) (hg : S'.2.1 (x + 11) key = .ref (S.2.2 + 1)) (hg2 : ∀ k, k ≠ key → S'.2.1 (x + 11) k = S.2.1 (x + 11) k) (hv3 : I' (x + 1) 3 = nI (T + 1)) (hv : ∀ k, k ≠ 3 → I' (x + 1) k = I (x + 1) k) :
    VN S' I' (x + 1) B (txX X T key cd len na) (T + 1) (fun u => if u = T then S.2.2 else lw u) := by
  have e1 : yn (txX X T key cd len na) = yn X := by unfold yn; rw [tx_lo (by decide) (by decide)]
  have e2 : ln (txX X T key cd len na) = ln X := by unfold ln; rw [tx_lo (by decide) (by decide)]
  unfold VN
  rw [e1, e2, tx_lo (by decide) (by decide)]
  obtain ⟨h1, h2, ⟨v3, v4, v5, v6, v7, v8⟩, h4, h5⟩ := h
  have r : ∀ c, x + 2 ≤ c → c < x + 12 → I' c = I c := fun c c1 c2 => hF.2.2 c (by omega) (by omega) (by omega) (by omega) (by omega)
  have hE : Eqx (fun a => a < x + 2 ∨ x + 12 ≤ a) I I' := fun a ha => r a (by omega) (by omega)
  refine ⟨(h1.eqx hE (fun a z => by omega)).cong (fun j _ _ => tx_lo (by omega) (by omega)), (h2.eqx hE (fun a z => by omega)).cg2 hl30 (fun j _ _ _ _ => tx_lo (by omega) (by omega)), ⟨?_, ?_, ?_, ?_, ?_, ?_⟩, fun k hk3 => ?_, fun u hu => ?_⟩
  · rw [hv3, tx_9]
  · rw [hv 4 (by decide), tx_lo (by decide) (by decide)]; exact v4
  · rw [hv 5 (by decide), tx_lo (by decide) (by decide)]; exact v5
  · rw [hv 6 (by decide), tx_lo (by decide) (by decide)]; exact v6
  · rw [hv 7 (by decide)]; exact v7
  · rw [hv 8 (by decide), tx_lo (by decide) (by decide)]; exact v8
  · rw [tx_cnt hT hk hl k hk3]
    by_cases e : k = key
    · rw [if_pos e, if_neg (nI_nlt0 (by omega)), nI_clamp (by omega)]
      show S'.2.1 (x + 11) k = .ref ((if T = T then S.2.2 else lw T) + 1)
      rw [if_pos rfl, e]; exact hg
    · rw [if_neg e, show x + 1 + 10 = x + 11 from rfl, hg2 k e]
      refine (h4 k hk3).trans ?_
      by_cases q : cnt X (nI k) T < 0
      · rw [if_pos q, if_pos q]
      · rw [if_neg q, if_neg q]
        show Value.ref (lw _ + 1) = Value.ref ((if (cnt X (nI k) T).toNatClampNeg = T then S.2.2 else lw _) + 1)
        rw [if_neg (by have := cnt_lt q (by omega); omega)]
  · by_cases e : u = T
    · subst e
      show LawR S' I' B (txX X u key cd len na) u (if u = u then S.2.2 else lw u)
      rw [if_pos rfl]
      obtain ⟨i, hi⟩ := hc
      exact ⟨key, len, na, i, hk, hi, LL, h0.1, h0.2.1, h0.2.2, fun k hk => by rw [tx_c hk]; exact hcd k hk, tx_a hT, tx_b hT, hl, tx_WFT hw⟩
    · show LawR S' I' B (txX X T key cd len na) u (if u = T then S.2.2 else lw u)
      rw [if_neg e]
      exact (h5 u (by omega)).tx hB hf hF (tx_t (by omega) hT)
theorem lt_14 {T : Nat} (hT : T ≤ 14) (h : nI T < 14) : T < 14 := (nI_ltI (b := 14) (by omega) (by decide)).mp h
theorem ev_le {t : Ar} {n key : Nat} : ∀ f tt i p b (s : PS), tt ≤ 5 → TW t n s.1 → (ev t n key f tt i p b s).2.1.2.1 ≤ n := by
  intro f
  induction f with
  | zero => intro tt i p b s _ hw; exact hw.fle
  | succ f ih =>
    intro tt i p b s ht hw
    rw [ev]
    by_cases c5 : tt = 5
    · rw [if_pos c5]
      by_cases c1 : 0 ≤ atF t key s.1
      · rw [if_pos c1]; exact hw.nx.fle
      · rw [if_neg c1]
        by_cases c2 : (s.1.1 = 3 ∧ t s.1.2.1 = 33) ∧ b < 8
        · rw [if_pos c2]
          have IH := ih 5 0 p (b + 1) (nxT t n s.1, s.2) (Nat.le_refl _) hw.nx
          unfold afN
          by_cases q : (ev t n key f 5 0 p (b + 1) (nxT t n s.1, s.2)).1 = 1
          · rw [if_pos q]; exact IH
          · rw [if_neg q]; exact IH
        · rw [if_neg c2]
          by_cases c3 : (s.1.1 = 3 ∧ t s.1.2.1 = 40) ∧ p < 8
          · rw [if_pos c3]
            have IH := ih 0 0 (p + 1) b (nxT t n s.1, s.2) (Nat.zero_le _) hw.nx
            unfold afP
            by_cases q : (ev t n key f 0 0 (p + 1) b (nxT t n s.1, s.2)).1 = 1
            · rw [if_pos q]
              split
              · exact (evA f 0 0 (p + 1) b (nxT t n s.1, s.2) (Nat.zero_le _) hw.nx q).1.nx.fle
              · exact IH
            · rw [if_neg q]; exact IH
          · rw [if_neg c3]; exact hw.fle
    · rw [if_neg c5]
      by_cases c0 : i = 0
      · rw [if_pos c0]
        by_cases q : (ev t n key f (tt + 1) 0 p b s).1 = 1
        · rw [if_pos q]; exact ih tt 1 p b _ ht (evA f (tt + 1) 0 p b s (by omega) hw q).1
        · rw [if_neg q]; exact ih (tt + 1) 0 p b s (by omega) hw
      · rw [if_neg c0]
        by_cases c1 : i - 1 < most tt ∧ lvT t s.1 = tt
        · rw [if_pos c1]
          by_cases q : (ev t n key f (tt + 1) 0 p b (nxT t n s.1, s.2)).1 = 1
          · rw [if_pos q]; exact ih tt (i + 1) p b _ ht (evA f (tt + 1) 0 p b (nxT t n s.1, s.2) (by omega) hw.nx q).1
          · rw [if_neg q]; exact ih (tt + 1) 0 p b (nxT t n s.1, s.2) (by omega) hw.nx
        · rw [if_neg c1]; exact hw.fle
theorem ft_le {t : Ar} {n : Nat} (hn : n ≤ 96) : (psR t n).2.1.2.1 ≤ n := ev_le (100 + 20 * n) 0 0 0 0 (nxT t n (fs1 t n), [], 0) (by decide) TW.f1.nx
set_option maxRecDepth 100000 in
set_option maxHeartbeats 1000000 in
theorem c_X10_text {ro : Ro} {S : St} {I : In} {x B T b n i0 : Nat} {X t : Ar} {lw : Nat → Nat} (L : LayX S x) (h : VN S I (x + 1) B X T lw) (hW : WN X T b) (hB : x + 134 ≤ B) (hz : S.2.2 = B + 3 * i0) (hf : Fre S) (hlw : ∀ u, u < T → S.2.1 (x + 84) u = .ref (lw u + 1)) (hn1 : I (x + 80) 1 = nI n) (hn : n ≤ 96) (ht : I (x + 80 + 1) = t) : Ok mX10_text ro 101 3 197 [.ref x] S I (TxQ S I x B T b i0 lw (textS t n X T)) := by
  refine ok_of (al := [.ref x, JJ, JJ]) (by decide) (l8 rfl) rfl ?_
  have hT14 := hW.2.2.2.2.1.2.1
  refine v_aload_n (n := 1) dX10_text_0 rfl rfl rfl ?_
  refine v_getR (n := 4) f_X10_40 rfl L.s L.g5 dX10_text_1 rfl ?_
  refine v_aload_n (n := 5) dX10_text_4 rfl rfl rfl ?_
  refine v_getR (n := 8) f_X10_33 rfl L.s L.g4 dX10_text_5 rfl ?_
  refine v_callV (n := 11) mc_X4_faultOf l_X10_241 iv_X4_faultOf se_X4_faultOf (ci := 3) ⟨by decide, rfl⟩ L.c5.s (k_X4_faultOf (n := n) (t := t) L.c5 L.c4 hn1 hn ht (by omega) (by omega)) ⟨rfl, rfl⟩ (l8 rfl) ⟨l8 rfl, l8 rfl⟩ rfl rfl (l8 rfl) dX10_text_8 rfl ?_
  rintro _ S1 I1 ⟨hS1, rfl, q1, q2⟩
  have p1 : PutO S (x + 82) 4 (.ref (x + 80 + 1)) S1 := by rw [hS1]; exact putO
  have L1 : LayX S1 x := L.tx (fun c _ _ => by rw [p1.1]) (fun c _ _ c3 _ _ => p1.2.2.2.2 c c3) (p1.2.2.2.1 0 (by decide))
  refine v_istore_n (n := 12) (al' := [.ref x, .int (if okT t n = true then -1 else nI (ftP t n)), JJ]) dX10_text_11 rfl rfl rfl rfl ?_
  refine v_aload_n (n := 13) dX10_text_12 rfl rfl rfl ?_
  refine v_getR (n := 16) f_X10_33 rfl L1.s L1.g4 dX10_text_13 rfl ?_
  refine v_iconst (n := 17) (v := 0) dX10_text_16 c_0 rfl ?_
  refine v_putI (n := 20) f_X10_234 rfl (Or.inl rfl) L1.c4.s dX10_text_17 rfl ?_
  obtain ⟨I2, hI2⟩ : ∃ I2, I2 = setI I1 (x + 80) 1 0 := ⟨_, rfl⟩
  rw [← hI2]
  have r2 : ∀ c, c ≠ x + 80 → c ≠ x + 82 → c ≠ x + 83 → I2 c = I c := fun c c1 c2 c3 => by rw [hI2, setI_ne c1]; exact q2 c c2 c3
  have t80 : I2 (x + 80) 1 = 0 := by rw [hI2, sI_s]
  have F2 : TxF S I x S1 I2 := ⟨fun c _ => by rw [p1.1], fun c _ c1 _ _ => p1.2.2.2.2 c c1, fun c _ _ c2 c3 c4 => r2 c c2 c3 c4⟩
  have h1 : VN S1 I2 (x + 1) B X T lw := by
    obtain ⟨a1, a2, a3, a4, a5⟩ := h
    have hE : Eqx (fun a => a = x + 80 ∨ a = x + 82 ∨ a = x + 83) I I2 := fun a ha => r2 a (fun z => ha (Or.inl z)) (fun z => ha (Or.inr (Or.inl z))) (fun z => ha (Or.inr (Or.inr z)))
    refine ⟨a1.eqx hE (fun a z => by omega), a2.eqx hE (fun a z => by omega), a3.eqx hE (by omega), fun k hk => by rw [p1.2.2.2.2 _ (by omega)]; exact a4 k hk, fun u hu => (a5 u hu).tx hB hf F2 ⟨rfl, rfl, fun _ _ => rfl⟩⟩
  have done : ∀ v : Int32, (textS t n X T) = (v, X) → TxQ S I x B T b i0 lw (textS t n X T) (some (.int v)) S1 I2 := by
    intro v hv
    rw [hv]
    exact ⟨rfl, t80, p1.f hf, L1, F2, T, lw, i0, h1, hW, fun u hu => by rw [p1.2.2.2.2 _ (by omega)]; exact hlw u hu, Nat.le_refl _, fun _ _ => rfl, by rw [p1.2.1]; exact hz, by omega⟩
  refine v_iload_n (n := 21) dX10_text_20 rfl rfl rfl ?_
  refine v_if_lt (n := 24) (tgt := 29) dX10_text_21 (by decide) rfl (fun hq => ?_) (fun hq => ?_)
  · have hok : okT t n = true := by
      rcases Bool.eq_false_or_eq_true (okT t n) with z | z
      · exact z
      · have hft : ftP t n ≤ n := by
          unfold ftP
          by_cases c : kyT t n < 3
          · rw [if_pos c]; exact ft_le hn
          · rw [if_neg c]; exact TW.f1.fle
        rw [if_neg (by rw [z]; decide)] at hq
        exact absurd hq (nI_nlt0 (by omega))
    obtain ⟨k1, k2, k3, k4⟩ := ok_facts hn hok
    obtain ⟨g1, g2, g3, g4⟩ := q1 hok
    have e3 : I2 (x + 1) 3 = nI T := by rw [r2 _ (by omega) (by omega) (by omega), h.2.2.1.1]; exact hW.2.2.2.2.1.1
    refine v_aload_n (n := 30) dX10_text_29 rfl rfl rfl ?_
    refine v_getR (n := 33) f_X10_10 rfl L1.s L1.g0 dX10_text_30 rfl ?_
    refine v_getI (n := 36) f_X10_245 rfl L1.c0.s dX10_text_33 rfl ?_
    rw [e3]
    refine v_bipush (n := 38) (v := 14) dX10_text_36 b_14 rfl ?_
    refine v_icmp_lt (n := 41) (tgt := 44) dX10_text_38 (by decide) rfl (fun hq2 => ?_) (fun hq2 => ?_)
    · have hT := lt_14 hT14 hq2
      have hne : ¬ X 9 = 14 := by rw [hW.2.2.2.2.1.1]; exact fun z => absurd ((nI_eq (b := 14) (by omega) (by decide)).mp z) (by omega)
      have hres : (textS t n X T) = (nI T, txX X T (kyT t n) (cdL (psR t n).2.2.1) (psR t n).2.2.1.length (psR t n).2.2.2) := by rw [textS, if_pos hok, if_neg hne]
      refine v_aload_n (n := 45) dX10_text_44 rfl rfl rfl ?_
      refine v_getR (n := 48) f_X10_10 rfl L1.s L1.g0 dX10_text_45 rfl ?_
      refine v_getI (n := 51) f_X10_245 rfl L1.c0.s dX10_text_48 rfl ?_
      rw [e3]
      refine v_istore_n (n := 52) (al' := [.ref x, .int (if okT t n = true then -1 else nI (ftP t n)), .int (nI T)]) dX10_text_51 rfl rfl rfl rfl ?_
      refine v_aload_n (n := 53) dX10_text_52 rfl rfl rfl ?_
      refine v_getR (n := 56) f_X10_46 rfl L1.s L1.g6 dX10_text_53 rfl ?_
      refine v_iload_n (n := 57) dX10_text_56 rfl rfl rfl ?_
      refine v_aload_n (n := 58) dX10_text_57 rfl rfl rfl ?_
      refine v_getR (n := 61) f_X10_40 rfl L1.s L1.g5 dX10_text_58 rfl ?_
      refine v_iload_n (n := 62) dX10_text_61 rfl rfl rfl ?_
      have z1 : S1.2.2 = S.2.2 := p1.2.1
      have hBz : B ≤ S.2.2 := by omega
      refine v_callV (n := 65) mc_X4_lawNumbered l_X10_248 iv_X4_lawNumbered se_X4_lawNumbered (ci := 3) ⟨by decide, rfl⟩ L1.c5.s (k_X4_lawNumbered (c := S.2.2) (num := nI T) (ky := nI (kyT t n)) L1.c5 z1 (by omega) (by rw [hI2, sI_o (by omega)]; exact g2) k2 (by rw [hI2, sI_o (by omega)]; exact g3) k3 (by rw [hI2, sI_o (by omega)]; exact g4)) ⟨rfl, rfl⟩ (l8 rfl) ⟨l8 rfl, l8 rfl⟩ rfl rfl (l8 rfl) dX10_text_62 rfl ?_
      rintro _ S3 I3 ⟨rfl, m1, m2, m3, m4, m5, m6⟩
      have L3 : LayX S3 x := L1.tx (fun c _ _ => (m5 c (Nat.zero_le _) (by omega)).1) (fun c _ _ _ _ _ => (m5 c (Nat.zero_le _) (by omega)).2.1) (by rw [(m5 (x + 82) (Nat.zero_le _) (by omega)).2.1])
      refine v_aO (n := 66) (t := 4) (j := T) ⟨by decide, by decide⟩ L3.c6 (ix_nI hT (by decide)) m2.s dX10_text_65 rfl (fun S4 p4 => ?_)
      have L4 : LayX S4 x := L3.tx (fun c _ _ => by rw [p4.1]) (fun c _ _ _ c4 _ => p4.2.2.2.2 c c4) (by rw [p4.2.2.2.2 _ (by omega)])
      refine v_aload_n (n := 67) dX10_text_66 rfl rfl rfl ?_
      refine v_getR (n := 70) f_X10_10 rfl L4.s L4.g0 dX10_text_67 rfl ?_
      refine v_aload_n (n := 71) dX10_text_70 rfl rfl rfl ?_
      refine v_getR (n := 74) f_X10_46 rfl L4.s L4.g6 dX10_text_71 rfl ?_
      refine v_iload_n (n := 75) dX10_text_74 rfl rfl rfl ?_
      refine v_aald (n := 76) (t := 4) (j := T) ⟨by decide, by decide⟩ L4.c6 (ix_nI hT (by decide)) p4.2.2.1 dX10_text_75 rfl ?_
      have s4 : S4.1 (S.2.2 + 1) = some (1, 0) := by rw [p4.1]; exact m2.s
      refine v_callV (n := 79) mc_X9_adopt l_X10_252 iv_X9_adopt se_X9_adopt (ci := 8) ⟨by decide, rfl⟩ L4.c0.s (k_X9_adopt L4.c0 s4 m3.2.1 k1) ⟨rfl, rfl⟩ (l8 rfl) ⟨l8 rfl, l8 rfl⟩ rfl rfl (l8 rfl) dX10_text_76 rfl ?_
      rintro _ S5 I5 ⟨rfl, p5, hI5⟩
      refine v_iload_n (n := 80) dX10_text_79 rfl rfl rfl ?_
      have L5 : LayX S5 x := L4.tx (fun c _ _ => by rw [p5.1]) (fun c _ _ _ _ c5 => p5.2.2.2.2 c c5) (by rw [p5.2.2.2.2 _ (by omega)])
      have r3 : ∀ c, c < S.2.2 → I3 c = I2 c := fun c c1 => (m5 c (Nat.zero_le _) c1).2.2
      have r5 : ∀ c, c ≠ x + 1 → I5 c = I3 c := fun c c1 => by rw [hI5, setI_ne c1]
      have F5 : TxF S I x S5 I5 := ⟨fun c c1 => by rw [p5.1, p4.1, (m5 c (Nat.zero_le _) c1).1, p1.1], fun c c1 c2 c3 c4 => by rw [p5.2.2.2.2 c c4, p4.2.2.2.2 c c3, (m5 c (Nat.zero_le _) c1).2.1, p1.2.2.2.2 c c2], fun c c1 c2 c3 c4 c5 => by rw [r5 c c2, r3 c c1, r2 c c3 c4 c5]⟩
      have LL : LayL S5 S.2.2 (psR t n).2.2.1.length (psR t n).2.2.2 := ⟨by rw [p5.1, p4.1]; exact m2.1, by rw [p5.1, p4.1]; exact m2.2.1, by rw [p5.1, p4.1]; exact m2.2.2.1, by rw [p5.2.2.2.2 _ (by omega), p4.2.2.2.2 _ (by omega)]; exact m2.2.2.2⟩
      have v3 : I3 (x + 1) 3 = nI T := by rw [r3 _ (by omega)]; exact e3
      have hV5 := tx_VN (cd := cdL (psR t n).2.2.1) h hB hBz hf F5 hT hW.2.1 hW.2.2.2.1 k1 k2 k4 ⟨i0, hz⟩ LL (by rw [r5 _ (by omega)]; exact m3) (fun k hk => by rw [r5 _ (by omega), m4 k hk, hI2, sI_o (by omega)]; exact stk_map g1 k hk) p5.2.2.1 (fun k hk => by rw [p5.2.2.2.1 k hk, p4.2.2.2.2 _ (by omega), (m5 _ (Nat.zero_le _) (by omega)).2.1, p1.2.2.2.2 _ (by omega)]) (by rw [hI5, sI_s, v3, nI_1]) (fun k hk => by rw [hI5, sI_k hk, r3 _ (by omega), r2 _ (by omega) (by omega) (by omega)])
      have e1 : yn (txX X T (kyT t n) (cdL (psR t n).2.2.1) (psR t n).2.2.1.length (psR t n).2.2.2) = yn X := by unfold yn; rw [tx_lo (by decide) (by decide)]
      have e2 : ln (txX X T (kyT t n) (cdL (psR t n).2.2.1) (psR t n).2.2.1.length (psR t n).2.2.2) = ln X := by unfold ln; rw [tx_lo (by decide) (by decide)]
      rw [hres]
      refine v_iret rfl ⟨rfl, by rw [r5 _ (by omega), r3 _ (by omega)]; exact t80, p5.f (p4.f (m6 (p1.f hf))), L5, F5, T + 1, _, i0 + 1, hV5, by unfold WN; rw [e1, e2]; exact tx_WX hW hT k1 k2 k4, fun u hu => ?_, by omega, fun u hu => if_neg (by omega), by rw [p5.2.1, p4.2.1, m1]; omega, by omega⟩ ⟨l8 rfl, l8 rfl⟩ dX10_text_80
      rw [p5.2.2.2.2 _ (by omega)]
      by_cases e : u = T
      · rw [e, p4.2.2.1, if_pos rfl]
      · rw [p4.2.2.2.1 u e, (m5 _ (Nat.zero_le _) (by omega)).2.1, p1.2.2.2.2 _ (by omega), if_neg e]
        exact hlw u (by omega)
    · refine v_ldc (n := 43) k_X10_94 dX10_text_41 rfl ?_
      have h14 : X 9 = 14 := by
        rw [hW.2.2.2.2.1.1]
        rcases Nat.lt_or_ge T 14 with z | z
        · exact absurd (nI_lt (b := 14) z (by decide)) hq2
        · rw [show T = 14 by omega]; rfl
      exact v_iret rfl (done _ (by rw [textS, if_pos hok, if_pos h14])) ⟨l8 rfl, l8 rfl⟩ dX10_text_43
  · have hok : okT t n = false := by
      rcases Bool.eq_false_or_eq_true (okT t n) with z | z
      · rw [if_pos z] at hq; exact absurd (by decide) hq
      · exact z
    refine v_bipush (n := 26) (v := -100) dX10_text_24 b_m100 rfl ?_
    refine v_iload_n (n := 27) dX10_text_26 rfl rfl rfl ?_
    refine v_isub (n := 28) dX10_text_27 rfl ?_
    rw [if_neg (by rw [hok]; decide)]
    exact v_iret rfl (done _ (by rw [textS, if_neg (by rw [hok]; decide)])) ⟨l8 rfl, l8 rfl⟩ dX10_text_28

