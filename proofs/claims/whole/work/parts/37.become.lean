/-! ===== passDays, become, the village that is thought ===== -/
set_option maxRecDepth 100000 in
set_option maxHeartbeats 1000000 in
theorem l_X9_passDays {ro : Ro} {S : St} {I : In} {v B T n l b K : Nat} {X : Ar} {mv : Int32} {lw : Nat → Nat} (L : LayV S v) (h : VR S I v B X mv T n l lw) (hW : WX X T n l b) (hb : b + 999 * K < 2 ^ 30) (hK : K < 2 ^ 20) (hm : mvOk X) (hm5 : X 5 = mv) (hvB : v + 11 ≤ B) : ∀ k i, i ≤ K → K < i + k → ∀ J, VR S J v B (itX X T n i) mv T n (ln (itX X T n i)) lw → Eqx (vfr v B) I J → V RX9 cX9_passDays 4 (some .int) "passDays" ro (rmD 5 0 0) (QM 0 0 (fun r S' I' => r = some (.int (itN X T n K)) ∧ S' = S ∧ VR S I' v B (itX X T n K) mv T n (ln (itX X T n K)) lw ∧ Eqx (vfr v B) I I')) 0 0 4 [.ref v, .int (nI K), .int (itN X T n i), .int (nI i)] [] S J := by
  intro k
  induction k with
  | zero => intro i hi hk; exact absurd hk (by omega)
  | succ k ih =>
    intro i hi hk J hv hE
    refine v_iload_n (n := 5) dX9_passDays_4 rfl rfl rfl ?_
    refine v_iload_n (n := 6) dX9_passDays_5 rfl rfl rfl ?_
    refine v_icmp_ge (n := 9) (tgt := 22) dX9_passDays_6 (by decide) rfl (fun hq6 => ?_) (fun hq6 => ?_)
    · obtain rfl : i = K := Nat.le_antisymm hi (le_out hq6 (by omega) (by omega))
      refine v_iload_n (n := 23) dX9_passDays_22 rfl rfl rfl ?_
      exact v_iret rfl ⟨rfl, rfl, hv, hE⟩ ⟨l8 rfl, l8 rfl⟩ dX9_passDays_23
    · have hlt := nle_in hq6 (by omega) (by omega)
      obtain ⟨g1, g2⟩ := it_WX hW i (by omega)
      have h5 : itX X T n i 5 = mv := (it_5 hW (by omega)).trans hm5
      refine v_iload_n (n := 10) dX9_passDays_9 rfl rfl rfl ?_
      refine v_aload_n (n := 11) dX9_passDays_10 rfl rfl rfl ?_
      refine v_callV (n := 14) mc_X9_passDay l_X9_94 iv_X9_passDay se_X9_passDay (ci := 8) ⟨by decide, rfl⟩ L.s (k_X9_passDay L hv g1 (by omega) (by rw [← hm5]; exact ⟨by have := hm.1; omega, by have := hm.2; omega⟩) hvB) ⟨rfl, rfl⟩ (l8 rfl) ⟨l8 rfl, l8 rfl⟩ rfl rfl (l8 rfl) dX9_passDays_11 rfl ?_
      rintro _ _ J1 ⟨rfl, hS9, hv1, hE1⟩
      replace hS9 := hS9.symm
      subst hS9
      refine v_iadd (n := 15) dX9_passDays_14 rfl ?_
      refine v_istore_n (n := 16) (al' := [.ref v, .int (nI K), .int ((itN X T n i) + (dayN (itX X T n i) T n (ln (itX X T n i)) mv)), .int (nI i)]) dX9_passDays_15 rfl rfl rfl rfl ?_
      refine v_iinc (n := 19) (v := (nI i) + 1) (al' := [.ref v, .int (nI K), .int ((itN X T n i) + (dayN (itX X T n i) T n (ln (itX X T n i)) mv)), .int ((nI i) + 1)]) dX9_passDays_16 rfl (by rw [c_1]) rfl rfl rfl ?_
      refine v_goto (tgt := 4) dX9_passDays_19 (by decide) ?_
      rw [nI_1, show itN X T n i + dayN (itX X T n i) T n (ln (itX X T n i)) mv = itN X T n (i + 1) from by rw [itN, h5]]
      exact ih (i + 1) hlt (by omega) J1 (by rw [itX, h5]; exact hv1) (hE.tr hE1)

set_option maxRecDepth 100000 in
set_option maxHeartbeats 1000000 in
theorem k_X9_passDays {ro : Ro} {S : St} {I : In} {v B T n l b K : Nat} {X : Ar} {mv : Int32} {lw : Nat → Nat} (L : LayV S v) (h : VR S I v B X mv T n l lw) (hW : WX X T n l b) (hb : b + 999 * K < 2 ^ 30) (hK : K < 2 ^ 20) (hm : mvOk X) (hm5 : X 5 = mv) (hvB : v + 11 ≤ B) : Ok mX9_passDays ro 5 0 0 [.ref v, .int (nI K)] S I (fun r S' I' => r = some (.int (itN X T n K)) ∧ S' = S ∧ VR S I' v B (itX X T n K) mv T n (ln (itX X T n K)) lw ∧ Eqx (vfr v B) I I') := by
  refine ok_of (al := [.ref v, .int (nI K), JJ, JJ]) (by decide) (l8 rfl) rfl ?_
  refine v_iconst (n := 1) (v := 0) dX9_passDays_0 c_0 rfl ?_
  refine v_istore_n (n := 2) (al' := [.ref v, .int (nI K), .int 0, JJ]) dX9_passDays_1 rfl rfl rfl rfl ?_
  refine v_iconst (n := 3) (v := 0) dX9_passDays_2 c_0 rfl ?_
  refine v_istore_n (n := 4) (al' := [.ref v, .int (nI K), .int 0, .int 0]) dX9_passDays_3 rfl rfl rfl rfl ?_
  have hl := hW.lnn
  exact l_X9_passDays L h hW hb hK hm hm5 hvB (K + 1) 0 (Nat.zero_le _) (by omega) I (by rw [itX, hl]; exact h) Eqx.rf

def bcG (G : Gr) (v w : Nat) : Nat → Gr
  | 0 => G
  | k + 1 => setG (bcG G v w k) (v + 10) k (G (w + 10) k)
def bcS (S : St) (v w : Nat) (k : Nat) : St := (S.1, bcG S.2.1 v w k, S.2.2)
theorem bcG_o {G : Gr} {v w a : Nat} (h : a ≠ v + 10) : ∀ k, bcG G v w k a = G a
  | 0 => rfl
  | k + 1 => by rw [bcG, setG_ne h, bcG_o h k]
theorem bcG_s {G : Gr} {v w j : Nat} : ∀ k, j < k → bcG G v w k (v + 10) j = G (w + 10) j
  | k + 1, h => by
    rw [bcG, setG]
    by_cases q : j = k
    · subst q; rw [if_pos ⟨rfl, rfl⟩]
    · rw [if_neg (fun z => q z.2)]; exact bcG_s k (by omega)
/-- the same shapes; the references of the row g alone are others -/
def SG (g : Nat) (S S' : St) : Prop := S'.1 = S.1 ∧ (∀ a, a ≠ g → S'.2.1 a = S.2.1 a) ∧ S'.2.2 = S.2.2
theorem bc_SG {S : St} {v w k : Nat} : SG (v + 10) S (bcS S v w k) := ⟨rfl, fun _ h => bcG_o h k, rfl⟩
theorem LayR.sg {S S' : St} {g r : Nat} (h : LayR S r) (e : SG g S S') (hg : g ≠ r) : LayR S' r := by
  unfold LayR; rw [e.1, e.2.1 r (Ne.symm hg)]; exact h
theorem LayB.sg {S S' : St} {g r : Nat} (h : LayB S r) (e : SG g S S') (hg : g ≠ r) : LayB S' r := by
  unfold LayB; rw [e.1, e.2.1 r (Ne.symm hg)]; exact h
theorem LayV.sg {S S' : St} {g v : Nat} (h : LayV S v) (e : SG g S S') (hg : g < v ∨ v + 10 ≤ g) : LayV S' v := by
  obtain ⟨h1, h2, h3, h4, h5⟩ := h
  refine ⟨by rw [e.1]; exact h1, ?_, h3.sg e (by omega), h4.sg e (by omega), by rw [e.1]; exact h5⟩
  rw [e.2.1 v (by omega)]; exact h2
theorem LayL.sg {S S' : St} {g c n na : Nat} (h : LayL S c n na) (e : SG g S S') (hg : g ≠ c + 1) : LayL S' c n na := by
  unfold LayL; rw [e.1, e.2.1 (c + 1) (Ne.symm hg)]; exact h
theorem LwR.sg {S S' : St} {I : In} {g B T : Nat} {X : Ar} {lw : Nat → Nat} (h : LwR S I B X T lw) (e : SG g S S') (hg : g < B) : LwR S' I B X T lw := by
  intro t ht
  obtain ⟨key, n, na, i, a1, a2, a3, a4⟩ := h t ht
  exact ⟨key, n, na, i, a1, a2, a3.sg e (by omega), a4⟩
theorem VR.sg {S S' : St} {I : In} {g v B T n l : Nat} {X : Ar} {mv : Int32} {lw : Nat → Nat} (h : VR S I v B X mv T n l lw) (e : SG g S S') (hg : g < B) (hv : g ≠ v + 10) : VR S' I v B X mv T n l lw :=
  ⟨h.1, h.2.1, h.2.2.1, fun k hk => by rw [e.2.1 _ (Ne.symm hv)]; exact h.2.2.2.1 k hk, h.2.2.2.2.sg e hg⟩

set_option maxRecDepth 100000 in
set_option maxHeartbeats 1000000 in
theorem t47_X9_become {ro : Ro} {S : St} {I J : In} {v w B T n l : Nat} {X : Ar} {mv : Int32} {lw : Nat → Nat} (L : LayV S v) (L2 : LayV S w) (hd : v + 11 ≤ w ∨ w + 11 ≤ v) (h : VR S I w B X mv T n l lw) (hT : T ≤ 14) (hn10 : n ≤ 10) (hl30 : l ≤ 30) (hvB : v + 11 ≤ B) (hR : RgR J (v + 1) X n) (hB : BlR J (v + 6) X l) (hE : Eqx (blk v 11) I J) : V RX9 cX9_become 3 (none) "become" ro (rmD 2 0 0) (QM 0 0 (fun r S' I' => r = none ∧ S' = bcS S v w 3 ∧ VR S' I' v B X mv T n l lw ∧ Eqx (blk v 11) I I')) 0 0 47 [.ref v, .ref w, JJ] [] (bcS S v w 3) J := by
  replace L := L.sg (bc_SG (S := S) (v := v) (w := w) (k := 3)) (by omega)
  replace L2 := L2.sg (bc_SG (S := S) (v := v) (w := w) (k := 3)) (by omega)
  have hw : J w = I w := hE w (by unfold blk; omega)
  refine v_aload_n (n := 48) dX9_become_47 rfl rfl rfl ?_
  refine v_aload_n (n := 49) dX9_become_48 rfl rfl rfl ?_
  refine v_getI (n := 52) f_X9_31 rfl L2.s dX9_become_49 rfl ?_
  refine v_putI (n := 55) f_X9_31 rfl (Or.inl rfl) L.s dX9_become_52 rfl ?_
  refine v_aload_n (n := 56) dX9_become_55 rfl rfl rfl ?_
  refine v_aload_n (n := 57) dX9_become_56 rfl rfl rfl ?_
  refine v_getI (n := 60) f_X9_35 rfl L2.s dX9_become_57 rfl ?_
  refine v_putI (n := 63) f_X9_35 rfl (Or.inl rfl) L.s dX9_become_60 rfl ?_
  refine v_aload_n (n := 64) dX9_become_63 rfl rfl rfl ?_
  refine v_aload_n (n := 65) dX9_become_64 rfl rfl rfl ?_
  refine v_getI (n := 68) f_X9_38 rfl L2.s dX9_become_65 rfl ?_
  refine v_putI (n := 71) f_X9_38 rfl (Or.inl rfl) L.s dX9_become_68 rfl ?_
  refine v_aload_n (n := 72) dX9_become_71 rfl rfl rfl ?_
  refine v_aload_n (n := 73) dX9_become_72 rfl rfl rfl ?_
  refine v_getI (n := 76) f_X9_41 rfl L2.s dX9_become_73 rfl ?_
  refine v_putI (n := 79) f_X9_41 rfl (Or.inl rfl) L.s dX9_become_76 rfl ?_
  refine v_aload_n (n := 80) dX9_become_79 rfl rfl rfl ?_
  refine v_aload_n (n := 81) dX9_become_80 rfl rfl rfl ?_
  refine v_getI (n := 84) f_X9_44 rfl L2.s dX9_become_81 rfl ?_
  refine v_putI (n := 87) f_X9_44 rfl (Or.inl rfl) L.s dX9_become_84 rfl ?_
  refine v_aload_n (n := 88) dX9_become_87 rfl rfl rfl ?_
  refine v_aload_n (n := 89) dX9_become_88 rfl rfl rfl ?_
  refine v_getI (n := 92) f_X9_47 rfl L2.s dX9_become_89 rfl ?_
  refine v_putI (n := 95) f_X9_47 rfl (Or.inl rfl) L.s dX9_become_92 rfl ?_
  obtain ⟨a1, a2, a3, a4, a5, a6⟩ := h.2.2.1
  skip
  refine v_vret rfl ⟨rfl, rfl, ⟨hR.eqx (P := fun a => a = v) (fun a ha => ?_) (fun a q => by omega), hB.eqx (P := fun a => a = v) (fun a ha => ?_) (fun a q => by omega), ⟨(by rw [sI_k (by decide), sI_k (by decide), sI_k (by decide), sI_k (by decide), sI_k (by decide), sI_s, hw]; exact a1), (by rw [sI_k (by decide), sI_k (by decide), sI_k (by decide), sI_k (by decide), sI_s, sI_o (by omega), hw]; exact a2), (by rw [sI_k (by decide), sI_k (by decide), sI_k (by decide), sI_s, sI_o (by omega), sI_o (by omega), hw]; exact a3), (by rw [sI_k (by decide), sI_k (by decide), sI_s, sI_o (by omega), sI_o (by omega), sI_o (by omega), hw]; exact a4), (by rw [sI_k (by decide), sI_s, sI_o (by omega), sI_o (by omega), sI_o (by omega), sI_o (by omega), hw]; exact a5), (by rw [sI_s, sI_o (by omega), sI_o (by omega), sI_o (by omega), sI_o (by omega), sI_o (by omega), hw]; exact a6)⟩, fun k hk => ?_, ?_⟩, fun a ha => ?_⟩ ⟨l8 rfl, l8 rfl⟩ dX9_become_95
  · rw [setI_ne ha, setI_ne ha, setI_ne ha, setI_ne ha, setI_ne ha, setI_ne ha]
  · rw [setI_ne ha, setI_ne ha, setI_ne ha, setI_ne ha, setI_ne ha, setI_ne ha]
  · rw [show (bcS S v w 3).2.1 (v + 10) k = S.2.1 (w + 10) k from bcG_s 3 hk]; exact h.2.2.2.1 k hk
  · refine LwR.eqx (P := blk v 11) (h.2.2.2.2.sg bc_SG (by omega)) (fun a ha => ?_) (fun a q => by unfold blk at q; omega)
    have : a ≠ v := by unfold blk at ha; omega
    rw [setI_ne this, setI_ne this, setI_ne this, setI_ne this, setI_ne this, setI_ne this]; exact hE a ha
  · have : a ≠ v := by unfold blk at ha; omega
    rw [setI_ne this, setI_ne this, setI_ne this, setI_ne this, setI_ne this, setI_ne this]; exact hE a ha

set_option maxRecDepth 100000 in
set_option maxHeartbeats 1000000 in
theorem s1_X9_become {ro : Ro} {S : St} {J : In} {v w k : Nat} {Q : Option Value → St → In → Prop} (L : LayV S v) (L2 : LayV S w) (hd : v + 11 ≤ w ∨ w + 11 ≤ v) (hk : k < 3) (hv : S.2.1 (w + 10) k = .null) (kk : V RX9 cX9_become 3 (none) "become" ro (rmD 2 0 0) (QM 0 0 Q) 0 0 24 [.ref v, .ref w, .int (nI (k + 1))] [] (bcS S v w (k + 1)) J) : V RX9 cX9_become 3 (none) "become" ro (rmD 2 0 0) (QM 0 0 Q) 0 0 24 [.ref v, .ref w, .int (nI k)] [] (bcS S v w k) J := by
  replace L := L.sg (bc_SG (S := S) (v := v) (w := w) (k := k)) (by omega)
  replace L2 := L2.sg (bc_SG (S := S) (v := v) (w := w) (k := k)) (by omega)
  have hg : (bcS S v w k).2.1 (w + 10) k = .null := by rw [← hv]; exact congrFun (bcG_o (by omega) k) k
  refine v_iload_n (n := 25) dX9_become_24 rfl rfl rfl ?_
  refine v_iconst (n := 26) (v := 3) dX9_become_25 c_3 rfl ?_
  refine v_icmp_ge (n := 29) (tgt := 47) dX9_become_26 (by decide) rfl (fun hq26 => ?_) (fun hq26 => ?_)
  · exact absurd (le_out (by rw [lit_nI 3] at hq26; exact hq26) (by decide) (by omega)) (by omega)
  · refine v_aload_n (n := 30) dX9_become_29 rfl rfl rfl ?_
    refine v_getR (n := 33) f_X9_27 rfl L.s L.g2 dX9_become_30 rfl ?_
    refine v_iload_n (n := 34) dX9_become_33 rfl rfl rfl ?_
    refine v_aload_n (n := 35) dX9_become_34 rfl rfl rfl ?_
    refine v_getR (n := 38) f_X9_27 rfl L2.s L2.g2 dX9_become_35 rfl ?_
    refine v_iload_n (n := 39) dX9_become_38 rfl rfl rfl ?_
    refine v_aald (n := 40) (t := 4) (j := k) ⟨by decide, by decide⟩ L2.c2 (ix_nI (by omega) (by decide)) hg dX9_become_39 rfl ?_
    refine v_aastN (n := 41) (t := 4) (j := k) ⟨by decide, by decide⟩ L.c2 (ix_nI (by omega) (by decide)) dX9_become_40 rfl ?_
    refine v_iinc (n := 44) (v := (nI k) + 1) (al' := [.ref v, .ref w, .int ((nI k) + 1)]) dX9_become_41 rfl (by rw [c_1]) rfl rfl rfl ?_
    refine v_goto (tgt := 24) dX9_become_44 (by decide) ?_
    rw [nI_1]
    rw [show bcS S v w (k + 1) = (S.1, setG (bcG S.2.1 v w k) (v + 10) k .null, S.2.2) from by rw [bcS, bcG, hv]] at kk
    exact kk

set_option maxRecDepth 100000 in
set_option maxHeartbeats 1000000 in
theorem s2_X9_become {ro : Ro} {S : St} {J : In} {v w k : Nat} {Q : Option Value → St → In → Prop} (L : LayV S v) (L2 : LayV S w) (hd : v + 11 ≤ w ∨ w + 11 ≤ v) (hk : k < 3) {c n0 na : Nat} (LL : LayL S c n0 na) (hv : S.2.1 (w + 10) k = .ref (c + 1)) (kk : V RX9 cX9_become 3 (none) "become" ro (rmD 2 0 0) (QM 0 0 Q) 0 0 24 [.ref v, .ref w, .int (nI (k + 1))] [] (bcS S v w (k + 1)) J) : V RX9 cX9_become 3 (none) "become" ro (rmD 2 0 0) (QM 0 0 Q) 0 0 24 [.ref v, .ref w, .int (nI k)] [] (bcS S v w k) J := by
  replace L := L.sg (bc_SG (S := S) (v := v) (w := w) (k := k)) (by omega)
  replace L2 := L2.sg (bc_SG (S := S) (v := v) (w := w) (k := k)) (by omega)
  have hg : (bcS S v w k).2.1 (w + 10) k = .ref (c + 1) := by rw [← hv]; exact congrFun (bcG_o (by omega) k) k
  refine v_iload_n (n := 25) dX9_become_24 rfl rfl rfl ?_
  refine v_iconst (n := 26) (v := 3) dX9_become_25 c_3 rfl ?_
  refine v_icmp_ge (n := 29) (tgt := 47) dX9_become_26 (by decide) rfl (fun hq26 => ?_) (fun hq26 => ?_)
  · exact absurd (le_out (by rw [lit_nI 3] at hq26; exact hq26) (by decide) (by omega)) (by omega)
  · refine v_aload_n (n := 30) dX9_become_29 rfl rfl rfl ?_
    refine v_getR (n := 33) f_X9_27 rfl L.s L.g2 dX9_become_30 rfl ?_
    refine v_iload_n (n := 34) dX9_become_33 rfl rfl rfl ?_
    refine v_aload_n (n := 35) dX9_become_34 rfl rfl rfl ?_
    refine v_getR (n := 38) f_X9_27 rfl L2.s L2.g2 dX9_become_35 rfl ?_
    refine v_iload_n (n := 39) dX9_become_38 rfl rfl rfl ?_
    refine v_aald (n := 40) (t := 4) (j := k) ⟨by decide, by decide⟩ L2.c2 (ix_nI (by omega) (by decide)) hg dX9_become_39 rfl ?_
    refine v_aast (n := 41) (t := 4) (j := k) ⟨by decide, by decide⟩ L.c2 (ix_nI (by omega) (by decide)) LL.s dX9_become_40 rfl ?_
    refine v_iinc (n := 44) (v := (nI k) + 1) (al' := [.ref v, .ref w, .int ((nI k) + 1)]) dX9_become_41 rfl (by rw [c_1]) rfl rfl rfl ?_
    refine v_goto (tgt := 24) dX9_become_44 (by decide) ?_
    rw [nI_1]
    rw [show bcS S v w (k + 1) = (S.1, setG (bcG S.2.1 v w k) (v + 10) k (.ref (c + 1)), S.2.2) from by rw [bcS, bcG, hv]] at kk
    exact kk

theorem s_X9_become {ro : Ro} {S : St} {I J : In} {Q : Option Value → St → In → Prop} {v w B T n l : Nat} {X : Ar} {mv : Int32} {lw : Nat → Nat} (L : LayV S v) (L2 : LayV S w) (hd : v + 11 ≤ w ∨ w + 11 ≤ v) (h : VR S I w B X mv T n l lw) (hT : T ≤ 14) (hn10 : n ≤ 10) (hl30 : l ≤ 30) (hvB : v + 11 ≤ B) {k : Nat} (hk : k < 3) (kk : V RX9 cX9_become 3 (none) "become" ro (rmD 2 0 0) (QM 0 0 Q) 0 0 24 [.ref v, .ref w, .int (nI (k + 1))] [] (bcS S v w (k + 1)) J) : V RX9 cX9_become 3 (none) "become" ro (rmD 2 0 0) (QM 0 0 Q) 0 0 24 [.ref v, .ref w, .int (nI k)] [] (bcS S v w k) J := by
  by_cases hc : cnt X (nI k) T < 0
  · exact s1_X9_become L L2 hd hk (law_none hk h.2.2.2.1 hc) kk
  · obtain ⟨t, n0, na, c, G⟩ := law_get hk hT h.2.2.2.1 h.2.2.2.2 hc
    exact s2_X9_become L L2 hd hk G.2.2.2.1 G.2.2.1 kk

set_option maxRecDepth 100000 in
set_option maxHeartbeats 1000000 in
theorem t24_X9_become {ro : Ro} {S : St} {I J : In} {v w B T n l : Nat} {X : Ar} {mv : Int32} {lw : Nat → Nat} (L : LayV S v) (L2 : LayV S w) (hd : v + 11 ≤ w ∨ w + 11 ≤ v) (h : VR S I w B X mv T n l lw) (hT : T ≤ 14) (hn10 : n ≤ 10) (hl30 : l ≤ 30) (hvB : v + 11 ≤ B) (hR : RgR J (v + 1) X n) (hB : BlR J (v + 6) X l) (hE : Eqx (blk v 11) I J) : V RX9 cX9_become 3 (none) "become" ro (rmD 2 0 0) (QM 0 0 (fun r S' I' => r = none ∧ S' = bcS S v w 3 ∧ VR S' I' v B X mv T n l lw ∧ Eqx (blk v 11) I I')) 0 0 24 [.ref v, .ref w, .int (nI 3)] [] (bcS S v w 3) J := by
  have L0 := L
  have L20 := L2
  refine v_iload_n (n := 25) dX9_become_24 rfl rfl rfl ?_
  refine v_iconst (n := 26) (v := 3) dX9_become_25 c_3 rfl ?_
  refine v_icmp_ge (n := 29) (tgt := 47) dX9_become_26 (by decide) rfl (fun hq26 => ?_) (fun hq26 => ?_)
  · refine v_drop 2 (al' := [.ref v, .ref w, JJ]) rfl ?_
    exact t47_X9_become L0 L20 hd h hT hn10 hl30 hvB hR hB hE
  · exact absurd (by decide) hq26

set_option maxRecDepth 100000 in
set_option maxHeartbeats 1000000 in
theorem k_X9_become {ro : Ro} {S : St} {I : In} {v w B T n l : Nat} {X : Ar} {mv : Int32} {lw : Nat → Nat} (L : LayV S v) (L2 : LayV S w) (hd : v + 11 ≤ w ∨ w + 11 ≤ v) (h : VR S I w B X mv T n l lw) (hT : T ≤ 14) (hn10 : n ≤ 10) (hl30 : l ≤ 30) (hvB : v + 11 ≤ B) : Ok mX9_become ro 2 0 0 [.ref v, .ref w] S I (fun r S' I' => r = none ∧ S' = bcS S v w 3 ∧ VR S' I' v B X mv T n l lw ∧ Eqx (blk v 11) I I') := by
  refine ok_of (al := [.ref v, .ref w, JJ]) (by decide) (l8 rfl) rfl ?_
  refine v_aload_n (n := 1) dX9_become_0 rfl rfl rfl ?_
  refine v_getR (n := 4) f_X9_12 rfl L.s L.g0 dX9_become_1 rfl ?_
  refine v_aload_n (n := 5) dX9_become_4 rfl rfl rfl ?_
  refine v_getR (n := 8) f_X9_12 rfl L2.s L2.g0 dX9_become_5 rfl ?_
  refine v_callV (n := 11) mc_X5_become l_X9_50 iv_X5_become se_X5_become (ci := 4) ⟨by decide, rfl⟩ L.c0.s (k_X5_become L.c0 L2.c0 (by omega) h.1 hn10) ⟨rfl, rfl⟩ (l8 rfl) ⟨l8 rfl, l8 rfl⟩ rfl rfl (l8 rfl) dX9_become_8 rfl ?_
  rintro _ _ J1 ⟨rfl, hS9, hR1, hE1⟩
  replace hS9 := hS9.symm
  subst hS9
  refine v_aload_n (n := 12) dX9_become_11 rfl rfl rfl ?_
  refine v_getR (n := 15) f_X9_21 rfl L.s L.g1 dX9_become_12 rfl ?_
  refine v_aload_n (n := 16) dX9_become_15 rfl rfl rfl ?_
  refine v_getR (n := 19) f_X9_21 rfl L2.s L2.g1 dX9_become_16 rfl ?_
  refine v_callV (n := 22) mc_X0_become l_X9_54 iv_X0_become se_X0_become (ci := 0) ⟨by decide, rfl⟩ L.c1.s (k_X0_become L.c1 L2.c1 (by omega) (h.2.1.eqx hE1 (fun a q => by unfold blk at q; omega)) hl30) ⟨rfl, rfl⟩ (l8 rfl) ⟨l8 rfl, l8 rfl⟩ rfl rfl (l8 rfl) dX9_become_19 rfl ?_
  rintro _ _ J2 ⟨rfl, hS9, hB2, hE2⟩
  replace hS9 := hS9.symm
  subst hS9
  refine v_iconst (n := 23) (v := 0) dX9_become_22 c_0 rfl ?_
  refine v_istore_n (n := 24) (al' := [.ref v, .ref w, .int 0]) dX9_become_23 rfl rfl rfl rfl ?_
  have hR2 := hR1.eqx hE2 (fun a q => by unfold blk at q; omega)
  have hE02 : Eqx (blk v 11) I J2 := (hE1.mono (fun a q => by unfold blk at q ⊢; omega)).tr (hE2.mono (fun a q => by unfold blk at q ⊢; omega))
  exact s_X9_become (k := 0) L L2 hd h hT hn10 hl30 hvB (by decide) (s_X9_become (k := 1) L L2 hd h hT hn10 hl30 hvB (by decide) (s_X9_become (k := 2) L L2 hd h hT hn10 hl30 hvB (by decide) (t24_X9_become L L2 hd h hT hn10 hl30 hvB hR2 hB2 hE02)))

def LayP (S : St) (q : Nat) : Prop := S.1 q = some (2, 0) ∧ S.2.1 q 0 = .ref (q + 1) ∧ S.1 (q + 1) = some (23, 5) ∧ ∀ i, i < 5 → S.2.1 (q + 1) i = .ref (q + 2 + 11 * i) ∧ LayV S (q + 2 + 11 * i)
theorem LayP.s {S : St} {q : Nat} (h : LayP S q) : S.1 q = some (2, 0) := h.1
theorem LayP.g0 {S : St} {q : Nat} (h : LayP S q) : S.2.1 q 0 = .ref (q + 1) := h.2.1
theorem LayP.c0 {S : St} {q : Nat} (h : LayP S q) : S.1 (q + 1) = some (23, 5) := h.2.2.1
theorem LayP.v {S : St} {q i : Nat} (h : LayP S q) (hi : i < 5) : LayV S (q + 2 + 11 * i) := (h.2.2.2 i hi).2
theorem LayP.sg {S S' : St} {g q : Nat} (h : LayP S q) (e : SG g S S') (hg : g < q ∨ q + 57 ≤ g ∨ ∃ i, i < 5 ∧ g = q + 2 + 11 * i + 10) : LayP S' q := by
  obtain ⟨h1, h2, h3, h4⟩ := h
  have g0 : g ≠ q ∧ g ≠ q + 1 := by rcases hg with z | z | ⟨i, z, y⟩ <;> omega
  refine ⟨by rw [e.1]; exact h1, by rw [e.2.1 q (Ne.symm g0.1)]; exact h2, by rw [e.1]; exact h3, fun i hi => ?_⟩
  rw [e.2.1 _ (Ne.symm g0.2)]
  refine ⟨(h4 i hi).1, (h4 i hi).2.sg e ?_⟩
  rcases hg with z | z | ⟨j, z, y⟩
  · omega
  · omega
  · subst y; omega

