/-! ===== what is made: objects in objects ===== -/
def Fre (S : St) : Prop := ∀ b, S.2.2 ≤ b → S.1 b = none
def EqB (lo hi : Nat) (S : St) (I : In) (S' : St) (I' : In) : Prop := ∀ c, lo ≤ c → c < hi → S'.1 c = S.1 c ∧ S'.2.1 c = S.2.1 c ∧ I' c = I c
theorem EqB.tr {lo hi : Nat} {S S1 S2 : St} {I I1 I2 : In} (h : EqB lo hi S I S1 I1) (h2 : EqB lo hi S1 I1 S2 I2) : EqB lo hi S I S2 I2 := fun c a b => ⟨(h2 c a b).1.trans (h c a b).1, (h2 c a b).2.1.trans (h c a b).2.1, (h2 c a b).2.2.trans (h c a b).2.2⟩
theorem EqB.sub {lo hi lo2 hi2 : Nat} {S S1 : St} {I I1 : In} (h : EqB lo hi S I S1 I1) (h1 : lo ≤ lo2) (h2 : hi2 ≤ hi) : EqB lo2 hi2 S I S1 I1 := fun c a b => h c (by omega) (by omega)
def NewO (S : St) (I : In) (q : Nat × Nat) (e : Nat) (S' : St) (I' : In) : Prop := S'.2.2 = e + 1 ∧ S'.1 e = some q ∧ (∀ j, S'.2.1 e j = .null) ∧ (∀ j, I' e j = 0) ∧ (∀ c, c ≠ e → S'.1 c = S.1 c ∧ S'.2.1 c = S.2.1 c ∧ I' c = I c) ∧ (Fre S → Fre S')
theorem newO {S : St} {I : In} {q : Nat × Nat} {e : Nat} (hz : S.2.2 = e) : NewO S I q e (newS S q) (newI S I) := by
  subst hz
  refine ⟨rfl, if_pos rfl, fun _ => if_pos rfl, fun _ => if_pos rfl, fun c hc => ⟨if_neg hc, ?_, ?_⟩, fun h b hb => ?_⟩
  · funext j; exact if_neg hc
  · funext j; exact if_neg hc
  · have hb' : S.2.2 + 1 ≤ b := hb
    show (if b = S.2.2 then some q else S.1 b) = none
    rw [if_neg (by omega)]; exact h b (by omega)
theorem NewO.b {S S' : St} {I I' : In} {q : Nat × Nat} {e lo hi : Nat} (h : NewO S I q e S' I') (hh : hi ≤ e) : EqB lo hi S I S' I' := fun c _ b => h.2.2.2.2.1 c (by omega)
def PutO (S : St) (a k : Nat) (v : Value) (S' : St) : Prop := S'.1 = S.1 ∧ S'.2.2 = S.2.2 ∧ S'.2.1 a k = v ∧ (∀ j, j ≠ k → S'.2.1 a j = S.2.1 a j) ∧ ∀ c, c ≠ a → S'.2.1 c = S.2.1 c
theorem putO {S : St} {a k : Nat} {v : Value} : PutO S a k v (S.1, setG S.2.1 a k v, S.2.2) := ⟨rfl, rfl, sG_s, fun j hj => sG_k hj, fun c hc => setG_ne hc⟩
theorem PutO.b {S S' : St} {I : In} {a k lo hi : Nat} {v : Value} (h : PutO S a k v S') (hh : a < lo ∨ hi ≤ a) : EqB lo hi S I S' I := fun c a1 b => ⟨by rw [h.1], h.2.2.2.2 c (by omega), rfl⟩
theorem PutO.f {S S' : St} {a k : Nat} {v : Value} (h : PutO S a k v S') (hf : Fre S) : Fre S' := fun b hb => by rw [h.1]; exact hf b (by rw [← h.2.1]; exact hb)
theorem setI_b {S : St} {I : In} {a k lo hi : Nat} {x : Int32} (hh : a < lo ∨ hi ≤ a) : EqB lo hi S I S (setI I a k x) := fun c a1 b => ⟨rfl, rfl, setI_ne (by omega)⟩
theorem MA.b {S0 : St} {I0 : In} {ci a base lo hi : Nat} {L : List (Nat × Nat)} {C : Nat → Ar} {g : Nat → Value} {f : Ar} {S : St} {I : In} (h : MA S0 I0 ci a base L C g f S I) (hh : hi ≤ a) : EqB lo hi S0 I0 S I := fun c _ b => ⟨(h.2.2.1 c (by have := h.1.2.2.2.2; omega)).1, (h.2.2.1 c (by have := h.1.2.2.2.2; omega)).2 (by omega)⟩
theorem MA.fr {S0 : St} {I0 : In} {ci a base : Nat} {L : List (Nat × Nat)} {C : Nat → Ar} {g : Nat → Value} {f : Ar} {S : St} {I : In} (h : MA S0 I0 ci a base L C g f S I) (hf : Fre S0) : Fre S := h.2.2.2 hf
section MAKE3
variable {own : String} {cc : ByteArray} {nL : Nat} {ret : Option FieldType} {nm : String} {ro : Ro} {R : Room} {Qf : Wd → List Frame → Array Value → State → State → Prop} {cells slots pc n : Nat} {al st : List Value} {S : St} {I : In}
theorem v_nO {idx ci N e : Nat} (hz : S.2.2 = e) (hci : ci < 11) (hN : (fC ci).2.2 = N) (h1 : Cond.classLink own idx (fC ci).1 ∈ GW) (h2 : Cond.instantiable (fC ci).1 N ∈ GW) (h3 : Cond.initialized (fC ci).1 ∈ GW) (hc : cells + 1 ≤ R.cells ∧ slots + N ≤ R.slots) (hd : decode cc pc = .ok (.new idx, 3)) (hn : pc + 3 = n)
    (kk : ∀ S' I', NewO S I (ci, 0) e S' I' → V own cc nL ret nm ro R Qf (cells + 1) (slots + N) n al (.ref e :: st) S' I') : V own cc nL ret nm ro R Qf cells slots pc al st S I := by
  refine v_new hci hN h1 h2 h3 hc hd hn ?_
  rw [hz]; exact kk _ _ (newO hz)
theorem v_nA {atype : ArrayType} {t N e : Nat} {x : Int32} (hz : S.2.2 = e) (ht : t < 3) (hty : newarray.typeOf atype = aty t) (h1 : Cond.arrayClass (aty t) ∈ GW) (hx : ¬ x < 0 ∧ x.toNatClampNeg = N ∧ N ≤ 60000000) (hc : cells + 1 ≤ R.cells ∧ slots + N ≤ R.slots) (hd : decode cc pc = .ok (.newarray atype, 2)) (hn : pc + 2 = n)
    (kk : ∀ S' I', NewO S I (20 + t, N) e S' I' → V own cc nL ret nm ro R Qf (cells + 1) (slots + N) n al (.ref e :: st) S' I') : V own cc nL ret nm ro R Qf cells slots pc al (.int x :: st) S I := by
  refine v_newa ht hty h1 hx hc hd hn ?_
  rw [hz]; exact kk _ _ (newO hz)
theorem v_nR {idx t N e : Nat} {x : Int32} (hz : S.2.2 = e) (ht : 3 ≤ t ∧ t < 7) (h1 : Cond.classLink own idx (fC (aci t)).1 ∈ GW) (hx : ¬ x < 0 ∧ x.toNatClampNeg = N ∧ N ≤ 60000000) (hc : cells + 1 ≤ R.cells ∧ slots + N ≤ R.slots) (hd : decode cc pc = .ok (.anewarray idx, 3)) (hn : pc + 3 = n)
    (kk : ∀ S' I', NewO S I (20 + t, N) e S' I' → V own cc nL ret nm ro R Qf (cells + 1) (slots + N) n al (.ref e :: st) S' I') : V own cc nL ret nm ro R Qf cells slots pc al (.int x :: st) S I := by
  refine v_anew ht h1 hx hc hd hn ?_
  rw [hz]; exact kk _ _ (newO hz)
theorem v_pO {idx ci k a ln b : Nat} (hf : FA own idx ci k) (hr : isR ci k = true) (hp : canPut own nm ci k) (hs : S.1 a = some (ci, ln)) (hd : decode cc pc = .ok (.putfield idx, 3)) (hn : pc + 3 = n)
    (kk : ∀ S', PutO S a k (.ref b) S' → V own cc nL ret nm ro R Qf cells slots n al st S' I) : V own cc nL ret nm ro R Qf cells slots pc al (.ref b :: .ref a :: st) S I :=
  v_putR hf hr hp hs (Or.inl ⟨_, rfl⟩) hd hn (kk _ putO)
theorem v_aO {a ln j t b lb : Nat} {i : Int32} (ht : 3 ≤ t ∧ t < 7) (hs : S.1 a = some (20 + t, ln)) (hj : ix i j ln) (hb : S.1 b = some (aci t, lb)) (hd : decode cc pc = .ok (.aastore, 1)) (hn : pc + 1 = n) (kk : ∀ S', PutO S a j (.ref b) S' → V own cc nL ret nm ro R Qf cells slots n al st S' I) : V own cc nL ret nm ro R Qf cells slots pc al (.ref b :: .int i :: .ref a :: st) S I :=
  v_aast ht hs hj hb hd hn (kk _ putO)
end MAKE3
theorem LayR.eb {S S' : St} {I I' : In} {r : Nat} (h : LayR S r) (e : EqB r (r + 5) S I S' I') : LayR S' r := by
  unfold LayR
  rw [(e r (by omega) (by omega)).1, (e r (by omega) (by omega)).2.1, (e (r + 1) (by omega) (by omega)).1, (e (r + 2) (by omega) (by omega)).1, (e (r + 3) (by omega) (by omega)).1, (e (r + 4) (by omega) (by omega)).1]
  exact h
theorem LayB.eb {S S' : St} {I I' : In} {r : Nat} (h : LayB S r) (e : EqB r (r + 4) S I S' I') : LayB S' r := by
  unfold LayB
  rw [(e r (by omega) (by omega)).1, (e r (by omega) (by omega)).2.1, (e (r + 1) (by omega) (by omega)).1, (e (r + 2) (by omega) (by omega)).1, (e (r + 3) (by omega) (by omega)).1]
  exact h
theorem LaySh.eb {S S' : St} {I I' : In} {r : Nat} (h : LaySh S r) (e : EqB r (r + 2) S I S' I') : LaySh S' r := by
  unfold LaySh
  rw [(e r (by omega) (by omega)).1, (e r (by omega) (by omega)).2.1, (e (r + 1) (by omega) (by omega)).1]
  exact h
theorem LaySl.eb {S S' : St} {I I' : In} {r : Nat} (h : LaySl S r) (e : EqB r (r + 3) S I S' I') : LaySl S' r :=
  ⟨by rw [(e r (by omega) (by omega)).1]; exact h.1, by rw [(e r (by omega) (by omega)).2.1]; exact h.2.1, h.2.2.eb (e.sub (by omega) (by omega))⟩
theorem LayV.eb {S S' : St} {I I' : In} {v : Nat} (h : LayV S v) (e : EqB v (v + 11) S I S' I') : LayV S' v :=
  ⟨by rw [(e v (by omega) (by omega)).1]; exact h.1, by rw [(e v (by omega) (by omega)).2.1]; exact h.2.1, h.2.2.1.eb (e.sub (by omega) (by omega)), h.2.2.2.1.eb (e.sub (by omega) (by omega)), by rw [(e (v + 10) (by omega) (by omega)).1]; exact h.2.2.2.2⟩
theorem LayT.eb {S S' : St} {I I' : In} {r : Nat} (h : LayT S r) (e : EqB r (r + 2) S I S' I') : LayT S' r := by
  unfold LayT
  rw [(e r (by omega) (by omega)).1, (e r (by omega) (by omega)).2.1, (e (r + 1) (by omega) (by omega)).1]
  exact h
theorem LayRd.eb {S S' : St} {I I' : In} {r : Nat} (h : LayRd S r) (e : EqB r (r + 2) S I S' I') : LayRd S' r := by
  unfold LayRd
  rw [(e r (by omega) (by omega)).1, (e r (by omega) (by omega)).2.1, (e (r + 1) (by omega) (by omega)).1]
  exact h
/-- a new village -/
def IniV (S : St) (I : In) (v : Nat) : Prop := I (v + 1) 4 = 0 ∧ (I (v + 6) 3 = 0 ∧ I (v + 6) 4 = 0 ∧ I (v + 6) 5 = 0 ∧ I (v + 6) 6 = 0) ∧ (∀ t, t < 6 → I (v + 9) t = -1000000005) ∧ (I v 3 = 0 ∧ I v 4 = 0 ∧ I v 5 = 5 ∧ I v 6 = 3 ∧ I v 7 = 0 ∧ I v 8 = 1) ∧ ∀ k, S.2.1 (v + 10) k = .null
theorem IniV.eb {S S' : St} {I I' : In} {v : Nat} (h : IniV S I v) (e : EqB v (v + 11) S I S' I') : IniV S' I' v := by
  unfold IniV
  rw [(e v (by omega) (by omega)).2.2, (e (v + 1) (by omega) (by omega)).2.2, (e (v + 6) (by omega) (by omega)).2.2, (e (v + 9) (by omega) (by omega)).2.2, (e (v + 10) (by omega) (by omega)).2.1]
  exact h
def IniSh (I : In) (a : Nat) : Prop := I a 1 = -1 ∧ I a 2 = 0 ∧ ∀ j, I (a + 1) j = 0
theorem IniSh.eb {S S' : St} {I I' : In} {a : Nat} (h : IniSh I a) (e : EqB a (a + 2) S I S' I') : IniSh I' a := by
  unfold IniSh
  rw [(e a (by omega) (by omega)).2.2, (e (a + 1) (by omega) (by omega)).2.2]
  exact h

set_option maxRecDepth 100000 in
set_option maxHeartbeats 1000000 in
theorem k_X7_init {ro : Ro} {S : St} {I : In} {a : Nat} (hz : S.2.2 = a + 1) (h0 : S.1 a = some (6, 0)) : Ok mX7_init ro 2 2 27 [.ref a] S I (fun rr S' I' => rr = none ∧ LaySl S' a ∧ I' a 1 = 0 ∧ S'.2.2 = a + 3 ∧ EqB 0 a S I S' I' ∧ (Fre S → Fre S')) := by
  refine ok_of (al := [.ref a]) (by decide) (l8 rfl) rfl ?_
  refine v_aload_n (n := 1) dX7_init_0 rfl rfl rfl ?_
  refine v_objInit (n := 4) l_X7_3 oi_iv oi_code ⟨rfl, rfl⟩ (l8 rfl) dX7_init_1 rfl ?_
  refine v_aload_n (n := 5) dX7_init_4 rfl rfl rfl ?_
  refine v_nO (n := 8) (ci := 5) (N := 3) (e := a + 1) hz (by decide) rfl cl_X7_9 in_X6 ini_X6 ⟨l8 rfl, l8 rfl⟩ dX7_init_5 rfl (fun S1 I1 w1 => ?_)
  refine v_dup (n := 9) dX7_init_8 rfl rfl ?_
  refine v_callIN (n := 12) (host := "SnowOwed") mc_X6_init (by decide) iv_X6_init rfl (k_X6_init w1.1 w1.2.1) ⟨rfl, rfl⟩ (l8 rfl) ⟨l8 rfl, l8 rfl⟩ rfl rfl (l8 rfl) dX7_init_9 rfl ?_
  rintro _ S2 I2 ⟨rfl, hM⟩
  have h2 : S2.1 a = some (6, 0) := by rw [(hM.2.2.1 a (by omega)).1, (w1.2.2.2.2.1 a (by omega)).1]; exact h0
  refine v_pO (n := 15) f_X7_12 rfl (Or.inr ⟨rfl, rfl, rfl⟩) h2 dX7_init_12 rfl (fun S3 p3 => ?_)
  have h3 : S3.1 a = some (6, 0) := by rw [p3.1]; exact h2
  refine v_aload_n (n := 16) dX7_init_15 rfl rfl rfl ?_
  refine v_iconst (n := 17) (v := 0) dX7_init_16 c_0 rfl ?_
  refine v_putI (n := 20) f_X7_18 rfl (Or.inl rfl) h3 dX7_init_17 rfl ?_
  refine v_aload_n (n := 21) dX7_init_20 rfl rfl rfl ?_
  refine v_iconst (n := 22) (v := 0) dX7_init_21 c_0 rfl ?_
  refine v_putI (n := 25) f_X7_22 rfl (Or.inl rfl) h3 dX7_init_22 rfl ?_
  refine v_aload_n (n := 26) dX7_init_25 rfl rfl rfl ?_
  refine v_iconst (n := 27) (v := 0) dX7_init_26 c_0 rfl ?_
  refine v_putI (n := 30) f_X7_25 rfl (Or.inl rfl) h3 dX7_init_27 rfl ?_
  refine v_aload_n (n := 31) dX7_init_30 rfl rfl rfl ?_
  refine v_iconst (n := 32) (v := 0) dX7_init_31 c_0 rfl ?_
  refine v_putI (n := 35) f_X7_28 rfl (Or.inl rfl) h3 dX7_init_32 rfl ?_
  refine v_aload_n (n := 36) dX7_init_35 rfl rfl rfl ?_
  refine v_iconst (n := 37) (v := 0) dX7_init_36 c_0 rfl ?_
  refine v_putI (n := 40) f_X7_31 rfl (Or.inl rfl) h3 dX7_init_37 rfl ?_
  obtain ⟨I3, hI3⟩ : ∃ I3, I3 = setI (setI (setI (setI (setI I2 a 1 0) a 2 0) a 3 0) a 4 0) a 5 0 := ⟨_, rfl⟩
  rw [← hI3]
  have eT : EqB (a + 1) (a + 3) S2 I2 S3 I3 := fun c b1 b2 => ⟨by rw [p3.1], p3.2.2.2.2 c (by omega), by rw [hI3, setI_ne (by omega), setI_ne (by omega), setI_ne (by omega), setI_ne (by omega), setI_ne (by omega)]⟩
  have eB : EqB 0 a S I S3 I3 := fun c b1 b2 => by
    have q1 := w1.2.2.2.2.1 c (by omega)
    have q2 := hM.2.2.1 c (by omega)
    exact ⟨by rw [p3.1, q2.1, q1.1], by rw [p3.2.2.2.2 c (by omega), (q2.2 (by omega)).1, q1.2.1], by rw [hI3, setI_ne (by omega), setI_ne (by omega), setI_ne (by omega), setI_ne (by omega), setI_ne (by omega), (q2.2 (by omega)).2, q1.2.2]⟩
  have hL : LaySh S2 (a + 1) := ⟨hM.1.2.1, by rw [hM.1.2.2.1]; rfl, (hM.2.1 0 _ rfl).1⟩
  exact v_vret rfl ⟨rfl, ⟨h3, p3.2.2.1, hL.eb eT⟩, by rw [hI3, sI_k (by decide), sI_k (by decide), sI_k (by decide), sI_k (by decide), sI_s], by rw [p3.2.1, hM.1.1]; rfl, eB, fun hf => p3.f (hM.fr (w1.2.2.2.2.2 hf))⟩ ⟨l8 rfl, l8 rfl⟩ dX7_init_40

set_option maxRecDepth 100000 in
set_option maxHeartbeats 1000000 in
theorem k_X9_init {ro : Ro} {S : St} {I : In} {v : Nat} (hz : S.2.2 = v + 1) (h0 : S.1 v = some (8, 0)) : Ok mX9_init ro 2 10 121 [.ref v] S I (fun rr S' I' => rr = none ∧ LayV S' v ∧ IniV S' I' v ∧ S'.2.2 = v + 11 ∧ EqB 0 v S I S' I' ∧ (Fre S → Fre S')) := by
  refine ok_of (al := [.ref v]) (by decide) (l8 rfl) rfl ?_
  refine v_aload_n (n := 1) dX9_init_0 rfl rfl rfl ?_
  refine v_objInit (n := 4) l_X9_3 oi_iv oi_code ⟨rfl, rfl⟩ (l8 rfl) dX9_init_1 rfl ?_
  refine v_aload_n (n := 5) dX9_init_4 rfl rfl rfl ?_
  refine v_nO (n := 8) (ci := 4) (N := 5) (e := v + 1) hz (by decide) rfl cl_X9_9 in_X5 ini_X5 ⟨l8 rfl, l8 rfl⟩ dX9_init_5 rfl (fun S1 I1 w1 => ?_)
  refine v_dup (n := 9) dX9_init_8 rfl rfl ?_
  refine v_callIN (n := 12) (host := "SnowOwed") mc_X5_init (by decide) iv_X5_init rfl (k_X5_init w1.1 w1.2.1) ⟨rfl, rfl⟩ (l8 rfl) ⟨l8 rfl, l8 rfl⟩ rfl rfl (l8 rfl) dX9_init_9 rfl ?_
  rintro _ S2 I2 ⟨rfl, hM⟩
  have h2 : S2.1 v = some (8, 0) := by rw [(hM.2.2.1 v (by omega)).1, (w1.2.2.2.2.1 v (by omega)).1]; exact h0
  have hR : LayR S2 (v + 1) := ⟨hM.1.2.1, by rw [hM.1.2.2.1]; exact ⟨rfl, rfl, rfl, rfl⟩, (hM.2.1 0 _ rfl).1, (hM.2.1 1 _ rfl).1, (hM.2.1 2 _ rfl).1, (hM.2.1 3 _ rfl).1⟩
  have hr4 : I2 (v + 1) 4 = 0 := by rw [hM.1.2.2.2.1]; rfl
  have z2 : S2.2.2 = v + 6 := by rw [hM.1.1]; rfl
  refine v_pO (n := 15) f_X9_12 rfl (Or.inr ⟨rfl, rfl, rfl⟩) h2 dX9_init_12 rfl (fun S3 p3 => ?_)
  have h3 : S3.1 v = some (8, 0) := by rw [p3.1]; exact h2
  refine v_aload_n (n := 16) dX9_init_15 rfl rfl rfl ?_
  refine v_nO (n := 19) (ci := 0) (N := 7) (e := v + 6) (by rw [p3.2.1]; exact z2) (by decide) rfl cl_X9_18 in_X0 ini_X0 ⟨l8 rfl, l8 rfl⟩ dX9_init_16 rfl (fun S4 I4 w4 => ?_)
  refine v_dup (n := 20) dX9_init_19 rfl rfl ?_
  refine v_callI (n := 23) mc_X0_init l_X9_20 iv_X0_init rfl (k_X0_init w4.1 w4.2.1) ⟨rfl, rfl⟩ (l8 rfl) ⟨l8 rfl, l8 rfl⟩ rfl rfl (l8 rfl) dX9_init_20 rfl ?_
  rintro _ S5 I5 ⟨rfl, I5b, hN, hc5, ht5⟩
  have h5 : S5.1 v = some (8, 0) := by rw [(hN.2.2.1 v (by omega)).1, (w4.2.2.2.2.1 v (by omega)).1]; exact h3
  have hB : LayB S5 (v + 6) := ⟨hN.1.2.1, by rw [hN.1.2.2.1]; exact ⟨rfl, rfl, rfl⟩, (hN.2.1 0 _ rfl).1, (hN.2.1 1 _ rfl).1, (hN.2.1 2 _ rfl).1⟩
  have hb : I5 (v + 6) 3 = 0 ∧ I5 (v + 6) 4 = 0 ∧ I5 (v + 6) 5 = 0 ∧ I5 (v + 6) 6 = 0 := by rw [hc5 _ (by omega), hN.1.2.2.2.1]; exact ⟨rfl, rfl, rfl, rfl⟩
  have z5 : S5.2.2 = v + 10 := by rw [hN.1.1]; rfl
  refine v_pO (n := 26) f_X9_21 rfl (Or.inr ⟨rfl, rfl, rfl⟩) h5 dX9_init_23 rfl (fun S6 p6 => ?_)
  have h6 : S6.1 v = some (8, 0) := by rw [p6.1]; exact h5
  refine v_aload_n (n := 27) dX9_init_26 rfl rfl rfl ?_
  refine v_iconst (n := 28) (v := 3) dX9_init_27 c_3 rfl ?_
  refine v_nR (n := 31) (t := 4) (N := 3) (e := v + 10) (by rw [p6.2.1]; exact z5) ⟨by decide, by decide⟩ cl_X9_25 ⟨by decide, rfl, by decide⟩ ⟨l8 rfl, l8 rfl⟩ dX9_init_28 rfl (fun S7 I7 w7 => ?_)
  have h7 : S7.1 v = some (8, 0) := by rw [(w7.2.2.2.2.1 v (by omega)).1]; exact h6
  refine v_pO (n := 34) f_X9_27 rfl (Or.inr ⟨rfl, rfl, rfl⟩) h7 dX9_init_31 rfl (fun S8 p8 => ?_)
  have h8 : S8.1 v = some (8, 0) := by rw [p8.1]; exact h7
  refine v_aload_n (n := 35) dX9_init_34 rfl rfl rfl ?_
  refine v_iconst (n := 36) (v := 0) dX9_init_35 c_0 rfl ?_
  refine v_putI (n := 39) f_X9_31 rfl (Or.inl rfl) h8 dX9_init_36 rfl ?_
  refine v_aload_n (n := 40) dX9_init_39 rfl rfl rfl ?_
  refine v_iconst (n := 41) (v := 0) dX9_init_40 c_0 rfl ?_
  refine v_putI (n := 44) f_X9_35 rfl (Or.inl rfl) h8 dX9_init_41 rfl ?_
  refine v_aload_n (n := 45) dX9_init_44 rfl rfl rfl ?_
  refine v_iconst (n := 46) (v := 5) dX9_init_45 c_5 rfl ?_
  refine v_putI (n := 49) f_X9_38 rfl (Or.inl rfl) h8 dX9_init_46 rfl ?_
  refine v_aload_n (n := 50) dX9_init_49 rfl rfl rfl ?_
  refine v_iconst (n := 51) (v := 3) dX9_init_50 c_3 rfl ?_
  refine v_putI (n := 54) f_X9_41 rfl (Or.inl rfl) h8 dX9_init_51 rfl ?_
  refine v_aload_n (n := 55) dX9_init_54 rfl rfl rfl ?_
  refine v_iconst (n := 56) (v := 0) dX9_init_55 c_0 rfl ?_
  refine v_putI (n := 59) f_X9_44 rfl (Or.inl rfl) h8 dX9_init_56 rfl ?_
  refine v_aload_n (n := 60) dX9_init_59 rfl rfl rfl ?_
  refine v_iconst (n := 61) (v := 1) dX9_init_60 c_1 rfl ?_
  refine v_putI (n := 64) f_X9_47 rfl (Or.inl rfl) h8 dX9_init_61 rfl ?_
  obtain ⟨I8, hI8⟩ : ∃ I8, I8 = setI (setI (setI (setI (setI (setI I7 v 3 0) v 4 0) v 5 5) v 6 3) v 7 0) v 8 1 := ⟨_, rfl⟩
  rw [← hI8]
  have i8 : ∀ c, c ≠ v → I8 c = I7 c := fun c hc => by rw [hI8, setI_ne hc, setI_ne hc, setI_ne hc, setI_ne hc, setI_ne hc, setI_ne hc]
  have e58 : ∀ c, c ≠ v → c ≠ v + 10 → S8.1 c = S5.1 c ∧ S8.2.1 c = S5.2.1 c ∧ I8 c = I5 c := fun c c1 c2 => by
    have q := w7.2.2.2.2.1 c c2
    exact ⟨by rw [p8.1, q.1, p6.1], by rw [p8.2.2.2.2 c c1, q.2.1, p6.2.2.2.2 c c1], by rw [i8 c c1, q.2.2]⟩
  have e25 : ∀ c, c ≠ v → c < v + 6 → S5.1 c = S2.1 c ∧ S5.2.1 c = S2.2.1 c ∧ I5 c = I2 c := fun c c1 c2 => by
    have q := hN.2.2.1 c (by omega)
    have u := w4.2.2.2.2.1 c (by omega)
    exact ⟨by rw [q.1, u.1, p3.1], by rw [(q.2 (by omega)).1, u.2.1, p3.2.2.2.2 c c1], by rw [hc5 c (by omega), (q.2 (by omega)).2, u.2.2]⟩
  have e28 : EqB (v + 1) (v + 6) S2 I2 S8 I8 := fun c c1 c2 => by
    have q := e58 c (by omega) (by omega)
    have u := e25 c (by omega) (by omega)
    exact ⟨q.1.trans u.1, q.2.1.trans u.2.1, q.2.2.trans u.2.2⟩
  have g0 : S8.2.1 v 0 = .ref (v + 1) := by rw [p8.2.2.2.1 0 (by decide), (w7.2.2.2.2.1 v (by omega)).2.1, p6.2.2.2.1 0 (by decide), ((hN.2.2.1 v (by omega)).2 (by omega)).1, (w4.2.2.2.2.1 v (by omega)).2.1, p3.2.2.1]
  have g1 : S8.2.1 v 1 = .ref (v + 6) := by rw [p8.2.2.2.1 1 (by decide), (w7.2.2.2.2.1 v (by omega)).2.1, p6.2.2.1]
  have hLV : LayV S8 v := ⟨h8, ⟨g0, g1, p8.2.2.1⟩, hR.eb e28, hB.eb (I := I5) (I' := I8) (fun c c1 c2 => e58 c (by omega) (by omega)), by rw [p8.1]; exact w7.2.1⟩
  have hIV : IniV S8 I8 v := ⟨by rw [(e28 (v + 1) (by omega) (by omega)).2.2]; exact hr4, by rw [(e58 (v + 6) (by omega) (by omega)).2.2]; exact hb, fun t ht => by rw [(e58 (v + 9) (by omega) (by omega)).2.2]; exact ht5 t ht, by rw [hI8]; exact ⟨by rw [sI_k (by decide), sI_k (by decide), sI_k (by decide), sI_k (by decide), sI_k (by decide), sI_s], by rw [sI_k (by decide), sI_k (by decide), sI_k (by decide), sI_k (by decide), sI_s], by rw [sI_k (by decide), sI_k (by decide), sI_k (by decide), sI_s], by rw [sI_k (by decide), sI_k (by decide), sI_s], by rw [sI_k (by decide), sI_s], sI_s⟩, fun k => by rw [p8.2.2.2.2 _ (by omega)]; exact w7.2.2.1 k⟩
  have eB : EqB 0 v S I S8 I8 := fun c _ c2 => by
    have q := e58 c (by omega) (by omega)
    have u := e25 c (by omega) (by omega)
    have a1 := hM.2.2.1 c (by omega)
    have a2 := w1.2.2.2.2.1 c (by omega)
    exact ⟨by rw [q.1, u.1, a1.1, a2.1], by rw [q.2.1, u.2.1, (a1.2 (by omega)).1, a2.2.1], by rw [q.2.2, u.2.2, (a1.2 (by omega)).2, a2.2.2]⟩
  exact v_vret rfl ⟨rfl, hLV, hIV, by rw [p8.2.1, w7.1], eB, fun hf => p8.f (w7.2.2.2.2.2 (p6.f (hN.fr (w4.2.2.2.2.2 (p3.f (hM.fr (w1.2.2.2.2.2 hf)))))))⟩ ⟨l8 rfl, l8 rfl⟩ dX9_init_64

