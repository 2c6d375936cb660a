/-! ===== what is made: an object, and the arrays that it makes ===== -/
def upG (g : Nat → Value) (k : Nat) (v : Value) : Nat → Value := fun j => if j = k then v else g j
/-- since S0, I0: the object a (of class ci) has the references g, the ints f; behind base lie the arrays L, with C in them -/
def MA (S0 : St) (I0 : In) (ci a base : Nat) (L : List (Nat × Nat)) (C : Nat → Ar) (g : Nat → Value) (f : Ar) (S : St) (I : In) : Prop :=
  (S.2.2 = base + L.length ∧ S.1 a = some (ci, 0) ∧ S.2.1 a = g ∧ I a = f ∧ a < base) ∧ (∀ i q, L[i]? = some q → S.1 (base + i) = some q ∧ (∀ j, S.2.1 (base + i) j = .null) ∧ I (base + i) = C i) ∧ (∀ c, c < base → S.1 c = S0.1 c ∧ (c ≠ a → S.2.1 c = S0.2.1 c ∧ I c = I0 c)) ∧ ((∀ b, S0.2.2 ≤ b → S0.1 b = none) → ∀ b, S.2.2 ≤ b → S.1 b = none)
theorem MA.z {S : St} {I : In} {ci a : Nat} (hz : S.2.2 = a + 1) (h0 : S.1 a = some (ci, 0)) : MA S I ci a (a + 1) [] (fun _ _ => 0) (S.2.1 a) (I a) S I :=
  ⟨⟨hz, h0, rfl, rfl, by omega⟩, (fun i q h => by cases h), fun c _ => ⟨rfl, fun _ => ⟨rfl, rfl⟩⟩, fun h => h⟩
theorem MA.new {S0 : St} {I0 : In} {ci a base : Nat} {L : List (Nat × Nat)} {C : Nat → Ar} {g : Nat → Value} {f : Ar} {S : St} {I : In} {q : Nat × Nat} (h : MA S0 I0 ci a base L C g f S I) (hC : C L.length = fun _ => 0) : MA S0 I0 ci a base (L ++ [q]) C g f (newS S q) (newI S I) := by
  obtain ⟨⟨a1, a2, a3, a4, a5⟩, b, c, d⟩ := h
  refine ⟨⟨?_, ?_, ?_, ?_, a5⟩, fun i p hp => ?_, fun k hk => ?_, fun h0 k hk => ?_⟩
  · show S.2.2 + 1 = _; rw [a1, List.length_append]; rfl
  · show (if a = S.2.2 then some q else S.1 a) = _; rw [if_neg (by omega)]; exact a2
  · funext j; show (if a = S.2.2 then Value.null else S.2.1 a j) = _; rw [if_neg (by omega), a3]
  · funext j; show (if a = S.2.2 then 0 else I a j) = _; rw [if_neg (by omega), a4]
  · by_cases e : i < L.length
    · rw [List.getElem?_append_left e] at hp
      obtain ⟨b1, b2, b3⟩ := b i p hp
      refine ⟨?_, fun j => ?_, ?_⟩
      · show (if base + i = S.2.2 then some q else S.1 (base + i)) = _; rw [if_neg (by omega)]; exact b1
      · show (if base + i = S.2.2 then Value.null else S.2.1 (base + i) j) = _; rw [if_neg (by omega)]; exact b2 j
      · funext j; show (if base + i = S.2.2 then 0 else I (base + i) j) = _; rw [if_neg (by omega), b3]
    · have e2 : i = L.length := by
        have : i < (L ++ [q]).length := by
          rcases Nat.lt_or_ge i (L ++ [q]).length with z | z
          · exact z
          · rw [List.getElem?_eq_none z] at hp; cases hp
        rw [List.length_append] at this
        have h1 : ([q] : List (Nat × Nat)).length = 1 := rfl
        omega
      subst e2
      rw [List.getElem?_append_right (Nat.le_refl _), Nat.sub_self] at hp
      have hpq : q = p := by simpa using hp
      subst hpq
      refine ⟨?_, fun j => ?_, ?_⟩
      · show (if base + L.length = S.2.2 then some q else S.1 (base + L.length)) = _; rw [if_pos a1.symm]
      · show (if base + L.length = S.2.2 then Value.null else S.2.1 (base + L.length) j) = _; rw [if_pos a1.symm]
      · funext j; show (if base + L.length = S.2.2 then 0 else I (base + L.length) j) = _; rw [if_pos a1.symm, hC]
  · obtain ⟨c1, c2⟩ := c k hk
    refine ⟨?_, fun hka => ⟨?_, ?_⟩⟩
    · show (if k = S.2.2 then some q else S.1 k) = _; rw [if_neg (by omega)]; exact c1
    · funext j; show (if k = S.2.2 then Value.null else S.2.1 k j) = _; rw [if_neg (by omega), (c2 hka).1]
    · funext j; show (if k = S.2.2 then 0 else I k j) = _; rw [if_neg (by omega), (c2 hka).2]
  · have hk' : S.2.2 + 1 ≤ k := hk
    show (if k = S.2.2 then some q else S.1 k) = none
    rw [if_neg (by omega)]
    exact d h0 k (by omega)
theorem MA.putR {S0 : St} {I0 : In} {ci a base : Nat} {L : List (Nat × Nat)} {C : Nat → Ar} {g : Nat → Value} {f : Ar} {S : St} {I : In} {k : Nat} {v : Value} (h : MA S0 I0 ci a base L C g f S I) : MA S0 I0 ci a base L C (upG g k v) f (S.1, setG S.2.1 a k v, S.2.2) I := by
  obtain ⟨⟨a1, a2, a3, a4, a5⟩, b, c, d⟩ := h
  refine ⟨⟨a1, a2, ?_, a4, a5⟩, fun i p hp => ⟨(b i p hp).1, fun j => ?_, (b i p hp).2.2⟩, fun n hn => ⟨(c n hn).1, fun hna => ⟨?_, ((c n hn).2 hna).2⟩⟩, d⟩
  · funext j
    show (if a = a ∧ j = k then v else S.2.1 a j) = if j = k then v else g j
    by_cases e : j = k
    · rw [if_pos ⟨rfl, e⟩, if_pos e]
    · rw [if_neg (fun z => e z.2), if_neg e, a3]
  · show setG S.2.1 a k v (base + i) j = _; rw [setG_ne (by omega)]; exact (b i p hp).2.1 j
  · show setG S.2.1 a k v n = _; rw [setG_ne hna]; exact ((c n hn).2 hna).1
theorem MA.putI {S0 : St} {I0 : In} {ci a base : Nat} {L : List (Nat × Nat)} {C : Nat → Ar} {g : Nat → Value} {f : Ar} {S : St} {I : In} {k : Nat} {x : Int32} (h : MA S0 I0 ci a base L C g f S I) : MA S0 I0 ci a base L C g (upd f k x) S (setI I a k x) := by
  obtain ⟨⟨a1, a2, a3, a4, a5⟩, b, c, d⟩ := h
  exact ⟨⟨a1, a2, a3, by rw [sI_row, a4], a5⟩, fun i p hp => ⟨(b i p hp).1, (b i p hp).2.1, by rw [setI_ne (by omega)]; exact (b i p hp).2.2⟩, fun n hn => ⟨(c n hn).1, fun hna => ⟨((c n hn).2 hna).1, by rw [setI_ne hna]; exact ((c n hn).2 hna).2⟩⟩, d⟩
theorem MA.ast {S0 : St} {I0 : In} {ci a base i k : Nat} {L : List (Nat × Nat)} {C : Nat → Ar} {g : Nat → Value} {f : Ar} {S : St} {I : In} {x : Int32} (h : MA S0 I0 ci a base L C g f S I) : MA S0 I0 ci a base L (setI C i k x) g f S (setI I (base + i) k x) := by
  obtain ⟨⟨a1, a2, a3, a4, a5⟩, b, c, d⟩ := h
  refine ⟨⟨a1, a2, a3, by rw [setI_ne (by omega)]; exact a4, a5⟩, fun j p hp => ⟨(b j p hp).1, (b j p hp).2.1, ?_⟩, fun n hn => ⟨(c n hn).1, fun hna => ⟨((c n hn).2 hna).1, by rw [setI_ne (by omega)]; exact ((c n hn).2 hna).2⟩⟩, d⟩
  by_cases e : j = i
  · subst e; rw [sI_row, sI_row, (b j p hp).2.2]
  · rw [setI_ne (show j ≠ i from e), setI_ne (by omega)]; exact (b j p hp).2.2
section MAKE2
variable {own : String} {cc : ByteArray} {nL : Nat} {ret : Option FieldType} {nm : String} {ro : Ro} {R : Room} {Qf : Wd → List Frame → Array Value → State → State → Prop} {cells slots pc n : Nat} {al st : List Value} {S : St} {I : In}
variable {S0 : St} {I0 : In} {ci a base : Nat} {L : List (Nat × Nat)} {C : Nat → Ar} {g : Nat → Value} {f : Ar}
theorem v_mn {atype : ArrayType} {t N e : Nat} {x : Int32} (hM : MA S0 I0 ci a base L C g f S I) (hC : C L.length = fun _ => 0) (he : base + L.length = e) (ht : t < 3) (hty : newarray.typeOf atype = aty t) (h1 : Cond.arrayClass (aty t) ∈ GW) (hx : ¬ x < 0 ∧ x.toNatClampNeg = N ∧ N ≤ 60000000) (hc : cells + 1 ≤ R.cells ∧ slots + N ≤ R.slots) (hd : decode cc pc = .ok (.newarray atype, 2)) (hn : pc + 2 = n)
    (kk : ∀ S' I', MA S0 I0 ci a base (L ++ [(20 + t, N)]) C g f S' I' → V own cc nL ret nm ro R Qf (cells + 1) (slots + N) n al (.ref e :: st) S' I') : V own cc nL ret nm ro R Qf cells slots pc al (.int x :: st) S I := by
  refine v_newa ht hty h1 hx hc hd hn ?_
  rw [hM.1.1, he]
  exact kk _ _ (hM.new hC)
theorem v_man {idx t N e : Nat} {x : Int32} (hM : MA S0 I0 ci a base L C g f S I) (hC : C L.length = fun _ => 0) (he : base + L.length = e) (ht : 3 ≤ t ∧ t < 7) (h1 : Cond.classLink own idx (fC (aci t)).1 ∈ GW) (hx : ¬ x < 0 ∧ x.toNatClampNeg = N ∧ N ≤ 60000000) (hc : cells + 1 ≤ R.cells ∧ slots + N ≤ R.slots) (hd : decode cc pc = .ok (.anewarray idx, 3)) (hn : pc + 3 = n)
    (kk : ∀ S' I', MA S0 I0 ci a base (L ++ [(20 + t, N)]) C g f S' I' → V own cc nL ret nm ro R Qf (cells + 1) (slots + N) n al (.ref e :: st) S' I') : V own cc nL ret nm ro R Qf cells slots pc al (.int x :: st) S I := by
  refine v_anew ht h1 hx hc hd hn ?_
  rw [hM.1.1, he]
  exact kk _ _ (hM.new hC)
theorem v_mr {idx k b : Nat} (hM : MA S0 I0 ci a base L C g f S I) (hf : FA own idx ci k) (hr : isR ci k = true) (hp : canPut own nm ci k) (hd : decode cc pc = .ok (.putfield idx, 3)) (hn : pc + 3 = n)
    (kk : ∀ S', MA S0 I0 ci a base L C (upG g k (.ref b)) f S' I → V own cc nL ret nm ro R Qf cells slots n al st S' I) : V own cc nL ret nm ro R Qf cells slots pc al (.ref b :: .ref a :: st) S I :=
  v_putR hf hr hp hM.1.2.1 (Or.inl ⟨_, rfl⟩) hd hn (kk _ hM.putR)
theorem v_mi {idx k : Nat} {x : Int32} (hM : MA S0 I0 ci a base L C g f S I) (hf : FA own idx ci k) (ht : fty ci k = .int) (hp : canPut own nm ci k) (hd : decode cc pc = .ok (.putfield idx, 3)) (hn : pc + 3 = n)
    (kk : ∀ I', MA S0 I0 ci a base L C g (upd f k x) S I' → V own cc nL ret nm ro R Qf cells slots n al st S I') : V own cc nL ret nm ro R Qf cells slots pc al (.int x :: .ref a :: st) S I :=
  v_putI hf ht hp hM.1.2.1 hd hn (kk _ hM.putI)
theorem v_mz {idx k : Nat} {x : Int32} (hM : MA S0 I0 ci a base L C g f S I) (hf : FA own idx ci k) (ht : fty ci k = .boolean) (hp : canPut own nm ci k) (hx : x = 0 ∨ x = 1) (hd : decode cc pc = .ok (.putfield idx, 3)) (hn : pc + 3 = n)
    (kk : ∀ I', MA S0 I0 ci a base L C g (upd f k x) S I' → V own cc nL ret nm ro R Qf cells slots n al st S I') : V own cc nL ret nm ro R Qf cells slots pc al (.int x :: .ref a :: st) S I :=
  v_putZ hf ht hp hM.1.2.1 hx hd hn (kk _ hM.putI)
theorem v_mg {idx k e : Nat} (hM : MA S0 I0 ci a base L C g f S I) (hf : FA own idx ci k) (hr : isR ci k = true) (hg : g k = .ref e) (hd : decode cc pc = .ok (.getfield idx, 3)) (hn : pc + 3 = n)
    (kk : V own cc nL ret nm ro R Qf cells slots n al (.ref e :: st) S I) : V own cc nL ret nm ro R Qf cells slots pc al (.ref a :: st) S I :=
  v_getR hf hr hM.1.2.1 (by rw [hM.1.2.2.1, hg]) hd hn kk
theorem v_ms {i j N : Nat} {y x : Int32} (hM : MA S0 I0 ci a base L C g f S I) (hL : L[i]? = some (20, N)) (hj : ix y j N) (hd : decode cc pc = .ok (.iastore, 1)) (hn : pc + 1 = n)
    (kk : ∀ I', MA S0 I0 ci a base L (setI C i j x) g f S I' → V own cc nL ret nm ro R Qf cells slots n al st S I') : V own cc nL ret nm ro R Qf cells slots pc al (.int x :: .int y :: .ref (base + i) :: st) S I :=
  v_iast (hM.2.1 i _ hL).1 hj hd hn (kk _ hM.ast)
theorem v_mcs {i j N : Nat} {y x : Int32} (hM : MA S0 I0 ci a base L C g f S I) (hL : L[i]? = some (22, N)) (hj : ix y j N) (hx : narrow .char (.int x) = .int x) (hd : decode cc pc = .ok (.castore, 1)) (hn : pc + 1 = n)
    (kk : ∀ I', MA S0 I0 ci a base L (setI C i j x) g f S I' → V own cc nL ret nm ro R Qf cells slots n al st S I') : V own cc nL ret nm ro R Qf cells slots pc al (.int x :: .int y :: .ref (base + i) :: st) S I :=
  v_cast (hM.2.1 i _ hL).1 hj hx hd hn (kk _ hM.ast)
end MAKE2

set_option maxRecDepth 100000 in
set_option maxHeartbeats 1000000 in
theorem k_X5_init {ro : Ro} {S : St} {I : In} {r : Nat} (hz : S.2.2 = r + 1) (h0 : S.1 r = some (4, 0)) : Ok mX5_init ro 1 4 40 [.ref r] S I (fun rr S' I' => rr = none ∧ MA S I 4 r (r + 1) [(20, 10), (20, 10), (20, 10), (20, 10)] (fun _ _ => 0) (upG (upG (upG (upG (S.2.1 r) 0 (.ref (r + 1 + 0))) 1 (.ref (r + 1 + 1))) 2 (.ref (r + 1 + 2))) 3 (.ref (r + 1 + 3))) (upd (I r) 4 0) S' I') := by
  refine ok_of (al := [.ref r]) (by decide) (l8 rfl) rfl ?_
  have hM := MA.z (I := I) hz h0
  refine v_aload_n (n := 1) dX5_init_0 rfl rfl rfl ?_
  refine v_objInit (n := 4) l_X5_3 oi_iv oi_code ⟨rfl, rfl⟩ (l8 rfl) dX5_init_1 rfl ?_
  refine v_aload_n (n := 5) dX5_init_4 rfl rfl rfl ?_
  refine v_bipush (n := 7) (v := 10) dX5_init_5 b_10 rfl ?_
  refine v_mn (n := 9) (t := 0) (N := 10) (e := r + 1 + 0) hM rfl rfl (by decide) rfl ac_int ⟨by decide, rfl, by decide⟩ ⟨l8 rfl, l8 rfl⟩ dX5_init_7 rfl (fun S9 I9 hM => ?_)
  refine v_mr (n := 12) hM f_X5_9 rfl (Or.inr ⟨rfl, rfl, rfl⟩) dX5_init_9 rfl (fun S9 hM => ?_)
  refine v_aload_n (n := 13) dX5_init_12 rfl rfl rfl ?_
  refine v_bipush (n := 15) (v := 10) dX5_init_13 b_10 rfl ?_
  refine v_mn (n := 17) (t := 0) (N := 10) (e := r + 1 + 1) hM rfl rfl (by decide) rfl ac_int ⟨by decide, rfl, by decide⟩ ⟨l8 rfl, l8 rfl⟩ dX5_init_15 rfl (fun S9 I9 hM => ?_)
  refine v_mr (n := 20) hM f_X5_15 rfl (Or.inr ⟨rfl, rfl, rfl⟩) dX5_init_17 rfl (fun S9 hM => ?_)
  refine v_aload_n (n := 21) dX5_init_20 rfl rfl rfl ?_
  refine v_bipush (n := 23) (v := 10) dX5_init_21 b_10 rfl ?_
  refine v_mn (n := 25) (t := 0) (N := 10) (e := r + 1 + 2) hM rfl rfl (by decide) rfl ac_int ⟨by decide, rfl, by decide⟩ ⟨l8 rfl, l8 rfl⟩ dX5_init_23 rfl (fun S9 I9 hM => ?_)
  refine v_mr (n := 28) hM f_X5_18 rfl (Or.inr ⟨rfl, rfl, rfl⟩) dX5_init_25 rfl (fun S9 hM => ?_)
  refine v_aload_n (n := 29) dX5_init_28 rfl rfl rfl ?_
  refine v_bipush (n := 31) (v := 10) dX5_init_29 b_10 rfl ?_
  refine v_mn (n := 33) (t := 0) (N := 10) (e := r + 1 + 3) hM rfl rfl (by decide) rfl ac_int ⟨by decide, rfl, by decide⟩ ⟨l8 rfl, l8 rfl⟩ dX5_init_31 rfl (fun S9 I9 hM => ?_)
  refine v_mr (n := 36) hM f_X5_21 rfl (Or.inr ⟨rfl, rfl, rfl⟩) dX5_init_33 rfl (fun S9 hM => ?_)
  refine v_aload_n (n := 37) dX5_init_36 rfl rfl rfl ?_
  refine v_iconst (n := 38) (v := 0) dX5_init_37 c_0 rfl ?_
  refine v_mi (n := 41) hM f_X5_24 rfl (Or.inl rfl) dX5_init_38 rfl (fun I9 hM => ?_)
  exact v_vret rfl ⟨rfl, hM⟩ ⟨l8 rfl, l8 rfl⟩ dX5_init_41

set_option maxRecDepth 100000 in
set_option maxHeartbeats 1000000 in
theorem k_X6_init {ro : Ro} {S : St} {I : In} {a : Nat} (hz : S.2.2 = a + 1) (h0 : S.1 a = some (5, 0)) : Ok mX6_init ro 1 1 24 [.ref a] S I (fun rr S' I' => rr = none ∧ MA S I 5 a (a + 1) [(20, 24)] (fun _ _ => 0) (upG (S.2.1 a) 0 (.ref (a + 1 + 0))) (upd (upd (I a) 1 (-1)) 2 0) S' I') := by
  refine ok_of (al := [.ref a]) (by decide) (l8 rfl) rfl ?_
  have hM := MA.z (I := I) hz h0
  refine v_aload_n (n := 1) dX6_init_0 rfl rfl rfl ?_
  refine v_objInit (n := 4) l_X6_3 oi_iv oi_code ⟨rfl, rfl⟩ (l8 rfl) dX6_init_1 rfl ?_
  refine v_aload_n (n := 5) dX6_init_4 rfl rfl rfl ?_
  refine v_bipush (n := 7) (v := 24) dX6_init_5 b_24 rfl ?_
  refine v_mn (n := 9) (t := 0) (N := 24) (e := a + 1 + 0) hM rfl rfl (by decide) rfl ac_int ⟨by decide, rfl, by decide⟩ ⟨l8 rfl, l8 rfl⟩ dX6_init_7 rfl (fun S9 I9 hM => ?_)
  refine v_mr (n := 12) hM f_X6_9 rfl (Or.inr ⟨rfl, rfl, rfl⟩) dX6_init_9 rfl (fun S9 hM => ?_)
  refine v_aload_n (n := 13) dX6_init_12 rfl rfl rfl ?_
  refine v_iconst (n := 14) (v := (-1)) dX6_init_13 c_m1 rfl ?_
  refine v_mi (n := 17) hM f_X6_15 rfl (Or.inl rfl) dX6_init_14 rfl (fun I9 hM => ?_)
  refine v_aload_n (n := 18) dX6_init_17 rfl rfl rfl ?_
  refine v_iconst (n := 19) (v := 0) dX6_init_18 c_0 rfl ?_
  refine v_mi (n := 22) hM f_X6_19 rfl (Or.inl rfl) dX6_init_19 rfl (fun I9 hM => ?_)
  exact v_vret rfl ⟨rfl, hM⟩ ⟨l8 rfl, l8 rfl⟩ dX6_init_22

set_option maxRecDepth 100000 in
set_option maxHeartbeats 1000000 in
theorem k_X8_init {ro : Ro} {S : St} {I : In} {a : Nat} (hz : S.2.2 = a + 1) (h0 : S.1 a = some (7, 0)) : Ok mX8_init ro 1 1 96 [.ref a] S I (fun rr S' I' => rr = none ∧ MA S I 7 a (a + 1) [(20, 96)] (fun _ _ => 0) (upG (S.2.1 a) 0 (.ref (a + 1 + 0))) (upd (I a) 1 0) S' I') := by
  refine ok_of (al := [.ref a]) (by decide) (l8 rfl) rfl ?_
  have hM := MA.z (I := I) hz h0
  refine v_aload_n (n := 1) dX8_init_0 rfl rfl rfl ?_
  refine v_objInit (n := 4) l_X8_3 oi_iv oi_code ⟨rfl, rfl⟩ (l8 rfl) dX8_init_1 rfl ?_
  refine v_aload_n (n := 5) dX8_init_4 rfl rfl rfl ?_
  refine v_bipush (n := 7) (v := 96) dX8_init_5 b_96 rfl ?_
  refine v_mn (n := 9) (t := 0) (N := 96) (e := a + 1 + 0) hM rfl rfl (by decide) rfl ac_int ⟨by decide, rfl, by decide⟩ ⟨l8 rfl, l8 rfl⟩ dX8_init_7 rfl (fun S9 I9 hM => ?_)
  refine v_mr (n := 12) hM f_X8_9 rfl (Or.inr ⟨rfl, rfl, rfl⟩) dX8_init_9 rfl (fun S9 hM => ?_)
  refine v_aload_n (n := 13) dX8_init_12 rfl rfl rfl ?_
  refine v_iconst (n := 14) (v := 0) dX8_init_13 c_0 rfl ?_
  refine v_mi (n := 17) hM f_X8_15 rfl (Or.inl rfl) dX8_init_14 rfl (fun I9 hM => ?_)
  exact v_vret rfl ⟨rfl, hM⟩ ⟨l8 rfl, l8 rfl⟩ dX8_init_17

set_option maxRecDepth 100000 in
set_option maxHeartbeats 1000000 in
theorem k_X4_init {ro : Ro} {S : St} {I : In} {a : Nat} (hz : S.2.2 = a + 1) (h0 : S.1 a = some (3, 0)) : Ok mX4_init ro 1 1 96 [.ref a] S I (fun rr S' I' => rr = none ∧ ∃ g f, MA S I 3 a (a + 1) [(20, 96)] (fun _ _ => 0) g f S' I' ∧ g 0 = .ref (a + 1 + 0)) := by
  refine ok_of (al := [.ref a]) (by decide) (l8 rfl) rfl ?_
  have hM := MA.z (I := I) hz h0
  refine v_aload_n (n := 1) dX4_init_0 rfl rfl rfl ?_
  refine v_objInit (n := 4) l_X4_3 oi_iv oi_code ⟨rfl, rfl⟩ (l8 rfl) dX4_init_1 rfl ?_
  refine v_aload_n (n := 5) dX4_init_4 rfl rfl rfl ?_
  refine v_bipush (n := 7) (v := 96) dX4_init_5 b_96 rfl ?_
  refine v_mn (n := 9) (t := 0) (N := 96) (e := a + 1 + 0) hM rfl rfl (by decide) rfl ac_int ⟨by decide, rfl, by decide⟩ ⟨l8 rfl, l8 rfl⟩ dX4_init_7 rfl (fun S9 I9 hM => ?_)
  refine v_mr (n := 12) hM f_X4_9 rfl (Or.inr ⟨rfl, rfl, rfl⟩) dX4_init_9 rfl (fun S9 hM => ?_)
  refine v_aload_n (n := 13) dX4_init_12 rfl rfl rfl ?_
  refine v_iconst (n := 14) (v := 0) dX4_init_13 c_0 rfl ?_
  refine v_mi (n := 17) hM f_X4_15 rfl (Or.inl rfl) dX4_init_14 rfl (fun I9 hM => ?_)
  refine v_aload_n (n := 18) dX4_init_17 rfl rfl rfl ?_
  refine v_iconst (n := 19) (v := 0) dX4_init_18 c_0 rfl ?_
  refine v_mi (n := 22) hM f_X4_19 rfl (Or.inl rfl) dX4_init_19 rfl (fun I9 hM => ?_)
  refine v_aload_n (n := 23) dX4_init_22 rfl rfl rfl ?_
  refine v_iconst (n := 24) (v := 0) dX4_init_23 c_0 rfl ?_
  refine v_mi (n := 27) hM f_X4_22 rfl (Or.inl rfl) dX4_init_24 rfl (fun I9 hM => ?_)
  refine v_aload_n (n := 28) dX4_init_27 rfl rfl rfl ?_
  refine v_aload_n (n := 29) dX4_init_28 rfl rfl rfl ?_
  refine v_mg (n := 32) (e := a + 1 + 0) hM f_X4_9 rfl rfl dX4_init_29 rfl ?_
  refine v_mr (n := 35) hM f_X4_25 rfl (Or.inl rfl) dX4_init_32 rfl (fun S9 hM => ?_)
  refine v_aload_n (n := 36) dX4_init_35 rfl rfl rfl ?_
  refine v_iconst (n := 37) (v := 0) dX4_init_36 c_0 rfl ?_
  refine v_mi (n := 40) hM f_X4_28 rfl (Or.inl rfl) dX4_init_37 rfl (fun I9 hM => ?_)
  refine v_aload_n (n := 41) dX4_init_40 rfl rfl rfl ?_
  refine v_iconst (n := 42) (v := 0) dX4_init_41 c_0 rfl ?_
  refine v_mi (n := 45) hM f_X4_31 rfl (Or.inl rfl) dX4_init_42 rfl (fun I9 hM => ?_)
  refine v_aload_n (n := 46) dX4_init_45 rfl rfl rfl ?_
  refine v_iconst (n := 47) (v := 0) dX4_init_46 c_0 rfl ?_
  refine v_mi (n := 50) hM f_X4_34 rfl (Or.inl rfl) dX4_init_47 rfl (fun I9 hM => ?_)
  refine v_aload_n (n := 51) dX4_init_50 rfl rfl rfl ?_
  refine v_iconst (n := 52) (v := 0) dX4_init_51 c_0 rfl ?_
  refine v_mi (n := 55) hM f_X4_37 rfl (Or.inl rfl) dX4_init_52 rfl (fun I9 hM => ?_)
  exact v_vret rfl ⟨rfl, _, _, hM, rfl⟩ ⟨l8 rfl, l8 rfl⟩ dX4_init_55

set_option maxRecDepth 100000 in
set_option maxHeartbeats 1000000 in
theorem l_X0_init {ro : Ro} {S : St} {I : In} {a : Nat} (L : S.1 a = some (0, 0)) (Lg : S.2.1 a 2 = .ref (a + 3)) (L3 : S.1 (a + 3) = some (20, 6)) : ∀ k i J, i ≤ 6 → 6 < i + k → (∀ c, c ≠ a + 3 → J c = I c) → (∀ j, j < i → J (a + 3) j = -1000000005) → V RX0 cX0_init 2 (none) "<init>" ro (rmD 1 3 66) (QM 3 66 (fun rr S' I' => rr = none ∧ S' = S ∧ (∀ c, c ≠ a + 3 → I' c = I c) ∧ ∀ j, j < 6 → I' (a + 3) j = -1000000005)) (0 + 1 + 1 + 1) (0 + 30 + 30 + 6) 50 [.ref a, .int (nI i)] [] S J := by
  intro k
  induction k with
  | zero => intro i J hi hk; exact absurd hk (by omega)
  | succ k ih =>
    intro i J hi hk hJ hV
    refine v_iload_n (n := 51) dX0_init_50 rfl rfl rfl ?_
    refine v_bipush (n := 53) (v := 6) dX0_init_51 b_6 rfl ?_
    refine v_icmp_ge (n := 56) (tgt := 70) dX0_init_53 (by decide) rfl (fun hq53 => ?_) (fun hq53 => ?_)
    · have hi6 : i = 6 := Nat.le_antisymm hi (le_out (a := 6) hq53 (by decide) (by omega))
      exact v_vret rfl ⟨rfl, rfl, hJ, fun j hj => hV j (by omega)⟩ ⟨l8 rfl, l8 rfl⟩ dX0_init_70
    · have hlt := nle_in (a := 6) hq53 (by decide) (by omega)
      refine v_aload_n (n := 57) dX0_init_56 rfl rfl rfl ?_
      refine v_getR (n := 60) f_X0_18 rfl L Lg dX0_init_57 rfl ?_
      refine v_iload_n (n := 61) dX0_init_60 rfl rfl rfl ?_
      refine v_ldc (n := 63) k_X0_34 dX0_init_61 rfl ?_
      refine v_iast (n := 64) (j := i) L3 (ix_nI (by omega) (by decide)) dX0_init_63 rfl ?_
      refine v_iinc (n := 67) (v := (nI i) + 1) (al' := [.ref a, .int ((nI i) + 1)]) dX0_init_64 rfl (by rw [c_1]) rfl rfl rfl ?_
      refine v_goto (tgt := 50) dX0_init_67 (by decide) ?_
      rw [nI_1]
      refine ih (i + 1) _ hlt (by omega) (fun c hc => by rw [setI_ne hc]; exact hJ c hc) (fun j hj => ?_)
      by_cases e : j = i
      · rw [e, sI_s]
      · rw [sI_k e]; exact hV j (by omega)

theorem V.mono {own : String} {cc : ByteArray} {nL : Nat} {ret : Option FieldType} {nm : String} {ro : Ro} {R : Room} {mc ms cells slots pc : Nat} {al st : List Value} {S : St} {I : In} {Q Q' : Option Value → St → In → Prop} (hq : ∀ r S' I', Q r S' I' → Q' r S' I') (h : V own cc nL ret nm ro R (QM mc ms Q) cells slots pc al st S I) : V own cc nL ret nm ro R (QM mc ms Q') cells slots pc al st S I := by
  intro w p l e s m args below meth c C H locs ls hR hl T hT X
  obtain ⟨t, a1, b1⟩ := h w p l e s m args below meth c C H locs ls hR hl T hT X
  refine ⟨t, a1, ?_⟩
  obtain ⟨o, q1, q2, ⟨r, S', I', e1, e2, e3⟩, q4⟩ := b1
  exact ⟨o, q1, q2, ⟨r, S', I', e1, hq _ _ _ e2, e3⟩, q4⟩
set_option maxRecDepth 100000 in
set_option maxHeartbeats 1000000 in
theorem k_X0_init {ro : Ro} {S : St} {I : In} {a : Nat} (hz : S.2.2 = a + 1) (h0 : S.1 a = some (0, 0)) : Ok mX0_init ro 1 3 66 [.ref a] S I (fun rr S' I' => rr = none ∧ ∃ I1, MA S I 0 a (a + 1) [(20, 30), (20, 30), (20, 6)] (fun _ _ => 0) (upG (upG (upG (S.2.1 a) 0 (.ref (a + 1 + 0))) 1 (.ref (a + 1 + 1))) 2 (.ref (a + 1 + 2))) (upd (upd (upd (upd (I a) 3 0) 4 0) 5 0) 6 0) S' I1 ∧ (∀ c, c ≠ a + 3 → I' c = I1 c) ∧ ∀ j, j < 6 → I' (a + 3) j = -1000000005) := by
  refine ok_of (al := [.ref a, JJ]) (by decide) (l8 rfl) rfl ?_
  have hM := MA.z (I := I) hz h0
  refine v_aload_n (n := 1) dX0_init_0 rfl rfl rfl ?_
  refine v_objInit (n := 4) l_X0_3 oi_iv oi_code ⟨rfl, rfl⟩ (l8 rfl) dX0_init_1 rfl ?_
  refine v_aload_n (n := 5) dX0_init_4 rfl rfl rfl ?_
  refine v_bipush (n := 7) (v := 30) dX0_init_5 b_30 rfl ?_
  refine v_mn (n := 9) (t := 0) (N := 30) (e := a + 1 + 0) hM rfl rfl (by decide) rfl ac_int ⟨by decide, rfl, by decide⟩ ⟨l8 rfl, l8 rfl⟩ dX0_init_7 rfl (fun S9 I9 hM => ?_)
  refine v_mr (n := 12) hM f_X0_9 rfl (Or.inr ⟨rfl, rfl, rfl⟩) dX0_init_9 rfl (fun S9 hM => ?_)
  refine v_aload_n (n := 13) dX0_init_12 rfl rfl rfl ?_
  refine v_bipush (n := 15) (v := 30) dX0_init_13 b_30 rfl ?_
  refine v_mn (n := 17) (t := 0) (N := 30) (e := a + 1 + 1) hM rfl rfl (by decide) rfl ac_int ⟨by decide, rfl, by decide⟩ ⟨l8 rfl, l8 rfl⟩ dX0_init_15 rfl (fun S9 I9 hM => ?_)
  refine v_mr (n := 20) hM f_X0_15 rfl (Or.inr ⟨rfl, rfl, rfl⟩) dX0_init_17 rfl (fun S9 hM => ?_)
  refine v_aload_n (n := 21) dX0_init_20 rfl rfl rfl ?_
  refine v_bipush (n := 23) (v := 6) dX0_init_21 b_6 rfl ?_
  refine v_mn (n := 25) (t := 0) (N := 6) (e := a + 1 + 2) hM rfl rfl (by decide) rfl ac_int ⟨by decide, rfl, by decide⟩ ⟨l8 rfl, l8 rfl⟩ dX0_init_23 rfl (fun S9 I9 hM => ?_)
  refine v_mr (n := 28) hM f_X0_18 rfl (Or.inr ⟨rfl, rfl, rfl⟩) dX0_init_25 rfl (fun S9 hM => ?_)
  refine v_aload_n (n := 29) dX0_init_28 rfl rfl rfl ?_
  refine v_iconst (n := 30) (v := 0) dX0_init_29 c_0 rfl ?_
  refine v_mi (n := 33) hM f_X0_21 rfl (Or.inl rfl) dX0_init_30 rfl (fun I9 hM => ?_)
  refine v_aload_n (n := 34) dX0_init_33 rfl rfl rfl ?_
  refine v_iconst (n := 35) (v := 0) dX0_init_34 c_0 rfl ?_
  refine v_mi (n := 38) hM f_X0_25 rfl (Or.inl rfl) dX0_init_35 rfl (fun I9 hM => ?_)
  refine v_aload_n (n := 39) dX0_init_38 rfl rfl rfl ?_
  refine v_iconst (n := 40) (v := 0) dX0_init_39 c_0 rfl ?_
  refine v_mi (n := 43) hM f_X0_28 rfl (Or.inl rfl) dX0_init_40 rfl (fun I9 hM => ?_)
  refine v_aload_n (n := 44) dX0_init_43 rfl rfl rfl ?_
  refine v_iconst (n := 45) (v := 0) dX0_init_44 c_0 rfl ?_
  refine v_mi (n := 48) hM f_X0_31 rfl (Or.inl rfl) dX0_init_45 rfl (fun I9 hM => ?_)
  refine v_iconst (n := 49) (v := 0) dX0_init_48 c_0 rfl ?_
  refine v_istore_n (n := 50) (al' := [.ref a, .int 0]) dX0_init_49 rfl rfl rfl rfl ?_
  refine V.mono ?_ (l_X0_init (I := I9) hM.1.2.1 (by rw [hM.1.2.2.1]; rfl) (hM.2.1 2 (20, 6) rfl).1 7 0 I9 (by decide) (by decide) (fun _ _ => rfl) (fun j hj => absurd hj (by omega)))
  rintro rr S9 I8 ⟨h1, rfl, h2, h3⟩
  exact ⟨h1, I9, hM, h2, h3⟩

