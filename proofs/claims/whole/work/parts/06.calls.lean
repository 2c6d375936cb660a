/-! ===== rules: what is made, what stands ahead, calls, ends ===== -/
def newS (S : St) (q : Nat × Nat) : St := (fun b => if b = S.2.2 then some q else S.1 b, fun b j => if b = S.2.2 then .null else S.2.1 b j, S.2.2 + 1)
def newI (S : St) (I : In) : In := fun b j => if b = S.2.2 then 0 else I b j
section MAKE
variable {own : String} {cc : ByteArray} {nL : Nat} {ret : Option FieldType} {nm : String} {ro : Ro} {R : Room} {Qf : Wd → List Frame → Array Value → State → State → Prop} {cells slots pc n : Nat} {al st : List Value} {S : St} {I : In}
theorem rep_new {w : Wd} {H H1 : Heap} {locs : List Loc} {q : Nat × Nat} (hR : Rep w S I H locs) (hz : H1.size = H.size + 1) (ho : ∀ x : Nat, x < H.size → H1[x]? = H[x]?) (hc : cellOk w (newS S q) (newI S I) H1 S.2.2 q) : Rep w (newS S q) (newI S I) H1 locs := by
  obtain ⟨⟨r1, r2, r3, r4⟩, r5⟩ := hR
  refine ⟨⟨by omega, fun x hx => (ho x (by omega)).trans (r2 x hx), by show H1.size = S.2.2 + 1; omega, fun b p hp => ?_⟩, r5⟩
  by_cases hb : b = S.2.2
  · subst hb
    have hp : some q = some p := by
      have : (newS S q).1 S.2.2 = some q := if_pos rfl
      rw [← this]; exact hp
    cases hp
    exact ⟨by show w.2.2.size ≤ S.2.2; omega, hc⟩
  · have hp : S.1 b = some p := by
      have : (newS S q).1 b = S.1 b := if_neg hb
      rw [← this]; exact hp
    obtain ⟨h1, h2⟩ := r4 b p hp
    exact ⟨h1, cell_kept h2 (ho b (cell_lt h2)) (by funext j; exact if_neg hb) (by funext j; exact if_neg hb)⟩
theorem dflt_ref {ty : FieldType} (h : ty.isReference = true) : defaultValue ty = .null := by
  cases ty <;> first | (simp [FieldType.isReference] at h; done) | rfl
theorem fty_kind : ∀ ci, ci < 11 → ∀ k, k < (fC ci).2.2 → defaultValue (fty ci k) = if isR ci k = true then .null else .int 0 := by decide +kernel
theorem v_new {idx ci N : Nat} (hci : ci < 11) (hN : (fC ci).2.2 = N) (h1 : Cond.classLink own idx (fC ci).1 ∈ GW) (h2 : Cond.instantiable (fC ci).1 N ∈ GW) (h3 : Cond.initialized (fC ci).1 ∈ GW) (hc : cells + 1 ≤ R.cells ∧ slots + N ≤ R.slots) (hd : decode cc pc = .ok (.new idx, 3)) (hn : pc + 3 = n)
    (kk : V own cc nL ret nm ro R Qf (cells + 1) (slots + N) n al (.ref S.2.2 :: st) (newS S (ci, 0)) (newI S I)) : V own cc nL ret nm ro R Qf cells slots pc al st S I := by
  subst hn
  subst hN
  intro w p l e s m args below meth c C H locs ls hR hl
  obtain ⟨hx, hb, -, -, -, -, hown, hts, hK⟩ := id C
  have hKn := hK.1.1 ci _ (fC_at ci hci)
  refine W.newcK hx hb hown (hts _ h1) (hts _ h2) (hts _ h3) rfl hd hc.1 hc.2 hKn.2.1 hR.1.2.2.1 fun H1 kC hkC e1 z1 o1 => ?_
  refine kk w p l e s m args below meth c C H1 locs ls (rep_new hR (by rw [z1, hR.1.2.2.1]) (fun x hx => o1 x (by rw [← hR.1.2.2.1]; exact hx)) ⟨fun _ => ?_, fun h => absurd h (by show ¬ 11 ≤ ci; omega)⟩) hl
  refine (u_born (fty ci) hts (fC_in ci hci) hKn hkC e1 (fC_ty ci hci)).to (fun k hk => ?_)
  rw [fty_kind ci hci k hk]
  unfold fv
  by_cases h : isR ci k = true
  · rw [if_pos h, if_pos h]
    exact (if_pos rfl).symm
  · rw [if_neg h, if_neg h]
    exact congrArg Value.int (if_pos rfl).symm
theorem v_newa {atype : ArrayType} {t N : Nat} {x : Int32} (ht : t < 3) (hty : newarray.typeOf atype = aty t) (h1 : Cond.arrayClass (aty t) ∈ GW) (hx : ¬ x < 0 ∧ x.toNatClampNeg = N ∧ N ≤ 60000000) (hc : cells + 1 ≤ R.cells ∧ slots + N ≤ R.slots) (hd : decode cc pc = .ok (.newarray atype, 2)) (hn : pc + 2 = n)
    (kk : V own cc nL ret nm ro R Qf (cells + 1) (slots + N) n al (.ref S.2.2 :: st) (newS S (20 + t, N)) (newI S I)) : V own cc nL ret nm ro R Qf cells slots pc al (.int x :: st) S I := by
  subst hn
  intro w p l e s m args below meth c C H locs ls hR hl
  obtain ⟨hx', hb, -, -, -, -, hown, hts, hK⟩ := id C
  have hcb : N * componentBytes (newarray.typeOf atype) ≤ 536870912 := by
    rw [hty]
    have : componentBytes (aty t) ≤ 4 := by
      rcases (show t = 0 ∨ t = 1 ∨ t = 2 by omega) with rfl | rfl | rfl <;> decide
    have h9 : N * componentBytes (aty t) ≤ N * 4 := Nat.mul_le_mul_left _ this
    have := hx.2.2
    omega
  refine va_newaK hx' hb (by rw [hty]; exact hts _ h1) rfl hd rfl hx.1 hx.2.1 hcb hc.1 hc.2 hR.1.2.2.1 fun H1 cA e1 z1 o1 _ hNm => ?_
  have hra := (hK.1.2 t _ (tyL_at (by omega))).2
  have hcA : cA = w.2.1 t := by
    rw [hty] at hNm
    rcases (show t = 0 ∨ t = 1 ∨ t = 2 by omega) with rfl | rfl | rfl <;> exact Option.some.inj (hNm.symm.trans hra)
  subst hcA
  refine kk w p l e s m args below meth c C H1 locs ls (rep_new hR (by rw [z1, hR.1.2.2.1]) (fun x hx => o1 x (by rw [← hR.1.2.2.1]; exact hx)) ⟨fun h => absurd h (by show ¬ 20 + t < 11; omega), fun _ => ?_⟩) hl
  rw [e1]
  rw [show (20 + t, N).1 - 20 = t by show 20 + t - 20 = t; omega]
  congr 2
  funext j
  rw [hty]
  unfold av
  rw [if_neg (by omega)]
  rw [show newI S I S.2.2 j = 0 from if_pos rfl]
  rcases (show t = 0 ∨ t = 1 ∨ t = 2 by omega) with rfl | rfl | rfl <;> rfl
theorem v_anew {idx t N : Nat} {x : Int32} (ht : 3 ≤ t ∧ t < 7) (h1 : Cond.classLink own idx (fC (aci t)).1 ∈ GW) (hx : ¬ x < 0 ∧ x.toNatClampNeg = N ∧ N ≤ 60000000) (hc : cells + 1 ≤ R.cells ∧ slots + N ≤ R.slots) (hd : decode cc pc = .ok (.anewarray idx, 3)) (hn : pc + 3 = n)
    (kk : V own cc nL ret nm ro R Qf (cells + 1) (slots + N) n al (.ref S.2.2 :: st) (newS S (20 + t, N)) (newI S I)) : V own cc nL ret nm ro R Qf cells slots pc al (.int x :: st) S I := by
  subst hn
  intro w p l e s m args below meth c C H locs ls hR hl
  obtain ⟨hx', hb, -, -, -, -, hown, hts, hK⟩ := id C
  obtain ⟨hx0, rfl, hx2⟩ := hx
  refine W.anew hx' hb hown (hts _ h1) (hK.2.1 t ht.1 ht.2).use rfl hd rfl hx0 (by omega) hc.1 hc.2 fun cA kA comp q1 q2 q3 q4 => ?_
  have hra := (hK.1.2 t _ (tyL_at ht.2)).2
  rw [show (w.2.1 t, aty t).2 = .object (fC (aci t)).1 from aty_obj t ht.1 ht.2] at hra
  obtain ⟨kA', comp', k1, k2, k3, k4⟩ := hra
  have hcA : cA = w.2.1 t := Option.some.inj (q1.symm.trans k4)
  subst hcA
  have hz := hR.1.2.2.1
  rw [hz]
  refine kk w p l e s m args below meth c C _ locs ls (rep_new hR (by simp) (fun x hx => by rw [Array.getElem?_push, if_neg (Nat.ne_of_lt hx)]) ⟨fun h => absurd h (by show ¬ 20 + t < 11; omega), fun _ => ?_⟩) hl
  rw [show (20 + t, x.toNatClampNeg).1 - 20 = t by show 20 + t - 20 = t; omega]
  rw [← hz, Array.getElem?_push, if_pos rfl]
  have : (av (newS S (20 + t, x.toNatClampNeg)) (newI S I) t H.size) = fun _ => Value.null := by
    funext j
    unfold av
    rw [if_pos ht.1, hz]
    exact if_pos rfl
  rw [this, arrV]
  congr 2
  apply Array.ext
  · simp
  · intro i h1 h2
    simp
/-! what stands ahead -/
theorem v_above {idx : Nat} (hw : Cond.fieldLink own idx "SnowOwed$Kinds" "ABOVE" "[I" ∈ GW) (hd : decode cc pc = .ok (.getstatic idx, 3)) (hn : pc + 3 = n) (kk : V own cc nL ret nm ro R Qf cells slots n al (.ref ro.1 :: st) S I) : V own cc nL ret nm ro R Qf cells slots pc al st S I := by
  subst hn
  intro w p l e s m args below meth c C H locs ls hR hl
  obtain ⟨hx, hb, -, -, -, -, hown, hts, hK⟩ := id C
  obtain ⟨cf, kf, fi, f, a, cell, h1, h2, h3, h4, h5, h6, h7, h8⟩ := hK.2.2.2.2.1
  exact W.gets hx hb hown (hts _ hw) h1 h2 h3 h4 (by rw [hR.S.2.1 a (Array.getElem?_eq_some_iff.mp h5).1 h8]; exact h5) (fun e => by rw [e] at h6; cases h6) h7 rfl hd (kk w p l e s m args below meth c C H locs ls hR hl)
theorem v_abLen (hd : decode cc pc = .ok (.arraylength, 1)) (hn : pc + 1 = n) (kk : V own cc nL ret nm ro R Qf cells slots n al (.int 6 :: st) S I) : V own cc nL ret nm ro R Qf cells slots pc al (.ref ro.1 :: st) S I := by
  subst hn
  intro w p l e s m args below meth c C H locs ls hR hl
  obtain ⟨hx, hb, -, -, -, -, hown, hts, hK⟩ := id C
  obtain ⟨cell, h1, h2, h3, h4, h5, h6, h7⟩ := hK.2.2.2.2.2.1
  exact W.alen (n := 6) hx hb (by rw [hR.S.2.1 _ (Array.getElem?_eq_some_iff.mp h1).1 h7]; exact h1) h2 h5 rfl rfl hd (kk w p l e s m args below meth c C H locs ls hR hl)
theorem v_abLd {i : Int32} {j : Nat} (hj : ix i j 6) (hd : decode cc pc = .ok (.iaload, 1)) (hn : pc + 1 = n) (kk : V own cc nL ret nm ro R Qf cells slots n al (.int (aboveT j) :: st) S I) : V own cc nL ret nm ro R Qf cells slots pc al (.int i :: .ref ro.1 :: st) S I := by
  subst hn
  intro w p l e s m args below meth c C H locs ls hR hl
  obtain ⟨hx, hb, -, -, -, -, hown, hts, hK⟩ := id C
  obtain ⟨cell, h1, h2, h3, h4, h5, h6, h7⟩ := hK.2.2.2.2.2.1
  have hlt := hj.lt
  obtain ⟨hin, rfl⟩ := hj
  exact W.iald (v := .int (aboveT i.toNatClampNeg)) hx hb (by rw [hR.S.2.1 _ (Array.getElem?_eq_some_iff.mp h1).1 h7]; exact h1) h2 h3 (fun q => hin (q.elim Or.inl (fun q => absurd q (by omega)))) (h6 _ hlt) rfl rfl hd (kk w p l e s m args below meth c C H locs ls hR hl)
theorem v_scLen (hb0 : ∀ w s, KK w ro s → ¬ wA w ro.2.1.1) (hd : decode cc pc = .ok (.arraylength, 1)) (hn : pc + 1 = n) (kk : V own cc nL ret nm ro R Qf cells slots n al (.int (nI ro.2.1.2.1) :: st) S I) : V own cc nL ret nm ro R Qf cells slots pc al (.ref ro.2.1.1 :: st) S I := by
  subst hn
  intro w p l e s m args below meth c C H locs ls hR hl
  obtain ⟨hx, hb, -, -, -, -, hown, hts, hK⟩ := id C
  have hz := hb0 w s hK
  exact va_slen hx hb hK.2.2.2.1 (Nat.not_le.mp hz) hz hR.S hd (kk w p l e s m args below meth c C H locs ls hR hl)
theorem sc_old {w : Wd} {s : State} (h : KK w ro s) : ¬ wA w ro.2.1.1 := by
  obtain ⟨scr, h1, -⟩ := h.2.2.2.1
  exact Nat.not_le.mpr (Array.getElem?_eq_some_iff.mp h1).1
theorem v_scLd {i : Int32} {j : Nat} (hj : ix i j ro.2.1.2.1) (hd : decode cc pc = .ok (.iaload, 1)) (hn : pc + 1 = n) (kk : V own cc nL ret nm ro R Qf cells slots n al (.int (ro.2.1.2.2 j) :: st) S I) : V own cc nL ret nm ro R Qf cells slots pc al (.int i :: .ref ro.2.1.1 :: st) S I := by
  subst hn
  intro w p l e s m args below meth c C H locs ls hR hl
  obtain ⟨hx, hb, -, -, -, -, hown, hts, hK⟩ := id C
  obtain ⟨hin, rfl⟩ := hj
  have hz := sc_old hK
  exact va_sld hx hb hK.2.2.2.1 (Nat.not_le.mp hz) hz hR.S hin hd (kk w p l e s m args below meth c C H locs ls hR hl)
/-! ends -/
theorem v_iret {mc ms : Nat} {Q : Option Value → St → In → Prop} {x : Int32} (hr : ret = some .int) (hq : Q (some (.int x)) S I) (hc : cells ≤ mc ∧ slots ≤ ms) (hd : decode cc pc = .ok (.ireturn, 1)) : V own cc nL ret nm ro R (QM mc ms Q) cells slots pc al [.int x] S I := by
  intro w p l e s m args below meth c C H locs ls hR hl
  refine W.widen (k := mc) (n := ms) hc.1 hc.2 ?_
  exact W.iret C.1 C.2.1 (C.2.2.2.1.trans hr) (fun t ht _ => ⟨_, S, I, rfl, hq, by rw [ht]; exact hR.1⟩) hR.2 hd C.2.2.2.2.2.1
theorem v_zret {mc ms : Nat} {Q : Option Value → St → In → Prop} {x : Int32} {ty : FieldType} (hr : ret = some ty) (hx : narrow ty (.int x) = .int x) (hq : Q (some (.int x)) S I) (hc : cells ≤ mc ∧ slots ≤ ms) (hd : decode cc pc = .ok (.ireturn, 1)) : V own cc nL ret nm ro R (QM mc ms Q) cells slots pc al [.int x] S I := by
  intro w p l e s m args below meth c C H locs ls hR hl
  refine W.widen (k := mc) (n := ms) hc.1 hc.2 ?_
  exact W.zret C.1 C.2.1 (C.2.2.2.1.trans hr) hx (fun t ht _ => ⟨_, S, I, rfl, hq, by rw [ht]; exact hR.1⟩) hR.2 hd C.2.2.2.2.2.1
theorem v_lret {mc ms : Nat} {Q : Option Value → St → In → Prop} {x : Int64} (hr : ret = some .long) (hq : Q (some (.long x)) S I) (hc : cells ≤ mc ∧ slots ≤ ms) (hd : decode cc pc = .ok (.lreturn, 1)) : V own cc nL ret nm ro R (QM mc ms Q) cells slots pc al [.long x] S I := by
  intro w p l e s m args below meth c C H locs ls hR hl
  refine W.widen (k := mc) (n := ms) hc.1 hc.2 ?_
  exact W.lret C.1 C.2.1 (C.2.2.2.1.trans hr) (fun t ht _ => ⟨_, S, I, rfl, hq, by rw [ht]; exact hR.1⟩) hR.2 hd C.2.2.2.2.2.1
theorem v_vret {mc ms : Nat} {Q : Option Value → St → In → Prop} (hr : ret = none) (hq : Q none S I) (hc : cells ≤ mc ∧ slots ≤ ms) (hd : decode cc pc = .ok (.return_, 1)) : V own cc nL ret nm ro R (QM mc ms Q) cells slots pc al [] S I := by
  intro w p l e s m args below meth c C H locs ls hR hl
  refine W.widen (k := mc) (n := ms) hc.1 hc.2 ?_
  exact W.vret C.1 C.2.1 (C.2.2.2.1.trans hr) (fun t ht _ => ⟨_, S, I, rfl, hq, by rw [ht]; exact hR.1⟩) hR.2 hd C.2.2.2.2.2.1
theorem v_aret {mc ms : Nat} {Q : Option Value → St → In → Prop} {a : Nat} {cn : String} (hr : ret = some (.object cn)) (hq : Q (some (.ref a)) S I) (hc : cells ≤ mc ∧ slots ≤ ms) (hd : decode cc pc = .ok (.areturn, 1)) : V own cc nL ret nm ro R (QM mc ms Q) cells slots pc al [.ref a] S I := by
  intro w p l e s m args below meth c C H locs ls hR hl
  refine W.widen (k := mc) (n := ms) hc.1 hc.2 ?_
  exact W.aret C.1 C.2.1 (C.2.2.2.1.trans hr) (Or.inl ⟨_, rfl⟩) (Or.inr ⟨a, rfl⟩) (fun t ht _ => ⟨_, S, I, rfl, hq, by rw [ht]; exact hR.1⟩) hR.2 hd C.2.2.2.2.2.1
/-! calls -/
/-- what every call needs of the called method -/
def MC (y : Mth) (np : Nat) : Prop := Cond.code y.1 y.2.1 y.2.2.1 y.2.2.2 ∈ GW ∧ Cond.initialized y.1.cls ∈ GW ∧ (y.1.cls ≠ "java/lang/invoke/MethodHandle" ∧ y.1.cls ≠ "java/lang/invoke/VarHandle" ∧ (parseMethodDescriptor y.1.desc).map (fun d => d.parameters.length) = some np) ∧ y.2.2.1 ≤ 45
theorem pc_blind {w : Wd} {args : List Value} : FrameBlind (va_Pc args (fun U => RepH w S I U.heap ∧ KK w ro U)) := fun a U g mk q => ⟨q.1, q.2.1, KK.same (s := U) rfl q.2.2⟩
theorem code_gw {y : Mth} {np : Nat} (h : MC y np) : GoodIn GW (Cond.code y.1 y.2.1 y.2.2.1 y.2.2.2 :: GW) := fun x hx => by
  rcases List.mem_cons.mp hx with rfl | hx
  · exact ⟨h.1, gw_good h.1⟩
  · exact ⟨hx, gw_good hx⟩
theorem v_go {mc' ms' : Nat} {rest st0 : List Value} {Q' : Option Value → St → In → Prop} {a : Array Value} {w : Wd} {p : Program} {l : Launch} {e : Env} {s : State} {m : MethodId} {args : Array Value} {below : List Frame} {meth : Method} {c : Code} {H : Heap} {locs : List Loc} {ls : Array Slot} (C : Cx own cc nL ret nm ro w p s m args meth c) (hR : Rep w S I H locs) (hl : lv_has ls nL (prs al))
    (hr : va_Run p l e R s m args below meth c H locs cells slots mc' ms' (F0 m pc ls st0) rest (QcM w Q' a) (wA w))
    (kk : ∀ r S' I', Q' r S' I' → V own cc nL ret nm ro R Qf (cells + mc') (slots + ms') (pc + 3) al (r.toList ++ rest) S' I') : W p l e R s m args below meth c H locs cells slots (Qf w below args s) (F0 m pc ls st0) := by
  intro T hT X
  obtain ⟨v, st₀, t, T', L, h0, X', hL, e1, e2, ⟨r, S', I', hv, hq, hRt⟩, hgo⟩ := hr T hT X
  cases hv
  obtain ⟨t2, a1, b1⟩ := kk _ S' I' hq w p l e s m args below meth c C T'.heap (locs ++ L) ls ⟨by rw [e1]; exact hRt, fun q hq => by
    rcases List.mem_append.mp hq with h | h
    · exact hR.2 q h
    · exact hL q h⟩ hl T' rfl X'
  exact ⟨t2, hgo t2 a1, b1⟩
theorem v_callV {y : Mth} {idx np d' D mc' ms' b ci lb : Nat} {As rest : List Value} {Q' : Option Value → St → In → Prop} (hM : MC y np) (h1 : Cond.methodLink own idx y.1 ∈ GW) (h2 : Cond.instanceMethod y.1 ∈ GW) (h3 : Cond.selects y.1.cls y.1 y.1 ∈ GW) (hci : ci < 11 ∧ (fC ci).1 = y.1.cls) (hs : S.1 b = some (ci, lb))
    (hO : Ok y ro d' mc' ms' (.ref b :: As) S I Q') (hR0 : R.frames = D ∧ R.locals = 64 * D) (hd' : d' + 1 ≤ D) (hc : cells + mc' ≤ R.cells ∧ slots + ms' ≤ R.slots) (hn : As.length = np) (hst : st = As.reverse ++ .ref b :: rest) (hw : (rest.map fun v => v.category).sum ≤ 8) (hd : decode cc pc = .ok (.invokevirtual idx, 3)) (hpc : pc + 3 = n)
    (kk : ∀ r S' I', Q' r S' I' → V own cc nL ret nm ro R Qf (cells + mc') (slots + ms') n al (r.toList ++ rest) S' I') : V own cc nL ret nm ro R Qf cells slots pc al st S I := by
  subst hpc
  intro w p l e s m args below meth c C H locs ls hR hl
  obtain ⟨hx, hb, hml, -, -, -, hown, hts, hK⟩ := id C
  obtain ⟨cell, q1, q2, q3, -⟩ := (hR.1.2.2.2 b _ hs).2.1 hci.1
  refine v_go C hR hl (va_runV (As := As) (rest := rest) (C := y.1.cls) ⟨hx, hb, hml, hown, hts⟩ (hO l w) ⟨callB_of np hts (code_gw hM) rfl rfl rfl (hts _ hM.2.1) (hts _ h1) hM.2.2.1 ⟨?_, ?_⟩, hts _ h2, hts _ h3⟩ ⟨pc_blind, ⟨cell, q1, by rw [q3]; rfl, ?_⟩, fun U hU hW => ⟨rfl, by rw [hU]; exact hR.1, hK.warm hW⟩⟩ rfl hn hl.1 hst (lv_room hw) hd hc) kk
  · show d' + 1 ≤ R.frames
    omega
  · have := hM.2.2.2
    show 8 + (y.2.2.1 + 11) + 64 * d' ≤ R.locals
    omega
  · rw [q2, ← hci.2]
    exact (hK.1.1 ci _ (fC_at ci hci.1)).2.1
theorem v_callS {y : Mth} {idx np d' D mc' ms' : Nat} {As rest : List Value} {Q' : Option Value → St → In → Prop} (hM : MC y np) (h1 : Cond.methodLink own idx y.1 ∈ GW) (h2 : Cond.static y.1 ∈ GW)
    (hO : Ok y ro d' mc' ms' As S I Q') (hR0 : R.frames = D ∧ R.locals = 64 * D) (hd' : d' + 1 ≤ D) (hc : cells + mc' ≤ R.cells ∧ slots + ms' ≤ R.slots) (hn : As.length = np) (hst : st = As.reverse ++ rest) (hw : (rest.map fun v => v.category).sum ≤ 8) (hd : decode cc pc = .ok (.invokestatic idx, 3)) (hpc : pc + 3 = n)
    (kk : ∀ r S' I', Q' r S' I' → V own cc nL ret nm ro R Qf (cells + mc') (slots + ms') n al (r.toList ++ rest) S' I') : V own cc nL ret nm ro R Qf cells slots pc al st S I := by
  subst hpc
  intro w p l e s m args below meth c C H locs ls hR hl
  obtain ⟨hx, hb, hml, -, -, -, hown, hts, hK⟩ := id C
  refine v_go C hR hl (va_runS (As := As) (rest := rest) ⟨hx, hb, hml, hown, hts⟩ (hO l w) ⟨callB_of np hts (code_gw hM) rfl rfl rfl (hts _ hM.2.1) (hts _ h1) hM.2.2.1 ⟨?_, ?_⟩, hts _ h2⟩ ⟨pc_blind, fun U hU hW => ⟨rfl, by rw [hU]; exact hR.1, hK.warm hW⟩⟩ rfl hn hl.1 hst (lv_room hw) hd hc) kk
  · show d' + 1 ≤ R.frames
    omega
  · have := hM.2.2.2
    show 8 + (y.2.2.1 + 11) + 64 * d' ≤ R.locals
    omega
theorem v_callI {y : MethodName} {yc : ByteArray} {yl : Nat} {idx np d' D mc' ms' b : Nat} {As rest : List Value} {Q' : Option Value → St → In → Prop} (hM : MC (y, yc, yl, none) np) (h1 : Cond.methodLink own idx y ∈ GW) (h2 : Cond.instanceMethod y ∈ GW) (hy : y.name = "<init>")
    (hO : Ok (y, yc, yl, none) ro d' mc' ms' (.ref b :: As) S I Q') (hR0 : R.frames = D ∧ R.locals = 64 * D) (hd' : d' + 1 ≤ D) (hc : cells + mc' ≤ R.cells ∧ slots + ms' ≤ R.slots) (hn : As.length = np) (hst : st = As.reverse ++ .ref b :: rest) (hw : (rest.map fun v => v.category).sum ≤ 8) (hd : decode cc pc = .ok (.invokespecial idx, 3)) (hpc : pc + 3 = n)
    (kk : ∀ r S' I', Q' r S' I' → V own cc nL ret nm ro R Qf (cells + mc') (slots + ms') n al (r.toList ++ rest) S' I') : V own cc nL ret nm ro R Qf cells slots pc al st S I := by
  subst hpc
  intro w p l e s m args below meth c C H locs ls hR hl
  obtain ⟨hx, hb, hml, -, -, -, hown, hts, hK⟩ := id C
  refine v_go C hR hl (va_runI (As := As) (rest := rest) ⟨hx, hb, hml, hown, hts⟩ (hO l w) ⟨callB_of np hts (code_gw hM) rfl rfl rfl (hts _ hM.2.1) (hts _ h1) hM.2.2.1 ⟨?_, ?_⟩, hy, hts _ h2⟩ ⟨pc_blind, fun U hU hW => ⟨rfl, by rw [hU]; exact hR.1, hK.warm hW⟩⟩ rfl hn hl.1 hst (lv_room hw) hd hc) kk
  · show d' + 1 ≤ R.frames
    omega
  · have := hM.2.2.2
    show 8 + (yl + 11) + 64 * d' ≤ R.locals
    have : yl ≤ 45 := this
    omega
/-- a nest mate's private constructor -/
theorem v_callIN {y : MethodName} {yc : ByteArray} {yl : Nat} {idx np d' D mc' ms' b : Nat} {host : String} {As rest : List Value} {Q' : Option Value → St → In → Prop} (hM : MC (y, yc, yl, none) np) (h1 : (own, idx, y, host) ∈ nestL) (h2 : Cond.instanceMethod y ∈ GW) (hy : y.name = "<init>")
    (hO : Ok (y, yc, yl, none) ro d' mc' ms' (.ref b :: As) S I Q') (hR0 : R.frames = D ∧ R.locals = 64 * D) (hd' : d' + 1 ≤ D) (hc : cells + mc' ≤ R.cells ∧ slots + ms' ≤ R.slots) (hn : As.length = np) (hst : st = As.reverse ++ .ref b :: rest) (hw : (rest.map fun v => v.category).sum ≤ 8) (hd : decode cc pc = .ok (.invokespecial idx, 3)) (hpc : pc + 3 = n)
    (kk : ∀ r S' I', Q' r S' I' → V own cc nL ret nm ro R Qf (cells + mc') (slots + ms') n al (r.toList ++ rest) S' I') : V own cc nL ret nm ro R Qf cells slots pc al st S I := by
  subst hpc
  intro w p l e s m args below meth c C H locs ls hR hl
  obtain ⟨hx, hb, hml, -, -, -, hown, hts, hK⟩ := id C
  refine v_go C hR hl (va_runIN (As := As) (rest := rest) ⟨hx, hb, hml, hown, hts⟩ (hO l w) ⟨va_cnB np hts (code_gw hM) rfl rfl rfl (hK.2.2.1 _ h1) (hts _ hM.2.1) hM.2.2.1 ⟨?_, ?_⟩, hy, hts _ h2⟩ ⟨pc_blind, fun U hU hW => ⟨rfl, by rw [hU]; exact hR.1, hK.warm hW⟩⟩ rfl hn hl.1 hst (lv_room hw) hd hc) kk
  · show d' + 1 ≤ R.frames
    omega
  · have := hM.2.2.2
    show 8 + (yl + 11) + 64 * d' ≤ R.locals
    have : yl ≤ 45 := this
    omega
/-- a nest mate's private static method -/
theorem v_callSN {y : Mth} {idx np d' D mc' ms' : Nat} {host : String} {As rest : List Value} {Q' : Option Value → St → In → Prop} (hM : MC y np) (h1 : (own, idx, y.1, host) ∈ nestL) (h2 : Cond.static y.1 ∈ GW)
    (hO : Ok y ro d' mc' ms' As S I Q') (hR0 : R.frames = D ∧ R.locals = 64 * D) (hd' : d' + 1 ≤ D) (hc : cells + mc' ≤ R.cells ∧ slots + ms' ≤ R.slots) (hn : As.length = np) (hst : st = As.reverse ++ rest) (hw : (rest.map fun v => v.category).sum ≤ 8) (hd : decode cc pc = .ok (.invokestatic idx, 3)) (hpc : pc + 3 = n)
    (kk : ∀ r S' I', Q' r S' I' → V own cc nL ret nm ro R Qf (cells + mc') (slots + ms') n al (r.toList ++ rest) S' I') : V own cc nL ret nm ro R Qf cells slots pc al st S I := by
  subst hpc
  intro w p l e s m args below meth c C H locs ls hR hl
  obtain ⟨hx, hb, hml, -, -, -, hown, hts, hK⟩ := id C
  refine v_go C hR hl (va_runSN (As := As) (rest := rest) ⟨hx, hb, hml, hown, hts⟩ (hO l w) ⟨va_cnB np hts (code_gw hM) rfl rfl rfl (hK.2.2.1 _ h1) (hts _ hM.2.1) hM.2.2.1 ⟨?_, ?_⟩, hts _ h2, trivial⟩ ⟨pc_blind, fun U hU hW => ⟨rfl, by rw [hU]; exact hR.1, hK.warm hW⟩⟩ rfl hn hl.1 hst (lv_room hw) hd hc) kk
  · show d' + 1 ≤ R.frames
    omega
  · have := hM.2.2.2
    show 8 + (y.2.2.1 + 11) + 64 * d' ≤ R.locals
    omega
/-- Object's own constructor -/
theorem v_objInit {idx D a : Nat} (h1 : Cond.methodLink own idx objectInit ∈ GW) (h2 : Cond.instanceMethod objectInit ∈ GW) (h3 : Cond.code objectInit ⟨#[0xb1]⟩ 1 none ∈ GW) (hR0 : R.frames = D + 1 ∧ R.locals = 64 * (D + 1)) (hw : (st.map fun v => v.category).sum ≤ 8) (hd : decode cc pc = .ok (.invokespecial idx, 3)) (hpc : pc + 3 = n)
    (kk : V own cc nL ret nm ro R Qf cells slots n al st S I) : V own cc nL ret nm ro R Qf cells slots pc al (.ref a :: st) S I := by
  subst hpc
  intro w p l e s m args below meth c C H locs ls hR hl
  obtain ⟨hx, hb, hml, -, -, -, hown, hts, hK⟩ := id C
  refine W.objInit hx hb hown (hts _ h1) (hts _ h2) (hts _ h3) rfl (by rw [hml]; exact hl.1) rfl hd (by omega) ?_ ?_
  · show 2 * 0 + _ + 12 ≤ R.locals
    omega
  · exact kk w p l e s m args below meth c C H locs ls hR hl
end MAKE
