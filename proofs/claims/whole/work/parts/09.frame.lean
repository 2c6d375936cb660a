/-! ===== contracts with one answer: RI an int, RV nothing, RLo a long, RR a reference; the heap behind them ===== -/
def RI (x : Int32) (S1 : St) (I1 : In) : Option Value → St → In → Prop := fun r S' I' => r = some (.int x) ∧ S' = S1 ∧ I' = I1
def RLo (x : Int64) (S1 : St) (I1 : In) : Option Value → St → In → Prop := fun r S' I' => r = some (.long x) ∧ S' = S1 ∧ I' = I1
def RV (S1 : St) (I1 : In) : Option Value → St → In → Prop := fun r S' I' => r = none ∧ S' = S1 ∧ I' = I1
def RR (a : Nat) (S1 : St) (I1 : In) : Option Value → St → In → Prop := fun r S' I' => r = some (.ref a) ∧ S' = S1 ∧ I' = I1
def bi (b : Bool) : Int32 := if b then 1 else 0
theorem bi_01 (b : Bool) : bi b = 0 ∨ bi b = 1 := by cases b; exact Or.inl rfl; exact Or.inr rfl
theorem bi_0 {b : Bool} : bi b = 0 ↔ b = false := by cases b <;> decide
theorem bi_n0 {b : Bool} : ¬ bi b = 0 ↔ b = true := by cases b <;> decide
abbrev l8 {a b : Nat} (h : Nat.ble a b = true) : a ≤ b := Nat.le_of_ble_eq_true h
section FRAME
variable {own : String} {cc : ByteArray} {nL : Nat} {ret : Option FieldType} {nm : String} {ro : Ro} {R : Room} {Qf : Wd → List Frame → Array Value → State → State → Prop} {cells slots pc n : Nat} {al st : List Value} {S S1 : St} {I I1 : In}
theorem v_rI {mc ms : Nat} {x z : Int32} (hr : ret = some .int) (hx : x = z) (hS : S = S1) (hI : I = I1) (hc : cells ≤ mc ∧ slots ≤ ms) (hd : decode cc pc = .ok (.ireturn, 1)) : V own cc nL ret nm ro R (QM mc ms (RI z S1 I1)) cells slots pc al [.int x] S I := v_iret hr ⟨by rw [hx], hS, hI⟩ hc hd
theorem v_rZ {mc ms : Nat} {x : Int32} {b : Bool} (hr : ret = some .boolean) (hx : x = bi b) (hS : S = S1) (hI : I = I1) (hc : cells ≤ mc ∧ slots ≤ ms) (hd : decode cc pc = .ok (.ireturn, 1)) : V own cc nL ret nm ro R (QM mc ms (RI (bi b) S1 I1)) cells slots pc al [.int x] S I := v_zret hr (by rw [hx]; exact (bool_nar (bi_01 b)).1) ⟨by rw [hx], hS, hI⟩ hc hd
theorem v_rL {mc ms : Nat} {x z : Int64} (hr : ret = some .long) (hx : x = z) (hS : S = S1) (hI : I = I1) (hc : cells ≤ mc ∧ slots ≤ ms) (hd : decode cc pc = .ok (.lreturn, 1)) : V own cc nL ret nm ro R (QM mc ms (RLo z S1 I1)) cells slots pc al [.long x] S I := v_lret hr ⟨by rw [hx], hS, hI⟩ hc hd
theorem v_rV {mc ms : Nat} (hr : ret = none) (hS : S = S1) (hI : I = I1) (hc : cells ≤ mc ∧ slots ≤ ms) (hd : decode cc pc = .ok (.return_, 1)) : V own cc nL ret nm ro R (QM mc ms (RV S1 I1)) cells slots pc al [] S I := v_vret hr ⟨rfl, hS, hI⟩ hc hd
theorem v_rR {mc ms : Nat} {a b : Nat} {cn : String} (hr : ret = some (.object cn)) (hx : a = b) (hS : S = S1) (hI : I = I1) (hc : cells ≤ mc ∧ slots ≤ ms) (hd : decode cc pc = .ok (.areturn, 1)) : V own cc nL ret nm ro R (QM mc ms (RR b S1 I1)) cells slots pc al [.ref a] S I := v_aret hr ⟨by rw [hx], hS, hI⟩ hc hd
theorem v_cVi {y : Mth} {idx np d' D mc' ms' b ci lb : Nat} {As rest : List Value} {x : Int32} (hM : MC y np) (h1 : Cond.methodLink own idx y.1 ∈ GW) (h2 : Cond.instanceMethod y.1 ∈ GW) (h3 : Cond.selects y.1.cls y.1 y.1 ∈ GW) (hci : ci < 11 ∧ (fC ci).1 = y.1.cls) (hs : S.1 b = some (ci, lb))
    (hO : Ok y ro d' mc' ms' (.ref b :: As) S I (RI x S1 I1)) (hR0 : R.frames = D ∧ R.locals = 64 * D) (hd' : d' + 1 ≤ D) (hc : cells + mc' ≤ R.cells ∧ slots + ms' ≤ R.slots) (hn : As.length = np) (hst : st = As.reverse ++ .ref b :: rest) (hw : (rest.map fun v => v.category).sum ≤ 8) (hd : decode cc pc = .ok (.invokevirtual idx, 3)) (hpc : pc + 3 = n)
    (kk : V own cc nL ret nm ro R Qf (cells + mc') (slots + ms') n al (.int x :: rest) S1 I1) : V own cc nL ret nm ro R Qf cells slots pc al st S I :=
  v_callV hM h1 h2 h3 hci hs hO hR0 hd' hc hn hst hw hd hpc (fun r S' I' h => by obtain ⟨rfl, rfl, rfl⟩ := h; exact kk)
theorem v_cVv {y : Mth} {idx np d' D mc' ms' b ci lb : Nat} {As rest : List Value} (hM : MC y np) (h1 : Cond.methodLink own idx y.1 ∈ GW) (h2 : Cond.instanceMethod y.1 ∈ GW) (h3 : Cond.selects y.1.cls y.1 y.1 ∈ GW) (hci : ci < 11 ∧ (fC ci).1 = y.1.cls) (hs : S.1 b = some (ci, lb))
    (hO : Ok y ro d' mc' ms' (.ref b :: As) S I (RV S1 I1)) (hR0 : R.frames = D ∧ R.locals = 64 * D) (hd' : d' + 1 ≤ D) (hc : cells + mc' ≤ R.cells ∧ slots + ms' ≤ R.slots) (hn : As.length = np) (hst : st = As.reverse ++ .ref b :: rest) (hw : (rest.map fun v => v.category).sum ≤ 8) (hd : decode cc pc = .ok (.invokevirtual idx, 3)) (hpc : pc + 3 = n)
    (kk : V own cc nL ret nm ro R Qf (cells + mc') (slots + ms') n al rest S1 I1) : V own cc nL ret nm ro R Qf cells slots pc al st S I :=
  v_callV hM h1 h2 h3 hci hs hO hR0 hd' hc hn hst hw hd hpc (fun r S' I' h => by obtain ⟨rfl, rfl, rfl⟩ := h; exact kk)
theorem v_cVr {y : Mth} {idx np d' D mc' ms' b ci lb a : Nat} {As rest : List Value} (hM : MC y np) (h1 : Cond.methodLink own idx y.1 ∈ GW) (h2 : Cond.instanceMethod y.1 ∈ GW) (h3 : Cond.selects y.1.cls y.1 y.1 ∈ GW) (hci : ci < 11 ∧ (fC ci).1 = y.1.cls) (hs : S.1 b = some (ci, lb))
    (hO : Ok y ro d' mc' ms' (.ref b :: As) S I (RR a S1 I1)) (hR0 : R.frames = D ∧ R.locals = 64 * D) (hd' : d' + 1 ≤ D) (hc : cells + mc' ≤ R.cells ∧ slots + ms' ≤ R.slots) (hn : As.length = np) (hst : st = As.reverse ++ .ref b :: rest) (hw : (rest.map fun v => v.category).sum ≤ 8) (hd : decode cc pc = .ok (.invokevirtual idx, 3)) (hpc : pc + 3 = n)
    (kk : V own cc nL ret nm ro R Qf (cells + mc') (slots + ms') n al (.ref a :: rest) S1 I1) : V own cc nL ret nm ro R Qf cells slots pc al st S I :=
  v_callV hM h1 h2 h3 hci hs hO hR0 hd' hc hn hst hw hd hpc (fun r S' I' h => by obtain ⟨rfl, rfl, rfl⟩ := h; exact kk)
theorem v_cVl {y : Mth} {idx np d' D mc' ms' b ci lb : Nat} {As rest : List Value} {x : Int64} (hM : MC y np) (h1 : Cond.methodLink own idx y.1 ∈ GW) (h2 : Cond.instanceMethod y.1 ∈ GW) (h3 : Cond.selects y.1.cls y.1 y.1 ∈ GW) (hci : ci < 11 ∧ (fC ci).1 = y.1.cls) (hs : S.1 b = some (ci, lb))
    (hO : Ok y ro d' mc' ms' (.ref b :: As) S I (RLo x S1 I1)) (hR0 : R.frames = D ∧ R.locals = 64 * D) (hd' : d' + 1 ≤ D) (hc : cells + mc' ≤ R.cells ∧ slots + ms' ≤ R.slots) (hn : As.length = np) (hst : st = As.reverse ++ .ref b :: rest) (hw : (rest.map fun v => v.category).sum ≤ 8) (hd : decode cc pc = .ok (.invokevirtual idx, 3)) (hpc : pc + 3 = n)
    (kk : V own cc nL ret nm ro R Qf (cells + mc') (slots + ms') n al (.long x :: rest) S1 I1) : V own cc nL ret nm ro R Qf cells slots pc al st S I :=
  v_callV hM h1 h2 h3 hci hs hO hR0 hd' hc hn hst hw hd hpc (fun r S' I' h => by obtain ⟨rfl, rfl, rfl⟩ := h; exact kk)
theorem v_cSi {y : Mth} {idx np d' D mc' ms' : Nat} {As rest : List Value} {x : Int32} (hM : MC y np) (h1 : Cond.methodLink own idx y.1 ∈ GW) (h2 : Cond.static y.1 ∈ GW)
    (hO : Ok y ro d' mc' ms' As S I (RI x S1 I1)) (hR0 : R.frames = D ∧ R.locals = 64 * D) (hd' : d' + 1 ≤ D) (hc : cells + mc' ≤ R.cells ∧ slots + ms' ≤ R.slots) (hn : As.length = np) (hst : st = As.reverse ++ rest) (hw : (rest.map fun v => v.category).sum ≤ 8) (hd : decode cc pc = .ok (.invokestatic idx, 3)) (hpc : pc + 3 = n)
    (kk : V own cc nL ret nm ro R Qf (cells + mc') (slots + ms') n al (.int x :: rest) S1 I1) : V own cc nL ret nm ro R Qf cells slots pc al st S I :=
  v_callS hM h1 h2 hO hR0 hd' hc hn hst hw hd hpc (fun r S' I' h => by obtain ⟨rfl, rfl, rfl⟩ := h; exact kk)
theorem v_cSv {y : Mth} {idx np d' D mc' ms' : Nat} {As rest : List Value} (hM : MC y np) (h1 : Cond.methodLink own idx y.1 ∈ GW) (h2 : Cond.static y.1 ∈ GW)
    (hO : Ok y ro d' mc' ms' As S I (RV S1 I1)) (hR0 : R.frames = D ∧ R.locals = 64 * D) (hd' : d' + 1 ≤ D) (hc : cells + mc' ≤ R.cells ∧ slots + ms' ≤ R.slots) (hn : As.length = np) (hst : st = As.reverse ++ rest) (hw : (rest.map fun v => v.category).sum ≤ 8) (hd : decode cc pc = .ok (.invokestatic idx, 3)) (hpc : pc + 3 = n)
    (kk : V own cc nL ret nm ro R Qf (cells + mc') (slots + ms') n al rest S1 I1) : V own cc nL ret nm ro R Qf cells slots pc al st S I :=
  v_callS hM h1 h2 hO hR0 hd' hc hn hst hw hd hpc (fun r S' I' h => by obtain ⟨rfl, rfl, rfl⟩ := h; exact kk)
theorem v_cSr {y : Mth} {idx np d' D mc' ms' a : Nat} {As rest : List Value} (hM : MC y np) (h1 : Cond.methodLink own idx y.1 ∈ GW) (h2 : Cond.static y.1 ∈ GW)
    (hO : Ok y ro d' mc' ms' As S I (RR a S1 I1)) (hR0 : R.frames = D ∧ R.locals = 64 * D) (hd' : d' + 1 ≤ D) (hc : cells + mc' ≤ R.cells ∧ slots + ms' ≤ R.slots) (hn : As.length = np) (hst : st = As.reverse ++ rest) (hw : (rest.map fun v => v.category).sum ≤ 8) (hd : decode cc pc = .ok (.invokestatic idx, 3)) (hpc : pc + 3 = n)
    (kk : V own cc nL ret nm ro R Qf (cells + mc') (slots + ms') n al (.ref a :: rest) S1 I1) : V own cc nL ret nm ro R Qf cells slots pc al st S I :=
  v_callS hM h1 h2 hO hR0 hd' hc hn hst hw hd hpc (fun r S' I' h => by obtain ⟨rfl, rfl, rfl⟩ := h; exact kk)
theorem v_cSNi {y : Mth} {idx np d' D mc' ms' : Nat} {host : String} {As rest : List Value} {x : Int32} (hM : MC y np) (h1 : (own, idx, y.1, host) ∈ nestL) (h2 : Cond.static y.1 ∈ GW)
    (hO : Ok y ro d' mc' ms' As S I (RI x S1 I1)) (hR0 : R.frames = D ∧ R.locals = 64 * D) (hd' : d' + 1 ≤ D) (hc : cells + mc' ≤ R.cells ∧ slots + ms' ≤ R.slots) (hn : As.length = np) (hst : st = As.reverse ++ rest) (hw : (rest.map fun v => v.category).sum ≤ 8) (hd : decode cc pc = .ok (.invokestatic idx, 3)) (hpc : pc + 3 = n)
    (kk : V own cc nL ret nm ro R Qf (cells + mc') (slots + ms') n al (.int x :: rest) S1 I1) : V own cc nL ret nm ro R Qf cells slots pc al st S I :=
  v_callSN hM h1 h2 hO hR0 hd' hc hn hst hw hd hpc (fun r S' I' h => by obtain ⟨rfl, rfl, rfl⟩ := h; exact kk)
/-- the ints behind a name -/
theorem v_I {I' : In} (h : I = I') (kk : V own cc nL ret nm ro R Qf cells slots pc al st S I') : V own cc nL ret nm ro R Qf cells slots pc al st S I := h ▸ kk
end FRAME
