/-! ===== rules: Math, System.arraycopy ===== -/
def mn (x y : Int32) : Int32 := if y < x then y else x
def mx (x y : Int32) : Int32 := if x < y then y else x
def ab (x : Int32) : Int32 := if 0 ≤ x then x else 0 - x
/-- places dp .. of the array a become those of a0 from sp on, n of them -/
def cpyI (I : In) (a0 sp a dp n : Nat) : In := fun b j => if b = a ∧ dp ≤ j ∧ j < dp + n then I a0 (sp + (j - dp)) else I b j
theorem cpyI_ne {I : In} {a0 sp a dp n b : Nat} (h : b ≠ a) : cpyI I a0 sp a dp n b = I b := by
  funext j
  exact if_neg (fun q => h q.1)
section MATH
variable {own : String} {cc : ByteArray} {nL : Nat} {ret : Option FieldType} {nm : String} {ro : Ro} {R : Room} {Qf : Wd → List Frame → Array Value → State → State → Prop} {cells slots pc n : Nat} {al st : List Value} {S : St} {I : In}
theorem v_min {idx D : Nat} {x y : Int32} (h1 : Cond.methodLink own idx Lib.Math.min.name ∈ GW) (h2 : Cond.static Lib.Math.min.name ∈ GW) (h3 : Cond.initialized "java/lang/Math" ∈ GW) (h4 : Cond.code Lib.Math.min.name Lib.Math.min.code 2 (some .int) ∈ GW) (hR0 : R.frames = D + 1 ∧ R.locals = 64 * (D + 1)) (hc : cells ≤ R.cells ∧ slots ≤ R.slots) (hw : (st.map fun v => v.category).sum ≤ 8) (hd : decode cc pc = .ok (.invokestatic idx, 3)) (hpc : pc + 3 = n)
    (kk : V own cc nL ret nm ro R Qf cells slots n al (.int (mn x y) :: st) S I) : V own cc nL ret nm ro R Qf cells slots pc al (.int y :: .int x :: st) S I := by
  subst hpc
  intro w p l e s m args below meth c C H locs ls hR hl
  obtain ⟨hx, hb, hml, -, -, -, hown, hts, hK⟩ := id C
  exact va_mmin hx hb (hml.trans hl.1.symm) hown (hts _ h1) (hts _ h2) (hts _ h3) (hts _ h4) (by omega) (by omega) hc.1 hc.2 hd (kk w p l e s m args below meth c C H locs ls hR hl)
theorem v_max {idx D : Nat} {x y : Int32} (h1 : Cond.methodLink own idx Lib.Math.max.name ∈ GW) (h2 : Cond.static Lib.Math.max.name ∈ GW) (h3 : Cond.initialized "java/lang/Math" ∈ GW) (h4 : Cond.code Lib.Math.max.name Lib.Math.max.code 2 (some .int) ∈ GW) (hR0 : R.frames = D + 1 ∧ R.locals = 64 * (D + 1)) (hc : cells ≤ R.cells ∧ slots ≤ R.slots) (hw : (st.map fun v => v.category).sum ≤ 8) (hd : decode cc pc = .ok (.invokestatic idx, 3)) (hpc : pc + 3 = n)
    (kk : V own cc nL ret nm ro R Qf cells slots n al (.int (mx x y) :: st) S I) : V own cc nL ret nm ro R Qf cells slots pc al (.int y :: .int x :: st) S I := by
  subst hpc
  intro w p l e s m args below meth c C H locs ls hR hl
  obtain ⟨hx, hb, hml, -, -, -, hown, hts, hK⟩ := id C
  exact va_mmax hx hb (hml.trans hl.1.symm) hown (hts _ h1) (hts _ h2) (hts _ h3) (hts _ h4) (by omega) (by omega) hc.1 hc.2 hd (kk w p l e s m args below meth c C H locs ls hR hl)
theorem v_abs {idx D : Nat} {x : Int32} (h1 : Cond.methodLink own idx Lib.Math.abs.name ∈ GW) (h2 : Cond.static Lib.Math.abs.name ∈ GW) (h3 : Cond.initialized "java/lang/Math" ∈ GW) (h4 : Cond.code Lib.Math.abs.name Lib.Math.abs.code 1 (some .int) ∈ GW) (hR0 : R.frames = D + 1 ∧ R.locals = 64 * (D + 1)) (hc : cells ≤ R.cells ∧ slots ≤ R.slots) (hw : (st.map fun v => v.category).sum ≤ 8) (hd : decode cc pc = .ok (.invokestatic idx, 3)) (hpc : pc + 3 = n)
    (kk : V own cc nL ret nm ro R Qf cells slots n al (.int (ab x) :: st) S I) : V own cc nL ret nm ro R Qf cells slots pc al (.int x :: st) S I := by
  subst hpc
  intro w p l e s m args below meth c C H locs ls hR hl
  obtain ⟨hx, hb, hml, -, -, -, hown, hts, hK⟩ := id C
  exact va_mabs hx hb (hml.trans hl.1.symm) hown (hts _ h1) (hts _ h2) (hts _ h3) (hts _ h4) (by omega) (by omega) hc.1 hc.2 hd (kk w p l e s m args below meth c C H locs ls hR hl)
theorem v_copy {idx D a0 a n0 n1 sp dp k : Nat} {xs xd xk : Int32} (h1 : Cond.methodLink own idx arraycopyName ∈ GW) (h2 : Cond.native arraycopyName ∈ GW) (h3 : Cond.static arraycopyName ∈ GW) (h4 : Cond.initialized "java/lang/System" ∈ GW) (hs0 : S.1 a0 = some (20, n0)) (hs1 : S.1 a = some (20, n1)) (hxs : ¬ xs < 0 ∧ xs.toNatClampNeg = sp) (hxd : ¬ xd < 0 ∧ xd.toNatClampNeg = dp) (hxk : ¬ xk < 0 ∧ xk.toNatClampNeg = k) (hin : sp + k ≤ n0 ∧ dp + k ≤ n1)
    (hR0 : R.frames = D + 1 ∧ R.locals = 64 * (D + 1)) (hw : (st.map fun v => v.category).sum ≤ 8) (hd : decode cc pc = .ok (.invokestatic idx, 3)) (hpc : pc + 3 = n)
    (kk : V own cc nL ret nm ro R Qf cells slots n al st S (cpyI I a0 sp a dp k)) : V own cc nL ret nm ro R Qf cells slots pc al (.int xk :: .int xd :: .ref a :: .int xs :: .ref a0 :: st) S I := by
  subst hpc
  intro w p l e s m args below meth c C H locs ls hR hl
  obtain ⟨hx, hb, hml, -, -, -, hown, hts, hK⟩ := id C
  obtain ⟨g1, rfl⟩ := hxs
  obtain ⟨g2, rfl⟩ := hxd
  obtain ⟨g3, rfl⟩ := hxk
  have nn : ∀ z : Int32, ¬ z < 0 → z.toInt = (z.toNatClampNeg : Int) := by
    intro z hz
    have hz0 : (0 : Int) ≤ z.toInt := by
      have := Int32.not_lt.mp hz
      simpa using Int32.le_iff_toInt_le.mp this
    show z.toInt = ((z.toInt.toNat : Nat) : Int)
    omega
  intro T hT X
  have ef : av S I 0 a0 = fun j => .int (I a0 j) := by funext j; exact if_neg (by decide)
  have eg : av S I 0 a = fun j => .int (I a j) := by funext j; exact if_neg (by decide)
  have hc0 : H[a0]? = some (arrV (w.2.1 0) n0 (fun j => .int (I a0 j))) := by rw [arr_of (t := 0) hR hs0, ef]
  have hc1 : H[a]? = some (arrV (w.2.1 0) n1 (fun j => .int (I a j))) := by rw [arr_of (t := 0) hR hs1, eg]
  obtain ⟨-, k0, hk0, cm0, hkk0⟩ := (hK.1.2 0 _ (tyL_at (by decide))).1 n0 (fun j => .int (I a0 j))
  obtain ⟨-, k1, hk1, cm1, hkk1⟩ := (hK.1.2 0 _ (tyL_at (by decide))).1 n1 (fun j => .int (I a j))
  obtain ⟨vm', X', step⟩ := X.arraycopy hx hown (hts _ h1) (hts _ h2) (hts _ h3) (hts _ h4) (src := a0) (dst := a) (cs := arrV (w.2.1 0) n0 (fun j => .int (I a0 j))) (cd := arrV (w.2.1 0) n1 (fun j => .int (I a j))) (srcPos := xs) (destPos := xd) (n := xk) (by rw [hT]; exact hc0) (by rw [hT]; exact hc1)
    (fun _ h => by cases h) (fun _ h => by cases h) (fun h => by cases h) (fun h => by cases h) hk0 hk1 hkk0 hkk1 (by simp [refKind, aty]) g1 g2 g3
    (by rw [nn xs g1, nn xk g3, arrV_size]; omega)
    (by rw [nn xd g2, nn xk g3, arrV_size]; omega)
    (fun vm₁ _ i hi => by
      have e : (arrV (w.2.1 0) n0 (fun j => .int (I a0 j))).slots.getD (xs.toNatClampNeg + i) .null = .int (I a0 (xs.toNatClampNeg + i)) := by
        rw [Array.getD_eq_getD_getElem?, arrV_read _ _ (by omega)]
        rfl
      refine ⟨?_, ?_⟩
      · rw [e]
        rfl
      · rw [e]
        exact trivial)
    (g := F0 m pc ls (.int xk :: .int xd :: .ref a :: .int xs :: .ref a0 :: st)) rfl (by rw [hml]; exact hl.1) (rest := st) rfl (by rw [hb]; exact hd) (by omega) (by
      have : nativeFrameWords "java/lang/System" "arraycopy" 5 ≤ 7 := by decide +kernel
      show 2 * 0 + _ + _ ≤ _
      omega)
  have e1 := va_copied (fun z => Value.int z) (w.2.1 0) (w.2.1 0) (n1 := n1) (dp := xd.toNatClampNeg) (I a0) (I a) hin.1
  have e1 : copied (arrV (w.2.1 0) n0 (fun j => .int (I a0 j))) (arrV (w.2.1 0) n1 (fun j => .int (I a j))) xs xd xk = arrV (w.2.1 0) n1 (fun j => .int (va_cpy (I a0) (I a) xs.toNatClampNeg xd.toNatClampNeg xk.toNatClampNeg j)) := e1
  rw [e1] at X' step
  have hlt : a < H.size := (Array.getElem?_eq_some_iff.mp hc1).1
  have hheap : ((T.setVm vm').setCell a (arrV (w.2.1 0) n1 (fun j => .int (va_cpy (I a0) (I a) xs.toNatClampNeg xd.toNatClampNeg xk.toNatClampNeg j)))).heap = H.setIfInBounds a (arrV (w.2.1 0) n1 (fun j => .int (va_cpy (I a0) (I a) xs.toNatClampNeg xd.toNatClampNeg xk.toNatClampNeg j))) := by rw [← hT]; rfl
  have hA : wA w a := (hR.1.2.2.2 a _ hs1).1
  have hrep := rep_set (k := 0) (G' := S.2.1) (I' := cpyI I a0 xs.toNatClampNeg a xd.toNatClampNeg xk.toNatClampNeg) (H1 := H.setIfInBounds a (arrV (w.2.1 0) n1 (fun j => .int (va_cpy (I a0) (I a) xs.toNatClampNeg xd.toNatClampNeg xk.toNatClampNeg j)))) hR hs1 (by simp) (fun q hq => by simp [Array.getElem?_setIfInBounds, Ne.symm hq]) (fun b hb => cpyI_ne hb) (fun _ _ => rfl) ⟨fun h => absurd h (by show ¬ 20 < 11; decide), fun _ => by
    simp only [Array.getElem?_setIfInBounds, hlt, if_true]
    congr 2
    funext j
    show Value.int _ = if 3 ≤ 0 then _ else Value.int _
    rw [if_neg (by decide)]
    simp [va_cpy, cpyI]⟩
  obtain ⟨t, a1, b1⟩ := kk w p l e s m args below meth c C _ _ ls ⟨hrep.1, fun q hq => by
      rcases List.mem_append.mp hq with h | h
      · exact hR.2 q h
      · obtain ⟨z, -, hz⟩ := List.mem_map.mp h
        rw [← hz]
        exact hA⟩ hl _ hheap X'
  exact ⟨t, step t a1, b1⟩
end MATH
