section RULES
variable {own : String} {cc : ByteArray} {nL : Nat} {ret : Option FieldType} {nm : String} {ro : Ro} {R : Room} {Qf : Wd → List Frame → Array Value → State → State → Prop} {cells slots pc n : Nat} {al st : List Value} {S : St} {I : In}
theorem v_iconst {z : Int} {v : Int32} (hd : decode cc pc = .ok (.iconst z, 1)) (hv : Int32.ofInt z = v) (hn : pc + 1 = n) (k : V own cc nL ret nm ro R Qf cells slots n al (.int v :: st) S I) : V own cc nL ret nm ro R Qf cells slots pc al (st) S I := by
  subst hn
  intro w p l e s m args below meth c C H locs ls hR hl
  exact lv_iconst C.1 C.2.1 hd hv (k w p l e s m args below meth c C H locs ls hR hl)
theorem v_bipush {z : Int} {v : Int32} (hd : decode cc pc = .ok (.bipush z, 2)) (hv : (Int8.ofInt z).toInt32 = v) (hn : pc + 2 = n) (k : V own cc nL ret nm ro R Qf cells slots n al (.int v :: st) S I) : V own cc nL ret nm ro R Qf cells slots pc al (st) S I := by
  subst hn
  intro w p l e s m args below meth c C H locs ls hR hl
  exact lv_bipush C.1 C.2.1 hd hv (k w p l e s m args below meth c C H locs ls hR hl)
theorem v_sipush {z : Int} {v : Int32} (hd : decode cc pc = .ok (.sipush z, 3)) (hv : (Int16.ofInt z).toInt32 = v) (hn : pc + 3 = n) (k : V own cc nL ret nm ro R Qf cells slots n al (.int v :: st) S I) : V own cc nL ret nm ro R Qf cells slots pc al (st) S I := by
  subst hn
  intro w p l e s m args below meth c C H locs ls hR hl
  exact lv_sipush C.1 C.2.1 hd hv (k w p l e s m args below meth c C H locs ls hR hl)
theorem v_lconst {z : Fin 2} {v : Int64} (hd : decode cc pc = .ok (.lconst z, 1)) (hv : Int64.ofNat (z : Nat) = v) (hn : pc + 1 = n) (k : V own cc nL ret nm ro R Qf cells slots n al (.long v :: st) S I) : V own cc nL ret nm ro R Qf cells slots pc al (st) S I := by
  subst hn
  intro w p l e s m args below meth c C H locs ls hR hl
  exact lv_lconst C.1 C.2.1 hd hv (k w p l e s m args below meth c C H locs ls hR hl)
theorem v_ldc {index : Nat} {v : Int32} (hw : Cond.constant own index v ∈ GW) (hd : decode cc pc = .ok (.ldc index, 2)) (hn : pc + 2 = n) (k : V own cc nL ret nm ro R Qf cells slots n al (.int v :: st) S I) : V own cc nL ret nm ro R Qf cells slots pc al (st) S I := by
  subst hn
  intro w p l e s m args below meth c C H locs ls hR hl
  exact lv_ldc C.1 C.2.1 C.2.2.2.2.2.2.1 (C.2.2.2.2.2.2.2.1 _ hw) hd (k w p l e s m args below meth c C H locs ls hR hl)
theorem v_iload_n {kk : Fin 4} {i : Nat} {x : Int32} (hd : decode cc pc = .ok (.iload_n kk, 1)) (hi : (kk : Nat) = i) (ha : al[i]? = some (.int x)) (hn : pc + 1 = n) (k : V own cc nL ret nm ro R Qf cells slots n al (.int x :: st) S I) : V own cc nL ret nm ro R Qf cells slots pc al (st) S I := by
  subst hn
  intro w p l e s m args below meth c C H locs ls hR hl
  exact lv_iload_n C.1 C.2.1 hd hi (prs_get hl ha rfl) (k w p l e s m args below meth c C H locs ls hR hl)
theorem v_iload {i : Nat} {x : Int32} (hd : decode cc pc = .ok (.iload i, 2)) (ha : al[i]? = some (.int x)) (hn : pc + 2 = n) (k : V own cc nL ret nm ro R Qf cells slots n al (.int x :: st) S I) : V own cc nL ret nm ro R Qf cells slots pc al (st) S I := by
  subst hn
  intro w p l e s m args below meth c C H locs ls hR hl
  exact lv_iload C.1 C.2.1 hd (prs_get hl ha rfl) (k w p l e s m args below meth c C H locs ls hR hl)
theorem v_lload_n {kk : Fin 4} {i : Nat} {x : Int64} (hd : decode cc pc = .ok (.lload_n kk, 1)) (hi : (kk : Nat) = i) (ha : al[i]? = some (.long x)) (hn : pc + 1 = n) (k : V own cc nL ret nm ro R Qf cells slots n al (.long x :: st) S I) : V own cc nL ret nm ro R Qf cells slots pc al (st) S I := by
  subst hn
  intro w p l e s m args below meth c C H locs ls hR hl
  exact lv_lload_n C.1 C.2.1 hd hi (prs_get hl ha rfl) (k w p l e s m args below meth c C H locs ls hR hl)
theorem v_lload {i : Nat} {x : Int64} (hd : decode cc pc = .ok (.lload i, 2)) (ha : al[i]? = some (.long x)) (hn : pc + 2 = n) (k : V own cc nL ret nm ro R Qf cells slots n al (.long x :: st) S I) : V own cc nL ret nm ro R Qf cells slots pc al (st) S I := by
  subst hn
  intro w p l e s m args below meth c C H locs ls hR hl
  exact lv_lload C.1 C.2.1 hd (prs_get hl ha rfl) (k w p l e s m args below meth c C H locs ls hR hl)
theorem v_aload_n {kk : Fin 4} {i : Nat} {x : Nat} (hd : decode cc pc = .ok (.aload_n kk, 1)) (hi : (kk : Nat) = i) (ha : al[i]? = some (.ref x)) (hn : pc + 1 = n) (k : V own cc nL ret nm ro R Qf cells slots n al (.ref x :: st) S I) : V own cc nL ret nm ro R Qf cells slots pc al (st) S I := by
  subst hn
  intro w p l e s m args below meth c C H locs ls hR hl
  exact lv_aload_n C.1 C.2.1 hd hi (prs_get hl ha rfl) (k w p l e s m args below meth c C H locs ls hR hl)
theorem v_aload {i : Nat} {x : Nat} (hd : decode cc pc = .ok (.aload i, 2)) (ha : al[i]? = some (.ref x)) (hn : pc + 2 = n) (k : V own cc nL ret nm ro R Qf cells slots n al (.ref x :: st) S I) : V own cc nL ret nm ro R Qf cells slots pc al (st) S I := by
  subst hn
  intro w p l e s m args below meth c C H locs ls hR hl
  exact lv_aload C.1 C.2.1 hd (prs_get hl ha rfl) (k w p l e s m args below meth c C H locs ls hR hl)
theorem v_aload_nN {kk : Fin 4} {i : Nat} (hd : decode cc pc = .ok (.aload_n kk, 1)) (hi : (kk : Nat) = i) (ha : al[i]? = some .null) (hn : pc + 1 = n) (k : V own cc nL ret nm ro R Qf cells slots n al (.null :: st) S I) : V own cc nL ret nm ro R Qf cells slots pc al (st) S I := by
  subst hn
  intro w p l e s m args below meth c C H locs ls hR hl
  exact lv_aload_nN C.1 C.2.1 hd hi (prs_get hl ha rfl) (k w p l e s m args below meth c C H locs ls hR hl)
theorem v_aloadN {i : Nat} (hd : decode cc pc = .ok (.aload i, 2)) (ha : al[i]? = some .null) (hn : pc + 2 = n) (k : V own cc nL ret nm ro R Qf cells slots n al (.null :: st) S I) : V own cc nL ret nm ro R Qf cells slots pc al (st) S I := by
  subst hn
  intro w p l e s m args below meth c C H locs ls hR hl
  exact lv_aloadN C.1 C.2.1 hd (prs_get hl ha rfl) (k w p l e s m args below meth c C H locs ls hR hl)
theorem v_istore_n {kk : Fin 4} {i : Nat} {x : Int32} (hd : decode cc pc = .ok (.istore_n kk, 1)) (hi : (kk : Nat) = i) {al' : List Value} (hb : (Nat.ble (i + 1) nL && Nat.ble (i + 1) al.length && nlong al i) = true) (ha : (al.set i (Value.int x)) = al') (hn : pc + 1 = n) (k : V own cc nL ret nm ro R Qf cells slots n al' st S I) : V own cc nL ret nm ro R Qf cells slots pc al (Value.int x :: st) S I := by
  subst hn
  subst ha
  simp only [Bool.and_eq_true, Nat.ble_eq] at hb
  intro w p l e s m args below meth c C H locs ls hR hl
  exact lv_istore_n C.1 C.2.1 hd hi hl (by omega) rfl (fun ls hl => k w p l e s m args below meth c C H locs ls hR (prs_set hb.2 rfl hb.1.2 hl))
theorem v_lstore_n {kk : Fin 4} {i : Nat} {x : Int64} (hd : decode cc pc = .ok (.lstore_n kk, 1)) (hi : (kk : Nat) = i) {al' : List Value} (hb : (Nat.ble (i + 2) nL && Nat.ble (i + 1) al.length && nlong al i) = true) (ha : ((al.set i (Value.long x)).set (i + 1) JJ) = al') (hn : pc + 1 = n) (k : V own cc nL ret nm ro R Qf cells slots n al' st S I) : V own cc nL ret nm ro R Qf cells slots pc al (Value.long x :: st) S I := by
  subst hn
  subst ha
  simp only [Bool.and_eq_true, Nat.ble_eq] at hb
  intro w p l e s m args below meth c C H locs ls hR hl
  exact lv_lstore_n C.1 C.2.1 hd hi hl (by omega) rfl (fun ls hl => k w p l e s m args below meth c C H locs ls hR (prs_set2 hb.2 rfl hb.1.2 hl))
theorem v_astore_n {kk : Fin 4} {i : Nat} {x : Nat} (hd : decode cc pc = .ok (.astore_n kk, 1)) (hi : (kk : Nat) = i) {al' : List Value} (hb : (Nat.ble (i + 1) nL && Nat.ble (i + 1) al.length && nlong al i) = true) (ha : (al.set i (Value.ref x)) = al') (hn : pc + 1 = n) (k : V own cc nL ret nm ro R Qf cells slots n al' st S I) : V own cc nL ret nm ro R Qf cells slots pc al (Value.ref x :: st) S I := by
  subst hn
  subst ha
  simp only [Bool.and_eq_true, Nat.ble_eq] at hb
  intro w p l e s m args below meth c C H locs ls hR hl
  exact lv_astore_n C.1 C.2.1 hd hi hl (by omega) rfl (fun ls hl => k w p l e s m args below meth c C H locs ls hR (prs_set hb.2 rfl hb.1.2 hl))
theorem v_astore_nN {kk : Fin 4} {i : Nat} (hd : decode cc pc = .ok (.astore_n kk, 1)) (hi : (kk : Nat) = i) {al' : List Value} (hb : (Nat.ble (i + 1) nL && Nat.ble (i + 1) al.length && nlong al i) = true) (ha : (al.set i (Value.null)) = al') (hn : pc + 1 = n) (k : V own cc nL ret nm ro R Qf cells slots n al' st S I) : V own cc nL ret nm ro R Qf cells slots pc al (Value.null :: st) S I := by
  subst hn
  subst ha
  simp only [Bool.and_eq_true, Nat.ble_eq] at hb
  intro w p l e s m args below meth c C H locs ls hR hl
  exact lv_astore_nN C.1 C.2.1 hd hi hl (by omega) rfl (fun ls hl => k w p l e s m args below meth c C H locs ls hR (prs_set hb.2 rfl hb.1.2 hl))
theorem v_istore {i : Nat} {x : Int32} (hd : decode cc pc = .ok (.istore i, 2)) {al' : List Value} (hb : (Nat.ble (i + 1) nL && Nat.ble (i + 1) al.length && nlong al i) = true) (ha : (al.set i (Value.int x)) = al') (hn : pc + 2 = n) (k : V own cc nL ret nm ro R Qf cells slots n al' st S I) : V own cc nL ret nm ro R Qf cells slots pc al (Value.int x :: st) S I := by
  subst hn
  subst ha
  simp only [Bool.and_eq_true, Nat.ble_eq] at hb
  intro w p l e s m args below meth c C H locs ls hR hl
  exact lv_istore C.1 C.2.1 hd hl (by omega) rfl (fun ls hl => k w p l e s m args below meth c C H locs ls hR (prs_set hb.2 rfl hb.1.2 hl))
theorem v_lstore {i : Nat} {x : Int64} (hd : decode cc pc = .ok (.lstore i, 2)) {al' : List Value} (hb : (Nat.ble (i + 2) nL && Nat.ble (i + 1) al.length && nlong al i) = true) (ha : ((al.set i (Value.long x)).set (i + 1) JJ) = al') (hn : pc + 2 = n) (k : V own cc nL ret nm ro R Qf cells slots n al' st S I) : V own cc nL ret nm ro R Qf cells slots pc al (Value.long x :: st) S I := by
  subst hn
  subst ha
  simp only [Bool.and_eq_true, Nat.ble_eq] at hb
  intro w p l e s m args below meth c C H locs ls hR hl
  exact lv_lstore C.1 C.2.1 hd hl (by omega) rfl (fun ls hl => k w p l e s m args below meth c C H locs ls hR (prs_set2 hb.2 rfl hb.1.2 hl))
theorem v_astore {i : Nat} {x : Nat} (hd : decode cc pc = .ok (.astore i, 2)) {al' : List Value} (hb : (Nat.ble (i + 1) nL && Nat.ble (i + 1) al.length && nlong al i) = true) (ha : (al.set i (Value.ref x)) = al') (hn : pc + 2 = n) (k : V own cc nL ret nm ro R Qf cells slots n al' st S I) : V own cc nL ret nm ro R Qf cells slots pc al (Value.ref x :: st) S I := by
  subst hn
  subst ha
  simp only [Bool.and_eq_true, Nat.ble_eq] at hb
  intro w p l e s m args below meth c C H locs ls hR hl
  exact lv_astore C.1 C.2.1 hd hl (by omega) rfl (fun ls hl => k w p l e s m args below meth c C H locs ls hR (prs_set hb.2 rfl hb.1.2 hl))
theorem v_astoreN {i : Nat} (hd : decode cc pc = .ok (.astore i, 2)) {al' : List Value} (hb : (Nat.ble (i + 1) nL && Nat.ble (i + 1) al.length && nlong al i) = true) (ha : (al.set i (Value.null)) = al') (hn : pc + 2 = n) (k : V own cc nL ret nm ro R Qf cells slots n al' st S I) : V own cc nL ret nm ro R Qf cells slots pc al (Value.null :: st) S I := by
  subst hn
  subst ha
  simp only [Bool.and_eq_true, Nat.ble_eq] at hb
  intro w p l e s m args below meth c C H locs ls hR hl
  exact lv_astoreN C.1 C.2.1 hd hl (by omega) rfl (fun ls hl => k w p l e s m args below meth c C H locs ls hR (prs_set hb.2 rfl hb.1.2 hl))
theorem v_iinc {i : Nat} {z : Int} {x v : Int32} (hd : decode cc pc = .ok (.iinc i z, 3)) (ha : al[i]? = some (.int x)) (hv : x + Int32.ofInt z = v) {al' : List Value} (hb : (Nat.ble (i + 1) nL && nlong al i) = true) (ha' : al.set i (.int v) = al') (hn : pc + 3 = n) (k : V own cc nL ret nm ro R Qf cells slots n al' st S I) : V own cc nL ret nm ro R Qf cells slots pc al st S I := by
  subst hn
  intro w p l e s m args below meth c C H locs ls hR hl
  subst ha'
  simp only [Bool.and_eq_true, Nat.ble_eq] at hb
  obtain ⟨j, hj⟩ := List.getElem?_of_mem (mem_prs.mpr ⟨ha, rfl⟩)
  exact lv_iinc C.1 C.2.1 hd hl hj hv (by omega) rfl (fun ls hl => k w p l e s m args below meth c C H locs ls hR (prs_set hb.2 rfl (List.getElem?_eq_some_iff.mp ha).1 hl))
theorem v_iadd {x y : Int32} (hd : decode cc pc = .ok (.iadd, 1)) (hn : pc + 1 = n) (k : V own cc nL ret nm ro R Qf cells slots n al (.int (x + y) :: st) S I) : V own cc nL ret nm ro R Qf cells slots pc al (.int y :: .int x :: st) S I := by
  subst hn
  intro w p l e s m args below meth c C H locs ls hR hl
  exact lv_iadd C.1 C.2.1 hd (k w p l e s m args below meth c C H locs ls hR hl)
theorem v_isub {x y : Int32} (hd : decode cc pc = .ok (.isub, 1)) (hn : pc + 1 = n) (k : V own cc nL ret nm ro R Qf cells slots n al (.int (x - y) :: st) S I) : V own cc nL ret nm ro R Qf cells slots pc al (.int y :: .int x :: st) S I := by
  subst hn
  intro w p l e s m args below meth c C H locs ls hR hl
  exact lv_isub C.1 C.2.1 hd (k w p l e s m args below meth c C H locs ls hR hl)
theorem v_imul {x y : Int32} (hd : decode cc pc = .ok (.imul, 1)) (hn : pc + 1 = n) (k : V own cc nL ret nm ro R Qf cells slots n al (.int (x * y) :: st) S I) : V own cc nL ret nm ro R Qf cells slots pc al (.int y :: .int x :: st) S I := by
  subst hn
  intro w p l e s m args below meth c C H locs ls hR hl
  exact lv_imul C.1 C.2.1 hd (k w p l e s m args below meth c C H locs ls hR hl)
theorem v_iand {x y : Int32} (hd : decode cc pc = .ok (.iand, 1)) (hn : pc + 1 = n) (k : V own cc nL ret nm ro R Qf cells slots n al (.int (x &&& y) :: st) S I) : V own cc nL ret nm ro R Qf cells slots pc al (.int y :: .int x :: st) S I := by
  subst hn
  intro w p l e s m args below meth c C H locs ls hR hl
  exact lv_iand C.1 C.2.1 hd (k w p l e s m args below meth c C H locs ls hR hl)
theorem v_ior {x y : Int32} (hd : decode cc pc = .ok (.ior, 1)) (hn : pc + 1 = n) (k : V own cc nL ret nm ro R Qf cells slots n al (.int (x ||| y) :: st) S I) : V own cc nL ret nm ro R Qf cells slots pc al (.int y :: .int x :: st) S I := by
  subst hn
  intro w p l e s m args below meth c C H locs ls hR hl
  exact lv_ior C.1 C.2.1 hd (k w p l e s m args below meth c C H locs ls hR hl)
theorem v_ixor {x y : Int32} (hd : decode cc pc = .ok (.ixor, 1)) (hn : pc + 1 = n) (k : V own cc nL ret nm ro R Qf cells slots n al (.int (x ^^^ y) :: st) S I) : V own cc nL ret nm ro R Qf cells slots pc al (.int y :: .int x :: st) S I := by
  subst hn
  intro w p l e s m args below meth c C H locs ls hR hl
  exact lv_ixor C.1 C.2.1 hd (k w p l e s m args below meth c C H locs ls hR hl)
theorem v_idiv {x y : Int32} (hd : decode cc pc = .ok (.idiv, 1)) (hne : ¬ y = 0) (hn : pc + 1 = n) (k : V own cc nL ret nm ro R Qf cells slots n al (.int (x / y) :: st) S I) : V own cc nL ret nm ro R Qf cells slots pc al (.int y :: .int x :: st) S I := by
  subst hn
  intro w p l e s m args below meth c C H locs ls hR hl
  exact lv_idiv C.1 C.2.1 hd hne (k w p l e s m args below meth c C H locs ls hR hl)
theorem rem_mod (x y : Int32) : x - x / y * y = x % y := by rw [irem_eq_mod]
theorem v_irem {x y : Int32} (hd : decode cc pc = .ok (.irem, 1)) (hne : ¬ y = 0) (hn : pc + 1 = n) (k : V own cc nL ret nm ro R Qf cells slots n al (.int (x % y) :: st) S I) : V own cc nL ret nm ro R Qf cells slots pc al (.int y :: .int x :: st) S I := by
  subst hn
  intro w p l e s m args below meth c C H locs ls hR hl
  refine lv_irem C.1 C.2.1 hd hne ?_
  rw [rem_mod]
  exact k w p l e s m args below meth c C H locs ls hR hl
theorem v_ineg {x : Int32} (hd : decode cc pc = .ok (.ineg, 1)) (hn : pc + 1 = n) (k : V own cc nL ret nm ro R Qf cells slots n al (.int (-x) :: st) S I) : V own cc nL ret nm ro R Qf cells slots pc al (.int x :: st) S I := by
  subst hn
  intro w p l e s m args below meth c C H locs ls hR hl
  exact lv_ineg C.1 C.2.1 hd (k w p l e s m args below meth c C H locs ls hR hl)
theorem v_ladd {x y : Int64} (hd : decode cc pc = .ok (.ladd, 1)) (hn : pc + 1 = n) (k : V own cc nL ret nm ro R Qf cells slots n al (.long (x + y) :: st) S I) : V own cc nL ret nm ro R Qf cells slots pc al (.long y :: .long x :: st) S I := by
  subst hn
  intro w p l e s m args below meth c C H locs ls hR hl
  exact lv_ladd C.1 C.2.1 hd (k w p l e s m args below meth c C H locs ls hR hl)
theorem v_lsub {x y : Int64} (hd : decode cc pc = .ok (.lsub, 1)) (hn : pc + 1 = n) (k : V own cc nL ret nm ro R Qf cells slots n al (.long (x - y) :: st) S I) : V own cc nL ret nm ro R Qf cells slots pc al (.long y :: .long x :: st) S I := by
  subst hn
  intro w p l e s m args below meth c C H locs ls hR hl
  exact lv_lsub C.1 C.2.1 hd (k w p l e s m args below meth c C H locs ls hR hl)
theorem v_lneg {x : Int64} (hd : decode cc pc = .ok (.lneg, 1)) (hn : pc + 1 = n) (k : V own cc nL ret nm ro R Qf cells slots n al (.long (-x) :: st) S I) : V own cc nL ret nm ro R Qf cells slots pc al (.long x :: st) S I := by
  subst hn
  intro w p l e s m args below meth c C H locs ls hR hl
  exact lv_lneg C.1 C.2.1 hd (k w p l e s m args below meth c C H locs ls hR hl)
theorem v_ishl {x y : Int32} (hd : decode cc pc = .ok (.ishl, 1)) (hn : pc + 1 = n) (k : V own cc nL ret nm ro R Qf cells slots n al (.int (x <<< (y &&& 31)) :: st) S I) : V own cc nL ret nm ro R Qf cells slots pc al (.int y :: .int x :: st) S I := by
  subst hn
  intro w p l e s m args below meth c C H locs ls hR hl
  exact lv_ishl C.1 C.2.1 hd (k w p l e s m args below meth c C H locs ls hR hl)
theorem v_ishr {x y : Int32} (hd : decode cc pc = .ok (.ishr, 1)) (hn : pc + 1 = n) (k : V own cc nL ret nm ro R Qf cells slots n al (.int (x >>> (y &&& 31)) :: st) S I) : V own cc nL ret nm ro R Qf cells slots pc al (.int y :: .int x :: st) S I := by
  subst hn
  intro w p l e s m args below meth c C H locs ls hR hl
  exact lv_ishr C.1 C.2.1 hd (k w p l e s m args below meth c C H locs ls hR hl)
def ushr (x y : Int32) : Int32 := (x.toUInt32 >>> (y.toUInt32 &&& Int32.toUInt32 31)).toInt32
theorem v_iushr {x y : Int32} (hd : decode cc pc = .ok (.iushr, 1)) (hn : pc + 1 = n) (k : V own cc nL ret nm ro R Qf cells slots n al (.int (ushr x y) :: st) S I) : V own cc nL ret nm ro R Qf cells slots pc al (.int y :: .int x :: st) S I := by
  subst hn
  intro w p l e s m args below meth c C H locs ls hR hl
  exact lv_iushr C.1 C.2.1 hd rfl (k w p l e s m args below meth c C H locs ls hR hl)
theorem v_i2l {x : Int32} (hd : decode cc pc = .ok (.i2l, 1)) (hn : pc + 1 = n) (k : V own cc nL ret nm ro R Qf cells slots n al (.long x.toInt64 :: st) S I) : V own cc nL ret nm ro R Qf cells slots pc al (.int x :: st) S I := by
  subst hn
  intro w p l e s m args below meth c C H locs ls hR hl
  exact lv_i2l C.1 C.2.1 hd rfl (k w p l e s m args below meth c C H locs ls hR hl)
theorem v_l2i {x : Int64} (hd : decode cc pc = .ok (.l2i, 1)) (hn : pc + 1 = n) (k : V own cc nL ret nm ro R Qf cells slots n al (.int x.toInt32 :: st) S I) : V own cc nL ret nm ro R Qf cells slots pc al (.long x :: st) S I := by
  subst hn
  intro w p l e s m args below meth c C H locs ls hR hl
  exact lv_l2i C.1 C.2.1 hd rfl (k w p l e s m args below meth c C H locs ls hR hl)
theorem v_i2b {x : Int32} (hd : decode cc pc = .ok (.i2b, 1)) (hn : pc + 1 = n) (k : V own cc nL ret nm ro R Qf cells slots n al (.int x.toInt8.toInt32 :: st) S I) : V own cc nL ret nm ro R Qf cells slots pc al (.int x :: st) S I := by
  subst hn
  intro w p l e s m args below meth c C H locs ls hR hl
  exact lv_i2b C.1 C.2.1 hd rfl (k w p l e s m args below meth c C H locs ls hR hl)
theorem v_i2s {x : Int32} (hd : decode cc pc = .ok (.i2s, 1)) (hn : pc + 1 = n) (k : V own cc nL ret nm ro R Qf cells slots n al (.int x.toInt16.toInt32 :: st) S I) : V own cc nL ret nm ro R Qf cells slots pc al (.int x :: st) S I := by
  subst hn
  intro w p l e s m args below meth c C H locs ls hR hl
  exact lv_i2s C.1 C.2.1 hd rfl (k w p l e s m args below meth c C H locs ls hR hl)
theorem v_i2c {x : Int32} (hd : decode cc pc = .ok (.i2c, 1)) (hn : pc + 1 = n) (k : V own cc nL ret nm ro R Qf cells slots n al (.int (x.toUInt32 % 65536).toInt32 :: st) S I) : V own cc nL ret nm ro R Qf cells slots pc al (.int x :: st) S I := by
  subst hn
  intro w p l e s m args below meth c C H locs ls hR hl
  exact lv_i2c C.1 C.2.1 hd rfl (k w p l e s m args below meth c C H locs ls hR hl)
theorem v_dup {v : Value} (hd : decode cc pc = .ok (.dup, 1)) (hc : v.category = 1) (hn : pc + 1 = n) (k : V own cc nL ret nm ro R Qf cells slots n al (v :: v :: st) S I) : V own cc nL ret nm ro R Qf cells slots pc al (v :: st) S I := by
  subst hn
  intro w p l e s m args below meth c C H locs ls hR hl
  exact lv_dup C.1 C.2.1 hd hc (k w p l e s m args below meth c C H locs ls hR hl)
theorem v_pop {v : Value} (hd : decode cc pc = .ok (.pop, 1)) (hc : v.category = 1) (hn : pc + 1 = n) (k : V own cc nL ret nm ro R Qf cells slots n al (st) S I) : V own cc nL ret nm ro R Qf cells slots pc al (v :: st) S I := by
  subst hn
  intro w p l e s m args below meth c C H locs ls hR hl
  exact lv_pop C.1 C.2.1 hd hc (k w p l e s m args below meth c C H locs ls hR hl)
theorem v_dup2 {v u : Value} (hd : decode cc pc = .ok (.dup2, 1)) (hc : v.category = 1 ∧ u.category = 1) (hn : pc + 1 = n) (k : V own cc nL ret nm ro R Qf cells slots n al (v :: u :: v :: u :: st) S I) : V own cc nL ret nm ro R Qf cells slots pc al (v :: u :: st) S I := by
  subst hn
  intro w p l e s m args below meth c C H locs ls hR hl
  exact lv_dup2_11 C.1 C.2.1 hd hc.1 hc.2 (k w p l e s m args below meth c C H locs ls hR hl)
theorem v_dup_x1 {v u : Value} (hd : decode cc pc = .ok (.dup_x1, 1)) (hc : v.category = 1 ∧ u.category = 1) (hn : pc + 1 = n) (k : V own cc nL ret nm ro R Qf cells slots n al (v :: u :: v :: st) S I) : V own cc nL ret nm ro R Qf cells slots pc al (v :: u :: st) S I := by
  subst hn
  intro w p l e s m args below meth c C H locs ls hR hl
  exact lv_dup_x1 C.1 C.2.1 hd hc.1 hc.2 (k w p l e s m args below meth c C H locs ls hR hl)
theorem v_if_eq {x : Int32} {off : Int} {tgt : Nat} (hd : decode cc pc = .ok (.ifCond .eq off, 3)) (ht : (pc : Int) + off = (tgt : Int)) (hn : pc + 3 = n) (kt : x = 0 → V own cc nL ret nm ro R Qf cells slots tgt al st S I) (kf : ¬ x = 0 → V own cc nL ret nm ro R Qf cells slots n al st S I) : V own cc nL ret nm ro R Qf cells slots pc al (.int x :: st) S I := by
  subst hn
  intro w p l e s m args below meth c C H locs ls hR hl
  exact lv_if_eq C.1 C.2.1 hd ht (fun h => kt h w p l e s m args below meth c C H locs ls hR hl) (fun h => kf h w p l e s m args below meth c C H locs ls hR hl)
theorem v_icmp_eq {x y : Int32} {off : Int} {tgt : Nat} (hd : decode cc pc = .ok (.if_icmp .eq off, 3)) (ht : (pc : Int) + off = (tgt : Int)) (hn : pc + 3 = n) (kt : x = y → V own cc nL ret nm ro R Qf cells slots tgt al st S I) (kf : ¬ x = y → V own cc nL ret nm ro R Qf cells slots n al st S I) : V own cc nL ret nm ro R Qf cells slots pc al (.int y :: .int x :: st) S I := by
  subst hn
  intro w p l e s m args below meth c C H locs ls hR hl
  exact lv_icmp_eq C.1 C.2.1 hd ht (fun h => kt h w p l e s m args below meth c C H locs ls hR hl) (fun h => kf h w p l e s m args below meth c C H locs ls hR hl)
theorem v_if_ne {x : Int32} {off : Int} {tgt : Nat} (hd : decode cc pc = .ok (.ifCond .ne off, 3)) (ht : (pc : Int) + off = (tgt : Int)) (hn : pc + 3 = n) (kt : ¬ x = 0 → V own cc nL ret nm ro R Qf cells slots tgt al st S I) (kf : x = 0 → V own cc nL ret nm ro R Qf cells slots n al st S I) : V own cc nL ret nm ro R Qf cells slots pc al (.int x :: st) S I := by
  subst hn
  intro w p l e s m args below meth c C H locs ls hR hl
  exact lv_if_ne C.1 C.2.1 hd ht (fun h => kt h w p l e s m args below meth c C H locs ls hR hl) (fun h => kf h w p l e s m args below meth c C H locs ls hR hl)
theorem v_icmp_ne {x y : Int32} {off : Int} {tgt : Nat} (hd : decode cc pc = .ok (.if_icmp .ne off, 3)) (ht : (pc : Int) + off = (tgt : Int)) (hn : pc + 3 = n) (kt : ¬ x = y → V own cc nL ret nm ro R Qf cells slots tgt al st S I) (kf : x = y → V own cc nL ret nm ro R Qf cells slots n al st S I) : V own cc nL ret nm ro R Qf cells slots pc al (.int y :: .int x :: st) S I := by
  subst hn
  intro w p l e s m args below meth c C H locs ls hR hl
  exact lv_icmp_ne C.1 C.2.1 hd ht (fun h => kt h w p l e s m args below meth c C H locs ls hR hl) (fun h => kf h w p l e s m args below meth c C H locs ls hR hl)
theorem v_if_lt {x : Int32} {off : Int} {tgt : Nat} (hd : decode cc pc = .ok (.ifCond .lt off, 3)) (ht : (pc : Int) + off = (tgt : Int)) (hn : pc + 3 = n) (kt : x < 0 → V own cc nL ret nm ro R Qf cells slots tgt al st S I) (kf : ¬ x < 0 → V own cc nL ret nm ro R Qf cells slots n al st S I) : V own cc nL ret nm ro R Qf cells slots pc al (.int x :: st) S I := by
  subst hn
  intro w p l e s m args below meth c C H locs ls hR hl
  exact lv_if_lt C.1 C.2.1 hd ht (fun h => kt h w p l e s m args below meth c C H locs ls hR hl) (fun h => kf h w p l e s m args below meth c C H locs ls hR hl)
theorem v_icmp_lt {x y : Int32} {off : Int} {tgt : Nat} (hd : decode cc pc = .ok (.if_icmp .lt off, 3)) (ht : (pc : Int) + off = (tgt : Int)) (hn : pc + 3 = n) (kt : x < y → V own cc nL ret nm ro R Qf cells slots tgt al st S I) (kf : ¬ x < y → V own cc nL ret nm ro R Qf cells slots n al st S I) : V own cc nL ret nm ro R Qf cells slots pc al (.int y :: .int x :: st) S I := by
  subst hn
  intro w p l e s m args below meth c C H locs ls hR hl
  exact lv_icmp_lt C.1 C.2.1 hd ht (fun h => kt h w p l e s m args below meth c C H locs ls hR hl) (fun h => kf h w p l e s m args below meth c C H locs ls hR hl)
theorem v_if_ge {x : Int32} {off : Int} {tgt : Nat} (hd : decode cc pc = .ok (.ifCond .ge off, 3)) (ht : (pc : Int) + off = (tgt : Int)) (hn : pc + 3 = n) (kt : 0 ≤ x → V own cc nL ret nm ro R Qf cells slots tgt al st S I) (kf : ¬ 0 ≤ x → V own cc nL ret nm ro R Qf cells slots n al st S I) : V own cc nL ret nm ro R Qf cells slots pc al (.int x :: st) S I := by
  subst hn
  intro w p l e s m args below meth c C H locs ls hR hl
  exact lv_if_ge C.1 C.2.1 hd ht (fun h => kt h w p l e s m args below meth c C H locs ls hR hl) (fun h => kf h w p l e s m args below meth c C H locs ls hR hl)
theorem v_icmp_ge {x y : Int32} {off : Int} {tgt : Nat} (hd : decode cc pc = .ok (.if_icmp .ge off, 3)) (ht : (pc : Int) + off = (tgt : Int)) (hn : pc + 3 = n) (kt : y ≤ x → V own cc nL ret nm ro R Qf cells slots tgt al st S I) (kf : ¬ y ≤ x → V own cc nL ret nm ro R Qf cells slots n al st S I) : V own cc nL ret nm ro R Qf cells slots pc al (.int y :: .int x :: st) S I := by
  subst hn
  intro w p l e s m args below meth c C H locs ls hR hl
  exact lv_icmp_ge C.1 C.2.1 hd ht (fun h => kt h w p l e s m args below meth c C H locs ls hR hl) (fun h => kf h w p l e s m args below meth c C H locs ls hR hl)
theorem v_if_gt {x : Int32} {off : Int} {tgt : Nat} (hd : decode cc pc = .ok (.ifCond .gt off, 3)) (ht : (pc : Int) + off = (tgt : Int)) (hn : pc + 3 = n) (kt : 0 < x → V own cc nL ret nm ro R Qf cells slots tgt al st S I) (kf : ¬ 0 < x → V own cc nL ret nm ro R Qf cells slots n al st S I) : V own cc nL ret nm ro R Qf cells slots pc al (.int x :: st) S I := by
  subst hn
  intro w p l e s m args below meth c C H locs ls hR hl
  exact lv_if_gt C.1 C.2.1 hd ht (fun h => kt h w p l e s m args below meth c C H locs ls hR hl) (fun h => kf h w p l e s m args below meth c C H locs ls hR hl)
theorem v_icmp_gt {x y : Int32} {off : Int} {tgt : Nat} (hd : decode cc pc = .ok (.if_icmp .gt off, 3)) (ht : (pc : Int) + off = (tgt : Int)) (hn : pc + 3 = n) (kt : y < x → V own cc nL ret nm ro R Qf cells slots tgt al st S I) (kf : ¬ y < x → V own cc nL ret nm ro R Qf cells slots n al st S I) : V own cc nL ret nm ro R Qf cells slots pc al (.int y :: .int x :: st) S I := by
  subst hn
  intro w p l e s m args below meth c C H locs ls hR hl
  exact lv_icmp_gt C.1 C.2.1 hd ht (fun h => kt h w p l e s m args below meth c C H locs ls hR hl) (fun h => kf h w p l e s m args below meth c C H locs ls hR hl)
theorem v_if_le {x : Int32} {off : Int} {tgt : Nat} (hd : decode cc pc = .ok (.ifCond .le off, 3)) (ht : (pc : Int) + off = (tgt : Int)) (hn : pc + 3 = n) (kt : x ≤ 0 → V own cc nL ret nm ro R Qf cells slots tgt al st S I) (kf : ¬ x ≤ 0 → V own cc nL ret nm ro R Qf cells slots n al st S I) : V own cc nL ret nm ro R Qf cells slots pc al (.int x :: st) S I := by
  subst hn
  intro w p l e s m args below meth c C H locs ls hR hl
  exact lv_if_le C.1 C.2.1 hd ht (fun h => kt h w p l e s m args below meth c C H locs ls hR hl) (fun h => kf h w p l e s m args below meth c C H locs ls hR hl)
theorem v_icmp_le {x y : Int32} {off : Int} {tgt : Nat} (hd : decode cc pc = .ok (.if_icmp .le off, 3)) (ht : (pc : Int) + off = (tgt : Int)) (hn : pc + 3 = n) (kt : x ≤ y → V own cc nL ret nm ro R Qf cells slots tgt al st S I) (kf : ¬ x ≤ y → V own cc nL ret nm ro R Qf cells slots n al st S I) : V own cc nL ret nm ro R Qf cells slots pc al (.int y :: .int x :: st) S I := by
  subst hn
  intro w p l e s m args below meth c C H locs ls hR hl
  exact lv_icmp_le C.1 C.2.1 hd ht (fun h => kt h w p l e s m args below meth c C H locs ls hR hl) (fun h => kf h w p l e s m args below meth c C H locs ls hR hl)
theorem v_goto {off : Int} {tgt : Nat} (hd : decode cc pc = .ok (.goto off, 3)) (ht : (pc : Int) + off = (tgt : Int)) (k : V own cc nL ret nm ro R Qf cells slots tgt al (st) S I) : V own cc nL ret nm ro R Qf cells slots pc al (st) S I := by
  intro w p l e s m args below meth c C H locs ls hR hl
  exact lv_goto C.1 C.2.1 hd ht (k w p l e s m args below meth c C H locs ls hR hl)
theorem v_ifnonnull {x : Nat} {off : Int} {tgt : Nat} (hd : decode cc pc = .ok (.ifnonnull off, 3)) (ht : (pc : Int) + off = (tgt : Int)) (k : V own cc nL ret nm ro R Qf cells slots tgt al (st) S I) : V own cc nL ret nm ro R Qf cells slots pc al (.ref x :: st) S I := by
  intro w p l e s m args below meth c C H locs ls hR hl
  exact lv_ifnonnull C.1 C.2.1 hd ht (k w p l e s m args below meth c C H locs ls hR hl)
theorem v_ifnonnullN {off : Int} (hd : decode cc pc = .ok (.ifnonnull off, 3)) (hn : pc + 3 = n) (k : V own cc nL ret nm ro R Qf cells slots n al (st) S I) : V own cc nL ret nm ro R Qf cells slots pc al (.null :: st) S I := by
  subst hn
  intro w p l e s m args below meth c C H locs ls hR hl
  exact lv_ifnonnullN C.1 C.2.1 hd (k w p l e s m args below meth c C H locs ls hR hl)
theorem v_table {dflt lo hi : Int} {offs : Array Int} {len : Nat} {x : Int32} {off : Int} {tgt : Nat} (hd : decode cc pc = .ok (.tableswitch dflt lo hi offs, len)) (h : ¬ x.toInt < lo ∧ ¬ hi < x.toInt) (ho : offs[(x.toInt - lo).toNat]? = some off) (ht : (pc : Int) + off = (tgt : Int)) (k : V own cc nL ret nm ro R Qf cells slots tgt al (st) S I) : V own cc nL ret nm ro R Qf cells slots pc al (.int x :: st) S I := by
  intro w p l e s m args below meth c C H locs ls hR hl
  exact lv_tableIn C.1 C.2.1 hd h.1 h.2 ho ht (k w p l e s m args below meth c C H locs ls hR hl)
theorem v_tableO {dflt lo hi : Int} {offs : Array Int} {len : Nat} {x : Int32} {tgt : Nat} (hd : decode cc pc = .ok (.tableswitch dflt lo hi offs, len)) (h : x.toInt < lo ∨ hi < x.toInt) (ht : (pc : Int) + dflt = (tgt : Int)) (k : V own cc nL ret nm ro R Qf cells slots tgt al (st) S I) : V own cc nL ret nm ro R Qf cells slots pc al (.int x :: st) S I := by
  intro w p l e s m args below meth c C H locs ls hR hl
  exact lv_tableOut C.1 C.2.1 hd h ht (k w p l e s m args below meth c C H locs ls hR hl)
theorem v_lookup {dflt : Int} {ps : Array (Int × Int)} {len : Nat} {x : Int32} {off : Int} {tgt : Nat} (hd : decode cc pc = .ok (.lookupswitch dflt ps, len)) (hp : (ps.toList.zip (ps.toList.drop 1)).all (fun (a, next) => a.1 < next.1) = true) (ho : Op.lookupswitch.offset ps.toList dflt x.toInt = off) (ht : (pc : Int) + off = (tgt : Int)) (k : V own cc nL ret nm ro R Qf cells slots tgt al (st) S I) : V own cc nL ret nm ro R Qf cells slots pc al (.int x :: st) S I := by
  intro w p l e s m args below meth c C H locs ls hR hl
  exact lv_lookup C.1 C.2.1 hd hp ho ht (k w p l e s m args below meth c C H locs ls hR hl)
theorem v_lcmp {x y : Int64} (hd : decode cc pc = .ok (.lcmp, 1)) (hn : pc + 1 = n) (k : V own cc nL ret nm ro R Qf cells slots n al (.int (lg_cmp x y) :: st) S I) : V own cc nL ret nm ro R Qf cells slots pc al (.long y :: .long x :: st) S I := by
  subst hn
  intro w p l e s m args below meth c C H locs ls hR hl
  exact W.lcmp C.1 C.2.1 hd (k w p l e s m args below meth c C H locs ls hR hl)
end RULES
