/-! ===== rules for the heap ===== -/
theorem fC_at : ∀ ci, ci < 11 → vwCl[ci]? = some (fC ci) := fun ci h => by
  have h2 : ci < vwCl.length := h
  simp only [fC, List.getD_eq_getElem?_getD, List.getElem?_eq_getElem h2, Option.getD_some]
theorem fC_in0 : ∀ ci, ci < 11 → (u_ws (fC ci).1 (fC ci).2.1 (fC ci).2.2).all (fun x => decide (x ∈ lw_tbl) && goodWord x) = true := by decide +kernel
theorem fC_in : ∀ ci, ci < 11 → ∀ x ∈ u_ws (fC ci).1 (fC ci).2.1 (fC ci).2.2, x ∈ GW := fun ci h x hx => by
  have h1 := List.all_eq_true.mp (fC_in0 ci h) x hx
  simp only [Bool.and_eq_true, decide_eq_true_eq] at h1
  exact List.mem_filter.mpr h1
theorem fC_ty : ∀ ci, ci < 11 → ∀ k, k < (fC ci).2.2 → parseFieldDescriptor ((fC ci).2.1 k).2.2.1 = some (fty ci k) := by decide +kernel
theorem fC_nm : ∀ ci, ci < 11 → ∀ a, a < (fC ci).2.2 → ∀ b, b < (fC ci).2.2 → a ≠ b → ((fC ci).2.1 a).2.1 ≠ ((fC ci).2.1 b).2.1 := by decide +kernel
/-- the pool's number idx of the class own names field k of the class ci -/
def FA (own : String) (idx ci k : Nat) : Prop := ci < 11 ∧ k < (fC ci).2.2 ∧ Cond.fieldLink own idx ((fC ci).2.1 k).1 ((fC ci).2.1 k).2.1 ((fC ci).2.1 k).2.2.1 ∈ GW
/-- an index within -/
def ix (i : Int32) (j ln : Nat) : Prop := vp_in i ln ∧ i.toNatClampNeg = j
theorem ix.lt {i : Int32} {j ln : Nat} (h : ix i j ln) : j < ln := by
  obtain ⟨h1, rfl⟩ := h
  exact Nat.not_le.mp fun q => h1 (Or.inr q)
theorem ix_nI {j ln : Nat} (h : j < ln) (hl : ln < 2 ^ 31) : ix (nI j) j ln := ⟨vp_in_nI h hl, nI_clamp (by omega)⟩
theorem ix_of {i : Int32} {j ln : Nat} (hi : i = nI j) (h : j < ln) (hl : ln < 2 ^ 31) : ix i j ln := hi ▸ ix_nI h hl
theorem tyL_at {TA : Nat → ClassId} {t : Nat} (h : t < 7) : (tyL TA)[t]? = some (TA t, aty t) := by
  simp [tyL, h]
section HEAP
variable {own : String} {cc : ByteArray} {nL : Nat} {ret : Option FieldType} {nm : String} {ro : Ro} {R : Room} {Qf : Wd → List Frame → Array Value → State → State → Prop} {cells slots pc n : Nat} {al st : List Value} {S : St} {I : In}
theorem v_getF {idx ci k a ln : Nat} (hf : FA own idx ci k) (hs : S.1 a = some (ci, ln)) (hd : decode cc pc = .ok (.getfield idx, 3)) (hn : pc + 3 = n) (kk : V own cc nL ret nm ro R Qf cells slots n al (fv S I ci a k :: st) S I) : V own cc nL ret nm ro R Qf cells slots pc al (.ref a :: st) S I := by
  subst hn
  intro w p l e s m args below meth c C H locs ls hR hl
  obtain ⟨hci, hk, hlk⟩ := hf
  obtain ⟨cell, q1, q2, q3, q4⟩ := (hR.1.2.2.2 a _ hs).2.1 hci
  obtain ⟨hx, hb, -, -, -, -, hown, hts, hK⟩ := id C
  obtain ⟨hS, hfc, kC, hkC, hkind⟩ := hK.1.1 ci _ (fC_at ci hci)
  obtain ⟨cf, kf, fi, f, hi, hsl⟩ := hS k hk
  refine W.getf hx hb hown (hts _ hlk) hi (u_facts hfc hkC (u_lays hts (fC_in ci hci) hk) hi).1 q1 (by rw [q3]; exact fun h => by cases h) (v := fv S I ci a k) ?_ rfl rfl hd (kk w p l e s m args below meth c C H locs ls hR hl)
  rw [hsl, q4 k hk]
theorem v_getI {idx ci k a ln : Nat} (hf : FA own idx ci k) (hr : isR ci k = false) (hs : S.1 a = some (ci, ln)) (hd : decode cc pc = .ok (.getfield idx, 3)) (hn : pc + 3 = n) (kk : V own cc nL ret nm ro R Qf cells slots n al (.int (I a k) :: st) S I) : V own cc nL ret nm ro R Qf cells slots pc al (.ref a :: st) S I :=
  v_getF hf hs hd hn (by rw [show fv S I ci a k = .int (I a k) by unfold fv; rw [hr]; rfl]; exact kk)
theorem v_getR {idx ci k a ln : Nat} {v : Value} (hf : FA own idx ci k) (hr : isR ci k = true) (hs : S.1 a = some (ci, ln)) (hv : S.2.1 a k = v) (hd : decode cc pc = .ok (.getfield idx, 3)) (hn : pc + 3 = n) (kk : V own cc nL ret nm ro R Qf cells slots n al (v :: st) S I) : V own cc nL ret nm ro R Qf cells slots pc al (.ref a :: st) S I :=
  v_getF hf hs hd hn (by rw [show fv S I ci a k = v by unfold fv; rw [hr]; exact hv]; exact kk)
/-- may a field be written here: it isn't final, or this is its class's constructor -/
def canPut (own nm : String) (ci k : Nat) : Prop := ((fC ci).2.1 k).2.2.2 = false ∨ (((fC ci).2.1 k).2.2.2 = true ∧ nm = "<init>" ∧ ((fC ci).2.1 k).1 = own)
theorem v_putF {idx ci k a ln : Nat} {v : Value} {G' : Gr} {I' : In} (hf : FA own idx ci k) (hp : canPut own nm ci k) (hs : S.1 a = some (ci, ln)) (hv : narrow (fty ci k) v = v ∧ fits (fty ci k) v = true) (hd : decode cc pc = .ok (.putfield idx, 3)) (hn : pc + 3 = n)
    (hI : ∀ b, b ≠ a → I' b = I b) (hG : ∀ b, b ≠ a → G' b = S.2.1 b) (hc : ∀ j, j < (fC ci).2.2 → fv (S.1, G', S.2.2) I' ci a j = if j = k then v else fv S I ci a j)
    (kk : V own cc nL ret nm ro R Qf cells slots n al st (S.1, G', S.2.2) I') : V own cc nL ret nm ro R Qf cells slots pc al (v :: .ref a :: st) S I := by
  subst hn
  intro w p l e s m args below meth c C H locs ls hR hl
  obtain ⟨hci, hk, hlk⟩ := hf
  obtain ⟨cell, q1, q2, q3, q4⟩ := (hR.1.2.2.2 a _ hs).2.1 hci
  obtain ⟨hx, hb, -, -, hnm, -, hown, hts, hK⟩ := id C
  have hap := va_apart (own := own) hts (fC_in ci hci) (fty ci) (fC_ty ci hci) (fC_nm ci hci) hK.1 (fC_at ci hci)
  obtain ⟨hS, hfc, kC, hkC, hkind⟩ := hK.1.1 ci _ (fC_at ci hci)
  obtain ⟨cf, kf, fi, f, hi, hsl⟩ := hS k hk
  have hlay := hts _ (fC_in ci hci _ (u_in_lay hk))
  unfold u_lay at hlay
  have hst := (u_facts hfc hkC (u_lays hts (fC_in ci hci) hk) hi).1
  have fin : ∀ H' : Heap, H'[a]? = some (cell.setSlot f.slot v) → H'.size = H.size → (∀ q, q ≠ a → H'[q]? = H[q]?) → W p l e R s m args below meth c H' (locs ++ [⟨a, f.slot⟩]) cells slots (Qf w below args s) (F0 m (pc + 3) ls st) := by
    intro H' e1 e2 e3
    rw [hsl] at e1
    refine kk w p l e s m args below meth c C H' _ ls (rep_set hR hs e2 e3 hI hG ⟨fun _ => ?_, fun h => absurd h (by omega)⟩) hl
    exact t_OB.to (V := updV (fv S I ci a) k v) ⟨_, e1, q2, q3, t_set q4 hap hk v⟩ (fun j hj => (hc j hj).symm)
  rcases hp with hp | ⟨hp, hnm2, hdecl⟩
  · rw [if_neg (by rw [hp]; decide)] at hlay
    have h6 := u_store hfc hkC hkind hlay hi (fC_ty ci hci k hk) hv.1 hv.2
    exact W.putK hx hb (f := f) ⟨hown, hts _ hlk, ⟨_, _, _, hi⟩, hst⟩ (by rw [q2]; exact h6) q1 q3 (by rw [hsl]; exact k2_hasslot (q4 k hk)) rfl rfl hd fin
  · rw [if_pos hp] at hlay
    have hcf : m.cls = cf := by
      obtain ⟨_, _, c', _, _, _, -, -, hf', -, -, -, hown2, -⟩ := Cond.laysFinal_spec hlay
      have e1 : c' = cf := by have := hi.symm.trans hf'; simp at this; exact this.1.symm
      rw [hdecl] at hown2
      rw [← e1]; exact Option.some.inj (hown.symm.trans hown2)
    have h6 := u_fits hfc hkC hkind (Or.inr hlay) hi (fC_ty ci hci k hk) hv.1 hv.2
    exact W.putFinK hx hb hown (hts _ hlk) hi hst hcf (hnm.trans hnm2) (by rw [q2]; exact h6) q1 q3 (by rw [hsl]; exact k2_hasslot (q4 k hk)) rfl rfl hd fin
theorem v_putI0 {idx ci k a ln : Nat} {x : Int32} (hf : FA own idx ci k) (hr : isR ci k = false) (hp : canPut own nm ci k) (hs : S.1 a = some (ci, ln)) (hv : narrow (fty ci k) (.int x) = .int x ∧ fits (fty ci k) (.int x) = true) (hd : decode cc pc = .ok (.putfield idx, 3)) (hn : pc + 3 = n)
    (kk : V own cc nL ret nm ro R Qf cells slots n al st S (setI I a k x)) : V own cc nL ret nm ro R Qf cells slots pc al (.int x :: .ref a :: st) S I := by
  refine v_putF (G' := S.2.1) (I' := setI I a k x) hf hp hs hv hd hn (fun b hb => setI_ne hb) (fun _ _ => rfl) (fun j hj => ?_) kk
  by_cases h : j = k
  · subst h
    rw [if_pos rfl]
    unfold fv
    rw [hr]
    simp [setI]
  · rw [if_neg h]
    unfold fv
    simp [setI, h]
theorem v_putI {idx ci k a ln : Nat} {x : Int32} (hf : FA own idx ci k) (ht : fty ci k = .int) (hp : canPut own nm ci k) (hs : S.1 a = some (ci, ln)) (hd : decode cc pc = .ok (.putfield idx, 3)) (hn : pc + 3 = n)
    (kk : V own cc nL ret nm ro R Qf cells slots n al st S (setI I a k x)) : V own cc nL ret nm ro R Qf cells slots pc al (.int x :: .ref a :: st) S I :=
  v_putI0 hf (by unfold isR; rw [ht]; rfl) hp hs (by rw [ht]; exact ⟨rfl, rfl⟩) hd hn kk
theorem bool_nar {x : Int32} (h : x = 0 ∨ x = 1) : narrow .boolean (.int x) = .int x ∧ fits .boolean (.int x) = true := by
  rcases h with rfl | rfl <;> exact ⟨by decide +kernel, by decide +kernel⟩
theorem v_putZ {idx ci k a ln : Nat} {x : Int32} (hf : FA own idx ci k) (ht : fty ci k = .boolean) (hp : canPut own nm ci k) (hs : S.1 a = some (ci, ln)) (hx : x = 0 ∨ x = 1) (hd : decode cc pc = .ok (.putfield idx, 3)) (hn : pc + 3 = n)
    (kk : V own cc nL ret nm ro R Qf cells slots n al st S (setI I a k x)) : V own cc nL ret nm ro R Qf cells slots pc al (.int x :: .ref a :: st) S I :=
  v_putI0 hf (by unfold isR; rw [ht]; rfl) hp hs (by rw [ht]; exact bool_nar hx) hd hn kk
theorem ref_nar {ty : FieldType} {v : Value} (h : ty.isReference = true) (hv : (∃ b, v = .ref b) ∨ v = .null) : narrow ty v = v ∧ fits ty v = true := by
  cases ty <;> first | (simp [FieldType.isReference] at h; done) | (rcases hv with ⟨b, rfl⟩ | rfl <;> exact ⟨rfl, rfl⟩)
theorem v_putR {idx ci k a ln : Nat} {v : Value} (hf : FA own idx ci k) (hr : isR ci k = true) (hp : canPut own nm ci k) (hs : S.1 a = some (ci, ln)) (hv : (∃ b, v = .ref b) ∨ v = .null) (hd : decode cc pc = .ok (.putfield idx, 3)) (hn : pc + 3 = n)
    (kk : V own cc nL ret nm ro R Qf cells slots n al st (S.1, setG S.2.1 a k v, S.2.2) I) : V own cc nL ret nm ro R Qf cells slots pc al (v :: .ref a :: st) S I := by
  refine v_putF (G' := setG S.2.1 a k v) (I' := I) hf hp hs (ref_nar hr hv) hd hn (fun _ _ => rfl) (fun b hb => setG_ne hb) (fun j hj => ?_) kk
  by_cases h : j = k
  · subst h
    rw [if_pos rfl]
    unfold fv
    rw [hr]
    simp [setG]
  · rw [if_neg h]
    unfold fv
    simp [setG, h]
/-! arrays -/
theorem arr_of {w : Wd} {H : Heap} {locs : List Loc} {a ln : Nat} {t : Nat} (hR : Rep w S I H locs) (hs : S.1 a = some (20 + t, ln)) : H[a]? = some (arrV (w.2.1 t) ln (av S I t a)) := by
  have := (hR.1.2.2.2 a _ hs).2.2 (by show 11 ≤ 20 + t; omega)
  rw [show 20 + t - 20 = t by omega] at this
  exact this
theorem v_iald {a ln j : Nat} {i : Int32} (hs : S.1 a = some (20, ln)) (hj : ix i j ln) (hd : decode cc pc = .ok (.iaload, 1)) (hn : pc + 1 = n) (kk : V own cc nL ret nm ro R Qf cells slots n al (.int (I a j) :: st) S I) : V own cc nL ret nm ro R Qf cells slots pc al (.int i :: .ref a :: st) S I := by
  subst hn
  intro w p l e s m args below meth c C H locs ls hR hl
  have hlt := hj.lt
  obtain ⟨hin, rfl⟩ := hj
  exact W.iald (v := .int (I a i.toNatClampNeg)) C.1 C.2.1 (arr_of (t := 0) hR hs) ((C.2.2.2.2.2.2.2.2.1.2 0 _ (tyL_at (by decide))).1 ln _) (fun q => by cases q) (by rw [arrV_size]; exact hin) (by rw [arrV_read _ _ hlt]; rfl) rfl rfl hd (kk w p l e s m args below meth c C H locs ls hR hl)
theorem v_zald {a ln j : Nat} {i : Int32} (hs : S.1 a = some (21, ln)) (hj : ix i j ln) (hd : decode cc pc = .ok (.baload, 1)) (hn : pc + 1 = n) (kk : V own cc nL ret nm ro R Qf cells slots n al (.int (I a j) :: st) S I) : V own cc nL ret nm ro R Qf cells slots pc al (.int i :: .ref a :: st) S I := by
  subst hn
  intro w p l e s m args below meth c C H locs ls hR hl
  have hlt := hj.lt
  obtain ⟨hin, rfl⟩ := hj
  exact W.zald (v := .int (I a i.toNatClampNeg)) C.1 C.2.1 (arr_of (t := 1) hR hs) ((C.2.2.2.2.2.2.2.2.1.2 1 _ (tyL_at (by decide))).1 ln _) (fun q => by cases q) (by rw [arrV_size]; exact hin) (by rw [arrV_read _ _ hlt]; rfl) rfl rfl hd (kk w p l e s m args below meth c C H locs ls hR hl)
theorem v_cald {a ln j : Nat} {i : Int32} (hs : S.1 a = some (22, ln)) (hj : ix i j ln) (hd : decode cc pc = .ok (.caload, 1)) (hn : pc + 1 = n) (kk : V own cc nL ret nm ro R Qf cells slots n al (.int (I a j) :: st) S I) : V own cc nL ret nm ro R Qf cells slots pc al (.int i :: .ref a :: st) S I := by
  subst hn
  intro w p l e s m args below meth c C H locs ls hR hl
  have hlt := hj.lt
  obtain ⟨hin, rfl⟩ := hj
  exact W.cald (v := .int (I a i.toNatClampNeg)) C.1 C.2.1 (arr_of (t := 2) hR hs) ((C.2.2.2.2.2.2.2.2.1.2 2 _ (tyL_at (by decide))).1 ln _) (fun q => by cases q) (by rw [arrV_size]; exact hin) (by rw [arrV_read _ _ hlt]; rfl) rfl rfl hd (kk w p l e s m args below meth c C H locs ls hR hl)
theorem aty_ref : ∀ t, 3 ≤ t → (aty t).isReference = true
  | 0, h => absurd h (by decide)
  | 1, h => absurd h (by decide)
  | 2, h => absurd h (by decide)
  | 3, _ => rfl
  | 4, _ => rfl
  | 5, _ => rfl
  | _ + 6, _ => rfl
theorem v_aald {a ln j t : Nat} {i : Int32} {v : Value} (ht : 3 ≤ t ∧ t < 7) (hs : S.1 a = some (20 + t, ln)) (hj : ix i j ln) (hv : S.2.1 a j = v) (hd : decode cc pc = .ok (.aaload, 1)) (hn : pc + 1 = n) (kk : V own cc nL ret nm ro R Qf cells slots n al (v :: st) S I) : V own cc nL ret nm ro R Qf cells slots pc al (.int i :: .ref a :: st) S I := by
  subst hn
  subst hv
  intro w p l e s m args below meth c C H locs ls hR hl
  have hlt := hj.lt
  obtain ⟨hin, rfl⟩ := hj
  exact W.aald (v := S.2.1 a i.toNatClampNeg) C.1 C.2.1 (arr_of hR hs) ((C.2.2.2.2.2.2.2.2.1.2 t _ (tyL_at ht.2)).1 ln _) (aty_ref t ht.1) (fun q => by cases q) (by rw [arrV_size]; exact hin) (by rw [arrV_read _ _ hlt]; unfold av; rw [if_pos ht.1]) rfl rfl hd (kk w p l e s m args below meth c C H locs ls hR hl)
theorem v_alen {a ln t : Nat} (ht : t < 7) (hs : S.1 a = some (20 + t, ln)) (hd : decode cc pc = .ok (.arraylength, 1)) (hn : pc + 1 = n) (kk : V own cc nL ret nm ro R Qf cells slots n al (.int (nI ln) :: st) S I) : V own cc nL ret nm ro R Qf cells slots pc al (.ref a :: st) S I := by
  subst hn
  intro w p l e s m args below meth c C H locs ls hR hl
  exact W.alen (n := nI ln) C.1 C.2.1 (arr_of hR hs) ((C.2.2.2.2.2.2.2.2.1.2 t _ (tyL_at ht)).1 ln _) (by rw [arrV_size]; rfl) rfl rfl hd (kk w p l e s m args below meth c C H locs ls hR hl)
/-- the array behind a store -/
theorem arrI_set {w : Wd} {H H1 : Heap} {locs : List Loc} {a ln j : Nat} {x : Int32} {t : Nat} (ht : t < 3) (hR : Rep w S I H locs) (hs : S.1 a = some (20 + t, ln)) (h1 : H1[a]? = some ((arrV (w.2.1 t) ln (av S I t a)).setSlot j (.int x))) (hz : H1.size = H.size) (ho : ∀ q : Nat, q ≠ a → H1[q]? = H[q]?) : Rep w S (setI I a j x) H1 (locs ++ [⟨a, j⟩]) := by
  refine rep_set (G' := S.2.1) hR hs hz ho (fun b hb => setI_ne hb) (fun _ _ => rfl) ⟨fun h => absurd h (by show ¬ 20 + t < 11; omega), fun _ => ?_⟩
  rw [h1, arrV_store]
  rw [show (20 + t, ln).1 - 20 = t by show 20 + t - 20 = t; omega]
  congr 2
  funext q
  by_cases hq : q = j
  · subst hq
    unfold av
    rw [if_neg (by omega)]
    simp [updV, setI]
  · unfold av
    rw [if_neg (by omega)]
    simp only [updV, if_neg hq, setI]
    rw [if_neg (by omega : ¬ 3 ≤ t)]
    simp [hq]
theorem v_iast {a ln j : Nat} {i x : Int32} (hs : S.1 a = some (20, ln)) (hj : ix i j ln) (hd : decode cc pc = .ok (.iastore, 1)) (hn : pc + 1 = n) (kk : V own cc nL ret nm ro R Qf cells slots n al st S (setI I a j x)) : V own cc nL ret nm ro R Qf cells slots pc al (.int x :: .int i :: .ref a :: st) S I := by
  subst hn
  intro w p l e s m args below meth c C H locs ls hR hl
  obtain ⟨hin, rfl⟩ := hj
  exact W.iast C.1 C.2.1 (arr_of (t := 0) hR hs) ((C.2.2.2.2.2.2.2.2.1.2 0 _ (tyL_at (by decide))).1 ln _) (fun q => by cases q) (by rw [arrV_size]; exact hin) rfl rfl hd (fun H1 e1 e2 e3 => kk w p l e s m args below meth c C H1 _ ls (arrI_set (t := 0) (by decide) hR hs e1 e2 e3) hl)
theorem v_zast {a ln j : Nat} {i x : Int32} (hs : S.1 a = some (21, ln)) (hj : ix i j ln) (hx : x = 0 ∨ x = 1) (hd : decode cc pc = .ok (.bastore, 1)) (hn : pc + 1 = n) (kk : V own cc nL ret nm ro R Qf cells slots n al st S (setI I a j x)) : V own cc nL ret nm ro R Qf cells slots pc al (.int x :: .int i :: .ref a :: st) S I := by
  subst hn
  intro w p l e s m args below meth c C H locs ls hR hl
  obtain ⟨hin, rfl⟩ := hj
  exact W.zast C.1 C.2.1 (arr_of (t := 1) hR hs) ((C.2.2.2.2.2.2.2.2.1.2 1 _ (tyL_at (by decide))).1 ln _) (fun q => by cases q) (by rw [arrV_size]; exact hin) rfl rfl hd (fun H1 e1 e2 e3 => kk w p l e s m args below meth c C H1 _ ls (arrI_set (t := 1) (by decide) hR hs (by rw [(bool_nar hx).1] at e1; exact e1) e2 e3) hl)
theorem v_cast {a ln j : Nat} {i x : Int32} (hs : S.1 a = some (22, ln)) (hj : ix i j ln) (hx : narrow .char (.int x) = .int x) (hd : decode cc pc = .ok (.castore, 1)) (hn : pc + 1 = n) (kk : V own cc nL ret nm ro R Qf cells slots n al st S (setI I a j x)) : V own cc nL ret nm ro R Qf cells slots pc al (.int x :: .int i :: .ref a :: st) S I := by
  subst hn
  intro w p l e s m args below meth c C H locs ls hR hl
  obtain ⟨hin, rfl⟩ := hj
  exact W.cast C.1 C.2.1 (arr_of (t := 2) hR hs) ((C.2.2.2.2.2.2.2.2.1.2 2 _ (tyL_at (by decide))).1 ln _) (fun q => by cases q) (by rw [arrV_size]; exact hin) rfl rfl hd (fun H1 e1 e2 e3 => kk w p l e s m args below meth c C H1 _ ls (arrI_set (t := 2) (by decide) hR hs (by rw [hx] at e1; exact e1) e2 e3) hl)
theorem arrG_set {w : Wd} {H H1 : Heap} {locs : List Loc} {a ln j : Nat} {v : Value} {t : Nat} (ht : 3 ≤ t) (hR : Rep w S I H locs) (hs : S.1 a = some (20 + t, ln)) (h1 : H1[a]? = some ((arrV (w.2.1 t) ln (av S I t a)).setSlot j v)) (hz : H1.size = H.size) (ho : ∀ q : Nat, q ≠ a → H1[q]? = H[q]?) : Rep w (S.1, setG S.2.1 a j v, S.2.2) I H1 (locs ++ [⟨a, j⟩]) := by
  refine rep_set hR hs hz ho (fun _ _ => rfl) (fun b hb => setG_ne hb) ⟨fun h => absurd h (by show ¬ 20 + t < 11; omega), fun _ => ?_⟩
  rw [h1, arrV_store]
  rw [show (20 + t, ln).1 - 20 = t by show 20 + t - 20 = t; omega]
  congr 2
  funext q
  by_cases hq : q = j
  · subst hq
    unfold av
    rw [if_pos ht]
    simp [updV, setG]
  · unfold av
    rw [if_pos ht]
    simp only [updV, if_neg hq, setG]
    rw [if_pos ht]
    simp [hq]
theorem aty_obj : ∀ t, 3 ≤ t → t < 7 → aty t = .object (fC (aci t)).1 := by
  intro t h1 h2
  rcases (show t = 3 ∨ t = 4 ∨ t = 5 ∨ t = 6 by omega) with rfl | rfl | rfl | rfl <;> rfl
theorem aci_lt : ∀ t, aci t < 11 := fun t => by unfold aci; split <;> decide
theorem v_aast {a ln j t b lb : Nat} {i : Int32} (ht : 3 ≤ t ∧ t < 7) (hs : S.1 a = some (20 + t, ln)) (hj : ix i j ln) (hb : S.1 b = some (aci t, lb)) (hd : decode cc pc = .ok (.aastore, 1)) (hn : pc + 1 = n) (kk : V own cc nL ret nm ro R Qf cells slots n al st (S.1, setG S.2.1 a j (.ref b), S.2.2) I) : V own cc nL ret nm ro R Qf cells slots pc al (.ref b :: .int i :: .ref a :: st) S I := by
  subst hn
  intro w p l e s m args below meth c C H locs ls hR hl
  have hlt := hj.lt
  obtain ⟨hin, rfl⟩ := hj
  have hK := C.2.2.2.2.2.2.2.2.1
  obtain ⟨cellV, g1, g2, g3, -⟩ := (hR.1.2.2.2 b _ hb).2.1 (aci_lt t)
  have hcls := (hK.1 (aci t) _ (fC_at _ (aci_lt t))).2
  have hra := (hK.2 t _ (tyL_at ht.2)).2
  rw [show (w.2.1 t, aty t).2 = .object (fC (aci t)).1 from aty_obj t ht.1 ht.2] at hra
  obtain ⟨kA, comp, k1, k2, k3, -⟩ := hra
  have hcomp : comp = w.1.1 (aci t) := Option.some.inj (k3.symm.trans hcls.1)
  subst hcomp
  obtain ⟨kC, hkC, -⟩ := hcls.2
  exact W.aast C.1 C.2.1 (arr_of hR hs) (fun q h => by cases h) (fun h => by cases h) k1 k2 rfl hkC ⟨fun q => hin (Or.inl q), by rw [arrV_size]; exact hlt⟩ g1 (fun q h => by rw [g3] at h; cases h) (by rw [g2]; exact hkC) (by rw [g2]; exact va_assign hcls) rfl rfl hd (fun H1 e1 e2 e3 => kk w p l e s m args below meth c C H1 _ ls (arrG_set ht.1 hR hs e1 e2 e3) hl)
theorem v_aastN {a ln j t : Nat} {i : Int32} (ht : 3 ≤ t ∧ t < 7) (hs : S.1 a = some (20 + t, ln)) (hj : ix i j ln) (hd : decode cc pc = .ok (.aastore, 1)) (hn : pc + 1 = n) (kk : V own cc nL ret nm ro R Qf cells slots n al st (S.1, setG S.2.1 a j .null, S.2.2) I) : V own cc nL ret nm ro R Qf cells slots pc al (.null :: .int i :: .ref a :: st) S I := by
  subst hn
  intro w p l e s m args below meth c C H locs ls hR hl
  obtain ⟨hin, rfl⟩ := hj
  have hK := C.2.2.2.2.2.2.2.2.1
  have harr := (hK.2 t _ (tyL_at ht.2)).1 ln (av S I t a)
  rw [show (w.2.1 t, aty t).2 = .object (fC (aci t)).1 from aty_obj t ht.1 ht.2] at harr
  exact va_WaastN C.1 C.2.1 (arr_of hR hs) harr (fun h => by cases h) (by rw [arrV_size]; exact hin) rfl rfl hd (fun H1 e1 e2 e3 => kk w p l e s m args below meth c C H1 _ ls (arrG_set ht.1 hR hs e1 e2 e3) hl)
end HEAP
