/-! ===== the working layer: a heap by functions (shapes, ints, references), a frame by lists; V: 'from this frame the method comes to its end'; Ok: a method's contract ===== -/
def GW : List Cond := lw_tbl.filter goodWord
theorem mem_gw {w : Cond} (i : Nat) (h : lw_tbl[i]? = some w) (g : goodWord w = true) : w ∈ GW := List.mem_filter.mpr ⟨List.mem_of_getElem? h, g⟩
theorem gw_good {w : Cond} (h : w ∈ GW) : (w.onTables && w.keeps) = true ∨ ∃ ty, w = .arrayClass ty := good_of_word (List.mem_filter.mp h).2
theorem gw_in : GoodIn GW GW := fun w h => ⟨h, gw_good h⟩
abbrev Sh : Type := Nat → Option (Nat × Nat)
abbrev Gr : Type := Nat → Nat → Value
abbrev In : Type := Nat → Nat → Int32
/-- shapes, references, the next address -/
abbrev St : Type := Sh × Gr × Nat
/-- what stands ahead and is never written: the table ABOVE; the script; the String constants, their bytes -/
abbrev Ro : Type := Nat × (Nat × Nat × (Nat → Int32)) × (Nat → Nat) × (Nat → Nat)
abbrev Wd : Type := va_G × (Nat → ClassId) × Heap
abbrev wA (w : Wd) : Nat → Prop := fun q => w.2.2.size ≤ q
def fC (ci : Nat) : vw_C := vwCl.getD ci ("", TX1, 0)
def fty (ci : Nat) : Nat → FieldType := match ci with
  | 0 => tyX0
  | 1 => tyX2
  | 2 => tyX3
  | 3 => tyX4
  | 4 => tyX5
  | 5 => tyX6
  | 6 => tyX7
  | 7 => tyX8
  | 8 => tyX9
  | 9 => tyX10
  | _ => tyX11
def isR (ci k : Nat) : Bool := (fty ci k).isReference
def aty (t : Nat) : FieldType := match t with
  | 0 => .int
  | 1 => .boolean
  | 2 => .char
  | 3 => .object RX9
  | 4 => .object RX2
  | 5 => .object RX6
  | _ => .object RX7
/-- the class of an array's objects, by the array's kind -/
def aci (t : Nat) : Nat := match t with
  | 3 => 8
  | 4 => 1
  | 5 => 5
  | _ => 6
def tyL (TA : Nat → ClassId) : List (ClassId × FieldType) := (List.range 7).map fun t => (TA t, aty t)
def aboveT (j : Nat) : Int32 := match j with
  | 0 => -1
  | 3 => 1
  | 4 => 2
  | _ => 0
def strTx (i : Nat) : String := match i with
  | 0 => "sizegivefine"
  | 1 => "wl"
  | 2 => "wsd"
  | _ => "wb"
def strIx (i : Nat) : Nat := match i with
  | 0 => 79
  | 1 => 87
  | 2 => 89
  | _ => 91
def strBy : List (List Int32) := [[115, 105, 122, 101, 103, 105, 118, 101, 102, 105, 110, 101], [119, 108], [119, 115, 100], [119, 98]]
def strLen : List Nat := [12, 2, 3, 2]
def nestL : List (String × Nat × MethodName × String) := [("SnowOwed", 9, ⟨"SnowOwed$Village", "<init>", "()V"⟩, "SnowOwed"), ("SnowOwed$Village", 11, ⟨"SnowOwed$Ring", "<init>", "()V"⟩, "SnowOwed"), ("SnowOwed$Paths", 31, ⟨"SnowOwed$Village", "<init>", "()V"⟩, "SnowOwed"), ("SnowOwed", 32, ⟨"SnowOwed$Tape", "<init>", "()V"⟩, "SnowOwed"), ("SnowOwed", 39, ⟨"SnowOwed$Reader", "<init>", "()V"⟩, "SnowOwed"), ("SnowOwed", 70, ⟨"SnowOwed$Sheet", "<init>", "()V"⟩, "SnowOwed"), ("SnowOwed", 71, ⟨"SnowOwed$Slot", "<init>", "()V"⟩, "SnowOwed"), ("SnowOwed$Slot", 11, ⟨"SnowOwed$Sheet", "<init>", "()V"⟩, "SnowOwed"), ("SnowOwed$Village", 71, ⟨"SnowOwed", "held", "(II)I"⟩, "SnowOwed")]
/-- what the tables and the old heap say, of a state -/
def KK (w : Wd) (ro : Ro) (U : State) : Prop :=
  va_K w.1 vwCl (tyL w.2.1) U ∧ (∀ t, 3 ≤ t → t < 7 → va_AO (fC (aci t)).1 U) ∧ (∀ q ∈ nestL, va_Nw (.methodLinkNest q.1 q.2.1 q.2.2.1 q.2.2.2) U) ∧
  va_X ro.2.1.1 ro.2.1.2.1 ro.2.1.2.2 U w.2.2 ∧ va_Z "SnowOwed$Kinds" "ABOVE" "[I" (.ref ro.1) (wA w) U w.2.2 ∧ va_T .int ro.1 6 (fun j => .int (aboveT j)) (wA w) U w.2.2 ∧
  vk_S 4 strLen strBy ro.2.2.1 ro.2.2.2 (wA w) U w.2.2 ∧ (∀ i, i < 4 → vk_R RX4 (strIx i) (strTx i) (ro.2.2.1 i) U) ∧ va_Z "java/lang/String" "COMPACT_STRINGS" "Z" (.int 1) (wA w) U w.2.2 ∧ va_Zq "jdk/internal/util/Preconditions" "SIOOBE_FORMATTER" "Ljava/util/function/BiFunction;" (wA w) U w.2.2
theorem KK.warm {w : Wd} {ro : Ro} {s U : State} (hW : s.WarmedH U.vm) (h : KK w ro s) : KK w ro U := by
  obtain ⟨h1, h2, h3, h4, h5, h6, h7, h8, h9, h10⟩ := h
  exact ⟨h1.moved hW.alike, fun t a b => (h2 t a b).moved hW.alike, fun q hq => (h3 q hq).warmM hW, h4.moved hW.alike, h5.moved hW.alike, h6.moved hW.alike, h7.moved hW.alike, fun i hi => (h8 i hi).warm hW, h9.moved hW.alike, h10.moved hW.alike⟩
theorem KK.same {w : Wd} {ro : Ro} {s U : State} (hv : U.vm = s.vm) (h : KK w ro s) : KK w ro U := by
  obtain ⟨h1, h2, h3, h4, h5, h6, h7, h8, h9, h10⟩ := h
  have ha : s.vm.Alike U.vm := hv ▸ Vm.Alike.refl s.vm
  exact ⟨h1.moved ha, fun t a b => (h2 t a b).moved ha, fun q hq => (h3 q hq).same rfl hv.symm, h4.moved ha, h5.moved ha, h6.moved ha, h7.moved ha, fun i hi => (h8 i hi).same hv, h9.moved ha, h10.moved ha⟩
def fv (S : St) (I : In) (ci a k : Nat) : Value := if isR ci k = true then S.2.1 a k else .int (I a k)
def av (S : St) (I : In) (t a j : Nat) : Value := if 3 ≤ t then S.2.1 a j else .int (I a j)
/-- a cell: an object of a class (its number in vwCl, below 11), an array (20 and its kind, its length) -/
def cellOk (w : Wd) (S : St) (I : In) (H : Heap) (a : Nat) (q : Nat × Nat) : Prop :=
  (q.1 < 11 → t_OB a (w.1.1 q.1) (fC q.1).2.2 (w.1.2 q.1) H (fv S I q.1 a)) ∧ (11 ≤ q.1 → H[a]? = some (arrV (w.2.1 (q.1 - 20)) q.2 (av S I (q.1 - 20) a)))
def RepH (w : Wd) (S : St) (I : In) (H : Heap) : Prop :=
  w.2.2.size ≤ H.size ∧ (∀ q : Nat, q < w.2.2.size → H[q]? = w.2.2[q]?) ∧ H.size = S.2.2 ∧ ∀ (a : Nat) (q : Nat × Nat), S.1 a = some q → wA w a ∧ cellOk w S I H a q
def Rep (w : Wd) (S : St) (I : In) (H : Heap) (locs : List Loc) : Prop := RepH w S I H ∧ ∀ q ∈ locs, wA w q.base
theorem Rep.S {w : Wd} {S : St} {I : In} {H : Heap} {locs : List Loc} (h : Rep w S I H locs) : va_S (wA w) w.2.2 H locs := ⟨h.1.1, fun q h1 _ => h.1.2.1 q h1, h.2⟩
theorem cell_lt {w : Wd} {S : St} {I : In} {H : Heap} {a : Nat} {q : Nat × Nat} (h : cellOk w S I H a q) : a < H.size := by
  by_cases h1 : q.1 < 11
  · obtain ⟨cell, h2, -⟩ := h.1 h1
    exact (Array.getElem?_eq_some_iff.mp h2).1
  · exact (Array.getElem?_eq_some_iff.mp (h.2 (by omega))).1
theorem cell_kept {w : Wd} {S S' : St} {I I' : In} {H H1 : Heap} {a : Nat} {q : Nat × Nat} (h : cellOk w S I H a q) (h1 : H1[a]? = H[a]?) (hG : S'.2.1 a = S.2.1 a) (hI : I' a = I a) : cellOk w S' I' H1 a q := by
  refine ⟨fun hq => ?_, fun hq => ?_⟩
  · exact ((h.1 hq).kept h1).to (fun k _ => by unfold fv; rw [hG, hI])
  · rw [h1, h.2 hq]
    congr 2
    funext j
    unfold av
    rw [hG, hI]
/-- a place of the ints, of the references, is written -/
def setI (I : In) (a k : Nat) (x : Int32) : In := fun b j => if b = a ∧ j = k then x else I b j
def setG (G : Gr) (a k : Nat) (x : Value) : Gr := fun b j => if b = a ∧ j = k then x else G b j
theorem setI_ne {I : In} {a b k : Nat} {x : Int32} (h : b ≠ a) : setI I a k x b = I b := by
  funext j
  exact if_neg (fun q => h q.1)
theorem setG_ne {G : Gr} {a b k : Nat} {x : Value} (h : b ≠ a) : setG G a k x b = G b := by
  funext j
  exact if_neg (fun q => h q.1)
/-- the heap behind a change of one cell -/
theorem rep_set {w : Wd} {S : St} {I I' : In} {G' : Gr} {H H1 : Heap} {locs : List Loc} {a k : Nat} {q : Nat × Nat} (hR : Rep w S I H locs) (hs : S.1 a = some q) (hz : H1.size = H.size) (ho : ∀ x : Nat, x ≠ a → H1[x]? = H[x]?)
    (hI : ∀ b, b ≠ a → I' b = I b) (hG : ∀ b, b ≠ a → G' b = S.2.1 b) (hc : cellOk w (S.1, G', S.2.2) I' H1 a q) : Rep w (S.1, G', S.2.2) I' H1 (locs ++ [⟨a, k⟩]) := by
  obtain ⟨⟨r1, r2, r3, r4⟩, r5⟩ := hR
  have hA := (r4 a q hs).1
  refine ⟨⟨by rw [hz]; exact r1, fun x hx => ?_, by rw [hz]; exact r3, fun b p hp => ?_⟩, fun x hx => ?_⟩
  · have : a ≠ x := fun e => Nat.not_le.mpr (e ▸ hx) hA
    rw [ho x (Ne.symm this)]
    exact r2 x hx
  · by_cases hb : b = a
    · subst hb
      cases hs.symm.trans hp
      exact ⟨hA, hc⟩
    · exact ⟨(r4 b p hp).1, cell_kept (r4 b p hp).2 (ho b hb) (hG b hb) (hI b hb)⟩
  · rcases List.mem_append.mp hx with h | h
    · exact r5 x h
    · rw [List.mem_singleton.mp h]
      exact hA
/-- locals by a list; 'retAddr' stands for what isn't known -/
def junk (v : Value) : Bool := match v with
  | .retAddr _ => true
  | _ => false
abbrev JJ : Value := .retAddr 0
def prsF : Nat → List Value → List (Nat × Value)
  | _, [] => []
  | i, v :: vs => cond (junk v) (prsF (i + 1) vs) ((i, v) :: prsF (i + 1) vs)
def prs (al : List Value) : List (Nat × Value) := prsF 0 al
theorem mem_prsF {i : Nat} {v : Value} : ∀ (al : List Value) (n : Nat), (i, v) ∈ prsF n al ↔ ∃ j, i = n + j ∧ al[j]? = some v ∧ junk v = false
  | [], n => by simp [prsF]
  | x :: al, n => by
    have ih := mem_prsF (i := i) (v := v) al (n + 1)
    have hx : (∃ j, i = n + j ∧ (x :: al)[j]? = some v ∧ junk v = false) ↔ (i = n ∧ x = v ∧ junk v = false) ∨ ∃ j, i = n + 1 + j ∧ al[j]? = some v ∧ junk v = false := by
      constructor
      · rintro ⟨j, h1, h2, h3⟩
        cases j with
        | zero => exact Or.inl ⟨h1, by simpa using h2, h3⟩
        | succ j => exact Or.inr ⟨j, by omega, by simpa using h2, h3⟩
      · rintro (⟨h1, h2, h3⟩ | ⟨j, h1, h2, h3⟩)
        · exact ⟨0, h1, by simpa using h2, h3⟩
        · exact ⟨j + 1, by omega, by simpa using h2, h3⟩
    rw [hx]
    cases hj : junk x with
    | true =>
      simp only [prsF, hj, cond_true, ih]
      constructor
      · exact Or.inr
      · rintro (⟨-, rfl, h⟩ | h)
        · rw [hj] at h; cases h
        · exact h
    | false =>
      simp only [prsF, hj, cond_false, List.mem_cons, ih]
      constructor
      · rintro (h | h)
        · cases h; exact Or.inl ⟨rfl, rfl, hj⟩
        · exact Or.inr h
      · rintro (⟨rfl, rfl, -⟩ | h)
        · exact Or.inl rfl
        · exact Or.inr h
theorem mem_prs {i : Nat} {v : Value} {al : List Value} : (i, v) ∈ prs al ↔ al[i]? = some v ∧ junk v = false := by
  rw [prs, mem_prsF]
  simp
theorem prs_get {ls : Array Slot} {nL i : Nat} {v : Value} {al : List Value} (h : lv_has ls nL (prs al)) (hi : al[i]? = some v) (hv : junk v = false) : ls[i]? = some (.val v) := h.2.2 (i, v) (mem_prs.mpr ⟨hi, hv⟩)
/-- the place ahead doesn't hold a long, as far as is known -/
def nlong (al : List Value) (k : Nat) : Bool := match k with
  | 0 => true
  | k + 1 => match al[k]? with
    | some v => v.category == 1
    | none => true
theorem prs_set {ls : Array Slot} {nL k : Nat} {v : Value} {al : List Value} (hn : nlong al k = true) (hv : junk v = false) (hk : k < al.length)
    (h : lv_has ls nL ((k, v) :: (prs al).filter (fun q => !(q.1 == k) && !(q.1 + 1 == k && q.2.category == 2)))) : lv_has ls nL (prs (al.set k v)) := by
  refine ⟨h.1, h.2.1, fun q hq => ?_⟩
  obtain ⟨i, x⟩ := q
  obtain ⟨h1, h2⟩ := mem_prs.mp hq
  by_cases hi : i = k
  · subst hi
    rw [List.getElem?_set_self hk] at h1
    cases h1
    exact h.2.2 _ List.mem_cons_self
  · rw [List.getElem?_set_ne (fun e => hi e.symm)] at h1
    refine h.2.2 (i, x) (List.mem_cons_of_mem _ (List.mem_filter.mpr ⟨mem_prs.mpr ⟨h1, h2⟩, ?_⟩))
    by_cases h3 : i + 1 = k
    · subst h3
      simp only [nlong, h1] at hn
      simp at hn
      simp [hn]
    · simp [hi, h3]
theorem prs_set2 {ls : Array Slot} {nL k : Nat} {v : Value} {al : List Value} (hn : nlong al k = true) (hv : junk v = false) (hk : k < al.length)
    (h : lv_has ls nL ((k, v) :: (prs al).filter (fun q => !(q.1 == k) && (!(q.1 == k + 1) && !(q.1 + 1 == k && q.2.category == 2))))) : lv_has ls nL (prs ((al.set k v).set (k + 1) JJ)) := by
  refine ⟨h.1, h.2.1, fun q hq => ?_⟩
  obtain ⟨i, x⟩ := q
  obtain ⟨h1, h2⟩ := mem_prs.mp hq
  by_cases h4 : i = k + 1
  · subst h4
    by_cases h5 : k + 1 < (al.set k v).length
    · rw [List.getElem?_set_self h5] at h1
      cases h1
      cases h2
    · rw [List.getElem?_eq_none (by simp at h5 ⊢; omega)] at h1
      cases h1
  · rw [List.getElem?_set_ne (fun e => h4 e.symm)] at h1
    by_cases hi : i = k
    · subst hi
      rw [List.getElem?_set_self hk] at h1
      cases h1
      exact h.2.2 _ List.mem_cons_self
    · rw [List.getElem?_set_ne (fun e => hi e.symm)] at h1
      refine h.2.2 (i, x) (List.mem_cons_of_mem _ (List.mem_filter.mpr ⟨mem_prs.mpr ⟨h1, h2⟩, ?_⟩))
      by_cases h3 : i + 1 = k
      · subst h3
        simp only [nlong, h1] at hn
        simp at hn
        simp [hn, h4]
      · simp [hi, h3, h4]
/-- what a method's walk has at hand -/
def Cx (own : String) (cc : ByteArray) (nL : Nat) (ret : Option FieldType) (nm : String) (ro : Ro) (w : Wd) (p : Program) (s : State) (m : MethodId) (args : Array Value) (meth : Method) (c : Code) : Prop :=
  p.tables.exec = Jvm.exec ∧ c.code = cc ∧ c.maxLocals = nL ∧ meth.sig.returnType = ret ∧ meth.name = nm ∧ meth.locks = false ∧ s.vm.findClass own = some m.cls ∧ (∀ x ∈ GW, x.before args s = true) ∧ KK w ro s
def V (own : String) (cc : ByteArray) (nL : Nat) (ret : Option FieldType) (nm : String) (ro : Ro) (R : Room) (Qf : Wd → List Frame → Array Value → State → State → Prop) (cells slots pc : Nat) (al st : List Value) (S : St) (I : In) : Prop :=
  ∀ (w : Wd) (p : Program) (l : Launch) (e : Env) (s : State) (m : MethodId) (args : Array Value) (below : List Frame) (meth : Method) (c : Code), Cx own cc nL ret nm ro w p s m args meth c →
    ∀ (H : Heap) (locs : List Loc) (ls : Array Slot), Rep w S I H locs → lv_has ls nL (prs al) → W p l e R s m args below meth c H locs cells slots (Qf w below args s) (F0 m pc ls st)
abbrev Mth : Type := MethodName × ByteArray × Nat × Option FieldType
def rmD (d mc ms : Nat) : Room := { frames := d, cells := mc, slots := ms, locals := 64 * d }
def QcM (w : Wd) (Q : Option Value → St → In → Prop) : Array Value → State → Outcome → State → Prop := fun _ _ o t => ∃ r S I, o = .returned r ∧ Q r S I ∧ RepH w S I t.heap
/-- how a method of ours ends -/
def QM (mc ms : Nat) (Q : Option Value → St → In → Prop) : Wd → List Frame → Array Value → State → State → Prop := fun w below args s => MQ below (QcM w Q) args s mc ms (wA w)
/-- a method's contract: from these arguments and this heap it comes to its end, with Q; at most mc cells of ms slots are new; calls that stand open at once: d at most -/
def Ok (m : Mth) (ro : Ro) (d mc ms : Nat) (args : List Value) (S : St) (I : In) (Q : Option Value → St → In → Prop) : Prop :=
  ∀ (l : Launch) (w : Wd), Met l m.1 (Cond.code m.1 m.2.1 m.2.2.1 m.2.2.2 :: GW) (rmD d mc ms) (va_Pc args (fun U => RepH w S I U.heap ∧ KK w ro U)) (QcM w Q) mc ms (wA w)
theorem ok_of {y : MethodName} {cc : ByteArray} {nL : Nat} {ret : Option FieldType} {ro : Ro} {d mc ms : Nat} {args al : List Value} {S : St} {I : In} {Q : Option Value → St → In → Prop} (hy : plainName y.cls = true) (hlen : (lg_sl args).length ≤ nL) (hal : prs al = lv_args 0 args)
    (h : V y.cls cc nL ret y.name ro (rmD d mc ms) (QM mc ms Q) 0 0 0 al [] S I) : Ok (y, cc, nL, ret) ro d mc ms args S I Q := by
  intro l w
  refine Met.ofW (cc := cc) (maxL := nL) (ret := ret) hy rfl ?_
  intro p e s m args' below meth c s₁ B hml hv
  obtain ⟨rfl, hR, hK⟩ := hv
  have hl := lv_entry args (n := nL) hlen
  rw [lg_entry_eq]
  refine h w p l e s m _ below meth c ⟨B.exec, B.bytes, hml, B.returns, (name_of_methodNamed B.named B.method).1, B.notSynchronized, findClass_of_methodNamed B.named, fun x hx => atoms_spec B.pre x (List.mem_cons_of_mem _ hx), hK⟩ s.heap [] _ ⟨hR, fun q hq => by cases hq⟩ ?_
  rw [hal]
  exact hl
theorem Ok.mono {m : Mth} {ro : Ro} {d mc ms : Nat} {args : List Value} {S : St} {I : In} {Q Q' : Option Value → St → In → Prop} (h : Ok m ro d mc ms args S I Q) (hq : ∀ r S' I', Q r S' I' → Q' r S' I') : Ok m ro d mc ms args S I Q' := by
  intro l w p e ha hc hk s m' a below hf hfit hheap hpre
  obtain ⟨k, o, h1, h2, h3, ⟨r, S', I', e1, e2, e3⟩, h4⟩ := h l w p e ha hc hk s m' a below hf hfit hheap hpre
  exact ⟨k, o, h1, h2, h3, ⟨r, S', I', e1, hq _ _ _ e2, e3⟩, h4⟩
