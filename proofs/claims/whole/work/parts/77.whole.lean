/-! THE CLAIM OUT OF ONE WALK OF THE LAW'S BODY. Your part is whole_start (and what it stands on); all else here is the same for every law, but numbers. -/
def R_law : String := "SnowOwedLaw"
def lw_P (b : Addr) (xs : List Int32) (args : Array Value) (s : State) : Prop := args = #[.ref b] ∧ s.IntsAt b xs ∧ xs.length ≤ 384 ∧ (Jvm.Cond.and given_1 narrow_1).before args s = true
def lw_Q (_ : Array Value) (s : State) (o : Outcome) (t : State) : Prop := o = .returned (some (.int 1)) ∧ Framed s o t [] 600000 7302250
def lw_Z (below : List Frame) (a : Array Value) (s : State) : State → Prop := fun t => ∃ o, t.status = .running ∧ Ended t below o ∧ lw_Q a s o t
/-- the law's own end, with 1 on the stack, nothing written that was there before, its room as the claim has it -/
theorem lw_ret {p : Program} {l : Launch} {e : Env} {s : State} {m : MethodId} {below : List Frame} {meth : Method} {c : Code} {b : Nat} (hx : p.tables.exec = Jvm.exec) (hb : c.code = code) (hr : meth.sig.returnType = ret) (hlocks : meth.locks = false) {pc : Nat} {H : Heap} {ls : Array Slot} (hdg : decode code pc = .ok (.ireturn, 1)) : W p l e room_1 s m #[Value.ref b] below meth c H [] 600000 7302250 (lw_Z below #[Value.ref b] s) (F0 m pc ls [.int 1]) := by
  intro T hT X
  obtain ⟨fs, hret, hrun, hended, hW, hframe⟩ := X.leave (v := some (.int 1)) (hlocks := hlocks) (fun h => by rw [hr] at h; cases h)
  have hmeth' : T.vm.method? m = some meth := X.method'
  refine ⟨T.setFrames fs, ?_, .returned (some (.int 1)), hrun, hended, rfl, ⟨_, rfl⟩, hW, hframe⟩
  jvm_step X.here [X.here.top, hx, hb, hdg, hmeth', hr, ret, narrow_b1]
  (try refine ⟨rfl, ?_⟩); (try refine ⟨rfl, ?_⟩)
  first | (intro acts; rw [hret _ acts rfl rfl rfl]) | rw [hret _ _ rfl rfl rfl]
  exact Steps.refl _
/-- what holds at the law's entry: the machine, the code, the tables' words (any of lw_tbl by 'hts w (by decide +kernel)'), the script of L ints xs at the cell b, what the Statement gives of the start (any of its parts by flat_of_before) -/
def lw_At (p : Program) (s : State) (m : MethodId) (meth : Method) (c : Code) (b L : Nat) (xs : Nat → Int32) : Prop :=
  p.tables.exec = Jvm.exec ∧ c.code = code ∧ meth.sig.returnType = ret ∧ c.maxLocals = 4 ∧ s.vm.findClass R_law = some m.cls ∧ (∀ w ∈ lw_tbl, w.before #[Value.ref b] s = true) ∧ va_X b L xs s s.heap ∧ b < s.heap.size ∧ meth.locks = false ∧ (Jvm.Cond.and given_1 narrow_1).before #[Value.ref b] s = true
/-! ===== the law: its entry ===== -/
theorem w_room {p : Program} {l : Launch} {e : Env} {s : State} {m : MethodId} {args : Array Value} {below : List Frame} {meth : Method} {c : Code} {H : Heap} {locs : List Loc} {cells slots : Nat} {Q : State → Prop} {g : JFrame} (k : W p l e Rm s m args below meth c H locs cells slots Q g) : W p l e room_1 s m args below meth c H locs cells slots Q g := by
  intro T hT X
  have h := X.room
  have hr : s.hasRoom e.platform Rm = true := by
    have r1 : room_1.locals = 84000 := rfl
    have r2 : room_1.frames = 2048 := rfl
    have r3 : room_1.cells = 600000 := rfl
    have r4 : room_1.slots = 7302250 := rfl
    have q1 : Rm.locals = 12800 := rfl
    have q2 : Rm.frames = 200 := rfl
    have q3 : Rm.cells = 600000 := rfl
    have q4 : Rm.slots = 7302250 := rfl
    unfold State.hasRoom at h ⊢
    rw [r1, r2, r3, r4] at h
    rw [q1, q2, q3, q4]
    rw [Bool.and_eq_true, Bool.and_eq_true, Bool.and_eq_true, Bool.and_eq_true] at h ⊢
    obtain ⟨⟨⟨⟨h1, h2⟩, h7⟩, h8⟩, h9⟩ := h
    have h1 := of_decide_eq_true h1
    obtain ⟨g1, g2, g3, g4, g5⟩ := of_decide_eq_true h2
    exact ⟨⟨⟨⟨decide_eq_true (by omega), decide_eq_true ⟨by omega, by omega, by omega, by omega, g5⟩⟩, h7⟩, h8⟩, h9⟩
  exact k T hT ⟨X.admits, X.cas, X.clock, X.frames, hr, X.hears, X.method, X.code, X.here, X.tail, X.warmed, X.limits, X.bytes, X.same⟩
theorem lw_retR {p : Program} {l : Launch} {e : Env} {R : Room} {s : State} {m : MethodId} {args : Array Value} {below : List Frame} {meth : Method} {c : Code} (hx : p.tables.exec = Jvm.exec) (hb : c.code = code) (hr : meth.sig.returnType = ret) (hlocks : meth.locks = false) {pc : Nat} {H : Heap} {ls : Array Slot} (hdg : decode code pc = .ok (.ireturn, 1)) : W p l e R s m args below meth c H [] 600000 7302250 (lw_Z below args s) (F0 m pc ls [.int 1]) := by
  intro T hT X
  obtain ⟨fs, hret, hrun, hended, hW, hframe⟩ := X.leave (v := some (.int 1)) (hlocks := hlocks) (fun h => by rw [hr] at h; cases h)
  have hmeth' : T.vm.method? m = some meth := X.method'
  refine ⟨T.setFrames fs, ?_, .returned (some (.int 1)), hrun, hended, rfl, ⟨_, rfl⟩, hW, hframe⟩
  jvm_step X.here [X.here.top, hx, hb, hdg, hmeth', hr, ret, narrow_b1]
  (try refine ⟨rfl, ?_⟩); (try refine ⟨rfl, ?_⟩)
  first | (intro acts; rw [hret _ acts rfl rfl rfl]) | rw [hret _ _ rfl rfl rfl]
  exact Steps.refl _
def QfL : Wd → List Frame → Array Value → State → State → Prop := fun w below args s t => w.2.2 = s.heap → lw_Z below args s t
theorem la_end {nm : String} {ro : Ro} : ∀ cells slots al S I, cells ≤ 600000 → slots ≤ 7302250 → LW ret nm ro QfL cells slots 1402 al [.int 1] S I := by
  intro cells slots al S I h1 h2 w p l e s m args below meth c C H locs ls hR hl
  obtain ⟨hx, hb, hml, hr, -, hlocks, -, -, -⟩ := C
  by_cases hw : w.2.2 = s.heap
  · have k : W p l e Rm s m args below meth c H locs cells slots (lw_Z below args s) (F0 m 1402 ls [.int 1]) := by
      refine va_forget (fun q hq => by rw [← hw]; exact hR.2 q hq) ?_
      refine W.widen (k := 600000) (n := 7302250) h1 h2 ?_
      exact lw_retR hx hb hr hlocks dL_law_1402
    intro T hT X
    obtain ⟨t, a1, b1⟩ := k T hT X
    exact ⟨t, a1, fun _ => b1⟩
  · intro T hT X
    exact ⟨_, Steps.refl _, fun h => absurd h hw⟩
theorem arr_I {args : Array Value} {s : State} {ty : FieldType} (h : (Cond.arrayClass ty).before args s = true) : ∃ cA, ArrOfT s cA ty ∧ s.vm.findClass ("[" ++ ty.toString) = some cA := by
  obtain ⟨c, k, comp, h1, h2, h3⟩ := Cond.arrayClass_spec (args := args) (first := s) (o := none) (s := s) (idx := []) h
  exact ⟨c, fun n z => ⟨fun k h => (by cases h), k, h2, comp, h3⟩, h1⟩
theorem arr_O {args : Array Value} {s : State} {C : String} (h : (Cond.arrayOver (.object C)).before args s = true) : ∃ cA, ArrOfT s cA (.object C) ∧ va_RA s cA (.object C) := by
  obtain ⟨comp, c, k, h1, -, h2, h3, h4⟩ := Cond.arrayOver_spec (args := args) (first := s) (o := none) (s := s) (idx := []) h
  exact ⟨c, fun n z => ⟨fun k h => (by cases h), k, h2, comp, h3⟩, k, comp, h2, h3, h1, h4⟩
theorem in_all : ∀ c, c < 11 → Cond.instantiable (fC c).1 (fC c).2.2 ∈ GW
  | 0, _ => in_X0
  | 1, _ => in_X2
  | 2, _ => in_X3
  | 3, _ => in_X4
  | 4, _ => in_X5
  | 5, _ => in_X6
  | 6, _ => in_X7
  | 7, _ => in_X8
  | 8, _ => in_X9
  | 9, _ => in_X10
  | 10, _ => in_X11
  | n + 11, h => absurd h (by omega)
theorem kn_all {args : Array Value} {s : State} (hts : ∀ w ∈ GW, w.before args s = true) : ∃ D : va_G, ∀ (c : Nat) (q : vw_C), vwCl[c]? = some q → u_Kn s q.1 q.2.1 q.2.2 (D.1 c) (D.2 c) := by
  have h0 : ∀ c : Nat, ∃ d : ClassId × (Nat → Nat), c < 11 → u_Kn s (fC c).1 (fC c).2.1 (fC c).2.2 d.1 d.2 := by
    intro c
    by_cases h : c < 11
    · obtain ⟨cC, iS, hk⟩ := u_known hts (fC_in c h) (hts _ (in_all c h))
      exact ⟨(cC, iS), fun _ => hk⟩
    · exact ⟨(0, fun _ => 0), fun z => absurd z h⟩
  obtain ⟨d, hd⟩ := Classical.axiomOfChoice h0
  refine ⟨(fun c => (d c).1, fun c => (d c).2), fun c q hq => ?_⟩
  have hc : c < 11 := (List.getElem?_eq_some_iff.mp hq).1
  rw [fC_at c hc] at hq
  cases hq
  exact hd c hc
theorem ao_tbl : ∀ t, t < 7 → 3 ≤ t → Cond.arrayOver (.object (fC (aci t)).1) ∈ lw_tbl := by decide +kernel
theorem ty_all {args : Array Value} {s : State} (hts : ∀ w ∈ lw_tbl, w.before args s = true) : ∃ TA : Nat → ClassId, ∀ (k : Nat) (q : ClassId × FieldType), (tyL TA)[k]? = some q → ArrOfT s q.1 q.2 ∧ va_RA s q.1 q.2 := by
  have hG : ∀ w ∈ GW, w.before args s = true := fun w hw => hts w (List.mem_filter.mp hw).1
  have h0 : ∀ t : Nat, ∃ cA : ClassId, t < 7 → ArrOfT s cA (aty t) ∧ va_RA s cA (aty t) := by
    intro t
    by_cases h7 : t < 7
    · by_cases h3 : 3 ≤ t
      · obtain ⟨cA, a1, a2⟩ := arr_O (hts _ (ao_tbl t h7 h3))
        exact ⟨cA, fun _ => by rw [aty_obj t h3 h7]; exact ⟨a1, a2⟩⟩
      · rcases (show t = 0 ∨ t = 1 ∨ t = 2 by omega) with rfl | rfl | rfl
        · obtain ⟨cA, a1, a2⟩ := arr_I (hG _ ac_int)
          exact ⟨cA, fun _ => ⟨a1, a2⟩⟩
        · obtain ⟨cA, a1, a2⟩ := arr_I (hG _ ac_boolean)
          exact ⟨cA, fun _ => ⟨a1, a2⟩⟩
        · obtain ⟨cA, a1, a2⟩ := arr_I (hG _ ac_char)
          exact ⟨cA, fun _ => ⟨a1, a2⟩⟩
    · exact ⟨0, fun z => absurd z h7⟩
  obtain ⟨TA, hT⟩ := Classical.axiomOfChoice h0
  refine ⟨TA, fun k q hq => ?_⟩
  have hk : k < 7 := by
    have := (List.getElem?_eq_some_iff.mp hq).1
    simpa [tyL] using this
  rw [tyL_at hk] at hq
  cases hq
  exact hT k hk
theorem nest_tbl : (nestL.all fun q => decide (Cond.methodLinkNest q.1 q.2.1 q.2.2.1 q.2.2.2 ∈ lw_tbl) && (Cond.methodLinkNest q.1 q.2.1 q.2.2.1 q.2.2.2).onTables) = true := by decide +kernel
abbrev sT (i : Nat) : Term := .string RX4 (strIx i)
abbrev fl1 : List Cond := flatC (Jvm.Cond.and given_1 narrow_1)
abbrev aT : Term := .static "SnowOwed$Kinds" "ABOVE" "[I"
theorem fl_a : ∀ j, j < 6 → Cond.eq (.elem aT (.int (Int32.ofNat j))) (.int (aboveT j)) ∈ fl1 := by decide +kernel
theorem fl_s1 : ∀ i, i < 4 → Cond.exactly (sT i) "java/lang/String" ∈ fl1 := by decide +kernel
theorem fl_s2 : ∀ i, i < 4 → Cond.eq (.field (sT i) "java/lang/String" "coder" "B") (.int 0) ∈ fl1 := by decide +kernel
theorem fl_s3 : ∀ i, i < 4 → Cond.arrayOf (.field (sT i) "java/lang/String" "value" "[B") .byte ∈ fl1 := by decide +kernel
theorem fl_s4 : ∀ i, i < 4 → Cond.eq (.length (.field (sT i) "java/lang/String" "value" "[B")) (.int (Int32.ofNat (strLen.getD i 0))) ∈ fl1 := by decide +kernel
theorem fl_s5 : ∀ i, i < 4 → ∀ j, j < strLen.getD i 0 → Cond.eq (.elem (.field (sT i) "java/lang/String" "value" "[B") (.int (Int32.ofNat j))) (.int ((strBy.getD i []).getD j 0)) ∈ fl1 := by decide +kernel
theorem fl_s6 : ∀ i, i < 4 → ∀ j, j < 4 → i ≠ j → Cond.not (Cond.eq (sT i) (sT j)) ∈ fl1 ∨ Cond.not (Cond.eq (sT j) (sT i)) ∈ fl1 := by decide +kernel
theorem sr_tbl : ∀ i, i < 4 → Cond.stringRef RX4 (strIx i) (strTx i) ∈ lw_tbl := by decide +kernel
theorem kk_0 {args : Array Value} {s : State} {b L : Nat} {xs : Nat → Int32} (hts : ∀ w ∈ lw_tbl, w.before args s = true) (hX : va_X b L xs s s.heap) (hgv : (Jvm.Cond.and given_1 narrow_1).before args s = true) : ∃ (D : va_G) (TA : Nat → ClassId) (ab : Nat) (k1 k2 : Nat → Nat), KK (D, TA, s.heap) (ab, (b, L, xs), k1, k2) s := by
  have hG : ∀ w ∈ GW, w.before args s = true := fun w hw => hts w (List.mem_filter.mp hw).1
  have hs := flat_of_before _ hgv
  obtain ⟨D, hD⟩ := kn_all hG
  obtain ⟨TA, hT⟩ := ty_all hts
  have hA : ∀ a : Nat, a < s.heap.size → ¬ wA ((D, TA, s.heap) : Wd) a := fun a ha => Nat.not_le.mpr ha
  obtain ⟨ab, e1, t1⟩ := va_Tof (tm := aT) (ty := .int) (N := 6) (f := fun j => .int (aboveT j)) (by decide) (hs (Cond.arrayOf aT .int) (by decide +kernel)) (va_eqt (hs (Cond.eq (.length aT) (.int 6)) (by decide +kernel))) (fun j hj => va_eqt (hs _ (fl_a j hj))) hA
  obtain ⟨k1, k2, s1, s2⟩ := vk_Sof (N := 4) (tm := sT) (len := strLen) (byt := strBy) (by decide) (fun i hi => hs _ (fl_s1 i hi)) (fun i hi => hs _ (fl_s2 i hi)) (fun i hi => hs _ (fl_s3 i hi)) (fun i hi => hs _ (fl_s4 i hi)) (fun i hi j hj => hs _ (fl_s5 i hi j hj)) (fun i j hi hj hne => (fl_s6 i hi j hj hne).imp (hs _) (hs _)) hA
  refine ⟨D, TA, ab, k1, k2, ⟨hD, hT⟩, fun t h3 h7 => va_AO.of (hts _ (ao_tbl t h7 h3)), fun q hq => ?_, hX, va_Zof (hts (Cond.laysStatic "SnowOwed$Kinds" "ABOVE" "[I") (by decide +kernel)) (hts (Cond.initialized "SnowOwed$Kinds") (by decide +kernel)) e1 hA, t1, s1, fun i hi => vk_R.of (hts _ (sr_tbl i hi)) (s2 i hi), va_Zof (hts (Cond.laysStatic "java/lang/String" "COMPACT_STRINGS" "Z") (by decide +kernel)) (hts (Cond.initialized "java/lang/String") (by decide +kernel)) (va_eqt (hs (Cond.eq (.static "java/lang/String" "COMPACT_STRINGS" "Z") (.int 1)) (by decide +kernel))) hA, va_Zqof (hts (Cond.laysStatic "jdk/internal/util/Preconditions" "SIOOBE_FORMATTER" "Ljava/util/function/BiFunction;") (by decide +kernel)) (hts (Cond.initialized "jdk/internal/util/Preconditions") (by decide +kernel)) (hs (Cond.isRef (.static "jdk/internal/util/Preconditions" "SIOOBE_FORMATTER" "Ljava/util/function/BiFunction;")) (by decide +kernel)) hA⟩
  have := List.all_eq_true.mp nest_tbl q hq
  rw [Bool.and_eq_true, decide_eq_true_eq] at this
  exact va_Nw.of this.2 (hts _ this.1)
/-- from the entry, for every script of at most 384 ints, the law comes to its end with true -/
theorem whole_start {p : Program} {e : Env} {s : State} {m : MethodId} {below : List Frame} {meth : Method} {c : Code} (l : Launch) {b L : Nat} {xs : Nat → Int32} (hL : L ≤ 384) (C0 : lw_At p s m meth c b L xs) : W p l e room_1 s m #[Value.ref b] below meth c s.heap [] 0 0 (lw_Z below #[Value.ref b] s) (entryFrame m ([Value.ref b] : List Value).toArray 4) := by
  obtain ⟨hx, hb, hr, hml, hown, hts, hX, hbl, hlocks, hgv⟩ := C0
  have hG : ∀ w ∈ GW, w.before #[Value.ref b] s = true := fun w hw => hts w (List.mem_filter.mp hw).1
  obtain ⟨D, TA, ab, k1, k2, hK⟩ := kk_0 hts hX hgv
  have hb0 : ∀ w s, KK w (ab, (b, L, xs), k1, k2) s → ¬ wA w ((ab, (b, L, xs), k1, k2) : Ro).2.1.1 := fun w s hk => by
    obtain ⟨scr, h1, -⟩ := hk.2.2.2.1
    exact Nat.not_le.mpr (Array.getElem?_eq_some_iff.mp h1).1
  have hV := la_start (rt := ret) (nm := meth.name) (ro := (ab, (b, L, xs), k1, k2)) (Qf := QfL) (x := s.heap.size) hb0 hL la_end
  refine w_room ?_
  rw [lg_entry_eq]
  have k := hV (D, TA, s.heap) p l e s m #[Value.ref b] below meth c ⟨hx, hb, hml, hr, rfl, hlocks, hown, hG, hK⟩ s.heap [] _ ⟨⟨Nat.le_refl _, fun _ _ => rfl, rfl, fun a q h => by cases h⟩, fun q hq => by cases hq⟩ (lv_entry [Value.ref b] (n := 4) (l8 rfl))
  intro T hT X
  obtain ⟨t, a1, b1⟩ := k T hT X
  exact ⟨t, a1, b1 rfl⟩
set_option maxHeartbeats 4000000 in
theorem lw_walk (l : Launch) (b : Addr) (xs : List Int32) : MetFree l x (headSpec (Jvm.Cond.code x code maxLocals ret :: tables_1) room_1) (lw_P b xs) (fun _ _ _ _ _ => True) lw_Q := by
  refine MetFree.of_bodyS (code := code) (maxLocals := maxLocals) (ret := ret) (by decide) ?_ ?_
  · intro args s m h hn
    obtain ⟨meth, c, h1, h2, h3, h4, h5, h6, -, -⟩ := Cond.code_spec hn (atoms_spec (ws := Jvm.Cond.code x code maxLocals ret :: tables_1) h _ List.mem_cons_self)
    exact ⟨meth, c, h1, h2, h3, h4, h5, h6⟩
  · intro p e s m args below meth c s₁ B hml0 hP _
    obtain ⟨rfl, hx, hbd, hgv⟩ := hP
    obtain ⟨scr, harrAt, hlist, hof, hsmall⟩ := hx
    obtain ⟨hcb, hkn, -, -⟩ := State.arrayAt?_spec harrAt
    have hown : s.vm.findClass R_law = some m.cls := findClass_of_methodNamed B.named
    have hts0 : ∀ c ∈ (Jvm.Cond.code x code maxLocals ret :: tables_1), c.before #[Value.ref b] s = true := atoms_spec (ws := Jvm.Cond.code x code maxLocals ret :: tables_1) B.pre
    have hts : ∀ w ∈ lw_tbl, w.before #[Value.ref b] s = true := k2_hts_sels lw_privs (fun w hw => hts0 w (List.mem_cons_of_mem _ hw)) lw_privs_ok
    have hml : c.maxLocals = 4 := B.maxLocals_eq (hts0 _ List.mem_cons_self)
    have X₀ : Stand p l e room_1 s m #[Value.ref b] below meth c s₁ [] 0 0 := Stand.of_body B
    have hh0 : s₁.heap = s.heap := by rw [B.state]; rfl
    have hsz : scr.slots.size = xs.length := by rw [← Array.length_toList, hlist, List.length_map]
    have hval : ∀ j : Nat, j < xs.length → scr.slots[j]? = some (.int (xs.getD j 0)) := fun j hj => by
      rw [← Array.getElem?_toList, hlist]
      simp [hj]
    have hbl : b < s.heap.size := (Array.getElem?_eq_some_iff.mp hcb).1
    have hX : va_X b xs.length (fun j => xs.getD j 0) s s.heap := ⟨scr, hcb, hof, hkn, hsz, hval⟩
    have K : W p l e room_1 s m #[Value.ref b] below meth c s₁.heap [] 0 0 (lw_Z below #[Value.ref b] s) (entryFrame m ([Value.ref b] : List Value).toArray 4) := by
      rw [hh0]
      exact whole_start l hbd ⟨B.exec, B.bytes, B.returns, hml, hown, hts, hX, hbl, B.notSynchronized, hgv⟩
    obtain ⟨t, a1, o, b1, b2, b3⟩ := K s₁ rfl X₀
    exact ⟨t, o, a1, b1, b2, b3⟩
theorem lw_pre_spec {args : Array Value} {s : State} (h : (Jvm.Cond.and given_1 narrow_1).before args s = true) (hr : rest_1_c.before args s = true) : ∃ (b : Addr) (xs : List Int32), lw_P b xs args s := by
  have hs := flat_of_before _ h
  have hq := flat_of_before _ hr
  have hc : (Cond.count 1).before args s = true := hs _ (by decide +kernel)
  have harr : (Cond.arrayOf (.arg 0) .int).before args s = true := hs _ (by decide +kernel)
  have hle : (Cond.le (.length (.arg 0)) (.int 384)).before args s = true := hs _ (by decide +kernel)
  have hlen : (Cond.isInt (.length (.arg 0))).before args s = true := hq _ (by decide +kernel)
  have hall : (Cond.all (.arg 0) (.isInt (.elem (.arg 0) (.index 0)))).before args s = true := hq _ (by decide +kernel)
  obtain ⟨b, xs, hb, hx⟩ := State.ints_of_pre rfl harr hlen hall
  have hsm : xs.length < 2 ^ 31 := hx.choose_spec.2.2.2
  have hev : (Term.length (.arg 0)).eval args s none [] s = some (.int xs.length.toInt32) := hx.length_eval hb
  have hv := Cond.le_ints hev (show (Term.int 384).eval args s none [] s = some (.int 384) from rfl)
  have hd : xs.length.toInt32 ≤ 384 := by
    simpa [Cond.before, Cond.holds, hv] using hle
  have hN : xs.length ≤ 384 := (Int32.ofNat_le_ofNat hsm (by decide)).mp (show Int32.ofNat xs.length ≤ Int32.ofNat 384 from hd)
  exact ⟨b, xs, Cond.one_arg hc (show args[0]? = some (.ref b) from hb), hx, hN, h⟩
theorem lw_comes (l : Launch) : Comes l x (Jvm.Cond.code x code maxLocals ret :: tables_1) room_1 (fun tb e args s => Calls_1 tb e args s ∧ rest_1 tb e args s ∧ Pre_1 tb e args s)
    (fun _ _ args s o t => lw_Q args s o t) := by
  intro p e ha hc hk s m args below hf hfit hheap happ hpre
  obtain ⟨b, xs, hP⟩ := lw_pre_spec hpre.2.2 hpre.2.1
  obtain ⟨k, o, h1, h2, h3, hQ⟩ := lw_walk l b xs p e ha hc hk s m args below hf ((Spec.applies_iff_loose hf).mp happ).1 hP trivial
  exact ⟨k, o, h1, h2, h3, hQ⟩
theorem lw_frame {s t : State} {o : Outcome} {args : Array Value} (h : Framed s o t [] 600000 7302250) :
    Framed s o t (fieldLocs frame_1_writes args s ++ arrayLocs frame_1_arrays args s ++ staticLocs frame_1_statics s) 600000 7302250 := h
theorem lw_limb (L : Cond) (hL : ∀ (args : Array Value) (s t : State), L.after args s (.returned (some (.int 1))) t = true) :
    ArmFor flags0 classFile x code maxLocals ret World_1 tables_1 room_1 Calls_1 rest_1 Pre_1
      (fun tb e a s o t => postC L tb e a s o t ∧ Framed s o t (fieldLocs frame_1_writes a s ++ arrayLocs frame_1_arrays a s ++ staticLocs frame_1_statics s) 600000 7302250) := by
  intro l _ _ _ p e ha hc hk s m args below hf hfit hheap happ hpre
  obtain ⟨k, o, h1, h2, h3, rfl, hF⟩ := lw_comes l p e ha hc hk s m args below hf hfit hheap happ hpre
  exact ⟨k, _, h1, h2, h3, hL args s _, lw_frame hF⟩
theorem i_vc : Claimed_1_1 ∧ Claimed_1_2 := ⟨lw_limb limb_1_1 (fun args s t => by simp [limb_1_1, Cond.after, Cond.holds, Cond.value]), lw_limb limb_1_2 (fun args s t => Cond.after_iff.mpr (by
  first | (rw [show limb_1_2 = Cond.eq .result (.int 1) from rfl, Cond.eq_ints (x := 1) (y := 1) rfl rfl]; simp; done) | (simp [limb_1_2, Cond.value, Term.eval]; done)))⟩
