/-! contracts over a world 'ws'. kz_P: what holds before; kz_Ro: an answer, nothing written; kz_Wr: an answer, the world is ws' then; kz_T: thrown, nothing written, k says which -/
abbrev kz_Y : Type := List (ClassId × FieldType)
/-- nothing that was there is another -/
abbrev kz_O (H H1 : Heap) : Prop := H.size ≤ H1.size ∧ ∀ j : Nat, j < H.size → H1[j]? = H[j]?
/-- a static field that holds some reference, and lies where nobody writes -/
def kz_St (C n d : String) (A : Nat → Prop) (U : State) (H : Heap) : Prop := ∃ (c : ClassId) (k : Class) (i : Nat) (f : Field) (a : Nat) (cell : Cell) (v : Value), U.vm.findClass C = some c ∧ U.fieldFound? C n d = some (c, k, i, f) ∧ f.isStatic = true ∧ k.statics = some a ∧ H[a]? = some cell ∧ cell.vm.isStatics = true ∧ cell.cls = c ∧ f.slot < cell.slots.size ∧ k.staticTypes[f.slot]? = some f.type ∧ cell.slots[f.slot]? = some v ∧ v.isRef = true ∧ ¬ A a
theorem kz_St.into {C n d : String} {A B : Nat → Prop} {s U : State} {H H1 : Heap} (h : kz_St C n d A s H) (hvm : s.vm.Alike U.vm) (hq : ∀ q : Nat, q < H.size → ¬ A q → H1[q]? = H[q]?) (hB : ∀ q, B q → A q) : kz_St C n d B U H1 := by
  obtain ⟨c, k, i, f, a, cell, v, h1, h2, h3, h4, h5, h6, h7, h8, h9, h10, h11, h12⟩ := h
  obtain ⟨k', hi', he⟩ := State.fieldFound?_setVm hvm h2
  exact ⟨c, k', i, f, a, cell, v, by rw [hvm.findClass]; exact h1, hi', h3, by rw [he]; exact h4, by rw [hq a (Array.getElem?_eq_some_iff.mp h5).1 h12]; exact h5, h6, h7, h8, by rw [he]; exact h9, h10, h11, fun z => h12 (hB _ z)⟩
theorem kz_St.lays {C n d : String} {A : Nat → Prop} {s : State} {args : Array Value} (h : kz_St C n d A s s.heap) : (Cond.laysStatic C n d).before args s = true := by
  obtain ⟨c, k, i, f, a, cell, v, h1, h2, h3, h4, h5, h6, h7, h8, h9, -⟩ := h
  show (Cond.laysStatic C n d).holds args s none s [] = true
  exact Cond.laysStatic_of h1 h2 h3 h4 h5 h6 h7 h8 h9
theorem kz_St.isRef {C n d : String} {A : Nat → Prop} {s : State} {args : Array Value} (h : kz_St C n d A s s.heap) : (Cond.isRef (.static C n d)).before args s = true := by
  obtain ⟨c, k, i, f, a, cell, v, h1, h2, h3, h4, h5, h6, h7, h8, h9, h10, h11, -⟩ := h
  have he : (Term.static C n d).eval args s none [] s = some v := by
    simp [Term.eval, State.fieldNamed?, h2, h3, h4, h5, h6, h10]
  simp only [Cond.before, Cond.holds, Cond.value, he]
  cases v <;> simp_all [Value.isRef]
/-- a word of the tables that stays when classes are linked -/
abbrev kz_N (w : Cond) (U : State) : Prop := va_Nw w U
/-- the names above an exception, below Throwable -/
def EXN : List String := ["java/lang/RuntimeException", "java/lang/Exception"]
def kz_strs : List (Nat × String) := [(141, "no set of servers"), (48, "OLD is empty"), (53, "a learner is a voter"), (61, "the target is empty"), (67, "one of the target is neither old nor a learner far enough"), (71, "a change is under way"), (74, "no change is under way"), (146, "no such server"), (144, "no such number"), (148, "the server is no peer"), (103, "the last entry is below the snapshot's"), (131, "nothing of that kind is agreed on"), (135, "nothing of that kind is kept of a server")]
def kz_cast : List (String × String) := [(IAE, IAE), (ISE, ISE), (IOE, IOE)]
def kz_decl : List MethodName := [Bundle.initS "java/lang/RuntimeException", Bundle.initS "java/lang/Exception", Bundle.initS "java/lang/Throwable"]
def kz_ncs : List (String × String) := [(ISE, IAE), (IAE, IOE)]
/-- what a throw and a catch need, beside the tables' words: it stays over calls -/
def kz_E (A : Nat → Prop) (U : State) (H : Heap) : Prop := kz_St Bundle.tN "UNASSIGNED_STACK" Bundle.steD A U H ∧ kz_St Bundle.tN "SUPPRESSED_SENTINEL" Bundle.listD A U H ∧ (∀ q ∈ kz_strs, ∃ sa, vk_R RX0 q.1 q.2 sa U) ∧ (∀ q ∈ kz_cast, va_Nw (.castable q.1 q.2) U) ∧ (∀ q ∈ kz_decl, va_Nw (.declares q) U) ∧ ∀ q ∈ kz_ncs, va_Nc q.1 q.2 U
theorem kz_E.blind {A : Nat → Prop} {U : State} {a : Array Value} {g : JFrame} {mk : MethodId} (h : kz_E A U U.heap) : kz_E A (U.calling g mk a) (U.calling g mk a).heap := by
  obtain ⟨h1, h2, h3, h4, h5, h6⟩ := h
  exact ⟨h1.into (Vm.Alike.refl U.vm) (fun _ _ _ => rfl) (fun _ h => h), h2.into (Vm.Alike.refl U.vm) (fun _ _ _ => rfl) (fun _ h => h), fun q hq => (h3 q hq).imp (fun _ h => vk_R.same rfl h), fun q hq => va_Nw.same rfl rfl (h4 q hq), fun q hq => va_Nw.same rfl rfl (h5 q hq), fun q hq => va_Nc.moved (u := U) (U := U.calling g mk a) (Vm.Alike.refl U.vm) (h6 q hq)⟩
theorem kz_E.into {A B : Nat → Prop} {s U : State} {H0 H : Heap} (h : kz_E A s H0) (hW : s.WarmedH U.vm) (hq : ∀ q : Nat, q < H0.size → ¬ A q → H[q]? = H0[q]?) (hB : ∀ q, B q → A q) : kz_E B U H := by
  obtain ⟨h1, h2, h3, h4, h5, h6⟩ := h
  exact ⟨h1.into hW.alike hq hB, h2.into hW.alike hq hB, fun q hq => (h3 q hq).imp (fun _ h => vk_R.warm hW h), fun q hq => va_Nw.warmC hW (h4 q hq), fun q hq => va_Nw.warmD hW (h5 q hq), fun q hq => va_Nc.moved hW.alike (h6 q hq)⟩
def kz_bIAE : List Cond := [.isRef (.static Bundle.tN "UNASSIGNED_STACK" Bundle.steD), .isRef (.static Bundle.tN "SUPPRESSED_SENTINEL" Bundle.listD), .laysStatic Bundle.tN "UNASSIGNED_STACK" Bundle.steD, .laysStatic Bundle.tN "SUPPRESSED_SENTINEL" Bundle.listD, .castable IAE IAE, .declares (Bundle.initS "java/lang/RuntimeException"), .declares (Bundle.initS "java/lang/Exception"), .declares (Bundle.initS "java/lang/Throwable")]
set_option maxRecDepth 100000 in
theorem kz_kIAE : ∀ w ∈ Bundle.ownAtoms RX0 50 IAE EXN, (w ∈ lw_tbl ∧ goodWord w = true) ∨ w ∈ kz_bIAE := by decide +kernel
theorem at_IAE {args : Array Value} {s : State} {A : Nat → Prop} (hw9 : ∀ w ∈ kz_W9, w.before args s = true) (hE : kz_E A s s.heap) : ∀ w ∈ Bundle.ownAtoms RX0 50 IAE EXN, w.before args s = true := by
  intro w hw
  obtain ⟨h1, h2, h3, h4, h5, h6⟩ := hE
  rcases kz_kIAE w hw with ⟨q1, q2⟩ | q
  · exact hw9 w (List.mem_filter.mpr ⟨q1, q2⟩)
  · simp only [kz_bIAE, List.mem_cons, List.not_mem_nil, or_false] at q
    rcases q with rfl | rfl | rfl | rfl | rfl | rfl | rfl | rfl
    · exact h1.isRef
    · exact h2.isRef
    · exact h1.lays
    · exact h2.lays
    · exact va_Nw.use rfl (h4 (IAE, IAE) (by decide +kernel))
    · exact va_Nw.use rfl (h5 (Bundle.initS "java/lang/RuntimeException") (by decide +kernel))
    · exact va_Nw.use rfl (h5 (Bundle.initS "java/lang/Exception") (by decide +kernel))
    · exact va_Nw.use rfl (h5 (Bundle.initS "java/lang/Throwable") (by decide +kernel))
def kz_bISE : List Cond := [.isRef (.static Bundle.tN "UNASSIGNED_STACK" Bundle.steD), .isRef (.static Bundle.tN "SUPPRESSED_SENTINEL" Bundle.listD), .laysStatic Bundle.tN "UNASSIGNED_STACK" Bundle.steD, .laysStatic Bundle.tN "SUPPRESSED_SENTINEL" Bundle.listD, .castable ISE ISE, .declares (Bundle.initS "java/lang/RuntimeException"), .declares (Bundle.initS "java/lang/Exception"), .declares (Bundle.initS "java/lang/Throwable")]
set_option maxRecDepth 100000 in
theorem kz_kISE : ∀ w ∈ Bundle.ownAtoms RX0 73 ISE EXN, (w ∈ lw_tbl ∧ goodWord w = true) ∨ w ∈ kz_bISE := by decide +kernel
theorem at_ISE {args : Array Value} {s : State} {A : Nat → Prop} (hw9 : ∀ w ∈ kz_W9, w.before args s = true) (hE : kz_E A s s.heap) : ∀ w ∈ Bundle.ownAtoms RX0 73 ISE EXN, w.before args s = true := by
  intro w hw
  obtain ⟨h1, h2, h3, h4, h5, h6⟩ := hE
  rcases kz_kISE w hw with ⟨q1, q2⟩ | q
  · exact hw9 w (List.mem_filter.mpr ⟨q1, q2⟩)
  · simp only [kz_bISE, List.mem_cons, List.not_mem_nil, or_false] at q
    rcases q with rfl | rfl | rfl | rfl | rfl | rfl | rfl | rfl
    · exact h1.isRef
    · exact h2.isRef
    · exact h1.lays
    · exact h2.lays
    · exact va_Nw.use rfl (h4 (ISE, ISE) (by decide +kernel))
    · exact va_Nw.use rfl (h5 (Bundle.initS "java/lang/RuntimeException") (by decide +kernel))
    · exact va_Nw.use rfl (h5 (Bundle.initS "java/lang/Exception") (by decide +kernel))
    · exact va_Nw.use rfl (h5 (Bundle.initS "java/lang/Throwable") (by decide +kernel))
def kz_bIOE : List Cond := [.isRef (.static Bundle.tN "UNASSIGNED_STACK" Bundle.steD), .isRef (.static Bundle.tN "SUPPRESSED_SENTINEL" Bundle.listD), .laysStatic Bundle.tN "UNASSIGNED_STACK" Bundle.steD, .laysStatic Bundle.tN "SUPPRESSED_SENTINEL" Bundle.listD, .castable IOE IOE, .declares (Bundle.initS "java/lang/RuntimeException"), .declares (Bundle.initS "java/lang/Exception"), .declares (Bundle.initS "java/lang/Throwable")]
set_option maxRecDepth 100000 in
theorem kz_kIOE : ∀ w ∈ Bundle.ownAtoms RX0 137 IOE EXN, (w ∈ lw_tbl ∧ goodWord w = true) ∨ w ∈ kz_bIOE := by decide +kernel
theorem at_IOE {args : Array Value} {s : State} {A : Nat → Prop} (hw9 : ∀ w ∈ kz_W9, w.before args s = true) (hE : kz_E A s s.heap) : ∀ w ∈ Bundle.ownAtoms RX0 137 IOE EXN, w.before args s = true := by
  intro w hw
  obtain ⟨h1, h2, h3, h4, h5, h6⟩ := hE
  rcases kz_kIOE w hw with ⟨q1, q2⟩ | q
  · exact hw9 w (List.mem_filter.mpr ⟨q1, q2⟩)
  · simp only [kz_bIOE, List.mem_cons, List.not_mem_nil, or_false] at q
    rcases q with rfl | rfl | rfl | rfl | rfl | rfl | rfl | rfl
    · exact h1.isRef
    · exact h2.isRef
    · exact h1.lays
    · exact h2.lays
    · exact va_Nw.use rfl (h4 (IOE, IOE) (by decide +kernel))
    · exact va_Nw.use rfl (h5 (Bundle.initS "java/lang/RuntimeException") (by decide +kernel))
    · exact va_Nw.use rfl (h5 (Bundle.initS "java/lang/Exception") (by decide +kernel))
    · exact va_Nw.use rfl (h5 (Bundle.initS "java/lang/Throwable") (by decide +kernel))
theorem kz_good {c : Cond} (h : c ∈ kz_W9) : GoodIn kz_W9 (c :: kz_W9) := fun w hw => by
  rcases List.mem_cons.mp hw with rfl | h2
  · exact ⟨h, good_of_word (List.mem_filter.mp h).2⟩
  · exact ⟨h2, good_of_word (List.mem_filter.mp h2).2⟩
theorem kz_cS {R : Room} {s : State} {args : Array Value} {own : String} {index : Nat} {y : MethodName} {bytes : ByteArray} {maxL : Nat} {ret : Option FieldType} {rm : Room} (n : Nat) (ht : ∀ w ∈ kz_W9, w.before args s = true) (hl : Cond.methodLink own index y ∈ kz_W9) (hst : Cond.static y ∈ kz_W9) (hi : Cond.initialized y.cls ∈ kz_W9) (hc : Cond.code y bytes maxL ret ∈ kz_W9) (hrc : rm.cells = 1) (hrs : rm.slots = 6)
    (hd : y.cls ≠ "java/lang/invoke/MethodHandle" ∧ y.cls ≠ "java/lang/invoke/VarHandle" ∧ (parseMethodDescriptor y.desc).map (fun d => d.parameters.length) = some n) (hR : rm.frames + 1 ≤ R.frames ∧ 8 + (maxL + 11) + rm.locals ≤ R.locals) : CallB R s args own index y bytes maxL ret (.code y bytes maxL ret :: kz_W9) rm 1 6 n ∧ (Cond.static y).before args s = true :=
  ⟨callB_of n ht (kz_good hc) rfl hrc hrs (ht _ hi) (ht _ hl) hd hR, ht _ hst⟩
theorem kz_cV {R : Room} {s : State} {args : Array Value} {own C : String} {index : Nat} {y : MethodName} {bytes : ByteArray} {maxL : Nat} {ret : Option FieldType} {rm : Room} (n : Nat) (ht : ∀ w ∈ kz_W9, w.before args s = true) (hl : Cond.methodLink own index y ∈ kz_W9) (hin : Cond.instanceMethod y ∈ kz_W9) (hse : Cond.selects C y y ∈ kz_W9) (hi : Cond.initialized y.cls ∈ kz_W9) (hc : Cond.code y bytes maxL ret ∈ kz_W9) (hrc : rm.cells = 1) (hrs : rm.slots = 6)
    (hd : y.cls ≠ "java/lang/invoke/MethodHandle" ∧ y.cls ≠ "java/lang/invoke/VarHandle" ∧ (parseMethodDescriptor y.desc).map (fun d => d.parameters.length) = some n) (hR : rm.frames + 1 ≤ R.frames ∧ 8 + (maxL + 11) + rm.locals ≤ R.locals) : CallW R s args own C index y bytes maxL ret (.code y bytes maxL ret :: kz_W9) rm 1 6 n :=
  ⟨callB_of n ht (kz_good hc) rfl hrc hrs (ht _ hi) (ht _ hl) hd hR, ht _ hin, ht _ hse⟩
/-- the class's cells: the object, and its eight rows of seven -/
abbrev wX (ad : Nat → Nat) (cI cZ : ClassId) (it o n g v r : Int32) (nx mt fl pr ofs ak hd an : Nat → Int32) : va_W := [(ad 0, .inr (0, [.int it, .int o, .int n, .int g, .int v, .int r, .ref (ad 1), .ref (ad 2), .ref (ad 3), .ref (ad 4), .ref (ad 5), .ref (ad 6), .ref (ad 7), .ref (ad 8)])), (ad 1, .inl (cI, 7, .inl nx)), (ad 2, .inl (cI, 7, .inl mt)), (ad 3, .inl (cI, 7, .inl fl)), (ad 4, .inl (cZ, 7, .inl pr)), (ad 5, .inl (cI, 7, .inl ofs)), (ad 6, .inl (cI, 7, .inl ak)), (ad 7, .inl (cI, 7, .inl hd)), (ad 8, .inl (cZ, 7, .inl an))]
abbrev kz_P (D : va_G) (tys : kz_Y) (ws : va_W) (sz : Nat) (av : List Value) : Array Value → State → Prop := va_Pc av (fun U => U.heap.size = sz ∧ va_P D vwCl ws U.heap ∧ va_K D vwCl tys U ∧ va_D (fun _ => True) ws ∧ kz_E (va_A ws sz) U U.heap)
def kz_T (ex : Nat → String) (px : Nat → Prop) (q : Addr) (st t : State) : Prop := ∃ (k : Nat) (ce : Cell), px k ∧ t.heap[q]? = some ce ∧ ce.vm = .none ∧ t.vm.findClass (ex k) = some ce.cls ∧ kz_O st.heap t.heap
def kz_Ro (post : Option Value → Prop) (v : Option Value) (st t : State) : Prop := post v ∧ kz_O st.heap t.heap
def kz_Wr (D : va_G) (A : Nat → Prop) (post : Option Value → Prop) (ws : va_W) (v : Option Value) (st t : State) : Prop := post v ∧ va_P D vwCl ws t.heap ∧ va_D A ws ∧ va_F A st t
abbrev kz_i (q : Int32 → Prop) : Option Value → Prop := fun v => ∃ r : Int32, v = some (.int r) ∧ q r
abbrev kz_v (q : Prop) : Option Value → Prop := fun v => v = none ∧ q
theorem kz_blind {D : va_G} {tys : kz_Y} {ws : va_W} {sz : Nat} {av : List Value} : FrameBlind (kz_P D tys ws sz av) := by
  intro a U g mk q
  obtain ⟨q0, q1, qP, qK, qD, qE⟩ := q
  exact ⟨q0, q1, qP, va_K.moved (u := U) (U := U.calling g mk a) (Vm.Alike.refl U.vm) qK, qD, qE.blind⟩
theorem kz_free {A : Nat → Prop} {ws : va_W} {H0 H : Heap} {locs : List Loc} (hD : va_D A ws) (hS : va_S A H0 H locs) (hA : ∀ q, H0.size ≤ q → A q) : ∀ q, va_A ws H.size q → A q := by
  rintro q (⟨k, e, h⟩ | h)
  · exact hD.2 k (q, e) h
  · exact hA q (Nat.le_trans hS.1 h)
theorem kz_preS {D : va_G} {tys : kz_Y} {ws : va_W} {A : Nat → Prop} {s : State} {H : Heap} {locs : List Loc} {As : List Value} (hK : va_K D vwCl tys s) (hP : va_P D vwCl ws H) (hD : va_D A ws) (hS : va_S A s.heap H locs) (hA : ∀ q, s.heap.size ≤ q → A q) (hE : kz_E A s s.heap) : PreS s H (kz_P D tys ws H.size As) As :=
  ⟨kz_blind, fun U hU hW => ⟨rfl, by rw [hU], by rw [hU]; exact hP, va_K.moved hW.alike hK, hD.weaken (fun _ _ _ _ => trivial), by rw [hU]; exact hE.into hW hS.2.1 (kz_free hD hS hA)⟩⟩
theorem kz_preV {D : va_G} {tys : kz_Y} {ws : va_W} {A : Nat → Prop} {s : State} {H : Heap} {locs : List Loc} {As : List Value} {b q0 ci : Nat} {q : vw_C} {fs : List Value} (hK : va_K D vwCl tys s) (hP : va_P D vwCl ws H) (hD : va_D A ws) (hS : va_S A s.heap H locs) (hA : ∀ q, s.heap.size ≤ q → A q) (hE : kz_E A s s.heap) (hc : vwCl[ci]? = some q) (he : ws[q0]? = some (b, .inr (ci, fs))) : PreV s H q.1 b (kz_P D tys ws H.size (.ref b :: As)) As :=
  ⟨kz_blind, va_recv hK hP hc he, fun U hU hW => ⟨rfl, by rw [hU], by rw [hU]; exact hP, va_K.moved hW.alike hK, hD.weaken (fun _ _ _ _ => trivial), by rw [hU]; exact hE.into hW hS.2.1 (kz_free hD hS hA)⟩⟩
theorem kz_O.rf (H : Heap) : kz_O H H := ⟨Nat.le_refl _, fun _ _ => rfl⟩
theorem kz_O.tr {a b c : Heap} (h : kz_O a b) (k : kz_O b c) : kz_O a c := ⟨Nat.le_trans h.1 k.1, fun j hj => by rw [k.2 j (Nat.lt_of_lt_of_le hj h.1), h.2 j hj]⟩
theorem kz_O.P {D : va_G} {ws : va_W} {H H1 : Heap} (h : kz_O H H1) (hP : va_P D vwCl ws H) : va_P D vwCl ws H1 := hP.kept (fun k q hq => h.2 q.1 (hP k q hq).lt)
theorem kz_O.S {A : Nat → Prop} {H0 H H1 : Heap} {locs : List Loc} (h : kz_O H H1) (hS : va_S A H0 H locs) : va_S A H0 H1 locs := ⟨Nat.le_trans hS.1 h.1, fun q h1 h2 => by rw [h.2 q (Nat.lt_of_lt_of_le h1 hS.1)]; exact hS.2.1 q h1 h2, hS.2.2⟩
theorem kz_O.F {A : Nat → Prop} {st t : State} (h : kz_O st.heap t.heap) : va_F A st t := ⟨h.1, fun q h1 _ => h.2 q h1⟩
section KZ
variable {p : Program} {l : Launch} {e : Env} {R : Room} {s : State} {m : MethodId} {args : Array Value} {below : List Frame} {meth : Method} {c : Code} {H : Heap} {locs : List Loc} {cells slots kr nr n nL maxL index pc : Nat} {Q : State → Prop} {ls : Array Slot} {rest As st0 : List Value} {A : Nat → Prop} {D : va_G} {tys : kz_Y} {ws ws' : va_W} {ex : Nat → String} {px : Nat → Prop} {rm : Room} {Ts wy : List Cond} {y : MethodName} {bytes cc : ByteArray} {ret : Option FieldType} {own C : String} {b : Addr}
/-- what comes behind a throw in a callee -/
abbrev kz_KX (p : Program) (l : Launch) (e : Env) (R : Room) (s : State) (m : MethodId) (args : Array Value) (below : List Frame) (meth : Method) (c : Code) (H : Heap) (locs : List Loc) (cells slots : Nat) (Q : State → Prop) (g : JFrame) (ex : Nat → String) (px : Nat → Prop) : Prop :=
  ∀ (k : Nat) (ce : Cell) (q9 : Addr) (H1 : Heap), px k → kz_O H H1 → H1[q9]? = some ce → ce.vm = .none → s.vm.findClass (ex k) = some ce.cls → ez_W p l e R s m args below meth c H1 locs cells slots Q g q9
theorem kz_nil {L : List Loc} {f : Addr → Prop} (h : ∀ z ∈ L, f z.base) (hf : ∀ q, ¬ f q) : L = [] := List.eq_nil_iff_forall_not_mem.mpr (fun z hz => hf _ (h z hz))
theorem kz_rS {post : Option Value → Prop} (S : CallFix p m c cc nL s args Ts own) (hM : ez_M l y wy rm (kz_P D tys ws H.size As) (kz_Ro post) (kz_T ex px) 0 0 (fun _ => False)) (cw : CallB R s args own index y bytes maxL ret wy rm 1 6 n ∧ (Cond.static y).before args s = true) (hp : PreS s H (kz_P D tys ws H.size As) As) (hn : As.length = n) (hsize : ls.size = nL) (hst : st0 = As.reverse ++ rest) (hroom : (rest.map fun v => v.category).sum ≤ 8) (hdg : decode cc pc = .ok (.invokestatic index, 3)) (hf : cells + 1 ≤ R.cells ∧ slots + 6 ≤ R.slots)
    (kx : kz_KX p l e R s m args below meth c H locs (cells + 1) (slots + 6) Q (F0 m pc ls rest) ex px)
    (kk : ∀ (v : Option Value) (H1 : Heap), post v → kz_O H H1 → W p l e R s m args below meth c H1 locs cells slots Q (F0 m (pc + 3) ls (v.toList ++ rest))) : W p l e R s m args below meth c H locs cells slots Q (F0 m pc ls st0) := by
  refine ez_callS S hM cw hp hn hsize hst hroom hdg hf (fun q st t L hst hal hL hq => ?_) (fun v st t L hst hal hL hv => ?_)
  · obtain ⟨k, ce, h1, h2, h3, h4, h5⟩ := hq
    rw [kz_nil hL (fun _ h => h), List.append_nil]
    rw [hst] at h5
    rw [hal.findClass] at h4
    exact kx k ce q t.heap h1 h5 h2 h3 h4
  · obtain ⟨h1, h2⟩ := hv
    rw [kz_nil hL (fun _ h => h), List.append_nil]
    rw [hst] at h2
    exact kk v t.heap h1 h2
theorem kz_rV {post : Option Value → Prop} (S : CallFix p m c cc nL s args Ts own) (hM : ez_M l y wy rm (kz_P D tys ws H.size (.ref b :: As)) (kz_Ro post) (kz_T ex px) 0 0 (fun _ => False)) (cw : CallW R s args own C index y bytes maxL ret wy rm 1 6 n) (hp : PreV s H C b (kz_P D tys ws H.size (.ref b :: As)) As) (hn : As.length = n) (hsize : ls.size = nL) (hst : st0 = As.reverse ++ .ref b :: rest) (hroom : (rest.map fun v => v.category).sum ≤ 8) (hdg : decode cc pc = .ok (.invokevirtual index, 3)) (hf : cells + 1 ≤ R.cells ∧ slots + 6 ≤ R.slots)
    (kx : kz_KX p l e R s m args below meth c H locs (cells + 1) (slots + 6) Q (F0 m pc ls rest) ex px)
    (kk : ∀ (v : Option Value) (H1 : Heap), post v → kz_O H H1 → W p l e R s m args below meth c H1 locs cells slots Q (F0 m (pc + 3) ls (v.toList ++ rest))) : W p l e R s m args below meth c H locs cells slots Q (F0 m pc ls st0) := by
  refine ez_callV S hM cw hp hn hsize hst hroom hdg hf (fun q st t L hst hal hL hq => ?_) (fun v st t L hst hal hL hv => ?_)
  · obtain ⟨k, ce, h1, h2, h3, h4, h5⟩ := hq
    rw [kz_nil hL (fun _ h => h), List.append_nil]
    rw [hst] at h5
    rw [hal.findClass] at h4
    exact kx k ce q t.heap h1 h5 h2 h3 h4
  · obtain ⟨h1, h2⟩ := hv
    rw [kz_nil hL (fun _ h => h), List.append_nil]
    rw [hst] at h2
    exact kk v t.heap h1 h2
/-- a callee that writes -/
theorem kz_wV {post : Option Value → Prop} (S : CallFix p m c cc nL s args Ts own) (hM : ez_M l y wy rm (kz_P D tys ws H.size (.ref b :: As)) (kz_Wr D (va_A ws H.size) post ws') (kz_T ex px) 0 0 (va_A ws H.size)) (cw : CallW R s args own C index y bytes maxL ret wy rm 1 6 n) (hp : PreV s H C b (kz_P D tys ws H.size (.ref b :: As)) As) (hn : As.length = n) (hsize : ls.size = nL) (hst : st0 = As.reverse ++ .ref b :: rest) (hroom : (rest.map fun v => v.category).sum ≤ 8) (hdg : decode cc pc = .ok (.invokevirtual index, 3)) (hf : cells + 1 ≤ R.cells ∧ slots + 6 ≤ R.slots)
    (hD : va_D A ws) (hS : va_S A s.heap H locs) (hA : ∀ q, s.heap.size ≤ q → A q)
    (kx : ∀ locs1 : List Loc, (∀ z ∈ locs1, A z.base) → kz_KX p l e R s m args below meth c H locs1 (cells + 1) (slots + 6) Q (F0 m pc ls rest) ex px)
    (kk : ∀ (v : Option Value) (H1 : Heap) (locs1 : List Loc), post v → va_P D vwCl ws' H1 → va_D A ws' → va_S A s.heap H1 locs1 → W p l e R s m args below meth c H1 locs1 cells slots Q (F0 m (pc + 3) ls (v.toList ++ rest))) : W p l e R s m args below meth c H locs cells slots Q (F0 m pc ls st0) := by
  have hF := kz_free hD hS hA
  have hall : ∀ L : List Loc, (∀ z ∈ L, va_A ws H.size z.base) → ∀ z ∈ locs ++ L, A z.base := fun L hL z hz => by
    rcases List.mem_append.mp hz with h | h
    · exact hS.2.2 z h
    · exact hF _ (hL z h)
  refine ez_callV S hM cw hp hn hsize hst hroom hdg hf (fun q st t L hst hal hL hq => ?_) (fun v st t L hst hal hL hv => ?_)
  · obtain ⟨k, ce, h1, h2, h3, h4, h5⟩ := hq
    rw [hst] at h5
    rw [hal.findClass] at h4
    exact kx (locs ++ L) (hall L hL) k ce q t.heap h1 h5 h2 h3 h4
  · obtain ⟨h1, h2, h3, h4, h5⟩ := hv
    rw [hst] at h4 h5
    exact kk v t.heap (locs ++ L) h1 h2 (h3.weaken (fun _ q _ h => hF q.1 h)) ⟨Nat.le_trans hS.1 h4, fun q a1 a2 => by rw [h5 q (Nat.lt_of_lt_of_le a1 hS.1) (fun z => a2 (hF q z))]; exact hS.2.1 q a1 a2, hall L hL⟩
variable {post : Option Value → Prop} {pt : Addr → State → State → Prop} {free : Addr → Prop} {qi : Int32 → Prop} {qv : Prop} {v : Int32}
/-- the ends of a method that writes nothing -/
theorem kz_reti (hx : p.tables.exec = Jvm.exec) (hb : c.code = cc) (hr : meth.sig.returnType = some .int) (hlocks : meth.locks = false) (hO : kz_O s.heap H) (hq : qi v) (hdg : decode cc pc = .ok (.ireturn, 1)) : W p l e R s m args below meth c H [] 0 0 (ez_MQ below (kz_Ro (kz_i qi)) pt s 0 0 free) (F0 m pc ls [.int v]) :=
  ez_ret (W.iret hx hb hr (fun t ht _ => ⟨some (.int v), rfl, ⟨v, rfl, hq⟩, by rw [ht]; exact hO⟩) (fun _ h => nomatch h) hdg hlocks)
theorem kz_retz (hx : p.tables.exec = Jvm.exec) (hb : c.code = cc) (hr : meth.sig.returnType = some .boolean) (hlocks : meth.locks = false) (hO : kz_O s.heap H) (hq : qi v) (hn : narrow .boolean (.int v) = .int v) (hdg : decode cc pc = .ok (.ireturn, 1)) : W p l e R s m args below meth c H [] 0 0 (ez_MQ below (kz_Ro (kz_i qi)) pt s 0 0 free) (F0 m pc ls [.int v]) :=
  ez_ret (W.zret hx hb hr hn (fun t ht _ => ⟨some (.int v), rfl, ⟨v, rfl, hq⟩, by rw [ht]; exact hO⟩) (fun _ h => nomatch h) hdg hlocks)
theorem kz_retv (hx : p.tables.exec = Jvm.exec) (hb : c.code = cc) (hr : meth.sig.returnType = none) (hlocks : meth.locks = false) (hO : kz_O s.heap H) (hq : qv) (hdg : decode cc pc = .ok (.return_, 1)) : W p l e R s m args below meth c H [] 0 0 (ez_MQ below (kz_Ro (kz_v qv)) pt s 0 0 free) (F0 m pc ls []) :=
  ez_ret (W.vret hx hb hr (fun t ht _ => ⟨none, rfl, ⟨rfl, hq⟩, by rw [ht]; exact hO⟩) (fun _ h => nomatch h) hdg hlocks)
/-- the ends of a method that writes -/
theorem kz_wreti (hx : p.tables.exec = Jvm.exec) (hb : c.code = cc) (hr : meth.sig.returnType = some .int) (hlocks : meth.locks = false) (hP : va_P D vwCl ws' H) (hD : va_D A ws') (hS : va_S A s.heap H locs) (hc : cells ≤ kr) (hs : slots ≤ nr) (hq : qi v) (hdg : decode cc pc = .ok (.ireturn, 1)) : W p l e R s m args below meth c H locs cells slots (ez_MQ below (kz_Wr D A (kz_i qi) ws') pt s kr nr A) (F0 m pc ls [.int v]) :=
  W.widen hc hs (ez_ret (W.iret hx hb hr (fun t ht _ => ⟨some (.int v), rfl, ⟨v, rfl, hq⟩, by rw [ht]; exact hP, hD, hS.F ht⟩) hS.2.2 hdg hlocks))
theorem kz_wretz (hx : p.tables.exec = Jvm.exec) (hb : c.code = cc) (hr : meth.sig.returnType = some .boolean) (hlocks : meth.locks = false) (hP : va_P D vwCl ws' H) (hD : va_D A ws') (hS : va_S A s.heap H locs) (hc : cells ≤ kr) (hs : slots ≤ nr) (hq : qi v) (hn : narrow .boolean (.int v) = .int v) (hdg : decode cc pc = .ok (.ireturn, 1)) : W p l e R s m args below meth c H locs cells slots (ez_MQ below (kz_Wr D A (kz_i qi) ws') pt s kr nr A) (F0 m pc ls [.int v]) :=
  W.widen hc hs (ez_ret (W.zret hx hb hr hn (fun t ht _ => ⟨some (.int v), rfl, ⟨v, rfl, hq⟩, by rw [ht]; exact hP, hD, hS.F ht⟩) hS.2.2 hdg hlocks))
theorem kz_wretv (hx : p.tables.exec = Jvm.exec) (hb : c.code = cc) (hr : meth.sig.returnType = none) (hlocks : meth.locks = false) (hP : va_P D vwCl ws' H) (hD : va_D A ws') (hS : va_S A s.heap H locs) (hc : cells ≤ kr) (hs : slots ≤ nr) (hq : qv) (hdg : decode cc pc = .ok (.return_, 1)) : W p l e R s m args below meth c H locs cells slots (ez_MQ below (kz_Wr D A (kz_v qv) ws') pt s kr nr A) (F0 m pc ls []) :=
  W.widen hc hs (ez_ret (W.vret hx hb hr (fun t ht _ => ⟨none, rfl, ⟨rfl, hq⟩, by rw [ht]; exact hP, hD, hS.F ht⟩) hS.2.2 hdg hlocks))
/-- thrown on to the caller, nothing written so far -/
theorem kz_out {pr : Option Value → State → State → Prop} {k : Nat} {ce : Cell} {q : Addr} (htab : c.exceptionTable.toList = []) (hlocks : meth.locks = false) (hk : px k) (hO : kz_O s.heap H) (hcell : H[q]? = some ce) (hv : ce.vm = .none) (hcl : s.vm.findClass (ex k) = some ce.cls) (hf : ∀ z ∈ locs, free z.base) (hc : cells ≤ 1) (hs : slots ≤ 6) :
    ez_W p l e R s m args below meth c H locs cells slots (ez_MQ below pr (kz_T ex px) s kr nr free) (F0 m pc ls rest) q :=
  ez_out rfl rfl rfl (fun x hx => by rw [htab] at hx; cases hx) hlocks (fun t ht hW => ⟨k, ce, hk, by rw [ht]; exact hcell, hv, by rw [hW.alike.findClass]; exact hcl, by rw [ht]; exact hO⟩) hf hc hs
end KZ
/-- a world, its parts in another order -/
theorem kz_swapP {D : va_G} {w1 w2 : va_W} {H : Heap} (h : va_P D vwCl (w1 ++ w2) H) : va_P D vwCl (w2 ++ w1) H := by
  intro k q hk
  rcases List.mem_append.mp (List.mem_of_getElem? hk) with h1 | h1
  · obtain ⟨i, hi⟩ := List.getElem?_of_mem (List.mem_append_right w1 h1)
    exact h i q hi
  · obtain ⟨i, hi⟩ := List.getElem?_of_mem (List.mem_append_left w2 h1)
    exact h i q hi
theorem kz_swapD {A : Nat → Prop} {w1 w2 : va_W} (h : va_D A (w1 ++ w2)) : va_D A (w2 ++ w1) := by
  obtain ⟨h1, h2⟩ := h
  have key : ∀ (i : Nat) (q : Nat × va_E), (w2 ++ w1)[i]? = some q → (w1 ++ w2)[if i < w2.length then w1.length + i else i - w2.length]? = some q := by
    intro i q hi
    by_cases hl : i < w2.length
    · rw [if_pos hl, List.getElem?_append_right (by omega)]
      rw [List.getElem?_append_left hl] at hi
      rw [Nat.add_sub_cancel_left]; exact hi
    · rw [if_neg hl]
      rw [List.getElem?_append_right (by omega)] at hi
      rw [List.getElem?_append_left (List.getElem?_eq_some_iff.mp hi).1]; exact hi
  refine ⟨fun i j x y hi hj hxy => ?_, fun k q hk => h2 _ q (key k q hk)⟩
  have h3 := h1 _ _ x y (key i x hi) (key j y hj) hxy
  have hi2 : i < w2.length + w1.length := by have := (List.getElem?_eq_some_iff.mp hi).1; rw [List.length_append] at this; exact this
  have hj2 : j < w2.length + w1.length := by have := (List.getElem?_eq_some_iff.mp hj).1; rw [List.length_append] at this; exact this
  split at h3 <;> split at h3 <;> omega
/-- an array's contents below its length are all that counts -/
theorem kz_fn {D : va_G} {ws : va_W} {H : Heap} {k a n : Nat} {cA : ClassId} {f g : Nat → Int32} (h : va_P D vwCl ws H) (hk : ws[k]? = some (a, .inl (cA, n, .inl f))) (hfg : ∀ j, j < n → f j = g j) : va_P D vwCl (ws.set k (a, .inl (cA, n, .inl g))) H := by
  have hl := (List.getElem?_eq_some_iff.mp hk).1
  intro i q hi
  by_cases hik : i = k
  · subst hik
    rw [List.getElem?_set_self hl] at hi
    cases hi
    have h1 : H[a]? = some (vp_cell cA (n, .inl f)) := h i _ hk
    show H[a]? = some (vp_cell cA (n, .inl g))
    rw [h1]
    have h2 : (fun j : Fin n => Value.int (f j.val)) = (fun j : Fin n => Value.int (g j.val)) := funext fun j => by rw [hfg j.val j.isLt]
    show some (arrV cA n (fun j => .int (f j))) = some (arrV cA n (fun j => .int (g j)))
    unfold arrV
    rw [h2]
  · rw [List.getElem?_set_ne (Ne.symm hik)] at hi
    exact h i q hi
