/-! 'throw new E("text")' ahead of any store, and a catch by name -/
section EC
variable {p : Program} {l : Launch} {e : Env} {R : Room} {s : State} {m : MethodId} {args : Array Value} {below : List Frame} {meth : Method} {c : Code} {H : Heap} {locs : List Loc} {cells slots : Nat} {Q : State → Prop}
/-- no slot of old has been written: the old cells are as they were -/
theorem ez_old {s U : State} {k n : Nat} (h : s.sameButNew ({ U with vm := s.vm } : State) [] k n) : s.heap.size ≤ U.heap.size ∧ ∀ q : Nat, q < s.heap.size → U.heap[q]? = s.heap[q]? := by
  obtain ⟨-, h2, -, -, -, h6⟩ := h
  refine ⟨h2, fun q hq => ?_⟩
  obtain ⟨c9, e1, e2, -, e4⟩ := h6 q _ (Array.getElem?_eq_getElem hq)
  have h7 : c9.slots = (s.heap[q]).slots := Array.ext_getElem? fun i => e4 i (List.not_mem_nil)
  rw [h7] at e2
  have e5 : U.heap[q]? = some c9 := e1
  rw [e5, Array.getElem?_eq_getElem hq]
  exact congrArg some e2
set_option maxHeartbeats 1000000 in
theorem ez_throwS {pr : Option Value → State → State → Prop} {pt : Addr → State → State → Prop} {kr nr : Nat} {free : Addr → Prop} {cc : ByteArray} {pc : Nat} {ls : Array Slot} {rest : List Value} (hexec : p.tables.exec = Jvm.exec) (hb : c.code = cc) (hl9 : l.stackTraces = false)
    {own cls text : String} {names : List String} {ik is ic sa : Nat} (hown : s.vm.findClass own = some m.cls) (hcls : Bundle.fit cls = true) (hnames : ∀ n ∈ names, Bundle.fit n = true)
    (hk : (Cond.classLink own ik cls).before args s = true) (hini : (Cond.initialized cls).before args s = true) (hstr : vk_R own is text sa s) (h : ∀ w ∈ Bundle.ownAtoms own ic cls names, w.before args s = true)
    (hH : s.heap.size ≤ H.size) (hsize : ls.size = c.maxLocals) (hout : c.exceptionTable.toList = []) (hlocks : meth.locks = false)
    (d0 : decode cc pc = .ok (.new ik, 3)) (d3 : decode cc (pc + 3) = .ok (.dup, 1)) (d4 : decode cc (pc + 4) = .ok (.ldc is, 2)) (d6 : decode cc (pc + 6) = .ok (.invokespecial ic, 3)) (d9 : decode cc (pc + 9) = .ok (.athrow, 1))
    (hRframes : names.length + 3 < R.frames) (hRlocals : (rest.map fun v => v.category).sum + (13 * (names.length + 1) + 43) ≤ R.locals) (hRcells : 0 + 1 ≤ R.cells) (hRslots : 0 + 6 ≤ R.slots)
    (hq : ∀ (q : Addr) (t : State) (ce : Cell), t.heap[q]? = some ce → ce.vm = .none → s.vm.findClass cls = some ce.cls → s.vm.Alike t.vm → s.heap.size ≤ t.heap.size → (∀ j : Nat, j < s.heap.size → t.heap[j]? = s.heap[j]?) → pt q s t) :
    W p l e R s m args below meth c H [] 0 0 (ez_MQ below pr pt s kr nr free) (F0 m pc ls rest) := by
  intro T hT X
  have htr : e.platform.stackTraces = false := (show e.platform.stackTraces = l.stackTraces by rw [X.admits.platform]).trans hl9
  have hins : (Cond.instantiable cls 6).before args s = true := h _ (by simp [Bundle.ownAtoms])
  obtain ⟨vm₁, cX, kX, hfX, hkX, -, -, X₁, st1⟩ := X.newCold hexec (own := own) (C := cls) (index := ik) (n := 6) hown hk hins hini (g := F0 m pc ls rest) rfl (by rw [hb]; exact d0) hRcells hRslots
  generalize hT1 : (T.setVm vm₁).pushCell { cls := cX, slots := kX.instanceTypes.map defaultValue, vm := .none } = T1 at X₁ st1
  have hcat : (Value.ref T.heap.size).category = 1 := rfl
  have hcellA : T1.heap[T.heap.size]? = some (freshCell cX kX) := by rw [← hT1]; exact State.heap_pushCell_size _ _
  have d3' : decode c.code (pc + 3) = .ok (.dup, 1) := by rw [hb]; exact d3
  have d4' : decode c.code (pc + 4) = .ok (.ldc is, 2) := by rw [hb]; exact d4
  obtain ⟨U, hsteps, hrun, hend, hW, hsame, ce, hce, hO⟩ := X₁.ctorThrowS hexec htr (own := own) (cls := cls) (names := names) (ic := ic) hown hcls hnames h (fun x hx => nomatch hx) hfX hkX hcellA (by rw [hT]; exact hH) (msg := .ref sa) rfl
    (g := { method := m, pc := pc + 6, locals := ls, stack := .ref sa :: .ref T.heap.size :: .ref T.heap.size :: rest, locked := none }) rfl hsize rfl rfl (rest := rest) rfl
    (by rw [hb]; exact d6) (by rw [hb]; exact d9) (fun x hx => by rw [hout] at hx; cases hx) hRframes (by simp only [List.map_cons, List.sum_cons, hcat]; omega) hlocks
  obtain ⟨f1, f2⟩ := ez_old hsame
  refine ⟨U, ?_, .threw T.heap.size, hrun, hend, hW, [], (fun z hz => nomatch hz), Or.inr ⟨T.heap.size, rfl, hq _ U ce hce hO.vm hO.cls hW.alike f1 f2, hsame⟩⟩
  refine st1 _ ?_
  show Steps p.tables e below (T1.setTop { method := m, pc := pc + 3, locals := ls, stack := .ref T.heap.size :: rest, locked := none }) _
  jvm_step X₁.here [X₁.here.top, hexec, d3', Value.category]
  exact X₁.ldcString hexec (own := own) (text := text) (index := is) (a := sa) hown hstr.1 hstr.2
    (g := { method := m, pc := pc + 4, locals := ls, stack := .ref T.heap.size :: .ref T.heap.size :: rest, locked := none }) rfl d4' _ hsteps
/-- one row of a table that covers the place and names a class: taken or passed -/
theorem ez_row {Q : Handler → Pre} {E : CtlPost} {e : Env} {d : Bool} {acts : List Action} {S : State} {f : JFrame} {a : Addr} {x : ExceptionTableEntry} {t : List ExceptionTableEntry} {k : ClassId} {cell : Cell}
    (hx : covers x f.pc = true) (h0 : x.catchType ≠ 0) (hl : S.vm.ClassLinks e.platform f.method.cls x.catchType k) (hcell : S.heap[a]? = some cell) (hobj : ∀ z, cell.vm ≠ .statics z)
    (h1 : ∃ z, S.vm.classes[cell.cls]? = some z) (h2 : ∃ z, S.vm.classes[k]? = some z) :
    wp (findHandler.go f a (x :: t)) Q E e d acts S ↔ (if S.vm.assignable cell.cls k = true then Q (.found x.handlerPc) d acts (S.setVm (S.vm.noted f.method.cls x.catchType (.cls k))) else wp (findHandler.go f a t) Q E e d acts (S.setVm (S.vm.noted f.method.cls x.catchType (.cls k)))) := by
  simp only [covers] at hx
  obtain ⟨ha, ht⟩ := (resolveClass_links e.toSetting hl).op (op := VmOp.resolveClass f.method.cls x.catchType) rfl
  have hal : S.vm.Alike (S.vm.noted f.method.cls x.catchType (.cls k)) := (Vm.Alike.refl S.vm).noted _ _ _
  obtain ⟨z1, hz1⟩ := h1
  obtain ⟨z2, hz2⟩ := h2
  obtain ⟨w1, hw1, -⟩ := hal.2.2 _ _ hz1
  obtain ⟨w2, hw2, -⟩ := hal.2.2 _ _ hz2
  cases hfit : S.vm.assignable cell.cls k with
  | true =>
    have hfit' : (S.vm.noted f.method.cls x.catchType (.cls k)).assignable cell.cls k = true := by rw [hal.assignable]; exact hfit
    rw [if_pos rfl]
    simp [findHandler.go, hx, h0, ha, ht, hcell, hobj, hw1, hw2, hfit', VmOp.dirties, VmOp.acts]
  | false =>
    have hfit' : (S.vm.noted f.method.cls x.catchType (.cls k)).assignable cell.cls k = false := by rw [hal.assignable]; exact hfit
    rw [if_neg (by decide)]
    simp [findHandler.go, hx, h0, ha, ht, hcell, hobj, hw1, hw2, hfit', VmOp.dirties, VmOp.acts]
/-- rows that are passed, then one that takes it -/
theorem ez_find {e : Env} {s : State} {f : JFrame} {a : Addr} {cell : Cell} {own E : String} {args : Array Value} (hpl : e.platform.magicAccessors = ({} : Platform).magicAccessors) (hown : s.vm.findClass own = some f.method.cls) (hE : s.vm.findClass E = some cell.cls) (hobj : ∀ z, cell.vm ≠ .statics z)
    (x : ExceptionTableEntry) (rest : List ExceptionTableEntry) {nm : String} (hx : covers x f.pc = true) (h0 : x.catchType ≠ 0) (hlink : (Cond.classLink own x.catchType nm).before args s = true) (hcast : (Cond.castable E nm).before args s = true) :
    ∀ (pre : List ExceptionTableEntry) (S : State), s.WarmedH S.vm → S.heap[a]? = some cell → (∀ z ∈ pre, covers z f.pc = true ∧ z.catchType ≠ 0 ∧ ∃ n2 : String, (Cond.classLink own z.catchType n2).before args s = true ∧ va_Nc E n2 s) →
      ∃ vm', s.WarmedH vm' ∧ ∀ (Q : Handler → Pre) (E9 : CtlPost) (d : Bool) (acts : List Action), wp (findHandler.go f a (pre ++ x :: rest)) Q E9 e d acts S ↔ Q (.found x.handlerPc) d acts (S.setVm vm') := by
  intro pre
  induction pre with
  | nil =>
    intro S hW hc _
    obtain ⟨k, hk, hcl⟩ := Cond.classLink_spec hown hlink e.platform hpl
    obtain ⟨c3, c4, hc3, hc4, hasg⟩ := Cond.castable_spec hcast
    cases Option.some.inj (hc3.symm.trans hE)
    cases Option.some.inj (hc4.symm.trans hk)
    obtain ⟨dk, _, _, kt, hd, _, _, _, _, hkt, _, hopen⟩ := hcl.here
    obtain ⟨kt', hkt', -⟩ := hW.alike.2.2 _ _ hkt
    obtain ⟨k0, hk0, -⟩ := Vm.findClass_spec hE
    obtain ⟨k0', hk0', -⟩ := hW.alike.2.2 _ _ hk0
    refine ⟨_, hW.noted hd hopen (State.rightAt_cls hcl), fun Q E9 d acts => ?_⟩
    rw [List.nil_append, ez_row hx h0 (hW.classLinks hcl) hc hobj ⟨k0', hk0'⟩ ⟨kt', hkt'⟩, if_pos (by rw [hW.alike.assignable]; exact hasg)]
  | cons z zs ih =>
    intro S hW hc hp
    obtain ⟨hz, hz0, n2, hl2, a8, b8, h1, h2, h3⟩ := hp z List.mem_cons_self
    obtain ⟨k, hk, hcl⟩ := Cond.classLink_spec hown hl2 e.platform hpl
    cases Option.some.inj (h1.symm.trans hE)
    cases Option.some.inj (h2.symm.trans hk)
    obtain ⟨dk, _, _, kt, hd, _, _, _, _, hkt, _, hopen⟩ := hcl.here
    obtain ⟨kt', hkt', -⟩ := hW.alike.2.2 _ _ hkt
    obtain ⟨k0, hk0, -⟩ := Vm.findClass_spec hE
    obtain ⟨k0', hk0', -⟩ := hW.alike.2.2 _ _ hk0
    obtain ⟨vm', hW', hq⟩ := ih (S.setVm (S.vm.noted f.method.cls z.catchType (.cls b8))) (hW.noted hd hopen (State.rightAt_cls hcl)) hc (fun y hy => hp y (List.mem_cons_of_mem _ hy))
    refine ⟨vm', hW', fun Q E9 d acts => ?_⟩
    rw [List.cons_append, ez_row hz hz0 (hW.classLinks hcl) hc hobj ⟨k0', hk0'⟩ ⟨kt', hkt'⟩, if_neg (by rw [hW.alike.assignable, h3]; decide)]
    exact hq Q E9 d acts
/-- caught by the row x of this method's table; the rows ahead name other classes -/
theorem ez_catch {pc : Nat} {ls : Array Slot} {rest : List Value} {own nm E : String} {ce : Cell} {q : Addr} (hown : s.vm.findClass own = some m.cls) (pre : List ExceptionTableEntry) (x : ExceptionTableEntry) (suf : List ExceptionTableEntry) (hsplit : c.exceptionTable.toList = pre ++ x :: suf)
    (hpass : ∀ z ∈ pre, covers z pc = true ∧ z.catchType ≠ 0 ∧ ∃ n2 : String, (Cond.classLink own z.catchType n2).before args s = true ∧ va_Nc E n2 s) (hx : covers x pc = true) (h0 : x.catchType ≠ 0)
    (hlink : (Cond.classLink own x.catchType nm).before args s = true) (hcast : (Cond.castable E nm).before args s = true) (hcell : H[q]? = some ce) (hv : ce.vm = .none) (hE : s.vm.findClass E = some ce.cls)
    (kk : W p l e R s m args below meth c H locs cells slots Q (F0 m x.handlerPc ls [.ref q])) : ez_W p l e R s m args below meth c H locs cells slots Q (F0 m pc ls rest) q := by
  intro T hT X
  have hpl : e.platform.magicAccessors = ({} : Platform).magicAccessors := by rw [X.admits.platform]
  obtain ⟨S, hS⟩ : ∃ S : State, S = (T.setTop (F0 m pc ls rest)).pushFrame (.throwing q) := ⟨_, rfl⟩
  have hSv : S.vm = T.vm := by rw [hS]; exact Stand.throwing_vm T _ q
  have hSh : S.heap = T.heap := by rw [hS]; exact Stand.throwing_heap T _ q
  obtain ⟨vm', hW', hf⟩ := ez_find (e := e) (s := s) (f := F0 m pc ls rest) (a := q) (cell := ce) hpl hown hE (VmData.ne_statics_of (by rw [hv]; rfl)) x suf hx h0 hlink hcast pre S (by rw [hSv]; exact X.warmed) (by rw [hSh, hT]; exact hcell) hpass
  obtain ⟨t, a1, b1⟩ := kk (T.setVm vm') hT (X.noted hW')
  refine ⟨t, ?_, b1⟩
  obtain ⟨hgo, hw⟩ := X.here.throwing (g := F0 m pc ls rest) q
  refine Steps.head hgo hw ?_
  have hm' : S.vm.method? m = some meth := by rw [hSv]; exact X.method'
  have hfind : ∀ (Q : Handler → Pre) (E9 : CtlPost) (d : Bool) (acts : List Action), wp (findHandler (F0 m pc ls rest) q) Q E9 e d acts S ↔ Q (.found x.handlerPc) d acts (S.setVm vm') := fun Q E9 d acts => by
    rw [W.findHandler_eq hm' X.code, hsplit]; exact hf Q E9 d acts
  rw [stepThread_throwing (frames_entered X.here.top _), ← hS]
  obtain ⟨g₀, hg⟩ := Option.isSome_iff_exists.mp X.here.top
  obtain ⟨r, hr⟩ := State.topJava?_eq_some.mp hg
  have hr' : (T.setVm vm').frames = .java g₀ :: r := hr
  rw [State.setTop_of_frames _ hr'] at a1
  have key : (stepThrowing e S q (.java (F0 m pc ls rest) :: T.frames.tail)).1 = (S.setVm vm').setFrames (.java (F0 m x.handlerPc ls [.ref q]) :: T.frames.tail) := by
    simp only [stepThrowing, searchFrame, vmDo]
    generalize hres : Sem.go _ e false [] S = res
    obtain ⟨as, rfl, -⟩ := Sem.eq_ok_of hres (a := Handler.found x.handlerPc) (s' := S.setVm vm') (acts' := []) (by simp [hfind _ _ _ _])
    rfl
  rw [key, hS]
  have h9 : (((T.setTop (F0 m pc ls rest)).pushFrame (.throwing q)).setVm vm').setFrames (.java (F0 m x.handlerPc ls [.ref q]) :: T.frames.tail) = (T.setVm vm').setFrames (.java (F0 m x.handlerPc ls [.ref q]) :: r) := by
    rw [hr, List.tail_cons, State.pushFrame, State.setTop_of_frames _ hr]
    have h7 : ∀ (u : State) (F G : List Frame), ((u.setFrames F).setVm vm').setFrames G = (u.setVm vm').setFrames G := fun u F G => by
      have h8 : (u.setFrames F).setVm vm' = (u.setVm vm').setFrames F := rfl
      rw [h8, State.setFrames_setFrames]
    rw [h7, h7]
  rw [h9]
  exact a1
end EC
/-! methods with a table of their own -/
section ET
variable {p : Program} {l : Launch} {e : Env} {R : Room} {s : State} {m : MethodId} {args : Array Value} {below : List Frame} {meth : Method} {c : Code} {H : Heap} {locs : List Loc} {cells slots : Nat} {Q : State → Prop}
variable {pr : Option Value → State → State → Prop} {pt : Addr → State → State → Prop} {kr nr n nL maxL index pc : Nat} {free : Addr → Prop} {Pc : Array Value → State → Prop} {rm : Room} {Ts ws ws' : List Cond} {y : MethodName} {bytes cc : ByteArray} {ret : Option FieldType} {own : String} {As rest st0 : List Value} {ls : Array Slot} {hh : List (Nat × Nat × Nat × Nat)}
theorem ez_ofWT (hy : plainName y.cls = true) (hw : ws = Cond.codeWith y cc maxL ret hh :: ws')
    (body : ∀ p e s m args below meth c s₁, BodyLoose p l y (headSpec ws rm) cc maxL ret e s m args below meth c s₁ → c.maxLocals = maxL → c.exceptionTable.toList = tableOf hh → Pc args s →
      W p l e (headSpec ws rm).room s m args below meth c s.heap [] 0 0 (ez_MQ below pr pt s kr nr free) (entryFrame m args maxL)) : ez_M l y ws rm Pc pr pt kr nr free := by
  refine MetFree.of_bodyS (code := cc) (maxLocals := maxL) (ret := ret) hy ?_ ?_
  · intro args s m h hn
    obtain ⟨m9, meth, c, hn9, h1, h2, h3, h4, -, h5, h6, -⟩ := Cond.codeWith_spec (atoms_spec (ws := ws) h _ (by rw [hw]; exact List.mem_cons_self))
    cases hn.symm.trans hn9
    exact ⟨meth, c, h1, h2, h3, h4, h5, h6⟩
  · intro p e s m args below meth c s₁ B hml hP _
    have hh0 : s₁.heap = s.heap := by rw [B.state]; rfl
    have ht : c.exceptionTable.toList = tableOf hh := by
      obtain ⟨m9, meth9, c9, hn9, h1, h2, -, -, h6, -⟩ := Cond.codeWith_spec (atoms_spec (ws := ws) B.pre _ (by rw [hw]; exact List.mem_cons_self))
      cases Option.some.inj (hn9.symm.trans B.named)
      cases Option.some.inj (h1.symm.trans B.method)
      cases Option.some.inj (h2.symm.trans (Stand.of_body B).code)
      rw [← h6, table_eq]
    obtain ⟨t, a1, o, b1, b2, b3⟩ := body p e s m args below meth c s₁ B hml ht hP s₁ hh0 (Stand.of_body B)
    exact ⟨t, o, a1, b1, b2, b3⟩
/-- invokestatic of a method with a table -/
theorem ez_callST (S : CallFix p m c cc nL s args Ts own) (hM : ez_M l y ws rm Pc pr pt kr nr free) (hG : GoodIn Ts (wsS own index y ws)) (hw : ws = Cond.codeWith y bytes maxL ret hh :: ws') (hrc : rm.cells = 1) (hrs : rm.slots = 6)
    (hd : y.cls = own ∧ y.cls ≠ "java/lang/invoke/MethodHandle" ∧ y.cls ≠ "java/lang/invoke/VarHandle" ∧ (parseMethodDescriptor y.desc).map (fun d => d.parameters.length) = some n) (hR : rm.frames + 1 ≤ R.frames ∧ 8 + (maxL + 11) + rm.locals ≤ R.locals)
    (hp : PreS s H Pc As) (hn : As.length = n) (hsize : ls.size = nL) (hst : st0 = As.reverse ++ rest) (hroom : (rest.map fun v => v.category).sum ≤ 8) (hdg : decode cc pc = .ok (.invokestatic index, 3)) (hf : cells + 1 ≤ R.cells ∧ slots + 6 ≤ R.slots)
    (kx : ∀ (q : Addr) (st t : State) (L : List Loc), st.heap = H → s.vm.Alike t.vm → (∀ z ∈ L, free z.base) → pt q st t → ez_W p l e R s m args below meth c t.heap (locs ++ L) (cells + 1) (slots + 6) Q (F0 m pc ls rest) q)
    (kk : ∀ (v : Option Value) (st t : State) (L : List Loc), st.heap = H → s.vm.Alike t.vm → (∀ z ∈ L, free z.base) → pr v st t → W p l e R s m args below meth c t.heap (locs ++ L) (cells + kr) (slots + nr) Q (F0 m (pc + 3) ls (v.toList ++ rest))) :
    W p l e R s m args below meth c H locs cells slots Q (F0 m pc ls st0) := by
  subst hst
  obtain ⟨hx, hb, hml, ho, hts⟩ := S
  obtain ⟨hbl, hPc⟩ := hp
  obtain ⟨hcl, hy1, hy2, hd2⟩ := hd
  have ok : ∀ w ∈ wsS own index y ws, w.before args s = true := fun w h => hts w (hG w h).1
  have hG2 : GoodIn Ts ws := fun w h => hG w (by unfold wsS; exact List.mem_append_right _ h)
  have hcode : (Cond.codeWith y bytes maxL ret hh).before args s = true := hts _ (hG2 _ (by rw [hw]; exact List.mem_cons_self)).1
  have hl : (Cond.methodLink own index y).before args s = true := ok _ (by simp [wsS])
  have hstt : (Cond.static y).before args s = true := ok _ (by simp [wsS])
  have hini : (Cond.initialized y.cls).before args s = true := by rw [hcl]; exact ok _ (by simp [wsS])
  intro T hT X
  obtain ⟨mk, methM, cM, hnamed, hmethM, hcM, -, hlM, -, -, -, hsigM⟩ := Cond.codeWith_spec hcode
  have hstatic : methM.isStatic = true := Cond.static_spec hnamed hmethM hstt
  obtain ⟨kP, hkP, -⟩ := className_of_methodNamed hnamed
  have hinitP : kP.init = .initialized := Cond.initialized_spec (findClass_of_methodNamed hnamed) hkP hini
  have hlen : As.length = methM.sig.parameters.length := by
    rw [hsigM] at hd2
    exact hn.trans (Option.some.inj hd2).symm
  obtain ⟨vm₁, X₁, hstep₁⟩ := X.invokestatic hx ho hl hnamed hmethM hstatic hkP hinitP ⟨hy1, hy2⟩ (g := F0 m pc ls (As.reverse ++ rest)) rfl (argsL := As) (rest := rest) hlen rfl (by rw [hb]; exact hdg)
  obtain ⟨V, t, L, e1, e2, hL, hO⟩ := ez_back (g := F0 m pc ls rest) (a := As.toArray) X₁ rfl (hsize.trans hml.symm) (by rw [hb]; exact hdg) (W9 := 8) (by show 2 * 0 + (rest.map fun v => v.category).sum ≤ 8; omega) (X₁.named hnamed) (by rw [X₁.warmed.alike.method?]; exact hmethM) hcM hlM (word_at X₁.warmed (Or.inl (by first | rfl | simp [Cond.onTables, Cond.keeps, Cond.steady])) hini)
    hM hR.1 hR.2 (fun w h => pay_in hts hG2 w h _ _ X₁.warmed) (by rw [hrc]; exact hf.1) (by rw [hrs]; exact hf.2) (hbl _ _ _ _ (hPc (T.setVm vm₁) hT X₁.warmed))
  rcases hO with ⟨XV, v, hv, st⟩ | ⟨XV, q, hq, st⟩
  · have hal : s.vm.Alike t.vm := by rw [← e2]; exact XV.warmed.alike
    obtain ⟨t2, a1, b1⟩ := kk v ((T.setVm vm₁).calling (F0 m pc ls rest) mk As.toArray) t L hT hal hL hv V e1 XV
    exact ⟨t2, hstep₁ _ fun acts => by rw [doInvoke_state]; exact st.trans a1, b1⟩
  · have hal : s.vm.Alike t.vm := by rw [← e2]; exact XV.warmed.alike
    obtain ⟨t2, a1, b1⟩ := kx q ((T.setVm vm₁).calling (F0 m pc ls rest) mk As.toArray) t L hT hal hL hq V e1 XV
    exact ⟨t2, hstep₁ _ fun acts => by rw [doInvoke_state]; exact st.trans a1, b1⟩
end ET
