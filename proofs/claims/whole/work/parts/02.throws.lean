/-! Methods that may throw: what a caller owes and gets. The kit of this claim has no such rows: these stand on the library's own laws (Steps.callFree, Stand.invokestatic, Stand.invokevirtual, Stand.leaveThrown, Stand.ctorThrowS). -/
section EZ
/-- the frame g of this method, with q thrown over it -/
def ez_W (p : Program) (l : Launch) (e : Env) (R : Room) (s : State) (m : MethodId) (args : Array Value) (below : List Frame) (meth : Method) (c : Code) (H : Heap) (locs : List Loc) (cells slots : Nat) (Q : State → Prop) (g : JFrame) (q : Addr) : Prop :=
  ∀ T : State, T.heap = H → Stand p l e R s m args below meth c T locs cells slots → ∃ t, Steps p.tables e below ((T.setTop g).pushFrame (.throwing q)) t ∧ Q t
/-- how a method ends: an answer v with 'pr', kr cells of nr slots being new; or an object q thrown with 'pt', which is one cell of six slots -/
def ez_O (pr : Option Value → State → State → Prop) (pt : Addr → State → State → Prop) (kr nr : Nat) (free : Addr → Prop) (st : State) (o : Outcome) (t : State) : Prop :=
  st.WarmedH t.vm ∧ ∃ L : List Loc, (∀ z ∈ L, free z.base) ∧ ((∃ v, o = .returned v ∧ pr v st t ∧ st.sameButNew ({ t with vm := st.vm } : State) L kr nr) ∨ ∃ q, o = .threw q ∧ pt q st t ∧ st.sameButNew ({ t with vm := st.vm } : State) L 1 6)
def ez_M (l : Launch) (y : MethodName) (ws : List Cond) (rm : Room) (Pc : Array Value → State → Prop) (pr : Option Value → State → State → Prop) (pt : Addr → State → State → Prop) (kr nr : Nat) (free : Addr → Prop) : Prop :=
  MetFree l y (headSpec ws rm) Pc (fun _ _ _ _ _ => True) (fun _ st o t => ez_O pr pt kr nr free st o t)
/-- what the body owes at its end -/
def ez_MQ (below : List Frame) (pr : Option Value → State → State → Prop) (pt : Addr → State → State → Prop) (s : State) (kr nr : Nat) (free : Addr → Prop) (t : State) : Prop :=
  ∃ o, t.status = .running ∧ Ended t below o ∧ ez_O pr pt kr nr free s o t
section
variable {p : Program} {l : Launch} {e : Env} {R : Room} {s : State} {m : MethodId} {args : Array Value} {below : List Frame} {meth : Method} {c : Code} {H : Heap} {locs : List Loc} {cells slots : Nat} {Q : State → Prop}
variable {pr : Option Value → State → State → Prop} {pt : Addr → State → State → Prop} {kr nr : Nat} {free : Addr → Prop} {Pc : Array Value → State → Prop} {rm : Room} {ws ws' : List Cond} {y : MethodName}
/-- an answer, by the kit's own rows -/
theorem ez_ret {g : JFrame} (k : W p l e R s m args below meth c H locs cells slots (MQ below (fun _ st o t => ∃ v, o = .returned v ∧ pr v st t) args s kr nr free) g) : W p l e R s m args below meth c H locs cells slots (ez_MQ below pr pt s kr nr free) g := by
  intro T hT X
  obtain ⟨t, a1, o, b1, b2, ⟨v, b3, b8⟩, L, ⟨b4, b5, b6⟩, b7⟩ := k T hT X
  exact ⟨t, a1, o, b1, b2, b5, L, b7, Or.inl ⟨v, b3, b8, b6⟩⟩
/-- nothing in this method catches: it goes on to the caller -/
theorem ez_out {g : JFrame} {q : Addr} (hg : g.method = m) (hl0 : g.locked = none) (he0 : g.entered = []) (hout : ∀ x ∈ c.exceptionTable.toList, covers x g.pc = false) (hlocks : meth.locks = false) (hq : ∀ t : State, t.heap = H → s.WarmedH t.vm → pt q s t) (hf : ∀ z ∈ locs, free z.base) (hc : cells ≤ 1) (hs : slots ≤ 6) :
    ez_W p l e R s m args below meth c H locs cells slots (ez_MQ below pr pt s kr nr free) g q := by
  intro T hT X
  obtain ⟨st1, hrun, hend, hW, hsm⟩ := X.leaveThrown q (g := g) hg hl0 he0 hout hlocks
  exact ⟨_, st1, .threw q, hrun, hend, hW, locs, hf, Or.inr ⟨q, rfl, hq _ hT hW, hsm.mono hc hs⟩⟩
/-- a contract out of the walk of its body -/
theorem ez_ofW {cc : ByteArray} {maxL : Nat} {ret : Option FieldType} (hy : plainName y.cls = true) (hw : ws = Cond.code y cc maxL ret :: ws')
    (body : ∀ p e s m args below meth c s₁, BodyLoose p l y (headSpec ws rm) cc maxL ret e s m args below meth c s₁ → c.maxLocals = maxL → c.exceptionTable.toList = [] → Pc args s →
      W p l e (headSpec ws rm).room s m args below meth c s.heap [] 0 0 (ez_MQ below pr pt s kr nr free) (entryFrame m args maxL)) : ez_M l y ws rm Pc pr pt kr nr free := by
  refine MetFree.of_bodyS (code := cc) (maxLocals := maxL) (ret := ret) hy ?_ ?_
  · intro args s m h hn
    obtain ⟨meth, c, h1, h2, h3, h4, h5, h6, -, -⟩ := Cond.code_spec hn (atoms_spec (ws := ws) h _ (by rw [hw]; exact List.mem_cons_self))
    exact ⟨meth, c, h1, h2, h3, h4, h5, h6⟩
  · intro p e s m args below meth c s₁ B hml hP _
    have hh0 : s₁.heap = s.heap := by rw [B.state]; rfl
    have ht : c.exceptionTable.toList = [] := by
      obtain ⟨meth9, c9, h1, h2, -, -, -, -, h7, -⟩ := Cond.code_spec B.named (atoms_spec (ws := ws) B.pre _ (by rw [hw]; exact List.mem_cons_self))
      cases Option.some.inj (h1.symm.trans B.method)
      cases Option.some.inj (h2.symm.trans (Stand.of_body B).code)
      rw [Array.isEmpty_iff.mp h7]
    obtain ⟨t, a1, o, b1, b2, b3⟩ := body p e s m args below meth c s₁ B hml ht hP s₁ hh0 (Stand.of_body B)
    exact ⟨t, o, a1, b1, b2, b3⟩
/-- behind a call: the same frame again, with an answer on its stack or an object thrown over it -/
theorem ez_back {U : State} {maxL W9 len : Nat} {g : JFrame} {ig : Instr} {mk : MethodId} {a : Array Value} {methY : Method} {cY : Code}
    (X : Stand p l e R s m args below meth c U locs cells slots) (hg : g.method = m) (hsize : g.locals.size = c.maxLocals) (hdg : decode c.code g.pc = .ok (ig, len)) (hW9 : 2 * g.monitorRoom + (g.stack.map fun v => v.category).sum ≤ W9)
    (hn : U.methodNamed? y = some mk) (hmY : U.vm.method? mk = some methY) (hcY : methY.code = some cY) (hlY : cY.maxLocals = maxL) (hini : (Cond.initialized y.cls).before a U = true)
    (hM : ez_M l y ws rm Pc pr pt kr nr free) (hframes : rm.frames + 1 ≤ R.frames) (hlocals : W9 + (maxL + 11) + rm.locals ≤ R.locals)
    (hws : ∀ w ∈ ws, w.before a U = true) (hc : cells + rm.cells ≤ R.cells) (hs : slots + rm.slots ≤ R.slots) (hPc : Pc a (U.calling g mk a)) :
    ∃ (T t : State) (L : List Loc), T.heap = t.heap ∧ T.vm = t.vm ∧ (∀ z ∈ L, free z.base) ∧
      ((Stand p l e R s m args below meth c T (locs ++ L) (cells + kr) (slots + nr) ∧ ∃ v, pr v (U.calling g mk a) t ∧ Steps p.tables e below (doInvoke e (U.setTop g) [] mk a).1 (T.setTop { g with pc := g.pc + len, stack := v.toList ++ g.stack })) ∨
        (Stand p l e R s m args below meth c T (locs ++ L) (cells + 1) (slots + 6) ∧ ∃ q, pt q (U.calling g mk a) t ∧ Steps p.tables e below (doInvoke e (U.setTop g) [] mk a).1 ((T.setTop g).pushFrame (.throwing q)))) := by
  subst hg
  obtain ⟨kY, hkY, -⟩ := className_of_methodNamed hn
  have hinitY : kY.init = .initialized := Cond.initialized_spec (findClass_of_methodNamed hn) hkY hini
  have happ : (headSpec ws rm).appliesLoose y e.platform (U.calling g mk a) = true := Spec.appliesLoose_calling (g := g) X.here hdg hn hkY hinitY (X.room_calling (g := g) (R' := (headSpec ws rm).room) hsize hmY hcY hframes (by rw [hlY]; show _ + _ + rm.locals ≤ _; omega) hc hs) (atoms_intro hws)
  obtain ⟨mid, hmid⟩ := X.here.above
  have hfr : (U.setTop g).frames = (.java g :: mid) ++ below := by rw [State.frames_setTop' g X.here.top, hmid]; rfl
  obtain ⟨o, t, hsteps, -, hend, hW, L, hL, hO⟩ := Steps.callFree hM p X.admits X.cas X.clock (acts := []) hfr happ hPc trivial
  rw [State.frames_setTop' g X.here.top] at hend
  obtain ⟨g₀, hg0⟩ := Option.isSome_iff_exists.mp X.here.top
  obtain ⟨r, hr⟩ := State.topJava?_eq_some.mp hg0
  obtain ⟨V, hV⟩ : ∃ V : State, V = (({ U with heap := t.heap, slotsUsed := t.slotsUsed } : State).setVm t.vm) := ⟨_, rfl⟩
  have hVf : V.frames = .java g₀ :: r := by rw [hV]; exact hr
  have hW' : U.WarmedH t.vm := hW
  have ht : ∀ k n, (U.calling g mk a).sameButNew ({ t with vm := (U.calling g mk a).vm } : State) L k n → t = V.setFrames t.frames := by
    intro k n hsm
    have e2 := hsm.1
    have h1 : t = ({ t with vm := (U.calling g mk a).vm } : State).setVm t.vm := rfl
    rw [e2, State.calling_eq X.here.top] at h1
    rw [hV]
    refine h1.trans ?_
    rw [State.setFrames_setFrames]
    rfl
  have XV : ∀ k n, (U.calling g mk a).sameButNew ({ t with vm := (U.calling g mk a).vm } : State) L k n → Stand p l e R s g.method args below meth c V (locs ++ L) (cells + k) (slots + n) := by
    intro k n hsm
    obtain ⟨-, q2, q3, q4, q5, q6⟩ := hsm
    have hsame : U.sameButNew ({ U with heap := t.heap, slotsUsed := t.slotsUsed } : State) L k n := by
      refine ⟨?_, q2, q3, q4, q5, q6⟩
      obtain ⟨t9, ht9, -⟩ := State.frames_cons hr
      show ({ U with heap := t.heap, slotsUsed := t.slotsUsed } : State) = { U.setFrames U.frames with heap := t.heap, slotsUsed := t.slotsUsed }
      rw [State.setFrames_self ht9]
    rw [hV]
    exact ⟨X.admits, X.cas, X.clock, X.frames, X.room, X.hears, X.method, X.code, (X.here.setHeapUsed t.heap t.slotsUsed).setVm hW'.alike, X.tail, State.WarmedH.trans X.warmed hW', X.limits, X.bytes, X.same.trans (hsame.setVm s.vm)⟩
  refine ⟨V, t, L, by rw [hV]; rfl, by rw [hV]; rfl, hL, ?_⟩
  rcases hO with ⟨v, rfl, hv, hsm⟩ | ⟨q, rfl, hq, hsm⟩
  · refine Or.inl ⟨XV _ _ hsm, v, hv, ?_⟩
    obtain ⟨c₂, i₂, len₂, hc₂, hd₂, hf₂⟩ := hend
    have hcc : c₂ = c := by
      have h1 : t.code? g.method = U.code? g.method := by rw [State.code?_eq, State.code?_eq, hW'.alike.method?]
      exact Option.some.inj (hc₂.symm.trans (h1.trans X.here.code))
    subst hcc
    rw [hdg] at hd₂
    cases hd₂
    have h9 : t = V.setTop { g with pc := g.pc + len, stack := v.toList ++ g.stack } := by
      rw [State.setTop_of_frames _ hVf]
      refine (ht _ _ hsm).trans ?_
      rw [hf₂, hr]
      rfl
    rw [← h9]
    exact hsteps
  · refine Or.inr ⟨XV _ _ hsm, q, hq, ?_⟩
    have hf₂ : t.frames = .throwing q :: .java g :: U.frames.tail := hend
    have h9 : t = (V.setTop g).pushFrame (.throwing q) := by
      rw [State.pushFrame, State.frames_setTop _ hVf, State.setTop_of_frames _ hVf, State.setFrames_setFrames]
      refine (ht _ _ hsm).trans ?_
      rw [hf₂, hr]
      rfl
    rw [← h9]
    exact hsteps
end
section
variable {p : Program} {l : Launch} {e : Env} {R : Room} {s : State} {m : MethodId} {args : Array Value} {below : List Frame} {meth : Method} {c : Code} {H : Heap} {locs : List Loc} {cells slots : Nat} {Q : State → Prop}
variable {pr : Option Value → State → State → Prop} {pt : Addr → State → State → Prop} {kr nr n nL maxL index pc : Nat} {free : Addr → Prop} {Pc : Array Value → State → Prop} {rm : Room} {Ts ws ws' : List Cond} {y : MethodName} {bytes cc : ByteArray} {ret : Option FieldType} {own C : String} {As rest st0 : List Value} {ls : Array Slot} {b : Addr}
/-- invokestatic -/
theorem ez_callS (S : CallFix p m c cc nL s args Ts own) (hM : ez_M l y ws rm Pc pr pt kr nr free) (cw : CallB R s args own index y bytes maxL ret ws rm 1 6 n ∧ (Cond.static y).before args s = true) (hp : PreS s H Pc As) (hn : As.length = n) (hsize : ls.size = nL) (hst : st0 = As.reverse ++ rest) (hroom : (rest.map fun v => v.category).sum ≤ 8) (hdg : decode cc pc = .ok (.invokestatic index, 3)) (hf : cells + 1 ≤ R.cells ∧ slots + 6 ≤ R.slots)
    (kx : ∀ (q : Addr) (st t : State) (L : List Loc), st.heap = H → s.vm.Alike t.vm → (∀ z ∈ L, free z.base) → pt q st t → ez_W p l e R s m args below meth c t.heap (locs ++ L) (cells + 1) (slots + 6) Q (F0 m pc ls rest) q)
    (kk : ∀ (v : Option Value) (st t : State) (L : List Loc), st.heap = H → s.vm.Alike t.vm → (∀ z ∈ L, free z.base) → pr v st t → W p l e R s m args below meth c t.heap (locs ++ L) (cells + kr) (slots + nr) Q (F0 m (pc + 3) ls (v.toList ++ rest))) :
    W p l e R s m args below meth c H locs cells slots Q (F0 m pc ls st0) := by
  subst hst
  obtain ⟨⟨hrc, hrs, hfr, hlo, hws, hcw, hcode, hini, hy, hlen, hl⟩, hstt⟩ := cw
  obtain ⟨hx, hb, hml, ho, -⟩ := S
  obtain ⟨hbl, hPc⟩ := hp
  intro T hT X
  obtain ⟨mk, hnamed⟩ := Cond.code_named hcode
  obtain ⟨methM, cM, hmethM, hcM, -, hlM, -, -, -, hsigM⟩ := Cond.code_spec hnamed hcode
  have hstatic : methM.isStatic = true := Cond.static_spec hnamed hmethM hstt
  obtain ⟨kP, hkP, -⟩ := className_of_methodNamed hnamed
  have hinitP : kP.init = .initialized := Cond.initialized_spec (findClass_of_methodNamed hnamed) hkP hini
  obtain ⟨vm₁, X₁, hstep₁⟩ := X.invokestatic hx ho hl hnamed hmethM hstatic hkP hinitP hy (g := F0 m pc ls (As.reverse ++ rest)) rfl (argsL := As) (rest := rest) (hn.trans (hlen _ hsigM)) rfl (by rw [hb]; exact hdg)
  obtain ⟨V, t, L, e1, e2, hL, hO⟩ := ez_back (g := F0 m pc ls rest) (a := As.toArray) X₁ rfl (hsize.trans hml.symm) (by rw [hb]; exact hdg) (W9 := 8) (by show 2 * 0 + (rest.map fun v => v.category).sum ≤ 8; omega) (X₁.named hnamed) (by rw [X₁.warmed.alike.method?]; exact hmethM) hcM hlM (word_at X₁.warmed (Or.inl (by first | rfl | simp [Cond.onTables, Cond.keeps, Cond.steady])) hini)
    hM hfr hlo (fun w h => hws w h _ _ X₁.warmed) (by rw [hrc]; exact hf.1) (by rw [hrs]; exact hf.2) (hbl _ _ _ _ (hPc (T.setVm vm₁) hT X₁.warmed))
  rcases hO with ⟨XV, v, hv, st⟩ | ⟨XV, q, hq, st⟩
  · have hal : s.vm.Alike t.vm := by rw [← e2]; exact XV.warmed.alike
    obtain ⟨t2, a1, b1⟩ := kk v ((T.setVm vm₁).calling (F0 m pc ls rest) mk As.toArray) t L hT hal hL hv V e1 XV
    exact ⟨t2, hstep₁ _ fun acts => by rw [doInvoke_state]; exact st.trans a1, b1⟩
  · have hal : s.vm.Alike t.vm := by rw [← e2]; exact XV.warmed.alike
    obtain ⟨t2, a1, b1⟩ := kx q ((T.setVm vm₁).calling (F0 m pc ls rest) mk As.toArray) t L hT hal hL hq V e1 XV
    exact ⟨t2, hstep₁ _ fun acts => by rw [doInvoke_state]; exact st.trans a1, b1⟩
/-- invokevirtual, of a method that the receiver's class has itself -/
theorem ez_callV (S : CallFix p m c cc nL s args Ts own) (hM : ez_M l y ws rm Pc pr pt kr nr free) (cw : CallW R s args own C index y bytes maxL ret ws rm 1 6 n) (hp : PreV s H C b Pc As) (hn : As.length = n) (hsize : ls.size = nL) (hst : st0 = As.reverse ++ .ref b :: rest) (hroom : (rest.map fun v => v.category).sum ≤ 8) (hdg : decode cc pc = .ok (.invokevirtual index, 3)) (hf : cells + 1 ≤ R.cells ∧ slots + 6 ≤ R.slots)
    (kx : ∀ (q : Addr) (st t : State) (L : List Loc), st.heap = H → s.vm.Alike t.vm → (∀ z ∈ L, free z.base) → pt q st t → ez_W p l e R s m args below meth c t.heap (locs ++ L) (cells + 1) (slots + 6) Q (F0 m pc ls rest) q)
    (kk : ∀ (v : Option Value) (st t : State) (L : List Loc), st.heap = H → s.vm.Alike t.vm → (∀ z ∈ L, free z.base) → pr v st t → W p l e R s m args below meth c t.heap (locs ++ L) (cells + kr) (slots + nr) Q (F0 m (pc + 3) ls (v.toList ++ rest))) :
    W p l e R s m args below meth c H locs cells slots Q (F0 m pc ls st0) := by
  subst hst
  obtain ⟨⟨hrc, hrs, hfr, hlo, hws, hcw, hcode, hini, hy, hlen, hl⟩, hin, hse⟩ := cw
  obtain ⟨hx, hb, hml, ho, -⟩ := S
  obtain ⟨hbl, ⟨cellB, hcB, hoB, hclB⟩, hPc⟩ := hp
  intro T hT X
  obtain ⟨mk, methM, hnamed, hmethM, hstM, habM⟩ := Cond.instanceMethod_spec hin
  obtain ⟨methM', cM, hmethM', hcM, -, hlM, -, -, -, hsigM⟩ := Cond.code_spec hnamed hcode
  cases hmethM.symm.trans hmethM'
  obtain ⟨c2, r2, m2, q1, q2, q3, q4, kP, hkP, hkPi⟩ := Cond.selects_spec hse
  cases hclB.symm.trans q1
  cases (State.methodFound?_of_named hnamed hy).symm.trans q2
  cases hnamed.symm.trans q3
  have hselP : selectMethod e.platform s.vm cellB.cls mk = .method mk := by rw [Launch.admits_selectMethod X.admits]; exact q4
  obtain ⟨vm₁, X₁, hstep₁⟩ := X.invokevirtual hx ho hl hnamed hmethM hstM hkP hkPi hy (a := b) (cell := cellB) (by rw [hT]; exact hcB)
    (fun z h => by rw [h] at hoB; cases hoB) hselP hmethM habM hkP hkPi (g := F0 m pc ls (As.reverse ++ .ref b :: rest)) rfl (argsL := As) (rest := rest) (hn.trans (hlen _ hsigM)) rfl (by rw [hb]; exact hdg)
  obtain ⟨V, t, L, e1, e2, hL, hO⟩ := ez_back (g := F0 m pc ls rest) (a := (Value.ref b :: As).toArray) X₁ rfl (hsize.trans hml.symm) (by rw [hb]; exact hdg) (W9 := 8) (by show 2 * 0 + (rest.map fun v => v.category).sum ≤ 8; omega) (X₁.named hnamed) (by rw [X₁.warmed.alike.method?]; exact hmethM) hcM hlM (word_at X₁.warmed (Or.inl (by first | rfl | simp [Cond.onTables, Cond.keeps, Cond.steady])) hini)
    hM hfr hlo (fun w h => hws w h _ _ X₁.warmed) (by rw [hrc]; exact hf.1) (by rw [hrs]; exact hf.2) (hbl _ _ _ _ (hPc (T.setVm vm₁) hT X₁.warmed))
  rcases hO with ⟨XV, v, hv, st⟩ | ⟨XV, q, hq, st⟩
  · have hal : s.vm.Alike t.vm := by rw [← e2]; exact XV.warmed.alike
    obtain ⟨t2, a1, b1⟩ := kk v ((T.setVm vm₁).calling (F0 m pc ls rest) mk (Value.ref b :: As).toArray) t L hT hal hL hv V e1 XV
    exact ⟨t2, hstep₁ _ fun acts => by rw [doInvoke_state]; exact st.trans a1, b1⟩
  · have hal : s.vm.Alike t.vm := by rw [← e2]; exact XV.warmed.alike
    obtain ⟨t2, a1, b1⟩ := kx q ((T.setVm vm₁).calling (F0 m pc ls rest) mk (Value.ref b :: As).toArray) t L hT hal hL hq V e1 XV
    exact ⟨t2, hstep₁ _ fun acts => by rw [doInvoke_state]; exact st.trans a1, b1⟩
end
end EZ
