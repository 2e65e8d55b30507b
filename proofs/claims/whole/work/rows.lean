section
-- ===== PART A: goes FIRST, ahead of the names: the tables' words, and 'selects' of the private methods out of them =====
/-- a private method of a class that the tables say can be made, by its rows of tables_1 -/
def lw_okq (q : MethodName × Nat) : Prop := (q.1.cls ≠ "java/lang/invoke/MethodHandle" ∧ q.1.cls ≠ "java/lang/invoke/VarHandle") ∧ Cond.instantiable q.1.cls q.2 ∈ tables_1 ∧ Cond.privateMethod q.1 ∈ tables_1 ∧ Cond.instanceMethod q.1 ∈ tables_1
theorem lw_p0 : lw_okq (⟨"QuorumCouncil", "peerSet", "()I"⟩, 14) := ⟨⟨by decide +kernel, by decide +kernel⟩, List.mem_of_getElem? (i := 12) (by decide +kernel), List.mem_of_getElem? (i := 73) (by decide +kernel), List.mem_of_getElem? (i := 74) (by decide +kernel)⟩
theorem lw_p1 : lw_okq (⟨"QuorumCouncil", "voterSet", "()I"⟩, 14) := ⟨⟨by decide +kernel, by decide +kernel⟩, List.mem_of_getElem? (i := 12) (by decide +kernel), List.mem_of_getElem? (i := 77) (by decide +kernel), List.mem_of_getElem? (i := 78) (by decide +kernel)⟩
theorem lw_p2 : lw_okq (⟨"java/lang/Throwable", "fillInStackTrace", "(I)Ljava/lang/Throwable;"⟩, 6) := ⟨⟨by decide +kernel, by decide +kernel⟩, List.mem_of_getElem? (i := 140) (by decide +kernel), List.mem_of_getElem? (i := 138) (by decide +kernel), List.mem_of_getElem? (i := 139) (by decide +kernel)⟩
theorem lw_p3 : lw_okq (⟨"QuorumCouncil", "learnersMatching", "(I)I"⟩, 14) := ⟨⟨by decide +kernel, by decide +kernel⟩, List.mem_of_getElem? (i := 12) (by decide +kernel), List.mem_of_getElem? (i := 181) (by decide +kernel), List.mem_of_getElem? (i := 182) (by decide +kernel)⟩
theorem lw_p4 : lw_okq (⟨"QuorumCouncil", "isMajority", "(I)Z"⟩, 14) := ⟨⟨by decide +kernel, by decide +kernel⟩, List.mem_of_getElem? (i := 12) (by decide +kernel), List.mem_of_getElem? (i := 220) (by decide +kernel), List.mem_of_getElem? (i := 221) (by decide +kernel)⟩
theorem lw_p5 : lw_okq (⟨"QuorumCouncil", "requirePeer", "(I)V"⟩, 14) := ⟨⟨by decide +kernel, by decide +kernel⟩, List.mem_of_getElem? (i := 12) (by decide +kernel), List.mem_of_getElem? (i := 279) (by decide +kernel), List.mem_of_getElem? (i := 280) (by decide +kernel)⟩
theorem lw_p6 : lw_okq (⟨"QuorumCouncil", "sendSnapshotPiece", "(I)I"⟩, 14) := ⟨⟨by decide +kernel, by decide +kernel⟩, List.mem_of_getElem? (i := 12) (by decide +kernel), List.mem_of_getElem? (i := 285) (by decide +kernel), List.mem_of_getElem? (i := 286) (by decide +kernel)⟩
theorem lw_p7 : lw_okq (⟨"QuorumCouncil", "mayFlyMore", "(I)Z"⟩, 14) := ⟨⟨by decide +kernel, by decide +kernel⟩, List.mem_of_getElem? (i := 12) (by decide +kernel), List.mem_of_getElem? (i := 289) (by decide +kernel), List.mem_of_getElem? (i := 290) (by decide +kernel)⟩
theorem lw_p8 : lw_okq (⟨"QuorumCouncil", "sendEntries", "(II)I"⟩, 14) := ⟨⟨by decide +kernel, by decide +kernel⟩, List.mem_of_getElem? (i := 12) (by decide +kernel), List.mem_of_getElem? (i := 293) (by decide +kernel), List.mem_of_getElem? (i := 294) (by decide +kernel)⟩
theorem lw_p9 : lw_okq (⟨"QuorumCouncil", "hear", "(III)V"⟩, 14) := ⟨⟨by decide +kernel, by decide +kernel⟩, List.mem_of_getElem? (i := 12) (by decide +kernel), List.mem_of_getElem? (i := 307) (by decide +kernel), List.mem_of_getElem? (i := 308) (by decide +kernel)⟩
theorem lw_p10 : lw_okq (⟨"QuorumCouncil", "whatMajorityHas", "([I)I"⟩, 14) := ⟨⟨by decide +kernel, by decide +kernel⟩, List.mem_of_getElem? (i := 12) (by decide +kernel), List.mem_of_getElem? (i := 342) (by decide +kernel), List.mem_of_getElem? (i := 343) (by decide +kernel)⟩
theorem lw_p11 : lw_okq (⟨"QuorumCouncilModel", "get", "(II)I"⟩, 8) := ⟨⟨by decide +kernel, by decide +kernel⟩, List.mem_of_getElem? (i := 355) (by decide +kernel), List.mem_of_getElem? (i := 404) (by decide +kernel), List.mem_of_getElem? (i := 405) (by decide +kernel)⟩
theorem lw_p12 : lw_okq (⟨"QuorumCouncilModel", "fail", "(I)I"⟩, 8) := ⟨⟨by decide +kernel, by decide +kernel⟩, List.mem_of_getElem? (i := 355) (by decide +kernel), List.mem_of_getElem? (i := 412) (by decide +kernel), List.mem_of_getElem? (i := 413) (by decide +kernel)⟩
theorem lw_p13 : lw_okq (⟨"QuorumCouncilModel", "carries", "(I)Z"⟩, 8) := ⟨⟨by decide +kernel, by decide +kernel⟩, List.mem_of_getElem? (i := 355) (by decide +kernel), List.mem_of_getElem? (i := 420) (by decide +kernel), List.mem_of_getElem? (i := 421) (by decide +kernel)⟩
theorem lw_p14 : lw_okq (⟨"QuorumCouncilModel", "put", "(III)V"⟩, 8) := ⟨⟨by decide +kernel, by decide +kernel⟩, List.mem_of_getElem? (i := 355) (by decide +kernel), List.mem_of_getElem? (i := 443) (by decide +kernel), List.mem_of_getElem? (i := 444) (by decide +kernel)⟩
theorem lw_p15 : lw_okq (⟨"QuorumCouncilModel", "peers", "()I"⟩, 8) := ⟨⟨by decide +kernel, by decide +kernel⟩, List.mem_of_getElem? (i := 355) (by decide +kernel), List.mem_of_getElem? (i := 451) (by decide +kernel), List.mem_of_getElem? (i := 452) (by decide +kernel)⟩
def lw_privs_1 : List (MethodName × Nat) := [(⟨"QuorumCouncil", "peerSet", "()I"⟩, 14), (⟨"QuorumCouncil", "voterSet", "()I"⟩, 14), (⟨"java/lang/Throwable", "fillInStackTrace", "(I)Ljava/lang/Throwable;"⟩, 6), (⟨"QuorumCouncil", "learnersMatching", "(I)I"⟩, 14), (⟨"QuorumCouncil", "isMajority", "(I)Z"⟩, 14), (⟨"QuorumCouncil", "requirePeer", "(I)V"⟩, 14), (⟨"QuorumCouncil", "sendSnapshotPiece", "(I)I"⟩, 14), (⟨"QuorumCouncil", "mayFlyMore", "(I)Z"⟩, 14), (⟨"QuorumCouncil", "sendEntries", "(II)I"⟩, 14), (⟨"QuorumCouncil", "hear", "(III)V"⟩, 14), (⟨"QuorumCouncil", "whatMajorityHas", "([I)I"⟩, 14), (⟨"QuorumCouncilModel", "get", "(II)I"⟩, 8), (⟨"QuorumCouncilModel", "fail", "(I)I"⟩, 8), (⟨"QuorumCouncilModel", "carries", "(I)Z"⟩, 8), (⟨"QuorumCouncilModel", "put", "(III)V"⟩, 8), (⟨"QuorumCouncilModel", "peers", "()I"⟩, 8)]
theorem lw_r1 : ∀ q ∈ lw_privs_1, lw_okq q := List.forall_mem_cons.mpr ⟨lw_p0, List.forall_mem_cons.mpr ⟨lw_p1, List.forall_mem_cons.mpr ⟨lw_p2, List.forall_mem_cons.mpr ⟨lw_p3, List.forall_mem_cons.mpr ⟨lw_p4, List.forall_mem_cons.mpr ⟨lw_p5, List.forall_mem_cons.mpr ⟨lw_p6, List.forall_mem_cons.mpr ⟨lw_p7, List.forall_mem_cons.mpr ⟨lw_p8, List.forall_mem_cons.mpr ⟨lw_p9, List.forall_mem_cons.mpr ⟨lw_p10, List.forall_mem_cons.mpr ⟨lw_p11, List.forall_mem_cons.mpr ⟨lw_p12, List.forall_mem_cons.mpr ⟨lw_p13, List.forall_mem_cons.mpr ⟨lw_p14, List.forall_mem_cons.mpr ⟨lw_p15, fun _ h => absurd h List.not_mem_nil⟩⟩⟩⟩⟩⟩⟩⟩⟩⟩⟩⟩⟩⟩⟩⟩
theorem lw_p16 : lw_okq (⟨"QuorumCouncilModel", "bad", "(IIIII)Z"⟩, 8) := ⟨⟨by decide +kernel, by decide +kernel⟩, List.mem_of_getElem? (i := 355) (by decide +kernel), List.mem_of_getElem? (i := 463) (by decide +kernel), List.mem_of_getElem? (i := 464) (by decide +kernel)⟩
theorem lw_p17 : lw_okq (⟨"QuorumCouncilModel", "answered", "(III)V"⟩, 8) := ⟨⟨by decide +kernel, by decide +kernel⟩, List.mem_of_getElem? (i := 355) (by decide +kernel), List.mem_of_getElem? (i := 467) (by decide +kernel), List.mem_of_getElem? (i := 468) (by decide +kernel)⟩
def lw_privs_2 : List (MethodName × Nat) := [(⟨"QuorumCouncilModel", "bad", "(IIIII)Z"⟩, 8), (⟨"QuorumCouncilModel", "answered", "(III)V"⟩, 8)]
theorem lw_r2 : ∀ q ∈ lw_privs_2, lw_okq q := List.forall_mem_cons.mpr ⟨lw_p16, List.forall_mem_cons.mpr ⟨lw_p17, fun _ h => absurd h List.not_mem_nil⟩⟩
def lw_privs : List (MethodName × Nat) := lw_privs_1 ++ (lw_privs_2)
def lw_tbl : List Cond := k2_sels lw_privs ++ tables_1
theorem lw_privs_ok : ∀ q ∈ lw_privs, lw_okq q := by
  show ∀ q ∈ lw_privs_1 ++ (lw_privs_2), lw_okq q
  exact List.forall_mem_append.mpr ⟨lw_r1, lw_r2⟩
end
section
/-! Methods that may throw: what a caller owes and gets. The kit of this claim has no such rows: these stand on the library's own laws (Steps.callFree, Stand.invokestatic, Stand.invokevirtual, Stand.leaveThrown, Stand.ctorThrowS). -/
section EZ
/-- the frame g of this method, with q thrown over it -/
def ez_W (p : Program) (l : Launch) (e : Env) (R : Room) (s : State) (m : MethodId) (args : Array Value) (below : List Frame) (meth : Method) (c : Code) (H : Heap) (locs : List Loc) (cells slots : Nat) (Q : State → Prop) (g : JFrame) (q : Addr) : Prop :=
  ∀ T : State, T.heap = H → Stand p l e R s m args below meth c T locs cells slots → ∃ t, Steps p.tables e below ((T.setTop g).pushFrame (.throwing q)) t ∧ Q t
/-- how a method ends: an answer v with 'pr', kr cells of nr slots being new; or an object q thrown with 'pt', which is one cell of six slots -/
def ez_O (pr : Option Value → State → State → Prop) (pt : Addr → State → State → Prop) (kr nr : Nat) (free : Addr → Prop) (st : State) (o : Outcome) (t : State) : Prop :=
  st.WarmedH t.vm ∧ ∃ L : List Loc, (∀ z ∈ L, free z.base) ∧ ((∃ v, o = .returned v ∧ pr v st t ∧ st.sameButNew ({ t with vm := st.vm } : State) L kr nr) ∨ ∃ q, o = .threw q ∧ pt q st t ∧ st.sameButNew ({ t with vm := st.vm } : State) L 1 6)
def ez_M (l : Launch) (y : MethodName) (ws : List Cond) (rm : Room) (Pc : Array Value → State → Prop) (pr : Option Value → State → State → Prop) (pt : Addr → State → State → Prop) (kr nr : Nat) (free : Addr → Prop) : Prop :=
  MetFree l y (headSpec ws rm) Pc (fun _ _ _ _ _ => True) (fun _ st o t => ez_O pr pt kr nr free st o t)
/-- what the body owes at its end -/
def ez_MQ (below : List Frame) (pr : Option Value → State → State → Prop) (pt : Addr → State → State → Prop) (s : State) (kr nr : Nat) (free : Addr → Prop) (t : State) : Prop :=
  ∃ o, t.status = .running ∧ Ended t below o ∧ ez_O pr pt kr nr free s o t
section
variable {p : Program} {l : Launch} {e : Env} {R : Room} {s : State} {m : MethodId} {args : Array Value} {below : List Frame} {meth : Method} {c : Code} {H : Heap} {locs : List Loc} {cells slots : Nat} {Q : State → Prop}
variable {pr : Option Value → State → State → Prop} {pt : Addr → State → State → Prop} {kr nr : Nat} {free : Addr → Prop} {Pc : Array Value → State → Prop} {rm : Room} {ws ws' : List Cond} {y : MethodName}
/-- an answer, by the kit's own rows -/
theorem ez_ret {g : JFrame} (k : W p l e R s m args below meth c H locs cells slots (MQ below (fun _ st o t => ∃ v, o = .returned v ∧ pr v st t) args s kr nr free) g) : W p l e R s m args below meth c H locs cells slots (ez_MQ below pr pt s kr nr free) g := by
  intro T hT X
  obtain ⟨t, a1, o, b1, b2, ⟨v, b3, b8⟩, L, ⟨b4, b5, b6⟩, b7⟩ := k T hT X
  exact ⟨t, a1, o, b1, b2, b5, L, b7, Or.inl ⟨v, b3, b8, b6⟩⟩
/-- nothing in this method catches: it goes on to the caller -/
theorem ez_out {g : JFrame} {q : Addr} (hg : g.method = m) (hl0 : g.locked = none) (he0 : g.entered = []) (hout : ∀ x ∈ c.exceptionTable.toList, covers x g.pc = false) (hlocks : meth.locks = false) (hq : ∀ t : State, t.heap = H → s.WarmedH t.vm → pt q s t) (hf : ∀ z ∈ locs, free z.base) (hc : cells ≤ 1) (hs : slots ≤ 6) :
    ez_W p l e R s m args below meth c H locs cells slots (ez_MQ below pr pt s kr nr free) g q := by
  intro T hT X
  obtain ⟨st1, hrun, hend, hW, hsm⟩ := X.leaveThrown q (g := g) hg hl0 he0 hout hlocks
  exact ⟨_, st1, .threw q, hrun, hend, hW, locs, hf, Or.inr ⟨q, rfl, hq _ hT hW, hsm.mono hc hs⟩⟩
/-- a contract out of the walk of its body -/
theorem ez_ofW {cc : ByteArray} {maxL : Nat} {ret : Option FieldType} (hy : plainName y.cls = true) (hw : ws = Cond.code y cc maxL ret :: ws')
    (body : ∀ p e s m args below meth c s₁, BodyLoose p l y (headSpec ws rm) cc maxL ret e s m args below meth c s₁ → c.maxLocals = maxL → c.exceptionTable.toList = [] → Pc args s →
      W p l e (headSpec ws rm).room s m args below meth c s.heap [] 0 0 (ez_MQ below pr pt s kr nr free) (entryFrame m args maxL)) : ez_M l y ws rm Pc pr pt kr nr free := by
  refine MetFree.of_bodyS (code := cc) (maxLocals := maxL) (ret := ret) hy ?_ ?_
  · intro args s m h hn
    obtain ⟨meth, c, h1, h2, h3, h4, h5, h6, -, -⟩ := Cond.code_spec hn (atoms_spec (ws := ws) h _ (by rw [hw]; exact List.mem_cons_self))
    exact ⟨meth, c, h1, h2, h3, h4, h5, h6⟩
  · intro p e s m args below meth c s₁ B hml hP _
    have hh0 : s₁.heap = s.heap := by rw [B.state]; rfl
    have ht : c.exceptionTable.toList = [] := by
      obtain ⟨meth9, c9, h1, h2, -, -, -, -, h7, -⟩ := Cond.code_spec B.named (atoms_spec (ws := ws) B.pre _ (by rw [hw]; exact List.mem_cons_self))
      cases Option.some.inj (h1.symm.trans B.method)
      cases Option.some.inj (h2.symm.trans (Stand.of_body B).code)
      rw [Array.isEmpty_iff.mp h7]
    obtain ⟨t, a1, o, b1, b2, b3⟩ := body p e s m args below meth c s₁ B hml ht hP s₁ hh0 (Stand.of_body B)
    exact ⟨t, o, a1, b1, b2, b3⟩
/-- behind a call: the same frame again, with an answer on its stack or an object thrown over it -/
theorem ez_back {U : State} {maxL W9 len : Nat} {g : JFrame} {ig : Instr} {mk : MethodId} {a : Array Value} {methY : Method} {cY : Code}
    (X : Stand p l e R s m args below meth c U locs cells slots) (hg : g.method = m) (hsize : g.locals.size = c.maxLocals) (hdg : decode c.code g.pc = .ok (ig, len)) (hW9 : 2 * g.monitorRoom + (g.stack.map fun v => v.category).sum ≤ W9)
    (hn : U.methodNamed? y = some mk) (hmY : U.vm.method? mk = some methY) (hcY : methY.code = some cY) (hlY : cY.maxLocals = maxL) (hini : (Cond.initialized y.cls).before a U = true)
    (hM : ez_M l y ws rm Pc pr pt kr nr free) (hframes : rm.frames + 1 ≤ R.frames) (hlocals : W9 + (maxL + 11) + rm.locals ≤ R.locals)
    (hws : ∀ w ∈ ws, w.before a U = true) (hc : cells + rm.cells ≤ R.cells) (hs : slots + rm.slots ≤ R.slots) (hPc : Pc a (U.calling g mk a)) :
    ∃ (T t : State) (L : List Loc), T.heap = t.heap ∧ T.vm = t.vm ∧ (∀ z ∈ L, free z.base) ∧
      ((Stand p l e R s m args below meth c T (locs ++ L) (cells + kr) (slots + nr) ∧ ∃ v, pr v (U.calling g mk a) t ∧ Steps p.tables e below (doInvoke e (U.setTop g) [] mk a).1 (T.setTop { g with pc := g.pc + len, stack := v.toList ++ g.stack })) ∨
        (Stand p l e R s m args below meth c T (locs ++ L) (cells + 1) (slots + 6) ∧ ∃ q, pt q (U.calling g mk a) t ∧ Steps p.tables e below (doInvoke e (U.setTop g) [] mk a).1 ((T.setTop g).pushFrame (.throwing q)))) := by
  subst hg
  obtain ⟨kY, hkY, -⟩ := className_of_methodNamed hn
  have hinitY : kY.init = .initialized := Cond.initialized_spec (findClass_of_methodNamed hn) hkY hini
  have happ : (headSpec ws rm).appliesLoose y e.platform (U.calling g mk a) = true := Spec.appliesLoose_calling (g := g) X.here hdg hn hkY hinitY (X.room_calling (g := g) (R' := (headSpec ws rm).room) hsize hmY hcY hframes (by rw [hlY]; show _ + _ + rm.locals ≤ _; omega) hc hs) (atoms_intro hws)
  obtain ⟨mid, hmid⟩ := X.here.above
  have hfr : (U.setTop g).frames = (.java g :: mid) ++ below := by rw [State.frames_setTop' g X.here.top, hmid]; rfl
  obtain ⟨o, t, hsteps, -, hend, hW, L, hL, hO⟩ := Steps.callFree hM p X.admits X.cas X.clock (acts := []) hfr happ hPc trivial
  rw [State.frames_setTop' g X.here.top] at hend
  obtain ⟨g₀, hg0⟩ := Option.isSome_iff_exists.mp X.here.top
  obtain ⟨r, hr⟩ := State.topJava?_eq_some.mp hg0
  obtain ⟨V, hV⟩ : ∃ V : State, V = (({ U with heap := t.heap, slotsUsed := t.slotsUsed } : State).setVm t.vm) := ⟨_, rfl⟩
  have hVf : V.frames = .java g₀ :: r := by rw [hV]; exact hr
  have hW' : U.WarmedH t.vm := hW
  have ht : ∀ k n, (U.calling g mk a).sameButNew ({ t with vm := (U.calling g mk a).vm } : State) L k n → t = V.setFrames t.frames := by
    intro k n hsm
    have e2 := hsm.1
    have h1 : t = ({ t with vm := (U.calling g mk a).vm } : State).setVm t.vm := rfl
    rw [e2, State.calling_eq X.here.top] at h1
    rw [hV]
    refine h1.trans ?_
    rw [State.setFrames_setFrames]
    rfl
  have XV : ∀ k n, (U.calling g mk a).sameButNew ({ t with vm := (U.calling g mk a).vm } : State) L k n → Stand p l e R s g.method args below meth c V (locs ++ L) (cells + k) (slots + n) := by
    intro k n hsm
    obtain ⟨-, q2, q3, q4, q5, q6⟩ := hsm
    have hsame : U.sameButNew ({ U with heap := t.heap, slotsUsed := t.slotsUsed } : State) L k n := by
      refine ⟨?_, q2, q3, q4, q5, q6⟩
      obtain ⟨t9, ht9, -⟩ := State.frames_cons hr
      show ({ U with heap := t.heap, slotsUsed := t.slotsUsed } : State) = { U.setFrames U.frames with heap := t.heap, slotsUsed := t.slotsUsed }
      rw [State.setFrames_self ht9]
    rw [hV]
    exact ⟨X.admits, X.cas, X.clock, X.frames, X.room, X.hears, X.method, X.code, (X.here.setHeapUsed t.heap t.slotsUsed).setVm hW'.alike, X.tail, State.WarmedH.trans X.warmed hW', X.limits, X.bytes, X.same.trans (hsame.setVm s.vm)⟩
  refine ⟨V, t, L, by rw [hV]; rfl, by rw [hV]; rfl, hL, ?_⟩
  rcases hO with ⟨v, rfl, hv, hsm⟩ | ⟨q, rfl, hq, hsm⟩
  · refine Or.inl ⟨XV _ _ hsm, v, hv, ?_⟩
    obtain ⟨c₂, i₂, len₂, hc₂, hd₂, hf₂⟩ := hend
    have hcc : c₂ = c := by
      have h1 : t.code? g.method = U.code? g.method := by rw [State.code?_eq, State.code?_eq, hW'.alike.method?]
      exact Option.some.inj (hc₂.symm.trans (h1.trans X.here.code))
    subst hcc
    rw [hdg] at hd₂
    cases hd₂
    have h9 : t = V.setTop { g with pc := g.pc + len, stack := v.toList ++ g.stack } := by
      rw [State.setTop_of_frames _ hVf]
      refine (ht _ _ hsm).trans ?_
      rw [hf₂, hr]
      rfl
    rw [← h9]
    exact hsteps
  · refine Or.inr ⟨XV _ _ hsm, q, hq, ?_⟩
    have hf₂ : t.frames = .throwing q :: .java g :: U.frames.tail := hend
    have h9 : t = (V.setTop g).pushFrame (.throwing q) := by
      rw [State.pushFrame, State.frames_setTop _ hVf, State.setTop_of_frames _ hVf, State.setFrames_setFrames]
      refine (ht _ _ hsm).trans ?_
      rw [hf₂, hr]
      rfl
    rw [← h9]
    exact hsteps
end
section
variable {p : Program} {l : Launch} {e : Env} {R : Room} {s : State} {m : MethodId} {args : Array Value} {below : List Frame} {meth : Method} {c : Code} {H : Heap} {locs : List Loc} {cells slots : Nat} {Q : State → Prop}
variable {pr : Option Value → State → State → Prop} {pt : Addr → State → State → Prop} {kr nr n nL maxL index pc : Nat} {free : Addr → Prop} {Pc : Array Value → State → Prop} {rm : Room} {Ts ws ws' : List Cond} {y : MethodName} {bytes cc : ByteArray} {ret : Option FieldType} {own C : String} {As rest st0 : List Value} {ls : Array Slot} {b : Addr}
/-- invokestatic -/
theorem ez_callS (S : CallFix p m c cc nL s args Ts own) (hM : ez_M l y ws rm Pc pr pt kr nr free) (cw : CallB R s args own index y bytes maxL ret ws rm 1 6 n ∧ (Cond.static y).before args s = true) (hp : PreS s H Pc As) (hn : As.length = n) (hsize : ls.size = nL) (hst : st0 = As.reverse ++ rest) (hroom : (rest.map fun v => v.category).sum ≤ 8) (hdg : decode cc pc = .ok (.invokestatic index, 3)) (hf : cells + 1 ≤ R.cells ∧ slots + 6 ≤ R.slots)
    (kx : ∀ (q : Addr) (st t : State) (L : List Loc), st.heap = H → s.vm.Alike t.vm → (∀ z ∈ L, free z.base) → pt q st t → ez_W p l e R s m args below meth c t.heap (locs ++ L) (cells + 1) (slots + 6) Q (F0 m pc ls rest) q)
    (kk : ∀ (v : Option Value) (st t : State) (L : List Loc), st.heap = H → s.vm.Alike t.vm → (∀ z ∈ L, free z.base) → pr v st t → W p l e R s m args below meth c t.heap (locs ++ L) (cells + kr) (slots + nr) Q (F0 m (pc + 3) ls (v.toList ++ rest))) :
    W p l e R s m args below meth c H locs cells slots Q (F0 m pc ls st0) := by
  subst hst
  obtain ⟨⟨hrc, hrs, hfr, hlo, hws, hcw, hcode, hini, hy, hlen, hl⟩, hstt⟩ := cw
  obtain ⟨hx, hb, hml, ho, -⟩ := S
  obtain ⟨hbl, hPc⟩ := hp
  intro T hT X
  obtain ⟨mk, hnamed⟩ := Cond.code_named hcode
  obtain ⟨methM, cM, hmethM, hcM, -, hlM, -, -, -, hsigM⟩ := Cond.code_spec hnamed hcode
  have hstatic : methM.isStatic = true := Cond.static_spec hnamed hmethM hstt
  obtain ⟨kP, hkP, -⟩ := className_of_methodNamed hnamed
  have hinitP : kP.init = .initialized := Cond.initialized_spec (findClass_of_methodNamed hnamed) hkP hini
  obtain ⟨vm₁, X₁, hstep₁⟩ := X.invokestatic hx ho hl hnamed hmethM hstatic hkP hinitP hy (g := F0 m pc ls (As.reverse ++ rest)) rfl (argsL := As) (rest := rest) (hn.trans (hlen _ hsigM)) rfl (by rw [hb]; exact hdg)
  obtain ⟨V, t, L, e1, e2, hL, hO⟩ := ez_back (g := F0 m pc ls rest) (a := As.toArray) X₁ rfl (hsize.trans hml.symm) (by rw [hb]; exact hdg) (W9 := 8) (by show 2 * 0 + (rest.map fun v => v.category).sum ≤ 8; omega) (X₁.named hnamed) (by rw [X₁.warmed.alike.method?]; exact hmethM) hcM hlM (word_at X₁.warmed (Or.inl (by first | rfl | simp [Cond.onTables, Cond.keeps, Cond.steady])) hini)
    hM hfr hlo (fun w h => hws w h _ _ X₁.warmed) (by rw [hrc]; exact hf.1) (by rw [hrs]; exact hf.2) (hbl _ _ _ _ (hPc (T.setVm vm₁) hT X₁.warmed))
  rcases hO with ⟨XV, v, hv, st⟩ | ⟨XV, q, hq, st⟩
  · have hal : s.vm.Alike t.vm := by rw [← e2]; exact XV.warmed.alike
    obtain ⟨t2, a1, b1⟩ := kk v ((T.setVm vm₁).calling (F0 m pc ls rest) mk As.toArray) t L hT hal hL hv V e1 XV
    exact ⟨t2, hstep₁ _ fun acts => by rw [doInvoke_state]; exact st.trans a1, b1⟩
  · have hal : s.vm.Alike t.vm := by rw [← e2]; exact XV.warmed.alike
    obtain ⟨t2, a1, b1⟩ := kx q ((T.setVm vm₁).calling (F0 m pc ls rest) mk As.toArray) t L hT hal hL hq V e1 XV
    exact ⟨t2, hstep₁ _ fun acts => by rw [doInvoke_state]; exact st.trans a1, b1⟩
/-- invokevirtual, of a method that the receiver's class has itself -/
theorem ez_callV (S : CallFix p m c cc nL s args Ts own) (hM : ez_M l y ws rm Pc pr pt kr nr free) (cw : CallW R s args own C index y bytes maxL ret ws rm 1 6 n) (hp : PreV s H C b Pc As) (hn : As.length = n) (hsize : ls.size = nL) (hst : st0 = As.reverse ++ .ref b :: rest) (hroom : (rest.map fun v => v.category).sum ≤ 8) (hdg : decode cc pc = .ok (.invokevirtual index, 3)) (hf : cells + 1 ≤ R.cells ∧ slots + 6 ≤ R.slots)
    (kx : ∀ (q : Addr) (st t : State) (L : List Loc), st.heap = H → s.vm.Alike t.vm → (∀ z ∈ L, free z.base) → pt q st t → ez_W p l e R s m args below meth c t.heap (locs ++ L) (cells + 1) (slots + 6) Q (F0 m pc ls rest) q)
    (kk : ∀ (v : Option Value) (st t : State) (L : List Loc), st.heap = H → s.vm.Alike t.vm → (∀ z ∈ L, free z.base) → pr v st t → W p l e R s m args below meth c t.heap (locs ++ L) (cells + kr) (slots + nr) Q (F0 m (pc + 3) ls (v.toList ++ rest))) :
    W p l e R s m args below meth c H locs cells slots Q (F0 m pc ls st0) := by
  subst hst
  obtain ⟨⟨hrc, hrs, hfr, hlo, hws, hcw, hcode, hini, hy, hlen, hl⟩, hin, hse⟩ := cw
  obtain ⟨hx, hb, hml, ho, -⟩ := S
  obtain ⟨hbl, ⟨cellB, hcB, hoB, hclB⟩, hPc⟩ := hp
  intro T hT X
  obtain ⟨mk, methM, hnamed, hmethM, hstM, habM⟩ := Cond.instanceMethod_spec hin
  obtain ⟨methM', cM, hmethM', hcM, -, hlM, -, -, -, hsigM⟩ := Cond.code_spec hnamed hcode
  cases hmethM.symm.trans hmethM'
  obtain ⟨c2, r2, m2, q1, q2, q3, q4, kP, hkP, hkPi⟩ := Cond.selects_spec hse
  cases hclB.symm.trans q1
  cases (State.methodFound?_of_named hnamed hy).symm.trans q2
  cases hnamed.symm.trans q3
  have hselP : selectMethod e.platform s.vm cellB.cls mk = .method mk := by rw [Launch.admits_selectMethod X.admits]; exact q4
  obtain ⟨vm₁, X₁, hstep₁⟩ := X.invokevirtual hx ho hl hnamed hmethM hstM hkP hkPi hy (a := b) (cell := cellB) (by rw [hT]; exact hcB)
    (fun z h => by rw [h] at hoB; cases hoB) hselP hmethM habM hkP hkPi (g := F0 m pc ls (As.reverse ++ .ref b :: rest)) rfl (argsL := As) (rest := rest) (hn.trans (hlen _ hsigM)) rfl (by rw [hb]; exact hdg)
  obtain ⟨V, t, L, e1, e2, hL, hO⟩ := ez_back (g := F0 m pc ls rest) (a := (Value.ref b :: As).toArray) X₁ rfl (hsize.trans hml.symm) (by rw [hb]; exact hdg) (W9 := 8) (by show 2 * 0 + (rest.map fun v => v.category).sum ≤ 8; omega) (X₁.named hnamed) (by rw [X₁.warmed.alike.method?]; exact hmethM) hcM hlM (word_at X₁.warmed (Or.inl (by first | rfl | simp [Cond.onTables, Cond.keeps, Cond.steady])) hini)
    hM hfr hlo (fun w h => hws w h _ _ X₁.warmed) (by rw [hrc]; exact hf.1) (by rw [hrs]; exact hf.2) (hbl _ _ _ _ (hPc (T.setVm vm₁) hT X₁.warmed))
  rcases hO with ⟨XV, v, hv, st⟩ | ⟨XV, q, hq, st⟩
  · have hal : s.vm.Alike t.vm := by rw [← e2]; exact XV.warmed.alike
    obtain ⟨t2, a1, b1⟩ := kk v ((T.setVm vm₁).calling (F0 m pc ls rest) mk (Value.ref b :: As).toArray) t L hT hal hL hv V e1 XV
    exact ⟨t2, hstep₁ _ fun acts => by rw [doInvoke_state]; exact st.trans a1, b1⟩
  · have hal : s.vm.Alike t.vm := by rw [← e2]; exact XV.warmed.alike
    obtain ⟨t2, a1, b1⟩ := kx q ((T.setVm vm₁).calling (F0 m pc ls rest) mk (Value.ref b :: As).toArray) t L hT hal hL hq V e1 XV
    exact ⟨t2, hstep₁ _ fun acts => by rw [doInvoke_state]; exact st.trans a1, b1⟩
end
end EZ
end
section
/-! 'throw new E("text")' ahead of any store, and a catch by name -/
section EC
variable {p : Program} {l : Launch} {e : Env} {R : Room} {s : State} {m : MethodId} {args : Array Value} {below : List Frame} {meth : Method} {c : Code} {H : Heap} {locs : List Loc} {cells slots : Nat} {Q : State → Prop}
/-- no slot of old has been written: the old cells are as they were -/
theorem ez_old {s U : State} {k n : Nat} (h : s.sameButNew ({ U with vm := s.vm } : State) [] k n) : s.heap.size ≤ U.heap.size ∧ ∀ q : Nat, q < s.heap.size → U.heap[q]? = s.heap[q]? := by
  obtain ⟨-, h2, -, -, -, h6⟩ := h
  refine ⟨h2, fun q hq => ?_⟩
  obtain ⟨c9, e1, e2, -, e4⟩ := h6 q _ (Array.getElem?_eq_getElem hq)
  have h7 : c9.slots = (s.heap[q]).slots := Array.ext_getElem? fun i => e4 i (List.not_mem_nil)
  rw [h7] at e2
  have e5 : U.heap[q]? = some c9 := e1
  rw [e5, Array.getElem?_eq_getElem hq]
  exact congrArg some e2
set_option maxHeartbeats 1000000 in
theorem ez_throwS {pr : Option Value → State → State → Prop} {pt : Addr → State → State → Prop} {kr nr : Nat} {free : Addr → Prop} {cc : ByteArray} {pc : Nat} {ls : Array Slot} {rest : List Value} (hexec : p.tables.exec = Jvm.exec) (hb : c.code = cc) (hl9 : l.stackTraces = false)
    {own cls text : String} {names : List String} {ik is ic sa : Nat} (hown : s.vm.findClass own = some m.cls) (hcls : Bundle.fit cls = true) (hnames : ∀ n ∈ names, Bundle.fit n = true)
    (hk : (Cond.classLink own ik cls).before args s = true) (hini : (Cond.initialized cls).before args s = true) (hstr : vk_R own is text sa s) (h : ∀ w ∈ Bundle.ownAtoms own ic cls names, w.before args s = true)
    (hH : s.heap.size ≤ H.size) (hsize : ls.size = c.maxLocals) (hout : c.exceptionTable.toList = []) (hlocks : meth.locks = false)
    (d0 : decode cc pc = .ok (.new ik, 3)) (d3 : decode cc (pc + 3) = .ok (.dup, 1)) (d4 : decode cc (pc + 4) = .ok (.ldc is, 2)) (d6 : decode cc (pc + 6) = .ok (.invokespecial ic, 3)) (d9 : decode cc (pc + 9) = .ok (.athrow, 1))
    (hRframes : names.length + 3 < R.frames) (hRlocals : (rest.map fun v => v.category).sum + (13 * (names.length + 1) + 43) ≤ R.locals) (hRcells : 0 + 1 ≤ R.cells) (hRslots : 0 + 6 ≤ R.slots)
    (hq : ∀ (q : Addr) (t : State) (ce : Cell), t.heap[q]? = some ce → ce.vm = .none → s.vm.findClass cls = some ce.cls → s.vm.Alike t.vm → s.heap.size ≤ t.heap.size → (∀ j : Nat, j < s.heap.size → t.heap[j]? = s.heap[j]?) → pt q s t) :
    W p l e R s m args below meth c H [] 0 0 (ez_MQ below pr pt s kr nr free) (F0 m pc ls rest) := by
  intro T hT X
  have htr : e.platform.stackTraces = false := (show e.platform.stackTraces = l.stackTraces by rw [X.admits.platform]).trans hl9
  have hins : (Cond.instantiable cls 6).before args s = true := h _ (by simp [Bundle.ownAtoms])
  obtain ⟨vm₁, cX, kX, hfX, hkX, -, -, X₁, st1⟩ := X.newCold hexec (own := own) (C := cls) (index := ik) (n := 6) hown hk hins hini (g := F0 m pc ls rest) rfl (by rw [hb]; exact d0) hRcells hRslots
  generalize hT1 : (T.setVm vm₁).pushCell { cls := cX, slots := kX.instanceTypes.map defaultValue, vm := .none } = T1 at X₁ st1
  have hcat : (Value.ref T.heap.size).category = 1 := rfl
  have hcellA : T1.heap[T.heap.size]? = some (freshCell cX kX) := by rw [← hT1]; exact State.heap_pushCell_size _ _
  have d3' : decode c.code (pc + 3) = .ok (.dup, 1) := by rw [hb]; exact d3
  have d4' : decode c.code (pc + 4) = .ok (.ldc is, 2) := by rw [hb]; exact d4
  obtain ⟨U, hsteps, hrun, hend, hW, hsame, ce, hce, hO⟩ := X₁.ctorThrowS hexec htr (own := own) (cls := cls) (names := names) (ic := ic) hown hcls hnames h (fun x hx => nomatch hx) hfX hkX hcellA (by rw [hT]; exact hH) (msg := .ref sa) rfl
    (g := { method := m, pc := pc + 6, locals := ls, stack := .ref sa :: .ref T.heap.size :: .ref T.heap.size :: rest, locked := none }) rfl hsize rfl rfl (rest := rest) rfl
    (by rw [hb]; exact d6) (by rw [hb]; exact d9) (fun x hx => by rw [hout] at hx; cases hx) hRframes (by simp only [List.map_cons, List.sum_cons, hcat]; omega) hlocks
  obtain ⟨f1, f2⟩ := ez_old hsame
  refine ⟨U, ?_, .threw T.heap.size, hrun, hend, hW, [], (fun z hz => nomatch hz), Or.inr ⟨T.heap.size, rfl, hq _ U ce hce hO.vm hO.cls hW.alike f1 f2, hsame⟩⟩
  refine st1 _ ?_
  show Steps p.tables e below (T1.setTop { method := m, pc := pc + 3, locals := ls, stack := .ref T.heap.size :: rest, locked := none }) _
  jvm_step X₁.here [X₁.here.top, hexec, d3', Value.category]
  exact X₁.ldcString hexec (own := own) (text := text) (index := is) (a := sa) hown hstr.1 hstr.2
    (g := { method := m, pc := pc + 4, locals := ls, stack := .ref T.heap.size :: .ref T.heap.size :: rest, locked := none }) rfl d4' _ hsteps
/-- one row of a table that covers the place and names a class: taken or passed -/
theorem ez_row {Q : Handler → Pre} {E : CtlPost} {e : Env} {d : Bool} {acts : List Action} {S : State} {f : JFrame} {a : Addr} {x : ExceptionTableEntry} {t : List ExceptionTableEntry} {k : ClassId} {cell : Cell}
    (hx : covers x f.pc = true) (h0 : x.catchType ≠ 0) (hl : S.vm.ClassLinks e.platform f.method.cls x.catchType k) (hcell : S.heap[a]? = some cell) (hobj : ∀ z, cell.vm ≠ .statics z)
    (h1 : ∃ z, S.vm.classes[cell.cls]? = some z) (h2 : ∃ z, S.vm.classes[k]? = some z) :
    wp (findHandler.go f a (x :: t)) Q E e d acts S ↔ (if S.vm.assignable cell.cls k = true then Q (.found x.handlerPc) d acts (S.setVm (S.vm.noted f.method.cls x.catchType (.cls k))) else wp (findHandler.go f a t) Q E e d acts (S.setVm (S.vm.noted f.method.cls x.catchType (.cls k)))) := by
  simp only [covers] at hx
  obtain ⟨ha, ht⟩ := (resolveClass_links e.toSetting hl).op (op := VmOp.resolveClass f.method.cls x.catchType) rfl
  have hal : S.vm.Alike (S.vm.noted f.method.cls x.catchType (.cls k)) := (Vm.Alike.refl S.vm).noted _ _ _
  obtain ⟨z1, hz1⟩ := h1
  obtain ⟨z2, hz2⟩ := h2
  obtain ⟨w1, hw1, -⟩ := hal.2.2 _ _ hz1
  obtain ⟨w2, hw2, -⟩ := hal.2.2 _ _ hz2
  cases hfit : S.vm.assignable cell.cls k with
  | true =>
    have hfit' : (S.vm.noted f.method.cls x.catchType (.cls k)).assignable cell.cls k = true := by rw [hal.assignable]; exact hfit
    rw [if_pos rfl]
    simp [findHandler.go, hx, h0, ha, ht, hcell, hobj, hw1, hw2, hfit', VmOp.dirties, VmOp.acts]
  | false =>
    have hfit' : (S.vm.noted f.method.cls x.catchType (.cls k)).assignable cell.cls k = false := by rw [hal.assignable]; exact hfit
    rw [if_neg (by decide)]
    simp [findHandler.go, hx, h0, ha, ht, hcell, hobj, hw1, hw2, hfit', VmOp.dirties, VmOp.acts]
/-- rows that are passed, then one that takes it -/
theorem ez_find {e : Env} {s : State} {f : JFrame} {a : Addr} {cell : Cell} {own E : String} {args : Array Value} (hpl : e.platform.magicAccessors = ({} : Platform).magicAccessors) (hown : s.vm.findClass own = some f.method.cls) (hE : s.vm.findClass E = some cell.cls) (hobj : ∀ z, cell.vm ≠ .statics z)
    (x : ExceptionTableEntry) (rest : List ExceptionTableEntry) {nm : String} (hx : covers x f.pc = true) (h0 : x.catchType ≠ 0) (hlink : (Cond.classLink own x.catchType nm).before args s = true) (hcast : (Cond.castable E nm).before args s = true) :
    ∀ (pre : List ExceptionTableEntry) (S : State), s.WarmedH S.vm → S.heap[a]? = some cell → (∀ z ∈ pre, covers z f.pc = true ∧ z.catchType ≠ 0 ∧ ∃ n2 : String, (Cond.classLink own z.catchType n2).before args s = true ∧ va_Nc E n2 s) →
      ∃ vm', s.WarmedH vm' ∧ ∀ (Q : Handler → Pre) (E9 : CtlPost) (d : Bool) (acts : List Action), wp (findHandler.go f a (pre ++ x :: rest)) Q E9 e d acts S ↔ Q (.found x.handlerPc) d acts (S.setVm vm') := by
  intro pre
  induction pre with
  | nil =>
    intro S hW hc _
    obtain ⟨k, hk, hcl⟩ := Cond.classLink_spec hown hlink e.platform hpl
    obtain ⟨c3, c4, hc3, hc4, hasg⟩ := Cond.castable_spec hcast
    cases Option.some.inj (hc3.symm.trans hE)
    cases Option.some.inj (hc4.symm.trans hk)
    obtain ⟨dk, _, _, kt, hd, _, _, _, _, hkt, _, hopen⟩ := hcl.here
    obtain ⟨kt', hkt', -⟩ := hW.alike.2.2 _ _ hkt
    obtain ⟨k0, hk0, -⟩ := Vm.findClass_spec hE
    obtain ⟨k0', hk0', -⟩ := hW.alike.2.2 _ _ hk0
    refine ⟨_, hW.noted hd hopen (State.rightAt_cls hcl), fun Q E9 d acts => ?_⟩
    rw [List.nil_append, ez_row hx h0 (hW.classLinks hcl) hc hobj ⟨k0', hk0'⟩ ⟨kt', hkt'⟩, if_pos (by rw [hW.alike.assignable]; exact hasg)]
  | cons z zs ih =>
    intro S hW hc hp
    obtain ⟨hz, hz0, n2, hl2, a8, b8, h1, h2, h3⟩ := hp z List.mem_cons_self
    obtain ⟨k, hk, hcl⟩ := Cond.classLink_spec hown hl2 e.platform hpl
    cases Option.some.inj (h1.symm.trans hE)
    cases Option.some.inj (h2.symm.trans hk)
    obtain ⟨dk, _, _, kt, hd, _, _, _, _, hkt, _, hopen⟩ := hcl.here
    obtain ⟨kt', hkt', -⟩ := hW.alike.2.2 _ _ hkt
    obtain ⟨k0, hk0, -⟩ := Vm.findClass_spec hE
    obtain ⟨k0', hk0', -⟩ := hW.alike.2.2 _ _ hk0
    obtain ⟨vm', hW', hq⟩ := ih (S.setVm (S.vm.noted f.method.cls z.catchType (.cls b8))) (hW.noted hd hopen (State.rightAt_cls hcl)) hc (fun y hy => hp y (List.mem_cons_of_mem _ hy))
    refine ⟨vm', hW', fun Q E9 d acts => ?_⟩
    rw [List.cons_append, ez_row hz hz0 (hW.classLinks hcl) hc hobj ⟨k0', hk0'⟩ ⟨kt', hkt'⟩, if_neg (by rw [hW.alike.assignable, h3]; decide)]
    exact hq Q E9 d acts
/-- caught by the row x of this method's table; the rows ahead name other classes -/
theorem ez_catch {pc : Nat} {ls : Array Slot} {rest : List Value} {own nm E : String} {ce : Cell} {q : Addr} (hown : s.vm.findClass own = some m.cls) (pre : List ExceptionTableEntry) (x : ExceptionTableEntry) (suf : List ExceptionTableEntry) (hsplit : c.exceptionTable.toList = pre ++ x :: suf)
    (hpass : ∀ z ∈ pre, covers z pc = true ∧ z.catchType ≠ 0 ∧ ∃ n2 : String, (Cond.classLink own z.catchType n2).before args s = true ∧ va_Nc E n2 s) (hx : covers x pc = true) (h0 : x.catchType ≠ 0)
    (hlink : (Cond.classLink own x.catchType nm).before args s = true) (hcast : (Cond.castable E nm).before args s = true) (hcell : H[q]? = some ce) (hv : ce.vm = .none) (hE : s.vm.findClass E = some ce.cls)
    (kk : W p l e R s m args below meth c H locs cells slots Q (F0 m x.handlerPc ls [.ref q])) : ez_W p l e R s m args below meth c H locs cells slots Q (F0 m pc ls rest) q := by
  intro T hT X
  have hpl : e.platform.magicAccessors = ({} : Platform).magicAccessors := by rw [X.admits.platform]
  obtain ⟨S, hS⟩ : ∃ S : State, S = (T.setTop (F0 m pc ls rest)).pushFrame (.throwing q) := ⟨_, rfl⟩
  have hSv : S.vm = T.vm := by rw [hS]; exact Stand.throwing_vm T _ q
  have hSh : S.heap = T.heap := by rw [hS]; exact Stand.throwing_heap T _ q
  obtain ⟨vm', hW', hf⟩ := ez_find (e := e) (s := s) (f := F0 m pc ls rest) (a := q) (cell := ce) hpl hown hE (VmData.ne_statics_of (by rw [hv]; rfl)) x suf hx h0 hlink hcast pre S (by rw [hSv]; exact X.warmed) (by rw [hSh, hT]; exact hcell) hpass
  obtain ⟨t, a1, b1⟩ := kk (T.setVm vm') hT (X.noted hW')
  refine ⟨t, ?_, b1⟩
  obtain ⟨hgo, hw⟩ := X.here.throwing (g := F0 m pc ls rest) q
  refine Steps.head hgo hw ?_
  have hm' : S.vm.method? m = some meth := by rw [hSv]; exact X.method'
  have hfind : ∀ (Q : Handler → Pre) (E9 : CtlPost) (d : Bool) (acts : List Action), wp (findHandler (F0 m pc ls rest) q) Q E9 e d acts S ↔ Q (.found x.handlerPc) d acts (S.setVm vm') := fun Q E9 d acts => by
    rw [W.findHandler_eq hm' X.code, hsplit]; exact hf Q E9 d acts
  rw [stepThread_throwing (frames_entered X.here.top _), ← hS]
  obtain ⟨g₀, hg⟩ := Option.isSome_iff_exists.mp X.here.top
  obtain ⟨r, hr⟩ := State.topJava?_eq_some.mp hg
  have hr' : (T.setVm vm').frames = .java g₀ :: r := hr
  rw [State.setTop_of_frames _ hr'] at a1
  have key : (stepThrowing e S q (.java (F0 m pc ls rest) :: T.frames.tail)).1 = (S.setVm vm').setFrames (.java (F0 m x.handlerPc ls [.ref q]) :: T.frames.tail) := by
    simp only [stepThrowing, searchFrame, vmDo]
    generalize hres : Sem.go _ e false [] S = res
    obtain ⟨as, rfl, -⟩ := Sem.eq_ok_of hres (a := Handler.found x.handlerPc) (s' := S.setVm vm') (acts' := []) (by simp [hfind _ _ _ _])
    rfl
  rw [key, hS]
  have h9 : (((T.setTop (F0 m pc ls rest)).pushFrame (.throwing q)).setVm vm').setFrames (.java (F0 m x.handlerPc ls [.ref q]) :: T.frames.tail) = (T.setVm vm').setFrames (.java (F0 m x.handlerPc ls [.ref q]) :: r) := by
    rw [hr, List.tail_cons, State.pushFrame, State.setTop_of_frames _ hr]
    have h7 : ∀ (u : State) (F G : List Frame), ((u.setFrames F).setVm vm').setFrames G = (u.setVm vm').setFrames G := fun u F G => by
      have h8 : (u.setFrames F).setVm vm' = (u.setVm vm').setFrames F := rfl
      rw [h8, State.setFrames_setFrames]
    rw [h7, h7]
  rw [h9]
  exact a1
end EC
/-! methods with a table of their own -/
section ET
variable {p : Program} {l : Launch} {e : Env} {R : Room} {s : State} {m : MethodId} {args : Array Value} {below : List Frame} {meth : Method} {c : Code} {H : Heap} {locs : List Loc} {cells slots : Nat} {Q : State → Prop}
variable {pr : Option Value → State → State → Prop} {pt : Addr → State → State → Prop} {kr nr n nL maxL index pc : Nat} {free : Addr → Prop} {Pc : Array Value → State → Prop} {rm : Room} {Ts ws ws' : List Cond} {y : MethodName} {bytes cc : ByteArray} {ret : Option FieldType} {own : String} {As rest st0 : List Value} {ls : Array Slot} {hh : List (Nat × Nat × Nat × Nat)}
theorem ez_ofWT (hy : plainName y.cls = true) (hw : ws = Cond.codeWith y cc maxL ret hh :: ws')
    (body : ∀ p e s m args below meth c s₁, BodyLoose p l y (headSpec ws rm) cc maxL ret e s m args below meth c s₁ → c.maxLocals = maxL → c.exceptionTable.toList = tableOf hh → Pc args s →
      W p l e (headSpec ws rm).room s m args below meth c s.heap [] 0 0 (ez_MQ below pr pt s kr nr free) (entryFrame m args maxL)) : ez_M l y ws rm Pc pr pt kr nr free := by
  refine MetFree.of_bodyS (code := cc) (maxLocals := maxL) (ret := ret) hy ?_ ?_
  · intro args s m h hn
    obtain ⟨m9, meth, c, hn9, h1, h2, h3, h4, -, h5, h6, -⟩ := Cond.codeWith_spec (atoms_spec (ws := ws) h _ (by rw [hw]; exact List.mem_cons_self))
    cases hn.symm.trans hn9
    exact ⟨meth, c, h1, h2, h3, h4, h5, h6⟩
  · intro p e s m args below meth c s₁ B hml hP _
    have hh0 : s₁.heap = s.heap := by rw [B.state]; rfl
    have ht : c.exceptionTable.toList = tableOf hh := by
      obtain ⟨m9, meth9, c9, hn9, h1, h2, -, -, h6, -⟩ := Cond.codeWith_spec (atoms_spec (ws := ws) B.pre _ (by rw [hw]; exact List.mem_cons_self))
      cases Option.some.inj (hn9.symm.trans B.named)
      cases Option.some.inj (h1.symm.trans B.method)
      cases Option.some.inj (h2.symm.trans (Stand.of_body B).code)
      rw [← h6, table_eq]
    obtain ⟨t, a1, o, b1, b2, b3⟩ := body p e s m args below meth c s₁ B hml ht hP s₁ hh0 (Stand.of_body B)
    exact ⟨t, o, a1, b1, b2, b3⟩
/-- invokestatic of a method with a table -/
theorem ez_callST (S : CallFix p m c cc nL s args Ts own) (hM : ez_M l y ws rm Pc pr pt kr nr free) (hG : GoodIn Ts (wsS own index y ws)) (hw : ws = Cond.codeWith y bytes maxL ret hh :: ws') (hrc : rm.cells = 1) (hrs : rm.slots = 6)
    (hd : y.cls = own ∧ y.cls ≠ "java/lang/invoke/MethodHandle" ∧ y.cls ≠ "java/lang/invoke/VarHandle" ∧ (parseMethodDescriptor y.desc).map (fun d => d.parameters.length) = some n) (hR : rm.frames + 1 ≤ R.frames ∧ 8 + (maxL + 11) + rm.locals ≤ R.locals)
    (hp : PreS s H Pc As) (hn : As.length = n) (hsize : ls.size = nL) (hst : st0 = As.reverse ++ rest) (hroom : (rest.map fun v => v.category).sum ≤ 8) (hdg : decode cc pc = .ok (.invokestatic index, 3)) (hf : cells + 1 ≤ R.cells ∧ slots + 6 ≤ R.slots)
    (kx : ∀ (q : Addr) (st t : State) (L : List Loc), st.heap = H → s.vm.Alike t.vm → (∀ z ∈ L, free z.base) → pt q st t → ez_W p l e R s m args below meth c t.heap (locs ++ L) (cells + 1) (slots + 6) Q (F0 m pc ls rest) q)
    (kk : ∀ (v : Option Value) (st t : State) (L : List Loc), st.heap = H → s.vm.Alike t.vm → (∀ z ∈ L, free z.base) → pr v st t → W p l e R s m args below meth c t.heap (locs ++ L) (cells + kr) (slots + nr) Q (F0 m (pc + 3) ls (v.toList ++ rest))) :
    W p l e R s m args below meth c H locs cells slots Q (F0 m pc ls st0) := by
  subst hst
  obtain ⟨hx, hb, hml, ho, hts⟩ := S
  obtain ⟨hbl, hPc⟩ := hp
  obtain ⟨hcl, hy1, hy2, hd2⟩ := hd
  have ok : ∀ w ∈ wsS own index y ws, w.before args s = true := fun w h => hts w (hG w h).1
  have hG2 : GoodIn Ts ws := fun w h => hG w (by unfold wsS; exact List.mem_append_right _ h)
  have hcode : (Cond.codeWith y bytes maxL ret hh).before args s = true := hts _ (hG2 _ (by rw [hw]; exact List.mem_cons_self)).1
  have hl : (Cond.methodLink own index y).before args s = true := ok _ (by simp [wsS])
  have hstt : (Cond.static y).before args s = true := ok _ (by simp [wsS])
  have hini : (Cond.initialized y.cls).before args s = true := by rw [hcl]; exact ok _ (by simp [wsS])
  intro T hT X
  obtain ⟨mk, methM, cM, hnamed, hmethM, hcM, -, hlM, -, -, -, hsigM⟩ := Cond.codeWith_spec hcode
  have hstatic : methM.isStatic = true := Cond.static_spec hnamed hmethM hstt
  obtain ⟨kP, hkP, -⟩ := className_of_methodNamed hnamed
  have hinitP : kP.init = .initialized := Cond.initialized_spec (findClass_of_methodNamed hnamed) hkP hini
  have hlen : As.length = methM.sig.parameters.length := by
    rw [hsigM] at hd2
    exact hn.trans (Option.some.inj hd2).symm
  obtain ⟨vm₁, X₁, hstep₁⟩ := X.invokestatic hx ho hl hnamed hmethM hstatic hkP hinitP ⟨hy1, hy2⟩ (g := F0 m pc ls (As.reverse ++ rest)) rfl (argsL := As) (rest := rest) hlen rfl (by rw [hb]; exact hdg)
  obtain ⟨V, t, L, e1, e2, hL, hO⟩ := ez_back (g := F0 m pc ls rest) (a := As.toArray) X₁ rfl (hsize.trans hml.symm) (by rw [hb]; exact hdg) (W9 := 8) (by show 2 * 0 + (rest.map fun v => v.category).sum ≤ 8; omega) (X₁.named hnamed) (by rw [X₁.warmed.alike.method?]; exact hmethM) hcM hlM (word_at X₁.warmed (Or.inl (by first | rfl | simp [Cond.onTables, Cond.keeps, Cond.steady])) hini)
    hM hR.1 hR.2 (fun w h => pay_in hts hG2 w h _ _ X₁.warmed) (by rw [hrc]; exact hf.1) (by rw [hrs]; exact hf.2) (hbl _ _ _ _ (hPc (T.setVm vm₁) hT X₁.warmed))
  rcases hO with ⟨XV, v, hv, st⟩ | ⟨XV, q, hq, st⟩
  · have hal : s.vm.Alike t.vm := by rw [← e2]; exact XV.warmed.alike
    obtain ⟨t2, a1, b1⟩ := kk v ((T.setVm vm₁).calling (F0 m pc ls rest) mk As.toArray) t L hT hal hL hv V e1 XV
    exact ⟨t2, hstep₁ _ fun acts => by rw [doInvoke_state]; exact st.trans a1, b1⟩
  · have hal : s.vm.Alike t.vm := by rw [← e2]; exact XV.warmed.alike
    obtain ⟨t2, a1, b1⟩ := kx q ((T.setVm vm₁).calling (F0 m pc ls rest) mk As.toArray) t L hT hal hL hq V e1 XV
    exact ⟨t2, hstep₁ _ fun acts => by rw [doInvoke_state]; exact st.trans a1, b1⟩
end ET
end
