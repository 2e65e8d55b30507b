section
-- ===== PART A: goes FIRST, ahead of the names: the tables' words, and 'selects' of the private methods out of them =====
/-- a private method of a class that the tables say can be made, by its rows of tables_1 -/
def lw_okq (q : MethodName × Nat) : Prop := (q.1.cls ≠ "java/lang/invoke/MethodHandle" ∧ q.1.cls ≠ "java/lang/invoke/VarHandle") ∧ Cond.instantiable q.1.cls q.2 ∈ tables_1 ∧ Cond.privateMethod q.1 ∈ tables_1 ∧ Cond.instanceMethod q.1 ∈ tables_1
theorem lw_p0 : lw_okq (⟨"QuorumCouncil", "peerSet", "()I"⟩, 14) := ⟨⟨by decide +kernel, by decide +kernel⟩, List.mem_of_getElem? (i := 12) (by decide +kernel), List.mem_of_getElem? (i := 73) (by decide +kernel), List.mem_of_getElem? (i := 74) (by decide +kernel)⟩
theorem lw_p1 : lw_okq (⟨"QuorumCouncil", "voterSet", "()I"⟩, 14) := ⟨⟨by decide +kernel, by decide +kernel⟩, List.mem_of_getElem? (i := 12) (by decide +kernel), List.mem_of_getElem? (i := 77) (by decide +kernel), List.mem_of_getElem? (i := 78) (by decide +kernel)⟩
theorem lw_p2 : lw_okq (⟨"java/lang/Throwable", "fillInStackTrace", "(I)Ljava/lang/Throwable;"⟩, 6) := ⟨⟨by decide +kernel, by decide +kernel⟩, List.mem_of_getElem? (i := 140) (by decide +kernel), List.mem_of_getElem? (i := 138) (by decide +kernel), List.mem_of_getElem? (i := 139) (by decide +kernel)⟩
theorem lw_p3 : lw_okq (⟨"QuorumCouncil", "learnersMatching", "(I)I"⟩, 14) := ⟨⟨by decide +kernel, by decide +kernel⟩, List.mem_of_getElem? (i := 12) (by decide +kernel), List.mem_of_getElem? (i := 181) (by decide +kernel), List.mem_of_getElem? (i := 182) (by decide +kernel)⟩
theorem lw_p4 : lw_okq (⟨"QuorumCouncil", "isMajority", "(I)Z"⟩, 14) := ⟨⟨by decide +kernel, by decide +kernel⟩, List.mem_of_getElem? (i := 12) (by decide +kernel), List.mem_of_getElem? (i := 220) (by decide +kernel), List.mem_of_getElem? (i := 221) (by decide +kernel)⟩
theorem lw_p5 : lw_okq (⟨"QuorumCouncil", "requirePeer", "(I)V"⟩, 14) := ⟨⟨by decide +kernel, by decide +kernel⟩, List.mem_of_getElem? (i := 12) (by decide +kernel), List.mem_of_getElem? (i := 279) (by decide +kernel), List.mem_of_getElem? (i := 280) (by decide +kernel)⟩
theorem lw_p6 : lw_okq (⟨"QuorumCouncil", "sendSnapshotPiece", "(I)I"⟩, 14) := ⟨⟨by decide +kernel, by decide +kernel⟩, List.mem_of_getElem? (i := 12) (by decide +kernel), List.mem_of_getElem? (i := 285) (by decide +kernel), List.mem_of_getElem? (i := 286) (by decide +kernel)⟩
theorem lw_p7 : lw_okq (⟨"QuorumCouncil", "mayFlyMore", "(I)Z"⟩, 14) := ⟨⟨by decide +kernel, by decide +kernel⟩, List.mem_of_getElem? (i := 12) (by decide +kernel), List.mem_of_getElem? (i := 289) (by decide +kernel), List.mem_of_getElem? (i := 290) (by decide +kernel)⟩
theorem lw_p8 : lw_okq (⟨"QuorumCouncil", "sendEntries", "(II)I"⟩, 14) := ⟨⟨by decide +kernel, by decide +kernel⟩, List.mem_of_getElem? (i := 12) (by decide +kernel), List.mem_of_getElem? (i := 293) (by decide +kernel), List.mem_of_getElem? (i := 294) (by decide +kernel)⟩
theorem lw_p9 : lw_okq (⟨"QuorumCouncil", "hear", "(III)V"⟩, 14) := ⟨⟨by decide +kernel, by decide +kernel⟩, List.mem_of_getElem? (i := 12) (by decide +kernel), List.mem_of_getElem? (i := 307) (by decide +kernel), List.mem_of_getElem? (i := 308) (by decide +kernel)⟩
theorem lw_p10 : lw_okq (⟨"QuorumCouncil", "whatMajorityHas", "([I)I"⟩, 14) := ⟨⟨by decide +kernel, by decide +kernel⟩, List.mem_of_getElem? (i := 12) (by decide +kernel), List.mem_of_getElem? (i := 342) (by decide +kernel), List.mem_of_getElem? (i := 343) (by decide +kernel)⟩
theorem lw_p11 : lw_okq (⟨"QuorumCouncilModel", "get", "(II)I"⟩, 8) := ⟨⟨by decide +kernel, by decide +kernel⟩, List.mem_of_getElem? (i := 355) (by decide +kernel), List.mem_of_getElem? (i := 404) (by decide +kernel), List.mem_of_getElem? (i := 405) (by decide +kernel)⟩
theorem lw_p12 : lw_okq (⟨"QuorumCouncilModel", "fail", "(I)I"⟩, 8) := ⟨⟨by decide +kernel, by decide +kernel⟩, List.mem_of_getElem? (i := 355) (by decide +kernel), List.mem_of_getElem? (i := 412) (by decide +kernel), List.mem_of_getElem? (i := 413) (by decide +kernel)⟩
theorem lw_p13 : lw_okq (⟨"QuorumCouncilModel", "carries", "(I)Z"⟩, 8) := ⟨⟨by decide +kernel, by decide +kernel⟩, List.mem_of_getElem? (i := 355) (by decide +kernel), List.mem_of_getElem? (i := 420) (by decide +kernel), List.mem_of_getElem? (i := 421) (by decide +kernel)⟩
theorem lw_p14 : lw_okq (⟨"QuorumCouncilModel", "put", "(III)V"⟩, 8) := ⟨⟨by decide +kernel, by decide +kernel⟩, List.mem_of_getElem? (i := 355) (by decide +kernel), List.mem_of_getElem? (i := 443) (by decide +kernel), List.mem_of_getElem? (i := 444) (by decide +kernel)⟩
theorem lw_p15 : lw_okq (⟨"QuorumCouncilModel", "peers", "()I"⟩, 8) := ⟨⟨by decide +kernel, by decide +kernel⟩, List.mem_of_getElem? (i := 355) (by decide +kernel), List.mem_of_getElem? (i := 451) (by decide +kernel), List.mem_of_getElem? (i := 452) (by decide +kernel)⟩
def lw_privs_1 : List (MethodName × Nat) := [(⟨"QuorumCouncil", "peerSet", "()I"⟩, 14), (⟨"QuorumCouncil", "voterSet", "()I"⟩, 14), (⟨"java/lang/Throwable", "fillInStackTrace", "(I)Ljava/lang/Throwable;"⟩, 6), (⟨"QuorumCouncil", "learnersMatching", "(I)I"⟩, 14), (⟨"QuorumCouncil", "isMajority", "(I)Z"⟩, 14), (⟨"QuorumCouncil", "requirePeer", "(I)V"⟩, 14), (⟨"QuorumCouncil", "sendSnapshotPiece", "(I)I"⟩, 14), (⟨"QuorumCouncil", "mayFlyMore", "(I)Z"⟩, 14), (⟨"QuorumCouncil", "sendEntries", "(II)I"⟩, 14), (⟨"QuorumCouncil", "hear", "(III)V"⟩, 14), (⟨"QuorumCouncil", "whatMajorityHas", "([I)I"⟩, 14), (⟨"QuorumCouncilModel", "get", "(II)I"⟩, 8), (⟨"QuorumCouncilModel", "fail", "(I)I"⟩, 8), (⟨"QuorumCouncilModel", "carries", "(I)Z"⟩, 8), (⟨"QuorumCouncilModel", "put", "(III)V"⟩, 8), (⟨"QuorumCouncilModel", "peers", "()I"⟩, 8)]
theorem lw_r1 : ∀ q ∈ lw_privs_1, lw_okq q := List.forall_mem_cons.mpr ⟨lw_p0, List.forall_mem_cons.mpr ⟨lw_p1, List.forall_mem_cons.mpr ⟨lw_p2, List.forall_mem_cons.mpr ⟨lw_p3, List.forall_mem_cons.mpr ⟨lw_p4, List.forall_mem_cons.mpr ⟨lw_p5, List.forall_mem_cons.mpr ⟨lw_p6, List.forall_mem_cons.mpr ⟨lw_p7, List.forall_mem_cons.mpr ⟨lw_p8, List.forall_mem_cons.mpr ⟨lw_p9, List.forall_mem_cons.mpr ⟨lw_p10, List.forall_mem_cons.mpr ⟨lw_p11, List.forall_mem_cons.mpr ⟨lw_p12, List.forall_mem_cons.mpr ⟨lw_p13, List.forall_mem_cons.mpr ⟨lw_p14, List.forall_mem_cons.mpr ⟨lw_p15, fun _ h => absurd h List.not_mem_nil⟩⟩⟩⟩⟩⟩⟩⟩⟩⟩⟩⟩⟩⟩⟩⟩
theorem lw_p16 : lw_okq (⟨"QuorumCouncilModel", "bad", "(IIIII)Z"⟩, 8) := ⟨⟨by decide +kernel, by decide +kernel⟩, List.mem_of_getElem? (i := 355) (by decide +kernel), List.mem_of_getElem? (i := 463) (by decide +kernel), List.mem_of_getElem? (i := 464) (by decide +kernel)⟩
theorem lw_p17 : lw_okq (⟨"QuorumCouncilModel", "answered", "(III)V"⟩, 8) := ⟨⟨by decide +kernel, by decide +kernel⟩, List.mem_of_getElem? (i := 355) (by decide +kernel), List.mem_of_getElem? (i := 467) (by decide +kernel), List.mem_of_getElem? (i := 468) (by decide +kernel)⟩
def lw_privs_2 : List (MethodName × Nat) := [(⟨"QuorumCouncilModel", "bad", "(IIIII)Z"⟩, 8), (⟨"QuorumCouncilModel", "answered", "(III)V"⟩, 8)]
theorem lw_r2 : ∀ q ∈ lw_privs_2, lw_okq q := List.forall_mem_cons.mpr ⟨lw_p16, List.forall_mem_cons.mpr ⟨lw_p17, fun _ h => absurd h List.not_mem_nil⟩⟩
def lw_privs : List (MethodName × Nat) := lw_privs_1 ++ (lw_privs_2)
def lw_tbl : List Cond := k2_sels lw_privs ++ tables_1
theorem lw_privs_ok : ∀ q ∈ lw_privs, lw_okq q := by
  show ∀ q ∈ lw_privs_1 ++ (lw_privs_2), lw_okq q
  exact List.forall_mem_append.mpr ⟨lw_r1, lw_r2⟩
end
section
/-! Methods that may throw: what a caller owes and gets. The kit of this claim has no such rows: these stand on the library's own laws (Steps.callFree, Stand.invokestatic, Stand.invokevirtual, Stand.leaveThrown, Stand.ctorThrowS). -/
section EZ
/-- the frame g of this method, with q thrown over it -/
def ez_W (p : Program) (l : Launch) (e : Env) (R : Room) (s : State) (m : MethodId) (args : Array Value) (below : List Frame) (meth : Method) (c : Code) (H : Heap) (locs : List Loc) (cells slots : Nat) (Q : State → Prop) (g : JFrame) (q : Addr) : Prop :=
  ∀ T : State, T.heap = H → Stand p l e R s m args below meth c T locs cells slots → ∃ t, Steps p.tables e below ((T.setTop g).pushFrame (.throwing q)) t ∧ Q t
/-- how a method ends: an answer v with 'pr', kr cells of nr slots being new; or an object q thrown with 'pt', which is one cell of six slots -/
def ez_O (pr : Option Value → State → State → Prop) (pt : Addr → State → State → Prop) (kr nr : Nat) (free : Addr → Prop) (st : State) (o : Outcome) (t : State) : Prop :=
  st.WarmedH t.vm ∧ ∃ L : List Loc, (∀ z ∈ L, free z.base) ∧ ((∃ v, o = .returned v ∧ pr v st t ∧ st.sameButNew ({ t with vm := st.vm } : State) L kr nr) ∨ ∃ q, o = .threw q ∧ pt q st t ∧ st.sameButNew ({ t with vm := st.vm } : State) L 1 6)
def ez_M (l : Launch) (y : MethodName) (ws : List Cond) (rm : Room) (Pc : Array Value → State → Prop) (pr : Option Value → State → State → Prop) (pt : Addr → State → State → Prop) (kr nr : Nat) (free : Addr → Prop) : Prop :=
  MetFree l y (headSpec ws rm) Pc (fun _ _ _ _ _ => True) (fun _ st o t => ez_O pr pt kr nr free st o t)
/-- what the body owes at its end -/
def ez_MQ (below : List Frame) (pr : Option Value → State → State → Prop) (pt : Addr → State → State → Prop) (s : State) (kr nr : Nat) (free : Addr → Prop) (t : State) : Prop :=
  ∃ o, t.status = .running ∧ Ended t below o ∧ ez_O pr pt kr nr free s o t
section
variable {p : Program} {l : Launch} {e : Env} {R : Room} {s : State} {m : MethodId} {args : Array Value} {below : List Frame} {meth : Method} {c : Code} {H : Heap} {locs : List Loc} {cells slots : Nat} {Q : State → Prop}
variable {pr : Option Value → State → State → Prop} {pt : Addr → State → State → Prop} {kr nr : Nat} {free : Addr → Prop} {Pc : Array Value → State → Prop} {rm : Room} {ws ws' : List Cond} {y : MethodName}
/-- an answer, by the kit's own rows -/
theorem ez_ret {g : JFrame} (k : W p l e R s m args below meth c H locs cells slots (MQ below (fun _ st o t => ∃ v, o = .returned v ∧ pr v st t) args s kr nr free) g) : W p l e R s m args below meth c H locs cells slots (ez_MQ below pr pt s kr nr free) g := by
  intro T hT X
  obtain ⟨t, a1, o, b1, b2, ⟨v, b3, b8⟩, L, ⟨b4, b5, b6⟩, b7⟩ := k T hT X
  exact ⟨t, a1, o, b1, b2, b5, L, b7, Or.inl ⟨v, b3, b8, b6⟩⟩
/-- nothing in this method catches: it goes on to the caller -/
theorem ez_out {g : JFrame} {q : Addr} (hg : g.method = m) (hl0 : g.locked = none) (he0 : g.entered = []) (hout : ∀ x ∈ c.exceptionTable.toList, covers x g.pc = false) (hlocks : meth.locks = false) (hq : ∀ t : State, t.heap = H → s.WarmedH t.vm → pt q s t) (hf : ∀ z ∈ locs, free z.base) (hc : cells ≤ 1) (hs : slots ≤ 6) :
    ez_W p l e R s m args below meth c H locs cells slots (ez_MQ below pr pt s kr nr free) g q := by
  intro T hT X
  obtain ⟨st1, hrun, hend, hW, hsm⟩ := X.leaveThrown q (g := g) hg hl0 he0 hout hlocks
  exact ⟨_, st1, .threw q, hrun, hend, hW, locs, hf, Or.inr ⟨q, rfl, hq _ hT hW, hsm.mono hc hs⟩⟩
/-- a contract out of the walk of its body -/
theorem ez_ofW {cc : ByteArray} {maxL : Nat} {ret : Option FieldType} (hy : plainName y.cls = true) (hw : ws = Cond.code y cc maxL ret :: ws')
    (body : ∀ p e s m args below meth c s₁, BodyLoose p l y (headSpec ws rm) cc maxL ret e s m args below meth c s₁ → c.maxLocals = maxL → c.exceptionTable.toList = [] → Pc args s →
      W p l e (headSpec ws rm).room s m args below meth c s.heap [] 0 0 (ez_MQ below pr pt s kr nr free) (entryFrame m args maxL)) : ez_M l y ws rm Pc pr pt kr nr free := by
  refine MetFree.of_bodyS (code := cc) (maxLocals := maxL) (ret := ret) hy ?_ ?_
  · intro args s m h hn
    obtain ⟨meth, c, h1, h2, h3, h4, h5, h6, -, -⟩ := Cond.code_spec hn (atoms_spec (ws := ws) h _ (by rw [hw]; exact List.mem_cons_self))
    exact ⟨meth, c, h1, h2, h3, h4, h5, h6⟩
  · intro p e s m args below meth c s₁ B hml hP _
    have hh0 : s₁.heap = s.heap := by rw [B.state]; rfl
    have ht : c.exceptionTable.toList = [] := by
      obtain ⟨meth9, c9, h1, h2, -, -, -, -, h7, -⟩ := Cond.code_spec B.named (atoms_spec (ws := ws) B.pre _ (by rw [hw]; exact List.mem_cons_self))
      cases Option.some.inj (h1.symm.trans B.method)
      cases Option.some.inj (h2.symm.trans (Stand.of_body B).code)
      rw [Array.isEmpty_iff.mp h7]
    obtain ⟨t, a1, o, b1, b2, b3⟩ := body p e s m args below meth c s₁ B hml ht hP s₁ hh0 (Stand.of_body B)
    exact ⟨t, o, a1, b1, b2, b3⟩
/-- behind a call: the same frame again, with an answer on its stack or an object thrown over it -/
theorem ez_back {U : State} {maxL W9 len : Nat} {g : JFrame} {ig : Instr} {mk : MethodId} {a : Array Value} {methY : Method} {cY : Code}
    (X : Stand p l e R s m args below meth c U locs cells slots) (hg : g.method = m) (hsize : g.locals.size = c.maxLocals) (hdg : decode c.code g.pc = .ok (ig, len)) (hW9 : 2 * g.monitorRoom + (g.stack.map fun v => v.category).sum ≤ W9)
    (hn : U.methodNamed? y = some mk) (hmY : U.vm.method? mk = some methY) (hcY : methY.code = some cY) (hlY : cY.maxLocals = maxL) (hini : (Cond.initialized y.cls).before a U = true)
    (hM : ez_M l y ws rm Pc pr pt kr nr free) (hframes : rm.frames + 1 ≤ R.frames) (hlocals : W9 + (maxL + 11) + rm.locals ≤ R.locals)
    (hws : ∀ w ∈ ws, w.before a U = true) (hc : cells + rm.cells ≤ R.cells) (hs : slots + rm.slots ≤ R.slots) (hPc : Pc a (U.calling g mk a)) :
    ∃ (T t : State) (L : List Loc), T.heap = t.heap ∧ T.vm = t.vm ∧ (∀ z ∈ L, free z.base) ∧
      ((Stand p l e R s m args below meth c T (locs ++ L) (cells + kr) (slots + nr) ∧ ∃ v, pr v (U.calling g mk a) t ∧ Steps p.tables e below (doInvoke e (U.setTop g) [] mk a).1 (T.setTop { g with pc := g.pc + len, stack := v.toList ++ g.stack })) ∨
        (Stand p l e R s m args below meth c T (locs ++ L) (cells + 1) (slots + 6) ∧ ∃ q, pt q (U.calling g mk a) t ∧ Steps p.tables e below (doInvoke e (U.setTop g) [] mk a).1 ((T.setTop g).pushFrame (.throwing q)))) := by
  subst hg
  obtain ⟨kY, hkY, -⟩ := className_of_methodNamed hn
  have hinitY : kY.init = .initialized := Cond.initialized_spec (findClass_of_methodNamed hn) hkY hini
  have happ : (headSpec ws rm).appliesLoose y e.platform (U.calling g mk a) = true := Spec.appliesLoose_calling (g := g) X.here hdg hn hkY hinitY (X.room_calling (g := g) (R' := (headSpec ws rm).room) hsize hmY hcY hframes (by rw [hlY]; show _ + _ + rm.locals ≤ _; omega) hc hs) (atoms_intro hws)
  obtain ⟨mid, hmid⟩ := X.here.above
  have hfr : (U.setTop g).frames = (.java g :: mid) ++ below := by rw [State.frames_setTop' g X.here.top, hmid]; rfl
  obtain ⟨o, t, hsteps, -, hend, hW, L, hL, hO⟩ := Steps.callFree hM p X.admits X.cas X.clock (acts := []) hfr happ hPc trivial
  rw [State.frames_setTop' g X.here.top] at hend
  obtain ⟨g₀, hg0⟩ := Option.isSome_iff_exists.mp X.here.top
  obtain ⟨r, hr⟩ := State.topJava?_eq_some.mp hg0
  obtain ⟨V, hV⟩ : ∃ V : State, V = (({ U with heap := t.heap, slotsUsed := t.slotsUsed } : State).setVm t.vm) := ⟨_, rfl⟩
  have hVf : V.frames = .java g₀ :: r := by rw [hV]; exact hr
  have hW' : U.WarmedH t.vm := hW
  have ht : ∀ k n, (U.calling g mk a).sameButNew ({ t with vm := (U.calling g mk a).vm } : State) L k n → t = V.setFrames t.frames := by
    intro k n hsm
    have e2 := hsm.1
    have h1 : t = ({ t with vm := (U.calling g mk a).vm } : State).setVm t.vm := rfl
    rw [e2, State.calling_eq X.here.top] at h1
    rw [hV]
    refine h1.trans ?_
    rw [State.setFrames_setFrames]
    rfl
  have XV : ∀ k n, (U.calling g mk a).sameButNew ({ t with vm := (U.calling g mk a).vm } : State) L k n → Stand p l e R s g.method args below meth c V (locs ++ L) (cells + k) (slots + n) := by
    intro k n hsm
    obtain ⟨-, q2, q3, q4, q5, q6⟩ := hsm
    have hsame : U.sameButNew ({ U with heap := t.heap, slotsUsed := t.slotsUsed } : State) L k n := by
      refine ⟨?_, q2, q3, q4, q5, q6⟩
      obtain ⟨t9, ht9, -⟩ := State.frames_cons hr
      show ({ U with heap := t.heap, slotsUsed := t.slotsUsed } : State) = { U.setFrames U.frames with heap := t.heap, slotsUsed := t.slotsUsed }
      rw [State.setFrames_self ht9]
    rw [hV]
    exact ⟨X.admits, X.cas, X.clock, X.frames, X.room, X.hears, X.method, X.code, (X.here.setHeapUsed t.heap t.slotsUsed).setVm hW'.alike, X.tail, State.WarmedH.trans X.warmed hW', X.limits, X.bytes, X.same.trans (hsame.setVm s.vm)⟩
  refine ⟨V, t, L, by rw [hV]; rfl, by rw [hV]; rfl, hL, ?_⟩
  rcases hO with ⟨v, rfl, hv, hsm⟩ | ⟨q, rfl, hq, hsm⟩
  · refine Or.inl ⟨XV _ _ hsm, v, hv, ?_⟩
    obtain ⟨c₂, i₂, len₂, hc₂, hd₂, hf₂⟩ := hend
    have hcc : c₂ = c := by
      have h1 : t.code? g.method = U.code? g.method := by rw [State.code?_eq, State.code?_eq, hW'.alike.method?]
      exact Option.some.inj (hc₂.symm.trans (h1.trans X.here.code))
    subst hcc
    rw [hdg] at hd₂
    cases hd₂
    have h9 : t = V.setTop { g with pc := g.pc + len, stack := v.toList ++ g.stack } := by
      rw [State.setTop_of_frames _ hVf]
      refine (ht _ _ hsm).trans ?_
      rw [hf₂, hr]
      rfl
    rw [← h9]
    exact hsteps
  · refine Or.inr ⟨XV _ _ hsm, q, hq, ?_⟩
    have hf₂ : t.frames = .throwing q :: .java g :: U.frames.tail := hend
    have h9 : t = (V.setTop g).pushFrame (.throwing q) := by
      rw [State.pushFrame, State.frames_setTop _ hVf, State.setTop_of_frames _ hVf, State.setFrames_setFrames]
      refine (ht _ _ hsm).trans ?_
      rw [hf₂, hr]
      rfl
    rw [← h9]
    exact hsteps
end
section
variable {p : Program} {l : Launch} {e : Env} {R : Room} {s : State} {m : MethodId} {args : Array Value} {below : List Frame} {meth : Method} {c : Code} {H : Heap} {locs : List Loc} {cells slots : Nat} {Q : State → Prop}
variable {pr : Option Value → State → State → Prop} {pt : Addr → State → State → Prop} {kr nr n nL maxL index pc : Nat} {free : Addr → Prop} {Pc : Array Value → State → Prop} {rm : Room} {Ts ws ws' : List Cond} {y : MethodName} {bytes cc : ByteArray} {ret : Option FieldType} {own C : String} {As rest st0 : List Value} {ls : Array Slot} {b : Addr}
/-- invokestatic -/
theorem ez_callS (S : CallFix p m c cc nL s args Ts own) (hM : ez_M l y ws rm Pc pr pt kr nr free) (cw : CallB R s args own index y bytes maxL ret ws rm 1 6 n ∧ (Cond.static y).before args s = true) (hp : PreS s H Pc As) (hn : As.length = n) (hsize : ls.size = nL) (hst : st0 = As.reverse ++ rest) (hroom : (rest.map fun v => v.category).sum ≤ 8) (hdg : decode cc pc = .ok (.invokestatic index, 3)) (hf : cells + 1 ≤ R.cells ∧ slots + 6 ≤ R.slots)
    (kx : ∀ (q : Addr) (st t : State) (L : List Loc), st.heap = H → s.vm.Alike t.vm → (∀ z ∈ L, free z.base) → pt q st t → ez_W p l e R s m args below meth c t.heap (locs ++ L) (cells + 1) (slots + 6) Q (F0 m pc ls rest) q)
    (kk : ∀ (v : Option Value) (st t : State) (L : List Loc), st.heap = H → s.vm.Alike t.vm → (∀ z ∈ L, free z.base) → pr v st t → W p l e R s m args below meth c t.heap (locs ++ L) (cells + kr) (slots + nr) Q (F0 m (pc + 3) ls (v.toList ++ rest))) :
    W p l e R s m args below meth c H locs cells slots Q (F0 m pc ls st0) := by
  subst hst
  obtain ⟨⟨hrc, hrs, hfr, hlo, hws, hcw, hcode, hini, hy, hlen, hl⟩, hstt⟩ := cw
  obtain ⟨hx, hb, hml, ho, -⟩ := S
  obtain ⟨hbl, hPc⟩ := hp
  intro T hT X
  obtain ⟨mk, hnamed⟩ := Cond.code_named hcode
  obtain ⟨methM, cM, hmethM, hcM, -, hlM, -, -, -, hsigM⟩ := Cond.code_spec hnamed hcode
  have hstatic : methM.isStatic = true := Cond.static_spec hnamed hmethM hstt
  obtain ⟨kP, hkP, -⟩ := className_of_methodNamed hnamed
  have hinitP : kP.init = .initialized := Cond.initialized_spec (findClass_of_methodNamed hnamed) hkP hini
  obtain ⟨vm₁, X₁, hstep₁⟩ := X.invokestatic hx ho hl hnamed hmethM hstatic hkP hinitP hy (g := F0 m pc ls (As.reverse ++ rest)) rfl (argsL := As) (rest := rest) (hn.trans (hlen _ hsigM)) rfl (by rw [hb]; exact hdg)
  obtain ⟨V, t, L, e1, e2, hL, hO⟩ := ez_back (g := F0 m pc ls rest) (a := As.toArray) X₁ rfl (hsize.trans hml.symm) (by rw [hb]; exact hdg) (W9 := 8) (by show 2 * 0 + (rest.map fun v => v.category).sum ≤ 8; omega) (X₁.named hnamed) (by rw [X₁.warmed.alike.method?]; exact hmethM) hcM hlM (word_at X₁.warmed (Or.inl (by first | rfl | simp [Cond.onTables, Cond.keeps, Cond.steady])) hini)
    hM hfr hlo (fun w h => hws w h _ _ X₁.warmed) (by rw [hrc]; exact hf.1) (by rw [hrs]; exact hf.2) (hbl _ _ _ _ (hPc (T.setVm vm₁) hT X₁.warmed))
  rcases hO with ⟨XV, v, hv, st⟩ | ⟨XV, q, hq, st⟩
  · have hal : s.vm.Alike t.vm := by rw [← e2]; exact XV.warmed.alike
    obtain ⟨t2, a1, b1⟩ := kk v ((T.setVm vm₁).calling (F0 m pc ls rest) mk As.toArray) t L hT hal hL hv V e1 XV
    exact ⟨t2, hstep₁ _ fun acts => by rw [doInvoke_state]; exact st.trans a1, b1⟩
  · have hal : s.vm.Alike t.vm := by rw [← e2]; exact XV.warmed.alike
    obtain ⟨t2, a1, b1⟩ := kx q ((T.setVm vm₁).calling (F0 m pc ls rest) mk As.toArray) t L hT hal hL hq V e1 XV
    exact ⟨t2, hstep₁ _ fun acts => by rw [doInvoke_state]; exact st.trans a1, b1⟩
/-- invokevirtual, of a method that the receiver's class has itself -/
theorem ez_callV (S : CallFix p m c cc nL s args Ts own) (hM : ez_M l y ws rm Pc pr pt kr nr free) (cw : CallW R s args own C index y bytes maxL ret ws rm 1 6 n) (hp : PreV s H C b Pc As) (hn : As.length = n) (hsize : ls.size = nL) (hst : st0 = As.reverse ++ .ref b :: rest) (hroom : (rest.map fun v => v.category).sum ≤ 8) (hdg : decode cc pc = .ok (.invokevirtual index, 3)) (hf : cells + 1 ≤ R.cells ∧ slots + 6 ≤ R.slots)
    (kx : ∀ (q : Addr) (st t : State) (L : List Loc), st.heap = H → s.vm.Alike t.vm → (∀ z ∈ L, free z.base) → pt q st t → ez_W p l e R s m args below meth c t.heap (locs ++ L) (cells + 1) (slots + 6) Q (F0 m pc ls rest) q)
    (kk : ∀ (v : Option Value) (st t : State) (L : List Loc), st.heap = H → s.vm.Alike t.vm → (∀ z ∈ L, free z.base) → pr v st t → W p l e R s m args below meth c t.heap (locs ++ L) (cells + kr) (slots + nr) Q (F0 m (pc + 3) ls (v.toList ++ rest))) :
    W p l e R s m args below meth c H locs cells slots Q (F0 m pc ls st0) := by
  subst hst
  obtain ⟨⟨hrc, hrs, hfr, hlo, hws, hcw, hcode, hini, hy, hlen, hl⟩, hin, hse⟩ := cw
  obtain ⟨hx, hb, hml, ho, -⟩ := S
  obtain ⟨hbl, ⟨cellB, hcB, hoB, hclB⟩, hPc⟩ := hp
  intro T hT X
  obtain ⟨mk, methM, hnamed, hmethM, hstM, habM⟩ := Cond.instanceMethod_spec hin
  obtain ⟨methM', cM, hmethM', hcM, -, hlM, -, -, -, hsigM⟩ := Cond.code_spec hnamed hcode
  cases hmethM.symm.trans hmethM'
  obtain ⟨c2, r2, m2, q1, q2, q3, q4, kP, hkP, hkPi⟩ := Cond.selects_spec hse
  cases hclB.symm.trans q1
  cases (State.methodFound?_of_named hnamed hy).symm.trans q2
  cases hnamed.symm.trans q3
  have hselP : selectMethod e.platform s.vm cellB.cls mk = .method mk := by rw [Launch.admits_selectMethod X.admits]; exact q4
  obtain ⟨vm₁, X₁, hstep₁⟩ := X.invokevirtual hx ho hl hnamed hmethM hstM hkP hkPi hy (a := b) (cell := cellB) (by rw [hT]; exact hcB)
    (fun z h => by rw [h] at hoB; cases hoB) hselP hmethM habM hkP hkPi (g := F0 m pc ls (As.reverse ++ .ref b :: rest)) rfl (argsL := As) (rest := rest) (hn.trans (hlen _ hsigM)) rfl (by rw [hb]; exact hdg)
  obtain ⟨V, t, L, e1, e2, hL, hO⟩ := ez_back (g := F0 m pc ls rest) (a := (Value.ref b :: As).toArray) X₁ rfl (hsize.trans hml.symm) (by rw [hb]; exact hdg) (W9 := 8) (by show 2 * 0 + (rest.map fun v => v.category).sum ≤ 8; omega) (X₁.named hnamed) (by rw [X₁.warmed.alike.method?]; exact hmethM) hcM hlM (word_at X₁.warmed (Or.inl (by first | rfl | simp [Cond.onTables, Cond.keeps, Cond.steady])) hini)
    hM hfr hlo (fun w h => hws w h _ _ X₁.warmed) (by rw [hrc]; exact hf.1) (by rw [hrs]; exact hf.2) (hbl _ _ _ _ (hPc (T.setVm vm₁) hT X₁.warmed))
  rcases hO with ⟨XV, v, hv, st⟩ | ⟨XV, q, hq, st⟩
  · have hal : s.vm.Alike t.vm := by rw [← e2]; exact XV.warmed.alike
    obtain ⟨t2, a1, b1⟩ := kk v ((T.setVm vm₁).calling (F0 m pc ls rest) mk (Value.ref b :: As).toArray) t L hT hal hL hv V e1 XV
    exact ⟨t2, hstep₁ _ fun acts => by rw [doInvoke_state]; exact st.trans a1, b1⟩
  · have hal : s.vm.Alike t.vm := by rw [← e2]; exact XV.warmed.alike
    obtain ⟨t2, a1, b1⟩ := kx q ((T.setVm vm₁).calling (F0 m pc ls rest) mk (Value.ref b :: As).toArray) t L hT hal hL hq V e1 XV
    exact ⟨t2, hstep₁ _ fun acts => by rw [doInvoke_state]; exact st.trans a1, b1⟩
end
end EZ
end
section
/-! 'throw new E("text")' ahead of any store, and a catch by name -/
section EC
variable {p : Program} {l : Launch} {e : Env} {R : Room} {s : State} {m : MethodId} {args : Array Value} {below : List Frame} {meth : Method} {c : Code} {H : Heap} {locs : List Loc} {cells slots : Nat} {Q : State → Prop}
/-- no slot of old has been written: the old cells are as they were -/
theorem ez_old {s U : State} {k n : Nat} (h : s.sameButNew ({ U with vm := s.vm } : State) [] k n) : s.heap.size ≤ U.heap.size ∧ ∀ q : Nat, q < s.heap.size → U.heap[q]? = s.heap[q]? := by
  obtain ⟨-, h2, -, -, -, h6⟩ := h
  refine ⟨h2, fun q hq => ?_⟩
  obtain ⟨c9, e1, e2, -, e4⟩ := h6 q _ (Array.getElem?_eq_getElem hq)
  have h7 : c9.slots = (s.heap[q]).slots := Array.ext_getElem? fun i => e4 i (List.not_mem_nil)
  rw [h7] at e2
  have e5 : U.heap[q]? = some c9 := e1
  rw [e5, Array.getElem?_eq_getElem hq]
  exact congrArg some e2
set_option maxHeartbeats 1000000 in
theorem ez_throwS {pr : Option Value → State → State → Prop} {pt : Addr → State → State → Prop} {kr nr : Nat} {free : Addr → Prop} {cc : ByteArray} {pc : Nat} {ls : Array Slot} {rest : List Value} (hexec : p.tables.exec = Jvm.exec) (hb : c.code = cc) (hl9 : l.stackTraces = false)
    {own cls text : String} {names : List String} {ik is ic sa : Nat} (hown : s.vm.findClass own = some m.cls) (hcls : Bundle.fit cls = true) (hnames : ∀ n ∈ names, Bundle.fit n = true)
    (hk : (Cond.classLink own ik cls).before args s = true) (hini : (Cond.initialized cls).before args s = true) (hstr : vk_R own is text sa s) (h : ∀ w ∈ Bundle.ownAtoms own ic cls names, w.before args s = true)
    (hH : s.heap.size ≤ H.size) (hsize : ls.size = c.maxLocals) (hout : c.exceptionTable.toList = []) (hlocks : meth.locks = false)
    (d0 : decode cc pc = .ok (.new ik, 3)) (d3 : decode cc (pc + 3) = .ok (.dup, 1)) (d4 : decode cc (pc + 4) = .ok (.ldc is, 2)) (d6 : decode cc (pc + 6) = .ok (.invokespecial ic, 3)) (d9 : decode cc (pc + 9) = .ok (.athrow, 1))
    (hRframes : names.length + 3 < R.frames) (hRlocals : (rest.map fun v => v.category).sum + (13 * (names.length + 1) + 43) ≤ R.locals) (hRcells : 0 + 1 ≤ R.cells) (hRslots : 0 + 6 ≤ R.slots)
    (hq : ∀ (q : Addr) (t : State) (ce : Cell), t.heap[q]? = some ce → ce.vm = .none → s.vm.findClass cls = some ce.cls → s.vm.Alike t.vm → s.heap.size ≤ t.heap.size → (∀ j : Nat, j < s.heap.size → t.heap[j]? = s.heap[j]?) → pt q s t) :
    W p l e R s m args below meth c H [] 0 0 (ez_MQ below pr pt s kr nr free) (F0 m pc ls rest) := by
  intro T hT X
  have htr : e.platform.stackTraces = false := (show e.platform.stackTraces = l.stackTraces by rw [X.admits.platform]).trans hl9
  have hins : (Cond.instantiable cls 6).before args s = true := h _ (by simp [Bundle.ownAtoms])
  obtain ⟨vm₁, cX, kX, hfX, hkX, -, -, X₁, st1⟩ := X.newCold hexec (own := own) (C := cls) (index := ik) (n := 6) hown hk hins hini (g := F0 m pc ls rest) rfl (by rw [hb]; exact d0) hRcells hRslots
  generalize hT1 : (T.setVm vm₁).pushCell { cls := cX, slots := kX.instanceTypes.map defaultValue, vm := .none } = T1 at X₁ st1
  have hcat : (Value.ref T.heap.size).category = 1 := rfl
  have hcellA : T1.heap[T.heap.size]? = some (freshCell cX kX) := by rw [← hT1]; exact State.heap_pushCell_size _ _
  have d3' : decode c.code (pc + 3) = .ok (.dup, 1) := by rw [hb]; exact d3
  have d4' : decode c.code (pc + 4) = .ok (.ldc is, 2) := by rw [hb]; exact d4
  obtain ⟨U, hsteps, hrun, hend, hW, hsame, ce, hce, hO⟩ := X₁.ctorThrowS hexec htr (own := own) (cls := cls) (names := names) (ic := ic) hown hcls hnames h (fun x hx => nomatch hx) hfX hkX hcellA (by rw [hT]; exact hH) (msg := .ref sa) rfl
    (g := { method := m, pc := pc + 6, locals := ls, stack := .ref sa :: .ref T.heap.size :: .ref T.heap.size :: rest, locked := none }) rfl hsize rfl rfl (rest := rest) rfl
    (by rw [hb]; exact d6) (by rw [hb]; exact d9) (fun x hx => by rw [hout] at hx; cases hx) hRframes (by simp only [List.map_cons, List.sum_cons, hcat]; omega) hlocks
  obtain ⟨f1, f2⟩ := ez_old hsame
  refine ⟨U, ?_, .threw T.heap.size, hrun, hend, hW, [], (fun z hz => nomatch hz), Or.inr ⟨T.heap.size, rfl, hq _ U ce hce hO.vm hO.cls hW.alike f1 f2, hsame⟩⟩
  refine st1 _ ?_
  show Steps p.tables e below (T1.setTop { method := m, pc := pc + 3, locals := ls, stack := .ref T.heap.size :: rest, locked := none }) _
  jvm_step X₁.here [X₁.here.top, hexec, d3', Value.category]
  exact X₁.ldcString hexec (own := own) (text := text) (index := is) (a := sa) hown hstr.1 hstr.2
    (g := { method := m, pc := pc + 4, locals := ls, stack := .ref T.heap.size :: .ref T.heap.size :: rest, locked := none }) rfl d4' _ hsteps
/-- one row of a table that covers the place and names a class: taken or passed -/
theorem ez_row {Q : Handler → Pre} {E : CtlPost} {e : Env} {d : Bool} {acts : List Action} {S : State} {f : JFrame} {a : Addr} {x : ExceptionTableEntry} {t : List ExceptionTableEntry} {k : ClassId} {cell : Cell}
    (hx : covers x f.pc = true) (h0 : x.catchType ≠ 0) (hl : S.vm.ClassLinks e.platform f.method.cls x.catchType k) (hcell : S.heap[a]? = some cell) (hobj : ∀ z, cell.vm ≠ .statics z)
    (h1 : ∃ z, S.vm.classes[cell.cls]? = some z) (h2 : ∃ z, S.vm.classes[k]? = some z) :
    wp (findHandler.go f a (x :: t)) Q E e d acts S ↔ (if S.vm.assignable cell.cls k = true then Q (.found x.handlerPc) d acts (S.setVm (S.vm.noted f.method.cls x.catchType (.cls k))) else wp (findHandler.go f a t) Q E e d acts (S.setVm (S.vm.noted f.method.cls x.catchType (.cls k)))) := by
  simp only [covers] at hx
  obtain ⟨ha, ht⟩ := (resolveClass_links e.toSetting hl).op (op := VmOp.resolveClass f.method.cls x.catchType) rfl
  have hal : S.vm.Alike (S.vm.noted f.method.cls x.catchType (.cls k)) := (Vm.Alike.refl S.vm).noted _ _ _
  obtain ⟨z1, hz1⟩ := h1
  obtain ⟨z2, hz2⟩ := h2
  obtain ⟨w1, hw1, -⟩ := hal.2.2 _ _ hz1
  obtain ⟨w2, hw2, -⟩ := hal.2.2 _ _ hz2
  cases hfit : S.vm.assignable cell.cls k with
  | true =>
    have hfit' : (S.vm.noted f.method.cls x.catchType (.cls k)).assignable cell.cls k = true := by rw [hal.assignable]; exact hfit
    rw [if_pos rfl]
    simp [findHandler.go, hx, h0, ha, ht, hcell, hobj, hw1, hw2, hfit', VmOp.dirties, VmOp.acts]
  | false =>
    have hfit' : (S.vm.noted f.method.cls x.catchType (.cls k)).assignable cell.cls k = false := by rw [hal.assignable]; exact hfit
    rw [if_neg (by decide)]
    simp [findHandler.go, hx, h0, ha, ht, hcell, hobj, hw1, hw2, hfit', VmOp.dirties, VmOp.acts]
/-- rows that are passed, then one that takes it -/
theorem ez_find {e : Env} {s : State} {f : JFrame} {a : Addr} {cell : Cell} {own E : String} {args : Array Value} (hpl : e.platform.magicAccessors = ({} : Platform).magicAccessors) (hown : s.vm.findClass own = some f.method.cls) (hE : s.vm.findClass E = some cell.cls) (hobj : ∀ z, cell.vm ≠ .statics z)
    (x : ExceptionTableEntry) (rest : List ExceptionTableEntry) {nm : String} (hx : covers x f.pc = true) (h0 : x.catchType ≠ 0) (hlink : (Cond.classLink own x.catchType nm).before args s = true) (hcast : (Cond.castable E nm).before args s = true) :
    ∀ (pre : List ExceptionTableEntry) (S : State), s.WarmedH S.vm → S.heap[a]? = some cell → (∀ z ∈ pre, covers z f.pc = true ∧ z.catchType ≠ 0 ∧ ∃ n2 : String, (Cond.classLink own z.catchType n2).before args s = true ∧ va_Nc E n2 s) →
      ∃ vm', s.WarmedH vm' ∧ ∀ (Q : Handler → Pre) (E9 : CtlPost) (d : Bool) (acts : List Action), wp (findHandler.go f a (pre ++ x :: rest)) Q E9 e d acts S ↔ Q (.found x.handlerPc) d acts (S.setVm vm') := by
  intro pre
  induction pre with
  | nil =>
    intro S hW hc _
    obtain ⟨k, hk, hcl⟩ := Cond.classLink_spec hown hlink e.platform hpl
    obtain ⟨c3, c4, hc3, hc4, hasg⟩ := Cond.castable_spec hcast
    cases Option.some.inj (hc3.symm.trans hE)
    cases Option.some.inj (hc4.symm.trans hk)
    obtain ⟨dk, _, _, kt, hd, _, _, _, _, hkt, _, hopen⟩ := hcl.here
    obtain ⟨kt', hkt', -⟩ := hW.alike.2.2 _ _ hkt
    obtain ⟨k0, hk0, -⟩ := Vm.findClass_spec hE
    obtain ⟨k0', hk0', -⟩ := hW.alike.2.2 _ _ hk0
    refine ⟨_, hW.noted hd hopen (State.rightAt_cls hcl), fun Q E9 d acts => ?_⟩
    rw [List.nil_append, ez_row hx h0 (hW.classLinks hcl) hc hobj ⟨k0', hk0'⟩ ⟨kt', hkt'⟩, if_pos (by rw [hW.alike.assignable]; exact hasg)]
  | cons z zs ih =>
    intro S hW hc hp
    obtain ⟨hz, hz0, n2, hl2, a8, b8, h1, h2, h3⟩ := hp z List.mem_cons_self
    obtain ⟨k, hk, hcl⟩ := Cond.classLink_spec hown hl2 e.platform hpl
    cases Option.some.inj (h1.symm.trans hE)
    cases Option.some.inj (h2.symm.trans hk)
    obtain ⟨dk, _, _, kt, hd, _, _, _, _, hkt, _, hopen⟩ := hcl.here
    obtain ⟨kt', hkt', -⟩ := hW.alike.2.2 _ _ hkt
    obtain ⟨k0, hk0, -⟩ := Vm.findClass_spec hE
    obtain ⟨k0', hk0', -⟩ := hW.alike.2.2 _ _ hk0
    obtain ⟨vm', hW', hq⟩ := ih (S.setVm (S.vm.noted f.method.cls z.catchType (.cls b8))) (hW.noted hd hopen (State.rightAt_cls hcl)) hc (fun y hy => hp y (List.mem_cons_of_mem _ hy))
    refine ⟨vm', hW', fun Q E9 d acts => ?_⟩
    rw [List.cons_append, ez_row hz hz0 (hW.classLinks hcl) hc hobj ⟨k0', hk0'⟩ ⟨kt', hkt'⟩, if_neg (by rw [hW.alike.assignable, h3]; decide)]
    exact hq Q E9 d acts
/-- caught by the row x of this method's table; the rows ahead name other classes -/
theorem ez_catch {pc : Nat} {ls : Array Slot} {rest : List Value} {own nm E : String} {ce : Cell} {q : Addr} (hown : s.vm.findClass own = some m.cls) (pre : List ExceptionTableEntry) (x : ExceptionTableEntry) (suf : List ExceptionTableEntry) (hsplit : c.exceptionTable.toList = pre ++ x :: suf)
    (hpass : ∀ z ∈ pre, covers z pc = true ∧ z.catchType ≠ 0 ∧ ∃ n2 : String, (Cond.classLink own z.catchType n2).before args s = true ∧ va_Nc E n2 s) (hx : covers x pc = true) (h0 : x.catchType ≠ 0)
    (hlink : (Cond.classLink own x.catchType nm).before args s = true) (hcast : (Cond.castable E nm).before args s = true) (hcell : H[q]? = some ce) (hv : ce.vm = .none) (hE : s.vm.findClass E = some ce.cls)
    (kk : W p l e R s m args below meth c H locs cells slots Q (F0 m x.handlerPc ls [.ref q])) : ez_W p l e R s m args below meth c H locs cells slots Q (F0 m pc ls rest) q := by
  intro T hT X
  have hpl : e.platform.magicAccessors = ({} : Platform).magicAccessors := by rw [X.admits.platform]
  obtain ⟨S, hS⟩ : ∃ S : State, S = (T.setTop (F0 m pc ls rest)).pushFrame (.throwing q) := ⟨_, rfl⟩
  have hSv : S.vm = T.vm := by rw [hS]; exact Stand.throwing_vm T _ q
  have hSh : S.heap = T.heap := by rw [hS]; exact Stand.throwing_heap T _ q
  obtain ⟨vm', hW', hf⟩ := ez_find (e := e) (s := s) (f := F0 m pc ls rest) (a := q) (cell := ce) hpl hown hE (VmData.ne_statics_of (by rw [hv]; rfl)) x suf hx h0 hlink hcast pre S (by rw [hSv]; exact X.warmed) (by rw [hSh, hT]; exact hcell) hpass
  obtain ⟨t, a1, b1⟩ := kk (T.setVm vm') hT (X.noted hW')
  refine ⟨t, ?_, b1⟩
  obtain ⟨hgo, hw⟩ := X.here.throwing (g := F0 m pc ls rest) q
  refine Steps.head hgo hw ?_
  have hm' : S.vm.method? m = some meth := by rw [hSv]; exact X.method'
  have hfind : ∀ (Q : Handler → Pre) (E9 : CtlPost) (d : Bool) (acts : List Action), wp (findHandler (F0 m pc ls rest) q) Q E9 e d acts S ↔ Q (.found x.handlerPc) d acts (S.setVm vm') := fun Q E9 d acts => by
    rw [W.findHandler_eq hm' X.code, hsplit]; exact hf Q E9 d acts
  rw [stepThread_throwing (frames_entered X.here.top _), ← hS]
  obtain ⟨g₀, hg⟩ := Option.isSome_iff_exists.mp X.here.top
  obtain ⟨r, hr⟩ := State.topJava?_eq_some.mp hg
  have hr' : (T.setVm vm').frames = .java g₀ :: r := hr
  rw [State.setTop_of_frames _ hr'] at a1
  have key : (stepThrowing e S q (.java (F0 m pc ls rest) :: T.frames.tail)).1 = (S.setVm vm').setFrames (.java (F0 m x.handlerPc ls [.ref q]) :: T.frames.tail) := by
    simp only [stepThrowing, searchFrame, vmDo]
    generalize hres : Sem.go _ e false [] S = res
    obtain ⟨as, rfl, -⟩ := Sem.eq_ok_of hres (a := Handler.found x.handlerPc) (s' := S.setVm vm') (acts' := []) (by simp [hfind _ _ _ _])
    rfl
  rw [key, hS]
  have h9 : (((T.setTop (F0 m pc ls rest)).pushFrame (.throwing q)).setVm vm').setFrames (.java (F0 m x.handlerPc ls [.ref q]) :: T.frames.tail) = (T.setVm vm').setFrames (.java (F0 m x.handlerPc ls [.ref q]) :: r) := by
    rw [hr, List.tail_cons, State.pushFrame, State.setTop_of_frames _ hr]
    have h7 : ∀ (u : State) (F G : List Frame), ((u.setFrames F).setVm vm').setFrames G = (u.setVm vm').setFrames G := fun u F G => by
      have h8 : (u.setFrames F).setVm vm' = (u.setVm vm').setFrames F := rfl
      rw [h8, State.setFrames_setFrames]
    rw [h7, h7]
  rw [h9]
  exact a1
end EC
/-! methods with a table of their own -/
section ET
variable {p : Program} {l : Launch} {e : Env} {R : Room} {s : State} {m : MethodId} {args : Array Value} {below : List Frame} {meth : Method} {c : Code} {H : Heap} {locs : List Loc} {cells slots : Nat} {Q : State → Prop}
variable {pr : Option Value → State → State → Prop} {pt : Addr → State → State → Prop} {kr nr n nL maxL index pc : Nat} {free : Addr → Prop} {Pc : Array Value → State → Prop} {rm : Room} {Ts ws ws' : List Cond} {y : MethodName} {bytes cc : ByteArray} {ret : Option FieldType} {own : String} {As rest st0 : List Value} {ls : Array Slot} {hh : List (Nat × Nat × Nat × Nat)}
theorem ez_ofWT (hy : plainName y.cls = true) (hw : ws = Cond.codeWith y cc maxL ret hh :: ws')
    (body : ∀ p e s m args below meth c s₁, BodyLoose p l y (headSpec ws rm) cc maxL ret e s m args below meth c s₁ → c.maxLocals = maxL → c.exceptionTable.toList = tableOf hh → Pc args s →
      W p l e (headSpec ws rm).room s m args below meth c s.heap [] 0 0 (ez_MQ below pr pt s kr nr free) (entryFrame m args maxL)) : ez_M l y ws rm Pc pr pt kr nr free := by
  refine MetFree.of_bodyS (code := cc) (maxLocals := maxL) (ret := ret) hy ?_ ?_
  · intro args s m h hn
    obtain ⟨m9, meth, c, hn9, h1, h2, h3, h4, -, h5, h6, -⟩ := Cond.codeWith_spec (atoms_spec (ws := ws) h _ (by rw [hw]; exact List.mem_cons_self))
    cases hn.symm.trans hn9
    exact ⟨meth, c, h1, h2, h3, h4, h5, h6⟩
  · intro p e s m args below meth c s₁ B hml hP _
    have hh0 : s₁.heap = s.heap := by rw [B.state]; rfl
    have ht : c.exceptionTable.toList = tableOf hh := by
      obtain ⟨m9, meth9, c9, hn9, h1, h2, -, -, h6, -⟩ := Cond.codeWith_spec (atoms_spec (ws := ws) B.pre _ (by rw [hw]; exact List.mem_cons_self))
      cases Option.some.inj (hn9.symm.trans B.named)
      cases Option.some.inj (h1.symm.trans B.method)
      cases Option.some.inj (h2.symm.trans (Stand.of_body B).code)
      rw [← h6, table_eq]
    obtain ⟨t, a1, o, b1, b2, b3⟩ := body p e s m args below meth c s₁ B hml ht hP s₁ hh0 (Stand.of_body B)
    exact ⟨t, o, a1, b1, b2, b3⟩
/-- invokestatic of a method with a table -/
theorem ez_callST (S : CallFix p m c cc nL s args Ts own) (hM : ez_M l y ws rm Pc pr pt kr nr free) (hG : GoodIn Ts (wsS own index y ws)) (hw : ws = Cond.codeWith y bytes maxL ret hh :: ws') (hrc : rm.cells = 1) (hrs : rm.slots = 6)
    (hd : y.cls = own ∧ y.cls ≠ "java/lang/invoke/MethodHandle" ∧ y.cls ≠ "java/lang/invoke/VarHandle" ∧ (parseMethodDescriptor y.desc).map (fun d => d.parameters.length) = some n) (hR : rm.frames + 1 ≤ R.frames ∧ 8 + (maxL + 11) + rm.locals ≤ R.locals)
    (hp : PreS s H Pc As) (hn : As.length = n) (hsize : ls.size = nL) (hst : st0 = As.reverse ++ rest) (hroom : (rest.map fun v => v.category).sum ≤ 8) (hdg : decode cc pc = .ok (.invokestatic index, 3)) (hf : cells + 1 ≤ R.cells ∧ slots + 6 ≤ R.slots)
    (kx : ∀ (q : Addr) (st t : State) (L : List Loc), st.heap = H → s.vm.Alike t.vm → (∀ z ∈ L, free z.base) → pt q st t → ez_W p l e R s m args below meth c t.heap (locs ++ L) (cells + 1) (slots + 6) Q (F0 m pc ls rest) q)
    (kk : ∀ (v : Option Value) (st t : State) (L : List Loc), st.heap = H → s.vm.Alike t.vm → (∀ z ∈ L, free z.base) → pr v st t → W p l e R s m args below meth c t.heap (locs ++ L) (cells + kr) (slots + nr) Q (F0 m (pc + 3) ls (v.toList ++ rest))) :
    W p l e R s m args below meth c H locs cells slots Q (F0 m pc ls st0) := by
  subst hst
  obtain ⟨hx, hb, hml, ho, hts⟩ := S
  obtain ⟨hbl, hPc⟩ := hp
  obtain ⟨hcl, hy1, hy2, hd2⟩ := hd
  have ok : ∀ w ∈ wsS own index y ws, w.before args s = true := fun w h => hts w (hG w h).1
  have hG2 : GoodIn Ts ws := fun w h => hG w (by unfold wsS; exact List.mem_append_right _ h)
  have hcode : (Cond.codeWith y bytes maxL ret hh).before args s = true := hts _ (hG2 _ (by rw [hw]; exact List.mem_cons_self)).1
  have hl : (Cond.methodLink own index y).before args s = true := ok _ (by simp [wsS])
  have hstt : (Cond.static y).before args s = true := ok _ (by simp [wsS])
  have hini : (Cond.initialized y.cls).before args s = true := by rw [hcl]; exact ok _ (by simp [wsS])
  intro T hT X
  obtain ⟨mk, methM, cM, hnamed, hmethM, hcM, -, hlM, -, -, -, hsigM⟩ := Cond.codeWith_spec hcode
  have hstatic : methM.isStatic = true := Cond.static_spec hnamed hmethM hstt
  obtain ⟨kP, hkP, -⟩ := className_of_methodNamed hnamed
  have hinitP : kP.init = .initialized := Cond.initialized_spec (findClass_of_methodNamed hnamed) hkP hini
  have hlen : As.length = methM.sig.parameters.length := by
    rw [hsigM] at hd2
    exact hn.trans (Option.some.inj hd2).symm
  obtain ⟨vm₁, X₁, hstep₁⟩ := X.invokestatic hx ho hl hnamed hmethM hstatic hkP hinitP ⟨hy1, hy2⟩ (g := F0 m pc ls (As.reverse ++ rest)) rfl (argsL := As) (rest := rest) hlen rfl (by rw [hb]; exact hdg)
  obtain ⟨V, t, L, e1, e2, hL, hO⟩ := ez_back (g := F0 m pc ls rest) (a := As.toArray) X₁ rfl (hsize.trans hml.symm) (by rw [hb]; exact hdg) (W9 := 8) (by show 2 * 0 + (rest.map fun v => v.category).sum ≤ 8; omega) (X₁.named hnamed) (by rw [X₁.warmed.alike.method?]; exact hmethM) hcM hlM (word_at X₁.warmed (Or.inl (by first | rfl | simp [Cond.onTables, Cond.keeps, Cond.steady])) hini)
    hM hR.1 hR.2 (fun w h => pay_in hts hG2 w h _ _ X₁.warmed) (by rw [hrc]; exact hf.1) (by rw [hrs]; exact hf.2) (hbl _ _ _ _ (hPc (T.setVm vm₁) hT X₁.warmed))
  rcases hO with ⟨XV, v, hv, st⟩ | ⟨XV, q, hq, st⟩
  · have hal : s.vm.Alike t.vm := by rw [← e2]; exact XV.warmed.alike
    obtain ⟨t2, a1, b1⟩ := kk v ((T.setVm vm₁).calling (F0 m pc ls rest) mk As.toArray) t L hT hal hL hv V e1 XV
    exact ⟨t2, hstep₁ _ fun acts => by rw [doInvoke_state]; exact st.trans a1, b1⟩
  · have hal : s.vm.Alike t.vm := by rw [← e2]; exact XV.warmed.alike
    obtain ⟨t2, a1, b1⟩ := kx q ((T.setVm vm₁).calling (F0 m pc ls rest) mk As.toArray) t L hT hal hL hq V e1 XV
    exact ⟨t2, hstep₁ _ fun acts => by rw [doInvoke_state]; exact st.trans a1, b1⟩
end ET
end
section
/-! names: classes, fields in the order of their slots, methods (by program, out of claim/JAVAP.txt and claim/Statement.lean) -/
def RX0 : String := "QuorumCouncil"
def TX0 : u_T := fun k => match k with
  | 0 => ("QuorumCouncil", "itself", "I", true)
  | 1 => ("QuorumCouncil", "oldSet", "I", false)
  | 2 => ("QuorumCouncil", "newSet", "I", false)
  | 3 => ("QuorumCouncil", "learnerSet", "I", false)
  | 4 => ("QuorumCouncil", "voteSet", "I", false)
  | 5 => ("QuorumCouncil", "currentRound", "I", false)
  | 6 => ("QuorumCouncil", "next", "[I", true)
  | 7 => ("QuorumCouncil", "match", "[I", true)
  | 8 => ("QuorumCouncil", "flying", "[I", true)
  | 9 => ("QuorumCouncil", "probing", "[Z", true)
  | 10 => ("QuorumCouncil", "offset", "[I", true)
  | 11 => ("QuorumCouncil", "ack", "[I", true)
  | 12 => ("QuorumCouncil", "heard", "[I", true)
  | _ => ("QuorumCouncil", "answered", "[Z", true)
def tyX0 : Nat → FieldType := fun k => match k with
  | 0 => .int
  | 1 => .int
  | 2 => .int
  | 3 => .int
  | 4 => .int
  | 5 => .int
  | 6 => .array .int
  | 7 => .array .int
  | 8 => .array .int
  | 9 => .array .boolean
  | 10 => .array .int
  | 11 => .array .int
  | 12 => .array .int
  | _ => .array .boolean
theorem nmX0 : ∀ a, a < 14 → ∀ b, b < 14 → a ≠ b → (TX0 a).2.1 ≠ (TX0 b).2.1 := by decide +kernel
theorem tyX0_ok : ∀ k, k < 14 → parseFieldDescriptor (TX0 k).2.2.1 = some (tyX0 k) := by decide +kernel
def RX1 : String := "QuorumCouncilModel"
def TX1 : u_T := fun k => match k with
  | 0 => ("QuorumCouncilModel", "thrown", "I", false)
  | 1 => ("QuorumCouncilModel", "itself", "I", true)
  | 2 => ("QuorumCouncilModel", "old", "I", false)
  | 3 => ("QuorumCouncilModel", "fresh", "I", false)
  | 4 => ("QuorumCouncilModel", "learners", "I", false)
  | 5 => ("QuorumCouncilModel", "votes", "I", false)
  | 6 => ("QuorumCouncilModel", "round", "I", false)
  | _ => ("QuorumCouncilModel", "all", "[I", true)
def tyX1 : Nat → FieldType := fun k => match k with
  | 0 => .int
  | 1 => .int
  | 2 => .int
  | 3 => .int
  | 4 => .int
  | 5 => .int
  | 6 => .int
  | _ => .array .int
theorem nmX1 : ∀ a, a < 8 → ∀ b, b < 8 → a ≠ b → (TX1 a).2.1 ≠ (TX1 b).2.1 := by decide +kernel
theorem tyX1_ok : ∀ k, k < 8 → parseFieldDescriptor (TX1 k).2.2.1 = some (tyX1 k) := by decide +kernel
def RL : String := "QuorumCouncilLaw"
def RJ6 : String := "java/lang/Integer"
abbrev vwCl : List vw_C := [(RX0, TX0, 14), (RX1, TX1, 8)]
/-- the words that any place of this claim may use -/
def kz_W9 : List Cond := lw_tbl.filter goodWord
abbrev cX0_init : ByteArray := prog_1_method_1_code
def yX0_init : MethodName := ⟨RX0, "<init>", "(II)V"⟩
abbrev wsX0_init : List Cond := .code yX0_init cX0_init 5 none :: kz_W9
abbrev cX0_members : ByteArray := prog_1_method_2_code
def yX0_members : MethodName := ⟨RX0, "members", "(III)V"⟩
abbrev wsX0_members : List Cond := .code yX0_members cX0_members 4 none :: kz_W9
abbrev cX0_change : ByteArray := prog_1_method_3_code
def yX0_change : MethodName := ⟨RX0, "change", "(II)V"⟩
abbrev wsX0_change : List Cond := .code yX0_change cX0_change 3 none :: kz_W9
abbrev cX0_settle : ByteArray := prog_1_method_4_code
def yX0_settle : MethodName := ⟨RX0, "settle", "()Z"⟩
abbrev wsX0_settle : List Cond := .code yX0_settle cX0_settle 1 (some .boolean) :: kz_W9
abbrev cX0_majority : ByteArray := prog_1_method_5_code
def yX0_majority : MethodName := ⟨RX0, "majority", "(I)Z"⟩
abbrev wsX0_majority : List Cond := .code yX0_majority cX0_majority 2 (some .boolean) :: kz_W9
abbrev cX0_ballot : ByteArray := prog_1_method_6_code
def yX0_ballot : MethodName := ⟨RX0, "ballot", "()V"⟩
abbrev wsX0_ballot : List Cond := .code yX0_ballot cX0_ballot 1 none :: kz_W9
abbrev cX0_vote : ByteArray := prog_1_method_7_code
def yX0_vote : MethodName := ⟨RX0, "vote", "(I)Z"⟩
abbrev wsX0_vote : List Cond := .code yX0_vote cX0_vote 2 (some .boolean) :: kz_W9
abbrev cX0_lead : ByteArray := prog_1_method_8_code
def yX0_lead : MethodName := ⟨RX0, "lead", "(II)V"⟩
abbrev wsX0_lead : List Cond := .code yX0_lead cX0_lead 4 none :: kz_W9
abbrev cX0_round : ByteArray := prog_1_method_9_code
def yX0_round : MethodName := ⟨RX0, "round", "()I"⟩
abbrev wsX0_round : List Cond := .code yX0_round cX0_round 3 (some .int) :: kz_W9
abbrev cX0_sending : ByteArray := prog_1_method_10_code
def yX0_sending : MethodName := ⟨RX0, "sending", "(IIIZ)I"⟩
abbrev wsX0_sending : List Cond := .code yX0_sending cX0_sending 5 (some .int) :: kz_W9
abbrev cX0_matched : ByteArray := prog_1_method_11_code
def yX0_matched : MethodName := ⟨RX0, "matched", "(IIII)I"⟩
abbrev wsX0_matched : List Cond := .code yX0_matched cX0_matched 5 (some .int) :: kz_W9
abbrev cX0_refused : ByteArray := prog_1_method_12_code
def yX0_refused : MethodName := ⟨RX0, "refused", "(IIIII)I"⟩
abbrev wsX0_refused : List Cond := .code yX0_refused cX0_refused 6 (some .int) :: kz_W9
abbrev cX0_stored : ByteArray := prog_1_method_13_code
def yX0_stored : MethodName := ⟨RX0, "stored", "(IIIIII)Z"⟩
abbrev wsX0_stored : List Cond := .code yX0_stored cX0_stored 7 (some .boolean) :: kz_W9
abbrev cX0_own : ByteArray := prog_1_method_14_code
def yX0_own : MethodName := ⟨RX0, "own", "(II)V"⟩
abbrev wsX0_own : List Cond := .code yX0_own cX0_own 3 none :: kz_W9
abbrev cX0_agreed : ByteArray := prog_1_method_15_code
def yX0_agreed : MethodName := ⟨RX0, "agreed", "(I)I"⟩
abbrev wsX0_agreed : List Cond := .code yX0_agreed cX0_agreed 2 (some .int) :: kz_W9
abbrev cX0_server : ByteArray := prog_1_method_16_code
def yX0_server : MethodName := ⟨RX0, "server", "(II)I"⟩
abbrev wsX0_server : List Cond := .code yX0_server cX0_server 3 (some .int) :: kz_W9
abbrev cX0_council : ByteArray := prog_1_method_17_code
def yX0_council : MethodName := ⟨RX0, "council", "(I)I"⟩
abbrev wsX0_council : List Cond := .code yX0_council cX0_council 2 (some .int) :: kz_W9
abbrev cX0_requireSet : ByteArray := prog_1_method_18_code
def yX0_requireSet : MethodName := ⟨RX0, "requireSet", "(I)V"⟩
abbrev wsX0_requireSet : List Cond := .code yX0_requireSet cX0_requireSet 1 none :: kz_W9
abbrev cX0_requireNumber : ByteArray := prog_1_method_19_code
def yX0_requireNumber : MethodName := ⟨RX0, "requireNumber", "(I)V"⟩
abbrev wsX0_requireNumber : List Cond := .code yX0_requireNumber cX0_requireNumber 1 none :: kz_W9
abbrev cX0_requireServer : ByteArray := prog_1_method_20_code
def yX0_requireServer : MethodName := ⟨RX0, "requireServer", "(I)V"⟩
abbrev wsX0_requireServer : List Cond := .code yX0_requireServer cX0_requireServer 1 none :: kz_W9
abbrev cX0_requirePeer : ByteArray := prog_1_method_21_code
def yX0_requirePeer : MethodName := ⟨RX0, "requirePeer", "(I)V"⟩
abbrev wsX0_requirePeer : List Cond := .code yX0_requirePeer cX0_requirePeer 2 none :: kz_W9
abbrev cX0_isIn : ByteArray := prog_1_method_22_code
def yX0_isIn : MethodName := ⟨RX0, "isIn", "(II)Z"⟩
abbrev wsX0_isIn : List Cond := .code yX0_isIn cX0_isIn 2 (some .boolean) :: kz_W9
abbrev cX0_voterSet : ByteArray := prog_1_method_23_code
def yX0_voterSet : MethodName := ⟨RX0, "voterSet", "()I"⟩
abbrev wsX0_voterSet : List Cond := .code yX0_voterSet cX0_voterSet 1 (some .int) :: kz_W9
abbrev cX0_peerSet : ByteArray := prog_1_method_24_code
def yX0_peerSet : MethodName := ⟨RX0, "peerSet", "()I"⟩
abbrev wsX0_peerSet : List Cond := .code yX0_peerSet cX0_peerSet 1 (some .int) :: kz_W9
abbrev cX0_learnersMatching : ByteArray := prog_1_method_25_code
def yX0_learnersMatching : MethodName := ⟨RX0, "learnersMatching", "(I)I"⟩
abbrev wsX0_learnersMatching : List Cond := .code yX0_learnersMatching cX0_learnersMatching 2 (some .int) :: kz_W9
abbrev cX0_thoseWithAtLeast : ByteArray := prog_1_method_26_code
def yX0_thoseWithAtLeast : MethodName := ⟨RX0, "thoseWithAtLeast", "([II)I"⟩
abbrev wsX0_thoseWithAtLeast : List Cond := .code yX0_thoseWithAtLeast cX0_thoseWithAtLeast 4 (some .int) :: kz_W9
abbrev cX0_isMajority : ByteArray := prog_1_method_27_code
def yX0_isMajority : MethodName := ⟨RX0, "isMajority", "(I)Z"⟩
abbrev wsX0_isMajority : List Cond := .code yX0_isMajority cX0_isMajority 2 (some .boolean) :: kz_W9
abbrev cX0_isMoreThanHalf : ByteArray := prog_1_method_28_code
def yX0_isMoreThanHalf : MethodName := ⟨RX0, "isMoreThanHalf", "(II)Z"⟩
abbrev wsX0_isMoreThanHalf : List Cond := .code yX0_isMoreThanHalf cX0_isMoreThanHalf 2 (some .boolean) :: kz_W9
abbrev cX0_whatMajorityHas : ByteArray := prog_1_method_29_code
def yX0_whatMajorityHas : MethodName := ⟨RX0, "whatMajorityHas", "([I)I"⟩
abbrev wsX0_whatMajorityHas : List Cond := .code yX0_whatMajorityHas cX0_whatMajorityHas 4 (some .int) :: kz_W9
abbrev cX0_mayFlyMore : ByteArray := prog_1_method_30_code
def yX0_mayFlyMore : MethodName := ⟨RX0, "mayFlyMore", "(I)Z"⟩
abbrev wsX0_mayFlyMore : List Cond := .code yX0_mayFlyMore cX0_mayFlyMore 2 (some .boolean) :: kz_W9
abbrev cX0_sendSnapshotPiece : ByteArray := prog_1_method_31_code
def yX0_sendSnapshotPiece : MethodName := ⟨RX0, "sendSnapshotPiece", "(I)I"⟩
abbrev wsX0_sendSnapshotPiece : List Cond := .code yX0_sendSnapshotPiece cX0_sendSnapshotPiece 2 (some .int) :: kz_W9
abbrev cX0_sendEntries : ByteArray := prog_1_method_32_code
def yX0_sendEntries : MethodName := ⟨RX0, "sendEntries", "(II)I"⟩
abbrev wsX0_sendEntries : List Cond := .code yX0_sendEntries cX0_sendEntries 4 (some .int) :: kz_W9
abbrev cX0_hear : ByteArray := prog_1_method_33_code
def yX0_hear : MethodName := ⟨RX0, "hear", "(III)V"⟩
abbrev wsX0_hear : List Cond := .code yX0_hear cX0_hear 4 none :: kz_W9
abbrev cX1_init : ByteArray := prog_3_method_1_code
def yX1_init : MethodName := ⟨RX1, "<init>", "(II)V"⟩
abbrev wsX1_init : List Cond := .code yX1_init cX1_init 3 none :: kz_W9
abbrev cX1_thrown : ByteArray := prog_3_method_2_code
def yX1_thrown : MethodName := ⟨RX1, "thrown", "()I"⟩
abbrev wsX1_thrown : List Cond := .code yX1_thrown cX1_thrown 1 (some .int) :: kz_W9
abbrev cX1_fail : ByteArray := prog_3_method_3_code
def yX1_fail : MethodName := ⟨RX1, "fail", "(I)I"⟩
abbrev wsX1_fail : List Cond := .code yX1_fail cX1_fail 2 (some .int) :: kz_W9
abbrev cX1_isSet : ByteArray := prog_3_method_4_code
def yX1_isSet : MethodName := ⟨RX1, "isSet", "(I)Z"⟩
abbrev wsX1_isSet : List Cond := .code yX1_isSet cX1_isSet 1 (some .boolean) :: kz_W9
abbrev cX1_number : ByteArray := prog_3_method_5_code
def yX1_number : MethodName := ⟨RX1, "number", "(I)Z"⟩
abbrev wsX1_number : List Cond := .code yX1_number cX1_number 1 (some .boolean) :: kz_W9
abbrev cX1_has : ByteArray := prog_3_method_6_code
def yX1_has : MethodName := ⟨RX1, "has", "(II)Z"⟩
abbrev wsX1_has : List Cond := .code yX1_has cX1_has 2 (some .boolean) :: kz_W9
abbrev cX1_get : ByteArray := prog_3_method_7_code
def yX1_get : MethodName := ⟨RX1, "get", "(II)I"⟩
abbrev wsX1_get : List Cond := .code yX1_get cX1_get 3 (some .int) :: kz_W9
abbrev cX1_put : ByteArray := prog_3_method_8_code
def yX1_put : MethodName := ⟨RX1, "put", "(III)V"⟩
abbrev wsX1_put : List Cond := .code yX1_put cX1_put 4 none :: kz_W9
abbrev cX1_members : ByteArray := prog_3_method_9_code
def yX1_members : MethodName := ⟨RX1, "members", "(III)V"⟩
abbrev wsX1_members : List Cond := .code yX1_members cX1_members 4 none :: kz_W9
abbrev cX1_change : ByteArray := prog_3_method_10_code
def yX1_change : MethodName := ⟨RX1, "change", "(II)V"⟩
abbrev wsX1_change : List Cond := .code yX1_change cX1_change 5 none :: kz_W9
abbrev cX1_settle : ByteArray := prog_3_method_11_code
def yX1_settle : MethodName := ⟨RX1, "settle", "()Z"⟩
abbrev wsX1_settle : List Cond := .code yX1_settle cX1_settle 1 (some .boolean) :: kz_W9
abbrev cX1_mostOf : ByteArray := prog_3_method_12_code
def yX1_mostOf : MethodName := ⟨RX1, "mostOf", "(II)Z"⟩
abbrev wsX1_mostOf : List Cond := .code yX1_mostOf cX1_mostOf 5 (some .boolean) :: kz_W9
abbrev cX1_carries : ByteArray := prog_3_method_13_code
def yX1_carries : MethodName := ⟨RX1, "carries", "(I)Z"⟩
abbrev wsX1_carries : List Cond := .code yX1_carries cX1_carries 2 (some .boolean) :: kz_W9
abbrev cX1_majority : ByteArray := prog_3_method_14_code
def yX1_majority : MethodName := ⟨RX1, "majority", "(I)Z"⟩
abbrev wsX1_majority : List Cond := .code yX1_majority cX1_majority 2 (some .boolean) :: kz_W9
abbrev cX1_ballot : ByteArray := prog_3_method_15_code
def yX1_ballot : MethodName := ⟨RX1, "ballot", "()V"⟩
abbrev wsX1_ballot : List Cond := .code yX1_ballot cX1_ballot 1 none :: kz_W9
abbrev cX1_vote : ByteArray := prog_3_method_16_code
def yX1_vote : MethodName := ⟨RX1, "vote", "(I)Z"⟩
abbrev wsX1_vote : List Cond := .code yX1_vote cX1_vote 2 (some .boolean) :: kz_W9
abbrev cX1_peers : ByteArray := prog_3_method_17_code
def yX1_peers : MethodName := ⟨RX1, "peers", "()I"⟩
abbrev wsX1_peers : List Cond := .code yX1_peers cX1_peers 3 (some .int) :: kz_W9
abbrev cX1_lead : ByteArray := prog_3_method_18_code
def yX1_lead : MethodName := ⟨RX1, "lead", "(II)V"⟩
abbrev wsX1_lead : List Cond := .code yX1_lead cX1_lead 5 none :: kz_W9
abbrev cX1_round : ByteArray := prog_3_method_19_code
def yX1_round : MethodName := ⟨RX1, "round", "()I"⟩
abbrev wsX1_round : List Cond := .code yX1_round cX1_round 2 (some .int) :: kz_W9
abbrev cX1_sending : ByteArray := prog_3_method_20_code
def yX1_sending : MethodName := ⟨RX1, "sending", "(IIIZ)I"⟩
abbrev wsX1_sending : List Cond := .code yX1_sending cX1_sending 8 (some .int) :: kz_W9
abbrev cX1_bad : ByteArray := prog_3_method_21_code
def yX1_bad : MethodName := ⟨RX1, "bad", "(IIIII)Z"⟩
abbrev wsX1_bad : List Cond := .code yX1_bad cX1_bad 6 (some .boolean) :: kz_W9
abbrev cX1_greater : ByteArray := prog_3_method_22_code
def yX1_greater : MethodName := ⟨RX1, "greater", "(II)I"⟩
abbrev wsX1_greater : List Cond := .code yX1_greater cX1_greater 2 (some .int) :: kz_W9
abbrev cX1_answered : ByteArray := prog_3_method_23_code
def yX1_answered : MethodName := ⟨RX1, "answered", "(III)V"⟩
abbrev wsX1_answered : List Cond := .code yX1_answered cX1_answered 4 none :: kz_W9
abbrev cX1_matched : ByteArray := prog_3_method_24_code
def yX1_matched : MethodName := ⟨RX1, "matched", "(IIII)I"⟩
abbrev wsX1_matched : List Cond := .code yX1_matched cX1_matched 5 (some .int) :: kz_W9
abbrev cX1_refused : ByteArray := prog_3_method_25_code
def yX1_refused : MethodName := ⟨RX1, "refused", "(IIIII)I"⟩
abbrev wsX1_refused : List Cond := .code yX1_refused cX1_refused 7 (some .int) :: kz_W9
abbrev cX1_stored : ByteArray := prog_3_method_26_code
def yX1_stored : MethodName := ⟨RX1, "stored", "(IIIIII)Z"⟩
abbrev wsX1_stored : List Cond := .code yX1_stored cX1_stored 7 (some .boolean) :: kz_W9
abbrev cX1_own : ByteArray := prog_3_method_27_code
def yX1_own : MethodName := ⟨RX1, "own", "(II)V"⟩
abbrev wsX1_own : List Cond := .code yX1_own cX1_own 3 none :: kz_W9
abbrev cX1_agreed : ByteArray := prog_3_method_28_code
def yX1_agreed : MethodName := ⟨RX1, "agreed", "(I)I"⟩
abbrev wsX1_agreed : List Cond := .code yX1_agreed cX1_agreed 7 (some .int) :: kz_W9
abbrev cX1_server : ByteArray := prog_3_method_29_code
def yX1_server : MethodName := ⟨RX1, "server", "(II)I"⟩
abbrev wsX1_server : List Cond := .code yX1_server cX1_server 3 (some .int) :: kz_W9
abbrev cX1_council : ByteArray := prog_3_method_30_code
def yX1_council : MethodName := ⟨RX1, "council", "(I)I"⟩
abbrev wsX1_council : List Cond := .code yX1_council cX1_council 2 (some .int) :: kz_W9
abbrev cL_cell : ByteArray := method_2_code
def yL_cell : MethodName := ⟨RL, "cell", "([II)I"⟩
abbrev wsL_cell : List Cond := .code yL_cell cL_cell 2 (some .int) :: kz_W9
abbrev cL_members : ByteArray := method_3_code
def yL_members : MethodName := ⟨RL, "members", "(LQuorumCouncil;III)I"⟩
abbrev wsL_members : List Cond := .codeWith yL_members cL_members 5 (some .int) [(0, 7, 10, 13)] :: kz_W9
abbrev cL_change : ByteArray := method_4_code
def yL_change : MethodName := ⟨RL, "change", "(LQuorumCouncil;II)I"⟩
abbrev wsL_change : List Cond := .codeWith yL_change cL_change 4 (some .int) [(0, 6, 9, 13), (0, 6, 12, 19)] :: kz_W9
abbrev cL_settle : ByteArray := method_5_code
def yL_settle : MethodName := ⟨RL, "settle", "(LQuorumCouncil;[J)I"⟩
abbrev wsL_settle : List Cond := .codeWith yL_settle cL_settle 3 (some .int) [(0, 15, 18, 19)] :: kz_W9
abbrev cL_majority : ByteArray := method_6_code
def yL_majority : MethodName := ⟨RL, "majority", "(LQuorumCouncil;I[J)I"⟩
abbrev wsL_majority : List Cond := .codeWith yL_majority cL_majority 4 (some .int) [(0, 16, 19, 13)] :: kz_W9
abbrev cL_vote : ByteArray := method_7_code
def yL_vote : MethodName := ⟨RL, "vote", "(LQuorumCouncil;I[J)I"⟩
abbrev wsL_vote : List Cond := .codeWith yL_vote cL_vote 4 (some .int) [(0, 16, 19, 32)] :: kz_W9
abbrev cL_lead : ByteArray := method_8_code
def yL_lead : MethodName := ⟨RL, "lead", "(LQuorumCouncil;II)I"⟩
abbrev wsL_lead : List Cond := .codeWith yL_lead cL_lead 4 (some .int) [(0, 6, 9, 13)] :: kz_W9
abbrev cL_sending : ByteArray := method_9_code
def yL_sending : MethodName := ⟨RL, "sending", "(LQuorumCouncil;IIIZ[J)I"⟩
abbrev wsL_sending : List Cond := .codeWith yL_sending cL_sending 7 (some .int) [(0, 14, 17, 32), (0, 14, 21, 13)] :: kz_W9
abbrev cL_matched : ByteArray := method_10_code
def yL_matched : MethodName := ⟨RL, "matched", "(LQuorumCouncil;IIII[J)I"⟩
abbrev wsL_matched : List Cond := .codeWith yL_matched cL_matched 7 (some .int) [(0, 14, 17, 32), (0, 14, 21, 13)] :: kz_W9
abbrev cL_refused : ByteArray := method_11_code
def yL_refused : MethodName := ⟨RL, "refused", "(LQuorumCouncil;IIIII[J)I"⟩
abbrev wsL_refused : List Cond := .codeWith yL_refused cL_refused 8 (some .int) [(0, 16, 19, 32), (0, 16, 23, 13)] :: kz_W9
abbrev cL_stored : ByteArray := method_12_code
def yL_stored : MethodName := ⟨RL, "stored", "(LQuorumCouncil;IIIIII[J)I"⟩
abbrev wsL_stored : List Cond := .codeWith yL_stored cL_stored 9 (some .int) [(0, 25, 28, 32), (0, 25, 32, 13)] :: kz_W9
abbrev cL_own : ByteArray := method_13_code
def yL_own : MethodName := ⟨RL, "own", "(LQuorumCouncil;II)I"⟩
abbrev wsL_own : List Cond := .codeWith yL_own cL_own 4 (some .int) [(0, 6, 9, 13)] :: kz_W9
abbrev cL_agreed : ByteArray := method_14_code
def yL_agreed : MethodName := ⟨RL, "agreed", "(LQuorumCouncil;I[J)I"⟩
abbrev wsL_agreed : List Cond := .codeWith yL_agreed cL_agreed 4 (some .int) [(0, 9, 12, 13)] :: kz_W9
abbrev cL_server : ByteArray := method_15_code
def yL_server : MethodName := ⟨RL, "server", "(LQuorumCouncil;II[J)I"⟩
abbrev wsL_server : List Cond := .codeWith yL_server cL_server 5 (some .int) [(0, 10, 13, 32)] :: kz_W9
abbrev cL_law : ByteArray := code
abbrev cJ6_bitCount : ByteArray := prog_8_method_49_code
def yJ6_bitCount : MethodName := ⟨RJ6, "bitCount", "(I)I"⟩
abbrev wsJ6_bitCount : List Cond := .code yJ6_bitCount cJ6_bitCount 1 (some .int) :: kz_W9
end
section
/-! words, by their places in the tables -/
theorem kz_in {w : Cond} {i : Nat} (h : tables_1[i]? = some w) (g : goodWord w = true) : w ∈ kz_W9 := List.mem_filter.mpr ⟨List.mem_append_right _ (List.mem_of_getElem? h), g⟩
theorem kz_sel {w : Cond} (h : w ∈ k2_sels lw_privs) (g : goodWord w = true) : w ∈ kz_W9 := List.mem_filter.mpr ⟨List.mem_append_left _ h, g⟩
theorem mw_0 : (Jvm.Cond.initialized "QuorumCouncilLaw") ∈ kz_W9 := kz_in (i := 0) (by decide +kernel) (by decide +kernel)
theorem mw_1 : (Jvm.Cond.initialized "QuorumCouncil") ∈ kz_W9 := kz_in (i := 1) (by decide +kernel) (by decide +kernel)
theorem mw_2 : (Jvm.Cond.initialized "QuorumCouncilModel") ∈ kz_W9 := kz_in (i := 2) (by decide +kernel) (by decide +kernel)
theorem mw_3 : (Jvm.Cond.initialized "java/lang/Throwable") ∈ kz_W9 := kz_in (i := 3) (by decide +kernel) (by decide +kernel)
theorem mw_4 : (Jvm.Cond.initialized "java/lang/Exception") ∈ kz_W9 := kz_in (i := 4) (by decide +kernel) (by decide +kernel)
theorem mw_5 : (Jvm.Cond.initialized "java/lang/RuntimeException") ∈ kz_W9 := kz_in (i := 5) (by decide +kernel) (by decide +kernel)
theorem mw_6 : (Jvm.Cond.initialized "java/lang/IllegalArgumentException") ∈ kz_W9 := kz_in (i := 6) (by decide +kernel) (by decide +kernel)
theorem mw_7 : (Jvm.Cond.initialized "java/lang/IllegalStateException") ∈ kz_W9 := kz_in (i := 7) (by decide +kernel) (by decide +kernel)
theorem mw_8 : (Jvm.Cond.initialized "java/lang/Integer") ∈ kz_W9 := kz_in (i := 8) (by decide +kernel) (by decide +kernel)
theorem mw_9 : (Jvm.Cond.initialized "java/lang/IndexOutOfBoundsException") ∈ kz_W9 := kz_in (i := 9) (by decide +kernel) (by decide +kernel)
theorem mw_10 : (Jvm.Cond.initialized "java/lang/Math") ∈ kz_W9 := kz_in (i := 10) (by decide +kernel) (by decide +kernel)
theorem mw_11 : (Jvm.Cond.classLink "QuorumCouncilLaw" (8 : Nat) "QuorumCouncil") ∈ kz_W9 := kz_in (i := 11) (by decide +kernel) (by decide +kernel)
theorem mw_12 : (Jvm.Cond.instantiable "QuorumCouncil" (14 : Nat)) ∈ kz_W9 := kz_in (i := 12) (by decide +kernel) (by decide +kernel)
theorem mw_13 : (Jvm.Cond.methodLink "QuorumCouncilLaw" (70 : Nat) ({ cls := "QuorumCouncil", name := "<init>", desc := "(II)V" } : Jvm.MethodName)) ∈ kz_W9 := kz_in (i := 13) (by decide +kernel) (by decide +kernel)
theorem mw_14 : (Jvm.Cond.instanceMethod ({ cls := "QuorumCouncil", name := "<init>", desc := "(II)V" } : Jvm.MethodName)) ∈ kz_W9 := kz_in (i := 14) (by decide +kernel) (by decide +kernel)
theorem mw_15 : (Jvm.Cond.code ({ cls := "QuorumCouncil", name := "<init>", desc := "(II)V" } : Jvm.MethodName) prog_1_method_1_code (5 : Nat) (Option.none : Option Jvm.ClassFile.FieldType)) ∈ kz_W9 := kz_in (i := 15) (by decide +kernel) (by decide +kernel)
theorem mw_16 : (Jvm.Cond.methodLink "QuorumCouncil" (1 : Nat) ({ cls := "java/lang/Object", name := "<init>", desc := "()V" } : Jvm.MethodName)) ∈ kz_W9 := kz_in (i := 16) (by decide +kernel) (by decide +kernel)
theorem mw_17 : (Jvm.Cond.instanceMethod ({ cls := "java/lang/Object", name := "<init>", desc := "()V" } : Jvm.MethodName)) ∈ kz_W9 := kz_in (i := 17) (by decide +kernel) (by decide +kernel)
theorem mw_18 : (Jvm.Cond.code ({ cls := "java/lang/Object", name := "<init>", desc := "()V" } : Jvm.MethodName) object_method_1_code (1 : Nat) (Option.none : Option Jvm.ClassFile.FieldType)) ∈ kz_W9 := kz_in (i := 18) (by decide +kernel) (by decide +kernel)
theorem mw_19 : (Jvm.Cond.fieldLink "QuorumCouncil" (35 : Nat) "QuorumCouncil" "itself" "I") ∈ kz_W9 := kz_in (i := 19) (by decide +kernel) (by decide +kernel)
theorem mw_20 : (Jvm.Cond.fieldLink "QuorumCouncil" (39 : Nat) "QuorumCouncil" "oldSet" "I") ∈ kz_W9 := kz_in (i := 20) (by decide +kernel) (by decide +kernel)
theorem mw_21 : (Jvm.Cond.fieldLink "QuorumCouncil" (55 : Nat) "QuorumCouncil" "newSet" "I") ∈ kz_W9 := kz_in (i := 21) (by decide +kernel) (by decide +kernel)
theorem mw_22 : (Jvm.Cond.fieldLink "QuorumCouncil" (58 : Nat) "QuorumCouncil" "learnerSet" "I") ∈ kz_W9 := kz_in (i := 22) (by decide +kernel) (by decide +kernel)
theorem mw_23 : (Jvm.Cond.fieldLink "QuorumCouncil" (84 : Nat) "QuorumCouncil" "voteSet" "I") ∈ kz_W9 := kz_in (i := 23) (by decide +kernel) (by decide +kernel)
theorem mw_24 : (Jvm.Cond.fieldLink "QuorumCouncil" (93 : Nat) "QuorumCouncil" "currentRound" "I") ∈ kz_W9 := kz_in (i := 24) (by decide +kernel) (by decide +kernel)
theorem mw_25 : (Jvm.Cond.fieldLink "QuorumCouncil" (9 : Nat) "QuorumCouncil" "next" "[I") ∈ kz_W9 := kz_in (i := 25) (by decide +kernel) (by decide +kernel)
theorem mw_26 : (Jvm.Cond.fieldLink "QuorumCouncil" (13 : Nat) "QuorumCouncil" "match" "[I") ∈ kz_W9 := kz_in (i := 26) (by decide +kernel) (by decide +kernel)
theorem mw_27 : (Jvm.Cond.fieldLink "QuorumCouncil" (16 : Nat) "QuorumCouncil" "flying" "[I") ∈ kz_W9 := kz_in (i := 27) (by decide +kernel) (by decide +kernel)
theorem mw_28 : (Jvm.Cond.fieldLink "QuorumCouncil" (19 : Nat) "QuorumCouncil" "probing" "[Z") ∈ kz_W9 := kz_in (i := 28) (by decide +kernel) (by decide +kernel)
theorem mw_29 : (Jvm.Cond.fieldLink "QuorumCouncil" (23 : Nat) "QuorumCouncil" "offset" "[I") ∈ kz_W9 := kz_in (i := 29) (by decide +kernel) (by decide +kernel)
theorem mw_30 : (Jvm.Cond.fieldLink "QuorumCouncil" (26 : Nat) "QuorumCouncil" "ack" "[I") ∈ kz_W9 := kz_in (i := 30) (by decide +kernel) (by decide +kernel)
theorem mw_31 : (Jvm.Cond.fieldLink "QuorumCouncil" (29 : Nat) "QuorumCouncil" "heard" "[I") ∈ kz_W9 := kz_in (i := 31) (by decide +kernel) (by decide +kernel)
theorem mw_32 : (Jvm.Cond.fieldLink "QuorumCouncil" (32 : Nat) "QuorumCouncil" "answered" "[Z") ∈ kz_W9 := kz_in (i := 32) (by decide +kernel) (by decide +kernel)
theorem mw_62 : (Jvm.Cond.arrayClass Jvm.ClassFile.FieldType.int) ∈ kz_W9 := kz_in (i := 62) (by decide +kernel) (by decide +kernel)
theorem mw_63 : (Jvm.Cond.arrayClass Jvm.ClassFile.FieldType.boolean) ∈ kz_W9 := kz_in (i := 63) (by decide +kernel) (by decide +kernel)
theorem mw_64 : (Jvm.Cond.methodLink "QuorumCouncilLaw" (95 : Nat) ({ cls := "QuorumCouncil", name := "ballot", desc := "()V" } : Jvm.MethodName)) ∈ kz_W9 := kz_in (i := 64) (by decide +kernel) (by decide +kernel)
theorem mw_65 : (Jvm.Cond.instanceMethod ({ cls := "QuorumCouncil", name := "ballot", desc := "()V" } : Jvm.MethodName)) ∈ kz_W9 := kz_in (i := 65) (by decide +kernel) (by decide +kernel)
theorem mw_66 : (Jvm.Cond.selects "QuorumCouncil" ({ cls := "QuorumCouncil", name := "ballot", desc := "()V" } : Jvm.MethodName) ({ cls := "QuorumCouncil", name := "ballot", desc := "()V" } : Jvm.MethodName)) ∈ kz_W9 := kz_in (i := 66) (by decide +kernel) (by decide +kernel)
theorem mw_67 : (Jvm.Cond.code ({ cls := "QuorumCouncil", name := "ballot", desc := "()V" } : Jvm.MethodName) prog_1_method_6_code (1 : Nat) (Option.none : Option Jvm.ClassFile.FieldType)) ∈ kz_W9 := kz_in (i := 67) (by decide +kernel) (by decide +kernel)
theorem mw_68 : (Jvm.Cond.methodLink "QuorumCouncilLaw" (105 : Nat) ({ cls := "QuorumCouncil", name := "round", desc := "()I" } : Jvm.MethodName)) ∈ kz_W9 := kz_in (i := 68) (by decide +kernel) (by decide +kernel)
theorem mw_69 : (Jvm.Cond.instanceMethod ({ cls := "QuorumCouncil", name := "round", desc := "()I" } : Jvm.MethodName)) ∈ kz_W9 := kz_in (i := 69) (by decide +kernel) (by decide +kernel)
theorem mw_70 : (Jvm.Cond.selects "QuorumCouncil" ({ cls := "QuorumCouncil", name := "round", desc := "()I" } : Jvm.MethodName) ({ cls := "QuorumCouncil", name := "round", desc := "()I" } : Jvm.MethodName)) ∈ kz_W9 := kz_in (i := 70) (by decide +kernel) (by decide +kernel)
theorem mw_71 : (Jvm.Cond.code ({ cls := "QuorumCouncil", name := "round", desc := "()I" } : Jvm.MethodName) prog_1_method_9_code (3 : Nat) (Option.some Jvm.ClassFile.FieldType.int)) ∈ kz_W9 := kz_in (i := 71) (by decide +kernel) (by decide +kernel)
theorem mw_72 : (Jvm.Cond.methodLink "QuorumCouncil" (96 : Nat) ({ cls := "QuorumCouncil", name := "peerSet", desc := "()I" } : Jvm.MethodName)) ∈ kz_W9 := kz_in (i := 72) (by decide +kernel) (by decide +kernel)
theorem mw_74 : (Jvm.Cond.instanceMethod ({ cls := "QuorumCouncil", name := "peerSet", desc := "()I" } : Jvm.MethodName)) ∈ kz_W9 := kz_in (i := 74) (by decide +kernel) (by decide +kernel)
theorem mw_75 : (Jvm.Cond.code ({ cls := "QuorumCouncil", name := "peerSet", desc := "()I" } : Jvm.MethodName) prog_1_method_24_code (1 : Nat) (Option.some Jvm.ClassFile.FieldType.int)) ∈ kz_W9 := kz_in (i := 75) (by decide +kernel) (by decide +kernel)
theorem mw_76 : (Jvm.Cond.methodLink "QuorumCouncil" (138 : Nat) ({ cls := "QuorumCouncil", name := "voterSet", desc := "()I" } : Jvm.MethodName)) ∈ kz_W9 := kz_in (i := 76) (by decide +kernel) (by decide +kernel)
theorem mw_78 : (Jvm.Cond.instanceMethod ({ cls := "QuorumCouncil", name := "voterSet", desc := "()I" } : Jvm.MethodName)) ∈ kz_W9 := kz_in (i := 78) (by decide +kernel) (by decide +kernel)
theorem mw_79 : (Jvm.Cond.code ({ cls := "QuorumCouncil", name := "voterSet", desc := "()I" } : Jvm.MethodName) prog_1_method_23_code (1 : Nat) (Option.some Jvm.ClassFile.FieldType.int)) ∈ kz_W9 := kz_in (i := 79) (by decide +kernel) (by decide +kernel)
theorem mw_80 : (Jvm.Cond.methodLink "QuorumCouncil" (76 : Nat) ({ cls := "QuorumCouncil", name := "isIn", desc := "(II)Z" } : Jvm.MethodName)) ∈ kz_W9 := kz_in (i := 80) (by decide +kernel) (by decide +kernel)
theorem mw_81 : (Jvm.Cond.static ({ cls := "QuorumCouncil", name := "isIn", desc := "(II)Z" } : Jvm.MethodName)) ∈ kz_W9 := kz_in (i := 81) (by decide +kernel) (by decide +kernel)
theorem mw_82 : (Jvm.Cond.code ({ cls := "QuorumCouncil", name := "isIn", desc := "(II)Z" } : Jvm.MethodName) prog_1_method_22_code (2 : Nat) (Option.some Jvm.ClassFile.FieldType.boolean)) ∈ kz_W9 := kz_in (i := 82) (by decide +kernel) (by decide +kernel)
theorem mw_83 : (Jvm.Cond.methodLink "QuorumCouncilLaw" (135 : Nat) ({ cls := "QuorumCouncil", name := "council", desc := "(I)I" } : Jvm.MethodName)) ∈ kz_W9 := kz_in (i := 83) (by decide +kernel) (by decide +kernel)
theorem mw_84 : (Jvm.Cond.instanceMethod ({ cls := "QuorumCouncil", name := "council", desc := "(I)I" } : Jvm.MethodName)) ∈ kz_W9 := kz_in (i := 84) (by decide +kernel) (by decide +kernel)
theorem mw_85 : (Jvm.Cond.selects "QuorumCouncil" ({ cls := "QuorumCouncil", name := "council", desc := "(I)I" } : Jvm.MethodName) ({ cls := "QuorumCouncil", name := "council", desc := "(I)I" } : Jvm.MethodName)) ∈ kz_W9 := kz_in (i := 85) (by decide +kernel) (by decide +kernel)
theorem mw_86 : (Jvm.Cond.code ({ cls := "QuorumCouncil", name := "council", desc := "(I)I" } : Jvm.MethodName) prog_1_method_17_code (2 : Nat) (Option.some Jvm.ClassFile.FieldType.int)) ∈ kz_W9 := kz_in (i := 86) (by decide +kernel) (by decide +kernel)
theorem mw_87 : (Jvm.Cond.methodLink "QuorumCouncilLaw" (64 : Nat) ({ cls := "QuorumCouncilLaw", name := "cell", desc := "([II)I" } : Jvm.MethodName)) ∈ kz_W9 := kz_in (i := 87) (by decide +kernel) (by decide +kernel)
theorem mw_88 : (Jvm.Cond.static ({ cls := "QuorumCouncilLaw", name := "cell", desc := "([II)I" } : Jvm.MethodName)) ∈ kz_W9 := kz_in (i := 88) (by decide +kernel) (by decide +kernel)
theorem mw_89 : (Jvm.Cond.code ({ cls := "QuorumCouncilLaw", name := "cell", desc := "([II)I" } : Jvm.MethodName) method_2_code (2 : Nat) (Option.some Jvm.ClassFile.FieldType.int)) ∈ kz_W9 := kz_in (i := 89) (by decide +kernel) (by decide +kernel)
theorem mw_90 : (Jvm.Cond.methodLink "QuorumCouncilLaw" (75 : Nat) ({ cls := "QuorumCouncilLaw", name := "members", desc := "(LQuorumCouncil;III)I" } : Jvm.MethodName)) ∈ kz_W9 := kz_in (i := 90) (by decide +kernel) (by decide +kernel)
theorem mw_91 : (Jvm.Cond.static ({ cls := "QuorumCouncilLaw", name := "members", desc := "(LQuorumCouncil;III)I" } : Jvm.MethodName)) ∈ kz_W9 := kz_in (i := 91) (by decide +kernel) (by decide +kernel)
theorem mw_92 : (Jvm.Cond.codeWith ({ cls := "QuorumCouncilLaw", name := "members", desc := "(LQuorumCouncil;III)I" } : Jvm.MethodName) method_3_code (5 : Nat) (Option.some Jvm.ClassFile.FieldType.int) [((0 : Nat), (7 : Nat), (10 : Nat), (13 : Nat))]) ∈ kz_W9 := kz_in (i := 92) (by decide +kernel) (by decide +kernel)
theorem mw_93 : (Jvm.Cond.classLink "QuorumCouncilLaw" (13 : Nat) "java/lang/IllegalArgumentException") ∈ kz_W9 := kz_in (i := 93) (by decide +kernel) (by decide +kernel)
theorem mw_94 : (Jvm.Cond.methodLink "QuorumCouncilLaw" (7 : Nat) ({ cls := "QuorumCouncil", name := "members", desc := "(III)V" } : Jvm.MethodName)) ∈ kz_W9 := kz_in (i := 94) (by decide +kernel) (by decide +kernel)
theorem mw_95 : (Jvm.Cond.instanceMethod ({ cls := "QuorumCouncil", name := "members", desc := "(III)V" } : Jvm.MethodName)) ∈ kz_W9 := kz_in (i := 95) (by decide +kernel) (by decide +kernel)
theorem mw_96 : (Jvm.Cond.selects "QuorumCouncil" ({ cls := "QuorumCouncil", name := "members", desc := "(III)V" } : Jvm.MethodName) ({ cls := "QuorumCouncil", name := "members", desc := "(III)V" } : Jvm.MethodName)) ∈ kz_W9 := kz_in (i := 96) (by decide +kernel) (by decide +kernel)
theorem mw_97 : (Jvm.Cond.code ({ cls := "QuorumCouncil", name := "members", desc := "(III)V" } : Jvm.MethodName) prog_1_method_2_code (4 : Nat) (Option.none : Option Jvm.ClassFile.FieldType)) ∈ kz_W9 := kz_in (i := 97) (by decide +kernel) (by decide +kernel)
theorem mw_98 : (Jvm.Cond.methodLink "QuorumCouncil" (42 : Nat) ({ cls := "QuorumCouncil", name := "requireSet", desc := "(I)V" } : Jvm.MethodName)) ∈ kz_W9 := kz_in (i := 98) (by decide +kernel) (by decide +kernel)
theorem mw_99 : (Jvm.Cond.static ({ cls := "QuorumCouncil", name := "requireSet", desc := "(I)V" } : Jvm.MethodName)) ∈ kz_W9 := kz_in (i := 99) (by decide +kernel) (by decide +kernel)
theorem mw_100 : (Jvm.Cond.code ({ cls := "QuorumCouncil", name := "requireSet", desc := "(I)V" } : Jvm.MethodName) prog_1_method_18_code (1 : Nat) (Option.none : Option Jvm.ClassFile.FieldType)) ∈ kz_W9 := kz_in (i := 100) (by decide +kernel) (by decide +kernel)
theorem mw_101 : (Jvm.Cond.classLink "QuorumCouncil" (46 : Nat) "java/lang/IllegalArgumentException") ∈ kz_W9 := kz_in (i := 101) (by decide +kernel) (by decide +kernel)
theorem mw_102 : (Jvm.Cond.instantiable "java/lang/IllegalArgumentException" (6 : Nat)) ∈ kz_W9 := kz_in (i := 102) (by decide +kernel) (by decide +kernel)
theorem mw_110 : (Jvm.Cond.selects "java/lang/IllegalArgumentException" ({ cls := "java/lang/Throwable", name := "fillInStackTrace", desc := "(I)Ljava/lang/Throwable;" } : Jvm.MethodName) ({ cls := "java/lang/Throwable", name := "fillInStackTrace", desc := "(I)Ljava/lang/Throwable;" } : Jvm.MethodName)) ∈ kz_W9 := kz_in (i := 110) (by decide +kernel) (by decide +kernel)
theorem mw_111 : (Jvm.Cond.selects "java/lang/IllegalArgumentException" ({ cls := "java/lang/Throwable", name := "fillInStackTrace", desc := "()Ljava/lang/Throwable;" } : Jvm.MethodName) ({ cls := "java/lang/Throwable", name := "fillInStackTrace", desc := "()Ljava/lang/Throwable;" } : Jvm.MethodName)) ∈ kz_W9 := kz_in (i := 111) (by decide +kernel) (by decide +kernel)
theorem mw_122 : (Jvm.Cond.fieldLink "java/lang/Throwable" (198 : Nat) "java/lang/Throwable" "backtrace" "Ljava/lang/Object;") ∈ kz_W9 := kz_in (i := 122) (by decide +kernel) (by decide +kernel)
theorem mw_124 : (Jvm.Cond.instanceMethod ({ cls := "java/lang/Throwable", name := "<init>", desc := "()V" } : Jvm.MethodName)) ∈ kz_W9 := kz_in (i := 124) (by decide +kernel) (by decide +kernel)
theorem mw_125 : (Jvm.Cond.code ({ cls := "java/lang/Throwable", name := "<init>", desc := "()V" } : Jvm.MethodName) prog_12_method_1_code (1 : Nat) (Option.none : Option Jvm.ClassFile.FieldType)) ∈ kz_W9 := kz_in (i := 125) (by decide +kernel) (by decide +kernel)
theorem mw_126 : (Jvm.Cond.methodLink "java/lang/Throwable" (1 : Nat) ({ cls := "java/lang/Object", name := "<init>", desc := "()V" } : Jvm.MethodName)) ∈ kz_W9 := kz_in (i := 126) (by decide +kernel) (by decide +kernel)
theorem mw_127 : (Jvm.Cond.fieldLink "java/lang/Throwable" (13 : Nat) "java/lang/Throwable" "UNASSIGNED_STACK" "[Ljava/lang/StackTraceElement;") ∈ kz_W9 := kz_in (i := 127) (by decide +kernel) (by decide +kernel)
theorem mw_129 : (Jvm.Cond.fieldLink "java/lang/Throwable" (20 : Nat) "java/lang/Throwable" "SUPPRESSED_SENTINEL" "Ljava/util/List;") ∈ kz_W9 := kz_in (i := 129) (by decide +kernel) (by decide +kernel)
theorem mw_131 : (Jvm.Cond.methodLink "java/lang/Throwable" (27 : Nat) ({ cls := "java/lang/Throwable", name := "fillInStackTrace", desc := "()Ljava/lang/Throwable;" } : Jvm.MethodName)) ∈ kz_W9 := kz_in (i := 131) (by decide +kernel) (by decide +kernel)
theorem mw_132 : (Jvm.Cond.instanceMethod ({ cls := "java/lang/Throwable", name := "fillInStackTrace", desc := "()Ljava/lang/Throwable;" } : Jvm.MethodName)) ∈ kz_W9 := kz_in (i := 132) (by decide +kernel) (by decide +kernel)
theorem mw_134 : (Jvm.Cond.selects "java/lang/IllegalStateException" ({ cls := "java/lang/Throwable", name := "fillInStackTrace", desc := "()Ljava/lang/Throwable;" } : Jvm.MethodName) ({ cls := "java/lang/Throwable", name := "fillInStackTrace", desc := "()Ljava/lang/Throwable;" } : Jvm.MethodName)) ∈ kz_W9 := kz_in (i := 134) (by decide +kernel) (by decide +kernel)
theorem mw_135 : (Jvm.Cond.selects "java/lang/IndexOutOfBoundsException" ({ cls := "java/lang/Throwable", name := "fillInStackTrace", desc := "()Ljava/lang/Throwable;" } : Jvm.MethodName) ({ cls := "java/lang/Throwable", name := "fillInStackTrace", desc := "()Ljava/lang/Throwable;" } : Jvm.MethodName)) ∈ kz_W9 := kz_in (i := 135) (by decide +kernel) (by decide +kernel)
theorem mw_137 : (Jvm.Cond.methodLink "java/lang/Throwable" (202 : Nat) ({ cls := "java/lang/Throwable", name := "fillInStackTrace", desc := "(I)Ljava/lang/Throwable;" } : Jvm.MethodName)) ∈ kz_W9 := kz_in (i := 137) (by decide +kernel) (by decide +kernel)
theorem mw_139 : (Jvm.Cond.instanceMethod ({ cls := "java/lang/Throwable", name := "fillInStackTrace", desc := "(I)Ljava/lang/Throwable;" } : Jvm.MethodName)) ∈ kz_W9 := kz_in (i := 139) (by decide +kernel) (by decide +kernel)
theorem mw_140 : (Jvm.Cond.instantiable "java/lang/Throwable" (6 : Nat)) ∈ kz_W9 := kz_in (i := 140) (by decide +kernel) (by decide +kernel)
theorem mw_143 : (Jvm.Cond.methodLink "QuorumCouncil" (50 : Nat) ({ cls := "java/lang/IllegalArgumentException", name := "<init>", desc := "(Ljava/lang/String;)V" } : Jvm.MethodName)) ∈ kz_W9 := kz_in (i := 143) (by decide +kernel) (by decide +kernel)
theorem mw_144 : (Jvm.Cond.instanceMethod ({ cls := "java/lang/IllegalArgumentException", name := "<init>", desc := "(Ljava/lang/String;)V" } : Jvm.MethodName)) ∈ kz_W9 := kz_in (i := 144) (by decide +kernel) (by decide +kernel)
theorem mw_145 : (Jvm.Cond.code ({ cls := "java/lang/IllegalArgumentException", name := "<init>", desc := "(Ljava/lang/String;)V" } : Jvm.MethodName) prog_5_method_2_code (2 : Nat) (Option.none : Option Jvm.ClassFile.FieldType)) ∈ kz_W9 := kz_in (i := 145) (by decide +kernel) (by decide +kernel)
theorem mw_146 : (Jvm.Cond.methodLink "java/lang/IllegalArgumentException" (7 : Nat) ({ cls := "java/lang/RuntimeException", name := "<init>", desc := "(Ljava/lang/String;)V" } : Jvm.MethodName)) ∈ kz_W9 := kz_in (i := 146) (by decide +kernel) (by decide +kernel)
theorem mw_147 : (Jvm.Cond.instanceMethod ({ cls := "java/lang/RuntimeException", name := "<init>", desc := "(Ljava/lang/String;)V" } : Jvm.MethodName)) ∈ kz_W9 := kz_in (i := 147) (by decide +kernel) (by decide +kernel)
theorem mw_148 : (Jvm.Cond.code ({ cls := "java/lang/RuntimeException", name := "<init>", desc := "(Ljava/lang/String;)V" } : Jvm.MethodName) prog_10_method_2_code (2 : Nat) (Option.none : Option Jvm.ClassFile.FieldType)) ∈ kz_W9 := kz_in (i := 148) (by decide +kernel) (by decide +kernel)
theorem mw_149 : (Jvm.Cond.methodLink "java/lang/RuntimeException" (7 : Nat) ({ cls := "java/lang/Exception", name := "<init>", desc := "(Ljava/lang/String;)V" } : Jvm.MethodName)) ∈ kz_W9 := kz_in (i := 149) (by decide +kernel) (by decide +kernel)
theorem mw_150 : (Jvm.Cond.instanceMethod ({ cls := "java/lang/Exception", name := "<init>", desc := "(Ljava/lang/String;)V" } : Jvm.MethodName)) ∈ kz_W9 := kz_in (i := 150) (by decide +kernel) (by decide +kernel)
theorem mw_151 : (Jvm.Cond.code ({ cls := "java/lang/Exception", name := "<init>", desc := "(Ljava/lang/String;)V" } : Jvm.MethodName) prog_4_method_2_code (2 : Nat) (Option.none : Option Jvm.ClassFile.FieldType)) ∈ kz_W9 := kz_in (i := 151) (by decide +kernel) (by decide +kernel)
theorem mw_152 : (Jvm.Cond.methodLink "java/lang/Exception" (7 : Nat) ({ cls := "java/lang/Throwable", name := "<init>", desc := "(Ljava/lang/String;)V" } : Jvm.MethodName)) ∈ kz_W9 := kz_in (i := 152) (by decide +kernel) (by decide +kernel)
theorem mw_153 : (Jvm.Cond.instanceMethod ({ cls := "java/lang/Throwable", name := "<init>", desc := "(Ljava/lang/String;)V" } : Jvm.MethodName)) ∈ kz_W9 := kz_in (i := 153) (by decide +kernel) (by decide +kernel)
theorem mw_154 : (Jvm.Cond.code ({ cls := "java/lang/Throwable", name := "<init>", desc := "(Ljava/lang/String;)V" } : Jvm.MethodName) prog_12_method_2_code (2 : Nat) (Option.none : Option Jvm.ClassFile.FieldType)) ∈ kz_W9 := kz_in (i := 154) (by decide +kernel) (by decide +kernel)
theorem mw_156 : (Jvm.Cond.fieldLink "java/lang/Throwable" (31 : Nat) "java/lang/Throwable" "detailMessage" "Ljava/lang/String;") ∈ kz_W9 := kz_in (i := 156) (by decide +kernel) (by decide +kernel)
theorem mw_157 : (Jvm.Cond.fieldLink "java/lang/Throwable" (7 : Nat) "java/lang/Throwable" "cause" "Ljava/lang/Throwable;") ∈ kz_W9 := kz_in (i := 157) (by decide +kernel) (by decide +kernel)
theorem mw_158 : (Jvm.Cond.fieldLink "java/lang/Throwable" (17 : Nat) "java/lang/Throwable" "stackTrace" "[Ljava/lang/StackTraceElement;") ∈ kz_W9 := kz_in (i := 158) (by decide +kernel) (by decide +kernel)
theorem mw_159 : (Jvm.Cond.fieldLink "java/lang/Throwable" (24 : Nat) "java/lang/Throwable" "suppressedExceptions" "Ljava/util/List;") ∈ kz_W9 := kz_in (i := 159) (by decide +kernel) (by decide +kernel)
theorem mw_168 : (Jvm.Cond.arrayClass Jvm.ClassFile.FieldType.byte) ∈ kz_W9 := kz_in (i := 168) (by decide +kernel) (by decide +kernel)
theorem mw_171 : (Jvm.Cond.methodLink "QuorumCouncilLaw" (83 : Nat) ({ cls := "QuorumCouncilLaw", name := "change", desc := "(LQuorumCouncil;II)I" } : Jvm.MethodName)) ∈ kz_W9 := kz_in (i := 171) (by decide +kernel) (by decide +kernel)
theorem mw_172 : (Jvm.Cond.static ({ cls := "QuorumCouncilLaw", name := "change", desc := "(LQuorumCouncil;II)I" } : Jvm.MethodName)) ∈ kz_W9 := kz_in (i := 172) (by decide +kernel) (by decide +kernel)
theorem mw_173 : (Jvm.Cond.codeWith ({ cls := "QuorumCouncilLaw", name := "change", desc := "(LQuorumCouncil;II)I" } : Jvm.MethodName) method_4_code (4 : Nat) (Option.some Jvm.ClassFile.FieldType.int) [((0 : Nat), (6 : Nat), (9 : Nat), (13 : Nat)), ((0 : Nat), (6 : Nat), (12 : Nat), (19 : Nat))]) ∈ kz_W9 := kz_in (i := 173) (by decide +kernel) (by decide +kernel)
theorem mw_174 : (Jvm.Cond.classLink "QuorumCouncilLaw" (19 : Nat) "java/lang/IllegalStateException") ∈ kz_W9 := kz_in (i := 174) (by decide +kernel) (by decide +kernel)
theorem mw_175 : (Jvm.Cond.methodLink "QuorumCouncilLaw" (15 : Nat) ({ cls := "QuorumCouncil", name := "change", desc := "(II)V" } : Jvm.MethodName)) ∈ kz_W9 := kz_in (i := 175) (by decide +kernel) (by decide +kernel)
theorem mw_176 : (Jvm.Cond.instanceMethod ({ cls := "QuorumCouncil", name := "change", desc := "(II)V" } : Jvm.MethodName)) ∈ kz_W9 := kz_in (i := 176) (by decide +kernel) (by decide +kernel)
theorem mw_177 : (Jvm.Cond.selects "QuorumCouncil" ({ cls := "QuorumCouncil", name := "change", desc := "(II)V" } : Jvm.MethodName) ({ cls := "QuorumCouncil", name := "change", desc := "(II)V" } : Jvm.MethodName)) ∈ kz_W9 := kz_in (i := 177) (by decide +kernel) (by decide +kernel)
theorem mw_178 : (Jvm.Cond.code ({ cls := "QuorumCouncil", name := "change", desc := "(II)V" } : Jvm.MethodName) prog_1_method_3_code (3 : Nat) (Option.none : Option Jvm.ClassFile.FieldType)) ∈ kz_W9 := kz_in (i := 178) (by decide +kernel) (by decide +kernel)
theorem mw_180 : (Jvm.Cond.methodLink "QuorumCouncil" (63 : Nat) ({ cls := "QuorumCouncil", name := "learnersMatching", desc := "(I)I" } : Jvm.MethodName)) ∈ kz_W9 := kz_in (i := 180) (by decide +kernel) (by decide +kernel)
theorem mw_182 : (Jvm.Cond.instanceMethod ({ cls := "QuorumCouncil", name := "learnersMatching", desc := "(I)I" } : Jvm.MethodName)) ∈ kz_W9 := kz_in (i := 182) (by decide +kernel) (by decide +kernel)
theorem mw_183 : (Jvm.Cond.code ({ cls := "QuorumCouncil", name := "learnersMatching", desc := "(I)I" } : Jvm.MethodName) prog_1_method_25_code (2 : Nat) (Option.some Jvm.ClassFile.FieldType.int)) ∈ kz_W9 := kz_in (i := 183) (by decide +kernel) (by decide +kernel)
theorem mw_184 : (Jvm.Cond.methodLink "QuorumCouncil" (150 : Nat) ({ cls := "QuorumCouncil", name := "thoseWithAtLeast", desc := "([II)I" } : Jvm.MethodName)) ∈ kz_W9 := kz_in (i := 184) (by decide +kernel) (by decide +kernel)
theorem mw_185 : (Jvm.Cond.static ({ cls := "QuorumCouncil", name := "thoseWithAtLeast", desc := "([II)I" } : Jvm.MethodName)) ∈ kz_W9 := kz_in (i := 185) (by decide +kernel) (by decide +kernel)
theorem mw_186 : (Jvm.Cond.code ({ cls := "QuorumCouncil", name := "thoseWithAtLeast", desc := "([II)I" } : Jvm.MethodName) prog_1_method_26_code (4 : Nat) (Option.some Jvm.ClassFile.FieldType.int)) ∈ kz_W9 := kz_in (i := 186) (by decide +kernel) (by decide +kernel)
theorem mw_188 : (Jvm.Cond.classLink "QuorumCouncil" (69 : Nat) "java/lang/IllegalStateException") ∈ kz_W9 := kz_in (i := 188) (by decide +kernel) (by decide +kernel)
theorem mw_189 : (Jvm.Cond.instantiable "java/lang/IllegalStateException" (6 : Nat)) ∈ kz_W9 := kz_in (i := 189) (by decide +kernel) (by decide +kernel)
theorem mw_191 : (Jvm.Cond.selects "java/lang/IllegalStateException" ({ cls := "java/lang/Throwable", name := "fillInStackTrace", desc := "(I)Ljava/lang/Throwable;" } : Jvm.MethodName) ({ cls := "java/lang/Throwable", name := "fillInStackTrace", desc := "(I)Ljava/lang/Throwable;" } : Jvm.MethodName)) ∈ kz_W9 := kz_in (i := 191) (by decide +kernel) (by decide +kernel)
theorem mw_198 : (Jvm.Cond.methodLink "QuorumCouncil" (73 : Nat) ({ cls := "java/lang/IllegalStateException", name := "<init>", desc := "(Ljava/lang/String;)V" } : Jvm.MethodName)) ∈ kz_W9 := kz_in (i := 198) (by decide +kernel) (by decide +kernel)
theorem mw_199 : (Jvm.Cond.instanceMethod ({ cls := "java/lang/IllegalStateException", name := "<init>", desc := "(Ljava/lang/String;)V" } : Jvm.MethodName)) ∈ kz_W9 := kz_in (i := 199) (by decide +kernel) (by decide +kernel)
theorem mw_200 : (Jvm.Cond.code ({ cls := "java/lang/IllegalStateException", name := "<init>", desc := "(Ljava/lang/String;)V" } : Jvm.MethodName) prog_6_method_2_code (2 : Nat) (Option.none : Option Jvm.ClassFile.FieldType)) ∈ kz_W9 := kz_in (i := 200) (by decide +kernel) (by decide +kernel)
theorem mw_201 : (Jvm.Cond.methodLink "java/lang/IllegalStateException" (7 : Nat) ({ cls := "java/lang/RuntimeException", name := "<init>", desc := "(Ljava/lang/String;)V" } : Jvm.MethodName)) ∈ kz_W9 := kz_in (i := 201) (by decide +kernel) (by decide +kernel)
theorem mw_204 : (Jvm.Cond.methodLink "QuorumCouncilLaw" (87 : Nat) ({ cls := "QuorumCouncilLaw", name := "settle", desc := "(LQuorumCouncil;[J)I" } : Jvm.MethodName)) ∈ kz_W9 := kz_in (i := 204) (by decide +kernel) (by decide +kernel)
theorem mw_205 : (Jvm.Cond.static ({ cls := "QuorumCouncilLaw", name := "settle", desc := "(LQuorumCouncil;[J)I" } : Jvm.MethodName)) ∈ kz_W9 := kz_in (i := 205) (by decide +kernel) (by decide +kernel)
theorem mw_206 : (Jvm.Cond.codeWith ({ cls := "QuorumCouncilLaw", name := "settle", desc := "(LQuorumCouncil;[J)I" } : Jvm.MethodName) method_5_code (3 : Nat) (Option.some Jvm.ClassFile.FieldType.int) [((0 : Nat), (15 : Nat), (18 : Nat), (19 : Nat))]) ∈ kz_W9 := kz_in (i := 206) (by decide +kernel) (by decide +kernel)
theorem mw_207 : (Jvm.Cond.methodLink "QuorumCouncilLaw" (21 : Nat) ({ cls := "QuorumCouncil", name := "settle", desc := "()Z" } : Jvm.MethodName)) ∈ kz_W9 := kz_in (i := 207) (by decide +kernel) (by decide +kernel)
theorem mw_208 : (Jvm.Cond.instanceMethod ({ cls := "QuorumCouncil", name := "settle", desc := "()Z" } : Jvm.MethodName)) ∈ kz_W9 := kz_in (i := 208) (by decide +kernel) (by decide +kernel)
theorem mw_209 : (Jvm.Cond.selects "QuorumCouncil" ({ cls := "QuorumCouncil", name := "settle", desc := "()Z" } : Jvm.MethodName) ({ cls := "QuorumCouncil", name := "settle", desc := "()Z" } : Jvm.MethodName)) ∈ kz_W9 := kz_in (i := 209) (by decide +kernel) (by decide +kernel)
theorem mw_210 : (Jvm.Cond.code ({ cls := "QuorumCouncil", name := "settle", desc := "()Z" } : Jvm.MethodName) prog_1_method_4_code (1 : Nat) (Option.some Jvm.ClassFile.FieldType.boolean)) ∈ kz_W9 := kz_in (i := 210) (by decide +kernel) (by decide +kernel)
theorem mw_212 : (Jvm.Cond.methodLink "QuorumCouncilLaw" (91 : Nat) ({ cls := "QuorumCouncilLaw", name := "majority", desc := "(LQuorumCouncil;I[J)I" } : Jvm.MethodName)) ∈ kz_W9 := kz_in (i := 212) (by decide +kernel) (by decide +kernel)
theorem mw_213 : (Jvm.Cond.static ({ cls := "QuorumCouncilLaw", name := "majority", desc := "(LQuorumCouncil;I[J)I" } : Jvm.MethodName)) ∈ kz_W9 := kz_in (i := 213) (by decide +kernel) (by decide +kernel)
theorem mw_214 : (Jvm.Cond.codeWith ({ cls := "QuorumCouncilLaw", name := "majority", desc := "(LQuorumCouncil;I[J)I" } : Jvm.MethodName) method_6_code (4 : Nat) (Option.some Jvm.ClassFile.FieldType.int) [((0 : Nat), (16 : Nat), (19 : Nat), (13 : Nat))]) ∈ kz_W9 := kz_in (i := 214) (by decide +kernel) (by decide +kernel)
theorem mw_215 : (Jvm.Cond.methodLink "QuorumCouncilLaw" (25 : Nat) ({ cls := "QuorumCouncil", name := "majority", desc := "(I)Z" } : Jvm.MethodName)) ∈ kz_W9 := kz_in (i := 215) (by decide +kernel) (by decide +kernel)
theorem mw_216 : (Jvm.Cond.instanceMethod ({ cls := "QuorumCouncil", name := "majority", desc := "(I)Z" } : Jvm.MethodName)) ∈ kz_W9 := kz_in (i := 216) (by decide +kernel) (by decide +kernel)
theorem mw_217 : (Jvm.Cond.selects "QuorumCouncil" ({ cls := "QuorumCouncil", name := "majority", desc := "(I)Z" } : Jvm.MethodName) ({ cls := "QuorumCouncil", name := "majority", desc := "(I)Z" } : Jvm.MethodName)) ∈ kz_W9 := kz_in (i := 217) (by decide +kernel) (by decide +kernel)
theorem mw_218 : (Jvm.Cond.code ({ cls := "QuorumCouncil", name := "majority", desc := "(I)Z" } : Jvm.MethodName) prog_1_method_5_code (2 : Nat) (Option.some Jvm.ClassFile.FieldType.boolean)) ∈ kz_W9 := kz_in (i := 218) (by decide +kernel) (by decide +kernel)
theorem mw_219 : (Jvm.Cond.methodLink "QuorumCouncil" (80 : Nat) ({ cls := "QuorumCouncil", name := "isMajority", desc := "(I)Z" } : Jvm.MethodName)) ∈ kz_W9 := kz_in (i := 219) (by decide +kernel) (by decide +kernel)
theorem mw_221 : (Jvm.Cond.instanceMethod ({ cls := "QuorumCouncil", name := "isMajority", desc := "(I)Z" } : Jvm.MethodName)) ∈ kz_W9 := kz_in (i := 221) (by decide +kernel) (by decide +kernel)
theorem mw_222 : (Jvm.Cond.code ({ cls := "QuorumCouncil", name := "isMajority", desc := "(I)Z" } : Jvm.MethodName) prog_1_method_27_code (2 : Nat) (Option.some Jvm.ClassFile.FieldType.boolean)) ∈ kz_W9 := kz_in (i := 222) (by decide +kernel) (by decide +kernel)
theorem mw_223 : (Jvm.Cond.methodLink "QuorumCouncil" (154 : Nat) ({ cls := "QuorumCouncil", name := "isMoreThanHalf", desc := "(II)Z" } : Jvm.MethodName)) ∈ kz_W9 := kz_in (i := 223) (by decide +kernel) (by decide +kernel)
theorem mw_224 : (Jvm.Cond.static ({ cls := "QuorumCouncil", name := "isMoreThanHalf", desc := "(II)Z" } : Jvm.MethodName)) ∈ kz_W9 := kz_in (i := 224) (by decide +kernel) (by decide +kernel)
theorem mw_225 : (Jvm.Cond.code ({ cls := "QuorumCouncil", name := "isMoreThanHalf", desc := "(II)Z" } : Jvm.MethodName) prog_1_method_28_code (2 : Nat) (Option.some Jvm.ClassFile.FieldType.boolean)) ∈ kz_W9 := kz_in (i := 225) (by decide +kernel) (by decide +kernel)
theorem mw_226 : (Jvm.Cond.methodLink "QuorumCouncil" (157 : Nat) ({ cls := "java/lang/Integer", name := "bitCount", desc := "(I)I" } : Jvm.MethodName)) ∈ kz_W9 := kz_in (i := 226) (by decide +kernel) (by decide +kernel)
theorem mw_227 : (Jvm.Cond.static ({ cls := "java/lang/Integer", name := "bitCount", desc := "(I)I" } : Jvm.MethodName)) ∈ kz_W9 := kz_in (i := 227) (by decide +kernel) (by decide +kernel)
theorem mw_228 : (Jvm.Cond.code ({ cls := "java/lang/Integer", name := "bitCount", desc := "(I)I" } : Jvm.MethodName) prog_8_method_49_code (1 : Nat) (Option.some Jvm.ClassFile.FieldType.int)) ∈ kz_W9 := kz_in (i := 228) (by decide +kernel) (by decide +kernel)
theorem mw_229 : (Jvm.Cond.constant "java/lang/Integer" (265 : Nat) (1431655765 : Int32)) ∈ kz_W9 := kz_in (i := 229) (by decide +kernel) (by decide +kernel)
theorem mw_230 : (Jvm.Cond.constant "java/lang/Integer" (266 : Nat) (858993459 : Int32)) ∈ kz_W9 := kz_in (i := 230) (by decide +kernel) (by decide +kernel)
theorem mw_231 : (Jvm.Cond.constant "java/lang/Integer" (267 : Nat) (252645135 : Int32)) ∈ kz_W9 := kz_in (i := 231) (by decide +kernel) (by decide +kernel)
theorem mw_232 : (Jvm.Cond.methodLink "QuorumCouncilLaw" (99 : Nat) ({ cls := "QuorumCouncilLaw", name := "vote", desc := "(LQuorumCouncil;I[J)I" } : Jvm.MethodName)) ∈ kz_W9 := kz_in (i := 232) (by decide +kernel) (by decide +kernel)
theorem mw_233 : (Jvm.Cond.static ({ cls := "QuorumCouncilLaw", name := "vote", desc := "(LQuorumCouncil;I[J)I" } : Jvm.MethodName)) ∈ kz_W9 := kz_in (i := 233) (by decide +kernel) (by decide +kernel)
theorem mw_234 : (Jvm.Cond.codeWith ({ cls := "QuorumCouncilLaw", name := "vote", desc := "(LQuorumCouncil;I[J)I" } : Jvm.MethodName) method_7_code (4 : Nat) (Option.some Jvm.ClassFile.FieldType.int) [((0 : Nat), (16 : Nat), (19 : Nat), (32 : Nat))]) ∈ kz_W9 := kz_in (i := 234) (by decide +kernel) (by decide +kernel)
theorem mw_235 : (Jvm.Cond.classLink "QuorumCouncilLaw" (32 : Nat) "java/lang/IndexOutOfBoundsException") ∈ kz_W9 := kz_in (i := 235) (by decide +kernel) (by decide +kernel)
theorem mw_236 : (Jvm.Cond.methodLink "QuorumCouncilLaw" (29 : Nat) ({ cls := "QuorumCouncil", name := "vote", desc := "(I)Z" } : Jvm.MethodName)) ∈ kz_W9 := kz_in (i := 236) (by decide +kernel) (by decide +kernel)
theorem mw_237 : (Jvm.Cond.instanceMethod ({ cls := "QuorumCouncil", name := "vote", desc := "(I)Z" } : Jvm.MethodName)) ∈ kz_W9 := kz_in (i := 237) (by decide +kernel) (by decide +kernel)
theorem mw_238 : (Jvm.Cond.selects "QuorumCouncil" ({ cls := "QuorumCouncil", name := "vote", desc := "(I)Z" } : Jvm.MethodName) ({ cls := "QuorumCouncil", name := "vote", desc := "(I)Z" } : Jvm.MethodName)) ∈ kz_W9 := kz_in (i := 238) (by decide +kernel) (by decide +kernel)
theorem mw_239 : (Jvm.Cond.code ({ cls := "QuorumCouncil", name := "vote", desc := "(I)Z" } : Jvm.MethodName) prog_1_method_7_code (2 : Nat) (Option.some Jvm.ClassFile.FieldType.boolean)) ∈ kz_W9 := kz_in (i := 239) (by decide +kernel) (by decide +kernel)
theorem mw_240 : (Jvm.Cond.methodLink "QuorumCouncil" (87 : Nat) ({ cls := "QuorumCouncil", name := "requireServer", desc := "(I)V" } : Jvm.MethodName)) ∈ kz_W9 := kz_in (i := 240) (by decide +kernel) (by decide +kernel)
theorem mw_241 : (Jvm.Cond.static ({ cls := "QuorumCouncil", name := "requireServer", desc := "(I)V" } : Jvm.MethodName)) ∈ kz_W9 := kz_in (i := 241) (by decide +kernel) (by decide +kernel)
theorem mw_242 : (Jvm.Cond.code ({ cls := "QuorumCouncil", name := "requireServer", desc := "(I)V" } : Jvm.MethodName) prog_1_method_20_code (1 : Nat) (Option.none : Option Jvm.ClassFile.FieldType)) ∈ kz_W9 := kz_in (i := 242) (by decide +kernel) (by decide +kernel)
theorem mw_243 : (Jvm.Cond.classLink "QuorumCouncil" (133 : Nat) "java/lang/IndexOutOfBoundsException") ∈ kz_W9 := kz_in (i := 243) (by decide +kernel) (by decide +kernel)
theorem mw_244 : (Jvm.Cond.instantiable "java/lang/IndexOutOfBoundsException" (6 : Nat)) ∈ kz_W9 := kz_in (i := 244) (by decide +kernel) (by decide +kernel)
theorem mw_246 : (Jvm.Cond.selects "java/lang/IndexOutOfBoundsException" ({ cls := "java/lang/Throwable", name := "fillInStackTrace", desc := "(I)Ljava/lang/Throwable;" } : Jvm.MethodName) ({ cls := "java/lang/Throwable", name := "fillInStackTrace", desc := "(I)Ljava/lang/Throwable;" } : Jvm.MethodName)) ∈ kz_W9 := kz_in (i := 246) (by decide +kernel) (by decide +kernel)
theorem mw_253 : (Jvm.Cond.methodLink "QuorumCouncil" (137 : Nat) ({ cls := "java/lang/IndexOutOfBoundsException", name := "<init>", desc := "(Ljava/lang/String;)V" } : Jvm.MethodName)) ∈ kz_W9 := kz_in (i := 253) (by decide +kernel) (by decide +kernel)
theorem mw_254 : (Jvm.Cond.instanceMethod ({ cls := "java/lang/IndexOutOfBoundsException", name := "<init>", desc := "(Ljava/lang/String;)V" } : Jvm.MethodName)) ∈ kz_W9 := kz_in (i := 254) (by decide +kernel) (by decide +kernel)
theorem mw_255 : (Jvm.Cond.code ({ cls := "java/lang/IndexOutOfBoundsException", name := "<init>", desc := "(Ljava/lang/String;)V" } : Jvm.MethodName) prog_7_method_2_code (2 : Nat) (Option.none : Option Jvm.ClassFile.FieldType)) ∈ kz_W9 := kz_in (i := 255) (by decide +kernel) (by decide +kernel)
theorem mw_256 : (Jvm.Cond.methodLink "java/lang/IndexOutOfBoundsException" (7 : Nat) ({ cls := "java/lang/RuntimeException", name := "<init>", desc := "(Ljava/lang/String;)V" } : Jvm.MethodName)) ∈ kz_W9 := kz_in (i := 256) (by decide +kernel) (by decide +kernel)
theorem mw_259 : (Jvm.Cond.methodLink "QuorumCouncilLaw" (102 : Nat) ({ cls := "QuorumCouncilLaw", name := "lead", desc := "(LQuorumCouncil;II)I" } : Jvm.MethodName)) ∈ kz_W9 := kz_in (i := 259) (by decide +kernel) (by decide +kernel)
theorem mw_260 : (Jvm.Cond.static ({ cls := "QuorumCouncilLaw", name := "lead", desc := "(LQuorumCouncil;II)I" } : Jvm.MethodName)) ∈ kz_W9 := kz_in (i := 260) (by decide +kernel) (by decide +kernel)
theorem mw_261 : (Jvm.Cond.codeWith ({ cls := "QuorumCouncilLaw", name := "lead", desc := "(LQuorumCouncil;II)I" } : Jvm.MethodName) method_8_code (4 : Nat) (Option.some Jvm.ClassFile.FieldType.int) [((0 : Nat), (6 : Nat), (9 : Nat), (13 : Nat))]) ∈ kz_W9 := kz_in (i := 261) (by decide +kernel) (by decide +kernel)
theorem mw_262 : (Jvm.Cond.methodLink "QuorumCouncilLaw" (34 : Nat) ({ cls := "QuorumCouncil", name := "lead", desc := "(II)V" } : Jvm.MethodName)) ∈ kz_W9 := kz_in (i := 262) (by decide +kernel) (by decide +kernel)
theorem mw_263 : (Jvm.Cond.instanceMethod ({ cls := "QuorumCouncil", name := "lead", desc := "(II)V" } : Jvm.MethodName)) ∈ kz_W9 := kz_in (i := 263) (by decide +kernel) (by decide +kernel)
theorem mw_264 : (Jvm.Cond.selects "QuorumCouncil" ({ cls := "QuorumCouncil", name := "lead", desc := "(II)V" } : Jvm.MethodName) ({ cls := "QuorumCouncil", name := "lead", desc := "(II)V" } : Jvm.MethodName)) ∈ kz_W9 := kz_in (i := 264) (by decide +kernel) (by decide +kernel)
theorem mw_265 : (Jvm.Cond.code ({ cls := "QuorumCouncil", name := "lead", desc := "(II)V" } : Jvm.MethodName) prog_1_method_8_code (4 : Nat) (Option.none : Option Jvm.ClassFile.FieldType)) ∈ kz_W9 := kz_in (i := 265) (by decide +kernel) (by decide +kernel)
theorem mw_266 : (Jvm.Cond.methodLink "QuorumCouncil" (90 : Nat) ({ cls := "QuorumCouncil", name := "requireNumber", desc := "(I)V" } : Jvm.MethodName)) ∈ kz_W9 := kz_in (i := 266) (by decide +kernel) (by decide +kernel)
theorem mw_267 : (Jvm.Cond.static ({ cls := "QuorumCouncil", name := "requireNumber", desc := "(I)V" } : Jvm.MethodName)) ∈ kz_W9 := kz_in (i := 267) (by decide +kernel) (by decide +kernel)
theorem mw_268 : (Jvm.Cond.code ({ cls := "QuorumCouncil", name := "requireNumber", desc := "(I)V" } : Jvm.MethodName) prog_1_method_19_code (1 : Nat) (Option.none : Option Jvm.ClassFile.FieldType)) ∈ kz_W9 := kz_in (i := 268) (by decide +kernel) (by decide +kernel)
theorem mw_269 : (Jvm.Cond.constant "QuorumCouncil" (143 : Nat) (1000000000 : Int32)) ∈ kz_W9 := kz_in (i := 269) (by decide +kernel) (by decide +kernel)
theorem mw_271 : (Jvm.Cond.methodLink "QuorumCouncilLaw" (109 : Nat) ({ cls := "QuorumCouncilLaw", name := "sending", desc := "(LQuorumCouncil;IIIZ[J)I" } : Jvm.MethodName)) ∈ kz_W9 := kz_in (i := 271) (by decide +kernel) (by decide +kernel)
theorem mw_272 : (Jvm.Cond.static ({ cls := "QuorumCouncilLaw", name := "sending", desc := "(LQuorumCouncil;IIIZ[J)I" } : Jvm.MethodName)) ∈ kz_W9 := kz_in (i := 272) (by decide +kernel) (by decide +kernel)
theorem mw_273 : (Jvm.Cond.codeWith ({ cls := "QuorumCouncilLaw", name := "sending", desc := "(LQuorumCouncil;IIIZ[J)I" } : Jvm.MethodName) method_9_code (7 : Nat) (Option.some Jvm.ClassFile.FieldType.int) [((0 : Nat), (14 : Nat), (17 : Nat), (32 : Nat)), ((0 : Nat), (14 : Nat), (21 : Nat), (13 : Nat))]) ∈ kz_W9 := kz_in (i := 273) (by decide +kernel) (by decide +kernel)
theorem mw_274 : (Jvm.Cond.methodLink "QuorumCouncilLaw" (37 : Nat) ({ cls := "QuorumCouncil", name := "sending", desc := "(IIIZ)I" } : Jvm.MethodName)) ∈ kz_W9 := kz_in (i := 274) (by decide +kernel) (by decide +kernel)
theorem mw_275 : (Jvm.Cond.instanceMethod ({ cls := "QuorumCouncil", name := "sending", desc := "(IIIZ)I" } : Jvm.MethodName)) ∈ kz_W9 := kz_in (i := 275) (by decide +kernel) (by decide +kernel)
theorem mw_276 : (Jvm.Cond.selects "QuorumCouncil" ({ cls := "QuorumCouncil", name := "sending", desc := "(IIIZ)I" } : Jvm.MethodName) ({ cls := "QuorumCouncil", name := "sending", desc := "(IIIZ)I" } : Jvm.MethodName)) ∈ kz_W9 := kz_in (i := 276) (by decide +kernel) (by decide +kernel)
theorem mw_277 : (Jvm.Cond.code ({ cls := "QuorumCouncil", name := "sending", desc := "(IIIZ)I" } : Jvm.MethodName) prog_1_method_10_code (5 : Nat) (Option.some Jvm.ClassFile.FieldType.int)) ∈ kz_W9 := kz_in (i := 277) (by decide +kernel) (by decide +kernel)
theorem mw_278 : (Jvm.Cond.methodLink "QuorumCouncil" (100 : Nat) ({ cls := "QuorumCouncil", name := "requirePeer", desc := "(I)V" } : Jvm.MethodName)) ∈ kz_W9 := kz_in (i := 278) (by decide +kernel) (by decide +kernel)
theorem mw_280 : (Jvm.Cond.instanceMethod ({ cls := "QuorumCouncil", name := "requirePeer", desc := "(I)V" } : Jvm.MethodName)) ∈ kz_W9 := kz_in (i := 280) (by decide +kernel) (by decide +kernel)
theorem mw_281 : (Jvm.Cond.code ({ cls := "QuorumCouncil", name := "requirePeer", desc := "(I)V" } : Jvm.MethodName) prog_1_method_21_code (2 : Nat) (Option.none : Option Jvm.ClassFile.FieldType)) ∈ kz_W9 := kz_in (i := 281) (by decide +kernel) (by decide +kernel)
theorem mw_284 : (Jvm.Cond.methodLink "QuorumCouncil" (105 : Nat) ({ cls := "QuorumCouncil", name := "sendSnapshotPiece", desc := "(I)I" } : Jvm.MethodName)) ∈ kz_W9 := kz_in (i := 284) (by decide +kernel) (by decide +kernel)
theorem mw_286 : (Jvm.Cond.instanceMethod ({ cls := "QuorumCouncil", name := "sendSnapshotPiece", desc := "(I)I" } : Jvm.MethodName)) ∈ kz_W9 := kz_in (i := 286) (by decide +kernel) (by decide +kernel)
theorem mw_287 : (Jvm.Cond.code ({ cls := "QuorumCouncil", name := "sendSnapshotPiece", desc := "(I)I" } : Jvm.MethodName) prog_1_method_31_code (2 : Nat) (Option.some Jvm.ClassFile.FieldType.int)) ∈ kz_W9 := kz_in (i := 287) (by decide +kernel) (by decide +kernel)
theorem mw_288 : (Jvm.Cond.methodLink "QuorumCouncil" (108 : Nat) ({ cls := "QuorumCouncil", name := "mayFlyMore", desc := "(I)Z" } : Jvm.MethodName)) ∈ kz_W9 := kz_in (i := 288) (by decide +kernel) (by decide +kernel)
theorem mw_290 : (Jvm.Cond.instanceMethod ({ cls := "QuorumCouncil", name := "mayFlyMore", desc := "(I)Z" } : Jvm.MethodName)) ∈ kz_W9 := kz_in (i := 290) (by decide +kernel) (by decide +kernel)
theorem mw_291 : (Jvm.Cond.code ({ cls := "QuorumCouncil", name := "mayFlyMore", desc := "(I)Z" } : Jvm.MethodName) prog_1_method_30_code (2 : Nat) (Option.some Jvm.ClassFile.FieldType.boolean)) ∈ kz_W9 := kz_in (i := 291) (by decide +kernel) (by decide +kernel)
theorem mw_292 : (Jvm.Cond.methodLink "QuorumCouncil" (111 : Nat) ({ cls := "QuorumCouncil", name := "sendEntries", desc := "(II)I" } : Jvm.MethodName)) ∈ kz_W9 := kz_in (i := 292) (by decide +kernel) (by decide +kernel)
theorem mw_294 : (Jvm.Cond.instanceMethod ({ cls := "QuorumCouncil", name := "sendEntries", desc := "(II)I" } : Jvm.MethodName)) ∈ kz_W9 := kz_in (i := 294) (by decide +kernel) (by decide +kernel)
theorem mw_295 : (Jvm.Cond.code ({ cls := "QuorumCouncil", name := "sendEntries", desc := "(II)I" } : Jvm.MethodName) prog_1_method_32_code (4 : Nat) (Option.some Jvm.ClassFile.FieldType.int)) ∈ kz_W9 := kz_in (i := 295) (by decide +kernel) (by decide +kernel)
theorem mw_296 : (Jvm.Cond.methodLink "QuorumCouncil" (124 : Nat) ({ cls := "java/lang/Math", name := "min", desc := "(II)I" } : Jvm.MethodName)) ∈ kz_W9 := kz_in (i := 296) (by decide +kernel) (by decide +kernel)
theorem mw_297 : (Jvm.Cond.static ({ cls := "java/lang/Math", name := "min", desc := "(II)I" } : Jvm.MethodName)) ∈ kz_W9 := kz_in (i := 297) (by decide +kernel) (by decide +kernel)
theorem mw_298 : (Jvm.Cond.code ({ cls := "java/lang/Math", name := "min", desc := "(II)I" } : Jvm.MethodName) prog_9_method_69_code (2 : Nat) (Option.some Jvm.ClassFile.FieldType.int)) ∈ kz_W9 := kz_in (i := 298) (by decide +kernel) (by decide +kernel)
theorem mw_299 : (Jvm.Cond.methodLink "QuorumCouncilLaw" (113 : Nat) ({ cls := "QuorumCouncilLaw", name := "matched", desc := "(LQuorumCouncil;IIII[J)I" } : Jvm.MethodName)) ∈ kz_W9 := kz_in (i := 299) (by decide +kernel) (by decide +kernel)
theorem mw_300 : (Jvm.Cond.static ({ cls := "QuorumCouncilLaw", name := "matched", desc := "(LQuorumCouncil;IIII[J)I" } : Jvm.MethodName)) ∈ kz_W9 := kz_in (i := 300) (by decide +kernel) (by decide +kernel)
theorem mw_301 : (Jvm.Cond.codeWith ({ cls := "QuorumCouncilLaw", name := "matched", desc := "(LQuorumCouncil;IIII[J)I" } : Jvm.MethodName) method_10_code (7 : Nat) (Option.some Jvm.ClassFile.FieldType.int) [((0 : Nat), (14 : Nat), (17 : Nat), (32 : Nat)), ((0 : Nat), (14 : Nat), (21 : Nat), (13 : Nat))]) ∈ kz_W9 := kz_in (i := 301) (by decide +kernel) (by decide +kernel)
theorem mw_302 : (Jvm.Cond.methodLink "QuorumCouncilLaw" (41 : Nat) ({ cls := "QuorumCouncil", name := "matched", desc := "(IIII)I" } : Jvm.MethodName)) ∈ kz_W9 := kz_in (i := 302) (by decide +kernel) (by decide +kernel)
theorem mw_303 : (Jvm.Cond.instanceMethod ({ cls := "QuorumCouncil", name := "matched", desc := "(IIII)I" } : Jvm.MethodName)) ∈ kz_W9 := kz_in (i := 303) (by decide +kernel) (by decide +kernel)
theorem mw_304 : (Jvm.Cond.selects "QuorumCouncil" ({ cls := "QuorumCouncil", name := "matched", desc := "(IIII)I" } : Jvm.MethodName) ({ cls := "QuorumCouncil", name := "matched", desc := "(IIII)I" } : Jvm.MethodName)) ∈ kz_W9 := kz_in (i := 304) (by decide +kernel) (by decide +kernel)
theorem mw_305 : (Jvm.Cond.code ({ cls := "QuorumCouncil", name := "matched", desc := "(IIII)I" } : Jvm.MethodName) prog_1_method_11_code (5 : Nat) (Option.some Jvm.ClassFile.FieldType.int)) ∈ kz_W9 := kz_in (i := 305) (by decide +kernel) (by decide +kernel)
theorem mw_306 : (Jvm.Cond.methodLink "QuorumCouncil" (115 : Nat) ({ cls := "QuorumCouncil", name := "hear", desc := "(III)V" } : Jvm.MethodName)) ∈ kz_W9 := kz_in (i := 306) (by decide +kernel) (by decide +kernel)
theorem mw_308 : (Jvm.Cond.instanceMethod ({ cls := "QuorumCouncil", name := "hear", desc := "(III)V" } : Jvm.MethodName)) ∈ kz_W9 := kz_in (i := 308) (by decide +kernel) (by decide +kernel)
theorem mw_309 : (Jvm.Cond.code ({ cls := "QuorumCouncil", name := "hear", desc := "(III)V" } : Jvm.MethodName) prog_1_method_33_code (4 : Nat) (Option.none : Option Jvm.ClassFile.FieldType)) ∈ kz_W9 := kz_in (i := 309) (by decide +kernel) (by decide +kernel)
theorem mw_310 : (Jvm.Cond.methodLink "QuorumCouncil" (119 : Nat) ({ cls := "java/lang/Math", name := "max", desc := "(II)I" } : Jvm.MethodName)) ∈ kz_W9 := kz_in (i := 310) (by decide +kernel) (by decide +kernel)
theorem mw_311 : (Jvm.Cond.static ({ cls := "java/lang/Math", name := "max", desc := "(II)I" } : Jvm.MethodName)) ∈ kz_W9 := kz_in (i := 311) (by decide +kernel) (by decide +kernel)
theorem mw_312 : (Jvm.Cond.code ({ cls := "java/lang/Math", name := "max", desc := "(II)I" } : Jvm.MethodName) prog_9_method_65_code (2 : Nat) (Option.some Jvm.ClassFile.FieldType.int)) ∈ kz_W9 := kz_in (i := 312) (by decide +kernel) (by decide +kernel)
theorem mw_313 : (Jvm.Cond.methodLink "QuorumCouncilLaw" (117 : Nat) ({ cls := "QuorumCouncilLaw", name := "refused", desc := "(LQuorumCouncil;IIIII[J)I" } : Jvm.MethodName)) ∈ kz_W9 := kz_in (i := 313) (by decide +kernel) (by decide +kernel)
theorem mw_314 : (Jvm.Cond.static ({ cls := "QuorumCouncilLaw", name := "refused", desc := "(LQuorumCouncil;IIIII[J)I" } : Jvm.MethodName)) ∈ kz_W9 := kz_in (i := 314) (by decide +kernel) (by decide +kernel)
theorem mw_315 : (Jvm.Cond.codeWith ({ cls := "QuorumCouncilLaw", name := "refused", desc := "(LQuorumCouncil;IIIII[J)I" } : Jvm.MethodName) method_11_code (8 : Nat) (Option.some Jvm.ClassFile.FieldType.int) [((0 : Nat), (16 : Nat), (19 : Nat), (32 : Nat)), ((0 : Nat), (16 : Nat), (23 : Nat), (13 : Nat))]) ∈ kz_W9 := kz_in (i := 315) (by decide +kernel) (by decide +kernel)
theorem mw_316 : (Jvm.Cond.methodLink "QuorumCouncilLaw" (45 : Nat) ({ cls := "QuorumCouncil", name := "refused", desc := "(IIIII)I" } : Jvm.MethodName)) ∈ kz_W9 := kz_in (i := 316) (by decide +kernel) (by decide +kernel)
theorem mw_317 : (Jvm.Cond.instanceMethod ({ cls := "QuorumCouncil", name := "refused", desc := "(IIIII)I" } : Jvm.MethodName)) ∈ kz_W9 := kz_in (i := 317) (by decide +kernel) (by decide +kernel)
theorem mw_318 : (Jvm.Cond.selects "QuorumCouncil" ({ cls := "QuorumCouncil", name := "refused", desc := "(IIIII)I" } : Jvm.MethodName) ({ cls := "QuorumCouncil", name := "refused", desc := "(IIIII)I" } : Jvm.MethodName)) ∈ kz_W9 := kz_in (i := 318) (by decide +kernel) (by decide +kernel)
theorem mw_319 : (Jvm.Cond.code ({ cls := "QuorumCouncil", name := "refused", desc := "(IIIII)I" } : Jvm.MethodName) prog_1_method_12_code (6 : Nat) (Option.some Jvm.ClassFile.FieldType.int)) ∈ kz_W9 := kz_in (i := 319) (by decide +kernel) (by decide +kernel)
theorem mw_320 : (Jvm.Cond.methodLink "QuorumCouncilLaw" (121 : Nat) ({ cls := "QuorumCouncilLaw", name := "stored", desc := "(LQuorumCouncil;IIIIII[J)I" } : Jvm.MethodName)) ∈ kz_W9 := kz_in (i := 320) (by decide +kernel) (by decide +kernel)
theorem mw_321 : (Jvm.Cond.static ({ cls := "QuorumCouncilLaw", name := "stored", desc := "(LQuorumCouncil;IIIIII[J)I" } : Jvm.MethodName)) ∈ kz_W9 := kz_in (i := 321) (by decide +kernel) (by decide +kernel)
theorem mw_322 : (Jvm.Cond.codeWith ({ cls := "QuorumCouncilLaw", name := "stored", desc := "(LQuorumCouncil;IIIIII[J)I" } : Jvm.MethodName) method_12_code (9 : Nat) (Option.some Jvm.ClassFile.FieldType.int) [((0 : Nat), (25 : Nat), (28 : Nat), (32 : Nat)), ((0 : Nat), (25 : Nat), (32 : Nat), (13 : Nat))]) ∈ kz_W9 := kz_in (i := 322) (by decide +kernel) (by decide +kernel)
theorem mw_323 : (Jvm.Cond.methodLink "QuorumCouncilLaw" (49 : Nat) ({ cls := "QuorumCouncil", name := "stored", desc := "(IIIIII)Z" } : Jvm.MethodName)) ∈ kz_W9 := kz_in (i := 323) (by decide +kernel) (by decide +kernel)
theorem mw_324 : (Jvm.Cond.instanceMethod ({ cls := "QuorumCouncil", name := "stored", desc := "(IIIIII)Z" } : Jvm.MethodName)) ∈ kz_W9 := kz_in (i := 324) (by decide +kernel) (by decide +kernel)
theorem mw_325 : (Jvm.Cond.selects "QuorumCouncil" ({ cls := "QuorumCouncil", name := "stored", desc := "(IIIIII)Z" } : Jvm.MethodName) ({ cls := "QuorumCouncil", name := "stored", desc := "(IIIIII)Z" } : Jvm.MethodName)) ∈ kz_W9 := kz_in (i := 325) (by decide +kernel) (by decide +kernel)
theorem mw_326 : (Jvm.Cond.code ({ cls := "QuorumCouncil", name := "stored", desc := "(IIIIII)Z" } : Jvm.MethodName) prog_1_method_13_code (7 : Nat) (Option.some Jvm.ClassFile.FieldType.boolean)) ∈ kz_W9 := kz_in (i := 326) (by decide +kernel) (by decide +kernel)
theorem mw_327 : (Jvm.Cond.methodLink "QuorumCouncilLaw" (125 : Nat) ({ cls := "QuorumCouncilLaw", name := "own", desc := "(LQuorumCouncil;II)I" } : Jvm.MethodName)) ∈ kz_W9 := kz_in (i := 327) (by decide +kernel) (by decide +kernel)
theorem mw_328 : (Jvm.Cond.static ({ cls := "QuorumCouncilLaw", name := "own", desc := "(LQuorumCouncil;II)I" } : Jvm.MethodName)) ∈ kz_W9 := kz_in (i := 328) (by decide +kernel) (by decide +kernel)
theorem mw_329 : (Jvm.Cond.codeWith ({ cls := "QuorumCouncilLaw", name := "own", desc := "(LQuorumCouncil;II)I" } : Jvm.MethodName) method_13_code (4 : Nat) (Option.some Jvm.ClassFile.FieldType.int) [((0 : Nat), (6 : Nat), (9 : Nat), (13 : Nat))]) ∈ kz_W9 := kz_in (i := 329) (by decide +kernel) (by decide +kernel)
theorem mw_330 : (Jvm.Cond.methodLink "QuorumCouncilLaw" (53 : Nat) ({ cls := "QuorumCouncil", name := "own", desc := "(II)V" } : Jvm.MethodName)) ∈ kz_W9 := kz_in (i := 330) (by decide +kernel) (by decide +kernel)
theorem mw_331 : (Jvm.Cond.instanceMethod ({ cls := "QuorumCouncil", name := "own", desc := "(II)V" } : Jvm.MethodName)) ∈ kz_W9 := kz_in (i := 331) (by decide +kernel) (by decide +kernel)
theorem mw_332 : (Jvm.Cond.selects "QuorumCouncil" ({ cls := "QuorumCouncil", name := "own", desc := "(II)V" } : Jvm.MethodName) ({ cls := "QuorumCouncil", name := "own", desc := "(II)V" } : Jvm.MethodName)) ∈ kz_W9 := kz_in (i := 332) (by decide +kernel) (by decide +kernel)
theorem mw_333 : (Jvm.Cond.code ({ cls := "QuorumCouncil", name := "own", desc := "(II)V" } : Jvm.MethodName) prog_1_method_14_code (3 : Nat) (Option.none : Option Jvm.ClassFile.FieldType)) ∈ kz_W9 := kz_in (i := 333) (by decide +kernel) (by decide +kernel)
theorem mw_334 : (Jvm.Cond.methodLink "QuorumCouncilLaw" (128 : Nat) ({ cls := "QuorumCouncilLaw", name := "agreed", desc := "(LQuorumCouncil;I[J)I" } : Jvm.MethodName)) ∈ kz_W9 := kz_in (i := 334) (by decide +kernel) (by decide +kernel)
theorem mw_335 : (Jvm.Cond.static ({ cls := "QuorumCouncilLaw", name := "agreed", desc := "(LQuorumCouncil;I[J)I" } : Jvm.MethodName)) ∈ kz_W9 := kz_in (i := 335) (by decide +kernel) (by decide +kernel)
theorem mw_336 : (Jvm.Cond.codeWith ({ cls := "QuorumCouncilLaw", name := "agreed", desc := "(LQuorumCouncil;I[J)I" } : Jvm.MethodName) method_14_code (4 : Nat) (Option.some Jvm.ClassFile.FieldType.int) [((0 : Nat), (9 : Nat), (12 : Nat), (13 : Nat))]) ∈ kz_W9 := kz_in (i := 336) (by decide +kernel) (by decide +kernel)
theorem mw_337 : (Jvm.Cond.methodLink "QuorumCouncilLaw" (56 : Nat) ({ cls := "QuorumCouncil", name := "agreed", desc := "(I)I" } : Jvm.MethodName)) ∈ kz_W9 := kz_in (i := 337) (by decide +kernel) (by decide +kernel)
theorem mw_338 : (Jvm.Cond.instanceMethod ({ cls := "QuorumCouncil", name := "agreed", desc := "(I)I" } : Jvm.MethodName)) ∈ kz_W9 := kz_in (i := 338) (by decide +kernel) (by decide +kernel)
theorem mw_339 : (Jvm.Cond.selects "QuorumCouncil" ({ cls := "QuorumCouncil", name := "agreed", desc := "(I)I" } : Jvm.MethodName) ({ cls := "QuorumCouncil", name := "agreed", desc := "(I)I" } : Jvm.MethodName)) ∈ kz_W9 := kz_in (i := 339) (by decide +kernel) (by decide +kernel)
theorem mw_340 : (Jvm.Cond.code ({ cls := "QuorumCouncil", name := "agreed", desc := "(I)I" } : Jvm.MethodName) prog_1_method_15_code (2 : Nat) (Option.some Jvm.ClassFile.FieldType.int)) ∈ kz_W9 := kz_in (i := 340) (by decide +kernel) (by decide +kernel)
theorem mw_341 : (Jvm.Cond.methodLink "QuorumCouncil" (127 : Nat) ({ cls := "QuorumCouncil", name := "whatMajorityHas", desc := "([I)I" } : Jvm.MethodName)) ∈ kz_W9 := kz_in (i := 341) (by decide +kernel) (by decide +kernel)
theorem mw_343 : (Jvm.Cond.instanceMethod ({ cls := "QuorumCouncil", name := "whatMajorityHas", desc := "([I)I" } : Jvm.MethodName)) ∈ kz_W9 := kz_in (i := 343) (by decide +kernel) (by decide +kernel)
theorem mw_344 : (Jvm.Cond.code ({ cls := "QuorumCouncil", name := "whatMajorityHas", desc := "([I)I" } : Jvm.MethodName) prog_1_method_29_code (4 : Nat) (Option.some Jvm.ClassFile.FieldType.int)) ∈ kz_W9 := kz_in (i := 344) (by decide +kernel) (by decide +kernel)
theorem mw_346 : (Jvm.Cond.methodLink "QuorumCouncilLaw" (131 : Nat) ({ cls := "QuorumCouncilLaw", name := "server", desc := "(LQuorumCouncil;II[J)I" } : Jvm.MethodName)) ∈ kz_W9 := kz_in (i := 346) (by decide +kernel) (by decide +kernel)
theorem mw_347 : (Jvm.Cond.static ({ cls := "QuorumCouncilLaw", name := "server", desc := "(LQuorumCouncil;II[J)I" } : Jvm.MethodName)) ∈ kz_W9 := kz_in (i := 347) (by decide +kernel) (by decide +kernel)
theorem mw_348 : (Jvm.Cond.codeWith ({ cls := "QuorumCouncilLaw", name := "server", desc := "(LQuorumCouncil;II[J)I" } : Jvm.MethodName) method_15_code (5 : Nat) (Option.some Jvm.ClassFile.FieldType.int) [((0 : Nat), (10 : Nat), (13 : Nat), (32 : Nat))]) ∈ kz_W9 := kz_in (i := 348) (by decide +kernel) (by decide +kernel)
theorem mw_349 : (Jvm.Cond.methodLink "QuorumCouncilLaw" (60 : Nat) ({ cls := "QuorumCouncil", name := "server", desc := "(II)I" } : Jvm.MethodName)) ∈ kz_W9 := kz_in (i := 349) (by decide +kernel) (by decide +kernel)
theorem mw_350 : (Jvm.Cond.instanceMethod ({ cls := "QuorumCouncil", name := "server", desc := "(II)I" } : Jvm.MethodName)) ∈ kz_W9 := kz_in (i := 350) (by decide +kernel) (by decide +kernel)
theorem mw_351 : (Jvm.Cond.selects "QuorumCouncil" ({ cls := "QuorumCouncil", name := "server", desc := "(II)I" } : Jvm.MethodName) ({ cls := "QuorumCouncil", name := "server", desc := "(II)I" } : Jvm.MethodName)) ∈ kz_W9 := kz_in (i := 351) (by decide +kernel) (by decide +kernel)
theorem mw_352 : (Jvm.Cond.code ({ cls := "QuorumCouncil", name := "server", desc := "(II)I" } : Jvm.MethodName) prog_1_method_16_code (3 : Nat) (Option.some Jvm.ClassFile.FieldType.int)) ∈ kz_W9 := kz_in (i := 352) (by decide +kernel) (by decide +kernel)
theorem mw_354 : (Jvm.Cond.classLink "QuorumCouncilLaw" (72 : Nat) "QuorumCouncilModel") ∈ kz_W9 := kz_in (i := 354) (by decide +kernel) (by decide +kernel)
theorem mw_355 : (Jvm.Cond.instantiable "QuorumCouncilModel" (8 : Nat)) ∈ kz_W9 := kz_in (i := 355) (by decide +kernel) (by decide +kernel)
theorem mw_356 : (Jvm.Cond.methodLink "QuorumCouncilLaw" (74 : Nat) ({ cls := "QuorumCouncilModel", name := "<init>", desc := "(II)V" } : Jvm.MethodName)) ∈ kz_W9 := kz_in (i := 356) (by decide +kernel) (by decide +kernel)
theorem mw_357 : (Jvm.Cond.instanceMethod ({ cls := "QuorumCouncilModel", name := "<init>", desc := "(II)V" } : Jvm.MethodName)) ∈ kz_W9 := kz_in (i := 357) (by decide +kernel) (by decide +kernel)
theorem mw_358 : (Jvm.Cond.code ({ cls := "QuorumCouncilModel", name := "<init>", desc := "(II)V" } : Jvm.MethodName) prog_3_method_1_code (3 : Nat) (Option.none : Option Jvm.ClassFile.FieldType)) ∈ kz_W9 := kz_in (i := 358) (by decide +kernel) (by decide +kernel)
theorem mw_359 : (Jvm.Cond.methodLink "QuorumCouncilModel" (1 : Nat) ({ cls := "java/lang/Object", name := "<init>", desc := "()V" } : Jvm.MethodName)) ∈ kz_W9 := kz_in (i := 359) (by decide +kernel) (by decide +kernel)
theorem mw_360 : (Jvm.Cond.fieldLink "QuorumCouncilModel" (20 : Nat) "QuorumCouncilModel" "thrown" "I") ∈ kz_W9 := kz_in (i := 360) (by decide +kernel) (by decide +kernel)
theorem mw_361 : (Jvm.Cond.fieldLink "QuorumCouncilModel" (13 : Nat) "QuorumCouncilModel" "itself" "I") ∈ kz_W9 := kz_in (i := 361) (by decide +kernel) (by decide +kernel)
theorem mw_362 : (Jvm.Cond.fieldLink "QuorumCouncilModel" (17 : Nat) "QuorumCouncilModel" "old" "I") ∈ kz_W9 := kz_in (i := 362) (by decide +kernel) (by decide +kernel)
theorem mw_363 : (Jvm.Cond.fieldLink "QuorumCouncilModel" (28 : Nat) "QuorumCouncilModel" "fresh" "I") ∈ kz_W9 := kz_in (i := 363) (by decide +kernel) (by decide +kernel)
theorem mw_364 : (Jvm.Cond.fieldLink "QuorumCouncilModel" (31 : Nat) "QuorumCouncilModel" "learners" "I") ∈ kz_W9 := kz_in (i := 364) (by decide +kernel) (by decide +kernel)
theorem mw_365 : (Jvm.Cond.fieldLink "QuorumCouncilModel" (52 : Nat) "QuorumCouncilModel" "votes" "I") ∈ kz_W9 := kz_in (i := 365) (by decide +kernel) (by decide +kernel)
theorem mw_366 : (Jvm.Cond.fieldLink "QuorumCouncilModel" (62 : Nat) "QuorumCouncilModel" "round" "I") ∈ kz_W9 := kz_in (i := 366) (by decide +kernel) (by decide +kernel)
theorem mw_367 : (Jvm.Cond.fieldLink "QuorumCouncilModel" (7 : Nat) "QuorumCouncilModel" "all" "[I") ∈ kz_W9 := kz_in (i := 367) (by decide +kernel) (by decide +kernel)
theorem mw_385 : (Jvm.Cond.methodLink "QuorumCouncilLaw" (79 : Nat) ({ cls := "QuorumCouncilModel", name := "thrown", desc := "()I" } : Jvm.MethodName)) ∈ kz_W9 := kz_in (i := 385) (by decide +kernel) (by decide +kernel)
theorem mw_386 : (Jvm.Cond.instanceMethod ({ cls := "QuorumCouncilModel", name := "thrown", desc := "()I" } : Jvm.MethodName)) ∈ kz_W9 := kz_in (i := 386) (by decide +kernel) (by decide +kernel)
theorem mw_387 : (Jvm.Cond.selects "QuorumCouncilModel" ({ cls := "QuorumCouncilModel", name := "thrown", desc := "()I" } : Jvm.MethodName) ({ cls := "QuorumCouncilModel", name := "thrown", desc := "()I" } : Jvm.MethodName)) ∈ kz_W9 := kz_in (i := 387) (by decide +kernel) (by decide +kernel)
theorem mw_388 : (Jvm.Cond.code ({ cls := "QuorumCouncilModel", name := "thrown", desc := "()I" } : Jvm.MethodName) prog_3_method_2_code (1 : Nat) (Option.some Jvm.ClassFile.FieldType.int)) ∈ kz_W9 := kz_in (i := 388) (by decide +kernel) (by decide +kernel)
theorem mw_389 : (Jvm.Cond.methodLink "QuorumCouncilLaw" (78 : Nat) ({ cls := "QuorumCouncilModel", name := "members", desc := "(III)V" } : Jvm.MethodName)) ∈ kz_W9 := kz_in (i := 389) (by decide +kernel) (by decide +kernel)
theorem mw_390 : (Jvm.Cond.instanceMethod ({ cls := "QuorumCouncilModel", name := "members", desc := "(III)V" } : Jvm.MethodName)) ∈ kz_W9 := kz_in (i := 390) (by decide +kernel) (by decide +kernel)
theorem mw_391 : (Jvm.Cond.selects "QuorumCouncilModel" ({ cls := "QuorumCouncilModel", name := "members", desc := "(III)V" } : Jvm.MethodName) ({ cls := "QuorumCouncilModel", name := "members", desc := "(III)V" } : Jvm.MethodName)) ∈ kz_W9 := kz_in (i := 391) (by decide +kernel) (by decide +kernel)
theorem mw_392 : (Jvm.Cond.code ({ cls := "QuorumCouncilModel", name := "members", desc := "(III)V" } : Jvm.MethodName) prog_3_method_9_code (4 : Nat) (Option.none : Option Jvm.ClassFile.FieldType)) ∈ kz_W9 := kz_in (i := 392) (by decide +kernel) (by decide +kernel)
theorem mw_393 : (Jvm.Cond.methodLink "QuorumCouncilModel" (24 : Nat) ({ cls := "QuorumCouncilModel", name := "isSet", desc := "(I)Z" } : Jvm.MethodName)) ∈ kz_W9 := kz_in (i := 393) (by decide +kernel) (by decide +kernel)
theorem mw_394 : (Jvm.Cond.static ({ cls := "QuorumCouncilModel", name := "isSet", desc := "(I)Z" } : Jvm.MethodName)) ∈ kz_W9 := kz_in (i := 394) (by decide +kernel) (by decide +kernel)
theorem mw_395 : (Jvm.Cond.code ({ cls := "QuorumCouncilModel", name := "isSet", desc := "(I)Z" } : Jvm.MethodName) prog_3_method_4_code (1 : Nat) (Option.some Jvm.ClassFile.FieldType.boolean)) ∈ kz_W9 := kz_in (i := 395) (by decide +kernel) (by decide +kernel)
theorem mw_396 : (Jvm.Cond.methodLink "QuorumCouncilLaw" (86 : Nat) ({ cls := "QuorumCouncilModel", name := "change", desc := "(II)V" } : Jvm.MethodName)) ∈ kz_W9 := kz_in (i := 396) (by decide +kernel) (by decide +kernel)
theorem mw_397 : (Jvm.Cond.instanceMethod ({ cls := "QuorumCouncilModel", name := "change", desc := "(II)V" } : Jvm.MethodName)) ∈ kz_W9 := kz_in (i := 397) (by decide +kernel) (by decide +kernel)
theorem mw_398 : (Jvm.Cond.selects "QuorumCouncilModel" ({ cls := "QuorumCouncilModel", name := "change", desc := "(II)V" } : Jvm.MethodName) ({ cls := "QuorumCouncilModel", name := "change", desc := "(II)V" } : Jvm.MethodName)) ∈ kz_W9 := kz_in (i := 398) (by decide +kernel) (by decide +kernel)
theorem mw_399 : (Jvm.Cond.code ({ cls := "QuorumCouncilModel", name := "change", desc := "(II)V" } : Jvm.MethodName) prog_3_method_10_code (5 : Nat) (Option.none : Option Jvm.ClassFile.FieldType)) ∈ kz_W9 := kz_in (i := 399) (by decide +kernel) (by decide +kernel)
theorem mw_400 : (Jvm.Cond.methodLink "QuorumCouncilModel" (34 : Nat) ({ cls := "QuorumCouncilModel", name := "has", desc := "(II)Z" } : Jvm.MethodName)) ∈ kz_W9 := kz_in (i := 400) (by decide +kernel) (by decide +kernel)
theorem mw_401 : (Jvm.Cond.static ({ cls := "QuorumCouncilModel", name := "has", desc := "(II)Z" } : Jvm.MethodName)) ∈ kz_W9 := kz_in (i := 401) (by decide +kernel) (by decide +kernel)
theorem mw_402 : (Jvm.Cond.code ({ cls := "QuorumCouncilModel", name := "has", desc := "(II)Z" } : Jvm.MethodName) prog_3_method_6_code (2 : Nat) (Option.some Jvm.ClassFile.FieldType.boolean)) ∈ kz_W9 := kz_in (i := 402) (by decide +kernel) (by decide +kernel)
theorem mw_403 : (Jvm.Cond.methodLink "QuorumCouncilModel" (38 : Nat) ({ cls := "QuorumCouncilModel", name := "get", desc := "(II)I" } : Jvm.MethodName)) ∈ kz_W9 := kz_in (i := 403) (by decide +kernel) (by decide +kernel)
theorem mw_405 : (Jvm.Cond.instanceMethod ({ cls := "QuorumCouncilModel", name := "get", desc := "(II)I" } : Jvm.MethodName)) ∈ kz_W9 := kz_in (i := 405) (by decide +kernel) (by decide +kernel)
theorem mw_406 : (Jvm.Cond.code ({ cls := "QuorumCouncilModel", name := "get", desc := "(II)I" } : Jvm.MethodName) prog_3_method_7_code (3 : Nat) (Option.some Jvm.ClassFile.FieldType.int)) ∈ kz_W9 := kz_in (i := 406) (by decide +kernel) (by decide +kernel)
theorem mw_407 : (Jvm.Cond.methodLink "QuorumCouncilLaw" (90 : Nat) ({ cls := "QuorumCouncilModel", name := "settle", desc := "()Z" } : Jvm.MethodName)) ∈ kz_W9 := kz_in (i := 407) (by decide +kernel) (by decide +kernel)
theorem mw_408 : (Jvm.Cond.instanceMethod ({ cls := "QuorumCouncilModel", name := "settle", desc := "()Z" } : Jvm.MethodName)) ∈ kz_W9 := kz_in (i := 408) (by decide +kernel) (by decide +kernel)
theorem mw_409 : (Jvm.Cond.selects "QuorumCouncilModel" ({ cls := "QuorumCouncilModel", name := "settle", desc := "()Z" } : Jvm.MethodName) ({ cls := "QuorumCouncilModel", name := "settle", desc := "()Z" } : Jvm.MethodName)) ∈ kz_W9 := kz_in (i := 409) (by decide +kernel) (by decide +kernel)
theorem mw_410 : (Jvm.Cond.code ({ cls := "QuorumCouncilModel", name := "settle", desc := "()Z" } : Jvm.MethodName) prog_3_method_11_code (1 : Nat) (Option.some Jvm.ClassFile.FieldType.boolean)) ∈ kz_W9 := kz_in (i := 410) (by decide +kernel) (by decide +kernel)
theorem mw_411 : (Jvm.Cond.methodLink "QuorumCouncilModel" (42 : Nat) ({ cls := "QuorumCouncilModel", name := "fail", desc := "(I)I" } : Jvm.MethodName)) ∈ kz_W9 := kz_in (i := 411) (by decide +kernel) (by decide +kernel)
theorem mw_413 : (Jvm.Cond.instanceMethod ({ cls := "QuorumCouncilModel", name := "fail", desc := "(I)I" } : Jvm.MethodName)) ∈ kz_W9 := kz_in (i := 413) (by decide +kernel) (by decide +kernel)
theorem mw_414 : (Jvm.Cond.code ({ cls := "QuorumCouncilModel", name := "fail", desc := "(I)I" } : Jvm.MethodName) prog_3_method_3_code (2 : Nat) (Option.some Jvm.ClassFile.FieldType.int)) ∈ kz_W9 := kz_in (i := 414) (by decide +kernel) (by decide +kernel)
theorem mw_415 : (Jvm.Cond.methodLink "QuorumCouncilLaw" (94 : Nat) ({ cls := "QuorumCouncilModel", name := "majority", desc := "(I)Z" } : Jvm.MethodName)) ∈ kz_W9 := kz_in (i := 415) (by decide +kernel) (by decide +kernel)
theorem mw_416 : (Jvm.Cond.instanceMethod ({ cls := "QuorumCouncilModel", name := "majority", desc := "(I)Z" } : Jvm.MethodName)) ∈ kz_W9 := kz_in (i := 416) (by decide +kernel) (by decide +kernel)
theorem mw_417 : (Jvm.Cond.selects "QuorumCouncilModel" ({ cls := "QuorumCouncilModel", name := "majority", desc := "(I)Z" } : Jvm.MethodName) ({ cls := "QuorumCouncilModel", name := "majority", desc := "(I)Z" } : Jvm.MethodName)) ∈ kz_W9 := kz_in (i := 417) (by decide +kernel) (by decide +kernel)
theorem mw_418 : (Jvm.Cond.code ({ cls := "QuorumCouncilModel", name := "majority", desc := "(I)Z" } : Jvm.MethodName) prog_3_method_14_code (2 : Nat) (Option.some Jvm.ClassFile.FieldType.boolean)) ∈ kz_W9 := kz_in (i := 418) (by decide +kernel) (by decide +kernel)
theorem mw_419 : (Jvm.Cond.methodLink "QuorumCouncilModel" (49 : Nat) ({ cls := "QuorumCouncilModel", name := "carries", desc := "(I)Z" } : Jvm.MethodName)) ∈ kz_W9 := kz_in (i := 419) (by decide +kernel) (by decide +kernel)
theorem mw_421 : (Jvm.Cond.instanceMethod ({ cls := "QuorumCouncilModel", name := "carries", desc := "(I)Z" } : Jvm.MethodName)) ∈ kz_W9 := kz_in (i := 421) (by decide +kernel) (by decide +kernel)
theorem mw_422 : (Jvm.Cond.code ({ cls := "QuorumCouncilModel", name := "carries", desc := "(I)Z" } : Jvm.MethodName) prog_3_method_13_code (2 : Nat) (Option.some Jvm.ClassFile.FieldType.boolean)) ∈ kz_W9 := kz_in (i := 422) (by decide +kernel) (by decide +kernel)
theorem mw_423 : (Jvm.Cond.methodLink "QuorumCouncilModel" (46 : Nat) ({ cls := "QuorumCouncilModel", name := "mostOf", desc := "(II)Z" } : Jvm.MethodName)) ∈ kz_W9 := kz_in (i := 423) (by decide +kernel) (by decide +kernel)
theorem mw_424 : (Jvm.Cond.static ({ cls := "QuorumCouncilModel", name := "mostOf", desc := "(II)Z" } : Jvm.MethodName)) ∈ kz_W9 := kz_in (i := 424) (by decide +kernel) (by decide +kernel)
theorem mw_425 : (Jvm.Cond.code ({ cls := "QuorumCouncilModel", name := "mostOf", desc := "(II)Z" } : Jvm.MethodName) prog_3_method_12_code (5 : Nat) (Option.some Jvm.ClassFile.FieldType.boolean)) ∈ kz_W9 := kz_in (i := 425) (by decide +kernel) (by decide +kernel)
theorem mw_426 : (Jvm.Cond.methodLink "QuorumCouncilLaw" (98 : Nat) ({ cls := "QuorumCouncilModel", name := "ballot", desc := "()V" } : Jvm.MethodName)) ∈ kz_W9 := kz_in (i := 426) (by decide +kernel) (by decide +kernel)
theorem mw_427 : (Jvm.Cond.instanceMethod ({ cls := "QuorumCouncilModel", name := "ballot", desc := "()V" } : Jvm.MethodName)) ∈ kz_W9 := kz_in (i := 427) (by decide +kernel) (by decide +kernel)
theorem mw_428 : (Jvm.Cond.selects "QuorumCouncilModel" ({ cls := "QuorumCouncilModel", name := "ballot", desc := "()V" } : Jvm.MethodName) ({ cls := "QuorumCouncilModel", name := "ballot", desc := "()V" } : Jvm.MethodName)) ∈ kz_W9 := kz_in (i := 428) (by decide +kernel) (by decide +kernel)
theorem mw_429 : (Jvm.Cond.code ({ cls := "QuorumCouncilModel", name := "ballot", desc := "()V" } : Jvm.MethodName) prog_3_method_15_code (1 : Nat) (Option.none : Option Jvm.ClassFile.FieldType)) ∈ kz_W9 := kz_in (i := 429) (by decide +kernel) (by decide +kernel)
theorem mw_430 : (Jvm.Cond.methodLink "QuorumCouncilLaw" (101 : Nat) ({ cls := "QuorumCouncilModel", name := "vote", desc := "(I)Z" } : Jvm.MethodName)) ∈ kz_W9 := kz_in (i := 430) (by decide +kernel) (by decide +kernel)
theorem mw_431 : (Jvm.Cond.instanceMethod ({ cls := "QuorumCouncilModel", name := "vote", desc := "(I)Z" } : Jvm.MethodName)) ∈ kz_W9 := kz_in (i := 431) (by decide +kernel) (by decide +kernel)
theorem mw_432 : (Jvm.Cond.selects "QuorumCouncilModel" ({ cls := "QuorumCouncilModel", name := "vote", desc := "(I)Z" } : Jvm.MethodName) ({ cls := "QuorumCouncilModel", name := "vote", desc := "(I)Z" } : Jvm.MethodName)) ∈ kz_W9 := kz_in (i := 432) (by decide +kernel) (by decide +kernel)
theorem mw_433 : (Jvm.Cond.code ({ cls := "QuorumCouncilModel", name := "vote", desc := "(I)Z" } : Jvm.MethodName) prog_3_method_16_code (2 : Nat) (Option.some Jvm.ClassFile.FieldType.boolean)) ∈ kz_W9 := kz_in (i := 433) (by decide +kernel) (by decide +kernel)
theorem mw_434 : (Jvm.Cond.methodLink "QuorumCouncilLaw" (104 : Nat) ({ cls := "QuorumCouncilModel", name := "lead", desc := "(II)V" } : Jvm.MethodName)) ∈ kz_W9 := kz_in (i := 434) (by decide +kernel) (by decide +kernel)
theorem mw_435 : (Jvm.Cond.instanceMethod ({ cls := "QuorumCouncilModel", name := "lead", desc := "(II)V" } : Jvm.MethodName)) ∈ kz_W9 := kz_in (i := 435) (by decide +kernel) (by decide +kernel)
theorem mw_436 : (Jvm.Cond.selects "QuorumCouncilModel" ({ cls := "QuorumCouncilModel", name := "lead", desc := "(II)V" } : Jvm.MethodName) ({ cls := "QuorumCouncilModel", name := "lead", desc := "(II)V" } : Jvm.MethodName)) ∈ kz_W9 := kz_in (i := 436) (by decide +kernel) (by decide +kernel)
theorem mw_437 : (Jvm.Cond.code ({ cls := "QuorumCouncilModel", name := "lead", desc := "(II)V" } : Jvm.MethodName) prog_3_method_18_code (5 : Nat) (Option.none : Option Jvm.ClassFile.FieldType)) ∈ kz_W9 := kz_in (i := 437) (by decide +kernel) (by decide +kernel)
theorem mw_438 : (Jvm.Cond.methodLink "QuorumCouncilModel" (55 : Nat) ({ cls := "QuorumCouncilModel", name := "number", desc := "(I)Z" } : Jvm.MethodName)) ∈ kz_W9 := kz_in (i := 438) (by decide +kernel) (by decide +kernel)
theorem mw_439 : (Jvm.Cond.static ({ cls := "QuorumCouncilModel", name := "number", desc := "(I)Z" } : Jvm.MethodName)) ∈ kz_W9 := kz_in (i := 439) (by decide +kernel) (by decide +kernel)
theorem mw_440 : (Jvm.Cond.code ({ cls := "QuorumCouncilModel", name := "number", desc := "(I)Z" } : Jvm.MethodName) prog_3_method_5_code (1 : Nat) (Option.some Jvm.ClassFile.FieldType.boolean)) ∈ kz_W9 := kz_in (i := 440) (by decide +kernel) (by decide +kernel)
theorem mw_441 : (Jvm.Cond.constant "QuorumCouncilModel" (23 : Nat) (1000000000 : Int32)) ∈ kz_W9 := kz_in (i := 441) (by decide +kernel) (by decide +kernel)
theorem mw_442 : (Jvm.Cond.methodLink "QuorumCouncilModel" (58 : Nat) ({ cls := "QuorumCouncilModel", name := "put", desc := "(III)V" } : Jvm.MethodName)) ∈ kz_W9 := kz_in (i := 442) (by decide +kernel) (by decide +kernel)
theorem mw_444 : (Jvm.Cond.instanceMethod ({ cls := "QuorumCouncilModel", name := "put", desc := "(III)V" } : Jvm.MethodName)) ∈ kz_W9 := kz_in (i := 444) (by decide +kernel) (by decide +kernel)
theorem mw_445 : (Jvm.Cond.code ({ cls := "QuorumCouncilModel", name := "put", desc := "(III)V" } : Jvm.MethodName) prog_3_method_8_code (4 : Nat) (Option.none : Option Jvm.ClassFile.FieldType)) ∈ kz_W9 := kz_in (i := 445) (by decide +kernel) (by decide +kernel)
theorem mw_446 : (Jvm.Cond.methodLink "QuorumCouncilLaw" (108 : Nat) ({ cls := "QuorumCouncilModel", name := "round", desc := "()I" } : Jvm.MethodName)) ∈ kz_W9 := kz_in (i := 446) (by decide +kernel) (by decide +kernel)
theorem mw_447 : (Jvm.Cond.instanceMethod ({ cls := "QuorumCouncilModel", name := "round", desc := "()I" } : Jvm.MethodName)) ∈ kz_W9 := kz_in (i := 447) (by decide +kernel) (by decide +kernel)
theorem mw_448 : (Jvm.Cond.selects "QuorumCouncilModel" ({ cls := "QuorumCouncilModel", name := "round", desc := "()I" } : Jvm.MethodName) ({ cls := "QuorumCouncilModel", name := "round", desc := "()I" } : Jvm.MethodName)) ∈ kz_W9 := kz_in (i := 448) (by decide +kernel) (by decide +kernel)
theorem mw_449 : (Jvm.Cond.code ({ cls := "QuorumCouncilModel", name := "round", desc := "()I" } : Jvm.MethodName) prog_3_method_19_code (2 : Nat) (Option.some Jvm.ClassFile.FieldType.int)) ∈ kz_W9 := kz_in (i := 449) (by decide +kernel) (by decide +kernel)
theorem mw_450 : (Jvm.Cond.methodLink "QuorumCouncilModel" (65 : Nat) ({ cls := "QuorumCouncilModel", name := "peers", desc := "()I" } : Jvm.MethodName)) ∈ kz_W9 := kz_in (i := 450) (by decide +kernel) (by decide +kernel)
theorem mw_452 : (Jvm.Cond.instanceMethod ({ cls := "QuorumCouncilModel", name := "peers", desc := "()I" } : Jvm.MethodName)) ∈ kz_W9 := kz_in (i := 452) (by decide +kernel) (by decide +kernel)
theorem mw_453 : (Jvm.Cond.code ({ cls := "QuorumCouncilModel", name := "peers", desc := "()I" } : Jvm.MethodName) prog_3_method_17_code (3 : Nat) (Option.some Jvm.ClassFile.FieldType.int)) ∈ kz_W9 := kz_in (i := 453) (by decide +kernel) (by decide +kernel)
theorem mw_454 : (Jvm.Cond.methodLink "QuorumCouncilLaw" (112 : Nat) ({ cls := "QuorumCouncilModel", name := "sending", desc := "(IIIZ)I" } : Jvm.MethodName)) ∈ kz_W9 := kz_in (i := 454) (by decide +kernel) (by decide +kernel)
theorem mw_455 : (Jvm.Cond.instanceMethod ({ cls := "QuorumCouncilModel", name := "sending", desc := "(IIIZ)I" } : Jvm.MethodName)) ∈ kz_W9 := kz_in (i := 455) (by decide +kernel) (by decide +kernel)
theorem mw_456 : (Jvm.Cond.selects "QuorumCouncilModel" ({ cls := "QuorumCouncilModel", name := "sending", desc := "(IIIZ)I" } : Jvm.MethodName) ({ cls := "QuorumCouncilModel", name := "sending", desc := "(IIIZ)I" } : Jvm.MethodName)) ∈ kz_W9 := kz_in (i := 456) (by decide +kernel) (by decide +kernel)
theorem mw_457 : (Jvm.Cond.code ({ cls := "QuorumCouncilModel", name := "sending", desc := "(IIIZ)I" } : Jvm.MethodName) prog_3_method_20_code (8 : Nat) (Option.some Jvm.ClassFile.FieldType.int)) ∈ kz_W9 := kz_in (i := 457) (by decide +kernel) (by decide +kernel)
theorem mw_458 : (Jvm.Cond.methodLink "QuorumCouncilLaw" (116 : Nat) ({ cls := "QuorumCouncilModel", name := "matched", desc := "(IIII)I" } : Jvm.MethodName)) ∈ kz_W9 := kz_in (i := 458) (by decide +kernel) (by decide +kernel)
theorem mw_459 : (Jvm.Cond.instanceMethod ({ cls := "QuorumCouncilModel", name := "matched", desc := "(IIII)I" } : Jvm.MethodName)) ∈ kz_W9 := kz_in (i := 459) (by decide +kernel) (by decide +kernel)
theorem mw_460 : (Jvm.Cond.selects "QuorumCouncilModel" ({ cls := "QuorumCouncilModel", name := "matched", desc := "(IIII)I" } : Jvm.MethodName) ({ cls := "QuorumCouncilModel", name := "matched", desc := "(IIII)I" } : Jvm.MethodName)) ∈ kz_W9 := kz_in (i := 460) (by decide +kernel) (by decide +kernel)
theorem mw_461 : (Jvm.Cond.code ({ cls := "QuorumCouncilModel", name := "matched", desc := "(IIII)I" } : Jvm.MethodName) prog_3_method_24_code (5 : Nat) (Option.some Jvm.ClassFile.FieldType.int)) ∈ kz_W9 := kz_in (i := 461) (by decide +kernel) (by decide +kernel)
theorem mw_462 : (Jvm.Cond.methodLink "QuorumCouncilModel" (72 : Nat) ({ cls := "QuorumCouncilModel", name := "bad", desc := "(IIIII)Z" } : Jvm.MethodName)) ∈ kz_W9 := kz_in (i := 462) (by decide +kernel) (by decide +kernel)
theorem mw_464 : (Jvm.Cond.instanceMethod ({ cls := "QuorumCouncilModel", name := "bad", desc := "(IIIII)Z" } : Jvm.MethodName)) ∈ kz_W9 := kz_in (i := 464) (by decide +kernel) (by decide +kernel)
theorem mw_465 : (Jvm.Cond.code ({ cls := "QuorumCouncilModel", name := "bad", desc := "(IIIII)Z" } : Jvm.MethodName) prog_3_method_21_code (6 : Nat) (Option.some Jvm.ClassFile.FieldType.boolean)) ∈ kz_W9 := kz_in (i := 465) (by decide +kernel) (by decide +kernel)
theorem mw_466 : (Jvm.Cond.methodLink "QuorumCouncilModel" (76 : Nat) ({ cls := "QuorumCouncilModel", name := "answered", desc := "(III)V" } : Jvm.MethodName)) ∈ kz_W9 := kz_in (i := 466) (by decide +kernel) (by decide +kernel)
theorem mw_468 : (Jvm.Cond.instanceMethod ({ cls := "QuorumCouncilModel", name := "answered", desc := "(III)V" } : Jvm.MethodName)) ∈ kz_W9 := kz_in (i := 468) (by decide +kernel) (by decide +kernel)
theorem mw_469 : (Jvm.Cond.code ({ cls := "QuorumCouncilModel", name := "answered", desc := "(III)V" } : Jvm.MethodName) prog_3_method_23_code (4 : Nat) (Option.none : Option Jvm.ClassFile.FieldType)) ∈ kz_W9 := kz_in (i := 469) (by decide +kernel) (by decide +kernel)
theorem mw_470 : (Jvm.Cond.methodLink "QuorumCouncilModel" (69 : Nat) ({ cls := "QuorumCouncilModel", name := "greater", desc := "(II)I" } : Jvm.MethodName)) ∈ kz_W9 := kz_in (i := 470) (by decide +kernel) (by decide +kernel)
theorem mw_471 : (Jvm.Cond.static ({ cls := "QuorumCouncilModel", name := "greater", desc := "(II)I" } : Jvm.MethodName)) ∈ kz_W9 := kz_in (i := 471) (by decide +kernel) (by decide +kernel)
theorem mw_472 : (Jvm.Cond.code ({ cls := "QuorumCouncilModel", name := "greater", desc := "(II)I" } : Jvm.MethodName) prog_3_method_22_code (2 : Nat) (Option.some Jvm.ClassFile.FieldType.int)) ∈ kz_W9 := kz_in (i := 472) (by decide +kernel) (by decide +kernel)
theorem mw_473 : (Jvm.Cond.methodLink "QuorumCouncilLaw" (120 : Nat) ({ cls := "QuorumCouncilModel", name := "refused", desc := "(IIIII)I" } : Jvm.MethodName)) ∈ kz_W9 := kz_in (i := 473) (by decide +kernel) (by decide +kernel)
theorem mw_474 : (Jvm.Cond.instanceMethod ({ cls := "QuorumCouncilModel", name := "refused", desc := "(IIIII)I" } : Jvm.MethodName)) ∈ kz_W9 := kz_in (i := 474) (by decide +kernel) (by decide +kernel)
theorem mw_475 : (Jvm.Cond.selects "QuorumCouncilModel" ({ cls := "QuorumCouncilModel", name := "refused", desc := "(IIIII)I" } : Jvm.MethodName) ({ cls := "QuorumCouncilModel", name := "refused", desc := "(IIIII)I" } : Jvm.MethodName)) ∈ kz_W9 := kz_in (i := 475) (by decide +kernel) (by decide +kernel)
theorem mw_476 : (Jvm.Cond.code ({ cls := "QuorumCouncilModel", name := "refused", desc := "(IIIII)I" } : Jvm.MethodName) prog_3_method_25_code (7 : Nat) (Option.some Jvm.ClassFile.FieldType.int)) ∈ kz_W9 := kz_in (i := 476) (by decide +kernel) (by decide +kernel)
theorem mw_477 : (Jvm.Cond.methodLink "QuorumCouncilLaw" (124 : Nat) ({ cls := "QuorumCouncilModel", name := "stored", desc := "(IIIIII)Z" } : Jvm.MethodName)) ∈ kz_W9 := kz_in (i := 477) (by decide +kernel) (by decide +kernel)
theorem mw_478 : (Jvm.Cond.instanceMethod ({ cls := "QuorumCouncilModel", name := "stored", desc := "(IIIIII)Z" } : Jvm.MethodName)) ∈ kz_W9 := kz_in (i := 478) (by decide +kernel) (by decide +kernel)
theorem mw_479 : (Jvm.Cond.selects "QuorumCouncilModel" ({ cls := "QuorumCouncilModel", name := "stored", desc := "(IIIIII)Z" } : Jvm.MethodName) ({ cls := "QuorumCouncilModel", name := "stored", desc := "(IIIIII)Z" } : Jvm.MethodName)) ∈ kz_W9 := kz_in (i := 479) (by decide +kernel) (by decide +kernel)
theorem mw_480 : (Jvm.Cond.code ({ cls := "QuorumCouncilModel", name := "stored", desc := "(IIIIII)Z" } : Jvm.MethodName) prog_3_method_26_code (7 : Nat) (Option.some Jvm.ClassFile.FieldType.boolean)) ∈ kz_W9 := kz_in (i := 480) (by decide +kernel) (by decide +kernel)
theorem mw_481 : (Jvm.Cond.methodLink "QuorumCouncilLaw" (127 : Nat) ({ cls := "QuorumCouncilModel", name := "own", desc := "(II)V" } : Jvm.MethodName)) ∈ kz_W9 := kz_in (i := 481) (by decide +kernel) (by decide +kernel)
theorem mw_482 : (Jvm.Cond.instanceMethod ({ cls := "QuorumCouncilModel", name := "own", desc := "(II)V" } : Jvm.MethodName)) ∈ kz_W9 := kz_in (i := 482) (by decide +kernel) (by decide +kernel)
theorem mw_483 : (Jvm.Cond.selects "QuorumCouncilModel" ({ cls := "QuorumCouncilModel", name := "own", desc := "(II)V" } : Jvm.MethodName) ({ cls := "QuorumCouncilModel", name := "own", desc := "(II)V" } : Jvm.MethodName)) ∈ kz_W9 := kz_in (i := 483) (by decide +kernel) (by decide +kernel)
theorem mw_484 : (Jvm.Cond.code ({ cls := "QuorumCouncilModel", name := "own", desc := "(II)V" } : Jvm.MethodName) prog_3_method_27_code (3 : Nat) (Option.none : Option Jvm.ClassFile.FieldType)) ∈ kz_W9 := kz_in (i := 484) (by decide +kernel) (by decide +kernel)
theorem mw_485 : (Jvm.Cond.methodLink "QuorumCouncilLaw" (130 : Nat) ({ cls := "QuorumCouncilModel", name := "agreed", desc := "(I)I" } : Jvm.MethodName)) ∈ kz_W9 := kz_in (i := 485) (by decide +kernel) (by decide +kernel)
theorem mw_486 : (Jvm.Cond.instanceMethod ({ cls := "QuorumCouncilModel", name := "agreed", desc := "(I)I" } : Jvm.MethodName)) ∈ kz_W9 := kz_in (i := 486) (by decide +kernel) (by decide +kernel)
theorem mw_487 : (Jvm.Cond.selects "QuorumCouncilModel" ({ cls := "QuorumCouncilModel", name := "agreed", desc := "(I)I" } : Jvm.MethodName) ({ cls := "QuorumCouncilModel", name := "agreed", desc := "(I)I" } : Jvm.MethodName)) ∈ kz_W9 := kz_in (i := 487) (by decide +kernel) (by decide +kernel)
theorem mw_488 : (Jvm.Cond.code ({ cls := "QuorumCouncilModel", name := "agreed", desc := "(I)I" } : Jvm.MethodName) prog_3_method_28_code (7 : Nat) (Option.some Jvm.ClassFile.FieldType.int)) ∈ kz_W9 := kz_in (i := 488) (by decide +kernel) (by decide +kernel)
theorem mw_489 : (Jvm.Cond.constant "QuorumCouncilModel" (79 : Nat) (1000000001 : Int32)) ∈ kz_W9 := kz_in (i := 489) (by decide +kernel) (by decide +kernel)
theorem mw_490 : (Jvm.Cond.methodLink "QuorumCouncilLaw" (134 : Nat) ({ cls := "QuorumCouncilModel", name := "server", desc := "(II)I" } : Jvm.MethodName)) ∈ kz_W9 := kz_in (i := 490) (by decide +kernel) (by decide +kernel)
theorem mw_491 : (Jvm.Cond.instanceMethod ({ cls := "QuorumCouncilModel", name := "server", desc := "(II)I" } : Jvm.MethodName)) ∈ kz_W9 := kz_in (i := 491) (by decide +kernel) (by decide +kernel)
theorem mw_492 : (Jvm.Cond.selects "QuorumCouncilModel" ({ cls := "QuorumCouncilModel", name := "server", desc := "(II)I" } : Jvm.MethodName) ({ cls := "QuorumCouncilModel", name := "server", desc := "(II)I" } : Jvm.MethodName)) ∈ kz_W9 := kz_in (i := 492) (by decide +kernel) (by decide +kernel)
theorem mw_493 : (Jvm.Cond.code ({ cls := "QuorumCouncilModel", name := "server", desc := "(II)I" } : Jvm.MethodName) prog_3_method_29_code (3 : Nat) (Option.some Jvm.ClassFile.FieldType.int)) ∈ kz_W9 := kz_in (i := 493) (by decide +kernel) (by decide +kernel)
theorem mw_494 : (Jvm.Cond.methodLink "QuorumCouncilLaw" (138 : Nat) ({ cls := "QuorumCouncilModel", name := "council", desc := "(I)I" } : Jvm.MethodName)) ∈ kz_W9 := kz_in (i := 494) (by decide +kernel) (by decide +kernel)
theorem mw_495 : (Jvm.Cond.instanceMethod ({ cls := "QuorumCouncilModel", name := "council", desc := "(I)I" } : Jvm.MethodName)) ∈ kz_W9 := kz_in (i := 495) (by decide +kernel) (by decide +kernel)
theorem mw_496 : (Jvm.Cond.selects "QuorumCouncilModel" ({ cls := "QuorumCouncilModel", name := "council", desc := "(I)I" } : Jvm.MethodName) ({ cls := "QuorumCouncilModel", name := "council", desc := "(I)I" } : Jvm.MethodName)) ∈ kz_W9 := kz_in (i := 496) (by decide +kernel) (by decide +kernel)
theorem mw_497 : (Jvm.Cond.code ({ cls := "QuorumCouncilModel", name := "council", desc := "(I)I" } : Jvm.MethodName) prog_3_method_30_code (2 : Nat) (Option.some Jvm.ClassFile.FieldType.int)) ∈ kz_W9 := kz_in (i := 497) (by decide +kernel) (by decide +kernel)
theorem mw_498 : (Jvm.Cond.arrayClass Jvm.ClassFile.FieldType.long) ∈ kz_W9 := kz_in (i := 498) (by decide +kernel) (by decide +kernel)
theorem ms_0 : Cond.selects "QuorumCouncil" ⟨"QuorumCouncil", "peerSet", "()I"⟩ ⟨"QuorumCouncil", "peerSet", "()I"⟩ ∈ kz_W9 := kz_sel (by decide +kernel) (by decide +kernel)
theorem ms_1 : Cond.selects "QuorumCouncil" ⟨"QuorumCouncil", "voterSet", "()I"⟩ ⟨"QuorumCouncil", "voterSet", "()I"⟩ ∈ kz_W9 := kz_sel (by decide +kernel) (by decide +kernel)
theorem ms_2 : Cond.selects "java/lang/Throwable" ⟨"java/lang/Throwable", "fillInStackTrace", "(I)Ljava/lang/Throwable;"⟩ ⟨"java/lang/Throwable", "fillInStackTrace", "(I)Ljava/lang/Throwable;"⟩ ∈ kz_W9 := kz_sel (by decide +kernel) (by decide +kernel)
theorem ms_3 : Cond.selects "QuorumCouncil" ⟨"QuorumCouncil", "learnersMatching", "(I)I"⟩ ⟨"QuorumCouncil", "learnersMatching", "(I)I"⟩ ∈ kz_W9 := kz_sel (by decide +kernel) (by decide +kernel)
theorem ms_4 : Cond.selects "QuorumCouncil" ⟨"QuorumCouncil", "isMajority", "(I)Z"⟩ ⟨"QuorumCouncil", "isMajority", "(I)Z"⟩ ∈ kz_W9 := kz_sel (by decide +kernel) (by decide +kernel)
theorem ms_5 : Cond.selects "QuorumCouncil" ⟨"QuorumCouncil", "requirePeer", "(I)V"⟩ ⟨"QuorumCouncil", "requirePeer", "(I)V"⟩ ∈ kz_W9 := kz_sel (by decide +kernel) (by decide +kernel)
theorem ms_6 : Cond.selects "QuorumCouncil" ⟨"QuorumCouncil", "sendSnapshotPiece", "(I)I"⟩ ⟨"QuorumCouncil", "sendSnapshotPiece", "(I)I"⟩ ∈ kz_W9 := kz_sel (by decide +kernel) (by decide +kernel)
theorem ms_7 : Cond.selects "QuorumCouncil" ⟨"QuorumCouncil", "mayFlyMore", "(I)Z"⟩ ⟨"QuorumCouncil", "mayFlyMore", "(I)Z"⟩ ∈ kz_W9 := kz_sel (by decide +kernel) (by decide +kernel)
theorem ms_8 : Cond.selects "QuorumCouncil" ⟨"QuorumCouncil", "sendEntries", "(II)I"⟩ ⟨"QuorumCouncil", "sendEntries", "(II)I"⟩ ∈ kz_W9 := kz_sel (by decide +kernel) (by decide +kernel)
theorem ms_9 : Cond.selects "QuorumCouncil" ⟨"QuorumCouncil", "hear", "(III)V"⟩ ⟨"QuorumCouncil", "hear", "(III)V"⟩ ∈ kz_W9 := kz_sel (by decide +kernel) (by decide +kernel)
theorem ms_10 : Cond.selects "QuorumCouncil" ⟨"QuorumCouncil", "whatMajorityHas", "([I)I"⟩ ⟨"QuorumCouncil", "whatMajorityHas", "([I)I"⟩ ∈ kz_W9 := kz_sel (by decide +kernel) (by decide +kernel)
theorem ms_11 : Cond.selects "QuorumCouncilModel" ⟨"QuorumCouncilModel", "get", "(II)I"⟩ ⟨"QuorumCouncilModel", "get", "(II)I"⟩ ∈ kz_W9 := kz_sel (by decide +kernel) (by decide +kernel)
theorem ms_12 : Cond.selects "QuorumCouncilModel" ⟨"QuorumCouncilModel", "fail", "(I)I"⟩ ⟨"QuorumCouncilModel", "fail", "(I)I"⟩ ∈ kz_W9 := kz_sel (by decide +kernel) (by decide +kernel)
theorem ms_13 : Cond.selects "QuorumCouncilModel" ⟨"QuorumCouncilModel", "carries", "(I)Z"⟩ ⟨"QuorumCouncilModel", "carries", "(I)Z"⟩ ∈ kz_W9 := kz_sel (by decide +kernel) (by decide +kernel)
theorem ms_14 : Cond.selects "QuorumCouncilModel" ⟨"QuorumCouncilModel", "put", "(III)V"⟩ ⟨"QuorumCouncilModel", "put", "(III)V"⟩ ∈ kz_W9 := kz_sel (by decide +kernel) (by decide +kernel)
theorem ms_15 : Cond.selects "QuorumCouncilModel" ⟨"QuorumCouncilModel", "peers", "()I"⟩ ⟨"QuorumCouncilModel", "peers", "()I"⟩ ∈ kz_W9 := kz_sel (by decide +kernel) (by decide +kernel)
theorem ms_16 : Cond.selects "QuorumCouncilModel" ⟨"QuorumCouncilModel", "bad", "(IIIII)Z"⟩ ⟨"QuorumCouncilModel", "bad", "(IIIII)Z"⟩ ∈ kz_W9 := kz_sel (by decide +kernel) (by decide +kernel)
theorem ms_17 : Cond.selects "QuorumCouncilModel" ⟨"QuorumCouncilModel", "answered", "(III)V"⟩ ⟨"QuorumCouncilModel", "answered", "(III)V"⟩ ∈ kz_W9 := kz_sel (by decide +kernel) (by decide +kernel)
theorem uX0 : ∀ w ∈ u_ws RX0 TX0 14, w ∈ kz_W9 := fun w h => List.mem_filter.mpr ⟨(by decide +kernel : ∀ w ∈ u_ws RX0 TX0 14, w ∈ lw_tbl) w h, (by decide +kernel : ∀ w ∈ u_ws RX0 TX0 14, goodWord w = true) w h⟩
theorem uX1 : ∀ w ∈ u_ws RX1 TX1 8, w ∈ kz_W9 := fun w h => List.mem_filter.mpr ⟨(by decide +kernel : ∀ w ∈ u_ws RX1 TX1 8, w ∈ lw_tbl) w h, (by decide +kernel : ∀ w ∈ u_ws RX1 TX1 8, goodWord w = true) w h⟩
end
section
theorem dX0_init_0 : decode cX0_init 0 = .ok (.aload_n 0, 1) := by decide +kernel
theorem dX0_init_1 : decode cX0_init 1 = .ok (.invokespecial 1, 3) := by decide +kernel
theorem dX0_init_4 : decode cX0_init 4 = .ok (.aload_n 0, 1) := by decide +kernel
theorem dX0_init_5 : decode cX0_init 5 = .ok (.bipush 7, 2) := by decide +kernel
theorem dX0_init_7 : decode cX0_init 7 = .ok (.newarray .int, 2) := by decide +kernel
theorem dX0_init_9 : decode cX0_init 9 = .ok (.putfield 9, 3) := by decide +kernel
theorem dX0_init_12 : decode cX0_init 12 = .ok (.aload_n 0, 1) := by decide +kernel
theorem dX0_init_13 : decode cX0_init 13 = .ok (.bipush 7, 2) := by decide +kernel
theorem dX0_init_15 : decode cX0_init 15 = .ok (.newarray .int, 2) := by decide +kernel
theorem dX0_init_17 : decode cX0_init 17 = .ok (.putfield 13, 3) := by decide +kernel
theorem dX0_init_20 : decode cX0_init 20 = .ok (.aload_n 0, 1) := by decide +kernel
theorem dX0_init_21 : decode cX0_init 21 = .ok (.bipush 7, 2) := by decide +kernel
theorem dX0_init_23 : decode cX0_init 23 = .ok (.newarray .int, 2) := by decide +kernel
theorem dX0_init_25 : decode cX0_init 25 = .ok (.putfield 16, 3) := by decide +kernel
theorem dX0_init_28 : decode cX0_init 28 = .ok (.aload_n 0, 1) := by decide +kernel
theorem dX0_init_29 : decode cX0_init 29 = .ok (.bipush 7, 2) := by decide +kernel
theorem dX0_init_31 : decode cX0_init 31 = .ok (.newarray .boolean, 2) := by decide +kernel
theorem dX0_init_33 : decode cX0_init 33 = .ok (.putfield 19, 3) := by decide +kernel
theorem dX0_init_36 : decode cX0_init 36 = .ok (.aload_n 0, 1) := by decide +kernel
theorem dX0_init_37 : decode cX0_init 37 = .ok (.bipush 7, 2) := by decide +kernel
theorem dX0_init_39 : decode cX0_init 39 = .ok (.newarray .int, 2) := by decide +kernel
theorem dX0_init_41 : decode cX0_init 41 = .ok (.putfield 23, 3) := by decide +kernel
theorem dX0_init_44 : decode cX0_init 44 = .ok (.aload_n 0, 1) := by decide +kernel
theorem dX0_init_45 : decode cX0_init 45 = .ok (.bipush 7, 2) := by decide +kernel
theorem dX0_init_47 : decode cX0_init 47 = .ok (.newarray .int, 2) := by decide +kernel
theorem dX0_init_49 : decode cX0_init 49 = .ok (.putfield 26, 3) := by decide +kernel
theorem dX0_init_52 : decode cX0_init 52 = .ok (.aload_n 0, 1) := by decide +kernel
theorem dX0_init_53 : decode cX0_init 53 = .ok (.bipush 7, 2) := by decide +kernel
theorem dX0_init_55 : decode cX0_init 55 = .ok (.newarray .int, 2) := by decide +kernel
theorem dX0_init_57 : decode cX0_init 57 = .ok (.putfield 29, 3) := by decide +kernel
theorem dX0_init_60 : decode cX0_init 60 = .ok (.aload_n 0, 1) := by decide +kernel
theorem dX0_init_61 : decode cX0_init 61 = .ok (.bipush 7, 2) := by decide +kernel
theorem dX0_init_63 : decode cX0_init 63 = .ok (.newarray .boolean, 2) := by decide +kernel
theorem dX0_init_65 : decode cX0_init 65 = .ok (.putfield 32, 3) := by decide +kernel
theorem dX0_init_68 : decode cX0_init 68 = .ok (.iload_n 1, 1) := by decide +kernel
theorem dX0_init_69 : decode cX0_init 69 = .ok (.bipush 7, 2) := by decide +kernel
theorem dX0_init_71 : decode cX0_init 71 = .ok (.iand, 1) := by decide +kernel
theorem dX0_init_72 : decode cX0_init 72 = .ok (.istore_n 3, 1) := by decide +kernel
theorem dX0_init_73 : decode cX0_init 73 = .ok (.aload_n 0, 1) := by decide +kernel
theorem dX0_init_74 : decode cX0_init 74 = .ok (.iload_n 3, 1) := by decide +kernel
theorem dX0_init_75 : decode cX0_init 75 = .ok (.bipush 7, 2) := by decide +kernel
theorem dX0_init_77 : decode cX0_init 77 = .ok (.if_icmp .ne 8, 3) := by decide +kernel
theorem dX0_init_80 : decode cX0_init 80 = .ok (.bipush 6, 2) := by decide +kernel
theorem dX0_init_82 : decode cX0_init 82 = .ok (.goto 4, 3) := by decide +kernel
theorem dX0_init_85 : decode cX0_init 85 = .ok (.iload_n 3, 1) := by decide +kernel
theorem dX0_init_86 : decode cX0_init 86 = .ok (.putfield 35, 3) := by decide +kernel
theorem dX0_init_89 : decode cX0_init 89 = .ok (.iload_n 2, 1) := by decide +kernel
theorem dX0_init_90 : decode cX0_init 90 = .ok (.bipush 127, 2) := by decide +kernel
theorem dX0_init_92 : decode cX0_init 92 = .ok (.iand, 1) := by decide +kernel
theorem dX0_init_93 : decode cX0_init 93 = .ok (.istore 4, 2) := by decide +kernel
theorem dX0_init_95 : decode cX0_init 95 = .ok (.aload_n 0, 1) := by decide +kernel
theorem dX0_init_96 : decode cX0_init 96 = .ok (.iload 4, 2) := by decide +kernel
theorem dX0_init_98 : decode cX0_init 98 = .ok (.ifCond .ne 7, 3) := by decide +kernel
theorem dX0_init_101 : decode cX0_init 101 = .ok (.iconst 1, 1) := by decide +kernel
theorem dX0_init_102 : decode cX0_init 102 = .ok (.goto 5, 3) := by decide +kernel
theorem dX0_init_105 : decode cX0_init 105 = .ok (.iload 4, 2) := by decide +kernel
theorem dX0_init_107 : decode cX0_init 107 = .ok (.putfield 39, 3) := by decide +kernel
theorem dX0_init_110 : decode cX0_init 110 = .ok (.return_, 1) := by decide +kernel
theorem dX0_members_0 : decode cX0_members 0 = .ok (.iload_n 1, 1) := by decide +kernel
theorem dX0_members_1 : decode cX0_members 1 = .ok (.invokestatic 42, 3) := by decide +kernel
theorem dX0_members_4 : decode cX0_members 4 = .ok (.iload_n 2, 1) := by decide +kernel
theorem dX0_members_5 : decode cX0_members 5 = .ok (.invokestatic 42, 3) := by decide +kernel
theorem dX0_members_8 : decode cX0_members 8 = .ok (.iload_n 3, 1) := by decide +kernel
theorem dX0_members_9 : decode cX0_members 9 = .ok (.invokestatic 42, 3) := by decide +kernel
theorem dX0_members_12 : decode cX0_members 12 = .ok (.iload_n 1, 1) := by decide +kernel
theorem dX0_members_13 : decode cX0_members 13 = .ok (.ifCond .ne 13, 3) := by decide +kernel
theorem dX0_members_16 : decode cX0_members 16 = .ok (.new 46, 3) := by decide +kernel
theorem dX0_members_19 : decode cX0_members 19 = .ok (.dup, 1) := by decide +kernel
theorem dX0_members_20 : decode cX0_members 20 = .ok (.ldc 48, 2) := by decide +kernel
theorem dX0_members_22 : decode cX0_members 22 = .ok (.invokespecial 50, 3) := by decide +kernel
theorem dX0_members_25 : decode cX0_members 25 = .ok (.athrow, 1) := by decide +kernel
theorem dX0_members_26 : decode cX0_members 26 = .ok (.iload_n 3, 1) := by decide +kernel
theorem dX0_members_27 : decode cX0_members 27 = .ok (.iload_n 1, 1) := by decide +kernel
theorem dX0_members_28 : decode cX0_members 28 = .ok (.iload_n 2, 1) := by decide +kernel
theorem dX0_members_29 : decode cX0_members 29 = .ok (.ior, 1) := by decide +kernel
theorem dX0_members_30 : decode cX0_members 30 = .ok (.iand, 1) := by decide +kernel
theorem dX0_members_31 : decode cX0_members 31 = .ok (.ifCond .eq 13, 3) := by decide +kernel
theorem dX0_members_34 : decode cX0_members 34 = .ok (.new 46, 3) := by decide +kernel
theorem dX0_members_37 : decode cX0_members 37 = .ok (.dup, 1) := by decide +kernel
theorem dX0_members_38 : decode cX0_members 38 = .ok (.ldc 53, 2) := by decide +kernel
theorem dX0_members_40 : decode cX0_members 40 = .ok (.invokespecial 50, 3) := by decide +kernel
theorem dX0_members_43 : decode cX0_members 43 = .ok (.athrow, 1) := by decide +kernel
theorem dX0_members_44 : decode cX0_members 44 = .ok (.aload_n 0, 1) := by decide +kernel
theorem dX0_members_45 : decode cX0_members 45 = .ok (.iload_n 1, 1) := by decide +kernel
theorem dX0_members_46 : decode cX0_members 46 = .ok (.putfield 39, 3) := by decide +kernel
theorem dX0_members_49 : decode cX0_members 49 = .ok (.aload_n 0, 1) := by decide +kernel
theorem dX0_members_50 : decode cX0_members 50 = .ok (.iload_n 2, 1) := by decide +kernel
theorem dX0_members_51 : decode cX0_members 51 = .ok (.putfield 55, 3) := by decide +kernel
theorem dX0_members_54 : decode cX0_members 54 = .ok (.aload_n 0, 1) := by decide +kernel
theorem dX0_members_55 : decode cX0_members 55 = .ok (.iload_n 3, 1) := by decide +kernel
theorem dX0_members_56 : decode cX0_members 56 = .ok (.putfield 58, 3) := by decide +kernel
theorem dX0_members_59 : decode cX0_members 59 = .ok (.return_, 1) := by decide +kernel
theorem dX0_change_0 : decode cX0_change 0 = .ok (.iload_n 1, 1) := by decide +kernel
theorem dX0_change_1 : decode cX0_change 1 = .ok (.invokestatic 42, 3) := by decide +kernel
theorem dX0_change_4 : decode cX0_change 4 = .ok (.iload_n 1, 1) := by decide +kernel
theorem dX0_change_5 : decode cX0_change 5 = .ok (.ifCond .ne 13, 3) := by decide +kernel
theorem dX0_change_8 : decode cX0_change 8 = .ok (.new 46, 3) := by decide +kernel
theorem dX0_change_11 : decode cX0_change 11 = .ok (.dup, 1) := by decide +kernel
theorem dX0_change_12 : decode cX0_change 12 = .ok (.ldc 61, 2) := by decide +kernel
theorem dX0_change_14 : decode cX0_change 14 = .ok (.invokespecial 50, 3) := by decide +kernel
theorem dX0_change_17 : decode cX0_change 17 = .ok (.athrow, 1) := by decide +kernel
theorem dX0_change_18 : decode cX0_change 18 = .ok (.iload_n 1, 1) := by decide +kernel
theorem dX0_change_19 : decode cX0_change 19 = .ok (.aload_n 0, 1) := by decide +kernel
theorem dX0_change_20 : decode cX0_change 20 = .ok (.getfield 39, 3) := by decide +kernel
theorem dX0_change_23 : decode cX0_change 23 = .ok (.aload_n 0, 1) := by decide +kernel
theorem dX0_change_24 : decode cX0_change 24 = .ok (.iload_n 2, 1) := by decide +kernel
theorem dX0_change_25 : decode cX0_change 25 = .ok (.invokevirtual 63, 3) := by decide +kernel
theorem dX0_change_28 : decode cX0_change 28 = .ok (.ior, 1) := by decide +kernel
theorem dX0_change_29 : decode cX0_change 29 = .ok (.iconst (-1), 1) := by decide +kernel
theorem dX0_change_30 : decode cX0_change 30 = .ok (.ixor, 1) := by decide +kernel
theorem dX0_change_31 : decode cX0_change 31 = .ok (.iand, 1) := by decide +kernel
theorem dX0_change_32 : decode cX0_change 32 = .ok (.ifCond .eq 13, 3) := by decide +kernel
theorem dX0_change_35 : decode cX0_change 35 = .ok (.new 46, 3) := by decide +kernel
theorem dX0_change_38 : decode cX0_change 38 = .ok (.dup, 1) := by decide +kernel
theorem dX0_change_39 : decode cX0_change 39 = .ok (.ldc 67, 2) := by decide +kernel
theorem dX0_change_41 : decode cX0_change 41 = .ok (.invokespecial 50, 3) := by decide +kernel
theorem dX0_change_44 : decode cX0_change 44 = .ok (.athrow, 1) := by decide +kernel
theorem dX0_change_45 : decode cX0_change 45 = .ok (.aload_n 0, 1) := by decide +kernel
theorem dX0_change_46 : decode cX0_change 46 = .ok (.getfield 55, 3) := by decide +kernel
theorem dX0_change_49 : decode cX0_change 49 = .ok (.ifCond .eq 13, 3) := by decide +kernel
theorem dX0_change_52 : decode cX0_change 52 = .ok (.new 69, 3) := by decide +kernel
theorem dX0_change_55 : decode cX0_change 55 = .ok (.dup, 1) := by decide +kernel
theorem dX0_change_56 : decode cX0_change 56 = .ok (.ldc 71, 2) := by decide +kernel
theorem dX0_change_58 : decode cX0_change 58 = .ok (.invokespecial 73, 3) := by decide +kernel
theorem dX0_change_61 : decode cX0_change 61 = .ok (.athrow, 1) := by decide +kernel
theorem dX0_change_62 : decode cX0_change 62 = .ok (.aload_n 0, 1) := by decide +kernel
theorem dX0_change_63 : decode cX0_change 63 = .ok (.iload_n 1, 1) := by decide +kernel
theorem dX0_change_64 : decode cX0_change 64 = .ok (.putfield 55, 3) := by decide +kernel
theorem dX0_change_67 : decode cX0_change 67 = .ok (.aload_n 0, 1) := by decide +kernel
theorem dX0_change_68 : decode cX0_change 68 = .ok (.aload_n 0, 1) := by decide +kernel
theorem dX0_change_69 : decode cX0_change 69 = .ok (.getfield 58, 3) := by decide +kernel
theorem dX0_change_72 : decode cX0_change 72 = .ok (.iload_n 1, 1) := by decide +kernel
theorem dX0_change_73 : decode cX0_change 73 = .ok (.iconst (-1), 1) := by decide +kernel
theorem dX0_change_74 : decode cX0_change 74 = .ok (.ixor, 1) := by decide +kernel
theorem dX0_change_75 : decode cX0_change 75 = .ok (.iand, 1) := by decide +kernel
theorem dX0_change_76 : decode cX0_change 76 = .ok (.putfield 58, 3) := by decide +kernel
theorem dX0_change_79 : decode cX0_change 79 = .ok (.return_, 1) := by decide +kernel
theorem dX0_settle_0 : decode cX0_settle 0 = .ok (.aload_n 0, 1) := by decide +kernel
theorem dX0_settle_1 : decode cX0_settle 1 = .ok (.getfield 55, 3) := by decide +kernel
theorem dX0_settle_4 : decode cX0_settle 4 = .ok (.ifCond .ne 13, 3) := by decide +kernel
theorem dX0_settle_7 : decode cX0_settle 7 = .ok (.new 69, 3) := by decide +kernel
theorem dX0_settle_10 : decode cX0_settle 10 = .ok (.dup, 1) := by decide +kernel
theorem dX0_settle_11 : decode cX0_settle 11 = .ok (.ldc 74, 2) := by decide +kernel
theorem dX0_settle_13 : decode cX0_settle 13 = .ok (.invokespecial 73, 3) := by decide +kernel
theorem dX0_settle_16 : decode cX0_settle 16 = .ok (.athrow, 1) := by decide +kernel
theorem dX0_settle_17 : decode cX0_settle 17 = .ok (.aload_n 0, 1) := by decide +kernel
theorem dX0_settle_18 : decode cX0_settle 18 = .ok (.aload_n 0, 1) := by decide +kernel
theorem dX0_settle_19 : decode cX0_settle 19 = .ok (.getfield 55, 3) := by decide +kernel
theorem dX0_settle_22 : decode cX0_settle 22 = .ok (.putfield 39, 3) := by decide +kernel
theorem dX0_settle_25 : decode cX0_settle 25 = .ok (.aload_n 0, 1) := by decide +kernel
theorem dX0_settle_26 : decode cX0_settle 26 = .ok (.iconst 0, 1) := by decide +kernel
theorem dX0_settle_27 : decode cX0_settle 27 = .ok (.putfield 55, 3) := by decide +kernel
theorem dX0_settle_30 : decode cX0_settle 30 = .ok (.aload_n 0, 1) := by decide +kernel
theorem dX0_settle_31 : decode cX0_settle 31 = .ok (.getfield 39, 3) := by decide +kernel
theorem dX0_settle_34 : decode cX0_settle 34 = .ok (.aload_n 0, 1) := by decide +kernel
theorem dX0_settle_35 : decode cX0_settle 35 = .ok (.getfield 35, 3) := by decide +kernel
theorem dX0_settle_38 : decode cX0_settle 38 = .ok (.invokestatic 76, 3) := by decide +kernel
theorem dX0_settle_41 : decode cX0_settle 41 = .ok (.ireturn, 1) := by decide +kernel
theorem dX0_majority_0 : decode cX0_majority 0 = .ok (.iload_n 1, 1) := by decide +kernel
theorem dX0_majority_1 : decode cX0_majority 1 = .ok (.invokestatic 42, 3) := by decide +kernel
theorem dX0_majority_4 : decode cX0_majority 4 = .ok (.aload_n 0, 1) := by decide +kernel
theorem dX0_majority_5 : decode cX0_majority 5 = .ok (.iload_n 1, 1) := by decide +kernel
theorem dX0_majority_6 : decode cX0_majority 6 = .ok (.invokevirtual 80, 3) := by decide +kernel
theorem dX0_majority_9 : decode cX0_majority 9 = .ok (.ireturn, 1) := by decide +kernel
theorem dX0_ballot_0 : decode cX0_ballot 0 = .ok (.aload_n 0, 1) := by decide +kernel
theorem dX0_ballot_1 : decode cX0_ballot 1 = .ok (.iconst 0, 1) := by decide +kernel
theorem dX0_ballot_2 : decode cX0_ballot 2 = .ok (.putfield 84, 3) := by decide +kernel
theorem dX0_ballot_5 : decode cX0_ballot 5 = .ok (.return_, 1) := by decide +kernel
theorem dX0_vote_0 : decode cX0_vote 0 = .ok (.iload_n 1, 1) := by decide +kernel
theorem dX0_vote_1 : decode cX0_vote 1 = .ok (.invokestatic 87, 3) := by decide +kernel
theorem dX0_vote_4 : decode cX0_vote 4 = .ok (.aload_n 0, 1) := by decide +kernel
theorem dX0_vote_5 : decode cX0_vote 5 = .ok (.aload_n 0, 1) := by decide +kernel
theorem dX0_vote_6 : decode cX0_vote 6 = .ok (.getfield 84, 3) := by decide +kernel
theorem dX0_vote_9 : decode cX0_vote 9 = .ok (.iconst 1, 1) := by decide +kernel
theorem dX0_vote_10 : decode cX0_vote 10 = .ok (.iload_n 1, 1) := by decide +kernel
theorem dX0_vote_11 : decode cX0_vote 11 = .ok (.ishl, 1) := by decide +kernel
theorem dX0_vote_12 : decode cX0_vote 12 = .ok (.ior, 1) := by decide +kernel
theorem dX0_vote_13 : decode cX0_vote 13 = .ok (.putfield 84, 3) := by decide +kernel
theorem dX0_vote_16 : decode cX0_vote 16 = .ok (.aload_n 0, 1) := by decide +kernel
theorem dX0_vote_17 : decode cX0_vote 17 = .ok (.aload_n 0, 1) := by decide +kernel
theorem dX0_vote_18 : decode cX0_vote 18 = .ok (.getfield 84, 3) := by decide +kernel
theorem dX0_vote_21 : decode cX0_vote 21 = .ok (.invokevirtual 80, 3) := by decide +kernel
theorem dX0_vote_24 : decode cX0_vote 24 = .ok (.ireturn, 1) := by decide +kernel
theorem dX0_lead_0 : decode cX0_lead 0 = .ok (.iload_n 1, 1) := by decide +kernel
theorem dX0_lead_1 : decode cX0_lead 1 = .ok (.invokestatic 90, 3) := by decide +kernel
theorem dX0_lead_4 : decode cX0_lead 4 = .ok (.iload_n 2, 1) := by decide +kernel
theorem dX0_lead_5 : decode cX0_lead 5 = .ok (.invokestatic 90, 3) := by decide +kernel
theorem dX0_lead_8 : decode cX0_lead 8 = .ok (.iconst 0, 1) := by decide +kernel
theorem dX0_lead_9 : decode cX0_lead 9 = .ok (.istore_n 3, 1) := by decide +kernel
theorem dX0_lead_10 : decode cX0_lead 10 = .ok (.iload_n 3, 1) := by decide +kernel
theorem dX0_lead_11 : decode cX0_lead 11 = .ok (.bipush 7, 2) := by decide +kernel
theorem dX0_lead_13 : decode cX0_lead 13 = .ok (.if_icmp .ge 67, 3) := by decide +kernel
theorem dX0_lead_16 : decode cX0_lead 16 = .ok (.aload_n 0, 1) := by decide +kernel
theorem dX0_lead_17 : decode cX0_lead 17 = .ok (.getfield 9, 3) := by decide +kernel
theorem dX0_lead_20 : decode cX0_lead 20 = .ok (.iload_n 3, 1) := by decide +kernel
theorem dX0_lead_21 : decode cX0_lead 21 = .ok (.iload_n 1, 1) := by decide +kernel
theorem dX0_lead_22 : decode cX0_lead 22 = .ok (.iconst 1, 1) := by decide +kernel
theorem dX0_lead_23 : decode cX0_lead 23 = .ok (.iadd, 1) := by decide +kernel
theorem dX0_lead_24 : decode cX0_lead 24 = .ok (.iastore, 1) := by decide +kernel
theorem dX0_lead_25 : decode cX0_lead 25 = .ok (.aload_n 0, 1) := by decide +kernel
theorem dX0_lead_26 : decode cX0_lead 26 = .ok (.getfield 13, 3) := by decide +kernel
theorem dX0_lead_29 : decode cX0_lead 29 = .ok (.iload_n 3, 1) := by decide +kernel
theorem dX0_lead_30 : decode cX0_lead 30 = .ok (.iconst 0, 1) := by decide +kernel
theorem dX0_lead_31 : decode cX0_lead 31 = .ok (.iastore, 1) := by decide +kernel
theorem dX0_lead_32 : decode cX0_lead 32 = .ok (.aload_n 0, 1) := by decide +kernel
theorem dX0_lead_33 : decode cX0_lead 33 = .ok (.getfield 16, 3) := by decide +kernel
theorem dX0_lead_36 : decode cX0_lead 36 = .ok (.iload_n 3, 1) := by decide +kernel
theorem dX0_lead_37 : decode cX0_lead 37 = .ok (.iconst 0, 1) := by decide +kernel
theorem dX0_lead_38 : decode cX0_lead 38 = .ok (.iastore, 1) := by decide +kernel
theorem dX0_lead_39 : decode cX0_lead 39 = .ok (.aload_n 0, 1) := by decide +kernel
theorem dX0_lead_40 : decode cX0_lead 40 = .ok (.getfield 19, 3) := by decide +kernel
theorem dX0_lead_43 : decode cX0_lead 43 = .ok (.iload_n 3, 1) := by decide +kernel
theorem dX0_lead_44 : decode cX0_lead 44 = .ok (.iconst 1, 1) := by decide +kernel
theorem dX0_lead_45 : decode cX0_lead 45 = .ok (.bastore, 1) := by decide +kernel
theorem dX0_lead_46 : decode cX0_lead 46 = .ok (.aload_n 0, 1) := by decide +kernel
theorem dX0_lead_47 : decode cX0_lead 47 = .ok (.getfield 23, 3) := by decide +kernel
theorem dX0_lead_50 : decode cX0_lead 50 = .ok (.iload_n 3, 1) := by decide +kernel
theorem dX0_lead_51 : decode cX0_lead 51 = .ok (.iconst 0, 1) := by decide +kernel
theorem dX0_lead_52 : decode cX0_lead 52 = .ok (.iastore, 1) := by decide +kernel
theorem dX0_lead_53 : decode cX0_lead 53 = .ok (.aload_n 0, 1) := by decide +kernel
theorem dX0_lead_54 : decode cX0_lead 54 = .ok (.getfield 26, 3) := by decide +kernel
theorem dX0_lead_57 : decode cX0_lead 57 = .ok (.iload_n 3, 1) := by decide +kernel
theorem dX0_lead_58 : decode cX0_lead 58 = .ok (.iconst 0, 1) := by decide +kernel
theorem dX0_lead_59 : decode cX0_lead 59 = .ok (.iastore, 1) := by decide +kernel
theorem dX0_lead_60 : decode cX0_lead 60 = .ok (.aload_n 0, 1) := by decide +kernel
theorem dX0_lead_61 : decode cX0_lead 61 = .ok (.getfield 29, 3) := by decide +kernel
theorem dX0_lead_64 : decode cX0_lead 64 = .ok (.iload_n 3, 1) := by decide +kernel
theorem dX0_lead_65 : decode cX0_lead 65 = .ok (.iload_n 2, 1) := by decide +kernel
theorem dX0_lead_66 : decode cX0_lead 66 = .ok (.iastore, 1) := by decide +kernel
theorem dX0_lead_67 : decode cX0_lead 67 = .ok (.aload_n 0, 1) := by decide +kernel
theorem dX0_lead_68 : decode cX0_lead 68 = .ok (.getfield 32, 3) := by decide +kernel
theorem dX0_lead_71 : decode cX0_lead 71 = .ok (.iload_n 3, 1) := by decide +kernel
theorem dX0_lead_72 : decode cX0_lead 72 = .ok (.iconst 0, 1) := by decide +kernel
theorem dX0_lead_73 : decode cX0_lead 73 = .ok (.bastore, 1) := by decide +kernel
theorem dX0_lead_74 : decode cX0_lead 74 = .ok (.iinc 3 1, 3) := by decide +kernel
theorem dX0_lead_77 : decode cX0_lead 77 = .ok (.goto (-67), 3) := by decide +kernel
theorem dX0_lead_80 : decode cX0_lead 80 = .ok (.aload_n 0, 1) := by decide +kernel
theorem dX0_lead_81 : decode cX0_lead 81 = .ok (.iconst 0, 1) := by decide +kernel
theorem dX0_lead_82 : decode cX0_lead 82 = .ok (.putfield 93, 3) := by decide +kernel
theorem dX0_lead_85 : decode cX0_lead 85 = .ok (.return_, 1) := by decide +kernel
theorem dX0_round_0 : decode cX0_round 0 = .ok (.aload_n 0, 1) := by decide +kernel
theorem dX0_round_1 : decode cX0_round 1 = .ok (.aload_n 0, 1) := by decide +kernel
theorem dX0_round_2 : decode cX0_round 2 = .ok (.getfield 93, 3) := by decide +kernel
theorem dX0_round_5 : decode cX0_round 5 = .ok (.iconst 1, 1) := by decide +kernel
theorem dX0_round_6 : decode cX0_round 6 = .ok (.iadd, 1) := by decide +kernel
theorem dX0_round_7 : decode cX0_round 7 = .ok (.putfield 93, 3) := by decide +kernel
theorem dX0_round_10 : decode cX0_round 10 = .ok (.aload_n 0, 1) := by decide +kernel
theorem dX0_round_11 : decode cX0_round 11 = .ok (.invokevirtual 96, 3) := by decide +kernel
theorem dX0_round_14 : decode cX0_round 14 = .ok (.istore_n 1, 1) := by decide +kernel
theorem dX0_round_15 : decode cX0_round 15 = .ok (.iconst 0, 1) := by decide +kernel
theorem dX0_round_16 : decode cX0_round 16 = .ok (.istore_n 2, 1) := by decide +kernel
theorem dX0_round_17 : decode cX0_round 17 = .ok (.iload_n 2, 1) := by decide +kernel
theorem dX0_round_18 : decode cX0_round 18 = .ok (.bipush 7, 2) := by decide +kernel
theorem dX0_round_20 : decode cX0_round 20 = .ok (.if_icmp .ge 70, 3) := by decide +kernel
theorem dX0_round_23 : decode cX0_round 23 = .ok (.iload_n 1, 1) := by decide +kernel
theorem dX0_round_24 : decode cX0_round 24 = .ok (.iload_n 2, 1) := by decide +kernel
theorem dX0_round_25 : decode cX0_round 25 = .ok (.invokestatic 76, 3) := by decide +kernel
theorem dX0_round_28 : decode cX0_round 28 = .ok (.ifCond .eq 49, 3) := by decide +kernel
theorem dX0_round_31 : decode cX0_round 31 = .ok (.aload_n 0, 1) := by decide +kernel
theorem dX0_round_32 : decode cX0_round 32 = .ok (.getfield 16, 3) := by decide +kernel
theorem dX0_round_35 : decode cX0_round 35 = .ok (.iload_n 2, 1) := by decide +kernel
theorem dX0_round_36 : decode cX0_round 36 = .ok (.iaload, 1) := by decide +kernel
theorem dX0_round_37 : decode cX0_round 37 = .ok (.ifCond .le 40, 3) := by decide +kernel
theorem dX0_round_40 : decode cX0_round 40 = .ok (.aload_n 0, 1) := by decide +kernel
theorem dX0_round_41 : decode cX0_round 41 = .ok (.getfield 32, 3) := by decide +kernel
theorem dX0_round_44 : decode cX0_round 44 = .ok (.iload_n 2, 1) := by decide +kernel
theorem dX0_round_45 : decode cX0_round 45 = .ok (.baload, 1) := by decide +kernel
theorem dX0_round_46 : decode cX0_round 46 = .ok (.ifCond .ne 31, 3) := by decide +kernel
theorem dX0_round_49 : decode cX0_round 49 = .ok (.aload_n 0, 1) := by decide +kernel
theorem dX0_round_50 : decode cX0_round 50 = .ok (.getfield 9, 3) := by decide +kernel
theorem dX0_round_53 : decode cX0_round 53 = .ok (.iload_n 2, 1) := by decide +kernel
theorem dX0_round_54 : decode cX0_round 54 = .ok (.aload_n 0, 1) := by decide +kernel
theorem dX0_round_55 : decode cX0_round 55 = .ok (.getfield 13, 3) := by decide +kernel
theorem dX0_round_58 : decode cX0_round 58 = .ok (.iload_n 2, 1) := by decide +kernel
theorem dX0_round_59 : decode cX0_round 59 = .ok (.iaload, 1) := by decide +kernel
theorem dX0_round_60 : decode cX0_round 60 = .ok (.iconst 1, 1) := by decide +kernel
theorem dX0_round_61 : decode cX0_round 61 = .ok (.iadd, 1) := by decide +kernel
theorem dX0_round_62 : decode cX0_round 62 = .ok (.iastore, 1) := by decide +kernel
theorem dX0_round_63 : decode cX0_round 63 = .ok (.aload_n 0, 1) := by decide +kernel
theorem dX0_round_64 : decode cX0_round 64 = .ok (.getfield 16, 3) := by decide +kernel
theorem dX0_round_67 : decode cX0_round 67 = .ok (.iload_n 2, 1) := by decide +kernel
theorem dX0_round_68 : decode cX0_round 68 = .ok (.iconst 0, 1) := by decide +kernel
theorem dX0_round_69 : decode cX0_round 69 = .ok (.iastore, 1) := by decide +kernel
theorem dX0_round_70 : decode cX0_round 70 = .ok (.aload_n 0, 1) := by decide +kernel
theorem dX0_round_71 : decode cX0_round 71 = .ok (.getfield 19, 3) := by decide +kernel
theorem dX0_round_74 : decode cX0_round 74 = .ok (.iload_n 2, 1) := by decide +kernel
theorem dX0_round_75 : decode cX0_round 75 = .ok (.iconst 1, 1) := by decide +kernel
theorem dX0_round_76 : decode cX0_round 76 = .ok (.bastore, 1) := by decide +kernel
theorem dX0_round_77 : decode cX0_round 77 = .ok (.aload_n 0, 1) := by decide +kernel
theorem dX0_round_78 : decode cX0_round 78 = .ok (.getfield 32, 3) := by decide +kernel
theorem dX0_round_81 : decode cX0_round 81 = .ok (.iload_n 2, 1) := by decide +kernel
theorem dX0_round_82 : decode cX0_round 82 = .ok (.iconst 0, 1) := by decide +kernel
theorem dX0_round_83 : decode cX0_round 83 = .ok (.bastore, 1) := by decide +kernel
theorem dX0_round_84 : decode cX0_round 84 = .ok (.iinc 2 1, 3) := by decide +kernel
theorem dX0_round_87 : decode cX0_round 87 = .ok (.goto (-70), 3) := by decide +kernel
theorem dX0_round_90 : decode cX0_round 90 = .ok (.aload_n 0, 1) := by decide +kernel
theorem dX0_round_91 : decode cX0_round 91 = .ok (.getfield 93, 3) := by decide +kernel
theorem dX0_round_94 : decode cX0_round 94 = .ok (.ireturn, 1) := by decide +kernel
theorem dX0_sending_0 : decode cX0_sending 0 = .ok (.aload_n 0, 1) := by decide +kernel
theorem dX0_sending_1 : decode cX0_sending 1 = .ok (.iload_n 1, 1) := by decide +kernel
theorem dX0_sending_2 : decode cX0_sending 2 = .ok (.invokevirtual 100, 3) := by decide +kernel
theorem dX0_sending_5 : decode cX0_sending 5 = .ok (.iload_n 2, 1) := by decide +kernel
theorem dX0_sending_6 : decode cX0_sending 6 = .ok (.invokestatic 90, 3) := by decide +kernel
theorem dX0_sending_9 : decode cX0_sending 9 = .ok (.iload_n 3, 1) := by decide +kernel
theorem dX0_sending_10 : decode cX0_sending 10 = .ok (.invokestatic 90, 3) := by decide +kernel
theorem dX0_sending_13 : decode cX0_sending 13 = .ok (.iload_n 3, 1) := by decide +kernel
theorem dX0_sending_14 : decode cX0_sending 14 = .ok (.iload_n 2, 1) := by decide +kernel
theorem dX0_sending_15 : decode cX0_sending 15 = .ok (.if_icmp .ge 13, 3) := by decide +kernel
theorem dX0_sending_18 : decode cX0_sending 18 = .ok (.new 46, 3) := by decide +kernel
theorem dX0_sending_21 : decode cX0_sending 21 = .ok (.dup, 1) := by decide +kernel
theorem dX0_sending_22 : decode cX0_sending 22 = .ok (.ldc 103, 2) := by decide +kernel
theorem dX0_sending_24 : decode cX0_sending 24 = .ok (.invokespecial 50, 3) := by decide +kernel
theorem dX0_sending_27 : decode cX0_sending 27 = .ok (.athrow, 1) := by decide +kernel
theorem dX0_sending_28 : decode cX0_sending 28 = .ok (.aload_n 0, 1) := by decide +kernel
theorem dX0_sending_29 : decode cX0_sending 29 = .ok (.getfield 9, 3) := by decide +kernel
theorem dX0_sending_32 : decode cX0_sending 32 = .ok (.iload_n 1, 1) := by decide +kernel
theorem dX0_sending_33 : decode cX0_sending 33 = .ok (.iaload, 1) := by decide +kernel
theorem dX0_sending_34 : decode cX0_sending 34 = .ok (.iload_n 2, 1) := by decide +kernel
theorem dX0_sending_35 : decode cX0_sending 35 = .ok (.if_icmp .gt 9, 3) := by decide +kernel
theorem dX0_sending_38 : decode cX0_sending 38 = .ok (.aload_n 0, 1) := by decide +kernel
theorem dX0_sending_39 : decode cX0_sending 39 = .ok (.iload_n 1, 1) := by decide +kernel
theorem dX0_sending_40 : decode cX0_sending 40 = .ok (.invokevirtual 105, 3) := by decide +kernel
theorem dX0_sending_43 : decode cX0_sending 43 = .ok (.ireturn, 1) := by decide +kernel
theorem dX0_sending_44 : decode cX0_sending 44 = .ok (.aload_n 0, 1) := by decide +kernel
theorem dX0_sending_45 : decode cX0_sending 45 = .ok (.getfield 9, 3) := by decide +kernel
theorem dX0_sending_48 : decode cX0_sending 48 = .ok (.iload_n 1, 1) := by decide +kernel
theorem dX0_sending_49 : decode cX0_sending 49 = .ok (.iaload, 1) := by decide +kernel
theorem dX0_sending_50 : decode cX0_sending 50 = .ok (.iload_n 3, 1) := by decide +kernel
theorem dX0_sending_51 : decode cX0_sending 51 = .ok (.if_icmp .gt 18, 3) := by decide +kernel
theorem dX0_sending_54 : decode cX0_sending 54 = .ok (.aload_n 0, 1) := by decide +kernel
theorem dX0_sending_55 : decode cX0_sending 55 = .ok (.iload_n 1, 1) := by decide +kernel
theorem dX0_sending_56 : decode cX0_sending 56 = .ok (.invokevirtual 108, 3) := by decide +kernel
theorem dX0_sending_59 : decode cX0_sending 59 = .ok (.ifCond .eq 10, 3) := by decide +kernel
theorem dX0_sending_62 : decode cX0_sending 62 = .ok (.aload_n 0, 1) := by decide +kernel
theorem dX0_sending_63 : decode cX0_sending 63 = .ok (.iload_n 1, 1) := by decide +kernel
theorem dX0_sending_64 : decode cX0_sending 64 = .ok (.iload_n 3, 1) := by decide +kernel
theorem dX0_sending_65 : decode cX0_sending 65 = .ok (.invokevirtual 111, 3) := by decide +kernel
theorem dX0_sending_68 : decode cX0_sending 68 = .ok (.ireturn, 1) := by decide +kernel
theorem dX0_sending_69 : decode cX0_sending 69 = .ok (.iload 4, 2) := by decide +kernel
theorem dX0_sending_71 : decode cX0_sending 71 = .ok (.ifCond .eq 8, 3) := by decide +kernel
theorem dX0_sending_74 : decode cX0_sending 74 = .ok (.bipush 7, 2) := by decide +kernel
theorem dX0_sending_76 : decode cX0_sending 76 = .ok (.goto 4, 3) := by decide +kernel
theorem dX0_sending_79 : decode cX0_sending 79 = .ok (.iconst 0, 1) := by decide +kernel
theorem dX0_sending_80 : decode cX0_sending 80 = .ok (.ireturn, 1) := by decide +kernel
theorem dX0_matched_0 : decode cX0_matched 0 = .ok (.iload_n 1, 1) := by decide +kernel
theorem dX0_matched_1 : decode cX0_matched 1 = .ok (.invokestatic 87, 3) := by decide +kernel
theorem dX0_matched_4 : decode cX0_matched 4 = .ok (.iload_n 2, 1) := by decide +kernel
theorem dX0_matched_5 : decode cX0_matched 5 = .ok (.invokestatic 90, 3) := by decide +kernel
theorem dX0_matched_8 : decode cX0_matched 8 = .ok (.iload_n 3, 1) := by decide +kernel
theorem dX0_matched_9 : decode cX0_matched 9 = .ok (.invokestatic 90, 3) := by decide +kernel
theorem dX0_matched_12 : decode cX0_matched 12 = .ok (.iload 4, 2) := by decide +kernel
theorem dX0_matched_14 : decode cX0_matched 14 = .ok (.invokestatic 90, 3) := by decide +kernel
theorem dX0_matched_17 : decode cX0_matched 17 = .ok (.aload_n 0, 1) := by decide +kernel
theorem dX0_matched_18 : decode cX0_matched 18 = .ok (.iload_n 1, 1) := by decide +kernel
theorem dX0_matched_19 : decode cX0_matched 19 = .ok (.iload_n 3, 1) := by decide +kernel
theorem dX0_matched_20 : decode cX0_matched 20 = .ok (.iload 4, 2) := by decide +kernel
theorem dX0_matched_22 : decode cX0_matched 22 = .ok (.invokevirtual 115, 3) := by decide +kernel
theorem dX0_matched_25 : decode cX0_matched 25 = .ok (.aload_n 0, 1) := by decide +kernel
theorem dX0_matched_26 : decode cX0_matched 26 = .ok (.getfield 13, 3) := by decide +kernel
theorem dX0_matched_29 : decode cX0_matched 29 = .ok (.iload_n 1, 1) := by decide +kernel
theorem dX0_matched_30 : decode cX0_matched 30 = .ok (.aload_n 0, 1) := by decide +kernel
theorem dX0_matched_31 : decode cX0_matched 31 = .ok (.getfield 13, 3) := by decide +kernel
theorem dX0_matched_34 : decode cX0_matched 34 = .ok (.iload_n 1, 1) := by decide +kernel
theorem dX0_matched_35 : decode cX0_matched 35 = .ok (.iaload, 1) := by decide +kernel
theorem dX0_matched_36 : decode cX0_matched 36 = .ok (.iload_n 2, 1) := by decide +kernel
theorem dX0_matched_37 : decode cX0_matched 37 = .ok (.invokestatic 119, 3) := by decide +kernel
theorem dX0_matched_40 : decode cX0_matched 40 = .ok (.iastore, 1) := by decide +kernel
theorem dX0_matched_41 : decode cX0_matched 41 = .ok (.aload_n 0, 1) := by decide +kernel
theorem dX0_matched_42 : decode cX0_matched 42 = .ok (.getfield 19, 3) := by decide +kernel
theorem dX0_matched_45 : decode cX0_matched 45 = .ok (.iload_n 1, 1) := by decide +kernel
theorem dX0_matched_46 : decode cX0_matched 46 = .ok (.iconst 0, 1) := by decide +kernel
theorem dX0_matched_47 : decode cX0_matched 47 = .ok (.bastore, 1) := by decide +kernel
theorem dX0_matched_48 : decode cX0_matched 48 = .ok (.aload_n 0, 1) := by decide +kernel
theorem dX0_matched_49 : decode cX0_matched 49 = .ok (.getfield 16, 3) := by decide +kernel
theorem dX0_matched_52 : decode cX0_matched 52 = .ok (.iload_n 1, 1) := by decide +kernel
theorem dX0_matched_53 : decode cX0_matched 53 = .ok (.aload_n 0, 1) := by decide +kernel
theorem dX0_matched_54 : decode cX0_matched 54 = .ok (.getfield 16, 3) := by decide +kernel
theorem dX0_matched_57 : decode cX0_matched 57 = .ok (.iload_n 1, 1) := by decide +kernel
theorem dX0_matched_58 : decode cX0_matched 58 = .ok (.iaload, 1) := by decide +kernel
theorem dX0_matched_59 : decode cX0_matched 59 = .ok (.iconst 1, 1) := by decide +kernel
theorem dX0_matched_60 : decode cX0_matched 60 = .ok (.isub, 1) := by decide +kernel
theorem dX0_matched_61 : decode cX0_matched 61 = .ok (.iconst 0, 1) := by decide +kernel
theorem dX0_matched_62 : decode cX0_matched 62 = .ok (.invokestatic 119, 3) := by decide +kernel
theorem dX0_matched_65 : decode cX0_matched 65 = .ok (.iastore, 1) := by decide +kernel
theorem dX0_matched_66 : decode cX0_matched 66 = .ok (.aload_n 0, 1) := by decide +kernel
theorem dX0_matched_67 : decode cX0_matched 67 = .ok (.getfield 9, 3) := by decide +kernel
theorem dX0_matched_70 : decode cX0_matched 70 = .ok (.iload_n 1, 1) := by decide +kernel
theorem dX0_matched_71 : decode cX0_matched 71 = .ok (.aload_n 0, 1) := by decide +kernel
theorem dX0_matched_72 : decode cX0_matched 72 = .ok (.getfield 9, 3) := by decide +kernel
theorem dX0_matched_75 : decode cX0_matched 75 = .ok (.iload_n 1, 1) := by decide +kernel
theorem dX0_matched_76 : decode cX0_matched 76 = .ok (.iaload, 1) := by decide +kernel
theorem dX0_matched_77 : decode cX0_matched 77 = .ok (.iload_n 2, 1) := by decide +kernel
theorem dX0_matched_78 : decode cX0_matched 78 = .ok (.iconst 1, 1) := by decide +kernel
theorem dX0_matched_79 : decode cX0_matched 79 = .ok (.iadd, 1) := by decide +kernel
theorem dX0_matched_80 : decode cX0_matched 80 = .ok (.invokestatic 119, 3) := by decide +kernel
theorem dX0_matched_83 : decode cX0_matched 83 = .ok (.iastore, 1) := by decide +kernel
theorem dX0_matched_84 : decode cX0_matched 84 = .ok (.aload_n 0, 1) := by decide +kernel
theorem dX0_matched_85 : decode cX0_matched 85 = .ok (.getfield 13, 3) := by decide +kernel
theorem dX0_matched_88 : decode cX0_matched 88 = .ok (.iload_n 1, 1) := by decide +kernel
theorem dX0_matched_89 : decode cX0_matched 89 = .ok (.iaload, 1) := by decide +kernel
theorem dX0_matched_90 : decode cX0_matched 90 = .ok (.ireturn, 1) := by decide +kernel
theorem dX0_refused_0 : decode cX0_refused 0 = .ok (.iload_n 1, 1) := by decide +kernel
theorem dX0_refused_1 : decode cX0_refused 1 = .ok (.invokestatic 87, 3) := by decide +kernel
theorem dX0_refused_4 : decode cX0_refused 4 = .ok (.iload_n 2, 1) := by decide +kernel
theorem dX0_refused_5 : decode cX0_refused 5 = .ok (.invokestatic 90, 3) := by decide +kernel
theorem dX0_refused_8 : decode cX0_refused 8 = .ok (.iload_n 3, 1) := by decide +kernel
theorem dX0_refused_9 : decode cX0_refused 9 = .ok (.invokestatic 90, 3) := by decide +kernel
theorem dX0_refused_12 : decode cX0_refused 12 = .ok (.iload 4, 2) := by decide +kernel
theorem dX0_refused_14 : decode cX0_refused 14 = .ok (.invokestatic 90, 3) := by decide +kernel
theorem dX0_refused_17 : decode cX0_refused 17 = .ok (.iload 5, 2) := by decide +kernel
theorem dX0_refused_19 : decode cX0_refused 19 = .ok (.invokestatic 90, 3) := by decide +kernel
theorem dX0_refused_22 : decode cX0_refused 22 = .ok (.aload_n 0, 1) := by decide +kernel
theorem dX0_refused_23 : decode cX0_refused 23 = .ok (.iload_n 1, 1) := by decide +kernel
theorem dX0_refused_24 : decode cX0_refused 24 = .ok (.iload 4, 2) := by decide +kernel
theorem dX0_refused_26 : decode cX0_refused 26 = .ok (.iload 5, 2) := by decide +kernel
theorem dX0_refused_28 : decode cX0_refused 28 = .ok (.invokevirtual 115, 3) := by decide +kernel
theorem dX0_refused_31 : decode cX0_refused 31 = .ok (.aload_n 0, 1) := by decide +kernel
theorem dX0_refused_32 : decode cX0_refused 32 = .ok (.getfield 16, 3) := by decide +kernel
theorem dX0_refused_35 : decode cX0_refused 35 = .ok (.iload_n 1, 1) := by decide +kernel
theorem dX0_refused_36 : decode cX0_refused 36 = .ok (.iconst 0, 1) := by decide +kernel
theorem dX0_refused_37 : decode cX0_refused 37 = .ok (.iastore, 1) := by decide +kernel
theorem dX0_refused_38 : decode cX0_refused 38 = .ok (.aload_n 0, 1) := by decide +kernel
theorem dX0_refused_39 : decode cX0_refused 39 = .ok (.getfield 19, 3) := by decide +kernel
theorem dX0_refused_42 : decode cX0_refused 42 = .ok (.iload_n 1, 1) := by decide +kernel
theorem dX0_refused_43 : decode cX0_refused 43 = .ok (.iconst 1, 1) := by decide +kernel
theorem dX0_refused_44 : decode cX0_refused 44 = .ok (.bastore, 1) := by decide +kernel
theorem dX0_refused_45 : decode cX0_refused 45 = .ok (.aload_n 0, 1) := by decide +kernel
theorem dX0_refused_46 : decode cX0_refused 46 = .ok (.getfield 9, 3) := by decide +kernel
theorem dX0_refused_49 : decode cX0_refused 49 = .ok (.iload_n 1, 1) := by decide +kernel
theorem dX0_refused_50 : decode cX0_refused 50 = .ok (.iload_n 2, 1) := by decide +kernel
theorem dX0_refused_51 : decode cX0_refused 51 = .ok (.aload_n 0, 1) := by decide +kernel
theorem dX0_refused_52 : decode cX0_refused 52 = .ok (.getfield 13, 3) := by decide +kernel
theorem dX0_refused_55 : decode cX0_refused 55 = .ok (.iload_n 1, 1) := by decide +kernel
theorem dX0_refused_56 : decode cX0_refused 56 = .ok (.iaload, 1) := by decide +kernel
theorem dX0_refused_57 : decode cX0_refused 57 = .ok (.iconst 1, 1) := by decide +kernel
theorem dX0_refused_58 : decode cX0_refused 58 = .ok (.iadd, 1) := by decide +kernel
theorem dX0_refused_59 : decode cX0_refused 59 = .ok (.invokestatic 119, 3) := by decide +kernel
theorem dX0_refused_62 : decode cX0_refused 62 = .ok (.iload_n 3, 1) := by decide +kernel
theorem dX0_refused_63 : decode cX0_refused 63 = .ok (.iconst 1, 1) := by decide +kernel
theorem dX0_refused_64 : decode cX0_refused 64 = .ok (.iadd, 1) := by decide +kernel
theorem dX0_refused_65 : decode cX0_refused 65 = .ok (.invokestatic 124, 3) := by decide +kernel
theorem dX0_refused_68 : decode cX0_refused 68 = .ok (.iastore, 1) := by decide +kernel
theorem dX0_refused_69 : decode cX0_refused 69 = .ok (.aload_n 0, 1) := by decide +kernel
theorem dX0_refused_70 : decode cX0_refused 70 = .ok (.getfield 9, 3) := by decide +kernel
theorem dX0_refused_73 : decode cX0_refused 73 = .ok (.iload_n 1, 1) := by decide +kernel
theorem dX0_refused_74 : decode cX0_refused 74 = .ok (.iaload, 1) := by decide +kernel
theorem dX0_refused_75 : decode cX0_refused 75 = .ok (.ireturn, 1) := by decide +kernel
theorem dX0_stored_0 : decode cX0_stored 0 = .ok (.iload_n 1, 1) := by decide +kernel
theorem dX0_stored_1 : decode cX0_stored 1 = .ok (.invokestatic 87, 3) := by decide +kernel
theorem dX0_stored_4 : decode cX0_stored 4 = .ok (.iload_n 2, 1) := by decide +kernel
end
section
theorem dX0_stored_5 : decode cX0_stored 5 = .ok (.invokestatic 90, 3) := by decide +kernel
theorem dX0_stored_8 : decode cX0_stored 8 = .ok (.iload_n 3, 1) := by decide +kernel
theorem dX0_stored_9 : decode cX0_stored 9 = .ok (.invokestatic 90, 3) := by decide +kernel
theorem dX0_stored_12 : decode cX0_stored 12 = .ok (.iload 4, 2) := by decide +kernel
theorem dX0_stored_14 : decode cX0_stored 14 = .ok (.invokestatic 90, 3) := by decide +kernel
theorem dX0_stored_17 : decode cX0_stored 17 = .ok (.iload 5, 2) := by decide +kernel
theorem dX0_stored_19 : decode cX0_stored 19 = .ok (.invokestatic 90, 3) := by decide +kernel
theorem dX0_stored_22 : decode cX0_stored 22 = .ok (.iload 6, 2) := by decide +kernel
theorem dX0_stored_24 : decode cX0_stored 24 = .ok (.invokestatic 90, 3) := by decide +kernel
theorem dX0_stored_27 : decode cX0_stored 27 = .ok (.aload_n 0, 1) := by decide +kernel
theorem dX0_stored_28 : decode cX0_stored 28 = .ok (.iload_n 1, 1) := by decide +kernel
theorem dX0_stored_29 : decode cX0_stored 29 = .ok (.iload 5, 2) := by decide +kernel
theorem dX0_stored_31 : decode cX0_stored 31 = .ok (.iload 6, 2) := by decide +kernel
theorem dX0_stored_33 : decode cX0_stored 33 = .ok (.invokevirtual 115, 3) := by decide +kernel
theorem dX0_stored_36 : decode cX0_stored 36 = .ok (.aload_n 0, 1) := by decide +kernel
theorem dX0_stored_37 : decode cX0_stored 37 = .ok (.getfield 16, 3) := by decide +kernel
theorem dX0_stored_40 : decode cX0_stored 40 = .ok (.iload_n 1, 1) := by decide +kernel
theorem dX0_stored_41 : decode cX0_stored 41 = .ok (.iconst 0, 1) := by decide +kernel
theorem dX0_stored_42 : decode cX0_stored 42 = .ok (.iastore, 1) := by decide +kernel
theorem dX0_stored_43 : decode cX0_stored 43 = .ok (.iload_n 2, 1) := by decide +kernel
theorem dX0_stored_44 : decode cX0_stored 44 = .ok (.iload_n 3, 1) := by decide +kernel
theorem dX0_stored_45 : decode cX0_stored 45 = .ok (.if_icmp .ge 12, 3) := by decide +kernel
theorem dX0_stored_48 : decode cX0_stored 48 = .ok (.aload_n 0, 1) := by decide +kernel
theorem dX0_stored_49 : decode cX0_stored 49 = .ok (.getfield 23, 3) := by decide +kernel
theorem dX0_stored_52 : decode cX0_stored 52 = .ok (.iload_n 1, 1) := by decide +kernel
theorem dX0_stored_53 : decode cX0_stored 53 = .ok (.iload_n 2, 1) := by decide +kernel
theorem dX0_stored_54 : decode cX0_stored 54 = .ok (.iastore, 1) := by decide +kernel
theorem dX0_stored_55 : decode cX0_stored 55 = .ok (.iconst 0, 1) := by decide +kernel
theorem dX0_stored_56 : decode cX0_stored 56 = .ok (.ireturn, 1) := by decide +kernel
theorem dX0_stored_57 : decode cX0_stored 57 = .ok (.aload_n 0, 1) := by decide +kernel
theorem dX0_stored_58 : decode cX0_stored 58 = .ok (.getfield 13, 3) := by decide +kernel
theorem dX0_stored_61 : decode cX0_stored 61 = .ok (.iload_n 1, 1) := by decide +kernel
theorem dX0_stored_62 : decode cX0_stored 62 = .ok (.aload_n 0, 1) := by decide +kernel
theorem dX0_stored_63 : decode cX0_stored 63 = .ok (.getfield 13, 3) := by decide +kernel
theorem dX0_stored_66 : decode cX0_stored 66 = .ok (.iload_n 1, 1) := by decide +kernel
theorem dX0_stored_67 : decode cX0_stored 67 = .ok (.iaload, 1) := by decide +kernel
theorem dX0_stored_68 : decode cX0_stored 68 = .ok (.iload 4, 2) := by decide +kernel
theorem dX0_stored_70 : decode cX0_stored 70 = .ok (.invokestatic 119, 3) := by decide +kernel
theorem dX0_stored_73 : decode cX0_stored 73 = .ok (.iastore, 1) := by decide +kernel
theorem dX0_stored_74 : decode cX0_stored 74 = .ok (.aload_n 0, 1) := by decide +kernel
theorem dX0_stored_75 : decode cX0_stored 75 = .ok (.getfield 9, 3) := by decide +kernel
theorem dX0_stored_78 : decode cX0_stored 78 = .ok (.iload_n 1, 1) := by decide +kernel
theorem dX0_stored_79 : decode cX0_stored 79 = .ok (.iload 4, 2) := by decide +kernel
theorem dX0_stored_81 : decode cX0_stored 81 = .ok (.iconst 1, 1) := by decide +kernel
theorem dX0_stored_82 : decode cX0_stored 82 = .ok (.iadd, 1) := by decide +kernel
theorem dX0_stored_83 : decode cX0_stored 83 = .ok (.iastore, 1) := by decide +kernel
theorem dX0_stored_84 : decode cX0_stored 84 = .ok (.aload_n 0, 1) := by decide +kernel
theorem dX0_stored_85 : decode cX0_stored 85 = .ok (.getfield 19, 3) := by decide +kernel
theorem dX0_stored_88 : decode cX0_stored 88 = .ok (.iload_n 1, 1) := by decide +kernel
theorem dX0_stored_89 : decode cX0_stored 89 = .ok (.iconst 1, 1) := by decide +kernel
theorem dX0_stored_90 : decode cX0_stored 90 = .ok (.bastore, 1) := by decide +kernel
theorem dX0_stored_91 : decode cX0_stored 91 = .ok (.aload_n 0, 1) := by decide +kernel
theorem dX0_stored_92 : decode cX0_stored 92 = .ok (.getfield 23, 3) := by decide +kernel
theorem dX0_stored_95 : decode cX0_stored 95 = .ok (.iload_n 1, 1) := by decide +kernel
theorem dX0_stored_96 : decode cX0_stored 96 = .ok (.iconst 0, 1) := by decide +kernel
theorem dX0_stored_97 : decode cX0_stored 97 = .ok (.iastore, 1) := by decide +kernel
theorem dX0_stored_98 : decode cX0_stored 98 = .ok (.iconst 1, 1) := by decide +kernel
theorem dX0_stored_99 : decode cX0_stored 99 = .ok (.ireturn, 1) := by decide +kernel
theorem dX0_own_0 : decode cX0_own 0 = .ok (.iload_n 1, 1) := by decide +kernel
theorem dX0_own_1 : decode cX0_own 1 = .ok (.invokestatic 90, 3) := by decide +kernel
theorem dX0_own_4 : decode cX0_own 4 = .ok (.iload_n 2, 1) := by decide +kernel
theorem dX0_own_5 : decode cX0_own 5 = .ok (.invokestatic 90, 3) := by decide +kernel
theorem dX0_own_8 : decode cX0_own 8 = .ok (.aload_n 0, 1) := by decide +kernel
theorem dX0_own_9 : decode cX0_own 9 = .ok (.getfield 13, 3) := by decide +kernel
theorem dX0_own_12 : decode cX0_own 12 = .ok (.aload_n 0, 1) := by decide +kernel
theorem dX0_own_13 : decode cX0_own 13 = .ok (.getfield 35, 3) := by decide +kernel
theorem dX0_own_16 : decode cX0_own 16 = .ok (.iload_n 1, 1) := by decide +kernel
theorem dX0_own_17 : decode cX0_own 17 = .ok (.iastore, 1) := by decide +kernel
theorem dX0_own_18 : decode cX0_own 18 = .ok (.aload_n 0, 1) := by decide +kernel
theorem dX0_own_19 : decode cX0_own 19 = .ok (.getfield 29, 3) := by decide +kernel
theorem dX0_own_22 : decode cX0_own 22 = .ok (.aload_n 0, 1) := by decide +kernel
theorem dX0_own_23 : decode cX0_own 23 = .ok (.getfield 35, 3) := by decide +kernel
theorem dX0_own_26 : decode cX0_own 26 = .ok (.iload_n 2, 1) := by decide +kernel
theorem dX0_own_27 : decode cX0_own 27 = .ok (.iastore, 1) := by decide +kernel
theorem dX0_own_28 : decode cX0_own 28 = .ok (.aload_n 0, 1) := by decide +kernel
theorem dX0_own_29 : decode cX0_own 29 = .ok (.getfield 26, 3) := by decide +kernel
theorem dX0_own_32 : decode cX0_own 32 = .ok (.aload_n 0, 1) := by decide +kernel
theorem dX0_own_33 : decode cX0_own 33 = .ok (.getfield 35, 3) := by decide +kernel
theorem dX0_own_36 : decode cX0_own 36 = .ok (.aload_n 0, 1) := by decide +kernel
theorem dX0_own_37 : decode cX0_own 37 = .ok (.getfield 93, 3) := by decide +kernel
theorem dX0_own_40 : decode cX0_own 40 = .ok (.iastore, 1) := by decide +kernel
theorem dX0_own_41 : decode cX0_own 41 = .ok (.return_, 1) := by decide +kernel
theorem dX0_agreed_0 : decode cX0_agreed 0 = .ok (.iload_n 1, 1) := by decide +kernel
theorem dX0_agreed_1 : decode cX0_agreed 1 = .ok (.tableswitch 54 0 2 #[27, 36, 45], 27) := by decide +kernel
theorem dX0_agreed_28 : decode cX0_agreed 28 = .ok (.aload_n 0, 1) := by decide +kernel
theorem dX0_agreed_29 : decode cX0_agreed 29 = .ok (.aload_n 0, 1) := by decide +kernel
theorem dX0_agreed_30 : decode cX0_agreed 30 = .ok (.getfield 13, 3) := by decide +kernel
theorem dX0_agreed_33 : decode cX0_agreed 33 = .ok (.invokevirtual 127, 3) := by decide +kernel
theorem dX0_agreed_36 : decode cX0_agreed 36 = .ok (.ireturn, 1) := by decide +kernel
theorem dX0_agreed_37 : decode cX0_agreed 37 = .ok (.aload_n 0, 1) := by decide +kernel
theorem dX0_agreed_38 : decode cX0_agreed 38 = .ok (.aload_n 0, 1) := by decide +kernel
theorem dX0_agreed_39 : decode cX0_agreed 39 = .ok (.getfield 26, 3) := by decide +kernel
theorem dX0_agreed_42 : decode cX0_agreed 42 = .ok (.invokevirtual 127, 3) := by decide +kernel
theorem dX0_agreed_45 : decode cX0_agreed 45 = .ok (.ireturn, 1) := by decide +kernel
theorem dX0_agreed_46 : decode cX0_agreed 46 = .ok (.aload_n 0, 1) := by decide +kernel
theorem dX0_agreed_47 : decode cX0_agreed 47 = .ok (.aload_n 0, 1) := by decide +kernel
theorem dX0_agreed_48 : decode cX0_agreed 48 = .ok (.getfield 29, 3) := by decide +kernel
theorem dX0_agreed_51 : decode cX0_agreed 51 = .ok (.invokevirtual 127, 3) := by decide +kernel
theorem dX0_agreed_54 : decode cX0_agreed 54 = .ok (.ireturn, 1) := by decide +kernel
theorem dX0_agreed_55 : decode cX0_agreed 55 = .ok (.new 46, 3) := by decide +kernel
theorem dX0_agreed_58 : decode cX0_agreed 58 = .ok (.dup, 1) := by decide +kernel
theorem dX0_agreed_59 : decode cX0_agreed 59 = .ok (.ldc 131, 2) := by decide +kernel
theorem dX0_agreed_61 : decode cX0_agreed 61 = .ok (.invokespecial 50, 3) := by decide +kernel
theorem dX0_agreed_64 : decode cX0_agreed 64 = .ok (.athrow, 1) := by decide +kernel
theorem dX0_server_0 : decode cX0_server 0 = .ok (.iload_n 1, 1) := by decide +kernel
theorem dX0_server_1 : decode cX0_server 1 = .ok (.invokestatic 87, 3) := by decide +kernel
theorem dX0_server_4 : decode cX0_server 4 = .ok (.iload_n 2, 1) := by decide +kernel
theorem dX0_server_5 : decode cX0_server 5 = .ok (.tableswitch 119 0 7 #[47, 54, 61, 68, 83, 90, 97, 104], 47) := by decide +kernel
theorem dX0_server_52 : decode cX0_server 52 = .ok (.aload_n 0, 1) := by decide +kernel
theorem dX0_server_53 : decode cX0_server 53 = .ok (.getfield 9, 3) := by decide +kernel
theorem dX0_server_56 : decode cX0_server 56 = .ok (.iload_n 1, 1) := by decide +kernel
theorem dX0_server_57 : decode cX0_server 57 = .ok (.iaload, 1) := by decide +kernel
theorem dX0_server_58 : decode cX0_server 58 = .ok (.ireturn, 1) := by decide +kernel
theorem dX0_server_59 : decode cX0_server 59 = .ok (.aload_n 0, 1) := by decide +kernel
theorem dX0_server_60 : decode cX0_server 60 = .ok (.getfield 13, 3) := by decide +kernel
theorem dX0_server_63 : decode cX0_server 63 = .ok (.iload_n 1, 1) := by decide +kernel
theorem dX0_server_64 : decode cX0_server 64 = .ok (.iaload, 1) := by decide +kernel
theorem dX0_server_65 : decode cX0_server 65 = .ok (.ireturn, 1) := by decide +kernel
theorem dX0_server_66 : decode cX0_server 66 = .ok (.aload_n 0, 1) := by decide +kernel
theorem dX0_server_67 : decode cX0_server 67 = .ok (.getfield 16, 3) := by decide +kernel
theorem dX0_server_70 : decode cX0_server 70 = .ok (.iload_n 1, 1) := by decide +kernel
theorem dX0_server_71 : decode cX0_server 71 = .ok (.iaload, 1) := by decide +kernel
theorem dX0_server_72 : decode cX0_server 72 = .ok (.ireturn, 1) := by decide +kernel
theorem dX0_server_73 : decode cX0_server 73 = .ok (.aload_n 0, 1) := by decide +kernel
theorem dX0_server_74 : decode cX0_server 74 = .ok (.getfield 19, 3) := by decide +kernel
theorem dX0_server_77 : decode cX0_server 77 = .ok (.iload_n 1, 1) := by decide +kernel
theorem dX0_server_78 : decode cX0_server 78 = .ok (.baload, 1) := by decide +kernel
theorem dX0_server_79 : decode cX0_server 79 = .ok (.ifCond .eq 7, 3) := by decide +kernel
theorem dX0_server_82 : decode cX0_server 82 = .ok (.iconst 1, 1) := by decide +kernel
theorem dX0_server_83 : decode cX0_server 83 = .ok (.goto 4, 3) := by decide +kernel
theorem dX0_server_86 : decode cX0_server 86 = .ok (.iconst 0, 1) := by decide +kernel
theorem dX0_server_87 : decode cX0_server 87 = .ok (.ireturn, 1) := by decide +kernel
theorem dX0_server_88 : decode cX0_server 88 = .ok (.aload_n 0, 1) := by decide +kernel
theorem dX0_server_89 : decode cX0_server 89 = .ok (.getfield 23, 3) := by decide +kernel
theorem dX0_server_92 : decode cX0_server 92 = .ok (.iload_n 1, 1) := by decide +kernel
theorem dX0_server_93 : decode cX0_server 93 = .ok (.iaload, 1) := by decide +kernel
theorem dX0_server_94 : decode cX0_server 94 = .ok (.ireturn, 1) := by decide +kernel
theorem dX0_server_95 : decode cX0_server 95 = .ok (.aload_n 0, 1) := by decide +kernel
theorem dX0_server_96 : decode cX0_server 96 = .ok (.getfield 26, 3) := by decide +kernel
theorem dX0_server_99 : decode cX0_server 99 = .ok (.iload_n 1, 1) := by decide +kernel
theorem dX0_server_100 : decode cX0_server 100 = .ok (.iaload, 1) := by decide +kernel
theorem dX0_server_101 : decode cX0_server 101 = .ok (.ireturn, 1) := by decide +kernel
theorem dX0_server_102 : decode cX0_server 102 = .ok (.aload_n 0, 1) := by decide +kernel
theorem dX0_server_103 : decode cX0_server 103 = .ok (.getfield 29, 3) := by decide +kernel
theorem dX0_server_106 : decode cX0_server 106 = .ok (.iload_n 1, 1) := by decide +kernel
theorem dX0_server_107 : decode cX0_server 107 = .ok (.iaload, 1) := by decide +kernel
theorem dX0_server_108 : decode cX0_server 108 = .ok (.ireturn, 1) := by decide +kernel
theorem dX0_server_109 : decode cX0_server 109 = .ok (.aload_n 0, 1) := by decide +kernel
theorem dX0_server_110 : decode cX0_server 110 = .ok (.getfield 32, 3) := by decide +kernel
theorem dX0_server_113 : decode cX0_server 113 = .ok (.iload_n 1, 1) := by decide +kernel
theorem dX0_server_114 : decode cX0_server 114 = .ok (.baload, 1) := by decide +kernel
theorem dX0_server_115 : decode cX0_server 115 = .ok (.ifCond .eq 7, 3) := by decide +kernel
theorem dX0_server_118 : decode cX0_server 118 = .ok (.iconst 1, 1) := by decide +kernel
theorem dX0_server_119 : decode cX0_server 119 = .ok (.goto 4, 3) := by decide +kernel
theorem dX0_server_122 : decode cX0_server 122 = .ok (.iconst 0, 1) := by decide +kernel
theorem dX0_server_123 : decode cX0_server 123 = .ok (.ireturn, 1) := by decide +kernel
theorem dX0_server_124 : decode cX0_server 124 = .ok (.new 133, 3) := by decide +kernel
theorem dX0_server_127 : decode cX0_server 127 = .ok (.dup, 1) := by decide +kernel
theorem dX0_server_128 : decode cX0_server 128 = .ok (.ldc 135, 2) := by decide +kernel
theorem dX0_server_130 : decode cX0_server 130 = .ok (.invokespecial 137, 3) := by decide +kernel
theorem dX0_server_133 : decode cX0_server 133 = .ok (.athrow, 1) := by decide +kernel
theorem dX0_council_0 : decode cX0_council 0 = .ok (.iload_n 1, 1) := by decide +kernel
theorem dX0_council_1 : decode cX0_council 1 = .ok (.tableswitch 87 0 7 #[47, 52, 57, 62, 67, 72, 77, 82], 47) := by decide +kernel
theorem dX0_council_48 : decode cX0_council 48 = .ok (.aload_n 0, 1) := by decide +kernel
theorem dX0_council_49 : decode cX0_council 49 = .ok (.getfield 39, 3) := by decide +kernel
theorem dX0_council_52 : decode cX0_council 52 = .ok (.ireturn, 1) := by decide +kernel
theorem dX0_council_53 : decode cX0_council 53 = .ok (.aload_n 0, 1) := by decide +kernel
theorem dX0_council_54 : decode cX0_council 54 = .ok (.getfield 55, 3) := by decide +kernel
theorem dX0_council_57 : decode cX0_council 57 = .ok (.ireturn, 1) := by decide +kernel
theorem dX0_council_58 : decode cX0_council 58 = .ok (.aload_n 0, 1) := by decide +kernel
theorem dX0_council_59 : decode cX0_council 59 = .ok (.getfield 58, 3) := by decide +kernel
theorem dX0_council_62 : decode cX0_council 62 = .ok (.ireturn, 1) := by decide +kernel
theorem dX0_council_63 : decode cX0_council 63 = .ok (.aload_n 0, 1) := by decide +kernel
theorem dX0_council_64 : decode cX0_council 64 = .ok (.invokevirtual 138, 3) := by decide +kernel
theorem dX0_council_67 : decode cX0_council 67 = .ok (.ireturn, 1) := by decide +kernel
theorem dX0_council_68 : decode cX0_council 68 = .ok (.aload_n 0, 1) := by decide +kernel
theorem dX0_council_69 : decode cX0_council 69 = .ok (.invokevirtual 96, 3) := by decide +kernel
theorem dX0_council_72 : decode cX0_council 72 = .ok (.ireturn, 1) := by decide +kernel
theorem dX0_council_73 : decode cX0_council 73 = .ok (.aload_n 0, 1) := by decide +kernel
theorem dX0_council_74 : decode cX0_council 74 = .ok (.getfield 84, 3) := by decide +kernel
theorem dX0_council_77 : decode cX0_council 77 = .ok (.ireturn, 1) := by decide +kernel
theorem dX0_council_78 : decode cX0_council 78 = .ok (.aload_n 0, 1) := by decide +kernel
theorem dX0_council_79 : decode cX0_council 79 = .ok (.getfield 93, 3) := by decide +kernel
theorem dX0_council_82 : decode cX0_council 82 = .ok (.ireturn, 1) := by decide +kernel
theorem dX0_council_83 : decode cX0_council 83 = .ok (.aload_n 0, 1) := by decide +kernel
theorem dX0_council_84 : decode cX0_council 84 = .ok (.getfield 35, 3) := by decide +kernel
theorem dX0_council_87 : decode cX0_council 87 = .ok (.ireturn, 1) := by decide +kernel
theorem dX0_council_88 : decode cX0_council 88 = .ok (.iconst (-1), 1) := by decide +kernel
theorem dX0_council_89 : decode cX0_council 89 = .ok (.ireturn, 1) := by decide +kernel
theorem dX0_requireSet_0 : decode cX0_requireSet 0 = .ok (.iload_n 0, 1) := by decide +kernel
theorem dX0_requireSet_1 : decode cX0_requireSet 1 = .ok (.ifCond .lt 9, 3) := by decide +kernel
theorem dX0_requireSet_4 : decode cX0_requireSet 4 = .ok (.iload_n 0, 1) := by decide +kernel
theorem dX0_requireSet_5 : decode cX0_requireSet 5 = .ok (.bipush 127, 2) := by decide +kernel
theorem dX0_requireSet_7 : decode cX0_requireSet 7 = .ok (.if_icmp .le 13, 3) := by decide +kernel
theorem dX0_requireSet_10 : decode cX0_requireSet 10 = .ok (.new 46, 3) := by decide +kernel
theorem dX0_requireSet_13 : decode cX0_requireSet 13 = .ok (.dup, 1) := by decide +kernel
theorem dX0_requireSet_14 : decode cX0_requireSet 14 = .ok (.ldc 141, 2) := by decide +kernel
theorem dX0_requireSet_16 : decode cX0_requireSet 16 = .ok (.invokespecial 50, 3) := by decide +kernel
theorem dX0_requireSet_19 : decode cX0_requireSet 19 = .ok (.athrow, 1) := by decide +kernel
theorem dX0_requireSet_20 : decode cX0_requireSet 20 = .ok (.return_, 1) := by decide +kernel
theorem dX0_requireNumber_0 : decode cX0_requireNumber 0 = .ok (.iload_n 0, 1) := by decide +kernel
theorem dX0_requireNumber_1 : decode cX0_requireNumber 1 = .ok (.ifCond .lt 9, 3) := by decide +kernel
theorem dX0_requireNumber_4 : decode cX0_requireNumber 4 = .ok (.iload_n 0, 1) := by decide +kernel
theorem dX0_requireNumber_5 : decode cX0_requireNumber 5 = .ok (.ldc 143, 2) := by decide +kernel
theorem dX0_requireNumber_7 : decode cX0_requireNumber 7 = .ok (.if_icmp .le 13, 3) := by decide +kernel
theorem dX0_requireNumber_10 : decode cX0_requireNumber 10 = .ok (.new 46, 3) := by decide +kernel
theorem dX0_requireNumber_13 : decode cX0_requireNumber 13 = .ok (.dup, 1) := by decide +kernel
theorem dX0_requireNumber_14 : decode cX0_requireNumber 14 = .ok (.ldc 144, 2) := by decide +kernel
theorem dX0_requireNumber_16 : decode cX0_requireNumber 16 = .ok (.invokespecial 50, 3) := by decide +kernel
theorem dX0_requireNumber_19 : decode cX0_requireNumber 19 = .ok (.athrow, 1) := by decide +kernel
theorem dX0_requireNumber_20 : decode cX0_requireNumber 20 = .ok (.return_, 1) := by decide +kernel
theorem dX0_requireServer_0 : decode cX0_requireServer 0 = .ok (.iload_n 0, 1) := by decide +kernel
theorem dX0_requireServer_1 : decode cX0_requireServer 1 = .ok (.ifCond .lt 9, 3) := by decide +kernel
theorem dX0_requireServer_4 : decode cX0_requireServer 4 = .ok (.iload_n 0, 1) := by decide +kernel
theorem dX0_requireServer_5 : decode cX0_requireServer 5 = .ok (.bipush 7, 2) := by decide +kernel
theorem dX0_requireServer_7 : decode cX0_requireServer 7 = .ok (.if_icmp .lt 13, 3) := by decide +kernel
theorem dX0_requireServer_10 : decode cX0_requireServer 10 = .ok (.new 133, 3) := by decide +kernel
theorem dX0_requireServer_13 : decode cX0_requireServer 13 = .ok (.dup, 1) := by decide +kernel
theorem dX0_requireServer_14 : decode cX0_requireServer 14 = .ok (.ldc 146, 2) := by decide +kernel
theorem dX0_requireServer_16 : decode cX0_requireServer 16 = .ok (.invokespecial 137, 3) := by decide +kernel
theorem dX0_requireServer_19 : decode cX0_requireServer 19 = .ok (.athrow, 1) := by decide +kernel
theorem dX0_requireServer_20 : decode cX0_requireServer 20 = .ok (.return_, 1) := by decide +kernel
theorem dX0_requirePeer_0 : decode cX0_requirePeer 0 = .ok (.iload_n 1, 1) := by decide +kernel
theorem dX0_requirePeer_1 : decode cX0_requirePeer 1 = .ok (.invokestatic 87, 3) := by decide +kernel
theorem dX0_requirePeer_4 : decode cX0_requirePeer 4 = .ok (.aload_n 0, 1) := by decide +kernel
theorem dX0_requirePeer_5 : decode cX0_requirePeer 5 = .ok (.invokevirtual 96, 3) := by decide +kernel
theorem dX0_requirePeer_8 : decode cX0_requirePeer 8 = .ok (.iload_n 1, 1) := by decide +kernel
theorem dX0_requirePeer_9 : decode cX0_requirePeer 9 = .ok (.invokestatic 76, 3) := by decide +kernel
theorem dX0_requirePeer_12 : decode cX0_requirePeer 12 = .ok (.ifCond .ne 13, 3) := by decide +kernel
theorem dX0_requirePeer_15 : decode cX0_requirePeer 15 = .ok (.new 133, 3) := by decide +kernel
theorem dX0_requirePeer_18 : decode cX0_requirePeer 18 = .ok (.dup, 1) := by decide +kernel
theorem dX0_requirePeer_19 : decode cX0_requirePeer 19 = .ok (.ldc 148, 2) := by decide +kernel
theorem dX0_requirePeer_21 : decode cX0_requirePeer 21 = .ok (.invokespecial 137, 3) := by decide +kernel
theorem dX0_requirePeer_24 : decode cX0_requirePeer 24 = .ok (.athrow, 1) := by decide +kernel
theorem dX0_requirePeer_25 : decode cX0_requirePeer 25 = .ok (.return_, 1) := by decide +kernel
theorem dX0_isIn_0 : decode cX0_isIn 0 = .ok (.iload_n 0, 1) := by decide +kernel
theorem dX0_isIn_1 : decode cX0_isIn 1 = .ok (.iconst 1, 1) := by decide +kernel
theorem dX0_isIn_2 : decode cX0_isIn 2 = .ok (.iload_n 1, 1) := by decide +kernel
theorem dX0_isIn_3 : decode cX0_isIn 3 = .ok (.ishl, 1) := by decide +kernel
theorem dX0_isIn_4 : decode cX0_isIn 4 = .ok (.iand, 1) := by decide +kernel
theorem dX0_isIn_5 : decode cX0_isIn 5 = .ok (.ifCond .eq 7, 3) := by decide +kernel
theorem dX0_isIn_8 : decode cX0_isIn 8 = .ok (.iconst 1, 1) := by decide +kernel
theorem dX0_isIn_9 : decode cX0_isIn 9 = .ok (.goto 4, 3) := by decide +kernel
theorem dX0_isIn_12 : decode cX0_isIn 12 = .ok (.iconst 0, 1) := by decide +kernel
theorem dX0_isIn_13 : decode cX0_isIn 13 = .ok (.ireturn, 1) := by decide +kernel
theorem dX0_voterSet_0 : decode cX0_voterSet 0 = .ok (.aload_n 0, 1) := by decide +kernel
theorem dX0_voterSet_1 : decode cX0_voterSet 1 = .ok (.getfield 39, 3) := by decide +kernel
theorem dX0_voterSet_4 : decode cX0_voterSet 4 = .ok (.aload_n 0, 1) := by decide +kernel
theorem dX0_voterSet_5 : decode cX0_voterSet 5 = .ok (.getfield 55, 3) := by decide +kernel
theorem dX0_voterSet_8 : decode cX0_voterSet 8 = .ok (.ior, 1) := by decide +kernel
theorem dX0_voterSet_9 : decode cX0_voterSet 9 = .ok (.ireturn, 1) := by decide +kernel
theorem dX0_peerSet_0 : decode cX0_peerSet 0 = .ok (.aload_n 0, 1) := by decide +kernel
theorem dX0_peerSet_1 : decode cX0_peerSet 1 = .ok (.invokevirtual 138, 3) := by decide +kernel
theorem dX0_peerSet_4 : decode cX0_peerSet 4 = .ok (.aload_n 0, 1) := by decide +kernel
theorem dX0_peerSet_5 : decode cX0_peerSet 5 = .ok (.getfield 58, 3) := by decide +kernel
theorem dX0_peerSet_8 : decode cX0_peerSet 8 = .ok (.ior, 1) := by decide +kernel
theorem dX0_peerSet_9 : decode cX0_peerSet 9 = .ok (.iconst 1, 1) := by decide +kernel
theorem dX0_peerSet_10 : decode cX0_peerSet 10 = .ok (.aload_n 0, 1) := by decide +kernel
theorem dX0_peerSet_11 : decode cX0_peerSet 11 = .ok (.getfield 35, 3) := by decide +kernel
theorem dX0_peerSet_14 : decode cX0_peerSet 14 = .ok (.ishl, 1) := by decide +kernel
theorem dX0_peerSet_15 : decode cX0_peerSet 15 = .ok (.iconst (-1), 1) := by decide +kernel
theorem dX0_peerSet_16 : decode cX0_peerSet 16 = .ok (.ixor, 1) := by decide +kernel
theorem dX0_peerSet_17 : decode cX0_peerSet 17 = .ok (.iand, 1) := by decide +kernel
theorem dX0_peerSet_18 : decode cX0_peerSet 18 = .ok (.ireturn, 1) := by decide +kernel
theorem dX0_learnersMatching_0 : decode cX0_learnersMatching 0 = .ok (.aload_n 0, 1) := by decide +kernel
theorem dX0_learnersMatching_1 : decode cX0_learnersMatching 1 = .ok (.getfield 58, 3) := by decide +kernel
theorem dX0_learnersMatching_4 : decode cX0_learnersMatching 4 = .ok (.aload_n 0, 1) := by decide +kernel
theorem dX0_learnersMatching_5 : decode cX0_learnersMatching 5 = .ok (.getfield 13, 3) := by decide +kernel
theorem dX0_learnersMatching_8 : decode cX0_learnersMatching 8 = .ok (.iload_n 1, 1) := by decide +kernel
theorem dX0_learnersMatching_9 : decode cX0_learnersMatching 9 = .ok (.invokestatic 150, 3) := by decide +kernel
theorem dX0_learnersMatching_12 : decode cX0_learnersMatching 12 = .ok (.iand, 1) := by decide +kernel
theorem dX0_learnersMatching_13 : decode cX0_learnersMatching 13 = .ok (.ireturn, 1) := by decide +kernel
theorem dX0_thoseWithAtLeast_0 : decode cX0_thoseWithAtLeast 0 = .ok (.iconst 0, 1) := by decide +kernel
theorem dX0_thoseWithAtLeast_1 : decode cX0_thoseWithAtLeast 1 = .ok (.istore_n 2, 1) := by decide +kernel
theorem dX0_thoseWithAtLeast_2 : decode cX0_thoseWithAtLeast 2 = .ok (.iconst 0, 1) := by decide +kernel
theorem dX0_thoseWithAtLeast_3 : decode cX0_thoseWithAtLeast 3 = .ok (.istore_n 3, 1) := by decide +kernel
theorem dX0_thoseWithAtLeast_4 : decode cX0_thoseWithAtLeast 4 = .ok (.iload_n 3, 1) := by decide +kernel
theorem dX0_thoseWithAtLeast_5 : decode cX0_thoseWithAtLeast 5 = .ok (.aload_n 0, 1) := by decide +kernel
theorem dX0_thoseWithAtLeast_6 : decode cX0_thoseWithAtLeast 6 = .ok (.arraylength, 1) := by decide +kernel
theorem dX0_thoseWithAtLeast_7 : decode cX0_thoseWithAtLeast 7 = .ok (.if_icmp .ge 22, 3) := by decide +kernel
theorem dX0_thoseWithAtLeast_10 : decode cX0_thoseWithAtLeast 10 = .ok (.aload_n 0, 1) := by decide +kernel
theorem dX0_thoseWithAtLeast_11 : decode cX0_thoseWithAtLeast 11 = .ok (.iload_n 3, 1) := by decide +kernel
theorem dX0_thoseWithAtLeast_12 : decode cX0_thoseWithAtLeast 12 = .ok (.iaload, 1) := by decide +kernel
theorem dX0_thoseWithAtLeast_13 : decode cX0_thoseWithAtLeast 13 = .ok (.iload_n 1, 1) := by decide +kernel
theorem dX0_thoseWithAtLeast_14 : decode cX0_thoseWithAtLeast 14 = .ok (.if_icmp .lt 9, 3) := by decide +kernel
theorem dX0_thoseWithAtLeast_17 : decode cX0_thoseWithAtLeast 17 = .ok (.iload_n 2, 1) := by decide +kernel
theorem dX0_thoseWithAtLeast_18 : decode cX0_thoseWithAtLeast 18 = .ok (.iconst 1, 1) := by decide +kernel
theorem dX0_thoseWithAtLeast_19 : decode cX0_thoseWithAtLeast 19 = .ok (.iload_n 3, 1) := by decide +kernel
theorem dX0_thoseWithAtLeast_20 : decode cX0_thoseWithAtLeast 20 = .ok (.ishl, 1) := by decide +kernel
theorem dX0_thoseWithAtLeast_21 : decode cX0_thoseWithAtLeast 21 = .ok (.ior, 1) := by decide +kernel
theorem dX0_thoseWithAtLeast_22 : decode cX0_thoseWithAtLeast 22 = .ok (.istore_n 2, 1) := by decide +kernel
theorem dX0_thoseWithAtLeast_23 : decode cX0_thoseWithAtLeast 23 = .ok (.iinc 3 1, 3) := by decide +kernel
theorem dX0_thoseWithAtLeast_26 : decode cX0_thoseWithAtLeast 26 = .ok (.goto (-22), 3) := by decide +kernel
theorem dX0_thoseWithAtLeast_29 : decode cX0_thoseWithAtLeast 29 = .ok (.iload_n 2, 1) := by decide +kernel
theorem dX0_thoseWithAtLeast_30 : decode cX0_thoseWithAtLeast 30 = .ok (.ireturn, 1) := by decide +kernel
theorem dX0_isMajority_0 : decode cX0_isMajority 0 = .ok (.iload_n 1, 1) := by decide +kernel
theorem dX0_isMajority_1 : decode cX0_isMajority 1 = .ok (.aload_n 0, 1) := by decide +kernel
theorem dX0_isMajority_2 : decode cX0_isMajority 2 = .ok (.getfield 39, 3) := by decide +kernel
theorem dX0_isMajority_5 : decode cX0_isMajority 5 = .ok (.invokestatic 154, 3) := by decide +kernel
theorem dX0_isMajority_8 : decode cX0_isMajority 8 = .ok (.ifCond .eq 25, 3) := by decide +kernel
theorem dX0_isMajority_11 : decode cX0_isMajority 11 = .ok (.aload_n 0, 1) := by decide +kernel
theorem dX0_isMajority_12 : decode cX0_isMajority 12 = .ok (.getfield 55, 3) := by decide +kernel
theorem dX0_isMajority_15 : decode cX0_isMajority 15 = .ok (.ifCond .eq 14, 3) := by decide +kernel
theorem dX0_isMajority_18 : decode cX0_isMajority 18 = .ok (.iload_n 1, 1) := by decide +kernel
theorem dX0_isMajority_19 : decode cX0_isMajority 19 = .ok (.aload_n 0, 1) := by decide +kernel
theorem dX0_isMajority_20 : decode cX0_isMajority 20 = .ok (.getfield 55, 3) := by decide +kernel
theorem dX0_isMajority_23 : decode cX0_isMajority 23 = .ok (.invokestatic 154, 3) := by decide +kernel
theorem dX0_isMajority_26 : decode cX0_isMajority 26 = .ok (.ifCond .eq 7, 3) := by decide +kernel
theorem dX0_isMajority_29 : decode cX0_isMajority 29 = .ok (.iconst 1, 1) := by decide +kernel
theorem dX0_isMajority_30 : decode cX0_isMajority 30 = .ok (.goto 4, 3) := by decide +kernel
theorem dX0_isMajority_33 : decode cX0_isMajority 33 = .ok (.iconst 0, 1) := by decide +kernel
theorem dX0_isMajority_34 : decode cX0_isMajority 34 = .ok (.ireturn, 1) := by decide +kernel
theorem dX0_isMoreThanHalf_0 : decode cX0_isMoreThanHalf 0 = .ok (.iconst 2, 1) := by decide +kernel
theorem dX0_isMoreThanHalf_1 : decode cX0_isMoreThanHalf 1 = .ok (.iload_n 0, 1) := by decide +kernel
theorem dX0_isMoreThanHalf_2 : decode cX0_isMoreThanHalf 2 = .ok (.iload_n 1, 1) := by decide +kernel
theorem dX0_isMoreThanHalf_3 : decode cX0_isMoreThanHalf 3 = .ok (.iand, 1) := by decide +kernel
theorem dX0_isMoreThanHalf_4 : decode cX0_isMoreThanHalf 4 = .ok (.invokestatic 157, 3) := by decide +kernel
theorem dX0_isMoreThanHalf_7 : decode cX0_isMoreThanHalf 7 = .ok (.imul, 1) := by decide +kernel
theorem dX0_isMoreThanHalf_8 : decode cX0_isMoreThanHalf 8 = .ok (.iload_n 1, 1) := by decide +kernel
theorem dX0_isMoreThanHalf_9 : decode cX0_isMoreThanHalf 9 = .ok (.invokestatic 157, 3) := by decide +kernel
theorem dX0_isMoreThanHalf_12 : decode cX0_isMoreThanHalf 12 = .ok (.if_icmp .le 7, 3) := by decide +kernel
theorem dX0_isMoreThanHalf_15 : decode cX0_isMoreThanHalf 15 = .ok (.iconst 1, 1) := by decide +kernel
theorem dX0_isMoreThanHalf_16 : decode cX0_isMoreThanHalf 16 = .ok (.goto 4, 3) := by decide +kernel
theorem dX0_isMoreThanHalf_19 : decode cX0_isMoreThanHalf 19 = .ok (.iconst 0, 1) := by decide +kernel
theorem dX0_isMoreThanHalf_20 : decode cX0_isMoreThanHalf 20 = .ok (.ireturn, 1) := by decide +kernel
theorem dX0_whatMajorityHas_0 : decode cX0_whatMajorityHas 0 = .ok (.iconst 0, 1) := by decide +kernel
theorem dX0_whatMajorityHas_1 : decode cX0_whatMajorityHas 1 = .ok (.istore_n 2, 1) := by decide +kernel
theorem dX0_whatMajorityHas_2 : decode cX0_whatMajorityHas 2 = .ok (.iconst 0, 1) := by decide +kernel
theorem dX0_whatMajorityHas_3 : decode cX0_whatMajorityHas 3 = .ok (.istore_n 3, 1) := by decide +kernel
theorem dX0_whatMajorityHas_4 : decode cX0_whatMajorityHas 4 = .ok (.iload_n 3, 1) := by decide +kernel
theorem dX0_whatMajorityHas_5 : decode cX0_whatMajorityHas 5 = .ok (.aload_n 1, 1) := by decide +kernel
theorem dX0_whatMajorityHas_6 : decode cX0_whatMajorityHas 6 = .ok (.arraylength, 1) := by decide +kernel
theorem dX0_whatMajorityHas_7 : decode cX0_whatMajorityHas 7 = .ok (.if_icmp .ge 34, 3) := by decide +kernel
theorem dX0_whatMajorityHas_10 : decode cX0_whatMajorityHas 10 = .ok (.aload_n 1, 1) := by decide +kernel
theorem dX0_whatMajorityHas_11 : decode cX0_whatMajorityHas 11 = .ok (.iload_n 3, 1) := by decide +kernel
theorem dX0_whatMajorityHas_12 : decode cX0_whatMajorityHas 12 = .ok (.iaload, 1) := by decide +kernel
theorem dX0_whatMajorityHas_13 : decode cX0_whatMajorityHas 13 = .ok (.iload_n 2, 1) := by decide +kernel
theorem dX0_whatMajorityHas_14 : decode cX0_whatMajorityHas 14 = .ok (.if_icmp .le 21, 3) := by decide +kernel
theorem dX0_whatMajorityHas_17 : decode cX0_whatMajorityHas 17 = .ok (.aload_n 0, 1) := by decide +kernel
theorem dX0_whatMajorityHas_18 : decode cX0_whatMajorityHas 18 = .ok (.aload_n 1, 1) := by decide +kernel
theorem dX0_whatMajorityHas_19 : decode cX0_whatMajorityHas 19 = .ok (.aload_n 1, 1) := by decide +kernel
theorem dX0_whatMajorityHas_20 : decode cX0_whatMajorityHas 20 = .ok (.iload_n 3, 1) := by decide +kernel
theorem dX0_whatMajorityHas_21 : decode cX0_whatMajorityHas 21 = .ok (.iaload, 1) := by decide +kernel
theorem dX0_whatMajorityHas_22 : decode cX0_whatMajorityHas 22 = .ok (.invokestatic 150, 3) := by decide +kernel
theorem dX0_whatMajorityHas_25 : decode cX0_whatMajorityHas 25 = .ok (.invokevirtual 80, 3) := by decide +kernel
theorem dX0_whatMajorityHas_28 : decode cX0_whatMajorityHas 28 = .ok (.ifCond .eq 7, 3) := by decide +kernel
theorem dX0_whatMajorityHas_31 : decode cX0_whatMajorityHas 31 = .ok (.aload_n 1, 1) := by decide +kernel
theorem dX0_whatMajorityHas_32 : decode cX0_whatMajorityHas 32 = .ok (.iload_n 3, 1) := by decide +kernel
theorem dX0_whatMajorityHas_33 : decode cX0_whatMajorityHas 33 = .ok (.iaload, 1) := by decide +kernel
theorem dX0_whatMajorityHas_34 : decode cX0_whatMajorityHas 34 = .ok (.istore_n 2, 1) := by decide +kernel
theorem dX0_whatMajorityHas_35 : decode cX0_whatMajorityHas 35 = .ok (.iinc 3 1, 3) := by decide +kernel
theorem dX0_whatMajorityHas_38 : decode cX0_whatMajorityHas 38 = .ok (.goto (-34), 3) := by decide +kernel
theorem dX0_whatMajorityHas_41 : decode cX0_whatMajorityHas 41 = .ok (.iload_n 2, 1) := by decide +kernel
theorem dX0_whatMajorityHas_42 : decode cX0_whatMajorityHas 42 = .ok (.ireturn, 1) := by decide +kernel
theorem dX0_mayFlyMore_0 : decode cX0_mayFlyMore 0 = .ok (.aload_n 0, 1) := by decide +kernel
theorem dX0_mayFlyMore_1 : decode cX0_mayFlyMore 1 = .ok (.getfield 16, 3) := by decide +kernel
theorem dX0_mayFlyMore_4 : decode cX0_mayFlyMore 4 = .ok (.iload_n 1, 1) := by decide +kernel
theorem dX0_mayFlyMore_5 : decode cX0_mayFlyMore 5 = .ok (.iaload, 1) := by decide +kernel
theorem dX0_mayFlyMore_6 : decode cX0_mayFlyMore 6 = .ok (.aload_n 0, 1) := by decide +kernel
theorem dX0_mayFlyMore_7 : decode cX0_mayFlyMore 7 = .ok (.getfield 19, 3) := by decide +kernel
theorem dX0_mayFlyMore_10 : decode cX0_mayFlyMore 10 = .ok (.iload_n 1, 1) := by decide +kernel
theorem dX0_mayFlyMore_11 : decode cX0_mayFlyMore 11 = .ok (.baload, 1) := by decide +kernel
theorem dX0_mayFlyMore_12 : decode cX0_mayFlyMore 12 = .ok (.ifCond .eq 7, 3) := by decide +kernel
theorem dX0_mayFlyMore_15 : decode cX0_mayFlyMore 15 = .ok (.iconst 1, 1) := by decide +kernel
theorem dX0_mayFlyMore_16 : decode cX0_mayFlyMore 16 = .ok (.goto 4, 3) := by decide +kernel
theorem dX0_mayFlyMore_19 : decode cX0_mayFlyMore 19 = .ok (.iconst 4, 1) := by decide +kernel
theorem dX0_mayFlyMore_20 : decode cX0_mayFlyMore 20 = .ok (.if_icmp .ge 7, 3) := by decide +kernel
theorem dX0_mayFlyMore_23 : decode cX0_mayFlyMore 23 = .ok (.iconst 1, 1) := by decide +kernel
theorem dX0_mayFlyMore_24 : decode cX0_mayFlyMore 24 = .ok (.goto 4, 3) := by decide +kernel
theorem dX0_mayFlyMore_27 : decode cX0_mayFlyMore 27 = .ok (.iconst 0, 1) := by decide +kernel
theorem dX0_mayFlyMore_28 : decode cX0_mayFlyMore 28 = .ok (.ireturn, 1) := by decide +kernel
theorem dX0_sendSnapshotPiece_0 : decode cX0_sendSnapshotPiece 0 = .ok (.aload_n 0, 1) := by decide +kernel
theorem dX0_sendSnapshotPiece_1 : decode cX0_sendSnapshotPiece 1 = .ok (.getfield 16, 3) := by decide +kernel
theorem dX0_sendSnapshotPiece_4 : decode cX0_sendSnapshotPiece 4 = .ok (.iload_n 1, 1) := by decide +kernel
theorem dX0_sendSnapshotPiece_5 : decode cX0_sendSnapshotPiece 5 = .ok (.iaload, 1) := by decide +kernel
theorem dX0_sendSnapshotPiece_6 : decode cX0_sendSnapshotPiece 6 = .ok (.ifCond .le 5, 3) := by decide +kernel
theorem dX0_sendSnapshotPiece_9 : decode cX0_sendSnapshotPiece 9 = .ok (.iconst 0, 1) := by decide +kernel
theorem dX0_sendSnapshotPiece_10 : decode cX0_sendSnapshotPiece 10 = .ok (.ireturn, 1) := by decide +kernel
theorem dX0_sendSnapshotPiece_11 : decode cX0_sendSnapshotPiece 11 = .ok (.aload_n 0, 1) := by decide +kernel
theorem dX0_sendSnapshotPiece_12 : decode cX0_sendSnapshotPiece 12 = .ok (.getfield 16, 3) := by decide +kernel
theorem dX0_sendSnapshotPiece_15 : decode cX0_sendSnapshotPiece 15 = .ok (.iload_n 1, 1) := by decide +kernel
theorem dX0_sendSnapshotPiece_16 : decode cX0_sendSnapshotPiece 16 = .ok (.iconst 1, 1) := by decide +kernel
theorem dX0_sendSnapshotPiece_17 : decode cX0_sendSnapshotPiece 17 = .ok (.iastore, 1) := by decide +kernel
theorem dX0_sendSnapshotPiece_18 : decode cX0_sendSnapshotPiece 18 = .ok (.bipush 8, 2) := by decide +kernel
theorem dX0_sendSnapshotPiece_20 : decode cX0_sendSnapshotPiece 20 = .ok (.ireturn, 1) := by decide +kernel
theorem dX0_sendEntries_0 : decode cX0_sendEntries 0 = .ok (.iload_n 2, 1) := by decide +kernel
theorem dX0_sendEntries_1 : decode cX0_sendEntries 1 = .ok (.aload_n 0, 1) := by decide +kernel
theorem dX0_sendEntries_2 : decode cX0_sendEntries 2 = .ok (.getfield 9, 3) := by decide +kernel
theorem dX0_sendEntries_5 : decode cX0_sendEntries 5 = .ok (.iload_n 1, 1) := by decide +kernel
theorem dX0_sendEntries_6 : decode cX0_sendEntries 6 = .ok (.iaload, 1) := by decide +kernel
theorem dX0_sendEntries_7 : decode cX0_sendEntries 7 = .ok (.isub, 1) := by decide +kernel
theorem dX0_sendEntries_8 : decode cX0_sendEntries 8 = .ok (.iconst 1, 1) := by decide +kernel
theorem dX0_sendEntries_9 : decode cX0_sendEntries 9 = .ok (.iadd, 1) := by decide +kernel
theorem dX0_sendEntries_10 : decode cX0_sendEntries 10 = .ok (.bipush 6, 2) := by decide +kernel
theorem dX0_sendEntries_12 : decode cX0_sendEntries 12 = .ok (.invokestatic 124, 3) := by decide +kernel
theorem dX0_sendEntries_15 : decode cX0_sendEntries 15 = .ok (.istore_n 3, 1) := by decide +kernel
theorem dX0_sendEntries_16 : decode cX0_sendEntries 16 = .ok (.aload_n 0, 1) := by decide +kernel
theorem dX0_sendEntries_17 : decode cX0_sendEntries 17 = .ok (.getfield 16, 3) := by decide +kernel
theorem dX0_sendEntries_20 : decode cX0_sendEntries 20 = .ok (.iload_n 1, 1) := by decide +kernel
theorem dX0_sendEntries_21 : decode cX0_sendEntries 21 = .ok (.aload_n 0, 1) := by decide +kernel
theorem dX0_sendEntries_22 : decode cX0_sendEntries 22 = .ok (.getfield 16, 3) := by decide +kernel
theorem dX0_sendEntries_25 : decode cX0_sendEntries 25 = .ok (.iload_n 1, 1) := by decide +kernel
theorem dX0_sendEntries_26 : decode cX0_sendEntries 26 = .ok (.iaload, 1) := by decide +kernel
theorem dX0_sendEntries_27 : decode cX0_sendEntries 27 = .ok (.iconst 1, 1) := by decide +kernel
theorem dX0_sendEntries_28 : decode cX0_sendEntries 28 = .ok (.iadd, 1) := by decide +kernel
theorem dX0_sendEntries_29 : decode cX0_sendEntries 29 = .ok (.iastore, 1) := by decide +kernel
theorem dX0_sendEntries_30 : decode cX0_sendEntries 30 = .ok (.aload_n 0, 1) := by decide +kernel
theorem dX0_sendEntries_31 : decode cX0_sendEntries 31 = .ok (.getfield 9, 3) := by decide +kernel
theorem dX0_sendEntries_34 : decode cX0_sendEntries 34 = .ok (.iload_n 1, 1) := by decide +kernel
theorem dX0_sendEntries_35 : decode cX0_sendEntries 35 = .ok (.aload_n 0, 1) := by decide +kernel
theorem dX0_sendEntries_36 : decode cX0_sendEntries 36 = .ok (.getfield 9, 3) := by decide +kernel
theorem dX0_sendEntries_39 : decode cX0_sendEntries 39 = .ok (.iload_n 1, 1) := by decide +kernel
theorem dX0_sendEntries_40 : decode cX0_sendEntries 40 = .ok (.iaload, 1) := by decide +kernel
theorem dX0_sendEntries_41 : decode cX0_sendEntries 41 = .ok (.iload_n 3, 1) := by decide +kernel
theorem dX0_sendEntries_42 : decode cX0_sendEntries 42 = .ok (.iadd, 1) := by decide +kernel
theorem dX0_sendEntries_43 : decode cX0_sendEntries 43 = .ok (.iastore, 1) := by decide +kernel
theorem dX0_sendEntries_44 : decode cX0_sendEntries 44 = .ok (.iload_n 3, 1) := by decide +kernel
theorem dX0_sendEntries_45 : decode cX0_sendEntries 45 = .ok (.ireturn, 1) := by decide +kernel
theorem dX0_hear_0 : decode cX0_hear 0 = .ok (.aload_n 0, 1) := by decide +kernel
theorem dX0_hear_1 : decode cX0_hear 1 = .ok (.getfield 29, 3) := by decide +kernel
theorem dX0_hear_4 : decode cX0_hear 4 = .ok (.iload_n 1, 1) := by decide +kernel
theorem dX0_hear_5 : decode cX0_hear 5 = .ok (.iload_n 3, 1) := by decide +kernel
theorem dX0_hear_6 : decode cX0_hear 6 = .ok (.iastore, 1) := by decide +kernel
theorem dX0_hear_7 : decode cX0_hear 7 = .ok (.aload_n 0, 1) := by decide +kernel
theorem dX0_hear_8 : decode cX0_hear 8 = .ok (.getfield 32, 3) := by decide +kernel
theorem dX0_hear_11 : decode cX0_hear 11 = .ok (.iload_n 1, 1) := by decide +kernel
theorem dX0_hear_12 : decode cX0_hear 12 = .ok (.iconst 1, 1) := by decide +kernel
theorem dX0_hear_13 : decode cX0_hear 13 = .ok (.bastore, 1) := by decide +kernel
theorem dX0_hear_14 : decode cX0_hear 14 = .ok (.aload_n 0, 1) := by decide +kernel
theorem dX0_hear_15 : decode cX0_hear 15 = .ok (.getfield 26, 3) := by decide +kernel
theorem dX0_hear_18 : decode cX0_hear 18 = .ok (.iload_n 1, 1) := by decide +kernel
theorem dX0_hear_19 : decode cX0_hear 19 = .ok (.aload_n 0, 1) := by decide +kernel
theorem dX0_hear_20 : decode cX0_hear 20 = .ok (.getfield 26, 3) := by decide +kernel
theorem dX0_hear_23 : decode cX0_hear 23 = .ok (.iload_n 1, 1) := by decide +kernel
theorem dX0_hear_24 : decode cX0_hear 24 = .ok (.iaload, 1) := by decide +kernel
theorem dX0_hear_25 : decode cX0_hear 25 = .ok (.iload_n 2, 1) := by decide +kernel
theorem dX0_hear_26 : decode cX0_hear 26 = .ok (.invokestatic 119, 3) := by decide +kernel
theorem dX0_hear_29 : decode cX0_hear 29 = .ok (.iastore, 1) := by decide +kernel
theorem dX0_hear_30 : decode cX0_hear 30 = .ok (.return_, 1) := by decide +kernel
theorem dJ6_bitCount_0 : decode cJ6_bitCount 0 = .ok (.iload_n 0, 1) := by decide +kernel
theorem dJ6_bitCount_1 : decode cJ6_bitCount 1 = .ok (.iload_n 0, 1) := by decide +kernel
theorem dJ6_bitCount_2 : decode cJ6_bitCount 2 = .ok (.iconst 1, 1) := by decide +kernel
theorem dJ6_bitCount_3 : decode cJ6_bitCount 3 = .ok (.iushr, 1) := by decide +kernel
theorem dJ6_bitCount_4 : decode cJ6_bitCount 4 = .ok (.ldc_w 265, 3) := by decide +kernel
theorem dJ6_bitCount_7 : decode cJ6_bitCount 7 = .ok (.iand, 1) := by decide +kernel
theorem dJ6_bitCount_8 : decode cJ6_bitCount 8 = .ok (.isub, 1) := by decide +kernel
theorem dJ6_bitCount_9 : decode cJ6_bitCount 9 = .ok (.istore_n 0, 1) := by decide +kernel
theorem dJ6_bitCount_10 : decode cJ6_bitCount 10 = .ok (.iload_n 0, 1) := by decide +kernel
theorem dJ6_bitCount_11 : decode cJ6_bitCount 11 = .ok (.ldc_w 266, 3) := by decide +kernel
theorem dJ6_bitCount_14 : decode cJ6_bitCount 14 = .ok (.iand, 1) := by decide +kernel
theorem dJ6_bitCount_15 : decode cJ6_bitCount 15 = .ok (.iload_n 0, 1) := by decide +kernel
theorem dJ6_bitCount_16 : decode cJ6_bitCount 16 = .ok (.iconst 2, 1) := by decide +kernel
theorem dJ6_bitCount_17 : decode cJ6_bitCount 17 = .ok (.iushr, 1) := by decide +kernel
theorem dJ6_bitCount_18 : decode cJ6_bitCount 18 = .ok (.ldc_w 266, 3) := by decide +kernel
theorem dJ6_bitCount_21 : decode cJ6_bitCount 21 = .ok (.iand, 1) := by decide +kernel
theorem dJ6_bitCount_22 : decode cJ6_bitCount 22 = .ok (.iadd, 1) := by decide +kernel
theorem dJ6_bitCount_23 : decode cJ6_bitCount 23 = .ok (.istore_n 0, 1) := by decide +kernel
theorem dJ6_bitCount_24 : decode cJ6_bitCount 24 = .ok (.iload_n 0, 1) := by decide +kernel
theorem dJ6_bitCount_25 : decode cJ6_bitCount 25 = .ok (.iload_n 0, 1) := by decide +kernel
theorem dJ6_bitCount_26 : decode cJ6_bitCount 26 = .ok (.iconst 4, 1) := by decide +kernel
theorem dJ6_bitCount_27 : decode cJ6_bitCount 27 = .ok (.iushr, 1) := by decide +kernel
theorem dJ6_bitCount_28 : decode cJ6_bitCount 28 = .ok (.iadd, 1) := by decide +kernel
theorem dJ6_bitCount_29 : decode cJ6_bitCount 29 = .ok (.ldc_w 267, 3) := by decide +kernel
theorem dJ6_bitCount_32 : decode cJ6_bitCount 32 = .ok (.iand, 1) := by decide +kernel
theorem dJ6_bitCount_33 : decode cJ6_bitCount 33 = .ok (.istore_n 0, 1) := by decide +kernel
theorem dJ6_bitCount_34 : decode cJ6_bitCount 34 = .ok (.iload_n 0, 1) := by decide +kernel
theorem dJ6_bitCount_35 : decode cJ6_bitCount 35 = .ok (.iload_n 0, 1) := by decide +kernel
theorem dJ6_bitCount_36 : decode cJ6_bitCount 36 = .ok (.bipush 8, 2) := by decide +kernel
theorem dJ6_bitCount_38 : decode cJ6_bitCount 38 = .ok (.iushr, 1) := by decide +kernel
theorem dJ6_bitCount_39 : decode cJ6_bitCount 39 = .ok (.iadd, 1) := by decide +kernel
theorem dJ6_bitCount_40 : decode cJ6_bitCount 40 = .ok (.istore_n 0, 1) := by decide +kernel
theorem dJ6_bitCount_41 : decode cJ6_bitCount 41 = .ok (.iload_n 0, 1) := by decide +kernel
theorem dJ6_bitCount_42 : decode cJ6_bitCount 42 = .ok (.iload_n 0, 1) := by decide +kernel
theorem dJ6_bitCount_43 : decode cJ6_bitCount 43 = .ok (.bipush 16, 2) := by decide +kernel
theorem dJ6_bitCount_45 : decode cJ6_bitCount 45 = .ok (.iushr, 1) := by decide +kernel
theorem dJ6_bitCount_46 : decode cJ6_bitCount 46 = .ok (.iadd, 1) := by decide +kernel
theorem dJ6_bitCount_47 : decode cJ6_bitCount 47 = .ok (.istore_n 0, 1) := by decide +kernel
theorem dJ6_bitCount_48 : decode cJ6_bitCount 48 = .ok (.iload_n 0, 1) := by decide +kernel
theorem dJ6_bitCount_49 : decode cJ6_bitCount 49 = .ok (.bipush 63, 2) := by decide +kernel
theorem dJ6_bitCount_51 : decode cJ6_bitCount 51 = .ok (.iand, 1) := by decide +kernel
theorem dJ6_bitCount_52 : decode cJ6_bitCount 52 = .ok (.ireturn, 1) := by decide +kernel
end
section
/-! the answers, as functions of the state's numbers: o, n, g: OLD, NEW, LEARNERS; it: itself; f: a row of seven -/
def IAE : String := "java/lang/IllegalArgumentException"
def ISE : String := "java/lang/IllegalStateException"
def IOE : String := "java/lang/IndexOutOfBoundsException"
/-- a truth as Java has it on its stack -/
def sq_z (b : Bool) : Int32 := if b = true then 1 else 0
theorem sq_z_nar (b : Bool) : narrow .boolean (.int (sq_z b)) = .int (sq_z b) := by cases b <;> rfl
theorem sq_z_t {b : Bool} (h : ¬ sq_z b = 0) : b = true := by cases b; exact absurd rfl h; rfl
theorem sq_z_f {b : Bool} (h : sq_z b = 0) : b = false := by cases b; rfl; exact absurd h (by decide)
theorem sq_z_1 {b : Bool} (h : b = true) : (1 : Int32) = sq_z b := by rw [h]; rfl
theorem sq_z_0 {b : Bool} (h : b = false) : (0 : Int32) = sq_z b := by rw [h]; rfl
/-- a set of servers -/
def sq_S (x : Int32) : Bool := decide (¬ x < 0) && decide (x ≤ 127)
/-- a number of entries, a round, a time, so many bytes -/
def sq_N (x : Int32) : Bool := decide (¬ x < 0) && decide (x ≤ 1000000000)
/-- a server -/
def sq_V (x : Int32) : Bool := decide (¬ x < 0) && decide (x < 7)
theorem sq_V_in {x : Int32} (h : sq_V x = true) : vp_in x 7 := by
  rw [vp_in_iff]
  simp only [sq_V, Bool.and_eq_true, decide_eq_true_eq] at h
  obtain ⟨h1, h2⟩ := h
  rw [Int32.lt_iff_toInt_lt] at h1 h2
  have e0 : (0 : Int32).toInt = 0 := by decide
  have e7 : (7 : Int32).toInt = 7 := by decide
  rw [e0] at h1
  rw [e7] at h2
  omega
/-- the bit of a server -/
def sq_1 (x : Int32) : Int32 := 1 <<< (x &&& 31)
/-- whether a server is in a set -/
def sq_I (set x : Int32) : Bool := decide (¬ (set &&& sq_1 x) = 0)
/-- how many bits are set, as Integer.bitCount has it -/
def sq_u (x k : Int32) : Int32 := (x.toUInt32 >>> (k.toUInt32 &&& Int32.toUInt32 31)).toInt32
def sq_B1 (x : Int32) : Int32 := x - (sq_u x 1 &&& 1431655765)
def sq_B2 (x : Int32) : Int32 := (x &&& 858993459) + (sq_u x 2 &&& 858993459)
def sq_B3 (x : Int32) : Int32 := (x + sq_u x 4) &&& 252645135
def sq_B4 (x : Int32) : Int32 := x + sq_u x 8
def sq_B5 (x : Int32) : Int32 := x + sq_u x 16
def sq_B (x : Int32) : Int32 := sq_B5 (sq_B4 (sq_B3 (sq_B2 (sq_B1 x)))) &&& 63
/-- more than half of 'whole' are in 'set' -/
def sq_H (set whole : Int32) : Bool := decide (sq_B whole < 2 * sq_B (set &&& whole))
def sq_M (o n set : Int32) : Bool := sq_H set o && (decide (n = 0) || sq_H set n)
/-- PEERS -/
def sq_P (it o n g : Int32) : Int32 := ((o ||| n) ||| g) &&& (sq_1 it ^^^ (-1))
/-- those who have at least so much, of the first k -/
def sq_L (f : Nat → Int32) (least : Int32) : Nat → Int32
  | 0 => 0
  | k + 1 => if least ≤ f k then sq_L f least k ||| sq_1 (nI k) else sq_L f least k
/-- what a majority has, by the first k -/
def sq_A (o n : Int32) (f : Nat → Int32) : Nat → Int32
  | 0 => 0
  | k + 1 => if sq_A o n f k < f k ∧ sq_M o n (sq_L f (f k) 7) = true then f k else sq_A o n f k
def sq_max (x y : Int32) : Int32 := if x < y then y else x
def sq_min (x y : Int32) : Int32 := if y < x then y else x
/-- whether one more sending may fly -/
def sq_F (fl pr : Nat → Int32) (p : Nat) : Bool := decide (fl p < if pr p = 0 then 4 else 1)
theorem kz_i7 {i : Nat} (h : i ≤ 7) (c : (7 : Int32) ≤ nI i) : i = 7 := by
  have h1 := (nI_leI (a := 7) (b := i) (by decide) (by omega)).mp c
  omega
theorem kz_l7 {i : Nat} (h : i ≤ 7) (c : ¬ (7 : Int32) ≤ nI i) : i < 7 := by
  rcases Nat.lt_or_ge i 7 with q | q
  · exact q
  · exact absurd ((nI_leI (a := 7) (b := i) (by decide) (by omega)).mpr q) c
/-! what is thrown: 0: nothing -/
def tc_members (a b c : Int32) : Nat := if sq_S a = true ∧ sq_S b = true ∧ sq_S c = true ∧ ¬ a = 0 ∧ (c &&& (a ||| b)) = 0 then 0 else 1
def tc_change (o n g : Int32) (mt : Nat → Int32) (t least : Int32) : Nat := if sq_S t = true ∧ ¬ t = 0 ∧ (t &&& ((o ||| (g &&& sq_L mt least 7)) ^^^ (-1))) = 0 then (if n = 0 then 0 else 2) else 1
def tc_settle (n : Int32) : Nat := if n = 0 then 1 else 0
def tc_set (x : Int32) : Nat := if sq_S x = true then 0 else 1
def tc_server (x : Int32) : Nat := if sq_V x = true then 0 else 1
def tc_sending (it o n g p0 p1 p2 : Int32) : Nat := if (sq_V p0 && sq_I (sq_P it o n g) p0) = true then (if sq_N p1 = true ∧ sq_N p2 = true ∧ ¬ p2 < p1 then 0 else 2) else 1
def tc_matched (p0 p1 p2 p3 : Int32) : Nat := if sq_V p0 = true then (if sq_N p1 = true ∧ sq_N p2 = true ∧ sq_N p3 = true then 0 else 2) else 1
def tc_refused (p0 p1 p2 p3 p4 : Int32) : Nat := if sq_V p0 = true then (if sq_N p1 = true ∧ sq_N p2 = true ∧ sq_N p3 = true ∧ sq_N p4 = true then 0 else 2) else 1
def tc_stored (p0 p1 p2 p3 p4 p5 : Int32) : Nat := if sq_V p0 = true then (if sq_N p1 = true ∧ sq_N p2 = true ∧ sq_N p3 = true ∧ sq_N p4 = true ∧ sq_N p5 = true then 0 else 2) else 1
def tc_own (p0 p1 : Int32) : Nat := if sq_N p0 = true ∧ sq_N p1 = true then 0 else 1
def tc_agreed (x : Int32) : Nat := if x = 0 ∨ x = 1 ∨ x = 2 then 0 else 1
def tc_get (p0 p1 : Int32) : Nat := if sq_V p0 = true ∧ (p1 = 0 ∨ p1 = 1 ∨ p1 = 2 ∨ p1 = 3 ∨ p1 = 4 ∨ p1 = 5 ∨ p1 = 6 ∨ p1 = 7) then 0 else 1
/-- who is taken back when a round begins -/
def sq_R (it o n g : Int32) (fl an : Nat → Int32) (j : Nat) : Bool := sq_I (sq_P it o n g) (nI j) && decide (0 < fl j) && decide (an j = 0)
end
section
/-! contracts over a world 'ws'. kz_P: what holds before; kz_Ro: an answer, nothing written; kz_Wr: an answer, the world is ws' then; kz_T: thrown, nothing written, k says which -/
abbrev kz_Y : Type := List (ClassId × FieldType)
/-- nothing that was there is another -/
abbrev kz_O (H H1 : Heap) : Prop := H.size ≤ H1.size ∧ ∀ j : Nat, j < H.size → H1[j]? = H[j]?
/-- a static field that holds some reference, and lies where nobody writes -/
def kz_St (C n d : String) (A : Nat → Prop) (U : State) (H : Heap) : Prop := ∃ (c : ClassId) (k : Class) (i : Nat) (f : Field) (a : Nat) (cell : Cell) (v : Value), U.vm.findClass C = some c ∧ U.fieldFound? C n d = some (c, k, i, f) ∧ f.isStatic = true ∧ k.statics = some a ∧ H[a]? = some cell ∧ cell.vm.isStatics = true ∧ cell.cls = c ∧ f.slot < cell.slots.size ∧ k.staticTypes[f.slot]? = some f.type ∧ cell.slots[f.slot]? = some v ∧ v.isRef = true ∧ ¬ A a
theorem kz_St.into {C n d : String} {A B : Nat → Prop} {s U : State} {H H1 : Heap} (h : kz_St C n d A s H) (hvm : s.vm.Alike U.vm) (hq : ∀ q : Nat, q < H.size → ¬ A q → H1[q]? = H[q]?) (hB : ∀ q, B q → A q) : kz_St C n d B U H1 := by
  obtain ⟨c, k, i, f, a, cell, v, h1, h2, h3, h4, h5, h6, h7, h8, h9, h10, h11, h12⟩ := h
  obtain ⟨k', hi', he⟩ := State.fieldFound?_setVm hvm h2
  exact ⟨c, k', i, f, a, cell, v, by rw [hvm.findClass]; exact h1, hi', h3, by rw [he]; exact h4, by rw [hq a (Array.getElem?_eq_some_iff.mp h5).1 h12]; exact h5, h6, h7, h8, by rw [he]; exact h9, h10, h11, fun z => h12 (hB _ z)⟩
theorem kz_St.lays {C n d : String} {A : Nat → Prop} {s : State} {args : Array Value} (h : kz_St C n d A s s.heap) : (Cond.laysStatic C n d).before args s = true := by
  obtain ⟨c, k, i, f, a, cell, v, h1, h2, h3, h4, h5, h6, h7, h8, h9, -⟩ := h
  show (Cond.laysStatic C n d).holds args s none s [] = true
  exact Cond.laysStatic_of h1 h2 h3 h4 h5 h6 h7 h8 h9
theorem kz_St.isRef {C n d : String} {A : Nat → Prop} {s : State} {args : Array Value} (h : kz_St C n d A s s.heap) : (Cond.isRef (.static C n d)).before args s = true := by
  obtain ⟨c, k, i, f, a, cell, v, h1, h2, h3, h4, h5, h6, h7, h8, h9, h10, h11, -⟩ := h
  have he : (Term.static C n d).eval args s none [] s = some v := by
    simp [Term.eval, State.fieldNamed?, h2, h3, h4, h5, h6, h10]
  simp only [Cond.before, Cond.holds, Cond.value, he]
  cases v <;> simp_all [Value.isRef]
/-- a word of the tables that stays when classes are linked -/
abbrev kz_N (w : Cond) (U : State) : Prop := va_Nw w U
/-- the names above an exception, below Throwable -/
def EXN : List String := ["java/lang/RuntimeException", "java/lang/Exception"]
def kz_strs : List (Nat × String) := [(141, "no set of servers"), (48, "OLD is empty"), (53, "a learner is a voter"), (61, "the target is empty"), (67, "one of the target is neither old nor a learner far enough"), (71, "a change is under way"), (74, "no change is under way"), (146, "no such server"), (144, "no such number"), (148, "the server is no peer"), (103, "the last entry is below the snapshot's"), (131, "nothing of that kind is agreed on"), (135, "nothing of that kind is kept of a server")]
def kz_cast : List (String × String) := [(IAE, IAE), (ISE, ISE), (IOE, IOE)]
def kz_decl : List MethodName := [Bundle.initS "java/lang/RuntimeException", Bundle.initS "java/lang/Exception", Bundle.initS "java/lang/Throwable"]
def kz_ncs : List (String × String) := [(ISE, IAE), (IAE, IOE)]
/-- what a throw and a catch need, beside the tables' words: it stays over calls -/
def kz_E (A : Nat → Prop) (U : State) (H : Heap) : Prop := kz_St Bundle.tN "UNASSIGNED_STACK" Bundle.steD A U H ∧ kz_St Bundle.tN "SUPPRESSED_SENTINEL" Bundle.listD A U H ∧ (∀ q ∈ kz_strs, ∃ sa, vk_R RX0 q.1 q.2 sa U) ∧ (∀ q ∈ kz_cast, va_Nw (.castable q.1 q.2) U) ∧ (∀ q ∈ kz_decl, va_Nw (.declares q) U) ∧ ∀ q ∈ kz_ncs, va_Nc q.1 q.2 U
theorem kz_E.blind {A : Nat → Prop} {U : State} {a : Array Value} {g : JFrame} {mk : MethodId} (h : kz_E A U U.heap) : kz_E A (U.calling g mk a) (U.calling g mk a).heap := by
  obtain ⟨h1, h2, h3, h4, h5, h6⟩ := h
  exact ⟨h1.into (Vm.Alike.refl U.vm) (fun _ _ _ => rfl) (fun _ h => h), h2.into (Vm.Alike.refl U.vm) (fun _ _ _ => rfl) (fun _ h => h), fun q hq => (h3 q hq).imp (fun _ h => vk_R.same rfl h), fun q hq => va_Nw.same rfl rfl (h4 q hq), fun q hq => va_Nw.same rfl rfl (h5 q hq), fun q hq => va_Nc.moved (u := U) (U := U.calling g mk a) (Vm.Alike.refl U.vm) (h6 q hq)⟩
theorem kz_E.into {A B : Nat → Prop} {s U : State} {H0 H : Heap} (h : kz_E A s H0) (hW : s.WarmedH U.vm) (hq : ∀ q : Nat, q < H0.size → ¬ A q → H[q]? = H0[q]?) (hB : ∀ q, B q → A q) : kz_E B U H := by
  obtain ⟨h1, h2, h3, h4, h5, h6⟩ := h
  exact ⟨h1.into hW.alike hq hB, h2.into hW.alike hq hB, fun q hq => (h3 q hq).imp (fun _ h => vk_R.warm hW h), fun q hq => va_Nw.warmC hW (h4 q hq), fun q hq => va_Nw.warmD hW (h5 q hq), fun q hq => va_Nc.moved hW.alike (h6 q hq)⟩
def kz_bIAE : List Cond := [.isRef (.static Bundle.tN "UNASSIGNED_STACK" Bundle.steD), .isRef (.static Bundle.tN "SUPPRESSED_SENTINEL" Bundle.listD), .laysStatic Bundle.tN "UNASSIGNED_STACK" Bundle.steD, .laysStatic Bundle.tN "SUPPRESSED_SENTINEL" Bundle.listD, .castable IAE IAE, .declares (Bundle.initS "java/lang/RuntimeException"), .declares (Bundle.initS "java/lang/Exception"), .declares (Bundle.initS "java/lang/Throwable")]
set_option maxRecDepth 100000 in
theorem kz_kIAE : ∀ w ∈ Bundle.ownAtoms RX0 50 IAE EXN, (w ∈ lw_tbl ∧ goodWord w = true) ∨ w ∈ kz_bIAE := by decide +kernel
theorem at_IAE {args : Array Value} {s : State} {A : Nat → Prop} (hw9 : ∀ w ∈ kz_W9, w.before args s = true) (hE : kz_E A s s.heap) : ∀ w ∈ Bundle.ownAtoms RX0 50 IAE EXN, w.before args s = true := by
  intro w hw
  obtain ⟨h1, h2, h3, h4, h5, h6⟩ := hE
  rcases kz_kIAE w hw with ⟨q1, q2⟩ | q
  · exact hw9 w (List.mem_filter.mpr ⟨q1, q2⟩)
  · simp only [kz_bIAE, List.mem_cons, List.not_mem_nil, or_false] at q
    rcases q with rfl | rfl | rfl | rfl | rfl | rfl | rfl | rfl
    · exact h1.isRef
    · exact h2.isRef
    · exact h1.lays
    · exact h2.lays
    · exact va_Nw.use rfl (h4 (IAE, IAE) (by decide +kernel))
    · exact va_Nw.use rfl (h5 (Bundle.initS "java/lang/RuntimeException") (by decide +kernel))
    · exact va_Nw.use rfl (h5 (Bundle.initS "java/lang/Exception") (by decide +kernel))
    · exact va_Nw.use rfl (h5 (Bundle.initS "java/lang/Throwable") (by decide +kernel))
def kz_bISE : List Cond := [.isRef (.static Bundle.tN "UNASSIGNED_STACK" Bundle.steD), .isRef (.static Bundle.tN "SUPPRESSED_SENTINEL" Bundle.listD), .laysStatic Bundle.tN "UNASSIGNED_STACK" Bundle.steD, .laysStatic Bundle.tN "SUPPRESSED_SENTINEL" Bundle.listD, .castable ISE ISE, .declares (Bundle.initS "java/lang/RuntimeException"), .declares (Bundle.initS "java/lang/Exception"), .declares (Bundle.initS "java/lang/Throwable")]
set_option maxRecDepth 100000 in
theorem kz_kISE : ∀ w ∈ Bundle.ownAtoms RX0 73 ISE EXN, (w ∈ lw_tbl ∧ goodWord w = true) ∨ w ∈ kz_bISE := by decide +kernel
theorem at_ISE {args : Array Value} {s : State} {A : Nat → Prop} (hw9 : ∀ w ∈ kz_W9, w.before args s = true) (hE : kz_E A s s.heap) : ∀ w ∈ Bundle.ownAtoms RX0 73 ISE EXN, w.before args s = true := by
  intro w hw
  obtain ⟨h1, h2, h3, h4, h5, h6⟩ := hE
  rcases kz_kISE w hw with ⟨q1, q2⟩ | q
  · exact hw9 w (List.mem_filter.mpr ⟨q1, q2⟩)
  · simp only [kz_bISE, List.mem_cons, List.not_mem_nil, or_false] at q
    rcases q with rfl | rfl | rfl | rfl | rfl | rfl | rfl | rfl
    · exact h1.isRef
    · exact h2.isRef
    · exact h1.lays
    · exact h2.lays
    · exact va_Nw.use rfl (h4 (ISE, ISE) (by decide +kernel))
    · exact va_Nw.use rfl (h5 (Bundle.initS "java/lang/RuntimeException") (by decide +kernel))
    · exact va_Nw.use rfl (h5 (Bundle.initS "java/lang/Exception") (by decide +kernel))
    · exact va_Nw.use rfl (h5 (Bundle.initS "java/lang/Throwable") (by decide +kernel))
def kz_bIOE : List Cond := [.isRef (.static Bundle.tN "UNASSIGNED_STACK" Bundle.steD), .isRef (.static Bundle.tN "SUPPRESSED_SENTINEL" Bundle.listD), .laysStatic Bundle.tN "UNASSIGNED_STACK" Bundle.steD, .laysStatic Bundle.tN "SUPPRESSED_SENTINEL" Bundle.listD, .castable IOE IOE, .declares (Bundle.initS "java/lang/RuntimeException"), .declares (Bundle.initS "java/lang/Exception"), .declares (Bundle.initS "java/lang/Throwable")]
set_option maxRecDepth 100000 in
theorem kz_kIOE : ∀ w ∈ Bundle.ownAtoms RX0 137 IOE EXN, (w ∈ lw_tbl ∧ goodWord w = true) ∨ w ∈ kz_bIOE := by decide +kernel
theorem at_IOE {args : Array Value} {s : State} {A : Nat → Prop} (hw9 : ∀ w ∈ kz_W9, w.before args s = true) (hE : kz_E A s s.heap) : ∀ w ∈ Bundle.ownAtoms RX0 137 IOE EXN, w.before args s = true := by
  intro w hw
  obtain ⟨h1, h2, h3, h4, h5, h6⟩ := hE
  rcases kz_kIOE w hw with ⟨q1, q2⟩ | q
  · exact hw9 w (List.mem_filter.mpr ⟨q1, q2⟩)
  · simp only [kz_bIOE, List.mem_cons, List.not_mem_nil, or_false] at q
    rcases q with rfl | rfl | rfl | rfl | rfl | rfl | rfl | rfl
    · exact h1.isRef
    · exact h2.isRef
    · exact h1.lays
    · exact h2.lays
    · exact va_Nw.use rfl (h4 (IOE, IOE) (by decide +kernel))
    · exact va_Nw.use rfl (h5 (Bundle.initS "java/lang/RuntimeException") (by decide +kernel))
    · exact va_Nw.use rfl (h5 (Bundle.initS "java/lang/Exception") (by decide +kernel))
    · exact va_Nw.use rfl (h5 (Bundle.initS "java/lang/Throwable") (by decide +kernel))
theorem kz_good {c : Cond} (h : c ∈ kz_W9) : GoodIn kz_W9 (c :: kz_W9) := fun w hw => by
  rcases List.mem_cons.mp hw with rfl | h2
  · exact ⟨h, good_of_word (List.mem_filter.mp h).2⟩
  · exact ⟨h2, good_of_word (List.mem_filter.mp h2).2⟩
theorem kz_cS {R : Room} {s : State} {args : Array Value} {own : String} {index : Nat} {y : MethodName} {bytes : ByteArray} {maxL : Nat} {ret : Option FieldType} {rm : Room} (n : Nat) (ht : ∀ w ∈ kz_W9, w.before args s = true) (hl : Cond.methodLink own index y ∈ kz_W9) (hst : Cond.static y ∈ kz_W9) (hi : Cond.initialized y.cls ∈ kz_W9) (hc : Cond.code y bytes maxL ret ∈ kz_W9) (hrc : rm.cells = 1) (hrs : rm.slots = 6)
    (hd : y.cls ≠ "java/lang/invoke/MethodHandle" ∧ y.cls ≠ "java/lang/invoke/VarHandle" ∧ (parseMethodDescriptor y.desc).map (fun d => d.parameters.length) = some n) (hR : rm.frames + 1 ≤ R.frames ∧ 8 + (maxL + 11) + rm.locals ≤ R.locals) : CallB R s args own index y bytes maxL ret (.code y bytes maxL ret :: kz_W9) rm 1 6 n ∧ (Cond.static y).before args s = true :=
  ⟨callB_of n ht (kz_good hc) rfl hrc hrs (ht _ hi) (ht _ hl) hd hR, ht _ hst⟩
theorem kz_cV {R : Room} {s : State} {args : Array Value} {own C : String} {index : Nat} {y : MethodName} {bytes : ByteArray} {maxL : Nat} {ret : Option FieldType} {rm : Room} (n : Nat) (ht : ∀ w ∈ kz_W9, w.before args s = true) (hl : Cond.methodLink own index y ∈ kz_W9) (hin : Cond.instanceMethod y ∈ kz_W9) (hse : Cond.selects C y y ∈ kz_W9) (hi : Cond.initialized y.cls ∈ kz_W9) (hc : Cond.code y bytes maxL ret ∈ kz_W9) (hrc : rm.cells = 1) (hrs : rm.slots = 6)
    (hd : y.cls ≠ "java/lang/invoke/MethodHandle" ∧ y.cls ≠ "java/lang/invoke/VarHandle" ∧ (parseMethodDescriptor y.desc).map (fun d => d.parameters.length) = some n) (hR : rm.frames + 1 ≤ R.frames ∧ 8 + (maxL + 11) + rm.locals ≤ R.locals) : CallW R s args own C index y bytes maxL ret (.code y bytes maxL ret :: kz_W9) rm 1 6 n :=
  ⟨callB_of n ht (kz_good hc) rfl hrc hrs (ht _ hi) (ht _ hl) hd hR, ht _ hin, ht _ hse⟩
/-- the class's cells: the object, and its eight rows of seven -/
abbrev wX (ad : Nat → Nat) (cI cZ : ClassId) (it o n g v r : Int32) (nx mt fl pr ofs ak hd an : Nat → Int32) : va_W := [(ad 0, .inr (0, [.int it, .int o, .int n, .int g, .int v, .int r, .ref (ad 1), .ref (ad 2), .ref (ad 3), .ref (ad 4), .ref (ad 5), .ref (ad 6), .ref (ad 7), .ref (ad 8)])), (ad 1, .inl (cI, 7, .inl nx)), (ad 2, .inl (cI, 7, .inl mt)), (ad 3, .inl (cI, 7, .inl fl)), (ad 4, .inl (cZ, 7, .inl pr)), (ad 5, .inl (cI, 7, .inl ofs)), (ad 6, .inl (cI, 7, .inl ak)), (ad 7, .inl (cI, 7, .inl hd)), (ad 8, .inl (cZ, 7, .inl an))]
abbrev kz_P (D : va_G) (tys : kz_Y) (ws : va_W) (sz : Nat) (av : List Value) : Array Value → State → Prop := va_Pc av (fun U => U.heap.size = sz ∧ va_P D vwCl ws U.heap ∧ va_K D vwCl tys U ∧ va_D (fun _ => True) ws ∧ kz_E (va_A ws sz) U U.heap)
def kz_T (ex : Nat → String) (px : Nat → Prop) (q : Addr) (st t : State) : Prop := ∃ (k : Nat) (ce : Cell), px k ∧ t.heap[q]? = some ce ∧ ce.vm = .none ∧ t.vm.findClass (ex k) = some ce.cls ∧ kz_O st.heap t.heap
def kz_Ro (post : Option Value → Prop) (v : Option Value) (st t : State) : Prop := post v ∧ kz_O st.heap t.heap
def kz_Wr (D : va_G) (A : Nat → Prop) (post : Option Value → Prop) (ws : va_W) (v : Option Value) (st t : State) : Prop := post v ∧ va_P D vwCl ws t.heap ∧ va_D A ws ∧ va_F A st t
abbrev kz_i (q : Int32 → Prop) : Option Value → Prop := fun v => ∃ r : Int32, v = some (.int r) ∧ q r
abbrev kz_v (q : Prop) : Option Value → Prop := fun v => v = none ∧ q
theorem kz_blind {D : va_G} {tys : kz_Y} {ws : va_W} {sz : Nat} {av : List Value} : FrameBlind (kz_P D tys ws sz av) := by
  intro a U g mk q
  obtain ⟨q0, q1, qP, qK, qD, qE⟩ := q
  exact ⟨q0, q1, qP, va_K.moved (u := U) (U := U.calling g mk a) (Vm.Alike.refl U.vm) qK, qD, qE.blind⟩
theorem kz_free {A : Nat → Prop} {ws : va_W} {H0 H : Heap} {locs : List Loc} (hD : va_D A ws) (hS : va_S A H0 H locs) (hA : ∀ q, H0.size ≤ q → A q) : ∀ q, va_A ws H.size q → A q := by
  rintro q (⟨k, e, h⟩ | h)
  · exact hD.2 k (q, e) h
  · exact hA q (Nat.le_trans hS.1 h)
theorem kz_preS {D : va_G} {tys : kz_Y} {ws : va_W} {A : Nat → Prop} {s : State} {H : Heap} {locs : List Loc} {As : List Value} (hK : va_K D vwCl tys s) (hP : va_P D vwCl ws H) (hD : va_D A ws) (hS : va_S A s.heap H locs) (hA : ∀ q, s.heap.size ≤ q → A q) (hE : kz_E A s s.heap) : PreS s H (kz_P D tys ws H.size As) As :=
  ⟨kz_blind, fun U hU hW => ⟨rfl, by rw [hU], by rw [hU]; exact hP, va_K.moved hW.alike hK, hD.weaken (fun _ _ _ _ => trivial), by rw [hU]; exact hE.into hW hS.2.1 (kz_free hD hS hA)⟩⟩
theorem kz_preV {D : va_G} {tys : kz_Y} {ws : va_W} {A : Nat → Prop} {s : State} {H : Heap} {locs : List Loc} {As : List Value} {b q0 ci : Nat} {q : vw_C} {fs : List Value} (hK : va_K D vwCl tys s) (hP : va_P D vwCl ws H) (hD : va_D A ws) (hS : va_S A s.heap H locs) (hA : ∀ q, s.heap.size ≤ q → A q) (hE : kz_E A s s.heap) (hc : vwCl[ci]? = some q) (he : ws[q0]? = some (b, .inr (ci, fs))) : PreV s H q.1 b (kz_P D tys ws H.size (.ref b :: As)) As :=
  ⟨kz_blind, va_recv hK hP hc he, fun U hU hW => ⟨rfl, by rw [hU], by rw [hU]; exact hP, va_K.moved hW.alike hK, hD.weaken (fun _ _ _ _ => trivial), by rw [hU]; exact hE.into hW hS.2.1 (kz_free hD hS hA)⟩⟩
theorem kz_O.rf (H : Heap) : kz_O H H := ⟨Nat.le_refl _, fun _ _ => rfl⟩
theorem kz_O.tr {a b c : Heap} (h : kz_O a b) (k : kz_O b c) : kz_O a c := ⟨Nat.le_trans h.1 k.1, fun j hj => by rw [k.2 j (Nat.lt_of_lt_of_le hj h.1), h.2 j hj]⟩
theorem kz_O.P {D : va_G} {ws : va_W} {H H1 : Heap} (h : kz_O H H1) (hP : va_P D vwCl ws H) : va_P D vwCl ws H1 := hP.kept (fun k q hq => h.2 q.1 (hP k q hq).lt)
theorem kz_O.S {A : Nat → Prop} {H0 H H1 : Heap} {locs : List Loc} (h : kz_O H H1) (hS : va_S A H0 H locs) : va_S A H0 H1 locs := ⟨Nat.le_trans hS.1 h.1, fun q h1 h2 => by rw [h.2 q (Nat.lt_of_lt_of_le h1 hS.1)]; exact hS.2.1 q h1 h2, hS.2.2⟩
theorem kz_O.F {A : Nat → Prop} {st t : State} (h : kz_O st.heap t.heap) : va_F A st t := ⟨h.1, fun q h1 _ => h.2 q h1⟩
section KZ
variable {p : Program} {l : Launch} {e : Env} {R : Room} {s : State} {m : MethodId} {args : Array Value} {below : List Frame} {meth : Method} {c : Code} {H : Heap} {locs : List Loc} {cells slots kr nr n nL maxL index pc : Nat} {Q : State → Prop} {ls : Array Slot} {rest As st0 : List Value} {A : Nat → Prop} {D : va_G} {tys : kz_Y} {ws ws' : va_W} {ex : Nat → String} {px : Nat → Prop} {rm : Room} {Ts wy : List Cond} {y : MethodName} {bytes cc : ByteArray} {ret : Option FieldType} {own C : String} {b : Addr}
/-- what comes behind a throw in a callee -/
abbrev kz_KX (p : Program) (l : Launch) (e : Env) (R : Room) (s : State) (m : MethodId) (args : Array Value) (below : List Frame) (meth : Method) (c : Code) (H : Heap) (locs : List Loc) (cells slots : Nat) (Q : State → Prop) (g : JFrame) (ex : Nat → String) (px : Nat → Prop) : Prop :=
  ∀ (k : Nat) (ce : Cell) (q9 : Addr) (H1 : Heap), px k → kz_O H H1 → H1[q9]? = some ce → ce.vm = .none → s.vm.findClass (ex k) = some ce.cls → ez_W p l e R s m args below meth c H1 locs cells slots Q g q9
theorem kz_nil {L : List Loc} {f : Addr → Prop} (h : ∀ z ∈ L, f z.base) (hf : ∀ q, ¬ f q) : L = [] := List.eq_nil_iff_forall_not_mem.mpr (fun z hz => hf _ (h z hz))
theorem kz_rS {post : Option Value → Prop} (S : CallFix p m c cc nL s args Ts own) (hM : ez_M l y wy rm (kz_P D tys ws H.size As) (kz_Ro post) (kz_T ex px) 0 0 (fun _ => False)) (cw : CallB R s args own index y bytes maxL ret wy rm 1 6 n ∧ (Cond.static y).before args s = true) (hp : PreS s H (kz_P D tys ws H.size As) As) (hn : As.length = n) (hsize : ls.size = nL) (hst : st0 = As.reverse ++ rest) (hroom : (rest.map fun v => v.category).sum ≤ 8) (hdg : decode cc pc = .ok (.invokestatic index, 3)) (hf : cells + 1 ≤ R.cells ∧ slots + 6 ≤ R.slots)
    (kx : kz_KX p l e R s m args below meth c H locs (cells + 1) (slots + 6) Q (F0 m pc ls rest) ex px)
    (kk : ∀ (v : Option Value) (H1 : Heap), post v → kz_O H H1 → W p l e R s m args below meth c H1 locs cells slots Q (F0 m (pc + 3) ls (v.toList ++ rest))) : W p l e R s m args below meth c H locs cells slots Q (F0 m pc ls st0) := by
  refine ez_callS S hM cw hp hn hsize hst hroom hdg hf (fun q st t L hst hal hL hq => ?_) (fun v st t L hst hal hL hv => ?_)
  · obtain ⟨k, ce, h1, h2, h3, h4, h5⟩ := hq
    rw [kz_nil hL (fun _ h => h), List.append_nil]
    rw [hst] at h5
    rw [hal.findClass] at h4
    exact kx k ce q t.heap h1 h5 h2 h3 h4
  · obtain ⟨h1, h2⟩ := hv
    rw [kz_nil hL (fun _ h => h), List.append_nil]
    rw [hst] at h2
    exact kk v t.heap h1 h2
theorem kz_rV {post : Option Value → Prop} (S : CallFix p m c cc nL s args Ts own) (hM : ez_M l y wy rm (kz_P D tys ws H.size (.ref b :: As)) (kz_Ro post) (kz_T ex px) 0 0 (fun _ => False)) (cw : CallW R s args own C index y bytes maxL ret wy rm 1 6 n) (hp : PreV s H C b (kz_P D tys ws H.size (.ref b :: As)) As) (hn : As.length = n) (hsize : ls.size = nL) (hst : st0 = As.reverse ++ .ref b :: rest) (hroom : (rest.map fun v => v.category).sum ≤ 8) (hdg : decode cc pc = .ok (.invokevirtual index, 3)) (hf : cells + 1 ≤ R.cells ∧ slots + 6 ≤ R.slots)
    (kx : kz_KX p l e R s m args below meth c H locs (cells + 1) (slots + 6) Q (F0 m pc ls rest) ex px)
    (kk : ∀ (v : Option Value) (H1 : Heap), post v → kz_O H H1 → W p l e R s m args below meth c H1 locs cells slots Q (F0 m (pc + 3) ls (v.toList ++ rest))) : W p l e R s m args below meth c H locs cells slots Q (F0 m pc ls st0) := by
  refine ez_callV S hM cw hp hn hsize hst hroom hdg hf (fun q st t L hst hal hL hq => ?_) (fun v st t L hst hal hL hv => ?_)
  · obtain ⟨k, ce, h1, h2, h3, h4, h5⟩ := hq
    rw [kz_nil hL (fun _ h => h), List.append_nil]
    rw [hst] at h5
    rw [hal.findClass] at h4
    exact kx k ce q t.heap h1 h5 h2 h3 h4
  · obtain ⟨h1, h2⟩ := hv
    rw [kz_nil hL (fun _ h => h), List.append_nil]
    rw [hst] at h2
    exact kk v t.heap h1 h2
/-- a callee that writes -/
theorem kz_wV {post : Option Value → Prop} (S : CallFix p m c cc nL s args Ts own) (hM : ez_M l y wy rm (kz_P D tys ws H.size (.ref b :: As)) (kz_Wr D (va_A ws H.size) post ws') (kz_T ex px) 0 0 (va_A ws H.size)) (cw : CallW R s args own C index y bytes maxL ret wy rm 1 6 n) (hp : PreV s H C b (kz_P D tys ws H.size (.ref b :: As)) As) (hn : As.length = n) (hsize : ls.size = nL) (hst : st0 = As.reverse ++ .ref b :: rest) (hroom : (rest.map fun v => v.category).sum ≤ 8) (hdg : decode cc pc = .ok (.invokevirtual index, 3)) (hf : cells + 1 ≤ R.cells ∧ slots + 6 ≤ R.slots)
    (hD : va_D A ws) (hS : va_S A s.heap H locs) (hA : ∀ q, s.heap.size ≤ q → A q)
    (kx : ∀ locs1 : List Loc, (∀ z ∈ locs1, A z.base) → kz_KX p l e R s m args below meth c H locs1 (cells + 1) (slots + 6) Q (F0 m pc ls rest) ex px)
    (kk : ∀ (v : Option Value) (H1 : Heap) (locs1 : List Loc), post v → va_P D vwCl ws' H1 → va_D A ws' → va_S A s.heap H1 locs1 → W p l e R s m args below meth c H1 locs1 cells slots Q (F0 m (pc + 3) ls (v.toList ++ rest))) : W p l e R s m args below meth c H locs cells slots Q (F0 m pc ls st0) := by
  have hF := kz_free hD hS hA
  have hall : ∀ L : List Loc, (∀ z ∈ L, va_A ws H.size z.base) → ∀ z ∈ locs ++ L, A z.base := fun L hL z hz => by
    rcases List.mem_append.mp hz with h | h
    · exact hS.2.2 z h
    · exact hF _ (hL z h)
  refine ez_callV S hM cw hp hn hsize hst hroom hdg hf (fun q st t L hst hal hL hq => ?_) (fun v st t L hst hal hL hv => ?_)
  · obtain ⟨k, ce, h1, h2, h3, h4, h5⟩ := hq
    rw [hst] at h5
    rw [hal.findClass] at h4
    exact kx (locs ++ L) (hall L hL) k ce q t.heap h1 h5 h2 h3 h4
  · obtain ⟨h1, h2, h3, h4, h5⟩ := hv
    rw [hst] at h4 h5
    exact kk v t.heap (locs ++ L) h1 h2 (h3.weaken (fun _ q _ h => hF q.1 h)) ⟨Nat.le_trans hS.1 h4, fun q a1 a2 => by rw [h5 q (Nat.lt_of_lt_of_le a1 hS.1) (fun z => a2 (hF q z))]; exact hS.2.1 q a1 a2, hall L hL⟩
variable {post : Option Value → Prop} {pt : Addr → State → State → Prop} {free : Addr → Prop} {qi : Int32 → Prop} {qv : Prop} {v : Int32}
/-- the ends of a method that writes nothing -/
theorem kz_reti (hx : p.tables.exec = Jvm.exec) (hb : c.code = cc) (hr : meth.sig.returnType = some .int) (hlocks : meth.locks = false) (hO : kz_O s.heap H) (hq : qi v) (hdg : decode cc pc = .ok (.ireturn, 1)) : W p l e R s m args below meth c H [] 0 0 (ez_MQ below (kz_Ro (kz_i qi)) pt s 0 0 free) (F0 m pc ls [.int v]) :=
  ez_ret (W.iret hx hb hr (fun t ht _ => ⟨some (.int v), rfl, ⟨v, rfl, hq⟩, by rw [ht]; exact hO⟩) (fun _ h => nomatch h) hdg hlocks)
theorem kz_retz (hx : p.tables.exec = Jvm.exec) (hb : c.code = cc) (hr : meth.sig.returnType = some .boolean) (hlocks : meth.locks = false) (hO : kz_O s.heap H) (hq : qi v) (hn : narrow .boolean (.int v) = .int v) (hdg : decode cc pc = .ok (.ireturn, 1)) : W p l e R s m args below meth c H [] 0 0 (ez_MQ below (kz_Ro (kz_i qi)) pt s 0 0 free) (F0 m pc ls [.int v]) :=
  ez_ret (W.zret hx hb hr hn (fun t ht _ => ⟨some (.int v), rfl, ⟨v, rfl, hq⟩, by rw [ht]; exact hO⟩) (fun _ h => nomatch h) hdg hlocks)
theorem kz_retv (hx : p.tables.exec = Jvm.exec) (hb : c.code = cc) (hr : meth.sig.returnType = none) (hlocks : meth.locks = false) (hO : kz_O s.heap H) (hq : qv) (hdg : decode cc pc = .ok (.return_, 1)) : W p l e R s m args below meth c H [] 0 0 (ez_MQ below (kz_Ro (kz_v qv)) pt s 0 0 free) (F0 m pc ls []) :=
  ez_ret (W.vret hx hb hr (fun t ht _ => ⟨none, rfl, ⟨rfl, hq⟩, by rw [ht]; exact hO⟩) (fun _ h => nomatch h) hdg hlocks)
/-- the ends of a method that writes -/
theorem kz_wreti (hx : p.tables.exec = Jvm.exec) (hb : c.code = cc) (hr : meth.sig.returnType = some .int) (hlocks : meth.locks = false) (hP : va_P D vwCl ws' H) (hD : va_D A ws') (hS : va_S A s.heap H locs) (hc : cells ≤ kr) (hs : slots ≤ nr) (hq : qi v) (hdg : decode cc pc = .ok (.ireturn, 1)) : W p l e R s m args below meth c H locs cells slots (ez_MQ below (kz_Wr D A (kz_i qi) ws') pt s kr nr A) (F0 m pc ls [.int v]) :=
  W.widen hc hs (ez_ret (W.iret hx hb hr (fun t ht _ => ⟨some (.int v), rfl, ⟨v, rfl, hq⟩, by rw [ht]; exact hP, hD, hS.F ht⟩) hS.2.2 hdg hlocks))
theorem kz_wretz (hx : p.tables.exec = Jvm.exec) (hb : c.code = cc) (hr : meth.sig.returnType = some .boolean) (hlocks : meth.locks = false) (hP : va_P D vwCl ws' H) (hD : va_D A ws') (hS : va_S A s.heap H locs) (hc : cells ≤ kr) (hs : slots ≤ nr) (hq : qi v) (hn : narrow .boolean (.int v) = .int v) (hdg : decode cc pc = .ok (.ireturn, 1)) : W p l e R s m args below meth c H locs cells slots (ez_MQ below (kz_Wr D A (kz_i qi) ws') pt s kr nr A) (F0 m pc ls [.int v]) :=
  W.widen hc hs (ez_ret (W.zret hx hb hr hn (fun t ht _ => ⟨some (.int v), rfl, ⟨v, rfl, hq⟩, by rw [ht]; exact hP, hD, hS.F ht⟩) hS.2.2 hdg hlocks))
theorem kz_wretv (hx : p.tables.exec = Jvm.exec) (hb : c.code = cc) (hr : meth.sig.returnType = none) (hlocks : meth.locks = false) (hP : va_P D vwCl ws' H) (hD : va_D A ws') (hS : va_S A s.heap H locs) (hc : cells ≤ kr) (hs : slots ≤ nr) (hq : qv) (hdg : decode cc pc = .ok (.return_, 1)) : W p l e R s m args below meth c H locs cells slots (ez_MQ below (kz_Wr D A (kz_v qv) ws') pt s kr nr A) (F0 m pc ls []) :=
  W.widen hc hs (ez_ret (W.vret hx hb hr (fun t ht _ => ⟨none, rfl, ⟨rfl, hq⟩, by rw [ht]; exact hP, hD, hS.F ht⟩) hS.2.2 hdg hlocks))
/-- thrown on to the caller, nothing written so far -/
theorem kz_out {pr : Option Value → State → State → Prop} {k : Nat} {ce : Cell} {q : Addr} (htab : c.exceptionTable.toList = []) (hlocks : meth.locks = false) (hk : px k) (hO : kz_O s.heap H) (hcell : H[q]? = some ce) (hv : ce.vm = .none) (hcl : s.vm.findClass (ex k) = some ce.cls) (hf : ∀ z ∈ locs, free z.base) (hc : cells ≤ 1) (hs : slots ≤ 6) :
    ez_W p l e R s m args below meth c H locs cells slots (ez_MQ below pr (kz_T ex px) s kr nr free) (F0 m pc ls rest) q :=
  ez_out rfl rfl rfl (fun x hx => by rw [htab] at hx; cases hx) hlocks (fun t ht hW => ⟨k, ce, hk, by rw [ht]; exact hcell, hv, by rw [hW.alike.findClass]; exact hcl, by rw [ht]; exact hO⟩) hf hc hs
end KZ
/-- a world, its parts in another order -/
theorem kz_swapP {D : va_G} {w1 w2 : va_W} {H : Heap} (h : va_P D vwCl (w1 ++ w2) H) : va_P D vwCl (w2 ++ w1) H := by
  intro k q hk
  rcases List.mem_append.mp (List.mem_of_getElem? hk) with h1 | h1
  · obtain ⟨i, hi⟩ := List.getElem?_of_mem (List.mem_append_right w1 h1)
    exact h i q hi
  · obtain ⟨i, hi⟩ := List.getElem?_of_mem (List.mem_append_left w2 h1)
    exact h i q hi
theorem kz_swapD {A : Nat → Prop} {w1 w2 : va_W} (h : va_D A (w1 ++ w2)) : va_D A (w2 ++ w1) := by
  obtain ⟨h1, h2⟩ := h
  have key : ∀ (i : Nat) (q : Nat × va_E), (w2 ++ w1)[i]? = some q → (w1 ++ w2)[if i < w2.length then w1.length + i else i - w2.length]? = some q := by
    intro i q hi
    by_cases hl : i < w2.length
    · rw [if_pos hl, List.getElem?_append_right (by omega)]
      rw [List.getElem?_append_left hl] at hi
      rw [Nat.add_sub_cancel_left]; exact hi
    · rw [if_neg hl]
      rw [List.getElem?_append_right (by omega)] at hi
      rw [List.getElem?_append_left (List.getElem?_eq_some_iff.mp hi).1]; exact hi
  refine ⟨fun i j x y hi hj hxy => ?_, fun k q hk => h2 _ q (key k q hk)⟩
  have h3 := h1 _ _ x y (key i x hi) (key j y hj) hxy
  have hi2 : i < w2.length + w1.length := by have := (List.getElem?_eq_some_iff.mp hi).1; rw [List.length_append] at this; exact this
  have hj2 : j < w2.length + w1.length := by have := (List.getElem?_eq_some_iff.mp hj).1; rw [List.length_append] at this; exact this
  split at h3 <;> split at h3 <;> omega
/-- an array's contents below its length are all that counts -/
theorem kz_fn {D : va_G} {ws : va_W} {H : Heap} {k a n : Nat} {cA : ClassId} {f g : Nat → Int32} (h : va_P D vwCl ws H) (hk : ws[k]? = some (a, .inl (cA, n, .inl f))) (hfg : ∀ j, j < n → f j = g j) : va_P D vwCl (ws.set k (a, .inl (cA, n, .inl g))) H := by
  have hl := (List.getElem?_eq_some_iff.mp hk).1
  intro i q hi
  by_cases hik : i = k
  · subst hik
    rw [List.getElem?_set_self hl] at hi
    cases hi
    have h1 : H[a]? = some (vp_cell cA (n, .inl f)) := h i _ hk
    show H[a]? = some (vp_cell cA (n, .inl g))
    rw [h1]
    have h2 : (fun j : Fin n => Value.int (f j.val)) = (fun j : Fin n => Value.int (g j.val)) := funext fun j => by rw [hfg j.val j.isLt]
    show some (arrV cA n (fun j => .int (f j))) = some (arrV cA n (fun j => .int (g j)))
    unfold arrV
    rw [h2]
  · rw [List.getElem?_set_ne (Ne.symm hik)] at hi
    exact h i q hi
end
section
set_option maxHeartbeats 4000000 in
set_option maxRecDepth 100000 in
/-- requireSet: no answer, or thrown -/
theorem c_X0_requireSet (l : Launch) (hl9 : l.stackTraces = false) (D : va_G) (tys : kz_Y) (ws : va_W) (sz : Nat) (p0 : Int32) : ez_M l yX0_requireSet wsX0_requireSet ({ frames := 6, cells := 1, slots := 6, locals := 90 } : Room) (kz_P D tys ws sz [.int p0]) (kz_Ro (kz_v (sq_S p0 = true))) (kz_T (fun _ => IAE) (fun _ => sq_S p0 = false)) 0 0 (fun _ => False) := by
  refine ez_ofW (cc := cX0_requireSet) (maxL := 1) (ret := none) (by decide) rfl ?_
  intro p e s m args below meth c s₁ B hml hTab hv
  obtain ⟨rfl, hsz, hP, hK, hD0, hE⟩ := hv
  have hx := B.exec
  have hb := B.bytes
  have hr := B.returns
  have hw9 : ∀ w ∈ kz_W9, w.before ([.int p0] : List Value).toArray s = true := fun w h => atoms_spec (ws := wsX0_requireSet) B.pre w (List.mem_cons_of_mem _ h)
  have hown : s.vm.findClass RX0 = some m.cls := findClass_of_methodNamed B.named
  have hlocks := B.notSynchronized
  subst hsz
  have hD := hD0.self (sz := s.heap.size)
  generalize hAe : va_A ws s.heap.size = A at hD hE
  have hA : ∀ q : Nat, s.heap.size ≤ q → A q := fun q h => by rw [← hAe]; exact Or.inr h
  have hS : va_S A s.heap s.heap [] := va_S.rf
  have hO : kz_O s.heap s.heap := kz_O.rf _
  have hl := lv_entry ([.int p0]) (n := 1) (Nat.le_of_ble_eq_true rfl)
  rw [lg_entry_eq]
  generalize (lg_sl ([.int p0]) ++ List.replicate (1 - (lg_sl ([.int p0])).length) Slot.unset).toArray = ls at hl ⊢
  have hl : lv_has ls 1 [(0, .int p0)] := hl
  refine lv_iload_n hx hb dX0_requireSet_0 rfl (lv_at hl 0 rfl) ?_
  refine lv_if_lt (tgt := 10) hx hb dX0_requireSet_1 (by decide) (fun c_1 => ?_) (fun c_1 => ?_)
  · -- 1 -> 10
    obtain ⟨sa9, hst9⟩ := hE.2.2.1 (141, "no set of servers") (by decide)
    exact ez_throwS (cls := IAE) (names := EXN) hx hb hl9 hown (by decide +kernel) (by decide +kernel) (hw9 _ mw_101) (hw9 _ mw_6) hst9 (at_IAE hw9 hE) hO.1 (by rw [hml]; exact hl.1) hTab hlocks dX0_requireSet_10 dX0_requireSet_13 dX0_requireSet_14 dX0_requireSet_16 dX0_requireSet_19 (by decide) (Nat.le_of_ble_eq_true rfl) (Nat.le_of_ble_eq_true rfl) (Nat.le_of_ble_eq_true rfl) (fun q t ce h1 h2 h3 h4 h5 h6 => ⟨0, ce, (by first | (simp [sq_S, c_1, (Int32.not_le.mpr c_1)]; done) | (simp only [sq_S, c_1, (Int32.not_le.mpr c_1), eq_self, not_true_eq_false, not_false_eq_true, and_self, and_true, true_and, and_false, false_and, or_true, true_or, or_false, false_or, if_true, if_false, ite_true, ite_false, Bool.and_eq_true, decide_true, decide_false, decide_eq_true_eq, ne_eq, Nat.reduceEqDiff, Nat.one_ne_zero, Bool.false_eq_true, reduceCtorEq]; done) | (simp only [sq_S, c_1, (Int32.not_le.mpr c_1), eq_self, not_true_eq_false, not_false_eq_true, and_self, and_true, true_and, and_false, false_and, or_true, true_or, or_false, false_or, if_true, if_false, ite_true, ite_false, Bool.and_eq_true, decide_true, decide_false, decide_eq_true_eq, ne_eq, Nat.reduceEqDiff, Nat.one_ne_zero, Bool.false_eq_true, reduceCtorEq]; decide)), h1, h2, by rw [h4.findClass]; exact h3, h5, h6⟩)
  · -- 1 -> 4
    refine lv_iload_n hx hb dX0_requireSet_4 rfl (lv_at hl 0 rfl) ?_
    refine lv_bipush (v := 127) hx hb dX0_requireSet_5 (by decide) ?_
    refine lv_icmp_le (tgt := 20) hx hb dX0_requireSet_7 (by decide) (fun c_2 => ?_) (fun c_2 => ?_)
    · -- 7 -> 20
      exact kz_retv hx hb hr hlocks hO (by first | (simp [sq_S, c_1, (Int32.not_lt.mp c_1), c_2, (Int32.not_lt.mpr c_2)]; done) | (simp only [sq_S, c_1, (Int32.not_lt.mp c_1), c_2, (Int32.not_lt.mpr c_2), eq_self, not_true_eq_false, not_false_eq_true, and_self, and_true, true_and, and_false, false_and, or_true, true_or, or_false, false_or, if_true, if_false, ite_true, ite_false, Bool.and_eq_true, decide_true, decide_false, decide_eq_true_eq, ne_eq, Nat.reduceEqDiff, Nat.one_ne_zero, Bool.false_eq_true, reduceCtorEq]; done) | (simp only [sq_S, c_1, (Int32.not_lt.mp c_1), c_2, (Int32.not_lt.mpr c_2), eq_self, not_true_eq_false, not_false_eq_true, and_self, and_true, true_and, and_false, false_and, or_true, true_or, or_false, false_or, if_true, if_false, ite_true, ite_false, Bool.and_eq_true, decide_true, decide_false, decide_eq_true_eq, ne_eq, Nat.reduceEqDiff, Nat.one_ne_zero, Bool.false_eq_true, reduceCtorEq]; decide))  dX0_requireSet_20
    · -- 7 -> 10
      obtain ⟨sa9, hst9⟩ := hE.2.2.1 (141, "no set of servers") (by decide)
      exact ez_throwS (cls := IAE) (names := EXN) hx hb hl9 hown (by decide +kernel) (by decide +kernel) (hw9 _ mw_101) (hw9 _ mw_6) hst9 (at_IAE hw9 hE) hO.1 (by rw [hml]; exact hl.1) hTab hlocks dX0_requireSet_10 dX0_requireSet_13 dX0_requireSet_14 dX0_requireSet_16 dX0_requireSet_19 (by decide) (Nat.le_of_ble_eq_true rfl) (Nat.le_of_ble_eq_true rfl) (Nat.le_of_ble_eq_true rfl) (fun q t ce h1 h2 h3 h4 h5 h6 => ⟨0, ce, (by first | (simp [sq_S, c_1, (Int32.not_lt.mp c_1), c_2, (Int32.not_le.mp c_2)]; done) | (simp only [sq_S, c_1, (Int32.not_lt.mp c_1), c_2, (Int32.not_le.mp c_2), eq_self, not_true_eq_false, not_false_eq_true, and_self, and_true, true_and, and_false, false_and, or_true, true_or, or_false, false_or, if_true, if_false, ite_true, ite_false, Bool.and_eq_true, decide_true, decide_false, decide_eq_true_eq, ne_eq, Nat.reduceEqDiff, Nat.one_ne_zero, Bool.false_eq_true, reduceCtorEq]; done) | (simp only [sq_S, c_1, (Int32.not_lt.mp c_1), c_2, (Int32.not_le.mp c_2), eq_self, not_true_eq_false, not_false_eq_true, and_self, and_true, true_and, and_false, false_and, or_true, true_or, or_false, false_or, if_true, if_false, ite_true, ite_false, Bool.and_eq_true, decide_true, decide_false, decide_eq_true_eq, ne_eq, Nat.reduceEqDiff, Nat.one_ne_zero, Bool.false_eq_true, reduceCtorEq]; decide)), h1, h2, by rw [h4.findClass]; exact h3, h5, h6⟩)
set_option maxHeartbeats 4000000 in
set_option maxRecDepth 100000 in
/-- requireNumber: no answer, or thrown -/
theorem c_X0_requireNumber (l : Launch) (hl9 : l.stackTraces = false) (D : va_G) (tys : kz_Y) (ws : va_W) (sz : Nat) (p0 : Int32) : ez_M l yX0_requireNumber wsX0_requireNumber ({ frames := 6, cells := 1, slots := 6, locals := 90 } : Room) (kz_P D tys ws sz [.int p0]) (kz_Ro (kz_v (sq_N p0 = true))) (kz_T (fun _ => IAE) (fun _ => sq_N p0 = false)) 0 0 (fun _ => False) := by
  refine ez_ofW (cc := cX0_requireNumber) (maxL := 1) (ret := none) (by decide) rfl ?_
  intro p e s m args below meth c s₁ B hml hTab hv
  obtain ⟨rfl, hsz, hP, hK, hD0, hE⟩ := hv
  have hx := B.exec
  have hb := B.bytes
  have hr := B.returns
  have hw9 : ∀ w ∈ kz_W9, w.before ([.int p0] : List Value).toArray s = true := fun w h => atoms_spec (ws := wsX0_requireNumber) B.pre w (List.mem_cons_of_mem _ h)
  have hown : s.vm.findClass RX0 = some m.cls := findClass_of_methodNamed B.named
  have hlocks := B.notSynchronized
  subst hsz
  have hD := hD0.self (sz := s.heap.size)
  generalize hAe : va_A ws s.heap.size = A at hD hE
  have hA : ∀ q : Nat, s.heap.size ≤ q → A q := fun q h => by rw [← hAe]; exact Or.inr h
  have hS : va_S A s.heap s.heap [] := va_S.rf
  have hO : kz_O s.heap s.heap := kz_O.rf _
  have hl := lv_entry ([.int p0]) (n := 1) (Nat.le_of_ble_eq_true rfl)
  rw [lg_entry_eq]
  generalize (lg_sl ([.int p0]) ++ List.replicate (1 - (lg_sl ([.int p0])).length) Slot.unset).toArray = ls at hl ⊢
  have hl : lv_has ls 1 [(0, .int p0)] := hl
  refine lv_iload_n hx hb dX0_requireNumber_0 rfl (lv_at hl 0 rfl) ?_
  refine lv_if_lt (tgt := 10) hx hb dX0_requireNumber_1 (by decide) (fun c_1 => ?_) (fun c_1 => ?_)
  · -- 1 -> 10
    obtain ⟨sa9, hst9⟩ := hE.2.2.1 (144, "no such number") (by decide)
    exact ez_throwS (cls := IAE) (names := EXN) hx hb hl9 hown (by decide +kernel) (by decide +kernel) (hw9 _ mw_101) (hw9 _ mw_6) hst9 (at_IAE hw9 hE) hO.1 (by rw [hml]; exact hl.1) hTab hlocks dX0_requireNumber_10 dX0_requireNumber_13 dX0_requireNumber_14 dX0_requireNumber_16 dX0_requireNumber_19 (by decide) (Nat.le_of_ble_eq_true rfl) (Nat.le_of_ble_eq_true rfl) (Nat.le_of_ble_eq_true rfl) (fun q t ce h1 h2 h3 h4 h5 h6 => ⟨0, ce, (by first | (simp [sq_N, c_1, (Int32.not_le.mpr c_1)]; done) | (simp only [sq_N, c_1, (Int32.not_le.mpr c_1), eq_self, not_true_eq_false, not_false_eq_true, and_self, and_true, true_and, and_false, false_and, or_true, true_or, or_false, false_or, if_true, if_false, ite_true, ite_false, Bool.and_eq_true, decide_true, decide_false, decide_eq_true_eq, ne_eq, Nat.reduceEqDiff, Nat.one_ne_zero, Bool.false_eq_true, reduceCtorEq]; done) | (simp only [sq_N, c_1, (Int32.not_le.mpr c_1), eq_self, not_true_eq_false, not_false_eq_true, and_self, and_true, true_and, and_false, false_and, or_true, true_or, or_false, false_or, if_true, if_false, ite_true, ite_false, Bool.and_eq_true, decide_true, decide_false, decide_eq_true_eq, ne_eq, Nat.reduceEqDiff, Nat.one_ne_zero, Bool.false_eq_true, reduceCtorEq]; decide)), h1, h2, by rw [h4.findClass]; exact h3, h5, h6⟩)
  · -- 1 -> 4
    refine lv_iload_n hx hb dX0_requireNumber_4 rfl (lv_at hl 0 rfl) ?_
    refine lv_ldc (v := 1000000000) hx hb hown (hw9 _ mw_269) dX0_requireNumber_5 ?_
    refine lv_icmp_le (tgt := 20) hx hb dX0_requireNumber_7 (by decide) (fun c_2 => ?_) (fun c_2 => ?_)
    · -- 7 -> 20
      exact kz_retv hx hb hr hlocks hO (by first | (simp [sq_N, c_1, (Int32.not_lt.mp c_1), c_2, (Int32.not_lt.mpr c_2)]; done) | (simp only [sq_N, c_1, (Int32.not_lt.mp c_1), c_2, (Int32.not_lt.mpr c_2), eq_self, not_true_eq_false, not_false_eq_true, and_self, and_true, true_and, and_false, false_and, or_true, true_or, or_false, false_or, if_true, if_false, ite_true, ite_false, Bool.and_eq_true, decide_true, decide_false, decide_eq_true_eq, ne_eq, Nat.reduceEqDiff, Nat.one_ne_zero, Bool.false_eq_true, reduceCtorEq]; done) | (simp only [sq_N, c_1, (Int32.not_lt.mp c_1), c_2, (Int32.not_lt.mpr c_2), eq_self, not_true_eq_false, not_false_eq_true, and_self, and_true, true_and, and_false, false_and, or_true, true_or, or_false, false_or, if_true, if_false, ite_true, ite_false, Bool.and_eq_true, decide_true, decide_false, decide_eq_true_eq, ne_eq, Nat.reduceEqDiff, Nat.one_ne_zero, Bool.false_eq_true, reduceCtorEq]; decide))  dX0_requireNumber_20
    · -- 7 -> 10
      obtain ⟨sa9, hst9⟩ := hE.2.2.1 (144, "no such number") (by decide)
      exact ez_throwS (cls := IAE) (names := EXN) hx hb hl9 hown (by decide +kernel) (by decide +kernel) (hw9 _ mw_101) (hw9 _ mw_6) hst9 (at_IAE hw9 hE) hO.1 (by rw [hml]; exact hl.1) hTab hlocks dX0_requireNumber_10 dX0_requireNumber_13 dX0_requireNumber_14 dX0_requireNumber_16 dX0_requireNumber_19 (by decide) (Nat.le_of_ble_eq_true rfl) (Nat.le_of_ble_eq_true rfl) (Nat.le_of_ble_eq_true rfl) (fun q t ce h1 h2 h3 h4 h5 h6 => ⟨0, ce, (by first | (simp [sq_N, c_1, (Int32.not_lt.mp c_1), c_2, (Int32.not_le.mp c_2)]; done) | (simp only [sq_N, c_1, (Int32.not_lt.mp c_1), c_2, (Int32.not_le.mp c_2), eq_self, not_true_eq_false, not_false_eq_true, and_self, and_true, true_and, and_false, false_and, or_true, true_or, or_false, false_or, if_true, if_false, ite_true, ite_false, Bool.and_eq_true, decide_true, decide_false, decide_eq_true_eq, ne_eq, Nat.reduceEqDiff, Nat.one_ne_zero, Bool.false_eq_true, reduceCtorEq]; done) | (simp only [sq_N, c_1, (Int32.not_lt.mp c_1), c_2, (Int32.not_le.mp c_2), eq_self, not_true_eq_false, not_false_eq_true, and_self, and_true, true_and, and_false, false_and, or_true, true_or, or_false, false_or, if_true, if_false, ite_true, ite_false, Bool.and_eq_true, decide_true, decide_false, decide_eq_true_eq, ne_eq, Nat.reduceEqDiff, Nat.one_ne_zero, Bool.false_eq_true, reduceCtorEq]; decide)), h1, h2, by rw [h4.findClass]; exact h3, h5, h6⟩)
set_option maxHeartbeats 4000000 in
set_option maxRecDepth 100000 in
/-- requireServer: no answer, or thrown -/
theorem c_X0_requireServer (l : Launch) (hl9 : l.stackTraces = false) (D : va_G) (tys : kz_Y) (ws : va_W) (sz : Nat) (p0 : Int32) : ez_M l yX0_requireServer wsX0_requireServer ({ frames := 6, cells := 1, slots := 6, locals := 90 } : Room) (kz_P D tys ws sz [.int p0]) (kz_Ro (kz_v (sq_V p0 = true))) (kz_T (fun _ => IOE) (fun _ => sq_V p0 = false)) 0 0 (fun _ => False) := by
  refine ez_ofW (cc := cX0_requireServer) (maxL := 1) (ret := none) (by decide) rfl ?_
  intro p e s m args below meth c s₁ B hml hTab hv
  obtain ⟨rfl, hsz, hP, hK, hD0, hE⟩ := hv
  have hx := B.exec
  have hb := B.bytes
  have hr := B.returns
  have hw9 : ∀ w ∈ kz_W9, w.before ([.int p0] : List Value).toArray s = true := fun w h => atoms_spec (ws := wsX0_requireServer) B.pre w (List.mem_cons_of_mem _ h)
  have hown : s.vm.findClass RX0 = some m.cls := findClass_of_methodNamed B.named
  have hlocks := B.notSynchronized
  subst hsz
  have hD := hD0.self (sz := s.heap.size)
  generalize hAe : va_A ws s.heap.size = A at hD hE
  have hA : ∀ q : Nat, s.heap.size ≤ q → A q := fun q h => by rw [← hAe]; exact Or.inr h
  have hS : va_S A s.heap s.heap [] := va_S.rf
  have hO : kz_O s.heap s.heap := kz_O.rf _
  have hl := lv_entry ([.int p0]) (n := 1) (Nat.le_of_ble_eq_true rfl)
  rw [lg_entry_eq]
  generalize (lg_sl ([.int p0]) ++ List.replicate (1 - (lg_sl ([.int p0])).length) Slot.unset).toArray = ls at hl ⊢
  have hl : lv_has ls 1 [(0, .int p0)] := hl
  refine lv_iload_n hx hb dX0_requireServer_0 rfl (lv_at hl 0 rfl) ?_
  refine lv_if_lt (tgt := 10) hx hb dX0_requireServer_1 (by decide) (fun c_1 => ?_) (fun c_1 => ?_)
  · -- 1 -> 10
    obtain ⟨sa9, hst9⟩ := hE.2.2.1 (146, "no such server") (by decide)
    exact ez_throwS (cls := IOE) (names := EXN) hx hb hl9 hown (by decide +kernel) (by decide +kernel) (hw9 _ mw_243) (hw9 _ mw_9) hst9 (at_IOE hw9 hE) hO.1 (by rw [hml]; exact hl.1) hTab hlocks dX0_requireServer_10 dX0_requireServer_13 dX0_requireServer_14 dX0_requireServer_16 dX0_requireServer_19 (by decide) (Nat.le_of_ble_eq_true rfl) (Nat.le_of_ble_eq_true rfl) (Nat.le_of_ble_eq_true rfl) (fun q t ce h1 h2 h3 h4 h5 h6 => ⟨0, ce, (by first | (simp [sq_V, c_1, (Int32.not_le.mpr c_1)]; done) | (simp only [sq_V, c_1, (Int32.not_le.mpr c_1), eq_self, not_true_eq_false, not_false_eq_true, and_self, and_true, true_and, and_false, false_and, or_true, true_or, or_false, false_or, if_true, if_false, ite_true, ite_false, Bool.and_eq_true, decide_true, decide_false, decide_eq_true_eq, ne_eq, Nat.reduceEqDiff, Nat.one_ne_zero, Bool.false_eq_true, reduceCtorEq]; done) | (simp only [sq_V, c_1, (Int32.not_le.mpr c_1), eq_self, not_true_eq_false, not_false_eq_true, and_self, and_true, true_and, and_false, false_and, or_true, true_or, or_false, false_or, if_true, if_false, ite_true, ite_false, Bool.and_eq_true, decide_true, decide_false, decide_eq_true_eq, ne_eq, Nat.reduceEqDiff, Nat.one_ne_zero, Bool.false_eq_true, reduceCtorEq]; decide)), h1, h2, by rw [h4.findClass]; exact h3, h5, h6⟩)
  · -- 1 -> 4
    refine lv_iload_n hx hb dX0_requireServer_4 rfl (lv_at hl 0 rfl) ?_
    refine lv_bipush (v := 7) hx hb dX0_requireServer_5 (by decide) ?_
    refine lv_icmp_lt (tgt := 20) hx hb dX0_requireServer_7 (by decide) (fun c_2 => ?_) (fun c_2 => ?_)
    · -- 7 -> 20
      exact kz_retv hx hb hr hlocks hO (by first | (simp [sq_V, c_1, (Int32.not_lt.mp c_1), c_2, (Int32.not_le.mpr c_2)]; done) | (simp only [sq_V, c_1, (Int32.not_lt.mp c_1), c_2, (Int32.not_le.mpr c_2), eq_self, not_true_eq_false, not_false_eq_true, and_self, and_true, true_and, and_false, false_and, or_true, true_or, or_false, false_or, if_true, if_false, ite_true, ite_false, Bool.and_eq_true, decide_true, decide_false, decide_eq_true_eq, ne_eq, Nat.reduceEqDiff, Nat.one_ne_zero, Bool.false_eq_true, reduceCtorEq]; done) | (simp only [sq_V, c_1, (Int32.not_lt.mp c_1), c_2, (Int32.not_le.mpr c_2), eq_self, not_true_eq_false, not_false_eq_true, and_self, and_true, true_and, and_false, false_and, or_true, true_or, or_false, false_or, if_true, if_false, ite_true, ite_false, Bool.and_eq_true, decide_true, decide_false, decide_eq_true_eq, ne_eq, Nat.reduceEqDiff, Nat.one_ne_zero, Bool.false_eq_true, reduceCtorEq]; decide))  dX0_requireServer_20
    · -- 7 -> 10
      obtain ⟨sa9, hst9⟩ := hE.2.2.1 (146, "no such server") (by decide)
      exact ez_throwS (cls := IOE) (names := EXN) hx hb hl9 hown (by decide +kernel) (by decide +kernel) (hw9 _ mw_243) (hw9 _ mw_9) hst9 (at_IOE hw9 hE) hO.1 (by rw [hml]; exact hl.1) hTab hlocks dX0_requireServer_10 dX0_requireServer_13 dX0_requireServer_14 dX0_requireServer_16 dX0_requireServer_19 (by decide) (Nat.le_of_ble_eq_true rfl) (Nat.le_of_ble_eq_true rfl) (Nat.le_of_ble_eq_true rfl) (fun q t ce h1 h2 h3 h4 h5 h6 => ⟨0, ce, (by first | (simp [sq_V, c_1, (Int32.not_lt.mp c_1), c_2, (Int32.not_lt.mp c_2)]; done) | (simp only [sq_V, c_1, (Int32.not_lt.mp c_1), c_2, (Int32.not_lt.mp c_2), eq_self, not_true_eq_false, not_false_eq_true, and_self, and_true, true_and, and_false, false_and, or_true, true_or, or_false, false_or, if_true, if_false, ite_true, ite_false, Bool.and_eq_true, decide_true, decide_false, decide_eq_true_eq, ne_eq, Nat.reduceEqDiff, Nat.one_ne_zero, Bool.false_eq_true, reduceCtorEq]; done) | (simp only [sq_V, c_1, (Int32.not_lt.mp c_1), c_2, (Int32.not_lt.mp c_2), eq_self, not_true_eq_false, not_false_eq_true, and_self, and_true, true_and, and_false, false_and, or_true, true_or, or_false, false_or, if_true, if_false, ite_true, ite_false, Bool.and_eq_true, decide_true, decide_false, decide_eq_true_eq, ne_eq, Nat.reduceEqDiff, Nat.one_ne_zero, Bool.false_eq_true, reduceCtorEq]; decide)), h1, h2, by rw [h4.findClass]; exact h3, h5, h6⟩)
set_option maxHeartbeats 4000000 in
set_option maxRecDepth 100000 in
/-- isIn -/
theorem c_X0_isIn (l : Launch) (hl9 : l.stackTraces = false) (D : va_G) (tys : kz_Y) (ws : va_W) (sz : Nat) (p0 : Int32) (p1 : Int32) : ez_M l yX0_isIn wsX0_isIn ({ frames := 0, cells := 1, slots := 6, locals := 0 } : Room) (kz_P D tys ws sz [.int p0, .int p1]) (kz_Ro (kz_i (fun r9 => r9 = (sq_z (sq_I p0 p1))))) (kz_T (fun _ => IAE) (fun _ => False)) 0 0 (fun _ => False) := by
  refine ez_ofW (cc := cX0_isIn) (maxL := 2) (ret := (some .boolean)) (by decide) rfl ?_
  intro p e s m args below meth c s₁ B hml hTab hv
  obtain ⟨rfl, hsz, hP, hK, hD0, hE⟩ := hv
  have hx := B.exec
  have hb := B.bytes
  have hr := B.returns
  have hw9 : ∀ w ∈ kz_W9, w.before ([.int p0, .int p1] : List Value).toArray s = true := fun w h => atoms_spec (ws := wsX0_isIn) B.pre w (List.mem_cons_of_mem _ h)
  have hown : s.vm.findClass RX0 = some m.cls := findClass_of_methodNamed B.named
  have hlocks := B.notSynchronized
  subst hsz
  have hD := hD0.self (sz := s.heap.size)
  generalize hAe : va_A ws s.heap.size = A at hD hE
  have hA : ∀ q : Nat, s.heap.size ≤ q → A q := fun q h => by rw [← hAe]; exact Or.inr h
  have hS : va_S A s.heap s.heap [] := va_S.rf
  have hO : kz_O s.heap s.heap := kz_O.rf _
  have hl := lv_entry ([.int p0, .int p1]) (n := 2) (Nat.le_of_ble_eq_true rfl)
  rw [lg_entry_eq]
  generalize (lg_sl ([.int p0, .int p1]) ++ List.replicate (2 - (lg_sl ([.int p0, .int p1])).length) Slot.unset).toArray = ls at hl ⊢
  have hl : lv_has ls 2 [(0, .int p0), (1, .int p1)] := hl
  refine lv_iload_n hx hb dX0_isIn_0 rfl (lv_at hl 0 rfl) ?_
  refine lv_iconst (v := 1) hx hb dX0_isIn_1 (by decide) ?_
  refine lv_iload_n hx hb dX0_isIn_2 rfl (lv_at hl 1 rfl) ?_
  refine lv_ishl hx hb dX0_isIn_3 ?_
  refine lv_iand hx hb dX0_isIn_4 ?_
  refine lv_if_eq (tgt := 12) hx hb dX0_isIn_5 (by decide) (fun c_1 => ?_) (fun c_1 => ?_)
  · -- 5 -> 12
    refine lv_iconst (v := 0) hx hb dX0_isIn_12 (by decide) ?_
    exact kz_retz hx hb hr hlocks hO (by first | (simp [sq_z, sq_I, sq_1, c_1]; done) | (simp only [sq_z, sq_I, sq_1, c_1, eq_self, not_true_eq_false, not_false_eq_true, and_self, and_true, true_and, and_false, false_and, or_true, true_or, or_false, false_or, if_true, if_false, ite_true, ite_false, Bool.and_eq_true, decide_true, decide_false, decide_eq_true_eq, ne_eq, Nat.reduceEqDiff, Nat.one_ne_zero, Bool.false_eq_true, reduceCtorEq]; done) | (simp only [sq_z, sq_I, sq_1, c_1, eq_self, not_true_eq_false, not_false_eq_true, and_self, and_true, true_and, and_false, false_and, or_true, true_or, or_false, false_or, if_true, if_false, ite_true, ite_false, Bool.and_eq_true, decide_true, decide_false, decide_eq_true_eq, ne_eq, Nat.reduceEqDiff, Nat.one_ne_zero, Bool.false_eq_true, reduceCtorEq]; decide)) rfl dX0_isIn_13
  · -- 5 -> 8
    refine lv_iconst (v := 1) hx hb dX0_isIn_8 (by decide) ?_
    refine lv_goto (tgt := 13) hx hb dX0_isIn_9 (by decide) ?_
    exact kz_retz hx hb hr hlocks hO (by first | (simp [sq_z, sq_I, sq_1, c_1]; done) | (simp only [sq_z, sq_I, sq_1, c_1, eq_self, not_true_eq_false, not_false_eq_true, and_self, and_true, true_and, and_false, false_and, or_true, true_or, or_false, false_or, if_true, if_false, ite_true, ite_false, Bool.and_eq_true, decide_true, decide_false, decide_eq_true_eq, ne_eq, Nat.reduceEqDiff, Nat.one_ne_zero, Bool.false_eq_true, reduceCtorEq]; done) | (simp only [sq_z, sq_I, sq_1, c_1, eq_self, not_true_eq_false, not_false_eq_true, and_self, and_true, true_and, and_false, false_and, or_true, true_or, or_false, false_or, if_true, if_false, ite_true, ite_false, Bool.and_eq_true, decide_true, decide_false, decide_eq_true_eq, ne_eq, Nat.reduceEqDiff, Nat.one_ne_zero, Bool.false_eq_true, reduceCtorEq]; decide)) rfl dX0_isIn_13
set_option maxHeartbeats 4000000 in
set_option maxRecDepth 100000 in
/-- Integer.bitCount -/
theorem c_J6_bitCount (l : Launch) (hl9 : l.stackTraces = false) (D : va_G) (tys : kz_Y) (ws : va_W) (sz : Nat) (p0 : Int32) : ez_M l yJ6_bitCount wsJ6_bitCount ({ frames := 0, cells := 1, slots := 6, locals := 0 } : Room) (kz_P D tys ws sz [.int p0]) (kz_Ro (kz_i (fun r9 => r9 = (sq_B p0)))) (kz_T (fun _ => IAE) (fun _ => False)) 0 0 (fun _ => False) := by
  refine ez_ofW (cc := cJ6_bitCount) (maxL := 1) (ret := (some .int)) (by decide) rfl ?_
  intro p e s m args below meth c s₁ B hml hTab hv
  obtain ⟨rfl, hsz, hP, hK, hD0, hE⟩ := hv
  have hx := B.exec
  have hb := B.bytes
  have hr := B.returns
  have hw9 : ∀ w ∈ kz_W9, w.before ([.int p0] : List Value).toArray s = true := fun w h => atoms_spec (ws := wsJ6_bitCount) B.pre w (List.mem_cons_of_mem _ h)
  have hown : s.vm.findClass RJ6 = some m.cls := findClass_of_methodNamed B.named
  have hlocks := B.notSynchronized
  subst hsz
  have hD := hD0.self (sz := s.heap.size)
  generalize hAe : va_A ws s.heap.size = A at hD hE
  have hA : ∀ q : Nat, s.heap.size ≤ q → A q := fun q h => by rw [← hAe]; exact Or.inr h
  have hS : va_S A s.heap s.heap [] := va_S.rf
  have hO : kz_O s.heap s.heap := kz_O.rf _
  have hl := lv_entry ([.int p0]) (n := 1) (Nat.le_of_ble_eq_true rfl)
  rw [lg_entry_eq]
  generalize (lg_sl ([.int p0]) ++ List.replicate (1 - (lg_sl ([.int p0])).length) Slot.unset).toArray = ls at hl ⊢
  have hl : lv_has ls 1 [(0, .int p0)] := hl
  refine lv_iload_n hx hb dJ6_bitCount_0 rfl (lv_at hl 0 rfl) ?_
  refine lv_iload_n hx hb dJ6_bitCount_1 rfl (lv_at hl 0 rfl) ?_
  refine lv_iconst (v := 1) hx hb dJ6_bitCount_2 (by decide) ?_
  refine lv_iushr (v := (sq_u p0 1)) hx hb dJ6_bitCount_3 rfl ?_
  refine lv_ldcw (v := 1431655765) hx hb hown (hw9 _ mw_229) dJ6_bitCount_4 ?_
  refine lv_iand hx hb dJ6_bitCount_7 ?_
  refine lv_isub hx hb dJ6_bitCount_8 ?_
  refine lv_topi (fun x_1 ex_1 => ?_)
  refine lv_istore_n (lv' := [(0, .int x_1)]) hx hb dJ6_bitCount_9 rfl hl (by decide) rfl (fun ls hl => ?_)
  refine lv_iload_n hx hb dJ6_bitCount_10 rfl (lv_at hl 0 rfl) ?_
  refine lv_ldcw (v := 858993459) hx hb hown (hw9 _ mw_230) dJ6_bitCount_11 ?_
  refine lv_iand hx hb dJ6_bitCount_14 ?_
  refine lv_iload_n hx hb dJ6_bitCount_15 rfl (lv_at hl 0 rfl) ?_
  refine lv_iconst (v := 2) hx hb dJ6_bitCount_16 (by decide) ?_
  refine lv_iushr (v := (sq_u x_1 2)) hx hb dJ6_bitCount_17 rfl ?_
  refine lv_ldcw (v := 858993459) hx hb hown (hw9 _ mw_230) dJ6_bitCount_18 ?_
  refine lv_iand hx hb dJ6_bitCount_21 ?_
  refine lv_iadd hx hb dJ6_bitCount_22 ?_
  refine lv_topi (fun x_2 ex_2 => ?_)
  refine lv_istore_n (lv' := [(0, .int x_2)]) hx hb dJ6_bitCount_23 rfl hl (by decide) rfl (fun ls hl => ?_)
  refine lv_iload_n hx hb dJ6_bitCount_24 rfl (lv_at hl 0 rfl) ?_
  refine lv_iload_n hx hb dJ6_bitCount_25 rfl (lv_at hl 0 rfl) ?_
  refine lv_iconst (v := 4) hx hb dJ6_bitCount_26 (by decide) ?_
  refine lv_iushr (v := (sq_u x_2 4)) hx hb dJ6_bitCount_27 rfl ?_
  refine lv_iadd hx hb dJ6_bitCount_28 ?_
  refine lv_ldcw (v := 252645135) hx hb hown (hw9 _ mw_231) dJ6_bitCount_29 ?_
  refine lv_iand hx hb dJ6_bitCount_32 ?_
  refine lv_topi (fun x_3 ex_3 => ?_)
  refine lv_istore_n (lv' := [(0, .int x_3)]) hx hb dJ6_bitCount_33 rfl hl (by decide) rfl (fun ls hl => ?_)
  refine lv_iload_n hx hb dJ6_bitCount_34 rfl (lv_at hl 0 rfl) ?_
  refine lv_iload_n hx hb dJ6_bitCount_35 rfl (lv_at hl 0 rfl) ?_
  refine lv_bipush (v := 8) hx hb dJ6_bitCount_36 (by decide) ?_
  refine lv_iushr (v := (sq_u x_3 8)) hx hb dJ6_bitCount_38 rfl ?_
  refine lv_iadd hx hb dJ6_bitCount_39 ?_
  refine lv_topi (fun x_4 ex_4 => ?_)
  refine lv_istore_n (lv' := [(0, .int x_4)]) hx hb dJ6_bitCount_40 rfl hl (by decide) rfl (fun ls hl => ?_)
  refine lv_iload_n hx hb dJ6_bitCount_41 rfl (lv_at hl 0 rfl) ?_
  refine lv_iload_n hx hb dJ6_bitCount_42 rfl (lv_at hl 0 rfl) ?_
  refine lv_bipush (v := 16) hx hb dJ6_bitCount_43 (by decide) ?_
  refine lv_iushr (v := (sq_u x_4 16)) hx hb dJ6_bitCount_45 rfl ?_
  refine lv_iadd hx hb dJ6_bitCount_46 ?_
  refine lv_topi (fun x_5 ex_5 => ?_)
  refine lv_istore_n (lv' := [(0, .int x_5)]) hx hb dJ6_bitCount_47 rfl hl (by decide) rfl (fun ls hl => ?_)
  refine lv_iload_n hx hb dJ6_bitCount_48 rfl (lv_at hl 0 rfl) ?_
  refine lv_bipush (v := 63) hx hb dJ6_bitCount_49 (by decide) ?_
  refine lv_iand hx hb dJ6_bitCount_51 ?_
  exact kz_reti hx hb hr hlocks hO (by rw [ex_5, ex_4, ex_3, ex_2, ex_1]; rfl)  dJ6_bitCount_52
set_option maxHeartbeats 4000000 in
set_option maxRecDepth 100000 in
theorem c_X0_isMoreThanHalf (l : Launch) (hl9 : l.stackTraces = false) (D : va_G) (tys : kz_Y) (ws : va_W) (sz : Nat) (p0 : Int32) (p1 : Int32) : ez_M l yX0_isMoreThanHalf wsX0_isMoreThanHalf ({ frames := 1, cells := 1, slots := 6, locals := 20 } : Room) (kz_P D tys ws sz [.int p0, .int p1]) (kz_Ro (kz_i (fun r9 => r9 = (sq_z (sq_H p0 p1))))) (kz_T (fun _ => IAE) (fun _ => False)) 0 0 (fun _ => False) := by
  refine ez_ofW (cc := cX0_isMoreThanHalf) (maxL := 2) (ret := (some .boolean)) (by decide) rfl ?_
  intro p e s m args below meth c s₁ B hml hTab hv
  obtain ⟨rfl, hsz, hP, hK, hD0, hE⟩ := hv
  have hx := B.exec
  have hb := B.bytes
  have hr := B.returns
  have hw9 : ∀ w ∈ kz_W9, w.before ([.int p0, .int p1] : List Value).toArray s = true := fun w h => atoms_spec (ws := wsX0_isMoreThanHalf) B.pre w (List.mem_cons_of_mem _ h)
  have hown : s.vm.findClass RX0 = some m.cls := findClass_of_methodNamed B.named
  have hlocks := B.notSynchronized
  subst hsz
  have hD := hD0.self (sz := s.heap.size)
  generalize hAe : va_A ws s.heap.size = A at hD hE
  have hA : ∀ q : Nat, s.heap.size ≤ q → A q := fun q h => by rw [← hAe]; exact Or.inr h
  have hS : va_S A s.heap s.heap [] := va_S.rf
  have hO : kz_O s.heap s.heap := kz_O.rf _
  have hl := lv_entry ([.int p0, .int p1]) (n := 2) (Nat.le_of_ble_eq_true rfl)
  rw [lg_entry_eq]
  generalize (lg_sl ([.int p0, .int p1]) ++ List.replicate (2 - (lg_sl ([.int p0, .int p1])).length) Slot.unset).toArray = ls at hl ⊢
  have hl : lv_has ls 2 [(0, .int p0), (1, .int p1)] := hl
  refine lv_iconst (v := 2) hx hb dX0_isMoreThanHalf_0 (by decide) ?_
  refine lv_iload_n hx hb dX0_isMoreThanHalf_1 rfl (lv_at hl 0 rfl) ?_
  refine lv_iload_n hx hb dX0_isMoreThanHalf_2 rfl (lv_at hl 1 rfl) ?_
  refine lv_iand hx hb dX0_isMoreThanHalf_3 ?_
  refine kz_rS (As := [.int (p0 &&& p1)]) (rest := [.int 2]) ⟨hx, hb, hml, hown, hw9⟩ (c_J6_bitCount l hl9 D tys ws s.heap.size (p0 &&& p1)) (kz_cS 1 hw9 mw_226 mw_227 mw_8 mw_228 rfl rfl (by decide +kernel) ⟨Nat.le_of_ble_eq_true rfl, Nat.le_of_ble_eq_true rfl⟩) (kz_preS hK hP hD hS hA hE) rfl hl.1 rfl (Nat.le_of_ble_eq_true rfl) dX0_isMoreThanHalf_4 ⟨Nat.le_of_ble_eq_true rfl, Nat.le_of_ble_eq_true rfl⟩ (fun _ _ _ _ h => False.elim h) (fun v9 H hv9 hO1 => ?_)
  obtain ⟨_, rfl, rfl⟩ := hv9
  have hP := hO1.P hP
  have hS := hO1.S hS
  have hO := hO.tr hO1
  refine W.eq (g2 := F0 m 7 ls [.int (sq_B (p0 &&& p1)), .int 2]) rfl ?_
  refine lv_imul hx hb dX0_isMoreThanHalf_7 ?_
  refine lv_iload_n hx hb dX0_isMoreThanHalf_8 rfl (lv_at hl 1 rfl) ?_
  refine kz_rS (As := [.int p1]) (rest := [.int (2 * (sq_B (p0 &&& p1)))]) ⟨hx, hb, hml, hown, hw9⟩ (c_J6_bitCount l hl9 D tys ws H.size p1) (kz_cS 1 hw9 mw_226 mw_227 mw_8 mw_228 rfl rfl (by decide +kernel) ⟨Nat.le_of_ble_eq_true rfl, Nat.le_of_ble_eq_true rfl⟩) (kz_preS hK hP hD hS hA hE) rfl hl.1 rfl (Nat.le_of_ble_eq_true rfl) dX0_isMoreThanHalf_9 ⟨Nat.le_of_ble_eq_true rfl, Nat.le_of_ble_eq_true rfl⟩ (fun _ _ _ _ h => False.elim h) (fun v9 H hv9 hO1 => ?_)
  obtain ⟨_, rfl, rfl⟩ := hv9
  have hP := hO1.P hP
  have hS := hO1.S hS
  have hO := hO.tr hO1
  refine W.eq (g2 := F0 m 12 ls [.int (sq_B p1), .int (2 * (sq_B (p0 &&& p1)))]) rfl ?_
  refine lv_icmp_le (tgt := 19) hx hb dX0_isMoreThanHalf_12 (by decide) (fun c_1 => ?_) (fun c_1 => ?_)
  · -- 12 -> 19
    refine lv_iconst (v := 0) hx hb dX0_isMoreThanHalf_19 (by decide) ?_
    exact kz_retz hx hb hr hlocks hO (by first | (simp [sq_z, sq_H, c_1, (Int32.not_lt.mpr c_1)]; done) | (simp only [sq_z, sq_H, c_1, (Int32.not_lt.mpr c_1), eq_self, not_true_eq_false, not_false_eq_true, and_self, and_true, true_and, and_false, false_and, or_true, true_or, or_false, false_or, if_true, if_false, ite_true, ite_false, Bool.and_eq_true, decide_true, decide_false, decide_eq_true_eq, ne_eq, Nat.reduceEqDiff, Nat.one_ne_zero, Bool.false_eq_true, reduceCtorEq]; done) | (simp only [sq_z, sq_H, c_1, (Int32.not_lt.mpr c_1), eq_self, not_true_eq_false, not_false_eq_true, and_self, and_true, true_and, and_false, false_and, or_true, true_or, or_false, false_or, if_true, if_false, ite_true, ite_false, Bool.and_eq_true, decide_true, decide_false, decide_eq_true_eq, ne_eq, Nat.reduceEqDiff, Nat.one_ne_zero, Bool.false_eq_true, reduceCtorEq]; decide)) rfl dX0_isMoreThanHalf_20
  · -- 12 -> 15
    refine lv_iconst (v := 1) hx hb dX0_isMoreThanHalf_15 (by decide) ?_
    refine lv_goto (tgt := 20) hx hb dX0_isMoreThanHalf_16 (by decide) ?_
    exact kz_retz hx hb hr hlocks hO (by first | (simp [sq_z, sq_H, c_1, (Int32.not_le.mp c_1)]; done) | (simp only [sq_z, sq_H, c_1, (Int32.not_le.mp c_1), eq_self, not_true_eq_false, not_false_eq_true, and_self, and_true, true_and, and_false, false_and, or_true, true_or, or_false, false_or, if_true, if_false, ite_true, ite_false, Bool.and_eq_true, decide_true, decide_false, decide_eq_true_eq, ne_eq, Nat.reduceEqDiff, Nat.one_ne_zero, Bool.false_eq_true, reduceCtorEq]; done) | (simp only [sq_z, sq_H, c_1, (Int32.not_le.mp c_1), eq_self, not_true_eq_false, not_false_eq_true, and_self, and_true, true_and, and_false, false_and, or_true, true_or, or_false, false_or, if_true, if_false, ite_true, ite_false, Bool.and_eq_true, decide_true, decide_false, decide_eq_true_eq, ne_eq, Nat.reduceEqDiff, Nat.one_ne_zero, Bool.false_eq_true, reduceCtorEq]; decide)) rfl dX0_isMoreThanHalf_20
end
section
set_option maxHeartbeats 4000000 in
set_option maxRecDepth 100000 in
theorem c_X0_thoseWithAtLeast (l : Launch) (hl9 : l.stackTraces = false) (D : va_G) (tys : kz_Y) (ws : va_W) (sz : Nat) (cA : ClassId) (f : Nat → Int32) (q0 t0 : Nat) (a0 : Nat) (p1 : Int32) (hq : ws[q0]? = some (a0, .inl (cA, 7, .inl f))) (ht : tys[t0]? = some (cA, .int)) : ez_M l yX0_thoseWithAtLeast wsX0_thoseWithAtLeast ({ frames := 0, cells := 1, slots := 6, locals := 0 } : Room) (kz_P D tys ws sz [.ref a0, .int p1]) (kz_Ro (kz_i (fun r9 => r9 = (sq_L f p1 7)))) (kz_T (fun _ => IAE) (fun _ => False)) 0 0 (fun _ => False) := by
  refine ez_ofW (cc := cX0_thoseWithAtLeast) (maxL := 4) (ret := (some .int)) (by decide) rfl ?_
  intro p e s m args below meth c s₁ B hml hTab hv
  obtain ⟨rfl, hsz, hP, hK, hD0, hE⟩ := hv
  have hx := B.exec
  have hb := B.bytes
  have hr := B.returns
  have hw9 : ∀ w ∈ kz_W9, w.before ([.ref a0, .int p1] : List Value).toArray s = true := fun w h => atoms_spec (ws := wsX0_thoseWithAtLeast) B.pre w (List.mem_cons_of_mem _ h)
  have hown : s.vm.findClass RX0 = some m.cls := findClass_of_methodNamed B.named
  have hlocks := B.notSynchronized
  subst hsz
  have hD := hD0.self (sz := s.heap.size)
  generalize hAe : va_A ws s.heap.size = A at hD hE
  have hA : ∀ q : Nat, s.heap.size ≤ q → A q := fun q h => by rw [← hAe]; exact Or.inr h
  have hS : va_S A s.heap s.heap [] := va_S.rf
  have hO : kz_O s.heap s.heap := kz_O.rf _
  have hl := lv_entry ([.ref a0, .int p1]) (n := 4) (Nat.le_of_ble_eq_true rfl)
  rw [lg_entry_eq]
  generalize (lg_sl ([.ref a0, .int p1]) ++ List.replicate (4 - (lg_sl ([.ref a0, .int p1])).length) Slot.unset).toArray = ls at hl ⊢
  have hl : lv_has ls 4 [(0, .ref a0), (1, .int p1)] := hl
  refine lv_iconst (v := 0) hx hb dX0_thoseWithAtLeast_0 (by decide) ?_
  refine lv_istore_n (lv' := [(2, .int 0), (0, .ref a0), (1, .int p1)]) hx hb dX0_thoseWithAtLeast_1 rfl hl (by decide) rfl (fun ls hl => ?_)
  refine lv_iconst (v := 0) hx hb dX0_thoseWithAtLeast_2 (by decide) ?_
  refine lv_istore_n (lv' := [(3, .int 0), (2, .int 0), (0, .ref a0), (1, .int p1)]) hx hb dX0_thoseWithAtLeast_3 rfl hl (by decide) rfl (fun ls hl => ?_)
  have loop : ∀ (k i : Nat) (ls : Array Slot), i ≤ 7 → 7 < i + k → lv_has ls 4 [(3, .int (nI i)), (2, .int (sq_L f p1 i)), (0, .ref a0), (1, .int p1)] → W p l e (headSpec wsX0_thoseWithAtLeast ({ frames := 0, cells := 1, slots := 6, locals := 0 } : Room)).room s m ([.ref a0, .int p1] : List Value).toArray below meth c s.heap [] 0 0 (ez_MQ below (kz_Ro (kz_i (fun r9 => r9 = (sq_L f p1 7)))) (kz_T (fun _ => IAE) (fun _ => False)) s 0 0 (fun _ => False)) (F0 m 4 ls []) := by
    intro k
    induction k with
    | zero => intro i ls h1 h2; omega
    | succ k ih =>
      intro i ls h1 h2 hl
      refine lv_iload_n hx hb dX0_thoseWithAtLeast_4 rfl (lv_at hl 0 rfl) ?_
      refine lv_aload_n hx hb dX0_thoseWithAtLeast_5 rfl (lv_at hl 2 rfl) ?_
      refine va_alen (v := 7) hx hb hK hP q0 t0 hq ht rfl dX0_thoseWithAtLeast_6 ?_
      refine lv_icmp_ge (tgt := 29) hx hb dX0_thoseWithAtLeast_7 (by decide) (fun c_1 => ?_) (fun c_1 => ?_)
      · -- 7 -> 29
        refine lv_iload_n hx hb dX0_thoseWithAtLeast_29 rfl (lv_at hl 1 rfl) ?_
        exact kz_reti hx hb hr hlocks hO (by rw [show i = 7 from kz_i7 h1 c_1])  dX0_thoseWithAtLeast_30
      · -- 7 -> 10
        have hi9 : i < 7 := kz_l7 h1 c_1
        have hc9 : (nI i).toNatClampNeg = i := nI_clamp (by omega)
        refine lv_aload_n hx hb dX0_thoseWithAtLeast_10 rfl (lv_at hl 2 rfl) ?_
        refine lv_iload_n hx hb dX0_thoseWithAtLeast_11 rfl (lv_at hl 0 rfl) ?_
        refine va_iald hx hb hK hP q0 t0 hq ht (vp_in_nI hi9 (by decide)) dX0_thoseWithAtLeast_12 ?_
        rw [hc9]
        refine lv_iload_n hx hb dX0_thoseWithAtLeast_13 rfl (lv_at hl 3 rfl) ?_
        refine lv_icmp_lt (tgt := 23) hx hb dX0_thoseWithAtLeast_14 (by decide) (fun c_2 => ?_) (fun c_2 => ?_)
        · -- 14 -> 23
          obtain ⟨v_3, ev_3⟩ : ∃ y : Int32, y = (nI i) + 1 := ⟨_, rfl⟩
          refine lv_iinc (v := v_3) (lv' := [(3, .int v_3), (2, .int (sq_L f p1 i)), (0, .ref a0), (1, .int p1)]) hx hb dX0_thoseWithAtLeast_23 hl (k := 0) rfl (by rw [ev_3]; rfl) (by decide) rfl (fun ls hl => ?_)
          refine lv_goto (tgt := 4) hx hb dX0_thoseWithAtLeast_26 (by decide) ?_
          obtain rfl : v_3 = nI (i + 1) := by rw [ev_3, nI_1]
          have e9 : sq_L f p1 (i + 1) = (sq_L f p1 i) := by show (if p1 ≤ f i then _ else _) = _; rw [if_neg (Int32.not_le.mpr c_2)]
          exact ih (i + 1) ls (by omega) (by omega) (by rw [e9]; exact lv_sub hl [0, 1, 2, 3] rfl)
        · -- 14 -> 17
          refine lv_iload_n hx hb dX0_thoseWithAtLeast_17 rfl (lv_at hl 1 rfl) ?_
          refine lv_iconst (v := 1) hx hb dX0_thoseWithAtLeast_18 (by decide) ?_
          refine lv_iload_n hx hb dX0_thoseWithAtLeast_19 rfl (lv_at hl 0 rfl) ?_
          refine lv_ishl hx hb dX0_thoseWithAtLeast_20 ?_
          refine lv_ior hx hb dX0_thoseWithAtLeast_21 ?_
          refine lv_istore_n (lv' := [(2, .int ((sq_L f p1 i) ||| (1 <<< ((nI i) &&& 31)))), (3, .int (nI i)), (0, .ref a0), (1, .int p1)]) hx hb dX0_thoseWithAtLeast_22 rfl hl (by decide) rfl (fun ls hl => ?_)
          obtain ⟨v_4, ev_4⟩ : ∃ y : Int32, y = (nI i) + 1 := ⟨_, rfl⟩
          refine lv_iinc (v := v_4) (lv' := [(3, .int v_4), (2, .int ((sq_L f p1 i) ||| (1 <<< ((nI i) &&& 31)))), (0, .ref a0), (1, .int p1)]) hx hb dX0_thoseWithAtLeast_23 hl (k := 1) rfl (by rw [ev_4]; rfl) (by decide) rfl (fun ls hl => ?_)
          refine lv_goto (tgt := 4) hx hb dX0_thoseWithAtLeast_26 (by decide) ?_
          obtain rfl : v_4 = nI (i + 1) := by rw [ev_4, nI_1]
          have e9 : sq_L f p1 (i + 1) = ((sq_L f p1 i) ||| (1 <<< ((nI i) &&& 31))) := by show (if p1 ≤ f i then _ else _) = _; rw [if_pos (Int32.not_lt.mp c_2)]; rfl
          exact ih (i + 1) ls (by omega) (by omega) (by rw [e9]; exact lv_sub hl [0, 1, 2, 3] rfl)
  exact loop 8 0 ls (by decide) (by decide) (lv_sub hl [0, 1, 2, 3] rfl)
set_option maxHeartbeats 4000000 in
set_option maxRecDepth 100000 in
theorem c_X0_isMajority (l : Launch) (hl9 : l.stackTraces = false) (D : va_G) (cI cZ : ClassId) (ty : kz_Y) (ad : Nat → Nat) (rs : va_W) (sz : Nat) (it o n g v r : Int32) (nx mt fl pr ofs ak hd an : Nat → Int32) (p0 : Int32) : ez_M l yX0_isMajority wsX0_isMajority ({ frames := 2, cells := 1, slots := 6, locals := 41 } : Room) (kz_P D ((cI, .int) :: (cZ, .boolean) :: ty) (wX ad cI cZ it o n g v r nx mt fl pr ofs ak hd an ++ rs) sz [.ref (ad 0), .int p0]) (kz_Ro (kz_i (fun r9 => r9 = (sq_z (sq_M o n p0))))) (kz_T (fun _ => IAE) (fun _ => False)) 0 0 (fun _ => False) := by
  refine ez_ofW (cc := cX0_isMajority) (maxL := 2) (ret := (some .boolean)) (by decide) rfl ?_
  intro p e s m args below meth c s₁ B hml hTab hv
  obtain ⟨rfl, hsz, hP, hK, hD0, hE⟩ := hv
  have hx := B.exec
  have hb := B.bytes
  have hr := B.returns
  have hw9 : ∀ w ∈ kz_W9, w.before ([.ref (ad 0), .int p0] : List Value).toArray s = true := fun w h => atoms_spec (ws := wsX0_isMajority) B.pre w (List.mem_cons_of_mem _ h)
  have hown : s.vm.findClass RX0 = some m.cls := findClass_of_methodNamed B.named
  have hlocks := B.notSynchronized
  subst hsz
  have hD := hD0.self (sz := s.heap.size)
  generalize hAe : va_A (wX ad cI cZ it o n g v r nx mt fl pr ofs ak hd an ++ rs) s.heap.size = A at hD hE
  have hA : ∀ q : Nat, s.heap.size ≤ q → A q := fun q h => by rw [← hAe]; exact Or.inr h
  have hS : va_S A s.heap s.heap [] := va_S.rf
  have hO : kz_O s.heap s.heap := kz_O.rf _
  have hl := lv_entry ([.ref (ad 0), .int p0]) (n := 2) (Nat.le_of_ble_eq_true rfl)
  rw [lg_entry_eq]
  generalize (lg_sl ([.ref (ad 0), .int p0]) ++ List.replicate (2 - (lg_sl ([.ref (ad 0), .int p0])).length) Slot.unset).toArray = ls at hl ⊢
  have hl : lv_has ls 2 [(0, .ref (ad 0)), (1, .int p0)] := hl
  refine lv_iload_n hx hb dX0_isMajority_0 rfl (lv_at hl 1 rfl) ?_
  refine lv_aload_n hx hb dX0_isMajority_1 rfl (lv_at hl 0 rfl) ?_
  refine va_get (D := D) (ci := 0) (v := .int o) (C := RX0) (T := TX0) (N := 14) hx hb hw9 uX0 hown hK hP 0 rfl rfl 1 (by decide) (hw9 _ mw_20) (fun _ h9 => h9) rfl dX0_isMajority_2 ?_
  refine kz_rS (As := [.int p0, .int o]) (rest := []) ⟨hx, hb, hml, hown, hw9⟩ (c_X0_isMoreThanHalf l hl9 D ((cI, .int) :: (cZ, .boolean) :: ty) (wX ad cI cZ it o n g v r nx mt fl pr ofs ak hd an ++ rs) s.heap.size p0 o) (kz_cS 2 hw9 mw_223 mw_224 mw_1 mw_225 rfl rfl (by decide +kernel) ⟨Nat.le_of_ble_eq_true rfl, Nat.le_of_ble_eq_true rfl⟩) (kz_preS hK hP hD hS hA hE) rfl hl.1 rfl (Nat.le_of_ble_eq_true rfl) dX0_isMajority_5 ⟨Nat.le_of_ble_eq_true rfl, Nat.le_of_ble_eq_true rfl⟩ (fun _ _ _ _ h => False.elim h) (fun v9 H hv9 hO1 => ?_)
  obtain ⟨_, rfl, rfl⟩ := hv9
  have hP := hO1.P hP
  have hS := hO1.S hS
  have hO := hO.tr hO1
  refine W.eq (g2 := F0 m 8 ls [.int (sq_z (sq_H p0 o))]) rfl ?_
  refine lv_if_eq (tgt := 33) hx hb dX0_isMajority_8 (by decide) (fun c_1 => ?_) (fun c_1 => ?_)
  · -- 8 -> 33
    refine lv_iconst (v := 0) hx hb dX0_isMajority_33 (by decide) ?_
    exact kz_retz hx hb hr hlocks hO (by first | (simp [sq_z, sq_M, (sq_z_f c_1)]; done) | (simp only [sq_z, sq_M, (sq_z_f c_1), eq_self, not_true_eq_false, not_false_eq_true, and_self, and_true, true_and, and_false, false_and, or_true, true_or, or_false, false_or, if_true, if_false, ite_true, ite_false, Bool.and_eq_true, decide_true, decide_false, decide_eq_true_eq, ne_eq, Nat.reduceEqDiff, Nat.one_ne_zero, Bool.false_eq_true, reduceCtorEq]; done) | (simp only [sq_z, sq_M, (sq_z_f c_1), eq_self, not_true_eq_false, not_false_eq_true, and_self, and_true, true_and, and_false, false_and, or_true, true_or, or_false, false_or, if_true, if_false, ite_true, ite_false, Bool.and_eq_true, decide_true, decide_false, decide_eq_true_eq, ne_eq, Nat.reduceEqDiff, Nat.one_ne_zero, Bool.false_eq_true, reduceCtorEq]; decide)) rfl dX0_isMajority_34
  · -- 8 -> 11
    refine lv_aload_n hx hb dX0_isMajority_11 rfl (lv_at hl 0 rfl) ?_
    refine va_get (D := D) (ci := 0) (v := .int n) (C := RX0) (T := TX0) (N := 14) hx hb hw9 uX0 hown hK hP 0 rfl rfl 2 (by decide) (hw9 _ mw_21) (fun _ h9 => h9) rfl dX0_isMajority_12 ?_
    refine lv_if_eq (tgt := 29) hx hb dX0_isMajority_15 (by decide) (fun c_2 => ?_) (fun c_2 => ?_)
    · -- 15 -> 29
      refine lv_iconst (v := 1) hx hb dX0_isMajority_29 (by decide) ?_
      refine lv_goto (tgt := 34) hx hb dX0_isMajority_30 (by decide) ?_
      exact kz_retz hx hb hr hlocks hO (by first | (simp [sq_z, sq_M, (sq_z_t c_1), c_2]; done) | (simp only [sq_z, sq_M, (sq_z_t c_1), c_2, eq_self, not_true_eq_false, not_false_eq_true, and_self, and_true, true_and, and_false, false_and, or_true, true_or, or_false, false_or, if_true, if_false, ite_true, ite_false, Bool.and_eq_true, decide_true, decide_false, decide_eq_true_eq, ne_eq, Nat.reduceEqDiff, Nat.one_ne_zero, Bool.false_eq_true, reduceCtorEq]; done) | (simp only [sq_z, sq_M, (sq_z_t c_1), c_2, eq_self, not_true_eq_false, not_false_eq_true, and_self, and_true, true_and, and_false, false_and, or_true, true_or, or_false, false_or, if_true, if_false, ite_true, ite_false, Bool.and_eq_true, decide_true, decide_false, decide_eq_true_eq, ne_eq, Nat.reduceEqDiff, Nat.one_ne_zero, Bool.false_eq_true, reduceCtorEq]; decide)) rfl dX0_isMajority_34
    · -- 15 -> 18
      refine lv_iload_n hx hb dX0_isMajority_18 rfl (lv_at hl 1 rfl) ?_
      refine lv_aload_n hx hb dX0_isMajority_19 rfl (lv_at hl 0 rfl) ?_
      refine va_get (D := D) (ci := 0) (v := .int n) (C := RX0) (T := TX0) (N := 14) hx hb hw9 uX0 hown hK hP 0 rfl rfl 2 (by decide) (hw9 _ mw_21) (fun _ h9 => h9) rfl dX0_isMajority_20 ?_
      refine kz_rS (As := [.int p0, .int n]) (rest := []) ⟨hx, hb, hml, hown, hw9⟩ (c_X0_isMoreThanHalf l hl9 D ((cI, .int) :: (cZ, .boolean) :: ty) (wX ad cI cZ it o n g v r nx mt fl pr ofs ak hd an ++ rs) H.size p0 n) (kz_cS 2 hw9 mw_223 mw_224 mw_1 mw_225 rfl rfl (by decide +kernel) ⟨Nat.le_of_ble_eq_true rfl, Nat.le_of_ble_eq_true rfl⟩) (kz_preS hK hP hD hS hA hE) rfl hl.1 rfl (Nat.le_of_ble_eq_true rfl) dX0_isMajority_23 ⟨Nat.le_of_ble_eq_true rfl, Nat.le_of_ble_eq_true rfl⟩ (fun _ _ _ _ h => False.elim h) (fun v9 H hv9 hO1 => ?_)
      obtain ⟨_, rfl, rfl⟩ := hv9
      have hP := hO1.P hP
      have hS := hO1.S hS
      have hO := hO.tr hO1
      refine W.eq (g2 := F0 m 26 ls [.int (sq_z (sq_H p0 n))]) rfl ?_
      refine lv_if_eq (tgt := 33) hx hb dX0_isMajority_26 (by decide) (fun c_3 => ?_) (fun c_3 => ?_)
      · -- 26 -> 33
        refine lv_iconst (v := 0) hx hb dX0_isMajority_33 (by decide) ?_
        exact kz_retz hx hb hr hlocks hO (by first | (simp [sq_z, sq_M, (sq_z_t c_1), c_2, (sq_z_f c_3)]; done) | (simp only [sq_z, sq_M, (sq_z_t c_1), c_2, (sq_z_f c_3), eq_self, not_true_eq_false, not_false_eq_true, and_self, and_true, true_and, and_false, false_and, or_true, true_or, or_false, false_or, if_true, if_false, ite_true, ite_false, Bool.and_eq_true, decide_true, decide_false, decide_eq_true_eq, ne_eq, Nat.reduceEqDiff, Nat.one_ne_zero, Bool.false_eq_true, reduceCtorEq]; done) | (simp only [sq_z, sq_M, (sq_z_t c_1), c_2, (sq_z_f c_3), eq_self, not_true_eq_false, not_false_eq_true, and_self, and_true, true_and, and_false, false_and, or_true, true_or, or_false, false_or, if_true, if_false, ite_true, ite_false, Bool.and_eq_true, decide_true, decide_false, decide_eq_true_eq, ne_eq, Nat.reduceEqDiff, Nat.one_ne_zero, Bool.false_eq_true, reduceCtorEq]; decide)) rfl dX0_isMajority_34
      · -- 26 -> 29
        refine lv_iconst (v := 1) hx hb dX0_isMajority_29 (by decide) ?_
        refine lv_goto (tgt := 34) hx hb dX0_isMajority_30 (by decide) ?_
        exact kz_retz hx hb hr hlocks hO (by first | (simp [sq_z, sq_M, (sq_z_t c_1), c_2, (sq_z_t c_3)]; done) | (simp only [sq_z, sq_M, (sq_z_t c_1), c_2, (sq_z_t c_3), eq_self, not_true_eq_false, not_false_eq_true, and_self, and_true, true_and, and_false, false_and, or_true, true_or, or_false, false_or, if_true, if_false, ite_true, ite_false, Bool.and_eq_true, decide_true, decide_false, decide_eq_true_eq, ne_eq, Nat.reduceEqDiff, Nat.one_ne_zero, Bool.false_eq_true, reduceCtorEq]; done) | (simp only [sq_z, sq_M, (sq_z_t c_1), c_2, (sq_z_t c_3), eq_self, not_true_eq_false, not_false_eq_true, and_self, and_true, true_and, and_false, false_and, or_true, true_or, or_false, false_or, if_true, if_false, ite_true, ite_false, Bool.and_eq_true, decide_true, decide_false, decide_eq_true_eq, ne_eq, Nat.reduceEqDiff, Nat.one_ne_zero, Bool.false_eq_true, reduceCtorEq]; decide)) rfl dX0_isMajority_34
set_option maxHeartbeats 4000000 in
set_option maxRecDepth 100000 in
theorem c_X0_voterSet (l : Launch) (hl9 : l.stackTraces = false) (D : va_G) (cI cZ : ClassId) (ty : kz_Y) (ad : Nat → Nat) (rs : va_W) (sz : Nat) (it o n g v r : Int32) (nx mt fl pr ofs ak hd an : Nat → Int32) : ez_M l yX0_voterSet wsX0_voterSet ({ frames := 0, cells := 1, slots := 6, locals := 0 } : Room) (kz_P D ((cI, .int) :: (cZ, .boolean) :: ty) (wX ad cI cZ it o n g v r nx mt fl pr ofs ak hd an ++ rs) sz [.ref (ad 0)]) (kz_Ro (kz_i (fun r9 => r9 = (o ||| n)))) (kz_T (fun _ => IAE) (fun _ => False)) 0 0 (fun _ => False) := by
  refine ez_ofW (cc := cX0_voterSet) (maxL := 1) (ret := (some .int)) (by decide) rfl ?_
  intro p e s m args below meth c s₁ B hml hTab hv
  obtain ⟨rfl, hsz, hP, hK, hD0, hE⟩ := hv
  have hx := B.exec
  have hb := B.bytes
  have hr := B.returns
  have hw9 : ∀ w ∈ kz_W9, w.before ([.ref (ad 0)] : List Value).toArray s = true := fun w h => atoms_spec (ws := wsX0_voterSet) B.pre w (List.mem_cons_of_mem _ h)
  have hown : s.vm.findClass RX0 = some m.cls := findClass_of_methodNamed B.named
  have hlocks := B.notSynchronized
  subst hsz
  have hD := hD0.self (sz := s.heap.size)
  generalize hAe : va_A (wX ad cI cZ it o n g v r nx mt fl pr ofs ak hd an ++ rs) s.heap.size = A at hD hE
  have hA : ∀ q : Nat, s.heap.size ≤ q → A q := fun q h => by rw [← hAe]; exact Or.inr h
  have hS : va_S A s.heap s.heap [] := va_S.rf
  have hO : kz_O s.heap s.heap := kz_O.rf _
  have hl := lv_entry ([.ref (ad 0)]) (n := 1) (Nat.le_of_ble_eq_true rfl)
  rw [lg_entry_eq]
  generalize (lg_sl ([.ref (ad 0)]) ++ List.replicate (1 - (lg_sl ([.ref (ad 0)])).length) Slot.unset).toArray = ls at hl ⊢
  have hl : lv_has ls 1 [(0, .ref (ad 0))] := hl
  refine lv_aload_n hx hb dX0_voterSet_0 rfl (lv_at hl 0 rfl) ?_
  refine va_get (D := D) (ci := 0) (v := .int o) (C := RX0) (T := TX0) (N := 14) hx hb hw9 uX0 hown hK hP 0 rfl rfl 1 (by decide) (hw9 _ mw_20) (fun _ h9 => h9) rfl dX0_voterSet_1 ?_
  refine lv_aload_n hx hb dX0_voterSet_4 rfl (lv_at hl 0 rfl) ?_
  refine va_get (D := D) (ci := 0) (v := .int n) (C := RX0) (T := TX0) (N := 14) hx hb hw9 uX0 hown hK hP 0 rfl rfl 2 (by decide) (hw9 _ mw_21) (fun _ h9 => h9) rfl dX0_voterSet_5 ?_
  refine lv_ior hx hb dX0_voterSet_8 ?_
  exact kz_reti hx hb hr hlocks hO (rfl)  dX0_voterSet_9
set_option maxHeartbeats 4000000 in
set_option maxRecDepth 100000 in
theorem c_X0_peerSet (l : Launch) (hl9 : l.stackTraces = false) (D : va_G) (cI cZ : ClassId) (ty : kz_Y) (ad : Nat → Nat) (rs : va_W) (sz : Nat) (it o n g v r : Int32) (nx mt fl pr ofs ak hd an : Nat → Int32) : ez_M l yX0_peerSet wsX0_peerSet ({ frames := 1, cells := 1, slots := 6, locals := 20 } : Room) (kz_P D ((cI, .int) :: (cZ, .boolean) :: ty) (wX ad cI cZ it o n g v r nx mt fl pr ofs ak hd an ++ rs) sz [.ref (ad 0)]) (kz_Ro (kz_i (fun r9 => r9 = (sq_P it o n g)))) (kz_T (fun _ => IAE) (fun _ => False)) 0 0 (fun _ => False) := by
  refine ez_ofW (cc := cX0_peerSet) (maxL := 1) (ret := (some .int)) (by decide) rfl ?_
  intro p e s m args below meth c s₁ B hml hTab hv
  obtain ⟨rfl, hsz, hP, hK, hD0, hE⟩ := hv
  have hx := B.exec
  have hb := B.bytes
  have hr := B.returns
  have hw9 : ∀ w ∈ kz_W9, w.before ([.ref (ad 0)] : List Value).toArray s = true := fun w h => atoms_spec (ws := wsX0_peerSet) B.pre w (List.mem_cons_of_mem _ h)
  have hown : s.vm.findClass RX0 = some m.cls := findClass_of_methodNamed B.named
  have hlocks := B.notSynchronized
  subst hsz
  have hD := hD0.self (sz := s.heap.size)
  generalize hAe : va_A (wX ad cI cZ it o n g v r nx mt fl pr ofs ak hd an ++ rs) s.heap.size = A at hD hE
  have hA : ∀ q : Nat, s.heap.size ≤ q → A q := fun q h => by rw [← hAe]; exact Or.inr h
  have hS : va_S A s.heap s.heap [] := va_S.rf
  have hO : kz_O s.heap s.heap := kz_O.rf _
  have hl := lv_entry ([.ref (ad 0)]) (n := 1) (Nat.le_of_ble_eq_true rfl)
  rw [lg_entry_eq]
  generalize (lg_sl ([.ref (ad 0)]) ++ List.replicate (1 - (lg_sl ([.ref (ad 0)])).length) Slot.unset).toArray = ls at hl ⊢
  have hl : lv_has ls 1 [(0, .ref (ad 0))] := hl
  refine lv_aload_n hx hb dX0_peerSet_0 rfl (lv_at hl 0 rfl) ?_
  refine kz_rV (As := []) (rest := []) ⟨hx, hb, hml, hown, hw9⟩ (c_X0_voterSet l hl9 D cI cZ ty ad rs s.heap.size it o n g v r nx mt fl pr ofs ak hd an) (kz_cV 0 hw9 mw_76 mw_78 ms_1 mw_1 mw_79 rfl rfl (by decide +kernel) ⟨Nat.le_of_ble_eq_true rfl, Nat.le_of_ble_eq_true rfl⟩) (kz_preV (q0 := 0) (ci := 0) hK hP hD hS hA hE rfl rfl) rfl hl.1 rfl (Nat.le_of_ble_eq_true rfl) dX0_peerSet_1 ⟨Nat.le_of_ble_eq_true rfl, Nat.le_of_ble_eq_true rfl⟩ (fun _ _ _ _ h => False.elim h) (fun v9 H hv9 hO1 => ?_)
  obtain ⟨_, rfl, rfl⟩ := hv9
  have hP := hO1.P hP
  have hS := hO1.S hS
  have hO := hO.tr hO1
  refine W.eq (g2 := F0 m 4 ls [.int (o ||| n)]) rfl ?_
  refine lv_aload_n hx hb dX0_peerSet_4 rfl (lv_at hl 0 rfl) ?_
  refine va_get (D := D) (ci := 0) (v := .int g) (C := RX0) (T := TX0) (N := 14) hx hb hw9 uX0 hown hK hP 0 rfl rfl 3 (by decide) (hw9 _ mw_22) (fun _ h9 => h9) rfl dX0_peerSet_5 ?_
  refine lv_ior hx hb dX0_peerSet_8 ?_
  refine lv_iconst (v := 1) hx hb dX0_peerSet_9 (by decide) ?_
  refine lv_aload_n hx hb dX0_peerSet_10 rfl (lv_at hl 0 rfl) ?_
  refine va_get (D := D) (ci := 0) (v := .int it) (C := RX0) (T := TX0) (N := 14) hx hb hw9 uX0 hown hK hP 0 rfl rfl 0 (by decide) (hw9 _ mw_19) (fun _ h9 => h9) rfl dX0_peerSet_11 ?_
  refine lv_ishl hx hb dX0_peerSet_14 ?_
  refine lv_iconst (v := (-1)) hx hb dX0_peerSet_15 (by decide) ?_
  refine lv_ixor hx hb dX0_peerSet_16 ?_
  refine lv_iand hx hb dX0_peerSet_17 ?_
  exact kz_reti hx hb hr hlocks hO (rfl)  dX0_peerSet_18
set_option maxHeartbeats 4000000 in
set_option maxRecDepth 100000 in
theorem c_X0_learnersMatching (l : Launch) (hl9 : l.stackTraces = false) (D : va_G) (cI cZ : ClassId) (ty : kz_Y) (ad : Nat → Nat) (rs : va_W) (sz : Nat) (it o n g v r : Int32) (nx mt fl pr ofs ak hd an : Nat → Int32) (p0 : Int32) : ez_M l yX0_learnersMatching wsX0_learnersMatching ({ frames := 1, cells := 1, slots := 6, locals := 23 } : Room) (kz_P D ((cI, .int) :: (cZ, .boolean) :: ty) (wX ad cI cZ it o n g v r nx mt fl pr ofs ak hd an ++ rs) sz [.ref (ad 0), .int p0]) (kz_Ro (kz_i (fun r9 => r9 = (g &&& sq_L mt p0 7)))) (kz_T (fun _ => IAE) (fun _ => False)) 0 0 (fun _ => False) := by
  refine ez_ofW (cc := cX0_learnersMatching) (maxL := 2) (ret := (some .int)) (by decide) rfl ?_
  intro p e s m args below meth c s₁ B hml hTab hv
  obtain ⟨rfl, hsz, hP, hK, hD0, hE⟩ := hv
  have hx := B.exec
  have hb := B.bytes
  have hr := B.returns
  have hw9 : ∀ w ∈ kz_W9, w.before ([.ref (ad 0), .int p0] : List Value).toArray s = true := fun w h => atoms_spec (ws := wsX0_learnersMatching) B.pre w (List.mem_cons_of_mem _ h)
  have hown : s.vm.findClass RX0 = some m.cls := findClass_of_methodNamed B.named
  have hlocks := B.notSynchronized
  subst hsz
  have hD := hD0.self (sz := s.heap.size)
  generalize hAe : va_A (wX ad cI cZ it o n g v r nx mt fl pr ofs ak hd an ++ rs) s.heap.size = A at hD hE
  have hA : ∀ q : Nat, s.heap.size ≤ q → A q := fun q h => by rw [← hAe]; exact Or.inr h
  have hS : va_S A s.heap s.heap [] := va_S.rf
  have hO : kz_O s.heap s.heap := kz_O.rf _
  have hl := lv_entry ([.ref (ad 0), .int p0]) (n := 2) (Nat.le_of_ble_eq_true rfl)
  rw [lg_entry_eq]
  generalize (lg_sl ([.ref (ad 0), .int p0]) ++ List.replicate (2 - (lg_sl ([.ref (ad 0), .int p0])).length) Slot.unset).toArray = ls at hl ⊢
  have hl : lv_has ls 2 [(0, .ref (ad 0)), (1, .int p0)] := hl
  refine lv_aload_n hx hb dX0_learnersMatching_0 rfl (lv_at hl 0 rfl) ?_
  refine va_get (D := D) (ci := 0) (v := .int g) (C := RX0) (T := TX0) (N := 14) hx hb hw9 uX0 hown hK hP 0 rfl rfl 3 (by decide) (hw9 _ mw_22) (fun _ h9 => h9) rfl dX0_learnersMatching_1 ?_
  refine lv_aload_n hx hb dX0_learnersMatching_4 rfl (lv_at hl 0 rfl) ?_
  refine va_get (D := D) (ci := 0) (v := .ref (ad 2)) (C := RX0) (T := TX0) (N := 14) hx hb hw9 uX0 hown hK hP 0 rfl rfl 7 (by decide) (hw9 _ mw_26) (fun _ h9 => h9) rfl dX0_learnersMatching_5 ?_
  refine lv_iload_n hx hb dX0_learnersMatching_8 rfl (lv_at hl 1 rfl) ?_
  refine kz_rS (As := [.ref (ad 2), .int p0]) (rest := [.int g]) ⟨hx, hb, hml, hown, hw9⟩ (c_X0_thoseWithAtLeast l hl9 D ((cI, .int) :: (cZ, .boolean) :: ty) (wX ad cI cZ it o n g v r nx mt fl pr ofs ak hd an ++ rs) s.heap.size cI mt 2 0 (ad 2) p0 rfl rfl) (kz_cS 2 hw9 mw_184 mw_185 mw_1 mw_186 rfl rfl (by decide +kernel) ⟨Nat.le_of_ble_eq_true rfl, Nat.le_of_ble_eq_true rfl⟩) (kz_preS hK hP hD hS hA hE) rfl hl.1 rfl (Nat.le_of_ble_eq_true rfl) dX0_learnersMatching_9 ⟨Nat.le_of_ble_eq_true rfl, Nat.le_of_ble_eq_true rfl⟩ (fun _ _ _ _ h => False.elim h) (fun v9 H hv9 hO1 => ?_)
  obtain ⟨_, rfl, rfl⟩ := hv9
  have hP := hO1.P hP
  have hS := hO1.S hS
  have hO := hO.tr hO1
  refine W.eq (g2 := F0 m 12 ls [.int (sq_L mt p0 7), .int g]) rfl ?_
  refine lv_iand hx hb dX0_learnersMatching_12 ?_
  exact kz_reti hx hb hr hlocks hO (rfl)  dX0_learnersMatching_13
set_option maxHeartbeats 4000000 in
set_option maxRecDepth 100000 in
theorem c_X0_requirePeer (l : Launch) (hl9 : l.stackTraces = false) (D : va_G) (cI cZ : ClassId) (ty : kz_Y) (ad : Nat → Nat) (rs : va_W) (sz : Nat) (it o n g v r : Int32) (nx mt fl pr ofs ak hd an : Nat → Int32) (p0 : Int32) : ez_M l yX0_requirePeer wsX0_requirePeer ({ frames := 7, cells := 1, slots := 6, locals := 110 } : Room) (kz_P D ((cI, .int) :: (cZ, .boolean) :: ty) (wX ad cI cZ it o n g v r nx mt fl pr ofs ak hd an ++ rs) sz [.ref (ad 0), .int p0]) (kz_Ro (kz_v ((sq_V p0 && sq_I (sq_P it o n g) p0) = true))) (kz_T (fun _ => IOE) (fun _ => (sq_V p0 && sq_I (sq_P it o n g) p0) = false)) 0 0 (fun _ => False) := by
  refine ez_ofW (cc := cX0_requirePeer) (maxL := 2) (ret := none) (by decide) rfl ?_
  intro p e s m args below meth c s₁ B hml hTab hv
  obtain ⟨rfl, hsz, hP, hK, hD0, hE⟩ := hv
  have hx := B.exec
  have hb := B.bytes
  have hr := B.returns
  have hw9 : ∀ w ∈ kz_W9, w.before ([.ref (ad 0), .int p0] : List Value).toArray s = true := fun w h => atoms_spec (ws := wsX0_requirePeer) B.pre w (List.mem_cons_of_mem _ h)
  have hown : s.vm.findClass RX0 = some m.cls := findClass_of_methodNamed B.named
  have hlocks := B.notSynchronized
  subst hsz
  have hD := hD0.self (sz := s.heap.size)
  generalize hAe : va_A (wX ad cI cZ it o n g v r nx mt fl pr ofs ak hd an ++ rs) s.heap.size = A at hD hE
  have hA : ∀ q : Nat, s.heap.size ≤ q → A q := fun q h => by rw [← hAe]; exact Or.inr h
  have hS : va_S A s.heap s.heap [] := va_S.rf
  have hO : kz_O s.heap s.heap := kz_O.rf _
  have hl := lv_entry ([.ref (ad 0), .int p0]) (n := 2) (Nat.le_of_ble_eq_true rfl)
  rw [lg_entry_eq]
  generalize (lg_sl ([.ref (ad 0), .int p0]) ++ List.replicate (2 - (lg_sl ([.ref (ad 0), .int p0])).length) Slot.unset).toArray = ls at hl ⊢
  have hl : lv_has ls 2 [(0, .ref (ad 0)), (1, .int p0)] := hl
  refine lv_iload_n hx hb dX0_requirePeer_0 rfl (lv_at hl 1 rfl) ?_
  refine kz_rS (As := [.int p0]) (rest := []) ⟨hx, hb, hml, hown, hw9⟩ (c_X0_requireServer l hl9 D ((cI, .int) :: (cZ, .boolean) :: ty) (wX ad cI cZ it o n g v r nx mt fl pr ofs ak hd an ++ rs) s.heap.size p0) (kz_cS 1 hw9 mw_240 mw_241 mw_1 mw_242 rfl rfl (by decide +kernel) ⟨Nat.le_of_ble_eq_true rfl, Nat.le_of_ble_eq_true rfl⟩) (kz_preS hK hP hD hS hA hE) rfl hl.1 rfl (Nat.le_of_ble_eq_true rfl) dX0_requirePeer_1 ⟨Nat.le_of_ble_eq_true rfl, Nat.le_of_ble_eq_true rfl⟩ (fun k ce q9 H1 hk hO1 hce hcv hcl => ?_) (fun v9 H hv9 hO1 => ?_)
  · -- thrown
    exact kz_out (k := 0) hTab hlocks (by simp [show sq_V p0 = false from hk]) (hO.tr hO1) hce hcv hcl (fun _ h => nomatch h) (Nat.le_of_ble_eq_true rfl) (Nat.le_of_ble_eq_true rfl)
  · -- goes on
    obtain ⟨rfl, hv_1⟩ := hv9
    have hP := hO1.P hP
    have hS := hO1.S hS
    have hO := hO.tr hO1
    refine W.eq (g2 := F0 m 4 ls []) rfl ?_
    refine lv_aload_n hx hb dX0_requirePeer_4 rfl (lv_at hl 0 rfl) ?_
    refine kz_rV (As := []) (rest := []) ⟨hx, hb, hml, hown, hw9⟩ (c_X0_peerSet l hl9 D cI cZ ty ad rs H.size it o n g v r nx mt fl pr ofs ak hd an) (kz_cV 0 hw9 mw_72 mw_74 ms_0 mw_1 mw_75 rfl rfl (by decide +kernel) ⟨Nat.le_of_ble_eq_true rfl, Nat.le_of_ble_eq_true rfl⟩) (kz_preV (q0 := 0) (ci := 0) hK hP hD hS hA hE rfl rfl) rfl hl.1 rfl (Nat.le_of_ble_eq_true rfl) dX0_requirePeer_5 ⟨Nat.le_of_ble_eq_true rfl, Nat.le_of_ble_eq_true rfl⟩ (fun _ _ _ _ h => False.elim h) (fun v9 H hv9 hO1 => ?_)
    obtain ⟨_, rfl, rfl⟩ := hv9
    have hP := hO1.P hP
    have hS := hO1.S hS
    have hO := hO.tr hO1
    refine W.eq (g2 := F0 m 8 ls [.int (sq_P it o n g)]) rfl ?_
    refine lv_iload_n hx hb dX0_requirePeer_8 rfl (lv_at hl 1 rfl) ?_
    refine kz_rS (As := [.int (sq_P it o n g), .int p0]) (rest := []) ⟨hx, hb, hml, hown, hw9⟩ (c_X0_isIn l hl9 D ((cI, .int) :: (cZ, .boolean) :: ty) (wX ad cI cZ it o n g v r nx mt fl pr ofs ak hd an ++ rs) H.size (sq_P it o n g) p0) (kz_cS 2 hw9 mw_80 mw_81 mw_1 mw_82 rfl rfl (by decide +kernel) ⟨Nat.le_of_ble_eq_true rfl, Nat.le_of_ble_eq_true rfl⟩) (kz_preS hK hP hD hS hA hE) rfl hl.1 rfl (Nat.le_of_ble_eq_true rfl) dX0_requirePeer_9 ⟨Nat.le_of_ble_eq_true rfl, Nat.le_of_ble_eq_true rfl⟩ (fun _ _ _ _ h => False.elim h) (fun v9 H hv9 hO1 => ?_)
    obtain ⟨_, rfl, rfl⟩ := hv9
    have hP := hO1.P hP
    have hS := hO1.S hS
    have hO := hO.tr hO1
    refine W.eq (g2 := F0 m 12 ls [.int (sq_z (sq_I (sq_P it o n g) p0))]) rfl ?_
    refine lv_if_ne (tgt := 25) hx hb dX0_requirePeer_12 (by decide) (fun c_2 => ?_) (fun c_2 => ?_)
    · -- 12 -> 25
      exact kz_retv hx hb hr hlocks hO (by first | (simp [hv_1, (sq_z_t c_2)]; done) | (simp only [hv_1, (sq_z_t c_2), eq_self, not_true_eq_false, not_false_eq_true, and_self, and_true, true_and, and_false, false_and, or_true, true_or, or_false, false_or, if_true, if_false, ite_true, ite_false, Bool.and_eq_true, decide_true, decide_false, decide_eq_true_eq, ne_eq, Nat.reduceEqDiff, Nat.one_ne_zero, Bool.false_eq_true, reduceCtorEq]; done) | (simp only [hv_1, (sq_z_t c_2), eq_self, not_true_eq_false, not_false_eq_true, and_self, and_true, true_and, and_false, false_and, or_true, true_or, or_false, false_or, if_true, if_false, ite_true, ite_false, Bool.and_eq_true, decide_true, decide_false, decide_eq_true_eq, ne_eq, Nat.reduceEqDiff, Nat.one_ne_zero, Bool.false_eq_true, reduceCtorEq]; decide))  dX0_requirePeer_25
    · -- 12 -> 15
      obtain ⟨sa9, hst9⟩ := hE.2.2.1 (148, "the server is no peer") (by decide)
      exact ez_throwS (cls := IOE) (names := EXN) hx hb hl9 hown (by decide +kernel) (by decide +kernel) (hw9 _ mw_243) (hw9 _ mw_9) hst9 (at_IOE hw9 hE) hO.1 (by rw [hml]; exact hl.1) hTab hlocks dX0_requirePeer_15 dX0_requirePeer_18 dX0_requirePeer_19 dX0_requirePeer_21 dX0_requirePeer_24 (by decide) (Nat.le_of_ble_eq_true rfl) (Nat.le_of_ble_eq_true rfl) (Nat.le_of_ble_eq_true rfl) (fun q t ce h1 h2 h3 h4 h5 h6 => ⟨0, ce, (by first | (simp [hv_1, (sq_z_f c_2)]; done) | (simp only [hv_1, (sq_z_f c_2), eq_self, not_true_eq_false, not_false_eq_true, and_self, and_true, true_and, and_false, false_and, or_true, true_or, or_false, false_or, if_true, if_false, ite_true, ite_false, Bool.and_eq_true, decide_true, decide_false, decide_eq_true_eq, ne_eq, Nat.reduceEqDiff, Nat.one_ne_zero, Bool.false_eq_true, reduceCtorEq]; done) | (simp only [hv_1, (sq_z_f c_2), eq_self, not_true_eq_false, not_false_eq_true, and_self, and_true, true_and, and_false, false_and, or_true, true_or, or_false, false_or, if_true, if_false, ite_true, ite_false, Bool.and_eq_true, decide_true, decide_false, decide_eq_true_eq, ne_eq, Nat.reduceEqDiff, Nat.one_ne_zero, Bool.false_eq_true, reduceCtorEq]; decide)), h1, h2, by rw [h4.findClass]; exact h3, h5, h6⟩)
end
section
set_option maxHeartbeats 4000000 in
set_option maxRecDepth 100000 in
theorem c_X0_mayFlyMore (l : Launch) (hl9 : l.stackTraces = false) (D : va_G) (cI cZ : ClassId) (ty : kz_Y) (ad : Nat → Nat) (rs : va_W) (sz : Nat) (it o n g v r : Int32) (nx mt fl pr ofs ak hd an : Nat → Int32) (p0 : Int32) (hin : vp_in p0 7) : ez_M l yX0_mayFlyMore wsX0_mayFlyMore ({ frames := 0, cells := 1, slots := 6, locals := 0 } : Room) (kz_P D ((cI, .int) :: (cZ, .boolean) :: ty) (wX ad cI cZ it o n g v r nx mt fl pr ofs ak hd an ++ rs) sz [.ref (ad 0), .int p0]) (kz_Ro (kz_i (fun r9 => r9 = (sq_z (sq_F fl pr p0.toNatClampNeg))))) (kz_T (fun _ => IAE) (fun _ => False)) 0 0 (fun _ => False) := by
  refine ez_ofW (cc := cX0_mayFlyMore) (maxL := 2) (ret := (some .boolean)) (by decide) rfl ?_
  intro p e s m args below meth c s₁ B hml hTab hv
  obtain ⟨rfl, hsz, hP, hK, hD0, hE⟩ := hv
  have hx := B.exec
  have hb := B.bytes
  have hr := B.returns
  have hw9 : ∀ w ∈ kz_W9, w.before ([.ref (ad 0), .int p0] : List Value).toArray s = true := fun w h => atoms_spec (ws := wsX0_mayFlyMore) B.pre w (List.mem_cons_of_mem _ h)
  have hown : s.vm.findClass RX0 = some m.cls := findClass_of_methodNamed B.named
  have hlocks := B.notSynchronized
  subst hsz
  have hD := hD0.self (sz := s.heap.size)
  generalize hAe : va_A (wX ad cI cZ it o n g v r nx mt fl pr ofs ak hd an ++ rs) s.heap.size = A at hD hE
  have hA : ∀ q : Nat, s.heap.size ≤ q → A q := fun q h => by rw [← hAe]; exact Or.inr h
  have hS : va_S A s.heap s.heap [] := va_S.rf
  have hO : kz_O s.heap s.heap := kz_O.rf _
  have hl := lv_entry ([.ref (ad 0), .int p0]) (n := 2) (Nat.le_of_ble_eq_true rfl)
  rw [lg_entry_eq]
  generalize (lg_sl ([.ref (ad 0), .int p0]) ++ List.replicate (2 - (lg_sl ([.ref (ad 0), .int p0])).length) Slot.unset).toArray = ls at hl ⊢
  have hl : lv_has ls 2 [(0, .ref (ad 0)), (1, .int p0)] := hl
  refine lv_aload_n hx hb dX0_mayFlyMore_0 rfl (lv_at hl 0 rfl) ?_
  refine va_get (D := D) (ci := 0) (v := .ref (ad 3)) (C := RX0) (T := TX0) (N := 14) hx hb hw9 uX0 hown hK hP 0 rfl rfl 8 (by decide) (hw9 _ mw_27) (fun _ h9 => h9) rfl dX0_mayFlyMore_1 ?_
  refine lv_iload_n hx hb dX0_mayFlyMore_4 rfl (lv_at hl 1 rfl) ?_
  refine va_iald hx hb hK hP 3 0 rfl rfl hin dX0_mayFlyMore_5 ?_
  refine lv_aload_n hx hb dX0_mayFlyMore_6 rfl (lv_at hl 0 rfl) ?_
  refine va_get (D := D) (ci := 0) (v := .ref (ad 4)) (C := RX0) (T := TX0) (N := 14) hx hb hw9 uX0 hown hK hP 0 rfl rfl 9 (by decide) (hw9 _ mw_28) (fun _ h9 => h9) rfl dX0_mayFlyMore_7 ?_
  refine lv_iload_n hx hb dX0_mayFlyMore_10 rfl (lv_at hl 1 rfl) ?_
  refine va_zald hx hb hK hP 4 1 rfl rfl hin dX0_mayFlyMore_11 ?_
  refine lv_if_eq (tgt := 19) hx hb dX0_mayFlyMore_12 (by decide) (fun c_1 => ?_) (fun c_1 => ?_)
  · -- 12 -> 19
    refine lv_iconst (v := 4) hx hb dX0_mayFlyMore_19 (by decide) ?_
    refine lv_icmp_ge (tgt := 27) hx hb dX0_mayFlyMore_20 (by decide) (fun c_2 => ?_) (fun c_2 => ?_)
    · -- 20 -> 27
      refine lv_iconst (v := 0) hx hb dX0_mayFlyMore_27 (by decide) ?_
      exact kz_retz hx hb hr hlocks hO (by first | (simp [sq_z, sq_F, c_1, c_2, (Int32.not_lt.mpr c_2)]; done) | (simp only [sq_z, sq_F, c_1, c_2, (Int32.not_lt.mpr c_2), eq_self, not_true_eq_false, not_false_eq_true, and_self, and_true, true_and, and_false, false_and, or_true, true_or, or_false, false_or, if_true, if_false, ite_true, ite_false, Bool.and_eq_true, decide_true, decide_false, decide_eq_true_eq, ne_eq, Nat.reduceEqDiff, Nat.one_ne_zero, Bool.false_eq_true, reduceCtorEq]; done) | (simp only [sq_z, sq_F, c_1, c_2, (Int32.not_lt.mpr c_2), eq_self, not_true_eq_false, not_false_eq_true, and_self, and_true, true_and, and_false, false_and, or_true, true_or, or_false, false_or, if_true, if_false, ite_true, ite_false, Bool.and_eq_true, decide_true, decide_false, decide_eq_true_eq, ne_eq, Nat.reduceEqDiff, Nat.one_ne_zero, Bool.false_eq_true, reduceCtorEq]; decide)) rfl dX0_mayFlyMore_28
    · -- 20 -> 23
      refine lv_iconst (v := 1) hx hb dX0_mayFlyMore_23 (by decide) ?_
      refine lv_goto (tgt := 28) hx hb dX0_mayFlyMore_24 (by decide) ?_
      exact kz_retz hx hb hr hlocks hO (by first | (simp [sq_z, sq_F, c_1, c_2, (Int32.not_le.mp c_2)]; done) | (simp only [sq_z, sq_F, c_1, c_2, (Int32.not_le.mp c_2), eq_self, not_true_eq_false, not_false_eq_true, and_self, and_true, true_and, and_false, false_and, or_true, true_or, or_false, false_or, if_true, if_false, ite_true, ite_false, Bool.and_eq_true, decide_true, decide_false, decide_eq_true_eq, ne_eq, Nat.reduceEqDiff, Nat.one_ne_zero, Bool.false_eq_true, reduceCtorEq]; done) | (simp only [sq_z, sq_F, c_1, c_2, (Int32.not_le.mp c_2), eq_self, not_true_eq_false, not_false_eq_true, and_self, and_true, true_and, and_false, false_and, or_true, true_or, or_false, false_or, if_true, if_false, ite_true, ite_false, Bool.and_eq_true, decide_true, decide_false, decide_eq_true_eq, ne_eq, Nat.reduceEqDiff, Nat.one_ne_zero, Bool.false_eq_true, reduceCtorEq]; decide)) rfl dX0_mayFlyMore_28
  · -- 12 -> 15
    refine lv_iconst (v := 1) hx hb dX0_mayFlyMore_15 (by decide) ?_
    refine lv_goto (tgt := 20) hx hb dX0_mayFlyMore_16 (by decide) ?_
    refine lv_icmp_ge (tgt := 27) hx hb dX0_mayFlyMore_20 (by decide) (fun c_3 => ?_) (fun c_3 => ?_)
    · -- 20 -> 27
      refine lv_iconst (v := 0) hx hb dX0_mayFlyMore_27 (by decide) ?_
      exact kz_retz hx hb hr hlocks hO (by first | (simp [sq_z, sq_F, c_1, c_3, (Int32.not_lt.mpr c_3)]; done) | (simp only [sq_z, sq_F, c_1, c_3, (Int32.not_lt.mpr c_3), eq_self, not_true_eq_false, not_false_eq_true, and_self, and_true, true_and, and_false, false_and, or_true, true_or, or_false, false_or, if_true, if_false, ite_true, ite_false, Bool.and_eq_true, decide_true, decide_false, decide_eq_true_eq, ne_eq, Nat.reduceEqDiff, Nat.one_ne_zero, Bool.false_eq_true, reduceCtorEq]; done) | (simp only [sq_z, sq_F, c_1, c_3, (Int32.not_lt.mpr c_3), eq_self, not_true_eq_false, not_false_eq_true, and_self, and_true, true_and, and_false, false_and, or_true, true_or, or_false, false_or, if_true, if_false, ite_true, ite_false, Bool.and_eq_true, decide_true, decide_false, decide_eq_true_eq, ne_eq, Nat.reduceEqDiff, Nat.one_ne_zero, Bool.false_eq_true, reduceCtorEq]; decide)) rfl dX0_mayFlyMore_28
    · -- 20 -> 23
      refine lv_iconst (v := 1) hx hb dX0_mayFlyMore_23 (by decide) ?_
      refine lv_goto (tgt := 28) hx hb dX0_mayFlyMore_24 (by decide) ?_
      exact kz_retz hx hb hr hlocks hO (by first | (simp [sq_z, sq_F, c_1, c_3, (Int32.not_le.mp c_3)]; done) | (simp only [sq_z, sq_F, c_1, c_3, (Int32.not_le.mp c_3), eq_self, not_true_eq_false, not_false_eq_true, and_self, and_true, true_and, and_false, false_and, or_true, true_or, or_false, false_or, if_true, if_false, ite_true, ite_false, Bool.and_eq_true, decide_true, decide_false, decide_eq_true_eq, ne_eq, Nat.reduceEqDiff, Nat.one_ne_zero, Bool.false_eq_true, reduceCtorEq]; done) | (simp only [sq_z, sq_F, c_1, c_3, (Int32.not_le.mp c_3), eq_self, not_true_eq_false, not_false_eq_true, and_self, and_true, true_and, and_false, false_and, or_true, true_or, or_false, false_or, if_true, if_false, ite_true, ite_false, Bool.and_eq_true, decide_true, decide_false, decide_eq_true_eq, ne_eq, Nat.reduceEqDiff, Nat.one_ne_zero, Bool.false_eq_true, reduceCtorEq]; decide)) rfl dX0_mayFlyMore_28
set_option maxHeartbeats 4000000 in
set_option maxRecDepth 100000 in
theorem c_X0_hear (l : Launch) (hl9 : l.stackTraces = false) (D : va_G) (cI cZ : ClassId) (ty : kz_Y) (ad : Nat → Nat) (rs : va_W) (sz : Nat) (it o n g v r : Int32) (nx mt fl pr ofs ak hd an : Nat → Int32) (p0 : Int32) (p1 : Int32) (p2 : Int32) (hin : vp_in p0 7) : ez_M l yX0_hear wsX0_hear ({ frames := 1, cells := 1, slots := 6, locals := 21 } : Room) (kz_P D ((cI, .int) :: (cZ, .boolean) :: ty) (wX ad cI cZ it o n g v r nx mt fl pr ofs ak hd an ++ rs) sz [.ref (ad 0), .int p0, .int p1, .int p2]) (kz_Wr D (va_A (wX ad cI cZ it o n g v r nx mt fl pr ofs ak hd an ++ rs) sz) (kz_v (True)) (wX ad cI cZ it o n g v r nx mt fl pr ofs (upd ak p0.toNatClampNeg (sq_max (ak p0.toNatClampNeg) p1)) (upd hd p0.toNatClampNeg p2) (upd an p0.toNatClampNeg 1) ++ rs)) (kz_T (fun _ => IAE) (fun _ => False)) 0 0 (va_A (wX ad cI cZ it o n g v r nx mt fl pr ofs ak hd an ++ rs) sz) := by
  refine ez_ofW (cc := cX0_hear) (maxL := 4) (ret := none) (by decide) rfl ?_
  intro p e s m args below meth c s₁ B hml hTab hv
  obtain ⟨rfl, hsz, hP, hK, hD0, hE⟩ := hv
  have hx := B.exec
  have hb := B.bytes
  have hr := B.returns
  have hw9 : ∀ w ∈ kz_W9, w.before ([.ref (ad 0), .int p0, .int p1, .int p2] : List Value).toArray s = true := fun w h => atoms_spec (ws := wsX0_hear) B.pre w (List.mem_cons_of_mem _ h)
  have hown : s.vm.findClass RX0 = some m.cls := findClass_of_methodNamed B.named
  have hlocks := B.notSynchronized
  subst hsz
  have hD := hD0.self (sz := s.heap.size)
  generalize hAe : va_A (wX ad cI cZ it o n g v r nx mt fl pr ofs ak hd an ++ rs) s.heap.size = A at hD hE ⊢
  have hA : ∀ q : Nat, s.heap.size ≤ q → A q := fun q h => by rw [← hAe]; exact Or.inr h
  have hS : va_S A s.heap s.heap [] := va_S.rf
  have hO : kz_O s.heap s.heap := kz_O.rf _
  have hl := lv_entry ([.ref (ad 0), .int p0, .int p1, .int p2]) (n := 4) (Nat.le_of_ble_eq_true rfl)
  rw [lg_entry_eq]
  generalize (lg_sl ([.ref (ad 0), .int p0, .int p1, .int p2]) ++ List.replicate (4 - (lg_sl ([.ref (ad 0), .int p0, .int p1, .int p2])).length) Slot.unset).toArray = ls at hl ⊢
  have hl : lv_has ls 4 [(0, .ref (ad 0)), (1, .int p0), (2, .int p1), (3, .int p2)] := hl
  refine lv_aload_n hx hb dX0_hear_0 rfl (lv_at hl 0 rfl) ?_
  refine va_get (D := D) (ci := 0) (v := .ref (ad 7)) (C := RX0) (T := TX0) (N := 14) hx hb hw9 uX0 hown hK hP 0 rfl rfl 12 (by decide) (hw9 _ mw_31) (fun _ h9 => h9) rfl dX0_hear_1 ?_
  refine lv_iload_n hx hb dX0_hear_4 rfl (lv_at hl 1 rfl) ?_
  refine lv_iload_n hx hb dX0_hear_5 rfl (lv_at hl 3 rfl) ?_
  refine va_iast hx hb hK hP hD hS 7 0 rfl rfl hin dX0_hear_6 (fun H locs hP hD hS => ?_)
  have hP : va_P D vwCl (wX ad cI cZ it o n g v r nx mt fl pr ofs ak (upd hd p0.toNatClampNeg p2) an ++ rs) H := hP
  have hD : va_D A (wX ad cI cZ it o n g v r nx mt fl pr ofs ak (upd hd p0.toNatClampNeg p2) an ++ rs) := hD
  refine lv_aload_n hx hb dX0_hear_7 rfl (lv_at hl 0 rfl) ?_
  refine va_get (D := D) (ci := 0) (v := .ref (ad 8)) (C := RX0) (T := TX0) (N := 14) hx hb hw9 uX0 hown hK hP 0 rfl rfl 13 (by decide) (hw9 _ mw_32) (fun _ h9 => h9) rfl dX0_hear_8 ?_
  refine lv_iload_n hx hb dX0_hear_11 rfl (lv_at hl 1 rfl) ?_
  refine lv_iconst (v := 1) hx hb dX0_hear_12 (by decide) ?_
  refine va_zast hx hb hK hP hD hS 8 1 rfl rfl hin dX0_hear_13 (fun H locs hP hD hS => ?_)
  have hP : va_P D vwCl (wX ad cI cZ it o n g v r nx mt fl pr ofs ak (upd hd p0.toNatClampNeg p2) (upd an p0.toNatClampNeg 1) ++ rs) H := hP
  have hD : va_D A (wX ad cI cZ it o n g v r nx mt fl pr ofs ak (upd hd p0.toNatClampNeg p2) (upd an p0.toNatClampNeg 1) ++ rs) := hD
  refine lv_aload_n hx hb dX0_hear_14 rfl (lv_at hl 0 rfl) ?_
  refine va_get (D := D) (ci := 0) (v := .ref (ad 6)) (C := RX0) (T := TX0) (N := 14) hx hb hw9 uX0 hown hK hP 0 rfl rfl 11 (by decide) (hw9 _ mw_30) (fun _ h9 => h9) rfl dX0_hear_15 ?_
  refine lv_iload_n hx hb dX0_hear_18 rfl (lv_at hl 1 rfl) ?_
  refine lv_aload_n hx hb dX0_hear_19 rfl (lv_at hl 0 rfl) ?_
  refine va_get (D := D) (ci := 0) (v := .ref (ad 6)) (C := RX0) (T := TX0) (N := 14) hx hb hw9 uX0 hown hK hP 0 rfl rfl 11 (by decide) (hw9 _ mw_30) (fun _ h9 => h9) rfl dX0_hear_20 ?_
  refine lv_iload_n hx hb dX0_hear_23 rfl (lv_at hl 1 rfl) ?_
  refine va_iald hx hb hK hP 6 0 rfl rfl hin dX0_hear_24 ?_
  refine lv_iload_n hx hb dX0_hear_25 rfl (lv_at hl 2 rfl) ?_
  refine va_mmax hx hb (by rw [hml]; exact hl.1.symm) hown (hw9 _ mw_310) (hw9 _ mw_311) (hw9 _ mw_10) (hw9 _ mw_312) (Nat.le_of_ble_eq_true rfl) (Nat.le_of_ble_eq_true rfl) (Nat.le_of_ble_eq_true rfl) (Nat.le_of_ble_eq_true rfl) dX0_hear_26 ?_
  refine W.eq (g2 := F0 m 29 ls [.int (sq_max (ak p0.toNatClampNeg) p1), .int p0, .ref (ad 6)]) rfl ?_
  refine va_iast hx hb hK hP hD hS 6 0 rfl rfl hin dX0_hear_29 (fun H locs hP hD hS => ?_)
  have hP : va_P D vwCl (wX ad cI cZ it o n g v r nx mt fl pr ofs (upd ak p0.toNatClampNeg (sq_max (ak p0.toNatClampNeg) p1)) (upd hd p0.toNatClampNeg p2) (upd an p0.toNatClampNeg 1) ++ rs) H := hP
  have hD : va_D A (wX ad cI cZ it o n g v r nx mt fl pr ofs (upd ak p0.toNatClampNeg (sq_max (ak p0.toNatClampNeg) p1)) (upd hd p0.toNatClampNeg p2) (upd an p0.toNatClampNeg 1) ++ rs) := hD
  exact kz_wretv hx hb hr hlocks hP hD hS (Nat.le_of_ble_eq_true rfl) (Nat.le_of_ble_eq_true rfl) (trivial)  dX0_hear_30
set_option maxHeartbeats 4000000 in
set_option maxRecDepth 100000 in
theorem c_X0_sendSnapshotPiece (l : Launch) (hl9 : l.stackTraces = false) (D : va_G) (cI cZ : ClassId) (ty : kz_Y) (ad : Nat → Nat) (rs : va_W) (sz : Nat) (it o n g v r : Int32) (nx mt fl pr ofs ak hd an : Nat → Int32) (p0 : Int32) (hin : vp_in p0 7) : ez_M l yX0_sendSnapshotPiece wsX0_sendSnapshotPiece ({ frames := 0, cells := 1, slots := 6, locals := 0 } : Room) (kz_P D ((cI, .int) :: (cZ, .boolean) :: ty) (wX ad cI cZ it o n g v r nx mt fl pr ofs ak hd an ++ rs) sz [.ref (ad 0), .int p0]) (kz_Wr D (va_A (wX ad cI cZ it o n g v r nx mt fl pr ofs ak hd an ++ rs) sz) (kz_i (fun r9 => r9 = (if 0 < fl p0.toNatClampNeg then 0 else 8))) (wX ad cI cZ it o n g v r nx mt (if 0 < fl p0.toNatClampNeg then fl else upd fl p0.toNatClampNeg 1) pr ofs ak hd an ++ rs)) (kz_T (fun _ => IAE) (fun _ => False)) 0 0 (va_A (wX ad cI cZ it o n g v r nx mt fl pr ofs ak hd an ++ rs) sz) := by
  refine ez_ofW (cc := cX0_sendSnapshotPiece) (maxL := 2) (ret := (some .int)) (by decide) rfl ?_
  intro p e s m args below meth c s₁ B hml hTab hv
  obtain ⟨rfl, hsz, hP, hK, hD0, hE⟩ := hv
  have hx := B.exec
  have hb := B.bytes
  have hr := B.returns
  have hw9 : ∀ w ∈ kz_W9, w.before ([.ref (ad 0), .int p0] : List Value).toArray s = true := fun w h => atoms_spec (ws := wsX0_sendSnapshotPiece) B.pre w (List.mem_cons_of_mem _ h)
  have hown : s.vm.findClass RX0 = some m.cls := findClass_of_methodNamed B.named
  have hlocks := B.notSynchronized
  subst hsz
  have hD := hD0.self (sz := s.heap.size)
  generalize hAe : va_A (wX ad cI cZ it o n g v r nx mt fl pr ofs ak hd an ++ rs) s.heap.size = A at hD hE ⊢
  have hA : ∀ q : Nat, s.heap.size ≤ q → A q := fun q h => by rw [← hAe]; exact Or.inr h
  have hS : va_S A s.heap s.heap [] := va_S.rf
  have hO : kz_O s.heap s.heap := kz_O.rf _
  have hl := lv_entry ([.ref (ad 0), .int p0]) (n := 2) (Nat.le_of_ble_eq_true rfl)
  rw [lg_entry_eq]
  generalize (lg_sl ([.ref (ad 0), .int p0]) ++ List.replicate (2 - (lg_sl ([.ref (ad 0), .int p0])).length) Slot.unset).toArray = ls at hl ⊢
  have hl : lv_has ls 2 [(0, .ref (ad 0)), (1, .int p0)] := hl
  refine lv_aload_n hx hb dX0_sendSnapshotPiece_0 rfl (lv_at hl 0 rfl) ?_
  refine va_get (D := D) (ci := 0) (v := .ref (ad 3)) (C := RX0) (T := TX0) (N := 14) hx hb hw9 uX0 hown hK hP 0 rfl rfl 8 (by decide) (hw9 _ mw_27) (fun _ h9 => h9) rfl dX0_sendSnapshotPiece_1 ?_
  refine lv_iload_n hx hb dX0_sendSnapshotPiece_4 rfl (lv_at hl 1 rfl) ?_
  refine va_iald hx hb hK hP 3 0 rfl rfl hin dX0_sendSnapshotPiece_5 ?_
  refine lv_if_le (tgt := 11) hx hb dX0_sendSnapshotPiece_6 (by decide) (fun c_1 => ?_) (fun c_1 => ?_)
  · -- 6 -> 11
    refine lv_aload_n hx hb dX0_sendSnapshotPiece_11 rfl (lv_at hl 0 rfl) ?_
    refine va_get (D := D) (ci := 0) (v := .ref (ad 3)) (C := RX0) (T := TX0) (N := 14) hx hb hw9 uX0 hown hK hP 0 rfl rfl 8 (by decide) (hw9 _ mw_27) (fun _ h9 => h9) rfl dX0_sendSnapshotPiece_12 ?_
    refine lv_iload_n hx hb dX0_sendSnapshotPiece_15 rfl (lv_at hl 1 rfl) ?_
    refine lv_iconst (v := 1) hx hb dX0_sendSnapshotPiece_16 (by decide) ?_
    refine va_iast hx hb hK hP hD hS 3 0 rfl rfl hin dX0_sendSnapshotPiece_17 (fun H locs hP hD hS => ?_)
    have hP : va_P D vwCl (wX ad cI cZ it o n g v r nx mt (upd fl p0.toNatClampNeg 1) pr ofs ak hd an ++ rs) H := hP
    have hD : va_D A (wX ad cI cZ it o n g v r nx mt (upd fl p0.toNatClampNeg 1) pr ofs ak hd an ++ rs) := hD
    refine lv_bipush (v := 8) hx hb dX0_sendSnapshotPiece_18 (by decide) ?_
    have e_fl : (if 0 < fl p0.toNatClampNeg then fl else upd fl p0.toNatClampNeg 1) = upd fl p0.toNatClampNeg 1 := by first | (simp [c_1, (Int32.not_lt.mpr c_1)]; done) | (simp only [c_1, (Int32.not_lt.mpr c_1), eq_self, not_true_eq_false, not_false_eq_true, and_self, and_true, true_and, and_false, false_and, or_true, true_or, or_false, false_or, if_true, if_false, ite_true, ite_false, Bool.and_eq_true, decide_true, decide_false, decide_eq_true_eq, ne_eq, Nat.reduceEqDiff, Nat.one_ne_zero, Bool.false_eq_true, reduceCtorEq]; done) | (simp only [c_1, (Int32.not_lt.mpr c_1), eq_self, not_true_eq_false, not_false_eq_true, and_self, and_true, true_and, and_false, false_and, or_true, true_or, or_false, false_or, if_true, if_false, ite_true, ite_false, Bool.and_eq_true, decide_true, decide_false, decide_eq_true_eq, ne_eq, Nat.reduceEqDiff, Nat.one_ne_zero, Bool.false_eq_true, reduceCtorEq]; decide)
    exact kz_wreti hx hb hr hlocks (by rw [e_fl]; exact hP) (by rw [e_fl]; exact hD) hS (Nat.le_of_ble_eq_true rfl) (Nat.le_of_ble_eq_true rfl) (by first | (simp [c_1, (Int32.not_lt.mpr c_1)]; done) | (simp only [c_1, (Int32.not_lt.mpr c_1), eq_self, not_true_eq_false, not_false_eq_true, and_self, and_true, true_and, and_false, false_and, or_true, true_or, or_false, false_or, if_true, if_false, ite_true, ite_false, Bool.and_eq_true, decide_true, decide_false, decide_eq_true_eq, ne_eq, Nat.reduceEqDiff, Nat.one_ne_zero, Bool.false_eq_true, reduceCtorEq]; done) | (simp only [c_1, (Int32.not_lt.mpr c_1), eq_self, not_true_eq_false, not_false_eq_true, and_self, and_true, true_and, and_false, false_and, or_true, true_or, or_false, false_or, if_true, if_false, ite_true, ite_false, Bool.and_eq_true, decide_true, decide_false, decide_eq_true_eq, ne_eq, Nat.reduceEqDiff, Nat.one_ne_zero, Bool.false_eq_true, reduceCtorEq]; decide))  dX0_sendSnapshotPiece_20
  · -- 6 -> 9
    refine lv_iconst (v := 0) hx hb dX0_sendSnapshotPiece_9 (by decide) ?_
    have e_fl : (if 0 < fl p0.toNatClampNeg then fl else upd fl p0.toNatClampNeg 1) = fl := by first | (simp [c_1, (Int32.not_le.mp c_1)]; done) | (simp only [c_1, (Int32.not_le.mp c_1), eq_self, not_true_eq_false, not_false_eq_true, and_self, and_true, true_and, and_false, false_and, or_true, true_or, or_false, false_or, if_true, if_false, ite_true, ite_false, Bool.and_eq_true, decide_true, decide_false, decide_eq_true_eq, ne_eq, Nat.reduceEqDiff, Nat.one_ne_zero, Bool.false_eq_true, reduceCtorEq]; done) | (simp only [c_1, (Int32.not_le.mp c_1), eq_self, not_true_eq_false, not_false_eq_true, and_self, and_true, true_and, and_false, false_and, or_true, true_or, or_false, false_or, if_true, if_false, ite_true, ite_false, Bool.and_eq_true, decide_true, decide_false, decide_eq_true_eq, ne_eq, Nat.reduceEqDiff, Nat.one_ne_zero, Bool.false_eq_true, reduceCtorEq]; decide)
    exact kz_wreti hx hb hr hlocks (by rw [e_fl]; exact hP) (by rw [e_fl]; exact hD) hS (Nat.le_of_ble_eq_true rfl) (Nat.le_of_ble_eq_true rfl) (by first | (simp [c_1, (Int32.not_le.mp c_1)]; done) | (simp only [c_1, (Int32.not_le.mp c_1), eq_self, not_true_eq_false, not_false_eq_true, and_self, and_true, true_and, and_false, false_and, or_true, true_or, or_false, false_or, if_true, if_false, ite_true, ite_false, Bool.and_eq_true, decide_true, decide_false, decide_eq_true_eq, ne_eq, Nat.reduceEqDiff, Nat.one_ne_zero, Bool.false_eq_true, reduceCtorEq]; done) | (simp only [c_1, (Int32.not_le.mp c_1), eq_self, not_true_eq_false, not_false_eq_true, and_self, and_true, true_and, and_false, false_and, or_true, true_or, or_false, false_or, if_true, if_false, ite_true, ite_false, Bool.and_eq_true, decide_true, decide_false, decide_eq_true_eq, ne_eq, Nat.reduceEqDiff, Nat.one_ne_zero, Bool.false_eq_true, reduceCtorEq]; decide))  dX0_sendSnapshotPiece_10
set_option maxHeartbeats 4000000 in
set_option maxRecDepth 100000 in
theorem c_X0_sendEntries (l : Launch) (hl9 : l.stackTraces = false) (D : va_G) (cI cZ : ClassId) (ty : kz_Y) (ad : Nat → Nat) (rs : va_W) (sz : Nat) (it o n g v r : Int32) (nx mt fl pr ofs ak hd an : Nat → Int32) (p0 : Int32) (p1 : Int32) (hin : vp_in p0 7) : ez_M l yX0_sendEntries wsX0_sendEntries ({ frames := 1, cells := 1, slots := 6, locals := 21 } : Room) (kz_P D ((cI, .int) :: (cZ, .boolean) :: ty) (wX ad cI cZ it o n g v r nx mt fl pr ofs ak hd an ++ rs) sz [.ref (ad 0), .int p0, .int p1]) (kz_Wr D (va_A (wX ad cI cZ it o n g v r nx mt fl pr ofs ak hd an ++ rs) sz) (kz_i (fun r9 => r9 = (sq_min ((p1 - nx p0.toNatClampNeg) + 1) 6))) (wX ad cI cZ it o n g v r (upd nx p0.toNatClampNeg (nx p0.toNatClampNeg + (sq_min ((p1 - nx p0.toNatClampNeg) + 1) 6))) mt (upd fl p0.toNatClampNeg (fl p0.toNatClampNeg + 1)) pr ofs ak hd an ++ rs)) (kz_T (fun _ => IAE) (fun _ => False)) 0 0 (va_A (wX ad cI cZ it o n g v r nx mt fl pr ofs ak hd an ++ rs) sz) := by
  refine ez_ofW (cc := cX0_sendEntries) (maxL := 4) (ret := (some .int)) (by decide) rfl ?_
  intro p e s m args below meth c s₁ B hml hTab hv
  obtain ⟨rfl, hsz, hP, hK, hD0, hE⟩ := hv
  have hx := B.exec
  have hb := B.bytes
  have hr := B.returns
  have hw9 : ∀ w ∈ kz_W9, w.before ([.ref (ad 0), .int p0, .int p1] : List Value).toArray s = true := fun w h => atoms_spec (ws := wsX0_sendEntries) B.pre w (List.mem_cons_of_mem _ h)
  have hown : s.vm.findClass RX0 = some m.cls := findClass_of_methodNamed B.named
  have hlocks := B.notSynchronized
  subst hsz
  have hD := hD0.self (sz := s.heap.size)
  generalize hAe : va_A (wX ad cI cZ it o n g v r nx mt fl pr ofs ak hd an ++ rs) s.heap.size = A at hD hE ⊢
  have hA : ∀ q : Nat, s.heap.size ≤ q → A q := fun q h => by rw [← hAe]; exact Or.inr h
  have hS : va_S A s.heap s.heap [] := va_S.rf
  have hO : kz_O s.heap s.heap := kz_O.rf _
  have hl := lv_entry ([.ref (ad 0), .int p0, .int p1]) (n := 4) (Nat.le_of_ble_eq_true rfl)
  rw [lg_entry_eq]
  generalize (lg_sl ([.ref (ad 0), .int p0, .int p1]) ++ List.replicate (4 - (lg_sl ([.ref (ad 0), .int p0, .int p1])).length) Slot.unset).toArray = ls at hl ⊢
  have hl : lv_has ls 4 [(0, .ref (ad 0)), (1, .int p0), (2, .int p1)] := hl
  refine lv_iload_n hx hb dX0_sendEntries_0 rfl (lv_at hl 2 rfl) ?_
  refine lv_aload_n hx hb dX0_sendEntries_1 rfl (lv_at hl 0 rfl) ?_
  refine va_get (D := D) (ci := 0) (v := .ref (ad 1)) (C := RX0) (T := TX0) (N := 14) hx hb hw9 uX0 hown hK hP 0 rfl rfl 6 (by decide) (hw9 _ mw_25) (fun _ h9 => h9) rfl dX0_sendEntries_2 ?_
  refine lv_iload_n hx hb dX0_sendEntries_5 rfl (lv_at hl 1 rfl) ?_
  refine va_iald hx hb hK hP 1 0 rfl rfl hin dX0_sendEntries_6 ?_
  refine lv_isub hx hb dX0_sendEntries_7 ?_
  refine lv_iconst (v := 1) hx hb dX0_sendEntries_8 (by decide) ?_
  refine lv_iadd hx hb dX0_sendEntries_9 ?_
  refine lv_bipush (v := 6) hx hb dX0_sendEntries_10 (by decide) ?_
  refine va_mmin hx hb (by rw [hml]; exact hl.1.symm) hown (hw9 _ mw_296) (hw9 _ mw_297) (hw9 _ mw_10) (hw9 _ mw_298) (Nat.le_of_ble_eq_true rfl) (Nat.le_of_ble_eq_true rfl) (Nat.le_of_ble_eq_true rfl) (Nat.le_of_ble_eq_true rfl) dX0_sendEntries_12 ?_
  refine W.eq (g2 := F0 m 15 ls [.int (sq_min ((p1 - (nx p0.toNatClampNeg)) + 1) 6)]) rfl ?_
  refine lv_istore_n (lv' := [(3, .int (sq_min ((p1 - (nx p0.toNatClampNeg)) + 1) 6)), (0, .ref (ad 0)), (1, .int p0), (2, .int p1)]) hx hb dX0_sendEntries_15 rfl hl (by decide) rfl (fun ls hl => ?_)
  refine lv_aload_n hx hb dX0_sendEntries_16 rfl (lv_at hl 1 rfl) ?_
  refine va_get (D := D) (ci := 0) (v := .ref (ad 3)) (C := RX0) (T := TX0) (N := 14) hx hb hw9 uX0 hown hK hP 0 rfl rfl 8 (by decide) (hw9 _ mw_27) (fun _ h9 => h9) rfl dX0_sendEntries_17 ?_
  refine lv_iload_n hx hb dX0_sendEntries_20 rfl (lv_at hl 2 rfl) ?_
  refine lv_aload_n hx hb dX0_sendEntries_21 rfl (lv_at hl 1 rfl) ?_
  refine va_get (D := D) (ci := 0) (v := .ref (ad 3)) (C := RX0) (T := TX0) (N := 14) hx hb hw9 uX0 hown hK hP 0 rfl rfl 8 (by decide) (hw9 _ mw_27) (fun _ h9 => h9) rfl dX0_sendEntries_22 ?_
  refine lv_iload_n hx hb dX0_sendEntries_25 rfl (lv_at hl 2 rfl) ?_
  refine va_iald hx hb hK hP 3 0 rfl rfl hin dX0_sendEntries_26 ?_
  refine lv_iconst (v := 1) hx hb dX0_sendEntries_27 (by decide) ?_
  refine lv_iadd hx hb dX0_sendEntries_28 ?_
  refine va_iast hx hb hK hP hD hS 3 0 rfl rfl hin dX0_sendEntries_29 (fun H locs hP hD hS => ?_)
  have hP : va_P D vwCl (wX ad cI cZ it o n g v r nx mt (upd fl p0.toNatClampNeg ((fl p0.toNatClampNeg) + 1)) pr ofs ak hd an ++ rs) H := hP
  have hD : va_D A (wX ad cI cZ it o n g v r nx mt (upd fl p0.toNatClampNeg ((fl p0.toNatClampNeg) + 1)) pr ofs ak hd an ++ rs) := hD
  refine lv_aload_n hx hb dX0_sendEntries_30 rfl (lv_at hl 1 rfl) ?_
  refine va_get (D := D) (ci := 0) (v := .ref (ad 1)) (C := RX0) (T := TX0) (N := 14) hx hb hw9 uX0 hown hK hP 0 rfl rfl 6 (by decide) (hw9 _ mw_25) (fun _ h9 => h9) rfl dX0_sendEntries_31 ?_
  refine lv_iload_n hx hb dX0_sendEntries_34 rfl (lv_at hl 2 rfl) ?_
  refine lv_aload_n hx hb dX0_sendEntries_35 rfl (lv_at hl 1 rfl) ?_
  refine va_get (D := D) (ci := 0) (v := .ref (ad 1)) (C := RX0) (T := TX0) (N := 14) hx hb hw9 uX0 hown hK hP 0 rfl rfl 6 (by decide) (hw9 _ mw_25) (fun _ h9 => h9) rfl dX0_sendEntries_36 ?_
  refine lv_iload_n hx hb dX0_sendEntries_39 rfl (lv_at hl 2 rfl) ?_
  refine va_iald hx hb hK hP 1 0 rfl rfl hin dX0_sendEntries_40 ?_
  refine lv_iload_n hx hb dX0_sendEntries_41 rfl (lv_at hl 0 rfl) ?_
  refine lv_iadd hx hb dX0_sendEntries_42 ?_
  refine va_iast hx hb hK hP hD hS 1 0 rfl rfl hin dX0_sendEntries_43 (fun H locs hP hD hS => ?_)
  have hP : va_P D vwCl (wX ad cI cZ it o n g v r (upd nx p0.toNatClampNeg ((nx p0.toNatClampNeg) + (sq_min ((p1 - (nx p0.toNatClampNeg)) + 1) 6))) mt (upd fl p0.toNatClampNeg ((fl p0.toNatClampNeg) + 1)) pr ofs ak hd an ++ rs) H := hP
  have hD : va_D A (wX ad cI cZ it o n g v r (upd nx p0.toNatClampNeg ((nx p0.toNatClampNeg) + (sq_min ((p1 - (nx p0.toNatClampNeg)) + 1) 6))) mt (upd fl p0.toNatClampNeg ((fl p0.toNatClampNeg) + 1)) pr ofs ak hd an ++ rs) := hD
  refine lv_iload_n hx hb dX0_sendEntries_44 rfl (lv_at hl 0 rfl) ?_
  exact kz_wreti hx hb hr hlocks hP hD hS (Nat.le_of_ble_eq_true rfl) (Nat.le_of_ble_eq_true rfl) (rfl)  dX0_sendEntries_45
set_option maxHeartbeats 4000000 in
set_option maxRecDepth 100000 in
theorem c_X0_members (l : Launch) (hl9 : l.stackTraces = false) (D : va_G) (cI cZ : ClassId) (ty : kz_Y) (ad : Nat → Nat) (rs : va_W) (sz : Nat) (it o n g v r : Int32) (nx mt fl pr ofs ak hd an : Nat → Int32) (p0 : Int32) (p1 : Int32) (p2 : Int32) : ez_M l yX0_members wsX0_members ({ frames := 7, cells := 1, slots := 6, locals := 110 } : Room) (kz_P D ((cI, .int) :: (cZ, .boolean) :: ty) (wX ad cI cZ it o n g v r nx mt fl pr ofs ak hd an ++ rs) sz [.ref (ad 0), .int p0, .int p1, .int p2]) (kz_Wr D (va_A (wX ad cI cZ it o n g v r nx mt fl pr ofs ak hd an ++ rs) sz) (kz_v (tc_members p0 p1 p2 = 0)) (wX ad cI cZ it p0 p1 p2 v r nx mt fl pr ofs ak hd an ++ rs)) (kz_T (fun _ => IAE) (fun k => k = tc_members p0 p1 p2 ∧ ¬ k = 0)) 0 0 (va_A (wX ad cI cZ it o n g v r nx mt fl pr ofs ak hd an ++ rs) sz) := by
  refine ez_ofW (cc := cX0_members) (maxL := 4) (ret := none) (by decide) rfl ?_
  intro p e s m args below meth c s₁ B hml hTab hv
  obtain ⟨rfl, hsz, hP, hK, hD0, hE⟩ := hv
  have hx := B.exec
  have hb := B.bytes
  have hr := B.returns
  have hw9 : ∀ w ∈ kz_W9, w.before ([.ref (ad 0), .int p0, .int p1, .int p2] : List Value).toArray s = true := fun w h => atoms_spec (ws := wsX0_members) B.pre w (List.mem_cons_of_mem _ h)
  have hown : s.vm.findClass RX0 = some m.cls := findClass_of_methodNamed B.named
  have hlocks := B.notSynchronized
  subst hsz
  have hD := hD0.self (sz := s.heap.size)
  generalize hAe : va_A (wX ad cI cZ it o n g v r nx mt fl pr ofs ak hd an ++ rs) s.heap.size = A at hD hE ⊢
  have hA : ∀ q : Nat, s.heap.size ≤ q → A q := fun q h => by rw [← hAe]; exact Or.inr h
  have hS : va_S A s.heap s.heap [] := va_S.rf
  have hO : kz_O s.heap s.heap := kz_O.rf _
  have hl := lv_entry ([.ref (ad 0), .int p0, .int p1, .int p2]) (n := 4) (Nat.le_of_ble_eq_true rfl)
  rw [lg_entry_eq]
  generalize (lg_sl ([.ref (ad 0), .int p0, .int p1, .int p2]) ++ List.replicate (4 - (lg_sl ([.ref (ad 0), .int p0, .int p1, .int p2])).length) Slot.unset).toArray = ls at hl ⊢
  have hl : lv_has ls 4 [(0, .ref (ad 0)), (1, .int p0), (2, .int p1), (3, .int p2)] := hl
  refine lv_iload_n hx hb dX0_members_0 rfl (lv_at hl 1 rfl) ?_
  refine kz_rS (As := [.int p0]) (rest := []) ⟨hx, hb, hml, hown, hw9⟩ (c_X0_requireSet l hl9 D ((cI, .int) :: (cZ, .boolean) :: ty) (wX ad cI cZ it o n g v r nx mt fl pr ofs ak hd an ++ rs) s.heap.size p0) (kz_cS 1 hw9 mw_98 mw_99 mw_1 mw_100 rfl rfl (by decide +kernel) ⟨Nat.le_of_ble_eq_true rfl, Nat.le_of_ble_eq_true rfl⟩) (kz_preS hK hP hD hS hA hE) rfl hl.1 rfl (Nat.le_of_ble_eq_true rfl) dX0_members_1 ⟨Nat.le_of_ble_eq_true rfl, Nat.le_of_ble_eq_true rfl⟩ (fun k ce q9 H1 hk hO1 hce hcv hcl => ?_) (fun v9 H hv9 hO1 => ?_)
  · -- thrown
    exact kz_out (k := 1) hTab hlocks (by first | (simp [tc_members, hk]; done) | (simp only [tc_members, hk, eq_self, not_true_eq_false, not_false_eq_true, and_self, and_true, true_and, and_false, false_and, or_true, true_or, or_false, false_or, if_true, if_false, ite_true, ite_false, Bool.and_eq_true, decide_true, decide_false, decide_eq_true_eq, ne_eq, Nat.reduceEqDiff, Nat.one_ne_zero, Bool.false_eq_true, reduceCtorEq]; done) | (simp only [tc_members, hk, eq_self, not_true_eq_false, not_false_eq_true, and_self, and_true, true_and, and_false, false_and, or_true, true_or, or_false, false_or, if_true, if_false, ite_true, ite_false, Bool.and_eq_true, decide_true, decide_false, decide_eq_true_eq, ne_eq, Nat.reduceEqDiff, Nat.one_ne_zero, Bool.false_eq_true, reduceCtorEq]; decide)) (hO.tr hO1) hce hcv hcl (fun _ h => nomatch h) (Nat.le_of_ble_eq_true rfl) (Nat.le_of_ble_eq_true rfl)
  · -- goes on
    obtain ⟨rfl, hv_1⟩ := hv9
    have hP := hO1.P hP
    have hS := hO1.S hS
    have hO := hO.tr hO1
    refine W.eq (g2 := F0 m 4 ls []) rfl ?_
    refine lv_iload_n hx hb dX0_members_4 rfl (lv_at hl 2 rfl) ?_
    refine kz_rS (As := [.int p1]) (rest := []) ⟨hx, hb, hml, hown, hw9⟩ (c_X0_requireSet l hl9 D ((cI, .int) :: (cZ, .boolean) :: ty) (wX ad cI cZ it o n g v r nx mt fl pr ofs ak hd an ++ rs) H.size p1) (kz_cS 1 hw9 mw_98 mw_99 mw_1 mw_100 rfl rfl (by decide +kernel) ⟨Nat.le_of_ble_eq_true rfl, Nat.le_of_ble_eq_true rfl⟩) (kz_preS hK hP hD hS hA hE) rfl hl.1 rfl (Nat.le_of_ble_eq_true rfl) dX0_members_5 ⟨Nat.le_of_ble_eq_true rfl, Nat.le_of_ble_eq_true rfl⟩ (fun k ce q9 H1 hk hO1 hce hcv hcl => ?_) (fun v9 H hv9 hO1 => ?_)
    · -- thrown
      exact kz_out (k := 1) hTab hlocks (by first | (simp [tc_members, hv_1, hk]; done) | (simp only [tc_members, hv_1, hk, eq_self, not_true_eq_false, not_false_eq_true, and_self, and_true, true_and, and_false, false_and, or_true, true_or, or_false, false_or, if_true, if_false, ite_true, ite_false, Bool.and_eq_true, decide_true, decide_false, decide_eq_true_eq, ne_eq, Nat.reduceEqDiff, Nat.one_ne_zero, Bool.false_eq_true, reduceCtorEq]; done) | (simp only [tc_members, hv_1, hk, eq_self, not_true_eq_false, not_false_eq_true, and_self, and_true, true_and, and_false, false_and, or_true, true_or, or_false, false_or, if_true, if_false, ite_true, ite_false, Bool.and_eq_true, decide_true, decide_false, decide_eq_true_eq, ne_eq, Nat.reduceEqDiff, Nat.one_ne_zero, Bool.false_eq_true, reduceCtorEq]; decide)) (hO.tr hO1) hce hcv hcl (fun _ h => nomatch h) (Nat.le_of_ble_eq_true rfl) (Nat.le_of_ble_eq_true rfl)
    · -- goes on
      obtain ⟨rfl, hv_2⟩ := hv9
      have hP := hO1.P hP
      have hS := hO1.S hS
      have hO := hO.tr hO1
      refine W.eq (g2 := F0 m 8 ls []) rfl ?_
      refine lv_iload_n hx hb dX0_members_8 rfl (lv_at hl 3 rfl) ?_
      refine kz_rS (As := [.int p2]) (rest := []) ⟨hx, hb, hml, hown, hw9⟩ (c_X0_requireSet l hl9 D ((cI, .int) :: (cZ, .boolean) :: ty) (wX ad cI cZ it o n g v r nx mt fl pr ofs ak hd an ++ rs) H.size p2) (kz_cS 1 hw9 mw_98 mw_99 mw_1 mw_100 rfl rfl (by decide +kernel) ⟨Nat.le_of_ble_eq_true rfl, Nat.le_of_ble_eq_true rfl⟩) (kz_preS hK hP hD hS hA hE) rfl hl.1 rfl (Nat.le_of_ble_eq_true rfl) dX0_members_9 ⟨Nat.le_of_ble_eq_true rfl, Nat.le_of_ble_eq_true rfl⟩ (fun k ce q9 H1 hk hO1 hce hcv hcl => ?_) (fun v9 H hv9 hO1 => ?_)
      · -- thrown
        exact kz_out (k := 1) hTab hlocks (by first | (simp [tc_members, hv_1, hv_2, hk]; done) | (simp only [tc_members, hv_1, hv_2, hk, eq_self, not_true_eq_false, not_false_eq_true, and_self, and_true, true_and, and_false, false_and, or_true, true_or, or_false, false_or, if_true, if_false, ite_true, ite_false, Bool.and_eq_true, decide_true, decide_false, decide_eq_true_eq, ne_eq, Nat.reduceEqDiff, Nat.one_ne_zero, Bool.false_eq_true, reduceCtorEq]; done) | (simp only [tc_members, hv_1, hv_2, hk, eq_self, not_true_eq_false, not_false_eq_true, and_self, and_true, true_and, and_false, false_and, or_true, true_or, or_false, false_or, if_true, if_false, ite_true, ite_false, Bool.and_eq_true, decide_true, decide_false, decide_eq_true_eq, ne_eq, Nat.reduceEqDiff, Nat.one_ne_zero, Bool.false_eq_true, reduceCtorEq]; decide)) (hO.tr hO1) hce hcv hcl (fun _ h => nomatch h) (Nat.le_of_ble_eq_true rfl) (Nat.le_of_ble_eq_true rfl)
      · -- goes on
        obtain ⟨rfl, hv_3⟩ := hv9
        have hP := hO1.P hP
        have hS := hO1.S hS
        have hO := hO.tr hO1
        refine W.eq (g2 := F0 m 12 ls []) rfl ?_
        refine lv_iload_n hx hb dX0_members_12 rfl (lv_at hl 1 rfl) ?_
        refine lv_if_ne (tgt := 26) hx hb dX0_members_13 (by decide) (fun c_4 => ?_) (fun c_4 => ?_)
        · -- 13 -> 26
          refine lv_iload_n hx hb dX0_members_26 rfl (lv_at hl 3 rfl) ?_
          refine lv_iload_n hx hb dX0_members_27 rfl (lv_at hl 1 rfl) ?_
          refine lv_iload_n hx hb dX0_members_28 rfl (lv_at hl 2 rfl) ?_
          refine lv_ior hx hb dX0_members_29 ?_
          refine lv_iand hx hb dX0_members_30 ?_
          refine lv_if_eq (tgt := 44) hx hb dX0_members_31 (by decide) (fun c_5 => ?_) (fun c_5 => ?_)
          · -- 31 -> 44
            refine lv_aload_n hx hb dX0_members_44 rfl (lv_at hl 0 rfl) ?_
            refine lv_iload_n hx hb dX0_members_45 rfl (lv_at hl 1 rfl) ?_
            refine va_put (D := D) (ci := 0) (v := .int p0) (ty := .int) (C := RX0) (T := TX0) (N := 14) hx hb hw9 uX0 tyX0 tyX0_ok nmX0 hown hK hP hD hS 0 rfl rfl 1 (by decide) (hw9 _ mw_20) (fun _ h9 => h9) rfl (by decide +kernel) rfl rfl (Nat.le_of_ble_eq_true rfl) dX0_members_46 (fun H locs hP hD hS => ?_)
            have hP : va_P D vwCl (wX ad cI cZ it p0 n g v r nx mt fl pr ofs ak hd an ++ rs) H := hP
            have hD : va_D A (wX ad cI cZ it p0 n g v r nx mt fl pr ofs ak hd an ++ rs) := hD
            refine lv_aload_n hx hb dX0_members_49 rfl (lv_at hl 0 rfl) ?_
            refine lv_iload_n hx hb dX0_members_50 rfl (lv_at hl 2 rfl) ?_
            refine va_put (D := D) (ci := 0) (v := .int p1) (ty := .int) (C := RX0) (T := TX0) (N := 14) hx hb hw9 uX0 tyX0 tyX0_ok nmX0 hown hK hP hD hS 0 rfl rfl 2 (by decide) (hw9 _ mw_21) (fun _ h9 => h9) rfl (by decide +kernel) rfl rfl (Nat.le_of_ble_eq_true rfl) dX0_members_51 (fun H locs hP hD hS => ?_)
            have hP : va_P D vwCl (wX ad cI cZ it p0 p1 g v r nx mt fl pr ofs ak hd an ++ rs) H := hP
            have hD : va_D A (wX ad cI cZ it p0 p1 g v r nx mt fl pr ofs ak hd an ++ rs) := hD
            refine lv_aload_n hx hb dX0_members_54 rfl (lv_at hl 0 rfl) ?_
            refine lv_iload_n hx hb dX0_members_55 rfl (lv_at hl 3 rfl) ?_
            refine va_put (D := D) (ci := 0) (v := .int p2) (ty := .int) (C := RX0) (T := TX0) (N := 14) hx hb hw9 uX0 tyX0 tyX0_ok nmX0 hown hK hP hD hS 0 rfl rfl 3 (by decide) (hw9 _ mw_22) (fun _ h9 => h9) rfl (by decide +kernel) rfl rfl (Nat.le_of_ble_eq_true rfl) dX0_members_56 (fun H locs hP hD hS => ?_)
            have hP : va_P D vwCl (wX ad cI cZ it p0 p1 p2 v r nx mt fl pr ofs ak hd an ++ rs) H := hP
            have hD : va_D A (wX ad cI cZ it p0 p1 p2 v r nx mt fl pr ofs ak hd an ++ rs) := hD
            exact kz_wretv hx hb hr hlocks hP hD hS (Nat.le_of_ble_eq_true rfl) (Nat.le_of_ble_eq_true rfl) (by first | (simp [tc_members, hv_1, hv_2, hv_3, c_4, c_5]; done) | (simp only [tc_members, hv_1, hv_2, hv_3, c_4, c_5, eq_self, not_true_eq_false, not_false_eq_true, and_self, and_true, true_and, and_false, false_and, or_true, true_or, or_false, false_or, if_true, if_false, ite_true, ite_false, Bool.and_eq_true, decide_true, decide_false, decide_eq_true_eq, ne_eq, Nat.reduceEqDiff, Nat.one_ne_zero, Bool.false_eq_true, reduceCtorEq]; done) | (simp only [tc_members, hv_1, hv_2, hv_3, c_4, c_5, eq_self, not_true_eq_false, not_false_eq_true, and_self, and_true, true_and, and_false, false_and, or_true, true_or, or_false, false_or, if_true, if_false, ite_true, ite_false, Bool.and_eq_true, decide_true, decide_false, decide_eq_true_eq, ne_eq, Nat.reduceEqDiff, Nat.one_ne_zero, Bool.false_eq_true, reduceCtorEq]; decide))  dX0_members_59
          · -- 31 -> 34
            obtain ⟨sa9, hst9⟩ := hE.2.2.1 (53, "a learner is a voter") (by decide)
            exact ez_throwS (cls := IAE) (names := EXN) hx hb hl9 hown (by decide +kernel) (by decide +kernel) (hw9 _ mw_101) (hw9 _ mw_6) hst9 (at_IAE hw9 hE) hO.1 (by rw [hml]; exact hl.1) hTab hlocks dX0_members_34 dX0_members_37 dX0_members_38 dX0_members_40 dX0_members_43 (by decide) (Nat.le_of_ble_eq_true rfl) (Nat.le_of_ble_eq_true rfl) (Nat.le_of_ble_eq_true rfl) (fun q t ce h1 h2 h3 h4 h5 h6 => ⟨1, ce, (by first | (simp [tc_members, hv_1, hv_2, hv_3, c_4, c_5]; done) | (simp only [tc_members, hv_1, hv_2, hv_3, c_4, c_5, eq_self, not_true_eq_false, not_false_eq_true, and_self, and_true, true_and, and_false, false_and, or_true, true_or, or_false, false_or, if_true, if_false, ite_true, ite_false, Bool.and_eq_true, decide_true, decide_false, decide_eq_true_eq, ne_eq, Nat.reduceEqDiff, Nat.one_ne_zero, Bool.false_eq_true, reduceCtorEq]; done) | (simp only [tc_members, hv_1, hv_2, hv_3, c_4, c_5, eq_self, not_true_eq_false, not_false_eq_true, and_self, and_true, true_and, and_false, false_and, or_true, true_or, or_false, false_or, if_true, if_false, ite_true, ite_false, Bool.and_eq_true, decide_true, decide_false, decide_eq_true_eq, ne_eq, Nat.reduceEqDiff, Nat.one_ne_zero, Bool.false_eq_true, reduceCtorEq]; decide)), h1, h2, by rw [h4.findClass]; exact h3, h5, h6⟩)
        · -- 13 -> 16
          obtain ⟨sa9, hst9⟩ := hE.2.2.1 (48, "OLD is empty") (by decide)
          exact ez_throwS (cls := IAE) (names := EXN) hx hb hl9 hown (by decide +kernel) (by decide +kernel) (hw9 _ mw_101) (hw9 _ mw_6) hst9 (at_IAE hw9 hE) hO.1 (by rw [hml]; exact hl.1) hTab hlocks dX0_members_16 dX0_members_19 dX0_members_20 dX0_members_22 dX0_members_25 (by decide) (Nat.le_of_ble_eq_true rfl) (Nat.le_of_ble_eq_true rfl) (Nat.le_of_ble_eq_true rfl) (fun q t ce h1 h2 h3 h4 h5 h6 => ⟨1, ce, (by first | (simp [tc_members, hv_1, hv_2, hv_3, c_4]; done) | (simp only [tc_members, hv_1, hv_2, hv_3, c_4, eq_self, not_true_eq_false, not_false_eq_true, and_self, and_true, true_and, and_false, false_and, or_true, true_or, or_false, false_or, if_true, if_false, ite_true, ite_false, Bool.and_eq_true, decide_true, decide_false, decide_eq_true_eq, ne_eq, Nat.reduceEqDiff, Nat.one_ne_zero, Bool.false_eq_true, reduceCtorEq]; done) | (simp only [tc_members, hv_1, hv_2, hv_3, c_4, eq_self, not_true_eq_false, not_false_eq_true, and_self, and_true, true_and, and_false, false_and, or_true, true_or, or_false, false_or, if_true, if_false, ite_true, ite_false, Bool.and_eq_true, decide_true, decide_false, decide_eq_true_eq, ne_eq, Nat.reduceEqDiff, Nat.one_ne_zero, Bool.false_eq_true, reduceCtorEq]; decide)), h1, h2, by rw [h4.findClass]; exact h3, h5, h6⟩)
set_option maxHeartbeats 4000000 in
set_option maxRecDepth 100000 in
theorem c_X0_change (l : Launch) (hl9 : l.stackTraces = false) (D : va_G) (cI cZ : ClassId) (ty : kz_Y) (ad : Nat → Nat) (rs : va_W) (sz : Nat) (it o n g v r : Int32) (nx mt fl pr ofs ak hd an : Nat → Int32) (p0 : Int32) (p1 : Int32) : ez_M l yX0_change wsX0_change ({ frames := 7, cells := 1, slots := 6, locals := 110 } : Room) (kz_P D ((cI, .int) :: (cZ, .boolean) :: ty) (wX ad cI cZ it o n g v r nx mt fl pr ofs ak hd an ++ rs) sz [.ref (ad 0), .int p0, .int p1]) (kz_Wr D (va_A (wX ad cI cZ it o n g v r nx mt fl pr ofs ak hd an ++ rs) sz) (kz_v (tc_change o n g mt p0 p1 = 0)) (wX ad cI cZ it o p0 (g &&& (p0 ^^^ (-1))) v r nx mt fl pr ofs ak hd an ++ rs)) (kz_T (fun k => match k with | 1 => IAE | _ => ISE) (fun k => k = tc_change o n g mt p0 p1 ∧ ¬ k = 0)) 0 0 (va_A (wX ad cI cZ it o n g v r nx mt fl pr ofs ak hd an ++ rs) sz) := by
  refine ez_ofW (cc := cX0_change) (maxL := 3) (ret := none) (by decide) rfl ?_
  intro p e s m args below meth c s₁ B hml hTab hv
  obtain ⟨rfl, hsz, hP, hK, hD0, hE⟩ := hv
  have hx := B.exec
  have hb := B.bytes
  have hr := B.returns
  have hw9 : ∀ w ∈ kz_W9, w.before ([.ref (ad 0), .int p0, .int p1] : List Value).toArray s = true := fun w h => atoms_spec (ws := wsX0_change) B.pre w (List.mem_cons_of_mem _ h)
  have hown : s.vm.findClass RX0 = some m.cls := findClass_of_methodNamed B.named
  have hlocks := B.notSynchronized
  subst hsz
  have hD := hD0.self (sz := s.heap.size)
  generalize hAe : va_A (wX ad cI cZ it o n g v r nx mt fl pr ofs ak hd an ++ rs) s.heap.size = A at hD hE ⊢
  have hA : ∀ q : Nat, s.heap.size ≤ q → A q := fun q h => by rw [← hAe]; exact Or.inr h
  have hS : va_S A s.heap s.heap [] := va_S.rf
  have hO : kz_O s.heap s.heap := kz_O.rf _
  have hl := lv_entry ([.ref (ad 0), .int p0, .int p1]) (n := 3) (Nat.le_of_ble_eq_true rfl)
  rw [lg_entry_eq]
  generalize (lg_sl ([.ref (ad 0), .int p0, .int p1]) ++ List.replicate (3 - (lg_sl ([.ref (ad 0), .int p0, .int p1])).length) Slot.unset).toArray = ls at hl ⊢
  have hl : lv_has ls 3 [(0, .ref (ad 0)), (1, .int p0), (2, .int p1)] := hl
  refine lv_iload_n hx hb dX0_change_0 rfl (lv_at hl 1 rfl) ?_
  refine kz_rS (As := [.int p0]) (rest := []) ⟨hx, hb, hml, hown, hw9⟩ (c_X0_requireSet l hl9 D ((cI, .int) :: (cZ, .boolean) :: ty) (wX ad cI cZ it o n g v r nx mt fl pr ofs ak hd an ++ rs) s.heap.size p0) (kz_cS 1 hw9 mw_98 mw_99 mw_1 mw_100 rfl rfl (by decide +kernel) ⟨Nat.le_of_ble_eq_true rfl, Nat.le_of_ble_eq_true rfl⟩) (kz_preS hK hP hD hS hA hE) rfl hl.1 rfl (Nat.le_of_ble_eq_true rfl) dX0_change_1 ⟨Nat.le_of_ble_eq_true rfl, Nat.le_of_ble_eq_true rfl⟩ (fun k ce q9 H1 hk hO1 hce hcv hcl => ?_) (fun v9 H hv9 hO1 => ?_)
  · -- thrown
    exact kz_out (k := 1) hTab hlocks (by first | (simp [tc_change, hk]; done) | (simp only [tc_change, hk, eq_self, not_true_eq_false, not_false_eq_true, and_self, and_true, true_and, and_false, false_and, or_true, true_or, or_false, false_or, if_true, if_false, ite_true, ite_false, Bool.and_eq_true, decide_true, decide_false, decide_eq_true_eq, ne_eq, Nat.reduceEqDiff, Nat.one_ne_zero, Bool.false_eq_true, reduceCtorEq]; done) | (simp only [tc_change, hk, eq_self, not_true_eq_false, not_false_eq_true, and_self, and_true, true_and, and_false, false_and, or_true, true_or, or_false, false_or, if_true, if_false, ite_true, ite_false, Bool.and_eq_true, decide_true, decide_false, decide_eq_true_eq, ne_eq, Nat.reduceEqDiff, Nat.one_ne_zero, Bool.false_eq_true, reduceCtorEq]; decide)) (hO.tr hO1) hce hcv hcl (fun _ h => nomatch h) (Nat.le_of_ble_eq_true rfl) (Nat.le_of_ble_eq_true rfl)
  · -- goes on
    obtain ⟨rfl, hv_1⟩ := hv9
    have hP := hO1.P hP
    have hS := hO1.S hS
    have hO := hO.tr hO1
    refine W.eq (g2 := F0 m 4 ls []) rfl ?_
    refine lv_iload_n hx hb dX0_change_4 rfl (lv_at hl 1 rfl) ?_
    refine lv_if_ne (tgt := 18) hx hb dX0_change_5 (by decide) (fun c_2 => ?_) (fun c_2 => ?_)
    · -- 5 -> 18
      refine lv_iload_n hx hb dX0_change_18 rfl (lv_at hl 1 rfl) ?_
      refine lv_aload_n hx hb dX0_change_19 rfl (lv_at hl 0 rfl) ?_
      refine va_get (D := D) (ci := 0) (v := .int o) (C := RX0) (T := TX0) (N := 14) hx hb hw9 uX0 hown hK hP 0 rfl rfl 1 (by decide) (hw9 _ mw_20) (fun _ h9 => h9) rfl dX0_change_20 ?_
      refine lv_aload_n hx hb dX0_change_23 rfl (lv_at hl 0 rfl) ?_
      refine lv_iload_n hx hb dX0_change_24 rfl (lv_at hl 2 rfl) ?_
      refine kz_rV (As := [.int p1]) (rest := [.int o, .int p0]) ⟨hx, hb, hml, hown, hw9⟩ (c_X0_learnersMatching l hl9 D cI cZ ty ad rs H.size it o n g v r nx mt fl pr ofs ak hd an p1) (kz_cV 1 hw9 mw_180 mw_182 ms_3 mw_1 mw_183 rfl rfl (by decide +kernel) ⟨Nat.le_of_ble_eq_true rfl, Nat.le_of_ble_eq_true rfl⟩) (kz_preV (q0 := 0) (ci := 0) hK hP hD hS hA hE rfl rfl) rfl hl.1 rfl (Nat.le_of_ble_eq_true rfl) dX0_change_25 ⟨Nat.le_of_ble_eq_true rfl, Nat.le_of_ble_eq_true rfl⟩ (fun _ _ _ _ h => False.elim h) (fun v9 H hv9 hO1 => ?_)
      obtain ⟨_, rfl, rfl⟩ := hv9
      have hP := hO1.P hP
      have hS := hO1.S hS
      have hO := hO.tr hO1
      refine W.eq (g2 := F0 m 28 ls [.int (g &&& sq_L mt p1 7), .int o, .int p0]) rfl ?_
      refine lv_ior hx hb dX0_change_28 ?_
      refine lv_iconst (v := (-1)) hx hb dX0_change_29 (by decide) ?_
      refine lv_ixor hx hb dX0_change_30 ?_
      refine lv_iand hx hb dX0_change_31 ?_
      refine lv_if_eq (tgt := 45) hx hb dX0_change_32 (by decide) (fun c_3 => ?_) (fun c_3 => ?_)
      · -- 32 -> 45
        refine lv_aload_n hx hb dX0_change_45 rfl (lv_at hl 0 rfl) ?_
        refine va_get (D := D) (ci := 0) (v := .int n) (C := RX0) (T := TX0) (N := 14) hx hb hw9 uX0 hown hK hP 0 rfl rfl 2 (by decide) (hw9 _ mw_21) (fun _ h9 => h9) rfl dX0_change_46 ?_
        refine lv_if_eq (tgt := 62) hx hb dX0_change_49 (by decide) (fun c_4 => ?_) (fun c_4 => ?_)
        · -- 49 -> 62
          refine lv_aload_n hx hb dX0_change_62 rfl (lv_at hl 0 rfl) ?_
          refine lv_iload_n hx hb dX0_change_63 rfl (lv_at hl 1 rfl) ?_
          refine va_put (D := D) (ci := 0) (v := .int p0) (ty := .int) (C := RX0) (T := TX0) (N := 14) hx hb hw9 uX0 tyX0 tyX0_ok nmX0 hown hK hP hD hS 0 rfl rfl 2 (by decide) (hw9 _ mw_21) (fun _ h9 => h9) rfl (by decide +kernel) rfl rfl (Nat.le_of_ble_eq_true rfl) dX0_change_64 (fun H locs hP hD hS => ?_)
          have hP : va_P D vwCl (wX ad cI cZ it o p0 g v r nx mt fl pr ofs ak hd an ++ rs) H := hP
          have hD : va_D A (wX ad cI cZ it o p0 g v r nx mt fl pr ofs ak hd an ++ rs) := hD
          refine lv_aload_n hx hb dX0_change_67 rfl (lv_at hl 0 rfl) ?_
          refine lv_aload_n hx hb dX0_change_68 rfl (lv_at hl 0 rfl) ?_
          refine va_get (D := D) (ci := 0) (v := .int g) (C := RX0) (T := TX0) (N := 14) hx hb hw9 uX0 hown hK hP 0 rfl rfl 3 (by decide) (hw9 _ mw_22) (fun _ h9 => h9) rfl dX0_change_69 ?_
          refine lv_iload_n hx hb dX0_change_72 rfl (lv_at hl 1 rfl) ?_
          refine lv_iconst (v := (-1)) hx hb dX0_change_73 (by decide) ?_
          refine lv_ixor hx hb dX0_change_74 ?_
          refine lv_iand hx hb dX0_change_75 ?_
          refine va_put (D := D) (ci := 0) (v := .int (g &&& (p0 ^^^ (-1)))) (ty := .int) (C := RX0) (T := TX0) (N := 14) hx hb hw9 uX0 tyX0 tyX0_ok nmX0 hown hK hP hD hS 0 rfl rfl 3 (by decide) (hw9 _ mw_22) (fun _ h9 => h9) rfl (by decide +kernel) rfl rfl (Nat.le_of_ble_eq_true rfl) dX0_change_76 (fun H locs hP hD hS => ?_)
          have hP : va_P D vwCl (wX ad cI cZ it o p0 (g &&& (p0 ^^^ (-1))) v r nx mt fl pr ofs ak hd an ++ rs) H := hP
          have hD : va_D A (wX ad cI cZ it o p0 (g &&& (p0 ^^^ (-1))) v r nx mt fl pr ofs ak hd an ++ rs) := hD
          exact kz_wretv hx hb hr hlocks hP hD hS (Nat.le_of_ble_eq_true rfl) (Nat.le_of_ble_eq_true rfl) (by first | (simp [tc_change, hv_1, c_2, c_3, c_4]; done) | (simp only [tc_change, hv_1, c_2, c_3, c_4, eq_self, not_true_eq_false, not_false_eq_true, and_self, and_true, true_and, and_false, false_and, or_true, true_or, or_false, false_or, if_true, if_false, ite_true, ite_false, Bool.and_eq_true, decide_true, decide_false, decide_eq_true_eq, ne_eq, Nat.reduceEqDiff, Nat.one_ne_zero, Bool.false_eq_true, reduceCtorEq]; done) | (simp only [tc_change, hv_1, c_2, c_3, c_4, eq_self, not_true_eq_false, not_false_eq_true, and_self, and_true, true_and, and_false, false_and, or_true, true_or, or_false, false_or, if_true, if_false, ite_true, ite_false, Bool.and_eq_true, decide_true, decide_false, decide_eq_true_eq, ne_eq, Nat.reduceEqDiff, Nat.one_ne_zero, Bool.false_eq_true, reduceCtorEq]; decide))  dX0_change_79
        · -- 49 -> 52
          obtain ⟨sa9, hst9⟩ := hE.2.2.1 (71, "a change is under way") (by decide)
          exact ez_throwS (cls := ISE) (names := EXN) hx hb hl9 hown (by decide +kernel) (by decide +kernel) (hw9 _ mw_188) (hw9 _ mw_7) hst9 (at_ISE hw9 hE) hO.1 (by rw [hml]; exact hl.1) hTab hlocks dX0_change_52 dX0_change_55 dX0_change_56 dX0_change_58 dX0_change_61 (by decide) (Nat.le_of_ble_eq_true rfl) (Nat.le_of_ble_eq_true rfl) (Nat.le_of_ble_eq_true rfl) (fun q t ce h1 h2 h3 h4 h5 h6 => ⟨2, ce, (by first | (simp [tc_change, hv_1, c_2, c_3, c_4]; done) | (simp only [tc_change, hv_1, c_2, c_3, c_4, eq_self, not_true_eq_false, not_false_eq_true, and_self, and_true, true_and, and_false, false_and, or_true, true_or, or_false, false_or, if_true, if_false, ite_true, ite_false, Bool.and_eq_true, decide_true, decide_false, decide_eq_true_eq, ne_eq, Nat.reduceEqDiff, Nat.one_ne_zero, Bool.false_eq_true, reduceCtorEq]; done) | (simp only [tc_change, hv_1, c_2, c_3, c_4, eq_self, not_true_eq_false, not_false_eq_true, and_self, and_true, true_and, and_false, false_and, or_true, true_or, or_false, false_or, if_true, if_false, ite_true, ite_false, Bool.and_eq_true, decide_true, decide_false, decide_eq_true_eq, ne_eq, Nat.reduceEqDiff, Nat.one_ne_zero, Bool.false_eq_true, reduceCtorEq]; decide)), h1, h2, by rw [h4.findClass]; exact h3, h5, h6⟩)
      · -- 32 -> 35
        obtain ⟨sa9, hst9⟩ := hE.2.2.1 (67, "one of the target is neither old nor a learner far enough") (by decide)
        exact ez_throwS (cls := IAE) (names := EXN) hx hb hl9 hown (by decide +kernel) (by decide +kernel) (hw9 _ mw_101) (hw9 _ mw_6) hst9 (at_IAE hw9 hE) hO.1 (by rw [hml]; exact hl.1) hTab hlocks dX0_change_35 dX0_change_38 dX0_change_39 dX0_change_41 dX0_change_44 (by decide) (Nat.le_of_ble_eq_true rfl) (Nat.le_of_ble_eq_true rfl) (Nat.le_of_ble_eq_true rfl) (fun q t ce h1 h2 h3 h4 h5 h6 => ⟨1, ce, (by first | (simp [tc_change, hv_1, c_2, c_3]; done) | (simp only [tc_change, hv_1, c_2, c_3, eq_self, not_true_eq_false, not_false_eq_true, and_self, and_true, true_and, and_false, false_and, or_true, true_or, or_false, false_or, if_true, if_false, ite_true, ite_false, Bool.and_eq_true, decide_true, decide_false, decide_eq_true_eq, ne_eq, Nat.reduceEqDiff, Nat.one_ne_zero, Bool.false_eq_true, reduceCtorEq]; done) | (simp only [tc_change, hv_1, c_2, c_3, eq_self, not_true_eq_false, not_false_eq_true, and_self, and_true, true_and, and_false, false_and, or_true, true_or, or_false, false_or, if_true, if_false, ite_true, ite_false, Bool.and_eq_true, decide_true, decide_false, decide_eq_true_eq, ne_eq, Nat.reduceEqDiff, Nat.one_ne_zero, Bool.false_eq_true, reduceCtorEq]; decide)), h1, h2, by rw [h4.findClass]; exact h3, h5, h6⟩)
    · -- 5 -> 8
      obtain ⟨sa9, hst9⟩ := hE.2.2.1 (61, "the target is empty") (by decide)
      exact ez_throwS (cls := IAE) (names := EXN) hx hb hl9 hown (by decide +kernel) (by decide +kernel) (hw9 _ mw_101) (hw9 _ mw_6) hst9 (at_IAE hw9 hE) hO.1 (by rw [hml]; exact hl.1) hTab hlocks dX0_change_8 dX0_change_11 dX0_change_12 dX0_change_14 dX0_change_17 (by decide) (Nat.le_of_ble_eq_true rfl) (Nat.le_of_ble_eq_true rfl) (Nat.le_of_ble_eq_true rfl) (fun q t ce h1 h2 h3 h4 h5 h6 => ⟨1, ce, (by first | (simp [tc_change, hv_1, c_2]; done) | (simp only [tc_change, hv_1, c_2, eq_self, not_true_eq_false, not_false_eq_true, and_self, and_true, true_and, and_false, false_and, or_true, true_or, or_false, false_or, if_true, if_false, ite_true, ite_false, Bool.and_eq_true, decide_true, decide_false, decide_eq_true_eq, ne_eq, Nat.reduceEqDiff, Nat.one_ne_zero, Bool.false_eq_true, reduceCtorEq]; done) | (simp only [tc_change, hv_1, c_2, eq_self, not_true_eq_false, not_false_eq_true, and_self, and_true, true_and, and_false, false_and, or_true, true_or, or_false, false_or, if_true, if_false, ite_true, ite_false, Bool.and_eq_true, decide_true, decide_false, decide_eq_true_eq, ne_eq, Nat.reduceEqDiff, Nat.one_ne_zero, Bool.false_eq_true, reduceCtorEq]; decide)), h1, h2, by rw [h4.findClass]; exact h3, h5, h6⟩)
end
section
set_option maxHeartbeats 4000000 in
set_option maxRecDepth 100000 in
theorem c_X0_settle (l : Launch) (hl9 : l.stackTraces = false) (D : va_G) (cI cZ : ClassId) (ty : kz_Y) (ad : Nat → Nat) (rs : va_W) (sz : Nat) (it o n g v r : Int32) (nx mt fl pr ofs ak hd an : Nat → Int32) : ez_M l yX0_settle wsX0_settle ({ frames := 6, cells := 1, slots := 6, locals := 90 } : Room) (kz_P D ((cI, .int) :: (cZ, .boolean) :: ty) (wX ad cI cZ it o n g v r nx mt fl pr ofs ak hd an ++ rs) sz [.ref (ad 0)]) (kz_Wr D (va_A (wX ad cI cZ it o n g v r nx mt fl pr ofs ak hd an ++ rs) sz) (kz_i (fun r9 => (tc_settle n = 0) ∧ r9 = (sq_z (sq_I n it)))) (wX ad cI cZ it n 0 g v r nx mt fl pr ofs ak hd an ++ rs)) (kz_T (fun _ => ISE) (fun k => k = tc_settle n ∧ ¬ k = 0)) 0 0 (va_A (wX ad cI cZ it o n g v r nx mt fl pr ofs ak hd an ++ rs) sz) := by
  refine ez_ofW (cc := cX0_settle) (maxL := 1) (ret := (some .boolean)) (by decide) rfl ?_
  intro p e s m args below meth c s₁ B hml hTab hv
  obtain ⟨rfl, hsz, hP, hK, hD0, hE⟩ := hv
  have hx := B.exec
  have hb := B.bytes
  have hr := B.returns
  have hw9 : ∀ w ∈ kz_W9, w.before ([.ref (ad 0)] : List Value).toArray s = true := fun w h => atoms_spec (ws := wsX0_settle) B.pre w (List.mem_cons_of_mem _ h)
  have hown : s.vm.findClass RX0 = some m.cls := findClass_of_methodNamed B.named
  have hlocks := B.notSynchronized
  subst hsz
  have hD := hD0.self (sz := s.heap.size)
  generalize hAe : va_A (wX ad cI cZ it o n g v r nx mt fl pr ofs ak hd an ++ rs) s.heap.size = A at hD hE ⊢
  have hA : ∀ q : Nat, s.heap.size ≤ q → A q := fun q h => by rw [← hAe]; exact Or.inr h
  have hS : va_S A s.heap s.heap [] := va_S.rf
  have hO : kz_O s.heap s.heap := kz_O.rf _
  have hl := lv_entry ([.ref (ad 0)]) (n := 1) (Nat.le_of_ble_eq_true rfl)
  rw [lg_entry_eq]
  generalize (lg_sl ([.ref (ad 0)]) ++ List.replicate (1 - (lg_sl ([.ref (ad 0)])).length) Slot.unset).toArray = ls at hl ⊢
  have hl : lv_has ls 1 [(0, .ref (ad 0))] := hl
  refine lv_aload_n hx hb dX0_settle_0 rfl (lv_at hl 0 rfl) ?_
  refine va_get (D := D) (ci := 0) (v := .int n) (C := RX0) (T := TX0) (N := 14) hx hb hw9 uX0 hown hK hP 0 rfl rfl 2 (by decide) (hw9 _ mw_21) (fun _ h9 => h9) rfl dX0_settle_1 ?_
  refine lv_if_ne (tgt := 17) hx hb dX0_settle_4 (by decide) (fun c_1 => ?_) (fun c_1 => ?_)
  · -- 4 -> 17
    refine lv_aload_n hx hb dX0_settle_17 rfl (lv_at hl 0 rfl) ?_
    refine lv_aload_n hx hb dX0_settle_18 rfl (lv_at hl 0 rfl) ?_
    refine va_get (D := D) (ci := 0) (v := .int n) (C := RX0) (T := TX0) (N := 14) hx hb hw9 uX0 hown hK hP 0 rfl rfl 2 (by decide) (hw9 _ mw_21) (fun _ h9 => h9) rfl dX0_settle_19 ?_
    refine va_put (D := D) (ci := 0) (v := .int n) (ty := .int) (C := RX0) (T := TX0) (N := 14) hx hb hw9 uX0 tyX0 tyX0_ok nmX0 hown hK hP hD hS 0 rfl rfl 1 (by decide) (hw9 _ mw_20) (fun _ h9 => h9) rfl (by decide +kernel) rfl rfl (Nat.le_of_ble_eq_true rfl) dX0_settle_22 (fun H locs hP hD hS => ?_)
    have hP : va_P D vwCl (wX ad cI cZ it n n g v r nx mt fl pr ofs ak hd an ++ rs) H := hP
    have hD : va_D A (wX ad cI cZ it n n g v r nx mt fl pr ofs ak hd an ++ rs) := hD
    refine lv_aload_n hx hb dX0_settle_25 rfl (lv_at hl 0 rfl) ?_
    refine lv_iconst (v := 0) hx hb dX0_settle_26 (by decide) ?_
    refine va_put (D := D) (ci := 0) (v := .int 0) (ty := .int) (C := RX0) (T := TX0) (N := 14) hx hb hw9 uX0 tyX0 tyX0_ok nmX0 hown hK hP hD hS 0 rfl rfl 2 (by decide) (hw9 _ mw_21) (fun _ h9 => h9) rfl (by decide +kernel) rfl rfl (Nat.le_of_ble_eq_true rfl) dX0_settle_27 (fun H locs hP hD hS => ?_)
    have hP : va_P D vwCl (wX ad cI cZ it n 0 g v r nx mt fl pr ofs ak hd an ++ rs) H := hP
    have hD : va_D A (wX ad cI cZ it n 0 g v r nx mt fl pr ofs ak hd an ++ rs) := hD
    refine lv_aload_n hx hb dX0_settle_30 rfl (lv_at hl 0 rfl) ?_
    refine va_get (D := D) (ci := 0) (v := .int n) (C := RX0) (T := TX0) (N := 14) hx hb hw9 uX0 hown hK hP 0 rfl rfl 1 (by decide) (hw9 _ mw_20) (fun _ h9 => h9) rfl dX0_settle_31 ?_
    refine lv_aload_n hx hb dX0_settle_34 rfl (lv_at hl 0 rfl) ?_
    refine va_get (D := D) (ci := 0) (v := .int it) (C := RX0) (T := TX0) (N := 14) hx hb hw9 uX0 hown hK hP 0 rfl rfl 0 (by decide) (hw9 _ mw_19) (fun _ h9 => h9) rfl dX0_settle_35 ?_
    refine kz_rS (As := [.int n, .int it]) (rest := []) ⟨hx, hb, hml, hown, hw9⟩ (c_X0_isIn l hl9 D ((cI, .int) :: (cZ, .boolean) :: ty) (wX ad cI cZ it n 0 g v r nx mt fl pr ofs ak hd an ++ rs) H.size n it) (kz_cS 2 hw9 mw_80 mw_81 mw_1 mw_82 rfl rfl (by decide +kernel) ⟨Nat.le_of_ble_eq_true rfl, Nat.le_of_ble_eq_true rfl⟩) (kz_preS hK hP hD hS hA hE) rfl hl.1 rfl (Nat.le_of_ble_eq_true rfl) dX0_settle_38 ⟨Nat.le_of_ble_eq_true rfl, Nat.le_of_ble_eq_true rfl⟩ (fun _ _ _ _ h => False.elim h) (fun v9 H hv9 hO1 => ?_)
    obtain ⟨_, rfl, rfl⟩ := hv9
    have hP := hO1.P hP
    have hS := hO1.S hS
    refine W.eq (g2 := F0 m 41 ls [.int (sq_z (sq_I n it))]) rfl ?_
    exact kz_wretz hx hb hr hlocks hP hD hS (Nat.le_of_ble_eq_true rfl) (Nat.le_of_ble_eq_true rfl) (⟨by first | (simp [tc_settle, c_1]; done) | (simp only [tc_settle, c_1, eq_self, not_true_eq_false, not_false_eq_true, and_self, and_true, true_and, and_false, false_and, or_true, true_or, or_false, false_or, if_true, if_false, ite_true, ite_false, Bool.and_eq_true, decide_true, decide_false, decide_eq_true_eq, ne_eq, Nat.reduceEqDiff, Nat.one_ne_zero, Bool.false_eq_true, reduceCtorEq]; done) | (simp only [tc_settle, c_1, eq_self, not_true_eq_false, not_false_eq_true, and_self, and_true, true_and, and_false, false_and, or_true, true_or, or_false, false_or, if_true, if_false, ite_true, ite_false, Bool.and_eq_true, decide_true, decide_false, decide_eq_true_eq, ne_eq, Nat.reduceEqDiff, Nat.one_ne_zero, Bool.false_eq_true, reduceCtorEq]; decide), rfl⟩) (sq_z_nar _) dX0_settle_41
  · -- 4 -> 7
    obtain ⟨sa9, hst9⟩ := hE.2.2.1 (74, "no change is under way") (by decide)
    exact ez_throwS (cls := ISE) (names := EXN) hx hb hl9 hown (by decide +kernel) (by decide +kernel) (hw9 _ mw_188) (hw9 _ mw_7) hst9 (at_ISE hw9 hE) hO.1 (by rw [hml]; exact hl.1) hTab hlocks dX0_settle_7 dX0_settle_10 dX0_settle_11 dX0_settle_13 dX0_settle_16 (by decide) (Nat.le_of_ble_eq_true rfl) (Nat.le_of_ble_eq_true rfl) (Nat.le_of_ble_eq_true rfl) (fun q t ce h1 h2 h3 h4 h5 h6 => ⟨1, ce, (by first | (simp [tc_settle, c_1]; done) | (simp only [tc_settle, c_1, eq_self, not_true_eq_false, not_false_eq_true, and_self, and_true, true_and, and_false, false_and, or_true, true_or, or_false, false_or, if_true, if_false, ite_true, ite_false, Bool.and_eq_true, decide_true, decide_false, decide_eq_true_eq, ne_eq, Nat.reduceEqDiff, Nat.one_ne_zero, Bool.false_eq_true, reduceCtorEq]; done) | (simp only [tc_settle, c_1, eq_self, not_true_eq_false, not_false_eq_true, and_self, and_true, true_and, and_false, false_and, or_true, true_or, or_false, false_or, if_true, if_false, ite_true, ite_false, Bool.and_eq_true, decide_true, decide_false, decide_eq_true_eq, ne_eq, Nat.reduceEqDiff, Nat.one_ne_zero, Bool.false_eq_true, reduceCtorEq]; decide)), h1, h2, by rw [h4.findClass]; exact h3, h5, h6⟩)
set_option maxHeartbeats 4000000 in
set_option maxRecDepth 100000 in
theorem c_X0_majority (l : Launch) (hl9 : l.stackTraces = false) (D : va_G) (cI cZ : ClassId) (ty : kz_Y) (ad : Nat → Nat) (rs : va_W) (sz : Nat) (it o n g v r : Int32) (nx mt fl pr ofs ak hd an : Nat → Int32) (p0 : Int32) : ez_M l yX0_majority wsX0_majority ({ frames := 7, cells := 1, slots := 6, locals := 110 } : Room) (kz_P D ((cI, .int) :: (cZ, .boolean) :: ty) (wX ad cI cZ it o n g v r nx mt fl pr ofs ak hd an ++ rs) sz [.ref (ad 0), .int p0]) (kz_Ro (kz_i (fun r9 => (tc_set p0 = 0) ∧ r9 = (sq_z (sq_M o n p0))))) (kz_T (fun _ => IAE) (fun k => k = tc_set p0 ∧ ¬ k = 0)) 0 0 (fun _ => False) := by
  refine ez_ofW (cc := cX0_majority) (maxL := 2) (ret := (some .boolean)) (by decide) rfl ?_
  intro p e s m args below meth c s₁ B hml hTab hv
  obtain ⟨rfl, hsz, hP, hK, hD0, hE⟩ := hv
  have hx := B.exec
  have hb := B.bytes
  have hr := B.returns
  have hw9 : ∀ w ∈ kz_W9, w.before ([.ref (ad 0), .int p0] : List Value).toArray s = true := fun w h => atoms_spec (ws := wsX0_majority) B.pre w (List.mem_cons_of_mem _ h)
  have hown : s.vm.findClass RX0 = some m.cls := findClass_of_methodNamed B.named
  have hlocks := B.notSynchronized
  subst hsz
  have hD := hD0.self (sz := s.heap.size)
  generalize hAe : va_A (wX ad cI cZ it o n g v r nx mt fl pr ofs ak hd an ++ rs) s.heap.size = A at hD hE
  have hA : ∀ q : Nat, s.heap.size ≤ q → A q := fun q h => by rw [← hAe]; exact Or.inr h
  have hS : va_S A s.heap s.heap [] := va_S.rf
  have hO : kz_O s.heap s.heap := kz_O.rf _
  have hl := lv_entry ([.ref (ad 0), .int p0]) (n := 2) (Nat.le_of_ble_eq_true rfl)
  rw [lg_entry_eq]
  generalize (lg_sl ([.ref (ad 0), .int p0]) ++ List.replicate (2 - (lg_sl ([.ref (ad 0), .int p0])).length) Slot.unset).toArray = ls at hl ⊢
  have hl : lv_has ls 2 [(0, .ref (ad 0)), (1, .int p0)] := hl
  refine lv_iload_n hx hb dX0_majority_0 rfl (lv_at hl 1 rfl) ?_
  refine kz_rS (As := [.int p0]) (rest := []) ⟨hx, hb, hml, hown, hw9⟩ (c_X0_requireSet l hl9 D ((cI, .int) :: (cZ, .boolean) :: ty) (wX ad cI cZ it o n g v r nx mt fl pr ofs ak hd an ++ rs) s.heap.size p0) (kz_cS 1 hw9 mw_98 mw_99 mw_1 mw_100 rfl rfl (by decide +kernel) ⟨Nat.le_of_ble_eq_true rfl, Nat.le_of_ble_eq_true rfl⟩) (kz_preS hK hP hD hS hA hE) rfl hl.1 rfl (Nat.le_of_ble_eq_true rfl) dX0_majority_1 ⟨Nat.le_of_ble_eq_true rfl, Nat.le_of_ble_eq_true rfl⟩ (fun k ce q9 H1 hk hO1 hce hcv hcl => ?_) (fun v9 H hv9 hO1 => ?_)
  · -- thrown
    exact kz_out (k := 1) hTab hlocks (by first | (simp [tc_set, hk]; done) | (simp only [tc_set, hk, eq_self, not_true_eq_false, not_false_eq_true, and_self, and_true, true_and, and_false, false_and, or_true, true_or, or_false, false_or, if_true, if_false, ite_true, ite_false, Bool.and_eq_true, decide_true, decide_false, decide_eq_true_eq, ne_eq, Nat.reduceEqDiff, Nat.one_ne_zero, Bool.false_eq_true, reduceCtorEq]; done) | (simp only [tc_set, hk, eq_self, not_true_eq_false, not_false_eq_true, and_self, and_true, true_and, and_false, false_and, or_true, true_or, or_false, false_or, if_true, if_false, ite_true, ite_false, Bool.and_eq_true, decide_true, decide_false, decide_eq_true_eq, ne_eq, Nat.reduceEqDiff, Nat.one_ne_zero, Bool.false_eq_true, reduceCtorEq]; decide)) (hO.tr hO1) hce hcv hcl (fun _ h => nomatch h) (Nat.le_of_ble_eq_true rfl) (Nat.le_of_ble_eq_true rfl)
  · -- goes on
    obtain ⟨rfl, hv_1⟩ := hv9
    have hP := hO1.P hP
    have hS := hO1.S hS
    have hO := hO.tr hO1
    refine W.eq (g2 := F0 m 4 ls []) rfl ?_
    refine lv_aload_n hx hb dX0_majority_4 rfl (lv_at hl 0 rfl) ?_
    refine lv_iload_n hx hb dX0_majority_5 rfl (lv_at hl 1 rfl) ?_
    refine kz_rV (As := [.int p0]) (rest := []) ⟨hx, hb, hml, hown, hw9⟩ (c_X0_isMajority l hl9 D cI cZ ty ad rs H.size it o n g v r nx mt fl pr ofs ak hd an p0) (kz_cV 1 hw9 mw_219 mw_221 ms_4 mw_1 mw_222 rfl rfl (by decide +kernel) ⟨Nat.le_of_ble_eq_true rfl, Nat.le_of_ble_eq_true rfl⟩) (kz_preV (q0 := 0) (ci := 0) hK hP hD hS hA hE rfl rfl) rfl hl.1 rfl (Nat.le_of_ble_eq_true rfl) dX0_majority_6 ⟨Nat.le_of_ble_eq_true rfl, Nat.le_of_ble_eq_true rfl⟩ (fun _ _ _ _ h => False.elim h) (fun v9 H hv9 hO1 => ?_)
    obtain ⟨_, rfl, rfl⟩ := hv9
    have hP := hO1.P hP
    have hS := hO1.S hS
    have hO := hO.tr hO1
    refine W.eq (g2 := F0 m 9 ls [.int (sq_z (sq_M o n p0))]) rfl ?_
    exact kz_retz hx hb hr hlocks hO (⟨by first | (simp [tc_set, hv_1]; done) | (simp only [tc_set, hv_1, eq_self, not_true_eq_false, not_false_eq_true, and_self, and_true, true_and, and_false, false_and, or_true, true_or, or_false, false_or, if_true, if_false, ite_true, ite_false, Bool.and_eq_true, decide_true, decide_false, decide_eq_true_eq, ne_eq, Nat.reduceEqDiff, Nat.one_ne_zero, Bool.false_eq_true, reduceCtorEq]; done) | (simp only [tc_set, hv_1, eq_self, not_true_eq_false, not_false_eq_true, and_self, and_true, true_and, and_false, false_and, or_true, true_or, or_false, false_or, if_true, if_false, ite_true, ite_false, Bool.and_eq_true, decide_true, decide_false, decide_eq_true_eq, ne_eq, Nat.reduceEqDiff, Nat.one_ne_zero, Bool.false_eq_true, reduceCtorEq]; decide), rfl⟩) (sq_z_nar _) dX0_majority_9
set_option maxHeartbeats 4000000 in
set_option maxRecDepth 100000 in
theorem c_X0_ballot (l : Launch) (hl9 : l.stackTraces = false) (D : va_G) (cI cZ : ClassId) (ty : kz_Y) (ad : Nat → Nat) (rs : va_W) (sz : Nat) (it o n g v r : Int32) (nx mt fl pr ofs ak hd an : Nat → Int32) : ez_M l yX0_ballot wsX0_ballot ({ frames := 0, cells := 1, slots := 6, locals := 0 } : Room) (kz_P D ((cI, .int) :: (cZ, .boolean) :: ty) (wX ad cI cZ it o n g v r nx mt fl pr ofs ak hd an ++ rs) sz [.ref (ad 0)]) (kz_Wr D (va_A (wX ad cI cZ it o n g v r nx mt fl pr ofs ak hd an ++ rs) sz) (kz_v (True)) (wX ad cI cZ it o n g 0 r nx mt fl pr ofs ak hd an ++ rs)) (kz_T (fun _ => IAE) (fun _ => False)) 0 0 (va_A (wX ad cI cZ it o n g v r nx mt fl pr ofs ak hd an ++ rs) sz) := by
  refine ez_ofW (cc := cX0_ballot) (maxL := 1) (ret := none) (by decide) rfl ?_
  intro p e s m args below meth c s₁ B hml hTab hv
  obtain ⟨rfl, hsz, hP, hK, hD0, hE⟩ := hv
  have hx := B.exec
  have hb := B.bytes
  have hr := B.returns
  have hw9 : ∀ w ∈ kz_W9, w.before ([.ref (ad 0)] : List Value).toArray s = true := fun w h => atoms_spec (ws := wsX0_ballot) B.pre w (List.mem_cons_of_mem _ h)
  have hown : s.vm.findClass RX0 = some m.cls := findClass_of_methodNamed B.named
  have hlocks := B.notSynchronized
  subst hsz
  have hD := hD0.self (sz := s.heap.size)
  generalize hAe : va_A (wX ad cI cZ it o n g v r nx mt fl pr ofs ak hd an ++ rs) s.heap.size = A at hD hE ⊢
  have hA : ∀ q : Nat, s.heap.size ≤ q → A q := fun q h => by rw [← hAe]; exact Or.inr h
  have hS : va_S A s.heap s.heap [] := va_S.rf
  have hO : kz_O s.heap s.heap := kz_O.rf _
  have hl := lv_entry ([.ref (ad 0)]) (n := 1) (Nat.le_of_ble_eq_true rfl)
  rw [lg_entry_eq]
  generalize (lg_sl ([.ref (ad 0)]) ++ List.replicate (1 - (lg_sl ([.ref (ad 0)])).length) Slot.unset).toArray = ls at hl ⊢
  have hl : lv_has ls 1 [(0, .ref (ad 0))] := hl
  refine lv_aload_n hx hb dX0_ballot_0 rfl (lv_at hl 0 rfl) ?_
  refine lv_iconst (v := 0) hx hb dX0_ballot_1 (by decide) ?_
  refine va_put (D := D) (ci := 0) (v := .int 0) (ty := .int) (C := RX0) (T := TX0) (N := 14) hx hb hw9 uX0 tyX0 tyX0_ok nmX0 hown hK hP hD hS 0 rfl rfl 4 (by decide) (hw9 _ mw_23) (fun _ h9 => h9) rfl (by decide +kernel) rfl rfl (Nat.le_of_ble_eq_true rfl) dX0_ballot_2 (fun H locs hP hD hS => ?_)
  have hP : va_P D vwCl (wX ad cI cZ it o n g 0 r nx mt fl pr ofs ak hd an ++ rs) H := hP
  have hD : va_D A (wX ad cI cZ it o n g 0 r nx mt fl pr ofs ak hd an ++ rs) := hD
  exact kz_wretv hx hb hr hlocks hP hD hS (Nat.le_of_ble_eq_true rfl) (Nat.le_of_ble_eq_true rfl) (trivial)  dX0_ballot_5
set_option maxHeartbeats 4000000 in
set_option maxRecDepth 100000 in
theorem c_X0_vote (l : Launch) (hl9 : l.stackTraces = false) (D : va_G) (cI cZ : ClassId) (ty : kz_Y) (ad : Nat → Nat) (rs : va_W) (sz : Nat) (it o n g v r : Int32) (nx mt fl pr ofs ak hd an : Nat → Int32) (p0 : Int32) : ez_M l yX0_vote wsX0_vote ({ frames := 7, cells := 1, slots := 6, locals := 110 } : Room) (kz_P D ((cI, .int) :: (cZ, .boolean) :: ty) (wX ad cI cZ it o n g v r nx mt fl pr ofs ak hd an ++ rs) sz [.ref (ad 0), .int p0]) (kz_Wr D (va_A (wX ad cI cZ it o n g v r nx mt fl pr ofs ak hd an ++ rs) sz) (kz_i (fun r9 => (tc_server p0 = 0) ∧ r9 = (sq_z (sq_M o n (v ||| sq_1 p0))))) (wX ad cI cZ it o n g (v ||| sq_1 p0) r nx mt fl pr ofs ak hd an ++ rs)) (kz_T (fun _ => IOE) (fun k => k = tc_server p0 ∧ ¬ k = 0)) 0 0 (va_A (wX ad cI cZ it o n g v r nx mt fl pr ofs ak hd an ++ rs) sz) := by
  refine ez_ofW (cc := cX0_vote) (maxL := 2) (ret := (some .boolean)) (by decide) rfl ?_
  intro p e s m args below meth c s₁ B hml hTab hv
  obtain ⟨rfl, hsz, hP, hK, hD0, hE⟩ := hv
  have hx := B.exec
  have hb := B.bytes
  have hr := B.returns
  have hw9 : ∀ w ∈ kz_W9, w.before ([.ref (ad 0), .int p0] : List Value).toArray s = true := fun w h => atoms_spec (ws := wsX0_vote) B.pre w (List.mem_cons_of_mem _ h)
  have hown : s.vm.findClass RX0 = some m.cls := findClass_of_methodNamed B.named
  have hlocks := B.notSynchronized
  subst hsz
  have hD := hD0.self (sz := s.heap.size)
  generalize hAe : va_A (wX ad cI cZ it o n g v r nx mt fl pr ofs ak hd an ++ rs) s.heap.size = A at hD hE ⊢
  have hA : ∀ q : Nat, s.heap.size ≤ q → A q := fun q h => by rw [← hAe]; exact Or.inr h
  have hS : va_S A s.heap s.heap [] := va_S.rf
  have hO : kz_O s.heap s.heap := kz_O.rf _
  have hl := lv_entry ([.ref (ad 0), .int p0]) (n := 2) (Nat.le_of_ble_eq_true rfl)
  rw [lg_entry_eq]
  generalize (lg_sl ([.ref (ad 0), .int p0]) ++ List.replicate (2 - (lg_sl ([.ref (ad 0), .int p0])).length) Slot.unset).toArray = ls at hl ⊢
  have hl : lv_has ls 2 [(0, .ref (ad 0)), (1, .int p0)] := hl
  refine lv_iload_n hx hb dX0_vote_0 rfl (lv_at hl 1 rfl) ?_
  refine kz_rS (As := [.int p0]) (rest := []) ⟨hx, hb, hml, hown, hw9⟩ (c_X0_requireServer l hl9 D ((cI, .int) :: (cZ, .boolean) :: ty) (wX ad cI cZ it o n g v r nx mt fl pr ofs ak hd an ++ rs) s.heap.size p0) (kz_cS 1 hw9 mw_240 mw_241 mw_1 mw_242 rfl rfl (by decide +kernel) ⟨Nat.le_of_ble_eq_true rfl, Nat.le_of_ble_eq_true rfl⟩) (kz_preS hK hP hD hS hA hE) rfl hl.1 rfl (Nat.le_of_ble_eq_true rfl) dX0_vote_1 ⟨Nat.le_of_ble_eq_true rfl, Nat.le_of_ble_eq_true rfl⟩ (fun k ce q9 H1 hk hO1 hce hcv hcl => ?_) (fun v9 H hv9 hO1 => ?_)
  · -- thrown
    exact kz_out (k := 1) hTab hlocks (by first | (simp [tc_server, hk]; done) | (simp only [tc_server, hk, eq_self, not_true_eq_false, not_false_eq_true, and_self, and_true, true_and, and_false, false_and, or_true, true_or, or_false, false_or, if_true, if_false, ite_true, ite_false, Bool.and_eq_true, decide_true, decide_false, decide_eq_true_eq, ne_eq, Nat.reduceEqDiff, Nat.one_ne_zero, Bool.false_eq_true, reduceCtorEq]; done) | (simp only [tc_server, hk, eq_self, not_true_eq_false, not_false_eq_true, and_self, and_true, true_and, and_false, false_and, or_true, true_or, or_false, false_or, if_true, if_false, ite_true, ite_false, Bool.and_eq_true, decide_true, decide_false, decide_eq_true_eq, ne_eq, Nat.reduceEqDiff, Nat.one_ne_zero, Bool.false_eq_true, reduceCtorEq]; decide)) (hO.tr hO1) hce hcv hcl (fun _ h => nomatch h) (Nat.le_of_ble_eq_true rfl) (Nat.le_of_ble_eq_true rfl)
  · -- goes on
    obtain ⟨rfl, hv_1⟩ := hv9
    have hP := hO1.P hP
    have hS := hO1.S hS
    have hO := hO.tr hO1
    refine W.eq (g2 := F0 m 4 ls []) rfl ?_
    refine lv_aload_n hx hb dX0_vote_4 rfl (lv_at hl 0 rfl) ?_
    refine lv_aload_n hx hb dX0_vote_5 rfl (lv_at hl 0 rfl) ?_
    refine va_get (D := D) (ci := 0) (v := .int v) (C := RX0) (T := TX0) (N := 14) hx hb hw9 uX0 hown hK hP 0 rfl rfl 4 (by decide) (hw9 _ mw_23) (fun _ h9 => h9) rfl dX0_vote_6 ?_
    refine lv_iconst (v := 1) hx hb dX0_vote_9 (by decide) ?_
    refine lv_iload_n hx hb dX0_vote_10 rfl (lv_at hl 1 rfl) ?_
    refine lv_ishl hx hb dX0_vote_11 ?_
    refine lv_ior hx hb dX0_vote_12 ?_
    refine va_put (D := D) (ci := 0) (v := .int (v ||| (1 <<< (p0 &&& 31)))) (ty := .int) (C := RX0) (T := TX0) (N := 14) hx hb hw9 uX0 tyX0 tyX0_ok nmX0 hown hK hP hD hS 0 rfl rfl 4 (by decide) (hw9 _ mw_23) (fun _ h9 => h9) rfl (by decide +kernel) rfl rfl (Nat.le_of_ble_eq_true rfl) dX0_vote_13 (fun H locs hP hD hS => ?_)
    have hP : va_P D vwCl (wX ad cI cZ it o n g (v ||| (1 <<< (p0 &&& 31))) r nx mt fl pr ofs ak hd an ++ rs) H := hP
    have hD : va_D A (wX ad cI cZ it o n g (v ||| (1 <<< (p0 &&& 31))) r nx mt fl pr ofs ak hd an ++ rs) := hD
    refine lv_aload_n hx hb dX0_vote_16 rfl (lv_at hl 0 rfl) ?_
    refine lv_aload_n hx hb dX0_vote_17 rfl (lv_at hl 0 rfl) ?_
    refine va_get (D := D) (ci := 0) (v := .int (v ||| (1 <<< (p0 &&& 31)))) (C := RX0) (T := TX0) (N := 14) hx hb hw9 uX0 hown hK hP 0 rfl rfl 4 (by decide) (hw9 _ mw_23) (fun _ h9 => h9) rfl dX0_vote_18 ?_
    refine kz_rV (As := [.int (v ||| (1 <<< (p0 &&& 31)))]) (rest := []) ⟨hx, hb, hml, hown, hw9⟩ (c_X0_isMajority l hl9 D cI cZ ty ad rs H.size it o n g (v ||| (1 <<< (p0 &&& 31))) r nx mt fl pr ofs ak hd an (v ||| (1 <<< (p0 &&& 31)))) (kz_cV 1 hw9 mw_219 mw_221 ms_4 mw_1 mw_222 rfl rfl (by decide +kernel) ⟨Nat.le_of_ble_eq_true rfl, Nat.le_of_ble_eq_true rfl⟩) (kz_preV (q0 := 0) (ci := 0) hK hP hD hS hA hE rfl rfl) rfl hl.1 rfl (Nat.le_of_ble_eq_true rfl) dX0_vote_21 ⟨Nat.le_of_ble_eq_true rfl, Nat.le_of_ble_eq_true rfl⟩ (fun _ _ _ _ h => False.elim h) (fun v9 H hv9 hO1 => ?_)
    obtain ⟨_, rfl, rfl⟩ := hv9
    have hP := hO1.P hP
    have hS := hO1.S hS
    refine W.eq (g2 := F0 m 24 ls [.int (sq_z (sq_M o n (v ||| (1 <<< (p0 &&& 31)))))]) rfl ?_
    exact kz_wretz hx hb hr hlocks hP hD hS (Nat.le_of_ble_eq_true rfl) (Nat.le_of_ble_eq_true rfl) (⟨by first | (simp [tc_server, hv_1]; done) | (simp only [tc_server, hv_1, eq_self, not_true_eq_false, not_false_eq_true, and_self, and_true, true_and, and_false, false_and, or_true, true_or, or_false, false_or, if_true, if_false, ite_true, ite_false, Bool.and_eq_true, decide_true, decide_false, decide_eq_true_eq, ne_eq, Nat.reduceEqDiff, Nat.one_ne_zero, Bool.false_eq_true, reduceCtorEq]; done) | (simp only [tc_server, hv_1, eq_self, not_true_eq_false, not_false_eq_true, and_self, and_true, true_and, and_false, false_and, or_true, true_or, or_false, false_or, if_true, if_false, ite_true, ite_false, Bool.and_eq_true, decide_true, decide_false, decide_eq_true_eq, ne_eq, Nat.reduceEqDiff, Nat.one_ne_zero, Bool.false_eq_true, reduceCtorEq]; decide), rfl⟩) (sq_z_nar _) dX0_vote_24
set_option maxHeartbeats 4000000 in
set_option maxRecDepth 100000 in
theorem c_X0_sending (l : Launch) (hl9 : l.stackTraces = false) (D : va_G) (cI cZ : ClassId) (ty : kz_Y) (ad : Nat → Nat) (rs : va_W) (sz : Nat) (it o n g v r : Int32) (nx mt fl pr ofs ak hd an : Nat → Int32) (p0 : Int32) (p1 : Int32) (p2 : Int32) (p3 : Int32) : ez_M l yX0_sending wsX0_sending ({ frames := 8, cells := 1, slots := 6, locals := 131 } : Room) (kz_P D ((cI, .int) :: (cZ, .boolean) :: ty) (wX ad cI cZ it o n g v r nx mt fl pr ofs ak hd an ++ rs) sz [.ref (ad 0), .int p0, .int p1, .int p2, .int p3]) (kz_Wr D (va_A (wX ad cI cZ it o n g v r nx mt fl pr ofs ak hd an ++ rs) sz) (kz_i (fun r9 => (tc_sending it o n g p0 p1 p2 = 0) ∧ r9 = (if nx p0.toNatClampNeg ≤ p1 then (if 0 < fl p0.toNatClampNeg then 0 else 8) else if nx p0.toNatClampNeg ≤ p2 ∧ sq_F fl pr p0.toNatClampNeg = true then (sq_min ((p2 - nx p0.toNatClampNeg) + 1) 6) else if p3 = 0 then 0 else 7))) (wX ad cI cZ it o n g v r (if nx p0.toNatClampNeg ≤ p1 then nx else if nx p0.toNatClampNeg ≤ p2 ∧ sq_F fl pr p0.toNatClampNeg = true then upd nx p0.toNatClampNeg (nx p0.toNatClampNeg + (sq_min ((p2 - nx p0.toNatClampNeg) + 1) 6)) else nx) mt (if nx p0.toNatClampNeg ≤ p1 then (if 0 < fl p0.toNatClampNeg then fl else upd fl p0.toNatClampNeg 1) else if nx p0.toNatClampNeg ≤ p2 ∧ sq_F fl pr p0.toNatClampNeg = true then upd fl p0.toNatClampNeg (fl p0.toNatClampNeg + 1) else fl) pr ofs ak hd an ++ rs)) (kz_T (fun k => match k with | 1 => IOE | _ => IAE) (fun k => k = tc_sending it o n g p0 p1 p2 ∧ ¬ k = 0)) 0 0 (va_A (wX ad cI cZ it o n g v r nx mt fl pr ofs ak hd an ++ rs) sz) := by
  refine ez_ofW (cc := cX0_sending) (maxL := 5) (ret := (some .int)) (by decide) rfl ?_
  intro p e s m args below meth c s₁ B hml hTab hv
  obtain ⟨rfl, hsz, hP, hK, hD0, hE⟩ := hv
  have hx := B.exec
  have hb := B.bytes
  have hr := B.returns
  have hw9 : ∀ w ∈ kz_W9, w.before ([.ref (ad 0), .int p0, .int p1, .int p2, .int p3] : List Value).toArray s = true := fun w h => atoms_spec (ws := wsX0_sending) B.pre w (List.mem_cons_of_mem _ h)
  have hown : s.vm.findClass RX0 = some m.cls := findClass_of_methodNamed B.named
  have hlocks := B.notSynchronized
  subst hsz
  have hD := hD0.self (sz := s.heap.size)
  generalize hAe : va_A (wX ad cI cZ it o n g v r nx mt fl pr ofs ak hd an ++ rs) s.heap.size = A at hD hE ⊢
  have hA : ∀ q : Nat, s.heap.size ≤ q → A q := fun q h => by rw [← hAe]; exact Or.inr h
  have hS : va_S A s.heap s.heap [] := va_S.rf
  have hO : kz_O s.heap s.heap := kz_O.rf _
  have hl := lv_entry ([.ref (ad 0), .int p0, .int p1, .int p2, .int p3]) (n := 5) (Nat.le_of_ble_eq_true rfl)
  rw [lg_entry_eq]
  generalize (lg_sl ([.ref (ad 0), .int p0, .int p1, .int p2, .int p3]) ++ List.replicate (5 - (lg_sl ([.ref (ad 0), .int p0, .int p1, .int p2, .int p3])).length) Slot.unset).toArray = ls at hl ⊢
  have hl : lv_has ls 5 [(0, .ref (ad 0)), (1, .int p0), (2, .int p1), (3, .int p2), (4, .int p3)] := hl
  refine lv_aload_n hx hb dX0_sending_0 rfl (lv_at hl 0 rfl) ?_
  refine lv_iload_n hx hb dX0_sending_1 rfl (lv_at hl 1 rfl) ?_
  refine kz_rV (As := [.int p0]) (rest := []) ⟨hx, hb, hml, hown, hw9⟩ (c_X0_requirePeer l hl9 D cI cZ ty ad rs s.heap.size it o n g v r nx mt fl pr ofs ak hd an p0) (kz_cV 1 hw9 mw_278 mw_280 ms_5 mw_1 mw_281 rfl rfl (by decide +kernel) ⟨Nat.le_of_ble_eq_true rfl, Nat.le_of_ble_eq_true rfl⟩) (kz_preV (q0 := 0) (ci := 0) hK hP hD hS hA hE rfl rfl) rfl hl.1 rfl (Nat.le_of_ble_eq_true rfl) dX0_sending_2 ⟨Nat.le_of_ble_eq_true rfl, Nat.le_of_ble_eq_true rfl⟩ (fun k ce q9 H1 hk hO1 hce hcv hcl => ?_) (fun v9 H hv9 hO1 => ?_)
  · -- thrown
    exact kz_out (k := 1) hTab hlocks (by first | (simp [tc_sending, hk]; done) | (simp only [tc_sending, hk, eq_self, not_true_eq_false, not_false_eq_true, and_self, and_true, true_and, and_false, false_and, or_true, true_or, or_false, false_or, if_true, if_false, ite_true, ite_false, Bool.and_eq_true, decide_true, decide_false, decide_eq_true_eq, ne_eq, Nat.reduceEqDiff, Nat.one_ne_zero, Bool.false_eq_true, reduceCtorEq]; done) | (simp only [tc_sending, hk, eq_self, not_true_eq_false, not_false_eq_true, and_self, and_true, true_and, and_false, false_and, or_true, true_or, or_false, false_or, if_true, if_false, ite_true, ite_false, Bool.and_eq_true, decide_true, decide_false, decide_eq_true_eq, ne_eq, Nat.reduceEqDiff, Nat.one_ne_zero, Bool.false_eq_true, reduceCtorEq]; decide)) (hO.tr hO1) hce hcv hcl (fun _ h => nomatch h) (Nat.le_of_ble_eq_true rfl) (Nat.le_of_ble_eq_true rfl)
  · -- goes on
    obtain ⟨rfl, hv_1⟩ := hv9
    have hP := hO1.P hP
    have hS := hO1.S hS
    have hO := hO.tr hO1
    refine W.eq (g2 := F0 m 5 ls []) rfl ?_
    refine lv_iload_n hx hb dX0_sending_5 rfl (lv_at hl 2 rfl) ?_
    refine kz_rS (As := [.int p1]) (rest := []) ⟨hx, hb, hml, hown, hw9⟩ (c_X0_requireNumber l hl9 D ((cI, .int) :: (cZ, .boolean) :: ty) (wX ad cI cZ it o n g v r nx mt fl pr ofs ak hd an ++ rs) H.size p1) (kz_cS 1 hw9 mw_266 mw_267 mw_1 mw_268 rfl rfl (by decide +kernel) ⟨Nat.le_of_ble_eq_true rfl, Nat.le_of_ble_eq_true rfl⟩) (kz_preS hK hP hD hS hA hE) rfl hl.1 rfl (Nat.le_of_ble_eq_true rfl) dX0_sending_6 ⟨Nat.le_of_ble_eq_true rfl, Nat.le_of_ble_eq_true rfl⟩ (fun k ce q9 H1 hk hO1 hce hcv hcl => ?_) (fun v9 H hv9 hO1 => ?_)
    · -- thrown
      exact kz_out (k := 2) hTab hlocks (by first | (simp [tc_sending, hv_1, hk]; done) | (simp only [tc_sending, hv_1, hk, eq_self, not_true_eq_false, not_false_eq_true, and_self, and_true, true_and, and_false, false_and, or_true, true_or, or_false, false_or, if_true, if_false, ite_true, ite_false, Bool.and_eq_true, decide_true, decide_false, decide_eq_true_eq, ne_eq, Nat.reduceEqDiff, Nat.one_ne_zero, Bool.false_eq_true, reduceCtorEq]; done) | (simp only [tc_sending, hv_1, hk, eq_self, not_true_eq_false, not_false_eq_true, and_self, and_true, true_and, and_false, false_and, or_true, true_or, or_false, false_or, if_true, if_false, ite_true, ite_false, Bool.and_eq_true, decide_true, decide_false, decide_eq_true_eq, ne_eq, Nat.reduceEqDiff, Nat.one_ne_zero, Bool.false_eq_true, reduceCtorEq]; decide)) (hO.tr hO1) hce hcv hcl (fun _ h => nomatch h) (Nat.le_of_ble_eq_true rfl) (Nat.le_of_ble_eq_true rfl)
    · -- goes on
      obtain ⟨rfl, hv_2⟩ := hv9
      have hP := hO1.P hP
      have hS := hO1.S hS
      have hO := hO.tr hO1
      refine W.eq (g2 := F0 m 9 ls []) rfl ?_
      refine lv_iload_n hx hb dX0_sending_9 rfl (lv_at hl 3 rfl) ?_
      refine kz_rS (As := [.int p2]) (rest := []) ⟨hx, hb, hml, hown, hw9⟩ (c_X0_requireNumber l hl9 D ((cI, .int) :: (cZ, .boolean) :: ty) (wX ad cI cZ it o n g v r nx mt fl pr ofs ak hd an ++ rs) H.size p2) (kz_cS 1 hw9 mw_266 mw_267 mw_1 mw_268 rfl rfl (by decide +kernel) ⟨Nat.le_of_ble_eq_true rfl, Nat.le_of_ble_eq_true rfl⟩) (kz_preS hK hP hD hS hA hE) rfl hl.1 rfl (Nat.le_of_ble_eq_true rfl) dX0_sending_10 ⟨Nat.le_of_ble_eq_true rfl, Nat.le_of_ble_eq_true rfl⟩ (fun k ce q9 H1 hk hO1 hce hcv hcl => ?_) (fun v9 H hv9 hO1 => ?_)
      · -- thrown
        exact kz_out (k := 2) hTab hlocks (by first | (simp [tc_sending, hv_1, hv_2, hk]; done) | (simp only [tc_sending, hv_1, hv_2, hk, eq_self, not_true_eq_false, not_false_eq_true, and_self, and_true, true_and, and_false, false_and, or_true, true_or, or_false, false_or, if_true, if_false, ite_true, ite_false, Bool.and_eq_true, decide_true, decide_false, decide_eq_true_eq, ne_eq, Nat.reduceEqDiff, Nat.one_ne_zero, Bool.false_eq_true, reduceCtorEq]; done) | (simp only [tc_sending, hv_1, hv_2, hk, eq_self, not_true_eq_false, not_false_eq_true, and_self, and_true, true_and, and_false, false_and, or_true, true_or, or_false, false_or, if_true, if_false, ite_true, ite_false, Bool.and_eq_true, decide_true, decide_false, decide_eq_true_eq, ne_eq, Nat.reduceEqDiff, Nat.one_ne_zero, Bool.false_eq_true, reduceCtorEq]; decide)) (hO.tr hO1) hce hcv hcl (fun _ h => nomatch h) (Nat.le_of_ble_eq_true rfl) (Nat.le_of_ble_eq_true rfl)
      · -- goes on
        obtain ⟨rfl, hv_3⟩ := hv9
        have hP := hO1.P hP
        have hS := hO1.S hS
        have hO := hO.tr hO1
        refine W.eq (g2 := F0 m 13 ls []) rfl ?_
        refine lv_iload_n hx hb dX0_sending_13 rfl (lv_at hl 3 rfl) ?_
        refine lv_iload_n hx hb dX0_sending_14 rfl (lv_at hl 2 rfl) ?_
        refine lv_icmp_ge (tgt := 28) hx hb dX0_sending_15 (by decide) (fun c_4 => ?_) (fun c_4 => ?_)
        · -- 15 -> 28
          refine lv_aload_n hx hb dX0_sending_28 rfl (lv_at hl 0 rfl) ?_
          refine va_get (D := D) (ci := 0) (v := .ref (ad 1)) (C := RX0) (T := TX0) (N := 14) hx hb hw9 uX0 hown hK hP 0 rfl rfl 6 (by decide) (hw9 _ mw_25) (fun _ h9 => h9) rfl dX0_sending_29 ?_
          refine lv_iload_n hx hb dX0_sending_32 rfl (lv_at hl 1 rfl) ?_
          refine va_iald hx hb hK hP 1 0 rfl rfl (sq_V_in (Bool.and_eq_true_iff.mp hv_1).1) dX0_sending_33 ?_
          refine lv_iload_n hx hb dX0_sending_34 rfl (lv_at hl 2 rfl) ?_
          refine lv_icmp_gt (tgt := 44) hx hb dX0_sending_35 (by decide) (fun c_5 => ?_) (fun c_5 => ?_)
          · -- 35 -> 44
            refine lv_aload_n hx hb dX0_sending_44 rfl (lv_at hl 0 rfl) ?_
            refine va_get (D := D) (ci := 0) (v := .ref (ad 1)) (C := RX0) (T := TX0) (N := 14) hx hb hw9 uX0 hown hK hP 0 rfl rfl 6 (by decide) (hw9 _ mw_25) (fun _ h9 => h9) rfl dX0_sending_45 ?_
            refine lv_iload_n hx hb dX0_sending_48 rfl (lv_at hl 1 rfl) ?_
            refine va_iald hx hb hK hP 1 0 rfl rfl (sq_V_in (Bool.and_eq_true_iff.mp hv_1).1) dX0_sending_49 ?_
            refine lv_iload_n hx hb dX0_sending_50 rfl (lv_at hl 3 rfl) ?_
            refine lv_icmp_gt (tgt := 69) hx hb dX0_sending_51 (by decide) (fun c_6 => ?_) (fun c_6 => ?_)
            · -- 51 -> 69
              refine lv_iload hx hb dX0_sending_69 (lv_at hl 4 rfl) ?_
              refine lv_if_eq (tgt := 79) hx hb dX0_sending_71 (by decide) (fun c_7 => ?_) (fun c_7 => ?_)
              · -- 71 -> 79
                refine lv_iconst (v := 0) hx hb dX0_sending_79 (by decide) ?_
                have e_nx : (if nx p0.toNatClampNeg ≤ p1 then nx else if nx p0.toNatClampNeg ≤ p2 ∧ sq_F fl pr p0.toNatClampNeg = true then upd nx p0.toNatClampNeg (nx p0.toNatClampNeg + (sq_min ((p2 - nx p0.toNatClampNeg) + 1) 6)) else nx) = nx := by first | (simp [hv_1, hv_2, hv_3, c_4, (Int32.not_lt.mpr c_4), c_5, (Int32.not_le.mpr c_5), c_6, (Int32.not_le.mpr c_6), c_7]; done) | (simp only [hv_1, hv_2, hv_3, c_4, (Int32.not_lt.mpr c_4), c_5, (Int32.not_le.mpr c_5), c_6, (Int32.not_le.mpr c_6), c_7, eq_self, not_true_eq_false, not_false_eq_true, and_self, and_true, true_and, and_false, false_and, or_true, true_or, or_false, false_or, if_true, if_false, ite_true, ite_false, Bool.and_eq_true, decide_true, decide_false, decide_eq_true_eq, ne_eq, Nat.reduceEqDiff, Nat.one_ne_zero, Bool.false_eq_true, reduceCtorEq]; done) | (simp only [hv_1, hv_2, hv_3, c_4, (Int32.not_lt.mpr c_4), c_5, (Int32.not_le.mpr c_5), c_6, (Int32.not_le.mpr c_6), c_7, eq_self, not_true_eq_false, not_false_eq_true, and_self, and_true, true_and, and_false, false_and, or_true, true_or, or_false, false_or, if_true, if_false, ite_true, ite_false, Bool.and_eq_true, decide_true, decide_false, decide_eq_true_eq, ne_eq, Nat.reduceEqDiff, Nat.one_ne_zero, Bool.false_eq_true, reduceCtorEq]; decide)
                have e_fl : (if nx p0.toNatClampNeg ≤ p1 then (if 0 < fl p0.toNatClampNeg then fl else upd fl p0.toNatClampNeg 1) else if nx p0.toNatClampNeg ≤ p2 ∧ sq_F fl pr p0.toNatClampNeg = true then upd fl p0.toNatClampNeg (fl p0.toNatClampNeg + 1) else fl) = fl := by first | (simp [hv_1, hv_2, hv_3, c_4, (Int32.not_lt.mpr c_4), c_5, (Int32.not_le.mpr c_5), c_6, (Int32.not_le.mpr c_6), c_7]; done) | (simp only [hv_1, hv_2, hv_3, c_4, (Int32.not_lt.mpr c_4), c_5, (Int32.not_le.mpr c_5), c_6, (Int32.not_le.mpr c_6), c_7, eq_self, not_true_eq_false, not_false_eq_true, and_self, and_true, true_and, and_false, false_and, or_true, true_or, or_false, false_or, if_true, if_false, ite_true, ite_false, Bool.and_eq_true, decide_true, decide_false, decide_eq_true_eq, ne_eq, Nat.reduceEqDiff, Nat.one_ne_zero, Bool.false_eq_true, reduceCtorEq]; done) | (simp only [hv_1, hv_2, hv_3, c_4, (Int32.not_lt.mpr c_4), c_5, (Int32.not_le.mpr c_5), c_6, (Int32.not_le.mpr c_6), c_7, eq_self, not_true_eq_false, not_false_eq_true, and_self, and_true, true_and, and_false, false_and, or_true, true_or, or_false, false_or, if_true, if_false, ite_true, ite_false, Bool.and_eq_true, decide_true, decide_false, decide_eq_true_eq, ne_eq, Nat.reduceEqDiff, Nat.one_ne_zero, Bool.false_eq_true, reduceCtorEq]; decide)
                exact kz_wreti hx hb hr hlocks (by rw [e_nx, e_fl]; exact hP) (by rw [e_nx, e_fl]; exact hD) hS (Nat.le_of_ble_eq_true rfl) (Nat.le_of_ble_eq_true rfl) (⟨by first | (simp [tc_sending, hv_1, hv_2, hv_3, c_4, (Int32.not_lt.mpr c_4), c_5, (Int32.not_le.mpr c_5), c_6, (Int32.not_le.mpr c_6), c_7]; done) | (simp only [tc_sending, hv_1, hv_2, hv_3, c_4, (Int32.not_lt.mpr c_4), c_5, (Int32.not_le.mpr c_5), c_6, (Int32.not_le.mpr c_6), c_7, eq_self, not_true_eq_false, not_false_eq_true, and_self, and_true, true_and, and_false, false_and, or_true, true_or, or_false, false_or, if_true, if_false, ite_true, ite_false, Bool.and_eq_true, decide_true, decide_false, decide_eq_true_eq, ne_eq, Nat.reduceEqDiff, Nat.one_ne_zero, Bool.false_eq_true, reduceCtorEq]; done) | (simp only [tc_sending, hv_1, hv_2, hv_3, c_4, (Int32.not_lt.mpr c_4), c_5, (Int32.not_le.mpr c_5), c_6, (Int32.not_le.mpr c_6), c_7, eq_self, not_true_eq_false, not_false_eq_true, and_self, and_true, true_and, and_false, false_and, or_true, true_or, or_false, false_or, if_true, if_false, ite_true, ite_false, Bool.and_eq_true, decide_true, decide_false, decide_eq_true_eq, ne_eq, Nat.reduceEqDiff, Nat.one_ne_zero, Bool.false_eq_true, reduceCtorEq]; decide), by first | (simp [hv_1, hv_2, hv_3, c_4, (Int32.not_lt.mpr c_4), c_5, (Int32.not_le.mpr c_5), c_6, (Int32.not_le.mpr c_6), c_7]; done) | (simp only [hv_1, hv_2, hv_3, c_4, (Int32.not_lt.mpr c_4), c_5, (Int32.not_le.mpr c_5), c_6, (Int32.not_le.mpr c_6), c_7, eq_self, not_true_eq_false, not_false_eq_true, and_self, and_true, true_and, and_false, false_and, or_true, true_or, or_false, false_or, if_true, if_false, ite_true, ite_false, Bool.and_eq_true, decide_true, decide_false, decide_eq_true_eq, ne_eq, Nat.reduceEqDiff, Nat.one_ne_zero, Bool.false_eq_true, reduceCtorEq]; done) | (simp only [hv_1, hv_2, hv_3, c_4, (Int32.not_lt.mpr c_4), c_5, (Int32.not_le.mpr c_5), c_6, (Int32.not_le.mpr c_6), c_7, eq_self, not_true_eq_false, not_false_eq_true, and_self, and_true, true_and, and_false, false_and, or_true, true_or, or_false, false_or, if_true, if_false, ite_true, ite_false, Bool.and_eq_true, decide_true, decide_false, decide_eq_true_eq, ne_eq, Nat.reduceEqDiff, Nat.one_ne_zero, Bool.false_eq_true, reduceCtorEq]; decide)⟩)  dX0_sending_80
              · -- 71 -> 74
                refine lv_bipush (v := 7) hx hb dX0_sending_74 (by decide) ?_
                refine lv_goto (tgt := 80) hx hb dX0_sending_76 (by decide) ?_
                have e_nx : (if nx p0.toNatClampNeg ≤ p1 then nx else if nx p0.toNatClampNeg ≤ p2 ∧ sq_F fl pr p0.toNatClampNeg = true then upd nx p0.toNatClampNeg (nx p0.toNatClampNeg + (sq_min ((p2 - nx p0.toNatClampNeg) + 1) 6)) else nx) = nx := by first | (simp [hv_1, hv_2, hv_3, c_4, (Int32.not_lt.mpr c_4), c_5, (Int32.not_le.mpr c_5), c_6, (Int32.not_le.mpr c_6), c_7]; done) | (simp only [hv_1, hv_2, hv_3, c_4, (Int32.not_lt.mpr c_4), c_5, (Int32.not_le.mpr c_5), c_6, (Int32.not_le.mpr c_6), c_7, eq_self, not_true_eq_false, not_false_eq_true, and_self, and_true, true_and, and_false, false_and, or_true, true_or, or_false, false_or, if_true, if_false, ite_true, ite_false, Bool.and_eq_true, decide_true, decide_false, decide_eq_true_eq, ne_eq, Nat.reduceEqDiff, Nat.one_ne_zero, Bool.false_eq_true, reduceCtorEq]; done) | (simp only [hv_1, hv_2, hv_3, c_4, (Int32.not_lt.mpr c_4), c_5, (Int32.not_le.mpr c_5), c_6, (Int32.not_le.mpr c_6), c_7, eq_self, not_true_eq_false, not_false_eq_true, and_self, and_true, true_and, and_false, false_and, or_true, true_or, or_false, false_or, if_true, if_false, ite_true, ite_false, Bool.and_eq_true, decide_true, decide_false, decide_eq_true_eq, ne_eq, Nat.reduceEqDiff, Nat.one_ne_zero, Bool.false_eq_true, reduceCtorEq]; decide)
                have e_fl : (if nx p0.toNatClampNeg ≤ p1 then (if 0 < fl p0.toNatClampNeg then fl else upd fl p0.toNatClampNeg 1) else if nx p0.toNatClampNeg ≤ p2 ∧ sq_F fl pr p0.toNatClampNeg = true then upd fl p0.toNatClampNeg (fl p0.toNatClampNeg + 1) else fl) = fl := by first | (simp [hv_1, hv_2, hv_3, c_4, (Int32.not_lt.mpr c_4), c_5, (Int32.not_le.mpr c_5), c_6, (Int32.not_le.mpr c_6), c_7]; done) | (simp only [hv_1, hv_2, hv_3, c_4, (Int32.not_lt.mpr c_4), c_5, (Int32.not_le.mpr c_5), c_6, (Int32.not_le.mpr c_6), c_7, eq_self, not_true_eq_false, not_false_eq_true, and_self, and_true, true_and, and_false, false_and, or_true, true_or, or_false, false_or, if_true, if_false, ite_true, ite_false, Bool.and_eq_true, decide_true, decide_false, decide_eq_true_eq, ne_eq, Nat.reduceEqDiff, Nat.one_ne_zero, Bool.false_eq_true, reduceCtorEq]; done) | (simp only [hv_1, hv_2, hv_3, c_4, (Int32.not_lt.mpr c_4), c_5, (Int32.not_le.mpr c_5), c_6, (Int32.not_le.mpr c_6), c_7, eq_self, not_true_eq_false, not_false_eq_true, and_self, and_true, true_and, and_false, false_and, or_true, true_or, or_false, false_or, if_true, if_false, ite_true, ite_false, Bool.and_eq_true, decide_true, decide_false, decide_eq_true_eq, ne_eq, Nat.reduceEqDiff, Nat.one_ne_zero, Bool.false_eq_true, reduceCtorEq]; decide)
                exact kz_wreti hx hb hr hlocks (by rw [e_nx, e_fl]; exact hP) (by rw [e_nx, e_fl]; exact hD) hS (Nat.le_of_ble_eq_true rfl) (Nat.le_of_ble_eq_true rfl) (⟨by first | (simp [tc_sending, hv_1, hv_2, hv_3, c_4, (Int32.not_lt.mpr c_4), c_5, (Int32.not_le.mpr c_5), c_6, (Int32.not_le.mpr c_6), c_7]; done) | (simp only [tc_sending, hv_1, hv_2, hv_3, c_4, (Int32.not_lt.mpr c_4), c_5, (Int32.not_le.mpr c_5), c_6, (Int32.not_le.mpr c_6), c_7, eq_self, not_true_eq_false, not_false_eq_true, and_self, and_true, true_and, and_false, false_and, or_true, true_or, or_false, false_or, if_true, if_false, ite_true, ite_false, Bool.and_eq_true, decide_true, decide_false, decide_eq_true_eq, ne_eq, Nat.reduceEqDiff, Nat.one_ne_zero, Bool.false_eq_true, reduceCtorEq]; done) | (simp only [tc_sending, hv_1, hv_2, hv_3, c_4, (Int32.not_lt.mpr c_4), c_5, (Int32.not_le.mpr c_5), c_6, (Int32.not_le.mpr c_6), c_7, eq_self, not_true_eq_false, not_false_eq_true, and_self, and_true, true_and, and_false, false_and, or_true, true_or, or_false, false_or, if_true, if_false, ite_true, ite_false, Bool.and_eq_true, decide_true, decide_false, decide_eq_true_eq, ne_eq, Nat.reduceEqDiff, Nat.one_ne_zero, Bool.false_eq_true, reduceCtorEq]; decide), by first | (simp [hv_1, hv_2, hv_3, c_4, (Int32.not_lt.mpr c_4), c_5, (Int32.not_le.mpr c_5), c_6, (Int32.not_le.mpr c_6), c_7]; done) | (simp only [hv_1, hv_2, hv_3, c_4, (Int32.not_lt.mpr c_4), c_5, (Int32.not_le.mpr c_5), c_6, (Int32.not_le.mpr c_6), c_7, eq_self, not_true_eq_false, not_false_eq_true, and_self, and_true, true_and, and_false, false_and, or_true, true_or, or_false, false_or, if_true, if_false, ite_true, ite_false, Bool.and_eq_true, decide_true, decide_false, decide_eq_true_eq, ne_eq, Nat.reduceEqDiff, Nat.one_ne_zero, Bool.false_eq_true, reduceCtorEq]; done) | (simp only [hv_1, hv_2, hv_3, c_4, (Int32.not_lt.mpr c_4), c_5, (Int32.not_le.mpr c_5), c_6, (Int32.not_le.mpr c_6), c_7, eq_self, not_true_eq_false, not_false_eq_true, and_self, and_true, true_and, and_false, false_and, or_true, true_or, or_false, false_or, if_true, if_false, ite_true, ite_false, Bool.and_eq_true, decide_true, decide_false, decide_eq_true_eq, ne_eq, Nat.reduceEqDiff, Nat.one_ne_zero, Bool.false_eq_true, reduceCtorEq]; decide)⟩)  dX0_sending_80
            · -- 51 -> 54
              refine lv_aload_n hx hb dX0_sending_54 rfl (lv_at hl 0 rfl) ?_
              refine lv_iload_n hx hb dX0_sending_55 rfl (lv_at hl 1 rfl) ?_
              refine kz_rV (As := [.int p0]) (rest := []) ⟨hx, hb, hml, hown, hw9⟩ (c_X0_mayFlyMore l hl9 D cI cZ ty ad rs H.size it o n g v r nx mt fl pr ofs ak hd an p0 (sq_V_in (Bool.and_eq_true_iff.mp hv_1).1)) (kz_cV 1 hw9 mw_288 mw_290 ms_7 mw_1 mw_291 rfl rfl (by decide +kernel) ⟨Nat.le_of_ble_eq_true rfl, Nat.le_of_ble_eq_true rfl⟩) (kz_preV (q0 := 0) (ci := 0) hK hP hD hS hA hE rfl rfl) rfl hl.1 rfl (Nat.le_of_ble_eq_true rfl) dX0_sending_56 ⟨Nat.le_of_ble_eq_true rfl, Nat.le_of_ble_eq_true rfl⟩ (fun _ _ _ _ h => False.elim h) (fun v9 H hv9 hO1 => ?_)
              obtain ⟨_, rfl, rfl⟩ := hv9
              have hP := hO1.P hP
              have hS := hO1.S hS
              have hO := hO.tr hO1
              refine W.eq (g2 := F0 m 59 ls [.int (sq_z (sq_F fl pr p0.toNatClampNeg))]) rfl ?_
              refine lv_if_eq (tgt := 69) hx hb dX0_sending_59 (by decide) (fun c_8 => ?_) (fun c_8 => ?_)
              · -- 59 -> 69
                refine lv_iload hx hb dX0_sending_69 (lv_at hl 4 rfl) ?_
                refine lv_if_eq (tgt := 79) hx hb dX0_sending_71 (by decide) (fun c_9 => ?_) (fun c_9 => ?_)
                · -- 71 -> 79
                  refine lv_iconst (v := 0) hx hb dX0_sending_79 (by decide) ?_
                  have e_nx : (if nx p0.toNatClampNeg ≤ p1 then nx else if nx p0.toNatClampNeg ≤ p2 ∧ sq_F fl pr p0.toNatClampNeg = true then upd nx p0.toNatClampNeg (nx p0.toNatClampNeg + (sq_min ((p2 - nx p0.toNatClampNeg) + 1) 6)) else nx) = nx := by first | (simp [hv_1, hv_2, hv_3, c_4, (Int32.not_lt.mpr c_4), c_5, (Int32.not_le.mpr c_5), c_6, (Int32.not_lt.mp c_6), (sq_z_f c_8), c_9]; done) | (simp only [hv_1, hv_2, hv_3, c_4, (Int32.not_lt.mpr c_4), c_5, (Int32.not_le.mpr c_5), c_6, (Int32.not_lt.mp c_6), (sq_z_f c_8), c_9, eq_self, not_true_eq_false, not_false_eq_true, and_self, and_true, true_and, and_false, false_and, or_true, true_or, or_false, false_or, if_true, if_false, ite_true, ite_false, Bool.and_eq_true, decide_true, decide_false, decide_eq_true_eq, ne_eq, Nat.reduceEqDiff, Nat.one_ne_zero, Bool.false_eq_true, reduceCtorEq]; done) | (simp only [hv_1, hv_2, hv_3, c_4, (Int32.not_lt.mpr c_4), c_5, (Int32.not_le.mpr c_5), c_6, (Int32.not_lt.mp c_6), (sq_z_f c_8), c_9, eq_self, not_true_eq_false, not_false_eq_true, and_self, and_true, true_and, and_false, false_and, or_true, true_or, or_false, false_or, if_true, if_false, ite_true, ite_false, Bool.and_eq_true, decide_true, decide_false, decide_eq_true_eq, ne_eq, Nat.reduceEqDiff, Nat.one_ne_zero, Bool.false_eq_true, reduceCtorEq]; decide)
                  have e_fl : (if nx p0.toNatClampNeg ≤ p1 then (if 0 < fl p0.toNatClampNeg then fl else upd fl p0.toNatClampNeg 1) else if nx p0.toNatClampNeg ≤ p2 ∧ sq_F fl pr p0.toNatClampNeg = true then upd fl p0.toNatClampNeg (fl p0.toNatClampNeg + 1) else fl) = fl := by first | (simp [hv_1, hv_2, hv_3, c_4, (Int32.not_lt.mpr c_4), c_5, (Int32.not_le.mpr c_5), c_6, (Int32.not_lt.mp c_6), (sq_z_f c_8), c_9]; done) | (simp only [hv_1, hv_2, hv_3, c_4, (Int32.not_lt.mpr c_4), c_5, (Int32.not_le.mpr c_5), c_6, (Int32.not_lt.mp c_6), (sq_z_f c_8), c_9, eq_self, not_true_eq_false, not_false_eq_true, and_self, and_true, true_and, and_false, false_and, or_true, true_or, or_false, false_or, if_true, if_false, ite_true, ite_false, Bool.and_eq_true, decide_true, decide_false, decide_eq_true_eq, ne_eq, Nat.reduceEqDiff, Nat.one_ne_zero, Bool.false_eq_true, reduceCtorEq]; done) | (simp only [hv_1, hv_2, hv_3, c_4, (Int32.not_lt.mpr c_4), c_5, (Int32.not_le.mpr c_5), c_6, (Int32.not_lt.mp c_6), (sq_z_f c_8), c_9, eq_self, not_true_eq_false, not_false_eq_true, and_self, and_true, true_and, and_false, false_and, or_true, true_or, or_false, false_or, if_true, if_false, ite_true, ite_false, Bool.and_eq_true, decide_true, decide_false, decide_eq_true_eq, ne_eq, Nat.reduceEqDiff, Nat.one_ne_zero, Bool.false_eq_true, reduceCtorEq]; decide)
                  exact kz_wreti hx hb hr hlocks (by rw [e_nx, e_fl]; exact hP) (by rw [e_nx, e_fl]; exact hD) hS (Nat.le_of_ble_eq_true rfl) (Nat.le_of_ble_eq_true rfl) (⟨by first | (simp [tc_sending, hv_1, hv_2, hv_3, c_4, (Int32.not_lt.mpr c_4), c_5, (Int32.not_le.mpr c_5), c_6, (Int32.not_lt.mp c_6), (sq_z_f c_8), c_9]; done) | (simp only [tc_sending, hv_1, hv_2, hv_3, c_4, (Int32.not_lt.mpr c_4), c_5, (Int32.not_le.mpr c_5), c_6, (Int32.not_lt.mp c_6), (sq_z_f c_8), c_9, eq_self, not_true_eq_false, not_false_eq_true, and_self, and_true, true_and, and_false, false_and, or_true, true_or, or_false, false_or, if_true, if_false, ite_true, ite_false, Bool.and_eq_true, decide_true, decide_false, decide_eq_true_eq, ne_eq, Nat.reduceEqDiff, Nat.one_ne_zero, Bool.false_eq_true, reduceCtorEq]; done) | (simp only [tc_sending, hv_1, hv_2, hv_3, c_4, (Int32.not_lt.mpr c_4), c_5, (Int32.not_le.mpr c_5), c_6, (Int32.not_lt.mp c_6), (sq_z_f c_8), c_9, eq_self, not_true_eq_false, not_false_eq_true, and_self, and_true, true_and, and_false, false_and, or_true, true_or, or_false, false_or, if_true, if_false, ite_true, ite_false, Bool.and_eq_true, decide_true, decide_false, decide_eq_true_eq, ne_eq, Nat.reduceEqDiff, Nat.one_ne_zero, Bool.false_eq_true, reduceCtorEq]; decide), by first | (simp [hv_1, hv_2, hv_3, c_4, (Int32.not_lt.mpr c_4), c_5, (Int32.not_le.mpr c_5), c_6, (Int32.not_lt.mp c_6), (sq_z_f c_8), c_9]; done) | (simp only [hv_1, hv_2, hv_3, c_4, (Int32.not_lt.mpr c_4), c_5, (Int32.not_le.mpr c_5), c_6, (Int32.not_lt.mp c_6), (sq_z_f c_8), c_9, eq_self, not_true_eq_false, not_false_eq_true, and_self, and_true, true_and, and_false, false_and, or_true, true_or, or_false, false_or, if_true, if_false, ite_true, ite_false, Bool.and_eq_true, decide_true, decide_false, decide_eq_true_eq, ne_eq, Nat.reduceEqDiff, Nat.one_ne_zero, Bool.false_eq_true, reduceCtorEq]; done) | (simp only [hv_1, hv_2, hv_3, c_4, (Int32.not_lt.mpr c_4), c_5, (Int32.not_le.mpr c_5), c_6, (Int32.not_lt.mp c_6), (sq_z_f c_8), c_9, eq_self, not_true_eq_false, not_false_eq_true, and_self, and_true, true_and, and_false, false_and, or_true, true_or, or_false, false_or, if_true, if_false, ite_true, ite_false, Bool.and_eq_true, decide_true, decide_false, decide_eq_true_eq, ne_eq, Nat.reduceEqDiff, Nat.one_ne_zero, Bool.false_eq_true, reduceCtorEq]; decide)⟩)  dX0_sending_80
                · -- 71 -> 74
                  refine lv_bipush (v := 7) hx hb dX0_sending_74 (by decide) ?_
                  refine lv_goto (tgt := 80) hx hb dX0_sending_76 (by decide) ?_
                  have e_nx : (if nx p0.toNatClampNeg ≤ p1 then nx else if nx p0.toNatClampNeg ≤ p2 ∧ sq_F fl pr p0.toNatClampNeg = true then upd nx p0.toNatClampNeg (nx p0.toNatClampNeg + (sq_min ((p2 - nx p0.toNatClampNeg) + 1) 6)) else nx) = nx := by first | (simp [hv_1, hv_2, hv_3, c_4, (Int32.not_lt.mpr c_4), c_5, (Int32.not_le.mpr c_5), c_6, (Int32.not_lt.mp c_6), (sq_z_f c_8), c_9]; done) | (simp only [hv_1, hv_2, hv_3, c_4, (Int32.not_lt.mpr c_4), c_5, (Int32.not_le.mpr c_5), c_6, (Int32.not_lt.mp c_6), (sq_z_f c_8), c_9, eq_self, not_true_eq_false, not_false_eq_true, and_self, and_true, true_and, and_false, false_and, or_true, true_or, or_false, false_or, if_true, if_false, ite_true, ite_false, Bool.and_eq_true, decide_true, decide_false, decide_eq_true_eq, ne_eq, Nat.reduceEqDiff, Nat.one_ne_zero, Bool.false_eq_true, reduceCtorEq]; done) | (simp only [hv_1, hv_2, hv_3, c_4, (Int32.not_lt.mpr c_4), c_5, (Int32.not_le.mpr c_5), c_6, (Int32.not_lt.mp c_6), (sq_z_f c_8), c_9, eq_self, not_true_eq_false, not_false_eq_true, and_self, and_true, true_and, and_false, false_and, or_true, true_or, or_false, false_or, if_true, if_false, ite_true, ite_false, Bool.and_eq_true, decide_true, decide_false, decide_eq_true_eq, ne_eq, Nat.reduceEqDiff, Nat.one_ne_zero, Bool.false_eq_true, reduceCtorEq]; decide)
                  have e_fl : (if nx p0.toNatClampNeg ≤ p1 then (if 0 < fl p0.toNatClampNeg then fl else upd fl p0.toNatClampNeg 1) else if nx p0.toNatClampNeg ≤ p2 ∧ sq_F fl pr p0.toNatClampNeg = true then upd fl p0.toNatClampNeg (fl p0.toNatClampNeg + 1) else fl) = fl := by first | (simp [hv_1, hv_2, hv_3, c_4, (Int32.not_lt.mpr c_4), c_5, (Int32.not_le.mpr c_5), c_6, (Int32.not_lt.mp c_6), (sq_z_f c_8), c_9]; done) | (simp only [hv_1, hv_2, hv_3, c_4, (Int32.not_lt.mpr c_4), c_5, (Int32.not_le.mpr c_5), c_6, (Int32.not_lt.mp c_6), (sq_z_f c_8), c_9, eq_self, not_true_eq_false, not_false_eq_true, and_self, and_true, true_and, and_false, false_and, or_true, true_or, or_false, false_or, if_true, if_false, ite_true, ite_false, Bool.and_eq_true, decide_true, decide_false, decide_eq_true_eq, ne_eq, Nat.reduceEqDiff, Nat.one_ne_zero, Bool.false_eq_true, reduceCtorEq]; done) | (simp only [hv_1, hv_2, hv_3, c_4, (Int32.not_lt.mpr c_4), c_5, (Int32.not_le.mpr c_5), c_6, (Int32.not_lt.mp c_6), (sq_z_f c_8), c_9, eq_self, not_true_eq_false, not_false_eq_true, and_self, and_true, true_and, and_false, false_and, or_true, true_or, or_false, false_or, if_true, if_false, ite_true, ite_false, Bool.and_eq_true, decide_true, decide_false, decide_eq_true_eq, ne_eq, Nat.reduceEqDiff, Nat.one_ne_zero, Bool.false_eq_true, reduceCtorEq]; decide)
                  exact kz_wreti hx hb hr hlocks (by rw [e_nx, e_fl]; exact hP) (by rw [e_nx, e_fl]; exact hD) hS (Nat.le_of_ble_eq_true rfl) (Nat.le_of_ble_eq_true rfl) (⟨by first | (simp [tc_sending, hv_1, hv_2, hv_3, c_4, (Int32.not_lt.mpr c_4), c_5, (Int32.not_le.mpr c_5), c_6, (Int32.not_lt.mp c_6), (sq_z_f c_8), c_9]; done) | (simp only [tc_sending, hv_1, hv_2, hv_3, c_4, (Int32.not_lt.mpr c_4), c_5, (Int32.not_le.mpr c_5), c_6, (Int32.not_lt.mp c_6), (sq_z_f c_8), c_9, eq_self, not_true_eq_false, not_false_eq_true, and_self, and_true, true_and, and_false, false_and, or_true, true_or, or_false, false_or, if_true, if_false, ite_true, ite_false, Bool.and_eq_true, decide_true, decide_false, decide_eq_true_eq, ne_eq, Nat.reduceEqDiff, Nat.one_ne_zero, Bool.false_eq_true, reduceCtorEq]; done) | (simp only [tc_sending, hv_1, hv_2, hv_3, c_4, (Int32.not_lt.mpr c_4), c_5, (Int32.not_le.mpr c_5), c_6, (Int32.not_lt.mp c_6), (sq_z_f c_8), c_9, eq_self, not_true_eq_false, not_false_eq_true, and_self, and_true, true_and, and_false, false_and, or_true, true_or, or_false, false_or, if_true, if_false, ite_true, ite_false, Bool.and_eq_true, decide_true, decide_false, decide_eq_true_eq, ne_eq, Nat.reduceEqDiff, Nat.one_ne_zero, Bool.false_eq_true, reduceCtorEq]; decide), by first | (simp [hv_1, hv_2, hv_3, c_4, (Int32.not_lt.mpr c_4), c_5, (Int32.not_le.mpr c_5), c_6, (Int32.not_lt.mp c_6), (sq_z_f c_8), c_9]; done) | (simp only [hv_1, hv_2, hv_3, c_4, (Int32.not_lt.mpr c_4), c_5, (Int32.not_le.mpr c_5), c_6, (Int32.not_lt.mp c_6), (sq_z_f c_8), c_9, eq_self, not_true_eq_false, not_false_eq_true, and_self, and_true, true_and, and_false, false_and, or_true, true_or, or_false, false_or, if_true, if_false, ite_true, ite_false, Bool.and_eq_true, decide_true, decide_false, decide_eq_true_eq, ne_eq, Nat.reduceEqDiff, Nat.one_ne_zero, Bool.false_eq_true, reduceCtorEq]; done) | (simp only [hv_1, hv_2, hv_3, c_4, (Int32.not_lt.mpr c_4), c_5, (Int32.not_le.mpr c_5), c_6, (Int32.not_lt.mp c_6), (sq_z_f c_8), c_9, eq_self, not_true_eq_false, not_false_eq_true, and_self, and_true, true_and, and_false, false_and, or_true, true_or, or_false, false_or, if_true, if_false, ite_true, ite_false, Bool.and_eq_true, decide_true, decide_false, decide_eq_true_eq, ne_eq, Nat.reduceEqDiff, Nat.one_ne_zero, Bool.false_eq_true, reduceCtorEq]; decide)⟩)  dX0_sending_80
              · -- 59 -> 62
                refine lv_aload_n hx hb dX0_sending_62 rfl (lv_at hl 0 rfl) ?_
                refine lv_iload_n hx hb dX0_sending_63 rfl (lv_at hl 1 rfl) ?_
                refine lv_iload_n hx hb dX0_sending_64 rfl (lv_at hl 3 rfl) ?_
                refine kz_wV (As := [.int p0, .int p2]) (rest := []) ⟨hx, hb, hml, hown, hw9⟩ (c_X0_sendEntries l hl9 D cI cZ ty ad rs H.size it o n g v r nx mt fl pr ofs ak hd an p0 p2 (sq_V_in (Bool.and_eq_true_iff.mp hv_1).1)) (kz_cV 2 hw9 mw_292 mw_294 ms_8 mw_1 mw_295 rfl rfl (by decide +kernel) ⟨Nat.le_of_ble_eq_true rfl, Nat.le_of_ble_eq_true rfl⟩) (kz_preV (q0 := 0) (ci := 0) hK hP hD hS hA hE rfl rfl) rfl hl.1 rfl (Nat.le_of_ble_eq_true rfl) dX0_sending_65 ⟨Nat.le_of_ble_eq_true rfl, Nat.le_of_ble_eq_true rfl⟩ hD hS hA (fun _ _ _ _ _ _ h => False.elim h) (fun v9 H locs hv9 hP hD hS => ?_)
                obtain ⟨_, rfl, rfl⟩ := hv9
                have hP : va_P D vwCl (wX ad cI cZ it o n g v r (upd nx p0.toNatClampNeg (nx p0.toNatClampNeg + (sq_min ((p2 - nx p0.toNatClampNeg) + 1) 6))) mt (upd fl p0.toNatClampNeg (fl p0.toNatClampNeg + 1)) pr ofs ak hd an ++ rs) H := hP
                have hD : va_D A (wX ad cI cZ it o n g v r (upd nx p0.toNatClampNeg (nx p0.toNatClampNeg + (sq_min ((p2 - nx p0.toNatClampNeg) + 1) 6))) mt (upd fl p0.toNatClampNeg (fl p0.toNatClampNeg + 1)) pr ofs ak hd an ++ rs) := hD
                refine W.eq (g2 := F0 m 68 ls [.int (sq_min ((p2 - nx p0.toNatClampNeg) + 1) 6)]) rfl ?_
                have e_nx : (if nx p0.toNatClampNeg ≤ p1 then nx else if nx p0.toNatClampNeg ≤ p2 ∧ sq_F fl pr p0.toNatClampNeg = true then upd nx p0.toNatClampNeg (nx p0.toNatClampNeg + (sq_min ((p2 - nx p0.toNatClampNeg) + 1) 6)) else nx) = upd nx p0.toNatClampNeg (nx p0.toNatClampNeg + (sq_min ((p2 - nx p0.toNatClampNeg) + 1) 6)) := by first | (simp [hv_1, hv_2, hv_3, c_4, (Int32.not_lt.mpr c_4), c_5, (Int32.not_le.mpr c_5), c_6, (Int32.not_lt.mp c_6), (sq_z_t c_8)]; done) | (simp only [hv_1, hv_2, hv_3, c_4, (Int32.not_lt.mpr c_4), c_5, (Int32.not_le.mpr c_5), c_6, (Int32.not_lt.mp c_6), (sq_z_t c_8), eq_self, not_true_eq_false, not_false_eq_true, and_self, and_true, true_and, and_false, false_and, or_true, true_or, or_false, false_or, if_true, if_false, ite_true, ite_false, Bool.and_eq_true, decide_true, decide_false, decide_eq_true_eq, ne_eq, Nat.reduceEqDiff, Nat.one_ne_zero, Bool.false_eq_true, reduceCtorEq]; done) | (simp only [hv_1, hv_2, hv_3, c_4, (Int32.not_lt.mpr c_4), c_5, (Int32.not_le.mpr c_5), c_6, (Int32.not_lt.mp c_6), (sq_z_t c_8), eq_self, not_true_eq_false, not_false_eq_true, and_self, and_true, true_and, and_false, false_and, or_true, true_or, or_false, false_or, if_true, if_false, ite_true, ite_false, Bool.and_eq_true, decide_true, decide_false, decide_eq_true_eq, ne_eq, Nat.reduceEqDiff, Nat.one_ne_zero, Bool.false_eq_true, reduceCtorEq]; decide)
                have e_fl : (if nx p0.toNatClampNeg ≤ p1 then (if 0 < fl p0.toNatClampNeg then fl else upd fl p0.toNatClampNeg 1) else if nx p0.toNatClampNeg ≤ p2 ∧ sq_F fl pr p0.toNatClampNeg = true then upd fl p0.toNatClampNeg (fl p0.toNatClampNeg + 1) else fl) = upd fl p0.toNatClampNeg (fl p0.toNatClampNeg + 1) := by first | (simp [hv_1, hv_2, hv_3, c_4, (Int32.not_lt.mpr c_4), c_5, (Int32.not_le.mpr c_5), c_6, (Int32.not_lt.mp c_6), (sq_z_t c_8)]; done) | (simp only [hv_1, hv_2, hv_3, c_4, (Int32.not_lt.mpr c_4), c_5, (Int32.not_le.mpr c_5), c_6, (Int32.not_lt.mp c_6), (sq_z_t c_8), eq_self, not_true_eq_false, not_false_eq_true, and_self, and_true, true_and, and_false, false_and, or_true, true_or, or_false, false_or, if_true, if_false, ite_true, ite_false, Bool.and_eq_true, decide_true, decide_false, decide_eq_true_eq, ne_eq, Nat.reduceEqDiff, Nat.one_ne_zero, Bool.false_eq_true, reduceCtorEq]; done) | (simp only [hv_1, hv_2, hv_3, c_4, (Int32.not_lt.mpr c_4), c_5, (Int32.not_le.mpr c_5), c_6, (Int32.not_lt.mp c_6), (sq_z_t c_8), eq_self, not_true_eq_false, not_false_eq_true, and_self, and_true, true_and, and_false, false_and, or_true, true_or, or_false, false_or, if_true, if_false, ite_true, ite_false, Bool.and_eq_true, decide_true, decide_false, decide_eq_true_eq, ne_eq, Nat.reduceEqDiff, Nat.one_ne_zero, Bool.false_eq_true, reduceCtorEq]; decide)
                exact kz_wreti hx hb hr hlocks (by rw [e_nx, e_fl]; exact hP) (by rw [e_nx, e_fl]; exact hD) hS (Nat.le_of_ble_eq_true rfl) (Nat.le_of_ble_eq_true rfl) (⟨by first | (simp [tc_sending, hv_1, hv_2, hv_3, c_4, (Int32.not_lt.mpr c_4), c_5, (Int32.not_le.mpr c_5), c_6, (Int32.not_lt.mp c_6), (sq_z_t c_8)]; done) | (simp only [tc_sending, hv_1, hv_2, hv_3, c_4, (Int32.not_lt.mpr c_4), c_5, (Int32.not_le.mpr c_5), c_6, (Int32.not_lt.mp c_6), (sq_z_t c_8), eq_self, not_true_eq_false, not_false_eq_true, and_self, and_true, true_and, and_false, false_and, or_true, true_or, or_false, false_or, if_true, if_false, ite_true, ite_false, Bool.and_eq_true, decide_true, decide_false, decide_eq_true_eq, ne_eq, Nat.reduceEqDiff, Nat.one_ne_zero, Bool.false_eq_true, reduceCtorEq]; done) | (simp only [tc_sending, hv_1, hv_2, hv_3, c_4, (Int32.not_lt.mpr c_4), c_5, (Int32.not_le.mpr c_5), c_6, (Int32.not_lt.mp c_6), (sq_z_t c_8), eq_self, not_true_eq_false, not_false_eq_true, and_self, and_true, true_and, and_false, false_and, or_true, true_or, or_false, false_or, if_true, if_false, ite_true, ite_false, Bool.and_eq_true, decide_true, decide_false, decide_eq_true_eq, ne_eq, Nat.reduceEqDiff, Nat.one_ne_zero, Bool.false_eq_true, reduceCtorEq]; decide), by first | (simp [hv_1, hv_2, hv_3, c_4, (Int32.not_lt.mpr c_4), c_5, (Int32.not_le.mpr c_5), c_6, (Int32.not_lt.mp c_6), (sq_z_t c_8)]; done) | (simp only [hv_1, hv_2, hv_3, c_4, (Int32.not_lt.mpr c_4), c_5, (Int32.not_le.mpr c_5), c_6, (Int32.not_lt.mp c_6), (sq_z_t c_8), eq_self, not_true_eq_false, not_false_eq_true, and_self, and_true, true_and, and_false, false_and, or_true, true_or, or_false, false_or, if_true, if_false, ite_true, ite_false, Bool.and_eq_true, decide_true, decide_false, decide_eq_true_eq, ne_eq, Nat.reduceEqDiff, Nat.one_ne_zero, Bool.false_eq_true, reduceCtorEq]; done) | (simp only [hv_1, hv_2, hv_3, c_4, (Int32.not_lt.mpr c_4), c_5, (Int32.not_le.mpr c_5), c_6, (Int32.not_lt.mp c_6), (sq_z_t c_8), eq_self, not_true_eq_false, not_false_eq_true, and_self, and_true, true_and, and_false, false_and, or_true, true_or, or_false, false_or, if_true, if_false, ite_true, ite_false, Bool.and_eq_true, decide_true, decide_false, decide_eq_true_eq, ne_eq, Nat.reduceEqDiff, Nat.one_ne_zero, Bool.false_eq_true, reduceCtorEq]; decide)⟩)  dX0_sending_68
          · -- 35 -> 38
            refine lv_aload_n hx hb dX0_sending_38 rfl (lv_at hl 0 rfl) ?_
            refine lv_iload_n hx hb dX0_sending_39 rfl (lv_at hl 1 rfl) ?_
            refine kz_wV (As := [.int p0]) (rest := []) ⟨hx, hb, hml, hown, hw9⟩ (c_X0_sendSnapshotPiece l hl9 D cI cZ ty ad rs H.size it o n g v r nx mt fl pr ofs ak hd an p0 (sq_V_in (Bool.and_eq_true_iff.mp hv_1).1)) (kz_cV 1 hw9 mw_284 mw_286 ms_6 mw_1 mw_287 rfl rfl (by decide +kernel) ⟨Nat.le_of_ble_eq_true rfl, Nat.le_of_ble_eq_true rfl⟩) (kz_preV (q0 := 0) (ci := 0) hK hP hD hS hA hE rfl rfl) rfl hl.1 rfl (Nat.le_of_ble_eq_true rfl) dX0_sending_40 ⟨Nat.le_of_ble_eq_true rfl, Nat.le_of_ble_eq_true rfl⟩ hD hS hA (fun _ _ _ _ _ _ h => False.elim h) (fun v9 H locs hv9 hP hD hS => ?_)
            obtain ⟨_, rfl, rfl⟩ := hv9
            have hP : va_P D vwCl (wX ad cI cZ it o n g v r nx mt (if 0 < fl p0.toNatClampNeg then fl else upd fl p0.toNatClampNeg 1) pr ofs ak hd an ++ rs) H := hP
            have hD : va_D A (wX ad cI cZ it o n g v r nx mt (if 0 < fl p0.toNatClampNeg then fl else upd fl p0.toNatClampNeg 1) pr ofs ak hd an ++ rs) := hD
            refine W.eq (g2 := F0 m 43 ls [.int (if 0 < fl p0.toNatClampNeg then 0 else 8)]) rfl ?_
            have e_nx : (if nx p0.toNatClampNeg ≤ p1 then nx else if nx p0.toNatClampNeg ≤ p2 ∧ sq_F fl pr p0.toNatClampNeg = true then upd nx p0.toNatClampNeg (nx p0.toNatClampNeg + (sq_min ((p2 - nx p0.toNatClampNeg) + 1) 6)) else nx) = nx := by first | (simp [hv_1, hv_2, hv_3, c_4, (Int32.not_lt.mpr c_4), c_5, (Int32.not_lt.mp c_5)]; done) | (simp only [hv_1, hv_2, hv_3, c_4, (Int32.not_lt.mpr c_4), c_5, (Int32.not_lt.mp c_5), eq_self, not_true_eq_false, not_false_eq_true, and_self, and_true, true_and, and_false, false_and, or_true, true_or, or_false, false_or, if_true, if_false, ite_true, ite_false, Bool.and_eq_true, decide_true, decide_false, decide_eq_true_eq, ne_eq, Nat.reduceEqDiff, Nat.one_ne_zero, Bool.false_eq_true, reduceCtorEq]; done) | (simp only [hv_1, hv_2, hv_3, c_4, (Int32.not_lt.mpr c_4), c_5, (Int32.not_lt.mp c_5), eq_self, not_true_eq_false, not_false_eq_true, and_self, and_true, true_and, and_false, false_and, or_true, true_or, or_false, false_or, if_true, if_false, ite_true, ite_false, Bool.and_eq_true, decide_true, decide_false, decide_eq_true_eq, ne_eq, Nat.reduceEqDiff, Nat.one_ne_zero, Bool.false_eq_true, reduceCtorEq]; decide)
            have e_fl : (if nx p0.toNatClampNeg ≤ p1 then (if 0 < fl p0.toNatClampNeg then fl else upd fl p0.toNatClampNeg 1) else if nx p0.toNatClampNeg ≤ p2 ∧ sq_F fl pr p0.toNatClampNeg = true then upd fl p0.toNatClampNeg (fl p0.toNatClampNeg + 1) else fl) = if 0 < fl p0.toNatClampNeg then fl else upd fl p0.toNatClampNeg 1 := by first | (simp [hv_1, hv_2, hv_3, c_4, (Int32.not_lt.mpr c_4), c_5, (Int32.not_lt.mp c_5)]; done) | (simp only [hv_1, hv_2, hv_3, c_4, (Int32.not_lt.mpr c_4), c_5, (Int32.not_lt.mp c_5), eq_self, not_true_eq_false, not_false_eq_true, and_self, and_true, true_and, and_false, false_and, or_true, true_or, or_false, false_or, if_true, if_false, ite_true, ite_false, Bool.and_eq_true, decide_true, decide_false, decide_eq_true_eq, ne_eq, Nat.reduceEqDiff, Nat.one_ne_zero, Bool.false_eq_true, reduceCtorEq]; done) | (simp only [hv_1, hv_2, hv_3, c_4, (Int32.not_lt.mpr c_4), c_5, (Int32.not_lt.mp c_5), eq_self, not_true_eq_false, not_false_eq_true, and_self, and_true, true_and, and_false, false_and, or_true, true_or, or_false, false_or, if_true, if_false, ite_true, ite_false, Bool.and_eq_true, decide_true, decide_false, decide_eq_true_eq, ne_eq, Nat.reduceEqDiff, Nat.one_ne_zero, Bool.false_eq_true, reduceCtorEq]; decide)
            exact kz_wreti hx hb hr hlocks (by rw [e_nx, e_fl]; exact hP) (by rw [e_nx, e_fl]; exact hD) hS (Nat.le_of_ble_eq_true rfl) (Nat.le_of_ble_eq_true rfl) (⟨by first | (simp [tc_sending, hv_1, hv_2, hv_3, c_4, (Int32.not_lt.mpr c_4), c_5, (Int32.not_lt.mp c_5)]; done) | (simp only [tc_sending, hv_1, hv_2, hv_3, c_4, (Int32.not_lt.mpr c_4), c_5, (Int32.not_lt.mp c_5), eq_self, not_true_eq_false, not_false_eq_true, and_self, and_true, true_and, and_false, false_and, or_true, true_or, or_false, false_or, if_true, if_false, ite_true, ite_false, Bool.and_eq_true, decide_true, decide_false, decide_eq_true_eq, ne_eq, Nat.reduceEqDiff, Nat.one_ne_zero, Bool.false_eq_true, reduceCtorEq]; done) | (simp only [tc_sending, hv_1, hv_2, hv_3, c_4, (Int32.not_lt.mpr c_4), c_5, (Int32.not_lt.mp c_5), eq_self, not_true_eq_false, not_false_eq_true, and_self, and_true, true_and, and_false, false_and, or_true, true_or, or_false, false_or, if_true, if_false, ite_true, ite_false, Bool.and_eq_true, decide_true, decide_false, decide_eq_true_eq, ne_eq, Nat.reduceEqDiff, Nat.one_ne_zero, Bool.false_eq_true, reduceCtorEq]; decide), by first | (simp [hv_1, hv_2, hv_3, c_4, (Int32.not_lt.mpr c_4), c_5, (Int32.not_lt.mp c_5)]; done) | (simp only [hv_1, hv_2, hv_3, c_4, (Int32.not_lt.mpr c_4), c_5, (Int32.not_lt.mp c_5), eq_self, not_true_eq_false, not_false_eq_true, and_self, and_true, true_and, and_false, false_and, or_true, true_or, or_false, false_or, if_true, if_false, ite_true, ite_false, Bool.and_eq_true, decide_true, decide_false, decide_eq_true_eq, ne_eq, Nat.reduceEqDiff, Nat.one_ne_zero, Bool.false_eq_true, reduceCtorEq]; done) | (simp only [hv_1, hv_2, hv_3, c_4, (Int32.not_lt.mpr c_4), c_5, (Int32.not_lt.mp c_5), eq_self, not_true_eq_false, not_false_eq_true, and_self, and_true, true_and, and_false, false_and, or_true, true_or, or_false, false_or, if_true, if_false, ite_true, ite_false, Bool.and_eq_true, decide_true, decide_false, decide_eq_true_eq, ne_eq, Nat.reduceEqDiff, Nat.one_ne_zero, Bool.false_eq_true, reduceCtorEq]; decide)⟩)  dX0_sending_43
        · -- 15 -> 18
          obtain ⟨sa9, hst9⟩ := hE.2.2.1 (103, "the last entry is below the snapshot\'s") (by decide)
          exact ez_throwS (cls := IAE) (names := EXN) hx hb hl9 hown (by decide +kernel) (by decide +kernel) (hw9 _ mw_101) (hw9 _ mw_6) hst9 (at_IAE hw9 hE) hO.1 (by rw [hml]; exact hl.1) hTab hlocks dX0_sending_18 dX0_sending_21 dX0_sending_22 dX0_sending_24 dX0_sending_27 (by decide) (Nat.le_of_ble_eq_true rfl) (Nat.le_of_ble_eq_true rfl) (Nat.le_of_ble_eq_true rfl) (fun q t ce h1 h2 h3 h4 h5 h6 => ⟨2, ce, (by first | (simp [tc_sending, hv_1, hv_2, hv_3, c_4, (Int32.not_le.mp c_4)]; done) | (simp only [tc_sending, hv_1, hv_2, hv_3, c_4, (Int32.not_le.mp c_4), eq_self, not_true_eq_false, not_false_eq_true, and_self, and_true, true_and, and_false, false_and, or_true, true_or, or_false, false_or, if_true, if_false, ite_true, ite_false, Bool.and_eq_true, decide_true, decide_false, decide_eq_true_eq, ne_eq, Nat.reduceEqDiff, Nat.one_ne_zero, Bool.false_eq_true, reduceCtorEq]; done) | (simp only [tc_sending, hv_1, hv_2, hv_3, c_4, (Int32.not_le.mp c_4), eq_self, not_true_eq_false, not_false_eq_true, and_self, and_true, true_and, and_false, false_and, or_true, true_or, or_false, false_or, if_true, if_false, ite_true, ite_false, Bool.and_eq_true, decide_true, decide_false, decide_eq_true_eq, ne_eq, Nat.reduceEqDiff, Nat.one_ne_zero, Bool.false_eq_true, reduceCtorEq]; decide)), h1, h2, by rw [h4.findClass]; exact h3, h5, h6⟩)
end
section
set_option maxHeartbeats 4000000 in
set_option maxRecDepth 100000 in
theorem c_X0_matched (l : Launch) (hl9 : l.stackTraces = false) (D : va_G) (cI cZ : ClassId) (ty : kz_Y) (ad : Nat → Nat) (rs : va_W) (sz : Nat) (it o n g v r : Int32) (nx mt fl pr ofs ak hd an : Nat → Int32) (p0 : Int32) (p1 : Int32) (p2 : Int32) (p3 : Int32) : ez_M l yX0_matched wsX0_matched ({ frames := 7, cells := 1, slots := 6, locals := 110 } : Room) (kz_P D ((cI, .int) :: (cZ, .boolean) :: ty) (wX ad cI cZ it o n g v r nx mt fl pr ofs ak hd an ++ rs) sz [.ref (ad 0), .int p0, .int p1, .int p2, .int p3]) (kz_Wr D (va_A (wX ad cI cZ it o n g v r nx mt fl pr ofs ak hd an ++ rs) sz) (kz_i (fun r9 => (tc_matched p0 p1 p2 p3 = 0) ∧ r9 = (sq_max (mt p0.toNatClampNeg) p1))) (wX ad cI cZ it o n g v r (upd nx p0.toNatClampNeg (sq_max (nx p0.toNatClampNeg) (p1 + 1))) (upd mt p0.toNatClampNeg (sq_max (mt p0.toNatClampNeg) p1)) (upd fl p0.toNatClampNeg (sq_max (fl p0.toNatClampNeg - 1) 0)) (upd pr p0.toNatClampNeg 0) ofs (upd ak p0.toNatClampNeg (sq_max (ak p0.toNatClampNeg) p2)) (upd hd p0.toNatClampNeg p3) (upd an p0.toNatClampNeg 1) ++ rs)) (kz_T (fun k => match k with | 1 => IOE | _ => IAE) (fun k => k = tc_matched p0 p1 p2 p3 ∧ ¬ k = 0)) 0 0 (va_A (wX ad cI cZ it o n g v r nx mt fl pr ofs ak hd an ++ rs) sz) := by
  refine ez_ofW (cc := cX0_matched) (maxL := 5) (ret := (some .int)) (by decide) rfl ?_
  intro p e s m args below meth c s₁ B hml hTab hv
  obtain ⟨rfl, hsz, hP, hK, hD0, hE⟩ := hv
  have hx := B.exec
  have hb := B.bytes
  have hr := B.returns
  have hw9 : ∀ w ∈ kz_W9, w.before ([.ref (ad 0), .int p0, .int p1, .int p2, .int p3] : List Value).toArray s = true := fun w h => atoms_spec (ws := wsX0_matched) B.pre w (List.mem_cons_of_mem _ h)
  have hown : s.vm.findClass RX0 = some m.cls := findClass_of_methodNamed B.named
  have hlocks := B.notSynchronized
  subst hsz
  have hD := hD0.self (sz := s.heap.size)
  generalize hAe : va_A (wX ad cI cZ it o n g v r nx mt fl pr ofs ak hd an ++ rs) s.heap.size = A at hD hE ⊢
  have hA : ∀ q : Nat, s.heap.size ≤ q → A q := fun q h => by rw [← hAe]; exact Or.inr h
  have hS : va_S A s.heap s.heap [] := va_S.rf
  have hO : kz_O s.heap s.heap := kz_O.rf _
  have hl := lv_entry ([.ref (ad 0), .int p0, .int p1, .int p2, .int p3]) (n := 5) (Nat.le_of_ble_eq_true rfl)
  rw [lg_entry_eq]
  generalize (lg_sl ([.ref (ad 0), .int p0, .int p1, .int p2, .int p3]) ++ List.replicate (5 - (lg_sl ([.ref (ad 0), .int p0, .int p1, .int p2, .int p3])).length) Slot.unset).toArray = ls at hl ⊢
  have hl : lv_has ls 5 [(0, .ref (ad 0)), (1, .int p0), (2, .int p1), (3, .int p2), (4, .int p3)] := hl
  refine lv_iload_n hx hb dX0_matched_0 rfl (lv_at hl 1 rfl) ?_
  refine kz_rS (As := [.int p0]) (rest := []) ⟨hx, hb, hml, hown, hw9⟩ (c_X0_requireServer l hl9 D ((cI, .int) :: (cZ, .boolean) :: ty) (wX ad cI cZ it o n g v r nx mt fl pr ofs ak hd an ++ rs) s.heap.size p0) (kz_cS 1 hw9 mw_240 mw_241 mw_1 mw_242 rfl rfl (by decide +kernel) ⟨Nat.le_of_ble_eq_true rfl, Nat.le_of_ble_eq_true rfl⟩) (kz_preS hK hP hD hS hA hE) rfl hl.1 rfl (Nat.le_of_ble_eq_true rfl) dX0_matched_1 ⟨Nat.le_of_ble_eq_true rfl, Nat.le_of_ble_eq_true rfl⟩ (fun k ce q9 H1 hk hO1 hce hcv hcl => ?_) (fun v9 H hv9 hO1 => ?_)
  · -- thrown
    exact kz_out (k := 1) hTab hlocks (by first | (simp [tc_matched, hk]; done) | (simp only [tc_matched, hk, eq_self, not_true_eq_false, not_false_eq_true, and_self, and_true, true_and, and_false, false_and, or_true, true_or, or_false, false_or, if_true, if_false, ite_true, ite_false, Bool.and_eq_true, decide_true, decide_false, decide_eq_true_eq, ne_eq, Nat.reduceEqDiff, Nat.one_ne_zero, Bool.false_eq_true, reduceCtorEq]; done) | (simp only [tc_matched, hk, eq_self, not_true_eq_false, not_false_eq_true, and_self, and_true, true_and, and_false, false_and, or_true, true_or, or_false, false_or, if_true, if_false, ite_true, ite_false, Bool.and_eq_true, decide_true, decide_false, decide_eq_true_eq, ne_eq, Nat.reduceEqDiff, Nat.one_ne_zero, Bool.false_eq_true, reduceCtorEq]; decide)) (hO.tr hO1) hce hcv hcl (fun _ h => nomatch h) (Nat.le_of_ble_eq_true rfl) (Nat.le_of_ble_eq_true rfl)
  · -- goes on
    obtain ⟨rfl, hv_1⟩ := hv9
    have hP := hO1.P hP
    have hS := hO1.S hS
    have hO := hO.tr hO1
    refine W.eq (g2 := F0 m 4 ls []) rfl ?_
    refine lv_iload_n hx hb dX0_matched_4 rfl (lv_at hl 2 rfl) ?_
    refine kz_rS (As := [.int p1]) (rest := []) ⟨hx, hb, hml, hown, hw9⟩ (c_X0_requireNumber l hl9 D ((cI, .int) :: (cZ, .boolean) :: ty) (wX ad cI cZ it o n g v r nx mt fl pr ofs ak hd an ++ rs) H.size p1) (kz_cS 1 hw9 mw_266 mw_267 mw_1 mw_268 rfl rfl (by decide +kernel) ⟨Nat.le_of_ble_eq_true rfl, Nat.le_of_ble_eq_true rfl⟩) (kz_preS hK hP hD hS hA hE) rfl hl.1 rfl (Nat.le_of_ble_eq_true rfl) dX0_matched_5 ⟨Nat.le_of_ble_eq_true rfl, Nat.le_of_ble_eq_true rfl⟩ (fun k ce q9 H1 hk hO1 hce hcv hcl => ?_) (fun v9 H hv9 hO1 => ?_)
    · -- thrown
      exact kz_out (k := 2) hTab hlocks (by first | (simp [tc_matched, hv_1, hk]; done) | (simp only [tc_matched, hv_1, hk, eq_self, not_true_eq_false, not_false_eq_true, and_self, and_true, true_and, and_false, false_and, or_true, true_or, or_false, false_or, if_true, if_false, ite_true, ite_false, Bool.and_eq_true, decide_true, decide_false, decide_eq_true_eq, ne_eq, Nat.reduceEqDiff, Nat.one_ne_zero, Bool.false_eq_true, reduceCtorEq]; done) | (simp only [tc_matched, hv_1, hk, eq_self, not_true_eq_false, not_false_eq_true, and_self, and_true, true_and, and_false, false_and, or_true, true_or, or_false, false_or, if_true, if_false, ite_true, ite_false, Bool.and_eq_true, decide_true, decide_false, decide_eq_true_eq, ne_eq, Nat.reduceEqDiff, Nat.one_ne_zero, Bool.false_eq_true, reduceCtorEq]; decide)) (hO.tr hO1) hce hcv hcl (fun _ h => nomatch h) (Nat.le_of_ble_eq_true rfl) (Nat.le_of_ble_eq_true rfl)
    · -- goes on
      obtain ⟨rfl, hv_2⟩ := hv9
      have hP := hO1.P hP
      have hS := hO1.S hS
      have hO := hO.tr hO1
      refine W.eq (g2 := F0 m 8 ls []) rfl ?_
      refine lv_iload_n hx hb dX0_matched_8 rfl (lv_at hl 3 rfl) ?_
      refine kz_rS (As := [.int p2]) (rest := []) ⟨hx, hb, hml, hown, hw9⟩ (c_X0_requireNumber l hl9 D ((cI, .int) :: (cZ, .boolean) :: ty) (wX ad cI cZ it o n g v r nx mt fl pr ofs ak hd an ++ rs) H.size p2) (kz_cS 1 hw9 mw_266 mw_267 mw_1 mw_268 rfl rfl (by decide +kernel) ⟨Nat.le_of_ble_eq_true rfl, Nat.le_of_ble_eq_true rfl⟩) (kz_preS hK hP hD hS hA hE) rfl hl.1 rfl (Nat.le_of_ble_eq_true rfl) dX0_matched_9 ⟨Nat.le_of_ble_eq_true rfl, Nat.le_of_ble_eq_true rfl⟩ (fun k ce q9 H1 hk hO1 hce hcv hcl => ?_) (fun v9 H hv9 hO1 => ?_)
      · -- thrown
        exact kz_out (k := 2) hTab hlocks (by first | (simp [tc_matched, hv_1, hv_2, hk]; done) | (simp only [tc_matched, hv_1, hv_2, hk, eq_self, not_true_eq_false, not_false_eq_true, and_self, and_true, true_and, and_false, false_and, or_true, true_or, or_false, false_or, if_true, if_false, ite_true, ite_false, Bool.and_eq_true, decide_true, decide_false, decide_eq_true_eq, ne_eq, Nat.reduceEqDiff, Nat.one_ne_zero, Bool.false_eq_true, reduceCtorEq]; done) | (simp only [tc_matched, hv_1, hv_2, hk, eq_self, not_true_eq_false, not_false_eq_true, and_self, and_true, true_and, and_false, false_and, or_true, true_or, or_false, false_or, if_true, if_false, ite_true, ite_false, Bool.and_eq_true, decide_true, decide_false, decide_eq_true_eq, ne_eq, Nat.reduceEqDiff, Nat.one_ne_zero, Bool.false_eq_true, reduceCtorEq]; decide)) (hO.tr hO1) hce hcv hcl (fun _ h => nomatch h) (Nat.le_of_ble_eq_true rfl) (Nat.le_of_ble_eq_true rfl)
      · -- goes on
        obtain ⟨rfl, hv_3⟩ := hv9
        have hP := hO1.P hP
        have hS := hO1.S hS
        have hO := hO.tr hO1
        refine W.eq (g2 := F0 m 12 ls []) rfl ?_
        refine lv_iload hx hb dX0_matched_12 (lv_at hl 4 rfl) ?_
        refine kz_rS (As := [.int p3]) (rest := []) ⟨hx, hb, hml, hown, hw9⟩ (c_X0_requireNumber l hl9 D ((cI, .int) :: (cZ, .boolean) :: ty) (wX ad cI cZ it o n g v r nx mt fl pr ofs ak hd an ++ rs) H.size p3) (kz_cS 1 hw9 mw_266 mw_267 mw_1 mw_268 rfl rfl (by decide +kernel) ⟨Nat.le_of_ble_eq_true rfl, Nat.le_of_ble_eq_true rfl⟩) (kz_preS hK hP hD hS hA hE) rfl hl.1 rfl (Nat.le_of_ble_eq_true rfl) dX0_matched_14 ⟨Nat.le_of_ble_eq_true rfl, Nat.le_of_ble_eq_true rfl⟩ (fun k ce q9 H1 hk hO1 hce hcv hcl => ?_) (fun v9 H hv9 hO1 => ?_)
        · -- thrown
          exact kz_out (k := 2) hTab hlocks (by first | (simp [tc_matched, hv_1, hv_2, hv_3, hk]; done) | (simp only [tc_matched, hv_1, hv_2, hv_3, hk, eq_self, not_true_eq_false, not_false_eq_true, and_self, and_true, true_and, and_false, false_and, or_true, true_or, or_false, false_or, if_true, if_false, ite_true, ite_false, Bool.and_eq_true, decide_true, decide_false, decide_eq_true_eq, ne_eq, Nat.reduceEqDiff, Nat.one_ne_zero, Bool.false_eq_true, reduceCtorEq]; done) | (simp only [tc_matched, hv_1, hv_2, hv_3, hk, eq_self, not_true_eq_false, not_false_eq_true, and_self, and_true, true_and, and_false, false_and, or_true, true_or, or_false, false_or, if_true, if_false, ite_true, ite_false, Bool.and_eq_true, decide_true, decide_false, decide_eq_true_eq, ne_eq, Nat.reduceEqDiff, Nat.one_ne_zero, Bool.false_eq_true, reduceCtorEq]; decide)) (hO.tr hO1) hce hcv hcl (fun _ h => nomatch h) (Nat.le_of_ble_eq_true rfl) (Nat.le_of_ble_eq_true rfl)
        · -- goes on
          obtain ⟨rfl, hv_4⟩ := hv9
          have hP := hO1.P hP
          have hS := hO1.S hS
          have hO := hO.tr hO1
          refine W.eq (g2 := F0 m 17 ls []) rfl ?_
          refine lv_aload_n hx hb dX0_matched_17 rfl (lv_at hl 0 rfl) ?_
          refine lv_iload_n hx hb dX0_matched_18 rfl (lv_at hl 1 rfl) ?_
          refine lv_iload_n hx hb dX0_matched_19 rfl (lv_at hl 3 rfl) ?_
          refine lv_iload hx hb dX0_matched_20 (lv_at hl 4 rfl) ?_
          refine kz_wV (As := [.int p0, .int p2, .int p3]) (rest := []) ⟨hx, hb, hml, hown, hw9⟩ (c_X0_hear l hl9 D cI cZ ty ad rs H.size it o n g v r nx mt fl pr ofs ak hd an p0 p2 p3 (sq_V_in hv_1)) (kz_cV 3 hw9 mw_306 mw_308 ms_9 mw_1 mw_309 rfl rfl (by decide +kernel) ⟨Nat.le_of_ble_eq_true rfl, Nat.le_of_ble_eq_true rfl⟩) (kz_preV (q0 := 0) (ci := 0) hK hP hD hS hA hE rfl rfl) rfl hl.1 rfl (Nat.le_of_ble_eq_true rfl) dX0_matched_22 ⟨Nat.le_of_ble_eq_true rfl, Nat.le_of_ble_eq_true rfl⟩ hD hS hA (fun _ _ _ _ _ _ h => False.elim h) (fun v9 H locs hv9 hP hD hS => ?_)
          obtain ⟨rfl, -⟩ := hv9
          have hP : va_P D vwCl (wX ad cI cZ it o n g v r nx mt fl pr ofs (upd ak p0.toNatClampNeg (sq_max (ak p0.toNatClampNeg) p2)) (upd hd p0.toNatClampNeg p3) (upd an p0.toNatClampNeg 1) ++ rs) H := hP
          have hD : va_D A (wX ad cI cZ it o n g v r nx mt fl pr ofs (upd ak p0.toNatClampNeg (sq_max (ak p0.toNatClampNeg) p2)) (upd hd p0.toNatClampNeg p3) (upd an p0.toNatClampNeg 1) ++ rs) := hD
          refine W.eq (g2 := F0 m 25 ls []) rfl ?_
          refine lv_aload_n hx hb dX0_matched_25 rfl (lv_at hl 0 rfl) ?_
          refine va_get (D := D) (ci := 0) (v := .ref (ad 2)) (C := RX0) (T := TX0) (N := 14) hx hb hw9 uX0 hown hK hP 0 rfl rfl 7 (by decide) (hw9 _ mw_26) (fun _ h9 => h9) rfl dX0_matched_26 ?_
          refine lv_iload_n hx hb dX0_matched_29 rfl (lv_at hl 1 rfl) ?_
          refine lv_aload_n hx hb dX0_matched_30 rfl (lv_at hl 0 rfl) ?_
          refine va_get (D := D) (ci := 0) (v := .ref (ad 2)) (C := RX0) (T := TX0) (N := 14) hx hb hw9 uX0 hown hK hP 0 rfl rfl 7 (by decide) (hw9 _ mw_26) (fun _ h9 => h9) rfl dX0_matched_31 ?_
          refine lv_iload_n hx hb dX0_matched_34 rfl (lv_at hl 1 rfl) ?_
          refine va_iald hx hb hK hP 2 0 rfl rfl (sq_V_in hv_1) dX0_matched_35 ?_
          refine lv_iload_n hx hb dX0_matched_36 rfl (lv_at hl 2 rfl) ?_
          refine va_mmax hx hb (by rw [hml]; exact hl.1.symm) hown (hw9 _ mw_310) (hw9 _ mw_311) (hw9 _ mw_10) (hw9 _ mw_312) (Nat.le_of_ble_eq_true rfl) (Nat.le_of_ble_eq_true rfl) (Nat.le_of_ble_eq_true rfl) (Nat.le_of_ble_eq_true rfl) dX0_matched_37 ?_
          refine W.eq (g2 := F0 m 40 ls [.int (sq_max (mt p0.toNatClampNeg) p1), .int p0, .ref (ad 2)]) rfl ?_
          refine va_iast hx hb hK hP hD hS 2 0 rfl rfl (sq_V_in hv_1) dX0_matched_40 (fun H locs hP hD hS => ?_)
          have hP : va_P D vwCl (wX ad cI cZ it o n g v r nx (upd mt p0.toNatClampNeg (sq_max (mt p0.toNatClampNeg) p1)) fl pr ofs (upd ak p0.toNatClampNeg (sq_max (ak p0.toNatClampNeg) p2)) (upd hd p0.toNatClampNeg p3) (upd an p0.toNatClampNeg 1) ++ rs) H := hP
          have hD : va_D A (wX ad cI cZ it o n g v r nx (upd mt p0.toNatClampNeg (sq_max (mt p0.toNatClampNeg) p1)) fl pr ofs (upd ak p0.toNatClampNeg (sq_max (ak p0.toNatClampNeg) p2)) (upd hd p0.toNatClampNeg p3) (upd an p0.toNatClampNeg 1) ++ rs) := hD
          refine lv_aload_n hx hb dX0_matched_41 rfl (lv_at hl 0 rfl) ?_
          refine va_get (D := D) (ci := 0) (v := .ref (ad 4)) (C := RX0) (T := TX0) (N := 14) hx hb hw9 uX0 hown hK hP 0 rfl rfl 9 (by decide) (hw9 _ mw_28) (fun _ h9 => h9) rfl dX0_matched_42 ?_
          refine lv_iload_n hx hb dX0_matched_45 rfl (lv_at hl 1 rfl) ?_
          refine lv_iconst (v := 0) hx hb dX0_matched_46 (by decide) ?_
          refine va_zast hx hb hK hP hD hS 4 1 rfl rfl (sq_V_in hv_1) dX0_matched_47 (fun H locs hP hD hS => ?_)
          have hP : va_P D vwCl (wX ad cI cZ it o n g v r nx (upd mt p0.toNatClampNeg (sq_max (mt p0.toNatClampNeg) p1)) fl (upd pr p0.toNatClampNeg 0) ofs (upd ak p0.toNatClampNeg (sq_max (ak p0.toNatClampNeg) p2)) (upd hd p0.toNatClampNeg p3) (upd an p0.toNatClampNeg 1) ++ rs) H := hP
          have hD : va_D A (wX ad cI cZ it o n g v r nx (upd mt p0.toNatClampNeg (sq_max (mt p0.toNatClampNeg) p1)) fl (upd pr p0.toNatClampNeg 0) ofs (upd ak p0.toNatClampNeg (sq_max (ak p0.toNatClampNeg) p2)) (upd hd p0.toNatClampNeg p3) (upd an p0.toNatClampNeg 1) ++ rs) := hD
          refine lv_aload_n hx hb dX0_matched_48 rfl (lv_at hl 0 rfl) ?_
          refine va_get (D := D) (ci := 0) (v := .ref (ad 3)) (C := RX0) (T := TX0) (N := 14) hx hb hw9 uX0 hown hK hP 0 rfl rfl 8 (by decide) (hw9 _ mw_27) (fun _ h9 => h9) rfl dX0_matched_49 ?_
          refine lv_iload_n hx hb dX0_matched_52 rfl (lv_at hl 1 rfl) ?_
          refine lv_aload_n hx hb dX0_matched_53 rfl (lv_at hl 0 rfl) ?_
          refine va_get (D := D) (ci := 0) (v := .ref (ad 3)) (C := RX0) (T := TX0) (N := 14) hx hb hw9 uX0 hown hK hP 0 rfl rfl 8 (by decide) (hw9 _ mw_27) (fun _ h9 => h9) rfl dX0_matched_54 ?_
          refine lv_iload_n hx hb dX0_matched_57 rfl (lv_at hl 1 rfl) ?_
          refine va_iald hx hb hK hP 3 0 rfl rfl (sq_V_in hv_1) dX0_matched_58 ?_
          refine lv_iconst (v := 1) hx hb dX0_matched_59 (by decide) ?_
          refine lv_isub hx hb dX0_matched_60 ?_
          refine lv_iconst (v := 0) hx hb dX0_matched_61 (by decide) ?_
          refine va_mmax hx hb (by rw [hml]; exact hl.1.symm) hown (hw9 _ mw_310) (hw9 _ mw_311) (hw9 _ mw_10) (hw9 _ mw_312) (Nat.le_of_ble_eq_true rfl) (Nat.le_of_ble_eq_true rfl) (Nat.le_of_ble_eq_true rfl) (Nat.le_of_ble_eq_true rfl) dX0_matched_62 ?_
          refine W.eq (g2 := F0 m 65 ls [.int (sq_max ((fl p0.toNatClampNeg) - 1) 0), .int p0, .ref (ad 3)]) rfl ?_
          refine va_iast hx hb hK hP hD hS 3 0 rfl rfl (sq_V_in hv_1) dX0_matched_65 (fun H locs hP hD hS => ?_)
          have hP : va_P D vwCl (wX ad cI cZ it o n g v r nx (upd mt p0.toNatClampNeg (sq_max (mt p0.toNatClampNeg) p1)) (upd fl p0.toNatClampNeg (sq_max ((fl p0.toNatClampNeg) - 1) 0)) (upd pr p0.toNatClampNeg 0) ofs (upd ak p0.toNatClampNeg (sq_max (ak p0.toNatClampNeg) p2)) (upd hd p0.toNatClampNeg p3) (upd an p0.toNatClampNeg 1) ++ rs) H := hP
          have hD : va_D A (wX ad cI cZ it o n g v r nx (upd mt p0.toNatClampNeg (sq_max (mt p0.toNatClampNeg) p1)) (upd fl p0.toNatClampNeg (sq_max ((fl p0.toNatClampNeg) - 1) 0)) (upd pr p0.toNatClampNeg 0) ofs (upd ak p0.toNatClampNeg (sq_max (ak p0.toNatClampNeg) p2)) (upd hd p0.toNatClampNeg p3) (upd an p0.toNatClampNeg 1) ++ rs) := hD
          refine lv_aload_n hx hb dX0_matched_66 rfl (lv_at hl 0 rfl) ?_
          refine va_get (D := D) (ci := 0) (v := .ref (ad 1)) (C := RX0) (T := TX0) (N := 14) hx hb hw9 uX0 hown hK hP 0 rfl rfl 6 (by decide) (hw9 _ mw_25) (fun _ h9 => h9) rfl dX0_matched_67 ?_
          refine lv_iload_n hx hb dX0_matched_70 rfl (lv_at hl 1 rfl) ?_
          refine lv_aload_n hx hb dX0_matched_71 rfl (lv_at hl 0 rfl) ?_
          refine va_get (D := D) (ci := 0) (v := .ref (ad 1)) (C := RX0) (T := TX0) (N := 14) hx hb hw9 uX0 hown hK hP 0 rfl rfl 6 (by decide) (hw9 _ mw_25) (fun _ h9 => h9) rfl dX0_matched_72 ?_
          refine lv_iload_n hx hb dX0_matched_75 rfl (lv_at hl 1 rfl) ?_
          refine va_iald hx hb hK hP 1 0 rfl rfl (sq_V_in hv_1) dX0_matched_76 ?_
          refine lv_iload_n hx hb dX0_matched_77 rfl (lv_at hl 2 rfl) ?_
          refine lv_iconst (v := 1) hx hb dX0_matched_78 (by decide) ?_
          refine lv_iadd hx hb dX0_matched_79 ?_
          refine va_mmax hx hb (by rw [hml]; exact hl.1.symm) hown (hw9 _ mw_310) (hw9 _ mw_311) (hw9 _ mw_10) (hw9 _ mw_312) (Nat.le_of_ble_eq_true rfl) (Nat.le_of_ble_eq_true rfl) (Nat.le_of_ble_eq_true rfl) (Nat.le_of_ble_eq_true rfl) dX0_matched_80 ?_
          refine W.eq (g2 := F0 m 83 ls [.int (sq_max (nx p0.toNatClampNeg) (p1 + 1)), .int p0, .ref (ad 1)]) rfl ?_
          refine va_iast hx hb hK hP hD hS 1 0 rfl rfl (sq_V_in hv_1) dX0_matched_83 (fun H locs hP hD hS => ?_)
          have hP : va_P D vwCl (wX ad cI cZ it o n g v r (upd nx p0.toNatClampNeg (sq_max (nx p0.toNatClampNeg) (p1 + 1))) (upd mt p0.toNatClampNeg (sq_max (mt p0.toNatClampNeg) p1)) (upd fl p0.toNatClampNeg (sq_max ((fl p0.toNatClampNeg) - 1) 0)) (upd pr p0.toNatClampNeg 0) ofs (upd ak p0.toNatClampNeg (sq_max (ak p0.toNatClampNeg) p2)) (upd hd p0.toNatClampNeg p3) (upd an p0.toNatClampNeg 1) ++ rs) H := hP
          have hD : va_D A (wX ad cI cZ it o n g v r (upd nx p0.toNatClampNeg (sq_max (nx p0.toNatClampNeg) (p1 + 1))) (upd mt p0.toNatClampNeg (sq_max (mt p0.toNatClampNeg) p1)) (upd fl p0.toNatClampNeg (sq_max ((fl p0.toNatClampNeg) - 1) 0)) (upd pr p0.toNatClampNeg 0) ofs (upd ak p0.toNatClampNeg (sq_max (ak p0.toNatClampNeg) p2)) (upd hd p0.toNatClampNeg p3) (upd an p0.toNatClampNeg 1) ++ rs) := hD
          refine lv_aload_n hx hb dX0_matched_84 rfl (lv_at hl 0 rfl) ?_
          refine va_get (D := D) (ci := 0) (v := .ref (ad 2)) (C := RX0) (T := TX0) (N := 14) hx hb hw9 uX0 hown hK hP 0 rfl rfl 7 (by decide) (hw9 _ mw_26) (fun _ h9 => h9) rfl dX0_matched_85 ?_
          refine lv_iload_n hx hb dX0_matched_88 rfl (lv_at hl 1 rfl) ?_
          refine va_iald hx hb hK hP 2 0 rfl rfl (sq_V_in hv_1) dX0_matched_89 ?_
          exact kz_wreti hx hb hr hlocks hP hD hS (Nat.le_of_ble_eq_true rfl) (Nat.le_of_ble_eq_true rfl) (⟨by first | (simp [tc_matched, hv_1, hv_2, hv_3, hv_4]; done) | (simp only [tc_matched, hv_1, hv_2, hv_3, hv_4, eq_self, not_true_eq_false, not_false_eq_true, and_self, and_true, true_and, and_false, false_and, or_true, true_or, or_false, false_or, if_true, if_false, ite_true, ite_false, Bool.and_eq_true, decide_true, decide_false, decide_eq_true_eq, ne_eq, Nat.reduceEqDiff, Nat.one_ne_zero, Bool.false_eq_true, reduceCtorEq]; done) | (simp only [tc_matched, hv_1, hv_2, hv_3, hv_4, eq_self, not_true_eq_false, not_false_eq_true, and_self, and_true, true_and, and_false, false_and, or_true, true_or, or_false, false_or, if_true, if_false, ite_true, ite_false, Bool.and_eq_true, decide_true, decide_false, decide_eq_true_eq, ne_eq, Nat.reduceEqDiff, Nat.one_ne_zero, Bool.false_eq_true, reduceCtorEq]; decide), pk_us⟩)  dX0_matched_90
set_option maxHeartbeats 4000000 in
set_option maxRecDepth 100000 in
theorem c_X0_refused (l : Launch) (hl9 : l.stackTraces = false) (D : va_G) (cI cZ : ClassId) (ty : kz_Y) (ad : Nat → Nat) (rs : va_W) (sz : Nat) (it o n g v r : Int32) (nx mt fl pr ofs ak hd an : Nat → Int32) (p0 : Int32) (p1 : Int32) (p2 : Int32) (p3 : Int32) (p4 : Int32) : ez_M l yX0_refused wsX0_refused ({ frames := 7, cells := 1, slots := 6, locals := 110 } : Room) (kz_P D ((cI, .int) :: (cZ, .boolean) :: ty) (wX ad cI cZ it o n g v r nx mt fl pr ofs ak hd an ++ rs) sz [.ref (ad 0), .int p0, .int p1, .int p2, .int p3, .int p4]) (kz_Wr D (va_A (wX ad cI cZ it o n g v r nx mt fl pr ofs ak hd an ++ rs) sz) (kz_i (fun r9 => (tc_refused p0 p1 p2 p3 p4 = 0) ∧ r9 = (sq_min (sq_max p1 (mt p0.toNatClampNeg + 1)) (p2 + 1)))) (wX ad cI cZ it o n g v r (upd nx p0.toNatClampNeg (sq_min (sq_max p1 (mt p0.toNatClampNeg + 1)) (p2 + 1))) mt (upd fl p0.toNatClampNeg 0) (upd pr p0.toNatClampNeg 1) ofs (upd ak p0.toNatClampNeg (sq_max (ak p0.toNatClampNeg) p3)) (upd hd p0.toNatClampNeg p4) (upd an p0.toNatClampNeg 1) ++ rs)) (kz_T (fun k => match k with | 1 => IOE | _ => IAE) (fun k => k = tc_refused p0 p1 p2 p3 p4 ∧ ¬ k = 0)) 0 0 (va_A (wX ad cI cZ it o n g v r nx mt fl pr ofs ak hd an ++ rs) sz) := by
  refine ez_ofW (cc := cX0_refused) (maxL := 6) (ret := (some .int)) (by decide) rfl ?_
  intro p e s m args below meth c s₁ B hml hTab hv
  obtain ⟨rfl, hsz, hP, hK, hD0, hE⟩ := hv
  have hx := B.exec
  have hb := B.bytes
  have hr := B.returns
  have hw9 : ∀ w ∈ kz_W9, w.before ([.ref (ad 0), .int p0, .int p1, .int p2, .int p3, .int p4] : List Value).toArray s = true := fun w h => atoms_spec (ws := wsX0_refused) B.pre w (List.mem_cons_of_mem _ h)
  have hown : s.vm.findClass RX0 = some m.cls := findClass_of_methodNamed B.named
  have hlocks := B.notSynchronized
  subst hsz
  have hD := hD0.self (sz := s.heap.size)
  generalize hAe : va_A (wX ad cI cZ it o n g v r nx mt fl pr ofs ak hd an ++ rs) s.heap.size = A at hD hE ⊢
  have hA : ∀ q : Nat, s.heap.size ≤ q → A q := fun q h => by rw [← hAe]; exact Or.inr h
  have hS : va_S A s.heap s.heap [] := va_S.rf
  have hO : kz_O s.heap s.heap := kz_O.rf _
  have hl := lv_entry ([.ref (ad 0), .int p0, .int p1, .int p2, .int p3, .int p4]) (n := 6) (Nat.le_of_ble_eq_true rfl)
  rw [lg_entry_eq]
  generalize (lg_sl ([.ref (ad 0), .int p0, .int p1, .int p2, .int p3, .int p4]) ++ List.replicate (6 - (lg_sl ([.ref (ad 0), .int p0, .int p1, .int p2, .int p3, .int p4])).length) Slot.unset).toArray = ls at hl ⊢
  have hl : lv_has ls 6 [(0, .ref (ad 0)), (1, .int p0), (2, .int p1), (3, .int p2), (4, .int p3), (5, .int p4)] := hl
  refine lv_iload_n hx hb dX0_refused_0 rfl (lv_at hl 1 rfl) ?_
  refine kz_rS (As := [.int p0]) (rest := []) ⟨hx, hb, hml, hown, hw9⟩ (c_X0_requireServer l hl9 D ((cI, .int) :: (cZ, .boolean) :: ty) (wX ad cI cZ it o n g v r nx mt fl pr ofs ak hd an ++ rs) s.heap.size p0) (kz_cS 1 hw9 mw_240 mw_241 mw_1 mw_242 rfl rfl (by decide +kernel) ⟨Nat.le_of_ble_eq_true rfl, Nat.le_of_ble_eq_true rfl⟩) (kz_preS hK hP hD hS hA hE) rfl hl.1 rfl (Nat.le_of_ble_eq_true rfl) dX0_refused_1 ⟨Nat.le_of_ble_eq_true rfl, Nat.le_of_ble_eq_true rfl⟩ (fun k ce q9 H1 hk hO1 hce hcv hcl => ?_) (fun v9 H hv9 hO1 => ?_)
  · -- thrown
    exact kz_out (k := 1) hTab hlocks (by first | (simp [tc_refused, hk]; done) | (simp only [tc_refused, hk, eq_self, not_true_eq_false, not_false_eq_true, and_self, and_true, true_and, and_false, false_and, or_true, true_or, or_false, false_or, if_true, if_false, ite_true, ite_false, Bool.and_eq_true, decide_true, decide_false, decide_eq_true_eq, ne_eq, Nat.reduceEqDiff, Nat.one_ne_zero, Bool.false_eq_true, reduceCtorEq]; done) | (simp only [tc_refused, hk, eq_self, not_true_eq_false, not_false_eq_true, and_self, and_true, true_and, and_false, false_and, or_true, true_or, or_false, false_or, if_true, if_false, ite_true, ite_false, Bool.and_eq_true, decide_true, decide_false, decide_eq_true_eq, ne_eq, Nat.reduceEqDiff, Nat.one_ne_zero, Bool.false_eq_true, reduceCtorEq]; decide)) (hO.tr hO1) hce hcv hcl (fun _ h => nomatch h) (Nat.le_of_ble_eq_true rfl) (Nat.le_of_ble_eq_true rfl)
  · -- goes on
    obtain ⟨rfl, hv_1⟩ := hv9
    have hP := hO1.P hP
    have hS := hO1.S hS
    have hO := hO.tr hO1
    refine W.eq (g2 := F0 m 4 ls []) rfl ?_
    refine lv_iload_n hx hb dX0_refused_4 rfl (lv_at hl 2 rfl) ?_
    refine kz_rS (As := [.int p1]) (rest := []) ⟨hx, hb, hml, hown, hw9⟩ (c_X0_requireNumber l hl9 D ((cI, .int) :: (cZ, .boolean) :: ty) (wX ad cI cZ it o n g v r nx mt fl pr ofs ak hd an ++ rs) H.size p1) (kz_cS 1 hw9 mw_266 mw_267 mw_1 mw_268 rfl rfl (by decide +kernel) ⟨Nat.le_of_ble_eq_true rfl, Nat.le_of_ble_eq_true rfl⟩) (kz_preS hK hP hD hS hA hE) rfl hl.1 rfl (Nat.le_of_ble_eq_true rfl) dX0_refused_5 ⟨Nat.le_of_ble_eq_true rfl, Nat.le_of_ble_eq_true rfl⟩ (fun k ce q9 H1 hk hO1 hce hcv hcl => ?_) (fun v9 H hv9 hO1 => ?_)
    · -- thrown
      exact kz_out (k := 2) hTab hlocks (by first | (simp [tc_refused, hv_1, hk]; done) | (simp only [tc_refused, hv_1, hk, eq_self, not_true_eq_false, not_false_eq_true, and_self, and_true, true_and, and_false, false_and, or_true, true_or, or_false, false_or, if_true, if_false, ite_true, ite_false, Bool.and_eq_true, decide_true, decide_false, decide_eq_true_eq, ne_eq, Nat.reduceEqDiff, Nat.one_ne_zero, Bool.false_eq_true, reduceCtorEq]; done) | (simp only [tc_refused, hv_1, hk, eq_self, not_true_eq_false, not_false_eq_true, and_self, and_true, true_and, and_false, false_and, or_true, true_or, or_false, false_or, if_true, if_false, ite_true, ite_false, Bool.and_eq_true, decide_true, decide_false, decide_eq_true_eq, ne_eq, Nat.reduceEqDiff, Nat.one_ne_zero, Bool.false_eq_true, reduceCtorEq]; decide)) (hO.tr hO1) hce hcv hcl (fun _ h => nomatch h) (Nat.le_of_ble_eq_true rfl) (Nat.le_of_ble_eq_true rfl)
    · -- goes on
      obtain ⟨rfl, hv_2⟩ := hv9
      have hP := hO1.P hP
      have hS := hO1.S hS
      have hO := hO.tr hO1
      refine W.eq (g2 := F0 m 8 ls []) rfl ?_
      refine lv_iload_n hx hb dX0_refused_8 rfl (lv_at hl 3 rfl) ?_
      refine kz_rS (As := [.int p2]) (rest := []) ⟨hx, hb, hml, hown, hw9⟩ (c_X0_requireNumber l hl9 D ((cI, .int) :: (cZ, .boolean) :: ty) (wX ad cI cZ it o n g v r nx mt fl pr ofs ak hd an ++ rs) H.size p2) (kz_cS 1 hw9 mw_266 mw_267 mw_1 mw_268 rfl rfl (by decide +kernel) ⟨Nat.le_of_ble_eq_true rfl, Nat.le_of_ble_eq_true rfl⟩) (kz_preS hK hP hD hS hA hE) rfl hl.1 rfl (Nat.le_of_ble_eq_true rfl) dX0_refused_9 ⟨Nat.le_of_ble_eq_true rfl, Nat.le_of_ble_eq_true rfl⟩ (fun k ce q9 H1 hk hO1 hce hcv hcl => ?_) (fun v9 H hv9 hO1 => ?_)
      · -- thrown
        exact kz_out (k := 2) hTab hlocks (by first | (simp [tc_refused, hv_1, hv_2, hk]; done) | (simp only [tc_refused, hv_1, hv_2, hk, eq_self, not_true_eq_false, not_false_eq_true, and_self, and_true, true_and, and_false, false_and, or_true, true_or, or_false, false_or, if_true, if_false, ite_true, ite_false, Bool.and_eq_true, decide_true, decide_false, decide_eq_true_eq, ne_eq, Nat.reduceEqDiff, Nat.one_ne_zero, Bool.false_eq_true, reduceCtorEq]; done) | (simp only [tc_refused, hv_1, hv_2, hk, eq_self, not_true_eq_false, not_false_eq_true, and_self, and_true, true_and, and_false, false_and, or_true, true_or, or_false, false_or, if_true, if_false, ite_true, ite_false, Bool.and_eq_true, decide_true, decide_false, decide_eq_true_eq, ne_eq, Nat.reduceEqDiff, Nat.one_ne_zero, Bool.false_eq_true, reduceCtorEq]; decide)) (hO.tr hO1) hce hcv hcl (fun _ h => nomatch h) (Nat.le_of_ble_eq_true rfl) (Nat.le_of_ble_eq_true rfl)
      · -- goes on
        obtain ⟨rfl, hv_3⟩ := hv9
        have hP := hO1.P hP
        have hS := hO1.S hS
        have hO := hO.tr hO1
        refine W.eq (g2 := F0 m 12 ls []) rfl ?_
        refine lv_iload hx hb dX0_refused_12 (lv_at hl 4 rfl) ?_
        refine kz_rS (As := [.int p3]) (rest := []) ⟨hx, hb, hml, hown, hw9⟩ (c_X0_requireNumber l hl9 D ((cI, .int) :: (cZ, .boolean) :: ty) (wX ad cI cZ it o n g v r nx mt fl pr ofs ak hd an ++ rs) H.size p3) (kz_cS 1 hw9 mw_266 mw_267 mw_1 mw_268 rfl rfl (by decide +kernel) ⟨Nat.le_of_ble_eq_true rfl, Nat.le_of_ble_eq_true rfl⟩) (kz_preS hK hP hD hS hA hE) rfl hl.1 rfl (Nat.le_of_ble_eq_true rfl) dX0_refused_14 ⟨Nat.le_of_ble_eq_true rfl, Nat.le_of_ble_eq_true rfl⟩ (fun k ce q9 H1 hk hO1 hce hcv hcl => ?_) (fun v9 H hv9 hO1 => ?_)
        · -- thrown
          exact kz_out (k := 2) hTab hlocks (by first | (simp [tc_refused, hv_1, hv_2, hv_3, hk]; done) | (simp only [tc_refused, hv_1, hv_2, hv_3, hk, eq_self, not_true_eq_false, not_false_eq_true, and_self, and_true, true_and, and_false, false_and, or_true, true_or, or_false, false_or, if_true, if_false, ite_true, ite_false, Bool.and_eq_true, decide_true, decide_false, decide_eq_true_eq, ne_eq, Nat.reduceEqDiff, Nat.one_ne_zero, Bool.false_eq_true, reduceCtorEq]; done) | (simp only [tc_refused, hv_1, hv_2, hv_3, hk, eq_self, not_true_eq_false, not_false_eq_true, and_self, and_true, true_and, and_false, false_and, or_true, true_or, or_false, false_or, if_true, if_false, ite_true, ite_false, Bool.and_eq_true, decide_true, decide_false, decide_eq_true_eq, ne_eq, Nat.reduceEqDiff, Nat.one_ne_zero, Bool.false_eq_true, reduceCtorEq]; decide)) (hO.tr hO1) hce hcv hcl (fun _ h => nomatch h) (Nat.le_of_ble_eq_true rfl) (Nat.le_of_ble_eq_true rfl)
        · -- goes on
          obtain ⟨rfl, hv_4⟩ := hv9
          have hP := hO1.P hP
          have hS := hO1.S hS
          have hO := hO.tr hO1
          refine W.eq (g2 := F0 m 17 ls []) rfl ?_
          refine lv_iload hx hb dX0_refused_17 (lv_at hl 5 rfl) ?_
          refine kz_rS (As := [.int p4]) (rest := []) ⟨hx, hb, hml, hown, hw9⟩ (c_X0_requireNumber l hl9 D ((cI, .int) :: (cZ, .boolean) :: ty) (wX ad cI cZ it o n g v r nx mt fl pr ofs ak hd an ++ rs) H.size p4) (kz_cS 1 hw9 mw_266 mw_267 mw_1 mw_268 rfl rfl (by decide +kernel) ⟨Nat.le_of_ble_eq_true rfl, Nat.le_of_ble_eq_true rfl⟩) (kz_preS hK hP hD hS hA hE) rfl hl.1 rfl (Nat.le_of_ble_eq_true rfl) dX0_refused_19 ⟨Nat.le_of_ble_eq_true rfl, Nat.le_of_ble_eq_true rfl⟩ (fun k ce q9 H1 hk hO1 hce hcv hcl => ?_) (fun v9 H hv9 hO1 => ?_)
          · -- thrown
            exact kz_out (k := 2) hTab hlocks (by first | (simp [tc_refused, hv_1, hv_2, hv_3, hv_4, hk]; done) | (simp only [tc_refused, hv_1, hv_2, hv_3, hv_4, hk, eq_self, not_true_eq_false, not_false_eq_true, and_self, and_true, true_and, and_false, false_and, or_true, true_or, or_false, false_or, if_true, if_false, ite_true, ite_false, Bool.and_eq_true, decide_true, decide_false, decide_eq_true_eq, ne_eq, Nat.reduceEqDiff, Nat.one_ne_zero, Bool.false_eq_true, reduceCtorEq]; done) | (simp only [tc_refused, hv_1, hv_2, hv_3, hv_4, hk, eq_self, not_true_eq_false, not_false_eq_true, and_self, and_true, true_and, and_false, false_and, or_true, true_or, or_false, false_or, if_true, if_false, ite_true, ite_false, Bool.and_eq_true, decide_true, decide_false, decide_eq_true_eq, ne_eq, Nat.reduceEqDiff, Nat.one_ne_zero, Bool.false_eq_true, reduceCtorEq]; decide)) (hO.tr hO1) hce hcv hcl (fun _ h => nomatch h) (Nat.le_of_ble_eq_true rfl) (Nat.le_of_ble_eq_true rfl)
          · -- goes on
            obtain ⟨rfl, hv_5⟩ := hv9
            have hP := hO1.P hP
            have hS := hO1.S hS
            have hO := hO.tr hO1
            refine W.eq (g2 := F0 m 22 ls []) rfl ?_
            refine lv_aload_n hx hb dX0_refused_22 rfl (lv_at hl 0 rfl) ?_
            refine lv_iload_n hx hb dX0_refused_23 rfl (lv_at hl 1 rfl) ?_
            refine lv_iload hx hb dX0_refused_24 (lv_at hl 4 rfl) ?_
            refine lv_iload hx hb dX0_refused_26 (lv_at hl 5 rfl) ?_
            refine kz_wV (As := [.int p0, .int p3, .int p4]) (rest := []) ⟨hx, hb, hml, hown, hw9⟩ (c_X0_hear l hl9 D cI cZ ty ad rs H.size it o n g v r nx mt fl pr ofs ak hd an p0 p3 p4 (sq_V_in hv_1)) (kz_cV 3 hw9 mw_306 mw_308 ms_9 mw_1 mw_309 rfl rfl (by decide +kernel) ⟨Nat.le_of_ble_eq_true rfl, Nat.le_of_ble_eq_true rfl⟩) (kz_preV (q0 := 0) (ci := 0) hK hP hD hS hA hE rfl rfl) rfl hl.1 rfl (Nat.le_of_ble_eq_true rfl) dX0_refused_28 ⟨Nat.le_of_ble_eq_true rfl, Nat.le_of_ble_eq_true rfl⟩ hD hS hA (fun _ _ _ _ _ _ h => False.elim h) (fun v9 H locs hv9 hP hD hS => ?_)
            obtain ⟨rfl, -⟩ := hv9
            have hP : va_P D vwCl (wX ad cI cZ it o n g v r nx mt fl pr ofs (upd ak p0.toNatClampNeg (sq_max (ak p0.toNatClampNeg) p3)) (upd hd p0.toNatClampNeg p4) (upd an p0.toNatClampNeg 1) ++ rs) H := hP
            have hD : va_D A (wX ad cI cZ it o n g v r nx mt fl pr ofs (upd ak p0.toNatClampNeg (sq_max (ak p0.toNatClampNeg) p3)) (upd hd p0.toNatClampNeg p4) (upd an p0.toNatClampNeg 1) ++ rs) := hD
            refine W.eq (g2 := F0 m 31 ls []) rfl ?_
            refine lv_aload_n hx hb dX0_refused_31 rfl (lv_at hl 0 rfl) ?_
            refine va_get (D := D) (ci := 0) (v := .ref (ad 3)) (C := RX0) (T := TX0) (N := 14) hx hb hw9 uX0 hown hK hP 0 rfl rfl 8 (by decide) (hw9 _ mw_27) (fun _ h9 => h9) rfl dX0_refused_32 ?_
            refine lv_iload_n hx hb dX0_refused_35 rfl (lv_at hl 1 rfl) ?_
            refine lv_iconst (v := 0) hx hb dX0_refused_36 (by decide) ?_
            refine va_iast hx hb hK hP hD hS 3 0 rfl rfl (sq_V_in hv_1) dX0_refused_37 (fun H locs hP hD hS => ?_)
            have hP : va_P D vwCl (wX ad cI cZ it o n g v r nx mt (upd fl p0.toNatClampNeg 0) pr ofs (upd ak p0.toNatClampNeg (sq_max (ak p0.toNatClampNeg) p3)) (upd hd p0.toNatClampNeg p4) (upd an p0.toNatClampNeg 1) ++ rs) H := hP
            have hD : va_D A (wX ad cI cZ it o n g v r nx mt (upd fl p0.toNatClampNeg 0) pr ofs (upd ak p0.toNatClampNeg (sq_max (ak p0.toNatClampNeg) p3)) (upd hd p0.toNatClampNeg p4) (upd an p0.toNatClampNeg 1) ++ rs) := hD
            refine lv_aload_n hx hb dX0_refused_38 rfl (lv_at hl 0 rfl) ?_
            refine va_get (D := D) (ci := 0) (v := .ref (ad 4)) (C := RX0) (T := TX0) (N := 14) hx hb hw9 uX0 hown hK hP 0 rfl rfl 9 (by decide) (hw9 _ mw_28) (fun _ h9 => h9) rfl dX0_refused_39 ?_
            refine lv_iload_n hx hb dX0_refused_42 rfl (lv_at hl 1 rfl) ?_
            refine lv_iconst (v := 1) hx hb dX0_refused_43 (by decide) ?_
            refine va_zast hx hb hK hP hD hS 4 1 rfl rfl (sq_V_in hv_1) dX0_refused_44 (fun H locs hP hD hS => ?_)
            have hP : va_P D vwCl (wX ad cI cZ it o n g v r nx mt (upd fl p0.toNatClampNeg 0) (upd pr p0.toNatClampNeg 1) ofs (upd ak p0.toNatClampNeg (sq_max (ak p0.toNatClampNeg) p3)) (upd hd p0.toNatClampNeg p4) (upd an p0.toNatClampNeg 1) ++ rs) H := hP
            have hD : va_D A (wX ad cI cZ it o n g v r nx mt (upd fl p0.toNatClampNeg 0) (upd pr p0.toNatClampNeg 1) ofs (upd ak p0.toNatClampNeg (sq_max (ak p0.toNatClampNeg) p3)) (upd hd p0.toNatClampNeg p4) (upd an p0.toNatClampNeg 1) ++ rs) := hD
            refine lv_aload_n hx hb dX0_refused_45 rfl (lv_at hl 0 rfl) ?_
            refine va_get (D := D) (ci := 0) (v := .ref (ad 1)) (C := RX0) (T := TX0) (N := 14) hx hb hw9 uX0 hown hK hP 0 rfl rfl 6 (by decide) (hw9 _ mw_25) (fun _ h9 => h9) rfl dX0_refused_46 ?_
            refine lv_iload_n hx hb dX0_refused_49 rfl (lv_at hl 1 rfl) ?_
            refine lv_iload_n hx hb dX0_refused_50 rfl (lv_at hl 2 rfl) ?_
            refine lv_aload_n hx hb dX0_refused_51 rfl (lv_at hl 0 rfl) ?_
            refine va_get (D := D) (ci := 0) (v := .ref (ad 2)) (C := RX0) (T := TX0) (N := 14) hx hb hw9 uX0 hown hK hP 0 rfl rfl 7 (by decide) (hw9 _ mw_26) (fun _ h9 => h9) rfl dX0_refused_52 ?_
            refine lv_iload_n hx hb dX0_refused_55 rfl (lv_at hl 1 rfl) ?_
            refine va_iald hx hb hK hP 2 0 rfl rfl (sq_V_in hv_1) dX0_refused_56 ?_
            refine lv_iconst (v := 1) hx hb dX0_refused_57 (by decide) ?_
            refine lv_iadd hx hb dX0_refused_58 ?_
            refine va_mmax hx hb (by rw [hml]; exact hl.1.symm) hown (hw9 _ mw_310) (hw9 _ mw_311) (hw9 _ mw_10) (hw9 _ mw_312) (Nat.le_of_ble_eq_true rfl) (Nat.le_of_ble_eq_true rfl) (Nat.le_of_ble_eq_true rfl) (Nat.le_of_ble_eq_true rfl) dX0_refused_59 ?_
            refine W.eq (g2 := F0 m 62 ls [.int (sq_max p1 ((mt p0.toNatClampNeg) + 1)), .int p0, .ref (ad 1)]) rfl ?_
            refine lv_iload_n hx hb dX0_refused_62 rfl (lv_at hl 3 rfl) ?_
            refine lv_iconst (v := 1) hx hb dX0_refused_63 (by decide) ?_
            refine lv_iadd hx hb dX0_refused_64 ?_
            refine va_mmin hx hb (by rw [hml]; exact hl.1.symm) hown (hw9 _ mw_296) (hw9 _ mw_297) (hw9 _ mw_10) (hw9 _ mw_298) (Nat.le_of_ble_eq_true rfl) (Nat.le_of_ble_eq_true rfl) (Nat.le_of_ble_eq_true rfl) (Nat.le_of_ble_eq_true rfl) dX0_refused_65 ?_
            refine W.eq (g2 := F0 m 68 ls [.int (sq_min (sq_max p1 ((mt p0.toNatClampNeg) + 1)) (p2 + 1)), .int p0, .ref (ad 1)]) rfl ?_
            refine va_iast hx hb hK hP hD hS 1 0 rfl rfl (sq_V_in hv_1) dX0_refused_68 (fun H locs hP hD hS => ?_)
            have hP : va_P D vwCl (wX ad cI cZ it o n g v r (upd nx p0.toNatClampNeg (sq_min (sq_max p1 ((mt p0.toNatClampNeg) + 1)) (p2 + 1))) mt (upd fl p0.toNatClampNeg 0) (upd pr p0.toNatClampNeg 1) ofs (upd ak p0.toNatClampNeg (sq_max (ak p0.toNatClampNeg) p3)) (upd hd p0.toNatClampNeg p4) (upd an p0.toNatClampNeg 1) ++ rs) H := hP
            have hD : va_D A (wX ad cI cZ it o n g v r (upd nx p0.toNatClampNeg (sq_min (sq_max p1 ((mt p0.toNatClampNeg) + 1)) (p2 + 1))) mt (upd fl p0.toNatClampNeg 0) (upd pr p0.toNatClampNeg 1) ofs (upd ak p0.toNatClampNeg (sq_max (ak p0.toNatClampNeg) p3)) (upd hd p0.toNatClampNeg p4) (upd an p0.toNatClampNeg 1) ++ rs) := hD
            refine lv_aload_n hx hb dX0_refused_69 rfl (lv_at hl 0 rfl) ?_
            refine va_get (D := D) (ci := 0) (v := .ref (ad 1)) (C := RX0) (T := TX0) (N := 14) hx hb hw9 uX0 hown hK hP 0 rfl rfl 6 (by decide) (hw9 _ mw_25) (fun _ h9 => h9) rfl dX0_refused_70 ?_
            refine lv_iload_n hx hb dX0_refused_73 rfl (lv_at hl 1 rfl) ?_
            refine va_iald hx hb hK hP 1 0 rfl rfl (sq_V_in hv_1) dX0_refused_74 ?_
            exact kz_wreti hx hb hr hlocks hP hD hS (Nat.le_of_ble_eq_true rfl) (Nat.le_of_ble_eq_true rfl) (⟨by first | (simp [tc_refused, hv_1, hv_2, hv_3, hv_4, hv_5]; done) | (simp only [tc_refused, hv_1, hv_2, hv_3, hv_4, hv_5, eq_self, not_true_eq_false, not_false_eq_true, and_self, and_true, true_and, and_false, false_and, or_true, true_or, or_false, false_or, if_true, if_false, ite_true, ite_false, Bool.and_eq_true, decide_true, decide_false, decide_eq_true_eq, ne_eq, Nat.reduceEqDiff, Nat.one_ne_zero, Bool.false_eq_true, reduceCtorEq]; done) | (simp only [tc_refused, hv_1, hv_2, hv_3, hv_4, hv_5, eq_self, not_true_eq_false, not_false_eq_true, and_self, and_true, true_and, and_false, false_and, or_true, true_or, or_false, false_or, if_true, if_false, ite_true, ite_false, Bool.and_eq_true, decide_true, decide_false, decide_eq_true_eq, ne_eq, Nat.reduceEqDiff, Nat.one_ne_zero, Bool.false_eq_true, reduceCtorEq]; decide), pk_us⟩)  dX0_refused_75
set_option maxHeartbeats 4000000 in
set_option maxRecDepth 100000 in
theorem c_X0_stored (l : Launch) (hl9 : l.stackTraces = false) (D : va_G) (cI cZ : ClassId) (ty : kz_Y) (ad : Nat → Nat) (rs : va_W) (sz : Nat) (it o n g v r : Int32) (nx mt fl pr ofs ak hd an : Nat → Int32) (p0 : Int32) (p1 : Int32) (p2 : Int32) (p3 : Int32) (p4 : Int32) (p5 : Int32) : ez_M l yX0_stored wsX0_stored ({ frames := 7, cells := 1, slots := 6, locals := 110 } : Room) (kz_P D ((cI, .int) :: (cZ, .boolean) :: ty) (wX ad cI cZ it o n g v r nx mt fl pr ofs ak hd an ++ rs) sz [.ref (ad 0), .int p0, .int p1, .int p2, .int p3, .int p4, .int p5]) (kz_Wr D (va_A (wX ad cI cZ it o n g v r nx mt fl pr ofs ak hd an ++ rs) sz) (kz_i (fun r9 => (tc_stored p0 p1 p2 p3 p4 p5 = 0) ∧ r9 = (sq_z (decide (¬ p1 < p2))))) (wX ad cI cZ it o n g v r (if p1 < p2 then nx else upd nx p0.toNatClampNeg (p3 + 1)) (if p1 < p2 then mt else upd mt p0.toNatClampNeg (sq_max (mt p0.toNatClampNeg) p3)) (upd fl p0.toNatClampNeg 0) (if p1 < p2 then pr else upd pr p0.toNatClampNeg 1) (if p1 < p2 then upd ofs p0.toNatClampNeg p1 else upd ofs p0.toNatClampNeg 0) (upd ak p0.toNatClampNeg (sq_max (ak p0.toNatClampNeg) p4)) (upd hd p0.toNatClampNeg p5) (upd an p0.toNatClampNeg 1) ++ rs)) (kz_T (fun k => match k with | 1 => IOE | _ => IAE) (fun k => k = tc_stored p0 p1 p2 p3 p4 p5 ∧ ¬ k = 0)) 0 0 (va_A (wX ad cI cZ it o n g v r nx mt fl pr ofs ak hd an ++ rs) sz) := by
  refine ez_ofW (cc := cX0_stored) (maxL := 7) (ret := (some .boolean)) (by decide) rfl ?_
  intro p e s m args below meth c s₁ B hml hTab hv
  obtain ⟨rfl, hsz, hP, hK, hD0, hE⟩ := hv
  have hx := B.exec
  have hb := B.bytes
  have hr := B.returns
  have hw9 : ∀ w ∈ kz_W9, w.before ([.ref (ad 0), .int p0, .int p1, .int p2, .int p3, .int p4, .int p5] : List Value).toArray s = true := fun w h => atoms_spec (ws := wsX0_stored) B.pre w (List.mem_cons_of_mem _ h)
  have hown : s.vm.findClass RX0 = some m.cls := findClass_of_methodNamed B.named
  have hlocks := B.notSynchronized
  subst hsz
  have hD := hD0.self (sz := s.heap.size)
  generalize hAe : va_A (wX ad cI cZ it o n g v r nx mt fl pr ofs ak hd an ++ rs) s.heap.size = A at hD hE ⊢
  have hA : ∀ q : Nat, s.heap.size ≤ q → A q := fun q h => by rw [← hAe]; exact Or.inr h
  have hS : va_S A s.heap s.heap [] := va_S.rf
  have hO : kz_O s.heap s.heap := kz_O.rf _
  have hl := lv_entry ([.ref (ad 0), .int p0, .int p1, .int p2, .int p3, .int p4, .int p5]) (n := 7) (Nat.le_of_ble_eq_true rfl)
  rw [lg_entry_eq]
  generalize (lg_sl ([.ref (ad 0), .int p0, .int p1, .int p2, .int p3, .int p4, .int p5]) ++ List.replicate (7 - (lg_sl ([.ref (ad 0), .int p0, .int p1, .int p2, .int p3, .int p4, .int p5])).length) Slot.unset).toArray = ls at hl ⊢
  have hl : lv_has ls 7 [(0, .ref (ad 0)), (1, .int p0), (2, .int p1), (3, .int p2), (4, .int p3), (5, .int p4), (6, .int p5)] := hl
  refine lv_iload_n hx hb dX0_stored_0 rfl (lv_at hl 1 rfl) ?_
  refine kz_rS (As := [.int p0]) (rest := []) ⟨hx, hb, hml, hown, hw9⟩ (c_X0_requireServer l hl9 D ((cI, .int) :: (cZ, .boolean) :: ty) (wX ad cI cZ it o n g v r nx mt fl pr ofs ak hd an ++ rs) s.heap.size p0) (kz_cS 1 hw9 mw_240 mw_241 mw_1 mw_242 rfl rfl (by decide +kernel) ⟨Nat.le_of_ble_eq_true rfl, Nat.le_of_ble_eq_true rfl⟩) (kz_preS hK hP hD hS hA hE) rfl hl.1 rfl (Nat.le_of_ble_eq_true rfl) dX0_stored_1 ⟨Nat.le_of_ble_eq_true rfl, Nat.le_of_ble_eq_true rfl⟩ (fun k ce q9 H1 hk hO1 hce hcv hcl => ?_) (fun v9 H hv9 hO1 => ?_)
  · -- thrown
    exact kz_out (k := 1) hTab hlocks (by first | (simp [tc_stored, hk]; done) | (simp only [tc_stored, hk, eq_self, not_true_eq_false, not_false_eq_true, and_self, and_true, true_and, and_false, false_and, or_true, true_or, or_false, false_or, if_true, if_false, ite_true, ite_false, Bool.and_eq_true, decide_true, decide_false, decide_eq_true_eq, ne_eq, Nat.reduceEqDiff, Nat.one_ne_zero, Bool.false_eq_true, reduceCtorEq]; done) | (simp only [tc_stored, hk, eq_self, not_true_eq_false, not_false_eq_true, and_self, and_true, true_and, and_false, false_and, or_true, true_or, or_false, false_or, if_true, if_false, ite_true, ite_false, Bool.and_eq_true, decide_true, decide_false, decide_eq_true_eq, ne_eq, Nat.reduceEqDiff, Nat.one_ne_zero, Bool.false_eq_true, reduceCtorEq]; decide)) (hO.tr hO1) hce hcv hcl (fun _ h => nomatch h) (Nat.le_of_ble_eq_true rfl) (Nat.le_of_ble_eq_true rfl)
  · -- goes on
    obtain ⟨rfl, hv_1⟩ := hv9
    have hP := hO1.P hP
    have hS := hO1.S hS
    have hO := hO.tr hO1
    refine W.eq (g2 := F0 m 4 ls []) rfl ?_
    refine lv_iload_n hx hb dX0_stored_4 rfl (lv_at hl 2 rfl) ?_
    refine kz_rS (As := [.int p1]) (rest := []) ⟨hx, hb, hml, hown, hw9⟩ (c_X0_requireNumber l hl9 D ((cI, .int) :: (cZ, .boolean) :: ty) (wX ad cI cZ it o n g v r nx mt fl pr ofs ak hd an ++ rs) H.size p1) (kz_cS 1 hw9 mw_266 mw_267 mw_1 mw_268 rfl rfl (by decide +kernel) ⟨Nat.le_of_ble_eq_true rfl, Nat.le_of_ble_eq_true rfl⟩) (kz_preS hK hP hD hS hA hE) rfl hl.1 rfl (Nat.le_of_ble_eq_true rfl) dX0_stored_5 ⟨Nat.le_of_ble_eq_true rfl, Nat.le_of_ble_eq_true rfl⟩ (fun k ce q9 H1 hk hO1 hce hcv hcl => ?_) (fun v9 H hv9 hO1 => ?_)
    · -- thrown
      exact kz_out (k := 2) hTab hlocks (by first | (simp [tc_stored, hv_1, hk]; done) | (simp only [tc_stored, hv_1, hk, eq_self, not_true_eq_false, not_false_eq_true, and_self, and_true, true_and, and_false, false_and, or_true, true_or, or_false, false_or, if_true, if_false, ite_true, ite_false, Bool.and_eq_true, decide_true, decide_false, decide_eq_true_eq, ne_eq, Nat.reduceEqDiff, Nat.one_ne_zero, Bool.false_eq_true, reduceCtorEq]; done) | (simp only [tc_stored, hv_1, hk, eq_self, not_true_eq_false, not_false_eq_true, and_self, and_true, true_and, and_false, false_and, or_true, true_or, or_false, false_or, if_true, if_false, ite_true, ite_false, Bool.and_eq_true, decide_true, decide_false, decide_eq_true_eq, ne_eq, Nat.reduceEqDiff, Nat.one_ne_zero, Bool.false_eq_true, reduceCtorEq]; decide)) (hO.tr hO1) hce hcv hcl (fun _ h => nomatch h) (Nat.le_of_ble_eq_true rfl) (Nat.le_of_ble_eq_true rfl)
    · -- goes on
      obtain ⟨rfl, hv_2⟩ := hv9
      have hP := hO1.P hP
      have hS := hO1.S hS
      have hO := hO.tr hO1
      refine W.eq (g2 := F0 m 8 ls []) rfl ?_
      refine lv_iload_n hx hb dX0_stored_8 rfl (lv_at hl 3 rfl) ?_
      refine kz_rS (As := [.int p2]) (rest := []) ⟨hx, hb, hml, hown, hw9⟩ (c_X0_requireNumber l hl9 D ((cI, .int) :: (cZ, .boolean) :: ty) (wX ad cI cZ it o n g v r nx mt fl pr ofs ak hd an ++ rs) H.size p2) (kz_cS 1 hw9 mw_266 mw_267 mw_1 mw_268 rfl rfl (by decide +kernel) ⟨Nat.le_of_ble_eq_true rfl, Nat.le_of_ble_eq_true rfl⟩) (kz_preS hK hP hD hS hA hE) rfl hl.1 rfl (Nat.le_of_ble_eq_true rfl) dX0_stored_9 ⟨Nat.le_of_ble_eq_true rfl, Nat.le_of_ble_eq_true rfl⟩ (fun k ce q9 H1 hk hO1 hce hcv hcl => ?_) (fun v9 H hv9 hO1 => ?_)
      · -- thrown
        exact kz_out (k := 2) hTab hlocks (by first | (simp [tc_stored, hv_1, hv_2, hk]; done) | (simp only [tc_stored, hv_1, hv_2, hk, eq_self, not_true_eq_false, not_false_eq_true, and_self, and_true, true_and, and_false, false_and, or_true, true_or, or_false, false_or, if_true, if_false, ite_true, ite_false, Bool.and_eq_true, decide_true, decide_false, decide_eq_true_eq, ne_eq, Nat.reduceEqDiff, Nat.one_ne_zero, Bool.false_eq_true, reduceCtorEq]; done) | (simp only [tc_stored, hv_1, hv_2, hk, eq_self, not_true_eq_false, not_false_eq_true, and_self, and_true, true_and, and_false, false_and, or_true, true_or, or_false, false_or, if_true, if_false, ite_true, ite_false, Bool.and_eq_true, decide_true, decide_false, decide_eq_true_eq, ne_eq, Nat.reduceEqDiff, Nat.one_ne_zero, Bool.false_eq_true, reduceCtorEq]; decide)) (hO.tr hO1) hce hcv hcl (fun _ h => nomatch h) (Nat.le_of_ble_eq_true rfl) (Nat.le_of_ble_eq_true rfl)
      · -- goes on
        obtain ⟨rfl, hv_3⟩ := hv9
        have hP := hO1.P hP
        have hS := hO1.S hS
        have hO := hO.tr hO1
        refine W.eq (g2 := F0 m 12 ls []) rfl ?_
        refine lv_iload hx hb dX0_stored_12 (lv_at hl 4 rfl) ?_
        refine kz_rS (As := [.int p3]) (rest := []) ⟨hx, hb, hml, hown, hw9⟩ (c_X0_requireNumber l hl9 D ((cI, .int) :: (cZ, .boolean) :: ty) (wX ad cI cZ it o n g v r nx mt fl pr ofs ak hd an ++ rs) H.size p3) (kz_cS 1 hw9 mw_266 mw_267 mw_1 mw_268 rfl rfl (by decide +kernel) ⟨Nat.le_of_ble_eq_true rfl, Nat.le_of_ble_eq_true rfl⟩) (kz_preS hK hP hD hS hA hE) rfl hl.1 rfl (Nat.le_of_ble_eq_true rfl) dX0_stored_14 ⟨Nat.le_of_ble_eq_true rfl, Nat.le_of_ble_eq_true rfl⟩ (fun k ce q9 H1 hk hO1 hce hcv hcl => ?_) (fun v9 H hv9 hO1 => ?_)
        · -- thrown
          exact kz_out (k := 2) hTab hlocks (by first | (simp [tc_stored, hv_1, hv_2, hv_3, hk]; done) | (simp only [tc_stored, hv_1, hv_2, hv_3, hk, eq_self, not_true_eq_false, not_false_eq_true, and_self, and_true, true_and, and_false, false_and, or_true, true_or, or_false, false_or, if_true, if_false, ite_true, ite_false, Bool.and_eq_true, decide_true, decide_false, decide_eq_true_eq, ne_eq, Nat.reduceEqDiff, Nat.one_ne_zero, Bool.false_eq_true, reduceCtorEq]; done) | (simp only [tc_stored, hv_1, hv_2, hv_3, hk, eq_self, not_true_eq_false, not_false_eq_true, and_self, and_true, true_and, and_false, false_and, or_true, true_or, or_false, false_or, if_true, if_false, ite_true, ite_false, Bool.and_eq_true, decide_true, decide_false, decide_eq_true_eq, ne_eq, Nat.reduceEqDiff, Nat.one_ne_zero, Bool.false_eq_true, reduceCtorEq]; decide)) (hO.tr hO1) hce hcv hcl (fun _ h => nomatch h) (Nat.le_of_ble_eq_true rfl) (Nat.le_of_ble_eq_true rfl)
        · -- goes on
          obtain ⟨rfl, hv_4⟩ := hv9
          have hP := hO1.P hP
          have hS := hO1.S hS
          have hO := hO.tr hO1
          refine W.eq (g2 := F0 m 17 ls []) rfl ?_
          refine lv_iload hx hb dX0_stored_17 (lv_at hl 5 rfl) ?_
          refine kz_rS (As := [.int p4]) (rest := []) ⟨hx, hb, hml, hown, hw9⟩ (c_X0_requireNumber l hl9 D ((cI, .int) :: (cZ, .boolean) :: ty) (wX ad cI cZ it o n g v r nx mt fl pr ofs ak hd an ++ rs) H.size p4) (kz_cS 1 hw9 mw_266 mw_267 mw_1 mw_268 rfl rfl (by decide +kernel) ⟨Nat.le_of_ble_eq_true rfl, Nat.le_of_ble_eq_true rfl⟩) (kz_preS hK hP hD hS hA hE) rfl hl.1 rfl (Nat.le_of_ble_eq_true rfl) dX0_stored_19 ⟨Nat.le_of_ble_eq_true rfl, Nat.le_of_ble_eq_true rfl⟩ (fun k ce q9 H1 hk hO1 hce hcv hcl => ?_) (fun v9 H hv9 hO1 => ?_)
          · -- thrown
            exact kz_out (k := 2) hTab hlocks (by first | (simp [tc_stored, hv_1, hv_2, hv_3, hv_4, hk]; done) | (simp only [tc_stored, hv_1, hv_2, hv_3, hv_4, hk, eq_self, not_true_eq_false, not_false_eq_true, and_self, and_true, true_and, and_false, false_and, or_true, true_or, or_false, false_or, if_true, if_false, ite_true, ite_false, Bool.and_eq_true, decide_true, decide_false, decide_eq_true_eq, ne_eq, Nat.reduceEqDiff, Nat.one_ne_zero, Bool.false_eq_true, reduceCtorEq]; done) | (simp only [tc_stored, hv_1, hv_2, hv_3, hv_4, hk, eq_self, not_true_eq_false, not_false_eq_true, and_self, and_true, true_and, and_false, false_and, or_true, true_or, or_false, false_or, if_true, if_false, ite_true, ite_false, Bool.and_eq_true, decide_true, decide_false, decide_eq_true_eq, ne_eq, Nat.reduceEqDiff, Nat.one_ne_zero, Bool.false_eq_true, reduceCtorEq]; decide)) (hO.tr hO1) hce hcv hcl (fun _ h => nomatch h) (Nat.le_of_ble_eq_true rfl) (Nat.le_of_ble_eq_true rfl)
          · -- goes on
            obtain ⟨rfl, hv_5⟩ := hv9
            have hP := hO1.P hP
            have hS := hO1.S hS
            have hO := hO.tr hO1
            refine W.eq (g2 := F0 m 22 ls []) rfl ?_
            refine lv_iload hx hb dX0_stored_22 (lv_at hl 6 rfl) ?_
            refine kz_rS (As := [.int p5]) (rest := []) ⟨hx, hb, hml, hown, hw9⟩ (c_X0_requireNumber l hl9 D ((cI, .int) :: (cZ, .boolean) :: ty) (wX ad cI cZ it o n g v r nx mt fl pr ofs ak hd an ++ rs) H.size p5) (kz_cS 1 hw9 mw_266 mw_267 mw_1 mw_268 rfl rfl (by decide +kernel) ⟨Nat.le_of_ble_eq_true rfl, Nat.le_of_ble_eq_true rfl⟩) (kz_preS hK hP hD hS hA hE) rfl hl.1 rfl (Nat.le_of_ble_eq_true rfl) dX0_stored_24 ⟨Nat.le_of_ble_eq_true rfl, Nat.le_of_ble_eq_true rfl⟩ (fun k ce q9 H1 hk hO1 hce hcv hcl => ?_) (fun v9 H hv9 hO1 => ?_)
            · -- thrown
              exact kz_out (k := 2) hTab hlocks (by first | (simp [tc_stored, hv_1, hv_2, hv_3, hv_4, hv_5, hk]; done) | (simp only [tc_stored, hv_1, hv_2, hv_3, hv_4, hv_5, hk, eq_self, not_true_eq_false, not_false_eq_true, and_self, and_true, true_and, and_false, false_and, or_true, true_or, or_false, false_or, if_true, if_false, ite_true, ite_false, Bool.and_eq_true, decide_true, decide_false, decide_eq_true_eq, ne_eq, Nat.reduceEqDiff, Nat.one_ne_zero, Bool.false_eq_true, reduceCtorEq]; done) | (simp only [tc_stored, hv_1, hv_2, hv_3, hv_4, hv_5, hk, eq_self, not_true_eq_false, not_false_eq_true, and_self, and_true, true_and, and_false, false_and, or_true, true_or, or_false, false_or, if_true, if_false, ite_true, ite_false, Bool.and_eq_true, decide_true, decide_false, decide_eq_true_eq, ne_eq, Nat.reduceEqDiff, Nat.one_ne_zero, Bool.false_eq_true, reduceCtorEq]; decide)) (hO.tr hO1) hce hcv hcl (fun _ h => nomatch h) (Nat.le_of_ble_eq_true rfl) (Nat.le_of_ble_eq_true rfl)
            · -- goes on
              obtain ⟨rfl, hv_6⟩ := hv9
              have hP := hO1.P hP
              have hS := hO1.S hS
              have hO := hO.tr hO1
              refine W.eq (g2 := F0 m 27 ls []) rfl ?_
              refine lv_aload_n hx hb dX0_stored_27 rfl (lv_at hl 0 rfl) ?_
              refine lv_iload_n hx hb dX0_stored_28 rfl (lv_at hl 1 rfl) ?_
              refine lv_iload hx hb dX0_stored_29 (lv_at hl 5 rfl) ?_
              refine lv_iload hx hb dX0_stored_31 (lv_at hl 6 rfl) ?_
              refine kz_wV (As := [.int p0, .int p4, .int p5]) (rest := []) ⟨hx, hb, hml, hown, hw9⟩ (c_X0_hear l hl9 D cI cZ ty ad rs H.size it o n g v r nx mt fl pr ofs ak hd an p0 p4 p5 (sq_V_in hv_1)) (kz_cV 3 hw9 mw_306 mw_308 ms_9 mw_1 mw_309 rfl rfl (by decide +kernel) ⟨Nat.le_of_ble_eq_true rfl, Nat.le_of_ble_eq_true rfl⟩) (kz_preV (q0 := 0) (ci := 0) hK hP hD hS hA hE rfl rfl) rfl hl.1 rfl (Nat.le_of_ble_eq_true rfl) dX0_stored_33 ⟨Nat.le_of_ble_eq_true rfl, Nat.le_of_ble_eq_true rfl⟩ hD hS hA (fun _ _ _ _ _ _ h => False.elim h) (fun v9 H locs hv9 hP hD hS => ?_)
              obtain ⟨rfl, -⟩ := hv9
              have hP : va_P D vwCl (wX ad cI cZ it o n g v r nx mt fl pr ofs (upd ak p0.toNatClampNeg (sq_max (ak p0.toNatClampNeg) p4)) (upd hd p0.toNatClampNeg p5) (upd an p0.toNatClampNeg 1) ++ rs) H := hP
              have hD : va_D A (wX ad cI cZ it o n g v r nx mt fl pr ofs (upd ak p0.toNatClampNeg (sq_max (ak p0.toNatClampNeg) p4)) (upd hd p0.toNatClampNeg p5) (upd an p0.toNatClampNeg 1) ++ rs) := hD
              refine W.eq (g2 := F0 m 36 ls []) rfl ?_
              refine lv_aload_n hx hb dX0_stored_36 rfl (lv_at hl 0 rfl) ?_
              refine va_get (D := D) (ci := 0) (v := .ref (ad 3)) (C := RX0) (T := TX0) (N := 14) hx hb hw9 uX0 hown hK hP 0 rfl rfl 8 (by decide) (hw9 _ mw_27) (fun _ h9 => h9) rfl dX0_stored_37 ?_
              refine lv_iload_n hx hb dX0_stored_40 rfl (lv_at hl 1 rfl) ?_
              refine lv_iconst (v := 0) hx hb dX0_stored_41 (by decide) ?_
              refine va_iast hx hb hK hP hD hS 3 0 rfl rfl (sq_V_in hv_1) dX0_stored_42 (fun H locs hP hD hS => ?_)
              have hP : va_P D vwCl (wX ad cI cZ it o n g v r nx mt (upd fl p0.toNatClampNeg 0) pr ofs (upd ak p0.toNatClampNeg (sq_max (ak p0.toNatClampNeg) p4)) (upd hd p0.toNatClampNeg p5) (upd an p0.toNatClampNeg 1) ++ rs) H := hP
              have hD : va_D A (wX ad cI cZ it o n g v r nx mt (upd fl p0.toNatClampNeg 0) pr ofs (upd ak p0.toNatClampNeg (sq_max (ak p0.toNatClampNeg) p4)) (upd hd p0.toNatClampNeg p5) (upd an p0.toNatClampNeg 1) ++ rs) := hD
              refine lv_iload_n hx hb dX0_stored_43 rfl (lv_at hl 2 rfl) ?_
              refine lv_iload_n hx hb dX0_stored_44 rfl (lv_at hl 3 rfl) ?_
              refine lv_icmp_ge (tgt := 57) hx hb dX0_stored_45 (by decide) (fun c_7 => ?_) (fun c_7 => ?_)
              · -- 45 -> 57
                refine lv_aload_n hx hb dX0_stored_57 rfl (lv_at hl 0 rfl) ?_
                refine va_get (D := D) (ci := 0) (v := .ref (ad 2)) (C := RX0) (T := TX0) (N := 14) hx hb hw9 uX0 hown hK hP 0 rfl rfl 7 (by decide) (hw9 _ mw_26) (fun _ h9 => h9) rfl dX0_stored_58 ?_
                refine lv_iload_n hx hb dX0_stored_61 rfl (lv_at hl 1 rfl) ?_
                refine lv_aload_n hx hb dX0_stored_62 rfl (lv_at hl 0 rfl) ?_
                refine va_get (D := D) (ci := 0) (v := .ref (ad 2)) (C := RX0) (T := TX0) (N := 14) hx hb hw9 uX0 hown hK hP 0 rfl rfl 7 (by decide) (hw9 _ mw_26) (fun _ h9 => h9) rfl dX0_stored_63 ?_
                refine lv_iload_n hx hb dX0_stored_66 rfl (lv_at hl 1 rfl) ?_
                refine va_iald hx hb hK hP 2 0 rfl rfl (sq_V_in hv_1) dX0_stored_67 ?_
                refine lv_iload hx hb dX0_stored_68 (lv_at hl 4 rfl) ?_
                refine va_mmax hx hb (by rw [hml]; exact hl.1.symm) hown (hw9 _ mw_310) (hw9 _ mw_311) (hw9 _ mw_10) (hw9 _ mw_312) (Nat.le_of_ble_eq_true rfl) (Nat.le_of_ble_eq_true rfl) (Nat.le_of_ble_eq_true rfl) (Nat.le_of_ble_eq_true rfl) dX0_stored_70 ?_
                refine W.eq (g2 := F0 m 73 ls [.int (sq_max (mt p0.toNatClampNeg) p3), .int p0, .ref (ad 2)]) rfl ?_
                refine va_iast hx hb hK hP hD hS 2 0 rfl rfl (sq_V_in hv_1) dX0_stored_73 (fun H locs hP hD hS => ?_)
                have hP : va_P D vwCl (wX ad cI cZ it o n g v r nx (upd mt p0.toNatClampNeg (sq_max (mt p0.toNatClampNeg) p3)) (upd fl p0.toNatClampNeg 0) pr ofs (upd ak p0.toNatClampNeg (sq_max (ak p0.toNatClampNeg) p4)) (upd hd p0.toNatClampNeg p5) (upd an p0.toNatClampNeg 1) ++ rs) H := hP
                have hD : va_D A (wX ad cI cZ it o n g v r nx (upd mt p0.toNatClampNeg (sq_max (mt p0.toNatClampNeg) p3)) (upd fl p0.toNatClampNeg 0) pr ofs (upd ak p0.toNatClampNeg (sq_max (ak p0.toNatClampNeg) p4)) (upd hd p0.toNatClampNeg p5) (upd an p0.toNatClampNeg 1) ++ rs) := hD
                refine lv_aload_n hx hb dX0_stored_74 rfl (lv_at hl 0 rfl) ?_
                refine va_get (D := D) (ci := 0) (v := .ref (ad 1)) (C := RX0) (T := TX0) (N := 14) hx hb hw9 uX0 hown hK hP 0 rfl rfl 6 (by decide) (hw9 _ mw_25) (fun _ h9 => h9) rfl dX0_stored_75 ?_
                refine lv_iload_n hx hb dX0_stored_78 rfl (lv_at hl 1 rfl) ?_
                refine lv_iload hx hb dX0_stored_79 (lv_at hl 4 rfl) ?_
                refine lv_iconst (v := 1) hx hb dX0_stored_81 (by decide) ?_
                refine lv_iadd hx hb dX0_stored_82 ?_
                refine va_iast hx hb hK hP hD hS 1 0 rfl rfl (sq_V_in hv_1) dX0_stored_83 (fun H locs hP hD hS => ?_)
                have hP : va_P D vwCl (wX ad cI cZ it o n g v r (upd nx p0.toNatClampNeg (p3 + 1)) (upd mt p0.toNatClampNeg (sq_max (mt p0.toNatClampNeg) p3)) (upd fl p0.toNatClampNeg 0) pr ofs (upd ak p0.toNatClampNeg (sq_max (ak p0.toNatClampNeg) p4)) (upd hd p0.toNatClampNeg p5) (upd an p0.toNatClampNeg 1) ++ rs) H := hP
                have hD : va_D A (wX ad cI cZ it o n g v r (upd nx p0.toNatClampNeg (p3 + 1)) (upd mt p0.toNatClampNeg (sq_max (mt p0.toNatClampNeg) p3)) (upd fl p0.toNatClampNeg 0) pr ofs (upd ak p0.toNatClampNeg (sq_max (ak p0.toNatClampNeg) p4)) (upd hd p0.toNatClampNeg p5) (upd an p0.toNatClampNeg 1) ++ rs) := hD
                refine lv_aload_n hx hb dX0_stored_84 rfl (lv_at hl 0 rfl) ?_
                refine va_get (D := D) (ci := 0) (v := .ref (ad 4)) (C := RX0) (T := TX0) (N := 14) hx hb hw9 uX0 hown hK hP 0 rfl rfl 9 (by decide) (hw9 _ mw_28) (fun _ h9 => h9) rfl dX0_stored_85 ?_
                refine lv_iload_n hx hb dX0_stored_88 rfl (lv_at hl 1 rfl) ?_
                refine lv_iconst (v := 1) hx hb dX0_stored_89 (by decide) ?_
                refine va_zast hx hb hK hP hD hS 4 1 rfl rfl (sq_V_in hv_1) dX0_stored_90 (fun H locs hP hD hS => ?_)
                have hP : va_P D vwCl (wX ad cI cZ it o n g v r (upd nx p0.toNatClampNeg (p3 + 1)) (upd mt p0.toNatClampNeg (sq_max (mt p0.toNatClampNeg) p3)) (upd fl p0.toNatClampNeg 0) (upd pr p0.toNatClampNeg 1) ofs (upd ak p0.toNatClampNeg (sq_max (ak p0.toNatClampNeg) p4)) (upd hd p0.toNatClampNeg p5) (upd an p0.toNatClampNeg 1) ++ rs) H := hP
                have hD : va_D A (wX ad cI cZ it o n g v r (upd nx p0.toNatClampNeg (p3 + 1)) (upd mt p0.toNatClampNeg (sq_max (mt p0.toNatClampNeg) p3)) (upd fl p0.toNatClampNeg 0) (upd pr p0.toNatClampNeg 1) ofs (upd ak p0.toNatClampNeg (sq_max (ak p0.toNatClampNeg) p4)) (upd hd p0.toNatClampNeg p5) (upd an p0.toNatClampNeg 1) ++ rs) := hD
                refine lv_aload_n hx hb dX0_stored_91 rfl (lv_at hl 0 rfl) ?_
                refine va_get (D := D) (ci := 0) (v := .ref (ad 5)) (C := RX0) (T := TX0) (N := 14) hx hb hw9 uX0 hown hK hP 0 rfl rfl 10 (by decide) (hw9 _ mw_29) (fun _ h9 => h9) rfl dX0_stored_92 ?_
                refine lv_iload_n hx hb dX0_stored_95 rfl (lv_at hl 1 rfl) ?_
                refine lv_iconst (v := 0) hx hb dX0_stored_96 (by decide) ?_
                refine va_iast hx hb hK hP hD hS 5 0 rfl rfl (sq_V_in hv_1) dX0_stored_97 (fun H locs hP hD hS => ?_)
                have hP : va_P D vwCl (wX ad cI cZ it o n g v r (upd nx p0.toNatClampNeg (p3 + 1)) (upd mt p0.toNatClampNeg (sq_max (mt p0.toNatClampNeg) p3)) (upd fl p0.toNatClampNeg 0) (upd pr p0.toNatClampNeg 1) (upd ofs p0.toNatClampNeg 0) (upd ak p0.toNatClampNeg (sq_max (ak p0.toNatClampNeg) p4)) (upd hd p0.toNatClampNeg p5) (upd an p0.toNatClampNeg 1) ++ rs) H := hP
                have hD : va_D A (wX ad cI cZ it o n g v r (upd nx p0.toNatClampNeg (p3 + 1)) (upd mt p0.toNatClampNeg (sq_max (mt p0.toNatClampNeg) p3)) (upd fl p0.toNatClampNeg 0) (upd pr p0.toNatClampNeg 1) (upd ofs p0.toNatClampNeg 0) (upd ak p0.toNatClampNeg (sq_max (ak p0.toNatClampNeg) p4)) (upd hd p0.toNatClampNeg p5) (upd an p0.toNatClampNeg 1) ++ rs) := hD
                refine lv_iconst (v := 1) hx hb dX0_stored_98 (by decide) ?_
                have e_ofs : (if p1 < p2 then upd ofs p0.toNatClampNeg p1 else upd ofs p0.toNatClampNeg 0) = upd ofs p0.toNatClampNeg 0 := by first | (simp [hv_1, hv_2, hv_3, hv_4, hv_5, hv_6, c_7, (Int32.not_lt.mpr c_7)]; done) | (simp only [hv_1, hv_2, hv_3, hv_4, hv_5, hv_6, c_7, (Int32.not_lt.mpr c_7), eq_self, not_true_eq_false, not_false_eq_true, and_self, and_true, true_and, and_false, false_and, or_true, true_or, or_false, false_or, if_true, if_false, ite_true, ite_false, Bool.and_eq_true, decide_true, decide_false, decide_eq_true_eq, ne_eq, Nat.reduceEqDiff, Nat.one_ne_zero, Bool.false_eq_true, reduceCtorEq]; done) | (simp only [hv_1, hv_2, hv_3, hv_4, hv_5, hv_6, c_7, (Int32.not_lt.mpr c_7), eq_self, not_true_eq_false, not_false_eq_true, and_self, and_true, true_and, and_false, false_and, or_true, true_or, or_false, false_or, if_true, if_false, ite_true, ite_false, Bool.and_eq_true, decide_true, decide_false, decide_eq_true_eq, ne_eq, Nat.reduceEqDiff, Nat.one_ne_zero, Bool.false_eq_true, reduceCtorEq]; decide)
                have e_mt : (if p1 < p2 then mt else upd mt p0.toNatClampNeg (sq_max (mt p0.toNatClampNeg) p3)) = upd mt p0.toNatClampNeg (sq_max (mt p0.toNatClampNeg) p3) := by first | (simp [hv_1, hv_2, hv_3, hv_4, hv_5, hv_6, c_7, (Int32.not_lt.mpr c_7)]; done) | (simp only [hv_1, hv_2, hv_3, hv_4, hv_5, hv_6, c_7, (Int32.not_lt.mpr c_7), eq_self, not_true_eq_false, not_false_eq_true, and_self, and_true, true_and, and_false, false_and, or_true, true_or, or_false, false_or, if_true, if_false, ite_true, ite_false, Bool.and_eq_true, decide_true, decide_false, decide_eq_true_eq, ne_eq, Nat.reduceEqDiff, Nat.one_ne_zero, Bool.false_eq_true, reduceCtorEq]; done) | (simp only [hv_1, hv_2, hv_3, hv_4, hv_5, hv_6, c_7, (Int32.not_lt.mpr c_7), eq_self, not_true_eq_false, not_false_eq_true, and_self, and_true, true_and, and_false, false_and, or_true, true_or, or_false, false_or, if_true, if_false, ite_true, ite_false, Bool.and_eq_true, decide_true, decide_false, decide_eq_true_eq, ne_eq, Nat.reduceEqDiff, Nat.one_ne_zero, Bool.false_eq_true, reduceCtorEq]; decide)
                have e_nx : (if p1 < p2 then nx else upd nx p0.toNatClampNeg (p3 + 1)) = upd nx p0.toNatClampNeg (p3 + 1) := by first | (simp [hv_1, hv_2, hv_3, hv_4, hv_5, hv_6, c_7, (Int32.not_lt.mpr c_7)]; done) | (simp only [hv_1, hv_2, hv_3, hv_4, hv_5, hv_6, c_7, (Int32.not_lt.mpr c_7), eq_self, not_true_eq_false, not_false_eq_true, and_self, and_true, true_and, and_false, false_and, or_true, true_or, or_false, false_or, if_true, if_false, ite_true, ite_false, Bool.and_eq_true, decide_true, decide_false, decide_eq_true_eq, ne_eq, Nat.reduceEqDiff, Nat.one_ne_zero, Bool.false_eq_true, reduceCtorEq]; done) | (simp only [hv_1, hv_2, hv_3, hv_4, hv_5, hv_6, c_7, (Int32.not_lt.mpr c_7), eq_self, not_true_eq_false, not_false_eq_true, and_self, and_true, true_and, and_false, false_and, or_true, true_or, or_false, false_or, if_true, if_false, ite_true, ite_false, Bool.and_eq_true, decide_true, decide_false, decide_eq_true_eq, ne_eq, Nat.reduceEqDiff, Nat.one_ne_zero, Bool.false_eq_true, reduceCtorEq]; decide)
                have e_pr : (if p1 < p2 then pr else upd pr p0.toNatClampNeg 1) = upd pr p0.toNatClampNeg 1 := by first | (simp [hv_1, hv_2, hv_3, hv_4, hv_5, hv_6, c_7, (Int32.not_lt.mpr c_7)]; done) | (simp only [hv_1, hv_2, hv_3, hv_4, hv_5, hv_6, c_7, (Int32.not_lt.mpr c_7), eq_self, not_true_eq_false, not_false_eq_true, and_self, and_true, true_and, and_false, false_and, or_true, true_or, or_false, false_or, if_true, if_false, ite_true, ite_false, Bool.and_eq_true, decide_true, decide_false, decide_eq_true_eq, ne_eq, Nat.reduceEqDiff, Nat.one_ne_zero, Bool.false_eq_true, reduceCtorEq]; done) | (simp only [hv_1, hv_2, hv_3, hv_4, hv_5, hv_6, c_7, (Int32.not_lt.mpr c_7), eq_self, not_true_eq_false, not_false_eq_true, and_self, and_true, true_and, and_false, false_and, or_true, true_or, or_false, false_or, if_true, if_false, ite_true, ite_false, Bool.and_eq_true, decide_true, decide_false, decide_eq_true_eq, ne_eq, Nat.reduceEqDiff, Nat.one_ne_zero, Bool.false_eq_true, reduceCtorEq]; decide)
                exact kz_wretz hx hb hr hlocks (by rw [e_ofs, e_mt, e_nx, e_pr]; exact hP) (by rw [e_ofs, e_mt, e_nx, e_pr]; exact hD) hS (Nat.le_of_ble_eq_true rfl) (Nat.le_of_ble_eq_true rfl) (⟨by first | (simp [tc_stored, hv_1, hv_2, hv_3, hv_4, hv_5, hv_6, c_7, (Int32.not_lt.mpr c_7)]; done) | (simp only [tc_stored, hv_1, hv_2, hv_3, hv_4, hv_5, hv_6, c_7, (Int32.not_lt.mpr c_7), eq_self, not_true_eq_false, not_false_eq_true, and_self, and_true, true_and, and_false, false_and, or_true, true_or, or_false, false_or, if_true, if_false, ite_true, ite_false, Bool.and_eq_true, decide_true, decide_false, decide_eq_true_eq, ne_eq, Nat.reduceEqDiff, Nat.one_ne_zero, Bool.false_eq_true, reduceCtorEq]; done) | (simp only [tc_stored, hv_1, hv_2, hv_3, hv_4, hv_5, hv_6, c_7, (Int32.not_lt.mpr c_7), eq_self, not_true_eq_false, not_false_eq_true, and_self, and_true, true_and, and_false, false_and, or_true, true_or, or_false, false_or, if_true, if_false, ite_true, ite_false, Bool.and_eq_true, decide_true, decide_false, decide_eq_true_eq, ne_eq, Nat.reduceEqDiff, Nat.one_ne_zero, Bool.false_eq_true, reduceCtorEq]; decide), by first | (simp [sq_z, hv_1, hv_2, hv_3, hv_4, hv_5, hv_6, c_7, (Int32.not_lt.mpr c_7)]; done) | (simp only [sq_z, hv_1, hv_2, hv_3, hv_4, hv_5, hv_6, c_7, (Int32.not_lt.mpr c_7), eq_self, not_true_eq_false, not_false_eq_true, and_self, and_true, true_and, and_false, false_and, or_true, true_or, or_false, false_or, if_true, if_false, ite_true, ite_false, Bool.and_eq_true, decide_true, decide_false, decide_eq_true_eq, ne_eq, Nat.reduceEqDiff, Nat.one_ne_zero, Bool.false_eq_true, reduceCtorEq]; done) | (simp only [sq_z, hv_1, hv_2, hv_3, hv_4, hv_5, hv_6, c_7, (Int32.not_lt.mpr c_7), eq_self, not_true_eq_false, not_false_eq_true, and_self, and_true, true_and, and_false, false_and, or_true, true_or, or_false, false_or, if_true, if_false, ite_true, ite_false, Bool.and_eq_true, decide_true, decide_false, decide_eq_true_eq, ne_eq, Nat.reduceEqDiff, Nat.one_ne_zero, Bool.false_eq_true, reduceCtorEq]; decide)⟩) rfl dX0_stored_99
              · -- 45 -> 48
                refine lv_aload_n hx hb dX0_stored_48 rfl (lv_at hl 0 rfl) ?_
                refine va_get (D := D) (ci := 0) (v := .ref (ad 5)) (C := RX0) (T := TX0) (N := 14) hx hb hw9 uX0 hown hK hP 0 rfl rfl 10 (by decide) (hw9 _ mw_29) (fun _ h9 => h9) rfl dX0_stored_49 ?_
                refine lv_iload_n hx hb dX0_stored_52 rfl (lv_at hl 1 rfl) ?_
                refine lv_iload_n hx hb dX0_stored_53 rfl (lv_at hl 2 rfl) ?_
                refine va_iast hx hb hK hP hD hS 5 0 rfl rfl (sq_V_in hv_1) dX0_stored_54 (fun H locs hP hD hS => ?_)
                have hP : va_P D vwCl (wX ad cI cZ it o n g v r nx mt (upd fl p0.toNatClampNeg 0) pr (upd ofs p0.toNatClampNeg p1) (upd ak p0.toNatClampNeg (sq_max (ak p0.toNatClampNeg) p4)) (upd hd p0.toNatClampNeg p5) (upd an p0.toNatClampNeg 1) ++ rs) H := hP
                have hD : va_D A (wX ad cI cZ it o n g v r nx mt (upd fl p0.toNatClampNeg 0) pr (upd ofs p0.toNatClampNeg p1) (upd ak p0.toNatClampNeg (sq_max (ak p0.toNatClampNeg) p4)) (upd hd p0.toNatClampNeg p5) (upd an p0.toNatClampNeg 1) ++ rs) := hD
                refine lv_iconst (v := 0) hx hb dX0_stored_55 (by decide) ?_
                have e_ofs : (if p1 < p2 then upd ofs p0.toNatClampNeg p1 else upd ofs p0.toNatClampNeg 0) = upd ofs p0.toNatClampNeg p1 := by first | (simp [hv_1, hv_2, hv_3, hv_4, hv_5, hv_6, c_7, (Int32.not_le.mp c_7)]; done) | (simp only [hv_1, hv_2, hv_3, hv_4, hv_5, hv_6, c_7, (Int32.not_le.mp c_7), eq_self, not_true_eq_false, not_false_eq_true, and_self, and_true, true_and, and_false, false_and, or_true, true_or, or_false, false_or, if_true, if_false, ite_true, ite_false, Bool.and_eq_true, decide_true, decide_false, decide_eq_true_eq, ne_eq, Nat.reduceEqDiff, Nat.one_ne_zero, Bool.false_eq_true, reduceCtorEq]; done) | (simp only [hv_1, hv_2, hv_3, hv_4, hv_5, hv_6, c_7, (Int32.not_le.mp c_7), eq_self, not_true_eq_false, not_false_eq_true, and_self, and_true, true_and, and_false, false_and, or_true, true_or, or_false, false_or, if_true, if_false, ite_true, ite_false, Bool.and_eq_true, decide_true, decide_false, decide_eq_true_eq, ne_eq, Nat.reduceEqDiff, Nat.one_ne_zero, Bool.false_eq_true, reduceCtorEq]; decide)
                have e_mt : (if p1 < p2 then mt else upd mt p0.toNatClampNeg (sq_max (mt p0.toNatClampNeg) p3)) = mt := by first | (simp [hv_1, hv_2, hv_3, hv_4, hv_5, hv_6, c_7, (Int32.not_le.mp c_7)]; done) | (simp only [hv_1, hv_2, hv_3, hv_4, hv_5, hv_6, c_7, (Int32.not_le.mp c_7), eq_self, not_true_eq_false, not_false_eq_true, and_self, and_true, true_and, and_false, false_and, or_true, true_or, or_false, false_or, if_true, if_false, ite_true, ite_false, Bool.and_eq_true, decide_true, decide_false, decide_eq_true_eq, ne_eq, Nat.reduceEqDiff, Nat.one_ne_zero, Bool.false_eq_true, reduceCtorEq]; done) | (simp only [hv_1, hv_2, hv_3, hv_4, hv_5, hv_6, c_7, (Int32.not_le.mp c_7), eq_self, not_true_eq_false, not_false_eq_true, and_self, and_true, true_and, and_false, false_and, or_true, true_or, or_false, false_or, if_true, if_false, ite_true, ite_false, Bool.and_eq_true, decide_true, decide_false, decide_eq_true_eq, ne_eq, Nat.reduceEqDiff, Nat.one_ne_zero, Bool.false_eq_true, reduceCtorEq]; decide)
                have e_nx : (if p1 < p2 then nx else upd nx p0.toNatClampNeg (p3 + 1)) = nx := by first | (simp [hv_1, hv_2, hv_3, hv_4, hv_5, hv_6, c_7, (Int32.not_le.mp c_7)]; done) | (simp only [hv_1, hv_2, hv_3, hv_4, hv_5, hv_6, c_7, (Int32.not_le.mp c_7), eq_self, not_true_eq_false, not_false_eq_true, and_self, and_true, true_and, and_false, false_and, or_true, true_or, or_false, false_or, if_true, if_false, ite_true, ite_false, Bool.and_eq_true, decide_true, decide_false, decide_eq_true_eq, ne_eq, Nat.reduceEqDiff, Nat.one_ne_zero, Bool.false_eq_true, reduceCtorEq]; done) | (simp only [hv_1, hv_2, hv_3, hv_4, hv_5, hv_6, c_7, (Int32.not_le.mp c_7), eq_self, not_true_eq_false, not_false_eq_true, and_self, and_true, true_and, and_false, false_and, or_true, true_or, or_false, false_or, if_true, if_false, ite_true, ite_false, Bool.and_eq_true, decide_true, decide_false, decide_eq_true_eq, ne_eq, Nat.reduceEqDiff, Nat.one_ne_zero, Bool.false_eq_true, reduceCtorEq]; decide)
                have e_pr : (if p1 < p2 then pr else upd pr p0.toNatClampNeg 1) = pr := by first | (simp [hv_1, hv_2, hv_3, hv_4, hv_5, hv_6, c_7, (Int32.not_le.mp c_7)]; done) | (simp only [hv_1, hv_2, hv_3, hv_4, hv_5, hv_6, c_7, (Int32.not_le.mp c_7), eq_self, not_true_eq_false, not_false_eq_true, and_self, and_true, true_and, and_false, false_and, or_true, true_or, or_false, false_or, if_true, if_false, ite_true, ite_false, Bool.and_eq_true, decide_true, decide_false, decide_eq_true_eq, ne_eq, Nat.reduceEqDiff, Nat.one_ne_zero, Bool.false_eq_true, reduceCtorEq]; done) | (simp only [hv_1, hv_2, hv_3, hv_4, hv_5, hv_6, c_7, (Int32.not_le.mp c_7), eq_self, not_true_eq_false, not_false_eq_true, and_self, and_true, true_and, and_false, false_and, or_true, true_or, or_false, false_or, if_true, if_false, ite_true, ite_false, Bool.and_eq_true, decide_true, decide_false, decide_eq_true_eq, ne_eq, Nat.reduceEqDiff, Nat.one_ne_zero, Bool.false_eq_true, reduceCtorEq]; decide)
                exact kz_wretz hx hb hr hlocks (by rw [e_ofs, e_mt, e_nx, e_pr]; exact hP) (by rw [e_ofs, e_mt, e_nx, e_pr]; exact hD) hS (Nat.le_of_ble_eq_true rfl) (Nat.le_of_ble_eq_true rfl) (⟨by first | (simp [tc_stored, hv_1, hv_2, hv_3, hv_4, hv_5, hv_6, c_7, (Int32.not_le.mp c_7)]; done) | (simp only [tc_stored, hv_1, hv_2, hv_3, hv_4, hv_5, hv_6, c_7, (Int32.not_le.mp c_7), eq_self, not_true_eq_false, not_false_eq_true, and_self, and_true, true_and, and_false, false_and, or_true, true_or, or_false, false_or, if_true, if_false, ite_true, ite_false, Bool.and_eq_true, decide_true, decide_false, decide_eq_true_eq, ne_eq, Nat.reduceEqDiff, Nat.one_ne_zero, Bool.false_eq_true, reduceCtorEq]; done) | (simp only [tc_stored, hv_1, hv_2, hv_3, hv_4, hv_5, hv_6, c_7, (Int32.not_le.mp c_7), eq_self, not_true_eq_false, not_false_eq_true, and_self, and_true, true_and, and_false, false_and, or_true, true_or, or_false, false_or, if_true, if_false, ite_true, ite_false, Bool.and_eq_true, decide_true, decide_false, decide_eq_true_eq, ne_eq, Nat.reduceEqDiff, Nat.one_ne_zero, Bool.false_eq_true, reduceCtorEq]; decide), by first | (simp [sq_z, hv_1, hv_2, hv_3, hv_4, hv_5, hv_6, c_7, (Int32.not_le.mp c_7)]; done) | (simp only [sq_z, hv_1, hv_2, hv_3, hv_4, hv_5, hv_6, c_7, (Int32.not_le.mp c_7), eq_self, not_true_eq_false, not_false_eq_true, and_self, and_true, true_and, and_false, false_and, or_true, true_or, or_false, false_or, if_true, if_false, ite_true, ite_false, Bool.and_eq_true, decide_true, decide_false, decide_eq_true_eq, ne_eq, Nat.reduceEqDiff, Nat.one_ne_zero, Bool.false_eq_true, reduceCtorEq]; done) | (simp only [sq_z, hv_1, hv_2, hv_3, hv_4, hv_5, hv_6, c_7, (Int32.not_le.mp c_7), eq_self, not_true_eq_false, not_false_eq_true, and_self, and_true, true_and, and_false, false_and, or_true, true_or, or_false, false_or, if_true, if_false, ite_true, ite_false, Bool.and_eq_true, decide_true, decide_false, decide_eq_true_eq, ne_eq, Nat.reduceEqDiff, Nat.one_ne_zero, Bool.false_eq_true, reduceCtorEq]; decide)⟩) rfl dX0_stored_56
set_option maxHeartbeats 4000000 in
set_option maxRecDepth 100000 in
theorem c_X0_own (l : Launch) (hl9 : l.stackTraces = false) (D : va_G) (cI cZ : ClassId) (ty : kz_Y) (ad : Nat → Nat) (rs : va_W) (sz : Nat) (it o n g v r : Int32) (nx mt fl pr ofs ak hd an : Nat → Int32) (p0 : Int32) (p1 : Int32) (hit : vp_in it 7) : ez_M l yX0_own wsX0_own ({ frames := 7, cells := 1, slots := 6, locals := 110 } : Room) (kz_P D ((cI, .int) :: (cZ, .boolean) :: ty) (wX ad cI cZ it o n g v r nx mt fl pr ofs ak hd an ++ rs) sz [.ref (ad 0), .int p0, .int p1]) (kz_Wr D (va_A (wX ad cI cZ it o n g v r nx mt fl pr ofs ak hd an ++ rs) sz) (kz_v (tc_own p0 p1 = 0)) (wX ad cI cZ it o n g v r nx (upd mt it.toNatClampNeg p0) fl pr ofs (upd ak it.toNatClampNeg r) (upd hd it.toNatClampNeg p1) an ++ rs)) (kz_T (fun _ => IAE) (fun k => k = tc_own p0 p1 ∧ ¬ k = 0)) 0 0 (va_A (wX ad cI cZ it o n g v r nx mt fl pr ofs ak hd an ++ rs) sz) := by
  refine ez_ofW (cc := cX0_own) (maxL := 3) (ret := none) (by decide) rfl ?_
  intro p e s m args below meth c s₁ B hml hTab hv
  obtain ⟨rfl, hsz, hP, hK, hD0, hE⟩ := hv
  have hx := B.exec
  have hb := B.bytes
  have hr := B.returns
  have hw9 : ∀ w ∈ kz_W9, w.before ([.ref (ad 0), .int p0, .int p1] : List Value).toArray s = true := fun w h => atoms_spec (ws := wsX0_own) B.pre w (List.mem_cons_of_mem _ h)
  have hown : s.vm.findClass RX0 = some m.cls := findClass_of_methodNamed B.named
  have hlocks := B.notSynchronized
  subst hsz
  have hD := hD0.self (sz := s.heap.size)
  generalize hAe : va_A (wX ad cI cZ it o n g v r nx mt fl pr ofs ak hd an ++ rs) s.heap.size = A at hD hE ⊢
  have hA : ∀ q : Nat, s.heap.size ≤ q → A q := fun q h => by rw [← hAe]; exact Or.inr h
  have hS : va_S A s.heap s.heap [] := va_S.rf
  have hO : kz_O s.heap s.heap := kz_O.rf _
  have hl := lv_entry ([.ref (ad 0), .int p0, .int p1]) (n := 3) (Nat.le_of_ble_eq_true rfl)
  rw [lg_entry_eq]
  generalize (lg_sl ([.ref (ad 0), .int p0, .int p1]) ++ List.replicate (3 - (lg_sl ([.ref (ad 0), .int p0, .int p1])).length) Slot.unset).toArray = ls at hl ⊢
  have hl : lv_has ls 3 [(0, .ref (ad 0)), (1, .int p0), (2, .int p1)] := hl
  refine lv_iload_n hx hb dX0_own_0 rfl (lv_at hl 1 rfl) ?_
  refine kz_rS (As := [.int p0]) (rest := []) ⟨hx, hb, hml, hown, hw9⟩ (c_X0_requireNumber l hl9 D ((cI, .int) :: (cZ, .boolean) :: ty) (wX ad cI cZ it o n g v r nx mt fl pr ofs ak hd an ++ rs) s.heap.size p0) (kz_cS 1 hw9 mw_266 mw_267 mw_1 mw_268 rfl rfl (by decide +kernel) ⟨Nat.le_of_ble_eq_true rfl, Nat.le_of_ble_eq_true rfl⟩) (kz_preS hK hP hD hS hA hE) rfl hl.1 rfl (Nat.le_of_ble_eq_true rfl) dX0_own_1 ⟨Nat.le_of_ble_eq_true rfl, Nat.le_of_ble_eq_true rfl⟩ (fun k ce q9 H1 hk hO1 hce hcv hcl => ?_) (fun v9 H hv9 hO1 => ?_)
  · -- thrown
    exact kz_out (k := 1) hTab hlocks (by first | (simp [tc_own, hk]; done) | (simp only [tc_own, hk, eq_self, not_true_eq_false, not_false_eq_true, and_self, and_true, true_and, and_false, false_and, or_true, true_or, or_false, false_or, if_true, if_false, ite_true, ite_false, Bool.and_eq_true, decide_true, decide_false, decide_eq_true_eq, ne_eq, Nat.reduceEqDiff, Nat.one_ne_zero, Bool.false_eq_true, reduceCtorEq]; done) | (simp only [tc_own, hk, eq_self, not_true_eq_false, not_false_eq_true, and_self, and_true, true_and, and_false, false_and, or_true, true_or, or_false, false_or, if_true, if_false, ite_true, ite_false, Bool.and_eq_true, decide_true, decide_false, decide_eq_true_eq, ne_eq, Nat.reduceEqDiff, Nat.one_ne_zero, Bool.false_eq_true, reduceCtorEq]; decide)) (hO.tr hO1) hce hcv hcl (fun _ h => nomatch h) (Nat.le_of_ble_eq_true rfl) (Nat.le_of_ble_eq_true rfl)
  · -- goes on
    obtain ⟨rfl, hv_1⟩ := hv9
    have hP := hO1.P hP
    have hS := hO1.S hS
    have hO := hO.tr hO1
    refine W.eq (g2 := F0 m 4 ls []) rfl ?_
    refine lv_iload_n hx hb dX0_own_4 rfl (lv_at hl 2 rfl) ?_
    refine kz_rS (As := [.int p1]) (rest := []) ⟨hx, hb, hml, hown, hw9⟩ (c_X0_requireNumber l hl9 D ((cI, .int) :: (cZ, .boolean) :: ty) (wX ad cI cZ it o n g v r nx mt fl pr ofs ak hd an ++ rs) H.size p1) (kz_cS 1 hw9 mw_266 mw_267 mw_1 mw_268 rfl rfl (by decide +kernel) ⟨Nat.le_of_ble_eq_true rfl, Nat.le_of_ble_eq_true rfl⟩) (kz_preS hK hP hD hS hA hE) rfl hl.1 rfl (Nat.le_of_ble_eq_true rfl) dX0_own_5 ⟨Nat.le_of_ble_eq_true rfl, Nat.le_of_ble_eq_true rfl⟩ (fun k ce q9 H1 hk hO1 hce hcv hcl => ?_) (fun v9 H hv9 hO1 => ?_)
    · -- thrown
      exact kz_out (k := 1) hTab hlocks (by first | (simp [tc_own, hv_1, hk]; done) | (simp only [tc_own, hv_1, hk, eq_self, not_true_eq_false, not_false_eq_true, and_self, and_true, true_and, and_false, false_and, or_true, true_or, or_false, false_or, if_true, if_false, ite_true, ite_false, Bool.and_eq_true, decide_true, decide_false, decide_eq_true_eq, ne_eq, Nat.reduceEqDiff, Nat.one_ne_zero, Bool.false_eq_true, reduceCtorEq]; done) | (simp only [tc_own, hv_1, hk, eq_self, not_true_eq_false, not_false_eq_true, and_self, and_true, true_and, and_false, false_and, or_true, true_or, or_false, false_or, if_true, if_false, ite_true, ite_false, Bool.and_eq_true, decide_true, decide_false, decide_eq_true_eq, ne_eq, Nat.reduceEqDiff, Nat.one_ne_zero, Bool.false_eq_true, reduceCtorEq]; decide)) (hO.tr hO1) hce hcv hcl (fun _ h => nomatch h) (Nat.le_of_ble_eq_true rfl) (Nat.le_of_ble_eq_true rfl)
    · -- goes on
      obtain ⟨rfl, hv_2⟩ := hv9
      have hP := hO1.P hP
      have hS := hO1.S hS
      have hO := hO.tr hO1
      refine W.eq (g2 := F0 m 8 ls []) rfl ?_
      refine lv_aload_n hx hb dX0_own_8 rfl (lv_at hl 0 rfl) ?_
      refine va_get (D := D) (ci := 0) (v := .ref (ad 2)) (C := RX0) (T := TX0) (N := 14) hx hb hw9 uX0 hown hK hP 0 rfl rfl 7 (by decide) (hw9 _ mw_26) (fun _ h9 => h9) rfl dX0_own_9 ?_
      refine lv_aload_n hx hb dX0_own_12 rfl (lv_at hl 0 rfl) ?_
      refine va_get (D := D) (ci := 0) (v := .int it) (C := RX0) (T := TX0) (N := 14) hx hb hw9 uX0 hown hK hP 0 rfl rfl 0 (by decide) (hw9 _ mw_19) (fun _ h9 => h9) rfl dX0_own_13 ?_
      refine lv_iload_n hx hb dX0_own_16 rfl (lv_at hl 1 rfl) ?_
      refine va_iast hx hb hK hP hD hS 2 0 rfl rfl hit dX0_own_17 (fun H locs hP hD hS => ?_)
      have hP : va_P D vwCl (wX ad cI cZ it o n g v r nx (upd mt it.toNatClampNeg p0) fl pr ofs ak hd an ++ rs) H := hP
      have hD : va_D A (wX ad cI cZ it o n g v r nx (upd mt it.toNatClampNeg p0) fl pr ofs ak hd an ++ rs) := hD
      refine lv_aload_n hx hb dX0_own_18 rfl (lv_at hl 0 rfl) ?_
      refine va_get (D := D) (ci := 0) (v := .ref (ad 7)) (C := RX0) (T := TX0) (N := 14) hx hb hw9 uX0 hown hK hP 0 rfl rfl 12 (by decide) (hw9 _ mw_31) (fun _ h9 => h9) rfl dX0_own_19 ?_
      refine lv_aload_n hx hb dX0_own_22 rfl (lv_at hl 0 rfl) ?_
      refine va_get (D := D) (ci := 0) (v := .int it) (C := RX0) (T := TX0) (N := 14) hx hb hw9 uX0 hown hK hP 0 rfl rfl 0 (by decide) (hw9 _ mw_19) (fun _ h9 => h9) rfl dX0_own_23 ?_
      refine lv_iload_n hx hb dX0_own_26 rfl (lv_at hl 2 rfl) ?_
      refine va_iast hx hb hK hP hD hS 7 0 rfl rfl hit dX0_own_27 (fun H locs hP hD hS => ?_)
      have hP : va_P D vwCl (wX ad cI cZ it o n g v r nx (upd mt it.toNatClampNeg p0) fl pr ofs ak (upd hd it.toNatClampNeg p1) an ++ rs) H := hP
      have hD : va_D A (wX ad cI cZ it o n g v r nx (upd mt it.toNatClampNeg p0) fl pr ofs ak (upd hd it.toNatClampNeg p1) an ++ rs) := hD
      refine lv_aload_n hx hb dX0_own_28 rfl (lv_at hl 0 rfl) ?_
      refine va_get (D := D) (ci := 0) (v := .ref (ad 6)) (C := RX0) (T := TX0) (N := 14) hx hb hw9 uX0 hown hK hP 0 rfl rfl 11 (by decide) (hw9 _ mw_30) (fun _ h9 => h9) rfl dX0_own_29 ?_
      refine lv_aload_n hx hb dX0_own_32 rfl (lv_at hl 0 rfl) ?_
      refine va_get (D := D) (ci := 0) (v := .int it) (C := RX0) (T := TX0) (N := 14) hx hb hw9 uX0 hown hK hP 0 rfl rfl 0 (by decide) (hw9 _ mw_19) (fun _ h9 => h9) rfl dX0_own_33 ?_
      refine lv_aload_n hx hb dX0_own_36 rfl (lv_at hl 0 rfl) ?_
      refine va_get (D := D) (ci := 0) (v := .int r) (C := RX0) (T := TX0) (N := 14) hx hb hw9 uX0 hown hK hP 0 rfl rfl 5 (by decide) (hw9 _ mw_24) (fun _ h9 => h9) rfl dX0_own_37 ?_
      refine va_iast hx hb hK hP hD hS 6 0 rfl rfl hit dX0_own_40 (fun H locs hP hD hS => ?_)
      have hP : va_P D vwCl (wX ad cI cZ it o n g v r nx (upd mt it.toNatClampNeg p0) fl pr ofs (upd ak it.toNatClampNeg r) (upd hd it.toNatClampNeg p1) an ++ rs) H := hP
      have hD : va_D A (wX ad cI cZ it o n g v r nx (upd mt it.toNatClampNeg p0) fl pr ofs (upd ak it.toNatClampNeg r) (upd hd it.toNatClampNeg p1) an ++ rs) := hD
      exact kz_wretv hx hb hr hlocks hP hD hS (Nat.le_of_ble_eq_true rfl) (Nat.le_of_ble_eq_true rfl) (by first | (simp [tc_own, hv_1, hv_2]; done) | (simp only [tc_own, hv_1, hv_2, eq_self, not_true_eq_false, not_false_eq_true, and_self, and_true, true_and, and_false, false_and, or_true, true_or, or_false, false_or, if_true, if_false, ite_true, ite_false, Bool.and_eq_true, decide_true, decide_false, decide_eq_true_eq, ne_eq, Nat.reduceEqDiff, Nat.one_ne_zero, Bool.false_eq_true, reduceCtorEq]; done) | (simp only [tc_own, hv_1, hv_2, eq_self, not_true_eq_false, not_false_eq_true, and_self, and_true, true_and, and_false, false_and, or_true, true_or, or_false, false_or, if_true, if_false, ite_true, ite_false, Bool.and_eq_true, decide_true, decide_false, decide_eq_true_eq, ne_eq, Nat.reduceEqDiff, Nat.one_ne_zero, Bool.false_eq_true, reduceCtorEq]; decide))  dX0_own_41
set_option maxHeartbeats 4000000 in
set_option maxRecDepth 100000 in
theorem c_X0_whatMajorityHas (l : Launch) (hl9 : l.stackTraces = false) (D : va_G) (cI cZ : ClassId) (ty : kz_Y) (ad : Nat → Nat) (rs : va_W) (sz : Nat) (it o n g v r : Int32) (nx mt fl pr ofs ak hd an : Nat → Int32) (f : Nat → Int32) (q0 : Nat) (a0 : Nat) (hq : (wX ad cI cZ it o n g v r nx mt fl pr ofs ak hd an ++ rs)[q0]? = some (a0, .inl (cI, 7, .inl f))) : ez_M l yX0_whatMajorityHas wsX0_whatMajorityHas ({ frames := 3, cells := 1, slots := 6, locals := 62 } : Room) (kz_P D ((cI, .int) :: (cZ, .boolean) :: ty) (wX ad cI cZ it o n g v r nx mt fl pr ofs ak hd an ++ rs) sz [.ref (ad 0), .ref a0]) (kz_Ro (kz_i (fun r9 => r9 = (sq_A o n f 7)))) (kz_T (fun _ => IAE) (fun _ => False)) 0 0 (fun _ => False) := by
  refine ez_ofW (cc := cX0_whatMajorityHas) (maxL := 4) (ret := (some .int)) (by decide) rfl ?_
  intro p e s m args below meth c s₁ B hml hTab hv
  obtain ⟨rfl, hsz, hP, hK, hD0, hE⟩ := hv
  have hx := B.exec
  have hb := B.bytes
  have hr := B.returns
  have hw9 : ∀ w ∈ kz_W9, w.before ([.ref (ad 0), .ref a0] : List Value).toArray s = true := fun w h => atoms_spec (ws := wsX0_whatMajorityHas) B.pre w (List.mem_cons_of_mem _ h)
  have hown : s.vm.findClass RX0 = some m.cls := findClass_of_methodNamed B.named
  have hlocks := B.notSynchronized
  subst hsz
  have hD := hD0.self (sz := s.heap.size)
  generalize hAe : va_A (wX ad cI cZ it o n g v r nx mt fl pr ofs ak hd an ++ rs) s.heap.size = A at hD hE
  have hA : ∀ q : Nat, s.heap.size ≤ q → A q := fun q h => by rw [← hAe]; exact Or.inr h
  have hS : va_S A s.heap s.heap [] := va_S.rf
  have hO : kz_O s.heap s.heap := kz_O.rf _
  have hl := lv_entry ([.ref (ad 0), .ref a0]) (n := 4) (Nat.le_of_ble_eq_true rfl)
  rw [lg_entry_eq]
  generalize (lg_sl ([.ref (ad 0), .ref a0]) ++ List.replicate (4 - (lg_sl ([.ref (ad 0), .ref a0])).length) Slot.unset).toArray = ls at hl ⊢
  have hl : lv_has ls 4 [(0, .ref (ad 0)), (1, .ref a0)] := hl
  refine lv_iconst (v := 0) hx hb dX0_whatMajorityHas_0 (by decide) ?_
  refine lv_istore_n (lv' := [(2, .int 0), (0, .ref (ad 0)), (1, .ref a0)]) hx hb dX0_whatMajorityHas_1 rfl hl (by decide) rfl (fun ls hl => ?_)
  refine lv_iconst (v := 0) hx hb dX0_whatMajorityHas_2 (by decide) ?_
  refine lv_istore_n (lv' := [(3, .int 0), (2, .int 0), (0, .ref (ad 0)), (1, .ref a0)]) hx hb dX0_whatMajorityHas_3 rfl hl (by decide) rfl (fun ls hl => ?_)
  have loop : ∀ (k i : Nat) (H : Heap) (ls : Array Slot), i ≤ 7 → 7 < i + k → va_P D vwCl (wX ad cI cZ it o n g v r nx mt fl pr ofs ak hd an ++ rs) H → va_S A s.heap H [] → kz_O s.heap H → lv_has ls 4 [(3, .int (nI i)), (2, .int (sq_A o n f i)), (0, .ref (ad 0)), (1, .ref a0)] → W p l e (headSpec wsX0_whatMajorityHas ({ frames := 3, cells := 1, slots := 6, locals := 62 } : Room)).room s m ([.ref (ad 0), .ref a0] : List Value).toArray below meth c H [] 0 0 (ez_MQ below (kz_Ro (kz_i (fun r9 => r9 = (sq_A o n f 7)))) (kz_T (fun _ => IAE) (fun _ => False)) s 0 0 (fun _ => False)) (F0 m 4 ls []) := by
    intro k
    induction k with
    | zero => intro i H ls h1 h2; omega
    | succ k ih =>
      intro i H ls h1 h2 hP hS hO hl
      refine lv_iload_n hx hb dX0_whatMajorityHas_4 rfl (lv_at hl 0 rfl) ?_
      refine lv_aload_n hx hb dX0_whatMajorityHas_5 rfl (lv_at hl 3 rfl) ?_
      refine va_alen (v := 7) hx hb hK hP q0 0 hq rfl rfl dX0_whatMajorityHas_6 ?_
      refine lv_icmp_ge (tgt := 41) hx hb dX0_whatMajorityHas_7 (by decide) (fun c_1 => ?_) (fun c_1 => ?_)
      · -- 7 -> 41
        refine lv_iload_n hx hb dX0_whatMajorityHas_41 rfl (lv_at hl 1 rfl) ?_
        exact kz_reti hx hb hr hlocks hO (by rw [show i = 7 from kz_i7 h1 c_1])  dX0_whatMajorityHas_42
      · -- 7 -> 10
        have hi9 : i < 7 := kz_l7 h1 c_1
        have hc9 : (nI i).toNatClampNeg = i := nI_clamp (by omega)
        refine lv_aload_n hx hb dX0_whatMajorityHas_10 rfl (lv_at hl 3 rfl) ?_
        refine lv_iload_n hx hb dX0_whatMajorityHas_11 rfl (lv_at hl 0 rfl) ?_
        refine va_iald hx hb hK hP q0 0 hq rfl (vp_in_nI hi9 (by decide)) dX0_whatMajorityHas_12 ?_
        rw [hc9]
        refine lv_iload_n hx hb dX0_whatMajorityHas_13 rfl (lv_at hl 1 rfl) ?_
        refine lv_icmp_le (tgt := 35) hx hb dX0_whatMajorityHas_14 (by decide) (fun c_2 => ?_) (fun c_2 => ?_)
        · -- 14 -> 35
          obtain ⟨v_3, ev_3⟩ : ∃ y : Int32, y = (nI i) + 1 := ⟨_, rfl⟩
          refine lv_iinc (v := v_3) (lv' := [(3, .int v_3), (2, .int (sq_A o n f i)), (0, .ref (ad 0)), (1, .ref a0)]) hx hb dX0_whatMajorityHas_35 hl (k := 0) rfl (by rw [ev_3]; rfl) (by decide) rfl (fun ls hl => ?_)
          refine lv_goto (tgt := 4) hx hb dX0_whatMajorityHas_38 (by decide) ?_
          obtain rfl : v_3 = nI (i + 1) := by rw [ev_3, nI_1]
          have e9 : sq_A o n f (i + 1) = (sq_A o n f i) := by simp [sq_A, c_1, (Int32.not_le.mp c_1), c_2, (Int32.not_lt.mpr c_2)]
          exact ih (i + 1) H ls (by omega) (by omega) hP hS hO (by rw [e9]; exact lv_sub hl [0, 1, 2, 3] rfl)
        · -- 14 -> 17
          refine lv_aload_n hx hb dX0_whatMajorityHas_17 rfl (lv_at hl 2 rfl) ?_
          refine lv_aload_n hx hb dX0_whatMajorityHas_18 rfl (lv_at hl 3 rfl) ?_
          refine lv_aload_n hx hb dX0_whatMajorityHas_19 rfl (lv_at hl 3 rfl) ?_
          refine lv_iload_n hx hb dX0_whatMajorityHas_20 rfl (lv_at hl 0 rfl) ?_
          refine va_iald hx hb hK hP q0 0 hq rfl (vp_in_nI hi9 (by decide)) dX0_whatMajorityHas_21 ?_
          rw [hc9]
          refine kz_rS (As := [.ref a0, .int (f i)]) (rest := [.ref (ad 0)]) ⟨hx, hb, hml, hown, hw9⟩ (c_X0_thoseWithAtLeast l hl9 D ((cI, .int) :: (cZ, .boolean) :: ty) (wX ad cI cZ it o n g v r nx mt fl pr ofs ak hd an ++ rs) H.size cI f q0 0 a0 (f i) hq rfl) (kz_cS 2 hw9 mw_184 mw_185 mw_1 mw_186 rfl rfl (by decide +kernel) ⟨Nat.le_of_ble_eq_true rfl, Nat.le_of_ble_eq_true rfl⟩) (kz_preS hK hP hD hS hA hE) rfl hl.1 rfl (Nat.le_of_ble_eq_true rfl) dX0_whatMajorityHas_22 ⟨Nat.le_of_ble_eq_true rfl, Nat.le_of_ble_eq_true rfl⟩ (fun _ _ _ _ h => False.elim h) (fun v9 H hv9 hO1 => ?_)
          obtain ⟨_, rfl, rfl⟩ := hv9
          have hP := hO1.P hP
          have hS := hO1.S hS
          have hO := hO.tr hO1
          refine W.eq (g2 := F0 m 25 ls [.int (sq_L f (f i) 7), .ref (ad 0)]) rfl ?_
          refine kz_rV (As := [.int (sq_L f (f i) 7)]) (rest := []) ⟨hx, hb, hml, hown, hw9⟩ (c_X0_isMajority l hl9 D cI cZ ty ad rs H.size it o n g v r nx mt fl pr ofs ak hd an (sq_L f (f i) 7)) (kz_cV 1 hw9 mw_219 mw_221 ms_4 mw_1 mw_222 rfl rfl (by decide +kernel) ⟨Nat.le_of_ble_eq_true rfl, Nat.le_of_ble_eq_true rfl⟩) (kz_preV (q0 := 0) (ci := 0) hK hP hD hS hA hE rfl rfl) rfl hl.1 rfl (Nat.le_of_ble_eq_true rfl) dX0_whatMajorityHas_25 ⟨Nat.le_of_ble_eq_true rfl, Nat.le_of_ble_eq_true rfl⟩ (fun _ _ _ _ h => False.elim h) (fun v9 H hv9 hO1 => ?_)
          obtain ⟨_, rfl, rfl⟩ := hv9
          have hP := hO1.P hP
          have hS := hO1.S hS
          have hO := hO.tr hO1
          refine W.eq (g2 := F0 m 28 ls [.int (sq_z (sq_M o n (sq_L f (f i) 7)))]) rfl ?_
          refine lv_if_eq (tgt := 35) hx hb dX0_whatMajorityHas_28 (by decide) (fun c_4 => ?_) (fun c_4 => ?_)
          · -- 28 -> 35
            obtain ⟨v_5, ev_5⟩ : ∃ y : Int32, y = (nI i) + 1 := ⟨_, rfl⟩
            refine lv_iinc (v := v_5) (lv' := [(3, .int v_5), (2, .int (sq_A o n f i)), (0, .ref (ad 0)), (1, .ref a0)]) hx hb dX0_whatMajorityHas_35 hl (k := 0) rfl (by rw [ev_5]; rfl) (by decide) rfl (fun ls hl => ?_)
            refine lv_goto (tgt := 4) hx hb dX0_whatMajorityHas_38 (by decide) ?_
            obtain rfl : v_5 = nI (i + 1) := by rw [ev_5, nI_1]
            have e9 : sq_A o n f (i + 1) = (sq_A o n f i) := by simp [sq_A, c_1, (Int32.not_le.mp c_1), c_2, (Int32.not_le.mp c_2), (sq_z_f c_4)]
            exact ih (i + 1) H ls (by omega) (by omega) hP hS hO (by rw [e9]; exact lv_sub hl [0, 1, 2, 3] rfl)
          · -- 28 -> 31
            refine lv_aload_n hx hb dX0_whatMajorityHas_31 rfl (lv_at hl 3 rfl) ?_
            refine lv_iload_n hx hb dX0_whatMajorityHas_32 rfl (lv_at hl 0 rfl) ?_
            refine va_iald hx hb hK hP q0 0 hq rfl (vp_in_nI hi9 (by decide)) dX0_whatMajorityHas_33 ?_
            rw [hc9]
            refine lv_istore_n (lv' := [(2, .int (f i)), (3, .int (nI i)), (0, .ref (ad 0)), (1, .ref a0)]) hx hb dX0_whatMajorityHas_34 rfl hl (by decide) rfl (fun ls hl => ?_)
            obtain ⟨v_6, ev_6⟩ : ∃ y : Int32, y = (nI i) + 1 := ⟨_, rfl⟩
            refine lv_iinc (v := v_6) (lv' := [(3, .int v_6), (2, .int (f i)), (0, .ref (ad 0)), (1, .ref a0)]) hx hb dX0_whatMajorityHas_35 hl (k := 1) rfl (by rw [ev_6]; rfl) (by decide) rfl (fun ls hl => ?_)
            refine lv_goto (tgt := 4) hx hb dX0_whatMajorityHas_38 (by decide) ?_
            obtain rfl : v_6 = nI (i + 1) := by rw [ev_6, nI_1]
            have e9 : sq_A o n f (i + 1) = (f i) := by simp [sq_A, c_1, (Int32.not_le.mp c_1), c_2, (Int32.not_le.mp c_2), (sq_z_t c_4)]
            exact ih (i + 1) H ls (by omega) (by omega) hP hS hO (by rw [e9]; exact lv_sub hl [0, 1, 2, 3] rfl)
  exact loop 8 0 _ ls (by decide) (by decide) hP hS hO (lv_sub hl [0, 1, 2, 3] rfl)
end
section
set_option maxHeartbeats 4000000 in
set_option maxRecDepth 100000 in
theorem c_X0_agreed (l : Launch) (hl9 : l.stackTraces = false) (D : va_G) (cI cZ : ClassId) (ty : kz_Y) (ad : Nat → Nat) (rs : va_W) (sz : Nat) (it o n g v r : Int32) (nx mt fl pr ofs ak hd an : Nat → Int32) (p0 : Int32) : ez_M l yX0_agreed wsX0_agreed ({ frames := 6, cells := 1, slots := 6, locals := 90 } : Room) (kz_P D ((cI, .int) :: (cZ, .boolean) :: ty) (wX ad cI cZ it o n g v r nx mt fl pr ofs ak hd an ++ rs) sz [.ref (ad 0), .int p0]) (kz_Ro (kz_i (fun r9 => (tc_agreed p0 = 0) ∧ r9 = (if p0 = 0 then sq_A o n mt 7 else if p0 = 1 then sq_A o n ak 7 else sq_A o n hd 7)))) (kz_T (fun _ => IAE) (fun k => k = tc_agreed p0 ∧ ¬ k = 0)) 0 0 (fun _ => False) := by
  refine ez_ofW (cc := cX0_agreed) (maxL := 2) (ret := (some .int)) (by decide) rfl ?_
  intro p e s m args below meth c s₁ B hml hTab hv
  obtain ⟨rfl, hsz, hP, hK, hD0, hE⟩ := hv
  have hx := B.exec
  have hb := B.bytes
  have hr := B.returns
  have hw9 : ∀ w ∈ kz_W9, w.before ([.ref (ad 0), .int p0] : List Value).toArray s = true := fun w h => atoms_spec (ws := wsX0_agreed) B.pre w (List.mem_cons_of_mem _ h)
  have hown : s.vm.findClass RX0 = some m.cls := findClass_of_methodNamed B.named
  have hlocks := B.notSynchronized
  subst hsz
  have hD := hD0.self (sz := s.heap.size)
  generalize hAe : va_A (wX ad cI cZ it o n g v r nx mt fl pr ofs ak hd an ++ rs) s.heap.size = A at hD hE
  have hA : ∀ q : Nat, s.heap.size ≤ q → A q := fun q h => by rw [← hAe]; exact Or.inr h
  have hS : va_S A s.heap s.heap [] := va_S.rf
  have hO : kz_O s.heap s.heap := kz_O.rf _
  have hl := lv_entry ([.ref (ad 0), .int p0]) (n := 2) (Nat.le_of_ble_eq_true rfl)
  rw [lg_entry_eq]
  generalize (lg_sl ([.ref (ad 0), .int p0]) ++ List.replicate (2 - (lg_sl ([.ref (ad 0), .int p0])).length) Slot.unset).toArray = ls at hl ⊢
  have hl : lv_has ls 2 [(0, .ref (ad 0)), (1, .int p0)] := hl
  refine lv_iload_n hx hb dX0_agreed_0 rfl (lv_at hl 1 rfl) ?_
  by_cases c_1 : p0 = 0
  · -- case 0
    refine lv_tableIn (tgt := 28) hx hb dX0_agreed_1 (by rw [c_1]; decide) (by rw [c_1]; decide) (by rw [c_1]; rfl) (by decide) ?_
    refine lv_aload_n hx hb dX0_agreed_28 rfl (lv_at hl 0 rfl) ?_
    refine lv_aload_n hx hb dX0_agreed_29 rfl (lv_at hl 0 rfl) ?_
    refine va_get (D := D) (ci := 0) (v := .ref (ad 2)) (C := RX0) (T := TX0) (N := 14) hx hb hw9 uX0 hown hK hP 0 rfl rfl 7 (by decide) (hw9 _ mw_26) (fun _ h9 => h9) rfl dX0_agreed_30 ?_
    refine kz_rV (As := [.ref (ad 2)]) (rest := []) ⟨hx, hb, hml, hown, hw9⟩ (c_X0_whatMajorityHas l hl9 D cI cZ ty ad rs s.heap.size it o n g v r nx mt fl pr ofs ak hd an mt 2 (ad 2) rfl) (kz_cV 1 hw9 mw_341 mw_343 ms_10 mw_1 mw_344 rfl rfl (by decide +kernel) ⟨Nat.le_of_ble_eq_true rfl, Nat.le_of_ble_eq_true rfl⟩) (kz_preV (q0 := 0) (ci := 0) hK hP hD hS hA hE rfl rfl) rfl hl.1 rfl (Nat.le_of_ble_eq_true rfl) dX0_agreed_33 ⟨Nat.le_of_ble_eq_true rfl, Nat.le_of_ble_eq_true rfl⟩ (fun _ _ _ _ h => False.elim h) (fun v9 H hv9 hO1 => ?_)
    obtain ⟨_, rfl, rfl⟩ := hv9
    have hP := hO1.P hP
    have hS := hO1.S hS
    have hO := hO.tr hO1
    refine W.eq (g2 := F0 m 36 ls [.int (sq_A o n mt 7)]) rfl ?_
    exact kz_reti hx hb hr hlocks hO (⟨by first | (simp [tc_agreed, c_1]; done) | (simp only [tc_agreed, c_1, eq_self, not_true_eq_false, not_false_eq_true, and_self, and_true, true_and, and_false, false_and, or_true, true_or, or_false, false_or, if_true, if_false, ite_true, ite_false, Bool.and_eq_true, decide_true, decide_false, decide_eq_true_eq, ne_eq, Nat.reduceEqDiff, Nat.one_ne_zero, Bool.false_eq_true, reduceCtorEq]; done) | (simp only [tc_agreed, c_1, eq_self, not_true_eq_false, not_false_eq_true, and_self, and_true, true_and, and_false, false_and, or_true, true_or, or_false, false_or, if_true, if_false, ite_true, ite_false, Bool.and_eq_true, decide_true, decide_false, decide_eq_true_eq, ne_eq, Nat.reduceEqDiff, Nat.one_ne_zero, Bool.false_eq_true, reduceCtorEq]; decide), by first | (simp [c_1]; done) | (simp only [c_1, eq_self, not_true_eq_false, not_false_eq_true, and_self, and_true, true_and, and_false, false_and, or_true, true_or, or_false, false_or, if_true, if_false, ite_true, ite_false, Bool.and_eq_true, decide_true, decide_false, decide_eq_true_eq, ne_eq, Nat.reduceEqDiff, Nat.one_ne_zero, Bool.false_eq_true, reduceCtorEq]; done) | (simp only [c_1, eq_self, not_true_eq_false, not_false_eq_true, and_self, and_true, true_and, and_false, false_and, or_true, true_or, or_false, false_or, if_true, if_false, ite_true, ite_false, Bool.and_eq_true, decide_true, decide_false, decide_eq_true_eq, ne_eq, Nat.reduceEqDiff, Nat.one_ne_zero, Bool.false_eq_true, reduceCtorEq]; decide)⟩)  dX0_agreed_36
  by_cases c_2 : p0 = 1
  · -- case 1
    refine lv_tableIn (tgt := 37) hx hb dX0_agreed_1 (by rw [c_2]; decide) (by rw [c_2]; decide) (by rw [c_2]; rfl) (by decide) ?_
    refine lv_aload_n hx hb dX0_agreed_37 rfl (lv_at hl 0 rfl) ?_
    refine lv_aload_n hx hb dX0_agreed_38 rfl (lv_at hl 0 rfl) ?_
    refine va_get (D := D) (ci := 0) (v := .ref (ad 6)) (C := RX0) (T := TX0) (N := 14) hx hb hw9 uX0 hown hK hP 0 rfl rfl 11 (by decide) (hw9 _ mw_30) (fun _ h9 => h9) rfl dX0_agreed_39 ?_
    refine kz_rV (As := [.ref (ad 6)]) (rest := []) ⟨hx, hb, hml, hown, hw9⟩ (c_X0_whatMajorityHas l hl9 D cI cZ ty ad rs s.heap.size it o n g v r nx mt fl pr ofs ak hd an ak 6 (ad 6) rfl) (kz_cV 1 hw9 mw_341 mw_343 ms_10 mw_1 mw_344 rfl rfl (by decide +kernel) ⟨Nat.le_of_ble_eq_true rfl, Nat.le_of_ble_eq_true rfl⟩) (kz_preV (q0 := 0) (ci := 0) hK hP hD hS hA hE rfl rfl) rfl hl.1 rfl (Nat.le_of_ble_eq_true rfl) dX0_agreed_42 ⟨Nat.le_of_ble_eq_true rfl, Nat.le_of_ble_eq_true rfl⟩ (fun _ _ _ _ h => False.elim h) (fun v9 H hv9 hO1 => ?_)
    obtain ⟨_, rfl, rfl⟩ := hv9
    have hP := hO1.P hP
    have hS := hO1.S hS
    have hO := hO.tr hO1
    refine W.eq (g2 := F0 m 45 ls [.int (sq_A o n ak 7)]) rfl ?_
    exact kz_reti hx hb hr hlocks hO (⟨by first | (simp [tc_agreed, c_1, c_2]; done) | (simp only [tc_agreed, c_1, c_2, eq_self, not_true_eq_false, not_false_eq_true, and_self, and_true, true_and, and_false, false_and, or_true, true_or, or_false, false_or, if_true, if_false, ite_true, ite_false, Bool.and_eq_true, decide_true, decide_false, decide_eq_true_eq, ne_eq, Nat.reduceEqDiff, Nat.one_ne_zero, Bool.false_eq_true, reduceCtorEq]; done) | (simp only [tc_agreed, c_1, c_2, eq_self, not_true_eq_false, not_false_eq_true, and_self, and_true, true_and, and_false, false_and, or_true, true_or, or_false, false_or, if_true, if_false, ite_true, ite_false, Bool.and_eq_true, decide_true, decide_false, decide_eq_true_eq, ne_eq, Nat.reduceEqDiff, Nat.one_ne_zero, Bool.false_eq_true, reduceCtorEq]; decide), by first | (simp [c_1, c_2]; done) | (simp only [c_1, c_2, eq_self, not_true_eq_false, not_false_eq_true, and_self, and_true, true_and, and_false, false_and, or_true, true_or, or_false, false_or, if_true, if_false, ite_true, ite_false, Bool.and_eq_true, decide_true, decide_false, decide_eq_true_eq, ne_eq, Nat.reduceEqDiff, Nat.one_ne_zero, Bool.false_eq_true, reduceCtorEq]; done) | (simp only [c_1, c_2, eq_self, not_true_eq_false, not_false_eq_true, and_self, and_true, true_and, and_false, false_and, or_true, true_or, or_false, false_or, if_true, if_false, ite_true, ite_false, Bool.and_eq_true, decide_true, decide_false, decide_eq_true_eq, ne_eq, Nat.reduceEqDiff, Nat.one_ne_zero, Bool.false_eq_true, reduceCtorEq]; decide)⟩)  dX0_agreed_45
  by_cases c_3 : p0 = 2
  · -- case 2
    refine lv_tableIn (tgt := 46) hx hb dX0_agreed_1 (by rw [c_3]; decide) (by rw [c_3]; decide) (by rw [c_3]; rfl) (by decide) ?_
    refine lv_aload_n hx hb dX0_agreed_46 rfl (lv_at hl 0 rfl) ?_
    refine lv_aload_n hx hb dX0_agreed_47 rfl (lv_at hl 0 rfl) ?_
    refine va_get (D := D) (ci := 0) (v := .ref (ad 7)) (C := RX0) (T := TX0) (N := 14) hx hb hw9 uX0 hown hK hP 0 rfl rfl 12 (by decide) (hw9 _ mw_31) (fun _ h9 => h9) rfl dX0_agreed_48 ?_
    refine kz_rV (As := [.ref (ad 7)]) (rest := []) ⟨hx, hb, hml, hown, hw9⟩ (c_X0_whatMajorityHas l hl9 D cI cZ ty ad rs s.heap.size it o n g v r nx mt fl pr ofs ak hd an hd 7 (ad 7) rfl) (kz_cV 1 hw9 mw_341 mw_343 ms_10 mw_1 mw_344 rfl rfl (by decide +kernel) ⟨Nat.le_of_ble_eq_true rfl, Nat.le_of_ble_eq_true rfl⟩) (kz_preV (q0 := 0) (ci := 0) hK hP hD hS hA hE rfl rfl) rfl hl.1 rfl (Nat.le_of_ble_eq_true rfl) dX0_agreed_51 ⟨Nat.le_of_ble_eq_true rfl, Nat.le_of_ble_eq_true rfl⟩ (fun _ _ _ _ h => False.elim h) (fun v9 H hv9 hO1 => ?_)
    obtain ⟨_, rfl, rfl⟩ := hv9
    have hP := hO1.P hP
    have hS := hO1.S hS
    have hO := hO.tr hO1
    refine W.eq (g2 := F0 m 54 ls [.int (sq_A o n hd 7)]) rfl ?_
    exact kz_reti hx hb hr hlocks hO (⟨by first | (simp [tc_agreed, c_1, c_2, c_3]; done) | (simp only [tc_agreed, c_1, c_2, c_3, eq_self, not_true_eq_false, not_false_eq_true, and_self, and_true, true_and, and_false, false_and, or_true, true_or, or_false, false_or, if_true, if_false, ite_true, ite_false, Bool.and_eq_true, decide_true, decide_false, decide_eq_true_eq, ne_eq, Nat.reduceEqDiff, Nat.one_ne_zero, Bool.false_eq_true, reduceCtorEq]; done) | (simp only [tc_agreed, c_1, c_2, c_3, eq_self, not_true_eq_false, not_false_eq_true, and_self, and_true, true_and, and_false, false_and, or_true, true_or, or_false, false_or, if_true, if_false, ite_true, ite_false, Bool.and_eq_true, decide_true, decide_false, decide_eq_true_eq, ne_eq, Nat.reduceEqDiff, Nat.one_ne_zero, Bool.false_eq_true, reduceCtorEq]; decide), by first | (simp [c_1, c_2, c_3]; done) | (simp only [c_1, c_2, c_3, eq_self, not_true_eq_false, not_false_eq_true, and_self, and_true, true_and, and_false, false_and, or_true, true_or, or_false, false_or, if_true, if_false, ite_true, ite_false, Bool.and_eq_true, decide_true, decide_false, decide_eq_true_eq, ne_eq, Nat.reduceEqDiff, Nat.one_ne_zero, Bool.false_eq_true, reduceCtorEq]; done) | (simp only [c_1, c_2, c_3, eq_self, not_true_eq_false, not_false_eq_true, and_self, and_true, true_and, and_false, false_and, or_true, true_or, or_false, false_or, if_true, if_false, ite_true, ite_false, Bool.and_eq_true, decide_true, decide_false, decide_eq_true_eq, ne_eq, Nat.reduceEqDiff, Nat.one_ne_zero, Bool.false_eq_true, reduceCtorEq]; decide)⟩)  dX0_agreed_54
  have hout9 : p0.toInt < 0 ∨ 2 < p0.toInt := by
    have q0 := lv_neT (a := 0) c_1 (by decide)
    have q1 := lv_neT (a := 1) c_2 (by decide)
    have q2 := lv_neT (a := 2) c_3 (by decide)
    omega
  refine lv_tableOut (tgt := 55) hx hb dX0_agreed_1 hout9 (by decide) ?_
  obtain ⟨sa9, hst9⟩ := hE.2.2.1 (131, "nothing of that kind is agreed on") (by decide)
  exact ez_throwS (cls := IAE) (names := EXN) hx hb hl9 hown (by decide +kernel) (by decide +kernel) (hw9 _ mw_101) (hw9 _ mw_6) hst9 (at_IAE hw9 hE) hO.1 (by rw [hml]; exact hl.1) hTab hlocks dX0_agreed_55 dX0_agreed_58 dX0_agreed_59 dX0_agreed_61 dX0_agreed_64 (by decide) (Nat.le_of_ble_eq_true rfl) (Nat.le_of_ble_eq_true rfl) (Nat.le_of_ble_eq_true rfl) (fun q t ce h1 h2 h3 h4 h5 h6 => ⟨1, ce, (by first | (simp [tc_agreed, c_1, c_2, c_3]; done) | (simp only [tc_agreed, c_1, c_2, c_3, eq_self, not_true_eq_false, not_false_eq_true, and_self, and_true, true_and, and_false, false_and, or_true, true_or, or_false, false_or, if_true, if_false, ite_true, ite_false, Bool.and_eq_true, decide_true, decide_false, decide_eq_true_eq, ne_eq, Nat.reduceEqDiff, Nat.one_ne_zero, Bool.false_eq_true, reduceCtorEq]; done) | (simp only [tc_agreed, c_1, c_2, c_3, eq_self, not_true_eq_false, not_false_eq_true, and_self, and_true, true_and, and_false, false_and, or_true, true_or, or_false, false_or, if_true, if_false, ite_true, ite_false, Bool.and_eq_true, decide_true, decide_false, decide_eq_true_eq, ne_eq, Nat.reduceEqDiff, Nat.one_ne_zero, Bool.false_eq_true, reduceCtorEq]; decide)), h1, h2, by rw [h4.findClass]; exact h3, h5, h6⟩)
set_option maxHeartbeats 4000000 in
set_option maxRecDepth 100000 in
theorem c_X0_server (l : Launch) (hl9 : l.stackTraces = false) (D : va_G) (cI cZ : ClassId) (ty : kz_Y) (ad : Nat → Nat) (rs : va_W) (sz : Nat) (it o n g v r : Int32) (nx mt fl pr ofs ak hd an : Nat → Int32) (p0 : Int32) (p1 : Int32) : ez_M l yX0_server wsX0_server ({ frames := 7, cells := 1, slots := 6, locals := 110 } : Room) (kz_P D ((cI, .int) :: (cZ, .boolean) :: ty) (wX ad cI cZ it o n g v r nx mt fl pr ofs ak hd an ++ rs) sz [.ref (ad 0), .int p0, .int p1]) (kz_Ro (kz_i (fun r9 => (tc_get p0 p1 = 0) ∧ r9 = (if p1 = 0 then nx p0.toNatClampNeg else if p1 = 1 then mt p0.toNatClampNeg else if p1 = 2 then fl p0.toNatClampNeg else if p1 = 3 then (if pr p0.toNatClampNeg = 0 then 0 else 1) else if p1 = 4 then ofs p0.toNatClampNeg else if p1 = 5 then ak p0.toNatClampNeg else if p1 = 6 then hd p0.toNatClampNeg else (if an p0.toNatClampNeg = 0 then 0 else 1))))) (kz_T (fun _ => IOE) (fun k => k = tc_get p0 p1 ∧ ¬ k = 0)) 0 0 (fun _ => False) := by
  refine ez_ofW (cc := cX0_server) (maxL := 3) (ret := (some .int)) (by decide) rfl ?_
  intro p e s m args below meth c s₁ B hml hTab hv
  obtain ⟨rfl, hsz, hP, hK, hD0, hE⟩ := hv
  have hx := B.exec
  have hb := B.bytes
  have hr := B.returns
  have hw9 : ∀ w ∈ kz_W9, w.before ([.ref (ad 0), .int p0, .int p1] : List Value).toArray s = true := fun w h => atoms_spec (ws := wsX0_server) B.pre w (List.mem_cons_of_mem _ h)
  have hown : s.vm.findClass RX0 = some m.cls := findClass_of_methodNamed B.named
  have hlocks := B.notSynchronized
  subst hsz
  have hD := hD0.self (sz := s.heap.size)
  generalize hAe : va_A (wX ad cI cZ it o n g v r nx mt fl pr ofs ak hd an ++ rs) s.heap.size = A at hD hE
  have hA : ∀ q : Nat, s.heap.size ≤ q → A q := fun q h => by rw [← hAe]; exact Or.inr h
  have hS : va_S A s.heap s.heap [] := va_S.rf
  have hO : kz_O s.heap s.heap := kz_O.rf _
  have hl := lv_entry ([.ref (ad 0), .int p0, .int p1]) (n := 3) (Nat.le_of_ble_eq_true rfl)
  rw [lg_entry_eq]
  generalize (lg_sl ([.ref (ad 0), .int p0, .int p1]) ++ List.replicate (3 - (lg_sl ([.ref (ad 0), .int p0, .int p1])).length) Slot.unset).toArray = ls at hl ⊢
  have hl : lv_has ls 3 [(0, .ref (ad 0)), (1, .int p0), (2, .int p1)] := hl
  refine lv_iload_n hx hb dX0_server_0 rfl (lv_at hl 1 rfl) ?_
  refine kz_rS (As := [.int p0]) (rest := []) ⟨hx, hb, hml, hown, hw9⟩ (c_X0_requireServer l hl9 D ((cI, .int) :: (cZ, .boolean) :: ty) (wX ad cI cZ it o n g v r nx mt fl pr ofs ak hd an ++ rs) s.heap.size p0) (kz_cS 1 hw9 mw_240 mw_241 mw_1 mw_242 rfl rfl (by decide +kernel) ⟨Nat.le_of_ble_eq_true rfl, Nat.le_of_ble_eq_true rfl⟩) (kz_preS hK hP hD hS hA hE) rfl hl.1 rfl (Nat.le_of_ble_eq_true rfl) dX0_server_1 ⟨Nat.le_of_ble_eq_true rfl, Nat.le_of_ble_eq_true rfl⟩ (fun k ce q9 H1 hk hO1 hce hcv hcl => ?_) (fun v9 H hv9 hO1 => ?_)
  · -- thrown
    exact kz_out (k := 1) hTab hlocks (by first | (simp [tc_get, hk]; done) | (simp only [tc_get, hk, eq_self, not_true_eq_false, not_false_eq_true, and_self, and_true, true_and, and_false, false_and, or_true, true_or, or_false, false_or, if_true, if_false, ite_true, ite_false, Bool.and_eq_true, decide_true, decide_false, decide_eq_true_eq, ne_eq, Nat.reduceEqDiff, Nat.one_ne_zero, Bool.false_eq_true, reduceCtorEq]; done) | (simp only [tc_get, hk, eq_self, not_true_eq_false, not_false_eq_true, and_self, and_true, true_and, and_false, false_and, or_true, true_or, or_false, false_or, if_true, if_false, ite_true, ite_false, Bool.and_eq_true, decide_true, decide_false, decide_eq_true_eq, ne_eq, Nat.reduceEqDiff, Nat.one_ne_zero, Bool.false_eq_true, reduceCtorEq]; decide)) (hO.tr hO1) hce hcv hcl (fun _ h => nomatch h) (Nat.le_of_ble_eq_true rfl) (Nat.le_of_ble_eq_true rfl)
  · -- goes on
    obtain ⟨rfl, hv_1⟩ := hv9
    have hP := hO1.P hP
    have hS := hO1.S hS
    have hO := hO.tr hO1
    refine W.eq (g2 := F0 m 4 ls []) rfl ?_
    refine lv_iload_n hx hb dX0_server_4 rfl (lv_at hl 2 rfl) ?_
    by_cases c_2 : p1 = 0
    · -- case 0
      refine lv_tableIn (tgt := 52) hx hb dX0_server_5 (by rw [c_2]; decide) (by rw [c_2]; decide) (by rw [c_2]; rfl) (by decide) ?_
      refine lv_aload_n hx hb dX0_server_52 rfl (lv_at hl 0 rfl) ?_
      refine va_get (D := D) (ci := 0) (v := .ref (ad 1)) (C := RX0) (T := TX0) (N := 14) hx hb hw9 uX0 hown hK hP 0 rfl rfl 6 (by decide) (hw9 _ mw_25) (fun _ h9 => h9) rfl dX0_server_53 ?_
      refine lv_iload_n hx hb dX0_server_56 rfl (lv_at hl 1 rfl) ?_
      refine va_iald hx hb hK hP 1 0 rfl rfl (sq_V_in hv_1) dX0_server_57 ?_
      exact kz_reti hx hb hr hlocks hO (⟨by first | (simp [tc_get, hv_1, c_2]; done) | (simp only [tc_get, hv_1, c_2, eq_self, not_true_eq_false, not_false_eq_true, and_self, and_true, true_and, and_false, false_and, or_true, true_or, or_false, false_or, if_true, if_false, ite_true, ite_false, Bool.and_eq_true, decide_true, decide_false, decide_eq_true_eq, ne_eq, Nat.reduceEqDiff, Nat.one_ne_zero, Bool.false_eq_true, reduceCtorEq]; done) | (simp only [tc_get, hv_1, c_2, eq_self, not_true_eq_false, not_false_eq_true, and_self, and_true, true_and, and_false, false_and, or_true, true_or, or_false, false_or, if_true, if_false, ite_true, ite_false, Bool.and_eq_true, decide_true, decide_false, decide_eq_true_eq, ne_eq, Nat.reduceEqDiff, Nat.one_ne_zero, Bool.false_eq_true, reduceCtorEq]; decide), by first | (simp [hv_1, c_2]; done) | (simp only [hv_1, c_2, eq_self, not_true_eq_false, not_false_eq_true, and_self, and_true, true_and, and_false, false_and, or_true, true_or, or_false, false_or, if_true, if_false, ite_true, ite_false, Bool.and_eq_true, decide_true, decide_false, decide_eq_true_eq, ne_eq, Nat.reduceEqDiff, Nat.one_ne_zero, Bool.false_eq_true, reduceCtorEq]; done) | (simp only [hv_1, c_2, eq_self, not_true_eq_false, not_false_eq_true, and_self, and_true, true_and, and_false, false_and, or_true, true_or, or_false, false_or, if_true, if_false, ite_true, ite_false, Bool.and_eq_true, decide_true, decide_false, decide_eq_true_eq, ne_eq, Nat.reduceEqDiff, Nat.one_ne_zero, Bool.false_eq_true, reduceCtorEq]; decide)⟩)  dX0_server_58
    by_cases c_3 : p1 = 1
    · -- case 1
      refine lv_tableIn (tgt := 59) hx hb dX0_server_5 (by rw [c_3]; decide) (by rw [c_3]; decide) (by rw [c_3]; rfl) (by decide) ?_
      refine lv_aload_n hx hb dX0_server_59 rfl (lv_at hl 0 rfl) ?_
      refine va_get (D := D) (ci := 0) (v := .ref (ad 2)) (C := RX0) (T := TX0) (N := 14) hx hb hw9 uX0 hown hK hP 0 rfl rfl 7 (by decide) (hw9 _ mw_26) (fun _ h9 => h9) rfl dX0_server_60 ?_
      refine lv_iload_n hx hb dX0_server_63 rfl (lv_at hl 1 rfl) ?_
      refine va_iald hx hb hK hP 2 0 rfl rfl (sq_V_in hv_1) dX0_server_64 ?_
      exact kz_reti hx hb hr hlocks hO (⟨by first | (simp [tc_get, hv_1, c_2, c_3]; done) | (simp only [tc_get, hv_1, c_2, c_3, eq_self, not_true_eq_false, not_false_eq_true, and_self, and_true, true_and, and_false, false_and, or_true, true_or, or_false, false_or, if_true, if_false, ite_true, ite_false, Bool.and_eq_true, decide_true, decide_false, decide_eq_true_eq, ne_eq, Nat.reduceEqDiff, Nat.one_ne_zero, Bool.false_eq_true, reduceCtorEq]; done) | (simp only [tc_get, hv_1, c_2, c_3, eq_self, not_true_eq_false, not_false_eq_true, and_self, and_true, true_and, and_false, false_and, or_true, true_or, or_false, false_or, if_true, if_false, ite_true, ite_false, Bool.and_eq_true, decide_true, decide_false, decide_eq_true_eq, ne_eq, Nat.reduceEqDiff, Nat.one_ne_zero, Bool.false_eq_true, reduceCtorEq]; decide), by first | (simp [hv_1, c_2, c_3]; done) | (simp only [hv_1, c_2, c_3, eq_self, not_true_eq_false, not_false_eq_true, and_self, and_true, true_and, and_false, false_and, or_true, true_or, or_false, false_or, if_true, if_false, ite_true, ite_false, Bool.and_eq_true, decide_true, decide_false, decide_eq_true_eq, ne_eq, Nat.reduceEqDiff, Nat.one_ne_zero, Bool.false_eq_true, reduceCtorEq]; done) | (simp only [hv_1, c_2, c_3, eq_self, not_true_eq_false, not_false_eq_true, and_self, and_true, true_and, and_false, false_and, or_true, true_or, or_false, false_or, if_true, if_false, ite_true, ite_false, Bool.and_eq_true, decide_true, decide_false, decide_eq_true_eq, ne_eq, Nat.reduceEqDiff, Nat.one_ne_zero, Bool.false_eq_true, reduceCtorEq]; decide)⟩)  dX0_server_65
    by_cases c_4 : p1 = 2
    · -- case 2
      refine lv_tableIn (tgt := 66) hx hb dX0_server_5 (by rw [c_4]; decide) (by rw [c_4]; decide) (by rw [c_4]; rfl) (by decide) ?_
      refine lv_aload_n hx hb dX0_server_66 rfl (lv_at hl 0 rfl) ?_
      refine va_get (D := D) (ci := 0) (v := .ref (ad 3)) (C := RX0) (T := TX0) (N := 14) hx hb hw9 uX0 hown hK hP 0 rfl rfl 8 (by decide) (hw9 _ mw_27) (fun _ h9 => h9) rfl dX0_server_67 ?_
      refine lv_iload_n hx hb dX0_server_70 rfl (lv_at hl 1 rfl) ?_
      refine va_iald hx hb hK hP 3 0 rfl rfl (sq_V_in hv_1) dX0_server_71 ?_
      exact kz_reti hx hb hr hlocks hO (⟨by first | (simp [tc_get, hv_1, c_2, c_3, c_4]; done) | (simp only [tc_get, hv_1, c_2, c_3, c_4, eq_self, not_true_eq_false, not_false_eq_true, and_self, and_true, true_and, and_false, false_and, or_true, true_or, or_false, false_or, if_true, if_false, ite_true, ite_false, Bool.and_eq_true, decide_true, decide_false, decide_eq_true_eq, ne_eq, Nat.reduceEqDiff, Nat.one_ne_zero, Bool.false_eq_true, reduceCtorEq]; done) | (simp only [tc_get, hv_1, c_2, c_3, c_4, eq_self, not_true_eq_false, not_false_eq_true, and_self, and_true, true_and, and_false, false_and, or_true, true_or, or_false, false_or, if_true, if_false, ite_true, ite_false, Bool.and_eq_true, decide_true, decide_false, decide_eq_true_eq, ne_eq, Nat.reduceEqDiff, Nat.one_ne_zero, Bool.false_eq_true, reduceCtorEq]; decide), by first | (simp [hv_1, c_2, c_3, c_4]; done) | (simp only [hv_1, c_2, c_3, c_4, eq_self, not_true_eq_false, not_false_eq_true, and_self, and_true, true_and, and_false, false_and, or_true, true_or, or_false, false_or, if_true, if_false, ite_true, ite_false, Bool.and_eq_true, decide_true, decide_false, decide_eq_true_eq, ne_eq, Nat.reduceEqDiff, Nat.one_ne_zero, Bool.false_eq_true, reduceCtorEq]; done) | (simp only [hv_1, c_2, c_3, c_4, eq_self, not_true_eq_false, not_false_eq_true, and_self, and_true, true_and, and_false, false_and, or_true, true_or, or_false, false_or, if_true, if_false, ite_true, ite_false, Bool.and_eq_true, decide_true, decide_false, decide_eq_true_eq, ne_eq, Nat.reduceEqDiff, Nat.one_ne_zero, Bool.false_eq_true, reduceCtorEq]; decide)⟩)  dX0_server_72
    by_cases c_5 : p1 = 3
    · -- case 3
      refine lv_tableIn (tgt := 73) hx hb dX0_server_5 (by rw [c_5]; decide) (by rw [c_5]; decide) (by rw [c_5]; rfl) (by decide) ?_
      refine lv_aload_n hx hb dX0_server_73 rfl (lv_at hl 0 rfl) ?_
      refine va_get (D := D) (ci := 0) (v := .ref (ad 4)) (C := RX0) (T := TX0) (N := 14) hx hb hw9 uX0 hown hK hP 0 rfl rfl 9 (by decide) (hw9 _ mw_28) (fun _ h9 => h9) rfl dX0_server_74 ?_
      refine lv_iload_n hx hb dX0_server_77 rfl (lv_at hl 1 rfl) ?_
      refine va_zald hx hb hK hP 4 1 rfl rfl (sq_V_in hv_1) dX0_server_78 ?_
      refine lv_if_eq (tgt := 86) hx hb dX0_server_79 (by decide) (fun c_6 => ?_) (fun c_6 => ?_)
      · -- 79 -> 86
        refine lv_iconst (v := 0) hx hb dX0_server_86 (by decide) ?_
        exact kz_reti hx hb hr hlocks hO (⟨by first | (simp [tc_get, hv_1, c_2, c_3, c_4, c_5, c_6]; done) | (simp only [tc_get, hv_1, c_2, c_3, c_4, c_5, c_6, eq_self, not_true_eq_false, not_false_eq_true, and_self, and_true, true_and, and_false, false_and, or_true, true_or, or_false, false_or, if_true, if_false, ite_true, ite_false, Bool.and_eq_true, decide_true, decide_false, decide_eq_true_eq, ne_eq, Nat.reduceEqDiff, Nat.one_ne_zero, Bool.false_eq_true, reduceCtorEq]; done) | (simp only [tc_get, hv_1, c_2, c_3, c_4, c_5, c_6, eq_self, not_true_eq_false, not_false_eq_true, and_self, and_true, true_and, and_false, false_and, or_true, true_or, or_false, false_or, if_true, if_false, ite_true, ite_false, Bool.and_eq_true, decide_true, decide_false, decide_eq_true_eq, ne_eq, Nat.reduceEqDiff, Nat.one_ne_zero, Bool.false_eq_true, reduceCtorEq]; decide), by first | (simp [hv_1, c_2, c_3, c_4, c_5, c_6]; done) | (simp only [hv_1, c_2, c_3, c_4, c_5, c_6, eq_self, not_true_eq_false, not_false_eq_true, and_self, and_true, true_and, and_false, false_and, or_true, true_or, or_false, false_or, if_true, if_false, ite_true, ite_false, Bool.and_eq_true, decide_true, decide_false, decide_eq_true_eq, ne_eq, Nat.reduceEqDiff, Nat.one_ne_zero, Bool.false_eq_true, reduceCtorEq]; done) | (simp only [hv_1, c_2, c_3, c_4, c_5, c_6, eq_self, not_true_eq_false, not_false_eq_true, and_self, and_true, true_and, and_false, false_and, or_true, true_or, or_false, false_or, if_true, if_false, ite_true, ite_false, Bool.and_eq_true, decide_true, decide_false, decide_eq_true_eq, ne_eq, Nat.reduceEqDiff, Nat.one_ne_zero, Bool.false_eq_true, reduceCtorEq]; decide)⟩)  dX0_server_87
      · -- 79 -> 82
        refine lv_iconst (v := 1) hx hb dX0_server_82 (by decide) ?_
        refine lv_goto (tgt := 87) hx hb dX0_server_83 (by decide) ?_
        exact kz_reti hx hb hr hlocks hO (⟨by first | (simp [tc_get, hv_1, c_2, c_3, c_4, c_5, c_6]; done) | (simp only [tc_get, hv_1, c_2, c_3, c_4, c_5, c_6, eq_self, not_true_eq_false, not_false_eq_true, and_self, and_true, true_and, and_false, false_and, or_true, true_or, or_false, false_or, if_true, if_false, ite_true, ite_false, Bool.and_eq_true, decide_true, decide_false, decide_eq_true_eq, ne_eq, Nat.reduceEqDiff, Nat.one_ne_zero, Bool.false_eq_true, reduceCtorEq]; done) | (simp only [tc_get, hv_1, c_2, c_3, c_4, c_5, c_6, eq_self, not_true_eq_false, not_false_eq_true, and_self, and_true, true_and, and_false, false_and, or_true, true_or, or_false, false_or, if_true, if_false, ite_true, ite_false, Bool.and_eq_true, decide_true, decide_false, decide_eq_true_eq, ne_eq, Nat.reduceEqDiff, Nat.one_ne_zero, Bool.false_eq_true, reduceCtorEq]; decide), by first | (simp [hv_1, c_2, c_3, c_4, c_5, c_6]; done) | (simp only [hv_1, c_2, c_3, c_4, c_5, c_6, eq_self, not_true_eq_false, not_false_eq_true, and_self, and_true, true_and, and_false, false_and, or_true, true_or, or_false, false_or, if_true, if_false, ite_true, ite_false, Bool.and_eq_true, decide_true, decide_false, decide_eq_true_eq, ne_eq, Nat.reduceEqDiff, Nat.one_ne_zero, Bool.false_eq_true, reduceCtorEq]; done) | (simp only [hv_1, c_2, c_3, c_4, c_5, c_6, eq_self, not_true_eq_false, not_false_eq_true, and_self, and_true, true_and, and_false, false_and, or_true, true_or, or_false, false_or, if_true, if_false, ite_true, ite_false, Bool.and_eq_true, decide_true, decide_false, decide_eq_true_eq, ne_eq, Nat.reduceEqDiff, Nat.one_ne_zero, Bool.false_eq_true, reduceCtorEq]; decide)⟩)  dX0_server_87
    by_cases c_7 : p1 = 4
    · -- case 4
      refine lv_tableIn (tgt := 88) hx hb dX0_server_5 (by rw [c_7]; decide) (by rw [c_7]; decide) (by rw [c_7]; rfl) (by decide) ?_
      refine lv_aload_n hx hb dX0_server_88 rfl (lv_at hl 0 rfl) ?_
      refine va_get (D := D) (ci := 0) (v := .ref (ad 5)) (C := RX0) (T := TX0) (N := 14) hx hb hw9 uX0 hown hK hP 0 rfl rfl 10 (by decide) (hw9 _ mw_29) (fun _ h9 => h9) rfl dX0_server_89 ?_
      refine lv_iload_n hx hb dX0_server_92 rfl (lv_at hl 1 rfl) ?_
      refine va_iald hx hb hK hP 5 0 rfl rfl (sq_V_in hv_1) dX0_server_93 ?_
      exact kz_reti hx hb hr hlocks hO (⟨by first | (simp [tc_get, hv_1, c_2, c_3, c_4, c_5, c_7]; done) | (simp only [tc_get, hv_1, c_2, c_3, c_4, c_5, c_7, eq_self, not_true_eq_false, not_false_eq_true, and_self, and_true, true_and, and_false, false_and, or_true, true_or, or_false, false_or, if_true, if_false, ite_true, ite_false, Bool.and_eq_true, decide_true, decide_false, decide_eq_true_eq, ne_eq, Nat.reduceEqDiff, Nat.one_ne_zero, Bool.false_eq_true, reduceCtorEq]; done) | (simp only [tc_get, hv_1, c_2, c_3, c_4, c_5, c_7, eq_self, not_true_eq_false, not_false_eq_true, and_self, and_true, true_and, and_false, false_and, or_true, true_or, or_false, false_or, if_true, if_false, ite_true, ite_false, Bool.and_eq_true, decide_true, decide_false, decide_eq_true_eq, ne_eq, Nat.reduceEqDiff, Nat.one_ne_zero, Bool.false_eq_true, reduceCtorEq]; decide), by first | (simp [hv_1, c_2, c_3, c_4, c_5, c_7]; done) | (simp only [hv_1, c_2, c_3, c_4, c_5, c_7, eq_self, not_true_eq_false, not_false_eq_true, and_self, and_true, true_and, and_false, false_and, or_true, true_or, or_false, false_or, if_true, if_false, ite_true, ite_false, Bool.and_eq_true, decide_true, decide_false, decide_eq_true_eq, ne_eq, Nat.reduceEqDiff, Nat.one_ne_zero, Bool.false_eq_true, reduceCtorEq]; done) | (simp only [hv_1, c_2, c_3, c_4, c_5, c_7, eq_self, not_true_eq_false, not_false_eq_true, and_self, and_true, true_and, and_false, false_and, or_true, true_or, or_false, false_or, if_true, if_false, ite_true, ite_false, Bool.and_eq_true, decide_true, decide_false, decide_eq_true_eq, ne_eq, Nat.reduceEqDiff, Nat.one_ne_zero, Bool.false_eq_true, reduceCtorEq]; decide)⟩)  dX0_server_94
    by_cases c_8 : p1 = 5
    · -- case 5
      refine lv_tableIn (tgt := 95) hx hb dX0_server_5 (by rw [c_8]; decide) (by rw [c_8]; decide) (by rw [c_8]; rfl) (by decide) ?_
      refine lv_aload_n hx hb dX0_server_95 rfl (lv_at hl 0 rfl) ?_
      refine va_get (D := D) (ci := 0) (v := .ref (ad 6)) (C := RX0) (T := TX0) (N := 14) hx hb hw9 uX0 hown hK hP 0 rfl rfl 11 (by decide) (hw9 _ mw_30) (fun _ h9 => h9) rfl dX0_server_96 ?_
      refine lv_iload_n hx hb dX0_server_99 rfl (lv_at hl 1 rfl) ?_
      refine va_iald hx hb hK hP 6 0 rfl rfl (sq_V_in hv_1) dX0_server_100 ?_
      exact kz_reti hx hb hr hlocks hO (⟨by first | (simp [tc_get, hv_1, c_2, c_3, c_4, c_5, c_7, c_8]; done) | (simp only [tc_get, hv_1, c_2, c_3, c_4, c_5, c_7, c_8, eq_self, not_true_eq_false, not_false_eq_true, and_self, and_true, true_and, and_false, false_and, or_true, true_or, or_false, false_or, if_true, if_false, ite_true, ite_false, Bool.and_eq_true, decide_true, decide_false, decide_eq_true_eq, ne_eq, Nat.reduceEqDiff, Nat.one_ne_zero, Bool.false_eq_true, reduceCtorEq]; done) | (simp only [tc_get, hv_1, c_2, c_3, c_4, c_5, c_7, c_8, eq_self, not_true_eq_false, not_false_eq_true, and_self, and_true, true_and, and_false, false_and, or_true, true_or, or_false, false_or, if_true, if_false, ite_true, ite_false, Bool.and_eq_true, decide_true, decide_false, decide_eq_true_eq, ne_eq, Nat.reduceEqDiff, Nat.one_ne_zero, Bool.false_eq_true, reduceCtorEq]; decide), by first | (simp [hv_1, c_2, c_3, c_4, c_5, c_7, c_8]; done) | (simp only [hv_1, c_2, c_3, c_4, c_5, c_7, c_8, eq_self, not_true_eq_false, not_false_eq_true, and_self, and_true, true_and, and_false, false_and, or_true, true_or, or_false, false_or, if_true, if_false, ite_true, ite_false, Bool.and_eq_true, decide_true, decide_false, decide_eq_true_eq, ne_eq, Nat.reduceEqDiff, Nat.one_ne_zero, Bool.false_eq_true, reduceCtorEq]; done) | (simp only [hv_1, c_2, c_3, c_4, c_5, c_7, c_8, eq_self, not_true_eq_false, not_false_eq_true, and_self, and_true, true_and, and_false, false_and, or_true, true_or, or_false, false_or, if_true, if_false, ite_true, ite_false, Bool.and_eq_true, decide_true, decide_false, decide_eq_true_eq, ne_eq, Nat.reduceEqDiff, Nat.one_ne_zero, Bool.false_eq_true, reduceCtorEq]; decide)⟩)  dX0_server_101
    by_cases c_9 : p1 = 6
    · -- case 6
      refine lv_tableIn (tgt := 102) hx hb dX0_server_5 (by rw [c_9]; decide) (by rw [c_9]; decide) (by rw [c_9]; rfl) (by decide) ?_
      refine lv_aload_n hx hb dX0_server_102 rfl (lv_at hl 0 rfl) ?_
      refine va_get (D := D) (ci := 0) (v := .ref (ad 7)) (C := RX0) (T := TX0) (N := 14) hx hb hw9 uX0 hown hK hP 0 rfl rfl 12 (by decide) (hw9 _ mw_31) (fun _ h9 => h9) rfl dX0_server_103 ?_
      refine lv_iload_n hx hb dX0_server_106 rfl (lv_at hl 1 rfl) ?_
      refine va_iald hx hb hK hP 7 0 rfl rfl (sq_V_in hv_1) dX0_server_107 ?_
      exact kz_reti hx hb hr hlocks hO (⟨by first | (simp [tc_get, hv_1, c_2, c_3, c_4, c_5, c_7, c_8, c_9]; done) | (simp only [tc_get, hv_1, c_2, c_3, c_4, c_5, c_7, c_8, c_9, eq_self, not_true_eq_false, not_false_eq_true, and_self, and_true, true_and, and_false, false_and, or_true, true_or, or_false, false_or, if_true, if_false, ite_true, ite_false, Bool.and_eq_true, decide_true, decide_false, decide_eq_true_eq, ne_eq, Nat.reduceEqDiff, Nat.one_ne_zero, Bool.false_eq_true, reduceCtorEq]; done) | (simp only [tc_get, hv_1, c_2, c_3, c_4, c_5, c_7, c_8, c_9, eq_self, not_true_eq_false, not_false_eq_true, and_self, and_true, true_and, and_false, false_and, or_true, true_or, or_false, false_or, if_true, if_false, ite_true, ite_false, Bool.and_eq_true, decide_true, decide_false, decide_eq_true_eq, ne_eq, Nat.reduceEqDiff, Nat.one_ne_zero, Bool.false_eq_true, reduceCtorEq]; decide), by first | (simp [hv_1, c_2, c_3, c_4, c_5, c_7, c_8, c_9]; done) | (simp only [hv_1, c_2, c_3, c_4, c_5, c_7, c_8, c_9, eq_self, not_true_eq_false, not_false_eq_true, and_self, and_true, true_and, and_false, false_and, or_true, true_or, or_false, false_or, if_true, if_false, ite_true, ite_false, Bool.and_eq_true, decide_true, decide_false, decide_eq_true_eq, ne_eq, Nat.reduceEqDiff, Nat.one_ne_zero, Bool.false_eq_true, reduceCtorEq]; done) | (simp only [hv_1, c_2, c_3, c_4, c_5, c_7, c_8, c_9, eq_self, not_true_eq_false, not_false_eq_true, and_self, and_true, true_and, and_false, false_and, or_true, true_or, or_false, false_or, if_true, if_false, ite_true, ite_false, Bool.and_eq_true, decide_true, decide_false, decide_eq_true_eq, ne_eq, Nat.reduceEqDiff, Nat.one_ne_zero, Bool.false_eq_true, reduceCtorEq]; decide)⟩)  dX0_server_108
    by_cases c_10 : p1 = 7
    · -- case 7
      refine lv_tableIn (tgt := 109) hx hb dX0_server_5 (by rw [c_10]; decide) (by rw [c_10]; decide) (by rw [c_10]; rfl) (by decide) ?_
      refine lv_aload_n hx hb dX0_server_109 rfl (lv_at hl 0 rfl) ?_
      refine va_get (D := D) (ci := 0) (v := .ref (ad 8)) (C := RX0) (T := TX0) (N := 14) hx hb hw9 uX0 hown hK hP 0 rfl rfl 13 (by decide) (hw9 _ mw_32) (fun _ h9 => h9) rfl dX0_server_110 ?_
      refine lv_iload_n hx hb dX0_server_113 rfl (lv_at hl 1 rfl) ?_
      refine va_zald hx hb hK hP 8 1 rfl rfl (sq_V_in hv_1) dX0_server_114 ?_
      refine lv_if_eq (tgt := 122) hx hb dX0_server_115 (by decide) (fun c_11 => ?_) (fun c_11 => ?_)
      · -- 115 -> 122
        refine lv_iconst (v := 0) hx hb dX0_server_122 (by decide) ?_
        exact kz_reti hx hb hr hlocks hO (⟨by first | (simp [tc_get, hv_1, c_2, c_3, c_4, c_5, c_7, c_8, c_9, c_10, c_11]; done) | (simp only [tc_get, hv_1, c_2, c_3, c_4, c_5, c_7, c_8, c_9, c_10, c_11, eq_self, not_true_eq_false, not_false_eq_true, and_self, and_true, true_and, and_false, false_and, or_true, true_or, or_false, false_or, if_true, if_false, ite_true, ite_false, Bool.and_eq_true, decide_true, decide_false, decide_eq_true_eq, ne_eq, Nat.reduceEqDiff, Nat.one_ne_zero, Bool.false_eq_true, reduceCtorEq]; done) | (simp only [tc_get, hv_1, c_2, c_3, c_4, c_5, c_7, c_8, c_9, c_10, c_11, eq_self, not_true_eq_false, not_false_eq_true, and_self, and_true, true_and, and_false, false_and, or_true, true_or, or_false, false_or, if_true, if_false, ite_true, ite_false, Bool.and_eq_true, decide_true, decide_false, decide_eq_true_eq, ne_eq, Nat.reduceEqDiff, Nat.one_ne_zero, Bool.false_eq_true, reduceCtorEq]; decide), by first | (simp [hv_1, c_2, c_3, c_4, c_5, c_7, c_8, c_9, c_10, c_11]; done) | (simp only [hv_1, c_2, c_3, c_4, c_5, c_7, c_8, c_9, c_10, c_11, eq_self, not_true_eq_false, not_false_eq_true, and_self, and_true, true_and, and_false, false_and, or_true, true_or, or_false, false_or, if_true, if_false, ite_true, ite_false, Bool.and_eq_true, decide_true, decide_false, decide_eq_true_eq, ne_eq, Nat.reduceEqDiff, Nat.one_ne_zero, Bool.false_eq_true, reduceCtorEq]; done) | (simp only [hv_1, c_2, c_3, c_4, c_5, c_7, c_8, c_9, c_10, c_11, eq_self, not_true_eq_false, not_false_eq_true, and_self, and_true, true_and, and_false, false_and, or_true, true_or, or_false, false_or, if_true, if_false, ite_true, ite_false, Bool.and_eq_true, decide_true, decide_false, decide_eq_true_eq, ne_eq, Nat.reduceEqDiff, Nat.one_ne_zero, Bool.false_eq_true, reduceCtorEq]; decide)⟩)  dX0_server_123
      · -- 115 -> 118
        refine lv_iconst (v := 1) hx hb dX0_server_118 (by decide) ?_
        refine lv_goto (tgt := 123) hx hb dX0_server_119 (by decide) ?_
        exact kz_reti hx hb hr hlocks hO (⟨by first | (simp [tc_get, hv_1, c_2, c_3, c_4, c_5, c_7, c_8, c_9, c_10, c_11]; done) | (simp only [tc_get, hv_1, c_2, c_3, c_4, c_5, c_7, c_8, c_9, c_10, c_11, eq_self, not_true_eq_false, not_false_eq_true, and_self, and_true, true_and, and_false, false_and, or_true, true_or, or_false, false_or, if_true, if_false, ite_true, ite_false, Bool.and_eq_true, decide_true, decide_false, decide_eq_true_eq, ne_eq, Nat.reduceEqDiff, Nat.one_ne_zero, Bool.false_eq_true, reduceCtorEq]; done) | (simp only [tc_get, hv_1, c_2, c_3, c_4, c_5, c_7, c_8, c_9, c_10, c_11, eq_self, not_true_eq_false, not_false_eq_true, and_self, and_true, true_and, and_false, false_and, or_true, true_or, or_false, false_or, if_true, if_false, ite_true, ite_false, Bool.and_eq_true, decide_true, decide_false, decide_eq_true_eq, ne_eq, Nat.reduceEqDiff, Nat.one_ne_zero, Bool.false_eq_true, reduceCtorEq]; decide), by first | (simp [hv_1, c_2, c_3, c_4, c_5, c_7, c_8, c_9, c_10, c_11]; done) | (simp only [hv_1, c_2, c_3, c_4, c_5, c_7, c_8, c_9, c_10, c_11, eq_self, not_true_eq_false, not_false_eq_true, and_self, and_true, true_and, and_false, false_and, or_true, true_or, or_false, false_or, if_true, if_false, ite_true, ite_false, Bool.and_eq_true, decide_true, decide_false, decide_eq_true_eq, ne_eq, Nat.reduceEqDiff, Nat.one_ne_zero, Bool.false_eq_true, reduceCtorEq]; done) | (simp only [hv_1, c_2, c_3, c_4, c_5, c_7, c_8, c_9, c_10, c_11, eq_self, not_true_eq_false, not_false_eq_true, and_self, and_true, true_and, and_false, false_and, or_true, true_or, or_false, false_or, if_true, if_false, ite_true, ite_false, Bool.and_eq_true, decide_true, decide_false, decide_eq_true_eq, ne_eq, Nat.reduceEqDiff, Nat.one_ne_zero, Bool.false_eq_true, reduceCtorEq]; decide)⟩)  dX0_server_123
    have hout9 : p1.toInt < 0 ∨ 7 < p1.toInt := by
      have q0 := lv_neT (a := 0) c_2 (by decide)
      have q1 := lv_neT (a := 1) c_3 (by decide)
      have q2 := lv_neT (a := 2) c_4 (by decide)
      have q3 := lv_neT (a := 3) c_5 (by decide)
      have q4 := lv_neT (a := 4) c_7 (by decide)
      have q5 := lv_neT (a := 5) c_8 (by decide)
      have q6 := lv_neT (a := 6) c_9 (by decide)
      have q7 := lv_neT (a := 7) c_10 (by decide)
      omega
    refine lv_tableOut (tgt := 124) hx hb dX0_server_5 hout9 (by decide) ?_
    obtain ⟨sa9, hst9⟩ := hE.2.2.1 (135, "nothing of that kind is kept of a server") (by decide)
    exact ez_throwS (cls := IOE) (names := EXN) hx hb hl9 hown (by decide +kernel) (by decide +kernel) (hw9 _ mw_243) (hw9 _ mw_9) hst9 (at_IOE hw9 hE) hO.1 (by rw [hml]; exact hl.1) hTab hlocks dX0_server_124 dX0_server_127 dX0_server_128 dX0_server_130 dX0_server_133 (by decide) (Nat.le_of_ble_eq_true rfl) (Nat.le_of_ble_eq_true rfl) (Nat.le_of_ble_eq_true rfl) (fun q t ce h1 h2 h3 h4 h5 h6 => ⟨1, ce, (by first | (simp [tc_get, hv_1, c_2, c_3, c_4, c_5, c_7, c_8, c_9, c_10]; done) | (simp only [tc_get, hv_1, c_2, c_3, c_4, c_5, c_7, c_8, c_9, c_10, eq_self, not_true_eq_false, not_false_eq_true, and_self, and_true, true_and, and_false, false_and, or_true, true_or, or_false, false_or, if_true, if_false, ite_true, ite_false, Bool.and_eq_true, decide_true, decide_false, decide_eq_true_eq, ne_eq, Nat.reduceEqDiff, Nat.one_ne_zero, Bool.false_eq_true, reduceCtorEq]; done) | (simp only [tc_get, hv_1, c_2, c_3, c_4, c_5, c_7, c_8, c_9, c_10, eq_self, not_true_eq_false, not_false_eq_true, and_self, and_true, true_and, and_false, false_and, or_true, true_or, or_false, false_or, if_true, if_false, ite_true, ite_false, Bool.and_eq_true, decide_true, decide_false, decide_eq_true_eq, ne_eq, Nat.reduceEqDiff, Nat.one_ne_zero, Bool.false_eq_true, reduceCtorEq]; decide)), h1, h2, by rw [h4.findClass]; exact h3, h5, h6⟩)
set_option maxHeartbeats 4000000 in
set_option maxRecDepth 100000 in
theorem c_X0_council (l : Launch) (hl9 : l.stackTraces = false) (D : va_G) (cI cZ : ClassId) (ty : kz_Y) (ad : Nat → Nat) (rs : va_W) (sz : Nat) (it o n g v r : Int32) (nx mt fl pr ofs ak hd an : Nat → Int32) (p0 : Int32) : ez_M l yX0_council wsX0_council ({ frames := 2, cells := 1, slots := 6, locals := 40 } : Room) (kz_P D ((cI, .int) :: (cZ, .boolean) :: ty) (wX ad cI cZ it o n g v r nx mt fl pr ofs ak hd an ++ rs) sz [.ref (ad 0), .int p0]) (kz_Ro (kz_i (fun r9 => r9 = (if p0 = 0 then o else if p0 = 1 then n else if p0 = 2 then g else if p0 = 3 then (o ||| n) else if p0 = 4 then sq_P it o n g else if p0 = 5 then v else if p0 = 6 then r else if p0 = 7 then it else (-1))))) (kz_T (fun _ => IAE) (fun _ => False)) 0 0 (fun _ => False) := by
  refine ez_ofW (cc := cX0_council) (maxL := 2) (ret := (some .int)) (by decide) rfl ?_
  intro p e s m args below meth c s₁ B hml hTab hv
  obtain ⟨rfl, hsz, hP, hK, hD0, hE⟩ := hv
  have hx := B.exec
  have hb := B.bytes
  have hr := B.returns
  have hw9 : ∀ w ∈ kz_W9, w.before ([.ref (ad 0), .int p0] : List Value).toArray s = true := fun w h => atoms_spec (ws := wsX0_council) B.pre w (List.mem_cons_of_mem _ h)
  have hown : s.vm.findClass RX0 = some m.cls := findClass_of_methodNamed B.named
  have hlocks := B.notSynchronized
  subst hsz
  have hD := hD0.self (sz := s.heap.size)
  generalize hAe : va_A (wX ad cI cZ it o n g v r nx mt fl pr ofs ak hd an ++ rs) s.heap.size = A at hD hE
  have hA : ∀ q : Nat, s.heap.size ≤ q → A q := fun q h => by rw [← hAe]; exact Or.inr h
  have hS : va_S A s.heap s.heap [] := va_S.rf
  have hO : kz_O s.heap s.heap := kz_O.rf _
  have hl := lv_entry ([.ref (ad 0), .int p0]) (n := 2) (Nat.le_of_ble_eq_true rfl)
  rw [lg_entry_eq]
  generalize (lg_sl ([.ref (ad 0), .int p0]) ++ List.replicate (2 - (lg_sl ([.ref (ad 0), .int p0])).length) Slot.unset).toArray = ls at hl ⊢
  have hl : lv_has ls 2 [(0, .ref (ad 0)), (1, .int p0)] := hl
  refine lv_iload_n hx hb dX0_council_0 rfl (lv_at hl 1 rfl) ?_
  by_cases c_1 : p0 = 0
  · -- case 0
    refine lv_tableIn (tgt := 48) hx hb dX0_council_1 (by rw [c_1]; decide) (by rw [c_1]; decide) (by rw [c_1]; rfl) (by decide) ?_
    refine lv_aload_n hx hb dX0_council_48 rfl (lv_at hl 0 rfl) ?_
    refine va_get (D := D) (ci := 0) (v := .int o) (C := RX0) (T := TX0) (N := 14) hx hb hw9 uX0 hown hK hP 0 rfl rfl 1 (by decide) (hw9 _ mw_20) (fun _ h9 => h9) rfl dX0_council_49 ?_
    exact kz_reti hx hb hr hlocks hO (by first | (simp [c_1]; done) | (simp only [c_1, eq_self, not_true_eq_false, not_false_eq_true, and_self, and_true, true_and, and_false, false_and, or_true, true_or, or_false, false_or, if_true, if_false, ite_true, ite_false, Bool.and_eq_true, decide_true, decide_false, decide_eq_true_eq, ne_eq, Nat.reduceEqDiff, Nat.one_ne_zero, Bool.false_eq_true, reduceCtorEq]; done) | (simp only [c_1, eq_self, not_true_eq_false, not_false_eq_true, and_self, and_true, true_and, and_false, false_and, or_true, true_or, or_false, false_or, if_true, if_false, ite_true, ite_false, Bool.and_eq_true, decide_true, decide_false, decide_eq_true_eq, ne_eq, Nat.reduceEqDiff, Nat.one_ne_zero, Bool.false_eq_true, reduceCtorEq]; decide))  dX0_council_52
  by_cases c_2 : p0 = 1
  · -- case 1
    refine lv_tableIn (tgt := 53) hx hb dX0_council_1 (by rw [c_2]; decide) (by rw [c_2]; decide) (by rw [c_2]; rfl) (by decide) ?_
    refine lv_aload_n hx hb dX0_council_53 rfl (lv_at hl 0 rfl) ?_
    refine va_get (D := D) (ci := 0) (v := .int n) (C := RX0) (T := TX0) (N := 14) hx hb hw9 uX0 hown hK hP 0 rfl rfl 2 (by decide) (hw9 _ mw_21) (fun _ h9 => h9) rfl dX0_council_54 ?_
    exact kz_reti hx hb hr hlocks hO (by first | (simp [c_1, c_2]; done) | (simp only [c_1, c_2, eq_self, not_true_eq_false, not_false_eq_true, and_self, and_true, true_and, and_false, false_and, or_true, true_or, or_false, false_or, if_true, if_false, ite_true, ite_false, Bool.and_eq_true, decide_true, decide_false, decide_eq_true_eq, ne_eq, Nat.reduceEqDiff, Nat.one_ne_zero, Bool.false_eq_true, reduceCtorEq]; done) | (simp only [c_1, c_2, eq_self, not_true_eq_false, not_false_eq_true, and_self, and_true, true_and, and_false, false_and, or_true, true_or, or_false, false_or, if_true, if_false, ite_true, ite_false, Bool.and_eq_true, decide_true, decide_false, decide_eq_true_eq, ne_eq, Nat.reduceEqDiff, Nat.one_ne_zero, Bool.false_eq_true, reduceCtorEq]; decide))  dX0_council_57
  by_cases c_3 : p0 = 2
  · -- case 2
    refine lv_tableIn (tgt := 58) hx hb dX0_council_1 (by rw [c_3]; decide) (by rw [c_3]; decide) (by rw [c_3]; rfl) (by decide) ?_
    refine lv_aload_n hx hb dX0_council_58 rfl (lv_at hl 0 rfl) ?_
    refine va_get (D := D) (ci := 0) (v := .int g) (C := RX0) (T := TX0) (N := 14) hx hb hw9 uX0 hown hK hP 0 rfl rfl 3 (by decide) (hw9 _ mw_22) (fun _ h9 => h9) rfl dX0_council_59 ?_
    exact kz_reti hx hb hr hlocks hO (by first | (simp [c_1, c_2, c_3]; done) | (simp only [c_1, c_2, c_3, eq_self, not_true_eq_false, not_false_eq_true, and_self, and_true, true_and, and_false, false_and, or_true, true_or, or_false, false_or, if_true, if_false, ite_true, ite_false, Bool.and_eq_true, decide_true, decide_false, decide_eq_true_eq, ne_eq, Nat.reduceEqDiff, Nat.one_ne_zero, Bool.false_eq_true, reduceCtorEq]; done) | (simp only [c_1, c_2, c_3, eq_self, not_true_eq_false, not_false_eq_true, and_self, and_true, true_and, and_false, false_and, or_true, true_or, or_false, false_or, if_true, if_false, ite_true, ite_false, Bool.and_eq_true, decide_true, decide_false, decide_eq_true_eq, ne_eq, Nat.reduceEqDiff, Nat.one_ne_zero, Bool.false_eq_true, reduceCtorEq]; decide))  dX0_council_62
  by_cases c_4 : p0 = 3
  · -- case 3
    refine lv_tableIn (tgt := 63) hx hb dX0_council_1 (by rw [c_4]; decide) (by rw [c_4]; decide) (by rw [c_4]; rfl) (by decide) ?_
    refine lv_aload_n hx hb dX0_council_63 rfl (lv_at hl 0 rfl) ?_
    refine kz_rV (As := []) (rest := []) ⟨hx, hb, hml, hown, hw9⟩ (c_X0_voterSet l hl9 D cI cZ ty ad rs s.heap.size it o n g v r nx mt fl pr ofs ak hd an) (kz_cV 0 hw9 mw_76 mw_78 ms_1 mw_1 mw_79 rfl rfl (by decide +kernel) ⟨Nat.le_of_ble_eq_true rfl, Nat.le_of_ble_eq_true rfl⟩) (kz_preV (q0 := 0) (ci := 0) hK hP hD hS hA hE rfl rfl) rfl hl.1 rfl (Nat.le_of_ble_eq_true rfl) dX0_council_64 ⟨Nat.le_of_ble_eq_true rfl, Nat.le_of_ble_eq_true rfl⟩ (fun _ _ _ _ h => False.elim h) (fun v9 H hv9 hO1 => ?_)
    obtain ⟨_, rfl, rfl⟩ := hv9
    have hP := hO1.P hP
    have hS := hO1.S hS
    have hO := hO.tr hO1
    refine W.eq (g2 := F0 m 67 ls [.int (o ||| n)]) rfl ?_
    exact kz_reti hx hb hr hlocks hO (by first | (simp [c_1, c_2, c_3, c_4]; done) | (simp only [c_1, c_2, c_3, c_4, eq_self, not_true_eq_false, not_false_eq_true, and_self, and_true, true_and, and_false, false_and, or_true, true_or, or_false, false_or, if_true, if_false, ite_true, ite_false, Bool.and_eq_true, decide_true, decide_false, decide_eq_true_eq, ne_eq, Nat.reduceEqDiff, Nat.one_ne_zero, Bool.false_eq_true, reduceCtorEq]; done) | (simp only [c_1, c_2, c_3, c_4, eq_self, not_true_eq_false, not_false_eq_true, and_self, and_true, true_and, and_false, false_and, or_true, true_or, or_false, false_or, if_true, if_false, ite_true, ite_false, Bool.and_eq_true, decide_true, decide_false, decide_eq_true_eq, ne_eq, Nat.reduceEqDiff, Nat.one_ne_zero, Bool.false_eq_true, reduceCtorEq]; decide))  dX0_council_67
  by_cases c_5 : p0 = 4
  · -- case 4
    refine lv_tableIn (tgt := 68) hx hb dX0_council_1 (by rw [c_5]; decide) (by rw [c_5]; decide) (by rw [c_5]; rfl) (by decide) ?_
    refine lv_aload_n hx hb dX0_council_68 rfl (lv_at hl 0 rfl) ?_
    refine kz_rV (As := []) (rest := []) ⟨hx, hb, hml, hown, hw9⟩ (c_X0_peerSet l hl9 D cI cZ ty ad rs s.heap.size it o n g v r nx mt fl pr ofs ak hd an) (kz_cV 0 hw9 mw_72 mw_74 ms_0 mw_1 mw_75 rfl rfl (by decide +kernel) ⟨Nat.le_of_ble_eq_true rfl, Nat.le_of_ble_eq_true rfl⟩) (kz_preV (q0 := 0) (ci := 0) hK hP hD hS hA hE rfl rfl) rfl hl.1 rfl (Nat.le_of_ble_eq_true rfl) dX0_council_69 ⟨Nat.le_of_ble_eq_true rfl, Nat.le_of_ble_eq_true rfl⟩ (fun _ _ _ _ h => False.elim h) (fun v9 H hv9 hO1 => ?_)
    obtain ⟨_, rfl, rfl⟩ := hv9
    have hP := hO1.P hP
    have hS := hO1.S hS
    have hO := hO.tr hO1
    refine W.eq (g2 := F0 m 72 ls [.int (sq_P it o n g)]) rfl ?_
    exact kz_reti hx hb hr hlocks hO (by first | (simp [c_1, c_2, c_3, c_4, c_5]; done) | (simp only [c_1, c_2, c_3, c_4, c_5, eq_self, not_true_eq_false, not_false_eq_true, and_self, and_true, true_and, and_false, false_and, or_true, true_or, or_false, false_or, if_true, if_false, ite_true, ite_false, Bool.and_eq_true, decide_true, decide_false, decide_eq_true_eq, ne_eq, Nat.reduceEqDiff, Nat.one_ne_zero, Bool.false_eq_true, reduceCtorEq]; done) | (simp only [c_1, c_2, c_3, c_4, c_5, eq_self, not_true_eq_false, not_false_eq_true, and_self, and_true, true_and, and_false, false_and, or_true, true_or, or_false, false_or, if_true, if_false, ite_true, ite_false, Bool.and_eq_true, decide_true, decide_false, decide_eq_true_eq, ne_eq, Nat.reduceEqDiff, Nat.one_ne_zero, Bool.false_eq_true, reduceCtorEq]; decide))  dX0_council_72
  by_cases c_6 : p0 = 5
  · -- case 5
    refine lv_tableIn (tgt := 73) hx hb dX0_council_1 (by rw [c_6]; decide) (by rw [c_6]; decide) (by rw [c_6]; rfl) (by decide) ?_
    refine lv_aload_n hx hb dX0_council_73 rfl (lv_at hl 0 rfl) ?_
    refine va_get (D := D) (ci := 0) (v := .int v) (C := RX0) (T := TX0) (N := 14) hx hb hw9 uX0 hown hK hP 0 rfl rfl 4 (by decide) (hw9 _ mw_23) (fun _ h9 => h9) rfl dX0_council_74 ?_
    exact kz_reti hx hb hr hlocks hO (by first | (simp [c_1, c_2, c_3, c_4, c_5, c_6]; done) | (simp only [c_1, c_2, c_3, c_4, c_5, c_6, eq_self, not_true_eq_false, not_false_eq_true, and_self, and_true, true_and, and_false, false_and, or_true, true_or, or_false, false_or, if_true, if_false, ite_true, ite_false, Bool.and_eq_true, decide_true, decide_false, decide_eq_true_eq, ne_eq, Nat.reduceEqDiff, Nat.one_ne_zero, Bool.false_eq_true, reduceCtorEq]; done) | (simp only [c_1, c_2, c_3, c_4, c_5, c_6, eq_self, not_true_eq_false, not_false_eq_true, and_self, and_true, true_and, and_false, false_and, or_true, true_or, or_false, false_or, if_true, if_false, ite_true, ite_false, Bool.and_eq_true, decide_true, decide_false, decide_eq_true_eq, ne_eq, Nat.reduceEqDiff, Nat.one_ne_zero, Bool.false_eq_true, reduceCtorEq]; decide))  dX0_council_77
  by_cases c_7 : p0 = 6
  · -- case 6
    refine lv_tableIn (tgt := 78) hx hb dX0_council_1 (by rw [c_7]; decide) (by rw [c_7]; decide) (by rw [c_7]; rfl) (by decide) ?_
    refine lv_aload_n hx hb dX0_council_78 rfl (lv_at hl 0 rfl) ?_
    refine va_get (D := D) (ci := 0) (v := .int r) (C := RX0) (T := TX0) (N := 14) hx hb hw9 uX0 hown hK hP 0 rfl rfl 5 (by decide) (hw9 _ mw_24) (fun _ h9 => h9) rfl dX0_council_79 ?_
    exact kz_reti hx hb hr hlocks hO (by first | (simp [c_1, c_2, c_3, c_4, c_5, c_6, c_7]; done) | (simp only [c_1, c_2, c_3, c_4, c_5, c_6, c_7, eq_self, not_true_eq_false, not_false_eq_true, and_self, and_true, true_and, and_false, false_and, or_true, true_or, or_false, false_or, if_true, if_false, ite_true, ite_false, Bool.and_eq_true, decide_true, decide_false, decide_eq_true_eq, ne_eq, Nat.reduceEqDiff, Nat.one_ne_zero, Bool.false_eq_true, reduceCtorEq]; done) | (simp only [c_1, c_2, c_3, c_4, c_5, c_6, c_7, eq_self, not_true_eq_false, not_false_eq_true, and_self, and_true, true_and, and_false, false_and, or_true, true_or, or_false, false_or, if_true, if_false, ite_true, ite_false, Bool.and_eq_true, decide_true, decide_false, decide_eq_true_eq, ne_eq, Nat.reduceEqDiff, Nat.one_ne_zero, Bool.false_eq_true, reduceCtorEq]; decide))  dX0_council_82
  by_cases c_8 : p0 = 7
  · -- case 7
    refine lv_tableIn (tgt := 83) hx hb dX0_council_1 (by rw [c_8]; decide) (by rw [c_8]; decide) (by rw [c_8]; rfl) (by decide) ?_
    refine lv_aload_n hx hb dX0_council_83 rfl (lv_at hl 0 rfl) ?_
    refine va_get (D := D) (ci := 0) (v := .int it) (C := RX0) (T := TX0) (N := 14) hx hb hw9 uX0 hown hK hP 0 rfl rfl 0 (by decide) (hw9 _ mw_19) (fun _ h9 => h9) rfl dX0_council_84 ?_
    exact kz_reti hx hb hr hlocks hO (by first | (simp [c_1, c_2, c_3, c_4, c_5, c_6, c_7, c_8]; done) | (simp only [c_1, c_2, c_3, c_4, c_5, c_6, c_7, c_8, eq_self, not_true_eq_false, not_false_eq_true, and_self, and_true, true_and, and_false, false_and, or_true, true_or, or_false, false_or, if_true, if_false, ite_true, ite_false, Bool.and_eq_true, decide_true, decide_false, decide_eq_true_eq, ne_eq, Nat.reduceEqDiff, Nat.one_ne_zero, Bool.false_eq_true, reduceCtorEq]; done) | (simp only [c_1, c_2, c_3, c_4, c_5, c_6, c_7, c_8, eq_self, not_true_eq_false, not_false_eq_true, and_self, and_true, true_and, and_false, false_and, or_true, true_or, or_false, false_or, if_true, if_false, ite_true, ite_false, Bool.and_eq_true, decide_true, decide_false, decide_eq_true_eq, ne_eq, Nat.reduceEqDiff, Nat.one_ne_zero, Bool.false_eq_true, reduceCtorEq]; decide))  dX0_council_87
  have hout9 : p0.toInt < 0 ∨ 7 < p0.toInt := by
    have q0 := lv_neT (a := 0) c_1 (by decide)
    have q1 := lv_neT (a := 1) c_2 (by decide)
    have q2 := lv_neT (a := 2) c_3 (by decide)
    have q3 := lv_neT (a := 3) c_4 (by decide)
    have q4 := lv_neT (a := 4) c_5 (by decide)
    have q5 := lv_neT (a := 5) c_6 (by decide)
    have q6 := lv_neT (a := 6) c_7 (by decide)
    have q7 := lv_neT (a := 7) c_8 (by decide)
    omega
  refine lv_tableOut (tgt := 88) hx hb dX0_council_1 hout9 (by decide) ?_
  refine lv_iconst (v := (-1)) hx hb dX0_council_88 (by decide) ?_
  exact kz_reti hx hb hr hlocks hO (by first | (simp [c_1, c_2, c_3, c_4, c_5, c_6, c_7, c_8]; done) | (simp only [c_1, c_2, c_3, c_4, c_5, c_6, c_7, c_8, eq_self, not_true_eq_false, not_false_eq_true, and_self, and_true, true_and, and_false, false_and, or_true, true_or, or_false, false_or, if_true, if_false, ite_true, ite_false, Bool.and_eq_true, decide_true, decide_false, decide_eq_true_eq, ne_eq, Nat.reduceEqDiff, Nat.one_ne_zero, Bool.false_eq_true, reduceCtorEq]; done) | (simp only [c_1, c_2, c_3, c_4, c_5, c_6, c_7, c_8, eq_self, not_true_eq_false, not_false_eq_true, and_self, and_true, true_and, and_false, false_and, or_true, true_or, or_false, false_or, if_true, if_false, ite_true, ite_false, Bool.and_eq_true, decide_true, decide_false, decide_eq_true_eq, ne_eq, Nat.reduceEqDiff, Nat.one_ne_zero, Bool.false_eq_true, reduceCtorEq]; decide))  dX0_council_89
set_option maxHeartbeats 4000000 in
set_option maxRecDepth 100000 in
theorem c_X0_lead (l : Launch) (hl9 : l.stackTraces = false) (D : va_G) (cI cZ : ClassId) (ty : kz_Y) (ad : Nat → Nat) (rs : va_W) (sz : Nat) (it o n g v r : Int32) (nx mt fl pr ofs ak hd an : Nat → Int32) (p0 : Int32) (p1 : Int32) : ez_M l yX0_lead wsX0_lead ({ frames := 7, cells := 1, slots := 6, locals := 110 } : Room) (kz_P D ((cI, .int) :: (cZ, .boolean) :: ty) (wX ad cI cZ it o n g v r nx mt fl pr ofs ak hd an ++ rs) sz [.ref (ad 0), .int p0, .int p1]) (kz_Wr D (va_A (wX ad cI cZ it o n g v r nx mt fl pr ofs ak hd an ++ rs) sz) (kz_v (tc_own p0 p1 = 0)) (wX ad cI cZ it o n g v 0 (fun _ => p0 + 1) (fun _ => 0) (fun _ => 0) (fun _ => 1) (fun _ => 0) (fun _ => 0) (fun _ => p1) (fun _ => 0) ++ rs)) (kz_T (fun _ => IAE) (fun k => k = tc_own p0 p1 ∧ ¬ k = 0)) 0 0 (va_A (wX ad cI cZ it o n g v r nx mt fl pr ofs ak hd an ++ rs) sz) := by
  refine ez_ofW (cc := cX0_lead) (maxL := 4) (ret := none) (by decide) rfl ?_
  intro p e s m args below meth c s₁ B hml hTab hv
  obtain ⟨rfl, hsz, hP, hK, hD0, hE⟩ := hv
  have hx := B.exec
  have hb := B.bytes
  have hr := B.returns
  have hw9 : ∀ w ∈ kz_W9, w.before ([.ref (ad 0), .int p0, .int p1] : List Value).toArray s = true := fun w h => atoms_spec (ws := wsX0_lead) B.pre w (List.mem_cons_of_mem _ h)
  have hown : s.vm.findClass RX0 = some m.cls := findClass_of_methodNamed B.named
  have hlocks := B.notSynchronized
  subst hsz
  have hD := hD0.self (sz := s.heap.size)
  generalize hAe : va_A (wX ad cI cZ it o n g v r nx mt fl pr ofs ak hd an ++ rs) s.heap.size = A at hD hE ⊢
  have hA : ∀ q : Nat, s.heap.size ≤ q → A q := fun q h => by rw [← hAe]; exact Or.inr h
  have hS : va_S A s.heap s.heap [] := va_S.rf
  have hO : kz_O s.heap s.heap := kz_O.rf _
  have hl := lv_entry ([.ref (ad 0), .int p0, .int p1]) (n := 4) (Nat.le_of_ble_eq_true rfl)
  rw [lg_entry_eq]
  generalize (lg_sl ([.ref (ad 0), .int p0, .int p1]) ++ List.replicate (4 - (lg_sl ([.ref (ad 0), .int p0, .int p1])).length) Slot.unset).toArray = ls at hl ⊢
  have hl : lv_has ls 4 [(0, .ref (ad 0)), (1, .int p0), (2, .int p1)] := hl
  refine lv_iload_n hx hb dX0_lead_0 rfl (lv_at hl 1 rfl) ?_
  refine kz_rS (As := [.int p0]) (rest := []) ⟨hx, hb, hml, hown, hw9⟩ (c_X0_requireNumber l hl9 D ((cI, .int) :: (cZ, .boolean) :: ty) (wX ad cI cZ it o n g v r nx mt fl pr ofs ak hd an ++ rs) s.heap.size p0) (kz_cS 1 hw9 mw_266 mw_267 mw_1 mw_268 rfl rfl (by decide +kernel) ⟨Nat.le_of_ble_eq_true rfl, Nat.le_of_ble_eq_true rfl⟩) (kz_preS hK hP hD hS hA hE) rfl hl.1 rfl (Nat.le_of_ble_eq_true rfl) dX0_lead_1 ⟨Nat.le_of_ble_eq_true rfl, Nat.le_of_ble_eq_true rfl⟩ (fun k ce q9 H1 hk hO1 hce hcv hcl => ?_) (fun v9 H hv9 hO1 => ?_)
  · -- thrown
    exact kz_out (k := 1) hTab hlocks (by first | (simp [tc_own, hk]; done) | (simp only [tc_own, hk, eq_self, not_true_eq_false, not_false_eq_true, and_self, and_true, true_and, and_false, false_and, or_true, true_or, or_false, false_or, if_true, if_false, ite_true, ite_false, Bool.and_eq_true, decide_true, decide_false, decide_eq_true_eq, ne_eq, Nat.reduceEqDiff, Nat.one_ne_zero, Bool.false_eq_true, reduceCtorEq]; done) | (simp only [tc_own, hk, eq_self, not_true_eq_false, not_false_eq_true, and_self, and_true, true_and, and_false, false_and, or_true, true_or, or_false, false_or, if_true, if_false, ite_true, ite_false, Bool.and_eq_true, decide_true, decide_false, decide_eq_true_eq, ne_eq, Nat.reduceEqDiff, Nat.one_ne_zero, Bool.false_eq_true, reduceCtorEq]; decide)) (hO.tr hO1) hce hcv hcl (fun _ h => nomatch h) (Nat.le_of_ble_eq_true rfl) (Nat.le_of_ble_eq_true rfl)
  · -- goes on
    obtain ⟨rfl, hv_1⟩ := hv9
    have hP := hO1.P hP
    have hS := hO1.S hS
    have hO := hO.tr hO1
    refine W.eq (g2 := F0 m 4 ls []) rfl ?_
    refine lv_iload_n hx hb dX0_lead_4 rfl (lv_at hl 2 rfl) ?_
    refine kz_rS (As := [.int p1]) (rest := []) ⟨hx, hb, hml, hown, hw9⟩ (c_X0_requireNumber l hl9 D ((cI, .int) :: (cZ, .boolean) :: ty) (wX ad cI cZ it o n g v r nx mt fl pr ofs ak hd an ++ rs) H.size p1) (kz_cS 1 hw9 mw_266 mw_267 mw_1 mw_268 rfl rfl (by decide +kernel) ⟨Nat.le_of_ble_eq_true rfl, Nat.le_of_ble_eq_true rfl⟩) (kz_preS hK hP hD hS hA hE) rfl hl.1 rfl (Nat.le_of_ble_eq_true rfl) dX0_lead_5 ⟨Nat.le_of_ble_eq_true rfl, Nat.le_of_ble_eq_true rfl⟩ (fun k ce q9 H1 hk hO1 hce hcv hcl => ?_) (fun v9 H hv9 hO1 => ?_)
    · -- thrown
      exact kz_out (k := 1) hTab hlocks (by first | (simp [tc_own, hv_1, hk]; done) | (simp only [tc_own, hv_1, hk, eq_self, not_true_eq_false, not_false_eq_true, and_self, and_true, true_and, and_false, false_and, or_true, true_or, or_false, false_or, if_true, if_false, ite_true, ite_false, Bool.and_eq_true, decide_true, decide_false, decide_eq_true_eq, ne_eq, Nat.reduceEqDiff, Nat.one_ne_zero, Bool.false_eq_true, reduceCtorEq]; done) | (simp only [tc_own, hv_1, hk, eq_self, not_true_eq_false, not_false_eq_true, and_self, and_true, true_and, and_false, false_and, or_true, true_or, or_false, false_or, if_true, if_false, ite_true, ite_false, Bool.and_eq_true, decide_true, decide_false, decide_eq_true_eq, ne_eq, Nat.reduceEqDiff, Nat.one_ne_zero, Bool.false_eq_true, reduceCtorEq]; decide)) (hO.tr hO1) hce hcv hcl (fun _ h => nomatch h) (Nat.le_of_ble_eq_true rfl) (Nat.le_of_ble_eq_true rfl)
    · -- goes on
      obtain ⟨rfl, hv_2⟩ := hv9
      have hP := hO1.P hP
      have hS := hO1.S hS
      have hO := hO.tr hO1
      refine W.eq (g2 := F0 m 8 ls []) rfl ?_
      refine lv_iconst (v := 0) hx hb dX0_lead_8 (by decide) ?_
      refine lv_istore_n (lv' := [(3, .int 0), (0, .ref (ad 0)), (1, .int p0), (2, .int p1)]) hx hb dX0_lead_9 rfl hl (by decide) rfl (fun ls hl => ?_)
      have loop : ∀ (k i : Nat) (nx mt fl pr ofs ak hd an : Nat → Int32) (H : Heap) (locs : List Loc) (ls : Array Slot), i ≤ 7 → 7 < i + k → (∀ j, j < i → nx j = p0 + 1 ∧ mt j = 0 ∧ fl j = 0 ∧ pr j = 1 ∧ ofs j = 0 ∧ ak j = 0 ∧ hd j = p1 ∧ an j = 0) → va_P D vwCl (wX ad cI cZ it o n g v r nx mt fl pr ofs ak hd an ++ rs) H → va_D A (wX ad cI cZ it o n g v r nx mt fl pr ofs ak hd an ++ rs) → va_S A s.heap H locs → lv_has ls 4 [(3, .int (nI i)), (0, .ref (ad 0)), (1, .int p0), (2, .int p1)] → W p l e (headSpec wsX0_lead ({ frames := 7, cells := 1, slots := 6, locals := 110 } : Room)).room s m ([.ref (ad 0), .int p0, .int p1] : List Value).toArray below meth c H locs 0 0 (ez_MQ below (kz_Wr D A (kz_v (tc_own p0 p1 = 0)) (wX ad cI cZ it o n g v 0 (fun _ => p0 + 1) (fun _ => 0) (fun _ => 0) (fun _ => 1) (fun _ => 0) (fun _ => 0) (fun _ => p1) (fun _ => 0) ++ rs)) (kz_T (fun _ => IAE) (fun k => k = tc_own p0 p1 ∧ ¬ k = 0)) s 0 0 A) (F0 m 10 ls []) := by
        intro k
        induction k with
        | zero => intro i nx mt fl pr ofs ak hd an H locs ls h1 h2; omega
        | succ k ih =>
          intro i nx mt fl pr ofs ak hd an H locs ls h1 h2 hinv hP hD hS hl
          refine lv_iload_n hx hb dX0_lead_10 rfl (lv_at hl 0 rfl) ?_
          refine lv_bipush (v := 7) hx hb dX0_lead_11 (by decide) ?_
          refine lv_icmp_ge (tgt := 80) hx hb dX0_lead_13 (by decide) (fun c_3 => ?_) (fun c_3 => ?_)
          · -- 13 -> 80
            have hi7 : i = 7 := kz_i7 h1 c_3
            subst hi7
            have hP : va_P D vwCl (wX ad cI cZ it o n g v r (fun _ => p0 + 1) mt fl pr ofs ak hd an ++ rs) H := kz_fn (g := fun _ => p0 + 1) (k := 1) hP rfl (fun j hj => (hinv j hj).1)
            have hD : va_D A (wX ad cI cZ it o n g v r (fun _ => p0 + 1) mt fl pr ofs ak hd an ++ rs) := hD.set (p := 1) rfl
            have hP : va_P D vwCl (wX ad cI cZ it o n g v r (fun _ => p0 + 1) (fun _ => 0) fl pr ofs ak hd an ++ rs) H := kz_fn (g := fun _ => 0) (k := 2) hP rfl (fun j hj => (hinv j hj).2.1)
            have hD : va_D A (wX ad cI cZ it o n g v r (fun _ => p0 + 1) (fun _ => 0) fl pr ofs ak hd an ++ rs) := hD.set (p := 2) rfl
            have hP : va_P D vwCl (wX ad cI cZ it o n g v r (fun _ => p0 + 1) (fun _ => 0) (fun _ => 0) pr ofs ak hd an ++ rs) H := kz_fn (g := fun _ => 0) (k := 3) hP rfl (fun j hj => (hinv j hj).2.2.1)
            have hD : va_D A (wX ad cI cZ it o n g v r (fun _ => p0 + 1) (fun _ => 0) (fun _ => 0) pr ofs ak hd an ++ rs) := hD.set (p := 3) rfl
            have hP : va_P D vwCl (wX ad cI cZ it o n g v r (fun _ => p0 + 1) (fun _ => 0) (fun _ => 0) (fun _ => 1) ofs ak hd an ++ rs) H := kz_fn (g := fun _ => 1) (k := 4) hP rfl (fun j hj => (hinv j hj).2.2.2.1)
            have hD : va_D A (wX ad cI cZ it o n g v r (fun _ => p0 + 1) (fun _ => 0) (fun _ => 0) (fun _ => 1) ofs ak hd an ++ rs) := hD.set (p := 4) rfl
            have hP : va_P D vwCl (wX ad cI cZ it o n g v r (fun _ => p0 + 1) (fun _ => 0) (fun _ => 0) (fun _ => 1) (fun _ => 0) ak hd an ++ rs) H := kz_fn (g := fun _ => 0) (k := 5) hP rfl (fun j hj => (hinv j hj).2.2.2.2.1)
            have hD : va_D A (wX ad cI cZ it o n g v r (fun _ => p0 + 1) (fun _ => 0) (fun _ => 0) (fun _ => 1) (fun _ => 0) ak hd an ++ rs) := hD.set (p := 5) rfl
            have hP : va_P D vwCl (wX ad cI cZ it o n g v r (fun _ => p0 + 1) (fun _ => 0) (fun _ => 0) (fun _ => 1) (fun _ => 0) (fun _ => 0) hd an ++ rs) H := kz_fn (g := fun _ => 0) (k := 6) hP rfl (fun j hj => (hinv j hj).2.2.2.2.2.1)
            have hD : va_D A (wX ad cI cZ it o n g v r (fun _ => p0 + 1) (fun _ => 0) (fun _ => 0) (fun _ => 1) (fun _ => 0) (fun _ => 0) hd an ++ rs) := hD.set (p := 6) rfl
            have hP : va_P D vwCl (wX ad cI cZ it o n g v r (fun _ => p0 + 1) (fun _ => 0) (fun _ => 0) (fun _ => 1) (fun _ => 0) (fun _ => 0) (fun _ => p1) an ++ rs) H := kz_fn (g := fun _ => p1) (k := 7) hP rfl (fun j hj => (hinv j hj).2.2.2.2.2.2.1)
            have hD : va_D A (wX ad cI cZ it o n g v r (fun _ => p0 + 1) (fun _ => 0) (fun _ => 0) (fun _ => 1) (fun _ => 0) (fun _ => 0) (fun _ => p1) an ++ rs) := hD.set (p := 7) rfl
            have hP : va_P D vwCl (wX ad cI cZ it o n g v r (fun _ => p0 + 1) (fun _ => 0) (fun _ => 0) (fun _ => 1) (fun _ => 0) (fun _ => 0) (fun _ => p1) (fun _ => 0) ++ rs) H := kz_fn (g := fun _ => 0) (k := 8) hP rfl (fun j hj => (hinv j hj).2.2.2.2.2.2.2)
            have hD : va_D A (wX ad cI cZ it o n g v r (fun _ => p0 + 1) (fun _ => 0) (fun _ => 0) (fun _ => 1) (fun _ => 0) (fun _ => 0) (fun _ => p1) (fun _ => 0) ++ rs) := hD.set (p := 8) rfl
            refine lv_aload_n hx hb dX0_lead_80 rfl (lv_at hl 1 rfl) ?_
            refine lv_iconst (v := 0) hx hb dX0_lead_81 (by decide) ?_
            refine va_put (D := D) (ci := 0) (v := .int 0) (ty := .int) (C := RX0) (T := TX0) (N := 14) hx hb hw9 uX0 tyX0 tyX0_ok nmX0 hown hK hP hD hS 0 rfl rfl 5 (by decide) (hw9 _ mw_24) (fun _ h9 => h9) rfl (by decide +kernel) rfl rfl (Nat.le_of_ble_eq_true rfl) dX0_lead_82 (fun H locs hP hD hS => ?_)
            have hP : va_P D vwCl (wX ad cI cZ it o n g v 0 (fun _ => p0 + 1) (fun _ => 0) (fun _ => 0) (fun _ => 1) (fun _ => 0) (fun _ => 0) (fun _ => p1) (fun _ => 0) ++ rs) H := hP
            have hD : va_D A (wX ad cI cZ it o n g v 0 (fun _ => p0 + 1) (fun _ => 0) (fun _ => 0) (fun _ => 1) (fun _ => 0) (fun _ => 0) (fun _ => p1) (fun _ => 0) ++ rs) := hD
            exact kz_wretv hx hb hr hlocks hP hD hS (Nat.le_of_ble_eq_true rfl) (Nat.le_of_ble_eq_true rfl) (by first | (simp [tc_own, hv_1, hv_2, c_3, (Int32.not_lt.mpr c_3)]; done) | (simp only [tc_own, hv_1, hv_2, c_3, (Int32.not_lt.mpr c_3), eq_self, not_true_eq_false, not_false_eq_true, and_self, and_true, true_and, and_false, false_and, or_true, true_or, or_false, false_or, if_true, if_false, ite_true, ite_false, Bool.and_eq_true, decide_true, decide_false, decide_eq_true_eq, ne_eq, Nat.reduceEqDiff, Nat.one_ne_zero, Bool.false_eq_true, reduceCtorEq]; done) | (simp only [tc_own, hv_1, hv_2, c_3, (Int32.not_lt.mpr c_3), eq_self, not_true_eq_false, not_false_eq_true, and_self, and_true, true_and, and_false, false_and, or_true, true_or, or_false, false_or, if_true, if_false, ite_true, ite_false, Bool.and_eq_true, decide_true, decide_false, decide_eq_true_eq, ne_eq, Nat.reduceEqDiff, Nat.one_ne_zero, Bool.false_eq_true, reduceCtorEq]; decide))  dX0_lead_85
          · -- 13 -> 16
            have hi9 : i < 7 := kz_l7 h1 c_3
            have hc9 : (nI i).toNatClampNeg = i := nI_clamp (by omega)
            refine lv_aload_n hx hb dX0_lead_16 rfl (lv_at hl 1 rfl) ?_
            refine va_get (D := D) (ci := 0) (v := .ref (ad 1)) (C := RX0) (T := TX0) (N := 14) hx hb hw9 uX0 hown hK hP 0 rfl rfl 6 (by decide) (hw9 _ mw_25) (fun _ h9 => h9) rfl dX0_lead_17 ?_
            refine lv_iload_n hx hb dX0_lead_20 rfl (lv_at hl 0 rfl) ?_
            refine lv_iload_n hx hb dX0_lead_21 rfl (lv_at hl 2 rfl) ?_
            refine lv_iconst (v := 1) hx hb dX0_lead_22 (by decide) ?_
            refine lv_iadd hx hb dX0_lead_23 ?_
            refine va_iast hx hb hK hP hD hS 1 0 rfl rfl (vp_in_nI hi9 (by decide)) dX0_lead_24 (fun H locs hP hD hS => ?_)
            rw [hc9] at hP hD
            have hP : va_P D vwCl (wX ad cI cZ it o n g v r (upd nx i (p0 + 1)) mt fl pr ofs ak hd an ++ rs) H := hP
            have hD : va_D A (wX ad cI cZ it o n g v r (upd nx i (p0 + 1)) mt fl pr ofs ak hd an ++ rs) := hD
            refine lv_aload_n hx hb dX0_lead_25 rfl (lv_at hl 1 rfl) ?_
            refine va_get (D := D) (ci := 0) (v := .ref (ad 2)) (C := RX0) (T := TX0) (N := 14) hx hb hw9 uX0 hown hK hP 0 rfl rfl 7 (by decide) (hw9 _ mw_26) (fun _ h9 => h9) rfl dX0_lead_26 ?_
            refine lv_iload_n hx hb dX0_lead_29 rfl (lv_at hl 0 rfl) ?_
            refine lv_iconst (v := 0) hx hb dX0_lead_30 (by decide) ?_
            refine va_iast hx hb hK hP hD hS 2 0 rfl rfl (vp_in_nI hi9 (by decide)) dX0_lead_31 (fun H locs hP hD hS => ?_)
            rw [hc9] at hP hD
            have hP : va_P D vwCl (wX ad cI cZ it o n g v r (upd nx i (p0 + 1)) (upd mt i 0) fl pr ofs ak hd an ++ rs) H := hP
            have hD : va_D A (wX ad cI cZ it o n g v r (upd nx i (p0 + 1)) (upd mt i 0) fl pr ofs ak hd an ++ rs) := hD
            refine lv_aload_n hx hb dX0_lead_32 rfl (lv_at hl 1 rfl) ?_
            refine va_get (D := D) (ci := 0) (v := .ref (ad 3)) (C := RX0) (T := TX0) (N := 14) hx hb hw9 uX0 hown hK hP 0 rfl rfl 8 (by decide) (hw9 _ mw_27) (fun _ h9 => h9) rfl dX0_lead_33 ?_
            refine lv_iload_n hx hb dX0_lead_36 rfl (lv_at hl 0 rfl) ?_
            refine lv_iconst (v := 0) hx hb dX0_lead_37 (by decide) ?_
            refine va_iast hx hb hK hP hD hS 3 0 rfl rfl (vp_in_nI hi9 (by decide)) dX0_lead_38 (fun H locs hP hD hS => ?_)
            rw [hc9] at hP hD
            have hP : va_P D vwCl (wX ad cI cZ it o n g v r (upd nx i (p0 + 1)) (upd mt i 0) (upd fl i 0) pr ofs ak hd an ++ rs) H := hP
            have hD : va_D A (wX ad cI cZ it o n g v r (upd nx i (p0 + 1)) (upd mt i 0) (upd fl i 0) pr ofs ak hd an ++ rs) := hD
            refine lv_aload_n hx hb dX0_lead_39 rfl (lv_at hl 1 rfl) ?_
            refine va_get (D := D) (ci := 0) (v := .ref (ad 4)) (C := RX0) (T := TX0) (N := 14) hx hb hw9 uX0 hown hK hP 0 rfl rfl 9 (by decide) (hw9 _ mw_28) (fun _ h9 => h9) rfl dX0_lead_40 ?_
            refine lv_iload_n hx hb dX0_lead_43 rfl (lv_at hl 0 rfl) ?_
            refine lv_iconst (v := 1) hx hb dX0_lead_44 (by decide) ?_
            refine va_zast hx hb hK hP hD hS 4 1 rfl rfl (vp_in_nI hi9 (by decide)) dX0_lead_45 (fun H locs hP hD hS => ?_)
            rw [hc9] at hP hD
            have hP : va_P D vwCl (wX ad cI cZ it o n g v r (upd nx i (p0 + 1)) (upd mt i 0) (upd fl i 0) (upd pr i 1) ofs ak hd an ++ rs) H := hP
            have hD : va_D A (wX ad cI cZ it o n g v r (upd nx i (p0 + 1)) (upd mt i 0) (upd fl i 0) (upd pr i 1) ofs ak hd an ++ rs) := hD
            refine lv_aload_n hx hb dX0_lead_46 rfl (lv_at hl 1 rfl) ?_
            refine va_get (D := D) (ci := 0) (v := .ref (ad 5)) (C := RX0) (T := TX0) (N := 14) hx hb hw9 uX0 hown hK hP 0 rfl rfl 10 (by decide) (hw9 _ mw_29) (fun _ h9 => h9) rfl dX0_lead_47 ?_
            refine lv_iload_n hx hb dX0_lead_50 rfl (lv_at hl 0 rfl) ?_
            refine lv_iconst (v := 0) hx hb dX0_lead_51 (by decide) ?_
            refine va_iast hx hb hK hP hD hS 5 0 rfl rfl (vp_in_nI hi9 (by decide)) dX0_lead_52 (fun H locs hP hD hS => ?_)
            rw [hc9] at hP hD
            have hP : va_P D vwCl (wX ad cI cZ it o n g v r (upd nx i (p0 + 1)) (upd mt i 0) (upd fl i 0) (upd pr i 1) (upd ofs i 0) ak hd an ++ rs) H := hP
            have hD : va_D A (wX ad cI cZ it o n g v r (upd nx i (p0 + 1)) (upd mt i 0) (upd fl i 0) (upd pr i 1) (upd ofs i 0) ak hd an ++ rs) := hD
            refine lv_aload_n hx hb dX0_lead_53 rfl (lv_at hl 1 rfl) ?_
            refine va_get (D := D) (ci := 0) (v := .ref (ad 6)) (C := RX0) (T := TX0) (N := 14) hx hb hw9 uX0 hown hK hP 0 rfl rfl 11 (by decide) (hw9 _ mw_30) (fun _ h9 => h9) rfl dX0_lead_54 ?_
            refine lv_iload_n hx hb dX0_lead_57 rfl (lv_at hl 0 rfl) ?_
            refine lv_iconst (v := 0) hx hb dX0_lead_58 (by decide) ?_
            refine va_iast hx hb hK hP hD hS 6 0 rfl rfl (vp_in_nI hi9 (by decide)) dX0_lead_59 (fun H locs hP hD hS => ?_)
            rw [hc9] at hP hD
            have hP : va_P D vwCl (wX ad cI cZ it o n g v r (upd nx i (p0 + 1)) (upd mt i 0) (upd fl i 0) (upd pr i 1) (upd ofs i 0) (upd ak i 0) hd an ++ rs) H := hP
            have hD : va_D A (wX ad cI cZ it o n g v r (upd nx i (p0 + 1)) (upd mt i 0) (upd fl i 0) (upd pr i 1) (upd ofs i 0) (upd ak i 0) hd an ++ rs) := hD
            refine lv_aload_n hx hb dX0_lead_60 rfl (lv_at hl 1 rfl) ?_
            refine va_get (D := D) (ci := 0) (v := .ref (ad 7)) (C := RX0) (T := TX0) (N := 14) hx hb hw9 uX0 hown hK hP 0 rfl rfl 12 (by decide) (hw9 _ mw_31) (fun _ h9 => h9) rfl dX0_lead_61 ?_
            refine lv_iload_n hx hb dX0_lead_64 rfl (lv_at hl 0 rfl) ?_
            refine lv_iload_n hx hb dX0_lead_65 rfl (lv_at hl 3 rfl) ?_
            refine va_iast hx hb hK hP hD hS 7 0 rfl rfl (vp_in_nI hi9 (by decide)) dX0_lead_66 (fun H locs hP hD hS => ?_)
            rw [hc9] at hP hD
            have hP : va_P D vwCl (wX ad cI cZ it o n g v r (upd nx i (p0 + 1)) (upd mt i 0) (upd fl i 0) (upd pr i 1) (upd ofs i 0) (upd ak i 0) (upd hd i p1) an ++ rs) H := hP
            have hD : va_D A (wX ad cI cZ it o n g v r (upd nx i (p0 + 1)) (upd mt i 0) (upd fl i 0) (upd pr i 1) (upd ofs i 0) (upd ak i 0) (upd hd i p1) an ++ rs) := hD
            refine lv_aload_n hx hb dX0_lead_67 rfl (lv_at hl 1 rfl) ?_
            refine va_get (D := D) (ci := 0) (v := .ref (ad 8)) (C := RX0) (T := TX0) (N := 14) hx hb hw9 uX0 hown hK hP 0 rfl rfl 13 (by decide) (hw9 _ mw_32) (fun _ h9 => h9) rfl dX0_lead_68 ?_
            refine lv_iload_n hx hb dX0_lead_71 rfl (lv_at hl 0 rfl) ?_
            refine lv_iconst (v := 0) hx hb dX0_lead_72 (by decide) ?_
            refine va_zast hx hb hK hP hD hS 8 1 rfl rfl (vp_in_nI hi9 (by decide)) dX0_lead_73 (fun H locs hP hD hS => ?_)
            rw [hc9] at hP hD
            have hP : va_P D vwCl (wX ad cI cZ it o n g v r (upd nx i (p0 + 1)) (upd mt i 0) (upd fl i 0) (upd pr i 1) (upd ofs i 0) (upd ak i 0) (upd hd i p1) (upd an i 0) ++ rs) H := hP
            have hD : va_D A (wX ad cI cZ it o n g v r (upd nx i (p0 + 1)) (upd mt i 0) (upd fl i 0) (upd pr i 1) (upd ofs i 0) (upd ak i 0) (upd hd i p1) (upd an i 0) ++ rs) := hD
            obtain ⟨v_4, ev_4⟩ : ∃ y : Int32, y = (nI i) + 1 := ⟨_, rfl⟩
            refine lv_iinc (v := v_4) (lv' := [(3, .int v_4), (0, .ref (ad 0)), (1, .int p0), (2, .int p1)]) hx hb dX0_lead_74 hl (k := 0) rfl (by rw [ev_4]; rfl) (by decide) rfl (fun ls hl => ?_)
            refine lv_goto (tgt := 10) hx hb dX0_lead_77 (by decide) ?_
            obtain rfl : v_4 = nI (i + 1) := by rw [ev_4, nI_1]
            exact ih (i + 1) _ _ _ _ _ _ _ _ H locs ls (by omega) (by omega) (fun j hj => by
              simp only [upd]
              by_cases hji : j = i
              · simp [hji]
              · simp only [if_neg hji]
                exact hinv j (by omega)) hP hD hS (lv_sub hl [0, 1, 2, 3] rfl)
      exact loop 8 0 nx mt fl pr ofs ak hd an _ _ ls (by decide) (by decide) (fun j hj => absurd hj (Nat.not_lt_zero j)) hP hD hS (lv_sub hl [0, 1, 2, 3] rfl)
end
section
set_option maxHeartbeats 4000000 in
set_option maxRecDepth 100000 in
theorem c_X0_round (l : Launch) (hl9 : l.stackTraces = false) (D : va_G) (cI cZ : ClassId) (ty : kz_Y) (ad : Nat → Nat) (rs : va_W) (sz : Nat) (it o n g v r : Int32) (nx mt fl pr ofs ak hd an : Nat → Int32) : ez_M l yX0_round wsX0_round ({ frames := 2, cells := 1, slots := 6, locals := 40 } : Room) (kz_P D ((cI, .int) :: (cZ, .boolean) :: ty) (wX ad cI cZ it o n g v r nx mt fl pr ofs ak hd an ++ rs) sz [.ref (ad 0)]) (kz_Wr D (va_A (wX ad cI cZ it o n g v r nx mt fl pr ofs ak hd an ++ rs) sz) (kz_i (fun r9 => r9 = (r + 1))) (wX ad cI cZ it o n g v (r + 1) (fun j => if sq_R it o n g fl an j = true then mt j + 1 else nx j) mt (fun j => if sq_R it o n g fl an j = true then 0 else fl j) (fun j => if sq_R it o n g fl an j = true then 1 else pr j) ofs ak hd (fun _ => 0) ++ rs)) (kz_T (fun _ => IAE) (fun _ => False)) 0 0 (va_A (wX ad cI cZ it o n g v r nx mt fl pr ofs ak hd an ++ rs) sz) := by
  refine ez_ofW (cc := cX0_round) (maxL := 3) (ret := (some .int)) (by decide) rfl ?_
  intro p e s m args below meth c s₁ B hml hTab hv
  obtain ⟨rfl, hsz, hP, hK, hD0, hE⟩ := hv
  have hx := B.exec
  have hb := B.bytes
  have hr := B.returns
  have hw9 : ∀ w ∈ kz_W9, w.before ([.ref (ad 0)] : List Value).toArray s = true := fun w h => atoms_spec (ws := wsX0_round) B.pre w (List.mem_cons_of_mem _ h)
  have hown : s.vm.findClass RX0 = some m.cls := findClass_of_methodNamed B.named
  have hlocks := B.notSynchronized
  subst hsz
  have hD := hD0.self (sz := s.heap.size)
  generalize hAe : va_A (wX ad cI cZ it o n g v r nx mt fl pr ofs ak hd an ++ rs) s.heap.size = A at hD hE ⊢
  have hA : ∀ q : Nat, s.heap.size ≤ q → A q := fun q h => by rw [← hAe]; exact Or.inr h
  have hS : va_S A s.heap s.heap [] := va_S.rf
  have hO : kz_O s.heap s.heap := kz_O.rf _
  have hl := lv_entry ([.ref (ad 0)]) (n := 3) (Nat.le_of_ble_eq_true rfl)
  rw [lg_entry_eq]
  generalize (lg_sl ([.ref (ad 0)]) ++ List.replicate (3 - (lg_sl ([.ref (ad 0)])).length) Slot.unset).toArray = ls at hl ⊢
  have hl : lv_has ls 3 [(0, .ref (ad 0))] := hl
  refine lv_aload_n hx hb dX0_round_0 rfl (lv_at hl 0 rfl) ?_
  refine lv_aload_n hx hb dX0_round_1 rfl (lv_at hl 0 rfl) ?_
  refine va_get (D := D) (ci := 0) (v := .int r) (C := RX0) (T := TX0) (N := 14) hx hb hw9 uX0 hown hK hP 0 rfl rfl 5 (by decide) (hw9 _ mw_24) (fun _ h9 => h9) rfl dX0_round_2 ?_
  refine lv_iconst (v := 1) hx hb dX0_round_5 (by decide) ?_
  refine lv_iadd hx hb dX0_round_6 ?_
  refine va_put (D := D) (ci := 0) (v := .int (r + 1)) (ty := .int) (C := RX0) (T := TX0) (N := 14) hx hb hw9 uX0 tyX0 tyX0_ok nmX0 hown hK hP hD hS 0 rfl rfl 5 (by decide) (hw9 _ mw_24) (fun _ h9 => h9) rfl (by decide +kernel) rfl rfl (Nat.le_of_ble_eq_true rfl) dX0_round_7 (fun H locs hP hD hS => ?_)
  have hP : va_P D vwCl (wX ad cI cZ it o n g v (r + 1) nx mt fl pr ofs ak hd an ++ rs) H := hP
  have hD : va_D A (wX ad cI cZ it o n g v (r + 1) nx mt fl pr ofs ak hd an ++ rs) := hD
  refine lv_aload_n hx hb dX0_round_10 rfl (lv_at hl 0 rfl) ?_
  refine kz_rV (As := []) (rest := []) ⟨hx, hb, hml, hown, hw9⟩ (c_X0_peerSet l hl9 D cI cZ ty ad rs H.size it o n g v (r + 1) nx mt fl pr ofs ak hd an) (kz_cV 0 hw9 mw_72 mw_74 ms_0 mw_1 mw_75 rfl rfl (by decide +kernel) ⟨Nat.le_of_ble_eq_true rfl, Nat.le_of_ble_eq_true rfl⟩) (kz_preV (q0 := 0) (ci := 0) hK hP hD hS hA hE rfl rfl) rfl hl.1 rfl (Nat.le_of_ble_eq_true rfl) dX0_round_11 ⟨Nat.le_of_ble_eq_true rfl, Nat.le_of_ble_eq_true rfl⟩ (fun _ _ _ _ h => False.elim h) (fun v9 H hv9 hO1 => ?_)
  obtain ⟨_, rfl, rfl⟩ := hv9
  have hP := hO1.P hP
  have hS := hO1.S hS
  refine W.eq (g2 := F0 m 14 ls [.int (sq_P it o n g)]) rfl ?_
  refine lv_istore_n (lv' := [(1, .int (sq_P it o n g)), (0, .ref (ad 0))]) hx hb dX0_round_14 rfl hl (by decide) rfl (fun ls hl => ?_)
  refine lv_iconst (v := 0) hx hb dX0_round_15 (by decide) ?_
  refine lv_istore_n (lv' := [(2, .int 0), (1, .int (sq_P it o n g)), (0, .ref (ad 0))]) hx hb dX0_round_16 rfl hl (by decide) rfl (fun ls hl => ?_)
  have loop : ∀ (k i : Nat) (nx1 fl1 pr1 an1 : Nat → Int32) (H : Heap) (locs : List Loc) (ls : Array Slot), i ≤ 7 → 7 < i + k → (∀ j, j < 7 → nx1 j = (if j < i ∧ sq_R it o n g fl an j = true then mt j + 1 else nx j) ∧ fl1 j = (if j < i ∧ sq_R it o n g fl an j = true then 0 else fl j) ∧ pr1 j = (if j < i ∧ sq_R it o n g fl an j = true then 1 else pr j) ∧ an1 j = (if j < i then 0 else an j)) → va_P D vwCl (wX ad cI cZ it o n g v (r + 1) nx1 mt fl1 pr1 ofs ak hd an1 ++ rs) H → va_D A (wX ad cI cZ it o n g v (r + 1) nx1 mt fl1 pr1 ofs ak hd an1 ++ rs) → va_S A s.heap H locs → lv_has ls 3 [(2, .int (nI i)), (0, .ref (ad 0)), (1, .int (sq_P it o n g))] → W p l e (headSpec wsX0_round ({ frames := 2, cells := 1, slots := 6, locals := 40 } : Room)).room s m ([.ref (ad 0)] : List Value).toArray below meth c H locs 0 0 (ez_MQ below (kz_Wr D A (kz_i (fun r9 => r9 = (r + 1))) (wX ad cI cZ it o n g v (r + 1) (fun j => if sq_R it o n g fl an j = true then mt j + 1 else nx j) mt (fun j => if sq_R it o n g fl an j = true then 0 else fl j) (fun j => if sq_R it o n g fl an j = true then 1 else pr j) ofs ak hd (fun _ => 0) ++ rs)) (kz_T (fun _ => IAE) (fun _ => False)) s 0 0 A) (F0 m 17 ls []) := by
    intro k
    induction k with
    | zero => intro i nx1 fl1 pr1 an1 H locs ls h1 h2; omega
    | succ k ih =>
      intro i nx1 fl1 pr1 an1 H locs ls h1 h2 hinv hP hD hS hl
      refine lv_iload_n hx hb dX0_round_17 rfl (lv_at hl 0 rfl) ?_
      refine lv_bipush (v := 7) hx hb dX0_round_18 (by decide) ?_
      refine lv_icmp_ge (tgt := 90) hx hb dX0_round_20 (by decide) (fun c_1 => ?_) (fun c_1 => ?_)
      · -- 20 -> 90
        have hi7 : i = 7 := kz_i7 h1 c_1
        subst hi7
        have hP : va_P D vwCl (wX ad cI cZ it o n g v (r + 1) (fun j => if sq_R it o n g fl an j = true then mt j + 1 else nx j) mt fl1 pr1 ofs ak hd an1 ++ rs) H := kz_fn (g := fun j => if sq_R it o n g fl an j = true then mt j + 1 else nx j) (k := 1) hP rfl (fun j hj => by have q9 := (hinv j hj).1; simpa [hj] using q9)
        have hD : va_D A (wX ad cI cZ it o n g v (r + 1) (fun j => if sq_R it o n g fl an j = true then mt j + 1 else nx j) mt fl1 pr1 ofs ak hd an1 ++ rs) := hD.set (p := 1) rfl
        have hP : va_P D vwCl (wX ad cI cZ it o n g v (r + 1) (fun j => if sq_R it o n g fl an j = true then mt j + 1 else nx j) mt (fun j => if sq_R it o n g fl an j = true then 0 else fl j) pr1 ofs ak hd an1 ++ rs) H := kz_fn (g := fun j => if sq_R it o n g fl an j = true then 0 else fl j) (k := 3) hP rfl (fun j hj => by have q9 := (hinv j hj).2.1; simpa [hj] using q9)
        have hD : va_D A (wX ad cI cZ it o n g v (r + 1) (fun j => if sq_R it o n g fl an j = true then mt j + 1 else nx j) mt (fun j => if sq_R it o n g fl an j = true then 0 else fl j) pr1 ofs ak hd an1 ++ rs) := hD.set (p := 3) rfl
        have hP : va_P D vwCl (wX ad cI cZ it o n g v (r + 1) (fun j => if sq_R it o n g fl an j = true then mt j + 1 else nx j) mt (fun j => if sq_R it o n g fl an j = true then 0 else fl j) (fun j => if sq_R it o n g fl an j = true then 1 else pr j) ofs ak hd an1 ++ rs) H := kz_fn (g := fun j => if sq_R it o n g fl an j = true then 1 else pr j) (k := 4) hP rfl (fun j hj => by have q9 := (hinv j hj).2.2.1; simpa [hj] using q9)
        have hD : va_D A (wX ad cI cZ it o n g v (r + 1) (fun j => if sq_R it o n g fl an j = true then mt j + 1 else nx j) mt (fun j => if sq_R it o n g fl an j = true then 0 else fl j) (fun j => if sq_R it o n g fl an j = true then 1 else pr j) ofs ak hd an1 ++ rs) := hD.set (p := 4) rfl
        have hP : va_P D vwCl (wX ad cI cZ it o n g v (r + 1) (fun j => if sq_R it o n g fl an j = true then mt j + 1 else nx j) mt (fun j => if sq_R it o n g fl an j = true then 0 else fl j) (fun j => if sq_R it o n g fl an j = true then 1 else pr j) ofs ak hd (fun _ => 0) ++ rs) H := kz_fn (g := fun _ => 0) (k := 8) hP rfl (fun j hj => by have q9 := (hinv j hj).2.2.2; simpa [hj] using q9)
        have hD : va_D A (wX ad cI cZ it o n g v (r + 1) (fun j => if sq_R it o n g fl an j = true then mt j + 1 else nx j) mt (fun j => if sq_R it o n g fl an j = true then 0 else fl j) (fun j => if sq_R it o n g fl an j = true then 1 else pr j) ofs ak hd (fun _ => 0) ++ rs) := hD.set (p := 8) rfl
        refine lv_aload_n hx hb dX0_round_90 rfl (lv_at hl 1 rfl) ?_
        refine va_get (D := D) (ci := 0) (v := .int (r + 1)) (C := RX0) (T := TX0) (N := 14) hx hb hw9 uX0 hown hK hP 0 rfl rfl 5 (by decide) (hw9 _ mw_24) (fun _ h9 => h9) rfl dX0_round_91 ?_
        exact kz_wreti hx hb hr hlocks hP hD hS (Nat.le_of_ble_eq_true rfl) (Nat.le_of_ble_eq_true rfl) (rfl)  dX0_round_94
      · -- 20 -> 23
        have hi9 : i < 7 := kz_l7 h1 c_1
        have hc9 : (nI i).toNatClampNeg = i := nI_clamp (by omega)
        refine lv_iload_n hx hb dX0_round_23 rfl (lv_at hl 2 rfl) ?_
        refine lv_iload_n hx hb dX0_round_24 rfl (lv_at hl 0 rfl) ?_
        refine kz_rS (As := [.int (sq_P it o n g), .int (nI i)]) (rest := []) ⟨hx, hb, hml, hown, hw9⟩ (c_X0_isIn l hl9 D ((cI, .int) :: (cZ, .boolean) :: ty) (wX ad cI cZ it o n g v (r + 1) nx1 mt fl1 pr1 ofs ak hd an1 ++ rs) H.size (sq_P it o n g) (nI i)) (kz_cS 2 hw9 mw_80 mw_81 mw_1 mw_82 rfl rfl (by decide +kernel) ⟨Nat.le_of_ble_eq_true rfl, Nat.le_of_ble_eq_true rfl⟩) (kz_preS hK hP hD hS hA hE) rfl hl.1 rfl (Nat.le_of_ble_eq_true rfl) dX0_round_25 ⟨Nat.le_of_ble_eq_true rfl, Nat.le_of_ble_eq_true rfl⟩ (fun _ _ _ _ h => False.elim h) (fun v9 H hv9 hO1 => ?_)
        obtain ⟨_, rfl, rfl⟩ := hv9
        have hP := hO1.P hP
        have hS := hO1.S hS
        refine W.eq (g2 := F0 m 28 ls [.int (sq_z (sq_I (sq_P it o n g) (nI i)))]) rfl ?_
        refine lv_if_eq (tgt := 77) hx hb dX0_round_28 (by decide) (fun c_2 => ?_) (fun c_2 => ?_)
        · -- 28 -> 77
          refine lv_aload_n hx hb dX0_round_77 rfl (lv_at hl 1 rfl) ?_
          refine va_get (D := D) (ci := 0) (v := .ref (ad 8)) (C := RX0) (T := TX0) (N := 14) hx hb hw9 uX0 hown hK hP 0 rfl rfl 13 (by decide) (hw9 _ mw_32) (fun _ h9 => h9) rfl dX0_round_78 ?_
          refine lv_iload_n hx hb dX0_round_81 rfl (lv_at hl 0 rfl) ?_
          refine lv_iconst (v := 0) hx hb dX0_round_82 (by decide) ?_
          refine va_zast hx hb hK hP hD hS 8 1 rfl rfl (vp_in_nI hi9 (by decide)) dX0_round_83 (fun H locs hP hD hS => ?_)
          rw [hc9] at hP hD
          have hP : va_P D vwCl (wX ad cI cZ it o n g v (r + 1) nx1 mt fl1 pr1 ofs ak hd (upd an1 i 0) ++ rs) H := hP
          have hD : va_D A (wX ad cI cZ it o n g v (r + 1) nx1 mt fl1 pr1 ofs ak hd (upd an1 i 0) ++ rs) := hD
          obtain ⟨v_3, ev_3⟩ : ∃ y : Int32, y = (nI i) + 1 := ⟨_, rfl⟩
          refine lv_iinc (v := v_3) (lv' := [(2, .int v_3), (0, .ref (ad 0)), (1, .int (sq_P it o n g))]) hx hb dX0_round_84 hl (k := 0) rfl (by rw [ev_3]; rfl) (by decide) rfl (fun ls hl => ?_)
          refine lv_goto (tgt := 17) hx hb dX0_round_87 (by decide) ?_
          obtain rfl : v_3 = nI (i + 1) := by rw [ev_3, nI_1]
          have hfi : fl i = fl1 i := by have q9 := (hinv i hi9).2.1; simp at q9; exact q9.symm
          have hai : an i = an1 i := by have q9 := (hinv i hi9).2.2.2; simp at q9; exact q9.symm
          have hR : sq_R it o n g fl an i = false := by simp [sq_R, hfi, hai, c_1, (Int32.not_le.mp c_1), (sq_z_f c_2)]
          exact ih (i + 1) _ _ _ _ H locs ls (by omega) (by omega) (fun j hj => by
            obtain ⟨a1, a2, a3, a4⟩ := hinv j hj
            simp only [upd]
            by_cases hji : j = i
            · rw [hji] at a1 a2 a3 a4 ⊢
              simp only [Nat.lt_irrefl, false_and, if_false] at a1 a2 a3 a4
              simp [hR, a1, a2, a3, a4]
            · have e9 : (j < i + 1) = (j < i) := propext ⟨fun h => by omega, fun h => by omega⟩
              simp only [if_neg hji, e9]
              exact ⟨a1, a2, a3, a4⟩) hP hD hS (lv_sub hl [0, 1, 2] rfl)
        · -- 28 -> 31
          refine lv_aload_n hx hb dX0_round_31 rfl (lv_at hl 1 rfl) ?_
          refine va_get (D := D) (ci := 0) (v := .ref (ad 3)) (C := RX0) (T := TX0) (N := 14) hx hb hw9 uX0 hown hK hP 0 rfl rfl 8 (by decide) (hw9 _ mw_27) (fun _ h9 => h9) rfl dX0_round_32 ?_
          refine lv_iload_n hx hb dX0_round_35 rfl (lv_at hl 0 rfl) ?_
          refine va_iald hx hb hK hP 3 0 rfl rfl (vp_in_nI hi9 (by decide)) dX0_round_36 ?_
          rw [hc9]
          refine lv_if_le (tgt := 77) hx hb dX0_round_37 (by decide) (fun c_4 => ?_) (fun c_4 => ?_)
          · -- 37 -> 77
            refine lv_aload_n hx hb dX0_round_77 rfl (lv_at hl 1 rfl) ?_
            refine va_get (D := D) (ci := 0) (v := .ref (ad 8)) (C := RX0) (T := TX0) (N := 14) hx hb hw9 uX0 hown hK hP 0 rfl rfl 13 (by decide) (hw9 _ mw_32) (fun _ h9 => h9) rfl dX0_round_78 ?_
            refine lv_iload_n hx hb dX0_round_81 rfl (lv_at hl 0 rfl) ?_
            refine lv_iconst (v := 0) hx hb dX0_round_82 (by decide) ?_
            refine va_zast hx hb hK hP hD hS 8 1 rfl rfl (vp_in_nI hi9 (by decide)) dX0_round_83 (fun H locs hP hD hS => ?_)
            rw [hc9] at hP hD
            have hP : va_P D vwCl (wX ad cI cZ it o n g v (r + 1) nx1 mt fl1 pr1 ofs ak hd (upd an1 i 0) ++ rs) H := hP
            have hD : va_D A (wX ad cI cZ it o n g v (r + 1) nx1 mt fl1 pr1 ofs ak hd (upd an1 i 0) ++ rs) := hD
            obtain ⟨v_5, ev_5⟩ : ∃ y : Int32, y = (nI i) + 1 := ⟨_, rfl⟩
            refine lv_iinc (v := v_5) (lv' := [(2, .int v_5), (0, .ref (ad 0)), (1, .int (sq_P it o n g))]) hx hb dX0_round_84 hl (k := 0) rfl (by rw [ev_5]; rfl) (by decide) rfl (fun ls hl => ?_)
            refine lv_goto (tgt := 17) hx hb dX0_round_87 (by decide) ?_
            obtain rfl : v_5 = nI (i + 1) := by rw [ev_5, nI_1]
            have hfi : fl i = fl1 i := by have q9 := (hinv i hi9).2.1; simp at q9; exact q9.symm
            have hai : an i = an1 i := by have q9 := (hinv i hi9).2.2.2; simp at q9; exact q9.symm
            have hR : sq_R it o n g fl an i = false := by simp [sq_R, hfi, hai, c_1, (Int32.not_le.mp c_1), (sq_z_t c_2), c_4, (Int32.not_lt.mpr c_4)]
            exact ih (i + 1) _ _ _ _ H locs ls (by omega) (by omega) (fun j hj => by
              obtain ⟨a1, a2, a3, a4⟩ := hinv j hj
              simp only [upd]
              by_cases hji : j = i
              · rw [hji] at a1 a2 a3 a4 ⊢
                simp only [Nat.lt_irrefl, false_and, if_false] at a1 a2 a3 a4
                simp [hR, a1, a2, a3, a4]
              · have e9 : (j < i + 1) = (j < i) := propext ⟨fun h => by omega, fun h => by omega⟩
                simp only [if_neg hji, e9]
                exact ⟨a1, a2, a3, a4⟩) hP hD hS (lv_sub hl [0, 1, 2] rfl)
          · -- 37 -> 40
            refine lv_aload_n hx hb dX0_round_40 rfl (lv_at hl 1 rfl) ?_
            refine va_get (D := D) (ci := 0) (v := .ref (ad 8)) (C := RX0) (T := TX0) (N := 14) hx hb hw9 uX0 hown hK hP 0 rfl rfl 13 (by decide) (hw9 _ mw_32) (fun _ h9 => h9) rfl dX0_round_41 ?_
            refine lv_iload_n hx hb dX0_round_44 rfl (lv_at hl 0 rfl) ?_
            refine va_zald hx hb hK hP 8 1 rfl rfl (vp_in_nI hi9 (by decide)) dX0_round_45 ?_
            rw [hc9]
            refine lv_if_ne (tgt := 77) hx hb dX0_round_46 (by decide) (fun c_6 => ?_) (fun c_6 => ?_)
            · -- 46 -> 77
              refine lv_aload_n hx hb dX0_round_77 rfl (lv_at hl 1 rfl) ?_
              refine va_get (D := D) (ci := 0) (v := .ref (ad 8)) (C := RX0) (T := TX0) (N := 14) hx hb hw9 uX0 hown hK hP 0 rfl rfl 13 (by decide) (hw9 _ mw_32) (fun _ h9 => h9) rfl dX0_round_78 ?_
              refine lv_iload_n hx hb dX0_round_81 rfl (lv_at hl 0 rfl) ?_
              refine lv_iconst (v := 0) hx hb dX0_round_82 (by decide) ?_
              refine va_zast hx hb hK hP hD hS 8 1 rfl rfl (vp_in_nI hi9 (by decide)) dX0_round_83 (fun H locs hP hD hS => ?_)
              rw [hc9] at hP hD
              have hP : va_P D vwCl (wX ad cI cZ it o n g v (r + 1) nx1 mt fl1 pr1 ofs ak hd (upd an1 i 0) ++ rs) H := hP
              have hD : va_D A (wX ad cI cZ it o n g v (r + 1) nx1 mt fl1 pr1 ofs ak hd (upd an1 i 0) ++ rs) := hD
              obtain ⟨v_7, ev_7⟩ : ∃ y : Int32, y = (nI i) + 1 := ⟨_, rfl⟩
              refine lv_iinc (v := v_7) (lv' := [(2, .int v_7), (0, .ref (ad 0)), (1, .int (sq_P it o n g))]) hx hb dX0_round_84 hl (k := 0) rfl (by rw [ev_7]; rfl) (by decide) rfl (fun ls hl => ?_)
              refine lv_goto (tgt := 17) hx hb dX0_round_87 (by decide) ?_
              obtain rfl : v_7 = nI (i + 1) := by rw [ev_7, nI_1]
              have hfi : fl i = fl1 i := by have q9 := (hinv i hi9).2.1; simp at q9; exact q9.symm
              have hai : an i = an1 i := by have q9 := (hinv i hi9).2.2.2; simp at q9; exact q9.symm
              have hR : sq_R it o n g fl an i = false := by simp [sq_R, hfi, hai, c_1, (Int32.not_le.mp c_1), (sq_z_t c_2), c_4, (Int32.not_le.mp c_4), c_6]
              exact ih (i + 1) _ _ _ _ H locs ls (by omega) (by omega) (fun j hj => by
                obtain ⟨a1, a2, a3, a4⟩ := hinv j hj
                simp only [upd]
                by_cases hji : j = i
                · rw [hji] at a1 a2 a3 a4 ⊢
                  simp only [Nat.lt_irrefl, false_and, if_false] at a1 a2 a3 a4
                  simp [hR, a1, a2, a3, a4]
                · have e9 : (j < i + 1) = (j < i) := propext ⟨fun h => by omega, fun h => by omega⟩
                  simp only [if_neg hji, e9]
                  exact ⟨a1, a2, a3, a4⟩) hP hD hS (lv_sub hl [0, 1, 2] rfl)
            · -- 46 -> 49
              refine lv_aload_n hx hb dX0_round_49 rfl (lv_at hl 1 rfl) ?_
              refine va_get (D := D) (ci := 0) (v := .ref (ad 1)) (C := RX0) (T := TX0) (N := 14) hx hb hw9 uX0 hown hK hP 0 rfl rfl 6 (by decide) (hw9 _ mw_25) (fun _ h9 => h9) rfl dX0_round_50 ?_
              refine lv_iload_n hx hb dX0_round_53 rfl (lv_at hl 0 rfl) ?_
              refine lv_aload_n hx hb dX0_round_54 rfl (lv_at hl 1 rfl) ?_
              refine va_get (D := D) (ci := 0) (v := .ref (ad 2)) (C := RX0) (T := TX0) (N := 14) hx hb hw9 uX0 hown hK hP 0 rfl rfl 7 (by decide) (hw9 _ mw_26) (fun _ h9 => h9) rfl dX0_round_55 ?_
              refine lv_iload_n hx hb dX0_round_58 rfl (lv_at hl 0 rfl) ?_
              refine va_iald hx hb hK hP 2 0 rfl rfl (vp_in_nI hi9 (by decide)) dX0_round_59 ?_
              rw [hc9]
              refine lv_iconst (v := 1) hx hb dX0_round_60 (by decide) ?_
              refine lv_iadd hx hb dX0_round_61 ?_
              refine va_iast hx hb hK hP hD hS 1 0 rfl rfl (vp_in_nI hi9 (by decide)) dX0_round_62 (fun H locs hP hD hS => ?_)
              rw [hc9] at hP hD
              have hP : va_P D vwCl (wX ad cI cZ it o n g v (r + 1) (upd nx1 i ((mt i) + 1)) mt fl1 pr1 ofs ak hd an1 ++ rs) H := hP
              have hD : va_D A (wX ad cI cZ it o n g v (r + 1) (upd nx1 i ((mt i) + 1)) mt fl1 pr1 ofs ak hd an1 ++ rs) := hD
              refine lv_aload_n hx hb dX0_round_63 rfl (lv_at hl 1 rfl) ?_
              refine va_get (D := D) (ci := 0) (v := .ref (ad 3)) (C := RX0) (T := TX0) (N := 14) hx hb hw9 uX0 hown hK hP 0 rfl rfl 8 (by decide) (hw9 _ mw_27) (fun _ h9 => h9) rfl dX0_round_64 ?_
              refine lv_iload_n hx hb dX0_round_67 rfl (lv_at hl 0 rfl) ?_
              refine lv_iconst (v := 0) hx hb dX0_round_68 (by decide) ?_
              refine va_iast hx hb hK hP hD hS 3 0 rfl rfl (vp_in_nI hi9 (by decide)) dX0_round_69 (fun H locs hP hD hS => ?_)
              rw [hc9] at hP hD
              have hP : va_P D vwCl (wX ad cI cZ it o n g v (r + 1) (upd nx1 i ((mt i) + 1)) mt (upd fl1 i 0) pr1 ofs ak hd an1 ++ rs) H := hP
              have hD : va_D A (wX ad cI cZ it o n g v (r + 1) (upd nx1 i ((mt i) + 1)) mt (upd fl1 i 0) pr1 ofs ak hd an1 ++ rs) := hD
              refine lv_aload_n hx hb dX0_round_70 rfl (lv_at hl 1 rfl) ?_
              refine va_get (D := D) (ci := 0) (v := .ref (ad 4)) (C := RX0) (T := TX0) (N := 14) hx hb hw9 uX0 hown hK hP 0 rfl rfl 9 (by decide) (hw9 _ mw_28) (fun _ h9 => h9) rfl dX0_round_71 ?_
              refine lv_iload_n hx hb dX0_round_74 rfl (lv_at hl 0 rfl) ?_
              refine lv_iconst (v := 1) hx hb dX0_round_75 (by decide) ?_
              refine va_zast hx hb hK hP hD hS 4 1 rfl rfl (vp_in_nI hi9 (by decide)) dX0_round_76 (fun H locs hP hD hS => ?_)
              rw [hc9] at hP hD
              have hP : va_P D vwCl (wX ad cI cZ it o n g v (r + 1) (upd nx1 i ((mt i) + 1)) mt (upd fl1 i 0) (upd pr1 i 1) ofs ak hd an1 ++ rs) H := hP
              have hD : va_D A (wX ad cI cZ it o n g v (r + 1) (upd nx1 i ((mt i) + 1)) mt (upd fl1 i 0) (upd pr1 i 1) ofs ak hd an1 ++ rs) := hD
              refine lv_aload_n hx hb dX0_round_77 rfl (lv_at hl 1 rfl) ?_
              refine va_get (D := D) (ci := 0) (v := .ref (ad 8)) (C := RX0) (T := TX0) (N := 14) hx hb hw9 uX0 hown hK hP 0 rfl rfl 13 (by decide) (hw9 _ mw_32) (fun _ h9 => h9) rfl dX0_round_78 ?_
              refine lv_iload_n hx hb dX0_round_81 rfl (lv_at hl 0 rfl) ?_
              refine lv_iconst (v := 0) hx hb dX0_round_82 (by decide) ?_
              refine va_zast hx hb hK hP hD hS 8 1 rfl rfl (vp_in_nI hi9 (by decide)) dX0_round_83 (fun H locs hP hD hS => ?_)
              rw [hc9] at hP hD
              have hP : va_P D vwCl (wX ad cI cZ it o n g v (r + 1) (upd nx1 i ((mt i) + 1)) mt (upd fl1 i 0) (upd pr1 i 1) ofs ak hd (upd an1 i 0) ++ rs) H := hP
              have hD : va_D A (wX ad cI cZ it o n g v (r + 1) (upd nx1 i ((mt i) + 1)) mt (upd fl1 i 0) (upd pr1 i 1) ofs ak hd (upd an1 i 0) ++ rs) := hD
              obtain ⟨v_8, ev_8⟩ : ∃ y : Int32, y = (nI i) + 1 := ⟨_, rfl⟩
              refine lv_iinc (v := v_8) (lv' := [(2, .int v_8), (0, .ref (ad 0)), (1, .int (sq_P it o n g))]) hx hb dX0_round_84 hl (k := 0) rfl (by rw [ev_8]; rfl) (by decide) rfl (fun ls hl => ?_)
              refine lv_goto (tgt := 17) hx hb dX0_round_87 (by decide) ?_
              obtain rfl : v_8 = nI (i + 1) := by rw [ev_8, nI_1]
              have hfi : fl i = fl1 i := by have q9 := (hinv i hi9).2.1; simp at q9; exact q9.symm
              have hai : an i = an1 i := by have q9 := (hinv i hi9).2.2.2; simp at q9; exact q9.symm
              have hR : sq_R it o n g fl an i = true := by simp [sq_R, hfi, hai, c_1, (Int32.not_le.mp c_1), (sq_z_t c_2), c_4, (Int32.not_le.mp c_4), c_6]
              exact ih (i + 1) _ _ _ _ H locs ls (by omega) (by omega) (fun j hj => by
                obtain ⟨a1, a2, a3, a4⟩ := hinv j hj
                simp only [upd]
                by_cases hji : j = i
                · rw [hji] at a1 a2 a3 a4 ⊢
                  simp only [Nat.lt_irrefl, false_and, if_false] at a1 a2 a3 a4
                  simp [hR, a1, a2, a3, a4]
                · have e9 : (j < i + 1) = (j < i) := propext ⟨fun h => by omega, fun h => by omega⟩
                  simp only [if_neg hji, e9]
                  exact ⟨a1, a2, a3, a4⟩) hP hD hS (lv_sub hl [0, 1, 2] rfl)
  exact loop 8 0 nx fl pr an _ _ ls (by decide) (by decide) (fun j hj => by simp) hP hD hS (lv_sub hl [0, 2, 1] rfl)
end
section
/-! the reference's numbers: one row of 56, eight for each server -/
def sm_al (nx mt fl pr ofs ak hd an : Nat → Int32) : Nat → Int32 := fun j => if j % 8 = 0 then nx (j / 8) else if j % 8 = 1 then mt (j / 8) else if j % 8 = 2 then fl (j / 8) else if j % 8 = 3 then pr (j / 8) else if j % 8 = 4 then ofs (j / 8) else if j % 8 = 5 then ak (j / 8) else if j % 8 = 6 then hd (j / 8) else an (j / 8)
section
variable {nx mt fl pr ofs ak hd an : Nat → Int32} {a : Nat} {v : Int32}
theorem sm_g0 : sm_al nx mt fl pr ofs ak hd an (8 * a + 0) = nx a := by
  have h1 : (8 * a + 0) % 8 = 0 := by omega
  have h2 : (8 * a + 0) / 8 = a := by omega
  simp only [sm_al, h1, h2]; rfl
theorem sm_g1 : sm_al nx mt fl pr ofs ak hd an (8 * a + 1) = mt a := by
  have h1 : (8 * a + 1) % 8 = 1 := by omega
  have h2 : (8 * a + 1) / 8 = a := by omega
  simp only [sm_al, h1, h2]; rfl
theorem sm_g2 : sm_al nx mt fl pr ofs ak hd an (8 * a + 2) = fl a := by
  have h1 : (8 * a + 2) % 8 = 2 := by omega
  have h2 : (8 * a + 2) / 8 = a := by omega
  simp only [sm_al, h1, h2]; rfl
theorem sm_g3 : sm_al nx mt fl pr ofs ak hd an (8 * a + 3) = pr a := by
  have h1 : (8 * a + 3) % 8 = 3 := by omega
  have h2 : (8 * a + 3) / 8 = a := by omega
  simp only [sm_al, h1, h2]; rfl
theorem sm_g4 : sm_al nx mt fl pr ofs ak hd an (8 * a + 4) = ofs a := by
  have h1 : (8 * a + 4) % 8 = 4 := by omega
  have h2 : (8 * a + 4) / 8 = a := by omega
  simp only [sm_al, h1, h2]; rfl
theorem sm_g5 : sm_al nx mt fl pr ofs ak hd an (8 * a + 5) = ak a := by
  have h1 : (8 * a + 5) % 8 = 5 := by omega
  have h2 : (8 * a + 5) / 8 = a := by omega
  simp only [sm_al, h1, h2]; rfl
theorem sm_g6 : sm_al nx mt fl pr ofs ak hd an (8 * a + 6) = hd a := by
  have h1 : (8 * a + 6) % 8 = 6 := by omega
  have h2 : (8 * a + 6) / 8 = a := by omega
  simp only [sm_al, h1, h2]; rfl
theorem sm_g7 : sm_al nx mt fl pr ofs ak hd an (8 * a + 7) = an a := by
  have h1 : (8 * a + 7) % 8 = 7 := by omega
  have h2 : (8 * a + 7) / 8 = a := by omega
  simp only [sm_al, h1, h2]; rfl
theorem sm_p0 : upd (sm_al nx mt fl pr ofs ak hd an) (8 * a + 0) v = sm_al (upd nx a v) mt fl pr ofs ak hd an := by
  funext j
  have e : (j = 8 * a + 0) = (j % 8 = 0 ∧ j / 8 = a) := propext ⟨fun h => by omega, fun h => by omega⟩
  simp only [upd, sm_al, e]
  by_cases hk : j % 8 = 0 <;> by_cases ha : j / 8 = a <;> simp [hk, ha]
theorem sm_p1 : upd (sm_al nx mt fl pr ofs ak hd an) (8 * a + 1) v = sm_al nx (upd mt a v) fl pr ofs ak hd an := by
  funext j
  have e : (j = 8 * a + 1) = (j % 8 = 1 ∧ j / 8 = a) := propext ⟨fun h => by omega, fun h => by omega⟩
  simp only [upd, sm_al, e]
  by_cases hk : j % 8 = 1 <;> by_cases ha : j / 8 = a <;> simp [hk, ha]
theorem sm_p2 : upd (sm_al nx mt fl pr ofs ak hd an) (8 * a + 2) v = sm_al nx mt (upd fl a v) pr ofs ak hd an := by
  funext j
  have e : (j = 8 * a + 2) = (j % 8 = 2 ∧ j / 8 = a) := propext ⟨fun h => by omega, fun h => by omega⟩
  simp only [upd, sm_al, e]
  by_cases hk : j % 8 = 2 <;> by_cases ha : j / 8 = a <;> simp [hk, ha]
theorem sm_p3 : upd (sm_al nx mt fl pr ofs ak hd an) (8 * a + 3) v = sm_al nx mt fl (upd pr a v) ofs ak hd an := by
  funext j
  have e : (j = 8 * a + 3) = (j % 8 = 3 ∧ j / 8 = a) := propext ⟨fun h => by omega, fun h => by omega⟩
  simp only [upd, sm_al, e]
  by_cases hk : j % 8 = 3 <;> by_cases ha : j / 8 = a <;> simp [hk, ha]
theorem sm_p4 : upd (sm_al nx mt fl pr ofs ak hd an) (8 * a + 4) v = sm_al nx mt fl pr (upd ofs a v) ak hd an := by
  funext j
  have e : (j = 8 * a + 4) = (j % 8 = 4 ∧ j / 8 = a) := propext ⟨fun h => by omega, fun h => by omega⟩
  simp only [upd, sm_al, e]
  by_cases hk : j % 8 = 4 <;> by_cases ha : j / 8 = a <;> simp [hk, ha]
theorem sm_p5 : upd (sm_al nx mt fl pr ofs ak hd an) (8 * a + 5) v = sm_al nx mt fl pr ofs (upd ak a v) hd an := by
  funext j
  have e : (j = 8 * a + 5) = (j % 8 = 5 ∧ j / 8 = a) := propext ⟨fun h => by omega, fun h => by omega⟩
  simp only [upd, sm_al, e]
  by_cases hk : j % 8 = 5 <;> by_cases ha : j / 8 = a <;> simp [hk, ha]
theorem sm_p6 : upd (sm_al nx mt fl pr ofs ak hd an) (8 * a + 6) v = sm_al nx mt fl pr ofs ak (upd hd a v) an := by
  funext j
  have e : (j = 8 * a + 6) = (j % 8 = 6 ∧ j / 8 = a) := propext ⟨fun h => by omega, fun h => by omega⟩
  simp only [upd, sm_al, e]
  by_cases hk : j % 8 = 6 <;> by_cases ha : j / 8 = a <;> simp [hk, ha]
theorem sm_p7 : upd (sm_al nx mt fl pr ofs ak hd an) (8 * a + 7) v = sm_al nx mt fl pr ofs ak hd (upd an a v) := by
  funext j
  have e : (j = 8 * a + 7) = (j % 8 = 7 ∧ j / 8 = a) := propext ⟨fun h => by omega, fun h => by omega⟩
  have e7 : ¬ j % 8 = 7 → j % 8 = 0 ∨ j % 8 = 1 ∨ j % 8 = 2 ∨ j % 8 = 3 ∨ j % 8 = 4 ∨ j % 8 = 5 ∨ j % 8 = 6 := fun h => by omega
  simp only [upd, sm_al, e]
  by_cases hk : j % 8 = 7
  · by_cases ha : j / 8 = a <;> simp [hk, ha]
  · rcases e7 hk with q | q | q | q | q | q | q <;> simp [q]
end
/-- a bit, as the reference asks for it -/
def sm_h (set s : Int32) : Bool := decide (¬ s < 0) && decide (s < 7) && decide (((set >>> (s &&& 31)) &&& 1) = 1)
theorem sm_has : ∀ x, x < 128 → ∀ i, i < 7 → sm_h (nI x) (nI i) = x.testBit i := by decide +kernel
theorem sm_I : ∀ x, x < 128 → ∀ i, i < 7 → sq_I (nI x) (nI i) = x.testBit i := by decide +kernel
/-- how many of the first k bits are set -/
def sm_pc (x : Nat) : Nat → Nat
  | 0 => 0
  | k + 1 => sm_pc x k + (if x.testBit k = true then 1 else 0)
theorem sm_B : ∀ x, x < 128 → sq_B (nI x) = nI (sm_pc x 7) := by decide +kernel
theorem sm_pc_le (x : Nat) : ∀ k, sm_pc x k ≤ k
  | 0 => Nat.le_refl 0
  | k + 1 => by
    have h := sm_pc_le x k
    show sm_pc x k + _ ≤ k + 1
    split <;> omega
theorem sm_and (a b : Nat) : nI a &&& nI b = nI (a &&& b) := by
  apply Int32.toBitVec_inj.mp
  show BitVec.ofNat 32 a &&& BitVec.ofNat 32 b = BitVec.ofNat 32 (a &&& b)
  rw [BitVec.ofNat_and]
theorem sm_or (a b : Nat) : nI a ||| nI b = nI (a ||| b) := by
  apply Int32.toBitVec_inj.mp
  show BitVec.ofNat 32 a ||| BitVec.ofNat 32 b = BitVec.ofNat 32 (a ||| b)
  rw [BitVec.ofNat_or]
theorem sm_S {x : Int32} (h : sq_S x = true) : ∃ k, k < 128 ∧ x = nI k := by
  simp only [sq_S, Bool.and_eq_true, decide_eq_true_eq] at h
  obtain ⟨k, hk, e⟩ := nI_of2 (M := 127) (n := 127) (by decide) h.1 h.2
  exact ⟨k, by omega, e⟩
theorem sm_V {x : Int32} (h : sq_V x = true) : ∃ k, k < 7 ∧ x = nI k := by
  obtain ⟨k, hk, e⟩ := vp_in_of (sq_V_in h) (by decide)
  exact ⟨k, hk, e⟩
theorem sm_127 {x : Int32} : x < 128 ↔ x ≤ 127 := by
  rw [Int32.lt_iff_toInt_lt, Int32.le_iff_toInt_le]
  have e1 : (128 : Int32).toInt = 128 := by decide
  have e2 : (127 : Int32).toInt = 127 := by decide
  rw [e1, e2]; omega
theorem sm_h127 (x : Int32) : sm_h 127 x = sq_V x := by
  cases h : sq_V x with
  | true =>
    obtain ⟨k, hk, rfl⟩ := sm_V h
    exact (by decide +kernel : ∀ k, k < 7 → sm_h 127 (nI k) = true) k hk
  | false =>
    simp only [sq_V, Bool.and_eq_false_iff, decide_eq_false_iff_not] at h
    simp only [sm_h]
    rcases h with h | h
    · simp only [decide_eq_false h, Bool.false_and]
    · simp only [decide_eq_false h, Bool.and_false, Bool.false_and]
end
section
/-- the reference's cells: the object, and its row -/
abbrev wM (bd : Nat → Nat) (cI : ClassId) (th it o n g v r : Int32) (al : Nat → Int32) : va_W := [(bd 0, .inr (1, [.int th, .int it, .int o, .int n, .int g, .int v, .int r, .ref (bd 1)])), (bd 1, .inl (cI, 56, .inl al))]
/-- what the sets and itself always are -/
def sv_m (it o n g v : Int32) : Prop := sq_V it = true ∧ sq_S o = true ∧ sq_S n = true ∧ sq_S g = true ∧ sq_S v = true
theorem sm_srv {x : Int32} (h : sq_V x = true) : x.toNatClampNeg < 7 ∧ x = nI x.toNatClampNeg := by
  obtain ⟨k, hk, rfl⟩ := sm_V h
  rw [nI_clamp (by omega)]
  exact ⟨hk, rfl⟩
theorem sm_mx1 {x y : Int32} (h : ¬ x ≤ y) : x = sq_max x y := by
  unfold sq_max
  rw [if_neg (fun q => h (Int32.le_of_lt q))]
theorem sm_mx2 {x y : Int32} (h : x ≤ y) : y = sq_max x y := by
  unfold sq_max
  by_cases q : x < y
  · rw [if_pos q]
  · rw [if_neg q]
    exact Int32.le_antisymm (Int32.not_lt.mp q) h
theorem sm_8 {p0 p1 : Int32} {a b : Nat} (e0 : p0 = nI a) (e1 : p1 = nI b) : (8 * p0) + p1 = nI (8 * a + b) := by
  rw [e0, e1, ← nI_add, ← pk_mul]; rfl
theorem sm_ix {p0 p1 : Int32} {a b : Nat} (ha : a < 7) (hb : b < 8) (e0 : p0 = nI a) (e1 : p1 = nI b) : vp_in ((8 * p0) + p1) 56 := by
  rw [sm_8 e0 e1]; exact vp_in_nI (by omega) (by decide)
theorem sm_ix2 {p0 p1 : Int32} {a b : Nat} (ha : a < 7) (hb : b < 8) (e0 : p0 = nI a) (e1 : p1 = nI b) : ((8 * p0) + p1).toNatClampNeg = 8 * a + b := by
  rw [sm_8 e0 e1, nI_clamp (by omega)]
theorem sm_cmp {x y : Nat} (hx : x < 128) (hy : y < 128) : sq_H (nI x) (nI y) = decide (sm_pc y 7 < 2 * sm_pc (x &&& y) 7) := by
  unfold sq_H
  have h1 : (x &&& y) < 128 := Nat.lt_of_le_of_lt Nat.and_le_left hx
  have b1 := sm_pc_le y 7
  have b2 := sm_pc_le (x &&& y) 7
  rw [sm_and, sm_B y hy, sm_B _ h1, show (2 : Int32) = nI 2 from rfl, pk_mul]
  exact decide_eq_decide.mpr (nI_ltI (by omega) (by omega))
theorem sm_most0 {p0 p1 : Int32} {x y : Nat} (hx : x < 128) (hy : y < 128) (ex : p0 = nI x) (ey : p1 = nI y) (h : (2 : Int32) * nI (sm_pc (x &&& y) 7) ≤ nI (sm_pc y 7)) : (0 : Int32) = sq_z (sq_H p0 p1) := by
  have b1 := sm_pc_le y 7
  have b2 := sm_pc_le (x &&& y) 7
  rw [show (2 : Int32) = nI 2 from rfl, pk_mul] at h
  have h2 := (nI_leI (by omega) (by omega)).mp h
  rw [ex, ey, sm_cmp hx hy, decide_eq_false (by omega)]
  rfl
theorem sm_most1 {p0 p1 : Int32} {x y : Nat} (hx : x < 128) (hy : y < 128) (ex : p0 = nI x) (ey : p1 = nI y) (h : ¬ (2 : Int32) * nI (sm_pc (x &&& y) 7) ≤ nI (sm_pc y 7)) : (1 : Int32) = sq_z (sq_H p0 p1) := by
  have b1 := sm_pc_le y 7
  have b2 := sm_pc_le (x &&& y) 7
  rw [show (2 : Int32) = nI 2 from rfl, pk_mul] at h
  have h2 : ¬ 2 * sm_pc (x &&& y) 7 ≤ sm_pc y 7 := fun q => h ((nI_leI (by omega) (by omega)).mpr q)
  rw [ex, ey, sm_cmp hx hy, decide_eq_true (by omega)]
  rfl
/-- PEERS, bit by bit -/
def sm_pp (u it : Nat) : Nat → Nat
  | 0 => 0
  | k + 1 => sm_pp u it k + (if k ≠ it ∧ u.testBit k = true then 2 ^ k else 0)
theorem sm_ppx : ∀ u, u < 128 → ∀ it, it < 7 → nI u &&& (sq_1 (nI it) ^^^ (-1)) = nI (sm_pp u it 7) := by decide +kernel
theorem sm_or3 {x y z : Nat} (hx : x < 128) (hy : y < 128) (hz : z < 128) : (x ||| y ||| z) < 128 := Nat.or_lt_two_pow (n := 7) (Nat.or_lt_two_pow (n := 7) hx hy) hz
theorem sm_peers {it o n g : Int32} {xo xn xg : Nat} (hA : it.toNatClampNeg < 7) (hIe : it = nI it.toNatClampNeg) (ho : xo < 128) (hn : xn < 128) (hg : xg < 128) (eo : o = nI xo) (en : n = nI xn) (eg : g = nI xg) : nI (sm_pp (xo ||| xn ||| xg) it.toNatClampNeg 7) = sq_P it o n g := by
  unfold sq_P
  rw [← sm_ppx _ (sm_or3 ho hn hg) _ hA, ← hIe, eo, en, eg, sm_or, sm_or]
theorem sm_2k : ∀ i, i < 7 → (1 : Int32) <<< (nI i &&& 31) = nI (2 ^ i) := by decide +kernel
theorem sm_pps {u it i : Nat} {t : Int32} (hi : i < 7) (h : nI (if i ≠ it ∧ u.testBit i = true then 2 ^ i else 0) = t) : nI (sm_pp u it (i + 1)) = nI (sm_pp u it i) + t := by
  rw [← h, nI_add]; rfl
theorem sm_hI {x i : Int32} (hx : sq_S x = true) (hi : sq_V i = true) : sm_h x i = sq_I x i := by
  obtain ⟨k, hk, rfl⟩ := sm_S hx
  obtain ⟨j, hj, rfl⟩ := sm_V hi
  rw [sm_has k hk j hj, sm_I k hk j hj]
theorem sm_vt1 {v p : Int32} (hv : sq_S v = true) (hp : sq_V p = true) (h : sm_h v p = false) : v + (1 <<< (p &&& 31)) = v ||| sq_1 p := by
  obtain ⟨k, hk, rfl⟩ := sm_S hv
  obtain ⟨j, hj, rfl⟩ := sm_V hp
  exact (by decide +kernel : ∀ k, k < 128 → ∀ j, j < 7 → sm_h (nI k) (nI j) = false → nI k + (1 <<< (nI j &&& 31)) = nI k ||| sq_1 (nI j)) k hk j hj h
theorem sm_vt0 {v p : Int32} (hv : sq_S v = true) (hp : sq_V p = true) (h : sm_h v p = true) : v = v ||| sq_1 p := by
  obtain ⟨k, hk, rfl⟩ := sm_S hv
  obtain ⟨j, hj, rfl⟩ := sm_V hp
  exact (by decide +kernel : ∀ k, k < 128 → ∀ j, j < 7 → sm_h (nI k) (nI j) = true → nI k = nI k ||| sq_1 (nI j)) k hk j hj h
theorem sm_vS {v p : Int32} (hv : sq_S v = true) (hp : sq_V p = true) : sq_S (v ||| sq_1 p) = true := by
  obtain ⟨k, hk, rfl⟩ := sm_S hv
  obtain ⟨j, hj, rfl⟩ := sm_V hp
  exact (by decide +kernel : ∀ k, k < 128 → ∀ j, j < 7 → sq_S (nI k ||| sq_1 (nI j)) = true) k hk j hj
def tc_bad (p0 p1 p2 p3 p4 : Int32) : Nat := if sq_V p0 = true then (if sq_N p1 = true ∧ sq_N p2 = true ∧ sq_N p3 = true ∧ sq_N p4 = true then 0 else 2) else 1
end
section
theorem dX1_init_0 : decode cX1_init 0 = .ok (.aload_n 0, 1) := by decide +kernel
theorem dX1_init_1 : decode cX1_init 1 = .ok (.invokespecial 1, 3) := by decide +kernel
theorem dX1_init_4 : decode cX1_init 4 = .ok (.aload_n 0, 1) := by decide +kernel
theorem dX1_init_5 : decode cX1_init 5 = .ok (.bipush 56, 2) := by decide +kernel
theorem dX1_init_7 : decode cX1_init 7 = .ok (.newarray .int, 2) := by decide +kernel
theorem dX1_init_9 : decode cX1_init 9 = .ok (.putfield 7, 3) := by decide +kernel
theorem dX1_init_12 : decode cX1_init 12 = .ok (.aload_n 0, 1) := by decide +kernel
theorem dX1_init_13 : decode cX1_init 13 = .ok (.iload_n 1, 1) := by decide +kernel
theorem dX1_init_14 : decode cX1_init 14 = .ok (.bipush 7, 2) := by decide +kernel
theorem dX1_init_16 : decode cX1_init 16 = .ok (.iand, 1) := by decide +kernel
theorem dX1_init_17 : decode cX1_init 17 = .ok (.bipush 7, 2) := by decide +kernel
theorem dX1_init_19 : decode cX1_init 19 = .ok (.if_icmp .ne 8, 3) := by decide +kernel
theorem dX1_init_22 : decode cX1_init 22 = .ok (.bipush 6, 2) := by decide +kernel
theorem dX1_init_24 : decode cX1_init 24 = .ok (.goto 7, 3) := by decide +kernel
theorem dX1_init_27 : decode cX1_init 27 = .ok (.iload_n 1, 1) := by decide +kernel
theorem dX1_init_28 : decode cX1_init 28 = .ok (.bipush 7, 2) := by decide +kernel
theorem dX1_init_30 : decode cX1_init 30 = .ok (.iand, 1) := by decide +kernel
theorem dX1_init_31 : decode cX1_init 31 = .ok (.putfield 13, 3) := by decide +kernel
theorem dX1_init_34 : decode cX1_init 34 = .ok (.aload_n 0, 1) := by decide +kernel
theorem dX1_init_35 : decode cX1_init 35 = .ok (.iload_n 2, 1) := by decide +kernel
theorem dX1_init_36 : decode cX1_init 36 = .ok (.bipush 127, 2) := by decide +kernel
theorem dX1_init_38 : decode cX1_init 38 = .ok (.iand, 1) := by decide +kernel
theorem dX1_init_39 : decode cX1_init 39 = .ok (.ifCond .ne 7, 3) := by decide +kernel
theorem dX1_init_42 : decode cX1_init 42 = .ok (.iconst 1, 1) := by decide +kernel
theorem dX1_init_43 : decode cX1_init 43 = .ok (.goto 7, 3) := by decide +kernel
theorem dX1_init_46 : decode cX1_init 46 = .ok (.iload_n 2, 1) := by decide +kernel
theorem dX1_init_47 : decode cX1_init 47 = .ok (.bipush 127, 2) := by decide +kernel
theorem dX1_init_49 : decode cX1_init 49 = .ok (.iand, 1) := by decide +kernel
theorem dX1_init_50 : decode cX1_init 50 = .ok (.putfield 17, 3) := by decide +kernel
theorem dX1_init_53 : decode cX1_init 53 = .ok (.return_, 1) := by decide +kernel
theorem dX1_thrown_0 : decode cX1_thrown 0 = .ok (.aload_n 0, 1) := by decide +kernel
theorem dX1_thrown_1 : decode cX1_thrown 1 = .ok (.getfield 20, 3) := by decide +kernel
theorem dX1_thrown_4 : decode cX1_thrown 4 = .ok (.ireturn, 1) := by decide +kernel
theorem dX1_fail_0 : decode cX1_fail 0 = .ok (.aload_n 0, 1) := by decide +kernel
theorem dX1_fail_1 : decode cX1_fail 1 = .ok (.iload_n 1, 1) := by decide +kernel
theorem dX1_fail_2 : decode cX1_fail 2 = .ok (.putfield 20, 3) := by decide +kernel
theorem dX1_fail_5 : decode cX1_fail 5 = .ok (.iconst 0, 1) := by decide +kernel
theorem dX1_fail_6 : decode cX1_fail 6 = .ok (.ireturn, 1) := by decide +kernel
theorem dX1_isSet_0 : decode cX1_isSet 0 = .ok (.iload_n 0, 1) := by decide +kernel
theorem dX1_isSet_1 : decode cX1_isSet 1 = .ok (.ifCond .lt 14, 3) := by decide +kernel
theorem dX1_isSet_4 : decode cX1_isSet 4 = .ok (.iload_n 0, 1) := by decide +kernel
theorem dX1_isSet_5 : decode cX1_isSet 5 = .ok (.sipush 128, 3) := by decide +kernel
theorem dX1_isSet_8 : decode cX1_isSet 8 = .ok (.if_icmp .ge 7, 3) := by decide +kernel
theorem dX1_isSet_11 : decode cX1_isSet 11 = .ok (.iconst 1, 1) := by decide +kernel
theorem dX1_isSet_12 : decode cX1_isSet 12 = .ok (.goto 4, 3) := by decide +kernel
theorem dX1_isSet_15 : decode cX1_isSet 15 = .ok (.iconst 0, 1) := by decide +kernel
theorem dX1_isSet_16 : decode cX1_isSet 16 = .ok (.ireturn, 1) := by decide +kernel
theorem dX1_number_0 : decode cX1_number 0 = .ok (.iload_n 0, 1) := by decide +kernel
theorem dX1_number_1 : decode cX1_number 1 = .ok (.ifCond .lt 13, 3) := by decide +kernel
theorem dX1_number_4 : decode cX1_number 4 = .ok (.iload_n 0, 1) := by decide +kernel
theorem dX1_number_5 : decode cX1_number 5 = .ok (.ldc 23, 2) := by decide +kernel
theorem dX1_number_7 : decode cX1_number 7 = .ok (.if_icmp .gt 7, 3) := by decide +kernel
theorem dX1_number_10 : decode cX1_number 10 = .ok (.iconst 1, 1) := by decide +kernel
theorem dX1_number_11 : decode cX1_number 11 = .ok (.goto 4, 3) := by decide +kernel
theorem dX1_number_14 : decode cX1_number 14 = .ok (.iconst 0, 1) := by decide +kernel
theorem dX1_number_15 : decode cX1_number 15 = .ok (.ireturn, 1) := by decide +kernel
theorem dX1_has_0 : decode cX1_has 0 = .ok (.iload_n 1, 1) := by decide +kernel
theorem dX1_has_1 : decode cX1_has 1 = .ok (.ifCond .lt 22, 3) := by decide +kernel
theorem dX1_has_4 : decode cX1_has 4 = .ok (.iload_n 1, 1) := by decide +kernel
theorem dX1_has_5 : decode cX1_has 5 = .ok (.bipush 7, 2) := by decide +kernel
theorem dX1_has_7 : decode cX1_has 7 = .ok (.if_icmp .ge 16, 3) := by decide +kernel
theorem dX1_has_10 : decode cX1_has 10 = .ok (.iload_n 0, 1) := by decide +kernel
theorem dX1_has_11 : decode cX1_has 11 = .ok (.iload_n 1, 1) := by decide +kernel
theorem dX1_has_12 : decode cX1_has 12 = .ok (.ishr, 1) := by decide +kernel
theorem dX1_has_13 : decode cX1_has 13 = .ok (.iconst 1, 1) := by decide +kernel
theorem dX1_has_14 : decode cX1_has 14 = .ok (.iand, 1) := by decide +kernel
theorem dX1_has_15 : decode cX1_has 15 = .ok (.iconst 1, 1) := by decide +kernel
theorem dX1_has_16 : decode cX1_has 16 = .ok (.if_icmp .ne 7, 3) := by decide +kernel
theorem dX1_has_19 : decode cX1_has 19 = .ok (.iconst 1, 1) := by decide +kernel
theorem dX1_has_20 : decode cX1_has 20 = .ok (.goto 4, 3) := by decide +kernel
theorem dX1_has_23 : decode cX1_has 23 = .ok (.iconst 0, 1) := by decide +kernel
theorem dX1_has_24 : decode cX1_has 24 = .ok (.ireturn, 1) := by decide +kernel
theorem dX1_get_0 : decode cX1_get 0 = .ok (.aload_n 0, 1) := by decide +kernel
theorem dX1_get_1 : decode cX1_get 1 = .ok (.getfield 7, 3) := by decide +kernel
theorem dX1_get_4 : decode cX1_get 4 = .ok (.bipush 8, 2) := by decide +kernel
theorem dX1_get_6 : decode cX1_get 6 = .ok (.iload_n 1, 1) := by decide +kernel
theorem dX1_get_7 : decode cX1_get 7 = .ok (.imul, 1) := by decide +kernel
theorem dX1_get_8 : decode cX1_get 8 = .ok (.iload_n 2, 1) := by decide +kernel
theorem dX1_get_9 : decode cX1_get 9 = .ok (.iadd, 1) := by decide +kernel
theorem dX1_get_10 : decode cX1_get 10 = .ok (.iaload, 1) := by decide +kernel
theorem dX1_get_11 : decode cX1_get 11 = .ok (.ireturn, 1) := by decide +kernel
theorem dX1_put_0 : decode cX1_put 0 = .ok (.aload_n 0, 1) := by decide +kernel
theorem dX1_put_1 : decode cX1_put 1 = .ok (.getfield 7, 3) := by decide +kernel
theorem dX1_put_4 : decode cX1_put 4 = .ok (.bipush 8, 2) := by decide +kernel
theorem dX1_put_6 : decode cX1_put 6 = .ok (.iload_n 1, 1) := by decide +kernel
theorem dX1_put_7 : decode cX1_put 7 = .ok (.imul, 1) := by decide +kernel
theorem dX1_put_8 : decode cX1_put 8 = .ok (.iload_n 2, 1) := by decide +kernel
theorem dX1_put_9 : decode cX1_put 9 = .ok (.iadd, 1) := by decide +kernel
theorem dX1_put_10 : decode cX1_put 10 = .ok (.iload_n 3, 1) := by decide +kernel
theorem dX1_put_11 : decode cX1_put 11 = .ok (.iastore, 1) := by decide +kernel
theorem dX1_put_12 : decode cX1_put 12 = .ok (.return_, 1) := by decide +kernel
theorem dX1_members_0 : decode cX1_members 0 = .ok (.aload_n 0, 1) := by decide +kernel
theorem dX1_members_1 : decode cX1_members 1 = .ok (.iconst 0, 1) := by decide +kernel
theorem dX1_members_2 : decode cX1_members 2 = .ok (.putfield 20, 3) := by decide +kernel
theorem dX1_members_5 : decode cX1_members 5 = .ok (.iload_n 1, 1) := by decide +kernel
theorem dX1_members_6 : decode cX1_members 6 = .ok (.invokestatic 24, 3) := by decide +kernel
theorem dX1_members_9 : decode cX1_members 9 = .ok (.ifCond .eq 29, 3) := by decide +kernel
theorem dX1_members_12 : decode cX1_members 12 = .ok (.iload_n 2, 1) := by decide +kernel
theorem dX1_members_13 : decode cX1_members 13 = .ok (.invokestatic 24, 3) := by decide +kernel
theorem dX1_members_16 : decode cX1_members 16 = .ok (.ifCond .eq 22, 3) := by decide +kernel
theorem dX1_members_19 : decode cX1_members 19 = .ok (.iload_n 3, 1) := by decide +kernel
theorem dX1_members_20 : decode cX1_members 20 = .ok (.invokestatic 24, 3) := by decide +kernel
theorem dX1_members_23 : decode cX1_members 23 = .ok (.ifCond .eq 15, 3) := by decide +kernel
theorem dX1_members_26 : decode cX1_members 26 = .ok (.iload_n 1, 1) := by decide +kernel
theorem dX1_members_27 : decode cX1_members 27 = .ok (.ifCond .eq 11, 3) := by decide +kernel
theorem dX1_members_30 : decode cX1_members 30 = .ok (.iload_n 3, 1) := by decide +kernel
theorem dX1_members_31 : decode cX1_members 31 = .ok (.iload_n 1, 1) := by decide +kernel
theorem dX1_members_32 : decode cX1_members 32 = .ok (.iload_n 2, 1) := by decide +kernel
theorem dX1_members_33 : decode cX1_members 33 = .ok (.ior, 1) := by decide +kernel
theorem dX1_members_34 : decode cX1_members 34 = .ok (.iand, 1) := by decide +kernel
theorem dX1_members_35 : decode cX1_members 35 = .ok (.ifCond .eq 9, 3) := by decide +kernel
theorem dX1_members_38 : decode cX1_members 38 = .ok (.aload_n 0, 1) := by decide +kernel
theorem dX1_members_39 : decode cX1_members 39 = .ok (.iconst 1, 1) := by decide +kernel
theorem dX1_members_40 : decode cX1_members 40 = .ok (.putfield 20, 3) := by decide +kernel
theorem dX1_members_43 : decode cX1_members 43 = .ok (.return_, 1) := by decide +kernel
theorem dX1_members_44 : decode cX1_members 44 = .ok (.aload_n 0, 1) := by decide +kernel
theorem dX1_members_45 : decode cX1_members 45 = .ok (.iload_n 1, 1) := by decide +kernel
theorem dX1_members_46 : decode cX1_members 46 = .ok (.putfield 17, 3) := by decide +kernel
theorem dX1_members_49 : decode cX1_members 49 = .ok (.aload_n 0, 1) := by decide +kernel
theorem dX1_members_50 : decode cX1_members 50 = .ok (.iload_n 2, 1) := by decide +kernel
theorem dX1_members_51 : decode cX1_members 51 = .ok (.putfield 28, 3) := by decide +kernel
theorem dX1_members_54 : decode cX1_members 54 = .ok (.aload_n 0, 1) := by decide +kernel
theorem dX1_members_55 : decode cX1_members 55 = .ok (.iload_n 3, 1) := by decide +kernel
theorem dX1_members_56 : decode cX1_members 56 = .ok (.putfield 31, 3) := by decide +kernel
theorem dX1_members_59 : decode cX1_members 59 = .ok (.return_, 1) := by decide +kernel
theorem dX1_change_0 : decode cX1_change 0 = .ok (.aload_n 0, 1) := by decide +kernel
theorem dX1_change_1 : decode cX1_change 1 = .ok (.iconst 0, 1) := by decide +kernel
theorem dX1_change_2 : decode cX1_change 2 = .ok (.putfield 20, 3) := by decide +kernel
theorem dX1_change_5 : decode cX1_change 5 = .ok (.iload_n 1, 1) := by decide +kernel
theorem dX1_change_6 : decode cX1_change 6 = .ok (.invokestatic 24, 3) := by decide +kernel
theorem dX1_change_9 : decode cX1_change 9 = .ok (.ifCond .eq 11, 3) := by decide +kernel
theorem dX1_change_12 : decode cX1_change 12 = .ok (.iload_n 1, 1) := by decide +kernel
theorem dX1_change_13 : decode cX1_change 13 = .ok (.ifCond .le 7, 3) := by decide +kernel
theorem dX1_change_16 : decode cX1_change 16 = .ok (.iconst 1, 1) := by decide +kernel
theorem dX1_change_17 : decode cX1_change 17 = .ok (.goto 4, 3) := by decide +kernel
theorem dX1_change_20 : decode cX1_change 20 = .ok (.iconst 0, 1) := by decide +kernel
theorem dX1_change_21 : decode cX1_change 21 = .ok (.istore_n 3, 1) := by decide +kernel
theorem dX1_change_22 : decode cX1_change 22 = .ok (.iconst 0, 1) := by decide +kernel
theorem dX1_change_23 : decode cX1_change 23 = .ok (.istore 4, 2) := by decide +kernel
theorem dX1_change_25 : decode cX1_change 25 = .ok (.iload 4, 2) := by decide +kernel
theorem dX1_change_27 : decode cX1_change 27 = .ok (.bipush 7, 2) := by decide +kernel
theorem dX1_change_29 : decode cX1_change 29 = .ok (.if_icmp .ge 63, 3) := by decide +kernel
theorem dX1_change_32 : decode cX1_change 32 = .ok (.iload_n 3, 1) := by decide +kernel
theorem dX1_change_33 : decode cX1_change 33 = .ok (.ifCond .eq 51, 3) := by decide +kernel
theorem dX1_change_36 : decode cX1_change 36 = .ok (.iload_n 1, 1) := by decide +kernel
theorem dX1_change_37 : decode cX1_change 37 = .ok (.iload 4, 2) := by decide +kernel
theorem dX1_change_39 : decode cX1_change 39 = .ok (.invokestatic 34, 3) := by decide +kernel
theorem dX1_change_42 : decode cX1_change 42 = .ok (.ifCond .eq 38, 3) := by decide +kernel
theorem dX1_change_45 : decode cX1_change 45 = .ok (.aload_n 0, 1) := by decide +kernel
theorem dX1_change_46 : decode cX1_change 46 = .ok (.getfield 17, 3) := by decide +kernel
theorem dX1_change_49 : decode cX1_change 49 = .ok (.iload 4, 2) := by decide +kernel
theorem dX1_change_51 : decode cX1_change 51 = .ok (.invokestatic 34, 3) := by decide +kernel
theorem dX1_change_54 : decode cX1_change 54 = .ok (.ifCond .ne 26, 3) := by decide +kernel
theorem dX1_change_57 : decode cX1_change 57 = .ok (.aload_n 0, 1) := by decide +kernel
theorem dX1_change_58 : decode cX1_change 58 = .ok (.getfield 31, 3) := by decide +kernel
theorem dX1_change_61 : decode cX1_change 61 = .ok (.iload 4, 2) := by decide +kernel
theorem dX1_change_63 : decode cX1_change 63 = .ok (.invokestatic 34, 3) := by decide +kernel
theorem dX1_change_66 : decode cX1_change 66 = .ok (.ifCond .eq 18, 3) := by decide +kernel
theorem dX1_change_69 : decode cX1_change 69 = .ok (.aload_n 0, 1) := by decide +kernel
theorem dX1_change_70 : decode cX1_change 70 = .ok (.iload 4, 2) := by decide +kernel
theorem dX1_change_72 : decode cX1_change 72 = .ok (.iconst 1, 1) := by decide +kernel
theorem dX1_change_73 : decode cX1_change 73 = .ok (.invokevirtual 38, 3) := by decide +kernel
theorem dX1_change_76 : decode cX1_change 76 = .ok (.iload_n 2, 1) := by decide +kernel
theorem dX1_change_77 : decode cX1_change 77 = .ok (.if_icmp .lt 7, 3) := by decide +kernel
theorem dX1_change_80 : decode cX1_change 80 = .ok (.iconst 1, 1) := by decide +kernel
theorem dX1_change_81 : decode cX1_change 81 = .ok (.goto 4, 3) := by decide +kernel
theorem dX1_change_84 : decode cX1_change 84 = .ok (.iconst 0, 1) := by decide +kernel
theorem dX1_change_85 : decode cX1_change 85 = .ok (.istore_n 3, 1) := by decide +kernel
theorem dX1_change_86 : decode cX1_change 86 = .ok (.iinc 4 1, 3) := by decide +kernel
theorem dX1_change_89 : decode cX1_change 89 = .ok (.goto (-64), 3) := by decide +kernel
theorem dX1_change_92 : decode cX1_change 92 = .ok (.iload_n 3, 1) := by decide +kernel
theorem dX1_change_93 : decode cX1_change 93 = .ok (.ifCond .eq 10, 3) := by decide +kernel
theorem dX1_change_96 : decode cX1_change 96 = .ok (.aload_n 0, 1) := by decide +kernel
theorem dX1_change_97 : decode cX1_change 97 = .ok (.getfield 28, 3) := by decide +kernel
theorem dX1_change_100 : decode cX1_change 100 = .ok (.ifCond .eq 17, 3) := by decide +kernel
theorem dX1_change_103 : decode cX1_change 103 = .ok (.aload_n 0, 1) := by decide +kernel
theorem dX1_change_104 : decode cX1_change 104 = .ok (.iload_n 3, 1) := by decide +kernel
theorem dX1_change_105 : decode cX1_change 105 = .ok (.ifCond .eq 7, 3) := by decide +kernel
theorem dX1_change_108 : decode cX1_change 108 = .ok (.iconst 2, 1) := by decide +kernel
theorem dX1_change_109 : decode cX1_change 109 = .ok (.goto 4, 3) := by decide +kernel
theorem dX1_change_112 : decode cX1_change 112 = .ok (.iconst 1, 1) := by decide +kernel
theorem dX1_change_113 : decode cX1_change 113 = .ok (.putfield 20, 3) := by decide +kernel
theorem dX1_change_116 : decode cX1_change 116 = .ok (.return_, 1) := by decide +kernel
theorem dX1_change_117 : decode cX1_change 117 = .ok (.aload_n 0, 1) := by decide +kernel
theorem dX1_change_118 : decode cX1_change 118 = .ok (.iload_n 1, 1) := by decide +kernel
theorem dX1_change_119 : decode cX1_change 119 = .ok (.putfield 28, 3) := by decide +kernel
theorem dX1_change_122 : decode cX1_change 122 = .ok (.iconst 0, 1) := by decide +kernel
theorem dX1_change_123 : decode cX1_change 123 = .ok (.istore 4, 2) := by decide +kernel
theorem dX1_change_125 : decode cX1_change 125 = .ok (.iload 4, 2) := by decide +kernel
theorem dX1_change_127 : decode cX1_change 127 = .ok (.bipush 7, 2) := by decide +kernel
theorem dX1_change_129 : decode cX1_change 129 = .ok (.if_icmp .ge 43, 3) := by decide +kernel
theorem dX1_change_132 : decode cX1_change 132 = .ok (.aload_n 0, 1) := by decide +kernel
theorem dX1_change_133 : decode cX1_change 133 = .ok (.getfield 31, 3) := by decide +kernel
theorem dX1_change_136 : decode cX1_change 136 = .ok (.iload 4, 2) := by decide +kernel
theorem dX1_change_138 : decode cX1_change 138 = .ok (.invokestatic 34, 3) := by decide +kernel
theorem dX1_change_141 : decode cX1_change 141 = .ok (.ifCond .eq 25, 3) := by decide +kernel
theorem dX1_change_144 : decode cX1_change 144 = .ok (.iload_n 1, 1) := by decide +kernel
theorem dX1_change_145 : decode cX1_change 145 = .ok (.iload 4, 2) := by decide +kernel
theorem dX1_change_147 : decode cX1_change 147 = .ok (.invokestatic 34, 3) := by decide +kernel
theorem dX1_change_150 : decode cX1_change 150 = .ok (.ifCond .eq 16, 3) := by decide +kernel
theorem dX1_change_153 : decode cX1_change 153 = .ok (.aload_n 0, 1) := by decide +kernel
theorem dX1_change_154 : decode cX1_change 154 = .ok (.dup, 1) := by decide +kernel
theorem dX1_change_155 : decode cX1_change 155 = .ok (.getfield 31, 3) := by decide +kernel
theorem dX1_change_158 : decode cX1_change 158 = .ok (.iconst 1, 1) := by decide +kernel
theorem dX1_change_159 : decode cX1_change 159 = .ok (.iload 4, 2) := by decide +kernel
theorem dX1_change_161 : decode cX1_change 161 = .ok (.ishl, 1) := by decide +kernel
theorem dX1_change_162 : decode cX1_change 162 = .ok (.isub, 1) := by decide +kernel
theorem dX1_change_163 : decode cX1_change 163 = .ok (.putfield 31, 3) := by decide +kernel
theorem dX1_change_166 : decode cX1_change 166 = .ok (.iinc 4 1, 3) := by decide +kernel
theorem dX1_change_169 : decode cX1_change 169 = .ok (.goto (-44), 3) := by decide +kernel
theorem dX1_change_172 : decode cX1_change 172 = .ok (.return_, 1) := by decide +kernel
theorem dX1_settle_0 : decode cX1_settle 0 = .ok (.aload_n 0, 1) := by decide +kernel
theorem dX1_settle_1 : decode cX1_settle 1 = .ok (.iconst 0, 1) := by decide +kernel
theorem dX1_settle_2 : decode cX1_settle 2 = .ok (.putfield 20, 3) := by decide +kernel
theorem dX1_settle_5 : decode cX1_settle 5 = .ok (.aload_n 0, 1) := by decide +kernel
theorem dX1_settle_6 : decode cX1_settle 6 = .ok (.getfield 28, 3) := by decide +kernel
theorem dX1_settle_9 : decode cX1_settle 9 = .ok (.ifCond .ne 17, 3) := by decide +kernel
theorem dX1_settle_12 : decode cX1_settle 12 = .ok (.aload_n 0, 1) := by decide +kernel
theorem dX1_settle_13 : decode cX1_settle 13 = .ok (.iconst 1, 1) := by decide +kernel
theorem dX1_settle_14 : decode cX1_settle 14 = .ok (.invokevirtual 42, 3) := by decide +kernel
theorem dX1_settle_17 : decode cX1_settle 17 = .ok (.ifCond .le 7, 3) := by decide +kernel
theorem dX1_settle_20 : decode cX1_settle 20 = .ok (.iconst 1, 1) := by decide +kernel
theorem dX1_settle_21 : decode cX1_settle 21 = .ok (.goto 4, 3) := by decide +kernel
theorem dX1_settle_24 : decode cX1_settle 24 = .ok (.iconst 0, 1) := by decide +kernel
theorem dX1_settle_25 : decode cX1_settle 25 = .ok (.ireturn, 1) := by decide +kernel
theorem dX1_settle_26 : decode cX1_settle 26 = .ok (.aload_n 0, 1) := by decide +kernel
theorem dX1_settle_27 : decode cX1_settle 27 = .ok (.aload_n 0, 1) := by decide +kernel
theorem dX1_settle_28 : decode cX1_settle 28 = .ok (.getfield 28, 3) := by decide +kernel
theorem dX1_settle_31 : decode cX1_settle 31 = .ok (.putfield 17, 3) := by decide +kernel
theorem dX1_settle_34 : decode cX1_settle 34 = .ok (.aload_n 0, 1) := by decide +kernel
theorem dX1_settle_35 : decode cX1_settle 35 = .ok (.iconst 0, 1) := by decide +kernel
theorem dX1_settle_36 : decode cX1_settle 36 = .ok (.putfield 28, 3) := by decide +kernel
theorem dX1_settle_39 : decode cX1_settle 39 = .ok (.aload_n 0, 1) := by decide +kernel
theorem dX1_settle_40 : decode cX1_settle 40 = .ok (.getfield 17, 3) := by decide +kernel
theorem dX1_settle_43 : decode cX1_settle 43 = .ok (.aload_n 0, 1) := by decide +kernel
theorem dX1_settle_44 : decode cX1_settle 44 = .ok (.getfield 13, 3) := by decide +kernel
theorem dX1_settle_47 : decode cX1_settle 47 = .ok (.invokestatic 34, 3) := by decide +kernel
theorem dX1_settle_50 : decode cX1_settle 50 = .ok (.ireturn, 1) := by decide +kernel
theorem dX1_mostOf_0 : decode cX1_mostOf 0 = .ok (.iconst 0, 1) := by decide +kernel
theorem dX1_mostOf_1 : decode cX1_mostOf 1 = .ok (.istore_n 2, 1) := by decide +kernel
theorem dX1_mostOf_2 : decode cX1_mostOf 2 = .ok (.iconst 0, 1) := by decide +kernel
theorem dX1_mostOf_3 : decode cX1_mostOf 3 = .ok (.istore_n 3, 1) := by decide +kernel
theorem dX1_mostOf_4 : decode cX1_mostOf 4 = .ok (.iconst 0, 1) := by decide +kernel
theorem dX1_mostOf_5 : decode cX1_mostOf 5 = .ok (.istore 4, 2) := by decide +kernel
theorem dX1_mostOf_7 : decode cX1_mostOf 7 = .ok (.iload 4, 2) := by decide +kernel
theorem dX1_mostOf_9 : decode cX1_mostOf 9 = .ok (.bipush 7, 2) := by decide +kernel
theorem dX1_mostOf_11 : decode cX1_mostOf 11 = .ok (.if_icmp .ge 52, 3) := by decide +kernel
theorem dX1_mostOf_14 : decode cX1_mostOf 14 = .ok (.iload_n 3, 1) := by decide +kernel
theorem dX1_mostOf_15 : decode cX1_mostOf 15 = .ok (.iload_n 1, 1) := by decide +kernel
theorem dX1_mostOf_16 : decode cX1_mostOf 16 = .ok (.iload 4, 2) := by decide +kernel
theorem dX1_mostOf_18 : decode cX1_mostOf 18 = .ok (.invokestatic 34, 3) := by decide +kernel
theorem dX1_mostOf_21 : decode cX1_mostOf 21 = .ok (.ifCond .eq 7, 3) := by decide +kernel
theorem dX1_mostOf_24 : decode cX1_mostOf 24 = .ok (.iconst 1, 1) := by decide +kernel
theorem dX1_mostOf_25 : decode cX1_mostOf 25 = .ok (.goto 4, 3) := by decide +kernel
theorem dX1_mostOf_28 : decode cX1_mostOf 28 = .ok (.iconst 0, 1) := by decide +kernel
theorem dX1_mostOf_29 : decode cX1_mostOf 29 = .ok (.iadd, 1) := by decide +kernel
theorem dX1_mostOf_30 : decode cX1_mostOf 30 = .ok (.istore_n 3, 1) := by decide +kernel
theorem dX1_mostOf_31 : decode cX1_mostOf 31 = .ok (.iload_n 2, 1) := by decide +kernel
theorem dX1_mostOf_32 : decode cX1_mostOf 32 = .ok (.iload_n 1, 1) := by decide +kernel
theorem dX1_mostOf_33 : decode cX1_mostOf 33 = .ok (.iload 4, 2) := by decide +kernel
theorem dX1_mostOf_35 : decode cX1_mostOf 35 = .ok (.invokestatic 34, 3) := by decide +kernel
theorem dX1_mostOf_38 : decode cX1_mostOf 38 = .ok (.ifCond .eq 16, 3) := by decide +kernel
theorem dX1_mostOf_41 : decode cX1_mostOf 41 = .ok (.iload_n 0, 1) := by decide +kernel
theorem dX1_mostOf_42 : decode cX1_mostOf 42 = .ok (.iload 4, 2) := by decide +kernel
theorem dX1_mostOf_44 : decode cX1_mostOf 44 = .ok (.invokestatic 34, 3) := by decide +kernel
theorem dX1_mostOf_47 : decode cX1_mostOf 47 = .ok (.ifCond .eq 7, 3) := by decide +kernel
theorem dX1_mostOf_50 : decode cX1_mostOf 50 = .ok (.iconst 1, 1) := by decide +kernel
theorem dX1_mostOf_51 : decode cX1_mostOf 51 = .ok (.goto 4, 3) := by decide +kernel
theorem dX1_mostOf_54 : decode cX1_mostOf 54 = .ok (.iconst 0, 1) := by decide +kernel
theorem dX1_mostOf_55 : decode cX1_mostOf 55 = .ok (.iadd, 1) := by decide +kernel
theorem dX1_mostOf_56 : decode cX1_mostOf 56 = .ok (.istore_n 2, 1) := by decide +kernel
theorem dX1_mostOf_57 : decode cX1_mostOf 57 = .ok (.iinc 4 1, 3) := by decide +kernel
theorem dX1_mostOf_60 : decode cX1_mostOf 60 = .ok (.goto (-53), 3) := by decide +kernel
theorem dX1_mostOf_63 : decode cX1_mostOf 63 = .ok (.iconst 2, 1) := by decide +kernel
theorem dX1_mostOf_64 : decode cX1_mostOf 64 = .ok (.iload_n 2, 1) := by decide +kernel
theorem dX1_mostOf_65 : decode cX1_mostOf 65 = .ok (.imul, 1) := by decide +kernel
theorem dX1_mostOf_66 : decode cX1_mostOf 66 = .ok (.iload_n 3, 1) := by decide +kernel
theorem dX1_mostOf_67 : decode cX1_mostOf 67 = .ok (.if_icmp .le 7, 3) := by decide +kernel
theorem dX1_mostOf_70 : decode cX1_mostOf 70 = .ok (.iconst 1, 1) := by decide +kernel
theorem dX1_mostOf_71 : decode cX1_mostOf 71 = .ok (.goto 4, 3) := by decide +kernel
theorem dX1_mostOf_74 : decode cX1_mostOf 74 = .ok (.iconst 0, 1) := by decide +kernel
theorem dX1_mostOf_75 : decode cX1_mostOf 75 = .ok (.ireturn, 1) := by decide +kernel
theorem dX1_carries_0 : decode cX1_carries 0 = .ok (.iload_n 1, 1) := by decide +kernel
theorem dX1_carries_1 : decode cX1_carries 1 = .ok (.aload_n 0, 1) := by decide +kernel
theorem dX1_carries_2 : decode cX1_carries 2 = .ok (.getfield 17, 3) := by decide +kernel
theorem dX1_carries_5 : decode cX1_carries 5 = .ok (.invokestatic 46, 3) := by decide +kernel
theorem dX1_carries_8 : decode cX1_carries 8 = .ok (.ifCond .eq 25, 3) := by decide +kernel
theorem dX1_carries_11 : decode cX1_carries 11 = .ok (.aload_n 0, 1) := by decide +kernel
theorem dX1_carries_12 : decode cX1_carries 12 = .ok (.getfield 28, 3) := by decide +kernel
theorem dX1_carries_15 : decode cX1_carries 15 = .ok (.ifCond .eq 14, 3) := by decide +kernel
theorem dX1_carries_18 : decode cX1_carries 18 = .ok (.iload_n 1, 1) := by decide +kernel
theorem dX1_carries_19 : decode cX1_carries 19 = .ok (.aload_n 0, 1) := by decide +kernel
theorem dX1_carries_20 : decode cX1_carries 20 = .ok (.getfield 28, 3) := by decide +kernel
theorem dX1_carries_23 : decode cX1_carries 23 = .ok (.invokestatic 46, 3) := by decide +kernel
theorem dX1_carries_26 : decode cX1_carries 26 = .ok (.ifCond .eq 7, 3) := by decide +kernel
theorem dX1_carries_29 : decode cX1_carries 29 = .ok (.iconst 1, 1) := by decide +kernel
theorem dX1_carries_30 : decode cX1_carries 30 = .ok (.goto 4, 3) := by decide +kernel
theorem dX1_carries_33 : decode cX1_carries 33 = .ok (.iconst 0, 1) := by decide +kernel
theorem dX1_carries_34 : decode cX1_carries 34 = .ok (.ireturn, 1) := by decide +kernel
theorem dX1_majority_0 : decode cX1_majority 0 = .ok (.aload_n 0, 1) := by decide +kernel
theorem dX1_majority_1 : decode cX1_majority 1 = .ok (.iconst 0, 1) := by decide +kernel
theorem dX1_majority_2 : decode cX1_majority 2 = .ok (.putfield 20, 3) := by decide +kernel
theorem dX1_majority_5 : decode cX1_majority 5 = .ok (.iload_n 1, 1) := by decide +kernel
theorem dX1_majority_6 : decode cX1_majority 6 = .ok (.invokestatic 24, 3) := by decide +kernel
theorem dX1_majority_9 : decode cX1_majority 9 = .ok (.ifCond .eq 11, 3) := by decide +kernel
theorem dX1_majority_12 : decode cX1_majority 12 = .ok (.aload_n 0, 1) := by decide +kernel
theorem dX1_majority_13 : decode cX1_majority 13 = .ok (.iload_n 1, 1) := by decide +kernel
theorem dX1_majority_14 : decode cX1_majority 14 = .ok (.invokevirtual 49, 3) := by decide +kernel
theorem dX1_majority_17 : decode cX1_majority 17 = .ok (.goto 16, 3) := by decide +kernel
theorem dX1_majority_20 : decode cX1_majority 20 = .ok (.aload_n 0, 1) := by decide +kernel
theorem dX1_majority_21 : decode cX1_majority 21 = .ok (.iconst 1, 1) := by decide +kernel
theorem dX1_majority_22 : decode cX1_majority 22 = .ok (.invokevirtual 42, 3) := by decide +kernel
theorem dX1_majority_25 : decode cX1_majority 25 = .ok (.ifCond .le 7, 3) := by decide +kernel
theorem dX1_majority_28 : decode cX1_majority 28 = .ok (.iconst 1, 1) := by decide +kernel
theorem dX1_majority_29 : decode cX1_majority 29 = .ok (.goto 4, 3) := by decide +kernel
theorem dX1_majority_32 : decode cX1_majority 32 = .ok (.iconst 0, 1) := by decide +kernel
theorem dX1_majority_33 : decode cX1_majority 33 = .ok (.ireturn, 1) := by decide +kernel
theorem dX1_ballot_0 : decode cX1_ballot 0 = .ok (.aload_n 0, 1) := by decide +kernel
theorem dX1_ballot_1 : decode cX1_ballot 1 = .ok (.iconst 0, 1) := by decide +kernel
theorem dX1_ballot_2 : decode cX1_ballot 2 = .ok (.putfield 20, 3) := by decide +kernel
theorem dX1_ballot_5 : decode cX1_ballot 5 = .ok (.aload_n 0, 1) := by decide +kernel
theorem dX1_ballot_6 : decode cX1_ballot 6 = .ok (.iconst 0, 1) := by decide +kernel
theorem dX1_ballot_7 : decode cX1_ballot 7 = .ok (.putfield 52, 3) := by decide +kernel
theorem dX1_ballot_10 : decode cX1_ballot 10 = .ok (.return_, 1) := by decide +kernel
theorem dX1_vote_0 : decode cX1_vote 0 = .ok (.aload_n 0, 1) := by decide +kernel
theorem dX1_vote_1 : decode cX1_vote 1 = .ok (.iconst 0, 1) := by decide +kernel
theorem dX1_vote_2 : decode cX1_vote 2 = .ok (.putfield 20, 3) := by decide +kernel
theorem dX1_vote_5 : decode cX1_vote 5 = .ok (.bipush 127, 2) := by decide +kernel
theorem dX1_vote_7 : decode cX1_vote 7 = .ok (.iload_n 1, 1) := by decide +kernel
theorem dX1_vote_8 : decode cX1_vote 8 = .ok (.invokestatic 34, 3) := by decide +kernel
theorem dX1_vote_11 : decode cX1_vote 11 = .ok (.ifCond .ne 17, 3) := by decide +kernel
theorem dX1_vote_14 : decode cX1_vote 14 = .ok (.aload_n 0, 1) := by decide +kernel
theorem dX1_vote_15 : decode cX1_vote 15 = .ok (.iconst 1, 1) := by decide +kernel
theorem dX1_vote_16 : decode cX1_vote 16 = .ok (.invokevirtual 42, 3) := by decide +kernel
theorem dX1_vote_19 : decode cX1_vote 19 = .ok (.ifCond .le 7, 3) := by decide +kernel
theorem dX1_vote_22 : decode cX1_vote 22 = .ok (.iconst 1, 1) := by decide +kernel
theorem dX1_vote_23 : decode cX1_vote 23 = .ok (.goto 4, 3) := by decide +kernel
theorem dX1_vote_26 : decode cX1_vote 26 = .ok (.iconst 0, 1) := by decide +kernel
theorem dX1_vote_27 : decode cX1_vote 27 = .ok (.ireturn, 1) := by decide +kernel
theorem dX1_vote_28 : decode cX1_vote 28 = .ok (.aload_n 0, 1) := by decide +kernel
theorem dX1_vote_29 : decode cX1_vote 29 = .ok (.getfield 52, 3) := by decide +kernel
theorem dX1_vote_32 : decode cX1_vote 32 = .ok (.iload_n 1, 1) := by decide +kernel
theorem dX1_vote_33 : decode cX1_vote 33 = .ok (.invokestatic 34, 3) := by decide +kernel
theorem dX1_vote_36 : decode cX1_vote 36 = .ok (.ifCond .ne 15, 3) := by decide +kernel
theorem dX1_vote_39 : decode cX1_vote 39 = .ok (.aload_n 0, 1) := by decide +kernel
theorem dX1_vote_40 : decode cX1_vote 40 = .ok (.dup, 1) := by decide +kernel
theorem dX1_vote_41 : decode cX1_vote 41 = .ok (.getfield 52, 3) := by decide +kernel
theorem dX1_vote_44 : decode cX1_vote 44 = .ok (.iconst 1, 1) := by decide +kernel
theorem dX1_vote_45 : decode cX1_vote 45 = .ok (.iload_n 1, 1) := by decide +kernel
theorem dX1_vote_46 : decode cX1_vote 46 = .ok (.ishl, 1) := by decide +kernel
theorem dX1_vote_47 : decode cX1_vote 47 = .ok (.iadd, 1) := by decide +kernel
theorem dX1_vote_48 : decode cX1_vote 48 = .ok (.putfield 52, 3) := by decide +kernel
theorem dX1_vote_51 : decode cX1_vote 51 = .ok (.aload_n 0, 1) := by decide +kernel
theorem dX1_vote_52 : decode cX1_vote 52 = .ok (.aload_n 0, 1) := by decide +kernel
theorem dX1_vote_53 : decode cX1_vote 53 = .ok (.getfield 52, 3) := by decide +kernel
theorem dX1_vote_56 : decode cX1_vote 56 = .ok (.invokevirtual 49, 3) := by decide +kernel
theorem dX1_vote_59 : decode cX1_vote 59 = .ok (.ireturn, 1) := by decide +kernel
theorem dX1_peers_0 : decode cX1_peers 0 = .ok (.iconst 0, 1) := by decide +kernel
theorem dX1_peers_1 : decode cX1_peers 1 = .ok (.istore_n 1, 1) := by decide +kernel
theorem dX1_peers_2 : decode cX1_peers 2 = .ok (.iconst 0, 1) := by decide +kernel
theorem dX1_peers_3 : decode cX1_peers 3 = .ok (.istore_n 2, 1) := by decide +kernel
theorem dX1_peers_4 : decode cX1_peers 4 = .ok (.iload_n 2, 1) := by decide +kernel
theorem dX1_peers_5 : decode cX1_peers 5 = .ok (.bipush 7, 2) := by decide +kernel
theorem dX1_peers_7 : decode cX1_peers 7 = .ok (.if_icmp .ge 60, 3) := by decide +kernel
theorem dX1_peers_10 : decode cX1_peers 10 = .ok (.iload_n 1, 1) := by decide +kernel
theorem dX1_peers_11 : decode cX1_peers 11 = .ok (.iload_n 2, 1) := by decide +kernel
theorem dX1_peers_12 : decode cX1_peers 12 = .ok (.aload_n 0, 1) := by decide +kernel
theorem dX1_peers_13 : decode cX1_peers 13 = .ok (.getfield 13, 3) := by decide +kernel
theorem dX1_peers_16 : decode cX1_peers 16 = .ok (.if_icmp .eq 42, 3) := by decide +kernel
theorem dX1_peers_19 : decode cX1_peers 19 = .ok (.aload_n 0, 1) := by decide +kernel
theorem dX1_peers_20 : decode cX1_peers 20 = .ok (.getfield 17, 3) := by decide +kernel
theorem dX1_peers_23 : decode cX1_peers 23 = .ok (.iload_n 2, 1) := by decide +kernel
theorem dX1_peers_24 : decode cX1_peers 24 = .ok (.invokestatic 34, 3) := by decide +kernel
theorem dX1_peers_27 : decode cX1_peers 27 = .ok (.ifCond .ne 25, 3) := by decide +kernel
theorem dX1_peers_30 : decode cX1_peers 30 = .ok (.aload_n 0, 1) := by decide +kernel
theorem dX1_peers_31 : decode cX1_peers 31 = .ok (.getfield 28, 3) := by decide +kernel
theorem dX1_peers_34 : decode cX1_peers 34 = .ok (.iload_n 2, 1) := by decide +kernel
theorem dX1_peers_35 : decode cX1_peers 35 = .ok (.invokestatic 34, 3) := by decide +kernel
theorem dX1_peers_38 : decode cX1_peers 38 = .ok (.ifCond .ne 14, 3) := by decide +kernel
theorem dX1_peers_41 : decode cX1_peers 41 = .ok (.aload_n 0, 1) := by decide +kernel
theorem dX1_peers_42 : decode cX1_peers 42 = .ok (.getfield 31, 3) := by decide +kernel
theorem dX1_peers_45 : decode cX1_peers 45 = .ok (.iload_n 2, 1) := by decide +kernel
theorem dX1_peers_46 : decode cX1_peers 46 = .ok (.invokestatic 34, 3) := by decide +kernel
theorem dX1_peers_49 : decode cX1_peers 49 = .ok (.ifCond .eq 9, 3) := by decide +kernel
theorem dX1_peers_52 : decode cX1_peers 52 = .ok (.iconst 1, 1) := by decide +kernel
theorem dX1_peers_53 : decode cX1_peers 53 = .ok (.iload_n 2, 1) := by decide +kernel
theorem dX1_peers_54 : decode cX1_peers 54 = .ok (.ishl, 1) := by decide +kernel
theorem dX1_peers_55 : decode cX1_peers 55 = .ok (.goto 4, 3) := by decide +kernel
theorem dX1_peers_58 : decode cX1_peers 58 = .ok (.iconst 0, 1) := by decide +kernel
theorem dX1_peers_59 : decode cX1_peers 59 = .ok (.iadd, 1) := by decide +kernel
theorem dX1_peers_60 : decode cX1_peers 60 = .ok (.istore_n 1, 1) := by decide +kernel
theorem dX1_peers_61 : decode cX1_peers 61 = .ok (.iinc 2 1, 3) := by decide +kernel
theorem dX1_peers_64 : decode cX1_peers 64 = .ok (.goto (-60), 3) := by decide +kernel
theorem dX1_peers_67 : decode cX1_peers 67 = .ok (.iload_n 1, 1) := by decide +kernel
theorem dX1_peers_68 : decode cX1_peers 68 = .ok (.ireturn, 1) := by decide +kernel
theorem dX1_lead_0 : decode cX1_lead 0 = .ok (.aload_n 0, 1) := by decide +kernel
theorem dX1_lead_1 : decode cX1_lead 1 = .ok (.iconst 0, 1) := by decide +kernel
theorem dX1_lead_2 : decode cX1_lead 2 = .ok (.putfield 20, 3) := by decide +kernel
theorem dX1_lead_5 : decode cX1_lead 5 = .ok (.iload_n 1, 1) := by decide +kernel
theorem dX1_lead_6 : decode cX1_lead 6 = .ok (.invokestatic 55, 3) := by decide +kernel
end
section
theorem dX1_lead_9 : decode cX1_lead 9 = .ok (.ifCond .eq 10, 3) := by decide +kernel
theorem dX1_lead_12 : decode cX1_lead 12 = .ok (.iload_n 2, 1) := by decide +kernel
theorem dX1_lead_13 : decode cX1_lead 13 = .ok (.invokestatic 55, 3) := by decide +kernel
theorem dX1_lead_16 : decode cX1_lead 16 = .ok (.ifCond .ne 9, 3) := by decide +kernel
theorem dX1_lead_19 : decode cX1_lead 19 = .ok (.aload_n 0, 1) := by decide +kernel
theorem dX1_lead_20 : decode cX1_lead 20 = .ok (.iconst 1, 1) := by decide +kernel
theorem dX1_lead_21 : decode cX1_lead 21 = .ok (.putfield 20, 3) := by decide +kernel
theorem dX1_lead_24 : decode cX1_lead 24 = .ok (.return_, 1) := by decide +kernel
theorem dX1_lead_25 : decode cX1_lead 25 = .ok (.iconst 0, 1) := by decide +kernel
theorem dX1_lead_26 : decode cX1_lead 26 = .ok (.istore_n 3, 1) := by decide +kernel
theorem dX1_lead_27 : decode cX1_lead 27 = .ok (.iload_n 3, 1) := by decide +kernel
theorem dX1_lead_28 : decode cX1_lead 28 = .ok (.bipush 7, 2) := by decide +kernel
theorem dX1_lead_30 : decode cX1_lead 30 = .ok (.if_icmp .ge 65, 3) := by decide +kernel
theorem dX1_lead_33 : decode cX1_lead 33 = .ok (.iconst 0, 1) := by decide +kernel
theorem dX1_lead_34 : decode cX1_lead 34 = .ok (.istore 4, 2) := by decide +kernel
theorem dX1_lead_36 : decode cX1_lead 36 = .ok (.iload 4, 2) := by decide +kernel
theorem dX1_lead_38 : decode cX1_lead 38 = .ok (.bipush 8, 2) := by decide +kernel
theorem dX1_lead_40 : decode cX1_lead 40 = .ok (.if_icmp .ge 49, 3) := by decide +kernel
theorem dX1_lead_43 : decode cX1_lead 43 = .ok (.aload_n 0, 1) := by decide +kernel
theorem dX1_lead_44 : decode cX1_lead 44 = .ok (.iload_n 3, 1) := by decide +kernel
theorem dX1_lead_45 : decode cX1_lead 45 = .ok (.iload 4, 2) := by decide +kernel
theorem dX1_lead_47 : decode cX1_lead 47 = .ok (.iload 4, 2) := by decide +kernel
theorem dX1_lead_49 : decode cX1_lead 49 = .ok (.ifCond .ne 9, 3) := by decide +kernel
theorem dX1_lead_52 : decode cX1_lead 52 = .ok (.iload_n 1, 1) := by decide +kernel
theorem dX1_lead_53 : decode cX1_lead 53 = .ok (.iconst 1, 1) := by decide +kernel
theorem dX1_lead_54 : decode cX1_lead 54 = .ok (.iadd, 1) := by decide +kernel
theorem dX1_lead_55 : decode cX1_lead 55 = .ok (.goto 25, 3) := by decide +kernel
theorem dX1_lead_58 : decode cX1_lead 58 = .ok (.iload 4, 2) := by decide +kernel
theorem dX1_lead_60 : decode cX1_lead 60 = .ok (.iconst 3, 1) := by decide +kernel
theorem dX1_lead_61 : decode cX1_lead 61 = .ok (.if_icmp .ne 7, 3) := by decide +kernel
theorem dX1_lead_64 : decode cX1_lead 64 = .ok (.iconst 1, 1) := by decide +kernel
theorem dX1_lead_65 : decode cX1_lead 65 = .ok (.goto 15, 3) := by decide +kernel
theorem dX1_lead_68 : decode cX1_lead 68 = .ok (.iload 4, 2) := by decide +kernel
theorem dX1_lead_70 : decode cX1_lead 70 = .ok (.bipush 6, 2) := by decide +kernel
theorem dX1_lead_72 : decode cX1_lead 72 = .ok (.if_icmp .ne 7, 3) := by decide +kernel
theorem dX1_lead_75 : decode cX1_lead 75 = .ok (.iload_n 2, 1) := by decide +kernel
theorem dX1_lead_76 : decode cX1_lead 76 = .ok (.goto 4, 3) := by decide +kernel
theorem dX1_lead_79 : decode cX1_lead 79 = .ok (.iconst 0, 1) := by decide +kernel
theorem dX1_lead_80 : decode cX1_lead 80 = .ok (.invokevirtual 58, 3) := by decide +kernel
theorem dX1_lead_83 : decode cX1_lead 83 = .ok (.iinc 4 1, 3) := by decide +kernel
theorem dX1_lead_86 : decode cX1_lead 86 = .ok (.goto (-50), 3) := by decide +kernel
theorem dX1_lead_89 : decode cX1_lead 89 = .ok (.iinc 3 1, 3) := by decide +kernel
theorem dX1_lead_92 : decode cX1_lead 92 = .ok (.goto (-65), 3) := by decide +kernel
theorem dX1_lead_95 : decode cX1_lead 95 = .ok (.aload_n 0, 1) := by decide +kernel
theorem dX1_lead_96 : decode cX1_lead 96 = .ok (.iconst 0, 1) := by decide +kernel
theorem dX1_lead_97 : decode cX1_lead 97 = .ok (.putfield 62, 3) := by decide +kernel
theorem dX1_lead_100 : decode cX1_lead 100 = .ok (.return_, 1) := by decide +kernel
theorem dX1_round_0 : decode cX1_round 0 = .ok (.aload_n 0, 1) := by decide +kernel
theorem dX1_round_1 : decode cX1_round 1 = .ok (.iconst 0, 1) := by decide +kernel
theorem dX1_round_2 : decode cX1_round 2 = .ok (.putfield 20, 3) := by decide +kernel
theorem dX1_round_5 : decode cX1_round 5 = .ok (.aload_n 0, 1) := by decide +kernel
theorem dX1_round_6 : decode cX1_round 6 = .ok (.dup, 1) := by decide +kernel
theorem dX1_round_7 : decode cX1_round 7 = .ok (.getfield 62, 3) := by decide +kernel
theorem dX1_round_10 : decode cX1_round 10 = .ok (.iconst 1, 1) := by decide +kernel
theorem dX1_round_11 : decode cX1_round 11 = .ok (.iadd, 1) := by decide +kernel
theorem dX1_round_12 : decode cX1_round 12 = .ok (.putfield 62, 3) := by decide +kernel
theorem dX1_round_15 : decode cX1_round 15 = .ok (.iconst 0, 1) := by decide +kernel
theorem dX1_round_16 : decode cX1_round 16 = .ok (.istore_n 1, 1) := by decide +kernel
theorem dX1_round_17 : decode cX1_round 17 = .ok (.iload_n 1, 1) := by decide +kernel
theorem dX1_round_18 : decode cX1_round 18 = .ok (.bipush 7, 2) := by decide +kernel
theorem dX1_round_20 : decode cX1_round 20 = .ok (.if_icmp .ge 67, 3) := by decide +kernel
theorem dX1_round_23 : decode cX1_round 23 = .ok (.aload_n 0, 1) := by decide +kernel
theorem dX1_round_24 : decode cX1_round 24 = .ok (.invokevirtual 65, 3) := by decide +kernel
theorem dX1_round_27 : decode cX1_round 27 = .ok (.iload_n 1, 1) := by decide +kernel
theorem dX1_round_28 : decode cX1_round 28 = .ok (.invokestatic 34, 3) := by decide +kernel
theorem dX1_round_31 : decode cX1_round 31 = .ok (.ifCond .eq 50, 3) := by decide +kernel
theorem dX1_round_34 : decode cX1_round 34 = .ok (.aload_n 0, 1) := by decide +kernel
theorem dX1_round_35 : decode cX1_round 35 = .ok (.iload_n 1, 1) := by decide +kernel
theorem dX1_round_36 : decode cX1_round 36 = .ok (.iconst 2, 1) := by decide +kernel
theorem dX1_round_37 : decode cX1_round 37 = .ok (.invokevirtual 38, 3) := by decide +kernel
theorem dX1_round_40 : decode cX1_round 40 = .ok (.ifCond .le 41, 3) := by decide +kernel
theorem dX1_round_43 : decode cX1_round 43 = .ok (.aload_n 0, 1) := by decide +kernel
theorem dX1_round_44 : decode cX1_round 44 = .ok (.iload_n 1, 1) := by decide +kernel
theorem dX1_round_45 : decode cX1_round 45 = .ok (.bipush 7, 2) := by decide +kernel
theorem dX1_round_47 : decode cX1_round 47 = .ok (.invokevirtual 38, 3) := by decide +kernel
theorem dX1_round_50 : decode cX1_round 50 = .ok (.ifCond .ne 31, 3) := by decide +kernel
theorem dX1_round_53 : decode cX1_round 53 = .ok (.aload_n 0, 1) := by decide +kernel
theorem dX1_round_54 : decode cX1_round 54 = .ok (.iload_n 1, 1) := by decide +kernel
theorem dX1_round_55 : decode cX1_round 55 = .ok (.iconst 0, 1) := by decide +kernel
theorem dX1_round_56 : decode cX1_round 56 = .ok (.aload_n 0, 1) := by decide +kernel
theorem dX1_round_57 : decode cX1_round 57 = .ok (.iload_n 1, 1) := by decide +kernel
theorem dX1_round_58 : decode cX1_round 58 = .ok (.iconst 1, 1) := by decide +kernel
theorem dX1_round_59 : decode cX1_round 59 = .ok (.invokevirtual 38, 3) := by decide +kernel
theorem dX1_round_62 : decode cX1_round 62 = .ok (.iconst 1, 1) := by decide +kernel
theorem dX1_round_63 : decode cX1_round 63 = .ok (.iadd, 1) := by decide +kernel
theorem dX1_round_64 : decode cX1_round 64 = .ok (.invokevirtual 58, 3) := by decide +kernel
theorem dX1_round_67 : decode cX1_round 67 = .ok (.aload_n 0, 1) := by decide +kernel
theorem dX1_round_68 : decode cX1_round 68 = .ok (.iload_n 1, 1) := by decide +kernel
theorem dX1_round_69 : decode cX1_round 69 = .ok (.iconst 2, 1) := by decide +kernel
theorem dX1_round_70 : decode cX1_round 70 = .ok (.iconst 0, 1) := by decide +kernel
theorem dX1_round_71 : decode cX1_round 71 = .ok (.invokevirtual 58, 3) := by decide +kernel
theorem dX1_round_74 : decode cX1_round 74 = .ok (.aload_n 0, 1) := by decide +kernel
theorem dX1_round_75 : decode cX1_round 75 = .ok (.iload_n 1, 1) := by decide +kernel
theorem dX1_round_76 : decode cX1_round 76 = .ok (.iconst 3, 1) := by decide +kernel
theorem dX1_round_77 : decode cX1_round 77 = .ok (.iconst 1, 1) := by decide +kernel
theorem dX1_round_78 : decode cX1_round 78 = .ok (.invokevirtual 58, 3) := by decide +kernel
theorem dX1_round_81 : decode cX1_round 81 = .ok (.iinc 1 1, 3) := by decide +kernel
theorem dX1_round_84 : decode cX1_round 84 = .ok (.goto (-67), 3) := by decide +kernel
theorem dX1_round_87 : decode cX1_round 87 = .ok (.iconst 0, 1) := by decide +kernel
theorem dX1_round_88 : decode cX1_round 88 = .ok (.istore_n 1, 1) := by decide +kernel
theorem dX1_round_89 : decode cX1_round 89 = .ok (.iload_n 1, 1) := by decide +kernel
theorem dX1_round_90 : decode cX1_round 90 = .ok (.bipush 7, 2) := by decide +kernel
theorem dX1_round_92 : decode cX1_round 92 = .ok (.if_icmp .ge 17, 3) := by decide +kernel
theorem dX1_round_95 : decode cX1_round 95 = .ok (.aload_n 0, 1) := by decide +kernel
theorem dX1_round_96 : decode cX1_round 96 = .ok (.iload_n 1, 1) := by decide +kernel
theorem dX1_round_97 : decode cX1_round 97 = .ok (.bipush 7, 2) := by decide +kernel
theorem dX1_round_99 : decode cX1_round 99 = .ok (.iconst 0, 1) := by decide +kernel
theorem dX1_round_100 : decode cX1_round 100 = .ok (.invokevirtual 58, 3) := by decide +kernel
theorem dX1_round_103 : decode cX1_round 103 = .ok (.iinc 1 1, 3) := by decide +kernel
theorem dX1_round_106 : decode cX1_round 106 = .ok (.goto (-17), 3) := by decide +kernel
theorem dX1_round_109 : decode cX1_round 109 = .ok (.aload_n 0, 1) := by decide +kernel
theorem dX1_round_110 : decode cX1_round 110 = .ok (.getfield 62, 3) := by decide +kernel
theorem dX1_round_113 : decode cX1_round 113 = .ok (.ireturn, 1) := by decide +kernel
theorem dX1_sending_0 : decode cX1_sending 0 = .ok (.aload_n 0, 1) := by decide +kernel
theorem dX1_sending_1 : decode cX1_sending 1 = .ok (.iconst 0, 1) := by decide +kernel
theorem dX1_sending_2 : decode cX1_sending 2 = .ok (.putfield 20, 3) := by decide +kernel
theorem dX1_sending_5 : decode cX1_sending 5 = .ok (.aload_n 0, 1) := by decide +kernel
theorem dX1_sending_6 : decode cX1_sending 6 = .ok (.invokevirtual 65, 3) := by decide +kernel
theorem dX1_sending_9 : decode cX1_sending 9 = .ok (.iload_n 1, 1) := by decide +kernel
theorem dX1_sending_10 : decode cX1_sending 10 = .ok (.invokestatic 34, 3) := by decide +kernel
theorem dX1_sending_13 : decode cX1_sending 13 = .ok (.ifCond .ne 9, 3) := by decide +kernel
theorem dX1_sending_16 : decode cX1_sending 16 = .ok (.aload_n 0, 1) := by decide +kernel
theorem dX1_sending_17 : decode cX1_sending 17 = .ok (.iconst 1, 1) := by decide +kernel
theorem dX1_sending_18 : decode cX1_sending 18 = .ok (.invokevirtual 42, 3) := by decide +kernel
theorem dX1_sending_21 : decode cX1_sending 21 = .ok (.ireturn, 1) := by decide +kernel
theorem dX1_sending_22 : decode cX1_sending 22 = .ok (.iload_n 2, 1) := by decide +kernel
theorem dX1_sending_23 : decode cX1_sending 23 = .ok (.invokestatic 55, 3) := by decide +kernel
theorem dX1_sending_26 : decode cX1_sending 26 = .ok (.ifCond .eq 15, 3) := by decide +kernel
theorem dX1_sending_29 : decode cX1_sending 29 = .ok (.iload_n 3, 1) := by decide +kernel
theorem dX1_sending_30 : decode cX1_sending 30 = .ok (.invokestatic 55, 3) := by decide +kernel
theorem dX1_sending_33 : decode cX1_sending 33 = .ok (.ifCond .eq 8, 3) := by decide +kernel
theorem dX1_sending_36 : decode cX1_sending 36 = .ok (.iload_n 3, 1) := by decide +kernel
theorem dX1_sending_37 : decode cX1_sending 37 = .ok (.iload_n 2, 1) := by decide +kernel
theorem dX1_sending_38 : decode cX1_sending 38 = .ok (.if_icmp .ge 9, 3) := by decide +kernel
theorem dX1_sending_41 : decode cX1_sending 41 = .ok (.aload_n 0, 1) := by decide +kernel
theorem dX1_sending_42 : decode cX1_sending 42 = .ok (.iconst 2, 1) := by decide +kernel
theorem dX1_sending_43 : decode cX1_sending 43 = .ok (.invokevirtual 42, 3) := by decide +kernel
theorem dX1_sending_46 : decode cX1_sending 46 = .ok (.ireturn, 1) := by decide +kernel
theorem dX1_sending_47 : decode cX1_sending 47 = .ok (.aload_n 0, 1) := by decide +kernel
theorem dX1_sending_48 : decode cX1_sending 48 = .ok (.iload_n 1, 1) := by decide +kernel
theorem dX1_sending_49 : decode cX1_sending 49 = .ok (.iconst 2, 1) := by decide +kernel
theorem dX1_sending_50 : decode cX1_sending 50 = .ok (.invokevirtual 38, 3) := by decide +kernel
theorem dX1_sending_53 : decode cX1_sending 53 = .ok (.istore 5, 2) := by decide +kernel
theorem dX1_sending_55 : decode cX1_sending 55 = .ok (.aload_n 0, 1) := by decide +kernel
theorem dX1_sending_56 : decode cX1_sending 56 = .ok (.iload_n 1, 1) := by decide +kernel
theorem dX1_sending_57 : decode cX1_sending 57 = .ok (.iconst 0, 1) := by decide +kernel
theorem dX1_sending_58 : decode cX1_sending 58 = .ok (.invokevirtual 38, 3) := by decide +kernel
theorem dX1_sending_61 : decode cX1_sending 61 = .ok (.iload_n 2, 1) := by decide +kernel
theorem dX1_sending_62 : decode cX1_sending 62 = .ok (.if_icmp .gt 32, 3) := by decide +kernel
theorem dX1_sending_65 : decode cX1_sending 65 = .ok (.aload_n 0, 1) := by decide +kernel
theorem dX1_sending_66 : decode cX1_sending 66 = .ok (.iload_n 1, 1) := by decide +kernel
theorem dX1_sending_67 : decode cX1_sending 67 = .ok (.iconst 2, 1) := by decide +kernel
theorem dX1_sending_68 : decode cX1_sending 68 = .ok (.iload 5, 2) := by decide +kernel
theorem dX1_sending_70 : decode cX1_sending 70 = .ok (.ifCond .ne 7, 3) := by decide +kernel
theorem dX1_sending_73 : decode cX1_sending 73 = .ok (.iconst 1, 1) := by decide +kernel
theorem dX1_sending_74 : decode cX1_sending 74 = .ok (.goto 5, 3) := by decide +kernel
theorem dX1_sending_77 : decode cX1_sending 77 = .ok (.iload 5, 2) := by decide +kernel
theorem dX1_sending_79 : decode cX1_sending 79 = .ok (.invokevirtual 58, 3) := by decide +kernel
theorem dX1_sending_82 : decode cX1_sending 82 = .ok (.iload 5, 2) := by decide +kernel
theorem dX1_sending_84 : decode cX1_sending 84 = .ok (.ifCond .ne 8, 3) := by decide +kernel
theorem dX1_sending_87 : decode cX1_sending 87 = .ok (.bipush 8, 2) := by decide +kernel
theorem dX1_sending_89 : decode cX1_sending 89 = .ok (.goto 4, 3) := by decide +kernel
theorem dX1_sending_92 : decode cX1_sending 92 = .ok (.iconst 0, 1) := by decide +kernel
theorem dX1_sending_93 : decode cX1_sending 93 = .ok (.ireturn, 1) := by decide +kernel
theorem dX1_sending_94 : decode cX1_sending 94 = .ok (.iload_n 3, 1) := by decide +kernel
theorem dX1_sending_95 : decode cX1_sending 95 = .ok (.aload_n 0, 1) := by decide +kernel
theorem dX1_sending_96 : decode cX1_sending 96 = .ok (.iload_n 1, 1) := by decide +kernel
theorem dX1_sending_97 : decode cX1_sending 97 = .ok (.iconst 0, 1) := by decide +kernel
theorem dX1_sending_98 : decode cX1_sending 98 = .ok (.invokevirtual 38, 3) := by decide +kernel
theorem dX1_sending_101 : decode cX1_sending 101 = .ok (.isub, 1) := by decide +kernel
theorem dX1_sending_102 : decode cX1_sending 102 = .ok (.iconst 1, 1) := by decide +kernel
theorem dX1_sending_103 : decode cX1_sending 103 = .ok (.iadd, 1) := by decide +kernel
theorem dX1_sending_104 : decode cX1_sending 104 = .ok (.istore 6, 2) := by decide +kernel
theorem dX1_sending_106 : decode cX1_sending 106 = .ok (.iload 6, 2) := by decide +kernel
theorem dX1_sending_108 : decode cX1_sending 108 = .ok (.ifCond .le 67, 3) := by decide +kernel
theorem dX1_sending_111 : decode cX1_sending 111 = .ok (.iload 5, 2) := by decide +kernel
theorem dX1_sending_113 : decode cX1_sending 113 = .ok (.aload_n 0, 1) := by decide +kernel
theorem dX1_sending_114 : decode cX1_sending 114 = .ok (.iload_n 1, 1) := by decide +kernel
theorem dX1_sending_115 : decode cX1_sending 115 = .ok (.iconst 3, 1) := by decide +kernel
theorem dX1_sending_116 : decode cX1_sending 116 = .ok (.invokevirtual 38, 3) := by decide +kernel
theorem dX1_sending_119 : decode cX1_sending 119 = .ok (.iconst 1, 1) := by decide +kernel
theorem dX1_sending_120 : decode cX1_sending 120 = .ok (.if_icmp .ne 7, 3) := by decide +kernel
theorem dX1_sending_123 : decode cX1_sending 123 = .ok (.iconst 1, 1) := by decide +kernel
theorem dX1_sending_124 : decode cX1_sending 124 = .ok (.goto 4, 3) := by decide +kernel
theorem dX1_sending_127 : decode cX1_sending 127 = .ok (.iconst 4, 1) := by decide +kernel
theorem dX1_sending_128 : decode cX1_sending 128 = .ok (.if_icmp .ge 47, 3) := by decide +kernel
theorem dX1_sending_131 : decode cX1_sending 131 = .ok (.iload 6, 2) := by decide +kernel
theorem dX1_sending_133 : decode cX1_sending 133 = .ok (.bipush 6, 2) := by decide +kernel
theorem dX1_sending_135 : decode cX1_sending 135 = .ok (.if_icmp .le 8, 3) := by decide +kernel
theorem dX1_sending_138 : decode cX1_sending 138 = .ok (.bipush 6, 2) := by decide +kernel
theorem dX1_sending_140 : decode cX1_sending 140 = .ok (.goto 5, 3) := by decide +kernel
theorem dX1_sending_143 : decode cX1_sending 143 = .ok (.iload 6, 2) := by decide +kernel
theorem dX1_sending_145 : decode cX1_sending 145 = .ok (.istore 7, 2) := by decide +kernel
theorem dX1_sending_147 : decode cX1_sending 147 = .ok (.aload_n 0, 1) := by decide +kernel
theorem dX1_sending_148 : decode cX1_sending 148 = .ok (.iload_n 1, 1) := by decide +kernel
theorem dX1_sending_149 : decode cX1_sending 149 = .ok (.iconst 0, 1) := by decide +kernel
theorem dX1_sending_150 : decode cX1_sending 150 = .ok (.aload_n 0, 1) := by decide +kernel
theorem dX1_sending_151 : decode cX1_sending 151 = .ok (.iload_n 1, 1) := by decide +kernel
theorem dX1_sending_152 : decode cX1_sending 152 = .ok (.iconst 0, 1) := by decide +kernel
theorem dX1_sending_153 : decode cX1_sending 153 = .ok (.invokevirtual 38, 3) := by decide +kernel
theorem dX1_sending_156 : decode cX1_sending 156 = .ok (.iload 7, 2) := by decide +kernel
theorem dX1_sending_158 : decode cX1_sending 158 = .ok (.iadd, 1) := by decide +kernel
theorem dX1_sending_159 : decode cX1_sending 159 = .ok (.invokevirtual 58, 3) := by decide +kernel
theorem dX1_sending_162 : decode cX1_sending 162 = .ok (.aload_n 0, 1) := by decide +kernel
theorem dX1_sending_163 : decode cX1_sending 163 = .ok (.iload_n 1, 1) := by decide +kernel
theorem dX1_sending_164 : decode cX1_sending 164 = .ok (.iconst 2, 1) := by decide +kernel
theorem dX1_sending_165 : decode cX1_sending 165 = .ok (.iload 5, 2) := by decide +kernel
theorem dX1_sending_167 : decode cX1_sending 167 = .ok (.iconst 1, 1) := by decide +kernel
theorem dX1_sending_168 : decode cX1_sending 168 = .ok (.iadd, 1) := by decide +kernel
theorem dX1_sending_169 : decode cX1_sending 169 = .ok (.invokevirtual 58, 3) := by decide +kernel
theorem dX1_sending_172 : decode cX1_sending 172 = .ok (.iload 7, 2) := by decide +kernel
theorem dX1_sending_174 : decode cX1_sending 174 = .ok (.ireturn, 1) := by decide +kernel
theorem dX1_sending_175 : decode cX1_sending 175 = .ok (.iload 4, 2) := by decide +kernel
theorem dX1_sending_177 : decode cX1_sending 177 = .ok (.ifCond .eq 8, 3) := by decide +kernel
theorem dX1_sending_180 : decode cX1_sending 180 = .ok (.bipush 7, 2) := by decide +kernel
theorem dX1_sending_182 : decode cX1_sending 182 = .ok (.goto 4, 3) := by decide +kernel
theorem dX1_sending_185 : decode cX1_sending 185 = .ok (.iconst 0, 1) := by decide +kernel
theorem dX1_sending_186 : decode cX1_sending 186 = .ok (.ireturn, 1) := by decide +kernel
theorem dX1_bad_0 : decode cX1_bad 0 = .ok (.bipush 127, 2) := by decide +kernel
theorem dX1_bad_2 : decode cX1_bad 2 = .ok (.iload_n 1, 1) := by decide +kernel
theorem dX1_bad_3 : decode cX1_bad 3 = .ok (.invokestatic 34, 3) := by decide +kernel
theorem dX1_bad_6 : decode cX1_bad 6 = .ok (.ifCond .ne 11, 3) := by decide +kernel
theorem dX1_bad_9 : decode cX1_bad 9 = .ok (.aload_n 0, 1) := by decide +kernel
theorem dX1_bad_10 : decode cX1_bad 10 = .ok (.iconst 1, 1) := by decide +kernel
theorem dX1_bad_11 : decode cX1_bad 11 = .ok (.putfield 20, 3) := by decide +kernel
theorem dX1_bad_14 : decode cX1_bad 14 = .ok (.goto 38, 3) := by decide +kernel
theorem dX1_bad_17 : decode cX1_bad 17 = .ok (.iload_n 2, 1) := by decide +kernel
theorem dX1_bad_18 : decode cX1_bad 18 = .ok (.invokestatic 55, 3) := by decide +kernel
theorem dX1_bad_21 : decode cX1_bad 21 = .ok (.ifCond .eq 26, 3) := by decide +kernel
theorem dX1_bad_24 : decode cX1_bad 24 = .ok (.iload_n 3, 1) := by decide +kernel
theorem dX1_bad_25 : decode cX1_bad 25 = .ok (.invokestatic 55, 3) := by decide +kernel
theorem dX1_bad_28 : decode cX1_bad 28 = .ok (.ifCond .eq 19, 3) := by decide +kernel
theorem dX1_bad_31 : decode cX1_bad 31 = .ok (.iload 4, 2) := by decide +kernel
theorem dX1_bad_33 : decode cX1_bad 33 = .ok (.invokestatic 55, 3) := by decide +kernel
theorem dX1_bad_36 : decode cX1_bad 36 = .ok (.ifCond .eq 11, 3) := by decide +kernel
theorem dX1_bad_39 : decode cX1_bad 39 = .ok (.iload 5, 2) := by decide +kernel
theorem dX1_bad_41 : decode cX1_bad 41 = .ok (.invokestatic 55, 3) := by decide +kernel
theorem dX1_bad_44 : decode cX1_bad 44 = .ok (.ifCond .ne 8, 3) := by decide +kernel
theorem dX1_bad_47 : decode cX1_bad 47 = .ok (.aload_n 0, 1) := by decide +kernel
theorem dX1_bad_48 : decode cX1_bad 48 = .ok (.iconst 2, 1) := by decide +kernel
theorem dX1_bad_49 : decode cX1_bad 49 = .ok (.putfield 20, 3) := by decide +kernel
theorem dX1_bad_52 : decode cX1_bad 52 = .ok (.aload_n 0, 1) := by decide +kernel
theorem dX1_bad_53 : decode cX1_bad 53 = .ok (.getfield 20, 3) := by decide +kernel
theorem dX1_bad_56 : decode cX1_bad 56 = .ok (.ifCond .le 7, 3) := by decide +kernel
theorem dX1_bad_59 : decode cX1_bad 59 = .ok (.iconst 1, 1) := by decide +kernel
theorem dX1_bad_60 : decode cX1_bad 60 = .ok (.goto 4, 3) := by decide +kernel
theorem dX1_bad_63 : decode cX1_bad 63 = .ok (.iconst 0, 1) := by decide +kernel
theorem dX1_bad_64 : decode cX1_bad 64 = .ok (.ireturn, 1) := by decide +kernel
theorem dX1_greater_0 : decode cX1_greater 0 = .ok (.iload_n 0, 1) := by decide +kernel
theorem dX1_greater_1 : decode cX1_greater 1 = .ok (.iload_n 1, 1) := by decide +kernel
theorem dX1_greater_2 : decode cX1_greater 2 = .ok (.if_icmp .le 7, 3) := by decide +kernel
theorem dX1_greater_5 : decode cX1_greater 5 = .ok (.iload_n 0, 1) := by decide +kernel
theorem dX1_greater_6 : decode cX1_greater 6 = .ok (.goto 4, 3) := by decide +kernel
theorem dX1_greater_9 : decode cX1_greater 9 = .ok (.iload_n 1, 1) := by decide +kernel
theorem dX1_greater_10 : decode cX1_greater 10 = .ok (.ireturn, 1) := by decide +kernel
theorem dX1_answered_0 : decode cX1_answered 0 = .ok (.aload_n 0, 1) := by decide +kernel
theorem dX1_answered_1 : decode cX1_answered 1 = .ok (.iload_n 1, 1) := by decide +kernel
theorem dX1_answered_2 : decode cX1_answered 2 = .ok (.bipush 6, 2) := by decide +kernel
theorem dX1_answered_4 : decode cX1_answered 4 = .ok (.iload_n 3, 1) := by decide +kernel
theorem dX1_answered_5 : decode cX1_answered 5 = .ok (.invokevirtual 58, 3) := by decide +kernel
theorem dX1_answered_8 : decode cX1_answered 8 = .ok (.aload_n 0, 1) := by decide +kernel
theorem dX1_answered_9 : decode cX1_answered 9 = .ok (.iload_n 1, 1) := by decide +kernel
theorem dX1_answered_10 : decode cX1_answered 10 = .ok (.bipush 7, 2) := by decide +kernel
theorem dX1_answered_12 : decode cX1_answered 12 = .ok (.iconst 1, 1) := by decide +kernel
theorem dX1_answered_13 : decode cX1_answered 13 = .ok (.invokevirtual 58, 3) := by decide +kernel
theorem dX1_answered_16 : decode cX1_answered 16 = .ok (.aload_n 0, 1) := by decide +kernel
theorem dX1_answered_17 : decode cX1_answered 17 = .ok (.iload_n 1, 1) := by decide +kernel
theorem dX1_answered_18 : decode cX1_answered 18 = .ok (.iconst 5, 1) := by decide +kernel
theorem dX1_answered_19 : decode cX1_answered 19 = .ok (.aload_n 0, 1) := by decide +kernel
theorem dX1_answered_20 : decode cX1_answered 20 = .ok (.iload_n 1, 1) := by decide +kernel
theorem dX1_answered_21 : decode cX1_answered 21 = .ok (.iconst 5, 1) := by decide +kernel
theorem dX1_answered_22 : decode cX1_answered 22 = .ok (.invokevirtual 38, 3) := by decide +kernel
theorem dX1_answered_25 : decode cX1_answered 25 = .ok (.iload_n 2, 1) := by decide +kernel
theorem dX1_answered_26 : decode cX1_answered 26 = .ok (.invokestatic 69, 3) := by decide +kernel
theorem dX1_answered_29 : decode cX1_answered 29 = .ok (.invokevirtual 58, 3) := by decide +kernel
theorem dX1_answered_32 : decode cX1_answered 32 = .ok (.return_, 1) := by decide +kernel
theorem dX1_matched_0 : decode cX1_matched 0 = .ok (.aload_n 0, 1) := by decide +kernel
theorem dX1_matched_1 : decode cX1_matched 1 = .ok (.iconst 0, 1) := by decide +kernel
theorem dX1_matched_2 : decode cX1_matched 2 = .ok (.putfield 20, 3) := by decide +kernel
theorem dX1_matched_5 : decode cX1_matched 5 = .ok (.aload_n 0, 1) := by decide +kernel
theorem dX1_matched_6 : decode cX1_matched 6 = .ok (.iload_n 1, 1) := by decide +kernel
theorem dX1_matched_7 : decode cX1_matched 7 = .ok (.iload_n 2, 1) := by decide +kernel
theorem dX1_matched_8 : decode cX1_matched 8 = .ok (.iload_n 3, 1) := by decide +kernel
theorem dX1_matched_9 : decode cX1_matched 9 = .ok (.iload 4, 2) := by decide +kernel
theorem dX1_matched_11 : decode cX1_matched 11 = .ok (.iconst 0, 1) := by decide +kernel
theorem dX1_matched_12 : decode cX1_matched 12 = .ok (.invokevirtual 72, 3) := by decide +kernel
theorem dX1_matched_15 : decode cX1_matched 15 = .ok (.ifCond .eq 5, 3) := by decide +kernel
theorem dX1_matched_18 : decode cX1_matched 18 = .ok (.iconst 0, 1) := by decide +kernel
theorem dX1_matched_19 : decode cX1_matched 19 = .ok (.ireturn, 1) := by decide +kernel
theorem dX1_matched_20 : decode cX1_matched 20 = .ok (.aload_n 0, 1) := by decide +kernel
theorem dX1_matched_21 : decode cX1_matched 21 = .ok (.iload_n 1, 1) := by decide +kernel
theorem dX1_matched_22 : decode cX1_matched 22 = .ok (.iload_n 3, 1) := by decide +kernel
theorem dX1_matched_23 : decode cX1_matched 23 = .ok (.iload 4, 2) := by decide +kernel
theorem dX1_matched_25 : decode cX1_matched 25 = .ok (.invokevirtual 76, 3) := by decide +kernel
theorem dX1_matched_28 : decode cX1_matched 28 = .ok (.aload_n 0, 1) := by decide +kernel
theorem dX1_matched_29 : decode cX1_matched 29 = .ok (.iload_n 1, 1) := by decide +kernel
theorem dX1_matched_30 : decode cX1_matched 30 = .ok (.iconst 1, 1) := by decide +kernel
theorem dX1_matched_31 : decode cX1_matched 31 = .ok (.aload_n 0, 1) := by decide +kernel
theorem dX1_matched_32 : decode cX1_matched 32 = .ok (.iload_n 1, 1) := by decide +kernel
theorem dX1_matched_33 : decode cX1_matched 33 = .ok (.iconst 1, 1) := by decide +kernel
theorem dX1_matched_34 : decode cX1_matched 34 = .ok (.invokevirtual 38, 3) := by decide +kernel
theorem dX1_matched_37 : decode cX1_matched 37 = .ok (.iload_n 2, 1) := by decide +kernel
theorem dX1_matched_38 : decode cX1_matched 38 = .ok (.invokestatic 69, 3) := by decide +kernel
theorem dX1_matched_41 : decode cX1_matched 41 = .ok (.invokevirtual 58, 3) := by decide +kernel
theorem dX1_matched_44 : decode cX1_matched 44 = .ok (.aload_n 0, 1) := by decide +kernel
theorem dX1_matched_45 : decode cX1_matched 45 = .ok (.iload_n 1, 1) := by decide +kernel
theorem dX1_matched_46 : decode cX1_matched 46 = .ok (.iconst 3, 1) := by decide +kernel
theorem dX1_matched_47 : decode cX1_matched 47 = .ok (.iconst 0, 1) := by decide +kernel
theorem dX1_matched_48 : decode cX1_matched 48 = .ok (.invokevirtual 58, 3) := by decide +kernel
theorem dX1_matched_51 : decode cX1_matched 51 = .ok (.aload_n 0, 1) := by decide +kernel
theorem dX1_matched_52 : decode cX1_matched 52 = .ok (.iload_n 1, 1) := by decide +kernel
theorem dX1_matched_53 : decode cX1_matched 53 = .ok (.iconst 2, 1) := by decide +kernel
theorem dX1_matched_54 : decode cX1_matched 54 = .ok (.aload_n 0, 1) := by decide +kernel
theorem dX1_matched_55 : decode cX1_matched 55 = .ok (.iload_n 1, 1) := by decide +kernel
theorem dX1_matched_56 : decode cX1_matched 56 = .ok (.iconst 2, 1) := by decide +kernel
theorem dX1_matched_57 : decode cX1_matched 57 = .ok (.invokevirtual 38, 3) := by decide +kernel
theorem dX1_matched_60 : decode cX1_matched 60 = .ok (.ifCond .ne 7, 3) := by decide +kernel
theorem dX1_matched_63 : decode cX1_matched 63 = .ok (.iconst 0, 1) := by decide +kernel
theorem dX1_matched_64 : decode cX1_matched 64 = .ok (.goto 11, 3) := by decide +kernel
theorem dX1_matched_67 : decode cX1_matched 67 = .ok (.aload_n 0, 1) := by decide +kernel
theorem dX1_matched_68 : decode cX1_matched 68 = .ok (.iload_n 1, 1) := by decide +kernel
theorem dX1_matched_69 : decode cX1_matched 69 = .ok (.iconst 2, 1) := by decide +kernel
theorem dX1_matched_70 : decode cX1_matched 70 = .ok (.invokevirtual 38, 3) := by decide +kernel
theorem dX1_matched_73 : decode cX1_matched 73 = .ok (.iconst 1, 1) := by decide +kernel
theorem dX1_matched_74 : decode cX1_matched 74 = .ok (.isub, 1) := by decide +kernel
theorem dX1_matched_75 : decode cX1_matched 75 = .ok (.invokevirtual 58, 3) := by decide +kernel
theorem dX1_matched_78 : decode cX1_matched 78 = .ok (.aload_n 0, 1) := by decide +kernel
theorem dX1_matched_79 : decode cX1_matched 79 = .ok (.iload_n 1, 1) := by decide +kernel
theorem dX1_matched_80 : decode cX1_matched 80 = .ok (.iconst 0, 1) := by decide +kernel
theorem dX1_matched_81 : decode cX1_matched 81 = .ok (.aload_n 0, 1) := by decide +kernel
theorem dX1_matched_82 : decode cX1_matched 82 = .ok (.iload_n 1, 1) := by decide +kernel
theorem dX1_matched_83 : decode cX1_matched 83 = .ok (.iconst 0, 1) := by decide +kernel
theorem dX1_matched_84 : decode cX1_matched 84 = .ok (.invokevirtual 38, 3) := by decide +kernel
theorem dX1_matched_87 : decode cX1_matched 87 = .ok (.iload_n 2, 1) := by decide +kernel
theorem dX1_matched_88 : decode cX1_matched 88 = .ok (.iconst 1, 1) := by decide +kernel
theorem dX1_matched_89 : decode cX1_matched 89 = .ok (.iadd, 1) := by decide +kernel
theorem dX1_matched_90 : decode cX1_matched 90 = .ok (.invokestatic 69, 3) := by decide +kernel
theorem dX1_matched_93 : decode cX1_matched 93 = .ok (.invokevirtual 58, 3) := by decide +kernel
theorem dX1_matched_96 : decode cX1_matched 96 = .ok (.aload_n 0, 1) := by decide +kernel
theorem dX1_matched_97 : decode cX1_matched 97 = .ok (.iload_n 1, 1) := by decide +kernel
theorem dX1_matched_98 : decode cX1_matched 98 = .ok (.iconst 1, 1) := by decide +kernel
theorem dX1_matched_99 : decode cX1_matched 99 = .ok (.invokevirtual 38, 3) := by decide +kernel
theorem dX1_matched_102 : decode cX1_matched 102 = .ok (.ireturn, 1) := by decide +kernel
theorem dX1_refused_0 : decode cX1_refused 0 = .ok (.aload_n 0, 1) := by decide +kernel
theorem dX1_refused_1 : decode cX1_refused 1 = .ok (.iconst 0, 1) := by decide +kernel
theorem dX1_refused_2 : decode cX1_refused 2 = .ok (.putfield 20, 3) := by decide +kernel
theorem dX1_refused_5 : decode cX1_refused 5 = .ok (.aload_n 0, 1) := by decide +kernel
theorem dX1_refused_6 : decode cX1_refused 6 = .ok (.iload_n 1, 1) := by decide +kernel
theorem dX1_refused_7 : decode cX1_refused 7 = .ok (.iload_n 2, 1) := by decide +kernel
theorem dX1_refused_8 : decode cX1_refused 8 = .ok (.iload_n 3, 1) := by decide +kernel
theorem dX1_refused_9 : decode cX1_refused 9 = .ok (.iload 4, 2) := by decide +kernel
theorem dX1_refused_11 : decode cX1_refused 11 = .ok (.iload 5, 2) := by decide +kernel
theorem dX1_refused_13 : decode cX1_refused 13 = .ok (.invokevirtual 72, 3) := by decide +kernel
theorem dX1_refused_16 : decode cX1_refused 16 = .ok (.ifCond .eq 5, 3) := by decide +kernel
theorem dX1_refused_19 : decode cX1_refused 19 = .ok (.iconst 0, 1) := by decide +kernel
theorem dX1_refused_20 : decode cX1_refused 20 = .ok (.ireturn, 1) := by decide +kernel
theorem dX1_refused_21 : decode cX1_refused 21 = .ok (.aload_n 0, 1) := by decide +kernel
theorem dX1_refused_22 : decode cX1_refused 22 = .ok (.iload_n 1, 1) := by decide +kernel
theorem dX1_refused_23 : decode cX1_refused 23 = .ok (.iload 4, 2) := by decide +kernel
theorem dX1_refused_25 : decode cX1_refused 25 = .ok (.iload 5, 2) := by decide +kernel
theorem dX1_refused_27 : decode cX1_refused 27 = .ok (.invokevirtual 76, 3) := by decide +kernel
theorem dX1_refused_30 : decode cX1_refused 30 = .ok (.aload_n 0, 1) := by decide +kernel
theorem dX1_refused_31 : decode cX1_refused 31 = .ok (.iload_n 1, 1) := by decide +kernel
theorem dX1_refused_32 : decode cX1_refused 32 = .ok (.iconst 2, 1) := by decide +kernel
theorem dX1_refused_33 : decode cX1_refused 33 = .ok (.iconst 0, 1) := by decide +kernel
theorem dX1_refused_34 : decode cX1_refused 34 = .ok (.invokevirtual 58, 3) := by decide +kernel
theorem dX1_refused_37 : decode cX1_refused 37 = .ok (.aload_n 0, 1) := by decide +kernel
theorem dX1_refused_38 : decode cX1_refused 38 = .ok (.iload_n 1, 1) := by decide +kernel
theorem dX1_refused_39 : decode cX1_refused 39 = .ok (.iconst 3, 1) := by decide +kernel
theorem dX1_refused_40 : decode cX1_refused 40 = .ok (.iconst 1, 1) := by decide +kernel
theorem dX1_refused_41 : decode cX1_refused 41 = .ok (.invokevirtual 58, 3) := by decide +kernel
theorem dX1_refused_44 : decode cX1_refused 44 = .ok (.iload_n 2, 1) := by decide +kernel
theorem dX1_refused_45 : decode cX1_refused 45 = .ok (.aload_n 0, 1) := by decide +kernel
theorem dX1_refused_46 : decode cX1_refused 46 = .ok (.iload_n 1, 1) := by decide +kernel
theorem dX1_refused_47 : decode cX1_refused 47 = .ok (.iconst 1, 1) := by decide +kernel
theorem dX1_refused_48 : decode cX1_refused 48 = .ok (.invokevirtual 38, 3) := by decide +kernel
theorem dX1_refused_51 : decode cX1_refused 51 = .ok (.iconst 1, 1) := by decide +kernel
theorem dX1_refused_52 : decode cX1_refused 52 = .ok (.iadd, 1) := by decide +kernel
theorem dX1_refused_53 : decode cX1_refused 53 = .ok (.invokestatic 69, 3) := by decide +kernel
theorem dX1_refused_56 : decode cX1_refused 56 = .ok (.istore 6, 2) := by decide +kernel
theorem dX1_refused_58 : decode cX1_refused 58 = .ok (.aload_n 0, 1) := by decide +kernel
theorem dX1_refused_59 : decode cX1_refused 59 = .ok (.iload_n 1, 1) := by decide +kernel
theorem dX1_refused_60 : decode cX1_refused 60 = .ok (.iconst 0, 1) := by decide +kernel
theorem dX1_refused_61 : decode cX1_refused 61 = .ok (.iload 6, 2) := by decide +kernel
theorem dX1_refused_63 : decode cX1_refused 63 = .ok (.iload_n 3, 1) := by decide +kernel
theorem dX1_refused_64 : decode cX1_refused 64 = .ok (.iconst 1, 1) := by decide +kernel
theorem dX1_refused_65 : decode cX1_refused 65 = .ok (.iadd, 1) := by decide +kernel
theorem dX1_refused_66 : decode cX1_refused 66 = .ok (.if_icmp .le 9, 3) := by decide +kernel
theorem dX1_refused_69 : decode cX1_refused 69 = .ok (.iload_n 3, 1) := by decide +kernel
theorem dX1_refused_70 : decode cX1_refused 70 = .ok (.iconst 1, 1) := by decide +kernel
theorem dX1_refused_71 : decode cX1_refused 71 = .ok (.iadd, 1) := by decide +kernel
theorem dX1_refused_72 : decode cX1_refused 72 = .ok (.goto 5, 3) := by decide +kernel
theorem dX1_refused_75 : decode cX1_refused 75 = .ok (.iload 6, 2) := by decide +kernel
theorem dX1_refused_77 : decode cX1_refused 77 = .ok (.invokevirtual 58, 3) := by decide +kernel
theorem dX1_refused_80 : decode cX1_refused 80 = .ok (.aload_n 0, 1) := by decide +kernel
theorem dX1_refused_81 : decode cX1_refused 81 = .ok (.iload_n 1, 1) := by decide +kernel
theorem dX1_refused_82 : decode cX1_refused 82 = .ok (.iconst 0, 1) := by decide +kernel
theorem dX1_refused_83 : decode cX1_refused 83 = .ok (.invokevirtual 38, 3) := by decide +kernel
theorem dX1_refused_86 : decode cX1_refused 86 = .ok (.ireturn, 1) := by decide +kernel
theorem dX1_stored_0 : decode cX1_stored 0 = .ok (.aload_n 0, 1) := by decide +kernel
end
section
theorem dX1_stored_1 : decode cX1_stored 1 = .ok (.iconst 0, 1) := by decide +kernel
theorem dX1_stored_2 : decode cX1_stored 2 = .ok (.putfield 20, 3) := by decide +kernel
theorem dX1_stored_5 : decode cX1_stored 5 = .ok (.aload_n 0, 1) := by decide +kernel
theorem dX1_stored_6 : decode cX1_stored 6 = .ok (.iload_n 1, 1) := by decide +kernel
theorem dX1_stored_7 : decode cX1_stored 7 = .ok (.iload_n 2, 1) := by decide +kernel
theorem dX1_stored_8 : decode cX1_stored 8 = .ok (.iload_n 3, 1) := by decide +kernel
theorem dX1_stored_9 : decode cX1_stored 9 = .ok (.iload 4, 2) := by decide +kernel
theorem dX1_stored_11 : decode cX1_stored 11 = .ok (.iload 5, 2) := by decide +kernel
theorem dX1_stored_13 : decode cX1_stored 13 = .ok (.invokevirtual 72, 3) := by decide +kernel
theorem dX1_stored_16 : decode cX1_stored 16 = .ok (.ifCond .ne 16, 3) := by decide +kernel
theorem dX1_stored_19 : decode cX1_stored 19 = .ok (.aload_n 0, 1) := by decide +kernel
theorem dX1_stored_20 : decode cX1_stored 20 = .ok (.iload_n 1, 1) := by decide +kernel
theorem dX1_stored_21 : decode cX1_stored 21 = .ok (.iload 6, 2) := by decide +kernel
theorem dX1_stored_23 : decode cX1_stored 23 = .ok (.iconst 0, 1) := by decide +kernel
theorem dX1_stored_24 : decode cX1_stored 24 = .ok (.iconst 0, 1) := by decide +kernel
theorem dX1_stored_25 : decode cX1_stored 25 = .ok (.iconst 0, 1) := by decide +kernel
theorem dX1_stored_26 : decode cX1_stored 26 = .ok (.invokevirtual 72, 3) := by decide +kernel
theorem dX1_stored_29 : decode cX1_stored 29 = .ok (.ifCond .eq 5, 3) := by decide +kernel
theorem dX1_stored_32 : decode cX1_stored 32 = .ok (.iconst 0, 1) := by decide +kernel
theorem dX1_stored_33 : decode cX1_stored 33 = .ok (.ireturn, 1) := by decide +kernel
theorem dX1_stored_34 : decode cX1_stored 34 = .ok (.aload_n 0, 1) := by decide +kernel
theorem dX1_stored_35 : decode cX1_stored 35 = .ok (.iload_n 1, 1) := by decide +kernel
theorem dX1_stored_36 : decode cX1_stored 36 = .ok (.iload 5, 2) := by decide +kernel
theorem dX1_stored_38 : decode cX1_stored 38 = .ok (.iload 6, 2) := by decide +kernel
theorem dX1_stored_40 : decode cX1_stored 40 = .ok (.invokevirtual 76, 3) := by decide +kernel
theorem dX1_stored_43 : decode cX1_stored 43 = .ok (.aload_n 0, 1) := by decide +kernel
theorem dX1_stored_44 : decode cX1_stored 44 = .ok (.iload_n 1, 1) := by decide +kernel
theorem dX1_stored_45 : decode cX1_stored 45 = .ok (.iconst 2, 1) := by decide +kernel
theorem dX1_stored_46 : decode cX1_stored 46 = .ok (.iconst 0, 1) := by decide +kernel
theorem dX1_stored_47 : decode cX1_stored 47 = .ok (.invokevirtual 58, 3) := by decide +kernel
theorem dX1_stored_50 : decode cX1_stored 50 = .ok (.iload_n 2, 1) := by decide +kernel
theorem dX1_stored_51 : decode cX1_stored 51 = .ok (.iload_n 3, 1) := by decide +kernel
theorem dX1_stored_52 : decode cX1_stored 52 = .ok (.if_icmp .ge 12, 3) := by decide +kernel
theorem dX1_stored_55 : decode cX1_stored 55 = .ok (.aload_n 0, 1) := by decide +kernel
theorem dX1_stored_56 : decode cX1_stored 56 = .ok (.iload_n 1, 1) := by decide +kernel
theorem dX1_stored_57 : decode cX1_stored 57 = .ok (.iconst 4, 1) := by decide +kernel
theorem dX1_stored_58 : decode cX1_stored 58 = .ok (.iload_n 2, 1) := by decide +kernel
theorem dX1_stored_59 : decode cX1_stored 59 = .ok (.invokevirtual 58, 3) := by decide +kernel
theorem dX1_stored_62 : decode cX1_stored 62 = .ok (.iconst 0, 1) := by decide +kernel
theorem dX1_stored_63 : decode cX1_stored 63 = .ok (.ireturn, 1) := by decide +kernel
theorem dX1_stored_64 : decode cX1_stored 64 = .ok (.aload_n 0, 1) := by decide +kernel
theorem dX1_stored_65 : decode cX1_stored 65 = .ok (.iload_n 1, 1) := by decide +kernel
theorem dX1_stored_66 : decode cX1_stored 66 = .ok (.iconst 1, 1) := by decide +kernel
theorem dX1_stored_67 : decode cX1_stored 67 = .ok (.aload_n 0, 1) := by decide +kernel
theorem dX1_stored_68 : decode cX1_stored 68 = .ok (.iload_n 1, 1) := by decide +kernel
theorem dX1_stored_69 : decode cX1_stored 69 = .ok (.iconst 1, 1) := by decide +kernel
theorem dX1_stored_70 : decode cX1_stored 70 = .ok (.invokevirtual 38, 3) := by decide +kernel
theorem dX1_stored_73 : decode cX1_stored 73 = .ok (.iload 4, 2) := by decide +kernel
theorem dX1_stored_75 : decode cX1_stored 75 = .ok (.invokestatic 69, 3) := by decide +kernel
theorem dX1_stored_78 : decode cX1_stored 78 = .ok (.invokevirtual 58, 3) := by decide +kernel
theorem dX1_stored_81 : decode cX1_stored 81 = .ok (.aload_n 0, 1) := by decide +kernel
theorem dX1_stored_82 : decode cX1_stored 82 = .ok (.iload_n 1, 1) := by decide +kernel
theorem dX1_stored_83 : decode cX1_stored 83 = .ok (.iconst 0, 1) := by decide +kernel
theorem dX1_stored_84 : decode cX1_stored 84 = .ok (.iload 4, 2) := by decide +kernel
theorem dX1_stored_86 : decode cX1_stored 86 = .ok (.iconst 1, 1) := by decide +kernel
theorem dX1_stored_87 : decode cX1_stored 87 = .ok (.iadd, 1) := by decide +kernel
theorem dX1_stored_88 : decode cX1_stored 88 = .ok (.invokevirtual 58, 3) := by decide +kernel
theorem dX1_stored_91 : decode cX1_stored 91 = .ok (.aload_n 0, 1) := by decide +kernel
theorem dX1_stored_92 : decode cX1_stored 92 = .ok (.iload_n 1, 1) := by decide +kernel
theorem dX1_stored_93 : decode cX1_stored 93 = .ok (.iconst 3, 1) := by decide +kernel
theorem dX1_stored_94 : decode cX1_stored 94 = .ok (.iconst 1, 1) := by decide +kernel
theorem dX1_stored_95 : decode cX1_stored 95 = .ok (.invokevirtual 58, 3) := by decide +kernel
theorem dX1_stored_98 : decode cX1_stored 98 = .ok (.aload_n 0, 1) := by decide +kernel
theorem dX1_stored_99 : decode cX1_stored 99 = .ok (.iload_n 1, 1) := by decide +kernel
theorem dX1_stored_100 : decode cX1_stored 100 = .ok (.iconst 4, 1) := by decide +kernel
theorem dX1_stored_101 : decode cX1_stored 101 = .ok (.iconst 0, 1) := by decide +kernel
theorem dX1_stored_102 : decode cX1_stored 102 = .ok (.invokevirtual 58, 3) := by decide +kernel
theorem dX1_stored_105 : decode cX1_stored 105 = .ok (.iconst 1, 1) := by decide +kernel
theorem dX1_stored_106 : decode cX1_stored 106 = .ok (.ireturn, 1) := by decide +kernel
theorem dX1_own_0 : decode cX1_own 0 = .ok (.aload_n 0, 1) := by decide +kernel
theorem dX1_own_1 : decode cX1_own 1 = .ok (.iconst 0, 1) := by decide +kernel
theorem dX1_own_2 : decode cX1_own 2 = .ok (.putfield 20, 3) := by decide +kernel
theorem dX1_own_5 : decode cX1_own 5 = .ok (.iload_n 1, 1) := by decide +kernel
theorem dX1_own_6 : decode cX1_own 6 = .ok (.invokestatic 55, 3) := by decide +kernel
theorem dX1_own_9 : decode cX1_own 9 = .ok (.ifCond .eq 10, 3) := by decide +kernel
theorem dX1_own_12 : decode cX1_own 12 = .ok (.iload_n 2, 1) := by decide +kernel
theorem dX1_own_13 : decode cX1_own 13 = .ok (.invokestatic 55, 3) := by decide +kernel
theorem dX1_own_16 : decode cX1_own 16 = .ok (.ifCond .ne 9, 3) := by decide +kernel
theorem dX1_own_19 : decode cX1_own 19 = .ok (.aload_n 0, 1) := by decide +kernel
theorem dX1_own_20 : decode cX1_own 20 = .ok (.iconst 1, 1) := by decide +kernel
theorem dX1_own_21 : decode cX1_own 21 = .ok (.putfield 20, 3) := by decide +kernel
theorem dX1_own_24 : decode cX1_own 24 = .ok (.return_, 1) := by decide +kernel
theorem dX1_own_25 : decode cX1_own 25 = .ok (.aload_n 0, 1) := by decide +kernel
theorem dX1_own_26 : decode cX1_own 26 = .ok (.aload_n 0, 1) := by decide +kernel
theorem dX1_own_27 : decode cX1_own 27 = .ok (.getfield 13, 3) := by decide +kernel
theorem dX1_own_30 : decode cX1_own 30 = .ok (.iconst 1, 1) := by decide +kernel
theorem dX1_own_31 : decode cX1_own 31 = .ok (.iload_n 1, 1) := by decide +kernel
theorem dX1_own_32 : decode cX1_own 32 = .ok (.invokevirtual 58, 3) := by decide +kernel
theorem dX1_own_35 : decode cX1_own 35 = .ok (.aload_n 0, 1) := by decide +kernel
theorem dX1_own_36 : decode cX1_own 36 = .ok (.aload_n 0, 1) := by decide +kernel
theorem dX1_own_37 : decode cX1_own 37 = .ok (.getfield 13, 3) := by decide +kernel
theorem dX1_own_40 : decode cX1_own 40 = .ok (.bipush 6, 2) := by decide +kernel
theorem dX1_own_42 : decode cX1_own 42 = .ok (.iload_n 2, 1) := by decide +kernel
theorem dX1_own_43 : decode cX1_own 43 = .ok (.invokevirtual 58, 3) := by decide +kernel
theorem dX1_own_46 : decode cX1_own 46 = .ok (.aload_n 0, 1) := by decide +kernel
theorem dX1_own_47 : decode cX1_own 47 = .ok (.aload_n 0, 1) := by decide +kernel
theorem dX1_own_48 : decode cX1_own 48 = .ok (.getfield 13, 3) := by decide +kernel
theorem dX1_own_51 : decode cX1_own 51 = .ok (.iconst 5, 1) := by decide +kernel
theorem dX1_own_52 : decode cX1_own 52 = .ok (.aload_n 0, 1) := by decide +kernel
theorem dX1_own_53 : decode cX1_own 53 = .ok (.getfield 62, 3) := by decide +kernel
theorem dX1_own_56 : decode cX1_own 56 = .ok (.invokevirtual 58, 3) := by decide +kernel
theorem dX1_own_59 : decode cX1_own 59 = .ok (.return_, 1) := by decide +kernel
theorem dX1_agreed_0 : decode cX1_agreed 0 = .ok (.aload_n 0, 1) := by decide +kernel
theorem dX1_agreed_1 : decode cX1_agreed 1 = .ok (.iconst 0, 1) := by decide +kernel
theorem dX1_agreed_2 : decode cX1_agreed 2 = .ok (.putfield 20, 3) := by decide +kernel
theorem dX1_agreed_5 : decode cX1_agreed 5 = .ok (.iload_n 1, 1) := by decide +kernel
theorem dX1_agreed_6 : decode cX1_agreed 6 = .ok (.ifCond .lt 8, 3) := by decide +kernel
theorem dX1_agreed_9 : decode cX1_agreed 9 = .ok (.iload_n 1, 1) := by decide +kernel
theorem dX1_agreed_10 : decode cX1_agreed 10 = .ok (.iconst 2, 1) := by decide +kernel
theorem dX1_agreed_11 : decode cX1_agreed 11 = .ok (.if_icmp .le 9, 3) := by decide +kernel
theorem dX1_agreed_14 : decode cX1_agreed 14 = .ok (.aload_n 0, 1) := by decide +kernel
theorem dX1_agreed_15 : decode cX1_agreed 15 = .ok (.iconst 1, 1) := by decide +kernel
theorem dX1_agreed_16 : decode cX1_agreed 16 = .ok (.invokevirtual 42, 3) := by decide +kernel
theorem dX1_agreed_19 : decode cX1_agreed 19 = .ok (.ireturn, 1) := by decide +kernel
theorem dX1_agreed_20 : decode cX1_agreed 20 = .ok (.iload_n 1, 1) := by decide +kernel
theorem dX1_agreed_21 : decode cX1_agreed 21 = .ok (.ifCond .ne 7, 3) := by decide +kernel
theorem dX1_agreed_24 : decode cX1_agreed 24 = .ok (.iconst 1, 1) := by decide +kernel
theorem dX1_agreed_25 : decode cX1_agreed 25 = .ok (.goto 14, 3) := by decide +kernel
theorem dX1_agreed_28 : decode cX1_agreed 28 = .ok (.iload_n 1, 1) := by decide +kernel
theorem dX1_agreed_29 : decode cX1_agreed 29 = .ok (.iconst 1, 1) := by decide +kernel
theorem dX1_agreed_30 : decode cX1_agreed 30 = .ok (.if_icmp .ne 7, 3) := by decide +kernel
theorem dX1_agreed_33 : decode cX1_agreed 33 = .ok (.iconst 5, 1) := by decide +kernel
theorem dX1_agreed_34 : decode cX1_agreed 34 = .ok (.goto 5, 3) := by decide +kernel
theorem dX1_agreed_37 : decode cX1_agreed 37 = .ok (.bipush 6, 2) := by decide +kernel
theorem dX1_agreed_39 : decode cX1_agreed 39 = .ok (.istore_n 2, 1) := by decide +kernel
theorem dX1_agreed_40 : decode cX1_agreed 40 = .ok (.iconst 0, 1) := by decide +kernel
theorem dX1_agreed_41 : decode cX1_agreed 41 = .ok (.istore_n 3, 1) := by decide +kernel
theorem dX1_agreed_42 : decode cX1_agreed 42 = .ok (.iconst 1, 1) := by decide +kernel
theorem dX1_agreed_43 : decode cX1_agreed 43 = .ok (.istore 4, 2) := by decide +kernel
theorem dX1_agreed_45 : decode cX1_agreed 45 = .ok (.iload 4, 2) := by decide +kernel
theorem dX1_agreed_47 : decode cX1_agreed 47 = .ok (.sipush 128, 3) := by decide +kernel
theorem dX1_agreed_50 : decode cX1_agreed 50 = .ok (.if_icmp .ge 78, 3) := by decide +kernel
theorem dX1_agreed_53 : decode cX1_agreed 53 = .ok (.ldc 79, 2) := by decide +kernel
theorem dX1_agreed_55 : decode cX1_agreed 55 = .ok (.istore 5, 2) := by decide +kernel
theorem dX1_agreed_57 : decode cX1_agreed 57 = .ok (.iconst 0, 1) := by decide +kernel
theorem dX1_agreed_58 : decode cX1_agreed 58 = .ok (.istore 6, 2) := by decide +kernel
theorem dX1_agreed_60 : decode cX1_agreed 60 = .ok (.iload 6, 2) := by decide +kernel
theorem dX1_agreed_62 : decode cX1_agreed 62 = .ok (.bipush 7, 2) := by decide +kernel
theorem dX1_agreed_64 : decode cX1_agreed 64 = .ok (.if_icmp .ge 40, 3) := by decide +kernel
theorem dX1_agreed_67 : decode cX1_agreed 67 = .ok (.iload 4, 2) := by decide +kernel
theorem dX1_agreed_69 : decode cX1_agreed 69 = .ok (.iload 6, 2) := by decide +kernel
theorem dX1_agreed_71 : decode cX1_agreed 71 = .ok (.invokestatic 34, 3) := by decide +kernel
theorem dX1_agreed_74 : decode cX1_agreed 74 = .ok (.ifCond .eq 24, 3) := by decide +kernel
theorem dX1_agreed_77 : decode cX1_agreed 77 = .ok (.aload_n 0, 1) := by decide +kernel
theorem dX1_agreed_78 : decode cX1_agreed 78 = .ok (.iload 6, 2) := by decide +kernel
theorem dX1_agreed_80 : decode cX1_agreed 80 = .ok (.iload_n 2, 1) := by decide +kernel
theorem dX1_agreed_81 : decode cX1_agreed 81 = .ok (.invokevirtual 38, 3) := by decide +kernel
theorem dX1_agreed_84 : decode cX1_agreed 84 = .ok (.iload 5, 2) := by decide +kernel
theorem dX1_agreed_86 : decode cX1_agreed 86 = .ok (.if_icmp .ge 12, 3) := by decide +kernel
theorem dX1_agreed_89 : decode cX1_agreed 89 = .ok (.aload_n 0, 1) := by decide +kernel
theorem dX1_agreed_90 : decode cX1_agreed 90 = .ok (.iload 6, 2) := by decide +kernel
theorem dX1_agreed_92 : decode cX1_agreed 92 = .ok (.iload_n 2, 1) := by decide +kernel
theorem dX1_agreed_93 : decode cX1_agreed 93 = .ok (.invokevirtual 38, 3) := by decide +kernel
theorem dX1_agreed_96 : decode cX1_agreed 96 = .ok (.istore 5, 2) := by decide +kernel
theorem dX1_agreed_98 : decode cX1_agreed 98 = .ok (.iinc 6 1, 3) := by decide +kernel
theorem dX1_agreed_101 : decode cX1_agreed 101 = .ok (.goto (-41), 3) := by decide +kernel
theorem dX1_agreed_104 : decode cX1_agreed 104 = .ok (.aload_n 0, 1) := by decide +kernel
theorem dX1_agreed_105 : decode cX1_agreed 105 = .ok (.iload 4, 2) := by decide +kernel
theorem dX1_agreed_107 : decode cX1_agreed 107 = .ok (.invokevirtual 49, 3) := by decide +kernel
theorem dX1_agreed_110 : decode cX1_agreed 110 = .ok (.ifCond .eq 12, 3) := by decide +kernel
theorem dX1_agreed_113 : decode cX1_agreed 113 = .ok (.iload 5, 2) := by decide +kernel
theorem dX1_agreed_115 : decode cX1_agreed 115 = .ok (.iload_n 3, 1) := by decide +kernel
theorem dX1_agreed_116 : decode cX1_agreed 116 = .ok (.if_icmp .le 6, 3) := by decide +kernel
theorem dX1_agreed_119 : decode cX1_agreed 119 = .ok (.iload 5, 2) := by decide +kernel
theorem dX1_agreed_121 : decode cX1_agreed 121 = .ok (.istore_n 3, 1) := by decide +kernel
theorem dX1_agreed_122 : decode cX1_agreed 122 = .ok (.iinc 4 1, 3) := by decide +kernel
theorem dX1_agreed_125 : decode cX1_agreed 125 = .ok (.goto (-80), 3) := by decide +kernel
theorem dX1_agreed_128 : decode cX1_agreed 128 = .ok (.iload_n 3, 1) := by decide +kernel
theorem dX1_agreed_129 : decode cX1_agreed 129 = .ok (.ireturn, 1) := by decide +kernel
theorem dX1_server_0 : decode cX1_server 0 = .ok (.aload_n 0, 1) := by decide +kernel
theorem dX1_server_1 : decode cX1_server 1 = .ok (.iconst 0, 1) := by decide +kernel
theorem dX1_server_2 : decode cX1_server 2 = .ok (.putfield 20, 3) := by decide +kernel
theorem dX1_server_5 : decode cX1_server 5 = .ok (.bipush 127, 2) := by decide +kernel
theorem dX1_server_7 : decode cX1_server 7 = .ok (.iload_n 1, 1) := by decide +kernel
theorem dX1_server_8 : decode cX1_server 8 = .ok (.invokestatic 34, 3) := by decide +kernel
theorem dX1_server_11 : decode cX1_server 11 = .ok (.ifCond .eq 13, 3) := by decide +kernel
theorem dX1_server_14 : decode cX1_server 14 = .ok (.iload_n 2, 1) := by decide +kernel
theorem dX1_server_15 : decode cX1_server 15 = .ok (.ifCond .lt 9, 3) := by decide +kernel
theorem dX1_server_18 : decode cX1_server 18 = .ok (.iload_n 2, 1) := by decide +kernel
theorem dX1_server_19 : decode cX1_server 19 = .ok (.bipush 7, 2) := by decide +kernel
theorem dX1_server_21 : decode cX1_server 21 = .ok (.if_icmp .le 11, 3) := by decide +kernel
theorem dX1_server_24 : decode cX1_server 24 = .ok (.aload_n 0, 1) := by decide +kernel
theorem dX1_server_25 : decode cX1_server 25 = .ok (.iconst 1, 1) := by decide +kernel
theorem dX1_server_26 : decode cX1_server 26 = .ok (.invokevirtual 42, 3) := by decide +kernel
theorem dX1_server_29 : decode cX1_server 29 = .ok (.goto 9, 3) := by decide +kernel
theorem dX1_server_32 : decode cX1_server 32 = .ok (.aload_n 0, 1) := by decide +kernel
theorem dX1_server_33 : decode cX1_server 33 = .ok (.iload_n 1, 1) := by decide +kernel
theorem dX1_server_34 : decode cX1_server 34 = .ok (.iload_n 2, 1) := by decide +kernel
theorem dX1_server_35 : decode cX1_server 35 = .ok (.invokevirtual 38, 3) := by decide +kernel
theorem dX1_server_38 : decode cX1_server 38 = .ok (.ireturn, 1) := by decide +kernel
theorem dX1_council_0 : decode cX1_council 0 = .ok (.aload_n 0, 1) := by decide +kernel
theorem dX1_council_1 : decode cX1_council 1 = .ok (.iconst 0, 1) := by decide +kernel
theorem dX1_council_2 : decode cX1_council 2 = .ok (.putfield 20, 3) := by decide +kernel
theorem dX1_council_5 : decode cX1_council 5 = .ok (.iload_n 1, 1) := by decide +kernel
theorem dX1_council_6 : decode cX1_council 6 = .ok (.ifCond .lt 9, 3) := by decide +kernel
theorem dX1_council_9 : decode cX1_council 9 = .ok (.iload_n 1, 1) := by decide +kernel
theorem dX1_council_10 : decode cX1_council 10 = .ok (.bipush 7, 2) := by decide +kernel
theorem dX1_council_12 : decode cX1_council 12 = .ok (.if_icmp .le 5, 3) := by decide +kernel
theorem dX1_council_15 : decode cX1_council 15 = .ok (.iconst (-1), 1) := by decide +kernel
theorem dX1_council_16 : decode cX1_council 16 = .ok (.ireturn, 1) := by decide +kernel
theorem dX1_council_17 : decode cX1_council 17 = .ok (.iload_n 1, 1) := by decide +kernel
theorem dX1_council_18 : decode cX1_council 18 = .ok (.iconst 3, 1) := by decide +kernel
theorem dX1_council_19 : decode cX1_council 19 = .ok (.if_icmp .ge 31, 3) := by decide +kernel
theorem dX1_council_22 : decode cX1_council 22 = .ok (.iload_n 1, 1) := by decide +kernel
theorem dX1_council_23 : decode cX1_council 23 = .ok (.ifCond .ne 10, 3) := by decide +kernel
theorem dX1_council_26 : decode cX1_council 26 = .ok (.aload_n 0, 1) := by decide +kernel
theorem dX1_council_27 : decode cX1_council 27 = .ok (.getfield 17, 3) := by decide +kernel
theorem dX1_council_30 : decode cX1_council 30 = .ok (.goto 19, 3) := by decide +kernel
theorem dX1_council_33 : decode cX1_council 33 = .ok (.iload_n 1, 1) := by decide +kernel
theorem dX1_council_34 : decode cX1_council 34 = .ok (.iconst 1, 1) := by decide +kernel
theorem dX1_council_35 : decode cX1_council 35 = .ok (.if_icmp .ne 10, 3) := by decide +kernel
theorem dX1_council_38 : decode cX1_council 38 = .ok (.aload_n 0, 1) := by decide +kernel
theorem dX1_council_39 : decode cX1_council 39 = .ok (.getfield 28, 3) := by decide +kernel
theorem dX1_council_42 : decode cX1_council 42 = .ok (.goto 7, 3) := by decide +kernel
theorem dX1_council_45 : decode cX1_council 45 = .ok (.aload_n 0, 1) := by decide +kernel
theorem dX1_council_46 : decode cX1_council 46 = .ok (.getfield 31, 3) := by decide +kernel
theorem dX1_council_49 : decode cX1_council 49 = .ok (.ireturn, 1) := by decide +kernel
theorem dX1_council_50 : decode cX1_council 50 = .ok (.iload_n 1, 1) := by decide +kernel
theorem dX1_council_51 : decode cX1_council 51 = .ok (.iconst 5, 1) := by decide +kernel
theorem dX1_council_52 : decode cX1_council 52 = .ok (.if_icmp .ge 25, 3) := by decide +kernel
theorem dX1_council_55 : decode cX1_council 55 = .ok (.iload_n 1, 1) := by decide +kernel
theorem dX1_council_56 : decode cX1_council 56 = .ok (.iconst 3, 1) := by decide +kernel
theorem dX1_council_57 : decode cX1_council 57 = .ok (.if_icmp .ne 15, 3) := by decide +kernel
theorem dX1_council_60 : decode cX1_council 60 = .ok (.aload_n 0, 1) := by decide +kernel
theorem dX1_council_61 : decode cX1_council 61 = .ok (.getfield 17, 3) := by decide +kernel
theorem dX1_council_64 : decode cX1_council 64 = .ok (.aload_n 0, 1) := by decide +kernel
theorem dX1_council_65 : decode cX1_council 65 = .ok (.getfield 28, 3) := by decide +kernel
theorem dX1_council_68 : decode cX1_council 68 = .ok (.ior, 1) := by decide +kernel
theorem dX1_council_69 : decode cX1_council 69 = .ok (.goto 7, 3) := by decide +kernel
theorem dX1_council_72 : decode cX1_council 72 = .ok (.aload_n 0, 1) := by decide +kernel
theorem dX1_council_73 : decode cX1_council 73 = .ok (.invokevirtual 65, 3) := by decide +kernel
theorem dX1_council_76 : decode cX1_council 76 = .ok (.ireturn, 1) := by decide +kernel
theorem dX1_council_77 : decode cX1_council 77 = .ok (.iload_n 1, 1) := by decide +kernel
theorem dX1_council_78 : decode cX1_council 78 = .ok (.iconst 5, 1) := by decide +kernel
theorem dX1_council_79 : decode cX1_council 79 = .ok (.if_icmp .ne 10, 3) := by decide +kernel
theorem dX1_council_82 : decode cX1_council 82 = .ok (.aload_n 0, 1) := by decide +kernel
theorem dX1_council_83 : decode cX1_council 83 = .ok (.getfield 52, 3) := by decide +kernel
theorem dX1_council_86 : decode cX1_council 86 = .ok (.goto 20, 3) := by decide +kernel
theorem dX1_council_89 : decode cX1_council 89 = .ok (.iload_n 1, 1) := by decide +kernel
theorem dX1_council_90 : decode cX1_council 90 = .ok (.bipush 6, 2) := by decide +kernel
theorem dX1_council_92 : decode cX1_council 92 = .ok (.if_icmp .ne 10, 3) := by decide +kernel
theorem dX1_council_95 : decode cX1_council 95 = .ok (.aload_n 0, 1) := by decide +kernel
theorem dX1_council_96 : decode cX1_council 96 = .ok (.getfield 62, 3) := by decide +kernel
theorem dX1_council_99 : decode cX1_council 99 = .ok (.goto 7, 3) := by decide +kernel
theorem dX1_council_102 : decode cX1_council 102 = .ok (.aload_n 0, 1) := by decide +kernel
theorem dX1_council_103 : decode cX1_council 103 = .ok (.getfield 13, 3) := by decide +kernel
theorem dX1_council_106 : decode cX1_council 106 = .ok (.ireturn, 1) := by decide +kernel
end
section
set_option maxHeartbeats 4000000 in
set_option maxRecDepth 100000 in
theorem c_X1_thrown (l : Launch) (hl9 : l.stackTraces = false) (D : va_G) (cI : ClassId) (ty : kz_Y) (bd : Nat → Nat) (rs : va_W) (sz : Nat) (th it o n g v r : Int32) (al : Nat → Int32) : ez_M l yX1_thrown wsX1_thrown ({ frames := 0, cells := 1, slots := 6, locals := 0 } : Room) (kz_P D ((cI, .int) :: ty) (wM bd cI th it o n g v r al ++ rs) sz [.ref (bd 0)]) (kz_Ro (kz_i (fun r9 => r9 = th))) (kz_T (fun _ => IAE) (fun _ => False)) 0 0 (fun _ => False) := by
  refine ez_ofW (cc := cX1_thrown) (maxL := 1) (ret := (some .int)) (by decide) rfl ?_
  intro p e s m args below meth c s₁ B hml hTab hv
  obtain ⟨rfl, hsz, hP, hK, hD0, hE⟩ := hv
  have hx := B.exec
  have hb := B.bytes
  have hr := B.returns
  have hw9 : ∀ w ∈ kz_W9, w.before ([.ref (bd 0)] : List Value).toArray s = true := fun w h => atoms_spec (ws := wsX1_thrown) B.pre w (List.mem_cons_of_mem _ h)
  have hown : s.vm.findClass RX1 = some m.cls := findClass_of_methodNamed B.named
  have hlocks := B.notSynchronized
  subst hsz
  have hD := hD0.self (sz := s.heap.size)
  generalize hAe : va_A (wM bd cI th it o n g v r al ++ rs) s.heap.size = A at hD hE
  have hA : ∀ q : Nat, s.heap.size ≤ q → A q := fun q h => by rw [← hAe]; exact Or.inr h
  have hS : va_S A s.heap s.heap [] := va_S.rf
  have hO : kz_O s.heap s.heap := kz_O.rf _
  have hl := lv_entry ([.ref (bd 0)]) (n := 1) (Nat.le_of_ble_eq_true rfl)
  rw [lg_entry_eq]
  generalize (lg_sl ([.ref (bd 0)]) ++ List.replicate (1 - (lg_sl ([.ref (bd 0)])).length) Slot.unset).toArray = ls at hl ⊢
  have hl : lv_has ls 1 [(0, .ref (bd 0))] := hl
  refine lv_aload_n hx hb dX1_thrown_0 rfl (lv_at hl 0 rfl) ?_
  refine va_get (D := D) (ci := 1) (v := .int th) (C := RX1) (T := TX1) (N := 8) hx hb hw9 uX1 hown hK hP 0 rfl rfl 0 (by decide) (hw9 _ mw_360) (fun _ h9 => h9) rfl dX1_thrown_1 ?_
  exact kz_reti hx hb hr hlocks hO (rfl)  dX1_thrown_4
set_option maxHeartbeats 4000000 in
set_option maxRecDepth 100000 in
theorem c_X1_fail (l : Launch) (hl9 : l.stackTraces = false) (D : va_G) (cI : ClassId) (ty : kz_Y) (bd : Nat → Nat) (rs : va_W) (sz : Nat) (th it o n g v r : Int32) (al : Nat → Int32) (p0 : Int32) : ez_M l yX1_fail wsX1_fail ({ frames := 0, cells := 1, slots := 6, locals := 0 } : Room) (kz_P D ((cI, .int) :: ty) (wM bd cI th it o n g v r al ++ rs) sz [.ref (bd 0), .int p0]) (kz_Wr D (va_A (wM bd cI th it o n g v r al ++ rs) sz) (kz_i (fun r9 => r9 = 0)) (wM bd cI p0 it o n g v r al ++ rs)) (kz_T (fun _ => IAE) (fun _ => False)) 0 0 (va_A (wM bd cI th it o n g v r al ++ rs) sz) := by
  refine ez_ofW (cc := cX1_fail) (maxL := 2) (ret := (some .int)) (by decide) rfl ?_
  intro p e s m args below meth c s₁ B hml hTab hv
  obtain ⟨rfl, hsz, hP, hK, hD0, hE⟩ := hv
  have hx := B.exec
  have hb := B.bytes
  have hr := B.returns
  have hw9 : ∀ w ∈ kz_W9, w.before ([.ref (bd 0), .int p0] : List Value).toArray s = true := fun w h => atoms_spec (ws := wsX1_fail) B.pre w (List.mem_cons_of_mem _ h)
  have hown : s.vm.findClass RX1 = some m.cls := findClass_of_methodNamed B.named
  have hlocks := B.notSynchronized
  subst hsz
  have hD := hD0.self (sz := s.heap.size)
  generalize hAe : va_A (wM bd cI th it o n g v r al ++ rs) s.heap.size = A at hD hE ⊢
  have hA : ∀ q : Nat, s.heap.size ≤ q → A q := fun q h => by rw [← hAe]; exact Or.inr h
  have hS : va_S A s.heap s.heap [] := va_S.rf
  have hO : kz_O s.heap s.heap := kz_O.rf _
  have hl := lv_entry ([.ref (bd 0), .int p0]) (n := 2) (Nat.le_of_ble_eq_true rfl)
  rw [lg_entry_eq]
  generalize (lg_sl ([.ref (bd 0), .int p0]) ++ List.replicate (2 - (lg_sl ([.ref (bd 0), .int p0])).length) Slot.unset).toArray = ls at hl ⊢
  have hl : lv_has ls 2 [(0, .ref (bd 0)), (1, .int p0)] := hl
  refine lv_aload_n hx hb dX1_fail_0 rfl (lv_at hl 0 rfl) ?_
  refine lv_iload_n hx hb dX1_fail_1 rfl (lv_at hl 1 rfl) ?_
  refine va_put (D := D) (ci := 1) (v := .int p0) (ty := .int) (C := RX1) (T := TX1) (N := 8) hx hb hw9 uX1 tyX1 tyX1_ok nmX1 hown hK hP hD hS 0 rfl rfl 0 (by decide) (hw9 _ mw_360) (fun _ h9 => h9) rfl (by decide +kernel) rfl rfl (Nat.le_of_ble_eq_true rfl) dX1_fail_2 (fun H locs hP hD hS => ?_)
  have hP : va_P D vwCl (wM bd cI p0 it o n g v r al ++ rs) H := hP
  have hD : va_D A (wM bd cI p0 it o n g v r al ++ rs) := hD
  refine lv_iconst (v := 0) hx hb dX1_fail_5 (by decide) ?_
  exact kz_wreti hx hb hr hlocks hP hD hS (Nat.le_of_ble_eq_true rfl) (Nat.le_of_ble_eq_true rfl) (rfl)  dX1_fail_6
set_option maxHeartbeats 4000000 in
set_option maxRecDepth 100000 in
theorem c_X1_isSet (l : Launch) (hl9 : l.stackTraces = false) (D : va_G) (tys : kz_Y) (ws : va_W) (sz : Nat) (p0 : Int32) : ez_M l yX1_isSet wsX1_isSet ({ frames := 0, cells := 1, slots := 6, locals := 0 } : Room) (kz_P D tys ws sz [.int p0]) (kz_Ro (kz_i (fun r9 => r9 = (sq_z (sq_S p0))))) (kz_T (fun _ => IAE) (fun _ => False)) 0 0 (fun _ => False) := by
  refine ez_ofW (cc := cX1_isSet) (maxL := 1) (ret := (some .boolean)) (by decide) rfl ?_
  intro p e s m args below meth c s₁ B hml hTab hv
  obtain ⟨rfl, hsz, hP, hK, hD0, hE⟩ := hv
  have hx := B.exec
  have hb := B.bytes
  have hr := B.returns
  have hw9 : ∀ w ∈ kz_W9, w.before ([.int p0] : List Value).toArray s = true := fun w h => atoms_spec (ws := wsX1_isSet) B.pre w (List.mem_cons_of_mem _ h)
  have hown : s.vm.findClass RX1 = some m.cls := findClass_of_methodNamed B.named
  have hlocks := B.notSynchronized
  subst hsz
  have hD := hD0.self (sz := s.heap.size)
  generalize hAe : va_A ws s.heap.size = A at hD hE
  have hA : ∀ q : Nat, s.heap.size ≤ q → A q := fun q h => by rw [← hAe]; exact Or.inr h
  have hS : va_S A s.heap s.heap [] := va_S.rf
  have hO : kz_O s.heap s.heap := kz_O.rf _
  have hl := lv_entry ([.int p0]) (n := 1) (Nat.le_of_ble_eq_true rfl)
  rw [lg_entry_eq]
  generalize (lg_sl ([.int p0]) ++ List.replicate (1 - (lg_sl ([.int p0])).length) Slot.unset).toArray = ls at hl ⊢
  have hl : lv_has ls 1 [(0, .int p0)] := hl
  refine lv_iload_n hx hb dX1_isSet_0 rfl (lv_at hl 0 rfl) ?_
  refine lv_if_lt (tgt := 15) hx hb dX1_isSet_1 (by decide) (fun c_1 => ?_) (fun c_1 => ?_)
  · -- 1 -> 15
    refine lv_iconst (v := 0) hx hb dX1_isSet_15 (by decide) ?_
    exact kz_retz hx hb hr hlocks hO (by first | (simp [sq_z, sq_S, ← sm_127, c_1, (Int32.not_le.mpr c_1)]; done) | (simp only [sq_z, sq_S, ← sm_127, c_1, (Int32.not_le.mpr c_1), eq_self, not_true_eq_false, not_false_eq_true, and_self, and_true, true_and, and_false, false_and, or_true, true_or, or_false, false_or, if_true, if_false, ite_true, ite_false, Bool.and_eq_true, decide_true, decide_false, decide_eq_true_eq, ne_eq, Nat.reduceEqDiff, Nat.one_ne_zero, Bool.false_eq_true, reduceCtorEq]; done) | (simp only [sq_z, sq_S, ← sm_127, c_1, (Int32.not_le.mpr c_1), eq_self, not_true_eq_false, not_false_eq_true, and_self, and_true, true_and, and_false, false_and, or_true, true_or, or_false, false_or, if_true, if_false, ite_true, ite_false, Bool.and_eq_true, decide_true, decide_false, decide_eq_true_eq, ne_eq, Nat.reduceEqDiff, Nat.one_ne_zero, Bool.false_eq_true, reduceCtorEq]; decide)) rfl dX1_isSet_16
  · -- 1 -> 4
    refine lv_iload_n hx hb dX1_isSet_4 rfl (lv_at hl 0 rfl) ?_
    refine lv_sipush (v := 128) hx hb dX1_isSet_5 (by decide) ?_
    refine lv_icmp_ge (tgt := 15) hx hb dX1_isSet_8 (by decide) (fun c_2 => ?_) (fun c_2 => ?_)
    · -- 8 -> 15
      refine lv_iconst (v := 0) hx hb dX1_isSet_15 (by decide) ?_
      exact kz_retz hx hb hr hlocks hO (by first | (simp [sq_z, sq_S, ← sm_127, c_1, (Int32.not_lt.mp c_1), c_2, (Int32.not_lt.mpr c_2)]; done) | (simp only [sq_z, sq_S, ← sm_127, c_1, (Int32.not_lt.mp c_1), c_2, (Int32.not_lt.mpr c_2), eq_self, not_true_eq_false, not_false_eq_true, and_self, and_true, true_and, and_false, false_and, or_true, true_or, or_false, false_or, if_true, if_false, ite_true, ite_false, Bool.and_eq_true, decide_true, decide_false, decide_eq_true_eq, ne_eq, Nat.reduceEqDiff, Nat.one_ne_zero, Bool.false_eq_true, reduceCtorEq]; done) | (simp only [sq_z, sq_S, ← sm_127, c_1, (Int32.not_lt.mp c_1), c_2, (Int32.not_lt.mpr c_2), eq_self, not_true_eq_false, not_false_eq_true, and_self, and_true, true_and, and_false, false_and, or_true, true_or, or_false, false_or, if_true, if_false, ite_true, ite_false, Bool.and_eq_true, decide_true, decide_false, decide_eq_true_eq, ne_eq, Nat.reduceEqDiff, Nat.one_ne_zero, Bool.false_eq_true, reduceCtorEq]; decide)) rfl dX1_isSet_16
    · -- 8 -> 11
      refine lv_iconst (v := 1) hx hb dX1_isSet_11 (by decide) ?_
      refine lv_goto (tgt := 16) hx hb dX1_isSet_12 (by decide) ?_
      exact kz_retz hx hb hr hlocks hO (by first | (simp [sq_z, sq_S, ← sm_127, c_1, (Int32.not_lt.mp c_1), c_2, (Int32.not_le.mp c_2)]; done) | (simp only [sq_z, sq_S, ← sm_127, c_1, (Int32.not_lt.mp c_1), c_2, (Int32.not_le.mp c_2), eq_self, not_true_eq_false, not_false_eq_true, and_self, and_true, true_and, and_false, false_and, or_true, true_or, or_false, false_or, if_true, if_false, ite_true, ite_false, Bool.and_eq_true, decide_true, decide_false, decide_eq_true_eq, ne_eq, Nat.reduceEqDiff, Nat.one_ne_zero, Bool.false_eq_true, reduceCtorEq]; done) | (simp only [sq_z, sq_S, ← sm_127, c_1, (Int32.not_lt.mp c_1), c_2, (Int32.not_le.mp c_2), eq_self, not_true_eq_false, not_false_eq_true, and_self, and_true, true_and, and_false, false_and, or_true, true_or, or_false, false_or, if_true, if_false, ite_true, ite_false, Bool.and_eq_true, decide_true, decide_false, decide_eq_true_eq, ne_eq, Nat.reduceEqDiff, Nat.one_ne_zero, Bool.false_eq_true, reduceCtorEq]; decide)) rfl dX1_isSet_16
set_option maxHeartbeats 4000000 in
set_option maxRecDepth 100000 in
theorem c_X1_number (l : Launch) (hl9 : l.stackTraces = false) (D : va_G) (tys : kz_Y) (ws : va_W) (sz : Nat) (p0 : Int32) : ez_M l yX1_number wsX1_number ({ frames := 0, cells := 1, slots := 6, locals := 0 } : Room) (kz_P D tys ws sz [.int p0]) (kz_Ro (kz_i (fun r9 => r9 = (sq_z (sq_N p0))))) (kz_T (fun _ => IAE) (fun _ => False)) 0 0 (fun _ => False) := by
  refine ez_ofW (cc := cX1_number) (maxL := 1) (ret := (some .boolean)) (by decide) rfl ?_
  intro p e s m args below meth c s₁ B hml hTab hv
  obtain ⟨rfl, hsz, hP, hK, hD0, hE⟩ := hv
  have hx := B.exec
  have hb := B.bytes
  have hr := B.returns
  have hw9 : ∀ w ∈ kz_W9, w.before ([.int p0] : List Value).toArray s = true := fun w h => atoms_spec (ws := wsX1_number) B.pre w (List.mem_cons_of_mem _ h)
  have hown : s.vm.findClass RX1 = some m.cls := findClass_of_methodNamed B.named
  have hlocks := B.notSynchronized
  subst hsz
  have hD := hD0.self (sz := s.heap.size)
  generalize hAe : va_A ws s.heap.size = A at hD hE
  have hA : ∀ q : Nat, s.heap.size ≤ q → A q := fun q h => by rw [← hAe]; exact Or.inr h
  have hS : va_S A s.heap s.heap [] := va_S.rf
  have hO : kz_O s.heap s.heap := kz_O.rf _
  have hl := lv_entry ([.int p0]) (n := 1) (Nat.le_of_ble_eq_true rfl)
  rw [lg_entry_eq]
  generalize (lg_sl ([.int p0]) ++ List.replicate (1 - (lg_sl ([.int p0])).length) Slot.unset).toArray = ls at hl ⊢
  have hl : lv_has ls 1 [(0, .int p0)] := hl
  refine lv_iload_n hx hb dX1_number_0 rfl (lv_at hl 0 rfl) ?_
  refine lv_if_lt (tgt := 14) hx hb dX1_number_1 (by decide) (fun c_1 => ?_) (fun c_1 => ?_)
  · -- 1 -> 14
    refine lv_iconst (v := 0) hx hb dX1_number_14 (by decide) ?_
    exact kz_retz hx hb hr hlocks hO (by first | (simp [sq_z, sq_N, c_1, (Int32.not_le.mpr c_1)]; done) | (simp only [sq_z, sq_N, c_1, (Int32.not_le.mpr c_1), eq_self, not_true_eq_false, not_false_eq_true, and_self, and_true, true_and, and_false, false_and, or_true, true_or, or_false, false_or, if_true, if_false, ite_true, ite_false, Bool.and_eq_true, decide_true, decide_false, decide_eq_true_eq, ne_eq, Nat.reduceEqDiff, Nat.one_ne_zero, Bool.false_eq_true, reduceCtorEq]; done) | (simp only [sq_z, sq_N, c_1, (Int32.not_le.mpr c_1), eq_self, not_true_eq_false, not_false_eq_true, and_self, and_true, true_and, and_false, false_and, or_true, true_or, or_false, false_or, if_true, if_false, ite_true, ite_false, Bool.and_eq_true, decide_true, decide_false, decide_eq_true_eq, ne_eq, Nat.reduceEqDiff, Nat.one_ne_zero, Bool.false_eq_true, reduceCtorEq]; decide)) rfl dX1_number_15
  · -- 1 -> 4
    refine lv_iload_n hx hb dX1_number_4 rfl (lv_at hl 0 rfl) ?_
    refine lv_ldc (v := 1000000000) hx hb hown (hw9 _ mw_441) dX1_number_5 ?_
    refine lv_icmp_gt (tgt := 14) hx hb dX1_number_7 (by decide) (fun c_2 => ?_) (fun c_2 => ?_)
    · -- 7 -> 14
      refine lv_iconst (v := 0) hx hb dX1_number_14 (by decide) ?_
      exact kz_retz hx hb hr hlocks hO (by first | (simp [sq_z, sq_N, c_1, (Int32.not_lt.mp c_1), c_2, (Int32.not_le.mpr c_2)]; done) | (simp only [sq_z, sq_N, c_1, (Int32.not_lt.mp c_1), c_2, (Int32.not_le.mpr c_2), eq_self, not_true_eq_false, not_false_eq_true, and_self, and_true, true_and, and_false, false_and, or_true, true_or, or_false, false_or, if_true, if_false, ite_true, ite_false, Bool.and_eq_true, decide_true, decide_false, decide_eq_true_eq, ne_eq, Nat.reduceEqDiff, Nat.one_ne_zero, Bool.false_eq_true, reduceCtorEq]; done) | (simp only [sq_z, sq_N, c_1, (Int32.not_lt.mp c_1), c_2, (Int32.not_le.mpr c_2), eq_self, not_true_eq_false, not_false_eq_true, and_self, and_true, true_and, and_false, false_and, or_true, true_or, or_false, false_or, if_true, if_false, ite_true, ite_false, Bool.and_eq_true, decide_true, decide_false, decide_eq_true_eq, ne_eq, Nat.reduceEqDiff, Nat.one_ne_zero, Bool.false_eq_true, reduceCtorEq]; decide)) rfl dX1_number_15
    · -- 7 -> 10
      refine lv_iconst (v := 1) hx hb dX1_number_10 (by decide) ?_
      refine lv_goto (tgt := 15) hx hb dX1_number_11 (by decide) ?_
      exact kz_retz hx hb hr hlocks hO (by first | (simp [sq_z, sq_N, c_1, (Int32.not_lt.mp c_1), c_2, (Int32.not_lt.mp c_2)]; done) | (simp only [sq_z, sq_N, c_1, (Int32.not_lt.mp c_1), c_2, (Int32.not_lt.mp c_2), eq_self, not_true_eq_false, not_false_eq_true, and_self, and_true, true_and, and_false, false_and, or_true, true_or, or_false, false_or, if_true, if_false, ite_true, ite_false, Bool.and_eq_true, decide_true, decide_false, decide_eq_true_eq, ne_eq, Nat.reduceEqDiff, Nat.one_ne_zero, Bool.false_eq_true, reduceCtorEq]; done) | (simp only [sq_z, sq_N, c_1, (Int32.not_lt.mp c_1), c_2, (Int32.not_lt.mp c_2), eq_self, not_true_eq_false, not_false_eq_true, and_self, and_true, true_and, and_false, false_and, or_true, true_or, or_false, false_or, if_true, if_false, ite_true, ite_false, Bool.and_eq_true, decide_true, decide_false, decide_eq_true_eq, ne_eq, Nat.reduceEqDiff, Nat.one_ne_zero, Bool.false_eq_true, reduceCtorEq]; decide)) rfl dX1_number_15
set_option maxHeartbeats 4000000 in
set_option maxRecDepth 100000 in
theorem c_X1_has (l : Launch) (hl9 : l.stackTraces = false) (D : va_G) (tys : kz_Y) (ws : va_W) (sz : Nat) (p0 : Int32) (p1 : Int32) : ez_M l yX1_has wsX1_has ({ frames := 0, cells := 1, slots := 6, locals := 0 } : Room) (kz_P D tys ws sz [.int p0, .int p1]) (kz_Ro (kz_i (fun r9 => r9 = (sq_z (sm_h p0 p1))))) (kz_T (fun _ => IAE) (fun _ => False)) 0 0 (fun _ => False) := by
  refine ez_ofW (cc := cX1_has) (maxL := 2) (ret := (some .boolean)) (by decide) rfl ?_
  intro p e s m args below meth c s₁ B hml hTab hv
  obtain ⟨rfl, hsz, hP, hK, hD0, hE⟩ := hv
  have hx := B.exec
  have hb := B.bytes
  have hr := B.returns
  have hw9 : ∀ w ∈ kz_W9, w.before ([.int p0, .int p1] : List Value).toArray s = true := fun w h => atoms_spec (ws := wsX1_has) B.pre w (List.mem_cons_of_mem _ h)
  have hown : s.vm.findClass RX1 = some m.cls := findClass_of_methodNamed B.named
  have hlocks := B.notSynchronized
  subst hsz
  have hD := hD0.self (sz := s.heap.size)
  generalize hAe : va_A ws s.heap.size = A at hD hE
  have hA : ∀ q : Nat, s.heap.size ≤ q → A q := fun q h => by rw [← hAe]; exact Or.inr h
  have hS : va_S A s.heap s.heap [] := va_S.rf
  have hO : kz_O s.heap s.heap := kz_O.rf _
  have hl := lv_entry ([.int p0, .int p1]) (n := 2) (Nat.le_of_ble_eq_true rfl)
  rw [lg_entry_eq]
  generalize (lg_sl ([.int p0, .int p1]) ++ List.replicate (2 - (lg_sl ([.int p0, .int p1])).length) Slot.unset).toArray = ls at hl ⊢
  have hl : lv_has ls 2 [(0, .int p0), (1, .int p1)] := hl
  refine lv_iload_n hx hb dX1_has_0 rfl (lv_at hl 1 rfl) ?_
  refine lv_if_lt (tgt := 23) hx hb dX1_has_1 (by decide) (fun c_1 => ?_) (fun c_1 => ?_)
  · -- 1 -> 23
    refine lv_iconst (v := 0) hx hb dX1_has_23 (by decide) ?_
    exact kz_retz hx hb hr hlocks hO (by first | (simp [sq_z, sm_h, c_1, (Int32.not_le.mpr c_1)]; done) | (simp only [sq_z, sm_h, c_1, (Int32.not_le.mpr c_1), eq_self, not_true_eq_false, not_false_eq_true, and_self, and_true, true_and, and_false, false_and, or_true, true_or, or_false, false_or, if_true, if_false, ite_true, ite_false, Bool.and_eq_true, decide_true, decide_false, decide_eq_true_eq, ne_eq, Nat.reduceEqDiff, Nat.one_ne_zero, Bool.false_eq_true, reduceCtorEq]; done) | (simp only [sq_z, sm_h, c_1, (Int32.not_le.mpr c_1), eq_self, not_true_eq_false, not_false_eq_true, and_self, and_true, true_and, and_false, false_and, or_true, true_or, or_false, false_or, if_true, if_false, ite_true, ite_false, Bool.and_eq_true, decide_true, decide_false, decide_eq_true_eq, ne_eq, Nat.reduceEqDiff, Nat.one_ne_zero, Bool.false_eq_true, reduceCtorEq]; decide)) rfl dX1_has_24
  · -- 1 -> 4
    refine lv_iload_n hx hb dX1_has_4 rfl (lv_at hl 1 rfl) ?_
    refine lv_bipush (v := 7) hx hb dX1_has_5 (by decide) ?_
    refine lv_icmp_ge (tgt := 23) hx hb dX1_has_7 (by decide) (fun c_2 => ?_) (fun c_2 => ?_)
    · -- 7 -> 23
      refine lv_iconst (v := 0) hx hb dX1_has_23 (by decide) ?_
      exact kz_retz hx hb hr hlocks hO (by first | (simp [sq_z, sm_h, c_1, (Int32.not_lt.mp c_1), c_2, (Int32.not_lt.mpr c_2)]; done) | (simp only [sq_z, sm_h, c_1, (Int32.not_lt.mp c_1), c_2, (Int32.not_lt.mpr c_2), eq_self, not_true_eq_false, not_false_eq_true, and_self, and_true, true_and, and_false, false_and, or_true, true_or, or_false, false_or, if_true, if_false, ite_true, ite_false, Bool.and_eq_true, decide_true, decide_false, decide_eq_true_eq, ne_eq, Nat.reduceEqDiff, Nat.one_ne_zero, Bool.false_eq_true, reduceCtorEq]; done) | (simp only [sq_z, sm_h, c_1, (Int32.not_lt.mp c_1), c_2, (Int32.not_lt.mpr c_2), eq_self, not_true_eq_false, not_false_eq_true, and_self, and_true, true_and, and_false, false_and, or_true, true_or, or_false, false_or, if_true, if_false, ite_true, ite_false, Bool.and_eq_true, decide_true, decide_false, decide_eq_true_eq, ne_eq, Nat.reduceEqDiff, Nat.one_ne_zero, Bool.false_eq_true, reduceCtorEq]; decide)) rfl dX1_has_24
    · -- 7 -> 10
      refine lv_iload_n hx hb dX1_has_10 rfl (lv_at hl 0 rfl) ?_
      refine lv_iload_n hx hb dX1_has_11 rfl (lv_at hl 1 rfl) ?_
      refine lv_ishr hx hb dX1_has_12 ?_
      refine lv_iconst (v := 1) hx hb dX1_has_13 (by decide) ?_
      refine lv_iand hx hb dX1_has_14 ?_
      refine lv_iconst (v := 1) hx hb dX1_has_15 (by decide) ?_
      refine lv_icmp_ne (tgt := 23) hx hb dX1_has_16 (by decide) (fun c_3 => ?_) (fun c_3 => ?_)
      · -- 16 -> 23
        refine lv_iconst (v := 0) hx hb dX1_has_23 (by decide) ?_
        exact kz_retz hx hb hr hlocks hO (by first | (simp [sq_z, sm_h, c_1, (Int32.not_lt.mp c_1), c_2, (Int32.not_le.mp c_2), c_3]; done) | (simp only [sq_z, sm_h, c_1, (Int32.not_lt.mp c_1), c_2, (Int32.not_le.mp c_2), c_3, eq_self, not_true_eq_false, not_false_eq_true, and_self, and_true, true_and, and_false, false_and, or_true, true_or, or_false, false_or, if_true, if_false, ite_true, ite_false, Bool.and_eq_true, decide_true, decide_false, decide_eq_true_eq, ne_eq, Nat.reduceEqDiff, Nat.one_ne_zero, Bool.false_eq_true, reduceCtorEq]; done) | (simp only [sq_z, sm_h, c_1, (Int32.not_lt.mp c_1), c_2, (Int32.not_le.mp c_2), c_3, eq_self, not_true_eq_false, not_false_eq_true, and_self, and_true, true_and, and_false, false_and, or_true, true_or, or_false, false_or, if_true, if_false, ite_true, ite_false, Bool.and_eq_true, decide_true, decide_false, decide_eq_true_eq, ne_eq, Nat.reduceEqDiff, Nat.one_ne_zero, Bool.false_eq_true, reduceCtorEq]; decide)) rfl dX1_has_24
      · -- 16 -> 19
        refine lv_iconst (v := 1) hx hb dX1_has_19 (by decide) ?_
        refine lv_goto (tgt := 24) hx hb dX1_has_20 (by decide) ?_
        exact kz_retz hx hb hr hlocks hO (by first | (simp [sq_z, sm_h, c_1, (Int32.not_lt.mp c_1), c_2, (Int32.not_le.mp c_2), c_3]; done) | (simp only [sq_z, sm_h, c_1, (Int32.not_lt.mp c_1), c_2, (Int32.not_le.mp c_2), c_3, eq_self, not_true_eq_false, not_false_eq_true, and_self, and_true, true_and, and_false, false_and, or_true, true_or, or_false, false_or, if_true, if_false, ite_true, ite_false, Bool.and_eq_true, decide_true, decide_false, decide_eq_true_eq, ne_eq, Nat.reduceEqDiff, Nat.one_ne_zero, Bool.false_eq_true, reduceCtorEq]; done) | (simp only [sq_z, sm_h, c_1, (Int32.not_lt.mp c_1), c_2, (Int32.not_le.mp c_2), c_3, eq_self, not_true_eq_false, not_false_eq_true, and_self, and_true, true_and, and_false, false_and, or_true, true_or, or_false, false_or, if_true, if_false, ite_true, ite_false, Bool.and_eq_true, decide_true, decide_false, decide_eq_true_eq, ne_eq, Nat.reduceEqDiff, Nat.one_ne_zero, Bool.false_eq_true, reduceCtorEq]; decide)) rfl dX1_has_24
end
section
set_option maxHeartbeats 4000000 in
set_option maxRecDepth 100000 in
theorem c_X1_greater (l : Launch) (hl9 : l.stackTraces = false) (D : va_G) (tys : kz_Y) (ws : va_W) (sz : Nat) (p0 : Int32) (p1 : Int32) : ez_M l yX1_greater wsX1_greater ({ frames := 0, cells := 1, slots := 6, locals := 0 } : Room) (kz_P D tys ws sz [.int p0, .int p1]) (kz_Ro (kz_i (fun r9 => r9 = (sq_max p0 p1)))) (kz_T (fun _ => IAE) (fun _ => False)) 0 0 (fun _ => False) := by
  refine ez_ofW (cc := cX1_greater) (maxL := 2) (ret := (some .int)) (by decide) rfl ?_
  intro p e s m args below meth c s₁ B hml hTab hv
  obtain ⟨rfl, hsz, hP, hK, hD0, hE⟩ := hv
  have hx := B.exec
  have hb := B.bytes
  have hr := B.returns
  have hw9 : ∀ w ∈ kz_W9, w.before ([.int p0, .int p1] : List Value).toArray s = true := fun w h => atoms_spec (ws := wsX1_greater) B.pre w (List.mem_cons_of_mem _ h)
  have hown : s.vm.findClass RX1 = some m.cls := findClass_of_methodNamed B.named
  have hlocks := B.notSynchronized
  subst hsz
  have hD := hD0.self (sz := s.heap.size)
  generalize hAe : va_A ws s.heap.size = A at hD hE
  have hA : ∀ q : Nat, s.heap.size ≤ q → A q := fun q h => by rw [← hAe]; exact Or.inr h
  have hS : va_S A s.heap s.heap [] := va_S.rf
  have hO : kz_O s.heap s.heap := kz_O.rf _
  have hl := lv_entry ([.int p0, .int p1]) (n := 2) (Nat.le_of_ble_eq_true rfl)
  rw [lg_entry_eq]
  generalize (lg_sl ([.int p0, .int p1]) ++ List.replicate (2 - (lg_sl ([.int p0, .int p1])).length) Slot.unset).toArray = ls at hl ⊢
  have hl : lv_has ls 2 [(0, .int p0), (1, .int p1)] := hl
  refine lv_iload_n hx hb dX1_greater_0 rfl (lv_at hl 0 rfl) ?_
  refine lv_iload_n hx hb dX1_greater_1 rfl (lv_at hl 1 rfl) ?_
  refine lv_icmp_le (tgt := 9) hx hb dX1_greater_2 (by decide) (fun c_1 => ?_) (fun c_1 => ?_)
  · -- 2 -> 9
    refine lv_iload_n hx hb dX1_greater_9 rfl (lv_at hl 1 rfl) ?_
    exact kz_reti hx hb hr hlocks hO (sm_mx2 c_1)  dX1_greater_10
  · -- 2 -> 5
    refine lv_iload_n hx hb dX1_greater_5 rfl (lv_at hl 0 rfl) ?_
    refine lv_goto (tgt := 10) hx hb dX1_greater_6 (by decide) ?_
    exact kz_reti hx hb hr hlocks hO (sm_mx1 c_1)  dX1_greater_10
set_option maxHeartbeats 4000000 in
set_option maxRecDepth 100000 in
theorem c_X1_get (l : Launch) (hl9 : l.stackTraces = false) (D : va_G) (cI : ClassId) (ty : kz_Y) (bd : Nat → Nat) (rs : va_W) (sz : Nat) (th it o n g v r : Int32) (al : Nat → Int32) (a b : Nat) (p0 : Int32) (p1 : Int32) (ha : a < 7) (hb8 : b < 8) (e0 : p0 = nI a) (e1 : p1 = nI b) : ez_M l yX1_get wsX1_get ({ frames := 0, cells := 1, slots := 6, locals := 0 } : Room) (kz_P D ((cI, .int) :: ty) (wM bd cI th it o n g v r al ++ rs) sz [.ref (bd 0), .int p0, .int p1]) (kz_Ro (kz_i (fun r9 => r9 = (al (8 * a + b))))) (kz_T (fun _ => IAE) (fun _ => False)) 0 0 (fun _ => False) := by
  refine ez_ofW (cc := cX1_get) (maxL := 3) (ret := (some .int)) (by decide) rfl ?_
  intro p e s m args below meth c s₁ B hml hTab hv
  obtain ⟨rfl, hsz, hP, hK, hD0, hE⟩ := hv
  have hx := B.exec
  have hb := B.bytes
  have hr := B.returns
  have hw9 : ∀ w ∈ kz_W9, w.before ([.ref (bd 0), .int p0, .int p1] : List Value).toArray s = true := fun w h => atoms_spec (ws := wsX1_get) B.pre w (List.mem_cons_of_mem _ h)
  have hown : s.vm.findClass RX1 = some m.cls := findClass_of_methodNamed B.named
  have hlocks := B.notSynchronized
  subst hsz
  have hD := hD0.self (sz := s.heap.size)
  generalize hAe : va_A (wM bd cI th it o n g v r al ++ rs) s.heap.size = A at hD hE
  have hA : ∀ q : Nat, s.heap.size ≤ q → A q := fun q h => by rw [← hAe]; exact Or.inr h
  have hS : va_S A s.heap s.heap [] := va_S.rf
  have hO : kz_O s.heap s.heap := kz_O.rf _
  have hl := lv_entry ([.ref (bd 0), .int p0, .int p1]) (n := 3) (Nat.le_of_ble_eq_true rfl)
  rw [lg_entry_eq]
  generalize (lg_sl ([.ref (bd 0), .int p0, .int p1]) ++ List.replicate (3 - (lg_sl ([.ref (bd 0), .int p0, .int p1])).length) Slot.unset).toArray = ls at hl ⊢
  have hl : lv_has ls 3 [(0, .ref (bd 0)), (1, .int p0), (2, .int p1)] := hl
  have hix : vp_in ((8 * p0) + p1) 56 := sm_ix ha hb8 e0 e1
  refine lv_aload_n hx hb dX1_get_0 rfl (lv_at hl 0 rfl) ?_
  refine va_get (D := D) (ci := 1) (v := .ref (bd 1)) (C := RX1) (T := TX1) (N := 8) hx hb hw9 uX1 hown hK hP 0 rfl rfl 7 (by decide) (hw9 _ mw_367) (fun _ h9 => h9) rfl dX1_get_1 ?_
  refine lv_bipush (v := 8) hx hb dX1_get_4 (by decide) ?_
  refine lv_iload_n hx hb dX1_get_6 rfl (lv_at hl 1 rfl) ?_
  refine lv_imul hx hb dX1_get_7 ?_
  refine lv_iload_n hx hb dX1_get_8 rfl (lv_at hl 2 rfl) ?_
  refine lv_iadd hx hb dX1_get_9 ?_
  refine va_iald hx hb hK hP 1 0 rfl rfl hix dX1_get_10 ?_
  exact kz_reti hx hb hr hlocks hO (by rw [sm_ix2 ha hb8 e0 e1])  dX1_get_11
set_option maxHeartbeats 4000000 in
set_option maxRecDepth 100000 in
theorem c_X1_put (l : Launch) (hl9 : l.stackTraces = false) (D : va_G) (cI : ClassId) (ty : kz_Y) (bd : Nat → Nat) (rs : va_W) (sz : Nat) (th it o n g v r : Int32) (al : Nat → Int32) (a b : Nat) (p0 : Int32) (p1 : Int32) (p2 : Int32) (ha : a < 7) (hb8 : b < 8) (e0 : p0 = nI a) (e1 : p1 = nI b) : ez_M l yX1_put wsX1_put ({ frames := 0, cells := 1, slots := 6, locals := 0 } : Room) (kz_P D ((cI, .int) :: ty) (wM bd cI th it o n g v r al ++ rs) sz [.ref (bd 0), .int p0, .int p1, .int p2]) (kz_Wr D (va_A (wM bd cI th it o n g v r al ++ rs) sz) (kz_v (True)) (wM bd cI th it o n g v r (upd al (8 * a + b) p2) ++ rs)) (kz_T (fun _ => IAE) (fun _ => False)) 0 0 (va_A (wM bd cI th it o n g v r al ++ rs) sz) := by
  refine ez_ofW (cc := cX1_put) (maxL := 4) (ret := none) (by decide) rfl ?_
  intro p e s m args below meth c s₁ B hml hTab hv
  obtain ⟨rfl, hsz, hP, hK, hD0, hE⟩ := hv
  have hx := B.exec
  have hb := B.bytes
  have hr := B.returns
  have hw9 : ∀ w ∈ kz_W9, w.before ([.ref (bd 0), .int p0, .int p1, .int p2] : List Value).toArray s = true := fun w h => atoms_spec (ws := wsX1_put) B.pre w (List.mem_cons_of_mem _ h)
  have hown : s.vm.findClass RX1 = some m.cls := findClass_of_methodNamed B.named
  have hlocks := B.notSynchronized
  subst hsz
  have hD := hD0.self (sz := s.heap.size)
  generalize hAe : va_A (wM bd cI th it o n g v r al ++ rs) s.heap.size = A at hD hE ⊢
  have hA : ∀ q : Nat, s.heap.size ≤ q → A q := fun q h => by rw [← hAe]; exact Or.inr h
  have hS : va_S A s.heap s.heap [] := va_S.rf
  have hO : kz_O s.heap s.heap := kz_O.rf _
  have hl := lv_entry ([.ref (bd 0), .int p0, .int p1, .int p2]) (n := 4) (Nat.le_of_ble_eq_true rfl)
  rw [lg_entry_eq]
  generalize (lg_sl ([.ref (bd 0), .int p0, .int p1, .int p2]) ++ List.replicate (4 - (lg_sl ([.ref (bd 0), .int p0, .int p1, .int p2])).length) Slot.unset).toArray = ls at hl ⊢
  have hl : lv_has ls 4 [(0, .ref (bd 0)), (1, .int p0), (2, .int p1), (3, .int p2)] := hl
  have hix : vp_in ((8 * p0) + p1) 56 := sm_ix ha hb8 e0 e1
  refine lv_aload_n hx hb dX1_put_0 rfl (lv_at hl 0 rfl) ?_
  refine va_get (D := D) (ci := 1) (v := .ref (bd 1)) (C := RX1) (T := TX1) (N := 8) hx hb hw9 uX1 hown hK hP 0 rfl rfl 7 (by decide) (hw9 _ mw_367) (fun _ h9 => h9) rfl dX1_put_1 ?_
  refine lv_bipush (v := 8) hx hb dX1_put_4 (by decide) ?_
  refine lv_iload_n hx hb dX1_put_6 rfl (lv_at hl 1 rfl) ?_
  refine lv_imul hx hb dX1_put_7 ?_
  refine lv_iload_n hx hb dX1_put_8 rfl (lv_at hl 2 rfl) ?_
  refine lv_iadd hx hb dX1_put_9 ?_
  refine lv_iload_n hx hb dX1_put_10 rfl (lv_at hl 3 rfl) ?_
  refine va_iast hx hb hK hP hD hS 1 0 rfl rfl hix dX1_put_11 (fun H locs hP hD hS => ?_)
  have hP : va_P D vwCl (wM bd cI th it o n g v r (upd al ((8 * p0) + p1).toNatClampNeg p2) ++ rs) H := hP
  have hD : va_D A (wM bd cI th it o n g v r (upd al ((8 * p0) + p1).toNatClampNeg p2) ++ rs) := hD
  rw [sm_ix2 ha hb8 e0 e1] at hP hD
  exact kz_wretv hx hb hr hlocks hP hD hS (Nat.le_of_ble_eq_true rfl) (Nat.le_of_ble_eq_true rfl) (trivial)  dX1_put_12
set_option maxHeartbeats 4000000 in
set_option maxRecDepth 100000 in
theorem c_X1_mostOf (l : Launch) (hl9 : l.stackTraces = false) (D : va_G) (tys : kz_Y) (ws : va_W) (sz : Nat) (x y : Nat) (p0 : Int32) (p1 : Int32) (hx8 : x < 128) (hy : y < 128) (ex : p0 = nI x) (ey : p1 = nI y) : ez_M l yX1_mostOf wsX1_mostOf ({ frames := 1, cells := 1, slots := 6, locals := 21 } : Room) (kz_P D tys ws sz [.int p0, .int p1]) (kz_Ro (kz_i (fun r9 => r9 = (sq_z (sq_H p0 p1))))) (kz_T (fun _ => IAE) (fun _ => False)) 0 0 (fun _ => False) := by
  refine ez_ofW (cc := cX1_mostOf) (maxL := 5) (ret := (some .boolean)) (by decide) rfl ?_
  intro p e s m args below meth c s₁ B hml hTab hv
  obtain ⟨rfl, hsz, hP, hK, hD0, hE⟩ := hv
  have hx := B.exec
  have hb := B.bytes
  have hr := B.returns
  have hw9 : ∀ w ∈ kz_W9, w.before ([.int p0, .int p1] : List Value).toArray s = true := fun w h => atoms_spec (ws := wsX1_mostOf) B.pre w (List.mem_cons_of_mem _ h)
  have hown : s.vm.findClass RX1 = some m.cls := findClass_of_methodNamed B.named
  have hlocks := B.notSynchronized
  subst hsz
  have hD := hD0.self (sz := s.heap.size)
  generalize hAe : va_A ws s.heap.size = A at hD hE
  have hA : ∀ q : Nat, s.heap.size ≤ q → A q := fun q h => by rw [← hAe]; exact Or.inr h
  have hS : va_S A s.heap s.heap [] := va_S.rf
  have hO : kz_O s.heap s.heap := kz_O.rf _
  have hl := lv_entry ([.int p0, .int p1]) (n := 5) (Nat.le_of_ble_eq_true rfl)
  rw [lg_entry_eq]
  generalize (lg_sl ([.int p0, .int p1]) ++ List.replicate (5 - (lg_sl ([.int p0, .int p1])).length) Slot.unset).toArray = ls at hl ⊢
  have hl : lv_has ls 5 [(0, .int p0), (1, .int p1)] := hl
  refine lv_iconst (v := 0) hx hb dX1_mostOf_0 (by decide) ?_
  refine lv_istore_n (lv' := [(2, .int 0), (0, .int p0), (1, .int p1)]) hx hb dX1_mostOf_1 rfl hl (by decide) rfl (fun ls hl => ?_)
  refine lv_iconst (v := 0) hx hb dX1_mostOf_2 (by decide) ?_
  refine lv_istore_n (lv' := [(3, .int 0), (2, .int 0), (0, .int p0), (1, .int p1)]) hx hb dX1_mostOf_3 rfl hl (by decide) rfl (fun ls hl => ?_)
  refine lv_iconst (v := 0) hx hb dX1_mostOf_4 (by decide) ?_
  refine lv_istore (lv' := [(4, .int 0), (3, .int 0), (2, .int 0), (0, .int p0), (1, .int p1)]) hx hb dX1_mostOf_5 hl (by decide) rfl (fun ls hl => ?_)
  have loop : ∀ (k i : Nat) (H : Heap) (ls : Array Slot), i ≤ 7 → 7 < i + k → va_P D vwCl ws H → va_S A s.heap H [] → kz_O s.heap H → lv_has ls 5 [(4, .int (nI i)), (3, .int (nI (sm_pc y i))), (2, .int (nI (sm_pc (x &&& y) i))), (0, .int p0), (1, .int p1)] → W p l e (headSpec wsX1_mostOf ({ frames := 1, cells := 1, slots := 6, locals := 21 } : Room)).room s m ([.int p0, .int p1] : List Value).toArray below meth c H [] 0 0 (ez_MQ below (kz_Ro (kz_i (fun r9 => r9 = (sq_z (sq_H p0 p1))))) (kz_T (fun _ => IAE) (fun _ => False)) s 0 0 (fun _ => False)) (F0 m 7 ls []) := by
    intro k
    induction k with
    | zero => intro i H ls h1 h2; omega
    | succ k ih =>
      intro i H ls h1 h2 hP hS hO hl
      refine lv_iload hx hb dX1_mostOf_7 (lv_at hl 0 rfl) ?_
      refine lv_bipush (v := 7) hx hb dX1_mostOf_9 (by decide) ?_
      refine lv_icmp_ge (tgt := 63) hx hb dX1_mostOf_11 (by decide) (fun c_1 => ?_) (fun c_1 => ?_)
      · -- 11 -> 63
        refine lv_iconst (v := 2) hx hb dX1_mostOf_63 (by decide) ?_
        refine lv_iload_n hx hb dX1_mostOf_64 rfl (lv_at hl 2 rfl) ?_
        refine lv_imul hx hb dX1_mostOf_65 ?_
        refine lv_iload_n hx hb dX1_mostOf_66 rfl (lv_at hl 1 rfl) ?_
        refine lv_icmp_le (tgt := 74) hx hb dX1_mostOf_67 (by decide) (fun c_2 => ?_) (fun c_2 => ?_)
        · -- 67 -> 74
          refine lv_iconst (v := 0) hx hb dX1_mostOf_74 (by decide) ?_
          exact kz_retz hx hb hr hlocks hO (by rw [show i = 7 from kz_i7 h1 c_1] at c_2; exact sm_most0 hx8 hy ex ey c_2) rfl dX1_mostOf_75
        · -- 67 -> 70
          refine lv_iconst (v := 1) hx hb dX1_mostOf_70 (by decide) ?_
          refine lv_goto (tgt := 75) hx hb dX1_mostOf_71 (by decide) ?_
          exact kz_retz hx hb hr hlocks hO (by rw [show i = 7 from kz_i7 h1 c_1] at c_2; exact sm_most1 hx8 hy ex ey c_2) rfl dX1_mostOf_75
      · -- 11 -> 14
        have hi9 : i < 7 := kz_l7 h1 c_1
        have hc9 : (nI i).toNatClampNeg = i := nI_clamp (by omega)
        refine lv_iload_n hx hb dX1_mostOf_14 rfl (lv_at hl 1 rfl) ?_
        refine lv_iload_n hx hb dX1_mostOf_15 rfl (lv_at hl 4 rfl) ?_
        refine lv_iload hx hb dX1_mostOf_16 (lv_at hl 0 rfl) ?_
        refine kz_rS (As := [.int p1, .int (nI i)]) (rest := [.int (nI (sm_pc y i))]) ⟨hx, hb, hml, hown, hw9⟩ (c_X1_has l hl9 D tys ws H.size p1 (nI i)) (kz_cS 2 hw9 mw_400 mw_401 mw_2 mw_402 rfl rfl (by decide +kernel) ⟨Nat.le_of_ble_eq_true rfl, Nat.le_of_ble_eq_true rfl⟩) (kz_preS hK hP hD hS hA hE) rfl hl.1 rfl (Nat.le_of_ble_eq_true rfl) dX1_mostOf_18 ⟨Nat.le_of_ble_eq_true rfl, Nat.le_of_ble_eq_true rfl⟩ (fun _ _ _ _ h => False.elim h) (fun v9 H hv9 hO1 => ?_)
        obtain ⟨_, rfl, rfl⟩ := hv9
        have hP := hO1.P hP
        have hS := hO1.S hS
        have hO := hO.tr hO1
        refine W.eq (g2 := F0 m 21 ls [.int (sq_z (sm_h p1 (nI i))), .int (nI (sm_pc y i))]) rfl ?_
        refine lv_if_eq (tgt := 28) hx hb dX1_mostOf_21 (by decide) (fun c_3 => ?_) (fun c_3 => ?_)
        · -- 21 -> 28
          refine lv_iconst (v := 0) hx hb dX1_mostOf_28 (by decide) ?_
          refine lv_iadd hx hb dX1_mostOf_29 ?_
          refine lv_istore_n (lv' := [(3, .int ((nI (sm_pc y i)) + 0)), (4, .int (nI i)), (2, .int (nI (sm_pc (x &&& y) i))), (0, .int p0), (1, .int p1)]) hx hb dX1_mostOf_30 rfl hl (by decide) rfl (fun ls hl => ?_)
          refine lv_iload_n hx hb dX1_mostOf_31 rfl (lv_at hl 2 rfl) ?_
          refine lv_iload_n hx hb dX1_mostOf_32 rfl (lv_at hl 4 rfl) ?_
          refine lv_iload hx hb dX1_mostOf_33 (lv_at hl 1 rfl) ?_
          refine kz_rS (As := [.int p1, .int (nI i)]) (rest := [.int (nI (sm_pc (x &&& y) i))]) ⟨hx, hb, hml, hown, hw9⟩ (c_X1_has l hl9 D tys ws H.size p1 (nI i)) (kz_cS 2 hw9 mw_400 mw_401 mw_2 mw_402 rfl rfl (by decide +kernel) ⟨Nat.le_of_ble_eq_true rfl, Nat.le_of_ble_eq_true rfl⟩) (kz_preS hK hP hD hS hA hE) rfl hl.1 rfl (Nat.le_of_ble_eq_true rfl) dX1_mostOf_35 ⟨Nat.le_of_ble_eq_true rfl, Nat.le_of_ble_eq_true rfl⟩ (fun _ _ _ _ h => False.elim h) (fun v9 H hv9 hO1 => ?_)
          obtain ⟨_, rfl, rfl⟩ := hv9
          have hP := hO1.P hP
          have hS := hO1.S hS
          have hO := hO.tr hO1
          refine W.eq (g2 := F0 m 38 ls [.int (sq_z (sm_h p1 (nI i))), .int (nI (sm_pc (x &&& y) i))]) rfl ?_
          refine lv_if_eq (tgt := 54) hx hb dX1_mostOf_38 (by decide) (fun c_4 => ?_) (fun c_4 => ?_)
          · -- 38 -> 54
            refine lv_iconst (v := 0) hx hb dX1_mostOf_54 (by decide) ?_
            refine lv_iadd hx hb dX1_mostOf_55 ?_
            refine lv_istore_n (lv' := [(2, .int ((nI (sm_pc (x &&& y) i)) + 0)), (3, .int ((nI (sm_pc y i)) + 0)), (4, .int (nI i)), (0, .int p0), (1, .int p1)]) hx hb dX1_mostOf_56 rfl hl (by decide) rfl (fun ls hl => ?_)
            obtain ⟨v_5, ev_5⟩ : ∃ y : Int32, y = (nI i) + 1 := ⟨_, rfl⟩
            refine lv_iinc (v := v_5) (lv' := [(4, .int v_5), (2, .int ((nI (sm_pc (x &&& y) i)) + 0)), (3, .int ((nI (sm_pc y i)) + 0)), (0, .int p0), (1, .int p1)]) hx hb dX1_mostOf_57 hl (k := 2) rfl (by rw [ev_5]; rfl) (by decide) rfl (fun ls hl => ?_)
            refine lv_goto (tgt := 7) hx hb dX1_mostOf_60 (by decide) ?_
            obtain rfl : v_5 = nI (i + 1) := by rw [ev_5, nI_1]
            have t1 : sm_h p1 (nI i) = y.testBit i := by rw [ey]; exact sm_has y hy i hi9
            have t0 : sm_h p0 (nI i) = x.testBit i := by rw [ex]; exact sm_has x hx8 i hi9
            have e3 : nI (sm_pc y (i + 1)) = ((nI (sm_pc y i)) + 0) := by simp [sm_pc, ← t1, nI_1, c_1, (Int32.not_le.mp c_1), (sq_z_f c_3), (sq_z_f c_4)]
            have e2 : nI (sm_pc (x &&& y) (i + 1)) = ((nI (sm_pc (x &&& y) i)) + 0) := by simp [sm_pc, Nat.testBit_and, ← t1, ← t0, nI_1, c_1, (Int32.not_le.mp c_1), (sq_z_f c_3), (sq_z_f c_4)]
            exact ih (i + 1) H ls (by omega) (by omega) hP hS hO (by rw [e3, e2]; exact lv_sub hl [0, 2, 1, 3, 4] rfl)
          · -- 38 -> 41
            exact absurd c_3 c_4
        · -- 21 -> 24
          refine lv_iconst (v := 1) hx hb dX1_mostOf_24 (by decide) ?_
          refine lv_goto (tgt := 29) hx hb dX1_mostOf_25 (by decide) ?_
          refine lv_iadd hx hb dX1_mostOf_29 ?_
          refine lv_istore_n (lv' := [(3, .int ((nI (sm_pc y i)) + 1)), (4, .int (nI i)), (2, .int (nI (sm_pc (x &&& y) i))), (0, .int p0), (1, .int p1)]) hx hb dX1_mostOf_30 rfl hl (by decide) rfl (fun ls hl => ?_)
          refine lv_iload_n hx hb dX1_mostOf_31 rfl (lv_at hl 2 rfl) ?_
          refine lv_iload_n hx hb dX1_mostOf_32 rfl (lv_at hl 4 rfl) ?_
          refine lv_iload hx hb dX1_mostOf_33 (lv_at hl 1 rfl) ?_
          refine kz_rS (As := [.int p1, .int (nI i)]) (rest := [.int (nI (sm_pc (x &&& y) i))]) ⟨hx, hb, hml, hown, hw9⟩ (c_X1_has l hl9 D tys ws H.size p1 (nI i)) (kz_cS 2 hw9 mw_400 mw_401 mw_2 mw_402 rfl rfl (by decide +kernel) ⟨Nat.le_of_ble_eq_true rfl, Nat.le_of_ble_eq_true rfl⟩) (kz_preS hK hP hD hS hA hE) rfl hl.1 rfl (Nat.le_of_ble_eq_true rfl) dX1_mostOf_35 ⟨Nat.le_of_ble_eq_true rfl, Nat.le_of_ble_eq_true rfl⟩ (fun _ _ _ _ h => False.elim h) (fun v9 H hv9 hO1 => ?_)
          obtain ⟨_, rfl, rfl⟩ := hv9
          have hP := hO1.P hP
          have hS := hO1.S hS
          have hO := hO.tr hO1
          refine W.eq (g2 := F0 m 38 ls [.int (sq_z (sm_h p1 (nI i))), .int (nI (sm_pc (x &&& y) i))]) rfl ?_
          refine lv_if_eq (tgt := 54) hx hb dX1_mostOf_38 (by decide) (fun c_6 => ?_) (fun c_6 => ?_)
          · -- 38 -> 54
            exact absurd c_6 c_3
          · -- 38 -> 41
            refine lv_iload_n hx hb dX1_mostOf_41 rfl (lv_at hl 3 rfl) ?_
            refine lv_iload hx hb dX1_mostOf_42 (lv_at hl 1 rfl) ?_
            refine kz_rS (As := [.int p0, .int (nI i)]) (rest := [.int (nI (sm_pc (x &&& y) i))]) ⟨hx, hb, hml, hown, hw9⟩ (c_X1_has l hl9 D tys ws H.size p0 (nI i)) (kz_cS 2 hw9 mw_400 mw_401 mw_2 mw_402 rfl rfl (by decide +kernel) ⟨Nat.le_of_ble_eq_true rfl, Nat.le_of_ble_eq_true rfl⟩) (kz_preS hK hP hD hS hA hE) rfl hl.1 rfl (Nat.le_of_ble_eq_true rfl) dX1_mostOf_44 ⟨Nat.le_of_ble_eq_true rfl, Nat.le_of_ble_eq_true rfl⟩ (fun _ _ _ _ h => False.elim h) (fun v9 H hv9 hO1 => ?_)
            obtain ⟨_, rfl, rfl⟩ := hv9
            have hP := hO1.P hP
            have hS := hO1.S hS
            have hO := hO.tr hO1
            refine W.eq (g2 := F0 m 47 ls [.int (sq_z (sm_h p0 (nI i))), .int (nI (sm_pc (x &&& y) i))]) rfl ?_
            refine lv_if_eq (tgt := 54) hx hb dX1_mostOf_47 (by decide) (fun c_7 => ?_) (fun c_7 => ?_)
            · -- 47 -> 54
              refine lv_iconst (v := 0) hx hb dX1_mostOf_54 (by decide) ?_
              refine lv_iadd hx hb dX1_mostOf_55 ?_
              refine lv_istore_n (lv' := [(2, .int ((nI (sm_pc (x &&& y) i)) + 0)), (3, .int ((nI (sm_pc y i)) + 1)), (4, .int (nI i)), (0, .int p0), (1, .int p1)]) hx hb dX1_mostOf_56 rfl hl (by decide) rfl (fun ls hl => ?_)
              obtain ⟨v_8, ev_8⟩ : ∃ y : Int32, y = (nI i) + 1 := ⟨_, rfl⟩
              refine lv_iinc (v := v_8) (lv' := [(4, .int v_8), (2, .int ((nI (sm_pc (x &&& y) i)) + 0)), (3, .int ((nI (sm_pc y i)) + 1)), (0, .int p0), (1, .int p1)]) hx hb dX1_mostOf_57 hl (k := 2) rfl (by rw [ev_8]; rfl) (by decide) rfl (fun ls hl => ?_)
              refine lv_goto (tgt := 7) hx hb dX1_mostOf_60 (by decide) ?_
              obtain rfl : v_8 = nI (i + 1) := by rw [ev_8, nI_1]
              have t1 : sm_h p1 (nI i) = y.testBit i := by rw [ey]; exact sm_has y hy i hi9
              have t0 : sm_h p0 (nI i) = x.testBit i := by rw [ex]; exact sm_has x hx8 i hi9
              have e3 : nI (sm_pc y (i + 1)) = ((nI (sm_pc y i)) + 1) := by simp [sm_pc, ← t1, nI_1, c_1, (Int32.not_le.mp c_1), (sq_z_t c_3), (sq_z_t c_6), (sq_z_f c_7)]
              have e2 : nI (sm_pc (x &&& y) (i + 1)) = ((nI (sm_pc (x &&& y) i)) + 0) := by simp [sm_pc, Nat.testBit_and, ← t1, ← t0, nI_1, c_1, (Int32.not_le.mp c_1), (sq_z_t c_3), (sq_z_t c_6), (sq_z_f c_7)]
              exact ih (i + 1) H ls (by omega) (by omega) hP hS hO (by rw [e3, e2]; exact lv_sub hl [0, 2, 1, 3, 4] rfl)
            · -- 47 -> 50
              refine lv_iconst (v := 1) hx hb dX1_mostOf_50 (by decide) ?_
              refine lv_goto (tgt := 55) hx hb dX1_mostOf_51 (by decide) ?_
              refine lv_iadd hx hb dX1_mostOf_55 ?_
              refine lv_istore_n (lv' := [(2, .int ((nI (sm_pc (x &&& y) i)) + 1)), (3, .int ((nI (sm_pc y i)) + 1)), (4, .int (nI i)), (0, .int p0), (1, .int p1)]) hx hb dX1_mostOf_56 rfl hl (by decide) rfl (fun ls hl => ?_)
              obtain ⟨v_9, ev_9⟩ : ∃ y : Int32, y = (nI i) + 1 := ⟨_, rfl⟩
              refine lv_iinc (v := v_9) (lv' := [(4, .int v_9), (2, .int ((nI (sm_pc (x &&& y) i)) + 1)), (3, .int ((nI (sm_pc y i)) + 1)), (0, .int p0), (1, .int p1)]) hx hb dX1_mostOf_57 hl (k := 2) rfl (by rw [ev_9]; rfl) (by decide) rfl (fun ls hl => ?_)
              refine lv_goto (tgt := 7) hx hb dX1_mostOf_60 (by decide) ?_
              obtain rfl : v_9 = nI (i + 1) := by rw [ev_9, nI_1]
              have t1 : sm_h p1 (nI i) = y.testBit i := by rw [ey]; exact sm_has y hy i hi9
              have t0 : sm_h p0 (nI i) = x.testBit i := by rw [ex]; exact sm_has x hx8 i hi9
              have e3 : nI (sm_pc y (i + 1)) = ((nI (sm_pc y i)) + 1) := by simp [sm_pc, ← t1, nI_1, c_1, (Int32.not_le.mp c_1), (sq_z_t c_3), (sq_z_t c_6), (sq_z_t c_7)]
              have e2 : nI (sm_pc (x &&& y) (i + 1)) = ((nI (sm_pc (x &&& y) i)) + 1) := by simp [sm_pc, Nat.testBit_and, ← t1, ← t0, nI_1, c_1, (Int32.not_le.mp c_1), (sq_z_t c_3), (sq_z_t c_6), (sq_z_t c_7)]
              exact ih (i + 1) H ls (by omega) (by omega) hP hS hO (by rw [e3, e2]; exact lv_sub hl [0, 2, 1, 3, 4] rfl)
  exact loop 8 0 _ ls (by decide) (by decide) hP hS hO (lv_sub hl [0, 1, 2, 3, 4] rfl)
set_option maxHeartbeats 4000000 in
set_option maxRecDepth 100000 in
theorem c_X1_carries (l : Launch) (hl9 : l.stackTraces = false) (D : va_G) (cI : ClassId) (ty : kz_Y) (bd : Nat → Nat) (rs : va_W) (sz : Nat) (th it o n g v r : Int32) (al : Nat → Int32) (p0 : Int32) (hM : sv_m it o n g v) (hs : sq_S p0 = true) : ez_M l yX1_carries wsX1_carries ({ frames := 2, cells := 1, slots := 6, locals := 45 } : Room) (kz_P D ((cI, .int) :: ty) (wM bd cI th it o n g v r al ++ rs) sz [.ref (bd 0), .int p0]) (kz_Ro (kz_i (fun r9 => r9 = (sq_z (sq_M o n p0))))) (kz_T (fun _ => IAE) (fun _ => False)) 0 0 (fun _ => False) := by
  refine ez_ofW (cc := cX1_carries) (maxL := 2) (ret := (some .boolean)) (by decide) rfl ?_
  intro p e s m args below meth c s₁ B hml hTab hv
  obtain ⟨rfl, hsz, hP, hK, hD0, hE⟩ := hv
  have hx := B.exec
  have hb := B.bytes
  have hr := B.returns
  have hw9 : ∀ w ∈ kz_W9, w.before ([.ref (bd 0), .int p0] : List Value).toArray s = true := fun w h => atoms_spec (ws := wsX1_carries) B.pre w (List.mem_cons_of_mem _ h)
  have hown : s.vm.findClass RX1 = some m.cls := findClass_of_methodNamed B.named
  have hlocks := B.notSynchronized
  subst hsz
  have hD := hD0.self (sz := s.heap.size)
  generalize hAe : va_A (wM bd cI th it o n g v r al ++ rs) s.heap.size = A at hD hE
  have hA : ∀ q : Nat, s.heap.size ≤ q → A q := fun q h => by rw [← hAe]; exact Or.inr h
  have hS : va_S A s.heap s.heap [] := va_S.rf
  have hO : kz_O s.heap s.heap := kz_O.rf _
  have hl := lv_entry ([.ref (bd 0), .int p0]) (n := 2) (Nat.le_of_ble_eq_true rfl)
  rw [lg_entry_eq]
  generalize (lg_sl ([.ref (bd 0), .int p0]) ++ List.replicate (2 - (lg_sl ([.ref (bd 0), .int p0])).length) Slot.unset).toArray = ls at hl ⊢
  have hl : lv_has ls 2 [(0, .ref (bd 0)), (1, .int p0)] := hl
  obtain ⟨hIt, hOo, hNn, hGg, hVv⟩ := id hM
  obtain ⟨xo, ho8, eo⟩ := sm_S hOo
  obtain ⟨xn, hn8, en⟩ := sm_S hNn
  obtain ⟨xg, hg8, eg⟩ := sm_S hGg
  obtain ⟨xv, hv8, ev⟩ := sm_S hVv
  obtain ⟨hIa, hIe⟩ := sm_srv hIt
  obtain ⟨xs, hs8, es⟩ := sm_S hs
  refine lv_iload_n hx hb dX1_carries_0 rfl (lv_at hl 1 rfl) ?_
  refine lv_aload_n hx hb dX1_carries_1 rfl (lv_at hl 0 rfl) ?_
  refine va_get (D := D) (ci := 1) (v := .int o) (C := RX1) (T := TX1) (N := 8) hx hb hw9 uX1 hown hK hP 0 rfl rfl 2 (by decide) (hw9 _ mw_362) (fun _ h9 => h9) rfl dX1_carries_2 ?_
  refine kz_rS (As := [.int p0, .int o]) (rest := []) ⟨hx, hb, hml, hown, hw9⟩ (c_X1_mostOf l hl9 D ((cI, .int) :: ty) (wM bd cI th it o n g v r al ++ rs) s.heap.size xs xo p0 o hs8 ho8 es eo) (kz_cS 2 hw9 mw_423 mw_424 mw_2 mw_425 rfl rfl (by decide +kernel) ⟨Nat.le_of_ble_eq_true rfl, Nat.le_of_ble_eq_true rfl⟩) (kz_preS hK hP hD hS hA hE) rfl hl.1 rfl (Nat.le_of_ble_eq_true rfl) dX1_carries_5 ⟨Nat.le_of_ble_eq_true rfl, Nat.le_of_ble_eq_true rfl⟩ (fun _ _ _ _ h => False.elim h) (fun v9 H hv9 hO1 => ?_)
  obtain ⟨_, rfl, rfl⟩ := hv9
  have hP := hO1.P hP
  have hS := hO1.S hS
  have hO := hO.tr hO1
  refine W.eq (g2 := F0 m 8 ls [.int (sq_z (sq_H p0 o))]) rfl ?_
  refine lv_if_eq (tgt := 33) hx hb dX1_carries_8 (by decide) (fun c_1 => ?_) (fun c_1 => ?_)
  · -- 8 -> 33
    refine lv_iconst (v := 0) hx hb dX1_carries_33 (by decide) ?_
    exact kz_retz hx hb hr hlocks hO (by first | (simp [sq_z, sq_M, (sq_z_f c_1)]; done) | (simp only [sq_z, sq_M, (sq_z_f c_1), eq_self, not_true_eq_false, not_false_eq_true, and_self, and_true, true_and, and_false, false_and, or_true, true_or, or_false, false_or, if_true, if_false, ite_true, ite_false, Bool.and_eq_true, decide_true, decide_false, decide_eq_true_eq, ne_eq, Nat.reduceEqDiff, Nat.one_ne_zero, Bool.false_eq_true, reduceCtorEq]; done) | (simp only [sq_z, sq_M, (sq_z_f c_1), eq_self, not_true_eq_false, not_false_eq_true, and_self, and_true, true_and, and_false, false_and, or_true, true_or, or_false, false_or, if_true, if_false, ite_true, ite_false, Bool.and_eq_true, decide_true, decide_false, decide_eq_true_eq, ne_eq, Nat.reduceEqDiff, Nat.one_ne_zero, Bool.false_eq_true, reduceCtorEq]; decide)) rfl dX1_carries_34
  · -- 8 -> 11
    refine lv_aload_n hx hb dX1_carries_11 rfl (lv_at hl 0 rfl) ?_
    refine va_get (D := D) (ci := 1) (v := .int n) (C := RX1) (T := TX1) (N := 8) hx hb hw9 uX1 hown hK hP 0 rfl rfl 3 (by decide) (hw9 _ mw_363) (fun _ h9 => h9) rfl dX1_carries_12 ?_
    refine lv_if_eq (tgt := 29) hx hb dX1_carries_15 (by decide) (fun c_2 => ?_) (fun c_2 => ?_)
    · -- 15 -> 29
      refine lv_iconst (v := 1) hx hb dX1_carries_29 (by decide) ?_
      refine lv_goto (tgt := 34) hx hb dX1_carries_30 (by decide) ?_
      exact kz_retz hx hb hr hlocks hO (by first | (simp [sq_z, sq_M, (sq_z_t c_1), c_2]; done) | (simp only [sq_z, sq_M, (sq_z_t c_1), c_2, eq_self, not_true_eq_false, not_false_eq_true, and_self, and_true, true_and, and_false, false_and, or_true, true_or, or_false, false_or, if_true, if_false, ite_true, ite_false, Bool.and_eq_true, decide_true, decide_false, decide_eq_true_eq, ne_eq, Nat.reduceEqDiff, Nat.one_ne_zero, Bool.false_eq_true, reduceCtorEq]; done) | (simp only [sq_z, sq_M, (sq_z_t c_1), c_2, eq_self, not_true_eq_false, not_false_eq_true, and_self, and_true, true_and, and_false, false_and, or_true, true_or, or_false, false_or, if_true, if_false, ite_true, ite_false, Bool.and_eq_true, decide_true, decide_false, decide_eq_true_eq, ne_eq, Nat.reduceEqDiff, Nat.one_ne_zero, Bool.false_eq_true, reduceCtorEq]; decide)) rfl dX1_carries_34
    · -- 15 -> 18
      refine lv_iload_n hx hb dX1_carries_18 rfl (lv_at hl 1 rfl) ?_
      refine lv_aload_n hx hb dX1_carries_19 rfl (lv_at hl 0 rfl) ?_
      refine va_get (D := D) (ci := 1) (v := .int n) (C := RX1) (T := TX1) (N := 8) hx hb hw9 uX1 hown hK hP 0 rfl rfl 3 (by decide) (hw9 _ mw_363) (fun _ h9 => h9) rfl dX1_carries_20 ?_
      refine kz_rS (As := [.int p0, .int n]) (rest := []) ⟨hx, hb, hml, hown, hw9⟩ (c_X1_mostOf l hl9 D ((cI, .int) :: ty) (wM bd cI th it o n g v r al ++ rs) H.size xs xn p0 n hs8 hn8 es en) (kz_cS 2 hw9 mw_423 mw_424 mw_2 mw_425 rfl rfl (by decide +kernel) ⟨Nat.le_of_ble_eq_true rfl, Nat.le_of_ble_eq_true rfl⟩) (kz_preS hK hP hD hS hA hE) rfl hl.1 rfl (Nat.le_of_ble_eq_true rfl) dX1_carries_23 ⟨Nat.le_of_ble_eq_true rfl, Nat.le_of_ble_eq_true rfl⟩ (fun _ _ _ _ h => False.elim h) (fun v9 H hv9 hO1 => ?_)
      obtain ⟨_, rfl, rfl⟩ := hv9
      have hP := hO1.P hP
      have hS := hO1.S hS
      have hO := hO.tr hO1
      refine W.eq (g2 := F0 m 26 ls [.int (sq_z (sq_H p0 n))]) rfl ?_
      refine lv_if_eq (tgt := 33) hx hb dX1_carries_26 (by decide) (fun c_3 => ?_) (fun c_3 => ?_)
      · -- 26 -> 33
        refine lv_iconst (v := 0) hx hb dX1_carries_33 (by decide) ?_
        exact kz_retz hx hb hr hlocks hO (by first | (simp [sq_z, sq_M, (sq_z_t c_1), c_2, (sq_z_f c_3)]; done) | (simp only [sq_z, sq_M, (sq_z_t c_1), c_2, (sq_z_f c_3), eq_self, not_true_eq_false, not_false_eq_true, and_self, and_true, true_and, and_false, false_and, or_true, true_or, or_false, false_or, if_true, if_false, ite_true, ite_false, Bool.and_eq_true, decide_true, decide_false, decide_eq_true_eq, ne_eq, Nat.reduceEqDiff, Nat.one_ne_zero, Bool.false_eq_true, reduceCtorEq]; done) | (simp only [sq_z, sq_M, (sq_z_t c_1), c_2, (sq_z_f c_3), eq_self, not_true_eq_false, not_false_eq_true, and_self, and_true, true_and, and_false, false_and, or_true, true_or, or_false, false_or, if_true, if_false, ite_true, ite_false, Bool.and_eq_true, decide_true, decide_false, decide_eq_true_eq, ne_eq, Nat.reduceEqDiff, Nat.one_ne_zero, Bool.false_eq_true, reduceCtorEq]; decide)) rfl dX1_carries_34
      · -- 26 -> 29
        refine lv_iconst (v := 1) hx hb dX1_carries_29 (by decide) ?_
        refine lv_goto (tgt := 34) hx hb dX1_carries_30 (by decide) ?_
        exact kz_retz hx hb hr hlocks hO (by first | (simp [sq_z, sq_M, (sq_z_t c_1), c_2, (sq_z_t c_3)]; done) | (simp only [sq_z, sq_M, (sq_z_t c_1), c_2, (sq_z_t c_3), eq_self, not_true_eq_false, not_false_eq_true, and_self, and_true, true_and, and_false, false_and, or_true, true_or, or_false, false_or, if_true, if_false, ite_true, ite_false, Bool.and_eq_true, decide_true, decide_false, decide_eq_true_eq, ne_eq, Nat.reduceEqDiff, Nat.one_ne_zero, Bool.false_eq_true, reduceCtorEq]; done) | (simp only [sq_z, sq_M, (sq_z_t c_1), c_2, (sq_z_t c_3), eq_self, not_true_eq_false, not_false_eq_true, and_self, and_true, true_and, and_false, false_and, or_true, true_or, or_false, false_or, if_true, if_false, ite_true, ite_false, Bool.and_eq_true, decide_true, decide_false, decide_eq_true_eq, ne_eq, Nat.reduceEqDiff, Nat.one_ne_zero, Bool.false_eq_true, reduceCtorEq]; decide)) rfl dX1_carries_34
end
section
set_option maxHeartbeats 4000000 in
set_option maxRecDepth 100000 in
theorem c_X1_peers (l : Launch) (hl9 : l.stackTraces = false) (D : va_G) (cI : ClassId) (ty : kz_Y) (bd : Nat → Nat) (rs : va_W) (sz : Nat) (th it o n g v r : Int32) (al : Nat → Int32) (hM : sv_m it o n g v) : ez_M l yX1_peers wsX1_peers ({ frames := 1, cells := 1, slots := 6, locals := 21 } : Room) (kz_P D ((cI, .int) :: ty) (wM bd cI th it o n g v r al ++ rs) sz [.ref (bd 0)]) (kz_Ro (kz_i (fun r9 => r9 = (sq_P it o n g)))) (kz_T (fun _ => IAE) (fun _ => False)) 0 0 (fun _ => False) := by
  refine ez_ofW (cc := cX1_peers) (maxL := 3) (ret := (some .int)) (by decide) rfl ?_
  intro p e s m args below meth c s₁ B hml hTab hv
  obtain ⟨rfl, hsz, hP, hK, hD0, hE⟩ := hv
  have hx := B.exec
  have hb := B.bytes
  have hr := B.returns
  have hw9 : ∀ w ∈ kz_W9, w.before ([.ref (bd 0)] : List Value).toArray s = true := fun w h => atoms_spec (ws := wsX1_peers) B.pre w (List.mem_cons_of_mem _ h)
  have hown : s.vm.findClass RX1 = some m.cls := findClass_of_methodNamed B.named
  have hlocks := B.notSynchronized
  subst hsz
  have hD := hD0.self (sz := s.heap.size)
  generalize hAe : va_A (wM bd cI th it o n g v r al ++ rs) s.heap.size = A at hD hE
  have hA : ∀ q : Nat, s.heap.size ≤ q → A q := fun q h => by rw [← hAe]; exact Or.inr h
  have hS : va_S A s.heap s.heap [] := va_S.rf
  have hO : kz_O s.heap s.heap := kz_O.rf _
  have hl := lv_entry ([.ref (bd 0)]) (n := 3) (Nat.le_of_ble_eq_true rfl)
  rw [lg_entry_eq]
  generalize (lg_sl ([.ref (bd 0)]) ++ List.replicate (3 - (lg_sl ([.ref (bd 0)])).length) Slot.unset).toArray = ls at hl ⊢
  have hl : lv_has ls 3 [(0, .ref (bd 0))] := hl
  obtain ⟨hIt, hOo, hNn, hGg, hVv⟩ := id hM
  obtain ⟨xo, ho8, eo⟩ := sm_S hOo
  obtain ⟨xn, hn8, en⟩ := sm_S hNn
  obtain ⟨xg, hg8, eg⟩ := sm_S hGg
  obtain ⟨xv, hv8, ev⟩ := sm_S hVv
  obtain ⟨hIa, hIe⟩ := sm_srv hIt
  refine lv_iconst (v := 0) hx hb dX1_peers_0 (by decide) ?_
  refine lv_istore_n (lv' := [(1, .int 0), (0, .ref (bd 0))]) hx hb dX1_peers_1 rfl hl (by decide) rfl (fun ls hl => ?_)
  refine lv_iconst (v := 0) hx hb dX1_peers_2 (by decide) ?_
  refine lv_istore_n (lv' := [(2, .int 0), (1, .int 0), (0, .ref (bd 0))]) hx hb dX1_peers_3 rfl hl (by decide) rfl (fun ls hl => ?_)
  have loop : ∀ (k i : Nat) (H : Heap) (ls : Array Slot), i ≤ 7 → 7 < i + k → va_P D vwCl (wM bd cI th it o n g v r al ++ rs) H → va_S A s.heap H [] → kz_O s.heap H → lv_has ls 3 [(2, .int (nI i)), (1, .int (nI (sm_pp (xo ||| xn ||| xg) it.toNatClampNeg i))), (0, .ref (bd 0))] → W p l e (headSpec wsX1_peers ({ frames := 1, cells := 1, slots := 6, locals := 21 } : Room)).room s m ([.ref (bd 0)] : List Value).toArray below meth c H [] 0 0 (ez_MQ below (kz_Ro (kz_i (fun r9 => r9 = (sq_P it o n g)))) (kz_T (fun _ => IAE) (fun _ => False)) s 0 0 (fun _ => False)) (F0 m 4 ls []) := by
    intro k
    induction k with
    | zero => intro i H ls h1 h2; omega
    | succ k ih =>
      intro i H ls h1 h2 hP hS hO hl
      refine lv_iload_n hx hb dX1_peers_4 rfl (lv_at hl 0 rfl) ?_
      refine lv_bipush (v := 7) hx hb dX1_peers_5 (by decide) ?_
      refine lv_icmp_ge (tgt := 67) hx hb dX1_peers_7 (by decide) (fun c_1 => ?_) (fun c_1 => ?_)
      · -- 7 -> 67
        refine lv_iload_n hx hb dX1_peers_67 rfl (lv_at hl 1 rfl) ?_
        exact kz_reti hx hb hr hlocks hO (by rw [show i = 7 from kz_i7 h1 c_1]; exact sm_peers hIa hIe ho8 hn8 hg8 eo en eg)  dX1_peers_68
      · -- 7 -> 10
        have hi9 : i < 7 := kz_l7 h1 c_1
        have hc9 : (nI i).toNatClampNeg = i := nI_clamp (by omega)
        refine lv_iload_n hx hb dX1_peers_10 rfl (lv_at hl 1 rfl) ?_
        refine lv_iload_n hx hb dX1_peers_11 rfl (lv_at hl 0 rfl) ?_
        refine lv_aload_n hx hb dX1_peers_12 rfl (lv_at hl 2 rfl) ?_
        refine va_get (D := D) (ci := 1) (v := .int it) (C := RX1) (T := TX1) (N := 8) hx hb hw9 uX1 hown hK hP 0 rfl rfl 1 (by decide) (hw9 _ mw_361) (fun _ h9 => h9) rfl dX1_peers_13 ?_
        refine lv_icmp_eq (tgt := 58) hx hb dX1_peers_16 (by decide) (fun c_2 => ?_) (fun c_2 => ?_)
        · -- 16 -> 58
          refine lv_iconst (v := 0) hx hb dX1_peers_58 (by decide) ?_
          refine lv_iadd hx hb dX1_peers_59 ?_
          refine lv_istore_n (lv' := [(1, .int ((nI (sm_pp (xo ||| xn ||| xg) it.toNatClampNeg i)) + 0)), (2, .int (nI i)), (0, .ref (bd 0))]) hx hb dX1_peers_60 rfl hl (by decide) rfl (fun ls hl => ?_)
          obtain ⟨v_3, ev_3⟩ : ∃ y : Int32, y = (nI i) + 1 := ⟨_, rfl⟩
          refine lv_iinc (v := v_3) (lv' := [(2, .int v_3), (1, .int ((nI (sm_pp (xo ||| xn ||| xg) it.toNatClampNeg i)) + 0)), (0, .ref (bd 0))]) hx hb dX1_peers_61 hl (k := 1) rfl (by rw [ev_3]; rfl) (by decide) rfl (fun ls hl => ?_)
          refine lv_goto (tgt := 4) hx hb dX1_peers_64 (by decide) ?_
          obtain rfl : v_3 = nI (i + 1) := by rw [ev_3, nI_1]
          have to : sm_h o (nI i) = xo.testBit i := by rw [eo]; exact sm_has xo ho8 i hi9
          have tn : sm_h n (nI i) = xn.testBit i := by rw [en]; exact sm_has xn hn8 i hi9
          have tg : sm_h g (nI i) = xg.testBit i := by rw [eg]; exact sm_has xg hg8 i hi9
          have ti : (nI i = it) = (i = it.toNatClampNeg) := propext ⟨fun h => by rw [← h]; exact hc9.symm, fun h => by rw [hIe, ← h]⟩
          have e1 : nI (sm_pp (xo ||| xn ||| xg) it.toNatClampNeg (i + 1)) = ((nI (sm_pp (xo ||| xn ||| xg) it.toNatClampNeg i)) + 0) := sm_pps hi9 (by simp [Nat.testBit_or, nI_0, sm_2k i hi9, ← to, ← tn, ← tg, ← ti, c_1, (Int32.not_le.mp c_1), c_2])
          exact ih (i + 1) H ls (by omega) (by omega) hP hS hO (by rw [e1]; exact lv_sub hl [0, 1, 2] rfl)
        · -- 16 -> 19
          refine lv_aload_n hx hb dX1_peers_19 rfl (lv_at hl 2 rfl) ?_
          refine va_get (D := D) (ci := 1) (v := .int o) (C := RX1) (T := TX1) (N := 8) hx hb hw9 uX1 hown hK hP 0 rfl rfl 2 (by decide) (hw9 _ mw_362) (fun _ h9 => h9) rfl dX1_peers_20 ?_
          refine lv_iload_n hx hb dX1_peers_23 rfl (lv_at hl 0 rfl) ?_
          refine kz_rS (As := [.int o, .int (nI i)]) (rest := [.int (nI (sm_pp (xo ||| xn ||| xg) it.toNatClampNeg i))]) ⟨hx, hb, hml, hown, hw9⟩ (c_X1_has l hl9 D ((cI, .int) :: ty) (wM bd cI th it o n g v r al ++ rs) H.size o (nI i)) (kz_cS 2 hw9 mw_400 mw_401 mw_2 mw_402 rfl rfl (by decide +kernel) ⟨Nat.le_of_ble_eq_true rfl, Nat.le_of_ble_eq_true rfl⟩) (kz_preS hK hP hD hS hA hE) rfl hl.1 rfl (Nat.le_of_ble_eq_true rfl) dX1_peers_24 ⟨Nat.le_of_ble_eq_true rfl, Nat.le_of_ble_eq_true rfl⟩ (fun _ _ _ _ h => False.elim h) (fun v9 H hv9 hO1 => ?_)
          obtain ⟨_, rfl, rfl⟩ := hv9
          have hP := hO1.P hP
          have hS := hO1.S hS
          have hO := hO.tr hO1
          refine W.eq (g2 := F0 m 27 ls [.int (sq_z (sm_h o (nI i))), .int (nI (sm_pp (xo ||| xn ||| xg) it.toNatClampNeg i))]) rfl ?_
          refine lv_if_ne (tgt := 52) hx hb dX1_peers_27 (by decide) (fun c_4 => ?_) (fun c_4 => ?_)
          · -- 27 -> 52
            refine lv_iconst (v := 1) hx hb dX1_peers_52 (by decide) ?_
            refine lv_iload_n hx hb dX1_peers_53 rfl (lv_at hl 0 rfl) ?_
            refine lv_ishl hx hb dX1_peers_54 ?_
            refine lv_goto (tgt := 59) hx hb dX1_peers_55 (by decide) ?_
            refine lv_iadd hx hb dX1_peers_59 ?_
            refine lv_istore_n (lv' := [(1, .int ((nI (sm_pp (xo ||| xn ||| xg) it.toNatClampNeg i)) + (1 <<< ((nI i) &&& 31)))), (2, .int (nI i)), (0, .ref (bd 0))]) hx hb dX1_peers_60 rfl hl (by decide) rfl (fun ls hl => ?_)
            obtain ⟨v_5, ev_5⟩ : ∃ y : Int32, y = (nI i) + 1 := ⟨_, rfl⟩
            refine lv_iinc (v := v_5) (lv' := [(2, .int v_5), (1, .int ((nI (sm_pp (xo ||| xn ||| xg) it.toNatClampNeg i)) + (1 <<< ((nI i) &&& 31)))), (0, .ref (bd 0))]) hx hb dX1_peers_61 hl (k := 1) rfl (by rw [ev_5]; rfl) (by decide) rfl (fun ls hl => ?_)
            refine lv_goto (tgt := 4) hx hb dX1_peers_64 (by decide) ?_
            obtain rfl : v_5 = nI (i + 1) := by rw [ev_5, nI_1]
            have to : sm_h o (nI i) = xo.testBit i := by rw [eo]; exact sm_has xo ho8 i hi9
            have tn : sm_h n (nI i) = xn.testBit i := by rw [en]; exact sm_has xn hn8 i hi9
            have tg : sm_h g (nI i) = xg.testBit i := by rw [eg]; exact sm_has xg hg8 i hi9
            have ti : (nI i = it) = (i = it.toNatClampNeg) := propext ⟨fun h => by rw [← h]; exact hc9.symm, fun h => by rw [hIe, ← h]⟩
            have e1 : nI (sm_pp (xo ||| xn ||| xg) it.toNatClampNeg (i + 1)) = ((nI (sm_pp (xo ||| xn ||| xg) it.toNatClampNeg i)) + (1 <<< ((nI i) &&& 31))) := sm_pps hi9 (by simp [Nat.testBit_or, nI_0, sm_2k i hi9, ← to, ← tn, ← tg, ← ti, c_1, (Int32.not_le.mp c_1), c_2, (sq_z_t c_4)])
            exact ih (i + 1) H ls (by omega) (by omega) hP hS hO (by rw [e1]; exact lv_sub hl [0, 1, 2] rfl)
          · -- 27 -> 30
            refine lv_aload_n hx hb dX1_peers_30 rfl (lv_at hl 2 rfl) ?_
            refine va_get (D := D) (ci := 1) (v := .int n) (C := RX1) (T := TX1) (N := 8) hx hb hw9 uX1 hown hK hP 0 rfl rfl 3 (by decide) (hw9 _ mw_363) (fun _ h9 => h9) rfl dX1_peers_31 ?_
            refine lv_iload_n hx hb dX1_peers_34 rfl (lv_at hl 0 rfl) ?_
            refine kz_rS (As := [.int n, .int (nI i)]) (rest := [.int (nI (sm_pp (xo ||| xn ||| xg) it.toNatClampNeg i))]) ⟨hx, hb, hml, hown, hw9⟩ (c_X1_has l hl9 D ((cI, .int) :: ty) (wM bd cI th it o n g v r al ++ rs) H.size n (nI i)) (kz_cS 2 hw9 mw_400 mw_401 mw_2 mw_402 rfl rfl (by decide +kernel) ⟨Nat.le_of_ble_eq_true rfl, Nat.le_of_ble_eq_true rfl⟩) (kz_preS hK hP hD hS hA hE) rfl hl.1 rfl (Nat.le_of_ble_eq_true rfl) dX1_peers_35 ⟨Nat.le_of_ble_eq_true rfl, Nat.le_of_ble_eq_true rfl⟩ (fun _ _ _ _ h => False.elim h) (fun v9 H hv9 hO1 => ?_)
            obtain ⟨_, rfl, rfl⟩ := hv9
            have hP := hO1.P hP
            have hS := hO1.S hS
            have hO := hO.tr hO1
            refine W.eq (g2 := F0 m 38 ls [.int (sq_z (sm_h n (nI i))), .int (nI (sm_pp (xo ||| xn ||| xg) it.toNatClampNeg i))]) rfl ?_
            refine lv_if_ne (tgt := 52) hx hb dX1_peers_38 (by decide) (fun c_6 => ?_) (fun c_6 => ?_)
            · -- 38 -> 52
              refine lv_iconst (v := 1) hx hb dX1_peers_52 (by decide) ?_
              refine lv_iload_n hx hb dX1_peers_53 rfl (lv_at hl 0 rfl) ?_
              refine lv_ishl hx hb dX1_peers_54 ?_
              refine lv_goto (tgt := 59) hx hb dX1_peers_55 (by decide) ?_
              refine lv_iadd hx hb dX1_peers_59 ?_
              refine lv_istore_n (lv' := [(1, .int ((nI (sm_pp (xo ||| xn ||| xg) it.toNatClampNeg i)) + (1 <<< ((nI i) &&& 31)))), (2, .int (nI i)), (0, .ref (bd 0))]) hx hb dX1_peers_60 rfl hl (by decide) rfl (fun ls hl => ?_)
              obtain ⟨v_7, ev_7⟩ : ∃ y : Int32, y = (nI i) + 1 := ⟨_, rfl⟩
              refine lv_iinc (v := v_7) (lv' := [(2, .int v_7), (1, .int ((nI (sm_pp (xo ||| xn ||| xg) it.toNatClampNeg i)) + (1 <<< ((nI i) &&& 31)))), (0, .ref (bd 0))]) hx hb dX1_peers_61 hl (k := 1) rfl (by rw [ev_7]; rfl) (by decide) rfl (fun ls hl => ?_)
              refine lv_goto (tgt := 4) hx hb dX1_peers_64 (by decide) ?_
              obtain rfl : v_7 = nI (i + 1) := by rw [ev_7, nI_1]
              have to : sm_h o (nI i) = xo.testBit i := by rw [eo]; exact sm_has xo ho8 i hi9
              have tn : sm_h n (nI i) = xn.testBit i := by rw [en]; exact sm_has xn hn8 i hi9
              have tg : sm_h g (nI i) = xg.testBit i := by rw [eg]; exact sm_has xg hg8 i hi9
              have ti : (nI i = it) = (i = it.toNatClampNeg) := propext ⟨fun h => by rw [← h]; exact hc9.symm, fun h => by rw [hIe, ← h]⟩
              have e1 : nI (sm_pp (xo ||| xn ||| xg) it.toNatClampNeg (i + 1)) = ((nI (sm_pp (xo ||| xn ||| xg) it.toNatClampNeg i)) + (1 <<< ((nI i) &&& 31))) := sm_pps hi9 (by simp [Nat.testBit_or, nI_0, sm_2k i hi9, ← to, ← tn, ← tg, ← ti, c_1, (Int32.not_le.mp c_1), c_2, (sq_z_f c_4), (sq_z_t c_6)])
              exact ih (i + 1) H ls (by omega) (by omega) hP hS hO (by rw [e1]; exact lv_sub hl [0, 1, 2] rfl)
            · -- 38 -> 41
              refine lv_aload_n hx hb dX1_peers_41 rfl (lv_at hl 2 rfl) ?_
              refine va_get (D := D) (ci := 1) (v := .int g) (C := RX1) (T := TX1) (N := 8) hx hb hw9 uX1 hown hK hP 0 rfl rfl 4 (by decide) (hw9 _ mw_364) (fun _ h9 => h9) rfl dX1_peers_42 ?_
              refine lv_iload_n hx hb dX1_peers_45 rfl (lv_at hl 0 rfl) ?_
              refine kz_rS (As := [.int g, .int (nI i)]) (rest := [.int (nI (sm_pp (xo ||| xn ||| xg) it.toNatClampNeg i))]) ⟨hx, hb, hml, hown, hw9⟩ (c_X1_has l hl9 D ((cI, .int) :: ty) (wM bd cI th it o n g v r al ++ rs) H.size g (nI i)) (kz_cS 2 hw9 mw_400 mw_401 mw_2 mw_402 rfl rfl (by decide +kernel) ⟨Nat.le_of_ble_eq_true rfl, Nat.le_of_ble_eq_true rfl⟩) (kz_preS hK hP hD hS hA hE) rfl hl.1 rfl (Nat.le_of_ble_eq_true rfl) dX1_peers_46 ⟨Nat.le_of_ble_eq_true rfl, Nat.le_of_ble_eq_true rfl⟩ (fun _ _ _ _ h => False.elim h) (fun v9 H hv9 hO1 => ?_)
              obtain ⟨_, rfl, rfl⟩ := hv9
              have hP := hO1.P hP
              have hS := hO1.S hS
              have hO := hO.tr hO1
              refine W.eq (g2 := F0 m 49 ls [.int (sq_z (sm_h g (nI i))), .int (nI (sm_pp (xo ||| xn ||| xg) it.toNatClampNeg i))]) rfl ?_
              refine lv_if_eq (tgt := 58) hx hb dX1_peers_49 (by decide) (fun c_8 => ?_) (fun c_8 => ?_)
              · -- 49 -> 58
                refine lv_iconst (v := 0) hx hb dX1_peers_58 (by decide) ?_
                refine lv_iadd hx hb dX1_peers_59 ?_
                refine lv_istore_n (lv' := [(1, .int ((nI (sm_pp (xo ||| xn ||| xg) it.toNatClampNeg i)) + 0)), (2, .int (nI i)), (0, .ref (bd 0))]) hx hb dX1_peers_60 rfl hl (by decide) rfl (fun ls hl => ?_)
                obtain ⟨v_9, ev_9⟩ : ∃ y : Int32, y = (nI i) + 1 := ⟨_, rfl⟩
                refine lv_iinc (v := v_9) (lv' := [(2, .int v_9), (1, .int ((nI (sm_pp (xo ||| xn ||| xg) it.toNatClampNeg i)) + 0)), (0, .ref (bd 0))]) hx hb dX1_peers_61 hl (k := 1) rfl (by rw [ev_9]; rfl) (by decide) rfl (fun ls hl => ?_)
                refine lv_goto (tgt := 4) hx hb dX1_peers_64 (by decide) ?_
                obtain rfl : v_9 = nI (i + 1) := by rw [ev_9, nI_1]
                have to : sm_h o (nI i) = xo.testBit i := by rw [eo]; exact sm_has xo ho8 i hi9
                have tn : sm_h n (nI i) = xn.testBit i := by rw [en]; exact sm_has xn hn8 i hi9
                have tg : sm_h g (nI i) = xg.testBit i := by rw [eg]; exact sm_has xg hg8 i hi9
                have ti : (nI i = it) = (i = it.toNatClampNeg) := propext ⟨fun h => by rw [← h]; exact hc9.symm, fun h => by rw [hIe, ← h]⟩
                have e1 : nI (sm_pp (xo ||| xn ||| xg) it.toNatClampNeg (i + 1)) = ((nI (sm_pp (xo ||| xn ||| xg) it.toNatClampNeg i)) + 0) := sm_pps hi9 (by simp [Nat.testBit_or, nI_0, sm_2k i hi9, ← to, ← tn, ← tg, ← ti, c_1, (Int32.not_le.mp c_1), c_2, (sq_z_f c_4), (sq_z_f c_6), (sq_z_f c_8)])
                exact ih (i + 1) H ls (by omega) (by omega) hP hS hO (by rw [e1]; exact lv_sub hl [0, 1, 2] rfl)
              · -- 49 -> 52
                refine lv_iconst (v := 1) hx hb dX1_peers_52 (by decide) ?_
                refine lv_iload_n hx hb dX1_peers_53 rfl (lv_at hl 0 rfl) ?_
                refine lv_ishl hx hb dX1_peers_54 ?_
                refine lv_goto (tgt := 59) hx hb dX1_peers_55 (by decide) ?_
                refine lv_iadd hx hb dX1_peers_59 ?_
                refine lv_istore_n (lv' := [(1, .int ((nI (sm_pp (xo ||| xn ||| xg) it.toNatClampNeg i)) + (1 <<< ((nI i) &&& 31)))), (2, .int (nI i)), (0, .ref (bd 0))]) hx hb dX1_peers_60 rfl hl (by decide) rfl (fun ls hl => ?_)
                obtain ⟨v_10, ev_10⟩ : ∃ y : Int32, y = (nI i) + 1 := ⟨_, rfl⟩
                refine lv_iinc (v := v_10) (lv' := [(2, .int v_10), (1, .int ((nI (sm_pp (xo ||| xn ||| xg) it.toNatClampNeg i)) + (1 <<< ((nI i) &&& 31)))), (0, .ref (bd 0))]) hx hb dX1_peers_61 hl (k := 1) rfl (by rw [ev_10]; rfl) (by decide) rfl (fun ls hl => ?_)
                refine lv_goto (tgt := 4) hx hb dX1_peers_64 (by decide) ?_
                obtain rfl : v_10 = nI (i + 1) := by rw [ev_10, nI_1]
                have to : sm_h o (nI i) = xo.testBit i := by rw [eo]; exact sm_has xo ho8 i hi9
                have tn : sm_h n (nI i) = xn.testBit i := by rw [en]; exact sm_has xn hn8 i hi9
                have tg : sm_h g (nI i) = xg.testBit i := by rw [eg]; exact sm_has xg hg8 i hi9
                have ti : (nI i = it) = (i = it.toNatClampNeg) := propext ⟨fun h => by rw [← h]; exact hc9.symm, fun h => by rw [hIe, ← h]⟩
                have e1 : nI (sm_pp (xo ||| xn ||| xg) it.toNatClampNeg (i + 1)) = ((nI (sm_pp (xo ||| xn ||| xg) it.toNatClampNeg i)) + (1 <<< ((nI i) &&& 31))) := sm_pps hi9 (by simp [Nat.testBit_or, nI_0, sm_2k i hi9, ← to, ← tn, ← tg, ← ti, c_1, (Int32.not_le.mp c_1), c_2, (sq_z_f c_4), (sq_z_f c_6), (sq_z_t c_8)])
                exact ih (i + 1) H ls (by omega) (by omega) hP hS hO (by rw [e1]; exact lv_sub hl [0, 1, 2] rfl)
  exact loop 8 0 _ ls (by decide) (by decide) hP hS hO (lv_sub hl [0, 1, 2] rfl)
set_option maxHeartbeats 4000000 in
set_option maxRecDepth 100000 in
theorem c_X1_members (l : Launch) (hl9 : l.stackTraces = false) (D : va_G) (cI : ClassId) (ty : kz_Y) (bd : Nat → Nat) (rs : va_W) (sz : Nat) (th it o n g v r : Int32) (nx mt fl pr ofs ak hd an : Nat → Int32) (p0 : Int32) (p1 : Int32) (p2 : Int32) : ez_M l yX1_members wsX1_members ({ frames := 1, cells := 1, slots := 6, locals := 20 } : Room) (kz_P D ((cI, .int) :: ty) (wM bd cI th it o n g v r (sm_al nx mt fl pr ofs ak hd an) ++ rs) sz [.ref (bd 0), .int p0, .int p1, .int p2]) (kz_Wr D (va_A (wM bd cI th it o n g v r (sm_al nx mt fl pr ofs ak hd an) ++ rs) sz) (kz_v (True)) (wM bd cI (nI (tc_members p0 p1 p2)) it (if tc_members p0 p1 p2 = 0 then p0 else o) (if tc_members p0 p1 p2 = 0 then p1 else n) (if tc_members p0 p1 p2 = 0 then p2 else g) v r (sm_al nx mt fl pr ofs ak hd an) ++ rs)) (kz_T (fun _ => IAE) (fun _ => False)) 0 0 (va_A (wM bd cI th it o n g v r (sm_al nx mt fl pr ofs ak hd an) ++ rs) sz) := by
  refine ez_ofW (cc := cX1_members) (maxL := 4) (ret := none) (by decide) rfl ?_
  intro p e s m args below meth c s₁ B hml hTab hv
  obtain ⟨rfl, hsz, hP, hK, hD0, hE⟩ := hv
  have hx := B.exec
  have hb := B.bytes
  have hr := B.returns
  have hw9 : ∀ w ∈ kz_W9, w.before ([.ref (bd 0), .int p0, .int p1, .int p2] : List Value).toArray s = true := fun w h => atoms_spec (ws := wsX1_members) B.pre w (List.mem_cons_of_mem _ h)
  have hown : s.vm.findClass RX1 = some m.cls := findClass_of_methodNamed B.named
  have hlocks := B.notSynchronized
  subst hsz
  have hD := hD0.self (sz := s.heap.size)
  generalize hAe : va_A (wM bd cI th it o n g v r (sm_al nx mt fl pr ofs ak hd an) ++ rs) s.heap.size = A at hD hE ⊢
  have hA : ∀ q : Nat, s.heap.size ≤ q → A q := fun q h => by rw [← hAe]; exact Or.inr h
  have hS : va_S A s.heap s.heap [] := va_S.rf
  have hO : kz_O s.heap s.heap := kz_O.rf _
  have hl := lv_entry ([.ref (bd 0), .int p0, .int p1, .int p2]) (n := 4) (Nat.le_of_ble_eq_true rfl)
  rw [lg_entry_eq]
  generalize (lg_sl ([.ref (bd 0), .int p0, .int p1, .int p2]) ++ List.replicate (4 - (lg_sl ([.ref (bd 0), .int p0, .int p1, .int p2])).length) Slot.unset).toArray = ls at hl ⊢
  have hl : lv_has ls 4 [(0, .ref (bd 0)), (1, .int p0), (2, .int p1), (3, .int p2)] := hl
  refine lv_aload_n hx hb dX1_members_0 rfl (lv_at hl 0 rfl) ?_
  refine lv_iconst (v := 0) hx hb dX1_members_1 (by decide) ?_
  refine va_put (D := D) (ci := 1) (v := .int 0) (ty := .int) (C := RX1) (T := TX1) (N := 8) hx hb hw9 uX1 tyX1 tyX1_ok nmX1 hown hK hP hD hS 0 rfl rfl 0 (by decide) (hw9 _ mw_360) (fun _ h9 => h9) rfl (by decide +kernel) rfl rfl (Nat.le_of_ble_eq_true rfl) dX1_members_2 (fun H locs hP hD hS => ?_)
  have hP : va_P D vwCl (wM bd cI 0 it o n g v r (sm_al nx mt fl pr ofs ak hd an) ++ rs) H := hP
  have hD : va_D A (wM bd cI 0 it o n g v r (sm_al nx mt fl pr ofs ak hd an) ++ rs) := hD
  refine lv_iload_n hx hb dX1_members_5 rfl (lv_at hl 1 rfl) ?_
  refine kz_rS (As := [.int p0]) (rest := []) ⟨hx, hb, hml, hown, hw9⟩ (c_X1_isSet l hl9 D ((cI, .int) :: ty) (wM bd cI 0 it o n g v r (sm_al nx mt fl pr ofs ak hd an) ++ rs) H.size p0) (kz_cS 1 hw9 mw_393 mw_394 mw_2 mw_395 rfl rfl (by decide +kernel) ⟨Nat.le_of_ble_eq_true rfl, Nat.le_of_ble_eq_true rfl⟩) (kz_preS hK hP hD hS hA hE) rfl hl.1 rfl (Nat.le_of_ble_eq_true rfl) dX1_members_6 ⟨Nat.le_of_ble_eq_true rfl, Nat.le_of_ble_eq_true rfl⟩ (fun _ _ _ _ h => False.elim h) (fun v9 H hv9 hO1 => ?_)
  obtain ⟨_, rfl, rfl⟩ := hv9
  have hP := hO1.P hP
  have hS := hO1.S hS
  refine W.eq (g2 := F0 m 9 ls [.int (sq_z (sq_S p0))]) rfl ?_
  refine lv_if_eq (tgt := 38) hx hb dX1_members_9 (by decide) (fun c_1 => ?_) (fun c_1 => ?_)
  · -- 9 -> 38
    refine lv_aload_n hx hb dX1_members_38 rfl (lv_at hl 0 rfl) ?_
    refine lv_iconst (v := 1) hx hb dX1_members_39 (by decide) ?_
    refine va_put (D := D) (ci := 1) (v := .int 1) (ty := .int) (C := RX1) (T := TX1) (N := 8) hx hb hw9 uX1 tyX1 tyX1_ok nmX1 hown hK hP hD hS 0 rfl rfl 0 (by decide) (hw9 _ mw_360) (fun _ h9 => h9) rfl (by decide +kernel) rfl rfl (Nat.le_of_ble_eq_true rfl) dX1_members_40 (fun H locs hP hD hS => ?_)
    have hP : va_P D vwCl (wM bd cI 1 it o n g v r (sm_al nx mt fl pr ofs ak hd an) ++ rs) H := hP
    have hD : va_D A (wM bd cI 1 it o n g v r (sm_al nx mt fl pr ofs ak hd an) ++ rs) := hD
    have htc : tc_members p0 p1 p2 = 1 := by first | (simp [tc_members, (sq_z_f c_1)]; done) | (simp only [tc_members, (sq_z_f c_1), eq_self, not_true_eq_false, not_false_eq_true, and_self, and_true, true_and, and_false, false_and, or_true, true_or, or_false, false_or, if_true, if_false, ite_true, ite_false, Bool.and_eq_true, decide_true, decide_false, decide_eq_true_eq, ne_eq, Nat.reduceEqDiff, Nat.one_ne_zero, Bool.false_eq_true, reduceCtorEq]; done) | (simp only [tc_members, (sq_z_f c_1), eq_self, not_true_eq_false, not_false_eq_true, and_self, and_true, true_and, and_false, false_and, or_true, true_or, or_false, false_or, if_true, if_false, ite_true, ite_false, Bool.and_eq_true, decide_true, decide_false, decide_eq_true_eq, ne_eq, Nat.reduceEqDiff, Nat.one_ne_zero, Bool.false_eq_true, reduceCtorEq]; decide)
    exact kz_wretv hx hb hr hlocks (by rw [htc]; exact hP) (by rw [htc]; exact hD) hS (Nat.le_of_ble_eq_true rfl) (Nat.le_of_ble_eq_true rfl) (trivial)  dX1_members_43
  · -- 9 -> 12
    refine lv_iload_n hx hb dX1_members_12 rfl (lv_at hl 2 rfl) ?_
    refine kz_rS (As := [.int p1]) (rest := []) ⟨hx, hb, hml, hown, hw9⟩ (c_X1_isSet l hl9 D ((cI, .int) :: ty) (wM bd cI 0 it o n g v r (sm_al nx mt fl pr ofs ak hd an) ++ rs) H.size p1) (kz_cS 1 hw9 mw_393 mw_394 mw_2 mw_395 rfl rfl (by decide +kernel) ⟨Nat.le_of_ble_eq_true rfl, Nat.le_of_ble_eq_true rfl⟩) (kz_preS hK hP hD hS hA hE) rfl hl.1 rfl (Nat.le_of_ble_eq_true rfl) dX1_members_13 ⟨Nat.le_of_ble_eq_true rfl, Nat.le_of_ble_eq_true rfl⟩ (fun _ _ _ _ h => False.elim h) (fun v9 H hv9 hO1 => ?_)
    obtain ⟨_, rfl, rfl⟩ := hv9
    have hP := hO1.P hP
    have hS := hO1.S hS
    refine W.eq (g2 := F0 m 16 ls [.int (sq_z (sq_S p1))]) rfl ?_
    refine lv_if_eq (tgt := 38) hx hb dX1_members_16 (by decide) (fun c_2 => ?_) (fun c_2 => ?_)
    · -- 16 -> 38
      refine lv_aload_n hx hb dX1_members_38 rfl (lv_at hl 0 rfl) ?_
      refine lv_iconst (v := 1) hx hb dX1_members_39 (by decide) ?_
      refine va_put (D := D) (ci := 1) (v := .int 1) (ty := .int) (C := RX1) (T := TX1) (N := 8) hx hb hw9 uX1 tyX1 tyX1_ok nmX1 hown hK hP hD hS 0 rfl rfl 0 (by decide) (hw9 _ mw_360) (fun _ h9 => h9) rfl (by decide +kernel) rfl rfl (Nat.le_of_ble_eq_true rfl) dX1_members_40 (fun H locs hP hD hS => ?_)
      have hP : va_P D vwCl (wM bd cI 1 it o n g v r (sm_al nx mt fl pr ofs ak hd an) ++ rs) H := hP
      have hD : va_D A (wM bd cI 1 it o n g v r (sm_al nx mt fl pr ofs ak hd an) ++ rs) := hD
      have htc : tc_members p0 p1 p2 = 1 := by first | (simp [tc_members, (sq_z_t c_1), (sq_z_f c_2)]; done) | (simp only [tc_members, (sq_z_t c_1), (sq_z_f c_2), eq_self, not_true_eq_false, not_false_eq_true, and_self, and_true, true_and, and_false, false_and, or_true, true_or, or_false, false_or, if_true, if_false, ite_true, ite_false, Bool.and_eq_true, decide_true, decide_false, decide_eq_true_eq, ne_eq, Nat.reduceEqDiff, Nat.one_ne_zero, Bool.false_eq_true, reduceCtorEq]; done) | (simp only [tc_members, (sq_z_t c_1), (sq_z_f c_2), eq_self, not_true_eq_false, not_false_eq_true, and_self, and_true, true_and, and_false, false_and, or_true, true_or, or_false, false_or, if_true, if_false, ite_true, ite_false, Bool.and_eq_true, decide_true, decide_false, decide_eq_true_eq, ne_eq, Nat.reduceEqDiff, Nat.one_ne_zero, Bool.false_eq_true, reduceCtorEq]; decide)
      exact kz_wretv hx hb hr hlocks (by rw [htc]; exact hP) (by rw [htc]; exact hD) hS (Nat.le_of_ble_eq_true rfl) (Nat.le_of_ble_eq_true rfl) (trivial)  dX1_members_43
    · -- 16 -> 19
      refine lv_iload_n hx hb dX1_members_19 rfl (lv_at hl 3 rfl) ?_
      refine kz_rS (As := [.int p2]) (rest := []) ⟨hx, hb, hml, hown, hw9⟩ (c_X1_isSet l hl9 D ((cI, .int) :: ty) (wM bd cI 0 it o n g v r (sm_al nx mt fl pr ofs ak hd an) ++ rs) H.size p2) (kz_cS 1 hw9 mw_393 mw_394 mw_2 mw_395 rfl rfl (by decide +kernel) ⟨Nat.le_of_ble_eq_true rfl, Nat.le_of_ble_eq_true rfl⟩) (kz_preS hK hP hD hS hA hE) rfl hl.1 rfl (Nat.le_of_ble_eq_true rfl) dX1_members_20 ⟨Nat.le_of_ble_eq_true rfl, Nat.le_of_ble_eq_true rfl⟩ (fun _ _ _ _ h => False.elim h) (fun v9 H hv9 hO1 => ?_)
      obtain ⟨_, rfl, rfl⟩ := hv9
      have hP := hO1.P hP
      have hS := hO1.S hS
      refine W.eq (g2 := F0 m 23 ls [.int (sq_z (sq_S p2))]) rfl ?_
      refine lv_if_eq (tgt := 38) hx hb dX1_members_23 (by decide) (fun c_3 => ?_) (fun c_3 => ?_)
      · -- 23 -> 38
        refine lv_aload_n hx hb dX1_members_38 rfl (lv_at hl 0 rfl) ?_
        refine lv_iconst (v := 1) hx hb dX1_members_39 (by decide) ?_
        refine va_put (D := D) (ci := 1) (v := .int 1) (ty := .int) (C := RX1) (T := TX1) (N := 8) hx hb hw9 uX1 tyX1 tyX1_ok nmX1 hown hK hP hD hS 0 rfl rfl 0 (by decide) (hw9 _ mw_360) (fun _ h9 => h9) rfl (by decide +kernel) rfl rfl (Nat.le_of_ble_eq_true rfl) dX1_members_40 (fun H locs hP hD hS => ?_)
        have hP : va_P D vwCl (wM bd cI 1 it o n g v r (sm_al nx mt fl pr ofs ak hd an) ++ rs) H := hP
        have hD : va_D A (wM bd cI 1 it o n g v r (sm_al nx mt fl pr ofs ak hd an) ++ rs) := hD
        have htc : tc_members p0 p1 p2 = 1 := by first | (simp [tc_members, (sq_z_t c_1), (sq_z_t c_2), (sq_z_f c_3)]; done) | (simp only [tc_members, (sq_z_t c_1), (sq_z_t c_2), (sq_z_f c_3), eq_self, not_true_eq_false, not_false_eq_true, and_self, and_true, true_and, and_false, false_and, or_true, true_or, or_false, false_or, if_true, if_false, ite_true, ite_false, Bool.and_eq_true, decide_true, decide_false, decide_eq_true_eq, ne_eq, Nat.reduceEqDiff, Nat.one_ne_zero, Bool.false_eq_true, reduceCtorEq]; done) | (simp only [tc_members, (sq_z_t c_1), (sq_z_t c_2), (sq_z_f c_3), eq_self, not_true_eq_false, not_false_eq_true, and_self, and_true, true_and, and_false, false_and, or_true, true_or, or_false, false_or, if_true, if_false, ite_true, ite_false, Bool.and_eq_true, decide_true, decide_false, decide_eq_true_eq, ne_eq, Nat.reduceEqDiff, Nat.one_ne_zero, Bool.false_eq_true, reduceCtorEq]; decide)
        exact kz_wretv hx hb hr hlocks (by rw [htc]; exact hP) (by rw [htc]; exact hD) hS (Nat.le_of_ble_eq_true rfl) (Nat.le_of_ble_eq_true rfl) (trivial)  dX1_members_43
      · -- 23 -> 26
        refine lv_iload_n hx hb dX1_members_26 rfl (lv_at hl 1 rfl) ?_
        refine lv_if_eq (tgt := 38) hx hb dX1_members_27 (by decide) (fun c_4 => ?_) (fun c_4 => ?_)
        · -- 27 -> 38
          refine lv_aload_n hx hb dX1_members_38 rfl (lv_at hl 0 rfl) ?_
          refine lv_iconst (v := 1) hx hb dX1_members_39 (by decide) ?_
          refine va_put (D := D) (ci := 1) (v := .int 1) (ty := .int) (C := RX1) (T := TX1) (N := 8) hx hb hw9 uX1 tyX1 tyX1_ok nmX1 hown hK hP hD hS 0 rfl rfl 0 (by decide) (hw9 _ mw_360) (fun _ h9 => h9) rfl (by decide +kernel) rfl rfl (Nat.le_of_ble_eq_true rfl) dX1_members_40 (fun H locs hP hD hS => ?_)
          have hP : va_P D vwCl (wM bd cI 1 it o n g v r (sm_al nx mt fl pr ofs ak hd an) ++ rs) H := hP
          have hD : va_D A (wM bd cI 1 it o n g v r (sm_al nx mt fl pr ofs ak hd an) ++ rs) := hD
          have htc : tc_members p0 p1 p2 = 1 := by first | (simp [tc_members, (sq_z_t c_1), (sq_z_t c_2), (sq_z_t c_3), c_4]; done) | (simp only [tc_members, (sq_z_t c_1), (sq_z_t c_2), (sq_z_t c_3), c_4, eq_self, not_true_eq_false, not_false_eq_true, and_self, and_true, true_and, and_false, false_and, or_true, true_or, or_false, false_or, if_true, if_false, ite_true, ite_false, Bool.and_eq_true, decide_true, decide_false, decide_eq_true_eq, ne_eq, Nat.reduceEqDiff, Nat.one_ne_zero, Bool.false_eq_true, reduceCtorEq]; done) | (simp only [tc_members, (sq_z_t c_1), (sq_z_t c_2), (sq_z_t c_3), c_4, eq_self, not_true_eq_false, not_false_eq_true, and_self, and_true, true_and, and_false, false_and, or_true, true_or, or_false, false_or, if_true, if_false, ite_true, ite_false, Bool.and_eq_true, decide_true, decide_false, decide_eq_true_eq, ne_eq, Nat.reduceEqDiff, Nat.one_ne_zero, Bool.false_eq_true, reduceCtorEq]; decide)
          exact kz_wretv hx hb hr hlocks (by rw [htc]; exact hP) (by rw [htc]; exact hD) hS (Nat.le_of_ble_eq_true rfl) (Nat.le_of_ble_eq_true rfl) (trivial)  dX1_members_43
        · -- 27 -> 30
          refine lv_iload_n hx hb dX1_members_30 rfl (lv_at hl 3 rfl) ?_
          refine lv_iload_n hx hb dX1_members_31 rfl (lv_at hl 1 rfl) ?_
          refine lv_iload_n hx hb dX1_members_32 rfl (lv_at hl 2 rfl) ?_
          refine lv_ior hx hb dX1_members_33 ?_
          refine lv_iand hx hb dX1_members_34 ?_
          refine lv_if_eq (tgt := 44) hx hb dX1_members_35 (by decide) (fun c_5 => ?_) (fun c_5 => ?_)
          · -- 35 -> 44
            refine lv_aload_n hx hb dX1_members_44 rfl (lv_at hl 0 rfl) ?_
            refine lv_iload_n hx hb dX1_members_45 rfl (lv_at hl 1 rfl) ?_
            refine va_put (D := D) (ci := 1) (v := .int p0) (ty := .int) (C := RX1) (T := TX1) (N := 8) hx hb hw9 uX1 tyX1 tyX1_ok nmX1 hown hK hP hD hS 0 rfl rfl 2 (by decide) (hw9 _ mw_362) (fun _ h9 => h9) rfl (by decide +kernel) rfl rfl (Nat.le_of_ble_eq_true rfl) dX1_members_46 (fun H locs hP hD hS => ?_)
            have hP : va_P D vwCl (wM bd cI 0 it p0 n g v r (sm_al nx mt fl pr ofs ak hd an) ++ rs) H := hP
            have hD : va_D A (wM bd cI 0 it p0 n g v r (sm_al nx mt fl pr ofs ak hd an) ++ rs) := hD
            refine lv_aload_n hx hb dX1_members_49 rfl (lv_at hl 0 rfl) ?_
            refine lv_iload_n hx hb dX1_members_50 rfl (lv_at hl 2 rfl) ?_
            refine va_put (D := D) (ci := 1) (v := .int p1) (ty := .int) (C := RX1) (T := TX1) (N := 8) hx hb hw9 uX1 tyX1 tyX1_ok nmX1 hown hK hP hD hS 0 rfl rfl 3 (by decide) (hw9 _ mw_363) (fun _ h9 => h9) rfl (by decide +kernel) rfl rfl (Nat.le_of_ble_eq_true rfl) dX1_members_51 (fun H locs hP hD hS => ?_)
            have hP : va_P D vwCl (wM bd cI 0 it p0 p1 g v r (sm_al nx mt fl pr ofs ak hd an) ++ rs) H := hP
            have hD : va_D A (wM bd cI 0 it p0 p1 g v r (sm_al nx mt fl pr ofs ak hd an) ++ rs) := hD
            refine lv_aload_n hx hb dX1_members_54 rfl (lv_at hl 0 rfl) ?_
            refine lv_iload_n hx hb dX1_members_55 rfl (lv_at hl 3 rfl) ?_
            refine va_put (D := D) (ci := 1) (v := .int p2) (ty := .int) (C := RX1) (T := TX1) (N := 8) hx hb hw9 uX1 tyX1 tyX1_ok nmX1 hown hK hP hD hS 0 rfl rfl 4 (by decide) (hw9 _ mw_364) (fun _ h9 => h9) rfl (by decide +kernel) rfl rfl (Nat.le_of_ble_eq_true rfl) dX1_members_56 (fun H locs hP hD hS => ?_)
            have hP : va_P D vwCl (wM bd cI 0 it p0 p1 p2 v r (sm_al nx mt fl pr ofs ak hd an) ++ rs) H := hP
            have hD : va_D A (wM bd cI 0 it p0 p1 p2 v r (sm_al nx mt fl pr ofs ak hd an) ++ rs) := hD
            have htc : tc_members p0 p1 p2 = 0 := by first | (simp [tc_members, (sq_z_t c_1), (sq_z_t c_2), (sq_z_t c_3), c_4, c_5]; done) | (simp only [tc_members, (sq_z_t c_1), (sq_z_t c_2), (sq_z_t c_3), c_4, c_5, eq_self, not_true_eq_false, not_false_eq_true, and_self, and_true, true_and, and_false, false_and, or_true, true_or, or_false, false_or, if_true, if_false, ite_true, ite_false, Bool.and_eq_true, decide_true, decide_false, decide_eq_true_eq, ne_eq, Nat.reduceEqDiff, Nat.one_ne_zero, Bool.false_eq_true, reduceCtorEq]; done) | (simp only [tc_members, (sq_z_t c_1), (sq_z_t c_2), (sq_z_t c_3), c_4, c_5, eq_self, not_true_eq_false, not_false_eq_true, and_self, and_true, true_and, and_false, false_and, or_true, true_or, or_false, false_or, if_true, if_false, ite_true, ite_false, Bool.and_eq_true, decide_true, decide_false, decide_eq_true_eq, ne_eq, Nat.reduceEqDiff, Nat.one_ne_zero, Bool.false_eq_true, reduceCtorEq]; decide)
            exact kz_wretv hx hb hr hlocks (by rw [htc]; exact hP) (by rw [htc]; exact hD) hS (Nat.le_of_ble_eq_true rfl) (Nat.le_of_ble_eq_true rfl) (trivial)  dX1_members_59
          · -- 35 -> 38
            refine lv_aload_n hx hb dX1_members_38 rfl (lv_at hl 0 rfl) ?_
            refine lv_iconst (v := 1) hx hb dX1_members_39 (by decide) ?_
            refine va_put (D := D) (ci := 1) (v := .int 1) (ty := .int) (C := RX1) (T := TX1) (N := 8) hx hb hw9 uX1 tyX1 tyX1_ok nmX1 hown hK hP hD hS 0 rfl rfl 0 (by decide) (hw9 _ mw_360) (fun _ h9 => h9) rfl (by decide +kernel) rfl rfl (Nat.le_of_ble_eq_true rfl) dX1_members_40 (fun H locs hP hD hS => ?_)
            have hP : va_P D vwCl (wM bd cI 1 it o n g v r (sm_al nx mt fl pr ofs ak hd an) ++ rs) H := hP
            have hD : va_D A (wM bd cI 1 it o n g v r (sm_al nx mt fl pr ofs ak hd an) ++ rs) := hD
            have htc : tc_members p0 p1 p2 = 1 := by first | (simp [tc_members, (sq_z_t c_1), (sq_z_t c_2), (sq_z_t c_3), c_4, c_5]; done) | (simp only [tc_members, (sq_z_t c_1), (sq_z_t c_2), (sq_z_t c_3), c_4, c_5, eq_self, not_true_eq_false, not_false_eq_true, and_self, and_true, true_and, and_false, false_and, or_true, true_or, or_false, false_or, if_true, if_false, ite_true, ite_false, Bool.and_eq_true, decide_true, decide_false, decide_eq_true_eq, ne_eq, Nat.reduceEqDiff, Nat.one_ne_zero, Bool.false_eq_true, reduceCtorEq]; done) | (simp only [tc_members, (sq_z_t c_1), (sq_z_t c_2), (sq_z_t c_3), c_4, c_5, eq_self, not_true_eq_false, not_false_eq_true, and_self, and_true, true_and, and_false, false_and, or_true, true_or, or_false, false_or, if_true, if_false, ite_true, ite_false, Bool.and_eq_true, decide_true, decide_false, decide_eq_true_eq, ne_eq, Nat.reduceEqDiff, Nat.one_ne_zero, Bool.false_eq_true, reduceCtorEq]; decide)
            exact kz_wretv hx hb hr hlocks (by rw [htc]; exact hP) (by rw [htc]; exact hD) hS (Nat.le_of_ble_eq_true rfl) (Nat.le_of_ble_eq_true rfl) (trivial)  dX1_members_43
set_option maxHeartbeats 4000000 in
set_option maxRecDepth 100000 in
theorem c_X1_settle (l : Launch) (hl9 : l.stackTraces = false) (D : va_G) (cI : ClassId) (ty : kz_Y) (bd : Nat → Nat) (rs : va_W) (sz : Nat) (th it o n g v r : Int32) (nx mt fl pr ofs ak hd an : Nat → Int32) (hM : sv_m it o n g v) : ez_M l yX1_settle wsX1_settle ({ frames := 1, cells := 1, slots := 6, locals := 21 } : Room) (kz_P D ((cI, .int) :: ty) (wM bd cI th it o n g v r (sm_al nx mt fl pr ofs ak hd an) ++ rs) sz [.ref (bd 0)]) (kz_Wr D (va_A (wM bd cI th it o n g v r (sm_al nx mt fl pr ofs ak hd an) ++ rs) sz) (kz_i (fun r9 => r9 = (if tc_settle n = 0 then sq_z (sq_I n it) else 0))) (wM bd cI (nI (tc_settle n)) it (if tc_settle n = 0 then n else o) (if tc_settle n = 0 then 0 else n) g v r (sm_al nx mt fl pr ofs ak hd an) ++ rs)) (kz_T (fun _ => IAE) (fun _ => False)) 0 0 (va_A (wM bd cI th it o n g v r (sm_al nx mt fl pr ofs ak hd an) ++ rs) sz) := by
  refine ez_ofW (cc := cX1_settle) (maxL := 1) (ret := (some .boolean)) (by decide) rfl ?_
  intro p e s m args below meth c s₁ B hml hTab hv
  obtain ⟨rfl, hsz, hP, hK, hD0, hE⟩ := hv
  have hx := B.exec
  have hb := B.bytes
  have hr := B.returns
  have hw9 : ∀ w ∈ kz_W9, w.before ([.ref (bd 0)] : List Value).toArray s = true := fun w h => atoms_spec (ws := wsX1_settle) B.pre w (List.mem_cons_of_mem _ h)
  have hown : s.vm.findClass RX1 = some m.cls := findClass_of_methodNamed B.named
  have hlocks := B.notSynchronized
  subst hsz
  have hD := hD0.self (sz := s.heap.size)
  generalize hAe : va_A (wM bd cI th it o n g v r (sm_al nx mt fl pr ofs ak hd an) ++ rs) s.heap.size = A at hD hE ⊢
  have hA : ∀ q : Nat, s.heap.size ≤ q → A q := fun q h => by rw [← hAe]; exact Or.inr h
  have hS : va_S A s.heap s.heap [] := va_S.rf
  have hO : kz_O s.heap s.heap := kz_O.rf _
  have hl := lv_entry ([.ref (bd 0)]) (n := 1) (Nat.le_of_ble_eq_true rfl)
  rw [lg_entry_eq]
  generalize (lg_sl ([.ref (bd 0)]) ++ List.replicate (1 - (lg_sl ([.ref (bd 0)])).length) Slot.unset).toArray = ls at hl ⊢
  have hl : lv_has ls 1 [(0, .ref (bd 0))] := hl
  obtain ⟨hIt, hOo, hNn, hGg, hVv⟩ := id hM
  obtain ⟨xo, ho8, eo⟩ := sm_S hOo
  obtain ⟨xn, hn8, en⟩ := sm_S hNn
  obtain ⟨xg, hg8, eg⟩ := sm_S hGg
  obtain ⟨xv, hv8, ev⟩ := sm_S hVv
  obtain ⟨hIa, hIe⟩ := sm_srv hIt
  refine lv_aload_n hx hb dX1_settle_0 rfl (lv_at hl 0 rfl) ?_
  refine lv_iconst (v := 0) hx hb dX1_settle_1 (by decide) ?_
  refine va_put (D := D) (ci := 1) (v := .int 0) (ty := .int) (C := RX1) (T := TX1) (N := 8) hx hb hw9 uX1 tyX1 tyX1_ok nmX1 hown hK hP hD hS 0 rfl rfl 0 (by decide) (hw9 _ mw_360) (fun _ h9 => h9) rfl (by decide +kernel) rfl rfl (Nat.le_of_ble_eq_true rfl) dX1_settle_2 (fun H locs hP hD hS => ?_)
  have hP : va_P D vwCl (wM bd cI 0 it o n g v r (sm_al nx mt fl pr ofs ak hd an) ++ rs) H := hP
  have hD : va_D A (wM bd cI 0 it o n g v r (sm_al nx mt fl pr ofs ak hd an) ++ rs) := hD
  refine lv_aload_n hx hb dX1_settle_5 rfl (lv_at hl 0 rfl) ?_
  refine va_get (D := D) (ci := 1) (v := .int n) (C := RX1) (T := TX1) (N := 8) hx hb hw9 uX1 hown hK hP 0 rfl rfl 3 (by decide) (hw9 _ mw_363) (fun _ h9 => h9) rfl dX1_settle_6 ?_
  refine lv_if_ne (tgt := 26) hx hb dX1_settle_9 (by decide) (fun c_1 => ?_) (fun c_1 => ?_)
  · -- 9 -> 26
    refine lv_aload_n hx hb dX1_settle_26 rfl (lv_at hl 0 rfl) ?_
    refine lv_aload_n hx hb dX1_settle_27 rfl (lv_at hl 0 rfl) ?_
    refine va_get (D := D) (ci := 1) (v := .int n) (C := RX1) (T := TX1) (N := 8) hx hb hw9 uX1 hown hK hP 0 rfl rfl 3 (by decide) (hw9 _ mw_363) (fun _ h9 => h9) rfl dX1_settle_28 ?_
    refine va_put (D := D) (ci := 1) (v := .int n) (ty := .int) (C := RX1) (T := TX1) (N := 8) hx hb hw9 uX1 tyX1 tyX1_ok nmX1 hown hK hP hD hS 0 rfl rfl 2 (by decide) (hw9 _ mw_362) (fun _ h9 => h9) rfl (by decide +kernel) rfl rfl (Nat.le_of_ble_eq_true rfl) dX1_settle_31 (fun H locs hP hD hS => ?_)
    have hP : va_P D vwCl (wM bd cI 0 it n n g v r (sm_al nx mt fl pr ofs ak hd an) ++ rs) H := hP
    have hD : va_D A (wM bd cI 0 it n n g v r (sm_al nx mt fl pr ofs ak hd an) ++ rs) := hD
    refine lv_aload_n hx hb dX1_settle_34 rfl (lv_at hl 0 rfl) ?_
    refine lv_iconst (v := 0) hx hb dX1_settle_35 (by decide) ?_
    refine va_put (D := D) (ci := 1) (v := .int 0) (ty := .int) (C := RX1) (T := TX1) (N := 8) hx hb hw9 uX1 tyX1 tyX1_ok nmX1 hown hK hP hD hS 0 rfl rfl 3 (by decide) (hw9 _ mw_363) (fun _ h9 => h9) rfl (by decide +kernel) rfl rfl (Nat.le_of_ble_eq_true rfl) dX1_settle_36 (fun H locs hP hD hS => ?_)
    have hP : va_P D vwCl (wM bd cI 0 it n 0 g v r (sm_al nx mt fl pr ofs ak hd an) ++ rs) H := hP
    have hD : va_D A (wM bd cI 0 it n 0 g v r (sm_al nx mt fl pr ofs ak hd an) ++ rs) := hD
    refine lv_aload_n hx hb dX1_settle_39 rfl (lv_at hl 0 rfl) ?_
    refine va_get (D := D) (ci := 1) (v := .int n) (C := RX1) (T := TX1) (N := 8) hx hb hw9 uX1 hown hK hP 0 rfl rfl 2 (by decide) (hw9 _ mw_362) (fun _ h9 => h9) rfl dX1_settle_40 ?_
    refine lv_aload_n hx hb dX1_settle_43 rfl (lv_at hl 0 rfl) ?_
    refine va_get (D := D) (ci := 1) (v := .int it) (C := RX1) (T := TX1) (N := 8) hx hb hw9 uX1 hown hK hP 0 rfl rfl 1 (by decide) (hw9 _ mw_361) (fun _ h9 => h9) rfl dX1_settle_44 ?_
    refine kz_rS (As := [.int n, .int it]) (rest := []) ⟨hx, hb, hml, hown, hw9⟩ (c_X1_has l hl9 D ((cI, .int) :: ty) (wM bd cI 0 it n 0 g v r (sm_al nx mt fl pr ofs ak hd an) ++ rs) H.size n it) (kz_cS 2 hw9 mw_400 mw_401 mw_2 mw_402 rfl rfl (by decide +kernel) ⟨Nat.le_of_ble_eq_true rfl, Nat.le_of_ble_eq_true rfl⟩) (kz_preS hK hP hD hS hA hE) rfl hl.1 rfl (Nat.le_of_ble_eq_true rfl) dX1_settle_47 ⟨Nat.le_of_ble_eq_true rfl, Nat.le_of_ble_eq_true rfl⟩ (fun _ _ _ _ h => False.elim h) (fun v9 H hv9 hO1 => ?_)
    obtain ⟨_, rfl, rfl⟩ := hv9
    have hP := hO1.P hP
    have hS := hO1.S hS
    refine W.eq (g2 := F0 m 50 ls [.int (sq_z (sm_h n it))]) rfl ?_
    have htc : tc_settle n = 0 := by first | (simp [tc_settle, c_1]; done) | (simp only [tc_settle, c_1, eq_self, not_true_eq_false, not_false_eq_true, and_self, and_true, true_and, and_false, false_and, or_true, true_or, or_false, false_or, if_true, if_false, ite_true, ite_false, Bool.and_eq_true, decide_true, decide_false, decide_eq_true_eq, ne_eq, Nat.reduceEqDiff, Nat.one_ne_zero, Bool.false_eq_true, reduceCtorEq]; done) | (simp only [tc_settle, c_1, eq_self, not_true_eq_false, not_false_eq_true, and_self, and_true, true_and, and_false, false_and, or_true, true_or, or_false, false_or, if_true, if_false, ite_true, ite_false, Bool.and_eq_true, decide_true, decide_false, decide_eq_true_eq, ne_eq, Nat.reduceEqDiff, Nat.one_ne_zero, Bool.false_eq_true, reduceCtorEq]; decide)
    exact kz_wretz hx hb hr hlocks (by rw [htc]; exact hP) (by rw [htc]; exact hD) hS (Nat.le_of_ble_eq_true rfl) (Nat.le_of_ble_eq_true rfl) (by rw [htc]; exact (show (sq_z (sm_h n it)) = (sq_z (sq_I n it)) from by rw [sm_hI hNn hIt])) (sq_z_nar _) dX1_settle_50
  · -- 9 -> 12
    refine lv_aload_n hx hb dX1_settle_12 rfl (lv_at hl 0 rfl) ?_
    refine lv_iconst (v := 1) hx hb dX1_settle_13 (by decide) ?_
    refine kz_wV (As := [.int 1]) (rest := []) ⟨hx, hb, hml, hown, hw9⟩ (c_X1_fail l hl9 D cI ty bd rs H.size 0 it o n g v r (sm_al nx mt fl pr ofs ak hd an) 1) (kz_cV 1 hw9 mw_411 mw_413 ms_12 mw_2 mw_414 rfl rfl (by decide +kernel) ⟨Nat.le_of_ble_eq_true rfl, Nat.le_of_ble_eq_true rfl⟩) (kz_preV (q0 := 0) (ci := 1) hK hP hD hS hA hE rfl rfl) rfl hl.1 rfl (Nat.le_of_ble_eq_true rfl) dX1_settle_14 ⟨Nat.le_of_ble_eq_true rfl, Nat.le_of_ble_eq_true rfl⟩ hD hS hA (fun _ _ _ _ _ _ h => False.elim h) (fun v9 H locs hv9 hP hD hS => ?_)
    obtain ⟨_, rfl, rfl⟩ := hv9
    have hP : va_P D vwCl (wM bd cI 1 it o n g v r (sm_al nx mt fl pr ofs ak hd an) ++ rs) H := hP
    have hD : va_D A (wM bd cI 1 it o n g v r (sm_al nx mt fl pr ofs ak hd an) ++ rs) := hD
    refine W.eq (g2 := F0 m 17 ls [.int 0]) rfl ?_
    refine lv_if_le (tgt := 24) hx hb dX1_settle_17 (by decide) (fun c_2 => ?_) (fun c_2 => ?_)
    · -- 17 -> 24
      refine lv_iconst (v := 0) hx hb dX1_settle_24 (by decide) ?_
      have htc : tc_settle n = 1 := by first | (simp [tc_settle, c_1, c_2, (Int32.not_lt.mpr c_2)]; done) | (simp only [tc_settle, c_1, c_2, (Int32.not_lt.mpr c_2), eq_self, not_true_eq_false, not_false_eq_true, and_self, and_true, true_and, and_false, false_and, or_true, true_or, or_false, false_or, if_true, if_false, ite_true, ite_false, Bool.and_eq_true, decide_true, decide_false, decide_eq_true_eq, ne_eq, Nat.reduceEqDiff, Nat.one_ne_zero, Bool.false_eq_true, reduceCtorEq]; done) | (simp only [tc_settle, c_1, c_2, (Int32.not_lt.mpr c_2), eq_self, not_true_eq_false, not_false_eq_true, and_self, and_true, true_and, and_false, false_and, or_true, true_or, or_false, false_or, if_true, if_false, ite_true, ite_false, Bool.and_eq_true, decide_true, decide_false, decide_eq_true_eq, ne_eq, Nat.reduceEqDiff, Nat.one_ne_zero, Bool.false_eq_true, reduceCtorEq]; decide)
      exact kz_wretz hx hb hr hlocks (by rw [htc]; exact hP) (by rw [htc]; exact hD) hS (Nat.le_of_ble_eq_true rfl) (Nat.le_of_ble_eq_true rfl) (by rw [htc]; rfl) rfl dX1_settle_25
    · -- 17 -> 20
      exact absurd (by decide) c_2
set_option maxHeartbeats 4000000 in
set_option maxRecDepth 100000 in
theorem c_X1_majority (l : Launch) (hl9 : l.stackTraces = false) (D : va_G) (cI : ClassId) (ty : kz_Y) (bd : Nat → Nat) (rs : va_W) (sz : Nat) (th it o n g v r : Int32) (nx mt fl pr ofs ak hd an : Nat → Int32) (p0 : Int32) (hM : sv_m it o n g v) : ez_M l yX1_majority wsX1_majority ({ frames := 3, cells := 1, slots := 6, locals := 66 } : Room) (kz_P D ((cI, .int) :: ty) (wM bd cI th it o n g v r (sm_al nx mt fl pr ofs ak hd an) ++ rs) sz [.ref (bd 0), .int p0]) (kz_Wr D (va_A (wM bd cI th it o n g v r (sm_al nx mt fl pr ofs ak hd an) ++ rs) sz) (kz_i (fun r9 => r9 = (if tc_set p0 = 0 then sq_z (sq_M o n p0) else 0))) (wM bd cI (nI (tc_set p0)) it o n g v r (sm_al nx mt fl pr ofs ak hd an) ++ rs)) (kz_T (fun _ => IAE) (fun _ => False)) 0 0 (va_A (wM bd cI th it o n g v r (sm_al nx mt fl pr ofs ak hd an) ++ rs) sz) := by
  refine ez_ofW (cc := cX1_majority) (maxL := 2) (ret := (some .boolean)) (by decide) rfl ?_
  intro p e s m args below meth c s₁ B hml hTab hv
  obtain ⟨rfl, hsz, hP, hK, hD0, hE⟩ := hv
  have hx := B.exec
  have hb := B.bytes
  have hr := B.returns
  have hw9 : ∀ w ∈ kz_W9, w.before ([.ref (bd 0), .int p0] : List Value).toArray s = true := fun w h => atoms_spec (ws := wsX1_majority) B.pre w (List.mem_cons_of_mem _ h)
  have hown : s.vm.findClass RX1 = some m.cls := findClass_of_methodNamed B.named
  have hlocks := B.notSynchronized
  subst hsz
  have hD := hD0.self (sz := s.heap.size)
  generalize hAe : va_A (wM bd cI th it o n g v r (sm_al nx mt fl pr ofs ak hd an) ++ rs) s.heap.size = A at hD hE ⊢
  have hA : ∀ q : Nat, s.heap.size ≤ q → A q := fun q h => by rw [← hAe]; exact Or.inr h
  have hS : va_S A s.heap s.heap [] := va_S.rf
  have hO : kz_O s.heap s.heap := kz_O.rf _
  have hl := lv_entry ([.ref (bd 0), .int p0]) (n := 2) (Nat.le_of_ble_eq_true rfl)
  rw [lg_entry_eq]
  generalize (lg_sl ([.ref (bd 0), .int p0]) ++ List.replicate (2 - (lg_sl ([.ref (bd 0), .int p0])).length) Slot.unset).toArray = ls at hl ⊢
  have hl : lv_has ls 2 [(0, .ref (bd 0)), (1, .int p0)] := hl
  obtain ⟨hIt, hOo, hNn, hGg, hVv⟩ := id hM
  obtain ⟨xo, ho8, eo⟩ := sm_S hOo
  obtain ⟨xn, hn8, en⟩ := sm_S hNn
  obtain ⟨xg, hg8, eg⟩ := sm_S hGg
  obtain ⟨xv, hv8, ev⟩ := sm_S hVv
  obtain ⟨hIa, hIe⟩ := sm_srv hIt
  refine lv_aload_n hx hb dX1_majority_0 rfl (lv_at hl 0 rfl) ?_
  refine lv_iconst (v := 0) hx hb dX1_majority_1 (by decide) ?_
  refine va_put (D := D) (ci := 1) (v := .int 0) (ty := .int) (C := RX1) (T := TX1) (N := 8) hx hb hw9 uX1 tyX1 tyX1_ok nmX1 hown hK hP hD hS 0 rfl rfl 0 (by decide) (hw9 _ mw_360) (fun _ h9 => h9) rfl (by decide +kernel) rfl rfl (Nat.le_of_ble_eq_true rfl) dX1_majority_2 (fun H locs hP hD hS => ?_)
  have hP : va_P D vwCl (wM bd cI 0 it o n g v r (sm_al nx mt fl pr ofs ak hd an) ++ rs) H := hP
  have hD : va_D A (wM bd cI 0 it o n g v r (sm_al nx mt fl pr ofs ak hd an) ++ rs) := hD
  refine lv_iload_n hx hb dX1_majority_5 rfl (lv_at hl 1 rfl) ?_
  refine kz_rS (As := [.int p0]) (rest := []) ⟨hx, hb, hml, hown, hw9⟩ (c_X1_isSet l hl9 D ((cI, .int) :: ty) (wM bd cI 0 it o n g v r (sm_al nx mt fl pr ofs ak hd an) ++ rs) H.size p0) (kz_cS 1 hw9 mw_393 mw_394 mw_2 mw_395 rfl rfl (by decide +kernel) ⟨Nat.le_of_ble_eq_true rfl, Nat.le_of_ble_eq_true rfl⟩) (kz_preS hK hP hD hS hA hE) rfl hl.1 rfl (Nat.le_of_ble_eq_true rfl) dX1_majority_6 ⟨Nat.le_of_ble_eq_true rfl, Nat.le_of_ble_eq_true rfl⟩ (fun _ _ _ _ h => False.elim h) (fun v9 H hv9 hO1 => ?_)
  obtain ⟨_, rfl, rfl⟩ := hv9
  have hP := hO1.P hP
  have hS := hO1.S hS
  refine W.eq (g2 := F0 m 9 ls [.int (sq_z (sq_S p0))]) rfl ?_
  refine lv_if_eq (tgt := 20) hx hb dX1_majority_9 (by decide) (fun c_1 => ?_) (fun c_1 => ?_)
  · -- 9 -> 20
    refine lv_aload_n hx hb dX1_majority_20 rfl (lv_at hl 0 rfl) ?_
    refine lv_iconst (v := 1) hx hb dX1_majority_21 (by decide) ?_
    refine kz_wV (As := [.int 1]) (rest := []) ⟨hx, hb, hml, hown, hw9⟩ (c_X1_fail l hl9 D cI ty bd rs H.size 0 it o n g v r (sm_al nx mt fl pr ofs ak hd an) 1) (kz_cV 1 hw9 mw_411 mw_413 ms_12 mw_2 mw_414 rfl rfl (by decide +kernel) ⟨Nat.le_of_ble_eq_true rfl, Nat.le_of_ble_eq_true rfl⟩) (kz_preV (q0 := 0) (ci := 1) hK hP hD hS hA hE rfl rfl) rfl hl.1 rfl (Nat.le_of_ble_eq_true rfl) dX1_majority_22 ⟨Nat.le_of_ble_eq_true rfl, Nat.le_of_ble_eq_true rfl⟩ hD hS hA (fun _ _ _ _ _ _ h => False.elim h) (fun v9 H locs hv9 hP hD hS => ?_)
    obtain ⟨_, rfl, rfl⟩ := hv9
    have hP : va_P D vwCl (wM bd cI 1 it o n g v r (sm_al nx mt fl pr ofs ak hd an) ++ rs) H := hP
    have hD : va_D A (wM bd cI 1 it o n g v r (sm_al nx mt fl pr ofs ak hd an) ++ rs) := hD
    refine W.eq (g2 := F0 m 25 ls [.int 0]) rfl ?_
    refine lv_if_le (tgt := 32) hx hb dX1_majority_25 (by decide) (fun c_2 => ?_) (fun c_2 => ?_)
    · -- 25 -> 32
      refine lv_iconst (v := 0) hx hb dX1_majority_32 (by decide) ?_
      have htc : tc_set p0 = 1 := by first | (simp [tc_set, (sq_z_f c_1), c_2, (Int32.not_lt.mpr c_2)]; done) | (simp only [tc_set, (sq_z_f c_1), c_2, (Int32.not_lt.mpr c_2), eq_self, not_true_eq_false, not_false_eq_true, and_self, and_true, true_and, and_false, false_and, or_true, true_or, or_false, false_or, if_true, if_false, ite_true, ite_false, Bool.and_eq_true, decide_true, decide_false, decide_eq_true_eq, ne_eq, Nat.reduceEqDiff, Nat.one_ne_zero, Bool.false_eq_true, reduceCtorEq]; done) | (simp only [tc_set, (sq_z_f c_1), c_2, (Int32.not_lt.mpr c_2), eq_self, not_true_eq_false, not_false_eq_true, and_self, and_true, true_and, and_false, false_and, or_true, true_or, or_false, false_or, if_true, if_false, ite_true, ite_false, Bool.and_eq_true, decide_true, decide_false, decide_eq_true_eq, ne_eq, Nat.reduceEqDiff, Nat.one_ne_zero, Bool.false_eq_true, reduceCtorEq]; decide)
      exact kz_wretz hx hb hr hlocks (by rw [htc]; exact hP) (by rw [htc]; exact hD) hS (Nat.le_of_ble_eq_true rfl) (Nat.le_of_ble_eq_true rfl) (by rw [htc]; rfl) rfl dX1_majority_33
    · -- 25 -> 28
      exact absurd (by decide) c_2
  · -- 9 -> 12
    refine lv_aload_n hx hb dX1_majority_12 rfl (lv_at hl 0 rfl) ?_
    refine lv_iload_n hx hb dX1_majority_13 rfl (lv_at hl 1 rfl) ?_
    refine kz_rV (As := [.int p0]) (rest := []) ⟨hx, hb, hml, hown, hw9⟩ (c_X1_carries l hl9 D cI ty bd rs H.size 0 it o n g v r (sm_al nx mt fl pr ofs ak hd an) p0 hM (sq_z_t c_1)) (kz_cV 1 hw9 mw_419 mw_421 ms_13 mw_2 mw_422 rfl rfl (by decide +kernel) ⟨Nat.le_of_ble_eq_true rfl, Nat.le_of_ble_eq_true rfl⟩) (kz_preV (q0 := 0) (ci := 1) hK hP hD hS hA hE rfl rfl) rfl hl.1 rfl (Nat.le_of_ble_eq_true rfl) dX1_majority_14 ⟨Nat.le_of_ble_eq_true rfl, Nat.le_of_ble_eq_true rfl⟩ (fun _ _ _ _ h => False.elim h) (fun v9 H hv9 hO1 => ?_)
    obtain ⟨_, rfl, rfl⟩ := hv9
    have hP := hO1.P hP
    have hS := hO1.S hS
    refine W.eq (g2 := F0 m 17 ls [.int (sq_z (sq_M o n p0))]) rfl ?_
    refine lv_goto (tgt := 33) hx hb dX1_majority_17 (by decide) ?_
    have htc : tc_set p0 = 0 := by first | (simp [tc_set, (sq_z_t c_1)]; done) | (simp only [tc_set, (sq_z_t c_1), eq_self, not_true_eq_false, not_false_eq_true, and_self, and_true, true_and, and_false, false_and, or_true, true_or, or_false, false_or, if_true, if_false, ite_true, ite_false, Bool.and_eq_true, decide_true, decide_false, decide_eq_true_eq, ne_eq, Nat.reduceEqDiff, Nat.one_ne_zero, Bool.false_eq_true, reduceCtorEq]; done) | (simp only [tc_set, (sq_z_t c_1), eq_self, not_true_eq_false, not_false_eq_true, and_self, and_true, true_and, and_false, false_and, or_true, true_or, or_false, false_or, if_true, if_false, ite_true, ite_false, Bool.and_eq_true, decide_true, decide_false, decide_eq_true_eq, ne_eq, Nat.reduceEqDiff, Nat.one_ne_zero, Bool.false_eq_true, reduceCtorEq]; decide)
    exact kz_wretz hx hb hr hlocks (by rw [htc]; exact hP) (by rw [htc]; exact hD) hS (Nat.le_of_ble_eq_true rfl) (Nat.le_of_ble_eq_true rfl) (by rw [htc]; exact (show (sq_z (sq_M o n p0)) = (sq_z (sq_M o n p0)) from rfl)) (sq_z_nar _) dX1_majority_33
set_option maxHeartbeats 4000000 in
set_option maxRecDepth 100000 in
theorem c_X1_ballot (l : Launch) (hl9 : l.stackTraces = false) (D : va_G) (cI : ClassId) (ty : kz_Y) (bd : Nat → Nat) (rs : va_W) (sz : Nat) (th it o n g v r : Int32) (nx mt fl pr ofs ak hd an : Nat → Int32) : ez_M l yX1_ballot wsX1_ballot ({ frames := 0, cells := 1, slots := 6, locals := 0 } : Room) (kz_P D ((cI, .int) :: ty) (wM bd cI th it o n g v r (sm_al nx mt fl pr ofs ak hd an) ++ rs) sz [.ref (bd 0)]) (kz_Wr D (va_A (wM bd cI th it o n g v r (sm_al nx mt fl pr ofs ak hd an) ++ rs) sz) (kz_v (True)) (wM bd cI 0 it o n g 0 r (sm_al nx mt fl pr ofs ak hd an) ++ rs)) (kz_T (fun _ => IAE) (fun _ => False)) 0 0 (va_A (wM bd cI th it o n g v r (sm_al nx mt fl pr ofs ak hd an) ++ rs) sz) := by
  refine ez_ofW (cc := cX1_ballot) (maxL := 1) (ret := none) (by decide) rfl ?_
  intro p e s m args below meth c s₁ B hml hTab hv
  obtain ⟨rfl, hsz, hP, hK, hD0, hE⟩ := hv
  have hx := B.exec
  have hb := B.bytes
  have hr := B.returns
  have hw9 : ∀ w ∈ kz_W9, w.before ([.ref (bd 0)] : List Value).toArray s = true := fun w h => atoms_spec (ws := wsX1_ballot) B.pre w (List.mem_cons_of_mem _ h)
  have hown : s.vm.findClass RX1 = some m.cls := findClass_of_methodNamed B.named
  have hlocks := B.notSynchronized
  subst hsz
  have hD := hD0.self (sz := s.heap.size)
  generalize hAe : va_A (wM bd cI th it o n g v r (sm_al nx mt fl pr ofs ak hd an) ++ rs) s.heap.size = A at hD hE ⊢
  have hA : ∀ q : Nat, s.heap.size ≤ q → A q := fun q h => by rw [← hAe]; exact Or.inr h
  have hS : va_S A s.heap s.heap [] := va_S.rf
  have hO : kz_O s.heap s.heap := kz_O.rf _
  have hl := lv_entry ([.ref (bd 0)]) (n := 1) (Nat.le_of_ble_eq_true rfl)
  rw [lg_entry_eq]
  generalize (lg_sl ([.ref (bd 0)]) ++ List.replicate (1 - (lg_sl ([.ref (bd 0)])).length) Slot.unset).toArray = ls at hl ⊢
  have hl : lv_has ls 1 [(0, .ref (bd 0))] := hl
  refine lv_aload_n hx hb dX1_ballot_0 rfl (lv_at hl 0 rfl) ?_
  refine lv_iconst (v := 0) hx hb dX1_ballot_1 (by decide) ?_
  refine va_put (D := D) (ci := 1) (v := .int 0) (ty := .int) (C := RX1) (T := TX1) (N := 8) hx hb hw9 uX1 tyX1 tyX1_ok nmX1 hown hK hP hD hS 0 rfl rfl 0 (by decide) (hw9 _ mw_360) (fun _ h9 => h9) rfl (by decide +kernel) rfl rfl (Nat.le_of_ble_eq_true rfl) dX1_ballot_2 (fun H locs hP hD hS => ?_)
  have hP : va_P D vwCl (wM bd cI 0 it o n g v r (sm_al nx mt fl pr ofs ak hd an) ++ rs) H := hP
  have hD : va_D A (wM bd cI 0 it o n g v r (sm_al nx mt fl pr ofs ak hd an) ++ rs) := hD
  refine lv_aload_n hx hb dX1_ballot_5 rfl (lv_at hl 0 rfl) ?_
  refine lv_iconst (v := 0) hx hb dX1_ballot_6 (by decide) ?_
  refine va_put (D := D) (ci := 1) (v := .int 0) (ty := .int) (C := RX1) (T := TX1) (N := 8) hx hb hw9 uX1 tyX1 tyX1_ok nmX1 hown hK hP hD hS 0 rfl rfl 5 (by decide) (hw9 _ mw_365) (fun _ h9 => h9) rfl (by decide +kernel) rfl rfl (Nat.le_of_ble_eq_true rfl) dX1_ballot_7 (fun H locs hP hD hS => ?_)
  have hP : va_P D vwCl (wM bd cI 0 it o n g 0 r (sm_al nx mt fl pr ofs ak hd an) ++ rs) H := hP
  have hD : va_D A (wM bd cI 0 it o n g 0 r (sm_al nx mt fl pr ofs ak hd an) ++ rs) := hD
  exact kz_wretv hx hb hr hlocks hP hD hS (Nat.le_of_ble_eq_true rfl) (Nat.le_of_ble_eq_true rfl) (trivial)  dX1_ballot_10
end
section
set_option maxHeartbeats 4000000 in
set_option maxRecDepth 100000 in
theorem c_X1_vote (l : Launch) (hl9 : l.stackTraces = false) (D : va_G) (cI : ClassId) (ty : kz_Y) (bd : Nat → Nat) (rs : va_W) (sz : Nat) (th it o n g v r : Int32) (nx mt fl pr ofs ak hd an : Nat → Int32) (p0 : Int32) (hM : sv_m it o n g v) : ez_M l yX1_vote wsX1_vote ({ frames := 3, cells := 1, slots := 6, locals := 66 } : Room) (kz_P D ((cI, .int) :: ty) (wM bd cI th it o n g v r (sm_al nx mt fl pr ofs ak hd an) ++ rs) sz [.ref (bd 0), .int p0]) (kz_Wr D (va_A (wM bd cI th it o n g v r (sm_al nx mt fl pr ofs ak hd an) ++ rs) sz) (kz_i (fun r9 => r9 = (if tc_server p0 = 0 then sq_z (sq_M o n (v ||| sq_1 p0)) else 0))) (wM bd cI (nI (tc_server p0)) it o n g (if tc_server p0 = 0 then v ||| sq_1 p0 else v) r (sm_al nx mt fl pr ofs ak hd an) ++ rs)) (kz_T (fun _ => IAE) (fun _ => False)) 0 0 (va_A (wM bd cI th it o n g v r (sm_al nx mt fl pr ofs ak hd an) ++ rs) sz) := by
  refine ez_ofW (cc := cX1_vote) (maxL := 2) (ret := (some .boolean)) (by decide) rfl ?_
  intro p e s m args below meth c s₁ B hml hTab hv
  obtain ⟨rfl, hsz, hP, hK, hD0, hE⟩ := hv
  have hx := B.exec
  have hb := B.bytes
  have hr := B.returns
  have hw9 : ∀ w ∈ kz_W9, w.before ([.ref (bd 0), .int p0] : List Value).toArray s = true := fun w h => atoms_spec (ws := wsX1_vote) B.pre w (List.mem_cons_of_mem _ h)
  have hown : s.vm.findClass RX1 = some m.cls := findClass_of_methodNamed B.named
  have hlocks := B.notSynchronized
  subst hsz
  have hD := hD0.self (sz := s.heap.size)
  generalize hAe : va_A (wM bd cI th it o n g v r (sm_al nx mt fl pr ofs ak hd an) ++ rs) s.heap.size = A at hD hE ⊢
  have hA : ∀ q : Nat, s.heap.size ≤ q → A q := fun q h => by rw [← hAe]; exact Or.inr h
  have hS : va_S A s.heap s.heap [] := va_S.rf
  have hO : kz_O s.heap s.heap := kz_O.rf _
  have hl := lv_entry ([.ref (bd 0), .int p0]) (n := 2) (Nat.le_of_ble_eq_true rfl)
  rw [lg_entry_eq]
  generalize (lg_sl ([.ref (bd 0), .int p0]) ++ List.replicate (2 - (lg_sl ([.ref (bd 0), .int p0])).length) Slot.unset).toArray = ls at hl ⊢
  have hl : lv_has ls 2 [(0, .ref (bd 0)), (1, .int p0)] := hl
  obtain ⟨hIt, hOo, hNn, hGg, hVv⟩ := id hM
  obtain ⟨xo, ho8, eo⟩ := sm_S hOo
  obtain ⟨xn, hn8, en⟩ := sm_S hNn
  obtain ⟨xg, hg8, eg⟩ := sm_S hGg
  obtain ⟨xv, hv8, ev⟩ := sm_S hVv
  obtain ⟨hIa, hIe⟩ := sm_srv hIt
  refine lv_aload_n hx hb dX1_vote_0 rfl (lv_at hl 0 rfl) ?_
  refine lv_iconst (v := 0) hx hb dX1_vote_1 (by decide) ?_
  refine va_put (D := D) (ci := 1) (v := .int 0) (ty := .int) (C := RX1) (T := TX1) (N := 8) hx hb hw9 uX1 tyX1 tyX1_ok nmX1 hown hK hP hD hS 0 rfl rfl 0 (by decide) (hw9 _ mw_360) (fun _ h9 => h9) rfl (by decide +kernel) rfl rfl (Nat.le_of_ble_eq_true rfl) dX1_vote_2 (fun H locs hP hD hS => ?_)
  have hP : va_P D vwCl (wM bd cI 0 it o n g v r (sm_al nx mt fl pr ofs ak hd an) ++ rs) H := hP
  have hD : va_D A (wM bd cI 0 it o n g v r (sm_al nx mt fl pr ofs ak hd an) ++ rs) := hD
  refine lv_bipush (v := 127) hx hb dX1_vote_5 (by decide) ?_
  refine lv_iload_n hx hb dX1_vote_7 rfl (lv_at hl 1 rfl) ?_
  refine kz_rS (As := [.int 127, .int p0]) (rest := []) ⟨hx, hb, hml, hown, hw9⟩ (c_X1_has l hl9 D ((cI, .int) :: ty) (wM bd cI 0 it o n g v r (sm_al nx mt fl pr ofs ak hd an) ++ rs) H.size 127 p0) (kz_cS 2 hw9 mw_400 mw_401 mw_2 mw_402 rfl rfl (by decide +kernel) ⟨Nat.le_of_ble_eq_true rfl, Nat.le_of_ble_eq_true rfl⟩) (kz_preS hK hP hD hS hA hE) rfl hl.1 rfl (Nat.le_of_ble_eq_true rfl) dX1_vote_8 ⟨Nat.le_of_ble_eq_true rfl, Nat.le_of_ble_eq_true rfl⟩ (fun _ _ _ _ h => False.elim h) (fun v9 H hv9 hO1 => ?_)
  obtain ⟨_, rfl, rfl⟩ := hv9
  have hP := hO1.P hP
  have hS := hO1.S hS
  refine W.eq (g2 := F0 m 11 ls [.int (sq_z (sm_h 127 p0))]) rfl ?_
  refine lv_if_ne (tgt := 28) hx hb dX1_vote_11 (by decide) (fun c_1 => ?_) (fun c_1 => ?_)
  · -- 11 -> 28
    have hsv : sq_V p0 = true := (sm_h127 p0).symm.trans (sq_z_t c_1)
    obtain ⟨hsA, hsE⟩ := sm_srv hsv
    refine lv_aload_n hx hb dX1_vote_28 rfl (lv_at hl 0 rfl) ?_
    refine va_get (D := D) (ci := 1) (v := .int v) (C := RX1) (T := TX1) (N := 8) hx hb hw9 uX1 hown hK hP 0 rfl rfl 5 (by decide) (hw9 _ mw_365) (fun _ h9 => h9) rfl dX1_vote_29 ?_
    refine lv_iload_n hx hb dX1_vote_32 rfl (lv_at hl 1 rfl) ?_
    refine kz_rS (As := [.int v, .int p0]) (rest := []) ⟨hx, hb, hml, hown, hw9⟩ (c_X1_has l hl9 D ((cI, .int) :: ty) (wM bd cI 0 it o n g v r (sm_al nx mt fl pr ofs ak hd an) ++ rs) H.size v p0) (kz_cS 2 hw9 mw_400 mw_401 mw_2 mw_402 rfl rfl (by decide +kernel) ⟨Nat.le_of_ble_eq_true rfl, Nat.le_of_ble_eq_true rfl⟩) (kz_preS hK hP hD hS hA hE) rfl hl.1 rfl (Nat.le_of_ble_eq_true rfl) dX1_vote_33 ⟨Nat.le_of_ble_eq_true rfl, Nat.le_of_ble_eq_true rfl⟩ (fun _ _ _ _ h => False.elim h) (fun v9 H hv9 hO1 => ?_)
    obtain ⟨_, rfl, rfl⟩ := hv9
    have hP := hO1.P hP
    have hS := hO1.S hS
    refine W.eq (g2 := F0 m 36 ls [.int (sq_z (sm_h v p0))]) rfl ?_
    refine lv_if_ne (tgt := 51) hx hb dX1_vote_36 (by decide) (fun c_2 => ?_) (fun c_2 => ?_)
    · -- 36 -> 51
      refine lv_aload_n hx hb dX1_vote_51 rfl (lv_at hl 0 rfl) ?_
      refine lv_aload_n hx hb dX1_vote_52 rfl (lv_at hl 0 rfl) ?_
      refine va_get (D := D) (ci := 1) (v := .int v) (C := RX1) (T := TX1) (N := 8) hx hb hw9 uX1 hown hK hP 0 rfl rfl 5 (by decide) (hw9 _ mw_365) (fun _ h9 => h9) rfl dX1_vote_53 ?_
      refine kz_rV (As := [.int v]) (rest := []) ⟨hx, hb, hml, hown, hw9⟩ (c_X1_carries l hl9 D cI ty bd rs H.size 0 it o n g v r (sm_al nx mt fl pr ofs ak hd an) v hM hVv) (kz_cV 1 hw9 mw_419 mw_421 ms_13 mw_2 mw_422 rfl rfl (by decide +kernel) ⟨Nat.le_of_ble_eq_true rfl, Nat.le_of_ble_eq_true rfl⟩) (kz_preV (q0 := 0) (ci := 1) hK hP hD hS hA hE rfl rfl) rfl hl.1 rfl (Nat.le_of_ble_eq_true rfl) dX1_vote_56 ⟨Nat.le_of_ble_eq_true rfl, Nat.le_of_ble_eq_true rfl⟩ (fun _ _ _ _ h => False.elim h) (fun v9 H hv9 hO1 => ?_)
      obtain ⟨_, rfl, rfl⟩ := hv9
      have hP := hO1.P hP
      have hS := hO1.S hS
      refine W.eq (g2 := F0 m 59 ls [.int (sq_z (sq_M o n v))]) rfl ?_
      have htc : tc_server p0 = 0 := by first | (simp [tc_server, (sq_z_t c_1), (sq_z_t c_2), ((sm_h127 p0).symm.trans (sq_z_t c_1))]; done) | (simp only [tc_server, (sq_z_t c_1), (sq_z_t c_2), ((sm_h127 p0).symm.trans (sq_z_t c_1)), eq_self, not_true_eq_false, not_false_eq_true, and_self, and_true, true_and, and_false, false_and, or_true, true_or, or_false, false_or, if_true, if_false, ite_true, ite_false, Bool.and_eq_true, decide_true, decide_false, decide_eq_true_eq, ne_eq, Nat.reduceEqDiff, Nat.one_ne_zero, Bool.false_eq_true, reduceCtorEq]; done) | (simp only [tc_server, (sq_z_t c_1), (sq_z_t c_2), ((sm_h127 p0).symm.trans (sq_z_t c_1)), eq_self, not_true_eq_false, not_false_eq_true, and_self, and_true, true_and, and_false, false_and, or_true, true_or, or_false, false_or, if_true, if_false, ite_true, ite_false, Bool.and_eq_true, decide_true, decide_false, decide_eq_true_eq, ne_eq, Nat.reduceEqDiff, Nat.one_ne_zero, Bool.false_eq_true, reduceCtorEq]; decide)
      have e_v : (v ||| sq_1 p0) = v := (sm_vt0 hVv hsv (sq_z_t c_2)).symm
      exact kz_wretz hx hb hr hlocks (by simp only [htc, if_true, e_v]; exact hP) (by simp only [htc, if_true, e_v]; exact hD) hS (Nat.le_of_ble_eq_true rfl) (Nat.le_of_ble_eq_true rfl) (by rw [htc]; exact (show (sq_z (sq_M o n v)) = (sq_z (sq_M o n (v ||| sq_1 p0))) from by rw [← sm_vt0 hVv hsv (sq_z_t c_2)])) (sq_z_nar _) dX1_vote_59
    · -- 36 -> 39
      refine lv_aload_n hx hb dX1_vote_39 rfl (lv_at hl 0 rfl) ?_
      refine lv_dup hx hb dX1_vote_40 rfl ?_
      refine va_get (D := D) (ci := 1) (v := .int v) (C := RX1) (T := TX1) (N := 8) hx hb hw9 uX1 hown hK hP 0 rfl rfl 5 (by decide) (hw9 _ mw_365) (fun _ h9 => h9) rfl dX1_vote_41 ?_
      refine lv_iconst (v := 1) hx hb dX1_vote_44 (by decide) ?_
      refine lv_iload_n hx hb dX1_vote_45 rfl (lv_at hl 1 rfl) ?_
      refine lv_ishl hx hb dX1_vote_46 ?_
      refine lv_iadd hx hb dX1_vote_47 ?_
      refine va_put (D := D) (ci := 1) (v := .int (v + (1 <<< (p0 &&& 31)))) (ty := .int) (C := RX1) (T := TX1) (N := 8) hx hb hw9 uX1 tyX1 tyX1_ok nmX1 hown hK hP hD hS 0 rfl rfl 5 (by decide) (hw9 _ mw_365) (fun _ h9 => h9) rfl (by decide +kernel) rfl rfl (Nat.le_of_ble_eq_true rfl) dX1_vote_48 (fun H locs hP hD hS => ?_)
      have hnv : sm_h v p0 = false := (sq_z_f c_2)
      rw [sm_vt1 hVv hsv hnv] at hP hD
      have hP : va_P D vwCl (wM bd cI 0 it o n g (v ||| sq_1 p0) r (sm_al nx mt fl pr ofs ak hd an) ++ rs) H := hP
      have hD : va_D A (wM bd cI 0 it o n g (v ||| sq_1 p0) r (sm_al nx mt fl pr ofs ak hd an) ++ rs) := hD
      refine lv_aload_n hx hb dX1_vote_51 rfl (lv_at hl 0 rfl) ?_
      refine lv_aload_n hx hb dX1_vote_52 rfl (lv_at hl 0 rfl) ?_
      refine va_get (D := D) (ci := 1) (v := .int (v ||| sq_1 p0)) (C := RX1) (T := TX1) (N := 8) hx hb hw9 uX1 hown hK hP 0 rfl rfl 5 (by decide) (hw9 _ mw_365) (fun _ h9 => h9) rfl dX1_vote_53 ?_
      refine kz_rV (As := [.int (v ||| sq_1 p0)]) (rest := []) ⟨hx, hb, hml, hown, hw9⟩ (c_X1_carries l hl9 D cI ty bd rs H.size 0 it o n g (v ||| sq_1 p0) r (sm_al nx mt fl pr ofs ak hd an) (v ||| sq_1 p0) hM (sm_vS hVv hsv)) (kz_cV 1 hw9 mw_419 mw_421 ms_13 mw_2 mw_422 rfl rfl (by decide +kernel) ⟨Nat.le_of_ble_eq_true rfl, Nat.le_of_ble_eq_true rfl⟩) (kz_preV (q0 := 0) (ci := 1) hK hP hD hS hA hE rfl rfl) rfl hl.1 rfl (Nat.le_of_ble_eq_true rfl) dX1_vote_56 ⟨Nat.le_of_ble_eq_true rfl, Nat.le_of_ble_eq_true rfl⟩ (fun _ _ _ _ h => False.elim h) (fun v9 H hv9 hO1 => ?_)
      obtain ⟨_, rfl, rfl⟩ := hv9
      have hP := hO1.P hP
      have hS := hO1.S hS
      refine W.eq (g2 := F0 m 59 ls [.int (sq_z (sq_M o n (v ||| sq_1 p0)))]) rfl ?_
      have htc : tc_server p0 = 0 := by first | (simp [tc_server, (sq_z_t c_1), (sq_z_f c_2), ((sm_h127 p0).symm.trans (sq_z_t c_1))]; done) | (simp only [tc_server, (sq_z_t c_1), (sq_z_f c_2), ((sm_h127 p0).symm.trans (sq_z_t c_1)), eq_self, not_true_eq_false, not_false_eq_true, and_self, and_true, true_and, and_false, false_and, or_true, true_or, or_false, false_or, if_true, if_false, ite_true, ite_false, Bool.and_eq_true, decide_true, decide_false, decide_eq_true_eq, ne_eq, Nat.reduceEqDiff, Nat.one_ne_zero, Bool.false_eq_true, reduceCtorEq]; done) | (simp only [tc_server, (sq_z_t c_1), (sq_z_f c_2), ((sm_h127 p0).symm.trans (sq_z_t c_1)), eq_self, not_true_eq_false, not_false_eq_true, and_self, and_true, true_and, and_false, false_and, or_true, true_or, or_false, false_or, if_true, if_false, ite_true, ite_false, Bool.and_eq_true, decide_true, decide_false, decide_eq_true_eq, ne_eq, Nat.reduceEqDiff, Nat.one_ne_zero, Bool.false_eq_true, reduceCtorEq]; decide)
      exact kz_wretz hx hb hr hlocks (by rw [htc]; exact hP) (by rw [htc]; exact hD) hS (Nat.le_of_ble_eq_true rfl) (Nat.le_of_ble_eq_true rfl) (by rw [htc]; exact (show (sq_z (sq_M o n (v ||| sq_1 p0))) = (sq_z (sq_M o n (v ||| sq_1 p0))) from rfl)) (sq_z_nar _) dX1_vote_59
  · -- 11 -> 14
    refine lv_aload_n hx hb dX1_vote_14 rfl (lv_at hl 0 rfl) ?_
    refine lv_iconst (v := 1) hx hb dX1_vote_15 (by decide) ?_
    refine kz_wV (As := [.int 1]) (rest := []) ⟨hx, hb, hml, hown, hw9⟩ (c_X1_fail l hl9 D cI ty bd rs H.size 0 it o n g v r (sm_al nx mt fl pr ofs ak hd an) 1) (kz_cV 1 hw9 mw_411 mw_413 ms_12 mw_2 mw_414 rfl rfl (by decide +kernel) ⟨Nat.le_of_ble_eq_true rfl, Nat.le_of_ble_eq_true rfl⟩) (kz_preV (q0 := 0) (ci := 1) hK hP hD hS hA hE rfl rfl) rfl hl.1 rfl (Nat.le_of_ble_eq_true rfl) dX1_vote_16 ⟨Nat.le_of_ble_eq_true rfl, Nat.le_of_ble_eq_true rfl⟩ hD hS hA (fun _ _ _ _ _ _ h => False.elim h) (fun v9 H locs hv9 hP hD hS => ?_)
    obtain ⟨_, rfl, rfl⟩ := hv9
    have hP : va_P D vwCl (wM bd cI 1 it o n g v r (sm_al nx mt fl pr ofs ak hd an) ++ rs) H := hP
    have hD : va_D A (wM bd cI 1 it o n g v r (sm_al nx mt fl pr ofs ak hd an) ++ rs) := hD
    refine W.eq (g2 := F0 m 19 ls [.int 0]) rfl ?_
    refine lv_if_le (tgt := 26) hx hb dX1_vote_19 (by decide) (fun c_3 => ?_) (fun c_3 => ?_)
    · -- 19 -> 26
      refine lv_iconst (v := 0) hx hb dX1_vote_26 (by decide) ?_
      have htc : tc_server p0 = 1 := by first | (simp [tc_server, (sq_z_f c_1), c_3, (Int32.not_lt.mpr c_3), ((sm_h127 p0).symm.trans (sq_z_f c_1))]; done) | (simp only [tc_server, (sq_z_f c_1), c_3, (Int32.not_lt.mpr c_3), ((sm_h127 p0).symm.trans (sq_z_f c_1)), eq_self, not_true_eq_false, not_false_eq_true, and_self, and_true, true_and, and_false, false_and, or_true, true_or, or_false, false_or, if_true, if_false, ite_true, ite_false, Bool.and_eq_true, decide_true, decide_false, decide_eq_true_eq, ne_eq, Nat.reduceEqDiff, Nat.one_ne_zero, Bool.false_eq_true, reduceCtorEq]; done) | (simp only [tc_server, (sq_z_f c_1), c_3, (Int32.not_lt.mpr c_3), ((sm_h127 p0).symm.trans (sq_z_f c_1)), eq_self, not_true_eq_false, not_false_eq_true, and_self, and_true, true_and, and_false, false_and, or_true, true_or, or_false, false_or, if_true, if_false, ite_true, ite_false, Bool.and_eq_true, decide_true, decide_false, decide_eq_true_eq, ne_eq, Nat.reduceEqDiff, Nat.one_ne_zero, Bool.false_eq_true, reduceCtorEq]; decide)
      exact kz_wretz hx hb hr hlocks (by rw [htc]; exact hP) (by rw [htc]; exact hD) hS (Nat.le_of_ble_eq_true rfl) (Nat.le_of_ble_eq_true rfl) (by rw [htc]; rfl) rfl dX1_vote_27
    · -- 19 -> 22
      exact absurd (by decide) c_3
set_option maxHeartbeats 4000000 in
set_option maxRecDepth 100000 in
theorem c_X1_own (l : Launch) (hl9 : l.stackTraces = false) (D : va_G) (cI : ClassId) (ty : kz_Y) (bd : Nat → Nat) (rs : va_W) (sz : Nat) (th it o n g v r : Int32) (nx mt fl pr ofs ak hd an : Nat → Int32) (p0 : Int32) (p1 : Int32) (hM : sv_m it o n g v) : ez_M l yX1_own wsX1_own ({ frames := 1, cells := 1, slots := 6, locals := 23 } : Room) (kz_P D ((cI, .int) :: ty) (wM bd cI th it o n g v r (sm_al nx mt fl pr ofs ak hd an) ++ rs) sz [.ref (bd 0), .int p0, .int p1]) (kz_Wr D (va_A (wM bd cI th it o n g v r (sm_al nx mt fl pr ofs ak hd an) ++ rs) sz) (kz_v (True)) (wM bd cI (nI (tc_own p0 p1)) it o n g v r (sm_al nx (if tc_own p0 p1 = 0 then upd mt it.toNatClampNeg p0 else mt) fl pr ofs (if tc_own p0 p1 = 0 then upd ak it.toNatClampNeg r else ak) (if tc_own p0 p1 = 0 then upd hd it.toNatClampNeg p1 else hd) an) ++ rs)) (kz_T (fun _ => IAE) (fun _ => False)) 0 0 (va_A (wM bd cI th it o n g v r (sm_al nx mt fl pr ofs ak hd an) ++ rs) sz) := by
  refine ez_ofW (cc := cX1_own) (maxL := 3) (ret := none) (by decide) rfl ?_
  intro p e s m args below meth c s₁ B hml hTab hv
  obtain ⟨rfl, hsz, hP, hK, hD0, hE⟩ := hv
  have hx := B.exec
  have hb := B.bytes
  have hr := B.returns
  have hw9 : ∀ w ∈ kz_W9, w.before ([.ref (bd 0), .int p0, .int p1] : List Value).toArray s = true := fun w h => atoms_spec (ws := wsX1_own) B.pre w (List.mem_cons_of_mem _ h)
  have hown : s.vm.findClass RX1 = some m.cls := findClass_of_methodNamed B.named
  have hlocks := B.notSynchronized
  subst hsz
  have hD := hD0.self (sz := s.heap.size)
  generalize hAe : va_A (wM bd cI th it o n g v r (sm_al nx mt fl pr ofs ak hd an) ++ rs) s.heap.size = A at hD hE ⊢
  have hA : ∀ q : Nat, s.heap.size ≤ q → A q := fun q h => by rw [← hAe]; exact Or.inr h
  have hS : va_S A s.heap s.heap [] := va_S.rf
  have hO : kz_O s.heap s.heap := kz_O.rf _
  have hl := lv_entry ([.ref (bd 0), .int p0, .int p1]) (n := 3) (Nat.le_of_ble_eq_true rfl)
  rw [lg_entry_eq]
  generalize (lg_sl ([.ref (bd 0), .int p0, .int p1]) ++ List.replicate (3 - (lg_sl ([.ref (bd 0), .int p0, .int p1])).length) Slot.unset).toArray = ls at hl ⊢
  have hl : lv_has ls 3 [(0, .ref (bd 0)), (1, .int p0), (2, .int p1)] := hl
  obtain ⟨hIt, hOo, hNn, hGg, hVv⟩ := id hM
  obtain ⟨xo, ho8, eo⟩ := sm_S hOo
  obtain ⟨xn, hn8, en⟩ := sm_S hNn
  obtain ⟨xg, hg8, eg⟩ := sm_S hGg
  obtain ⟨xv, hv8, ev⟩ := sm_S hVv
  obtain ⟨hIa, hIe⟩ := sm_srv hIt
  refine lv_aload_n hx hb dX1_own_0 rfl (lv_at hl 0 rfl) ?_
  refine lv_iconst (v := 0) hx hb dX1_own_1 (by decide) ?_
  refine va_put (D := D) (ci := 1) (v := .int 0) (ty := .int) (C := RX1) (T := TX1) (N := 8) hx hb hw9 uX1 tyX1 tyX1_ok nmX1 hown hK hP hD hS 0 rfl rfl 0 (by decide) (hw9 _ mw_360) (fun _ h9 => h9) rfl (by decide +kernel) rfl rfl (Nat.le_of_ble_eq_true rfl) dX1_own_2 (fun H locs hP hD hS => ?_)
  have hP : va_P D vwCl (wM bd cI 0 it o n g v r (sm_al nx mt fl pr ofs ak hd an) ++ rs) H := hP
  have hD : va_D A (wM bd cI 0 it o n g v r (sm_al nx mt fl pr ofs ak hd an) ++ rs) := hD
  refine lv_iload_n hx hb dX1_own_5 rfl (lv_at hl 1 rfl) ?_
  refine kz_rS (As := [.int p0]) (rest := []) ⟨hx, hb, hml, hown, hw9⟩ (c_X1_number l hl9 D ((cI, .int) :: ty) (wM bd cI 0 it o n g v r (sm_al nx mt fl pr ofs ak hd an) ++ rs) H.size p0) (kz_cS 1 hw9 mw_438 mw_439 mw_2 mw_440 rfl rfl (by decide +kernel) ⟨Nat.le_of_ble_eq_true rfl, Nat.le_of_ble_eq_true rfl⟩) (kz_preS hK hP hD hS hA hE) rfl hl.1 rfl (Nat.le_of_ble_eq_true rfl) dX1_own_6 ⟨Nat.le_of_ble_eq_true rfl, Nat.le_of_ble_eq_true rfl⟩ (fun _ _ _ _ h => False.elim h) (fun v9 H hv9 hO1 => ?_)
  obtain ⟨_, rfl, rfl⟩ := hv9
  have hP := hO1.P hP
  have hS := hO1.S hS
  refine W.eq (g2 := F0 m 9 ls [.int (sq_z (sq_N p0))]) rfl ?_
  refine lv_if_eq (tgt := 19) hx hb dX1_own_9 (by decide) (fun c_1 => ?_) (fun c_1 => ?_)
  · -- 9 -> 19
    refine lv_aload_n hx hb dX1_own_19 rfl (lv_at hl 0 rfl) ?_
    refine lv_iconst (v := 1) hx hb dX1_own_20 (by decide) ?_
    refine va_put (D := D) (ci := 1) (v := .int 1) (ty := .int) (C := RX1) (T := TX1) (N := 8) hx hb hw9 uX1 tyX1 tyX1_ok nmX1 hown hK hP hD hS 0 rfl rfl 0 (by decide) (hw9 _ mw_360) (fun _ h9 => h9) rfl (by decide +kernel) rfl rfl (Nat.le_of_ble_eq_true rfl) dX1_own_21 (fun H locs hP hD hS => ?_)
    have hP : va_P D vwCl (wM bd cI 1 it o n g v r (sm_al nx mt fl pr ofs ak hd an) ++ rs) H := hP
    have hD : va_D A (wM bd cI 1 it o n g v r (sm_al nx mt fl pr ofs ak hd an) ++ rs) := hD
    have htc : tc_own p0 p1 = 1 := by first | (simp [tc_own, (sq_z_f c_1)]; done) | (simp only [tc_own, (sq_z_f c_1), eq_self, not_true_eq_false, not_false_eq_true, and_self, and_true, true_and, and_false, false_and, or_true, true_or, or_false, false_or, if_true, if_false, ite_true, ite_false, Bool.and_eq_true, decide_true, decide_false, decide_eq_true_eq, ne_eq, Nat.reduceEqDiff, Nat.one_ne_zero, Bool.false_eq_true, reduceCtorEq]; done) | (simp only [tc_own, (sq_z_f c_1), eq_self, not_true_eq_false, not_false_eq_true, and_self, and_true, true_and, and_false, false_and, or_true, true_or, or_false, false_or, if_true, if_false, ite_true, ite_false, Bool.and_eq_true, decide_true, decide_false, decide_eq_true_eq, ne_eq, Nat.reduceEqDiff, Nat.one_ne_zero, Bool.false_eq_true, reduceCtorEq]; decide)
    exact kz_wretv hx hb hr hlocks (by rw [htc]; exact hP) (by rw [htc]; exact hD) hS (Nat.le_of_ble_eq_true rfl) (Nat.le_of_ble_eq_true rfl) (trivial)  dX1_own_24
  · -- 9 -> 12
    refine lv_iload_n hx hb dX1_own_12 rfl (lv_at hl 2 rfl) ?_
    refine kz_rS (As := [.int p1]) (rest := []) ⟨hx, hb, hml, hown, hw9⟩ (c_X1_number l hl9 D ((cI, .int) :: ty) (wM bd cI 0 it o n g v r (sm_al nx mt fl pr ofs ak hd an) ++ rs) H.size p1) (kz_cS 1 hw9 mw_438 mw_439 mw_2 mw_440 rfl rfl (by decide +kernel) ⟨Nat.le_of_ble_eq_true rfl, Nat.le_of_ble_eq_true rfl⟩) (kz_preS hK hP hD hS hA hE) rfl hl.1 rfl (Nat.le_of_ble_eq_true rfl) dX1_own_13 ⟨Nat.le_of_ble_eq_true rfl, Nat.le_of_ble_eq_true rfl⟩ (fun _ _ _ _ h => False.elim h) (fun v9 H hv9 hO1 => ?_)
    obtain ⟨_, rfl, rfl⟩ := hv9
    have hP := hO1.P hP
    have hS := hO1.S hS
    refine W.eq (g2 := F0 m 16 ls [.int (sq_z (sq_N p1))]) rfl ?_
    refine lv_if_ne (tgt := 25) hx hb dX1_own_16 (by decide) (fun c_2 => ?_) (fun c_2 => ?_)
    · -- 16 -> 25
      refine lv_aload_n hx hb dX1_own_25 rfl (lv_at hl 0 rfl) ?_
      refine lv_aload_n hx hb dX1_own_26 rfl (lv_at hl 0 rfl) ?_
      refine va_get (D := D) (ci := 1) (v := .int it) (C := RX1) (T := TX1) (N := 8) hx hb hw9 uX1 hown hK hP 0 rfl rfl 1 (by decide) (hw9 _ mw_361) (fun _ h9 => h9) rfl dX1_own_27 ?_
      refine lv_iconst (v := 1) hx hb dX1_own_30 (by decide) ?_
      refine lv_iload_n hx hb dX1_own_31 rfl (lv_at hl 1 rfl) ?_
      refine kz_wV (As := [.int it, .int 1, .int p0]) (rest := []) ⟨hx, hb, hml, hown, hw9⟩ (c_X1_put l hl9 D cI ty bd rs H.size 0 it o n g v r (sm_al nx mt fl pr ofs ak hd an) it.toNatClampNeg 1 it 1 p0 hIa (by decide) hIe rfl) (kz_cV 3 hw9 mw_442 mw_444 ms_14 mw_2 mw_445 rfl rfl (by decide +kernel) ⟨Nat.le_of_ble_eq_true rfl, Nat.le_of_ble_eq_true rfl⟩) (kz_preV (q0 := 0) (ci := 1) hK hP hD hS hA hE rfl rfl) rfl hl.1 rfl (Nat.le_of_ble_eq_true rfl) dX1_own_32 ⟨Nat.le_of_ble_eq_true rfl, Nat.le_of_ble_eq_true rfl⟩ hD hS hA (fun _ _ _ _ _ _ h => False.elim h) (fun v9 H locs hv9 hP hD hS => ?_)
      obtain ⟨rfl, -⟩ := hv9
      rw [sm_p1] at hP hD
      have hP : va_P D vwCl (wM bd cI 0 it o n g v r (sm_al nx (upd mt it.toNatClampNeg p0) fl pr ofs ak hd an) ++ rs) H := hP
      have hD : va_D A (wM bd cI 0 it o n g v r (sm_al nx (upd mt it.toNatClampNeg p0) fl pr ofs ak hd an) ++ rs) := hD
      refine W.eq (g2 := F0 m 35 ls []) rfl ?_
      refine lv_aload_n hx hb dX1_own_35 rfl (lv_at hl 0 rfl) ?_
      refine lv_aload_n hx hb dX1_own_36 rfl (lv_at hl 0 rfl) ?_
      refine va_get (D := D) (ci := 1) (v := .int it) (C := RX1) (T := TX1) (N := 8) hx hb hw9 uX1 hown hK hP 0 rfl rfl 1 (by decide) (hw9 _ mw_361) (fun _ h9 => h9) rfl dX1_own_37 ?_
      refine lv_bipush (v := 6) hx hb dX1_own_40 (by decide) ?_
      refine lv_iload_n hx hb dX1_own_42 rfl (lv_at hl 2 rfl) ?_
      refine kz_wV (As := [.int it, .int 6, .int p1]) (rest := []) ⟨hx, hb, hml, hown, hw9⟩ (c_X1_put l hl9 D cI ty bd rs H.size 0 it o n g v r (sm_al nx (upd mt it.toNatClampNeg p0) fl pr ofs ak hd an) it.toNatClampNeg 6 it 6 p1 hIa (by decide) hIe rfl) (kz_cV 3 hw9 mw_442 mw_444 ms_14 mw_2 mw_445 rfl rfl (by decide +kernel) ⟨Nat.le_of_ble_eq_true rfl, Nat.le_of_ble_eq_true rfl⟩) (kz_preV (q0 := 0) (ci := 1) hK hP hD hS hA hE rfl rfl) rfl hl.1 rfl (Nat.le_of_ble_eq_true rfl) dX1_own_43 ⟨Nat.le_of_ble_eq_true rfl, Nat.le_of_ble_eq_true rfl⟩ hD hS hA (fun _ _ _ _ _ _ h => False.elim h) (fun v9 H locs hv9 hP hD hS => ?_)
      obtain ⟨rfl, -⟩ := hv9
      rw [sm_p6] at hP hD
      have hP : va_P D vwCl (wM bd cI 0 it o n g v r (sm_al nx (upd mt it.toNatClampNeg p0) fl pr ofs ak (upd hd it.toNatClampNeg p1) an) ++ rs) H := hP
      have hD : va_D A (wM bd cI 0 it o n g v r (sm_al nx (upd mt it.toNatClampNeg p0) fl pr ofs ak (upd hd it.toNatClampNeg p1) an) ++ rs) := hD
      refine W.eq (g2 := F0 m 46 ls []) rfl ?_
      refine lv_aload_n hx hb dX1_own_46 rfl (lv_at hl 0 rfl) ?_
      refine lv_aload_n hx hb dX1_own_47 rfl (lv_at hl 0 rfl) ?_
      refine va_get (D := D) (ci := 1) (v := .int it) (C := RX1) (T := TX1) (N := 8) hx hb hw9 uX1 hown hK hP 0 rfl rfl 1 (by decide) (hw9 _ mw_361) (fun _ h9 => h9) rfl dX1_own_48 ?_
      refine lv_iconst (v := 5) hx hb dX1_own_51 (by decide) ?_
      refine lv_aload_n hx hb dX1_own_52 rfl (lv_at hl 0 rfl) ?_
      refine va_get (D := D) (ci := 1) (v := .int r) (C := RX1) (T := TX1) (N := 8) hx hb hw9 uX1 hown hK hP 0 rfl rfl 6 (by decide) (hw9 _ mw_366) (fun _ h9 => h9) rfl dX1_own_53 ?_
      refine kz_wV (As := [.int it, .int 5, .int r]) (rest := []) ⟨hx, hb, hml, hown, hw9⟩ (c_X1_put l hl9 D cI ty bd rs H.size 0 it o n g v r (sm_al nx (upd mt it.toNatClampNeg p0) fl pr ofs ak (upd hd it.toNatClampNeg p1) an) it.toNatClampNeg 5 it 5 r hIa (by decide) hIe rfl) (kz_cV 3 hw9 mw_442 mw_444 ms_14 mw_2 mw_445 rfl rfl (by decide +kernel) ⟨Nat.le_of_ble_eq_true rfl, Nat.le_of_ble_eq_true rfl⟩) (kz_preV (q0 := 0) (ci := 1) hK hP hD hS hA hE rfl rfl) rfl hl.1 rfl (Nat.le_of_ble_eq_true rfl) dX1_own_56 ⟨Nat.le_of_ble_eq_true rfl, Nat.le_of_ble_eq_true rfl⟩ hD hS hA (fun _ _ _ _ _ _ h => False.elim h) (fun v9 H locs hv9 hP hD hS => ?_)
      obtain ⟨rfl, -⟩ := hv9
      rw [sm_p5] at hP hD
      have hP : va_P D vwCl (wM bd cI 0 it o n g v r (sm_al nx (upd mt it.toNatClampNeg p0) fl pr ofs (upd ak it.toNatClampNeg r) (upd hd it.toNatClampNeg p1) an) ++ rs) H := hP
      have hD : va_D A (wM bd cI 0 it o n g v r (sm_al nx (upd mt it.toNatClampNeg p0) fl pr ofs (upd ak it.toNatClampNeg r) (upd hd it.toNatClampNeg p1) an) ++ rs) := hD
      refine W.eq (g2 := F0 m 59 ls []) rfl ?_
      have htc : tc_own p0 p1 = 0 := by first | (simp [tc_own, (sq_z_t c_1), (sq_z_t c_2)]; done) | (simp only [tc_own, (sq_z_t c_1), (sq_z_t c_2), eq_self, not_true_eq_false, not_false_eq_true, and_self, and_true, true_and, and_false, false_and, or_true, true_or, or_false, false_or, if_true, if_false, ite_true, ite_false, Bool.and_eq_true, decide_true, decide_false, decide_eq_true_eq, ne_eq, Nat.reduceEqDiff, Nat.one_ne_zero, Bool.false_eq_true, reduceCtorEq]; done) | (simp only [tc_own, (sq_z_t c_1), (sq_z_t c_2), eq_self, not_true_eq_false, not_false_eq_true, and_self, and_true, true_and, and_false, false_and, or_true, true_or, or_false, false_or, if_true, if_false, ite_true, ite_false, Bool.and_eq_true, decide_true, decide_false, decide_eq_true_eq, ne_eq, Nat.reduceEqDiff, Nat.one_ne_zero, Bool.false_eq_true, reduceCtorEq]; decide)
      exact kz_wretv hx hb hr hlocks (by rw [htc]; exact hP) (by rw [htc]; exact hD) hS (Nat.le_of_ble_eq_true rfl) (Nat.le_of_ble_eq_true rfl) (trivial)  dX1_own_59
    · -- 16 -> 19
      refine lv_aload_n hx hb dX1_own_19 rfl (lv_at hl 0 rfl) ?_
      refine lv_iconst (v := 1) hx hb dX1_own_20 (by decide) ?_
      refine va_put (D := D) (ci := 1) (v := .int 1) (ty := .int) (C := RX1) (T := TX1) (N := 8) hx hb hw9 uX1 tyX1 tyX1_ok nmX1 hown hK hP hD hS 0 rfl rfl 0 (by decide) (hw9 _ mw_360) (fun _ h9 => h9) rfl (by decide +kernel) rfl rfl (Nat.le_of_ble_eq_true rfl) dX1_own_21 (fun H locs hP hD hS => ?_)
      have hP : va_P D vwCl (wM bd cI 1 it o n g v r (sm_al nx mt fl pr ofs ak hd an) ++ rs) H := hP
      have hD : va_D A (wM bd cI 1 it o n g v r (sm_al nx mt fl pr ofs ak hd an) ++ rs) := hD
      have htc : tc_own p0 p1 = 1 := by first | (simp [tc_own, (sq_z_t c_1), (sq_z_f c_2)]; done) | (simp only [tc_own, (sq_z_t c_1), (sq_z_f c_2), eq_self, not_true_eq_false, not_false_eq_true, and_self, and_true, true_and, and_false, false_and, or_true, true_or, or_false, false_or, if_true, if_false, ite_true, ite_false, Bool.and_eq_true, decide_true, decide_false, decide_eq_true_eq, ne_eq, Nat.reduceEqDiff, Nat.one_ne_zero, Bool.false_eq_true, reduceCtorEq]; done) | (simp only [tc_own, (sq_z_t c_1), (sq_z_f c_2), eq_self, not_true_eq_false, not_false_eq_true, and_self, and_true, true_and, and_false, false_and, or_true, true_or, or_false, false_or, if_true, if_false, ite_true, ite_false, Bool.and_eq_true, decide_true, decide_false, decide_eq_true_eq, ne_eq, Nat.reduceEqDiff, Nat.one_ne_zero, Bool.false_eq_true, reduceCtorEq]; decide)
      exact kz_wretv hx hb hr hlocks (by rw [htc]; exact hP) (by rw [htc]; exact hD) hS (Nat.le_of_ble_eq_true rfl) (Nat.le_of_ble_eq_true rfl) (trivial)  dX1_own_24
set_option maxHeartbeats 4000000 in
set_option maxRecDepth 100000 in
theorem c_X1_answered (l : Launch) (hl9 : l.stackTraces = false) (D : va_G) (cI : ClassId) (ty : kz_Y) (bd : Nat → Nat) (rs : va_W) (sz : Nat) (th it o n g v r : Int32) (nx mt fl pr ofs ak hd an : Nat → Int32) (p0 : Int32) (p1 : Int32) (p2 : Int32) (hsv : sq_V p0 = true) : ez_M l yX1_answered wsX1_answered ({ frames := 1, cells := 1, slots := 6, locals := 23 } : Room) (kz_P D ((cI, .int) :: ty) (wM bd cI th it o n g v r (sm_al nx mt fl pr ofs ak hd an) ++ rs) sz [.ref (bd 0), .int p0, .int p1, .int p2]) (kz_Wr D (va_A (wM bd cI th it o n g v r (sm_al nx mt fl pr ofs ak hd an) ++ rs) sz) (kz_v (True)) (wM bd cI th it o n g v r (sm_al nx mt fl pr ofs (upd ak p0.toNatClampNeg (sq_max (ak p0.toNatClampNeg) p1)) (upd hd p0.toNatClampNeg p2) (upd an p0.toNatClampNeg 1)) ++ rs)) (kz_T (fun _ => IAE) (fun _ => False)) 0 0 (va_A (wM bd cI th it o n g v r (sm_al nx mt fl pr ofs ak hd an) ++ rs) sz) := by
  refine ez_ofW (cc := cX1_answered) (maxL := 4) (ret := none) (by decide) rfl ?_
  intro p e s m args below meth c s₁ B hml hTab hv
  obtain ⟨rfl, hsz, hP, hK, hD0, hE⟩ := hv
  have hx := B.exec
  have hb := B.bytes
  have hr := B.returns
  have hw9 : ∀ w ∈ kz_W9, w.before ([.ref (bd 0), .int p0, .int p1, .int p2] : List Value).toArray s = true := fun w h => atoms_spec (ws := wsX1_answered) B.pre w (List.mem_cons_of_mem _ h)
  have hown : s.vm.findClass RX1 = some m.cls := findClass_of_methodNamed B.named
  have hlocks := B.notSynchronized
  subst hsz
  have hD := hD0.self (sz := s.heap.size)
  generalize hAe : va_A (wM bd cI th it o n g v r (sm_al nx mt fl pr ofs ak hd an) ++ rs) s.heap.size = A at hD hE ⊢
  have hA : ∀ q : Nat, s.heap.size ≤ q → A q := fun q h => by rw [← hAe]; exact Or.inr h
  have hS : va_S A s.heap s.heap [] := va_S.rf
  have hO : kz_O s.heap s.heap := kz_O.rf _
  have hl := lv_entry ([.ref (bd 0), .int p0, .int p1, .int p2]) (n := 4) (Nat.le_of_ble_eq_true rfl)
  rw [lg_entry_eq]
  generalize (lg_sl ([.ref (bd 0), .int p0, .int p1, .int p2]) ++ List.replicate (4 - (lg_sl ([.ref (bd 0), .int p0, .int p1, .int p2])).length) Slot.unset).toArray = ls at hl ⊢
  have hl : lv_has ls 4 [(0, .ref (bd 0)), (1, .int p0), (2, .int p1), (3, .int p2)] := hl
  obtain ⟨hsA, hsE⟩ := sm_srv hsv
  refine lv_aload_n hx hb dX1_answered_0 rfl (lv_at hl 0 rfl) ?_
  refine lv_iload_n hx hb dX1_answered_1 rfl (lv_at hl 1 rfl) ?_
  refine lv_bipush (v := 6) hx hb dX1_answered_2 (by decide) ?_
  refine lv_iload_n hx hb dX1_answered_4 rfl (lv_at hl 3 rfl) ?_
  refine kz_wV (As := [.int p0, .int 6, .int p2]) (rest := []) ⟨hx, hb, hml, hown, hw9⟩ (c_X1_put l hl9 D cI ty bd rs s.heap.size th it o n g v r (sm_al nx mt fl pr ofs ak hd an) p0.toNatClampNeg 6 p0 6 p2 hsA (by decide) hsE rfl) (kz_cV 3 hw9 mw_442 mw_444 ms_14 mw_2 mw_445 rfl rfl (by decide +kernel) ⟨Nat.le_of_ble_eq_true rfl, Nat.le_of_ble_eq_true rfl⟩) (kz_preV (q0 := 0) (ci := 1) hK hP hD hS hA hE rfl rfl) rfl hl.1 rfl (Nat.le_of_ble_eq_true rfl) dX1_answered_5 ⟨Nat.le_of_ble_eq_true rfl, Nat.le_of_ble_eq_true rfl⟩ hD hS hA (fun _ _ _ _ _ _ h => False.elim h) (fun v9 H locs hv9 hP hD hS => ?_)
  obtain ⟨rfl, -⟩ := hv9
  rw [sm_p6] at hP hD
  have hP : va_P D vwCl (wM bd cI th it o n g v r (sm_al nx mt fl pr ofs ak (upd hd p0.toNatClampNeg p2) an) ++ rs) H := hP
  have hD : va_D A (wM bd cI th it o n g v r (sm_al nx mt fl pr ofs ak (upd hd p0.toNatClampNeg p2) an) ++ rs) := hD
  refine W.eq (g2 := F0 m 8 ls []) rfl ?_
  refine lv_aload_n hx hb dX1_answered_8 rfl (lv_at hl 0 rfl) ?_
  refine lv_iload_n hx hb dX1_answered_9 rfl (lv_at hl 1 rfl) ?_
  refine lv_bipush (v := 7) hx hb dX1_answered_10 (by decide) ?_
  refine lv_iconst (v := 1) hx hb dX1_answered_12 (by decide) ?_
  refine kz_wV (As := [.int p0, .int 7, .int 1]) (rest := []) ⟨hx, hb, hml, hown, hw9⟩ (c_X1_put l hl9 D cI ty bd rs H.size th it o n g v r (sm_al nx mt fl pr ofs ak (upd hd p0.toNatClampNeg p2) an) p0.toNatClampNeg 7 p0 7 1 hsA (by decide) hsE rfl) (kz_cV 3 hw9 mw_442 mw_444 ms_14 mw_2 mw_445 rfl rfl (by decide +kernel) ⟨Nat.le_of_ble_eq_true rfl, Nat.le_of_ble_eq_true rfl⟩) (kz_preV (q0 := 0) (ci := 1) hK hP hD hS hA hE rfl rfl) rfl hl.1 rfl (Nat.le_of_ble_eq_true rfl) dX1_answered_13 ⟨Nat.le_of_ble_eq_true rfl, Nat.le_of_ble_eq_true rfl⟩ hD hS hA (fun _ _ _ _ _ _ h => False.elim h) (fun v9 H locs hv9 hP hD hS => ?_)
  obtain ⟨rfl, -⟩ := hv9
  rw [sm_p7] at hP hD
  have hP : va_P D vwCl (wM bd cI th it o n g v r (sm_al nx mt fl pr ofs ak (upd hd p0.toNatClampNeg p2) (upd an p0.toNatClampNeg 1)) ++ rs) H := hP
  have hD : va_D A (wM bd cI th it o n g v r (sm_al nx mt fl pr ofs ak (upd hd p0.toNatClampNeg p2) (upd an p0.toNatClampNeg 1)) ++ rs) := hD
  refine W.eq (g2 := F0 m 16 ls []) rfl ?_
  refine lv_aload_n hx hb dX1_answered_16 rfl (lv_at hl 0 rfl) ?_
  refine lv_iload_n hx hb dX1_answered_17 rfl (lv_at hl 1 rfl) ?_
  refine lv_iconst (v := 5) hx hb dX1_answered_18 (by decide) ?_
  refine lv_aload_n hx hb dX1_answered_19 rfl (lv_at hl 0 rfl) ?_
  refine lv_iload_n hx hb dX1_answered_20 rfl (lv_at hl 1 rfl) ?_
  refine lv_iconst (v := 5) hx hb dX1_answered_21 (by decide) ?_
  refine kz_rV (As := [.int p0, .int 5]) (rest := [.int 5, .int p0, .ref (bd 0)]) ⟨hx, hb, hml, hown, hw9⟩ (c_X1_get l hl9 D cI ty bd rs H.size th it o n g v r (sm_al nx mt fl pr ofs ak (upd hd p0.toNatClampNeg p2) (upd an p0.toNatClampNeg 1)) p0.toNatClampNeg 5 p0 5 hsA (by decide) hsE rfl) (kz_cV 2 hw9 mw_403 mw_405 ms_11 mw_2 mw_406 rfl rfl (by decide +kernel) ⟨Nat.le_of_ble_eq_true rfl, Nat.le_of_ble_eq_true rfl⟩) (kz_preV (q0 := 0) (ci := 1) hK hP hD hS hA hE rfl rfl) rfl hl.1 rfl (Nat.le_of_ble_eq_true rfl) dX1_answered_22 ⟨Nat.le_of_ble_eq_true rfl, Nat.le_of_ble_eq_true rfl⟩ (fun _ _ _ _ h => False.elim h) (fun v9 H hv9 hO1 => ?_)
  obtain ⟨_, rfl, rfl⟩ := hv9
  have hP := hO1.P hP
  have hS := hO1.S hS
  rw [sm_g5]
  refine W.eq (g2 := F0 m 25 ls [.int (ak p0.toNatClampNeg), .int 5, .int p0, .ref (bd 0)]) rfl ?_
  refine lv_iload_n hx hb dX1_answered_25 rfl (lv_at hl 2 rfl) ?_
  refine kz_rS (As := [.int (ak p0.toNatClampNeg), .int p1]) (rest := [.int 5, .int p0, .ref (bd 0)]) ⟨hx, hb, hml, hown, hw9⟩ (c_X1_greater l hl9 D ((cI, .int) :: ty) (wM bd cI th it o n g v r (sm_al nx mt fl pr ofs ak (upd hd p0.toNatClampNeg p2) (upd an p0.toNatClampNeg 1)) ++ rs) H.size (ak p0.toNatClampNeg) p1) (kz_cS 2 hw9 mw_470 mw_471 mw_2 mw_472 rfl rfl (by decide +kernel) ⟨Nat.le_of_ble_eq_true rfl, Nat.le_of_ble_eq_true rfl⟩) (kz_preS hK hP hD hS hA hE) rfl hl.1 rfl (Nat.le_of_ble_eq_true rfl) dX1_answered_26 ⟨Nat.le_of_ble_eq_true rfl, Nat.le_of_ble_eq_true rfl⟩ (fun _ _ _ _ h => False.elim h) (fun v9 H hv9 hO1 => ?_)
  obtain ⟨_, rfl, rfl⟩ := hv9
  have hP := hO1.P hP
  have hS := hO1.S hS
  refine W.eq (g2 := F0 m 29 ls [.int (sq_max (ak p0.toNatClampNeg) p1), .int 5, .int p0, .ref (bd 0)]) rfl ?_
  refine kz_wV (As := [.int p0, .int 5, .int (sq_max (ak p0.toNatClampNeg) p1)]) (rest := []) ⟨hx, hb, hml, hown, hw9⟩ (c_X1_put l hl9 D cI ty bd rs H.size th it o n g v r (sm_al nx mt fl pr ofs ak (upd hd p0.toNatClampNeg p2) (upd an p0.toNatClampNeg 1)) p0.toNatClampNeg 5 p0 5 (sq_max (ak p0.toNatClampNeg) p1) hsA (by decide) hsE rfl) (kz_cV 3 hw9 mw_442 mw_444 ms_14 mw_2 mw_445 rfl rfl (by decide +kernel) ⟨Nat.le_of_ble_eq_true rfl, Nat.le_of_ble_eq_true rfl⟩) (kz_preV (q0 := 0) (ci := 1) hK hP hD hS hA hE rfl rfl) rfl hl.1 rfl (Nat.le_of_ble_eq_true rfl) dX1_answered_29 ⟨Nat.le_of_ble_eq_true rfl, Nat.le_of_ble_eq_true rfl⟩ hD hS hA (fun _ _ _ _ _ _ h => False.elim h) (fun v9 H locs hv9 hP hD hS => ?_)
  obtain ⟨rfl, -⟩ := hv9
  rw [sm_p5] at hP hD
  have hP : va_P D vwCl (wM bd cI th it o n g v r (sm_al nx mt fl pr ofs (upd ak p0.toNatClampNeg (sq_max (ak p0.toNatClampNeg) p1)) (upd hd p0.toNatClampNeg p2) (upd an p0.toNatClampNeg 1)) ++ rs) H := hP
  have hD : va_D A (wM bd cI th it o n g v r (sm_al nx mt fl pr ofs (upd ak p0.toNatClampNeg (sq_max (ak p0.toNatClampNeg) p1)) (upd hd p0.toNatClampNeg p2) (upd an p0.toNatClampNeg 1)) ++ rs) := hD
  refine W.eq (g2 := F0 m 32 ls []) rfl ?_
  exact kz_wretv hx hb hr hlocks hP hD hS (Nat.le_of_ble_eq_true rfl) (Nat.le_of_ble_eq_true rfl) (trivial)  dX1_answered_32
set_option maxHeartbeats 4000000 in
set_option maxRecDepth 100000 in
theorem c_X1_bad (l : Launch) (hl9 : l.stackTraces = false) (D : va_G) (cI : ClassId) (ty : kz_Y) (bd : Nat → Nat) (rs : va_W) (sz : Nat) (th it o n g v r : Int32) (al : Nat → Int32) (p0 : Int32) (p1 : Int32) (p2 : Int32) (p3 : Int32) (p4 : Int32) (hth : th = 0) : ez_M l yX1_bad wsX1_bad ({ frames := 1, cells := 1, slots := 6, locals := 21 } : Room) (kz_P D ((cI, .int) :: ty) (wM bd cI th it o n g v r al ++ rs) sz [.ref (bd 0), .int p0, .int p1, .int p2, .int p3, .int p4]) (kz_Wr D (va_A (wM bd cI th it o n g v r al ++ rs) sz) (kz_i (fun r9 => r9 = (sq_z (decide (¬ tc_bad p0 p1 p2 p3 p4 = 0))))) (wM bd cI (nI (tc_bad p0 p1 p2 p3 p4)) it o n g v r al ++ rs)) (kz_T (fun _ => IAE) (fun _ => False)) 0 0 (va_A (wM bd cI th it o n g v r al ++ rs) sz) := by
  refine ez_ofW (cc := cX1_bad) (maxL := 6) (ret := (some .boolean)) (by decide) rfl ?_
  intro p e s m args below meth c s₁ B hml hTab hv
  obtain ⟨rfl, hsz, hP, hK, hD0, hE⟩ := hv
  have hx := B.exec
  have hb := B.bytes
  have hr := B.returns
  have hw9 : ∀ w ∈ kz_W9, w.before ([.ref (bd 0), .int p0, .int p1, .int p2, .int p3, .int p4] : List Value).toArray s = true := fun w h => atoms_spec (ws := wsX1_bad) B.pre w (List.mem_cons_of_mem _ h)
  have hown : s.vm.findClass RX1 = some m.cls := findClass_of_methodNamed B.named
  have hlocks := B.notSynchronized
  subst hsz
  have hD := hD0.self (sz := s.heap.size)
  generalize hAe : va_A (wM bd cI th it o n g v r al ++ rs) s.heap.size = A at hD hE ⊢
  have hA : ∀ q : Nat, s.heap.size ≤ q → A q := fun q h => by rw [← hAe]; exact Or.inr h
  have hS : va_S A s.heap s.heap [] := va_S.rf
  have hO : kz_O s.heap s.heap := kz_O.rf _
  have hl := lv_entry ([.ref (bd 0), .int p0, .int p1, .int p2, .int p3, .int p4]) (n := 6) (Nat.le_of_ble_eq_true rfl)
  rw [lg_entry_eq]
  generalize (lg_sl ([.ref (bd 0), .int p0, .int p1, .int p2, .int p3, .int p4]) ++ List.replicate (6 - (lg_sl ([.ref (bd 0), .int p0, .int p1, .int p2, .int p3, .int p4])).length) Slot.unset).toArray = ls at hl ⊢
  have hl : lv_has ls 6 [(0, .ref (bd 0)), (1, .int p0), (2, .int p1), (3, .int p2), (4, .int p3), (5, .int p4)] := hl
  refine lv_bipush (v := 127) hx hb dX1_bad_0 (by decide) ?_
  refine lv_iload_n hx hb dX1_bad_2 rfl (lv_at hl 1 rfl) ?_
  refine kz_rS (As := [.int 127, .int p0]) (rest := []) ⟨hx, hb, hml, hown, hw9⟩ (c_X1_has l hl9 D ((cI, .int) :: ty) (wM bd cI th it o n g v r al ++ rs) s.heap.size 127 p0) (kz_cS 2 hw9 mw_400 mw_401 mw_2 mw_402 rfl rfl (by decide +kernel) ⟨Nat.le_of_ble_eq_true rfl, Nat.le_of_ble_eq_true rfl⟩) (kz_preS hK hP hD hS hA hE) rfl hl.1 rfl (Nat.le_of_ble_eq_true rfl) dX1_bad_3 ⟨Nat.le_of_ble_eq_true rfl, Nat.le_of_ble_eq_true rfl⟩ (fun _ _ _ _ h => False.elim h) (fun v9 H hv9 hO1 => ?_)
  obtain ⟨_, rfl, rfl⟩ := hv9
  have hP := hO1.P hP
  have hS := hO1.S hS
  have hO := hO.tr hO1
  refine W.eq (g2 := F0 m 6 ls [.int (sq_z (sm_h 127 p0))]) rfl ?_
  refine lv_if_ne (tgt := 17) hx hb dX1_bad_6 (by decide) (fun c_1 => ?_) (fun c_1 => ?_)
  · -- 6 -> 17
    refine lv_iload_n hx hb dX1_bad_17 rfl (lv_at hl 2 rfl) ?_
    refine kz_rS (As := [.int p1]) (rest := []) ⟨hx, hb, hml, hown, hw9⟩ (c_X1_number l hl9 D ((cI, .int) :: ty) (wM bd cI th it o n g v r al ++ rs) H.size p1) (kz_cS 1 hw9 mw_438 mw_439 mw_2 mw_440 rfl rfl (by decide +kernel) ⟨Nat.le_of_ble_eq_true rfl, Nat.le_of_ble_eq_true rfl⟩) (kz_preS hK hP hD hS hA hE) rfl hl.1 rfl (Nat.le_of_ble_eq_true rfl) dX1_bad_18 ⟨Nat.le_of_ble_eq_true rfl, Nat.le_of_ble_eq_true rfl⟩ (fun _ _ _ _ h => False.elim h) (fun v9 H hv9 hO1 => ?_)
    obtain ⟨_, rfl, rfl⟩ := hv9
    have hP := hO1.P hP
    have hS := hO1.S hS
    have hO := hO.tr hO1
    refine W.eq (g2 := F0 m 21 ls [.int (sq_z (sq_N p1))]) rfl ?_
    refine lv_if_eq (tgt := 47) hx hb dX1_bad_21 (by decide) (fun c_2 => ?_) (fun c_2 => ?_)
    · -- 21 -> 47
      refine lv_aload_n hx hb dX1_bad_47 rfl (lv_at hl 0 rfl) ?_
      refine lv_iconst (v := 2) hx hb dX1_bad_48 (by decide) ?_
      refine va_put (D := D) (ci := 1) (v := .int 2) (ty := .int) (C := RX1) (T := TX1) (N := 8) hx hb hw9 uX1 tyX1 tyX1_ok nmX1 hown hK hP hD hS 0 rfl rfl 0 (by decide) (hw9 _ mw_360) (fun _ h9 => h9) rfl (by decide +kernel) rfl rfl (Nat.le_of_ble_eq_true rfl) dX1_bad_49 (fun H locs hP hD hS => ?_)
      have hP : va_P D vwCl (wM bd cI 2 it o n g v r al ++ rs) H := hP
      have hD : va_D A (wM bd cI 2 it o n g v r al ++ rs) := hD
      refine lv_aload_n hx hb dX1_bad_52 rfl (lv_at hl 0 rfl) ?_
      refine va_get (D := D) (ci := 1) (v := .int 2) (C := RX1) (T := TX1) (N := 8) hx hb hw9 uX1 hown hK hP 0 rfl rfl 0 (by decide) (hw9 _ mw_360) (fun _ h9 => h9) rfl dX1_bad_53 ?_
      refine lv_if_le (tgt := 63) hx hb dX1_bad_56 (by decide) (fun c_3 => ?_) (fun c_3 => ?_)
      · -- 56 -> 63
        exact absurd c_3 (by decide)
      · -- 56 -> 59
        refine lv_iconst (v := 1) hx hb dX1_bad_59 (by decide) ?_
        refine lv_goto (tgt := 64) hx hb dX1_bad_60 (by decide) ?_
        have htc : tc_bad p0 p1 p2 p3 p4 = 2 := by first | (simp [tc_bad, (sq_z_t c_1), (sq_z_f c_2), c_3, (Int32.not_le.mp c_3), ((sm_h127 p0).symm.trans (sq_z_t c_1))]; done) | (simp only [tc_bad, (sq_z_t c_1), (sq_z_f c_2), c_3, (Int32.not_le.mp c_3), ((sm_h127 p0).symm.trans (sq_z_t c_1)), eq_self, not_true_eq_false, not_false_eq_true, and_self, and_true, true_and, and_false, false_and, or_true, true_or, or_false, false_or, if_true, if_false, ite_true, ite_false, Bool.and_eq_true, decide_true, decide_false, decide_eq_true_eq, ne_eq, Nat.reduceEqDiff, Nat.one_ne_zero, Bool.false_eq_true, reduceCtorEq]; done) | (simp only [tc_bad, (sq_z_t c_1), (sq_z_f c_2), c_3, (Int32.not_le.mp c_3), ((sm_h127 p0).symm.trans (sq_z_t c_1)), eq_self, not_true_eq_false, not_false_eq_true, and_self, and_true, true_and, and_false, false_and, or_true, true_or, or_false, false_or, if_true, if_false, ite_true, ite_false, Bool.and_eq_true, decide_true, decide_false, decide_eq_true_eq, ne_eq, Nat.reduceEqDiff, Nat.one_ne_zero, Bool.false_eq_true, reduceCtorEq]; decide)
        exact kz_wretz hx hb hr hlocks (by rw [htc]; exact hP) (by rw [htc]; exact hD) hS (Nat.le_of_ble_eq_true rfl) (Nat.le_of_ble_eq_true rfl) (by rw [htc]; first | rfl | exact absurd c_3 (by decide) | exact absurd c_3 (by rw [hth]; decide) | (rw [hth] at c_3; exact absurd c_3 (by decide))) rfl dX1_bad_64
    · -- 21 -> 24
      refine lv_iload_n hx hb dX1_bad_24 rfl (lv_at hl 3 rfl) ?_
      refine kz_rS (As := [.int p2]) (rest := []) ⟨hx, hb, hml, hown, hw9⟩ (c_X1_number l hl9 D ((cI, .int) :: ty) (wM bd cI th it o n g v r al ++ rs) H.size p2) (kz_cS 1 hw9 mw_438 mw_439 mw_2 mw_440 rfl rfl (by decide +kernel) ⟨Nat.le_of_ble_eq_true rfl, Nat.le_of_ble_eq_true rfl⟩) (kz_preS hK hP hD hS hA hE) rfl hl.1 rfl (Nat.le_of_ble_eq_true rfl) dX1_bad_25 ⟨Nat.le_of_ble_eq_true rfl, Nat.le_of_ble_eq_true rfl⟩ (fun _ _ _ _ h => False.elim h) (fun v9 H hv9 hO1 => ?_)
      obtain ⟨_, rfl, rfl⟩ := hv9
      have hP := hO1.P hP
      have hS := hO1.S hS
      have hO := hO.tr hO1
      refine W.eq (g2 := F0 m 28 ls [.int (sq_z (sq_N p2))]) rfl ?_
      refine lv_if_eq (tgt := 47) hx hb dX1_bad_28 (by decide) (fun c_4 => ?_) (fun c_4 => ?_)
      · -- 28 -> 47
        refine lv_aload_n hx hb dX1_bad_47 rfl (lv_at hl 0 rfl) ?_
        refine lv_iconst (v := 2) hx hb dX1_bad_48 (by decide) ?_
        refine va_put (D := D) (ci := 1) (v := .int 2) (ty := .int) (C := RX1) (T := TX1) (N := 8) hx hb hw9 uX1 tyX1 tyX1_ok nmX1 hown hK hP hD hS 0 rfl rfl 0 (by decide) (hw9 _ mw_360) (fun _ h9 => h9) rfl (by decide +kernel) rfl rfl (Nat.le_of_ble_eq_true rfl) dX1_bad_49 (fun H locs hP hD hS => ?_)
        have hP : va_P D vwCl (wM bd cI 2 it o n g v r al ++ rs) H := hP
        have hD : va_D A (wM bd cI 2 it o n g v r al ++ rs) := hD
        refine lv_aload_n hx hb dX1_bad_52 rfl (lv_at hl 0 rfl) ?_
        refine va_get (D := D) (ci := 1) (v := .int 2) (C := RX1) (T := TX1) (N := 8) hx hb hw9 uX1 hown hK hP 0 rfl rfl 0 (by decide) (hw9 _ mw_360) (fun _ h9 => h9) rfl dX1_bad_53 ?_
        refine lv_if_le (tgt := 63) hx hb dX1_bad_56 (by decide) (fun c_5 => ?_) (fun c_5 => ?_)
        · -- 56 -> 63
          exact absurd c_5 (by decide)
        · -- 56 -> 59
          refine lv_iconst (v := 1) hx hb dX1_bad_59 (by decide) ?_
          refine lv_goto (tgt := 64) hx hb dX1_bad_60 (by decide) ?_
          have htc : tc_bad p0 p1 p2 p3 p4 = 2 := by first | (simp [tc_bad, (sq_z_t c_1), (sq_z_t c_2), (sq_z_f c_4), c_5, (Int32.not_le.mp c_5), ((sm_h127 p0).symm.trans (sq_z_t c_1))]; done) | (simp only [tc_bad, (sq_z_t c_1), (sq_z_t c_2), (sq_z_f c_4), c_5, (Int32.not_le.mp c_5), ((sm_h127 p0).symm.trans (sq_z_t c_1)), eq_self, not_true_eq_false, not_false_eq_true, and_self, and_true, true_and, and_false, false_and, or_true, true_or, or_false, false_or, if_true, if_false, ite_true, ite_false, Bool.and_eq_true, decide_true, decide_false, decide_eq_true_eq, ne_eq, Nat.reduceEqDiff, Nat.one_ne_zero, Bool.false_eq_true, reduceCtorEq]; done) | (simp only [tc_bad, (sq_z_t c_1), (sq_z_t c_2), (sq_z_f c_4), c_5, (Int32.not_le.mp c_5), ((sm_h127 p0).symm.trans (sq_z_t c_1)), eq_self, not_true_eq_false, not_false_eq_true, and_self, and_true, true_and, and_false, false_and, or_true, true_or, or_false, false_or, if_true, if_false, ite_true, ite_false, Bool.and_eq_true, decide_true, decide_false, decide_eq_true_eq, ne_eq, Nat.reduceEqDiff, Nat.one_ne_zero, Bool.false_eq_true, reduceCtorEq]; decide)
          exact kz_wretz hx hb hr hlocks (by rw [htc]; exact hP) (by rw [htc]; exact hD) hS (Nat.le_of_ble_eq_true rfl) (Nat.le_of_ble_eq_true rfl) (by rw [htc]; first | rfl | exact absurd c_5 (by decide) | exact absurd c_5 (by rw [hth]; decide) | (rw [hth] at c_5; exact absurd c_5 (by decide))) rfl dX1_bad_64
      · -- 28 -> 31
        refine lv_iload hx hb dX1_bad_31 (lv_at hl 4 rfl) ?_
        refine kz_rS (As := [.int p3]) (rest := []) ⟨hx, hb, hml, hown, hw9⟩ (c_X1_number l hl9 D ((cI, .int) :: ty) (wM bd cI th it o n g v r al ++ rs) H.size p3) (kz_cS 1 hw9 mw_438 mw_439 mw_2 mw_440 rfl rfl (by decide +kernel) ⟨Nat.le_of_ble_eq_true rfl, Nat.le_of_ble_eq_true rfl⟩) (kz_preS hK hP hD hS hA hE) rfl hl.1 rfl (Nat.le_of_ble_eq_true rfl) dX1_bad_33 ⟨Nat.le_of_ble_eq_true rfl, Nat.le_of_ble_eq_true rfl⟩ (fun _ _ _ _ h => False.elim h) (fun v9 H hv9 hO1 => ?_)
        obtain ⟨_, rfl, rfl⟩ := hv9
        have hP := hO1.P hP
        have hS := hO1.S hS
        have hO := hO.tr hO1
        refine W.eq (g2 := F0 m 36 ls [.int (sq_z (sq_N p3))]) rfl ?_
        refine lv_if_eq (tgt := 47) hx hb dX1_bad_36 (by decide) (fun c_6 => ?_) (fun c_6 => ?_)
        · -- 36 -> 47
          refine lv_aload_n hx hb dX1_bad_47 rfl (lv_at hl 0 rfl) ?_
          refine lv_iconst (v := 2) hx hb dX1_bad_48 (by decide) ?_
          refine va_put (D := D) (ci := 1) (v := .int 2) (ty := .int) (C := RX1) (T := TX1) (N := 8) hx hb hw9 uX1 tyX1 tyX1_ok nmX1 hown hK hP hD hS 0 rfl rfl 0 (by decide) (hw9 _ mw_360) (fun _ h9 => h9) rfl (by decide +kernel) rfl rfl (Nat.le_of_ble_eq_true rfl) dX1_bad_49 (fun H locs hP hD hS => ?_)
          have hP : va_P D vwCl (wM bd cI 2 it o n g v r al ++ rs) H := hP
          have hD : va_D A (wM bd cI 2 it o n g v r al ++ rs) := hD
          refine lv_aload_n hx hb dX1_bad_52 rfl (lv_at hl 0 rfl) ?_
          refine va_get (D := D) (ci := 1) (v := .int 2) (C := RX1) (T := TX1) (N := 8) hx hb hw9 uX1 hown hK hP 0 rfl rfl 0 (by decide) (hw9 _ mw_360) (fun _ h9 => h9) rfl dX1_bad_53 ?_
          refine lv_if_le (tgt := 63) hx hb dX1_bad_56 (by decide) (fun c_7 => ?_) (fun c_7 => ?_)
          · -- 56 -> 63
            exact absurd c_7 (by decide)
          · -- 56 -> 59
            refine lv_iconst (v := 1) hx hb dX1_bad_59 (by decide) ?_
            refine lv_goto (tgt := 64) hx hb dX1_bad_60 (by decide) ?_
            have htc : tc_bad p0 p1 p2 p3 p4 = 2 := by first | (simp [tc_bad, (sq_z_t c_1), (sq_z_t c_2), (sq_z_t c_4), (sq_z_f c_6), c_7, (Int32.not_le.mp c_7), ((sm_h127 p0).symm.trans (sq_z_t c_1))]; done) | (simp only [tc_bad, (sq_z_t c_1), (sq_z_t c_2), (sq_z_t c_4), (sq_z_f c_6), c_7, (Int32.not_le.mp c_7), ((sm_h127 p0).symm.trans (sq_z_t c_1)), eq_self, not_true_eq_false, not_false_eq_true, and_self, and_true, true_and, and_false, false_and, or_true, true_or, or_false, false_or, if_true, if_false, ite_true, ite_false, Bool.and_eq_true, decide_true, decide_false, decide_eq_true_eq, ne_eq, Nat.reduceEqDiff, Nat.one_ne_zero, Bool.false_eq_true, reduceCtorEq]; done) | (simp only [tc_bad, (sq_z_t c_1), (sq_z_t c_2), (sq_z_t c_4), (sq_z_f c_6), c_7, (Int32.not_le.mp c_7), ((sm_h127 p0).symm.trans (sq_z_t c_1)), eq_self, not_true_eq_false, not_false_eq_true, and_self, and_true, true_and, and_false, false_and, or_true, true_or, or_false, false_or, if_true, if_false, ite_true, ite_false, Bool.and_eq_true, decide_true, decide_false, decide_eq_true_eq, ne_eq, Nat.reduceEqDiff, Nat.one_ne_zero, Bool.false_eq_true, reduceCtorEq]; decide)
            exact kz_wretz hx hb hr hlocks (by rw [htc]; exact hP) (by rw [htc]; exact hD) hS (Nat.le_of_ble_eq_true rfl) (Nat.le_of_ble_eq_true rfl) (by rw [htc]; first | rfl | exact absurd c_7 (by decide) | exact absurd c_7 (by rw [hth]; decide) | (rw [hth] at c_7; exact absurd c_7 (by decide))) rfl dX1_bad_64
        · -- 36 -> 39
          refine lv_iload hx hb dX1_bad_39 (lv_at hl 5 rfl) ?_
          refine kz_rS (As := [.int p4]) (rest := []) ⟨hx, hb, hml, hown, hw9⟩ (c_X1_number l hl9 D ((cI, .int) :: ty) (wM bd cI th it o n g v r al ++ rs) H.size p4) (kz_cS 1 hw9 mw_438 mw_439 mw_2 mw_440 rfl rfl (by decide +kernel) ⟨Nat.le_of_ble_eq_true rfl, Nat.le_of_ble_eq_true rfl⟩) (kz_preS hK hP hD hS hA hE) rfl hl.1 rfl (Nat.le_of_ble_eq_true rfl) dX1_bad_41 ⟨Nat.le_of_ble_eq_true rfl, Nat.le_of_ble_eq_true rfl⟩ (fun _ _ _ _ h => False.elim h) (fun v9 H hv9 hO1 => ?_)
          obtain ⟨_, rfl, rfl⟩ := hv9
          have hP := hO1.P hP
          have hS := hO1.S hS
          have hO := hO.tr hO1
          refine W.eq (g2 := F0 m 44 ls [.int (sq_z (sq_N p4))]) rfl ?_
          refine lv_if_ne (tgt := 52) hx hb dX1_bad_44 (by decide) (fun c_8 => ?_) (fun c_8 => ?_)
          · -- 44 -> 52
            refine lv_aload_n hx hb dX1_bad_52 rfl (lv_at hl 0 rfl) ?_
            refine va_get (D := D) (ci := 1) (v := .int th) (C := RX1) (T := TX1) (N := 8) hx hb hw9 uX1 hown hK hP 0 rfl rfl 0 (by decide) (hw9 _ mw_360) (fun _ h9 => h9) rfl dX1_bad_53 ?_
            refine lv_if_le (tgt := 63) hx hb dX1_bad_56 (by decide) (fun c_9 => ?_) (fun c_9 => ?_)
            · -- 56 -> 63
              refine lv_iconst (v := 0) hx hb dX1_bad_63 (by decide) ?_
              have htc : tc_bad p0 p1 p2 p3 p4 = 0 := by first | (simp [tc_bad, (sq_z_t c_1), (sq_z_t c_2), (sq_z_t c_4), (sq_z_t c_6), (sq_z_t c_8), c_9, (Int32.not_lt.mpr c_9), ((sm_h127 p0).symm.trans (sq_z_t c_1))]; done) | (simp only [tc_bad, (sq_z_t c_1), (sq_z_t c_2), (sq_z_t c_4), (sq_z_t c_6), (sq_z_t c_8), c_9, (Int32.not_lt.mpr c_9), ((sm_h127 p0).symm.trans (sq_z_t c_1)), eq_self, not_true_eq_false, not_false_eq_true, and_self, and_true, true_and, and_false, false_and, or_true, true_or, or_false, false_or, if_true, if_false, ite_true, ite_false, Bool.and_eq_true, decide_true, decide_false, decide_eq_true_eq, ne_eq, Nat.reduceEqDiff, Nat.one_ne_zero, Bool.false_eq_true, reduceCtorEq]; done) | (simp only [tc_bad, (sq_z_t c_1), (sq_z_t c_2), (sq_z_t c_4), (sq_z_t c_6), (sq_z_t c_8), c_9, (Int32.not_lt.mpr c_9), ((sm_h127 p0).symm.trans (sq_z_t c_1)), eq_self, not_true_eq_false, not_false_eq_true, and_self, and_true, true_and, and_false, false_and, or_true, true_or, or_false, false_or, if_true, if_false, ite_true, ite_false, Bool.and_eq_true, decide_true, decide_false, decide_eq_true_eq, ne_eq, Nat.reduceEqDiff, Nat.one_ne_zero, Bool.false_eq_true, reduceCtorEq]; decide)
              exact kz_wretz hx hb hr hlocks (by rw [htc]; rw [hth] at hP; exact hP) (by rw [htc]; rw [hth] at hD; exact hD) hS (Nat.le_of_ble_eq_true rfl) (Nat.le_of_ble_eq_true rfl) (by rw [htc]; first | rfl | exact absurd c_9 (by decide) | exact absurd c_9 (by rw [hth]; decide) | (rw [hth] at c_9; exact absurd c_9 (by decide))) rfl dX1_bad_64
            · -- 56 -> 59
              refine lv_iconst (v := 1) hx hb dX1_bad_59 (by decide) ?_
              refine lv_goto (tgt := 64) hx hb dX1_bad_60 (by decide) ?_
              have htc : tc_bad p0 p1 p2 p3 p4 = 0 := by first | (simp [tc_bad, (sq_z_t c_1), (sq_z_t c_2), (sq_z_t c_4), (sq_z_t c_6), (sq_z_t c_8), c_9, (Int32.not_le.mp c_9), ((sm_h127 p0).symm.trans (sq_z_t c_1))]; done) | (simp only [tc_bad, (sq_z_t c_1), (sq_z_t c_2), (sq_z_t c_4), (sq_z_t c_6), (sq_z_t c_8), c_9, (Int32.not_le.mp c_9), ((sm_h127 p0).symm.trans (sq_z_t c_1)), eq_self, not_true_eq_false, not_false_eq_true, and_self, and_true, true_and, and_false, false_and, or_true, true_or, or_false, false_or, if_true, if_false, ite_true, ite_false, Bool.and_eq_true, decide_true, decide_false, decide_eq_true_eq, ne_eq, Nat.reduceEqDiff, Nat.one_ne_zero, Bool.false_eq_true, reduceCtorEq]; done) | (simp only [tc_bad, (sq_z_t c_1), (sq_z_t c_2), (sq_z_t c_4), (sq_z_t c_6), (sq_z_t c_8), c_9, (Int32.not_le.mp c_9), ((sm_h127 p0).symm.trans (sq_z_t c_1)), eq_self, not_true_eq_false, not_false_eq_true, and_self, and_true, true_and, and_false, false_and, or_true, true_or, or_false, false_or, if_true, if_false, ite_true, ite_false, Bool.and_eq_true, decide_true, decide_false, decide_eq_true_eq, ne_eq, Nat.reduceEqDiff, Nat.one_ne_zero, Bool.false_eq_true, reduceCtorEq]; decide)
              exact kz_wretz hx hb hr hlocks (by rw [htc]; rw [hth] at hP; exact hP) (by rw [htc]; rw [hth] at hD; exact hD) hS (Nat.le_of_ble_eq_true rfl) (Nat.le_of_ble_eq_true rfl) (by rw [htc]; first | rfl | exact absurd c_9 (by decide) | exact absurd c_9 (by rw [hth]; decide) | (rw [hth] at c_9; exact absurd c_9 (by decide))) rfl dX1_bad_64
          · -- 44 -> 47
            refine lv_aload_n hx hb dX1_bad_47 rfl (lv_at hl 0 rfl) ?_
            refine lv_iconst (v := 2) hx hb dX1_bad_48 (by decide) ?_
            refine va_put (D := D) (ci := 1) (v := .int 2) (ty := .int) (C := RX1) (T := TX1) (N := 8) hx hb hw9 uX1 tyX1 tyX1_ok nmX1 hown hK hP hD hS 0 rfl rfl 0 (by decide) (hw9 _ mw_360) (fun _ h9 => h9) rfl (by decide +kernel) rfl rfl (Nat.le_of_ble_eq_true rfl) dX1_bad_49 (fun H locs hP hD hS => ?_)
            have hP : va_P D vwCl (wM bd cI 2 it o n g v r al ++ rs) H := hP
            have hD : va_D A (wM bd cI 2 it o n g v r al ++ rs) := hD
            refine lv_aload_n hx hb dX1_bad_52 rfl (lv_at hl 0 rfl) ?_
            refine va_get (D := D) (ci := 1) (v := .int 2) (C := RX1) (T := TX1) (N := 8) hx hb hw9 uX1 hown hK hP 0 rfl rfl 0 (by decide) (hw9 _ mw_360) (fun _ h9 => h9) rfl dX1_bad_53 ?_
            refine lv_if_le (tgt := 63) hx hb dX1_bad_56 (by decide) (fun c_10 => ?_) (fun c_10 => ?_)
            · -- 56 -> 63
              exact absurd c_10 (by decide)
            · -- 56 -> 59
              refine lv_iconst (v := 1) hx hb dX1_bad_59 (by decide) ?_
              refine lv_goto (tgt := 64) hx hb dX1_bad_60 (by decide) ?_
              have htc : tc_bad p0 p1 p2 p3 p4 = 2 := by first | (simp [tc_bad, (sq_z_t c_1), (sq_z_t c_2), (sq_z_t c_4), (sq_z_t c_6), (sq_z_f c_8), c_10, (Int32.not_le.mp c_10), ((sm_h127 p0).symm.trans (sq_z_t c_1))]; done) | (simp only [tc_bad, (sq_z_t c_1), (sq_z_t c_2), (sq_z_t c_4), (sq_z_t c_6), (sq_z_f c_8), c_10, (Int32.not_le.mp c_10), ((sm_h127 p0).symm.trans (sq_z_t c_1)), eq_self, not_true_eq_false, not_false_eq_true, and_self, and_true, true_and, and_false, false_and, or_true, true_or, or_false, false_or, if_true, if_false, ite_true, ite_false, Bool.and_eq_true, decide_true, decide_false, decide_eq_true_eq, ne_eq, Nat.reduceEqDiff, Nat.one_ne_zero, Bool.false_eq_true, reduceCtorEq]; done) | (simp only [tc_bad, (sq_z_t c_1), (sq_z_t c_2), (sq_z_t c_4), (sq_z_t c_6), (sq_z_f c_8), c_10, (Int32.not_le.mp c_10), ((sm_h127 p0).symm.trans (sq_z_t c_1)), eq_self, not_true_eq_false, not_false_eq_true, and_self, and_true, true_and, and_false, false_and, or_true, true_or, or_false, false_or, if_true, if_false, ite_true, ite_false, Bool.and_eq_true, decide_true, decide_false, decide_eq_true_eq, ne_eq, Nat.reduceEqDiff, Nat.one_ne_zero, Bool.false_eq_true, reduceCtorEq]; decide)
              exact kz_wretz hx hb hr hlocks (by rw [htc]; exact hP) (by rw [htc]; exact hD) hS (Nat.le_of_ble_eq_true rfl) (Nat.le_of_ble_eq_true rfl) (by rw [htc]; first | rfl | exact absurd c_10 (by decide) | exact absurd c_10 (by rw [hth]; decide) | (rw [hth] at c_10; exact absurd c_10 (by decide))) rfl dX1_bad_64
  · -- 6 -> 9
    refine lv_aload_n hx hb dX1_bad_9 rfl (lv_at hl 0 rfl) ?_
    refine lv_iconst (v := 1) hx hb dX1_bad_10 (by decide) ?_
    refine va_put (D := D) (ci := 1) (v := .int 1) (ty := .int) (C := RX1) (T := TX1) (N := 8) hx hb hw9 uX1 tyX1 tyX1_ok nmX1 hown hK hP hD hS 0 rfl rfl 0 (by decide) (hw9 _ mw_360) (fun _ h9 => h9) rfl (by decide +kernel) rfl rfl (Nat.le_of_ble_eq_true rfl) dX1_bad_11 (fun H locs hP hD hS => ?_)
    have hP : va_P D vwCl (wM bd cI 1 it o n g v r al ++ rs) H := hP
    have hD : va_D A (wM bd cI 1 it o n g v r al ++ rs) := hD
    refine lv_goto (tgt := 52) hx hb dX1_bad_14 (by decide) ?_
    refine lv_aload_n hx hb dX1_bad_52 rfl (lv_at hl 0 rfl) ?_
    refine va_get (D := D) (ci := 1) (v := .int 1) (C := RX1) (T := TX1) (N := 8) hx hb hw9 uX1 hown hK hP 0 rfl rfl 0 (by decide) (hw9 _ mw_360) (fun _ h9 => h9) rfl dX1_bad_53 ?_
    refine lv_if_le (tgt := 63) hx hb dX1_bad_56 (by decide) (fun c_11 => ?_) (fun c_11 => ?_)
    · -- 56 -> 63
      exact absurd c_11 (by decide)
    · -- 56 -> 59
      refine lv_iconst (v := 1) hx hb dX1_bad_59 (by decide) ?_
      refine lv_goto (tgt := 64) hx hb dX1_bad_60 (by decide) ?_
      have htc : tc_bad p0 p1 p2 p3 p4 = 1 := by first | (simp [tc_bad, (sq_z_f c_1), c_11, (Int32.not_le.mp c_11), ((sm_h127 p0).symm.trans (sq_z_f c_1))]; done) | (simp only [tc_bad, (sq_z_f c_1), c_11, (Int32.not_le.mp c_11), ((sm_h127 p0).symm.trans (sq_z_f c_1)), eq_self, not_true_eq_false, not_false_eq_true, and_self, and_true, true_and, and_false, false_and, or_true, true_or, or_false, false_or, if_true, if_false, ite_true, ite_false, Bool.and_eq_true, decide_true, decide_false, decide_eq_true_eq, ne_eq, Nat.reduceEqDiff, Nat.one_ne_zero, Bool.false_eq_true, reduceCtorEq]; done) | (simp only [tc_bad, (sq_z_f c_1), c_11, (Int32.not_le.mp c_11), ((sm_h127 p0).symm.trans (sq_z_f c_1)), eq_self, not_true_eq_false, not_false_eq_true, and_self, and_true, true_and, and_false, false_and, or_true, true_or, or_false, false_or, if_true, if_false, ite_true, ite_false, Bool.and_eq_true, decide_true, decide_false, decide_eq_true_eq, ne_eq, Nat.reduceEqDiff, Nat.one_ne_zero, Bool.false_eq_true, reduceCtorEq]; decide)
      exact kz_wretz hx hb hr hlocks (by rw [htc]; exact hP) (by rw [htc]; exact hD) hS (Nat.le_of_ble_eq_true rfl) (Nat.le_of_ble_eq_true rfl) (by rw [htc]; first | rfl | exact absurd c_11 (by decide) | exact absurd c_11 (by rw [hth]; decide) | (rw [hth] at c_11; exact absurd c_11 (by decide))) rfl dX1_bad_64
end
