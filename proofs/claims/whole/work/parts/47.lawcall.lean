/-- a static callee with a table of its own, that throws nothing -/
theorem kz_wST {p : Program} {l : Launch} {e : Env} {R : Room} {s : State} {m : MethodId} {args : Array Value} {below : List Frame} {meth : Method} {c : Code} {H : Heap} {locs : List Loc} {cells slots n nL maxL index pc : Nat} {Q : State → Prop} {ls : Array Slot} {rest As st0 : List Value} {A : Nat → Prop} {D : va_G} {tys : kz_Y} {ws ws' : va_W} {ex : Nat → String} {rm : Room} {y : MethodName} {bytes cc : ByteArray} {ret : Option FieldType} {own : String} {hh : List (Nat × Nat × Nat × Nat)} {post : Option Value → Prop}
    (S : CallFix p m c cc nL s args kz_W9 own) (hM : ez_M l y (.codeWith y bytes maxL ret hh :: kz_W9) rm (kz_P D tys ws H.size As) (kz_Wr D (va_A ws H.size) post ws') (kz_T ex (fun _ => False)) 1 6 (va_A ws H.size))
    (hl : Cond.methodLink own index y ∈ kz_W9) (hstt : Cond.static y ∈ kz_W9) (hi : Cond.initialized own ∈ kz_W9) (hc : Cond.codeWith y bytes maxL ret hh ∈ kz_W9) (hrc : rm.cells = 1) (hrs : rm.slots = 6)
    (hd : y.cls = own ∧ y.cls ≠ "java/lang/invoke/MethodHandle" ∧ y.cls ≠ "java/lang/invoke/VarHandle" ∧ (parseMethodDescriptor y.desc).map (fun d => d.parameters.length) = some n) (hR : rm.frames + 1 ≤ R.frames ∧ 8 + (maxL + 11) + rm.locals ≤ R.locals)
    (hp : PreS s H (kz_P D tys ws H.size As) As) (hn : As.length = n) (hsize : ls.size = nL) (hst : st0 = As.reverse ++ rest) (hroom : (rest.map fun v => v.category).sum ≤ 8) (hdg : decode cc pc = .ok (.invokestatic index, 3)) (hf : cells + 1 ≤ R.cells ∧ slots + 6 ≤ R.slots)
    (hD : va_D A ws) (hS : va_S A s.heap H locs) (hA : ∀ q, s.heap.size ≤ q → A q)
    (kk : ∀ (v : Option Value) (H1 : Heap) (locs1 : List Loc), post v → va_P D vwCl ws' H1 → va_D A ws' → va_S A s.heap H1 locs1 → W p l e R s m args below meth c H1 locs1 (cells + 1) (slots + 6) Q (F0 m (pc + 3) ls (v.toList ++ rest))) : W p l e R s m args below meth c H locs cells slots Q (F0 m pc ls st0) := by
  have hF := kz_free hD hS hA
  have hG : GoodIn kz_W9 (wsS own index y (.codeWith y bytes maxL ret hh :: kz_W9)) := fun w hw => by
    have h1 : w ∈ kz_W9 := by
      unfold wsS at hw
      rcases List.mem_append.mp hw with h | h
      · simp only [List.mem_cons, List.not_mem_nil, or_false] at h
        rcases h with rfl | rfl | rfl
        · exact hl
        · exact hstt
        · exact hi
      · rcases List.mem_cons.mp h with rfl | h
        · exact hc
        · exact h
    exact ⟨h1, good_of_word (List.mem_filter.mp h1).2⟩
  refine ez_callST S hM hG rfl hrc hrs hd hR hp hn hsize hst hroom hdg hf (fun q st t L hst hal hL hq => ?_) (fun v st t L hst hal hL hv => ?_)
  · obtain ⟨k, ce, h1, -⟩ := hq
    exact False.elim h1
  · obtain ⟨h1, h2, h3, h4, h5⟩ := hv
    rw [hst] at h4 h5
    exact kk v t.heap (locs ++ L) h1 h2 (h3.weaken (fun _ q _ h => hF q.1 h)) ⟨Nat.le_trans hS.1 h4, fun q a1 a2 => by rw [h5 q (Nat.lt_of_lt_of_le a1 hS.1) (fun z => a2 (hF q z))]; exact hS.2.1 q a1 a2, fun z hz => by
      rcases List.mem_append.mp hz with h | h
      · exact hS.2.2 z h
      · exact hF _ (hL z h)⟩
/-- an int of the script, or 0 behind its end -/
def sq_c (L : Nat) (xs : Nat → Int32) (k : Int32) : Int32 := if nI L ≤ k then 0 else xs k.toNatClampNeg
set_option maxHeartbeats 4000000 in
set_option maxRecDepth 100000 in
theorem c_L_cell (l : Launch) (b L : Nat) (xs : Nat → Int32) (p1 : Int32) (hL : L ≤ 3586) (hp : ¬ p1 < 0) : ez_M l yL_cell wsL_cell ({ frames := 0, cells := 1, slots := 6, locals := 0 } : Room) (va_Pc [.ref b, .int p1] (fun U => va_X b L xs U U.heap)) (kz_Ro (kz_i (fun r9 => r9 = sq_c L xs p1))) (kz_T (fun _ => IAE) (fun _ => False)) 0 0 (fun _ => False) := by
  refine ez_ofW (cc := cL_cell) (maxL := 2) (ret := (some .int)) (by decide) rfl ?_
  intro p e s m args below meth c s₁ B hml hTab hv
  obtain ⟨rfl, hX⟩ := hv
  have hx := B.exec
  have hb := B.bytes
  have hr := B.returns
  have hlocks := B.notSynchronized
  have hS : va_S (fun _ : Nat => False) s.heap s.heap [] := va_S.rf
  have hO : kz_O s.heap s.heap := kz_O.rf _
  have hbl : b < s.heap.size := by
    obtain ⟨scr, h1, -⟩ := hX
    exact (Array.getElem?_eq_some_iff.mp h1).1
  have hbA : ¬ (fun _ : Nat => False) b := fun h => h
  have hl := lv_entry ([.ref b, .int p1]) (n := 2) (Nat.le_of_ble_eq_true rfl)
  rw [lg_entry_eq]
  generalize (lg_sl ([.ref b, .int p1]) ++ List.replicate (2 - (lg_sl ([.ref b, .int p1])).length) Slot.unset).toArray = ls at hl ⊢
  have hl : lv_has ls 2 [(0, .ref b), (1, .int p1)] := hl
  refine lv_iload_n hx hb dL_cell_0 rfl (lv_at hl 1 rfl) ?_
  refine lv_aload_n hx hb dL_cell_1 rfl (lv_at hl 0 rfl) ?_
  refine va_slen hx hb hX hbl hbA hS dL_cell_2 ?_
  refine lv_icmp_ge (tgt := 12) hx hb dL_cell_3 (by decide) (fun c_1 => ?_) (fun c_1 => ?_)
  · refine lv_iconst (v := 0) hx hb dL_cell_12 (by decide) ?_
    exact kz_reti hx hb hr hlocks hO (if_pos c_1).symm dL_cell_13
  · refine lv_aload_n hx hb dL_cell_6 rfl (lv_at hl 0 rfl) ?_
    refine lv_iload_n hx hb dL_cell_7 rfl (lv_at hl 1 rfl) ?_
    have hin : vp_in p1 L := by
      obtain ⟨j, hj, e1, -⟩ := pk_mu hp c_1 (by omega)
      rw [e1]; exact vp_in_nI hj (by omega)
    refine va_sld hx hb hX hbl hbA hS hin dL_cell_8 ?_
    refine lv_goto (tgt := 13) hx hb dL_cell_9 (by decide) ?_
    exact kz_reti hx hb hr hlocks hO (if_neg c_1).symm dL_cell_13
