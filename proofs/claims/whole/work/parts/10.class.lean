set_option maxHeartbeats 4000000 in
set_option maxRecDepth 100000 in
/-- requireSet: no answer, or thrown -/
theorem c_X0_requireSet (l : Launch) (hl9 : l.stackTraces = false) (D : va_G) (tys : kz_Y) (ws : va_W) (sz : Nat) (p0 : Int32) : ez_M l yX0_requireSet wsX0_requireSet ({ frames := 6, cells := 1, slots := 6, locals := 90 } : Room) (kz_P D tys ws sz [.int p0]) (kz_Ro (kz_v (sq_S p0 = true))) (kz_T (fun _ => IAE) (fun _ => sq_S p0 = false)) 0 0 (fun _ => False) := by
  refine ez_ofW (cc := cX0_requireSet) (maxL := 1) (ret := none) (by decide) rfl ?_
  intro p e s m args below meth c s₁ B hml hTab hv
  obtain ⟨rfl, hsz, hP, hK, hD0, hE⟩ := hv
  have hx := B.exec
  have hb := B.bytes
  have hr := B.returns
  have hw9 : ∀ w ∈ kz_W9, w.before ([.int p0] : List Value).toArray s = true := fun w h => atoms_spec (ws := wsX0_requireSet) B.pre w (List.mem_cons_of_mem _ h)
  have hown : s.vm.findClass RX0 = some m.cls := findClass_of_methodNamed B.named
  have hlocks := B.notSynchronized
  subst hsz
  have hD := hD0.self (sz := s.heap.size)
  generalize hAe : va_A ws s.heap.size = A at hD hE
  have hA : ∀ q : Nat, s.heap.size ≤ q → A q := fun q h => by rw [← hAe]; exact Or.inr h
  have hS : va_S A s.heap s.heap [] := va_S.rf
  have hO : kz_O s.heap s.heap := kz_O.rf _
  have hl := lv_entry ([.int p0]) (n := 1) (Nat.le_of_ble_eq_true rfl)
  rw [lg_entry_eq]
  generalize (lg_sl ([.int p0]) ++ List.replicate (1 - (lg_sl ([.int p0])).length) Slot.unset).toArray = ls at hl ⊢
  have hl : lv_has ls 1 [(0, .int p0)] := hl
  refine lv_iload_n hx hb dX0_requireSet_0 rfl (lv_at hl 0 rfl) ?_
  refine lv_if_lt (tgt := 10) hx hb dX0_requireSet_1 (by decide) (fun c_1 => ?_) (fun c_1 => ?_)
  · -- 1 -> 10
    obtain ⟨sa9, hst9⟩ := hE.2.2.1 (141, "no set of servers") (by decide)
    exact ez_throwS (cls := IAE) (names := EXN) hx hb hl9 hown (by decide +kernel) (by decide +kernel) (hw9 _ mw_101) (hw9 _ mw_6) hst9 (at_IAE hw9 hE) hO.1 (by rw [hml]; exact hl.1) hTab hlocks dX0_requireSet_10 dX0_requireSet_13 dX0_requireSet_14 dX0_requireSet_16 dX0_requireSet_19 (by decide) (Nat.le_of_ble_eq_true rfl) (Nat.le_of_ble_eq_true rfl) (Nat.le_of_ble_eq_true rfl) (fun q t ce h1 h2 h3 h4 h5 h6 => ⟨0, ce, (by first | (simp [sq_S, c_1, (Int32.not_le.mpr c_1)]; done) | (simp only [sq_S, c_1, (Int32.not_le.mpr c_1), eq_self, not_true_eq_false, not_false_eq_true, and_self, and_true, true_and, and_false, false_and, or_true, true_or, or_false, false_or, if_true, if_false, ite_true, ite_false, Bool.and_eq_true, decide_true, decide_false, decide_eq_true_eq, ne_eq, Nat.reduceEqDiff, Nat.one_ne_zero, Bool.false_eq_true, reduceCtorEq]; done) | (simp only [sq_S, c_1, (Int32.not_le.mpr c_1), eq_self, not_true_eq_false, not_false_eq_true, and_self, and_true, true_and, and_false, false_and, or_true, true_or, or_false, false_or, if_true, if_false, ite_true, ite_false, Bool.and_eq_true, decide_true, decide_false, decide_eq_true_eq, ne_eq, Nat.reduceEqDiff, Nat.one_ne_zero, Bool.false_eq_true, reduceCtorEq]; decide)), h1, h2, by rw [h4.findClass]; exact h3, h5, h6⟩)
  · -- 1 -> 4
    refine lv_iload_n hx hb dX0_requireSet_4 rfl (lv_at hl 0 rfl) ?_
    refine lv_bipush (v := 127) hx hb dX0_requireSet_5 (by decide) ?_
    refine lv_icmp_le (tgt := 20) hx hb dX0_requireSet_7 (by decide) (fun c_2 => ?_) (fun c_2 => ?_)
    · -- 7 -> 20
      exact kz_retv hx hb hr hlocks hO (by first | (simp [sq_S, c_1, (Int32.not_lt.mp c_1), c_2, (Int32.not_lt.mpr c_2)]; done) | (simp only [sq_S, c_1, (Int32.not_lt.mp c_1), c_2, (Int32.not_lt.mpr c_2), eq_self, not_true_eq_false, not_false_eq_true, and_self, and_true, true_and, and_false, false_and, or_true, true_or, or_false, false_or, if_true, if_false, ite_true, ite_false, Bool.and_eq_true, decide_true, decide_false, decide_eq_true_eq, ne_eq, Nat.reduceEqDiff, Nat.one_ne_zero, Bool.false_eq_true, reduceCtorEq]; done) | (simp only [sq_S, c_1, (Int32.not_lt.mp c_1), c_2, (Int32.not_lt.mpr c_2), eq_self, not_true_eq_false, not_false_eq_true, and_self, and_true, true_and, and_false, false_and, or_true, true_or, or_false, false_or, if_true, if_false, ite_true, ite_false, Bool.and_eq_true, decide_true, decide_false, decide_eq_true_eq, ne_eq, Nat.reduceEqDiff, Nat.one_ne_zero, Bool.false_eq_true, reduceCtorEq]; decide))  dX0_requireSet_20
    · -- 7 -> 10
      obtain ⟨sa9, hst9⟩ := hE.2.2.1 (141, "no set of servers") (by decide)
      exact ez_throwS (cls := IAE) (names := EXN) hx hb hl9 hown (by decide +kernel) (by decide +kernel) (hw9 _ mw_101) (hw9 _ mw_6) hst9 (at_IAE hw9 hE) hO.1 (by rw [hml]; exact hl.1) hTab hlocks dX0_requireSet_10 dX0_requireSet_13 dX0_requireSet_14 dX0_requireSet_16 dX0_requireSet_19 (by decide) (Nat.le_of_ble_eq_true rfl) (Nat.le_of_ble_eq_true rfl) (Nat.le_of_ble_eq_true rfl) (fun q t ce h1 h2 h3 h4 h5 h6 => ⟨0, ce, (by first | (simp [sq_S, c_1, (Int32.not_lt.mp c_1), c_2, (Int32.not_le.mp c_2)]; done) | (simp only [sq_S, c_1, (Int32.not_lt.mp c_1), c_2, (Int32.not_le.mp c_2), eq_self, not_true_eq_false, not_false_eq_true, and_self, and_true, true_and, and_false, false_and, or_true, true_or, or_false, false_or, if_true, if_false, ite_true, ite_false, Bool.and_eq_true, decide_true, decide_false, decide_eq_true_eq, ne_eq, Nat.reduceEqDiff, Nat.one_ne_zero, Bool.false_eq_true, reduceCtorEq]; done) | (simp only [sq_S, c_1, (Int32.not_lt.mp c_1), c_2, (Int32.not_le.mp c_2), eq_self, not_true_eq_false, not_false_eq_true, and_self, and_true, true_and, and_false, false_and, or_true, true_or, or_false, false_or, if_true, if_false, ite_true, ite_false, Bool.and_eq_true, decide_true, decide_false, decide_eq_true_eq, ne_eq, Nat.reduceEqDiff, Nat.one_ne_zero, Bool.false_eq_true, reduceCtorEq]; decide)), h1, h2, by rw [h4.findClass]; exact h3, h5, h6⟩)
set_option maxHeartbeats 4000000 in
set_option maxRecDepth 100000 in
/-- requireNumber: no answer, or thrown -/
theorem c_X0_requireNumber (l : Launch) (hl9 : l.stackTraces = false) (D : va_G) (tys : kz_Y) (ws : va_W) (sz : Nat) (p0 : Int32) : ez_M l yX0_requireNumber wsX0_requireNumber ({ frames := 6, cells := 1, slots := 6, locals := 90 } : Room) (kz_P D tys ws sz [.int p0]) (kz_Ro (kz_v (sq_N p0 = true))) (kz_T (fun _ => IAE) (fun _ => sq_N p0 = false)) 0 0 (fun _ => False) := by
  refine ez_ofW (cc := cX0_requireNumber) (maxL := 1) (ret := none) (by decide) rfl ?_
  intro p e s m args below meth c s₁ B hml hTab hv
  obtain ⟨rfl, hsz, hP, hK, hD0, hE⟩ := hv
  have hx := B.exec
  have hb := B.bytes
  have hr := B.returns
  have hw9 : ∀ w ∈ kz_W9, w.before ([.int p0] : List Value).toArray s = true := fun w h => atoms_spec (ws := wsX0_requireNumber) B.pre w (List.mem_cons_of_mem _ h)
  have hown : s.vm.findClass RX0 = some m.cls := findClass_of_methodNamed B.named
  have hlocks := B.notSynchronized
  subst hsz
  have hD := hD0.self (sz := s.heap.size)
  generalize hAe : va_A ws s.heap.size = A at hD hE
  have hA : ∀ q : Nat, s.heap.size ≤ q → A q := fun q h => by rw [← hAe]; exact Or.inr h
  have hS : va_S A s.heap s.heap [] := va_S.rf
  have hO : kz_O s.heap s.heap := kz_O.rf _
  have hl := lv_entry ([.int p0]) (n := 1) (Nat.le_of_ble_eq_true rfl)
  rw [lg_entry_eq]
  generalize (lg_sl ([.int p0]) ++ List.replicate (1 - (lg_sl ([.int p0])).length) Slot.unset).toArray = ls at hl ⊢
  have hl : lv_has ls 1 [(0, .int p0)] := hl
  refine lv_iload_n hx hb dX0_requireNumber_0 rfl (lv_at hl 0 rfl) ?_
  refine lv_if_lt (tgt := 10) hx hb dX0_requireNumber_1 (by decide) (fun c_1 => ?_) (fun c_1 => ?_)
  · -- 1 -> 10
    obtain ⟨sa9, hst9⟩ := hE.2.2.1 (144, "no such number") (by decide)
    exact ez_throwS (cls := IAE) (names := EXN) hx hb hl9 hown (by decide +kernel) (by decide +kernel) (hw9 _ mw_101) (hw9 _ mw_6) hst9 (at_IAE hw9 hE) hO.1 (by rw [hml]; exact hl.1) hTab hlocks dX0_requireNumber_10 dX0_requireNumber_13 dX0_requireNumber_14 dX0_requireNumber_16 dX0_requireNumber_19 (by decide) (Nat.le_of_ble_eq_true rfl) (Nat.le_of_ble_eq_true rfl) (Nat.le_of_ble_eq_true rfl) (fun q t ce h1 h2 h3 h4 h5 h6 => ⟨0, ce, (by first | (simp [sq_N, c_1, (Int32.not_le.mpr c_1)]; done) | (simp only [sq_N, c_1, (Int32.not_le.mpr c_1), eq_self, not_true_eq_false, not_false_eq_true, and_self, and_true, true_and, and_false, false_and, or_true, true_or, or_false, false_or, if_true, if_false, ite_true, ite_false, Bool.and_eq_true, decide_true, decide_false, decide_eq_true_eq, ne_eq, Nat.reduceEqDiff, Nat.one_ne_zero, Bool.false_eq_true, reduceCtorEq]; done) | (simp only [sq_N, c_1, (Int32.not_le.mpr c_1), eq_self, not_true_eq_false, not_false_eq_true, and_self, and_true, true_and, and_false, false_and, or_true, true_or, or_false, false_or, if_true, if_false, ite_true, ite_false, Bool.and_eq_true, decide_true, decide_false, decide_eq_true_eq, ne_eq, Nat.reduceEqDiff, Nat.one_ne_zero, Bool.false_eq_true, reduceCtorEq]; decide)), h1, h2, by rw [h4.findClass]; exact h3, h5, h6⟩)
  · -- 1 -> 4
    refine lv_iload_n hx hb dX0_requireNumber_4 rfl (lv_at hl 0 rfl) ?_
    refine lv_ldc (v := 1000000000) hx hb hown (hw9 _ mw_269) dX0_requireNumber_5 ?_
    refine lv_icmp_le (tgt := 20) hx hb dX0_requireNumber_7 (by decide) (fun c_2 => ?_) (fun c_2 => ?_)
    · -- 7 -> 20
      exact kz_retv hx hb hr hlocks hO (by first | (simp [sq_N, c_1, (Int32.not_lt.mp c_1), c_2, (Int32.not_lt.mpr c_2)]; done) | (simp only [sq_N, c_1, (Int32.not_lt.mp c_1), c_2, (Int32.not_lt.mpr c_2), eq_self, not_true_eq_false, not_false_eq_true, and_self, and_true, true_and, and_false, false_and, or_true, true_or, or_false, false_or, if_true, if_false, ite_true, ite_false, Bool.and_eq_true, decide_true, decide_false, decide_eq_true_eq, ne_eq, Nat.reduceEqDiff, Nat.one_ne_zero, Bool.false_eq_true, reduceCtorEq]; done) | (simp only [sq_N, c_1, (Int32.not_lt.mp c_1), c_2, (Int32.not_lt.mpr c_2), eq_self, not_true_eq_false, not_false_eq_true, and_self, and_true, true_and, and_false, false_and, or_true, true_or, or_false, false_or, if_true, if_false, ite_true, ite_false, Bool.and_eq_true, decide_true, decide_false, decide_eq_true_eq, ne_eq, Nat.reduceEqDiff, Nat.one_ne_zero, Bool.false_eq_true, reduceCtorEq]; decide))  dX0_requireNumber_20
    · -- 7 -> 10
      obtain ⟨sa9, hst9⟩ := hE.2.2.1 (144, "no such number") (by decide)
      exact ez_throwS (cls := IAE) (names := EXN) hx hb hl9 hown (by decide +kernel) (by decide +kernel) (hw9 _ mw_101) (hw9 _ mw_6) hst9 (at_IAE hw9 hE) hO.1 (by rw [hml]; exact hl.1) hTab hlocks dX0_requireNumber_10 dX0_requireNumber_13 dX0_requireNumber_14 dX0_requireNumber_16 dX0_requireNumber_19 (by decide) (Nat.le_of_ble_eq_true rfl) (Nat.le_of_ble_eq_true rfl) (Nat.le_of_ble_eq_true rfl) (fun q t ce h1 h2 h3 h4 h5 h6 => ⟨0, ce, (by first | (simp [sq_N, c_1, (Int32.not_lt.mp c_1), c_2, (Int32.not_le.mp c_2)]; done) | (simp only [sq_N, c_1, (Int32.not_lt.mp c_1), c_2, (Int32.not_le.mp c_2), eq_self, not_true_eq_false, not_false_eq_true, and_self, and_true, true_and, and_false, false_and, or_true, true_or, or_false, false_or, if_true, if_false, ite_true, ite_false, Bool.and_eq_true, decide_true, decide_false, decide_eq_true_eq, ne_eq, Nat.reduceEqDiff, Nat.one_ne_zero, Bool.false_eq_true, reduceCtorEq]; done) | (simp only [sq_N, c_1, (Int32.not_lt.mp c_1), c_2, (Int32.not_le.mp c_2), eq_self, not_true_eq_false, not_false_eq_true, and_self, and_true, true_and, and_false, false_and, or_true, true_or, or_false, false_or, if_true, if_false, ite_true, ite_false, Bool.and_eq_true, decide_true, decide_false, decide_eq_true_eq, ne_eq, Nat.reduceEqDiff, Nat.one_ne_zero, Bool.false_eq_true, reduceCtorEq]; decide)), h1, h2, by rw [h4.findClass]; exact h3, h5, h6⟩)
set_option maxHeartbeats 4000000 in
set_option maxRecDepth 100000 in
/-- requireServer: no answer, or thrown -/
theorem c_X0_requireServer (l : Launch) (hl9 : l.stackTraces = false) (D : va_G) (tys : kz_Y) (ws : va_W) (sz : Nat) (p0 : Int32) : ez_M l yX0_requireServer wsX0_requireServer ({ frames := 6, cells := 1, slots := 6, locals := 90 } : Room) (kz_P D tys ws sz [.int p0]) (kz_Ro (kz_v (sq_V p0 = true))) (kz_T (fun _ => IOE) (fun _ => sq_V p0 = false)) 0 0 (fun _ => False) := by
  refine ez_ofW (cc := cX0_requireServer) (maxL := 1) (ret := none) (by decide) rfl ?_
  intro p e s m args below meth c s₁ B hml hTab hv
  obtain ⟨rfl, hsz, hP, hK, hD0, hE⟩ := hv
  have hx := B.exec
  have hb := B.bytes
  have hr := B.returns
  have hw9 : ∀ w ∈ kz_W9, w.before ([.int p0] : List Value).toArray s = true := fun w h => atoms_spec (ws := wsX0_requireServer) B.pre w (List.mem_cons_of_mem _ h)
  have hown : s.vm.findClass RX0 = some m.cls := findClass_of_methodNamed B.named
  have hlocks := B.notSynchronized
  subst hsz
  have hD := hD0.self (sz := s.heap.size)
  generalize hAe : va_A ws s.heap.size = A at hD hE
  have hA : ∀ q : Nat, s.heap.size ≤ q → A q := fun q h => by rw [← hAe]; exact Or.inr h
  have hS : va_S A s.heap s.heap [] := va_S.rf
  have hO : kz_O s.heap s.heap := kz_O.rf _
  have hl := lv_entry ([.int p0]) (n := 1) (Nat.le_of_ble_eq_true rfl)
  rw [lg_entry_eq]
  generalize (lg_sl ([.int p0]) ++ List.replicate (1 - (lg_sl ([.int p0])).length) Slot.unset).toArray = ls at hl ⊢
  have hl : lv_has ls 1 [(0, .int p0)] := hl
  refine lv_iload_n hx hb dX0_requireServer_0 rfl (lv_at hl 0 rfl) ?_
  refine lv_if_lt (tgt := 10) hx hb dX0_requireServer_1 (by decide) (fun c_1 => ?_) (fun c_1 => ?_)
  · -- 1 -> 10
    obtain ⟨sa9, hst9⟩ := hE.2.2.1 (146, "no such server") (by decide)
    exact ez_throwS (cls := IOE) (names := EXN) hx hb hl9 hown (by decide +kernel) (by decide +kernel) (hw9 _ mw_243) (hw9 _ mw_9) hst9 (at_IOE hw9 hE) hO.1 (by rw [hml]; exact hl.1) hTab hlocks dX0_requireServer_10 dX0_requireServer_13 dX0_requireServer_14 dX0_requireServer_16 dX0_requireServer_19 (by decide) (Nat.le_of_ble_eq_true rfl) (Nat.le_of_ble_eq_true rfl) (Nat.le_of_ble_eq_true rfl) (fun q t ce h1 h2 h3 h4 h5 h6 => ⟨0, ce, (by first | (simp [sq_V, c_1, (Int32.not_le.mpr c_1)]; done) | (simp only [sq_V, c_1, (Int32.not_le.mpr c_1), eq_self, not_true_eq_false, not_false_eq_true, and_self, and_true, true_and, and_false, false_and, or_true, true_or, or_false, false_or, if_true, if_false, ite_true, ite_false, Bool.and_eq_true, decide_true, decide_false, decide_eq_true_eq, ne_eq, Nat.reduceEqDiff, Nat.one_ne_zero, Bool.false_eq_true, reduceCtorEq]; done) | (simp only [sq_V, c_1, (Int32.not_le.mpr c_1), eq_self, not_true_eq_false, not_false_eq_true, and_self, and_true, true_and, and_false, false_and, or_true, true_or, or_false, false_or, if_true, if_false, ite_true, ite_false, Bool.and_eq_true, decide_true, decide_false, decide_eq_true_eq, ne_eq, Nat.reduceEqDiff, Nat.one_ne_zero, Bool.false_eq_true, reduceCtorEq]; decide)), h1, h2, by rw [h4.findClass]; exact h3, h5, h6⟩)
  · -- 1 -> 4
    refine lv_iload_n hx hb dX0_requireServer_4 rfl (lv_at hl 0 rfl) ?_
    refine lv_bipush (v := 7) hx hb dX0_requireServer_5 (by decide) ?_
    refine lv_icmp_lt (tgt := 20) hx hb dX0_requireServer_7 (by decide) (fun c_2 => ?_) (fun c_2 => ?_)
    · -- 7 -> 20
      exact kz_retv hx hb hr hlocks hO (by first | (simp [sq_V, c_1, (Int32.not_lt.mp c_1), c_2, (Int32.not_le.mpr c_2)]; done) | (simp only [sq_V, c_1, (Int32.not_lt.mp c_1), c_2, (Int32.not_le.mpr c_2), eq_self, not_true_eq_false, not_false_eq_true, and_self, and_true, true_and, and_false, false_and, or_true, true_or, or_false, false_or, if_true, if_false, ite_true, ite_false, Bool.and_eq_true, decide_true, decide_false, decide_eq_true_eq, ne_eq, Nat.reduceEqDiff, Nat.one_ne_zero, Bool.false_eq_true, reduceCtorEq]; done) | (simp only [sq_V, c_1, (Int32.not_lt.mp c_1), c_2, (Int32.not_le.mpr c_2), eq_self, not_true_eq_false, not_false_eq_true, and_self, and_true, true_and, and_false, false_and, or_true, true_or, or_false, false_or, if_true, if_false, ite_true, ite_false, Bool.and_eq_true, decide_true, decide_false, decide_eq_true_eq, ne_eq, Nat.reduceEqDiff, Nat.one_ne_zero, Bool.false_eq_true, reduceCtorEq]; decide))  dX0_requireServer_20
    · -- 7 -> 10
      obtain ⟨sa9, hst9⟩ := hE.2.2.1 (146, "no such server") (by decide)
      exact ez_throwS (cls := IOE) (names := EXN) hx hb hl9 hown (by decide +kernel) (by decide +kernel) (hw9 _ mw_243) (hw9 _ mw_9) hst9 (at_IOE hw9 hE) hO.1 (by rw [hml]; exact hl.1) hTab hlocks dX0_requireServer_10 dX0_requireServer_13 dX0_requireServer_14 dX0_requireServer_16 dX0_requireServer_19 (by decide) (Nat.le_of_ble_eq_true rfl) (Nat.le_of_ble_eq_true rfl) (Nat.le_of_ble_eq_true rfl) (fun q t ce h1 h2 h3 h4 h5 h6 => ⟨0, ce, (by first | (simp [sq_V, c_1, (Int32.not_lt.mp c_1), c_2, (Int32.not_lt.mp c_2)]; done) | (simp only [sq_V, c_1, (Int32.not_lt.mp c_1), c_2, (Int32.not_lt.mp c_2), eq_self, not_true_eq_false, not_false_eq_true, and_self, and_true, true_and, and_false, false_and, or_true, true_or, or_false, false_or, if_true, if_false, ite_true, ite_false, Bool.and_eq_true, decide_true, decide_false, decide_eq_true_eq, ne_eq, Nat.reduceEqDiff, Nat.one_ne_zero, Bool.false_eq_true, reduceCtorEq]; done) | (simp only [sq_V, c_1, (Int32.not_lt.mp c_1), c_2, (Int32.not_lt.mp c_2), eq_self, not_true_eq_false, not_false_eq_true, and_self, and_true, true_and, and_false, false_and, or_true, true_or, or_false, false_or, if_true, if_false, ite_true, ite_false, Bool.and_eq_true, decide_true, decide_false, decide_eq_true_eq, ne_eq, Nat.reduceEqDiff, Nat.one_ne_zero, Bool.false_eq_true, reduceCtorEq]; decide)), h1, h2, by rw [h4.findClass]; exact h3, h5, h6⟩)
set_option maxHeartbeats 4000000 in
set_option maxRecDepth 100000 in
/-- isIn -/
theorem c_X0_isIn (l : Launch) (hl9 : l.stackTraces = false) (D : va_G) (tys : kz_Y) (ws : va_W) (sz : Nat) (p0 : Int32) (p1 : Int32) : ez_M l yX0_isIn wsX0_isIn ({ frames := 0, cells := 1, slots := 6, locals := 0 } : Room) (kz_P D tys ws sz [.int p0, .int p1]) (kz_Ro (kz_i (fun r9 => r9 = (sq_z (sq_I p0 p1))))) (kz_T (fun _ => IAE) (fun _ => False)) 0 0 (fun _ => False) := by
  refine ez_ofW (cc := cX0_isIn) (maxL := 2) (ret := (some .boolean)) (by decide) rfl ?_
  intro p e s m args below meth c s₁ B hml hTab hv
  obtain ⟨rfl, hsz, hP, hK, hD0, hE⟩ := hv
  have hx := B.exec
  have hb := B.bytes
  have hr := B.returns
  have hw9 : ∀ w ∈ kz_W9, w.before ([.int p0, .int p1] : List Value).toArray s = true := fun w h => atoms_spec (ws := wsX0_isIn) B.pre w (List.mem_cons_of_mem _ h)
  have hown : s.vm.findClass RX0 = some m.cls := findClass_of_methodNamed B.named
  have hlocks := B.notSynchronized
  subst hsz
  have hD := hD0.self (sz := s.heap.size)
  generalize hAe : va_A ws s.heap.size = A at hD hE
  have hA : ∀ q : Nat, s.heap.size ≤ q → A q := fun q h => by rw [← hAe]; exact Or.inr h
  have hS : va_S A s.heap s.heap [] := va_S.rf
  have hO : kz_O s.heap s.heap := kz_O.rf _
  have hl := lv_entry ([.int p0, .int p1]) (n := 2) (Nat.le_of_ble_eq_true rfl)
  rw [lg_entry_eq]
  generalize (lg_sl ([.int p0, .int p1]) ++ List.replicate (2 - (lg_sl ([.int p0, .int p1])).length) Slot.unset).toArray = ls at hl ⊢
  have hl : lv_has ls 2 [(0, .int p0), (1, .int p1)] := hl
  refine lv_iload_n hx hb dX0_isIn_0 rfl (lv_at hl 0 rfl) ?_
  refine lv_iconst (v := 1) hx hb dX0_isIn_1 (by decide) ?_
  refine lv_iload_n hx hb dX0_isIn_2 rfl (lv_at hl 1 rfl) ?_
  refine lv_ishl hx hb dX0_isIn_3 ?_
  refine lv_iand hx hb dX0_isIn_4 ?_
  refine lv_if_eq (tgt := 12) hx hb dX0_isIn_5 (by decide) (fun c_1 => ?_) (fun c_1 => ?_)
  · -- 5 -> 12
    refine lv_iconst (v := 0) hx hb dX0_isIn_12 (by decide) ?_
    exact kz_retz hx hb hr hlocks hO (by first | (simp [sq_z, sq_I, sq_1, c_1]; done) | (simp only [sq_z, sq_I, sq_1, c_1, eq_self, not_true_eq_false, not_false_eq_true, and_self, and_true, true_and, and_false, false_and, or_true, true_or, or_false, false_or, if_true, if_false, ite_true, ite_false, Bool.and_eq_true, decide_true, decide_false, decide_eq_true_eq, ne_eq, Nat.reduceEqDiff, Nat.one_ne_zero, Bool.false_eq_true, reduceCtorEq]; done) | (simp only [sq_z, sq_I, sq_1, c_1, eq_self, not_true_eq_false, not_false_eq_true, and_self, and_true, true_and, and_false, false_and, or_true, true_or, or_false, false_or, if_true, if_false, ite_true, ite_false, Bool.and_eq_true, decide_true, decide_false, decide_eq_true_eq, ne_eq, Nat.reduceEqDiff, Nat.one_ne_zero, Bool.false_eq_true, reduceCtorEq]; decide)) rfl dX0_isIn_13
  · -- 5 -> 8
    refine lv_iconst (v := 1) hx hb dX0_isIn_8 (by decide) ?_
    refine lv_goto (tgt := 13) hx hb dX0_isIn_9 (by decide) ?_
    exact kz_retz hx hb hr hlocks hO (by first | (simp [sq_z, sq_I, sq_1, c_1]; done) | (simp only [sq_z, sq_I, sq_1, c_1, eq_self, not_true_eq_false, not_false_eq_true, and_self, and_true, true_and, and_false, false_and, or_true, true_or, or_false, false_or, if_true, if_false, ite_true, ite_false, Bool.and_eq_true, decide_true, decide_false, decide_eq_true_eq, ne_eq, Nat.reduceEqDiff, Nat.one_ne_zero, Bool.false_eq_true, reduceCtorEq]; done) | (simp only [sq_z, sq_I, sq_1, c_1, eq_self, not_true_eq_false, not_false_eq_true, and_self, and_true, true_and, and_false, false_and, or_true, true_or, or_false, false_or, if_true, if_false, ite_true, ite_false, Bool.and_eq_true, decide_true, decide_false, decide_eq_true_eq, ne_eq, Nat.reduceEqDiff, Nat.one_ne_zero, Bool.false_eq_true, reduceCtorEq]; decide)) rfl dX0_isIn_13
set_option maxHeartbeats 4000000 in
set_option maxRecDepth 100000 in
/-- Integer.bitCount -/
theorem c_J6_bitCount (l : Launch) (hl9 : l.stackTraces = false) (D : va_G) (tys : kz_Y) (ws : va_W) (sz : Nat) (p0 : Int32) : ez_M l yJ6_bitCount wsJ6_bitCount ({ frames := 0, cells := 1, slots := 6, locals := 0 } : Room) (kz_P D tys ws sz [.int p0]) (kz_Ro (kz_i (fun r9 => r9 = (sq_B p0)))) (kz_T (fun _ => IAE) (fun _ => False)) 0 0 (fun _ => False) := by
  refine ez_ofW (cc := cJ6_bitCount) (maxL := 1) (ret := (some .int)) (by decide) rfl ?_
  intro p e s m args below meth c s₁ B hml hTab hv
  obtain ⟨rfl, hsz, hP, hK, hD0, hE⟩ := hv
  have hx := B.exec
  have hb := B.bytes
  have hr := B.returns
  have hw9 : ∀ w ∈ kz_W9, w.before ([.int p0] : List Value).toArray s = true := fun w h => atoms_spec (ws := wsJ6_bitCount) B.pre w (List.mem_cons_of_mem _ h)
  have hown : s.vm.findClass RJ6 = some m.cls := findClass_of_methodNamed B.named
  have hlocks := B.notSynchronized
  subst hsz
  have hD := hD0.self (sz := s.heap.size)
  generalize hAe : va_A ws s.heap.size = A at hD hE
  have hA : ∀ q : Nat, s.heap.size ≤ q → A q := fun q h => by rw [← hAe]; exact Or.inr h
  have hS : va_S A s.heap s.heap [] := va_S.rf
  have hO : kz_O s.heap s.heap := kz_O.rf _
  have hl := lv_entry ([.int p0]) (n := 1) (Nat.le_of_ble_eq_true rfl)
  rw [lg_entry_eq]
  generalize (lg_sl ([.int p0]) ++ List.replicate (1 - (lg_sl ([.int p0])).length) Slot.unset).toArray = ls at hl ⊢
  have hl : lv_has ls 1 [(0, .int p0)] := hl
  refine lv_iload_n hx hb dJ6_bitCount_0 rfl (lv_at hl 0 rfl) ?_
  refine lv_iload_n hx hb dJ6_bitCount_1 rfl (lv_at hl 0 rfl) ?_
  refine lv_iconst (v := 1) hx hb dJ6_bitCount_2 (by decide) ?_
  refine lv_iushr (v := (sq_u p0 1)) hx hb dJ6_bitCount_3 rfl ?_
  refine lv_ldcw (v := 1431655765) hx hb hown (hw9 _ mw_229) dJ6_bitCount_4 ?_
  refine lv_iand hx hb dJ6_bitCount_7 ?_
  refine lv_isub hx hb dJ6_bitCount_8 ?_
  refine lv_topi (fun x_1 ex_1 => ?_)
  refine lv_istore_n (lv' := [(0, .int x_1)]) hx hb dJ6_bitCount_9 rfl hl (by decide) rfl (fun ls hl => ?_)
  refine lv_iload_n hx hb dJ6_bitCount_10 rfl (lv_at hl 0 rfl) ?_
  refine lv_ldcw (v := 858993459) hx hb hown (hw9 _ mw_230) dJ6_bitCount_11 ?_
  refine lv_iand hx hb dJ6_bitCount_14 ?_
  refine lv_iload_n hx hb dJ6_bitCount_15 rfl (lv_at hl 0 rfl) ?_
  refine lv_iconst (v := 2) hx hb dJ6_bitCount_16 (by decide) ?_
  refine lv_iushr (v := (sq_u x_1 2)) hx hb dJ6_bitCount_17 rfl ?_
  refine lv_ldcw (v := 858993459) hx hb hown (hw9 _ mw_230) dJ6_bitCount_18 ?_
  refine lv_iand hx hb dJ6_bitCount_21 ?_
  refine lv_iadd hx hb dJ6_bitCount_22 ?_
  refine lv_topi (fun x_2 ex_2 => ?_)
  refine lv_istore_n (lv' := [(0, .int x_2)]) hx hb dJ6_bitCount_23 rfl hl (by decide) rfl (fun ls hl => ?_)
  refine lv_iload_n hx hb dJ6_bitCount_24 rfl (lv_at hl 0 rfl) ?_
  refine lv_iload_n hx hb dJ6_bitCount_25 rfl (lv_at hl 0 rfl) ?_
  refine lv_iconst (v := 4) hx hb dJ6_bitCount_26 (by decide) ?_
  refine lv_iushr (v := (sq_u x_2 4)) hx hb dJ6_bitCount_27 rfl ?_
  refine lv_iadd hx hb dJ6_bitCount_28 ?_
  refine lv_ldcw (v := 252645135) hx hb hown (hw9 _ mw_231) dJ6_bitCount_29 ?_
  refine lv_iand hx hb dJ6_bitCount_32 ?_
  refine lv_topi (fun x_3 ex_3 => ?_)
  refine lv_istore_n (lv' := [(0, .int x_3)]) hx hb dJ6_bitCount_33 rfl hl (by decide) rfl (fun ls hl => ?_)
  refine lv_iload_n hx hb dJ6_bitCount_34 rfl (lv_at hl 0 rfl) ?_
  refine lv_iload_n hx hb dJ6_bitCount_35 rfl (lv_at hl 0 rfl) ?_
  refine lv_bipush (v := 8) hx hb dJ6_bitCount_36 (by decide) ?_
  refine lv_iushr (v := (sq_u x_3 8)) hx hb dJ6_bitCount_38 rfl ?_
  refine lv_iadd hx hb dJ6_bitCount_39 ?_
  refine lv_topi (fun x_4 ex_4 => ?_)
  refine lv_istore_n (lv' := [(0, .int x_4)]) hx hb dJ6_bitCount_40 rfl hl (by decide) rfl (fun ls hl => ?_)
  refine lv_iload_n hx hb dJ6_bitCount_41 rfl (lv_at hl 0 rfl) ?_
  refine lv_iload_n hx hb dJ6_bitCount_42 rfl (lv_at hl 0 rfl) ?_
  refine lv_bipush (v := 16) hx hb dJ6_bitCount_43 (by decide) ?_
  refine lv_iushr (v := (sq_u x_4 16)) hx hb dJ6_bitCount_45 rfl ?_
  refine lv_iadd hx hb dJ6_bitCount_46 ?_
  refine lv_topi (fun x_5 ex_5 => ?_)
  refine lv_istore_n (lv' := [(0, .int x_5)]) hx hb dJ6_bitCount_47 rfl hl (by decide) rfl (fun ls hl => ?_)
  refine lv_iload_n hx hb dJ6_bitCount_48 rfl (lv_at hl 0 rfl) ?_
  refine lv_bipush (v := 63) hx hb dJ6_bitCount_49 (by decide) ?_
  refine lv_iand hx hb dJ6_bitCount_51 ?_
  exact kz_reti hx hb hr hlocks hO (by rw [ex_5, ex_4, ex_3, ex_2, ex_1]; rfl)  dJ6_bitCount_52
set_option maxHeartbeats 4000000 in
set_option maxRecDepth 100000 in
theorem c_X0_isMoreThanHalf (l : Launch) (hl9 : l.stackTraces = false) (D : va_G) (tys : kz_Y) (ws : va_W) (sz : Nat) (p0 : Int32) (p1 : Int32) : ez_M l yX0_isMoreThanHalf wsX0_isMoreThanHalf ({ frames := 1, cells := 1, slots := 6, locals := 20 } : Room) (kz_P D tys ws sz [.int p0, .int p1]) (kz_Ro (kz_i (fun r9 => r9 = (sq_z (sq_H p0 p1))))) (kz_T (fun _ => IAE) (fun _ => False)) 0 0 (fun _ => False) := by
  refine ez_ofW (cc := cX0_isMoreThanHalf) (maxL := 2) (ret := (some .boolean)) (by decide) rfl ?_
  intro p e s m args below meth c s₁ B hml hTab hv
  obtain ⟨rfl, hsz, hP, hK, hD0, hE⟩ := hv
  have hx := B.exec
  have hb := B.bytes
  have hr := B.returns
  have hw9 : ∀ w ∈ kz_W9, w.before ([.int p0, .int p1] : List Value).toArray s = true := fun w h => atoms_spec (ws := wsX0_isMoreThanHalf) B.pre w (List.mem_cons_of_mem _ h)
  have hown : s.vm.findClass RX0 = some m.cls := findClass_of_methodNamed B.named
  have hlocks := B.notSynchronized
  subst hsz
  have hD := hD0.self (sz := s.heap.size)
  generalize hAe : va_A ws s.heap.size = A at hD hE
  have hA : ∀ q : Nat, s.heap.size ≤ q → A q := fun q h => by rw [← hAe]; exact Or.inr h
  have hS : va_S A s.heap s.heap [] := va_S.rf
  have hO : kz_O s.heap s.heap := kz_O.rf _
  have hl := lv_entry ([.int p0, .int p1]) (n := 2) (Nat.le_of_ble_eq_true rfl)
  rw [lg_entry_eq]
  generalize (lg_sl ([.int p0, .int p1]) ++ List.replicate (2 - (lg_sl ([.int p0, .int p1])).length) Slot.unset).toArray = ls at hl ⊢
  have hl : lv_has ls 2 [(0, .int p0), (1, .int p1)] := hl
  refine lv_iconst (v := 2) hx hb dX0_isMoreThanHalf_0 (by decide) ?_
  refine lv_iload_n hx hb dX0_isMoreThanHalf_1 rfl (lv_at hl 0 rfl) ?_
  refine lv_iload_n hx hb dX0_isMoreThanHalf_2 rfl (lv_at hl 1 rfl) ?_
  refine lv_iand hx hb dX0_isMoreThanHalf_3 ?_
  refine kz_rS (As := [.int (p0 &&& p1)]) (rest := [.int 2]) ⟨hx, hb, hml, hown, hw9⟩ (c_J6_bitCount l hl9 D tys ws s.heap.size (p0 &&& p1)) (kz_cS 1 hw9 mw_226 mw_227 mw_8 mw_228 rfl rfl (by decide +kernel) ⟨Nat.le_of_ble_eq_true rfl, Nat.le_of_ble_eq_true rfl⟩) (kz_preS hK hP hD hS hA hE) rfl hl.1 rfl (Nat.le_of_ble_eq_true rfl) dX0_isMoreThanHalf_4 ⟨Nat.le_of_ble_eq_true rfl, Nat.le_of_ble_eq_true rfl⟩ (fun _ _ _ _ h => False.elim h) (fun v9 H hv9 hO1 => ?_)
  obtain ⟨_, rfl, rfl⟩ := hv9
  have hP := hO1.P hP
  have hS := hO1.S hS
  have hO := hO.tr hO1
  refine W.eq (g2 := F0 m 7 ls [.int (sq_B (p0 &&& p1)), .int 2]) rfl ?_
  refine lv_imul hx hb dX0_isMoreThanHalf_7 ?_
  refine lv_iload_n hx hb dX0_isMoreThanHalf_8 rfl (lv_at hl 1 rfl) ?_
  refine kz_rS (As := [.int p1]) (rest := [.int (2 * (sq_B (p0 &&& p1)))]) ⟨hx, hb, hml, hown, hw9⟩ (c_J6_bitCount l hl9 D tys ws H.size p1) (kz_cS 1 hw9 mw_226 mw_227 mw_8 mw_228 rfl rfl (by decide +kernel) ⟨Nat.le_of_ble_eq_true rfl, Nat.le_of_ble_eq_true rfl⟩) (kz_preS hK hP hD hS hA hE) rfl hl.1 rfl (Nat.le_of_ble_eq_true rfl) dX0_isMoreThanHalf_9 ⟨Nat.le_of_ble_eq_true rfl, Nat.le_of_ble_eq_true rfl⟩ (fun _ _ _ _ h => False.elim h) (fun v9 H hv9 hO1 => ?_)
  obtain ⟨_, rfl, rfl⟩ := hv9
  have hP := hO1.P hP
  have hS := hO1.S hS
  have hO := hO.tr hO1
  refine W.eq (g2 := F0 m 12 ls [.int (sq_B p1), .int (2 * (sq_B (p0 &&& p1)))]) rfl ?_
  refine lv_icmp_le (tgt := 19) hx hb dX0_isMoreThanHalf_12 (by decide) (fun c_1 => ?_) (fun c_1 => ?_)
  · -- 12 -> 19
    refine lv_iconst (v := 0) hx hb dX0_isMoreThanHalf_19 (by decide) ?_
    exact kz_retz hx hb hr hlocks hO (by first | (simp [sq_z, sq_H, c_1, (Int32.not_lt.mpr c_1)]; done) | (simp only [sq_z, sq_H, c_1, (Int32.not_lt.mpr c_1), eq_self, not_true_eq_false, not_false_eq_true, and_self, and_true, true_and, and_false, false_and, or_true, true_or, or_false, false_or, if_true, if_false, ite_true, ite_false, Bool.and_eq_true, decide_true, decide_false, decide_eq_true_eq, ne_eq, Nat.reduceEqDiff, Nat.one_ne_zero, Bool.false_eq_true, reduceCtorEq]; done) | (simp only [sq_z, sq_H, c_1, (Int32.not_lt.mpr c_1), eq_self, not_true_eq_false, not_false_eq_true, and_self, and_true, true_and, and_false, false_and, or_true, true_or, or_false, false_or, if_true, if_false, ite_true, ite_false, Bool.and_eq_true, decide_true, decide_false, decide_eq_true_eq, ne_eq, Nat.reduceEqDiff, Nat.one_ne_zero, Bool.false_eq_true, reduceCtorEq]; decide)) rfl dX0_isMoreThanHalf_20
  · -- 12 -> 15
    refine lv_iconst (v := 1) hx hb dX0_isMoreThanHalf_15 (by decide) ?_
    refine lv_goto (tgt := 20) hx hb dX0_isMoreThanHalf_16 (by decide) ?_
    exact kz_retz hx hb hr hlocks hO (by first | (simp [sq_z, sq_H, c_1, (Int32.not_le.mp c_1)]; done) | (simp only [sq_z, sq_H, c_1, (Int32.not_le.mp c_1), eq_self, not_true_eq_false, not_false_eq_true, and_self, and_true, true_and, and_false, false_and, or_true, true_or, or_false, false_or, if_true, if_false, ite_true, ite_false, Bool.and_eq_true, decide_true, decide_false, decide_eq_true_eq, ne_eq, Nat.reduceEqDiff, Nat.one_ne_zero, Bool.false_eq_true, reduceCtorEq]; done) | (simp only [sq_z, sq_H, c_1, (Int32.not_le.mp c_1), eq_self, not_true_eq_false, not_false_eq_true, and_self, and_true, true_and, and_false, false_and, or_true, true_or, or_false, false_or, if_true, if_false, ite_true, ite_false, Bool.and_eq_true, decide_true, decide_false, decide_eq_true_eq, ne_eq, Nat.reduceEqDiff, Nat.one_ne_zero, Bool.false_eq_true, reduceCtorEq]; decide)) rfl dX0_isMoreThanHalf_20
