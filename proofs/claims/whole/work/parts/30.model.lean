set_option maxHeartbeats 4000000 in
set_option maxRecDepth 100000 in
theorem c_X1_thrown (l : Launch) (hl9 : l.stackTraces = false) (D : va_G) (cI : ClassId) (ty : kz_Y) (bd : Nat → Nat) (rs : va_W) (sz : Nat) (th it o n g v r : Int32) (al : Nat → Int32) : ez_M l yX1_thrown wsX1_thrown ({ frames := 0, cells := 1, slots := 6, locals := 0 } : Room) (kz_P D ((cI, .int) :: ty) (wM bd cI th it o n g v r al ++ rs) sz [.ref (bd 0)]) (kz_Ro (kz_i (fun r9 => r9 = th))) (kz_T (fun _ => IAE) (fun _ => False)) 0 0 (fun _ => False) := by
  refine ez_ofW (cc := cX1_thrown) (maxL := 1) (ret := (some .int)) (by decide) rfl ?_
  intro p e s m args below meth c s₁ B hml hTab hv
  obtain ⟨rfl, hsz, hP, hK, hD0, hE⟩ := hv
  have hx := B.exec
  have hb := B.bytes
  have hr := B.returns
  have hw9 : ∀ w ∈ kz_W9, w.before ([.ref (bd 0)] : List Value).toArray s = true := fun w h => atoms_spec (ws := wsX1_thrown) B.pre w (List.mem_cons_of_mem _ h)
  have hown : s.vm.findClass RX1 = some m.cls := findClass_of_methodNamed B.named
  have hlocks := B.notSynchronized
  subst hsz
  have hD := hD0.self (sz := s.heap.size)
  generalize hAe : va_A (wM bd cI th it o n g v r al ++ rs) s.heap.size = A at hD hE
  have hA : ∀ q : Nat, s.heap.size ≤ q → A q := fun q h => by rw [← hAe]; exact Or.inr h
  have hS : va_S A s.heap s.heap [] := va_S.rf
  have hO : kz_O s.heap s.heap := kz_O.rf _
  have hl := lv_entry ([.ref (bd 0)]) (n := 1) (Nat.le_of_ble_eq_true rfl)
  rw [lg_entry_eq]
  generalize (lg_sl ([.ref (bd 0)]) ++ List.replicate (1 - (lg_sl ([.ref (bd 0)])).length) Slot.unset).toArray = ls at hl ⊢
  have hl : lv_has ls 1 [(0, .ref (bd 0))] := hl
  refine lv_aload_n hx hb dX1_thrown_0 rfl (lv_at hl 0 rfl) ?_
  refine va_get (D := D) (ci := 1) (v := .int th) (C := RX1) (T := TX1) (N := 8) hx hb hw9 uX1 hown hK hP 0 rfl rfl 0 (by decide) (hw9 _ mw_360) (fun _ h9 => h9) rfl dX1_thrown_1 ?_
  exact kz_reti hx hb hr hlocks hO (rfl)  dX1_thrown_4
set_option maxHeartbeats 4000000 in
set_option maxRecDepth 100000 in
theorem c_X1_fail (l : Launch) (hl9 : l.stackTraces = false) (D : va_G) (cI : ClassId) (ty : kz_Y) (bd : Nat → Nat) (rs : va_W) (sz : Nat) (th it o n g v r : Int32) (al : Nat → Int32) (p0 : Int32) : ez_M l yX1_fail wsX1_fail ({ frames := 0, cells := 1, slots := 6, locals := 0 } : Room) (kz_P D ((cI, .int) :: ty) (wM bd cI th it o n g v r al ++ rs) sz [.ref (bd 0), .int p0]) (kz_Wr D (va_A (wM bd cI th it o n g v r al ++ rs) sz) (kz_i (fun r9 => r9 = 0)) (wM bd cI p0 it o n g v r al ++ rs)) (kz_T (fun _ => IAE) (fun _ => False)) 0 0 (va_A (wM bd cI th it o n g v r al ++ rs) sz) := by
  refine ez_ofW (cc := cX1_fail) (maxL := 2) (ret := (some .int)) (by decide) rfl ?_
  intro p e s m args below meth c s₁ B hml hTab hv
  obtain ⟨rfl, hsz, hP, hK, hD0, hE⟩ := hv
  have hx := B.exec
  have hb := B.bytes
  have hr := B.returns
  have hw9 : ∀ w ∈ kz_W9, w.before ([.ref (bd 0), .int p0] : List Value).toArray s = true := fun w h => atoms_spec (ws := wsX1_fail) B.pre w (List.mem_cons_of_mem _ h)
  have hown : s.vm.findClass RX1 = some m.cls := findClass_of_methodNamed B.named
  have hlocks := B.notSynchronized
  subst hsz
  have hD := hD0.self (sz := s.heap.size)
  generalize hAe : va_A (wM bd cI th it o n g v r al ++ rs) s.heap.size = A at hD hE ⊢
  have hA : ∀ q : Nat, s.heap.size ≤ q → A q := fun q h => by rw [← hAe]; exact Or.inr h
  have hS : va_S A s.heap s.heap [] := va_S.rf
  have hO : kz_O s.heap s.heap := kz_O.rf _
  have hl := lv_entry ([.ref (bd 0), .int p0]) (n := 2) (Nat.le_of_ble_eq_true rfl)
  rw [lg_entry_eq]
  generalize (lg_sl ([.ref (bd 0), .int p0]) ++ List.replicate (2 - (lg_sl ([.ref (bd 0), .int p0])).length) Slot.unset).toArray = ls at hl ⊢
  have hl : lv_has ls 2 [(0, .ref (bd 0)), (1, .int p0)] := hl
  refine lv_aload_n hx hb dX1_fail_0 rfl (lv_at hl 0 rfl) ?_
  refine lv_iload_n hx hb dX1_fail_1 rfl (lv_at hl 1 rfl) ?_
  refine va_put (D := D) (ci := 1) (v := .int p0) (ty := .int) (C := RX1) (T := TX1) (N := 8) hx hb hw9 uX1 tyX1 tyX1_ok nmX1 hown hK hP hD hS 0 rfl rfl 0 (by decide) (hw9 _ mw_360) (fun _ h9 => h9) rfl (by decide +kernel) rfl rfl (Nat.le_of_ble_eq_true rfl) dX1_fail_2 (fun H locs hP hD hS => ?_)
  have hP : va_P D vwCl (wM bd cI p0 it o n g v r al ++ rs) H := hP
  have hD : va_D A (wM bd cI p0 it o n g v r al ++ rs) := hD
  refine lv_iconst (v := 0) hx hb dX1_fail_5 (by decide) ?_
  exact kz_wreti hx hb hr hlocks hP hD hS (Nat.le_of_ble_eq_true rfl) (Nat.le_of_ble_eq_true rfl) (rfl)  dX1_fail_6
set_option maxHeartbeats 4000000 in
set_option maxRecDepth 100000 in
theorem c_X1_isSet (l : Launch) (hl9 : l.stackTraces = false) (D : va_G) (tys : kz_Y) (ws : va_W) (sz : Nat) (p0 : Int32) : ez_M l yX1_isSet wsX1_isSet ({ frames := 0, cells := 1, slots := 6, locals := 0 } : Room) (kz_P D tys ws sz [.int p0]) (kz_Ro (kz_i (fun r9 => r9 = (sq_z (sq_S p0))))) (kz_T (fun _ => IAE) (fun _ => False)) 0 0 (fun _ => False) := by
  refine ez_ofW (cc := cX1_isSet) (maxL := 1) (ret := (some .boolean)) (by decide) rfl ?_
  intro p e s m args below meth c s₁ B hml hTab hv
  obtain ⟨rfl, hsz, hP, hK, hD0, hE⟩ := hv
  have hx := B.exec
  have hb := B.bytes
  have hr := B.returns
  have hw9 : ∀ w ∈ kz_W9, w.before ([.int p0] : List Value).toArray s = true := fun w h => atoms_spec (ws := wsX1_isSet) B.pre w (List.mem_cons_of_mem _ h)
  have hown : s.vm.findClass RX1 = some m.cls := findClass_of_methodNamed B.named
  have hlocks := B.notSynchronized
  subst hsz
  have hD := hD0.self (sz := s.heap.size)
  generalize hAe : va_A ws s.heap.size = A at hD hE
  have hA : ∀ q : Nat, s.heap.size ≤ q → A q := fun q h => by rw [← hAe]; exact Or.inr h
  have hS : va_S A s.heap s.heap [] := va_S.rf
  have hO : kz_O s.heap s.heap := kz_O.rf _
  have hl := lv_entry ([.int p0]) (n := 1) (Nat.le_of_ble_eq_true rfl)
  rw [lg_entry_eq]
  generalize (lg_sl ([.int p0]) ++ List.replicate (1 - (lg_sl ([.int p0])).length) Slot.unset).toArray = ls at hl ⊢
  have hl : lv_has ls 1 [(0, .int p0)] := hl
  refine lv_iload_n hx hb dX1_isSet_0 rfl (lv_at hl 0 rfl) ?_
  refine lv_if_lt (tgt := 15) hx hb dX1_isSet_1 (by decide) (fun c_1 => ?_) (fun c_1 => ?_)
  · -- 1 -> 15
    refine lv_iconst (v := 0) hx hb dX1_isSet_15 (by decide) ?_
    exact kz_retz hx hb hr hlocks hO (by first | (simp [sq_z, sq_S, ← sm_127, c_1, (Int32.not_le.mpr c_1)]; done) | (simp only [sq_z, sq_S, ← sm_127, c_1, (Int32.not_le.mpr c_1), eq_self, not_true_eq_false, not_false_eq_true, and_self, and_true, true_and, and_false, false_and, or_true, true_or, or_false, false_or, if_true, if_false, ite_true, ite_false, Bool.and_eq_true, decide_true, decide_false, decide_eq_true_eq, ne_eq, Nat.reduceEqDiff, Nat.one_ne_zero, Bool.false_eq_true, reduceCtorEq]; done) | (simp only [sq_z, sq_S, ← sm_127, c_1, (Int32.not_le.mpr c_1), eq_self, not_true_eq_false, not_false_eq_true, and_self, and_true, true_and, and_false, false_and, or_true, true_or, or_false, false_or, if_true, if_false, ite_true, ite_false, Bool.and_eq_true, decide_true, decide_false, decide_eq_true_eq, ne_eq, Nat.reduceEqDiff, Nat.one_ne_zero, Bool.false_eq_true, reduceCtorEq]; decide)) rfl dX1_isSet_16
  · -- 1 -> 4
    refine lv_iload_n hx hb dX1_isSet_4 rfl (lv_at hl 0 rfl) ?_
    refine lv_sipush (v := 128) hx hb dX1_isSet_5 (by decide) ?_
    refine lv_icmp_ge (tgt := 15) hx hb dX1_isSet_8 (by decide) (fun c_2 => ?_) (fun c_2 => ?_)
    · -- 8 -> 15
      refine lv_iconst (v := 0) hx hb dX1_isSet_15 (by decide) ?_
      exact kz_retz hx hb hr hlocks hO (by first | (simp [sq_z, sq_S, ← sm_127, c_1, (Int32.not_lt.mp c_1), c_2, (Int32.not_lt.mpr c_2)]; done) | (simp only [sq_z, sq_S, ← sm_127, c_1, (Int32.not_lt.mp c_1), c_2, (Int32.not_lt.mpr c_2), eq_self, not_true_eq_false, not_false_eq_true, and_self, and_true, true_and, and_false, false_and, or_true, true_or, or_false, false_or, if_true, if_false, ite_true, ite_false, Bool.and_eq_true, decide_true, decide_false, decide_eq_true_eq, ne_eq, Nat.reduceEqDiff, Nat.one_ne_zero, Bool.false_eq_true, reduceCtorEq]; done) | (simp only [sq_z, sq_S, ← sm_127, c_1, (Int32.not_lt.mp c_1), c_2, (Int32.not_lt.mpr c_2), eq_self, not_true_eq_false, not_false_eq_true, and_self, and_true, true_and, and_false, false_and, or_true, true_or, or_false, false_or, if_true, if_false, ite_true, ite_false, Bool.and_eq_true, decide_true, decide_false, decide_eq_true_eq, ne_eq, Nat.reduceEqDiff, Nat.one_ne_zero, Bool.false_eq_true, reduceCtorEq]; decide)) rfl dX1_isSet_16
    · -- 8 -> 11
      refine lv_iconst (v := 1) hx hb dX1_isSet_11 (by decide) ?_
      refine lv_goto (tgt := 16) hx hb dX1_isSet_12 (by decide) ?_
      exact kz_retz hx hb hr hlocks hO (by first | (simp [sq_z, sq_S, ← sm_127, c_1, (Int32.not_lt.mp c_1), c_2, (Int32.not_le.mp c_2)]; done) | (simp only [sq_z, sq_S, ← sm_127, c_1, (Int32.not_lt.mp c_1), c_2, (Int32.not_le.mp c_2), eq_self, not_true_eq_false, not_false_eq_true, and_self, and_true, true_and, and_false, false_and, or_true, true_or, or_false, false_or, if_true, if_false, ite_true, ite_false, Bool.and_eq_true, decide_true, decide_false, decide_eq_true_eq, ne_eq, Nat.reduceEqDiff, Nat.one_ne_zero, Bool.false_eq_true, reduceCtorEq]; done) | (simp only [sq_z, sq_S, ← sm_127, c_1, (Int32.not_lt.mp c_1), c_2, (Int32.not_le.mp c_2), eq_self, not_true_eq_false, not_false_eq_true, and_self, and_true, true_and, and_false, false_and, or_true, true_or, or_false, false_or, if_true, if_false, ite_true, ite_false, Bool.and_eq_true, decide_true, decide_false, decide_eq_true_eq, ne_eq, Nat.reduceEqDiff, Nat.one_ne_zero, Bool.false_eq_true, reduceCtorEq]; decide)) rfl dX1_isSet_16
set_option maxHeartbeats 4000000 in
set_option maxRecDepth 100000 in
theorem c_X1_number (l : Launch) (hl9 : l.stackTraces = false) (D : va_G) (tys : kz_Y) (ws : va_W) (sz : Nat) (p0 : Int32) : ez_M l yX1_number wsX1_number ({ frames := 0, cells := 1, slots := 6, locals := 0 } : Room) (kz_P D tys ws sz [.int p0]) (kz_Ro (kz_i (fun r9 => r9 = (sq_z (sq_N p0))))) (kz_T (fun _ => IAE) (fun _ => False)) 0 0 (fun _ => False) := by
  refine ez_ofW (cc := cX1_number) (maxL := 1) (ret := (some .boolean)) (by decide) rfl ?_
  intro p e s m args below meth c s₁ B hml hTab hv
  obtain ⟨rfl, hsz, hP, hK, hD0, hE⟩ := hv
  have hx := B.exec
  have hb := B.bytes
  have hr := B.returns
  have hw9 : ∀ w ∈ kz_W9, w.before ([.int p0] : List Value).toArray s = true := fun w h => atoms_spec (ws := wsX1_number) B.pre w (List.mem_cons_of_mem _ h)
  have hown : s.vm.findClass RX1 = some m.cls := findClass_of_methodNamed B.named
  have hlocks := B.notSynchronized
  subst hsz
  have hD := hD0.self (sz := s.heap.size)
  generalize hAe : va_A ws s.heap.size = A at hD hE
  have hA : ∀ q : Nat, s.heap.size ≤ q → A q := fun q h => by rw [← hAe]; exact Or.inr h
  have hS : va_S A s.heap s.heap [] := va_S.rf
  have hO : kz_O s.heap s.heap := kz_O.rf _
  have hl := lv_entry ([.int p0]) (n := 1) (Nat.le_of_ble_eq_true rfl)
  rw [lg_entry_eq]
  generalize (lg_sl ([.int p0]) ++ List.replicate (1 - (lg_sl ([.int p0])).length) Slot.unset).toArray = ls at hl ⊢
  have hl : lv_has ls 1 [(0, .int p0)] := hl
  refine lv_iload_n hx hb dX1_number_0 rfl (lv_at hl 0 rfl) ?_
  refine lv_if_lt (tgt := 14) hx hb dX1_number_1 (by decide) (fun c_1 => ?_) (fun c_1 => ?_)
  · -- 1 -> 14
    refine lv_iconst (v := 0) hx hb dX1_number_14 (by decide) ?_
    exact kz_retz hx hb hr hlocks hO (by first | (simp [sq_z, sq_N, c_1, (Int32.not_le.mpr c_1)]; done) | (simp only [sq_z, sq_N, c_1, (Int32.not_le.mpr c_1), eq_self, not_true_eq_false, not_false_eq_true, and_self, and_true, true_and, and_false, false_and, or_true, true_or, or_false, false_or, if_true, if_false, ite_true, ite_false, Bool.and_eq_true, decide_true, decide_false, decide_eq_true_eq, ne_eq, Nat.reduceEqDiff, Nat.one_ne_zero, Bool.false_eq_true, reduceCtorEq]; done) | (simp only [sq_z, sq_N, c_1, (Int32.not_le.mpr c_1), eq_self, not_true_eq_false, not_false_eq_true, and_self, and_true, true_and, and_false, false_and, or_true, true_or, or_false, false_or, if_true, if_false, ite_true, ite_false, Bool.and_eq_true, decide_true, decide_false, decide_eq_true_eq, ne_eq, Nat.reduceEqDiff, Nat.one_ne_zero, Bool.false_eq_true, reduceCtorEq]; decide)) rfl dX1_number_15
  · -- 1 -> 4
    refine lv_iload_n hx hb dX1_number_4 rfl (lv_at hl 0 rfl) ?_
    refine lv_ldc (v := 1000000000) hx hb hown (hw9 _ mw_441) dX1_number_5 ?_
    refine lv_icmp_gt (tgt := 14) hx hb dX1_number_7 (by decide) (fun c_2 => ?_) (fun c_2 => ?_)
    · -- 7 -> 14
      refine lv_iconst (v := 0) hx hb dX1_number_14 (by decide) ?_
      exact kz_retz hx hb hr hlocks hO (by first | (simp [sq_z, sq_N, c_1, (Int32.not_lt.mp c_1), c_2, (Int32.not_le.mpr c_2)]; done) | (simp only [sq_z, sq_N, c_1, (Int32.not_lt.mp c_1), c_2, (Int32.not_le.mpr c_2), eq_self, not_true_eq_false, not_false_eq_true, and_self, and_true, true_and, and_false, false_and, or_true, true_or, or_false, false_or, if_true, if_false, ite_true, ite_false, Bool.and_eq_true, decide_true, decide_false, decide_eq_true_eq, ne_eq, Nat.reduceEqDiff, Nat.one_ne_zero, Bool.false_eq_true, reduceCtorEq]; done) | (simp only [sq_z, sq_N, c_1, (Int32.not_lt.mp c_1), c_2, (Int32.not_le.mpr c_2), eq_self, not_true_eq_false, not_false_eq_true, and_self, and_true, true_and, and_false, false_and, or_true, true_or, or_false, false_or, if_true, if_false, ite_true, ite_false, Bool.and_eq_true, decide_true, decide_false, decide_eq_true_eq, ne_eq, Nat.reduceEqDiff, Nat.one_ne_zero, Bool.false_eq_true, reduceCtorEq]; decide)) rfl dX1_number_15
    · -- 7 -> 10
      refine lv_iconst (v := 1) hx hb dX1_number_10 (by decide) ?_
      refine lv_goto (tgt := 15) hx hb dX1_number_11 (by decide) ?_
      exact kz_retz hx hb hr hlocks hO (by first | (simp [sq_z, sq_N, c_1, (Int32.not_lt.mp c_1), c_2, (Int32.not_lt.mp c_2)]; done) | (simp only [sq_z, sq_N, c_1, (Int32.not_lt.mp c_1), c_2, (Int32.not_lt.mp c_2), eq_self, not_true_eq_false, not_false_eq_true, and_self, and_true, true_and, and_false, false_and, or_true, true_or, or_false, false_or, if_true, if_false, ite_true, ite_false, Bool.and_eq_true, decide_true, decide_false, decide_eq_true_eq, ne_eq, Nat.reduceEqDiff, Nat.one_ne_zero, Bool.false_eq_true, reduceCtorEq]; done) | (simp only [sq_z, sq_N, c_1, (Int32.not_lt.mp c_1), c_2, (Int32.not_lt.mp c_2), eq_self, not_true_eq_false, not_false_eq_true, and_self, and_true, true_and, and_false, false_and, or_true, true_or, or_false, false_or, if_true, if_false, ite_true, ite_false, Bool.and_eq_true, decide_true, decide_false, decide_eq_true_eq, ne_eq, Nat.reduceEqDiff, Nat.one_ne_zero, Bool.false_eq_true, reduceCtorEq]; decide)) rfl dX1_number_15
set_option maxHeartbeats 4000000 in
set_option maxRecDepth 100000 in
theorem c_X1_has (l : Launch) (hl9 : l.stackTraces = false) (D : va_G) (tys : kz_Y) (ws : va_W) (sz : Nat) (p0 : Int32) (p1 : Int32) : ez_M l yX1_has wsX1_has ({ frames := 0, cells := 1, slots := 6, locals := 0 } : Room) (kz_P D tys ws sz [.int p0, .int p1]) (kz_Ro (kz_i (fun r9 => r9 = (sq_z (sm_h p0 p1))))) (kz_T (fun _ => IAE) (fun _ => False)) 0 0 (fun _ => False) := by
  refine ez_ofW (cc := cX1_has) (maxL := 2) (ret := (some .boolean)) (by decide) rfl ?_
  intro p e s m args below meth c s₁ B hml hTab hv
  obtain ⟨rfl, hsz, hP, hK, hD0, hE⟩ := hv
  have hx := B.exec
  have hb := B.bytes
  have hr := B.returns
  have hw9 : ∀ w ∈ kz_W9, w.before ([.int p0, .int p1] : List Value).toArray s = true := fun w h => atoms_spec (ws := wsX1_has) B.pre w (List.mem_cons_of_mem _ h)
  have hown : s.vm.findClass RX1 = some m.cls := findClass_of_methodNamed B.named
  have hlocks := B.notSynchronized
  subst hsz
  have hD := hD0.self (sz := s.heap.size)
  generalize hAe : va_A ws s.heap.size = A at hD hE
  have hA : ∀ q : Nat, s.heap.size ≤ q → A q := fun q h => by rw [← hAe]; exact Or.inr h
  have hS : va_S A s.heap s.heap [] := va_S.rf
  have hO : kz_O s.heap s.heap := kz_O.rf _
  have hl := lv_entry ([.int p0, .int p1]) (n := 2) (Nat.le_of_ble_eq_true rfl)
  rw [lg_entry_eq]
  generalize (lg_sl ([.int p0, .int p1]) ++ List.replicate (2 - (lg_sl ([.int p0, .int p1])).length) Slot.unset).toArray = ls at hl ⊢
  have hl : lv_has ls 2 [(0, .int p0), (1, .int p1)] := hl
  refine lv_iload_n hx hb dX1_has_0 rfl (lv_at hl 1 rfl) ?_
  refine lv_if_lt (tgt := 23) hx hb dX1_has_1 (by decide) (fun c_1 => ?_) (fun c_1 => ?_)
  · -- 1 -> 23
    refine lv_iconst (v := 0) hx hb dX1_has_23 (by decide) ?_
    exact kz_retz hx hb hr hlocks hO (by first | (simp [sq_z, sm_h, c_1, (Int32.not_le.mpr c_1)]; done) | (simp only [sq_z, sm_h, c_1, (Int32.not_le.mpr c_1), eq_self, not_true_eq_false, not_false_eq_true, and_self, and_true, true_and, and_false, false_and, or_true, true_or, or_false, false_or, if_true, if_false, ite_true, ite_false, Bool.and_eq_true, decide_true, decide_false, decide_eq_true_eq, ne_eq, Nat.reduceEqDiff, Nat.one_ne_zero, Bool.false_eq_true, reduceCtorEq]; done) | (simp only [sq_z, sm_h, c_1, (Int32.not_le.mpr c_1), eq_self, not_true_eq_false, not_false_eq_true, and_self, and_true, true_and, and_false, false_and, or_true, true_or, or_false, false_or, if_true, if_false, ite_true, ite_false, Bool.and_eq_true, decide_true, decide_false, decide_eq_true_eq, ne_eq, Nat.reduceEqDiff, Nat.one_ne_zero, Bool.false_eq_true, reduceCtorEq]; decide)) rfl dX1_has_24
  · -- 1 -> 4
    refine lv_iload_n hx hb dX1_has_4 rfl (lv_at hl 1 rfl) ?_
    refine lv_bipush (v := 7) hx hb dX1_has_5 (by decide) ?_
    refine lv_icmp_ge (tgt := 23) hx hb dX1_has_7 (by decide) (fun c_2 => ?_) (fun c_2 => ?_)
    · -- 7 -> 23
      refine lv_iconst (v := 0) hx hb dX1_has_23 (by decide) ?_
      exact kz_retz hx hb hr hlocks hO (by first | (simp [sq_z, sm_h, c_1, (Int32.not_lt.mp c_1), c_2, (Int32.not_lt.mpr c_2)]; done) | (simp only [sq_z, sm_h, c_1, (Int32.not_lt.mp c_1), c_2, (Int32.not_lt.mpr c_2), eq_self, not_true_eq_false, not_false_eq_true, and_self, and_true, true_and, and_false, false_and, or_true, true_or, or_false, false_or, if_true, if_false, ite_true, ite_false, Bool.and_eq_true, decide_true, decide_false, decide_eq_true_eq, ne_eq, Nat.reduceEqDiff, Nat.one_ne_zero, Bool.false_eq_true, reduceCtorEq]; done) | (simp only [sq_z, sm_h, c_1, (Int32.not_lt.mp c_1), c_2, (Int32.not_lt.mpr c_2), eq_self, not_true_eq_false, not_false_eq_true, and_self, and_true, true_and, and_false, false_and, or_true, true_or, or_false, false_or, if_true, if_false, ite_true, ite_false, Bool.and_eq_true, decide_true, decide_false, decide_eq_true_eq, ne_eq, Nat.reduceEqDiff, Nat.one_ne_zero, Bool.false_eq_true, reduceCtorEq]; decide)) rfl dX1_has_24
    · -- 7 -> 10
      refine lv_iload_n hx hb dX1_has_10 rfl (lv_at hl 0 rfl) ?_
      refine lv_iload_n hx hb dX1_has_11 rfl (lv_at hl 1 rfl) ?_
      refine lv_ishr hx hb dX1_has_12 ?_
      refine lv_iconst (v := 1) hx hb dX1_has_13 (by decide) ?_
      refine lv_iand hx hb dX1_has_14 ?_
      refine lv_iconst (v := 1) hx hb dX1_has_15 (by decide) ?_
      refine lv_icmp_ne (tgt := 23) hx hb dX1_has_16 (by decide) (fun c_3 => ?_) (fun c_3 => ?_)
      · -- 16 -> 23
        refine lv_iconst (v := 0) hx hb dX1_has_23 (by decide) ?_
        exact kz_retz hx hb hr hlocks hO (by first | (simp [sq_z, sm_h, c_1, (Int32.not_lt.mp c_1), c_2, (Int32.not_le.mp c_2), c_3]; done) | (simp only [sq_z, sm_h, c_1, (Int32.not_lt.mp c_1), c_2, (Int32.not_le.mp c_2), c_3, eq_self, not_true_eq_false, not_false_eq_true, and_self, and_true, true_and, and_false, false_and, or_true, true_or, or_false, false_or, if_true, if_false, ite_true, ite_false, Bool.and_eq_true, decide_true, decide_false, decide_eq_true_eq, ne_eq, Nat.reduceEqDiff, Nat.one_ne_zero, Bool.false_eq_true, reduceCtorEq]; done) | (simp only [sq_z, sm_h, c_1, (Int32.not_lt.mp c_1), c_2, (Int32.not_le.mp c_2), c_3, eq_self, not_true_eq_false, not_false_eq_true, and_self, and_true, true_and, and_false, false_and, or_true, true_or, or_false, false_or, if_true, if_false, ite_true, ite_false, Bool.and_eq_true, decide_true, decide_false, decide_eq_true_eq, ne_eq, Nat.reduceEqDiff, Nat.one_ne_zero, Bool.false_eq_true, reduceCtorEq]; decide)) rfl dX1_has_24
      · -- 16 -> 19
        refine lv_iconst (v := 1) hx hb dX1_has_19 (by decide) ?_
        refine lv_goto (tgt := 24) hx hb dX1_has_20 (by decide) ?_
        exact kz_retz hx hb hr hlocks hO (by first | (simp [sq_z, sm_h, c_1, (Int32.not_lt.mp c_1), c_2, (Int32.not_le.mp c_2), c_3]; done) | (simp only [sq_z, sm_h, c_1, (Int32.not_lt.mp c_1), c_2, (Int32.not_le.mp c_2), c_3, eq_self, not_true_eq_false, not_false_eq_true, and_self, and_true, true_and, and_false, false_and, or_true, true_or, or_false, false_or, if_true, if_false, ite_true, ite_false, Bool.and_eq_true, decide_true, decide_false, decide_eq_true_eq, ne_eq, Nat.reduceEqDiff, Nat.one_ne_zero, Bool.false_eq_true, reduceCtorEq]; done) | (simp only [sq_z, sm_h, c_1, (Int32.not_lt.mp c_1), c_2, (Int32.not_le.mp c_2), c_3, eq_self, not_true_eq_false, not_false_eq_true, and_self, and_true, true_and, and_false, false_and, or_true, true_or, or_false, false_or, if_true, if_false, ite_true, ite_false, Bool.and_eq_true, decide_true, decide_false, decide_eq_true_eq, ne_eq, Nat.reduceEqDiff, Nat.one_ne_zero, Bool.false_eq_true, reduceCtorEq]; decide)) rfl dX1_has_24
