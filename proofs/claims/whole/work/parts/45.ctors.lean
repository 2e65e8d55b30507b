set_option maxHeartbeats 4000000 in
set_option maxRecDepth 100000 in
theorem c_X0_init (l : Launch) (D : va_G) (h0 sz : Nat) (p0 p1 : Int32) : Met l yX0_init wsX0_init ({ frames := 1, cells := 8, slots := 56, locals := 20 } : Room) (va_Pc [.ref h0, .int p0, .int p1] (fun U => U.heap.size = sz ∧ va_P D vwCl [(h0, .inr (0, [.int 0, .int 0, .int 0, .int 0, .int 0, .int 0, .null, .null, .null, .null, .null, .null, .null, .null]))] U.heap ∧ va_K D vwCl [] U ∧ va_D (fun _ => True) [(h0, .inr (0, [.int 0, .int 0, .int 0, .int 0, .int 0, .int 0, .null, .null, .null, .null, .null, .null, .null, .null]))])) (va_Qv (fun u : (Nat → Nat) × ClassId × ClassId => u.1 0 = h0) (fun u t => va_P D vwCl (wX u.1 u.2.1 u.2.2 (sq_it p0) (sq_od p1) 0 0 0 0 (fun _ => 0) (fun _ => 0) (fun _ => 0) (fun _ => 0) (fun _ => 0) (fun _ => 0) (fun _ => 0) (fun _ => 0)) t.heap ∧ va_K D vwCl [(u.2.1, .int), (u.2.2, .boolean)] t ∧ va_D (va_A [(h0, .inr (0, [.int 0, .int 0, .int 0, .int 0, .int 0, .int 0, .null, .null, .null, .null, .null, .null, .null, .null]))] sz) (wX u.1 u.2.1 u.2.2 (sq_it p0) (sq_od p1) 0 0 0 0 (fun _ => 0) (fun _ => 0) (fun _ => 0) (fun _ => 0) (fun _ => 0) (fun _ => 0) (fun _ => 0) (fun _ => 0))) (va_A [(h0, .inr (0, [.int 0, .int 0, .int 0, .int 0, .int 0, .int 0, .null, .null, .null, .null, .null, .null, .null, .null]))] sz)) 8 56 (va_A [(h0, .inr (0, [.int 0, .int 0, .int 0, .int 0, .int 0, .int 0, .null, .null, .null, .null, .null, .null, .null, .null]))] sz) := by
  refine Met.ofW (cc := cX0_init) (maxL := 5) (ret := none) (by decide) rfl ?_
  intro p e s m args below meth c s₁ B hml hv
  obtain ⟨rfl, hsz, hP, hK, hD0⟩ := hv
  have hx := B.exec
  have hb := B.bytes
  have hr := B.returns
  have hw9 : ∀ w ∈ kz_W9, w.before ([.ref h0, .int p0, .int p1] : List Value).toArray s = true := fun w h => atoms_spec (ws := wsX0_init) B.pre w (List.mem_cons_of_mem _ h)
  have hown : s.vm.findClass RX0 = some m.cls := findClass_of_methodNamed B.named
  have hlocks := B.notSynchronized
  have hin : meth.name = "<init>" := (name_of_methodNamed B.named B.method).1
  subst hsz
  have hD := hD0.self (sz := s.heap.size)
  generalize hAe : va_A [(h0, .inr (0, [.int 0, .int 0, .int 0, .int 0, .int 0, .int 0, .null, .null, .null, .null, .null, .null, .null, .null]))] s.heap.size = A at hD ⊢
  have hA : ∀ q : Nat, s.heap.size ≤ q → A q := fun q h => by rw [← hAe]; exact Or.inr h
  have hS : va_S A s.heap s.heap [] := va_S.rf
  have hl := lv_entry ([.ref h0, .int p0, .int p1]) (n := 5) (Nat.le_of_ble_eq_true rfl)
  rw [lg_entry_eq]
  generalize (lg_sl ([.ref h0, .int p0, .int p1]) ++ List.replicate (5 - (lg_sl ([.ref h0, .int p0, .int p1])).length) Slot.unset).toArray = ls at hl ⊢
  have hl : lv_has ls 5 [(0, .ref h0), (1, .int p0), (2, .int p1)] := hl
  refine lv_aload_n hx hb dX0_init_0 rfl (lv_at hl 0 rfl) ?_
  refine W.objInit hx hb hown (hw9 _ mw_16) (hw9 _ mw_17) (hw9 _ mw_18) rfl (by rw [hml]; exact hl.1) rfl dX0_init_1 (Nat.le_of_ble_eq_true rfl) (Nat.le_of_ble_eq_true rfl) ?_
  refine W.eq (g2 := F0 m 4 ls []) rfl ?_
  refine lv_aload_n hx hb dX0_init_4 rfl (lv_at hl 0 rfl) ?_
  refine lv_bipush (v := 7) hx hb dX0_init_5 (by decide) ?_
  refine va_newa (atype := .int) (ty := .int) (a0 := (7, .inl (fun _ => 0))) (N' := 7) hx hb (hw9 _ mw_62) rfl hK hP hD hS hA (fun cA => rfl) (by decide) (by decide) (by decide) (Nat.le_of_ble_eq_true rfl) (Nat.le_of_ble_eq_true rfl) dX0_init_7 (fun q1 c0 H hK hP hD hS => ?_)
  have hK : va_K D vwCl [(c0, .int)] s := hK
  have hP : va_P D vwCl [(h0, .inr (0, [.int 0, .int 0, .int 0, .int 0, .int 0, .int 0, .null, .null, .null, .null, .null, .null, .null, .null])), (q1, .inl (c0, (7, .inl (fun _ => 0))))] H := hP
  have hD : va_D A [(h0, .inr (0, [.int 0, .int 0, .int 0, .int 0, .int 0, .int 0, .null, .null, .null, .null, .null, .null, .null, .null])), (q1, .inl (c0, (7, .inl (fun _ => 0))))] := hD
  refine va_putF (D := D) (ci := 0) (v := .ref q1) (ty := .array .int) (C := RX0) (T := TX0) (N := 14) hx hb hw9 uX0 tyX0 tyX0_ok nmX0 hown hK hP hD hS 0 rfl rfl 6 (by decide) (hw9 _ mw_25) (fun _ h9 => h9) rfl hin rfl (by decide +kernel) rfl rfl (Nat.le_of_ble_eq_true rfl) dX0_init_9 (fun H locs hP hD hS => ?_)
  have hP : va_P D vwCl [(h0, .inr (0, [.int 0, .int 0, .int 0, .int 0, .int 0, .int 0, .ref q1, .null, .null, .null, .null, .null, .null, .null])), (q1, .inl (c0, (7, .inl (fun _ => 0))))] H := hP
  have hD : va_D A [(h0, .inr (0, [.int 0, .int 0, .int 0, .int 0, .int 0, .int 0, .ref q1, .null, .null, .null, .null, .null, .null, .null])), (q1, .inl (c0, (7, .inl (fun _ => 0))))] := hD
  refine lv_aload_n hx hb dX0_init_12 rfl (lv_at hl 0 rfl) ?_
  refine lv_bipush (v := 7) hx hb dX0_init_13 (by decide) ?_
  refine va_newa (atype := .int) (ty := .int) (a0 := (7, .inl (fun _ => 0))) (N' := 7) hx hb (hw9 _ mw_62) rfl hK hP hD hS hA (fun cA => rfl) (by decide) (by decide) (by decide) (Nat.le_of_ble_eq_true rfl) (Nat.le_of_ble_eq_true rfl) dX0_init_15 (fun q2 c1 H hK hP hD hS => ?_)
  have hK : va_K D vwCl [(c0, .int), (c1, .int)] s := hK
  have hP : va_P D vwCl [(h0, .inr (0, [.int 0, .int 0, .int 0, .int 0, .int 0, .int 0, .ref q1, .null, .null, .null, .null, .null, .null, .null])), (q1, .inl (c0, (7, .inl (fun _ => 0)))), (q2, .inl (c1, (7, .inl (fun _ => 0))))] H := hP
  have hD : va_D A [(h0, .inr (0, [.int 0, .int 0, .int 0, .int 0, .int 0, .int 0, .ref q1, .null, .null, .null, .null, .null, .null, .null])), (q1, .inl (c0, (7, .inl (fun _ => 0)))), (q2, .inl (c1, (7, .inl (fun _ => 0))))] := hD
  refine va_putF (D := D) (ci := 0) (v := .ref q2) (ty := .array .int) (C := RX0) (T := TX0) (N := 14) hx hb hw9 uX0 tyX0 tyX0_ok nmX0 hown hK hP hD hS 0 rfl rfl 7 (by decide) (hw9 _ mw_26) (fun _ h9 => h9) rfl hin rfl (by decide +kernel) rfl rfl (Nat.le_of_ble_eq_true rfl) dX0_init_17 (fun H locs hP hD hS => ?_)
  have hP : va_P D vwCl [(h0, .inr (0, [.int 0, .int 0, .int 0, .int 0, .int 0, .int 0, .ref q1, .ref q2, .null, .null, .null, .null, .null, .null])), (q1, .inl (c0, (7, .inl (fun _ => 0)))), (q2, .inl (c1, (7, .inl (fun _ => 0))))] H := hP
  have hD : va_D A [(h0, .inr (0, [.int 0, .int 0, .int 0, .int 0, .int 0, .int 0, .ref q1, .ref q2, .null, .null, .null, .null, .null, .null])), (q1, .inl (c0, (7, .inl (fun _ => 0)))), (q2, .inl (c1, (7, .inl (fun _ => 0))))] := hD
  refine lv_aload_n hx hb dX0_init_20 rfl (lv_at hl 0 rfl) ?_
  refine lv_bipush (v := 7) hx hb dX0_init_21 (by decide) ?_
  refine va_newa (atype := .int) (ty := .int) (a0 := (7, .inl (fun _ => 0))) (N' := 7) hx hb (hw9 _ mw_62) rfl hK hP hD hS hA (fun cA => rfl) (by decide) (by decide) (by decide) (Nat.le_of_ble_eq_true rfl) (Nat.le_of_ble_eq_true rfl) dX0_init_23 (fun q3 c2 H hK hP hD hS => ?_)
  have hK : va_K D vwCl [(c0, .int), (c1, .int), (c2, .int)] s := hK
  have hP : va_P D vwCl [(h0, .inr (0, [.int 0, .int 0, .int 0, .int 0, .int 0, .int 0, .ref q1, .ref q2, .null, .null, .null, .null, .null, .null])), (q1, .inl (c0, (7, .inl (fun _ => 0)))), (q2, .inl (c1, (7, .inl (fun _ => 0)))), (q3, .inl (c2, (7, .inl (fun _ => 0))))] H := hP
  have hD : va_D A [(h0, .inr (0, [.int 0, .int 0, .int 0, .int 0, .int 0, .int 0, .ref q1, .ref q2, .null, .null, .null, .null, .null, .null])), (q1, .inl (c0, (7, .inl (fun _ => 0)))), (q2, .inl (c1, (7, .inl (fun _ => 0)))), (q3, .inl (c2, (7, .inl (fun _ => 0))))] := hD
  refine va_putF (D := D) (ci := 0) (v := .ref q3) (ty := .array .int) (C := RX0) (T := TX0) (N := 14) hx hb hw9 uX0 tyX0 tyX0_ok nmX0 hown hK hP hD hS 0 rfl rfl 8 (by decide) (hw9 _ mw_27) (fun _ h9 => h9) rfl hin rfl (by decide +kernel) rfl rfl (Nat.le_of_ble_eq_true rfl) dX0_init_25 (fun H locs hP hD hS => ?_)
  have hP : va_P D vwCl [(h0, .inr (0, [.int 0, .int 0, .int 0, .int 0, .int 0, .int 0, .ref q1, .ref q2, .ref q3, .null, .null, .null, .null, .null])), (q1, .inl (c0, (7, .inl (fun _ => 0)))), (q2, .inl (c1, (7, .inl (fun _ => 0)))), (q3, .inl (c2, (7, .inl (fun _ => 0))))] H := hP
  have hD : va_D A [(h0, .inr (0, [.int 0, .int 0, .int 0, .int 0, .int 0, .int 0, .ref q1, .ref q2, .ref q3, .null, .null, .null, .null, .null])), (q1, .inl (c0, (7, .inl (fun _ => 0)))), (q2, .inl (c1, (7, .inl (fun _ => 0)))), (q3, .inl (c2, (7, .inl (fun _ => 0))))] := hD
  refine lv_aload_n hx hb dX0_init_28 rfl (lv_at hl 0 rfl) ?_
  refine lv_bipush (v := 7) hx hb dX0_init_29 (by decide) ?_
  refine va_newa (atype := .boolean) (ty := .boolean) (a0 := (7, .inl (fun _ => 0))) (N' := 7) hx hb (hw9 _ mw_63) rfl hK hP hD hS hA (fun cA => rfl) (by decide) (by decide) (by decide) (Nat.le_of_ble_eq_true rfl) (Nat.le_of_ble_eq_true rfl) dX0_init_31 (fun q4 c3 H hK hP hD hS => ?_)
  have hK : va_K D vwCl [(c0, .int), (c1, .int), (c2, .int), (c3, .boolean)] s := hK
  have hP : va_P D vwCl [(h0, .inr (0, [.int 0, .int 0, .int 0, .int 0, .int 0, .int 0, .ref q1, .ref q2, .ref q3, .null, .null, .null, .null, .null])), (q1, .inl (c0, (7, .inl (fun _ => 0)))), (q2, .inl (c1, (7, .inl (fun _ => 0)))), (q3, .inl (c2, (7, .inl (fun _ => 0)))), (q4, .inl (c3, (7, .inl (fun _ => 0))))] H := hP
  have hD : va_D A [(h0, .inr (0, [.int 0, .int 0, .int 0, .int 0, .int 0, .int 0, .ref q1, .ref q2, .ref q3, .null, .null, .null, .null, .null])), (q1, .inl (c0, (7, .inl (fun _ => 0)))), (q2, .inl (c1, (7, .inl (fun _ => 0)))), (q3, .inl (c2, (7, .inl (fun _ => 0)))), (q4, .inl (c3, (7, .inl (fun _ => 0))))] := hD
  refine va_putF (D := D) (ci := 0) (v := .ref q4) (ty := .array .boolean) (C := RX0) (T := TX0) (N := 14) hx hb hw9 uX0 tyX0 tyX0_ok nmX0 hown hK hP hD hS 0 rfl rfl 9 (by decide) (hw9 _ mw_28) (fun _ h9 => h9) rfl hin rfl (by decide +kernel) rfl rfl (Nat.le_of_ble_eq_true rfl) dX0_init_33 (fun H locs hP hD hS => ?_)
  have hP : va_P D vwCl [(h0, .inr (0, [.int 0, .int 0, .int 0, .int 0, .int 0, .int 0, .ref q1, .ref q2, .ref q3, .ref q4, .null, .null, .null, .null])), (q1, .inl (c0, (7, .inl (fun _ => 0)))), (q2, .inl (c1, (7, .inl (fun _ => 0)))), (q3, .inl (c2, (7, .inl (fun _ => 0)))), (q4, .inl (c3, (7, .inl (fun _ => 0))))] H := hP
  have hD : va_D A [(h0, .inr (0, [.int 0, .int 0, .int 0, .int 0, .int 0, .int 0, .ref q1, .ref q2, .ref q3, .ref q4, .null, .null, .null, .null])), (q1, .inl (c0, (7, .inl (fun _ => 0)))), (q2, .inl (c1, (7, .inl (fun _ => 0)))), (q3, .inl (c2, (7, .inl (fun _ => 0)))), (q4, .inl (c3, (7, .inl (fun _ => 0))))] := hD
  refine lv_aload_n hx hb dX0_init_36 rfl (lv_at hl 0 rfl) ?_
  refine lv_bipush (v := 7) hx hb dX0_init_37 (by decide) ?_
  refine va_newa (atype := .int) (ty := .int) (a0 := (7, .inl (fun _ => 0))) (N' := 7) hx hb (hw9 _ mw_62) rfl hK hP hD hS hA (fun cA => rfl) (by decide) (by decide) (by decide) (Nat.le_of_ble_eq_true rfl) (Nat.le_of_ble_eq_true rfl) dX0_init_39 (fun q5 c4 H hK hP hD hS => ?_)
  have hK : va_K D vwCl [(c0, .int), (c1, .int), (c2, .int), (c3, .boolean), (c4, .int)] s := hK
  have hP : va_P D vwCl [(h0, .inr (0, [.int 0, .int 0, .int 0, .int 0, .int 0, .int 0, .ref q1, .ref q2, .ref q3, .ref q4, .null, .null, .null, .null])), (q1, .inl (c0, (7, .inl (fun _ => 0)))), (q2, .inl (c1, (7, .inl (fun _ => 0)))), (q3, .inl (c2, (7, .inl (fun _ => 0)))), (q4, .inl (c3, (7, .inl (fun _ => 0)))), (q5, .inl (c4, (7, .inl (fun _ => 0))))] H := hP
  have hD : va_D A [(h0, .inr (0, [.int 0, .int 0, .int 0, .int 0, .int 0, .int 0, .ref q1, .ref q2, .ref q3, .ref q4, .null, .null, .null, .null])), (q1, .inl (c0, (7, .inl (fun _ => 0)))), (q2, .inl (c1, (7, .inl (fun _ => 0)))), (q3, .inl (c2, (7, .inl (fun _ => 0)))), (q4, .inl (c3, (7, .inl (fun _ => 0)))), (q5, .inl (c4, (7, .inl (fun _ => 0))))] := hD
  refine va_putF (D := D) (ci := 0) (v := .ref q5) (ty := .array .int) (C := RX0) (T := TX0) (N := 14) hx hb hw9 uX0 tyX0 tyX0_ok nmX0 hown hK hP hD hS 0 rfl rfl 10 (by decide) (hw9 _ mw_29) (fun _ h9 => h9) rfl hin rfl (by decide +kernel) rfl rfl (Nat.le_of_ble_eq_true rfl) dX0_init_41 (fun H locs hP hD hS => ?_)
  have hP : va_P D vwCl [(h0, .inr (0, [.int 0, .int 0, .int 0, .int 0, .int 0, .int 0, .ref q1, .ref q2, .ref q3, .ref q4, .ref q5, .null, .null, .null])), (q1, .inl (c0, (7, .inl (fun _ => 0)))), (q2, .inl (c1, (7, .inl (fun _ => 0)))), (q3, .inl (c2, (7, .inl (fun _ => 0)))), (q4, .inl (c3, (7, .inl (fun _ => 0)))), (q5, .inl (c4, (7, .inl (fun _ => 0))))] H := hP
  have hD : va_D A [(h0, .inr (0, [.int 0, .int 0, .int 0, .int 0, .int 0, .int 0, .ref q1, .ref q2, .ref q3, .ref q4, .ref q5, .null, .null, .null])), (q1, .inl (c0, (7, .inl (fun _ => 0)))), (q2, .inl (c1, (7, .inl (fun _ => 0)))), (q3, .inl (c2, (7, .inl (fun _ => 0)))), (q4, .inl (c3, (7, .inl (fun _ => 0)))), (q5, .inl (c4, (7, .inl (fun _ => 0))))] := hD
  refine lv_aload_n hx hb dX0_init_44 rfl (lv_at hl 0 rfl) ?_
  refine lv_bipush (v := 7) hx hb dX0_init_45 (by decide) ?_
  refine va_newa (atype := .int) (ty := .int) (a0 := (7, .inl (fun _ => 0))) (N' := 7) hx hb (hw9 _ mw_62) rfl hK hP hD hS hA (fun cA => rfl) (by decide) (by decide) (by decide) (Nat.le_of_ble_eq_true rfl) (Nat.le_of_ble_eq_true rfl) dX0_init_47 (fun q6 c5 H hK hP hD hS => ?_)
  have hK : va_K D vwCl [(c0, .int), (c1, .int), (c2, .int), (c3, .boolean), (c4, .int), (c5, .int)] s := hK
  have hP : va_P D vwCl [(h0, .inr (0, [.int 0, .int 0, .int 0, .int 0, .int 0, .int 0, .ref q1, .ref q2, .ref q3, .ref q4, .ref q5, .null, .null, .null])), (q1, .inl (c0, (7, .inl (fun _ => 0)))), (q2, .inl (c1, (7, .inl (fun _ => 0)))), (q3, .inl (c2, (7, .inl (fun _ => 0)))), (q4, .inl (c3, (7, .inl (fun _ => 0)))), (q5, .inl (c4, (7, .inl (fun _ => 0)))), (q6, .inl (c5, (7, .inl (fun _ => 0))))] H := hP
  have hD : va_D A [(h0, .inr (0, [.int 0, .int 0, .int 0, .int 0, .int 0, .int 0, .ref q1, .ref q2, .ref q3, .ref q4, .ref q5, .null, .null, .null])), (q1, .inl (c0, (7, .inl (fun _ => 0)))), (q2, .inl (c1, (7, .inl (fun _ => 0)))), (q3, .inl (c2, (7, .inl (fun _ => 0)))), (q4, .inl (c3, (7, .inl (fun _ => 0)))), (q5, .inl (c4, (7, .inl (fun _ => 0)))), (q6, .inl (c5, (7, .inl (fun _ => 0))))] := hD
  refine va_putF (D := D) (ci := 0) (v := .ref q6) (ty := .array .int) (C := RX0) (T := TX0) (N := 14) hx hb hw9 uX0 tyX0 tyX0_ok nmX0 hown hK hP hD hS 0 rfl rfl 11 (by decide) (hw9 _ mw_30) (fun _ h9 => h9) rfl hin rfl (by decide +kernel) rfl rfl (Nat.le_of_ble_eq_true rfl) dX0_init_49 (fun H locs hP hD hS => ?_)
  have hP : va_P D vwCl [(h0, .inr (0, [.int 0, .int 0, .int 0, .int 0, .int 0, .int 0, .ref q1, .ref q2, .ref q3, .ref q4, .ref q5, .ref q6, .null, .null])), (q1, .inl (c0, (7, .inl (fun _ => 0)))), (q2, .inl (c1, (7, .inl (fun _ => 0)))), (q3, .inl (c2, (7, .inl (fun _ => 0)))), (q4, .inl (c3, (7, .inl (fun _ => 0)))), (q5, .inl (c4, (7, .inl (fun _ => 0)))), (q6, .inl (c5, (7, .inl (fun _ => 0))))] H := hP
  have hD : va_D A [(h0, .inr (0, [.int 0, .int 0, .int 0, .int 0, .int 0, .int 0, .ref q1, .ref q2, .ref q3, .ref q4, .ref q5, .ref q6, .null, .null])), (q1, .inl (c0, (7, .inl (fun _ => 0)))), (q2, .inl (c1, (7, .inl (fun _ => 0)))), (q3, .inl (c2, (7, .inl (fun _ => 0)))), (q4, .inl (c3, (7, .inl (fun _ => 0)))), (q5, .inl (c4, (7, .inl (fun _ => 0)))), (q6, .inl (c5, (7, .inl (fun _ => 0))))] := hD
  refine lv_aload_n hx hb dX0_init_52 rfl (lv_at hl 0 rfl) ?_
  refine lv_bipush (v := 7) hx hb dX0_init_53 (by decide) ?_
  refine va_newa (atype := .int) (ty := .int) (a0 := (7, .inl (fun _ => 0))) (N' := 7) hx hb (hw9 _ mw_62) rfl hK hP hD hS hA (fun cA => rfl) (by decide) (by decide) (by decide) (Nat.le_of_ble_eq_true rfl) (Nat.le_of_ble_eq_true rfl) dX0_init_55 (fun q7 c6 H hK hP hD hS => ?_)
  have hK : va_K D vwCl [(c0, .int), (c1, .int), (c2, .int), (c3, .boolean), (c4, .int), (c5, .int), (c6, .int)] s := hK
  have hP : va_P D vwCl [(h0, .inr (0, [.int 0, .int 0, .int 0, .int 0, .int 0, .int 0, .ref q1, .ref q2, .ref q3, .ref q4, .ref q5, .ref q6, .null, .null])), (q1, .inl (c0, (7, .inl (fun _ => 0)))), (q2, .inl (c1, (7, .inl (fun _ => 0)))), (q3, .inl (c2, (7, .inl (fun _ => 0)))), (q4, .inl (c3, (7, .inl (fun _ => 0)))), (q5, .inl (c4, (7, .inl (fun _ => 0)))), (q6, .inl (c5, (7, .inl (fun _ => 0)))), (q7, .inl (c6, (7, .inl (fun _ => 0))))] H := hP
  have hD : va_D A [(h0, .inr (0, [.int 0, .int 0, .int 0, .int 0, .int 0, .int 0, .ref q1, .ref q2, .ref q3, .ref q4, .ref q5, .ref q6, .null, .null])), (q1, .inl (c0, (7, .inl (fun _ => 0)))), (q2, .inl (c1, (7, .inl (fun _ => 0)))), (q3, .inl (c2, (7, .inl (fun _ => 0)))), (q4, .inl (c3, (7, .inl (fun _ => 0)))), (q5, .inl (c4, (7, .inl (fun _ => 0)))), (q6, .inl (c5, (7, .inl (fun _ => 0)))), (q7, .inl (c6, (7, .inl (fun _ => 0))))] := hD
  refine va_putF (D := D) (ci := 0) (v := .ref q7) (ty := .array .int) (C := RX0) (T := TX0) (N := 14) hx hb hw9 uX0 tyX0 tyX0_ok nmX0 hown hK hP hD hS 0 rfl rfl 12 (by decide) (hw9 _ mw_31) (fun _ h9 => h9) rfl hin rfl (by decide +kernel) rfl rfl (Nat.le_of_ble_eq_true rfl) dX0_init_57 (fun H locs hP hD hS => ?_)
  have hP : va_P D vwCl [(h0, .inr (0, [.int 0, .int 0, .int 0, .int 0, .int 0, .int 0, .ref q1, .ref q2, .ref q3, .ref q4, .ref q5, .ref q6, .ref q7, .null])), (q1, .inl (c0, (7, .inl (fun _ => 0)))), (q2, .inl (c1, (7, .inl (fun _ => 0)))), (q3, .inl (c2, (7, .inl (fun _ => 0)))), (q4, .inl (c3, (7, .inl (fun _ => 0)))), (q5, .inl (c4, (7, .inl (fun _ => 0)))), (q6, .inl (c5, (7, .inl (fun _ => 0)))), (q7, .inl (c6, (7, .inl (fun _ => 0))))] H := hP
  have hD : va_D A [(h0, .inr (0, [.int 0, .int 0, .int 0, .int 0, .int 0, .int 0, .ref q1, .ref q2, .ref q3, .ref q4, .ref q5, .ref q6, .ref q7, .null])), (q1, .inl (c0, (7, .inl (fun _ => 0)))), (q2, .inl (c1, (7, .inl (fun _ => 0)))), (q3, .inl (c2, (7, .inl (fun _ => 0)))), (q4, .inl (c3, (7, .inl (fun _ => 0)))), (q5, .inl (c4, (7, .inl (fun _ => 0)))), (q6, .inl (c5, (7, .inl (fun _ => 0)))), (q7, .inl (c6, (7, .inl (fun _ => 0))))] := hD
  refine lv_aload_n hx hb dX0_init_60 rfl (lv_at hl 0 rfl) ?_
  refine lv_bipush (v := 7) hx hb dX0_init_61 (by decide) ?_
  refine va_newa (atype := .boolean) (ty := .boolean) (a0 := (7, .inl (fun _ => 0))) (N' := 7) hx hb (hw9 _ mw_63) rfl hK hP hD hS hA (fun cA => rfl) (by decide) (by decide) (by decide) (Nat.le_of_ble_eq_true rfl) (Nat.le_of_ble_eq_true rfl) dX0_init_63 (fun q8 c7 H hK hP hD hS => ?_)
  have hK : va_K D vwCl [(c0, .int), (c1, .int), (c2, .int), (c3, .boolean), (c4, .int), (c5, .int), (c6, .int), (c7, .boolean)] s := hK
  have hP : va_P D vwCl [(h0, .inr (0, [.int 0, .int 0, .int 0, .int 0, .int 0, .int 0, .ref q1, .ref q2, .ref q3, .ref q4, .ref q5, .ref q6, .ref q7, .null])), (q1, .inl (c0, (7, .inl (fun _ => 0)))), (q2, .inl (c1, (7, .inl (fun _ => 0)))), (q3, .inl (c2, (7, .inl (fun _ => 0)))), (q4, .inl (c3, (7, .inl (fun _ => 0)))), (q5, .inl (c4, (7, .inl (fun _ => 0)))), (q6, .inl (c5, (7, .inl (fun _ => 0)))), (q7, .inl (c6, (7, .inl (fun _ => 0)))), (q8, .inl (c7, (7, .inl (fun _ => 0))))] H := hP
  have hD : va_D A [(h0, .inr (0, [.int 0, .int 0, .int 0, .int 0, .int 0, .int 0, .ref q1, .ref q2, .ref q3, .ref q4, .ref q5, .ref q6, .ref q7, .null])), (q1, .inl (c0, (7, .inl (fun _ => 0)))), (q2, .inl (c1, (7, .inl (fun _ => 0)))), (q3, .inl (c2, (7, .inl (fun _ => 0)))), (q4, .inl (c3, (7, .inl (fun _ => 0)))), (q5, .inl (c4, (7, .inl (fun _ => 0)))), (q6, .inl (c5, (7, .inl (fun _ => 0)))), (q7, .inl (c6, (7, .inl (fun _ => 0)))), (q8, .inl (c7, (7, .inl (fun _ => 0))))] := hD
  refine va_putF (D := D) (ci := 0) (v := .ref q8) (ty := .array .boolean) (C := RX0) (T := TX0) (N := 14) hx hb hw9 uX0 tyX0 tyX0_ok nmX0 hown hK hP hD hS 0 rfl rfl 13 (by decide) (hw9 _ mw_32) (fun _ h9 => h9) rfl hin rfl (by decide +kernel) rfl rfl (Nat.le_of_ble_eq_true rfl) dX0_init_65 (fun H locs hP hD hS => ?_)
  have hP : va_P D vwCl [(h0, .inr (0, [.int 0, .int 0, .int 0, .int 0, .int 0, .int 0, .ref q1, .ref q2, .ref q3, .ref q4, .ref q5, .ref q6, .ref q7, .ref q8])), (q1, .inl (c0, (7, .inl (fun _ => 0)))), (q2, .inl (c1, (7, .inl (fun _ => 0)))), (q3, .inl (c2, (7, .inl (fun _ => 0)))), (q4, .inl (c3, (7, .inl (fun _ => 0)))), (q5, .inl (c4, (7, .inl (fun _ => 0)))), (q6, .inl (c5, (7, .inl (fun _ => 0)))), (q7, .inl (c6, (7, .inl (fun _ => 0)))), (q8, .inl (c7, (7, .inl (fun _ => 0))))] H := hP
  have hD : va_D A [(h0, .inr (0, [.int 0, .int 0, .int 0, .int 0, .int 0, .int 0, .ref q1, .ref q2, .ref q3, .ref q4, .ref q5, .ref q6, .ref q7, .ref q8])), (q1, .inl (c0, (7, .inl (fun _ => 0)))), (q2, .inl (c1, (7, .inl (fun _ => 0)))), (q3, .inl (c2, (7, .inl (fun _ => 0)))), (q4, .inl (c3, (7, .inl (fun _ => 0)))), (q5, .inl (c4, (7, .inl (fun _ => 0)))), (q6, .inl (c5, (7, .inl (fun _ => 0)))), (q7, .inl (c6, (7, .inl (fun _ => 0)))), (q8, .inl (c7, (7, .inl (fun _ => 0))))] := hD
  refine lv_iload_n hx hb dX0_init_68 rfl (lv_at hl 1 rfl) ?_
  refine lv_bipush (v := 7) hx hb dX0_init_69 (by decide) ?_
  refine lv_iand hx hb dX0_init_71 ?_
  refine lv_istore_n (lv' := [(3, .int (p0 &&& 7)), (0, .ref h0), (1, .int p0), (2, .int p1)]) hx hb dX0_init_72 rfl hl (by decide) rfl (fun ls hl => ?_)
  refine lv_aload_n hx hb dX0_init_73 rfl (lv_at hl 1 rfl) ?_
  refine lv_iload_n hx hb dX0_init_74 rfl (lv_at hl 0 rfl) ?_
  refine lv_bipush (v := 7) hx hb dX0_init_75 (by decide) ?_
  refine lv_icmp_ne (tgt := 85) hx hb dX0_init_77 (by decide) (fun c_1 => ?_) (fun c_1 => ?_)
  · -- 77 -> 85
    refine lv_iload_n hx hb dX0_init_85 rfl (lv_at hl 0 rfl) ?_
    refine va_putF (D := D) (ci := 0) (v := .int (p0 &&& 7)) (ty := .int) (C := RX0) (T := TX0) (N := 14) hx hb hw9 uX0 tyX0 tyX0_ok nmX0 hown hK hP hD hS 0 rfl rfl 0 (by decide) (hw9 _ mw_19) (fun _ h9 => h9) rfl hin rfl (by decide +kernel) rfl rfl (Nat.le_of_ble_eq_true rfl) dX0_init_86 (fun H locs hP hD hS => ?_)
    have hP : va_P D vwCl [(h0, .inr (0, [.int (p0 &&& 7), .int 0, .int 0, .int 0, .int 0, .int 0, .ref q1, .ref q2, .ref q3, .ref q4, .ref q5, .ref q6, .ref q7, .ref q8])), (q1, .inl (c0, (7, .inl (fun _ => 0)))), (q2, .inl (c1, (7, .inl (fun _ => 0)))), (q3, .inl (c2, (7, .inl (fun _ => 0)))), (q4, .inl (c3, (7, .inl (fun _ => 0)))), (q5, .inl (c4, (7, .inl (fun _ => 0)))), (q6, .inl (c5, (7, .inl (fun _ => 0)))), (q7, .inl (c6, (7, .inl (fun _ => 0)))), (q8, .inl (c7, (7, .inl (fun _ => 0))))] H := hP
    have hD : va_D A [(h0, .inr (0, [.int (p0 &&& 7), .int 0, .int 0, .int 0, .int 0, .int 0, .ref q1, .ref q2, .ref q3, .ref q4, .ref q5, .ref q6, .ref q7, .ref q8])), (q1, .inl (c0, (7, .inl (fun _ => 0)))), (q2, .inl (c1, (7, .inl (fun _ => 0)))), (q3, .inl (c2, (7, .inl (fun _ => 0)))), (q4, .inl (c3, (7, .inl (fun _ => 0)))), (q5, .inl (c4, (7, .inl (fun _ => 0)))), (q6, .inl (c5, (7, .inl (fun _ => 0)))), (q7, .inl (c6, (7, .inl (fun _ => 0)))), (q8, .inl (c7, (7, .inl (fun _ => 0))))] := hD
    refine lv_iload_n hx hb dX0_init_89 rfl (lv_at hl 3 rfl) ?_
    refine lv_bipush (v := 127) hx hb dX0_init_90 (by decide) ?_
    refine lv_iand hx hb dX0_init_92 ?_
    refine lv_istore (lv' := [(4, .int (p1 &&& 127)), (3, .int (p0 &&& 7)), (0, .ref h0), (1, .int p0), (2, .int p1)]) hx hb dX0_init_93 hl (by decide) rfl (fun ls hl => ?_)
    refine lv_aload_n hx hb dX0_init_95 rfl (lv_at hl 2 rfl) ?_
    refine lv_iload hx hb dX0_init_96 (lv_at hl 0 rfl) ?_
    refine lv_if_ne (tgt := 105) hx hb dX0_init_98 (by decide) (fun c_2 => ?_) (fun c_2 => ?_)
    · -- 98 -> 105
      refine lv_iload hx hb dX0_init_105 (lv_at hl 0 rfl) ?_
      refine va_put (D := D) (ci := 0) (v := .int (p1 &&& 127)) (ty := .int) (C := RX0) (T := TX0) (N := 14) hx hb hw9 uX0 tyX0 tyX0_ok nmX0 hown hK hP hD hS 0 rfl rfl 1 (by decide) (hw9 _ mw_20) (fun _ h9 => h9) rfl (by decide +kernel) rfl rfl (Nat.le_of_ble_eq_true rfl) dX0_init_107 (fun H locs hP hD hS => ?_)
      have hP : va_P D vwCl [(h0, .inr (0, [.int (p0 &&& 7), .int (p1 &&& 127), .int 0, .int 0, .int 0, .int 0, .ref q1, .ref q2, .ref q3, .ref q4, .ref q5, .ref q6, .ref q7, .ref q8])), (q1, .inl (c0, (7, .inl (fun _ => 0)))), (q2, .inl (c1, (7, .inl (fun _ => 0)))), (q3, .inl (c2, (7, .inl (fun _ => 0)))), (q4, .inl (c3, (7, .inl (fun _ => 0)))), (q5, .inl (c4, (7, .inl (fun _ => 0)))), (q6, .inl (c5, (7, .inl (fun _ => 0)))), (q7, .inl (c6, (7, .inl (fun _ => 0)))), (q8, .inl (c7, (7, .inl (fun _ => 0))))] H := hP
      have hD : va_D A [(h0, .inr (0, [.int (p0 &&& 7), .int (p1 &&& 127), .int 0, .int 0, .int 0, .int 0, .ref q1, .ref q2, .ref q3, .ref q4, .ref q5, .ref q6, .ref q7, .ref q8])), (q1, .inl (c0, (7, .inl (fun _ => 0)))), (q2, .inl (c1, (7, .inl (fun _ => 0)))), (q3, .inl (c2, (7, .inl (fun _ => 0)))), (q4, .inl (c3, (7, .inl (fun _ => 0)))), (q5, .inl (c4, (7, .inl (fun _ => 0)))), (q6, .inl (c5, (7, .inl (fun _ => 0)))), (q7, .inl (c6, (7, .inl (fun _ => 0)))), (q8, .inl (c7, (7, .inl (fun _ => 0))))] := hD
      obtain rfl : c0 = c1 := kz_caI hK (i := 0) (j := 1) rfl rfl
      obtain rfl : c0 = c2 := kz_caI hK (i := 0) (j := 2) rfl rfl
      obtain rfl : c0 = c4 := kz_caI hK (i := 0) (j := 4) rfl rfl
      obtain rfl : c0 = c5 := kz_caI hK (i := 0) (j := 5) rfl rfl
      obtain rfl : c0 = c6 := kz_caI hK (i := 0) (j := 6) rfl rfl
      obtain rfl : c3 = c7 := kz_caZ hK (i := 3) (j := 7) rfl rfl
      have e1 : sq_it p0 = (p0 &&& 7) := if_neg c_1
      have e2 : sq_od p1 = (p1 &&& 127) := if_neg c_2
      refine W.widen (k := 8) (n := 56) (Nat.le_of_ble_eq_true rfl) (Nat.le_of_ble_eq_true rfl) ?_
      exact W.vret hx hb hr (fun t ht hW => ⟨⟨((fun k => match k with | 0 => h0 | 1 => q1 | 2 => q2 | 3 => q3 | 4 => q4 | 5 => q5 | 6 => q6 | 7 => q7 | _ => q8), c0, c3), rfl, rfl, by rw [ht, e1, e2]; exact hP, va_K.moved hW.alike (hK.sub [0, 3] rfl), by rw [e1, e2]; exact hD⟩, hS.F ht⟩) hS.2.2 dX0_init_110
    · -- 98 -> 101
      refine lv_iconst (v := 1) hx hb dX0_init_101 (by decide) ?_
      refine lv_goto (tgt := 107) hx hb dX0_init_102 (by decide) ?_
      refine va_put (D := D) (ci := 0) (v := .int 1) (ty := .int) (C := RX0) (T := TX0) (N := 14) hx hb hw9 uX0 tyX0 tyX0_ok nmX0 hown hK hP hD hS 0 rfl rfl 1 (by decide) (hw9 _ mw_20) (fun _ h9 => h9) rfl (by decide +kernel) rfl rfl (Nat.le_of_ble_eq_true rfl) dX0_init_107 (fun H locs hP hD hS => ?_)
      have hP : va_P D vwCl [(h0, .inr (0, [.int (p0 &&& 7), .int 1, .int 0, .int 0, .int 0, .int 0, .ref q1, .ref q2, .ref q3, .ref q4, .ref q5, .ref q6, .ref q7, .ref q8])), (q1, .inl (c0, (7, .inl (fun _ => 0)))), (q2, .inl (c1, (7, .inl (fun _ => 0)))), (q3, .inl (c2, (7, .inl (fun _ => 0)))), (q4, .inl (c3, (7, .inl (fun _ => 0)))), (q5, .inl (c4, (7, .inl (fun _ => 0)))), (q6, .inl (c5, (7, .inl (fun _ => 0)))), (q7, .inl (c6, (7, .inl (fun _ => 0)))), (q8, .inl (c7, (7, .inl (fun _ => 0))))] H := hP
      have hD : va_D A [(h0, .inr (0, [.int (p0 &&& 7), .int 1, .int 0, .int 0, .int 0, .int 0, .ref q1, .ref q2, .ref q3, .ref q4, .ref q5, .ref q6, .ref q7, .ref q8])), (q1, .inl (c0, (7, .inl (fun _ => 0)))), (q2, .inl (c1, (7, .inl (fun _ => 0)))), (q3, .inl (c2, (7, .inl (fun _ => 0)))), (q4, .inl (c3, (7, .inl (fun _ => 0)))), (q5, .inl (c4, (7, .inl (fun _ => 0)))), (q6, .inl (c5, (7, .inl (fun _ => 0)))), (q7, .inl (c6, (7, .inl (fun _ => 0)))), (q8, .inl (c7, (7, .inl (fun _ => 0))))] := hD
      obtain rfl : c0 = c1 := kz_caI hK (i := 0) (j := 1) rfl rfl
      obtain rfl : c0 = c2 := kz_caI hK (i := 0) (j := 2) rfl rfl
      obtain rfl : c0 = c4 := kz_caI hK (i := 0) (j := 4) rfl rfl
      obtain rfl : c0 = c5 := kz_caI hK (i := 0) (j := 5) rfl rfl
      obtain rfl : c0 = c6 := kz_caI hK (i := 0) (j := 6) rfl rfl
      obtain rfl : c3 = c7 := kz_caZ hK (i := 3) (j := 7) rfl rfl
      have e1 : sq_it p0 = (p0 &&& 7) := if_neg c_1
      have e2 : sq_od p1 = 1 := if_pos c_2
      refine W.widen (k := 8) (n := 56) (Nat.le_of_ble_eq_true rfl) (Nat.le_of_ble_eq_true rfl) ?_
      exact W.vret hx hb hr (fun t ht hW => ⟨⟨((fun k => match k with | 0 => h0 | 1 => q1 | 2 => q2 | 3 => q3 | 4 => q4 | 5 => q5 | 6 => q6 | 7 => q7 | _ => q8), c0, c3), rfl, rfl, by rw [ht, e1, e2]; exact hP, va_K.moved hW.alike (hK.sub [0, 3] rfl), by rw [e1, e2]; exact hD⟩, hS.F ht⟩) hS.2.2 dX0_init_110
  · -- 77 -> 80
    refine lv_bipush (v := 6) hx hb dX0_init_80 (by decide) ?_
    refine lv_goto (tgt := 86) hx hb dX0_init_82 (by decide) ?_
    refine va_putF (D := D) (ci := 0) (v := .int 6) (ty := .int) (C := RX0) (T := TX0) (N := 14) hx hb hw9 uX0 tyX0 tyX0_ok nmX0 hown hK hP hD hS 0 rfl rfl 0 (by decide) (hw9 _ mw_19) (fun _ h9 => h9) rfl hin rfl (by decide +kernel) rfl rfl (Nat.le_of_ble_eq_true rfl) dX0_init_86 (fun H locs hP hD hS => ?_)
    have hP : va_P D vwCl [(h0, .inr (0, [.int 6, .int 0, .int 0, .int 0, .int 0, .int 0, .ref q1, .ref q2, .ref q3, .ref q4, .ref q5, .ref q6, .ref q7, .ref q8])), (q1, .inl (c0, (7, .inl (fun _ => 0)))), (q2, .inl (c1, (7, .inl (fun _ => 0)))), (q3, .inl (c2, (7, .inl (fun _ => 0)))), (q4, .inl (c3, (7, .inl (fun _ => 0)))), (q5, .inl (c4, (7, .inl (fun _ => 0)))), (q6, .inl (c5, (7, .inl (fun _ => 0)))), (q7, .inl (c6, (7, .inl (fun _ => 0)))), (q8, .inl (c7, (7, .inl (fun _ => 0))))] H := hP
    have hD : va_D A [(h0, .inr (0, [.int 6, .int 0, .int 0, .int 0, .int 0, .int 0, .ref q1, .ref q2, .ref q3, .ref q4, .ref q5, .ref q6, .ref q7, .ref q8])), (q1, .inl (c0, (7, .inl (fun _ => 0)))), (q2, .inl (c1, (7, .inl (fun _ => 0)))), (q3, .inl (c2, (7, .inl (fun _ => 0)))), (q4, .inl (c3, (7, .inl (fun _ => 0)))), (q5, .inl (c4, (7, .inl (fun _ => 0)))), (q6, .inl (c5, (7, .inl (fun _ => 0)))), (q7, .inl (c6, (7, .inl (fun _ => 0)))), (q8, .inl (c7, (7, .inl (fun _ => 0))))] := hD
    refine lv_iload_n hx hb dX0_init_89 rfl (lv_at hl 3 rfl) ?_
    refine lv_bipush (v := 127) hx hb dX0_init_90 (by decide) ?_
    refine lv_iand hx hb dX0_init_92 ?_
    refine lv_istore (lv' := [(4, .int (p1 &&& 127)), (3, .int (p0 &&& 7)), (0, .ref h0), (1, .int p0), (2, .int p1)]) hx hb dX0_init_93 hl (by decide) rfl (fun ls hl => ?_)
    refine lv_aload_n hx hb dX0_init_95 rfl (lv_at hl 2 rfl) ?_
    refine lv_iload hx hb dX0_init_96 (lv_at hl 0 rfl) ?_
    refine lv_if_ne (tgt := 105) hx hb dX0_init_98 (by decide) (fun c_3 => ?_) (fun c_3 => ?_)
    · -- 98 -> 105
      refine lv_iload hx hb dX0_init_105 (lv_at hl 0 rfl) ?_
      refine va_put (D := D) (ci := 0) (v := .int (p1 &&& 127)) (ty := .int) (C := RX0) (T := TX0) (N := 14) hx hb hw9 uX0 tyX0 tyX0_ok nmX0 hown hK hP hD hS 0 rfl rfl 1 (by decide) (hw9 _ mw_20) (fun _ h9 => h9) rfl (by decide +kernel) rfl rfl (Nat.le_of_ble_eq_true rfl) dX0_init_107 (fun H locs hP hD hS => ?_)
      have hP : va_P D vwCl [(h0, .inr (0, [.int 6, .int (p1 &&& 127), .int 0, .int 0, .int 0, .int 0, .ref q1, .ref q2, .ref q3, .ref q4, .ref q5, .ref q6, .ref q7, .ref q8])), (q1, .inl (c0, (7, .inl (fun _ => 0)))), (q2, .inl (c1, (7, .inl (fun _ => 0)))), (q3, .inl (c2, (7, .inl (fun _ => 0)))), (q4, .inl (c3, (7, .inl (fun _ => 0)))), (q5, .inl (c4, (7, .inl (fun _ => 0)))), (q6, .inl (c5, (7, .inl (fun _ => 0)))), (q7, .inl (c6, (7, .inl (fun _ => 0)))), (q8, .inl (c7, (7, .inl (fun _ => 0))))] H := hP
      have hD : va_D A [(h0, .inr (0, [.int 6, .int (p1 &&& 127), .int 0, .int 0, .int 0, .int 0, .ref q1, .ref q2, .ref q3, .ref q4, .ref q5, .ref q6, .ref q7, .ref q8])), (q1, .inl (c0, (7, .inl (fun _ => 0)))), (q2, .inl (c1, (7, .inl (fun _ => 0)))), (q3, .inl (c2, (7, .inl (fun _ => 0)))), (q4, .inl (c3, (7, .inl (fun _ => 0)))), (q5, .inl (c4, (7, .inl (fun _ => 0)))), (q6, .inl (c5, (7, .inl (fun _ => 0)))), (q7, .inl (c6, (7, .inl (fun _ => 0)))), (q8, .inl (c7, (7, .inl (fun _ => 0))))] := hD
      obtain rfl : c0 = c1 := kz_caI hK (i := 0) (j := 1) rfl rfl
      obtain rfl : c0 = c2 := kz_caI hK (i := 0) (j := 2) rfl rfl
      obtain rfl : c0 = c4 := kz_caI hK (i := 0) (j := 4) rfl rfl
      obtain rfl : c0 = c5 := kz_caI hK (i := 0) (j := 5) rfl rfl
      obtain rfl : c0 = c6 := kz_caI hK (i := 0) (j := 6) rfl rfl
      obtain rfl : c3 = c7 := kz_caZ hK (i := 3) (j := 7) rfl rfl
      have e1 : sq_it p0 = 6 := if_pos c_1
      have e2 : sq_od p1 = (p1 &&& 127) := if_neg c_3
      refine W.widen (k := 8) (n := 56) (Nat.le_of_ble_eq_true rfl) (Nat.le_of_ble_eq_true rfl) ?_
      exact W.vret hx hb hr (fun t ht hW => ⟨⟨((fun k => match k with | 0 => h0 | 1 => q1 | 2 => q2 | 3 => q3 | 4 => q4 | 5 => q5 | 6 => q6 | 7 => q7 | _ => q8), c0, c3), rfl, rfl, by rw [ht, e1, e2]; exact hP, va_K.moved hW.alike (hK.sub [0, 3] rfl), by rw [e1, e2]; exact hD⟩, hS.F ht⟩) hS.2.2 dX0_init_110
    · -- 98 -> 101
      refine lv_iconst (v := 1) hx hb dX0_init_101 (by decide) ?_
      refine lv_goto (tgt := 107) hx hb dX0_init_102 (by decide) ?_
      refine va_put (D := D) (ci := 0) (v := .int 1) (ty := .int) (C := RX0) (T := TX0) (N := 14) hx hb hw9 uX0 tyX0 tyX0_ok nmX0 hown hK hP hD hS 0 rfl rfl 1 (by decide) (hw9 _ mw_20) (fun _ h9 => h9) rfl (by decide +kernel) rfl rfl (Nat.le_of_ble_eq_true rfl) dX0_init_107 (fun H locs hP hD hS => ?_)
      have hP : va_P D vwCl [(h0, .inr (0, [.int 6, .int 1, .int 0, .int 0, .int 0, .int 0, .ref q1, .ref q2, .ref q3, .ref q4, .ref q5, .ref q6, .ref q7, .ref q8])), (q1, .inl (c0, (7, .inl (fun _ => 0)))), (q2, .inl (c1, (7, .inl (fun _ => 0)))), (q3, .inl (c2, (7, .inl (fun _ => 0)))), (q4, .inl (c3, (7, .inl (fun _ => 0)))), (q5, .inl (c4, (7, .inl (fun _ => 0)))), (q6, .inl (c5, (7, .inl (fun _ => 0)))), (q7, .inl (c6, (7, .inl (fun _ => 0)))), (q8, .inl (c7, (7, .inl (fun _ => 0))))] H := hP
      have hD : va_D A [(h0, .inr (0, [.int 6, .int 1, .int 0, .int 0, .int 0, .int 0, .ref q1, .ref q2, .ref q3, .ref q4, .ref q5, .ref q6, .ref q7, .ref q8])), (q1, .inl (c0, (7, .inl (fun _ => 0)))), (q2, .inl (c1, (7, .inl (fun _ => 0)))), (q3, .inl (c2, (7, .inl (fun _ => 0)))), (q4, .inl (c3, (7, .inl (fun _ => 0)))), (q5, .inl (c4, (7, .inl (fun _ => 0)))), (q6, .inl (c5, (7, .inl (fun _ => 0)))), (q7, .inl (c6, (7, .inl (fun _ => 0)))), (q8, .inl (c7, (7, .inl (fun _ => 0))))] := hD
      obtain rfl : c0 = c1 := kz_caI hK (i := 0) (j := 1) rfl rfl
      obtain rfl : c0 = c2 := kz_caI hK (i := 0) (j := 2) rfl rfl
      obtain rfl : c0 = c4 := kz_caI hK (i := 0) (j := 4) rfl rfl
      obtain rfl : c0 = c5 := kz_caI hK (i := 0) (j := 5) rfl rfl
      obtain rfl : c0 = c6 := kz_caI hK (i := 0) (j := 6) rfl rfl
      obtain rfl : c3 = c7 := kz_caZ hK (i := 3) (j := 7) rfl rfl
      have e1 : sq_it p0 = 6 := if_pos c_1
      have e2 : sq_od p1 = 1 := if_pos c_3
      refine W.widen (k := 8) (n := 56) (Nat.le_of_ble_eq_true rfl) (Nat.le_of_ble_eq_true rfl) ?_
      exact W.vret hx hb hr (fun t ht hW => ⟨⟨((fun k => match k with | 0 => h0 | 1 => q1 | 2 => q2 | 3 => q3 | 4 => q4 | 5 => q5 | 6 => q6 | 7 => q7 | _ => q8), c0, c3), rfl, rfl, by rw [ht, e1, e2]; exact hP, va_K.moved hW.alike (hK.sub [0, 3] rfl), by rw [e1, e2]; exact hD⟩, hS.F ht⟩) hS.2.2 dX0_init_110
set_option maxHeartbeats 4000000 in
set_option maxRecDepth 100000 in
theorem c_X1_init (l : Launch) (D : va_G) (h0 sz : Nat) (p0 p1 : Int32) : Met l yX1_init wsX1_init ({ frames := 1, cells := 1, slots := 56, locals := 20 } : Room) (va_Pc [.ref h0, .int p0, .int p1] (fun U => U.heap.size = sz ∧ va_P D vwCl [(h0, .inr (1, [.int 0, .int 0, .int 0, .int 0, .int 0, .int 0, .int 0, .null]))] U.heap ∧ va_K D vwCl [] U ∧ va_D (fun _ => True) [(h0, .inr (1, [.int 0, .int 0, .int 0, .int 0, .int 0, .int 0, .int 0, .null]))])) (va_Qv (fun u : (Nat → Nat) × ClassId => u.1 0 = h0) (fun u t => va_P D vwCl (wM u.1 u.2 0 (sq_it p0) (sq_od p1) 0 0 0 0 (fun _ => 0)) t.heap ∧ va_K D vwCl [(u.2, .int)] t ∧ va_D (va_A [(h0, .inr (1, [.int 0, .int 0, .int 0, .int 0, .int 0, .int 0, .int 0, .null]))] sz) (wM u.1 u.2 0 (sq_it p0) (sq_od p1) 0 0 0 0 (fun _ => 0))) (va_A [(h0, .inr (1, [.int 0, .int 0, .int 0, .int 0, .int 0, .int 0, .int 0, .null]))] sz)) 1 56 (va_A [(h0, .inr (1, [.int 0, .int 0, .int 0, .int 0, .int 0, .int 0, .int 0, .null]))] sz) := by
  refine Met.ofW (cc := cX1_init) (maxL := 3) (ret := none) (by decide) rfl ?_
  intro p e s m args below meth c s₁ B hml hv
  obtain ⟨rfl, hsz, hP, hK, hD0⟩ := hv
  have hx := B.exec
  have hb := B.bytes
  have hr := B.returns
  have hw9 : ∀ w ∈ kz_W9, w.before ([.ref h0, .int p0, .int p1] : List Value).toArray s = true := fun w h => atoms_spec (ws := wsX1_init) B.pre w (List.mem_cons_of_mem _ h)
  have hown : s.vm.findClass RX1 = some m.cls := findClass_of_methodNamed B.named
  have hlocks := B.notSynchronized
  have hin : meth.name = "<init>" := (name_of_methodNamed B.named B.method).1
  subst hsz
  have hD := hD0.self (sz := s.heap.size)
  generalize hAe : va_A [(h0, .inr (1, [.int 0, .int 0, .int 0, .int 0, .int 0, .int 0, .int 0, .null]))] s.heap.size = A at hD ⊢
  have hA : ∀ q : Nat, s.heap.size ≤ q → A q := fun q h => by rw [← hAe]; exact Or.inr h
  have hS : va_S A s.heap s.heap [] := va_S.rf
  have hl := lv_entry ([.ref h0, .int p0, .int p1]) (n := 3) (Nat.le_of_ble_eq_true rfl)
  rw [lg_entry_eq]
  generalize (lg_sl ([.ref h0, .int p0, .int p1]) ++ List.replicate (3 - (lg_sl ([.ref h0, .int p0, .int p1])).length) Slot.unset).toArray = ls at hl ⊢
  have hl : lv_has ls 3 [(0, .ref h0), (1, .int p0), (2, .int p1)] := hl
  refine lv_aload_n hx hb dX1_init_0 rfl (lv_at hl 0 rfl) ?_
  refine W.objInit hx hb hown (hw9 _ mw_359) (hw9 _ mw_17) (hw9 _ mw_18) rfl (by rw [hml]; exact hl.1) rfl dX1_init_1 (Nat.le_of_ble_eq_true rfl) (Nat.le_of_ble_eq_true rfl) ?_
  refine W.eq (g2 := F0 m 4 ls []) rfl ?_
  refine lv_aload_n hx hb dX1_init_4 rfl (lv_at hl 0 rfl) ?_
  refine lv_bipush (v := 56) hx hb dX1_init_5 (by decide) ?_
  refine va_newa (atype := .int) (ty := .int) (a0 := (56, .inl (fun _ => 0))) (N' := 56) hx hb (hw9 _ mw_62) rfl hK hP hD hS hA (fun cA => rfl) (by decide) (by decide) (by decide) (Nat.le_of_ble_eq_true rfl) (Nat.le_of_ble_eq_true rfl) dX1_init_7 (fun q1 c0 H hK hP hD hS => ?_)
  have hK : va_K D vwCl [(c0, .int)] s := hK
  have hP : va_P D vwCl [(h0, .inr (1, [.int 0, .int 0, .int 0, .int 0, .int 0, .int 0, .int 0, .null])), (q1, .inl (c0, (56, .inl (fun _ => 0))))] H := hP
  have hD : va_D A [(h0, .inr (1, [.int 0, .int 0, .int 0, .int 0, .int 0, .int 0, .int 0, .null])), (q1, .inl (c0, (56, .inl (fun _ => 0))))] := hD
  refine va_putF (D := D) (ci := 1) (v := .ref q1) (ty := .array .int) (C := RX1) (T := TX1) (N := 8) hx hb hw9 uX1 tyX1 tyX1_ok nmX1 hown hK hP hD hS 0 rfl rfl 7 (by decide) (hw9 _ mw_367) (fun _ h9 => h9) rfl hin rfl (by decide +kernel) rfl rfl (Nat.le_of_ble_eq_true rfl) dX1_init_9 (fun H locs hP hD hS => ?_)
  have hP : va_P D vwCl [(h0, .inr (1, [.int 0, .int 0, .int 0, .int 0, .int 0, .int 0, .int 0, .ref q1])), (q1, .inl (c0, (56, .inl (fun _ => 0))))] H := hP
  have hD : va_D A [(h0, .inr (1, [.int 0, .int 0, .int 0, .int 0, .int 0, .int 0, .int 0, .ref q1])), (q1, .inl (c0, (56, .inl (fun _ => 0))))] := hD
  refine lv_aload_n hx hb dX1_init_12 rfl (lv_at hl 0 rfl) ?_
  refine lv_iload_n hx hb dX1_init_13 rfl (lv_at hl 1 rfl) ?_
  refine lv_bipush (v := 7) hx hb dX1_init_14 (by decide) ?_
  refine lv_iand hx hb dX1_init_16 ?_
  refine lv_bipush (v := 7) hx hb dX1_init_17 (by decide) ?_
  refine lv_icmp_ne (tgt := 27) hx hb dX1_init_19 (by decide) (fun c_1 => ?_) (fun c_1 => ?_)
  · -- 19 -> 27
    refine lv_iload_n hx hb dX1_init_27 rfl (lv_at hl 1 rfl) ?_
    refine lv_bipush (v := 7) hx hb dX1_init_28 (by decide) ?_
    refine lv_iand hx hb dX1_init_30 ?_
    refine va_putF (D := D) (ci := 1) (v := .int (p0 &&& 7)) (ty := .int) (C := RX1) (T := TX1) (N := 8) hx hb hw9 uX1 tyX1 tyX1_ok nmX1 hown hK hP hD hS 0 rfl rfl 1 (by decide) (hw9 _ mw_361) (fun _ h9 => h9) rfl hin rfl (by decide +kernel) rfl rfl (Nat.le_of_ble_eq_true rfl) dX1_init_31 (fun H locs hP hD hS => ?_)
    have hP : va_P D vwCl [(h0, .inr (1, [.int 0, .int (p0 &&& 7), .int 0, .int 0, .int 0, .int 0, .int 0, .ref q1])), (q1, .inl (c0, (56, .inl (fun _ => 0))))] H := hP
    have hD : va_D A [(h0, .inr (1, [.int 0, .int (p0 &&& 7), .int 0, .int 0, .int 0, .int 0, .int 0, .ref q1])), (q1, .inl (c0, (56, .inl (fun _ => 0))))] := hD
    refine lv_aload_n hx hb dX1_init_34 rfl (lv_at hl 0 rfl) ?_
    refine lv_iload_n hx hb dX1_init_35 rfl (lv_at hl 2 rfl) ?_
    refine lv_bipush (v := 127) hx hb dX1_init_36 (by decide) ?_
    refine lv_iand hx hb dX1_init_38 ?_
    refine lv_if_ne (tgt := 46) hx hb dX1_init_39 (by decide) (fun c_2 => ?_) (fun c_2 => ?_)
    · -- 39 -> 46
      refine lv_iload_n hx hb dX1_init_46 rfl (lv_at hl 2 rfl) ?_
      refine lv_bipush (v := 127) hx hb dX1_init_47 (by decide) ?_
      refine lv_iand hx hb dX1_init_49 ?_
      refine va_put (D := D) (ci := 1) (v := .int (p1 &&& 127)) (ty := .int) (C := RX1) (T := TX1) (N := 8) hx hb hw9 uX1 tyX1 tyX1_ok nmX1 hown hK hP hD hS 0 rfl rfl 2 (by decide) (hw9 _ mw_362) (fun _ h9 => h9) rfl (by decide +kernel) rfl rfl (Nat.le_of_ble_eq_true rfl) dX1_init_50 (fun H locs hP hD hS => ?_)
      have hP : va_P D vwCl [(h0, .inr (1, [.int 0, .int (p0 &&& 7), .int (p1 &&& 127), .int 0, .int 0, .int 0, .int 0, .ref q1])), (q1, .inl (c0, (56, .inl (fun _ => 0))))] H := hP
      have hD : va_D A [(h0, .inr (1, [.int 0, .int (p0 &&& 7), .int (p1 &&& 127), .int 0, .int 0, .int 0, .int 0, .ref q1])), (q1, .inl (c0, (56, .inl (fun _ => 0))))] := hD
      have e1 : sq_it p0 = (p0 &&& 7) := if_neg c_1
      have e2 : sq_od p1 = (p1 &&& 127) := if_neg c_2
      refine W.widen (k := 1) (n := 56) (Nat.le_of_ble_eq_true rfl) (Nat.le_of_ble_eq_true rfl) ?_
      exact W.vret hx hb hr (fun t ht hW => ⟨⟨((fun k => match k with | 0 => h0 | _ => q1), c0), rfl, rfl, by rw [ht, e1, e2]; exact hP, va_K.moved hW.alike (hK.sub [0] rfl), by rw [e1, e2]; exact hD⟩, hS.F ht⟩) hS.2.2 dX1_init_53
    · -- 39 -> 42
      refine lv_iconst (v := 1) hx hb dX1_init_42 (by decide) ?_
      refine lv_goto (tgt := 50) hx hb dX1_init_43 (by decide) ?_
      refine va_put (D := D) (ci := 1) (v := .int 1) (ty := .int) (C := RX1) (T := TX1) (N := 8) hx hb hw9 uX1 tyX1 tyX1_ok nmX1 hown hK hP hD hS 0 rfl rfl 2 (by decide) (hw9 _ mw_362) (fun _ h9 => h9) rfl (by decide +kernel) rfl rfl (Nat.le_of_ble_eq_true rfl) dX1_init_50 (fun H locs hP hD hS => ?_)
      have hP : va_P D vwCl [(h0, .inr (1, [.int 0, .int (p0 &&& 7), .int 1, .int 0, .int 0, .int 0, .int 0, .ref q1])), (q1, .inl (c0, (56, .inl (fun _ => 0))))] H := hP
      have hD : va_D A [(h0, .inr (1, [.int 0, .int (p0 &&& 7), .int 1, .int 0, .int 0, .int 0, .int 0, .ref q1])), (q1, .inl (c0, (56, .inl (fun _ => 0))))] := hD
      have e1 : sq_it p0 = (p0 &&& 7) := if_neg c_1
      have e2 : sq_od p1 = 1 := if_pos c_2
      refine W.widen (k := 1) (n := 56) (Nat.le_of_ble_eq_true rfl) (Nat.le_of_ble_eq_true rfl) ?_
      exact W.vret hx hb hr (fun t ht hW => ⟨⟨((fun k => match k with | 0 => h0 | _ => q1), c0), rfl, rfl, by rw [ht, e1, e2]; exact hP, va_K.moved hW.alike (hK.sub [0] rfl), by rw [e1, e2]; exact hD⟩, hS.F ht⟩) hS.2.2 dX1_init_53
  · -- 19 -> 22
    refine lv_bipush (v := 6) hx hb dX1_init_22 (by decide) ?_
    refine lv_goto (tgt := 31) hx hb dX1_init_24 (by decide) ?_
    refine va_putF (D := D) (ci := 1) (v := .int 6) (ty := .int) (C := RX1) (T := TX1) (N := 8) hx hb hw9 uX1 tyX1 tyX1_ok nmX1 hown hK hP hD hS 0 rfl rfl 1 (by decide) (hw9 _ mw_361) (fun _ h9 => h9) rfl hin rfl (by decide +kernel) rfl rfl (Nat.le_of_ble_eq_true rfl) dX1_init_31 (fun H locs hP hD hS => ?_)
    have hP : va_P D vwCl [(h0, .inr (1, [.int 0, .int 6, .int 0, .int 0, .int 0, .int 0, .int 0, .ref q1])), (q1, .inl (c0, (56, .inl (fun _ => 0))))] H := hP
    have hD : va_D A [(h0, .inr (1, [.int 0, .int 6, .int 0, .int 0, .int 0, .int 0, .int 0, .ref q1])), (q1, .inl (c0, (56, .inl (fun _ => 0))))] := hD
    refine lv_aload_n hx hb dX1_init_34 rfl (lv_at hl 0 rfl) ?_
    refine lv_iload_n hx hb dX1_init_35 rfl (lv_at hl 2 rfl) ?_
    refine lv_bipush (v := 127) hx hb dX1_init_36 (by decide) ?_
    refine lv_iand hx hb dX1_init_38 ?_
    refine lv_if_ne (tgt := 46) hx hb dX1_init_39 (by decide) (fun c_3 => ?_) (fun c_3 => ?_)
    · -- 39 -> 46
      refine lv_iload_n hx hb dX1_init_46 rfl (lv_at hl 2 rfl) ?_
      refine lv_bipush (v := 127) hx hb dX1_init_47 (by decide) ?_
      refine lv_iand hx hb dX1_init_49 ?_
      refine va_put (D := D) (ci := 1) (v := .int (p1 &&& 127)) (ty := .int) (C := RX1) (T := TX1) (N := 8) hx hb hw9 uX1 tyX1 tyX1_ok nmX1 hown hK hP hD hS 0 rfl rfl 2 (by decide) (hw9 _ mw_362) (fun _ h9 => h9) rfl (by decide +kernel) rfl rfl (Nat.le_of_ble_eq_true rfl) dX1_init_50 (fun H locs hP hD hS => ?_)
      have hP : va_P D vwCl [(h0, .inr (1, [.int 0, .int 6, .int (p1 &&& 127), .int 0, .int 0, .int 0, .int 0, .ref q1])), (q1, .inl (c0, (56, .inl (fun _ => 0))))] H := hP
      have hD : va_D A [(h0, .inr (1, [.int 0, .int 6, .int (p1 &&& 127), .int 0, .int 0, .int 0, .int 0, .ref q1])), (q1, .inl (c0, (56, .inl (fun _ => 0))))] := hD
      have e1 : sq_it p0 = 6 := if_pos c_1
      have e2 : sq_od p1 = (p1 &&& 127) := if_neg c_3
      refine W.widen (k := 1) (n := 56) (Nat.le_of_ble_eq_true rfl) (Nat.le_of_ble_eq_true rfl) ?_
      exact W.vret hx hb hr (fun t ht hW => ⟨⟨((fun k => match k with | 0 => h0 | _ => q1), c0), rfl, rfl, by rw [ht, e1, e2]; exact hP, va_K.moved hW.alike (hK.sub [0] rfl), by rw [e1, e2]; exact hD⟩, hS.F ht⟩) hS.2.2 dX1_init_53
    · -- 39 -> 42
      refine lv_iconst (v := 1) hx hb dX1_init_42 (by decide) ?_
      refine lv_goto (tgt := 50) hx hb dX1_init_43 (by decide) ?_
      refine va_put (D := D) (ci := 1) (v := .int 1) (ty := .int) (C := RX1) (T := TX1) (N := 8) hx hb hw9 uX1 tyX1 tyX1_ok nmX1 hown hK hP hD hS 0 rfl rfl 2 (by decide) (hw9 _ mw_362) (fun _ h9 => h9) rfl (by decide +kernel) rfl rfl (Nat.le_of_ble_eq_true rfl) dX1_init_50 (fun H locs hP hD hS => ?_)
      have hP : va_P D vwCl [(h0, .inr (1, [.int 0, .int 6, .int 1, .int 0, .int 0, .int 0, .int 0, .ref q1])), (q1, .inl (c0, (56, .inl (fun _ => 0))))] H := hP
      have hD : va_D A [(h0, .inr (1, [.int 0, .int 6, .int 1, .int 0, .int 0, .int 0, .int 0, .ref q1])), (q1, .inl (c0, (56, .inl (fun _ => 0))))] := hD
      have e1 : sq_it p0 = 6 := if_pos c_1
      have e2 : sq_od p1 = 1 := if_pos c_3
      refine W.widen (k := 1) (n := 56) (Nat.le_of_ble_eq_true rfl) (Nat.le_of_ble_eq_true rfl) ?_
      exact W.vret hx hb hr (fun t ht hW => ⟨⟨((fun k => match k with | 0 => h0 | _ => q1), c0), rfl, rfl, by rw [ht, e1, e2]; exact hP, va_K.moved hW.alike (hK.sub [0] rfl), by rw [e1, e2]; exact hD⟩, hS.F ht⟩) hS.2.2 dX1_init_53
