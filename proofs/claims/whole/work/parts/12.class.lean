set_option maxHeartbeats 4000000 in
set_option maxRecDepth 100000 in
theorem c_X0_mayFlyMore (l : Launch) (hl9 : l.stackTraces = false) (D : va_G) (cI cZ : ClassId) (ty : kz_Y) (ad : Nat → Nat) (rs : va_W) (sz : Nat) (it o n g v r : Int32) (nx mt fl pr ofs ak hd an : Nat → Int32) (p0 : Int32) (hin : vp_in p0 7) : ez_M l yX0_mayFlyMore wsX0_mayFlyMore ({ frames := 0, cells := 1, slots := 6, locals := 0 } : Room) (kz_P D ((cI, .int) :: (cZ, .boolean) :: ty) (wX ad cI cZ it o n g v r nx mt fl pr ofs ak hd an ++ rs) sz [.ref (ad 0), .int p0]) (kz_Ro (kz_i (fun r9 => r9 = (sq_z (sq_F fl pr p0.toNatClampNeg))))) (kz_T (fun _ => IAE) (fun _ => False)) 0 0 (fun _ => False) := by
  refine ez_ofW (cc := cX0_mayFlyMore) (maxL := 2) (ret := (some .boolean)) (by decide) rfl ?_
  intro p e s m args below meth c s₁ B hml hTab hv
  obtain ⟨rfl, hsz, hP, hK, hD0, hE⟩ := hv
  have hx := B.exec
  have hb := B.bytes
  have hr := B.returns
  have hw9 : ∀ w ∈ kz_W9, w.before ([.ref (ad 0), .int p0] : List Value).toArray s = true := fun w h => atoms_spec (ws := wsX0_mayFlyMore) B.pre w (List.mem_cons_of_mem _ h)
  have hown : s.vm.findClass RX0 = some m.cls := findClass_of_methodNamed B.named
  have hlocks := B.notSynchronized
  subst hsz
  have hD := hD0.self (sz := s.heap.size)
  generalize hAe : va_A (wX ad cI cZ it o n g v r nx mt fl pr ofs ak hd an ++ rs) s.heap.size = A at hD hE
  have hA : ∀ q : Nat, s.heap.size ≤ q → A q := fun q h => by rw [← hAe]; exact Or.inr h
  have hS : va_S A s.heap s.heap [] := va_S.rf
  have hO : kz_O s.heap s.heap := kz_O.rf _
  have hl := lv_entry ([.ref (ad 0), .int p0]) (n := 2) (Nat.le_of_ble_eq_true rfl)
  rw [lg_entry_eq]
  generalize (lg_sl ([.ref (ad 0), .int p0]) ++ List.replicate (2 - (lg_sl ([.ref (ad 0), .int p0])).length) Slot.unset).toArray = ls at hl ⊢
  have hl : lv_has ls 2 [(0, .ref (ad 0)), (1, .int p0)] := hl
  refine lv_aload_n hx hb dX0_mayFlyMore_0 rfl (lv_at hl 0 rfl) ?_
  refine va_get (D := D) (ci := 0) (v := .ref (ad 3)) (C := RX0) (T := TX0) (N := 14) hx hb hw9 uX0 hown hK hP 0 rfl rfl 8 (by decide) (hw9 _ mw_27) (fun _ h9 => h9) rfl dX0_mayFlyMore_1 ?_
  refine lv_iload_n hx hb dX0_mayFlyMore_4 rfl (lv_at hl 1 rfl) ?_
  refine va_iald hx hb hK hP 3 0 rfl rfl hin dX0_mayFlyMore_5 ?_
  refine lv_aload_n hx hb dX0_mayFlyMore_6 rfl (lv_at hl 0 rfl) ?_
  refine va_get (D := D) (ci := 0) (v := .ref (ad 4)) (C := RX0) (T := TX0) (N := 14) hx hb hw9 uX0 hown hK hP 0 rfl rfl 9 (by decide) (hw9 _ mw_28) (fun _ h9 => h9) rfl dX0_mayFlyMore_7 ?_
  refine lv_iload_n hx hb dX0_mayFlyMore_10 rfl (lv_at hl 1 rfl) ?_
  refine va_zald hx hb hK hP 4 1 rfl rfl hin dX0_mayFlyMore_11 ?_
  refine lv_if_eq (tgt := 19) hx hb dX0_mayFlyMore_12 (by decide) (fun c_1 => ?_) (fun c_1 => ?_)
  · -- 12 -> 19
    refine lv_iconst (v := 4) hx hb dX0_mayFlyMore_19 (by decide) ?_
    refine lv_icmp_ge (tgt := 27) hx hb dX0_mayFlyMore_20 (by decide) (fun c_2 => ?_) (fun c_2 => ?_)
    · -- 20 -> 27
      refine lv_iconst (v := 0) hx hb dX0_mayFlyMore_27 (by decide) ?_
      exact kz_retz hx hb hr hlocks hO (by first | (simp [sq_z, sq_F, c_1, c_2, (Int32.not_lt.mpr c_2)]; done) | (simp only [sq_z, sq_F, c_1, c_2, (Int32.not_lt.mpr c_2), eq_self, not_true_eq_false, not_false_eq_true, and_self, and_true, true_and, and_false, false_and, or_true, true_or, or_false, false_or, if_true, if_false, ite_true, ite_false, Bool.and_eq_true, decide_true, decide_false, decide_eq_true_eq, ne_eq, Nat.reduceEqDiff, Nat.one_ne_zero, Bool.false_eq_true, reduceCtorEq]; done) | (simp only [sq_z, sq_F, c_1, c_2, (Int32.not_lt.mpr c_2), eq_self, not_true_eq_false, not_false_eq_true, and_self, and_true, true_and, and_false, false_and, or_true, true_or, or_false, false_or, if_true, if_false, ite_true, ite_false, Bool.and_eq_true, decide_true, decide_false, decide_eq_true_eq, ne_eq, Nat.reduceEqDiff, Nat.one_ne_zero, Bool.false_eq_true, reduceCtorEq]; decide)) rfl dX0_mayFlyMore_28
    · -- 20 -> 23
      refine lv_iconst (v := 1) hx hb dX0_mayFlyMore_23 (by decide) ?_
      refine lv_goto (tgt := 28) hx hb dX0_mayFlyMore_24 (by decide) ?_
      exact kz_retz hx hb hr hlocks hO (by first | (simp [sq_z, sq_F, c_1, c_2, (Int32.not_le.mp c_2)]; done) | (simp only [sq_z, sq_F, c_1, c_2, (Int32.not_le.mp c_2), eq_self, not_true_eq_false, not_false_eq_true, and_self, and_true, true_and, and_false, false_and, or_true, true_or, or_false, false_or, if_true, if_false, ite_true, ite_false, Bool.and_eq_true, decide_true, decide_false, decide_eq_true_eq, ne_eq, Nat.reduceEqDiff, Nat.one_ne_zero, Bool.false_eq_true, reduceCtorEq]; done) | (simp only [sq_z, sq_F, c_1, c_2, (Int32.not_le.mp c_2), eq_self, not_true_eq_false, not_false_eq_true, and_self, and_true, true_and, and_false, false_and, or_true, true_or, or_false, false_or, if_true, if_false, ite_true, ite_false, Bool.and_eq_true, decide_true, decide_false, decide_eq_true_eq, ne_eq, Nat.reduceEqDiff, Nat.one_ne_zero, Bool.false_eq_true, reduceCtorEq]; decide)) rfl dX0_mayFlyMore_28
  · -- 12 -> 15
    refine lv_iconst (v := 1) hx hb dX0_mayFlyMore_15 (by decide) ?_
    refine lv_goto (tgt := 20) hx hb dX0_mayFlyMore_16 (by decide) ?_
    refine lv_icmp_ge (tgt := 27) hx hb dX0_mayFlyMore_20 (by decide) (fun c_3 => ?_) (fun c_3 => ?_)
    · -- 20 -> 27
      refine lv_iconst (v := 0) hx hb dX0_mayFlyMore_27 (by decide) ?_
      exact kz_retz hx hb hr hlocks hO (by first | (simp [sq_z, sq_F, c_1, c_3, (Int32.not_lt.mpr c_3)]; done) | (simp only [sq_z, sq_F, c_1, c_3, (Int32.not_lt.mpr c_3), eq_self, not_true_eq_false, not_false_eq_true, and_self, and_true, true_and, and_false, false_and, or_true, true_or, or_false, false_or, if_true, if_false, ite_true, ite_false, Bool.and_eq_true, decide_true, decide_false, decide_eq_true_eq, ne_eq, Nat.reduceEqDiff, Nat.one_ne_zero, Bool.false_eq_true, reduceCtorEq]; done) | (simp only [sq_z, sq_F, c_1, c_3, (Int32.not_lt.mpr c_3), eq_self, not_true_eq_false, not_false_eq_true, and_self, and_true, true_and, and_false, false_and, or_true, true_or, or_false, false_or, if_true, if_false, ite_true, ite_false, Bool.and_eq_true, decide_true, decide_false, decide_eq_true_eq, ne_eq, Nat.reduceEqDiff, Nat.one_ne_zero, Bool.false_eq_true, reduceCtorEq]; decide)) rfl dX0_mayFlyMore_28
    · -- 20 -> 23
      refine lv_iconst (v := 1) hx hb dX0_mayFlyMore_23 (by decide) ?_
      refine lv_goto (tgt := 28) hx hb dX0_mayFlyMore_24 (by decide) ?_
      exact kz_retz hx hb hr hlocks hO (by first | (simp [sq_z, sq_F, c_1, c_3, (Int32.not_le.mp c_3)]; done) | (simp only [sq_z, sq_F, c_1, c_3, (Int32.not_le.mp c_3), eq_self, not_true_eq_false, not_false_eq_true, and_self, and_true, true_and, and_false, false_and, or_true, true_or, or_false, false_or, if_true, if_false, ite_true, ite_false, Bool.and_eq_true, decide_true, decide_false, decide_eq_true_eq, ne_eq, Nat.reduceEqDiff, Nat.one_ne_zero, Bool.false_eq_true, reduceCtorEq]; done) | (simp only [sq_z, sq_F, c_1, c_3, (Int32.not_le.mp c_3), eq_self, not_true_eq_false, not_false_eq_true, and_self, and_true, true_and, and_false, false_and, or_true, true_or, or_false, false_or, if_true, if_false, ite_true, ite_false, Bool.and_eq_true, decide_true, decide_false, decide_eq_true_eq, ne_eq, Nat.reduceEqDiff, Nat.one_ne_zero, Bool.false_eq_true, reduceCtorEq]; decide)) rfl dX0_mayFlyMore_28
set_option maxHeartbeats 4000000 in
set_option maxRecDepth 100000 in
theorem c_X0_hear (l : Launch) (hl9 : l.stackTraces = false) (D : va_G) (cI cZ : ClassId) (ty : kz_Y) (ad : Nat → Nat) (rs : va_W) (sz : Nat) (it o n g v r : Int32) (nx mt fl pr ofs ak hd an : Nat → Int32) (p0 : Int32) (p1 : Int32) (p2 : Int32) (hin : vp_in p0 7) : ez_M l yX0_hear wsX0_hear ({ frames := 1, cells := 1, slots := 6, locals := 21 } : Room) (kz_P D ((cI, .int) :: (cZ, .boolean) :: ty) (wX ad cI cZ it o n g v r nx mt fl pr ofs ak hd an ++ rs) sz [.ref (ad 0), .int p0, .int p1, .int p2]) (kz_Wr D (va_A (wX ad cI cZ it o n g v r nx mt fl pr ofs ak hd an ++ rs) sz) (kz_v (True)) (wX ad cI cZ it o n g v r nx mt fl pr ofs (upd ak p0.toNatClampNeg (sq_max (ak p0.toNatClampNeg) p1)) (upd hd p0.toNatClampNeg p2) (upd an p0.toNatClampNeg 1) ++ rs)) (kz_T (fun _ => IAE) (fun _ => False)) 0 0 (va_A (wX ad cI cZ it o n g v r nx mt fl pr ofs ak hd an ++ rs) sz) := by
  refine ez_ofW (cc := cX0_hear) (maxL := 4) (ret := none) (by decide) rfl ?_
  intro p e s m args below meth c s₁ B hml hTab hv
  obtain ⟨rfl, hsz, hP, hK, hD0, hE⟩ := hv
  have hx := B.exec
  have hb := B.bytes
  have hr := B.returns
  have hw9 : ∀ w ∈ kz_W9, w.before ([.ref (ad 0), .int p0, .int p1, .int p2] : List Value).toArray s = true := fun w h => atoms_spec (ws := wsX0_hear) B.pre w (List.mem_cons_of_mem _ h)
  have hown : s.vm.findClass RX0 = some m.cls := findClass_of_methodNamed B.named
  have hlocks := B.notSynchronized
  subst hsz
  have hD := hD0.self (sz := s.heap.size)
  generalize hAe : va_A (wX ad cI cZ it o n g v r nx mt fl pr ofs ak hd an ++ rs) s.heap.size = A at hD hE ⊢
  have hA : ∀ q : Nat, s.heap.size ≤ q → A q := fun q h => by rw [← hAe]; exact Or.inr h
  have hS : va_S A s.heap s.heap [] := va_S.rf
  have hO : kz_O s.heap s.heap := kz_O.rf _
  have hl := lv_entry ([.ref (ad 0), .int p0, .int p1, .int p2]) (n := 4) (Nat.le_of_ble_eq_true rfl)
  rw [lg_entry_eq]
  generalize (lg_sl ([.ref (ad 0), .int p0, .int p1, .int p2]) ++ List.replicate (4 - (lg_sl ([.ref (ad 0), .int p0, .int p1, .int p2])).length) Slot.unset).toArray = ls at hl ⊢
  have hl : lv_has ls 4 [(0, .ref (ad 0)), (1, .int p0), (2, .int p1), (3, .int p2)] := hl
  refine lv_aload_n hx hb dX0_hear_0 rfl (lv_at hl 0 rfl) ?_
  refine va_get (D := D) (ci := 0) (v := .ref (ad 7)) (C := RX0) (T := TX0) (N := 14) hx hb hw9 uX0 hown hK hP 0 rfl rfl 12 (by decide) (hw9 _ mw_31) (fun _ h9 => h9) rfl dX0_hear_1 ?_
  refine lv_iload_n hx hb dX0_hear_4 rfl (lv_at hl 1 rfl) ?_
  refine lv_iload_n hx hb dX0_hear_5 rfl (lv_at hl 3 rfl) ?_
  refine va_iast hx hb hK hP hD hS 7 0 rfl rfl hin dX0_hear_6 (fun H locs hP hD hS => ?_)
  have hP : va_P D vwCl (wX ad cI cZ it o n g v r nx mt fl pr ofs ak (upd hd p0.toNatClampNeg p2) an ++ rs) H := hP
  have hD : va_D A (wX ad cI cZ it o n g v r nx mt fl pr ofs ak (upd hd p0.toNatClampNeg p2) an ++ rs) := hD
  refine lv_aload_n hx hb dX0_hear_7 rfl (lv_at hl 0 rfl) ?_
  refine va_get (D := D) (ci := 0) (v := .ref (ad 8)) (C := RX0) (T := TX0) (N := 14) hx hb hw9 uX0 hown hK hP 0 rfl rfl 13 (by decide) (hw9 _ mw_32) (fun _ h9 => h9) rfl dX0_hear_8 ?_
  refine lv_iload_n hx hb dX0_hear_11 rfl (lv_at hl 1 rfl) ?_
  refine lv_iconst (v := 1) hx hb dX0_hear_12 (by decide) ?_
  refine va_zast hx hb hK hP hD hS 8 1 rfl rfl hin dX0_hear_13 (fun H locs hP hD hS => ?_)
  have hP : va_P D vwCl (wX ad cI cZ it o n g v r nx mt fl pr ofs ak (upd hd p0.toNatClampNeg p2) (upd an p0.toNatClampNeg 1) ++ rs) H := hP
  have hD : va_D A (wX ad cI cZ it o n g v r nx mt fl pr ofs ak (upd hd p0.toNatClampNeg p2) (upd an p0.toNatClampNeg 1) ++ rs) := hD
  refine lv_aload_n hx hb dX0_hear_14 rfl (lv_at hl 0 rfl) ?_
  refine va_get (D := D) (ci := 0) (v := .ref (ad 6)) (C := RX0) (T := TX0) (N := 14) hx hb hw9 uX0 hown hK hP 0 rfl rfl 11 (by decide) (hw9 _ mw_30) (fun _ h9 => h9) rfl dX0_hear_15 ?_
  refine lv_iload_n hx hb dX0_hear_18 rfl (lv_at hl 1 rfl) ?_
  refine lv_aload_n hx hb dX0_hear_19 rfl (lv_at hl 0 rfl) ?_
  refine va_get (D := D) (ci := 0) (v := .ref (ad 6)) (C := RX0) (T := TX0) (N := 14) hx hb hw9 uX0 hown hK hP 0 rfl rfl 11 (by decide) (hw9 _ mw_30) (fun _ h9 => h9) rfl dX0_hear_20 ?_
  refine lv_iload_n hx hb dX0_hear_23 rfl (lv_at hl 1 rfl) ?_
  refine va_iald hx hb hK hP 6 0 rfl rfl hin dX0_hear_24 ?_
  refine lv_iload_n hx hb dX0_hear_25 rfl (lv_at hl 2 rfl) ?_
  refine va_mmax hx hb (by rw [hml]; exact hl.1.symm) hown (hw9 _ mw_310) (hw9 _ mw_311) (hw9 _ mw_10) (hw9 _ mw_312) (Nat.le_of_ble_eq_true rfl) (Nat.le_of_ble_eq_true rfl) (Nat.le_of_ble_eq_true rfl) (Nat.le_of_ble_eq_true rfl) dX0_hear_26 ?_
  refine W.eq (g2 := F0 m 29 ls [.int (sq_max (ak p0.toNatClampNeg) p1), .int p0, .ref (ad 6)]) rfl ?_
  refine va_iast hx hb hK hP hD hS 6 0 rfl rfl hin dX0_hear_29 (fun H locs hP hD hS => ?_)
  have hP : va_P D vwCl (wX ad cI cZ it o n g v r nx mt fl pr ofs (upd ak p0.toNatClampNeg (sq_max (ak p0.toNatClampNeg) p1)) (upd hd p0.toNatClampNeg p2) (upd an p0.toNatClampNeg 1) ++ rs) H := hP
  have hD : va_D A (wX ad cI cZ it o n g v r nx mt fl pr ofs (upd ak p0.toNatClampNeg (sq_max (ak p0.toNatClampNeg) p1)) (upd hd p0.toNatClampNeg p2) (upd an p0.toNatClampNeg 1) ++ rs) := hD
  exact kz_wretv hx hb hr hlocks hP hD hS (Nat.le_of_ble_eq_true rfl) (Nat.le_of_ble_eq_true rfl) (trivial)  dX0_hear_30
set_option maxHeartbeats 4000000 in
set_option maxRecDepth 100000 in
theorem c_X0_sendSnapshotPiece (l : Launch) (hl9 : l.stackTraces = false) (D : va_G) (cI cZ : ClassId) (ty : kz_Y) (ad : Nat → Nat) (rs : va_W) (sz : Nat) (it o n g v r : Int32) (nx mt fl pr ofs ak hd an : Nat → Int32) (p0 : Int32) (hin : vp_in p0 7) : ez_M l yX0_sendSnapshotPiece wsX0_sendSnapshotPiece ({ frames := 0, cells := 1, slots := 6, locals := 0 } : Room) (kz_P D ((cI, .int) :: (cZ, .boolean) :: ty) (wX ad cI cZ it o n g v r nx mt fl pr ofs ak hd an ++ rs) sz [.ref (ad 0), .int p0]) (kz_Wr D (va_A (wX ad cI cZ it o n g v r nx mt fl pr ofs ak hd an ++ rs) sz) (kz_i (fun r9 => r9 = (if 0 < fl p0.toNatClampNeg then 0 else 8))) (wX ad cI cZ it o n g v r nx mt (if 0 < fl p0.toNatClampNeg then fl else upd fl p0.toNatClampNeg 1) pr ofs ak hd an ++ rs)) (kz_T (fun _ => IAE) (fun _ => False)) 0 0 (va_A (wX ad cI cZ it o n g v r nx mt fl pr ofs ak hd an ++ rs) sz) := by
  refine ez_ofW (cc := cX0_sendSnapshotPiece) (maxL := 2) (ret := (some .int)) (by decide) rfl ?_
  intro p e s m args below meth c s₁ B hml hTab hv
  obtain ⟨rfl, hsz, hP, hK, hD0, hE⟩ := hv
  have hx := B.exec
  have hb := B.bytes
  have hr := B.returns
  have hw9 : ∀ w ∈ kz_W9, w.before ([.ref (ad 0), .int p0] : List Value).toArray s = true := fun w h => atoms_spec (ws := wsX0_sendSnapshotPiece) B.pre w (List.mem_cons_of_mem _ h)
  have hown : s.vm.findClass RX0 = some m.cls := findClass_of_methodNamed B.named
  have hlocks := B.notSynchronized
  subst hsz
  have hD := hD0.self (sz := s.heap.size)
  generalize hAe : va_A (wX ad cI cZ it o n g v r nx mt fl pr ofs ak hd an ++ rs) s.heap.size = A at hD hE ⊢
  have hA : ∀ q : Nat, s.heap.size ≤ q → A q := fun q h => by rw [← hAe]; exact Or.inr h
  have hS : va_S A s.heap s.heap [] := va_S.rf
  have hO : kz_O s.heap s.heap := kz_O.rf _
  have hl := lv_entry ([.ref (ad 0), .int p0]) (n := 2) (Nat.le_of_ble_eq_true rfl)
  rw [lg_entry_eq]
  generalize (lg_sl ([.ref (ad 0), .int p0]) ++ List.replicate (2 - (lg_sl ([.ref (ad 0), .int p0])).length) Slot.unset).toArray = ls at hl ⊢
  have hl : lv_has ls 2 [(0, .ref (ad 0)), (1, .int p0)] := hl
  refine lv_aload_n hx hb dX0_sendSnapshotPiece_0 rfl (lv_at hl 0 rfl) ?_
  refine va_get (D := D) (ci := 0) (v := .ref (ad 3)) (C := RX0) (T := TX0) (N := 14) hx hb hw9 uX0 hown hK hP 0 rfl rfl 8 (by decide) (hw9 _ mw_27) (fun _ h9 => h9) rfl dX0_sendSnapshotPiece_1 ?_
  refine lv_iload_n hx hb dX0_sendSnapshotPiece_4 rfl (lv_at hl 1 rfl) ?_
  refine va_iald hx hb hK hP 3 0 rfl rfl hin dX0_sendSnapshotPiece_5 ?_
  refine lv_if_le (tgt := 11) hx hb dX0_sendSnapshotPiece_6 (by decide) (fun c_1 => ?_) (fun c_1 => ?_)
  · -- 6 -> 11
    refine lv_aload_n hx hb dX0_sendSnapshotPiece_11 rfl (lv_at hl 0 rfl) ?_
    refine va_get (D := D) (ci := 0) (v := .ref (ad 3)) (C := RX0) (T := TX0) (N := 14) hx hb hw9 uX0 hown hK hP 0 rfl rfl 8 (by decide) (hw9 _ mw_27) (fun _ h9 => h9) rfl dX0_sendSnapshotPiece_12 ?_
    refine lv_iload_n hx hb dX0_sendSnapshotPiece_15 rfl (lv_at hl 1 rfl) ?_
    refine lv_iconst (v := 1) hx hb dX0_sendSnapshotPiece_16 (by decide) ?_
    refine va_iast hx hb hK hP hD hS 3 0 rfl rfl hin dX0_sendSnapshotPiece_17 (fun H locs hP hD hS => ?_)
    have hP : va_P D vwCl (wX ad cI cZ it o n g v r nx mt (upd fl p0.toNatClampNeg 1) pr ofs ak hd an ++ rs) H := hP
    have hD : va_D A (wX ad cI cZ it o n g v r nx mt (upd fl p0.toNatClampNeg 1) pr ofs ak hd an ++ rs) := hD
    refine lv_bipush (v := 8) hx hb dX0_sendSnapshotPiece_18 (by decide) ?_
    have e_fl : (if 0 < fl p0.toNatClampNeg then fl else upd fl p0.toNatClampNeg 1) = upd fl p0.toNatClampNeg 1 := by first | (simp [c_1, (Int32.not_lt.mpr c_1)]; done) | (simp only [c_1, (Int32.not_lt.mpr c_1), eq_self, not_true_eq_false, not_false_eq_true, and_self, and_true, true_and, and_false, false_and, or_true, true_or, or_false, false_or, if_true, if_false, ite_true, ite_false, Bool.and_eq_true, decide_true, decide_false, decide_eq_true_eq, ne_eq, Nat.reduceEqDiff, Nat.one_ne_zero, Bool.false_eq_true, reduceCtorEq]; done) | (simp only [c_1, (Int32.not_lt.mpr c_1), eq_self, not_true_eq_false, not_false_eq_true, and_self, and_true, true_and, and_false, false_and, or_true, true_or, or_false, false_or, if_true, if_false, ite_true, ite_false, Bool.and_eq_true, decide_true, decide_false, decide_eq_true_eq, ne_eq, Nat.reduceEqDiff, Nat.one_ne_zero, Bool.false_eq_true, reduceCtorEq]; decide)
    exact kz_wreti hx hb hr hlocks (by rw [e_fl]; exact hP) (by rw [e_fl]; exact hD) hS (Nat.le_of_ble_eq_true rfl) (Nat.le_of_ble_eq_true rfl) (by first | (simp [c_1, (Int32.not_lt.mpr c_1)]; done) | (simp only [c_1, (Int32.not_lt.mpr c_1), eq_self, not_true_eq_false, not_false_eq_true, and_self, and_true, true_and, and_false, false_and, or_true, true_or, or_false, false_or, if_true, if_false, ite_true, ite_false, Bool.and_eq_true, decide_true, decide_false, decide_eq_true_eq, ne_eq, Nat.reduceEqDiff, Nat.one_ne_zero, Bool.false_eq_true, reduceCtorEq]; done) | (simp only [c_1, (Int32.not_lt.mpr c_1), eq_self, not_true_eq_false, not_false_eq_true, and_self, and_true, true_and, and_false, false_and, or_true, true_or, or_false, false_or, if_true, if_false, ite_true, ite_false, Bool.and_eq_true, decide_true, decide_false, decide_eq_true_eq, ne_eq, Nat.reduceEqDiff, Nat.one_ne_zero, Bool.false_eq_true, reduceCtorEq]; decide))  dX0_sendSnapshotPiece_20
  · -- 6 -> 9
    refine lv_iconst (v := 0) hx hb dX0_sendSnapshotPiece_9 (by decide) ?_
    have e_fl : (if 0 < fl p0.toNatClampNeg then fl else upd fl p0.toNatClampNeg 1) = fl := by first | (simp [c_1, (Int32.not_le.mp c_1)]; done) | (simp only [c_1, (Int32.not_le.mp c_1), eq_self, not_true_eq_false, not_false_eq_true, and_self, and_true, true_and, and_false, false_and, or_true, true_or, or_false, false_or, if_true, if_false, ite_true, ite_false, Bool.and_eq_true, decide_true, decide_false, decide_eq_true_eq, ne_eq, Nat.reduceEqDiff, Nat.one_ne_zero, Bool.false_eq_true, reduceCtorEq]; done) | (simp only [c_1, (Int32.not_le.mp c_1), eq_self, not_true_eq_false, not_false_eq_true, and_self, and_true, true_and, and_false, false_and, or_true, true_or, or_false, false_or, if_true, if_false, ite_true, ite_false, Bool.and_eq_true, decide_true, decide_false, decide_eq_true_eq, ne_eq, Nat.reduceEqDiff, Nat.one_ne_zero, Bool.false_eq_true, reduceCtorEq]; decide)
    exact kz_wreti hx hb hr hlocks (by rw [e_fl]; exact hP) (by rw [e_fl]; exact hD) hS (Nat.le_of_ble_eq_true rfl) (Nat.le_of_ble_eq_true rfl) (by first | (simp [c_1, (Int32.not_le.mp c_1)]; done) | (simp only [c_1, (Int32.not_le.mp c_1), eq_self, not_true_eq_false, not_false_eq_true, and_self, and_true, true_and, and_false, false_and, or_true, true_or, or_false, false_or, if_true, if_false, ite_true, ite_false, Bool.and_eq_true, decide_true, decide_false, decide_eq_true_eq, ne_eq, Nat.reduceEqDiff, Nat.one_ne_zero, Bool.false_eq_true, reduceCtorEq]; done) | (simp only [c_1, (Int32.not_le.mp c_1), eq_self, not_true_eq_false, not_false_eq_true, and_self, and_true, true_and, and_false, false_and, or_true, true_or, or_false, false_or, if_true, if_false, ite_true, ite_false, Bool.and_eq_true, decide_true, decide_false, decide_eq_true_eq, ne_eq, Nat.reduceEqDiff, Nat.one_ne_zero, Bool.false_eq_true, reduceCtorEq]; decide))  dX0_sendSnapshotPiece_10
set_option maxHeartbeats 4000000 in
set_option maxRecDepth 100000 in
theorem c_X0_sendEntries (l : Launch) (hl9 : l.stackTraces = false) (D : va_G) (cI cZ : ClassId) (ty : kz_Y) (ad : Nat → Nat) (rs : va_W) (sz : Nat) (it o n g v r : Int32) (nx mt fl pr ofs ak hd an : Nat → Int32) (p0 : Int32) (p1 : Int32) (hin : vp_in p0 7) : ez_M l yX0_sendEntries wsX0_sendEntries ({ frames := 1, cells := 1, slots := 6, locals := 21 } : Room) (kz_P D ((cI, .int) :: (cZ, .boolean) :: ty) (wX ad cI cZ it o n g v r nx mt fl pr ofs ak hd an ++ rs) sz [.ref (ad 0), .int p0, .int p1]) (kz_Wr D (va_A (wX ad cI cZ it o n g v r nx mt fl pr ofs ak hd an ++ rs) sz) (kz_i (fun r9 => r9 = (sq_min ((p1 - nx p0.toNatClampNeg) + 1) 6))) (wX ad cI cZ it o n g v r (upd nx p0.toNatClampNeg (nx p0.toNatClampNeg + (sq_min ((p1 - nx p0.toNatClampNeg) + 1) 6))) mt (upd fl p0.toNatClampNeg (fl p0.toNatClampNeg + 1)) pr ofs ak hd an ++ rs)) (kz_T (fun _ => IAE) (fun _ => False)) 0 0 (va_A (wX ad cI cZ it o n g v r nx mt fl pr ofs ak hd an ++ rs) sz) := by
  refine ez_ofW (cc := cX0_sendEntries) (maxL := 4) (ret := (some .int)) (by decide) rfl ?_
  intro p e s m args below meth c s₁ B hml hTab hv
  obtain ⟨rfl, hsz, hP, hK, hD0, hE⟩ := hv
  have hx := B.exec
  have hb := B.bytes
  have hr := B.returns
  have hw9 : ∀ w ∈ kz_W9, w.before ([.ref (ad 0), .int p0, .int p1] : List Value).toArray s = true := fun w h => atoms_spec (ws := wsX0_sendEntries) B.pre w (List.mem_cons_of_mem _ h)
  have hown : s.vm.findClass RX0 = some m.cls := findClass_of_methodNamed B.named
  have hlocks := B.notSynchronized
  subst hsz
  have hD := hD0.self (sz := s.heap.size)
  generalize hAe : va_A (wX ad cI cZ it o n g v r nx mt fl pr ofs ak hd an ++ rs) s.heap.size = A at hD hE ⊢
  have hA : ∀ q : Nat, s.heap.size ≤ q → A q := fun q h => by rw [← hAe]; exact Or.inr h
  have hS : va_S A s.heap s.heap [] := va_S.rf
  have hO : kz_O s.heap s.heap := kz_O.rf _
  have hl := lv_entry ([.ref (ad 0), .int p0, .int p1]) (n := 4) (Nat.le_of_ble_eq_true rfl)
  rw [lg_entry_eq]
  generalize (lg_sl ([.ref (ad 0), .int p0, .int p1]) ++ List.replicate (4 - (lg_sl ([.ref (ad 0), .int p0, .int p1])).length) Slot.unset).toArray = ls at hl ⊢
  have hl : lv_has ls 4 [(0, .ref (ad 0)), (1, .int p0), (2, .int p1)] := hl
  refine lv_iload_n hx hb dX0_sendEntries_0 rfl (lv_at hl 2 rfl) ?_
  refine lv_aload_n hx hb dX0_sendEntries_1 rfl (lv_at hl 0 rfl) ?_
  refine va_get (D := D) (ci := 0) (v := .ref (ad 1)) (C := RX0) (T := TX0) (N := 14) hx hb hw9 uX0 hown hK hP 0 rfl rfl 6 (by decide) (hw9 _ mw_25) (fun _ h9 => h9) rfl dX0_sendEntries_2 ?_
  refine lv_iload_n hx hb dX0_sendEntries_5 rfl (lv_at hl 1 rfl) ?_
  refine va_iald hx hb hK hP 1 0 rfl rfl hin dX0_sendEntries_6 ?_
  refine lv_isub hx hb dX0_sendEntries_7 ?_
  refine lv_iconst (v := 1) hx hb dX0_sendEntries_8 (by decide) ?_
  refine lv_iadd hx hb dX0_sendEntries_9 ?_
  refine lv_bipush (v := 6) hx hb dX0_sendEntries_10 (by decide) ?_
  refine va_mmin hx hb (by rw [hml]; exact hl.1.symm) hown (hw9 _ mw_296) (hw9 _ mw_297) (hw9 _ mw_10) (hw9 _ mw_298) (Nat.le_of_ble_eq_true rfl) (Nat.le_of_ble_eq_true rfl) (Nat.le_of_ble_eq_true rfl) (Nat.le_of_ble_eq_true rfl) dX0_sendEntries_12 ?_
  refine W.eq (g2 := F0 m 15 ls [.int (sq_min ((p1 - (nx p0.toNatClampNeg)) + 1) 6)]) rfl ?_
  refine lv_istore_n (lv' := [(3, .int (sq_min ((p1 - (nx p0.toNatClampNeg)) + 1) 6)), (0, .ref (ad 0)), (1, .int p0), (2, .int p1)]) hx hb dX0_sendEntries_15 rfl hl (by decide) rfl (fun ls hl => ?_)
  refine lv_aload_n hx hb dX0_sendEntries_16 rfl (lv_at hl 1 rfl) ?_
  refine va_get (D := D) (ci := 0) (v := .ref (ad 3)) (C := RX0) (T := TX0) (N := 14) hx hb hw9 uX0 hown hK hP 0 rfl rfl 8 (by decide) (hw9 _ mw_27) (fun _ h9 => h9) rfl dX0_sendEntries_17 ?_
  refine lv_iload_n hx hb dX0_sendEntries_20 rfl (lv_at hl 2 rfl) ?_
  refine lv_aload_n hx hb dX0_sendEntries_21 rfl (lv_at hl 1 rfl) ?_
  refine va_get (D := D) (ci := 0) (v := .ref (ad 3)) (C := RX0) (T := TX0) (N := 14) hx hb hw9 uX0 hown hK hP 0 rfl rfl 8 (by decide) (hw9 _ mw_27) (fun _ h9 => h9) rfl dX0_sendEntries_22 ?_
  refine lv_iload_n hx hb dX0_sendEntries_25 rfl (lv_at hl 2 rfl) ?_
  refine va_iald hx hb hK hP 3 0 rfl rfl hin dX0_sendEntries_26 ?_
  refine lv_iconst (v := 1) hx hb dX0_sendEntries_27 (by decide) ?_
  refine lv_iadd hx hb dX0_sendEntries_28 ?_
  refine va_iast hx hb hK hP hD hS 3 0 rfl rfl hin dX0_sendEntries_29 (fun H locs hP hD hS => ?_)
  have hP : va_P D vwCl (wX ad cI cZ it o n g v r nx mt (upd fl p0.toNatClampNeg ((fl p0.toNatClampNeg) + 1)) pr ofs ak hd an ++ rs) H := hP
  have hD : va_D A (wX ad cI cZ it o n g v r nx mt (upd fl p0.toNatClampNeg ((fl p0.toNatClampNeg) + 1)) pr ofs ak hd an ++ rs) := hD
  refine lv_aload_n hx hb dX0_sendEntries_30 rfl (lv_at hl 1 rfl) ?_
  refine va_get (D := D) (ci := 0) (v := .ref (ad 1)) (C := RX0) (T := TX0) (N := 14) hx hb hw9 uX0 hown hK hP 0 rfl rfl 6 (by decide) (hw9 _ mw_25) (fun _ h9 => h9) rfl dX0_sendEntries_31 ?_
  refine lv_iload_n hx hb dX0_sendEntries_34 rfl (lv_at hl 2 rfl) ?_
  refine lv_aload_n hx hb dX0_sendEntries_35 rfl (lv_at hl 1 rfl) ?_
  refine va_get (D := D) (ci := 0) (v := .ref (ad 1)) (C := RX0) (T := TX0) (N := 14) hx hb hw9 uX0 hown hK hP 0 rfl rfl 6 (by decide) (hw9 _ mw_25) (fun _ h9 => h9) rfl dX0_sendEntries_36 ?_
  refine lv_iload_n hx hb dX0_sendEntries_39 rfl (lv_at hl 2 rfl) ?_
  refine va_iald hx hb hK hP 1 0 rfl rfl hin dX0_sendEntries_40 ?_
  refine lv_iload_n hx hb dX0_sendEntries_41 rfl (lv_at hl 0 rfl) ?_
  refine lv_iadd hx hb dX0_sendEntries_42 ?_
  refine va_iast hx hb hK hP hD hS 1 0 rfl rfl hin dX0_sendEntries_43 (fun H locs hP hD hS => ?_)
  have hP : va_P D vwCl (wX ad cI cZ it o n g v r (upd nx p0.toNatClampNeg ((nx p0.toNatClampNeg) + (sq_min ((p1 - (nx p0.toNatClampNeg)) + 1) 6))) mt (upd fl p0.toNatClampNeg ((fl p0.toNatClampNeg) + 1)) pr ofs ak hd an ++ rs) H := hP
  have hD : va_D A (wX ad cI cZ it o n g v r (upd nx p0.toNatClampNeg ((nx p0.toNatClampNeg) + (sq_min ((p1 - (nx p0.toNatClampNeg)) + 1) 6))) mt (upd fl p0.toNatClampNeg ((fl p0.toNatClampNeg) + 1)) pr ofs ak hd an ++ rs) := hD
  refine lv_iload_n hx hb dX0_sendEntries_44 rfl (lv_at hl 0 rfl) ?_
  exact kz_wreti hx hb hr hlocks hP hD hS (Nat.le_of_ble_eq_true rfl) (Nat.le_of_ble_eq_true rfl) (rfl)  dX0_sendEntries_45
set_option maxHeartbeats 4000000 in
set_option maxRecDepth 100000 in
theorem c_X0_members (l : Launch) (hl9 : l.stackTraces = false) (D : va_G) (cI cZ : ClassId) (ty : kz_Y) (ad : Nat → Nat) (rs : va_W) (sz : Nat) (it o n g v r : Int32) (nx mt fl pr ofs ak hd an : Nat → Int32) (p0 : Int32) (p1 : Int32) (p2 : Int32) : ez_M l yX0_members wsX0_members ({ frames := 7, cells := 1, slots := 6, locals := 110 } : Room) (kz_P D ((cI, .int) :: (cZ, .boolean) :: ty) (wX ad cI cZ it o n g v r nx mt fl pr ofs ak hd an ++ rs) sz [.ref (ad 0), .int p0, .int p1, .int p2]) (kz_Wr D (va_A (wX ad cI cZ it o n g v r nx mt fl pr ofs ak hd an ++ rs) sz) (kz_v (tc_members p0 p1 p2 = 0)) (wX ad cI cZ it p0 p1 p2 v r nx mt fl pr ofs ak hd an ++ rs)) (kz_T (fun _ => IAE) (fun k => k = tc_members p0 p1 p2 ∧ ¬ k = 0)) 0 0 (va_A (wX ad cI cZ it o n g v r nx mt fl pr ofs ak hd an ++ rs) sz) := by
  refine ez_ofW (cc := cX0_members) (maxL := 4) (ret := none) (by decide) rfl ?_
  intro p e s m args below meth c s₁ B hml hTab hv
  obtain ⟨rfl, hsz, hP, hK, hD0, hE⟩ := hv
  have hx := B.exec
  have hb := B.bytes
  have hr := B.returns
  have hw9 : ∀ w ∈ kz_W9, w.before ([.ref (ad 0), .int p0, .int p1, .int p2] : List Value).toArray s = true := fun w h => atoms_spec (ws := wsX0_members) B.pre w (List.mem_cons_of_mem _ h)
  have hown : s.vm.findClass RX0 = some m.cls := findClass_of_methodNamed B.named
  have hlocks := B.notSynchronized
  subst hsz
  have hD := hD0.self (sz := s.heap.size)
  generalize hAe : va_A (wX ad cI cZ it o n g v r nx mt fl pr ofs ak hd an ++ rs) s.heap.size = A at hD hE ⊢
  have hA : ∀ q : Nat, s.heap.size ≤ q → A q := fun q h => by rw [← hAe]; exact Or.inr h
  have hS : va_S A s.heap s.heap [] := va_S.rf
  have hO : kz_O s.heap s.heap := kz_O.rf _
  have hl := lv_entry ([.ref (ad 0), .int p0, .int p1, .int p2]) (n := 4) (Nat.le_of_ble_eq_true rfl)
  rw [lg_entry_eq]
  generalize (lg_sl ([.ref (ad 0), .int p0, .int p1, .int p2]) ++ List.replicate (4 - (lg_sl ([.ref (ad 0), .int p0, .int p1, .int p2])).length) Slot.unset).toArray = ls at hl ⊢
  have hl : lv_has ls 4 [(0, .ref (ad 0)), (1, .int p0), (2, .int p1), (3, .int p2)] := hl
  refine lv_iload_n hx hb dX0_members_0 rfl (lv_at hl 1 rfl) ?_
  refine kz_rS (As := [.int p0]) (rest := []) ⟨hx, hb, hml, hown, hw9⟩ (c_X0_requireSet l hl9 D ((cI, .int) :: (cZ, .boolean) :: ty) (wX ad cI cZ it o n g v r nx mt fl pr ofs ak hd an ++ rs) s.heap.size p0) (kz_cS 1 hw9 mw_98 mw_99 mw_1 mw_100 rfl rfl (by decide +kernel) ⟨Nat.le_of_ble_eq_true rfl, Nat.le_of_ble_eq_true rfl⟩) (kz_preS hK hP hD hS hA hE) rfl hl.1 rfl (Nat.le_of_ble_eq_true rfl) dX0_members_1 ⟨Nat.le_of_ble_eq_true rfl, Nat.le_of_ble_eq_true rfl⟩ (fun k ce q9 H1 hk hO1 hce hcv hcl => ?_) (fun v9 H hv9 hO1 => ?_)
  · -- thrown
    exact kz_out (k := 1) hTab hlocks (by first | (simp [tc_members, hk]; done) | (simp only [tc_members, hk, eq_self, not_true_eq_false, not_false_eq_true, and_self, and_true, true_and, and_false, false_and, or_true, true_or, or_false, false_or, if_true, if_false, ite_true, ite_false, Bool.and_eq_true, decide_true, decide_false, decide_eq_true_eq, ne_eq, Nat.reduceEqDiff, Nat.one_ne_zero, Bool.false_eq_true, reduceCtorEq]; done) | (simp only [tc_members, hk, eq_self, not_true_eq_false, not_false_eq_true, and_self, and_true, true_and, and_false, false_and, or_true, true_or, or_false, false_or, if_true, if_false, ite_true, ite_false, Bool.and_eq_true, decide_true, decide_false, decide_eq_true_eq, ne_eq, Nat.reduceEqDiff, Nat.one_ne_zero, Bool.false_eq_true, reduceCtorEq]; decide)) (hO.tr hO1) hce hcv hcl (fun _ h => nomatch h) (Nat.le_of_ble_eq_true rfl) (Nat.le_of_ble_eq_true rfl)
  · -- goes on
    obtain ⟨rfl, hv_1⟩ := hv9
    have hP := hO1.P hP
    have hS := hO1.S hS
    have hO := hO.tr hO1
    refine W.eq (g2 := F0 m 4 ls []) rfl ?_
    refine lv_iload_n hx hb dX0_members_4 rfl (lv_at hl 2 rfl) ?_
    refine kz_rS (As := [.int p1]) (rest := []) ⟨hx, hb, hml, hown, hw9⟩ (c_X0_requireSet l hl9 D ((cI, .int) :: (cZ, .boolean) :: ty) (wX ad cI cZ it o n g v r nx mt fl pr ofs ak hd an ++ rs) H.size p1) (kz_cS 1 hw9 mw_98 mw_99 mw_1 mw_100 rfl rfl (by decide +kernel) ⟨Nat.le_of_ble_eq_true rfl, Nat.le_of_ble_eq_true rfl⟩) (kz_preS hK hP hD hS hA hE) rfl hl.1 rfl (Nat.le_of_ble_eq_true rfl) dX0_members_5 ⟨Nat.le_of_ble_eq_true rfl, Nat.le_of_ble_eq_true rfl⟩ (fun k ce q9 H1 hk hO1 hce hcv hcl => ?_) (fun v9 H hv9 hO1 => ?_)
    · -- thrown
      exact kz_out (k := 1) hTab hlocks (by first | (simp [tc_members, hv_1, hk]; done) | (simp only [tc_members, hv_1, hk, eq_self, not_true_eq_false, not_false_eq_true, and_self, and_true, true_and, and_false, false_and, or_true, true_or, or_false, false_or, if_true, if_false, ite_true, ite_false, Bool.and_eq_true, decide_true, decide_false, decide_eq_true_eq, ne_eq, Nat.reduceEqDiff, Nat.one_ne_zero, Bool.false_eq_true, reduceCtorEq]; done) | (simp only [tc_members, hv_1, hk, eq_self, not_true_eq_false, not_false_eq_true, and_self, and_true, true_and, and_false, false_and, or_true, true_or, or_false, false_or, if_true, if_false, ite_true, ite_false, Bool.and_eq_true, decide_true, decide_false, decide_eq_true_eq, ne_eq, Nat.reduceEqDiff, Nat.one_ne_zero, Bool.false_eq_true, reduceCtorEq]; decide)) (hO.tr hO1) hce hcv hcl (fun _ h => nomatch h) (Nat.le_of_ble_eq_true rfl) (Nat.le_of_ble_eq_true rfl)
    · -- goes on
      obtain ⟨rfl, hv_2⟩ := hv9
      have hP := hO1.P hP
      have hS := hO1.S hS
      have hO := hO.tr hO1
      refine W.eq (g2 := F0 m 8 ls []) rfl ?_
      refine lv_iload_n hx hb dX0_members_8 rfl (lv_at hl 3 rfl) ?_
      refine kz_rS (As := [.int p2]) (rest := []) ⟨hx, hb, hml, hown, hw9⟩ (c_X0_requireSet l hl9 D ((cI, .int) :: (cZ, .boolean) :: ty) (wX ad cI cZ it o n g v r nx mt fl pr ofs ak hd an ++ rs) H.size p2) (kz_cS 1 hw9 mw_98 mw_99 mw_1 mw_100 rfl rfl (by decide +kernel) ⟨Nat.le_of_ble_eq_true rfl, Nat.le_of_ble_eq_true rfl⟩) (kz_preS hK hP hD hS hA hE) rfl hl.1 rfl (Nat.le_of_ble_eq_true rfl) dX0_members_9 ⟨Nat.le_of_ble_eq_true rfl, Nat.le_of_ble_eq_true rfl⟩ (fun k ce q9 H1 hk hO1 hce hcv hcl => ?_) (fun v9 H hv9 hO1 => ?_)
      · -- thrown
        exact kz_out (k := 1) hTab hlocks (by first | (simp [tc_members, hv_1, hv_2, hk]; done) | (simp only [tc_members, hv_1, hv_2, hk, eq_self, not_true_eq_false, not_false_eq_true, and_self, and_true, true_and, and_false, false_and, or_true, true_or, or_false, false_or, if_true, if_false, ite_true, ite_false, Bool.and_eq_true, decide_true, decide_false, decide_eq_true_eq, ne_eq, Nat.reduceEqDiff, Nat.one_ne_zero, Bool.false_eq_true, reduceCtorEq]; done) | (simp only [tc_members, hv_1, hv_2, hk, eq_self, not_true_eq_false, not_false_eq_true, and_self, and_true, true_and, and_false, false_and, or_true, true_or, or_false, false_or, if_true, if_false, ite_true, ite_false, Bool.and_eq_true, decide_true, decide_false, decide_eq_true_eq, ne_eq, Nat.reduceEqDiff, Nat.one_ne_zero, Bool.false_eq_true, reduceCtorEq]; decide)) (hO.tr hO1) hce hcv hcl (fun _ h => nomatch h) (Nat.le_of_ble_eq_true rfl) (Nat.le_of_ble_eq_true rfl)
      · -- goes on
        obtain ⟨rfl, hv_3⟩ := hv9
        have hP := hO1.P hP
        have hS := hO1.S hS
        have hO := hO.tr hO1
        refine W.eq (g2 := F0 m 12 ls []) rfl ?_
        refine lv_iload_n hx hb dX0_members_12 rfl (lv_at hl 1 rfl) ?_
        refine lv_if_ne (tgt := 26) hx hb dX0_members_13 (by decide) (fun c_4 => ?_) (fun c_4 => ?_)
        · -- 13 -> 26
          refine lv_iload_n hx hb dX0_members_26 rfl (lv_at hl 3 rfl) ?_
          refine lv_iload_n hx hb dX0_members_27 rfl (lv_at hl 1 rfl) ?_
          refine lv_iload_n hx hb dX0_members_28 rfl (lv_at hl 2 rfl) ?_
          refine lv_ior hx hb dX0_members_29 ?_
          refine lv_iand hx hb dX0_members_30 ?_
          refine lv_if_eq (tgt := 44) hx hb dX0_members_31 (by decide) (fun c_5 => ?_) (fun c_5 => ?_)
          · -- 31 -> 44
            refine lv_aload_n hx hb dX0_members_44 rfl (lv_at hl 0 rfl) ?_
            refine lv_iload_n hx hb dX0_members_45 rfl (lv_at hl 1 rfl) ?_
            refine va_put (D := D) (ci := 0) (v := .int p0) (ty := .int) (C := RX0) (T := TX0) (N := 14) hx hb hw9 uX0 tyX0 tyX0_ok nmX0 hown hK hP hD hS 0 rfl rfl 1 (by decide) (hw9 _ mw_20) (fun _ h9 => h9) rfl (by decide +kernel) rfl rfl (Nat.le_of_ble_eq_true rfl) dX0_members_46 (fun H locs hP hD hS => ?_)
            have hP : va_P D vwCl (wX ad cI cZ it p0 n g v r nx mt fl pr ofs ak hd an ++ rs) H := hP
            have hD : va_D A (wX ad cI cZ it p0 n g v r nx mt fl pr ofs ak hd an ++ rs) := hD
            refine lv_aload_n hx hb dX0_members_49 rfl (lv_at hl 0 rfl) ?_
            refine lv_iload_n hx hb dX0_members_50 rfl (lv_at hl 2 rfl) ?_
            refine va_put (D := D) (ci := 0) (v := .int p1) (ty := .int) (C := RX0) (T := TX0) (N := 14) hx hb hw9 uX0 tyX0 tyX0_ok nmX0 hown hK hP hD hS 0 rfl rfl 2 (by decide) (hw9 _ mw_21) (fun _ h9 => h9) rfl (by decide +kernel) rfl rfl (Nat.le_of_ble_eq_true rfl) dX0_members_51 (fun H locs hP hD hS => ?_)
            have hP : va_P D vwCl (wX ad cI cZ it p0 p1 g v r nx mt fl pr ofs ak hd an ++ rs) H := hP
            have hD : va_D A (wX ad cI cZ it p0 p1 g v r nx mt fl pr ofs ak hd an ++ rs) := hD
            refine lv_aload_n hx hb dX0_members_54 rfl (lv_at hl 0 rfl) ?_
            refine lv_iload_n hx hb dX0_members_55 rfl (lv_at hl 3 rfl) ?_
            refine va_put (D := D) (ci := 0) (v := .int p2) (ty := .int) (C := RX0) (T := TX0) (N := 14) hx hb hw9 uX0 tyX0 tyX0_ok nmX0 hown hK hP hD hS 0 rfl rfl 3 (by decide) (hw9 _ mw_22) (fun _ h9 => h9) rfl (by decide +kernel) rfl rfl (Nat.le_of_ble_eq_true rfl) dX0_members_56 (fun H locs hP hD hS => ?_)
            have hP : va_P D vwCl (wX ad cI cZ it p0 p1 p2 v r nx mt fl pr ofs ak hd an ++ rs) H := hP
            have hD : va_D A (wX ad cI cZ it p0 p1 p2 v r nx mt fl pr ofs ak hd an ++ rs) := hD
            exact kz_wretv hx hb hr hlocks hP hD hS (Nat.le_of_ble_eq_true rfl) (Nat.le_of_ble_eq_true rfl) (by first | (simp [tc_members, hv_1, hv_2, hv_3, c_4, c_5]; done) | (simp only [tc_members, hv_1, hv_2, hv_3, c_4, c_5, eq_self, not_true_eq_false, not_false_eq_true, and_self, and_true, true_and, and_false, false_and, or_true, true_or, or_false, false_or, if_true, if_false, ite_true, ite_false, Bool.and_eq_true, decide_true, decide_false, decide_eq_true_eq, ne_eq, Nat.reduceEqDiff, Nat.one_ne_zero, Bool.false_eq_true, reduceCtorEq]; done) | (simp only [tc_members, hv_1, hv_2, hv_3, c_4, c_5, eq_self, not_true_eq_false, not_false_eq_true, and_self, and_true, true_and, and_false, false_and, or_true, true_or, or_false, false_or, if_true, if_false, ite_true, ite_false, Bool.and_eq_true, decide_true, decide_false, decide_eq_true_eq, ne_eq, Nat.reduceEqDiff, Nat.one_ne_zero, Bool.false_eq_true, reduceCtorEq]; decide))  dX0_members_59
          · -- 31 -> 34
            obtain ⟨sa9, hst9⟩ := hE.2.2.1 (53, "a learner is a voter") (by decide)
            exact ez_throwS (cls := IAE) (names := EXN) hx hb hl9 hown (by decide +kernel) (by decide +kernel) (hw9 _ mw_101) (hw9 _ mw_6) hst9 (at_IAE hw9 hE) hO.1 (by rw [hml]; exact hl.1) hTab hlocks dX0_members_34 dX0_members_37 dX0_members_38 dX0_members_40 dX0_members_43 (by decide) (Nat.le_of_ble_eq_true rfl) (Nat.le_of_ble_eq_true rfl) (Nat.le_of_ble_eq_true rfl) (fun q t ce h1 h2 h3 h4 h5 h6 => ⟨1, ce, (by first | (simp [tc_members, hv_1, hv_2, hv_3, c_4, c_5]; done) | (simp only [tc_members, hv_1, hv_2, hv_3, c_4, c_5, eq_self, not_true_eq_false, not_false_eq_true, and_self, and_true, true_and, and_false, false_and, or_true, true_or, or_false, false_or, if_true, if_false, ite_true, ite_false, Bool.and_eq_true, decide_true, decide_false, decide_eq_true_eq, ne_eq, Nat.reduceEqDiff, Nat.one_ne_zero, Bool.false_eq_true, reduceCtorEq]; done) | (simp only [tc_members, hv_1, hv_2, hv_3, c_4, c_5, eq_self, not_true_eq_false, not_false_eq_true, and_self, and_true, true_and, and_false, false_and, or_true, true_or, or_false, false_or, if_true, if_false, ite_true, ite_false, Bool.and_eq_true, decide_true, decide_false, decide_eq_true_eq, ne_eq, Nat.reduceEqDiff, Nat.one_ne_zero, Bool.false_eq_true, reduceCtorEq]; decide)), h1, h2, by rw [h4.findClass]; exact h3, h5, h6⟩)
        · -- 13 -> 16
          obtain ⟨sa9, hst9⟩ := hE.2.2.1 (48, "OLD is empty") (by decide)
          exact ez_throwS (cls := IAE) (names := EXN) hx hb hl9 hown (by decide +kernel) (by decide +kernel) (hw9 _ mw_101) (hw9 _ mw_6) hst9 (at_IAE hw9 hE) hO.1 (by rw [hml]; exact hl.1) hTab hlocks dX0_members_16 dX0_members_19 dX0_members_20 dX0_members_22 dX0_members_25 (by decide) (Nat.le_of_ble_eq_true rfl) (Nat.le_of_ble_eq_true rfl) (Nat.le_of_ble_eq_true rfl) (fun q t ce h1 h2 h3 h4 h5 h6 => ⟨1, ce, (by first | (simp [tc_members, hv_1, hv_2, hv_3, c_4]; done) | (simp only [tc_members, hv_1, hv_2, hv_3, c_4, eq_self, not_true_eq_false, not_false_eq_true, and_self, and_true, true_and, and_false, false_and, or_true, true_or, or_false, false_or, if_true, if_false, ite_true, ite_false, Bool.and_eq_true, decide_true, decide_false, decide_eq_true_eq, ne_eq, Nat.reduceEqDiff, Nat.one_ne_zero, Bool.false_eq_true, reduceCtorEq]; done) | (simp only [tc_members, hv_1, hv_2, hv_3, c_4, eq_self, not_true_eq_false, not_false_eq_true, and_self, and_true, true_and, and_false, false_and, or_true, true_or, or_false, false_or, if_true, if_false, ite_true, ite_false, Bool.and_eq_true, decide_true, decide_false, decide_eq_true_eq, ne_eq, Nat.reduceEqDiff, Nat.one_ne_zero, Bool.false_eq_true, reduceCtorEq]; decide)), h1, h2, by rw [h4.findClass]; exact h3, h5, h6⟩)
set_option maxHeartbeats 4000000 in
set_option maxRecDepth 100000 in
theorem c_X0_change (l : Launch) (hl9 : l.stackTraces = false) (D : va_G) (cI cZ : ClassId) (ty : kz_Y) (ad : Nat → Nat) (rs : va_W) (sz : Nat) (it o n g v r : Int32) (nx mt fl pr ofs ak hd an : Nat → Int32) (p0 : Int32) (p1 : Int32) : ez_M l yX0_change wsX0_change ({ frames := 7, cells := 1, slots := 6, locals := 110 } : Room) (kz_P D ((cI, .int) :: (cZ, .boolean) :: ty) (wX ad cI cZ it o n g v r nx mt fl pr ofs ak hd an ++ rs) sz [.ref (ad 0), .int p0, .int p1]) (kz_Wr D (va_A (wX ad cI cZ it o n g v r nx mt fl pr ofs ak hd an ++ rs) sz) (kz_v (tc_change o n g mt p0 p1 = 0)) (wX ad cI cZ it o p0 (g &&& (p0 ^^^ (-1))) v r nx mt fl pr ofs ak hd an ++ rs)) (kz_T (fun k => match k with | 1 => IAE | _ => ISE) (fun k => k = tc_change o n g mt p0 p1 ∧ ¬ k = 0)) 0 0 (va_A (wX ad cI cZ it o n g v r nx mt fl pr ofs ak hd an ++ rs) sz) := by
  refine ez_ofW (cc := cX0_change) (maxL := 3) (ret := none) (by decide) rfl ?_
  intro p e s m args below meth c s₁ B hml hTab hv
  obtain ⟨rfl, hsz, hP, hK, hD0, hE⟩ := hv
  have hx := B.exec
  have hb := B.bytes
  have hr := B.returns
  have hw9 : ∀ w ∈ kz_W9, w.before ([.ref (ad 0), .int p0, .int p1] : List Value).toArray s = true := fun w h => atoms_spec (ws := wsX0_change) B.pre w (List.mem_cons_of_mem _ h)
  have hown : s.vm.findClass RX0 = some m.cls := findClass_of_methodNamed B.named
  have hlocks := B.notSynchronized
  subst hsz
  have hD := hD0.self (sz := s.heap.size)
  generalize hAe : va_A (wX ad cI cZ it o n g v r nx mt fl pr ofs ak hd an ++ rs) s.heap.size = A at hD hE ⊢
  have hA : ∀ q : Nat, s.heap.size ≤ q → A q := fun q h => by rw [← hAe]; exact Or.inr h
  have hS : va_S A s.heap s.heap [] := va_S.rf
  have hO : kz_O s.heap s.heap := kz_O.rf _
  have hl := lv_entry ([.ref (ad 0), .int p0, .int p1]) (n := 3) (Nat.le_of_ble_eq_true rfl)
  rw [lg_entry_eq]
  generalize (lg_sl ([.ref (ad 0), .int p0, .int p1]) ++ List.replicate (3 - (lg_sl ([.ref (ad 0), .int p0, .int p1])).length) Slot.unset).toArray = ls at hl ⊢
  have hl : lv_has ls 3 [(0, .ref (ad 0)), (1, .int p0), (2, .int p1)] := hl
  refine lv_iload_n hx hb dX0_change_0 rfl (lv_at hl 1 rfl) ?_
  refine kz_rS (As := [.int p0]) (rest := []) ⟨hx, hb, hml, hown, hw9⟩ (c_X0_requireSet l hl9 D ((cI, .int) :: (cZ, .boolean) :: ty) (wX ad cI cZ it o n g v r nx mt fl pr ofs ak hd an ++ rs) s.heap.size p0) (kz_cS 1 hw9 mw_98 mw_99 mw_1 mw_100 rfl rfl (by decide +kernel) ⟨Nat.le_of_ble_eq_true rfl, Nat.le_of_ble_eq_true rfl⟩) (kz_preS hK hP hD hS hA hE) rfl hl.1 rfl (Nat.le_of_ble_eq_true rfl) dX0_change_1 ⟨Nat.le_of_ble_eq_true rfl, Nat.le_of_ble_eq_true rfl⟩ (fun k ce q9 H1 hk hO1 hce hcv hcl => ?_) (fun v9 H hv9 hO1 => ?_)
  · -- thrown
    exact kz_out (k := 1) hTab hlocks (by first | (simp [tc_change, hk]; done) | (simp only [tc_change, hk, eq_self, not_true_eq_false, not_false_eq_true, and_self, and_true, true_and, and_false, false_and, or_true, true_or, or_false, false_or, if_true, if_false, ite_true, ite_false, Bool.and_eq_true, decide_true, decide_false, decide_eq_true_eq, ne_eq, Nat.reduceEqDiff, Nat.one_ne_zero, Bool.false_eq_true, reduceCtorEq]; done) | (simp only [tc_change, hk, eq_self, not_true_eq_false, not_false_eq_true, and_self, and_true, true_and, and_false, false_and, or_true, true_or, or_false, false_or, if_true, if_false, ite_true, ite_false, Bool.and_eq_true, decide_true, decide_false, decide_eq_true_eq, ne_eq, Nat.reduceEqDiff, Nat.one_ne_zero, Bool.false_eq_true, reduceCtorEq]; decide)) (hO.tr hO1) hce hcv hcl (fun _ h => nomatch h) (Nat.le_of_ble_eq_true rfl) (Nat.le_of_ble_eq_true rfl)
  · -- goes on
    obtain ⟨rfl, hv_1⟩ := hv9
    have hP := hO1.P hP
    have hS := hO1.S hS
    have hO := hO.tr hO1
    refine W.eq (g2 := F0 m 4 ls []) rfl ?_
    refine lv_iload_n hx hb dX0_change_4 rfl (lv_at hl 1 rfl) ?_
    refine lv_if_ne (tgt := 18) hx hb dX0_change_5 (by decide) (fun c_2 => ?_) (fun c_2 => ?_)
    · -- 5 -> 18
      refine lv_iload_n hx hb dX0_change_18 rfl (lv_at hl 1 rfl) ?_
      refine lv_aload_n hx hb dX0_change_19 rfl (lv_at hl 0 rfl) ?_
      refine va_get (D := D) (ci := 0) (v := .int o) (C := RX0) (T := TX0) (N := 14) hx hb hw9 uX0 hown hK hP 0 rfl rfl 1 (by decide) (hw9 _ mw_20) (fun _ h9 => h9) rfl dX0_change_20 ?_
      refine lv_aload_n hx hb dX0_change_23 rfl (lv_at hl 0 rfl) ?_
      refine lv_iload_n hx hb dX0_change_24 rfl (lv_at hl 2 rfl) ?_
      refine kz_rV (As := [.int p1]) (rest := [.int o, .int p0]) ⟨hx, hb, hml, hown, hw9⟩ (c_X0_learnersMatching l hl9 D cI cZ ty ad rs H.size it o n g v r nx mt fl pr ofs ak hd an p1) (kz_cV 1 hw9 mw_180 mw_182 ms_3 mw_1 mw_183 rfl rfl (by decide +kernel) ⟨Nat.le_of_ble_eq_true rfl, Nat.le_of_ble_eq_true rfl⟩) (kz_preV (q0 := 0) (ci := 0) hK hP hD hS hA hE rfl rfl) rfl hl.1 rfl (Nat.le_of_ble_eq_true rfl) dX0_change_25 ⟨Nat.le_of_ble_eq_true rfl, Nat.le_of_ble_eq_true rfl⟩ (fun _ _ _ _ h => False.elim h) (fun v9 H hv9 hO1 => ?_)
      obtain ⟨_, rfl, rfl⟩ := hv9
      have hP := hO1.P hP
      have hS := hO1.S hS
      have hO := hO.tr hO1
      refine W.eq (g2 := F0 m 28 ls [.int (g &&& sq_L mt p1 7), .int o, .int p0]) rfl ?_
      refine lv_ior hx hb dX0_change_28 ?_
      refine lv_iconst (v := (-1)) hx hb dX0_change_29 (by decide) ?_
      refine lv_ixor hx hb dX0_change_30 ?_
      refine lv_iand hx hb dX0_change_31 ?_
      refine lv_if_eq (tgt := 45) hx hb dX0_change_32 (by decide) (fun c_3 => ?_) (fun c_3 => ?_)
      · -- 32 -> 45
        refine lv_aload_n hx hb dX0_change_45 rfl (lv_at hl 0 rfl) ?_
        refine va_get (D := D) (ci := 0) (v := .int n) (C := RX0) (T := TX0) (N := 14) hx hb hw9 uX0 hown hK hP 0 rfl rfl 2 (by decide) (hw9 _ mw_21) (fun _ h9 => h9) rfl dX0_change_46 ?_
        refine lv_if_eq (tgt := 62) hx hb dX0_change_49 (by decide) (fun c_4 => ?_) (fun c_4 => ?_)
        · -- 49 -> 62
          refine lv_aload_n hx hb dX0_change_62 rfl (lv_at hl 0 rfl) ?_
          refine lv_iload_n hx hb dX0_change_63 rfl (lv_at hl 1 rfl) ?_
          refine va_put (D := D) (ci := 0) (v := .int p0) (ty := .int) (C := RX0) (T := TX0) (N := 14) hx hb hw9 uX0 tyX0 tyX0_ok nmX0 hown hK hP hD hS 0 rfl rfl 2 (by decide) (hw9 _ mw_21) (fun _ h9 => h9) rfl (by decide +kernel) rfl rfl (Nat.le_of_ble_eq_true rfl) dX0_change_64 (fun H locs hP hD hS => ?_)
          have hP : va_P D vwCl (wX ad cI cZ it o p0 g v r nx mt fl pr ofs ak hd an ++ rs) H := hP
          have hD : va_D A (wX ad cI cZ it o p0 g v r nx mt fl pr ofs ak hd an ++ rs) := hD
          refine lv_aload_n hx hb dX0_change_67 rfl (lv_at hl 0 rfl) ?_
          refine lv_aload_n hx hb dX0_change_68 rfl (lv_at hl 0 rfl) ?_
          refine va_get (D := D) (ci := 0) (v := .int g) (C := RX0) (T := TX0) (N := 14) hx hb hw9 uX0 hown hK hP 0 rfl rfl 3 (by decide) (hw9 _ mw_22) (fun _ h9 => h9) rfl dX0_change_69 ?_
          refine lv_iload_n hx hb dX0_change_72 rfl (lv_at hl 1 rfl) ?_
          refine lv_iconst (v := (-1)) hx hb dX0_change_73 (by decide) ?_
          refine lv_ixor hx hb dX0_change_74 ?_
          refine lv_iand hx hb dX0_change_75 ?_
          refine va_put (D := D) (ci := 0) (v := .int (g &&& (p0 ^^^ (-1)))) (ty := .int) (C := RX0) (T := TX0) (N := 14) hx hb hw9 uX0 tyX0 tyX0_ok nmX0 hown hK hP hD hS 0 rfl rfl 3 (by decide) (hw9 _ mw_22) (fun _ h9 => h9) rfl (by decide +kernel) rfl rfl (Nat.le_of_ble_eq_true rfl) dX0_change_76 (fun H locs hP hD hS => ?_)
          have hP : va_P D vwCl (wX ad cI cZ it o p0 (g &&& (p0 ^^^ (-1))) v r nx mt fl pr ofs ak hd an ++ rs) H := hP
          have hD : va_D A (wX ad cI cZ it o p0 (g &&& (p0 ^^^ (-1))) v r nx mt fl pr ofs ak hd an ++ rs) := hD
          exact kz_wretv hx hb hr hlocks hP hD hS (Nat.le_of_ble_eq_true rfl) (Nat.le_of_ble_eq_true rfl) (by first | (simp [tc_change, hv_1, c_2, c_3, c_4]; done) | (simp only [tc_change, hv_1, c_2, c_3, c_4, eq_self, not_true_eq_false, not_false_eq_true, and_self, and_true, true_and, and_false, false_and, or_true, true_or, or_false, false_or, if_true, if_false, ite_true, ite_false, Bool.and_eq_true, decide_true, decide_false, decide_eq_true_eq, ne_eq, Nat.reduceEqDiff, Nat.one_ne_zero, Bool.false_eq_true, reduceCtorEq]; done) | (simp only [tc_change, hv_1, c_2, c_3, c_4, eq_self, not_true_eq_false, not_false_eq_true, and_self, and_true, true_and, and_false, false_and, or_true, true_or, or_false, false_or, if_true, if_false, ite_true, ite_false, Bool.and_eq_true, decide_true, decide_false, decide_eq_true_eq, ne_eq, Nat.reduceEqDiff, Nat.one_ne_zero, Bool.false_eq_true, reduceCtorEq]; decide))  dX0_change_79
        · -- 49 -> 52
          obtain ⟨sa9, hst9⟩ := hE.2.2.1 (71, "a change is under way") (by decide)
          exact ez_throwS (cls := ISE) (names := EXN) hx hb hl9 hown (by decide +kernel) (by decide +kernel) (hw9 _ mw_188) (hw9 _ mw_7) hst9 (at_ISE hw9 hE) hO.1 (by rw [hml]; exact hl.1) hTab hlocks dX0_change_52 dX0_change_55 dX0_change_56 dX0_change_58 dX0_change_61 (by decide) (Nat.le_of_ble_eq_true rfl) (Nat.le_of_ble_eq_true rfl) (Nat.le_of_ble_eq_true rfl) (fun q t ce h1 h2 h3 h4 h5 h6 => ⟨2, ce, (by first | (simp [tc_change, hv_1, c_2, c_3, c_4]; done) | (simp only [tc_change, hv_1, c_2, c_3, c_4, eq_self, not_true_eq_false, not_false_eq_true, and_self, and_true, true_and, and_false, false_and, or_true, true_or, or_false, false_or, if_true, if_false, ite_true, ite_false, Bool.and_eq_true, decide_true, decide_false, decide_eq_true_eq, ne_eq, Nat.reduceEqDiff, Nat.one_ne_zero, Bool.false_eq_true, reduceCtorEq]; done) | (simp only [tc_change, hv_1, c_2, c_3, c_4, eq_self, not_true_eq_false, not_false_eq_true, and_self, and_true, true_and, and_false, false_and, or_true, true_or, or_false, false_or, if_true, if_false, ite_true, ite_false, Bool.and_eq_true, decide_true, decide_false, decide_eq_true_eq, ne_eq, Nat.reduceEqDiff, Nat.one_ne_zero, Bool.false_eq_true, reduceCtorEq]; decide)), h1, h2, by rw [h4.findClass]; exact h3, h5, h6⟩)
      · -- 32 -> 35
        obtain ⟨sa9, hst9⟩ := hE.2.2.1 (67, "one of the target is neither old nor a learner far enough") (by decide)
        exact ez_throwS (cls := IAE) (names := EXN) hx hb hl9 hown (by decide +kernel) (by decide +kernel) (hw9 _ mw_101) (hw9 _ mw_6) hst9 (at_IAE hw9 hE) hO.1 (by rw [hml]; exact hl.1) hTab hlocks dX0_change_35 dX0_change_38 dX0_change_39 dX0_change_41 dX0_change_44 (by decide) (Nat.le_of_ble_eq_true rfl) (Nat.le_of_ble_eq_true rfl) (Nat.le_of_ble_eq_true rfl) (fun q t ce h1 h2 h3 h4 h5 h6 => ⟨1, ce, (by first | (simp [tc_change, hv_1, c_2, c_3]; done) | (simp only [tc_change, hv_1, c_2, c_3, eq_self, not_true_eq_false, not_false_eq_true, and_self, and_true, true_and, and_false, false_and, or_true, true_or, or_false, false_or, if_true, if_false, ite_true, ite_false, Bool.and_eq_true, decide_true, decide_false, decide_eq_true_eq, ne_eq, Nat.reduceEqDiff, Nat.one_ne_zero, Bool.false_eq_true, reduceCtorEq]; done) | (simp only [tc_change, hv_1, c_2, c_3, eq_self, not_true_eq_false, not_false_eq_true, and_self, and_true, true_and, and_false, false_and, or_true, true_or, or_false, false_or, if_true, if_false, ite_true, ite_false, Bool.and_eq_true, decide_true, decide_false, decide_eq_true_eq, ne_eq, Nat.reduceEqDiff, Nat.one_ne_zero, Bool.false_eq_true, reduceCtorEq]; decide)), h1, h2, by rw [h4.findClass]; exact h3, h5, h6⟩)
    · -- 5 -> 8
      obtain ⟨sa9, hst9⟩ := hE.2.2.1 (61, "the target is empty") (by decide)
      exact ez_throwS (cls := IAE) (names := EXN) hx hb hl9 hown (by decide +kernel) (by decide +kernel) (hw9 _ mw_101) (hw9 _ mw_6) hst9 (at_IAE hw9 hE) hO.1 (by rw [hml]; exact hl.1) hTab hlocks dX0_change_8 dX0_change_11 dX0_change_12 dX0_change_14 dX0_change_17 (by decide) (Nat.le_of_ble_eq_true rfl) (Nat.le_of_ble_eq_true rfl) (Nat.le_of_ble_eq_true rfl) (fun q t ce h1 h2 h3 h4 h5 h6 => ⟨1, ce, (by first | (simp [tc_change, hv_1, c_2]; done) | (simp only [tc_change, hv_1, c_2, eq_self, not_true_eq_false, not_false_eq_true, and_self, and_true, true_and, and_false, false_and, or_true, true_or, or_false, false_or, if_true, if_false, ite_true, ite_false, Bool.and_eq_true, decide_true, decide_false, decide_eq_true_eq, ne_eq, Nat.reduceEqDiff, Nat.one_ne_zero, Bool.false_eq_true, reduceCtorEq]; done) | (simp only [tc_change, hv_1, c_2, eq_self, not_true_eq_false, not_false_eq_true, and_self, and_true, true_and, and_false, false_and, or_true, true_or, or_false, false_or, if_true, if_false, ite_true, ite_false, Bool.and_eq_true, decide_true, decide_false, decide_eq_true_eq, ne_eq, Nat.reduceEqDiff, Nat.one_ne_zero, Bool.false_eq_true, reduceCtorEq]; decide)), h1, h2, by rw [h4.findClass]; exact h3, h5, h6⟩)
