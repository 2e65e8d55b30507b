set_option maxHeartbeats 4000000 in
set_option maxRecDepth 100000 in
theorem c_X0_agreed (l : Launch) (hl9 : l.stackTraces = false) (D : va_G) (cI cZ : ClassId) (ty : kz_Y) (ad : Nat → Nat) (rs : va_W) (sz : Nat) (it o n g v r : Int32) (nx mt fl pr ofs ak hd an : Nat → Int32) (p0 : Int32) : ez_M l yX0_agreed wsX0_agreed ({ frames := 6, cells := 1, slots := 6, locals := 90 } : Room) (kz_P D ((cI, .int) :: (cZ, .boolean) :: ty) (wX ad cI cZ it o n g v r nx mt fl pr ofs ak hd an ++ rs) sz [.ref (ad 0), .int p0]) (kz_Ro (kz_i (fun r9 => (tc_agreed p0 = 0) ∧ r9 = (if p0 = 0 then sq_A o n mt 7 else if p0 = 1 then sq_A o n ak 7 else sq_A o n hd 7)))) (kz_T (fun _ => IAE) (fun k => k = tc_agreed p0 ∧ ¬ k = 0)) 0 0 (fun _ => False) := by
  refine ez_ofW (cc := cX0_agreed) (maxL := 2) (ret := (some .int)) (by decide) rfl ?_
  intro p e s m args below meth c s₁ B hml hTab hv
  obtain ⟨rfl, hsz, hP, hK, hD0, hE⟩ := hv
  have hx := B.exec
  have hb := B.bytes
  have hr := B.returns
  have hw9 : ∀ w ∈ kz_W9, w.before ([.ref (ad 0), .int p0] : List Value).toArray s = true := fun w h => atoms_spec (ws := wsX0_agreed) B.pre w (List.mem_cons_of_mem _ h)
  have hown : s.vm.findClass RX0 = some m.cls := findClass_of_methodNamed B.named
  have hlocks := B.notSynchronized
  subst hsz
  have hD := hD0.self (sz := s.heap.size)
  generalize hAe : va_A (wX ad cI cZ it o n g v r nx mt fl pr ofs ak hd an ++ rs) s.heap.size = A at hD hE
  have hA : ∀ q : Nat, s.heap.size ≤ q → A q := fun q h => by rw [← hAe]; exact Or.inr h
  have hS : va_S A s.heap s.heap [] := va_S.rf
  have hO : kz_O s.heap s.heap := kz_O.rf _
  have hl := lv_entry ([.ref (ad 0), .int p0]) (n := 2) (Nat.le_of_ble_eq_true rfl)
  rw [lg_entry_eq]
  generalize (lg_sl ([.ref (ad 0), .int p0]) ++ List.replicate (2 - (lg_sl ([.ref (ad 0), .int p0])).length) Slot.unset).toArray = ls at hl ⊢
  have hl : lv_has ls 2 [(0, .ref (ad 0)), (1, .int p0)] := hl
  refine lv_iload_n hx hb dX0_agreed_0 rfl (lv_at hl 1 rfl) ?_
  by_cases c_1 : p0 = 0
  · -- case 0
    refine lv_tableIn (tgt := 28) hx hb dX0_agreed_1 (by rw [c_1]; decide) (by rw [c_1]; decide) (by rw [c_1]; rfl) (by decide) ?_
    refine lv_aload_n hx hb dX0_agreed_28 rfl (lv_at hl 0 rfl) ?_
    refine lv_aload_n hx hb dX0_agreed_29 rfl (lv_at hl 0 rfl) ?_
    refine va_get (D := D) (ci := 0) (v := .ref (ad 2)) (C := RX0) (T := TX0) (N := 14) hx hb hw9 uX0 hown hK hP 0 rfl rfl 7 (by decide) (hw9 _ mw_26) (fun _ h9 => h9) rfl dX0_agreed_30 ?_
    refine kz_rV (As := [.ref (ad 2)]) (rest := []) ⟨hx, hb, hml, hown, hw9⟩ (c_X0_whatMajorityHas l hl9 D cI cZ ty ad rs s.heap.size it o n g v r nx mt fl pr ofs ak hd an mt 2 (ad 2) rfl) (kz_cV 1 hw9 mw_341 mw_343 ms_10 mw_1 mw_344 rfl rfl (by decide +kernel) ⟨Nat.le_of_ble_eq_true rfl, Nat.le_of_ble_eq_true rfl⟩) (kz_preV (q0 := 0) (ci := 0) hK hP hD hS hA hE rfl rfl) rfl hl.1 rfl (Nat.le_of_ble_eq_true rfl) dX0_agreed_33 ⟨Nat.le_of_ble_eq_true rfl, Nat.le_of_ble_eq_true rfl⟩ (fun _ _ _ _ h => False.elim h) (fun v9 H hv9 hO1 => ?_)
    obtain ⟨_, rfl, rfl⟩ := hv9
    have hP := hO1.P hP
    have hS := hO1.S hS
    have hO := hO.tr hO1
    refine W.eq (g2 := F0 m 36 ls [.int (sq_A o n mt 7)]) rfl ?_
    exact kz_reti hx hb hr hlocks hO (⟨by first | (simp [tc_agreed, c_1]; done) | (simp only [tc_agreed, c_1, eq_self, not_true_eq_false, not_false_eq_true, and_self, and_true, true_and, and_false, false_and, or_true, true_or, or_false, false_or, if_true, if_false, ite_true, ite_false, Bool.and_eq_true, decide_true, decide_false, decide_eq_true_eq, ne_eq, Nat.reduceEqDiff, Nat.one_ne_zero, Bool.false_eq_true, reduceCtorEq]; done) | (simp only [tc_agreed, c_1, eq_self, not_true_eq_false, not_false_eq_true, and_self, and_true, true_and, and_false, false_and, or_true, true_or, or_false, false_or, if_true, if_false, ite_true, ite_false, Bool.and_eq_true, decide_true, decide_false, decide_eq_true_eq, ne_eq, Nat.reduceEqDiff, Nat.one_ne_zero, Bool.false_eq_true, reduceCtorEq]; decide), by first | (simp [c_1]; done) | (simp only [c_1, eq_self, not_true_eq_false, not_false_eq_true, and_self, and_true, true_and, and_false, false_and, or_true, true_or, or_false, false_or, if_true, if_false, ite_true, ite_false, Bool.and_eq_true, decide_true, decide_false, decide_eq_true_eq, ne_eq, Nat.reduceEqDiff, Nat.one_ne_zero, Bool.false_eq_true, reduceCtorEq]; done) | (simp only [c_1, eq_self, not_true_eq_false, not_false_eq_true, and_self, and_true, true_and, and_false, false_and, or_true, true_or, or_false, false_or, if_true, if_false, ite_true, ite_false, Bool.and_eq_true, decide_true, decide_false, decide_eq_true_eq, ne_eq, Nat.reduceEqDiff, Nat.one_ne_zero, Bool.false_eq_true, reduceCtorEq]; decide)⟩)  dX0_agreed_36
  by_cases c_2 : p0 = 1
  · -- case 1
    refine lv_tableIn (tgt := 37) hx hb dX0_agreed_1 (by rw [c_2]; decide) (by rw [c_2]; decide) (by rw [c_2]; rfl) (by decide) ?_
    refine lv_aload_n hx hb dX0_agreed_37 rfl (lv_at hl 0 rfl) ?_
    refine lv_aload_n hx hb dX0_agreed_38 rfl (lv_at hl 0 rfl) ?_
    refine va_get (D := D) (ci := 0) (v := .ref (ad 6)) (C := RX0) (T := TX0) (N := 14) hx hb hw9 uX0 hown hK hP 0 rfl rfl 11 (by decide) (hw9 _ mw_30) (fun _ h9 => h9) rfl dX0_agreed_39 ?_
    refine kz_rV (As := [.ref (ad 6)]) (rest := []) ⟨hx, hb, hml, hown, hw9⟩ (c_X0_whatMajorityHas l hl9 D cI cZ ty ad rs s.heap.size it o n g v r nx mt fl pr ofs ak hd an ak 6 (ad 6) rfl) (kz_cV 1 hw9 mw_341 mw_343 ms_10 mw_1 mw_344 rfl rfl (by decide +kernel) ⟨Nat.le_of_ble_eq_true rfl, Nat.le_of_ble_eq_true rfl⟩) (kz_preV (q0 := 0) (ci := 0) hK hP hD hS hA hE rfl rfl) rfl hl.1 rfl (Nat.le_of_ble_eq_true rfl) dX0_agreed_42 ⟨Nat.le_of_ble_eq_true rfl, Nat.le_of_ble_eq_true rfl⟩ (fun _ _ _ _ h => False.elim h) (fun v9 H hv9 hO1 => ?_)
    obtain ⟨_, rfl, rfl⟩ := hv9
    have hP := hO1.P hP
    have hS := hO1.S hS
    have hO := hO.tr hO1
    refine W.eq (g2 := F0 m 45 ls [.int (sq_A o n ak 7)]) rfl ?_
    exact kz_reti hx hb hr hlocks hO (⟨by first | (simp [tc_agreed, c_1, c_2]; done) | (simp only [tc_agreed, c_1, c_2, eq_self, not_true_eq_false, not_false_eq_true, and_self, and_true, true_and, and_false, false_and, or_true, true_or, or_false, false_or, if_true, if_false, ite_true, ite_false, Bool.and_eq_true, decide_true, decide_false, decide_eq_true_eq, ne_eq, Nat.reduceEqDiff, Nat.one_ne_zero, Bool.false_eq_true, reduceCtorEq]; done) | (simp only [tc_agreed, c_1, c_2, eq_self, not_true_eq_false, not_false_eq_true, and_self, and_true, true_and, and_false, false_and, or_true, true_or, or_false, false_or, if_true, if_false, ite_true, ite_false, Bool.and_eq_true, decide_true, decide_false, decide_eq_true_eq, ne_eq, Nat.reduceEqDiff, Nat.one_ne_zero, Bool.false_eq_true, reduceCtorEq]; decide), by first | (simp [c_1, c_2]; done) | (simp only [c_1, c_2, eq_self, not_true_eq_false, not_false_eq_true, and_self, and_true, true_and, and_false, false_and, or_true, true_or, or_false, false_or, if_true, if_false, ite_true, ite_false, Bool.and_eq_true, decide_true, decide_false, decide_eq_true_eq, ne_eq, Nat.reduceEqDiff, Nat.one_ne_zero, Bool.false_eq_true, reduceCtorEq]; done) | (simp only [c_1, c_2, eq_self, not_true_eq_false, not_false_eq_true, and_self, and_true, true_and, and_false, false_and, or_true, true_or, or_false, false_or, if_true, if_false, ite_true, ite_false, Bool.and_eq_true, decide_true, decide_false, decide_eq_true_eq, ne_eq, Nat.reduceEqDiff, Nat.one_ne_zero, Bool.false_eq_true, reduceCtorEq]; decide)⟩)  dX0_agreed_45
  by_cases c_3 : p0 = 2
  · -- case 2
    refine lv_tableIn (tgt := 46) hx hb dX0_agreed_1 (by rw [c_3]; decide) (by rw [c_3]; decide) (by rw [c_3]; rfl) (by decide) ?_
    refine lv_aload_n hx hb dX0_agreed_46 rfl (lv_at hl 0 rfl) ?_
    refine lv_aload_n hx hb dX0_agreed_47 rfl (lv_at hl 0 rfl) ?_
    refine va_get (D := D) (ci := 0) (v := .ref (ad 7)) (C := RX0) (T := TX0) (N := 14) hx hb hw9 uX0 hown hK hP 0 rfl rfl 12 (by decide) (hw9 _ mw_31) (fun _ h9 => h9) rfl dX0_agreed_48 ?_
    refine kz_rV (As := [.ref (ad 7)]) (rest := []) ⟨hx, hb, hml, hown, hw9⟩ (c_X0_whatMajorityHas l hl9 D cI cZ ty ad rs s.heap.size it o n g v r nx mt fl pr ofs ak hd an hd 7 (ad 7) rfl) (kz_cV 1 hw9 mw_341 mw_343 ms_10 mw_1 mw_344 rfl rfl (by decide +kernel) ⟨Nat.le_of_ble_eq_true rfl, Nat.le_of_ble_eq_true rfl⟩) (kz_preV (q0 := 0) (ci := 0) hK hP hD hS hA hE rfl rfl) rfl hl.1 rfl (Nat.le_of_ble_eq_true rfl) dX0_agreed_51 ⟨Nat.le_of_ble_eq_true rfl, Nat.le_of_ble_eq_true rfl⟩ (fun _ _ _ _ h => False.elim h) (fun v9 H hv9 hO1 => ?_)
    obtain ⟨_, rfl, rfl⟩ := hv9
    have hP := hO1.P hP
    have hS := hO1.S hS
    have hO := hO.tr hO1
    refine W.eq (g2 := F0 m 54 ls [.int (sq_A o n hd 7)]) rfl ?_
    exact kz_reti hx hb hr hlocks hO (⟨by first | (simp [tc_agreed, c_1, c_2, c_3]; done) | (simp only [tc_agreed, c_1, c_2, c_3, eq_self, not_true_eq_false, not_false_eq_true, and_self, and_true, true_and, and_false, false_and, or_true, true_or, or_false, false_or, if_true, if_false, ite_true, ite_false, Bool.and_eq_true, decide_true, decide_false, decide_eq_true_eq, ne_eq, Nat.reduceEqDiff, Nat.one_ne_zero, Bool.false_eq_true, reduceCtorEq]; done) | (simp only [tc_agreed, c_1, c_2, c_3, eq_self, not_true_eq_false, not_false_eq_true, and_self, and_true, true_and, and_false, false_and, or_true, true_or, or_false, false_or, if_true, if_false, ite_true, ite_false, Bool.and_eq_true, decide_true, decide_false, decide_eq_true_eq, ne_eq, Nat.reduceEqDiff, Nat.one_ne_zero, Bool.false_eq_true, reduceCtorEq]; decide), by first | (simp [c_1, c_2, c_3]; done) | (simp only [c_1, c_2, c_3, eq_self, not_true_eq_false, not_false_eq_true, and_self, and_true, true_and, and_false, false_and, or_true, true_or, or_false, false_or, if_true, if_false, ite_true, ite_false, Bool.and_eq_true, decide_true, decide_false, decide_eq_true_eq, ne_eq, Nat.reduceEqDiff, Nat.one_ne_zero, Bool.false_eq_true, reduceCtorEq]; done) | (simp only [c_1, c_2, c_3, eq_self, not_true_eq_false, not_false_eq_true, and_self, and_true, true_and, and_false, false_and, or_true, true_or, or_false, false_or, if_true, if_false, ite_true, ite_false, Bool.and_eq_true, decide_true, decide_false, decide_eq_true_eq, ne_eq, Nat.reduceEqDiff, Nat.one_ne_zero, Bool.false_eq_true, reduceCtorEq]; decide)⟩)  dX0_agreed_54
  have hout9 : p0.toInt < 0 ∨ 2 < p0.toInt := by
    have q0 := lv_neT (a := 0) c_1 (by decide)
    have q1 := lv_neT (a := 1) c_2 (by decide)
    have q2 := lv_neT (a := 2) c_3 (by decide)
    omega
  refine lv_tableOut (tgt := 55) hx hb dX0_agreed_1 hout9 (by decide) ?_
  obtain ⟨sa9, hst9⟩ := hE.2.2.1 (131, "nothing of that kind is agreed on") (by decide)
  exact ez_throwS (cls := IAE) (names := EXN) hx hb hl9 hown (by decide +kernel) (by decide +kernel) (hw9 _ mw_101) (hw9 _ mw_6) hst9 (at_IAE hw9 hE) hO.1 (by rw [hml]; exact hl.1) hTab hlocks dX0_agreed_55 dX0_agreed_58 dX0_agreed_59 dX0_agreed_61 dX0_agreed_64 (by decide) (Nat.le_of_ble_eq_true rfl) (Nat.le_of_ble_eq_true rfl) (Nat.le_of_ble_eq_true rfl) (fun q t ce h1 h2 h3 h4 h5 h6 => ⟨1, ce, (by first | (simp [tc_agreed, c_1, c_2, c_3]; done) | (simp only [tc_agreed, c_1, c_2, c_3, eq_self, not_true_eq_false, not_false_eq_true, and_self, and_true, true_and, and_false, false_and, or_true, true_or, or_false, false_or, if_true, if_false, ite_true, ite_false, Bool.and_eq_true, decide_true, decide_false, decide_eq_true_eq, ne_eq, Nat.reduceEqDiff, Nat.one_ne_zero, Bool.false_eq_true, reduceCtorEq]; done) | (simp only [tc_agreed, c_1, c_2, c_3, eq_self, not_true_eq_false, not_false_eq_true, and_self, and_true, true_and, and_false, false_and, or_true, true_or, or_false, false_or, if_true, if_false, ite_true, ite_false, Bool.and_eq_true, decide_true, decide_false, decide_eq_true_eq, ne_eq, Nat.reduceEqDiff, Nat.one_ne_zero, Bool.false_eq_true, reduceCtorEq]; decide)), h1, h2, by rw [h4.findClass]; exact h3, h5, h6⟩)
set_option maxHeartbeats 4000000 in
set_option maxRecDepth 100000 in
theorem c_X0_server (l : Launch) (hl9 : l.stackTraces = false) (D : va_G) (cI cZ : ClassId) (ty : kz_Y) (ad : Nat → Nat) (rs : va_W) (sz : Nat) (it o n g v r : Int32) (nx mt fl pr ofs ak hd an : Nat → Int32) (p0 : Int32) (p1 : Int32) : ez_M l yX0_server wsX0_server ({ frames := 7, cells := 1, slots := 6, locals := 110 } : Room) (kz_P D ((cI, .int) :: (cZ, .boolean) :: ty) (wX ad cI cZ it o n g v r nx mt fl pr ofs ak hd an ++ rs) sz [.ref (ad 0), .int p0, .int p1]) (kz_Ro (kz_i (fun r9 => (tc_get p0 p1 = 0) ∧ r9 = (if p1 = 0 then nx p0.toNatClampNeg else if p1 = 1 then mt p0.toNatClampNeg else if p1 = 2 then fl p0.toNatClampNeg else if p1 = 3 then (if pr p0.toNatClampNeg = 0 then 0 else 1) else if p1 = 4 then ofs p0.toNatClampNeg else if p1 = 5 then ak p0.toNatClampNeg else if p1 = 6 then hd p0.toNatClampNeg else (if an p0.toNatClampNeg = 0 then 0 else 1))))) (kz_T (fun _ => IOE) (fun k => k = tc_get p0 p1 ∧ ¬ k = 0)) 0 0 (fun _ => False) := by
  refine ez_ofW (cc := cX0_server) (maxL := 3) (ret := (some .int)) (by decide) rfl ?_
  intro p e s m args below meth c s₁ B hml hTab hv
  obtain ⟨rfl, hsz, hP, hK, hD0, hE⟩ := hv
  have hx := B.exec
  have hb := B.bytes
  have hr := B.returns
  have hw9 : ∀ w ∈ kz_W9, w.before ([.ref (ad 0), .int p0, .int p1] : List Value).toArray s = true := fun w h => atoms_spec (ws := wsX0_server) B.pre w (List.mem_cons_of_mem _ h)
  have hown : s.vm.findClass RX0 = some m.cls := findClass_of_methodNamed B.named
  have hlocks := B.notSynchronized
  subst hsz
  have hD := hD0.self (sz := s.heap.size)
  generalize hAe : va_A (wX ad cI cZ it o n g v r nx mt fl pr ofs ak hd an ++ rs) s.heap.size = A at hD hE
  have hA : ∀ q : Nat, s.heap.size ≤ q → A q := fun q h => by rw [← hAe]; exact Or.inr h
  have hS : va_S A s.heap s.heap [] := va_S.rf
  have hO : kz_O s.heap s.heap := kz_O.rf _
  have hl := lv_entry ([.ref (ad 0), .int p0, .int p1]) (n := 3) (Nat.le_of_ble_eq_true rfl)
  rw [lg_entry_eq]
  generalize (lg_sl ([.ref (ad 0), .int p0, .int p1]) ++ List.replicate (3 - (lg_sl ([.ref (ad 0), .int p0, .int p1])).length) Slot.unset).toArray = ls at hl ⊢
  have hl : lv_has ls 3 [(0, .ref (ad 0)), (1, .int p0), (2, .int p1)] := hl
  refine lv_iload_n hx hb dX0_server_0 rfl (lv_at hl 1 rfl) ?_
  refine kz_rS (As := [.int p0]) (rest := []) ⟨hx, hb, hml, hown, hw9⟩ (c_X0_requireServer l hl9 D ((cI, .int) :: (cZ, .boolean) :: ty) (wX ad cI cZ it o n g v r nx mt fl pr ofs ak hd an ++ rs) s.heap.size p0) (kz_cS 1 hw9 mw_240 mw_241 mw_1 mw_242 rfl rfl (by decide +kernel) ⟨Nat.le_of_ble_eq_true rfl, Nat.le_of_ble_eq_true rfl⟩) (kz_preS hK hP hD hS hA hE) rfl hl.1 rfl (Nat.le_of_ble_eq_true rfl) dX0_server_1 ⟨Nat.le_of_ble_eq_true rfl, Nat.le_of_ble_eq_true rfl⟩ (fun k ce q9 H1 hk hO1 hce hcv hcl => ?_) (fun v9 H hv9 hO1 => ?_)
  · -- thrown
    exact kz_out (k := 1) hTab hlocks (by first | (simp [tc_get, hk]; done) | (simp only [tc_get, hk, eq_self, not_true_eq_false, not_false_eq_true, and_self, and_true, true_and, and_false, false_and, or_true, true_or, or_false, false_or, if_true, if_false, ite_true, ite_false, Bool.and_eq_true, decide_true, decide_false, decide_eq_true_eq, ne_eq, Nat.reduceEqDiff, Nat.one_ne_zero, Bool.false_eq_true, reduceCtorEq]; done) | (simp only [tc_get, hk, eq_self, not_true_eq_false, not_false_eq_true, and_self, and_true, true_and, and_false, false_and, or_true, true_or, or_false, false_or, if_true, if_false, ite_true, ite_false, Bool.and_eq_true, decide_true, decide_false, decide_eq_true_eq, ne_eq, Nat.reduceEqDiff, Nat.one_ne_zero, Bool.false_eq_true, reduceCtorEq]; decide)) (hO.tr hO1) hce hcv hcl (fun _ h => nomatch h) (Nat.le_of_ble_eq_true rfl) (Nat.le_of_ble_eq_true rfl)
  · -- goes on
    obtain ⟨rfl, hv_1⟩ := hv9
    have hP := hO1.P hP
    have hS := hO1.S hS
    have hO := hO.tr hO1
    refine W.eq (g2 := F0 m 4 ls []) rfl ?_
    refine lv_iload_n hx hb dX0_server_4 rfl (lv_at hl 2 rfl) ?_
    by_cases c_2 : p1 = 0
    · -- case 0
      refine lv_tableIn (tgt := 52) hx hb dX0_server_5 (by rw [c_2]; decide) (by rw [c_2]; decide) (by rw [c_2]; rfl) (by decide) ?_
      refine lv_aload_n hx hb dX0_server_52 rfl (lv_at hl 0 rfl) ?_
      refine va_get (D := D) (ci := 0) (v := .ref (ad 1)) (C := RX0) (T := TX0) (N := 14) hx hb hw9 uX0 hown hK hP 0 rfl rfl 6 (by decide) (hw9 _ mw_25) (fun _ h9 => h9) rfl dX0_server_53 ?_
      refine lv_iload_n hx hb dX0_server_56 rfl (lv_at hl 1 rfl) ?_
      refine va_iald hx hb hK hP 1 0 rfl rfl (sq_V_in hv_1) dX0_server_57 ?_
      exact kz_reti hx hb hr hlocks hO (⟨by first | (simp [tc_get, hv_1, c_2]; done) | (simp only [tc_get, hv_1, c_2, eq_self, not_true_eq_false, not_false_eq_true, and_self, and_true, true_and, and_false, false_and, or_true, true_or, or_false, false_or, if_true, if_false, ite_true, ite_false, Bool.and_eq_true, decide_true, decide_false, decide_eq_true_eq, ne_eq, Nat.reduceEqDiff, Nat.one_ne_zero, Bool.false_eq_true, reduceCtorEq]; done) | (simp only [tc_get, hv_1, c_2, eq_self, not_true_eq_false, not_false_eq_true, and_self, and_true, true_and, and_false, false_and, or_true, true_or, or_false, false_or, if_true, if_false, ite_true, ite_false, Bool.and_eq_true, decide_true, decide_false, decide_eq_true_eq, ne_eq, Nat.reduceEqDiff, Nat.one_ne_zero, Bool.false_eq_true, reduceCtorEq]; decide), by first | (simp [hv_1, c_2]; done) | (simp only [hv_1, c_2, eq_self, not_true_eq_false, not_false_eq_true, and_self, and_true, true_and, and_false, false_and, or_true, true_or, or_false, false_or, if_true, if_false, ite_true, ite_false, Bool.and_eq_true, decide_true, decide_false, decide_eq_true_eq, ne_eq, Nat.reduceEqDiff, Nat.one_ne_zero, Bool.false_eq_true, reduceCtorEq]; done) | (simp only [hv_1, c_2, eq_self, not_true_eq_false, not_false_eq_true, and_self, and_true, true_and, and_false, false_and, or_true, true_or, or_false, false_or, if_true, if_false, ite_true, ite_false, Bool.and_eq_true, decide_true, decide_false, decide_eq_true_eq, ne_eq, Nat.reduceEqDiff, Nat.one_ne_zero, Bool.false_eq_true, reduceCtorEq]; decide)⟩)  dX0_server_58
    by_cases c_3 : p1 = 1
    · -- case 1
      refine lv_tableIn (tgt := 59) hx hb dX0_server_5 (by rw [c_3]; decide) (by rw [c_3]; decide) (by rw [c_3]; rfl) (by decide) ?_
      refine lv_aload_n hx hb dX0_server_59 rfl (lv_at hl 0 rfl) ?_
      refine va_get (D := D) (ci := 0) (v := .ref (ad 2)) (C := RX0) (T := TX0) (N := 14) hx hb hw9 uX0 hown hK hP 0 rfl rfl 7 (by decide) (hw9 _ mw_26) (fun _ h9 => h9) rfl dX0_server_60 ?_
      refine lv_iload_n hx hb dX0_server_63 rfl (lv_at hl 1 rfl) ?_
      refine va_iald hx hb hK hP 2 0 rfl rfl (sq_V_in hv_1) dX0_server_64 ?_
      exact kz_reti hx hb hr hlocks hO (⟨by first | (simp [tc_get, hv_1, c_2, c_3]; done) | (simp only [tc_get, hv_1, c_2, c_3, eq_self, not_true_eq_false, not_false_eq_true, and_self, and_true, true_and, and_false, false_and, or_true, true_or, or_false, false_or, if_true, if_false, ite_true, ite_false, Bool.and_eq_true, decide_true, decide_false, decide_eq_true_eq, ne_eq, Nat.reduceEqDiff, Nat.one_ne_zero, Bool.false_eq_true, reduceCtorEq]; done) | (simp only [tc_get, hv_1, c_2, c_3, eq_self, not_true_eq_false, not_false_eq_true, and_self, and_true, true_and, and_false, false_and, or_true, true_or, or_false, false_or, if_true, if_false, ite_true, ite_false, Bool.and_eq_true, decide_true, decide_false, decide_eq_true_eq, ne_eq, Nat.reduceEqDiff, Nat.one_ne_zero, Bool.false_eq_true, reduceCtorEq]; decide), by first | (simp [hv_1, c_2, c_3]; done) | (simp only [hv_1, c_2, c_3, eq_self, not_true_eq_false, not_false_eq_true, and_self, and_true, true_and, and_false, false_and, or_true, true_or, or_false, false_or, if_true, if_false, ite_true, ite_false, Bool.and_eq_true, decide_true, decide_false, decide_eq_true_eq, ne_eq, Nat.reduceEqDiff, Nat.one_ne_zero, Bool.false_eq_true, reduceCtorEq]; done) | (simp only [hv_1, c_2, c_3, eq_self, not_true_eq_false, not_false_eq_true, and_self, and_true, true_and, and_false, false_and, or_true, true_or, or_false, false_or, if_true, if_false, ite_true, ite_false, Bool.and_eq_true, decide_true, decide_false, decide_eq_true_eq, ne_eq, Nat.reduceEqDiff, Nat.one_ne_zero, Bool.false_eq_true, reduceCtorEq]; decide)⟩)  dX0_server_65
    by_cases c_4 : p1 = 2
    · -- case 2
      refine lv_tableIn (tgt := 66) hx hb dX0_server_5 (by rw [c_4]; decide) (by rw [c_4]; decide) (by rw [c_4]; rfl) (by decide) ?_
      refine lv_aload_n hx hb dX0_server_66 rfl (lv_at hl 0 rfl) ?_
      refine va_get (D := D) (ci := 0) (v := .ref (ad 3)) (C := RX0) (T := TX0) (N := 14) hx hb hw9 uX0 hown hK hP 0 rfl rfl 8 (by decide) (hw9 _ mw_27) (fun _ h9 => h9) rfl dX0_server_67 ?_
      refine lv_iload_n hx hb dX0_server_70 rfl (lv_at hl 1 rfl) ?_
      refine va_iald hx hb hK hP 3 0 rfl rfl (sq_V_in hv_1) dX0_server_71 ?_
      exact kz_reti hx hb hr hlocks hO (⟨by first | (simp [tc_get, hv_1, c_2, c_3, c_4]; done) | (simp only [tc_get, hv_1, c_2, c_3, c_4, eq_self, not_true_eq_false, not_false_eq_true, and_self, and_true, true_and, and_false, false_and, or_true, true_or, or_false, false_or, if_true, if_false, ite_true, ite_false, Bool.and_eq_true, decide_true, decide_false, decide_eq_true_eq, ne_eq, Nat.reduceEqDiff, Nat.one_ne_zero, Bool.false_eq_true, reduceCtorEq]; done) | (simp only [tc_get, hv_1, c_2, c_3, c_4, eq_self, not_true_eq_false, not_false_eq_true, and_self, and_true, true_and, and_false, false_and, or_true, true_or, or_false, false_or, if_true, if_false, ite_true, ite_false, Bool.and_eq_true, decide_true, decide_false, decide_eq_true_eq, ne_eq, Nat.reduceEqDiff, Nat.one_ne_zero, Bool.false_eq_true, reduceCtorEq]; decide), by first | (simp [hv_1, c_2, c_3, c_4]; done) | (simp only [hv_1, c_2, c_3, c_4, eq_self, not_true_eq_false, not_false_eq_true, and_self, and_true, true_and, and_false, false_and, or_true, true_or, or_false, false_or, if_true, if_false, ite_true, ite_false, Bool.and_eq_true, decide_true, decide_false, decide_eq_true_eq, ne_eq, Nat.reduceEqDiff, Nat.one_ne_zero, Bool.false_eq_true, reduceCtorEq]; done) | (simp only [hv_1, c_2, c_3, c_4, eq_self, not_true_eq_false, not_false_eq_true, and_self, and_true, true_and, and_false, false_and, or_true, true_or, or_false, false_or, if_true, if_false, ite_true, ite_false, Bool.and_eq_true, decide_true, decide_false, decide_eq_true_eq, ne_eq, Nat.reduceEqDiff, Nat.one_ne_zero, Bool.false_eq_true, reduceCtorEq]; decide)⟩)  dX0_server_72
    by_cases c_5 : p1 = 3
    · -- case 3
      refine lv_tableIn (tgt := 73) hx hb dX0_server_5 (by rw [c_5]; decide) (by rw [c_5]; decide) (by rw [c_5]; rfl) (by decide) ?_
      refine lv_aload_n hx hb dX0_server_73 rfl (lv_at hl 0 rfl) ?_
      refine va_get (D := D) (ci := 0) (v := .ref (ad 4)) (C := RX0) (T := TX0) (N := 14) hx hb hw9 uX0 hown hK hP 0 rfl rfl 9 (by decide) (hw9 _ mw_28) (fun _ h9 => h9) rfl dX0_server_74 ?_
      refine lv_iload_n hx hb dX0_server_77 rfl (lv_at hl 1 rfl) ?_
      refine va_zald hx hb hK hP 4 1 rfl rfl (sq_V_in hv_1) dX0_server_78 ?_
      refine lv_if_eq (tgt := 86) hx hb dX0_server_79 (by decide) (fun c_6 => ?_) (fun c_6 => ?_)
      · -- 79 -> 86
        refine lv_iconst (v := 0) hx hb dX0_server_86 (by decide) ?_
        exact kz_reti hx hb hr hlocks hO (⟨by first | (simp [tc_get, hv_1, c_2, c_3, c_4, c_5, c_6]; done) | (simp only [tc_get, hv_1, c_2, c_3, c_4, c_5, c_6, eq_self, not_true_eq_false, not_false_eq_true, and_self, and_true, true_and, and_false, false_and, or_true, true_or, or_false, false_or, if_true, if_false, ite_true, ite_false, Bool.and_eq_true, decide_true, decide_false, decide_eq_true_eq, ne_eq, Nat.reduceEqDiff, Nat.one_ne_zero, Bool.false_eq_true, reduceCtorEq]; done) | (simp only [tc_get, hv_1, c_2, c_3, c_4, c_5, c_6, eq_self, not_true_eq_false, not_false_eq_true, and_self, and_true, true_and, and_false, false_and, or_true, true_or, or_false, false_or, if_true, if_false, ite_true, ite_false, Bool.and_eq_true, decide_true, decide_false, decide_eq_true_eq, ne_eq, Nat.reduceEqDiff, Nat.one_ne_zero, Bool.false_eq_true, reduceCtorEq]; decide), by first | (simp [hv_1, c_2, c_3, c_4, c_5, c_6]; done) | (simp only [hv_1, c_2, c_3, c_4, c_5, c_6, eq_self, not_true_eq_false, not_false_eq_true, and_self, and_true, true_and, and_false, false_and, or_true, true_or, or_false, false_or, if_true, if_false, ite_true, ite_false, Bool.and_eq_true, decide_true, decide_false, decide_eq_true_eq, ne_eq, Nat.reduceEqDiff, Nat.one_ne_zero, Bool.false_eq_true, reduceCtorEq]; done) | (simp only [hv_1, c_2, c_3, c_4, c_5, c_6, eq_self, not_true_eq_false, not_false_eq_true, and_self, and_true, true_and, and_false, false_and, or_true, true_or, or_false, false_or, if_true, if_false, ite_true, ite_false, Bool.and_eq_true, decide_true, decide_false, decide_eq_true_eq, ne_eq, Nat.reduceEqDiff, Nat.one_ne_zero, Bool.false_eq_true, reduceCtorEq]; decide)⟩)  dX0_server_87
      · -- 79 -> 82
        refine lv_iconst (v := 1) hx hb dX0_server_82 (by decide) ?_
        refine lv_goto (tgt := 87) hx hb dX0_server_83 (by decide) ?_
        exact kz_reti hx hb hr hlocks hO (⟨by first | (simp [tc_get, hv_1, c_2, c_3, c_4, c_5, c_6]; done) | (simp only [tc_get, hv_1, c_2, c_3, c_4, c_5, c_6, eq_self, not_true_eq_false, not_false_eq_true, and_self, and_true, true_and, and_false, false_and, or_true, true_or, or_false, false_or, if_true, if_false, ite_true, ite_false, Bool.and_eq_true, decide_true, decide_false, decide_eq_true_eq, ne_eq, Nat.reduceEqDiff, Nat.one_ne_zero, Bool.false_eq_true, reduceCtorEq]; done) | (simp only [tc_get, hv_1, c_2, c_3, c_4, c_5, c_6, eq_self, not_true_eq_false, not_false_eq_true, and_self, and_true, true_and, and_false, false_and, or_true, true_or, or_false, false_or, if_true, if_false, ite_true, ite_false, Bool.and_eq_true, decide_true, decide_false, decide_eq_true_eq, ne_eq, Nat.reduceEqDiff, Nat.one_ne_zero, Bool.false_eq_true, reduceCtorEq]; decide), by first | (simp [hv_1, c_2, c_3, c_4, c_5, c_6]; done) | (simp only [hv_1, c_2, c_3, c_4, c_5, c_6, eq_self, not_true_eq_false, not_false_eq_true, and_self, and_true, true_and, and_false, false_and, or_true, true_or, or_false, false_or, if_true, if_false, ite_true, ite_false, Bool.and_eq_true, decide_true, decide_false, decide_eq_true_eq, ne_eq, Nat.reduceEqDiff, Nat.one_ne_zero, Bool.false_eq_true, reduceCtorEq]; done) | (simp only [hv_1, c_2, c_3, c_4, c_5, c_6, eq_self, not_true_eq_false, not_false_eq_true, and_self, and_true, true_and, and_false, false_and, or_true, true_or, or_false, false_or, if_true, if_false, ite_true, ite_false, Bool.and_eq_true, decide_true, decide_false, decide_eq_true_eq, ne_eq, Nat.reduceEqDiff, Nat.one_ne_zero, Bool.false_eq_true, reduceCtorEq]; decide)⟩)  dX0_server_87
    by_cases c_7 : p1 = 4
    · -- case 4
      refine lv_tableIn (tgt := 88) hx hb dX0_server_5 (by rw [c_7]; decide) (by rw [c_7]; decide) (by rw [c_7]; rfl) (by decide) ?_
      refine lv_aload_n hx hb dX0_server_88 rfl (lv_at hl 0 rfl) ?_
      refine va_get (D := D) (ci := 0) (v := .ref (ad 5)) (C := RX0) (T := TX0) (N := 14) hx hb hw9 uX0 hown hK hP 0 rfl rfl 10 (by decide) (hw9 _ mw_29) (fun _ h9 => h9) rfl dX0_server_89 ?_
      refine lv_iload_n hx hb dX0_server_92 rfl (lv_at hl 1 rfl) ?_
      refine va_iald hx hb hK hP 5 0 rfl rfl (sq_V_in hv_1) dX0_server_93 ?_
      exact kz_reti hx hb hr hlocks hO (⟨by first | (simp [tc_get, hv_1, c_2, c_3, c_4, c_5, c_7]; done) | (simp only [tc_get, hv_1, c_2, c_3, c_4, c_5, c_7, eq_self, not_true_eq_false, not_false_eq_true, and_self, and_true, true_and, and_false, false_and, or_true, true_or, or_false, false_or, if_true, if_false, ite_true, ite_false, Bool.and_eq_true, decide_true, decide_false, decide_eq_true_eq, ne_eq, Nat.reduceEqDiff, Nat.one_ne_zero, Bool.false_eq_true, reduceCtorEq]; done) | (simp only [tc_get, hv_1, c_2, c_3, c_4, c_5, c_7, eq_self, not_true_eq_false, not_false_eq_true, and_self, and_true, true_and, and_false, false_and, or_true, true_or, or_false, false_or, if_true, if_false, ite_true, ite_false, Bool.and_eq_true, decide_true, decide_false, decide_eq_true_eq, ne_eq, Nat.reduceEqDiff, Nat.one_ne_zero, Bool.false_eq_true, reduceCtorEq]; decide), by first | (simp [hv_1, c_2, c_3, c_4, c_5, c_7]; done) | (simp only [hv_1, c_2, c_3, c_4, c_5, c_7, eq_self, not_true_eq_false, not_false_eq_true, and_self, and_true, true_and, and_false, false_and, or_true, true_or, or_false, false_or, if_true, if_false, ite_true, ite_false, Bool.and_eq_true, decide_true, decide_false, decide_eq_true_eq, ne_eq, Nat.reduceEqDiff, Nat.one_ne_zero, Bool.false_eq_true, reduceCtorEq]; done) | (simp only [hv_1, c_2, c_3, c_4, c_5, c_7, eq_self, not_true_eq_false, not_false_eq_true, and_self, and_true, true_and, and_false, false_and, or_true, true_or, or_false, false_or, if_true, if_false, ite_true, ite_false, Bool.and_eq_true, decide_true, decide_false, decide_eq_true_eq, ne_eq, Nat.reduceEqDiff, Nat.one_ne_zero, Bool.false_eq_true, reduceCtorEq]; decide)⟩)  dX0_server_94
    by_cases c_8 : p1 = 5
    · -- case 5
      refine lv_tableIn (tgt := 95) hx hb dX0_server_5 (by rw [c_8]; decide) (by rw [c_8]; decide) (by rw [c_8]; rfl) (by decide) ?_
      refine lv_aload_n hx hb dX0_server_95 rfl (lv_at hl 0 rfl) ?_
      refine va_get (D := D) (ci := 0) (v := .ref (ad 6)) (C := RX0) (T := TX0) (N := 14) hx hb hw9 uX0 hown hK hP 0 rfl rfl 11 (by decide) (hw9 _ mw_30) (fun _ h9 => h9) rfl dX0_server_96 ?_
      refine lv_iload_n hx hb dX0_server_99 rfl (lv_at hl 1 rfl) ?_
      refine va_iald hx hb hK hP 6 0 rfl rfl (sq_V_in hv_1) dX0_server_100 ?_
      exact kz_reti hx hb hr hlocks hO (⟨by first | (simp [tc_get, hv_1, c_2, c_3, c_4, c_5, c_7, c_8]; done) | (simp only [tc_get, hv_1, c_2, c_3, c_4, c_5, c_7, c_8, eq_self, not_true_eq_false, not_false_eq_true, and_self, and_true, true_and, and_false, false_and, or_true, true_or, or_false, false_or, if_true, if_false, ite_true, ite_false, Bool.and_eq_true, decide_true, decide_false, decide_eq_true_eq, ne_eq, Nat.reduceEqDiff, Nat.one_ne_zero, Bool.false_eq_true, reduceCtorEq]; done) | (simp only [tc_get, hv_1, c_2, c_3, c_4, c_5, c_7, c_8, eq_self, not_true_eq_false, not_false_eq_true, and_self, and_true, true_and, and_false, false_and, or_true, true_or, or_false, false_or, if_true, if_false, ite_true, ite_false, Bool.and_eq_true, decide_true, decide_false, decide_eq_true_eq, ne_eq, Nat.reduceEqDiff, Nat.one_ne_zero, Bool.false_eq_true, reduceCtorEq]; decide), by first | (simp [hv_1, c_2, c_3, c_4, c_5, c_7, c_8]; done) | (simp only [hv_1, c_2, c_3, c_4, c_5, c_7, c_8, eq_self, not_true_eq_false, not_false_eq_true, and_self, and_true, true_and, and_false, false_and, or_true, true_or, or_false, false_or, if_true, if_false, ite_true, ite_false, Bool.and_eq_true, decide_true, decide_false, decide_eq_true_eq, ne_eq, Nat.reduceEqDiff, Nat.one_ne_zero, Bool.false_eq_true, reduceCtorEq]; done) | (simp only [hv_1, c_2, c_3, c_4, c_5, c_7, c_8, eq_self, not_true_eq_false, not_false_eq_true, and_self, and_true, true_and, and_false, false_and, or_true, true_or, or_false, false_or, if_true, if_false, ite_true, ite_false, Bool.and_eq_true, decide_true, decide_false, decide_eq_true_eq, ne_eq, Nat.reduceEqDiff, Nat.one_ne_zero, Bool.false_eq_true, reduceCtorEq]; decide)⟩)  dX0_server_101
    by_cases c_9 : p1 = 6
    · -- case 6
      refine lv_tableIn (tgt := 102) hx hb dX0_server_5 (by rw [c_9]; decide) (by rw [c_9]; decide) (by rw [c_9]; rfl) (by decide) ?_
      refine lv_aload_n hx hb dX0_server_102 rfl (lv_at hl 0 rfl) ?_
      refine va_get (D := D) (ci := 0) (v := .ref (ad 7)) (C := RX0) (T := TX0) (N := 14) hx hb hw9 uX0 hown hK hP 0 rfl rfl 12 (by decide) (hw9 _ mw_31) (fun _ h9 => h9) rfl dX0_server_103 ?_
      refine lv_iload_n hx hb dX0_server_106 rfl (lv_at hl 1 rfl) ?_
      refine va_iald hx hb hK hP 7 0 rfl rfl (sq_V_in hv_1) dX0_server_107 ?_
      exact kz_reti hx hb hr hlocks hO (⟨by first | (simp [tc_get, hv_1, c_2, c_3, c_4, c_5, c_7, c_8, c_9]; done) | (simp only [tc_get, hv_1, c_2, c_3, c_4, c_5, c_7, c_8, c_9, eq_self, not_true_eq_false, not_false_eq_true, and_self, and_true, true_and, and_false, false_and, or_true, true_or, or_false, false_or, if_true, if_false, ite_true, ite_false, Bool.and_eq_true, decide_true, decide_false, decide_eq_true_eq, ne_eq, Nat.reduceEqDiff, Nat.one_ne_zero, Bool.false_eq_true, reduceCtorEq]; done) | (simp only [tc_get, hv_1, c_2, c_3, c_4, c_5, c_7, c_8, c_9, eq_self, not_true_eq_false, not_false_eq_true, and_self, and_true, true_and, and_false, false_and, or_true, true_or, or_false, false_or, if_true, if_false, ite_true, ite_false, Bool.and_eq_true, decide_true, decide_false, decide_eq_true_eq, ne_eq, Nat.reduceEqDiff, Nat.one_ne_zero, Bool.false_eq_true, reduceCtorEq]; decide), by first | (simp [hv_1, c_2, c_3, c_4, c_5, c_7, c_8, c_9]; done) | (simp only [hv_1, c_2, c_3, c_4, c_5, c_7, c_8, c_9, eq_self, not_true_eq_false, not_false_eq_true, and_self, and_true, true_and, and_false, false_and, or_true, true_or, or_false, false_or, if_true, if_false, ite_true, ite_false, Bool.and_eq_true, decide_true, decide_false, decide_eq_true_eq, ne_eq, Nat.reduceEqDiff, Nat.one_ne_zero, Bool.false_eq_true, reduceCtorEq]; done) | (simp only [hv_1, c_2, c_3, c_4, c_5, c_7, c_8, c_9, eq_self, not_true_eq_false, not_false_eq_true, and_self, and_true, true_and, and_false, false_and, or_true, true_or, or_false, false_or, if_true, if_false, ite_true, ite_false, Bool.and_eq_true, decide_true, decide_false, decide_eq_true_eq, ne_eq, Nat.reduceEqDiff, Nat.one_ne_zero, Bool.false_eq_true, reduceCtorEq]; decide)⟩)  dX0_server_108
    by_cases c_10 : p1 = 7
    · -- case 7
      refine lv_tableIn (tgt := 109) hx hb dX0_server_5 (by rw [c_10]; decide) (by rw [c_10]; decide) (by rw [c_10]; rfl) (by decide) ?_
      refine lv_aload_n hx hb dX0_server_109 rfl (lv_at hl 0 rfl) ?_
      refine va_get (D := D) (ci := 0) (v := .ref (ad 8)) (C := RX0) (T := TX0) (N := 14) hx hb hw9 uX0 hown hK hP 0 rfl rfl 13 (by decide) (hw9 _ mw_32) (fun _ h9 => h9) rfl dX0_server_110 ?_
      refine lv_iload_n hx hb dX0_server_113 rfl (lv_at hl 1 rfl) ?_
      refine va_zald hx hb hK hP 8 1 rfl rfl (sq_V_in hv_1) dX0_server_114 ?_
      refine lv_if_eq (tgt := 122) hx hb dX0_server_115 (by decide) (fun c_11 => ?_) (fun c_11 => ?_)
      · -- 115 -> 122
        refine lv_iconst (v := 0) hx hb dX0_server_122 (by decide) ?_
        exact kz_reti hx hb hr hlocks hO (⟨by first | (simp [tc_get, hv_1, c_2, c_3, c_4, c_5, c_7, c_8, c_9, c_10, c_11]; done) | (simp only [tc_get, hv_1, c_2, c_3, c_4, c_5, c_7, c_8, c_9, c_10, c_11, eq_self, not_true_eq_false, not_false_eq_true, and_self, and_true, true_and, and_false, false_and, or_true, true_or, or_false, false_or, if_true, if_false, ite_true, ite_false, Bool.and_eq_true, decide_true, decide_false, decide_eq_true_eq, ne_eq, Nat.reduceEqDiff, Nat.one_ne_zero, Bool.false_eq_true, reduceCtorEq]; done) | (simp only [tc_get, hv_1, c_2, c_3, c_4, c_5, c_7, c_8, c_9, c_10, c_11, eq_self, not_true_eq_false, not_false_eq_true, and_self, and_true, true_and, and_false, false_and, or_true, true_or, or_false, false_or, if_true, if_false, ite_true, ite_false, Bool.and_eq_true, decide_true, decide_false, decide_eq_true_eq, ne_eq, Nat.reduceEqDiff, Nat.one_ne_zero, Bool.false_eq_true, reduceCtorEq]; decide), by first | (simp [hv_1, c_2, c_3, c_4, c_5, c_7, c_8, c_9, c_10, c_11]; done) | (simp only [hv_1, c_2, c_3, c_4, c_5, c_7, c_8, c_9, c_10, c_11, eq_self, not_true_eq_false, not_false_eq_true, and_self, and_true, true_and, and_false, false_and, or_true, true_or, or_false, false_or, if_true, if_false, ite_true, ite_false, Bool.and_eq_true, decide_true, decide_false, decide_eq_true_eq, ne_eq, Nat.reduceEqDiff, Nat.one_ne_zero, Bool.false_eq_true, reduceCtorEq]; done) | (simp only [hv_1, c_2, c_3, c_4, c_5, c_7, c_8, c_9, c_10, c_11, eq_self, not_true_eq_false, not_false_eq_true, and_self, and_true, true_and, and_false, false_and, or_true, true_or, or_false, false_or, if_true, if_false, ite_true, ite_false, Bool.and_eq_true, decide_true, decide_false, decide_eq_true_eq, ne_eq, Nat.reduceEqDiff, Nat.one_ne_zero, Bool.false_eq_true, reduceCtorEq]; decide)⟩)  dX0_server_123
      · -- 115 -> 118
        refine lv_iconst (v := 1) hx hb dX0_server_118 (by decide) ?_
        refine lv_goto (tgt := 123) hx hb dX0_server_119 (by decide) ?_
        exact kz_reti hx hb hr hlocks hO (⟨by first | (simp [tc_get, hv_1, c_2, c_3, c_4, c_5, c_7, c_8, c_9, c_10, c_11]; done) | (simp only [tc_get, hv_1, c_2, c_3, c_4, c_5, c_7, c_8, c_9, c_10, c_11, eq_self, not_true_eq_false, not_false_eq_true, and_self, and_true, true_and, and_false, false_and, or_true, true_or, or_false, false_or, if_true, if_false, ite_true, ite_false, Bool.and_eq_true, decide_true, decide_false, decide_eq_true_eq, ne_eq, Nat.reduceEqDiff, Nat.one_ne_zero, Bool.false_eq_true, reduceCtorEq]; done) | (simp only [tc_get, hv_1, c_2, c_3, c_4, c_5, c_7, c_8, c_9, c_10, c_11, eq_self, not_true_eq_false, not_false_eq_true, and_self, and_true, true_and, and_false, false_and, or_true, true_or, or_false, false_or, if_true, if_false, ite_true, ite_false, Bool.and_eq_true, decide_true, decide_false, decide_eq_true_eq, ne_eq, Nat.reduceEqDiff, Nat.one_ne_zero, Bool.false_eq_true, reduceCtorEq]; decide), by first | (simp [hv_1, c_2, c_3, c_4, c_5, c_7, c_8, c_9, c_10, c_11]; done) | (simp only [hv_1, c_2, c_3, c_4, c_5, c_7, c_8, c_9, c_10, c_11, eq_self, not_true_eq_false, not_false_eq_true, and_self, and_true, true_and, and_false, false_and, or_true, true_or, or_false, false_or, if_true, if_false, ite_true, ite_false, Bool.and_eq_true, decide_true, decide_false, decide_eq_true_eq, ne_eq, Nat.reduceEqDiff, Nat.one_ne_zero, Bool.false_eq_true, reduceCtorEq]; done) | (simp only [hv_1, c_2, c_3, c_4, c_5, c_7, c_8, c_9, c_10, c_11, eq_self, not_true_eq_false, not_false_eq_true, and_self, and_true, true_and, and_false, false_and, or_true, true_or, or_false, false_or, if_true, if_false, ite_true, ite_false, Bool.and_eq_true, decide_true, decide_false, decide_eq_true_eq, ne_eq, Nat.reduceEqDiff, Nat.one_ne_zero, Bool.false_eq_true, reduceCtorEq]; decide)⟩)  dX0_server_123
    have hout9 : p1.toInt < 0 ∨ 7 < p1.toInt := by
      have q0 := lv_neT (a := 0) c_2 (by decide)
      have q1 := lv_neT (a := 1) c_3 (by decide)
      have q2 := lv_neT (a := 2) c_4 (by decide)
      have q3 := lv_neT (a := 3) c_5 (by decide)
      have q4 := lv_neT (a := 4) c_7 (by decide)
      have q5 := lv_neT (a := 5) c_8 (by decide)
      have q6 := lv_neT (a := 6) c_9 (by decide)
      have q7 := lv_neT (a := 7) c_10 (by decide)
      omega
    refine lv_tableOut (tgt := 124) hx hb dX0_server_5 hout9 (by decide) ?_
    obtain ⟨sa9, hst9⟩ := hE.2.2.1 (135, "nothing of that kind is kept of a server") (by decide)
    exact ez_throwS (cls := IOE) (names := EXN) hx hb hl9 hown (by decide +kernel) (by decide +kernel) (hw9 _ mw_243) (hw9 _ mw_9) hst9 (at_IOE hw9 hE) hO.1 (by rw [hml]; exact hl.1) hTab hlocks dX0_server_124 dX0_server_127 dX0_server_128 dX0_server_130 dX0_server_133 (by decide) (Nat.le_of_ble_eq_true rfl) (Nat.le_of_ble_eq_true rfl) (Nat.le_of_ble_eq_true rfl) (fun q t ce h1 h2 h3 h4 h5 h6 => ⟨1, ce, (by first | (simp [tc_get, hv_1, c_2, c_3, c_4, c_5, c_7, c_8, c_9, c_10]; done) | (simp only [tc_get, hv_1, c_2, c_3, c_4, c_5, c_7, c_8, c_9, c_10, eq_self, not_true_eq_false, not_false_eq_true, and_self, and_true, true_and, and_false, false_and, or_true, true_or, or_false, false_or, if_true, if_false, ite_true, ite_false, Bool.and_eq_true, decide_true, decide_false, decide_eq_true_eq, ne_eq, Nat.reduceEqDiff, Nat.one_ne_zero, Bool.false_eq_true, reduceCtorEq]; done) | (simp only [tc_get, hv_1, c_2, c_3, c_4, c_5, c_7, c_8, c_9, c_10, eq_self, not_true_eq_false, not_false_eq_true, and_self, and_true, true_and, and_false, false_and, or_true, true_or, or_false, false_or, if_true, if_false, ite_true, ite_false, Bool.and_eq_true, decide_true, decide_false, decide_eq_true_eq, ne_eq, Nat.reduceEqDiff, Nat.one_ne_zero, Bool.false_eq_true, reduceCtorEq]; decide)), h1, h2, by rw [h4.findClass]; exact h3, h5, h6⟩)
set_option maxHeartbeats 4000000 in
set_option maxRecDepth 100000 in
theorem c_X0_council (l : Launch) (hl9 : l.stackTraces = false) (D : va_G) (cI cZ : ClassId) (ty : kz_Y) (ad : Nat → Nat) (rs : va_W) (sz : Nat) (it o n g v r : Int32) (nx mt fl pr ofs ak hd an : Nat → Int32) (p0 : Int32) : ez_M l yX0_council wsX0_council ({ frames := 2, cells := 1, slots := 6, locals := 40 } : Room) (kz_P D ((cI, .int) :: (cZ, .boolean) :: ty) (wX ad cI cZ it o n g v r nx mt fl pr ofs ak hd an ++ rs) sz [.ref (ad 0), .int p0]) (kz_Ro (kz_i (fun r9 => r9 = (if p0 = 0 then o else if p0 = 1 then n else if p0 = 2 then g else if p0 = 3 then (o ||| n) else if p0 = 4 then sq_P it o n g else if p0 = 5 then v else if p0 = 6 then r else if p0 = 7 then it else (-1))))) (kz_T (fun _ => IAE) (fun _ => False)) 0 0 (fun _ => False) := by
  refine ez_ofW (cc := cX0_council) (maxL := 2) (ret := (some .int)) (by decide) rfl ?_
  intro p e s m args below meth c s₁ B hml hTab hv
  obtain ⟨rfl, hsz, hP, hK, hD0, hE⟩ := hv
  have hx := B.exec
  have hb := B.bytes
  have hr := B.returns
  have hw9 : ∀ w ∈ kz_W9, w.before ([.ref (ad 0), .int p0] : List Value).toArray s = true := fun w h => atoms_spec (ws := wsX0_council) B.pre w (List.mem_cons_of_mem _ h)
  have hown : s.vm.findClass RX0 = some m.cls := findClass_of_methodNamed B.named
  have hlocks := B.notSynchronized
  subst hsz
  have hD := hD0.self (sz := s.heap.size)
  generalize hAe : va_A (wX ad cI cZ it o n g v r nx mt fl pr ofs ak hd an ++ rs) s.heap.size = A at hD hE
  have hA : ∀ q : Nat, s.heap.size ≤ q → A q := fun q h => by rw [← hAe]; exact Or.inr h
  have hS : va_S A s.heap s.heap [] := va_S.rf
  have hO : kz_O s.heap s.heap := kz_O.rf _
  have hl := lv_entry ([.ref (ad 0), .int p0]) (n := 2) (Nat.le_of_ble_eq_true rfl)
  rw [lg_entry_eq]
  generalize (lg_sl ([.ref (ad 0), .int p0]) ++ List.replicate (2 - (lg_sl ([.ref (ad 0), .int p0])).length) Slot.unset).toArray = ls at hl ⊢
  have hl : lv_has ls 2 [(0, .ref (ad 0)), (1, .int p0)] := hl
  refine lv_iload_n hx hb dX0_council_0 rfl (lv_at hl 1 rfl) ?_
  by_cases c_1 : p0 = 0
  · -- case 0
    refine lv_tableIn (tgt := 48) hx hb dX0_council_1 (by rw [c_1]; decide) (by rw [c_1]; decide) (by rw [c_1]; rfl) (by decide) ?_
    refine lv_aload_n hx hb dX0_council_48 rfl (lv_at hl 0 rfl) ?_
    refine va_get (D := D) (ci := 0) (v := .int o) (C := RX0) (T := TX0) (N := 14) hx hb hw9 uX0 hown hK hP 0 rfl rfl 1 (by decide) (hw9 _ mw_20) (fun _ h9 => h9) rfl dX0_council_49 ?_
    exact kz_reti hx hb hr hlocks hO (by first | (simp [c_1]; done) | (simp only [c_1, eq_self, not_true_eq_false, not_false_eq_true, and_self, and_true, true_and, and_false, false_and, or_true, true_or, or_false, false_or, if_true, if_false, ite_true, ite_false, Bool.and_eq_true, decide_true, decide_false, decide_eq_true_eq, ne_eq, Nat.reduceEqDiff, Nat.one_ne_zero, Bool.false_eq_true, reduceCtorEq]; done) | (simp only [c_1, eq_self, not_true_eq_false, not_false_eq_true, and_self, and_true, true_and, and_false, false_and, or_true, true_or, or_false, false_or, if_true, if_false, ite_true, ite_false, Bool.and_eq_true, decide_true, decide_false, decide_eq_true_eq, ne_eq, Nat.reduceEqDiff, Nat.one_ne_zero, Bool.false_eq_true, reduceCtorEq]; decide))  dX0_council_52
  by_cases c_2 : p0 = 1
  · -- case 1
    refine lv_tableIn (tgt := 53) hx hb dX0_council_1 (by rw [c_2]; decide) (by rw [c_2]; decide) (by rw [c_2]; rfl) (by decide) ?_
    refine lv_aload_n hx hb dX0_council_53 rfl (lv_at hl 0 rfl) ?_
    refine va_get (D := D) (ci := 0) (v := .int n) (C := RX0) (T := TX0) (N := 14) hx hb hw9 uX0 hown hK hP 0 rfl rfl 2 (by decide) (hw9 _ mw_21) (fun _ h9 => h9) rfl dX0_council_54 ?_
    exact kz_reti hx hb hr hlocks hO (by first | (simp [c_1, c_2]; done) | (simp only [c_1, c_2, eq_self, not_true_eq_false, not_false_eq_true, and_self, and_true, true_and, and_false, false_and, or_true, true_or, or_false, false_or, if_true, if_false, ite_true, ite_false, Bool.and_eq_true, decide_true, decide_false, decide_eq_true_eq, ne_eq, Nat.reduceEqDiff, Nat.one_ne_zero, Bool.false_eq_true, reduceCtorEq]; done) | (simp only [c_1, c_2, eq_self, not_true_eq_false, not_false_eq_true, and_self, and_true, true_and, and_false, false_and, or_true, true_or, or_false, false_or, if_true, if_false, ite_true, ite_false, Bool.and_eq_true, decide_true, decide_false, decide_eq_true_eq, ne_eq, Nat.reduceEqDiff, Nat.one_ne_zero, Bool.false_eq_true, reduceCtorEq]; decide))  dX0_council_57
  by_cases c_3 : p0 = 2
  · -- case 2
    refine lv_tableIn (tgt := 58) hx hb dX0_council_1 (by rw [c_3]; decide) (by rw [c_3]; decide) (by rw [c_3]; rfl) (by decide) ?_
    refine lv_aload_n hx hb dX0_council_58 rfl (lv_at hl 0 rfl) ?_
    refine va_get (D := D) (ci := 0) (v := .int g) (C := RX0) (T := TX0) (N := 14) hx hb hw9 uX0 hown hK hP 0 rfl rfl 3 (by decide) (hw9 _ mw_22) (fun _ h9 => h9) rfl dX0_council_59 ?_
    exact kz_reti hx hb hr hlocks hO (by first | (simp [c_1, c_2, c_3]; done) | (simp only [c_1, c_2, c_3, eq_self, not_true_eq_false, not_false_eq_true, and_self, and_true, true_and, and_false, false_and, or_true, true_or, or_false, false_or, if_true, if_false, ite_true, ite_false, Bool.and_eq_true, decide_true, decide_false, decide_eq_true_eq, ne_eq, Nat.reduceEqDiff, Nat.one_ne_zero, Bool.false_eq_true, reduceCtorEq]; done) | (simp only [c_1, c_2, c_3, eq_self, not_true_eq_false, not_false_eq_true, and_self, and_true, true_and, and_false, false_and, or_true, true_or, or_false, false_or, if_true, if_false, ite_true, ite_false, Bool.and_eq_true, decide_true, decide_false, decide_eq_true_eq, ne_eq, Nat.reduceEqDiff, Nat.one_ne_zero, Bool.false_eq_true, reduceCtorEq]; decide))  dX0_council_62
  by_cases c_4 : p0 = 3
  · -- case 3
    refine lv_tableIn (tgt := 63) hx hb dX0_council_1 (by rw [c_4]; decide) (by rw [c_4]; decide) (by rw [c_4]; rfl) (by decide) ?_
    refine lv_aload_n hx hb dX0_council_63 rfl (lv_at hl 0 rfl) ?_
    refine kz_rV (As := []) (rest := []) ⟨hx, hb, hml, hown, hw9⟩ (c_X0_voterSet l hl9 D cI cZ ty ad rs s.heap.size it o n g v r nx mt fl pr ofs ak hd an) (kz_cV 0 hw9 mw_76 mw_78 ms_1 mw_1 mw_79 rfl rfl (by decide +kernel) ⟨Nat.le_of_ble_eq_true rfl, Nat.le_of_ble_eq_true rfl⟩) (kz_preV (q0 := 0) (ci := 0) hK hP hD hS hA hE rfl rfl) rfl hl.1 rfl (Nat.le_of_ble_eq_true rfl) dX0_council_64 ⟨Nat.le_of_ble_eq_true rfl, Nat.le_of_ble_eq_true rfl⟩ (fun _ _ _ _ h => False.elim h) (fun v9 H hv9 hO1 => ?_)
    obtain ⟨_, rfl, rfl⟩ := hv9
    have hP := hO1.P hP
    have hS := hO1.S hS
    have hO := hO.tr hO1
    refine W.eq (g2 := F0 m 67 ls [.int (o ||| n)]) rfl ?_
    exact kz_reti hx hb hr hlocks hO (by first | (simp [c_1, c_2, c_3, c_4]; done) | (simp only [c_1, c_2, c_3, c_4, eq_self, not_true_eq_false, not_false_eq_true, and_self, and_true, true_and, and_false, false_and, or_true, true_or, or_false, false_or, if_true, if_false, ite_true, ite_false, Bool.and_eq_true, decide_true, decide_false, decide_eq_true_eq, ne_eq, Nat.reduceEqDiff, Nat.one_ne_zero, Bool.false_eq_true, reduceCtorEq]; done) | (simp only [c_1, c_2, c_3, c_4, eq_self, not_true_eq_false, not_false_eq_true, and_self, and_true, true_and, and_false, false_and, or_true, true_or, or_false, false_or, if_true, if_false, ite_true, ite_false, Bool.and_eq_true, decide_true, decide_false, decide_eq_true_eq, ne_eq, Nat.reduceEqDiff, Nat.one_ne_zero, Bool.false_eq_true, reduceCtorEq]; decide))  dX0_council_67
  by_cases c_5 : p0 = 4
  · -- case 4
    refine lv_tableIn (tgt := 68) hx hb dX0_council_1 (by rw [c_5]; decide) (by rw [c_5]; decide) (by rw [c_5]; rfl) (by decide) ?_
    refine lv_aload_n hx hb dX0_council_68 rfl (lv_at hl 0 rfl) ?_
    refine kz_rV (As := []) (rest := []) ⟨hx, hb, hml, hown, hw9⟩ (c_X0_peerSet l hl9 D cI cZ ty ad rs s.heap.size it o n g v r nx mt fl pr ofs ak hd an) (kz_cV 0 hw9 mw_72 mw_74 ms_0 mw_1 mw_75 rfl rfl (by decide +kernel) ⟨Nat.le_of_ble_eq_true rfl, Nat.le_of_ble_eq_true rfl⟩) (kz_preV (q0 := 0) (ci := 0) hK hP hD hS hA hE rfl rfl) rfl hl.1 rfl (Nat.le_of_ble_eq_true rfl) dX0_council_69 ⟨Nat.le_of_ble_eq_true rfl, Nat.le_of_ble_eq_true rfl⟩ (fun _ _ _ _ h => False.elim h) (fun v9 H hv9 hO1 => ?_)
    obtain ⟨_, rfl, rfl⟩ := hv9
    have hP := hO1.P hP
    have hS := hO1.S hS
    have hO := hO.tr hO1
    refine W.eq (g2 := F0 m 72 ls [.int (sq_P it o n g)]) rfl ?_
    exact kz_reti hx hb hr hlocks hO (by first | (simp [c_1, c_2, c_3, c_4, c_5]; done) | (simp only [c_1, c_2, c_3, c_4, c_5, eq_self, not_true_eq_false, not_false_eq_true, and_self, and_true, true_and, and_false, false_and, or_true, true_or, or_false, false_or, if_true, if_false, ite_true, ite_false, Bool.and_eq_true, decide_true, decide_false, decide_eq_true_eq, ne_eq, Nat.reduceEqDiff, Nat.one_ne_zero, Bool.false_eq_true, reduceCtorEq]; done) | (simp only [c_1, c_2, c_3, c_4, c_5, eq_self, not_true_eq_false, not_false_eq_true, and_self, and_true, true_and, and_false, false_and, or_true, true_or, or_false, false_or, if_true, if_false, ite_true, ite_false, Bool.and_eq_true, decide_true, decide_false, decide_eq_true_eq, ne_eq, Nat.reduceEqDiff, Nat.one_ne_zero, Bool.false_eq_true, reduceCtorEq]; decide))  dX0_council_72
  by_cases c_6 : p0 = 5
  · -- case 5
    refine lv_tableIn (tgt := 73) hx hb dX0_council_1 (by rw [c_6]; decide) (by rw [c_6]; decide) (by rw [c_6]; rfl) (by decide) ?_
    refine lv_aload_n hx hb dX0_council_73 rfl (lv_at hl 0 rfl) ?_
    refine va_get (D := D) (ci := 0) (v := .int v) (C := RX0) (T := TX0) (N := 14) hx hb hw9 uX0 hown hK hP 0 rfl rfl 4 (by decide) (hw9 _ mw_23) (fun _ h9 => h9) rfl dX0_council_74 ?_
    exact kz_reti hx hb hr hlocks hO (by first | (simp [c_1, c_2, c_3, c_4, c_5, c_6]; done) | (simp only [c_1, c_2, c_3, c_4, c_5, c_6, eq_self, not_true_eq_false, not_false_eq_true, and_self, and_true, true_and, and_false, false_and, or_true, true_or, or_false, false_or, if_true, if_false, ite_true, ite_false, Bool.and_eq_true, decide_true, decide_false, decide_eq_true_eq, ne_eq, Nat.reduceEqDiff, Nat.one_ne_zero, Bool.false_eq_true, reduceCtorEq]; done) | (simp only [c_1, c_2, c_3, c_4, c_5, c_6, eq_self, not_true_eq_false, not_false_eq_true, and_self, and_true, true_and, and_false, false_and, or_true, true_or, or_false, false_or, if_true, if_false, ite_true, ite_false, Bool.and_eq_true, decide_true, decide_false, decide_eq_true_eq, ne_eq, Nat.reduceEqDiff, Nat.one_ne_zero, Bool.false_eq_true, reduceCtorEq]; decide))  dX0_council_77
  by_cases c_7 : p0 = 6
  · -- case 6
    refine lv_tableIn (tgt := 78) hx hb dX0_council_1 (by rw [c_7]; decide) (by rw [c_7]; decide) (by rw [c_7]; rfl) (by decide) ?_
    refine lv_aload_n hx hb dX0_council_78 rfl (lv_at hl 0 rfl) ?_
    refine va_get (D := D) (ci := 0) (v := .int r) (C := RX0) (T := TX0) (N := 14) hx hb hw9 uX0 hown hK hP 0 rfl rfl 5 (by decide) (hw9 _ mw_24) (fun _ h9 => h9) rfl dX0_council_79 ?_
    exact kz_reti hx hb hr hlocks hO (by first | (simp [c_1, c_2, c_3, c_4, c_5, c_6, c_7]; done) | (simp only [c_1, c_2, c_3, c_4, c_5, c_6, c_7, eq_self, not_true_eq_false, not_false_eq_true, and_self, and_true, true_and, and_false, false_and, or_true, true_or, or_false, false_or, if_true, if_false, ite_true, ite_false, Bool.and_eq_true, decide_true, decide_false, decide_eq_true_eq, ne_eq, Nat.reduceEqDiff, Nat.one_ne_zero, Bool.false_eq_true, reduceCtorEq]; done) | (simp only [c_1, c_2, c_3, c_4, c_5, c_6, c_7, eq_self, not_true_eq_false, not_false_eq_true, and_self, and_true, true_and, and_false, false_and, or_true, true_or, or_false, false_or, if_true, if_false, ite_true, ite_false, Bool.and_eq_true, decide_true, decide_false, decide_eq_true_eq, ne_eq, Nat.reduceEqDiff, Nat.one_ne_zero, Bool.false_eq_true, reduceCtorEq]; decide))  dX0_council_82
  by_cases c_8 : p0 = 7
  · -- case 7
    refine lv_tableIn (tgt := 83) hx hb dX0_council_1 (by rw [c_8]; decide) (by rw [c_8]; decide) (by rw [c_8]; rfl) (by decide) ?_
    refine lv_aload_n hx hb dX0_council_83 rfl (lv_at hl 0 rfl) ?_
    refine va_get (D := D) (ci := 0) (v := .int it) (C := RX0) (T := TX0) (N := 14) hx hb hw9 uX0 hown hK hP 0 rfl rfl 0 (by decide) (hw9 _ mw_19) (fun _ h9 => h9) rfl dX0_council_84 ?_
    exact kz_reti hx hb hr hlocks hO (by first | (simp [c_1, c_2, c_3, c_4, c_5, c_6, c_7, c_8]; done) | (simp only [c_1, c_2, c_3, c_4, c_5, c_6, c_7, c_8, eq_self, not_true_eq_false, not_false_eq_true, and_self, and_true, true_and, and_false, false_and, or_true, true_or, or_false, false_or, if_true, if_false, ite_true, ite_false, Bool.and_eq_true, decide_true, decide_false, decide_eq_true_eq, ne_eq, Nat.reduceEqDiff, Nat.one_ne_zero, Bool.false_eq_true, reduceCtorEq]; done) | (simp only [c_1, c_2, c_3, c_4, c_5, c_6, c_7, c_8, eq_self, not_true_eq_false, not_false_eq_true, and_self, and_true, true_and, and_false, false_and, or_true, true_or, or_false, false_or, if_true, if_false, ite_true, ite_false, Bool.and_eq_true, decide_true, decide_false, decide_eq_true_eq, ne_eq, Nat.reduceEqDiff, Nat.one_ne_zero, Bool.false_eq_true, reduceCtorEq]; decide))  dX0_council_87
  have hout9 : p0.toInt < 0 ∨ 7 < p0.toInt := by
    have q0 := lv_neT (a := 0) c_1 (by decide)
    have q1 := lv_neT (a := 1) c_2 (by decide)
    have q2 := lv_neT (a := 2) c_3 (by decide)
    have q3 := lv_neT (a := 3) c_4 (by decide)
    have q4 := lv_neT (a := 4) c_5 (by decide)
    have q5 := lv_neT (a := 5) c_6 (by decide)
    have q6 := lv_neT (a := 6) c_7 (by decide)
    have q7 := lv_neT (a := 7) c_8 (by decide)
    omega
  refine lv_tableOut (tgt := 88) hx hb dX0_council_1 hout9 (by decide) ?_
  refine lv_iconst (v := (-1)) hx hb dX0_council_88 (by decide) ?_
  exact kz_reti hx hb hr hlocks hO (by first | (simp [c_1, c_2, c_3, c_4, c_5, c_6, c_7, c_8]; done) | (simp only [c_1, c_2, c_3, c_4, c_5, c_6, c_7, c_8, eq_self, not_true_eq_false, not_false_eq_true, and_self, and_true, true_and, and_false, false_and, or_true, true_or, or_false, false_or, if_true, if_false, ite_true, ite_false, Bool.and_eq_true, decide_true, decide_false, decide_eq_true_eq, ne_eq, Nat.reduceEqDiff, Nat.one_ne_zero, Bool.false_eq_true, reduceCtorEq]; done) | (simp only [c_1, c_2, c_3, c_4, c_5, c_6, c_7, c_8, eq_self, not_true_eq_false, not_false_eq_true, and_self, and_true, true_and, and_false, false_and, or_true, true_or, or_false, false_or, if_true, if_false, ite_true, ite_false, Bool.and_eq_true, decide_true, decide_false, decide_eq_true_eq, ne_eq, Nat.reduceEqDiff, Nat.one_ne_zero, Bool.false_eq_true, reduceCtorEq]; decide))  dX0_council_89
set_option maxHeartbeats 4000000 in
set_option maxRecDepth 100000 in
theorem c_X0_lead (l : Launch) (hl9 : l.stackTraces = false) (D : va_G) (cI cZ : ClassId) (ty : kz_Y) (ad : Nat → Nat) (rs : va_W) (sz : Nat) (it o n g v r : Int32) (nx mt fl pr ofs ak hd an : Nat → Int32) (p0 : Int32) (p1 : Int32) : ez_M l yX0_lead wsX0_lead ({ frames := 7, cells := 1, slots := 6, locals := 110 } : Room) (kz_P D ((cI, .int) :: (cZ, .boolean) :: ty) (wX ad cI cZ it o n g v r nx mt fl pr ofs ak hd an ++ rs) sz [.ref (ad 0), .int p0, .int p1]) (kz_Wr D (va_A (wX ad cI cZ it o n g v r nx mt fl pr ofs ak hd an ++ rs) sz) (kz_v (tc_own p0 p1 = 0)) (wX ad cI cZ it o n g v 0 (fun _ => p0 + 1) (fun _ => 0) (fun _ => 0) (fun _ => 1) (fun _ => 0) (fun _ => 0) (fun _ => p1) (fun _ => 0) ++ rs)) (kz_T (fun _ => IAE) (fun k => k = tc_own p0 p1 ∧ ¬ k = 0)) 0 0 (va_A (wX ad cI cZ it o n g v r nx mt fl pr ofs ak hd an ++ rs) sz) := by
  refine ez_ofW (cc := cX0_lead) (maxL := 4) (ret := none) (by decide) rfl ?_
  intro p e s m args below meth c s₁ B hml hTab hv
  obtain ⟨rfl, hsz, hP, hK, hD0, hE⟩ := hv
  have hx := B.exec
  have hb := B.bytes
  have hr := B.returns
  have hw9 : ∀ w ∈ kz_W9, w.before ([.ref (ad 0), .int p0, .int p1] : List Value).toArray s = true := fun w h => atoms_spec (ws := wsX0_lead) B.pre w (List.mem_cons_of_mem _ h)
  have hown : s.vm.findClass RX0 = some m.cls := findClass_of_methodNamed B.named
  have hlocks := B.notSynchronized
  subst hsz
  have hD := hD0.self (sz := s.heap.size)
  generalize hAe : va_A (wX ad cI cZ it o n g v r nx mt fl pr ofs ak hd an ++ rs) s.heap.size = A at hD hE ⊢
  have hA : ∀ q : Nat, s.heap.size ≤ q → A q := fun q h => by rw [← hAe]; exact Or.inr h
  have hS : va_S A s.heap s.heap [] := va_S.rf
  have hO : kz_O s.heap s.heap := kz_O.rf _
  have hl := lv_entry ([.ref (ad 0), .int p0, .int p1]) (n := 4) (Nat.le_of_ble_eq_true rfl)
  rw [lg_entry_eq]
  generalize (lg_sl ([.ref (ad 0), .int p0, .int p1]) ++ List.replicate (4 - (lg_sl ([.ref (ad 0), .int p0, .int p1])).length) Slot.unset).toArray = ls at hl ⊢
  have hl : lv_has ls 4 [(0, .ref (ad 0)), (1, .int p0), (2, .int p1)] := hl
  refine lv_iload_n hx hb dX0_lead_0 rfl (lv_at hl 1 rfl) ?_
  refine kz_rS (As := [.int p0]) (rest := []) ⟨hx, hb, hml, hown, hw9⟩ (c_X0_requireNumber l hl9 D ((cI, .int) :: (cZ, .boolean) :: ty) (wX ad cI cZ it o n g v r nx mt fl pr ofs ak hd an ++ rs) s.heap.size p0) (kz_cS 1 hw9 mw_266 mw_267 mw_1 mw_268 rfl rfl (by decide +kernel) ⟨Nat.le_of_ble_eq_true rfl, Nat.le_of_ble_eq_true rfl⟩) (kz_preS hK hP hD hS hA hE) rfl hl.1 rfl (Nat.le_of_ble_eq_true rfl) dX0_lead_1 ⟨Nat.le_of_ble_eq_true rfl, Nat.le_of_ble_eq_true rfl⟩ (fun k ce q9 H1 hk hO1 hce hcv hcl => ?_) (fun v9 H hv9 hO1 => ?_)
  · -- thrown
    exact kz_out (k := 1) hTab hlocks (by first | (simp [tc_own, hk]; done) | (simp only [tc_own, hk, eq_self, not_true_eq_false, not_false_eq_true, and_self, and_true, true_and, and_false, false_and, or_true, true_or, or_false, false_or, if_true, if_false, ite_true, ite_false, Bool.and_eq_true, decide_true, decide_false, decide_eq_true_eq, ne_eq, Nat.reduceEqDiff, Nat.one_ne_zero, Bool.false_eq_true, reduceCtorEq]; done) | (simp only [tc_own, hk, eq_self, not_true_eq_false, not_false_eq_true, and_self, and_true, true_and, and_false, false_and, or_true, true_or, or_false, false_or, if_true, if_false, ite_true, ite_false, Bool.and_eq_true, decide_true, decide_false, decide_eq_true_eq, ne_eq, Nat.reduceEqDiff, Nat.one_ne_zero, Bool.false_eq_true, reduceCtorEq]; decide)) (hO.tr hO1) hce hcv hcl (fun _ h => nomatch h) (Nat.le_of_ble_eq_true rfl) (Nat.le_of_ble_eq_true rfl)
  · -- goes on
    obtain ⟨rfl, hv_1⟩ := hv9
    have hP := hO1.P hP
    have hS := hO1.S hS
    have hO := hO.tr hO1
    refine W.eq (g2 := F0 m 4 ls []) rfl ?_
    refine lv_iload_n hx hb dX0_lead_4 rfl (lv_at hl 2 rfl) ?_
    refine kz_rS (As := [.int p1]) (rest := []) ⟨hx, hb, hml, hown, hw9⟩ (c_X0_requireNumber l hl9 D ((cI, .int) :: (cZ, .boolean) :: ty) (wX ad cI cZ it o n g v r nx mt fl pr ofs ak hd an ++ rs) H.size p1) (kz_cS 1 hw9 mw_266 mw_267 mw_1 mw_268 rfl rfl (by decide +kernel) ⟨Nat.le_of_ble_eq_true rfl, Nat.le_of_ble_eq_true rfl⟩) (kz_preS hK hP hD hS hA hE) rfl hl.1 rfl (Nat.le_of_ble_eq_true rfl) dX0_lead_5 ⟨Nat.le_of_ble_eq_true rfl, Nat.le_of_ble_eq_true rfl⟩ (fun k ce q9 H1 hk hO1 hce hcv hcl => ?_) (fun v9 H hv9 hO1 => ?_)
    · -- thrown
      exact kz_out (k := 1) hTab hlocks (by first | (simp [tc_own, hv_1, hk]; done) | (simp only [tc_own, hv_1, hk, eq_self, not_true_eq_false, not_false_eq_true, and_self, and_true, true_and, and_false, false_and, or_true, true_or, or_false, false_or, if_true, if_false, ite_true, ite_false, Bool.and_eq_true, decide_true, decide_false, decide_eq_true_eq, ne_eq, Nat.reduceEqDiff, Nat.one_ne_zero, Bool.false_eq_true, reduceCtorEq]; done) | (simp only [tc_own, hv_1, hk, eq_self, not_true_eq_false, not_false_eq_true, and_self, and_true, true_and, and_false, false_and, or_true, true_or, or_false, false_or, if_true, if_false, ite_true, ite_false, Bool.and_eq_true, decide_true, decide_false, decide_eq_true_eq, ne_eq, Nat.reduceEqDiff, Nat.one_ne_zero, Bool.false_eq_true, reduceCtorEq]; decide)) (hO.tr hO1) hce hcv hcl (fun _ h => nomatch h) (Nat.le_of_ble_eq_true rfl) (Nat.le_of_ble_eq_true rfl)
    · -- goes on
      obtain ⟨rfl, hv_2⟩ := hv9
      have hP := hO1.P hP
      have hS := hO1.S hS
      have hO := hO.tr hO1
      refine W.eq (g2 := F0 m 8 ls []) rfl ?_
      refine lv_iconst (v := 0) hx hb dX0_lead_8 (by decide) ?_
      refine lv_istore_n (lv' := [(3, .int 0), (0, .ref (ad 0)), (1, .int p0), (2, .int p1)]) hx hb dX0_lead_9 rfl hl (by decide) rfl (fun ls hl => ?_)
      have loop : ∀ (k i : Nat) (nx mt fl pr ofs ak hd an : Nat → Int32) (H : Heap) (locs : List Loc) (ls : Array Slot), i ≤ 7 → 7 < i + k → (∀ j, j < i → nx j = p0 + 1 ∧ mt j = 0 ∧ fl j = 0 ∧ pr j = 1 ∧ ofs j = 0 ∧ ak j = 0 ∧ hd j = p1 ∧ an j = 0) → va_P D vwCl (wX ad cI cZ it o n g v r nx mt fl pr ofs ak hd an ++ rs) H → va_D A (wX ad cI cZ it o n g v r nx mt fl pr ofs ak hd an ++ rs) → va_S A s.heap H locs → lv_has ls 4 [(3, .int (nI i)), (0, .ref (ad 0)), (1, .int p0), (2, .int p1)] → W p l e (headSpec wsX0_lead ({ frames := 7, cells := 1, slots := 6, locals := 110 } : Room)).room s m ([.ref (ad 0), .int p0, .int p1] : List Value).toArray below meth c H locs 0 0 (ez_MQ below (kz_Wr D A (kz_v (tc_own p0 p1 = 0)) (wX ad cI cZ it o n g v 0 (fun _ => p0 + 1) (fun _ => 0) (fun _ => 0) (fun _ => 1) (fun _ => 0) (fun _ => 0) (fun _ => p1) (fun _ => 0) ++ rs)) (kz_T (fun _ => IAE) (fun k => k = tc_own p0 p1 ∧ ¬ k = 0)) s 0 0 A) (F0 m 10 ls []) := by
        intro k
        induction k with
        | zero => intro i nx mt fl pr ofs ak hd an H locs ls h1 h2; omega
        | succ k ih =>
          intro i nx mt fl pr ofs ak hd an H locs ls h1 h2 hinv hP hD hS hl
          refine lv_iload_n hx hb dX0_lead_10 rfl (lv_at hl 0 rfl) ?_
          refine lv_bipush (v := 7) hx hb dX0_lead_11 (by decide) ?_
          refine lv_icmp_ge (tgt := 80) hx hb dX0_lead_13 (by decide) (fun c_3 => ?_) (fun c_3 => ?_)
          · -- 13 -> 80
            have hi7 : i = 7 := kz_i7 h1 c_3
            subst hi7
            have hP : va_P D vwCl (wX ad cI cZ it o n g v r (fun _ => p0 + 1) mt fl pr ofs ak hd an ++ rs) H := kz_fn (g := fun _ => p0 + 1) (k := 1) hP rfl (fun j hj => (hinv j hj).1)
            have hD : va_D A (wX ad cI cZ it o n g v r (fun _ => p0 + 1) mt fl pr ofs ak hd an ++ rs) := hD.set (p := 1) rfl
            have hP : va_P D vwCl (wX ad cI cZ it o n g v r (fun _ => p0 + 1) (fun _ => 0) fl pr ofs ak hd an ++ rs) H := kz_fn (g := fun _ => 0) (k := 2) hP rfl (fun j hj => (hinv j hj).2.1)
            have hD : va_D A (wX ad cI cZ it o n g v r (fun _ => p0 + 1) (fun _ => 0) fl pr ofs ak hd an ++ rs) := hD.set (p := 2) rfl
            have hP : va_P D vwCl (wX ad cI cZ it o n g v r (fun _ => p0 + 1) (fun _ => 0) (fun _ => 0) pr ofs ak hd an ++ rs) H := kz_fn (g := fun _ => 0) (k := 3) hP rfl (fun j hj => (hinv j hj).2.2.1)
            have hD : va_D A (wX ad cI cZ it o n g v r (fun _ => p0 + 1) (fun _ => 0) (fun _ => 0) pr ofs ak hd an ++ rs) := hD.set (p := 3) rfl
            have hP : va_P D vwCl (wX ad cI cZ it o n g v r (fun _ => p0 + 1) (fun _ => 0) (fun _ => 0) (fun _ => 1) ofs ak hd an ++ rs) H := kz_fn (g := fun _ => 1) (k := 4) hP rfl (fun j hj => (hinv j hj).2.2.2.1)
            have hD : va_D A (wX ad cI cZ it o n g v r (fun _ => p0 + 1) (fun _ => 0) (fun _ => 0) (fun _ => 1) ofs ak hd an ++ rs) := hD.set (p := 4) rfl
            have hP : va_P D vwCl (wX ad cI cZ it o n g v r (fun _ => p0 + 1) (fun _ => 0) (fun _ => 0) (fun _ => 1) (fun _ => 0) ak hd an ++ rs) H := kz_fn (g := fun _ => 0) (k := 5) hP rfl (fun j hj => (hinv j hj).2.2.2.2.1)
            have hD : va_D A (wX ad cI cZ it o n g v r (fun _ => p0 + 1) (fun _ => 0) (fun _ => 0) (fun _ => 1) (fun _ => 0) ak hd an ++ rs) := hD.set (p := 5) rfl
            have hP : va_P D vwCl (wX ad cI cZ it o n g v r (fun _ => p0 + 1) (fun _ => 0) (fun _ => 0) (fun _ => 1) (fun _ => 0) (fun _ => 0) hd an ++ rs) H := kz_fn (g := fun _ => 0) (k := 6) hP rfl (fun j hj => (hinv j hj).2.2.2.2.2.1)
            have hD : va_D A (wX ad cI cZ it o n g v r (fun _ => p0 + 1) (fun _ => 0) (fun _ => 0) (fun _ => 1) (fun _ => 0) (fun _ => 0) hd an ++ rs) := hD.set (p := 6) rfl
            have hP : va_P D vwCl (wX ad cI cZ it o n g v r (fun _ => p0 + 1) (fun _ => 0) (fun _ => 0) (fun _ => 1) (fun _ => 0) (fun _ => 0) (fun _ => p1) an ++ rs) H := kz_fn (g := fun _ => p1) (k := 7) hP rfl (fun j hj => (hinv j hj).2.2.2.2.2.2.1)
            have hD : va_D A (wX ad cI cZ it o n g v r (fun _ => p0 + 1) (fun _ => 0) (fun _ => 0) (fun _ => 1) (fun _ => 0) (fun _ => 0) (fun _ => p1) an ++ rs) := hD.set (p := 7) rfl
            have hP : va_P D vwCl (wX ad cI cZ it o n g v r (fun _ => p0 + 1) (fun _ => 0) (fun _ => 0) (fun _ => 1) (fun _ => 0) (fun _ => 0) (fun _ => p1) (fun _ => 0) ++ rs) H := kz_fn (g := fun _ => 0) (k := 8) hP rfl (fun j hj => (hinv j hj).2.2.2.2.2.2.2)
            have hD : va_D A (wX ad cI cZ it o n g v r (fun _ => p0 + 1) (fun _ => 0) (fun _ => 0) (fun _ => 1) (fun _ => 0) (fun _ => 0) (fun _ => p1) (fun _ => 0) ++ rs) := hD.set (p := 8) rfl
            refine lv_aload_n hx hb dX0_lead_80 rfl (lv_at hl 1 rfl) ?_
            refine lv_iconst (v := 0) hx hb dX0_lead_81 (by decide) ?_
            refine va_put (D := D) (ci := 0) (v := .int 0) (ty := .int) (C := RX0) (T := TX0) (N := 14) hx hb hw9 uX0 tyX0 tyX0_ok nmX0 hown hK hP hD hS 0 rfl rfl 5 (by decide) (hw9 _ mw_24) (fun _ h9 => h9) rfl (by decide +kernel) rfl rfl (Nat.le_of_ble_eq_true rfl) dX0_lead_82 (fun H locs hP hD hS => ?_)
            have hP : va_P D vwCl (wX ad cI cZ it o n g v 0 (fun _ => p0 + 1) (fun _ => 0) (fun _ => 0) (fun _ => 1) (fun _ => 0) (fun _ => 0) (fun _ => p1) (fun _ => 0) ++ rs) H := hP
            have hD : va_D A (wX ad cI cZ it o n g v 0 (fun _ => p0 + 1) (fun _ => 0) (fun _ => 0) (fun _ => 1) (fun _ => 0) (fun _ => 0) (fun _ => p1) (fun _ => 0) ++ rs) := hD
            exact kz_wretv hx hb hr hlocks hP hD hS (Nat.le_of_ble_eq_true rfl) (Nat.le_of_ble_eq_true rfl) (by first | (simp [tc_own, hv_1, hv_2, c_3, (Int32.not_lt.mpr c_3)]; done) | (simp only [tc_own, hv_1, hv_2, c_3, (Int32.not_lt.mpr c_3), eq_self, not_true_eq_false, not_false_eq_true, and_self, and_true, true_and, and_false, false_and, or_true, true_or, or_false, false_or, if_true, if_false, ite_true, ite_false, Bool.and_eq_true, decide_true, decide_false, decide_eq_true_eq, ne_eq, Nat.reduceEqDiff, Nat.one_ne_zero, Bool.false_eq_true, reduceCtorEq]; done) | (simp only [tc_own, hv_1, hv_2, c_3, (Int32.not_lt.mpr c_3), eq_self, not_true_eq_false, not_false_eq_true, and_self, and_true, true_and, and_false, false_and, or_true, true_or, or_false, false_or, if_true, if_false, ite_true, ite_false, Bool.and_eq_true, decide_true, decide_false, decide_eq_true_eq, ne_eq, Nat.reduceEqDiff, Nat.one_ne_zero, Bool.false_eq_true, reduceCtorEq]; decide))  dX0_lead_85
          · -- 13 -> 16
            have hi9 : i < 7 := kz_l7 h1 c_3
            have hc9 : (nI i).toNatClampNeg = i := nI_clamp (by omega)
            refine lv_aload_n hx hb dX0_lead_16 rfl (lv_at hl 1 rfl) ?_
            refine va_get (D := D) (ci := 0) (v := .ref (ad 1)) (C := RX0) (T := TX0) (N := 14) hx hb hw9 uX0 hown hK hP 0 rfl rfl 6 (by decide) (hw9 _ mw_25) (fun _ h9 => h9) rfl dX0_lead_17 ?_
            refine lv_iload_n hx hb dX0_lead_20 rfl (lv_at hl 0 rfl) ?_
            refine lv_iload_n hx hb dX0_lead_21 rfl (lv_at hl 2 rfl) ?_
            refine lv_iconst (v := 1) hx hb dX0_lead_22 (by decide) ?_
            refine lv_iadd hx hb dX0_lead_23 ?_
            refine va_iast hx hb hK hP hD hS 1 0 rfl rfl (vp_in_nI hi9 (by decide)) dX0_lead_24 (fun H locs hP hD hS => ?_)
            rw [hc9] at hP hD
            have hP : va_P D vwCl (wX ad cI cZ it o n g v r (upd nx i (p0 + 1)) mt fl pr ofs ak hd an ++ rs) H := hP
            have hD : va_D A (wX ad cI cZ it o n g v r (upd nx i (p0 + 1)) mt fl pr ofs ak hd an ++ rs) := hD
            refine lv_aload_n hx hb dX0_lead_25 rfl (lv_at hl 1 rfl) ?_
            refine va_get (D := D) (ci := 0) (v := .ref (ad 2)) (C := RX0) (T := TX0) (N := 14) hx hb hw9 uX0 hown hK hP 0 rfl rfl 7 (by decide) (hw9 _ mw_26) (fun _ h9 => h9) rfl dX0_lead_26 ?_
            refine lv_iload_n hx hb dX0_lead_29 rfl (lv_at hl 0 rfl) ?_
            refine lv_iconst (v := 0) hx hb dX0_lead_30 (by decide) ?_
            refine va_iast hx hb hK hP hD hS 2 0 rfl rfl (vp_in_nI hi9 (by decide)) dX0_lead_31 (fun H locs hP hD hS => ?_)
            rw [hc9] at hP hD
            have hP : va_P D vwCl (wX ad cI cZ it o n g v r (upd nx i (p0 + 1)) (upd mt i 0) fl pr ofs ak hd an ++ rs) H := hP
            have hD : va_D A (wX ad cI cZ it o n g v r (upd nx i (p0 + 1)) (upd mt i 0) fl pr ofs ak hd an ++ rs) := hD
            refine lv_aload_n hx hb dX0_lead_32 rfl (lv_at hl 1 rfl) ?_
            refine va_get (D := D) (ci := 0) (v := .ref (ad 3)) (C := RX0) (T := TX0) (N := 14) hx hb hw9 uX0 hown hK hP 0 rfl rfl 8 (by decide) (hw9 _ mw_27) (fun _ h9 => h9) rfl dX0_lead_33 ?_
            refine lv_iload_n hx hb dX0_lead_36 rfl (lv_at hl 0 rfl) ?_
            refine lv_iconst (v := 0) hx hb dX0_lead_37 (by decide) ?_
            refine va_iast hx hb hK hP hD hS 3 0 rfl rfl (vp_in_nI hi9 (by decide)) dX0_lead_38 (fun H locs hP hD hS => ?_)
            rw [hc9] at hP hD
            have hP : va_P D vwCl (wX ad cI cZ it o n g v r (upd nx i (p0 + 1)) (upd mt i 0) (upd fl i 0) pr ofs ak hd an ++ rs) H := hP
            have hD : va_D A (wX ad cI cZ it o n g v r (upd nx i (p0 + 1)) (upd mt i 0) (upd fl i 0) pr ofs ak hd an ++ rs) := hD
            refine lv_aload_n hx hb dX0_lead_39 rfl (lv_at hl 1 rfl) ?_
            refine va_get (D := D) (ci := 0) (v := .ref (ad 4)) (C := RX0) (T := TX0) (N := 14) hx hb hw9 uX0 hown hK hP 0 rfl rfl 9 (by decide) (hw9 _ mw_28) (fun _ h9 => h9) rfl dX0_lead_40 ?_
            refine lv_iload_n hx hb dX0_lead_43 rfl (lv_at hl 0 rfl) ?_
            refine lv_iconst (v := 1) hx hb dX0_lead_44 (by decide) ?_
            refine va_zast hx hb hK hP hD hS 4 1 rfl rfl (vp_in_nI hi9 (by decide)) dX0_lead_45 (fun H locs hP hD hS => ?_)
            rw [hc9] at hP hD
            have hP : va_P D vwCl (wX ad cI cZ it o n g v r (upd nx i (p0 + 1)) (upd mt i 0) (upd fl i 0) (upd pr i 1) ofs ak hd an ++ rs) H := hP
            have hD : va_D A (wX ad cI cZ it o n g v r (upd nx i (p0 + 1)) (upd mt i 0) (upd fl i 0) (upd pr i 1) ofs ak hd an ++ rs) := hD
            refine lv_aload_n hx hb dX0_lead_46 rfl (lv_at hl 1 rfl) ?_
            refine va_get (D := D) (ci := 0) (v := .ref (ad 5)) (C := RX0) (T := TX0) (N := 14) hx hb hw9 uX0 hown hK hP 0 rfl rfl 10 (by decide) (hw9 _ mw_29) (fun _ h9 => h9) rfl dX0_lead_47 ?_
            refine lv_iload_n hx hb dX0_lead_50 rfl (lv_at hl 0 rfl) ?_
            refine lv_iconst (v := 0) hx hb dX0_lead_51 (by decide) ?_
            refine va_iast hx hb hK hP hD hS 5 0 rfl rfl (vp_in_nI hi9 (by decide)) dX0_lead_52 (fun H locs hP hD hS => ?_)
            rw [hc9] at hP hD
            have hP : va_P D vwCl (wX ad cI cZ it o n g v r (upd nx i (p0 + 1)) (upd mt i 0) (upd fl i 0) (upd pr i 1) (upd ofs i 0) ak hd an ++ rs) H := hP
            have hD : va_D A (wX ad cI cZ it o n g v r (upd nx i (p0 + 1)) (upd mt i 0) (upd fl i 0) (upd pr i 1) (upd ofs i 0) ak hd an ++ rs) := hD
            refine lv_aload_n hx hb dX0_lead_53 rfl (lv_at hl 1 rfl) ?_
            refine va_get (D := D) (ci := 0) (v := .ref (ad 6)) (C := RX0) (T := TX0) (N := 14) hx hb hw9 uX0 hown hK hP 0 rfl rfl 11 (by decide) (hw9 _ mw_30) (fun _ h9 => h9) rfl dX0_lead_54 ?_
            refine lv_iload_n hx hb dX0_lead_57 rfl (lv_at hl 0 rfl) ?_
            refine lv_iconst (v := 0) hx hb dX0_lead_58 (by decide) ?_
            refine va_iast hx hb hK hP hD hS 6 0 rfl rfl (vp_in_nI hi9 (by decide)) dX0_lead_59 (fun H locs hP hD hS => ?_)
            rw [hc9] at hP hD
            have hP : va_P D vwCl (wX ad cI cZ it o n g v r (upd nx i (p0 + 1)) (upd mt i 0) (upd fl i 0) (upd pr i 1) (upd ofs i 0) (upd ak i 0) hd an ++ rs) H := hP
            have hD : va_D A (wX ad cI cZ it o n g v r (upd nx i (p0 + 1)) (upd mt i 0) (upd fl i 0) (upd pr i 1) (upd ofs i 0) (upd ak i 0) hd an ++ rs) := hD
            refine lv_aload_n hx hb dX0_lead_60 rfl (lv_at hl 1 rfl) ?_
            refine va_get (D := D) (ci := 0) (v := .ref (ad 7)) (C := RX0) (T := TX0) (N := 14) hx hb hw9 uX0 hown hK hP 0 rfl rfl 12 (by decide) (hw9 _ mw_31) (fun _ h9 => h9) rfl dX0_lead_61 ?_
            refine lv_iload_n hx hb dX0_lead_64 rfl (lv_at hl 0 rfl) ?_
            refine lv_iload_n hx hb dX0_lead_65 rfl (lv_at hl 3 rfl) ?_
            refine va_iast hx hb hK hP hD hS 7 0 rfl rfl (vp_in_nI hi9 (by decide)) dX0_lead_66 (fun H locs hP hD hS => ?_)
            rw [hc9] at hP hD
            have hP : va_P D vwCl (wX ad cI cZ it o n g v r (upd nx i (p0 + 1)) (upd mt i 0) (upd fl i 0) (upd pr i 1) (upd ofs i 0) (upd ak i 0) (upd hd i p1) an ++ rs) H := hP
            have hD : va_D A (wX ad cI cZ it o n g v r (upd nx i (p0 + 1)) (upd mt i 0) (upd fl i 0) (upd pr i 1) (upd ofs i 0) (upd ak i 0) (upd hd i p1) an ++ rs) := hD
            refine lv_aload_n hx hb dX0_lead_67 rfl (lv_at hl 1 rfl) ?_
            refine va_get (D := D) (ci := 0) (v := .ref (ad 8)) (C := RX0) (T := TX0) (N := 14) hx hb hw9 uX0 hown hK hP 0 rfl rfl 13 (by decide) (hw9 _ mw_32) (fun _ h9 => h9) rfl dX0_lead_68 ?_
            refine lv_iload_n hx hb dX0_lead_71 rfl (lv_at hl 0 rfl) ?_
            refine lv_iconst (v := 0) hx hb dX0_lead_72 (by decide) ?_
            refine va_zast hx hb hK hP hD hS 8 1 rfl rfl (vp_in_nI hi9 (by decide)) dX0_lead_73 (fun H locs hP hD hS => ?_)
            rw [hc9] at hP hD
            have hP : va_P D vwCl (wX ad cI cZ it o n g v r (upd nx i (p0 + 1)) (upd mt i 0) (upd fl i 0) (upd pr i 1) (upd ofs i 0) (upd ak i 0) (upd hd i p1) (upd an i 0) ++ rs) H := hP
            have hD : va_D A (wX ad cI cZ it o n g v r (upd nx i (p0 + 1)) (upd mt i 0) (upd fl i 0) (upd pr i 1) (upd ofs i 0) (upd ak i 0) (upd hd i p1) (upd an i 0) ++ rs) := hD
            obtain ⟨v_4, ev_4⟩ : ∃ y : Int32, y = (nI i) + 1 := ⟨_, rfl⟩
            refine lv_iinc (v := v_4) (lv' := [(3, .int v_4), (0, .ref (ad 0)), (1, .int p0), (2, .int p1)]) hx hb dX0_lead_74 hl (k := 0) rfl (by rw [ev_4]; rfl) (by decide) rfl (fun ls hl => ?_)
            refine lv_goto (tgt := 10) hx hb dX0_lead_77 (by decide) ?_
            obtain rfl : v_4 = nI (i + 1) := by rw [ev_4, nI_1]
            exact ih (i + 1) _ _ _ _ _ _ _ _ H locs ls (by omega) (by omega) (fun j hj => by
              simp only [upd]
              by_cases hji : j = i
              · simp [hji]
              · simp only [if_neg hji]
                exact hinv j (by omega)) hP hD hS (lv_sub hl [0, 1, 2, 3] rfl)
      exact loop 8 0 nx mt fl pr ofs ak hd an _ _ ls (by decide) (by decide) (fun j hj => absurd hj (Nat.not_lt_zero j)) hP hD hS (lv_sub hl [0, 1, 2, 3] rfl)
