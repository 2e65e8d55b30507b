set_option maxHeartbeats 4000000 in
set_option maxRecDepth 100000 in
theorem c_X0_matched (l : Launch) (hl9 : l.stackTraces = false) (D : va_G) (cI cZ : ClassId) (ty : kz_Y) (ad : Nat → Nat) (rs : va_W) (sz : Nat) (it o n g v r : Int32) (nx mt fl pr ofs ak hd an : Nat → Int32) (p0 : Int32) (p1 : Int32) (p2 : Int32) (p3 : Int32) : ez_M l yX0_matched wsX0_matched ({ frames := 7, cells := 1, slots := 6, locals := 110 } : Room) (kz_P D ((cI, .int) :: (cZ, .boolean) :: ty) (wX ad cI cZ it o n g v r nx mt fl pr ofs ak hd an ++ rs) sz [.ref (ad 0), .int p0, .int p1, .int p2, .int p3]) (kz_Wr D (va_A (wX ad cI cZ it o n g v r nx mt fl pr ofs ak hd an ++ rs) sz) (kz_i (fun r9 => (tc_matched p0 p1 p2 p3 = 0) ∧ r9 = (sq_max (mt p0.toNatClampNeg) p1))) (wX ad cI cZ it o n g v r (upd nx p0.toNatClampNeg (sq_max (nx p0.toNatClampNeg) (p1 + 1))) (upd mt p0.toNatClampNeg (sq_max (mt p0.toNatClampNeg) p1)) (upd fl p0.toNatClampNeg (sq_max (fl p0.toNatClampNeg - 1) 0)) (upd pr p0.toNatClampNeg 0) ofs (upd ak p0.toNatClampNeg (sq_max (ak p0.toNatClampNeg) p2)) (upd hd p0.toNatClampNeg p3) (upd an p0.toNatClampNeg 1) ++ rs)) (kz_T (fun k => match k with | 1 => IOE | _ => IAE) (fun k => k = tc_matched p0 p1 p2 p3 ∧ ¬ k = 0)) 0 0 (va_A (wX ad cI cZ it o n g v r nx mt fl pr ofs ak hd an ++ rs) sz) := by
  refine ez_ofW (cc := cX0_matched) (maxL := 5) (ret := (some .int)) (by decide) rfl ?_
  intro p e s m args below meth c s₁ B hml hTab hv
  obtain ⟨rfl, hsz, hP, hK, hD0, hE⟩ := hv
  have hx := B.exec
  have hb := B.bytes
  have hr := B.returns
  have hw9 : ∀ w ∈ kz_W9, w.before ([.ref (ad 0), .int p0, .int p1, .int p2, .int p3] : List Value).toArray s = true := fun w h => atoms_spec (ws := wsX0_matched) B.pre w (List.mem_cons_of_mem _ h)
  have hown : s.vm.findClass RX0 = some m.cls := findClass_of_methodNamed B.named
  have hlocks := B.notSynchronized
  subst hsz
  have hD := hD0.self (sz := s.heap.size)
  generalize hAe : va_A (wX ad cI cZ it o n g v r nx mt fl pr ofs ak hd an ++ rs) s.heap.size = A at hD hE ⊢
  have hA : ∀ q : Nat, s.heap.size ≤ q → A q := fun q h => by rw [← hAe]; exact Or.inr h
  have hS : va_S A s.heap s.heap [] := va_S.rf
  have hO : kz_O s.heap s.heap := kz_O.rf _
  have hl := lv_entry ([.ref (ad 0), .int p0, .int p1, .int p2, .int p3]) (n := 5) (Nat.le_of_ble_eq_true rfl)
  rw [lg_entry_eq]
  generalize (lg_sl ([.ref (ad 0), .int p0, .int p1, .int p2, .int p3]) ++ List.replicate (5 - (lg_sl ([.ref (ad 0), .int p0, .int p1, .int p2, .int p3])).length) Slot.unset).toArray = ls at hl ⊢
  have hl : lv_has ls 5 [(0, .ref (ad 0)), (1, .int p0), (2, .int p1), (3, .int p2), (4, .int p3)] := hl
  refine lv_iload_n hx hb dX0_matched_0 rfl (lv_at hl 1 rfl) ?_
  refine kz_rS (As := [.int p0]) (rest := []) ⟨hx, hb, hml, hown, hw9⟩ (c_X0_requireServer l hl9 D ((cI, .int) :: (cZ, .boolean) :: ty) (wX ad cI cZ it o n g v r nx mt fl pr ofs ak hd an ++ rs) s.heap.size p0) (kz_cS 1 hw9 mw_240 mw_241 mw_1 mw_242 rfl rfl (by decide +kernel) ⟨Nat.le_of_ble_eq_true rfl, Nat.le_of_ble_eq_true rfl⟩) (kz_preS hK hP hD hS hA hE) rfl hl.1 rfl (Nat.le_of_ble_eq_true rfl) dX0_matched_1 ⟨Nat.le_of_ble_eq_true rfl, Nat.le_of_ble_eq_true rfl⟩ (fun k ce q9 H1 hk hO1 hce hcv hcl => ?_) (fun v9 H hv9 hO1 => ?_)
  · -- thrown
    exact kz_out (k := 1) hTab hlocks (by first | (simp [tc_matched, hk]; done) | (simp only [tc_matched, hk, eq_self, not_true_eq_false, not_false_eq_true, and_self, and_true, true_and, and_false, false_and, or_true, true_or, or_false, false_or, if_true, if_false, ite_true, ite_false, Bool.and_eq_true, decide_true, decide_false, decide_eq_true_eq, ne_eq, Nat.reduceEqDiff, Nat.one_ne_zero, Bool.false_eq_true, reduceCtorEq]; done) | (simp only [tc_matched, hk, eq_self, not_true_eq_false, not_false_eq_true, and_self, and_true, true_and, and_false, false_and, or_true, true_or, or_false, false_or, if_true, if_false, ite_true, ite_false, Bool.and_eq_true, decide_true, decide_false, decide_eq_true_eq, ne_eq, Nat.reduceEqDiff, Nat.one_ne_zero, Bool.false_eq_true, reduceCtorEq]; decide)) (hO.tr hO1) hce hcv hcl (fun _ h => nomatch h) (Nat.le_of_ble_eq_true rfl) (Nat.le_of_ble_eq_true rfl)
  · -- goes on
    obtain ⟨rfl, hv_1⟩ := hv9
    have hP := hO1.P hP
    have hS := hO1.S hS
    have hO := hO.tr hO1
    refine W.eq (g2 := F0 m 4 ls []) rfl ?_
    refine lv_iload_n hx hb dX0_matched_4 rfl (lv_at hl 2 rfl) ?_
    refine kz_rS (As := [.int p1]) (rest := []) ⟨hx, hb, hml, hown, hw9⟩ (c_X0_requireNumber l hl9 D ((cI, .int) :: (cZ, .boolean) :: ty) (wX ad cI cZ it o n g v r nx mt fl pr ofs ak hd an ++ rs) H.size p1) (kz_cS 1 hw9 mw_266 mw_267 mw_1 mw_268 rfl rfl (by decide +kernel) ⟨Nat.le_of_ble_eq_true rfl, Nat.le_of_ble_eq_true rfl⟩) (kz_preS hK hP hD hS hA hE) rfl hl.1 rfl (Nat.le_of_ble_eq_true rfl) dX0_matched_5 ⟨Nat.le_of_ble_eq_true rfl, Nat.le_of_ble_eq_true rfl⟩ (fun k ce q9 H1 hk hO1 hce hcv hcl => ?_) (fun v9 H hv9 hO1 => ?_)
    · -- thrown
      exact kz_out (k := 2) hTab hlocks (by first | (simp [tc_matched, hv_1, hk]; done) | (simp only [tc_matched, hv_1, hk, eq_self, not_true_eq_false, not_false_eq_true, and_self, and_true, true_and, and_false, false_and, or_true, true_or, or_false, false_or, if_true, if_false, ite_true, ite_false, Bool.and_eq_true, decide_true, decide_false, decide_eq_true_eq, ne_eq, Nat.reduceEqDiff, Nat.one_ne_zero, Bool.false_eq_true, reduceCtorEq]; done) | (simp only [tc_matched, hv_1, hk, eq_self, not_true_eq_false, not_false_eq_true, and_self, and_true, true_and, and_false, false_and, or_true, true_or, or_false, false_or, if_true, if_false, ite_true, ite_false, Bool.and_eq_true, decide_true, decide_false, decide_eq_true_eq, ne_eq, Nat.reduceEqDiff, Nat.one_ne_zero, Bool.false_eq_true, reduceCtorEq]; decide)) (hO.tr hO1) hce hcv hcl (fun _ h => nomatch h) (Nat.le_of_ble_eq_true rfl) (Nat.le_of_ble_eq_true rfl)
    · -- goes on
      obtain ⟨rfl, hv_2⟩ := hv9
      have hP := hO1.P hP
      have hS := hO1.S hS
      have hO := hO.tr hO1
      refine W.eq (g2 := F0 m 8 ls []) rfl ?_
      refine lv_iload_n hx hb dX0_matched_8 rfl (lv_at hl 3 rfl) ?_
      refine kz_rS (As := [.int p2]) (rest := []) ⟨hx, hb, hml, hown, hw9⟩ (c_X0_requireNumber l hl9 D ((cI, .int) :: (cZ, .boolean) :: ty) (wX ad cI cZ it o n g v r nx mt fl pr ofs ak hd an ++ rs) H.size p2) (kz_cS 1 hw9 mw_266 mw_267 mw_1 mw_268 rfl rfl (by decide +kernel) ⟨Nat.le_of_ble_eq_true rfl, Nat.le_of_ble_eq_true rfl⟩) (kz_preS hK hP hD hS hA hE) rfl hl.1 rfl (Nat.le_of_ble_eq_true rfl) dX0_matched_9 ⟨Nat.le_of_ble_eq_true rfl, Nat.le_of_ble_eq_true rfl⟩ (fun k ce q9 H1 hk hO1 hce hcv hcl => ?_) (fun v9 H hv9 hO1 => ?_)
      · -- thrown
        exact kz_out (k := 2) hTab hlocks (by first | (simp [tc_matched, hv_1, hv_2, hk]; done) | (simp only [tc_matched, hv_1, hv_2, hk, eq_self, not_true_eq_false, not_false_eq_true, and_self, and_true, true_and, and_false, false_and, or_true, true_or, or_false, false_or, if_true, if_false, ite_true, ite_false, Bool.and_eq_true, decide_true, decide_false, decide_eq_true_eq, ne_eq, Nat.reduceEqDiff, Nat.one_ne_zero, Bool.false_eq_true, reduceCtorEq]; done) | (simp only [tc_matched, hv_1, hv_2, hk, eq_self, not_true_eq_false, not_false_eq_true, and_self, and_true, true_and, and_false, false_and, or_true, true_or, or_false, false_or, if_true, if_false, ite_true, ite_false, Bool.and_eq_true, decide_true, decide_false, decide_eq_true_eq, ne_eq, Nat.reduceEqDiff, Nat.one_ne_zero, Bool.false_eq_true, reduceCtorEq]; decide)) (hO.tr hO1) hce hcv hcl (fun _ h => nomatch h) (Nat.le_of_ble_eq_true rfl) (Nat.le_of_ble_eq_true rfl)
      · -- goes on
        obtain ⟨rfl, hv_3⟩ := hv9
        have hP := hO1.P hP
        have hS := hO1.S hS
        have hO := hO.tr hO1
        refine W.eq (g2 := F0 m 12 ls []) rfl ?_
        refine lv_iload hx hb dX0_matched_12 (lv_at hl 4 rfl) ?_
        refine kz_rS (As := [.int p3]) (rest := []) ⟨hx, hb, hml, hown, hw9⟩ (c_X0_requireNumber l hl9 D ((cI, .int) :: (cZ, .boolean) :: ty) (wX ad cI cZ it o n g v r nx mt fl pr ofs ak hd an ++ rs) H.size p3) (kz_cS 1 hw9 mw_266 mw_267 mw_1 mw_268 rfl rfl (by decide +kernel) ⟨Nat.le_of_ble_eq_true rfl, Nat.le_of_ble_eq_true rfl⟩) (kz_preS hK hP hD hS hA hE) rfl hl.1 rfl (Nat.le_of_ble_eq_true rfl) dX0_matched_14 ⟨Nat.le_of_ble_eq_true rfl, Nat.le_of_ble_eq_true rfl⟩ (fun k ce q9 H1 hk hO1 hce hcv hcl => ?_) (fun v9 H hv9 hO1 => ?_)
        · -- thrown
          exact kz_out (k := 2) hTab hlocks (by first | (simp [tc_matched, hv_1, hv_2, hv_3, hk]; done) | (simp only [tc_matched, hv_1, hv_2, hv_3, hk, eq_self, not_true_eq_false, not_false_eq_true, and_self, and_true, true_and, and_false, false_and, or_true, true_or, or_false, false_or, if_true, if_false, ite_true, ite_false, Bool.and_eq_true, decide_true, decide_false, decide_eq_true_eq, ne_eq, Nat.reduceEqDiff, Nat.one_ne_zero, Bool.false_eq_true, reduceCtorEq]; done) | (simp only [tc_matched, hv_1, hv_2, hv_3, hk, eq_self, not_true_eq_false, not_false_eq_true, and_self, and_true, true_and, and_false, false_and, or_true, true_or, or_false, false_or, if_true, if_false, ite_true, ite_false, Bool.and_eq_true, decide_true, decide_false, decide_eq_true_eq, ne_eq, Nat.reduceEqDiff, Nat.one_ne_zero, Bool.false_eq_true, reduceCtorEq]; decide)) (hO.tr hO1) hce hcv hcl (fun _ h => nomatch h) (Nat.le_of_ble_eq_true rfl) (Nat.le_of_ble_eq_true rfl)
        · -- goes on
          obtain ⟨rfl, hv_4⟩ := hv9
          have hP := hO1.P hP
          have hS := hO1.S hS
          have hO := hO.tr hO1
          refine W.eq (g2 := F0 m 17 ls []) rfl ?_
          refine lv_aload_n hx hb dX0_matched_17 rfl (lv_at hl 0 rfl) ?_
          refine lv_iload_n hx hb dX0_matched_18 rfl (lv_at hl 1 rfl) ?_
          refine lv_iload_n hx hb dX0_matched_19 rfl (lv_at hl 3 rfl) ?_
          refine lv_iload hx hb dX0_matched_20 (lv_at hl 4 rfl) ?_
          refine kz_wV (As := [.int p0, .int p2, .int p3]) (rest := []) ⟨hx, hb, hml, hown, hw9⟩ (c_X0_hear l hl9 D cI cZ ty ad rs H.size it o n g v r nx mt fl pr ofs ak hd an p0 p2 p3 (sq_V_in hv_1)) (kz_cV 3 hw9 mw_306 mw_308 ms_9 mw_1 mw_309 rfl rfl (by decide +kernel) ⟨Nat.le_of_ble_eq_true rfl, Nat.le_of_ble_eq_true rfl⟩) (kz_preV (q0 := 0) (ci := 0) hK hP hD hS hA hE rfl rfl) rfl hl.1 rfl (Nat.le_of_ble_eq_true rfl) dX0_matched_22 ⟨Nat.le_of_ble_eq_true rfl, Nat.le_of_ble_eq_true rfl⟩ hD hS hA (fun _ _ _ _ _ _ h => False.elim h) (fun v9 H locs hv9 hP hD hS => ?_)
          obtain ⟨rfl, -⟩ := hv9
          have hP : va_P D vwCl (wX ad cI cZ it o n g v r nx mt fl pr ofs (upd ak p0.toNatClampNeg (sq_max (ak p0.toNatClampNeg) p2)) (upd hd p0.toNatClampNeg p3) (upd an p0.toNatClampNeg 1) ++ rs) H := hP
          have hD : va_D A (wX ad cI cZ it o n g v r nx mt fl pr ofs (upd ak p0.toNatClampNeg (sq_max (ak p0.toNatClampNeg) p2)) (upd hd p0.toNatClampNeg p3) (upd an p0.toNatClampNeg 1) ++ rs) := hD
          refine W.eq (g2 := F0 m 25 ls []) rfl ?_
          refine lv_aload_n hx hb dX0_matched_25 rfl (lv_at hl 0 rfl) ?_
          refine va_get (D := D) (ci := 0) (v := .ref (ad 2)) (C := RX0) (T := TX0) (N := 14) hx hb hw9 uX0 hown hK hP 0 rfl rfl 7 (by decide) (hw9 _ mw_26) (fun _ h9 => h9) rfl dX0_matched_26 ?_
          refine lv_iload_n hx hb dX0_matched_29 rfl (lv_at hl 1 rfl) ?_
          refine lv_aload_n hx hb dX0_matched_30 rfl (lv_at hl 0 rfl) ?_
          refine va_get (D := D) (ci := 0) (v := .ref (ad 2)) (C := RX0) (T := TX0) (N := 14) hx hb hw9 uX0 hown hK hP 0 rfl rfl 7 (by decide) (hw9 _ mw_26) (fun _ h9 => h9) rfl dX0_matched_31 ?_
          refine lv_iload_n hx hb dX0_matched_34 rfl (lv_at hl 1 rfl) ?_
          refine va_iald hx hb hK hP 2 0 rfl rfl (sq_V_in hv_1) dX0_matched_35 ?_
          refine lv_iload_n hx hb dX0_matched_36 rfl (lv_at hl 2 rfl) ?_
          refine va_mmax hx hb (by rw [hml]; exact hl.1.symm) hown (hw9 _ mw_310) (hw9 _ mw_311) (hw9 _ mw_10) (hw9 _ mw_312) (Nat.le_of_ble_eq_true rfl) (Nat.le_of_ble_eq_true rfl) (Nat.le_of_ble_eq_true rfl) (Nat.le_of_ble_eq_true rfl) dX0_matched_37 ?_
          refine W.eq (g2 := F0 m 40 ls [.int (sq_max (mt p0.toNatClampNeg) p1), .int p0, .ref (ad 2)]) rfl ?_
          refine va_iast hx hb hK hP hD hS 2 0 rfl rfl (sq_V_in hv_1) dX0_matched_40 (fun H locs hP hD hS => ?_)
          have hP : va_P D vwCl (wX ad cI cZ it o n g v r nx (upd mt p0.toNatClampNeg (sq_max (mt p0.toNatClampNeg) p1)) fl pr ofs (upd ak p0.toNatClampNeg (sq_max (ak p0.toNatClampNeg) p2)) (upd hd p0.toNatClampNeg p3) (upd an p0.toNatClampNeg 1) ++ rs) H := hP
          have hD : va_D A (wX ad cI cZ it o n g v r nx (upd mt p0.toNatClampNeg (sq_max (mt p0.toNatClampNeg) p1)) fl pr ofs (upd ak p0.toNatClampNeg (sq_max (ak p0.toNatClampNeg) p2)) (upd hd p0.toNatClampNeg p3) (upd an p0.toNatClampNeg 1) ++ rs) := hD
          refine lv_aload_n hx hb dX0_matched_41 rfl (lv_at hl 0 rfl) ?_
          refine va_get (D := D) (ci := 0) (v := .ref (ad 4)) (C := RX0) (T := TX0) (N := 14) hx hb hw9 uX0 hown hK hP 0 rfl rfl 9 (by decide) (hw9 _ mw_28) (fun _ h9 => h9) rfl dX0_matched_42 ?_
          refine lv_iload_n hx hb dX0_matched_45 rfl (lv_at hl 1 rfl) ?_
          refine lv_iconst (v := 0) hx hb dX0_matched_46 (by decide) ?_
          refine va_zast hx hb hK hP hD hS 4 1 rfl rfl (sq_V_in hv_1) dX0_matched_47 (fun H locs hP hD hS => ?_)
          have hP : va_P D vwCl (wX ad cI cZ it o n g v r nx (upd mt p0.toNatClampNeg (sq_max (mt p0.toNatClampNeg) p1)) fl (upd pr p0.toNatClampNeg 0) ofs (upd ak p0.toNatClampNeg (sq_max (ak p0.toNatClampNeg) p2)) (upd hd p0.toNatClampNeg p3) (upd an p0.toNatClampNeg 1) ++ rs) H := hP
          have hD : va_D A (wX ad cI cZ it o n g v r nx (upd mt p0.toNatClampNeg (sq_max (mt p0.toNatClampNeg) p1)) fl (upd pr p0.toNatClampNeg 0) ofs (upd ak p0.toNatClampNeg (sq_max (ak p0.toNatClampNeg) p2)) (upd hd p0.toNatClampNeg p3) (upd an p0.toNatClampNeg 1) ++ rs) := hD
          refine lv_aload_n hx hb dX0_matched_48 rfl (lv_at hl 0 rfl) ?_
          refine va_get (D := D) (ci := 0) (v := .ref (ad 3)) (C := RX0) (T := TX0) (N := 14) hx hb hw9 uX0 hown hK hP 0 rfl rfl 8 (by decide) (hw9 _ mw_27) (fun _ h9 => h9) rfl dX0_matched_49 ?_
          refine lv_iload_n hx hb dX0_matched_52 rfl (lv_at hl 1 rfl) ?_
          refine lv_aload_n hx hb dX0_matched_53 rfl (lv_at hl 0 rfl) ?_
          refine va_get (D := D) (ci := 0) (v := .ref (ad 3)) (C := RX0) (T := TX0) (N := 14) hx hb hw9 uX0 hown hK hP 0 rfl rfl 8 (by decide) (hw9 _ mw_27) (fun _ h9 => h9) rfl dX0_matched_54 ?_
          refine lv_iload_n hx hb dX0_matched_57 rfl (lv_at hl 1 rfl) ?_
          refine va_iald hx hb hK hP 3 0 rfl rfl (sq_V_in hv_1) dX0_matched_58 ?_
          refine lv_iconst (v := 1) hx hb dX0_matched_59 (by decide) ?_
          refine lv_isub hx hb dX0_matched_60 ?_
          refine lv_iconst (v := 0) hx hb dX0_matched_61 (by decide) ?_
          refine va_mmax hx hb (by rw [hml]; exact hl.1.symm) hown (hw9 _ mw_310) (hw9 _ mw_311) (hw9 _ mw_10) (hw9 _ mw_312) (Nat.le_of_ble_eq_true rfl) (Nat.le_of_ble_eq_true rfl) (Nat.le_of_ble_eq_true rfl) (Nat.le_of_ble_eq_true rfl) dX0_matched_62 ?_
          refine W.eq (g2 := F0 m 65 ls [.int (sq_max ((fl p0.toNatClampNeg) - 1) 0), .int p0, .ref (ad 3)]) rfl ?_
          refine va_iast hx hb hK hP hD hS 3 0 rfl rfl (sq_V_in hv_1) dX0_matched_65 (fun H locs hP hD hS => ?_)
          have hP : va_P D vwCl (wX ad cI cZ it o n g v r nx (upd mt p0.toNatClampNeg (sq_max (mt p0.toNatClampNeg) p1)) (upd fl p0.toNatClampNeg (sq_max ((fl p0.toNatClampNeg) - 1) 0)) (upd pr p0.toNatClampNeg 0) ofs (upd ak p0.toNatClampNeg (sq_max (ak p0.toNatClampNeg) p2)) (upd hd p0.toNatClampNeg p3) (upd an p0.toNatClampNeg 1) ++ rs) H := hP
          have hD : va_D A (wX ad cI cZ it o n g v r nx (upd mt p0.toNatClampNeg (sq_max (mt p0.toNatClampNeg) p1)) (upd fl p0.toNatClampNeg (sq_max ((fl p0.toNatClampNeg) - 1) 0)) (upd pr p0.toNatClampNeg 0) ofs (upd ak p0.toNatClampNeg (sq_max (ak p0.toNatClampNeg) p2)) (upd hd p0.toNatClampNeg p3) (upd an p0.toNatClampNeg 1) ++ rs) := hD
          refine lv_aload_n hx hb dX0_matched_66 rfl (lv_at hl 0 rfl) ?_
          refine va_get (D := D) (ci := 0) (v := .ref (ad 1)) (C := RX0) (T := TX0) (N := 14) hx hb hw9 uX0 hown hK hP 0 rfl rfl 6 (by decide) (hw9 _ mw_25) (fun _ h9 => h9) rfl dX0_matched_67 ?_
          refine lv_iload_n hx hb dX0_matched_70 rfl (lv_at hl 1 rfl) ?_
          refine lv_aload_n hx hb dX0_matched_71 rfl (lv_at hl 0 rfl) ?_
          refine va_get (D := D) (ci := 0) (v := .ref (ad 1)) (C := RX0) (T := TX0) (N := 14) hx hb hw9 uX0 hown hK hP 0 rfl rfl 6 (by decide) (hw9 _ mw_25) (fun _ h9 => h9) rfl dX0_matched_72 ?_
          refine lv_iload_n hx hb dX0_matched_75 rfl (lv_at hl 1 rfl) ?_
          refine va_iald hx hb hK hP 1 0 rfl rfl (sq_V_in hv_1) dX0_matched_76 ?_
          refine lv_iload_n hx hb dX0_matched_77 rfl (lv_at hl 2 rfl) ?_
          refine lv_iconst (v := 1) hx hb dX0_matched_78 (by decide) ?_
          refine lv_iadd hx hb dX0_matched_79 ?_
          refine va_mmax hx hb (by rw [hml]; exact hl.1.symm) hown (hw9 _ mw_310) (hw9 _ mw_311) (hw9 _ mw_10) (hw9 _ mw_312) (Nat.le_of_ble_eq_true rfl) (Nat.le_of_ble_eq_true rfl) (Nat.le_of_ble_eq_true rfl) (Nat.le_of_ble_eq_true rfl) dX0_matched_80 ?_
          refine W.eq (g2 := F0 m 83 ls [.int (sq_max (nx p0.toNatClampNeg) (p1 + 1)), .int p0, .ref (ad 1)]) rfl ?_
          refine va_iast hx hb hK hP hD hS 1 0 rfl rfl (sq_V_in hv_1) dX0_matched_83 (fun H locs hP hD hS => ?_)
          have hP : va_P D vwCl (wX ad cI cZ it o n g v r (upd nx p0.toNatClampNeg (sq_max (nx p0.toNatClampNeg) (p1 + 1))) (upd mt p0.toNatClampNeg (sq_max (mt p0.toNatClampNeg) p1)) (upd fl p0.toNatClampNeg (sq_max ((fl p0.toNatClampNeg) - 1) 0)) (upd pr p0.toNatClampNeg 0) ofs (upd ak p0.toNatClampNeg (sq_max (ak p0.toNatClampNeg) p2)) (upd hd p0.toNatClampNeg p3) (upd an p0.toNatClampNeg 1) ++ rs) H := hP
          have hD : va_D A (wX ad cI cZ it o n g v r (upd nx p0.toNatClampNeg (sq_max (nx p0.toNatClampNeg) (p1 + 1))) (upd mt p0.toNatClampNeg (sq_max (mt p0.toNatClampNeg) p1)) (upd fl p0.toNatClampNeg (sq_max ((fl p0.toNatClampNeg) - 1) 0)) (upd pr p0.toNatClampNeg 0) ofs (upd ak p0.toNatClampNeg (sq_max (ak p0.toNatClampNeg) p2)) (upd hd p0.toNatClampNeg p3) (upd an p0.toNatClampNeg 1) ++ rs) := hD
          refine lv_aload_n hx hb dX0_matched_84 rfl (lv_at hl 0 rfl) ?_
          refine va_get (D := D) (ci := 0) (v := .ref (ad 2)) (C := RX0) (T := TX0) (N := 14) hx hb hw9 uX0 hown hK hP 0 rfl rfl 7 (by decide) (hw9 _ mw_26) (fun _ h9 => h9) rfl dX0_matched_85 ?_
          refine lv_iload_n hx hb dX0_matched_88 rfl (lv_at hl 1 rfl) ?_
          refine va_iald hx hb hK hP 2 0 rfl rfl (sq_V_in hv_1) dX0_matched_89 ?_
          exact kz_wreti hx hb hr hlocks hP hD hS (Nat.le_of_ble_eq_true rfl) (Nat.le_of_ble_eq_true rfl) (⟨by first | (simp [tc_matched, hv_1, hv_2, hv_3, hv_4]; done) | (simp only [tc_matched, hv_1, hv_2, hv_3, hv_4, eq_self, not_true_eq_false, not_false_eq_true, and_self, and_true, true_and, and_false, false_and, or_true, true_or, or_false, false_or, if_true, if_false, ite_true, ite_false, Bool.and_eq_true, decide_true, decide_false, decide_eq_true_eq, ne_eq, Nat.reduceEqDiff, Nat.one_ne_zero, Bool.false_eq_true, reduceCtorEq]; done) | (simp only [tc_matched, hv_1, hv_2, hv_3, hv_4, eq_self, not_true_eq_false, not_false_eq_true, and_self, and_true, true_and, and_false, false_and, or_true, true_or, or_false, false_or, if_true, if_false, ite_true, ite_false, Bool.and_eq_true, decide_true, decide_false, decide_eq_true_eq, ne_eq, Nat.reduceEqDiff, Nat.one_ne_zero, Bool.false_eq_true, reduceCtorEq]; decide), pk_us⟩)  dX0_matched_90
set_option maxHeartbeats 4000000 in
set_option maxRecDepth 100000 in
theorem c_X0_refused (l : Launch) (hl9 : l.stackTraces = false) (D : va_G) (cI cZ : ClassId) (ty : kz_Y) (ad : Nat → Nat) (rs : va_W) (sz : Nat) (it o n g v r : Int32) (nx mt fl pr ofs ak hd an : Nat → Int32) (p0 : Int32) (p1 : Int32) (p2 : Int32) (p3 : Int32) (p4 : Int32) : ez_M l yX0_refused wsX0_refused ({ frames := 7, cells := 1, slots := 6, locals := 110 } : Room) (kz_P D ((cI, .int) :: (cZ, .boolean) :: ty) (wX ad cI cZ it o n g v r nx mt fl pr ofs ak hd an ++ rs) sz [.ref (ad 0), .int p0, .int p1, .int p2, .int p3, .int p4]) (kz_Wr D (va_A (wX ad cI cZ it o n g v r nx mt fl pr ofs ak hd an ++ rs) sz) (kz_i (fun r9 => (tc_refused p0 p1 p2 p3 p4 = 0) ∧ r9 = (sq_min (sq_max p1 (mt p0.toNatClampNeg + 1)) (p2 + 1)))) (wX ad cI cZ it o n g v r (upd nx p0.toNatClampNeg (sq_min (sq_max p1 (mt p0.toNatClampNeg + 1)) (p2 + 1))) mt (upd fl p0.toNatClampNeg 0) (upd pr p0.toNatClampNeg 1) ofs (upd ak p0.toNatClampNeg (sq_max (ak p0.toNatClampNeg) p3)) (upd hd p0.toNatClampNeg p4) (upd an p0.toNatClampNeg 1) ++ rs)) (kz_T (fun k => match k with | 1 => IOE | _ => IAE) (fun k => k = tc_refused p0 p1 p2 p3 p4 ∧ ¬ k = 0)) 0 0 (va_A (wX ad cI cZ it o n g v r nx mt fl pr ofs ak hd an ++ rs) sz) := by
  refine ez_ofW (cc := cX0_refused) (maxL := 6) (ret := (some .int)) (by decide) rfl ?_
  intro p e s m args below meth c s₁ B hml hTab hv
  obtain ⟨rfl, hsz, hP, hK, hD0, hE⟩ := hv
  have hx := B.exec
  have hb := B.bytes
  have hr := B.returns
  have hw9 : ∀ w ∈ kz_W9, w.before ([.ref (ad 0), .int p0, .int p1, .int p2, .int p3, .int p4] : List Value).toArray s = true := fun w h => atoms_spec (ws := wsX0_refused) B.pre w (List.mem_cons_of_mem _ h)
  have hown : s.vm.findClass RX0 = some m.cls := findClass_of_methodNamed B.named
  have hlocks := B.notSynchronized
  subst hsz
  have hD := hD0.self (sz := s.heap.size)
  generalize hAe : va_A (wX ad cI cZ it o n g v r nx mt fl pr ofs ak hd an ++ rs) s.heap.size = A at hD hE ⊢
  have hA : ∀ q : Nat, s.heap.size ≤ q → A q := fun q h => by rw [← hAe]; exact Or.inr h
  have hS : va_S A s.heap s.heap [] := va_S.rf
  have hO : kz_O s.heap s.heap := kz_O.rf _
  have hl := lv_entry ([.ref (ad 0), .int p0, .int p1, .int p2, .int p3, .int p4]) (n := 6) (Nat.le_of_ble_eq_true rfl)
  rw [lg_entry_eq]
  generalize (lg_sl ([.ref (ad 0), .int p0, .int p1, .int p2, .int p3, .int p4]) ++ List.replicate (6 - (lg_sl ([.ref (ad 0), .int p0, .int p1, .int p2, .int p3, .int p4])).length) Slot.unset).toArray = ls at hl ⊢
  have hl : lv_has ls 6 [(0, .ref (ad 0)), (1, .int p0), (2, .int p1), (3, .int p2), (4, .int p3), (5, .int p4)] := hl
  refine lv_iload_n hx hb dX0_refused_0 rfl (lv_at hl 1 rfl) ?_
  refine kz_rS (As := [.int p0]) (rest := []) ⟨hx, hb, hml, hown, hw9⟩ (c_X0_requireServer l hl9 D ((cI, .int) :: (cZ, .boolean) :: ty) (wX ad cI cZ it o n g v r nx mt fl pr ofs ak hd an ++ rs) s.heap.size p0) (kz_cS 1 hw9 mw_240 mw_241 mw_1 mw_242 rfl rfl (by decide +kernel) ⟨Nat.le_of_ble_eq_true rfl, Nat.le_of_ble_eq_true rfl⟩) (kz_preS hK hP hD hS hA hE) rfl hl.1 rfl (Nat.le_of_ble_eq_true rfl) dX0_refused_1 ⟨Nat.le_of_ble_eq_true rfl, Nat.le_of_ble_eq_true rfl⟩ (fun k ce q9 H1 hk hO1 hce hcv hcl => ?_) (fun v9 H hv9 hO1 => ?_)
  · -- thrown
    exact kz_out (k := 1) hTab hlocks (by first | (simp [tc_refused, hk]; done) | (simp only [tc_refused, hk, eq_self, not_true_eq_false, not_false_eq_true, and_self, and_true, true_and, and_false, false_and, or_true, true_or, or_false, false_or, if_true, if_false, ite_true, ite_false, Bool.and_eq_true, decide_true, decide_false, decide_eq_true_eq, ne_eq, Nat.reduceEqDiff, Nat.one_ne_zero, Bool.false_eq_true, reduceCtorEq]; done) | (simp only [tc_refused, hk, eq_self, not_true_eq_false, not_false_eq_true, and_self, and_true, true_and, and_false, false_and, or_true, true_or, or_false, false_or, if_true, if_false, ite_true, ite_false, Bool.and_eq_true, decide_true, decide_false, decide_eq_true_eq, ne_eq, Nat.reduceEqDiff, Nat.one_ne_zero, Bool.false_eq_true, reduceCtorEq]; decide)) (hO.tr hO1) hce hcv hcl (fun _ h => nomatch h) (Nat.le_of_ble_eq_true rfl) (Nat.le_of_ble_eq_true rfl)
  · -- goes on
    obtain ⟨rfl, hv_1⟩ := hv9
    have hP := hO1.P hP
    have hS := hO1.S hS
    have hO := hO.tr hO1
    refine W.eq (g2 := F0 m 4 ls []) rfl ?_
    refine lv_iload_n hx hb dX0_refused_4 rfl (lv_at hl 2 rfl) ?_
    refine kz_rS (As := [.int p1]) (rest := []) ⟨hx, hb, hml, hown, hw9⟩ (c_X0_requireNumber l hl9 D ((cI, .int) :: (cZ, .boolean) :: ty) (wX ad cI cZ it o n g v r nx mt fl pr ofs ak hd an ++ rs) H.size p1) (kz_cS 1 hw9 mw_266 mw_267 mw_1 mw_268 rfl rfl (by decide +kernel) ⟨Nat.le_of_ble_eq_true rfl, Nat.le_of_ble_eq_true rfl⟩) (kz_preS hK hP hD hS hA hE) rfl hl.1 rfl (Nat.le_of_ble_eq_true rfl) dX0_refused_5 ⟨Nat.le_of_ble_eq_true rfl, Nat.le_of_ble_eq_true rfl⟩ (fun k ce q9 H1 hk hO1 hce hcv hcl => ?_) (fun v9 H hv9 hO1 => ?_)
    · -- thrown
      exact kz_out (k := 2) hTab hlocks (by first | (simp [tc_refused, hv_1, hk]; done) | (simp only [tc_refused, hv_1, hk, eq_self, not_true_eq_false, not_false_eq_true, and_self, and_true, true_and, and_false, false_and, or_true, true_or, or_false, false_or, if_true, if_false, ite_true, ite_false, Bool.and_eq_true, decide_true, decide_false, decide_eq_true_eq, ne_eq, Nat.reduceEqDiff, Nat.one_ne_zero, Bool.false_eq_true, reduceCtorEq]; done) | (simp only [tc_refused, hv_1, hk, eq_self, not_true_eq_false, not_false_eq_true, and_self, and_true, true_and, and_false, false_and, or_true, true_or, or_false, false_or, if_true, if_false, ite_true, ite_false, Bool.and_eq_true, decide_true, decide_false, decide_eq_true_eq, ne_eq, Nat.reduceEqDiff, Nat.one_ne_zero, Bool.false_eq_true, reduceCtorEq]; decide)) (hO.tr hO1) hce hcv hcl (fun _ h => nomatch h) (Nat.le_of_ble_eq_true rfl) (Nat.le_of_ble_eq_true rfl)
    · -- goes on
      obtain ⟨rfl, hv_2⟩ := hv9
      have hP := hO1.P hP
      have hS := hO1.S hS
      have hO := hO.tr hO1
      refine W.eq (g2 := F0 m 8 ls []) rfl ?_
      refine lv_iload_n hx hb dX0_refused_8 rfl (lv_at hl 3 rfl) ?_
      refine kz_rS (As := [.int p2]) (rest := []) ⟨hx, hb, hml, hown, hw9⟩ (c_X0_requireNumber l hl9 D ((cI, .int) :: (cZ, .boolean) :: ty) (wX ad cI cZ it o n g v r nx mt fl pr ofs ak hd an ++ rs) H.size p2) (kz_cS 1 hw9 mw_266 mw_267 mw_1 mw_268 rfl rfl (by decide +kernel) ⟨Nat.le_of_ble_eq_true rfl, Nat.le_of_ble_eq_true rfl⟩) (kz_preS hK hP hD hS hA hE) rfl hl.1 rfl (Nat.le_of_ble_eq_true rfl) dX0_refused_9 ⟨Nat.le_of_ble_eq_true rfl, Nat.le_of_ble_eq_true rfl⟩ (fun k ce q9 H1 hk hO1 hce hcv hcl => ?_) (fun v9 H hv9 hO1 => ?_)
      · -- thrown
        exact kz_out (k := 2) hTab hlocks (by first | (simp [tc_refused, hv_1, hv_2, hk]; done) | (simp only [tc_refused, hv_1, hv_2, hk, eq_self, not_true_eq_false, not_false_eq_true, and_self, and_true, true_and, and_false, false_and, or_true, true_or, or_false, false_or, if_true, if_false, ite_true, ite_false, Bool.and_eq_true, decide_true, decide_false, decide_eq_true_eq, ne_eq, Nat.reduceEqDiff, Nat.one_ne_zero, Bool.false_eq_true, reduceCtorEq]; done) | (simp only [tc_refused, hv_1, hv_2, hk, eq_self, not_true_eq_false, not_false_eq_true, and_self, and_true, true_and, and_false, false_and, or_true, true_or, or_false, false_or, if_true, if_false, ite_true, ite_false, Bool.and_eq_true, decide_true, decide_false, decide_eq_true_eq, ne_eq, Nat.reduceEqDiff, Nat.one_ne_zero, Bool.false_eq_true, reduceCtorEq]; decide)) (hO.tr hO1) hce hcv hcl (fun _ h => nomatch h) (Nat.le_of_ble_eq_true rfl) (Nat.le_of_ble_eq_true rfl)
      · -- goes on
        obtain ⟨rfl, hv_3⟩ := hv9
        have hP := hO1.P hP
        have hS := hO1.S hS
        have hO := hO.tr hO1
        refine W.eq (g2 := F0 m 12 ls []) rfl ?_
        refine lv_iload hx hb dX0_refused_12 (lv_at hl 4 rfl) ?_
        refine kz_rS (As := [.int p3]) (rest := []) ⟨hx, hb, hml, hown, hw9⟩ (c_X0_requireNumber l hl9 D ((cI, .int) :: (cZ, .boolean) :: ty) (wX ad cI cZ it o n g v r nx mt fl pr ofs ak hd an ++ rs) H.size p3) (kz_cS 1 hw9 mw_266 mw_267 mw_1 mw_268 rfl rfl (by decide +kernel) ⟨Nat.le_of_ble_eq_true rfl, Nat.le_of_ble_eq_true rfl⟩) (kz_preS hK hP hD hS hA hE) rfl hl.1 rfl (Nat.le_of_ble_eq_true rfl) dX0_refused_14 ⟨Nat.le_of_ble_eq_true rfl, Nat.le_of_ble_eq_true rfl⟩ (fun k ce q9 H1 hk hO1 hce hcv hcl => ?_) (fun v9 H hv9 hO1 => ?_)
        · -- thrown
          exact kz_out (k := 2) hTab hlocks (by first | (simp [tc_refused, hv_1, hv_2, hv_3, hk]; done) | (simp only [tc_refused, hv_1, hv_2, hv_3, hk, eq_self, not_true_eq_false, not_false_eq_true, and_self, and_true, true_and, and_false, false_and, or_true, true_or, or_false, false_or, if_true, if_false, ite_true, ite_false, Bool.and_eq_true, decide_true, decide_false, decide_eq_true_eq, ne_eq, Nat.reduceEqDiff, Nat.one_ne_zero, Bool.false_eq_true, reduceCtorEq]; done) | (simp only [tc_refused, hv_1, hv_2, hv_3, hk, eq_self, not_true_eq_false, not_false_eq_true, and_self, and_true, true_and, and_false, false_and, or_true, true_or, or_false, false_or, if_true, if_false, ite_true, ite_false, Bool.and_eq_true, decide_true, decide_false, decide_eq_true_eq, ne_eq, Nat.reduceEqDiff, Nat.one_ne_zero, Bool.false_eq_true, reduceCtorEq]; decide)) (hO.tr hO1) hce hcv hcl (fun _ h => nomatch h) (Nat.le_of_ble_eq_true rfl) (Nat.le_of_ble_eq_true rfl)
        · -- goes on
          obtain ⟨rfl, hv_4⟩ := hv9
          have hP := hO1.P hP
          have hS := hO1.S hS
          have hO := hO.tr hO1
          refine W.eq (g2 := F0 m 17 ls []) rfl ?_
          refine lv_iload hx hb dX0_refused_17 (lv_at hl 5 rfl) ?_
          refine kz_rS (As := [.int p4]) (rest := []) ⟨hx, hb, hml, hown, hw9⟩ (c_X0_requireNumber l hl9 D ((cI, .int) :: (cZ, .boolean) :: ty) (wX ad cI cZ it o n g v r nx mt fl pr ofs ak hd an ++ rs) H.size p4) (kz_cS 1 hw9 mw_266 mw_267 mw_1 mw_268 rfl rfl (by decide +kernel) ⟨Nat.le_of_ble_eq_true rfl, Nat.le_of_ble_eq_true rfl⟩) (kz_preS hK hP hD hS hA hE) rfl hl.1 rfl (Nat.le_of_ble_eq_true rfl) dX0_refused_19 ⟨Nat.le_of_ble_eq_true rfl, Nat.le_of_ble_eq_true rfl⟩ (fun k ce q9 H1 hk hO1 hce hcv hcl => ?_) (fun v9 H hv9 hO1 => ?_)
          · -- thrown
            exact kz_out (k := 2) hTab hlocks (by first | (simp [tc_refused, hv_1, hv_2, hv_3, hv_4, hk]; done) | (simp only [tc_refused, hv_1, hv_2, hv_3, hv_4, hk, eq_self, not_true_eq_false, not_false_eq_true, and_self, and_true, true_and, and_false, false_and, or_true, true_or, or_false, false_or, if_true, if_false, ite_true, ite_false, Bool.and_eq_true, decide_true, decide_false, decide_eq_true_eq, ne_eq, Nat.reduceEqDiff, Nat.one_ne_zero, Bool.false_eq_true, reduceCtorEq]; done) | (simp only [tc_refused, hv_1, hv_2, hv_3, hv_4, hk, eq_self, not_true_eq_false, not_false_eq_true, and_self, and_true, true_and, and_false, false_and, or_true, true_or, or_false, false_or, if_true, if_false, ite_true, ite_false, Bool.and_eq_true, decide_true, decide_false, decide_eq_true_eq, ne_eq, Nat.reduceEqDiff, Nat.one_ne_zero, Bool.false_eq_true, reduceCtorEq]; decide)) (hO.tr hO1) hce hcv hcl (fun _ h => nomatch h) (Nat.le_of_ble_eq_true rfl) (Nat.le_of_ble_eq_true rfl)
          · -- goes on
            obtain ⟨rfl, hv_5⟩ := hv9
            have hP := hO1.P hP
            have hS := hO1.S hS
            have hO := hO.tr hO1
            refine W.eq (g2 := F0 m 22 ls []) rfl ?_
            refine lv_aload_n hx hb dX0_refused_22 rfl (lv_at hl 0 rfl) ?_
            refine lv_iload_n hx hb dX0_refused_23 rfl (lv_at hl 1 rfl) ?_
            refine lv_iload hx hb dX0_refused_24 (lv_at hl 4 rfl) ?_
            refine lv_iload hx hb dX0_refused_26 (lv_at hl 5 rfl) ?_
            refine kz_wV (As := [.int p0, .int p3, .int p4]) (rest := []) ⟨hx, hb, hml, hown, hw9⟩ (c_X0_hear l hl9 D cI cZ ty ad rs H.size it o n g v r nx mt fl pr ofs ak hd an p0 p3 p4 (sq_V_in hv_1)) (kz_cV 3 hw9 mw_306 mw_308 ms_9 mw_1 mw_309 rfl rfl (by decide +kernel) ⟨Nat.le_of_ble_eq_true rfl, Nat.le_of_ble_eq_true rfl⟩) (kz_preV (q0 := 0) (ci := 0) hK hP hD hS hA hE rfl rfl) rfl hl.1 rfl (Nat.le_of_ble_eq_true rfl) dX0_refused_28 ⟨Nat.le_of_ble_eq_true rfl, Nat.le_of_ble_eq_true rfl⟩ hD hS hA (fun _ _ _ _ _ _ h => False.elim h) (fun v9 H locs hv9 hP hD hS => ?_)
            obtain ⟨rfl, -⟩ := hv9
            have hP : va_P D vwCl (wX ad cI cZ it o n g v r nx mt fl pr ofs (upd ak p0.toNatClampNeg (sq_max (ak p0.toNatClampNeg) p3)) (upd hd p0.toNatClampNeg p4) (upd an p0.toNatClampNeg 1) ++ rs) H := hP
            have hD : va_D A (wX ad cI cZ it o n g v r nx mt fl pr ofs (upd ak p0.toNatClampNeg (sq_max (ak p0.toNatClampNeg) p3)) (upd hd p0.toNatClampNeg p4) (upd an p0.toNatClampNeg 1) ++ rs) := hD
            refine W.eq (g2 := F0 m 31 ls []) rfl ?_
            refine lv_aload_n hx hb dX0_refused_31 rfl (lv_at hl 0 rfl) ?_
            refine va_get (D := D) (ci := 0) (v := .ref (ad 3)) (C := RX0) (T := TX0) (N := 14) hx hb hw9 uX0 hown hK hP 0 rfl rfl 8 (by decide) (hw9 _ mw_27) (fun _ h9 => h9) rfl dX0_refused_32 ?_
            refine lv_iload_n hx hb dX0_refused_35 rfl (lv_at hl 1 rfl) ?_
            refine lv_iconst (v := 0) hx hb dX0_refused_36 (by decide) ?_
            refine va_iast hx hb hK hP hD hS 3 0 rfl rfl (sq_V_in hv_1) dX0_refused_37 (fun H locs hP hD hS => ?_)
            have hP : va_P D vwCl (wX ad cI cZ it o n g v r nx mt (upd fl p0.toNatClampNeg 0) pr ofs (upd ak p0.toNatClampNeg (sq_max (ak p0.toNatClampNeg) p3)) (upd hd p0.toNatClampNeg p4) (upd an p0.toNatClampNeg 1) ++ rs) H := hP
            have hD : va_D A (wX ad cI cZ it o n g v r nx mt (upd fl p0.toNatClampNeg 0) pr ofs (upd ak p0.toNatClampNeg (sq_max (ak p0.toNatClampNeg) p3)) (upd hd p0.toNatClampNeg p4) (upd an p0.toNatClampNeg 1) ++ rs) := hD
            refine lv_aload_n hx hb dX0_refused_38 rfl (lv_at hl 0 rfl) ?_
            refine va_get (D := D) (ci := 0) (v := .ref (ad 4)) (C := RX0) (T := TX0) (N := 14) hx hb hw9 uX0 hown hK hP 0 rfl rfl 9 (by decide) (hw9 _ mw_28) (fun _ h9 => h9) rfl dX0_refused_39 ?_
            refine lv_iload_n hx hb dX0_refused_42 rfl (lv_at hl 1 rfl) ?_
            refine lv_iconst (v := 1) hx hb dX0_refused_43 (by decide) ?_
            refine va_zast hx hb hK hP hD hS 4 1 rfl rfl (sq_V_in hv_1) dX0_refused_44 (fun H locs hP hD hS => ?_)
            have hP : va_P D vwCl (wX ad cI cZ it o n g v r nx mt (upd fl p0.toNatClampNeg 0) (upd pr p0.toNatClampNeg 1) ofs (upd ak p0.toNatClampNeg (sq_max (ak p0.toNatClampNeg) p3)) (upd hd p0.toNatClampNeg p4) (upd an p0.toNatClampNeg 1) ++ rs) H := hP
            have hD : va_D A (wX ad cI cZ it o n g v r nx mt (upd fl p0.toNatClampNeg 0) (upd pr p0.toNatClampNeg 1) ofs (upd ak p0.toNatClampNeg (sq_max (ak p0.toNatClampNeg) p3)) (upd hd p0.toNatClampNeg p4) (upd an p0.toNatClampNeg 1) ++ rs) := hD
            refine lv_aload_n hx hb dX0_refused_45 rfl (lv_at hl 0 rfl) ?_
            refine va_get (D := D) (ci := 0) (v := .ref (ad 1)) (C := RX0) (T := TX0) (N := 14) hx hb hw9 uX0 hown hK hP 0 rfl rfl 6 (by decide) (hw9 _ mw_25) (fun _ h9 => h9) rfl dX0_refused_46 ?_
            refine lv_iload_n hx hb dX0_refused_49 rfl (lv_at hl 1 rfl) ?_
            refine lv_iload_n hx hb dX0_refused_50 rfl (lv_at hl 2 rfl) ?_
            refine lv_aload_n hx hb dX0_refused_51 rfl (lv_at hl 0 rfl) ?_
            refine va_get (D := D) (ci := 0) (v := .ref (ad 2)) (C := RX0) (T := TX0) (N := 14) hx hb hw9 uX0 hown hK hP 0 rfl rfl 7 (by decide) (hw9 _ mw_26) (fun _ h9 => h9) rfl dX0_refused_52 ?_
            refine lv_iload_n hx hb dX0_refused_55 rfl (lv_at hl 1 rfl) ?_
            refine va_iald hx hb hK hP 2 0 rfl rfl (sq_V_in hv_1) dX0_refused_56 ?_
            refine lv_iconst (v := 1) hx hb dX0_refused_57 (by decide) ?_
            refine lv_iadd hx hb dX0_refused_58 ?_
            refine va_mmax hx hb (by rw [hml]; exact hl.1.symm) hown (hw9 _ mw_310) (hw9 _ mw_311) (hw9 _ mw_10) (hw9 _ mw_312) (Nat.le_of_ble_eq_true rfl) (Nat.le_of_ble_eq_true rfl) (Nat.le_of_ble_eq_true rfl) (Nat.le_of_ble_eq_true rfl) dX0_refused_59 ?_
            refine W.eq (g2 := F0 m 62 ls [.int (sq_max p1 ((mt p0.toNatClampNeg) + 1)), .int p0, .ref (ad 1)]) rfl ?_
            refine lv_iload_n hx hb dX0_refused_62 rfl (lv_at hl 3 rfl) ?_
            refine lv_iconst (v := 1) hx hb dX0_refused_63 (by decide) ?_
            refine lv_iadd hx hb dX0_refused_64 ?_
            refine va_mmin hx hb (by rw [hml]; exact hl.1.symm) hown (hw9 _ mw_296) (hw9 _ mw_297) (hw9 _ mw_10) (hw9 _ mw_298) (Nat.le_of_ble_eq_true rfl) (Nat.le_of_ble_eq_true rfl) (Nat.le_of_ble_eq_true rfl) (Nat.le_of_ble_eq_true rfl) dX0_refused_65 ?_
            refine W.eq (g2 := F0 m 68 ls [.int (sq_min (sq_max p1 ((mt p0.toNatClampNeg) + 1)) (p2 + 1)), .int p0, .ref (ad 1)]) rfl ?_
            refine va_iast hx hb hK hP hD hS 1 0 rfl rfl (sq_V_in hv_1) dX0_refused_68 (fun H locs hP hD hS => ?_)
            have hP : va_P D vwCl (wX ad cI cZ it o n g v r (upd nx p0.toNatClampNeg (sq_min (sq_max p1 ((mt p0.toNatClampNeg) + 1)) (p2 + 1))) mt (upd fl p0.toNatClampNeg 0) (upd pr p0.toNatClampNeg 1) ofs (upd ak p0.toNatClampNeg (sq_max (ak p0.toNatClampNeg) p3)) (upd hd p0.toNatClampNeg p4) (upd an p0.toNatClampNeg 1) ++ rs) H := hP
            have hD : va_D A (wX ad cI cZ it o n g v r (upd nx p0.toNatClampNeg (sq_min (sq_max p1 ((mt p0.toNatClampNeg) + 1)) (p2 + 1))) mt (upd fl p0.toNatClampNeg 0) (upd pr p0.toNatClampNeg 1) ofs (upd ak p0.toNatClampNeg (sq_max (ak p0.toNatClampNeg) p3)) (upd hd p0.toNatClampNeg p4) (upd an p0.toNatClampNeg 1) ++ rs) := hD
            refine lv_aload_n hx hb dX0_refused_69 rfl (lv_at hl 0 rfl) ?_
            refine va_get (D := D) (ci := 0) (v := .ref (ad 1)) (C := RX0) (T := TX0) (N := 14) hx hb hw9 uX0 hown hK hP 0 rfl rfl 6 (by decide) (hw9 _ mw_25) (fun _ h9 => h9) rfl dX0_refused_70 ?_
            refine lv_iload_n hx hb dX0_refused_73 rfl (lv_at hl 1 rfl) ?_
            refine va_iald hx hb hK hP 1 0 rfl rfl (sq_V_in hv_1) dX0_refused_74 ?_
            exact kz_wreti hx hb hr hlocks hP hD hS (Nat.le_of_ble_eq_true rfl) (Nat.le_of_ble_eq_true rfl) (⟨by first | (simp [tc_refused, hv_1, hv_2, hv_3, hv_4, hv_5]; done) | (simp only [tc_refused, hv_1, hv_2, hv_3, hv_4, hv_5, eq_self, not_true_eq_false, not_false_eq_true, and_self, and_true, true_and, and_false, false_and, or_true, true_or, or_false, false_or, if_true, if_false, ite_true, ite_false, Bool.and_eq_true, decide_true, decide_false, decide_eq_true_eq, ne_eq, Nat.reduceEqDiff, Nat.one_ne_zero, Bool.false_eq_true, reduceCtorEq]; done) | (simp only [tc_refused, hv_1, hv_2, hv_3, hv_4, hv_5, eq_self, not_true_eq_false, not_false_eq_true, and_self, and_true, true_and, and_false, false_and, or_true, true_or, or_false, false_or, if_true, if_false, ite_true, ite_false, Bool.and_eq_true, decide_true, decide_false, decide_eq_true_eq, ne_eq, Nat.reduceEqDiff, Nat.one_ne_zero, Bool.false_eq_true, reduceCtorEq]; decide), pk_us⟩)  dX0_refused_75
set_option maxHeartbeats 4000000 in
set_option maxRecDepth 100000 in
theorem c_X0_stored (l : Launch) (hl9 : l.stackTraces = false) (D : va_G) (cI cZ : ClassId) (ty : kz_Y) (ad : Nat → Nat) (rs : va_W) (sz : Nat) (it o n g v r : Int32) (nx mt fl pr ofs ak hd an : Nat → Int32) (p0 : Int32) (p1 : Int32) (p2 : Int32) (p3 : Int32) (p4 : Int32) (p5 : Int32) : ez_M l yX0_stored wsX0_stored ({ frames := 7, cells := 1, slots := 6, locals := 110 } : Room) (kz_P D ((cI, .int) :: (cZ, .boolean) :: ty) (wX ad cI cZ it o n g v r nx mt fl pr ofs ak hd an ++ rs) sz [.ref (ad 0), .int p0, .int p1, .int p2, .int p3, .int p4, .int p5]) (kz_Wr D (va_A (wX ad cI cZ it o n g v r nx mt fl pr ofs ak hd an ++ rs) sz) (kz_i (fun r9 => (tc_stored p0 p1 p2 p3 p4 p5 = 0) ∧ r9 = (sq_z (decide (¬ p1 < p2))))) (wX ad cI cZ it o n g v r (if p1 < p2 then nx else upd nx p0.toNatClampNeg (p3 + 1)) (if p1 < p2 then mt else upd mt p0.toNatClampNeg (sq_max (mt p0.toNatClampNeg) p3)) (upd fl p0.toNatClampNeg 0) (if p1 < p2 then pr else upd pr p0.toNatClampNeg 1) (if p1 < p2 then upd ofs p0.toNatClampNeg p1 else upd ofs p0.toNatClampNeg 0) (upd ak p0.toNatClampNeg (sq_max (ak p0.toNatClampNeg) p4)) (upd hd p0.toNatClampNeg p5) (upd an p0.toNatClampNeg 1) ++ rs)) (kz_T (fun k => match k with | 1 => IOE | _ => IAE) (fun k => k = tc_stored p0 p1 p2 p3 p4 p5 ∧ ¬ k = 0)) 0 0 (va_A (wX ad cI cZ it o n g v r nx mt fl pr ofs ak hd an ++ rs) sz) := by
  refine ez_ofW (cc := cX0_stored) (maxL := 7) (ret := (some .boolean)) (by decide) rfl ?_
  intro p e s m args below meth c s₁ B hml hTab hv
  obtain ⟨rfl, hsz, hP, hK, hD0, hE⟩ := hv
  have hx := B.exec
  have hb := B.bytes
  have hr := B.returns
  have hw9 : ∀ w ∈ kz_W9, w.before ([.ref (ad 0), .int p0, .int p1, .int p2, .int p3, .int p4, .int p5] : List Value).toArray s = true := fun w h => atoms_spec (ws := wsX0_stored) B.pre w (List.mem_cons_of_mem _ h)
  have hown : s.vm.findClass RX0 = some m.cls := findClass_of_methodNamed B.named
  have hlocks := B.notSynchronized
  subst hsz
  have hD := hD0.self (sz := s.heap.size)
  generalize hAe : va_A (wX ad cI cZ it o n g v r nx mt fl pr ofs ak hd an ++ rs) s.heap.size = A at hD hE ⊢
  have hA : ∀ q : Nat, s.heap.size ≤ q → A q := fun q h => by rw [← hAe]; exact Or.inr h
  have hS : va_S A s.heap s.heap [] := va_S.rf
  have hO : kz_O s.heap s.heap := kz_O.rf _
  have hl := lv_entry ([.ref (ad 0), .int p0, .int p1, .int p2, .int p3, .int p4, .int p5]) (n := 7) (Nat.le_of_ble_eq_true rfl)
  rw [lg_entry_eq]
  generalize (lg_sl ([.ref (ad 0), .int p0, .int p1, .int p2, .int p3, .int p4, .int p5]) ++ List.replicate (7 - (lg_sl ([.ref (ad 0), .int p0, .int p1, .int p2, .int p3, .int p4, .int p5])).length) Slot.unset).toArray = ls at hl ⊢
  have hl : lv_has ls 7 [(0, .ref (ad 0)), (1, .int p0), (2, .int p1), (3, .int p2), (4, .int p3), (5, .int p4), (6, .int p5)] := hl
  refine lv_iload_n hx hb dX0_stored_0 rfl (lv_at hl 1 rfl) ?_
  refine kz_rS (As := [.int p0]) (rest := []) ⟨hx, hb, hml, hown, hw9⟩ (c_X0_requireServer l hl9 D ((cI, .int) :: (cZ, .boolean) :: ty) (wX ad cI cZ it o n g v r nx mt fl pr ofs ak hd an ++ rs) s.heap.size p0) (kz_cS 1 hw9 mw_240 mw_241 mw_1 mw_242 rfl rfl (by decide +kernel) ⟨Nat.le_of_ble_eq_true rfl, Nat.le_of_ble_eq_true rfl⟩) (kz_preS hK hP hD hS hA hE) rfl hl.1 rfl (Nat.le_of_ble_eq_true rfl) dX0_stored_1 ⟨Nat.le_of_ble_eq_true rfl, Nat.le_of_ble_eq_true rfl⟩ (fun k ce q9 H1 hk hO1 hce hcv hcl => ?_) (fun v9 H hv9 hO1 => ?_)
  · -- thrown
    exact kz_out (k := 1) hTab hlocks (by first | (simp [tc_stored, hk]; done) | (simp only [tc_stored, hk, eq_self, not_true_eq_false, not_false_eq_true, and_self, and_true, true_and, and_false, false_and, or_true, true_or, or_false, false_or, if_true, if_false, ite_true, ite_false, Bool.and_eq_true, decide_true, decide_false, decide_eq_true_eq, ne_eq, Nat.reduceEqDiff, Nat.one_ne_zero, Bool.false_eq_true, reduceCtorEq]; done) | (simp only [tc_stored, hk, eq_self, not_true_eq_false, not_false_eq_true, and_self, and_true, true_and, and_false, false_and, or_true, true_or, or_false, false_or, if_true, if_false, ite_true, ite_false, Bool.and_eq_true, decide_true, decide_false, decide_eq_true_eq, ne_eq, Nat.reduceEqDiff, Nat.one_ne_zero, Bool.false_eq_true, reduceCtorEq]; decide)) (hO.tr hO1) hce hcv hcl (fun _ h => nomatch h) (Nat.le_of_ble_eq_true rfl) (Nat.le_of_ble_eq_true rfl)
  · -- goes on
    obtain ⟨rfl, hv_1⟩ := hv9
    have hP := hO1.P hP
    have hS := hO1.S hS
    have hO := hO.tr hO1
    refine W.eq (g2 := F0 m 4 ls []) rfl ?_
    refine lv_iload_n hx hb dX0_stored_4 rfl (lv_at hl 2 rfl) ?_
    refine kz_rS (As := [.int p1]) (rest := []) ⟨hx, hb, hml, hown, hw9⟩ (c_X0_requireNumber l hl9 D ((cI, .int) :: (cZ, .boolean) :: ty) (wX ad cI cZ it o n g v r nx mt fl pr ofs ak hd an ++ rs) H.size p1) (kz_cS 1 hw9 mw_266 mw_267 mw_1 mw_268 rfl rfl (by decide +kernel) ⟨Nat.le_of_ble_eq_true rfl, Nat.le_of_ble_eq_true rfl⟩) (kz_preS hK hP hD hS hA hE) rfl hl.1 rfl (Nat.le_of_ble_eq_true rfl) dX0_stored_5 ⟨Nat.le_of_ble_eq_true rfl, Nat.le_of_ble_eq_true rfl⟩ (fun k ce q9 H1 hk hO1 hce hcv hcl => ?_) (fun v9 H hv9 hO1 => ?_)
    · -- thrown
      exact kz_out (k := 2) hTab hlocks (by first | (simp [tc_stored, hv_1, hk]; done) | (simp only [tc_stored, hv_1, hk, eq_self, not_true_eq_false, not_false_eq_true, and_self, and_true, true_and, and_false, false_and, or_true, true_or, or_false, false_or, if_true, if_false, ite_true, ite_false, Bool.and_eq_true, decide_true, decide_false, decide_eq_true_eq, ne_eq, Nat.reduceEqDiff, Nat.one_ne_zero, Bool.false_eq_true, reduceCtorEq]; done) | (simp only [tc_stored, hv_1, hk, eq_self, not_true_eq_false, not_false_eq_true, and_self, and_true, true_and, and_false, false_and, or_true, true_or, or_false, false_or, if_true, if_false, ite_true, ite_false, Bool.and_eq_true, decide_true, decide_false, decide_eq_true_eq, ne_eq, Nat.reduceEqDiff, Nat.one_ne_zero, Bool.false_eq_true, reduceCtorEq]; decide)) (hO.tr hO1) hce hcv hcl (fun _ h => nomatch h) (Nat.le_of_ble_eq_true rfl) (Nat.le_of_ble_eq_true rfl)
    · -- goes on
      obtain ⟨rfl, hv_2⟩ := hv9
      have hP := hO1.P hP
      have hS := hO1.S hS
      have hO := hO.tr hO1
      refine W.eq (g2 := F0 m 8 ls []) rfl ?_
      refine lv_iload_n hx hb dX0_stored_8 rfl (lv_at hl 3 rfl) ?_
      refine kz_rS (As := [.int p2]) (rest := []) ⟨hx, hb, hml, hown, hw9⟩ (c_X0_requireNumber l hl9 D ((cI, .int) :: (cZ, .boolean) :: ty) (wX ad cI cZ it o n g v r nx mt fl pr ofs ak hd an ++ rs) H.size p2) (kz_cS 1 hw9 mw_266 mw_267 mw_1 mw_268 rfl rfl (by decide +kernel) ⟨Nat.le_of_ble_eq_true rfl, Nat.le_of_ble_eq_true rfl⟩) (kz_preS hK hP hD hS hA hE) rfl hl.1 rfl (Nat.le_of_ble_eq_true rfl) dX0_stored_9 ⟨Nat.le_of_ble_eq_true rfl, Nat.le_of_ble_eq_true rfl⟩ (fun k ce q9 H1 hk hO1 hce hcv hcl => ?_) (fun v9 H hv9 hO1 => ?_)
      · -- thrown
        exact kz_out (k := 2) hTab hlocks (by first | (simp [tc_stored, hv_1, hv_2, hk]; done) | (simp only [tc_stored, hv_1, hv_2, hk, eq_self, not_true_eq_false, not_false_eq_true, and_self, and_true, true_and, and_false, false_and, or_true, true_or, or_false, false_or, if_true, if_false, ite_true, ite_false, Bool.and_eq_true, decide_true, decide_false, decide_eq_true_eq, ne_eq, Nat.reduceEqDiff, Nat.one_ne_zero, Bool.false_eq_true, reduceCtorEq]; done) | (simp only [tc_stored, hv_1, hv_2, hk, eq_self, not_true_eq_false, not_false_eq_true, and_self, and_true, true_and, and_false, false_and, or_true, true_or, or_false, false_or, if_true, if_false, ite_true, ite_false, Bool.and_eq_true, decide_true, decide_false, decide_eq_true_eq, ne_eq, Nat.reduceEqDiff, Nat.one_ne_zero, Bool.false_eq_true, reduceCtorEq]; decide)) (hO.tr hO1) hce hcv hcl (fun _ h => nomatch h) (Nat.le_of_ble_eq_true rfl) (Nat.le_of_ble_eq_true rfl)
      · -- goes on
        obtain ⟨rfl, hv_3⟩ := hv9
        have hP := hO1.P hP
        have hS := hO1.S hS
        have hO := hO.tr hO1
        refine W.eq (g2 := F0 m 12 ls []) rfl ?_
        refine lv_iload hx hb dX0_stored_12 (lv_at hl 4 rfl) ?_
        refine kz_rS (As := [.int p3]) (rest := []) ⟨hx, hb, hml, hown, hw9⟩ (c_X0_requireNumber l hl9 D ((cI, .int) :: (cZ, .boolean) :: ty) (wX ad cI cZ it o n g v r nx mt fl pr ofs ak hd an ++ rs) H.size p3) (kz_cS 1 hw9 mw_266 mw_267 mw_1 mw_268 rfl rfl (by decide +kernel) ⟨Nat.le_of_ble_eq_true rfl, Nat.le_of_ble_eq_true rfl⟩) (kz_preS hK hP hD hS hA hE) rfl hl.1 rfl (Nat.le_of_ble_eq_true rfl) dX0_stored_14 ⟨Nat.le_of_ble_eq_true rfl, Nat.le_of_ble_eq_true rfl⟩ (fun k ce q9 H1 hk hO1 hce hcv hcl => ?_) (fun v9 H hv9 hO1 => ?_)
        · -- thrown
          exact kz_out (k := 2) hTab hlocks (by first | (simp [tc_stored, hv_1, hv_2, hv_3, hk]; done) | (simp only [tc_stored, hv_1, hv_2, hv_3, hk, eq_self, not_true_eq_false, not_false_eq_true, and_self, and_true, true_and, and_false, false_and, or_true, true_or, or_false, false_or, if_true, if_false, ite_true, ite_false, Bool.and_eq_true, decide_true, decide_false, decide_eq_true_eq, ne_eq, Nat.reduceEqDiff, Nat.one_ne_zero, Bool.false_eq_true, reduceCtorEq]; done) | (simp only [tc_stored, hv_1, hv_2, hv_3, hk, eq_self, not_true_eq_false, not_false_eq_true, and_self, and_true, true_and, and_false, false_and, or_true, true_or, or_false, false_or, if_true, if_false, ite_true, ite_false, Bool.and_eq_true, decide_true, decide_false, decide_eq_true_eq, ne_eq, Nat.reduceEqDiff, Nat.one_ne_zero, Bool.false_eq_true, reduceCtorEq]; decide)) (hO.tr hO1) hce hcv hcl (fun _ h => nomatch h) (Nat.le_of_ble_eq_true rfl) (Nat.le_of_ble_eq_true rfl)
        · -- goes on
          obtain ⟨rfl, hv_4⟩ := hv9
          have hP := hO1.P hP
          have hS := hO1.S hS
          have hO := hO.tr hO1
          refine W.eq (g2 := F0 m 17 ls []) rfl ?_
          refine lv_iload hx hb dX0_stored_17 (lv_at hl 5 rfl) ?_
          refine kz_rS (As := [.int p4]) (rest := []) ⟨hx, hb, hml, hown, hw9⟩ (c_X0_requireNumber l hl9 D ((cI, .int) :: (cZ, .boolean) :: ty) (wX ad cI cZ it o n g v r nx mt fl pr ofs ak hd an ++ rs) H.size p4) (kz_cS 1 hw9 mw_266 mw_267 mw_1 mw_268 rfl rfl (by decide +kernel) ⟨Nat.le_of_ble_eq_true rfl, Nat.le_of_ble_eq_true rfl⟩) (kz_preS hK hP hD hS hA hE) rfl hl.1 rfl (Nat.le_of_ble_eq_true rfl) dX0_stored_19 ⟨Nat.le_of_ble_eq_true rfl, Nat.le_of_ble_eq_true rfl⟩ (fun k ce q9 H1 hk hO1 hce hcv hcl => ?_) (fun v9 H hv9 hO1 => ?_)
          · -- thrown
            exact kz_out (k := 2) hTab hlocks (by first | (simp [tc_stored, hv_1, hv_2, hv_3, hv_4, hk]; done) | (simp only [tc_stored, hv_1, hv_2, hv_3, hv_4, hk, eq_self, not_true_eq_false, not_false_eq_true, and_self, and_true, true_and, and_false, false_and, or_true, true_or, or_false, false_or, if_true, if_false, ite_true, ite_false, Bool.and_eq_true, decide_true, decide_false, decide_eq_true_eq, ne_eq, Nat.reduceEqDiff, Nat.one_ne_zero, Bool.false_eq_true, reduceCtorEq]; done) | (simp only [tc_stored, hv_1, hv_2, hv_3, hv_4, hk, eq_self, not_true_eq_false, not_false_eq_true, and_self, and_true, true_and, and_false, false_and, or_true, true_or, or_false, false_or, if_true, if_false, ite_true, ite_false, Bool.and_eq_true, decide_true, decide_false, decide_eq_true_eq, ne_eq, Nat.reduceEqDiff, Nat.one_ne_zero, Bool.false_eq_true, reduceCtorEq]; decide)) (hO.tr hO1) hce hcv hcl (fun _ h => nomatch h) (Nat.le_of_ble_eq_true rfl) (Nat.le_of_ble_eq_true rfl)
          · -- goes on
            obtain ⟨rfl, hv_5⟩ := hv9
            have hP := hO1.P hP
            have hS := hO1.S hS
            have hO := hO.tr hO1
            refine W.eq (g2 := F0 m 22 ls []) rfl ?_
            refine lv_iload hx hb dX0_stored_22 (lv_at hl 6 rfl) ?_
            refine kz_rS (As := [.int p5]) (rest := []) ⟨hx, hb, hml, hown, hw9⟩ (c_X0_requireNumber l hl9 D ((cI, .int) :: (cZ, .boolean) :: ty) (wX ad cI cZ it o n g v r nx mt fl pr ofs ak hd an ++ rs) H.size p5) (kz_cS 1 hw9 mw_266 mw_267 mw_1 mw_268 rfl rfl (by decide +kernel) ⟨Nat.le_of_ble_eq_true rfl, Nat.le_of_ble_eq_true rfl⟩) (kz_preS hK hP hD hS hA hE) rfl hl.1 rfl (Nat.le_of_ble_eq_true rfl) dX0_stored_24 ⟨Nat.le_of_ble_eq_true rfl, Nat.le_of_ble_eq_true rfl⟩ (fun k ce q9 H1 hk hO1 hce hcv hcl => ?_) (fun v9 H hv9 hO1 => ?_)
            · -- thrown
              exact kz_out (k := 2) hTab hlocks (by first | (simp [tc_stored, hv_1, hv_2, hv_3, hv_4, hv_5, hk]; done) | (simp only [tc_stored, hv_1, hv_2, hv_3, hv_4, hv_5, hk, eq_self, not_true_eq_false, not_false_eq_true, and_self, and_true, true_and, and_false, false_and, or_true, true_or, or_false, false_or, if_true, if_false, ite_true, ite_false, Bool.and_eq_true, decide_true, decide_false, decide_eq_true_eq, ne_eq, Nat.reduceEqDiff, Nat.one_ne_zero, Bool.false_eq_true, reduceCtorEq]; done) | (simp only [tc_stored, hv_1, hv_2, hv_3, hv_4, hv_5, hk, eq_self, not_true_eq_false, not_false_eq_true, and_self, and_true, true_and, and_false, false_and, or_true, true_or, or_false, false_or, if_true, if_false, ite_true, ite_false, Bool.and_eq_true, decide_true, decide_false, decide_eq_true_eq, ne_eq, Nat.reduceEqDiff, Nat.one_ne_zero, Bool.false_eq_true, reduceCtorEq]; decide)) (hO.tr hO1) hce hcv hcl (fun _ h => nomatch h) (Nat.le_of_ble_eq_true rfl) (Nat.le_of_ble_eq_true rfl)
            · -- goes on
              obtain ⟨rfl, hv_6⟩ := hv9
              have hP := hO1.P hP
              have hS := hO1.S hS
              have hO := hO.tr hO1
              refine W.eq (g2 := F0 m 27 ls []) rfl ?_
              refine lv_aload_n hx hb dX0_stored_27 rfl (lv_at hl 0 rfl) ?_
              refine lv_iload_n hx hb dX0_stored_28 rfl (lv_at hl 1 rfl) ?_
              refine lv_iload hx hb dX0_stored_29 (lv_at hl 5 rfl) ?_
              refine lv_iload hx hb dX0_stored_31 (lv_at hl 6 rfl) ?_
              refine kz_wV (As := [.int p0, .int p4, .int p5]) (rest := []) ⟨hx, hb, hml, hown, hw9⟩ (c_X0_hear l hl9 D cI cZ ty ad rs H.size it o n g v r nx mt fl pr ofs ak hd an p0 p4 p5 (sq_V_in hv_1)) (kz_cV 3 hw9 mw_306 mw_308 ms_9 mw_1 mw_309 rfl rfl (by decide +kernel) ⟨Nat.le_of_ble_eq_true rfl, Nat.le_of_ble_eq_true rfl⟩) (kz_preV (q0 := 0) (ci := 0) hK hP hD hS hA hE rfl rfl) rfl hl.1 rfl (Nat.le_of_ble_eq_true rfl) dX0_stored_33 ⟨Nat.le_of_ble_eq_true rfl, Nat.le_of_ble_eq_true rfl⟩ hD hS hA (fun _ _ _ _ _ _ h => False.elim h) (fun v9 H locs hv9 hP hD hS => ?_)
              obtain ⟨rfl, -⟩ := hv9
              have hP : va_P D vwCl (wX ad cI cZ it o n g v r nx mt fl pr ofs (upd ak p0.toNatClampNeg (sq_max (ak p0.toNatClampNeg) p4)) (upd hd p0.toNatClampNeg p5) (upd an p0.toNatClampNeg 1) ++ rs) H := hP
              have hD : va_D A (wX ad cI cZ it o n g v r nx mt fl pr ofs (upd ak p0.toNatClampNeg (sq_max (ak p0.toNatClampNeg) p4)) (upd hd p0.toNatClampNeg p5) (upd an p0.toNatClampNeg 1) ++ rs) := hD
              refine W.eq (g2 := F0 m 36 ls []) rfl ?_
              refine lv_aload_n hx hb dX0_stored_36 rfl (lv_at hl 0 rfl) ?_
              refine va_get (D := D) (ci := 0) (v := .ref (ad 3)) (C := RX0) (T := TX0) (N := 14) hx hb hw9 uX0 hown hK hP 0 rfl rfl 8 (by decide) (hw9 _ mw_27) (fun _ h9 => h9) rfl dX0_stored_37 ?_
              refine lv_iload_n hx hb dX0_stored_40 rfl (lv_at hl 1 rfl) ?_
              refine lv_iconst (v := 0) hx hb dX0_stored_41 (by decide) ?_
              refine va_iast hx hb hK hP hD hS 3 0 rfl rfl (sq_V_in hv_1) dX0_stored_42 (fun H locs hP hD hS => ?_)
              have hP : va_P D vwCl (wX ad cI cZ it o n g v r nx mt (upd fl p0.toNatClampNeg 0) pr ofs (upd ak p0.toNatClampNeg (sq_max (ak p0.toNatClampNeg) p4)) (upd hd p0.toNatClampNeg p5) (upd an p0.toNatClampNeg 1) ++ rs) H := hP
              have hD : va_D A (wX ad cI cZ it o n g v r nx mt (upd fl p0.toNatClampNeg 0) pr ofs (upd ak p0.toNatClampNeg (sq_max (ak p0.toNatClampNeg) p4)) (upd hd p0.toNatClampNeg p5) (upd an p0.toNatClampNeg 1) ++ rs) := hD
              refine lv_iload_n hx hb dX0_stored_43 rfl (lv_at hl 2 rfl) ?_
              refine lv_iload_n hx hb dX0_stored_44 rfl (lv_at hl 3 rfl) ?_
              refine lv_icmp_ge (tgt := 57) hx hb dX0_stored_45 (by decide) (fun c_7 => ?_) (fun c_7 => ?_)
              · -- 45 -> 57
                refine lv_aload_n hx hb dX0_stored_57 rfl (lv_at hl 0 rfl) ?_
                refine va_get (D := D) (ci := 0) (v := .ref (ad 2)) (C := RX0) (T := TX0) (N := 14) hx hb hw9 uX0 hown hK hP 0 rfl rfl 7 (by decide) (hw9 _ mw_26) (fun _ h9 => h9) rfl dX0_stored_58 ?_
                refine lv_iload_n hx hb dX0_stored_61 rfl (lv_at hl 1 rfl) ?_
                refine lv_aload_n hx hb dX0_stored_62 rfl (lv_at hl 0 rfl) ?_
                refine va_get (D := D) (ci := 0) (v := .ref (ad 2)) (C := RX0) (T := TX0) (N := 14) hx hb hw9 uX0 hown hK hP 0 rfl rfl 7 (by decide) (hw9 _ mw_26) (fun _ h9 => h9) rfl dX0_stored_63 ?_
                refine lv_iload_n hx hb dX0_stored_66 rfl (lv_at hl 1 rfl) ?_
                refine va_iald hx hb hK hP 2 0 rfl rfl (sq_V_in hv_1) dX0_stored_67 ?_
                refine lv_iload hx hb dX0_stored_68 (lv_at hl 4 rfl) ?_
                refine va_mmax hx hb (by rw [hml]; exact hl.1.symm) hown (hw9 _ mw_310) (hw9 _ mw_311) (hw9 _ mw_10) (hw9 _ mw_312) (Nat.le_of_ble_eq_true rfl) (Nat.le_of_ble_eq_true rfl) (Nat.le_of_ble_eq_true rfl) (Nat.le_of_ble_eq_true rfl) dX0_stored_70 ?_
                refine W.eq (g2 := F0 m 73 ls [.int (sq_max (mt p0.toNatClampNeg) p3), .int p0, .ref (ad 2)]) rfl ?_
                refine va_iast hx hb hK hP hD hS 2 0 rfl rfl (sq_V_in hv_1) dX0_stored_73 (fun H locs hP hD hS => ?_)
                have hP : va_P D vwCl (wX ad cI cZ it o n g v r nx (upd mt p0.toNatClampNeg (sq_max (mt p0.toNatClampNeg) p3)) (upd fl p0.toNatClampNeg 0) pr ofs (upd ak p0.toNatClampNeg (sq_max (ak p0.toNatClampNeg) p4)) (upd hd p0.toNatClampNeg p5) (upd an p0.toNatClampNeg 1) ++ rs) H := hP
                have hD : va_D A (wX ad cI cZ it o n g v r nx (upd mt p0.toNatClampNeg (sq_max (mt p0.toNatClampNeg) p3)) (upd fl p0.toNatClampNeg 0) pr ofs (upd ak p0.toNatClampNeg (sq_max (ak p0.toNatClampNeg) p4)) (upd hd p0.toNatClampNeg p5) (upd an p0.toNatClampNeg 1) ++ rs) := hD
                refine lv_aload_n hx hb dX0_stored_74 rfl (lv_at hl 0 rfl) ?_
                refine va_get (D := D) (ci := 0) (v := .ref (ad 1)) (C := RX0) (T := TX0) (N := 14) hx hb hw9 uX0 hown hK hP 0 rfl rfl 6 (by decide) (hw9 _ mw_25) (fun _ h9 => h9) rfl dX0_stored_75 ?_
                refine lv_iload_n hx hb dX0_stored_78 rfl (lv_at hl 1 rfl) ?_
                refine lv_iload hx hb dX0_stored_79 (lv_at hl 4 rfl) ?_
                refine lv_iconst (v := 1) hx hb dX0_stored_81 (by decide) ?_
                refine lv_iadd hx hb dX0_stored_82 ?_
                refine va_iast hx hb hK hP hD hS 1 0 rfl rfl (sq_V_in hv_1) dX0_stored_83 (fun H locs hP hD hS => ?_)
                have hP : va_P D vwCl (wX ad cI cZ it o n g v r (upd nx p0.toNatClampNeg (p3 + 1)) (upd mt p0.toNatClampNeg (sq_max (mt p0.toNatClampNeg) p3)) (upd fl p0.toNatClampNeg 0) pr ofs (upd ak p0.toNatClampNeg (sq_max (ak p0.toNatClampNeg) p4)) (upd hd p0.toNatClampNeg p5) (upd an p0.toNatClampNeg 1) ++ rs) H := hP
                have hD : va_D A (wX ad cI cZ it o n g v r (upd nx p0.toNatClampNeg (p3 + 1)) (upd mt p0.toNatClampNeg (sq_max (mt p0.toNatClampNeg) p3)) (upd fl p0.toNatClampNeg 0) pr ofs (upd ak p0.toNatClampNeg (sq_max (ak p0.toNatClampNeg) p4)) (upd hd p0.toNatClampNeg p5) (upd an p0.toNatClampNeg 1) ++ rs) := hD
                refine lv_aload_n hx hb dX0_stored_84 rfl (lv_at hl 0 rfl) ?_
                refine va_get (D := D) (ci := 0) (v := .ref (ad 4)) (C := RX0) (T := TX0) (N := 14) hx hb hw9 uX0 hown hK hP 0 rfl rfl 9 (by decide) (hw9 _ mw_28) (fun _ h9 => h9) rfl dX0_stored_85 ?_
                refine lv_iload_n hx hb dX0_stored_88 rfl (lv_at hl 1 rfl) ?_
                refine lv_iconst (v := 1) hx hb dX0_stored_89 (by decide) ?_
                refine va_zast hx hb hK hP hD hS 4 1 rfl rfl (sq_V_in hv_1) dX0_stored_90 (fun H locs hP hD hS => ?_)
                have hP : va_P D vwCl (wX ad cI cZ it o n g v r (upd nx p0.toNatClampNeg (p3 + 1)) (upd mt p0.toNatClampNeg (sq_max (mt p0.toNatClampNeg) p3)) (upd fl p0.toNatClampNeg 0) (upd pr p0.toNatClampNeg 1) ofs (upd ak p0.toNatClampNeg (sq_max (ak p0.toNatClampNeg) p4)) (upd hd p0.toNatClampNeg p5) (upd an p0.toNatClampNeg 1) ++ rs) H := hP
                have hD : va_D A (wX ad cI cZ it o n g v r (upd nx p0.toNatClampNeg (p3 + 1)) (upd mt p0.toNatClampNeg (sq_max (mt p0.toNatClampNeg) p3)) (upd fl p0.toNatClampNeg 0) (upd pr p0.toNatClampNeg 1) ofs (upd ak p0.toNatClampNeg (sq_max (ak p0.toNatClampNeg) p4)) (upd hd p0.toNatClampNeg p5) (upd an p0.toNatClampNeg 1) ++ rs) := hD
                refine lv_aload_n hx hb dX0_stored_91 rfl (lv_at hl 0 rfl) ?_
                refine va_get (D := D) (ci := 0) (v := .ref (ad 5)) (C := RX0) (T := TX0) (N := 14) hx hb hw9 uX0 hown hK hP 0 rfl rfl 10 (by decide) (hw9 _ mw_29) (fun _ h9 => h9) rfl dX0_stored_92 ?_
                refine lv_iload_n hx hb dX0_stored_95 rfl (lv_at hl 1 rfl) ?_
                refine lv_iconst (v := 0) hx hb dX0_stored_96 (by decide) ?_
                refine va_iast hx hb hK hP hD hS 5 0 rfl rfl (sq_V_in hv_1) dX0_stored_97 (fun H locs hP hD hS => ?_)
                have hP : va_P D vwCl (wX ad cI cZ it o n g v r (upd nx p0.toNatClampNeg (p3 + 1)) (upd mt p0.toNatClampNeg (sq_max (mt p0.toNatClampNeg) p3)) (upd fl p0.toNatClampNeg 0) (upd pr p0.toNatClampNeg 1) (upd ofs p0.toNatClampNeg 0) (upd ak p0.toNatClampNeg (sq_max (ak p0.toNatClampNeg) p4)) (upd hd p0.toNatClampNeg p5) (upd an p0.toNatClampNeg 1) ++ rs) H := hP
                have hD : va_D A (wX ad cI cZ it o n g v r (upd nx p0.toNatClampNeg (p3 + 1)) (upd mt p0.toNatClampNeg (sq_max (mt p0.toNatClampNeg) p3)) (upd fl p0.toNatClampNeg 0) (upd pr p0.toNatClampNeg 1) (upd ofs p0.toNatClampNeg 0) (upd ak p0.toNatClampNeg (sq_max (ak p0.toNatClampNeg) p4)) (upd hd p0.toNatClampNeg p5) (upd an p0.toNatClampNeg 1) ++ rs) := hD
                refine lv_iconst (v := 1) hx hb dX0_stored_98 (by decide) ?_
                have e_ofs : (if p1 < p2 then upd ofs p0.toNatClampNeg p1 else upd ofs p0.toNatClampNeg 0) = upd ofs p0.toNatClampNeg 0 := by first | (simp [hv_1, hv_2, hv_3, hv_4, hv_5, hv_6, c_7, (Int32.not_lt.mpr c_7)]; done) | (simp only [hv_1, hv_2, hv_3, hv_4, hv_5, hv_6, c_7, (Int32.not_lt.mpr c_7), eq_self, not_true_eq_false, not_false_eq_true, and_self, and_true, true_and, and_false, false_and, or_true, true_or, or_false, false_or, if_true, if_false, ite_true, ite_false, Bool.and_eq_true, decide_true, decide_false, decide_eq_true_eq, ne_eq, Nat.reduceEqDiff, Nat.one_ne_zero, Bool.false_eq_true, reduceCtorEq]; done) | (simp only [hv_1, hv_2, hv_3, hv_4, hv_5, hv_6, c_7, (Int32.not_lt.mpr c_7), eq_self, not_true_eq_false, not_false_eq_true, and_self, and_true, true_and, and_false, false_and, or_true, true_or, or_false, false_or, if_true, if_false, ite_true, ite_false, Bool.and_eq_true, decide_true, decide_false, decide_eq_true_eq, ne_eq, Nat.reduceEqDiff, Nat.one_ne_zero, Bool.false_eq_true, reduceCtorEq]; decide)
                have e_mt : (if p1 < p2 then mt else upd mt p0.toNatClampNeg (sq_max (mt p0.toNatClampNeg) p3)) = upd mt p0.toNatClampNeg (sq_max (mt p0.toNatClampNeg) p3) := by first | (simp [hv_1, hv_2, hv_3, hv_4, hv_5, hv_6, c_7, (Int32.not_lt.mpr c_7)]; done) | (simp only [hv_1, hv_2, hv_3, hv_4, hv_5, hv_6, c_7, (Int32.not_lt.mpr c_7), eq_self, not_true_eq_false, not_false_eq_true, and_self, and_true, true_and, and_false, false_and, or_true, true_or, or_false, false_or, if_true, if_false, ite_true, ite_false, Bool.and_eq_true, decide_true, decide_false, decide_eq_true_eq, ne_eq, Nat.reduceEqDiff, Nat.one_ne_zero, Bool.false_eq_true, reduceCtorEq]; done) | (simp only [hv_1, hv_2, hv_3, hv_4, hv_5, hv_6, c_7, (Int32.not_lt.mpr c_7), eq_self, not_true_eq_false, not_false_eq_true, and_self, and_true, true_and, and_false, false_and, or_true, true_or, or_false, false_or, if_true, if_false, ite_true, ite_false, Bool.and_eq_true, decide_true, decide_false, decide_eq_true_eq, ne_eq, Nat.reduceEqDiff, Nat.one_ne_zero, Bool.false_eq_true, reduceCtorEq]; decide)
                have e_nx : (if p1 < p2 then nx else upd nx p0.toNatClampNeg (p3 + 1)) = upd nx p0.toNatClampNeg (p3 + 1) := by first | (simp [hv_1, hv_2, hv_3, hv_4, hv_5, hv_6, c_7, (Int32.not_lt.mpr c_7)]; done) | (simp only [hv_1, hv_2, hv_3, hv_4, hv_5, hv_6, c_7, (Int32.not_lt.mpr c_7), eq_self, not_true_eq_false, not_false_eq_true, and_self, and_true, true_and, and_false, false_and, or_true, true_or, or_false, false_or, if_true, if_false, ite_true, ite_false, Bool.and_eq_true, decide_true, decide_false, decide_eq_true_eq, ne_eq, Nat.reduceEqDiff, Nat.one_ne_zero, Bool.false_eq_true, reduceCtorEq]; done) | (simp only [hv_1, hv_2, hv_3, hv_4, hv_5, hv_6, c_7, (Int32.not_lt.mpr c_7), eq_self, not_true_eq_false, not_false_eq_true, and_self, and_true, true_and, and_false, false_and, or_true, true_or, or_false, false_or, if_true, if_false, ite_true, ite_false, Bool.and_eq_true, decide_true, decide_false, decide_eq_true_eq, ne_eq, Nat.reduceEqDiff, Nat.one_ne_zero, Bool.false_eq_true, reduceCtorEq]; decide)
                have e_pr : (if p1 < p2 then pr else upd pr p0.toNatClampNeg 1) = upd pr p0.toNatClampNeg 1 := by first | (simp [hv_1, hv_2, hv_3, hv_4, hv_5, hv_6, c_7, (Int32.not_lt.mpr c_7)]; done) | (simp only [hv_1, hv_2, hv_3, hv_4, hv_5, hv_6, c_7, (Int32.not_lt.mpr c_7), eq_self, not_true_eq_false, not_false_eq_true, and_self, and_true, true_and, and_false, false_and, or_true, true_or, or_false, false_or, if_true, if_false, ite_true, ite_false, Bool.and_eq_true, decide_true, decide_false, decide_eq_true_eq, ne_eq, Nat.reduceEqDiff, Nat.one_ne_zero, Bool.false_eq_true, reduceCtorEq]; done) | (simp only [hv_1, hv_2, hv_3, hv_4, hv_5, hv_6, c_7, (Int32.not_lt.mpr c_7), eq_self, not_true_eq_false, not_false_eq_true, and_self, and_true, true_and, and_false, false_and, or_true, true_or, or_false, false_or, if_true, if_false, ite_true, ite_false, Bool.and_eq_true, decide_true, decide_false, decide_eq_true_eq, ne_eq, Nat.reduceEqDiff, Nat.one_ne_zero, Bool.false_eq_true, reduceCtorEq]; decide)
                exact kz_wretz hx hb hr hlocks (by rw [e_ofs, e_mt, e_nx, e_pr]; exact hP) (by rw [e_ofs, e_mt, e_nx, e_pr]; exact hD) hS (Nat.le_of_ble_eq_true rfl) (Nat.le_of_ble_eq_true rfl) (⟨by first | (simp [tc_stored, hv_1, hv_2, hv_3, hv_4, hv_5, hv_6, c_7, (Int32.not_lt.mpr c_7)]; done) | (simp only [tc_stored, hv_1, hv_2, hv_3, hv_4, hv_5, hv_6, c_7, (Int32.not_lt.mpr c_7), eq_self, not_true_eq_false, not_false_eq_true, and_self, and_true, true_and, and_false, false_and, or_true, true_or, or_false, false_or, if_true, if_false, ite_true, ite_false, Bool.and_eq_true, decide_true, decide_false, decide_eq_true_eq, ne_eq, Nat.reduceEqDiff, Nat.one_ne_zero, Bool.false_eq_true, reduceCtorEq]; done) | (simp only [tc_stored, hv_1, hv_2, hv_3, hv_4, hv_5, hv_6, c_7, (Int32.not_lt.mpr c_7), eq_self, not_true_eq_false, not_false_eq_true, and_self, and_true, true_and, and_false, false_and, or_true, true_or, or_false, false_or, if_true, if_false, ite_true, ite_false, Bool.and_eq_true, decide_true, decide_false, decide_eq_true_eq, ne_eq, Nat.reduceEqDiff, Nat.one_ne_zero, Bool.false_eq_true, reduceCtorEq]; decide), by first | (simp [sq_z, hv_1, hv_2, hv_3, hv_4, hv_5, hv_6, c_7, (Int32.not_lt.mpr c_7)]; done) | (simp only [sq_z, hv_1, hv_2, hv_3, hv_4, hv_5, hv_6, c_7, (Int32.not_lt.mpr c_7), eq_self, not_true_eq_false, not_false_eq_true, and_self, and_true, true_and, and_false, false_and, or_true, true_or, or_false, false_or, if_true, if_false, ite_true, ite_false, Bool.and_eq_true, decide_true, decide_false, decide_eq_true_eq, ne_eq, Nat.reduceEqDiff, Nat.one_ne_zero, Bool.false_eq_true, reduceCtorEq]; done) | (simp only [sq_z, hv_1, hv_2, hv_3, hv_4, hv_5, hv_6, c_7, (Int32.not_lt.mpr c_7), eq_self, not_true_eq_false, not_false_eq_true, and_self, and_true, true_and, and_false, false_and, or_true, true_or, or_false, false_or, if_true, if_false, ite_true, ite_false, Bool.and_eq_true, decide_true, decide_false, decide_eq_true_eq, ne_eq, Nat.reduceEqDiff, Nat.one_ne_zero, Bool.false_eq_true, reduceCtorEq]; decide)⟩) rfl dX0_stored_99
              · -- 45 -> 48
                refine lv_aload_n hx hb dX0_stored_48 rfl (lv_at hl 0 rfl) ?_
                refine va_get (D := D) (ci := 0) (v := .ref (ad 5)) (C := RX0) (T := TX0) (N := 14) hx hb hw9 uX0 hown hK hP 0 rfl rfl 10 (by decide) (hw9 _ mw_29) (fun _ h9 => h9) rfl dX0_stored_49 ?_
                refine lv_iload_n hx hb dX0_stored_52 rfl (lv_at hl 1 rfl) ?_
                refine lv_iload_n hx hb dX0_stored_53 rfl (lv_at hl 2 rfl) ?_
                refine va_iast hx hb hK hP hD hS 5 0 rfl rfl (sq_V_in hv_1) dX0_stored_54 (fun H locs hP hD hS => ?_)
                have hP : va_P D vwCl (wX ad cI cZ it o n g v r nx mt (upd fl p0.toNatClampNeg 0) pr (upd ofs p0.toNatClampNeg p1) (upd ak p0.toNatClampNeg (sq_max (ak p0.toNatClampNeg) p4)) (upd hd p0.toNatClampNeg p5) (upd an p0.toNatClampNeg 1) ++ rs) H := hP
                have hD : va_D A (wX ad cI cZ it o n g v r nx mt (upd fl p0.toNatClampNeg 0) pr (upd ofs p0.toNatClampNeg p1) (upd ak p0.toNatClampNeg (sq_max (ak p0.toNatClampNeg) p4)) (upd hd p0.toNatClampNeg p5) (upd an p0.toNatClampNeg 1) ++ rs) := hD
                refine lv_iconst (v := 0) hx hb dX0_stored_55 (by decide) ?_
                have e_ofs : (if p1 < p2 then upd ofs p0.toNatClampNeg p1 else upd ofs p0.toNatClampNeg 0) = upd ofs p0.toNatClampNeg p1 := by first | (simp [hv_1, hv_2, hv_3, hv_4, hv_5, hv_6, c_7, (Int32.not_le.mp c_7)]; done) | (simp only [hv_1, hv_2, hv_3, hv_4, hv_5, hv_6, c_7, (Int32.not_le.mp c_7), eq_self, not_true_eq_false, not_false_eq_true, and_self, and_true, true_and, and_false, false_and, or_true, true_or, or_false, false_or, if_true, if_false, ite_true, ite_false, Bool.and_eq_true, decide_true, decide_false, decide_eq_true_eq, ne_eq, Nat.reduceEqDiff, Nat.one_ne_zero, Bool.false_eq_true, reduceCtorEq]; done) | (simp only [hv_1, hv_2, hv_3, hv_4, hv_5, hv_6, c_7, (Int32.not_le.mp c_7), eq_self, not_true_eq_false, not_false_eq_true, and_self, and_true, true_and, and_false, false_and, or_true, true_or, or_false, false_or, if_true, if_false, ite_true, ite_false, Bool.and_eq_true, decide_true, decide_false, decide_eq_true_eq, ne_eq, Nat.reduceEqDiff, Nat.one_ne_zero, Bool.false_eq_true, reduceCtorEq]; decide)
                have e_mt : (if p1 < p2 then mt else upd mt p0.toNatClampNeg (sq_max (mt p0.toNatClampNeg) p3)) = mt := by first | (simp [hv_1, hv_2, hv_3, hv_4, hv_5, hv_6, c_7, (Int32.not_le.mp c_7)]; done) | (simp only [hv_1, hv_2, hv_3, hv_4, hv_5, hv_6, c_7, (Int32.not_le.mp c_7), eq_self, not_true_eq_false, not_false_eq_true, and_self, and_true, true_and, and_false, false_and, or_true, true_or, or_false, false_or, if_true, if_false, ite_true, ite_false, Bool.and_eq_true, decide_true, decide_false, decide_eq_true_eq, ne_eq, Nat.reduceEqDiff, Nat.one_ne_zero, Bool.false_eq_true, reduceCtorEq]; done) | (simp only [hv_1, hv_2, hv_3, hv_4, hv_5, hv_6, c_7, (Int32.not_le.mp c_7), eq_self, not_true_eq_false, not_false_eq_true, and_self, and_true, true_and, and_false, false_and, or_true, true_or, or_false, false_or, if_true, if_false, ite_true, ite_false, Bool.and_eq_true, decide_true, decide_false, decide_eq_true_eq, ne_eq, Nat.reduceEqDiff, Nat.one_ne_zero, Bool.false_eq_true, reduceCtorEq]; decide)
                have e_nx : (if p1 < p2 then nx else upd nx p0.toNatClampNeg (p3 + 1)) = nx := by first | (simp [hv_1, hv_2, hv_3, hv_4, hv_5, hv_6, c_7, (Int32.not_le.mp c_7)]; done) | (simp only [hv_1, hv_2, hv_3, hv_4, hv_5, hv_6, c_7, (Int32.not_le.mp c_7), eq_self, not_true_eq_false, not_false_eq_true, and_self, and_true, true_and, and_false, false_and, or_true, true_or, or_false, false_or, if_true, if_false, ite_true, ite_false, Bool.and_eq_true, decide_true, decide_false, decide_eq_true_eq, ne_eq, Nat.reduceEqDiff, Nat.one_ne_zero, Bool.false_eq_true, reduceCtorEq]; done) | (simp only [hv_1, hv_2, hv_3, hv_4, hv_5, hv_6, c_7, (Int32.not_le.mp c_7), eq_self, not_true_eq_false, not_false_eq_true, and_self, and_true, true_and, and_false, false_and, or_true, true_or, or_false, false_or, if_true, if_false, ite_true, ite_false, Bool.and_eq_true, decide_true, decide_false, decide_eq_true_eq, ne_eq, Nat.reduceEqDiff, Nat.one_ne_zero, Bool.false_eq_true, reduceCtorEq]; decide)
                have e_pr : (if p1 < p2 then pr else upd pr p0.toNatClampNeg 1) = pr := by first | (simp [hv_1, hv_2, hv_3, hv_4, hv_5, hv_6, c_7, (Int32.not_le.mp c_7)]; done) | (simp only [hv_1, hv_2, hv_3, hv_4, hv_5, hv_6, c_7, (Int32.not_le.mp c_7), eq_self, not_true_eq_false, not_false_eq_true, and_self, and_true, true_and, and_false, false_and, or_true, true_or, or_false, false_or, if_true, if_false, ite_true, ite_false, Bool.and_eq_true, decide_true, decide_false, decide_eq_true_eq, ne_eq, Nat.reduceEqDiff, Nat.one_ne_zero, Bool.false_eq_true, reduceCtorEq]; done) | (simp only [hv_1, hv_2, hv_3, hv_4, hv_5, hv_6, c_7, (Int32.not_le.mp c_7), eq_self, not_true_eq_false, not_false_eq_true, and_self, and_true, true_and, and_false, false_and, or_true, true_or, or_false, false_or, if_true, if_false, ite_true, ite_false, Bool.and_eq_true, decide_true, decide_false, decide_eq_true_eq, ne_eq, Nat.reduceEqDiff, Nat.one_ne_zero, Bool.false_eq_true, reduceCtorEq]; decide)
                exact kz_wretz hx hb hr hlocks (by rw [e_ofs, e_mt, e_nx, e_pr]; exact hP) (by rw [e_ofs, e_mt, e_nx, e_pr]; exact hD) hS (Nat.le_of_ble_eq_true rfl) (Nat.le_of_ble_eq_true rfl) (⟨by first | (simp [tc_stored, hv_1, hv_2, hv_3, hv_4, hv_5, hv_6, c_7, (Int32.not_le.mp c_7)]; done) | (simp only [tc_stored, hv_1, hv_2, hv_3, hv_4, hv_5, hv_6, c_7, (Int32.not_le.mp c_7), eq_self, not_true_eq_false, not_false_eq_true, and_self, and_true, true_and, and_false, false_and, or_true, true_or, or_false, false_or, if_true, if_false, ite_true, ite_false, Bool.and_eq_true, decide_true, decide_false, decide_eq_true_eq, ne_eq, Nat.reduceEqDiff, Nat.one_ne_zero, Bool.false_eq_true, reduceCtorEq]; done) | (simp only [tc_stored, hv_1, hv_2, hv_3, hv_4, hv_5, hv_6, c_7, (Int32.not_le.mp c_7), eq_self, not_true_eq_false, not_false_eq_true, and_self, and_true, true_and, and_false, false_and, or_true, true_or, or_false, false_or, if_true, if_false, ite_true, ite_false, Bool.and_eq_true, decide_true, decide_false, decide_eq_true_eq, ne_eq, Nat.reduceEqDiff, Nat.one_ne_zero, Bool.false_eq_true, reduceCtorEq]; decide), by first | (simp [sq_z, hv_1, hv_2, hv_3, hv_4, hv_5, hv_6, c_7, (Int32.not_le.mp c_7)]; done) | (simp only [sq_z, hv_1, hv_2, hv_3, hv_4, hv_5, hv_6, c_7, (Int32.not_le.mp c_7), eq_self, not_true_eq_false, not_false_eq_true, and_self, and_true, true_and, and_false, false_and, or_true, true_or, or_false, false_or, if_true, if_false, ite_true, ite_false, Bool.and_eq_true, decide_true, decide_false, decide_eq_true_eq, ne_eq, Nat.reduceEqDiff, Nat.one_ne_zero, Bool.false_eq_true, reduceCtorEq]; done) | (simp only [sq_z, hv_1, hv_2, hv_3, hv_4, hv_5, hv_6, c_7, (Int32.not_le.mp c_7), eq_self, not_true_eq_false, not_false_eq_true, and_self, and_true, true_and, and_false, false_and, or_true, true_or, or_false, false_or, if_true, if_false, ite_true, ite_false, Bool.and_eq_true, decide_true, decide_false, decide_eq_true_eq, ne_eq, Nat.reduceEqDiff, Nat.one_ne_zero, Bool.false_eq_true, reduceCtorEq]; decide)⟩) rfl dX0_stored_56
set_option maxHeartbeats 4000000 in
set_option maxRecDepth 100000 in
theorem c_X0_own (l : Launch) (hl9 : l.stackTraces = false) (D : va_G) (cI cZ : ClassId) (ty : kz_Y) (ad : Nat → Nat) (rs : va_W) (sz : Nat) (it o n g v r : Int32) (nx mt fl pr ofs ak hd an : Nat → Int32) (p0 : Int32) (p1 : Int32) (hit : vp_in it 7) : ez_M l yX0_own wsX0_own ({ frames := 7, cells := 1, slots := 6, locals := 110 } : Room) (kz_P D ((cI, .int) :: (cZ, .boolean) :: ty) (wX ad cI cZ it o n g v r nx mt fl pr ofs ak hd an ++ rs) sz [.ref (ad 0), .int p0, .int p1]) (kz_Wr D (va_A (wX ad cI cZ it o n g v r nx mt fl pr ofs ak hd an ++ rs) sz) (kz_v (tc_own p0 p1 = 0)) (wX ad cI cZ it o n g v r nx (upd mt it.toNatClampNeg p0) fl pr ofs (upd ak it.toNatClampNeg r) (upd hd it.toNatClampNeg p1) an ++ rs)) (kz_T (fun _ => IAE) (fun k => k = tc_own p0 p1 ∧ ¬ k = 0)) 0 0 (va_A (wX ad cI cZ it o n g v r nx mt fl pr ofs ak hd an ++ rs) sz) := by
  refine ez_ofW (cc := cX0_own) (maxL := 3) (ret := none) (by decide) rfl ?_
  intro p e s m args below meth c s₁ B hml hTab hv
  obtain ⟨rfl, hsz, hP, hK, hD0, hE⟩ := hv
  have hx := B.exec
  have hb := B.bytes
  have hr := B.returns
  have hw9 : ∀ w ∈ kz_W9, w.before ([.ref (ad 0), .int p0, .int p1] : List Value).toArray s = true := fun w h => atoms_spec (ws := wsX0_own) B.pre w (List.mem_cons_of_mem _ h)
  have hown : s.vm.findClass RX0 = some m.cls := findClass_of_methodNamed B.named
  have hlocks := B.notSynchronized
  subst hsz
  have hD := hD0.self (sz := s.heap.size)
  generalize hAe : va_A (wX ad cI cZ it o n g v r nx mt fl pr ofs ak hd an ++ rs) s.heap.size = A at hD hE ⊢
  have hA : ∀ q : Nat, s.heap.size ≤ q → A q := fun q h => by rw [← hAe]; exact Or.inr h
  have hS : va_S A s.heap s.heap [] := va_S.rf
  have hO : kz_O s.heap s.heap := kz_O.rf _
  have hl := lv_entry ([.ref (ad 0), .int p0, .int p1]) (n := 3) (Nat.le_of_ble_eq_true rfl)
  rw [lg_entry_eq]
  generalize (lg_sl ([.ref (ad 0), .int p0, .int p1]) ++ List.replicate (3 - (lg_sl ([.ref (ad 0), .int p0, .int p1])).length) Slot.unset).toArray = ls at hl ⊢
  have hl : lv_has ls 3 [(0, .ref (ad 0)), (1, .int p0), (2, .int p1)] := hl
  refine lv_iload_n hx hb dX0_own_0 rfl (lv_at hl 1 rfl) ?_
  refine kz_rS (As := [.int p0]) (rest := []) ⟨hx, hb, hml, hown, hw9⟩ (c_X0_requireNumber l hl9 D ((cI, .int) :: (cZ, .boolean) :: ty) (wX ad cI cZ it o n g v r nx mt fl pr ofs ak hd an ++ rs) s.heap.size p0) (kz_cS 1 hw9 mw_266 mw_267 mw_1 mw_268 rfl rfl (by decide +kernel) ⟨Nat.le_of_ble_eq_true rfl, Nat.le_of_ble_eq_true rfl⟩) (kz_preS hK hP hD hS hA hE) rfl hl.1 rfl (Nat.le_of_ble_eq_true rfl) dX0_own_1 ⟨Nat.le_of_ble_eq_true rfl, Nat.le_of_ble_eq_true rfl⟩ (fun k ce q9 H1 hk hO1 hce hcv hcl => ?_) (fun v9 H hv9 hO1 => ?_)
  · -- thrown
    exact kz_out (k := 1) hTab hlocks (by first | (simp [tc_own, hk]; done) | (simp only [tc_own, hk, eq_self, not_true_eq_false, not_false_eq_true, and_self, and_true, true_and, and_false, false_and, or_true, true_or, or_false, false_or, if_true, if_false, ite_true, ite_false, Bool.and_eq_true, decide_true, decide_false, decide_eq_true_eq, ne_eq, Nat.reduceEqDiff, Nat.one_ne_zero, Bool.false_eq_true, reduceCtorEq]; done) | (simp only [tc_own, hk, eq_self, not_true_eq_false, not_false_eq_true, and_self, and_true, true_and, and_false, false_and, or_true, true_or, or_false, false_or, if_true, if_false, ite_true, ite_false, Bool.and_eq_true, decide_true, decide_false, decide_eq_true_eq, ne_eq, Nat.reduceEqDiff, Nat.one_ne_zero, Bool.false_eq_true, reduceCtorEq]; decide)) (hO.tr hO1) hce hcv hcl (fun _ h => nomatch h) (Nat.le_of_ble_eq_true rfl) (Nat.le_of_ble_eq_true rfl)
  · -- goes on
    obtain ⟨rfl, hv_1⟩ := hv9
    have hP := hO1.P hP
    have hS := hO1.S hS
    have hO := hO.tr hO1
    refine W.eq (g2 := F0 m 4 ls []) rfl ?_
    refine lv_iload_n hx hb dX0_own_4 rfl (lv_at hl 2 rfl) ?_
    refine kz_rS (As := [.int p1]) (rest := []) ⟨hx, hb, hml, hown, hw9⟩ (c_X0_requireNumber l hl9 D ((cI, .int) :: (cZ, .boolean) :: ty) (wX ad cI cZ it o n g v r nx mt fl pr ofs ak hd an ++ rs) H.size p1) (kz_cS 1 hw9 mw_266 mw_267 mw_1 mw_268 rfl rfl (by decide +kernel) ⟨Nat.le_of_ble_eq_true rfl, Nat.le_of_ble_eq_true rfl⟩) (kz_preS hK hP hD hS hA hE) rfl hl.1 rfl (Nat.le_of_ble_eq_true rfl) dX0_own_5 ⟨Nat.le_of_ble_eq_true rfl, Nat.le_of_ble_eq_true rfl⟩ (fun k ce q9 H1 hk hO1 hce hcv hcl => ?_) (fun v9 H hv9 hO1 => ?_)
    · -- thrown
      exact kz_out (k := 1) hTab hlocks (by first | (simp [tc_own, hv_1, hk]; done) | (simp only [tc_own, hv_1, hk, eq_self, not_true_eq_false, not_false_eq_true, and_self, and_true, true_and, and_false, false_and, or_true, true_or, or_false, false_or, if_true, if_false, ite_true, ite_false, Bool.and_eq_true, decide_true, decide_false, decide_eq_true_eq, ne_eq, Nat.reduceEqDiff, Nat.one_ne_zero, Bool.false_eq_true, reduceCtorEq]; done) | (simp only [tc_own, hv_1, hk, eq_self, not_true_eq_false, not_false_eq_true, and_self, and_true, true_and, and_false, false_and, or_true, true_or, or_false, false_or, if_true, if_false, ite_true, ite_false, Bool.and_eq_true, decide_true, decide_false, decide_eq_true_eq, ne_eq, Nat.reduceEqDiff, Nat.one_ne_zero, Bool.false_eq_true, reduceCtorEq]; decide)) (hO.tr hO1) hce hcv hcl (fun _ h => nomatch h) (Nat.le_of_ble_eq_true rfl) (Nat.le_of_ble_eq_true rfl)
    · -- goes on
      obtain ⟨rfl, hv_2⟩ := hv9
      have hP := hO1.P hP
      have hS := hO1.S hS
      have hO := hO.tr hO1
      refine W.eq (g2 := F0 m 8 ls []) rfl ?_
      refine lv_aload_n hx hb dX0_own_8 rfl (lv_at hl 0 rfl) ?_
      refine va_get (D := D) (ci := 0) (v := .ref (ad 2)) (C := RX0) (T := TX0) (N := 14) hx hb hw9 uX0 hown hK hP 0 rfl rfl 7 (by decide) (hw9 _ mw_26) (fun _ h9 => h9) rfl dX0_own_9 ?_
      refine lv_aload_n hx hb dX0_own_12 rfl (lv_at hl 0 rfl) ?_
      refine va_get (D := D) (ci := 0) (v := .int it) (C := RX0) (T := TX0) (N := 14) hx hb hw9 uX0 hown hK hP 0 rfl rfl 0 (by decide) (hw9 _ mw_19) (fun _ h9 => h9) rfl dX0_own_13 ?_
      refine lv_iload_n hx hb dX0_own_16 rfl (lv_at hl 1 rfl) ?_
      refine va_iast hx hb hK hP hD hS 2 0 rfl rfl hit dX0_own_17 (fun H locs hP hD hS => ?_)
      have hP : va_P D vwCl (wX ad cI cZ it o n g v r nx (upd mt it.toNatClampNeg p0) fl pr ofs ak hd an ++ rs) H := hP
      have hD : va_D A (wX ad cI cZ it o n g v r nx (upd mt it.toNatClampNeg p0) fl pr ofs ak hd an ++ rs) := hD
      refine lv_aload_n hx hb dX0_own_18 rfl (lv_at hl 0 rfl) ?_
      refine va_get (D := D) (ci := 0) (v := .ref (ad 7)) (C := RX0) (T := TX0) (N := 14) hx hb hw9 uX0 hown hK hP 0 rfl rfl 12 (by decide) (hw9 _ mw_31) (fun _ h9 => h9) rfl dX0_own_19 ?_
      refine lv_aload_n hx hb dX0_own_22 rfl (lv_at hl 0 rfl) ?_
      refine va_get (D := D) (ci := 0) (v := .int it) (C := RX0) (T := TX0) (N := 14) hx hb hw9 uX0 hown hK hP 0 rfl rfl 0 (by decide) (hw9 _ mw_19) (fun _ h9 => h9) rfl dX0_own_23 ?_
      refine lv_iload_n hx hb dX0_own_26 rfl (lv_at hl 2 rfl) ?_
      refine va_iast hx hb hK hP hD hS 7 0 rfl rfl hit dX0_own_27 (fun H locs hP hD hS => ?_)
      have hP : va_P D vwCl (wX ad cI cZ it o n g v r nx (upd mt it.toNatClampNeg p0) fl pr ofs ak (upd hd it.toNatClampNeg p1) an ++ rs) H := hP
      have hD : va_D A (wX ad cI cZ it o n g v r nx (upd mt it.toNatClampNeg p0) fl pr ofs ak (upd hd it.toNatClampNeg p1) an ++ rs) := hD
      refine lv_aload_n hx hb dX0_own_28 rfl (lv_at hl 0 rfl) ?_
      refine va_get (D := D) (ci := 0) (v := .ref (ad 6)) (C := RX0) (T := TX0) (N := 14) hx hb hw9 uX0 hown hK hP 0 rfl rfl 11 (by decide) (hw9 _ mw_30) (fun _ h9 => h9) rfl dX0_own_29 ?_
      refine lv_aload_n hx hb dX0_own_32 rfl (lv_at hl 0 rfl) ?_
      refine va_get (D := D) (ci := 0) (v := .int it) (C := RX0) (T := TX0) (N := 14) hx hb hw9 uX0 hown hK hP 0 rfl rfl 0 (by decide) (hw9 _ mw_19) (fun _ h9 => h9) rfl dX0_own_33 ?_
      refine lv_aload_n hx hb dX0_own_36 rfl (lv_at hl 0 rfl) ?_
      refine va_get (D := D) (ci := 0) (v := .int r) (C := RX0) (T := TX0) (N := 14) hx hb hw9 uX0 hown hK hP 0 rfl rfl 5 (by decide) (hw9 _ mw_24) (fun _ h9 => h9) rfl dX0_own_37 ?_
      refine va_iast hx hb hK hP hD hS 6 0 rfl rfl hit dX0_own_40 (fun H locs hP hD hS => ?_)
      have hP : va_P D vwCl (wX ad cI cZ it o n g v r nx (upd mt it.toNatClampNeg p0) fl pr ofs (upd ak it.toNatClampNeg r) (upd hd it.toNatClampNeg p1) an ++ rs) H := hP
      have hD : va_D A (wX ad cI cZ it o n g v r nx (upd mt it.toNatClampNeg p0) fl pr ofs (upd ak it.toNatClampNeg r) (upd hd it.toNatClampNeg p1) an ++ rs) := hD
      exact kz_wretv hx hb hr hlocks hP hD hS (Nat.le_of_ble_eq_true rfl) (Nat.le_of_ble_eq_true rfl) (by first | (simp [tc_own, hv_1, hv_2]; done) | (simp only [tc_own, hv_1, hv_2, eq_self, not_true_eq_false, not_false_eq_true, and_self, and_true, true_and, and_false, false_and, or_true, true_or, or_false, false_or, if_true, if_false, ite_true, ite_false, Bool.and_eq_true, decide_true, decide_false, decide_eq_true_eq, ne_eq, Nat.reduceEqDiff, Nat.one_ne_zero, Bool.false_eq_true, reduceCtorEq]; done) | (simp only [tc_own, hv_1, hv_2, eq_self, not_true_eq_false, not_false_eq_true, and_self, and_true, true_and, and_false, false_and, or_true, true_or, or_false, false_or, if_true, if_false, ite_true, ite_false, Bool.and_eq_true, decide_true, decide_false, decide_eq_true_eq, ne_eq, Nat.reduceEqDiff, Nat.one_ne_zero, Bool.false_eq_true, reduceCtorEq]; decide))  dX0_own_41
set_option maxHeartbeats 4000000 in
set_option maxRecDepth 100000 in
theorem c_X0_whatMajorityHas (l : Launch) (hl9 : l.stackTraces = false) (D : va_G) (cI cZ : ClassId) (ty : kz_Y) (ad : Nat → Nat) (rs : va_W) (sz : Nat) (it o n g v r : Int32) (nx mt fl pr ofs ak hd an : Nat → Int32) (f : Nat → Int32) (q0 : Nat) (a0 : Nat) (hq : (wX ad cI cZ it o n g v r nx mt fl pr ofs ak hd an ++ rs)[q0]? = some (a0, .inl (cI, 7, .inl f))) : ez_M l yX0_whatMajorityHas wsX0_whatMajorityHas ({ frames := 3, cells := 1, slots := 6, locals := 62 } : Room) (kz_P D ((cI, .int) :: (cZ, .boolean) :: ty) (wX ad cI cZ it o n g v r nx mt fl pr ofs ak hd an ++ rs) sz [.ref (ad 0), .ref a0]) (kz_Ro (kz_i (fun r9 => r9 = (sq_A o n f 7)))) (kz_T (fun _ => IAE) (fun _ => False)) 0 0 (fun _ => False) := by
  refine ez_ofW (cc := cX0_whatMajorityHas) (maxL := 4) (ret := (some .int)) (by decide) rfl ?_
  intro p e s m args below meth c s₁ B hml hTab hv
  obtain ⟨rfl, hsz, hP, hK, hD0, hE⟩ := hv
  have hx := B.exec
  have hb := B.bytes
  have hr := B.returns
  have hw9 : ∀ w ∈ kz_W9, w.before ([.ref (ad 0), .ref a0] : List Value).toArray s = true := fun w h => atoms_spec (ws := wsX0_whatMajorityHas) B.pre w (List.mem_cons_of_mem _ h)
  have hown : s.vm.findClass RX0 = some m.cls := findClass_of_methodNamed B.named
  have hlocks := B.notSynchronized
  subst hsz
  have hD := hD0.self (sz := s.heap.size)
  generalize hAe : va_A (wX ad cI cZ it o n g v r nx mt fl pr ofs ak hd an ++ rs) s.heap.size = A at hD hE
  have hA : ∀ q : Nat, s.heap.size ≤ q → A q := fun q h => by rw [← hAe]; exact Or.inr h
  have hS : va_S A s.heap s.heap [] := va_S.rf
  have hO : kz_O s.heap s.heap := kz_O.rf _
  have hl := lv_entry ([.ref (ad 0), .ref a0]) (n := 4) (Nat.le_of_ble_eq_true rfl)
  rw [lg_entry_eq]
  generalize (lg_sl ([.ref (ad 0), .ref a0]) ++ List.replicate (4 - (lg_sl ([.ref (ad 0), .ref a0])).length) Slot.unset).toArray = ls at hl ⊢
  have hl : lv_has ls 4 [(0, .ref (ad 0)), (1, .ref a0)] := hl
  refine lv_iconst (v := 0) hx hb dX0_whatMajorityHas_0 (by decide) ?_
  refine lv_istore_n (lv' := [(2, .int 0), (0, .ref (ad 0)), (1, .ref a0)]) hx hb dX0_whatMajorityHas_1 rfl hl (by decide) rfl (fun ls hl => ?_)
  refine lv_iconst (v := 0) hx hb dX0_whatMajorityHas_2 (by decide) ?_
  refine lv_istore_n (lv' := [(3, .int 0), (2, .int 0), (0, .ref (ad 0)), (1, .ref a0)]) hx hb dX0_whatMajorityHas_3 rfl hl (by decide) rfl (fun ls hl => ?_)
  have loop : ∀ (k i : Nat) (H : Heap) (ls : Array Slot), i ≤ 7 → 7 < i + k → va_P D vwCl (wX ad cI cZ it o n g v r nx mt fl pr ofs ak hd an ++ rs) H → va_S A s.heap H [] → kz_O s.heap H → lv_has ls 4 [(3, .int (nI i)), (2, .int (sq_A o n f i)), (0, .ref (ad 0)), (1, .ref a0)] → W p l e (headSpec wsX0_whatMajorityHas ({ frames := 3, cells := 1, slots := 6, locals := 62 } : Room)).room s m ([.ref (ad 0), .ref a0] : List Value).toArray below meth c H [] 0 0 (ez_MQ below (kz_Ro (kz_i (fun r9 => r9 = (sq_A o n f 7)))) (kz_T (fun _ => IAE) (fun _ => False)) s 0 0 (fun _ => False)) (F0 m 4 ls []) := by
    intro k
    induction k with
    | zero => intro i H ls h1 h2; omega
    | succ k ih =>
      intro i H ls h1 h2 hP hS hO hl
      refine lv_iload_n hx hb dX0_whatMajorityHas_4 rfl (lv_at hl 0 rfl) ?_
      refine lv_aload_n hx hb dX0_whatMajorityHas_5 rfl (lv_at hl 3 rfl) ?_
      refine va_alen (v := 7) hx hb hK hP q0 0 hq rfl rfl dX0_whatMajorityHas_6 ?_
      refine lv_icmp_ge (tgt := 41) hx hb dX0_whatMajorityHas_7 (by decide) (fun c_1 => ?_) (fun c_1 => ?_)
      · -- 7 -> 41
        refine lv_iload_n hx hb dX0_whatMajorityHas_41 rfl (lv_at hl 1 rfl) ?_
        exact kz_reti hx hb hr hlocks hO (by rw [show i = 7 from kz_i7 h1 c_1])  dX0_whatMajorityHas_42
      · -- 7 -> 10
        have hi9 : i < 7 := kz_l7 h1 c_1
        have hc9 : (nI i).toNatClampNeg = i := nI_clamp (by omega)
        refine lv_aload_n hx hb dX0_whatMajorityHas_10 rfl (lv_at hl 3 rfl) ?_
        refine lv_iload_n hx hb dX0_whatMajorityHas_11 rfl (lv_at hl 0 rfl) ?_
        refine va_iald hx hb hK hP q0 0 hq rfl (vp_in_nI hi9 (by decide)) dX0_whatMajorityHas_12 ?_
        rw [hc9]
        refine lv_iload_n hx hb dX0_whatMajorityHas_13 rfl (lv_at hl 1 rfl) ?_
        refine lv_icmp_le (tgt := 35) hx hb dX0_whatMajorityHas_14 (by decide) (fun c_2 => ?_) (fun c_2 => ?_)
        · -- 14 -> 35
          obtain ⟨v_3, ev_3⟩ : ∃ y : Int32, y = (nI i) + 1 := ⟨_, rfl⟩
          refine lv_iinc (v := v_3) (lv' := [(3, .int v_3), (2, .int (sq_A o n f i)), (0, .ref (ad 0)), (1, .ref a0)]) hx hb dX0_whatMajorityHas_35 hl (k := 0) rfl (by rw [ev_3]; rfl) (by decide) rfl (fun ls hl => ?_)
          refine lv_goto (tgt := 4) hx hb dX0_whatMajorityHas_38 (by decide) ?_
          obtain rfl : v_3 = nI (i + 1) := by rw [ev_3, nI_1]
          have e9 : sq_A o n f (i + 1) = (sq_A o n f i) := by simp [sq_A, c_1, (Int32.not_le.mp c_1), c_2, (Int32.not_lt.mpr c_2)]
          exact ih (i + 1) H ls (by omega) (by omega) hP hS hO (by rw [e9]; exact lv_sub hl [0, 1, 2, 3] rfl)
        · -- 14 -> 17
          refine lv_aload_n hx hb dX0_whatMajorityHas_17 rfl (lv_at hl 2 rfl) ?_
          refine lv_aload_n hx hb dX0_whatMajorityHas_18 rfl (lv_at hl 3 rfl) ?_
          refine lv_aload_n hx hb dX0_whatMajorityHas_19 rfl (lv_at hl 3 rfl) ?_
          refine lv_iload_n hx hb dX0_whatMajorityHas_20 rfl (lv_at hl 0 rfl) ?_
          refine va_iald hx hb hK hP q0 0 hq rfl (vp_in_nI hi9 (by decide)) dX0_whatMajorityHas_21 ?_
          rw [hc9]
          refine kz_rS (As := [.ref a0, .int (f i)]) (rest := [.ref (ad 0)]) ⟨hx, hb, hml, hown, hw9⟩ (c_X0_thoseWithAtLeast l hl9 D ((cI, .int) :: (cZ, .boolean) :: ty) (wX ad cI cZ it o n g v r nx mt fl pr ofs ak hd an ++ rs) H.size cI f q0 0 a0 (f i) hq rfl) (kz_cS 2 hw9 mw_184 mw_185 mw_1 mw_186 rfl rfl (by decide +kernel) ⟨Nat.le_of_ble_eq_true rfl, Nat.le_of_ble_eq_true rfl⟩) (kz_preS hK hP hD hS hA hE) rfl hl.1 rfl (Nat.le_of_ble_eq_true rfl) dX0_whatMajorityHas_22 ⟨Nat.le_of_ble_eq_true rfl, Nat.le_of_ble_eq_true rfl⟩ (fun _ _ _ _ h => False.elim h) (fun v9 H hv9 hO1 => ?_)
          obtain ⟨_, rfl, rfl⟩ := hv9
          have hP := hO1.P hP
          have hS := hO1.S hS
          have hO := hO.tr hO1
          refine W.eq (g2 := F0 m 25 ls [.int (sq_L f (f i) 7), .ref (ad 0)]) rfl ?_
          refine kz_rV (As := [.int (sq_L f (f i) 7)]) (rest := []) ⟨hx, hb, hml, hown, hw9⟩ (c_X0_isMajority l hl9 D cI cZ ty ad rs H.size it o n g v r nx mt fl pr ofs ak hd an (sq_L f (f i) 7)) (kz_cV 1 hw9 mw_219 mw_221 ms_4 mw_1 mw_222 rfl rfl (by decide +kernel) ⟨Nat.le_of_ble_eq_true rfl, Nat.le_of_ble_eq_true rfl⟩) (kz_preV (q0 := 0) (ci := 0) hK hP hD hS hA hE rfl rfl) rfl hl.1 rfl (Nat.le_of_ble_eq_true rfl) dX0_whatMajorityHas_25 ⟨Nat.le_of_ble_eq_true rfl, Nat.le_of_ble_eq_true rfl⟩ (fun _ _ _ _ h => False.elim h) (fun v9 H hv9 hO1 => ?_)
          obtain ⟨_, rfl, rfl⟩ := hv9
          have hP := hO1.P hP
          have hS := hO1.S hS
          have hO := hO.tr hO1
          refine W.eq (g2 := F0 m 28 ls [.int (sq_z (sq_M o n (sq_L f (f i) 7)))]) rfl ?_
          refine lv_if_eq (tgt := 35) hx hb dX0_whatMajorityHas_28 (by decide) (fun c_4 => ?_) (fun c_4 => ?_)
          · -- 28 -> 35
            obtain ⟨v_5, ev_5⟩ : ∃ y : Int32, y = (nI i) + 1 := ⟨_, rfl⟩
            refine lv_iinc (v := v_5) (lv' := [(3, .int v_5), (2, .int (sq_A o n f i)), (0, .ref (ad 0)), (1, .ref a0)]) hx hb dX0_whatMajorityHas_35 hl (k := 0) rfl (by rw [ev_5]; rfl) (by decide) rfl (fun ls hl => ?_)
            refine lv_goto (tgt := 4) hx hb dX0_whatMajorityHas_38 (by decide) ?_
            obtain rfl : v_5 = nI (i + 1) := by rw [ev_5, nI_1]
            have e9 : sq_A o n f (i + 1) = (sq_A o n f i) := by simp [sq_A, c_1, (Int32.not_le.mp c_1), c_2, (Int32.not_le.mp c_2), (sq_z_f c_4)]
            exact ih (i + 1) H ls (by omega) (by omega) hP hS hO (by rw [e9]; exact lv_sub hl [0, 1, 2, 3] rfl)
          · -- 28 -> 31
            refine lv_aload_n hx hb dX0_whatMajorityHas_31 rfl (lv_at hl 3 rfl) ?_
            refine lv_iload_n hx hb dX0_whatMajorityHas_32 rfl (lv_at hl 0 rfl) ?_
            refine va_iald hx hb hK hP q0 0 hq rfl (vp_in_nI hi9 (by decide)) dX0_whatMajorityHas_33 ?_
            rw [hc9]
            refine lv_istore_n (lv' := [(2, .int (f i)), (3, .int (nI i)), (0, .ref (ad 0)), (1, .ref a0)]) hx hb dX0_whatMajorityHas_34 rfl hl (by decide) rfl (fun ls hl => ?_)
            obtain ⟨v_6, ev_6⟩ : ∃ y : Int32, y = (nI i) + 1 := ⟨_, rfl⟩
            refine lv_iinc (v := v_6) (lv' := [(3, .int v_6), (2, .int (f i)), (0, .ref (ad 0)), (1, .ref a0)]) hx hb dX0_whatMajorityHas_35 hl (k := 1) rfl (by rw [ev_6]; rfl) (by decide) rfl (fun ls hl => ?_)
            refine lv_goto (tgt := 4) hx hb dX0_whatMajorityHas_38 (by decide) ?_
            obtain rfl : v_6 = nI (i + 1) := by rw [ev_6, nI_1]
            have e9 : sq_A o n f (i + 1) = (f i) := by simp [sq_A, c_1, (Int32.not_le.mp c_1), c_2, (Int32.not_le.mp c_2), (sq_z_t c_4)]
            exact ih (i + 1) H ls (by omega) (by omega) hP hS hO (by rw [e9]; exact lv_sub hl [0, 1, 2, 3] rfl)
  exact loop 8 0 _ ls (by decide) (by decide) hP hS hO (lv_sub hl [0, 1, 2, 3] rfl)
