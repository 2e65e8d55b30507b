set_option maxHeartbeats 4000000 in
set_option maxRecDepth 100000 in
theorem c_X1_refused (l : Launch) (hl9 : l.stackTraces = false) (D : va_G) (cI : ClassId) (ty : kz_Y) (bd : Nat → Nat) (rs : va_W) (sz : Nat) (th it o n g v r : Int32) (nx mt fl pr ofs ak hd an : Nat → Int32) (p0 : Int32) (p1 : Int32) (p2 : Int32) (p3 : Int32) (p4 : Int32) : ez_M l yX1_refused wsX1_refused ({ frames := 2, cells := 1, slots := 6, locals := 46 } : Room) (kz_P D ((cI, .int) :: ty) (wM bd cI th it o n g v r (sm_al nx mt fl pr ofs ak hd an) ++ rs) sz [.ref (bd 0), .int p0, .int p1, .int p2, .int p3, .int p4]) (kz_Wr D (va_A (wM bd cI th it o n g v r (sm_al nx mt fl pr ofs ak hd an) ++ rs) sz) (kz_i (fun r9 => r9 = (if tc_refused p0 p1 p2 p3 p4 = 0 then (sq_min (sq_max p1 (mt p0.toNatClampNeg + 1)) (p2 + 1)) else 0))) (wM bd cI (nI (tc_refused p0 p1 p2 p3 p4)) it o n g v r (sm_al (if tc_refused p0 p1 p2 p3 p4 = 0 then upd nx p0.toNatClampNeg (sq_min (sq_max p1 (mt p0.toNatClampNeg + 1)) (p2 + 1)) else nx) mt (if tc_refused p0 p1 p2 p3 p4 = 0 then upd fl p0.toNatClampNeg 0 else fl) (if tc_refused p0 p1 p2 p3 p4 = 0 then upd pr p0.toNatClampNeg 1 else pr) ofs (if tc_refused p0 p1 p2 p3 p4 = 0 then upd ak p0.toNatClampNeg (sq_max (ak p0.toNatClampNeg) p3) else ak) (if tc_refused p0 p1 p2 p3 p4 = 0 then upd hd p0.toNatClampNeg p4 else hd) (if tc_refused p0 p1 p2 p3 p4 = 0 then upd an p0.toNatClampNeg 1 else an)) ++ rs)) (kz_T (fun _ => IAE) (fun _ => False)) 0 0 (va_A (wM bd cI th it o n g v r (sm_al nx mt fl pr ofs ak hd an) ++ rs) sz) := by
  refine ez_ofW (cc := cX1_refused) (maxL := 7) (ret := (some .int)) (by decide) rfl ?_
  intro p e s m args below meth c s₁ B hml hTab hv
  obtain ⟨rfl, hsz, hP, hK, hD0, hE⟩ := hv
  have hx := B.exec
  have hb := B.bytes
  have hr := B.returns
  have hw9 : ∀ w ∈ kz_W9, w.before ([.ref (bd 0), .int p0, .int p1, .int p2, .int p3, .int p4] : List Value).toArray s = true := fun w h => atoms_spec (ws := wsX1_refused) B.pre w (List.mem_cons_of_mem _ h)
  have hown : s.vm.findClass RX1 = some m.cls := findClass_of_methodNamed B.named
  have hlocks := B.notSynchronized
  subst hsz
  have hD := hD0.self (sz := s.heap.size)
  generalize hAe : va_A (wM bd cI th it o n g v r (sm_al nx mt fl pr ofs ak hd an) ++ rs) s.heap.size = A at hD hE ⊢
  have hA : ∀ q : Nat, s.heap.size ≤ q → A q := fun q h => by rw [← hAe]; exact Or.inr h
  have hS : va_S A s.heap s.heap [] := va_S.rf
  have hO : kz_O s.heap s.heap := kz_O.rf _
  have hl := lv_entry ([.ref (bd 0), .int p0, .int p1, .int p2, .int p3, .int p4]) (n := 7) (Nat.le_of_ble_eq_true rfl)
  rw [lg_entry_eq]
  generalize (lg_sl ([.ref (bd 0), .int p0, .int p1, .int p2, .int p3, .int p4]) ++ List.replicate (7 - (lg_sl ([.ref (bd 0), .int p0, .int p1, .int p2, .int p3, .int p4])).length) Slot.unset).toArray = ls at hl ⊢
  have hl : lv_has ls 7 [(0, .ref (bd 0)), (1, .int p0), (2, .int p1), (3, .int p2), (4, .int p3), (5, .int p4)] := hl
  refine lv_aload_n hx hb dX1_refused_0 rfl (lv_at hl 0 rfl) ?_
  refine lv_iconst (v := 0) hx hb dX1_refused_1 (by decide) ?_
  refine va_put (D := D) (ci := 1) (v := .int 0) (ty := .int) (C := RX1) (T := TX1) (N := 8) hx hb hw9 uX1 tyX1 tyX1_ok nmX1 hown hK hP hD hS 0 rfl rfl 0 (by decide) (hw9 _ mw_360) (fun _ h9 => h9) rfl (by decide +kernel) rfl rfl (Nat.le_of_ble_eq_true rfl) dX1_refused_2 (fun H locs hP hD hS => ?_)
  have hP : va_P D vwCl (wM bd cI 0 it o n g v r (sm_al nx mt fl pr ofs ak hd an) ++ rs) H := hP
  have hD : va_D A (wM bd cI 0 it o n g v r (sm_al nx mt fl pr ofs ak hd an) ++ rs) := hD
  refine lv_aload_n hx hb dX1_refused_5 rfl (lv_at hl 0 rfl) ?_
  refine lv_iload_n hx hb dX1_refused_6 rfl (lv_at hl 1 rfl) ?_
  refine lv_iload_n hx hb dX1_refused_7 rfl (lv_at hl 2 rfl) ?_
  refine lv_iload_n hx hb dX1_refused_8 rfl (lv_at hl 3 rfl) ?_
  refine lv_iload hx hb dX1_refused_9 (lv_at hl 4 rfl) ?_
  refine lv_iload hx hb dX1_refused_11 (lv_at hl 5 rfl) ?_
  refine kz_wV (As := [.int p0, .int p1, .int p2, .int p3, .int p4]) (rest := []) ⟨hx, hb, hml, hown, hw9⟩ (c_X1_bad l hl9 D cI ty bd rs H.size 0 it o n g v r (sm_al nx mt fl pr ofs ak hd an) p0 p1 p2 p3 p4 rfl) (kz_cV 5 hw9 mw_462 mw_464 ms_16 mw_2 mw_465 rfl rfl (by decide +kernel) ⟨Nat.le_of_ble_eq_true rfl, Nat.le_of_ble_eq_true rfl⟩) (kz_preV (q0 := 0) (ci := 1) hK hP hD hS hA hE rfl rfl) rfl hl.1 rfl (Nat.le_of_ble_eq_true rfl) dX1_refused_13 ⟨Nat.le_of_ble_eq_true rfl, Nat.le_of_ble_eq_true rfl⟩ hD hS hA (fun _ _ _ _ _ _ h => False.elim h) (fun v9 H locs hv9 hP hD hS => ?_)
  obtain ⟨_, rfl, rfl⟩ := hv9
  have hP : va_P D vwCl (wM bd cI (nI (tc_bad p0 p1 p2 p3 p4)) it o n g v r (sm_al nx mt fl pr ofs ak hd an) ++ rs) H := hP
  have hD : va_D A (wM bd cI (nI (tc_bad p0 p1 p2 p3 p4)) it o n g v r (sm_al nx mt fl pr ofs ak hd an) ++ rs) := hD
  refine W.eq (g2 := F0 m 16 ls [.int (sq_z (decide (¬ tc_bad p0 p1 p2 p3 p4 = 0)))]) rfl ?_
  refine lv_if_eq (tgt := 21) hx hb dX1_refused_16 (by decide) (fun c_1 => ?_) (fun c_1 => ?_)
  · -- 16 -> 21
    have hb_2 : tc_bad p0 p1 p2 p3 p4 = 0 := Decidable.not_not.mp (of_decide_eq_false (sq_z_f c_1))
    rw [hb_2] at hP hD
    have hP : va_P D vwCl (wM bd cI 0 it o n g v r (sm_al nx mt fl pr ofs ak hd an) ++ rs) H := hP
    have hD : va_D A (wM bd cI 0 it o n g v r (sm_al nx mt fl pr ofs ak hd an) ++ rs) := hD
    have hsv : sq_V p0 = true := sm_badV hb_2
    obtain ⟨hsA, hsE⟩ := sm_srv hsv
    refine lv_aload_n hx hb dX1_refused_21 rfl (lv_at hl 0 rfl) ?_
    refine lv_iload_n hx hb dX1_refused_22 rfl (lv_at hl 1 rfl) ?_
    refine lv_iload hx hb dX1_refused_23 (lv_at hl 4 rfl) ?_
    refine lv_iload hx hb dX1_refused_25 (lv_at hl 5 rfl) ?_
    refine kz_wV (As := [.int p0, .int p3, .int p4]) (rest := []) ⟨hx, hb, hml, hown, hw9⟩ (c_X1_answered l hl9 D cI ty bd rs H.size 0 it o n g v r nx mt fl pr ofs ak hd an p0 p3 p4 hsv) (kz_cV 3 hw9 mw_466 mw_468 ms_17 mw_2 mw_469 rfl rfl (by decide +kernel) ⟨Nat.le_of_ble_eq_true rfl, Nat.le_of_ble_eq_true rfl⟩) (kz_preV (q0 := 0) (ci := 1) hK hP hD hS hA hE rfl rfl) rfl hl.1 rfl (Nat.le_of_ble_eq_true rfl) dX1_refused_27 ⟨Nat.le_of_ble_eq_true rfl, Nat.le_of_ble_eq_true rfl⟩ hD hS hA (fun _ _ _ _ _ _ h => False.elim h) (fun v9 H locs hv9 hP hD hS => ?_)
    obtain ⟨rfl, -⟩ := hv9
    have hP : va_P D vwCl (wM bd cI 0 it o n g v r (sm_al nx mt fl pr ofs (upd ak p0.toNatClampNeg (sq_max (ak p0.toNatClampNeg) p3)) (upd hd p0.toNatClampNeg p4) (upd an p0.toNatClampNeg 1)) ++ rs) H := hP
    have hD : va_D A (wM bd cI 0 it o n g v r (sm_al nx mt fl pr ofs (upd ak p0.toNatClampNeg (sq_max (ak p0.toNatClampNeg) p3)) (upd hd p0.toNatClampNeg p4) (upd an p0.toNatClampNeg 1)) ++ rs) := hD
    refine W.eq (g2 := F0 m 30 ls []) rfl ?_
    refine lv_aload_n hx hb dX1_refused_30 rfl (lv_at hl 0 rfl) ?_
    refine lv_iload_n hx hb dX1_refused_31 rfl (lv_at hl 1 rfl) ?_
    refine lv_iconst (v := 2) hx hb dX1_refused_32 (by decide) ?_
    refine lv_iconst (v := 0) hx hb dX1_refused_33 (by decide) ?_
    refine kz_wV (As := [.int p0, .int 2, .int 0]) (rest := []) ⟨hx, hb, hml, hown, hw9⟩ (c_X1_put l hl9 D cI ty bd rs H.size 0 it o n g v r (sm_al nx mt fl pr ofs (upd ak p0.toNatClampNeg (sq_max (ak p0.toNatClampNeg) p3)) (upd hd p0.toNatClampNeg p4) (upd an p0.toNatClampNeg 1)) p0.toNatClampNeg 2 p0 2 0 hsA (by decide) hsE rfl) (kz_cV 3 hw9 mw_442 mw_444 ms_14 mw_2 mw_445 rfl rfl (by decide +kernel) ⟨Nat.le_of_ble_eq_true rfl, Nat.le_of_ble_eq_true rfl⟩) (kz_preV (q0 := 0) (ci := 1) hK hP hD hS hA hE rfl rfl) rfl hl.1 rfl (Nat.le_of_ble_eq_true rfl) dX1_refused_34 ⟨Nat.le_of_ble_eq_true rfl, Nat.le_of_ble_eq_true rfl⟩ hD hS hA (fun _ _ _ _ _ _ h => False.elim h) (fun v9 H locs hv9 hP hD hS => ?_)
    obtain ⟨rfl, -⟩ := hv9
    rw [sm_p2] at hP hD
    have hP : va_P D vwCl (wM bd cI 0 it o n g v r (sm_al nx mt (upd fl p0.toNatClampNeg 0) pr ofs (upd ak p0.toNatClampNeg (sq_max (ak p0.toNatClampNeg) p3)) (upd hd p0.toNatClampNeg p4) (upd an p0.toNatClampNeg 1)) ++ rs) H := hP
    have hD : va_D A (wM bd cI 0 it o n g v r (sm_al nx mt (upd fl p0.toNatClampNeg 0) pr ofs (upd ak p0.toNatClampNeg (sq_max (ak p0.toNatClampNeg) p3)) (upd hd p0.toNatClampNeg p4) (upd an p0.toNatClampNeg 1)) ++ rs) := hD
    refine W.eq (g2 := F0 m 37 ls []) rfl ?_
    refine lv_aload_n hx hb dX1_refused_37 rfl (lv_at hl 0 rfl) ?_
    refine lv_iload_n hx hb dX1_refused_38 rfl (lv_at hl 1 rfl) ?_
    refine lv_iconst (v := 3) hx hb dX1_refused_39 (by decide) ?_
    refine lv_iconst (v := 1) hx hb dX1_refused_40 (by decide) ?_
    refine kz_wV (As := [.int p0, .int 3, .int 1]) (rest := []) ⟨hx, hb, hml, hown, hw9⟩ (c_X1_put l hl9 D cI ty bd rs H.size 0 it o n g v r (sm_al nx mt (upd fl p0.toNatClampNeg 0) pr ofs (upd ak p0.toNatClampNeg (sq_max (ak p0.toNatClampNeg) p3)) (upd hd p0.toNatClampNeg p4) (upd an p0.toNatClampNeg 1)) p0.toNatClampNeg 3 p0 3 1 hsA (by decide) hsE rfl) (kz_cV 3 hw9 mw_442 mw_444 ms_14 mw_2 mw_445 rfl rfl (by decide +kernel) ⟨Nat.le_of_ble_eq_true rfl, Nat.le_of_ble_eq_true rfl⟩) (kz_preV (q0 := 0) (ci := 1) hK hP hD hS hA hE rfl rfl) rfl hl.1 rfl (Nat.le_of_ble_eq_true rfl) dX1_refused_41 ⟨Nat.le_of_ble_eq_true rfl, Nat.le_of_ble_eq_true rfl⟩ hD hS hA (fun _ _ _ _ _ _ h => False.elim h) (fun v9 H locs hv9 hP hD hS => ?_)
    obtain ⟨rfl, -⟩ := hv9
    rw [sm_p3] at hP hD
    have hP : va_P D vwCl (wM bd cI 0 it o n g v r (sm_al nx mt (upd fl p0.toNatClampNeg 0) (upd pr p0.toNatClampNeg 1) ofs (upd ak p0.toNatClampNeg (sq_max (ak p0.toNatClampNeg) p3)) (upd hd p0.toNatClampNeg p4) (upd an p0.toNatClampNeg 1)) ++ rs) H := hP
    have hD : va_D A (wM bd cI 0 it o n g v r (sm_al nx mt (upd fl p0.toNatClampNeg 0) (upd pr p0.toNatClampNeg 1) ofs (upd ak p0.toNatClampNeg (sq_max (ak p0.toNatClampNeg) p3)) (upd hd p0.toNatClampNeg p4) (upd an p0.toNatClampNeg 1)) ++ rs) := hD
    refine W.eq (g2 := F0 m 44 ls []) rfl ?_
    refine lv_iload_n hx hb dX1_refused_44 rfl (lv_at hl 2 rfl) ?_
    refine lv_aload_n hx hb dX1_refused_45 rfl (lv_at hl 0 rfl) ?_
    refine lv_iload_n hx hb dX1_refused_46 rfl (lv_at hl 1 rfl) ?_
    refine lv_iconst (v := 1) hx hb dX1_refused_47 (by decide) ?_
    refine kz_rV (As := [.int p0, .int 1]) (rest := [.int p1]) ⟨hx, hb, hml, hown, hw9⟩ (c_X1_get l hl9 D cI ty bd rs H.size 0 it o n g v r (sm_al nx mt (upd fl p0.toNatClampNeg 0) (upd pr p0.toNatClampNeg 1) ofs (upd ak p0.toNatClampNeg (sq_max (ak p0.toNatClampNeg) p3)) (upd hd p0.toNatClampNeg p4) (upd an p0.toNatClampNeg 1)) p0.toNatClampNeg 1 p0 1 hsA (by decide) hsE rfl) (kz_cV 2 hw9 mw_403 mw_405 ms_11 mw_2 mw_406 rfl rfl (by decide +kernel) ⟨Nat.le_of_ble_eq_true rfl, Nat.le_of_ble_eq_true rfl⟩) (kz_preV (q0 := 0) (ci := 1) hK hP hD hS hA hE rfl rfl) rfl hl.1 rfl (Nat.le_of_ble_eq_true rfl) dX1_refused_48 ⟨Nat.le_of_ble_eq_true rfl, Nat.le_of_ble_eq_true rfl⟩ (fun _ _ _ _ h => False.elim h) (fun v9 H hv9 hO1 => ?_)
    obtain ⟨_, rfl, rfl⟩ := hv9
    have hP := hO1.P hP
    have hS := hO1.S hS
    rw [sm_g1]
    refine W.eq (g2 := F0 m 51 ls [.int (mt p0.toNatClampNeg), .int p1]) rfl ?_
    refine lv_iconst (v := 1) hx hb dX1_refused_51 (by decide) ?_
    refine lv_iadd hx hb dX1_refused_52 ?_
    refine kz_rS (As := [.int p1, .int ((mt p0.toNatClampNeg) + 1)]) (rest := []) ⟨hx, hb, hml, hown, hw9⟩ (c_X1_greater l hl9 D ((cI, .int) :: ty) (wM bd cI 0 it o n g v r (sm_al nx mt (upd fl p0.toNatClampNeg 0) (upd pr p0.toNatClampNeg 1) ofs (upd ak p0.toNatClampNeg (sq_max (ak p0.toNatClampNeg) p3)) (upd hd p0.toNatClampNeg p4) (upd an p0.toNatClampNeg 1)) ++ rs) H.size p1 ((mt p0.toNatClampNeg) + 1)) (kz_cS 2 hw9 mw_470 mw_471 mw_2 mw_472 rfl rfl (by decide +kernel) ⟨Nat.le_of_ble_eq_true rfl, Nat.le_of_ble_eq_true rfl⟩) (kz_preS hK hP hD hS hA hE) rfl hl.1 rfl (Nat.le_of_ble_eq_true rfl) dX1_refused_53 ⟨Nat.le_of_ble_eq_true rfl, Nat.le_of_ble_eq_true rfl⟩ (fun _ _ _ _ h => False.elim h) (fun v9 H hv9 hO1 => ?_)
    obtain ⟨_, rfl, rfl⟩ := hv9
    have hP := hO1.P hP
    have hS := hO1.S hS
    refine W.eq (g2 := F0 m 56 ls [.int (sq_max p1 ((mt p0.toNatClampNeg) + 1))]) rfl ?_
    refine lv_istore (lv' := [(6, .int (sq_max p1 ((mt p0.toNatClampNeg) + 1))), (0, .ref (bd 0)), (1, .int p0), (2, .int p1), (3, .int p2), (4, .int p3), (5, .int p4)]) hx hb dX1_refused_56 hl (by decide) rfl (fun ls hl => ?_)
    refine lv_aload_n hx hb dX1_refused_58 rfl (lv_at hl 1 rfl) ?_
    refine lv_iload_n hx hb dX1_refused_59 rfl (lv_at hl 2 rfl) ?_
    refine lv_iconst (v := 0) hx hb dX1_refused_60 (by decide) ?_
    refine lv_iload hx hb dX1_refused_61 (lv_at hl 0 rfl) ?_
    refine lv_iload_n hx hb dX1_refused_63 rfl (lv_at hl 4 rfl) ?_
    refine lv_iconst (v := 1) hx hb dX1_refused_64 (by decide) ?_
    refine lv_iadd hx hb dX1_refused_65 ?_
    refine lv_icmp_le (tgt := 75) hx hb dX1_refused_66 (by decide) (fun c_3 => ?_) (fun c_3 => ?_)
    · -- 66 -> 75
      refine lv_iload hx hb dX1_refused_75 (lv_at hl 0 rfl) ?_
      refine kz_wV (As := [.int p0, .int 0, .int (sq_max p1 ((mt p0.toNatClampNeg) + 1))]) (rest := []) ⟨hx, hb, hml, hown, hw9⟩ (c_X1_put l hl9 D cI ty bd rs H.size 0 it o n g v r (sm_al nx mt (upd fl p0.toNatClampNeg 0) (upd pr p0.toNatClampNeg 1) ofs (upd ak p0.toNatClampNeg (sq_max (ak p0.toNatClampNeg) p3)) (upd hd p0.toNatClampNeg p4) (upd an p0.toNatClampNeg 1)) p0.toNatClampNeg 0 p0 0 (sq_max p1 ((mt p0.toNatClampNeg) + 1)) hsA (by decide) hsE rfl) (kz_cV 3 hw9 mw_442 mw_444 ms_14 mw_2 mw_445 rfl rfl (by decide +kernel) ⟨Nat.le_of_ble_eq_true rfl, Nat.le_of_ble_eq_true rfl⟩) (kz_preV (q0 := 0) (ci := 1) hK hP hD hS hA hE rfl rfl) rfl hl.1 rfl (Nat.le_of_ble_eq_true rfl) dX1_refused_77 ⟨Nat.le_of_ble_eq_true rfl, Nat.le_of_ble_eq_true rfl⟩ hD hS hA (fun _ _ _ _ _ _ h => False.elim h) (fun v9 H locs hv9 hP hD hS => ?_)
      obtain ⟨rfl, -⟩ := hv9
      rw [sm_p0] at hP hD
      have hP : va_P D vwCl (wM bd cI 0 it o n g v r (sm_al (upd nx p0.toNatClampNeg (sq_max p1 ((mt p0.toNatClampNeg) + 1))) mt (upd fl p0.toNatClampNeg 0) (upd pr p0.toNatClampNeg 1) ofs (upd ak p0.toNatClampNeg (sq_max (ak p0.toNatClampNeg) p3)) (upd hd p0.toNatClampNeg p4) (upd an p0.toNatClampNeg 1)) ++ rs) H := hP
      have hD : va_D A (wM bd cI 0 it o n g v r (sm_al (upd nx p0.toNatClampNeg (sq_max p1 ((mt p0.toNatClampNeg) + 1))) mt (upd fl p0.toNatClampNeg 0) (upd pr p0.toNatClampNeg 1) ofs (upd ak p0.toNatClampNeg (sq_max (ak p0.toNatClampNeg) p3)) (upd hd p0.toNatClampNeg p4) (upd an p0.toNatClampNeg 1)) ++ rs) := hD
      refine W.eq (g2 := F0 m 80 ls []) rfl ?_
      refine lv_aload_n hx hb dX1_refused_80 rfl (lv_at hl 1 rfl) ?_
      refine lv_iload_n hx hb dX1_refused_81 rfl (lv_at hl 2 rfl) ?_
      refine lv_iconst (v := 0) hx hb dX1_refused_82 (by decide) ?_
      refine kz_rV (As := [.int p0, .int 0]) (rest := []) ⟨hx, hb, hml, hown, hw9⟩ (c_X1_get l hl9 D cI ty bd rs H.size 0 it o n g v r (sm_al (upd nx p0.toNatClampNeg (sq_max p1 ((mt p0.toNatClampNeg) + 1))) mt (upd fl p0.toNatClampNeg 0) (upd pr p0.toNatClampNeg 1) ofs (upd ak p0.toNatClampNeg (sq_max (ak p0.toNatClampNeg) p3)) (upd hd p0.toNatClampNeg p4) (upd an p0.toNatClampNeg 1)) p0.toNatClampNeg 0 p0 0 hsA (by decide) hsE rfl) (kz_cV 2 hw9 mw_403 mw_405 ms_11 mw_2 mw_406 rfl rfl (by decide +kernel) ⟨Nat.le_of_ble_eq_true rfl, Nat.le_of_ble_eq_true rfl⟩) (kz_preV (q0 := 0) (ci := 1) hK hP hD hS hA hE rfl rfl) rfl hl.1 rfl (Nat.le_of_ble_eq_true rfl) dX1_refused_83 ⟨Nat.le_of_ble_eq_true rfl, Nat.le_of_ble_eq_true rfl⟩ (fun _ _ _ _ h => False.elim h) (fun v9 H hv9 hO1 => ?_)
      obtain ⟨_, rfl, rfl⟩ := hv9
      have hP := hO1.P hP
      have hS := hO1.S hS
      rw [sm_g0]
      refine W.eq (g2 := F0 m 86 ls [.int ((upd nx p0.toNatClampNeg (sq_max p1 ((mt p0.toNatClampNeg) + 1))) p0.toNatClampNeg)]) rfl ?_
      have htc : tc_refused p0 p1 p2 p3 p4 = 0 := hb_2
      have e_nx : (upd nx p0.toNatClampNeg (sq_min (sq_max p1 (mt p0.toNatClampNeg + 1)) (p2 + 1))) = upd nx p0.toNatClampNeg (sq_max p1 ((mt p0.toNatClampNeg) + 1)) := by rw [sm_mn1 c_3]
      exact kz_wreti hx hb hr hlocks (by simp only [htc, if_true, e_nx]; exact hP) (by simp only [htc, if_true, e_nx]; exact hD) hS (Nat.le_of_ble_eq_true rfl) (Nat.le_of_ble_eq_true rfl) (by rw [htc]; exact (show ((upd nx p0.toNatClampNeg (sq_max p1 ((mt p0.toNatClampNeg) + 1))) p0.toNatClampNeg) = (sq_min (sq_max p1 (mt p0.toNatClampNeg + 1)) (p2 + 1)) from pk_us.trans (by rw [sm_mn1 c_3])))  dX1_refused_86
    · -- 66 -> 69
      refine lv_iload_n hx hb dX1_refused_69 rfl (lv_at hl 4 rfl) ?_
      refine lv_iconst (v := 1) hx hb dX1_refused_70 (by decide) ?_
      refine lv_iadd hx hb dX1_refused_71 ?_
      refine lv_goto (tgt := 77) hx hb dX1_refused_72 (by decide) ?_
      refine kz_wV (As := [.int p0, .int 0, .int (p2 + 1)]) (rest := []) ⟨hx, hb, hml, hown, hw9⟩ (c_X1_put l hl9 D cI ty bd rs H.size 0 it o n g v r (sm_al nx mt (upd fl p0.toNatClampNeg 0) (upd pr p0.toNatClampNeg 1) ofs (upd ak p0.toNatClampNeg (sq_max (ak p0.toNatClampNeg) p3)) (upd hd p0.toNatClampNeg p4) (upd an p0.toNatClampNeg 1)) p0.toNatClampNeg 0 p0 0 (p2 + 1) hsA (by decide) hsE rfl) (kz_cV 3 hw9 mw_442 mw_444 ms_14 mw_2 mw_445 rfl rfl (by decide +kernel) ⟨Nat.le_of_ble_eq_true rfl, Nat.le_of_ble_eq_true rfl⟩) (kz_preV (q0 := 0) (ci := 1) hK hP hD hS hA hE rfl rfl) rfl hl.1 rfl (Nat.le_of_ble_eq_true rfl) dX1_refused_77 ⟨Nat.le_of_ble_eq_true rfl, Nat.le_of_ble_eq_true rfl⟩ hD hS hA (fun _ _ _ _ _ _ h => False.elim h) (fun v9 H locs hv9 hP hD hS => ?_)
      obtain ⟨rfl, -⟩ := hv9
      rw [sm_p0] at hP hD
      have hP : va_P D vwCl (wM bd cI 0 it o n g v r (sm_al (upd nx p0.toNatClampNeg (p2 + 1)) mt (upd fl p0.toNatClampNeg 0) (upd pr p0.toNatClampNeg 1) ofs (upd ak p0.toNatClampNeg (sq_max (ak p0.toNatClampNeg) p3)) (upd hd p0.toNatClampNeg p4) (upd an p0.toNatClampNeg 1)) ++ rs) H := hP
      have hD : va_D A (wM bd cI 0 it o n g v r (sm_al (upd nx p0.toNatClampNeg (p2 + 1)) mt (upd fl p0.toNatClampNeg 0) (upd pr p0.toNatClampNeg 1) ofs (upd ak p0.toNatClampNeg (sq_max (ak p0.toNatClampNeg) p3)) (upd hd p0.toNatClampNeg p4) (upd an p0.toNatClampNeg 1)) ++ rs) := hD
      refine W.eq (g2 := F0 m 80 ls []) rfl ?_
      refine lv_aload_n hx hb dX1_refused_80 rfl (lv_at hl 1 rfl) ?_
      refine lv_iload_n hx hb dX1_refused_81 rfl (lv_at hl 2 rfl) ?_
      refine lv_iconst (v := 0) hx hb dX1_refused_82 (by decide) ?_
      refine kz_rV (As := [.int p0, .int 0]) (rest := []) ⟨hx, hb, hml, hown, hw9⟩ (c_X1_get l hl9 D cI ty bd rs H.size 0 it o n g v r (sm_al (upd nx p0.toNatClampNeg (p2 + 1)) mt (upd fl p0.toNatClampNeg 0) (upd pr p0.toNatClampNeg 1) ofs (upd ak p0.toNatClampNeg (sq_max (ak p0.toNatClampNeg) p3)) (upd hd p0.toNatClampNeg p4) (upd an p0.toNatClampNeg 1)) p0.toNatClampNeg 0 p0 0 hsA (by decide) hsE rfl) (kz_cV 2 hw9 mw_403 mw_405 ms_11 mw_2 mw_406 rfl rfl (by decide +kernel) ⟨Nat.le_of_ble_eq_true rfl, Nat.le_of_ble_eq_true rfl⟩) (kz_preV (q0 := 0) (ci := 1) hK hP hD hS hA hE rfl rfl) rfl hl.1 rfl (Nat.le_of_ble_eq_true rfl) dX1_refused_83 ⟨Nat.le_of_ble_eq_true rfl, Nat.le_of_ble_eq_true rfl⟩ (fun _ _ _ _ h => False.elim h) (fun v9 H hv9 hO1 => ?_)
      obtain ⟨_, rfl, rfl⟩ := hv9
      have hP := hO1.P hP
      have hS := hO1.S hS
      rw [sm_g0]
      refine W.eq (g2 := F0 m 86 ls [.int ((upd nx p0.toNatClampNeg (p2 + 1)) p0.toNatClampNeg)]) rfl ?_
      have htc : tc_refused p0 p1 p2 p3 p4 = 0 := hb_2
      have e_nx : (upd nx p0.toNatClampNeg (sq_min (sq_max p1 (mt p0.toNatClampNeg + 1)) (p2 + 1))) = upd nx p0.toNatClampNeg (p2 + 1) := by rw [sm_mn2 c_3]
      exact kz_wreti hx hb hr hlocks (by simp only [htc, if_true, e_nx]; exact hP) (by simp only [htc, if_true, e_nx]; exact hD) hS (Nat.le_of_ble_eq_true rfl) (Nat.le_of_ble_eq_true rfl) (by rw [htc]; exact (show ((upd nx p0.toNatClampNeg (p2 + 1)) p0.toNatClampNeg) = (sq_min (sq_max p1 (mt p0.toNatClampNeg + 1)) (p2 + 1)) from pk_us.trans (by rw [sm_mn2 c_3])))  dX1_refused_86
  · -- 16 -> 19
    have hb_4 : ¬ tc_bad p0 p1 p2 p3 p4 = 0 := of_decide_eq_true (sq_z_t c_1)
    refine lv_iconst (v := 0) hx hb dX1_refused_19 (by decide) ?_
    have hTC : tc_refused p0 p1 p2 p3 p4 = tc_bad p0 p1 p2 p3 p4 := rfl
    exact kz_wreti hx hb hr hlocks (by rw [hTC]; simp only [if_neg hb_4]; exact hP) (by rw [hTC]; simp only [if_neg hb_4]; exact hD) hS (Nat.le_of_ble_eq_true rfl) (Nat.le_of_ble_eq_true rfl) (by rw [hTC, if_neg hb_4])  dX1_refused_20
set_option maxHeartbeats 4000000 in
set_option maxRecDepth 100000 in
theorem c_X1_stored (l : Launch) (hl9 : l.stackTraces = false) (D : va_G) (cI : ClassId) (ty : kz_Y) (bd : Nat → Nat) (rs : va_W) (sz : Nat) (th it o n g v r : Int32) (nx mt fl pr ofs ak hd an : Nat → Int32) (p0 : Int32) (p1 : Int32) (p2 : Int32) (p3 : Int32) (p4 : Int32) (p5 : Int32) : ez_M l yX1_stored wsX1_stored ({ frames := 2, cells := 1, slots := 6, locals := 46 } : Room) (kz_P D ((cI, .int) :: ty) (wM bd cI th it o n g v r (sm_al nx mt fl pr ofs ak hd an) ++ rs) sz [.ref (bd 0), .int p0, .int p1, .int p2, .int p3, .int p4, .int p5]) (kz_Wr D (va_A (wM bd cI th it o n g v r (sm_al nx mt fl pr ofs ak hd an) ++ rs) sz) (kz_i (fun r9 => r9 = (if tc_stored p0 p1 p2 p3 p4 p5 = 0 then sq_z (decide (¬ p1 < p2)) else 0))) (wM bd cI (nI (tc_stored p0 p1 p2 p3 p4 p5)) it o n g v r (sm_al (if tc_stored p0 p1 p2 p3 p4 p5 = 0 then if p1 < p2 then nx else upd nx p0.toNatClampNeg (p3 + 1) else nx) (if tc_stored p0 p1 p2 p3 p4 p5 = 0 then if p1 < p2 then mt else upd mt p0.toNatClampNeg (sq_max (mt p0.toNatClampNeg) p3) else mt) (if tc_stored p0 p1 p2 p3 p4 p5 = 0 then upd fl p0.toNatClampNeg 0 else fl) (if tc_stored p0 p1 p2 p3 p4 p5 = 0 then if p1 < p2 then pr else upd pr p0.toNatClampNeg 1 else pr) (if tc_stored p0 p1 p2 p3 p4 p5 = 0 then if p1 < p2 then upd ofs p0.toNatClampNeg p1 else upd ofs p0.toNatClampNeg 0 else ofs) (if tc_stored p0 p1 p2 p3 p4 p5 = 0 then upd ak p0.toNatClampNeg (sq_max (ak p0.toNatClampNeg) p4) else ak) (if tc_stored p0 p1 p2 p3 p4 p5 = 0 then upd hd p0.toNatClampNeg p5 else hd) (if tc_stored p0 p1 p2 p3 p4 p5 = 0 then upd an p0.toNatClampNeg 1 else an)) ++ rs)) (kz_T (fun _ => IAE) (fun _ => False)) 0 0 (va_A (wM bd cI th it o n g v r (sm_al nx mt fl pr ofs ak hd an) ++ rs) sz) := by
  refine ez_ofW (cc := cX1_stored) (maxL := 7) (ret := (some .boolean)) (by decide) rfl ?_
  intro p e s m args below meth c s₁ B hml hTab hv
  obtain ⟨rfl, hsz, hP, hK, hD0, hE⟩ := hv
  have hx := B.exec
  have hb := B.bytes
  have hr := B.returns
  have hw9 : ∀ w ∈ kz_W9, w.before ([.ref (bd 0), .int p0, .int p1, .int p2, .int p3, .int p4, .int p5] : List Value).toArray s = true := fun w h => atoms_spec (ws := wsX1_stored) B.pre w (List.mem_cons_of_mem _ h)
  have hown : s.vm.findClass RX1 = some m.cls := findClass_of_methodNamed B.named
  have hlocks := B.notSynchronized
  subst hsz
  have hD := hD0.self (sz := s.heap.size)
  generalize hAe : va_A (wM bd cI th it o n g v r (sm_al nx mt fl pr ofs ak hd an) ++ rs) s.heap.size = A at hD hE ⊢
  have hA : ∀ q : Nat, s.heap.size ≤ q → A q := fun q h => by rw [← hAe]; exact Or.inr h
  have hS : va_S A s.heap s.heap [] := va_S.rf
  have hO : kz_O s.heap s.heap := kz_O.rf _
  have hl := lv_entry ([.ref (bd 0), .int p0, .int p1, .int p2, .int p3, .int p4, .int p5]) (n := 7) (Nat.le_of_ble_eq_true rfl)
  rw [lg_entry_eq]
  generalize (lg_sl ([.ref (bd 0), .int p0, .int p1, .int p2, .int p3, .int p4, .int p5]) ++ List.replicate (7 - (lg_sl ([.ref (bd 0), .int p0, .int p1, .int p2, .int p3, .int p4, .int p5])).length) Slot.unset).toArray = ls at hl ⊢
  have hl : lv_has ls 7 [(0, .ref (bd 0)), (1, .int p0), (2, .int p1), (3, .int p2), (4, .int p3), (5, .int p4), (6, .int p5)] := hl
  refine lv_aload_n hx hb dX1_stored_0 rfl (lv_at hl 0 rfl) ?_
  refine lv_iconst (v := 0) hx hb dX1_stored_1 (by decide) ?_
  refine va_put (D := D) (ci := 1) (v := .int 0) (ty := .int) (C := RX1) (T := TX1) (N := 8) hx hb hw9 uX1 tyX1 tyX1_ok nmX1 hown hK hP hD hS 0 rfl rfl 0 (by decide) (hw9 _ mw_360) (fun _ h9 => h9) rfl (by decide +kernel) rfl rfl (Nat.le_of_ble_eq_true rfl) dX1_stored_2 (fun H locs hP hD hS => ?_)
  have hP : va_P D vwCl (wM bd cI 0 it o n g v r (sm_al nx mt fl pr ofs ak hd an) ++ rs) H := hP
  have hD : va_D A (wM bd cI 0 it o n g v r (sm_al nx mt fl pr ofs ak hd an) ++ rs) := hD
  refine lv_aload_n hx hb dX1_stored_5 rfl (lv_at hl 0 rfl) ?_
  refine lv_iload_n hx hb dX1_stored_6 rfl (lv_at hl 1 rfl) ?_
  refine lv_iload_n hx hb dX1_stored_7 rfl (lv_at hl 2 rfl) ?_
  refine lv_iload_n hx hb dX1_stored_8 rfl (lv_at hl 3 rfl) ?_
  refine lv_iload hx hb dX1_stored_9 (lv_at hl 4 rfl) ?_
  refine lv_iload hx hb dX1_stored_11 (lv_at hl 5 rfl) ?_
  refine kz_wV (As := [.int p0, .int p1, .int p2, .int p3, .int p4]) (rest := []) ⟨hx, hb, hml, hown, hw9⟩ (c_X1_bad l hl9 D cI ty bd rs H.size 0 it o n g v r (sm_al nx mt fl pr ofs ak hd an) p0 p1 p2 p3 p4 rfl) (kz_cV 5 hw9 mw_462 mw_464 ms_16 mw_2 mw_465 rfl rfl (by decide +kernel) ⟨Nat.le_of_ble_eq_true rfl, Nat.le_of_ble_eq_true rfl⟩) (kz_preV (q0 := 0) (ci := 1) hK hP hD hS hA hE rfl rfl) rfl hl.1 rfl (Nat.le_of_ble_eq_true rfl) dX1_stored_13 ⟨Nat.le_of_ble_eq_true rfl, Nat.le_of_ble_eq_true rfl⟩ hD hS hA (fun _ _ _ _ _ _ h => False.elim h) (fun v9 H locs hv9 hP hD hS => ?_)
  obtain ⟨_, rfl, rfl⟩ := hv9
  have hP : va_P D vwCl (wM bd cI (nI (tc_bad p0 p1 p2 p3 p4)) it o n g v r (sm_al nx mt fl pr ofs ak hd an) ++ rs) H := hP
  have hD : va_D A (wM bd cI (nI (tc_bad p0 p1 p2 p3 p4)) it o n g v r (sm_al nx mt fl pr ofs ak hd an) ++ rs) := hD
  refine W.eq (g2 := F0 m 16 ls [.int (sq_z (decide (¬ tc_bad p0 p1 p2 p3 p4 = 0)))]) rfl ?_
  refine lv_if_ne (tgt := 32) hx hb dX1_stored_16 (by decide) (fun c_1 => ?_) (fun c_1 => ?_)
  · -- 16 -> 32
    have hb_2 : ¬ tc_bad p0 p1 p2 p3 p4 = 0 := of_decide_eq_true (sq_z_t c_1)
    refine lv_iconst (v := 0) hx hb dX1_stored_32 (by decide) ?_
    have hTC : tc_stored p0 p1 p2 p3 p4 p5 = tc_bad p0 p1 p2 p3 p4 := sm_tcs1 _ _ _ _ _ _ hb_2
    exact kz_wretz hx hb hr hlocks (by rw [hTC]; simp only [if_neg hb_2]; exact hP) (by rw [hTC]; simp only [if_neg hb_2]; exact hD) hS (Nat.le_of_ble_eq_true rfl) (Nat.le_of_ble_eq_true rfl) (by rw [hTC, if_neg hb_2]) rfl dX1_stored_33
  · -- 16 -> 19
    have hb_3 : tc_bad p0 p1 p2 p3 p4 = 0 := Decidable.not_not.mp (of_decide_eq_false (sq_z_f c_1))
    rw [hb_3] at hP hD
    have hP : va_P D vwCl (wM bd cI 0 it o n g v r (sm_al nx mt fl pr ofs ak hd an) ++ rs) H := hP
    have hD : va_D A (wM bd cI 0 it o n g v r (sm_al nx mt fl pr ofs ak hd an) ++ rs) := hD
    have hsv : sq_V p0 = true := sm_badV hb_3
    obtain ⟨hsA, hsE⟩ := sm_srv hsv
    refine lv_aload_n hx hb dX1_stored_19 rfl (lv_at hl 0 rfl) ?_
    refine lv_iload_n hx hb dX1_stored_20 rfl (lv_at hl 1 rfl) ?_
    refine lv_iload hx hb dX1_stored_21 (lv_at hl 6 rfl) ?_
    refine lv_iconst (v := 0) hx hb dX1_stored_23 (by decide) ?_
    refine lv_iconst (v := 0) hx hb dX1_stored_24 (by decide) ?_
    refine lv_iconst (v := 0) hx hb dX1_stored_25 (by decide) ?_
    refine kz_wV (As := [.int p0, .int p5, .int 0, .int 0, .int 0]) (rest := []) ⟨hx, hb, hml, hown, hw9⟩ (c_X1_bad l hl9 D cI ty bd rs H.size 0 it o n g v r (sm_al nx mt fl pr ofs ak hd an) p0 p5 0 0 0 rfl) (kz_cV 5 hw9 mw_462 mw_464 ms_16 mw_2 mw_465 rfl rfl (by decide +kernel) ⟨Nat.le_of_ble_eq_true rfl, Nat.le_of_ble_eq_true rfl⟩) (kz_preV (q0 := 0) (ci := 1) hK hP hD hS hA hE rfl rfl) rfl hl.1 rfl (Nat.le_of_ble_eq_true rfl) dX1_stored_26 ⟨Nat.le_of_ble_eq_true rfl, Nat.le_of_ble_eq_true rfl⟩ hD hS hA (fun _ _ _ _ _ _ h => False.elim h) (fun v9 H locs hv9 hP hD hS => ?_)
    obtain ⟨_, rfl, rfl⟩ := hv9
    have hP : va_P D vwCl (wM bd cI (nI (tc_bad p0 p5 0 0 0)) it o n g v r (sm_al nx mt fl pr ofs ak hd an) ++ rs) H := hP
    have hD : va_D A (wM bd cI (nI (tc_bad p0 p5 0 0 0)) it o n g v r (sm_al nx mt fl pr ofs ak hd an) ++ rs) := hD
    refine W.eq (g2 := F0 m 29 ls [.int (sq_z (decide (¬ tc_bad p0 p5 0 0 0 = 0)))]) rfl ?_
    refine lv_if_eq (tgt := 34) hx hb dX1_stored_29 (by decide) (fun c_4 => ?_) (fun c_4 => ?_)
    · -- 29 -> 34
      have hb_5 : tc_bad p0 p5 0 0 0 = 0 := Decidable.not_not.mp (of_decide_eq_false (sq_z_f c_4))
      rw [hb_5] at hP hD
      have hP : va_P D vwCl (wM bd cI 0 it o n g v r (sm_al nx mt fl pr ofs ak hd an) ++ rs) H := hP
      have hD : va_D A (wM bd cI 0 it o n g v r (sm_al nx mt fl pr ofs ak hd an) ++ rs) := hD
      refine lv_aload_n hx hb dX1_stored_34 rfl (lv_at hl 0 rfl) ?_
      refine lv_iload_n hx hb dX1_stored_35 rfl (lv_at hl 1 rfl) ?_
      refine lv_iload hx hb dX1_stored_36 (lv_at hl 5 rfl) ?_
      refine lv_iload hx hb dX1_stored_38 (lv_at hl 6 rfl) ?_
      refine kz_wV (As := [.int p0, .int p4, .int p5]) (rest := []) ⟨hx, hb, hml, hown, hw9⟩ (c_X1_answered l hl9 D cI ty bd rs H.size 0 it o n g v r nx mt fl pr ofs ak hd an p0 p4 p5 hsv) (kz_cV 3 hw9 mw_466 mw_468 ms_17 mw_2 mw_469 rfl rfl (by decide +kernel) ⟨Nat.le_of_ble_eq_true rfl, Nat.le_of_ble_eq_true rfl⟩) (kz_preV (q0 := 0) (ci := 1) hK hP hD hS hA hE rfl rfl) rfl hl.1 rfl (Nat.le_of_ble_eq_true rfl) dX1_stored_40 ⟨Nat.le_of_ble_eq_true rfl, Nat.le_of_ble_eq_true rfl⟩ hD hS hA (fun _ _ _ _ _ _ h => False.elim h) (fun v9 H locs hv9 hP hD hS => ?_)
      obtain ⟨rfl, -⟩ := hv9
      have hP : va_P D vwCl (wM bd cI 0 it o n g v r (sm_al nx mt fl pr ofs (upd ak p0.toNatClampNeg (sq_max (ak p0.toNatClampNeg) p4)) (upd hd p0.toNatClampNeg p5) (upd an p0.toNatClampNeg 1)) ++ rs) H := hP
      have hD : va_D A (wM bd cI 0 it o n g v r (sm_al nx mt fl pr ofs (upd ak p0.toNatClampNeg (sq_max (ak p0.toNatClampNeg) p4)) (upd hd p0.toNatClampNeg p5) (upd an p0.toNatClampNeg 1)) ++ rs) := hD
      refine W.eq (g2 := F0 m 43 ls []) rfl ?_
      refine lv_aload_n hx hb dX1_stored_43 rfl (lv_at hl 0 rfl) ?_
      refine lv_iload_n hx hb dX1_stored_44 rfl (lv_at hl 1 rfl) ?_
      refine lv_iconst (v := 2) hx hb dX1_stored_45 (by decide) ?_
      refine lv_iconst (v := 0) hx hb dX1_stored_46 (by decide) ?_
      refine kz_wV (As := [.int p0, .int 2, .int 0]) (rest := []) ⟨hx, hb, hml, hown, hw9⟩ (c_X1_put l hl9 D cI ty bd rs H.size 0 it o n g v r (sm_al nx mt fl pr ofs (upd ak p0.toNatClampNeg (sq_max (ak p0.toNatClampNeg) p4)) (upd hd p0.toNatClampNeg p5) (upd an p0.toNatClampNeg 1)) p0.toNatClampNeg 2 p0 2 0 hsA (by decide) hsE rfl) (kz_cV 3 hw9 mw_442 mw_444 ms_14 mw_2 mw_445 rfl rfl (by decide +kernel) ⟨Nat.le_of_ble_eq_true rfl, Nat.le_of_ble_eq_true rfl⟩) (kz_preV (q0 := 0) (ci := 1) hK hP hD hS hA hE rfl rfl) rfl hl.1 rfl (Nat.le_of_ble_eq_true rfl) dX1_stored_47 ⟨Nat.le_of_ble_eq_true rfl, Nat.le_of_ble_eq_true rfl⟩ hD hS hA (fun _ _ _ _ _ _ h => False.elim h) (fun v9 H locs hv9 hP hD hS => ?_)
      obtain ⟨rfl, -⟩ := hv9
      rw [sm_p2] at hP hD
      have hP : va_P D vwCl (wM bd cI 0 it o n g v r (sm_al nx mt (upd fl p0.toNatClampNeg 0) pr ofs (upd ak p0.toNatClampNeg (sq_max (ak p0.toNatClampNeg) p4)) (upd hd p0.toNatClampNeg p5) (upd an p0.toNatClampNeg 1)) ++ rs) H := hP
      have hD : va_D A (wM bd cI 0 it o n g v r (sm_al nx mt (upd fl p0.toNatClampNeg 0) pr ofs (upd ak p0.toNatClampNeg (sq_max (ak p0.toNatClampNeg) p4)) (upd hd p0.toNatClampNeg p5) (upd an p0.toNatClampNeg 1)) ++ rs) := hD
      refine W.eq (g2 := F0 m 50 ls []) rfl ?_
      refine lv_iload_n hx hb dX1_stored_50 rfl (lv_at hl 2 rfl) ?_
      refine lv_iload_n hx hb dX1_stored_51 rfl (lv_at hl 3 rfl) ?_
      refine lv_icmp_ge (tgt := 64) hx hb dX1_stored_52 (by decide) (fun c_6 => ?_) (fun c_6 => ?_)
      · -- 52 -> 64
        refine lv_aload_n hx hb dX1_stored_64 rfl (lv_at hl 0 rfl) ?_
        refine lv_iload_n hx hb dX1_stored_65 rfl (lv_at hl 1 rfl) ?_
        refine lv_iconst (v := 1) hx hb dX1_stored_66 (by decide) ?_
        refine lv_aload_n hx hb dX1_stored_67 rfl (lv_at hl 0 rfl) ?_
        refine lv_iload_n hx hb dX1_stored_68 rfl (lv_at hl 1 rfl) ?_
        refine lv_iconst (v := 1) hx hb dX1_stored_69 (by decide) ?_
        refine kz_rV (As := [.int p0, .int 1]) (rest := [.int 1, .int p0, .ref (bd 0)]) ⟨hx, hb, hml, hown, hw9⟩ (c_X1_get l hl9 D cI ty bd rs H.size 0 it o n g v r (sm_al nx mt (upd fl p0.toNatClampNeg 0) pr ofs (upd ak p0.toNatClampNeg (sq_max (ak p0.toNatClampNeg) p4)) (upd hd p0.toNatClampNeg p5) (upd an p0.toNatClampNeg 1)) p0.toNatClampNeg 1 p0 1 hsA (by decide) hsE rfl) (kz_cV 2 hw9 mw_403 mw_405 ms_11 mw_2 mw_406 rfl rfl (by decide +kernel) ⟨Nat.le_of_ble_eq_true rfl, Nat.le_of_ble_eq_true rfl⟩) (kz_preV (q0 := 0) (ci := 1) hK hP hD hS hA hE rfl rfl) rfl hl.1 rfl (Nat.le_of_ble_eq_true rfl) dX1_stored_70 ⟨Nat.le_of_ble_eq_true rfl, Nat.le_of_ble_eq_true rfl⟩ (fun _ _ _ _ h => False.elim h) (fun v9 H hv9 hO1 => ?_)
        obtain ⟨_, rfl, rfl⟩ := hv9
        have hP := hO1.P hP
        have hS := hO1.S hS
        rw [sm_g1]
        refine W.eq (g2 := F0 m 73 ls [.int (mt p0.toNatClampNeg), .int 1, .int p0, .ref (bd 0)]) rfl ?_
        refine lv_iload hx hb dX1_stored_73 (lv_at hl 4 rfl) ?_
        refine kz_rS (As := [.int (mt p0.toNatClampNeg), .int p3]) (rest := [.int 1, .int p0, .ref (bd 0)]) ⟨hx, hb, hml, hown, hw9⟩ (c_X1_greater l hl9 D ((cI, .int) :: ty) (wM bd cI 0 it o n g v r (sm_al nx mt (upd fl p0.toNatClampNeg 0) pr ofs (upd ak p0.toNatClampNeg (sq_max (ak p0.toNatClampNeg) p4)) (upd hd p0.toNatClampNeg p5) (upd an p0.toNatClampNeg 1)) ++ rs) H.size (mt p0.toNatClampNeg) p3) (kz_cS 2 hw9 mw_470 mw_471 mw_2 mw_472 rfl rfl (by decide +kernel) ⟨Nat.le_of_ble_eq_true rfl, Nat.le_of_ble_eq_true rfl⟩) (kz_preS hK hP hD hS hA hE) rfl hl.1 rfl (Nat.le_of_ble_eq_true rfl) dX1_stored_75 ⟨Nat.le_of_ble_eq_true rfl, Nat.le_of_ble_eq_true rfl⟩ (fun _ _ _ _ h => False.elim h) (fun v9 H hv9 hO1 => ?_)
        obtain ⟨_, rfl, rfl⟩ := hv9
        have hP := hO1.P hP
        have hS := hO1.S hS
        refine W.eq (g2 := F0 m 78 ls [.int (sq_max (mt p0.toNatClampNeg) p3), .int 1, .int p0, .ref (bd 0)]) rfl ?_
        refine kz_wV (As := [.int p0, .int 1, .int (sq_max (mt p0.toNatClampNeg) p3)]) (rest := []) ⟨hx, hb, hml, hown, hw9⟩ (c_X1_put l hl9 D cI ty bd rs H.size 0 it o n g v r (sm_al nx mt (upd fl p0.toNatClampNeg 0) pr ofs (upd ak p0.toNatClampNeg (sq_max (ak p0.toNatClampNeg) p4)) (upd hd p0.toNatClampNeg p5) (upd an p0.toNatClampNeg 1)) p0.toNatClampNeg 1 p0 1 (sq_max (mt p0.toNatClampNeg) p3) hsA (by decide) hsE rfl) (kz_cV 3 hw9 mw_442 mw_444 ms_14 mw_2 mw_445 rfl rfl (by decide +kernel) ⟨Nat.le_of_ble_eq_true rfl, Nat.le_of_ble_eq_true rfl⟩) (kz_preV (q0 := 0) (ci := 1) hK hP hD hS hA hE rfl rfl) rfl hl.1 rfl (Nat.le_of_ble_eq_true rfl) dX1_stored_78 ⟨Nat.le_of_ble_eq_true rfl, Nat.le_of_ble_eq_true rfl⟩ hD hS hA (fun _ _ _ _ _ _ h => False.elim h) (fun v9 H locs hv9 hP hD hS => ?_)
        obtain ⟨rfl, -⟩ := hv9
        rw [sm_p1] at hP hD
        have hP : va_P D vwCl (wM bd cI 0 it o n g v r (sm_al nx (upd mt p0.toNatClampNeg (sq_max (mt p0.toNatClampNeg) p3)) (upd fl p0.toNatClampNeg 0) pr ofs (upd ak p0.toNatClampNeg (sq_max (ak p0.toNatClampNeg) p4)) (upd hd p0.toNatClampNeg p5) (upd an p0.toNatClampNeg 1)) ++ rs) H := hP
        have hD : va_D A (wM bd cI 0 it o n g v r (sm_al nx (upd mt p0.toNatClampNeg (sq_max (mt p0.toNatClampNeg) p3)) (upd fl p0.toNatClampNeg 0) pr ofs (upd ak p0.toNatClampNeg (sq_max (ak p0.toNatClampNeg) p4)) (upd hd p0.toNatClampNeg p5) (upd an p0.toNatClampNeg 1)) ++ rs) := hD
        refine W.eq (g2 := F0 m 81 ls []) rfl ?_
        refine lv_aload_n hx hb dX1_stored_81 rfl (lv_at hl 0 rfl) ?_
        refine lv_iload_n hx hb dX1_stored_82 rfl (lv_at hl 1 rfl) ?_
        refine lv_iconst (v := 0) hx hb dX1_stored_83 (by decide) ?_
        refine lv_iload hx hb dX1_stored_84 (lv_at hl 4 rfl) ?_
        refine lv_iconst (v := 1) hx hb dX1_stored_86 (by decide) ?_
        refine lv_iadd hx hb dX1_stored_87 ?_
        refine kz_wV (As := [.int p0, .int 0, .int (p3 + 1)]) (rest := []) ⟨hx, hb, hml, hown, hw9⟩ (c_X1_put l hl9 D cI ty bd rs H.size 0 it o n g v r (sm_al nx (upd mt p0.toNatClampNeg (sq_max (mt p0.toNatClampNeg) p3)) (upd fl p0.toNatClampNeg 0) pr ofs (upd ak p0.toNatClampNeg (sq_max (ak p0.toNatClampNeg) p4)) (upd hd p0.toNatClampNeg p5) (upd an p0.toNatClampNeg 1)) p0.toNatClampNeg 0 p0 0 (p3 + 1) hsA (by decide) hsE rfl) (kz_cV 3 hw9 mw_442 mw_444 ms_14 mw_2 mw_445 rfl rfl (by decide +kernel) ⟨Nat.le_of_ble_eq_true rfl, Nat.le_of_ble_eq_true rfl⟩) (kz_preV (q0 := 0) (ci := 1) hK hP hD hS hA hE rfl rfl) rfl hl.1 rfl (Nat.le_of_ble_eq_true rfl) dX1_stored_88 ⟨Nat.le_of_ble_eq_true rfl, Nat.le_of_ble_eq_true rfl⟩ hD hS hA (fun _ _ _ _ _ _ h => False.elim h) (fun v9 H locs hv9 hP hD hS => ?_)
        obtain ⟨rfl, -⟩ := hv9
        rw [sm_p0] at hP hD
        have hP : va_P D vwCl (wM bd cI 0 it o n g v r (sm_al (upd nx p0.toNatClampNeg (p3 + 1)) (upd mt p0.toNatClampNeg (sq_max (mt p0.toNatClampNeg) p3)) (upd fl p0.toNatClampNeg 0) pr ofs (upd ak p0.toNatClampNeg (sq_max (ak p0.toNatClampNeg) p4)) (upd hd p0.toNatClampNeg p5) (upd an p0.toNatClampNeg 1)) ++ rs) H := hP
        have hD : va_D A (wM bd cI 0 it o n g v r (sm_al (upd nx p0.toNatClampNeg (p3 + 1)) (upd mt p0.toNatClampNeg (sq_max (mt p0.toNatClampNeg) p3)) (upd fl p0.toNatClampNeg 0) pr ofs (upd ak p0.toNatClampNeg (sq_max (ak p0.toNatClampNeg) p4)) (upd hd p0.toNatClampNeg p5) (upd an p0.toNatClampNeg 1)) ++ rs) := hD
        refine W.eq (g2 := F0 m 91 ls []) rfl ?_
        refine lv_aload_n hx hb dX1_stored_91 rfl (lv_at hl 0 rfl) ?_
        refine lv_iload_n hx hb dX1_stored_92 rfl (lv_at hl 1 rfl) ?_
        refine lv_iconst (v := 3) hx hb dX1_stored_93 (by decide) ?_
        refine lv_iconst (v := 1) hx hb dX1_stored_94 (by decide) ?_
        refine kz_wV (As := [.int p0, .int 3, .int 1]) (rest := []) ⟨hx, hb, hml, hown, hw9⟩ (c_X1_put l hl9 D cI ty bd rs H.size 0 it o n g v r (sm_al (upd nx p0.toNatClampNeg (p3 + 1)) (upd mt p0.toNatClampNeg (sq_max (mt p0.toNatClampNeg) p3)) (upd fl p0.toNatClampNeg 0) pr ofs (upd ak p0.toNatClampNeg (sq_max (ak p0.toNatClampNeg) p4)) (upd hd p0.toNatClampNeg p5) (upd an p0.toNatClampNeg 1)) p0.toNatClampNeg 3 p0 3 1 hsA (by decide) hsE rfl) (kz_cV 3 hw9 mw_442 mw_444 ms_14 mw_2 mw_445 rfl rfl (by decide +kernel) ⟨Nat.le_of_ble_eq_true rfl, Nat.le_of_ble_eq_true rfl⟩) (kz_preV (q0 := 0) (ci := 1) hK hP hD hS hA hE rfl rfl) rfl hl.1 rfl (Nat.le_of_ble_eq_true rfl) dX1_stored_95 ⟨Nat.le_of_ble_eq_true rfl, Nat.le_of_ble_eq_true rfl⟩ hD hS hA (fun _ _ _ _ _ _ h => False.elim h) (fun v9 H locs hv9 hP hD hS => ?_)
        obtain ⟨rfl, -⟩ := hv9
        rw [sm_p3] at hP hD
        have hP : va_P D vwCl (wM bd cI 0 it o n g v r (sm_al (upd nx p0.toNatClampNeg (p3 + 1)) (upd mt p0.toNatClampNeg (sq_max (mt p0.toNatClampNeg) p3)) (upd fl p0.toNatClampNeg 0) (upd pr p0.toNatClampNeg 1) ofs (upd ak p0.toNatClampNeg (sq_max (ak p0.toNatClampNeg) p4)) (upd hd p0.toNatClampNeg p5) (upd an p0.toNatClampNeg 1)) ++ rs) H := hP
        have hD : va_D A (wM bd cI 0 it o n g v r (sm_al (upd nx p0.toNatClampNeg (p3 + 1)) (upd mt p0.toNatClampNeg (sq_max (mt p0.toNatClampNeg) p3)) (upd fl p0.toNatClampNeg 0) (upd pr p0.toNatClampNeg 1) ofs (upd ak p0.toNatClampNeg (sq_max (ak p0.toNatClampNeg) p4)) (upd hd p0.toNatClampNeg p5) (upd an p0.toNatClampNeg 1)) ++ rs) := hD
        refine W.eq (g2 := F0 m 98 ls []) rfl ?_
        refine lv_aload_n hx hb dX1_stored_98 rfl (lv_at hl 0 rfl) ?_
        refine lv_iload_n hx hb dX1_stored_99 rfl (lv_at hl 1 rfl) ?_
        refine lv_iconst (v := 4) hx hb dX1_stored_100 (by decide) ?_
        refine lv_iconst (v := 0) hx hb dX1_stored_101 (by decide) ?_
        refine kz_wV (As := [.int p0, .int 4, .int 0]) (rest := []) ⟨hx, hb, hml, hown, hw9⟩ (c_X1_put l hl9 D cI ty bd rs H.size 0 it o n g v r (sm_al (upd nx p0.toNatClampNeg (p3 + 1)) (upd mt p0.toNatClampNeg (sq_max (mt p0.toNatClampNeg) p3)) (upd fl p0.toNatClampNeg 0) (upd pr p0.toNatClampNeg 1) ofs (upd ak p0.toNatClampNeg (sq_max (ak p0.toNatClampNeg) p4)) (upd hd p0.toNatClampNeg p5) (upd an p0.toNatClampNeg 1)) p0.toNatClampNeg 4 p0 4 0 hsA (by decide) hsE rfl) (kz_cV 3 hw9 mw_442 mw_444 ms_14 mw_2 mw_445 rfl rfl (by decide +kernel) ⟨Nat.le_of_ble_eq_true rfl, Nat.le_of_ble_eq_true rfl⟩) (kz_preV (q0 := 0) (ci := 1) hK hP hD hS hA hE rfl rfl) rfl hl.1 rfl (Nat.le_of_ble_eq_true rfl) dX1_stored_102 ⟨Nat.le_of_ble_eq_true rfl, Nat.le_of_ble_eq_true rfl⟩ hD hS hA (fun _ _ _ _ _ _ h => False.elim h) (fun v9 H locs hv9 hP hD hS => ?_)
        obtain ⟨rfl, -⟩ := hv9
        rw [sm_p4] at hP hD
        have hP : va_P D vwCl (wM bd cI 0 it o n g v r (sm_al (upd nx p0.toNatClampNeg (p3 + 1)) (upd mt p0.toNatClampNeg (sq_max (mt p0.toNatClampNeg) p3)) (upd fl p0.toNatClampNeg 0) (upd pr p0.toNatClampNeg 1) (upd ofs p0.toNatClampNeg 0) (upd ak p0.toNatClampNeg (sq_max (ak p0.toNatClampNeg) p4)) (upd hd p0.toNatClampNeg p5) (upd an p0.toNatClampNeg 1)) ++ rs) H := hP
        have hD : va_D A (wM bd cI 0 it o n g v r (sm_al (upd nx p0.toNatClampNeg (p3 + 1)) (upd mt p0.toNatClampNeg (sq_max (mt p0.toNatClampNeg) p3)) (upd fl p0.toNatClampNeg 0) (upd pr p0.toNatClampNeg 1) (upd ofs p0.toNatClampNeg 0) (upd ak p0.toNatClampNeg (sq_max (ak p0.toNatClampNeg) p4)) (upd hd p0.toNatClampNeg p5) (upd an p0.toNatClampNeg 1)) ++ rs) := hD
        refine W.eq (g2 := F0 m 105 ls []) rfl ?_
        refine lv_iconst (v := 1) hx hb dX1_stored_105 (by decide) ?_
        have htc : tc_stored p0 p1 p2 p3 p4 p5 = 0 := sm_tcs0 hb_3 hb_5
        have e_ofs : (if p1 < p2 then upd ofs p0.toNatClampNeg p1 else upd ofs p0.toNatClampNeg 0) = upd ofs p0.toNatClampNeg 0 := if_neg (Int32.not_lt.mpr c_6)
        have e_mt : (if p1 < p2 then mt else upd mt p0.toNatClampNeg (sq_max (mt p0.toNatClampNeg) p3)) = upd mt p0.toNatClampNeg (sq_max (mt p0.toNatClampNeg) p3) := if_neg (Int32.not_lt.mpr c_6)
        have e_nx : (if p1 < p2 then nx else upd nx p0.toNatClampNeg (p3 + 1)) = upd nx p0.toNatClampNeg (p3 + 1) := if_neg (Int32.not_lt.mpr c_6)
        have e_pr : (if p1 < p2 then pr else upd pr p0.toNatClampNeg 1) = upd pr p0.toNatClampNeg 1 := if_neg (Int32.not_lt.mpr c_6)
        exact kz_wretz hx hb hr hlocks (by simp only [htc, if_true, e_ofs, e_mt, e_nx, e_pr]; exact hP) (by simp only [htc, if_true, e_ofs, e_mt, e_nx, e_pr]; exact hD) hS (Nat.le_of_ble_eq_true rfl) (Nat.le_of_ble_eq_true rfl) (by rw [htc]; exact (show 1 = (sq_z (decide (¬ p1 < p2))) from by first | (simp [sq_z, c_6, (Int32.not_lt.mpr c_6)]; done) | (simp only [sq_z, c_6, (Int32.not_lt.mpr c_6), eq_self, not_true_eq_false, not_false_eq_true, and_self, and_true, true_and, and_false, false_and, or_true, true_or, or_false, false_or, if_true, if_false, ite_true, ite_false, Bool.and_eq_true, decide_true, decide_false, decide_eq_true_eq, ne_eq, Nat.reduceEqDiff, Nat.one_ne_zero, Bool.false_eq_true, reduceCtorEq]; done) | (simp only [sq_z, c_6, (Int32.not_lt.mpr c_6), eq_self, not_true_eq_false, not_false_eq_true, and_self, and_true, true_and, and_false, false_and, or_true, true_or, or_false, false_or, if_true, if_false, ite_true, ite_false, Bool.and_eq_true, decide_true, decide_false, decide_eq_true_eq, ne_eq, Nat.reduceEqDiff, Nat.one_ne_zero, Bool.false_eq_true, reduceCtorEq]; decide))) rfl dX1_stored_106
      · -- 52 -> 55
        refine lv_aload_n hx hb dX1_stored_55 rfl (lv_at hl 0 rfl) ?_
        refine lv_iload_n hx hb dX1_stored_56 rfl (lv_at hl 1 rfl) ?_
        refine lv_iconst (v := 4) hx hb dX1_stored_57 (by decide) ?_
        refine lv_iload_n hx hb dX1_stored_58 rfl (lv_at hl 2 rfl) ?_
        refine kz_wV (As := [.int p0, .int 4, .int p1]) (rest := []) ⟨hx, hb, hml, hown, hw9⟩ (c_X1_put l hl9 D cI ty bd rs H.size 0 it o n g v r (sm_al nx mt (upd fl p0.toNatClampNeg 0) pr ofs (upd ak p0.toNatClampNeg (sq_max (ak p0.toNatClampNeg) p4)) (upd hd p0.toNatClampNeg p5) (upd an p0.toNatClampNeg 1)) p0.toNatClampNeg 4 p0 4 p1 hsA (by decide) hsE rfl) (kz_cV 3 hw9 mw_442 mw_444 ms_14 mw_2 mw_445 rfl rfl (by decide +kernel) ⟨Nat.le_of_ble_eq_true rfl, Nat.le_of_ble_eq_true rfl⟩) (kz_preV (q0 := 0) (ci := 1) hK hP hD hS hA hE rfl rfl) rfl hl.1 rfl (Nat.le_of_ble_eq_true rfl) dX1_stored_59 ⟨Nat.le_of_ble_eq_true rfl, Nat.le_of_ble_eq_true rfl⟩ hD hS hA (fun _ _ _ _ _ _ h => False.elim h) (fun v9 H locs hv9 hP hD hS => ?_)
        obtain ⟨rfl, -⟩ := hv9
        rw [sm_p4] at hP hD
        have hP : va_P D vwCl (wM bd cI 0 it o n g v r (sm_al nx mt (upd fl p0.toNatClampNeg 0) pr (upd ofs p0.toNatClampNeg p1) (upd ak p0.toNatClampNeg (sq_max (ak p0.toNatClampNeg) p4)) (upd hd p0.toNatClampNeg p5) (upd an p0.toNatClampNeg 1)) ++ rs) H := hP
        have hD : va_D A (wM bd cI 0 it o n g v r (sm_al nx mt (upd fl p0.toNatClampNeg 0) pr (upd ofs p0.toNatClampNeg p1) (upd ak p0.toNatClampNeg (sq_max (ak p0.toNatClampNeg) p4)) (upd hd p0.toNatClampNeg p5) (upd an p0.toNatClampNeg 1)) ++ rs) := hD
        refine W.eq (g2 := F0 m 62 ls []) rfl ?_
        refine lv_iconst (v := 0) hx hb dX1_stored_62 (by decide) ?_
        have htc : tc_stored p0 p1 p2 p3 p4 p5 = 0 := sm_tcs0 hb_3 hb_5
        have e_ofs : (if p1 < p2 then upd ofs p0.toNatClampNeg p1 else upd ofs p0.toNatClampNeg 0) = upd ofs p0.toNatClampNeg p1 := if_pos (Int32.not_le.mp c_6)
        have e_mt : (if p1 < p2 then mt else upd mt p0.toNatClampNeg (sq_max (mt p0.toNatClampNeg) p3)) = mt := if_pos (Int32.not_le.mp c_6)
        have e_nx : (if p1 < p2 then nx else upd nx p0.toNatClampNeg (p3 + 1)) = nx := if_pos (Int32.not_le.mp c_6)
        have e_pr : (if p1 < p2 then pr else upd pr p0.toNatClampNeg 1) = pr := if_pos (Int32.not_le.mp c_6)
        exact kz_wretz hx hb hr hlocks (by simp only [htc, if_true, e_ofs, e_mt, e_nx, e_pr]; exact hP) (by simp only [htc, if_true, e_ofs, e_mt, e_nx, e_pr]; exact hD) hS (Nat.le_of_ble_eq_true rfl) (Nat.le_of_ble_eq_true rfl) (by rw [htc]; exact (show 0 = (sq_z (decide (¬ p1 < p2))) from by first | (simp [sq_z, c_6, (Int32.not_le.mp c_6)]; done) | (simp only [sq_z, c_6, (Int32.not_le.mp c_6), eq_self, not_true_eq_false, not_false_eq_true, and_self, and_true, true_and, and_false, false_and, or_true, true_or, or_false, false_or, if_true, if_false, ite_true, ite_false, Bool.and_eq_true, decide_true, decide_false, decide_eq_true_eq, ne_eq, Nat.reduceEqDiff, Nat.one_ne_zero, Bool.false_eq_true, reduceCtorEq]; done) | (simp only [sq_z, c_6, (Int32.not_le.mp c_6), eq_self, not_true_eq_false, not_false_eq_true, and_self, and_true, true_and, and_false, false_and, or_true, true_or, or_false, false_or, if_true, if_false, ite_true, ite_false, Bool.and_eq_true, decide_true, decide_false, decide_eq_true_eq, ne_eq, Nat.reduceEqDiff, Nat.one_ne_zero, Bool.false_eq_true, reduceCtorEq]; decide))) rfl dX1_stored_63
    · -- 29 -> 32
      have hb_7 : ¬ tc_bad p0 p5 0 0 0 = 0 := of_decide_eq_true (sq_z_t c_4)
      refine lv_iconst (v := 0) hx hb dX1_stored_32 (by decide) ?_
      have hTC : tc_stored p0 p1 p2 p3 p4 p5 = tc_bad p0 p5 0 0 0 := sm_tcs2 hb_3 hb_7
      exact kz_wretz hx hb hr hlocks (by rw [hTC]; simp only [if_neg hb_7]; exact hP) (by rw [hTC]; simp only [if_neg hb_7]; exact hD) hS (Nat.le_of_ble_eq_true rfl) (Nat.le_of_ble_eq_true rfl) (by rw [hTC, if_neg hb_7]) rfl dX1_stored_33
set_option maxHeartbeats 4000000 in
set_option maxRecDepth 100000 in
theorem c_X1_server (l : Launch) (hl9 : l.stackTraces = false) (D : va_G) (cI : ClassId) (ty : kz_Y) (bd : Nat → Nat) (rs : va_W) (sz : Nat) (th it o n g v r : Int32) (nx mt fl pr ofs ak hd an : Nat → Int32) (p0 : Int32) (p1 : Int32) (hpa : ∀ j, j < 7 → (pr j = 0 ∨ pr j = 1) ∧ (an j = 0 ∨ an j = 1)) : ez_M l yX1_server wsX1_server ({ frames := 1, cells := 1, slots := 6, locals := 22 } : Room) (kz_P D ((cI, .int) :: ty) (wM bd cI th it o n g v r (sm_al nx mt fl pr ofs ak hd an) ++ rs) sz [.ref (bd 0), .int p0, .int p1]) (kz_Wr D (va_A (wM bd cI th it o n g v r (sm_al nx mt fl pr ofs ak hd an) ++ rs) sz) (kz_i (fun r9 => r9 = (if tc_get p0 p1 = 0 then (if p1 = 0 then nx p0.toNatClampNeg else if p1 = 1 then mt p0.toNatClampNeg else if p1 = 2 then fl p0.toNatClampNeg else if p1 = 3 then (if pr p0.toNatClampNeg = 0 then 0 else 1) else if p1 = 4 then ofs p0.toNatClampNeg else if p1 = 5 then ak p0.toNatClampNeg else if p1 = 6 then hd p0.toNatClampNeg else (if an p0.toNatClampNeg = 0 then 0 else 1)) else 0))) (wM bd cI (nI (tc_get p0 p1)) it o n g v r (sm_al nx mt fl pr ofs ak hd an) ++ rs)) (kz_T (fun _ => IAE) (fun _ => False)) 0 0 (va_A (wM bd cI th it o n g v r (sm_al nx mt fl pr ofs ak hd an) ++ rs) sz) := by
  refine ez_ofW (cc := cX1_server) (maxL := 3) (ret := (some .int)) (by decide) rfl ?_
  intro p e s m args below meth c s₁ B hml hTab hv
  obtain ⟨rfl, hsz, hP, hK, hD0, hE⟩ := hv
  have hx := B.exec
  have hb := B.bytes
  have hr := B.returns
  have hw9 : ∀ w ∈ kz_W9, w.before ([.ref (bd 0), .int p0, .int p1] : List Value).toArray s = true := fun w h => atoms_spec (ws := wsX1_server) B.pre w (List.mem_cons_of_mem _ h)
  have hown : s.vm.findClass RX1 = some m.cls := findClass_of_methodNamed B.named
  have hlocks := B.notSynchronized
  subst hsz
  have hD := hD0.self (sz := s.heap.size)
  generalize hAe : va_A (wM bd cI th it o n g v r (sm_al nx mt fl pr ofs ak hd an) ++ rs) s.heap.size = A at hD hE ⊢
  have hA : ∀ q : Nat, s.heap.size ≤ q → A q := fun q h => by rw [← hAe]; exact Or.inr h
  have hS : va_S A s.heap s.heap [] := va_S.rf
  have hO : kz_O s.heap s.heap := kz_O.rf _
  have hl := lv_entry ([.ref (bd 0), .int p0, .int p1]) (n := 3) (Nat.le_of_ble_eq_true rfl)
  rw [lg_entry_eq]
  generalize (lg_sl ([.ref (bd 0), .int p0, .int p1]) ++ List.replicate (3 - (lg_sl ([.ref (bd 0), .int p0, .int p1])).length) Slot.unset).toArray = ls at hl ⊢
  have hl : lv_has ls 3 [(0, .ref (bd 0)), (1, .int p0), (2, .int p1)] := hl
  refine lv_aload_n hx hb dX1_server_0 rfl (lv_at hl 0 rfl) ?_
  refine lv_iconst (v := 0) hx hb dX1_server_1 (by decide) ?_
  refine va_put (D := D) (ci := 1) (v := .int 0) (ty := .int) (C := RX1) (T := TX1) (N := 8) hx hb hw9 uX1 tyX1 tyX1_ok nmX1 hown hK hP hD hS 0 rfl rfl 0 (by decide) (hw9 _ mw_360) (fun _ h9 => h9) rfl (by decide +kernel) rfl rfl (Nat.le_of_ble_eq_true rfl) dX1_server_2 (fun H locs hP hD hS => ?_)
  have hP : va_P D vwCl (wM bd cI 0 it o n g v r (sm_al nx mt fl pr ofs ak hd an) ++ rs) H := hP
  have hD : va_D A (wM bd cI 0 it o n g v r (sm_al nx mt fl pr ofs ak hd an) ++ rs) := hD
  refine lv_bipush (v := 127) hx hb dX1_server_5 (by decide) ?_
  refine lv_iload_n hx hb dX1_server_7 rfl (lv_at hl 1 rfl) ?_
  refine kz_rS (As := [.int 127, .int p0]) (rest := []) ⟨hx, hb, hml, hown, hw9⟩ (c_X1_has l hl9 D ((cI, .int) :: ty) (wM bd cI 0 it o n g v r (sm_al nx mt fl pr ofs ak hd an) ++ rs) H.size 127 p0) (kz_cS 2 hw9 mw_400 mw_401 mw_2 mw_402 rfl rfl (by decide +kernel) ⟨Nat.le_of_ble_eq_true rfl, Nat.le_of_ble_eq_true rfl⟩) (kz_preS hK hP hD hS hA hE) rfl hl.1 rfl (Nat.le_of_ble_eq_true rfl) dX1_server_8 ⟨Nat.le_of_ble_eq_true rfl, Nat.le_of_ble_eq_true rfl⟩ (fun _ _ _ _ h => False.elim h) (fun v9 H hv9 hO1 => ?_)
  obtain ⟨_, rfl, rfl⟩ := hv9
  have hP := hO1.P hP
  have hS := hO1.S hS
  refine W.eq (g2 := F0 m 11 ls [.int (sq_z (sm_h 127 p0))]) rfl ?_
  refine lv_if_eq (tgt := 24) hx hb dX1_server_11 (by decide) (fun c_1 => ?_) (fun c_1 => ?_)
  · -- 11 -> 24
    refine lv_aload_n hx hb dX1_server_24 rfl (lv_at hl 0 rfl) ?_
    refine lv_iconst (v := 1) hx hb dX1_server_25 (by decide) ?_
    refine kz_wV (As := [.int 1]) (rest := []) ⟨hx, hb, hml, hown, hw9⟩ (c_X1_fail l hl9 D cI ty bd rs H.size 0 it o n g v r (sm_al nx mt fl pr ofs ak hd an) 1) (kz_cV 1 hw9 mw_411 mw_413 ms_12 mw_2 mw_414 rfl rfl (by decide +kernel) ⟨Nat.le_of_ble_eq_true rfl, Nat.le_of_ble_eq_true rfl⟩) (kz_preV (q0 := 0) (ci := 1) hK hP hD hS hA hE rfl rfl) rfl hl.1 rfl (Nat.le_of_ble_eq_true rfl) dX1_server_26 ⟨Nat.le_of_ble_eq_true rfl, Nat.le_of_ble_eq_true rfl⟩ hD hS hA (fun _ _ _ _ _ _ h => False.elim h) (fun v9 H locs hv9 hP hD hS => ?_)
    obtain ⟨_, rfl, rfl⟩ := hv9
    have hP : va_P D vwCl (wM bd cI 1 it o n g v r (sm_al nx mt fl pr ofs ak hd an) ++ rs) H := hP
    have hD : va_D A (wM bd cI 1 it o n g v r (sm_al nx mt fl pr ofs ak hd an) ++ rs) := hD
    refine W.eq (g2 := F0 m 29 ls [.int 0]) rfl ?_
    refine lv_goto (tgt := 38) hx hb dX1_server_29 (by decide) ?_
    have htc : tc_get p0 p1 = 1 := by first | (simp [tc_get, (sq_z_f c_1), ((sm_h127 p0).symm.trans (sq_z_f c_1))]; done) | (simp only [tc_get, (sq_z_f c_1), ((sm_h127 p0).symm.trans (sq_z_f c_1)), eq_self, not_true_eq_false, not_false_eq_true, and_self, and_true, true_and, and_false, false_and, or_true, true_or, or_false, false_or, if_true, if_false, ite_true, ite_false, Bool.and_eq_true, decide_true, decide_false, decide_eq_true_eq, ne_eq, Nat.reduceEqDiff, Nat.one_ne_zero, Bool.false_eq_true, reduceCtorEq]; done) | (simp only [tc_get, (sq_z_f c_1), ((sm_h127 p0).symm.trans (sq_z_f c_1)), eq_self, not_true_eq_false, not_false_eq_true, and_self, and_true, true_and, and_false, false_and, or_true, true_or, or_false, false_or, if_true, if_false, ite_true, ite_false, Bool.and_eq_true, decide_true, decide_false, decide_eq_true_eq, ne_eq, Nat.reduceEqDiff, Nat.one_ne_zero, Bool.false_eq_true, reduceCtorEq]; decide)
    exact kz_wreti hx hb hr hlocks (by rw [htc]; exact hP) (by rw [htc]; exact hD) hS (Nat.le_of_ble_eq_true rfl) (Nat.le_of_ble_eq_true rfl) (by rw [htc]; rfl)  dX1_server_38
  · -- 11 -> 14
    have hsv : sq_V p0 = true := (sm_h127 p0).symm.trans (sq_z_t c_1)
    obtain ⟨hsA, hsE⟩ := sm_srv hsv
    refine lv_iload_n hx hb dX1_server_14 rfl (lv_at hl 2 rfl) ?_
    refine lv_if_lt (tgt := 24) hx hb dX1_server_15 (by decide) (fun c_2 => ?_) (fun c_2 => ?_)
    · -- 15 -> 24
      refine lv_aload_n hx hb dX1_server_24 rfl (lv_at hl 0 rfl) ?_
      refine lv_iconst (v := 1) hx hb dX1_server_25 (by decide) ?_
      refine kz_wV (As := [.int 1]) (rest := []) ⟨hx, hb, hml, hown, hw9⟩ (c_X1_fail l hl9 D cI ty bd rs H.size 0 it o n g v r (sm_al nx mt fl pr ofs ak hd an) 1) (kz_cV 1 hw9 mw_411 mw_413 ms_12 mw_2 mw_414 rfl rfl (by decide +kernel) ⟨Nat.le_of_ble_eq_true rfl, Nat.le_of_ble_eq_true rfl⟩) (kz_preV (q0 := 0) (ci := 1) hK hP hD hS hA hE rfl rfl) rfl hl.1 rfl (Nat.le_of_ble_eq_true rfl) dX1_server_26 ⟨Nat.le_of_ble_eq_true rfl, Nat.le_of_ble_eq_true rfl⟩ hD hS hA (fun _ _ _ _ _ _ h => False.elim h) (fun v9 H locs hv9 hP hD hS => ?_)
      obtain ⟨_, rfl, rfl⟩ := hv9
      have hP : va_P D vwCl (wM bd cI 1 it o n g v r (sm_al nx mt fl pr ofs ak hd an) ++ rs) H := hP
      have hD : va_D A (wM bd cI 1 it o n g v r (sm_al nx mt fl pr ofs ak hd an) ++ rs) := hD
      refine W.eq (g2 := F0 m 29 ls [.int 0]) rfl ?_
      refine lv_goto (tgt := 38) hx hb dX1_server_29 (by decide) ?_
      have htc : tc_get p0 p1 = 1 := sm_tcg1 (Or.inl c_2)
      exact kz_wreti hx hb hr hlocks (by rw [htc]; exact hP) (by rw [htc]; exact hD) hS (Nat.le_of_ble_eq_true rfl) (Nat.le_of_ble_eq_true rfl) (by rw [htc]; rfl)  dX1_server_38
    · -- 15 -> 18
      refine lv_iload_n hx hb dX1_server_18 rfl (lv_at hl 2 rfl) ?_
      refine lv_bipush (v := 7) hx hb dX1_server_19 (by decide) ?_
      refine lv_icmp_le (tgt := 32) hx hb dX1_server_21 (by decide) (fun c_3 => ?_) (fun c_3 => ?_)
      · -- 21 -> 32
        obtain ⟨bw, hbw, hbe⟩ := sm_8w c_2 c_3
        refine lv_aload_n hx hb dX1_server_32 rfl (lv_at hl 0 rfl) ?_
        refine lv_iload_n hx hb dX1_server_33 rfl (lv_at hl 1 rfl) ?_
        refine lv_iload_n hx hb dX1_server_34 rfl (lv_at hl 2 rfl) ?_
        refine kz_rV (As := [.int p0, .int p1]) (rest := []) ⟨hx, hb, hml, hown, hw9⟩ (c_X1_get l hl9 D cI ty bd rs H.size 0 it o n g v r (sm_al nx mt fl pr ofs ak hd an) p0.toNatClampNeg bw p0 p1 hsA hbw hsE hbe) (kz_cV 2 hw9 mw_403 mw_405 ms_11 mw_2 mw_406 rfl rfl (by decide +kernel) ⟨Nat.le_of_ble_eq_true rfl, Nat.le_of_ble_eq_true rfl⟩) (kz_preV (q0 := 0) (ci := 1) hK hP hD hS hA hE rfl rfl) rfl hl.1 rfl (Nat.le_of_ble_eq_true rfl) dX1_server_35 ⟨Nat.le_of_ble_eq_true rfl, Nat.le_of_ble_eq_true rfl⟩ (fun _ _ _ _ h => False.elim h) (fun v9 H hv9 hO1 => ?_)
        obtain ⟨_, rfl, rfl⟩ := hv9
        have hP := hO1.P hP
        have hS := hO1.S hS
        refine W.eq (g2 := F0 m 38 ls [.int ((sm_al nx mt fl pr ofs ak hd an) (8 * p0.toNatClampNeg + bw))]) rfl ?_
        have htc : tc_get p0 p1 = 0 := sm_tcg0 hsv hbw hbe
        exact kz_wreti hx hb hr hlocks (by rw [htc]; exact hP) (by rw [htc]; exact hD) hS (Nat.le_of_ble_eq_true rfl) (Nat.le_of_ble_eq_true rfl) (by rw [htc]; exact (show ((sm_al nx mt fl pr ofs ak hd an) (8 * p0.toNatClampNeg + bw)) = (if p1 = 0 then nx p0.toNatClampNeg else if p1 = 1 then mt p0.toNatClampNeg else if p1 = 2 then fl p0.toNatClampNeg else if p1 = 3 then (if pr p0.toNatClampNeg = 0 then 0 else 1) else if p1 = 4 then ofs p0.toNatClampNeg else if p1 = 5 then ak p0.toNatClampNeg else if p1 = 6 then hd p0.toNatClampNeg else (if an p0.toNatClampNeg = 0 then 0 else 1)) from sm_get hbw hbe hpa hsA))  dX1_server_38
      · -- 21 -> 24
        refine lv_aload_n hx hb dX1_server_24 rfl (lv_at hl 0 rfl) ?_
        refine lv_iconst (v := 1) hx hb dX1_server_25 (by decide) ?_
        refine kz_wV (As := [.int 1]) (rest := []) ⟨hx, hb, hml, hown, hw9⟩ (c_X1_fail l hl9 D cI ty bd rs H.size 0 it o n g v r (sm_al nx mt fl pr ofs ak hd an) 1) (kz_cV 1 hw9 mw_411 mw_413 ms_12 mw_2 mw_414 rfl rfl (by decide +kernel) ⟨Nat.le_of_ble_eq_true rfl, Nat.le_of_ble_eq_true rfl⟩) (kz_preV (q0 := 0) (ci := 1) hK hP hD hS hA hE rfl rfl) rfl hl.1 rfl (Nat.le_of_ble_eq_true rfl) dX1_server_26 ⟨Nat.le_of_ble_eq_true rfl, Nat.le_of_ble_eq_true rfl⟩ hD hS hA (fun _ _ _ _ _ _ h => False.elim h) (fun v9 H locs hv9 hP hD hS => ?_)
        obtain ⟨_, rfl, rfl⟩ := hv9
        have hP : va_P D vwCl (wM bd cI 1 it o n g v r (sm_al nx mt fl pr ofs ak hd an) ++ rs) H := hP
        have hD : va_D A (wM bd cI 1 it o n g v r (sm_al nx mt fl pr ofs ak hd an) ++ rs) := hD
        refine W.eq (g2 := F0 m 29 ls [.int 0]) rfl ?_
        refine lv_goto (tgt := 38) hx hb dX1_server_29 (by decide) ?_
        have htc : tc_get p0 p1 = 1 := sm_tcg1 (Or.inr c_3)
        exact kz_wreti hx hb hr hlocks (by rw [htc]; exact hP) (by rw [htc]; exact hD) hS (Nat.le_of_ble_eq_true rfl) (Nat.le_of_ble_eq_true rfl) (by rw [htc]; rfl)  dX1_server_38
set_option maxHeartbeats 4000000 in
set_option maxRecDepth 100000 in
theorem c_X1_council (l : Launch) (hl9 : l.stackTraces = false) (D : va_G) (cI : ClassId) (ty : kz_Y) (bd : Nat → Nat) (rs : va_W) (sz : Nat) (th it o n g v r : Int32) (nx mt fl pr ofs ak hd an : Nat → Int32) (p0 : Int32) (hM : sv_m it o n g v) : ez_M l yX1_council wsX1_council ({ frames := 2, cells := 1, slots := 6, locals := 43 } : Room) (kz_P D ((cI, .int) :: ty) (wM bd cI th it o n g v r (sm_al nx mt fl pr ofs ak hd an) ++ rs) sz [.ref (bd 0), .int p0]) (kz_Wr D (va_A (wM bd cI th it o n g v r (sm_al nx mt fl pr ofs ak hd an) ++ rs) sz) (kz_i (fun r9 => r9 = (if p0 = 0 then o else if p0 = 1 then n else if p0 = 2 then g else if p0 = 3 then (o ||| n) else if p0 = 4 then sq_P it o n g else if p0 = 5 then v else if p0 = 6 then r else if p0 = 7 then it else (-1)))) (wM bd cI 0 it o n g v r (sm_al nx mt fl pr ofs ak hd an) ++ rs)) (kz_T (fun _ => IAE) (fun _ => False)) 0 0 (va_A (wM bd cI th it o n g v r (sm_al nx mt fl pr ofs ak hd an) ++ rs) sz) := by
  refine ez_ofW (cc := cX1_council) (maxL := 2) (ret := (some .int)) (by decide) rfl ?_
  intro p e s m args below meth c s₁ B hml hTab hv
  obtain ⟨rfl, hsz, hP, hK, hD0, hE⟩ := hv
  have hx := B.exec
  have hb := B.bytes
  have hr := B.returns
  have hw9 : ∀ w ∈ kz_W9, w.before ([.ref (bd 0), .int p0] : List Value).toArray s = true := fun w h => atoms_spec (ws := wsX1_council) B.pre w (List.mem_cons_of_mem _ h)
  have hown : s.vm.findClass RX1 = some m.cls := findClass_of_methodNamed B.named
  have hlocks := B.notSynchronized
  subst hsz
  have hD := hD0.self (sz := s.heap.size)
  generalize hAe : va_A (wM bd cI th it o n g v r (sm_al nx mt fl pr ofs ak hd an) ++ rs) s.heap.size = A at hD hE ⊢
  have hA : ∀ q : Nat, s.heap.size ≤ q → A q := fun q h => by rw [← hAe]; exact Or.inr h
  have hS : va_S A s.heap s.heap [] := va_S.rf
  have hO : kz_O s.heap s.heap := kz_O.rf _
  have hl := lv_entry ([.ref (bd 0), .int p0]) (n := 2) (Nat.le_of_ble_eq_true rfl)
  rw [lg_entry_eq]
  generalize (lg_sl ([.ref (bd 0), .int p0]) ++ List.replicate (2 - (lg_sl ([.ref (bd 0), .int p0])).length) Slot.unset).toArray = ls at hl ⊢
  have hl : lv_has ls 2 [(0, .ref (bd 0)), (1, .int p0)] := hl
  obtain ⟨hIt, hOo, hNn, hGg, hVv⟩ := id hM
  obtain ⟨xo, ho8, eo⟩ := sm_S hOo
  obtain ⟨xn, hn8, en⟩ := sm_S hNn
  obtain ⟨xg, hg8, eg⟩ := sm_S hGg
  obtain ⟨xv, hv8, ev⟩ := sm_S hVv
  obtain ⟨hIa, hIe⟩ := sm_srv hIt
  refine lv_aload_n hx hb dX1_council_0 rfl (lv_at hl 0 rfl) ?_
  refine lv_iconst (v := 0) hx hb dX1_council_1 (by decide) ?_
  refine va_put (D := D) (ci := 1) (v := .int 0) (ty := .int) (C := RX1) (T := TX1) (N := 8) hx hb hw9 uX1 tyX1 tyX1_ok nmX1 hown hK hP hD hS 0 rfl rfl 0 (by decide) (hw9 _ mw_360) (fun _ h9 => h9) rfl (by decide +kernel) rfl rfl (Nat.le_of_ble_eq_true rfl) dX1_council_2 (fun H locs hP hD hS => ?_)
  have hP : va_P D vwCl (wM bd cI 0 it o n g v r (sm_al nx mt fl pr ofs ak hd an) ++ rs) H := hP
  have hD : va_D A (wM bd cI 0 it o n g v r (sm_al nx mt fl pr ofs ak hd an) ++ rs) := hD
  refine lv_iload_n hx hb dX1_council_5 rfl (lv_at hl 1 rfl) ?_
  refine lv_if_lt (tgt := 15) hx hb dX1_council_6 (by decide) (fun c_1 => ?_) (fun c_1 => ?_)
  · -- 6 -> 15
    refine lv_iconst (v := (-1)) hx hb dX1_council_15 (by decide) ?_
    exact kz_wreti hx hb hr hlocks hP hD hS (Nat.le_of_ble_eq_true rfl) (Nat.le_of_ble_eq_true rfl) (by obtain ⟨q0, q1, q2, q3, q4, q5, q6, q7⟩ := sm_ne (Or.inl c_1); simp only [if_neg q0, if_neg q1, if_neg q2, if_neg q3, if_neg q4, if_neg q5, if_neg q6, if_neg q7])  dX1_council_16
  · -- 6 -> 9
    refine lv_iload_n hx hb dX1_council_9 rfl (lv_at hl 1 rfl) ?_
    refine lv_bipush (v := 7) hx hb dX1_council_10 (by decide) ?_
    refine lv_icmp_le (tgt := 17) hx hb dX1_council_12 (by decide) (fun c_2 => ?_) (fun c_2 => ?_)
    · -- 12 -> 17
      refine lv_iload_n hx hb dX1_council_17 rfl (lv_at hl 1 rfl) ?_
      refine lv_iconst (v := 3) hx hb dX1_council_18 (by decide) ?_
      refine lv_icmp_ge (tgt := 50) hx hb dX1_council_19 (by decide) (fun c_3 => ?_) (fun c_3 => ?_)
      · -- 19 -> 50
        refine lv_iload_n hx hb dX1_council_50 rfl (lv_at hl 1 rfl) ?_
        refine lv_iconst (v := 5) hx hb dX1_council_51 (by decide) ?_
        refine lv_icmp_ge (tgt := 77) hx hb dX1_council_52 (by decide) (fun c_4 => ?_) (fun c_4 => ?_)
        · -- 52 -> 77
          refine lv_iload_n hx hb dX1_council_77 rfl (lv_at hl 1 rfl) ?_
          refine lv_iconst (v := 5) hx hb dX1_council_78 (by decide) ?_
          refine lv_icmp_ne (tgt := 89) hx hb dX1_council_79 (by decide) (fun c_5 => ?_) (fun c_5 => ?_)
          · -- 79 -> 89
            refine lv_iload_n hx hb dX1_council_89 rfl (lv_at hl 1 rfl) ?_
            refine lv_bipush (v := 6) hx hb dX1_council_90 (by decide) ?_
            refine lv_icmp_ne (tgt := 102) hx hb dX1_council_92 (by decide) (fun c_6 => ?_) (fun c_6 => ?_)
            · -- 92 -> 102
              refine lv_aload_n hx hb dX1_council_102 rfl (lv_at hl 0 rfl) ?_
              refine va_get (D := D) (ci := 1) (v := .int it) (C := RX1) (T := TX1) (N := 8) hx hb hw9 uX1 hown hK hP 0 rfl rfl 1 (by decide) (hw9 _ mw_361) (fun _ h9 => h9) rfl dX1_council_103 ?_
              exact kz_wreti hx hb hr hlocks hP hD hS (Nat.le_of_ble_eq_true rfl) (Nat.le_of_ble_eq_true rfl) (by obtain ⟨b9, hb9, e9⟩ := sm_8w c_1 c_2; rw [e9] at c_3 c_4 c_5 c_6; rcases sm_b8 hb9 with rfl | rfl | rfl | rfl | rfl | rfl | rfl | rfl <;> first | (rw [e9]; rfl) | exact absurd c_3 (by decide) | exact absurd (by decide) c_3 | exact absurd c_4 (by decide) | exact absurd (by decide) c_4 | exact absurd c_5 (by decide) | exact absurd (by decide) c_5 | exact absurd c_6 (by decide) | exact absurd (by decide) c_6)  dX1_council_106
            · -- 92 -> 95
              refine lv_aload_n hx hb dX1_council_95 rfl (lv_at hl 0 rfl) ?_
              refine va_get (D := D) (ci := 1) (v := .int r) (C := RX1) (T := TX1) (N := 8) hx hb hw9 uX1 hown hK hP 0 rfl rfl 6 (by decide) (hw9 _ mw_366) (fun _ h9 => h9) rfl dX1_council_96 ?_
              refine lv_goto (tgt := 106) hx hb dX1_council_99 (by decide) ?_
              exact kz_wreti hx hb hr hlocks hP hD hS (Nat.le_of_ble_eq_true rfl) (Nat.le_of_ble_eq_true rfl) (by obtain ⟨b9, hb9, e9⟩ := sm_8w c_1 c_2; rw [e9] at c_3 c_4 c_5 c_6; rcases sm_b8 hb9 with rfl | rfl | rfl | rfl | rfl | rfl | rfl | rfl <;> first | (rw [e9]; rfl) | exact absurd c_3 (by decide) | exact absurd (by decide) c_3 | exact absurd c_4 (by decide) | exact absurd (by decide) c_4 | exact absurd c_5 (by decide) | exact absurd (by decide) c_5 | exact absurd c_6 (by decide) | exact absurd (by decide) c_6)  dX1_council_106
          · -- 79 -> 82
            refine lv_aload_n hx hb dX1_council_82 rfl (lv_at hl 0 rfl) ?_
            refine va_get (D := D) (ci := 1) (v := .int v) (C := RX1) (T := TX1) (N := 8) hx hb hw9 uX1 hown hK hP 0 rfl rfl 5 (by decide) (hw9 _ mw_365) (fun _ h9 => h9) rfl dX1_council_83 ?_
            refine lv_goto (tgt := 106) hx hb dX1_council_86 (by decide) ?_
            exact kz_wreti hx hb hr hlocks hP hD hS (Nat.le_of_ble_eq_true rfl) (Nat.le_of_ble_eq_true rfl) (by obtain ⟨b9, hb9, e9⟩ := sm_8w c_1 c_2; rw [e9] at c_3 c_4 c_5; rcases sm_b8 hb9 with rfl | rfl | rfl | rfl | rfl | rfl | rfl | rfl <;> first | (rw [e9]; rfl) | exact absurd c_3 (by decide) | exact absurd (by decide) c_3 | exact absurd c_4 (by decide) | exact absurd (by decide) c_4 | exact absurd c_5 (by decide) | exact absurd (by decide) c_5)  dX1_council_106
        · -- 52 -> 55
          refine lv_iload_n hx hb dX1_council_55 rfl (lv_at hl 1 rfl) ?_
          refine lv_iconst (v := 3) hx hb dX1_council_56 (by decide) ?_
          refine lv_icmp_ne (tgt := 72) hx hb dX1_council_57 (by decide) (fun c_7 => ?_) (fun c_7 => ?_)
          · -- 57 -> 72
            refine lv_aload_n hx hb dX1_council_72 rfl (lv_at hl 0 rfl) ?_
            refine kz_rV (As := []) (rest := []) ⟨hx, hb, hml, hown, hw9⟩ (c_X1_peers l hl9 D cI ty bd rs H.size 0 it o n g v r (sm_al nx mt fl pr ofs ak hd an) hM) (kz_cV 0 hw9 mw_450 mw_452 ms_15 mw_2 mw_453 rfl rfl (by decide +kernel) ⟨Nat.le_of_ble_eq_true rfl, Nat.le_of_ble_eq_true rfl⟩) (kz_preV (q0 := 0) (ci := 1) hK hP hD hS hA hE rfl rfl) rfl hl.1 rfl (Nat.le_of_ble_eq_true rfl) dX1_council_73 ⟨Nat.le_of_ble_eq_true rfl, Nat.le_of_ble_eq_true rfl⟩ (fun _ _ _ _ h => False.elim h) (fun v9 H hv9 hO1 => ?_)
            obtain ⟨_, rfl, rfl⟩ := hv9
            have hP := hO1.P hP
            have hS := hO1.S hS
            refine W.eq (g2 := F0 m 76 ls [.int (sq_P it o n g)]) rfl ?_
            exact kz_wreti hx hb hr hlocks hP hD hS (Nat.le_of_ble_eq_true rfl) (Nat.le_of_ble_eq_true rfl) (by obtain ⟨b9, hb9, e9⟩ := sm_8w c_1 c_2; rw [e9] at c_3 c_4 c_7; rcases sm_b8 hb9 with rfl | rfl | rfl | rfl | rfl | rfl | rfl | rfl <;> first | (rw [e9]; rfl) | exact absurd c_3 (by decide) | exact absurd (by decide) c_3 | exact absurd c_4 (by decide) | exact absurd (by decide) c_4 | exact absurd c_7 (by decide) | exact absurd (by decide) c_7)  dX1_council_76
          · -- 57 -> 60
            refine lv_aload_n hx hb dX1_council_60 rfl (lv_at hl 0 rfl) ?_
            refine va_get (D := D) (ci := 1) (v := .int o) (C := RX1) (T := TX1) (N := 8) hx hb hw9 uX1 hown hK hP 0 rfl rfl 2 (by decide) (hw9 _ mw_362) (fun _ h9 => h9) rfl dX1_council_61 ?_
            refine lv_aload_n hx hb dX1_council_64 rfl (lv_at hl 0 rfl) ?_
            refine va_get (D := D) (ci := 1) (v := .int n) (C := RX1) (T := TX1) (N := 8) hx hb hw9 uX1 hown hK hP 0 rfl rfl 3 (by decide) (hw9 _ mw_363) (fun _ h9 => h9) rfl dX1_council_65 ?_
            refine lv_ior hx hb dX1_council_68 ?_
            refine lv_goto (tgt := 76) hx hb dX1_council_69 (by decide) ?_
            exact kz_wreti hx hb hr hlocks hP hD hS (Nat.le_of_ble_eq_true rfl) (Nat.le_of_ble_eq_true rfl) (by obtain ⟨b9, hb9, e9⟩ := sm_8w c_1 c_2; rw [e9] at c_3 c_4 c_7; rcases sm_b8 hb9 with rfl | rfl | rfl | rfl | rfl | rfl | rfl | rfl <;> first | (rw [e9]; rfl) | exact absurd c_3 (by decide) | exact absurd (by decide) c_3 | exact absurd c_4 (by decide) | exact absurd (by decide) c_4 | exact absurd c_7 (by decide) | exact absurd (by decide) c_7)  dX1_council_76
      · -- 19 -> 22
        refine lv_iload_n hx hb dX1_council_22 rfl (lv_at hl 1 rfl) ?_
        refine lv_if_ne (tgt := 33) hx hb dX1_council_23 (by decide) (fun c_8 => ?_) (fun c_8 => ?_)
        · -- 23 -> 33
          refine lv_iload_n hx hb dX1_council_33 rfl (lv_at hl 1 rfl) ?_
          refine lv_iconst (v := 1) hx hb dX1_council_34 (by decide) ?_
          refine lv_icmp_ne (tgt := 45) hx hb dX1_council_35 (by decide) (fun c_9 => ?_) (fun c_9 => ?_)
          · -- 35 -> 45
            refine lv_aload_n hx hb dX1_council_45 rfl (lv_at hl 0 rfl) ?_
            refine va_get (D := D) (ci := 1) (v := .int g) (C := RX1) (T := TX1) (N := 8) hx hb hw9 uX1 hown hK hP 0 rfl rfl 4 (by decide) (hw9 _ mw_364) (fun _ h9 => h9) rfl dX1_council_46 ?_
            exact kz_wreti hx hb hr hlocks hP hD hS (Nat.le_of_ble_eq_true rfl) (Nat.le_of_ble_eq_true rfl) (by obtain ⟨b9, hb9, e9⟩ := sm_8w c_1 c_2; rw [e9] at c_3 c_8 c_9; rcases sm_b8 hb9 with rfl | rfl | rfl | rfl | rfl | rfl | rfl | rfl <;> first | (rw [e9]; rfl) | exact absurd c_3 (by decide) | exact absurd (by decide) c_3 | exact absurd c_8 (by decide) | exact absurd (by decide) c_8 | exact absurd c_9 (by decide) | exact absurd (by decide) c_9)  dX1_council_49
          · -- 35 -> 38
            refine lv_aload_n hx hb dX1_council_38 rfl (lv_at hl 0 rfl) ?_
            refine va_get (D := D) (ci := 1) (v := .int n) (C := RX1) (T := TX1) (N := 8) hx hb hw9 uX1 hown hK hP 0 rfl rfl 3 (by decide) (hw9 _ mw_363) (fun _ h9 => h9) rfl dX1_council_39 ?_
            refine lv_goto (tgt := 49) hx hb dX1_council_42 (by decide) ?_
            exact kz_wreti hx hb hr hlocks hP hD hS (Nat.le_of_ble_eq_true rfl) (Nat.le_of_ble_eq_true rfl) (by obtain ⟨b9, hb9, e9⟩ := sm_8w c_1 c_2; rw [e9] at c_3 c_8 c_9; rcases sm_b8 hb9 with rfl | rfl | rfl | rfl | rfl | rfl | rfl | rfl <;> first | (rw [e9]; rfl) | exact absurd c_3 (by decide) | exact absurd (by decide) c_3 | exact absurd c_8 (by decide) | exact absurd (by decide) c_8 | exact absurd c_9 (by decide) | exact absurd (by decide) c_9)  dX1_council_49
        · -- 23 -> 26
          refine lv_aload_n hx hb dX1_council_26 rfl (lv_at hl 0 rfl) ?_
          refine va_get (D := D) (ci := 1) (v := .int o) (C := RX1) (T := TX1) (N := 8) hx hb hw9 uX1 hown hK hP 0 rfl rfl 2 (by decide) (hw9 _ mw_362) (fun _ h9 => h9) rfl dX1_council_27 ?_
          refine lv_goto (tgt := 49) hx hb dX1_council_30 (by decide) ?_
          exact kz_wreti hx hb hr hlocks hP hD hS (Nat.le_of_ble_eq_true rfl) (Nat.le_of_ble_eq_true rfl) (by obtain ⟨b9, hb9, e9⟩ := sm_8w c_1 c_2; rw [e9] at c_3 c_8; rcases sm_b8 hb9 with rfl | rfl | rfl | rfl | rfl | rfl | rfl | rfl <;> first | (rw [e9]; rfl) | exact absurd c_3 (by decide) | exact absurd (by decide) c_3 | exact absurd c_8 (by decide) | exact absurd (by decide) c_8)  dX1_council_49
    · -- 12 -> 15
      refine lv_iconst (v := (-1)) hx hb dX1_council_15 (by decide) ?_
      exact kz_wreti hx hb hr hlocks hP hD hS (Nat.le_of_ble_eq_true rfl) (Nat.le_of_ble_eq_true rfl) (by obtain ⟨q0, q1, q2, q3, q4, q5, q6, q7⟩ := sm_ne (Or.inr c_2); simp only [if_neg q0, if_neg q1, if_neg q2, if_neg q3, if_neg q4, if_neg q5, if_neg q6, if_neg q7])  dX1_council_16
set_option maxHeartbeats 4000000 in
set_option maxRecDepth 100000 in
theorem c_X1_sending (l : Launch) (hl9 : l.stackTraces = false) (D : va_G) (cI : ClassId) (ty : kz_Y) (bd : Nat → Nat) (rs : va_W) (sz : Nat) (th it o n g v r : Int32) (nx mt fl pr ofs ak hd an : Nat → Int32) (p0 : Int32) (p1 : Int32) (p2 : Int32) (p3 : Int32) (hM : sv_m it o n g v) (hnx : ∀ j, j < 7 → 0 ≤ nx j ∧ nx j ≤ 1000000001) (hfl : ∀ j, j < 7 → 0 ≤ fl j ∧ fl j ≤ 4) (hpa : ∀ j, j < 7 → (pr j = 0 ∨ pr j = 1) ∧ (an j = 0 ∨ an j = 1)) : ez_M l yX1_sending wsX1_sending ({ frames := 2, cells := 1, slots := 6, locals := 43 } : Room) (kz_P D ((cI, .int) :: ty) (wM bd cI th it o n g v r (sm_al nx mt fl pr ofs ak hd an) ++ rs) sz [.ref (bd 0), .int p0, .int p1, .int p2, .int p3]) (kz_Wr D (va_A (wM bd cI th it o n g v r (sm_al nx mt fl pr ofs ak hd an) ++ rs) sz) (kz_i (fun r9 => r9 = (if tc_sending it o n g p0 p1 p2 = 0 then (if nx p0.toNatClampNeg ≤ p1 then (if 0 < fl p0.toNatClampNeg then 0 else 8) else if nx p0.toNatClampNeg ≤ p2 ∧ sq_F fl pr p0.toNatClampNeg = true then (sq_min ((p2 - nx p0.toNatClampNeg) + 1) 6) else if p3 = 0 then 0 else 7) else 0))) (wM bd cI (nI (tc_sending it o n g p0 p1 p2)) it o n g v r (sm_al (if tc_sending it o n g p0 p1 p2 = 0 then if nx p0.toNatClampNeg ≤ p1 then nx else if nx p0.toNatClampNeg ≤ p2 ∧ sq_F fl pr p0.toNatClampNeg = true then upd nx p0.toNatClampNeg (nx p0.toNatClampNeg + (sq_min ((p2 - nx p0.toNatClampNeg) + 1) 6)) else nx else nx) mt (if tc_sending it o n g p0 p1 p2 = 0 then if nx p0.toNatClampNeg ≤ p1 then (if 0 < fl p0.toNatClampNeg then fl else upd fl p0.toNatClampNeg 1) else if nx p0.toNatClampNeg ≤ p2 ∧ sq_F fl pr p0.toNatClampNeg = true then upd fl p0.toNatClampNeg (fl p0.toNatClampNeg + 1) else fl else fl) pr ofs ak hd an) ++ rs)) (kz_T (fun _ => IAE) (fun _ => False)) 0 0 (va_A (wM bd cI th it o n g v r (sm_al nx mt fl pr ofs ak hd an) ++ rs) sz) := by
  refine ez_ofW (cc := cX1_sending) (maxL := 8) (ret := (some .int)) (by decide) rfl ?_
  intro p e s m args below meth c s₁ B hml hTab hv
  obtain ⟨rfl, hsz, hP, hK, hD0, hE⟩ := hv
  have hx := B.exec
  have hb := B.bytes
  have hr := B.returns
  have hw9 : ∀ w ∈ kz_W9, w.before ([.ref (bd 0), .int p0, .int p1, .int p2, .int p3] : List Value).toArray s = true := fun w h => atoms_spec (ws := wsX1_sending) B.pre w (List.mem_cons_of_mem _ h)
  have hown : s.vm.findClass RX1 = some m.cls := findClass_of_methodNamed B.named
  have hlocks := B.notSynchronized
  subst hsz
  have hD := hD0.self (sz := s.heap.size)
  generalize hAe : va_A (wM bd cI th it o n g v r (sm_al nx mt fl pr ofs ak hd an) ++ rs) s.heap.size = A at hD hE ⊢
  have hA : ∀ q : Nat, s.heap.size ≤ q → A q := fun q h => by rw [← hAe]; exact Or.inr h
  have hS : va_S A s.heap s.heap [] := va_S.rf
  have hO : kz_O s.heap s.heap := kz_O.rf _
  have hl := lv_entry ([.ref (bd 0), .int p0, .int p1, .int p2, .int p3]) (n := 8) (Nat.le_of_ble_eq_true rfl)
  rw [lg_entry_eq]
  generalize (lg_sl ([.ref (bd 0), .int p0, .int p1, .int p2, .int p3]) ++ List.replicate (8 - (lg_sl ([.ref (bd 0), .int p0, .int p1, .int p2, .int p3])).length) Slot.unset).toArray = ls at hl ⊢
  have hl : lv_has ls 8 [(0, .ref (bd 0)), (1, .int p0), (2, .int p1), (3, .int p2), (4, .int p3)] := hl
  obtain ⟨hIt, hOo, hNn, hGg, hVv⟩ := id hM
  obtain ⟨xo, ho8, eo⟩ := sm_S hOo
  obtain ⟨xn, hn8, en⟩ := sm_S hNn
  obtain ⟨xg, hg8, eg⟩ := sm_S hGg
  obtain ⟨xv, hv8, ev⟩ := sm_S hVv
  obtain ⟨hIa, hIe⟩ := sm_srv hIt
  refine lv_aload_n hx hb dX1_sending_0 rfl (lv_at hl 0 rfl) ?_
  refine lv_iconst (v := 0) hx hb dX1_sending_1 (by decide) ?_
  refine va_put (D := D) (ci := 1) (v := .int 0) (ty := .int) (C := RX1) (T := TX1) (N := 8) hx hb hw9 uX1 tyX1 tyX1_ok nmX1 hown hK hP hD hS 0 rfl rfl 0 (by decide) (hw9 _ mw_360) (fun _ h9 => h9) rfl (by decide +kernel) rfl rfl (Nat.le_of_ble_eq_true rfl) dX1_sending_2 (fun H locs hP hD hS => ?_)
  have hP : va_P D vwCl (wM bd cI 0 it o n g v r (sm_al nx mt fl pr ofs ak hd an) ++ rs) H := hP
  have hD : va_D A (wM bd cI 0 it o n g v r (sm_al nx mt fl pr ofs ak hd an) ++ rs) := hD
  refine lv_aload_n hx hb dX1_sending_5 rfl (lv_at hl 0 rfl) ?_
  refine kz_rV (As := []) (rest := []) ⟨hx, hb, hml, hown, hw9⟩ (c_X1_peers l hl9 D cI ty bd rs H.size 0 it o n g v r (sm_al nx mt fl pr ofs ak hd an) hM) (kz_cV 0 hw9 mw_450 mw_452 ms_15 mw_2 mw_453 rfl rfl (by decide +kernel) ⟨Nat.le_of_ble_eq_true rfl, Nat.le_of_ble_eq_true rfl⟩) (kz_preV (q0 := 0) (ci := 1) hK hP hD hS hA hE rfl rfl) rfl hl.1 rfl (Nat.le_of_ble_eq_true rfl) dX1_sending_6 ⟨Nat.le_of_ble_eq_true rfl, Nat.le_of_ble_eq_true rfl⟩ (fun _ _ _ _ h => False.elim h) (fun v9 H hv9 hO1 => ?_)
  obtain ⟨_, rfl, rfl⟩ := hv9
  have hP := hO1.P hP
  have hS := hO1.S hS
  refine W.eq (g2 := F0 m 9 ls [.int (sq_P it o n g)]) rfl ?_
  refine lv_iload_n hx hb dX1_sending_9 rfl (lv_at hl 1 rfl) ?_
  refine kz_rS (As := [.int (sq_P it o n g), .int p0]) (rest := []) ⟨hx, hb, hml, hown, hw9⟩ (c_X1_has l hl9 D ((cI, .int) :: ty) (wM bd cI 0 it o n g v r (sm_al nx mt fl pr ofs ak hd an) ++ rs) H.size (sq_P it o n g) p0) (kz_cS 2 hw9 mw_400 mw_401 mw_2 mw_402 rfl rfl (by decide +kernel) ⟨Nat.le_of_ble_eq_true rfl, Nat.le_of_ble_eq_true rfl⟩) (kz_preS hK hP hD hS hA hE) rfl hl.1 rfl (Nat.le_of_ble_eq_true rfl) dX1_sending_10 ⟨Nat.le_of_ble_eq_true rfl, Nat.le_of_ble_eq_true rfl⟩ (fun _ _ _ _ h => False.elim h) (fun v9 H hv9 hO1 => ?_)
  obtain ⟨_, rfl, rfl⟩ := hv9
  have hP := hO1.P hP
  have hS := hO1.S hS
  refine W.eq (g2 := F0 m 13 ls [.int (sq_z (sm_h (sq_P it o n g) p0))]) rfl ?_
  refine lv_if_ne (tgt := 22) hx hb dX1_sending_13 (by decide) (fun c_1 => ?_) (fun c_1 => ?_)
  · -- 13 -> 22
    have hpe : (sq_V p0 && sq_I (sq_P it o n g) p0) = true := (sm_hP hM p0).symm.trans (sq_z_t c_1)
    have hsv : sq_V p0 = true := (Bool.and_eq_true_iff.mp hpe).1
    obtain ⟨hsA, hsE⟩ := sm_srv hsv
    refine lv_iload_n hx hb dX1_sending_22 rfl (lv_at hl 2 rfl) ?_
    refine kz_rS (As := [.int p1]) (rest := []) ⟨hx, hb, hml, hown, hw9⟩ (c_X1_number l hl9 D ((cI, .int) :: ty) (wM bd cI 0 it o n g v r (sm_al nx mt fl pr ofs ak hd an) ++ rs) H.size p1) (kz_cS 1 hw9 mw_438 mw_439 mw_2 mw_440 rfl rfl (by decide +kernel) ⟨Nat.le_of_ble_eq_true rfl, Nat.le_of_ble_eq_true rfl⟩) (kz_preS hK hP hD hS hA hE) rfl hl.1 rfl (Nat.le_of_ble_eq_true rfl) dX1_sending_23 ⟨Nat.le_of_ble_eq_true rfl, Nat.le_of_ble_eq_true rfl⟩ (fun _ _ _ _ h => False.elim h) (fun v9 H hv9 hO1 => ?_)
    obtain ⟨_, rfl, rfl⟩ := hv9
    have hP := hO1.P hP
    have hS := hO1.S hS
    refine W.eq (g2 := F0 m 26 ls [.int (sq_z (sq_N p1))]) rfl ?_
    refine lv_if_eq (tgt := 41) hx hb dX1_sending_26 (by decide) (fun c_2 => ?_) (fun c_2 => ?_)
    · -- 26 -> 41
      refine lv_aload_n hx hb dX1_sending_41 rfl (lv_at hl 0 rfl) ?_
      refine lv_iconst (v := 2) hx hb dX1_sending_42 (by decide) ?_
      refine kz_wV (As := [.int 2]) (rest := []) ⟨hx, hb, hml, hown, hw9⟩ (c_X1_fail l hl9 D cI ty bd rs H.size 0 it o n g v r (sm_al nx mt fl pr ofs ak hd an) 2) (kz_cV 1 hw9 mw_411 mw_413 ms_12 mw_2 mw_414 rfl rfl (by decide +kernel) ⟨Nat.le_of_ble_eq_true rfl, Nat.le_of_ble_eq_true rfl⟩) (kz_preV (q0 := 0) (ci := 1) hK hP hD hS hA hE rfl rfl) rfl hl.1 rfl (Nat.le_of_ble_eq_true rfl) dX1_sending_43 ⟨Nat.le_of_ble_eq_true rfl, Nat.le_of_ble_eq_true rfl⟩ hD hS hA (fun _ _ _ _ _ _ h => False.elim h) (fun v9 H locs hv9 hP hD hS => ?_)
      obtain ⟨_, rfl, rfl⟩ := hv9
      have hP : va_P D vwCl (wM bd cI 2 it o n g v r (sm_al nx mt fl pr ofs ak hd an) ++ rs) H := hP
      have hD : va_D A (wM bd cI 2 it o n g v r (sm_al nx mt fl pr ofs ak hd an) ++ rs) := hD
      refine W.eq (g2 := F0 m 46 ls [.int 0]) rfl ?_
      have htc : tc_sending it o n g p0 p1 p2 = 2 := by first | (simp [tc_sending, (sq_z_t c_1), hpe, (sq_z_f c_2)]; done) | (simp only [tc_sending, (sq_z_t c_1), hpe, (sq_z_f c_2), eq_self, not_true_eq_false, not_false_eq_true, and_self, and_true, true_and, and_false, false_and, or_true, true_or, or_false, false_or, if_true, if_false, ite_true, ite_false, Bool.and_eq_true, decide_true, decide_false, decide_eq_true_eq, ne_eq, Nat.reduceEqDiff, Nat.one_ne_zero, Bool.false_eq_true, reduceCtorEq]; done) | (simp only [tc_sending, (sq_z_t c_1), hpe, (sq_z_f c_2), eq_self, not_true_eq_false, not_false_eq_true, and_self, and_true, true_and, and_false, false_and, or_true, true_or, or_false, false_or, if_true, if_false, ite_true, ite_false, Bool.and_eq_true, decide_true, decide_false, decide_eq_true_eq, ne_eq, Nat.reduceEqDiff, Nat.one_ne_zero, Bool.false_eq_true, reduceCtorEq]; decide)
      exact kz_wreti hx hb hr hlocks (by rw [htc]; exact hP) (by rw [htc]; exact hD) hS (Nat.le_of_ble_eq_true rfl) (Nat.le_of_ble_eq_true rfl) (by rw [htc]; rfl)  dX1_sending_46
    · -- 26 -> 29
      refine lv_iload_n hx hb dX1_sending_29 rfl (lv_at hl 3 rfl) ?_
      refine kz_rS (As := [.int p2]) (rest := []) ⟨hx, hb, hml, hown, hw9⟩ (c_X1_number l hl9 D ((cI, .int) :: ty) (wM bd cI 0 it o n g v r (sm_al nx mt fl pr ofs ak hd an) ++ rs) H.size p2) (kz_cS 1 hw9 mw_438 mw_439 mw_2 mw_440 rfl rfl (by decide +kernel) ⟨Nat.le_of_ble_eq_true rfl, Nat.le_of_ble_eq_true rfl⟩) (kz_preS hK hP hD hS hA hE) rfl hl.1 rfl (Nat.le_of_ble_eq_true rfl) dX1_sending_30 ⟨Nat.le_of_ble_eq_true rfl, Nat.le_of_ble_eq_true rfl⟩ (fun _ _ _ _ h => False.elim h) (fun v9 H hv9 hO1 => ?_)
      obtain ⟨_, rfl, rfl⟩ := hv9
      have hP := hO1.P hP
      have hS := hO1.S hS
      refine W.eq (g2 := F0 m 33 ls [.int (sq_z (sq_N p2))]) rfl ?_
      refine lv_if_eq (tgt := 41) hx hb dX1_sending_33 (by decide) (fun c_3 => ?_) (fun c_3 => ?_)
      · -- 33 -> 41
        refine lv_aload_n hx hb dX1_sending_41 rfl (lv_at hl 0 rfl) ?_
        refine lv_iconst (v := 2) hx hb dX1_sending_42 (by decide) ?_
        refine kz_wV (As := [.int 2]) (rest := []) ⟨hx, hb, hml, hown, hw9⟩ (c_X1_fail l hl9 D cI ty bd rs H.size 0 it o n g v r (sm_al nx mt fl pr ofs ak hd an) 2) (kz_cV 1 hw9 mw_411 mw_413 ms_12 mw_2 mw_414 rfl rfl (by decide +kernel) ⟨Nat.le_of_ble_eq_true rfl, Nat.le_of_ble_eq_true rfl⟩) (kz_preV (q0 := 0) (ci := 1) hK hP hD hS hA hE rfl rfl) rfl hl.1 rfl (Nat.le_of_ble_eq_true rfl) dX1_sending_43 ⟨Nat.le_of_ble_eq_true rfl, Nat.le_of_ble_eq_true rfl⟩ hD hS hA (fun _ _ _ _ _ _ h => False.elim h) (fun v9 H locs hv9 hP hD hS => ?_)
        obtain ⟨_, rfl, rfl⟩ := hv9
        have hP : va_P D vwCl (wM bd cI 2 it o n g v r (sm_al nx mt fl pr ofs ak hd an) ++ rs) H := hP
        have hD : va_D A (wM bd cI 2 it o n g v r (sm_al nx mt fl pr ofs ak hd an) ++ rs) := hD
        refine W.eq (g2 := F0 m 46 ls [.int 0]) rfl ?_
        have htc : tc_sending it o n g p0 p1 p2 = 2 := by first | (simp [tc_sending, (sq_z_t c_1), hpe, (sq_z_t c_2), (sq_z_f c_3)]; done) | (simp only [tc_sending, (sq_z_t c_1), hpe, (sq_z_t c_2), (sq_z_f c_3), eq_self, not_true_eq_false, not_false_eq_true, and_self, and_true, true_and, and_false, false_and, or_true, true_or, or_false, false_or, if_true, if_false, ite_true, ite_false, Bool.and_eq_true, decide_true, decide_false, decide_eq_true_eq, ne_eq, Nat.reduceEqDiff, Nat.one_ne_zero, Bool.false_eq_true, reduceCtorEq]; done) | (simp only [tc_sending, (sq_z_t c_1), hpe, (sq_z_t c_2), (sq_z_f c_3), eq_self, not_true_eq_false, not_false_eq_true, and_self, and_true, true_and, and_false, false_and, or_true, true_or, or_false, false_or, if_true, if_false, ite_true, ite_false, Bool.and_eq_true, decide_true, decide_false, decide_eq_true_eq, ne_eq, Nat.reduceEqDiff, Nat.one_ne_zero, Bool.false_eq_true, reduceCtorEq]; decide)
        exact kz_wreti hx hb hr hlocks (by rw [htc]; exact hP) (by rw [htc]; exact hD) hS (Nat.le_of_ble_eq_true rfl) (Nat.le_of_ble_eq_true rfl) (by rw [htc]; rfl)  dX1_sending_46
      · -- 33 -> 36
        refine lv_iload_n hx hb dX1_sending_36 rfl (lv_at hl 3 rfl) ?_
        refine lv_iload_n hx hb dX1_sending_37 rfl (lv_at hl 2 rfl) ?_
        refine lv_icmp_ge (tgt := 47) hx hb dX1_sending_38 (by decide) (fun c_4 => ?_) (fun c_4 => ?_)
        · -- 38 -> 47
          refine lv_aload_n hx hb dX1_sending_47 rfl (lv_at hl 0 rfl) ?_
          refine lv_iload_n hx hb dX1_sending_48 rfl (lv_at hl 1 rfl) ?_
          refine lv_iconst (v := 2) hx hb dX1_sending_49 (by decide) ?_
          refine kz_rV (As := [.int p0, .int 2]) (rest := []) ⟨hx, hb, hml, hown, hw9⟩ (c_X1_get l hl9 D cI ty bd rs H.size 0 it o n g v r (sm_al nx mt fl pr ofs ak hd an) p0.toNatClampNeg 2 p0 2 hsA (by decide) hsE rfl) (kz_cV 2 hw9 mw_403 mw_405 ms_11 mw_2 mw_406 rfl rfl (by decide +kernel) ⟨Nat.le_of_ble_eq_true rfl, Nat.le_of_ble_eq_true rfl⟩) (kz_preV (q0 := 0) (ci := 1) hK hP hD hS hA hE rfl rfl) rfl hl.1 rfl (Nat.le_of_ble_eq_true rfl) dX1_sending_50 ⟨Nat.le_of_ble_eq_true rfl, Nat.le_of_ble_eq_true rfl⟩ (fun _ _ _ _ h => False.elim h) (fun v9 H hv9 hO1 => ?_)
          obtain ⟨_, rfl, rfl⟩ := hv9
          have hP := hO1.P hP
          have hS := hO1.S hS
          rw [sm_g2]
          refine W.eq (g2 := F0 m 53 ls [.int (fl p0.toNatClampNeg)]) rfl ?_
          refine lv_istore (lv' := [(5, .int (fl p0.toNatClampNeg)), (0, .ref (bd 0)), (1, .int p0), (2, .int p1), (3, .int p2), (4, .int p3)]) hx hb dX1_sending_53 hl (by decide) rfl (fun ls hl => ?_)
          refine lv_aload_n hx hb dX1_sending_55 rfl (lv_at hl 1 rfl) ?_
          refine lv_iload_n hx hb dX1_sending_56 rfl (lv_at hl 2 rfl) ?_
          refine lv_iconst (v := 0) hx hb dX1_sending_57 (by decide) ?_
          refine kz_rV (As := [.int p0, .int 0]) (rest := []) ⟨hx, hb, hml, hown, hw9⟩ (c_X1_get l hl9 D cI ty bd rs H.size 0 it o n g v r (sm_al nx mt fl pr ofs ak hd an) p0.toNatClampNeg 0 p0 0 hsA (by decide) hsE rfl) (kz_cV 2 hw9 mw_403 mw_405 ms_11 mw_2 mw_406 rfl rfl (by decide +kernel) ⟨Nat.le_of_ble_eq_true rfl, Nat.le_of_ble_eq_true rfl⟩) (kz_preV (q0 := 0) (ci := 1) hK hP hD hS hA hE rfl rfl) rfl hl.1 rfl (Nat.le_of_ble_eq_true rfl) dX1_sending_58 ⟨Nat.le_of_ble_eq_true rfl, Nat.le_of_ble_eq_true rfl⟩ (fun _ _ _ _ h => False.elim h) (fun v9 H hv9 hO1 => ?_)
          obtain ⟨_, rfl, rfl⟩ := hv9
          have hP := hO1.P hP
          have hS := hO1.S hS
          rw [sm_g0]
          refine W.eq (g2 := F0 m 61 ls [.int (nx p0.toNatClampNeg)]) rfl ?_
          refine lv_iload_n hx hb dX1_sending_61 rfl (lv_at hl 3 rfl) ?_
          refine lv_icmp_gt (tgt := 94) hx hb dX1_sending_62 (by decide) (fun c_5 => ?_) (fun c_5 => ?_)
          · -- 62 -> 94
            refine lv_iload_n hx hb dX1_sending_94 rfl (lv_at hl 4 rfl) ?_
            refine lv_aload_n hx hb dX1_sending_95 rfl (lv_at hl 1 rfl) ?_
            refine lv_iload_n hx hb dX1_sending_96 rfl (lv_at hl 2 rfl) ?_
            refine lv_iconst (v := 0) hx hb dX1_sending_97 (by decide) ?_
            refine kz_rV (As := [.int p0, .int 0]) (rest := [.int p2]) ⟨hx, hb, hml, hown, hw9⟩ (c_X1_get l hl9 D cI ty bd rs H.size 0 it o n g v r (sm_al nx mt fl pr ofs ak hd an) p0.toNatClampNeg 0 p0 0 hsA (by decide) hsE rfl) (kz_cV 2 hw9 mw_403 mw_405 ms_11 mw_2 mw_406 rfl rfl (by decide +kernel) ⟨Nat.le_of_ble_eq_true rfl, Nat.le_of_ble_eq_true rfl⟩) (kz_preV (q0 := 0) (ci := 1) hK hP hD hS hA hE rfl rfl) rfl hl.1 rfl (Nat.le_of_ble_eq_true rfl) dX1_sending_98 ⟨Nat.le_of_ble_eq_true rfl, Nat.le_of_ble_eq_true rfl⟩ (fun _ _ _ _ h => False.elim h) (fun v9 H hv9 hO1 => ?_)
            obtain ⟨_, rfl, rfl⟩ := hv9
            have hP := hO1.P hP
            have hS := hO1.S hS
            rw [sm_g0]
            refine W.eq (g2 := F0 m 101 ls [.int (nx p0.toNatClampNeg), .int p2]) rfl ?_
            refine lv_isub hx hb dX1_sending_101 ?_
            refine lv_iconst (v := 1) hx hb dX1_sending_102 (by decide) ?_
            refine lv_iadd hx hb dX1_sending_103 ?_
            refine lv_istore (lv' := [(6, .int ((p2 - (nx p0.toNatClampNeg)) + 1)), (5, .int (fl p0.toNatClampNeg)), (0, .ref (bd 0)), (1, .int p0), (2, .int p1), (3, .int p2), (4, .int p3)]) hx hb dX1_sending_104 hl (by decide) rfl (fun ls hl => ?_)
            refine lv_iload hx hb dX1_sending_106 (lv_at hl 0 rfl) ?_
            refine lv_if_le (tgt := 175) hx hb dX1_sending_108 (by decide) (fun c_6 => ?_) (fun c_6 => ?_)
            · -- 108 -> 175
              have hle : ¬ nx p0.toNatClampNeg ≤ p2 := fun q => absurd c_6 (Int32.not_le.mpr ((sm_th (hnx _ hsA) (sq_z_t c_3)).mpr q))
              refine lv_iload hx hb dX1_sending_175 (lv_at hl 6 rfl) ?_
              refine lv_if_eq (tgt := 185) hx hb dX1_sending_177 (by decide) (fun c_7 => ?_) (fun c_7 => ?_)
              · -- 177 -> 185
                refine lv_iconst (v := 0) hx hb dX1_sending_185 (by decide) ?_
                have htc : tc_sending it o n g p0 p1 p2 = 0 := by first | (simp [tc_sending, (sq_z_t c_1), hpe, (sq_z_t c_2), (sq_z_t c_3), c_4, (Int32.not_lt.mpr c_4), c_5, (Int32.not_le.mpr c_5), c_6, (Int32.not_lt.mpr c_6), hle, c_7]; done) | (simp only [tc_sending, (sq_z_t c_1), hpe, (sq_z_t c_2), (sq_z_t c_3), c_4, (Int32.not_lt.mpr c_4), c_5, (Int32.not_le.mpr c_5), c_6, (Int32.not_lt.mpr c_6), hle, c_7, eq_self, not_true_eq_false, not_false_eq_true, and_self, and_true, true_and, and_false, false_and, or_true, true_or, or_false, false_or, if_true, if_false, ite_true, ite_false, Bool.and_eq_true, decide_true, decide_false, decide_eq_true_eq, ne_eq, Nat.reduceEqDiff, Nat.one_ne_zero, Bool.false_eq_true, reduceCtorEq]; done) | (simp only [tc_sending, (sq_z_t c_1), hpe, (sq_z_t c_2), (sq_z_t c_3), c_4, (Int32.not_lt.mpr c_4), c_5, (Int32.not_le.mpr c_5), c_6, (Int32.not_lt.mpr c_6), hle, c_7, eq_self, not_true_eq_false, not_false_eq_true, and_self, and_true, true_and, and_false, false_and, or_true, true_or, or_false, false_or, if_true, if_false, ite_true, ite_false, Bool.and_eq_true, decide_true, decide_false, decide_eq_true_eq, ne_eq, Nat.reduceEqDiff, Nat.one_ne_zero, Bool.false_eq_true, reduceCtorEq]; decide)
                have e_nx : (if nx p0.toNatClampNeg ≤ p1 then nx else if nx p0.toNatClampNeg ≤ p2 ∧ sq_F fl pr p0.toNatClampNeg = true then upd nx p0.toNatClampNeg (nx p0.toNatClampNeg + (sq_min ((p2 - nx p0.toNatClampNeg) + 1) 6)) else nx) = nx := by first | (simp [sm_us, (sq_z_t c_1), hpe, (sq_z_t c_2), (sq_z_t c_3), c_4, (Int32.not_lt.mpr c_4), c_5, (Int32.not_le.mpr c_5), c_6, (Int32.not_lt.mpr c_6), hle, c_7]; done) | (simp only [sm_us, (sq_z_t c_1), hpe, (sq_z_t c_2), (sq_z_t c_3), c_4, (Int32.not_lt.mpr c_4), c_5, (Int32.not_le.mpr c_5), c_6, (Int32.not_lt.mpr c_6), hle, c_7, eq_self, not_true_eq_false, not_false_eq_true, and_self, and_true, true_and, and_false, false_and, or_true, true_or, or_false, false_or, if_true, if_false, ite_true, ite_false, Bool.and_eq_true, decide_true, decide_false, decide_eq_true_eq, ne_eq, Nat.reduceEqDiff, Nat.one_ne_zero, Bool.false_eq_true, reduceCtorEq]; done) | (simp only [sm_us, (sq_z_t c_1), hpe, (sq_z_t c_2), (sq_z_t c_3), c_4, (Int32.not_lt.mpr c_4), c_5, (Int32.not_le.mpr c_5), c_6, (Int32.not_lt.mpr c_6), hle, c_7, eq_self, not_true_eq_false, not_false_eq_true, and_self, and_true, true_and, and_false, false_and, or_true, true_or, or_false, false_or, if_true, if_false, ite_true, ite_false, Bool.and_eq_true, decide_true, decide_false, decide_eq_true_eq, ne_eq, Nat.reduceEqDiff, Nat.one_ne_zero, Bool.false_eq_true, reduceCtorEq]; decide)
                have e_fl : (if nx p0.toNatClampNeg ≤ p1 then (if 0 < fl p0.toNatClampNeg then fl else upd fl p0.toNatClampNeg 1) else if nx p0.toNatClampNeg ≤ p2 ∧ sq_F fl pr p0.toNatClampNeg = true then upd fl p0.toNatClampNeg (fl p0.toNatClampNeg + 1) else fl) = fl := by first | (simp [sm_us, (sq_z_t c_1), hpe, (sq_z_t c_2), (sq_z_t c_3), c_4, (Int32.not_lt.mpr c_4), c_5, (Int32.not_le.mpr c_5), c_6, (Int32.not_lt.mpr c_6), hle, c_7]; done) | (simp only [sm_us, (sq_z_t c_1), hpe, (sq_z_t c_2), (sq_z_t c_3), c_4, (Int32.not_lt.mpr c_4), c_5, (Int32.not_le.mpr c_5), c_6, (Int32.not_lt.mpr c_6), hle, c_7, eq_self, not_true_eq_false, not_false_eq_true, and_self, and_true, true_and, and_false, false_and, or_true, true_or, or_false, false_or, if_true, if_false, ite_true, ite_false, Bool.and_eq_true, decide_true, decide_false, decide_eq_true_eq, ne_eq, Nat.reduceEqDiff, Nat.one_ne_zero, Bool.false_eq_true, reduceCtorEq]; done) | (simp only [sm_us, (sq_z_t c_1), hpe, (sq_z_t c_2), (sq_z_t c_3), c_4, (Int32.not_lt.mpr c_4), c_5, (Int32.not_le.mpr c_5), c_6, (Int32.not_lt.mpr c_6), hle, c_7, eq_self, not_true_eq_false, not_false_eq_true, and_self, and_true, true_and, and_false, false_and, or_true, true_or, or_false, false_or, if_true, if_false, ite_true, ite_false, Bool.and_eq_true, decide_true, decide_false, decide_eq_true_eq, ne_eq, Nat.reduceEqDiff, Nat.one_ne_zero, Bool.false_eq_true, reduceCtorEq]; decide)
                exact kz_wreti hx hb hr hlocks (by simp only [htc, if_true, e_nx, e_fl]; exact hP) (by simp only [htc, if_true, e_nx, e_fl]; exact hD) hS (Nat.le_of_ble_eq_true rfl) (Nat.le_of_ble_eq_true rfl) (by rw [htc]; exact (show 0 = (if nx p0.toNatClampNeg ≤ p1 then (if 0 < fl p0.toNatClampNeg then 0 else 8) else if nx p0.toNatClampNeg ≤ p2 ∧ sq_F fl pr p0.toNatClampNeg = true then (sq_min ((p2 - nx p0.toNatClampNeg) + 1) 6) else if p3 = 0 then 0 else 7) from by first | (simp [(sq_z_t c_1), hpe, (sq_z_t c_2), (sq_z_t c_3), c_4, (Int32.not_lt.mpr c_4), c_5, (Int32.not_le.mpr c_5), c_6, (Int32.not_lt.mpr c_6), hle, c_7]; done) | (simp only [(sq_z_t c_1), hpe, (sq_z_t c_2), (sq_z_t c_3), c_4, (Int32.not_lt.mpr c_4), c_5, (Int32.not_le.mpr c_5), c_6, (Int32.not_lt.mpr c_6), hle, c_7, eq_self, not_true_eq_false, not_false_eq_true, and_self, and_true, true_and, and_false, false_and, or_true, true_or, or_false, false_or, if_true, if_false, ite_true, ite_false, Bool.and_eq_true, decide_true, decide_false, decide_eq_true_eq, ne_eq, Nat.reduceEqDiff, Nat.one_ne_zero, Bool.false_eq_true, reduceCtorEq]; done) | (simp only [(sq_z_t c_1), hpe, (sq_z_t c_2), (sq_z_t c_3), c_4, (Int32.not_lt.mpr c_4), c_5, (Int32.not_le.mpr c_5), c_6, (Int32.not_lt.mpr c_6), hle, c_7, eq_self, not_true_eq_false, not_false_eq_true, and_self, and_true, true_and, and_false, false_and, or_true, true_or, or_false, false_or, if_true, if_false, ite_true, ite_false, Bool.and_eq_true, decide_true, decide_false, decide_eq_true_eq, ne_eq, Nat.reduceEqDiff, Nat.one_ne_zero, Bool.false_eq_true, reduceCtorEq]; decide)))  dX1_sending_186
              · -- 177 -> 180
                refine lv_bipush (v := 7) hx hb dX1_sending_180 (by decide) ?_
                refine lv_goto (tgt := 186) hx hb dX1_sending_182 (by decide) ?_
                have htc : tc_sending it o n g p0 p1 p2 = 0 := by first | (simp [tc_sending, (sq_z_t c_1), hpe, (sq_z_t c_2), (sq_z_t c_3), c_4, (Int32.not_lt.mpr c_4), c_5, (Int32.not_le.mpr c_5), c_6, (Int32.not_lt.mpr c_6), hle, c_7]; done) | (simp only [tc_sending, (sq_z_t c_1), hpe, (sq_z_t c_2), (sq_z_t c_3), c_4, (Int32.not_lt.mpr c_4), c_5, (Int32.not_le.mpr c_5), c_6, (Int32.not_lt.mpr c_6), hle, c_7, eq_self, not_true_eq_false, not_false_eq_true, and_self, and_true, true_and, and_false, false_and, or_true, true_or, or_false, false_or, if_true, if_false, ite_true, ite_false, Bool.and_eq_true, decide_true, decide_false, decide_eq_true_eq, ne_eq, Nat.reduceEqDiff, Nat.one_ne_zero, Bool.false_eq_true, reduceCtorEq]; done) | (simp only [tc_sending, (sq_z_t c_1), hpe, (sq_z_t c_2), (sq_z_t c_3), c_4, (Int32.not_lt.mpr c_4), c_5, (Int32.not_le.mpr c_5), c_6, (Int32.not_lt.mpr c_6), hle, c_7, eq_self, not_true_eq_false, not_false_eq_true, and_self, and_true, true_and, and_false, false_and, or_true, true_or, or_false, false_or, if_true, if_false, ite_true, ite_false, Bool.and_eq_true, decide_true, decide_false, decide_eq_true_eq, ne_eq, Nat.reduceEqDiff, Nat.one_ne_zero, Bool.false_eq_true, reduceCtorEq]; decide)
                have e_nx : (if nx p0.toNatClampNeg ≤ p1 then nx else if nx p0.toNatClampNeg ≤ p2 ∧ sq_F fl pr p0.toNatClampNeg = true then upd nx p0.toNatClampNeg (nx p0.toNatClampNeg + (sq_min ((p2 - nx p0.toNatClampNeg) + 1) 6)) else nx) = nx := by first | (simp [sm_us, (sq_z_t c_1), hpe, (sq_z_t c_2), (sq_z_t c_3), c_4, (Int32.not_lt.mpr c_4), c_5, (Int32.not_le.mpr c_5), c_6, (Int32.not_lt.mpr c_6), hle, c_7]; done) | (simp only [sm_us, (sq_z_t c_1), hpe, (sq_z_t c_2), (sq_z_t c_3), c_4, (Int32.not_lt.mpr c_4), c_5, (Int32.not_le.mpr c_5), c_6, (Int32.not_lt.mpr c_6), hle, c_7, eq_self, not_true_eq_false, not_false_eq_true, and_self, and_true, true_and, and_false, false_and, or_true, true_or, or_false, false_or, if_true, if_false, ite_true, ite_false, Bool.and_eq_true, decide_true, decide_false, decide_eq_true_eq, ne_eq, Nat.reduceEqDiff, Nat.one_ne_zero, Bool.false_eq_true, reduceCtorEq]; done) | (simp only [sm_us, (sq_z_t c_1), hpe, (sq_z_t c_2), (sq_z_t c_3), c_4, (Int32.not_lt.mpr c_4), c_5, (Int32.not_le.mpr c_5), c_6, (Int32.not_lt.mpr c_6), hle, c_7, eq_self, not_true_eq_false, not_false_eq_true, and_self, and_true, true_and, and_false, false_and, or_true, true_or, or_false, false_or, if_true, if_false, ite_true, ite_false, Bool.and_eq_true, decide_true, decide_false, decide_eq_true_eq, ne_eq, Nat.reduceEqDiff, Nat.one_ne_zero, Bool.false_eq_true, reduceCtorEq]; decide)
                have e_fl : (if nx p0.toNatClampNeg ≤ p1 then (if 0 < fl p0.toNatClampNeg then fl else upd fl p0.toNatClampNeg 1) else if nx p0.toNatClampNeg ≤ p2 ∧ sq_F fl pr p0.toNatClampNeg = true then upd fl p0.toNatClampNeg (fl p0.toNatClampNeg + 1) else fl) = fl := by first | (simp [sm_us, (sq_z_t c_1), hpe, (sq_z_t c_2), (sq_z_t c_3), c_4, (Int32.not_lt.mpr c_4), c_5, (Int32.not_le.mpr c_5), c_6, (Int32.not_lt.mpr c_6), hle, c_7]; done) | (simp only [sm_us, (sq_z_t c_1), hpe, (sq_z_t c_2), (sq_z_t c_3), c_4, (Int32.not_lt.mpr c_4), c_5, (Int32.not_le.mpr c_5), c_6, (Int32.not_lt.mpr c_6), hle, c_7, eq_self, not_true_eq_false, not_false_eq_true, and_self, and_true, true_and, and_false, false_and, or_true, true_or, or_false, false_or, if_true, if_false, ite_true, ite_false, Bool.and_eq_true, decide_true, decide_false, decide_eq_true_eq, ne_eq, Nat.reduceEqDiff, Nat.one_ne_zero, Bool.false_eq_true, reduceCtorEq]; done) | (simp only [sm_us, (sq_z_t c_1), hpe, (sq_z_t c_2), (sq_z_t c_3), c_4, (Int32.not_lt.mpr c_4), c_5, (Int32.not_le.mpr c_5), c_6, (Int32.not_lt.mpr c_6), hle, c_7, eq_self, not_true_eq_false, not_false_eq_true, and_self, and_true, true_and, and_false, false_and, or_true, true_or, or_false, false_or, if_true, if_false, ite_true, ite_false, Bool.and_eq_true, decide_true, decide_false, decide_eq_true_eq, ne_eq, Nat.reduceEqDiff, Nat.one_ne_zero, Bool.false_eq_true, reduceCtorEq]; decide)
                exact kz_wreti hx hb hr hlocks (by simp only [htc, if_true, e_nx, e_fl]; exact hP) (by simp only [htc, if_true, e_nx, e_fl]; exact hD) hS (Nat.le_of_ble_eq_true rfl) (Nat.le_of_ble_eq_true rfl) (by rw [htc]; exact (show 7 = (if nx p0.toNatClampNeg ≤ p1 then (if 0 < fl p0.toNatClampNeg then 0 else 8) else if nx p0.toNatClampNeg ≤ p2 ∧ sq_F fl pr p0.toNatClampNeg = true then (sq_min ((p2 - nx p0.toNatClampNeg) + 1) 6) else if p3 = 0 then 0 else 7) from by first | (simp [(sq_z_t c_1), hpe, (sq_z_t c_2), (sq_z_t c_3), c_4, (Int32.not_lt.mpr c_4), c_5, (Int32.not_le.mpr c_5), c_6, (Int32.not_lt.mpr c_6), hle, c_7]; done) | (simp only [(sq_z_t c_1), hpe, (sq_z_t c_2), (sq_z_t c_3), c_4, (Int32.not_lt.mpr c_4), c_5, (Int32.not_le.mpr c_5), c_6, (Int32.not_lt.mpr c_6), hle, c_7, eq_self, not_true_eq_false, not_false_eq_true, and_self, and_true, true_and, and_false, false_and, or_true, true_or, or_false, false_or, if_true, if_false, ite_true, ite_false, Bool.and_eq_true, decide_true, decide_false, decide_eq_true_eq, ne_eq, Nat.reduceEqDiff, Nat.one_ne_zero, Bool.false_eq_true, reduceCtorEq]; done) | (simp only [(sq_z_t c_1), hpe, (sq_z_t c_2), (sq_z_t c_3), c_4, (Int32.not_lt.mpr c_4), c_5, (Int32.not_le.mpr c_5), c_6, (Int32.not_lt.mpr c_6), hle, c_7, eq_self, not_true_eq_false, not_false_eq_true, and_self, and_true, true_and, and_false, false_and, or_true, true_or, or_false, false_or, if_true, if_false, ite_true, ite_false, Bool.and_eq_true, decide_true, decide_false, decide_eq_true_eq, ne_eq, Nat.reduceEqDiff, Nat.one_ne_zero, Bool.false_eq_true, reduceCtorEq]; decide)))  dX1_sending_186
            · -- 108 -> 111
              have hle : nx p0.toNatClampNeg ≤ p2 := (sm_th (hnx _ hsA) (sq_z_t c_3)).mp (Int32.not_le.mp c_6)
              refine lv_iload hx hb dX1_sending_111 (lv_at hl 1 rfl) ?_
              refine lv_aload_n hx hb dX1_sending_113 rfl (lv_at hl 2 rfl) ?_
              refine lv_iload_n hx hb dX1_sending_114 rfl (lv_at hl 3 rfl) ?_
              refine lv_iconst (v := 3) hx hb dX1_sending_115 (by decide) ?_
              refine kz_rV (As := [.int p0, .int 3]) (rest := [.int (fl p0.toNatClampNeg)]) ⟨hx, hb, hml, hown, hw9⟩ (c_X1_get l hl9 D cI ty bd rs H.size 0 it o n g v r (sm_al nx mt fl pr ofs ak hd an) p0.toNatClampNeg 3 p0 3 hsA (by decide) hsE rfl) (kz_cV 2 hw9 mw_403 mw_405 ms_11 mw_2 mw_406 rfl rfl (by decide +kernel) ⟨Nat.le_of_ble_eq_true rfl, Nat.le_of_ble_eq_true rfl⟩) (kz_preV (q0 := 0) (ci := 1) hK hP hD hS hA hE rfl rfl) rfl hl.1 rfl (Nat.le_of_ble_eq_true rfl) dX1_sending_116 ⟨Nat.le_of_ble_eq_true rfl, Nat.le_of_ble_eq_true rfl⟩ (fun _ _ _ _ h => False.elim h) (fun v9 H hv9 hO1 => ?_)
              obtain ⟨_, rfl, rfl⟩ := hv9
              have hP := hO1.P hP
              have hS := hO1.S hS
              rw [sm_g3]
              refine W.eq (g2 := F0 m 119 ls [.int (pr p0.toNatClampNeg), .int (fl p0.toNatClampNeg)]) rfl ?_
              refine lv_iconst (v := 1) hx hb dX1_sending_119 (by decide) ?_
              refine lv_icmp_ne (tgt := 127) hx hb dX1_sending_120 (by decide) (fun c_8 => ?_) (fun c_8 => ?_)
              · -- 120 -> 127
                refine lv_iconst (v := 4) hx hb dX1_sending_127 (by decide) ?_
                refine lv_icmp_ge (tgt := 175) hx hb dX1_sending_128 (by decide) (fun c_9 => ?_) (fun c_9 => ?_)
                · -- 128 -> 175
                  have hF : sq_F fl pr p0.toNatClampNeg = false := sm_F4f (hpa _ hsA).1 c_8 c_9
                  refine lv_iload hx hb dX1_sending_175 (lv_at hl 6 rfl) ?_
                  refine lv_if_eq (tgt := 185) hx hb dX1_sending_177 (by decide) (fun c_10 => ?_) (fun c_10 => ?_)
                  · -- 177 -> 185
                    refine lv_iconst (v := 0) hx hb dX1_sending_185 (by decide) ?_
                    have htc : tc_sending it o n g p0 p1 p2 = 0 := by first | (simp [tc_sending, (sq_z_t c_1), hpe, (sq_z_t c_2), (sq_z_t c_3), c_4, (Int32.not_lt.mpr c_4), c_5, (Int32.not_le.mpr c_5), c_6, (Int32.not_le.mp c_6), hle, c_8, c_9, (Int32.not_lt.mpr c_9), hF, c_10]; done) | (simp only [tc_sending, (sq_z_t c_1), hpe, (sq_z_t c_2), (sq_z_t c_3), c_4, (Int32.not_lt.mpr c_4), c_5, (Int32.not_le.mpr c_5), c_6, (Int32.not_le.mp c_6), hle, c_8, c_9, (Int32.not_lt.mpr c_9), hF, c_10, eq_self, not_true_eq_false, not_false_eq_true, and_self, and_true, true_and, and_false, false_and, or_true, true_or, or_false, false_or, if_true, if_false, ite_true, ite_false, Bool.and_eq_true, decide_true, decide_false, decide_eq_true_eq, ne_eq, Nat.reduceEqDiff, Nat.one_ne_zero, Bool.false_eq_true, reduceCtorEq]; done) | (simp only [tc_sending, (sq_z_t c_1), hpe, (sq_z_t c_2), (sq_z_t c_3), c_4, (Int32.not_lt.mpr c_4), c_5, (Int32.not_le.mpr c_5), c_6, (Int32.not_le.mp c_6), hle, c_8, c_9, (Int32.not_lt.mpr c_9), hF, c_10, eq_self, not_true_eq_false, not_false_eq_true, and_self, and_true, true_and, and_false, false_and, or_true, true_or, or_false, false_or, if_true, if_false, ite_true, ite_false, Bool.and_eq_true, decide_true, decide_false, decide_eq_true_eq, ne_eq, Nat.reduceEqDiff, Nat.one_ne_zero, Bool.false_eq_true, reduceCtorEq]; decide)
                    have e_nx : (if nx p0.toNatClampNeg ≤ p1 then nx else if nx p0.toNatClampNeg ≤ p2 ∧ sq_F fl pr p0.toNatClampNeg = true then upd nx p0.toNatClampNeg (nx p0.toNatClampNeg + (sq_min ((p2 - nx p0.toNatClampNeg) + 1) 6)) else nx) = nx := by first | (simp [sm_us, (sq_z_t c_1), hpe, (sq_z_t c_2), (sq_z_t c_3), c_4, (Int32.not_lt.mpr c_4), c_5, (Int32.not_le.mpr c_5), c_6, (Int32.not_le.mp c_6), hle, c_8, c_9, (Int32.not_lt.mpr c_9), hF, c_10]; done) | (simp only [sm_us, (sq_z_t c_1), hpe, (sq_z_t c_2), (sq_z_t c_3), c_4, (Int32.not_lt.mpr c_4), c_5, (Int32.not_le.mpr c_5), c_6, (Int32.not_le.mp c_6), hle, c_8, c_9, (Int32.not_lt.mpr c_9), hF, c_10, eq_self, not_true_eq_false, not_false_eq_true, and_self, and_true, true_and, and_false, false_and, or_true, true_or, or_false, false_or, if_true, if_false, ite_true, ite_false, Bool.and_eq_true, decide_true, decide_false, decide_eq_true_eq, ne_eq, Nat.reduceEqDiff, Nat.one_ne_zero, Bool.false_eq_true, reduceCtorEq]; done) | (simp only [sm_us, (sq_z_t c_1), hpe, (sq_z_t c_2), (sq_z_t c_3), c_4, (Int32.not_lt.mpr c_4), c_5, (Int32.not_le.mpr c_5), c_6, (Int32.not_le.mp c_6), hle, c_8, c_9, (Int32.not_lt.mpr c_9), hF, c_10, eq_self, not_true_eq_false, not_false_eq_true, and_self, and_true, true_and, and_false, false_and, or_true, true_or, or_false, false_or, if_true, if_false, ite_true, ite_false, Bool.and_eq_true, decide_true, decide_false, decide_eq_true_eq, ne_eq, Nat.reduceEqDiff, Nat.one_ne_zero, Bool.false_eq_true, reduceCtorEq]; decide)
                    have e_fl : (if nx p0.toNatClampNeg ≤ p1 then (if 0 < fl p0.toNatClampNeg then fl else upd fl p0.toNatClampNeg 1) else if nx p0.toNatClampNeg ≤ p2 ∧ sq_F fl pr p0.toNatClampNeg = true then upd fl p0.toNatClampNeg (fl p0.toNatClampNeg + 1) else fl) = fl := by first | (simp [sm_us, (sq_z_t c_1), hpe, (sq_z_t c_2), (sq_z_t c_3), c_4, (Int32.not_lt.mpr c_4), c_5, (Int32.not_le.mpr c_5), c_6, (Int32.not_le.mp c_6), hle, c_8, c_9, (Int32.not_lt.mpr c_9), hF, c_10]; done) | (simp only [sm_us, (sq_z_t c_1), hpe, (sq_z_t c_2), (sq_z_t c_3), c_4, (Int32.not_lt.mpr c_4), c_5, (Int32.not_le.mpr c_5), c_6, (Int32.not_le.mp c_6), hle, c_8, c_9, (Int32.not_lt.mpr c_9), hF, c_10, eq_self, not_true_eq_false, not_false_eq_true, and_self, and_true, true_and, and_false, false_and, or_true, true_or, or_false, false_or, if_true, if_false, ite_true, ite_false, Bool.and_eq_true, decide_true, decide_false, decide_eq_true_eq, ne_eq, Nat.reduceEqDiff, Nat.one_ne_zero, Bool.false_eq_true, reduceCtorEq]; done) | (simp only [sm_us, (sq_z_t c_1), hpe, (sq_z_t c_2), (sq_z_t c_3), c_4, (Int32.not_lt.mpr c_4), c_5, (Int32.not_le.mpr c_5), c_6, (Int32.not_le.mp c_6), hle, c_8, c_9, (Int32.not_lt.mpr c_9), hF, c_10, eq_self, not_true_eq_false, not_false_eq_true, and_self, and_true, true_and, and_false, false_and, or_true, true_or, or_false, false_or, if_true, if_false, ite_true, ite_false, Bool.and_eq_true, decide_true, decide_false, decide_eq_true_eq, ne_eq, Nat.reduceEqDiff, Nat.one_ne_zero, Bool.false_eq_true, reduceCtorEq]; decide)
                    exact kz_wreti hx hb hr hlocks (by simp only [htc, if_true, e_nx, e_fl]; exact hP) (by simp only [htc, if_true, e_nx, e_fl]; exact hD) hS (Nat.le_of_ble_eq_true rfl) (Nat.le_of_ble_eq_true rfl) (by rw [htc]; exact (show 0 = (if nx p0.toNatClampNeg ≤ p1 then (if 0 < fl p0.toNatClampNeg then 0 else 8) else if nx p0.toNatClampNeg ≤ p2 ∧ sq_F fl pr p0.toNatClampNeg = true then (sq_min ((p2 - nx p0.toNatClampNeg) + 1) 6) else if p3 = 0 then 0 else 7) from by first | (simp [(sq_z_t c_1), hpe, (sq_z_t c_2), (sq_z_t c_3), c_4, (Int32.not_lt.mpr c_4), c_5, (Int32.not_le.mpr c_5), c_6, (Int32.not_le.mp c_6), hle, c_8, c_9, (Int32.not_lt.mpr c_9), hF, c_10]; done) | (simp only [(sq_z_t c_1), hpe, (sq_z_t c_2), (sq_z_t c_3), c_4, (Int32.not_lt.mpr c_4), c_5, (Int32.not_le.mpr c_5), c_6, (Int32.not_le.mp c_6), hle, c_8, c_9, (Int32.not_lt.mpr c_9), hF, c_10, eq_self, not_true_eq_false, not_false_eq_true, and_self, and_true, true_and, and_false, false_and, or_true, true_or, or_false, false_or, if_true, if_false, ite_true, ite_false, Bool.and_eq_true, decide_true, decide_false, decide_eq_true_eq, ne_eq, Nat.reduceEqDiff, Nat.one_ne_zero, Bool.false_eq_true, reduceCtorEq]; done) | (simp only [(sq_z_t c_1), hpe, (sq_z_t c_2), (sq_z_t c_3), c_4, (Int32.not_lt.mpr c_4), c_5, (Int32.not_le.mpr c_5), c_6, (Int32.not_le.mp c_6), hle, c_8, c_9, (Int32.not_lt.mpr c_9), hF, c_10, eq_self, not_true_eq_false, not_false_eq_true, and_self, and_true, true_and, and_false, false_and, or_true, true_or, or_false, false_or, if_true, if_false, ite_true, ite_false, Bool.and_eq_true, decide_true, decide_false, decide_eq_true_eq, ne_eq, Nat.reduceEqDiff, Nat.one_ne_zero, Bool.false_eq_true, reduceCtorEq]; decide)))  dX1_sending_186
                  · -- 177 -> 180
                    refine lv_bipush (v := 7) hx hb dX1_sending_180 (by decide) ?_
                    refine lv_goto (tgt := 186) hx hb dX1_sending_182 (by decide) ?_
                    have htc : tc_sending it o n g p0 p1 p2 = 0 := by first | (simp [tc_sending, (sq_z_t c_1), hpe, (sq_z_t c_2), (sq_z_t c_3), c_4, (Int32.not_lt.mpr c_4), c_5, (Int32.not_le.mpr c_5), c_6, (Int32.not_le.mp c_6), hle, c_8, c_9, (Int32.not_lt.mpr c_9), hF, c_10]; done) | (simp only [tc_sending, (sq_z_t c_1), hpe, (sq_z_t c_2), (sq_z_t c_3), c_4, (Int32.not_lt.mpr c_4), c_5, (Int32.not_le.mpr c_5), c_6, (Int32.not_le.mp c_6), hle, c_8, c_9, (Int32.not_lt.mpr c_9), hF, c_10, eq_self, not_true_eq_false, not_false_eq_true, and_self, and_true, true_and, and_false, false_and, or_true, true_or, or_false, false_or, if_true, if_false, ite_true, ite_false, Bool.and_eq_true, decide_true, decide_false, decide_eq_true_eq, ne_eq, Nat.reduceEqDiff, Nat.one_ne_zero, Bool.false_eq_true, reduceCtorEq]; done) | (simp only [tc_sending, (sq_z_t c_1), hpe, (sq_z_t c_2), (sq_z_t c_3), c_4, (Int32.not_lt.mpr c_4), c_5, (Int32.not_le.mpr c_5), c_6, (Int32.not_le.mp c_6), hle, c_8, c_9, (Int32.not_lt.mpr c_9), hF, c_10, eq_self, not_true_eq_false, not_false_eq_true, and_self, and_true, true_and, and_false, false_and, or_true, true_or, or_false, false_or, if_true, if_false, ite_true, ite_false, Bool.and_eq_true, decide_true, decide_false, decide_eq_true_eq, ne_eq, Nat.reduceEqDiff, Nat.one_ne_zero, Bool.false_eq_true, reduceCtorEq]; decide)
                    have e_nx : (if nx p0.toNatClampNeg ≤ p1 then nx else if nx p0.toNatClampNeg ≤ p2 ∧ sq_F fl pr p0.toNatClampNeg = true then upd nx p0.toNatClampNeg (nx p0.toNatClampNeg + (sq_min ((p2 - nx p0.toNatClampNeg) + 1) 6)) else nx) = nx := by first | (simp [sm_us, (sq_z_t c_1), hpe, (sq_z_t c_2), (sq_z_t c_3), c_4, (Int32.not_lt.mpr c_4), c_5, (Int32.not_le.mpr c_5), c_6, (Int32.not_le.mp c_6), hle, c_8, c_9, (Int32.not_lt.mpr c_9), hF, c_10]; done) | (simp only [sm_us, (sq_z_t c_1), hpe, (sq_z_t c_2), (sq_z_t c_3), c_4, (Int32.not_lt.mpr c_4), c_5, (Int32.not_le.mpr c_5), c_6, (Int32.not_le.mp c_6), hle, c_8, c_9, (Int32.not_lt.mpr c_9), hF, c_10, eq_self, not_true_eq_false, not_false_eq_true, and_self, and_true, true_and, and_false, false_and, or_true, true_or, or_false, false_or, if_true, if_false, ite_true, ite_false, Bool.and_eq_true, decide_true, decide_false, decide_eq_true_eq, ne_eq, Nat.reduceEqDiff, Nat.one_ne_zero, Bool.false_eq_true, reduceCtorEq]; done) | (simp only [sm_us, (sq_z_t c_1), hpe, (sq_z_t c_2), (sq_z_t c_3), c_4, (Int32.not_lt.mpr c_4), c_5, (Int32.not_le.mpr c_5), c_6, (Int32.not_le.mp c_6), hle, c_8, c_9, (Int32.not_lt.mpr c_9), hF, c_10, eq_self, not_true_eq_false, not_false_eq_true, and_self, and_true, true_and, and_false, false_and, or_true, true_or, or_false, false_or, if_true, if_false, ite_true, ite_false, Bool.and_eq_true, decide_true, decide_false, decide_eq_true_eq, ne_eq, Nat.reduceEqDiff, Nat.one_ne_zero, Bool.false_eq_true, reduceCtorEq]; decide)
                    have e_fl : (if nx p0.toNatClampNeg ≤ p1 then (if 0 < fl p0.toNatClampNeg then fl else upd fl p0.toNatClampNeg 1) else if nx p0.toNatClampNeg ≤ p2 ∧ sq_F fl pr p0.toNatClampNeg = true then upd fl p0.toNatClampNeg (fl p0.toNatClampNeg + 1) else fl) = fl := by first | (simp [sm_us, (sq_z_t c_1), hpe, (sq_z_t c_2), (sq_z_t c_3), c_4, (Int32.not_lt.mpr c_4), c_5, (Int32.not_le.mpr c_5), c_6, (Int32.not_le.mp c_6), hle, c_8, c_9, (Int32.not_lt.mpr c_9), hF, c_10]; done) | (simp only [sm_us, (sq_z_t c_1), hpe, (sq_z_t c_2), (sq_z_t c_3), c_4, (Int32.not_lt.mpr c_4), c_5, (Int32.not_le.mpr c_5), c_6, (Int32.not_le.mp c_6), hle, c_8, c_9, (Int32.not_lt.mpr c_9), hF, c_10, eq_self, not_true_eq_false, not_false_eq_true, and_self, and_true, true_and, and_false, false_and, or_true, true_or, or_false, false_or, if_true, if_false, ite_true, ite_false, Bool.and_eq_true, decide_true, decide_false, decide_eq_true_eq, ne_eq, Nat.reduceEqDiff, Nat.one_ne_zero, Bool.false_eq_true, reduceCtorEq]; done) | (simp only [sm_us, (sq_z_t c_1), hpe, (sq_z_t c_2), (sq_z_t c_3), c_4, (Int32.not_lt.mpr c_4), c_5, (Int32.not_le.mpr c_5), c_6, (Int32.not_le.mp c_6), hle, c_8, c_9, (Int32.not_lt.mpr c_9), hF, c_10, eq_self, not_true_eq_false, not_false_eq_true, and_self, and_true, true_and, and_false, false_and, or_true, true_or, or_false, false_or, if_true, if_false, ite_true, ite_false, Bool.and_eq_true, decide_true, decide_false, decide_eq_true_eq, ne_eq, Nat.reduceEqDiff, Nat.one_ne_zero, Bool.false_eq_true, reduceCtorEq]; decide)
                    exact kz_wreti hx hb hr hlocks (by simp only [htc, if_true, e_nx, e_fl]; exact hP) (by simp only [htc, if_true, e_nx, e_fl]; exact hD) hS (Nat.le_of_ble_eq_true rfl) (Nat.le_of_ble_eq_true rfl) (by rw [htc]; exact (show 7 = (if nx p0.toNatClampNeg ≤ p1 then (if 0 < fl p0.toNatClampNeg then 0 else 8) else if nx p0.toNatClampNeg ≤ p2 ∧ sq_F fl pr p0.toNatClampNeg = true then (sq_min ((p2 - nx p0.toNatClampNeg) + 1) 6) else if p3 = 0 then 0 else 7) from by first | (simp [(sq_z_t c_1), hpe, (sq_z_t c_2), (sq_z_t c_3), c_4, (Int32.not_lt.mpr c_4), c_5, (Int32.not_le.mpr c_5), c_6, (Int32.not_le.mp c_6), hle, c_8, c_9, (Int32.not_lt.mpr c_9), hF, c_10]; done) | (simp only [(sq_z_t c_1), hpe, (sq_z_t c_2), (sq_z_t c_3), c_4, (Int32.not_lt.mpr c_4), c_5, (Int32.not_le.mpr c_5), c_6, (Int32.not_le.mp c_6), hle, c_8, c_9, (Int32.not_lt.mpr c_9), hF, c_10, eq_self, not_true_eq_false, not_false_eq_true, and_self, and_true, true_and, and_false, false_and, or_true, true_or, or_false, false_or, if_true, if_false, ite_true, ite_false, Bool.and_eq_true, decide_true, decide_false, decide_eq_true_eq, ne_eq, Nat.reduceEqDiff, Nat.one_ne_zero, Bool.false_eq_true, reduceCtorEq]; done) | (simp only [(sq_z_t c_1), hpe, (sq_z_t c_2), (sq_z_t c_3), c_4, (Int32.not_lt.mpr c_4), c_5, (Int32.not_le.mpr c_5), c_6, (Int32.not_le.mp c_6), hle, c_8, c_9, (Int32.not_lt.mpr c_9), hF, c_10, eq_self, not_true_eq_false, not_false_eq_true, and_self, and_true, true_and, and_false, false_and, or_true, true_or, or_false, false_or, if_true, if_false, ite_true, ite_false, Bool.and_eq_true, decide_true, decide_false, decide_eq_true_eq, ne_eq, Nat.reduceEqDiff, Nat.one_ne_zero, Bool.false_eq_true, reduceCtorEq]; decide)))  dX1_sending_186
                · -- 128 -> 131
                  have hF : sq_F fl pr p0.toNatClampNeg = true := sm_F4t (hpa _ hsA).1 c_8 c_9
                  refine lv_iload hx hb dX1_sending_131 (lv_at hl 0 rfl) ?_
                  refine lv_bipush (v := 6) hx hb dX1_sending_133 (by decide) ?_
                  refine lv_icmp_le (tgt := 143) hx hb dX1_sending_135 (by decide) (fun c_11 => ?_) (fun c_11 => ?_)
                  · -- 135 -> 143
                    have hmin : sq_min ((p2 - (nx p0.toNatClampNeg)) + 1) 6 = ((p2 - (nx p0.toNatClampNeg)) + 1) := sm_mn1 c_11
                    refine lv_iload hx hb dX1_sending_143 (lv_at hl 0 rfl) ?_
                    refine lv_istore (lv' := [(7, .int ((p2 - (nx p0.toNatClampNeg)) + 1)), (6, .int ((p2 - (nx p0.toNatClampNeg)) + 1)), (5, .int (fl p0.toNatClampNeg)), (0, .ref (bd 0)), (1, .int p0), (2, .int p1), (3, .int p2), (4, .int p3)]) hx hb dX1_sending_145 hl (by decide) rfl (fun ls hl => ?_)
                    refine lv_aload_n hx hb dX1_sending_147 rfl (lv_at hl 3 rfl) ?_
                    refine lv_iload_n hx hb dX1_sending_148 rfl (lv_at hl 4 rfl) ?_
                    refine lv_iconst (v := 0) hx hb dX1_sending_149 (by decide) ?_
                    refine lv_aload_n hx hb dX1_sending_150 rfl (lv_at hl 3 rfl) ?_
                    refine lv_iload_n hx hb dX1_sending_151 rfl (lv_at hl 4 rfl) ?_
                    refine lv_iconst (v := 0) hx hb dX1_sending_152 (by decide) ?_
                    refine kz_rV (As := [.int p0, .int 0]) (rest := [.int 0, .int p0, .ref (bd 0)]) ⟨hx, hb, hml, hown, hw9⟩ (c_X1_get l hl9 D cI ty bd rs H.size 0 it o n g v r (sm_al nx mt fl pr ofs ak hd an) p0.toNatClampNeg 0 p0 0 hsA (by decide) hsE rfl) (kz_cV 2 hw9 mw_403 mw_405 ms_11 mw_2 mw_406 rfl rfl (by decide +kernel) ⟨Nat.le_of_ble_eq_true rfl, Nat.le_of_ble_eq_true rfl⟩) (kz_preV (q0 := 0) (ci := 1) hK hP hD hS hA hE rfl rfl) rfl hl.1 rfl (Nat.le_of_ble_eq_true rfl) dX1_sending_153 ⟨Nat.le_of_ble_eq_true rfl, Nat.le_of_ble_eq_true rfl⟩ (fun _ _ _ _ h => False.elim h) (fun v9 H hv9 hO1 => ?_)
                    obtain ⟨_, rfl, rfl⟩ := hv9
                    have hP := hO1.P hP
                    have hS := hO1.S hS
                    rw [sm_g0]
                    refine W.eq (g2 := F0 m 156 ls [.int (nx p0.toNatClampNeg), .int 0, .int p0, .ref (bd 0)]) rfl ?_
                    refine lv_iload hx hb dX1_sending_156 (lv_at hl 0 rfl) ?_
                    refine lv_iadd hx hb dX1_sending_158 ?_
                    refine kz_wV (As := [.int p0, .int 0, .int ((nx p0.toNatClampNeg) + ((p2 - (nx p0.toNatClampNeg)) + 1))]) (rest := []) ⟨hx, hb, hml, hown, hw9⟩ (c_X1_put l hl9 D cI ty bd rs H.size 0 it o n g v r (sm_al nx mt fl pr ofs ak hd an) p0.toNatClampNeg 0 p0 0 ((nx p0.toNatClampNeg) + ((p2 - (nx p0.toNatClampNeg)) + 1)) hsA (by decide) hsE rfl) (kz_cV 3 hw9 mw_442 mw_444 ms_14 mw_2 mw_445 rfl rfl (by decide +kernel) ⟨Nat.le_of_ble_eq_true rfl, Nat.le_of_ble_eq_true rfl⟩) (kz_preV (q0 := 0) (ci := 1) hK hP hD hS hA hE rfl rfl) rfl hl.1 rfl (Nat.le_of_ble_eq_true rfl) dX1_sending_159 ⟨Nat.le_of_ble_eq_true rfl, Nat.le_of_ble_eq_true rfl⟩ hD hS hA (fun _ _ _ _ _ _ h => False.elim h) (fun v9 H locs hv9 hP hD hS => ?_)
                    obtain ⟨rfl, -⟩ := hv9
                    rw [sm_p0] at hP hD
                    have hP : va_P D vwCl (wM bd cI 0 it o n g v r (sm_al (upd nx p0.toNatClampNeg ((nx p0.toNatClampNeg) + ((p2 - (nx p0.toNatClampNeg)) + 1))) mt fl pr ofs ak hd an) ++ rs) H := hP
                    have hD : va_D A (wM bd cI 0 it o n g v r (sm_al (upd nx p0.toNatClampNeg ((nx p0.toNatClampNeg) + ((p2 - (nx p0.toNatClampNeg)) + 1))) mt fl pr ofs ak hd an) ++ rs) := hD
                    refine W.eq (g2 := F0 m 162 ls []) rfl ?_
                    refine lv_aload_n hx hb dX1_sending_162 rfl (lv_at hl 3 rfl) ?_
                    refine lv_iload_n hx hb dX1_sending_163 rfl (lv_at hl 4 rfl) ?_
                    refine lv_iconst (v := 2) hx hb dX1_sending_164 (by decide) ?_
                    refine lv_iload hx hb dX1_sending_165 (lv_at hl 2 rfl) ?_
                    refine lv_iconst (v := 1) hx hb dX1_sending_167 (by decide) ?_
                    refine lv_iadd hx hb dX1_sending_168 ?_
                    refine kz_wV (As := [.int p0, .int 2, .int ((fl p0.toNatClampNeg) + 1)]) (rest := []) ⟨hx, hb, hml, hown, hw9⟩ (c_X1_put l hl9 D cI ty bd rs H.size 0 it o n g v r (sm_al (upd nx p0.toNatClampNeg ((nx p0.toNatClampNeg) + ((p2 - (nx p0.toNatClampNeg)) + 1))) mt fl pr ofs ak hd an) p0.toNatClampNeg 2 p0 2 ((fl p0.toNatClampNeg) + 1) hsA (by decide) hsE rfl) (kz_cV 3 hw9 mw_442 mw_444 ms_14 mw_2 mw_445 rfl rfl (by decide +kernel) ⟨Nat.le_of_ble_eq_true rfl, Nat.le_of_ble_eq_true rfl⟩) (kz_preV (q0 := 0) (ci := 1) hK hP hD hS hA hE rfl rfl) rfl hl.1 rfl (Nat.le_of_ble_eq_true rfl) dX1_sending_169 ⟨Nat.le_of_ble_eq_true rfl, Nat.le_of_ble_eq_true rfl⟩ hD hS hA (fun _ _ _ _ _ _ h => False.elim h) (fun v9 H locs hv9 hP hD hS => ?_)
                    obtain ⟨rfl, -⟩ := hv9
                    rw [sm_p2] at hP hD
                    have hP : va_P D vwCl (wM bd cI 0 it o n g v r (sm_al (upd nx p0.toNatClampNeg ((nx p0.toNatClampNeg) + ((p2 - (nx p0.toNatClampNeg)) + 1))) mt (upd fl p0.toNatClampNeg ((fl p0.toNatClampNeg) + 1)) pr ofs ak hd an) ++ rs) H := hP
                    have hD : va_D A (wM bd cI 0 it o n g v r (sm_al (upd nx p0.toNatClampNeg ((nx p0.toNatClampNeg) + ((p2 - (nx p0.toNatClampNeg)) + 1))) mt (upd fl p0.toNatClampNeg ((fl p0.toNatClampNeg) + 1)) pr ofs ak hd an) ++ rs) := hD
                    refine W.eq (g2 := F0 m 172 ls []) rfl ?_
                    refine lv_iload hx hb dX1_sending_172 (lv_at hl 0 rfl) ?_
                    have htc : tc_sending it o n g p0 p1 p2 = 0 := by first | (simp [tc_sending, (sq_z_t c_1), hpe, (sq_z_t c_2), (sq_z_t c_3), c_4, (Int32.not_lt.mpr c_4), c_5, (Int32.not_le.mpr c_5), c_6, (Int32.not_le.mp c_6), hle, c_8, c_9, (Int32.not_le.mp c_9), hF, c_11, (Int32.not_lt.mpr c_11), hmin]; done) | (simp only [tc_sending, (sq_z_t c_1), hpe, (sq_z_t c_2), (sq_z_t c_3), c_4, (Int32.not_lt.mpr c_4), c_5, (Int32.not_le.mpr c_5), c_6, (Int32.not_le.mp c_6), hle, c_8, c_9, (Int32.not_le.mp c_9), hF, c_11, (Int32.not_lt.mpr c_11), hmin, eq_self, not_true_eq_false, not_false_eq_true, and_self, and_true, true_and, and_false, false_and, or_true, true_or, or_false, false_or, if_true, if_false, ite_true, ite_false, Bool.and_eq_true, decide_true, decide_false, decide_eq_true_eq, ne_eq, Nat.reduceEqDiff, Nat.one_ne_zero, Bool.false_eq_true, reduceCtorEq]; done) | (simp only [tc_sending, (sq_z_t c_1), hpe, (sq_z_t c_2), (sq_z_t c_3), c_4, (Int32.not_lt.mpr c_4), c_5, (Int32.not_le.mpr c_5), c_6, (Int32.not_le.mp c_6), hle, c_8, c_9, (Int32.not_le.mp c_9), hF, c_11, (Int32.not_lt.mpr c_11), hmin, eq_self, not_true_eq_false, not_false_eq_true, and_self, and_true, true_and, and_false, false_and, or_true, true_or, or_false, false_or, if_true, if_false, ite_true, ite_false, Bool.and_eq_true, decide_true, decide_false, decide_eq_true_eq, ne_eq, Nat.reduceEqDiff, Nat.one_ne_zero, Bool.false_eq_true, reduceCtorEq]; decide)
                    have e_nx : (if nx p0.toNatClampNeg ≤ p1 then nx else if nx p0.toNatClampNeg ≤ p2 ∧ sq_F fl pr p0.toNatClampNeg = true then upd nx p0.toNatClampNeg (nx p0.toNatClampNeg + (sq_min ((p2 - nx p0.toNatClampNeg) + 1) 6)) else nx) = upd nx p0.toNatClampNeg ((nx p0.toNatClampNeg) + ((p2 - (nx p0.toNatClampNeg)) + 1)) := by first | (simp [sm_us, (sq_z_t c_1), hpe, (sq_z_t c_2), (sq_z_t c_3), c_4, (Int32.not_lt.mpr c_4), c_5, (Int32.not_le.mpr c_5), c_6, (Int32.not_le.mp c_6), hle, c_8, c_9, (Int32.not_le.mp c_9), hF, c_11, (Int32.not_lt.mpr c_11), hmin]; done) | (simp only [sm_us, (sq_z_t c_1), hpe, (sq_z_t c_2), (sq_z_t c_3), c_4, (Int32.not_lt.mpr c_4), c_5, (Int32.not_le.mpr c_5), c_6, (Int32.not_le.mp c_6), hle, c_8, c_9, (Int32.not_le.mp c_9), hF, c_11, (Int32.not_lt.mpr c_11), hmin, eq_self, not_true_eq_false, not_false_eq_true, and_self, and_true, true_and, and_false, false_and, or_true, true_or, or_false, false_or, if_true, if_false, ite_true, ite_false, Bool.and_eq_true, decide_true, decide_false, decide_eq_true_eq, ne_eq, Nat.reduceEqDiff, Nat.one_ne_zero, Bool.false_eq_true, reduceCtorEq]; done) | (simp only [sm_us, (sq_z_t c_1), hpe, (sq_z_t c_2), (sq_z_t c_3), c_4, (Int32.not_lt.mpr c_4), c_5, (Int32.not_le.mpr c_5), c_6, (Int32.not_le.mp c_6), hle, c_8, c_9, (Int32.not_le.mp c_9), hF, c_11, (Int32.not_lt.mpr c_11), hmin, eq_self, not_true_eq_false, not_false_eq_true, and_self, and_true, true_and, and_false, false_and, or_true, true_or, or_false, false_or, if_true, if_false, ite_true, ite_false, Bool.and_eq_true, decide_true, decide_false, decide_eq_true_eq, ne_eq, Nat.reduceEqDiff, Nat.one_ne_zero, Bool.false_eq_true, reduceCtorEq]; decide)
                    have e_fl : (if nx p0.toNatClampNeg ≤ p1 then (if 0 < fl p0.toNatClampNeg then fl else upd fl p0.toNatClampNeg 1) else if nx p0.toNatClampNeg ≤ p2 ∧ sq_F fl pr p0.toNatClampNeg = true then upd fl p0.toNatClampNeg (fl p0.toNatClampNeg + 1) else fl) = upd fl p0.toNatClampNeg ((fl p0.toNatClampNeg) + 1) := by first | (simp [sm_us, (sq_z_t c_1), hpe, (sq_z_t c_2), (sq_z_t c_3), c_4, (Int32.not_lt.mpr c_4), c_5, (Int32.not_le.mpr c_5), c_6, (Int32.not_le.mp c_6), hle, c_8, c_9, (Int32.not_le.mp c_9), hF, c_11, (Int32.not_lt.mpr c_11), hmin]; done) | (simp only [sm_us, (sq_z_t c_1), hpe, (sq_z_t c_2), (sq_z_t c_3), c_4, (Int32.not_lt.mpr c_4), c_5, (Int32.not_le.mpr c_5), c_6, (Int32.not_le.mp c_6), hle, c_8, c_9, (Int32.not_le.mp c_9), hF, c_11, (Int32.not_lt.mpr c_11), hmin, eq_self, not_true_eq_false, not_false_eq_true, and_self, and_true, true_and, and_false, false_and, or_true, true_or, or_false, false_or, if_true, if_false, ite_true, ite_false, Bool.and_eq_true, decide_true, decide_false, decide_eq_true_eq, ne_eq, Nat.reduceEqDiff, Nat.one_ne_zero, Bool.false_eq_true, reduceCtorEq]; done) | (simp only [sm_us, (sq_z_t c_1), hpe, (sq_z_t c_2), (sq_z_t c_3), c_4, (Int32.not_lt.mpr c_4), c_5, (Int32.not_le.mpr c_5), c_6, (Int32.not_le.mp c_6), hle, c_8, c_9, (Int32.not_le.mp c_9), hF, c_11, (Int32.not_lt.mpr c_11), hmin, eq_self, not_true_eq_false, not_false_eq_true, and_self, and_true, true_and, and_false, false_and, or_true, true_or, or_false, false_or, if_true, if_false, ite_true, ite_false, Bool.and_eq_true, decide_true, decide_false, decide_eq_true_eq, ne_eq, Nat.reduceEqDiff, Nat.one_ne_zero, Bool.false_eq_true, reduceCtorEq]; decide)
                    exact kz_wreti hx hb hr hlocks (by simp only [htc, if_true, e_nx, e_fl]; exact hP) (by simp only [htc, if_true, e_nx, e_fl]; exact hD) hS (Nat.le_of_ble_eq_true rfl) (Nat.le_of_ble_eq_true rfl) (by rw [htc]; exact (show ((p2 - (nx p0.toNatClampNeg)) + 1) = (if nx p0.toNatClampNeg ≤ p1 then (if 0 < fl p0.toNatClampNeg then 0 else 8) else if nx p0.toNatClampNeg ≤ p2 ∧ sq_F fl pr p0.toNatClampNeg = true then (sq_min ((p2 - nx p0.toNatClampNeg) + 1) 6) else if p3 = 0 then 0 else 7) from by first | (simp [(sq_z_t c_1), hpe, (sq_z_t c_2), (sq_z_t c_3), c_4, (Int32.not_lt.mpr c_4), c_5, (Int32.not_le.mpr c_5), c_6, (Int32.not_le.mp c_6), hle, c_8, c_9, (Int32.not_le.mp c_9), hF, c_11, (Int32.not_lt.mpr c_11), hmin]; done) | (simp only [(sq_z_t c_1), hpe, (sq_z_t c_2), (sq_z_t c_3), c_4, (Int32.not_lt.mpr c_4), c_5, (Int32.not_le.mpr c_5), c_6, (Int32.not_le.mp c_6), hle, c_8, c_9, (Int32.not_le.mp c_9), hF, c_11, (Int32.not_lt.mpr c_11), hmin, eq_self, not_true_eq_false, not_false_eq_true, and_self, and_true, true_and, and_false, false_and, or_true, true_or, or_false, false_or, if_true, if_false, ite_true, ite_false, Bool.and_eq_true, decide_true, decide_false, decide_eq_true_eq, ne_eq, Nat.reduceEqDiff, Nat.one_ne_zero, Bool.false_eq_true, reduceCtorEq]; done) | (simp only [(sq_z_t c_1), hpe, (sq_z_t c_2), (sq_z_t c_3), c_4, (Int32.not_lt.mpr c_4), c_5, (Int32.not_le.mpr c_5), c_6, (Int32.not_le.mp c_6), hle, c_8, c_9, (Int32.not_le.mp c_9), hF, c_11, (Int32.not_lt.mpr c_11), hmin, eq_self, not_true_eq_false, not_false_eq_true, and_self, and_true, true_and, and_false, false_and, or_true, true_or, or_false, false_or, if_true, if_false, ite_true, ite_false, Bool.and_eq_true, decide_true, decide_false, decide_eq_true_eq, ne_eq, Nat.reduceEqDiff, Nat.one_ne_zero, Bool.false_eq_true, reduceCtorEq]; decide)))  dX1_sending_174
                  · -- 135 -> 138
                    have hmin : sq_min ((p2 - (nx p0.toNatClampNeg)) + 1) 6 = 6 := sm_mn2 c_11
                    refine lv_bipush (v := 6) hx hb dX1_sending_138 (by decide) ?_
                    refine lv_goto (tgt := 145) hx hb dX1_sending_140 (by decide) ?_
                    refine lv_istore (lv' := [(7, .int 6), (6, .int ((p2 - (nx p0.toNatClampNeg)) + 1)), (5, .int (fl p0.toNatClampNeg)), (0, .ref (bd 0)), (1, .int p0), (2, .int p1), (3, .int p2), (4, .int p3)]) hx hb dX1_sending_145 hl (by decide) rfl (fun ls hl => ?_)
                    refine lv_aload_n hx hb dX1_sending_147 rfl (lv_at hl 3 rfl) ?_
                    refine lv_iload_n hx hb dX1_sending_148 rfl (lv_at hl 4 rfl) ?_
                    refine lv_iconst (v := 0) hx hb dX1_sending_149 (by decide) ?_
                    refine lv_aload_n hx hb dX1_sending_150 rfl (lv_at hl 3 rfl) ?_
                    refine lv_iload_n hx hb dX1_sending_151 rfl (lv_at hl 4 rfl) ?_
                    refine lv_iconst (v := 0) hx hb dX1_sending_152 (by decide) ?_
                    refine kz_rV (As := [.int p0, .int 0]) (rest := [.int 0, .int p0, .ref (bd 0)]) ⟨hx, hb, hml, hown, hw9⟩ (c_X1_get l hl9 D cI ty bd rs H.size 0 it o n g v r (sm_al nx mt fl pr ofs ak hd an) p0.toNatClampNeg 0 p0 0 hsA (by decide) hsE rfl) (kz_cV 2 hw9 mw_403 mw_405 ms_11 mw_2 mw_406 rfl rfl (by decide +kernel) ⟨Nat.le_of_ble_eq_true rfl, Nat.le_of_ble_eq_true rfl⟩) (kz_preV (q0 := 0) (ci := 1) hK hP hD hS hA hE rfl rfl) rfl hl.1 rfl (Nat.le_of_ble_eq_true rfl) dX1_sending_153 ⟨Nat.le_of_ble_eq_true rfl, Nat.le_of_ble_eq_true rfl⟩ (fun _ _ _ _ h => False.elim h) (fun v9 H hv9 hO1 => ?_)
                    obtain ⟨_, rfl, rfl⟩ := hv9
                    have hP := hO1.P hP
                    have hS := hO1.S hS
                    rw [sm_g0]
                    refine W.eq (g2 := F0 m 156 ls [.int (nx p0.toNatClampNeg), .int 0, .int p0, .ref (bd 0)]) rfl ?_
                    refine lv_iload hx hb dX1_sending_156 (lv_at hl 0 rfl) ?_
                    refine lv_iadd hx hb dX1_sending_158 ?_
                    refine kz_wV (As := [.int p0, .int 0, .int ((nx p0.toNatClampNeg) + 6)]) (rest := []) ⟨hx, hb, hml, hown, hw9⟩ (c_X1_put l hl9 D cI ty bd rs H.size 0 it o n g v r (sm_al nx mt fl pr ofs ak hd an) p0.toNatClampNeg 0 p0 0 ((nx p0.toNatClampNeg) + 6) hsA (by decide) hsE rfl) (kz_cV 3 hw9 mw_442 mw_444 ms_14 mw_2 mw_445 rfl rfl (by decide +kernel) ⟨Nat.le_of_ble_eq_true rfl, Nat.le_of_ble_eq_true rfl⟩) (kz_preV (q0 := 0) (ci := 1) hK hP hD hS hA hE rfl rfl) rfl hl.1 rfl (Nat.le_of_ble_eq_true rfl) dX1_sending_159 ⟨Nat.le_of_ble_eq_true rfl, Nat.le_of_ble_eq_true rfl⟩ hD hS hA (fun _ _ _ _ _ _ h => False.elim h) (fun v9 H locs hv9 hP hD hS => ?_)
                    obtain ⟨rfl, -⟩ := hv9
                    rw [sm_p0] at hP hD
                    have hP : va_P D vwCl (wM bd cI 0 it o n g v r (sm_al (upd nx p0.toNatClampNeg ((nx p0.toNatClampNeg) + 6)) mt fl pr ofs ak hd an) ++ rs) H := hP
                    have hD : va_D A (wM bd cI 0 it o n g v r (sm_al (upd nx p0.toNatClampNeg ((nx p0.toNatClampNeg) + 6)) mt fl pr ofs ak hd an) ++ rs) := hD
                    refine W.eq (g2 := F0 m 162 ls []) rfl ?_
                    refine lv_aload_n hx hb dX1_sending_162 rfl (lv_at hl 3 rfl) ?_
                    refine lv_iload_n hx hb dX1_sending_163 rfl (lv_at hl 4 rfl) ?_
                    refine lv_iconst (v := 2) hx hb dX1_sending_164 (by decide) ?_
                    refine lv_iload hx hb dX1_sending_165 (lv_at hl 2 rfl) ?_
                    refine lv_iconst (v := 1) hx hb dX1_sending_167 (by decide) ?_
                    refine lv_iadd hx hb dX1_sending_168 ?_
                    refine kz_wV (As := [.int p0, .int 2, .int ((fl p0.toNatClampNeg) + 1)]) (rest := []) ⟨hx, hb, hml, hown, hw9⟩ (c_X1_put l hl9 D cI ty bd rs H.size 0 it o n g v r (sm_al (upd nx p0.toNatClampNeg ((nx p0.toNatClampNeg) + 6)) mt fl pr ofs ak hd an) p0.toNatClampNeg 2 p0 2 ((fl p0.toNatClampNeg) + 1) hsA (by decide) hsE rfl) (kz_cV 3 hw9 mw_442 mw_444 ms_14 mw_2 mw_445 rfl rfl (by decide +kernel) ⟨Nat.le_of_ble_eq_true rfl, Nat.le_of_ble_eq_true rfl⟩) (kz_preV (q0 := 0) (ci := 1) hK hP hD hS hA hE rfl rfl) rfl hl.1 rfl (Nat.le_of_ble_eq_true rfl) dX1_sending_169 ⟨Nat.le_of_ble_eq_true rfl, Nat.le_of_ble_eq_true rfl⟩ hD hS hA (fun _ _ _ _ _ _ h => False.elim h) (fun v9 H locs hv9 hP hD hS => ?_)
                    obtain ⟨rfl, -⟩ := hv9
                    rw [sm_p2] at hP hD
                    have hP : va_P D vwCl (wM bd cI 0 it o n g v r (sm_al (upd nx p0.toNatClampNeg ((nx p0.toNatClampNeg) + 6)) mt (upd fl p0.toNatClampNeg ((fl p0.toNatClampNeg) + 1)) pr ofs ak hd an) ++ rs) H := hP
                    have hD : va_D A (wM bd cI 0 it o n g v r (sm_al (upd nx p0.toNatClampNeg ((nx p0.toNatClampNeg) + 6)) mt (upd fl p0.toNatClampNeg ((fl p0.toNatClampNeg) + 1)) pr ofs ak hd an) ++ rs) := hD
                    refine W.eq (g2 := F0 m 172 ls []) rfl ?_
                    refine lv_iload hx hb dX1_sending_172 (lv_at hl 0 rfl) ?_
                    have htc : tc_sending it o n g p0 p1 p2 = 0 := by first | (simp [tc_sending, (sq_z_t c_1), hpe, (sq_z_t c_2), (sq_z_t c_3), c_4, (Int32.not_lt.mpr c_4), c_5, (Int32.not_le.mpr c_5), c_6, (Int32.not_le.mp c_6), hle, c_8, c_9, (Int32.not_le.mp c_9), hF, c_11, (Int32.not_le.mp c_11), hmin]; done) | (simp only [tc_sending, (sq_z_t c_1), hpe, (sq_z_t c_2), (sq_z_t c_3), c_4, (Int32.not_lt.mpr c_4), c_5, (Int32.not_le.mpr c_5), c_6, (Int32.not_le.mp c_6), hle, c_8, c_9, (Int32.not_le.mp c_9), hF, c_11, (Int32.not_le.mp c_11), hmin, eq_self, not_true_eq_false, not_false_eq_true, and_self, and_true, true_and, and_false, false_and, or_true, true_or, or_false, false_or, if_true, if_false, ite_true, ite_false, Bool.and_eq_true, decide_true, decide_false, decide_eq_true_eq, ne_eq, Nat.reduceEqDiff, Nat.one_ne_zero, Bool.false_eq_true, reduceCtorEq]; done) | (simp only [tc_sending, (sq_z_t c_1), hpe, (sq_z_t c_2), (sq_z_t c_3), c_4, (Int32.not_lt.mpr c_4), c_5, (Int32.not_le.mpr c_5), c_6, (Int32.not_le.mp c_6), hle, c_8, c_9, (Int32.not_le.mp c_9), hF, c_11, (Int32.not_le.mp c_11), hmin, eq_self, not_true_eq_false, not_false_eq_true, and_self, and_true, true_and, and_false, false_and, or_true, true_or, or_false, false_or, if_true, if_false, ite_true, ite_false, Bool.and_eq_true, decide_true, decide_false, decide_eq_true_eq, ne_eq, Nat.reduceEqDiff, Nat.one_ne_zero, Bool.false_eq_true, reduceCtorEq]; decide)
                    have e_nx : (if nx p0.toNatClampNeg ≤ p1 then nx else if nx p0.toNatClampNeg ≤ p2 ∧ sq_F fl pr p0.toNatClampNeg = true then upd nx p0.toNatClampNeg (nx p0.toNatClampNeg + (sq_min ((p2 - nx p0.toNatClampNeg) + 1) 6)) else nx) = upd nx p0.toNatClampNeg ((nx p0.toNatClampNeg) + 6) := by first | (simp [sm_us, (sq_z_t c_1), hpe, (sq_z_t c_2), (sq_z_t c_3), c_4, (Int32.not_lt.mpr c_4), c_5, (Int32.not_le.mpr c_5), c_6, (Int32.not_le.mp c_6), hle, c_8, c_9, (Int32.not_le.mp c_9), hF, c_11, (Int32.not_le.mp c_11), hmin]; done) | (simp only [sm_us, (sq_z_t c_1), hpe, (sq_z_t c_2), (sq_z_t c_3), c_4, (Int32.not_lt.mpr c_4), c_5, (Int32.not_le.mpr c_5), c_6, (Int32.not_le.mp c_6), hle, c_8, c_9, (Int32.not_le.mp c_9), hF, c_11, (Int32.not_le.mp c_11), hmin, eq_self, not_true_eq_false, not_false_eq_true, and_self, and_true, true_and, and_false, false_and, or_true, true_or, or_false, false_or, if_true, if_false, ite_true, ite_false, Bool.and_eq_true, decide_true, decide_false, decide_eq_true_eq, ne_eq, Nat.reduceEqDiff, Nat.one_ne_zero, Bool.false_eq_true, reduceCtorEq]; done) | (simp only [sm_us, (sq_z_t c_1), hpe, (sq_z_t c_2), (sq_z_t c_3), c_4, (Int32.not_lt.mpr c_4), c_5, (Int32.not_le.mpr c_5), c_6, (Int32.not_le.mp c_6), hle, c_8, c_9, (Int32.not_le.mp c_9), hF, c_11, (Int32.not_le.mp c_11), hmin, eq_self, not_true_eq_false, not_false_eq_true, and_self, and_true, true_and, and_false, false_and, or_true, true_or, or_false, false_or, if_true, if_false, ite_true, ite_false, Bool.and_eq_true, decide_true, decide_false, decide_eq_true_eq, ne_eq, Nat.reduceEqDiff, Nat.one_ne_zero, Bool.false_eq_true, reduceCtorEq]; decide)
                    have e_fl : (if nx p0.toNatClampNeg ≤ p1 then (if 0 < fl p0.toNatClampNeg then fl else upd fl p0.toNatClampNeg 1) else if nx p0.toNatClampNeg ≤ p2 ∧ sq_F fl pr p0.toNatClampNeg = true then upd fl p0.toNatClampNeg (fl p0.toNatClampNeg + 1) else fl) = upd fl p0.toNatClampNeg ((fl p0.toNatClampNeg) + 1) := by first | (simp [sm_us, (sq_z_t c_1), hpe, (sq_z_t c_2), (sq_z_t c_3), c_4, (Int32.not_lt.mpr c_4), c_5, (Int32.not_le.mpr c_5), c_6, (Int32.not_le.mp c_6), hle, c_8, c_9, (Int32.not_le.mp c_9), hF, c_11, (Int32.not_le.mp c_11), hmin]; done) | (simp only [sm_us, (sq_z_t c_1), hpe, (sq_z_t c_2), (sq_z_t c_3), c_4, (Int32.not_lt.mpr c_4), c_5, (Int32.not_le.mpr c_5), c_6, (Int32.not_le.mp c_6), hle, c_8, c_9, (Int32.not_le.mp c_9), hF, c_11, (Int32.not_le.mp c_11), hmin, eq_self, not_true_eq_false, not_false_eq_true, and_self, and_true, true_and, and_false, false_and, or_true, true_or, or_false, false_or, if_true, if_false, ite_true, ite_false, Bool.and_eq_true, decide_true, decide_false, decide_eq_true_eq, ne_eq, Nat.reduceEqDiff, Nat.one_ne_zero, Bool.false_eq_true, reduceCtorEq]; done) | (simp only [sm_us, (sq_z_t c_1), hpe, (sq_z_t c_2), (sq_z_t c_3), c_4, (Int32.not_lt.mpr c_4), c_5, (Int32.not_le.mpr c_5), c_6, (Int32.not_le.mp c_6), hle, c_8, c_9, (Int32.not_le.mp c_9), hF, c_11, (Int32.not_le.mp c_11), hmin, eq_self, not_true_eq_false, not_false_eq_true, and_self, and_true, true_and, and_false, false_and, or_true, true_or, or_false, false_or, if_true, if_false, ite_true, ite_false, Bool.and_eq_true, decide_true, decide_false, decide_eq_true_eq, ne_eq, Nat.reduceEqDiff, Nat.one_ne_zero, Bool.false_eq_true, reduceCtorEq]; decide)
                    exact kz_wreti hx hb hr hlocks (by simp only [htc, if_true, e_nx, e_fl]; exact hP) (by simp only [htc, if_true, e_nx, e_fl]; exact hD) hS (Nat.le_of_ble_eq_true rfl) (Nat.le_of_ble_eq_true rfl) (by rw [htc]; exact (show 6 = (if nx p0.toNatClampNeg ≤ p1 then (if 0 < fl p0.toNatClampNeg then 0 else 8) else if nx p0.toNatClampNeg ≤ p2 ∧ sq_F fl pr p0.toNatClampNeg = true then (sq_min ((p2 - nx p0.toNatClampNeg) + 1) 6) else if p3 = 0 then 0 else 7) from by first | (simp [(sq_z_t c_1), hpe, (sq_z_t c_2), (sq_z_t c_3), c_4, (Int32.not_lt.mpr c_4), c_5, (Int32.not_le.mpr c_5), c_6, (Int32.not_le.mp c_6), hle, c_8, c_9, (Int32.not_le.mp c_9), hF, c_11, (Int32.not_le.mp c_11), hmin]; done) | (simp only [(sq_z_t c_1), hpe, (sq_z_t c_2), (sq_z_t c_3), c_4, (Int32.not_lt.mpr c_4), c_5, (Int32.not_le.mpr c_5), c_6, (Int32.not_le.mp c_6), hle, c_8, c_9, (Int32.not_le.mp c_9), hF, c_11, (Int32.not_le.mp c_11), hmin, eq_self, not_true_eq_false, not_false_eq_true, and_self, and_true, true_and, and_false, false_and, or_true, true_or, or_false, false_or, if_true, if_false, ite_true, ite_false, Bool.and_eq_true, decide_true, decide_false, decide_eq_true_eq, ne_eq, Nat.reduceEqDiff, Nat.one_ne_zero, Bool.false_eq_true, reduceCtorEq]; done) | (simp only [(sq_z_t c_1), hpe, (sq_z_t c_2), (sq_z_t c_3), c_4, (Int32.not_lt.mpr c_4), c_5, (Int32.not_le.mpr c_5), c_6, (Int32.not_le.mp c_6), hle, c_8, c_9, (Int32.not_le.mp c_9), hF, c_11, (Int32.not_le.mp c_11), hmin, eq_self, not_true_eq_false, not_false_eq_true, and_self, and_true, true_and, and_false, false_and, or_true, true_or, or_false, false_or, if_true, if_false, ite_true, ite_false, Bool.and_eq_true, decide_true, decide_false, decide_eq_true_eq, ne_eq, Nat.reduceEqDiff, Nat.one_ne_zero, Bool.false_eq_true, reduceCtorEq]; decide)))  dX1_sending_174
              · -- 120 -> 123
                refine lv_iconst (v := 1) hx hb dX1_sending_123 (by decide) ?_
                refine lv_goto (tgt := 128) hx hb dX1_sending_124 (by decide) ?_
                refine lv_icmp_ge (tgt := 175) hx hb dX1_sending_128 (by decide) (fun c_12 => ?_) (fun c_12 => ?_)
                · -- 128 -> 175
                  have hF : sq_F fl pr p0.toNatClampNeg = false := sm_F1f (hpa _ hsA).1 c_8 c_12
                  refine lv_iload hx hb dX1_sending_175 (lv_at hl 6 rfl) ?_
                  refine lv_if_eq (tgt := 185) hx hb dX1_sending_177 (by decide) (fun c_13 => ?_) (fun c_13 => ?_)
                  · -- 177 -> 185
                    refine lv_iconst (v := 0) hx hb dX1_sending_185 (by decide) ?_
                    have htc : tc_sending it o n g p0 p1 p2 = 0 := by first | (simp [tc_sending, (sq_z_t c_1), hpe, (sq_z_t c_2), (sq_z_t c_3), c_4, (Int32.not_lt.mpr c_4), c_5, (Int32.not_le.mpr c_5), c_6, (Int32.not_le.mp c_6), hle, c_8, c_12, (Int32.not_lt.mpr c_12), hF, c_13]; done) | (simp only [tc_sending, (sq_z_t c_1), hpe, (sq_z_t c_2), (sq_z_t c_3), c_4, (Int32.not_lt.mpr c_4), c_5, (Int32.not_le.mpr c_5), c_6, (Int32.not_le.mp c_6), hle, c_8, c_12, (Int32.not_lt.mpr c_12), hF, c_13, eq_self, not_true_eq_false, not_false_eq_true, and_self, and_true, true_and, and_false, false_and, or_true, true_or, or_false, false_or, if_true, if_false, ite_true, ite_false, Bool.and_eq_true, decide_true, decide_false, decide_eq_true_eq, ne_eq, Nat.reduceEqDiff, Nat.one_ne_zero, Bool.false_eq_true, reduceCtorEq]; done) | (simp only [tc_sending, (sq_z_t c_1), hpe, (sq_z_t c_2), (sq_z_t c_3), c_4, (Int32.not_lt.mpr c_4), c_5, (Int32.not_le.mpr c_5), c_6, (Int32.not_le.mp c_6), hle, c_8, c_12, (Int32.not_lt.mpr c_12), hF, c_13, eq_self, not_true_eq_false, not_false_eq_true, and_self, and_true, true_and, and_false, false_and, or_true, true_or, or_false, false_or, if_true, if_false, ite_true, ite_false, Bool.and_eq_true, decide_true, decide_false, decide_eq_true_eq, ne_eq, Nat.reduceEqDiff, Nat.one_ne_zero, Bool.false_eq_true, reduceCtorEq]; decide)
                    have e_nx : (if nx p0.toNatClampNeg ≤ p1 then nx else if nx p0.toNatClampNeg ≤ p2 ∧ sq_F fl pr p0.toNatClampNeg = true then upd nx p0.toNatClampNeg (nx p0.toNatClampNeg + (sq_min ((p2 - nx p0.toNatClampNeg) + 1) 6)) else nx) = nx := by first | (simp [sm_us, (sq_z_t c_1), hpe, (sq_z_t c_2), (sq_z_t c_3), c_4, (Int32.not_lt.mpr c_4), c_5, (Int32.not_le.mpr c_5), c_6, (Int32.not_le.mp c_6), hle, c_8, c_12, (Int32.not_lt.mpr c_12), hF, c_13]; done) | (simp only [sm_us, (sq_z_t c_1), hpe, (sq_z_t c_2), (sq_z_t c_3), c_4, (Int32.not_lt.mpr c_4), c_5, (Int32.not_le.mpr c_5), c_6, (Int32.not_le.mp c_6), hle, c_8, c_12, (Int32.not_lt.mpr c_12), hF, c_13, eq_self, not_true_eq_false, not_false_eq_true, and_self, and_true, true_and, and_false, false_and, or_true, true_or, or_false, false_or, if_true, if_false, ite_true, ite_false, Bool.and_eq_true, decide_true, decide_false, decide_eq_true_eq, ne_eq, Nat.reduceEqDiff, Nat.one_ne_zero, Bool.false_eq_true, reduceCtorEq]; done) | (simp only [sm_us, (sq_z_t c_1), hpe, (sq_z_t c_2), (sq_z_t c_3), c_4, (Int32.not_lt.mpr c_4), c_5, (Int32.not_le.mpr c_5), c_6, (Int32.not_le.mp c_6), hle, c_8, c_12, (Int32.not_lt.mpr c_12), hF, c_13, eq_self, not_true_eq_false, not_false_eq_true, and_self, and_true, true_and, and_false, false_and, or_true, true_or, or_false, false_or, if_true, if_false, ite_true, ite_false, Bool.and_eq_true, decide_true, decide_false, decide_eq_true_eq, ne_eq, Nat.reduceEqDiff, Nat.one_ne_zero, Bool.false_eq_true, reduceCtorEq]; decide)
                    have e_fl : (if nx p0.toNatClampNeg ≤ p1 then (if 0 < fl p0.toNatClampNeg then fl else upd fl p0.toNatClampNeg 1) else if nx p0.toNatClampNeg ≤ p2 ∧ sq_F fl pr p0.toNatClampNeg = true then upd fl p0.toNatClampNeg (fl p0.toNatClampNeg + 1) else fl) = fl := by first | (simp [sm_us, (sq_z_t c_1), hpe, (sq_z_t c_2), (sq_z_t c_3), c_4, (Int32.not_lt.mpr c_4), c_5, (Int32.not_le.mpr c_5), c_6, (Int32.not_le.mp c_6), hle, c_8, c_12, (Int32.not_lt.mpr c_12), hF, c_13]; done) | (simp only [sm_us, (sq_z_t c_1), hpe, (sq_z_t c_2), (sq_z_t c_3), c_4, (Int32.not_lt.mpr c_4), c_5, (Int32.not_le.mpr c_5), c_6, (Int32.not_le.mp c_6), hle, c_8, c_12, (Int32.not_lt.mpr c_12), hF, c_13, eq_self, not_true_eq_false, not_false_eq_true, and_self, and_true, true_and, and_false, false_and, or_true, true_or, or_false, false_or, if_true, if_false, ite_true, ite_false, Bool.and_eq_true, decide_true, decide_false, decide_eq_true_eq, ne_eq, Nat.reduceEqDiff, Nat.one_ne_zero, Bool.false_eq_true, reduceCtorEq]; done) | (simp only [sm_us, (sq_z_t c_1), hpe, (sq_z_t c_2), (sq_z_t c_3), c_4, (Int32.not_lt.mpr c_4), c_5, (Int32.not_le.mpr c_5), c_6, (Int32.not_le.mp c_6), hle, c_8, c_12, (Int32.not_lt.mpr c_12), hF, c_13, eq_self, not_true_eq_false, not_false_eq_true, and_self, and_true, true_and, and_false, false_and, or_true, true_or, or_false, false_or, if_true, if_false, ite_true, ite_false, Bool.and_eq_true, decide_true, decide_false, decide_eq_true_eq, ne_eq, Nat.reduceEqDiff, Nat.one_ne_zero, Bool.false_eq_true, reduceCtorEq]; decide)
                    exact kz_wreti hx hb hr hlocks (by simp only [htc, if_true, e_nx, e_fl]; exact hP) (by simp only [htc, if_true, e_nx, e_fl]; exact hD) hS (Nat.le_of_ble_eq_true rfl) (Nat.le_of_ble_eq_true rfl) (by rw [htc]; exact (show 0 = (if nx p0.toNatClampNeg ≤ p1 then (if 0 < fl p0.toNatClampNeg then 0 else 8) else if nx p0.toNatClampNeg ≤ p2 ∧ sq_F fl pr p0.toNatClampNeg = true then (sq_min ((p2 - nx p0.toNatClampNeg) + 1) 6) else if p3 = 0 then 0 else 7) from by first | (simp [(sq_z_t c_1), hpe, (sq_z_t c_2), (sq_z_t c_3), c_4, (Int32.not_lt.mpr c_4), c_5, (Int32.not_le.mpr c_5), c_6, (Int32.not_le.mp c_6), hle, c_8, c_12, (Int32.not_lt.mpr c_12), hF, c_13]; done) | (simp only [(sq_z_t c_1), hpe, (sq_z_t c_2), (sq_z_t c_3), c_4, (Int32.not_lt.mpr c_4), c_5, (Int32.not_le.mpr c_5), c_6, (Int32.not_le.mp c_6), hle, c_8, c_12, (Int32.not_lt.mpr c_12), hF, c_13, eq_self, not_true_eq_false, not_false_eq_true, and_self, and_true, true_and, and_false, false_and, or_true, true_or, or_false, false_or, if_true, if_false, ite_true, ite_false, Bool.and_eq_true, decide_true, decide_false, decide_eq_true_eq, ne_eq, Nat.reduceEqDiff, Nat.one_ne_zero, Bool.false_eq_true, reduceCtorEq]; done) | (simp only [(sq_z_t c_1), hpe, (sq_z_t c_2), (sq_z_t c_3), c_4, (Int32.not_lt.mpr c_4), c_5, (Int32.not_le.mpr c_5), c_6, (Int32.not_le.mp c_6), hle, c_8, c_12, (Int32.not_lt.mpr c_12), hF, c_13, eq_self, not_true_eq_false, not_false_eq_true, and_self, and_true, true_and, and_false, false_and, or_true, true_or, or_false, false_or, if_true, if_false, ite_true, ite_false, Bool.and_eq_true, decide_true, decide_false, decide_eq_true_eq, ne_eq, Nat.reduceEqDiff, Nat.one_ne_zero, Bool.false_eq_true, reduceCtorEq]; decide)))  dX1_sending_186
                  · -- 177 -> 180
                    refine lv_bipush (v := 7) hx hb dX1_sending_180 (by decide) ?_
                    refine lv_goto (tgt := 186) hx hb dX1_sending_182 (by decide) ?_
                    have htc : tc_sending it o n g p0 p1 p2 = 0 := by first | (simp [tc_sending, (sq_z_t c_1), hpe, (sq_z_t c_2), (sq_z_t c_3), c_4, (Int32.not_lt.mpr c_4), c_5, (Int32.not_le.mpr c_5), c_6, (Int32.not_le.mp c_6), hle, c_8, c_12, (Int32.not_lt.mpr c_12), hF, c_13]; done) | (simp only [tc_sending, (sq_z_t c_1), hpe, (sq_z_t c_2), (sq_z_t c_3), c_4, (Int32.not_lt.mpr c_4), c_5, (Int32.not_le.mpr c_5), c_6, (Int32.not_le.mp c_6), hle, c_8, c_12, (Int32.not_lt.mpr c_12), hF, c_13, eq_self, not_true_eq_false, not_false_eq_true, and_self, and_true, true_and, and_false, false_and, or_true, true_or, or_false, false_or, if_true, if_false, ite_true, ite_false, Bool.and_eq_true, decide_true, decide_false, decide_eq_true_eq, ne_eq, Nat.reduceEqDiff, Nat.one_ne_zero, Bool.false_eq_true, reduceCtorEq]; done) | (simp only [tc_sending, (sq_z_t c_1), hpe, (sq_z_t c_2), (sq_z_t c_3), c_4, (Int32.not_lt.mpr c_4), c_5, (Int32.not_le.mpr c_5), c_6, (Int32.not_le.mp c_6), hle, c_8, c_12, (Int32.not_lt.mpr c_12), hF, c_13, eq_self, not_true_eq_false, not_false_eq_true, and_self, and_true, true_and, and_false, false_and, or_true, true_or, or_false, false_or, if_true, if_false, ite_true, ite_false, Bool.and_eq_true, decide_true, decide_false, decide_eq_true_eq, ne_eq, Nat.reduceEqDiff, Nat.one_ne_zero, Bool.false_eq_true, reduceCtorEq]; decide)
                    have e_nx : (if nx p0.toNatClampNeg ≤ p1 then nx else if nx p0.toNatClampNeg ≤ p2 ∧ sq_F fl pr p0.toNatClampNeg = true then upd nx p0.toNatClampNeg (nx p0.toNatClampNeg + (sq_min ((p2 - nx p0.toNatClampNeg) + 1) 6)) else nx) = nx := by first | (simp [sm_us, (sq_z_t c_1), hpe, (sq_z_t c_2), (sq_z_t c_3), c_4, (Int32.not_lt.mpr c_4), c_5, (Int32.not_le.mpr c_5), c_6, (Int32.not_le.mp c_6), hle, c_8, c_12, (Int32.not_lt.mpr c_12), hF, c_13]; done) | (simp only [sm_us, (sq_z_t c_1), hpe, (sq_z_t c_2), (sq_z_t c_3), c_4, (Int32.not_lt.mpr c_4), c_5, (Int32.not_le.mpr c_5), c_6, (Int32.not_le.mp c_6), hle, c_8, c_12, (Int32.not_lt.mpr c_12), hF, c_13, eq_self, not_true_eq_false, not_false_eq_true, and_self, and_true, true_and, and_false, false_and, or_true, true_or, or_false, false_or, if_true, if_false, ite_true, ite_false, Bool.and_eq_true, decide_true, decide_false, decide_eq_true_eq, ne_eq, Nat.reduceEqDiff, Nat.one_ne_zero, Bool.false_eq_true, reduceCtorEq]; done) | (simp only [sm_us, (sq_z_t c_1), hpe, (sq_z_t c_2), (sq_z_t c_3), c_4, (Int32.not_lt.mpr c_4), c_5, (Int32.not_le.mpr c_5), c_6, (Int32.not_le.mp c_6), hle, c_8, c_12, (Int32.not_lt.mpr c_12), hF, c_13, eq_self, not_true_eq_false, not_false_eq_true, and_self, and_true, true_and, and_false, false_and, or_true, true_or, or_false, false_or, if_true, if_false, ite_true, ite_false, Bool.and_eq_true, decide_true, decide_false, decide_eq_true_eq, ne_eq, Nat.reduceEqDiff, Nat.one_ne_zero, Bool.false_eq_true, reduceCtorEq]; decide)
                    have e_fl : (if nx p0.toNatClampNeg ≤ p1 then (if 0 < fl p0.toNatClampNeg then fl else upd fl p0.toNatClampNeg 1) else if nx p0.toNatClampNeg ≤ p2 ∧ sq_F fl pr p0.toNatClampNeg = true then upd fl p0.toNatClampNeg (fl p0.toNatClampNeg + 1) else fl) = fl := by first | (simp [sm_us, (sq_z_t c_1), hpe, (sq_z_t c_2), (sq_z_t c_3), c_4, (Int32.not_lt.mpr c_4), c_5, (Int32.not_le.mpr c_5), c_6, (Int32.not_le.mp c_6), hle, c_8, c_12, (Int32.not_lt.mpr c_12), hF, c_13]; done) | (simp only [sm_us, (sq_z_t c_1), hpe, (sq_z_t c_2), (sq_z_t c_3), c_4, (Int32.not_lt.mpr c_4), c_5, (Int32.not_le.mpr c_5), c_6, (Int32.not_le.mp c_6), hle, c_8, c_12, (Int32.not_lt.mpr c_12), hF, c_13, eq_self, not_true_eq_false, not_false_eq_true, and_self, and_true, true_and, and_false, false_and, or_true, true_or, or_false, false_or, if_true, if_false, ite_true, ite_false, Bool.and_eq_true, decide_true, decide_false, decide_eq_true_eq, ne_eq, Nat.reduceEqDiff, Nat.one_ne_zero, Bool.false_eq_true, reduceCtorEq]; done) | (simp only [sm_us, (sq_z_t c_1), hpe, (sq_z_t c_2), (sq_z_t c_3), c_4, (Int32.not_lt.mpr c_4), c_5, (Int32.not_le.mpr c_5), c_6, (Int32.not_le.mp c_6), hle, c_8, c_12, (Int32.not_lt.mpr c_12), hF, c_13, eq_self, not_true_eq_false, not_false_eq_true, and_self, and_true, true_and, and_false, false_and, or_true, true_or, or_false, false_or, if_true, if_false, ite_true, ite_false, Bool.and_eq_true, decide_true, decide_false, decide_eq_true_eq, ne_eq, Nat.reduceEqDiff, Nat.one_ne_zero, Bool.false_eq_true, reduceCtorEq]; decide)
                    exact kz_wreti hx hb hr hlocks (by simp only [htc, if_true, e_nx, e_fl]; exact hP) (by simp only [htc, if_true, e_nx, e_fl]; exact hD) hS (Nat.le_of_ble_eq_true rfl) (Nat.le_of_ble_eq_true rfl) (by rw [htc]; exact (show 7 = (if nx p0.toNatClampNeg ≤ p1 then (if 0 < fl p0.toNatClampNeg then 0 else 8) else if nx p0.toNatClampNeg ≤ p2 ∧ sq_F fl pr p0.toNatClampNeg = true then (sq_min ((p2 - nx p0.toNatClampNeg) + 1) 6) else if p3 = 0 then 0 else 7) from by first | (simp [(sq_z_t c_1), hpe, (sq_z_t c_2), (sq_z_t c_3), c_4, (Int32.not_lt.mpr c_4), c_5, (Int32.not_le.mpr c_5), c_6, (Int32.not_le.mp c_6), hle, c_8, c_12, (Int32.not_lt.mpr c_12), hF, c_13]; done) | (simp only [(sq_z_t c_1), hpe, (sq_z_t c_2), (sq_z_t c_3), c_4, (Int32.not_lt.mpr c_4), c_5, (Int32.not_le.mpr c_5), c_6, (Int32.not_le.mp c_6), hle, c_8, c_12, (Int32.not_lt.mpr c_12), hF, c_13, eq_self, not_true_eq_false, not_false_eq_true, and_self, and_true, true_and, and_false, false_and, or_true, true_or, or_false, false_or, if_true, if_false, ite_true, ite_false, Bool.and_eq_true, decide_true, decide_false, decide_eq_true_eq, ne_eq, Nat.reduceEqDiff, Nat.one_ne_zero, Bool.false_eq_true, reduceCtorEq]; done) | (simp only [(sq_z_t c_1), hpe, (sq_z_t c_2), (sq_z_t c_3), c_4, (Int32.not_lt.mpr c_4), c_5, (Int32.not_le.mpr c_5), c_6, (Int32.not_le.mp c_6), hle, c_8, c_12, (Int32.not_lt.mpr c_12), hF, c_13, eq_self, not_true_eq_false, not_false_eq_true, and_self, and_true, true_and, and_false, false_and, or_true, true_or, or_false, false_or, if_true, if_false, ite_true, ite_false, Bool.and_eq_true, decide_true, decide_false, decide_eq_true_eq, ne_eq, Nat.reduceEqDiff, Nat.one_ne_zero, Bool.false_eq_true, reduceCtorEq]; decide)))  dX1_sending_186
                · -- 128 -> 131
                  have hF : sq_F fl pr p0.toNatClampNeg = true := sm_F1t (hpa _ hsA).1 c_8 c_12
                  refine lv_iload hx hb dX1_sending_131 (lv_at hl 0 rfl) ?_
                  refine lv_bipush (v := 6) hx hb dX1_sending_133 (by decide) ?_
                  refine lv_icmp_le (tgt := 143) hx hb dX1_sending_135 (by decide) (fun c_14 => ?_) (fun c_14 => ?_)
                  · -- 135 -> 143
                    have hmin : sq_min ((p2 - (nx p0.toNatClampNeg)) + 1) 6 = ((p2 - (nx p0.toNatClampNeg)) + 1) := sm_mn1 c_14
                    refine lv_iload hx hb dX1_sending_143 (lv_at hl 0 rfl) ?_
                    refine lv_istore (lv' := [(7, .int ((p2 - (nx p0.toNatClampNeg)) + 1)), (6, .int ((p2 - (nx p0.toNatClampNeg)) + 1)), (5, .int (fl p0.toNatClampNeg)), (0, .ref (bd 0)), (1, .int p0), (2, .int p1), (3, .int p2), (4, .int p3)]) hx hb dX1_sending_145 hl (by decide) rfl (fun ls hl => ?_)
                    refine lv_aload_n hx hb dX1_sending_147 rfl (lv_at hl 3 rfl) ?_
                    refine lv_iload_n hx hb dX1_sending_148 rfl (lv_at hl 4 rfl) ?_
                    refine lv_iconst (v := 0) hx hb dX1_sending_149 (by decide) ?_
                    refine lv_aload_n hx hb dX1_sending_150 rfl (lv_at hl 3 rfl) ?_
                    refine lv_iload_n hx hb dX1_sending_151 rfl (lv_at hl 4 rfl) ?_
                    refine lv_iconst (v := 0) hx hb dX1_sending_152 (by decide) ?_
                    refine kz_rV (As := [.int p0, .int 0]) (rest := [.int 0, .int p0, .ref (bd 0)]) ⟨hx, hb, hml, hown, hw9⟩ (c_X1_get l hl9 D cI ty bd rs H.size 0 it o n g v r (sm_al nx mt fl pr ofs ak hd an) p0.toNatClampNeg 0 p0 0 hsA (by decide) hsE rfl) (kz_cV 2 hw9 mw_403 mw_405 ms_11 mw_2 mw_406 rfl rfl (by decide +kernel) ⟨Nat.le_of_ble_eq_true rfl, Nat.le_of_ble_eq_true rfl⟩) (kz_preV (q0 := 0) (ci := 1) hK hP hD hS hA hE rfl rfl) rfl hl.1 rfl (Nat.le_of_ble_eq_true rfl) dX1_sending_153 ⟨Nat.le_of_ble_eq_true rfl, Nat.le_of_ble_eq_true rfl⟩ (fun _ _ _ _ h => False.elim h) (fun v9 H hv9 hO1 => ?_)
                    obtain ⟨_, rfl, rfl⟩ := hv9
                    have hP := hO1.P hP
                    have hS := hO1.S hS
                    rw [sm_g0]
                    refine W.eq (g2 := F0 m 156 ls [.int (nx p0.toNatClampNeg), .int 0, .int p0, .ref (bd 0)]) rfl ?_
                    refine lv_iload hx hb dX1_sending_156 (lv_at hl 0 rfl) ?_
                    refine lv_iadd hx hb dX1_sending_158 ?_
                    refine kz_wV (As := [.int p0, .int 0, .int ((nx p0.toNatClampNeg) + ((p2 - (nx p0.toNatClampNeg)) + 1))]) (rest := []) ⟨hx, hb, hml, hown, hw9⟩ (c_X1_put l hl9 D cI ty bd rs H.size 0 it o n g v r (sm_al nx mt fl pr ofs ak hd an) p0.toNatClampNeg 0 p0 0 ((nx p0.toNatClampNeg) + ((p2 - (nx p0.toNatClampNeg)) + 1)) hsA (by decide) hsE rfl) (kz_cV 3 hw9 mw_442 mw_444 ms_14 mw_2 mw_445 rfl rfl (by decide +kernel) ⟨Nat.le_of_ble_eq_true rfl, Nat.le_of_ble_eq_true rfl⟩) (kz_preV (q0 := 0) (ci := 1) hK hP hD hS hA hE rfl rfl) rfl hl.1 rfl (Nat.le_of_ble_eq_true rfl) dX1_sending_159 ⟨Nat.le_of_ble_eq_true rfl, Nat.le_of_ble_eq_true rfl⟩ hD hS hA (fun _ _ _ _ _ _ h => False.elim h) (fun v9 H locs hv9 hP hD hS => ?_)
                    obtain ⟨rfl, -⟩ := hv9
                    rw [sm_p0] at hP hD
                    have hP : va_P D vwCl (wM bd cI 0 it o n g v r (sm_al (upd nx p0.toNatClampNeg ((nx p0.toNatClampNeg) + ((p2 - (nx p0.toNatClampNeg)) + 1))) mt fl pr ofs ak hd an) ++ rs) H := hP
                    have hD : va_D A (wM bd cI 0 it o n g v r (sm_al (upd nx p0.toNatClampNeg ((nx p0.toNatClampNeg) + ((p2 - (nx p0.toNatClampNeg)) + 1))) mt fl pr ofs ak hd an) ++ rs) := hD
                    refine W.eq (g2 := F0 m 162 ls []) rfl ?_
                    refine lv_aload_n hx hb dX1_sending_162 rfl (lv_at hl 3 rfl) ?_
                    refine lv_iload_n hx hb dX1_sending_163 rfl (lv_at hl 4 rfl) ?_
                    refine lv_iconst (v := 2) hx hb dX1_sending_164 (by decide) ?_
                    refine lv_iload hx hb dX1_sending_165 (lv_at hl 2 rfl) ?_
                    refine lv_iconst (v := 1) hx hb dX1_sending_167 (by decide) ?_
                    refine lv_iadd hx hb dX1_sending_168 ?_
                    refine kz_wV (As := [.int p0, .int 2, .int ((fl p0.toNatClampNeg) + 1)]) (rest := []) ⟨hx, hb, hml, hown, hw9⟩ (c_X1_put l hl9 D cI ty bd rs H.size 0 it o n g v r (sm_al (upd nx p0.toNatClampNeg ((nx p0.toNatClampNeg) + ((p2 - (nx p0.toNatClampNeg)) + 1))) mt fl pr ofs ak hd an) p0.toNatClampNeg 2 p0 2 ((fl p0.toNatClampNeg) + 1) hsA (by decide) hsE rfl) (kz_cV 3 hw9 mw_442 mw_444 ms_14 mw_2 mw_445 rfl rfl (by decide +kernel) ⟨Nat.le_of_ble_eq_true rfl, Nat.le_of_ble_eq_true rfl⟩) (kz_preV (q0 := 0) (ci := 1) hK hP hD hS hA hE rfl rfl) rfl hl.1 rfl (Nat.le_of_ble_eq_true rfl) dX1_sending_169 ⟨Nat.le_of_ble_eq_true rfl, Nat.le_of_ble_eq_true rfl⟩ hD hS hA (fun _ _ _ _ _ _ h => False.elim h) (fun v9 H locs hv9 hP hD hS => ?_)
                    obtain ⟨rfl, -⟩ := hv9
                    rw [sm_p2] at hP hD
                    have hP : va_P D vwCl (wM bd cI 0 it o n g v r (sm_al (upd nx p0.toNatClampNeg ((nx p0.toNatClampNeg) + ((p2 - (nx p0.toNatClampNeg)) + 1))) mt (upd fl p0.toNatClampNeg ((fl p0.toNatClampNeg) + 1)) pr ofs ak hd an) ++ rs) H := hP
                    have hD : va_D A (wM bd cI 0 it o n g v r (sm_al (upd nx p0.toNatClampNeg ((nx p0.toNatClampNeg) + ((p2 - (nx p0.toNatClampNeg)) + 1))) mt (upd fl p0.toNatClampNeg ((fl p0.toNatClampNeg) + 1)) pr ofs ak hd an) ++ rs) := hD
                    refine W.eq (g2 := F0 m 172 ls []) rfl ?_
                    refine lv_iload hx hb dX1_sending_172 (lv_at hl 0 rfl) ?_
                    have htc : tc_sending it o n g p0 p1 p2 = 0 := by first | (simp [tc_sending, (sq_z_t c_1), hpe, (sq_z_t c_2), (sq_z_t c_3), c_4, (Int32.not_lt.mpr c_4), c_5, (Int32.not_le.mpr c_5), c_6, (Int32.not_le.mp c_6), hle, c_8, c_12, (Int32.not_le.mp c_12), hF, c_14, (Int32.not_lt.mpr c_14), hmin]; done) | (simp only [tc_sending, (sq_z_t c_1), hpe, (sq_z_t c_2), (sq_z_t c_3), c_4, (Int32.not_lt.mpr c_4), c_5, (Int32.not_le.mpr c_5), c_6, (Int32.not_le.mp c_6), hle, c_8, c_12, (Int32.not_le.mp c_12), hF, c_14, (Int32.not_lt.mpr c_14), hmin, eq_self, not_true_eq_false, not_false_eq_true, and_self, and_true, true_and, and_false, false_and, or_true, true_or, or_false, false_or, if_true, if_false, ite_true, ite_false, Bool.and_eq_true, decide_true, decide_false, decide_eq_true_eq, ne_eq, Nat.reduceEqDiff, Nat.one_ne_zero, Bool.false_eq_true, reduceCtorEq]; done) | (simp only [tc_sending, (sq_z_t c_1), hpe, (sq_z_t c_2), (sq_z_t c_3), c_4, (Int32.not_lt.mpr c_4), c_5, (Int32.not_le.mpr c_5), c_6, (Int32.not_le.mp c_6), hle, c_8, c_12, (Int32.not_le.mp c_12), hF, c_14, (Int32.not_lt.mpr c_14), hmin, eq_self, not_true_eq_false, not_false_eq_true, and_self, and_true, true_and, and_false, false_and, or_true, true_or, or_false, false_or, if_true, if_false, ite_true, ite_false, Bool.and_eq_true, decide_true, decide_false, decide_eq_true_eq, ne_eq, Nat.reduceEqDiff, Nat.one_ne_zero, Bool.false_eq_true, reduceCtorEq]; decide)
                    have e_nx : (if nx p0.toNatClampNeg ≤ p1 then nx else if nx p0.toNatClampNeg ≤ p2 ∧ sq_F fl pr p0.toNatClampNeg = true then upd nx p0.toNatClampNeg (nx p0.toNatClampNeg + (sq_min ((p2 - nx p0.toNatClampNeg) + 1) 6)) else nx) = upd nx p0.toNatClampNeg ((nx p0.toNatClampNeg) + ((p2 - (nx p0.toNatClampNeg)) + 1)) := by first | (simp [sm_us, (sq_z_t c_1), hpe, (sq_z_t c_2), (sq_z_t c_3), c_4, (Int32.not_lt.mpr c_4), c_5, (Int32.not_le.mpr c_5), c_6, (Int32.not_le.mp c_6), hle, c_8, c_12, (Int32.not_le.mp c_12), hF, c_14, (Int32.not_lt.mpr c_14), hmin]; done) | (simp only [sm_us, (sq_z_t c_1), hpe, (sq_z_t c_2), (sq_z_t c_3), c_4, (Int32.not_lt.mpr c_4), c_5, (Int32.not_le.mpr c_5), c_6, (Int32.not_le.mp c_6), hle, c_8, c_12, (Int32.not_le.mp c_12), hF, c_14, (Int32.not_lt.mpr c_14), hmin, eq_self, not_true_eq_false, not_false_eq_true, and_self, and_true, true_and, and_false, false_and, or_true, true_or, or_false, false_or, if_true, if_false, ite_true, ite_false, Bool.and_eq_true, decide_true, decide_false, decide_eq_true_eq, ne_eq, Nat.reduceEqDiff, Nat.one_ne_zero, Bool.false_eq_true, reduceCtorEq]; done) | (simp only [sm_us, (sq_z_t c_1), hpe, (sq_z_t c_2), (sq_z_t c_3), c_4, (Int32.not_lt.mpr c_4), c_5, (Int32.not_le.mpr c_5), c_6, (Int32.not_le.mp c_6), hle, c_8, c_12, (Int32.not_le.mp c_12), hF, c_14, (Int32.not_lt.mpr c_14), hmin, eq_self, not_true_eq_false, not_false_eq_true, and_self, and_true, true_and, and_false, false_and, or_true, true_or, or_false, false_or, if_true, if_false, ite_true, ite_false, Bool.and_eq_true, decide_true, decide_false, decide_eq_true_eq, ne_eq, Nat.reduceEqDiff, Nat.one_ne_zero, Bool.false_eq_true, reduceCtorEq]; decide)
                    have e_fl : (if nx p0.toNatClampNeg ≤ p1 then (if 0 < fl p0.toNatClampNeg then fl else upd fl p0.toNatClampNeg 1) else if nx p0.toNatClampNeg ≤ p2 ∧ sq_F fl pr p0.toNatClampNeg = true then upd fl p0.toNatClampNeg (fl p0.toNatClampNeg + 1) else fl) = upd fl p0.toNatClampNeg ((fl p0.toNatClampNeg) + 1) := by first | (simp [sm_us, (sq_z_t c_1), hpe, (sq_z_t c_2), (sq_z_t c_3), c_4, (Int32.not_lt.mpr c_4), c_5, (Int32.not_le.mpr c_5), c_6, (Int32.not_le.mp c_6), hle, c_8, c_12, (Int32.not_le.mp c_12), hF, c_14, (Int32.not_lt.mpr c_14), hmin]; done) | (simp only [sm_us, (sq_z_t c_1), hpe, (sq_z_t c_2), (sq_z_t c_3), c_4, (Int32.not_lt.mpr c_4), c_5, (Int32.not_le.mpr c_5), c_6, (Int32.not_le.mp c_6), hle, c_8, c_12, (Int32.not_le.mp c_12), hF, c_14, (Int32.not_lt.mpr c_14), hmin, eq_self, not_true_eq_false, not_false_eq_true, and_self, and_true, true_and, and_false, false_and, or_true, true_or, or_false, false_or, if_true, if_false, ite_true, ite_false, Bool.and_eq_true, decide_true, decide_false, decide_eq_true_eq, ne_eq, Nat.reduceEqDiff, Nat.one_ne_zero, Bool.false_eq_true, reduceCtorEq]; done) | (simp only [sm_us, (sq_z_t c_1), hpe, (sq_z_t c_2), (sq_z_t c_3), c_4, (Int32.not_lt.mpr c_4), c_5, (Int32.not_le.mpr c_5), c_6, (Int32.not_le.mp c_6), hle, c_8, c_12, (Int32.not_le.mp c_12), hF, c_14, (Int32.not_lt.mpr c_14), hmin, eq_self, not_true_eq_false, not_false_eq_true, and_self, and_true, true_and, and_false, false_and, or_true, true_or, or_false, false_or, if_true, if_false, ite_true, ite_false, Bool.and_eq_true, decide_true, decide_false, decide_eq_true_eq, ne_eq, Nat.reduceEqDiff, Nat.one_ne_zero, Bool.false_eq_true, reduceCtorEq]; decide)
                    exact kz_wreti hx hb hr hlocks (by simp only [htc, if_true, e_nx, e_fl]; exact hP) (by simp only [htc, if_true, e_nx, e_fl]; exact hD) hS (Nat.le_of_ble_eq_true rfl) (Nat.le_of_ble_eq_true rfl) (by rw [htc]; exact (show ((p2 - (nx p0.toNatClampNeg)) + 1) = (if nx p0.toNatClampNeg ≤ p1 then (if 0 < fl p0.toNatClampNeg then 0 else 8) else if nx p0.toNatClampNeg ≤ p2 ∧ sq_F fl pr p0.toNatClampNeg = true then (sq_min ((p2 - nx p0.toNatClampNeg) + 1) 6) else if p3 = 0 then 0 else 7) from by first | (simp [(sq_z_t c_1), hpe, (sq_z_t c_2), (sq_z_t c_3), c_4, (Int32.not_lt.mpr c_4), c_5, (Int32.not_le.mpr c_5), c_6, (Int32.not_le.mp c_6), hle, c_8, c_12, (Int32.not_le.mp c_12), hF, c_14, (Int32.not_lt.mpr c_14), hmin]; done) | (simp only [(sq_z_t c_1), hpe, (sq_z_t c_2), (sq_z_t c_3), c_4, (Int32.not_lt.mpr c_4), c_5, (Int32.not_le.mpr c_5), c_6, (Int32.not_le.mp c_6), hle, c_8, c_12, (Int32.not_le.mp c_12), hF, c_14, (Int32.not_lt.mpr c_14), hmin, eq_self, not_true_eq_false, not_false_eq_true, and_self, and_true, true_and, and_false, false_and, or_true, true_or, or_false, false_or, if_true, if_false, ite_true, ite_false, Bool.and_eq_true, decide_true, decide_false, decide_eq_true_eq, ne_eq, Nat.reduceEqDiff, Nat.one_ne_zero, Bool.false_eq_true, reduceCtorEq]; done) | (simp only [(sq_z_t c_1), hpe, (sq_z_t c_2), (sq_z_t c_3), c_4, (Int32.not_lt.mpr c_4), c_5, (Int32.not_le.mpr c_5), c_6, (Int32.not_le.mp c_6), hle, c_8, c_12, (Int32.not_le.mp c_12), hF, c_14, (Int32.not_lt.mpr c_14), hmin, eq_self, not_true_eq_false, not_false_eq_true, and_self, and_true, true_and, and_false, false_and, or_true, true_or, or_false, false_or, if_true, if_false, ite_true, ite_false, Bool.and_eq_true, decide_true, decide_false, decide_eq_true_eq, ne_eq, Nat.reduceEqDiff, Nat.one_ne_zero, Bool.false_eq_true, reduceCtorEq]; decide)))  dX1_sending_174
                  · -- 135 -> 138
                    have hmin : sq_min ((p2 - (nx p0.toNatClampNeg)) + 1) 6 = 6 := sm_mn2 c_14
                    refine lv_bipush (v := 6) hx hb dX1_sending_138 (by decide) ?_
                    refine lv_goto (tgt := 145) hx hb dX1_sending_140 (by decide) ?_
                    refine lv_istore (lv' := [(7, .int 6), (6, .int ((p2 - (nx p0.toNatClampNeg)) + 1)), (5, .int (fl p0.toNatClampNeg)), (0, .ref (bd 0)), (1, .int p0), (2, .int p1), (3, .int p2), (4, .int p3)]) hx hb dX1_sending_145 hl (by decide) rfl (fun ls hl => ?_)
                    refine lv_aload_n hx hb dX1_sending_147 rfl (lv_at hl 3 rfl) ?_
                    refine lv_iload_n hx hb dX1_sending_148 rfl (lv_at hl 4 rfl) ?_
                    refine lv_iconst (v := 0) hx hb dX1_sending_149 (by decide) ?_
                    refine lv_aload_n hx hb dX1_sending_150 rfl (lv_at hl 3 rfl) ?_
                    refine lv_iload_n hx hb dX1_sending_151 rfl (lv_at hl 4 rfl) ?_
                    refine lv_iconst (v := 0) hx hb dX1_sending_152 (by decide) ?_
                    refine kz_rV (As := [.int p0, .int 0]) (rest := [.int 0, .int p0, .ref (bd 0)]) ⟨hx, hb, hml, hown, hw9⟩ (c_X1_get l hl9 D cI ty bd rs H.size 0 it o n g v r (sm_al nx mt fl pr ofs ak hd an) p0.toNatClampNeg 0 p0 0 hsA (by decide) hsE rfl) (kz_cV 2 hw9 mw_403 mw_405 ms_11 mw_2 mw_406 rfl rfl (by decide +kernel) ⟨Nat.le_of_ble_eq_true rfl, Nat.le_of_ble_eq_true rfl⟩) (kz_preV (q0 := 0) (ci := 1) hK hP hD hS hA hE rfl rfl) rfl hl.1 rfl (Nat.le_of_ble_eq_true rfl) dX1_sending_153 ⟨Nat.le_of_ble_eq_true rfl, Nat.le_of_ble_eq_true rfl⟩ (fun _ _ _ _ h => False.elim h) (fun v9 H hv9 hO1 => ?_)
                    obtain ⟨_, rfl, rfl⟩ := hv9
                    have hP := hO1.P hP
                    have hS := hO1.S hS
                    rw [sm_g0]
                    refine W.eq (g2 := F0 m 156 ls [.int (nx p0.toNatClampNeg), .int 0, .int p0, .ref (bd 0)]) rfl ?_
                    refine lv_iload hx hb dX1_sending_156 (lv_at hl 0 rfl) ?_
                    refine lv_iadd hx hb dX1_sending_158 ?_
                    refine kz_wV (As := [.int p0, .int 0, .int ((nx p0.toNatClampNeg) + 6)]) (rest := []) ⟨hx, hb, hml, hown, hw9⟩ (c_X1_put l hl9 D cI ty bd rs H.size 0 it o n g v r (sm_al nx mt fl pr ofs ak hd an) p0.toNatClampNeg 0 p0 0 ((nx p0.toNatClampNeg) + 6) hsA (by decide) hsE rfl) (kz_cV 3 hw9 mw_442 mw_444 ms_14 mw_2 mw_445 rfl rfl (by decide +kernel) ⟨Nat.le_of_ble_eq_true rfl, Nat.le_of_ble_eq_true rfl⟩) (kz_preV (q0 := 0) (ci := 1) hK hP hD hS hA hE rfl rfl) rfl hl.1 rfl (Nat.le_of_ble_eq_true rfl) dX1_sending_159 ⟨Nat.le_of_ble_eq_true rfl, Nat.le_of_ble_eq_true rfl⟩ hD hS hA (fun _ _ _ _ _ _ h => False.elim h) (fun v9 H locs hv9 hP hD hS => ?_)
                    obtain ⟨rfl, -⟩ := hv9
                    rw [sm_p0] at hP hD
                    have hP : va_P D vwCl (wM bd cI 0 it o n g v r (sm_al (upd nx p0.toNatClampNeg ((nx p0.toNatClampNeg) + 6)) mt fl pr ofs ak hd an) ++ rs) H := hP
                    have hD : va_D A (wM bd cI 0 it o n g v r (sm_al (upd nx p0.toNatClampNeg ((nx p0.toNatClampNeg) + 6)) mt fl pr ofs ak hd an) ++ rs) := hD
                    refine W.eq (g2 := F0 m 162 ls []) rfl ?_
                    refine lv_aload_n hx hb dX1_sending_162 rfl (lv_at hl 3 rfl) ?_
                    refine lv_iload_n hx hb dX1_sending_163 rfl (lv_at hl 4 rfl) ?_
                    refine lv_iconst (v := 2) hx hb dX1_sending_164 (by decide) ?_
                    refine lv_iload hx hb dX1_sending_165 (lv_at hl 2 rfl) ?_
                    refine lv_iconst (v := 1) hx hb dX1_sending_167 (by decide) ?_
                    refine lv_iadd hx hb dX1_sending_168 ?_
                    refine kz_wV (As := [.int p0, .int 2, .int ((fl p0.toNatClampNeg) + 1)]) (rest := []) ⟨hx, hb, hml, hown, hw9⟩ (c_X1_put l hl9 D cI ty bd rs H.size 0 it o n g v r (sm_al (upd nx p0.toNatClampNeg ((nx p0.toNatClampNeg) + 6)) mt fl pr ofs ak hd an) p0.toNatClampNeg 2 p0 2 ((fl p0.toNatClampNeg) + 1) hsA (by decide) hsE rfl) (kz_cV 3 hw9 mw_442 mw_444 ms_14 mw_2 mw_445 rfl rfl (by decide +kernel) ⟨Nat.le_of_ble_eq_true rfl, Nat.le_of_ble_eq_true rfl⟩) (kz_preV (q0 := 0) (ci := 1) hK hP hD hS hA hE rfl rfl) rfl hl.1 rfl (Nat.le_of_ble_eq_true rfl) dX1_sending_169 ⟨Nat.le_of_ble_eq_true rfl, Nat.le_of_ble_eq_true rfl⟩ hD hS hA (fun _ _ _ _ _ _ h => False.elim h) (fun v9 H locs hv9 hP hD hS => ?_)
                    obtain ⟨rfl, -⟩ := hv9
                    rw [sm_p2] at hP hD
                    have hP : va_P D vwCl (wM bd cI 0 it o n g v r (sm_al (upd nx p0.toNatClampNeg ((nx p0.toNatClampNeg) + 6)) mt (upd fl p0.toNatClampNeg ((fl p0.toNatClampNeg) + 1)) pr ofs ak hd an) ++ rs) H := hP
                    have hD : va_D A (wM bd cI 0 it o n g v r (sm_al (upd nx p0.toNatClampNeg ((nx p0.toNatClampNeg) + 6)) mt (upd fl p0.toNatClampNeg ((fl p0.toNatClampNeg) + 1)) pr ofs ak hd an) ++ rs) := hD
                    refine W.eq (g2 := F0 m 172 ls []) rfl ?_
                    refine lv_iload hx hb dX1_sending_172 (lv_at hl 0 rfl) ?_
                    have htc : tc_sending it o n g p0 p1 p2 = 0 := by first | (simp [tc_sending, (sq_z_t c_1), hpe, (sq_z_t c_2), (sq_z_t c_3), c_4, (Int32.not_lt.mpr c_4), c_5, (Int32.not_le.mpr c_5), c_6, (Int32.not_le.mp c_6), hle, c_8, c_12, (Int32.not_le.mp c_12), hF, c_14, (Int32.not_le.mp c_14), hmin]; done) | (simp only [tc_sending, (sq_z_t c_1), hpe, (sq_z_t c_2), (sq_z_t c_3), c_4, (Int32.not_lt.mpr c_4), c_5, (Int32.not_le.mpr c_5), c_6, (Int32.not_le.mp c_6), hle, c_8, c_12, (Int32.not_le.mp c_12), hF, c_14, (Int32.not_le.mp c_14), hmin, eq_self, not_true_eq_false, not_false_eq_true, and_self, and_true, true_and, and_false, false_and, or_true, true_or, or_false, false_or, if_true, if_false, ite_true, ite_false, Bool.and_eq_true, decide_true, decide_false, decide_eq_true_eq, ne_eq, Nat.reduceEqDiff, Nat.one_ne_zero, Bool.false_eq_true, reduceCtorEq]; done) | (simp only [tc_sending, (sq_z_t c_1), hpe, (sq_z_t c_2), (sq_z_t c_3), c_4, (Int32.not_lt.mpr c_4), c_5, (Int32.not_le.mpr c_5), c_6, (Int32.not_le.mp c_6), hle, c_8, c_12, (Int32.not_le.mp c_12), hF, c_14, (Int32.not_le.mp c_14), hmin, eq_self, not_true_eq_false, not_false_eq_true, and_self, and_true, true_and, and_false, false_and, or_true, true_or, or_false, false_or, if_true, if_false, ite_true, ite_false, Bool.and_eq_true, decide_true, decide_false, decide_eq_true_eq, ne_eq, Nat.reduceEqDiff, Nat.one_ne_zero, Bool.false_eq_true, reduceCtorEq]; decide)
                    have e_nx : (if nx p0.toNatClampNeg ≤ p1 then nx else if nx p0.toNatClampNeg ≤ p2 ∧ sq_F fl pr p0.toNatClampNeg = true then upd nx p0.toNatClampNeg (nx p0.toNatClampNeg + (sq_min ((p2 - nx p0.toNatClampNeg) + 1) 6)) else nx) = upd nx p0.toNatClampNeg ((nx p0.toNatClampNeg) + 6) := by first | (simp [sm_us, (sq_z_t c_1), hpe, (sq_z_t c_2), (sq_z_t c_3), c_4, (Int32.not_lt.mpr c_4), c_5, (Int32.not_le.mpr c_5), c_6, (Int32.not_le.mp c_6), hle, c_8, c_12, (Int32.not_le.mp c_12), hF, c_14, (Int32.not_le.mp c_14), hmin]; done) | (simp only [sm_us, (sq_z_t c_1), hpe, (sq_z_t c_2), (sq_z_t c_3), c_4, (Int32.not_lt.mpr c_4), c_5, (Int32.not_le.mpr c_5), c_6, (Int32.not_le.mp c_6), hle, c_8, c_12, (Int32.not_le.mp c_12), hF, c_14, (Int32.not_le.mp c_14), hmin, eq_self, not_true_eq_false, not_false_eq_true, and_self, and_true, true_and, and_false, false_and, or_true, true_or, or_false, false_or, if_true, if_false, ite_true, ite_false, Bool.and_eq_true, decide_true, decide_false, decide_eq_true_eq, ne_eq, Nat.reduceEqDiff, Nat.one_ne_zero, Bool.false_eq_true, reduceCtorEq]; done) | (simp only [sm_us, (sq_z_t c_1), hpe, (sq_z_t c_2), (sq_z_t c_3), c_4, (Int32.not_lt.mpr c_4), c_5, (Int32.not_le.mpr c_5), c_6, (Int32.not_le.mp c_6), hle, c_8, c_12, (Int32.not_le.mp c_12), hF, c_14, (Int32.not_le.mp c_14), hmin, eq_self, not_true_eq_false, not_false_eq_true, and_self, and_true, true_and, and_false, false_and, or_true, true_or, or_false, false_or, if_true, if_false, ite_true, ite_false, Bool.and_eq_true, decide_true, decide_false, decide_eq_true_eq, ne_eq, Nat.reduceEqDiff, Nat.one_ne_zero, Bool.false_eq_true, reduceCtorEq]; decide)
                    have e_fl : (if nx p0.toNatClampNeg ≤ p1 then (if 0 < fl p0.toNatClampNeg then fl else upd fl p0.toNatClampNeg 1) else if nx p0.toNatClampNeg ≤ p2 ∧ sq_F fl pr p0.toNatClampNeg = true then upd fl p0.toNatClampNeg (fl p0.toNatClampNeg + 1) else fl) = upd fl p0.toNatClampNeg ((fl p0.toNatClampNeg) + 1) := by first | (simp [sm_us, (sq_z_t c_1), hpe, (sq_z_t c_2), (sq_z_t c_3), c_4, (Int32.not_lt.mpr c_4), c_5, (Int32.not_le.mpr c_5), c_6, (Int32.not_le.mp c_6), hle, c_8, c_12, (Int32.not_le.mp c_12), hF, c_14, (Int32.not_le.mp c_14), hmin]; done) | (simp only [sm_us, (sq_z_t c_1), hpe, (sq_z_t c_2), (sq_z_t c_3), c_4, (Int32.not_lt.mpr c_4), c_5, (Int32.not_le.mpr c_5), c_6, (Int32.not_le.mp c_6), hle, c_8, c_12, (Int32.not_le.mp c_12), hF, c_14, (Int32.not_le.mp c_14), hmin, eq_self, not_true_eq_false, not_false_eq_true, and_self, and_true, true_and, and_false, false_and, or_true, true_or, or_false, false_or, if_true, if_false, ite_true, ite_false, Bool.and_eq_true, decide_true, decide_false, decide_eq_true_eq, ne_eq, Nat.reduceEqDiff, Nat.one_ne_zero, Bool.false_eq_true, reduceCtorEq]; done) | (simp only [sm_us, (sq_z_t c_1), hpe, (sq_z_t c_2), (sq_z_t c_3), c_4, (Int32.not_lt.mpr c_4), c_5, (Int32.not_le.mpr c_5), c_6, (Int32.not_le.mp c_6), hle, c_8, c_12, (Int32.not_le.mp c_12), hF, c_14, (Int32.not_le.mp c_14), hmin, eq_self, not_true_eq_false, not_false_eq_true, and_self, and_true, true_and, and_false, false_and, or_true, true_or, or_false, false_or, if_true, if_false, ite_true, ite_false, Bool.and_eq_true, decide_true, decide_false, decide_eq_true_eq, ne_eq, Nat.reduceEqDiff, Nat.one_ne_zero, Bool.false_eq_true, reduceCtorEq]; decide)
                    exact kz_wreti hx hb hr hlocks (by simp only [htc, if_true, e_nx, e_fl]; exact hP) (by simp only [htc, if_true, e_nx, e_fl]; exact hD) hS (Nat.le_of_ble_eq_true rfl) (Nat.le_of_ble_eq_true rfl) (by rw [htc]; exact (show 6 = (if nx p0.toNatClampNeg ≤ p1 then (if 0 < fl p0.toNatClampNeg then 0 else 8) else if nx p0.toNatClampNeg ≤ p2 ∧ sq_F fl pr p0.toNatClampNeg = true then (sq_min ((p2 - nx p0.toNatClampNeg) + 1) 6) else if p3 = 0 then 0 else 7) from by first | (simp [(sq_z_t c_1), hpe, (sq_z_t c_2), (sq_z_t c_3), c_4, (Int32.not_lt.mpr c_4), c_5, (Int32.not_le.mpr c_5), c_6, (Int32.not_le.mp c_6), hle, c_8, c_12, (Int32.not_le.mp c_12), hF, c_14, (Int32.not_le.mp c_14), hmin]; done) | (simp only [(sq_z_t c_1), hpe, (sq_z_t c_2), (sq_z_t c_3), c_4, (Int32.not_lt.mpr c_4), c_5, (Int32.not_le.mpr c_5), c_6, (Int32.not_le.mp c_6), hle, c_8, c_12, (Int32.not_le.mp c_12), hF, c_14, (Int32.not_le.mp c_14), hmin, eq_self, not_true_eq_false, not_false_eq_true, and_self, and_true, true_and, and_false, false_and, or_true, true_or, or_false, false_or, if_true, if_false, ite_true, ite_false, Bool.and_eq_true, decide_true, decide_false, decide_eq_true_eq, ne_eq, Nat.reduceEqDiff, Nat.one_ne_zero, Bool.false_eq_true, reduceCtorEq]; done) | (simp only [(sq_z_t c_1), hpe, (sq_z_t c_2), (sq_z_t c_3), c_4, (Int32.not_lt.mpr c_4), c_5, (Int32.not_le.mpr c_5), c_6, (Int32.not_le.mp c_6), hle, c_8, c_12, (Int32.not_le.mp c_12), hF, c_14, (Int32.not_le.mp c_14), hmin, eq_self, not_true_eq_false, not_false_eq_true, and_self, and_true, true_and, and_false, false_and, or_true, true_or, or_false, false_or, if_true, if_false, ite_true, ite_false, Bool.and_eq_true, decide_true, decide_false, decide_eq_true_eq, ne_eq, Nat.reduceEqDiff, Nat.one_ne_zero, Bool.false_eq_true, reduceCtorEq]; decide)))  dX1_sending_174
          · -- 62 -> 65
            refine lv_aload_n hx hb dX1_sending_65 rfl (lv_at hl 1 rfl) ?_
            refine lv_iload_n hx hb dX1_sending_66 rfl (lv_at hl 2 rfl) ?_
            refine lv_iconst (v := 2) hx hb dX1_sending_67 (by decide) ?_
            refine lv_iload hx hb dX1_sending_68 (lv_at hl 0 rfl) ?_
            refine lv_if_ne (tgt := 77) hx hb dX1_sending_70 (by decide) (fun c_15 => ?_) (fun c_15 => ?_)
            · -- 70 -> 77
              have hfp : 0 < fl p0.toNatClampNeg := sm_fp hfl hsA c_15
              refine lv_iload hx hb dX1_sending_77 (lv_at hl 0 rfl) ?_
              refine kz_wV (As := [.int p0, .int 2, .int (fl p0.toNatClampNeg)]) (rest := []) ⟨hx, hb, hml, hown, hw9⟩ (c_X1_put l hl9 D cI ty bd rs H.size 0 it o n g v r (sm_al nx mt fl pr ofs ak hd an) p0.toNatClampNeg 2 p0 2 (fl p0.toNatClampNeg) hsA (by decide) hsE rfl) (kz_cV 3 hw9 mw_442 mw_444 ms_14 mw_2 mw_445 rfl rfl (by decide +kernel) ⟨Nat.le_of_ble_eq_true rfl, Nat.le_of_ble_eq_true rfl⟩) (kz_preV (q0 := 0) (ci := 1) hK hP hD hS hA hE rfl rfl) rfl hl.1 rfl (Nat.le_of_ble_eq_true rfl) dX1_sending_79 ⟨Nat.le_of_ble_eq_true rfl, Nat.le_of_ble_eq_true rfl⟩ hD hS hA (fun _ _ _ _ _ _ h => False.elim h) (fun v9 H locs hv9 hP hD hS => ?_)
              obtain ⟨rfl, -⟩ := hv9
              rw [sm_p2] at hP hD
              have hP : va_P D vwCl (wM bd cI 0 it o n g v r (sm_al nx mt (upd fl p0.toNatClampNeg (fl p0.toNatClampNeg)) pr ofs ak hd an) ++ rs) H := hP
              have hD : va_D A (wM bd cI 0 it o n g v r (sm_al nx mt (upd fl p0.toNatClampNeg (fl p0.toNatClampNeg)) pr ofs ak hd an) ++ rs) := hD
              refine W.eq (g2 := F0 m 82 ls []) rfl ?_
              refine lv_iload hx hb dX1_sending_82 (lv_at hl 0 rfl) ?_
              refine lv_if_ne (tgt := 92) hx hb dX1_sending_84 (by decide) (fun c_16 => ?_) (fun c_16 => ?_)
              · -- 84 -> 92
                refine lv_iconst (v := 0) hx hb dX1_sending_92 (by decide) ?_
                have htc : tc_sending it o n g p0 p1 p2 = 0 := by first | (simp [tc_sending, (sq_z_t c_1), hpe, (sq_z_t c_2), (sq_z_t c_3), c_4, (Int32.not_lt.mpr c_4), c_5, (Int32.not_lt.mp c_5), c_15, hfp, c_16]; done) | (simp only [tc_sending, (sq_z_t c_1), hpe, (sq_z_t c_2), (sq_z_t c_3), c_4, (Int32.not_lt.mpr c_4), c_5, (Int32.not_lt.mp c_5), c_15, hfp, c_16, eq_self, not_true_eq_false, not_false_eq_true, and_self, and_true, true_and, and_false, false_and, or_true, true_or, or_false, false_or, if_true, if_false, ite_true, ite_false, Bool.and_eq_true, decide_true, decide_false, decide_eq_true_eq, ne_eq, Nat.reduceEqDiff, Nat.one_ne_zero, Bool.false_eq_true, reduceCtorEq]; done) | (simp only [tc_sending, (sq_z_t c_1), hpe, (sq_z_t c_2), (sq_z_t c_3), c_4, (Int32.not_lt.mpr c_4), c_5, (Int32.not_lt.mp c_5), c_15, hfp, c_16, eq_self, not_true_eq_false, not_false_eq_true, and_self, and_true, true_and, and_false, false_and, or_true, true_or, or_false, false_or, if_true, if_false, ite_true, ite_false, Bool.and_eq_true, decide_true, decide_false, decide_eq_true_eq, ne_eq, Nat.reduceEqDiff, Nat.one_ne_zero, Bool.false_eq_true, reduceCtorEq]; decide)
                have e_nx : (if nx p0.toNatClampNeg ≤ p1 then nx else if nx p0.toNatClampNeg ≤ p2 ∧ sq_F fl pr p0.toNatClampNeg = true then upd nx p0.toNatClampNeg (nx p0.toNatClampNeg + (sq_min ((p2 - nx p0.toNatClampNeg) + 1) 6)) else nx) = nx := by first | (simp [sm_us, (sq_z_t c_1), hpe, (sq_z_t c_2), (sq_z_t c_3), c_4, (Int32.not_lt.mpr c_4), c_5, (Int32.not_lt.mp c_5), c_15, hfp, c_16]; done) | (simp only [sm_us, (sq_z_t c_1), hpe, (sq_z_t c_2), (sq_z_t c_3), c_4, (Int32.not_lt.mpr c_4), c_5, (Int32.not_lt.mp c_5), c_15, hfp, c_16, eq_self, not_true_eq_false, not_false_eq_true, and_self, and_true, true_and, and_false, false_and, or_true, true_or, or_false, false_or, if_true, if_false, ite_true, ite_false, Bool.and_eq_true, decide_true, decide_false, decide_eq_true_eq, ne_eq, Nat.reduceEqDiff, Nat.one_ne_zero, Bool.false_eq_true, reduceCtorEq]; done) | (simp only [sm_us, (sq_z_t c_1), hpe, (sq_z_t c_2), (sq_z_t c_3), c_4, (Int32.not_lt.mpr c_4), c_5, (Int32.not_lt.mp c_5), c_15, hfp, c_16, eq_self, not_true_eq_false, not_false_eq_true, and_self, and_true, true_and, and_false, false_and, or_true, true_or, or_false, false_or, if_true, if_false, ite_true, ite_false, Bool.and_eq_true, decide_true, decide_false, decide_eq_true_eq, ne_eq, Nat.reduceEqDiff, Nat.one_ne_zero, Bool.false_eq_true, reduceCtorEq]; decide)
                have e_fl : (if nx p0.toNatClampNeg ≤ p1 then (if 0 < fl p0.toNatClampNeg then fl else upd fl p0.toNatClampNeg 1) else if nx p0.toNatClampNeg ≤ p2 ∧ sq_F fl pr p0.toNatClampNeg = true then upd fl p0.toNatClampNeg (fl p0.toNatClampNeg + 1) else fl) = upd fl p0.toNatClampNeg (fl p0.toNatClampNeg) := by first | (simp [sm_us, (sq_z_t c_1), hpe, (sq_z_t c_2), (sq_z_t c_3), c_4, (Int32.not_lt.mpr c_4), c_5, (Int32.not_lt.mp c_5), c_15, hfp, c_16]; done) | (simp only [sm_us, (sq_z_t c_1), hpe, (sq_z_t c_2), (sq_z_t c_3), c_4, (Int32.not_lt.mpr c_4), c_5, (Int32.not_lt.mp c_5), c_15, hfp, c_16, eq_self, not_true_eq_false, not_false_eq_true, and_self, and_true, true_and, and_false, false_and, or_true, true_or, or_false, false_or, if_true, if_false, ite_true, ite_false, Bool.and_eq_true, decide_true, decide_false, decide_eq_true_eq, ne_eq, Nat.reduceEqDiff, Nat.one_ne_zero, Bool.false_eq_true, reduceCtorEq]; done) | (simp only [sm_us, (sq_z_t c_1), hpe, (sq_z_t c_2), (sq_z_t c_3), c_4, (Int32.not_lt.mpr c_4), c_5, (Int32.not_lt.mp c_5), c_15, hfp, c_16, eq_self, not_true_eq_false, not_false_eq_true, and_self, and_true, true_and, and_false, false_and, or_true, true_or, or_false, false_or, if_true, if_false, ite_true, ite_false, Bool.and_eq_true, decide_true, decide_false, decide_eq_true_eq, ne_eq, Nat.reduceEqDiff, Nat.one_ne_zero, Bool.false_eq_true, reduceCtorEq]; decide)
                exact kz_wreti hx hb hr hlocks (by simp only [htc, if_true, e_nx, e_fl]; exact hP) (by simp only [htc, if_true, e_nx, e_fl]; exact hD) hS (Nat.le_of_ble_eq_true rfl) (Nat.le_of_ble_eq_true rfl) (by rw [htc]; exact (show 0 = (if nx p0.toNatClampNeg ≤ p1 then (if 0 < fl p0.toNatClampNeg then 0 else 8) else if nx p0.toNatClampNeg ≤ p2 ∧ sq_F fl pr p0.toNatClampNeg = true then (sq_min ((p2 - nx p0.toNatClampNeg) + 1) 6) else if p3 = 0 then 0 else 7) from by first | (simp [(sq_z_t c_1), hpe, (sq_z_t c_2), (sq_z_t c_3), c_4, (Int32.not_lt.mpr c_4), c_5, (Int32.not_lt.mp c_5), c_15, hfp, c_16]; done) | (simp only [(sq_z_t c_1), hpe, (sq_z_t c_2), (sq_z_t c_3), c_4, (Int32.not_lt.mpr c_4), c_5, (Int32.not_lt.mp c_5), c_15, hfp, c_16, eq_self, not_true_eq_false, not_false_eq_true, and_self, and_true, true_and, and_false, false_and, or_true, true_or, or_false, false_or, if_true, if_false, ite_true, ite_false, Bool.and_eq_true, decide_true, decide_false, decide_eq_true_eq, ne_eq, Nat.reduceEqDiff, Nat.one_ne_zero, Bool.false_eq_true, reduceCtorEq]; done) | (simp only [(sq_z_t c_1), hpe, (sq_z_t c_2), (sq_z_t c_3), c_4, (Int32.not_lt.mpr c_4), c_5, (Int32.not_lt.mp c_5), c_15, hfp, c_16, eq_self, not_true_eq_false, not_false_eq_true, and_self, and_true, true_and, and_false, false_and, or_true, true_or, or_false, false_or, if_true, if_false, ite_true, ite_false, Bool.and_eq_true, decide_true, decide_false, decide_eq_true_eq, ne_eq, Nat.reduceEqDiff, Nat.one_ne_zero, Bool.false_eq_true, reduceCtorEq]; decide)))  dX1_sending_93
              · -- 84 -> 87
                exact absurd c_16 c_15
            · -- 70 -> 73
              refine lv_iconst (v := 1) hx hb dX1_sending_73 (by decide) ?_
              refine lv_goto (tgt := 79) hx hb dX1_sending_74 (by decide) ?_
              refine kz_wV (As := [.int p0, .int 2, .int 1]) (rest := []) ⟨hx, hb, hml, hown, hw9⟩ (c_X1_put l hl9 D cI ty bd rs H.size 0 it o n g v r (sm_al nx mt fl pr ofs ak hd an) p0.toNatClampNeg 2 p0 2 1 hsA (by decide) hsE rfl) (kz_cV 3 hw9 mw_442 mw_444 ms_14 mw_2 mw_445 rfl rfl (by decide +kernel) ⟨Nat.le_of_ble_eq_true rfl, Nat.le_of_ble_eq_true rfl⟩) (kz_preV (q0 := 0) (ci := 1) hK hP hD hS hA hE rfl rfl) rfl hl.1 rfl (Nat.le_of_ble_eq_true rfl) dX1_sending_79 ⟨Nat.le_of_ble_eq_true rfl, Nat.le_of_ble_eq_true rfl⟩ hD hS hA (fun _ _ _ _ _ _ h => False.elim h) (fun v9 H locs hv9 hP hD hS => ?_)
              obtain ⟨rfl, -⟩ := hv9
              rw [sm_p2] at hP hD
              have hP : va_P D vwCl (wM bd cI 0 it o n g v r (sm_al nx mt (upd fl p0.toNatClampNeg 1) pr ofs ak hd an) ++ rs) H := hP
              have hD : va_D A (wM bd cI 0 it o n g v r (sm_al nx mt (upd fl p0.toNatClampNeg 1) pr ofs ak hd an) ++ rs) := hD
              refine W.eq (g2 := F0 m 82 ls []) rfl ?_
              refine lv_iload hx hb dX1_sending_82 (lv_at hl 0 rfl) ?_
              refine lv_if_ne (tgt := 92) hx hb dX1_sending_84 (by decide) (fun c_17 => ?_) (fun c_17 => ?_)
              · -- 84 -> 92
                exact absurd c_15 c_17
              · -- 84 -> 87
                refine lv_bipush (v := 8) hx hb dX1_sending_87 (by decide) ?_
                refine lv_goto (tgt := 93) hx hb dX1_sending_89 (by decide) ?_
                have htc : tc_sending it o n g p0 p1 p2 = 0 := by first | (simp [tc_sending, (sq_z_t c_1), hpe, (sq_z_t c_2), (sq_z_t c_3), c_4, (Int32.not_lt.mpr c_4), c_5, (Int32.not_lt.mp c_5), c_15, c_17]; done) | (simp only [tc_sending, (sq_z_t c_1), hpe, (sq_z_t c_2), (sq_z_t c_3), c_4, (Int32.not_lt.mpr c_4), c_5, (Int32.not_lt.mp c_5), c_15, c_17, eq_self, not_true_eq_false, not_false_eq_true, and_self, and_true, true_and, and_false, false_and, or_true, true_or, or_false, false_or, if_true, if_false, ite_true, ite_false, Bool.and_eq_true, decide_true, decide_false, decide_eq_true_eq, ne_eq, Nat.reduceEqDiff, Nat.one_ne_zero, Bool.false_eq_true, reduceCtorEq]; done) | (simp only [tc_sending, (sq_z_t c_1), hpe, (sq_z_t c_2), (sq_z_t c_3), c_4, (Int32.not_lt.mpr c_4), c_5, (Int32.not_lt.mp c_5), c_15, c_17, eq_self, not_true_eq_false, not_false_eq_true, and_self, and_true, true_and, and_false, false_and, or_true, true_or, or_false, false_or, if_true, if_false, ite_true, ite_false, Bool.and_eq_true, decide_true, decide_false, decide_eq_true_eq, ne_eq, Nat.reduceEqDiff, Nat.one_ne_zero, Bool.false_eq_true, reduceCtorEq]; decide)
                have e_nx : (if nx p0.toNatClampNeg ≤ p1 then nx else if nx p0.toNatClampNeg ≤ p2 ∧ sq_F fl pr p0.toNatClampNeg = true then upd nx p0.toNatClampNeg (nx p0.toNatClampNeg + (sq_min ((p2 - nx p0.toNatClampNeg) + 1) 6)) else nx) = nx := by first | (simp [sm_us, (sq_z_t c_1), hpe, (sq_z_t c_2), (sq_z_t c_3), c_4, (Int32.not_lt.mpr c_4), c_5, (Int32.not_lt.mp c_5), c_15, c_17]; done) | (simp only [sm_us, (sq_z_t c_1), hpe, (sq_z_t c_2), (sq_z_t c_3), c_4, (Int32.not_lt.mpr c_4), c_5, (Int32.not_lt.mp c_5), c_15, c_17, eq_self, not_true_eq_false, not_false_eq_true, and_self, and_true, true_and, and_false, false_and, or_true, true_or, or_false, false_or, if_true, if_false, ite_true, ite_false, Bool.and_eq_true, decide_true, decide_false, decide_eq_true_eq, ne_eq, Nat.reduceEqDiff, Nat.one_ne_zero, Bool.false_eq_true, reduceCtorEq]; done) | (simp only [sm_us, (sq_z_t c_1), hpe, (sq_z_t c_2), (sq_z_t c_3), c_4, (Int32.not_lt.mpr c_4), c_5, (Int32.not_lt.mp c_5), c_15, c_17, eq_self, not_true_eq_false, not_false_eq_true, and_self, and_true, true_and, and_false, false_and, or_true, true_or, or_false, false_or, if_true, if_false, ite_true, ite_false, Bool.and_eq_true, decide_true, decide_false, decide_eq_true_eq, ne_eq, Nat.reduceEqDiff, Nat.one_ne_zero, Bool.false_eq_true, reduceCtorEq]; decide)
                have e_fl : (if nx p0.toNatClampNeg ≤ p1 then (if 0 < fl p0.toNatClampNeg then fl else upd fl p0.toNatClampNeg 1) else if nx p0.toNatClampNeg ≤ p2 ∧ sq_F fl pr p0.toNatClampNeg = true then upd fl p0.toNatClampNeg (fl p0.toNatClampNeg + 1) else fl) = upd fl p0.toNatClampNeg 1 := by first | (simp [sm_us, (sq_z_t c_1), hpe, (sq_z_t c_2), (sq_z_t c_3), c_4, (Int32.not_lt.mpr c_4), c_5, (Int32.not_lt.mp c_5), c_15, c_17]; done) | (simp only [sm_us, (sq_z_t c_1), hpe, (sq_z_t c_2), (sq_z_t c_3), c_4, (Int32.not_lt.mpr c_4), c_5, (Int32.not_lt.mp c_5), c_15, c_17, eq_self, not_true_eq_false, not_false_eq_true, and_self, and_true, true_and, and_false, false_and, or_true, true_or, or_false, false_or, if_true, if_false, ite_true, ite_false, Bool.and_eq_true, decide_true, decide_false, decide_eq_true_eq, ne_eq, Nat.reduceEqDiff, Nat.one_ne_zero, Bool.false_eq_true, reduceCtorEq]; done) | (simp only [sm_us, (sq_z_t c_1), hpe, (sq_z_t c_2), (sq_z_t c_3), c_4, (Int32.not_lt.mpr c_4), c_5, (Int32.not_lt.mp c_5), c_15, c_17, eq_self, not_true_eq_false, not_false_eq_true, and_self, and_true, true_and, and_false, false_and, or_true, true_or, or_false, false_or, if_true, if_false, ite_true, ite_false, Bool.and_eq_true, decide_true, decide_false, decide_eq_true_eq, ne_eq, Nat.reduceEqDiff, Nat.one_ne_zero, Bool.false_eq_true, reduceCtorEq]; decide)
                exact kz_wreti hx hb hr hlocks (by simp only [htc, if_true, e_nx, e_fl]; exact hP) (by simp only [htc, if_true, e_nx, e_fl]; exact hD) hS (Nat.le_of_ble_eq_true rfl) (Nat.le_of_ble_eq_true rfl) (by rw [htc]; exact (show 8 = (if nx p0.toNatClampNeg ≤ p1 then (if 0 < fl p0.toNatClampNeg then 0 else 8) else if nx p0.toNatClampNeg ≤ p2 ∧ sq_F fl pr p0.toNatClampNeg = true then (sq_min ((p2 - nx p0.toNatClampNeg) + 1) 6) else if p3 = 0 then 0 else 7) from by first | (simp [(sq_z_t c_1), hpe, (sq_z_t c_2), (sq_z_t c_3), c_4, (Int32.not_lt.mpr c_4), c_5, (Int32.not_lt.mp c_5), c_15, c_17]; done) | (simp only [(sq_z_t c_1), hpe, (sq_z_t c_2), (sq_z_t c_3), c_4, (Int32.not_lt.mpr c_4), c_5, (Int32.not_lt.mp c_5), c_15, c_17, eq_self, not_true_eq_false, not_false_eq_true, and_self, and_true, true_and, and_false, false_and, or_true, true_or, or_false, false_or, if_true, if_false, ite_true, ite_false, Bool.and_eq_true, decide_true, decide_false, decide_eq_true_eq, ne_eq, Nat.reduceEqDiff, Nat.one_ne_zero, Bool.false_eq_true, reduceCtorEq]; done) | (simp only [(sq_z_t c_1), hpe, (sq_z_t c_2), (sq_z_t c_3), c_4, (Int32.not_lt.mpr c_4), c_5, (Int32.not_lt.mp c_5), c_15, c_17, eq_self, not_true_eq_false, not_false_eq_true, and_self, and_true, true_and, and_false, false_and, or_true, true_or, or_false, false_or, if_true, if_false, ite_true, ite_false, Bool.and_eq_true, decide_true, decide_false, decide_eq_true_eq, ne_eq, Nat.reduceEqDiff, Nat.one_ne_zero, Bool.false_eq_true, reduceCtorEq]; decide)))  dX1_sending_93
        · -- 38 -> 41
          refine lv_aload_n hx hb dX1_sending_41 rfl (lv_at hl 0 rfl) ?_
          refine lv_iconst (v := 2) hx hb dX1_sending_42 (by decide) ?_
          refine kz_wV (As := [.int 2]) (rest := []) ⟨hx, hb, hml, hown, hw9⟩ (c_X1_fail l hl9 D cI ty bd rs H.size 0 it o n g v r (sm_al nx mt fl pr ofs ak hd an) 2) (kz_cV 1 hw9 mw_411 mw_413 ms_12 mw_2 mw_414 rfl rfl (by decide +kernel) ⟨Nat.le_of_ble_eq_true rfl, Nat.le_of_ble_eq_true rfl⟩) (kz_preV (q0 := 0) (ci := 1) hK hP hD hS hA hE rfl rfl) rfl hl.1 rfl (Nat.le_of_ble_eq_true rfl) dX1_sending_43 ⟨Nat.le_of_ble_eq_true rfl, Nat.le_of_ble_eq_true rfl⟩ hD hS hA (fun _ _ _ _ _ _ h => False.elim h) (fun v9 H locs hv9 hP hD hS => ?_)
          obtain ⟨_, rfl, rfl⟩ := hv9
          have hP : va_P D vwCl (wM bd cI 2 it o n g v r (sm_al nx mt fl pr ofs ak hd an) ++ rs) H := hP
          have hD : va_D A (wM bd cI 2 it o n g v r (sm_al nx mt fl pr ofs ak hd an) ++ rs) := hD
          refine W.eq (g2 := F0 m 46 ls [.int 0]) rfl ?_
          have htc : tc_sending it o n g p0 p1 p2 = 2 := by first | (simp [tc_sending, (sq_z_t c_1), hpe, (sq_z_t c_2), (sq_z_t c_3), c_4, (Int32.not_le.mp c_4)]; done) | (simp only [tc_sending, (sq_z_t c_1), hpe, (sq_z_t c_2), (sq_z_t c_3), c_4, (Int32.not_le.mp c_4), eq_self, not_true_eq_false, not_false_eq_true, and_self, and_true, true_and, and_false, false_and, or_true, true_or, or_false, false_or, if_true, if_false, ite_true, ite_false, Bool.and_eq_true, decide_true, decide_false, decide_eq_true_eq, ne_eq, Nat.reduceEqDiff, Nat.one_ne_zero, Bool.false_eq_true, reduceCtorEq]; done) | (simp only [tc_sending, (sq_z_t c_1), hpe, (sq_z_t c_2), (sq_z_t c_3), c_4, (Int32.not_le.mp c_4), eq_self, not_true_eq_false, not_false_eq_true, and_self, and_true, true_and, and_false, false_and, or_true, true_or, or_false, false_or, if_true, if_false, ite_true, ite_false, Bool.and_eq_true, decide_true, decide_false, decide_eq_true_eq, ne_eq, Nat.reduceEqDiff, Nat.one_ne_zero, Bool.false_eq_true, reduceCtorEq]; decide)
          exact kz_wreti hx hb hr hlocks (by rw [htc]; exact hP) (by rw [htc]; exact hD) hS (Nat.le_of_ble_eq_true rfl) (Nat.le_of_ble_eq_true rfl) (by rw [htc]; rfl)  dX1_sending_46
  · -- 13 -> 16
    have hpe : (sq_V p0 && sq_I (sq_P it o n g) p0) = false := (sm_hP hM p0).symm.trans (sq_z_f c_1)
    refine lv_aload_n hx hb dX1_sending_16 rfl (lv_at hl 0 rfl) ?_
    refine lv_iconst (v := 1) hx hb dX1_sending_17 (by decide) ?_
    refine kz_wV (As := [.int 1]) (rest := []) ⟨hx, hb, hml, hown, hw9⟩ (c_X1_fail l hl9 D cI ty bd rs H.size 0 it o n g v r (sm_al nx mt fl pr ofs ak hd an) 1) (kz_cV 1 hw9 mw_411 mw_413 ms_12 mw_2 mw_414 rfl rfl (by decide +kernel) ⟨Nat.le_of_ble_eq_true rfl, Nat.le_of_ble_eq_true rfl⟩) (kz_preV (q0 := 0) (ci := 1) hK hP hD hS hA hE rfl rfl) rfl hl.1 rfl (Nat.le_of_ble_eq_true rfl) dX1_sending_18 ⟨Nat.le_of_ble_eq_true rfl, Nat.le_of_ble_eq_true rfl⟩ hD hS hA (fun _ _ _ _ _ _ h => False.elim h) (fun v9 H locs hv9 hP hD hS => ?_)
    obtain ⟨_, rfl, rfl⟩ := hv9
    have hP : va_P D vwCl (wM bd cI 1 it o n g v r (sm_al nx mt fl pr ofs ak hd an) ++ rs) H := hP
    have hD : va_D A (wM bd cI 1 it o n g v r (sm_al nx mt fl pr ofs ak hd an) ++ rs) := hD
    refine W.eq (g2 := F0 m 21 ls [.int 0]) rfl ?_
    have htc : tc_sending it o n g p0 p1 p2 = 1 := by first | (simp [tc_sending, (sq_z_f c_1), hpe]; done) | (simp only [tc_sending, (sq_z_f c_1), hpe, eq_self, not_true_eq_false, not_false_eq_true, and_self, and_true, true_and, and_false, false_and, or_true, true_or, or_false, false_or, if_true, if_false, ite_true, ite_false, Bool.and_eq_true, decide_true, decide_false, decide_eq_true_eq, ne_eq, Nat.reduceEqDiff, Nat.one_ne_zero, Bool.false_eq_true, reduceCtorEq]; done) | (simp only [tc_sending, (sq_z_f c_1), hpe, eq_self, not_true_eq_false, not_false_eq_true, and_self, and_true, true_and, and_false, false_and, or_true, true_or, or_false, false_or, if_true, if_false, ite_true, ite_false, Bool.and_eq_true, decide_true, decide_false, decide_eq_true_eq, ne_eq, Nat.reduceEqDiff, Nat.one_ne_zero, Bool.false_eq_true, reduceCtorEq]; decide)
    exact kz_wreti hx hb hr hlocks (by rw [htc]; exact hP) (by rw [htc]; exact hD) hS (Nat.le_of_ble_eq_true rfl) (Nat.le_of_ble_eq_true rfl) (by rw [htc]; rfl)  dX1_sending_21
