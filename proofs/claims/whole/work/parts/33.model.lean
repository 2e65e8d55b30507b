set_option maxHeartbeats 4000000 in
set_option maxRecDepth 100000 in
theorem c_X1_vote (l : Launch) (hl9 : l.stackTraces = false) (D : va_G) (cI : ClassId) (ty : kz_Y) (bd : Nat → Nat) (rs : va_W) (sz : Nat) (th it o n g v r : Int32) (nx mt fl pr ofs ak hd an : Nat → Int32) (p0 : Int32) (hM : sv_m it o n g v) : ez_M l yX1_vote wsX1_vote ({ frames := 3, cells := 1, slots := 6, locals := 66 } : Room) (kz_P D ((cI, .int) :: ty) (wM bd cI th it o n g v r (sm_al nx mt fl pr ofs ak hd an) ++ rs) sz [.ref (bd 0), .int p0]) (kz_Wr D (va_A (wM bd cI th it o n g v r (sm_al nx mt fl pr ofs ak hd an) ++ rs) sz) (kz_i (fun r9 => r9 = (if tc_server p0 = 0 then sq_z (sq_M o n (v ||| sq_1 p0)) else 0))) (wM bd cI (nI (tc_server p0)) it o n g (if tc_server p0 = 0 then v ||| sq_1 p0 else v) r (sm_al nx mt fl pr ofs ak hd an) ++ rs)) (kz_T (fun _ => IAE) (fun _ => False)) 0 0 (va_A (wM bd cI th it o n g v r (sm_al nx mt fl pr ofs ak hd an) ++ rs) sz) := by
  refine ez_ofW (cc := cX1_vote) (maxL := 2) (ret := (some .boolean)) (by decide) rfl ?_
  intro p e s m args below meth c s₁ B hml hTab hv
  obtain ⟨rfl, hsz, hP, hK, hD0, hE⟩ := hv
  have hx := B.exec
  have hb := B.bytes
  have hr := B.returns
  have hw9 : ∀ w ∈ kz_W9, w.before ([.ref (bd 0), .int p0] : List Value).toArray s = true := fun w h => atoms_spec (ws := wsX1_vote) B.pre w (List.mem_cons_of_mem _ h)
  have hown : s.vm.findClass RX1 = some m.cls := findClass_of_methodNamed B.named
  have hlocks := B.notSynchronized
  subst hsz
  have hD := hD0.self (sz := s.heap.size)
  generalize hAe : va_A (wM bd cI th it o n g v r (sm_al nx mt fl pr ofs ak hd an) ++ rs) s.heap.size = A at hD hE ⊢
  have hA : ∀ q : Nat, s.heap.size ≤ q → A q := fun q h => by rw [← hAe]; exact Or.inr h
  have hS : va_S A s.heap s.heap [] := va_S.rf
  have hO : kz_O s.heap s.heap := kz_O.rf _
  have hl := lv_entry ([.ref (bd 0), .int p0]) (n := 2) (Nat.le_of_ble_eq_true rfl)
  rw [lg_entry_eq]
  generalize (lg_sl ([.ref (bd 0), .int p0]) ++ List.replicate (2 - (lg_sl ([.ref (bd 0), .int p0])).length) Slot.unset).toArray = ls at hl ⊢
  have hl : lv_has ls 2 [(0, .ref (bd 0)), (1, .int p0)] := hl
  obtain ⟨hIt, hOo, hNn, hGg, hVv⟩ := id hM
  obtain ⟨xo, ho8, eo⟩ := sm_S hOo
  obtain ⟨xn, hn8, en⟩ := sm_S hNn
  obtain ⟨xg, hg8, eg⟩ := sm_S hGg
  obtain ⟨xv, hv8, ev⟩ := sm_S hVv
  obtain ⟨hIa, hIe⟩ := sm_srv hIt
  refine lv_aload_n hx hb dX1_vote_0 rfl (lv_at hl 0 rfl) ?_
  refine lv_iconst (v := 0) hx hb dX1_vote_1 (by decide) ?_
  refine va_put (D := D) (ci := 1) (v := .int 0) (ty := .int) (C := RX1) (T := TX1) (N := 8) hx hb hw9 uX1 tyX1 tyX1_ok nmX1 hown hK hP hD hS 0 rfl rfl 0 (by decide) (hw9 _ mw_360) (fun _ h9 => h9) rfl (by decide +kernel) rfl rfl (Nat.le_of_ble_eq_true rfl) dX1_vote_2 (fun H locs hP hD hS => ?_)
  have hP : va_P D vwCl (wM bd cI 0 it o n g v r (sm_al nx mt fl pr ofs ak hd an) ++ rs) H := hP
  have hD : va_D A (wM bd cI 0 it o n g v r (sm_al nx mt fl pr ofs ak hd an) ++ rs) := hD
  refine lv_bipush (v := 127) hx hb dX1_vote_5 (by decide) ?_
  refine lv_iload_n hx hb dX1_vote_7 rfl (lv_at hl 1 rfl) ?_
  refine kz_rS (As := [.int 127, .int p0]) (rest := []) ⟨hx, hb, hml, hown, hw9⟩ (c_X1_has l hl9 D ((cI, .int) :: ty) (wM bd cI 0 it o n g v r (sm_al nx mt fl pr ofs ak hd an) ++ rs) H.size 127 p0) (kz_cS 2 hw9 mw_400 mw_401 mw_2 mw_402 rfl rfl (by decide +kernel) ⟨Nat.le_of_ble_eq_true rfl, Nat.le_of_ble_eq_true rfl⟩) (kz_preS hK hP hD hS hA hE) rfl hl.1 rfl (Nat.le_of_ble_eq_true rfl) dX1_vote_8 ⟨Nat.le_of_ble_eq_true rfl, Nat.le_of_ble_eq_true rfl⟩ (fun _ _ _ _ h => False.elim h) (fun v9 H hv9 hO1 => ?_)
  obtain ⟨_, rfl, rfl⟩ := hv9
  have hP := hO1.P hP
  have hS := hO1.S hS
  refine W.eq (g2 := F0 m 11 ls [.int (sq_z (sm_h 127 p0))]) rfl ?_
  refine lv_if_ne (tgt := 28) hx hb dX1_vote_11 (by decide) (fun c_1 => ?_) (fun c_1 => ?_)
  · -- 11 -> 28
    have hsv : sq_V p0 = true := (sm_h127 p0).symm.trans (sq_z_t c_1)
    obtain ⟨hsA, hsE⟩ := sm_srv hsv
    refine lv_aload_n hx hb dX1_vote_28 rfl (lv_at hl 0 rfl) ?_
    refine va_get (D := D) (ci := 1) (v := .int v) (C := RX1) (T := TX1) (N := 8) hx hb hw9 uX1 hown hK hP 0 rfl rfl 5 (by decide) (hw9 _ mw_365) (fun _ h9 => h9) rfl dX1_vote_29 ?_
    refine lv_iload_n hx hb dX1_vote_32 rfl (lv_at hl 1 rfl) ?_
    refine kz_rS (As := [.int v, .int p0]) (rest := []) ⟨hx, hb, hml, hown, hw9⟩ (c_X1_has l hl9 D ((cI, .int) :: ty) (wM bd cI 0 it o n g v r (sm_al nx mt fl pr ofs ak hd an) ++ rs) H.size v p0) (kz_cS 2 hw9 mw_400 mw_401 mw_2 mw_402 rfl rfl (by decide +kernel) ⟨Nat.le_of_ble_eq_true rfl, Nat.le_of_ble_eq_true rfl⟩) (kz_preS hK hP hD hS hA hE) rfl hl.1 rfl (Nat.le_of_ble_eq_true rfl) dX1_vote_33 ⟨Nat.le_of_ble_eq_true rfl, Nat.le_of_ble_eq_true rfl⟩ (fun _ _ _ _ h => False.elim h) (fun v9 H hv9 hO1 => ?_)
    obtain ⟨_, rfl, rfl⟩ := hv9
    have hP := hO1.P hP
    have hS := hO1.S hS
    refine W.eq (g2 := F0 m 36 ls [.int (sq_z (sm_h v p0))]) rfl ?_
    refine lv_if_ne (tgt := 51) hx hb dX1_vote_36 (by decide) (fun c_2 => ?_) (fun c_2 => ?_)
    · -- 36 -> 51
      refine lv_aload_n hx hb dX1_vote_51 rfl (lv_at hl 0 rfl) ?_
      refine lv_aload_n hx hb dX1_vote_52 rfl (lv_at hl 0 rfl) ?_
      refine va_get (D := D) (ci := 1) (v := .int v) (C := RX1) (T := TX1) (N := 8) hx hb hw9 uX1 hown hK hP 0 rfl rfl 5 (by decide) (hw9 _ mw_365) (fun _ h9 => h9) rfl dX1_vote_53 ?_
      refine kz_rV (As := [.int v]) (rest := []) ⟨hx, hb, hml, hown, hw9⟩ (c_X1_carries l hl9 D cI ty bd rs H.size 0 it o n g v r (sm_al nx mt fl pr ofs ak hd an) v hM hVv) (kz_cV 1 hw9 mw_419 mw_421 ms_13 mw_2 mw_422 rfl rfl (by decide +kernel) ⟨Nat.le_of_ble_eq_true rfl, Nat.le_of_ble_eq_true rfl⟩) (kz_preV (q0 := 0) (ci := 1) hK hP hD hS hA hE rfl rfl) rfl hl.1 rfl (Nat.le_of_ble_eq_true rfl) dX1_vote_56 ⟨Nat.le_of_ble_eq_true rfl, Nat.le_of_ble_eq_true rfl⟩ (fun _ _ _ _ h => False.elim h) (fun v9 H hv9 hO1 => ?_)
      obtain ⟨_, rfl, rfl⟩ := hv9
      have hP := hO1.P hP
      have hS := hO1.S hS
      refine W.eq (g2 := F0 m 59 ls [.int (sq_z (sq_M o n v))]) rfl ?_
      have htc : tc_server p0 = 0 := by first | (simp [tc_server, (sq_z_t c_1), (sq_z_t c_2), ((sm_h127 p0).symm.trans (sq_z_t c_1))]; done) | (simp only [tc_server, (sq_z_t c_1), (sq_z_t c_2), ((sm_h127 p0).symm.trans (sq_z_t c_1)), eq_self, not_true_eq_false, not_false_eq_true, and_self, and_true, true_and, and_false, false_and, or_true, true_or, or_false, false_or, if_true, if_false, ite_true, ite_false, Bool.and_eq_true, decide_true, decide_false, decide_eq_true_eq, ne_eq, Nat.reduceEqDiff, Nat.one_ne_zero, Bool.false_eq_true, reduceCtorEq]; done) | (simp only [tc_server, (sq_z_t c_1), (sq_z_t c_2), ((sm_h127 p0).symm.trans (sq_z_t c_1)), eq_self, not_true_eq_false, not_false_eq_true, and_self, and_true, true_and, and_false, false_and, or_true, true_or, or_false, false_or, if_true, if_false, ite_true, ite_false, Bool.and_eq_true, decide_true, decide_false, decide_eq_true_eq, ne_eq, Nat.reduceEqDiff, Nat.one_ne_zero, Bool.false_eq_true, reduceCtorEq]; decide)
      have e_v : (v ||| sq_1 p0) = v := (sm_vt0 hVv hsv (sq_z_t c_2)).symm
      exact kz_wretz hx hb hr hlocks (by simp only [htc, if_true, e_v]; exact hP) (by simp only [htc, if_true, e_v]; exact hD) hS (Nat.le_of_ble_eq_true rfl) (Nat.le_of_ble_eq_true rfl) (by rw [htc]; exact (show (sq_z (sq_M o n v)) = (sq_z (sq_M o n (v ||| sq_1 p0))) from by rw [← sm_vt0 hVv hsv (sq_z_t c_2)])) (sq_z_nar _) dX1_vote_59
    · -- 36 -> 39
      refine lv_aload_n hx hb dX1_vote_39 rfl (lv_at hl 0 rfl) ?_
      refine lv_dup hx hb dX1_vote_40 rfl ?_
      refine va_get (D := D) (ci := 1) (v := .int v) (C := RX1) (T := TX1) (N := 8) hx hb hw9 uX1 hown hK hP 0 rfl rfl 5 (by decide) (hw9 _ mw_365) (fun _ h9 => h9) rfl dX1_vote_41 ?_
      refine lv_iconst (v := 1) hx hb dX1_vote_44 (by decide) ?_
      refine lv_iload_n hx hb dX1_vote_45 rfl (lv_at hl 1 rfl) ?_
      refine lv_ishl hx hb dX1_vote_46 ?_
      refine lv_iadd hx hb dX1_vote_47 ?_
      refine va_put (D := D) (ci := 1) (v := .int (v + (1 <<< (p0 &&& 31)))) (ty := .int) (C := RX1) (T := TX1) (N := 8) hx hb hw9 uX1 tyX1 tyX1_ok nmX1 hown hK hP hD hS 0 rfl rfl 5 (by decide) (hw9 _ mw_365) (fun _ h9 => h9) rfl (by decide +kernel) rfl rfl (Nat.le_of_ble_eq_true rfl) dX1_vote_48 (fun H locs hP hD hS => ?_)
      have hnv : sm_h v p0 = false := (sq_z_f c_2)
      rw [sm_vt1 hVv hsv hnv] at hP hD
      have hP : va_P D vwCl (wM bd cI 0 it o n g (v ||| sq_1 p0) r (sm_al nx mt fl pr ofs ak hd an) ++ rs) H := hP
      have hD : va_D A (wM bd cI 0 it o n g (v ||| sq_1 p0) r (sm_al nx mt fl pr ofs ak hd an) ++ rs) := hD
      refine lv_aload_n hx hb dX1_vote_51 rfl (lv_at hl 0 rfl) ?_
      refine lv_aload_n hx hb dX1_vote_52 rfl (lv_at hl 0 rfl) ?_
      refine va_get (D := D) (ci := 1) (v := .int (v ||| sq_1 p0)) (C := RX1) (T := TX1) (N := 8) hx hb hw9 uX1 hown hK hP 0 rfl rfl 5 (by decide) (hw9 _ mw_365) (fun _ h9 => h9) rfl dX1_vote_53 ?_
      refine kz_rV (As := [.int (v ||| sq_1 p0)]) (rest := []) ⟨hx, hb, hml, hown, hw9⟩ (c_X1_carries l hl9 D cI ty bd rs H.size 0 it o n g (v ||| sq_1 p0) r (sm_al nx mt fl pr ofs ak hd an) (v ||| sq_1 p0) (⟨hIt, hOo, hNn, hGg, sm_vS hVv hsv⟩) (sm_vS hVv hsv)) (kz_cV 1 hw9 mw_419 mw_421 ms_13 mw_2 mw_422 rfl rfl (by decide +kernel) ⟨Nat.le_of_ble_eq_true rfl, Nat.le_of_ble_eq_true rfl⟩) (kz_preV (q0 := 0) (ci := 1) hK hP hD hS hA hE rfl rfl) rfl hl.1 rfl (Nat.le_of_ble_eq_true rfl) dX1_vote_56 ⟨Nat.le_of_ble_eq_true rfl, Nat.le_of_ble_eq_true rfl⟩ (fun _ _ _ _ h => False.elim h) (fun v9 H hv9 hO1 => ?_)
      obtain ⟨_, rfl, rfl⟩ := hv9
      have hP := hO1.P hP
      have hS := hO1.S hS
      refine W.eq (g2 := F0 m 59 ls [.int (sq_z (sq_M o n (v ||| sq_1 p0)))]) rfl ?_
      have htc : tc_server p0 = 0 := by first | (simp [tc_server, (sq_z_t c_1), (sq_z_f c_2), ((sm_h127 p0).symm.trans (sq_z_t c_1))]; done) | (simp only [tc_server, (sq_z_t c_1), (sq_z_f c_2), ((sm_h127 p0).symm.trans (sq_z_t c_1)), eq_self, not_true_eq_false, not_false_eq_true, and_self, and_true, true_and, and_false, false_and, or_true, true_or, or_false, false_or, if_true, if_false, ite_true, ite_false, Bool.and_eq_true, decide_true, decide_false, decide_eq_true_eq, ne_eq, Nat.reduceEqDiff, Nat.one_ne_zero, Bool.false_eq_true, reduceCtorEq]; done) | (simp only [tc_server, (sq_z_t c_1), (sq_z_f c_2), ((sm_h127 p0).symm.trans (sq_z_t c_1)), eq_self, not_true_eq_false, not_false_eq_true, and_self, and_true, true_and, and_false, false_and, or_true, true_or, or_false, false_or, if_true, if_false, ite_true, ite_false, Bool.and_eq_true, decide_true, decide_false, decide_eq_true_eq, ne_eq, Nat.reduceEqDiff, Nat.one_ne_zero, Bool.false_eq_true, reduceCtorEq]; decide)
      exact kz_wretz hx hb hr hlocks (by rw [htc]; exact hP) (by rw [htc]; exact hD) hS (Nat.le_of_ble_eq_true rfl) (Nat.le_of_ble_eq_true rfl) (by rw [htc]; exact (show (sq_z (sq_M o n (v ||| sq_1 p0))) = (sq_z (sq_M o n (v ||| sq_1 p0))) from rfl)) (sq_z_nar _) dX1_vote_59
  · -- 11 -> 14
    refine lv_aload_n hx hb dX1_vote_14 rfl (lv_at hl 0 rfl) ?_
    refine lv_iconst (v := 1) hx hb dX1_vote_15 (by decide) ?_
    refine kz_wV (As := [.int 1]) (rest := []) ⟨hx, hb, hml, hown, hw9⟩ (c_X1_fail l hl9 D cI ty bd rs H.size 0 it o n g v r (sm_al nx mt fl pr ofs ak hd an) 1) (kz_cV 1 hw9 mw_411 mw_413 ms_12 mw_2 mw_414 rfl rfl (by decide +kernel) ⟨Nat.le_of_ble_eq_true rfl, Nat.le_of_ble_eq_true rfl⟩) (kz_preV (q0 := 0) (ci := 1) hK hP hD hS hA hE rfl rfl) rfl hl.1 rfl (Nat.le_of_ble_eq_true rfl) dX1_vote_16 ⟨Nat.le_of_ble_eq_true rfl, Nat.le_of_ble_eq_true rfl⟩ hD hS hA (fun _ _ _ _ _ _ h => False.elim h) (fun v9 H locs hv9 hP hD hS => ?_)
    obtain ⟨_, rfl, rfl⟩ := hv9
    have hP : va_P D vwCl (wM bd cI 1 it o n g v r (sm_al nx mt fl pr ofs ak hd an) ++ rs) H := hP
    have hD : va_D A (wM bd cI 1 it o n g v r (sm_al nx mt fl pr ofs ak hd an) ++ rs) := hD
    refine W.eq (g2 := F0 m 19 ls [.int 0]) rfl ?_
    refine lv_if_le (tgt := 26) hx hb dX1_vote_19 (by decide) (fun c_3 => ?_) (fun c_3 => ?_)
    · -- 19 -> 26
      refine lv_iconst (v := 0) hx hb dX1_vote_26 (by decide) ?_
      have htc : tc_server p0 = 1 := by first | (simp [tc_server, (sq_z_f c_1), c_3, (Int32.not_lt.mpr c_3), ((sm_h127 p0).symm.trans (sq_z_f c_1))]; done) | (simp only [tc_server, (sq_z_f c_1), c_3, (Int32.not_lt.mpr c_3), ((sm_h127 p0).symm.trans (sq_z_f c_1)), eq_self, not_true_eq_false, not_false_eq_true, and_self, and_true, true_and, and_false, false_and, or_true, true_or, or_false, false_or, if_true, if_false, ite_true, ite_false, Bool.and_eq_true, decide_true, decide_false, decide_eq_true_eq, ne_eq, Nat.reduceEqDiff, Nat.one_ne_zero, Bool.false_eq_true, reduceCtorEq]; done) | (simp only [tc_server, (sq_z_f c_1), c_3, (Int32.not_lt.mpr c_3), ((sm_h127 p0).symm.trans (sq_z_f c_1)), eq_self, not_true_eq_false, not_false_eq_true, and_self, and_true, true_and, and_false, false_and, or_true, true_or, or_false, false_or, if_true, if_false, ite_true, ite_false, Bool.and_eq_true, decide_true, decide_false, decide_eq_true_eq, ne_eq, Nat.reduceEqDiff, Nat.one_ne_zero, Bool.false_eq_true, reduceCtorEq]; decide)
      exact kz_wretz hx hb hr hlocks (by rw [htc]; exact hP) (by rw [htc]; exact hD) hS (Nat.le_of_ble_eq_true rfl) (Nat.le_of_ble_eq_true rfl) (by rw [htc]; rfl) rfl dX1_vote_27
    · -- 19 -> 22
      exact absurd (by decide) c_3
set_option maxHeartbeats 4000000 in
set_option maxRecDepth 100000 in
theorem c_X1_own (l : Launch) (hl9 : l.stackTraces = false) (D : va_G) (cI : ClassId) (ty : kz_Y) (bd : Nat → Nat) (rs : va_W) (sz : Nat) (th it o n g v r : Int32) (nx mt fl pr ofs ak hd an : Nat → Int32) (p0 : Int32) (p1 : Int32) (hM : sv_m it o n g v) : ez_M l yX1_own wsX1_own ({ frames := 1, cells := 1, slots := 6, locals := 23 } : Room) (kz_P D ((cI, .int) :: ty) (wM bd cI th it o n g v r (sm_al nx mt fl pr ofs ak hd an) ++ rs) sz [.ref (bd 0), .int p0, .int p1]) (kz_Wr D (va_A (wM bd cI th it o n g v r (sm_al nx mt fl pr ofs ak hd an) ++ rs) sz) (kz_v (True)) (wM bd cI (nI (tc_own p0 p1)) it o n g v r (sm_al nx (if tc_own p0 p1 = 0 then upd mt it.toNatClampNeg p0 else mt) fl pr ofs (if tc_own p0 p1 = 0 then upd ak it.toNatClampNeg r else ak) (if tc_own p0 p1 = 0 then upd hd it.toNatClampNeg p1 else hd) an) ++ rs)) (kz_T (fun _ => IAE) (fun _ => False)) 0 0 (va_A (wM bd cI th it o n g v r (sm_al nx mt fl pr ofs ak hd an) ++ rs) sz) := by
  refine ez_ofW (cc := cX1_own) (maxL := 3) (ret := none) (by decide) rfl ?_
  intro p e s m args below meth c s₁ B hml hTab hv
  obtain ⟨rfl, hsz, hP, hK, hD0, hE⟩ := hv
  have hx := B.exec
  have hb := B.bytes
  have hr := B.returns
  have hw9 : ∀ w ∈ kz_W9, w.before ([.ref (bd 0), .int p0, .int p1] : List Value).toArray s = true := fun w h => atoms_spec (ws := wsX1_own) B.pre w (List.mem_cons_of_mem _ h)
  have hown : s.vm.findClass RX1 = some m.cls := findClass_of_methodNamed B.named
  have hlocks := B.notSynchronized
  subst hsz
  have hD := hD0.self (sz := s.heap.size)
  generalize hAe : va_A (wM bd cI th it o n g v r (sm_al nx mt fl pr ofs ak hd an) ++ rs) s.heap.size = A at hD hE ⊢
  have hA : ∀ q : Nat, s.heap.size ≤ q → A q := fun q h => by rw [← hAe]; exact Or.inr h
  have hS : va_S A s.heap s.heap [] := va_S.rf
  have hO : kz_O s.heap s.heap := kz_O.rf _
  have hl := lv_entry ([.ref (bd 0), .int p0, .int p1]) (n := 3) (Nat.le_of_ble_eq_true rfl)
  rw [lg_entry_eq]
  generalize (lg_sl ([.ref (bd 0), .int p0, .int p1]) ++ List.replicate (3 - (lg_sl ([.ref (bd 0), .int p0, .int p1])).length) Slot.unset).toArray = ls at hl ⊢
  have hl : lv_has ls 3 [(0, .ref (bd 0)), (1, .int p0), (2, .int p1)] := hl
  obtain ⟨hIt, hOo, hNn, hGg, hVv⟩ := id hM
  obtain ⟨xo, ho8, eo⟩ := sm_S hOo
  obtain ⟨xn, hn8, en⟩ := sm_S hNn
  obtain ⟨xg, hg8, eg⟩ := sm_S hGg
  obtain ⟨xv, hv8, ev⟩ := sm_S hVv
  obtain ⟨hIa, hIe⟩ := sm_srv hIt
  refine lv_aload_n hx hb dX1_own_0 rfl (lv_at hl 0 rfl) ?_
  refine lv_iconst (v := 0) hx hb dX1_own_1 (by decide) ?_
  refine va_put (D := D) (ci := 1) (v := .int 0) (ty := .int) (C := RX1) (T := TX1) (N := 8) hx hb hw9 uX1 tyX1 tyX1_ok nmX1 hown hK hP hD hS 0 rfl rfl 0 (by decide) (hw9 _ mw_360) (fun _ h9 => h9) rfl (by decide +kernel) rfl rfl (Nat.le_of_ble_eq_true rfl) dX1_own_2 (fun H locs hP hD hS => ?_)
  have hP : va_P D vwCl (wM bd cI 0 it o n g v r (sm_al nx mt fl pr ofs ak hd an) ++ rs) H := hP
  have hD : va_D A (wM bd cI 0 it o n g v r (sm_al nx mt fl pr ofs ak hd an) ++ rs) := hD
  refine lv_iload_n hx hb dX1_own_5 rfl (lv_at hl 1 rfl) ?_
  refine kz_rS (As := [.int p0]) (rest := []) ⟨hx, hb, hml, hown, hw9⟩ (c_X1_number l hl9 D ((cI, .int) :: ty) (wM bd cI 0 it o n g v r (sm_al nx mt fl pr ofs ak hd an) ++ rs) H.size p0) (kz_cS 1 hw9 mw_438 mw_439 mw_2 mw_440 rfl rfl (by decide +kernel) ⟨Nat.le_of_ble_eq_true rfl, Nat.le_of_ble_eq_true rfl⟩) (kz_preS hK hP hD hS hA hE) rfl hl.1 rfl (Nat.le_of_ble_eq_true rfl) dX1_own_6 ⟨Nat.le_of_ble_eq_true rfl, Nat.le_of_ble_eq_true rfl⟩ (fun _ _ _ _ h => False.elim h) (fun v9 H hv9 hO1 => ?_)
  obtain ⟨_, rfl, rfl⟩ := hv9
  have hP := hO1.P hP
  have hS := hO1.S hS
  refine W.eq (g2 := F0 m 9 ls [.int (sq_z (sq_N p0))]) rfl ?_
  refine lv_if_eq (tgt := 19) hx hb dX1_own_9 (by decide) (fun c_1 => ?_) (fun c_1 => ?_)
  · -- 9 -> 19
    refine lv_aload_n hx hb dX1_own_19 rfl (lv_at hl 0 rfl) ?_
    refine lv_iconst (v := 1) hx hb dX1_own_20 (by decide) ?_
    refine va_put (D := D) (ci := 1) (v := .int 1) (ty := .int) (C := RX1) (T := TX1) (N := 8) hx hb hw9 uX1 tyX1 tyX1_ok nmX1 hown hK hP hD hS 0 rfl rfl 0 (by decide) (hw9 _ mw_360) (fun _ h9 => h9) rfl (by decide +kernel) rfl rfl (Nat.le_of_ble_eq_true rfl) dX1_own_21 (fun H locs hP hD hS => ?_)
    have hP : va_P D vwCl (wM bd cI 1 it o n g v r (sm_al nx mt fl pr ofs ak hd an) ++ rs) H := hP
    have hD : va_D A (wM bd cI 1 it o n g v r (sm_al nx mt fl pr ofs ak hd an) ++ rs) := hD
    have htc : tc_own p0 p1 = 1 := by first | (simp [tc_own, (sq_z_f c_1)]; done) | (simp only [tc_own, (sq_z_f c_1), eq_self, not_true_eq_false, not_false_eq_true, and_self, and_true, true_and, and_false, false_and, or_true, true_or, or_false, false_or, if_true, if_false, ite_true, ite_false, Bool.and_eq_true, decide_true, decide_false, decide_eq_true_eq, ne_eq, Nat.reduceEqDiff, Nat.one_ne_zero, Bool.false_eq_true, reduceCtorEq]; done) | (simp only [tc_own, (sq_z_f c_1), eq_self, not_true_eq_false, not_false_eq_true, and_self, and_true, true_and, and_false, false_and, or_true, true_or, or_false, false_or, if_true, if_false, ite_true, ite_false, Bool.and_eq_true, decide_true, decide_false, decide_eq_true_eq, ne_eq, Nat.reduceEqDiff, Nat.one_ne_zero, Bool.false_eq_true, reduceCtorEq]; decide)
    exact kz_wretv hx hb hr hlocks (by rw [htc]; exact hP) (by rw [htc]; exact hD) hS (Nat.le_of_ble_eq_true rfl) (Nat.le_of_ble_eq_true rfl) (trivial)  dX1_own_24
  · -- 9 -> 12
    refine lv_iload_n hx hb dX1_own_12 rfl (lv_at hl 2 rfl) ?_
    refine kz_rS (As := [.int p1]) (rest := []) ⟨hx, hb, hml, hown, hw9⟩ (c_X1_number l hl9 D ((cI, .int) :: ty) (wM bd cI 0 it o n g v r (sm_al nx mt fl pr ofs ak hd an) ++ rs) H.size p1) (kz_cS 1 hw9 mw_438 mw_439 mw_2 mw_440 rfl rfl (by decide +kernel) ⟨Nat.le_of_ble_eq_true rfl, Nat.le_of_ble_eq_true rfl⟩) (kz_preS hK hP hD hS hA hE) rfl hl.1 rfl (Nat.le_of_ble_eq_true rfl) dX1_own_13 ⟨Nat.le_of_ble_eq_true rfl, Nat.le_of_ble_eq_true rfl⟩ (fun _ _ _ _ h => False.elim h) (fun v9 H hv9 hO1 => ?_)
    obtain ⟨_, rfl, rfl⟩ := hv9
    have hP := hO1.P hP
    have hS := hO1.S hS
    refine W.eq (g2 := F0 m 16 ls [.int (sq_z (sq_N p1))]) rfl ?_
    refine lv_if_ne (tgt := 25) hx hb dX1_own_16 (by decide) (fun c_2 => ?_) (fun c_2 => ?_)
    · -- 16 -> 25
      refine lv_aload_n hx hb dX1_own_25 rfl (lv_at hl 0 rfl) ?_
      refine lv_aload_n hx hb dX1_own_26 rfl (lv_at hl 0 rfl) ?_
      refine va_get (D := D) (ci := 1) (v := .int it) (C := RX1) (T := TX1) (N := 8) hx hb hw9 uX1 hown hK hP 0 rfl rfl 1 (by decide) (hw9 _ mw_361) (fun _ h9 => h9) rfl dX1_own_27 ?_
      refine lv_iconst (v := 1) hx hb dX1_own_30 (by decide) ?_
      refine lv_iload_n hx hb dX1_own_31 rfl (lv_at hl 1 rfl) ?_
      refine kz_wV (As := [.int it, .int 1, .int p0]) (rest := []) ⟨hx, hb, hml, hown, hw9⟩ (c_X1_put l hl9 D cI ty bd rs H.size 0 it o n g v r (sm_al nx mt fl pr ofs ak hd an) it.toNatClampNeg 1 it 1 p0 hIa (by decide) hIe rfl) (kz_cV 3 hw9 mw_442 mw_444 ms_14 mw_2 mw_445 rfl rfl (by decide +kernel) ⟨Nat.le_of_ble_eq_true rfl, Nat.le_of_ble_eq_true rfl⟩) (kz_preV (q0 := 0) (ci := 1) hK hP hD hS hA hE rfl rfl) rfl hl.1 rfl (Nat.le_of_ble_eq_true rfl) dX1_own_32 ⟨Nat.le_of_ble_eq_true rfl, Nat.le_of_ble_eq_true rfl⟩ hD hS hA (fun _ _ _ _ _ _ h => False.elim h) (fun v9 H locs hv9 hP hD hS => ?_)
      obtain ⟨rfl, -⟩ := hv9
      rw [sm_p1] at hP hD
      have hP : va_P D vwCl (wM bd cI 0 it o n g v r (sm_al nx (upd mt it.toNatClampNeg p0) fl pr ofs ak hd an) ++ rs) H := hP
      have hD : va_D A (wM bd cI 0 it o n g v r (sm_al nx (upd mt it.toNatClampNeg p0) fl pr ofs ak hd an) ++ rs) := hD
      refine W.eq (g2 := F0 m 35 ls []) rfl ?_
      refine lv_aload_n hx hb dX1_own_35 rfl (lv_at hl 0 rfl) ?_
      refine lv_aload_n hx hb dX1_own_36 rfl (lv_at hl 0 rfl) ?_
      refine va_get (D := D) (ci := 1) (v := .int it) (C := RX1) (T := TX1) (N := 8) hx hb hw9 uX1 hown hK hP 0 rfl rfl 1 (by decide) (hw9 _ mw_361) (fun _ h9 => h9) rfl dX1_own_37 ?_
      refine lv_bipush (v := 6) hx hb dX1_own_40 (by decide) ?_
      refine lv_iload_n hx hb dX1_own_42 rfl (lv_at hl 2 rfl) ?_
      refine kz_wV (As := [.int it, .int 6, .int p1]) (rest := []) ⟨hx, hb, hml, hown, hw9⟩ (c_X1_put l hl9 D cI ty bd rs H.size 0 it o n g v r (sm_al nx (upd mt it.toNatClampNeg p0) fl pr ofs ak hd an) it.toNatClampNeg 6 it 6 p1 hIa (by decide) hIe rfl) (kz_cV 3 hw9 mw_442 mw_444 ms_14 mw_2 mw_445 rfl rfl (by decide +kernel) ⟨Nat.le_of_ble_eq_true rfl, Nat.le_of_ble_eq_true rfl⟩) (kz_preV (q0 := 0) (ci := 1) hK hP hD hS hA hE rfl rfl) rfl hl.1 rfl (Nat.le_of_ble_eq_true rfl) dX1_own_43 ⟨Nat.le_of_ble_eq_true rfl, Nat.le_of_ble_eq_true rfl⟩ hD hS hA (fun _ _ _ _ _ _ h => False.elim h) (fun v9 H locs hv9 hP hD hS => ?_)
      obtain ⟨rfl, -⟩ := hv9
      rw [sm_p6] at hP hD
      have hP : va_P D vwCl (wM bd cI 0 it o n g v r (sm_al nx (upd mt it.toNatClampNeg p0) fl pr ofs ak (upd hd it.toNatClampNeg p1) an) ++ rs) H := hP
      have hD : va_D A (wM bd cI 0 it o n g v r (sm_al nx (upd mt it.toNatClampNeg p0) fl pr ofs ak (upd hd it.toNatClampNeg p1) an) ++ rs) := hD
      refine W.eq (g2 := F0 m 46 ls []) rfl ?_
      refine lv_aload_n hx hb dX1_own_46 rfl (lv_at hl 0 rfl) ?_
      refine lv_aload_n hx hb dX1_own_47 rfl (lv_at hl 0 rfl) ?_
      refine va_get (D := D) (ci := 1) (v := .int it) (C := RX1) (T := TX1) (N := 8) hx hb hw9 uX1 hown hK hP 0 rfl rfl 1 (by decide) (hw9 _ mw_361) (fun _ h9 => h9) rfl dX1_own_48 ?_
      refine lv_iconst (v := 5) hx hb dX1_own_51 (by decide) ?_
      refine lv_aload_n hx hb dX1_own_52 rfl (lv_at hl 0 rfl) ?_
      refine va_get (D := D) (ci := 1) (v := .int r) (C := RX1) (T := TX1) (N := 8) hx hb hw9 uX1 hown hK hP 0 rfl rfl 6 (by decide) (hw9 _ mw_366) (fun _ h9 => h9) rfl dX1_own_53 ?_
      refine kz_wV (As := [.int it, .int 5, .int r]) (rest := []) ⟨hx, hb, hml, hown, hw9⟩ (c_X1_put l hl9 D cI ty bd rs H.size 0 it o n g v r (sm_al nx (upd mt it.toNatClampNeg p0) fl pr ofs ak (upd hd it.toNatClampNeg p1) an) it.toNatClampNeg 5 it 5 r hIa (by decide) hIe rfl) (kz_cV 3 hw9 mw_442 mw_444 ms_14 mw_2 mw_445 rfl rfl (by decide +kernel) ⟨Nat.le_of_ble_eq_true rfl, Nat.le_of_ble_eq_true rfl⟩) (kz_preV (q0 := 0) (ci := 1) hK hP hD hS hA hE rfl rfl) rfl hl.1 rfl (Nat.le_of_ble_eq_true rfl) dX1_own_56 ⟨Nat.le_of_ble_eq_true rfl, Nat.le_of_ble_eq_true rfl⟩ hD hS hA (fun _ _ _ _ _ _ h => False.elim h) (fun v9 H locs hv9 hP hD hS => ?_)
      obtain ⟨rfl, -⟩ := hv9
      rw [sm_p5] at hP hD
      have hP : va_P D vwCl (wM bd cI 0 it o n g v r (sm_al nx (upd mt it.toNatClampNeg p0) fl pr ofs (upd ak it.toNatClampNeg r) (upd hd it.toNatClampNeg p1) an) ++ rs) H := hP
      have hD : va_D A (wM bd cI 0 it o n g v r (sm_al nx (upd mt it.toNatClampNeg p0) fl pr ofs (upd ak it.toNatClampNeg r) (upd hd it.toNatClampNeg p1) an) ++ rs) := hD
      refine W.eq (g2 := F0 m 59 ls []) rfl ?_
      have htc : tc_own p0 p1 = 0 := by first | (simp [tc_own, (sq_z_t c_1), (sq_z_t c_2)]; done) | (simp only [tc_own, (sq_z_t c_1), (sq_z_t c_2), eq_self, not_true_eq_false, not_false_eq_true, and_self, and_true, true_and, and_false, false_and, or_true, true_or, or_false, false_or, if_true, if_false, ite_true, ite_false, Bool.and_eq_true, decide_true, decide_false, decide_eq_true_eq, ne_eq, Nat.reduceEqDiff, Nat.one_ne_zero, Bool.false_eq_true, reduceCtorEq]; done) | (simp only [tc_own, (sq_z_t c_1), (sq_z_t c_2), eq_self, not_true_eq_false, not_false_eq_true, and_self, and_true, true_and, and_false, false_and, or_true, true_or, or_false, false_or, if_true, if_false, ite_true, ite_false, Bool.and_eq_true, decide_true, decide_false, decide_eq_true_eq, ne_eq, Nat.reduceEqDiff, Nat.one_ne_zero, Bool.false_eq_true, reduceCtorEq]; decide)
      exact kz_wretv hx hb hr hlocks (by rw [htc]; exact hP) (by rw [htc]; exact hD) hS (Nat.le_of_ble_eq_true rfl) (Nat.le_of_ble_eq_true rfl) (trivial)  dX1_own_59
    · -- 16 -> 19
      refine lv_aload_n hx hb dX1_own_19 rfl (lv_at hl 0 rfl) ?_
      refine lv_iconst (v := 1) hx hb dX1_own_20 (by decide) ?_
      refine va_put (D := D) (ci := 1) (v := .int 1) (ty := .int) (C := RX1) (T := TX1) (N := 8) hx hb hw9 uX1 tyX1 tyX1_ok nmX1 hown hK hP hD hS 0 rfl rfl 0 (by decide) (hw9 _ mw_360) (fun _ h9 => h9) rfl (by decide +kernel) rfl rfl (Nat.le_of_ble_eq_true rfl) dX1_own_21 (fun H locs hP hD hS => ?_)
      have hP : va_P D vwCl (wM bd cI 1 it o n g v r (sm_al nx mt fl pr ofs ak hd an) ++ rs) H := hP
      have hD : va_D A (wM bd cI 1 it o n g v r (sm_al nx mt fl pr ofs ak hd an) ++ rs) := hD
      have htc : tc_own p0 p1 = 1 := by first | (simp [tc_own, (sq_z_t c_1), (sq_z_f c_2)]; done) | (simp only [tc_own, (sq_z_t c_1), (sq_z_f c_2), eq_self, not_true_eq_false, not_false_eq_true, and_self, and_true, true_and, and_false, false_and, or_true, true_or, or_false, false_or, if_true, if_false, ite_true, ite_false, Bool.and_eq_true, decide_true, decide_false, decide_eq_true_eq, ne_eq, Nat.reduceEqDiff, Nat.one_ne_zero, Bool.false_eq_true, reduceCtorEq]; done) | (simp only [tc_own, (sq_z_t c_1), (sq_z_f c_2), eq_self, not_true_eq_false, not_false_eq_true, and_self, and_true, true_and, and_false, false_and, or_true, true_or, or_false, false_or, if_true, if_false, ite_true, ite_false, Bool.and_eq_true, decide_true, decide_false, decide_eq_true_eq, ne_eq, Nat.reduceEqDiff, Nat.one_ne_zero, Bool.false_eq_true, reduceCtorEq]; decide)
      exact kz_wretv hx hb hr hlocks (by rw [htc]; exact hP) (by rw [htc]; exact hD) hS (Nat.le_of_ble_eq_true rfl) (Nat.le_of_ble_eq_true rfl) (trivial)  dX1_own_24
set_option maxHeartbeats 4000000 in
set_option maxRecDepth 100000 in
theorem c_X1_answered (l : Launch) (hl9 : l.stackTraces = false) (D : va_G) (cI : ClassId) (ty : kz_Y) (bd : Nat → Nat) (rs : va_W) (sz : Nat) (th it o n g v r : Int32) (nx mt fl pr ofs ak hd an : Nat → Int32) (p0 : Int32) (p1 : Int32) (p2 : Int32) (hsv : sq_V p0 = true) : ez_M l yX1_answered wsX1_answered ({ frames := 1, cells := 1, slots := 6, locals := 23 } : Room) (kz_P D ((cI, .int) :: ty) (wM bd cI th it o n g v r (sm_al nx mt fl pr ofs ak hd an) ++ rs) sz [.ref (bd 0), .int p0, .int p1, .int p2]) (kz_Wr D (va_A (wM bd cI th it o n g v r (sm_al nx mt fl pr ofs ak hd an) ++ rs) sz) (kz_v (True)) (wM bd cI th it o n g v r (sm_al nx mt fl pr ofs (upd ak p0.toNatClampNeg (sq_max (ak p0.toNatClampNeg) p1)) (upd hd p0.toNatClampNeg p2) (upd an p0.toNatClampNeg 1)) ++ rs)) (kz_T (fun _ => IAE) (fun _ => False)) 0 0 (va_A (wM bd cI th it o n g v r (sm_al nx mt fl pr ofs ak hd an) ++ rs) sz) := by
  refine ez_ofW (cc := cX1_answered) (maxL := 4) (ret := none) (by decide) rfl ?_
  intro p e s m args below meth c s₁ B hml hTab hv
  obtain ⟨rfl, hsz, hP, hK, hD0, hE⟩ := hv
  have hx := B.exec
  have hb := B.bytes
  have hr := B.returns
  have hw9 : ∀ w ∈ kz_W9, w.before ([.ref (bd 0), .int p0, .int p1, .int p2] : List Value).toArray s = true := fun w h => atoms_spec (ws := wsX1_answered) B.pre w (List.mem_cons_of_mem _ h)
  have hown : s.vm.findClass RX1 = some m.cls := findClass_of_methodNamed B.named
  have hlocks := B.notSynchronized
  subst hsz
  have hD := hD0.self (sz := s.heap.size)
  generalize hAe : va_A (wM bd cI th it o n g v r (sm_al nx mt fl pr ofs ak hd an) ++ rs) s.heap.size = A at hD hE ⊢
  have hA : ∀ q : Nat, s.heap.size ≤ q → A q := fun q h => by rw [← hAe]; exact Or.inr h
  have hS : va_S A s.heap s.heap [] := va_S.rf
  have hO : kz_O s.heap s.heap := kz_O.rf _
  have hl := lv_entry ([.ref (bd 0), .int p0, .int p1, .int p2]) (n := 4) (Nat.le_of_ble_eq_true rfl)
  rw [lg_entry_eq]
  generalize (lg_sl ([.ref (bd 0), .int p0, .int p1, .int p2]) ++ List.replicate (4 - (lg_sl ([.ref (bd 0), .int p0, .int p1, .int p2])).length) Slot.unset).toArray = ls at hl ⊢
  have hl : lv_has ls 4 [(0, .ref (bd 0)), (1, .int p0), (2, .int p1), (3, .int p2)] := hl
  obtain ⟨hsA, hsE⟩ := sm_srv hsv
  refine lv_aload_n hx hb dX1_answered_0 rfl (lv_at hl 0 rfl) ?_
  refine lv_iload_n hx hb dX1_answered_1 rfl (lv_at hl 1 rfl) ?_
  refine lv_bipush (v := 6) hx hb dX1_answered_2 (by decide) ?_
  refine lv_iload_n hx hb dX1_answered_4 rfl (lv_at hl 3 rfl) ?_
  refine kz_wV (As := [.int p0, .int 6, .int p2]) (rest := []) ⟨hx, hb, hml, hown, hw9⟩ (c_X1_put l hl9 D cI ty bd rs s.heap.size th it o n g v r (sm_al nx mt fl pr ofs ak hd an) p0.toNatClampNeg 6 p0 6 p2 hsA (by decide) hsE rfl) (kz_cV 3 hw9 mw_442 mw_444 ms_14 mw_2 mw_445 rfl rfl (by decide +kernel) ⟨Nat.le_of_ble_eq_true rfl, Nat.le_of_ble_eq_true rfl⟩) (kz_preV (q0 := 0) (ci := 1) hK hP hD hS hA hE rfl rfl) rfl hl.1 rfl (Nat.le_of_ble_eq_true rfl) dX1_answered_5 ⟨Nat.le_of_ble_eq_true rfl, Nat.le_of_ble_eq_true rfl⟩ hD hS hA (fun _ _ _ _ _ _ h => False.elim h) (fun v9 H locs hv9 hP hD hS => ?_)
  obtain ⟨rfl, -⟩ := hv9
  rw [sm_p6] at hP hD
  have hP : va_P D vwCl (wM bd cI th it o n g v r (sm_al nx mt fl pr ofs ak (upd hd p0.toNatClampNeg p2) an) ++ rs) H := hP
  have hD : va_D A (wM bd cI th it o n g v r (sm_al nx mt fl pr ofs ak (upd hd p0.toNatClampNeg p2) an) ++ rs) := hD
  refine W.eq (g2 := F0 m 8 ls []) rfl ?_
  refine lv_aload_n hx hb dX1_answered_8 rfl (lv_at hl 0 rfl) ?_
  refine lv_iload_n hx hb dX1_answered_9 rfl (lv_at hl 1 rfl) ?_
  refine lv_bipush (v := 7) hx hb dX1_answered_10 (by decide) ?_
  refine lv_iconst (v := 1) hx hb dX1_answered_12 (by decide) ?_
  refine kz_wV (As := [.int p0, .int 7, .int 1]) (rest := []) ⟨hx, hb, hml, hown, hw9⟩ (c_X1_put l hl9 D cI ty bd rs H.size th it o n g v r (sm_al nx mt fl pr ofs ak (upd hd p0.toNatClampNeg p2) an) p0.toNatClampNeg 7 p0 7 1 hsA (by decide) hsE rfl) (kz_cV 3 hw9 mw_442 mw_444 ms_14 mw_2 mw_445 rfl rfl (by decide +kernel) ⟨Nat.le_of_ble_eq_true rfl, Nat.le_of_ble_eq_true rfl⟩) (kz_preV (q0 := 0) (ci := 1) hK hP hD hS hA hE rfl rfl) rfl hl.1 rfl (Nat.le_of_ble_eq_true rfl) dX1_answered_13 ⟨Nat.le_of_ble_eq_true rfl, Nat.le_of_ble_eq_true rfl⟩ hD hS hA (fun _ _ _ _ _ _ h => False.elim h) (fun v9 H locs hv9 hP hD hS => ?_)
  obtain ⟨rfl, -⟩ := hv9
  rw [sm_p7] at hP hD
  have hP : va_P D vwCl (wM bd cI th it o n g v r (sm_al nx mt fl pr ofs ak (upd hd p0.toNatClampNeg p2) (upd an p0.toNatClampNeg 1)) ++ rs) H := hP
  have hD : va_D A (wM bd cI th it o n g v r (sm_al nx mt fl pr ofs ak (upd hd p0.toNatClampNeg p2) (upd an p0.toNatClampNeg 1)) ++ rs) := hD
  refine W.eq (g2 := F0 m 16 ls []) rfl ?_
  refine lv_aload_n hx hb dX1_answered_16 rfl (lv_at hl 0 rfl) ?_
  refine lv_iload_n hx hb dX1_answered_17 rfl (lv_at hl 1 rfl) ?_
  refine lv_iconst (v := 5) hx hb dX1_answered_18 (by decide) ?_
  refine lv_aload_n hx hb dX1_answered_19 rfl (lv_at hl 0 rfl) ?_
  refine lv_iload_n hx hb dX1_answered_20 rfl (lv_at hl 1 rfl) ?_
  refine lv_iconst (v := 5) hx hb dX1_answered_21 (by decide) ?_
  refine kz_rV (As := [.int p0, .int 5]) (rest := [.int 5, .int p0, .ref (bd 0)]) ⟨hx, hb, hml, hown, hw9⟩ (c_X1_get l hl9 D cI ty bd rs H.size th it o n g v r (sm_al nx mt fl pr ofs ak (upd hd p0.toNatClampNeg p2) (upd an p0.toNatClampNeg 1)) p0.toNatClampNeg 5 p0 5 hsA (by decide) hsE rfl) (kz_cV 2 hw9 mw_403 mw_405 ms_11 mw_2 mw_406 rfl rfl (by decide +kernel) ⟨Nat.le_of_ble_eq_true rfl, Nat.le_of_ble_eq_true rfl⟩) (kz_preV (q0 := 0) (ci := 1) hK hP hD hS hA hE rfl rfl) rfl hl.1 rfl (Nat.le_of_ble_eq_true rfl) dX1_answered_22 ⟨Nat.le_of_ble_eq_true rfl, Nat.le_of_ble_eq_true rfl⟩ (fun _ _ _ _ h => False.elim h) (fun v9 H hv9 hO1 => ?_)
  obtain ⟨_, rfl, rfl⟩ := hv9
  have hP := hO1.P hP
  have hS := hO1.S hS
  rw [sm_g5]
  refine W.eq (g2 := F0 m 25 ls [.int (ak p0.toNatClampNeg), .int 5, .int p0, .ref (bd 0)]) rfl ?_
  refine lv_iload_n hx hb dX1_answered_25 rfl (lv_at hl 2 rfl) ?_
  refine kz_rS (As := [.int (ak p0.toNatClampNeg), .int p1]) (rest := [.int 5, .int p0, .ref (bd 0)]) ⟨hx, hb, hml, hown, hw9⟩ (c_X1_greater l hl9 D ((cI, .int) :: ty) (wM bd cI th it o n g v r (sm_al nx mt fl pr ofs ak (upd hd p0.toNatClampNeg p2) (upd an p0.toNatClampNeg 1)) ++ rs) H.size (ak p0.toNatClampNeg) p1) (kz_cS 2 hw9 mw_470 mw_471 mw_2 mw_472 rfl rfl (by decide +kernel) ⟨Nat.le_of_ble_eq_true rfl, Nat.le_of_ble_eq_true rfl⟩) (kz_preS hK hP hD hS hA hE) rfl hl.1 rfl (Nat.le_of_ble_eq_true rfl) dX1_answered_26 ⟨Nat.le_of_ble_eq_true rfl, Nat.le_of_ble_eq_true rfl⟩ (fun _ _ _ _ h => False.elim h) (fun v9 H hv9 hO1 => ?_)
  obtain ⟨_, rfl, rfl⟩ := hv9
  have hP := hO1.P hP
  have hS := hO1.S hS
  refine W.eq (g2 := F0 m 29 ls [.int (sq_max (ak p0.toNatClampNeg) p1), .int 5, .int p0, .ref (bd 0)]) rfl ?_
  refine kz_wV (As := [.int p0, .int 5, .int (sq_max (ak p0.toNatClampNeg) p1)]) (rest := []) ⟨hx, hb, hml, hown, hw9⟩ (c_X1_put l hl9 D cI ty bd rs H.size th it o n g v r (sm_al nx mt fl pr ofs ak (upd hd p0.toNatClampNeg p2) (upd an p0.toNatClampNeg 1)) p0.toNatClampNeg 5 p0 5 (sq_max (ak p0.toNatClampNeg) p1) hsA (by decide) hsE rfl) (kz_cV 3 hw9 mw_442 mw_444 ms_14 mw_2 mw_445 rfl rfl (by decide +kernel) ⟨Nat.le_of_ble_eq_true rfl, Nat.le_of_ble_eq_true rfl⟩) (kz_preV (q0 := 0) (ci := 1) hK hP hD hS hA hE rfl rfl) rfl hl.1 rfl (Nat.le_of_ble_eq_true rfl) dX1_answered_29 ⟨Nat.le_of_ble_eq_true rfl, Nat.le_of_ble_eq_true rfl⟩ hD hS hA (fun _ _ _ _ _ _ h => False.elim h) (fun v9 H locs hv9 hP hD hS => ?_)
  obtain ⟨rfl, -⟩ := hv9
  rw [sm_p5] at hP hD
  have hP : va_P D vwCl (wM bd cI th it o n g v r (sm_al nx mt fl pr ofs (upd ak p0.toNatClampNeg (sq_max (ak p0.toNatClampNeg) p1)) (upd hd p0.toNatClampNeg p2) (upd an p0.toNatClampNeg 1)) ++ rs) H := hP
  have hD : va_D A (wM bd cI th it o n g v r (sm_al nx mt fl pr ofs (upd ak p0.toNatClampNeg (sq_max (ak p0.toNatClampNeg) p1)) (upd hd p0.toNatClampNeg p2) (upd an p0.toNatClampNeg 1)) ++ rs) := hD
  refine W.eq (g2 := F0 m 32 ls []) rfl ?_
  exact kz_wretv hx hb hr hlocks hP hD hS (Nat.le_of_ble_eq_true rfl) (Nat.le_of_ble_eq_true rfl) (trivial)  dX1_answered_32
set_option maxHeartbeats 4000000 in
set_option maxRecDepth 100000 in
theorem c_X1_bad (l : Launch) (hl9 : l.stackTraces = false) (D : va_G) (cI : ClassId) (ty : kz_Y) (bd : Nat → Nat) (rs : va_W) (sz : Nat) (th it o n g v r : Int32) (al : Nat → Int32) (p0 : Int32) (p1 : Int32) (p2 : Int32) (p3 : Int32) (p4 : Int32) (hth : th = 0) : ez_M l yX1_bad wsX1_bad ({ frames := 1, cells := 1, slots := 6, locals := 21 } : Room) (kz_P D ((cI, .int) :: ty) (wM bd cI th it o n g v r al ++ rs) sz [.ref (bd 0), .int p0, .int p1, .int p2, .int p3, .int p4]) (kz_Wr D (va_A (wM bd cI th it o n g v r al ++ rs) sz) (kz_i (fun r9 => r9 = (sq_z (decide (¬ tc_bad p0 p1 p2 p3 p4 = 0))))) (wM bd cI (nI (tc_bad p0 p1 p2 p3 p4)) it o n g v r al ++ rs)) (kz_T (fun _ => IAE) (fun _ => False)) 0 0 (va_A (wM bd cI th it o n g v r al ++ rs) sz) := by
  refine ez_ofW (cc := cX1_bad) (maxL := 6) (ret := (some .boolean)) (by decide) rfl ?_
  intro p e s m args below meth c s₁ B hml hTab hv
  obtain ⟨rfl, hsz, hP, hK, hD0, hE⟩ := hv
  have hx := B.exec
  have hb := B.bytes
  have hr := B.returns
  have hw9 : ∀ w ∈ kz_W9, w.before ([.ref (bd 0), .int p0, .int p1, .int p2, .int p3, .int p4] : List Value).toArray s = true := fun w h => atoms_spec (ws := wsX1_bad) B.pre w (List.mem_cons_of_mem _ h)
  have hown : s.vm.findClass RX1 = some m.cls := findClass_of_methodNamed B.named
  have hlocks := B.notSynchronized
  subst hsz
  have hD := hD0.self (sz := s.heap.size)
  generalize hAe : va_A (wM bd cI th it o n g v r al ++ rs) s.heap.size = A at hD hE ⊢
  have hA : ∀ q : Nat, s.heap.size ≤ q → A q := fun q h => by rw [← hAe]; exact Or.inr h
  have hS : va_S A s.heap s.heap [] := va_S.rf
  have hO : kz_O s.heap s.heap := kz_O.rf _
  have hl := lv_entry ([.ref (bd 0), .int p0, .int p1, .int p2, .int p3, .int p4]) (n := 6) (Nat.le_of_ble_eq_true rfl)
  rw [lg_entry_eq]
  generalize (lg_sl ([.ref (bd 0), .int p0, .int p1, .int p2, .int p3, .int p4]) ++ List.replicate (6 - (lg_sl ([.ref (bd 0), .int p0, .int p1, .int p2, .int p3, .int p4])).length) Slot.unset).toArray = ls at hl ⊢
  have hl : lv_has ls 6 [(0, .ref (bd 0)), (1, .int p0), (2, .int p1), (3, .int p2), (4, .int p3), (5, .int p4)] := hl
  refine lv_bipush (v := 127) hx hb dX1_bad_0 (by decide) ?_
  refine lv_iload_n hx hb dX1_bad_2 rfl (lv_at hl 1 rfl) ?_
  refine kz_rS (As := [.int 127, .int p0]) (rest := []) ⟨hx, hb, hml, hown, hw9⟩ (c_X1_has l hl9 D ((cI, .int) :: ty) (wM bd cI th it o n g v r al ++ rs) s.heap.size 127 p0) (kz_cS 2 hw9 mw_400 mw_401 mw_2 mw_402 rfl rfl (by decide +kernel) ⟨Nat.le_of_ble_eq_true rfl, Nat.le_of_ble_eq_true rfl⟩) (kz_preS hK hP hD hS hA hE) rfl hl.1 rfl (Nat.le_of_ble_eq_true rfl) dX1_bad_3 ⟨Nat.le_of_ble_eq_true rfl, Nat.le_of_ble_eq_true rfl⟩ (fun _ _ _ _ h => False.elim h) (fun v9 H hv9 hO1 => ?_)
  obtain ⟨_, rfl, rfl⟩ := hv9
  have hP := hO1.P hP
  have hS := hO1.S hS
  have hO := hO.tr hO1
  refine W.eq (g2 := F0 m 6 ls [.int (sq_z (sm_h 127 p0))]) rfl ?_
  refine lv_if_ne (tgt := 17) hx hb dX1_bad_6 (by decide) (fun c_1 => ?_) (fun c_1 => ?_)
  · -- 6 -> 17
    refine lv_iload_n hx hb dX1_bad_17 rfl (lv_at hl 2 rfl) ?_
    refine kz_rS (As := [.int p1]) (rest := []) ⟨hx, hb, hml, hown, hw9⟩ (c_X1_number l hl9 D ((cI, .int) :: ty) (wM bd cI th it o n g v r al ++ rs) H.size p1) (kz_cS 1 hw9 mw_438 mw_439 mw_2 mw_440 rfl rfl (by decide +kernel) ⟨Nat.le_of_ble_eq_true rfl, Nat.le_of_ble_eq_true rfl⟩) (kz_preS hK hP hD hS hA hE) rfl hl.1 rfl (Nat.le_of_ble_eq_true rfl) dX1_bad_18 ⟨Nat.le_of_ble_eq_true rfl, Nat.le_of_ble_eq_true rfl⟩ (fun _ _ _ _ h => False.elim h) (fun v9 H hv9 hO1 => ?_)
    obtain ⟨_, rfl, rfl⟩ := hv9
    have hP := hO1.P hP
    have hS := hO1.S hS
    have hO := hO.tr hO1
    refine W.eq (g2 := F0 m 21 ls [.int (sq_z (sq_N p1))]) rfl ?_
    refine lv_if_eq (tgt := 47) hx hb dX1_bad_21 (by decide) (fun c_2 => ?_) (fun c_2 => ?_)
    · -- 21 -> 47
      refine lv_aload_n hx hb dX1_bad_47 rfl (lv_at hl 0 rfl) ?_
      refine lv_iconst (v := 2) hx hb dX1_bad_48 (by decide) ?_
      refine va_put (D := D) (ci := 1) (v := .int 2) (ty := .int) (C := RX1) (T := TX1) (N := 8) hx hb hw9 uX1 tyX1 tyX1_ok nmX1 hown hK hP hD hS 0 rfl rfl 0 (by decide) (hw9 _ mw_360) (fun _ h9 => h9) rfl (by decide +kernel) rfl rfl (Nat.le_of_ble_eq_true rfl) dX1_bad_49 (fun H locs hP hD hS => ?_)
      have hP : va_P D vwCl (wM bd cI 2 it o n g v r al ++ rs) H := hP
      have hD : va_D A (wM bd cI 2 it o n g v r al ++ rs) := hD
      refine lv_aload_n hx hb dX1_bad_52 rfl (lv_at hl 0 rfl) ?_
      refine va_get (D := D) (ci := 1) (v := .int 2) (C := RX1) (T := TX1) (N := 8) hx hb hw9 uX1 hown hK hP 0 rfl rfl 0 (by decide) (hw9 _ mw_360) (fun _ h9 => h9) rfl dX1_bad_53 ?_
      refine lv_if_le (tgt := 63) hx hb dX1_bad_56 (by decide) (fun c_3 => ?_) (fun c_3 => ?_)
      · -- 56 -> 63
        exact absurd c_3 (by decide)
      · -- 56 -> 59
        refine lv_iconst (v := 1) hx hb dX1_bad_59 (by decide) ?_
        refine lv_goto (tgt := 64) hx hb dX1_bad_60 (by decide) ?_
        have htc : tc_bad p0 p1 p2 p3 p4 = 2 := by first | (simp [tc_bad, (sq_z_t c_1), (sq_z_f c_2), c_3, (Int32.not_le.mp c_3), ((sm_h127 p0).symm.trans (sq_z_t c_1))]; done) | (simp only [tc_bad, (sq_z_t c_1), (sq_z_f c_2), c_3, (Int32.not_le.mp c_3), ((sm_h127 p0).symm.trans (sq_z_t c_1)), eq_self, not_true_eq_false, not_false_eq_true, and_self, and_true, true_and, and_false, false_and, or_true, true_or, or_false, false_or, if_true, if_false, ite_true, ite_false, Bool.and_eq_true, decide_true, decide_false, decide_eq_true_eq, ne_eq, Nat.reduceEqDiff, Nat.one_ne_zero, Bool.false_eq_true, reduceCtorEq]; done) | (simp only [tc_bad, (sq_z_t c_1), (sq_z_f c_2), c_3, (Int32.not_le.mp c_3), ((sm_h127 p0).symm.trans (sq_z_t c_1)), eq_self, not_true_eq_false, not_false_eq_true, and_self, and_true, true_and, and_false, false_and, or_true, true_or, or_false, false_or, if_true, if_false, ite_true, ite_false, Bool.and_eq_true, decide_true, decide_false, decide_eq_true_eq, ne_eq, Nat.reduceEqDiff, Nat.one_ne_zero, Bool.false_eq_true, reduceCtorEq]; decide)
        exact kz_wretz hx hb hr hlocks (by rw [htc]; exact hP) (by rw [htc]; exact hD) hS (Nat.le_of_ble_eq_true rfl) (Nat.le_of_ble_eq_true rfl) (by rw [htc]; first | rfl | exact absurd c_3 (by decide) | exact absurd c_3 (by rw [hth]; decide) | (rw [hth] at c_3; exact absurd c_3 (by decide))) rfl dX1_bad_64
    · -- 21 -> 24
      refine lv_iload_n hx hb dX1_bad_24 rfl (lv_at hl 3 rfl) ?_
      refine kz_rS (As := [.int p2]) (rest := []) ⟨hx, hb, hml, hown, hw9⟩ (c_X1_number l hl9 D ((cI, .int) :: ty) (wM bd cI th it o n g v r al ++ rs) H.size p2) (kz_cS 1 hw9 mw_438 mw_439 mw_2 mw_440 rfl rfl (by decide +kernel) ⟨Nat.le_of_ble_eq_true rfl, Nat.le_of_ble_eq_true rfl⟩) (kz_preS hK hP hD hS hA hE) rfl hl.1 rfl (Nat.le_of_ble_eq_true rfl) dX1_bad_25 ⟨Nat.le_of_ble_eq_true rfl, Nat.le_of_ble_eq_true rfl⟩ (fun _ _ _ _ h => False.elim h) (fun v9 H hv9 hO1 => ?_)
      obtain ⟨_, rfl, rfl⟩ := hv9
      have hP := hO1.P hP
      have hS := hO1.S hS
      have hO := hO.tr hO1
      refine W.eq (g2 := F0 m 28 ls [.int (sq_z (sq_N p2))]) rfl ?_
      refine lv_if_eq (tgt := 47) hx hb dX1_bad_28 (by decide) (fun c_4 => ?_) (fun c_4 => ?_)
      · -- 28 -> 47
        refine lv_aload_n hx hb dX1_bad_47 rfl (lv_at hl 0 rfl) ?_
        refine lv_iconst (v := 2) hx hb dX1_bad_48 (by decide) ?_
        refine va_put (D := D) (ci := 1) (v := .int 2) (ty := .int) (C := RX1) (T := TX1) (N := 8) hx hb hw9 uX1 tyX1 tyX1_ok nmX1 hown hK hP hD hS 0 rfl rfl 0 (by decide) (hw9 _ mw_360) (fun _ h9 => h9) rfl (by decide +kernel) rfl rfl (Nat.le_of_ble_eq_true rfl) dX1_bad_49 (fun H locs hP hD hS => ?_)
        have hP : va_P D vwCl (wM bd cI 2 it o n g v r al ++ rs) H := hP
        have hD : va_D A (wM bd cI 2 it o n g v r al ++ rs) := hD
        refine lv_aload_n hx hb dX1_bad_52 rfl (lv_at hl 0 rfl) ?_
        refine va_get (D := D) (ci := 1) (v := .int 2) (C := RX1) (T := TX1) (N := 8) hx hb hw9 uX1 hown hK hP 0 rfl rfl 0 (by decide) (hw9 _ mw_360) (fun _ h9 => h9) rfl dX1_bad_53 ?_
        refine lv_if_le (tgt := 63) hx hb dX1_bad_56 (by decide) (fun c_5 => ?_) (fun c_5 => ?_)
        · -- 56 -> 63
          exact absurd c_5 (by decide)
        · -- 56 -> 59
          refine lv_iconst (v := 1) hx hb dX1_bad_59 (by decide) ?_
          refine lv_goto (tgt := 64) hx hb dX1_bad_60 (by decide) ?_
          have htc : tc_bad p0 p1 p2 p3 p4 = 2 := by first | (simp [tc_bad, (sq_z_t c_1), (sq_z_t c_2), (sq_z_f c_4), c_5, (Int32.not_le.mp c_5), ((sm_h127 p0).symm.trans (sq_z_t c_1))]; done) | (simp only [tc_bad, (sq_z_t c_1), (sq_z_t c_2), (sq_z_f c_4), c_5, (Int32.not_le.mp c_5), ((sm_h127 p0).symm.trans (sq_z_t c_1)), eq_self, not_true_eq_false, not_false_eq_true, and_self, and_true, true_and, and_false, false_and, or_true, true_or, or_false, false_or, if_true, if_false, ite_true, ite_false, Bool.and_eq_true, decide_true, decide_false, decide_eq_true_eq, ne_eq, Nat.reduceEqDiff, Nat.one_ne_zero, Bool.false_eq_true, reduceCtorEq]; done) | (simp only [tc_bad, (sq_z_t c_1), (sq_z_t c_2), (sq_z_f c_4), c_5, (Int32.not_le.mp c_5), ((sm_h127 p0).symm.trans (sq_z_t c_1)), eq_self, not_true_eq_false, not_false_eq_true, and_self, and_true, true_and, and_false, false_and, or_true, true_or, or_false, false_or, if_true, if_false, ite_true, ite_false, Bool.and_eq_true, decide_true, decide_false, decide_eq_true_eq, ne_eq, Nat.reduceEqDiff, Nat.one_ne_zero, Bool.false_eq_true, reduceCtorEq]; decide)
          exact kz_wretz hx hb hr hlocks (by rw [htc]; exact hP) (by rw [htc]; exact hD) hS (Nat.le_of_ble_eq_true rfl) (Nat.le_of_ble_eq_true rfl) (by rw [htc]; first | rfl | exact absurd c_5 (by decide) | exact absurd c_5 (by rw [hth]; decide) | (rw [hth] at c_5; exact absurd c_5 (by decide))) rfl dX1_bad_64
      · -- 28 -> 31
        refine lv_iload hx hb dX1_bad_31 (lv_at hl 4 rfl) ?_
        refine kz_rS (As := [.int p3]) (rest := []) ⟨hx, hb, hml, hown, hw9⟩ (c_X1_number l hl9 D ((cI, .int) :: ty) (wM bd cI th it o n g v r al ++ rs) H.size p3) (kz_cS 1 hw9 mw_438 mw_439 mw_2 mw_440 rfl rfl (by decide +kernel) ⟨Nat.le_of_ble_eq_true rfl, Nat.le_of_ble_eq_true rfl⟩) (kz_preS hK hP hD hS hA hE) rfl hl.1 rfl (Nat.le_of_ble_eq_true rfl) dX1_bad_33 ⟨Nat.le_of_ble_eq_true rfl, Nat.le_of_ble_eq_true rfl⟩ (fun _ _ _ _ h => False.elim h) (fun v9 H hv9 hO1 => ?_)
        obtain ⟨_, rfl, rfl⟩ := hv9
        have hP := hO1.P hP
        have hS := hO1.S hS
        have hO := hO.tr hO1
        refine W.eq (g2 := F0 m 36 ls [.int (sq_z (sq_N p3))]) rfl ?_
        refine lv_if_eq (tgt := 47) hx hb dX1_bad_36 (by decide) (fun c_6 => ?_) (fun c_6 => ?_)
        · -- 36 -> 47
          refine lv_aload_n hx hb dX1_bad_47 rfl (lv_at hl 0 rfl) ?_
          refine lv_iconst (v := 2) hx hb dX1_bad_48 (by decide) ?_
          refine va_put (D := D) (ci := 1) (v := .int 2) (ty := .int) (C := RX1) (T := TX1) (N := 8) hx hb hw9 uX1 tyX1 tyX1_ok nmX1 hown hK hP hD hS 0 rfl rfl 0 (by decide) (hw9 _ mw_360) (fun _ h9 => h9) rfl (by decide +kernel) rfl rfl (Nat.le_of_ble_eq_true rfl) dX1_bad_49 (fun H locs hP hD hS => ?_)
          have hP : va_P D vwCl (wM bd cI 2 it o n g v r al ++ rs) H := hP
          have hD : va_D A (wM bd cI 2 it o n g v r al ++ rs) := hD
          refine lv_aload_n hx hb dX1_bad_52 rfl (lv_at hl 0 rfl) ?_
          refine va_get (D := D) (ci := 1) (v := .int 2) (C := RX1) (T := TX1) (N := 8) hx hb hw9 uX1 hown hK hP 0 rfl rfl 0 (by decide) (hw9 _ mw_360) (fun _ h9 => h9) rfl dX1_bad_53 ?_
          refine lv_if_le (tgt := 63) hx hb dX1_bad_56 (by decide) (fun c_7 => ?_) (fun c_7 => ?_)
          · -- 56 -> 63
            exact absurd c_7 (by decide)
          · -- 56 -> 59
            refine lv_iconst (v := 1) hx hb dX1_bad_59 (by decide) ?_
            refine lv_goto (tgt := 64) hx hb dX1_bad_60 (by decide) ?_
            have htc : tc_bad p0 p1 p2 p3 p4 = 2 := by first | (simp [tc_bad, (sq_z_t c_1), (sq_z_t c_2), (sq_z_t c_4), (sq_z_f c_6), c_7, (Int32.not_le.mp c_7), ((sm_h127 p0).symm.trans (sq_z_t c_1))]; done) | (simp only [tc_bad, (sq_z_t c_1), (sq_z_t c_2), (sq_z_t c_4), (sq_z_f c_6), c_7, (Int32.not_le.mp c_7), ((sm_h127 p0).symm.trans (sq_z_t c_1)), eq_self, not_true_eq_false, not_false_eq_true, and_self, and_true, true_and, and_false, false_and, or_true, true_or, or_false, false_or, if_true, if_false, ite_true, ite_false, Bool.and_eq_true, decide_true, decide_false, decide_eq_true_eq, ne_eq, Nat.reduceEqDiff, Nat.one_ne_zero, Bool.false_eq_true, reduceCtorEq]; done) | (simp only [tc_bad, (sq_z_t c_1), (sq_z_t c_2), (sq_z_t c_4), (sq_z_f c_6), c_7, (Int32.not_le.mp c_7), ((sm_h127 p0).symm.trans (sq_z_t c_1)), eq_self, not_true_eq_false, not_false_eq_true, and_self, and_true, true_and, and_false, false_and, or_true, true_or, or_false, false_or, if_true, if_false, ite_true, ite_false, Bool.and_eq_true, decide_true, decide_false, decide_eq_true_eq, ne_eq, Nat.reduceEqDiff, Nat.one_ne_zero, Bool.false_eq_true, reduceCtorEq]; decide)
            exact kz_wretz hx hb hr hlocks (by rw [htc]; exact hP) (by rw [htc]; exact hD) hS (Nat.le_of_ble_eq_true rfl) (Nat.le_of_ble_eq_true rfl) (by rw [htc]; first | rfl | exact absurd c_7 (by decide) | exact absurd c_7 (by rw [hth]; decide) | (rw [hth] at c_7; exact absurd c_7 (by decide))) rfl dX1_bad_64
        · -- 36 -> 39
          refine lv_iload hx hb dX1_bad_39 (lv_at hl 5 rfl) ?_
          refine kz_rS (As := [.int p4]) (rest := []) ⟨hx, hb, hml, hown, hw9⟩ (c_X1_number l hl9 D ((cI, .int) :: ty) (wM bd cI th it o n g v r al ++ rs) H.size p4) (kz_cS 1 hw9 mw_438 mw_439 mw_2 mw_440 rfl rfl (by decide +kernel) ⟨Nat.le_of_ble_eq_true rfl, Nat.le_of_ble_eq_true rfl⟩) (kz_preS hK hP hD hS hA hE) rfl hl.1 rfl (Nat.le_of_ble_eq_true rfl) dX1_bad_41 ⟨Nat.le_of_ble_eq_true rfl, Nat.le_of_ble_eq_true rfl⟩ (fun _ _ _ _ h => False.elim h) (fun v9 H hv9 hO1 => ?_)
          obtain ⟨_, rfl, rfl⟩ := hv9
          have hP := hO1.P hP
          have hS := hO1.S hS
          have hO := hO.tr hO1
          refine W.eq (g2 := F0 m 44 ls [.int (sq_z (sq_N p4))]) rfl ?_
          refine lv_if_ne (tgt := 52) hx hb dX1_bad_44 (by decide) (fun c_8 => ?_) (fun c_8 => ?_)
          · -- 44 -> 52
            refine lv_aload_n hx hb dX1_bad_52 rfl (lv_at hl 0 rfl) ?_
            refine va_get (D := D) (ci := 1) (v := .int th) (C := RX1) (T := TX1) (N := 8) hx hb hw9 uX1 hown hK hP 0 rfl rfl 0 (by decide) (hw9 _ mw_360) (fun _ h9 => h9) rfl dX1_bad_53 ?_
            refine lv_if_le (tgt := 63) hx hb dX1_bad_56 (by decide) (fun c_9 => ?_) (fun c_9 => ?_)
            · -- 56 -> 63
              refine lv_iconst (v := 0) hx hb dX1_bad_63 (by decide) ?_
              have htc : tc_bad p0 p1 p2 p3 p4 = 0 := by first | (simp [tc_bad, (sq_z_t c_1), (sq_z_t c_2), (sq_z_t c_4), (sq_z_t c_6), (sq_z_t c_8), c_9, (Int32.not_lt.mpr c_9), ((sm_h127 p0).symm.trans (sq_z_t c_1))]; done) | (simp only [tc_bad, (sq_z_t c_1), (sq_z_t c_2), (sq_z_t c_4), (sq_z_t c_6), (sq_z_t c_8), c_9, (Int32.not_lt.mpr c_9), ((sm_h127 p0).symm.trans (sq_z_t c_1)), eq_self, not_true_eq_false, not_false_eq_true, and_self, and_true, true_and, and_false, false_and, or_true, true_or, or_false, false_or, if_true, if_false, ite_true, ite_false, Bool.and_eq_true, decide_true, decide_false, decide_eq_true_eq, ne_eq, Nat.reduceEqDiff, Nat.one_ne_zero, Bool.false_eq_true, reduceCtorEq]; done) | (simp only [tc_bad, (sq_z_t c_1), (sq_z_t c_2), (sq_z_t c_4), (sq_z_t c_6), (sq_z_t c_8), c_9, (Int32.not_lt.mpr c_9), ((sm_h127 p0).symm.trans (sq_z_t c_1)), eq_self, not_true_eq_false, not_false_eq_true, and_self, and_true, true_and, and_false, false_and, or_true, true_or, or_false, false_or, if_true, if_false, ite_true, ite_false, Bool.and_eq_true, decide_true, decide_false, decide_eq_true_eq, ne_eq, Nat.reduceEqDiff, Nat.one_ne_zero, Bool.false_eq_true, reduceCtorEq]; decide)
              exact kz_wretz hx hb hr hlocks (by rw [htc]; rw [hth] at hP; exact hP) (by rw [htc]; rw [hth] at hD; exact hD) hS (Nat.le_of_ble_eq_true rfl) (Nat.le_of_ble_eq_true rfl) (by rw [htc]; first | rfl | exact absurd c_9 (by decide) | exact absurd c_9 (by rw [hth]; decide) | (rw [hth] at c_9; exact absurd c_9 (by decide))) rfl dX1_bad_64
            · -- 56 -> 59
              refine lv_iconst (v := 1) hx hb dX1_bad_59 (by decide) ?_
              refine lv_goto (tgt := 64) hx hb dX1_bad_60 (by decide) ?_
              have htc : tc_bad p0 p1 p2 p3 p4 = 0 := by first | (simp [tc_bad, (sq_z_t c_1), (sq_z_t c_2), (sq_z_t c_4), (sq_z_t c_6), (sq_z_t c_8), c_9, (Int32.not_le.mp c_9), ((sm_h127 p0).symm.trans (sq_z_t c_1))]; done) | (simp only [tc_bad, (sq_z_t c_1), (sq_z_t c_2), (sq_z_t c_4), (sq_z_t c_6), (sq_z_t c_8), c_9, (Int32.not_le.mp c_9), ((sm_h127 p0).symm.trans (sq_z_t c_1)), eq_self, not_true_eq_false, not_false_eq_true, and_self, and_true, true_and, and_false, false_and, or_true, true_or, or_false, false_or, if_true, if_false, ite_true, ite_false, Bool.and_eq_true, decide_true, decide_false, decide_eq_true_eq, ne_eq, Nat.reduceEqDiff, Nat.one_ne_zero, Bool.false_eq_true, reduceCtorEq]; done) | (simp only [tc_bad, (sq_z_t c_1), (sq_z_t c_2), (sq_z_t c_4), (sq_z_t c_6), (sq_z_t c_8), c_9, (Int32.not_le.mp c_9), ((sm_h127 p0).symm.trans (sq_z_t c_1)), eq_self, not_true_eq_false, not_false_eq_true, and_self, and_true, true_and, and_false, false_and, or_true, true_or, or_false, false_or, if_true, if_false, ite_true, ite_false, Bool.and_eq_true, decide_true, decide_false, decide_eq_true_eq, ne_eq, Nat.reduceEqDiff, Nat.one_ne_zero, Bool.false_eq_true, reduceCtorEq]; decide)
              exact kz_wretz hx hb hr hlocks (by rw [htc]; rw [hth] at hP; exact hP) (by rw [htc]; rw [hth] at hD; exact hD) hS (Nat.le_of_ble_eq_true rfl) (Nat.le_of_ble_eq_true rfl) (by rw [htc]; first | rfl | exact absurd c_9 (by decide) | exact absurd c_9 (by rw [hth]; decide) | (rw [hth] at c_9; exact absurd c_9 (by decide))) rfl dX1_bad_64
          · -- 44 -> 47
            refine lv_aload_n hx hb dX1_bad_47 rfl (lv_at hl 0 rfl) ?_
            refine lv_iconst (v := 2) hx hb dX1_bad_48 (by decide) ?_
            refine va_put (D := D) (ci := 1) (v := .int 2) (ty := .int) (C := RX1) (T := TX1) (N := 8) hx hb hw9 uX1 tyX1 tyX1_ok nmX1 hown hK hP hD hS 0 rfl rfl 0 (by decide) (hw9 _ mw_360) (fun _ h9 => h9) rfl (by decide +kernel) rfl rfl (Nat.le_of_ble_eq_true rfl) dX1_bad_49 (fun H locs hP hD hS => ?_)
            have hP : va_P D vwCl (wM bd cI 2 it o n g v r al ++ rs) H := hP
            have hD : va_D A (wM bd cI 2 it o n g v r al ++ rs) := hD
            refine lv_aload_n hx hb dX1_bad_52 rfl (lv_at hl 0 rfl) ?_
            refine va_get (D := D) (ci := 1) (v := .int 2) (C := RX1) (T := TX1) (N := 8) hx hb hw9 uX1 hown hK hP 0 rfl rfl 0 (by decide) (hw9 _ mw_360) (fun _ h9 => h9) rfl dX1_bad_53 ?_
            refine lv_if_le (tgt := 63) hx hb dX1_bad_56 (by decide) (fun c_10 => ?_) (fun c_10 => ?_)
            · -- 56 -> 63
              exact absurd c_10 (by decide)
            · -- 56 -> 59
              refine lv_iconst (v := 1) hx hb dX1_bad_59 (by decide) ?_
              refine lv_goto (tgt := 64) hx hb dX1_bad_60 (by decide) ?_
              have htc : tc_bad p0 p1 p2 p3 p4 = 2 := by first | (simp [tc_bad, (sq_z_t c_1), (sq_z_t c_2), (sq_z_t c_4), (sq_z_t c_6), (sq_z_f c_8), c_10, (Int32.not_le.mp c_10), ((sm_h127 p0).symm.trans (sq_z_t c_1))]; done) | (simp only [tc_bad, (sq_z_t c_1), (sq_z_t c_2), (sq_z_t c_4), (sq_z_t c_6), (sq_z_f c_8), c_10, (Int32.not_le.mp c_10), ((sm_h127 p0).symm.trans (sq_z_t c_1)), eq_self, not_true_eq_false, not_false_eq_true, and_self, and_true, true_and, and_false, false_and, or_true, true_or, or_false, false_or, if_true, if_false, ite_true, ite_false, Bool.and_eq_true, decide_true, decide_false, decide_eq_true_eq, ne_eq, Nat.reduceEqDiff, Nat.one_ne_zero, Bool.false_eq_true, reduceCtorEq]; done) | (simp only [tc_bad, (sq_z_t c_1), (sq_z_t c_2), (sq_z_t c_4), (sq_z_t c_6), (sq_z_f c_8), c_10, (Int32.not_le.mp c_10), ((sm_h127 p0).symm.trans (sq_z_t c_1)), eq_self, not_true_eq_false, not_false_eq_true, and_self, and_true, true_and, and_false, false_and, or_true, true_or, or_false, false_or, if_true, if_false, ite_true, ite_false, Bool.and_eq_true, decide_true, decide_false, decide_eq_true_eq, ne_eq, Nat.reduceEqDiff, Nat.one_ne_zero, Bool.false_eq_true, reduceCtorEq]; decide)
              exact kz_wretz hx hb hr hlocks (by rw [htc]; exact hP) (by rw [htc]; exact hD) hS (Nat.le_of_ble_eq_true rfl) (Nat.le_of_ble_eq_true rfl) (by rw [htc]; first | rfl | exact absurd c_10 (by decide) | exact absurd c_10 (by rw [hth]; decide) | (rw [hth] at c_10; exact absurd c_10 (by decide))) rfl dX1_bad_64
  · -- 6 -> 9
    refine lv_aload_n hx hb dX1_bad_9 rfl (lv_at hl 0 rfl) ?_
    refine lv_iconst (v := 1) hx hb dX1_bad_10 (by decide) ?_
    refine va_put (D := D) (ci := 1) (v := .int 1) (ty := .int) (C := RX1) (T := TX1) (N := 8) hx hb hw9 uX1 tyX1 tyX1_ok nmX1 hown hK hP hD hS 0 rfl rfl 0 (by decide) (hw9 _ mw_360) (fun _ h9 => h9) rfl (by decide +kernel) rfl rfl (Nat.le_of_ble_eq_true rfl) dX1_bad_11 (fun H locs hP hD hS => ?_)
    have hP : va_P D vwCl (wM bd cI 1 it o n g v r al ++ rs) H := hP
    have hD : va_D A (wM bd cI 1 it o n g v r al ++ rs) := hD
    refine lv_goto (tgt := 52) hx hb dX1_bad_14 (by decide) ?_
    refine lv_aload_n hx hb dX1_bad_52 rfl (lv_at hl 0 rfl) ?_
    refine va_get (D := D) (ci := 1) (v := .int 1) (C := RX1) (T := TX1) (N := 8) hx hb hw9 uX1 hown hK hP 0 rfl rfl 0 (by decide) (hw9 _ mw_360) (fun _ h9 => h9) rfl dX1_bad_53 ?_
    refine lv_if_le (tgt := 63) hx hb dX1_bad_56 (by decide) (fun c_11 => ?_) (fun c_11 => ?_)
    · -- 56 -> 63
      exact absurd c_11 (by decide)
    · -- 56 -> 59
      refine lv_iconst (v := 1) hx hb dX1_bad_59 (by decide) ?_
      refine lv_goto (tgt := 64) hx hb dX1_bad_60 (by decide) ?_
      have htc : tc_bad p0 p1 p2 p3 p4 = 1 := by first | (simp [tc_bad, (sq_z_f c_1), c_11, (Int32.not_le.mp c_11), ((sm_h127 p0).symm.trans (sq_z_f c_1))]; done) | (simp only [tc_bad, (sq_z_f c_1), c_11, (Int32.not_le.mp c_11), ((sm_h127 p0).symm.trans (sq_z_f c_1)), eq_self, not_true_eq_false, not_false_eq_true, and_self, and_true, true_and, and_false, false_and, or_true, true_or, or_false, false_or, if_true, if_false, ite_true, ite_false, Bool.and_eq_true, decide_true, decide_false, decide_eq_true_eq, ne_eq, Nat.reduceEqDiff, Nat.one_ne_zero, Bool.false_eq_true, reduceCtorEq]; done) | (simp only [tc_bad, (sq_z_f c_1), c_11, (Int32.not_le.mp c_11), ((sm_h127 p0).symm.trans (sq_z_f c_1)), eq_self, not_true_eq_false, not_false_eq_true, and_self, and_true, true_and, and_false, false_and, or_true, true_or, or_false, false_or, if_true, if_false, ite_true, ite_false, Bool.and_eq_true, decide_true, decide_false, decide_eq_true_eq, ne_eq, Nat.reduceEqDiff, Nat.one_ne_zero, Bool.false_eq_true, reduceCtorEq]; decide)
      exact kz_wretz hx hb hr hlocks (by rw [htc]; exact hP) (by rw [htc]; exact hD) hS (Nat.le_of_ble_eq_true rfl) (Nat.le_of_ble_eq_true rfl) (by rw [htc]; first | rfl | exact absurd c_11 (by decide) | exact absurd c_11 (by rw [hth]; decide) | (rw [hth] at c_11; exact absurd c_11 (by decide))) rfl dX1_bad_64
set_option maxHeartbeats 4000000 in
set_option maxRecDepth 100000 in
theorem c_X1_matched (l : Launch) (hl9 : l.stackTraces = false) (D : va_G) (cI : ClassId) (ty : kz_Y) (bd : Nat → Nat) (rs : va_W) (sz : Nat) (th it o n g v r : Int32) (nx mt fl pr ofs ak hd an : Nat → Int32) (p0 : Int32) (p1 : Int32) (p2 : Int32) (p3 : Int32) (hfl : ∀ j, j < 7 → 0 ≤ fl j ∧ fl j ≤ 4) : ez_M l yX1_matched wsX1_matched ({ frames := 2, cells := 1, slots := 6, locals := 46 } : Room) (kz_P D ((cI, .int) :: ty) (wM bd cI th it o n g v r (sm_al nx mt fl pr ofs ak hd an) ++ rs) sz [.ref (bd 0), .int p0, .int p1, .int p2, .int p3]) (kz_Wr D (va_A (wM bd cI th it o n g v r (sm_al nx mt fl pr ofs ak hd an) ++ rs) sz) (kz_i (fun r9 => r9 = (if tc_matched p0 p1 p2 p3 = 0 then sq_max (mt p0.toNatClampNeg) p1 else 0))) (wM bd cI (nI (tc_matched p0 p1 p2 p3)) it o n g v r (sm_al (if tc_matched p0 p1 p2 p3 = 0 then upd nx p0.toNatClampNeg (sq_max (nx p0.toNatClampNeg) (p1 + 1)) else nx) (if tc_matched p0 p1 p2 p3 = 0 then upd mt p0.toNatClampNeg (sq_max (mt p0.toNatClampNeg) p1) else mt) (if tc_matched p0 p1 p2 p3 = 0 then upd fl p0.toNatClampNeg (sq_max (fl p0.toNatClampNeg - 1) 0) else fl) (if tc_matched p0 p1 p2 p3 = 0 then upd pr p0.toNatClampNeg 0 else pr) ofs (if tc_matched p0 p1 p2 p3 = 0 then upd ak p0.toNatClampNeg (sq_max (ak p0.toNatClampNeg) p2) else ak) (if tc_matched p0 p1 p2 p3 = 0 then upd hd p0.toNatClampNeg p3 else hd) (if tc_matched p0 p1 p2 p3 = 0 then upd an p0.toNatClampNeg 1 else an)) ++ rs)) (kz_T (fun _ => IAE) (fun _ => False)) 0 0 (va_A (wM bd cI th it o n g v r (sm_al nx mt fl pr ofs ak hd an) ++ rs) sz) := by
  refine ez_ofW (cc := cX1_matched) (maxL := 5) (ret := (some .int)) (by decide) rfl ?_
  intro p e s m args below meth c s₁ B hml hTab hv
  obtain ⟨rfl, hsz, hP, hK, hD0, hE⟩ := hv
  have hx := B.exec
  have hb := B.bytes
  have hr := B.returns
  have hw9 : ∀ w ∈ kz_W9, w.before ([.ref (bd 0), .int p0, .int p1, .int p2, .int p3] : List Value).toArray s = true := fun w h => atoms_spec (ws := wsX1_matched) B.pre w (List.mem_cons_of_mem _ h)
  have hown : s.vm.findClass RX1 = some m.cls := findClass_of_methodNamed B.named
  have hlocks := B.notSynchronized
  subst hsz
  have hD := hD0.self (sz := s.heap.size)
  generalize hAe : va_A (wM bd cI th it o n g v r (sm_al nx mt fl pr ofs ak hd an) ++ rs) s.heap.size = A at hD hE ⊢
  have hA : ∀ q : Nat, s.heap.size ≤ q → A q := fun q h => by rw [← hAe]; exact Or.inr h
  have hS : va_S A s.heap s.heap [] := va_S.rf
  have hO : kz_O s.heap s.heap := kz_O.rf _
  have hl := lv_entry ([.ref (bd 0), .int p0, .int p1, .int p2, .int p3]) (n := 5) (Nat.le_of_ble_eq_true rfl)
  rw [lg_entry_eq]
  generalize (lg_sl ([.ref (bd 0), .int p0, .int p1, .int p2, .int p3]) ++ List.replicate (5 - (lg_sl ([.ref (bd 0), .int p0, .int p1, .int p2, .int p3])).length) Slot.unset).toArray = ls at hl ⊢
  have hl : lv_has ls 5 [(0, .ref (bd 0)), (1, .int p0), (2, .int p1), (3, .int p2), (4, .int p3)] := hl
  refine lv_aload_n hx hb dX1_matched_0 rfl (lv_at hl 0 rfl) ?_
  refine lv_iconst (v := 0) hx hb dX1_matched_1 (by decide) ?_
  refine va_put (D := D) (ci := 1) (v := .int 0) (ty := .int) (C := RX1) (T := TX1) (N := 8) hx hb hw9 uX1 tyX1 tyX1_ok nmX1 hown hK hP hD hS 0 rfl rfl 0 (by decide) (hw9 _ mw_360) (fun _ h9 => h9) rfl (by decide +kernel) rfl rfl (Nat.le_of_ble_eq_true rfl) dX1_matched_2 (fun H locs hP hD hS => ?_)
  have hP : va_P D vwCl (wM bd cI 0 it o n g v r (sm_al nx mt fl pr ofs ak hd an) ++ rs) H := hP
  have hD : va_D A (wM bd cI 0 it o n g v r (sm_al nx mt fl pr ofs ak hd an) ++ rs) := hD
  refine lv_aload_n hx hb dX1_matched_5 rfl (lv_at hl 0 rfl) ?_
  refine lv_iload_n hx hb dX1_matched_6 rfl (lv_at hl 1 rfl) ?_
  refine lv_iload_n hx hb dX1_matched_7 rfl (lv_at hl 2 rfl) ?_
  refine lv_iload_n hx hb dX1_matched_8 rfl (lv_at hl 3 rfl) ?_
  refine lv_iload hx hb dX1_matched_9 (lv_at hl 4 rfl) ?_
  refine lv_iconst (v := 0) hx hb dX1_matched_11 (by decide) ?_
  refine kz_wV (As := [.int p0, .int p1, .int p2, .int p3, .int 0]) (rest := []) ⟨hx, hb, hml, hown, hw9⟩ (c_X1_bad l hl9 D cI ty bd rs H.size 0 it o n g v r (sm_al nx mt fl pr ofs ak hd an) p0 p1 p2 p3 0 rfl) (kz_cV 5 hw9 mw_462 mw_464 ms_16 mw_2 mw_465 rfl rfl (by decide +kernel) ⟨Nat.le_of_ble_eq_true rfl, Nat.le_of_ble_eq_true rfl⟩) (kz_preV (q0 := 0) (ci := 1) hK hP hD hS hA hE rfl rfl) rfl hl.1 rfl (Nat.le_of_ble_eq_true rfl) dX1_matched_12 ⟨Nat.le_of_ble_eq_true rfl, Nat.le_of_ble_eq_true rfl⟩ hD hS hA (fun _ _ _ _ _ _ h => False.elim h) (fun v9 H locs hv9 hP hD hS => ?_)
  obtain ⟨_, rfl, rfl⟩ := hv9
  have hP : va_P D vwCl (wM bd cI (nI (tc_bad p0 p1 p2 p3 0)) it o n g v r (sm_al nx mt fl pr ofs ak hd an) ++ rs) H := hP
  have hD : va_D A (wM bd cI (nI (tc_bad p0 p1 p2 p3 0)) it o n g v r (sm_al nx mt fl pr ofs ak hd an) ++ rs) := hD
  refine W.eq (g2 := F0 m 15 ls [.int (sq_z (decide (¬ tc_bad p0 p1 p2 p3 0 = 0)))]) rfl ?_
  refine lv_if_eq (tgt := 20) hx hb dX1_matched_15 (by decide) (fun c_1 => ?_) (fun c_1 => ?_)
  · -- 15 -> 20
    have hb_2 : tc_bad p0 p1 p2 p3 0 = 0 := Decidable.not_not.mp (of_decide_eq_false (sq_z_f c_1))
    rw [hb_2] at hP hD
    have hP : va_P D vwCl (wM bd cI 0 it o n g v r (sm_al nx mt fl pr ofs ak hd an) ++ rs) H := hP
    have hD : va_D A (wM bd cI 0 it o n g v r (sm_al nx mt fl pr ofs ak hd an) ++ rs) := hD
    have hsv : sq_V p0 = true := sm_badV hb_2
    obtain ⟨hsA, hsE⟩ := sm_srv hsv
    refine lv_aload_n hx hb dX1_matched_20 rfl (lv_at hl 0 rfl) ?_
    refine lv_iload_n hx hb dX1_matched_21 rfl (lv_at hl 1 rfl) ?_
    refine lv_iload_n hx hb dX1_matched_22 rfl (lv_at hl 3 rfl) ?_
    refine lv_iload hx hb dX1_matched_23 (lv_at hl 4 rfl) ?_
    refine kz_wV (As := [.int p0, .int p2, .int p3]) (rest := []) ⟨hx, hb, hml, hown, hw9⟩ (c_X1_answered l hl9 D cI ty bd rs H.size 0 it o n g v r nx mt fl pr ofs ak hd an p0 p2 p3 hsv) (kz_cV 3 hw9 mw_466 mw_468 ms_17 mw_2 mw_469 rfl rfl (by decide +kernel) ⟨Nat.le_of_ble_eq_true rfl, Nat.le_of_ble_eq_true rfl⟩) (kz_preV (q0 := 0) (ci := 1) hK hP hD hS hA hE rfl rfl) rfl hl.1 rfl (Nat.le_of_ble_eq_true rfl) dX1_matched_25 ⟨Nat.le_of_ble_eq_true rfl, Nat.le_of_ble_eq_true rfl⟩ hD hS hA (fun _ _ _ _ _ _ h => False.elim h) (fun v9 H locs hv9 hP hD hS => ?_)
    obtain ⟨rfl, -⟩ := hv9
    have hP : va_P D vwCl (wM bd cI 0 it o n g v r (sm_al nx mt fl pr ofs (upd ak p0.toNatClampNeg (sq_max (ak p0.toNatClampNeg) p2)) (upd hd p0.toNatClampNeg p3) (upd an p0.toNatClampNeg 1)) ++ rs) H := hP
    have hD : va_D A (wM bd cI 0 it o n g v r (sm_al nx mt fl pr ofs (upd ak p0.toNatClampNeg (sq_max (ak p0.toNatClampNeg) p2)) (upd hd p0.toNatClampNeg p3) (upd an p0.toNatClampNeg 1)) ++ rs) := hD
    refine W.eq (g2 := F0 m 28 ls []) rfl ?_
    refine lv_aload_n hx hb dX1_matched_28 rfl (lv_at hl 0 rfl) ?_
    refine lv_iload_n hx hb dX1_matched_29 rfl (lv_at hl 1 rfl) ?_
    refine lv_iconst (v := 1) hx hb dX1_matched_30 (by decide) ?_
    refine lv_aload_n hx hb dX1_matched_31 rfl (lv_at hl 0 rfl) ?_
    refine lv_iload_n hx hb dX1_matched_32 rfl (lv_at hl 1 rfl) ?_
    refine lv_iconst (v := 1) hx hb dX1_matched_33 (by decide) ?_
    refine kz_rV (As := [.int p0, .int 1]) (rest := [.int 1, .int p0, .ref (bd 0)]) ⟨hx, hb, hml, hown, hw9⟩ (c_X1_get l hl9 D cI ty bd rs H.size 0 it o n g v r (sm_al nx mt fl pr ofs (upd ak p0.toNatClampNeg (sq_max (ak p0.toNatClampNeg) p2)) (upd hd p0.toNatClampNeg p3) (upd an p0.toNatClampNeg 1)) p0.toNatClampNeg 1 p0 1 hsA (by decide) hsE rfl) (kz_cV 2 hw9 mw_403 mw_405 ms_11 mw_2 mw_406 rfl rfl (by decide +kernel) ⟨Nat.le_of_ble_eq_true rfl, Nat.le_of_ble_eq_true rfl⟩) (kz_preV (q0 := 0) (ci := 1) hK hP hD hS hA hE rfl rfl) rfl hl.1 rfl (Nat.le_of_ble_eq_true rfl) dX1_matched_34 ⟨Nat.le_of_ble_eq_true rfl, Nat.le_of_ble_eq_true rfl⟩ (fun _ _ _ _ h => False.elim h) (fun v9 H hv9 hO1 => ?_)
    obtain ⟨_, rfl, rfl⟩ := hv9
    have hP := hO1.P hP
    have hS := hO1.S hS
    rw [sm_g1]
    refine W.eq (g2 := F0 m 37 ls [.int (mt p0.toNatClampNeg), .int 1, .int p0, .ref (bd 0)]) rfl ?_
    refine lv_iload_n hx hb dX1_matched_37 rfl (lv_at hl 2 rfl) ?_
    refine kz_rS (As := [.int (mt p0.toNatClampNeg), .int p1]) (rest := [.int 1, .int p0, .ref (bd 0)]) ⟨hx, hb, hml, hown, hw9⟩ (c_X1_greater l hl9 D ((cI, .int) :: ty) (wM bd cI 0 it o n g v r (sm_al nx mt fl pr ofs (upd ak p0.toNatClampNeg (sq_max (ak p0.toNatClampNeg) p2)) (upd hd p0.toNatClampNeg p3) (upd an p0.toNatClampNeg 1)) ++ rs) H.size (mt p0.toNatClampNeg) p1) (kz_cS 2 hw9 mw_470 mw_471 mw_2 mw_472 rfl rfl (by decide +kernel) ⟨Nat.le_of_ble_eq_true rfl, Nat.le_of_ble_eq_true rfl⟩) (kz_preS hK hP hD hS hA hE) rfl hl.1 rfl (Nat.le_of_ble_eq_true rfl) dX1_matched_38 ⟨Nat.le_of_ble_eq_true rfl, Nat.le_of_ble_eq_true rfl⟩ (fun _ _ _ _ h => False.elim h) (fun v9 H hv9 hO1 => ?_)
    obtain ⟨_, rfl, rfl⟩ := hv9
    have hP := hO1.P hP
    have hS := hO1.S hS
    refine W.eq (g2 := F0 m 41 ls [.int (sq_max (mt p0.toNatClampNeg) p1), .int 1, .int p0, .ref (bd 0)]) rfl ?_
    refine kz_wV (As := [.int p0, .int 1, .int (sq_max (mt p0.toNatClampNeg) p1)]) (rest := []) ⟨hx, hb, hml, hown, hw9⟩ (c_X1_put l hl9 D cI ty bd rs H.size 0 it o n g v r (sm_al nx mt fl pr ofs (upd ak p0.toNatClampNeg (sq_max (ak p0.toNatClampNeg) p2)) (upd hd p0.toNatClampNeg p3) (upd an p0.toNatClampNeg 1)) p0.toNatClampNeg 1 p0 1 (sq_max (mt p0.toNatClampNeg) p1) hsA (by decide) hsE rfl) (kz_cV 3 hw9 mw_442 mw_444 ms_14 mw_2 mw_445 rfl rfl (by decide +kernel) ⟨Nat.le_of_ble_eq_true rfl, Nat.le_of_ble_eq_true rfl⟩) (kz_preV (q0 := 0) (ci := 1) hK hP hD hS hA hE rfl rfl) rfl hl.1 rfl (Nat.le_of_ble_eq_true rfl) dX1_matched_41 ⟨Nat.le_of_ble_eq_true rfl, Nat.le_of_ble_eq_true rfl⟩ hD hS hA (fun _ _ _ _ _ _ h => False.elim h) (fun v9 H locs hv9 hP hD hS => ?_)
    obtain ⟨rfl, -⟩ := hv9
    rw [sm_p1] at hP hD
    have hP : va_P D vwCl (wM bd cI 0 it o n g v r (sm_al nx (upd mt p0.toNatClampNeg (sq_max (mt p0.toNatClampNeg) p1)) fl pr ofs (upd ak p0.toNatClampNeg (sq_max (ak p0.toNatClampNeg) p2)) (upd hd p0.toNatClampNeg p3) (upd an p0.toNatClampNeg 1)) ++ rs) H := hP
    have hD : va_D A (wM bd cI 0 it o n g v r (sm_al nx (upd mt p0.toNatClampNeg (sq_max (mt p0.toNatClampNeg) p1)) fl pr ofs (upd ak p0.toNatClampNeg (sq_max (ak p0.toNatClampNeg) p2)) (upd hd p0.toNatClampNeg p3) (upd an p0.toNatClampNeg 1)) ++ rs) := hD
    refine W.eq (g2 := F0 m 44 ls []) rfl ?_
    refine lv_aload_n hx hb dX1_matched_44 rfl (lv_at hl 0 rfl) ?_
    refine lv_iload_n hx hb dX1_matched_45 rfl (lv_at hl 1 rfl) ?_
    refine lv_iconst (v := 3) hx hb dX1_matched_46 (by decide) ?_
    refine lv_iconst (v := 0) hx hb dX1_matched_47 (by decide) ?_
    refine kz_wV (As := [.int p0, .int 3, .int 0]) (rest := []) ⟨hx, hb, hml, hown, hw9⟩ (c_X1_put l hl9 D cI ty bd rs H.size 0 it o n g v r (sm_al nx (upd mt p0.toNatClampNeg (sq_max (mt p0.toNatClampNeg) p1)) fl pr ofs (upd ak p0.toNatClampNeg (sq_max (ak p0.toNatClampNeg) p2)) (upd hd p0.toNatClampNeg p3) (upd an p0.toNatClampNeg 1)) p0.toNatClampNeg 3 p0 3 0 hsA (by decide) hsE rfl) (kz_cV 3 hw9 mw_442 mw_444 ms_14 mw_2 mw_445 rfl rfl (by decide +kernel) ⟨Nat.le_of_ble_eq_true rfl, Nat.le_of_ble_eq_true rfl⟩) (kz_preV (q0 := 0) (ci := 1) hK hP hD hS hA hE rfl rfl) rfl hl.1 rfl (Nat.le_of_ble_eq_true rfl) dX1_matched_48 ⟨Nat.le_of_ble_eq_true rfl, Nat.le_of_ble_eq_true rfl⟩ hD hS hA (fun _ _ _ _ _ _ h => False.elim h) (fun v9 H locs hv9 hP hD hS => ?_)
    obtain ⟨rfl, -⟩ := hv9
    rw [sm_p3] at hP hD
    have hP : va_P D vwCl (wM bd cI 0 it o n g v r (sm_al nx (upd mt p0.toNatClampNeg (sq_max (mt p0.toNatClampNeg) p1)) fl (upd pr p0.toNatClampNeg 0) ofs (upd ak p0.toNatClampNeg (sq_max (ak p0.toNatClampNeg) p2)) (upd hd p0.toNatClampNeg p3) (upd an p0.toNatClampNeg 1)) ++ rs) H := hP
    have hD : va_D A (wM bd cI 0 it o n g v r (sm_al nx (upd mt p0.toNatClampNeg (sq_max (mt p0.toNatClampNeg) p1)) fl (upd pr p0.toNatClampNeg 0) ofs (upd ak p0.toNatClampNeg (sq_max (ak p0.toNatClampNeg) p2)) (upd hd p0.toNatClampNeg p3) (upd an p0.toNatClampNeg 1)) ++ rs) := hD
    refine W.eq (g2 := F0 m 51 ls []) rfl ?_
    refine lv_aload_n hx hb dX1_matched_51 rfl (lv_at hl 0 rfl) ?_
    refine lv_iload_n hx hb dX1_matched_52 rfl (lv_at hl 1 rfl) ?_
    refine lv_iconst (v := 2) hx hb dX1_matched_53 (by decide) ?_
    refine lv_aload_n hx hb dX1_matched_54 rfl (lv_at hl 0 rfl) ?_
    refine lv_iload_n hx hb dX1_matched_55 rfl (lv_at hl 1 rfl) ?_
    refine lv_iconst (v := 2) hx hb dX1_matched_56 (by decide) ?_
    refine kz_rV (As := [.int p0, .int 2]) (rest := [.int 2, .int p0, .ref (bd 0)]) ⟨hx, hb, hml, hown, hw9⟩ (c_X1_get l hl9 D cI ty bd rs H.size 0 it o n g v r (sm_al nx (upd mt p0.toNatClampNeg (sq_max (mt p0.toNatClampNeg) p1)) fl (upd pr p0.toNatClampNeg 0) ofs (upd ak p0.toNatClampNeg (sq_max (ak p0.toNatClampNeg) p2)) (upd hd p0.toNatClampNeg p3) (upd an p0.toNatClampNeg 1)) p0.toNatClampNeg 2 p0 2 hsA (by decide) hsE rfl) (kz_cV 2 hw9 mw_403 mw_405 ms_11 mw_2 mw_406 rfl rfl (by decide +kernel) ⟨Nat.le_of_ble_eq_true rfl, Nat.le_of_ble_eq_true rfl⟩) (kz_preV (q0 := 0) (ci := 1) hK hP hD hS hA hE rfl rfl) rfl hl.1 rfl (Nat.le_of_ble_eq_true rfl) dX1_matched_57 ⟨Nat.le_of_ble_eq_true rfl, Nat.le_of_ble_eq_true rfl⟩ (fun _ _ _ _ h => False.elim h) (fun v9 H hv9 hO1 => ?_)
    obtain ⟨_, rfl, rfl⟩ := hv9
    have hP := hO1.P hP
    have hS := hO1.S hS
    rw [sm_g2]
    refine W.eq (g2 := F0 m 60 ls [.int (fl p0.toNatClampNeg), .int 2, .int p0, .ref (bd 0)]) rfl ?_
    refine lv_if_ne (tgt := 67) hx hb dX1_matched_60 (by decide) (fun c_3 => ?_) (fun c_3 => ?_)
    · -- 60 -> 67
      refine lv_aload_n hx hb dX1_matched_67 rfl (lv_at hl 0 rfl) ?_
      refine lv_iload_n hx hb dX1_matched_68 rfl (lv_at hl 1 rfl) ?_
      refine lv_iconst (v := 2) hx hb dX1_matched_69 (by decide) ?_
      refine kz_rV (As := [.int p0, .int 2]) (rest := [.int 2, .int p0, .ref (bd 0)]) ⟨hx, hb, hml, hown, hw9⟩ (c_X1_get l hl9 D cI ty bd rs H.size 0 it o n g v r (sm_al nx (upd mt p0.toNatClampNeg (sq_max (mt p0.toNatClampNeg) p1)) fl (upd pr p0.toNatClampNeg 0) ofs (upd ak p0.toNatClampNeg (sq_max (ak p0.toNatClampNeg) p2)) (upd hd p0.toNatClampNeg p3) (upd an p0.toNatClampNeg 1)) p0.toNatClampNeg 2 p0 2 hsA (by decide) hsE rfl) (kz_cV 2 hw9 mw_403 mw_405 ms_11 mw_2 mw_406 rfl rfl (by decide +kernel) ⟨Nat.le_of_ble_eq_true rfl, Nat.le_of_ble_eq_true rfl⟩) (kz_preV (q0 := 0) (ci := 1) hK hP hD hS hA hE rfl rfl) rfl hl.1 rfl (Nat.le_of_ble_eq_true rfl) dX1_matched_70 ⟨Nat.le_of_ble_eq_true rfl, Nat.le_of_ble_eq_true rfl⟩ (fun _ _ _ _ h => False.elim h) (fun v9 H hv9 hO1 => ?_)
      obtain ⟨_, rfl, rfl⟩ := hv9
      have hP := hO1.P hP
      have hS := hO1.S hS
      rw [sm_g2]
      refine W.eq (g2 := F0 m 73 ls [.int (fl p0.toNatClampNeg), .int 2, .int p0, .ref (bd 0)]) rfl ?_
      refine lv_iconst (v := 1) hx hb dX1_matched_73 (by decide) ?_
      refine lv_isub hx hb dX1_matched_74 ?_
      refine kz_wV (As := [.int p0, .int 2, .int ((fl p0.toNatClampNeg) - 1)]) (rest := []) ⟨hx, hb, hml, hown, hw9⟩ (c_X1_put l hl9 D cI ty bd rs H.size 0 it o n g v r (sm_al nx (upd mt p0.toNatClampNeg (sq_max (mt p0.toNatClampNeg) p1)) fl (upd pr p0.toNatClampNeg 0) ofs (upd ak p0.toNatClampNeg (sq_max (ak p0.toNatClampNeg) p2)) (upd hd p0.toNatClampNeg p3) (upd an p0.toNatClampNeg 1)) p0.toNatClampNeg 2 p0 2 ((fl p0.toNatClampNeg) - 1) hsA (by decide) hsE rfl) (kz_cV 3 hw9 mw_442 mw_444 ms_14 mw_2 mw_445 rfl rfl (by decide +kernel) ⟨Nat.le_of_ble_eq_true rfl, Nat.le_of_ble_eq_true rfl⟩) (kz_preV (q0 := 0) (ci := 1) hK hP hD hS hA hE rfl rfl) rfl hl.1 rfl (Nat.le_of_ble_eq_true rfl) dX1_matched_75 ⟨Nat.le_of_ble_eq_true rfl, Nat.le_of_ble_eq_true rfl⟩ hD hS hA (fun _ _ _ _ _ _ h => False.elim h) (fun v9 H locs hv9 hP hD hS => ?_)
      obtain ⟨rfl, -⟩ := hv9
      rw [sm_p2] at hP hD
      have hP : va_P D vwCl (wM bd cI 0 it o n g v r (sm_al nx (upd mt p0.toNatClampNeg (sq_max (mt p0.toNatClampNeg) p1)) (upd fl p0.toNatClampNeg ((fl p0.toNatClampNeg) - 1)) (upd pr p0.toNatClampNeg 0) ofs (upd ak p0.toNatClampNeg (sq_max (ak p0.toNatClampNeg) p2)) (upd hd p0.toNatClampNeg p3) (upd an p0.toNatClampNeg 1)) ++ rs) H := hP
      have hD : va_D A (wM bd cI 0 it o n g v r (sm_al nx (upd mt p0.toNatClampNeg (sq_max (mt p0.toNatClampNeg) p1)) (upd fl p0.toNatClampNeg ((fl p0.toNatClampNeg) - 1)) (upd pr p0.toNatClampNeg 0) ofs (upd ak p0.toNatClampNeg (sq_max (ak p0.toNatClampNeg) p2)) (upd hd p0.toNatClampNeg p3) (upd an p0.toNatClampNeg 1)) ++ rs) := hD
      refine W.eq (g2 := F0 m 78 ls []) rfl ?_
      refine lv_aload_n hx hb dX1_matched_78 rfl (lv_at hl 0 rfl) ?_
      refine lv_iload_n hx hb dX1_matched_79 rfl (lv_at hl 1 rfl) ?_
      refine lv_iconst (v := 0) hx hb dX1_matched_80 (by decide) ?_
      refine lv_aload_n hx hb dX1_matched_81 rfl (lv_at hl 0 rfl) ?_
      refine lv_iload_n hx hb dX1_matched_82 rfl (lv_at hl 1 rfl) ?_
      refine lv_iconst (v := 0) hx hb dX1_matched_83 (by decide) ?_
      refine kz_rV (As := [.int p0, .int 0]) (rest := [.int 0, .int p0, .ref (bd 0)]) ⟨hx, hb, hml, hown, hw9⟩ (c_X1_get l hl9 D cI ty bd rs H.size 0 it o n g v r (sm_al nx (upd mt p0.toNatClampNeg (sq_max (mt p0.toNatClampNeg) p1)) (upd fl p0.toNatClampNeg ((fl p0.toNatClampNeg) - 1)) (upd pr p0.toNatClampNeg 0) ofs (upd ak p0.toNatClampNeg (sq_max (ak p0.toNatClampNeg) p2)) (upd hd p0.toNatClampNeg p3) (upd an p0.toNatClampNeg 1)) p0.toNatClampNeg 0 p0 0 hsA (by decide) hsE rfl) (kz_cV 2 hw9 mw_403 mw_405 ms_11 mw_2 mw_406 rfl rfl (by decide +kernel) ⟨Nat.le_of_ble_eq_true rfl, Nat.le_of_ble_eq_true rfl⟩) (kz_preV (q0 := 0) (ci := 1) hK hP hD hS hA hE rfl rfl) rfl hl.1 rfl (Nat.le_of_ble_eq_true rfl) dX1_matched_84 ⟨Nat.le_of_ble_eq_true rfl, Nat.le_of_ble_eq_true rfl⟩ (fun _ _ _ _ h => False.elim h) (fun v9 H hv9 hO1 => ?_)
      obtain ⟨_, rfl, rfl⟩ := hv9
      have hP := hO1.P hP
      have hS := hO1.S hS
      rw [sm_g0]
      refine W.eq (g2 := F0 m 87 ls [.int (nx p0.toNatClampNeg), .int 0, .int p0, .ref (bd 0)]) rfl ?_
      refine lv_iload_n hx hb dX1_matched_87 rfl (lv_at hl 2 rfl) ?_
      refine lv_iconst (v := 1) hx hb dX1_matched_88 (by decide) ?_
      refine lv_iadd hx hb dX1_matched_89 ?_
      refine kz_rS (As := [.int (nx p0.toNatClampNeg), .int (p1 + 1)]) (rest := [.int 0, .int p0, .ref (bd 0)]) ⟨hx, hb, hml, hown, hw9⟩ (c_X1_greater l hl9 D ((cI, .int) :: ty) (wM bd cI 0 it o n g v r (sm_al nx (upd mt p0.toNatClampNeg (sq_max (mt p0.toNatClampNeg) p1)) (upd fl p0.toNatClampNeg ((fl p0.toNatClampNeg) - 1)) (upd pr p0.toNatClampNeg 0) ofs (upd ak p0.toNatClampNeg (sq_max (ak p0.toNatClampNeg) p2)) (upd hd p0.toNatClampNeg p3) (upd an p0.toNatClampNeg 1)) ++ rs) H.size (nx p0.toNatClampNeg) (p1 + 1)) (kz_cS 2 hw9 mw_470 mw_471 mw_2 mw_472 rfl rfl (by decide +kernel) ⟨Nat.le_of_ble_eq_true rfl, Nat.le_of_ble_eq_true rfl⟩) (kz_preS hK hP hD hS hA hE) rfl hl.1 rfl (Nat.le_of_ble_eq_true rfl) dX1_matched_90 ⟨Nat.le_of_ble_eq_true rfl, Nat.le_of_ble_eq_true rfl⟩ (fun _ _ _ _ h => False.elim h) (fun v9 H hv9 hO1 => ?_)
      obtain ⟨_, rfl, rfl⟩ := hv9
      have hP := hO1.P hP
      have hS := hO1.S hS
      refine W.eq (g2 := F0 m 93 ls [.int (sq_max (nx p0.toNatClampNeg) (p1 + 1)), .int 0, .int p0, .ref (bd 0)]) rfl ?_
      refine kz_wV (As := [.int p0, .int 0, .int (sq_max (nx p0.toNatClampNeg) (p1 + 1))]) (rest := []) ⟨hx, hb, hml, hown, hw9⟩ (c_X1_put l hl9 D cI ty bd rs H.size 0 it o n g v r (sm_al nx (upd mt p0.toNatClampNeg (sq_max (mt p0.toNatClampNeg) p1)) (upd fl p0.toNatClampNeg ((fl p0.toNatClampNeg) - 1)) (upd pr p0.toNatClampNeg 0) ofs (upd ak p0.toNatClampNeg (sq_max (ak p0.toNatClampNeg) p2)) (upd hd p0.toNatClampNeg p3) (upd an p0.toNatClampNeg 1)) p0.toNatClampNeg 0 p0 0 (sq_max (nx p0.toNatClampNeg) (p1 + 1)) hsA (by decide) hsE rfl) (kz_cV 3 hw9 mw_442 mw_444 ms_14 mw_2 mw_445 rfl rfl (by decide +kernel) ⟨Nat.le_of_ble_eq_true rfl, Nat.le_of_ble_eq_true rfl⟩) (kz_preV (q0 := 0) (ci := 1) hK hP hD hS hA hE rfl rfl) rfl hl.1 rfl (Nat.le_of_ble_eq_true rfl) dX1_matched_93 ⟨Nat.le_of_ble_eq_true rfl, Nat.le_of_ble_eq_true rfl⟩ hD hS hA (fun _ _ _ _ _ _ h => False.elim h) (fun v9 H locs hv9 hP hD hS => ?_)
      obtain ⟨rfl, -⟩ := hv9
      rw [sm_p0] at hP hD
      have hP : va_P D vwCl (wM bd cI 0 it o n g v r (sm_al (upd nx p0.toNatClampNeg (sq_max (nx p0.toNatClampNeg) (p1 + 1))) (upd mt p0.toNatClampNeg (sq_max (mt p0.toNatClampNeg) p1)) (upd fl p0.toNatClampNeg ((fl p0.toNatClampNeg) - 1)) (upd pr p0.toNatClampNeg 0) ofs (upd ak p0.toNatClampNeg (sq_max (ak p0.toNatClampNeg) p2)) (upd hd p0.toNatClampNeg p3) (upd an p0.toNatClampNeg 1)) ++ rs) H := hP
      have hD : va_D A (wM bd cI 0 it o n g v r (sm_al (upd nx p0.toNatClampNeg (sq_max (nx p0.toNatClampNeg) (p1 + 1))) (upd mt p0.toNatClampNeg (sq_max (mt p0.toNatClampNeg) p1)) (upd fl p0.toNatClampNeg ((fl p0.toNatClampNeg) - 1)) (upd pr p0.toNatClampNeg 0) ofs (upd ak p0.toNatClampNeg (sq_max (ak p0.toNatClampNeg) p2)) (upd hd p0.toNatClampNeg p3) (upd an p0.toNatClampNeg 1)) ++ rs) := hD
      refine W.eq (g2 := F0 m 96 ls []) rfl ?_
      refine lv_aload_n hx hb dX1_matched_96 rfl (lv_at hl 0 rfl) ?_
      refine lv_iload_n hx hb dX1_matched_97 rfl (lv_at hl 1 rfl) ?_
      refine lv_iconst (v := 1) hx hb dX1_matched_98 (by decide) ?_
      refine kz_rV (As := [.int p0, .int 1]) (rest := []) ⟨hx, hb, hml, hown, hw9⟩ (c_X1_get l hl9 D cI ty bd rs H.size 0 it o n g v r (sm_al (upd nx p0.toNatClampNeg (sq_max (nx p0.toNatClampNeg) (p1 + 1))) (upd mt p0.toNatClampNeg (sq_max (mt p0.toNatClampNeg) p1)) (upd fl p0.toNatClampNeg ((fl p0.toNatClampNeg) - 1)) (upd pr p0.toNatClampNeg 0) ofs (upd ak p0.toNatClampNeg (sq_max (ak p0.toNatClampNeg) p2)) (upd hd p0.toNatClampNeg p3) (upd an p0.toNatClampNeg 1)) p0.toNatClampNeg 1 p0 1 hsA (by decide) hsE rfl) (kz_cV 2 hw9 mw_403 mw_405 ms_11 mw_2 mw_406 rfl rfl (by decide +kernel) ⟨Nat.le_of_ble_eq_true rfl, Nat.le_of_ble_eq_true rfl⟩) (kz_preV (q0 := 0) (ci := 1) hK hP hD hS hA hE rfl rfl) rfl hl.1 rfl (Nat.le_of_ble_eq_true rfl) dX1_matched_99 ⟨Nat.le_of_ble_eq_true rfl, Nat.le_of_ble_eq_true rfl⟩ (fun _ _ _ _ h => False.elim h) (fun v9 H hv9 hO1 => ?_)
      obtain ⟨_, rfl, rfl⟩ := hv9
      have hP := hO1.P hP
      have hS := hO1.S hS
      rw [sm_g1]
      refine W.eq (g2 := F0 m 102 ls [.int ((upd mt p0.toNatClampNeg (sq_max (mt p0.toNatClampNeg) p1)) p0.toNatClampNeg)]) rfl ?_
      have htc : tc_matched p0 p1 p2 p3 = 0 := (sm_tcm _ _ _ _).trans hb_2
      have e_fl : (upd fl p0.toNatClampNeg (sq_max (fl p0.toNatClampNeg - 1) 0)) = upd fl p0.toNatClampNeg ((fl p0.toNatClampNeg) - 1) := by rw [sm_fl1 hfl hsA c_3]
      exact kz_wreti hx hb hr hlocks (by simp only [htc, if_true, e_fl]; exact hP) (by simp only [htc, if_true, e_fl]; exact hD) hS (Nat.le_of_ble_eq_true rfl) (Nat.le_of_ble_eq_true rfl) (by rw [htc]; exact (show ((upd mt p0.toNatClampNeg (sq_max (mt p0.toNatClampNeg) p1)) p0.toNatClampNeg) = (sq_max (mt p0.toNatClampNeg) p1) from pk_us))  dX1_matched_102
    · -- 60 -> 63
      refine lv_iconst (v := 0) hx hb dX1_matched_63 (by decide) ?_
      refine lv_goto (tgt := 75) hx hb dX1_matched_64 (by decide) ?_
      refine kz_wV (As := [.int p0, .int 2, .int 0]) (rest := []) ⟨hx, hb, hml, hown, hw9⟩ (c_X1_put l hl9 D cI ty bd rs H.size 0 it o n g v r (sm_al nx (upd mt p0.toNatClampNeg (sq_max (mt p0.toNatClampNeg) p1)) fl (upd pr p0.toNatClampNeg 0) ofs (upd ak p0.toNatClampNeg (sq_max (ak p0.toNatClampNeg) p2)) (upd hd p0.toNatClampNeg p3) (upd an p0.toNatClampNeg 1)) p0.toNatClampNeg 2 p0 2 0 hsA (by decide) hsE rfl) (kz_cV 3 hw9 mw_442 mw_444 ms_14 mw_2 mw_445 rfl rfl (by decide +kernel) ⟨Nat.le_of_ble_eq_true rfl, Nat.le_of_ble_eq_true rfl⟩) (kz_preV (q0 := 0) (ci := 1) hK hP hD hS hA hE rfl rfl) rfl hl.1 rfl (Nat.le_of_ble_eq_true rfl) dX1_matched_75 ⟨Nat.le_of_ble_eq_true rfl, Nat.le_of_ble_eq_true rfl⟩ hD hS hA (fun _ _ _ _ _ _ h => False.elim h) (fun v9 H locs hv9 hP hD hS => ?_)
      obtain ⟨rfl, -⟩ := hv9
      rw [sm_p2] at hP hD
      have hP : va_P D vwCl (wM bd cI 0 it o n g v r (sm_al nx (upd mt p0.toNatClampNeg (sq_max (mt p0.toNatClampNeg) p1)) (upd fl p0.toNatClampNeg 0) (upd pr p0.toNatClampNeg 0) ofs (upd ak p0.toNatClampNeg (sq_max (ak p0.toNatClampNeg) p2)) (upd hd p0.toNatClampNeg p3) (upd an p0.toNatClampNeg 1)) ++ rs) H := hP
      have hD : va_D A (wM bd cI 0 it o n g v r (sm_al nx (upd mt p0.toNatClampNeg (sq_max (mt p0.toNatClampNeg) p1)) (upd fl p0.toNatClampNeg 0) (upd pr p0.toNatClampNeg 0) ofs (upd ak p0.toNatClampNeg (sq_max (ak p0.toNatClampNeg) p2)) (upd hd p0.toNatClampNeg p3) (upd an p0.toNatClampNeg 1)) ++ rs) := hD
      refine W.eq (g2 := F0 m 78 ls []) rfl ?_
      refine lv_aload_n hx hb dX1_matched_78 rfl (lv_at hl 0 rfl) ?_
      refine lv_iload_n hx hb dX1_matched_79 rfl (lv_at hl 1 rfl) ?_
      refine lv_iconst (v := 0) hx hb dX1_matched_80 (by decide) ?_
      refine lv_aload_n hx hb dX1_matched_81 rfl (lv_at hl 0 rfl) ?_
      refine lv_iload_n hx hb dX1_matched_82 rfl (lv_at hl 1 rfl) ?_
      refine lv_iconst (v := 0) hx hb dX1_matched_83 (by decide) ?_
      refine kz_rV (As := [.int p0, .int 0]) (rest := [.int 0, .int p0, .ref (bd 0)]) ⟨hx, hb, hml, hown, hw9⟩ (c_X1_get l hl9 D cI ty bd rs H.size 0 it o n g v r (sm_al nx (upd mt p0.toNatClampNeg (sq_max (mt p0.toNatClampNeg) p1)) (upd fl p0.toNatClampNeg 0) (upd pr p0.toNatClampNeg 0) ofs (upd ak p0.toNatClampNeg (sq_max (ak p0.toNatClampNeg) p2)) (upd hd p0.toNatClampNeg p3) (upd an p0.toNatClampNeg 1)) p0.toNatClampNeg 0 p0 0 hsA (by decide) hsE rfl) (kz_cV 2 hw9 mw_403 mw_405 ms_11 mw_2 mw_406 rfl rfl (by decide +kernel) ⟨Nat.le_of_ble_eq_true rfl, Nat.le_of_ble_eq_true rfl⟩) (kz_preV (q0 := 0) (ci := 1) hK hP hD hS hA hE rfl rfl) rfl hl.1 rfl (Nat.le_of_ble_eq_true rfl) dX1_matched_84 ⟨Nat.le_of_ble_eq_true rfl, Nat.le_of_ble_eq_true rfl⟩ (fun _ _ _ _ h => False.elim h) (fun v9 H hv9 hO1 => ?_)
      obtain ⟨_, rfl, rfl⟩ := hv9
      have hP := hO1.P hP
      have hS := hO1.S hS
      rw [sm_g0]
      refine W.eq (g2 := F0 m 87 ls [.int (nx p0.toNatClampNeg), .int 0, .int p0, .ref (bd 0)]) rfl ?_
      refine lv_iload_n hx hb dX1_matched_87 rfl (lv_at hl 2 rfl) ?_
      refine lv_iconst (v := 1) hx hb dX1_matched_88 (by decide) ?_
      refine lv_iadd hx hb dX1_matched_89 ?_
      refine kz_rS (As := [.int (nx p0.toNatClampNeg), .int (p1 + 1)]) (rest := [.int 0, .int p0, .ref (bd 0)]) ⟨hx, hb, hml, hown, hw9⟩ (c_X1_greater l hl9 D ((cI, .int) :: ty) (wM bd cI 0 it o n g v r (sm_al nx (upd mt p0.toNatClampNeg (sq_max (mt p0.toNatClampNeg) p1)) (upd fl p0.toNatClampNeg 0) (upd pr p0.toNatClampNeg 0) ofs (upd ak p0.toNatClampNeg (sq_max (ak p0.toNatClampNeg) p2)) (upd hd p0.toNatClampNeg p3) (upd an p0.toNatClampNeg 1)) ++ rs) H.size (nx p0.toNatClampNeg) (p1 + 1)) (kz_cS 2 hw9 mw_470 mw_471 mw_2 mw_472 rfl rfl (by decide +kernel) ⟨Nat.le_of_ble_eq_true rfl, Nat.le_of_ble_eq_true rfl⟩) (kz_preS hK hP hD hS hA hE) rfl hl.1 rfl (Nat.le_of_ble_eq_true rfl) dX1_matched_90 ⟨Nat.le_of_ble_eq_true rfl, Nat.le_of_ble_eq_true rfl⟩ (fun _ _ _ _ h => False.elim h) (fun v9 H hv9 hO1 => ?_)
      obtain ⟨_, rfl, rfl⟩ := hv9
      have hP := hO1.P hP
      have hS := hO1.S hS
      refine W.eq (g2 := F0 m 93 ls [.int (sq_max (nx p0.toNatClampNeg) (p1 + 1)), .int 0, .int p0, .ref (bd 0)]) rfl ?_
      refine kz_wV (As := [.int p0, .int 0, .int (sq_max (nx p0.toNatClampNeg) (p1 + 1))]) (rest := []) ⟨hx, hb, hml, hown, hw9⟩ (c_X1_put l hl9 D cI ty bd rs H.size 0 it o n g v r (sm_al nx (upd mt p0.toNatClampNeg (sq_max (mt p0.toNatClampNeg) p1)) (upd fl p0.toNatClampNeg 0) (upd pr p0.toNatClampNeg 0) ofs (upd ak p0.toNatClampNeg (sq_max (ak p0.toNatClampNeg) p2)) (upd hd p0.toNatClampNeg p3) (upd an p0.toNatClampNeg 1)) p0.toNatClampNeg 0 p0 0 (sq_max (nx p0.toNatClampNeg) (p1 + 1)) hsA (by decide) hsE rfl) (kz_cV 3 hw9 mw_442 mw_444 ms_14 mw_2 mw_445 rfl rfl (by decide +kernel) ⟨Nat.le_of_ble_eq_true rfl, Nat.le_of_ble_eq_true rfl⟩) (kz_preV (q0 := 0) (ci := 1) hK hP hD hS hA hE rfl rfl) rfl hl.1 rfl (Nat.le_of_ble_eq_true rfl) dX1_matched_93 ⟨Nat.le_of_ble_eq_true rfl, Nat.le_of_ble_eq_true rfl⟩ hD hS hA (fun _ _ _ _ _ _ h => False.elim h) (fun v9 H locs hv9 hP hD hS => ?_)
      obtain ⟨rfl, -⟩ := hv9
      rw [sm_p0] at hP hD
      have hP : va_P D vwCl (wM bd cI 0 it o n g v r (sm_al (upd nx p0.toNatClampNeg (sq_max (nx p0.toNatClampNeg) (p1 + 1))) (upd mt p0.toNatClampNeg (sq_max (mt p0.toNatClampNeg) p1)) (upd fl p0.toNatClampNeg 0) (upd pr p0.toNatClampNeg 0) ofs (upd ak p0.toNatClampNeg (sq_max (ak p0.toNatClampNeg) p2)) (upd hd p0.toNatClampNeg p3) (upd an p0.toNatClampNeg 1)) ++ rs) H := hP
      have hD : va_D A (wM bd cI 0 it o n g v r (sm_al (upd nx p0.toNatClampNeg (sq_max (nx p0.toNatClampNeg) (p1 + 1))) (upd mt p0.toNatClampNeg (sq_max (mt p0.toNatClampNeg) p1)) (upd fl p0.toNatClampNeg 0) (upd pr p0.toNatClampNeg 0) ofs (upd ak p0.toNatClampNeg (sq_max (ak p0.toNatClampNeg) p2)) (upd hd p0.toNatClampNeg p3) (upd an p0.toNatClampNeg 1)) ++ rs) := hD
      refine W.eq (g2 := F0 m 96 ls []) rfl ?_
      refine lv_aload_n hx hb dX1_matched_96 rfl (lv_at hl 0 rfl) ?_
      refine lv_iload_n hx hb dX1_matched_97 rfl (lv_at hl 1 rfl) ?_
      refine lv_iconst (v := 1) hx hb dX1_matched_98 (by decide) ?_
      refine kz_rV (As := [.int p0, .int 1]) (rest := []) ⟨hx, hb, hml, hown, hw9⟩ (c_X1_get l hl9 D cI ty bd rs H.size 0 it o n g v r (sm_al (upd nx p0.toNatClampNeg (sq_max (nx p0.toNatClampNeg) (p1 + 1))) (upd mt p0.toNatClampNeg (sq_max (mt p0.toNatClampNeg) p1)) (upd fl p0.toNatClampNeg 0) (upd pr p0.toNatClampNeg 0) ofs (upd ak p0.toNatClampNeg (sq_max (ak p0.toNatClampNeg) p2)) (upd hd p0.toNatClampNeg p3) (upd an p0.toNatClampNeg 1)) p0.toNatClampNeg 1 p0 1 hsA (by decide) hsE rfl) (kz_cV 2 hw9 mw_403 mw_405 ms_11 mw_2 mw_406 rfl rfl (by decide +kernel) ⟨Nat.le_of_ble_eq_true rfl, Nat.le_of_ble_eq_true rfl⟩) (kz_preV (q0 := 0) (ci := 1) hK hP hD hS hA hE rfl rfl) rfl hl.1 rfl (Nat.le_of_ble_eq_true rfl) dX1_matched_99 ⟨Nat.le_of_ble_eq_true rfl, Nat.le_of_ble_eq_true rfl⟩ (fun _ _ _ _ h => False.elim h) (fun v9 H hv9 hO1 => ?_)
      obtain ⟨_, rfl, rfl⟩ := hv9
      have hP := hO1.P hP
      have hS := hO1.S hS
      rw [sm_g1]
      refine W.eq (g2 := F0 m 102 ls [.int ((upd mt p0.toNatClampNeg (sq_max (mt p0.toNatClampNeg) p1)) p0.toNatClampNeg)]) rfl ?_
      have htc : tc_matched p0 p1 p2 p3 = 0 := (sm_tcm _ _ _ _).trans hb_2
      have e_fl : (upd fl p0.toNatClampNeg (sq_max (fl p0.toNatClampNeg - 1) 0)) = upd fl p0.toNatClampNeg 0 := by rw [sm_fl0 hfl hsA c_3]
      exact kz_wreti hx hb hr hlocks (by simp only [htc, if_true, e_fl]; exact hP) (by simp only [htc, if_true, e_fl]; exact hD) hS (Nat.le_of_ble_eq_true rfl) (Nat.le_of_ble_eq_true rfl) (by rw [htc]; exact (show ((upd mt p0.toNatClampNeg (sq_max (mt p0.toNatClampNeg) p1)) p0.toNatClampNeg) = (sq_max (mt p0.toNatClampNeg) p1) from pk_us))  dX1_matched_102
  · -- 15 -> 18
    have hb_4 : ¬ tc_bad p0 p1 p2 p3 0 = 0 := of_decide_eq_true (sq_z_t c_1)
    refine lv_iconst (v := 0) hx hb dX1_matched_18 (by decide) ?_
    have hTC : tc_matched p0 p1 p2 p3 = tc_bad p0 p1 p2 p3 0 := sm_tcm _ _ _ _
    exact kz_wreti hx hb hr hlocks (by rw [hTC]; simp only [if_neg hb_4]; exact hP) (by rw [hTC]; simp only [if_neg hb_4]; exact hD) hS (Nat.le_of_ble_eq_true rfl) (Nat.le_of_ble_eq_true rfl) (by rw [hTC, if_neg hb_4])  dX1_matched_19
