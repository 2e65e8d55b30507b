set_option maxHeartbeats 4000000 in
set_option maxRecDepth 100000 in
theorem c_L_matched (l : Launch) (hl9 : l.stackTraces = false) (D : va_G) (cI cZ : ClassId) (ty : kz_Y) (ad : Nat → Nat) (rs : va_W) (sz : Nat) (it o n g v r : Int32) (nx mt fl pr ofs ak hd an : Nat → Int32) (cL : ClassId) (qo : Nat) (fo : Nat → Int64) (p0 : Int32) (p1 : Int32) (p2 : Int32) (p3 : Int32) : ez_M l yL_matched wsL_matched ({ frames := 8, cells := 1, slots := 6, locals := 134 } : Room) (kz_P D ((cI, .int) :: (cZ, .boolean) :: (cL, .long) :: ty) (wX ad cI cZ it o n g v r nx mt fl pr ofs ak hd an ++ ([(qo, .inl (cL, 1, .inr (.inl fo)))] ++ rs)) sz [.ref (ad 0), .int p0, .int p1, .int p2, .int p3, .ref qo]) (kz_Wr D (va_A (wX ad cI cZ it o n g v r nx mt fl pr ofs ak hd an ++ ([(qo, .inl (cL, 1, .inr (.inl fo)))] ++ rs)) sz) (kz_i (fun r9 => r9 = (nI (tc_matched p0 p1 p2 p3)))) (wX ad cI cZ it o n g v r (if tc_matched p0 p1 p2 p3 = 0 then upd nx p0.toNatClampNeg (sq_max (nx p0.toNatClampNeg) (p1 + 1)) else nx) (if tc_matched p0 p1 p2 p3 = 0 then upd mt p0.toNatClampNeg (sq_max (mt p0.toNatClampNeg) p1) else mt) (if tc_matched p0 p1 p2 p3 = 0 then upd fl p0.toNatClampNeg (sq_max (fl p0.toNatClampNeg - 1) 0) else fl) (if tc_matched p0 p1 p2 p3 = 0 then upd pr p0.toNatClampNeg 0 else pr) ofs (if tc_matched p0 p1 p2 p3 = 0 then upd ak p0.toNatClampNeg (sq_max (ak p0.toNatClampNeg) p2) else ak) (if tc_matched p0 p1 p2 p3 = 0 then upd hd p0.toNatClampNeg p3 else hd) (if tc_matched p0 p1 p2 p3 = 0 then upd an p0.toNatClampNeg 1 else an) ++ ([(qo, .inl (cL, 1, .inr (.inl (if tc_matched p0 p1 p2 p3 = 0 then vp_updL fo 0 (sq_max (mt p0.toNatClampNeg) p1).toInt64 else fo))))] ++ rs))) (kz_T (fun _ => IAE) (fun _ => False)) 1 6 (va_A (wX ad cI cZ it o n g v r nx mt fl pr ofs ak hd an ++ ([(qo, .inl (cL, 1, .inr (.inl fo)))] ++ rs)) sz) := by
  refine ez_ofWT (cc := cL_matched) (maxL := 7) (ret := (some .int)) (by decide) rfl ?_
  intro p e s m args below meth c s₁ B hml hTab hv
  obtain ⟨rfl, hsz, hP, hK, hD0, hE⟩ := hv
  have hx := B.exec
  have hb := B.bytes
  have hr := B.returns
  have hw9 : ∀ w ∈ kz_W9, w.before ([.ref (ad 0), .int p0, .int p1, .int p2, .int p3, .ref qo] : List Value).toArray s = true := fun w h => atoms_spec (ws := wsL_matched) B.pre w (List.mem_cons_of_mem _ h)
  have hown : s.vm.findClass RL = some m.cls := findClass_of_methodNamed B.named
  have hlocks := B.notSynchronized
  subst hsz
  have hD := hD0.self (sz := s.heap.size)
  generalize hAe : va_A (wX ad cI cZ it o n g v r nx mt fl pr ofs ak hd an ++ ([(qo, .inl (cL, 1, .inr (.inl fo)))] ++ rs)) s.heap.size = A at hD hE ⊢
  have hA : ∀ q : Nat, s.heap.size ≤ q → A q := fun q h => by rw [← hAe]; exact Or.inr h
  have hS : va_S A s.heap s.heap [] := va_S.rf
  have hO : kz_O s.heap s.heap := kz_O.rf _
  have hl := lv_entry ([.ref (ad 0), .int p0, .int p1, .int p2, .int p3, .ref qo]) (n := 7) (Nat.le_of_ble_eq_true rfl)
  rw [lg_entry_eq]
  generalize (lg_sl ([.ref (ad 0), .int p0, .int p1, .int p2, .int p3, .ref qo]) ++ List.replicate (7 - (lg_sl ([.ref (ad 0), .int p0, .int p1, .int p2, .int p3, .ref qo])).length) Slot.unset).toArray = ls at hl ⊢
  have hl : lv_has ls 7 [(0, .ref (ad 0)), (1, .int p0), (2, .int p1), (3, .int p2), (4, .int p3), (5, .ref qo)] := hl
  refine lv_aload hx hb dL_matched_0 (lv_at hl 5 rfl) ?_
  refine lv_iconst (v := 0) hx hb dL_matched_2 (by decide) ?_
  refine lv_aload_n hx hb dL_matched_3 rfl (lv_at hl 0 rfl) ?_
  refine lv_iload_n hx hb dL_matched_4 rfl (lv_at hl 1 rfl) ?_
  refine lv_iload_n hx hb dL_matched_5 rfl (lv_at hl 2 rfl) ?_
  refine lv_iload_n hx hb dL_matched_6 rfl (lv_at hl 3 rfl) ?_
  refine lv_iload hx hb dL_matched_7 (lv_at hl 4 rfl) ?_
  refine kz_wV (As := [.int p0, .int p1, .int p2, .int p3]) (rest := [.int 0, .ref qo]) ⟨hx, hb, hml, hown, hw9⟩ (c_X0_matched l hl9 D cI cZ ((cL, .long) :: ty) ad ([(qo, .inl (cL, 1, .inr (.inl fo)))] ++ rs) s.heap.size it o n g v r nx mt fl pr ofs ak hd an p0 p1 p2 p3) (kz_cV 4 hw9 mw_302 mw_303 mw_304 mw_1 mw_305 rfl rfl (by decide +kernel) ⟨Nat.le_of_ble_eq_true rfl, Nat.le_of_ble_eq_true rfl⟩) (kz_preV (q0 := 0) (ci := 0) hK hP hD hS hA hE rfl rfl) rfl hl.1 rfl (Nat.le_of_ble_eq_true rfl) dL_matched_9 ⟨Nat.le_of_ble_eq_true rfl, Nat.le_of_ble_eq_true rfl⟩ hD hS hA (fun locs hf1 k ce q9 H hk hO1 hce hcv hcl => ?_) (fun v9 H locs hv9 hP hD hS => ?_)
  · -- thrown
    have hP := hO1.P hP
    have hS : va_S A s.heap H locs := ⟨(hO1.S hS).1, (hO1.S hS).2.1, hf1⟩
    rcases sm_k2 hk (tc_matched_le) with ⟨rfl, htc⟩ | ⟨rfl, htc⟩
    · -- 1
      refine ez_catch (own := RL) (nm := IOE) (E := IOE) hown [] ⟨0, 14, 17, 32⟩ [⟨0, 14, 21, 13⟩] (by rw [hTab]; rfl) (fun z hz => nomatch hz) (by decide) (by decide) (hw9 _ mw_235) (va_Nw.use rfl (hE.2.2.2.1 (IOE, IOE) (by decide +kernel))) hce hcv hcl ?_
      refine lv_astore (lv' := [(6, .ref q9), (0, .ref (ad 0)), (1, .int p0), (2, .int p1), (3, .int p2), (4, .int p3), (5, .ref qo)]) hx hb dL_matched_17 hl (by decide) rfl (fun ls hl => ?_)
      refine lv_iconst (v := 1) hx hb dL_matched_19 (by decide) ?_
      exact kz_wreti hx hb hr hlocks (by rw [htc]; exact hP) (by rw [htc]; exact hD) hS (Nat.le_of_ble_eq_true rfl) (Nat.le_of_ble_eq_true rfl) (by rw [htc]; rfl)  dL_matched_20
    · -- 2
      refine ez_catch (own := RL) (nm := IAE) (E := IAE) hown [⟨0, 14, 17, 32⟩] ⟨0, 14, 21, 13⟩ [] (by rw [hTab]; rfl) (fun z hz => by rcases List.mem_cons.mp hz with rfl | hz; exact ⟨by decide, by decide, IOE, hw9 _ mw_235, hE.2.2.2.2.2 (IAE, IOE) (by decide +kernel)⟩; cases hz) (by decide) (by decide) (hw9 _ mw_93) (va_Nw.use rfl (hE.2.2.2.1 (IAE, IAE) (by decide +kernel))) hce hcv hcl ?_
      refine lv_astore (lv' := [(6, .ref q9), (0, .ref (ad 0)), (1, .int p0), (2, .int p1), (3, .int p2), (4, .int p3), (5, .ref qo)]) hx hb dL_matched_21 hl (by decide) rfl (fun ls hl => ?_)
      refine lv_iconst (v := 2) hx hb dL_matched_23 (by decide) ?_
      exact kz_wreti hx hb hr hlocks (by rw [htc]; exact hP) (by rw [htc]; exact hD) hS (Nat.le_of_ble_eq_true rfl) (Nat.le_of_ble_eq_true rfl) (by rw [htc]; rfl)  dL_matched_24
  · -- goes on
    obtain ⟨_, rfl, hv_1, rfl⟩ := hv9
    have hP : va_P D vwCl (wX ad cI cZ it o n g v r (upd nx p0.toNatClampNeg (sq_max (nx p0.toNatClampNeg) (p1 + 1))) (upd mt p0.toNatClampNeg (sq_max (mt p0.toNatClampNeg) p1)) (upd fl p0.toNatClampNeg (sq_max (fl p0.toNatClampNeg - 1) 0)) (upd pr p0.toNatClampNeg 0) ofs (upd ak p0.toNatClampNeg (sq_max (ak p0.toNatClampNeg) p2)) (upd hd p0.toNatClampNeg p3) (upd an p0.toNatClampNeg 1) ++ ([(qo, .inl (cL, 1, .inr (.inl fo)))] ++ rs)) H := hP
    have hD : va_D A (wX ad cI cZ it o n g v r (upd nx p0.toNatClampNeg (sq_max (nx p0.toNatClampNeg) (p1 + 1))) (upd mt p0.toNatClampNeg (sq_max (mt p0.toNatClampNeg) p1)) (upd fl p0.toNatClampNeg (sq_max (fl p0.toNatClampNeg - 1) 0)) (upd pr p0.toNatClampNeg 0) ofs (upd ak p0.toNatClampNeg (sq_max (ak p0.toNatClampNeg) p2)) (upd hd p0.toNatClampNeg p3) (upd an p0.toNatClampNeg 1) ++ ([(qo, .inl (cL, 1, .inr (.inl fo)))] ++ rs)) := hD
    refine W.eq (g2 := F0 m 12 ls [.int (sq_max (mt p0.toNatClampNeg) p1), .int 0, .ref qo]) rfl ?_
    refine lv_i2l (v := (sq_max (mt p0.toNatClampNeg) p1).toInt64) hx hb dL_matched_12 rfl ?_
    refine va_last hx hb hK hP hD hS 9 2 rfl rfl (vp_in_nI (n := 0) (by decide) (by decide)) dL_matched_13 (fun H locs hP hD hS => ?_)
    have hP : va_P D vwCl (wX ad cI cZ it o n g v r (upd nx p0.toNatClampNeg (sq_max (nx p0.toNatClampNeg) (p1 + 1))) (upd mt p0.toNatClampNeg (sq_max (mt p0.toNatClampNeg) p1)) (upd fl p0.toNatClampNeg (sq_max (fl p0.toNatClampNeg - 1) 0)) (upd pr p0.toNatClampNeg 0) ofs (upd ak p0.toNatClampNeg (sq_max (ak p0.toNatClampNeg) p2)) (upd hd p0.toNatClampNeg p3) (upd an p0.toNatClampNeg 1) ++ ([(qo, .inl (cL, 1, .inr (.inl (vp_updL fo 0 ((sq_max (mt p0.toNatClampNeg) p1).toInt64)))))] ++ rs)) H := hP
    have hD : va_D A (wX ad cI cZ it o n g v r (upd nx p0.toNatClampNeg (sq_max (nx p0.toNatClampNeg) (p1 + 1))) (upd mt p0.toNatClampNeg (sq_max (mt p0.toNatClampNeg) p1)) (upd fl p0.toNatClampNeg (sq_max (fl p0.toNatClampNeg - 1) 0)) (upd pr p0.toNatClampNeg 0) ofs (upd ak p0.toNatClampNeg (sq_max (ak p0.toNatClampNeg) p2)) (upd hd p0.toNatClampNeg p3) (upd an p0.toNatClampNeg 1) ++ ([(qo, .inl (cL, 1, .inr (.inl (vp_updL fo 0 ((sq_max (mt p0.toNatClampNeg) p1).toInt64)))))] ++ rs)) := hD
    refine lv_goto (tgt := 25) hx hb dL_matched_14 (by decide) ?_
    refine lv_iconst (v := 0) hx hb dL_matched_25 (by decide) ?_
    have htc := hv_1
    exact kz_wreti hx hb hr hlocks (by rw [htc]; exact hP) (by rw [htc]; exact hD) hS (Nat.le_of_ble_eq_true rfl) (Nat.le_of_ble_eq_true rfl) (by rw [htc]; rfl)  dL_matched_26
set_option maxHeartbeats 4000000 in
set_option maxRecDepth 100000 in
theorem c_L_refused (l : Launch) (hl9 : l.stackTraces = false) (D : va_G) (cI cZ : ClassId) (ty : kz_Y) (ad : Nat → Nat) (rs : va_W) (sz : Nat) (it o n g v r : Int32) (nx mt fl pr ofs ak hd an : Nat → Int32) (cL : ClassId) (qo : Nat) (fo : Nat → Int64) (p0 : Int32) (p1 : Int32) (p2 : Int32) (p3 : Int32) (p4 : Int32) : ez_M l yL_refused wsL_refused ({ frames := 8, cells := 1, slots := 6, locals := 135 } : Room) (kz_P D ((cI, .int) :: (cZ, .boolean) :: (cL, .long) :: ty) (wX ad cI cZ it o n g v r nx mt fl pr ofs ak hd an ++ ([(qo, .inl (cL, 1, .inr (.inl fo)))] ++ rs)) sz [.ref (ad 0), .int p0, .int p1, .int p2, .int p3, .int p4, .ref qo]) (kz_Wr D (va_A (wX ad cI cZ it o n g v r nx mt fl pr ofs ak hd an ++ ([(qo, .inl (cL, 1, .inr (.inl fo)))] ++ rs)) sz) (kz_i (fun r9 => r9 = (nI (tc_refused p0 p1 p2 p3 p4)))) (wX ad cI cZ it o n g v r (if tc_refused p0 p1 p2 p3 p4 = 0 then upd nx p0.toNatClampNeg (sq_min (sq_max p1 (mt p0.toNatClampNeg + 1)) (p2 + 1)) else nx) mt (if tc_refused p0 p1 p2 p3 p4 = 0 then upd fl p0.toNatClampNeg 0 else fl) (if tc_refused p0 p1 p2 p3 p4 = 0 then upd pr p0.toNatClampNeg 1 else pr) ofs (if tc_refused p0 p1 p2 p3 p4 = 0 then upd ak p0.toNatClampNeg (sq_max (ak p0.toNatClampNeg) p3) else ak) (if tc_refused p0 p1 p2 p3 p4 = 0 then upd hd p0.toNatClampNeg p4 else hd) (if tc_refused p0 p1 p2 p3 p4 = 0 then upd an p0.toNatClampNeg 1 else an) ++ ([(qo, .inl (cL, 1, .inr (.inl (if tc_refused p0 p1 p2 p3 p4 = 0 then vp_updL fo 0 (sq_min (sq_max p1 (mt p0.toNatClampNeg + 1)) (p2 + 1)).toInt64 else fo))))] ++ rs))) (kz_T (fun _ => IAE) (fun _ => False)) 1 6 (va_A (wX ad cI cZ it o n g v r nx mt fl pr ofs ak hd an ++ ([(qo, .inl (cL, 1, .inr (.inl fo)))] ++ rs)) sz) := by
  refine ez_ofWT (cc := cL_refused) (maxL := 8) (ret := (some .int)) (by decide) rfl ?_
  intro p e s m args below meth c s₁ B hml hTab hv
  obtain ⟨rfl, hsz, hP, hK, hD0, hE⟩ := hv
  have hx := B.exec
  have hb := B.bytes
  have hr := B.returns
  have hw9 : ∀ w ∈ kz_W9, w.before ([.ref (ad 0), .int p0, .int p1, .int p2, .int p3, .int p4, .ref qo] : List Value).toArray s = true := fun w h => atoms_spec (ws := wsL_refused) B.pre w (List.mem_cons_of_mem _ h)
  have hown : s.vm.findClass RL = some m.cls := findClass_of_methodNamed B.named
  have hlocks := B.notSynchronized
  subst hsz
  have hD := hD0.self (sz := s.heap.size)
  generalize hAe : va_A (wX ad cI cZ it o n g v r nx mt fl pr ofs ak hd an ++ ([(qo, .inl (cL, 1, .inr (.inl fo)))] ++ rs)) s.heap.size = A at hD hE ⊢
  have hA : ∀ q : Nat, s.heap.size ≤ q → A q := fun q h => by rw [← hAe]; exact Or.inr h
  have hS : va_S A s.heap s.heap [] := va_S.rf
  have hO : kz_O s.heap s.heap := kz_O.rf _
  have hl := lv_entry ([.ref (ad 0), .int p0, .int p1, .int p2, .int p3, .int p4, .ref qo]) (n := 8) (Nat.le_of_ble_eq_true rfl)
  rw [lg_entry_eq]
  generalize (lg_sl ([.ref (ad 0), .int p0, .int p1, .int p2, .int p3, .int p4, .ref qo]) ++ List.replicate (8 - (lg_sl ([.ref (ad 0), .int p0, .int p1, .int p2, .int p3, .int p4, .ref qo])).length) Slot.unset).toArray = ls at hl ⊢
  have hl : lv_has ls 8 [(0, .ref (ad 0)), (1, .int p0), (2, .int p1), (3, .int p2), (4, .int p3), (5, .int p4), (6, .ref qo)] := hl
  refine lv_aload hx hb dL_refused_0 (lv_at hl 6 rfl) ?_
  refine lv_iconst (v := 0) hx hb dL_refused_2 (by decide) ?_
  refine lv_aload_n hx hb dL_refused_3 rfl (lv_at hl 0 rfl) ?_
  refine lv_iload_n hx hb dL_refused_4 rfl (lv_at hl 1 rfl) ?_
  refine lv_iload_n hx hb dL_refused_5 rfl (lv_at hl 2 rfl) ?_
  refine lv_iload_n hx hb dL_refused_6 rfl (lv_at hl 3 rfl) ?_
  refine lv_iload hx hb dL_refused_7 (lv_at hl 4 rfl) ?_
  refine lv_iload hx hb dL_refused_9 (lv_at hl 5 rfl) ?_
  refine kz_wV (As := [.int p0, .int p1, .int p2, .int p3, .int p4]) (rest := [.int 0, .ref qo]) ⟨hx, hb, hml, hown, hw9⟩ (c_X0_refused l hl9 D cI cZ ((cL, .long) :: ty) ad ([(qo, .inl (cL, 1, .inr (.inl fo)))] ++ rs) s.heap.size it o n g v r nx mt fl pr ofs ak hd an p0 p1 p2 p3 p4) (kz_cV 5 hw9 mw_316 mw_317 mw_318 mw_1 mw_319 rfl rfl (by decide +kernel) ⟨Nat.le_of_ble_eq_true rfl, Nat.le_of_ble_eq_true rfl⟩) (kz_preV (q0 := 0) (ci := 0) hK hP hD hS hA hE rfl rfl) rfl hl.1 rfl (Nat.le_of_ble_eq_true rfl) dL_refused_11 ⟨Nat.le_of_ble_eq_true rfl, Nat.le_of_ble_eq_true rfl⟩ hD hS hA (fun locs hf1 k ce q9 H hk hO1 hce hcv hcl => ?_) (fun v9 H locs hv9 hP hD hS => ?_)
  · -- thrown
    have hP := hO1.P hP
    have hS : va_S A s.heap H locs := ⟨(hO1.S hS).1, (hO1.S hS).2.1, hf1⟩
    rcases sm_k2 hk (tc_refused_le) with ⟨rfl, htc⟩ | ⟨rfl, htc⟩
    · -- 1
      refine ez_catch (own := RL) (nm := IOE) (E := IOE) hown [] ⟨0, 16, 19, 32⟩ [⟨0, 16, 23, 13⟩] (by rw [hTab]; rfl) (fun z hz => nomatch hz) (by decide) (by decide) (hw9 _ mw_235) (va_Nw.use rfl (hE.2.2.2.1 (IOE, IOE) (by decide +kernel))) hce hcv hcl ?_
      refine lv_astore (lv' := [(7, .ref q9), (0, .ref (ad 0)), (1, .int p0), (2, .int p1), (3, .int p2), (4, .int p3), (5, .int p4), (6, .ref qo)]) hx hb dL_refused_19 hl (by decide) rfl (fun ls hl => ?_)
      refine lv_iconst (v := 1) hx hb dL_refused_21 (by decide) ?_
      exact kz_wreti hx hb hr hlocks (by rw [htc]; exact hP) (by rw [htc]; exact hD) hS (Nat.le_of_ble_eq_true rfl) (Nat.le_of_ble_eq_true rfl) (by rw [htc]; rfl)  dL_refused_22
    · -- 2
      refine ez_catch (own := RL) (nm := IAE) (E := IAE) hown [⟨0, 16, 19, 32⟩] ⟨0, 16, 23, 13⟩ [] (by rw [hTab]; rfl) (fun z hz => by rcases List.mem_cons.mp hz with rfl | hz; exact ⟨by decide, by decide, IOE, hw9 _ mw_235, hE.2.2.2.2.2 (IAE, IOE) (by decide +kernel)⟩; cases hz) (by decide) (by decide) (hw9 _ mw_93) (va_Nw.use rfl (hE.2.2.2.1 (IAE, IAE) (by decide +kernel))) hce hcv hcl ?_
      refine lv_astore (lv' := [(7, .ref q9), (0, .ref (ad 0)), (1, .int p0), (2, .int p1), (3, .int p2), (4, .int p3), (5, .int p4), (6, .ref qo)]) hx hb dL_refused_23 hl (by decide) rfl (fun ls hl => ?_)
      refine lv_iconst (v := 2) hx hb dL_refused_25 (by decide) ?_
      exact kz_wreti hx hb hr hlocks (by rw [htc]; exact hP) (by rw [htc]; exact hD) hS (Nat.le_of_ble_eq_true rfl) (Nat.le_of_ble_eq_true rfl) (by rw [htc]; rfl)  dL_refused_26
  · -- goes on
    obtain ⟨_, rfl, hv_1, rfl⟩ := hv9
    have hP : va_P D vwCl (wX ad cI cZ it o n g v r (upd nx p0.toNatClampNeg (sq_min (sq_max p1 (mt p0.toNatClampNeg + 1)) (p2 + 1))) mt (upd fl p0.toNatClampNeg 0) (upd pr p0.toNatClampNeg 1) ofs (upd ak p0.toNatClampNeg (sq_max (ak p0.toNatClampNeg) p3)) (upd hd p0.toNatClampNeg p4) (upd an p0.toNatClampNeg 1) ++ ([(qo, .inl (cL, 1, .inr (.inl fo)))] ++ rs)) H := hP
    have hD : va_D A (wX ad cI cZ it o n g v r (upd nx p0.toNatClampNeg (sq_min (sq_max p1 (mt p0.toNatClampNeg + 1)) (p2 + 1))) mt (upd fl p0.toNatClampNeg 0) (upd pr p0.toNatClampNeg 1) ofs (upd ak p0.toNatClampNeg (sq_max (ak p0.toNatClampNeg) p3)) (upd hd p0.toNatClampNeg p4) (upd an p0.toNatClampNeg 1) ++ ([(qo, .inl (cL, 1, .inr (.inl fo)))] ++ rs)) := hD
    refine W.eq (g2 := F0 m 14 ls [.int (sq_min (sq_max p1 (mt p0.toNatClampNeg + 1)) (p2 + 1)), .int 0, .ref qo]) rfl ?_
    refine lv_i2l (v := (sq_min (sq_max p1 (mt p0.toNatClampNeg + 1)) (p2 + 1)).toInt64) hx hb dL_refused_14 rfl ?_
    refine va_last hx hb hK hP hD hS 9 2 rfl rfl (vp_in_nI (n := 0) (by decide) (by decide)) dL_refused_15 (fun H locs hP hD hS => ?_)
    have hP : va_P D vwCl (wX ad cI cZ it o n g v r (upd nx p0.toNatClampNeg (sq_min (sq_max p1 (mt p0.toNatClampNeg + 1)) (p2 + 1))) mt (upd fl p0.toNatClampNeg 0) (upd pr p0.toNatClampNeg 1) ofs (upd ak p0.toNatClampNeg (sq_max (ak p0.toNatClampNeg) p3)) (upd hd p0.toNatClampNeg p4) (upd an p0.toNatClampNeg 1) ++ ([(qo, .inl (cL, 1, .inr (.inl (vp_updL fo 0 ((sq_min (sq_max p1 (mt p0.toNatClampNeg + 1)) (p2 + 1)).toInt64)))))] ++ rs)) H := hP
    have hD : va_D A (wX ad cI cZ it o n g v r (upd nx p0.toNatClampNeg (sq_min (sq_max p1 (mt p0.toNatClampNeg + 1)) (p2 + 1))) mt (upd fl p0.toNatClampNeg 0) (upd pr p0.toNatClampNeg 1) ofs (upd ak p0.toNatClampNeg (sq_max (ak p0.toNatClampNeg) p3)) (upd hd p0.toNatClampNeg p4) (upd an p0.toNatClampNeg 1) ++ ([(qo, .inl (cL, 1, .inr (.inl (vp_updL fo 0 ((sq_min (sq_max p1 (mt p0.toNatClampNeg + 1)) (p2 + 1)).toInt64)))))] ++ rs)) := hD
    refine lv_goto (tgt := 27) hx hb dL_refused_16 (by decide) ?_
    refine lv_iconst (v := 0) hx hb dL_refused_27 (by decide) ?_
    have htc := hv_1
    exact kz_wreti hx hb hr hlocks (by rw [htc]; exact hP) (by rw [htc]; exact hD) hS (Nat.le_of_ble_eq_true rfl) (Nat.le_of_ble_eq_true rfl) (by rw [htc]; rfl)  dL_refused_28
set_option maxHeartbeats 4000000 in
set_option maxRecDepth 100000 in
theorem c_L_stored (l : Launch) (hl9 : l.stackTraces = false) (D : va_G) (cI cZ : ClassId) (ty : kz_Y) (ad : Nat → Nat) (rs : va_W) (sz : Nat) (it o n g v r : Int32) (nx mt fl pr ofs ak hd an : Nat → Int32) (cL : ClassId) (qo : Nat) (fo : Nat → Int64) (p0 : Int32) (p1 : Int32) (p2 : Int32) (p3 : Int32) (p4 : Int32) (p5 : Int32) : ez_M l yL_stored wsL_stored ({ frames := 8, cells := 1, slots := 6, locals := 136 } : Room) (kz_P D ((cI, .int) :: (cZ, .boolean) :: (cL, .long) :: ty) (wX ad cI cZ it o n g v r nx mt fl pr ofs ak hd an ++ ([(qo, .inl (cL, 1, .inr (.inl fo)))] ++ rs)) sz [.ref (ad 0), .int p0, .int p1, .int p2, .int p3, .int p4, .int p5, .ref qo]) (kz_Wr D (va_A (wX ad cI cZ it o n g v r nx mt fl pr ofs ak hd an ++ ([(qo, .inl (cL, 1, .inr (.inl fo)))] ++ rs)) sz) (kz_i (fun r9 => r9 = (nI (tc_stored p0 p1 p2 p3 p4 p5)))) (wX ad cI cZ it o n g v r (if tc_stored p0 p1 p2 p3 p4 p5 = 0 then if p1 < p2 then nx else upd nx p0.toNatClampNeg (p3 + 1) else nx) (if tc_stored p0 p1 p2 p3 p4 p5 = 0 then if p1 < p2 then mt else upd mt p0.toNatClampNeg (sq_max (mt p0.toNatClampNeg) p3) else mt) (if tc_stored p0 p1 p2 p3 p4 p5 = 0 then upd fl p0.toNatClampNeg 0 else fl) (if tc_stored p0 p1 p2 p3 p4 p5 = 0 then if p1 < p2 then pr else upd pr p0.toNatClampNeg 1 else pr) (if tc_stored p0 p1 p2 p3 p4 p5 = 0 then if p1 < p2 then upd ofs p0.toNatClampNeg p1 else upd ofs p0.toNatClampNeg 0 else ofs) (if tc_stored p0 p1 p2 p3 p4 p5 = 0 then upd ak p0.toNatClampNeg (sq_max (ak p0.toNatClampNeg) p4) else ak) (if tc_stored p0 p1 p2 p3 p4 p5 = 0 then upd hd p0.toNatClampNeg p5 else hd) (if tc_stored p0 p1 p2 p3 p4 p5 = 0 then upd an p0.toNatClampNeg 1 else an) ++ ([(qo, .inl (cL, 1, .inr (.inl (if tc_stored p0 p1 p2 p3 p4 p5 = 0 then vp_updL fo 0 (sq_z (decide (¬ p1 < p2))).toInt64 else fo))))] ++ rs))) (kz_T (fun _ => IAE) (fun _ => False)) 1 6 (va_A (wX ad cI cZ it o n g v r nx mt fl pr ofs ak hd an ++ ([(qo, .inl (cL, 1, .inr (.inl fo)))] ++ rs)) sz) := by
  refine ez_ofWT (cc := cL_stored) (maxL := 9) (ret := (some .int)) (by decide) rfl ?_
  intro p e s m args below meth c s₁ B hml hTab hv
  obtain ⟨rfl, hsz, hP, hK, hD0, hE⟩ := hv
  have hx := B.exec
  have hb := B.bytes
  have hr := B.returns
  have hw9 : ∀ w ∈ kz_W9, w.before ([.ref (ad 0), .int p0, .int p1, .int p2, .int p3, .int p4, .int p5, .ref qo] : List Value).toArray s = true := fun w h => atoms_spec (ws := wsL_stored) B.pre w (List.mem_cons_of_mem _ h)
  have hown : s.vm.findClass RL = some m.cls := findClass_of_methodNamed B.named
  have hlocks := B.notSynchronized
  subst hsz
  have hD := hD0.self (sz := s.heap.size)
  generalize hAe : va_A (wX ad cI cZ it o n g v r nx mt fl pr ofs ak hd an ++ ([(qo, .inl (cL, 1, .inr (.inl fo)))] ++ rs)) s.heap.size = A at hD hE ⊢
  have hA : ∀ q : Nat, s.heap.size ≤ q → A q := fun q h => by rw [← hAe]; exact Or.inr h
  have hS : va_S A s.heap s.heap [] := va_S.rf
  have hO : kz_O s.heap s.heap := kz_O.rf _
  have hl := lv_entry ([.ref (ad 0), .int p0, .int p1, .int p2, .int p3, .int p4, .int p5, .ref qo]) (n := 9) (Nat.le_of_ble_eq_true rfl)
  rw [lg_entry_eq]
  generalize (lg_sl ([.ref (ad 0), .int p0, .int p1, .int p2, .int p3, .int p4, .int p5, .ref qo]) ++ List.replicate (9 - (lg_sl ([.ref (ad 0), .int p0, .int p1, .int p2, .int p3, .int p4, .int p5, .ref qo])).length) Slot.unset).toArray = ls at hl ⊢
  have hl : lv_has ls 9 [(0, .ref (ad 0)), (1, .int p0), (2, .int p1), (3, .int p2), (4, .int p3), (5, .int p4), (6, .int p5), (7, .ref qo)] := hl
  refine lv_aload hx hb dL_stored_0 (lv_at hl 7 rfl) ?_
  refine lv_iconst (v := 0) hx hb dL_stored_2 (by decide) ?_
  refine lv_aload_n hx hb dL_stored_3 rfl (lv_at hl 0 rfl) ?_
  refine lv_iload_n hx hb dL_stored_4 rfl (lv_at hl 1 rfl) ?_
  refine lv_iload_n hx hb dL_stored_5 rfl (lv_at hl 2 rfl) ?_
  refine lv_iload_n hx hb dL_stored_6 rfl (lv_at hl 3 rfl) ?_
  refine lv_iload hx hb dL_stored_7 (lv_at hl 4 rfl) ?_
  refine lv_iload hx hb dL_stored_9 (lv_at hl 5 rfl) ?_
  refine lv_iload hx hb dL_stored_11 (lv_at hl 6 rfl) ?_
  refine kz_wV (As := [.int p0, .int p1, .int p2, .int p3, .int p4, .int p5]) (rest := [.int 0, .ref qo]) ⟨hx, hb, hml, hown, hw9⟩ (c_X0_stored l hl9 D cI cZ ((cL, .long) :: ty) ad ([(qo, .inl (cL, 1, .inr (.inl fo)))] ++ rs) s.heap.size it o n g v r nx mt fl pr ofs ak hd an p0 p1 p2 p3 p4 p5) (kz_cV 6 hw9 mw_323 mw_324 mw_325 mw_1 mw_326 rfl rfl (by decide +kernel) ⟨Nat.le_of_ble_eq_true rfl, Nat.le_of_ble_eq_true rfl⟩) (kz_preV (q0 := 0) (ci := 0) hK hP hD hS hA hE rfl rfl) rfl hl.1 rfl (Nat.le_of_ble_eq_true rfl) dL_stored_13 ⟨Nat.le_of_ble_eq_true rfl, Nat.le_of_ble_eq_true rfl⟩ hD hS hA (fun locs hf1 k ce q9 H hk hO1 hce hcv hcl => ?_) (fun v9 H locs hv9 hP hD hS => ?_)
  · -- thrown
    have hP := hO1.P hP
    have hS : va_S A s.heap H locs := ⟨(hO1.S hS).1, (hO1.S hS).2.1, hf1⟩
    rcases sm_k2 hk (tc_stored_le) with ⟨rfl, htc⟩ | ⟨rfl, htc⟩
    · -- 1
      refine ez_catch (own := RL) (nm := IOE) (E := IOE) hown [] ⟨0, 25, 28, 32⟩ [⟨0, 25, 32, 13⟩] (by rw [hTab]; rfl) (fun z hz => nomatch hz) (by decide) (by decide) (hw9 _ mw_235) (va_Nw.use rfl (hE.2.2.2.1 (IOE, IOE) (by decide +kernel))) hce hcv hcl ?_
      refine lv_astore (lv' := [(8, .ref q9), (0, .ref (ad 0)), (1, .int p0), (2, .int p1), (3, .int p2), (4, .int p3), (5, .int p4), (6, .int p5), (7, .ref qo)]) hx hb dL_stored_28 hl (by decide) rfl (fun ls hl => ?_)
      refine lv_iconst (v := 1) hx hb dL_stored_30 (by decide) ?_
      exact kz_wreti hx hb hr hlocks (by rw [htc]; exact hP) (by rw [htc]; exact hD) hS (Nat.le_of_ble_eq_true rfl) (Nat.le_of_ble_eq_true rfl) (by rw [htc]; rfl)  dL_stored_31
    · -- 2
      refine ez_catch (own := RL) (nm := IAE) (E := IAE) hown [⟨0, 25, 28, 32⟩] ⟨0, 25, 32, 13⟩ [] (by rw [hTab]; rfl) (fun z hz => by rcases List.mem_cons.mp hz with rfl | hz; exact ⟨by decide, by decide, IOE, hw9 _ mw_235, hE.2.2.2.2.2 (IAE, IOE) (by decide +kernel)⟩; cases hz) (by decide) (by decide) (hw9 _ mw_93) (va_Nw.use rfl (hE.2.2.2.1 (IAE, IAE) (by decide +kernel))) hce hcv hcl ?_
      refine lv_astore (lv' := [(8, .ref q9), (0, .ref (ad 0)), (1, .int p0), (2, .int p1), (3, .int p2), (4, .int p3), (5, .int p4), (6, .int p5), (7, .ref qo)]) hx hb dL_stored_32 hl (by decide) rfl (fun ls hl => ?_)
      refine lv_iconst (v := 2) hx hb dL_stored_34 (by decide) ?_
      exact kz_wreti hx hb hr hlocks (by rw [htc]; exact hP) (by rw [htc]; exact hD) hS (Nat.le_of_ble_eq_true rfl) (Nat.le_of_ble_eq_true rfl) (by rw [htc]; rfl)  dL_stored_35
  · -- goes on
    obtain ⟨_, rfl, hv_1, rfl⟩ := hv9
    have hP : va_P D vwCl (wX ad cI cZ it o n g v r (if p1 < p2 then nx else upd nx p0.toNatClampNeg (p3 + 1)) (if p1 < p2 then mt else upd mt p0.toNatClampNeg (sq_max (mt p0.toNatClampNeg) p3)) (upd fl p0.toNatClampNeg 0) (if p1 < p2 then pr else upd pr p0.toNatClampNeg 1) (if p1 < p2 then upd ofs p0.toNatClampNeg p1 else upd ofs p0.toNatClampNeg 0) (upd ak p0.toNatClampNeg (sq_max (ak p0.toNatClampNeg) p4)) (upd hd p0.toNatClampNeg p5) (upd an p0.toNatClampNeg 1) ++ ([(qo, .inl (cL, 1, .inr (.inl fo)))] ++ rs)) H := hP
    have hD : va_D A (wX ad cI cZ it o n g v r (if p1 < p2 then nx else upd nx p0.toNatClampNeg (p3 + 1)) (if p1 < p2 then mt else upd mt p0.toNatClampNeg (sq_max (mt p0.toNatClampNeg) p3)) (upd fl p0.toNatClampNeg 0) (if p1 < p2 then pr else upd pr p0.toNatClampNeg 1) (if p1 < p2 then upd ofs p0.toNatClampNeg p1 else upd ofs p0.toNatClampNeg 0) (upd ak p0.toNatClampNeg (sq_max (ak p0.toNatClampNeg) p4)) (upd hd p0.toNatClampNeg p5) (upd an p0.toNatClampNeg 1) ++ ([(qo, .inl (cL, 1, .inr (.inl fo)))] ++ rs)) := hD
    refine W.eq (g2 := F0 m 16 ls [.int (sq_z (decide (¬ p1 < p2))), .int 0, .ref qo]) rfl ?_
    refine lv_if_eq (tgt := 23) hx hb dL_stored_16 (by decide) (fun c_2 => ?_) (fun c_2 => ?_)
    · -- 16 -> 23
      refine lv_lconst (v := 0) hx hb dL_stored_23 (by decide) ?_
      refine va_last hx hb hK hP hD hS 9 2 rfl rfl (vp_in_nI (n := 0) (by decide) (by decide)) dL_stored_24 (fun H locs hP hD hS => ?_)
      have hP : va_P D vwCl (wX ad cI cZ it o n g v r (if p1 < p2 then nx else upd nx p0.toNatClampNeg (p3 + 1)) (if p1 < p2 then mt else upd mt p0.toNatClampNeg (sq_max (mt p0.toNatClampNeg) p3)) (upd fl p0.toNatClampNeg 0) (if p1 < p2 then pr else upd pr p0.toNatClampNeg 1) (if p1 < p2 then upd ofs p0.toNatClampNeg p1 else upd ofs p0.toNatClampNeg 0) (upd ak p0.toNatClampNeg (sq_max (ak p0.toNatClampNeg) p4)) (upd hd p0.toNatClampNeg p5) (upd an p0.toNatClampNeg 1) ++ ([(qo, .inl (cL, 1, .inr (.inl (vp_updL fo 0 0))))] ++ rs)) H := hP
      have hD : va_D A (wX ad cI cZ it o n g v r (if p1 < p2 then nx else upd nx p0.toNatClampNeg (p3 + 1)) (if p1 < p2 then mt else upd mt p0.toNatClampNeg (sq_max (mt p0.toNatClampNeg) p3)) (upd fl p0.toNatClampNeg 0) (if p1 < p2 then pr else upd pr p0.toNatClampNeg 1) (if p1 < p2 then upd ofs p0.toNatClampNeg p1 else upd ofs p0.toNatClampNeg 0) (upd ak p0.toNatClampNeg (sq_max (ak p0.toNatClampNeg) p4)) (upd hd p0.toNatClampNeg p5) (upd an p0.toNatClampNeg 1) ++ ([(qo, .inl (cL, 1, .inr (.inl (vp_updL fo 0 0))))] ++ rs)) := hD
      refine lv_goto (tgt := 36) hx hb dL_stored_25 (by decide) ?_
      refine lv_iconst (v := 0) hx hb dL_stored_36 (by decide) ?_
      have htc := hv_1
      exact kz_wreti hx hb hr hlocks (by rw [htc, show (decide (¬ p1 < p2)) = false from sq_z_f c_2]; exact hP) (by rw [htc, show (decide (¬ p1 < p2)) = false from sq_z_f c_2]; exact hD) hS (Nat.le_of_ble_eq_true rfl) (Nat.le_of_ble_eq_true rfl) (by rw [htc]; rfl)  dL_stored_37
    · -- 16 -> 19
      refine lv_lconst (v := 1) hx hb dL_stored_19 (by decide) ?_
      refine lv_goto (tgt := 24) hx hb dL_stored_20 (by decide) ?_
      refine va_last hx hb hK hP hD hS 9 2 rfl rfl (vp_in_nI (n := 0) (by decide) (by decide)) dL_stored_24 (fun H locs hP hD hS => ?_)
      have hP : va_P D vwCl (wX ad cI cZ it o n g v r (if p1 < p2 then nx else upd nx p0.toNatClampNeg (p3 + 1)) (if p1 < p2 then mt else upd mt p0.toNatClampNeg (sq_max (mt p0.toNatClampNeg) p3)) (upd fl p0.toNatClampNeg 0) (if p1 < p2 then pr else upd pr p0.toNatClampNeg 1) (if p1 < p2 then upd ofs p0.toNatClampNeg p1 else upd ofs p0.toNatClampNeg 0) (upd ak p0.toNatClampNeg (sq_max (ak p0.toNatClampNeg) p4)) (upd hd p0.toNatClampNeg p5) (upd an p0.toNatClampNeg 1) ++ ([(qo, .inl (cL, 1, .inr (.inl (vp_updL fo 0 1))))] ++ rs)) H := hP
      have hD : va_D A (wX ad cI cZ it o n g v r (if p1 < p2 then nx else upd nx p0.toNatClampNeg (p3 + 1)) (if p1 < p2 then mt else upd mt p0.toNatClampNeg (sq_max (mt p0.toNatClampNeg) p3)) (upd fl p0.toNatClampNeg 0) (if p1 < p2 then pr else upd pr p0.toNatClampNeg 1) (if p1 < p2 then upd ofs p0.toNatClampNeg p1 else upd ofs p0.toNatClampNeg 0) (upd ak p0.toNatClampNeg (sq_max (ak p0.toNatClampNeg) p4)) (upd hd p0.toNatClampNeg p5) (upd an p0.toNatClampNeg 1) ++ ([(qo, .inl (cL, 1, .inr (.inl (vp_updL fo 0 1))))] ++ rs)) := hD
      refine lv_goto (tgt := 36) hx hb dL_stored_25 (by decide) ?_
      refine lv_iconst (v := 0) hx hb dL_stored_36 (by decide) ?_
      have htc := hv_1
      exact kz_wreti hx hb hr hlocks (by rw [htc, show (decide (¬ p1 < p2)) = true from sq_z_t c_2]; exact hP) (by rw [htc, show (decide (¬ p1 < p2)) = true from sq_z_t c_2]; exact hD) hS (Nat.le_of_ble_eq_true rfl) (Nat.le_of_ble_eq_true rfl) (by rw [htc]; rfl)  dL_stored_37
set_option maxHeartbeats 4000000 in
set_option maxRecDepth 100000 in
theorem c_L_own (l : Launch) (hl9 : l.stackTraces = false) (D : va_G) (cI cZ : ClassId) (ty : kz_Y) (ad : Nat → Nat) (rs : va_W) (sz : Nat) (it o n g v r : Int32) (nx mt fl pr ofs ak hd an : Nat → Int32) (p0 : Int32) (p1 : Int32) (hit : vp_in it 7) : ez_M l yL_own wsL_own ({ frames := 8, cells := 1, slots := 6, locals := 132 } : Room) (kz_P D ((cI, .int) :: (cZ, .boolean) :: ty) (wX ad cI cZ it o n g v r nx mt fl pr ofs ak hd an ++ rs) sz [.ref (ad 0), .int p0, .int p1]) (kz_Wr D (va_A (wX ad cI cZ it o n g v r nx mt fl pr ofs ak hd an ++ rs) sz) (kz_i (fun r9 => r9 = (nI (tc_own p0 p1)))) (wX ad cI cZ it o n g v r nx (if tc_own p0 p1 = 0 then upd mt it.toNatClampNeg p0 else mt) fl pr ofs (if tc_own p0 p1 = 0 then upd ak it.toNatClampNeg r else ak) (if tc_own p0 p1 = 0 then upd hd it.toNatClampNeg p1 else hd) an ++ rs)) (kz_T (fun _ => IAE) (fun _ => False)) 1 6 (va_A (wX ad cI cZ it o n g v r nx mt fl pr ofs ak hd an ++ rs) sz) := by
  refine ez_ofWT (cc := cL_own) (maxL := 4) (ret := (some .int)) (by decide) rfl ?_
  intro p e s m args below meth c s₁ B hml hTab hv
  obtain ⟨rfl, hsz, hP, hK, hD0, hE⟩ := hv
  have hx := B.exec
  have hb := B.bytes
  have hr := B.returns
  have hw9 : ∀ w ∈ kz_W9, w.before ([.ref (ad 0), .int p0, .int p1] : List Value).toArray s = true := fun w h => atoms_spec (ws := wsL_own) B.pre w (List.mem_cons_of_mem _ h)
  have hown : s.vm.findClass RL = some m.cls := findClass_of_methodNamed B.named
  have hlocks := B.notSynchronized
  subst hsz
  have hD := hD0.self (sz := s.heap.size)
  generalize hAe : va_A (wX ad cI cZ it o n g v r nx mt fl pr ofs ak hd an ++ rs) s.heap.size = A at hD hE ⊢
  have hA : ∀ q : Nat, s.heap.size ≤ q → A q := fun q h => by rw [← hAe]; exact Or.inr h
  have hS : va_S A s.heap s.heap [] := va_S.rf
  have hO : kz_O s.heap s.heap := kz_O.rf _
  have hl := lv_entry ([.ref (ad 0), .int p0, .int p1]) (n := 4) (Nat.le_of_ble_eq_true rfl)
  rw [lg_entry_eq]
  generalize (lg_sl ([.ref (ad 0), .int p0, .int p1]) ++ List.replicate (4 - (lg_sl ([.ref (ad 0), .int p0, .int p1])).length) Slot.unset).toArray = ls at hl ⊢
  have hl : lv_has ls 4 [(0, .ref (ad 0)), (1, .int p0), (2, .int p1)] := hl
  refine lv_aload_n hx hb dL_own_0 rfl (lv_at hl 0 rfl) ?_
  refine lv_iload_n hx hb dL_own_1 rfl (lv_at hl 1 rfl) ?_
  refine lv_iload_n hx hb dL_own_2 rfl (lv_at hl 2 rfl) ?_
  refine kz_wV (As := [.int p0, .int p1]) (rest := []) ⟨hx, hb, hml, hown, hw9⟩ (c_X0_own l hl9 D cI cZ ty ad rs s.heap.size it o n g v r nx mt fl pr ofs ak hd an p0 p1 hit) (kz_cV 2 hw9 mw_330 mw_331 mw_332 mw_1 mw_333 rfl rfl (by decide +kernel) ⟨Nat.le_of_ble_eq_true rfl, Nat.le_of_ble_eq_true rfl⟩) (kz_preV (q0 := 0) (ci := 0) hK hP hD hS hA hE rfl rfl) rfl hl.1 rfl (Nat.le_of_ble_eq_true rfl) dL_own_3 ⟨Nat.le_of_ble_eq_true rfl, Nat.le_of_ble_eq_true rfl⟩ hD hS hA (fun locs hf1 k ce q9 H hk hO1 hce hcv hcl => ?_) (fun v9 H locs hv9 hP hD hS => ?_)
  · -- thrown
    have hP := hO1.P hP
    have hS : va_S A s.heap H locs := ⟨(hO1.S hS).1, (hO1.S hS).2.1, hf1⟩
    obtain ⟨rfl, htc⟩ := sm_k1 hk (tc_own_le)
    refine ez_catch (own := RL) (nm := IAE) (E := IAE) hown [] ⟨0, 6, 9, 13⟩ [] (by rw [hTab]; rfl) (fun z hz => nomatch hz) (by decide) (by decide) (hw9 _ mw_93) (va_Nw.use rfl (hE.2.2.2.1 (IAE, IAE) (by decide +kernel))) hce hcv hcl ?_
    refine lv_astore_n (lv' := [(3, .ref q9), (0, .ref (ad 0)), (1, .int p0), (2, .int p1)]) hx hb dL_own_9 rfl hl (by decide) rfl (fun ls hl => ?_)
    refine lv_iconst (v := 1) hx hb dL_own_10 (by decide) ?_
    exact kz_wreti hx hb hr hlocks (by rw [htc]; exact hP) (by rw [htc]; exact hD) hS (Nat.le_of_ble_eq_true rfl) (Nat.le_of_ble_eq_true rfl) (by rw [htc]; rfl)  dL_own_11
  · -- goes on
    obtain ⟨rfl, hv_1⟩ := hv9
    have hP : va_P D vwCl (wX ad cI cZ it o n g v r nx (upd mt it.toNatClampNeg p0) fl pr ofs (upd ak it.toNatClampNeg r) (upd hd it.toNatClampNeg p1) an ++ rs) H := hP
    have hD : va_D A (wX ad cI cZ it o n g v r nx (upd mt it.toNatClampNeg p0) fl pr ofs (upd ak it.toNatClampNeg r) (upd hd it.toNatClampNeg p1) an ++ rs) := hD
    refine W.eq (g2 := F0 m 6 ls []) rfl ?_
    refine lv_goto (tgt := 12) hx hb dL_own_6 (by decide) ?_
    refine lv_iconst (v := 0) hx hb dL_own_12 (by decide) ?_
    have htc := hv_1
    exact kz_wreti hx hb hr hlocks (by rw [htc]; exact hP) (by rw [htc]; exact hD) hS (Nat.le_of_ble_eq_true rfl) (Nat.le_of_ble_eq_true rfl) (by rw [htc]; rfl)  dL_own_13
set_option maxHeartbeats 4000000 in
set_option maxRecDepth 100000 in
theorem c_L_agreed (l : Launch) (hl9 : l.stackTraces = false) (D : va_G) (cI cZ : ClassId) (ty : kz_Y) (ad : Nat → Nat) (rs : va_W) (sz : Nat) (it o n g v r : Int32) (nx mt fl pr ofs ak hd an : Nat → Int32) (cL : ClassId) (qo : Nat) (fo : Nat → Int64) (p0 : Int32) : ez_M l yL_agreed wsL_agreed ({ frames := 7, cells := 1, slots := 6, locals := 111 } : Room) (kz_P D ((cI, .int) :: (cZ, .boolean) :: (cL, .long) :: ty) (wX ad cI cZ it o n g v r nx mt fl pr ofs ak hd an ++ ([(qo, .inl (cL, 1, .inr (.inl fo)))] ++ rs)) sz [.ref (ad 0), .int p0, .ref qo]) (kz_Wr D (va_A (wX ad cI cZ it o n g v r nx mt fl pr ofs ak hd an ++ ([(qo, .inl (cL, 1, .inr (.inl fo)))] ++ rs)) sz) (kz_i (fun r9 => r9 = (nI (tc_agreed p0)))) (wX ad cI cZ it o n g v r nx mt fl pr ofs ak hd an ++ ([(qo, .inl (cL, 1, .inr (.inl (if tc_agreed p0 = 0 then vp_updL fo 0 (if p0 = 0 then sq_A o n mt 7 else if p0 = 1 then sq_A o n ak 7 else sq_A o n hd 7).toInt64 else fo))))] ++ rs))) (kz_T (fun _ => IAE) (fun _ => False)) 1 6 (va_A (wX ad cI cZ it o n g v r nx mt fl pr ofs ak hd an ++ ([(qo, .inl (cL, 1, .inr (.inl fo)))] ++ rs)) sz) := by
  refine ez_ofWT (cc := cL_agreed) (maxL := 4) (ret := (some .int)) (by decide) rfl ?_
  intro p e s m args below meth c s₁ B hml hTab hv
  obtain ⟨rfl, hsz, hP, hK, hD0, hE⟩ := hv
  have hx := B.exec
  have hb := B.bytes
  have hr := B.returns
  have hw9 : ∀ w ∈ kz_W9, w.before ([.ref (ad 0), .int p0, .ref qo] : List Value).toArray s = true := fun w h => atoms_spec (ws := wsL_agreed) B.pre w (List.mem_cons_of_mem _ h)
  have hown : s.vm.findClass RL = some m.cls := findClass_of_methodNamed B.named
  have hlocks := B.notSynchronized
  subst hsz
  have hD := hD0.self (sz := s.heap.size)
  generalize hAe : va_A (wX ad cI cZ it o n g v r nx mt fl pr ofs ak hd an ++ ([(qo, .inl (cL, 1, .inr (.inl fo)))] ++ rs)) s.heap.size = A at hD hE ⊢
  have hA : ∀ q : Nat, s.heap.size ≤ q → A q := fun q h => by rw [← hAe]; exact Or.inr h
  have hS : va_S A s.heap s.heap [] := va_S.rf
  have hO : kz_O s.heap s.heap := kz_O.rf _
  have hl := lv_entry ([.ref (ad 0), .int p0, .ref qo]) (n := 4) (Nat.le_of_ble_eq_true rfl)
  rw [lg_entry_eq]
  generalize (lg_sl ([.ref (ad 0), .int p0, .ref qo]) ++ List.replicate (4 - (lg_sl ([.ref (ad 0), .int p0, .ref qo])).length) Slot.unset).toArray = ls at hl ⊢
  have hl : lv_has ls 4 [(0, .ref (ad 0)), (1, .int p0), (2, .ref qo)] := hl
  refine lv_aload_n hx hb dL_agreed_0 rfl (lv_at hl 2 rfl) ?_
  refine lv_iconst (v := 0) hx hb dL_agreed_1 (by decide) ?_
  refine lv_aload_n hx hb dL_agreed_2 rfl (lv_at hl 0 rfl) ?_
  refine lv_iload_n hx hb dL_agreed_3 rfl (lv_at hl 1 rfl) ?_
  refine kz_rV (As := [.int p0]) (rest := [.int 0, .ref qo]) ⟨hx, hb, hml, hown, hw9⟩ (c_X0_agreed l hl9 D cI cZ ((cL, .long) :: ty) ad ([(qo, .inl (cL, 1, .inr (.inl fo)))] ++ rs) s.heap.size it o n g v r nx mt fl pr ofs ak hd an p0) (kz_cV 1 hw9 mw_337 mw_338 mw_339 mw_1 mw_340 rfl rfl (by decide +kernel) ⟨Nat.le_of_ble_eq_true rfl, Nat.le_of_ble_eq_true rfl⟩) (kz_preV (q0 := 0) (ci := 0) hK hP hD hS hA hE rfl rfl) rfl hl.1 rfl (Nat.le_of_ble_eq_true rfl) dL_agreed_4 ⟨Nat.le_of_ble_eq_true rfl, Nat.le_of_ble_eq_true rfl⟩ (fun k ce q9 H hk hO1 hce hcv hcl => ?_) (fun v9 H hv9 hO1 => ?_)
  · -- thrown
    have hP := hO1.P hP
    have hS := hO1.S hS
    obtain ⟨rfl, htc⟩ := sm_k1 hk (tc_agreed_le)
    refine ez_catch (own := RL) (nm := IAE) (E := IAE) hown [] ⟨0, 9, 12, 13⟩ [] (by rw [hTab]; rfl) (fun z hz => nomatch hz) (by decide) (by decide) (hw9 _ mw_93) (va_Nw.use rfl (hE.2.2.2.1 (IAE, IAE) (by decide +kernel))) hce hcv hcl ?_
    refine lv_astore_n (lv' := [(3, .ref q9), (0, .ref (ad 0)), (1, .int p0), (2, .ref qo)]) hx hb dL_agreed_12 rfl hl (by decide) rfl (fun ls hl => ?_)
    refine lv_iconst (v := 1) hx hb dL_agreed_13 (by decide) ?_
    exact kz_wreti hx hb hr hlocks (by rw [htc]; exact hP) (by rw [htc]; exact hD) hS (Nat.le_of_ble_eq_true rfl) (Nat.le_of_ble_eq_true rfl) (by rw [htc]; rfl)  dL_agreed_14
  · -- goes on
    obtain ⟨_, rfl, hv_1, rfl⟩ := hv9
    have hP := hO1.P hP
    have hS := hO1.S hS
    have hO := hO.tr hO1
    refine W.eq (g2 := F0 m 7 ls [.int (if p0 = 0 then sq_A o n mt 7 else if p0 = 1 then sq_A o n ak 7 else sq_A o n hd 7), .int 0, .ref qo]) rfl ?_
    refine lv_i2l (v := (if p0 = 0 then sq_A o n mt 7 else if p0 = 1 then sq_A o n ak 7 else sq_A o n hd 7).toInt64) hx hb dL_agreed_7 rfl ?_
    refine va_last hx hb hK hP hD hS 9 2 rfl rfl (vp_in_nI (n := 0) (by decide) (by decide)) dL_agreed_8 (fun H locs hP hD hS => ?_)
    have hP : va_P D vwCl (wX ad cI cZ it o n g v r nx mt fl pr ofs ak hd an ++ ([(qo, .inl (cL, 1, .inr (.inl (vp_updL fo 0 ((if p0 = 0 then sq_A o n mt 7 else if p0 = 1 then sq_A o n ak 7 else sq_A o n hd 7).toInt64)))))] ++ rs)) H := hP
    have hD : va_D A (wX ad cI cZ it o n g v r nx mt fl pr ofs ak hd an ++ ([(qo, .inl (cL, 1, .inr (.inl (vp_updL fo 0 ((if p0 = 0 then sq_A o n mt 7 else if p0 = 1 then sq_A o n ak 7 else sq_A o n hd 7).toInt64)))))] ++ rs)) := hD
    refine lv_goto (tgt := 15) hx hb dL_agreed_9 (by decide) ?_
    refine lv_iconst (v := 0) hx hb dL_agreed_15 (by decide) ?_
    have htc := hv_1
    exact kz_wreti hx hb hr hlocks (by rw [htc]; exact hP) (by rw [htc]; exact hD) hS (Nat.le_of_ble_eq_true rfl) (Nat.le_of_ble_eq_true rfl) (by rw [htc]; rfl)  dL_agreed_16
set_option maxHeartbeats 4000000 in
set_option maxRecDepth 100000 in
theorem c_L_server (l : Launch) (hl9 : l.stackTraces = false) (D : va_G) (cI cZ : ClassId) (ty : kz_Y) (ad : Nat → Nat) (rs : va_W) (sz : Nat) (it o n g v r : Int32) (nx mt fl pr ofs ak hd an : Nat → Int32) (cL : ClassId) (qo : Nat) (fo : Nat → Int64) (p0 : Int32) (p1 : Int32) : ez_M l yL_server wsL_server ({ frames := 8, cells := 1, slots := 6, locals := 132 } : Room) (kz_P D ((cI, .int) :: (cZ, .boolean) :: (cL, .long) :: ty) (wX ad cI cZ it o n g v r nx mt fl pr ofs ak hd an ++ ([(qo, .inl (cL, 1, .inr (.inl fo)))] ++ rs)) sz [.ref (ad 0), .int p0, .int p1, .ref qo]) (kz_Wr D (va_A (wX ad cI cZ it o n g v r nx mt fl pr ofs ak hd an ++ ([(qo, .inl (cL, 1, .inr (.inl fo)))] ++ rs)) sz) (kz_i (fun r9 => r9 = (nI (tc_get p0 p1)))) (wX ad cI cZ it o n g v r nx mt fl pr ofs ak hd an ++ ([(qo, .inl (cL, 1, .inr (.inl (if tc_get p0 p1 = 0 then vp_updL fo 0 (if p1 = 0 then nx p0.toNatClampNeg else if p1 = 1 then mt p0.toNatClampNeg else if p1 = 2 then fl p0.toNatClampNeg else if p1 = 3 then (if pr p0.toNatClampNeg = 0 then 0 else 1) else if p1 = 4 then ofs p0.toNatClampNeg else if p1 = 5 then ak p0.toNatClampNeg else if p1 = 6 then hd p0.toNatClampNeg else (if an p0.toNatClampNeg = 0 then 0 else 1)).toInt64 else fo))))] ++ rs))) (kz_T (fun _ => IAE) (fun _ => False)) 1 6 (va_A (wX ad cI cZ it o n g v r nx mt fl pr ofs ak hd an ++ ([(qo, .inl (cL, 1, .inr (.inl fo)))] ++ rs)) sz) := by
  refine ez_ofWT (cc := cL_server) (maxL := 5) (ret := (some .int)) (by decide) rfl ?_
  intro p e s m args below meth c s₁ B hml hTab hv
  obtain ⟨rfl, hsz, hP, hK, hD0, hE⟩ := hv
  have hx := B.exec
  have hb := B.bytes
  have hr := B.returns
  have hw9 : ∀ w ∈ kz_W9, w.before ([.ref (ad 0), .int p0, .int p1, .ref qo] : List Value).toArray s = true := fun w h => atoms_spec (ws := wsL_server) B.pre w (List.mem_cons_of_mem _ h)
  have hown : s.vm.findClass RL = some m.cls := findClass_of_methodNamed B.named
  have hlocks := B.notSynchronized
  subst hsz
  have hD := hD0.self (sz := s.heap.size)
  generalize hAe : va_A (wX ad cI cZ it o n g v r nx mt fl pr ofs ak hd an ++ ([(qo, .inl (cL, 1, .inr (.inl fo)))] ++ rs)) s.heap.size = A at hD hE ⊢
  have hA : ∀ q : Nat, s.heap.size ≤ q → A q := fun q h => by rw [← hAe]; exact Or.inr h
  have hS : va_S A s.heap s.heap [] := va_S.rf
  have hO : kz_O s.heap s.heap := kz_O.rf _
  have hl := lv_entry ([.ref (ad 0), .int p0, .int p1, .ref qo]) (n := 5) (Nat.le_of_ble_eq_true rfl)
  rw [lg_entry_eq]
  generalize (lg_sl ([.ref (ad 0), .int p0, .int p1, .ref qo]) ++ List.replicate (5 - (lg_sl ([.ref (ad 0), .int p0, .int p1, .ref qo])).length) Slot.unset).toArray = ls at hl ⊢
  have hl : lv_has ls 5 [(0, .ref (ad 0)), (1, .int p0), (2, .int p1), (3, .ref qo)] := hl
  refine lv_aload_n hx hb dL_server_0 rfl (lv_at hl 3 rfl) ?_
  refine lv_iconst (v := 0) hx hb dL_server_1 (by decide) ?_
  refine lv_aload_n hx hb dL_server_2 rfl (lv_at hl 0 rfl) ?_
  refine lv_iload_n hx hb dL_server_3 rfl (lv_at hl 1 rfl) ?_
  refine lv_iload_n hx hb dL_server_4 rfl (lv_at hl 2 rfl) ?_
  refine kz_rV (As := [.int p0, .int p1]) (rest := [.int 0, .ref qo]) ⟨hx, hb, hml, hown, hw9⟩ (c_X0_server l hl9 D cI cZ ((cL, .long) :: ty) ad ([(qo, .inl (cL, 1, .inr (.inl fo)))] ++ rs) s.heap.size it o n g v r nx mt fl pr ofs ak hd an p0 p1) (kz_cV 2 hw9 mw_349 mw_350 mw_351 mw_1 mw_352 rfl rfl (by decide +kernel) ⟨Nat.le_of_ble_eq_true rfl, Nat.le_of_ble_eq_true rfl⟩) (kz_preV (q0 := 0) (ci := 0) hK hP hD hS hA hE rfl rfl) rfl hl.1 rfl (Nat.le_of_ble_eq_true rfl) dL_server_5 ⟨Nat.le_of_ble_eq_true rfl, Nat.le_of_ble_eq_true rfl⟩ (fun k ce q9 H hk hO1 hce hcv hcl => ?_) (fun v9 H hv9 hO1 => ?_)
  · -- thrown
    have hP := hO1.P hP
    have hS := hO1.S hS
    obtain ⟨rfl, htc⟩ := sm_k1 hk (tc_get_le)
    refine ez_catch (own := RL) (nm := IOE) (E := IOE) hown [] ⟨0, 10, 13, 32⟩ [] (by rw [hTab]; rfl) (fun z hz => nomatch hz) (by decide) (by decide) (hw9 _ mw_235) (va_Nw.use rfl (hE.2.2.2.1 (IOE, IOE) (by decide +kernel))) hce hcv hcl ?_
    refine lv_astore (lv' := [(4, .ref q9), (0, .ref (ad 0)), (1, .int p0), (2, .int p1), (3, .ref qo)]) hx hb dL_server_13 hl (by decide) rfl (fun ls hl => ?_)
    refine lv_iconst (v := 1) hx hb dL_server_15 (by decide) ?_
    exact kz_wreti hx hb hr hlocks (by rw [htc]; exact hP) (by rw [htc]; exact hD) hS (Nat.le_of_ble_eq_true rfl) (Nat.le_of_ble_eq_true rfl) (by rw [htc]; rfl)  dL_server_16
  · -- goes on
    obtain ⟨_, rfl, hv_1, rfl⟩ := hv9
    have hP := hO1.P hP
    have hS := hO1.S hS
    have hO := hO.tr hO1
    refine W.eq (g2 := F0 m 8 ls [.int (if p1 = 0 then nx p0.toNatClampNeg else if p1 = 1 then mt p0.toNatClampNeg else if p1 = 2 then fl p0.toNatClampNeg else if p1 = 3 then (if pr p0.toNatClampNeg = 0 then 0 else 1) else if p1 = 4 then ofs p0.toNatClampNeg else if p1 = 5 then ak p0.toNatClampNeg else if p1 = 6 then hd p0.toNatClampNeg else (if an p0.toNatClampNeg = 0 then 0 else 1)), .int 0, .ref qo]) rfl ?_
    refine lv_i2l (v := (if p1 = 0 then nx p0.toNatClampNeg else if p1 = 1 then mt p0.toNatClampNeg else if p1 = 2 then fl p0.toNatClampNeg else if p1 = 3 then (if pr p0.toNatClampNeg = 0 then 0 else 1) else if p1 = 4 then ofs p0.toNatClampNeg else if p1 = 5 then ak p0.toNatClampNeg else if p1 = 6 then hd p0.toNatClampNeg else (if an p0.toNatClampNeg = 0 then 0 else 1)).toInt64) hx hb dL_server_8 rfl ?_
    refine va_last hx hb hK hP hD hS 9 2 rfl rfl (vp_in_nI (n := 0) (by decide) (by decide)) dL_server_9 (fun H locs hP hD hS => ?_)
    have hP : va_P D vwCl (wX ad cI cZ it o n g v r nx mt fl pr ofs ak hd an ++ ([(qo, .inl (cL, 1, .inr (.inl (vp_updL fo 0 ((if p1 = 0 then nx p0.toNatClampNeg else if p1 = 1 then mt p0.toNatClampNeg else if p1 = 2 then fl p0.toNatClampNeg else if p1 = 3 then (if pr p0.toNatClampNeg = 0 then 0 else 1) else if p1 = 4 then ofs p0.toNatClampNeg else if p1 = 5 then ak p0.toNatClampNeg else if p1 = 6 then hd p0.toNatClampNeg else (if an p0.toNatClampNeg = 0 then 0 else 1)).toInt64)))))] ++ rs)) H := hP
    have hD : va_D A (wX ad cI cZ it o n g v r nx mt fl pr ofs ak hd an ++ ([(qo, .inl (cL, 1, .inr (.inl (vp_updL fo 0 ((if p1 = 0 then nx p0.toNatClampNeg else if p1 = 1 then mt p0.toNatClampNeg else if p1 = 2 then fl p0.toNatClampNeg else if p1 = 3 then (if pr p0.toNatClampNeg = 0 then 0 else 1) else if p1 = 4 then ofs p0.toNatClampNeg else if p1 = 5 then ak p0.toNatClampNeg else if p1 = 6 then hd p0.toNatClampNeg else (if an p0.toNatClampNeg = 0 then 0 else 1)).toInt64)))))] ++ rs)) := hD
    refine lv_goto (tgt := 17) hx hb dL_server_10 (by decide) ?_
    refine lv_iconst (v := 0) hx hb dL_server_17 (by decide) ?_
    have htc := hv_1
    exact kz_wreti hx hb hr hlocks (by rw [htc]; exact hP) (by rw [htc]; exact hD) hS (Nat.le_of_ble_eq_true rfl) (Nat.le_of_ble_eq_true rfl) (by rw [htc]; rfl)  dL_server_18
