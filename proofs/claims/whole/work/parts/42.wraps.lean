set_option maxHeartbeats 4000000 in
set_option maxRecDepth 100000 in
theorem c_L_members (l : Launch) (hl9 : l.stackTraces = false) (D : va_G) (cI cZ : ClassId) (ty : kz_Y) (ad : Nat → Nat) (rs : va_W) (sz : Nat) (it o n g v r : Int32) (nx mt fl pr ofs ak hd an : Nat → Int32) (p0 : Int32) (p1 : Int32) (p2 : Int32) : ez_M l yL_members wsL_members ({ frames := 8, cells := 1, slots := 6, locals := 133 } : Room) (kz_P D ((cI, .int) :: (cZ, .boolean) :: ty) (wX ad cI cZ it o n g v r nx mt fl pr ofs ak hd an ++ rs) sz [.ref (ad 0), .int p0, .int p1, .int p2]) (kz_Wr D (va_A (wX ad cI cZ it o n g v r nx mt fl pr ofs ak hd an ++ rs) sz) (kz_i (fun r9 => r9 = (nI (tc_members p0 p1 p2)))) (wX ad cI cZ it (if tc_members p0 p1 p2 = 0 then p0 else o) (if tc_members p0 p1 p2 = 0 then p1 else n) (if tc_members p0 p1 p2 = 0 then p2 else g) v r nx mt fl pr ofs ak hd an ++ rs)) (kz_T (fun _ => IAE) (fun _ => False)) 1 6 (va_A (wX ad cI cZ it o n g v r nx mt fl pr ofs ak hd an ++ rs) sz) := by
  refine ez_ofWT (cc := cL_members) (maxL := 5) (ret := (some .int)) (by decide) rfl ?_
  intro p e s m args below meth c s₁ B hml hTab hv
  obtain ⟨rfl, hsz, hP, hK, hD0, hE⟩ := hv
  have hx := B.exec
  have hb := B.bytes
  have hr := B.returns
  have hw9 : ∀ w ∈ kz_W9, w.before ([.ref (ad 0), .int p0, .int p1, .int p2] : List Value).toArray s = true := fun w h => atoms_spec (ws := wsL_members) B.pre w (List.mem_cons_of_mem _ h)
  have hown : s.vm.findClass RL = some m.cls := findClass_of_methodNamed B.named
  have hlocks := B.notSynchronized
  subst hsz
  have hD := hD0.self (sz := s.heap.size)
  generalize hAe : va_A (wX ad cI cZ it o n g v r nx mt fl pr ofs ak hd an ++ rs) s.heap.size = A at hD hE ⊢
  have hA : ∀ q : Nat, s.heap.size ≤ q → A q := fun q h => by rw [← hAe]; exact Or.inr h
  have hS : va_S A s.heap s.heap [] := va_S.rf
  have hO : kz_O s.heap s.heap := kz_O.rf _
  have hl := lv_entry ([.ref (ad 0), .int p0, .int p1, .int p2]) (n := 5) (Nat.le_of_ble_eq_true rfl)
  rw [lg_entry_eq]
  generalize (lg_sl ([.ref (ad 0), .int p0, .int p1, .int p2]) ++ List.replicate (5 - (lg_sl ([.ref (ad 0), .int p0, .int p1, .int p2])).length) Slot.unset).toArray = ls at hl ⊢
  have hl : lv_has ls 5 [(0, .ref (ad 0)), (1, .int p0), (2, .int p1), (3, .int p2)] := hl
  refine lv_aload_n hx hb dL_members_0 rfl (lv_at hl 0 rfl) ?_
  refine lv_iload_n hx hb dL_members_1 rfl (lv_at hl 1 rfl) ?_
  refine lv_iload_n hx hb dL_members_2 rfl (lv_at hl 2 rfl) ?_
  refine lv_iload_n hx hb dL_members_3 rfl (lv_at hl 3 rfl) ?_
  refine kz_wV (As := [.int p0, .int p1, .int p2]) (rest := []) ⟨hx, hb, hml, hown, hw9⟩ (c_X0_members l hl9 D cI cZ ty ad rs s.heap.size it o n g v r nx mt fl pr ofs ak hd an p0 p1 p2) (kz_cV 3 hw9 mw_94 mw_95 mw_96 mw_1 mw_97 rfl rfl (by decide +kernel) ⟨Nat.le_of_ble_eq_true rfl, Nat.le_of_ble_eq_true rfl⟩) (kz_preV (q0 := 0) (ci := 0) hK hP hD hS hA hE rfl rfl) rfl hl.1 rfl (Nat.le_of_ble_eq_true rfl) dL_members_4 ⟨Nat.le_of_ble_eq_true rfl, Nat.le_of_ble_eq_true rfl⟩ hD hS hA (fun locs hf1 k ce q9 H hk hO1 hce hcv hcl => ?_) (fun v9 H locs hv9 hP hD hS => ?_)
  · -- thrown
    have hP := hO1.P hP
    have hS : va_S A s.heap H locs := ⟨(hO1.S hS).1, (hO1.S hS).2.1, hf1⟩
    obtain ⟨rfl, htc⟩ := sm_k1 hk (tc_members_le)
    refine ez_catch (own := RL) (nm := IAE) (E := IAE) hown [] ⟨0, 7, 10, 13⟩ [] (by rw [hTab]; rfl) (fun z hz => nomatch hz) (by decide) (by decide) (hw9 _ mw_93) (va_Nw.use rfl (hE.2.2.2.1 (IAE, IAE) (by decide +kernel))) hce hcv hcl ?_
    refine lv_astore (lv' := [(4, .ref q9), (0, .ref (ad 0)), (1, .int p0), (2, .int p1), (3, .int p2)]) hx hb dL_members_10 hl (by decide) rfl (fun ls hl => ?_)
    refine lv_iconst (v := 1) hx hb dL_members_12 (by decide) ?_
    exact kz_wreti hx hb hr hlocks (by rw [htc]; exact hP) (by rw [htc]; exact hD) hS (Nat.le_of_ble_eq_true rfl) (Nat.le_of_ble_eq_true rfl) (by rw [htc]; rfl)  dL_members_13
  · -- goes on
    obtain ⟨rfl, hv_1⟩ := hv9
    have hP : va_P D vwCl (wX ad cI cZ it p0 p1 p2 v r nx mt fl pr ofs ak hd an ++ rs) H := hP
    have hD : va_D A (wX ad cI cZ it p0 p1 p2 v r nx mt fl pr ofs ak hd an ++ rs) := hD
    refine W.eq (g2 := F0 m 7 ls []) rfl ?_
    refine lv_goto (tgt := 14) hx hb dL_members_7 (by decide) ?_
    refine lv_iconst (v := 0) hx hb dL_members_14 (by decide) ?_
    have htc := hv_1
    exact kz_wreti hx hb hr hlocks (by rw [htc]; exact hP) (by rw [htc]; exact hD) hS (Nat.le_of_ble_eq_true rfl) (Nat.le_of_ble_eq_true rfl) (by rw [htc]; rfl)  dL_members_15
set_option maxHeartbeats 4000000 in
set_option maxRecDepth 100000 in
theorem c_L_change (l : Launch) (hl9 : l.stackTraces = false) (D : va_G) (cI cZ : ClassId) (ty : kz_Y) (ad : Nat → Nat) (rs : va_W) (sz : Nat) (it o n g v r : Int32) (nx mt fl pr ofs ak hd an : Nat → Int32) (p0 : Int32) (p1 : Int32) : ez_M l yL_change wsL_change ({ frames := 8, cells := 1, slots := 6, locals := 132 } : Room) (kz_P D ((cI, .int) :: (cZ, .boolean) :: ty) (wX ad cI cZ it o n g v r nx mt fl pr ofs ak hd an ++ rs) sz [.ref (ad 0), .int p0, .int p1]) (kz_Wr D (va_A (wX ad cI cZ it o n g v r nx mt fl pr ofs ak hd an ++ rs) sz) (kz_i (fun r9 => r9 = (nI (tc_change o n g mt p0 p1)))) (wX ad cI cZ it o (if tc_change o n g mt p0 p1 = 0 then p0 else n) (if tc_change o n g mt p0 p1 = 0 then g &&& (p0 ^^^ (-1)) else g) v r nx mt fl pr ofs ak hd an ++ rs)) (kz_T (fun _ => IAE) (fun _ => False)) 1 6 (va_A (wX ad cI cZ it o n g v r nx mt fl pr ofs ak hd an ++ rs) sz) := by
  refine ez_ofWT (cc := cL_change) (maxL := 4) (ret := (some .int)) (by decide) rfl ?_
  intro p e s m args below meth c s₁ B hml hTab hv
  obtain ⟨rfl, hsz, hP, hK, hD0, hE⟩ := hv
  have hx := B.exec
  have hb := B.bytes
  have hr := B.returns
  have hw9 : ∀ w ∈ kz_W9, w.before ([.ref (ad 0), .int p0, .int p1] : List Value).toArray s = true := fun w h => atoms_spec (ws := wsL_change) B.pre w (List.mem_cons_of_mem _ h)
  have hown : s.vm.findClass RL = some m.cls := findClass_of_methodNamed B.named
  have hlocks := B.notSynchronized
  subst hsz
  have hD := hD0.self (sz := s.heap.size)
  generalize hAe : va_A (wX ad cI cZ it o n g v r nx mt fl pr ofs ak hd an ++ rs) s.heap.size = A at hD hE ⊢
  have hA : ∀ q : Nat, s.heap.size ≤ q → A q := fun q h => by rw [← hAe]; exact Or.inr h
  have hS : va_S A s.heap s.heap [] := va_S.rf
  have hO : kz_O s.heap s.heap := kz_O.rf _
  have hl := lv_entry ([.ref (ad 0), .int p0, .int p1]) (n := 4) (Nat.le_of_ble_eq_true rfl)
  rw [lg_entry_eq]
  generalize (lg_sl ([.ref (ad 0), .int p0, .int p1]) ++ List.replicate (4 - (lg_sl ([.ref (ad 0), .int p0, .int p1])).length) Slot.unset).toArray = ls at hl ⊢
  have hl : lv_has ls 4 [(0, .ref (ad 0)), (1, .int p0), (2, .int p1)] := hl
  refine lv_aload_n hx hb dL_change_0 rfl (lv_at hl 0 rfl) ?_
  refine lv_iload_n hx hb dL_change_1 rfl (lv_at hl 1 rfl) ?_
  refine lv_iload_n hx hb dL_change_2 rfl (lv_at hl 2 rfl) ?_
  refine kz_wV (As := [.int p0, .int p1]) (rest := []) ⟨hx, hb, hml, hown, hw9⟩ (c_X0_change l hl9 D cI cZ ty ad rs s.heap.size it o n g v r nx mt fl pr ofs ak hd an p0 p1) (kz_cV 2 hw9 mw_175 mw_176 mw_177 mw_1 mw_178 rfl rfl (by decide +kernel) ⟨Nat.le_of_ble_eq_true rfl, Nat.le_of_ble_eq_true rfl⟩) (kz_preV (q0 := 0) (ci := 0) hK hP hD hS hA hE rfl rfl) rfl hl.1 rfl (Nat.le_of_ble_eq_true rfl) dL_change_3 ⟨Nat.le_of_ble_eq_true rfl, Nat.le_of_ble_eq_true rfl⟩ hD hS hA (fun locs hf1 k ce q9 H hk hO1 hce hcv hcl => ?_) (fun v9 H locs hv9 hP hD hS => ?_)
  · -- thrown
    have hP := hO1.P hP
    have hS : va_S A s.heap H locs := ⟨(hO1.S hS).1, (hO1.S hS).2.1, hf1⟩
    rcases sm_k2 hk (tc_change_le) with ⟨rfl, htc⟩ | ⟨rfl, htc⟩
    · -- 1
      refine ez_catch (own := RL) (nm := IAE) (E := IAE) hown [] ⟨0, 6, 9, 13⟩ [⟨0, 6, 12, 19⟩] (by rw [hTab]; rfl) (fun z hz => nomatch hz) (by decide) (by decide) (hw9 _ mw_93) (va_Nw.use rfl (hE.2.2.2.1 (IAE, IAE) (by decide +kernel))) hce hcv hcl ?_
      refine lv_astore_n (lv' := [(3, .ref q9), (0, .ref (ad 0)), (1, .int p0), (2, .int p1)]) hx hb dL_change_9 rfl hl (by decide) rfl (fun ls hl => ?_)
      refine lv_iconst (v := 1) hx hb dL_change_10 (by decide) ?_
      exact kz_wreti hx hb hr hlocks (by rw [htc]; exact hP) (by rw [htc]; exact hD) hS (Nat.le_of_ble_eq_true rfl) (Nat.le_of_ble_eq_true rfl) (by rw [htc]; rfl)  dL_change_11
    · -- 2
      refine ez_catch (own := RL) (nm := ISE) (E := ISE) hown [⟨0, 6, 9, 13⟩] ⟨0, 6, 12, 19⟩ [] (by rw [hTab]; rfl) (fun z hz => by rcases List.mem_cons.mp hz with rfl | hz; exact ⟨by decide, by decide, IAE, hw9 _ mw_93, hE.2.2.2.2.2 (ISE, IAE) (by decide +kernel)⟩; cases hz) (by decide) (by decide) (hw9 _ mw_174) (va_Nw.use rfl (hE.2.2.2.1 (ISE, ISE) (by decide +kernel))) hce hcv hcl ?_
      refine lv_astore_n (lv' := [(3, .ref q9), (0, .ref (ad 0)), (1, .int p0), (2, .int p1)]) hx hb dL_change_12 rfl hl (by decide) rfl (fun ls hl => ?_)
      refine lv_iconst (v := 2) hx hb dL_change_13 (by decide) ?_
      exact kz_wreti hx hb hr hlocks (by rw [htc]; exact hP) (by rw [htc]; exact hD) hS (Nat.le_of_ble_eq_true rfl) (Nat.le_of_ble_eq_true rfl) (by rw [htc]; rfl)  dL_change_14
  · -- goes on
    obtain ⟨rfl, hv_1⟩ := hv9
    have hP : va_P D vwCl (wX ad cI cZ it o p0 (g &&& (p0 ^^^ (-1))) v r nx mt fl pr ofs ak hd an ++ rs) H := hP
    have hD : va_D A (wX ad cI cZ it o p0 (g &&& (p0 ^^^ (-1))) v r nx mt fl pr ofs ak hd an ++ rs) := hD
    refine W.eq (g2 := F0 m 6 ls []) rfl ?_
    refine lv_goto (tgt := 15) hx hb dL_change_6 (by decide) ?_
    refine lv_iconst (v := 0) hx hb dL_change_15 (by decide) ?_
    have htc := hv_1
    exact kz_wreti hx hb hr hlocks (by rw [htc]; exact hP) (by rw [htc]; exact hD) hS (Nat.le_of_ble_eq_true rfl) (Nat.le_of_ble_eq_true rfl) (by rw [htc]; rfl)  dL_change_16
set_option maxHeartbeats 4000000 in
set_option maxRecDepth 100000 in
theorem c_L_settle (l : Launch) (hl9 : l.stackTraces = false) (D : va_G) (cI cZ : ClassId) (ty : kz_Y) (ad : Nat → Nat) (rs : va_W) (sz : Nat) (it o n g v r : Int32) (nx mt fl pr ofs ak hd an : Nat → Int32) (cL : ClassId) (qo : Nat) (fo : Nat → Int64) : ez_M l yL_settle wsL_settle ({ frames := 7, cells := 1, slots := 6, locals := 110 } : Room) (kz_P D ((cI, .int) :: (cZ, .boolean) :: (cL, .long) :: ty) (wX ad cI cZ it o n g v r nx mt fl pr ofs ak hd an ++ ([(qo, .inl (cL, 1, .inr (.inl fo)))] ++ rs)) sz [.ref (ad 0), .ref qo]) (kz_Wr D (va_A (wX ad cI cZ it o n g v r nx mt fl pr ofs ak hd an ++ ([(qo, .inl (cL, 1, .inr (.inl fo)))] ++ rs)) sz) (kz_i (fun r9 => r9 = (nI (tc_settle n)))) (wX ad cI cZ it (if tc_settle n = 0 then n else o) (if tc_settle n = 0 then 0 else n) g v r nx mt fl pr ofs ak hd an ++ ([(qo, .inl (cL, 1, .inr (.inl (if tc_settle n = 0 then vp_updL fo 0 (sq_z (sq_I n it)).toInt64 else fo))))] ++ rs))) (kz_T (fun _ => IAE) (fun _ => False)) 1 6 (va_A (wX ad cI cZ it o n g v r nx mt fl pr ofs ak hd an ++ ([(qo, .inl (cL, 1, .inr (.inl fo)))] ++ rs)) sz) := by
  refine ez_ofWT (cc := cL_settle) (maxL := 3) (ret := (some .int)) (by decide) rfl ?_
  intro p e s m args below meth c s₁ B hml hTab hv
  obtain ⟨rfl, hsz, hP, hK, hD0, hE⟩ := hv
  have hx := B.exec
  have hb := B.bytes
  have hr := B.returns
  have hw9 : ∀ w ∈ kz_W9, w.before ([.ref (ad 0), .ref qo] : List Value).toArray s = true := fun w h => atoms_spec (ws := wsL_settle) B.pre w (List.mem_cons_of_mem _ h)
  have hown : s.vm.findClass RL = some m.cls := findClass_of_methodNamed B.named
  have hlocks := B.notSynchronized
  subst hsz
  have hD := hD0.self (sz := s.heap.size)
  generalize hAe : va_A (wX ad cI cZ it o n g v r nx mt fl pr ofs ak hd an ++ ([(qo, .inl (cL, 1, .inr (.inl fo)))] ++ rs)) s.heap.size = A at hD hE ⊢
  have hA : ∀ q : Nat, s.heap.size ≤ q → A q := fun q h => by rw [← hAe]; exact Or.inr h
  have hS : va_S A s.heap s.heap [] := va_S.rf
  have hO : kz_O s.heap s.heap := kz_O.rf _
  have hl := lv_entry ([.ref (ad 0), .ref qo]) (n := 3) (Nat.le_of_ble_eq_true rfl)
  rw [lg_entry_eq]
  generalize (lg_sl ([.ref (ad 0), .ref qo]) ++ List.replicate (3 - (lg_sl ([.ref (ad 0), .ref qo])).length) Slot.unset).toArray = ls at hl ⊢
  have hl : lv_has ls 3 [(0, .ref (ad 0)), (1, .ref qo)] := hl
  refine lv_aload_n hx hb dL_settle_0 rfl (lv_at hl 1 rfl) ?_
  refine lv_iconst (v := 0) hx hb dL_settle_1 (by decide) ?_
  refine lv_aload_n hx hb dL_settle_2 rfl (lv_at hl 0 rfl) ?_
  refine kz_wV (As := []) (rest := [.int 0, .ref qo]) ⟨hx, hb, hml, hown, hw9⟩ (c_X0_settle l hl9 D cI cZ ((cL, .long) :: ty) ad ([(qo, .inl (cL, 1, .inr (.inl fo)))] ++ rs) s.heap.size it o n g v r nx mt fl pr ofs ak hd an) (kz_cV 0 hw9 mw_207 mw_208 mw_209 mw_1 mw_210 rfl rfl (by decide +kernel) ⟨Nat.le_of_ble_eq_true rfl, Nat.le_of_ble_eq_true rfl⟩) (kz_preV (q0 := 0) (ci := 0) hK hP hD hS hA hE rfl rfl) rfl hl.1 rfl (Nat.le_of_ble_eq_true rfl) dL_settle_3 ⟨Nat.le_of_ble_eq_true rfl, Nat.le_of_ble_eq_true rfl⟩ hD hS hA (fun locs hf1 k ce q9 H hk hO1 hce hcv hcl => ?_) (fun v9 H locs hv9 hP hD hS => ?_)
  · -- thrown
    have hP := hO1.P hP
    have hS : va_S A s.heap H locs := ⟨(hO1.S hS).1, (hO1.S hS).2.1, hf1⟩
    obtain ⟨rfl, htc⟩ := sm_k1 hk (tc_settle_le)
    refine ez_catch (own := RL) (nm := ISE) (E := ISE) hown [] ⟨0, 15, 18, 19⟩ [] (by rw [hTab]; rfl) (fun z hz => nomatch hz) (by decide) (by decide) (hw9 _ mw_174) (va_Nw.use rfl (hE.2.2.2.1 (ISE, ISE) (by decide +kernel))) hce hcv hcl ?_
    refine lv_astore_n (lv' := [(2, .ref q9), (0, .ref (ad 0)), (1, .ref qo)]) hx hb dL_settle_18 rfl hl (by decide) rfl (fun ls hl => ?_)
    refine lv_iconst (v := 1) hx hb dL_settle_19 (by decide) ?_
    exact kz_wreti hx hb hr hlocks (by rw [htc]; exact hP) (by rw [htc]; exact hD) hS (Nat.le_of_ble_eq_true rfl) (Nat.le_of_ble_eq_true rfl) (by rw [htc]; rfl)  dL_settle_20
  · -- goes on
    obtain ⟨_, rfl, hv_1, rfl⟩ := hv9
    have hP : va_P D vwCl (wX ad cI cZ it n 0 g v r nx mt fl pr ofs ak hd an ++ ([(qo, .inl (cL, 1, .inr (.inl fo)))] ++ rs)) H := hP
    have hD : va_D A (wX ad cI cZ it n 0 g v r nx mt fl pr ofs ak hd an ++ ([(qo, .inl (cL, 1, .inr (.inl fo)))] ++ rs)) := hD
    refine W.eq (g2 := F0 m 6 ls [.int (sq_z (sq_I n it)), .int 0, .ref qo]) rfl ?_
    refine lv_if_eq (tgt := 13) hx hb dL_settle_6 (by decide) (fun c_2 => ?_) (fun c_2 => ?_)
    · -- 6 -> 13
      refine lv_lconst (v := 0) hx hb dL_settle_13 (by decide) ?_
      refine va_last hx hb hK hP hD hS 9 2 rfl rfl (vp_in_nI (n := 0) (by decide) (by decide)) dL_settle_14 (fun H locs hP hD hS => ?_)
      have hP : va_P D vwCl (wX ad cI cZ it n 0 g v r nx mt fl pr ofs ak hd an ++ ([(qo, .inl (cL, 1, .inr (.inl (vp_updL fo 0 0))))] ++ rs)) H := hP
      have hD : va_D A (wX ad cI cZ it n 0 g v r nx mt fl pr ofs ak hd an ++ ([(qo, .inl (cL, 1, .inr (.inl (vp_updL fo 0 0))))] ++ rs)) := hD
      refine lv_goto (tgt := 21) hx hb dL_settle_15 (by decide) ?_
      refine lv_iconst (v := 0) hx hb dL_settle_21 (by decide) ?_
      have htc := hv_1
      exact kz_wreti hx hb hr hlocks (by rw [htc, show (sq_I n it) = false from sq_z_f c_2]; exact hP) (by rw [htc, show (sq_I n it) = false from sq_z_f c_2]; exact hD) hS (Nat.le_of_ble_eq_true rfl) (Nat.le_of_ble_eq_true rfl) (by rw [htc]; rfl)  dL_settle_22
    · -- 6 -> 9
      refine lv_lconst (v := 1) hx hb dL_settle_9 (by decide) ?_
      refine lv_goto (tgt := 14) hx hb dL_settle_10 (by decide) ?_
      refine va_last hx hb hK hP hD hS 9 2 rfl rfl (vp_in_nI (n := 0) (by decide) (by decide)) dL_settle_14 (fun H locs hP hD hS => ?_)
      have hP : va_P D vwCl (wX ad cI cZ it n 0 g v r nx mt fl pr ofs ak hd an ++ ([(qo, .inl (cL, 1, .inr (.inl (vp_updL fo 0 1))))] ++ rs)) H := hP
      have hD : va_D A (wX ad cI cZ it n 0 g v r nx mt fl pr ofs ak hd an ++ ([(qo, .inl (cL, 1, .inr (.inl (vp_updL fo 0 1))))] ++ rs)) := hD
      refine lv_goto (tgt := 21) hx hb dL_settle_15 (by decide) ?_
      refine lv_iconst (v := 0) hx hb dL_settle_21 (by decide) ?_
      have htc := hv_1
      exact kz_wreti hx hb hr hlocks (by rw [htc, show (sq_I n it) = true from sq_z_t c_2]; exact hP) (by rw [htc, show (sq_I n it) = true from sq_z_t c_2]; exact hD) hS (Nat.le_of_ble_eq_true rfl) (Nat.le_of_ble_eq_true rfl) (by rw [htc]; rfl)  dL_settle_22
set_option maxHeartbeats 4000000 in
set_option maxRecDepth 100000 in
theorem c_L_majority (l : Launch) (hl9 : l.stackTraces = false) (D : va_G) (cI cZ : ClassId) (ty : kz_Y) (ad : Nat → Nat) (rs : va_W) (sz : Nat) (it o n g v r : Int32) (nx mt fl pr ofs ak hd an : Nat → Int32) (cL : ClassId) (qo : Nat) (fo : Nat → Int64) (p0 : Int32) : ez_M l yL_majority wsL_majority ({ frames := 8, cells := 1, slots := 6, locals := 131 } : Room) (kz_P D ((cI, .int) :: (cZ, .boolean) :: (cL, .long) :: ty) (wX ad cI cZ it o n g v r nx mt fl pr ofs ak hd an ++ ([(qo, .inl (cL, 1, .inr (.inl fo)))] ++ rs)) sz [.ref (ad 0), .int p0, .ref qo]) (kz_Wr D (va_A (wX ad cI cZ it o n g v r nx mt fl pr ofs ak hd an ++ ([(qo, .inl (cL, 1, .inr (.inl fo)))] ++ rs)) sz) (kz_i (fun r9 => r9 = (nI (tc_set p0)))) (wX ad cI cZ it o n g v r nx mt fl pr ofs ak hd an ++ ([(qo, .inl (cL, 1, .inr (.inl (if tc_set p0 = 0 then vp_updL fo 0 (sq_z (sq_M o n p0)).toInt64 else fo))))] ++ rs))) (kz_T (fun _ => IAE) (fun _ => False)) 1 6 (va_A (wX ad cI cZ it o n g v r nx mt fl pr ofs ak hd an ++ ([(qo, .inl (cL, 1, .inr (.inl fo)))] ++ rs)) sz) := by
  refine ez_ofWT (cc := cL_majority) (maxL := 4) (ret := (some .int)) (by decide) rfl ?_
  intro p e s m args below meth c s₁ B hml hTab hv
  obtain ⟨rfl, hsz, hP, hK, hD0, hE⟩ := hv
  have hx := B.exec
  have hb := B.bytes
  have hr := B.returns
  have hw9 : ∀ w ∈ kz_W9, w.before ([.ref (ad 0), .int p0, .ref qo] : List Value).toArray s = true := fun w h => atoms_spec (ws := wsL_majority) B.pre w (List.mem_cons_of_mem _ h)
  have hown : s.vm.findClass RL = some m.cls := findClass_of_methodNamed B.named
  have hlocks := B.notSynchronized
  subst hsz
  have hD := hD0.self (sz := s.heap.size)
  generalize hAe : va_A (wX ad cI cZ it o n g v r nx mt fl pr ofs ak hd an ++ ([(qo, .inl (cL, 1, .inr (.inl fo)))] ++ rs)) s.heap.size = A at hD hE ⊢
  have hA : ∀ q : Nat, s.heap.size ≤ q → A q := fun q h => by rw [← hAe]; exact Or.inr h
  have hS : va_S A s.heap s.heap [] := va_S.rf
  have hO : kz_O s.heap s.heap := kz_O.rf _
  have hl := lv_entry ([.ref (ad 0), .int p0, .ref qo]) (n := 4) (Nat.le_of_ble_eq_true rfl)
  rw [lg_entry_eq]
  generalize (lg_sl ([.ref (ad 0), .int p0, .ref qo]) ++ List.replicate (4 - (lg_sl ([.ref (ad 0), .int p0, .ref qo])).length) Slot.unset).toArray = ls at hl ⊢
  have hl : lv_has ls 4 [(0, .ref (ad 0)), (1, .int p0), (2, .ref qo)] := hl
  refine lv_aload_n hx hb dL_majority_0 rfl (lv_at hl 2 rfl) ?_
  refine lv_iconst (v := 0) hx hb dL_majority_1 (by decide) ?_
  refine lv_aload_n hx hb dL_majority_2 rfl (lv_at hl 0 rfl) ?_
  refine lv_iload_n hx hb dL_majority_3 rfl (lv_at hl 1 rfl) ?_
  refine kz_rV (As := [.int p0]) (rest := [.int 0, .ref qo]) ⟨hx, hb, hml, hown, hw9⟩ (c_X0_majority l hl9 D cI cZ ((cL, .long) :: ty) ad ([(qo, .inl (cL, 1, .inr (.inl fo)))] ++ rs) s.heap.size it o n g v r nx mt fl pr ofs ak hd an p0) (kz_cV 1 hw9 mw_215 mw_216 mw_217 mw_1 mw_218 rfl rfl (by decide +kernel) ⟨Nat.le_of_ble_eq_true rfl, Nat.le_of_ble_eq_true rfl⟩) (kz_preV (q0 := 0) (ci := 0) hK hP hD hS hA hE rfl rfl) rfl hl.1 rfl (Nat.le_of_ble_eq_true rfl) dL_majority_4 ⟨Nat.le_of_ble_eq_true rfl, Nat.le_of_ble_eq_true rfl⟩ (fun k ce q9 H hk hO1 hce hcv hcl => ?_) (fun v9 H hv9 hO1 => ?_)
  · -- thrown
    have hP := hO1.P hP
    have hS := hO1.S hS
    obtain ⟨rfl, htc⟩ := sm_k1 hk (tc_set_le)
    refine ez_catch (own := RL) (nm := IAE) (E := IAE) hown [] ⟨0, 16, 19, 13⟩ [] (by rw [hTab]; rfl) (fun z hz => nomatch hz) (by decide) (by decide) (hw9 _ mw_93) (va_Nw.use rfl (hE.2.2.2.1 (IAE, IAE) (by decide +kernel))) hce hcv hcl ?_
    refine lv_astore_n (lv' := [(3, .ref q9), (0, .ref (ad 0)), (1, .int p0), (2, .ref qo)]) hx hb dL_majority_19 rfl hl (by decide) rfl (fun ls hl => ?_)
    refine lv_iconst (v := 1) hx hb dL_majority_20 (by decide) ?_
    exact kz_wreti hx hb hr hlocks (by rw [htc]; exact hP) (by rw [htc]; exact hD) hS (Nat.le_of_ble_eq_true rfl) (Nat.le_of_ble_eq_true rfl) (by rw [htc]; rfl)  dL_majority_21
  · -- goes on
    obtain ⟨_, rfl, hv_1, rfl⟩ := hv9
    have hP := hO1.P hP
    have hS := hO1.S hS
    have hO := hO.tr hO1
    refine W.eq (g2 := F0 m 7 ls [.int (sq_z (sq_M o n p0)), .int 0, .ref qo]) rfl ?_
    refine lv_if_eq (tgt := 14) hx hb dL_majority_7 (by decide) (fun c_2 => ?_) (fun c_2 => ?_)
    · -- 7 -> 14
      refine lv_lconst (v := 0) hx hb dL_majority_14 (by decide) ?_
      refine va_last hx hb hK hP hD hS 9 2 rfl rfl (vp_in_nI (n := 0) (by decide) (by decide)) dL_majority_15 (fun H locs hP hD hS => ?_)
      have hP : va_P D vwCl (wX ad cI cZ it o n g v r nx mt fl pr ofs ak hd an ++ ([(qo, .inl (cL, 1, .inr (.inl (vp_updL fo 0 0))))] ++ rs)) H := hP
      have hD : va_D A (wX ad cI cZ it o n g v r nx mt fl pr ofs ak hd an ++ ([(qo, .inl (cL, 1, .inr (.inl (vp_updL fo 0 0))))] ++ rs)) := hD
      refine lv_goto (tgt := 22) hx hb dL_majority_16 (by decide) ?_
      refine lv_iconst (v := 0) hx hb dL_majority_22 (by decide) ?_
      have htc := hv_1
      exact kz_wreti hx hb hr hlocks (by rw [htc, show (sq_M o n p0) = false from sq_z_f c_2]; exact hP) (by rw [htc, show (sq_M o n p0) = false from sq_z_f c_2]; exact hD) hS (Nat.le_of_ble_eq_true rfl) (Nat.le_of_ble_eq_true rfl) (by rw [htc]; rfl)  dL_majority_23
    · -- 7 -> 10
      refine lv_lconst (v := 1) hx hb dL_majority_10 (by decide) ?_
      refine lv_goto (tgt := 15) hx hb dL_majority_11 (by decide) ?_
      refine va_last hx hb hK hP hD hS 9 2 rfl rfl (vp_in_nI (n := 0) (by decide) (by decide)) dL_majority_15 (fun H locs hP hD hS => ?_)
      have hP : va_P D vwCl (wX ad cI cZ it o n g v r nx mt fl pr ofs ak hd an ++ ([(qo, .inl (cL, 1, .inr (.inl (vp_updL fo 0 1))))] ++ rs)) H := hP
      have hD : va_D A (wX ad cI cZ it o n g v r nx mt fl pr ofs ak hd an ++ ([(qo, .inl (cL, 1, .inr (.inl (vp_updL fo 0 1))))] ++ rs)) := hD
      refine lv_goto (tgt := 22) hx hb dL_majority_16 (by decide) ?_
      refine lv_iconst (v := 0) hx hb dL_majority_22 (by decide) ?_
      have htc := hv_1
      exact kz_wreti hx hb hr hlocks (by rw [htc, show (sq_M o n p0) = true from sq_z_t c_2]; exact hP) (by rw [htc, show (sq_M o n p0) = true from sq_z_t c_2]; exact hD) hS (Nat.le_of_ble_eq_true rfl) (Nat.le_of_ble_eq_true rfl) (by rw [htc]; rfl)  dL_majority_23
set_option maxHeartbeats 4000000 in
set_option maxRecDepth 100000 in
theorem c_L_vote (l : Launch) (hl9 : l.stackTraces = false) (D : va_G) (cI cZ : ClassId) (ty : kz_Y) (ad : Nat → Nat) (rs : va_W) (sz : Nat) (it o n g v r : Int32) (nx mt fl pr ofs ak hd an : Nat → Int32) (cL : ClassId) (qo : Nat) (fo : Nat → Int64) (p0 : Int32) : ez_M l yL_vote wsL_vote ({ frames := 8, cells := 1, slots := 6, locals := 131 } : Room) (kz_P D ((cI, .int) :: (cZ, .boolean) :: (cL, .long) :: ty) (wX ad cI cZ it o n g v r nx mt fl pr ofs ak hd an ++ ([(qo, .inl (cL, 1, .inr (.inl fo)))] ++ rs)) sz [.ref (ad 0), .int p0, .ref qo]) (kz_Wr D (va_A (wX ad cI cZ it o n g v r nx mt fl pr ofs ak hd an ++ ([(qo, .inl (cL, 1, .inr (.inl fo)))] ++ rs)) sz) (kz_i (fun r9 => r9 = (nI (tc_server p0)))) (wX ad cI cZ it o n g (if tc_server p0 = 0 then v ||| sq_1 p0 else v) r nx mt fl pr ofs ak hd an ++ ([(qo, .inl (cL, 1, .inr (.inl (if tc_server p0 = 0 then vp_updL fo 0 (sq_z (sq_M o n (v ||| sq_1 p0))).toInt64 else fo))))] ++ rs))) (kz_T (fun _ => IAE) (fun _ => False)) 1 6 (va_A (wX ad cI cZ it o n g v r nx mt fl pr ofs ak hd an ++ ([(qo, .inl (cL, 1, .inr (.inl fo)))] ++ rs)) sz) := by
  refine ez_ofWT (cc := cL_vote) (maxL := 4) (ret := (some .int)) (by decide) rfl ?_
  intro p e s m args below meth c s₁ B hml hTab hv
  obtain ⟨rfl, hsz, hP, hK, hD0, hE⟩ := hv
  have hx := B.exec
  have hb := B.bytes
  have hr := B.returns
  have hw9 : ∀ w ∈ kz_W9, w.before ([.ref (ad 0), .int p0, .ref qo] : List Value).toArray s = true := fun w h => atoms_spec (ws := wsL_vote) B.pre w (List.mem_cons_of_mem _ h)
  have hown : s.vm.findClass RL = some m.cls := findClass_of_methodNamed B.named
  have hlocks := B.notSynchronized
  subst hsz
  have hD := hD0.self (sz := s.heap.size)
  generalize hAe : va_A (wX ad cI cZ it o n g v r nx mt fl pr ofs ak hd an ++ ([(qo, .inl (cL, 1, .inr (.inl fo)))] ++ rs)) s.heap.size = A at hD hE ⊢
  have hA : ∀ q : Nat, s.heap.size ≤ q → A q := fun q h => by rw [← hAe]; exact Or.inr h
  have hS : va_S A s.heap s.heap [] := va_S.rf
  have hO : kz_O s.heap s.heap := kz_O.rf _
  have hl := lv_entry ([.ref (ad 0), .int p0, .ref qo]) (n := 4) (Nat.le_of_ble_eq_true rfl)
  rw [lg_entry_eq]
  generalize (lg_sl ([.ref (ad 0), .int p0, .ref qo]) ++ List.replicate (4 - (lg_sl ([.ref (ad 0), .int p0, .ref qo])).length) Slot.unset).toArray = ls at hl ⊢
  have hl : lv_has ls 4 [(0, .ref (ad 0)), (1, .int p0), (2, .ref qo)] := hl
  refine lv_aload_n hx hb dL_vote_0 rfl (lv_at hl 2 rfl) ?_
  refine lv_iconst (v := 0) hx hb dL_vote_1 (by decide) ?_
  refine lv_aload_n hx hb dL_vote_2 rfl (lv_at hl 0 rfl) ?_
  refine lv_iload_n hx hb dL_vote_3 rfl (lv_at hl 1 rfl) ?_
  refine kz_wV (As := [.int p0]) (rest := [.int 0, .ref qo]) ⟨hx, hb, hml, hown, hw9⟩ (c_X0_vote l hl9 D cI cZ ((cL, .long) :: ty) ad ([(qo, .inl (cL, 1, .inr (.inl fo)))] ++ rs) s.heap.size it o n g v r nx mt fl pr ofs ak hd an p0) (kz_cV 1 hw9 mw_236 mw_237 mw_238 mw_1 mw_239 rfl rfl (by decide +kernel) ⟨Nat.le_of_ble_eq_true rfl, Nat.le_of_ble_eq_true rfl⟩) (kz_preV (q0 := 0) (ci := 0) hK hP hD hS hA hE rfl rfl) rfl hl.1 rfl (Nat.le_of_ble_eq_true rfl) dL_vote_4 ⟨Nat.le_of_ble_eq_true rfl, Nat.le_of_ble_eq_true rfl⟩ hD hS hA (fun locs hf1 k ce q9 H hk hO1 hce hcv hcl => ?_) (fun v9 H locs hv9 hP hD hS => ?_)
  · -- thrown
    have hP := hO1.P hP
    have hS : va_S A s.heap H locs := ⟨(hO1.S hS).1, (hO1.S hS).2.1, hf1⟩
    obtain ⟨rfl, htc⟩ := sm_k1 hk (tc_server_le)
    refine ez_catch (own := RL) (nm := IOE) (E := IOE) hown [] ⟨0, 16, 19, 32⟩ [] (by rw [hTab]; rfl) (fun z hz => nomatch hz) (by decide) (by decide) (hw9 _ mw_235) (va_Nw.use rfl (hE.2.2.2.1 (IOE, IOE) (by decide +kernel))) hce hcv hcl ?_
    refine lv_astore_n (lv' := [(3, .ref q9), (0, .ref (ad 0)), (1, .int p0), (2, .ref qo)]) hx hb dL_vote_19 rfl hl (by decide) rfl (fun ls hl => ?_)
    refine lv_iconst (v := 1) hx hb dL_vote_20 (by decide) ?_
    exact kz_wreti hx hb hr hlocks (by rw [htc]; exact hP) (by rw [htc]; exact hD) hS (Nat.le_of_ble_eq_true rfl) (Nat.le_of_ble_eq_true rfl) (by rw [htc]; rfl)  dL_vote_21
  · -- goes on
    obtain ⟨_, rfl, hv_1, rfl⟩ := hv9
    have hP : va_P D vwCl (wX ad cI cZ it o n g (v ||| sq_1 p0) r nx mt fl pr ofs ak hd an ++ ([(qo, .inl (cL, 1, .inr (.inl fo)))] ++ rs)) H := hP
    have hD : va_D A (wX ad cI cZ it o n g (v ||| sq_1 p0) r nx mt fl pr ofs ak hd an ++ ([(qo, .inl (cL, 1, .inr (.inl fo)))] ++ rs)) := hD
    refine W.eq (g2 := F0 m 7 ls [.int (sq_z (sq_M o n (v ||| sq_1 p0))), .int 0, .ref qo]) rfl ?_
    refine lv_if_eq (tgt := 14) hx hb dL_vote_7 (by decide) (fun c_2 => ?_) (fun c_2 => ?_)
    · -- 7 -> 14
      refine lv_lconst (v := 0) hx hb dL_vote_14 (by decide) ?_
      refine va_last hx hb hK hP hD hS 9 2 rfl rfl (vp_in_nI (n := 0) (by decide) (by decide)) dL_vote_15 (fun H locs hP hD hS => ?_)
      have hP : va_P D vwCl (wX ad cI cZ it o n g (v ||| sq_1 p0) r nx mt fl pr ofs ak hd an ++ ([(qo, .inl (cL, 1, .inr (.inl (vp_updL fo 0 0))))] ++ rs)) H := hP
      have hD : va_D A (wX ad cI cZ it o n g (v ||| sq_1 p0) r nx mt fl pr ofs ak hd an ++ ([(qo, .inl (cL, 1, .inr (.inl (vp_updL fo 0 0))))] ++ rs)) := hD
      refine lv_goto (tgt := 22) hx hb dL_vote_16 (by decide) ?_
      refine lv_iconst (v := 0) hx hb dL_vote_22 (by decide) ?_
      have htc := hv_1
      exact kz_wreti hx hb hr hlocks (by rw [htc, show (sq_M o n (v ||| sq_1 p0)) = false from sq_z_f c_2]; exact hP) (by rw [htc, show (sq_M o n (v ||| sq_1 p0)) = false from sq_z_f c_2]; exact hD) hS (Nat.le_of_ble_eq_true rfl) (Nat.le_of_ble_eq_true rfl) (by rw [htc]; rfl)  dL_vote_23
    · -- 7 -> 10
      refine lv_lconst (v := 1) hx hb dL_vote_10 (by decide) ?_
      refine lv_goto (tgt := 15) hx hb dL_vote_11 (by decide) ?_
      refine va_last hx hb hK hP hD hS 9 2 rfl rfl (vp_in_nI (n := 0) (by decide) (by decide)) dL_vote_15 (fun H locs hP hD hS => ?_)
      have hP : va_P D vwCl (wX ad cI cZ it o n g (v ||| sq_1 p0) r nx mt fl pr ofs ak hd an ++ ([(qo, .inl (cL, 1, .inr (.inl (vp_updL fo 0 1))))] ++ rs)) H := hP
      have hD : va_D A (wX ad cI cZ it o n g (v ||| sq_1 p0) r nx mt fl pr ofs ak hd an ++ ([(qo, .inl (cL, 1, .inr (.inl (vp_updL fo 0 1))))] ++ rs)) := hD
      refine lv_goto (tgt := 22) hx hb dL_vote_16 (by decide) ?_
      refine lv_iconst (v := 0) hx hb dL_vote_22 (by decide) ?_
      have htc := hv_1
      exact kz_wreti hx hb hr hlocks (by rw [htc, show (sq_M o n (v ||| sq_1 p0)) = true from sq_z_t c_2]; exact hP) (by rw [htc, show (sq_M o n (v ||| sq_1 p0)) = true from sq_z_t c_2]; exact hD) hS (Nat.le_of_ble_eq_true rfl) (Nat.le_of_ble_eq_true rfl) (by rw [htc]; rfl)  dL_vote_23
set_option maxHeartbeats 4000000 in
set_option maxRecDepth 100000 in
theorem c_L_lead (l : Launch) (hl9 : l.stackTraces = false) (D : va_G) (cI cZ : ClassId) (ty : kz_Y) (ad : Nat → Nat) (rs : va_W) (sz : Nat) (it o n g v r : Int32) (nx mt fl pr ofs ak hd an : Nat → Int32) (p0 : Int32) (p1 : Int32) : ez_M l yL_lead wsL_lead ({ frames := 8, cells := 1, slots := 6, locals := 133 } : Room) (kz_P D ((cI, .int) :: (cZ, .boolean) :: ty) (wX ad cI cZ it o n g v r nx mt fl pr ofs ak hd an ++ rs) sz [.ref (ad 0), .int p0, .int p1]) (kz_Wr D (va_A (wX ad cI cZ it o n g v r nx mt fl pr ofs ak hd an ++ rs) sz) (kz_i (fun r9 => r9 = (nI (tc_own p0 p1)))) (wX ad cI cZ it o n g v (if tc_own p0 p1 = 0 then 0 else r) (if tc_own p0 p1 = 0 then fun _ => p0 + 1 else nx) (if tc_own p0 p1 = 0 then fun _ => 0 else mt) (if tc_own p0 p1 = 0 then fun _ => 0 else fl) (if tc_own p0 p1 = 0 then fun _ => 1 else pr) (if tc_own p0 p1 = 0 then fun _ => 0 else ofs) (if tc_own p0 p1 = 0 then fun _ => 0 else ak) (if tc_own p0 p1 = 0 then fun _ => p1 else hd) (if tc_own p0 p1 = 0 then fun _ => 0 else an) ++ rs)) (kz_T (fun _ => IAE) (fun _ => False)) 1 6 (va_A (wX ad cI cZ it o n g v r nx mt fl pr ofs ak hd an ++ rs) sz) := by
  refine ez_ofWT (cc := cL_lead) (maxL := 4) (ret := (some .int)) (by decide) rfl ?_
  intro p e s m args below meth c s₁ B hml hTab hv
  obtain ⟨rfl, hsz, hP, hK, hD0, hE⟩ := hv
  have hx := B.exec
  have hb := B.bytes
  have hr := B.returns
  have hw9 : ∀ w ∈ kz_W9, w.before ([.ref (ad 0), .int p0, .int p1] : List Value).toArray s = true := fun w h => atoms_spec (ws := wsL_lead) B.pre w (List.mem_cons_of_mem _ h)
  have hown : s.vm.findClass RL = some m.cls := findClass_of_methodNamed B.named
  have hlocks := B.notSynchronized
  subst hsz
  have hD := hD0.self (sz := s.heap.size)
  generalize hAe : va_A (wX ad cI cZ it o n g v r nx mt fl pr ofs ak hd an ++ rs) s.heap.size = A at hD hE ⊢
  have hA : ∀ q : Nat, s.heap.size ≤ q → A q := fun q h => by rw [← hAe]; exact Or.inr h
  have hS : va_S A s.heap s.heap [] := va_S.rf
  have hO : kz_O s.heap s.heap := kz_O.rf _
  have hl := lv_entry ([.ref (ad 0), .int p0, .int p1]) (n := 4) (Nat.le_of_ble_eq_true rfl)
  rw [lg_entry_eq]
  generalize (lg_sl ([.ref (ad 0), .int p0, .int p1]) ++ List.replicate (4 - (lg_sl ([.ref (ad 0), .int p0, .int p1])).length) Slot.unset).toArray = ls at hl ⊢
  have hl : lv_has ls 4 [(0, .ref (ad 0)), (1, .int p0), (2, .int p1)] := hl
  refine lv_aload_n hx hb dL_lead_0 rfl (lv_at hl 0 rfl) ?_
  refine lv_iload_n hx hb dL_lead_1 rfl (lv_at hl 1 rfl) ?_
  refine lv_iload_n hx hb dL_lead_2 rfl (lv_at hl 2 rfl) ?_
  refine kz_wV (As := [.int p0, .int p1]) (rest := []) ⟨hx, hb, hml, hown, hw9⟩ (c_X0_lead l hl9 D cI cZ ty ad rs s.heap.size it o n g v r nx mt fl pr ofs ak hd an p0 p1) (kz_cV 2 hw9 mw_262 mw_263 mw_264 mw_1 mw_265 rfl rfl (by decide +kernel) ⟨Nat.le_of_ble_eq_true rfl, Nat.le_of_ble_eq_true rfl⟩) (kz_preV (q0 := 0) (ci := 0) hK hP hD hS hA hE rfl rfl) rfl hl.1 rfl (Nat.le_of_ble_eq_true rfl) dL_lead_3 ⟨Nat.le_of_ble_eq_true rfl, Nat.le_of_ble_eq_true rfl⟩ hD hS hA (fun locs hf1 k ce q9 H hk hO1 hce hcv hcl => ?_) (fun v9 H locs hv9 hP hD hS => ?_)
  · -- thrown
    have hP := hO1.P hP
    have hS : va_S A s.heap H locs := ⟨(hO1.S hS).1, (hO1.S hS).2.1, hf1⟩
    obtain ⟨rfl, htc⟩ := sm_k1 hk (tc_own_le)
    refine ez_catch (own := RL) (nm := IAE) (E := IAE) hown [] ⟨0, 6, 9, 13⟩ [] (by rw [hTab]; rfl) (fun z hz => nomatch hz) (by decide) (by decide) (hw9 _ mw_93) (va_Nw.use rfl (hE.2.2.2.1 (IAE, IAE) (by decide +kernel))) hce hcv hcl ?_
    refine lv_astore_n (lv' := [(3, .ref q9), (0, .ref (ad 0)), (1, .int p0), (2, .int p1)]) hx hb dL_lead_9 rfl hl (by decide) rfl (fun ls hl => ?_)
    refine lv_iconst (v := 1) hx hb dL_lead_10 (by decide) ?_
    exact kz_wreti hx hb hr hlocks (by rw [htc]; exact hP) (by rw [htc]; exact hD) hS (Nat.le_of_ble_eq_true rfl) (Nat.le_of_ble_eq_true rfl) (by rw [htc]; rfl)  dL_lead_11
  · -- goes on
    obtain ⟨rfl, hv_1⟩ := hv9
    have hP : va_P D vwCl (wX ad cI cZ it o n g v 0 (fun _ => p0 + 1) (fun _ => 0) (fun _ => 0) (fun _ => 1) (fun _ => 0) (fun _ => 0) (fun _ => p1) (fun _ => 0) ++ rs) H := hP
    have hD : va_D A (wX ad cI cZ it o n g v 0 (fun _ => p0 + 1) (fun _ => 0) (fun _ => 0) (fun _ => 1) (fun _ => 0) (fun _ => 0) (fun _ => p1) (fun _ => 0) ++ rs) := hD
    refine W.eq (g2 := F0 m 6 ls []) rfl ?_
    refine lv_goto (tgt := 12) hx hb dL_lead_6 (by decide) ?_
    refine lv_iconst (v := 0) hx hb dL_lead_12 (by decide) ?_
    have htc := hv_1
    exact kz_wreti hx hb hr hlocks (by rw [htc]; exact hP) (by rw [htc]; exact hD) hS (Nat.le_of_ble_eq_true rfl) (Nat.le_of_ble_eq_true rfl) (by rw [htc]; rfl)  dL_lead_13
set_option maxHeartbeats 4000000 in
set_option maxRecDepth 100000 in
theorem c_L_sending (l : Launch) (hl9 : l.stackTraces = false) (D : va_G) (cI cZ : ClassId) (ty : kz_Y) (ad : Nat → Nat) (rs : va_W) (sz : Nat) (it o n g v r : Int32) (nx mt fl pr ofs ak hd an : Nat → Int32) (cL : ClassId) (qo : Nat) (fo : Nat → Int64) (p0 : Int32) (p1 : Int32) (p2 : Int32) (p3 : Int32) : ez_M l yL_sending wsL_sending ({ frames := 9, cells := 1, slots := 6, locals := 155 } : Room) (kz_P D ((cI, .int) :: (cZ, .boolean) :: (cL, .long) :: ty) (wX ad cI cZ it o n g v r nx mt fl pr ofs ak hd an ++ ([(qo, .inl (cL, 1, .inr (.inl fo)))] ++ rs)) sz [.ref (ad 0), .int p0, .int p1, .int p2, .int p3, .ref qo]) (kz_Wr D (va_A (wX ad cI cZ it o n g v r nx mt fl pr ofs ak hd an ++ ([(qo, .inl (cL, 1, .inr (.inl fo)))] ++ rs)) sz) (kz_i (fun r9 => r9 = (nI (tc_sending it o n g p0 p1 p2)))) (wX ad cI cZ it o n g v r (if tc_sending it o n g p0 p1 p2 = 0 then if nx p0.toNatClampNeg ≤ p1 then nx else if nx p0.toNatClampNeg ≤ p2 ∧ sq_F fl pr p0.toNatClampNeg = true then upd nx p0.toNatClampNeg (nx p0.toNatClampNeg + (sq_min ((p2 - nx p0.toNatClampNeg) + 1) 6)) else nx else nx) mt (if tc_sending it o n g p0 p1 p2 = 0 then if nx p0.toNatClampNeg ≤ p1 then (if 0 < fl p0.toNatClampNeg then fl else upd fl p0.toNatClampNeg 1) else if nx p0.toNatClampNeg ≤ p2 ∧ sq_F fl pr p0.toNatClampNeg = true then upd fl p0.toNatClampNeg (fl p0.toNatClampNeg + 1) else fl else fl) pr ofs ak hd an ++ ([(qo, .inl (cL, 1, .inr (.inl (if tc_sending it o n g p0 p1 p2 = 0 then vp_updL fo 0 (if nx p0.toNatClampNeg ≤ p1 then (if 0 < fl p0.toNatClampNeg then 0 else 8) else if nx p0.toNatClampNeg ≤ p2 ∧ sq_F fl pr p0.toNatClampNeg = true then (sq_min ((p2 - nx p0.toNatClampNeg) + 1) 6) else if p3 = 0 then 0 else 7).toInt64 else fo))))] ++ rs))) (kz_T (fun _ => IAE) (fun _ => False)) 1 6 (va_A (wX ad cI cZ it o n g v r nx mt fl pr ofs ak hd an ++ ([(qo, .inl (cL, 1, .inr (.inl fo)))] ++ rs)) sz) := by
  refine ez_ofWT (cc := cL_sending) (maxL := 7) (ret := (some .int)) (by decide) rfl ?_
  intro p e s m args below meth c s₁ B hml hTab hv
  obtain ⟨rfl, hsz, hP, hK, hD0, hE⟩ := hv
  have hx := B.exec
  have hb := B.bytes
  have hr := B.returns
  have hw9 : ∀ w ∈ kz_W9, w.before ([.ref (ad 0), .int p0, .int p1, .int p2, .int p3, .ref qo] : List Value).toArray s = true := fun w h => atoms_spec (ws := wsL_sending) B.pre w (List.mem_cons_of_mem _ h)
  have hown : s.vm.findClass RL = some m.cls := findClass_of_methodNamed B.named
  have hlocks := B.notSynchronized
  subst hsz
  have hD := hD0.self (sz := s.heap.size)
  generalize hAe : va_A (wX ad cI cZ it o n g v r nx mt fl pr ofs ak hd an ++ ([(qo, .inl (cL, 1, .inr (.inl fo)))] ++ rs)) s.heap.size = A at hD hE ⊢
  have hA : ∀ q : Nat, s.heap.size ≤ q → A q := fun q h => by rw [← hAe]; exact Or.inr h
  have hS : va_S A s.heap s.heap [] := va_S.rf
  have hO : kz_O s.heap s.heap := kz_O.rf _
  have hl := lv_entry ([.ref (ad 0), .int p0, .int p1, .int p2, .int p3, .ref qo]) (n := 7) (Nat.le_of_ble_eq_true rfl)
  rw [lg_entry_eq]
  generalize (lg_sl ([.ref (ad 0), .int p0, .int p1, .int p2, .int p3, .ref qo]) ++ List.replicate (7 - (lg_sl ([.ref (ad 0), .int p0, .int p1, .int p2, .int p3, .ref qo])).length) Slot.unset).toArray = ls at hl ⊢
  have hl : lv_has ls 7 [(0, .ref (ad 0)), (1, .int p0), (2, .int p1), (3, .int p2), (4, .int p3), (5, .ref qo)] := hl
  refine lv_aload hx hb dL_sending_0 (lv_at hl 5 rfl) ?_
  refine lv_iconst (v := 0) hx hb dL_sending_2 (by decide) ?_
  refine lv_aload_n hx hb dL_sending_3 rfl (lv_at hl 0 rfl) ?_
  refine lv_iload_n hx hb dL_sending_4 rfl (lv_at hl 1 rfl) ?_
  refine lv_iload_n hx hb dL_sending_5 rfl (lv_at hl 2 rfl) ?_
  refine lv_iload_n hx hb dL_sending_6 rfl (lv_at hl 3 rfl) ?_
  refine lv_iload hx hb dL_sending_7 (lv_at hl 4 rfl) ?_
  refine kz_wV (As := [.int p0, .int p1, .int p2, .int p3]) (rest := [.int 0, .ref qo]) ⟨hx, hb, hml, hown, hw9⟩ (c_X0_sending l hl9 D cI cZ ((cL, .long) :: ty) ad ([(qo, .inl (cL, 1, .inr (.inl fo)))] ++ rs) s.heap.size it o n g v r nx mt fl pr ofs ak hd an p0 p1 p2 p3) (kz_cV 4 hw9 mw_274 mw_275 mw_276 mw_1 mw_277 rfl rfl (by decide +kernel) ⟨Nat.le_of_ble_eq_true rfl, Nat.le_of_ble_eq_true rfl⟩) (kz_preV (q0 := 0) (ci := 0) hK hP hD hS hA hE rfl rfl) rfl hl.1 rfl (Nat.le_of_ble_eq_true rfl) dL_sending_9 ⟨Nat.le_of_ble_eq_true rfl, Nat.le_of_ble_eq_true rfl⟩ hD hS hA (fun locs hf1 k ce q9 H hk hO1 hce hcv hcl => ?_) (fun v9 H locs hv9 hP hD hS => ?_)
  · -- thrown
    have hP := hO1.P hP
    have hS : va_S A s.heap H locs := ⟨(hO1.S hS).1, (hO1.S hS).2.1, hf1⟩
    rcases sm_k2 hk (tc_sending_le) with ⟨rfl, htc⟩ | ⟨rfl, htc⟩
    · -- 1
      refine ez_catch (own := RL) (nm := IOE) (E := IOE) hown [] ⟨0, 14, 17, 32⟩ [⟨0, 14, 21, 13⟩] (by rw [hTab]; rfl) (fun z hz => nomatch hz) (by decide) (by decide) (hw9 _ mw_235) (va_Nw.use rfl (hE.2.2.2.1 (IOE, IOE) (by decide +kernel))) hce hcv hcl ?_
      refine lv_astore (lv' := [(6, .ref q9), (0, .ref (ad 0)), (1, .int p0), (2, .int p1), (3, .int p2), (4, .int p3), (5, .ref qo)]) hx hb dL_sending_17 hl (by decide) rfl (fun ls hl => ?_)
      refine lv_iconst (v := 1) hx hb dL_sending_19 (by decide) ?_
      exact kz_wreti hx hb hr hlocks (by rw [htc]; exact hP) (by rw [htc]; exact hD) hS (Nat.le_of_ble_eq_true rfl) (Nat.le_of_ble_eq_true rfl) (by rw [htc]; rfl)  dL_sending_20
    · -- 2
      refine ez_catch (own := RL) (nm := IAE) (E := IAE) hown [⟨0, 14, 17, 32⟩] ⟨0, 14, 21, 13⟩ [] (by rw [hTab]; rfl) (fun z hz => by rcases List.mem_cons.mp hz with rfl | hz; exact ⟨by decide, by decide, IOE, hw9 _ mw_235, hE.2.2.2.2.2 (IAE, IOE) (by decide +kernel)⟩; cases hz) (by decide) (by decide) (hw9 _ mw_93) (va_Nw.use rfl (hE.2.2.2.1 (IAE, IAE) (by decide +kernel))) hce hcv hcl ?_
      refine lv_astore (lv' := [(6, .ref q9), (0, .ref (ad 0)), (1, .int p0), (2, .int p1), (3, .int p2), (4, .int p3), (5, .ref qo)]) hx hb dL_sending_21 hl (by decide) rfl (fun ls hl => ?_)
      refine lv_iconst (v := 2) hx hb dL_sending_23 (by decide) ?_
      exact kz_wreti hx hb hr hlocks (by rw [htc]; exact hP) (by rw [htc]; exact hD) hS (Nat.le_of_ble_eq_true rfl) (Nat.le_of_ble_eq_true rfl) (by rw [htc]; rfl)  dL_sending_24
  · -- goes on
    obtain ⟨_, rfl, hv_1, rfl⟩ := hv9
    have hP : va_P D vwCl (wX ad cI cZ it o n g v r (if nx p0.toNatClampNeg ≤ p1 then nx else if nx p0.toNatClampNeg ≤ p2 ∧ sq_F fl pr p0.toNatClampNeg = true then upd nx p0.toNatClampNeg (nx p0.toNatClampNeg + (sq_min ((p2 - nx p0.toNatClampNeg) + 1) 6)) else nx) mt (if nx p0.toNatClampNeg ≤ p1 then (if 0 < fl p0.toNatClampNeg then fl else upd fl p0.toNatClampNeg 1) else if nx p0.toNatClampNeg ≤ p2 ∧ sq_F fl pr p0.toNatClampNeg = true then upd fl p0.toNatClampNeg (fl p0.toNatClampNeg + 1) else fl) pr ofs ak hd an ++ ([(qo, .inl (cL, 1, .inr (.inl fo)))] ++ rs)) H := hP
    have hD : va_D A (wX ad cI cZ it o n g v r (if nx p0.toNatClampNeg ≤ p1 then nx else if nx p0.toNatClampNeg ≤ p2 ∧ sq_F fl pr p0.toNatClampNeg = true then upd nx p0.toNatClampNeg (nx p0.toNatClampNeg + (sq_min ((p2 - nx p0.toNatClampNeg) + 1) 6)) else nx) mt (if nx p0.toNatClampNeg ≤ p1 then (if 0 < fl p0.toNatClampNeg then fl else upd fl p0.toNatClampNeg 1) else if nx p0.toNatClampNeg ≤ p2 ∧ sq_F fl pr p0.toNatClampNeg = true then upd fl p0.toNatClampNeg (fl p0.toNatClampNeg + 1) else fl) pr ofs ak hd an ++ ([(qo, .inl (cL, 1, .inr (.inl fo)))] ++ rs)) := hD
    refine W.eq (g2 := F0 m 12 ls [.int (if nx p0.toNatClampNeg ≤ p1 then (if 0 < fl p0.toNatClampNeg then 0 else 8) else if nx p0.toNatClampNeg ≤ p2 ∧ sq_F fl pr p0.toNatClampNeg = true then (sq_min ((p2 - nx p0.toNatClampNeg) + 1) 6) else if p3 = 0 then 0 else 7), .int 0, .ref qo]) rfl ?_
    refine lv_i2l (v := (if nx p0.toNatClampNeg ≤ p1 then (if 0 < fl p0.toNatClampNeg then 0 else 8) else if nx p0.toNatClampNeg ≤ p2 ∧ sq_F fl pr p0.toNatClampNeg = true then (sq_min ((p2 - nx p0.toNatClampNeg) + 1) 6) else if p3 = 0 then 0 else 7).toInt64) hx hb dL_sending_12 rfl ?_
    refine va_last hx hb hK hP hD hS 9 2 rfl rfl (vp_in_nI (n := 0) (by decide) (by decide)) dL_sending_13 (fun H locs hP hD hS => ?_)
    have hP : va_P D vwCl (wX ad cI cZ it o n g v r (if nx p0.toNatClampNeg ≤ p1 then nx else if nx p0.toNatClampNeg ≤ p2 ∧ sq_F fl pr p0.toNatClampNeg = true then upd nx p0.toNatClampNeg (nx p0.toNatClampNeg + (sq_min ((p2 - nx p0.toNatClampNeg) + 1) 6)) else nx) mt (if nx p0.toNatClampNeg ≤ p1 then (if 0 < fl p0.toNatClampNeg then fl else upd fl p0.toNatClampNeg 1) else if nx p0.toNatClampNeg ≤ p2 ∧ sq_F fl pr p0.toNatClampNeg = true then upd fl p0.toNatClampNeg (fl p0.toNatClampNeg + 1) else fl) pr ofs ak hd an ++ ([(qo, .inl (cL, 1, .inr (.inl (vp_updL fo 0 ((if nx p0.toNatClampNeg ≤ p1 then (if 0 < fl p0.toNatClampNeg then 0 else 8) else if nx p0.toNatClampNeg ≤ p2 ∧ sq_F fl pr p0.toNatClampNeg = true then (sq_min ((p2 - nx p0.toNatClampNeg) + 1) 6) else if p3 = 0 then 0 else 7).toInt64)))))] ++ rs)) H := hP
    have hD : va_D A (wX ad cI cZ it o n g v r (if nx p0.toNatClampNeg ≤ p1 then nx else if nx p0.toNatClampNeg ≤ p2 ∧ sq_F fl pr p0.toNatClampNeg = true then upd nx p0.toNatClampNeg (nx p0.toNatClampNeg + (sq_min ((p2 - nx p0.toNatClampNeg) + 1) 6)) else nx) mt (if nx p0.toNatClampNeg ≤ p1 then (if 0 < fl p0.toNatClampNeg then fl else upd fl p0.toNatClampNeg 1) else if nx p0.toNatClampNeg ≤ p2 ∧ sq_F fl pr p0.toNatClampNeg = true then upd fl p0.toNatClampNeg (fl p0.toNatClampNeg + 1) else fl) pr ofs ak hd an ++ ([(qo, .inl (cL, 1, .inr (.inl (vp_updL fo 0 ((if nx p0.toNatClampNeg ≤ p1 then (if 0 < fl p0.toNatClampNeg then 0 else 8) else if nx p0.toNatClampNeg ≤ p2 ∧ sq_F fl pr p0.toNatClampNeg = true then (sq_min ((p2 - nx p0.toNatClampNeg) + 1) 6) else if p3 = 0 then 0 else 7).toInt64)))))] ++ rs)) := hD
    refine lv_goto (tgt := 25) hx hb dL_sending_14 (by decide) ?_
    refine lv_iconst (v := 0) hx hb dL_sending_25 (by decide) ?_
    have htc := hv_1
    exact kz_wreti hx hb hr hlocks (by rw [htc]; exact hP) (by rw [htc]; exact hD) hS (Nat.le_of_ble_eq_true rfl) (Nat.le_of_ble_eq_true rfl) (by rw [htc]; rfl)  dL_sending_26
