set_option maxHeartbeats 4000000 in
set_option maxRecDepth 100000 in
theorem c_X0_round (l : Launch) (hl9 : l.stackTraces = false) (D : va_G) (cI cZ : ClassId) (ty : kz_Y) (ad : Nat → Nat) (rs : va_W) (sz : Nat) (it o n g v r : Int32) (nx mt fl pr ofs ak hd an : Nat → Int32) : ez_M l yX0_round wsX0_round ({ frames := 2, cells := 1, slots := 6, locals := 40 } : Room) (kz_P D ((cI, .int) :: (cZ, .boolean) :: ty) (wX ad cI cZ it o n g v r nx mt fl pr ofs ak hd an ++ rs) sz [.ref (ad 0)]) (kz_Wr D (va_A (wX ad cI cZ it o n g v r nx mt fl pr ofs ak hd an ++ rs) sz) (kz_i (fun r9 => r9 = (r + 1))) (wX ad cI cZ it o n g v (r + 1) (fun j => if sq_R it o n g fl an j = true then mt j + 1 else nx j) mt (fun j => if sq_R it o n g fl an j = true then 0 else fl j) (fun j => if sq_R it o n g fl an j = true then 1 else pr j) ofs ak hd (fun _ => 0) ++ rs)) (kz_T (fun _ => IAE) (fun _ => False)) 0 0 (va_A (wX ad cI cZ it o n g v r nx mt fl pr ofs ak hd an ++ rs) sz) := by
  refine ez_ofW (cc := cX0_round) (maxL := 3) (ret := (some .int)) (by decide) rfl ?_
  intro p e s m args below meth c s₁ B hml hTab hv
  obtain ⟨rfl, hsz, hP, hK, hD0, hE⟩ := hv
  have hx := B.exec
  have hb := B.bytes
  have hr := B.returns
  have hw9 : ∀ w ∈ kz_W9, w.before ([.ref (ad 0)] : List Value).toArray s = true := fun w h => atoms_spec (ws := wsX0_round) B.pre w (List.mem_cons_of_mem _ h)
  have hown : s.vm.findClass RX0 = some m.cls := findClass_of_methodNamed B.named
  have hlocks := B.notSynchronized
  subst hsz
  have hD := hD0.self (sz := s.heap.size)
  generalize hAe : va_A (wX ad cI cZ it o n g v r nx mt fl pr ofs ak hd an ++ rs) s.heap.size = A at hD hE ⊢
  have hA : ∀ q : Nat, s.heap.size ≤ q → A q := fun q h => by rw [← hAe]; exact Or.inr h
  have hS : va_S A s.heap s.heap [] := va_S.rf
  have hO : kz_O s.heap s.heap := kz_O.rf _
  have hl := lv_entry ([.ref (ad 0)]) (n := 3) (Nat.le_of_ble_eq_true rfl)
  rw [lg_entry_eq]
  generalize (lg_sl ([.ref (ad 0)]) ++ List.replicate (3 - (lg_sl ([.ref (ad 0)])).length) Slot.unset).toArray = ls at hl ⊢
  have hl : lv_has ls 3 [(0, .ref (ad 0))] := hl
  refine lv_aload_n hx hb dX0_round_0 rfl (lv_at hl 0 rfl) ?_
  refine lv_aload_n hx hb dX0_round_1 rfl (lv_at hl 0 rfl) ?_
  refine va_get (D := D) (ci := 0) (v := .int r) (C := RX0) (T := TX0) (N := 14) hx hb hw9 uX0 hown hK hP 0 rfl rfl 5 (by decide) (hw9 _ mw_24) (fun _ h9 => h9) rfl dX0_round_2 ?_
  refine lv_iconst (v := 1) hx hb dX0_round_5 (by decide) ?_
  refine lv_iadd hx hb dX0_round_6 ?_
  refine va_put (D := D) (ci := 0) (v := .int (r + 1)) (ty := .int) (C := RX0) (T := TX0) (N := 14) hx hb hw9 uX0 tyX0 tyX0_ok nmX0 hown hK hP hD hS 0 rfl rfl 5 (by decide) (hw9 _ mw_24) (fun _ h9 => h9) rfl (by decide +kernel) rfl rfl (Nat.le_of_ble_eq_true rfl) dX0_round_7 (fun H locs hP hD hS => ?_)
  have hP : va_P D vwCl (wX ad cI cZ it o n g v (r + 1) nx mt fl pr ofs ak hd an ++ rs) H := hP
  have hD : va_D A (wX ad cI cZ it o n g v (r + 1) nx mt fl pr ofs ak hd an ++ rs) := hD
  refine lv_aload_n hx hb dX0_round_10 rfl (lv_at hl 0 rfl) ?_
  refine kz_rV (As := []) (rest := []) ⟨hx, hb, hml, hown, hw9⟩ (c_X0_peerSet l hl9 D cI cZ ty ad rs H.size it o n g v (r + 1) nx mt fl pr ofs ak hd an) (kz_cV 0 hw9 mw_72 mw_74 ms_0 mw_1 mw_75 rfl rfl (by decide +kernel) ⟨Nat.le_of_ble_eq_true rfl, Nat.le_of_ble_eq_true rfl⟩) (kz_preV (q0 := 0) (ci := 0) hK hP hD hS hA hE rfl rfl) rfl hl.1 rfl (Nat.le_of_ble_eq_true rfl) dX0_round_11 ⟨Nat.le_of_ble_eq_true rfl, Nat.le_of_ble_eq_true rfl⟩ (fun _ _ _ _ h => False.elim h) (fun v9 H hv9 hO1 => ?_)
  obtain ⟨_, rfl, rfl⟩ := hv9
  have hP := hO1.P hP
  have hS := hO1.S hS
  refine W.eq (g2 := F0 m 14 ls [.int (sq_P it o n g)]) rfl ?_
  refine lv_istore_n (lv' := [(1, .int (sq_P it o n g)), (0, .ref (ad 0))]) hx hb dX0_round_14 rfl hl (by decide) rfl (fun ls hl => ?_)
  refine lv_iconst (v := 0) hx hb dX0_round_15 (by decide) ?_
  refine lv_istore_n (lv' := [(2, .int 0), (1, .int (sq_P it o n g)), (0, .ref (ad 0))]) hx hb dX0_round_16 rfl hl (by decide) rfl (fun ls hl => ?_)
  have loop : ∀ (k i : Nat) (nx1 fl1 pr1 an1 : Nat → Int32) (H : Heap) (locs : List Loc) (ls : Array Slot), i ≤ 7 → 7 < i + k → (∀ j, j < 7 → nx1 j = (if j < i ∧ sq_R it o n g fl an j = true then mt j + 1 else nx j) ∧ fl1 j = (if j < i ∧ sq_R it o n g fl an j = true then 0 else fl j) ∧ pr1 j = (if j < i ∧ sq_R it o n g fl an j = true then 1 else pr j) ∧ an1 j = (if j < i then 0 else an j)) → va_P D vwCl (wX ad cI cZ it o n g v (r + 1) nx1 mt fl1 pr1 ofs ak hd an1 ++ rs) H → va_D A (wX ad cI cZ it o n g v (r + 1) nx1 mt fl1 pr1 ofs ak hd an1 ++ rs) → va_S A s.heap H locs → lv_has ls 3 [(2, .int (nI i)), (0, .ref (ad 0)), (1, .int (sq_P it o n g))] → W p l e (headSpec wsX0_round ({ frames := 2, cells := 1, slots := 6, locals := 40 } : Room)).room s m ([.ref (ad 0)] : List Value).toArray below meth c H locs 0 0 (ez_MQ below (kz_Wr D A (kz_i (fun r9 => r9 = (r + 1))) (wX ad cI cZ it o n g v (r + 1) (fun j => if sq_R it o n g fl an j = true then mt j + 1 else nx j) mt (fun j => if sq_R it o n g fl an j = true then 0 else fl j) (fun j => if sq_R it o n g fl an j = true then 1 else pr j) ofs ak hd (fun _ => 0) ++ rs)) (kz_T (fun _ => IAE) (fun _ => False)) s 0 0 A) (F0 m 17 ls []) := by
    intro k
    induction k with
    | zero => intro i nx1 fl1 pr1 an1 H locs ls h1 h2; omega
    | succ k ih =>
      intro i nx1 fl1 pr1 an1 H locs ls h1 h2 hinv hP hD hS hl
      refine lv_iload_n hx hb dX0_round_17 rfl (lv_at hl 0 rfl) ?_
      refine lv_bipush (v := 7) hx hb dX0_round_18 (by decide) ?_
      refine lv_icmp_ge (tgt := 90) hx hb dX0_round_20 (by decide) (fun c_1 => ?_) (fun c_1 => ?_)
      · -- 20 -> 90
        have hi7 : i = 7 := kz_i7 h1 c_1
        subst hi7
        have hP : va_P D vwCl (wX ad cI cZ it o n g v (r + 1) (fun j => if sq_R it o n g fl an j = true then mt j + 1 else nx j) mt fl1 pr1 ofs ak hd an1 ++ rs) H := kz_fn (g := fun j => if sq_R it o n g fl an j = true then mt j + 1 else nx j) (k := 1) hP rfl (fun j hj => by have q9 := (hinv j hj).1; simpa [hj] using q9)
        have hD : va_D A (wX ad cI cZ it o n g v (r + 1) (fun j => if sq_R it o n g fl an j = true then mt j + 1 else nx j) mt fl1 pr1 ofs ak hd an1 ++ rs) := hD.set (p := 1) rfl
        have hP : va_P D vwCl (wX ad cI cZ it o n g v (r + 1) (fun j => if sq_R it o n g fl an j = true then mt j + 1 else nx j) mt (fun j => if sq_R it o n g fl an j = true then 0 else fl j) pr1 ofs ak hd an1 ++ rs) H := kz_fn (g := fun j => if sq_R it o n g fl an j = true then 0 else fl j) (k := 3) hP rfl (fun j hj => by have q9 := (hinv j hj).2.1; simpa [hj] using q9)
        have hD : va_D A (wX ad cI cZ it o n g v (r + 1) (fun j => if sq_R it o n g fl an j = true then mt j + 1 else nx j) mt (fun j => if sq_R it o n g fl an j = true then 0 else fl j) pr1 ofs ak hd an1 ++ rs) := hD.set (p := 3) rfl
        have hP : va_P D vwCl (wX ad cI cZ it o n g v (r + 1) (fun j => if sq_R it o n g fl an j = true then mt j + 1 else nx j) mt (fun j => if sq_R it o n g fl an j = true then 0 else fl j) (fun j => if sq_R it o n g fl an j = true then 1 else pr j) ofs ak hd an1 ++ rs) H := kz_fn (g := fun j => if sq_R it o n g fl an j = true then 1 else pr j) (k := 4) hP rfl (fun j hj => by have q9 := (hinv j hj).2.2.1; simpa [hj] using q9)
        have hD : va_D A (wX ad cI cZ it o n g v (r + 1) (fun j => if sq_R it o n g fl an j = true then mt j + 1 else nx j) mt (fun j => if sq_R it o n g fl an j = true then 0 else fl j) (fun j => if sq_R it o n g fl an j = true then 1 else pr j) ofs ak hd an1 ++ rs) := hD.set (p := 4) rfl
        have hP : va_P D vwCl (wX ad cI cZ it o n g v (r + 1) (fun j => if sq_R it o n g fl an j = true then mt j + 1 else nx j) mt (fun j => if sq_R it o n g fl an j = true then 0 else fl j) (fun j => if sq_R it o n g fl an j = true then 1 else pr j) ofs ak hd (fun _ => 0) ++ rs) H := kz_fn (g := fun _ => 0) (k := 8) hP rfl (fun j hj => by have q9 := (hinv j hj).2.2.2; simpa [hj] using q9)
        have hD : va_D A (wX ad cI cZ it o n g v (r + 1) (fun j => if sq_R it o n g fl an j = true then mt j + 1 else nx j) mt (fun j => if sq_R it o n g fl an j = true then 0 else fl j) (fun j => if sq_R it o n g fl an j = true then 1 else pr j) ofs ak hd (fun _ => 0) ++ rs) := hD.set (p := 8) rfl
        refine lv_aload_n hx hb dX0_round_90 rfl (lv_at hl 1 rfl) ?_
        refine va_get (D := D) (ci := 0) (v := .int (r + 1)) (C := RX0) (T := TX0) (N := 14) hx hb hw9 uX0 hown hK hP 0 rfl rfl 5 (by decide) (hw9 _ mw_24) (fun _ h9 => h9) rfl dX0_round_91 ?_
        exact kz_wreti hx hb hr hlocks hP hD hS (Nat.le_of_ble_eq_true rfl) (Nat.le_of_ble_eq_true rfl) (rfl)  dX0_round_94
      · -- 20 -> 23
        have hi9 : i < 7 := kz_l7 h1 c_1
        have hc9 : (nI i).toNatClampNeg = i := nI_clamp (by omega)
        refine lv_iload_n hx hb dX0_round_23 rfl (lv_at hl 2 rfl) ?_
        refine lv_iload_n hx hb dX0_round_24 rfl (lv_at hl 0 rfl) ?_
        refine kz_rS (As := [.int (sq_P it o n g), .int (nI i)]) (rest := []) ⟨hx, hb, hml, hown, hw9⟩ (c_X0_isIn l hl9 D ((cI, .int) :: (cZ, .boolean) :: ty) (wX ad cI cZ it o n g v (r + 1) nx1 mt fl1 pr1 ofs ak hd an1 ++ rs) H.size (sq_P it o n g) (nI i)) (kz_cS 2 hw9 mw_80 mw_81 mw_1 mw_82 rfl rfl (by decide +kernel) ⟨Nat.le_of_ble_eq_true rfl, Nat.le_of_ble_eq_true rfl⟩) (kz_preS hK hP hD hS hA hE) rfl hl.1 rfl (Nat.le_of_ble_eq_true rfl) dX0_round_25 ⟨Nat.le_of_ble_eq_true rfl, Nat.le_of_ble_eq_true rfl⟩ (fun _ _ _ _ h => False.elim h) (fun v9 H hv9 hO1 => ?_)
        obtain ⟨_, rfl, rfl⟩ := hv9
        have hP := hO1.P hP
        have hS := hO1.S hS
        refine W.eq (g2 := F0 m 28 ls [.int (sq_z (sq_I (sq_P it o n g) (nI i)))]) rfl ?_
        refine lv_if_eq (tgt := 77) hx hb dX0_round_28 (by decide) (fun c_2 => ?_) (fun c_2 => ?_)
        · -- 28 -> 77
          refine lv_aload_n hx hb dX0_round_77 rfl (lv_at hl 1 rfl) ?_
          refine va_get (D := D) (ci := 0) (v := .ref (ad 8)) (C := RX0) (T := TX0) (N := 14) hx hb hw9 uX0 hown hK hP 0 rfl rfl 13 (by decide) (hw9 _ mw_32) (fun _ h9 => h9) rfl dX0_round_78 ?_
          refine lv_iload_n hx hb dX0_round_81 rfl (lv_at hl 0 rfl) ?_
          refine lv_iconst (v := 0) hx hb dX0_round_82 (by decide) ?_
          refine va_zast hx hb hK hP hD hS 8 1 rfl rfl (vp_in_nI hi9 (by decide)) dX0_round_83 (fun H locs hP hD hS => ?_)
          rw [hc9] at hP hD
          have hP : va_P D vwCl (wX ad cI cZ it o n g v (r + 1) nx1 mt fl1 pr1 ofs ak hd (upd an1 i 0) ++ rs) H := hP
          have hD : va_D A (wX ad cI cZ it o n g v (r + 1) nx1 mt fl1 pr1 ofs ak hd (upd an1 i 0) ++ rs) := hD
          obtain ⟨v_3, ev_3⟩ : ∃ y : Int32, y = (nI i) + 1 := ⟨_, rfl⟩
          refine lv_iinc (v := v_3) (lv' := [(2, .int v_3), (0, .ref (ad 0)), (1, .int (sq_P it o n g))]) hx hb dX0_round_84 hl (k := 0) rfl (by rw [ev_3]; rfl) (by decide) rfl (fun ls hl => ?_)
          refine lv_goto (tgt := 17) hx hb dX0_round_87 (by decide) ?_
          obtain rfl : v_3 = nI (i + 1) := by rw [ev_3, nI_1]
          have hfi : fl i = fl1 i := by have q9 := (hinv i hi9).2.1; simp at q9; exact q9.symm
          have hai : an i = an1 i := by have q9 := (hinv i hi9).2.2.2; simp at q9; exact q9.symm
          have hR : sq_R it o n g fl an i = false := by simp [sq_R, hfi, hai, c_1, (Int32.not_le.mp c_1), (sq_z_f c_2)]
          exact ih (i + 1) _ _ _ _ H locs ls (by omega) (by omega) (fun j hj => by
            obtain ⟨a1, a2, a3, a4⟩ := hinv j hj
            simp only [upd]
            by_cases hji : j = i
            · rw [hji] at a1 a2 a3 a4 ⊢
              simp only [Nat.lt_irrefl, false_and, if_false] at a1 a2 a3 a4
              simp [hR, a1, a2, a3, a4]
            · have e9 : (j < i + 1) = (j < i) := propext ⟨fun h => by omega, fun h => by omega⟩
              simp only [if_neg hji, e9]
              exact ⟨a1, a2, a3, a4⟩) hP hD hS (lv_sub hl [0, 1, 2] rfl)
        · -- 28 -> 31
          refine lv_aload_n hx hb dX0_round_31 rfl (lv_at hl 1 rfl) ?_
          refine va_get (D := D) (ci := 0) (v := .ref (ad 3)) (C := RX0) (T := TX0) (N := 14) hx hb hw9 uX0 hown hK hP 0 rfl rfl 8 (by decide) (hw9 _ mw_27) (fun _ h9 => h9) rfl dX0_round_32 ?_
          refine lv_iload_n hx hb dX0_round_35 rfl (lv_at hl 0 rfl) ?_
          refine va_iald hx hb hK hP 3 0 rfl rfl (vp_in_nI hi9 (by decide)) dX0_round_36 ?_
          rw [hc9]
          refine lv_if_le (tgt := 77) hx hb dX0_round_37 (by decide) (fun c_4 => ?_) (fun c_4 => ?_)
          · -- 37 -> 77
            refine lv_aload_n hx hb dX0_round_77 rfl (lv_at hl 1 rfl) ?_
            refine va_get (D := D) (ci := 0) (v := .ref (ad 8)) (C := RX0) (T := TX0) (N := 14) hx hb hw9 uX0 hown hK hP 0 rfl rfl 13 (by decide) (hw9 _ mw_32) (fun _ h9 => h9) rfl dX0_round_78 ?_
            refine lv_iload_n hx hb dX0_round_81 rfl (lv_at hl 0 rfl) ?_
            refine lv_iconst (v := 0) hx hb dX0_round_82 (by decide) ?_
            refine va_zast hx hb hK hP hD hS 8 1 rfl rfl (vp_in_nI hi9 (by decide)) dX0_round_83 (fun H locs hP hD hS => ?_)
            rw [hc9] at hP hD
            have hP : va_P D vwCl (wX ad cI cZ it o n g v (r + 1) nx1 mt fl1 pr1 ofs ak hd (upd an1 i 0) ++ rs) H := hP
            have hD : va_D A (wX ad cI cZ it o n g v (r + 1) nx1 mt fl1 pr1 ofs ak hd (upd an1 i 0) ++ rs) := hD
            obtain ⟨v_5, ev_5⟩ : ∃ y : Int32, y = (nI i) + 1 := ⟨_, rfl⟩
            refine lv_iinc (v := v_5) (lv' := [(2, .int v_5), (0, .ref (ad 0)), (1, .int (sq_P it o n g))]) hx hb dX0_round_84 hl (k := 0) rfl (by rw [ev_5]; rfl) (by decide) rfl (fun ls hl => ?_)
            refine lv_goto (tgt := 17) hx hb dX0_round_87 (by decide) ?_
            obtain rfl : v_5 = nI (i + 1) := by rw [ev_5, nI_1]
            have hfi : fl i = fl1 i := by have q9 := (hinv i hi9).2.1; simp at q9; exact q9.symm
            have hai : an i = an1 i := by have q9 := (hinv i hi9).2.2.2; simp at q9; exact q9.symm
            have hR : sq_R it o n g fl an i = false := by simp [sq_R, hfi, hai, c_1, (Int32.not_le.mp c_1), (sq_z_t c_2), c_4, (Int32.not_lt.mpr c_4)]
            exact ih (i + 1) _ _ _ _ H locs ls (by omega) (by omega) (fun j hj => by
              obtain ⟨a1, a2, a3, a4⟩ := hinv j hj
              simp only [upd]
              by_cases hji : j = i
              · rw [hji] at a1 a2 a3 a4 ⊢
                simp only [Nat.lt_irrefl, false_and, if_false] at a1 a2 a3 a4
                simp [hR, a1, a2, a3, a4]
              · have e9 : (j < i + 1) = (j < i) := propext ⟨fun h => by omega, fun h => by omega⟩
                simp only [if_neg hji, e9]
                exact ⟨a1, a2, a3, a4⟩) hP hD hS (lv_sub hl [0, 1, 2] rfl)
          · -- 37 -> 40
            refine lv_aload_n hx hb dX0_round_40 rfl (lv_at hl 1 rfl) ?_
            refine va_get (D := D) (ci := 0) (v := .ref (ad 8)) (C := RX0) (T := TX0) (N := 14) hx hb hw9 uX0 hown hK hP 0 rfl rfl 13 (by decide) (hw9 _ mw_32) (fun _ h9 => h9) rfl dX0_round_41 ?_
            refine lv_iload_n hx hb dX0_round_44 rfl (lv_at hl 0 rfl) ?_
            refine va_zald hx hb hK hP 8 1 rfl rfl (vp_in_nI hi9 (by decide)) dX0_round_45 ?_
            rw [hc9]
            refine lv_if_ne (tgt := 77) hx hb dX0_round_46 (by decide) (fun c_6 => ?_) (fun c_6 => ?_)
            · -- 46 -> 77
              refine lv_aload_n hx hb dX0_round_77 rfl (lv_at hl 1 rfl) ?_
              refine va_get (D := D) (ci := 0) (v := .ref (ad 8)) (C := RX0) (T := TX0) (N := 14) hx hb hw9 uX0 hown hK hP 0 rfl rfl 13 (by decide) (hw9 _ mw_32) (fun _ h9 => h9) rfl dX0_round_78 ?_
              refine lv_iload_n hx hb dX0_round_81 rfl (lv_at hl 0 rfl) ?_
              refine lv_iconst (v := 0) hx hb dX0_round_82 (by decide) ?_
              refine va_zast hx hb hK hP hD hS 8 1 rfl rfl (vp_in_nI hi9 (by decide)) dX0_round_83 (fun H locs hP hD hS => ?_)
              rw [hc9] at hP hD
              have hP : va_P D vwCl (wX ad cI cZ it o n g v (r + 1) nx1 mt fl1 pr1 ofs ak hd (upd an1 i 0) ++ rs) H := hP
              have hD : va_D A (wX ad cI cZ it o n g v (r + 1) nx1 mt fl1 pr1 ofs ak hd (upd an1 i 0) ++ rs) := hD
              obtain ⟨v_7, ev_7⟩ : ∃ y : Int32, y = (nI i) + 1 := ⟨_, rfl⟩
              refine lv_iinc (v := v_7) (lv' := [(2, .int v_7), (0, .ref (ad 0)), (1, .int (sq_P it o n g))]) hx hb dX0_round_84 hl (k := 0) rfl (by rw [ev_7]; rfl) (by decide) rfl (fun ls hl => ?_)
              refine lv_goto (tgt := 17) hx hb dX0_round_87 (by decide) ?_
              obtain rfl : v_7 = nI (i + 1) := by rw [ev_7, nI_1]
              have hfi : fl i = fl1 i := by have q9 := (hinv i hi9).2.1; simp at q9; exact q9.symm
              have hai : an i = an1 i := by have q9 := (hinv i hi9).2.2.2; simp at q9; exact q9.symm
              have hR : sq_R it o n g fl an i = false := by simp [sq_R, hfi, hai, c_1, (Int32.not_le.mp c_1), (sq_z_t c_2), c_4, (Int32.not_le.mp c_4), c_6]
              exact ih (i + 1) _ _ _ _ H locs ls (by omega) (by omega) (fun j hj => by
                obtain ⟨a1, a2, a3, a4⟩ := hinv j hj
                simp only [upd]
                by_cases hji : j = i
                · rw [hji] at a1 a2 a3 a4 ⊢
                  simp only [Nat.lt_irrefl, false_and, if_false] at a1 a2 a3 a4
                  simp [hR, a1, a2, a3, a4]
                · have e9 : (j < i + 1) = (j < i) := propext ⟨fun h => by omega, fun h => by omega⟩
                  simp only [if_neg hji, e9]
                  exact ⟨a1, a2, a3, a4⟩) hP hD hS (lv_sub hl [0, 1, 2] rfl)
            · -- 46 -> 49
              refine lv_aload_n hx hb dX0_round_49 rfl (lv_at hl 1 rfl) ?_
              refine va_get (D := D) (ci := 0) (v := .ref (ad 1)) (C := RX0) (T := TX0) (N := 14) hx hb hw9 uX0 hown hK hP 0 rfl rfl 6 (by decide) (hw9 _ mw_25) (fun _ h9 => h9) rfl dX0_round_50 ?_
              refine lv_iload_n hx hb dX0_round_53 rfl (lv_at hl 0 rfl) ?_
              refine lv_aload_n hx hb dX0_round_54 rfl (lv_at hl 1 rfl) ?_
              refine va_get (D := D) (ci := 0) (v := .ref (ad 2)) (C := RX0) (T := TX0) (N := 14) hx hb hw9 uX0 hown hK hP 0 rfl rfl 7 (by decide) (hw9 _ mw_26) (fun _ h9 => h9) rfl dX0_round_55 ?_
              refine lv_iload_n hx hb dX0_round_58 rfl (lv_at hl 0 rfl) ?_
              refine va_iald hx hb hK hP 2 0 rfl rfl (vp_in_nI hi9 (by decide)) dX0_round_59 ?_
              rw [hc9]
              refine lv_iconst (v := 1) hx hb dX0_round_60 (by decide) ?_
              refine lv_iadd hx hb dX0_round_61 ?_
              refine va_iast hx hb hK hP hD hS 1 0 rfl rfl (vp_in_nI hi9 (by decide)) dX0_round_62 (fun H locs hP hD hS => ?_)
              rw [hc9] at hP hD
              have hP : va_P D vwCl (wX ad cI cZ it o n g v (r + 1) (upd nx1 i ((mt i) + 1)) mt fl1 pr1 ofs ak hd an1 ++ rs) H := hP
              have hD : va_D A (wX ad cI cZ it o n g v (r + 1) (upd nx1 i ((mt i) + 1)) mt fl1 pr1 ofs ak hd an1 ++ rs) := hD
              refine lv_aload_n hx hb dX0_round_63 rfl (lv_at hl 1 rfl) ?_
              refine va_get (D := D) (ci := 0) (v := .ref (ad 3)) (C := RX0) (T := TX0) (N := 14) hx hb hw9 uX0 hown hK hP 0 rfl rfl 8 (by decide) (hw9 _ mw_27) (fun _ h9 => h9) rfl dX0_round_64 ?_
              refine lv_iload_n hx hb dX0_round_67 rfl (lv_at hl 0 rfl) ?_
              refine lv_iconst (v := 0) hx hb dX0_round_68 (by decide) ?_
              refine va_iast hx hb hK hP hD hS 3 0 rfl rfl (vp_in_nI hi9 (by decide)) dX0_round_69 (fun H locs hP hD hS => ?_)
              rw [hc9] at hP hD
              have hP : va_P D vwCl (wX ad cI cZ it o n g v (r + 1) (upd nx1 i ((mt i) + 1)) mt (upd fl1 i 0) pr1 ofs ak hd an1 ++ rs) H := hP
              have hD : va_D A (wX ad cI cZ it o n g v (r + 1) (upd nx1 i ((mt i) + 1)) mt (upd fl1 i 0) pr1 ofs ak hd an1 ++ rs) := hD
              refine lv_aload_n hx hb dX0_round_70 rfl (lv_at hl 1 rfl) ?_
              refine va_get (D := D) (ci := 0) (v := .ref (ad 4)) (C := RX0) (T := TX0) (N := 14) hx hb hw9 uX0 hown hK hP 0 rfl rfl 9 (by decide) (hw9 _ mw_28) (fun _ h9 => h9) rfl dX0_round_71 ?_
              refine lv_iload_n hx hb dX0_round_74 rfl (lv_at hl 0 rfl) ?_
              refine lv_iconst (v := 1) hx hb dX0_round_75 (by decide) ?_
              refine va_zast hx hb hK hP hD hS 4 1 rfl rfl (vp_in_nI hi9 (by decide)) dX0_round_76 (fun H locs hP hD hS => ?_)
              rw [hc9] at hP hD
              have hP : va_P D vwCl (wX ad cI cZ it o n g v (r + 1) (upd nx1 i ((mt i) + 1)) mt (upd fl1 i 0) (upd pr1 i 1) ofs ak hd an1 ++ rs) H := hP
              have hD : va_D A (wX ad cI cZ it o n g v (r + 1) (upd nx1 i ((mt i) + 1)) mt (upd fl1 i 0) (upd pr1 i 1) ofs ak hd an1 ++ rs) := hD
              refine lv_aload_n hx hb dX0_round_77 rfl (lv_at hl 1 rfl) ?_
              refine va_get (D := D) (ci := 0) (v := .ref (ad 8)) (C := RX0) (T := TX0) (N := 14) hx hb hw9 uX0 hown hK hP 0 rfl rfl 13 (by decide) (hw9 _ mw_32) (fun _ h9 => h9) rfl dX0_round_78 ?_
              refine lv_iload_n hx hb dX0_round_81 rfl (lv_at hl 0 rfl) ?_
              refine lv_iconst (v := 0) hx hb dX0_round_82 (by decide) ?_
              refine va_zast hx hb hK hP hD hS 8 1 rfl rfl (vp_in_nI hi9 (by decide)) dX0_round_83 (fun H locs hP hD hS => ?_)
              rw [hc9] at hP hD
              have hP : va_P D vwCl (wX ad cI cZ it o n g v (r + 1) (upd nx1 i ((mt i) + 1)) mt (upd fl1 i 0) (upd pr1 i 1) ofs ak hd (upd an1 i 0) ++ rs) H := hP
              have hD : va_D A (wX ad cI cZ it o n g v (r + 1) (upd nx1 i ((mt i) + 1)) mt (upd fl1 i 0) (upd pr1 i 1) ofs ak hd (upd an1 i 0) ++ rs) := hD
              obtain ⟨v_8, ev_8⟩ : ∃ y : Int32, y = (nI i) + 1 := ⟨_, rfl⟩
              refine lv_iinc (v := v_8) (lv' := [(2, .int v_8), (0, .ref (ad 0)), (1, .int (sq_P it o n g))]) hx hb dX0_round_84 hl (k := 0) rfl (by rw [ev_8]; rfl) (by decide) rfl (fun ls hl => ?_)
              refine lv_goto (tgt := 17) hx hb dX0_round_87 (by decide) ?_
              obtain rfl : v_8 = nI (i + 1) := by rw [ev_8, nI_1]
              have hfi : fl i = fl1 i := by have q9 := (hinv i hi9).2.1; simp at q9; exact q9.symm
              have hai : an i = an1 i := by have q9 := (hinv i hi9).2.2.2; simp at q9; exact q9.symm
              have hR : sq_R it o n g fl an i = true := by simp [sq_R, hfi, hai, c_1, (Int32.not_le.mp c_1), (sq_z_t c_2), c_4, (Int32.not_le.mp c_4), c_6]
              exact ih (i + 1) _ _ _ _ H locs ls (by omega) (by omega) (fun j hj => by
                obtain ⟨a1, a2, a3, a4⟩ := hinv j hj
                simp only [upd]
                by_cases hji : j = i
                · rw [hji] at a1 a2 a3 a4 ⊢
                  simp only [Nat.lt_irrefl, false_and, if_false] at a1 a2 a3 a4
                  simp [hR, a1, a2, a3, a4]
                · have e9 : (j < i + 1) = (j < i) := propext ⟨fun h => by omega, fun h => by omega⟩
                  simp only [if_neg hji, e9]
                  exact ⟨a1, a2, a3, a4⟩) hP hD hS (lv_sub hl [0, 1, 2] rfl)
  exact loop 8 0 nx fl pr an _ _ ls (by decide) (by decide) (fun j hj => by simp) hP hD hS (lv_sub hl [0, 2, 1] rfl)
