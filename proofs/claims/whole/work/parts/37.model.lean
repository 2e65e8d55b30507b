set_option maxHeartbeats 4000000 in
set_option maxRecDepth 100000 in
theorem c_X1_agreed (l : Launch) (hl9 : l.stackTraces = false) (D : va_G) (cI : ClassId) (ty : kz_Y) (bd : Nat → Nat) (rs : va_W) (sz : Nat) (th it o n g v r : Int32) (nx mt fl pr ofs ak hd an : Nat → Int32) (p0 : Int32) (hM : sv_m it o n g v) (hmt : ∀ j, j < 7 → sq_N (mt j) = true) (hak : ∀ j, j < 7 → sq_N (ak j) = true) (hhd : ∀ j, j < 7 → sq_N (hd j) = true) : ez_M l yX1_agreed wsX1_agreed ({ frames := 3, cells := 1, slots := 6, locals := 66 } : Room) (kz_P D ((cI, .int) :: ty) (wM bd cI th it o n g v r (sm_al nx mt fl pr ofs ak hd an) ++ rs) sz [.ref (bd 0), .int p0]) (kz_Wr D (va_A (wM bd cI th it o n g v r (sm_al nx mt fl pr ofs ak hd an) ++ rs) sz) (kz_i (fun r9 => r9 = (if tc_agreed p0 = 0 then (if p0 = 0 then sq_A o n mt 7 else if p0 = 1 then sq_A o n ak 7 else sq_A o n hd 7) else 0))) (wM bd cI (nI (tc_agreed p0)) it o n g v r (sm_al nx mt fl pr ofs ak hd an) ++ rs)) (kz_T (fun _ => IAE) (fun _ => False)) 0 0 (va_A (wM bd cI th it o n g v r (sm_al nx mt fl pr ofs ak hd an) ++ rs) sz) := by
  refine ez_ofW (cc := cX1_agreed) (maxL := 7) (ret := (some .int)) (by decide) rfl ?_
  intro p e s m args below meth c s₁ B hml hTab hv
  obtain ⟨rfl, hsz, hP, hK, hD0, hE⟩ := hv
  have hx := B.exec
  have hb := B.bytes
  have hr := B.returns
  have hw9 : ∀ w ∈ kz_W9, w.before ([.ref (bd 0), .int p0] : List Value).toArray s = true := fun w h => atoms_spec (ws := wsX1_agreed) B.pre w (List.mem_cons_of_mem _ h)
  have hown : s.vm.findClass RX1 = some m.cls := findClass_of_methodNamed B.named
  have hlocks := B.notSynchronized
  subst hsz
  have hD := hD0.self (sz := s.heap.size)
  generalize hAe : va_A (wM bd cI th it o n g v r (sm_al nx mt fl pr ofs ak hd an) ++ rs) s.heap.size = A at hD hE ⊢
  have hA : ∀ q : Nat, s.heap.size ≤ q → A q := fun q h => by rw [← hAe]; exact Or.inr h
  have hS : va_S A s.heap s.heap [] := va_S.rf
  have hO : kz_O s.heap s.heap := kz_O.rf _
  have hl := lv_entry ([.ref (bd 0), .int p0]) (n := 7) (Nat.le_of_ble_eq_true rfl)
  rw [lg_entry_eq]
  generalize (lg_sl ([.ref (bd 0), .int p0]) ++ List.replicate (7 - (lg_sl ([.ref (bd 0), .int p0])).length) Slot.unset).toArray = ls at hl ⊢
  have hl : lv_has ls 7 [(0, .ref (bd 0)), (1, .int p0)] := hl
  obtain ⟨hIt, hOo, hNn, hGg, hVv⟩ := id hM
  obtain ⟨xo, ho8, eo⟩ := sm_S hOo
  obtain ⟨xn, hn8, en⟩ := sm_S hNn
  obtain ⟨xg, hg8, eg⟩ := sm_S hGg
  obtain ⟨xv, hv8, ev⟩ := sm_S hVv
  obtain ⟨hIa, hIe⟩ := sm_srv hIt
  refine lv_aload_n hx hb dX1_agreed_0 rfl (lv_at hl 0 rfl) ?_
  refine lv_iconst (v := 0) hx hb dX1_agreed_1 (by decide) ?_
  refine va_put (D := D) (ci := 1) (v := .int 0) (ty := .int) (C := RX1) (T := TX1) (N := 8) hx hb hw9 uX1 tyX1 tyX1_ok nmX1 hown hK hP hD hS 0 rfl rfl 0 (by decide) (hw9 _ mw_360) (fun _ h9 => h9) rfl (by decide +kernel) rfl rfl (Nat.le_of_ble_eq_true rfl) dX1_agreed_2 (fun H locs hP hD hS => ?_)
  have hP : va_P D vwCl (wM bd cI 0 it o n g v r (sm_al nx mt fl pr ofs ak hd an) ++ rs) H := hP
  have hD : va_D A (wM bd cI 0 it o n g v r (sm_al nx mt fl pr ofs ak hd an) ++ rs) := hD
  refine lv_iload_n hx hb dX1_agreed_5 rfl (lv_at hl 1 rfl) ?_
  refine lv_if_lt (tgt := 14) hx hb dX1_agreed_6 (by decide) (fun c_1 => ?_) (fun c_1 => ?_)
  · -- 6 -> 14
    refine lv_aload_n hx hb dX1_agreed_14 rfl (lv_at hl 0 rfl) ?_
    refine lv_iconst (v := 1) hx hb dX1_agreed_15 (by decide) ?_
    refine kz_wV (As := [.int 1]) (rest := []) ⟨hx, hb, hml, hown, hw9⟩ (c_X1_fail l hl9 D cI ty bd rs H.size 0 it o n g v r (sm_al nx mt fl pr ofs ak hd an) 1) (kz_cV 1 hw9 mw_411 mw_413 ms_12 mw_2 mw_414 rfl rfl (by decide +kernel) ⟨Nat.le_of_ble_eq_true rfl, Nat.le_of_ble_eq_true rfl⟩) (kz_preV (q0 := 0) (ci := 1) hK hP hD hS hA hE rfl rfl) rfl hl.1 rfl (Nat.le_of_ble_eq_true rfl) dX1_agreed_16 ⟨Nat.le_of_ble_eq_true rfl, Nat.le_of_ble_eq_true rfl⟩ hD hS hA (fun _ _ _ _ _ _ h => False.elim h) (fun v9 H locs hv9 hP hD hS => ?_)
    obtain ⟨_, rfl, rfl⟩ := hv9
    have hP : va_P D vwCl (wM bd cI 1 it o n g v r (sm_al nx mt fl pr ofs ak hd an) ++ rs) H := hP
    have hD : va_D A (wM bd cI 1 it o n g v r (sm_al nx mt fl pr ofs ak hd an) ++ rs) := hD
    refine W.eq (g2 := F0 m 19 ls [.int 0]) rfl ?_
    have htc : tc_agreed p0 = 1 := sm_tca (Or.inl c_1)
    exact kz_wreti hx hb hr hlocks (by rw [htc]; exact hP) (by rw [htc]; exact hD) hS (Nat.le_of_ble_eq_true rfl) (Nat.le_of_ble_eq_true rfl) (by rw [htc]; rfl)  dX1_agreed_19
  · -- 6 -> 9
    refine lv_iload_n hx hb dX1_agreed_9 rfl (lv_at hl 1 rfl) ?_
    refine lv_iconst (v := 2) hx hb dX1_agreed_10 (by decide) ?_
    refine lv_icmp_le (tgt := 20) hx hb dX1_agreed_11 (by decide) (fun c_2 => ?_) (fun c_2 => ?_)
    · -- 11 -> 20
      refine lv_iload_n hx hb dX1_agreed_20 rfl (lv_at hl 1 rfl) ?_
      refine lv_if_ne (tgt := 28) hx hb dX1_agreed_21 (by decide) (fun c_3 => ?_) (fun c_3 => ?_)
      · -- 21 -> 28
        refine lv_iload_n hx hb dX1_agreed_28 rfl (lv_at hl 1 rfl) ?_
        refine lv_iconst (v := 1) hx hb dX1_agreed_29 (by decide) ?_
        refine lv_icmp_ne (tgt := 37) hx hb dX1_agreed_30 (by decide) (fun c_4 => ?_) (fun c_4 => ?_)
        · -- 30 -> 37
          have hp2 : p0 = 2 := sm_q2 c_1 c_2 c_3 c_4
          refine lv_bipush (v := 6) hx hb dX1_agreed_37 (by decide) ?_
          refine lv_istore_n (lv' := [(2, .int 6), (0, .ref (bd 0)), (1, .int p0)]) hx hb dX1_agreed_39 rfl hl (by decide) rfl (fun ls hl => ?_)
          refine lv_iconst (v := 0) hx hb dX1_agreed_40 (by decide) ?_
          refine lv_istore_n (lv' := [(3, .int 0), (2, .int 6), (0, .ref (bd 0)), (1, .int p0)]) hx hb dX1_agreed_41 rfl hl (by decide) rfl (fun ls hl => ?_)
          refine lv_iconst (v := 1) hx hb dX1_agreed_42 (by decide) ?_
          refine lv_istore (lv' := [(4, .int 1), (3, .int 0), (2, .int 6), (0, .ref (bd 0)), (1, .int p0)]) hx hb dX1_agreed_43 hl (by decide) rfl (fun ls hl => ?_)
          have loop : ∀ (k c8 : Nat) (H : Heap) (locs : List Loc) (ls : Array Slot), c8 ≤ 127 → 127 < c8 + k → va_P D vwCl (wM bd cI 0 it o n g v r (sm_al nx mt fl pr ofs ak hd an) ++ rs) H → va_D A (wM bd cI 0 it o n g v r (sm_al nx mt fl pr ofs ak hd an) ++ rs) → va_S A s.heap H locs → lv_has ls 7 [(4, .int (nI (c8 + 1))), (3, .int (sm_bs o n hd c8)), (2, .int 6), (0, .ref (bd 0)), (1, .int p0)] → W p l e (headSpec wsX1_agreed ({ frames := 3, cells := 1, slots := 6, locals := 66 } : Room)).room s m ([.ref (bd 0), .int p0] : List Value).toArray below meth c H locs 0 0 (ez_MQ below (kz_Wr D A (kz_i (fun r9 => r9 = (if tc_agreed p0 = 0 then (if p0 = 0 then sq_A o n mt 7 else if p0 = 1 then sq_A o n ak 7 else sq_A o n hd 7) else 0))) (wM bd cI (nI (tc_agreed p0)) it o n g v r (sm_al nx mt fl pr ofs ak hd an) ++ rs)) (kz_T (fun _ => IAE) (fun _ => False)) s 0 0 A) (F0 m 45 ls []) := by
            intro k
            induction k with
            | zero => intro c8 H locs ls hc9 h2; omega
            | succ k ih =>
              intro c8 H locs ls hc9 hk9 hP hD hS hl
              refine lv_iload hx hb dX1_agreed_45 (lv_at hl 0 rfl) ?_
              refine lv_sipush (v := 128) hx hb dX1_agreed_47 (by decide) ?_
              refine lv_icmp_ge (tgt := 128) hx hb dX1_agreed_50 (by decide) (fun c_5 => ?_) (fun c_5 => ?_)
              · -- 50 -> 128
                have hc127 : c8 = 127 := sm_c127 hc9 c_5
                refine lv_iload_n hx hb dX1_agreed_128 rfl (lv_at hl 1 rfl) ?_
                have htc : tc_agreed p0 = 0 := by simp [tc_agreed, c_3, c_4, hp2]
                exact kz_wreti hx hb hr hlocks (by rw [htc]; exact hP) (by rw [htc]; exact hD) hS (Nat.le_of_ble_eq_true rfl) (Nat.le_of_ble_eq_true rfl) (by rw [htc]; exact (show (sm_bs o n hd c8) = (if p0 = 0 then sq_A o n mt 7 else if p0 = 1 then sq_A o n ak 7 else sq_A o n hd 7) from (by rw [hc127, sm_agr hM hhd]; simp [c_3, c_4, hp2])))  dX1_agreed_129
              · -- 50 -> 53
                have hcl : c8 + 1 < 128 := sm_cl hc9 c_5
                refine lv_ldc (v := 1000000001) hx hb hown (hw9 _ mw_489) dX1_agreed_53 ?_
                refine lv_istore (lv' := [(5, .int 1000000001), (4, .int (nI (c8 + 1))), (3, .int (sm_bs o n hd c8)), (2, .int 6), (0, .ref (bd 0)), (1, .int p0)]) hx hb dX1_agreed_55 hl (by decide) rfl (fun ls hl => ?_)
                refine lv_iconst (v := 0) hx hb dX1_agreed_57 (by decide) ?_
                refine lv_istore (lv' := [(6, .int 0), (5, .int 1000000001), (4, .int (nI (c8 + 1))), (3, .int (sm_bs o n hd c8)), (2, .int 6), (0, .ref (bd 0)), (1, .int p0)]) hx hb dX1_agreed_58 hl (by decide) rfl (fun ls hl => ?_)
                have loop2 : ∀ (k2 i : Nat) (H : Heap) (locs : List Loc) (ls : Array Slot), i ≤ 7 → 7 < i + k2 → va_P D vwCl (wM bd cI 0 it o n g v r (sm_al nx mt fl pr ofs ak hd an) ++ rs) H → va_D A (wM bd cI 0 it o n g v r (sm_al nx mt fl pr ofs ak hd an) ++ rs) → va_S A s.heap H locs → lv_has ls 7 [(6, .int (nI i)), (5, .int (sm_mn hd (c8 + 1) i)), (4, .int (nI (c8 + 1))), (3, .int (sm_bs o n hd c8)), (2, .int 6), (0, .ref (bd 0)), (1, .int p0)] → W p l e (headSpec wsX1_agreed ({ frames := 3, cells := 1, slots := 6, locals := 66 } : Room)).room s m ([.ref (bd 0), .int p0] : List Value).toArray below meth c H locs 0 0 (ez_MQ below (kz_Wr D A (kz_i (fun r9 => r9 = (if tc_agreed p0 = 0 then (if p0 = 0 then sq_A o n mt 7 else if p0 = 1 then sq_A o n ak 7 else sq_A o n hd 7) else 0))) (wM bd cI (nI (tc_agreed p0)) it o n g v r (sm_al nx mt fl pr ofs ak hd an) ++ rs)) (kz_T (fun _ => IAE) (fun _ => False)) s 0 0 A) (F0 m 60 ls []) := by
                  intro k2
                  induction k2 with
                  | zero => intro i H locs ls h1 h2; omega
                  | succ k2 ih2 =>
                    intro i H locs ls h1 h2 hP hD hS hl
                    refine lv_iload hx hb dX1_agreed_60 (lv_at hl 0 rfl) ?_
                    refine lv_bipush (v := 7) hx hb dX1_agreed_62 (by decide) ?_
                    refine lv_icmp_ge (tgt := 104) hx hb dX1_agreed_64 (by decide) (fun c_6 => ?_) (fun c_6 => ?_)
                    · -- 64 -> 104
                      have hi7 : i = 7 := kz_i7 h1 c_6
                      subst hi7
                      refine lv_aload_n hx hb dX1_agreed_104 rfl (lv_at hl 5 rfl) ?_
                      refine lv_iload hx hb dX1_agreed_105 (lv_at hl 2 rfl) ?_
                      refine kz_rV (As := [.int (nI (c8 + 1))]) (rest := []) ⟨hx, hb, hml, hown, hw9⟩ (c_X1_carries l hl9 D cI ty bd rs H.size 0 it o n g v r (sm_al nx mt fl pr ofs ak hd an) (nI (c8 + 1)) hM (sm_Su _ hcl)) (kz_cV 1 hw9 mw_419 mw_421 ms_13 mw_2 mw_422 rfl rfl (by decide +kernel) ⟨Nat.le_of_ble_eq_true rfl, Nat.le_of_ble_eq_true rfl⟩) (kz_preV (q0 := 0) (ci := 1) hK hP hD hS hA hE rfl rfl) rfl hl.1 rfl (Nat.le_of_ble_eq_true rfl) dX1_agreed_107 ⟨Nat.le_of_ble_eq_true rfl, Nat.le_of_ble_eq_true rfl⟩ (fun _ _ _ _ h => False.elim h) (fun v9 H hv9 hO1 => ?_)
                      obtain ⟨_, rfl, rfl⟩ := hv9
                      have hP := hO1.P hP
                      have hS := hO1.S hS
                      refine W.eq (g2 := F0 m 110 ls [.int (sq_z (sq_M o n (nI (c8 + 1))))]) rfl ?_
                      refine lv_if_eq (tgt := 122) hx hb dX1_agreed_110 (by decide) (fun c_7 => ?_) (fun c_7 => ?_)
                      · -- 110 -> 122
                        obtain ⟨v_8, ev_8⟩ : ∃ y : Int32, y = (nI (c8 + 1)) + 1 := ⟨_, rfl⟩
                        refine lv_iinc (v := v_8) (lv' := [(4, .int v_8), (6, .int (nI 7)), (5, .int (sm_mn hd (c8 + 1) 7)), (3, .int (sm_bs o n hd c8)), (2, .int 6), (0, .ref (bd 0)), (1, .int p0)]) hx hb dX1_agreed_122 hl (k := 2) rfl (by rw [ev_8]; rfl) (by decide) rfl (fun ls hl => ?_)
                        refine lv_goto (tgt := 45) hx hb dX1_agreed_125 (by decide) ?_
                        obtain rfl : v_8 = nI (c8 + 1 + 1) := by rw [ev_8, nI_1]
                        have e9 : sm_bs o n hd (c8 + 1) = (sm_bs o n hd c8) := by simp [sm_bs, c_1, (Int32.not_lt.mp c_1), c_2, (Int32.not_lt.mpr c_2), c_3, c_4, hp2, c_6, (Int32.not_lt.mpr c_6), (sq_z_f c_7)]
                        exact ih (c8 + 1) H locs ls (by omega) (by omega) hP hD hS (by rw [e9]; exact lv_sub hl [0, 3, 4, 5, 6] rfl)
                      · -- 110 -> 113
                        refine lv_iload hx hb dX1_agreed_113 (lv_at hl 1 rfl) ?_
                        refine lv_iload_n hx hb dX1_agreed_115 rfl (lv_at hl 3 rfl) ?_
                        refine lv_icmp_le (tgt := 122) hx hb dX1_agreed_116 (by decide) (fun c_9 => ?_) (fun c_9 => ?_)
                        · -- 116 -> 122
                          obtain ⟨v_10, ev_10⟩ : ∃ y : Int32, y = (nI (c8 + 1)) + 1 := ⟨_, rfl⟩
                          refine lv_iinc (v := v_10) (lv' := [(4, .int v_10), (6, .int (nI 7)), (5, .int (sm_mn hd (c8 + 1) 7)), (3, .int (sm_bs o n hd c8)), (2, .int 6), (0, .ref (bd 0)), (1, .int p0)]) hx hb dX1_agreed_122 hl (k := 2) rfl (by rw [ev_10]; rfl) (by decide) rfl (fun ls hl => ?_)
                          refine lv_goto (tgt := 45) hx hb dX1_agreed_125 (by decide) ?_
                          obtain rfl : v_10 = nI (c8 + 1 + 1) := by rw [ev_10, nI_1]
                          have e9 : sm_bs o n hd (c8 + 1) = (sm_bs o n hd c8) := by simp [sm_bs, c_1, (Int32.not_lt.mp c_1), c_2, (Int32.not_lt.mpr c_2), c_3, c_4, hp2, c_6, (Int32.not_lt.mpr c_6), (sq_z_t c_7), c_9, (Int32.not_lt.mpr c_9)]
                          exact ih (c8 + 1) H locs ls (by omega) (by omega) hP hD hS (by rw [e9]; exact lv_sub hl [0, 3, 4, 5, 6] rfl)
                        · -- 116 -> 119
                          refine lv_iload hx hb dX1_agreed_119 (lv_at hl 1 rfl) ?_
                          refine lv_istore_n (lv' := [(3, .int (sm_mn hd (c8 + 1) 7)), (6, .int (nI 7)), (5, .int (sm_mn hd (c8 + 1) 7)), (4, .int (nI (c8 + 1))), (2, .int 6), (0, .ref (bd 0)), (1, .int p0)]) hx hb dX1_agreed_121 rfl hl (by decide) rfl (fun ls hl => ?_)
                          obtain ⟨v_11, ev_11⟩ : ∃ y : Int32, y = (nI (c8 + 1)) + 1 := ⟨_, rfl⟩
                          refine lv_iinc (v := v_11) (lv' := [(4, .int v_11), (3, .int (sm_mn hd (c8 + 1) 7)), (6, .int (nI 7)), (5, .int (sm_mn hd (c8 + 1) 7)), (2, .int 6), (0, .ref (bd 0)), (1, .int p0)]) hx hb dX1_agreed_122 hl (k := 3) rfl (by rw [ev_11]; rfl) (by decide) rfl (fun ls hl => ?_)
                          refine lv_goto (tgt := 45) hx hb dX1_agreed_125 (by decide) ?_
                          obtain rfl : v_11 = nI (c8 + 1 + 1) := by rw [ev_11, nI_1]
                          have e9 : sm_bs o n hd (c8 + 1) = (sm_mn hd (c8 + 1) 7) := by simp [sm_bs, c_1, (Int32.not_lt.mp c_1), c_2, (Int32.not_lt.mpr c_2), c_3, c_4, hp2, c_6, (Int32.not_lt.mpr c_6), (sq_z_t c_7), c_9, (Int32.not_le.mp c_9)]
                          exact ih (c8 + 1) H locs ls (by omega) (by omega) hP hD hS (by rw [e9]; exact lv_sub hl [0, 1, 4, 5, 6] rfl)
                    · -- 64 -> 67
                      have hi9 : i < 7 := kz_l7 h1 c_6
                      have hc9 : (nI i).toNatClampNeg = i := nI_clamp (by omega)
                      refine lv_iload hx hb dX1_agreed_67 (lv_at hl 2 rfl) ?_
                      refine lv_iload hx hb dX1_agreed_69 (lv_at hl 0 rfl) ?_
                      refine kz_rS (As := [.int (nI (c8 + 1)), .int (nI i)]) (rest := []) ⟨hx, hb, hml, hown, hw9⟩ (c_X1_has l hl9 D ((cI, .int) :: ty) (wM bd cI 0 it o n g v r (sm_al nx mt fl pr ofs ak hd an) ++ rs) H.size (nI (c8 + 1)) (nI i)) (kz_cS 2 hw9 mw_400 mw_401 mw_2 mw_402 rfl rfl (by decide +kernel) ⟨Nat.le_of_ble_eq_true rfl, Nat.le_of_ble_eq_true rfl⟩) (kz_preS hK hP hD hS hA hE) rfl hl.1 rfl (Nat.le_of_ble_eq_true rfl) dX1_agreed_71 ⟨Nat.le_of_ble_eq_true rfl, Nat.le_of_ble_eq_true rfl⟩ (fun _ _ _ _ h => False.elim h) (fun v9 H hv9 hO1 => ?_)
                      obtain ⟨_, rfl, rfl⟩ := hv9
                      have hP := hO1.P hP
                      have hS := hO1.S hS
                      refine W.eq (g2 := F0 m 74 ls [.int (sq_z (sm_h (nI (c8 + 1)) (nI i)))]) rfl ?_
                      refine lv_if_eq (tgt := 98) hx hb dX1_agreed_74 (by decide) (fun c_12 => ?_) (fun c_12 => ?_)
                      · -- 74 -> 98
                        obtain ⟨v_13, ev_13⟩ : ∃ y : Int32, y = (nI i) + 1 := ⟨_, rfl⟩
                        refine lv_iinc (v := v_13) (lv' := [(6, .int v_13), (5, .int (sm_mn hd (c8 + 1) i)), (4, .int (nI (c8 + 1))), (3, .int (sm_bs o n hd c8)), (2, .int 6), (0, .ref (bd 0)), (1, .int p0)]) hx hb dX1_agreed_98 hl (k := 0) rfl (by rw [ev_13]; rfl) (by decide) rfl (fun ls hl => ?_)
                        refine lv_goto (tgt := 60) hx hb dX1_agreed_101 (by decide) ?_
                        obtain rfl : v_13 = nI (i + 1) := by rw [ev_13, nI_1]
                        have tb : sm_h (nI (c8 + 1)) (nI i) = (c8 + 1).testBit i := sm_has (c8 + 1) hcl i hi9
                        have e9 : sm_mn hd (c8 + 1) (i + 1) = (sm_mn hd (c8 + 1) i) := by simp [sm_mn, ← tb, c_1, (Int32.not_lt.mp c_1), c_2, (Int32.not_lt.mpr c_2), c_3, c_4, hp2, c_6, (Int32.not_le.mp c_6), (sq_z_f c_12)]
                        exact ih2 (i + 1) H locs ls (by omega) (by omega) hP hD hS (by rw [e9]; exact lv_sub hl [0, 1, 2, 3, 4, 5, 6] rfl)
                      · -- 74 -> 77
                        refine lv_aload_n hx hb dX1_agreed_77 rfl (lv_at hl 5 rfl) ?_
                        refine lv_iload hx hb dX1_agreed_78 (lv_at hl 0 rfl) ?_
                        refine lv_iload_n hx hb dX1_agreed_80 rfl (lv_at hl 4 rfl) ?_
                        refine kz_rV (As := [.int (nI i), .int 6]) (rest := []) ⟨hx, hb, hml, hown, hw9⟩ (c_X1_get l hl9 D cI ty bd rs H.size 0 it o n g v r (sm_al nx mt fl pr ofs ak hd an) i 6 (nI i) 6 hi9 (by decide) rfl rfl) (kz_cV 2 hw9 mw_403 mw_405 ms_11 mw_2 mw_406 rfl rfl (by decide +kernel) ⟨Nat.le_of_ble_eq_true rfl, Nat.le_of_ble_eq_true rfl⟩) (kz_preV (q0 := 0) (ci := 1) hK hP hD hS hA hE rfl rfl) rfl hl.1 rfl (Nat.le_of_ble_eq_true rfl) dX1_agreed_81 ⟨Nat.le_of_ble_eq_true rfl, Nat.le_of_ble_eq_true rfl⟩ (fun _ _ _ _ h => False.elim h) (fun v9 H hv9 hO1 => ?_)
                        obtain ⟨_, rfl, rfl⟩ := hv9
                        have hP := hO1.P hP
                        have hS := hO1.S hS
                        rw [sm_g6]
                        refine W.eq (g2 := F0 m 84 ls [.int (hd i)]) rfl ?_
                        refine lv_iload hx hb dX1_agreed_84 (lv_at hl 1 rfl) ?_
                        refine lv_icmp_ge (tgt := 98) hx hb dX1_agreed_86 (by decide) (fun c_14 => ?_) (fun c_14 => ?_)
                        · -- 86 -> 98
                          obtain ⟨v_15, ev_15⟩ : ∃ y : Int32, y = (nI i) + 1 := ⟨_, rfl⟩
                          refine lv_iinc (v := v_15) (lv' := [(6, .int v_15), (5, .int (sm_mn hd (c8 + 1) i)), (4, .int (nI (c8 + 1))), (3, .int (sm_bs o n hd c8)), (2, .int 6), (0, .ref (bd 0)), (1, .int p0)]) hx hb dX1_agreed_98 hl (k := 0) rfl (by rw [ev_15]; rfl) (by decide) rfl (fun ls hl => ?_)
                          refine lv_goto (tgt := 60) hx hb dX1_agreed_101 (by decide) ?_
                          obtain rfl : v_15 = nI (i + 1) := by rw [ev_15, nI_1]
                          have tb : sm_h (nI (c8 + 1)) (nI i) = (c8 + 1).testBit i := sm_has (c8 + 1) hcl i hi9
                          have e9 : sm_mn hd (c8 + 1) (i + 1) = (sm_mn hd (c8 + 1) i) := by simp [sm_mn, ← tb, c_1, (Int32.not_lt.mp c_1), c_2, (Int32.not_lt.mpr c_2), c_3, c_4, hp2, c_6, (Int32.not_le.mp c_6), (sq_z_t c_12), c_14, (Int32.not_lt.mpr c_14)]
                          exact ih2 (i + 1) H locs ls (by omega) (by omega) hP hD hS (by rw [e9]; exact lv_sub hl [0, 1, 2, 3, 4, 5, 6] rfl)
                        · -- 86 -> 89
                          refine lv_aload_n hx hb dX1_agreed_89 rfl (lv_at hl 5 rfl) ?_
                          refine lv_iload hx hb dX1_agreed_90 (lv_at hl 0 rfl) ?_
                          refine lv_iload_n hx hb dX1_agreed_92 rfl (lv_at hl 4 rfl) ?_
                          refine kz_rV (As := [.int (nI i), .int 6]) (rest := []) ⟨hx, hb, hml, hown, hw9⟩ (c_X1_get l hl9 D cI ty bd rs H.size 0 it o n g v r (sm_al nx mt fl pr ofs ak hd an) i 6 (nI i) 6 hi9 (by decide) rfl rfl) (kz_cV 2 hw9 mw_403 mw_405 ms_11 mw_2 mw_406 rfl rfl (by decide +kernel) ⟨Nat.le_of_ble_eq_true rfl, Nat.le_of_ble_eq_true rfl⟩) (kz_preV (q0 := 0) (ci := 1) hK hP hD hS hA hE rfl rfl) rfl hl.1 rfl (Nat.le_of_ble_eq_true rfl) dX1_agreed_93 ⟨Nat.le_of_ble_eq_true rfl, Nat.le_of_ble_eq_true rfl⟩ (fun _ _ _ _ h => False.elim h) (fun v9 H hv9 hO1 => ?_)
                          obtain ⟨_, rfl, rfl⟩ := hv9
                          have hP := hO1.P hP
                          have hS := hO1.S hS
                          rw [sm_g6]
                          refine W.eq (g2 := F0 m 96 ls [.int (hd i)]) rfl ?_
                          refine lv_istore (lv' := [(5, .int (hd i)), (6, .int (nI i)), (4, .int (nI (c8 + 1))), (3, .int (sm_bs o n hd c8)), (2, .int 6), (0, .ref (bd 0)), (1, .int p0)]) hx hb dX1_agreed_96 hl (by decide) rfl (fun ls hl => ?_)
                          obtain ⟨v_16, ev_16⟩ : ∃ y : Int32, y = (nI i) + 1 := ⟨_, rfl⟩
                          refine lv_iinc (v := v_16) (lv' := [(6, .int v_16), (5, .int (hd i)), (4, .int (nI (c8 + 1))), (3, .int (sm_bs o n hd c8)), (2, .int 6), (0, .ref (bd 0)), (1, .int p0)]) hx hb dX1_agreed_98 hl (k := 1) rfl (by rw [ev_16]; rfl) (by decide) rfl (fun ls hl => ?_)
                          refine lv_goto (tgt := 60) hx hb dX1_agreed_101 (by decide) ?_
                          obtain rfl : v_16 = nI (i + 1) := by rw [ev_16, nI_1]
                          have tb : sm_h (nI (c8 + 1)) (nI i) = (c8 + 1).testBit i := sm_has (c8 + 1) hcl i hi9
                          have e9 : sm_mn hd (c8 + 1) (i + 1) = (hd i) := by simp [sm_mn, ← tb, c_1, (Int32.not_lt.mp c_1), c_2, (Int32.not_lt.mpr c_2), c_3, c_4, hp2, c_6, (Int32.not_le.mp c_6), (sq_z_t c_12), c_14, (Int32.not_le.mp c_14)]
                          exact ih2 (i + 1) H locs ls (by omega) (by omega) hP hD hS (by rw [e9]; exact lv_sub hl [0, 1, 2, 3, 4, 5, 6] rfl)
                exact loop2 8 0 H locs ls (by decide) (by decide) hP hD hS (lv_sub hl [0, 1, 2, 3, 4, 5, 6] rfl)
          exact loop 128 0 H locs ls (by decide) (by decide) hP hD hS (lv_sub hl [0, 1, 2, 3, 4] rfl)
        · -- 30 -> 33
          refine lv_iconst (v := 5) hx hb dX1_agreed_33 (by decide) ?_
          refine lv_goto (tgt := 39) hx hb dX1_agreed_34 (by decide) ?_
          refine lv_istore_n (lv' := [(2, .int 5), (0, .ref (bd 0)), (1, .int p0)]) hx hb dX1_agreed_39 rfl hl (by decide) rfl (fun ls hl => ?_)
          refine lv_iconst (v := 0) hx hb dX1_agreed_40 (by decide) ?_
          refine lv_istore_n (lv' := [(3, .int 0), (2, .int 5), (0, .ref (bd 0)), (1, .int p0)]) hx hb dX1_agreed_41 rfl hl (by decide) rfl (fun ls hl => ?_)
          refine lv_iconst (v := 1) hx hb dX1_agreed_42 (by decide) ?_
          refine lv_istore (lv' := [(4, .int 1), (3, .int 0), (2, .int 5), (0, .ref (bd 0)), (1, .int p0)]) hx hb dX1_agreed_43 hl (by decide) rfl (fun ls hl => ?_)
          have loop : ∀ (k c8 : Nat) (H : Heap) (locs : List Loc) (ls : Array Slot), c8 ≤ 127 → 127 < c8 + k → va_P D vwCl (wM bd cI 0 it o n g v r (sm_al nx mt fl pr ofs ak hd an) ++ rs) H → va_D A (wM bd cI 0 it o n g v r (sm_al nx mt fl pr ofs ak hd an) ++ rs) → va_S A s.heap H locs → lv_has ls 7 [(4, .int (nI (c8 + 1))), (3, .int (sm_bs o n ak c8)), (2, .int 5), (0, .ref (bd 0)), (1, .int p0)] → W p l e (headSpec wsX1_agreed ({ frames := 3, cells := 1, slots := 6, locals := 66 } : Room)).room s m ([.ref (bd 0), .int p0] : List Value).toArray below meth c H locs 0 0 (ez_MQ below (kz_Wr D A (kz_i (fun r9 => r9 = (if tc_agreed p0 = 0 then (if p0 = 0 then sq_A o n mt 7 else if p0 = 1 then sq_A o n ak 7 else sq_A o n hd 7) else 0))) (wM bd cI (nI (tc_agreed p0)) it o n g v r (sm_al nx mt fl pr ofs ak hd an) ++ rs)) (kz_T (fun _ => IAE) (fun _ => False)) s 0 0 A) (F0 m 45 ls []) := by
            intro k
            induction k with
            | zero => intro c8 H locs ls hc9 h2; omega
            | succ k ih =>
              intro c8 H locs ls hc9 hk9 hP hD hS hl
              refine lv_iload hx hb dX1_agreed_45 (lv_at hl 0 rfl) ?_
              refine lv_sipush (v := 128) hx hb dX1_agreed_47 (by decide) ?_
              refine lv_icmp_ge (tgt := 128) hx hb dX1_agreed_50 (by decide) (fun c_17 => ?_) (fun c_17 => ?_)
              · -- 50 -> 128
                have hc127 : c8 = 127 := sm_c127 hc9 c_17
                refine lv_iload_n hx hb dX1_agreed_128 rfl (lv_at hl 1 rfl) ?_
                have htc : tc_agreed p0 = 0 := by simp [tc_agreed, c_3, c_4]
                exact kz_wreti hx hb hr hlocks (by rw [htc]; exact hP) (by rw [htc]; exact hD) hS (Nat.le_of_ble_eq_true rfl) (Nat.le_of_ble_eq_true rfl) (by rw [htc]; exact (show (sm_bs o n ak c8) = (if p0 = 0 then sq_A o n mt 7 else if p0 = 1 then sq_A o n ak 7 else sq_A o n hd 7) from (by rw [hc127, sm_agr hM hak]; simp [c_3, c_4])))  dX1_agreed_129
              · -- 50 -> 53
                have hcl : c8 + 1 < 128 := sm_cl hc9 c_17
                refine lv_ldc (v := 1000000001) hx hb hown (hw9 _ mw_489) dX1_agreed_53 ?_
                refine lv_istore (lv' := [(5, .int 1000000001), (4, .int (nI (c8 + 1))), (3, .int (sm_bs o n ak c8)), (2, .int 5), (0, .ref (bd 0)), (1, .int p0)]) hx hb dX1_agreed_55 hl (by decide) rfl (fun ls hl => ?_)
                refine lv_iconst (v := 0) hx hb dX1_agreed_57 (by decide) ?_
                refine lv_istore (lv' := [(6, .int 0), (5, .int 1000000001), (4, .int (nI (c8 + 1))), (3, .int (sm_bs o n ak c8)), (2, .int 5), (0, .ref (bd 0)), (1, .int p0)]) hx hb dX1_agreed_58 hl (by decide) rfl (fun ls hl => ?_)
                have loop2 : ∀ (k2 i : Nat) (H : Heap) (locs : List Loc) (ls : Array Slot), i ≤ 7 → 7 < i + k2 → va_P D vwCl (wM bd cI 0 it o n g v r (sm_al nx mt fl pr ofs ak hd an) ++ rs) H → va_D A (wM bd cI 0 it o n g v r (sm_al nx mt fl pr ofs ak hd an) ++ rs) → va_S A s.heap H locs → lv_has ls 7 [(6, .int (nI i)), (5, .int (sm_mn ak (c8 + 1) i)), (4, .int (nI (c8 + 1))), (3, .int (sm_bs o n ak c8)), (2, .int 5), (0, .ref (bd 0)), (1, .int p0)] → W p l e (headSpec wsX1_agreed ({ frames := 3, cells := 1, slots := 6, locals := 66 } : Room)).room s m ([.ref (bd 0), .int p0] : List Value).toArray below meth c H locs 0 0 (ez_MQ below (kz_Wr D A (kz_i (fun r9 => r9 = (if tc_agreed p0 = 0 then (if p0 = 0 then sq_A o n mt 7 else if p0 = 1 then sq_A o n ak 7 else sq_A o n hd 7) else 0))) (wM bd cI (nI (tc_agreed p0)) it o n g v r (sm_al nx mt fl pr ofs ak hd an) ++ rs)) (kz_T (fun _ => IAE) (fun _ => False)) s 0 0 A) (F0 m 60 ls []) := by
                  intro k2
                  induction k2 with
                  | zero => intro i H locs ls h1 h2; omega
                  | succ k2 ih2 =>
                    intro i H locs ls h1 h2 hP hD hS hl
                    refine lv_iload hx hb dX1_agreed_60 (lv_at hl 0 rfl) ?_
                    refine lv_bipush (v := 7) hx hb dX1_agreed_62 (by decide) ?_
                    refine lv_icmp_ge (tgt := 104) hx hb dX1_agreed_64 (by decide) (fun c_18 => ?_) (fun c_18 => ?_)
                    · -- 64 -> 104
                      have hi7 : i = 7 := kz_i7 h1 c_18
                      subst hi7
                      refine lv_aload_n hx hb dX1_agreed_104 rfl (lv_at hl 5 rfl) ?_
                      refine lv_iload hx hb dX1_agreed_105 (lv_at hl 2 rfl) ?_
                      refine kz_rV (As := [.int (nI (c8 + 1))]) (rest := []) ⟨hx, hb, hml, hown, hw9⟩ (c_X1_carries l hl9 D cI ty bd rs H.size 0 it o n g v r (sm_al nx mt fl pr ofs ak hd an) (nI (c8 + 1)) hM (sm_Su _ hcl)) (kz_cV 1 hw9 mw_419 mw_421 ms_13 mw_2 mw_422 rfl rfl (by decide +kernel) ⟨Nat.le_of_ble_eq_true rfl, Nat.le_of_ble_eq_true rfl⟩) (kz_preV (q0 := 0) (ci := 1) hK hP hD hS hA hE rfl rfl) rfl hl.1 rfl (Nat.le_of_ble_eq_true rfl) dX1_agreed_107 ⟨Nat.le_of_ble_eq_true rfl, Nat.le_of_ble_eq_true rfl⟩ (fun _ _ _ _ h => False.elim h) (fun v9 H hv9 hO1 => ?_)
                      obtain ⟨_, rfl, rfl⟩ := hv9
                      have hP := hO1.P hP
                      have hS := hO1.S hS
                      refine W.eq (g2 := F0 m 110 ls [.int (sq_z (sq_M o n (nI (c8 + 1))))]) rfl ?_
                      refine lv_if_eq (tgt := 122) hx hb dX1_agreed_110 (by decide) (fun c_19 => ?_) (fun c_19 => ?_)
                      · -- 110 -> 122
                        obtain ⟨v_20, ev_20⟩ : ∃ y : Int32, y = (nI (c8 + 1)) + 1 := ⟨_, rfl⟩
                        refine lv_iinc (v := v_20) (lv' := [(4, .int v_20), (6, .int (nI 7)), (5, .int (sm_mn ak (c8 + 1) 7)), (3, .int (sm_bs o n ak c8)), (2, .int 5), (0, .ref (bd 0)), (1, .int p0)]) hx hb dX1_agreed_122 hl (k := 2) rfl (by rw [ev_20]; rfl) (by decide) rfl (fun ls hl => ?_)
                        refine lv_goto (tgt := 45) hx hb dX1_agreed_125 (by decide) ?_
                        obtain rfl : v_20 = nI (c8 + 1 + 1) := by rw [ev_20, nI_1]
                        have e9 : sm_bs o n ak (c8 + 1) = (sm_bs o n ak c8) := by simp [sm_bs, c_1, (Int32.not_lt.mp c_1), c_2, (Int32.not_lt.mpr c_2), c_3, c_4, c_18, (Int32.not_lt.mpr c_18), (sq_z_f c_19)]
                        exact ih (c8 + 1) H locs ls (by omega) (by omega) hP hD hS (by rw [e9]; exact lv_sub hl [0, 3, 4, 5, 6] rfl)
                      · -- 110 -> 113
                        refine lv_iload hx hb dX1_agreed_113 (lv_at hl 1 rfl) ?_
                        refine lv_iload_n hx hb dX1_agreed_115 rfl (lv_at hl 3 rfl) ?_
                        refine lv_icmp_le (tgt := 122) hx hb dX1_agreed_116 (by decide) (fun c_21 => ?_) (fun c_21 => ?_)
                        · -- 116 -> 122
                          obtain ⟨v_22, ev_22⟩ : ∃ y : Int32, y = (nI (c8 + 1)) + 1 := ⟨_, rfl⟩
                          refine lv_iinc (v := v_22) (lv' := [(4, .int v_22), (6, .int (nI 7)), (5, .int (sm_mn ak (c8 + 1) 7)), (3, .int (sm_bs o n ak c8)), (2, .int 5), (0, .ref (bd 0)), (1, .int p0)]) hx hb dX1_agreed_122 hl (k := 2) rfl (by rw [ev_22]; rfl) (by decide) rfl (fun ls hl => ?_)
                          refine lv_goto (tgt := 45) hx hb dX1_agreed_125 (by decide) ?_
                          obtain rfl : v_22 = nI (c8 + 1 + 1) := by rw [ev_22, nI_1]
                          have e9 : sm_bs o n ak (c8 + 1) = (sm_bs o n ak c8) := by simp [sm_bs, c_1, (Int32.not_lt.mp c_1), c_2, (Int32.not_lt.mpr c_2), c_3, c_4, c_18, (Int32.not_lt.mpr c_18), (sq_z_t c_19), c_21, (Int32.not_lt.mpr c_21)]
                          exact ih (c8 + 1) H locs ls (by omega) (by omega) hP hD hS (by rw [e9]; exact lv_sub hl [0, 3, 4, 5, 6] rfl)
                        · -- 116 -> 119
                          refine lv_iload hx hb dX1_agreed_119 (lv_at hl 1 rfl) ?_
                          refine lv_istore_n (lv' := [(3, .int (sm_mn ak (c8 + 1) 7)), (6, .int (nI 7)), (5, .int (sm_mn ak (c8 + 1) 7)), (4, .int (nI (c8 + 1))), (2, .int 5), (0, .ref (bd 0)), (1, .int p0)]) hx hb dX1_agreed_121 rfl hl (by decide) rfl (fun ls hl => ?_)
                          obtain ⟨v_23, ev_23⟩ : ∃ y : Int32, y = (nI (c8 + 1)) + 1 := ⟨_, rfl⟩
                          refine lv_iinc (v := v_23) (lv' := [(4, .int v_23), (3, .int (sm_mn ak (c8 + 1) 7)), (6, .int (nI 7)), (5, .int (sm_mn ak (c8 + 1) 7)), (2, .int 5), (0, .ref (bd 0)), (1, .int p0)]) hx hb dX1_agreed_122 hl (k := 3) rfl (by rw [ev_23]; rfl) (by decide) rfl (fun ls hl => ?_)
                          refine lv_goto (tgt := 45) hx hb dX1_agreed_125 (by decide) ?_
                          obtain rfl : v_23 = nI (c8 + 1 + 1) := by rw [ev_23, nI_1]
                          have e9 : sm_bs o n ak (c8 + 1) = (sm_mn ak (c8 + 1) 7) := by simp [sm_bs, c_1, (Int32.not_lt.mp c_1), c_2, (Int32.not_lt.mpr c_2), c_3, c_4, c_18, (Int32.not_lt.mpr c_18), (sq_z_t c_19), c_21, (Int32.not_le.mp c_21)]
                          exact ih (c8 + 1) H locs ls (by omega) (by omega) hP hD hS (by rw [e9]; exact lv_sub hl [0, 1, 4, 5, 6] rfl)
                    · -- 64 -> 67
                      have hi9 : i < 7 := kz_l7 h1 c_18
                      have hc9 : (nI i).toNatClampNeg = i := nI_clamp (by omega)
                      refine lv_iload hx hb dX1_agreed_67 (lv_at hl 2 rfl) ?_
                      refine lv_iload hx hb dX1_agreed_69 (lv_at hl 0 rfl) ?_
                      refine kz_rS (As := [.int (nI (c8 + 1)), .int (nI i)]) (rest := []) ⟨hx, hb, hml, hown, hw9⟩ (c_X1_has l hl9 D ((cI, .int) :: ty) (wM bd cI 0 it o n g v r (sm_al nx mt fl pr ofs ak hd an) ++ rs) H.size (nI (c8 + 1)) (nI i)) (kz_cS 2 hw9 mw_400 mw_401 mw_2 mw_402 rfl rfl (by decide +kernel) ⟨Nat.le_of_ble_eq_true rfl, Nat.le_of_ble_eq_true rfl⟩) (kz_preS hK hP hD hS hA hE) rfl hl.1 rfl (Nat.le_of_ble_eq_true rfl) dX1_agreed_71 ⟨Nat.le_of_ble_eq_true rfl, Nat.le_of_ble_eq_true rfl⟩ (fun _ _ _ _ h => False.elim h) (fun v9 H hv9 hO1 => ?_)
                      obtain ⟨_, rfl, rfl⟩ := hv9
                      have hP := hO1.P hP
                      have hS := hO1.S hS
                      refine W.eq (g2 := F0 m 74 ls [.int (sq_z (sm_h (nI (c8 + 1)) (nI i)))]) rfl ?_
                      refine lv_if_eq (tgt := 98) hx hb dX1_agreed_74 (by decide) (fun c_24 => ?_) (fun c_24 => ?_)
                      · -- 74 -> 98
                        obtain ⟨v_25, ev_25⟩ : ∃ y : Int32, y = (nI i) + 1 := ⟨_, rfl⟩
                        refine lv_iinc (v := v_25) (lv' := [(6, .int v_25), (5, .int (sm_mn ak (c8 + 1) i)), (4, .int (nI (c8 + 1))), (3, .int (sm_bs o n ak c8)), (2, .int 5), (0, .ref (bd 0)), (1, .int p0)]) hx hb dX1_agreed_98 hl (k := 0) rfl (by rw [ev_25]; rfl) (by decide) rfl (fun ls hl => ?_)
                        refine lv_goto (tgt := 60) hx hb dX1_agreed_101 (by decide) ?_
                        obtain rfl : v_25 = nI (i + 1) := by rw [ev_25, nI_1]
                        have tb : sm_h (nI (c8 + 1)) (nI i) = (c8 + 1).testBit i := sm_has (c8 + 1) hcl i hi9
                        have e9 : sm_mn ak (c8 + 1) (i + 1) = (sm_mn ak (c8 + 1) i) := by simp [sm_mn, ← tb, c_1, (Int32.not_lt.mp c_1), c_2, (Int32.not_lt.mpr c_2), c_3, c_4, c_18, (Int32.not_le.mp c_18), (sq_z_f c_24)]
                        exact ih2 (i + 1) H locs ls (by omega) (by omega) hP hD hS (by rw [e9]; exact lv_sub hl [0, 1, 2, 3, 4, 5, 6] rfl)
                      · -- 74 -> 77
                        refine lv_aload_n hx hb dX1_agreed_77 rfl (lv_at hl 5 rfl) ?_
                        refine lv_iload hx hb dX1_agreed_78 (lv_at hl 0 rfl) ?_
                        refine lv_iload_n hx hb dX1_agreed_80 rfl (lv_at hl 4 rfl) ?_
                        refine kz_rV (As := [.int (nI i), .int 5]) (rest := []) ⟨hx, hb, hml, hown, hw9⟩ (c_X1_get l hl9 D cI ty bd rs H.size 0 it o n g v r (sm_al nx mt fl pr ofs ak hd an) i 5 (nI i) 5 hi9 (by decide) rfl rfl) (kz_cV 2 hw9 mw_403 mw_405 ms_11 mw_2 mw_406 rfl rfl (by decide +kernel) ⟨Nat.le_of_ble_eq_true rfl, Nat.le_of_ble_eq_true rfl⟩) (kz_preV (q0 := 0) (ci := 1) hK hP hD hS hA hE rfl rfl) rfl hl.1 rfl (Nat.le_of_ble_eq_true rfl) dX1_agreed_81 ⟨Nat.le_of_ble_eq_true rfl, Nat.le_of_ble_eq_true rfl⟩ (fun _ _ _ _ h => False.elim h) (fun v9 H hv9 hO1 => ?_)
                        obtain ⟨_, rfl, rfl⟩ := hv9
                        have hP := hO1.P hP
                        have hS := hO1.S hS
                        rw [sm_g5]
                        refine W.eq (g2 := F0 m 84 ls [.int (ak i)]) rfl ?_
                        refine lv_iload hx hb dX1_agreed_84 (lv_at hl 1 rfl) ?_
                        refine lv_icmp_ge (tgt := 98) hx hb dX1_agreed_86 (by decide) (fun c_26 => ?_) (fun c_26 => ?_)
                        · -- 86 -> 98
                          obtain ⟨v_27, ev_27⟩ : ∃ y : Int32, y = (nI i) + 1 := ⟨_, rfl⟩
                          refine lv_iinc (v := v_27) (lv' := [(6, .int v_27), (5, .int (sm_mn ak (c8 + 1) i)), (4, .int (nI (c8 + 1))), (3, .int (sm_bs o n ak c8)), (2, .int 5), (0, .ref (bd 0)), (1, .int p0)]) hx hb dX1_agreed_98 hl (k := 0) rfl (by rw [ev_27]; rfl) (by decide) rfl (fun ls hl => ?_)
                          refine lv_goto (tgt := 60) hx hb dX1_agreed_101 (by decide) ?_
                          obtain rfl : v_27 = nI (i + 1) := by rw [ev_27, nI_1]
                          have tb : sm_h (nI (c8 + 1)) (nI i) = (c8 + 1).testBit i := sm_has (c8 + 1) hcl i hi9
                          have e9 : sm_mn ak (c8 + 1) (i + 1) = (sm_mn ak (c8 + 1) i) := by simp [sm_mn, ← tb, c_1, (Int32.not_lt.mp c_1), c_2, (Int32.not_lt.mpr c_2), c_3, c_4, c_18, (Int32.not_le.mp c_18), (sq_z_t c_24), c_26, (Int32.not_lt.mpr c_26)]
                          exact ih2 (i + 1) H locs ls (by omega) (by omega) hP hD hS (by rw [e9]; exact lv_sub hl [0, 1, 2, 3, 4, 5, 6] rfl)
                        · -- 86 -> 89
                          refine lv_aload_n hx hb dX1_agreed_89 rfl (lv_at hl 5 rfl) ?_
                          refine lv_iload hx hb dX1_agreed_90 (lv_at hl 0 rfl) ?_
                          refine lv_iload_n hx hb dX1_agreed_92 rfl (lv_at hl 4 rfl) ?_
                          refine kz_rV (As := [.int (nI i), .int 5]) (rest := []) ⟨hx, hb, hml, hown, hw9⟩ (c_X1_get l hl9 D cI ty bd rs H.size 0 it o n g v r (sm_al nx mt fl pr ofs ak hd an) i 5 (nI i) 5 hi9 (by decide) rfl rfl) (kz_cV 2 hw9 mw_403 mw_405 ms_11 mw_2 mw_406 rfl rfl (by decide +kernel) ⟨Nat.le_of_ble_eq_true rfl, Nat.le_of_ble_eq_true rfl⟩) (kz_preV (q0 := 0) (ci := 1) hK hP hD hS hA hE rfl rfl) rfl hl.1 rfl (Nat.le_of_ble_eq_true rfl) dX1_agreed_93 ⟨Nat.le_of_ble_eq_true rfl, Nat.le_of_ble_eq_true rfl⟩ (fun _ _ _ _ h => False.elim h) (fun v9 H hv9 hO1 => ?_)
                          obtain ⟨_, rfl, rfl⟩ := hv9
                          have hP := hO1.P hP
                          have hS := hO1.S hS
                          rw [sm_g5]
                          refine W.eq (g2 := F0 m 96 ls [.int (ak i)]) rfl ?_
                          refine lv_istore (lv' := [(5, .int (ak i)), (6, .int (nI i)), (4, .int (nI (c8 + 1))), (3, .int (sm_bs o n ak c8)), (2, .int 5), (0, .ref (bd 0)), (1, .int p0)]) hx hb dX1_agreed_96 hl (by decide) rfl (fun ls hl => ?_)
                          obtain ⟨v_28, ev_28⟩ : ∃ y : Int32, y = (nI i) + 1 := ⟨_, rfl⟩
                          refine lv_iinc (v := v_28) (lv' := [(6, .int v_28), (5, .int (ak i)), (4, .int (nI (c8 + 1))), (3, .int (sm_bs o n ak c8)), (2, .int 5), (0, .ref (bd 0)), (1, .int p0)]) hx hb dX1_agreed_98 hl (k := 1) rfl (by rw [ev_28]; rfl) (by decide) rfl (fun ls hl => ?_)
                          refine lv_goto (tgt := 60) hx hb dX1_agreed_101 (by decide) ?_
                          obtain rfl : v_28 = nI (i + 1) := by rw [ev_28, nI_1]
                          have tb : sm_h (nI (c8 + 1)) (nI i) = (c8 + 1).testBit i := sm_has (c8 + 1) hcl i hi9
                          have e9 : sm_mn ak (c8 + 1) (i + 1) = (ak i) := by simp [sm_mn, ← tb, c_1, (Int32.not_lt.mp c_1), c_2, (Int32.not_lt.mpr c_2), c_3, c_4, c_18, (Int32.not_le.mp c_18), (sq_z_t c_24), c_26, (Int32.not_le.mp c_26)]
                          exact ih2 (i + 1) H locs ls (by omega) (by omega) hP hD hS (by rw [e9]; exact lv_sub hl [0, 1, 2, 3, 4, 5, 6] rfl)
                exact loop2 8 0 H locs ls (by decide) (by decide) hP hD hS (lv_sub hl [0, 1, 2, 3, 4, 5, 6] rfl)
          exact loop 128 0 H locs ls (by decide) (by decide) hP hD hS (lv_sub hl [0, 1, 2, 3, 4] rfl)
      · -- 21 -> 24
        refine lv_iconst (v := 1) hx hb dX1_agreed_24 (by decide) ?_
        refine lv_goto (tgt := 39) hx hb dX1_agreed_25 (by decide) ?_
        refine lv_istore_n (lv' := [(2, .int 1), (0, .ref (bd 0)), (1, .int p0)]) hx hb dX1_agreed_39 rfl hl (by decide) rfl (fun ls hl => ?_)
        refine lv_iconst (v := 0) hx hb dX1_agreed_40 (by decide) ?_
        refine lv_istore_n (lv' := [(3, .int 0), (2, .int 1), (0, .ref (bd 0)), (1, .int p0)]) hx hb dX1_agreed_41 rfl hl (by decide) rfl (fun ls hl => ?_)
        refine lv_iconst (v := 1) hx hb dX1_agreed_42 (by decide) ?_
        refine lv_istore (lv' := [(4, .int 1), (3, .int 0), (2, .int 1), (0, .ref (bd 0)), (1, .int p0)]) hx hb dX1_agreed_43 hl (by decide) rfl (fun ls hl => ?_)
        have loop : ∀ (k c8 : Nat) (H : Heap) (locs : List Loc) (ls : Array Slot), c8 ≤ 127 → 127 < c8 + k → va_P D vwCl (wM bd cI 0 it o n g v r (sm_al nx mt fl pr ofs ak hd an) ++ rs) H → va_D A (wM bd cI 0 it o n g v r (sm_al nx mt fl pr ofs ak hd an) ++ rs) → va_S A s.heap H locs → lv_has ls 7 [(4, .int (nI (c8 + 1))), (3, .int (sm_bs o n mt c8)), (2, .int 1), (0, .ref (bd 0)), (1, .int p0)] → W p l e (headSpec wsX1_agreed ({ frames := 3, cells := 1, slots := 6, locals := 66 } : Room)).room s m ([.ref (bd 0), .int p0] : List Value).toArray below meth c H locs 0 0 (ez_MQ below (kz_Wr D A (kz_i (fun r9 => r9 = (if tc_agreed p0 = 0 then (if p0 = 0 then sq_A o n mt 7 else if p0 = 1 then sq_A o n ak 7 else sq_A o n hd 7) else 0))) (wM bd cI (nI (tc_agreed p0)) it o n g v r (sm_al nx mt fl pr ofs ak hd an) ++ rs)) (kz_T (fun _ => IAE) (fun _ => False)) s 0 0 A) (F0 m 45 ls []) := by
          intro k
          induction k with
          | zero => intro c8 H locs ls hc9 h2; omega
          | succ k ih =>
            intro c8 H locs ls hc9 hk9 hP hD hS hl
            refine lv_iload hx hb dX1_agreed_45 (lv_at hl 0 rfl) ?_
            refine lv_sipush (v := 128) hx hb dX1_agreed_47 (by decide) ?_
            refine lv_icmp_ge (tgt := 128) hx hb dX1_agreed_50 (by decide) (fun c_29 => ?_) (fun c_29 => ?_)
            · -- 50 -> 128
              have hc127 : c8 = 127 := sm_c127 hc9 c_29
              refine lv_iload_n hx hb dX1_agreed_128 rfl (lv_at hl 1 rfl) ?_
              have htc : tc_agreed p0 = 0 := by simp [tc_agreed, c_3]
              exact kz_wreti hx hb hr hlocks (by rw [htc]; exact hP) (by rw [htc]; exact hD) hS (Nat.le_of_ble_eq_true rfl) (Nat.le_of_ble_eq_true rfl) (by rw [htc]; exact (show (sm_bs o n mt c8) = (if p0 = 0 then sq_A o n mt 7 else if p0 = 1 then sq_A o n ak 7 else sq_A o n hd 7) from (by rw [hc127, sm_agr hM hmt]; simp [c_3])))  dX1_agreed_129
            · -- 50 -> 53
              have hcl : c8 + 1 < 128 := sm_cl hc9 c_29
              refine lv_ldc (v := 1000000001) hx hb hown (hw9 _ mw_489) dX1_agreed_53 ?_
              refine lv_istore (lv' := [(5, .int 1000000001), (4, .int (nI (c8 + 1))), (3, .int (sm_bs o n mt c8)), (2, .int 1), (0, .ref (bd 0)), (1, .int p0)]) hx hb dX1_agreed_55 hl (by decide) rfl (fun ls hl => ?_)
              refine lv_iconst (v := 0) hx hb dX1_agreed_57 (by decide) ?_
              refine lv_istore (lv' := [(6, .int 0), (5, .int 1000000001), (4, .int (nI (c8 + 1))), (3, .int (sm_bs o n mt c8)), (2, .int 1), (0, .ref (bd 0)), (1, .int p0)]) hx hb dX1_agreed_58 hl (by decide) rfl (fun ls hl => ?_)
              have loop2 : ∀ (k2 i : Nat) (H : Heap) (locs : List Loc) (ls : Array Slot), i ≤ 7 → 7 < i + k2 → va_P D vwCl (wM bd cI 0 it o n g v r (sm_al nx mt fl pr ofs ak hd an) ++ rs) H → va_D A (wM bd cI 0 it o n g v r (sm_al nx mt fl pr ofs ak hd an) ++ rs) → va_S A s.heap H locs → lv_has ls 7 [(6, .int (nI i)), (5, .int (sm_mn mt (c8 + 1) i)), (4, .int (nI (c8 + 1))), (3, .int (sm_bs o n mt c8)), (2, .int 1), (0, .ref (bd 0)), (1, .int p0)] → W p l e (headSpec wsX1_agreed ({ frames := 3, cells := 1, slots := 6, locals := 66 } : Room)).room s m ([.ref (bd 0), .int p0] : List Value).toArray below meth c H locs 0 0 (ez_MQ below (kz_Wr D A (kz_i (fun r9 => r9 = (if tc_agreed p0 = 0 then (if p0 = 0 then sq_A o n mt 7 else if p0 = 1 then sq_A o n ak 7 else sq_A o n hd 7) else 0))) (wM bd cI (nI (tc_agreed p0)) it o n g v r (sm_al nx mt fl pr ofs ak hd an) ++ rs)) (kz_T (fun _ => IAE) (fun _ => False)) s 0 0 A) (F0 m 60 ls []) := by
                intro k2
                induction k2 with
                | zero => intro i H locs ls h1 h2; omega
                | succ k2 ih2 =>
                  intro i H locs ls h1 h2 hP hD hS hl
                  refine lv_iload hx hb dX1_agreed_60 (lv_at hl 0 rfl) ?_
                  refine lv_bipush (v := 7) hx hb dX1_agreed_62 (by decide) ?_
                  refine lv_icmp_ge (tgt := 104) hx hb dX1_agreed_64 (by decide) (fun c_30 => ?_) (fun c_30 => ?_)
                  · -- 64 -> 104
                    have hi7 : i = 7 := kz_i7 h1 c_30
                    subst hi7
                    refine lv_aload_n hx hb dX1_agreed_104 rfl (lv_at hl 5 rfl) ?_
                    refine lv_iload hx hb dX1_agreed_105 (lv_at hl 2 rfl) ?_
                    refine kz_rV (As := [.int (nI (c8 + 1))]) (rest := []) ⟨hx, hb, hml, hown, hw9⟩ (c_X1_carries l hl9 D cI ty bd rs H.size 0 it o n g v r (sm_al nx mt fl pr ofs ak hd an) (nI (c8 + 1)) hM (sm_Su _ hcl)) (kz_cV 1 hw9 mw_419 mw_421 ms_13 mw_2 mw_422 rfl rfl (by decide +kernel) ⟨Nat.le_of_ble_eq_true rfl, Nat.le_of_ble_eq_true rfl⟩) (kz_preV (q0 := 0) (ci := 1) hK hP hD hS hA hE rfl rfl) rfl hl.1 rfl (Nat.le_of_ble_eq_true rfl) dX1_agreed_107 ⟨Nat.le_of_ble_eq_true rfl, Nat.le_of_ble_eq_true rfl⟩ (fun _ _ _ _ h => False.elim h) (fun v9 H hv9 hO1 => ?_)
                    obtain ⟨_, rfl, rfl⟩ := hv9
                    have hP := hO1.P hP
                    have hS := hO1.S hS
                    refine W.eq (g2 := F0 m 110 ls [.int (sq_z (sq_M o n (nI (c8 + 1))))]) rfl ?_
                    refine lv_if_eq (tgt := 122) hx hb dX1_agreed_110 (by decide) (fun c_31 => ?_) (fun c_31 => ?_)
                    · -- 110 -> 122
                      obtain ⟨v_32, ev_32⟩ : ∃ y : Int32, y = (nI (c8 + 1)) + 1 := ⟨_, rfl⟩
                      refine lv_iinc (v := v_32) (lv' := [(4, .int v_32), (6, .int (nI 7)), (5, .int (sm_mn mt (c8 + 1) 7)), (3, .int (sm_bs o n mt c8)), (2, .int 1), (0, .ref (bd 0)), (1, .int p0)]) hx hb dX1_agreed_122 hl (k := 2) rfl (by rw [ev_32]; rfl) (by decide) rfl (fun ls hl => ?_)
                      refine lv_goto (tgt := 45) hx hb dX1_agreed_125 (by decide) ?_
                      obtain rfl : v_32 = nI (c8 + 1 + 1) := by rw [ev_32, nI_1]
                      have e9 : sm_bs o n mt (c8 + 1) = (sm_bs o n mt c8) := by simp [sm_bs, c_1, (Int32.not_lt.mp c_1), c_2, (Int32.not_lt.mpr c_2), c_3, c_30, (Int32.not_lt.mpr c_30), (sq_z_f c_31)]
                      exact ih (c8 + 1) H locs ls (by omega) (by omega) hP hD hS (by rw [e9]; exact lv_sub hl [0, 3, 4, 5, 6] rfl)
                    · -- 110 -> 113
                      refine lv_iload hx hb dX1_agreed_113 (lv_at hl 1 rfl) ?_
                      refine lv_iload_n hx hb dX1_agreed_115 rfl (lv_at hl 3 rfl) ?_
                      refine lv_icmp_le (tgt := 122) hx hb dX1_agreed_116 (by decide) (fun c_33 => ?_) (fun c_33 => ?_)
                      · -- 116 -> 122
                        obtain ⟨v_34, ev_34⟩ : ∃ y : Int32, y = (nI (c8 + 1)) + 1 := ⟨_, rfl⟩
                        refine lv_iinc (v := v_34) (lv' := [(4, .int v_34), (6, .int (nI 7)), (5, .int (sm_mn mt (c8 + 1) 7)), (3, .int (sm_bs o n mt c8)), (2, .int 1), (0, .ref (bd 0)), (1, .int p0)]) hx hb dX1_agreed_122 hl (k := 2) rfl (by rw [ev_34]; rfl) (by decide) rfl (fun ls hl => ?_)
                        refine lv_goto (tgt := 45) hx hb dX1_agreed_125 (by decide) ?_
                        obtain rfl : v_34 = nI (c8 + 1 + 1) := by rw [ev_34, nI_1]
                        have e9 : sm_bs o n mt (c8 + 1) = (sm_bs o n mt c8) := by simp [sm_bs, c_1, (Int32.not_lt.mp c_1), c_2, (Int32.not_lt.mpr c_2), c_3, c_30, (Int32.not_lt.mpr c_30), (sq_z_t c_31), c_33, (Int32.not_lt.mpr c_33)]
                        exact ih (c8 + 1) H locs ls (by omega) (by omega) hP hD hS (by rw [e9]; exact lv_sub hl [0, 3, 4, 5, 6] rfl)
                      · -- 116 -> 119
                        refine lv_iload hx hb dX1_agreed_119 (lv_at hl 1 rfl) ?_
                        refine lv_istore_n (lv' := [(3, .int (sm_mn mt (c8 + 1) 7)), (6, .int (nI 7)), (5, .int (sm_mn mt (c8 + 1) 7)), (4, .int (nI (c8 + 1))), (2, .int 1), (0, .ref (bd 0)), (1, .int p0)]) hx hb dX1_agreed_121 rfl hl (by decide) rfl (fun ls hl => ?_)
                        obtain ⟨v_35, ev_35⟩ : ∃ y : Int32, y = (nI (c8 + 1)) + 1 := ⟨_, rfl⟩
                        refine lv_iinc (v := v_35) (lv' := [(4, .int v_35), (3, .int (sm_mn mt (c8 + 1) 7)), (6, .int (nI 7)), (5, .int (sm_mn mt (c8 + 1) 7)), (2, .int 1), (0, .ref (bd 0)), (1, .int p0)]) hx hb dX1_agreed_122 hl (k := 3) rfl (by rw [ev_35]; rfl) (by decide) rfl (fun ls hl => ?_)
                        refine lv_goto (tgt := 45) hx hb dX1_agreed_125 (by decide) ?_
                        obtain rfl : v_35 = nI (c8 + 1 + 1) := by rw [ev_35, nI_1]
                        have e9 : sm_bs o n mt (c8 + 1) = (sm_mn mt (c8 + 1) 7) := by simp [sm_bs, c_1, (Int32.not_lt.mp c_1), c_2, (Int32.not_lt.mpr c_2), c_3, c_30, (Int32.not_lt.mpr c_30), (sq_z_t c_31), c_33, (Int32.not_le.mp c_33)]
                        exact ih (c8 + 1) H locs ls (by omega) (by omega) hP hD hS (by rw [e9]; exact lv_sub hl [0, 1, 4, 5, 6] rfl)
                  · -- 64 -> 67
                    have hi9 : i < 7 := kz_l7 h1 c_30
                    have hc9 : (nI i).toNatClampNeg = i := nI_clamp (by omega)
                    refine lv_iload hx hb dX1_agreed_67 (lv_at hl 2 rfl) ?_
                    refine lv_iload hx hb dX1_agreed_69 (lv_at hl 0 rfl) ?_
                    refine kz_rS (As := [.int (nI (c8 + 1)), .int (nI i)]) (rest := []) ⟨hx, hb, hml, hown, hw9⟩ (c_X1_has l hl9 D ((cI, .int) :: ty) (wM bd cI 0 it o n g v r (sm_al nx mt fl pr ofs ak hd an) ++ rs) H.size (nI (c8 + 1)) (nI i)) (kz_cS 2 hw9 mw_400 mw_401 mw_2 mw_402 rfl rfl (by decide +kernel) ⟨Nat.le_of_ble_eq_true rfl, Nat.le_of_ble_eq_true rfl⟩) (kz_preS hK hP hD hS hA hE) rfl hl.1 rfl (Nat.le_of_ble_eq_true rfl) dX1_agreed_71 ⟨Nat.le_of_ble_eq_true rfl, Nat.le_of_ble_eq_true rfl⟩ (fun _ _ _ _ h => False.elim h) (fun v9 H hv9 hO1 => ?_)
                    obtain ⟨_, rfl, rfl⟩ := hv9
                    have hP := hO1.P hP
                    have hS := hO1.S hS
                    refine W.eq (g2 := F0 m 74 ls [.int (sq_z (sm_h (nI (c8 + 1)) (nI i)))]) rfl ?_
                    refine lv_if_eq (tgt := 98) hx hb dX1_agreed_74 (by decide) (fun c_36 => ?_) (fun c_36 => ?_)
                    · -- 74 -> 98
                      obtain ⟨v_37, ev_37⟩ : ∃ y : Int32, y = (nI i) + 1 := ⟨_, rfl⟩
                      refine lv_iinc (v := v_37) (lv' := [(6, .int v_37), (5, .int (sm_mn mt (c8 + 1) i)), (4, .int (nI (c8 + 1))), (3, .int (sm_bs o n mt c8)), (2, .int 1), (0, .ref (bd 0)), (1, .int p0)]) hx hb dX1_agreed_98 hl (k := 0) rfl (by rw [ev_37]; rfl) (by decide) rfl (fun ls hl => ?_)
                      refine lv_goto (tgt := 60) hx hb dX1_agreed_101 (by decide) ?_
                      obtain rfl : v_37 = nI (i + 1) := by rw [ev_37, nI_1]
                      have tb : sm_h (nI (c8 + 1)) (nI i) = (c8 + 1).testBit i := sm_has (c8 + 1) hcl i hi9
                      have e9 : sm_mn mt (c8 + 1) (i + 1) = (sm_mn mt (c8 + 1) i) := by simp [sm_mn, ← tb, c_1, (Int32.not_lt.mp c_1), c_2, (Int32.not_lt.mpr c_2), c_3, c_30, (Int32.not_le.mp c_30), (sq_z_f c_36)]
                      exact ih2 (i + 1) H locs ls (by omega) (by omega) hP hD hS (by rw [e9]; exact lv_sub hl [0, 1, 2, 3, 4, 5, 6] rfl)
                    · -- 74 -> 77
                      refine lv_aload_n hx hb dX1_agreed_77 rfl (lv_at hl 5 rfl) ?_
                      refine lv_iload hx hb dX1_agreed_78 (lv_at hl 0 rfl) ?_
                      refine lv_iload_n hx hb dX1_agreed_80 rfl (lv_at hl 4 rfl) ?_
                      refine kz_rV (As := [.int (nI i), .int 1]) (rest := []) ⟨hx, hb, hml, hown, hw9⟩ (c_X1_get l hl9 D cI ty bd rs H.size 0 it o n g v r (sm_al nx mt fl pr ofs ak hd an) i 1 (nI i) 1 hi9 (by decide) rfl rfl) (kz_cV 2 hw9 mw_403 mw_405 ms_11 mw_2 mw_406 rfl rfl (by decide +kernel) ⟨Nat.le_of_ble_eq_true rfl, Nat.le_of_ble_eq_true rfl⟩) (kz_preV (q0 := 0) (ci := 1) hK hP hD hS hA hE rfl rfl) rfl hl.1 rfl (Nat.le_of_ble_eq_true rfl) dX1_agreed_81 ⟨Nat.le_of_ble_eq_true rfl, Nat.le_of_ble_eq_true rfl⟩ (fun _ _ _ _ h => False.elim h) (fun v9 H hv9 hO1 => ?_)
                      obtain ⟨_, rfl, rfl⟩ := hv9
                      have hP := hO1.P hP
                      have hS := hO1.S hS
                      rw [sm_g1]
                      refine W.eq (g2 := F0 m 84 ls [.int (mt i)]) rfl ?_
                      refine lv_iload hx hb dX1_agreed_84 (lv_at hl 1 rfl) ?_
                      refine lv_icmp_ge (tgt := 98) hx hb dX1_agreed_86 (by decide) (fun c_38 => ?_) (fun c_38 => ?_)
                      · -- 86 -> 98
                        obtain ⟨v_39, ev_39⟩ : ∃ y : Int32, y = (nI i) + 1 := ⟨_, rfl⟩
                        refine lv_iinc (v := v_39) (lv' := [(6, .int v_39), (5, .int (sm_mn mt (c8 + 1) i)), (4, .int (nI (c8 + 1))), (3, .int (sm_bs o n mt c8)), (2, .int 1), (0, .ref (bd 0)), (1, .int p0)]) hx hb dX1_agreed_98 hl (k := 0) rfl (by rw [ev_39]; rfl) (by decide) rfl (fun ls hl => ?_)
                        refine lv_goto (tgt := 60) hx hb dX1_agreed_101 (by decide) ?_
                        obtain rfl : v_39 = nI (i + 1) := by rw [ev_39, nI_1]
                        have tb : sm_h (nI (c8 + 1)) (nI i) = (c8 + 1).testBit i := sm_has (c8 + 1) hcl i hi9
                        have e9 : sm_mn mt (c8 + 1) (i + 1) = (sm_mn mt (c8 + 1) i) := by simp [sm_mn, ← tb, c_1, (Int32.not_lt.mp c_1), c_2, (Int32.not_lt.mpr c_2), c_3, c_30, (Int32.not_le.mp c_30), (sq_z_t c_36), c_38, (Int32.not_lt.mpr c_38)]
                        exact ih2 (i + 1) H locs ls (by omega) (by omega) hP hD hS (by rw [e9]; exact lv_sub hl [0, 1, 2, 3, 4, 5, 6] rfl)
                      · -- 86 -> 89
                        refine lv_aload_n hx hb dX1_agreed_89 rfl (lv_at hl 5 rfl) ?_
                        refine lv_iload hx hb dX1_agreed_90 (lv_at hl 0 rfl) ?_
                        refine lv_iload_n hx hb dX1_agreed_92 rfl (lv_at hl 4 rfl) ?_
                        refine kz_rV (As := [.int (nI i), .int 1]) (rest := []) ⟨hx, hb, hml, hown, hw9⟩ (c_X1_get l hl9 D cI ty bd rs H.size 0 it o n g v r (sm_al nx mt fl pr ofs ak hd an) i 1 (nI i) 1 hi9 (by decide) rfl rfl) (kz_cV 2 hw9 mw_403 mw_405 ms_11 mw_2 mw_406 rfl rfl (by decide +kernel) ⟨Nat.le_of_ble_eq_true rfl, Nat.le_of_ble_eq_true rfl⟩) (kz_preV (q0 := 0) (ci := 1) hK hP hD hS hA hE rfl rfl) rfl hl.1 rfl (Nat.le_of_ble_eq_true rfl) dX1_agreed_93 ⟨Nat.le_of_ble_eq_true rfl, Nat.le_of_ble_eq_true rfl⟩ (fun _ _ _ _ h => False.elim h) (fun v9 H hv9 hO1 => ?_)
                        obtain ⟨_, rfl, rfl⟩ := hv9
                        have hP := hO1.P hP
                        have hS := hO1.S hS
                        rw [sm_g1]
                        refine W.eq (g2 := F0 m 96 ls [.int (mt i)]) rfl ?_
                        refine lv_istore (lv' := [(5, .int (mt i)), (6, .int (nI i)), (4, .int (nI (c8 + 1))), (3, .int (sm_bs o n mt c8)), (2, .int 1), (0, .ref (bd 0)), (1, .int p0)]) hx hb dX1_agreed_96 hl (by decide) rfl (fun ls hl => ?_)
                        obtain ⟨v_40, ev_40⟩ : ∃ y : Int32, y = (nI i) + 1 := ⟨_, rfl⟩
                        refine lv_iinc (v := v_40) (lv' := [(6, .int v_40), (5, .int (mt i)), (4, .int (nI (c8 + 1))), (3, .int (sm_bs o n mt c8)), (2, .int 1), (0, .ref (bd 0)), (1, .int p0)]) hx hb dX1_agreed_98 hl (k := 1) rfl (by rw [ev_40]; rfl) (by decide) rfl (fun ls hl => ?_)
                        refine lv_goto (tgt := 60) hx hb dX1_agreed_101 (by decide) ?_
                        obtain rfl : v_40 = nI (i + 1) := by rw [ev_40, nI_1]
                        have tb : sm_h (nI (c8 + 1)) (nI i) = (c8 + 1).testBit i := sm_has (c8 + 1) hcl i hi9
                        have e9 : sm_mn mt (c8 + 1) (i + 1) = (mt i) := by simp [sm_mn, ← tb, c_1, (Int32.not_lt.mp c_1), c_2, (Int32.not_lt.mpr c_2), c_3, c_30, (Int32.not_le.mp c_30), (sq_z_t c_36), c_38, (Int32.not_le.mp c_38)]
                        exact ih2 (i + 1) H locs ls (by omega) (by omega) hP hD hS (by rw [e9]; exact lv_sub hl [0, 1, 2, 3, 4, 5, 6] rfl)
              exact loop2 8 0 H locs ls (by decide) (by decide) hP hD hS (lv_sub hl [0, 1, 2, 3, 4, 5, 6] rfl)
        exact loop 128 0 H locs ls (by decide) (by decide) hP hD hS (lv_sub hl [0, 1, 2, 3, 4] rfl)
    · -- 11 -> 14
      refine lv_aload_n hx hb dX1_agreed_14 rfl (lv_at hl 0 rfl) ?_
      refine lv_iconst (v := 1) hx hb dX1_agreed_15 (by decide) ?_
      refine kz_wV (As := [.int 1]) (rest := []) ⟨hx, hb, hml, hown, hw9⟩ (c_X1_fail l hl9 D cI ty bd rs H.size 0 it o n g v r (sm_al nx mt fl pr ofs ak hd an) 1) (kz_cV 1 hw9 mw_411 mw_413 ms_12 mw_2 mw_414 rfl rfl (by decide +kernel) ⟨Nat.le_of_ble_eq_true rfl, Nat.le_of_ble_eq_true rfl⟩) (kz_preV (q0 := 0) (ci := 1) hK hP hD hS hA hE rfl rfl) rfl hl.1 rfl (Nat.le_of_ble_eq_true rfl) dX1_agreed_16 ⟨Nat.le_of_ble_eq_true rfl, Nat.le_of_ble_eq_true rfl⟩ hD hS hA (fun _ _ _ _ _ _ h => False.elim h) (fun v9 H locs hv9 hP hD hS => ?_)
      obtain ⟨_, rfl, rfl⟩ := hv9
      have hP : va_P D vwCl (wM bd cI 1 it o n g v r (sm_al nx mt fl pr ofs ak hd an) ++ rs) H := hP
      have hD : va_D A (wM bd cI 1 it o n g v r (sm_al nx mt fl pr ofs ak hd an) ++ rs) := hD
      refine W.eq (g2 := F0 m 19 ls [.int 0]) rfl ?_
      have htc : tc_agreed p0 = 1 := sm_tca (Or.inr c_2)
      exact kz_wreti hx hb hr hlocks (by rw [htc]; exact hP) (by rw [htc]; exact hD) hS (Nat.le_of_ble_eq_true rfl) (Nat.le_of_ble_eq_true rfl) (by rw [htc]; rfl)  dX1_agreed_19
