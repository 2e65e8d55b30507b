set_option maxHeartbeats 4000000 in
set_option maxRecDepth 100000 in
theorem c_X1_lead (l : Launch) (hl9 : l.stackTraces = false) (D : va_G) (cI : ClassId) (ty : kz_Y) (bd : Nat → Nat) (rs : va_W) (sz : Nat) (th it o n g v r : Int32) (nx mt fl pr ofs ak hd an : Nat → Int32) (p0 : Int32) (p1 : Int32) : ez_M l yX1_lead wsX1_lead ({ frames := 1, cells := 1, slots := 6, locals := 23 } : Room) (kz_P D ((cI, .int) :: ty) (wM bd cI th it o n g v r (sm_al nx mt fl pr ofs ak hd an) ++ rs) sz [.ref (bd 0), .int p0, .int p1]) (kz_Wr D (va_A (wM bd cI th it o n g v r (sm_al nx mt fl pr ofs ak hd an) ++ rs) sz) (kz_v (True)) (wM bd cI (nI (tc_own p0 p1)) it o n g v (if tc_own p0 p1 = 0 then 0 else r) (sm_al (if tc_own p0 p1 = 0 then fun _ => p0 + 1 else nx) (if tc_own p0 p1 = 0 then fun _ => 0 else mt) (if tc_own p0 p1 = 0 then fun _ => 0 else fl) (if tc_own p0 p1 = 0 then fun _ => 1 else pr) (if tc_own p0 p1 = 0 then fun _ => 0 else ofs) (if tc_own p0 p1 = 0 then fun _ => 0 else ak) (if tc_own p0 p1 = 0 then fun _ => p1 else hd) (if tc_own p0 p1 = 0 then fun _ => 0 else an)) ++ rs)) (kz_T (fun _ => IAE) (fun _ => False)) 0 0 (va_A (wM bd cI th it o n g v r (sm_al nx mt fl pr ofs ak hd an) ++ rs) sz) := by
  refine ez_ofW (cc := cX1_lead) (maxL := 5) (ret := none) (by decide) rfl ?_
  intro p e s m args below meth c s₁ B hml hTab hv
  obtain ⟨rfl, hsz, hP, hK, hD0, hE⟩ := hv
  have hx := B.exec
  have hb := B.bytes
  have hr := B.returns
  have hw9 : ∀ w ∈ kz_W9, w.before ([.ref (bd 0), .int p0, .int p1] : List Value).toArray s = true := fun w h => atoms_spec (ws := wsX1_lead) B.pre w (List.mem_cons_of_mem _ h)
  have hown : s.vm.findClass RX1 = some m.cls := findClass_of_methodNamed B.named
  have hlocks := B.notSynchronized
  subst hsz
  have hD := hD0.self (sz := s.heap.size)
  generalize hAe : va_A (wM bd cI th it o n g v r (sm_al nx mt fl pr ofs ak hd an) ++ rs) s.heap.size = A at hD hE ⊢
  have hA : ∀ q : Nat, s.heap.size ≤ q → A q := fun q h => by rw [← hAe]; exact Or.inr h
  have hS : va_S A s.heap s.heap [] := va_S.rf
  have hO : kz_O s.heap s.heap := kz_O.rf _
  have hl := lv_entry ([.ref (bd 0), .int p0, .int p1]) (n := 5) (Nat.le_of_ble_eq_true rfl)
  rw [lg_entry_eq]
  generalize (lg_sl ([.ref (bd 0), .int p0, .int p1]) ++ List.replicate (5 - (lg_sl ([.ref (bd 0), .int p0, .int p1])).length) Slot.unset).toArray = ls at hl ⊢
  have hl : lv_has ls 5 [(0, .ref (bd 0)), (1, .int p0), (2, .int p1)] := hl
  refine lv_aload_n hx hb dX1_lead_0 rfl (lv_at hl 0 rfl) ?_
  refine lv_iconst (v := 0) hx hb dX1_lead_1 (by decide) ?_
  refine va_put (D := D) (ci := 1) (v := .int 0) (ty := .int) (C := RX1) (T := TX1) (N := 8) hx hb hw9 uX1 tyX1 tyX1_ok nmX1 hown hK hP hD hS 0 rfl rfl 0 (by decide) (hw9 _ mw_360) (fun _ h9 => h9) rfl (by decide +kernel) rfl rfl (Nat.le_of_ble_eq_true rfl) dX1_lead_2 (fun H locs hP hD hS => ?_)
  have hP : va_P D vwCl (wM bd cI 0 it o n g v r (sm_al nx mt fl pr ofs ak hd an) ++ rs) H := hP
  have hD : va_D A (wM bd cI 0 it o n g v r (sm_al nx mt fl pr ofs ak hd an) ++ rs) := hD
  refine lv_iload_n hx hb dX1_lead_5 rfl (lv_at hl 1 rfl) ?_
  refine kz_rS (As := [.int p0]) (rest := []) ⟨hx, hb, hml, hown, hw9⟩ (c_X1_number l hl9 D ((cI, .int) :: ty) (wM bd cI 0 it o n g v r (sm_al nx mt fl pr ofs ak hd an) ++ rs) H.size p0) (kz_cS 1 hw9 mw_438 mw_439 mw_2 mw_440 rfl rfl (by decide +kernel) ⟨Nat.le_of_ble_eq_true rfl, Nat.le_of_ble_eq_true rfl⟩) (kz_preS hK hP hD hS hA hE) rfl hl.1 rfl (Nat.le_of_ble_eq_true rfl) dX1_lead_6 ⟨Nat.le_of_ble_eq_true rfl, Nat.le_of_ble_eq_true rfl⟩ (fun _ _ _ _ h => False.elim h) (fun v9 H hv9 hO1 => ?_)
  obtain ⟨_, rfl, rfl⟩ := hv9
  have hP := hO1.P hP
  have hS := hO1.S hS
  refine W.eq (g2 := F0 m 9 ls [.int (sq_z (sq_N p0))]) rfl ?_
  refine lv_if_eq (tgt := 19) hx hb dX1_lead_9 (by decide) (fun c_1 => ?_) (fun c_1 => ?_)
  · -- 9 -> 19
    refine lv_aload_n hx hb dX1_lead_19 rfl (lv_at hl 0 rfl) ?_
    refine lv_iconst (v := 1) hx hb dX1_lead_20 (by decide) ?_
    refine va_put (D := D) (ci := 1) (v := .int 1) (ty := .int) (C := RX1) (T := TX1) (N := 8) hx hb hw9 uX1 tyX1 tyX1_ok nmX1 hown hK hP hD hS 0 rfl rfl 0 (by decide) (hw9 _ mw_360) (fun _ h9 => h9) rfl (by decide +kernel) rfl rfl (Nat.le_of_ble_eq_true rfl) dX1_lead_21 (fun H locs hP hD hS => ?_)
    have hP : va_P D vwCl (wM bd cI 1 it o n g v r (sm_al nx mt fl pr ofs ak hd an) ++ rs) H := hP
    have hD : va_D A (wM bd cI 1 it o n g v r (sm_al nx mt fl pr ofs ak hd an) ++ rs) := hD
    have htc : tc_own p0 p1 = 1 := by first | (simp [tc_own, (sq_z_f c_1)]; done) | (simp only [tc_own, (sq_z_f c_1), eq_self, not_true_eq_false, not_false_eq_true, and_self, and_true, true_and, and_false, false_and, or_true, true_or, or_false, false_or, if_true, if_false, ite_true, ite_false, Bool.and_eq_true, decide_true, decide_false, decide_eq_true_eq, ne_eq, Nat.reduceEqDiff, Nat.one_ne_zero, Bool.false_eq_true, reduceCtorEq]; done) | (simp only [tc_own, (sq_z_f c_1), eq_self, not_true_eq_false, not_false_eq_true, and_self, and_true, true_and, and_false, false_and, or_true, true_or, or_false, false_or, if_true, if_false, ite_true, ite_false, Bool.and_eq_true, decide_true, decide_false, decide_eq_true_eq, ne_eq, Nat.reduceEqDiff, Nat.one_ne_zero, Bool.false_eq_true, reduceCtorEq]; decide)
    exact kz_wretv hx hb hr hlocks (by rw [htc]; exact hP) (by rw [htc]; exact hD) hS (Nat.le_of_ble_eq_true rfl) (Nat.le_of_ble_eq_true rfl) (trivial)  dX1_lead_24
  · -- 9 -> 12
    refine lv_iload_n hx hb dX1_lead_12 rfl (lv_at hl 2 rfl) ?_
    refine kz_rS (As := [.int p1]) (rest := []) ⟨hx, hb, hml, hown, hw9⟩ (c_X1_number l hl9 D ((cI, .int) :: ty) (wM bd cI 0 it o n g v r (sm_al nx mt fl pr ofs ak hd an) ++ rs) H.size p1) (kz_cS 1 hw9 mw_438 mw_439 mw_2 mw_440 rfl rfl (by decide +kernel) ⟨Nat.le_of_ble_eq_true rfl, Nat.le_of_ble_eq_true rfl⟩) (kz_preS hK hP hD hS hA hE) rfl hl.1 rfl (Nat.le_of_ble_eq_true rfl) dX1_lead_13 ⟨Nat.le_of_ble_eq_true rfl, Nat.le_of_ble_eq_true rfl⟩ (fun _ _ _ _ h => False.elim h) (fun v9 H hv9 hO1 => ?_)
    obtain ⟨_, rfl, rfl⟩ := hv9
    have hP := hO1.P hP
    have hS := hO1.S hS
    refine W.eq (g2 := F0 m 16 ls [.int (sq_z (sq_N p1))]) rfl ?_
    refine lv_if_ne (tgt := 25) hx hb dX1_lead_16 (by decide) (fun c_2 => ?_) (fun c_2 => ?_)
    · -- 16 -> 25
      refine lv_iconst (v := 0) hx hb dX1_lead_25 (by decide) ?_
      refine lv_istore_n (lv' := [(3, .int 0), (0, .ref (bd 0)), (1, .int p0), (2, .int p1)]) hx hb dX1_lead_26 rfl hl (by decide) rfl (fun ls hl => ?_)
      have loop : ∀ (k i : Nat) (al1 : Nat → Int32) (H : Heap) (locs : List Loc) (ls : Array Slot), i ≤ 7 → 7 < i + k → (∀ j, j < 8 * i → al1 j = sm_lw p0 p1 (j % 8)) → va_P D vwCl (wM bd cI 0 it o n g v r al1 ++ rs) H → va_D A (wM bd cI 0 it o n g v r al1 ++ rs) → va_S A s.heap H locs → lv_has ls 5 [(3, .int (nI i)), (0, .ref (bd 0)), (1, .int p0), (2, .int p1)] → W p l e (headSpec wsX1_lead ({ frames := 1, cells := 1, slots := 6, locals := 23 } : Room)).room s m ([.ref (bd 0), .int p0, .int p1] : List Value).toArray below meth c H locs 0 0 (ez_MQ below (kz_Wr D A (kz_v (True)) (wM bd cI (nI (tc_own p0 p1)) it o n g v (if tc_own p0 p1 = 0 then 0 else r) (sm_al (if tc_own p0 p1 = 0 then fun _ => p0 + 1 else nx) (if tc_own p0 p1 = 0 then fun _ => 0 else mt) (if tc_own p0 p1 = 0 then fun _ => 0 else fl) (if tc_own p0 p1 = 0 then fun _ => 1 else pr) (if tc_own p0 p1 = 0 then fun _ => 0 else ofs) (if tc_own p0 p1 = 0 then fun _ => 0 else ak) (if tc_own p0 p1 = 0 then fun _ => p1 else hd) (if tc_own p0 p1 = 0 then fun _ => 0 else an)) ++ rs)) (kz_T (fun _ => IAE) (fun _ => False)) s 0 0 A) (F0 m 27 ls []) := by
        intro k
        induction k with
        | zero => intro i al1 H locs ls h1 h2; omega
        | succ k ih =>
          intro i al1 H locs ls h1 h2 hinv hP hD hS hl
          refine lv_iload_n hx hb dX1_lead_27 rfl (lv_at hl 0 rfl) ?_
          refine lv_bipush (v := 7) hx hb dX1_lead_28 (by decide) ?_
          refine lv_icmp_ge (tgt := 95) hx hb dX1_lead_30 (by decide) (fun c_3 => ?_) (fun c_3 => ?_)
          · -- 30 -> 95
            have hi7 : i = 7 := kz_i7 h1 c_3
            subst hi7
            have hP : va_P D vwCl (wM bd cI 0 it o n g v r (sm_al (fun _ => p0 + 1) (fun _ => 0) (fun _ => 0) (fun _ => 1) (fun _ => 0) (fun _ => 0) (fun _ => p1) (fun _ => 0)) ++ rs) H := kz_fn (g := (sm_al (fun _ => p0 + 1) (fun _ => 0) (fun _ => 0) (fun _ => 1) (fun _ => 0) (fun _ => 0) (fun _ => p1) (fun _ => 0))) (k := 1) hP rfl (fun j hj => (hinv j hj).trans (sm_lwx p0 p1 j))
            have hD : va_D A (wM bd cI 0 it o n g v r (sm_al (fun _ => p0 + 1) (fun _ => 0) (fun _ => 0) (fun _ => 1) (fun _ => 0) (fun _ => 0) (fun _ => p1) (fun _ => 0)) ++ rs) := hD.set (p := 1) rfl
            refine lv_aload_n hx hb dX1_lead_95 rfl (lv_at hl 1 rfl) ?_
            refine lv_iconst (v := 0) hx hb dX1_lead_96 (by decide) ?_
            refine va_put (D := D) (ci := 1) (v := .int 0) (ty := .int) (C := RX1) (T := TX1) (N := 8) hx hb hw9 uX1 tyX1 tyX1_ok nmX1 hown hK hP hD hS 0 rfl rfl 6 (by decide) (hw9 _ mw_366) (fun _ h9 => h9) rfl (by decide +kernel) rfl rfl (Nat.le_of_ble_eq_true rfl) dX1_lead_97 (fun H locs hP hD hS => ?_)
            have hP : va_P D vwCl (wM bd cI 0 it o n g v 0 (sm_al (fun _ => p0 + 1) (fun _ => 0) (fun _ => 0) (fun _ => 1) (fun _ => 0) (fun _ => 0) (fun _ => p1) (fun _ => 0)) ++ rs) H := hP
            have hD : va_D A (wM bd cI 0 it o n g v 0 (sm_al (fun _ => p0 + 1) (fun _ => 0) (fun _ => 0) (fun _ => 1) (fun _ => 0) (fun _ => 0) (fun _ => p1) (fun _ => 0)) ++ rs) := hD
            have htc : tc_own p0 p1 = 0 := by first | (simp [tc_own, (sq_z_t c_1), (sq_z_t c_2), c_3, (Int32.not_lt.mpr c_3)]; done) | (simp only [tc_own, (sq_z_t c_1), (sq_z_t c_2), c_3, (Int32.not_lt.mpr c_3), eq_self, not_true_eq_false, not_false_eq_true, and_self, and_true, true_and, and_false, false_and, or_true, true_or, or_false, false_or, if_true, if_false, ite_true, ite_false, Bool.and_eq_true, decide_true, decide_false, decide_eq_true_eq, ne_eq, Nat.reduceEqDiff, Nat.one_ne_zero, Bool.false_eq_true, reduceCtorEq]; done) | (simp only [tc_own, (sq_z_t c_1), (sq_z_t c_2), c_3, (Int32.not_lt.mpr c_3), eq_self, not_true_eq_false, not_false_eq_true, and_self, and_true, true_and, and_false, false_and, or_true, true_or, or_false, false_or, if_true, if_false, ite_true, ite_false, Bool.and_eq_true, decide_true, decide_false, decide_eq_true_eq, ne_eq, Nat.reduceEqDiff, Nat.one_ne_zero, Bool.false_eq_true, reduceCtorEq]; decide)
            exact kz_wretv hx hb hr hlocks (by rw [htc]; exact hP) (by rw [htc]; exact hD) hS (Nat.le_of_ble_eq_true rfl) (Nat.le_of_ble_eq_true rfl) (trivial)  dX1_lead_100
          · -- 30 -> 33
            have hi9 : i < 7 := kz_l7 h1 c_3
            have hc9 : (nI i).toNatClampNeg = i := nI_clamp (by omega)
            refine lv_iconst (v := 0) hx hb dX1_lead_33 (by decide) ?_
            refine lv_istore (lv' := [(4, .int 0), (3, .int (nI i)), (0, .ref (bd 0)), (1, .int p0), (2, .int p1)]) hx hb dX1_lead_34 hl (by decide) rfl (fun ls hl => ?_)
            have loop2 : ∀ (k2 b : Nat) (al1 : Nat → Int32) (H : Heap) (locs : List Loc) (ls : Array Slot), b ≤ 8 → 8 < b + k2 → (∀ j, j < 8 * i + b → al1 j = sm_lw p0 p1 (j % 8)) → va_P D vwCl (wM bd cI 0 it o n g v r al1 ++ rs) H → va_D A (wM bd cI 0 it o n g v r al1 ++ rs) → va_S A s.heap H locs → lv_has ls 5 [(4, .int (nI b)), (3, .int (nI i)), (0, .ref (bd 0)), (1, .int p0), (2, .int p1)] → W p l e (headSpec wsX1_lead ({ frames := 1, cells := 1, slots := 6, locals := 23 } : Room)).room s m ([.ref (bd 0), .int p0, .int p1] : List Value).toArray below meth c H locs 0 0 (ez_MQ below (kz_Wr D A (kz_v (True)) (wM bd cI (nI (tc_own p0 p1)) it o n g v (if tc_own p0 p1 = 0 then 0 else r) (sm_al (if tc_own p0 p1 = 0 then fun _ => p0 + 1 else nx) (if tc_own p0 p1 = 0 then fun _ => 0 else mt) (if tc_own p0 p1 = 0 then fun _ => 0 else fl) (if tc_own p0 p1 = 0 then fun _ => 1 else pr) (if tc_own p0 p1 = 0 then fun _ => 0 else ofs) (if tc_own p0 p1 = 0 then fun _ => 0 else ak) (if tc_own p0 p1 = 0 then fun _ => p1 else hd) (if tc_own p0 p1 = 0 then fun _ => 0 else an)) ++ rs)) (kz_T (fun _ => IAE) (fun _ => False)) s 0 0 A) (F0 m 36 ls []) := by
              intro k2
              induction k2 with
              | zero => intro b al1 H locs ls q1 q2; omega
              | succ k2 ih2 =>
                intro b al1 H locs ls q1 q2 hinv2 hP hD hS hl
                refine lv_iload hx hb dX1_lead_36 (lv_at hl 0 rfl) ?_
                refine lv_bipush (v := 8) hx hb dX1_lead_38 (by decide) ?_
                refine lv_icmp_ge (tgt := 89) hx hb dX1_lead_40 (by decide) (fun c_4 => ?_) (fun c_4 => ?_)
                · -- 40 -> 89
                  have hb8 : b = 8 := kz_b8 q1 c_4
                  obtain ⟨v_5, ev_5⟩ : ∃ y : Int32, y = (nI i) + 1 := ⟨_, rfl⟩
                  refine lv_iinc (v := v_5) (lv' := [(3, .int v_5), (4, .int (nI b)), (0, .ref (bd 0)), (1, .int p0), (2, .int p1)]) hx hb dX1_lead_89 hl (k := 1) rfl (by rw [ev_5]; rfl) (by decide) rfl (fun ls hl => ?_)
                  refine lv_goto (tgt := 27) hx hb dX1_lead_92 (by decide) ?_
                  obtain rfl : v_5 = nI (i + 1) := by rw [ev_5, nI_1]
                  exact ih (i + 1) _ H locs ls (by omega) (by omega) (fun j hj => hinv2 j (by omega)) hP hD hS (lv_sub hl [0, 2, 3, 4] rfl)
                · -- 40 -> 43
                  have hb9 : b < 8 := kz_bl8 q1 c_4
                  refine lv_aload_n hx hb dX1_lead_43 rfl (lv_at hl 2 rfl) ?_
                  refine lv_iload_n hx hb dX1_lead_44 rfl (lv_at hl 1 rfl) ?_
                  refine lv_iload hx hb dX1_lead_45 (lv_at hl 0 rfl) ?_
                  refine lv_iload hx hb dX1_lead_47 (lv_at hl 0 rfl) ?_
                  refine lv_if_ne (tgt := 58) hx hb dX1_lead_49 (by decide) (fun c_6 => ?_) (fun c_6 => ?_)
                  · -- 49 -> 58
                    refine lv_iload hx hb dX1_lead_58 (lv_at hl 0 rfl) ?_
                    refine lv_iconst (v := 3) hx hb dX1_lead_60 (by decide) ?_
                    refine lv_icmp_ne (tgt := 68) hx hb dX1_lead_61 (by decide) (fun c_7 => ?_) (fun c_7 => ?_)
                    · -- 61 -> 68
                      refine lv_iload hx hb dX1_lead_68 (lv_at hl 0 rfl) ?_
                      refine lv_bipush (v := 6) hx hb dX1_lead_70 (by decide) ?_
                      refine lv_icmp_ne (tgt := 79) hx hb dX1_lead_72 (by decide) (fun c_8 => ?_) (fun c_8 => ?_)
                      · -- 72 -> 79
                        refine lv_iconst (v := 0) hx hb dX1_lead_79 (by decide) ?_
                        refine kz_wV (As := [.int (nI i), .int (nI b), .int 0]) (rest := []) ⟨hx, hb, hml, hown, hw9⟩ (c_X1_put l hl9 D cI ty bd rs H.size 0 it o n g v r al1 i b (nI i) (nI b) 0 hi9 hb9 rfl rfl) (kz_cV 3 hw9 mw_442 mw_444 ms_14 mw_2 mw_445 rfl rfl (by decide +kernel) ⟨Nat.le_of_ble_eq_true rfl, Nat.le_of_ble_eq_true rfl⟩) (kz_preV (q0 := 0) (ci := 1) hK hP hD hS hA hE rfl rfl) rfl hl.1 rfl (Nat.le_of_ble_eq_true rfl) dX1_lead_80 ⟨Nat.le_of_ble_eq_true rfl, Nat.le_of_ble_eq_true rfl⟩ hD hS hA (fun _ _ _ _ _ _ h => False.elim h) (fun v9 H locs hv9 hP hD hS => ?_)
                        obtain ⟨rfl, -⟩ := hv9
                        have hP : va_P D vwCl (wM bd cI 0 it o n g v r (upd al1 (8 * i + b) 0) ++ rs) H := hP
                        have hD : va_D A (wM bd cI 0 it o n g v r (upd al1 (8 * i + b) 0) ++ rs) := hD
                        refine W.eq (g2 := F0 m 83 ls []) rfl ?_
                        obtain ⟨v_9, ev_9⟩ : ∃ y : Int32, y = (nI b) + 1 := ⟨_, rfl⟩
                        refine lv_iinc (v := v_9) (lv' := [(4, .int v_9), (3, .int (nI i)), (0, .ref (bd 0)), (1, .int p0), (2, .int p1)]) hx hb dX1_lead_83 hl (k := 0) rfl (by rw [ev_9]; rfl) (by decide) rfl (fun ls hl => ?_)
                        refine lv_goto (tgt := 36) hx hb dX1_lead_86 (by decide) ?_
                        obtain rfl : v_9 = nI (b + 1) := by rw [ev_9, nI_1]
                        have ev9 : 0 = sm_lw p0 p1 b := by simp [sm_lw, (sq_z_t c_1), (sq_z_t c_2), c_4, (Int32.not_le.mp c_4), c_6, c_7, c_8]
                        exact ih2 (b + 1) _ H locs ls (by omega) (by omega) (sm_lwi hb9 ev9 hinv2) hP hD hS (lv_sub hl [0, 1, 2, 3, 4] rfl)
                      · -- 72 -> 75
                        refine lv_iload_n hx hb dX1_lead_75 rfl (lv_at hl 4 rfl) ?_
                        refine lv_goto (tgt := 80) hx hb dX1_lead_76 (by decide) ?_
                        refine kz_wV (As := [.int (nI i), .int (nI b), .int p1]) (rest := []) ⟨hx, hb, hml, hown, hw9⟩ (c_X1_put l hl9 D cI ty bd rs H.size 0 it o n g v r al1 i b (nI i) (nI b) p1 hi9 hb9 rfl rfl) (kz_cV 3 hw9 mw_442 mw_444 ms_14 mw_2 mw_445 rfl rfl (by decide +kernel) ⟨Nat.le_of_ble_eq_true rfl, Nat.le_of_ble_eq_true rfl⟩) (kz_preV (q0 := 0) (ci := 1) hK hP hD hS hA hE rfl rfl) rfl hl.1 rfl (Nat.le_of_ble_eq_true rfl) dX1_lead_80 ⟨Nat.le_of_ble_eq_true rfl, Nat.le_of_ble_eq_true rfl⟩ hD hS hA (fun _ _ _ _ _ _ h => False.elim h) (fun v9 H locs hv9 hP hD hS => ?_)
                        obtain ⟨rfl, -⟩ := hv9
                        have hP : va_P D vwCl (wM bd cI 0 it o n g v r (upd al1 (8 * i + b) p1) ++ rs) H := hP
                        have hD : va_D A (wM bd cI 0 it o n g v r (upd al1 (8 * i + b) p1) ++ rs) := hD
                        refine W.eq (g2 := F0 m 83 ls []) rfl ?_
                        obtain ⟨v_10, ev_10⟩ : ∃ y : Int32, y = (nI b) + 1 := ⟨_, rfl⟩
                        refine lv_iinc (v := v_10) (lv' := [(4, .int v_10), (3, .int (nI i)), (0, .ref (bd 0)), (1, .int p0), (2, .int p1)]) hx hb dX1_lead_83 hl (k := 0) rfl (by rw [ev_10]; rfl) (by decide) rfl (fun ls hl => ?_)
                        refine lv_goto (tgt := 36) hx hb dX1_lead_86 (by decide) ?_
                        obtain rfl : v_10 = nI (b + 1) := by rw [ev_10, nI_1]
                        have ev9 : p1 = sm_lw p0 p1 b := by simp [sm_lw, (sq_z_t c_1), (sq_z_t c_2), c_4, (Int32.not_le.mp c_4), c_6, c_7, c_8]
                        exact ih2 (b + 1) _ H locs ls (by omega) (by omega) (sm_lwi hb9 ev9 hinv2) hP hD hS (lv_sub hl [0, 1, 2, 3, 4] rfl)
                    · -- 61 -> 64
                      refine lv_iconst (v := 1) hx hb dX1_lead_64 (by decide) ?_
                      refine lv_goto (tgt := 80) hx hb dX1_lead_65 (by decide) ?_
                      refine kz_wV (As := [.int (nI i), .int (nI b), .int 1]) (rest := []) ⟨hx, hb, hml, hown, hw9⟩ (c_X1_put l hl9 D cI ty bd rs H.size 0 it o n g v r al1 i b (nI i) (nI b) 1 hi9 hb9 rfl rfl) (kz_cV 3 hw9 mw_442 mw_444 ms_14 mw_2 mw_445 rfl rfl (by decide +kernel) ⟨Nat.le_of_ble_eq_true rfl, Nat.le_of_ble_eq_true rfl⟩) (kz_preV (q0 := 0) (ci := 1) hK hP hD hS hA hE rfl rfl) rfl hl.1 rfl (Nat.le_of_ble_eq_true rfl) dX1_lead_80 ⟨Nat.le_of_ble_eq_true rfl, Nat.le_of_ble_eq_true rfl⟩ hD hS hA (fun _ _ _ _ _ _ h => False.elim h) (fun v9 H locs hv9 hP hD hS => ?_)
                      obtain ⟨rfl, -⟩ := hv9
                      have hP : va_P D vwCl (wM bd cI 0 it o n g v r (upd al1 (8 * i + b) 1) ++ rs) H := hP
                      have hD : va_D A (wM bd cI 0 it o n g v r (upd al1 (8 * i + b) 1) ++ rs) := hD
                      refine W.eq (g2 := F0 m 83 ls []) rfl ?_
                      obtain ⟨v_11, ev_11⟩ : ∃ y : Int32, y = (nI b) + 1 := ⟨_, rfl⟩
                      refine lv_iinc (v := v_11) (lv' := [(4, .int v_11), (3, .int (nI i)), (0, .ref (bd 0)), (1, .int p0), (2, .int p1)]) hx hb dX1_lead_83 hl (k := 0) rfl (by rw [ev_11]; rfl) (by decide) rfl (fun ls hl => ?_)
                      refine lv_goto (tgt := 36) hx hb dX1_lead_86 (by decide) ?_
                      obtain rfl : v_11 = nI (b + 1) := by rw [ev_11, nI_1]
                      have ev9 : 1 = sm_lw p0 p1 b := by simp [sm_lw, (sq_z_t c_1), (sq_z_t c_2), c_4, (Int32.not_le.mp c_4), c_6, c_7]
                      exact ih2 (b + 1) _ H locs ls (by omega) (by omega) (sm_lwi hb9 ev9 hinv2) hP hD hS (lv_sub hl [0, 1, 2, 3, 4] rfl)
                  · -- 49 -> 52
                    refine lv_iload_n hx hb dX1_lead_52 rfl (lv_at hl 3 rfl) ?_
                    refine lv_iconst (v := 1) hx hb dX1_lead_53 (by decide) ?_
                    refine lv_iadd hx hb dX1_lead_54 ?_
                    refine lv_goto (tgt := 80) hx hb dX1_lead_55 (by decide) ?_
                    refine kz_wV (As := [.int (nI i), .int (nI b), .int (p0 + 1)]) (rest := []) ⟨hx, hb, hml, hown, hw9⟩ (c_X1_put l hl9 D cI ty bd rs H.size 0 it o n g v r al1 i b (nI i) (nI b) (p0 + 1) hi9 hb9 rfl rfl) (kz_cV 3 hw9 mw_442 mw_444 ms_14 mw_2 mw_445 rfl rfl (by decide +kernel) ⟨Nat.le_of_ble_eq_true rfl, Nat.le_of_ble_eq_true rfl⟩) (kz_preV (q0 := 0) (ci := 1) hK hP hD hS hA hE rfl rfl) rfl hl.1 rfl (Nat.le_of_ble_eq_true rfl) dX1_lead_80 ⟨Nat.le_of_ble_eq_true rfl, Nat.le_of_ble_eq_true rfl⟩ hD hS hA (fun _ _ _ _ _ _ h => False.elim h) (fun v9 H locs hv9 hP hD hS => ?_)
                    obtain ⟨rfl, -⟩ := hv9
                    have hP : va_P D vwCl (wM bd cI 0 it o n g v r (upd al1 (8 * i + b) (p0 + 1)) ++ rs) H := hP
                    have hD : va_D A (wM bd cI 0 it o n g v r (upd al1 (8 * i + b) (p0 + 1)) ++ rs) := hD
                    refine W.eq (g2 := F0 m 83 ls []) rfl ?_
                    obtain ⟨v_12, ev_12⟩ : ∃ y : Int32, y = (nI b) + 1 := ⟨_, rfl⟩
                    refine lv_iinc (v := v_12) (lv' := [(4, .int v_12), (3, .int (nI i)), (0, .ref (bd 0)), (1, .int p0), (2, .int p1)]) hx hb dX1_lead_83 hl (k := 0) rfl (by rw [ev_12]; rfl) (by decide) rfl (fun ls hl => ?_)
                    refine lv_goto (tgt := 36) hx hb dX1_lead_86 (by decide) ?_
                    obtain rfl : v_12 = nI (b + 1) := by rw [ev_12, nI_1]
                    have ev9 : (p0 + 1) = sm_lw p0 p1 b := by simp [sm_lw, (sq_z_t c_1), (sq_z_t c_2), c_4, (Int32.not_le.mp c_4), c_6]
                    exact ih2 (b + 1) _ H locs ls (by omega) (by omega) (sm_lwi hb9 ev9 hinv2) hP hD hS (lv_sub hl [0, 1, 2, 3, 4] rfl)
            exact loop2 9 0 al1 H locs ls (by decide) (by decide) (fun j hj => hinv j (by omega)) hP hD hS (lv_sub hl [0, 1, 2, 3, 4] rfl)
      exact loop 8 0 _ _ _ ls (by decide) (by decide) (fun j hj => absurd hj (by omega)) hP hD hS (lv_sub hl [0, 1, 2, 3] rfl)
    · -- 16 -> 19
      refine lv_aload_n hx hb dX1_lead_19 rfl (lv_at hl 0 rfl) ?_
      refine lv_iconst (v := 1) hx hb dX1_lead_20 (by decide) ?_
      refine va_put (D := D) (ci := 1) (v := .int 1) (ty := .int) (C := RX1) (T := TX1) (N := 8) hx hb hw9 uX1 tyX1 tyX1_ok nmX1 hown hK hP hD hS 0 rfl rfl 0 (by decide) (hw9 _ mw_360) (fun _ h9 => h9) rfl (by decide +kernel) rfl rfl (Nat.le_of_ble_eq_true rfl) dX1_lead_21 (fun H locs hP hD hS => ?_)
      have hP : va_P D vwCl (wM bd cI 1 it o n g v r (sm_al nx mt fl pr ofs ak hd an) ++ rs) H := hP
      have hD : va_D A (wM bd cI 1 it o n g v r (sm_al nx mt fl pr ofs ak hd an) ++ rs) := hD
      have htc : tc_own p0 p1 = 1 := by first | (simp [tc_own, (sq_z_t c_1), (sq_z_f c_2)]; done) | (simp only [tc_own, (sq_z_t c_1), (sq_z_f c_2), eq_self, not_true_eq_false, not_false_eq_true, and_self, and_true, true_and, and_false, false_and, or_true, true_or, or_false, false_or, if_true, if_false, ite_true, ite_false, Bool.and_eq_true, decide_true, decide_false, decide_eq_true_eq, ne_eq, Nat.reduceEqDiff, Nat.one_ne_zero, Bool.false_eq_true, reduceCtorEq]; done) | (simp only [tc_own, (sq_z_t c_1), (sq_z_f c_2), eq_self, not_true_eq_false, not_false_eq_true, and_self, and_true, true_and, and_false, false_and, or_true, true_or, or_false, false_or, if_true, if_false, ite_true, ite_false, Bool.and_eq_true, decide_true, decide_false, decide_eq_true_eq, ne_eq, Nat.reduceEqDiff, Nat.one_ne_zero, Bool.false_eq_true, reduceCtorEq]; decide)
      exact kz_wretv hx hb hr hlocks (by rw [htc]; exact hP) (by rw [htc]; exact hD) hS (Nat.le_of_ble_eq_true rfl) (Nat.le_of_ble_eq_true rfl) (trivial)  dX1_lead_24
set_option maxHeartbeats 4000000 in
set_option maxRecDepth 100000 in
theorem c_X1_round (l : Launch) (hl9 : l.stackTraces = false) (D : va_G) (cI : ClassId) (ty : kz_Y) (bd : Nat → Nat) (rs : va_W) (sz : Nat) (th it o n g v r : Int32) (nx mt fl pr ofs ak hd an : Nat → Int32) (hM : sv_m it o n g v) : ez_M l yX1_round wsX1_round ({ frames := 2, cells := 1, slots := 6, locals := 43 } : Room) (kz_P D ((cI, .int) :: ty) (wM bd cI th it o n g v r (sm_al nx mt fl pr ofs ak hd an) ++ rs) sz [.ref (bd 0)]) (kz_Wr D (va_A (wM bd cI th it o n g v r (sm_al nx mt fl pr ofs ak hd an) ++ rs) sz) (kz_i (fun r9 => r9 = (r + 1))) (wM bd cI 0 it o n g v (r + 1) (sm_al (fun j => if sq_R it o n g fl an j = true then mt j + 1 else nx j) mt (fun j => if sq_R it o n g fl an j = true then 0 else fl j) (fun j => if sq_R it o n g fl an j = true then 1 else pr j) ofs ak hd (fun _ => 0)) ++ rs)) (kz_T (fun _ => IAE) (fun _ => False)) 0 0 (va_A (wM bd cI th it o n g v r (sm_al nx mt fl pr ofs ak hd an) ++ rs) sz) := by
  refine ez_ofW (cc := cX1_round) (maxL := 2) (ret := (some .int)) (by decide) rfl ?_
  intro p e s m args below meth c s₁ B hml hTab hv
  obtain ⟨rfl, hsz, hP, hK, hD0, hE⟩ := hv
  have hx := B.exec
  have hb := B.bytes
  have hr := B.returns
  have hw9 : ∀ w ∈ kz_W9, w.before ([.ref (bd 0)] : List Value).toArray s = true := fun w h => atoms_spec (ws := wsX1_round) B.pre w (List.mem_cons_of_mem _ h)
  have hown : s.vm.findClass RX1 = some m.cls := findClass_of_methodNamed B.named
  have hlocks := B.notSynchronized
  subst hsz
  have hD := hD0.self (sz := s.heap.size)
  generalize hAe : va_A (wM bd cI th it o n g v r (sm_al nx mt fl pr ofs ak hd an) ++ rs) s.heap.size = A at hD hE ⊢
  have hA : ∀ q : Nat, s.heap.size ≤ q → A q := fun q h => by rw [← hAe]; exact Or.inr h
  have hS : va_S A s.heap s.heap [] := va_S.rf
  have hO : kz_O s.heap s.heap := kz_O.rf _
  have hl := lv_entry ([.ref (bd 0)]) (n := 2) (Nat.le_of_ble_eq_true rfl)
  rw [lg_entry_eq]
  generalize (lg_sl ([.ref (bd 0)]) ++ List.replicate (2 - (lg_sl ([.ref (bd 0)])).length) Slot.unset).toArray = ls at hl ⊢
  have hl : lv_has ls 2 [(0, .ref (bd 0))] := hl
  obtain ⟨hIt, hOo, hNn, hGg, hVv⟩ := id hM
  obtain ⟨xo, ho8, eo⟩ := sm_S hOo
  obtain ⟨xn, hn8, en⟩ := sm_S hNn
  obtain ⟨xg, hg8, eg⟩ := sm_S hGg
  obtain ⟨xv, hv8, ev⟩ := sm_S hVv
  obtain ⟨hIa, hIe⟩ := sm_srv hIt
  refine lv_aload_n hx hb dX1_round_0 rfl (lv_at hl 0 rfl) ?_
  refine lv_iconst (v := 0) hx hb dX1_round_1 (by decide) ?_
  refine va_put (D := D) (ci := 1) (v := .int 0) (ty := .int) (C := RX1) (T := TX1) (N := 8) hx hb hw9 uX1 tyX1 tyX1_ok nmX1 hown hK hP hD hS 0 rfl rfl 0 (by decide) (hw9 _ mw_360) (fun _ h9 => h9) rfl (by decide +kernel) rfl rfl (Nat.le_of_ble_eq_true rfl) dX1_round_2 (fun H locs hP hD hS => ?_)
  have hP : va_P D vwCl (wM bd cI 0 it o n g v r (sm_al nx mt fl pr ofs ak hd an) ++ rs) H := hP
  have hD : va_D A (wM bd cI 0 it o n g v r (sm_al nx mt fl pr ofs ak hd an) ++ rs) := hD
  refine lv_aload_n hx hb dX1_round_5 rfl (lv_at hl 0 rfl) ?_
  refine lv_dup hx hb dX1_round_6 rfl ?_
  refine va_get (D := D) (ci := 1) (v := .int r) (C := RX1) (T := TX1) (N := 8) hx hb hw9 uX1 hown hK hP 0 rfl rfl 6 (by decide) (hw9 _ mw_366) (fun _ h9 => h9) rfl dX1_round_7 ?_
  refine lv_iconst (v := 1) hx hb dX1_round_10 (by decide) ?_
  refine lv_iadd hx hb dX1_round_11 ?_
  refine va_put (D := D) (ci := 1) (v := .int (r + 1)) (ty := .int) (C := RX1) (T := TX1) (N := 8) hx hb hw9 uX1 tyX1 tyX1_ok nmX1 hown hK hP hD hS 0 rfl rfl 6 (by decide) (hw9 _ mw_366) (fun _ h9 => h9) rfl (by decide +kernel) rfl rfl (Nat.le_of_ble_eq_true rfl) dX1_round_12 (fun H locs hP hD hS => ?_)
  have hP : va_P D vwCl (wM bd cI 0 it o n g v (r + 1) (sm_al nx mt fl pr ofs ak hd an) ++ rs) H := hP
  have hD : va_D A (wM bd cI 0 it o n g v (r + 1) (sm_al nx mt fl pr ofs ak hd an) ++ rs) := hD
  refine lv_iconst (v := 0) hx hb dX1_round_15 (by decide) ?_
  refine lv_istore_n (lv' := [(1, .int 0), (0, .ref (bd 0))]) hx hb dX1_round_16 rfl hl (by decide) rfl (fun ls hl => ?_)
  have loop : ∀ (k i : Nat) (nx1 fl1 pr1 : Nat → Int32) (H : Heap) (locs : List Loc) (ls : Array Slot), i ≤ 7 → 7 < i + k → (∀ j, j < 7 → nx1 j = (if j < i ∧ sq_R it o n g fl an j = true then mt j + 1 else nx j) ∧ fl1 j = (if j < i ∧ sq_R it o n g fl an j = true then 0 else fl j) ∧ pr1 j = (if j < i ∧ sq_R it o n g fl an j = true then 1 else pr j)) → va_P D vwCl (wM bd cI 0 it o n g v (r + 1) (sm_al nx1 mt fl1 pr1 ofs ak hd an) ++ rs) H → va_D A (wM bd cI 0 it o n g v (r + 1) (sm_al nx1 mt fl1 pr1 ofs ak hd an) ++ rs) → va_S A s.heap H locs → lv_has ls 2 [(1, .int (nI i)), (0, .ref (bd 0))] → W p l e (headSpec wsX1_round ({ frames := 2, cells := 1, slots := 6, locals := 43 } : Room)).room s m ([.ref (bd 0)] : List Value).toArray below meth c H locs 0 0 (ez_MQ below (kz_Wr D A (kz_i (fun r9 => r9 = (r + 1))) (wM bd cI 0 it o n g v (r + 1) (sm_al (fun j => if sq_R it o n g fl an j = true then mt j + 1 else nx j) mt (fun j => if sq_R it o n g fl an j = true then 0 else fl j) (fun j => if sq_R it o n g fl an j = true then 1 else pr j) ofs ak hd (fun _ => 0)) ++ rs)) (kz_T (fun _ => IAE) (fun _ => False)) s 0 0 A) (F0 m 17 ls []) := by
    intro k
    induction k with
    | zero => intro i nx1 fl1 pr1 H locs ls h1 h2; omega
    | succ k ih =>
      intro i nx1 fl1 pr1 H locs ls h1 h2 hinv hP hD hS hl
      refine lv_iload_n hx hb dX1_round_17 rfl (lv_at hl 0 rfl) ?_
      refine lv_bipush (v := 7) hx hb dX1_round_18 (by decide) ?_
      refine lv_icmp_ge (tgt := 87) hx hb dX1_round_20 (by decide) (fun c_1 => ?_) (fun c_1 => ?_)
      · -- 20 -> 87
        have hi7 : i = 7 := kz_i7 h1 c_1
        subst hi7
        have hP : va_P D vwCl (wM bd cI 0 it o n g v (r + 1) (sm_al (fun j => if sq_R it o n g fl an j = true then mt j + 1 else nx j) mt (fun j => if sq_R it o n g fl an j = true then 0 else fl j) (fun j => if sq_R it o n g fl an j = true then 1 else pr j) ofs ak hd an) ++ rs) H := kz_fn (g := (sm_al (fun j => if sq_R it o n g fl an j = true then mt j + 1 else nx j) mt (fun j => if sq_R it o n g fl an j = true then 0 else fl j) (fun j => if sq_R it o n g fl an j = true then 1 else pr j) ofs ak hd an)) (k := 1) hP rfl (sm_ext (fun j hj => by have q9 := (hinv j hj).1; simpa [hj] using q9) (fun _ _ => rfl) (fun j hj => by have q9 := (hinv j hj).2.1; simpa [hj] using q9) (fun j hj => by have q9 := (hinv j hj).2.2; simpa [hj] using q9) (fun _ _ => rfl) (fun _ _ => rfl) (fun _ _ => rfl) (fun _ _ => rfl))
        have hD : va_D A (wM bd cI 0 it o n g v (r + 1) (sm_al (fun j => if sq_R it o n g fl an j = true then mt j + 1 else nx j) mt (fun j => if sq_R it o n g fl an j = true then 0 else fl j) (fun j => if sq_R it o n g fl an j = true then 1 else pr j) ofs ak hd an) ++ rs) := hD.set (p := 1) rfl
        refine lv_iconst (v := 0) hx hb dX1_round_87 (by decide) ?_
        refine lv_istore_n (lv' := [(1, .int 0), (0, .ref (bd 0))]) hx hb dX1_round_88 rfl hl (by decide) rfl (fun ls hl => ?_)
        have loop2 : ∀ (k i : Nat) (an1 : Nat → Int32) (H : Heap) (locs : List Loc) (ls : Array Slot), i ≤ 7 → 7 < i + k → (∀ j, j < 7 → an1 j = (if j < i then 0 else an j)) → va_P D vwCl (wM bd cI 0 it o n g v (r + 1) (sm_al (fun j => if sq_R it o n g fl an j = true then mt j + 1 else nx j) mt (fun j => if sq_R it o n g fl an j = true then 0 else fl j) (fun j => if sq_R it o n g fl an j = true then 1 else pr j) ofs ak hd an1) ++ rs) H → va_D A (wM bd cI 0 it o n g v (r + 1) (sm_al (fun j => if sq_R it o n g fl an j = true then mt j + 1 else nx j) mt (fun j => if sq_R it o n g fl an j = true then 0 else fl j) (fun j => if sq_R it o n g fl an j = true then 1 else pr j) ofs ak hd an1) ++ rs) → va_S A s.heap H locs → lv_has ls 2 [(1, .int (nI i)), (0, .ref (bd 0))] → W p l e (headSpec wsX1_round ({ frames := 2, cells := 1, slots := 6, locals := 43 } : Room)).room s m ([.ref (bd 0)] : List Value).toArray below meth c H locs 0 0 (ez_MQ below (kz_Wr D A (kz_i (fun r9 => r9 = (r + 1))) (wM bd cI 0 it o n g v (r + 1) (sm_al (fun j => if sq_R it o n g fl an j = true then mt j + 1 else nx j) mt (fun j => if sq_R it o n g fl an j = true then 0 else fl j) (fun j => if sq_R it o n g fl an j = true then 1 else pr j) ofs ak hd (fun _ => 0)) ++ rs)) (kz_T (fun _ => IAE) (fun _ => False)) s 0 0 A) (F0 m 89 ls []) := by
          intro k
          induction k with
          | zero => intro i an1 H locs ls h1 h2; omega
          | succ k ih =>
            intro i an1 H locs ls h1 h2 hinv hP hD hS hl
            refine lv_iload_n hx hb dX1_round_89 rfl (lv_at hl 0 rfl) ?_
            refine lv_bipush (v := 7) hx hb dX1_round_90 (by decide) ?_
            refine lv_icmp_ge (tgt := 109) hx hb dX1_round_92 (by decide) (fun c_2 => ?_) (fun c_2 => ?_)
            · -- 92 -> 109
              have hi7 : i = 7 := kz_i7 h1 c_2
              subst hi7
              have hP : va_P D vwCl (wM bd cI 0 it o n g v (r + 1) (sm_al (fun j => if sq_R it o n g fl an j = true then mt j + 1 else nx j) mt (fun j => if sq_R it o n g fl an j = true then 0 else fl j) (fun j => if sq_R it o n g fl an j = true then 1 else pr j) ofs ak hd (fun _ => 0)) ++ rs) H := kz_fn (g := (sm_al (fun j => if sq_R it o n g fl an j = true then mt j + 1 else nx j) mt (fun j => if sq_R it o n g fl an j = true then 0 else fl j) (fun j => if sq_R it o n g fl an j = true then 1 else pr j) ofs ak hd (fun _ => 0))) (k := 1) hP rfl (sm_ext (fun _ _ => rfl) (fun _ _ => rfl) (fun _ _ => rfl) (fun _ _ => rfl) (fun _ _ => rfl) (fun _ _ => rfl) (fun _ _ => rfl) (fun j hj => by have q9 := hinv j hj; simpa [hj] using q9))
              have hD : va_D A (wM bd cI 0 it o n g v (r + 1) (sm_al (fun j => if sq_R it o n g fl an j = true then mt j + 1 else nx j) mt (fun j => if sq_R it o n g fl an j = true then 0 else fl j) (fun j => if sq_R it o n g fl an j = true then 1 else pr j) ofs ak hd (fun _ => 0)) ++ rs) := hD.set (p := 1) rfl
              refine lv_aload_n hx hb dX1_round_109 rfl (lv_at hl 1 rfl) ?_
              refine va_get (D := D) (ci := 1) (v := .int (r + 1)) (C := RX1) (T := TX1) (N := 8) hx hb hw9 uX1 hown hK hP 0 rfl rfl 6 (by decide) (hw9 _ mw_366) (fun _ h9 => h9) rfl dX1_round_110 ?_
              exact kz_wreti hx hb hr hlocks hP hD hS (Nat.le_of_ble_eq_true rfl) (Nat.le_of_ble_eq_true rfl) (rfl)  dX1_round_113
            · -- 92 -> 95
              have hi9 : i < 7 := kz_l7 h1 c_2
              have hc9 : (nI i).toNatClampNeg = i := nI_clamp (by omega)
              refine lv_aload_n hx hb dX1_round_95 rfl (lv_at hl 1 rfl) ?_
              refine lv_iload_n hx hb dX1_round_96 rfl (lv_at hl 0 rfl) ?_
              refine lv_bipush (v := 7) hx hb dX1_round_97 (by decide) ?_
              refine lv_iconst (v := 0) hx hb dX1_round_99 (by decide) ?_
              refine kz_wV (As := [.int (nI i), .int 7, .int 0]) (rest := []) ⟨hx, hb, hml, hown, hw9⟩ (c_X1_put l hl9 D cI ty bd rs H.size 0 it o n g v (r + 1) (sm_al (fun j => if sq_R it o n g fl an j = true then mt j + 1 else nx j) mt (fun j => if sq_R it o n g fl an j = true then 0 else fl j) (fun j => if sq_R it o n g fl an j = true then 1 else pr j) ofs ak hd an1) i 7 (nI i) 7 0 hi9 (by decide) rfl rfl) (kz_cV 3 hw9 mw_442 mw_444 ms_14 mw_2 mw_445 rfl rfl (by decide +kernel) ⟨Nat.le_of_ble_eq_true rfl, Nat.le_of_ble_eq_true rfl⟩) (kz_preV (q0 := 0) (ci := 1) hK hP hD hS hA hE rfl rfl) rfl hl.1 rfl (Nat.le_of_ble_eq_true rfl) dX1_round_100 ⟨Nat.le_of_ble_eq_true rfl, Nat.le_of_ble_eq_true rfl⟩ hD hS hA (fun _ _ _ _ _ _ h => False.elim h) (fun v9 H locs hv9 hP hD hS => ?_)
              obtain ⟨rfl, -⟩ := hv9
              rw [sm_p7] at hP hD
              have hP : va_P D vwCl (wM bd cI 0 it o n g v (r + 1) (sm_al (fun j => if sq_R it o n g fl an j = true then mt j + 1 else nx j) mt (fun j => if sq_R it o n g fl an j = true then 0 else fl j) (fun j => if sq_R it o n g fl an j = true then 1 else pr j) ofs ak hd (upd an1 i 0)) ++ rs) H := hP
              have hD : va_D A (wM bd cI 0 it o n g v (r + 1) (sm_al (fun j => if sq_R it o n g fl an j = true then mt j + 1 else nx j) mt (fun j => if sq_R it o n g fl an j = true then 0 else fl j) (fun j => if sq_R it o n g fl an j = true then 1 else pr j) ofs ak hd (upd an1 i 0)) ++ rs) := hD
              refine W.eq (g2 := F0 m 103 ls []) rfl ?_
              obtain ⟨v_3, ev_3⟩ : ∃ y : Int32, y = (nI i) + 1 := ⟨_, rfl⟩
              refine lv_iinc (v := v_3) (lv' := [(1, .int v_3), (0, .ref (bd 0))]) hx hb dX1_round_103 hl (k := 0) rfl (by rw [ev_3]; rfl) (by decide) rfl (fun ls hl => ?_)
              refine lv_goto (tgt := 89) hx hb dX1_round_106 (by decide) ?_
              obtain rfl : v_3 = nI (i + 1) := by rw [ev_3, nI_1]
              exact ih (i + 1) _ H locs ls (by omega) (by omega) (fun j hj => by
                have a4 := hinv j hj
                simp only [upd]
                by_cases hji : j = i
                · simp [hji]
                · have e9 : (j < i + 1) = (j < i) := propext ⟨fun h => by omega, fun h => by omega⟩
                  simp only [if_neg hji, e9]
                  exact a4) hP hD hS (lv_sub hl [0, 1] rfl)
        exact loop2 8 0 an _ _ ls (by decide) (by decide) (fun j hj => by simp) hP hD hS (lv_sub hl [0, 1] rfl)
      · -- 20 -> 23
        have hi9 : i < 7 := kz_l7 h1 c_1
        have hc9 : (nI i).toNatClampNeg = i := nI_clamp (by omega)
        refine lv_aload_n hx hb dX1_round_23 rfl (lv_at hl 1 rfl) ?_
        refine kz_rV (As := []) (rest := []) ⟨hx, hb, hml, hown, hw9⟩ (c_X1_peers l hl9 D cI ty bd rs H.size 0 it o n g v (r + 1) (sm_al nx1 mt fl1 pr1 ofs ak hd an) hM) (kz_cV 0 hw9 mw_450 mw_452 ms_15 mw_2 mw_453 rfl rfl (by decide +kernel) ⟨Nat.le_of_ble_eq_true rfl, Nat.le_of_ble_eq_true rfl⟩) (kz_preV (q0 := 0) (ci := 1) hK hP hD hS hA hE rfl rfl) rfl hl.1 rfl (Nat.le_of_ble_eq_true rfl) dX1_round_24 ⟨Nat.le_of_ble_eq_true rfl, Nat.le_of_ble_eq_true rfl⟩ (fun _ _ _ _ h => False.elim h) (fun v9 H hv9 hO1 => ?_)
        obtain ⟨_, rfl, rfl⟩ := hv9
        have hP := hO1.P hP
        have hS := hO1.S hS
        refine W.eq (g2 := F0 m 27 ls [.int (sq_P it o n g)]) rfl ?_
        refine lv_iload_n hx hb dX1_round_27 rfl (lv_at hl 0 rfl) ?_
        refine kz_rS (As := [.int (sq_P it o n g), .int (nI i)]) (rest := []) ⟨hx, hb, hml, hown, hw9⟩ (c_X1_has l hl9 D ((cI, .int) :: ty) (wM bd cI 0 it o n g v (r + 1) (sm_al nx1 mt fl1 pr1 ofs ak hd an) ++ rs) H.size (sq_P it o n g) (nI i)) (kz_cS 2 hw9 mw_400 mw_401 mw_2 mw_402 rfl rfl (by decide +kernel) ⟨Nat.le_of_ble_eq_true rfl, Nat.le_of_ble_eq_true rfl⟩) (kz_preS hK hP hD hS hA hE) rfl hl.1 rfl (Nat.le_of_ble_eq_true rfl) dX1_round_28 ⟨Nat.le_of_ble_eq_true rfl, Nat.le_of_ble_eq_true rfl⟩ (fun _ _ _ _ h => False.elim h) (fun v9 H hv9 hO1 => ?_)
        obtain ⟨_, rfl, rfl⟩ := hv9
        have hP := hO1.P hP
        have hS := hO1.S hS
        refine W.eq (g2 := F0 m 31 ls [.int (sq_z (sm_h (sq_P it o n g) (nI i)))]) rfl ?_
        refine lv_if_eq (tgt := 81) hx hb dX1_round_31 (by decide) (fun c_4 => ?_) (fun c_4 => ?_)
        · -- 31 -> 81
          obtain ⟨v_5, ev_5⟩ : ∃ y : Int32, y = (nI i) + 1 := ⟨_, rfl⟩
          refine lv_iinc (v := v_5) (lv' := [(1, .int v_5), (0, .ref (bd 0))]) hx hb dX1_round_81 hl (k := 0) rfl (by rw [ev_5]; rfl) (by decide) rfl (fun ls hl => ?_)
          refine lv_goto (tgt := 17) hx hb dX1_round_84 (by decide) ?_
          obtain rfl : v_5 = nI (i + 1) := by rw [ev_5, nI_1]
          have hfi : fl i = fl1 i := by have q9 := (hinv i hi9).2.1; simp at q9; exact q9.symm
          have hPi : sq_I (sq_P it o n g) (nI i) = sm_h (sq_P it o n g) (nI i) := by rw [sm_hP hM, sm_Vi hi9, Bool.true_and]
          have hR : sq_R it o n g fl an i = false := by simp [sq_R, hfi, hPi, c_1, (Int32.not_le.mp c_1), (sq_z_f c_4)]
          exact ih (i + 1) _ _ _ H locs ls (by omega) (by omega) (fun j hj => by
            obtain ⟨a1, a2, a3⟩ := hinv j hj
            try simp only [upd]
            by_cases hji : j = i
            · rw [hji] at a1 a2 a3 ⊢
              simp only [Nat.lt_irrefl, false_and, if_false] at a1 a2 a3
              simp [hR, a1, a2, a3]
            · have e9 : (j < i + 1) = (j < i) := propext ⟨fun h => by omega, fun h => by omega⟩
              simp only [if_neg hji, e9]
              exact ⟨a1, a2, a3⟩) hP hD hS (lv_sub hl [0, 1] rfl)
        · -- 31 -> 34
          refine lv_aload_n hx hb dX1_round_34 rfl (lv_at hl 1 rfl) ?_
          refine lv_iload_n hx hb dX1_round_35 rfl (lv_at hl 0 rfl) ?_
          refine lv_iconst (v := 2) hx hb dX1_round_36 (by decide) ?_
          refine kz_rV (As := [.int (nI i), .int 2]) (rest := []) ⟨hx, hb, hml, hown, hw9⟩ (c_X1_get l hl9 D cI ty bd rs H.size 0 it o n g v (r + 1) (sm_al nx1 mt fl1 pr1 ofs ak hd an) i 2 (nI i) 2 hi9 (by decide) rfl rfl) (kz_cV 2 hw9 mw_403 mw_405 ms_11 mw_2 mw_406 rfl rfl (by decide +kernel) ⟨Nat.le_of_ble_eq_true rfl, Nat.le_of_ble_eq_true rfl⟩) (kz_preV (q0 := 0) (ci := 1) hK hP hD hS hA hE rfl rfl) rfl hl.1 rfl (Nat.le_of_ble_eq_true rfl) dX1_round_37 ⟨Nat.le_of_ble_eq_true rfl, Nat.le_of_ble_eq_true rfl⟩ (fun _ _ _ _ h => False.elim h) (fun v9 H hv9 hO1 => ?_)
          obtain ⟨_, rfl, rfl⟩ := hv9
          have hP := hO1.P hP
          have hS := hO1.S hS
          rw [sm_g2]
          refine W.eq (g2 := F0 m 40 ls [.int (fl1 i)]) rfl ?_
          refine lv_if_le (tgt := 81) hx hb dX1_round_40 (by decide) (fun c_6 => ?_) (fun c_6 => ?_)
          · -- 40 -> 81
            obtain ⟨v_7, ev_7⟩ : ∃ y : Int32, y = (nI i) + 1 := ⟨_, rfl⟩
            refine lv_iinc (v := v_7) (lv' := [(1, .int v_7), (0, .ref (bd 0))]) hx hb dX1_round_81 hl (k := 0) rfl (by rw [ev_7]; rfl) (by decide) rfl (fun ls hl => ?_)
            refine lv_goto (tgt := 17) hx hb dX1_round_84 (by decide) ?_
            obtain rfl : v_7 = nI (i + 1) := by rw [ev_7, nI_1]
            have hfi : fl i = fl1 i := by have q9 := (hinv i hi9).2.1; simp at q9; exact q9.symm
            have hPi : sq_I (sq_P it o n g) (nI i) = sm_h (sq_P it o n g) (nI i) := by rw [sm_hP hM, sm_Vi hi9, Bool.true_and]
            have hR : sq_R it o n g fl an i = false := by simp [sq_R, hfi, hPi, c_1, (Int32.not_le.mp c_1), (sq_z_t c_4), c_6, (Int32.not_lt.mpr c_6)]
            exact ih (i + 1) _ _ _ H locs ls (by omega) (by omega) (fun j hj => by
              obtain ⟨a1, a2, a3⟩ := hinv j hj
              try simp only [upd]
              by_cases hji : j = i
              · rw [hji] at a1 a2 a3 ⊢
                simp only [Nat.lt_irrefl, false_and, if_false] at a1 a2 a3
                simp [hR, a1, a2, a3]
              · have e9 : (j < i + 1) = (j < i) := propext ⟨fun h => by omega, fun h => by omega⟩
                simp only [if_neg hji, e9]
                exact ⟨a1, a2, a3⟩) hP hD hS (lv_sub hl [0, 1] rfl)
          · -- 40 -> 43
            refine lv_aload_n hx hb dX1_round_43 rfl (lv_at hl 1 rfl) ?_
            refine lv_iload_n hx hb dX1_round_44 rfl (lv_at hl 0 rfl) ?_
            refine lv_bipush (v := 7) hx hb dX1_round_45 (by decide) ?_
            refine kz_rV (As := [.int (nI i), .int 7]) (rest := []) ⟨hx, hb, hml, hown, hw9⟩ (c_X1_get l hl9 D cI ty bd rs H.size 0 it o n g v (r + 1) (sm_al nx1 mt fl1 pr1 ofs ak hd an) i 7 (nI i) 7 hi9 (by decide) rfl rfl) (kz_cV 2 hw9 mw_403 mw_405 ms_11 mw_2 mw_406 rfl rfl (by decide +kernel) ⟨Nat.le_of_ble_eq_true rfl, Nat.le_of_ble_eq_true rfl⟩) (kz_preV (q0 := 0) (ci := 1) hK hP hD hS hA hE rfl rfl) rfl hl.1 rfl (Nat.le_of_ble_eq_true rfl) dX1_round_47 ⟨Nat.le_of_ble_eq_true rfl, Nat.le_of_ble_eq_true rfl⟩ (fun _ _ _ _ h => False.elim h) (fun v9 H hv9 hO1 => ?_)
            obtain ⟨_, rfl, rfl⟩ := hv9
            have hP := hO1.P hP
            have hS := hO1.S hS
            rw [sm_g7]
            refine W.eq (g2 := F0 m 50 ls [.int (an i)]) rfl ?_
            refine lv_if_ne (tgt := 81) hx hb dX1_round_50 (by decide) (fun c_8 => ?_) (fun c_8 => ?_)
            · -- 50 -> 81
              obtain ⟨v_9, ev_9⟩ : ∃ y : Int32, y = (nI i) + 1 := ⟨_, rfl⟩
              refine lv_iinc (v := v_9) (lv' := [(1, .int v_9), (0, .ref (bd 0))]) hx hb dX1_round_81 hl (k := 0) rfl (by rw [ev_9]; rfl) (by decide) rfl (fun ls hl => ?_)
              refine lv_goto (tgt := 17) hx hb dX1_round_84 (by decide) ?_
              obtain rfl : v_9 = nI (i + 1) := by rw [ev_9, nI_1]
              have hfi : fl i = fl1 i := by have q9 := (hinv i hi9).2.1; simp at q9; exact q9.symm
              have hPi : sq_I (sq_P it o n g) (nI i) = sm_h (sq_P it o n g) (nI i) := by rw [sm_hP hM, sm_Vi hi9, Bool.true_and]
              have hR : sq_R it o n g fl an i = false := by simp [sq_R, hfi, hPi, c_1, (Int32.not_le.mp c_1), (sq_z_t c_4), c_6, (Int32.not_le.mp c_6), c_8]
              exact ih (i + 1) _ _ _ H locs ls (by omega) (by omega) (fun j hj => by
                obtain ⟨a1, a2, a3⟩ := hinv j hj
                try simp only [upd]
                by_cases hji : j = i
                · rw [hji] at a1 a2 a3 ⊢
                  simp only [Nat.lt_irrefl, false_and, if_false] at a1 a2 a3
                  simp [hR, a1, a2, a3]
                · have e9 : (j < i + 1) = (j < i) := propext ⟨fun h => by omega, fun h => by omega⟩
                  simp only [if_neg hji, e9]
                  exact ⟨a1, a2, a3⟩) hP hD hS (lv_sub hl [0, 1] rfl)
            · -- 50 -> 53
              refine lv_aload_n hx hb dX1_round_53 rfl (lv_at hl 1 rfl) ?_
              refine lv_iload_n hx hb dX1_round_54 rfl (lv_at hl 0 rfl) ?_
              refine lv_iconst (v := 0) hx hb dX1_round_55 (by decide) ?_
              refine lv_aload_n hx hb dX1_round_56 rfl (lv_at hl 1 rfl) ?_
              refine lv_iload_n hx hb dX1_round_57 rfl (lv_at hl 0 rfl) ?_
              refine lv_iconst (v := 1) hx hb dX1_round_58 (by decide) ?_
              refine kz_rV (As := [.int (nI i), .int 1]) (rest := [.int 0, .int (nI i), .ref (bd 0)]) ⟨hx, hb, hml, hown, hw9⟩ (c_X1_get l hl9 D cI ty bd rs H.size 0 it o n g v (r + 1) (sm_al nx1 mt fl1 pr1 ofs ak hd an) i 1 (nI i) 1 hi9 (by decide) rfl rfl) (kz_cV 2 hw9 mw_403 mw_405 ms_11 mw_2 mw_406 rfl rfl (by decide +kernel) ⟨Nat.le_of_ble_eq_true rfl, Nat.le_of_ble_eq_true rfl⟩) (kz_preV (q0 := 0) (ci := 1) hK hP hD hS hA hE rfl rfl) rfl hl.1 rfl (Nat.le_of_ble_eq_true rfl) dX1_round_59 ⟨Nat.le_of_ble_eq_true rfl, Nat.le_of_ble_eq_true rfl⟩ (fun _ _ _ _ h => False.elim h) (fun v9 H hv9 hO1 => ?_)
              obtain ⟨_, rfl, rfl⟩ := hv9
              have hP := hO1.P hP
              have hS := hO1.S hS
              rw [sm_g1]
              refine W.eq (g2 := F0 m 62 ls [.int (mt i), .int 0, .int (nI i), .ref (bd 0)]) rfl ?_
              refine lv_iconst (v := 1) hx hb dX1_round_62 (by decide) ?_
              refine lv_iadd hx hb dX1_round_63 ?_
              refine kz_wV (As := [.int (nI i), .int 0, .int ((mt i) + 1)]) (rest := []) ⟨hx, hb, hml, hown, hw9⟩ (c_X1_put l hl9 D cI ty bd rs H.size 0 it o n g v (r + 1) (sm_al nx1 mt fl1 pr1 ofs ak hd an) i 0 (nI i) 0 ((mt i) + 1) hi9 (by decide) rfl rfl) (kz_cV 3 hw9 mw_442 mw_444 ms_14 mw_2 mw_445 rfl rfl (by decide +kernel) ⟨Nat.le_of_ble_eq_true rfl, Nat.le_of_ble_eq_true rfl⟩) (kz_preV (q0 := 0) (ci := 1) hK hP hD hS hA hE rfl rfl) rfl hl.1 rfl (Nat.le_of_ble_eq_true rfl) dX1_round_64 ⟨Nat.le_of_ble_eq_true rfl, Nat.le_of_ble_eq_true rfl⟩ hD hS hA (fun _ _ _ _ _ _ h => False.elim h) (fun v9 H locs hv9 hP hD hS => ?_)
              obtain ⟨rfl, -⟩ := hv9
              rw [sm_p0] at hP hD
              have hP : va_P D vwCl (wM bd cI 0 it o n g v (r + 1) (sm_al (upd nx1 i ((mt i) + 1)) mt fl1 pr1 ofs ak hd an) ++ rs) H := hP
              have hD : va_D A (wM bd cI 0 it o n g v (r + 1) (sm_al (upd nx1 i ((mt i) + 1)) mt fl1 pr1 ofs ak hd an) ++ rs) := hD
              refine W.eq (g2 := F0 m 67 ls []) rfl ?_
              refine lv_aload_n hx hb dX1_round_67 rfl (lv_at hl 1 rfl) ?_
              refine lv_iload_n hx hb dX1_round_68 rfl (lv_at hl 0 rfl) ?_
              refine lv_iconst (v := 2) hx hb dX1_round_69 (by decide) ?_
              refine lv_iconst (v := 0) hx hb dX1_round_70 (by decide) ?_
              refine kz_wV (As := [.int (nI i), .int 2, .int 0]) (rest := []) ⟨hx, hb, hml, hown, hw9⟩ (c_X1_put l hl9 D cI ty bd rs H.size 0 it o n g v (r + 1) (sm_al (upd nx1 i ((mt i) + 1)) mt fl1 pr1 ofs ak hd an) i 2 (nI i) 2 0 hi9 (by decide) rfl rfl) (kz_cV 3 hw9 mw_442 mw_444 ms_14 mw_2 mw_445 rfl rfl (by decide +kernel) ⟨Nat.le_of_ble_eq_true rfl, Nat.le_of_ble_eq_true rfl⟩) (kz_preV (q0 := 0) (ci := 1) hK hP hD hS hA hE rfl rfl) rfl hl.1 rfl (Nat.le_of_ble_eq_true rfl) dX1_round_71 ⟨Nat.le_of_ble_eq_true rfl, Nat.le_of_ble_eq_true rfl⟩ hD hS hA (fun _ _ _ _ _ _ h => False.elim h) (fun v9 H locs hv9 hP hD hS => ?_)
              obtain ⟨rfl, -⟩ := hv9
              rw [sm_p2] at hP hD
              have hP : va_P D vwCl (wM bd cI 0 it o n g v (r + 1) (sm_al (upd nx1 i ((mt i) + 1)) mt (upd fl1 i 0) pr1 ofs ak hd an) ++ rs) H := hP
              have hD : va_D A (wM bd cI 0 it o n g v (r + 1) (sm_al (upd nx1 i ((mt i) + 1)) mt (upd fl1 i 0) pr1 ofs ak hd an) ++ rs) := hD
              refine W.eq (g2 := F0 m 74 ls []) rfl ?_
              refine lv_aload_n hx hb dX1_round_74 rfl (lv_at hl 1 rfl) ?_
              refine lv_iload_n hx hb dX1_round_75 rfl (lv_at hl 0 rfl) ?_
              refine lv_iconst (v := 3) hx hb dX1_round_76 (by decide) ?_
              refine lv_iconst (v := 1) hx hb dX1_round_77 (by decide) ?_
              refine kz_wV (As := [.int (nI i), .int 3, .int 1]) (rest := []) ⟨hx, hb, hml, hown, hw9⟩ (c_X1_put l hl9 D cI ty bd rs H.size 0 it o n g v (r + 1) (sm_al (upd nx1 i ((mt i) + 1)) mt (upd fl1 i 0) pr1 ofs ak hd an) i 3 (nI i) 3 1 hi9 (by decide) rfl rfl) (kz_cV 3 hw9 mw_442 mw_444 ms_14 mw_2 mw_445 rfl rfl (by decide +kernel) ⟨Nat.le_of_ble_eq_true rfl, Nat.le_of_ble_eq_true rfl⟩) (kz_preV (q0 := 0) (ci := 1) hK hP hD hS hA hE rfl rfl) rfl hl.1 rfl (Nat.le_of_ble_eq_true rfl) dX1_round_78 ⟨Nat.le_of_ble_eq_true rfl, Nat.le_of_ble_eq_true rfl⟩ hD hS hA (fun _ _ _ _ _ _ h => False.elim h) (fun v9 H locs hv9 hP hD hS => ?_)
              obtain ⟨rfl, -⟩ := hv9
              rw [sm_p3] at hP hD
              have hP : va_P D vwCl (wM bd cI 0 it o n g v (r + 1) (sm_al (upd nx1 i ((mt i) + 1)) mt (upd fl1 i 0) (upd pr1 i 1) ofs ak hd an) ++ rs) H := hP
              have hD : va_D A (wM bd cI 0 it o n g v (r + 1) (sm_al (upd nx1 i ((mt i) + 1)) mt (upd fl1 i 0) (upd pr1 i 1) ofs ak hd an) ++ rs) := hD
              refine W.eq (g2 := F0 m 81 ls []) rfl ?_
              obtain ⟨v_10, ev_10⟩ : ∃ y : Int32, y = (nI i) + 1 := ⟨_, rfl⟩
              refine lv_iinc (v := v_10) (lv' := [(1, .int v_10), (0, .ref (bd 0))]) hx hb dX1_round_81 hl (k := 0) rfl (by rw [ev_10]; rfl) (by decide) rfl (fun ls hl => ?_)
              refine lv_goto (tgt := 17) hx hb dX1_round_84 (by decide) ?_
              obtain rfl : v_10 = nI (i + 1) := by rw [ev_10, nI_1]
              have hfi : fl i = fl1 i := by have q9 := (hinv i hi9).2.1; simp at q9; exact q9.symm
              have hPi : sq_I (sq_P it o n g) (nI i) = sm_h (sq_P it o n g) (nI i) := by rw [sm_hP hM, sm_Vi hi9, Bool.true_and]
              have hR : sq_R it o n g fl an i = true := by simp [sq_R, hfi, hPi, c_1, (Int32.not_le.mp c_1), (sq_z_t c_4), c_6, (Int32.not_le.mp c_6), c_8]
              exact ih (i + 1) _ _ _ H locs ls (by omega) (by omega) (fun j hj => by
                obtain ⟨a1, a2, a3⟩ := hinv j hj
                try simp only [upd]
                by_cases hji : j = i
                · rw [hji] at a1 a2 a3 ⊢
                  simp only [Nat.lt_irrefl, false_and, if_false] at a1 a2 a3
                  simp [hR, a1, a2, a3]
                · have e9 : (j < i + 1) = (j < i) := propext ⟨fun h => by omega, fun h => by omega⟩
                  simp only [if_neg hji, e9]
                  exact ⟨a1, a2, a3⟩) hP hD hS (lv_sub hl [0, 1] rfl)
  exact loop 8 0 nx fl pr _ _ ls (by decide) (by decide) (fun j hj => by simp) hP hD hS (lv_sub hl [0, 1] rfl)
set_option maxHeartbeats 4000000 in
set_option maxRecDepth 100000 in
theorem c_X1_change (l : Launch) (hl9 : l.stackTraces = false) (D : va_G) (cI : ClassId) (ty : kz_Y) (bd : Nat → Nat) (rs : va_W) (sz : Nat) (th it o n g v r : Int32) (nx mt fl pr ofs ak hd an : Nat → Int32) (p0 : Int32) (p1 : Int32) (hM : sv_m it o n g v) : ez_M l yX1_change wsX1_change ({ frames := 1, cells := 1, slots := 6, locals := 22 } : Room) (kz_P D ((cI, .int) :: ty) (wM bd cI th it o n g v r (sm_al nx mt fl pr ofs ak hd an) ++ rs) sz [.ref (bd 0), .int p0, .int p1]) (kz_Wr D (va_A (wM bd cI th it o n g v r (sm_al nx mt fl pr ofs ak hd an) ++ rs) sz) (kz_v (True)) (wM bd cI (nI (tc_change o n g mt p0 p1)) it o (if tc_change o n g mt p0 p1 = 0 then p0 else n) (if tc_change o n g mt p0 p1 = 0 then g &&& (p0 ^^^ (-1)) else g) v r (sm_al nx mt fl pr ofs ak hd an) ++ rs)) (kz_T (fun _ => IAE) (fun _ => False)) 0 0 (va_A (wM bd cI th it o n g v r (sm_al nx mt fl pr ofs ak hd an) ++ rs) sz) := by
  refine ez_ofW (cc := cX1_change) (maxL := 5) (ret := none) (by decide) rfl ?_
  intro p e s m args below meth c s₁ B hml hTab hv
  obtain ⟨rfl, hsz, hP, hK, hD0, hE⟩ := hv
  have hx := B.exec
  have hb := B.bytes
  have hr := B.returns
  have hw9 : ∀ w ∈ kz_W9, w.before ([.ref (bd 0), .int p0, .int p1] : List Value).toArray s = true := fun w h => atoms_spec (ws := wsX1_change) B.pre w (List.mem_cons_of_mem _ h)
  have hown : s.vm.findClass RX1 = some m.cls := findClass_of_methodNamed B.named
  have hlocks := B.notSynchronized
  subst hsz
  have hD := hD0.self (sz := s.heap.size)
  generalize hAe : va_A (wM bd cI th it o n g v r (sm_al nx mt fl pr ofs ak hd an) ++ rs) s.heap.size = A at hD hE ⊢
  have hA : ∀ q : Nat, s.heap.size ≤ q → A q := fun q h => by rw [← hAe]; exact Or.inr h
  have hS : va_S A s.heap s.heap [] := va_S.rf
  have hO : kz_O s.heap s.heap := kz_O.rf _
  have hl := lv_entry ([.ref (bd 0), .int p0, .int p1]) (n := 5) (Nat.le_of_ble_eq_true rfl)
  rw [lg_entry_eq]
  generalize (lg_sl ([.ref (bd 0), .int p0, .int p1]) ++ List.replicate (5 - (lg_sl ([.ref (bd 0), .int p0, .int p1])).length) Slot.unset).toArray = ls at hl ⊢
  have hl : lv_has ls 5 [(0, .ref (bd 0)), (1, .int p0), (2, .int p1)] := hl
  obtain ⟨hIt, hOo, hNn, hGg, hVv⟩ := id hM
  obtain ⟨xo, ho8, eo⟩ := sm_S hOo
  obtain ⟨xn, hn8, en⟩ := sm_S hNn
  obtain ⟨xg, hg8, eg⟩ := sm_S hGg
  obtain ⟨xv, hv8, ev⟩ := sm_S hVv
  obtain ⟨hIa, hIe⟩ := sm_srv hIt
  refine lv_aload_n hx hb dX1_change_0 rfl (lv_at hl 0 rfl) ?_
  refine lv_iconst (v := 0) hx hb dX1_change_1 (by decide) ?_
  refine va_put (D := D) (ci := 1) (v := .int 0) (ty := .int) (C := RX1) (T := TX1) (N := 8) hx hb hw9 uX1 tyX1 tyX1_ok nmX1 hown hK hP hD hS 0 rfl rfl 0 (by decide) (hw9 _ mw_360) (fun _ h9 => h9) rfl (by decide +kernel) rfl rfl (Nat.le_of_ble_eq_true rfl) dX1_change_2 (fun H locs hP hD hS => ?_)
  have hP : va_P D vwCl (wM bd cI 0 it o n g v r (sm_al nx mt fl pr ofs ak hd an) ++ rs) H := hP
  have hD : va_D A (wM bd cI 0 it o n g v r (sm_al nx mt fl pr ofs ak hd an) ++ rs) := hD
  refine lv_iload_n hx hb dX1_change_5 rfl (lv_at hl 1 rfl) ?_
  refine kz_rS (As := [.int p0]) (rest := []) ⟨hx, hb, hml, hown, hw9⟩ (c_X1_isSet l hl9 D ((cI, .int) :: ty) (wM bd cI 0 it o n g v r (sm_al nx mt fl pr ofs ak hd an) ++ rs) H.size p0) (kz_cS 1 hw9 mw_393 mw_394 mw_2 mw_395 rfl rfl (by decide +kernel) ⟨Nat.le_of_ble_eq_true rfl, Nat.le_of_ble_eq_true rfl⟩) (kz_preS hK hP hD hS hA hE) rfl hl.1 rfl (Nat.le_of_ble_eq_true rfl) dX1_change_6 ⟨Nat.le_of_ble_eq_true rfl, Nat.le_of_ble_eq_true rfl⟩ (fun _ _ _ _ h => False.elim h) (fun v9 H hv9 hO1 => ?_)
  obtain ⟨_, rfl, rfl⟩ := hv9
  have hP := hO1.P hP
  have hS := hO1.S hS
  refine W.eq (g2 := F0 m 9 ls [.int (sq_z (sq_S p0))]) rfl ?_
  refine lv_if_eq (tgt := 20) hx hb dX1_change_9 (by decide) (fun c_1 => ?_) (fun c_1 => ?_)
  · -- 9 -> 20
    refine lv_iconst (v := 0) hx hb dX1_change_20 (by decide) ?_
    refine lv_istore_n (lv' := [(3, .int 0), (0, .ref (bd 0)), (1, .int p0), (2, .int p1)]) hx hb dX1_change_21 rfl hl (by decide) rfl (fun ls hl => ?_)
    refine lv_iconst (v := 0) hx hb dX1_change_22 (by decide) ?_
    refine lv_istore (lv' := [(4, .int 0), (3, .int 0), (0, .ref (bd 0)), (1, .int p0), (2, .int p1)]) hx hb dX1_change_23 hl (by decide) rfl (fun ls hl => ?_)
    have loop : ∀ (k i : Nat) (H : Heap) (locs : List Loc) (ls : Array Slot), i ≤ 7 → 7 < i + k → va_P D vwCl (wM bd cI 0 it o n g v r (sm_al nx mt fl pr ofs ak hd an) ++ rs) H → va_D A (wM bd cI 0 it o n g v r (sm_al nx mt fl pr ofs ak hd an) ++ rs) → va_S A s.heap H locs → lv_has ls 5 [(4, .int (nI i)), (3, .int (sq_z (sm_gd p0 o g mt p1 i))), (0, .ref (bd 0)), (1, .int p0), (2, .int p1)] → W p l e (headSpec wsX1_change ({ frames := 1, cells := 1, slots := 6, locals := 22 } : Room)).room s m ([.ref (bd 0), .int p0, .int p1] : List Value).toArray below meth c H locs 0 0 (ez_MQ below (kz_Wr D A (kz_v (True)) (wM bd cI (nI (tc_change o n g mt p0 p1)) it o (if tc_change o n g mt p0 p1 = 0 then p0 else n) (if tc_change o n g mt p0 p1 = 0 then g &&& (p0 ^^^ (-1)) else g) v r (sm_al nx mt fl pr ofs ak hd an) ++ rs)) (kz_T (fun _ => IAE) (fun _ => False)) s 0 0 A) (F0 m 25 ls []) := by
      intro k
      induction k with
      | zero => intro i H locs ls h1 h2; omega
      | succ k ih =>
        intro i H locs ls h1 h2 hP hD hS hl
        refine lv_iload hx hb dX1_change_25 (lv_at hl 0 rfl) ?_
        refine lv_bipush (v := 7) hx hb dX1_change_27 (by decide) ?_
        refine lv_icmp_ge (tgt := 92) hx hb dX1_change_29 (by decide) (fun c_2 => ?_) (fun c_2 => ?_)
        · -- 29 -> 92
          have hi7 : i = 7 := kz_i7 h1 c_2
          subst hi7
          refine lv_iload_n hx hb dX1_change_92 rfl (lv_at hl 1 rfl) ?_
          refine lv_if_eq (tgt := 103) hx hb dX1_change_93 (by decide) (fun c_3 => ?_) (fun c_3 => ?_)
          · -- 93 -> 103
            refine lv_aload_n hx hb dX1_change_103 rfl (lv_at hl 2 rfl) ?_
            refine lv_iload_n hx hb dX1_change_104 rfl (lv_at hl 1 rfl) ?_
            refine lv_if_eq (tgt := 112) hx hb dX1_change_105 (by decide) (fun c_4 => ?_) (fun c_4 => ?_)
            · -- 105 -> 112
              refine lv_iconst (v := 1) hx hb dX1_change_112 (by decide) ?_
              refine va_put (D := D) (ci := 1) (v := .int 1) (ty := .int) (C := RX1) (T := TX1) (N := 8) hx hb hw9 uX1 tyX1 tyX1_ok nmX1 hown hK hP hD hS 0 rfl rfl 0 (by decide) (hw9 _ mw_360) (fun _ h9 => h9) rfl (by decide +kernel) rfl rfl (Nat.le_of_ble_eq_true rfl) dX1_change_113 (fun H locs hP hD hS => ?_)
              have hP : va_P D vwCl (wM bd cI 1 it o n g v r (sm_al nx mt fl pr ofs ak hd an) ++ rs) H := hP
              have hD : va_D A (wM bd cI 1 it o n g v r (sm_al nx mt fl pr ofs ak hd an) ++ rs) := hD
              have htc : tc_change o n g mt p0 p1 = 1 := sm_tch1 hM (sq_z_f c_4)
              exact kz_wretv hx hb hr hlocks (by rw [htc]; exact hP) (by rw [htc]; exact hD) hS (Nat.le_of_ble_eq_true rfl) (Nat.le_of_ble_eq_true rfl) (trivial)  dX1_change_116
            · -- 105 -> 108
              exact absurd c_3 c_4
          · -- 93 -> 96
            refine lv_aload_n hx hb dX1_change_96 rfl (lv_at hl 2 rfl) ?_
            refine va_get (D := D) (ci := 1) (v := .int n) (C := RX1) (T := TX1) (N := 8) hx hb hw9 uX1 hown hK hP 0 rfl rfl 3 (by decide) (hw9 _ mw_363) (fun _ h9 => h9) rfl dX1_change_97 ?_
            refine lv_if_eq (tgt := 117) hx hb dX1_change_100 (by decide) (fun c_5 => ?_) (fun c_5 => ?_)
            · -- 100 -> 117
              refine lv_aload_n hx hb dX1_change_117 rfl (lv_at hl 2 rfl) ?_
              refine lv_iload_n hx hb dX1_change_118 rfl (lv_at hl 3 rfl) ?_
              refine va_put (D := D) (ci := 1) (v := .int p0) (ty := .int) (C := RX1) (T := TX1) (N := 8) hx hb hw9 uX1 tyX1 tyX1_ok nmX1 hown hK hP hD hS 0 rfl rfl 3 (by decide) (hw9 _ mw_363) (fun _ h9 => h9) rfl (by decide +kernel) rfl rfl (Nat.le_of_ble_eq_true rfl) dX1_change_119 (fun H locs hP hD hS => ?_)
              have hP : va_P D vwCl (wM bd cI 0 it o p0 g v r (sm_al nx mt fl pr ofs ak hd an) ++ rs) H := hP
              have hD : va_D A (wM bd cI 0 it o p0 g v r (sm_al nx mt fl pr ofs ak hd an) ++ rs) := hD
              refine lv_iconst (v := 0) hx hb dX1_change_122 (by decide) ?_
              refine lv_istore (lv' := [(4, .int 0), (3, .int (sq_z (sm_gd p0 o g mt p1 7))), (0, .ref (bd 0)), (1, .int p0), (2, .int p1)]) hx hb dX1_change_123 hl (by decide) rfl (fun ls hl => ?_)
              have hgd : sm_gd p0 o g mt p1 7 = true := sq_z_t c_3
              have hn0 : n = 0 := c_5
              obtain ⟨xt, ht8, et⟩ := sm_S (sm_gdS hgd)
              have loop2 : ∀ (k i : Nat) (H : Heap) (locs : List Loc) (ls : Array Slot), i ≤ 7 → 7 < i + k → va_P D vwCl (wM bd cI 0 it o p0 (nI (sm_kk xg xt i)) v r (sm_al nx mt fl pr ofs ak hd an) ++ rs) H → va_D A (wM bd cI 0 it o p0 (nI (sm_kk xg xt i)) v r (sm_al nx mt fl pr ofs ak hd an) ++ rs) → va_S A s.heap H locs → lv_has ls 5 [(4, .int (nI i)), (0, .ref (bd 0)), (1, .int p0)] → W p l e (headSpec wsX1_change ({ frames := 1, cells := 1, slots := 6, locals := 22 } : Room)).room s m ([.ref (bd 0), .int p0, .int p1] : List Value).toArray below meth c H locs 0 0 (ez_MQ below (kz_Wr D A (kz_v (True)) (wM bd cI (nI (tc_change o n g mt p0 p1)) it o (if tc_change o n g mt p0 p1 = 0 then p0 else n) (if tc_change o n g mt p0 p1 = 0 then g &&& (p0 ^^^ (-1)) else g) v r (sm_al nx mt fl pr ofs ak hd an) ++ rs)) (kz_T (fun _ => IAE) (fun _ => False)) s 0 0 A) (F0 m 125 ls []) := by
                intro k
                induction k with
                | zero => intro i H locs ls h1 h2; omega
                | succ k ih =>
                  intro i H locs ls h1 h2 hP hD hS hl
                  refine lv_iload hx hb dX1_change_125 (lv_at hl 0 rfl) ?_
                  refine lv_bipush (v := 7) hx hb dX1_change_127 (by decide) ?_
                  refine lv_icmp_ge (tgt := 172) hx hb dX1_change_129 (by decide) (fun c_6 => ?_) (fun c_6 => ?_)
                  · -- 129 -> 172
                    have hi7 : i = 7 := kz_i7 h1 c_6
                    subst hi7
                    rw [sm_kkx xg hg8 xt ht8, ← eg, ← et] at hP hD
                    have htc9 : tc_change o n g mt p0 p1 = 0 := sm_tch0 hM hgd hn0
                    have htc : tc_change o n g mt p0 p1 = 0 := htc9
                    exact kz_wretv hx hb hr hlocks (by rw [htc]; exact hP) (by rw [htc]; exact hD) hS (Nat.le_of_ble_eq_true rfl) (Nat.le_of_ble_eq_true rfl) (trivial)  dX1_change_172
                  · -- 129 -> 132
                    have hi9 : i < 7 := kz_l7 h1 c_6
                    have hc9 : (nI i).toNatClampNeg = i := nI_clamp (by omega)
                    refine lv_aload_n hx hb dX1_change_132 rfl (lv_at hl 1 rfl) ?_
                    refine va_get (D := D) (ci := 1) (v := .int (nI (sm_kk xg xt i))) (C := RX1) (T := TX1) (N := 8) hx hb hw9 uX1 hown hK hP 0 rfl rfl 4 (by decide) (hw9 _ mw_364) (fun _ h9 => h9) rfl dX1_change_133 ?_
                    refine lv_iload hx hb dX1_change_136 (lv_at hl 0 rfl) ?_
                    refine kz_rS (As := [.int (nI (sm_kk xg xt i)), .int (nI i)]) (rest := []) ⟨hx, hb, hml, hown, hw9⟩ (c_X1_has l hl9 D ((cI, .int) :: ty) (wM bd cI 0 it o p0 (nI (sm_kk xg xt i)) v r (sm_al nx mt fl pr ofs ak hd an) ++ rs) H.size (nI (sm_kk xg xt i)) (nI i)) (kz_cS 2 hw9 mw_400 mw_401 mw_2 mw_402 rfl rfl (by decide +kernel) ⟨Nat.le_of_ble_eq_true rfl, Nat.le_of_ble_eq_true rfl⟩) (kz_preS hK hP hD hS hA hE) rfl hl.1 rfl (Nat.le_of_ble_eq_true rfl) dX1_change_138 ⟨Nat.le_of_ble_eq_true rfl, Nat.le_of_ble_eq_true rfl⟩ (fun _ _ _ _ h => False.elim h) (fun v9 H hv9 hO1 => ?_)
                    obtain ⟨_, rfl, rfl⟩ := hv9
                    have hP := hO1.P hP
                    have hS := hO1.S hS
                    refine W.eq (g2 := F0 m 141 ls [.int (sq_z (sm_h (nI (sm_kk xg xt i)) (nI i)))]) rfl ?_
                    refine lv_if_eq (tgt := 166) hx hb dX1_change_141 (by decide) (fun c_7 => ?_) (fun c_7 => ?_)
                    · -- 141 -> 166
                      obtain ⟨v_8, ev_8⟩ : ∃ y : Int32, y = (nI i) + 1 := ⟨_, rfl⟩
                      refine lv_iinc (v := v_8) (lv' := [(4, .int v_8), (0, .ref (bd 0)), (1, .int p0)]) hx hb dX1_change_166 hl (k := 0) rfl (by rw [ev_8]; rfl) (by decide) rfl (fun ls hl => ?_)
                      refine lv_goto (tgt := 125) hx hb dX1_change_169 (by decide) ?_
                      obtain rfl : v_8 = nI (i + 1) := by rw [ev_8, nI_1]
                      have tg : sm_h (nI (sm_kk xg xt i)) (nI i) = (sm_kk xg xt i).testBit i := sm_has _ (sm_kkl hg8 i) i hi9
                      have tt : sm_h p0 (nI i) = xt.testBit i := by rw [et]; exact sm_has xt ht8 i hi9
                      have e9 : nI (sm_kk xg xt (i + 1)) = nI (sm_kk xg xt i) := sm_kkn hg8 hi9 (by simp [← tg, ← tt, c_6, (Int32.not_le.mp c_6), (sq_z_f c_7)])
                      exact ih (i + 1) H locs ls (by omega) (by omega) (by rw [e9]; exact hP) (by rw [e9]; exact hD) hS (lv_sub hl [0, 1, 2] rfl)
                    · -- 141 -> 144
                      refine lv_iload_n hx hb dX1_change_144 rfl (lv_at hl 2 rfl) ?_
                      refine lv_iload hx hb dX1_change_145 (lv_at hl 0 rfl) ?_
                      refine kz_rS (As := [.int p0, .int (nI i)]) (rest := []) ⟨hx, hb, hml, hown, hw9⟩ (c_X1_has l hl9 D ((cI, .int) :: ty) (wM bd cI 0 it o p0 (nI (sm_kk xg xt i)) v r (sm_al nx mt fl pr ofs ak hd an) ++ rs) H.size p0 (nI i)) (kz_cS 2 hw9 mw_400 mw_401 mw_2 mw_402 rfl rfl (by decide +kernel) ⟨Nat.le_of_ble_eq_true rfl, Nat.le_of_ble_eq_true rfl⟩) (kz_preS hK hP hD hS hA hE) rfl hl.1 rfl (Nat.le_of_ble_eq_true rfl) dX1_change_147 ⟨Nat.le_of_ble_eq_true rfl, Nat.le_of_ble_eq_true rfl⟩ (fun _ _ _ _ h => False.elim h) (fun v9 H hv9 hO1 => ?_)
                      obtain ⟨_, rfl, rfl⟩ := hv9
                      have hP := hO1.P hP
                      have hS := hO1.S hS
                      refine W.eq (g2 := F0 m 150 ls [.int (sq_z (sm_h p0 (nI i)))]) rfl ?_
                      refine lv_if_eq (tgt := 166) hx hb dX1_change_150 (by decide) (fun c_9 => ?_) (fun c_9 => ?_)
                      · -- 150 -> 166
                        obtain ⟨v_10, ev_10⟩ : ∃ y : Int32, y = (nI i) + 1 := ⟨_, rfl⟩
                        refine lv_iinc (v := v_10) (lv' := [(4, .int v_10), (0, .ref (bd 0)), (1, .int p0)]) hx hb dX1_change_166 hl (k := 0) rfl (by rw [ev_10]; rfl) (by decide) rfl (fun ls hl => ?_)
                        refine lv_goto (tgt := 125) hx hb dX1_change_169 (by decide) ?_
                        obtain rfl : v_10 = nI (i + 1) := by rw [ev_10, nI_1]
                        have tg : sm_h (nI (sm_kk xg xt i)) (nI i) = (sm_kk xg xt i).testBit i := sm_has _ (sm_kkl hg8 i) i hi9
                        have tt : sm_h p0 (nI i) = xt.testBit i := by rw [et]; exact sm_has xt ht8 i hi9
                        have e9 : nI (sm_kk xg xt (i + 1)) = nI (sm_kk xg xt i) := sm_kkn hg8 hi9 (by simp [← tg, ← tt, c_6, (Int32.not_le.mp c_6), (sq_z_t c_7), (sq_z_f c_9)])
                        exact ih (i + 1) H locs ls (by omega) (by omega) (by rw [e9]; exact hP) (by rw [e9]; exact hD) hS (lv_sub hl [0, 1, 2] rfl)
                      · -- 150 -> 153
                        refine lv_aload_n hx hb dX1_change_153 rfl (lv_at hl 1 rfl) ?_
                        refine lv_dup hx hb dX1_change_154 rfl ?_
                        refine va_get (D := D) (ci := 1) (v := .int (nI (sm_kk xg xt i))) (C := RX1) (T := TX1) (N := 8) hx hb hw9 uX1 hown hK hP 0 rfl rfl 4 (by decide) (hw9 _ mw_364) (fun _ h9 => h9) rfl dX1_change_155 ?_
                        refine lv_iconst (v := 1) hx hb dX1_change_158 (by decide) ?_
                        refine lv_iload hx hb dX1_change_159 (lv_at hl 0 rfl) ?_
                        refine lv_ishl hx hb dX1_change_161 ?_
                        refine lv_isub hx hb dX1_change_162 ?_
                        refine va_put (D := D) (ci := 1) (v := .int (nI (sm_kk xg xt i) - (1 <<< ((nI i) &&& 31)))) (ty := .int) (C := RX1) (T := TX1) (N := 8) hx hb hw9 uX1 tyX1 tyX1_ok nmX1 hown hK hP hD hS 0 rfl rfl 4 (by decide) (hw9 _ mw_364) (fun _ h9 => h9) rfl (by decide +kernel) rfl rfl (Nat.le_of_ble_eq_true rfl) dX1_change_163 (fun H locs hP hD hS => ?_)
                        have hP : va_P D vwCl (wM bd cI 0 it o p0 (nI (sm_kk xg xt i) - (1 <<< ((nI i) &&& 31))) v r (sm_al nx mt fl pr ofs ak hd an) ++ rs) H := hP
                        have hD : va_D A (wM bd cI 0 it o p0 (nI (sm_kk xg xt i) - (1 <<< ((nI i) &&& 31))) v r (sm_al nx mt fl pr ofs ak hd an) ++ rs) := hD
                        obtain ⟨v_11, ev_11⟩ : ∃ y : Int32, y = (nI i) + 1 := ⟨_, rfl⟩
                        refine lv_iinc (v := v_11) (lv' := [(4, .int v_11), (0, .ref (bd 0)), (1, .int p0)]) hx hb dX1_change_166 hl (k := 0) rfl (by rw [ev_11]; rfl) (by decide) rfl (fun ls hl => ?_)
                        refine lv_goto (tgt := 125) hx hb dX1_change_169 (by decide) ?_
                        obtain rfl : v_11 = nI (i + 1) := by rw [ev_11, nI_1]
                        have tg : sm_h (nI (sm_kk xg xt i)) (nI i) = (sm_kk xg xt i).testBit i := sm_has _ (sm_kkl hg8 i) i hi9
                        have tt : sm_h p0 (nI i) = xt.testBit i := by rw [et]; exact sm_has xt ht8 i hi9
                        have e9 : nI (sm_kk xg xt (i + 1)) = (nI (sm_kk xg xt i) - (1 <<< ((nI i) &&& 31))) := sm_kky hg8 hi9 (by simp [← tg, ← tt, c_6, (Int32.not_le.mp c_6), (sq_z_t c_7), (sq_z_t c_9)])
                        exact ih (i + 1) H locs ls (by omega) (by omega) (by rw [e9]; exact hP) (by rw [e9]; exact hD) hS (lv_sub hl [0, 1, 2] rfl)
              exact loop2 8 0 _ _ ls (by decide) (by decide) (by rw [show sm_kk xg xt 0 = xg from rfl, ← eg]; exact hP) (by rw [show sm_kk xg xt 0 = xg from rfl, ← eg]; exact hD) hS (lv_sub hl [0, 2, 3] rfl)
            · -- 100 -> 103
              refine lv_aload_n hx hb dX1_change_103 rfl (lv_at hl 2 rfl) ?_
              refine lv_iload_n hx hb dX1_change_104 rfl (lv_at hl 1 rfl) ?_
              refine lv_if_eq (tgt := 112) hx hb dX1_change_105 (by decide) (fun c_12 => ?_) (fun c_12 => ?_)
              · -- 105 -> 112
                exact absurd c_12 c_3
              · -- 105 -> 108
                refine lv_iconst (v := 2) hx hb dX1_change_108 (by decide) ?_
                refine lv_goto (tgt := 113) hx hb dX1_change_109 (by decide) ?_
                refine va_put (D := D) (ci := 1) (v := .int 2) (ty := .int) (C := RX1) (T := TX1) (N := 8) hx hb hw9 uX1 tyX1 tyX1_ok nmX1 hown hK hP hD hS 0 rfl rfl 0 (by decide) (hw9 _ mw_360) (fun _ h9 => h9) rfl (by decide +kernel) rfl rfl (Nat.le_of_ble_eq_true rfl) dX1_change_113 (fun H locs hP hD hS => ?_)
                have hP : va_P D vwCl (wM bd cI 2 it o n g v r (sm_al nx mt fl pr ofs ak hd an) ++ rs) H := hP
                have hD : va_D A (wM bd cI 2 it o n g v r (sm_al nx mt fl pr ofs ak hd an) ++ rs) := hD
                have htc : tc_change o n g mt p0 p1 = 2 := sm_tch2 hM (sq_z_t c_12) c_5
                exact kz_wretv hx hb hr hlocks (by rw [htc]; exact hP) (by rw [htc]; exact hD) hS (Nat.le_of_ble_eq_true rfl) (Nat.le_of_ble_eq_true rfl) (trivial)  dX1_change_116
        · -- 29 -> 32
          have hi9 : i < 7 := kz_l7 h1 c_2
          have hc9 : (nI i).toNatClampNeg = i := nI_clamp (by omega)
          refine lv_iload_n hx hb dX1_change_32 rfl (lv_at hl 1 rfl) ?_
          refine lv_if_eq (tgt := 84) hx hb dX1_change_33 (by decide) (fun c_13 => ?_) (fun c_13 => ?_)
          · -- 33 -> 84
            refine lv_iconst (v := 0) hx hb dX1_change_84 (by decide) ?_
            refine lv_istore_n (lv' := [(3, .int 0), (4, .int (nI i)), (0, .ref (bd 0)), (1, .int p0), (2, .int p1)]) hx hb dX1_change_85 rfl hl (by decide) rfl (fun ls hl => ?_)
            obtain ⟨v_14, ev_14⟩ : ∃ y : Int32, y = (nI i) + 1 := ⟨_, rfl⟩
            refine lv_iinc (v := v_14) (lv' := [(4, .int v_14), (3, .int 0), (0, .ref (bd 0)), (1, .int p0), (2, .int p1)]) hx hb dX1_change_86 hl (k := 1) rfl (by rw [ev_14]; rfl) (by decide) rfl (fun ls hl => ?_)
            refine lv_goto (tgt := 25) hx hb dX1_change_89 (by decide) ?_
            obtain rfl : v_14 = nI (i + 1) := by rw [ev_14, nI_1]
            have e9 : sq_z (sm_gd p0 o g mt p1 (i + 1)) = 0 := by simp [sm_gd, sm_cd, sq_z, c_2, (Int32.not_le.mp c_2), (sq_z_f c_13)]
            exact ih (i + 1) H locs ls (by omega) (by omega) hP hD hS (by rw [e9]; exact lv_sub hl [0, 1, 2, 3, 4] rfl)
          · -- 33 -> 36
            refine lv_iload_n hx hb dX1_change_36 rfl (lv_at hl 3 rfl) ?_
            refine lv_iload hx hb dX1_change_37 (lv_at hl 0 rfl) ?_
            refine kz_rS (As := [.int p0, .int (nI i)]) (rest := []) ⟨hx, hb, hml, hown, hw9⟩ (c_X1_has l hl9 D ((cI, .int) :: ty) (wM bd cI 0 it o n g v r (sm_al nx mt fl pr ofs ak hd an) ++ rs) H.size p0 (nI i)) (kz_cS 2 hw9 mw_400 mw_401 mw_2 mw_402 rfl rfl (by decide +kernel) ⟨Nat.le_of_ble_eq_true rfl, Nat.le_of_ble_eq_true rfl⟩) (kz_preS hK hP hD hS hA hE) rfl hl.1 rfl (Nat.le_of_ble_eq_true rfl) dX1_change_39 ⟨Nat.le_of_ble_eq_true rfl, Nat.le_of_ble_eq_true rfl⟩ (fun _ _ _ _ h => False.elim h) (fun v9 H hv9 hO1 => ?_)
            obtain ⟨_, rfl, rfl⟩ := hv9
            have hP := hO1.P hP
            have hS := hO1.S hS
            refine W.eq (g2 := F0 m 42 ls [.int (sq_z (sm_h p0 (nI i)))]) rfl ?_
            refine lv_if_eq (tgt := 80) hx hb dX1_change_42 (by decide) (fun c_15 => ?_) (fun c_15 => ?_)
            · -- 42 -> 80
              refine lv_iconst (v := 1) hx hb dX1_change_80 (by decide) ?_
              refine lv_goto (tgt := 85) hx hb dX1_change_81 (by decide) ?_
              refine lv_istore_n (lv' := [(3, .int 1), (4, .int (nI i)), (0, .ref (bd 0)), (1, .int p0), (2, .int p1)]) hx hb dX1_change_85 rfl hl (by decide) rfl (fun ls hl => ?_)
              obtain ⟨v_16, ev_16⟩ : ∃ y : Int32, y = (nI i) + 1 := ⟨_, rfl⟩
              refine lv_iinc (v := v_16) (lv' := [(4, .int v_16), (3, .int 1), (0, .ref (bd 0)), (1, .int p0), (2, .int p1)]) hx hb dX1_change_86 hl (k := 1) rfl (by rw [ev_16]; rfl) (by decide) rfl (fun ls hl => ?_)
              refine lv_goto (tgt := 25) hx hb dX1_change_89 (by decide) ?_
              obtain rfl : v_16 = nI (i + 1) := by rw [ev_16, nI_1]
              have e9 : sq_z (sm_gd p0 o g mt p1 (i + 1)) = 1 := by simp [sm_gd, sm_cd, sq_z, c_2, (Int32.not_le.mp c_2), (sq_z_t c_13), (sq_z_f c_15)]
              exact ih (i + 1) H locs ls (by omega) (by omega) hP hD hS (by rw [e9]; exact lv_sub hl [0, 1, 2, 3, 4] rfl)
            · -- 42 -> 45
              refine lv_aload_n hx hb dX1_change_45 rfl (lv_at hl 2 rfl) ?_
              refine va_get (D := D) (ci := 1) (v := .int o) (C := RX1) (T := TX1) (N := 8) hx hb hw9 uX1 hown hK hP 0 rfl rfl 2 (by decide) (hw9 _ mw_362) (fun _ h9 => h9) rfl dX1_change_46 ?_
              refine lv_iload hx hb dX1_change_49 (lv_at hl 0 rfl) ?_
              refine kz_rS (As := [.int o, .int (nI i)]) (rest := []) ⟨hx, hb, hml, hown, hw9⟩ (c_X1_has l hl9 D ((cI, .int) :: ty) (wM bd cI 0 it o n g v r (sm_al nx mt fl pr ofs ak hd an) ++ rs) H.size o (nI i)) (kz_cS 2 hw9 mw_400 mw_401 mw_2 mw_402 rfl rfl (by decide +kernel) ⟨Nat.le_of_ble_eq_true rfl, Nat.le_of_ble_eq_true rfl⟩) (kz_preS hK hP hD hS hA hE) rfl hl.1 rfl (Nat.le_of_ble_eq_true rfl) dX1_change_51 ⟨Nat.le_of_ble_eq_true rfl, Nat.le_of_ble_eq_true rfl⟩ (fun _ _ _ _ h => False.elim h) (fun v9 H hv9 hO1 => ?_)
              obtain ⟨_, rfl, rfl⟩ := hv9
              have hP := hO1.P hP
              have hS := hO1.S hS
              refine W.eq (g2 := F0 m 54 ls [.int (sq_z (sm_h o (nI i)))]) rfl ?_
              refine lv_if_ne (tgt := 80) hx hb dX1_change_54 (by decide) (fun c_17 => ?_) (fun c_17 => ?_)
              · -- 54 -> 80
                refine lv_iconst (v := 1) hx hb dX1_change_80 (by decide) ?_
                refine lv_goto (tgt := 85) hx hb dX1_change_81 (by decide) ?_
                refine lv_istore_n (lv' := [(3, .int 1), (4, .int (nI i)), (0, .ref (bd 0)), (1, .int p0), (2, .int p1)]) hx hb dX1_change_85 rfl hl (by decide) rfl (fun ls hl => ?_)
                obtain ⟨v_18, ev_18⟩ : ∃ y : Int32, y = (nI i) + 1 := ⟨_, rfl⟩
                refine lv_iinc (v := v_18) (lv' := [(4, .int v_18), (3, .int 1), (0, .ref (bd 0)), (1, .int p0), (2, .int p1)]) hx hb dX1_change_86 hl (k := 1) rfl (by rw [ev_18]; rfl) (by decide) rfl (fun ls hl => ?_)
                refine lv_goto (tgt := 25) hx hb dX1_change_89 (by decide) ?_
                obtain rfl : v_18 = nI (i + 1) := by rw [ev_18, nI_1]
                have e9 : sq_z (sm_gd p0 o g mt p1 (i + 1)) = 1 := by simp [sm_gd, sm_cd, sq_z, c_2, (Int32.not_le.mp c_2), (sq_z_t c_13), (sq_z_t c_15), (sq_z_t c_17)]
                exact ih (i + 1) H locs ls (by omega) (by omega) hP hD hS (by rw [e9]; exact lv_sub hl [0, 1, 2, 3, 4] rfl)
              · -- 54 -> 57
                refine lv_aload_n hx hb dX1_change_57 rfl (lv_at hl 2 rfl) ?_
                refine va_get (D := D) (ci := 1) (v := .int g) (C := RX1) (T := TX1) (N := 8) hx hb hw9 uX1 hown hK hP 0 rfl rfl 4 (by decide) (hw9 _ mw_364) (fun _ h9 => h9) rfl dX1_change_58 ?_
                refine lv_iload hx hb dX1_change_61 (lv_at hl 0 rfl) ?_
                refine kz_rS (As := [.int g, .int (nI i)]) (rest := []) ⟨hx, hb, hml, hown, hw9⟩ (c_X1_has l hl9 D ((cI, .int) :: ty) (wM bd cI 0 it o n g v r (sm_al nx mt fl pr ofs ak hd an) ++ rs) H.size g (nI i)) (kz_cS 2 hw9 mw_400 mw_401 mw_2 mw_402 rfl rfl (by decide +kernel) ⟨Nat.le_of_ble_eq_true rfl, Nat.le_of_ble_eq_true rfl⟩) (kz_preS hK hP hD hS hA hE) rfl hl.1 rfl (Nat.le_of_ble_eq_true rfl) dX1_change_63 ⟨Nat.le_of_ble_eq_true rfl, Nat.le_of_ble_eq_true rfl⟩ (fun _ _ _ _ h => False.elim h) (fun v9 H hv9 hO1 => ?_)
                obtain ⟨_, rfl, rfl⟩ := hv9
                have hP := hO1.P hP
                have hS := hO1.S hS
                refine W.eq (g2 := F0 m 66 ls [.int (sq_z (sm_h g (nI i)))]) rfl ?_
                refine lv_if_eq (tgt := 84) hx hb dX1_change_66 (by decide) (fun c_19 => ?_) (fun c_19 => ?_)
                · -- 66 -> 84
                  refine lv_iconst (v := 0) hx hb dX1_change_84 (by decide) ?_
                  refine lv_istore_n (lv' := [(3, .int 0), (4, .int (nI i)), (0, .ref (bd 0)), (1, .int p0), (2, .int p1)]) hx hb dX1_change_85 rfl hl (by decide) rfl (fun ls hl => ?_)
                  obtain ⟨v_20, ev_20⟩ : ∃ y : Int32, y = (nI i) + 1 := ⟨_, rfl⟩
                  refine lv_iinc (v := v_20) (lv' := [(4, .int v_20), (3, .int 0), (0, .ref (bd 0)), (1, .int p0), (2, .int p1)]) hx hb dX1_change_86 hl (k := 1) rfl (by rw [ev_20]; rfl) (by decide) rfl (fun ls hl => ?_)
                  refine lv_goto (tgt := 25) hx hb dX1_change_89 (by decide) ?_
                  obtain rfl : v_20 = nI (i + 1) := by rw [ev_20, nI_1]
                  have e9 : sq_z (sm_gd p0 o g mt p1 (i + 1)) = 0 := by simp [sm_gd, sm_cd, sq_z, c_2, (Int32.not_le.mp c_2), (sq_z_t c_13), (sq_z_t c_15), (sq_z_f c_17), (sq_z_f c_19)]
                  exact ih (i + 1) H locs ls (by omega) (by omega) hP hD hS (by rw [e9]; exact lv_sub hl [0, 1, 2, 3, 4] rfl)
                · -- 66 -> 69
                  refine lv_aload_n hx hb dX1_change_69 rfl (lv_at hl 2 rfl) ?_
                  refine lv_iload hx hb dX1_change_70 (lv_at hl 0 rfl) ?_
                  refine lv_iconst (v := 1) hx hb dX1_change_72 (by decide) ?_
                  refine kz_rV (As := [.int (nI i), .int 1]) (rest := []) ⟨hx, hb, hml, hown, hw9⟩ (c_X1_get l hl9 D cI ty bd rs H.size 0 it o n g v r (sm_al nx mt fl pr ofs ak hd an) i 1 (nI i) 1 hi9 (by decide) rfl rfl) (kz_cV 2 hw9 mw_403 mw_405 ms_11 mw_2 mw_406 rfl rfl (by decide +kernel) ⟨Nat.le_of_ble_eq_true rfl, Nat.le_of_ble_eq_true rfl⟩) (kz_preV (q0 := 0) (ci := 1) hK hP hD hS hA hE rfl rfl) rfl hl.1 rfl (Nat.le_of_ble_eq_true rfl) dX1_change_73 ⟨Nat.le_of_ble_eq_true rfl, Nat.le_of_ble_eq_true rfl⟩ (fun _ _ _ _ h => False.elim h) (fun v9 H hv9 hO1 => ?_)
                  obtain ⟨_, rfl, rfl⟩ := hv9
                  have hP := hO1.P hP
                  have hS := hO1.S hS
                  rw [sm_g1]
                  refine W.eq (g2 := F0 m 76 ls [.int (mt i)]) rfl ?_
                  refine lv_iload_n hx hb dX1_change_76 rfl (lv_at hl 4 rfl) ?_
                  refine lv_icmp_lt (tgt := 84) hx hb dX1_change_77 (by decide) (fun c_21 => ?_) (fun c_21 => ?_)
                  · -- 77 -> 84
                    refine lv_iconst (v := 0) hx hb dX1_change_84 (by decide) ?_
                    refine lv_istore_n (lv' := [(3, .int 0), (4, .int (nI i)), (0, .ref (bd 0)), (1, .int p0), (2, .int p1)]) hx hb dX1_change_85 rfl hl (by decide) rfl (fun ls hl => ?_)
                    obtain ⟨v_22, ev_22⟩ : ∃ y : Int32, y = (nI i) + 1 := ⟨_, rfl⟩
                    refine lv_iinc (v := v_22) (lv' := [(4, .int v_22), (3, .int 0), (0, .ref (bd 0)), (1, .int p0), (2, .int p1)]) hx hb dX1_change_86 hl (k := 1) rfl (by rw [ev_22]; rfl) (by decide) rfl (fun ls hl => ?_)
                    refine lv_goto (tgt := 25) hx hb dX1_change_89 (by decide) ?_
                    obtain rfl : v_22 = nI (i + 1) := by rw [ev_22, nI_1]
                    have e9 : sq_z (sm_gd p0 o g mt p1 (i + 1)) = 0 := by simp [sm_gd, sm_cd, sq_z, c_2, (Int32.not_le.mp c_2), (sq_z_t c_13), (sq_z_t c_15), (sq_z_f c_17), (sq_z_t c_19), c_21, (Int32.not_le.mpr c_21)]
                    exact ih (i + 1) H locs ls (by omega) (by omega) hP hD hS (by rw [e9]; exact lv_sub hl [0, 1, 2, 3, 4] rfl)
                  · -- 77 -> 80
                    refine lv_iconst (v := 1) hx hb dX1_change_80 (by decide) ?_
                    refine lv_goto (tgt := 85) hx hb dX1_change_81 (by decide) ?_
                    refine lv_istore_n (lv' := [(3, .int 1), (4, .int (nI i)), (0, .ref (bd 0)), (1, .int p0), (2, .int p1)]) hx hb dX1_change_85 rfl hl (by decide) rfl (fun ls hl => ?_)
                    obtain ⟨v_23, ev_23⟩ : ∃ y : Int32, y = (nI i) + 1 := ⟨_, rfl⟩
                    refine lv_iinc (v := v_23) (lv' := [(4, .int v_23), (3, .int 1), (0, .ref (bd 0)), (1, .int p0), (2, .int p1)]) hx hb dX1_change_86 hl (k := 1) rfl (by rw [ev_23]; rfl) (by decide) rfl (fun ls hl => ?_)
                    refine lv_goto (tgt := 25) hx hb dX1_change_89 (by decide) ?_
                    obtain rfl : v_23 = nI (i + 1) := by rw [ev_23, nI_1]
                    have e9 : sq_z (sm_gd p0 o g mt p1 (i + 1)) = 1 := by simp [sm_gd, sm_cd, sq_z, c_2, (Int32.not_le.mp c_2), (sq_z_t c_13), (sq_z_t c_15), (sq_z_f c_17), (sq_z_t c_19), c_21, (Int32.not_lt.mp c_21)]
                    exact ih (i + 1) H locs ls (by omega) (by omega) hP hD hS (by rw [e9]; exact lv_sub hl [0, 1, 2, 3, 4] rfl)
    have e0 : sq_z (sm_gd p0 o g mt p1 0) = 0 := by simp [sm_gd, sq_z, (sq_z_f c_1)]
    exact loop 8 0 _ _ ls (by decide) (by decide) hP hD hS (by rw [e0]; exact lv_sub hl [0, 1, 2, 3, 4] rfl)
  · -- 9 -> 12
    refine lv_iload_n hx hb dX1_change_12 rfl (lv_at hl 1 rfl) ?_
    refine lv_if_le (tgt := 20) hx hb dX1_change_13 (by decide) (fun c_24 => ?_) (fun c_24 => ?_)
    · -- 13 -> 20
      refine lv_iconst (v := 0) hx hb dX1_change_20 (by decide) ?_
      refine lv_istore_n (lv' := [(3, .int 0), (0, .ref (bd 0)), (1, .int p0), (2, .int p1)]) hx hb dX1_change_21 rfl hl (by decide) rfl (fun ls hl => ?_)
      refine lv_iconst (v := 0) hx hb dX1_change_22 (by decide) ?_
      refine lv_istore (lv' := [(4, .int 0), (3, .int 0), (0, .ref (bd 0)), (1, .int p0), (2, .int p1)]) hx hb dX1_change_23 hl (by decide) rfl (fun ls hl => ?_)
      have loop : ∀ (k i : Nat) (H : Heap) (locs : List Loc) (ls : Array Slot), i ≤ 7 → 7 < i + k → va_P D vwCl (wM bd cI 0 it o n g v r (sm_al nx mt fl pr ofs ak hd an) ++ rs) H → va_D A (wM bd cI 0 it o n g v r (sm_al nx mt fl pr ofs ak hd an) ++ rs) → va_S A s.heap H locs → lv_has ls 5 [(4, .int (nI i)), (3, .int (sq_z (sm_gd p0 o g mt p1 i))), (0, .ref (bd 0)), (1, .int p0), (2, .int p1)] → W p l e (headSpec wsX1_change ({ frames := 1, cells := 1, slots := 6, locals := 22 } : Room)).room s m ([.ref (bd 0), .int p0, .int p1] : List Value).toArray below meth c H locs 0 0 (ez_MQ below (kz_Wr D A (kz_v (True)) (wM bd cI (nI (tc_change o n g mt p0 p1)) it o (if tc_change o n g mt p0 p1 = 0 then p0 else n) (if tc_change o n g mt p0 p1 = 0 then g &&& (p0 ^^^ (-1)) else g) v r (sm_al nx mt fl pr ofs ak hd an) ++ rs)) (kz_T (fun _ => IAE) (fun _ => False)) s 0 0 A) (F0 m 25 ls []) := by
        intro k
        induction k with
        | zero => intro i H locs ls h1 h2; omega
        | succ k ih =>
          intro i H locs ls h1 h2 hP hD hS hl
          refine lv_iload hx hb dX1_change_25 (lv_at hl 0 rfl) ?_
          refine lv_bipush (v := 7) hx hb dX1_change_27 (by decide) ?_
          refine lv_icmp_ge (tgt := 92) hx hb dX1_change_29 (by decide) (fun c_25 => ?_) (fun c_25 => ?_)
          · -- 29 -> 92
            have hi7 : i = 7 := kz_i7 h1 c_25
            subst hi7
            refine lv_iload_n hx hb dX1_change_92 rfl (lv_at hl 1 rfl) ?_
            refine lv_if_eq (tgt := 103) hx hb dX1_change_93 (by decide) (fun c_26 => ?_) (fun c_26 => ?_)
            · -- 93 -> 103
              refine lv_aload_n hx hb dX1_change_103 rfl (lv_at hl 2 rfl) ?_
              refine lv_iload_n hx hb dX1_change_104 rfl (lv_at hl 1 rfl) ?_
              refine lv_if_eq (tgt := 112) hx hb dX1_change_105 (by decide) (fun c_27 => ?_) (fun c_27 => ?_)
              · -- 105 -> 112
                refine lv_iconst (v := 1) hx hb dX1_change_112 (by decide) ?_
                refine va_put (D := D) (ci := 1) (v := .int 1) (ty := .int) (C := RX1) (T := TX1) (N := 8) hx hb hw9 uX1 tyX1 tyX1_ok nmX1 hown hK hP hD hS 0 rfl rfl 0 (by decide) (hw9 _ mw_360) (fun _ h9 => h9) rfl (by decide +kernel) rfl rfl (Nat.le_of_ble_eq_true rfl) dX1_change_113 (fun H locs hP hD hS => ?_)
                have hP : va_P D vwCl (wM bd cI 1 it o n g v r (sm_al nx mt fl pr ofs ak hd an) ++ rs) H := hP
                have hD : va_D A (wM bd cI 1 it o n g v r (sm_al nx mt fl pr ofs ak hd an) ++ rs) := hD
                have htc : tc_change o n g mt p0 p1 = 1 := sm_tch1 hM (sq_z_f c_27)
                exact kz_wretv hx hb hr hlocks (by rw [htc]; exact hP) (by rw [htc]; exact hD) hS (Nat.le_of_ble_eq_true rfl) (Nat.le_of_ble_eq_true rfl) (trivial)  dX1_change_116
              · -- 105 -> 108
                exact absurd c_26 c_27
            · -- 93 -> 96
              refine lv_aload_n hx hb dX1_change_96 rfl (lv_at hl 2 rfl) ?_
              refine va_get (D := D) (ci := 1) (v := .int n) (C := RX1) (T := TX1) (N := 8) hx hb hw9 uX1 hown hK hP 0 rfl rfl 3 (by decide) (hw9 _ mw_363) (fun _ h9 => h9) rfl dX1_change_97 ?_
              refine lv_if_eq (tgt := 117) hx hb dX1_change_100 (by decide) (fun c_28 => ?_) (fun c_28 => ?_)
              · -- 100 -> 117
                refine lv_aload_n hx hb dX1_change_117 rfl (lv_at hl 2 rfl) ?_
                refine lv_iload_n hx hb dX1_change_118 rfl (lv_at hl 3 rfl) ?_
                refine va_put (D := D) (ci := 1) (v := .int p0) (ty := .int) (C := RX1) (T := TX1) (N := 8) hx hb hw9 uX1 tyX1 tyX1_ok nmX1 hown hK hP hD hS 0 rfl rfl 3 (by decide) (hw9 _ mw_363) (fun _ h9 => h9) rfl (by decide +kernel) rfl rfl (Nat.le_of_ble_eq_true rfl) dX1_change_119 (fun H locs hP hD hS => ?_)
                have hP : va_P D vwCl (wM bd cI 0 it o p0 g v r (sm_al nx mt fl pr ofs ak hd an) ++ rs) H := hP
                have hD : va_D A (wM bd cI 0 it o p0 g v r (sm_al nx mt fl pr ofs ak hd an) ++ rs) := hD
                refine lv_iconst (v := 0) hx hb dX1_change_122 (by decide) ?_
                refine lv_istore (lv' := [(4, .int 0), (3, .int (sq_z (sm_gd p0 o g mt p1 7))), (0, .ref (bd 0)), (1, .int p0), (2, .int p1)]) hx hb dX1_change_123 hl (by decide) rfl (fun ls hl => ?_)
                have hgd : sm_gd p0 o g mt p1 7 = true := sq_z_t c_26
                have hn0 : n = 0 := c_28
                obtain ⟨xt, ht8, et⟩ := sm_S (sm_gdS hgd)
                have loop2 : ∀ (k i : Nat) (H : Heap) (locs : List Loc) (ls : Array Slot), i ≤ 7 → 7 < i + k → va_P D vwCl (wM bd cI 0 it o p0 (nI (sm_kk xg xt i)) v r (sm_al nx mt fl pr ofs ak hd an) ++ rs) H → va_D A (wM bd cI 0 it o p0 (nI (sm_kk xg xt i)) v r (sm_al nx mt fl pr ofs ak hd an) ++ rs) → va_S A s.heap H locs → lv_has ls 5 [(4, .int (nI i)), (0, .ref (bd 0)), (1, .int p0)] → W p l e (headSpec wsX1_change ({ frames := 1, cells := 1, slots := 6, locals := 22 } : Room)).room s m ([.ref (bd 0), .int p0, .int p1] : List Value).toArray below meth c H locs 0 0 (ez_MQ below (kz_Wr D A (kz_v (True)) (wM bd cI (nI (tc_change o n g mt p0 p1)) it o (if tc_change o n g mt p0 p1 = 0 then p0 else n) (if tc_change o n g mt p0 p1 = 0 then g &&& (p0 ^^^ (-1)) else g) v r (sm_al nx mt fl pr ofs ak hd an) ++ rs)) (kz_T (fun _ => IAE) (fun _ => False)) s 0 0 A) (F0 m 125 ls []) := by
                  intro k
                  induction k with
                  | zero => intro i H locs ls h1 h2; omega
                  | succ k ih =>
                    intro i H locs ls h1 h2 hP hD hS hl
                    refine lv_iload hx hb dX1_change_125 (lv_at hl 0 rfl) ?_
                    refine lv_bipush (v := 7) hx hb dX1_change_127 (by decide) ?_
                    refine lv_icmp_ge (tgt := 172) hx hb dX1_change_129 (by decide) (fun c_29 => ?_) (fun c_29 => ?_)
                    · -- 129 -> 172
                      have hi7 : i = 7 := kz_i7 h1 c_29
                      subst hi7
                      rw [sm_kkx xg hg8 xt ht8, ← eg, ← et] at hP hD
                      have htc9 : tc_change o n g mt p0 p1 = 0 := sm_tch0 hM hgd hn0
                      have htc : tc_change o n g mt p0 p1 = 0 := htc9
                      exact kz_wretv hx hb hr hlocks (by rw [htc]; exact hP) (by rw [htc]; exact hD) hS (Nat.le_of_ble_eq_true rfl) (Nat.le_of_ble_eq_true rfl) (trivial)  dX1_change_172
                    · -- 129 -> 132
                      have hi9 : i < 7 := kz_l7 h1 c_29
                      have hc9 : (nI i).toNatClampNeg = i := nI_clamp (by omega)
                      refine lv_aload_n hx hb dX1_change_132 rfl (lv_at hl 1 rfl) ?_
                      refine va_get (D := D) (ci := 1) (v := .int (nI (sm_kk xg xt i))) (C := RX1) (T := TX1) (N := 8) hx hb hw9 uX1 hown hK hP 0 rfl rfl 4 (by decide) (hw9 _ mw_364) (fun _ h9 => h9) rfl dX1_change_133 ?_
                      refine lv_iload hx hb dX1_change_136 (lv_at hl 0 rfl) ?_
                      refine kz_rS (As := [.int (nI (sm_kk xg xt i)), .int (nI i)]) (rest := []) ⟨hx, hb, hml, hown, hw9⟩ (c_X1_has l hl9 D ((cI, .int) :: ty) (wM bd cI 0 it o p0 (nI (sm_kk xg xt i)) v r (sm_al nx mt fl pr ofs ak hd an) ++ rs) H.size (nI (sm_kk xg xt i)) (nI i)) (kz_cS 2 hw9 mw_400 mw_401 mw_2 mw_402 rfl rfl (by decide +kernel) ⟨Nat.le_of_ble_eq_true rfl, Nat.le_of_ble_eq_true rfl⟩) (kz_preS hK hP hD hS hA hE) rfl hl.1 rfl (Nat.le_of_ble_eq_true rfl) dX1_change_138 ⟨Nat.le_of_ble_eq_true rfl, Nat.le_of_ble_eq_true rfl⟩ (fun _ _ _ _ h => False.elim h) (fun v9 H hv9 hO1 => ?_)
                      obtain ⟨_, rfl, rfl⟩ := hv9
                      have hP := hO1.P hP
                      have hS := hO1.S hS
                      refine W.eq (g2 := F0 m 141 ls [.int (sq_z (sm_h (nI (sm_kk xg xt i)) (nI i)))]) rfl ?_
                      refine lv_if_eq (tgt := 166) hx hb dX1_change_141 (by decide) (fun c_30 => ?_) (fun c_30 => ?_)
                      · -- 141 -> 166
                        obtain ⟨v_31, ev_31⟩ : ∃ y : Int32, y = (nI i) + 1 := ⟨_, rfl⟩
                        refine lv_iinc (v := v_31) (lv' := [(4, .int v_31), (0, .ref (bd 0)), (1, .int p0)]) hx hb dX1_change_166 hl (k := 0) rfl (by rw [ev_31]; rfl) (by decide) rfl (fun ls hl => ?_)
                        refine lv_goto (tgt := 125) hx hb dX1_change_169 (by decide) ?_
                        obtain rfl : v_31 = nI (i + 1) := by rw [ev_31, nI_1]
                        have tg : sm_h (nI (sm_kk xg xt i)) (nI i) = (sm_kk xg xt i).testBit i := sm_has _ (sm_kkl hg8 i) i hi9
                        have tt : sm_h p0 (nI i) = xt.testBit i := by rw [et]; exact sm_has xt ht8 i hi9
                        have e9 : nI (sm_kk xg xt (i + 1)) = nI (sm_kk xg xt i) := sm_kkn hg8 hi9 (by simp [← tg, ← tt, c_29, (Int32.not_le.mp c_29), (sq_z_f c_30)])
                        exact ih (i + 1) H locs ls (by omega) (by omega) (by rw [e9]; exact hP) (by rw [e9]; exact hD) hS (lv_sub hl [0, 1, 2] rfl)
                      · -- 141 -> 144
                        refine lv_iload_n hx hb dX1_change_144 rfl (lv_at hl 2 rfl) ?_
                        refine lv_iload hx hb dX1_change_145 (lv_at hl 0 rfl) ?_
                        refine kz_rS (As := [.int p0, .int (nI i)]) (rest := []) ⟨hx, hb, hml, hown, hw9⟩ (c_X1_has l hl9 D ((cI, .int) :: ty) (wM bd cI 0 it o p0 (nI (sm_kk xg xt i)) v r (sm_al nx mt fl pr ofs ak hd an) ++ rs) H.size p0 (nI i)) (kz_cS 2 hw9 mw_400 mw_401 mw_2 mw_402 rfl rfl (by decide +kernel) ⟨Nat.le_of_ble_eq_true rfl, Nat.le_of_ble_eq_true rfl⟩) (kz_preS hK hP hD hS hA hE) rfl hl.1 rfl (Nat.le_of_ble_eq_true rfl) dX1_change_147 ⟨Nat.le_of_ble_eq_true rfl, Nat.le_of_ble_eq_true rfl⟩ (fun _ _ _ _ h => False.elim h) (fun v9 H hv9 hO1 => ?_)
                        obtain ⟨_, rfl, rfl⟩ := hv9
                        have hP := hO1.P hP
                        have hS := hO1.S hS
                        refine W.eq (g2 := F0 m 150 ls [.int (sq_z (sm_h p0 (nI i)))]) rfl ?_
                        refine lv_if_eq (tgt := 166) hx hb dX1_change_150 (by decide) (fun c_32 => ?_) (fun c_32 => ?_)
                        · -- 150 -> 166
                          obtain ⟨v_33, ev_33⟩ : ∃ y : Int32, y = (nI i) + 1 := ⟨_, rfl⟩
                          refine lv_iinc (v := v_33) (lv' := [(4, .int v_33), (0, .ref (bd 0)), (1, .int p0)]) hx hb dX1_change_166 hl (k := 0) rfl (by rw [ev_33]; rfl) (by decide) rfl (fun ls hl => ?_)
                          refine lv_goto (tgt := 125) hx hb dX1_change_169 (by decide) ?_
                          obtain rfl : v_33 = nI (i + 1) := by rw [ev_33, nI_1]
                          have tg : sm_h (nI (sm_kk xg xt i)) (nI i) = (sm_kk xg xt i).testBit i := sm_has _ (sm_kkl hg8 i) i hi9
                          have tt : sm_h p0 (nI i) = xt.testBit i := by rw [et]; exact sm_has xt ht8 i hi9
                          have e9 : nI (sm_kk xg xt (i + 1)) = nI (sm_kk xg xt i) := sm_kkn hg8 hi9 (by simp [← tg, ← tt, c_29, (Int32.not_le.mp c_29), (sq_z_t c_30), (sq_z_f c_32)])
                          exact ih (i + 1) H locs ls (by omega) (by omega) (by rw [e9]; exact hP) (by rw [e9]; exact hD) hS (lv_sub hl [0, 1, 2] rfl)
                        · -- 150 -> 153
                          refine lv_aload_n hx hb dX1_change_153 rfl (lv_at hl 1 rfl) ?_
                          refine lv_dup hx hb dX1_change_154 rfl ?_
                          refine va_get (D := D) (ci := 1) (v := .int (nI (sm_kk xg xt i))) (C := RX1) (T := TX1) (N := 8) hx hb hw9 uX1 hown hK hP 0 rfl rfl 4 (by decide) (hw9 _ mw_364) (fun _ h9 => h9) rfl dX1_change_155 ?_
                          refine lv_iconst (v := 1) hx hb dX1_change_158 (by decide) ?_
                          refine lv_iload hx hb dX1_change_159 (lv_at hl 0 rfl) ?_
                          refine lv_ishl hx hb dX1_change_161 ?_
                          refine lv_isub hx hb dX1_change_162 ?_
                          refine va_put (D := D) (ci := 1) (v := .int (nI (sm_kk xg xt i) - (1 <<< ((nI i) &&& 31)))) (ty := .int) (C := RX1) (T := TX1) (N := 8) hx hb hw9 uX1 tyX1 tyX1_ok nmX1 hown hK hP hD hS 0 rfl rfl 4 (by decide) (hw9 _ mw_364) (fun _ h9 => h9) rfl (by decide +kernel) rfl rfl (Nat.le_of_ble_eq_true rfl) dX1_change_163 (fun H locs hP hD hS => ?_)
                          have hP : va_P D vwCl (wM bd cI 0 it o p0 (nI (sm_kk xg xt i) - (1 <<< ((nI i) &&& 31))) v r (sm_al nx mt fl pr ofs ak hd an) ++ rs) H := hP
                          have hD : va_D A (wM bd cI 0 it o p0 (nI (sm_kk xg xt i) - (1 <<< ((nI i) &&& 31))) v r (sm_al nx mt fl pr ofs ak hd an) ++ rs) := hD
                          obtain ⟨v_34, ev_34⟩ : ∃ y : Int32, y = (nI i) + 1 := ⟨_, rfl⟩
                          refine lv_iinc (v := v_34) (lv' := [(4, .int v_34), (0, .ref (bd 0)), (1, .int p0)]) hx hb dX1_change_166 hl (k := 0) rfl (by rw [ev_34]; rfl) (by decide) rfl (fun ls hl => ?_)
                          refine lv_goto (tgt := 125) hx hb dX1_change_169 (by decide) ?_
                          obtain rfl : v_34 = nI (i + 1) := by rw [ev_34, nI_1]
                          have tg : sm_h (nI (sm_kk xg xt i)) (nI i) = (sm_kk xg xt i).testBit i := sm_has _ (sm_kkl hg8 i) i hi9
                          have tt : sm_h p0 (nI i) = xt.testBit i := by rw [et]; exact sm_has xt ht8 i hi9
                          have e9 : nI (sm_kk xg xt (i + 1)) = (nI (sm_kk xg xt i) - (1 <<< ((nI i) &&& 31))) := sm_kky hg8 hi9 (by simp [← tg, ← tt, c_29, (Int32.not_le.mp c_29), (sq_z_t c_30), (sq_z_t c_32)])
                          exact ih (i + 1) H locs ls (by omega) (by omega) (by rw [e9]; exact hP) (by rw [e9]; exact hD) hS (lv_sub hl [0, 1, 2] rfl)
                exact loop2 8 0 _ _ ls (by decide) (by decide) (by rw [show sm_kk xg xt 0 = xg from rfl, ← eg]; exact hP) (by rw [show sm_kk xg xt 0 = xg from rfl, ← eg]; exact hD) hS (lv_sub hl [0, 2, 3] rfl)
              · -- 100 -> 103
                refine lv_aload_n hx hb dX1_change_103 rfl (lv_at hl 2 rfl) ?_
                refine lv_iload_n hx hb dX1_change_104 rfl (lv_at hl 1 rfl) ?_
                refine lv_if_eq (tgt := 112) hx hb dX1_change_105 (by decide) (fun c_35 => ?_) (fun c_35 => ?_)
                · -- 105 -> 112
                  exact absurd c_35 c_26
                · -- 105 -> 108
                  refine lv_iconst (v := 2) hx hb dX1_change_108 (by decide) ?_
                  refine lv_goto (tgt := 113) hx hb dX1_change_109 (by decide) ?_
                  refine va_put (D := D) (ci := 1) (v := .int 2) (ty := .int) (C := RX1) (T := TX1) (N := 8) hx hb hw9 uX1 tyX1 tyX1_ok nmX1 hown hK hP hD hS 0 rfl rfl 0 (by decide) (hw9 _ mw_360) (fun _ h9 => h9) rfl (by decide +kernel) rfl rfl (Nat.le_of_ble_eq_true rfl) dX1_change_113 (fun H locs hP hD hS => ?_)
                  have hP : va_P D vwCl (wM bd cI 2 it o n g v r (sm_al nx mt fl pr ofs ak hd an) ++ rs) H := hP
                  have hD : va_D A (wM bd cI 2 it o n g v r (sm_al nx mt fl pr ofs ak hd an) ++ rs) := hD
                  have htc : tc_change o n g mt p0 p1 = 2 := sm_tch2 hM (sq_z_t c_35) c_28
                  exact kz_wretv hx hb hr hlocks (by rw [htc]; exact hP) (by rw [htc]; exact hD) hS (Nat.le_of_ble_eq_true rfl) (Nat.le_of_ble_eq_true rfl) (trivial)  dX1_change_116
          · -- 29 -> 32
            have hi9 : i < 7 := kz_l7 h1 c_25
            have hc9 : (nI i).toNatClampNeg = i := nI_clamp (by omega)
            refine lv_iload_n hx hb dX1_change_32 rfl (lv_at hl 1 rfl) ?_
            refine lv_if_eq (tgt := 84) hx hb dX1_change_33 (by decide) (fun c_36 => ?_) (fun c_36 => ?_)
            · -- 33 -> 84
              refine lv_iconst (v := 0) hx hb dX1_change_84 (by decide) ?_
              refine lv_istore_n (lv' := [(3, .int 0), (4, .int (nI i)), (0, .ref (bd 0)), (1, .int p0), (2, .int p1)]) hx hb dX1_change_85 rfl hl (by decide) rfl (fun ls hl => ?_)
              obtain ⟨v_37, ev_37⟩ : ∃ y : Int32, y = (nI i) + 1 := ⟨_, rfl⟩
              refine lv_iinc (v := v_37) (lv' := [(4, .int v_37), (3, .int 0), (0, .ref (bd 0)), (1, .int p0), (2, .int p1)]) hx hb dX1_change_86 hl (k := 1) rfl (by rw [ev_37]; rfl) (by decide) rfl (fun ls hl => ?_)
              refine lv_goto (tgt := 25) hx hb dX1_change_89 (by decide) ?_
              obtain rfl : v_37 = nI (i + 1) := by rw [ev_37, nI_1]
              have e9 : sq_z (sm_gd p0 o g mt p1 (i + 1)) = 0 := by simp [sm_gd, sm_cd, sq_z, c_25, (Int32.not_le.mp c_25), (sq_z_f c_36)]
              exact ih (i + 1) H locs ls (by omega) (by omega) hP hD hS (by rw [e9]; exact lv_sub hl [0, 1, 2, 3, 4] rfl)
            · -- 33 -> 36
              refine lv_iload_n hx hb dX1_change_36 rfl (lv_at hl 3 rfl) ?_
              refine lv_iload hx hb dX1_change_37 (lv_at hl 0 rfl) ?_
              refine kz_rS (As := [.int p0, .int (nI i)]) (rest := []) ⟨hx, hb, hml, hown, hw9⟩ (c_X1_has l hl9 D ((cI, .int) :: ty) (wM bd cI 0 it o n g v r (sm_al nx mt fl pr ofs ak hd an) ++ rs) H.size p0 (nI i)) (kz_cS 2 hw9 mw_400 mw_401 mw_2 mw_402 rfl rfl (by decide +kernel) ⟨Nat.le_of_ble_eq_true rfl, Nat.le_of_ble_eq_true rfl⟩) (kz_preS hK hP hD hS hA hE) rfl hl.1 rfl (Nat.le_of_ble_eq_true rfl) dX1_change_39 ⟨Nat.le_of_ble_eq_true rfl, Nat.le_of_ble_eq_true rfl⟩ (fun _ _ _ _ h => False.elim h) (fun v9 H hv9 hO1 => ?_)
              obtain ⟨_, rfl, rfl⟩ := hv9
              have hP := hO1.P hP
              have hS := hO1.S hS
              refine W.eq (g2 := F0 m 42 ls [.int (sq_z (sm_h p0 (nI i)))]) rfl ?_
              refine lv_if_eq (tgt := 80) hx hb dX1_change_42 (by decide) (fun c_38 => ?_) (fun c_38 => ?_)
              · -- 42 -> 80
                refine lv_iconst (v := 1) hx hb dX1_change_80 (by decide) ?_
                refine lv_goto (tgt := 85) hx hb dX1_change_81 (by decide) ?_
                refine lv_istore_n (lv' := [(3, .int 1), (4, .int (nI i)), (0, .ref (bd 0)), (1, .int p0), (2, .int p1)]) hx hb dX1_change_85 rfl hl (by decide) rfl (fun ls hl => ?_)
                obtain ⟨v_39, ev_39⟩ : ∃ y : Int32, y = (nI i) + 1 := ⟨_, rfl⟩
                refine lv_iinc (v := v_39) (lv' := [(4, .int v_39), (3, .int 1), (0, .ref (bd 0)), (1, .int p0), (2, .int p1)]) hx hb dX1_change_86 hl (k := 1) rfl (by rw [ev_39]; rfl) (by decide) rfl (fun ls hl => ?_)
                refine lv_goto (tgt := 25) hx hb dX1_change_89 (by decide) ?_
                obtain rfl : v_39 = nI (i + 1) := by rw [ev_39, nI_1]
                have e9 : sq_z (sm_gd p0 o g mt p1 (i + 1)) = 1 := by simp [sm_gd, sm_cd, sq_z, c_25, (Int32.not_le.mp c_25), (sq_z_t c_36), (sq_z_f c_38)]
                exact ih (i + 1) H locs ls (by omega) (by omega) hP hD hS (by rw [e9]; exact lv_sub hl [0, 1, 2, 3, 4] rfl)
              · -- 42 -> 45
                refine lv_aload_n hx hb dX1_change_45 rfl (lv_at hl 2 rfl) ?_
                refine va_get (D := D) (ci := 1) (v := .int o) (C := RX1) (T := TX1) (N := 8) hx hb hw9 uX1 hown hK hP 0 rfl rfl 2 (by decide) (hw9 _ mw_362) (fun _ h9 => h9) rfl dX1_change_46 ?_
                refine lv_iload hx hb dX1_change_49 (lv_at hl 0 rfl) ?_
                refine kz_rS (As := [.int o, .int (nI i)]) (rest := []) ⟨hx, hb, hml, hown, hw9⟩ (c_X1_has l hl9 D ((cI, .int) :: ty) (wM bd cI 0 it o n g v r (sm_al nx mt fl pr ofs ak hd an) ++ rs) H.size o (nI i)) (kz_cS 2 hw9 mw_400 mw_401 mw_2 mw_402 rfl rfl (by decide +kernel) ⟨Nat.le_of_ble_eq_true rfl, Nat.le_of_ble_eq_true rfl⟩) (kz_preS hK hP hD hS hA hE) rfl hl.1 rfl (Nat.le_of_ble_eq_true rfl) dX1_change_51 ⟨Nat.le_of_ble_eq_true rfl, Nat.le_of_ble_eq_true rfl⟩ (fun _ _ _ _ h => False.elim h) (fun v9 H hv9 hO1 => ?_)
                obtain ⟨_, rfl, rfl⟩ := hv9
                have hP := hO1.P hP
                have hS := hO1.S hS
                refine W.eq (g2 := F0 m 54 ls [.int (sq_z (sm_h o (nI i)))]) rfl ?_
                refine lv_if_ne (tgt := 80) hx hb dX1_change_54 (by decide) (fun c_40 => ?_) (fun c_40 => ?_)
                · -- 54 -> 80
                  refine lv_iconst (v := 1) hx hb dX1_change_80 (by decide) ?_
                  refine lv_goto (tgt := 85) hx hb dX1_change_81 (by decide) ?_
                  refine lv_istore_n (lv' := [(3, .int 1), (4, .int (nI i)), (0, .ref (bd 0)), (1, .int p0), (2, .int p1)]) hx hb dX1_change_85 rfl hl (by decide) rfl (fun ls hl => ?_)
                  obtain ⟨v_41, ev_41⟩ : ∃ y : Int32, y = (nI i) + 1 := ⟨_, rfl⟩
                  refine lv_iinc (v := v_41) (lv' := [(4, .int v_41), (3, .int 1), (0, .ref (bd 0)), (1, .int p0), (2, .int p1)]) hx hb dX1_change_86 hl (k := 1) rfl (by rw [ev_41]; rfl) (by decide) rfl (fun ls hl => ?_)
                  refine lv_goto (tgt := 25) hx hb dX1_change_89 (by decide) ?_
                  obtain rfl : v_41 = nI (i + 1) := by rw [ev_41, nI_1]
                  have e9 : sq_z (sm_gd p0 o g mt p1 (i + 1)) = 1 := by simp [sm_gd, sm_cd, sq_z, c_25, (Int32.not_le.mp c_25), (sq_z_t c_36), (sq_z_t c_38), (sq_z_t c_40)]
                  exact ih (i + 1) H locs ls (by omega) (by omega) hP hD hS (by rw [e9]; exact lv_sub hl [0, 1, 2, 3, 4] rfl)
                · -- 54 -> 57
                  refine lv_aload_n hx hb dX1_change_57 rfl (lv_at hl 2 rfl) ?_
                  refine va_get (D := D) (ci := 1) (v := .int g) (C := RX1) (T := TX1) (N := 8) hx hb hw9 uX1 hown hK hP 0 rfl rfl 4 (by decide) (hw9 _ mw_364) (fun _ h9 => h9) rfl dX1_change_58 ?_
                  refine lv_iload hx hb dX1_change_61 (lv_at hl 0 rfl) ?_
                  refine kz_rS (As := [.int g, .int (nI i)]) (rest := []) ⟨hx, hb, hml, hown, hw9⟩ (c_X1_has l hl9 D ((cI, .int) :: ty) (wM bd cI 0 it o n g v r (sm_al nx mt fl pr ofs ak hd an) ++ rs) H.size g (nI i)) (kz_cS 2 hw9 mw_400 mw_401 mw_2 mw_402 rfl rfl (by decide +kernel) ⟨Nat.le_of_ble_eq_true rfl, Nat.le_of_ble_eq_true rfl⟩) (kz_preS hK hP hD hS hA hE) rfl hl.1 rfl (Nat.le_of_ble_eq_true rfl) dX1_change_63 ⟨Nat.le_of_ble_eq_true rfl, Nat.le_of_ble_eq_true rfl⟩ (fun _ _ _ _ h => False.elim h) (fun v9 H hv9 hO1 => ?_)
                  obtain ⟨_, rfl, rfl⟩ := hv9
                  have hP := hO1.P hP
                  have hS := hO1.S hS
                  refine W.eq (g2 := F0 m 66 ls [.int (sq_z (sm_h g (nI i)))]) rfl ?_
                  refine lv_if_eq (tgt := 84) hx hb dX1_change_66 (by decide) (fun c_42 => ?_) (fun c_42 => ?_)
                  · -- 66 -> 84
                    refine lv_iconst (v := 0) hx hb dX1_change_84 (by decide) ?_
                    refine lv_istore_n (lv' := [(3, .int 0), (4, .int (nI i)), (0, .ref (bd 0)), (1, .int p0), (2, .int p1)]) hx hb dX1_change_85 rfl hl (by decide) rfl (fun ls hl => ?_)
                    obtain ⟨v_43, ev_43⟩ : ∃ y : Int32, y = (nI i) + 1 := ⟨_, rfl⟩
                    refine lv_iinc (v := v_43) (lv' := [(4, .int v_43), (3, .int 0), (0, .ref (bd 0)), (1, .int p0), (2, .int p1)]) hx hb dX1_change_86 hl (k := 1) rfl (by rw [ev_43]; rfl) (by decide) rfl (fun ls hl => ?_)
                    refine lv_goto (tgt := 25) hx hb dX1_change_89 (by decide) ?_
                    obtain rfl : v_43 = nI (i + 1) := by rw [ev_43, nI_1]
                    have e9 : sq_z (sm_gd p0 o g mt p1 (i + 1)) = 0 := by simp [sm_gd, sm_cd, sq_z, c_25, (Int32.not_le.mp c_25), (sq_z_t c_36), (sq_z_t c_38), (sq_z_f c_40), (sq_z_f c_42)]
                    exact ih (i + 1) H locs ls (by omega) (by omega) hP hD hS (by rw [e9]; exact lv_sub hl [0, 1, 2, 3, 4] rfl)
                  · -- 66 -> 69
                    refine lv_aload_n hx hb dX1_change_69 rfl (lv_at hl 2 rfl) ?_
                    refine lv_iload hx hb dX1_change_70 (lv_at hl 0 rfl) ?_
                    refine lv_iconst (v := 1) hx hb dX1_change_72 (by decide) ?_
                    refine kz_rV (As := [.int (nI i), .int 1]) (rest := []) ⟨hx, hb, hml, hown, hw9⟩ (c_X1_get l hl9 D cI ty bd rs H.size 0 it o n g v r (sm_al nx mt fl pr ofs ak hd an) i 1 (nI i) 1 hi9 (by decide) rfl rfl) (kz_cV 2 hw9 mw_403 mw_405 ms_11 mw_2 mw_406 rfl rfl (by decide +kernel) ⟨Nat.le_of_ble_eq_true rfl, Nat.le_of_ble_eq_true rfl⟩) (kz_preV (q0 := 0) (ci := 1) hK hP hD hS hA hE rfl rfl) rfl hl.1 rfl (Nat.le_of_ble_eq_true rfl) dX1_change_73 ⟨Nat.le_of_ble_eq_true rfl, Nat.le_of_ble_eq_true rfl⟩ (fun _ _ _ _ h => False.elim h) (fun v9 H hv9 hO1 => ?_)
                    obtain ⟨_, rfl, rfl⟩ := hv9
                    have hP := hO1.P hP
                    have hS := hO1.S hS
                    rw [sm_g1]
                    refine W.eq (g2 := F0 m 76 ls [.int (mt i)]) rfl ?_
                    refine lv_iload_n hx hb dX1_change_76 rfl (lv_at hl 4 rfl) ?_
                    refine lv_icmp_lt (tgt := 84) hx hb dX1_change_77 (by decide) (fun c_44 => ?_) (fun c_44 => ?_)
                    · -- 77 -> 84
                      refine lv_iconst (v := 0) hx hb dX1_change_84 (by decide) ?_
                      refine lv_istore_n (lv' := [(3, .int 0), (4, .int (nI i)), (0, .ref (bd 0)), (1, .int p0), (2, .int p1)]) hx hb dX1_change_85 rfl hl (by decide) rfl (fun ls hl => ?_)
                      obtain ⟨v_45, ev_45⟩ : ∃ y : Int32, y = (nI i) + 1 := ⟨_, rfl⟩
                      refine lv_iinc (v := v_45) (lv' := [(4, .int v_45), (3, .int 0), (0, .ref (bd 0)), (1, .int p0), (2, .int p1)]) hx hb dX1_change_86 hl (k := 1) rfl (by rw [ev_45]; rfl) (by decide) rfl (fun ls hl => ?_)
                      refine lv_goto (tgt := 25) hx hb dX1_change_89 (by decide) ?_
                      obtain rfl : v_45 = nI (i + 1) := by rw [ev_45, nI_1]
                      have e9 : sq_z (sm_gd p0 o g mt p1 (i + 1)) = 0 := by simp [sm_gd, sm_cd, sq_z, c_25, (Int32.not_le.mp c_25), (sq_z_t c_36), (sq_z_t c_38), (sq_z_f c_40), (sq_z_t c_42), c_44, (Int32.not_le.mpr c_44)]
                      exact ih (i + 1) H locs ls (by omega) (by omega) hP hD hS (by rw [e9]; exact lv_sub hl [0, 1, 2, 3, 4] rfl)
                    · -- 77 -> 80
                      refine lv_iconst (v := 1) hx hb dX1_change_80 (by decide) ?_
                      refine lv_goto (tgt := 85) hx hb dX1_change_81 (by decide) ?_
                      refine lv_istore_n (lv' := [(3, .int 1), (4, .int (nI i)), (0, .ref (bd 0)), (1, .int p0), (2, .int p1)]) hx hb dX1_change_85 rfl hl (by decide) rfl (fun ls hl => ?_)
                      obtain ⟨v_46, ev_46⟩ : ∃ y : Int32, y = (nI i) + 1 := ⟨_, rfl⟩
                      refine lv_iinc (v := v_46) (lv' := [(4, .int v_46), (3, .int 1), (0, .ref (bd 0)), (1, .int p0), (2, .int p1)]) hx hb dX1_change_86 hl (k := 1) rfl (by rw [ev_46]; rfl) (by decide) rfl (fun ls hl => ?_)
                      refine lv_goto (tgt := 25) hx hb dX1_change_89 (by decide) ?_
                      obtain rfl : v_46 = nI (i + 1) := by rw [ev_46, nI_1]
                      have e9 : sq_z (sm_gd p0 o g mt p1 (i + 1)) = 1 := by simp [sm_gd, sm_cd, sq_z, c_25, (Int32.not_le.mp c_25), (sq_z_t c_36), (sq_z_t c_38), (sq_z_f c_40), (sq_z_t c_42), c_44, (Int32.not_lt.mp c_44)]
                      exact ih (i + 1) H locs ls (by omega) (by omega) hP hD hS (by rw [e9]; exact lv_sub hl [0, 1, 2, 3, 4] rfl)
      have e0 : sq_z (sm_gd p0 o g mt p1 0) = 0 := by simp [sm_gd, sq_z, (sq_z_t c_1), c_24, (Int32.not_lt.mpr c_24)]
      exact loop 8 0 _ _ ls (by decide) (by decide) hP hD hS (by rw [e0]; exact lv_sub hl [0, 1, 2, 3, 4] rfl)
    · -- 13 -> 16
      refine lv_iconst (v := 1) hx hb dX1_change_16 (by decide) ?_
      refine lv_goto (tgt := 21) hx hb dX1_change_17 (by decide) ?_
      refine lv_istore_n (lv' := [(3, .int 1), (0, .ref (bd 0)), (1, .int p0), (2, .int p1)]) hx hb dX1_change_21 rfl hl (by decide) rfl (fun ls hl => ?_)
      refine lv_iconst (v := 0) hx hb dX1_change_22 (by decide) ?_
      refine lv_istore (lv' := [(4, .int 0), (3, .int 1), (0, .ref (bd 0)), (1, .int p0), (2, .int p1)]) hx hb dX1_change_23 hl (by decide) rfl (fun ls hl => ?_)
      have loop : ∀ (k i : Nat) (H : Heap) (locs : List Loc) (ls : Array Slot), i ≤ 7 → 7 < i + k → va_P D vwCl (wM bd cI 0 it o n g v r (sm_al nx mt fl pr ofs ak hd an) ++ rs) H → va_D A (wM bd cI 0 it o n g v r (sm_al nx mt fl pr ofs ak hd an) ++ rs) → va_S A s.heap H locs → lv_has ls 5 [(4, .int (nI i)), (3, .int (sq_z (sm_gd p0 o g mt p1 i))), (0, .ref (bd 0)), (1, .int p0), (2, .int p1)] → W p l e (headSpec wsX1_change ({ frames := 1, cells := 1, slots := 6, locals := 22 } : Room)).room s m ([.ref (bd 0), .int p0, .int p1] : List Value).toArray below meth c H locs 0 0 (ez_MQ below (kz_Wr D A (kz_v (True)) (wM bd cI (nI (tc_change o n g mt p0 p1)) it o (if tc_change o n g mt p0 p1 = 0 then p0 else n) (if tc_change o n g mt p0 p1 = 0 then g &&& (p0 ^^^ (-1)) else g) v r (sm_al nx mt fl pr ofs ak hd an) ++ rs)) (kz_T (fun _ => IAE) (fun _ => False)) s 0 0 A) (F0 m 25 ls []) := by
        intro k
        induction k with
        | zero => intro i H locs ls h1 h2; omega
        | succ k ih =>
          intro i H locs ls h1 h2 hP hD hS hl
          refine lv_iload hx hb dX1_change_25 (lv_at hl 0 rfl) ?_
          refine lv_bipush (v := 7) hx hb dX1_change_27 (by decide) ?_
          refine lv_icmp_ge (tgt := 92) hx hb dX1_change_29 (by decide) (fun c_47 => ?_) (fun c_47 => ?_)
          · -- 29 -> 92
            have hi7 : i = 7 := kz_i7 h1 c_47
            subst hi7
            refine lv_iload_n hx hb dX1_change_92 rfl (lv_at hl 1 rfl) ?_
            refine lv_if_eq (tgt := 103) hx hb dX1_change_93 (by decide) (fun c_48 => ?_) (fun c_48 => ?_)
            · -- 93 -> 103
              refine lv_aload_n hx hb dX1_change_103 rfl (lv_at hl 2 rfl) ?_
              refine lv_iload_n hx hb dX1_change_104 rfl (lv_at hl 1 rfl) ?_
              refine lv_if_eq (tgt := 112) hx hb dX1_change_105 (by decide) (fun c_49 => ?_) (fun c_49 => ?_)
              · -- 105 -> 112
                refine lv_iconst (v := 1) hx hb dX1_change_112 (by decide) ?_
                refine va_put (D := D) (ci := 1) (v := .int 1) (ty := .int) (C := RX1) (T := TX1) (N := 8) hx hb hw9 uX1 tyX1 tyX1_ok nmX1 hown hK hP hD hS 0 rfl rfl 0 (by decide) (hw9 _ mw_360) (fun _ h9 => h9) rfl (by decide +kernel) rfl rfl (Nat.le_of_ble_eq_true rfl) dX1_change_113 (fun H locs hP hD hS => ?_)
                have hP : va_P D vwCl (wM bd cI 1 it o n g v r (sm_al nx mt fl pr ofs ak hd an) ++ rs) H := hP
                have hD : va_D A (wM bd cI 1 it o n g v r (sm_al nx mt fl pr ofs ak hd an) ++ rs) := hD
                have htc : tc_change o n g mt p0 p1 = 1 := sm_tch1 hM (sq_z_f c_49)
                exact kz_wretv hx hb hr hlocks (by rw [htc]; exact hP) (by rw [htc]; exact hD) hS (Nat.le_of_ble_eq_true rfl) (Nat.le_of_ble_eq_true rfl) (trivial)  dX1_change_116
              · -- 105 -> 108
                exact absurd c_48 c_49
            · -- 93 -> 96
              refine lv_aload_n hx hb dX1_change_96 rfl (lv_at hl 2 rfl) ?_
              refine va_get (D := D) (ci := 1) (v := .int n) (C := RX1) (T := TX1) (N := 8) hx hb hw9 uX1 hown hK hP 0 rfl rfl 3 (by decide) (hw9 _ mw_363) (fun _ h9 => h9) rfl dX1_change_97 ?_
              refine lv_if_eq (tgt := 117) hx hb dX1_change_100 (by decide) (fun c_50 => ?_) (fun c_50 => ?_)
              · -- 100 -> 117
                refine lv_aload_n hx hb dX1_change_117 rfl (lv_at hl 2 rfl) ?_
                refine lv_iload_n hx hb dX1_change_118 rfl (lv_at hl 3 rfl) ?_
                refine va_put (D := D) (ci := 1) (v := .int p0) (ty := .int) (C := RX1) (T := TX1) (N := 8) hx hb hw9 uX1 tyX1 tyX1_ok nmX1 hown hK hP hD hS 0 rfl rfl 3 (by decide) (hw9 _ mw_363) (fun _ h9 => h9) rfl (by decide +kernel) rfl rfl (Nat.le_of_ble_eq_true rfl) dX1_change_119 (fun H locs hP hD hS => ?_)
                have hP : va_P D vwCl (wM bd cI 0 it o p0 g v r (sm_al nx mt fl pr ofs ak hd an) ++ rs) H := hP
                have hD : va_D A (wM bd cI 0 it o p0 g v r (sm_al nx mt fl pr ofs ak hd an) ++ rs) := hD
                refine lv_iconst (v := 0) hx hb dX1_change_122 (by decide) ?_
                refine lv_istore (lv' := [(4, .int 0), (3, .int (sq_z (sm_gd p0 o g mt p1 7))), (0, .ref (bd 0)), (1, .int p0), (2, .int p1)]) hx hb dX1_change_123 hl (by decide) rfl (fun ls hl => ?_)
                have hgd : sm_gd p0 o g mt p1 7 = true := sq_z_t c_48
                have hn0 : n = 0 := c_50
                obtain ⟨xt, ht8, et⟩ := sm_S (sm_gdS hgd)
                have loop2 : ∀ (k i : Nat) (H : Heap) (locs : List Loc) (ls : Array Slot), i ≤ 7 → 7 < i + k → va_P D vwCl (wM bd cI 0 it o p0 (nI (sm_kk xg xt i)) v r (sm_al nx mt fl pr ofs ak hd an) ++ rs) H → va_D A (wM bd cI 0 it o p0 (nI (sm_kk xg xt i)) v r (sm_al nx mt fl pr ofs ak hd an) ++ rs) → va_S A s.heap H locs → lv_has ls 5 [(4, .int (nI i)), (0, .ref (bd 0)), (1, .int p0)] → W p l e (headSpec wsX1_change ({ frames := 1, cells := 1, slots := 6, locals := 22 } : Room)).room s m ([.ref (bd 0), .int p0, .int p1] : List Value).toArray below meth c H locs 0 0 (ez_MQ below (kz_Wr D A (kz_v (True)) (wM bd cI (nI (tc_change o n g mt p0 p1)) it o (if tc_change o n g mt p0 p1 = 0 then p0 else n) (if tc_change o n g mt p0 p1 = 0 then g &&& (p0 ^^^ (-1)) else g) v r (sm_al nx mt fl pr ofs ak hd an) ++ rs)) (kz_T (fun _ => IAE) (fun _ => False)) s 0 0 A) (F0 m 125 ls []) := by
                  intro k
                  induction k with
                  | zero => intro i H locs ls h1 h2; omega
                  | succ k ih =>
                    intro i H locs ls h1 h2 hP hD hS hl
                    refine lv_iload hx hb dX1_change_125 (lv_at hl 0 rfl) ?_
                    refine lv_bipush (v := 7) hx hb dX1_change_127 (by decide) ?_
                    refine lv_icmp_ge (tgt := 172) hx hb dX1_change_129 (by decide) (fun c_51 => ?_) (fun c_51 => ?_)
                    · -- 129 -> 172
                      have hi7 : i = 7 := kz_i7 h1 c_51
                      subst hi7
                      rw [sm_kkx xg hg8 xt ht8, ← eg, ← et] at hP hD
                      have htc9 : tc_change o n g mt p0 p1 = 0 := sm_tch0 hM hgd hn0
                      have htc : tc_change o n g mt p0 p1 = 0 := htc9
                      exact kz_wretv hx hb hr hlocks (by rw [htc]; exact hP) (by rw [htc]; exact hD) hS (Nat.le_of_ble_eq_true rfl) (Nat.le_of_ble_eq_true rfl) (trivial)  dX1_change_172
                    · -- 129 -> 132
                      have hi9 : i < 7 := kz_l7 h1 c_51
                      have hc9 : (nI i).toNatClampNeg = i := nI_clamp (by omega)
                      refine lv_aload_n hx hb dX1_change_132 rfl (lv_at hl 1 rfl) ?_
                      refine va_get (D := D) (ci := 1) (v := .int (nI (sm_kk xg xt i))) (C := RX1) (T := TX1) (N := 8) hx hb hw9 uX1 hown hK hP 0 rfl rfl 4 (by decide) (hw9 _ mw_364) (fun _ h9 => h9) rfl dX1_change_133 ?_
                      refine lv_iload hx hb dX1_change_136 (lv_at hl 0 rfl) ?_
                      refine kz_rS (As := [.int (nI (sm_kk xg xt i)), .int (nI i)]) (rest := []) ⟨hx, hb, hml, hown, hw9⟩ (c_X1_has l hl9 D ((cI, .int) :: ty) (wM bd cI 0 it o p0 (nI (sm_kk xg xt i)) v r (sm_al nx mt fl pr ofs ak hd an) ++ rs) H.size (nI (sm_kk xg xt i)) (nI i)) (kz_cS 2 hw9 mw_400 mw_401 mw_2 mw_402 rfl rfl (by decide +kernel) ⟨Nat.le_of_ble_eq_true rfl, Nat.le_of_ble_eq_true rfl⟩) (kz_preS hK hP hD hS hA hE) rfl hl.1 rfl (Nat.le_of_ble_eq_true rfl) dX1_change_138 ⟨Nat.le_of_ble_eq_true rfl, Nat.le_of_ble_eq_true rfl⟩ (fun _ _ _ _ h => False.elim h) (fun v9 H hv9 hO1 => ?_)
                      obtain ⟨_, rfl, rfl⟩ := hv9
                      have hP := hO1.P hP
                      have hS := hO1.S hS
                      refine W.eq (g2 := F0 m 141 ls [.int (sq_z (sm_h (nI (sm_kk xg xt i)) (nI i)))]) rfl ?_
                      refine lv_if_eq (tgt := 166) hx hb dX1_change_141 (by decide) (fun c_52 => ?_) (fun c_52 => ?_)
                      · -- 141 -> 166
                        obtain ⟨v_53, ev_53⟩ : ∃ y : Int32, y = (nI i) + 1 := ⟨_, rfl⟩
                        refine lv_iinc (v := v_53) (lv' := [(4, .int v_53), (0, .ref (bd 0)), (1, .int p0)]) hx hb dX1_change_166 hl (k := 0) rfl (by rw [ev_53]; rfl) (by decide) rfl (fun ls hl => ?_)
                        refine lv_goto (tgt := 125) hx hb dX1_change_169 (by decide) ?_
                        obtain rfl : v_53 = nI (i + 1) := by rw [ev_53, nI_1]
                        have tg : sm_h (nI (sm_kk xg xt i)) (nI i) = (sm_kk xg xt i).testBit i := sm_has _ (sm_kkl hg8 i) i hi9
                        have tt : sm_h p0 (nI i) = xt.testBit i := by rw [et]; exact sm_has xt ht8 i hi9
                        have e9 : nI (sm_kk xg xt (i + 1)) = nI (sm_kk xg xt i) := sm_kkn hg8 hi9 (by simp [← tg, ← tt, c_51, (Int32.not_le.mp c_51), (sq_z_f c_52)])
                        exact ih (i + 1) H locs ls (by omega) (by omega) (by rw [e9]; exact hP) (by rw [e9]; exact hD) hS (lv_sub hl [0, 1, 2] rfl)
                      · -- 141 -> 144
                        refine lv_iload_n hx hb dX1_change_144 rfl (lv_at hl 2 rfl) ?_
                        refine lv_iload hx hb dX1_change_145 (lv_at hl 0 rfl) ?_
                        refine kz_rS (As := [.int p0, .int (nI i)]) (rest := []) ⟨hx, hb, hml, hown, hw9⟩ (c_X1_has l hl9 D ((cI, .int) :: ty) (wM bd cI 0 it o p0 (nI (sm_kk xg xt i)) v r (sm_al nx mt fl pr ofs ak hd an) ++ rs) H.size p0 (nI i)) (kz_cS 2 hw9 mw_400 mw_401 mw_2 mw_402 rfl rfl (by decide +kernel) ⟨Nat.le_of_ble_eq_true rfl, Nat.le_of_ble_eq_true rfl⟩) (kz_preS hK hP hD hS hA hE) rfl hl.1 rfl (Nat.le_of_ble_eq_true rfl) dX1_change_147 ⟨Nat.le_of_ble_eq_true rfl, Nat.le_of_ble_eq_true rfl⟩ (fun _ _ _ _ h => False.elim h) (fun v9 H hv9 hO1 => ?_)
                        obtain ⟨_, rfl, rfl⟩ := hv9
                        have hP := hO1.P hP
                        have hS := hO1.S hS
                        refine W.eq (g2 := F0 m 150 ls [.int (sq_z (sm_h p0 (nI i)))]) rfl ?_
                        refine lv_if_eq (tgt := 166) hx hb dX1_change_150 (by decide) (fun c_54 => ?_) (fun c_54 => ?_)
                        · -- 150 -> 166
                          obtain ⟨v_55, ev_55⟩ : ∃ y : Int32, y = (nI i) + 1 := ⟨_, rfl⟩
                          refine lv_iinc (v := v_55) (lv' := [(4, .int v_55), (0, .ref (bd 0)), (1, .int p0)]) hx hb dX1_change_166 hl (k := 0) rfl (by rw [ev_55]; rfl) (by decide) rfl (fun ls hl => ?_)
                          refine lv_goto (tgt := 125) hx hb dX1_change_169 (by decide) ?_
                          obtain rfl : v_55 = nI (i + 1) := by rw [ev_55, nI_1]
                          have tg : sm_h (nI (sm_kk xg xt i)) (nI i) = (sm_kk xg xt i).testBit i := sm_has _ (sm_kkl hg8 i) i hi9
                          have tt : sm_h p0 (nI i) = xt.testBit i := by rw [et]; exact sm_has xt ht8 i hi9
                          have e9 : nI (sm_kk xg xt (i + 1)) = nI (sm_kk xg xt i) := sm_kkn hg8 hi9 (by simp [← tg, ← tt, c_51, (Int32.not_le.mp c_51), (sq_z_t c_52), (sq_z_f c_54)])
                          exact ih (i + 1) H locs ls (by omega) (by omega) (by rw [e9]; exact hP) (by rw [e9]; exact hD) hS (lv_sub hl [0, 1, 2] rfl)
                        · -- 150 -> 153
                          refine lv_aload_n hx hb dX1_change_153 rfl (lv_at hl 1 rfl) ?_
                          refine lv_dup hx hb dX1_change_154 rfl ?_
                          refine va_get (D := D) (ci := 1) (v := .int (nI (sm_kk xg xt i))) (C := RX1) (T := TX1) (N := 8) hx hb hw9 uX1 hown hK hP 0 rfl rfl 4 (by decide) (hw9 _ mw_364) (fun _ h9 => h9) rfl dX1_change_155 ?_
                          refine lv_iconst (v := 1) hx hb dX1_change_158 (by decide) ?_
                          refine lv_iload hx hb dX1_change_159 (lv_at hl 0 rfl) ?_
                          refine lv_ishl hx hb dX1_change_161 ?_
                          refine lv_isub hx hb dX1_change_162 ?_
                          refine va_put (D := D) (ci := 1) (v := .int (nI (sm_kk xg xt i) - (1 <<< ((nI i) &&& 31)))) (ty := .int) (C := RX1) (T := TX1) (N := 8) hx hb hw9 uX1 tyX1 tyX1_ok nmX1 hown hK hP hD hS 0 rfl rfl 4 (by decide) (hw9 _ mw_364) (fun _ h9 => h9) rfl (by decide +kernel) rfl rfl (Nat.le_of_ble_eq_true rfl) dX1_change_163 (fun H locs hP hD hS => ?_)
                          have hP : va_P D vwCl (wM bd cI 0 it o p0 (nI (sm_kk xg xt i) - (1 <<< ((nI i) &&& 31))) v r (sm_al nx mt fl pr ofs ak hd an) ++ rs) H := hP
                          have hD : va_D A (wM bd cI 0 it o p0 (nI (sm_kk xg xt i) - (1 <<< ((nI i) &&& 31))) v r (sm_al nx mt fl pr ofs ak hd an) ++ rs) := hD
                          obtain ⟨v_56, ev_56⟩ : ∃ y : Int32, y = (nI i) + 1 := ⟨_, rfl⟩
                          refine lv_iinc (v := v_56) (lv' := [(4, .int v_56), (0, .ref (bd 0)), (1, .int p0)]) hx hb dX1_change_166 hl (k := 0) rfl (by rw [ev_56]; rfl) (by decide) rfl (fun ls hl => ?_)
                          refine lv_goto (tgt := 125) hx hb dX1_change_169 (by decide) ?_
                          obtain rfl : v_56 = nI (i + 1) := by rw [ev_56, nI_1]
                          have tg : sm_h (nI (sm_kk xg xt i)) (nI i) = (sm_kk xg xt i).testBit i := sm_has _ (sm_kkl hg8 i) i hi9
                          have tt : sm_h p0 (nI i) = xt.testBit i := by rw [et]; exact sm_has xt ht8 i hi9
                          have e9 : nI (sm_kk xg xt (i + 1)) = (nI (sm_kk xg xt i) - (1 <<< ((nI i) &&& 31))) := sm_kky hg8 hi9 (by simp [← tg, ← tt, c_51, (Int32.not_le.mp c_51), (sq_z_t c_52), (sq_z_t c_54)])
                          exact ih (i + 1) H locs ls (by omega) (by omega) (by rw [e9]; exact hP) (by rw [e9]; exact hD) hS (lv_sub hl [0, 1, 2] rfl)
                exact loop2 8 0 _ _ ls (by decide) (by decide) (by rw [show sm_kk xg xt 0 = xg from rfl, ← eg]; exact hP) (by rw [show sm_kk xg xt 0 = xg from rfl, ← eg]; exact hD) hS (lv_sub hl [0, 2, 3] rfl)
              · -- 100 -> 103
                refine lv_aload_n hx hb dX1_change_103 rfl (lv_at hl 2 rfl) ?_
                refine lv_iload_n hx hb dX1_change_104 rfl (lv_at hl 1 rfl) ?_
                refine lv_if_eq (tgt := 112) hx hb dX1_change_105 (by decide) (fun c_57 => ?_) (fun c_57 => ?_)
                · -- 105 -> 112
                  exact absurd c_57 c_48
                · -- 105 -> 108
                  refine lv_iconst (v := 2) hx hb dX1_change_108 (by decide) ?_
                  refine lv_goto (tgt := 113) hx hb dX1_change_109 (by decide) ?_
                  refine va_put (D := D) (ci := 1) (v := .int 2) (ty := .int) (C := RX1) (T := TX1) (N := 8) hx hb hw9 uX1 tyX1 tyX1_ok nmX1 hown hK hP hD hS 0 rfl rfl 0 (by decide) (hw9 _ mw_360) (fun _ h9 => h9) rfl (by decide +kernel) rfl rfl (Nat.le_of_ble_eq_true rfl) dX1_change_113 (fun H locs hP hD hS => ?_)
                  have hP : va_P D vwCl (wM bd cI 2 it o n g v r (sm_al nx mt fl pr ofs ak hd an) ++ rs) H := hP
                  have hD : va_D A (wM bd cI 2 it o n g v r (sm_al nx mt fl pr ofs ak hd an) ++ rs) := hD
                  have htc : tc_change o n g mt p0 p1 = 2 := sm_tch2 hM (sq_z_t c_57) c_50
                  exact kz_wretv hx hb hr hlocks (by rw [htc]; exact hP) (by rw [htc]; exact hD) hS (Nat.le_of_ble_eq_true rfl) (Nat.le_of_ble_eq_true rfl) (trivial)  dX1_change_116
          · -- 29 -> 32
            have hi9 : i < 7 := kz_l7 h1 c_47
            have hc9 : (nI i).toNatClampNeg = i := nI_clamp (by omega)
            refine lv_iload_n hx hb dX1_change_32 rfl (lv_at hl 1 rfl) ?_
            refine lv_if_eq (tgt := 84) hx hb dX1_change_33 (by decide) (fun c_58 => ?_) (fun c_58 => ?_)
            · -- 33 -> 84
              refine lv_iconst (v := 0) hx hb dX1_change_84 (by decide) ?_
              refine lv_istore_n (lv' := [(3, .int 0), (4, .int (nI i)), (0, .ref (bd 0)), (1, .int p0), (2, .int p1)]) hx hb dX1_change_85 rfl hl (by decide) rfl (fun ls hl => ?_)
              obtain ⟨v_59, ev_59⟩ : ∃ y : Int32, y = (nI i) + 1 := ⟨_, rfl⟩
              refine lv_iinc (v := v_59) (lv' := [(4, .int v_59), (3, .int 0), (0, .ref (bd 0)), (1, .int p0), (2, .int p1)]) hx hb dX1_change_86 hl (k := 1) rfl (by rw [ev_59]; rfl) (by decide) rfl (fun ls hl => ?_)
              refine lv_goto (tgt := 25) hx hb dX1_change_89 (by decide) ?_
              obtain rfl : v_59 = nI (i + 1) := by rw [ev_59, nI_1]
              have e9 : sq_z (sm_gd p0 o g mt p1 (i + 1)) = 0 := by simp [sm_gd, sm_cd, sq_z, c_47, (Int32.not_le.mp c_47), (sq_z_f c_58)]
              exact ih (i + 1) H locs ls (by omega) (by omega) hP hD hS (by rw [e9]; exact lv_sub hl [0, 1, 2, 3, 4] rfl)
            · -- 33 -> 36
              refine lv_iload_n hx hb dX1_change_36 rfl (lv_at hl 3 rfl) ?_
              refine lv_iload hx hb dX1_change_37 (lv_at hl 0 rfl) ?_
              refine kz_rS (As := [.int p0, .int (nI i)]) (rest := []) ⟨hx, hb, hml, hown, hw9⟩ (c_X1_has l hl9 D ((cI, .int) :: ty) (wM bd cI 0 it o n g v r (sm_al nx mt fl pr ofs ak hd an) ++ rs) H.size p0 (nI i)) (kz_cS 2 hw9 mw_400 mw_401 mw_2 mw_402 rfl rfl (by decide +kernel) ⟨Nat.le_of_ble_eq_true rfl, Nat.le_of_ble_eq_true rfl⟩) (kz_preS hK hP hD hS hA hE) rfl hl.1 rfl (Nat.le_of_ble_eq_true rfl) dX1_change_39 ⟨Nat.le_of_ble_eq_true rfl, Nat.le_of_ble_eq_true rfl⟩ (fun _ _ _ _ h => False.elim h) (fun v9 H hv9 hO1 => ?_)
              obtain ⟨_, rfl, rfl⟩ := hv9
              have hP := hO1.P hP
              have hS := hO1.S hS
              refine W.eq (g2 := F0 m 42 ls [.int (sq_z (sm_h p0 (nI i)))]) rfl ?_
              refine lv_if_eq (tgt := 80) hx hb dX1_change_42 (by decide) (fun c_60 => ?_) (fun c_60 => ?_)
              · -- 42 -> 80
                refine lv_iconst (v := 1) hx hb dX1_change_80 (by decide) ?_
                refine lv_goto (tgt := 85) hx hb dX1_change_81 (by decide) ?_
                refine lv_istore_n (lv' := [(3, .int 1), (4, .int (nI i)), (0, .ref (bd 0)), (1, .int p0), (2, .int p1)]) hx hb dX1_change_85 rfl hl (by decide) rfl (fun ls hl => ?_)
                obtain ⟨v_61, ev_61⟩ : ∃ y : Int32, y = (nI i) + 1 := ⟨_, rfl⟩
                refine lv_iinc (v := v_61) (lv' := [(4, .int v_61), (3, .int 1), (0, .ref (bd 0)), (1, .int p0), (2, .int p1)]) hx hb dX1_change_86 hl (k := 1) rfl (by rw [ev_61]; rfl) (by decide) rfl (fun ls hl => ?_)
                refine lv_goto (tgt := 25) hx hb dX1_change_89 (by decide) ?_
                obtain rfl : v_61 = nI (i + 1) := by rw [ev_61, nI_1]
                have e9 : sq_z (sm_gd p0 o g mt p1 (i + 1)) = 1 := by simp [sm_gd, sm_cd, sq_z, c_47, (Int32.not_le.mp c_47), (sq_z_t c_58), (sq_z_f c_60)]
                exact ih (i + 1) H locs ls (by omega) (by omega) hP hD hS (by rw [e9]; exact lv_sub hl [0, 1, 2, 3, 4] rfl)
              · -- 42 -> 45
                refine lv_aload_n hx hb dX1_change_45 rfl (lv_at hl 2 rfl) ?_
                refine va_get (D := D) (ci := 1) (v := .int o) (C := RX1) (T := TX1) (N := 8) hx hb hw9 uX1 hown hK hP 0 rfl rfl 2 (by decide) (hw9 _ mw_362) (fun _ h9 => h9) rfl dX1_change_46 ?_
                refine lv_iload hx hb dX1_change_49 (lv_at hl 0 rfl) ?_
                refine kz_rS (As := [.int o, .int (nI i)]) (rest := []) ⟨hx, hb, hml, hown, hw9⟩ (c_X1_has l hl9 D ((cI, .int) :: ty) (wM bd cI 0 it o n g v r (sm_al nx mt fl pr ofs ak hd an) ++ rs) H.size o (nI i)) (kz_cS 2 hw9 mw_400 mw_401 mw_2 mw_402 rfl rfl (by decide +kernel) ⟨Nat.le_of_ble_eq_true rfl, Nat.le_of_ble_eq_true rfl⟩) (kz_preS hK hP hD hS hA hE) rfl hl.1 rfl (Nat.le_of_ble_eq_true rfl) dX1_change_51 ⟨Nat.le_of_ble_eq_true rfl, Nat.le_of_ble_eq_true rfl⟩ (fun _ _ _ _ h => False.elim h) (fun v9 H hv9 hO1 => ?_)
                obtain ⟨_, rfl, rfl⟩ := hv9
                have hP := hO1.P hP
                have hS := hO1.S hS
                refine W.eq (g2 := F0 m 54 ls [.int (sq_z (sm_h o (nI i)))]) rfl ?_
                refine lv_if_ne (tgt := 80) hx hb dX1_change_54 (by decide) (fun c_62 => ?_) (fun c_62 => ?_)
                · -- 54 -> 80
                  refine lv_iconst (v := 1) hx hb dX1_change_80 (by decide) ?_
                  refine lv_goto (tgt := 85) hx hb dX1_change_81 (by decide) ?_
                  refine lv_istore_n (lv' := [(3, .int 1), (4, .int (nI i)), (0, .ref (bd 0)), (1, .int p0), (2, .int p1)]) hx hb dX1_change_85 rfl hl (by decide) rfl (fun ls hl => ?_)
                  obtain ⟨v_63, ev_63⟩ : ∃ y : Int32, y = (nI i) + 1 := ⟨_, rfl⟩
                  refine lv_iinc (v := v_63) (lv' := [(4, .int v_63), (3, .int 1), (0, .ref (bd 0)), (1, .int p0), (2, .int p1)]) hx hb dX1_change_86 hl (k := 1) rfl (by rw [ev_63]; rfl) (by decide) rfl (fun ls hl => ?_)
                  refine lv_goto (tgt := 25) hx hb dX1_change_89 (by decide) ?_
                  obtain rfl : v_63 = nI (i + 1) := by rw [ev_63, nI_1]
                  have e9 : sq_z (sm_gd p0 o g mt p1 (i + 1)) = 1 := by simp [sm_gd, sm_cd, sq_z, c_47, (Int32.not_le.mp c_47), (sq_z_t c_58), (sq_z_t c_60), (sq_z_t c_62)]
                  exact ih (i + 1) H locs ls (by omega) (by omega) hP hD hS (by rw [e9]; exact lv_sub hl [0, 1, 2, 3, 4] rfl)
                · -- 54 -> 57
                  refine lv_aload_n hx hb dX1_change_57 rfl (lv_at hl 2 rfl) ?_
                  refine va_get (D := D) (ci := 1) (v := .int g) (C := RX1) (T := TX1) (N := 8) hx hb hw9 uX1 hown hK hP 0 rfl rfl 4 (by decide) (hw9 _ mw_364) (fun _ h9 => h9) rfl dX1_change_58 ?_
                  refine lv_iload hx hb dX1_change_61 (lv_at hl 0 rfl) ?_
                  refine kz_rS (As := [.int g, .int (nI i)]) (rest := []) ⟨hx, hb, hml, hown, hw9⟩ (c_X1_has l hl9 D ((cI, .int) :: ty) (wM bd cI 0 it o n g v r (sm_al nx mt fl pr ofs ak hd an) ++ rs) H.size g (nI i)) (kz_cS 2 hw9 mw_400 mw_401 mw_2 mw_402 rfl rfl (by decide +kernel) ⟨Nat.le_of_ble_eq_true rfl, Nat.le_of_ble_eq_true rfl⟩) (kz_preS hK hP hD hS hA hE) rfl hl.1 rfl (Nat.le_of_ble_eq_true rfl) dX1_change_63 ⟨Nat.le_of_ble_eq_true rfl, Nat.le_of_ble_eq_true rfl⟩ (fun _ _ _ _ h => False.elim h) (fun v9 H hv9 hO1 => ?_)
                  obtain ⟨_, rfl, rfl⟩ := hv9
                  have hP := hO1.P hP
                  have hS := hO1.S hS
                  refine W.eq (g2 := F0 m 66 ls [.int (sq_z (sm_h g (nI i)))]) rfl ?_
                  refine lv_if_eq (tgt := 84) hx hb dX1_change_66 (by decide) (fun c_64 => ?_) (fun c_64 => ?_)
                  · -- 66 -> 84
                    refine lv_iconst (v := 0) hx hb dX1_change_84 (by decide) ?_
                    refine lv_istore_n (lv' := [(3, .int 0), (4, .int (nI i)), (0, .ref (bd 0)), (1, .int p0), (2, .int p1)]) hx hb dX1_change_85 rfl hl (by decide) rfl (fun ls hl => ?_)
                    obtain ⟨v_65, ev_65⟩ : ∃ y : Int32, y = (nI i) + 1 := ⟨_, rfl⟩
                    refine lv_iinc (v := v_65) (lv' := [(4, .int v_65), (3, .int 0), (0, .ref (bd 0)), (1, .int p0), (2, .int p1)]) hx hb dX1_change_86 hl (k := 1) rfl (by rw [ev_65]; rfl) (by decide) rfl (fun ls hl => ?_)
                    refine lv_goto (tgt := 25) hx hb dX1_change_89 (by decide) ?_
                    obtain rfl : v_65 = nI (i + 1) := by rw [ev_65, nI_1]
                    have e9 : sq_z (sm_gd p0 o g mt p1 (i + 1)) = 0 := by simp [sm_gd, sm_cd, sq_z, c_47, (Int32.not_le.mp c_47), (sq_z_t c_58), (sq_z_t c_60), (sq_z_f c_62), (sq_z_f c_64)]
                    exact ih (i + 1) H locs ls (by omega) (by omega) hP hD hS (by rw [e9]; exact lv_sub hl [0, 1, 2, 3, 4] rfl)
                  · -- 66 -> 69
                    refine lv_aload_n hx hb dX1_change_69 rfl (lv_at hl 2 rfl) ?_
                    refine lv_iload hx hb dX1_change_70 (lv_at hl 0 rfl) ?_
                    refine lv_iconst (v := 1) hx hb dX1_change_72 (by decide) ?_
                    refine kz_rV (As := [.int (nI i), .int 1]) (rest := []) ⟨hx, hb, hml, hown, hw9⟩ (c_X1_get l hl9 D cI ty bd rs H.size 0 it o n g v r (sm_al nx mt fl pr ofs ak hd an) i 1 (nI i) 1 hi9 (by decide) rfl rfl) (kz_cV 2 hw9 mw_403 mw_405 ms_11 mw_2 mw_406 rfl rfl (by decide +kernel) ⟨Nat.le_of_ble_eq_true rfl, Nat.le_of_ble_eq_true rfl⟩) (kz_preV (q0 := 0) (ci := 1) hK hP hD hS hA hE rfl rfl) rfl hl.1 rfl (Nat.le_of_ble_eq_true rfl) dX1_change_73 ⟨Nat.le_of_ble_eq_true rfl, Nat.le_of_ble_eq_true rfl⟩ (fun _ _ _ _ h => False.elim h) (fun v9 H hv9 hO1 => ?_)
                    obtain ⟨_, rfl, rfl⟩ := hv9
                    have hP := hO1.P hP
                    have hS := hO1.S hS
                    rw [sm_g1]
                    refine W.eq (g2 := F0 m 76 ls [.int (mt i)]) rfl ?_
                    refine lv_iload_n hx hb dX1_change_76 rfl (lv_at hl 4 rfl) ?_
                    refine lv_icmp_lt (tgt := 84) hx hb dX1_change_77 (by decide) (fun c_66 => ?_) (fun c_66 => ?_)
                    · -- 77 -> 84
                      refine lv_iconst (v := 0) hx hb dX1_change_84 (by decide) ?_
                      refine lv_istore_n (lv' := [(3, .int 0), (4, .int (nI i)), (0, .ref (bd 0)), (1, .int p0), (2, .int p1)]) hx hb dX1_change_85 rfl hl (by decide) rfl (fun ls hl => ?_)
                      obtain ⟨v_67, ev_67⟩ : ∃ y : Int32, y = (nI i) + 1 := ⟨_, rfl⟩
                      refine lv_iinc (v := v_67) (lv' := [(4, .int v_67), (3, .int 0), (0, .ref (bd 0)), (1, .int p0), (2, .int p1)]) hx hb dX1_change_86 hl (k := 1) rfl (by rw [ev_67]; rfl) (by decide) rfl (fun ls hl => ?_)
                      refine lv_goto (tgt := 25) hx hb dX1_change_89 (by decide) ?_
                      obtain rfl : v_67 = nI (i + 1) := by rw [ev_67, nI_1]
                      have e9 : sq_z (sm_gd p0 o g mt p1 (i + 1)) = 0 := by simp [sm_gd, sm_cd, sq_z, c_47, (Int32.not_le.mp c_47), (sq_z_t c_58), (sq_z_t c_60), (sq_z_f c_62), (sq_z_t c_64), c_66, (Int32.not_le.mpr c_66)]
                      exact ih (i + 1) H locs ls (by omega) (by omega) hP hD hS (by rw [e9]; exact lv_sub hl [0, 1, 2, 3, 4] rfl)
                    · -- 77 -> 80
                      refine lv_iconst (v := 1) hx hb dX1_change_80 (by decide) ?_
                      refine lv_goto (tgt := 85) hx hb dX1_change_81 (by decide) ?_
                      refine lv_istore_n (lv' := [(3, .int 1), (4, .int (nI i)), (0, .ref (bd 0)), (1, .int p0), (2, .int p1)]) hx hb dX1_change_85 rfl hl (by decide) rfl (fun ls hl => ?_)
                      obtain ⟨v_68, ev_68⟩ : ∃ y : Int32, y = (nI i) + 1 := ⟨_, rfl⟩
                      refine lv_iinc (v := v_68) (lv' := [(4, .int v_68), (3, .int 1), (0, .ref (bd 0)), (1, .int p0), (2, .int p1)]) hx hb dX1_change_86 hl (k := 1) rfl (by rw [ev_68]; rfl) (by decide) rfl (fun ls hl => ?_)
                      refine lv_goto (tgt := 25) hx hb dX1_change_89 (by decide) ?_
                      obtain rfl : v_68 = nI (i + 1) := by rw [ev_68, nI_1]
                      have e9 : sq_z (sm_gd p0 o g mt p1 (i + 1)) = 1 := by simp [sm_gd, sm_cd, sq_z, c_47, (Int32.not_le.mp c_47), (sq_z_t c_58), (sq_z_t c_60), (sq_z_f c_62), (sq_z_t c_64), c_66, (Int32.not_lt.mp c_66)]
                      exact ih (i + 1) H locs ls (by omega) (by omega) hP hD hS (by rw [e9]; exact lv_sub hl [0, 1, 2, 3, 4] rfl)
      have e0 : sq_z (sm_gd p0 o g mt p1 0) = 1 := by simp [sm_gd, sq_z, (sq_z_t c_1), c_24, (Int32.not_le.mp c_24)]
      exact loop 8 0 _ _ ls (by decide) (by decide) hP hD hS (by rw [e0]; exact lv_sub hl [0, 1, 2, 3, 4] rfl)
