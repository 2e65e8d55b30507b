set_option maxHeartbeats 4000000 in
set_option maxRecDepth 100000 in
theorem c_X0_thoseWithAtLeast (l : Launch) (hl9 : l.stackTraces = false) (D : va_G) (tys : kz_Y) (ws : va_W) (sz : Nat) (cA : ClassId) (f : Nat → Int32) (q0 t0 : Nat) (a0 : Nat) (p1 : Int32) (hq : ws[q0]? = some (a0, .inl (cA, 7, .inl f))) (ht : tys[t0]? = some (cA, .int)) : ez_M l yX0_thoseWithAtLeast wsX0_thoseWithAtLeast ({ frames := 0, cells := 1, slots := 6, locals := 0 } : Room) (kz_P D tys ws sz [.ref a0, .int p1]) (kz_Ro (kz_i (fun r9 => r9 = (sq_L f p1 7)))) (kz_T (fun _ => IAE) (fun _ => False)) 0 0 (fun _ => False) := by
  refine ez_ofW (cc := cX0_thoseWithAtLeast) (maxL := 4) (ret := (some .int)) (by decide) rfl ?_
  intro p e s m args below meth c s₁ B hml hTab hv
  obtain ⟨rfl, hsz, hP, hK, hD0, hE⟩ := hv
  have hx := B.exec
  have hb := B.bytes
  have hr := B.returns
  have hw9 : ∀ w ∈ kz_W9, w.before ([.ref a0, .int p1] : List Value).toArray s = true := fun w h => atoms_spec (ws := wsX0_thoseWithAtLeast) B.pre w (List.mem_cons_of_mem _ h)
  have hown : s.vm.findClass RX0 = some m.cls := findClass_of_methodNamed B.named
  have hlocks := B.notSynchronized
  subst hsz
  have hD := hD0.self (sz := s.heap.size)
  generalize hAe : va_A ws s.heap.size = A at hD hE
  have hA : ∀ q : Nat, s.heap.size ≤ q → A q := fun q h => by rw [← hAe]; exact Or.inr h
  have hS : va_S A s.heap s.heap [] := va_S.rf
  have hO : kz_O s.heap s.heap := kz_O.rf _
  have hl := lv_entry ([.ref a0, .int p1]) (n := 4) (Nat.le_of_ble_eq_true rfl)
  rw [lg_entry_eq]
  generalize (lg_sl ([.ref a0, .int p1]) ++ List.replicate (4 - (lg_sl ([.ref a0, .int p1])).length) Slot.unset).toArray = ls at hl ⊢
  have hl : lv_has ls 4 [(0, .ref a0), (1, .int p1)] := hl
  refine lv_iconst (v := 0) hx hb dX0_thoseWithAtLeast_0 (by decide) ?_
  refine lv_istore_n (lv' := [(2, .int 0), (0, .ref a0), (1, .int p1)]) hx hb dX0_thoseWithAtLeast_1 rfl hl (by decide) rfl (fun ls hl => ?_)
  refine lv_iconst (v := 0) hx hb dX0_thoseWithAtLeast_2 (by decide) ?_
  refine lv_istore_n (lv' := [(3, .int 0), (2, .int 0), (0, .ref a0), (1, .int p1)]) hx hb dX0_thoseWithAtLeast_3 rfl hl (by decide) rfl (fun ls hl => ?_)
  have loop : ∀ (k i : Nat) (ls : Array Slot), i ≤ 7 → 7 < i + k → lv_has ls 4 [(3, .int (nI i)), (2, .int (sq_L f p1 i)), (0, .ref a0), (1, .int p1)] → W p l e (headSpec wsX0_thoseWithAtLeast ({ frames := 0, cells := 1, slots := 6, locals := 0 } : Room)).room s m ([.ref a0, .int p1] : List Value).toArray below meth c s.heap [] 0 0 (ez_MQ below (kz_Ro (kz_i (fun r9 => r9 = (sq_L f p1 7)))) (kz_T (fun _ => IAE) (fun _ => False)) s 0 0 (fun _ => False)) (F0 m 4 ls []) := by
    intro k
    induction k with
    | zero => intro i ls h1 h2; omega
    | succ k ih =>
      intro i ls h1 h2 hl
      refine lv_iload_n hx hb dX0_thoseWithAtLeast_4 rfl (lv_at hl 0 rfl) ?_
      refine lv_aload_n hx hb dX0_thoseWithAtLeast_5 rfl (lv_at hl 2 rfl) ?_
      refine va_alen (v := 7) hx hb hK hP q0 t0 hq ht rfl dX0_thoseWithAtLeast_6 ?_
      refine lv_icmp_ge (tgt := 29) hx hb dX0_thoseWithAtLeast_7 (by decide) (fun c_1 => ?_) (fun c_1 => ?_)
      · -- 7 -> 29
        refine lv_iload_n hx hb dX0_thoseWithAtLeast_29 rfl (lv_at hl 1 rfl) ?_
        exact kz_reti hx hb hr hlocks hO (by rw [show i = 7 from kz_i7 h1 c_1])  dX0_thoseWithAtLeast_30
      · -- 7 -> 10
        have hi9 : i < 7 := kz_l7 h1 c_1
        have hc9 : (nI i).toNatClampNeg = i := nI_clamp (by omega)
        refine lv_aload_n hx hb dX0_thoseWithAtLeast_10 rfl (lv_at hl 2 rfl) ?_
        refine lv_iload_n hx hb dX0_thoseWithAtLeast_11 rfl (lv_at hl 0 rfl) ?_
        refine va_iald hx hb hK hP q0 t0 hq ht (vp_in_nI hi9 (by decide)) dX0_thoseWithAtLeast_12 ?_
        rw [hc9]
        refine lv_iload_n hx hb dX0_thoseWithAtLeast_13 rfl (lv_at hl 3 rfl) ?_
        refine lv_icmp_lt (tgt := 23) hx hb dX0_thoseWithAtLeast_14 (by decide) (fun c_2 => ?_) (fun c_2 => ?_)
        · -- 14 -> 23
          obtain ⟨v_3, ev_3⟩ : ∃ y : Int32, y = (nI i) + 1 := ⟨_, rfl⟩
          refine lv_iinc (v := v_3) (lv' := [(3, .int v_3), (2, .int (sq_L f p1 i)), (0, .ref a0), (1, .int p1)]) hx hb dX0_thoseWithAtLeast_23 hl (k := 0) rfl (by rw [ev_3]; rfl) (by decide) rfl (fun ls hl => ?_)
          refine lv_goto (tgt := 4) hx hb dX0_thoseWithAtLeast_26 (by decide) ?_
          obtain rfl : v_3 = nI (i + 1) := by rw [ev_3, nI_1]
          have e9 : sq_L f p1 (i + 1) = (sq_L f p1 i) := by show (if p1 ≤ f i then _ else _) = _; rw [if_neg (Int32.not_le.mpr c_2)]
          exact ih (i + 1) ls (by omega) (by omega) (by rw [e9]; exact lv_sub hl [0, 1, 2, 3] rfl)
        · -- 14 -> 17
          refine lv_iload_n hx hb dX0_thoseWithAtLeast_17 rfl (lv_at hl 1 rfl) ?_
          refine lv_iconst (v := 1) hx hb dX0_thoseWithAtLeast_18 (by decide) ?_
          refine lv_iload_n hx hb dX0_thoseWithAtLeast_19 rfl (lv_at hl 0 rfl) ?_
          refine lv_ishl hx hb dX0_thoseWithAtLeast_20 ?_
          refine lv_ior hx hb dX0_thoseWithAtLeast_21 ?_
          refine lv_istore_n (lv' := [(2, .int ((sq_L f p1 i) ||| (1 <<< ((nI i) &&& 31)))), (3, .int (nI i)), (0, .ref a0), (1, .int p1)]) hx hb dX0_thoseWithAtLeast_22 rfl hl (by decide) rfl (fun ls hl => ?_)
          obtain ⟨v_4, ev_4⟩ : ∃ y : Int32, y = (nI i) + 1 := ⟨_, rfl⟩
          refine lv_iinc (v := v_4) (lv' := [(3, .int v_4), (2, .int ((sq_L f p1 i) ||| (1 <<< ((nI i) &&& 31)))), (0, .ref a0), (1, .int p1)]) hx hb dX0_thoseWithAtLeast_23 hl (k := 1) rfl (by rw [ev_4]; rfl) (by decide) rfl (fun ls hl => ?_)
          refine lv_goto (tgt := 4) hx hb dX0_thoseWithAtLeast_26 (by decide) ?_
          obtain rfl : v_4 = nI (i + 1) := by rw [ev_4, nI_1]
          have e9 : sq_L f p1 (i + 1) = ((sq_L f p1 i) ||| (1 <<< ((nI i) &&& 31))) := by show (if p1 ≤ f i then _ else _) = _; rw [if_pos (Int32.not_lt.mp c_2)]; rfl
          exact ih (i + 1) ls (by omega) (by omega) (by rw [e9]; exact lv_sub hl [0, 1, 2, 3] rfl)
  exact loop 8 0 ls (by decide) (by decide) (lv_sub hl [0, 1, 2, 3] rfl)
set_option maxHeartbeats 4000000 in
set_option maxRecDepth 100000 in
theorem c_X0_isMajority (l : Launch) (hl9 : l.stackTraces = false) (D : va_G) (cI cZ : ClassId) (ty : kz_Y) (ad : Nat → Nat) (rs : va_W) (sz : Nat) (it o n g v r : Int32) (nx mt fl pr ofs ak hd an : Nat → Int32) (p0 : Int32) : ez_M l yX0_isMajority wsX0_isMajority ({ frames := 2, cells := 1, slots := 6, locals := 41 } : Room) (kz_P D ((cI, .int) :: (cZ, .boolean) :: ty) (wX ad cI cZ it o n g v r nx mt fl pr ofs ak hd an ++ rs) sz [.ref (ad 0), .int p0]) (kz_Ro (kz_i (fun r9 => r9 = (sq_z (sq_M o n p0))))) (kz_T (fun _ => IAE) (fun _ => False)) 0 0 (fun _ => False) := by
  refine ez_ofW (cc := cX0_isMajority) (maxL := 2) (ret := (some .boolean)) (by decide) rfl ?_
  intro p e s m args below meth c s₁ B hml hTab hv
  obtain ⟨rfl, hsz, hP, hK, hD0, hE⟩ := hv
  have hx := B.exec
  have hb := B.bytes
  have hr := B.returns
  have hw9 : ∀ w ∈ kz_W9, w.before ([.ref (ad 0), .int p0] : List Value).toArray s = true := fun w h => atoms_spec (ws := wsX0_isMajority) B.pre w (List.mem_cons_of_mem _ h)
  have hown : s.vm.findClass RX0 = some m.cls := findClass_of_methodNamed B.named
  have hlocks := B.notSynchronized
  subst hsz
  have hD := hD0.self (sz := s.heap.size)
  generalize hAe : va_A (wX ad cI cZ it o n g v r nx mt fl pr ofs ak hd an ++ rs) s.heap.size = A at hD hE
  have hA : ∀ q : Nat, s.heap.size ≤ q → A q := fun q h => by rw [← hAe]; exact Or.inr h
  have hS : va_S A s.heap s.heap [] := va_S.rf
  have hO : kz_O s.heap s.heap := kz_O.rf _
  have hl := lv_entry ([.ref (ad 0), .int p0]) (n := 2) (Nat.le_of_ble_eq_true rfl)
  rw [lg_entry_eq]
  generalize (lg_sl ([.ref (ad 0), .int p0]) ++ List.replicate (2 - (lg_sl ([.ref (ad 0), .int p0])).length) Slot.unset).toArray = ls at hl ⊢
  have hl : lv_has ls 2 [(0, .ref (ad 0)), (1, .int p0)] := hl
  refine lv_iload_n hx hb dX0_isMajority_0 rfl (lv_at hl 1 rfl) ?_
  refine lv_aload_n hx hb dX0_isMajority_1 rfl (lv_at hl 0 rfl) ?_
  refine va_get (D := D) (ci := 0) (v := .int o) (C := RX0) (T := TX0) (N := 14) hx hb hw9 uX0 hown hK hP 0 rfl rfl 1 (by decide) (hw9 _ mw_20) (fun _ h9 => h9) rfl dX0_isMajority_2 ?_
  refine kz_rS (As := [.int p0, .int o]) (rest := []) ⟨hx, hb, hml, hown, hw9⟩ (c_X0_isMoreThanHalf l hl9 D ((cI, .int) :: (cZ, .boolean) :: ty) (wX ad cI cZ it o n g v r nx mt fl pr ofs ak hd an ++ rs) s.heap.size p0 o) (kz_cS 2 hw9 mw_223 mw_224 mw_1 mw_225 rfl rfl (by decide +kernel) ⟨Nat.le_of_ble_eq_true rfl, Nat.le_of_ble_eq_true rfl⟩) (kz_preS hK hP hD hS hA hE) rfl hl.1 rfl (Nat.le_of_ble_eq_true rfl) dX0_isMajority_5 ⟨Nat.le_of_ble_eq_true rfl, Nat.le_of_ble_eq_true rfl⟩ (fun _ _ _ _ h => False.elim h) (fun v9 H hv9 hO1 => ?_)
  obtain ⟨_, rfl, rfl⟩ := hv9
  have hP := hO1.P hP
  have hS := hO1.S hS
  have hO := hO.tr hO1
  refine W.eq (g2 := F0 m 8 ls [.int (sq_z (sq_H p0 o))]) rfl ?_
  refine lv_if_eq (tgt := 33) hx hb dX0_isMajority_8 (by decide) (fun c_1 => ?_) (fun c_1 => ?_)
  · -- 8 -> 33
    refine lv_iconst (v := 0) hx hb dX0_isMajority_33 (by decide) ?_
    exact kz_retz hx hb hr hlocks hO (by first | (simp [sq_z, sq_M, (sq_z_f c_1)]; done) | (simp only [sq_z, sq_M, (sq_z_f c_1), eq_self, not_true_eq_false, not_false_eq_true, and_self, and_true, true_and, and_false, false_and, or_true, true_or, or_false, false_or, if_true, if_false, ite_true, ite_false, Bool.and_eq_true, decide_true, decide_false, decide_eq_true_eq, ne_eq, Nat.reduceEqDiff, Nat.one_ne_zero, Bool.false_eq_true, reduceCtorEq]; done) | (simp only [sq_z, sq_M, (sq_z_f c_1), eq_self, not_true_eq_false, not_false_eq_true, and_self, and_true, true_and, and_false, false_and, or_true, true_or, or_false, false_or, if_true, if_false, ite_true, ite_false, Bool.and_eq_true, decide_true, decide_false, decide_eq_true_eq, ne_eq, Nat.reduceEqDiff, Nat.one_ne_zero, Bool.false_eq_true, reduceCtorEq]; decide)) rfl dX0_isMajority_34
  · -- 8 -> 11
    refine lv_aload_n hx hb dX0_isMajority_11 rfl (lv_at hl 0 rfl) ?_
    refine va_get (D := D) (ci := 0) (v := .int n) (C := RX0) (T := TX0) (N := 14) hx hb hw9 uX0 hown hK hP 0 rfl rfl 2 (by decide) (hw9 _ mw_21) (fun _ h9 => h9) rfl dX0_isMajority_12 ?_
    refine lv_if_eq (tgt := 29) hx hb dX0_isMajority_15 (by decide) (fun c_2 => ?_) (fun c_2 => ?_)
    · -- 15 -> 29
      refine lv_iconst (v := 1) hx hb dX0_isMajority_29 (by decide) ?_
      refine lv_goto (tgt := 34) hx hb dX0_isMajority_30 (by decide) ?_
      exact kz_retz hx hb hr hlocks hO (by first | (simp [sq_z, sq_M, (sq_z_t c_1), c_2]; done) | (simp only [sq_z, sq_M, (sq_z_t c_1), c_2, eq_self, not_true_eq_false, not_false_eq_true, and_self, and_true, true_and, and_false, false_and, or_true, true_or, or_false, false_or, if_true, if_false, ite_true, ite_false, Bool.and_eq_true, decide_true, decide_false, decide_eq_true_eq, ne_eq, Nat.reduceEqDiff, Nat.one_ne_zero, Bool.false_eq_true, reduceCtorEq]; done) | (simp only [sq_z, sq_M, (sq_z_t c_1), c_2, eq_self, not_true_eq_false, not_false_eq_true, and_self, and_true, true_and, and_false, false_and, or_true, true_or, or_false, false_or, if_true, if_false, ite_true, ite_false, Bool.and_eq_true, decide_true, decide_false, decide_eq_true_eq, ne_eq, Nat.reduceEqDiff, Nat.one_ne_zero, Bool.false_eq_true, reduceCtorEq]; decide)) rfl dX0_isMajority_34
    · -- 15 -> 18
      refine lv_iload_n hx hb dX0_isMajority_18 rfl (lv_at hl 1 rfl) ?_
      refine lv_aload_n hx hb dX0_isMajority_19 rfl (lv_at hl 0 rfl) ?_
      refine va_get (D := D) (ci := 0) (v := .int n) (C := RX0) (T := TX0) (N := 14) hx hb hw9 uX0 hown hK hP 0 rfl rfl 2 (by decide) (hw9 _ mw_21) (fun _ h9 => h9) rfl dX0_isMajority_20 ?_
      refine kz_rS (As := [.int p0, .int n]) (rest := []) ⟨hx, hb, hml, hown, hw9⟩ (c_X0_isMoreThanHalf l hl9 D ((cI, .int) :: (cZ, .boolean) :: ty) (wX ad cI cZ it o n g v r nx mt fl pr ofs ak hd an ++ rs) H.size p0 n) (kz_cS 2 hw9 mw_223 mw_224 mw_1 mw_225 rfl rfl (by decide +kernel) ⟨Nat.le_of_ble_eq_true rfl, Nat.le_of_ble_eq_true rfl⟩) (kz_preS hK hP hD hS hA hE) rfl hl.1 rfl (Nat.le_of_ble_eq_true rfl) dX0_isMajority_23 ⟨Nat.le_of_ble_eq_true rfl, Nat.le_of_ble_eq_true rfl⟩ (fun _ _ _ _ h => False.elim h) (fun v9 H hv9 hO1 => ?_)
      obtain ⟨_, rfl, rfl⟩ := hv9
      have hP := hO1.P hP
      have hS := hO1.S hS
      have hO := hO.tr hO1
      refine W.eq (g2 := F0 m 26 ls [.int (sq_z (sq_H p0 n))]) rfl ?_
      refine lv_if_eq (tgt := 33) hx hb dX0_isMajority_26 (by decide) (fun c_3 => ?_) (fun c_3 => ?_)
      · -- 26 -> 33
        refine lv_iconst (v := 0) hx hb dX0_isMajority_33 (by decide) ?_
        exact kz_retz hx hb hr hlocks hO (by first | (simp [sq_z, sq_M, (sq_z_t c_1), c_2, (sq_z_f c_3)]; done) | (simp only [sq_z, sq_M, (sq_z_t c_1), c_2, (sq_z_f c_3), eq_self, not_true_eq_false, not_false_eq_true, and_self, and_true, true_and, and_false, false_and, or_true, true_or, or_false, false_or, if_true, if_false, ite_true, ite_false, Bool.and_eq_true, decide_true, decide_false, decide_eq_true_eq, ne_eq, Nat.reduceEqDiff, Nat.one_ne_zero, Bool.false_eq_true, reduceCtorEq]; done) | (simp only [sq_z, sq_M, (sq_z_t c_1), c_2, (sq_z_f c_3), eq_self, not_true_eq_false, not_false_eq_true, and_self, and_true, true_and, and_false, false_and, or_true, true_or, or_false, false_or, if_true, if_false, ite_true, ite_false, Bool.and_eq_true, decide_true, decide_false, decide_eq_true_eq, ne_eq, Nat.reduceEqDiff, Nat.one_ne_zero, Bool.false_eq_true, reduceCtorEq]; decide)) rfl dX0_isMajority_34
      · -- 26 -> 29
        refine lv_iconst (v := 1) hx hb dX0_isMajority_29 (by decide) ?_
        refine lv_goto (tgt := 34) hx hb dX0_isMajority_30 (by decide) ?_
        exact kz_retz hx hb hr hlocks hO (by first | (simp [sq_z, sq_M, (sq_z_t c_1), c_2, (sq_z_t c_3)]; done) | (simp only [sq_z, sq_M, (sq_z_t c_1), c_2, (sq_z_t c_3), eq_self, not_true_eq_false, not_false_eq_true, and_self, and_true, true_and, and_false, false_and, or_true, true_or, or_false, false_or, if_true, if_false, ite_true, ite_false, Bool.and_eq_true, decide_true, decide_false, decide_eq_true_eq, ne_eq, Nat.reduceEqDiff, Nat.one_ne_zero, Bool.false_eq_true, reduceCtorEq]; done) | (simp only [sq_z, sq_M, (sq_z_t c_1), c_2, (sq_z_t c_3), eq_self, not_true_eq_false, not_false_eq_true, and_self, and_true, true_and, and_false, false_and, or_true, true_or, or_false, false_or, if_true, if_false, ite_true, ite_false, Bool.and_eq_true, decide_true, decide_false, decide_eq_true_eq, ne_eq, Nat.reduceEqDiff, Nat.one_ne_zero, Bool.false_eq_true, reduceCtorEq]; decide)) rfl dX0_isMajority_34
set_option maxHeartbeats 4000000 in
set_option maxRecDepth 100000 in
theorem c_X0_voterSet (l : Launch) (hl9 : l.stackTraces = false) (D : va_G) (cI cZ : ClassId) (ty : kz_Y) (ad : Nat → Nat) (rs : va_W) (sz : Nat) (it o n g v r : Int32) (nx mt fl pr ofs ak hd an : Nat → Int32) : ez_M l yX0_voterSet wsX0_voterSet ({ frames := 0, cells := 1, slots := 6, locals := 0 } : Room) (kz_P D ((cI, .int) :: (cZ, .boolean) :: ty) (wX ad cI cZ it o n g v r nx mt fl pr ofs ak hd an ++ rs) sz [.ref (ad 0)]) (kz_Ro (kz_i (fun r9 => r9 = (o ||| n)))) (kz_T (fun _ => IAE) (fun _ => False)) 0 0 (fun _ => False) := by
  refine ez_ofW (cc := cX0_voterSet) (maxL := 1) (ret := (some .int)) (by decide) rfl ?_
  intro p e s m args below meth c s₁ B hml hTab hv
  obtain ⟨rfl, hsz, hP, hK, hD0, hE⟩ := hv
  have hx := B.exec
  have hb := B.bytes
  have hr := B.returns
  have hw9 : ∀ w ∈ kz_W9, w.before ([.ref (ad 0)] : List Value).toArray s = true := fun w h => atoms_spec (ws := wsX0_voterSet) B.pre w (List.mem_cons_of_mem _ h)
  have hown : s.vm.findClass RX0 = some m.cls := findClass_of_methodNamed B.named
  have hlocks := B.notSynchronized
  subst hsz
  have hD := hD0.self (sz := s.heap.size)
  generalize hAe : va_A (wX ad cI cZ it o n g v r nx mt fl pr ofs ak hd an ++ rs) s.heap.size = A at hD hE
  have hA : ∀ q : Nat, s.heap.size ≤ q → A q := fun q h => by rw [← hAe]; exact Or.inr h
  have hS : va_S A s.heap s.heap [] := va_S.rf
  have hO : kz_O s.heap s.heap := kz_O.rf _
  have hl := lv_entry ([.ref (ad 0)]) (n := 1) (Nat.le_of_ble_eq_true rfl)
  rw [lg_entry_eq]
  generalize (lg_sl ([.ref (ad 0)]) ++ List.replicate (1 - (lg_sl ([.ref (ad 0)])).length) Slot.unset).toArray = ls at hl ⊢
  have hl : lv_has ls 1 [(0, .ref (ad 0))] := hl
  refine lv_aload_n hx hb dX0_voterSet_0 rfl (lv_at hl 0 rfl) ?_
  refine va_get (D := D) (ci := 0) (v := .int o) (C := RX0) (T := TX0) (N := 14) hx hb hw9 uX0 hown hK hP 0 rfl rfl 1 (by decide) (hw9 _ mw_20) (fun _ h9 => h9) rfl dX0_voterSet_1 ?_
  refine lv_aload_n hx hb dX0_voterSet_4 rfl (lv_at hl 0 rfl) ?_
  refine va_get (D := D) (ci := 0) (v := .int n) (C := RX0) (T := TX0) (N := 14) hx hb hw9 uX0 hown hK hP 0 rfl rfl 2 (by decide) (hw9 _ mw_21) (fun _ h9 => h9) rfl dX0_voterSet_5 ?_
  refine lv_ior hx hb dX0_voterSet_8 ?_
  exact kz_reti hx hb hr hlocks hO (rfl)  dX0_voterSet_9
set_option maxHeartbeats 4000000 in
set_option maxRecDepth 100000 in
theorem c_X0_peerSet (l : Launch) (hl9 : l.stackTraces = false) (D : va_G) (cI cZ : ClassId) (ty : kz_Y) (ad : Nat → Nat) (rs : va_W) (sz : Nat) (it o n g v r : Int32) (nx mt fl pr ofs ak hd an : Nat → Int32) : ez_M l yX0_peerSet wsX0_peerSet ({ frames := 1, cells := 1, slots := 6, locals := 20 } : Room) (kz_P D ((cI, .int) :: (cZ, .boolean) :: ty) (wX ad cI cZ it o n g v r nx mt fl pr ofs ak hd an ++ rs) sz [.ref (ad 0)]) (kz_Ro (kz_i (fun r9 => r9 = (sq_P it o n g)))) (kz_T (fun _ => IAE) (fun _ => False)) 0 0 (fun _ => False) := by
  refine ez_ofW (cc := cX0_peerSet) (maxL := 1) (ret := (some .int)) (by decide) rfl ?_
  intro p e s m args below meth c s₁ B hml hTab hv
  obtain ⟨rfl, hsz, hP, hK, hD0, hE⟩ := hv
  have hx := B.exec
  have hb := B.bytes
  have hr := B.returns
  have hw9 : ∀ w ∈ kz_W9, w.before ([.ref (ad 0)] : List Value).toArray s = true := fun w h => atoms_spec (ws := wsX0_peerSet) B.pre w (List.mem_cons_of_mem _ h)
  have hown : s.vm.findClass RX0 = some m.cls := findClass_of_methodNamed B.named
  have hlocks := B.notSynchronized
  subst hsz
  have hD := hD0.self (sz := s.heap.size)
  generalize hAe : va_A (wX ad cI cZ it o n g v r nx mt fl pr ofs ak hd an ++ rs) s.heap.size = A at hD hE
  have hA : ∀ q : Nat, s.heap.size ≤ q → A q := fun q h => by rw [← hAe]; exact Or.inr h
  have hS : va_S A s.heap s.heap [] := va_S.rf
  have hO : kz_O s.heap s.heap := kz_O.rf _
  have hl := lv_entry ([.ref (ad 0)]) (n := 1) (Nat.le_of_ble_eq_true rfl)
  rw [lg_entry_eq]
  generalize (lg_sl ([.ref (ad 0)]) ++ List.replicate (1 - (lg_sl ([.ref (ad 0)])).length) Slot.unset).toArray = ls at hl ⊢
  have hl : lv_has ls 1 [(0, .ref (ad 0))] := hl
  refine lv_aload_n hx hb dX0_peerSet_0 rfl (lv_at hl 0 rfl) ?_
  refine kz_rV (As := []) (rest := []) ⟨hx, hb, hml, hown, hw9⟩ (c_X0_voterSet l hl9 D cI cZ ty ad rs s.heap.size it o n g v r nx mt fl pr ofs ak hd an) (kz_cV 0 hw9 mw_76 mw_78 ms_1 mw_1 mw_79 rfl rfl (by decide +kernel) ⟨Nat.le_of_ble_eq_true rfl, Nat.le_of_ble_eq_true rfl⟩) (kz_preV (q0 := 0) (ci := 0) hK hP hD hS hA hE rfl rfl) rfl hl.1 rfl (Nat.le_of_ble_eq_true rfl) dX0_peerSet_1 ⟨Nat.le_of_ble_eq_true rfl, Nat.le_of_ble_eq_true rfl⟩ (fun _ _ _ _ h => False.elim h) (fun v9 H hv9 hO1 => ?_)
  obtain ⟨_, rfl, rfl⟩ := hv9
  have hP := hO1.P hP
  have hS := hO1.S hS
  have hO := hO.tr hO1
  refine W.eq (g2 := F0 m 4 ls [.int (o ||| n)]) rfl ?_
  refine lv_aload_n hx hb dX0_peerSet_4 rfl (lv_at hl 0 rfl) ?_
  refine va_get (D := D) (ci := 0) (v := .int g) (C := RX0) (T := TX0) (N := 14) hx hb hw9 uX0 hown hK hP 0 rfl rfl 3 (by decide) (hw9 _ mw_22) (fun _ h9 => h9) rfl dX0_peerSet_5 ?_
  refine lv_ior hx hb dX0_peerSet_8 ?_
  refine lv_iconst (v := 1) hx hb dX0_peerSet_9 (by decide) ?_
  refine lv_aload_n hx hb dX0_peerSet_10 rfl (lv_at hl 0 rfl) ?_
  refine va_get (D := D) (ci := 0) (v := .int it) (C := RX0) (T := TX0) (N := 14) hx hb hw9 uX0 hown hK hP 0 rfl rfl 0 (by decide) (hw9 _ mw_19) (fun _ h9 => h9) rfl dX0_peerSet_11 ?_
  refine lv_ishl hx hb dX0_peerSet_14 ?_
  refine lv_iconst (v := (-1)) hx hb dX0_peerSet_15 (by decide) ?_
  refine lv_ixor hx hb dX0_peerSet_16 ?_
  refine lv_iand hx hb dX0_peerSet_17 ?_
  exact kz_reti hx hb hr hlocks hO (rfl)  dX0_peerSet_18
set_option maxHeartbeats 4000000 in
set_option maxRecDepth 100000 in
theorem c_X0_learnersMatching (l : Launch) (hl9 : l.stackTraces = false) (D : va_G) (cI cZ : ClassId) (ty : kz_Y) (ad : Nat → Nat) (rs : va_W) (sz : Nat) (it o n g v r : Int32) (nx mt fl pr ofs ak hd an : Nat → Int32) (p0 : Int32) : ez_M l yX0_learnersMatching wsX0_learnersMatching ({ frames := 1, cells := 1, slots := 6, locals := 23 } : Room) (kz_P D ((cI, .int) :: (cZ, .boolean) :: ty) (wX ad cI cZ it o n g v r nx mt fl pr ofs ak hd an ++ rs) sz [.ref (ad 0), .int p0]) (kz_Ro (kz_i (fun r9 => r9 = (g &&& sq_L mt p0 7)))) (kz_T (fun _ => IAE) (fun _ => False)) 0 0 (fun _ => False) := by
  refine ez_ofW (cc := cX0_learnersMatching) (maxL := 2) (ret := (some .int)) (by decide) rfl ?_
  intro p e s m args below meth c s₁ B hml hTab hv
  obtain ⟨rfl, hsz, hP, hK, hD0, hE⟩ := hv
  have hx := B.exec
  have hb := B.bytes
  have hr := B.returns
  have hw9 : ∀ w ∈ kz_W9, w.before ([.ref (ad 0), .int p0] : List Value).toArray s = true := fun w h => atoms_spec (ws := wsX0_learnersMatching) B.pre w (List.mem_cons_of_mem _ h)
  have hown : s.vm.findClass RX0 = some m.cls := findClass_of_methodNamed B.named
  have hlocks := B.notSynchronized
  subst hsz
  have hD := hD0.self (sz := s.heap.size)
  generalize hAe : va_A (wX ad cI cZ it o n g v r nx mt fl pr ofs ak hd an ++ rs) s.heap.size = A at hD hE
  have hA : ∀ q : Nat, s.heap.size ≤ q → A q := fun q h => by rw [← hAe]; exact Or.inr h
  have hS : va_S A s.heap s.heap [] := va_S.rf
  have hO : kz_O s.heap s.heap := kz_O.rf _
  have hl := lv_entry ([.ref (ad 0), .int p0]) (n := 2) (Nat.le_of_ble_eq_true rfl)
  rw [lg_entry_eq]
  generalize (lg_sl ([.ref (ad 0), .int p0]) ++ List.replicate (2 - (lg_sl ([.ref (ad 0), .int p0])).length) Slot.unset).toArray = ls at hl ⊢
  have hl : lv_has ls 2 [(0, .ref (ad 0)), (1, .int p0)] := hl
  refine lv_aload_n hx hb dX0_learnersMatching_0 rfl (lv_at hl 0 rfl) ?_
  refine va_get (D := D) (ci := 0) (v := .int g) (C := RX0) (T := TX0) (N := 14) hx hb hw9 uX0 hown hK hP 0 rfl rfl 3 (by decide) (hw9 _ mw_22) (fun _ h9 => h9) rfl dX0_learnersMatching_1 ?_
  refine lv_aload_n hx hb dX0_learnersMatching_4 rfl (lv_at hl 0 rfl) ?_
  refine va_get (D := D) (ci := 0) (v := .ref (ad 2)) (C := RX0) (T := TX0) (N := 14) hx hb hw9 uX0 hown hK hP 0 rfl rfl 7 (by decide) (hw9 _ mw_26) (fun _ h9 => h9) rfl dX0_learnersMatching_5 ?_
  refine lv_iload_n hx hb dX0_learnersMatching_8 rfl (lv_at hl 1 rfl) ?_
  refine kz_rS (As := [.ref (ad 2), .int p0]) (rest := [.int g]) ⟨hx, hb, hml, hown, hw9⟩ (c_X0_thoseWithAtLeast l hl9 D ((cI, .int) :: (cZ, .boolean) :: ty) (wX ad cI cZ it o n g v r nx mt fl pr ofs ak hd an ++ rs) s.heap.size cI mt 2 0 (ad 2) p0 rfl rfl) (kz_cS 2 hw9 mw_184 mw_185 mw_1 mw_186 rfl rfl (by decide +kernel) ⟨Nat.le_of_ble_eq_true rfl, Nat.le_of_ble_eq_true rfl⟩) (kz_preS hK hP hD hS hA hE) rfl hl.1 rfl (Nat.le_of_ble_eq_true rfl) dX0_learnersMatching_9 ⟨Nat.le_of_ble_eq_true rfl, Nat.le_of_ble_eq_true rfl⟩ (fun _ _ _ _ h => False.elim h) (fun v9 H hv9 hO1 => ?_)
  obtain ⟨_, rfl, rfl⟩ := hv9
  have hP := hO1.P hP
  have hS := hO1.S hS
  have hO := hO.tr hO1
  refine W.eq (g2 := F0 m 12 ls [.int (sq_L mt p0 7), .int g]) rfl ?_
  refine lv_iand hx hb dX0_learnersMatching_12 ?_
  exact kz_reti hx hb hr hlocks hO (rfl)  dX0_learnersMatching_13
set_option maxHeartbeats 4000000 in
set_option maxRecDepth 100000 in
theorem c_X0_requirePeer (l : Launch) (hl9 : l.stackTraces = false) (D : va_G) (cI cZ : ClassId) (ty : kz_Y) (ad : Nat → Nat) (rs : va_W) (sz : Nat) (it o n g v r : Int32) (nx mt fl pr ofs ak hd an : Nat → Int32) (p0 : Int32) : ez_M l yX0_requirePeer wsX0_requirePeer ({ frames := 7, cells := 1, slots := 6, locals := 110 } : Room) (kz_P D ((cI, .int) :: (cZ, .boolean) :: ty) (wX ad cI cZ it o n g v r nx mt fl pr ofs ak hd an ++ rs) sz [.ref (ad 0), .int p0]) (kz_Ro (kz_v ((sq_V p0 && sq_I (sq_P it o n g) p0) = true))) (kz_T (fun _ => IOE) (fun _ => (sq_V p0 && sq_I (sq_P it o n g) p0) = false)) 0 0 (fun _ => False) := by
  refine ez_ofW (cc := cX0_requirePeer) (maxL := 2) (ret := none) (by decide) rfl ?_
  intro p e s m args below meth c s₁ B hml hTab hv
  obtain ⟨rfl, hsz, hP, hK, hD0, hE⟩ := hv
  have hx := B.exec
  have hb := B.bytes
  have hr := B.returns
  have hw9 : ∀ w ∈ kz_W9, w.before ([.ref (ad 0), .int p0] : List Value).toArray s = true := fun w h => atoms_spec (ws := wsX0_requirePeer) B.pre w (List.mem_cons_of_mem _ h)
  have hown : s.vm.findClass RX0 = some m.cls := findClass_of_methodNamed B.named
  have hlocks := B.notSynchronized
  subst hsz
  have hD := hD0.self (sz := s.heap.size)
  generalize hAe : va_A (wX ad cI cZ it o n g v r nx mt fl pr ofs ak hd an ++ rs) s.heap.size = A at hD hE
  have hA : ∀ q : Nat, s.heap.size ≤ q → A q := fun q h => by rw [← hAe]; exact Or.inr h
  have hS : va_S A s.heap s.heap [] := va_S.rf
  have hO : kz_O s.heap s.heap := kz_O.rf _
  have hl := lv_entry ([.ref (ad 0), .int p0]) (n := 2) (Nat.le_of_ble_eq_true rfl)
  rw [lg_entry_eq]
  generalize (lg_sl ([.ref (ad 0), .int p0]) ++ List.replicate (2 - (lg_sl ([.ref (ad 0), .int p0])).length) Slot.unset).toArray = ls at hl ⊢
  have hl : lv_has ls 2 [(0, .ref (ad 0)), (1, .int p0)] := hl
  refine lv_iload_n hx hb dX0_requirePeer_0 rfl (lv_at hl 1 rfl) ?_
  refine kz_rS (As := [.int p0]) (rest := []) ⟨hx, hb, hml, hown, hw9⟩ (c_X0_requireServer l hl9 D ((cI, .int) :: (cZ, .boolean) :: ty) (wX ad cI cZ it o n g v r nx mt fl pr ofs ak hd an ++ rs) s.heap.size p0) (kz_cS 1 hw9 mw_240 mw_241 mw_1 mw_242 rfl rfl (by decide +kernel) ⟨Nat.le_of_ble_eq_true rfl, Nat.le_of_ble_eq_true rfl⟩) (kz_preS hK hP hD hS hA hE) rfl hl.1 rfl (Nat.le_of_ble_eq_true rfl) dX0_requirePeer_1 ⟨Nat.le_of_ble_eq_true rfl, Nat.le_of_ble_eq_true rfl⟩ (fun k ce q9 H1 hk hO1 hce hcv hcl => ?_) (fun v9 H hv9 hO1 => ?_)
  · -- thrown
    exact kz_out (k := 0) hTab hlocks (by simp [show sq_V p0 = false from hk]) (hO.tr hO1) hce hcv hcl (fun _ h => nomatch h) (Nat.le_of_ble_eq_true rfl) (Nat.le_of_ble_eq_true rfl)
  · -- goes on
    obtain ⟨rfl, hv_1⟩ := hv9
    have hP := hO1.P hP
    have hS := hO1.S hS
    have hO := hO.tr hO1
    refine W.eq (g2 := F0 m 4 ls []) rfl ?_
    refine lv_aload_n hx hb dX0_requirePeer_4 rfl (lv_at hl 0 rfl) ?_
    refine kz_rV (As := []) (rest := []) ⟨hx, hb, hml, hown, hw9⟩ (c_X0_peerSet l hl9 D cI cZ ty ad rs H.size it o n g v r nx mt fl pr ofs ak hd an) (kz_cV 0 hw9 mw_72 mw_74 ms_0 mw_1 mw_75 rfl rfl (by decide +kernel) ⟨Nat.le_of_ble_eq_true rfl, Nat.le_of_ble_eq_true rfl⟩) (kz_preV (q0 := 0) (ci := 0) hK hP hD hS hA hE rfl rfl) rfl hl.1 rfl (Nat.le_of_ble_eq_true rfl) dX0_requirePeer_5 ⟨Nat.le_of_ble_eq_true rfl, Nat.le_of_ble_eq_true rfl⟩ (fun _ _ _ _ h => False.elim h) (fun v9 H hv9 hO1 => ?_)
    obtain ⟨_, rfl, rfl⟩ := hv9
    have hP := hO1.P hP
    have hS := hO1.S hS
    have hO := hO.tr hO1
    refine W.eq (g2 := F0 m 8 ls [.int (sq_P it o n g)]) rfl ?_
    refine lv_iload_n hx hb dX0_requirePeer_8 rfl (lv_at hl 1 rfl) ?_
    refine kz_rS (As := [.int (sq_P it o n g), .int p0]) (rest := []) ⟨hx, hb, hml, hown, hw9⟩ (c_X0_isIn l hl9 D ((cI, .int) :: (cZ, .boolean) :: ty) (wX ad cI cZ it o n g v r nx mt fl pr ofs ak hd an ++ rs) H.size (sq_P it o n g) p0) (kz_cS 2 hw9 mw_80 mw_81 mw_1 mw_82 rfl rfl (by decide +kernel) ⟨Nat.le_of_ble_eq_true rfl, Nat.le_of_ble_eq_true rfl⟩) (kz_preS hK hP hD hS hA hE) rfl hl.1 rfl (Nat.le_of_ble_eq_true rfl) dX0_requirePeer_9 ⟨Nat.le_of_ble_eq_true rfl, Nat.le_of_ble_eq_true rfl⟩ (fun _ _ _ _ h => False.elim h) (fun v9 H hv9 hO1 => ?_)
    obtain ⟨_, rfl, rfl⟩ := hv9
    have hP := hO1.P hP
    have hS := hO1.S hS
    have hO := hO.tr hO1
    refine W.eq (g2 := F0 m 12 ls [.int (sq_z (sq_I (sq_P it o n g) p0))]) rfl ?_
    refine lv_if_ne (tgt := 25) hx hb dX0_requirePeer_12 (by decide) (fun c_2 => ?_) (fun c_2 => ?_)
    · -- 12 -> 25
      exact kz_retv hx hb hr hlocks hO (by first | (simp [hv_1, (sq_z_t c_2)]; done) | (simp only [hv_1, (sq_z_t c_2), eq_self, not_true_eq_false, not_false_eq_true, and_self, and_true, true_and, and_false, false_and, or_true, true_or, or_false, false_or, if_true, if_false, ite_true, ite_false, Bool.and_eq_true, decide_true, decide_false, decide_eq_true_eq, ne_eq, Nat.reduceEqDiff, Nat.one_ne_zero, Bool.false_eq_true, reduceCtorEq]; done) | (simp only [hv_1, (sq_z_t c_2), eq_self, not_true_eq_false, not_false_eq_true, and_self, and_true, true_and, and_false, false_and, or_true, true_or, or_false, false_or, if_true, if_false, ite_true, ite_false, Bool.and_eq_true, decide_true, decide_false, decide_eq_true_eq, ne_eq, Nat.reduceEqDiff, Nat.one_ne_zero, Bool.false_eq_true, reduceCtorEq]; decide))  dX0_requirePeer_25
    · -- 12 -> 15
      obtain ⟨sa9, hst9⟩ := hE.2.2.1 (148, "the server is no peer") (by decide)
      exact ez_throwS (cls := IOE) (names := EXN) hx hb hl9 hown (by decide +kernel) (by decide +kernel) (hw9 _ mw_243) (hw9 _ mw_9) hst9 (at_IOE hw9 hE) hO.1 (by rw [hml]; exact hl.1) hTab hlocks dX0_requirePeer_15 dX0_requirePeer_18 dX0_requirePeer_19 dX0_requirePeer_21 dX0_requirePeer_24 (by decide) (Nat.le_of_ble_eq_true rfl) (Nat.le_of_ble_eq_true rfl) (Nat.le_of_ble_eq_true rfl) (fun q t ce h1 h2 h3 h4 h5 h6 => ⟨0, ce, (by first | (simp [hv_1, (sq_z_f c_2)]; done) | (simp only [hv_1, (sq_z_f c_2), eq_self, not_true_eq_false, not_false_eq_true, and_self, and_true, true_and, and_false, false_and, or_true, true_or, or_false, false_or, if_true, if_false, ite_true, ite_false, Bool.and_eq_true, decide_true, decide_false, decide_eq_true_eq, ne_eq, Nat.reduceEqDiff, Nat.one_ne_zero, Bool.false_eq_true, reduceCtorEq]; done) | (simp only [hv_1, (sq_z_f c_2), eq_self, not_true_eq_false, not_false_eq_true, and_self, and_true, true_and, and_false, false_and, or_true, true_or, or_false, false_or, if_true, if_false, ite_true, ite_false, Bool.and_eq_true, decide_true, decide_false, decide_eq_true_eq, ne_eq, Nat.reduceEqDiff, Nat.one_ne_zero, Bool.false_eq_true, reduceCtorEq]; decide)), h1, h2, by rw [h4.findClass]; exact h3, h5, h6⟩)
