set_option maxHeartbeats 4000000 in
set_option maxRecDepth 100000 in
theorem c_X1_greater (l : Launch) (hl9 : l.stackTraces = false) (D : va_G) (tys : kz_Y) (ws : va_W) (sz : Nat) (p0 : Int32) (p1 : Int32) : ez_M l yX1_greater wsX1_greater ({ frames := 0, cells := 1, slots := 6, locals := 0 } : Room) (kz_P D tys ws sz [.int p0, .int p1]) (kz_Ro (kz_i (fun r9 => r9 = (sq_max p0 p1)))) (kz_T (fun _ => IAE) (fun _ => False)) 0 0 (fun _ => False) := by
  refine ez_ofW (cc := cX1_greater) (maxL := 2) (ret := (some .int)) (by decide) rfl ?_
  intro p e s m args below meth c s₁ B hml hTab hv
  obtain ⟨rfl, hsz, hP, hK, hD0, hE⟩ := hv
  have hx := B.exec
  have hb := B.bytes
  have hr := B.returns
  have hw9 : ∀ w ∈ kz_W9, w.before ([.int p0, .int p1] : List Value).toArray s = true := fun w h => atoms_spec (ws := wsX1_greater) B.pre w (List.mem_cons_of_mem _ h)
  have hown : s.vm.findClass RX1 = some m.cls := findClass_of_methodNamed B.named
  have hlocks := B.notSynchronized
  subst hsz
  have hD := hD0.self (sz := s.heap.size)
  generalize hAe : va_A ws s.heap.size = A at hD hE
  have hA : ∀ q : Nat, s.heap.size ≤ q → A q := fun q h => by rw [← hAe]; exact Or.inr h
  have hS : va_S A s.heap s.heap [] := va_S.rf
  have hO : kz_O s.heap s.heap := kz_O.rf _
  have hl := lv_entry ([.int p0, .int p1]) (n := 2) (Nat.le_of_ble_eq_true rfl)
  rw [lg_entry_eq]
  generalize (lg_sl ([.int p0, .int p1]) ++ List.replicate (2 - (lg_sl ([.int p0, .int p1])).length) Slot.unset).toArray = ls at hl ⊢
  have hl : lv_has ls 2 [(0, .int p0), (1, .int p1)] := hl
  refine lv_iload_n hx hb dX1_greater_0 rfl (lv_at hl 0 rfl) ?_
  refine lv_iload_n hx hb dX1_greater_1 rfl (lv_at hl 1 rfl) ?_
  refine lv_icmp_le (tgt := 9) hx hb dX1_greater_2 (by decide) (fun c_1 => ?_) (fun c_1 => ?_)
  · -- 2 -> 9
    refine lv_iload_n hx hb dX1_greater_9 rfl (lv_at hl 1 rfl) ?_
    exact kz_reti hx hb hr hlocks hO (sm_mx2 c_1)  dX1_greater_10
  · -- 2 -> 5
    refine lv_iload_n hx hb dX1_greater_5 rfl (lv_at hl 0 rfl) ?_
    refine lv_goto (tgt := 10) hx hb dX1_greater_6 (by decide) ?_
    exact kz_reti hx hb hr hlocks hO (sm_mx1 c_1)  dX1_greater_10
set_option maxHeartbeats 4000000 in
set_option maxRecDepth 100000 in
theorem c_X1_get (l : Launch) (hl9 : l.stackTraces = false) (D : va_G) (cI : ClassId) (ty : kz_Y) (bd : Nat → Nat) (rs : va_W) (sz : Nat) (th it o n g v r : Int32) (al : Nat → Int32) (a b : Nat) (p0 : Int32) (p1 : Int32) (ha : a < 7) (hb8 : b < 8) (e0 : p0 = nI a) (e1 : p1 = nI b) : ez_M l yX1_get wsX1_get ({ frames := 0, cells := 1, slots := 6, locals := 0 } : Room) (kz_P D ((cI, .int) :: ty) (wM bd cI th it o n g v r al ++ rs) sz [.ref (bd 0), .int p0, .int p1]) (kz_Ro (kz_i (fun r9 => r9 = (al (8 * a + b))))) (kz_T (fun _ => IAE) (fun _ => False)) 0 0 (fun _ => False) := by
  refine ez_ofW (cc := cX1_get) (maxL := 3) (ret := (some .int)) (by decide) rfl ?_
  intro p e s m args below meth c s₁ B hml hTab hv
  obtain ⟨rfl, hsz, hP, hK, hD0, hE⟩ := hv
  have hx := B.exec
  have hb := B.bytes
  have hr := B.returns
  have hw9 : ∀ w ∈ kz_W9, w.before ([.ref (bd 0), .int p0, .int p1] : List Value).toArray s = true := fun w h => atoms_spec (ws := wsX1_get) B.pre w (List.mem_cons_of_mem _ h)
  have hown : s.vm.findClass RX1 = some m.cls := findClass_of_methodNamed B.named
  have hlocks := B.notSynchronized
  subst hsz
  have hD := hD0.self (sz := s.heap.size)
  generalize hAe : va_A (wM bd cI th it o n g v r al ++ rs) s.heap.size = A at hD hE
  have hA : ∀ q : Nat, s.heap.size ≤ q → A q := fun q h => by rw [← hAe]; exact Or.inr h
  have hS : va_S A s.heap s.heap [] := va_S.rf
  have hO : kz_O s.heap s.heap := kz_O.rf _
  have hl := lv_entry ([.ref (bd 0), .int p0, .int p1]) (n := 3) (Nat.le_of_ble_eq_true rfl)
  rw [lg_entry_eq]
  generalize (lg_sl ([.ref (bd 0), .int p0, .int p1]) ++ List.replicate (3 - (lg_sl ([.ref (bd 0), .int p0, .int p1])).length) Slot.unset).toArray = ls at hl ⊢
  have hl : lv_has ls 3 [(0, .ref (bd 0)), (1, .int p0), (2, .int p1)] := hl
  have hix : vp_in ((8 * p0) + p1) 56 := sm_ix ha hb8 e0 e1
  refine lv_aload_n hx hb dX1_get_0 rfl (lv_at hl 0 rfl) ?_
  refine va_get (D := D) (ci := 1) (v := .ref (bd 1)) (C := RX1) (T := TX1) (N := 8) hx hb hw9 uX1 hown hK hP 0 rfl rfl 7 (by decide) (hw9 _ mw_367) (fun _ h9 => h9) rfl dX1_get_1 ?_
  refine lv_bipush (v := 8) hx hb dX1_get_4 (by decide) ?_
  refine lv_iload_n hx hb dX1_get_6 rfl (lv_at hl 1 rfl) ?_
  refine lv_imul hx hb dX1_get_7 ?_
  refine lv_iload_n hx hb dX1_get_8 rfl (lv_at hl 2 rfl) ?_
  refine lv_iadd hx hb dX1_get_9 ?_
  refine va_iald hx hb hK hP 1 0 rfl rfl hix dX1_get_10 ?_
  exact kz_reti hx hb hr hlocks hO (by rw [sm_ix2 ha hb8 e0 e1])  dX1_get_11
set_option maxHeartbeats 4000000 in
set_option maxRecDepth 100000 in
theorem c_X1_put (l : Launch) (hl9 : l.stackTraces = false) (D : va_G) (cI : ClassId) (ty : kz_Y) (bd : Nat → Nat) (rs : va_W) (sz : Nat) (th it o n g v r : Int32) (al : Nat → Int32) (a b : Nat) (p0 : Int32) (p1 : Int32) (p2 : Int32) (ha : a < 7) (hb8 : b < 8) (e0 : p0 = nI a) (e1 : p1 = nI b) : ez_M l yX1_put wsX1_put ({ frames := 0, cells := 1, slots := 6, locals := 0 } : Room) (kz_P D ((cI, .int) :: ty) (wM bd cI th it o n g v r al ++ rs) sz [.ref (bd 0), .int p0, .int p1, .int p2]) (kz_Wr D (va_A (wM bd cI th it o n g v r al ++ rs) sz) (kz_v (True)) (wM bd cI th it o n g v r (upd al (8 * a + b) p2) ++ rs)) (kz_T (fun _ => IAE) (fun _ => False)) 0 0 (va_A (wM bd cI th it o n g v r al ++ rs) sz) := by
  refine ez_ofW (cc := cX1_put) (maxL := 4) (ret := none) (by decide) rfl ?_
  intro p e s m args below meth c s₁ B hml hTab hv
  obtain ⟨rfl, hsz, hP, hK, hD0, hE⟩ := hv
  have hx := B.exec
  have hb := B.bytes
  have hr := B.returns
  have hw9 : ∀ w ∈ kz_W9, w.before ([.ref (bd 0), .int p0, .int p1, .int p2] : List Value).toArray s = true := fun w h => atoms_spec (ws := wsX1_put) B.pre w (List.mem_cons_of_mem _ h)
  have hown : s.vm.findClass RX1 = some m.cls := findClass_of_methodNamed B.named
  have hlocks := B.notSynchronized
  subst hsz
  have hD := hD0.self (sz := s.heap.size)
  generalize hAe : va_A (wM bd cI th it o n g v r al ++ rs) s.heap.size = A at hD hE ⊢
  have hA : ∀ q : Nat, s.heap.size ≤ q → A q := fun q h => by rw [← hAe]; exact Or.inr h
  have hS : va_S A s.heap s.heap [] := va_S.rf
  have hO : kz_O s.heap s.heap := kz_O.rf _
  have hl := lv_entry ([.ref (bd 0), .int p0, .int p1, .int p2]) (n := 4) (Nat.le_of_ble_eq_true rfl)
  rw [lg_entry_eq]
  generalize (lg_sl ([.ref (bd 0), .int p0, .int p1, .int p2]) ++ List.replicate (4 - (lg_sl ([.ref (bd 0), .int p0, .int p1, .int p2])).length) Slot.unset).toArray = ls at hl ⊢
  have hl : lv_has ls 4 [(0, .ref (bd 0)), (1, .int p0), (2, .int p1), (3, .int p2)] := hl
  have hix : vp_in ((8 * p0) + p1) 56 := sm_ix ha hb8 e0 e1
  refine lv_aload_n hx hb dX1_put_0 rfl (lv_at hl 0 rfl) ?_
  refine va_get (D := D) (ci := 1) (v := .ref (bd 1)) (C := RX1) (T := TX1) (N := 8) hx hb hw9 uX1 hown hK hP 0 rfl rfl 7 (by decide) (hw9 _ mw_367) (fun _ h9 => h9) rfl dX1_put_1 ?_
  refine lv_bipush (v := 8) hx hb dX1_put_4 (by decide) ?_
  refine lv_iload_n hx hb dX1_put_6 rfl (lv_at hl 1 rfl) ?_
  refine lv_imul hx hb dX1_put_7 ?_
  refine lv_iload_n hx hb dX1_put_8 rfl (lv_at hl 2 rfl) ?_
  refine lv_iadd hx hb dX1_put_9 ?_
  refine lv_iload_n hx hb dX1_put_10 rfl (lv_at hl 3 rfl) ?_
  refine va_iast hx hb hK hP hD hS 1 0 rfl rfl hix dX1_put_11 (fun H locs hP hD hS => ?_)
  have hP : va_P D vwCl (wM bd cI th it o n g v r (upd al ((8 * p0) + p1).toNatClampNeg p2) ++ rs) H := hP
  have hD : va_D A (wM bd cI th it o n g v r (upd al ((8 * p0) + p1).toNatClampNeg p2) ++ rs) := hD
  rw [sm_ix2 ha hb8 e0 e1] at hP hD
  exact kz_wretv hx hb hr hlocks hP hD hS (Nat.le_of_ble_eq_true rfl) (Nat.le_of_ble_eq_true rfl) (trivial)  dX1_put_12
set_option maxHeartbeats 4000000 in
set_option maxRecDepth 100000 in
theorem c_X1_mostOf (l : Launch) (hl9 : l.stackTraces = false) (D : va_G) (tys : kz_Y) (ws : va_W) (sz : Nat) (x y : Nat) (p0 : Int32) (p1 : Int32) (hx8 : x < 128) (hy : y < 128) (ex : p0 = nI x) (ey : p1 = nI y) : ez_M l yX1_mostOf wsX1_mostOf ({ frames := 1, cells := 1, slots := 6, locals := 21 } : Room) (kz_P D tys ws sz [.int p0, .int p1]) (kz_Ro (kz_i (fun r9 => r9 = (sq_z (sq_H p0 p1))))) (kz_T (fun _ => IAE) (fun _ => False)) 0 0 (fun _ => False) := by
  refine ez_ofW (cc := cX1_mostOf) (maxL := 5) (ret := (some .boolean)) (by decide) rfl ?_
  intro p e s m args below meth c s₁ B hml hTab hv
  obtain ⟨rfl, hsz, hP, hK, hD0, hE⟩ := hv
  have hx := B.exec
  have hb := B.bytes
  have hr := B.returns
  have hw9 : ∀ w ∈ kz_W9, w.before ([.int p0, .int p1] : List Value).toArray s = true := fun w h => atoms_spec (ws := wsX1_mostOf) B.pre w (List.mem_cons_of_mem _ h)
  have hown : s.vm.findClass RX1 = some m.cls := findClass_of_methodNamed B.named
  have hlocks := B.notSynchronized
  subst hsz
  have hD := hD0.self (sz := s.heap.size)
  generalize hAe : va_A ws s.heap.size = A at hD hE
  have hA : ∀ q : Nat, s.heap.size ≤ q → A q := fun q h => by rw [← hAe]; exact Or.inr h
  have hS : va_S A s.heap s.heap [] := va_S.rf
  have hO : kz_O s.heap s.heap := kz_O.rf _
  have hl := lv_entry ([.int p0, .int p1]) (n := 5) (Nat.le_of_ble_eq_true rfl)
  rw [lg_entry_eq]
  generalize (lg_sl ([.int p0, .int p1]) ++ List.replicate (5 - (lg_sl ([.int p0, .int p1])).length) Slot.unset).toArray = ls at hl ⊢
  have hl : lv_has ls 5 [(0, .int p0), (1, .int p1)] := hl
  refine lv_iconst (v := 0) hx hb dX1_mostOf_0 (by decide) ?_
  refine lv_istore_n (lv' := [(2, .int 0), (0, .int p0), (1, .int p1)]) hx hb dX1_mostOf_1 rfl hl (by decide) rfl (fun ls hl => ?_)
  refine lv_iconst (v := 0) hx hb dX1_mostOf_2 (by decide) ?_
  refine lv_istore_n (lv' := [(3, .int 0), (2, .int 0), (0, .int p0), (1, .int p1)]) hx hb dX1_mostOf_3 rfl hl (by decide) rfl (fun ls hl => ?_)
  refine lv_iconst (v := 0) hx hb dX1_mostOf_4 (by decide) ?_
  refine lv_istore (lv' := [(4, .int 0), (3, .int 0), (2, .int 0), (0, .int p0), (1, .int p1)]) hx hb dX1_mostOf_5 hl (by decide) rfl (fun ls hl => ?_)
  have loop : ∀ (k i : Nat) (H : Heap) (ls : Array Slot), i ≤ 7 → 7 < i + k → va_P D vwCl ws H → va_S A s.heap H [] → kz_O s.heap H → lv_has ls 5 [(4, .int (nI i)), (3, .int (nI (sm_pc y i))), (2, .int (nI (sm_pc (x &&& y) i))), (0, .int p0), (1, .int p1)] → W p l e (headSpec wsX1_mostOf ({ frames := 1, cells := 1, slots := 6, locals := 21 } : Room)).room s m ([.int p0, .int p1] : List Value).toArray below meth c H [] 0 0 (ez_MQ below (kz_Ro (kz_i (fun r9 => r9 = (sq_z (sq_H p0 p1))))) (kz_T (fun _ => IAE) (fun _ => False)) s 0 0 (fun _ => False)) (F0 m 7 ls []) := by
    intro k
    induction k with
    | zero => intro i H ls h1 h2; omega
    | succ k ih =>
      intro i H ls h1 h2 hP hS hO hl
      refine lv_iload hx hb dX1_mostOf_7 (lv_at hl 0 rfl) ?_
      refine lv_bipush (v := 7) hx hb dX1_mostOf_9 (by decide) ?_
      refine lv_icmp_ge (tgt := 63) hx hb dX1_mostOf_11 (by decide) (fun c_1 => ?_) (fun c_1 => ?_)
      · -- 11 -> 63
        refine lv_iconst (v := 2) hx hb dX1_mostOf_63 (by decide) ?_
        refine lv_iload_n hx hb dX1_mostOf_64 rfl (lv_at hl 2 rfl) ?_
        refine lv_imul hx hb dX1_mostOf_65 ?_
        refine lv_iload_n hx hb dX1_mostOf_66 rfl (lv_at hl 1 rfl) ?_
        refine lv_icmp_le (tgt := 74) hx hb dX1_mostOf_67 (by decide) (fun c_2 => ?_) (fun c_2 => ?_)
        · -- 67 -> 74
          refine lv_iconst (v := 0) hx hb dX1_mostOf_74 (by decide) ?_
          exact kz_retz hx hb hr hlocks hO (by rw [show i = 7 from kz_i7 h1 c_1] at c_2; exact sm_most0 hx8 hy ex ey c_2) rfl dX1_mostOf_75
        · -- 67 -> 70
          refine lv_iconst (v := 1) hx hb dX1_mostOf_70 (by decide) ?_
          refine lv_goto (tgt := 75) hx hb dX1_mostOf_71 (by decide) ?_
          exact kz_retz hx hb hr hlocks hO (by rw [show i = 7 from kz_i7 h1 c_1] at c_2; exact sm_most1 hx8 hy ex ey c_2) rfl dX1_mostOf_75
      · -- 11 -> 14
        have hi9 : i < 7 := kz_l7 h1 c_1
        have hc9 : (nI i).toNatClampNeg = i := nI_clamp (by omega)
        refine lv_iload_n hx hb dX1_mostOf_14 rfl (lv_at hl 1 rfl) ?_
        refine lv_iload_n hx hb dX1_mostOf_15 rfl (lv_at hl 4 rfl) ?_
        refine lv_iload hx hb dX1_mostOf_16 (lv_at hl 0 rfl) ?_
        refine kz_rS (As := [.int p1, .int (nI i)]) (rest := [.int (nI (sm_pc y i))]) ⟨hx, hb, hml, hown, hw9⟩ (c_X1_has l hl9 D tys ws H.size p1 (nI i)) (kz_cS 2 hw9 mw_400 mw_401 mw_2 mw_402 rfl rfl (by decide +kernel) ⟨Nat.le_of_ble_eq_true rfl, Nat.le_of_ble_eq_true rfl⟩) (kz_preS hK hP hD hS hA hE) rfl hl.1 rfl (Nat.le_of_ble_eq_true rfl) dX1_mostOf_18 ⟨Nat.le_of_ble_eq_true rfl, Nat.le_of_ble_eq_true rfl⟩ (fun _ _ _ _ h => False.elim h) (fun v9 H hv9 hO1 => ?_)
        obtain ⟨_, rfl, rfl⟩ := hv9
        have hP := hO1.P hP
        have hS := hO1.S hS
        have hO := hO.tr hO1
        refine W.eq (g2 := F0 m 21 ls [.int (sq_z (sm_h p1 (nI i))), .int (nI (sm_pc y i))]) rfl ?_
        refine lv_if_eq (tgt := 28) hx hb dX1_mostOf_21 (by decide) (fun c_3 => ?_) (fun c_3 => ?_)
        · -- 21 -> 28
          refine lv_iconst (v := 0) hx hb dX1_mostOf_28 (by decide) ?_
          refine lv_iadd hx hb dX1_mostOf_29 ?_
          refine lv_istore_n (lv' := [(3, .int ((nI (sm_pc y i)) + 0)), (4, .int (nI i)), (2, .int (nI (sm_pc (x &&& y) i))), (0, .int p0), (1, .int p1)]) hx hb dX1_mostOf_30 rfl hl (by decide) rfl (fun ls hl => ?_)
          refine lv_iload_n hx hb dX1_mostOf_31 rfl (lv_at hl 2 rfl) ?_
          refine lv_iload_n hx hb dX1_mostOf_32 rfl (lv_at hl 4 rfl) ?_
          refine lv_iload hx hb dX1_mostOf_33 (lv_at hl 1 rfl) ?_
          refine kz_rS (As := [.int p1, .int (nI i)]) (rest := [.int (nI (sm_pc (x &&& y) i))]) ⟨hx, hb, hml, hown, hw9⟩ (c_X1_has l hl9 D tys ws H.size p1 (nI i)) (kz_cS 2 hw9 mw_400 mw_401 mw_2 mw_402 rfl rfl (by decide +kernel) ⟨Nat.le_of_ble_eq_true rfl, Nat.le_of_ble_eq_true rfl⟩) (kz_preS hK hP hD hS hA hE) rfl hl.1 rfl (Nat.le_of_ble_eq_true rfl) dX1_mostOf_35 ⟨Nat.le_of_ble_eq_true rfl, Nat.le_of_ble_eq_true rfl⟩ (fun _ _ _ _ h => False.elim h) (fun v9 H hv9 hO1 => ?_)
          obtain ⟨_, rfl, rfl⟩ := hv9
          have hP := hO1.P hP
          have hS := hO1.S hS
          have hO := hO.tr hO1
          refine W.eq (g2 := F0 m 38 ls [.int (sq_z (sm_h p1 (nI i))), .int (nI (sm_pc (x &&& y) i))]) rfl ?_
          refine lv_if_eq (tgt := 54) hx hb dX1_mostOf_38 (by decide) (fun c_4 => ?_) (fun c_4 => ?_)
          · -- 38 -> 54
            refine lv_iconst (v := 0) hx hb dX1_mostOf_54 (by decide) ?_
            refine lv_iadd hx hb dX1_mostOf_55 ?_
            refine lv_istore_n (lv' := [(2, .int ((nI (sm_pc (x &&& y) i)) + 0)), (3, .int ((nI (sm_pc y i)) + 0)), (4, .int (nI i)), (0, .int p0), (1, .int p1)]) hx hb dX1_mostOf_56 rfl hl (by decide) rfl (fun ls hl => ?_)
            obtain ⟨v_5, ev_5⟩ : ∃ y : Int32, y = (nI i) + 1 := ⟨_, rfl⟩
            refine lv_iinc (v := v_5) (lv' := [(4, .int v_5), (2, .int ((nI (sm_pc (x &&& y) i)) + 0)), (3, .int ((nI (sm_pc y i)) + 0)), (0, .int p0), (1, .int p1)]) hx hb dX1_mostOf_57 hl (k := 2) rfl (by rw [ev_5]; rfl) (by decide) rfl (fun ls hl => ?_)
            refine lv_goto (tgt := 7) hx hb dX1_mostOf_60 (by decide) ?_
            obtain rfl : v_5 = nI (i + 1) := by rw [ev_5, nI_1]
            have t1 : sm_h p1 (nI i) = y.testBit i := by rw [ey]; exact sm_has y hy i hi9
            have t0 : sm_h p0 (nI i) = x.testBit i := by rw [ex]; exact sm_has x hx8 i hi9
            have e3 : nI (sm_pc y (i + 1)) = ((nI (sm_pc y i)) + 0) := by simp [sm_pc, ← t1, nI_1, c_1, (Int32.not_le.mp c_1), (sq_z_f c_3), (sq_z_f c_4)]
            have e2 : nI (sm_pc (x &&& y) (i + 1)) = ((nI (sm_pc (x &&& y) i)) + 0) := by simp [sm_pc, Nat.testBit_and, ← t1, ← t0, nI_1, c_1, (Int32.not_le.mp c_1), (sq_z_f c_3), (sq_z_f c_4)]
            exact ih (i + 1) H ls (by omega) (by omega) hP hS hO (by rw [e3, e2]; exact lv_sub hl [0, 2, 1, 3, 4] rfl)
          · -- 38 -> 41
            exact absurd c_3 c_4
        · -- 21 -> 24
          refine lv_iconst (v := 1) hx hb dX1_mostOf_24 (by decide) ?_
          refine lv_goto (tgt := 29) hx hb dX1_mostOf_25 (by decide) ?_
          refine lv_iadd hx hb dX1_mostOf_29 ?_
          refine lv_istore_n (lv' := [(3, .int ((nI (sm_pc y i)) + 1)), (4, .int (nI i)), (2, .int (nI (sm_pc (x &&& y) i))), (0, .int p0), (1, .int p1)]) hx hb dX1_mostOf_30 rfl hl (by decide) rfl (fun ls hl => ?_)
          refine lv_iload_n hx hb dX1_mostOf_31 rfl (lv_at hl 2 rfl) ?_
          refine lv_iload_n hx hb dX1_mostOf_32 rfl (lv_at hl 4 rfl) ?_
          refine lv_iload hx hb dX1_mostOf_33 (lv_at hl 1 rfl) ?_
          refine kz_rS (As := [.int p1, .int (nI i)]) (rest := [.int (nI (sm_pc (x &&& y) i))]) ⟨hx, hb, hml, hown, hw9⟩ (c_X1_has l hl9 D tys ws H.size p1 (nI i)) (kz_cS 2 hw9 mw_400 mw_401 mw_2 mw_402 rfl rfl (by decide +kernel) ⟨Nat.le_of_ble_eq_true rfl, Nat.le_of_ble_eq_true rfl⟩) (kz_preS hK hP hD hS hA hE) rfl hl.1 rfl (Nat.le_of_ble_eq_true rfl) dX1_mostOf_35 ⟨Nat.le_of_ble_eq_true rfl, Nat.le_of_ble_eq_true rfl⟩ (fun _ _ _ _ h => False.elim h) (fun v9 H hv9 hO1 => ?_)
          obtain ⟨_, rfl, rfl⟩ := hv9
          have hP := hO1.P hP
          have hS := hO1.S hS
          have hO := hO.tr hO1
          refine W.eq (g2 := F0 m 38 ls [.int (sq_z (sm_h p1 (nI i))), .int (nI (sm_pc (x &&& y) i))]) rfl ?_
          refine lv_if_eq (tgt := 54) hx hb dX1_mostOf_38 (by decide) (fun c_6 => ?_) (fun c_6 => ?_)
          · -- 38 -> 54
            exact absurd c_6 c_3
          · -- 38 -> 41
            refine lv_iload_n hx hb dX1_mostOf_41 rfl (lv_at hl 3 rfl) ?_
            refine lv_iload hx hb dX1_mostOf_42 (lv_at hl 1 rfl) ?_
            refine kz_rS (As := [.int p0, .int (nI i)]) (rest := [.int (nI (sm_pc (x &&& y) i))]) ⟨hx, hb, hml, hown, hw9⟩ (c_X1_has l hl9 D tys ws H.size p0 (nI i)) (kz_cS 2 hw9 mw_400 mw_401 mw_2 mw_402 rfl rfl (by decide +kernel) ⟨Nat.le_of_ble_eq_true rfl, Nat.le_of_ble_eq_true rfl⟩) (kz_preS hK hP hD hS hA hE) rfl hl.1 rfl (Nat.le_of_ble_eq_true rfl) dX1_mostOf_44 ⟨Nat.le_of_ble_eq_true rfl, Nat.le_of_ble_eq_true rfl⟩ (fun _ _ _ _ h => False.elim h) (fun v9 H hv9 hO1 => ?_)
            obtain ⟨_, rfl, rfl⟩ := hv9
            have hP := hO1.P hP
            have hS := hO1.S hS
            have hO := hO.tr hO1
            refine W.eq (g2 := F0 m 47 ls [.int (sq_z (sm_h p0 (nI i))), .int (nI (sm_pc (x &&& y) i))]) rfl ?_
            refine lv_if_eq (tgt := 54) hx hb dX1_mostOf_47 (by decide) (fun c_7 => ?_) (fun c_7 => ?_)
            · -- 47 -> 54
              refine lv_iconst (v := 0) hx hb dX1_mostOf_54 (by decide) ?_
              refine lv_iadd hx hb dX1_mostOf_55 ?_
              refine lv_istore_n (lv' := [(2, .int ((nI (sm_pc (x &&& y) i)) + 0)), (3, .int ((nI (sm_pc y i)) + 1)), (4, .int (nI i)), (0, .int p0), (1, .int p1)]) hx hb dX1_mostOf_56 rfl hl (by decide) rfl (fun ls hl => ?_)
              obtain ⟨v_8, ev_8⟩ : ∃ y : Int32, y = (nI i) + 1 := ⟨_, rfl⟩
              refine lv_iinc (v := v_8) (lv' := [(4, .int v_8), (2, .int ((nI (sm_pc (x &&& y) i)) + 0)), (3, .int ((nI (sm_pc y i)) + 1)), (0, .int p0), (1, .int p1)]) hx hb dX1_mostOf_57 hl (k := 2) rfl (by rw [ev_8]; rfl) (by decide) rfl (fun ls hl => ?_)
              refine lv_goto (tgt := 7) hx hb dX1_mostOf_60 (by decide) ?_
              obtain rfl : v_8 = nI (i + 1) := by rw [ev_8, nI_1]
              have t1 : sm_h p1 (nI i) = y.testBit i := by rw [ey]; exact sm_has y hy i hi9
              have t0 : sm_h p0 (nI i) = x.testBit i := by rw [ex]; exact sm_has x hx8 i hi9
              have e3 : nI (sm_pc y (i + 1)) = ((nI (sm_pc y i)) + 1) := by simp [sm_pc, ← t1, nI_1, c_1, (Int32.not_le.mp c_1), (sq_z_t c_3), (sq_z_t c_6), (sq_z_f c_7)]
              have e2 : nI (sm_pc (x &&& y) (i + 1)) = ((nI (sm_pc (x &&& y) i)) + 0) := by simp [sm_pc, Nat.testBit_and, ← t1, ← t0, nI_1, c_1, (Int32.not_le.mp c_1), (sq_z_t c_3), (sq_z_t c_6), (sq_z_f c_7)]
              exact ih (i + 1) H ls (by omega) (by omega) hP hS hO (by rw [e3, e2]; exact lv_sub hl [0, 2, 1, 3, 4] rfl)
            · -- 47 -> 50
              refine lv_iconst (v := 1) hx hb dX1_mostOf_50 (by decide) ?_
              refine lv_goto (tgt := 55) hx hb dX1_mostOf_51 (by decide) ?_
              refine lv_iadd hx hb dX1_mostOf_55 ?_
              refine lv_istore_n (lv' := [(2, .int ((nI (sm_pc (x &&& y) i)) + 1)), (3, .int ((nI (sm_pc y i)) + 1)), (4, .int (nI i)), (0, .int p0), (1, .int p1)]) hx hb dX1_mostOf_56 rfl hl (by decide) rfl (fun ls hl => ?_)
              obtain ⟨v_9, ev_9⟩ : ∃ y : Int32, y = (nI i) + 1 := ⟨_, rfl⟩
              refine lv_iinc (v := v_9) (lv' := [(4, .int v_9), (2, .int ((nI (sm_pc (x &&& y) i)) + 1)), (3, .int ((nI (sm_pc y i)) + 1)), (0, .int p0), (1, .int p1)]) hx hb dX1_mostOf_57 hl (k := 2) rfl (by rw [ev_9]; rfl) (by decide) rfl (fun ls hl => ?_)
              refine lv_goto (tgt := 7) hx hb dX1_mostOf_60 (by decide) ?_
              obtain rfl : v_9 = nI (i + 1) := by rw [ev_9, nI_1]
              have t1 : sm_h p1 (nI i) = y.testBit i := by rw [ey]; exact sm_has y hy i hi9
              have t0 : sm_h p0 (nI i) = x.testBit i := by rw [ex]; exact sm_has x hx8 i hi9
              have e3 : nI (sm_pc y (i + 1)) = ((nI (sm_pc y i)) + 1) := by simp [sm_pc, ← t1, nI_1, c_1, (Int32.not_le.mp c_1), (sq_z_t c_3), (sq_z_t c_6), (sq_z_t c_7)]
              have e2 : nI (sm_pc (x &&& y) (i + 1)) = ((nI (sm_pc (x &&& y) i)) + 1) := by simp [sm_pc, Nat.testBit_and, ← t1, ← t0, nI_1, c_1, (Int32.not_le.mp c_1), (sq_z_t c_3), (sq_z_t c_6), (sq_z_t c_7)]
              exact ih (i + 1) H ls (by omega) (by omega) hP hS hO (by rw [e3, e2]; exact lv_sub hl [0, 2, 1, 3, 4] rfl)
  exact loop 8 0 _ ls (by decide) (by decide) hP hS hO (lv_sub hl [0, 1, 2, 3, 4] rfl)
set_option maxHeartbeats 4000000 in
set_option maxRecDepth 100000 in
theorem c_X1_carries (l : Launch) (hl9 : l.stackTraces = false) (D : va_G) (cI : ClassId) (ty : kz_Y) (bd : Nat → Nat) (rs : va_W) (sz : Nat) (th it o n g v r : Int32) (al : Nat → Int32) (p0 : Int32) (hM : sv_m it o n g v) (hs : sq_S p0 = true) : ez_M l yX1_carries wsX1_carries ({ frames := 2, cells := 1, slots := 6, locals := 45 } : Room) (kz_P D ((cI, .int) :: ty) (wM bd cI th it o n g v r al ++ rs) sz [.ref (bd 0), .int p0]) (kz_Ro (kz_i (fun r9 => r9 = (sq_z (sq_M o n p0))))) (kz_T (fun _ => IAE) (fun _ => False)) 0 0 (fun _ => False) := by
  refine ez_ofW (cc := cX1_carries) (maxL := 2) (ret := (some .boolean)) (by decide) rfl ?_
  intro p e s m args below meth c s₁ B hml hTab hv
  obtain ⟨rfl, hsz, hP, hK, hD0, hE⟩ := hv
  have hx := B.exec
  have hb := B.bytes
  have hr := B.returns
  have hw9 : ∀ w ∈ kz_W9, w.before ([.ref (bd 0), .int p0] : List Value).toArray s = true := fun w h => atoms_spec (ws := wsX1_carries) B.pre w (List.mem_cons_of_mem _ h)
  have hown : s.vm.findClass RX1 = some m.cls := findClass_of_methodNamed B.named
  have hlocks := B.notSynchronized
  subst hsz
  have hD := hD0.self (sz := s.heap.size)
  generalize hAe : va_A (wM bd cI th it o n g v r al ++ rs) s.heap.size = A at hD hE
  have hA : ∀ q : Nat, s.heap.size ≤ q → A q := fun q h => by rw [← hAe]; exact Or.inr h
  have hS : va_S A s.heap s.heap [] := va_S.rf
  have hO : kz_O s.heap s.heap := kz_O.rf _
  have hl := lv_entry ([.ref (bd 0), .int p0]) (n := 2) (Nat.le_of_ble_eq_true rfl)
  rw [lg_entry_eq]
  generalize (lg_sl ([.ref (bd 0), .int p0]) ++ List.replicate (2 - (lg_sl ([.ref (bd 0), .int p0])).length) Slot.unset).toArray = ls at hl ⊢
  have hl : lv_has ls 2 [(0, .ref (bd 0)), (1, .int p0)] := hl
  obtain ⟨hIt, hOo, hNn, hGg, hVv⟩ := id hM
  obtain ⟨xo, ho8, eo⟩ := sm_S hOo
  obtain ⟨xn, hn8, en⟩ := sm_S hNn
  obtain ⟨xg, hg8, eg⟩ := sm_S hGg
  obtain ⟨xv, hv8, ev⟩ := sm_S hVv
  obtain ⟨hIa, hIe⟩ := sm_srv hIt
  obtain ⟨xs, hs8, es⟩ := sm_S hs
  refine lv_iload_n hx hb dX1_carries_0 rfl (lv_at hl 1 rfl) ?_
  refine lv_aload_n hx hb dX1_carries_1 rfl (lv_at hl 0 rfl) ?_
  refine va_get (D := D) (ci := 1) (v := .int o) (C := RX1) (T := TX1) (N := 8) hx hb hw9 uX1 hown hK hP 0 rfl rfl 2 (by decide) (hw9 _ mw_362) (fun _ h9 => h9) rfl dX1_carries_2 ?_
  refine kz_rS (As := [.int p0, .int o]) (rest := []) ⟨hx, hb, hml, hown, hw9⟩ (c_X1_mostOf l hl9 D ((cI, .int) :: ty) (wM bd cI th it o n g v r al ++ rs) s.heap.size xs xo p0 o hs8 ho8 es eo) (kz_cS 2 hw9 mw_423 mw_424 mw_2 mw_425 rfl rfl (by decide +kernel) ⟨Nat.le_of_ble_eq_true rfl, Nat.le_of_ble_eq_true rfl⟩) (kz_preS hK hP hD hS hA hE) rfl hl.1 rfl (Nat.le_of_ble_eq_true rfl) dX1_carries_5 ⟨Nat.le_of_ble_eq_true rfl, Nat.le_of_ble_eq_true rfl⟩ (fun _ _ _ _ h => False.elim h) (fun v9 H hv9 hO1 => ?_)
  obtain ⟨_, rfl, rfl⟩ := hv9
  have hP := hO1.P hP
  have hS := hO1.S hS
  have hO := hO.tr hO1
  refine W.eq (g2 := F0 m 8 ls [.int (sq_z (sq_H p0 o))]) rfl ?_
  refine lv_if_eq (tgt := 33) hx hb dX1_carries_8 (by decide) (fun c_1 => ?_) (fun c_1 => ?_)
  · -- 8 -> 33
    refine lv_iconst (v := 0) hx hb dX1_carries_33 (by decide) ?_
    exact kz_retz hx hb hr hlocks hO (by first | (simp [sq_z, sq_M, (sq_z_f c_1)]; done) | (simp only [sq_z, sq_M, (sq_z_f c_1), eq_self, not_true_eq_false, not_false_eq_true, and_self, and_true, true_and, and_false, false_and, or_true, true_or, or_false, false_or, if_true, if_false, ite_true, ite_false, Bool.and_eq_true, decide_true, decide_false, decide_eq_true_eq, ne_eq, Nat.reduceEqDiff, Nat.one_ne_zero, Bool.false_eq_true, reduceCtorEq]; done) | (simp only [sq_z, sq_M, (sq_z_f c_1), eq_self, not_true_eq_false, not_false_eq_true, and_self, and_true, true_and, and_false, false_and, or_true, true_or, or_false, false_or, if_true, if_false, ite_true, ite_false, Bool.and_eq_true, decide_true, decide_false, decide_eq_true_eq, ne_eq, Nat.reduceEqDiff, Nat.one_ne_zero, Bool.false_eq_true, reduceCtorEq]; decide)) rfl dX1_carries_34
  · -- 8 -> 11
    refine lv_aload_n hx hb dX1_carries_11 rfl (lv_at hl 0 rfl) ?_
    refine va_get (D := D) (ci := 1) (v := .int n) (C := RX1) (T := TX1) (N := 8) hx hb hw9 uX1 hown hK hP 0 rfl rfl 3 (by decide) (hw9 _ mw_363) (fun _ h9 => h9) rfl dX1_carries_12 ?_
    refine lv_if_eq (tgt := 29) hx hb dX1_carries_15 (by decide) (fun c_2 => ?_) (fun c_2 => ?_)
    · -- 15 -> 29
      refine lv_iconst (v := 1) hx hb dX1_carries_29 (by decide) ?_
      refine lv_goto (tgt := 34) hx hb dX1_carries_30 (by decide) ?_
      exact kz_retz hx hb hr hlocks hO (by first | (simp [sq_z, sq_M, (sq_z_t c_1), c_2]; done) | (simp only [sq_z, sq_M, (sq_z_t c_1), c_2, eq_self, not_true_eq_false, not_false_eq_true, and_self, and_true, true_and, and_false, false_and, or_true, true_or, or_false, false_or, if_true, if_false, ite_true, ite_false, Bool.and_eq_true, decide_true, decide_false, decide_eq_true_eq, ne_eq, Nat.reduceEqDiff, Nat.one_ne_zero, Bool.false_eq_true, reduceCtorEq]; done) | (simp only [sq_z, sq_M, (sq_z_t c_1), c_2, eq_self, not_true_eq_false, not_false_eq_true, and_self, and_true, true_and, and_false, false_and, or_true, true_or, or_false, false_or, if_true, if_false, ite_true, ite_false, Bool.and_eq_true, decide_true, decide_false, decide_eq_true_eq, ne_eq, Nat.reduceEqDiff, Nat.one_ne_zero, Bool.false_eq_true, reduceCtorEq]; decide)) rfl dX1_carries_34
    · -- 15 -> 18
      refine lv_iload_n hx hb dX1_carries_18 rfl (lv_at hl 1 rfl) ?_
      refine lv_aload_n hx hb dX1_carries_19 rfl (lv_at hl 0 rfl) ?_
      refine va_get (D := D) (ci := 1) (v := .int n) (C := RX1) (T := TX1) (N := 8) hx hb hw9 uX1 hown hK hP 0 rfl rfl 3 (by decide) (hw9 _ mw_363) (fun _ h9 => h9) rfl dX1_carries_20 ?_
      refine kz_rS (As := [.int p0, .int n]) (rest := []) ⟨hx, hb, hml, hown, hw9⟩ (c_X1_mostOf l hl9 D ((cI, .int) :: ty) (wM bd cI th it o n g v r al ++ rs) H.size xs xn p0 n hs8 hn8 es en) (kz_cS 2 hw9 mw_423 mw_424 mw_2 mw_425 rfl rfl (by decide +kernel) ⟨Nat.le_of_ble_eq_true rfl, Nat.le_of_ble_eq_true rfl⟩) (kz_preS hK hP hD hS hA hE) rfl hl.1 rfl (Nat.le_of_ble_eq_true rfl) dX1_carries_23 ⟨Nat.le_of_ble_eq_true rfl, Nat.le_of_ble_eq_true rfl⟩ (fun _ _ _ _ h => False.elim h) (fun v9 H hv9 hO1 => ?_)
      obtain ⟨_, rfl, rfl⟩ := hv9
      have hP := hO1.P hP
      have hS := hO1.S hS
      have hO := hO.tr hO1
      refine W.eq (g2 := F0 m 26 ls [.int (sq_z (sq_H p0 n))]) rfl ?_
      refine lv_if_eq (tgt := 33) hx hb dX1_carries_26 (by decide) (fun c_3 => ?_) (fun c_3 => ?_)
      · -- 26 -> 33
        refine lv_iconst (v := 0) hx hb dX1_carries_33 (by decide) ?_
        exact kz_retz hx hb hr hlocks hO (by first | (simp [sq_z, sq_M, (sq_z_t c_1), c_2, (sq_z_f c_3)]; done) | (simp only [sq_z, sq_M, (sq_z_t c_1), c_2, (sq_z_f c_3), eq_self, not_true_eq_false, not_false_eq_true, and_self, and_true, true_and, and_false, false_and, or_true, true_or, or_false, false_or, if_true, if_false, ite_true, ite_false, Bool.and_eq_true, decide_true, decide_false, decide_eq_true_eq, ne_eq, Nat.reduceEqDiff, Nat.one_ne_zero, Bool.false_eq_true, reduceCtorEq]; done) | (simp only [sq_z, sq_M, (sq_z_t c_1), c_2, (sq_z_f c_3), eq_self, not_true_eq_false, not_false_eq_true, and_self, and_true, true_and, and_false, false_and, or_true, true_or, or_false, false_or, if_true, if_false, ite_true, ite_false, Bool.and_eq_true, decide_true, decide_false, decide_eq_true_eq, ne_eq, Nat.reduceEqDiff, Nat.one_ne_zero, Bool.false_eq_true, reduceCtorEq]; decide)) rfl dX1_carries_34
      · -- 26 -> 29
        refine lv_iconst (v := 1) hx hb dX1_carries_29 (by decide) ?_
        refine lv_goto (tgt := 34) hx hb dX1_carries_30 (by decide) ?_
        exact kz_retz hx hb hr hlocks hO (by first | (simp [sq_z, sq_M, (sq_z_t c_1), c_2, (sq_z_t c_3)]; done) | (simp only [sq_z, sq_M, (sq_z_t c_1), c_2, (sq_z_t c_3), eq_self, not_true_eq_false, not_false_eq_true, and_self, and_true, true_and, and_false, false_and, or_true, true_or, or_false, false_or, if_true, if_false, ite_true, ite_false, Bool.and_eq_true, decide_true, decide_false, decide_eq_true_eq, ne_eq, Nat.reduceEqDiff, Nat.one_ne_zero, Bool.false_eq_true, reduceCtorEq]; done) | (simp only [sq_z, sq_M, (sq_z_t c_1), c_2, (sq_z_t c_3), eq_self, not_true_eq_false, not_false_eq_true, and_self, and_true, true_and, and_false, false_and, or_true, true_or, or_false, false_or, if_true, if_false, ite_true, ite_false, Bool.and_eq_true, decide_true, decide_false, decide_eq_true_eq, ne_eq, Nat.reduceEqDiff, Nat.one_ne_zero, Bool.false_eq_true, reduceCtorEq]; decide)) rfl dX1_carries_34
