set_option maxHeartbeats 4000000 in
set_option maxRecDepth 100000 in
theorem c_X1_peers (l : Launch) (hl9 : l.stackTraces = false) (D : va_G) (cI : ClassId) (ty : kz_Y) (bd : Nat → Nat) (rs : va_W) (sz : Nat) (th it o n g v r : Int32) (al : Nat → Int32) (hM : sv_m it o n g v) : ez_M l yX1_peers wsX1_peers ({ frames := 1, cells := 1, slots := 6, locals := 21 } : Room) (kz_P D ((cI, .int) :: ty) (wM bd cI th it o n g v r al ++ rs) sz [.ref (bd 0)]) (kz_Ro (kz_i (fun r9 => r9 = (sq_P it o n g)))) (kz_T (fun _ => IAE) (fun _ => False)) 0 0 (fun _ => False) := by
  refine ez_ofW (cc := cX1_peers) (maxL := 3) (ret := (some .int)) (by decide) rfl ?_
  intro p e s m args below meth c s₁ B hml hTab hv
  obtain ⟨rfl, hsz, hP, hK, hD0, hE⟩ := hv
  have hx := B.exec
  have hb := B.bytes
  have hr := B.returns
  have hw9 : ∀ w ∈ kz_W9, w.before ([.ref (bd 0)] : List Value).toArray s = true := fun w h => atoms_spec (ws := wsX1_peers) B.pre w (List.mem_cons_of_mem _ h)
  have hown : s.vm.findClass RX1 = some m.cls := findClass_of_methodNamed B.named
  have hlocks := B.notSynchronized
  subst hsz
  have hD := hD0.self (sz := s.heap.size)
  generalize hAe : va_A (wM bd cI th it o n g v r al ++ rs) s.heap.size = A at hD hE
  have hA : ∀ q : Nat, s.heap.size ≤ q → A q := fun q h => by rw [← hAe]; exact Or.inr h
  have hS : va_S A s.heap s.heap [] := va_S.rf
  have hO : kz_O s.heap s.heap := kz_O.rf _
  have hl := lv_entry ([.ref (bd 0)]) (n := 3) (Nat.le_of_ble_eq_true rfl)
  rw [lg_entry_eq]
  generalize (lg_sl ([.ref (bd 0)]) ++ List.replicate (3 - (lg_sl ([.ref (bd 0)])).length) Slot.unset).toArray = ls at hl ⊢
  have hl : lv_has ls 3 [(0, .ref (bd 0))] := hl
  obtain ⟨hIt, hOo, hNn, hGg, hVv⟩ := id hM
  obtain ⟨xo, ho8, eo⟩ := sm_S hOo
  obtain ⟨xn, hn8, en⟩ := sm_S hNn
  obtain ⟨xg, hg8, eg⟩ := sm_S hGg
  obtain ⟨xv, hv8, ev⟩ := sm_S hVv
  obtain ⟨hIa, hIe⟩ := sm_srv hIt
  refine lv_iconst (v := 0) hx hb dX1_peers_0 (by decide) ?_
  refine lv_istore_n (lv' := [(1, .int 0), (0, .ref (bd 0))]) hx hb dX1_peers_1 rfl hl (by decide) rfl (fun ls hl => ?_)
  refine lv_iconst (v := 0) hx hb dX1_peers_2 (by decide) ?_
  refine lv_istore_n (lv' := [(2, .int 0), (1, .int 0), (0, .ref (bd 0))]) hx hb dX1_peers_3 rfl hl (by decide) rfl (fun ls hl => ?_)
  have loop : ∀ (k i : Nat) (H : Heap) (ls : Array Slot), i ≤ 7 → 7 < i + k → va_P D vwCl (wM bd cI th it o n g v r al ++ rs) H → va_S A s.heap H [] → kz_O s.heap H → lv_has ls 3 [(2, .int (nI i)), (1, .int (nI (sm_pp (xo ||| xn ||| xg) it.toNatClampNeg i))), (0, .ref (bd 0))] → W p l e (headSpec wsX1_peers ({ frames := 1, cells := 1, slots := 6, locals := 21 } : Room)).room s m ([.ref (bd 0)] : List Value).toArray below meth c H [] 0 0 (ez_MQ below (kz_Ro (kz_i (fun r9 => r9 = (sq_P it o n g)))) (kz_T (fun _ => IAE) (fun _ => False)) s 0 0 (fun _ => False)) (F0 m 4 ls []) := by
    intro k
    induction k with
    | zero => intro i H ls h1 h2; omega
    | succ k ih =>
      intro i H ls h1 h2 hP hS hO hl
      refine lv_iload_n hx hb dX1_peers_4 rfl (lv_at hl 0 rfl) ?_
      refine lv_bipush (v := 7) hx hb dX1_peers_5 (by decide) ?_
      refine lv_icmp_ge (tgt := 67) hx hb dX1_peers_7 (by decide) (fun c_1 => ?_) (fun c_1 => ?_)
      · -- 7 -> 67
        refine lv_iload_n hx hb dX1_peers_67 rfl (lv_at hl 1 rfl) ?_
        exact kz_reti hx hb hr hlocks hO (by rw [show i = 7 from kz_i7 h1 c_1]; exact sm_peers hIa hIe ho8 hn8 hg8 eo en eg)  dX1_peers_68
      · -- 7 -> 10
        have hi9 : i < 7 := kz_l7 h1 c_1
        have hc9 : (nI i).toNatClampNeg = i := nI_clamp (by omega)
        refine lv_iload_n hx hb dX1_peers_10 rfl (lv_at hl 1 rfl) ?_
        refine lv_iload_n hx hb dX1_peers_11 rfl (lv_at hl 0 rfl) ?_
        refine lv_aload_n hx hb dX1_peers_12 rfl (lv_at hl 2 rfl) ?_
        refine va_get (D := D) (ci := 1) (v := .int it) (C := RX1) (T := TX1) (N := 8) hx hb hw9 uX1 hown hK hP 0 rfl rfl 1 (by decide) (hw9 _ mw_361) (fun _ h9 => h9) rfl dX1_peers_13 ?_
        refine lv_icmp_eq (tgt := 58) hx hb dX1_peers_16 (by decide) (fun c_2 => ?_) (fun c_2 => ?_)
        · -- 16 -> 58
          refine lv_iconst (v := 0) hx hb dX1_peers_58 (by decide) ?_
          refine lv_iadd hx hb dX1_peers_59 ?_
          refine lv_istore_n (lv' := [(1, .int ((nI (sm_pp (xo ||| xn ||| xg) it.toNatClampNeg i)) + 0)), (2, .int (nI i)), (0, .ref (bd 0))]) hx hb dX1_peers_60 rfl hl (by decide) rfl (fun ls hl => ?_)
          obtain ⟨v_3, ev_3⟩ : ∃ y : Int32, y = (nI i) + 1 := ⟨_, rfl⟩
          refine lv_iinc (v := v_3) (lv' := [(2, .int v_3), (1, .int ((nI (sm_pp (xo ||| xn ||| xg) it.toNatClampNeg i)) + 0)), (0, .ref (bd 0))]) hx hb dX1_peers_61 hl (k := 1) rfl (by rw [ev_3]; rfl) (by decide) rfl (fun ls hl => ?_)
          refine lv_goto (tgt := 4) hx hb dX1_peers_64 (by decide) ?_
          obtain rfl : v_3 = nI (i + 1) := by rw [ev_3, nI_1]
          have to : sm_h o (nI i) = xo.testBit i := by rw [eo]; exact sm_has xo ho8 i hi9
          have tn : sm_h n (nI i) = xn.testBit i := by rw [en]; exact sm_has xn hn8 i hi9
          have tg : sm_h g (nI i) = xg.testBit i := by rw [eg]; exact sm_has xg hg8 i hi9
          have ti : (nI i = it) = (i = it.toNatClampNeg) := propext ⟨fun h => by rw [← h]; exact hc9.symm, fun h => by rw [hIe, ← h]⟩
          have e1 : nI (sm_pp (xo ||| xn ||| xg) it.toNatClampNeg (i + 1)) = ((nI (sm_pp (xo ||| xn ||| xg) it.toNatClampNeg i)) + 0) := sm_pps hi9 (by simp [Nat.testBit_or, nI_0, sm_2k i hi9, ← to, ← tn, ← tg, ← ti, c_1, (Int32.not_le.mp c_1), c_2])
          exact ih (i + 1) H ls (by omega) (by omega) hP hS hO (by rw [e1]; exact lv_sub hl [0, 1, 2] rfl)
        · -- 16 -> 19
          refine lv_aload_n hx hb dX1_peers_19 rfl (lv_at hl 2 rfl) ?_
          refine va_get (D := D) (ci := 1) (v := .int o) (C := RX1) (T := TX1) (N := 8) hx hb hw9 uX1 hown hK hP 0 rfl rfl 2 (by decide) (hw9 _ mw_362) (fun _ h9 => h9) rfl dX1_peers_20 ?_
          refine lv_iload_n hx hb dX1_peers_23 rfl (lv_at hl 0 rfl) ?_
          refine kz_rS (As := [.int o, .int (nI i)]) (rest := [.int (nI (sm_pp (xo ||| xn ||| xg) it.toNatClampNeg i))]) ⟨hx, hb, hml, hown, hw9⟩ (c_X1_has l hl9 D ((cI, .int) :: ty) (wM bd cI th it o n g v r al ++ rs) H.size o (nI i)) (kz_cS 2 hw9 mw_400 mw_401 mw_2 mw_402 rfl rfl (by decide +kernel) ⟨Nat.le_of_ble_eq_true rfl, Nat.le_of_ble_eq_true rfl⟩) (kz_preS hK hP hD hS hA hE) rfl hl.1 rfl (Nat.le_of_ble_eq_true rfl) dX1_peers_24 ⟨Nat.le_of_ble_eq_true rfl, Nat.le_of_ble_eq_true rfl⟩ (fun _ _ _ _ h => False.elim h) (fun v9 H hv9 hO1 => ?_)
          obtain ⟨_, rfl, rfl⟩ := hv9
          have hP := hO1.P hP
          have hS := hO1.S hS
          have hO := hO.tr hO1
          refine W.eq (g2 := F0 m 27 ls [.int (sq_z (sm_h o (nI i))), .int (nI (sm_pp (xo ||| xn ||| xg) it.toNatClampNeg i))]) rfl ?_
          refine lv_if_ne (tgt := 52) hx hb dX1_peers_27 (by decide) (fun c_4 => ?_) (fun c_4 => ?_)
          · -- 27 -> 52
            refine lv_iconst (v := 1) hx hb dX1_peers_52 (by decide) ?_
            refine lv_iload_n hx hb dX1_peers_53 rfl (lv_at hl 0 rfl) ?_
            refine lv_ishl hx hb dX1_peers_54 ?_
            refine lv_goto (tgt := 59) hx hb dX1_peers_55 (by decide) ?_
            refine lv_iadd hx hb dX1_peers_59 ?_
            refine lv_istore_n (lv' := [(1, .int ((nI (sm_pp (xo ||| xn ||| xg) it.toNatClampNeg i)) + (1 <<< ((nI i) &&& 31)))), (2, .int (nI i)), (0, .ref (bd 0))]) hx hb dX1_peers_60 rfl hl (by decide) rfl (fun ls hl => ?_)
            obtain ⟨v_5, ev_5⟩ : ∃ y : Int32, y = (nI i) + 1 := ⟨_, rfl⟩
            refine lv_iinc (v := v_5) (lv' := [(2, .int v_5), (1, .int ((nI (sm_pp (xo ||| xn ||| xg) it.toNatClampNeg i)) + (1 <<< ((nI i) &&& 31)))), (0, .ref (bd 0))]) hx hb dX1_peers_61 hl (k := 1) rfl (by rw [ev_5]; rfl) (by decide) rfl (fun ls hl => ?_)
            refine lv_goto (tgt := 4) hx hb dX1_peers_64 (by decide) ?_
            obtain rfl : v_5 = nI (i + 1) := by rw [ev_5, nI_1]
            have to : sm_h o (nI i) = xo.testBit i := by rw [eo]; exact sm_has xo ho8 i hi9
            have tn : sm_h n (nI i) = xn.testBit i := by rw [en]; exact sm_has xn hn8 i hi9
            have tg : sm_h g (nI i) = xg.testBit i := by rw [eg]; exact sm_has xg hg8 i hi9
            have ti : (nI i = it) = (i = it.toNatClampNeg) := propext ⟨fun h => by rw [← h]; exact hc9.symm, fun h => by rw [hIe, ← h]⟩
            have e1 : nI (sm_pp (xo ||| xn ||| xg) it.toNatClampNeg (i + 1)) = ((nI (sm_pp (xo ||| xn ||| xg) it.toNatClampNeg i)) + (1 <<< ((nI i) &&& 31))) := sm_pps hi9 (by simp [Nat.testBit_or, nI_0, sm_2k i hi9, ← to, ← tn, ← tg, ← ti, c_1, (Int32.not_le.mp c_1), c_2, (sq_z_t c_4)])
            exact ih (i + 1) H ls (by omega) (by omega) hP hS hO (by rw [e1]; exact lv_sub hl [0, 1, 2] rfl)
          · -- 27 -> 30
            refine lv_aload_n hx hb dX1_peers_30 rfl (lv_at hl 2 rfl) ?_
            refine va_get (D := D) (ci := 1) (v := .int n) (C := RX1) (T := TX1) (N := 8) hx hb hw9 uX1 hown hK hP 0 rfl rfl 3 (by decide) (hw9 _ mw_363) (fun _ h9 => h9) rfl dX1_peers_31 ?_
            refine lv_iload_n hx hb dX1_peers_34 rfl (lv_at hl 0 rfl) ?_
            refine kz_rS (As := [.int n, .int (nI i)]) (rest := [.int (nI (sm_pp (xo ||| xn ||| xg) it.toNatClampNeg i))]) ⟨hx, hb, hml, hown, hw9⟩ (c_X1_has l hl9 D ((cI, .int) :: ty) (wM bd cI th it o n g v r al ++ rs) H.size n (nI i)) (kz_cS 2 hw9 mw_400 mw_401 mw_2 mw_402 rfl rfl (by decide +kernel) ⟨Nat.le_of_ble_eq_true rfl, Nat.le_of_ble_eq_true rfl⟩) (kz_preS hK hP hD hS hA hE) rfl hl.1 rfl (Nat.le_of_ble_eq_true rfl) dX1_peers_35 ⟨Nat.le_of_ble_eq_true rfl, Nat.le_of_ble_eq_true rfl⟩ (fun _ _ _ _ h => False.elim h) (fun v9 H hv9 hO1 => ?_)
            obtain ⟨_, rfl, rfl⟩ := hv9
            have hP := hO1.P hP
            have hS := hO1.S hS
            have hO := hO.tr hO1
            refine W.eq (g2 := F0 m 38 ls [.int (sq_z (sm_h n (nI i))), .int (nI (sm_pp (xo ||| xn ||| xg) it.toNatClampNeg i))]) rfl ?_
            refine lv_if_ne (tgt := 52) hx hb dX1_peers_38 (by decide) (fun c_6 => ?_) (fun c_6 => ?_)
            · -- 38 -> 52
              refine lv_iconst (v := 1) hx hb dX1_peers_52 (by decide) ?_
              refine lv_iload_n hx hb dX1_peers_53 rfl (lv_at hl 0 rfl) ?_
              refine lv_ishl hx hb dX1_peers_54 ?_
              refine lv_goto (tgt := 59) hx hb dX1_peers_55 (by decide) ?_
              refine lv_iadd hx hb dX1_peers_59 ?_
              refine lv_istore_n (lv' := [(1, .int ((nI (sm_pp (xo ||| xn ||| xg) it.toNatClampNeg i)) + (1 <<< ((nI i) &&& 31)))), (2, .int (nI i)), (0, .ref (bd 0))]) hx hb dX1_peers_60 rfl hl (by decide) rfl (fun ls hl => ?_)
              obtain ⟨v_7, ev_7⟩ : ∃ y : Int32, y = (nI i) + 1 := ⟨_, rfl⟩
              refine lv_iinc (v := v_7) (lv' := [(2, .int v_7), (1, .int ((nI (sm_pp (xo ||| xn ||| xg) it.toNatClampNeg i)) + (1 <<< ((nI i) &&& 31)))), (0, .ref (bd 0))]) hx hb dX1_peers_61 hl (k := 1) rfl (by rw [ev_7]; rfl) (by decide) rfl (fun ls hl => ?_)
              refine lv_goto (tgt := 4) hx hb dX1_peers_64 (by decide) ?_
              obtain rfl : v_7 = nI (i + 1) := by rw [ev_7, nI_1]
              have to : sm_h o (nI i) = xo.testBit i := by rw [eo]; exact sm_has xo ho8 i hi9
              have tn : sm_h n (nI i) = xn.testBit i := by rw [en]; exact sm_has xn hn8 i hi9
              have tg : sm_h g (nI i) = xg.testBit i := by rw [eg]; exact sm_has xg hg8 i hi9
              have ti : (nI i = it) = (i = it.toNatClampNeg) := propext ⟨fun h => by rw [← h]; exact hc9.symm, fun h => by rw [hIe, ← h]⟩
              have e1 : nI (sm_pp (xo ||| xn ||| xg) it.toNatClampNeg (i + 1)) = ((nI (sm_pp (xo ||| xn ||| xg) it.toNatClampNeg i)) + (1 <<< ((nI i) &&& 31))) := sm_pps hi9 (by simp [Nat.testBit_or, nI_0, sm_2k i hi9, ← to, ← tn, ← tg, ← ti, c_1, (Int32.not_le.mp c_1), c_2, (sq_z_f c_4), (sq_z_t c_6)])
              exact ih (i + 1) H ls (by omega) (by omega) hP hS hO (by rw [e1]; exact lv_sub hl [0, 1, 2] rfl)
            · -- 38 -> 41
              refine lv_aload_n hx hb dX1_peers_41 rfl (lv_at hl 2 rfl) ?_
              refine va_get (D := D) (ci := 1) (v := .int g) (C := RX1) (T := TX1) (N := 8) hx hb hw9 uX1 hown hK hP 0 rfl rfl 4 (by decide) (hw9 _ mw_364) (fun _ h9 => h9) rfl dX1_peers_42 ?_
              refine lv_iload_n hx hb dX1_peers_45 rfl (lv_at hl 0 rfl) ?_
              refine kz_rS (As := [.int g, .int (nI i)]) (rest := [.int (nI (sm_pp (xo ||| xn ||| xg) it.toNatClampNeg i))]) ⟨hx, hb, hml, hown, hw9⟩ (c_X1_has l hl9 D ((cI, .int) :: ty) (wM bd cI th it o n g v r al ++ rs) H.size g (nI i)) (kz_cS 2 hw9 mw_400 mw_401 mw_2 mw_402 rfl rfl (by decide +kernel) ⟨Nat.le_of_ble_eq_true rfl, Nat.le_of_ble_eq_true rfl⟩) (kz_preS hK hP hD hS hA hE) rfl hl.1 rfl (Nat.le_of_ble_eq_true rfl) dX1_peers_46 ⟨Nat.le_of_ble_eq_true rfl, Nat.le_of_ble_eq_true rfl⟩ (fun _ _ _ _ h => False.elim h) (fun v9 H hv9 hO1 => ?_)
              obtain ⟨_, rfl, rfl⟩ := hv9
              have hP := hO1.P hP
              have hS := hO1.S hS
              have hO := hO.tr hO1
              refine W.eq (g2 := F0 m 49 ls [.int (sq_z (sm_h g (nI i))), .int (nI (sm_pp (xo ||| xn ||| xg) it.toNatClampNeg i))]) rfl ?_
              refine lv_if_eq (tgt := 58) hx hb dX1_peers_49 (by decide) (fun c_8 => ?_) (fun c_8 => ?_)
              · -- 49 -> 58
                refine lv_iconst (v := 0) hx hb dX1_peers_58 (by decide) ?_
                refine lv_iadd hx hb dX1_peers_59 ?_
                refine lv_istore_n (lv' := [(1, .int ((nI (sm_pp (xo ||| xn ||| xg) it.toNatClampNeg i)) + 0)), (2, .int (nI i)), (0, .ref (bd 0))]) hx hb dX1_peers_60 rfl hl (by decide) rfl (fun ls hl => ?_)
                obtain ⟨v_9, ev_9⟩ : ∃ y : Int32, y = (nI i) + 1 := ⟨_, rfl⟩
                refine lv_iinc (v := v_9) (lv' := [(2, .int v_9), (1, .int ((nI (sm_pp (xo ||| xn ||| xg) it.toNatClampNeg i)) + 0)), (0, .ref (bd 0))]) hx hb dX1_peers_61 hl (k := 1) rfl (by rw [ev_9]; rfl) (by decide) rfl (fun ls hl => ?_)
                refine lv_goto (tgt := 4) hx hb dX1_peers_64 (by decide) ?_
                obtain rfl : v_9 = nI (i + 1) := by rw [ev_9, nI_1]
                have to : sm_h o (nI i) = xo.testBit i := by rw [eo]; exact sm_has xo ho8 i hi9
                have tn : sm_h n (nI i) = xn.testBit i := by rw [en]; exact sm_has xn hn8 i hi9
                have tg : sm_h g (nI i) = xg.testBit i := by rw [eg]; exact sm_has xg hg8 i hi9
                have ti : (nI i = it) = (i = it.toNatClampNeg) := propext ⟨fun h => by rw [← h]; exact hc9.symm, fun h => by rw [hIe, ← h]⟩
                have e1 : nI (sm_pp (xo ||| xn ||| xg) it.toNatClampNeg (i + 1)) = ((nI (sm_pp (xo ||| xn ||| xg) it.toNatClampNeg i)) + 0) := sm_pps hi9 (by simp [Nat.testBit_or, nI_0, sm_2k i hi9, ← to, ← tn, ← tg, ← ti, c_1, (Int32.not_le.mp c_1), c_2, (sq_z_f c_4), (sq_z_f c_6), (sq_z_f c_8)])
                exact ih (i + 1) H ls (by omega) (by omega) hP hS hO (by rw [e1]; exact lv_sub hl [0, 1, 2] rfl)
              · -- 49 -> 52
                refine lv_iconst (v := 1) hx hb dX1_peers_52 (by decide) ?_
                refine lv_iload_n hx hb dX1_peers_53 rfl (lv_at hl 0 rfl) ?_
                refine lv_ishl hx hb dX1_peers_54 ?_
                refine lv_goto (tgt := 59) hx hb dX1_peers_55 (by decide) ?_
                refine lv_iadd hx hb dX1_peers_59 ?_
                refine lv_istore_n (lv' := [(1, .int ((nI (sm_pp (xo ||| xn ||| xg) it.toNatClampNeg i)) + (1 <<< ((nI i) &&& 31)))), (2, .int (nI i)), (0, .ref (bd 0))]) hx hb dX1_peers_60 rfl hl (by decide) rfl (fun ls hl => ?_)
                obtain ⟨v_10, ev_10⟩ : ∃ y : Int32, y = (nI i) + 1 := ⟨_, rfl⟩
                refine lv_iinc (v := v_10) (lv' := [(2, .int v_10), (1, .int ((nI (sm_pp (xo ||| xn ||| xg) it.toNatClampNeg i)) + (1 <<< ((nI i) &&& 31)))), (0, .ref (bd 0))]) hx hb dX1_peers_61 hl (k := 1) rfl (by rw [ev_10]; rfl) (by decide) rfl (fun ls hl => ?_)
                refine lv_goto (tgt := 4) hx hb dX1_peers_64 (by decide) ?_
                obtain rfl : v_10 = nI (i + 1) := by rw [ev_10, nI_1]
                have to : sm_h o (nI i) = xo.testBit i := by rw [eo]; exact sm_has xo ho8 i hi9
                have tn : sm_h n (nI i) = xn.testBit i := by rw [en]; exact sm_has xn hn8 i hi9
                have tg : sm_h g (nI i) = xg.testBit i := by rw [eg]; exact sm_has xg hg8 i hi9
                have ti : (nI i = it) = (i = it.toNatClampNeg) := propext ⟨fun h => by rw [← h]; exact hc9.symm, fun h => by rw [hIe, ← h]⟩
                have e1 : nI (sm_pp (xo ||| xn ||| xg) it.toNatClampNeg (i + 1)) = ((nI (sm_pp (xo ||| xn ||| xg) it.toNatClampNeg i)) + (1 <<< ((nI i) &&& 31))) := sm_pps hi9 (by simp [Nat.testBit_or, nI_0, sm_2k i hi9, ← to, ← tn, ← tg, ← ti, c_1, (Int32.not_le.mp c_1), c_2, (sq_z_f c_4), (sq_z_f c_6), (sq_z_t c_8)])
                exact ih (i + 1) H ls (by omega) (by omega) hP hS hO (by rw [e1]; exact lv_sub hl [0, 1, 2] rfl)
  exact loop 8 0 _ ls (by decide) (by decide) hP hS hO (lv_sub hl [0, 1, 2] rfl)
set_option maxHeartbeats 4000000 in
set_option maxRecDepth 100000 in
theorem c_X1_members (l : Launch) (hl9 : l.stackTraces = false) (D : va_G) (cI : ClassId) (ty : kz_Y) (bd : Nat → Nat) (rs : va_W) (sz : Nat) (th it o n g v r : Int32) (nx mt fl pr ofs ak hd an : Nat → Int32) (p0 : Int32) (p1 : Int32) (p2 : Int32) : ez_M l yX1_members wsX1_members ({ frames := 1, cells := 1, slots := 6, locals := 20 } : Room) (kz_P D ((cI, .int) :: ty) (wM bd cI th it o n g v r (sm_al nx mt fl pr ofs ak hd an) ++ rs) sz [.ref (bd 0), .int p0, .int p1, .int p2]) (kz_Wr D (va_A (wM bd cI th it o n g v r (sm_al nx mt fl pr ofs ak hd an) ++ rs) sz) (kz_v (True)) (wM bd cI (nI (tc_members p0 p1 p2)) it (if tc_members p0 p1 p2 = 0 then p0 else o) (if tc_members p0 p1 p2 = 0 then p1 else n) (if tc_members p0 p1 p2 = 0 then p2 else g) v r (sm_al nx mt fl pr ofs ak hd an) ++ rs)) (kz_T (fun _ => IAE) (fun _ => False)) 0 0 (va_A (wM bd cI th it o n g v r (sm_al nx mt fl pr ofs ak hd an) ++ rs) sz) := by
  refine ez_ofW (cc := cX1_members) (maxL := 4) (ret := none) (by decide) rfl ?_
  intro p e s m args below meth c s₁ B hml hTab hv
  obtain ⟨rfl, hsz, hP, hK, hD0, hE⟩ := hv
  have hx := B.exec
  have hb := B.bytes
  have hr := B.returns
  have hw9 : ∀ w ∈ kz_W9, w.before ([.ref (bd 0), .int p0, .int p1, .int p2] : List Value).toArray s = true := fun w h => atoms_spec (ws := wsX1_members) B.pre w (List.mem_cons_of_mem _ h)
  have hown : s.vm.findClass RX1 = some m.cls := findClass_of_methodNamed B.named
  have hlocks := B.notSynchronized
  subst hsz
  have hD := hD0.self (sz := s.heap.size)
  generalize hAe : va_A (wM bd cI th it o n g v r (sm_al nx mt fl pr ofs ak hd an) ++ rs) s.heap.size = A at hD hE ⊢
  have hA : ∀ q : Nat, s.heap.size ≤ q → A q := fun q h => by rw [← hAe]; exact Or.inr h
  have hS : va_S A s.heap s.heap [] := va_S.rf
  have hO : kz_O s.heap s.heap := kz_O.rf _
  have hl := lv_entry ([.ref (bd 0), .int p0, .int p1, .int p2]) (n := 4) (Nat.le_of_ble_eq_true rfl)
  rw [lg_entry_eq]
  generalize (lg_sl ([.ref (bd 0), .int p0, .int p1, .int p2]) ++ List.replicate (4 - (lg_sl ([.ref (bd 0), .int p0, .int p1, .int p2])).length) Slot.unset).toArray = ls at hl ⊢
  have hl : lv_has ls 4 [(0, .ref (bd 0)), (1, .int p0), (2, .int p1), (3, .int p2)] := hl
  refine lv_aload_n hx hb dX1_members_0 rfl (lv_at hl 0 rfl) ?_
  refine lv_iconst (v := 0) hx hb dX1_members_1 (by decide) ?_
  refine va_put (D := D) (ci := 1) (v := .int 0) (ty := .int) (C := RX1) (T := TX1) (N := 8) hx hb hw9 uX1 tyX1 tyX1_ok nmX1 hown hK hP hD hS 0 rfl rfl 0 (by decide) (hw9 _ mw_360) (fun _ h9 => h9) rfl (by decide +kernel) rfl rfl (Nat.le_of_ble_eq_true rfl) dX1_members_2 (fun H locs hP hD hS => ?_)
  have hP : va_P D vwCl (wM bd cI 0 it o n g v r (sm_al nx mt fl pr ofs ak hd an) ++ rs) H := hP
  have hD : va_D A (wM bd cI 0 it o n g v r (sm_al nx mt fl pr ofs ak hd an) ++ rs) := hD
  refine lv_iload_n hx hb dX1_members_5 rfl (lv_at hl 1 rfl) ?_
  refine kz_rS (As := [.int p0]) (rest := []) ⟨hx, hb, hml, hown, hw9⟩ (c_X1_isSet l hl9 D ((cI, .int) :: ty) (wM bd cI 0 it o n g v r (sm_al nx mt fl pr ofs ak hd an) ++ rs) H.size p0) (kz_cS 1 hw9 mw_393 mw_394 mw_2 mw_395 rfl rfl (by decide +kernel) ⟨Nat.le_of_ble_eq_true rfl, Nat.le_of_ble_eq_true rfl⟩) (kz_preS hK hP hD hS hA hE) rfl hl.1 rfl (Nat.le_of_ble_eq_true rfl) dX1_members_6 ⟨Nat.le_of_ble_eq_true rfl, Nat.le_of_ble_eq_true rfl⟩ (fun _ _ _ _ h => False.elim h) (fun v9 H hv9 hO1 => ?_)
  obtain ⟨_, rfl, rfl⟩ := hv9
  have hP := hO1.P hP
  have hS := hO1.S hS
  refine W.eq (g2 := F0 m 9 ls [.int (sq_z (sq_S p0))]) rfl ?_
  refine lv_if_eq (tgt := 38) hx hb dX1_members_9 (by decide) (fun c_1 => ?_) (fun c_1 => ?_)
  · -- 9 -> 38
    refine lv_aload_n hx hb dX1_members_38 rfl (lv_at hl 0 rfl) ?_
    refine lv_iconst (v := 1) hx hb dX1_members_39 (by decide) ?_
    refine va_put (D := D) (ci := 1) (v := .int 1) (ty := .int) (C := RX1) (T := TX1) (N := 8) hx hb hw9 uX1 tyX1 tyX1_ok nmX1 hown hK hP hD hS 0 rfl rfl 0 (by decide) (hw9 _ mw_360) (fun _ h9 => h9) rfl (by decide +kernel) rfl rfl (Nat.le_of_ble_eq_true rfl) dX1_members_40 (fun H locs hP hD hS => ?_)
    have hP : va_P D vwCl (wM bd cI 1 it o n g v r (sm_al nx mt fl pr ofs ak hd an) ++ rs) H := hP
    have hD : va_D A (wM bd cI 1 it o n g v r (sm_al nx mt fl pr ofs ak hd an) ++ rs) := hD
    have htc : tc_members p0 p1 p2 = 1 := by first | (simp [tc_members, (sq_z_f c_1)]; done) | (simp only [tc_members, (sq_z_f c_1), eq_self, not_true_eq_false, not_false_eq_true, and_self, and_true, true_and, and_false, false_and, or_true, true_or, or_false, false_or, if_true, if_false, ite_true, ite_false, Bool.and_eq_true, decide_true, decide_false, decide_eq_true_eq, ne_eq, Nat.reduceEqDiff, Nat.one_ne_zero, Bool.false_eq_true, reduceCtorEq]; done) | (simp only [tc_members, (sq_z_f c_1), eq_self, not_true_eq_false, not_false_eq_true, and_self, and_true, true_and, and_false, false_and, or_true, true_or, or_false, false_or, if_true, if_false, ite_true, ite_false, Bool.and_eq_true, decide_true, decide_false, decide_eq_true_eq, ne_eq, Nat.reduceEqDiff, Nat.one_ne_zero, Bool.false_eq_true, reduceCtorEq]; decide)
    exact kz_wretv hx hb hr hlocks (by rw [htc]; exact hP) (by rw [htc]; exact hD) hS (Nat.le_of_ble_eq_true rfl) (Nat.le_of_ble_eq_true rfl) (trivial)  dX1_members_43
  · -- 9 -> 12
    refine lv_iload_n hx hb dX1_members_12 rfl (lv_at hl 2 rfl) ?_
    refine kz_rS (As := [.int p1]) (rest := []) ⟨hx, hb, hml, hown, hw9⟩ (c_X1_isSet l hl9 D ((cI, .int) :: ty) (wM bd cI 0 it o n g v r (sm_al nx mt fl pr ofs ak hd an) ++ rs) H.size p1) (kz_cS 1 hw9 mw_393 mw_394 mw_2 mw_395 rfl rfl (by decide +kernel) ⟨Nat.le_of_ble_eq_true rfl, Nat.le_of_ble_eq_true rfl⟩) (kz_preS hK hP hD hS hA hE) rfl hl.1 rfl (Nat.le_of_ble_eq_true rfl) dX1_members_13 ⟨Nat.le_of_ble_eq_true rfl, Nat.le_of_ble_eq_true rfl⟩ (fun _ _ _ _ h => False.elim h) (fun v9 H hv9 hO1 => ?_)
    obtain ⟨_, rfl, rfl⟩ := hv9
    have hP := hO1.P hP
    have hS := hO1.S hS
    refine W.eq (g2 := F0 m 16 ls [.int (sq_z (sq_S p1))]) rfl ?_
    refine lv_if_eq (tgt := 38) hx hb dX1_members_16 (by decide) (fun c_2 => ?_) (fun c_2 => ?_)
    · -- 16 -> 38
      refine lv_aload_n hx hb dX1_members_38 rfl (lv_at hl 0 rfl) ?_
      refine lv_iconst (v := 1) hx hb dX1_members_39 (by decide) ?_
      refine va_put (D := D) (ci := 1) (v := .int 1) (ty := .int) (C := RX1) (T := TX1) (N := 8) hx hb hw9 uX1 tyX1 tyX1_ok nmX1 hown hK hP hD hS 0 rfl rfl 0 (by decide) (hw9 _ mw_360) (fun _ h9 => h9) rfl (by decide +kernel) rfl rfl (Nat.le_of_ble_eq_true rfl) dX1_members_40 (fun H locs hP hD hS => ?_)
      have hP : va_P D vwCl (wM bd cI 1 it o n g v r (sm_al nx mt fl pr ofs ak hd an) ++ rs) H := hP
      have hD : va_D A (wM bd cI 1 it o n g v r (sm_al nx mt fl pr ofs ak hd an) ++ rs) := hD
      have htc : tc_members p0 p1 p2 = 1 := by first | (simp [tc_members, (sq_z_t c_1), (sq_z_f c_2)]; done) | (simp only [tc_members, (sq_z_t c_1), (sq_z_f c_2), eq_self, not_true_eq_false, not_false_eq_true, and_self, and_true, true_and, and_false, false_and, or_true, true_or, or_false, false_or, if_true, if_false, ite_true, ite_false, Bool.and_eq_true, decide_true, decide_false, decide_eq_true_eq, ne_eq, Nat.reduceEqDiff, Nat.one_ne_zero, Bool.false_eq_true, reduceCtorEq]; done) | (simp only [tc_members, (sq_z_t c_1), (sq_z_f c_2), eq_self, not_true_eq_false, not_false_eq_true, and_self, and_true, true_and, and_false, false_and, or_true, true_or, or_false, false_or, if_true, if_false, ite_true, ite_false, Bool.and_eq_true, decide_true, decide_false, decide_eq_true_eq, ne_eq, Nat.reduceEqDiff, Nat.one_ne_zero, Bool.false_eq_true, reduceCtorEq]; decide)
      exact kz_wretv hx hb hr hlocks (by rw [htc]; exact hP) (by rw [htc]; exact hD) hS (Nat.le_of_ble_eq_true rfl) (Nat.le_of_ble_eq_true rfl) (trivial)  dX1_members_43
    · -- 16 -> 19
      refine lv_iload_n hx hb dX1_members_19 rfl (lv_at hl 3 rfl) ?_
      refine kz_rS (As := [.int p2]) (rest := []) ⟨hx, hb, hml, hown, hw9⟩ (c_X1_isSet l hl9 D ((cI, .int) :: ty) (wM bd cI 0 it o n g v r (sm_al nx mt fl pr ofs ak hd an) ++ rs) H.size p2) (kz_cS 1 hw9 mw_393 mw_394 mw_2 mw_395 rfl rfl (by decide +kernel) ⟨Nat.le_of_ble_eq_true rfl, Nat.le_of_ble_eq_true rfl⟩) (kz_preS hK hP hD hS hA hE) rfl hl.1 rfl (Nat.le_of_ble_eq_true rfl) dX1_members_20 ⟨Nat.le_of_ble_eq_true rfl, Nat.le_of_ble_eq_true rfl⟩ (fun _ _ _ _ h => False.elim h) (fun v9 H hv9 hO1 => ?_)
      obtain ⟨_, rfl, rfl⟩ := hv9
      have hP := hO1.P hP
      have hS := hO1.S hS
      refine W.eq (g2 := F0 m 23 ls [.int (sq_z (sq_S p2))]) rfl ?_
      refine lv_if_eq (tgt := 38) hx hb dX1_members_23 (by decide) (fun c_3 => ?_) (fun c_3 => ?_)
      · -- 23 -> 38
        refine lv_aload_n hx hb dX1_members_38 rfl (lv_at hl 0 rfl) ?_
        refine lv_iconst (v := 1) hx hb dX1_members_39 (by decide) ?_
        refine va_put (D := D) (ci := 1) (v := .int 1) (ty := .int) (C := RX1) (T := TX1) (N := 8) hx hb hw9 uX1 tyX1 tyX1_ok nmX1 hown hK hP hD hS 0 rfl rfl 0 (by decide) (hw9 _ mw_360) (fun _ h9 => h9) rfl (by decide +kernel) rfl rfl (Nat.le_of_ble_eq_true rfl) dX1_members_40 (fun H locs hP hD hS => ?_)
        have hP : va_P D vwCl (wM bd cI 1 it o n g v r (sm_al nx mt fl pr ofs ak hd an) ++ rs) H := hP
        have hD : va_D A (wM bd cI 1 it o n g v r (sm_al nx mt fl pr ofs ak hd an) ++ rs) := hD
        have htc : tc_members p0 p1 p2 = 1 := by first | (simp [tc_members, (sq_z_t c_1), (sq_z_t c_2), (sq_z_f c_3)]; done) | (simp only [tc_members, (sq_z_t c_1), (sq_z_t c_2), (sq_z_f c_3), eq_self, not_true_eq_false, not_false_eq_true, and_self, and_true, true_and, and_false, false_and, or_true, true_or, or_false, false_or, if_true, if_false, ite_true, ite_false, Bool.and_eq_true, decide_true, decide_false, decide_eq_true_eq, ne_eq, Nat.reduceEqDiff, Nat.one_ne_zero, Bool.false_eq_true, reduceCtorEq]; done) | (simp only [tc_members, (sq_z_t c_1), (sq_z_t c_2), (sq_z_f c_3), eq_self, not_true_eq_false, not_false_eq_true, and_self, and_true, true_and, and_false, false_and, or_true, true_or, or_false, false_or, if_true, if_false, ite_true, ite_false, Bool.and_eq_true, decide_true, decide_false, decide_eq_true_eq, ne_eq, Nat.reduceEqDiff, Nat.one_ne_zero, Bool.false_eq_true, reduceCtorEq]; decide)
        exact kz_wretv hx hb hr hlocks (by rw [htc]; exact hP) (by rw [htc]; exact hD) hS (Nat.le_of_ble_eq_true rfl) (Nat.le_of_ble_eq_true rfl) (trivial)  dX1_members_43
      · -- 23 -> 26
        refine lv_iload_n hx hb dX1_members_26 rfl (lv_at hl 1 rfl) ?_
        refine lv_if_eq (tgt := 38) hx hb dX1_members_27 (by decide) (fun c_4 => ?_) (fun c_4 => ?_)
        · -- 27 -> 38
          refine lv_aload_n hx hb dX1_members_38 rfl (lv_at hl 0 rfl) ?_
          refine lv_iconst (v := 1) hx hb dX1_members_39 (by decide) ?_
          refine va_put (D := D) (ci := 1) (v := .int 1) (ty := .int) (C := RX1) (T := TX1) (N := 8) hx hb hw9 uX1 tyX1 tyX1_ok nmX1 hown hK hP hD hS 0 rfl rfl 0 (by decide) (hw9 _ mw_360) (fun _ h9 => h9) rfl (by decide +kernel) rfl rfl (Nat.le_of_ble_eq_true rfl) dX1_members_40 (fun H locs hP hD hS => ?_)
          have hP : va_P D vwCl (wM bd cI 1 it o n g v r (sm_al nx mt fl pr ofs ak hd an) ++ rs) H := hP
          have hD : va_D A (wM bd cI 1 it o n g v r (sm_al nx mt fl pr ofs ak hd an) ++ rs) := hD
          have htc : tc_members p0 p1 p2 = 1 := by first | (simp [tc_members, (sq_z_t c_1), (sq_z_t c_2), (sq_z_t c_3), c_4]; done) | (simp only [tc_members, (sq_z_t c_1), (sq_z_t c_2), (sq_z_t c_3), c_4, eq_self, not_true_eq_false, not_false_eq_true, and_self, and_true, true_and, and_false, false_and, or_true, true_or, or_false, false_or, if_true, if_false, ite_true, ite_false, Bool.and_eq_true, decide_true, decide_false, decide_eq_true_eq, ne_eq, Nat.reduceEqDiff, Nat.one_ne_zero, Bool.false_eq_true, reduceCtorEq]; done) | (simp only [tc_members, (sq_z_t c_1), (sq_z_t c_2), (sq_z_t c_3), c_4, eq_self, not_true_eq_false, not_false_eq_true, and_self, and_true, true_and, and_false, false_and, or_true, true_or, or_false, false_or, if_true, if_false, ite_true, ite_false, Bool.and_eq_true, decide_true, decide_false, decide_eq_true_eq, ne_eq, Nat.reduceEqDiff, Nat.one_ne_zero, Bool.false_eq_true, reduceCtorEq]; decide)
          exact kz_wretv hx hb hr hlocks (by rw [htc]; exact hP) (by rw [htc]; exact hD) hS (Nat.le_of_ble_eq_true rfl) (Nat.le_of_ble_eq_true rfl) (trivial)  dX1_members_43
        · -- 27 -> 30
          refine lv_iload_n hx hb dX1_members_30 rfl (lv_at hl 3 rfl) ?_
          refine lv_iload_n hx hb dX1_members_31 rfl (lv_at hl 1 rfl) ?_
          refine lv_iload_n hx hb dX1_members_32 rfl (lv_at hl 2 rfl) ?_
          refine lv_ior hx hb dX1_members_33 ?_
          refine lv_iand hx hb dX1_members_34 ?_
          refine lv_if_eq (tgt := 44) hx hb dX1_members_35 (by decide) (fun c_5 => ?_) (fun c_5 => ?_)
          · -- 35 -> 44
            refine lv_aload_n hx hb dX1_members_44 rfl (lv_at hl 0 rfl) ?_
            refine lv_iload_n hx hb dX1_members_45 rfl (lv_at hl 1 rfl) ?_
            refine va_put (D := D) (ci := 1) (v := .int p0) (ty := .int) (C := RX1) (T := TX1) (N := 8) hx hb hw9 uX1 tyX1 tyX1_ok nmX1 hown hK hP hD hS 0 rfl rfl 2 (by decide) (hw9 _ mw_362) (fun _ h9 => h9) rfl (by decide +kernel) rfl rfl (Nat.le_of_ble_eq_true rfl) dX1_members_46 (fun H locs hP hD hS => ?_)
            have hP : va_P D vwCl (wM bd cI 0 it p0 n g v r (sm_al nx mt fl pr ofs ak hd an) ++ rs) H := hP
            have hD : va_D A (wM bd cI 0 it p0 n g v r (sm_al nx mt fl pr ofs ak hd an) ++ rs) := hD
            refine lv_aload_n hx hb dX1_members_49 rfl (lv_at hl 0 rfl) ?_
            refine lv_iload_n hx hb dX1_members_50 rfl (lv_at hl 2 rfl) ?_
            refine va_put (D := D) (ci := 1) (v := .int p1) (ty := .int) (C := RX1) (T := TX1) (N := 8) hx hb hw9 uX1 tyX1 tyX1_ok nmX1 hown hK hP hD hS 0 rfl rfl 3 (by decide) (hw9 _ mw_363) (fun _ h9 => h9) rfl (by decide +kernel) rfl rfl (Nat.le_of_ble_eq_true rfl) dX1_members_51 (fun H locs hP hD hS => ?_)
            have hP : va_P D vwCl (wM bd cI 0 it p0 p1 g v r (sm_al nx mt fl pr ofs ak hd an) ++ rs) H := hP
            have hD : va_D A (wM bd cI 0 it p0 p1 g v r (sm_al nx mt fl pr ofs ak hd an) ++ rs) := hD
            refine lv_aload_n hx hb dX1_members_54 rfl (lv_at hl 0 rfl) ?_
            refine lv_iload_n hx hb dX1_members_55 rfl (lv_at hl 3 rfl) ?_
            refine va_put (D := D) (ci := 1) (v := .int p2) (ty := .int) (C := RX1) (T := TX1) (N := 8) hx hb hw9 uX1 tyX1 tyX1_ok nmX1 hown hK hP hD hS 0 rfl rfl 4 (by decide) (hw9 _ mw_364) (fun _ h9 => h9) rfl (by decide +kernel) rfl rfl (Nat.le_of_ble_eq_true rfl) dX1_members_56 (fun H locs hP hD hS => ?_)
            have hP : va_P D vwCl (wM bd cI 0 it p0 p1 p2 v r (sm_al nx mt fl pr ofs ak hd an) ++ rs) H := hP
            have hD : va_D A (wM bd cI 0 it p0 p1 p2 v r (sm_al nx mt fl pr ofs ak hd an) ++ rs) := hD
            have htc : tc_members p0 p1 p2 = 0 := by first | (simp [tc_members, (sq_z_t c_1), (sq_z_t c_2), (sq_z_t c_3), c_4, c_5]; done) | (simp only [tc_members, (sq_z_t c_1), (sq_z_t c_2), (sq_z_t c_3), c_4, c_5, eq_self, not_true_eq_false, not_false_eq_true, and_self, and_true, true_and, and_false, false_and, or_true, true_or, or_false, false_or, if_true, if_false, ite_true, ite_false, Bool.and_eq_true, decide_true, decide_false, decide_eq_true_eq, ne_eq, Nat.reduceEqDiff, Nat.one_ne_zero, Bool.false_eq_true, reduceCtorEq]; done) | (simp only [tc_members, (sq_z_t c_1), (sq_z_t c_2), (sq_z_t c_3), c_4, c_5, eq_self, not_true_eq_false, not_false_eq_true, and_self, and_true, true_and, and_false, false_and, or_true, true_or, or_false, false_or, if_true, if_false, ite_true, ite_false, Bool.and_eq_true, decide_true, decide_false, decide_eq_true_eq, ne_eq, Nat.reduceEqDiff, Nat.one_ne_zero, Bool.false_eq_true, reduceCtorEq]; decide)
            exact kz_wretv hx hb hr hlocks (by rw [htc]; exact hP) (by rw [htc]; exact hD) hS (Nat.le_of_ble_eq_true rfl) (Nat.le_of_ble_eq_true rfl) (trivial)  dX1_members_59
          · -- 35 -> 38
            refine lv_aload_n hx hb dX1_members_38 rfl (lv_at hl 0 rfl) ?_
            refine lv_iconst (v := 1) hx hb dX1_members_39 (by decide) ?_
            refine va_put (D := D) (ci := 1) (v := .int 1) (ty := .int) (C := RX1) (T := TX1) (N := 8) hx hb hw9 uX1 tyX1 tyX1_ok nmX1 hown hK hP hD hS 0 rfl rfl 0 (by decide) (hw9 _ mw_360) (fun _ h9 => h9) rfl (by decide +kernel) rfl rfl (Nat.le_of_ble_eq_true rfl) dX1_members_40 (fun H locs hP hD hS => ?_)
            have hP : va_P D vwCl (wM bd cI 1 it o n g v r (sm_al nx mt fl pr ofs ak hd an) ++ rs) H := hP
            have hD : va_D A (wM bd cI 1 it o n g v r (sm_al nx mt fl pr ofs ak hd an) ++ rs) := hD
            have htc : tc_members p0 p1 p2 = 1 := by first | (simp [tc_members, (sq_z_t c_1), (sq_z_t c_2), (sq_z_t c_3), c_4, c_5]; done) | (simp only [tc_members, (sq_z_t c_1), (sq_z_t c_2), (sq_z_t c_3), c_4, c_5, eq_self, not_true_eq_false, not_false_eq_true, and_self, and_true, true_and, and_false, false_and, or_true, true_or, or_false, false_or, if_true, if_false, ite_true, ite_false, Bool.and_eq_true, decide_true, decide_false, decide_eq_true_eq, ne_eq, Nat.reduceEqDiff, Nat.one_ne_zero, Bool.false_eq_true, reduceCtorEq]; done) | (simp only [tc_members, (sq_z_t c_1), (sq_z_t c_2), (sq_z_t c_3), c_4, c_5, eq_self, not_true_eq_false, not_false_eq_true, and_self, and_true, true_and, and_false, false_and, or_true, true_or, or_false, false_or, if_true, if_false, ite_true, ite_false, Bool.and_eq_true, decide_true, decide_false, decide_eq_true_eq, ne_eq, Nat.reduceEqDiff, Nat.one_ne_zero, Bool.false_eq_true, reduceCtorEq]; decide)
            exact kz_wretv hx hb hr hlocks (by rw [htc]; exact hP) (by rw [htc]; exact hD) hS (Nat.le_of_ble_eq_true rfl) (Nat.le_of_ble_eq_true rfl) (trivial)  dX1_members_43
set_option maxHeartbeats 4000000 in
set_option maxRecDepth 100000 in
theorem c_X1_settle (l : Launch) (hl9 : l.stackTraces = false) (D : va_G) (cI : ClassId) (ty : kz_Y) (bd : Nat → Nat) (rs : va_W) (sz : Nat) (th it o n g v r : Int32) (nx mt fl pr ofs ak hd an : Nat → Int32) (hM : sv_m it o n g v) : ez_M l yX1_settle wsX1_settle ({ frames := 1, cells := 1, slots := 6, locals := 21 } : Room) (kz_P D ((cI, .int) :: ty) (wM bd cI th it o n g v r (sm_al nx mt fl pr ofs ak hd an) ++ rs) sz [.ref (bd 0)]) (kz_Wr D (va_A (wM bd cI th it o n g v r (sm_al nx mt fl pr ofs ak hd an) ++ rs) sz) (kz_i (fun r9 => r9 = (if tc_settle n = 0 then sq_z (sq_I n it) else 0))) (wM bd cI (nI (tc_settle n)) it (if tc_settle n = 0 then n else o) (if tc_settle n = 0 then 0 else n) g v r (sm_al nx mt fl pr ofs ak hd an) ++ rs)) (kz_T (fun _ => IAE) (fun _ => False)) 0 0 (va_A (wM bd cI th it o n g v r (sm_al nx mt fl pr ofs ak hd an) ++ rs) sz) := by
  refine ez_ofW (cc := cX1_settle) (maxL := 1) (ret := (some .boolean)) (by decide) rfl ?_
  intro p e s m args below meth c s₁ B hml hTab hv
  obtain ⟨rfl, hsz, hP, hK, hD0, hE⟩ := hv
  have hx := B.exec
  have hb := B.bytes
  have hr := B.returns
  have hw9 : ∀ w ∈ kz_W9, w.before ([.ref (bd 0)] : List Value).toArray s = true := fun w h => atoms_spec (ws := wsX1_settle) B.pre w (List.mem_cons_of_mem _ h)
  have hown : s.vm.findClass RX1 = some m.cls := findClass_of_methodNamed B.named
  have hlocks := B.notSynchronized
  subst hsz
  have hD := hD0.self (sz := s.heap.size)
  generalize hAe : va_A (wM bd cI th it o n g v r (sm_al nx mt fl pr ofs ak hd an) ++ rs) s.heap.size = A at hD hE ⊢
  have hA : ∀ q : Nat, s.heap.size ≤ q → A q := fun q h => by rw [← hAe]; exact Or.inr h
  have hS : va_S A s.heap s.heap [] := va_S.rf
  have hO : kz_O s.heap s.heap := kz_O.rf _
  have hl := lv_entry ([.ref (bd 0)]) (n := 1) (Nat.le_of_ble_eq_true rfl)
  rw [lg_entry_eq]
  generalize (lg_sl ([.ref (bd 0)]) ++ List.replicate (1 - (lg_sl ([.ref (bd 0)])).length) Slot.unset).toArray = ls at hl ⊢
  have hl : lv_has ls 1 [(0, .ref (bd 0))] := hl
  obtain ⟨hIt, hOo, hNn, hGg, hVv⟩ := id hM
  obtain ⟨xo, ho8, eo⟩ := sm_S hOo
  obtain ⟨xn, hn8, en⟩ := sm_S hNn
  obtain ⟨xg, hg8, eg⟩ := sm_S hGg
  obtain ⟨xv, hv8, ev⟩ := sm_S hVv
  obtain ⟨hIa, hIe⟩ := sm_srv hIt
  refine lv_aload_n hx hb dX1_settle_0 rfl (lv_at hl 0 rfl) ?_
  refine lv_iconst (v := 0) hx hb dX1_settle_1 (by decide) ?_
  refine va_put (D := D) (ci := 1) (v := .int 0) (ty := .int) (C := RX1) (T := TX1) (N := 8) hx hb hw9 uX1 tyX1 tyX1_ok nmX1 hown hK hP hD hS 0 rfl rfl 0 (by decide) (hw9 _ mw_360) (fun _ h9 => h9) rfl (by decide +kernel) rfl rfl (Nat.le_of_ble_eq_true rfl) dX1_settle_2 (fun H locs hP hD hS => ?_)
  have hP : va_P D vwCl (wM bd cI 0 it o n g v r (sm_al nx mt fl pr ofs ak hd an) ++ rs) H := hP
  have hD : va_D A (wM bd cI 0 it o n g v r (sm_al nx mt fl pr ofs ak hd an) ++ rs) := hD
  refine lv_aload_n hx hb dX1_settle_5 rfl (lv_at hl 0 rfl) ?_
  refine va_get (D := D) (ci := 1) (v := .int n) (C := RX1) (T := TX1) (N := 8) hx hb hw9 uX1 hown hK hP 0 rfl rfl 3 (by decide) (hw9 _ mw_363) (fun _ h9 => h9) rfl dX1_settle_6 ?_
  refine lv_if_ne (tgt := 26) hx hb dX1_settle_9 (by decide) (fun c_1 => ?_) (fun c_1 => ?_)
  · -- 9 -> 26
    refine lv_aload_n hx hb dX1_settle_26 rfl (lv_at hl 0 rfl) ?_
    refine lv_aload_n hx hb dX1_settle_27 rfl (lv_at hl 0 rfl) ?_
    refine va_get (D := D) (ci := 1) (v := .int n) (C := RX1) (T := TX1) (N := 8) hx hb hw9 uX1 hown hK hP 0 rfl rfl 3 (by decide) (hw9 _ mw_363) (fun _ h9 => h9) rfl dX1_settle_28 ?_
    refine va_put (D := D) (ci := 1) (v := .int n) (ty := .int) (C := RX1) (T := TX1) (N := 8) hx hb hw9 uX1 tyX1 tyX1_ok nmX1 hown hK hP hD hS 0 rfl rfl 2 (by decide) (hw9 _ mw_362) (fun _ h9 => h9) rfl (by decide +kernel) rfl rfl (Nat.le_of_ble_eq_true rfl) dX1_settle_31 (fun H locs hP hD hS => ?_)
    have hP : va_P D vwCl (wM bd cI 0 it n n g v r (sm_al nx mt fl pr ofs ak hd an) ++ rs) H := hP
    have hD : va_D A (wM bd cI 0 it n n g v r (sm_al nx mt fl pr ofs ak hd an) ++ rs) := hD
    refine lv_aload_n hx hb dX1_settle_34 rfl (lv_at hl 0 rfl) ?_
    refine lv_iconst (v := 0) hx hb dX1_settle_35 (by decide) ?_
    refine va_put (D := D) (ci := 1) (v := .int 0) (ty := .int) (C := RX1) (T := TX1) (N := 8) hx hb hw9 uX1 tyX1 tyX1_ok nmX1 hown hK hP hD hS 0 rfl rfl 3 (by decide) (hw9 _ mw_363) (fun _ h9 => h9) rfl (by decide +kernel) rfl rfl (Nat.le_of_ble_eq_true rfl) dX1_settle_36 (fun H locs hP hD hS => ?_)
    have hP : va_P D vwCl (wM bd cI 0 it n 0 g v r (sm_al nx mt fl pr ofs ak hd an) ++ rs) H := hP
    have hD : va_D A (wM bd cI 0 it n 0 g v r (sm_al nx mt fl pr ofs ak hd an) ++ rs) := hD
    refine lv_aload_n hx hb dX1_settle_39 rfl (lv_at hl 0 rfl) ?_
    refine va_get (D := D) (ci := 1) (v := .int n) (C := RX1) (T := TX1) (N := 8) hx hb hw9 uX1 hown hK hP 0 rfl rfl 2 (by decide) (hw9 _ mw_362) (fun _ h9 => h9) rfl dX1_settle_40 ?_
    refine lv_aload_n hx hb dX1_settle_43 rfl (lv_at hl 0 rfl) ?_
    refine va_get (D := D) (ci := 1) (v := .int it) (C := RX1) (T := TX1) (N := 8) hx hb hw9 uX1 hown hK hP 0 rfl rfl 1 (by decide) (hw9 _ mw_361) (fun _ h9 => h9) rfl dX1_settle_44 ?_
    refine kz_rS (As := [.int n, .int it]) (rest := []) ⟨hx, hb, hml, hown, hw9⟩ (c_X1_has l hl9 D ((cI, .int) :: ty) (wM bd cI 0 it n 0 g v r (sm_al nx mt fl pr ofs ak hd an) ++ rs) H.size n it) (kz_cS 2 hw9 mw_400 mw_401 mw_2 mw_402 rfl rfl (by decide +kernel) ⟨Nat.le_of_ble_eq_true rfl, Nat.le_of_ble_eq_true rfl⟩) (kz_preS hK hP hD hS hA hE) rfl hl.1 rfl (Nat.le_of_ble_eq_true rfl) dX1_settle_47 ⟨Nat.le_of_ble_eq_true rfl, Nat.le_of_ble_eq_true rfl⟩ (fun _ _ _ _ h => False.elim h) (fun v9 H hv9 hO1 => ?_)
    obtain ⟨_, rfl, rfl⟩ := hv9
    have hP := hO1.P hP
    have hS := hO1.S hS
    refine W.eq (g2 := F0 m 50 ls [.int (sq_z (sm_h n it))]) rfl ?_
    have htc : tc_settle n = 0 := by first | (simp [tc_settle, c_1]; done) | (simp only [tc_settle, c_1, eq_self, not_true_eq_false, not_false_eq_true, and_self, and_true, true_and, and_false, false_and, or_true, true_or, or_false, false_or, if_true, if_false, ite_true, ite_false, Bool.and_eq_true, decide_true, decide_false, decide_eq_true_eq, ne_eq, Nat.reduceEqDiff, Nat.one_ne_zero, Bool.false_eq_true, reduceCtorEq]; done) | (simp only [tc_settle, c_1, eq_self, not_true_eq_false, not_false_eq_true, and_self, and_true, true_and, and_false, false_and, or_true, true_or, or_false, false_or, if_true, if_false, ite_true, ite_false, Bool.and_eq_true, decide_true, decide_false, decide_eq_true_eq, ne_eq, Nat.reduceEqDiff, Nat.one_ne_zero, Bool.false_eq_true, reduceCtorEq]; decide)
    exact kz_wretz hx hb hr hlocks (by rw [htc]; exact hP) (by rw [htc]; exact hD) hS (Nat.le_of_ble_eq_true rfl) (Nat.le_of_ble_eq_true rfl) (by rw [htc]; exact (show (sq_z (sm_h n it)) = (sq_z (sq_I n it)) from by rw [sm_hI hNn hIt])) (sq_z_nar _) dX1_settle_50
  · -- 9 -> 12
    refine lv_aload_n hx hb dX1_settle_12 rfl (lv_at hl 0 rfl) ?_
    refine lv_iconst (v := 1) hx hb dX1_settle_13 (by decide) ?_
    refine kz_wV (As := [.int 1]) (rest := []) ⟨hx, hb, hml, hown, hw9⟩ (c_X1_fail l hl9 D cI ty bd rs H.size 0 it o n g v r (sm_al nx mt fl pr ofs ak hd an) 1) (kz_cV 1 hw9 mw_411 mw_413 ms_12 mw_2 mw_414 rfl rfl (by decide +kernel) ⟨Nat.le_of_ble_eq_true rfl, Nat.le_of_ble_eq_true rfl⟩) (kz_preV (q0 := 0) (ci := 1) hK hP hD hS hA hE rfl rfl) rfl hl.1 rfl (Nat.le_of_ble_eq_true rfl) dX1_settle_14 ⟨Nat.le_of_ble_eq_true rfl, Nat.le_of_ble_eq_true rfl⟩ hD hS hA (fun _ _ _ _ _ _ h => False.elim h) (fun v9 H locs hv9 hP hD hS => ?_)
    obtain ⟨_, rfl, rfl⟩ := hv9
    have hP : va_P D vwCl (wM bd cI 1 it o n g v r (sm_al nx mt fl pr ofs ak hd an) ++ rs) H := hP
    have hD : va_D A (wM bd cI 1 it o n g v r (sm_al nx mt fl pr ofs ak hd an) ++ rs) := hD
    refine W.eq (g2 := F0 m 17 ls [.int 0]) rfl ?_
    refine lv_if_le (tgt := 24) hx hb dX1_settle_17 (by decide) (fun c_2 => ?_) (fun c_2 => ?_)
    · -- 17 -> 24
      refine lv_iconst (v := 0) hx hb dX1_settle_24 (by decide) ?_
      have htc : tc_settle n = 1 := by first | (simp [tc_settle, c_1, c_2, (Int32.not_lt.mpr c_2)]; done) | (simp only [tc_settle, c_1, c_2, (Int32.not_lt.mpr c_2), eq_self, not_true_eq_false, not_false_eq_true, and_self, and_true, true_and, and_false, false_and, or_true, true_or, or_false, false_or, if_true, if_false, ite_true, ite_false, Bool.and_eq_true, decide_true, decide_false, decide_eq_true_eq, ne_eq, Nat.reduceEqDiff, Nat.one_ne_zero, Bool.false_eq_true, reduceCtorEq]; done) | (simp only [tc_settle, c_1, c_2, (Int32.not_lt.mpr c_2), eq_self, not_true_eq_false, not_false_eq_true, and_self, and_true, true_and, and_false, false_and, or_true, true_or, or_false, false_or, if_true, if_false, ite_true, ite_false, Bool.and_eq_true, decide_true, decide_false, decide_eq_true_eq, ne_eq, Nat.reduceEqDiff, Nat.one_ne_zero, Bool.false_eq_true, reduceCtorEq]; decide)
      exact kz_wretz hx hb hr hlocks (by rw [htc]; exact hP) (by rw [htc]; exact hD) hS (Nat.le_of_ble_eq_true rfl) (Nat.le_of_ble_eq_true rfl) (by rw [htc]; rfl) rfl dX1_settle_25
    · -- 17 -> 20
      exact absurd (by decide) c_2
set_option maxHeartbeats 4000000 in
set_option maxRecDepth 100000 in
theorem c_X1_majority (l : Launch) (hl9 : l.stackTraces = false) (D : va_G) (cI : ClassId) (ty : kz_Y) (bd : Nat → Nat) (rs : va_W) (sz : Nat) (th it o n g v r : Int32) (nx mt fl pr ofs ak hd an : Nat → Int32) (p0 : Int32) (hM : sv_m it o n g v) : ez_M l yX1_majority wsX1_majority ({ frames := 3, cells := 1, slots := 6, locals := 66 } : Room) (kz_P D ((cI, .int) :: ty) (wM bd cI th it o n g v r (sm_al nx mt fl pr ofs ak hd an) ++ rs) sz [.ref (bd 0), .int p0]) (kz_Wr D (va_A (wM bd cI th it o n g v r (sm_al nx mt fl pr ofs ak hd an) ++ rs) sz) (kz_i (fun r9 => r9 = (if tc_set p0 = 0 then sq_z (sq_M o n p0) else 0))) (wM bd cI (nI (tc_set p0)) it o n g v r (sm_al nx mt fl pr ofs ak hd an) ++ rs)) (kz_T (fun _ => IAE) (fun _ => False)) 0 0 (va_A (wM bd cI th it o n g v r (sm_al nx mt fl pr ofs ak hd an) ++ rs) sz) := by
  refine ez_ofW (cc := cX1_majority) (maxL := 2) (ret := (some .boolean)) (by decide) rfl ?_
  intro p e s m args below meth c s₁ B hml hTab hv
  obtain ⟨rfl, hsz, hP, hK, hD0, hE⟩ := hv
  have hx := B.exec
  have hb := B.bytes
  have hr := B.returns
  have hw9 : ∀ w ∈ kz_W9, w.before ([.ref (bd 0), .int p0] : List Value).toArray s = true := fun w h => atoms_spec (ws := wsX1_majority) B.pre w (List.mem_cons_of_mem _ h)
  have hown : s.vm.findClass RX1 = some m.cls := findClass_of_methodNamed B.named
  have hlocks := B.notSynchronized
  subst hsz
  have hD := hD0.self (sz := s.heap.size)
  generalize hAe : va_A (wM bd cI th it o n g v r (sm_al nx mt fl pr ofs ak hd an) ++ rs) s.heap.size = A at hD hE ⊢
  have hA : ∀ q : Nat, s.heap.size ≤ q → A q := fun q h => by rw [← hAe]; exact Or.inr h
  have hS : va_S A s.heap s.heap [] := va_S.rf
  have hO : kz_O s.heap s.heap := kz_O.rf _
  have hl := lv_entry ([.ref (bd 0), .int p0]) (n := 2) (Nat.le_of_ble_eq_true rfl)
  rw [lg_entry_eq]
  generalize (lg_sl ([.ref (bd 0), .int p0]) ++ List.replicate (2 - (lg_sl ([.ref (bd 0), .int p0])).length) Slot.unset).toArray = ls at hl ⊢
  have hl : lv_has ls 2 [(0, .ref (bd 0)), (1, .int p0)] := hl
  obtain ⟨hIt, hOo, hNn, hGg, hVv⟩ := id hM
  obtain ⟨xo, ho8, eo⟩ := sm_S hOo
  obtain ⟨xn, hn8, en⟩ := sm_S hNn
  obtain ⟨xg, hg8, eg⟩ := sm_S hGg
  obtain ⟨xv, hv8, ev⟩ := sm_S hVv
  obtain ⟨hIa, hIe⟩ := sm_srv hIt
  refine lv_aload_n hx hb dX1_majority_0 rfl (lv_at hl 0 rfl) ?_
  refine lv_iconst (v := 0) hx hb dX1_majority_1 (by decide) ?_
  refine va_put (D := D) (ci := 1) (v := .int 0) (ty := .int) (C := RX1) (T := TX1) (N := 8) hx hb hw9 uX1 tyX1 tyX1_ok nmX1 hown hK hP hD hS 0 rfl rfl 0 (by decide) (hw9 _ mw_360) (fun _ h9 => h9) rfl (by decide +kernel) rfl rfl (Nat.le_of_ble_eq_true rfl) dX1_majority_2 (fun H locs hP hD hS => ?_)
  have hP : va_P D vwCl (wM bd cI 0 it o n g v r (sm_al nx mt fl pr ofs ak hd an) ++ rs) H := hP
  have hD : va_D A (wM bd cI 0 it o n g v r (sm_al nx mt fl pr ofs ak hd an) ++ rs) := hD
  refine lv_iload_n hx hb dX1_majority_5 rfl (lv_at hl 1 rfl) ?_
  refine kz_rS (As := [.int p0]) (rest := []) ⟨hx, hb, hml, hown, hw9⟩ (c_X1_isSet l hl9 D ((cI, .int) :: ty) (wM bd cI 0 it o n g v r (sm_al nx mt fl pr ofs ak hd an) ++ rs) H.size p0) (kz_cS 1 hw9 mw_393 mw_394 mw_2 mw_395 rfl rfl (by decide +kernel) ⟨Nat.le_of_ble_eq_true rfl, Nat.le_of_ble_eq_true rfl⟩) (kz_preS hK hP hD hS hA hE) rfl hl.1 rfl (Nat.le_of_ble_eq_true rfl) dX1_majority_6 ⟨Nat.le_of_ble_eq_true rfl, Nat.le_of_ble_eq_true rfl⟩ (fun _ _ _ _ h => False.elim h) (fun v9 H hv9 hO1 => ?_)
  obtain ⟨_, rfl, rfl⟩ := hv9
  have hP := hO1.P hP
  have hS := hO1.S hS
  refine W.eq (g2 := F0 m 9 ls [.int (sq_z (sq_S p0))]) rfl ?_
  refine lv_if_eq (tgt := 20) hx hb dX1_majority_9 (by decide) (fun c_1 => ?_) (fun c_1 => ?_)
  · -- 9 -> 20
    refine lv_aload_n hx hb dX1_majority_20 rfl (lv_at hl 0 rfl) ?_
    refine lv_iconst (v := 1) hx hb dX1_majority_21 (by decide) ?_
    refine kz_wV (As := [.int 1]) (rest := []) ⟨hx, hb, hml, hown, hw9⟩ (c_X1_fail l hl9 D cI ty bd rs H.size 0 it o n g v r (sm_al nx mt fl pr ofs ak hd an) 1) (kz_cV 1 hw9 mw_411 mw_413 ms_12 mw_2 mw_414 rfl rfl (by decide +kernel) ⟨Nat.le_of_ble_eq_true rfl, Nat.le_of_ble_eq_true rfl⟩) (kz_preV (q0 := 0) (ci := 1) hK hP hD hS hA hE rfl rfl) rfl hl.1 rfl (Nat.le_of_ble_eq_true rfl) dX1_majority_22 ⟨Nat.le_of_ble_eq_true rfl, Nat.le_of_ble_eq_true rfl⟩ hD hS hA (fun _ _ _ _ _ _ h => False.elim h) (fun v9 H locs hv9 hP hD hS => ?_)
    obtain ⟨_, rfl, rfl⟩ := hv9
    have hP : va_P D vwCl (wM bd cI 1 it o n g v r (sm_al nx mt fl pr ofs ak hd an) ++ rs) H := hP
    have hD : va_D A (wM bd cI 1 it o n g v r (sm_al nx mt fl pr ofs ak hd an) ++ rs) := hD
    refine W.eq (g2 := F0 m 25 ls [.int 0]) rfl ?_
    refine lv_if_le (tgt := 32) hx hb dX1_majority_25 (by decide) (fun c_2 => ?_) (fun c_2 => ?_)
    · -- 25 -> 32
      refine lv_iconst (v := 0) hx hb dX1_majority_32 (by decide) ?_
      have htc : tc_set p0 = 1 := by first | (simp [tc_set, (sq_z_f c_1), c_2, (Int32.not_lt.mpr c_2)]; done) | (simp only [tc_set, (sq_z_f c_1), c_2, (Int32.not_lt.mpr c_2), eq_self, not_true_eq_false, not_false_eq_true, and_self, and_true, true_and, and_false, false_and, or_true, true_or, or_false, false_or, if_true, if_false, ite_true, ite_false, Bool.and_eq_true, decide_true, decide_false, decide_eq_true_eq, ne_eq, Nat.reduceEqDiff, Nat.one_ne_zero, Bool.false_eq_true, reduceCtorEq]; done) | (simp only [tc_set, (sq_z_f c_1), c_2, (Int32.not_lt.mpr c_2), eq_self, not_true_eq_false, not_false_eq_true, and_self, and_true, true_and, and_false, false_and, or_true, true_or, or_false, false_or, if_true, if_false, ite_true, ite_false, Bool.and_eq_true, decide_true, decide_false, decide_eq_true_eq, ne_eq, Nat.reduceEqDiff, Nat.one_ne_zero, Bool.false_eq_true, reduceCtorEq]; decide)
      exact kz_wretz hx hb hr hlocks (by rw [htc]; exact hP) (by rw [htc]; exact hD) hS (Nat.le_of_ble_eq_true rfl) (Nat.le_of_ble_eq_true rfl) (by rw [htc]; rfl) rfl dX1_majority_33
    · -- 25 -> 28
      exact absurd (by decide) c_2
  · -- 9 -> 12
    refine lv_aload_n hx hb dX1_majority_12 rfl (lv_at hl 0 rfl) ?_
    refine lv_iload_n hx hb dX1_majority_13 rfl (lv_at hl 1 rfl) ?_
    refine kz_rV (As := [.int p0]) (rest := []) ⟨hx, hb, hml, hown, hw9⟩ (c_X1_carries l hl9 D cI ty bd rs H.size 0 it o n g v r (sm_al nx mt fl pr ofs ak hd an) p0 hM (sq_z_t c_1)) (kz_cV 1 hw9 mw_419 mw_421 ms_13 mw_2 mw_422 rfl rfl (by decide +kernel) ⟨Nat.le_of_ble_eq_true rfl, Nat.le_of_ble_eq_true rfl⟩) (kz_preV (q0 := 0) (ci := 1) hK hP hD hS hA hE rfl rfl) rfl hl.1 rfl (Nat.le_of_ble_eq_true rfl) dX1_majority_14 ⟨Nat.le_of_ble_eq_true rfl, Nat.le_of_ble_eq_true rfl⟩ (fun _ _ _ _ h => False.elim h) (fun v9 H hv9 hO1 => ?_)
    obtain ⟨_, rfl, rfl⟩ := hv9
    have hP := hO1.P hP
    have hS := hO1.S hS
    refine W.eq (g2 := F0 m 17 ls [.int (sq_z (sq_M o n p0))]) rfl ?_
    refine lv_goto (tgt := 33) hx hb dX1_majority_17 (by decide) ?_
    have htc : tc_set p0 = 0 := by first | (simp [tc_set, (sq_z_t c_1)]; done) | (simp only [tc_set, (sq_z_t c_1), eq_self, not_true_eq_false, not_false_eq_true, and_self, and_true, true_and, and_false, false_and, or_true, true_or, or_false, false_or, if_true, if_false, ite_true, ite_false, Bool.and_eq_true, decide_true, decide_false, decide_eq_true_eq, ne_eq, Nat.reduceEqDiff, Nat.one_ne_zero, Bool.false_eq_true, reduceCtorEq]; done) | (simp only [tc_set, (sq_z_t c_1), eq_self, not_true_eq_false, not_false_eq_true, and_self, and_true, true_and, and_false, false_and, or_true, true_or, or_false, false_or, if_true, if_false, ite_true, ite_false, Bool.and_eq_true, decide_true, decide_false, decide_eq_true_eq, ne_eq, Nat.reduceEqDiff, Nat.one_ne_zero, Bool.false_eq_true, reduceCtorEq]; decide)
    exact kz_wretz hx hb hr hlocks (by rw [htc]; exact hP) (by rw [htc]; exact hD) hS (Nat.le_of_ble_eq_true rfl) (Nat.le_of_ble_eq_true rfl) (by rw [htc]; exact (show (sq_z (sq_M o n p0)) = (sq_z (sq_M o n p0)) from rfl)) (sq_z_nar _) dX1_majority_33
set_option maxHeartbeats 4000000 in
set_option maxRecDepth 100000 in
theorem c_X1_ballot (l : Launch) (hl9 : l.stackTraces = false) (D : va_G) (cI : ClassId) (ty : kz_Y) (bd : Nat → Nat) (rs : va_W) (sz : Nat) (th it o n g v r : Int32) (nx mt fl pr ofs ak hd an : Nat → Int32) : ez_M l yX1_ballot wsX1_ballot ({ frames := 0, cells := 1, slots := 6, locals := 0 } : Room) (kz_P D ((cI, .int) :: ty) (wM bd cI th it o n g v r (sm_al nx mt fl pr ofs ak hd an) ++ rs) sz [.ref (bd 0)]) (kz_Wr D (va_A (wM bd cI th it o n g v r (sm_al nx mt fl pr ofs ak hd an) ++ rs) sz) (kz_v (True)) (wM bd cI 0 it o n g 0 r (sm_al nx mt fl pr ofs ak hd an) ++ rs)) (kz_T (fun _ => IAE) (fun _ => False)) 0 0 (va_A (wM bd cI th it o n g v r (sm_al nx mt fl pr ofs ak hd an) ++ rs) sz) := by
  refine ez_ofW (cc := cX1_ballot) (maxL := 1) (ret := none) (by decide) rfl ?_
  intro p e s m args below meth c s₁ B hml hTab hv
  obtain ⟨rfl, hsz, hP, hK, hD0, hE⟩ := hv
  have hx := B.exec
  have hb := B.bytes
  have hr := B.returns
  have hw9 : ∀ w ∈ kz_W9, w.before ([.ref (bd 0)] : List Value).toArray s = true := fun w h => atoms_spec (ws := wsX1_ballot) B.pre w (List.mem_cons_of_mem _ h)
  have hown : s.vm.findClass RX1 = some m.cls := findClass_of_methodNamed B.named
  have hlocks := B.notSynchronized
  subst hsz
  have hD := hD0.self (sz := s.heap.size)
  generalize hAe : va_A (wM bd cI th it o n g v r (sm_al nx mt fl pr ofs ak hd an) ++ rs) s.heap.size = A at hD hE ⊢
  have hA : ∀ q : Nat, s.heap.size ≤ q → A q := fun q h => by rw [← hAe]; exact Or.inr h
  have hS : va_S A s.heap s.heap [] := va_S.rf
  have hO : kz_O s.heap s.heap := kz_O.rf _
  have hl := lv_entry ([.ref (bd 0)]) (n := 1) (Nat.le_of_ble_eq_true rfl)
  rw [lg_entry_eq]
  generalize (lg_sl ([.ref (bd 0)]) ++ List.replicate (1 - (lg_sl ([.ref (bd 0)])).length) Slot.unset).toArray = ls at hl ⊢
  have hl : lv_has ls 1 [(0, .ref (bd 0))] := hl
  refine lv_aload_n hx hb dX1_ballot_0 rfl (lv_at hl 0 rfl) ?_
  refine lv_iconst (v := 0) hx hb dX1_ballot_1 (by decide) ?_
  refine va_put (D := D) (ci := 1) (v := .int 0) (ty := .int) (C := RX1) (T := TX1) (N := 8) hx hb hw9 uX1 tyX1 tyX1_ok nmX1 hown hK hP hD hS 0 rfl rfl 0 (by decide) (hw9 _ mw_360) (fun _ h9 => h9) rfl (by decide +kernel) rfl rfl (Nat.le_of_ble_eq_true rfl) dX1_ballot_2 (fun H locs hP hD hS => ?_)
  have hP : va_P D vwCl (wM bd cI 0 it o n g v r (sm_al nx mt fl pr ofs ak hd an) ++ rs) H := hP
  have hD : va_D A (wM bd cI 0 it o n g v r (sm_al nx mt fl pr ofs ak hd an) ++ rs) := hD
  refine lv_aload_n hx hb dX1_ballot_5 rfl (lv_at hl 0 rfl) ?_
  refine lv_iconst (v := 0) hx hb dX1_ballot_6 (by decide) ?_
  refine va_put (D := D) (ci := 1) (v := .int 0) (ty := .int) (C := RX1) (T := TX1) (N := 8) hx hb hw9 uX1 tyX1 tyX1_ok nmX1 hown hK hP hD hS 0 rfl rfl 5 (by decide) (hw9 _ mw_365) (fun _ h9 => h9) rfl (by decide +kernel) rfl rfl (Nat.le_of_ble_eq_true rfl) dX1_ballot_7 (fun H locs hP hD hS => ?_)
  have hP : va_P D vwCl (wM bd cI 0 it o n g 0 r (sm_al nx mt fl pr ofs ak hd an) ++ rs) H := hP
  have hD : va_D A (wM bd cI 0 it o n g 0 r (sm_al nx mt fl pr ofs ak hd an) ++ rs) := hD
  exact kz_wretv hx hb hr hlocks hP hD hS (Nat.le_of_ble_eq_true rfl) (Nat.le_of_ble_eq_true rfl) (trivial)  dX1_ballot_10
