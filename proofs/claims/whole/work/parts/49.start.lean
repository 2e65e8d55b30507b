/-! the start: what a throw and a catch need, out of the claim's premises -/
theorem kz_it {w : Cond} {i : Nat} (h : tables_1[i]? = some w) : w ∈ lw_tbl := List.mem_append_right _ (List.mem_of_getElem? h)
theorem kz_St0 {C n d : String} {s : State} {args : Array Value} (h1 : (Cond.laysStatic C n d).before args s = true) (h2 : (Cond.isRef (.static C n d)).before args s = true) : kz_St C n d (fun q : Nat => s.heap.size ≤ q) s s.heap := by
  obtain ⟨c, k, i, f, a, cell, a1, a2, a3, a4, a5, a6, a7, a8, a9⟩ := Cond.laysStatic_spec h1
  obtain ⟨v, hv, hr⟩ := Cond.isRef_spec h2
  have he : (Term.static C n d).eval args s none [] s = cell.slots[f.slot]? := by
    simp [Term.eval, State.fieldNamed?, a2, a3, a4, a5, a6]
  rw [he] at hv
  exact ⟨c, k, i, f, a, cell, v, a1, a2, a3, a4, a5, a6, a7, a8, a9, hv, hr, Nat.not_le.mpr (Array.getElem?_eq_some_iff.mp a5).1⟩
theorem kz_R0 {own tx : String} {k : Nat} {s : State} {args : Array Value} (h1 : (Cond.stringRef own k tx).before args s = true) (h2 : (Cond.exactly (.string own k) "java/lang/String").before args s = true) : ∃ sa, vk_R own k tx sa s := by
  obtain ⟨a, c, cell, kk, he, -⟩ := Cond.exactly_spec h2
  exact ⟨a, vk_R.of (A := args) h1 he⟩
set_option maxRecDepth 100000 in
theorem kz_E0 {s : State} {args : Array Value} (hts : ∀ w ∈ lw_tbl, w.before args s = true) (hgv : (Jvm.Cond.and given_1 narrow_1).before args s = true) : kz_E (fun q : Nat => s.heap.size ≤ q) s s.heap := by
  have hs := flat_of_before _ hgv
  refine ⟨kz_St0 (hts _ (kz_it (i := 128) (by decide +kernel))) (hs _ (by decide +kernel)), kz_St0 (hts _ (kz_it (i := 130) (by decide +kernel))) (hs _ (by decide +kernel)), ?_, ?_, ?_, ?_⟩
  · unfold kz_strs
    refine List.forall_mem_cons.mpr ⟨(show ∃ sa, vk_R RX0 141 "no set of servers" sa s from kz_R0 (hts _ (kz_it (i := 142) (by decide +kernel))) (hs _ (by decide +kernel))), ?_⟩
    refine List.forall_mem_cons.mpr ⟨(show ∃ sa, vk_R RX0 48 "OLD is empty" sa s from kz_R0 (hts _ (kz_it (i := 169) (by decide +kernel))) (hs _ (by decide +kernel))), ?_⟩
    refine List.forall_mem_cons.mpr ⟨(show ∃ sa, vk_R RX0 53 "a learner is a voter" sa s from kz_R0 (hts _ (kz_it (i := 170) (by decide +kernel))) (hs _ (by decide +kernel))), ?_⟩
    refine List.forall_mem_cons.mpr ⟨(show ∃ sa, vk_R RX0 61 "the target is empty" sa s from kz_R0 (hts _ (kz_it (i := 179) (by decide +kernel))) (hs _ (by decide +kernel))), ?_⟩
    refine List.forall_mem_cons.mpr ⟨(show ∃ sa, vk_R RX0 67 "one of the target is neither old nor a learner far enough" sa s from kz_R0 (hts _ (kz_it (i := 187) (by decide +kernel))) (hs _ (by decide +kernel))), ?_⟩
    refine List.forall_mem_cons.mpr ⟨(show ∃ sa, vk_R RX0 71 "a change is under way" sa s from kz_R0 (hts _ (kz_it (i := 197) (by decide +kernel))) (hs _ (by decide +kernel))), ?_⟩
    refine List.forall_mem_cons.mpr ⟨(show ∃ sa, vk_R RX0 74 "no change is under way" sa s from kz_R0 (hts _ (kz_it (i := 211) (by decide +kernel))) (hs _ (by decide +kernel))), ?_⟩
    refine List.forall_mem_cons.mpr ⟨(show ∃ sa, vk_R RX0 146 "no such server" sa s from kz_R0 (hts _ (kz_it (i := 252) (by decide +kernel))) (hs _ (by decide +kernel))), ?_⟩
    refine List.forall_mem_cons.mpr ⟨(show ∃ sa, vk_R RX0 144 "no such number" sa s from kz_R0 (hts _ (kz_it (i := 270) (by decide +kernel))) (hs _ (by decide +kernel))), ?_⟩
    refine List.forall_mem_cons.mpr ⟨(show ∃ sa, vk_R RX0 148 "the server is no peer" sa s from kz_R0 (hts _ (kz_it (i := 282) (by decide +kernel))) (hs _ (by decide +kernel))), ?_⟩
    refine List.forall_mem_cons.mpr ⟨(show ∃ sa, vk_R RX0 103 "the last entry is below the snapshot's" sa s from kz_R0 (hts _ (kz_it (i := 283) (by decide +kernel))) (hs _ (by decide +kernel))), ?_⟩
    refine List.forall_mem_cons.mpr ⟨(show ∃ sa, vk_R RX0 131 "nothing of that kind is agreed on" sa s from kz_R0 (hts _ (kz_it (i := 345) (by decide +kernel))) (hs _ (by decide +kernel))), ?_⟩
    refine List.forall_mem_cons.mpr ⟨(show ∃ sa, vk_R RX0 135 "nothing of that kind is kept of a server" sa s from kz_R0 (hts _ (kz_it (i := 353) (by decide +kernel))) (hs _ (by decide +kernel))), ?_⟩
    exact fun _ h => absurd h List.not_mem_nil
  · unfold kz_cast
    refine List.forall_mem_cons.mpr ⟨(show va_Nw (.castable IAE IAE) s from va_Nw.of rfl (hts _ (kz_it (i := 103) (by decide +kernel)))), ?_⟩
    refine List.forall_mem_cons.mpr ⟨(show va_Nw (.castable ISE ISE) s from va_Nw.of rfl (hts _ (kz_it (i := 190) (by decide +kernel)))), ?_⟩
    refine List.forall_mem_cons.mpr ⟨(show va_Nw (.castable IOE IOE) s from va_Nw.of rfl (hts _ (kz_it (i := 245) (by decide +kernel)))), ?_⟩
    exact fun _ h => absurd h List.not_mem_nil
  · unfold kz_decl
    refine List.forall_mem_cons.mpr ⟨(show va_Nw (.declares (Bundle.initS "java/lang/RuntimeException")) s from va_Nw.of rfl (hts _ (kz_it (i := 105) (by decide +kernel)))), ?_⟩
    refine List.forall_mem_cons.mpr ⟨(show va_Nw (.declares (Bundle.initS "java/lang/Exception")) s from va_Nw.of rfl (hts _ (kz_it (i := 107) (by decide +kernel)))), ?_⟩
    refine List.forall_mem_cons.mpr ⟨(show va_Nw (.declares (Bundle.initS "java/lang/Throwable")) s from va_Nw.of rfl (hts _ (kz_it (i := 109) (by decide +kernel)))), ?_⟩
    exact fun _ h => absurd h List.not_mem_nil
  · unfold kz_ncs
    refine List.forall_mem_cons.mpr ⟨(show va_Nc ISE IAE s from va_Nc.of (hs _ (by decide +kernel))), ?_⟩
    refine List.forall_mem_cons.mpr ⟨(show va_Nc IAE IOE s from va_Nc.of (hs _ (by decide +kernel))), ?_⟩
    exact fun _ h => absurd h List.not_mem_nil
theorem kz_cell {p : Program} {l : Launch} {e : Env} {s : State} {m : MethodId} {args : Array Value} {below : List Frame} {meth : Method} {c : Code} {H : Heap} {locs : List Loc} {cells slots pc : Nat} {Q : State → Prop} {ls : Array Slot} {rest : List Value} {b L : Nat} {xs : Nat → Int32}
    (S : CallFix p m c code 7 s args kz_W9 RL) (hw9 : ∀ w ∈ kz_W9, w.before args s = true) (hX : va_X b L xs s s.heap) (hbl : b < s.heap.size) (hS : va_S (fun q : Nat => s.heap.size ≤ q) s.heap H locs) (hL : L ≤ 3586) (k : Int32) (hk : ¬ k < 0) (hsize : ls.size = 7) (hroom : (rest.map fun v => v.category).sum ≤ 8) (hdg : decode code pc = .ok (.invokestatic 64, 3)) (hf : cells + 1 ≤ room_1.cells ∧ slots + 6 ≤ room_1.slots)
    (kk : ∀ H1 : Heap, kz_O H H1 → W p l e room_1 s m args below meth c H1 locs cells slots Q (F0 m (pc + 3) ls (.int (sq_c L xs k) :: rest))) : W p l e room_1 s m args below meth c H locs cells slots Q (F0 m pc ls (.int k :: .ref b :: rest)) := by
  refine ez_callS (As := [.ref b, .int k]) (rest := rest) S (c_L_cell l b L xs k hL hk) (kz_cS 2 hw9 mw_87 mw_88 mw_0 mw_89 rfl rfl (by decide +kernel) ⟨Nat.le_of_ble_eq_true rfl, Nat.le_of_ble_eq_true rfl⟩) ⟨fun a U g mk q => ⟨q.1, va_X.moved (u := U) (U := U.calling g mk a) (Vm.Alike.refl U.vm) q.2⟩, fun U hU hW => ⟨rfl, by show va_X b L xs U U.heap; rw [hU]; exact (va_X.moved hW.alike hX).kept (hS.2.1 b hbl (Nat.not_le.mpr hbl))⟩⟩ rfl hsize rfl hroom hdg hf (fun q st t L9 hst hal hL9 hq => ?_) (fun v st t L9 hst hal hL9 hv => ?_)
  · obtain ⟨k, ce, h1, -⟩ := hq
    exact False.elim h1
  · obtain ⟨⟨r9, rfl, rfl⟩, h2⟩ := hv
    rw [kz_nil hL9 (fun _ h => h), List.append_nil]
    rw [hst] at h2
    exact kk t.heap h2
set_option maxHeartbeats 4000000 in
set_option maxRecDepth 100000 in
theorem whole_start {p : Program} {e : Env} {s : State} {m : MethodId} {below : List Frame} {meth : Method} {c : Code} (l : Launch) (hl9 : l.stackTraces = false) {b L : Nat} {xs : Nat → Int32} (hL : L ≤ 3586) (C0 : lw_At p s m meth c b L xs) : W p l e room_1 s m #[Value.ref b] below meth c s.heap [] 0 0 (lw_Z below #[Value.ref b] s) (entryFrame m ([Value.ref b] : List Value).toArray 7) := by
  obtain ⟨hx, hb, hr, hml, hown, hts, hX, hbl, hlocks, hgv⟩ := id C0
  have hA : ∀ q : Nat, s.heap.size ≤ q → (fun q : Nat => s.heap.size ≤ q) q := fun _ h => h
  have hw9 : ∀ w ∈ kz_W9, w.before #[Value.ref b] s = true := fun w h => hts w (List.mem_filter.mp h).1
  have hown : s.vm.findClass RL = some m.cls := hown
  have hE := kz_E0 hts hgv
  obtain ⟨k0, iS0, hKn0⟩ := u_known (C := RX0) (T := TX0) (N := 14) (n := 14) hw9 uX0 (hw9 _ mw_12)
  obtain ⟨k1, iS1, hKn1⟩ := u_known (C := RX1) (T := TX1) (N := 8) (n := 8) hw9 uX1 (hw9 _ mw_355)
  obtain ⟨dC, dI, hKc⟩ : ∃ (dC : Nat → ClassId) (dI : Nat → Nat → Nat), ∀ (k : Nat) (q : vw_C), vwCl[k]? = some q → u_Kn s q.1 q.2.1 q.2.2 (dC k) (dI k) := by
    refine ⟨fun k => if k = 0 then k0 else k1, fun k => if k = 0 then iS0 else iS1, ?_⟩
    intro k q hq
    match k, hq with
    | 0, hq => cases hq; exact hKn0
    | 1, hq => cases hq; exact hKn1
    | k + 2, hq => simp [vwCl] at hq
  have hS : va_S (fun q : Nat => s.heap.size ≤ q) s.heap s.heap [] := va_S.rf
  have hK : va_K (dC, dI) vwCl [] s := ⟨hKc, fun k q h => by simp at h⟩
  have hP : va_P (dC, dI) vwCl [] s.heap := fun k q h => by simp at h
  have hD : va_D (fun q : Nat => s.heap.size ≤ q) [] := ⟨fun i j p q h => by simp at h, fun k q h => by simp at h⟩
  have hl := lv_entry ([.ref b]) (n := 7) (Nat.le_of_ble_eq_true rfl)
  rw [lg_entry_eq]
  generalize (lg_sl ([.ref b]) ++ List.replicate (7 - (lg_sl ([.ref b])).length) Slot.unset).toArray = ls at hl ⊢
  have hl : lv_has ls 7 [(0, .ref b)] := hl
  refine va_new (ci := 0) (fs := [.int 0, .int 0, .int 0, .int 0, .int 0, .int 0, .null, .null, .null, .null, .null, .null, .null, .null]) (C := RX0) (T := TX0) (N := 14) hx hb hw9 uX0 tyX0 tyX0_ok hown (hw9 _ mw_11) (hw9 _ mw_12) (hw9 _ mw_1) hK hP hD hS hA rfl (by decide +kernel) (Nat.le_of_ble_eq_true rfl) (Nat.le_of_ble_eq_true rfl) dL_law_0 (fun q0 H hP hD hS => ?_)
  have hP : va_P (dC, dI) vwCl ([(q0, .inr (0, [.int 0, .int 0, .int 0, .int 0, .int 0, .int 0, .null, .null, .null, .null, .null, .null, .null, .null]))]) H := hP
  have hD : va_D (fun q : Nat => s.heap.size ≤ q) ([(q0, .inr (0, [.int 0, .int 0, .int 0, .int 0, .int 0, .int 0, .null, .null, .null, .null, .null, .null, .null, .null]))]) := hD
  refine lv_dup hx hb dL_law_3 rfl ?_
  refine lv_aload_n hx hb dL_law_4 rfl (lv_at hl 0 rfl) ?_
  refine lv_iconst (v := 0) hx hb dL_law_5 (by decide) ?_
  refine kz_cell (rest := [.ref q0, .ref q0]) ⟨hx, hb, hml, hown, hw9⟩ hw9 hX hbl hS hL 0 (by decide) hl.1 (Nat.le_of_ble_eq_true rfl) dL_law_6 ⟨Nat.le_of_ble_eq_true rfl, Nat.le_of_ble_eq_true rfl⟩ (fun H1 hO => ?_)
  have hP := hO.P hP
  have hS := hO.S hS
  generalize H1 = H at hP hS ⊢
  refine lv_aload_n hx hb dL_law_9 rfl (lv_at hl 0 rfl) ?_
  refine lv_iconst (v := 1) hx hb dL_law_10 (by decide) ?_
  refine kz_cell (rest := [.int (sq_c L xs 0), .ref q0, .ref q0]) ⟨hx, hb, hml, hown, hw9⟩ hw9 hX hbl hS hL 1 (by decide) hl.1 (Nat.le_of_ble_eq_true rfl) dL_law_11 ⟨Nat.le_of_ble_eq_true rfl, Nat.le_of_ble_eq_true rfl⟩ (fun H1 hO => ?_)
  have hP := hO.P hP
  have hS := hO.S hS
  generalize H1 = H at hP hS ⊢
  have hPc := hP.sub (ws' := [(q0, .inr (0, [.int 0, .int 0, .int 0, .int 0, .int 0, .int 0, .null, .null, .null, .null, .null, .null, .null, .null]))]) [0] rfl
  have hDc := hD.sub (ws' := [(q0, .inr (0, [.int 0, .int 0, .int 0, .int 0, .int 0, .int 0, .null, .null, .null, .null, .null, .null, .null, .null]))]) [0] (by decide) rfl
  have hKc := hK.sub (tys' := []) [] rfl
  have hFc := va_free (wc := [(q0, .inr (0, [.int 0, .int 0, .int 0, .int 0, .int 0, .int 0, .null, .null, .null, .null, .null, .null, .null, .null]))]) hD hS hA [0] rfl
  refine va_callv (va_runI (As := [.int (sq_c L xs 0), .int (sq_c L xs 1)]) (rest := [.ref q0]) ⟨hx, hb, hml, hown, hw9⟩ (c_X0_init l (dC, dI) q0 H.size (sq_c L xs 0) (sq_c L xs 1)) ⟨callB_of 2 hw9 (kz_good mw_15) rfl rfl rfl (hw9 _ mw_1) (hw9 _ mw_13) (by decide +kernel) ⟨Nat.le_of_ble_eq_true rfl, Nat.le_of_ble_eq_true rfl⟩, rfl, hw9 _ mw_14⟩ ⟨fun a U g mk q => by obtain ⟨q0, q1, qP, qK, qD⟩ := q; exact ⟨q0, q1, qP, va_K.moved (u := U) (U := U.calling g mk a) (Vm.Alike.refl U.vm) qK, qD⟩, fun U hU hW => ⟨rfl, by rw [hU], by rw [hU]; exact hPc, va_K.moved hW.alike hKc, hDc.weaken (fun _ _ _ _ => trivial)⟩⟩ rfl rfl hl.1 rfl (lv_room (Nat.le_of_ble_eq_true rfl)) dL_law_14 ⟨Nat.le_of_ble_eq_true rfl, Nat.le_of_ble_eq_true rfl⟩) hS (fun q _ h => hFc q h) hFc (fun u t H1 locs ht hvm hw hB hz1 hk1 hS => ?_)
  obtain ⟨ad, cI, cZ⟩ := u
  obtain ⟨hP1, hK1, hD1⟩ := hB
  rw [ht] at hP1
  have hK1 := va_K.moved hvm.symm hK1
  try dsimp only at hw hP1 hK1 hD1
  obtain ⟨hP, hD⟩ := va_join (wr := []) (w1 := wX ad cI cZ (sq_it (sq_c L xs 0)) (sq_od (sq_c L xs 1)) 0 0 0 0 (fun _ => 0) (fun _ => 0) (fun _ => 0) (fun _ => 0) (fun _ => 0) (fun _ => 0) (fun _ => 0) (fun _ => 0)) hP hD [0] [] rfl rfl (by decide) (by decide) hk1 hFc hP1 hD1
  have hK := (hK.sub (tys' := []) [] rfl).app hK1
  generalize H1 = H at hP hS ⊢
  have hP : va_P (dC, dI) vwCl (wX ad cI cZ (sq_it (sq_c L xs 0)) (sq_od (sq_c L xs 1)) 0 0 0 0 (fun _ => 0) (fun _ => 0) (fun _ => 0) (fun _ => 0) (fun _ => 0) (fun _ => 0) (fun _ => 0) (fun _ => 0)) H := hP
  have hD : va_D (fun q : Nat => s.heap.size ≤ q) (wX ad cI cZ (sq_it (sq_c L xs 0)) (sq_od (sq_c L xs 1)) 0 0 0 0 (fun _ => 0) (fun _ => 0) (fun _ => 0) (fun _ => 0) (fun _ => 0) (fun _ => 0) (fun _ => 0) (fun _ => 0)) := hD
  have hK : va_K (dC, dI) vwCl [(cI, .int), (cZ, .boolean)] s := hK
  rw [← hw]
  refine lv_astore_n (lv' := [(1, .ref (ad 0)), (0, .ref b)]) hx hb dL_law_17 rfl hl (by decide) rfl (fun ls hl => ?_)
  refine va_new (ci := 1) (fs := [.int 0, .int 0, .int 0, .int 0, .int 0, .int 0, .int 0, .null]) (C := RX1) (T := TX1) (N := 8) hx hb hw9 uX1 tyX1 tyX1_ok hown (hw9 _ mw_354) (hw9 _ mw_355) (hw9 _ mw_2) hK hP hD hS hA rfl (by decide +kernel) (Nat.le_of_ble_eq_true rfl) (Nat.le_of_ble_eq_true rfl) dL_law_18 (fun q2 H hP hD hS => ?_)
  have hP : va_P (dC, dI) vwCl (wX ad cI cZ (sq_it (sq_c L xs 0)) (sq_od (sq_c L xs 1)) 0 0 0 0 (fun _ => 0) (fun _ => 0) (fun _ => 0) (fun _ => 0) (fun _ => 0) (fun _ => 0) (fun _ => 0) (fun _ => 0) ++ [(q2, .inr (1, [.int 0, .int 0, .int 0, .int 0, .int 0, .int 0, .int 0, .null]))]) H := hP
  have hD : va_D (fun q : Nat => s.heap.size ≤ q) (wX ad cI cZ (sq_it (sq_c L xs 0)) (sq_od (sq_c L xs 1)) 0 0 0 0 (fun _ => 0) (fun _ => 0) (fun _ => 0) (fun _ => 0) (fun _ => 0) (fun _ => 0) (fun _ => 0) (fun _ => 0) ++ [(q2, .inr (1, [.int 0, .int 0, .int 0, .int 0, .int 0, .int 0, .int 0, .null]))]) := hD
  refine lv_dup hx hb dL_law_21 rfl ?_
  refine lv_aload_n hx hb dL_law_22 rfl (lv_at hl 1 rfl) ?_
  refine lv_iconst (v := 0) hx hb dL_law_23 (by decide) ?_
  refine kz_cell (rest := [.ref q2, .ref q2]) ⟨hx, hb, hml, hown, hw9⟩ hw9 hX hbl hS hL 0 (by decide) hl.1 (Nat.le_of_ble_eq_true rfl) dL_law_24 ⟨Nat.le_of_ble_eq_true rfl, Nat.le_of_ble_eq_true rfl⟩ (fun H1 hO => ?_)
  have hP := hO.P hP
  have hS := hO.S hS
  generalize H1 = H at hP hS ⊢
  refine lv_aload_n hx hb dL_law_27 rfl (lv_at hl 1 rfl) ?_
  refine lv_iconst (v := 1) hx hb dL_law_28 (by decide) ?_
  refine kz_cell (rest := [.int (sq_c L xs 0), .ref q2, .ref q2]) ⟨hx, hb, hml, hown, hw9⟩ hw9 hX hbl hS hL 1 (by decide) hl.1 (Nat.le_of_ble_eq_true rfl) dL_law_29 ⟨Nat.le_of_ble_eq_true rfl, Nat.le_of_ble_eq_true rfl⟩ (fun H1 hO => ?_)
  have hP := hO.P hP
  have hS := hO.S hS
  generalize H1 = H at hP hS ⊢
  have hPc := hP.sub (ws' := [(q2, .inr (1, [.int 0, .int 0, .int 0, .int 0, .int 0, .int 0, .int 0, .null]))]) [9] rfl
  have hDc := hD.sub (ws' := [(q2, .inr (1, [.int 0, .int 0, .int 0, .int 0, .int 0, .int 0, .int 0, .null]))]) [9] (by decide) rfl
  have hKc := hK.sub (tys' := []) [] rfl
  have hFc := va_free (wc := [(q2, .inr (1, [.int 0, .int 0, .int 0, .int 0, .int 0, .int 0, .int 0, .null]))]) hD hS hA [9] rfl
  refine va_callv (va_runI (As := [.int (sq_c L xs 0), .int (sq_c L xs 1)]) (rest := [.ref q2]) ⟨hx, hb, hml, hown, hw9⟩ (c_X1_init l (dC, dI) q2 H.size (sq_c L xs 0) (sq_c L xs 1)) ⟨callB_of 2 hw9 (kz_good mw_358) rfl rfl rfl (hw9 _ mw_2) (hw9 _ mw_356) (by decide +kernel) ⟨Nat.le_of_ble_eq_true rfl, Nat.le_of_ble_eq_true rfl⟩, rfl, hw9 _ mw_357⟩ ⟨fun a U g mk q => by obtain ⟨q0, q1, qP, qK, qD⟩ := q; exact ⟨q0, q1, qP, va_K.moved (u := U) (U := U.calling g mk a) (Vm.Alike.refl U.vm) qK, qD⟩, fun U hU hW => ⟨rfl, by rw [hU], by rw [hU]; exact hPc, va_K.moved hW.alike hKc, hDc.weaken (fun _ _ _ _ => trivial)⟩⟩ rfl rfl hl.1 rfl (lv_room (Nat.le_of_ble_eq_true rfl)) dL_law_32 ⟨Nat.le_of_ble_eq_true rfl, Nat.le_of_ble_eq_true rfl⟩) hS (fun q _ h => hFc q h) hFc (fun u t H1 locs ht hvm hw hB hz1 hk1 hS => ?_)
  obtain ⟨bd, cJ⟩ := u
  obtain ⟨hP1, hK1, hD1⟩ := hB
  rw [ht] at hP1
  have hK1 := va_K.moved hvm.symm hK1
  try dsimp only at hw hP1 hK1 hD1
  obtain ⟨hP, hD⟩ := va_join (wr := (wX ad cI cZ (sq_it (sq_c L xs 0)) (sq_od (sq_c L xs 1)) 0 0 0 0 (fun _ => 0) (fun _ => 0) (fun _ => 0) (fun _ => 0) (fun _ => 0) (fun _ => 0) (fun _ => 0) (fun _ => 0))) (w1 := wM bd cJ 0 (sq_it (sq_c L xs 0)) (sq_od (sq_c L xs 1)) 0 0 0 0 (fun _ => 0)) hP hD [9] [0, 1, 2, 3, 4, 5, 6, 7, 8] rfl rfl (by decide) (by decide) hk1 hFc hP1 hD1
  have hK := (hK.sub (tys' := [(cI, .int), (cZ, .boolean)]) [0, 1] rfl).app hK1
  generalize H1 = H at hP hS ⊢
  have hP : va_P (dC, dI) vwCl (wX ad cI cZ (sq_it (sq_c L xs 0)) (sq_od (sq_c L xs 1)) 0 0 0 0 (fun _ => 0) (fun _ => 0) (fun _ => 0) (fun _ => 0) (fun _ => 0) (fun _ => 0) (fun _ => 0) (fun _ => 0) ++ wM bd cJ 0 (sq_it (sq_c L xs 0)) (sq_od (sq_c L xs 1)) 0 0 0 0 (fun _ => 0)) H := hP
  have hD : va_D (fun q : Nat => s.heap.size ≤ q) (wX ad cI cZ (sq_it (sq_c L xs 0)) (sq_od (sq_c L xs 1)) 0 0 0 0 (fun _ => 0) (fun _ => 0) (fun _ => 0) (fun _ => 0) (fun _ => 0) (fun _ => 0) (fun _ => 0) (fun _ => 0) ++ wM bd cJ 0 (sq_it (sq_c L xs 0)) (sq_od (sq_c L xs 1)) 0 0 0 0 (fun _ => 0)) := hD
  have hK : va_K (dC, dI) vwCl [(cI, .int), (cZ, .boolean), (cJ, .int)] s := hK
  rw [← hw]
  obtain rfl : cI = cJ := kz_caI (i := 0) (j := 2) hK rfl rfl
  refine lv_astore_n (lv' := [(2, .ref (bd 0)), (1, .ref (ad 0)), (0, .ref b)]) hx hb dL_law_35 rfl hl (by decide) rfl (fun ls hl => ?_)
  refine lv_iconst (v := 1) hx hb dL_law_36 (by decide) ?_
  refine va_newa (atype := .long) (ty := .long) (a0 := (1, .inr (.inl (fun _ => 0)))) (N' := 1) hx hb (hw9 _ mw_498) rfl hK hP hD hS hA (fun cA => rfl) (by decide) (by decide) (by decide) (Nat.le_of_ble_eq_true rfl) (Nat.le_of_ble_eq_true rfl) dL_law_37 (fun qo cL H hK hP hD hS => ?_)
  have hP : va_P (dC, dI) vwCl (wX ad cI cZ (sq_it (sq_c L xs 0)) (sq_od (sq_c L xs 1)) 0 0 0 0 (fun _ => 0) (fun _ => 0) (fun _ => 0) (fun _ => 0) (fun _ => 0) (fun _ => 0) (fun _ => 0) (fun _ => 0) ++ wM bd cI 0 (sq_it (sq_c L xs 0)) (sq_od (sq_c L xs 1)) 0 0 0 0 (fun _ => 0) ++ [(qo, .inl (cL, 1, .inr (.inl (fun _ => 0))))]) H := hP
  have hD : va_D (fun q : Nat => s.heap.size ≤ q) (wX ad cI cZ (sq_it (sq_c L xs 0)) (sq_od (sq_c L xs 1)) 0 0 0 0 (fun _ => 0) (fun _ => 0) (fun _ => 0) (fun _ => 0) (fun _ => 0) (fun _ => 0) (fun _ => 0) (fun _ => 0) ++ wM bd cI 0 (sq_it (sq_c L xs 0)) (sq_od (sq_c L xs 1)) 0 0 0 0 (fun _ => 0) ++ [(qo, .inl (cL, 1, .inr (.inl (fun _ => 0))))]) := hD
  have hK := hK.sub (tys' := [(cI, .int), (cZ, .boolean), (cL, .long)]) [0, 1, 3] rfl
  refine lv_astore_n (lv' := [(3, .ref qo), (2, .ref (bd 0)), (1, .ref (ad 0)), (0, .ref b)]) hx hb dL_law_39 rfl hl (by decide) rfl (fun ls hl => ?_)
  refine lv_iconst (v := 2) hx hb dL_law_40 (by decide) ?_
  refine lv_istore (lv' := [(4, .int 2), (3, .ref qo), (2, .ref (bd 0)), (1, .ref (ad 0)), (0, .ref b)]) hx hb dL_law_41 hl (by decide) rfl (fun ls hl => ?_)
  have hP := hP.sub (ws' := wX ad cI cZ (sq_it (sq_c L xs 0)) (sq_od (sq_c L xs 1)) 0 0 0 0 (fun _ => 0) (fun _ => 0) (fun _ => 0) (fun _ => 0) (fun _ => 0) (fun _ => 0) (fun _ => 0) (fun _ => 0) ++ [(qo, .inl (cL, 1, .inr (.inl (fun _ => 0))))] ++ wM bd cI 0 (sq_it (sq_c L xs 0)) (sq_od (sq_c L xs 1)) 0 0 0 0 (sm_al (fun _ => 0) (fun _ => 0) (fun _ => 0) (fun _ => 0) (fun _ => 0) (fun _ => 0) (fun _ => 0) (fun _ => 0))) [0, 1, 2, 3, 4, 5, 6, 7, 8, 11, 9, 10] (by rw [sm_al0]; rfl)
  have hD := hD.sub (ws' := wX ad cI cZ (sq_it (sq_c L xs 0)) (sq_od (sq_c L xs 1)) 0 0 0 0 (fun _ => 0) (fun _ => 0) (fun _ => 0) (fun _ => 0) (fun _ => 0) (fun _ => 0) (fun _ => 0) (fun _ => 0) ++ [(qo, .inl (cL, 1, .inr (.inl (fun _ => 0))))] ++ wM bd cI 0 (sq_it (sq_c L xs 0)) (sq_od (sq_c L xs 1)) 0 0 0 0 (sm_al (fun _ => 0) (fun _ => 0) (fun _ => 0) (fun _ => 0) (fun _ => 0) (fun _ => 0) (fun _ => 0) (fun _ => 0))) [0, 1, 2, 3, 4, 5, 6, 7, 8, 11, 9, 10] (by decide) (by rw [sm_al0]; rfl)
  refine law_loop l hl9 hL C0 hE ad bd qo cI cZ cL hK 513 0 2 _ _ 0 (sq_it (sq_c L xs 0)) (sq_od (sq_c L xs 1)) 0 0 0 0 (fun _ => 0) (fun _ => 0) (fun _ => 0) (fun _ => 0) (fun _ => 0) (fun _ => 0) (fun _ => 0) (fun _ => 0) (fun _ => 0) H _ ls (by decide) (by decide) rfl (by decide) (by decide) (sv_0 _ _) hP hD hS ?_
  exact lv_sub hl [4, 3, 2, 1, 0] rfl
