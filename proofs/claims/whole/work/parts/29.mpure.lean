theorem sm_badV {p0 p1 p2 p3 p4 : Int32} (h : tc_bad p0 p1 p2 p3 p4 = 0) : sq_V p0 = true := by
  unfold tc_bad at h
  by_cases q : sq_V p0 = true
  · exact q
  · rw [if_neg q] at h; exact absurd h (by decide)
theorem sm_tcm (p0 p1 p2 p3 : Int32) : tc_matched p0 p1 p2 p3 = tc_bad p0 p1 p2 p3 0 := by
  have h : sq_N 0 = true := by decide
  simp only [tc_matched, tc_bad, h, and_true]
theorem sm_fi {x : Int32} : 0 ≤ x ∧ x ≤ 4 ↔ 0 ≤ x.toInt ∧ x.toInt ≤ 4 := by
  rw [Int32.le_iff_toInt_le, Int32.le_iff_toInt_le]
  have e0 : (0 : Int32).toInt = 0 := by decide
  have e4 : (4 : Int32).toInt = 4 := by decide
  rw [e0, e4]
theorem sm_f5 {x : Int32} (h : 0 ≤ x ∧ x ≤ 4) : x = 0 ∨ x = 1 ∨ x = 2 ∨ x = 3 ∨ x = 4 := by
  obtain ⟨k, hk, e⟩ := nI_of2 (M := 4) (n := 4) (by decide) (Int32.not_lt.mpr h.1) h.2
  have : k = 0 ∨ k = 1 ∨ k = 2 ∨ k = 3 ∨ k = 4 := by omega
  rcases this with rfl | rfl | rfl | rfl | rfl <;> simp [e, nI]
theorem sm_fl0 {fl : Nat → Int32} {a : Nat} (h : ∀ j, j < 7 → 0 ≤ fl j ∧ fl j ≤ 4) (ha : a < 7) (c : fl a = 0) : sq_max (fl a - 1) 0 = 0 := by
  rw [c]; decide
theorem sm_fl1 {fl : Nat → Int32} {a : Nat} (h : ∀ j, j < 7 → 0 ≤ fl j ∧ fl j ≤ 4) (ha : a < 7) (c : ¬ fl a = 0) : sq_max (fl a - 1) 0 = fl a - 1 := by
  rcases sm_f5 (h a ha) with e | e | e | e | e
  · exact absurd e c
  all_goals (rw [e]; decide)
theorem sm_mn1 {x y : Int32} (c : x ≤ y) : sq_min x y = x := by
  unfold sq_min
  rw [if_neg (Int32.not_lt.mpr c)]
theorem sm_mn2 {x y : Int32} (c : ¬ x ≤ y) : sq_min x y = y := by
  unfold sq_min
  rw [if_pos (Int32.not_le.mp c)]
theorem sm_tcs1 (p0 p1 p2 p3 p4 p5 : Int32) (h : ¬ tc_bad p0 p1 p2 p3 p4 = 0) : tc_stored p0 p1 p2 p3 p4 p5 = tc_bad p0 p1 p2 p3 p4 := by
  unfold tc_stored tc_bad
  unfold tc_bad at h
  by_cases q : sq_V p0 = true
  · rw [if_pos q] at h ⊢
    rw [if_pos q]
    by_cases k : sq_N p1 = true ∧ sq_N p2 = true ∧ sq_N p3 = true ∧ sq_N p4 = true
    · rw [if_pos k] at h; exact absurd rfl h
    · rw [if_neg k, if_neg (fun z => k ⟨z.1, z.2.1, z.2.2.1, z.2.2.2.1⟩)]
  · rw [if_neg q, if_neg q]
theorem sm_tcs2 {p0 p1 p2 p3 p4 p5 : Int32} (h1 : tc_bad p0 p1 p2 p3 p4 = 0) (h : ¬ tc_bad p0 p5 0 0 0 = 0) : tc_stored p0 p1 p2 p3 p4 p5 = tc_bad p0 p5 0 0 0 := by
  have hv := sm_badV h1
  have h0 : sq_N 0 = true := by decide
  unfold tc_stored tc_bad
  unfold tc_bad at h
  rw [if_pos hv] at h ⊢
  rw [if_pos hv]
  simp only [h0, and_true] at h ⊢
  by_cases k : sq_N p5 = true
  · rw [if_pos k] at h; exact absurd rfl h
  · rw [if_neg k, if_neg (fun z => k z.2.2.2.2)]
theorem sm_tcs0 {p0 p1 p2 p3 p4 p5 : Int32} (h1 : tc_bad p0 p1 p2 p3 p4 = 0) (h2 : tc_bad p0 p5 0 0 0 = 0) : tc_stored p0 p1 p2 p3 p4 p5 = 0 := by
  have hv := sm_badV h1
  have h0 : sq_N 0 = true := by decide
  unfold tc_bad at h1 h2
  rw [if_pos hv] at h1 h2
  unfold tc_stored
  rw [if_pos hv]
  simp only [h0, and_true] at h2
  by_cases k : sq_N p1 = true ∧ sq_N p2 = true ∧ sq_N p3 = true ∧ sq_N p4 = true
  · by_cases k2 : sq_N p5 = true
    · rw [if_pos ⟨k.1, k.2.1, k.2.2.1, k.2.2.2, k2⟩]
    · rw [if_neg k2] at h2; exact absurd h2 (by decide)
  · rw [if_neg k] at h1; exact absurd h1 (by decide)
theorem sm_8w {x : Int32} (h1 : ¬ x < 0) (h2 : x ≤ 7) : ∃ b, b < 8 ∧ x = nI b := by
  obtain ⟨k, hk, e⟩ := nI_of2 (M := 7) (n := 7) (by decide) h1 h2
  exact ⟨k, by omega, e⟩
theorem sm_b8 {b : Nat} (h : b < 8) : b = 0 ∨ b = 1 ∨ b = 2 ∨ b = 3 ∨ b = 4 ∨ b = 5 ∨ b = 6 ∨ b = 7 := by omega
theorem sm_tcg0 {p0 p1 : Int32} {b : Nat} (hv : sq_V p0 = true) (hb : b < 8) (e : p1 = nI b) : tc_get p0 p1 = 0 := by
  unfold tc_get
  rw [if_pos]
  refine ⟨hv, ?_⟩
  rcases sm_b8 hb with rfl | rfl | rfl | rfl | rfl | rfl | rfl | rfl <;> (rw [e]; decide)
theorem sm_get {nx mt fl pr ofs ak hd an : Nat → Int32} {a b : Nat} {p1 : Int32} (hb : b < 8) (e : p1 = nI b) (hpa : ∀ j, j < 7 → (pr j = 0 ∨ pr j = 1) ∧ (an j = 0 ∨ an j = 1)) (ha : a < 7) : sm_al nx mt fl pr ofs ak hd an (8 * a + b) = (if p1 = 0 then nx a else if p1 = 1 then mt a else if p1 = 2 then fl a else if p1 = 3 then (if pr a = 0 then 0 else 1) else if p1 = 4 then ofs a else if p1 = 5 then ak a else if p1 = 6 then hd a else (if an a = 0 then 0 else 1)) := by
  obtain ⟨h3, h7⟩ := hpa a ha
  rcases sm_b8 hb with rfl | rfl | rfl | rfl | rfl | rfl | rfl | rfl
  · rw [sm_g0, e]; rfl
  · rw [sm_g1, e]; rfl
  · rw [sm_g2, e]; rfl
  · rw [sm_g3, e]; rcases h3 with q | q <;> (rw [q]; rfl)
  · rw [sm_g4, e]; rfl
  · rw [sm_g5, e]; rfl
  · rw [sm_g6, e]; rfl
  · rw [sm_g7, e]; rcases h7 with q | q <;> (rw [q]; rfl)
theorem sm_ne {x : Int32} (h : x < 0 ∨ ¬ x ≤ 7) : ¬ x = 0 ∧ ¬ x = 1 ∧ ¬ x = 2 ∧ ¬ x = 3 ∧ ¬ x = 4 ∧ ¬ x = 5 ∧ ¬ x = 6 ∧ ¬ x = 7 := by
  refine ⟨?_, ?_, ?_, ?_, ?_, ?_, ?_, ?_⟩ <;> (rintro rfl; exact absurd h (by decide))
theorem sm_tcg1 {p0 p1 : Int32} (h : p1 < 0 ∨ ¬ p1 ≤ 7) : tc_get p0 p1 = 1 := by
  obtain ⟨q0, q1, q2, q3, q4, q5, q6, q7⟩ := sm_ne h
  unfold tc_get
  rw [if_neg]
  rintro ⟨-, k | k | k | k | k | k | k | k⟩
  · exact q0 k
  · exact q1 k
  · exact q2 k
  · exact q3 k
  · exact q4 k
  · exact q5 k
  · exact q6 k
  · exact q7 k
theorem sm_PS {it o n g v : Int32} (h : sv_m it o n g v) : sq_S (sq_P it o n g) = true := by
  obtain ⟨h1, h2, h3, h4, -⟩ := h
  obtain ⟨xo, ho, eo⟩ := sm_S h2
  obtain ⟨xn, hn, en⟩ := sm_S h3
  obtain ⟨xg, hg, eg⟩ := sm_S h4
  obtain ⟨hA, hI⟩ := sm_srv h1
  rw [← sm_peers hA hI ho hn hg eo en eg]
  exact (by decide +kernel : ∀ u, u < 128 → ∀ it, it < 7 → sq_S (nI (sm_pp u it 7)) = true) _ (sm_or3 ho hn hg) _ hA
theorem sm_hP {it o n g v : Int32} (h : sv_m it o n g v) (p : Int32) : sm_h (sq_P it o n g) p = (sq_V p && sq_I (sq_P it o n g) p) := by
  cases q : sq_V p with
  | true => rw [sm_hI (sm_PS h) q, Bool.true_and]
  | false =>
    simp only [sq_V, Bool.and_eq_false_iff, decide_eq_false_iff_not] at q
    simp only [sm_h, Bool.false_and]
    rcases q with q | q
    · simp only [decide_eq_false q, Bool.false_and]
    · simp only [decide_eq_false q, Bool.and_false, Bool.false_and]
theorem sm_fp {fl : Nat → Int32} {a : Nat} (h : ∀ j, j < 7 → 0 ≤ fl j ∧ fl j ≤ 4) (ha : a < 7) (c : ¬ fl a = 0) : 0 < fl a := by
  rcases sm_f5 (h a ha) with e | e | e | e | e
  · exact absurd e c
  all_goals (rw [e]; decide)
theorem sm_us {f : Nat → Int32} {k : Nat} : upd f k (f k) = f := by
  funext j
  unfold upd
  by_cases h : j = k
  · rw [if_pos h, h]
  · rw [if_neg h]
theorem sm_nr {x : Int32} (h : sq_N x = true) : 0 ≤ x.toInt ∧ x.toInt ≤ 1000000000 := by
  simp only [sq_N, Bool.and_eq_true, decide_eq_true_eq] at h
  rw [Int32.lt_iff_toInt_lt, Int32.le_iff_toInt_le] at h
  have e0 : (0 : Int32).toInt = 0 := by decide
  have e4 : (1000000000 : Int32).toInt = 1000000000 := by decide
  rw [e0, e4] at h
  omega
theorem sm_nr1 {x : Int32} (h : 0 ≤ x ∧ x ≤ 1000000001) : 0 ≤ x.toInt ∧ x.toInt ≤ 1000000001 := by
  rw [Int32.le_iff_toInt_le, Int32.le_iff_toInt_le] at h
  have e0 : (0 : Int32).toInt = 0 := by decide
  have e4 : (1000000001 : Int32).toInt = 1000000001 := by decide
  rw [e0, e4] at h
  exact h
theorem sm_sub1 {x y : Int32} (hx : 0 ≤ x.toInt ∧ x.toInt ≤ 1000000001) (hy : 0 ≤ y.toInt ∧ y.toInt ≤ 1000000000) : ((y - x) + 1).toInt = y.toInt - x.toInt + 1 := by
  rw [Int32.toInt_add, Int32.toInt_sub]
  have e1 : (1 : Int32).toInt = 1 := by decide
  rw [e1, Int.bmod_eq_of_le (n := y.toInt - x.toInt) (by omega) (by omega), Int.bmod_eq_of_le (by omega) (by omega)]
theorem sm_th {x y : Int32} (hx : 0 ≤ x ∧ x ≤ 1000000001) (hy : sq_N y = true) : 0 < (y - x) + 1 ↔ x ≤ y := by
  rw [Int32.lt_iff_toInt_lt, Int32.le_iff_toInt_le, sm_sub1 (sm_nr1 hx) (sm_nr hy)]
  have e0 : (0 : Int32).toInt = 0 := by decide
  rw [e0]; omega
theorem sm_F1t {fl pr : Nat → Int32} {a : Nat} (h : pr a = 0 ∨ pr a = 1) (c : pr a = 1) (d : ¬ 1 ≤ fl a) : sq_F fl pr a = true := by
  unfold sq_F; rw [c, if_neg (by decide)]; exact decide_eq_true (Int32.not_le.mp d)
theorem sm_F1f {fl pr : Nat → Int32} {a : Nat} (h : pr a = 0 ∨ pr a = 1) (c : pr a = 1) (d : 1 ≤ fl a) : sq_F fl pr a = false := by
  unfold sq_F; rw [c, if_neg (by decide)]; exact decide_eq_false (Int32.not_lt.mpr d)
theorem sm_F4t {fl pr : Nat → Int32} {a : Nat} (h : pr a = 0 ∨ pr a = 1) (c : ¬ pr a = 1) (d : ¬ 4 ≤ fl a) : sq_F fl pr a = true := by
  have e : pr a = 0 := h.resolve_right c
  unfold sq_F; rw [e, if_pos rfl]; exact decide_eq_true (Int32.not_le.mp d)
theorem sm_F4f {fl pr : Nat → Int32} {a : Nat} (h : pr a = 0 ∨ pr a = 1) (c : ¬ pr a = 1) (d : 4 ≤ fl a) : sq_F fl pr a = false := by
  have e : pr a = 0 := h.resolve_right c
  unfold sq_F; rw [e, if_pos rfl]; exact decide_eq_false (Int32.not_lt.mpr d)
/-- what lead() puts at a place -/
def sm_lw (p0 p1 : Int32) (b : Nat) : Int32 := if nI b = 0 then p0 + 1 else if nI b = 3 then 1 else if nI b = 6 then p1 else 0
theorem sm_lwx (p0 p1 : Int32) (j : Nat) : sm_lw p0 p1 (j % 8) = sm_al (fun _ => p0 + 1) (fun _ => 0) (fun _ => 0) (fun _ => 1) (fun _ => 0) (fun _ => 0) (fun _ => p1) (fun _ => 0) j := by
  unfold sm_al
  rcases sm_b8 (Nat.mod_lt j (by decide : 0 < 8)) with q | q | q | q | q | q | q | q <;> (rw [q]; rfl)
theorem sm_lwi {p0 p1 x : Int32} {i b : Nat} {al : Nat → Int32} (hb : b < 8) (e : x = sm_lw p0 p1 b) (h : ∀ j, j < 8 * i + b → al j = sm_lw p0 p1 (j % 8)) : ∀ j, j < 8 * i + (b + 1) → upd al (8 * i + b) x j = sm_lw p0 p1 (j % 8) := by
  intro j hj
  by_cases q : j = 8 * i + b
  · rw [q, pk_us, e, show (8 * i + b) % 8 = b by omega]
  · rw [pk_un q]; exact h j (by omega)
theorem kz_b8 {b : Nat} (h : b ≤ 8) (c : (8 : Int32) ≤ nI b) : b = 8 := by
  have h1 := (nI_leI (a := 8) (b := b) (by decide) (by omega)).mp c
  omega
theorem kz_bl8 {b : Nat} (h : b ≤ 8) (c : ¬ (8 : Int32) ≤ nI b) : b < 8 := by
  rcases Nat.lt_or_ge b 8 with q | q
  · exact q
  · exact absurd ((nI_leI (a := 8) (b := b) (by decide) (by omega)).mpr q) c
theorem sm_Vi {i : Nat} (h : i < 7) : sq_V (nI i) = true := (by decide +kernel : ∀ i, i < 7 → sq_V (nI i) = true) i h
theorem sm_ext {nx mt fl pr ofs ak hd an nx' mt' fl' pr' ofs' ak' hd' an' : Nat → Int32} (h0 : ∀ a, a < 7 → nx a = nx' a) (h1 : ∀ a, a < 7 → mt a = mt' a) (h2 : ∀ a, a < 7 → fl a = fl' a) (h3 : ∀ a, a < 7 → pr a = pr' a) (h4 : ∀ a, a < 7 → ofs a = ofs' a) (h5 : ∀ a, a < 7 → ak a = ak' a) (h6 : ∀ a, a < 7 → hd a = hd' a) (h7 : ∀ a, a < 7 → an a = an' a) : ∀ j, j < 56 → sm_al nx mt fl pr ofs ak hd an j = sm_al nx' mt' fl' pr' ofs' ak' hd' an' j := by
  intro j hj
  have ha : j / 8 < 7 := by omega
  unfold sm_al
  rw [h0 _ ha, h1 _ ha, h2 _ ha, h3 _ ha, h4 _ ha, h5 _ ha, h6 _ ha, h7 _ ha]
