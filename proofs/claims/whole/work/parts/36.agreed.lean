/-! agreed(): the reference goes through all sets, the class through the servers -/
def sm_mn (f : Nat → Int32) (u : Nat) : Nat → Int32
  | 0 => 1000000001
  | i + 1 => if u.testBit i = true ∧ f i < sm_mn f u i then f i else sm_mn f u i
def sm_bs (o n : Int32) (f : Nat → Int32) : Nat → Int32
  | 0 => 0
  | c + 1 => if sq_M o n (nI (c + 1)) = true ∧ sm_bs o n f c < sm_mn f (c + 1) 7 then sm_mn f (c + 1) 7 else sm_bs o n f c
theorem sm_Su : ∀ u, u < 128 → sq_S (nI u) = true := by decide +kernel
theorem sm_mn_le (f : Nat → Int32) (u : Nat) : ∀ k i, i < k → u.testBit i = true → sm_mn f u k ≤ f i
  | 0, i, h, _ => absurd h (Nat.not_lt_zero i)
  | k + 1, i, h, hu => by
    show (if u.testBit k = true ∧ f k < sm_mn f u k then f k else sm_mn f u k) ≤ f i
    by_cases e : i = k
    · subst e
      by_cases q : f i < sm_mn f u i
      · rw [if_pos ⟨hu, q⟩]; exact Int32.le_refl _
      · rw [if_neg (fun z => q z.2)]; exact Int32.not_lt.mp q
    · have ih := sm_mn_le f u k i (by omega) hu
      by_cases q : u.testBit k = true ∧ f k < sm_mn f u k
      · rw [if_pos q]; exact Int32.le_trans (Int32.le_of_lt q.2) ih
      · rw [if_neg q]; exact ih
theorem sm_mn_of (f : Nat → Int32) (u : Nat) : ∀ k, sm_mn f u k = 1000000001 ∨ ∃ i, i < k ∧ u.testBit i = true ∧ sm_mn f u k = f i
  | 0 => Or.inl rfl
  | k + 1 => by
    by_cases q : u.testBit k = true ∧ f k < sm_mn f u k
    · refine Or.inr ⟨k, by omega, q.1, ?_⟩
      show (if _ then _ else _) = _
      rw [if_pos q]
    · have e : sm_mn f u (k + 1) = sm_mn f u k := by
        show (if _ then _ else _) = _
        rw [if_neg q]
      rw [e]
      rcases sm_mn_of f u k with h | ⟨i, h1, h2, h3⟩
      · exact Or.inl h
      · exact Or.inr ⟨i, by omega, h2, h3⟩
theorem sm_bs_0 (o n : Int32) (f : Nat → Int32) : ∀ c, 0 ≤ sm_bs o n f c
  | 0 => Int32.le_refl _
  | c + 1 => by
    have ih := sm_bs_0 o n f c
    show 0 ≤ (if sq_M o n (nI (c + 1)) = true ∧ sm_bs o n f c < sm_mn f (c + 1) 7 then sm_mn f (c + 1) 7 else sm_bs o n f c)
    split
    · rename_i q; exact Int32.le_trans ih (Int32.le_of_lt q.2)
    · exact ih
theorem sm_bs_ge (o n : Int32) (f : Nat → Int32) : ∀ c d, d < c → sq_M o n (nI (d + 1)) = true → sm_mn f (d + 1) 7 ≤ sm_bs o n f c
  | 0, d, h, _ => absurd h (Nat.not_lt_zero d)
  | c + 1, d, h, hm => by
    show sm_mn f (d + 1) 7 ≤ (if sq_M o n (nI (c + 1)) = true ∧ sm_bs o n f c < sm_mn f (c + 1) 7 then sm_mn f (c + 1) 7 else sm_bs o n f c)
    by_cases e : d = c
    · subst e
      by_cases q : sm_bs o n f d < sm_mn f (d + 1) 7
      · rw [if_pos ⟨hm, q⟩]; exact Int32.le_refl _
      · rw [if_neg (fun z => q z.2)]; exact Int32.not_lt.mp q
    · have ih := sm_bs_ge o n f c d (by omega) hm
      by_cases q : sq_M o n (nI (c + 1)) = true ∧ sm_bs o n f c < sm_mn f (c + 1) 7
      · rw [if_pos q]; exact Int32.le_trans ih (Int32.le_of_lt q.2)
      · rw [if_neg q]; exact ih
theorem sm_bs_of (o n : Int32) (f : Nat → Int32) : ∀ c, sm_bs o n f c = 0 ∨ ∃ d, d < c ∧ sq_M o n (nI (d + 1)) = true ∧ sm_bs o n f c = sm_mn f (d + 1) 7
  | 0 => Or.inl rfl
  | c + 1 => by
    by_cases q : sq_M o n (nI (c + 1)) = true ∧ sm_bs o n f c < sm_mn f (c + 1) 7
    · refine Or.inr ⟨c, by omega, q.1, ?_⟩
      show (if _ then _ else _) = _
      rw [if_pos q]
    · have e : sm_bs o n f (c + 1) = sm_bs o n f c := by
        show (if _ then _ else _) = _
        rw [if_neg q]
      rw [e]
      rcases sm_bs_of o n f c with h | ⟨d, h1, h2, h3⟩
      · exact Or.inl h
      · exact Or.inr ⟨d, by omega, h2, h3⟩
theorem sm_A_0 (o n : Int32) (f : Nat → Int32) : ∀ k, 0 ≤ sq_A o n f k
  | 0 => Int32.le_refl _
  | k + 1 => by
    have ih := sm_A_0 o n f k
    show 0 ≤ (if sq_A o n f k < f k ∧ sq_M o n (sq_L f (f k) 7) = true then f k else sq_A o n f k)
    split
    · rename_i q; exact Int32.le_trans ih (Int32.le_of_lt q.1)
    · exact ih
theorem sm_A_ge (o n : Int32) (f : Nat → Int32) : ∀ k i, i < k → sq_M o n (sq_L f (f i) 7) = true → f i ≤ sq_A o n f k
  | 0, i, h, _ => absurd h (Nat.not_lt_zero i)
  | k + 1, i, h, hm => by
    show f i ≤ (if sq_A o n f k < f k ∧ sq_M o n (sq_L f (f k) 7) = true then f k else sq_A o n f k)
    by_cases e : i = k
    · subst e
      by_cases q : sq_A o n f i < f i
      · rw [if_pos ⟨q, hm⟩]; exact Int32.le_refl _
      · rw [if_neg (fun z => q z.1)]; exact Int32.not_lt.mp q
    · have ih := sm_A_ge o n f k i (by omega) hm
      by_cases q : sq_A o n f k < f k ∧ sq_M o n (sq_L f (f k) 7) = true
      · rw [if_pos q]; exact Int32.le_trans ih (Int32.le_of_lt q.1)
      · rw [if_neg q]; exact ih
theorem sm_A_of (o n : Int32) (f : Nat → Int32) : ∀ k, sq_A o n f k = 0 ∨ ∃ i, i < k ∧ sq_M o n (sq_L f (f i) 7) = true ∧ sq_A o n f k = f i
  | 0 => Or.inl rfl
  | k + 1 => by
    by_cases q : sq_A o n f k < f k ∧ sq_M o n (sq_L f (f k) 7) = true
    · refine Or.inr ⟨k, by omega, q.2, ?_⟩
      show (if _ then _ else _) = _
      rw [if_pos q]
    · have e : sq_A o n f (k + 1) = sq_A o n f k := by
        show (if _ then _ else _) = _
        rw [if_neg q]
      rw [e]
      rcases sm_A_of o n f k with h | ⟨i, h1, h2, h3⟩
      · exact Or.inl h
      · exact Or.inr ⟨i, by omega, h2, h3⟩
theorem sm_pcm {x y : Nat} (h : ∀ i, i < 7 → x.testBit i = true → y.testBit i = true) : ∀ k, k ≤ 7 → sm_pc x k ≤ sm_pc y k
  | 0, _ => Nat.le_refl 0
  | k + 1, hk => by
    have ih := sm_pcm h k (by omega)
    show sm_pc x k + (if x.testBit k = true then 1 else 0) ≤ sm_pc y k + (if y.testBit k = true then 1 else 0)
    by_cases q : x.testBit k = true
    · rw [if_pos q, if_pos (h k (by omega) q)]; omega
    · rw [if_neg q]; omega
theorem sm_Hm {u w : Nat} {o : Int32} (hu : u < 128) (hw : w < 128) (ho : sq_S o = true) (h : ∀ i, i < 7 → u.testBit i = true → w.testBit i = true) (q : sq_H (nI u) o = true) : sq_H (nI w) o = true := by
  obtain ⟨y, hy, rfl⟩ := sm_S ho
  rw [sm_cmp hu hy] at q
  rw [sm_cmp hw hy]
  have h1 := of_decide_eq_true q
  have h2 : sm_pc (u &&& y) 7 ≤ sm_pc (w &&& y) 7 := sm_pcm (fun i hi hb => by
    rw [Nat.testBit_and, Bool.and_eq_true] at hb ⊢
    exact ⟨h i hi hb.1, hb.2⟩) 7 (Nat.le_refl 7)
  exact decide_eq_true (by omega)
theorem sm_Mm {u w : Nat} {o n : Int32} (hu : u < 128) (hw : w < 128) (ho : sq_S o = true) (hn : sq_S n = true) (h : ∀ i, i < 7 → u.testBit i = true → w.testBit i = true) (q : sq_M o n (nI u) = true) : sq_M o n (nI w) = true := by
  simp only [sq_M, Bool.and_eq_true, Bool.or_eq_true] at q ⊢
  exact ⟨sm_Hm hu hw ho h q.1, q.2.imp (fun z => z) (fun z => sm_Hm hu hw hn h z)⟩
theorem sm_bit9 : ∀ u, u < 128 → 0 < u → (List.range 7).any (fun i => u.testBit i) = true := by decide +kernel
theorem sm_bit (u : Nat) (h : u < 128) (h0 : 0 < u) : ∃ i, i < 7 ∧ u.testBit i = true := by
  obtain ⟨i, h1, h2⟩ := List.any_eq_true.mp (sm_bit9 u h h0)
  exact ⟨i, List.mem_range.mp h1, h2⟩
theorem sm_agr {it o n g v : Int32} {f : Nat → Int32} (hM : sv_m it o n g v) (hf : ∀ j, j < 7 → sq_N (f j) = true) : sm_bs o n f 127 = sq_A o n f 7 := by
  obtain ⟨-, ho, hn, -, -⟩ := hM
  have big : ∀ j, j < 7 → ¬ (1000000001 : Int32) ≤ f j := fun j hj q => by
    have h1 := sm_nr (hf j hj)
    rw [Int32.le_iff_toInt_le] at q
    have e : (1000000001 : Int32).toInt = 1000000001 := by decide
    rw [e] at q
    omega
  refine Int32.le_antisymm ?_ ?_
  · rcases sm_bs_of o n f 127 with h | ⟨d, hd, hm, e⟩
    · rw [h]; exact sm_A_0 o n f 7
    · rw [e]
      obtain ⟨j, hj, hb⟩ := sm_bit (d + 1) (by omega) (by omega)
      rcases sm_mn_of f (d + 1) 7 with q | ⟨i, hi, hbi, q⟩
      · exact absurd (by rw [← q]; exact sm_mn_le f (d + 1) 7 j hj hb) (big j hj)
      · rw [q]
        refine sm_A_ge o n f 7 i hi ?_
        rw [sm_Lq f (f i) 7 (Nat.le_refl 7)]
        refine sm_Mm (by omega) (sm_Ll f (f i) 7 (Nat.le_refl 7)) ho hn (fun k hk hbk => ?_) hm
        rw [sm_Lt, decide_eq_true hk, Bool.true_and]
        exact decide_eq_true (by rw [← q]; exact sm_mn_le f (d + 1) 7 k hk hbk)
  · rcases sm_A_of o n f 7 with h | ⟨i, hi, hm, e⟩
    · rw [h]; exact sm_bs_0 o n f 127
    · rw [e]
      rw [sm_Lq f (f i) 7 (Nat.le_refl 7)] at hm
      have hl := sm_Ll f (f i) 7 (Nat.le_refl 7)
      have hbi : (sm_Ln f (f i) 7).testBit i = true := by rw [sm_Lt, decide_eq_true hi, Bool.true_and]; exact decide_eq_true (Int32.le_refl _)
      have hpos : 0 < sm_Ln f (f i) 7 := by
        rcases Nat.eq_zero_or_pos (sm_Ln f (f i) 7) with z | z
        · rw [z, Nat.zero_testBit] at hbi; exact absurd hbi (by decide)
        · exact z
      obtain ⟨d, hd⟩ : ∃ d, sm_Ln f (f i) 7 = d + 1 := ⟨sm_Ln f (f i) 7 - 1, by omega⟩
      have h2 : f i ≤ sm_mn f (d + 1) 7 := by
        rcases sm_mn_of f (d + 1) 7 with q | ⟨k, hk, hbk, q⟩
        · rw [q]; exact Int32.le_of_lt (Int32.not_le.mp (big i hi))
        · rw [q]
          rw [← hd, sm_Lt, decide_eq_true hk, Bool.true_and] at hbk
          exact of_decide_eq_true hbk
      rw [hd] at hm
      exact Int32.le_trans h2 (sm_bs_ge o n f 127 d (by omega) hm)
theorem sm_c127 {c : Nat} (h : c ≤ 127) (q : (128 : Int32) ≤ nI (c + 1)) : c = 127 := by
  have h1 := (nI_leI (a := 128) (b := c + 1) (by decide) (by omega)).mp q
  omega
theorem sm_cl {c : Nat} (h : c ≤ 127) (q : ¬ (128 : Int32) ≤ nI (c + 1)) : c + 1 < 128 := by
  rcases Nat.lt_or_ge (c + 1) 128 with z | z
  · exact z
  · exact absurd ((nI_leI (a := 128) (b := c + 1) (by decide) (by omega)).mpr z) q
theorem sm_q2 {x : Int32} (h1 : ¬ x < 0) (h2 : x ≤ 2) (h3 : ¬ x = 0) (h4 : ¬ x = 1) : x = 2 := by
  obtain ⟨k, hk, e⟩ := nI_of2 (M := 2) (n := 2) (by decide) h1 h2
  have : k = 0 ∨ k = 1 ∨ k = 2 := by omega
  rcases this with rfl | rfl | rfl
  · exact absurd e h3
  · exact absurd e h4
  · exact e
theorem sm_tca {x : Int32} (h : x < 0 ∨ ¬ x ≤ 2) : tc_agreed x = 1 := by
  unfold tc_agreed
  rw [if_neg]
  rintro (rfl | rfl | rfl) <;> exact absurd h (by decide)
