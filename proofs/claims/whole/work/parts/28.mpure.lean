/-! change(): who may be in the target, and who is a learner no more -/
def sm_cd (t o g : Int32) (mt : Nat → Int32) (least : Int32) (i : Nat) : Bool := !sm_h t (nI i) || (sm_h o (nI i) || (sm_h g (nI i) && decide (least ≤ mt i)))
def sm_gd (t o g : Int32) (mt : Nat → Int32) (least : Int32) : Nat → Bool
  | 0 => sq_S t && decide (0 < t)
  | i + 1 => sm_gd t o g mt least i && sm_cd t o g mt least i
theorem sm_gdS {t o g least : Int32} {mt : Nat → Int32} (h : sm_gd t o g mt least 7 = true) : sq_S t = true := by
  simp only [sm_gd, Bool.and_eq_true] at h
  exact h.1.1.1.1.1.1.1.1
def sm_Ln (f : Nat → Int32) (least : Int32) : Nat → Nat
  | 0 => 0
  | k + 1 => if least ≤ f k then sm_Ln f least k ||| 2 ^ k else sm_Ln f least k
theorem sm_1k : ∀ i, i < 7 → sq_1 (nI i) = nI (2 ^ i) := by decide +kernel
theorem sm_Lq (f : Nat → Int32) (least : Int32) : ∀ k, k ≤ 7 → sq_L f least k = nI (sm_Ln f least k)
  | 0, _ => rfl
  | k + 1, h => by
    have ih := sm_Lq f least k (by omega)
    show (if least ≤ f k then _ else _) = nI (if least ≤ f k then _ else _)
    by_cases q : least ≤ f k
    · rw [if_pos q, if_pos q, ih, sm_1k k (by omega), sm_or]
    · rw [if_neg q, if_neg q, ih]
theorem sm_Lt (f : Nat → Int32) (least : Int32) : ∀ k i, (sm_Ln f least k).testBit i = (decide (i < k) && decide (least ≤ f i))
  | 0, i => by simp [sm_Ln]
  | k + 1, i => by
    have ih := sm_Lt f least k i
    show (if least ≤ f k then sm_Ln f least k ||| 2 ^ k else sm_Ln f least k).testBit i = _
    by_cases q : least ≤ f k
    · rw [if_pos q, Nat.testBit_or, ih, Nat.testBit_two_pow]
      by_cases e : k = i
      · subst e; simp [q]
      · have e2 : (i < k + 1) = (i < k) := propext ⟨fun h => by omega, fun h => by omega⟩
        simp [e, e2]
    · rw [if_neg q, ih]
      by_cases e : i = k
      · subst e; simp [q]
      · have e2 : (i < k + 1) = (i < k) := propext ⟨fun h => by omega, fun h => by omega⟩
        simp [e2]
theorem sm_Ll (f : Nat → Int32) (least : Int32) : ∀ k, k ≤ 7 → sm_Ln f least k < 128
  | 0, _ => by show 0 < 128; decide
  | k + 1, h => by
    have ih := sm_Ll f least k (by omega)
    show (if least ≤ f k then sm_Ln f least k ||| 2 ^ k else sm_Ln f least k) < 128
    split
    · exact Nat.or_lt_two_pow (n := 7) ih (Nat.pow_lt_pow_right (by decide) (by omega))
    · exact ih
theorem sm_0t : ∀ t, t < 128 → decide (0 < nI t) = decide (¬ nI t = 0) := by decide +kernel
theorem sm_chg {it o n g v t least : Int32} {mt : Nat → Int32} (hM : sv_m it o n g v) : sm_gd t o g mt least 7 = decide (sq_S t = true ∧ ¬ t = 0 ∧ (t &&& ((o ||| (g &&& sq_L mt least 7)) ^^^ (-1))) = 0) := by
  obtain ⟨-, ho, -, hg, -⟩ := hM
  cases hs : sq_S t with
  | false => simp [sm_gd, hs]
  | true =>
    obtain ⟨k, hk, rfl⟩ := sm_S hs
    obtain ⟨xo, ho8, rfl⟩ := sm_S ho
    obtain ⟨xg, hg8, rfl⟩ := sm_S hg
    rw [sm_Lq mt least 7 (Nat.le_refl 7), sm_and, sm_or]
    have hu : (xo ||| (xg &&& sm_Ln mt least 7)) < 128 := Nat.or_lt_two_pow (n := 7) ho8 (Nat.lt_of_le_of_lt Nat.and_le_left hg8)
    have hC := sm_subx k hk _ hu
    have hcd : ∀ i, i < 7 → sm_cd (nI k) (nI xo) (nI xg) mt least i = (!k.testBit i || (xo ||| (xg &&& sm_Ln mt least 7)).testBit i) := fun i hi => by
      unfold sm_cd
      rw [sm_has k hk i hi, sm_has xo ho8 i hi, sm_has xg hg8 i hi, Nat.testBit_or, Nat.testBit_and, sm_Lt, decide_eq_true hi, Bool.true_and]
    rw [Bool.decide_and, Bool.decide_and, hC, ← sm_0t k hk]
    simp only [sm_gd, hs, hcd 0 (by decide), hcd 1 (by decide), hcd 2 (by decide), hcd 3 (by decide), hcd 4 (by decide), hcd 5 (by decide), hcd 6 (by decide), sm_sub, List.range, List.range.loop, List.all_cons, List.all_nil, Bool.and_true, Bool.true_and, decide_true, Bool.and_assoc]
theorem sm_tch1 {it o n g v t least : Int32} {mt : Nat → Int32} (hM : sv_m it o n g v) (h : sm_gd t o g mt least 7 = false) : tc_change o n g mt t least = 1 := by
  unfold tc_change
  rw [if_neg (of_decide_eq_false ((sm_chg hM).symm.trans h))]
theorem sm_tch2 {it o n g v t least : Int32} {mt : Nat → Int32} (hM : sv_m it o n g v) (h : sm_gd t o g mt least 7 = true) (hn : ¬ n = 0) : tc_change o n g mt t least = 2 := by
  unfold tc_change
  rw [if_pos (of_decide_eq_true ((sm_chg hM).symm.trans h)), if_neg hn]
theorem sm_tch0 {it o n g v t least : Int32} {mt : Nat → Int32} (hM : sv_m it o n g v) (h : sm_gd t o g mt least 7 = true) (hn : n = 0) : tc_change o n g mt t least = 0 := by
  unfold tc_change
  rw [if_pos (of_decide_eq_true ((sm_chg hM).symm.trans h)), if_pos hn]
theorem sm_kkl {x t : Nat} (hx : x < 128) : ∀ i, sm_kk x t i < 128
  | 0 => hx
  | i + 1 => by
    have ih := sm_kkl (t := t) hx i
    show (if _ then _ else _) < 128
    split
    · exact Nat.lt_of_le_of_lt (Nat.sub_le _ _) ih
    · exact ih
theorem sm_kks : ∀ a, a < 128 → ∀ i, i < 7 → a.testBit i = true → nI a - (1 <<< (nI i &&& 31)) = nI (a - 2 ^ i) := by decide +kernel
theorem sm_kky {x t i : Nat} (hx : x < 128) (hi : i < 7) (h : (sm_kk x t i).testBit i = true ∧ t.testBit i = true) : nI (sm_kk x t (i + 1)) = nI (sm_kk x t i) - (1 <<< (nI i &&& 31)) := by
  rw [sm_kks _ (sm_kkl hx i) i hi h.1]
  show nI (if _ then _ else _) = _
  rw [if_pos h]
theorem sm_kkn {x t i : Nat} (hx : x < 128) (hi : i < 7) (h : ¬ ((sm_kk x t i).testBit i = true ∧ t.testBit i = true)) : nI (sm_kk x t (i + 1)) = nI (sm_kk x t i) := by
  show nI (if _ then _ else _) = _
  rw [if_neg h]
