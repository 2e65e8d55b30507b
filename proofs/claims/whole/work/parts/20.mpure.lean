/-! the reference's numbers: one row of 56, eight for each server -/
def sm_al (nx mt fl pr ofs ak hd an : Nat → Int32) : Nat → Int32 := fun j => if j % 8 = 0 then nx (j / 8) else if j % 8 = 1 then mt (j / 8) else if j % 8 = 2 then fl (j / 8) else if j % 8 = 3 then pr (j / 8) else if j % 8 = 4 then ofs (j / 8) else if j % 8 = 5 then ak (j / 8) else if j % 8 = 6 then hd (j / 8) else an (j / 8)
section
variable {nx mt fl pr ofs ak hd an : Nat → Int32} {a : Nat} {v : Int32}
theorem sm_g0 : sm_al nx mt fl pr ofs ak hd an (8 * a + 0) = nx a := by
  have h1 : (8 * a + 0) % 8 = 0 := by omega
  have h2 : (8 * a + 0) / 8 = a := by omega
  simp only [sm_al, h1, h2]; rfl
theorem sm_g1 : sm_al nx mt fl pr ofs ak hd an (8 * a + 1) = mt a := by
  have h1 : (8 * a + 1) % 8 = 1 := by omega
  have h2 : (8 * a + 1) / 8 = a := by omega
  simp only [sm_al, h1, h2]; rfl
theorem sm_g2 : sm_al nx mt fl pr ofs ak hd an (8 * a + 2) = fl a := by
  have h1 : (8 * a + 2) % 8 = 2 := by omega
  have h2 : (8 * a + 2) / 8 = a := by omega
  simp only [sm_al, h1, h2]; rfl
theorem sm_g3 : sm_al nx mt fl pr ofs ak hd an (8 * a + 3) = pr a := by
  have h1 : (8 * a + 3) % 8 = 3 := by omega
  have h2 : (8 * a + 3) / 8 = a := by omega
  simp only [sm_al, h1, h2]; rfl
theorem sm_g4 : sm_al nx mt fl pr ofs ak hd an (8 * a + 4) = ofs a := by
  have h1 : (8 * a + 4) % 8 = 4 := by omega
  have h2 : (8 * a + 4) / 8 = a := by omega
  simp only [sm_al, h1, h2]; rfl
theorem sm_g5 : sm_al nx mt fl pr ofs ak hd an (8 * a + 5) = ak a := by
  have h1 : (8 * a + 5) % 8 = 5 := by omega
  have h2 : (8 * a + 5) / 8 = a := by omega
  simp only [sm_al, h1, h2]; rfl
theorem sm_g6 : sm_al nx mt fl pr ofs ak hd an (8 * a + 6) = hd a := by
  have h1 : (8 * a + 6) % 8 = 6 := by omega
  have h2 : (8 * a + 6) / 8 = a := by omega
  simp only [sm_al, h1, h2]; rfl
theorem sm_g7 : sm_al nx mt fl pr ofs ak hd an (8 * a + 7) = an a := by
  have h1 : (8 * a + 7) % 8 = 7 := by omega
  have h2 : (8 * a + 7) / 8 = a := by omega
  simp only [sm_al, h1, h2]; rfl
theorem sm_p0 : upd (sm_al nx mt fl pr ofs ak hd an) (8 * a + 0) v = sm_al (upd nx a v) mt fl pr ofs ak hd an := by
  funext j
  have e : (j = 8 * a + 0) = (j % 8 = 0 ∧ j / 8 = a) := propext ⟨fun h => by omega, fun h => by omega⟩
  simp only [upd, sm_al, e]
  by_cases hk : j % 8 = 0 <;> by_cases ha : j / 8 = a <;> simp [hk, ha]
theorem sm_p1 : upd (sm_al nx mt fl pr ofs ak hd an) (8 * a + 1) v = sm_al nx (upd mt a v) fl pr ofs ak hd an := by
  funext j
  have e : (j = 8 * a + 1) = (j % 8 = 1 ∧ j / 8 = a) := propext ⟨fun h => by omega, fun h => by omega⟩
  simp only [upd, sm_al, e]
  by_cases hk : j % 8 = 1 <;> by_cases ha : j / 8 = a <;> simp [hk, ha]
theorem sm_p2 : upd (sm_al nx mt fl pr ofs ak hd an) (8 * a + 2) v = sm_al nx mt (upd fl a v) pr ofs ak hd an := by
  funext j
  have e : (j = 8 * a + 2) = (j % 8 = 2 ∧ j / 8 = a) := propext ⟨fun h => by omega, fun h => by omega⟩
  simp only [upd, sm_al, e]
  by_cases hk : j % 8 = 2 <;> by_cases ha : j / 8 = a <;> simp [hk, ha]
theorem sm_p3 : upd (sm_al nx mt fl pr ofs ak hd an) (8 * a + 3) v = sm_al nx mt fl (upd pr a v) ofs ak hd an := by
  funext j
  have e : (j = 8 * a + 3) = (j % 8 = 3 ∧ j / 8 = a) := propext ⟨fun h => by omega, fun h => by omega⟩
  simp only [upd, sm_al, e]
  by_cases hk : j % 8 = 3 <;> by_cases ha : j / 8 = a <;> simp [hk, ha]
theorem sm_p4 : upd (sm_al nx mt fl pr ofs ak hd an) (8 * a + 4) v = sm_al nx mt fl pr (upd ofs a v) ak hd an := by
  funext j
  have e : (j = 8 * a + 4) = (j % 8 = 4 ∧ j / 8 = a) := propext ⟨fun h => by omega, fun h => by omega⟩
  simp only [upd, sm_al, e]
  by_cases hk : j % 8 = 4 <;> by_cases ha : j / 8 = a <;> simp [hk, ha]
theorem sm_p5 : upd (sm_al nx mt fl pr ofs ak hd an) (8 * a + 5) v = sm_al nx mt fl pr ofs (upd ak a v) hd an := by
  funext j
  have e : (j = 8 * a + 5) = (j % 8 = 5 ∧ j / 8 = a) := propext ⟨fun h => by omega, fun h => by omega⟩
  simp only [upd, sm_al, e]
  by_cases hk : j % 8 = 5 <;> by_cases ha : j / 8 = a <;> simp [hk, ha]
theorem sm_p6 : upd (sm_al nx mt fl pr ofs ak hd an) (8 * a + 6) v = sm_al nx mt fl pr ofs ak (upd hd a v) an := by
  funext j
  have e : (j = 8 * a + 6) = (j % 8 = 6 ∧ j / 8 = a) := propext ⟨fun h => by omega, fun h => by omega⟩
  simp only [upd, sm_al, e]
  by_cases hk : j % 8 = 6 <;> by_cases ha : j / 8 = a <;> simp [hk, ha]
theorem sm_p7 : upd (sm_al nx mt fl pr ofs ak hd an) (8 * a + 7) v = sm_al nx mt fl pr ofs ak hd (upd an a v) := by
  funext j
  have e : (j = 8 * a + 7) = (j % 8 = 7 ∧ j / 8 = a) := propext ⟨fun h => by omega, fun h => by omega⟩
  have e7 : ¬ j % 8 = 7 → j % 8 = 0 ∨ j % 8 = 1 ∨ j % 8 = 2 ∨ j % 8 = 3 ∨ j % 8 = 4 ∨ j % 8 = 5 ∨ j % 8 = 6 := fun h => by omega
  simp only [upd, sm_al, e]
  by_cases hk : j % 8 = 7
  · by_cases ha : j / 8 = a <;> simp [hk, ha]
  · rcases e7 hk with q | q | q | q | q | q | q <;> simp [q]
end
/-- a bit, as the reference asks for it -/
def sm_h (set s : Int32) : Bool := decide (¬ s < 0) && decide (s < 7) && decide (((set >>> (s &&& 31)) &&& 1) = 1)
theorem sm_has : ∀ x, x < 128 → ∀ i, i < 7 → sm_h (nI x) (nI i) = x.testBit i := by decide +kernel
theorem sm_I : ∀ x, x < 128 → ∀ i, i < 7 → sq_I (nI x) (nI i) = x.testBit i := by decide +kernel
/-- how many of the first k bits are set -/
def sm_pc (x : Nat) : Nat → Nat
  | 0 => 0
  | k + 1 => sm_pc x k + (if x.testBit k = true then 1 else 0)
theorem sm_B : ∀ x, x < 128 → sq_B (nI x) = nI (sm_pc x 7) := by decide +kernel
theorem sm_pc_le (x : Nat) : ∀ k, sm_pc x k ≤ k
  | 0 => Nat.le_refl 0
  | k + 1 => by
    have h := sm_pc_le x k
    show sm_pc x k + _ ≤ k + 1
    split <;> omega
theorem sm_and (a b : Nat) : nI a &&& nI b = nI (a &&& b) := by
  apply Int32.toBitVec_inj.mp
  show BitVec.ofNat 32 a &&& BitVec.ofNat 32 b = BitVec.ofNat 32 (a &&& b)
  rw [BitVec.ofNat_and]
theorem sm_or (a b : Nat) : nI a ||| nI b = nI (a ||| b) := by
  apply Int32.toBitVec_inj.mp
  show BitVec.ofNat 32 a ||| BitVec.ofNat 32 b = BitVec.ofNat 32 (a ||| b)
  rw [BitVec.ofNat_or]
theorem sm_S {x : Int32} (h : sq_S x = true) : ∃ k, k < 128 ∧ x = nI k := by
  simp only [sq_S, Bool.and_eq_true, decide_eq_true_eq] at h
  obtain ⟨k, hk, e⟩ := nI_of2 (M := 127) (n := 127) (by decide) h.1 h.2
  exact ⟨k, by omega, e⟩
theorem sm_V {x : Int32} (h : sq_V x = true) : ∃ k, k < 7 ∧ x = nI k := by
  obtain ⟨k, hk, e⟩ := vp_in_of (sq_V_in h) (by decide)
  exact ⟨k, hk, e⟩
theorem sm_127 {x : Int32} : x < 128 ↔ x ≤ 127 := by
  rw [Int32.lt_iff_toInt_lt, Int32.le_iff_toInt_le]
  have e1 : (128 : Int32).toInt = 128 := by decide
  have e2 : (127 : Int32).toInt = 127 := by decide
  rw [e1, e2]; omega
theorem sm_h127 (x : Int32) : sm_h 127 x = sq_V x := by
  cases h : sq_V x with
  | true =>
    obtain ⟨k, hk, rfl⟩ := sm_V h
    exact (by decide +kernel : ∀ k, k < 7 → sm_h 127 (nI k) = true) k hk
  | false =>
    simp only [sq_V, Bool.and_eq_false_iff, decide_eq_false_iff_not] at h
    simp only [sm_h]
    rcases h with h | h
    · simp only [decide_eq_false h, Bool.false_and]
    · simp only [decide_eq_false h, Bool.and_false, Bool.false_and]
