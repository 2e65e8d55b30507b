/-- the reference's cells: the object, and its row -/
abbrev wM (bd : Nat → Nat) (cI : ClassId) (th it o n g v r : Int32) (al : Nat → Int32) : va_W := [(bd 0, .inr (1, [.int th, .int it, .int o, .int n, .int g, .int v, .int r, .ref (bd 1)])), (bd 1, .inl (cI, 56, .inl al))]
/-- what the sets and itself always are -/
def sv_m (it o n g v : Int32) : Prop := sq_V it = true ∧ sq_S o = true ∧ sq_S n = true ∧ sq_S g = true ∧ sq_S v = true
theorem sm_srv {x : Int32} (h : sq_V x = true) : x.toNatClampNeg < 7 ∧ x = nI x.toNatClampNeg := by
  obtain ⟨k, hk, rfl⟩ := sm_V h
  rw [nI_clamp (by omega)]
  exact ⟨hk, rfl⟩
theorem sm_mx1 {x y : Int32} (h : ¬ x ≤ y) : x = sq_max x y := by
  unfold sq_max
  rw [if_neg (fun q => h (Int32.le_of_lt q))]
theorem sm_mx2 {x y : Int32} (h : x ≤ y) : y = sq_max x y := by
  unfold sq_max
  by_cases q : x < y
  · rw [if_pos q]
  · rw [if_neg q]
    exact Int32.le_antisymm (Int32.not_lt.mp q) h
theorem sm_8 {p0 p1 : Int32} {a b : Nat} (e0 : p0 = nI a) (e1 : p1 = nI b) : (8 * p0) + p1 = nI (8 * a + b) := by
  rw [e0, e1, ← nI_add, ← pk_mul]; rfl
theorem sm_ix {p0 p1 : Int32} {a b : Nat} (ha : a < 7) (hb : b < 8) (e0 : p0 = nI a) (e1 : p1 = nI b) : vp_in ((8 * p0) + p1) 56 := by
  rw [sm_8 e0 e1]; exact vp_in_nI (by omega) (by decide)
theorem sm_ix2 {p0 p1 : Int32} {a b : Nat} (ha : a < 7) (hb : b < 8) (e0 : p0 = nI a) (e1 : p1 = nI b) : ((8 * p0) + p1).toNatClampNeg = 8 * a + b := by
  rw [sm_8 e0 e1, nI_clamp (by omega)]
theorem sm_cmp {x y : Nat} (hx : x < 128) (hy : y < 128) : sq_H (nI x) (nI y) = decide (sm_pc y 7 < 2 * sm_pc (x &&& y) 7) := by
  unfold sq_H
  have h1 : (x &&& y) < 128 := Nat.lt_of_le_of_lt Nat.and_le_left hx
  have b1 := sm_pc_le y 7
  have b2 := sm_pc_le (x &&& y) 7
  rw [sm_and, sm_B y hy, sm_B _ h1, show (2 : Int32) = nI 2 from rfl, pk_mul]
  exact decide_eq_decide.mpr (nI_ltI (by omega) (by omega))
theorem sm_most0 {p0 p1 : Int32} {x y : Nat} (hx : x < 128) (hy : y < 128) (ex : p0 = nI x) (ey : p1 = nI y) (h : (2 : Int32) * nI (sm_pc (x &&& y) 7) ≤ nI (sm_pc y 7)) : (0 : Int32) = sq_z (sq_H p0 p1) := by
  have b1 := sm_pc_le y 7
  have b2 := sm_pc_le (x &&& y) 7
  rw [show (2 : Int32) = nI 2 from rfl, pk_mul] at h
  have h2 := (nI_leI (by omega) (by omega)).mp h
  rw [ex, ey, sm_cmp hx hy, decide_eq_false (by omega)]
  rfl
theorem sm_most1 {p0 p1 : Int32} {x y : Nat} (hx : x < 128) (hy : y < 128) (ex : p0 = nI x) (ey : p1 = nI y) (h : ¬ (2 : Int32) * nI (sm_pc (x &&& y) 7) ≤ nI (sm_pc y 7)) : (1 : Int32) = sq_z (sq_H p0 p1) := by
  have b1 := sm_pc_le y 7
  have b2 := sm_pc_le (x &&& y) 7
  rw [show (2 : Int32) = nI 2 from rfl, pk_mul] at h
  have h2 : ¬ 2 * sm_pc (x &&& y) 7 ≤ sm_pc y 7 := fun q => h ((nI_leI (by omega) (by omega)).mpr q)
  rw [ex, ey, sm_cmp hx hy, decide_eq_true (by omega)]
  rfl
/-- PEERS, bit by bit -/
def sm_pp (u it : Nat) : Nat → Nat
  | 0 => 0
  | k + 1 => sm_pp u it k + (if k ≠ it ∧ u.testBit k = true then 2 ^ k else 0)
theorem sm_ppx : ∀ u, u < 128 → ∀ it, it < 7 → nI u &&& (sq_1 (nI it) ^^^ (-1)) = nI (sm_pp u it 7) := by decide +kernel
theorem sm_or3 {x y z : Nat} (hx : x < 128) (hy : y < 128) (hz : z < 128) : (x ||| y ||| z) < 128 := Nat.or_lt_two_pow (n := 7) (Nat.or_lt_two_pow (n := 7) hx hy) hz
theorem sm_peers {it o n g : Int32} {xo xn xg : Nat} (hA : it.toNatClampNeg < 7) (hIe : it = nI it.toNatClampNeg) (ho : xo < 128) (hn : xn < 128) (hg : xg < 128) (eo : o = nI xo) (en : n = nI xn) (eg : g = nI xg) : nI (sm_pp (xo ||| xn ||| xg) it.toNatClampNeg 7) = sq_P it o n g := by
  unfold sq_P
  rw [← sm_ppx _ (sm_or3 ho hn hg) _ hA, ← hIe, eo, en, eg, sm_or, sm_or]
theorem sm_2k : ∀ i, i < 7 → (1 : Int32) <<< (nI i &&& 31) = nI (2 ^ i) := by decide +kernel
theorem sm_pps {u it i : Nat} {t : Int32} (hi : i < 7) (h : nI (if i ≠ it ∧ u.testBit i = true then 2 ^ i else 0) = t) : nI (sm_pp u it (i + 1)) = nI (sm_pp u it i) + t := by
  rw [← h, nI_add]; rfl
theorem sm_hI {x i : Int32} (hx : sq_S x = true) (hi : sq_V i = true) : sm_h x i = sq_I x i := by
  obtain ⟨k, hk, rfl⟩ := sm_S hx
  obtain ⟨j, hj, rfl⟩ := sm_V hi
  rw [sm_has k hk j hj, sm_I k hk j hj]
theorem sm_vt1 {v p : Int32} (hv : sq_S v = true) (hp : sq_V p = true) (h : sm_h v p = false) : v + (1 <<< (p &&& 31)) = v ||| sq_1 p := by
  obtain ⟨k, hk, rfl⟩ := sm_S hv
  obtain ⟨j, hj, rfl⟩ := sm_V hp
  exact (by decide +kernel : ∀ k, k < 128 → ∀ j, j < 7 → sm_h (nI k) (nI j) = false → nI k + (1 <<< (nI j &&& 31)) = nI k ||| sq_1 (nI j)) k hk j hj h
theorem sm_vt0 {v p : Int32} (hv : sq_S v = true) (hp : sq_V p = true) (h : sm_h v p = true) : v = v ||| sq_1 p := by
  obtain ⟨k, hk, rfl⟩ := sm_S hv
  obtain ⟨j, hj, rfl⟩ := sm_V hp
  exact (by decide +kernel : ∀ k, k < 128 → ∀ j, j < 7 → sm_h (nI k) (nI j) = true → nI k = nI k ||| sq_1 (nI j)) k hk j hj h
theorem sm_vS {v p : Int32} (hv : sq_S v = true) (hp : sq_V p = true) : sq_S (v ||| sq_1 p) = true := by
  obtain ⟨k, hk, rfl⟩ := sm_S hv
  obtain ⟨j, hj, rfl⟩ := sm_V hp
  exact (by decide +kernel : ∀ k, k < 128 → ∀ j, j < 7 → sq_S (nI k ||| sq_1 (nI j)) = true) k hk j hj
def tc_bad (p0 p1 p2 p3 p4 : Int32) : Nat := if sq_V p0 = true then (if sq_N p1 = true ∧ sq_N p2 = true ∧ sq_N p3 = true ∧ sq_N p4 = true then 0 else 2) else 1
