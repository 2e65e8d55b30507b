/-! the law's invariant -/
def sv_I (it o n g v r : Int32) (nx mt fl pr an ak hd : Nat → Int32) (j : Nat) : Prop := sv_m it o n g v ∧ (∃ k, k ≤ j ∧ r = nI k) ∧ (∀ a, a < 7 → 0 ≤ nx a ∧ nx a ≤ 1000000001) ∧ (∀ a, a < 7 → sq_N (mt a) = true) ∧ (∀ a, a < 7 → 0 ≤ fl a ∧ fl a ≤ 4) ∧ (∀ a, a < 7 → (pr a = 0 ∨ pr a = 1) ∧ (an a = 0 ∨ an a = 1)) ∧ (∀ a, a < 7 → sq_N (ak a) = true) ∧ ∀ a, a < 7 → sq_N (hd a) = true
theorem sv_up {P : Int32 → Prop} {f : Nat → Int32} {p : Nat} {x : Int32} (h : ∀ a, a < 7 → P (f a)) (hx : P x) : ∀ a, a < 7 → P (upd f p x a) := by
  intro a ha
  unfold upd
  by_cases q : a = p
  · rw [if_pos q]; exact hx
  · rw [if_neg q]; exact h a ha
theorem sv_upN {f : Nat → Int32} {p : Nat} {x : Int32} (h : ∀ a, a < 7 → sq_N (f a) = true) (hx : sq_N x = true) : ∀ a, a < 7 → sq_N (upd f p x a) = true := sv_up (P := fun z => sq_N z = true) h hx
theorem sv_upR {f : Nat → Int32} {p : Nat} {x : Int32} (h : ∀ a, a < 7 → 0 ≤ f a ∧ f a ≤ 1000000001) (hx : 0 ≤ x ∧ x ≤ 1000000001) : ∀ a, a < 7 → 0 ≤ upd f p x a ∧ upd f p x a ≤ 1000000001 := sv_up (P := fun z => 0 ≤ z ∧ z ≤ 1000000001) h hx
theorem sv_upF {f : Nat → Int32} {p : Nat} {x : Int32} (h : ∀ a, a < 7 → 0 ≤ f a ∧ f a ≤ 4) (hx : 0 ≤ x ∧ x ≤ 4) : ∀ a, a < 7 → 0 ≤ upd f p x a ∧ upd f p x a ≤ 4 := sv_up (P := fun z => 0 ≤ z ∧ z ≤ 4) h hx
theorem sv_N {x : Int32} : sq_N x = true ↔ 0 ≤ x.toInt ∧ x.toInt ≤ 1000000000 := by
  constructor
  · exact sm_nr
  · intro h
    simp only [sq_N, Bool.and_eq_true, decide_eq_true_eq]
    rw [Int32.lt_iff_toInt_lt, Int32.le_iff_toInt_le]
    have e0 : (0 : Int32).toInt = 0 := by decide
    have e4 : (1000000000 : Int32).toInt = 1000000000 := by decide
    rw [e0, e4]; omega
theorem sv_R {x : Int32} : (0 ≤ x ∧ x ≤ 1000000001) ↔ 0 ≤ x.toInt ∧ x.toInt ≤ 1000000001 := by
  rw [Int32.le_iff_toInt_le, Int32.le_iff_toInt_le]
  have e0 : (0 : Int32).toInt = 0 := by decide
  have e4 : (1000000001 : Int32).toInt = 1000000001 := by decide
  rw [e0, e4]
theorem sv_1 {x : Int32} (h : 0 ≤ x.toInt ∧ x.toInt ≤ 1000000000) : (x + 1).toInt = x.toInt + 1 := by
  rw [Int32.toInt_add]
  have e1 : (1 : Int32).toInt = 1 := by decide
  rw [e1, Int.bmod_eq_of_le (by omega) (by omega)]
theorem sv_N1 {x : Int32} (h : sq_N x = true) : 0 ≤ x + 1 ∧ x + 1 ≤ 1000000001 := by
  have h1 := sv_N.mp h
  rw [sv_R, sv_1 h1]; omega
theorem sv_NR {x : Int32} (h : sq_N x = true) : 0 ≤ x ∧ x ≤ 1000000001 := by
  have h1 := sv_N.mp h
  rw [sv_R]; omega
theorem sv_max {P : Int32 → Prop} {x y : Int32} (hx : P x) (hy : P y) : P (sq_max x y) := by
  unfold sq_max; split <;> assumption
theorem sv_min {P : Int32 → Prop} {x y : Int32} (hx : P x) (hy : P y) : P (sq_min x y) := by
  unfold sq_min; split <;> assumption
theorem sv_fl {x : Int32} (h : 0 ≤ x ∧ x ≤ 4) : 0 ≤ sq_max (x - 1) 0 ∧ sq_max (x - 1) 0 ≤ 4 := by
  rcases sm_f5 h with e | e | e | e | e <;> (rw [e]; decide)
theorem sv_fl1 {x y : Int32} (h : 0 ≤ x ∧ x ≤ 4) (q : x < y) (hy : y = 4 ∨ y = 1) : 0 ≤ x + 1 ∧ x + 1 ≤ 4 := by
  rcases sm_f5 h with e | e | e | e | e
  · rw [e]; decide
  · rw [e]; decide
  · rw [e]; decide
  · rw [e]; decide
  · rw [e] at q; rcases hy with z | z <;> (rw [z] at q; exact absurd q (by decide))
theorem sv_en {x y : Int32} (hx : 0 ≤ x ∧ x ≤ 1000000001) (hy : sq_N y = true) (h : x ≤ y) : 0 ≤ x + sq_min ((y - x) + 1) 6 ∧ x + sq_min ((y - x) + 1) 6 ≤ 1000000001 := by
  have h1 := sv_R.mp hx
  have h2 := sv_N.mp hy
  have h3 : x.toInt ≤ y.toInt := Int32.le_iff_toInt_le.mp h
  have e6 : (6 : Int32).toInt = 6 := by decide
  have hm : 0 ≤ (sq_min ((y - x) + 1) 6).toInt ∧ (sq_min ((y - x) + 1) 6).toInt ≤ y.toInt - x.toInt + 1 ∧ (sq_min ((y - x) + 1) 6).toInt ≤ 6 := by
    have e := sm_sub1 h1 h2
    unfold sq_min
    by_cases q : (6 : Int32) < (y - x) + 1
    · rw [if_pos q, e6]
      rw [Int32.lt_iff_toInt_lt, e, e6] at q
      omega
    · rw [if_neg q, e]
      rw [Int32.lt_iff_toInt_lt, e, e6] at q
      omega
  rw [sv_R, Int32.toInt_add, Int.bmod_eq_of_le (by omega) (by omega)]
  omega
theorem sv_d0 : (0 : Int32) ≤ 0 ∧ (0 : Int32) ≤ 1000000001 := by decide
theorem sv_d1 : sq_N 0 = true := by decide
theorem sv_d2 : (0 : Int32) ≤ 0 ∧ (0 : Int32) ≤ 4 := by decide
theorem sv_d3 : ((0 : Int32) = 0 ∨ (0 : Int32) = 1) ∧ ((0 : Int32) = 0 ∨ (0 : Int32) = 1) := by decide
theorem sv_d4 : ((1 : Int32) = 0 ∨ (1 : Int32) = 1) ∧ ((0 : Int32) = 0 ∨ (0 : Int32) = 1) := by decide
theorem sv_next {it o n g v r : Int32} {nx mt fl pr an ak hd : Nat → Int32} {j : Nat} (h : sv_I it o n g v r nx mt fl pr an ak hd j) : sv_I it o n g v r nx mt fl pr an ak hd (j + 1) := by
  obtain ⟨h1, ⟨k, hk, e⟩, h2⟩ := h
  exact ⟨h1, ⟨k, by omega, e⟩, h2⟩
theorem sv_r {it o n g v r : Int32} {nx mt fl pr an ak hd : Nat → Int32} {j : Nat} (h : sv_I it o n g v r nx mt fl pr an ak hd j) (hj : j ≤ 512) : sq_N r = true := by
  obtain ⟨-, ⟨k, hk, rfl⟩, -⟩ := h
  rw [sv_N, nI_toInt (by omega)]; omega
section
variable {it o n g v r : Int32} {nx mt fl pr an ak hd : Nat → Int32} {j : Nat}
theorem pi_members {p0 p1 p2 : Int32} (h : sv_I it o n g v r nx mt fl pr an ak hd j) : sv_I it (if tc_members p0 p1 p2 = 0 then p0 else o) (if tc_members p0 p1 p2 = 0 then p1 else n) (if tc_members p0 p1 p2 = 0 then p2 else g) v r nx mt fl pr an ak hd (j + 1) := by
  have h := sv_next h
  by_cases q : tc_members p0 p1 p2 = 0
  · simp only [q, if_true]
    unfold tc_members at q
    split at q
    · rename_i z; exact ⟨⟨h.1.1, z.1, z.2.1, z.2.2.1, h.1.2.2.2.2⟩, h.2⟩
    · exact absurd q (by decide)
  · simp only [if_neg q]; exact h
theorem pi_change {p0 p1 : Int32} (h : sv_I it o n g v r nx mt fl pr an ak hd j) : sv_I it o (if tc_change o n g mt p0 p1 = 0 then p0 else n) (if tc_change o n g mt p0 p1 = 0 then g &&& (p0 ^^^ (-1)) else g) v r nx mt fl pr an ak hd (j + 1) := by
  have h := sv_next h
  by_cases q : tc_change o n g mt p0 p1 = 0
  · simp only [q, if_true]
    unfold tc_change at q
    split at q
    · rename_i z
      obtain ⟨xg, hg8, eg⟩ := sm_S h.1.2.2.2.1
      obtain ⟨xt, ht8, et⟩ := sm_S z.1
      have hS : sq_S (g &&& (p0 ^^^ (-1))) = true := by
        rw [eg, et, ← sm_kkx xg hg8 xt ht8]; exact sm_Su _ (sm_kkl hg8 7)
      exact ⟨⟨h.1.1, h.1.2.1, z.1, hS, h.1.2.2.2.2⟩, h.2⟩
    · exact absurd q (by decide)
  · simp only [if_neg q]; exact h
theorem pi_settle (h : sv_I it o n g v r nx mt fl pr an ak hd j) : sv_I it (if tc_settle n = 0 then n else o) (if tc_settle n = 0 then 0 else n) g v r nx mt fl pr an ak hd (j + 1) := by
  have h := sv_next h
  by_cases q : tc_settle n = 0
  · simp only [q, if_true]
    exact ⟨⟨h.1.1, h.1.2.2.1, by decide, h.1.2.2.2.1, h.1.2.2.2.2⟩, h.2⟩
  · simp only [if_neg q]; exact h
theorem pi_ballot (h : sv_I it o n g v r nx mt fl pr an ak hd j) : sv_I it o n g 0 r nx mt fl pr an ak hd (j + 1) := by
  have h := sv_next h
  exact ⟨⟨h.1.1, h.1.2.1, h.1.2.2.1, h.1.2.2.2.1, by decide⟩, h.2⟩
theorem pi_vote {p0 : Int32} (h : sv_I it o n g v r nx mt fl pr an ak hd j) : sv_I it o n g (if tc_server p0 = 0 then v ||| sq_1 p0 else v) r nx mt fl pr an ak hd (j + 1) := by
  have h := sv_next h
  by_cases q : tc_server p0 = 0
  · simp only [q, if_true]
    unfold tc_server at q
    split at q
    · rename_i z
      exact ⟨⟨h.1.1, h.1.2.1, h.1.2.2.1, h.1.2.2.2.1, sm_vS h.1.2.2.2.2 z⟩, h.2⟩
    · exact absurd q (by decide)
  · simp only [if_neg q]; exact h
theorem pi_lead {p0 p1 : Int32} (h : sv_I it o n g v r nx mt fl pr an ak hd j) : sv_I it o n g v (if tc_own p0 p1 = 0 then 0 else r) (if tc_own p0 p1 = 0 then fun _ => p0 + 1 else nx) (if tc_own p0 p1 = 0 then fun _ => 0 else mt) (if tc_own p0 p1 = 0 then fun _ => 0 else fl) (if tc_own p0 p1 = 0 then fun _ => 1 else pr) (if tc_own p0 p1 = 0 then fun _ => 0 else an) (if tc_own p0 p1 = 0 then fun _ => 0 else ak) (if tc_own p0 p1 = 0 then fun _ => p1 else hd) (j + 1) := by
  have h := sv_next h
  by_cases q : tc_own p0 p1 = 0
  · simp only [q, if_true]
    unfold tc_own at q
    split at q
    · rename_i z
      exact ⟨h.1, ⟨0, by omega, rfl⟩, fun _ _ => sv_N1 z.1, fun _ _ => sv_d1, fun _ _ => sv_d2, fun _ _ => sv_d4, fun _ _ => sv_d1, fun _ _ => z.2⟩
    · exact absurd q (by decide)
  · simp only [if_neg q]; exact h
theorem pi_round (h : sv_I it o n g v r nx mt fl pr an ak hd j) : sv_I it o n g v (r + 1) (fun j => if sq_R it o n g fl an j = true then mt j + 1 else nx j) mt (fun j => if sq_R it o n g fl an j = true then 0 else fl j) (fun j => if sq_R it o n g fl an j = true then 1 else pr j) (fun _ => 0) ak hd (j + 1) := by
  obtain ⟨h1, ⟨k, hk, e⟩, h2, h3, h4, h5, h6, h7⟩ := h
  refine ⟨h1, ⟨k + 1, by omega, by rw [e, nI_1]⟩, fun a ha => ?_, h3, fun a ha => ?_, fun a ha => ⟨?_, Or.inl rfl⟩, h6, h7⟩
  · dsimp only; split
    · exact sv_N1 (h3 a ha)
    · exact h2 a ha
  · dsimp only; split
    · decide
    · exact h4 a ha
  · dsimp only; split
    · exact Or.inr rfl
    · exact (h5 a ha).1
theorem pi_own {p0 p1 : Int32} (hj : j ≤ 512) (h : sv_I it o n g v r nx mt fl pr an ak hd j) : sv_I it o n g v r nx (if tc_own p0 p1 = 0 then upd mt it.toNatClampNeg p0 else mt) fl pr an (if tc_own p0 p1 = 0 then upd ak it.toNatClampNeg r else ak) (if tc_own p0 p1 = 0 then upd hd it.toNatClampNeg p1 else hd) (j + 1) := by
  have hr := sv_r h hj
  have h := sv_next h
  by_cases q : tc_own p0 p1 = 0
  · simp only [q, if_true]
    unfold tc_own at q
    split at q
    · rename_i z
      obtain ⟨h1, h2, h3, h4, h5, h6, h7, h8⟩ := h
      exact ⟨h1, h2, h3, sv_upN h4 z.1, h5, h6, sv_upN h7 hr, sv_upN h8 z.2⟩
    · exact absurd q (by decide)
  · simp only [if_neg q]; exact h
theorem sv_upP {p : Nat} {x y : Int32} (h : ∀ a, a < 7 → (pr a = 0 ∨ pr a = 1) ∧ (an a = 0 ∨ an a = 1)) (hx : x = 0 ∨ x = 1) (hy : y = 0 ∨ y = 1) : ∀ a, a < 7 → (upd pr p x a = 0 ∨ upd pr p x a = 1) ∧ (upd an p y a = 0 ∨ upd an p y a = 1) := fun a ha =>
  ⟨sv_up (P := fun z => z = 0 ∨ z = 1) (fun a ha => (h a ha).1) hx a ha, sv_up (P := fun z => z = 0 ∨ z = 1) (fun a ha => (h a ha).2) hy a ha⟩
theorem pi_matched {p0 p1 p2 p3 : Int32} (h : sv_I it o n g v r nx mt fl pr an ak hd j) (T : Nat) (hT : tc_matched p0 p1 p2 p3 = T) : sv_I it o n g v r (if T = 0 then upd nx p0.toNatClampNeg (sq_max (nx p0.toNatClampNeg) (p1 + 1)) else nx) (if T = 0 then upd mt p0.toNatClampNeg (sq_max (mt p0.toNatClampNeg) p1) else mt) (if T = 0 then upd fl p0.toNatClampNeg (sq_max (fl p0.toNatClampNeg - 1) 0) else fl) (if T = 0 then upd pr p0.toNatClampNeg 0 else pr) (if T = 0 then upd an p0.toNatClampNeg 1 else an) (if T = 0 then upd ak p0.toNatClampNeg (sq_max (ak p0.toNatClampNeg) p2) else ak) (if T = 0 then upd hd p0.toNatClampNeg p3 else hd) (j + 1) := by
  have h := sv_next h
  by_cases q : T = 0
  · simp only [q, if_true]
    rw [q] at hT
    unfold tc_matched at hT
    split at hT
    · rename_i hv
      split at hT
      · rename_i z
        obtain ⟨ha, -⟩ := sm_srv hv
        obtain ⟨h1, h2, h3, h4, h5, h6, h7, h8⟩ := h
        exact ⟨h1, h2, sv_upR h3 (sv_max (P := fun z => 0 ≤ z ∧ z ≤ 1000000001) (h3 _ ha) (sv_N1 z.1)), sv_upN h4 (sv_max (P := fun z => sq_N z = true) (h4 _ ha) z.1), sv_upF h5 (sv_fl (h5 _ ha)), sv_upP h6 (Or.inl rfl) (Or.inr rfl), sv_upN h7 (sv_max (P := fun z => sq_N z = true) (h7 _ ha) z.2.1), sv_upN h8 z.2.2⟩
      · exact absurd hT (by decide)
    · exact absurd hT (by decide)
  · simp only [if_neg q]; exact h
theorem pi_refused {p0 p1 p2 p3 p4 : Int32} (h : sv_I it o n g v r nx mt fl pr an ak hd j) (T : Nat) (hT : tc_refused p0 p1 p2 p3 p4 = T) : sv_I it o n g v r (if T = 0 then upd nx p0.toNatClampNeg (sq_min (sq_max p1 (mt p0.toNatClampNeg + 1)) (p2 + 1)) else nx) mt (if T = 0 then upd fl p0.toNatClampNeg 0 else fl) (if T = 0 then upd pr p0.toNatClampNeg 1 else pr) (if T = 0 then upd an p0.toNatClampNeg 1 else an) (if T = 0 then upd ak p0.toNatClampNeg (sq_max (ak p0.toNatClampNeg) p3) else ak) (if T = 0 then upd hd p0.toNatClampNeg p4 else hd) (j + 1) := by
  have h := sv_next h
  by_cases q : T = 0
  · simp only [q, if_true]
    rw [q] at hT
    unfold tc_refused at hT
    split at hT
    · rename_i hv
      split at hT
      · rename_i z
        obtain ⟨ha, -⟩ := sm_srv hv
        obtain ⟨h1, h2, h3, h4, h5, h6, h7, h8⟩ := h
        exact ⟨h1, h2, sv_upR h3 (sv_min (P := fun z => 0 ≤ z ∧ z ≤ 1000000001) (sv_max (P := fun z => 0 ≤ z ∧ z ≤ 1000000001) (sv_NR z.1) (sv_N1 (h4 _ ha))) (sv_N1 z.2.1)), h4, sv_upF h5 (by decide), sv_upP h6 (Or.inr rfl) (Or.inr rfl), sv_upN h7 (sv_max (P := fun z => sq_N z = true) (h7 _ ha) z.2.2.1), sv_upN h8 z.2.2.2⟩
      · exact absurd hT (by decide)
    · exact absurd hT (by decide)
  · simp only [if_neg q]; exact h
theorem pi_stored {p0 p1 p2 p3 p4 p5 : Int32} (h : sv_I it o n g v r nx mt fl pr an ak hd j) (T : Nat) (hT : tc_stored p0 p1 p2 p3 p4 p5 = T) : sv_I it o n g v r (if T = 0 then (if p1 < p2 then nx else upd nx p0.toNatClampNeg (p3 + 1)) else nx) (if T = 0 then (if p1 < p2 then mt else upd mt p0.toNatClampNeg (sq_max (mt p0.toNatClampNeg) p3)) else mt) (if T = 0 then upd fl p0.toNatClampNeg 0 else fl) (if T = 0 then (if p1 < p2 then pr else upd pr p0.toNatClampNeg 1) else pr) (if T = 0 then upd an p0.toNatClampNeg 1 else an) (if T = 0 then upd ak p0.toNatClampNeg (sq_max (ak p0.toNatClampNeg) p4) else ak) (if T = 0 then upd hd p0.toNatClampNeg p5 else hd) (j + 1) := by
  have h := sv_next h
  by_cases q : T = 0
  · simp only [q, if_true]
    rw [q] at hT
    unfold tc_stored at hT
    split at hT
    · rename_i hv
      split at hT
      · rename_i z
        obtain ⟨ha, -⟩ := sm_srv hv
        obtain ⟨h1, h2, h3, h4, h5, h6, h7, h8⟩ := h
        have c7 := sv_upN (p := p0.toNatClampNeg) h7 (sv_max (P := fun z => sq_N z = true) (h7 _ ha) z.2.2.2.1)
        have c8 := sv_upN (p := p0.toNatClampNeg) h8 z.2.2.2.2
        have c5 : ∀ a, a < 7 → 0 ≤ upd fl p0.toNatClampNeg 0 a ∧ upd fl p0.toNatClampNeg 0 a ≤ 4 := sv_up (P := fun z => 0 ≤ z ∧ z ≤ 4) h5 (by decide)
        by_cases w : p1 < p2
        · simp only [if_pos w]
          exact ⟨h1, h2, h3, h4, c5, fun a ha => ⟨(h6 a ha).1, sv_up (P := fun z => z = 0 ∨ z = 1) (fun a ha => (h6 a ha).2) (Or.inr rfl) a ha⟩, c7, c8⟩
        · simp only [if_neg w]
          exact ⟨h1, h2, sv_upR h3 (sv_N1 z.2.2.1), sv_upN h4 (sv_max (P := fun z => sq_N z = true) (h4 _ ha) z.2.2.1), c5, sv_upP h6 (Or.inr rfl) (Or.inr rfl), c7, c8⟩
      · exact absurd hT (by decide)
    · exact absurd hT (by decide)
  · simp only [if_neg q]; exact h
theorem pi_sending {p0 p1 p2 : Int32} (h : sv_I it o n g v r nx mt fl pr an ak hd j) (T : Nat) (hT : tc_sending it o n g p0 p1 p2 = T) : sv_I it o n g v r (if T = 0 then (if nx p0.toNatClampNeg ≤ p1 then nx else if nx p0.toNatClampNeg ≤ p2 ∧ sq_F fl pr p0.toNatClampNeg = true then upd nx p0.toNatClampNeg (nx p0.toNatClampNeg + (sq_min ((p2 - nx p0.toNatClampNeg) + 1) 6)) else nx) else nx) mt (if T = 0 then (if nx p0.toNatClampNeg ≤ p1 then (if 0 < fl p0.toNatClampNeg then fl else upd fl p0.toNatClampNeg 1) else if nx p0.toNatClampNeg ≤ p2 ∧ sq_F fl pr p0.toNatClampNeg = true then upd fl p0.toNatClampNeg (fl p0.toNatClampNeg + 1) else fl) else fl) pr an ak hd (j + 1) := by
  have h := sv_next h
  by_cases q : T = 0
  · simp only [q, if_true]
    rw [q] at hT
    unfold tc_sending at hT
    split at hT
    · rename_i hv
      split at hT
      · rename_i z
        obtain ⟨ha, -⟩ := sm_srv (Bool.and_eq_true_iff.mp hv).1
        obtain ⟨h1, h2, h3, h4, h5, h6, h7, h8⟩ := h
        by_cases w : nx p0.toNatClampNeg ≤ p1
        · simp only [if_pos w]
          refine ⟨h1, h2, h3, h4, ?_, h6, h7, h8⟩
          by_cases y : 0 < fl p0.toNatClampNeg
          · simp only [if_pos y]; exact h5
          · simp only [if_neg y]; exact sv_up (P := fun z => 0 ≤ z ∧ z ≤ 4) h5 (by decide)
        · simp only [if_neg w]
          by_cases y : nx p0.toNatClampNeg ≤ p2 ∧ sq_F fl pr p0.toNatClampNeg = true
          · simp only [if_pos y]
            have hF := y.2
            unfold sq_F at hF
            refine ⟨h1, h2, sv_up (P := fun z => 0 ≤ z ∧ z ≤ 1000000001) h3 (sv_en (h3 _ ha) z.2.1 y.1), h4, sv_up (P := fun z => 0 ≤ z ∧ z ≤ 4) h5 (sv_fl1 (h5 _ ha) (of_decide_eq_true hF) ?_), h6, h7, h8⟩
            split
            · exact Or.inl rfl
            · exact Or.inr rfl
          · simp only [if_neg y]; exact ⟨h1, h2, h3, h4, h5, h6, h7, h8⟩
      · exact absurd hT (by decide)
    · exact absurd hT (by decide)
  · simp only [if_neg q]; exact h
end
theorem sv_it (x : Int32) : sq_V (sq_it x) = true := by
  unfold sq_it
  obtain ⟨k, hk, e⟩ := pk_andE x (m := 7) 3 (by decide)
  rw [e]
  exact (by decide +kernel : ∀ k, k < 8 → sq_V (if nI k = 7 then 6 else nI k) = true) k hk
theorem sv_od (x : Int32) : sq_S (sq_od x) = true := by
  unfold sq_od
  obtain ⟨k, hk, e⟩ := pk_andE x (m := 127) 7 (by decide)
  rw [e]
  exact (by decide +kernel : ∀ k, k < 128 → sq_S (if nI k = 0 then 1 else nI k) = true) k hk
theorem sv_0 (p0 p1 : Int32) : sv_I (sq_it p0) (sq_od p1) 0 0 0 0 (fun _ => 0) (fun _ => 0) (fun _ => 0) (fun _ => 0) (fun _ => 0) (fun _ => 0) (fun _ => 0) 0 :=
  ⟨⟨sv_it p0, sv_od p1, by decide, by decide, by decide⟩, ⟨0, by omega, rfl⟩, fun _ _ => sv_d0, fun _ _ => sv_d1, fun _ _ => sv_d2, fun _ _ => sv_d3, fun _ _ => sv_d1, fun _ _ => sv_d1⟩
theorem sm_al0 : sm_al (fun _ => 0) (fun _ => 0) (fun _ => 0) (fun _ => 0) (fun _ => 0) (fun _ => 0) (fun _ => 0) (fun _ => 0) = fun _ => 0 := by
  funext j; unfold sm_al; simp
theorem sm_lc {x y : Int64} (h : x = y) : lg_cmp x y = 0 := by
  subst h; unfold lg_cmp; simp
theorem sm_bt {b : Bool} (h : ¬ sq_z b = 0) : (sq_z b).toInt64 = 1 := by
  rw [sq_z_t h]; rfl
theorem sm_bf {b : Bool} (h : sq_z b = 0) : (sq_z b).toInt64 = 0 := by
  rw [h]; rfl
theorem sm_n0 {t : Nat} (b : t ≤ 2) (h : nI t = 0) : t = 0 := (nI_eq (a := t) (b := 0) (by omega) (by decide)).mp h
theorem sm_sx {a L : Nat} (k : Nat) (hk : k < 7) (h : a + 7 ≤ L) (hL : L ≤ 3586) : vp_in (nI a + nI k) L := by
  rw [nI_add]; exact vp_in_nI (by omega) (by omega)
theorem sm_sx0 {a L : Nat} (h : a + 7 ≤ L) (hL : L ≤ 3586) : vp_in (nI a) L := vp_in_nI (by omega) (by omega)
theorem sm_go {a L : Nat} (hL : L ≤ 3586) (ha : a ≤ 3600) (c : ¬ nI L - 7 < nI a) : a + 7 ≤ L := by
  rw [Int32.lt_iff_toInt_lt] at c
  have e : (nI L - 7).toInt = (L : Int) - 7 := pk_sub_toInt (a := L) (b := 7) (by omega) (by decide)
  rw [e, nI_toInt (by omega)] at c
  omega
