/-! the answers, as functions of the state's numbers: o, n, g: OLD, NEW, LEARNERS; it: itself; f: a row of seven -/
def IAE : String := "java/lang/IllegalArgumentException"
def ISE : String := "java/lang/IllegalStateException"
def IOE : String := "java/lang/IndexOutOfBoundsException"
/-- a truth as Java has it on its stack -/
def sq_z (b : Bool) : Int32 := if b = true then 1 else 0
theorem sq_z_nar (b : Bool) : narrow .boolean (.int (sq_z b)) = .int (sq_z b) := by cases b <;> rfl
theorem sq_z_t {b : Bool} (h : ¬ sq_z b = 0) : b = true := by cases b; exact absurd rfl h; rfl
theorem sq_z_f {b : Bool} (h : sq_z b = 0) : b = false := by cases b; rfl; exact absurd h (by decide)
theorem sq_z_1 {b : Bool} (h : b = true) : (1 : Int32) = sq_z b := by rw [h]; rfl
theorem sq_z_0 {b : Bool} (h : b = false) : (0 : Int32) = sq_z b := by rw [h]; rfl
/-- a set of servers -/
def sq_S (x : Int32) : Bool := decide (¬ x < 0) && decide (x ≤ 127)
/-- a number of entries, a round, a time, so many bytes -/
def sq_N (x : Int32) : Bool := decide (¬ x < 0) && decide (x ≤ 1000000000)
/-- a server -/
def sq_V (x : Int32) : Bool := decide (¬ x < 0) && decide (x < 7)
theorem sq_V_in {x : Int32} (h : sq_V x = true) : vp_in x 7 := by
  rw [vp_in_iff]
  simp only [sq_V, Bool.and_eq_true, decide_eq_true_eq] at h
  obtain ⟨h1, h2⟩ := h
  rw [Int32.lt_iff_toInt_lt] at h1 h2
  have e0 : (0 : Int32).toInt = 0 := by decide
  have e7 : (7 : Int32).toInt = 7 := by decide
  rw [e0] at h1
  rw [e7] at h2
  omega
/-- the bit of a server -/
def sq_1 (x : Int32) : Int32 := 1 <<< (x &&& 31)
/-- whether a server is in a set -/
def sq_I (set x : Int32) : Bool := decide (¬ (set &&& sq_1 x) = 0)
/-- how many bits are set, as Integer.bitCount has it -/
def sq_u (x k : Int32) : Int32 := (x.toUInt32 >>> (k.toUInt32 &&& Int32.toUInt32 31)).toInt32
def sq_B1 (x : Int32) : Int32 := x - (sq_u x 1 &&& 1431655765)
def sq_B2 (x : Int32) : Int32 := (x &&& 858993459) + (sq_u x 2 &&& 858993459)
def sq_B3 (x : Int32) : Int32 := (x + sq_u x 4) &&& 252645135
def sq_B4 (x : Int32) : Int32 := x + sq_u x 8
def sq_B5 (x : Int32) : Int32 := x + sq_u x 16
def sq_B (x : Int32) : Int32 := sq_B5 (sq_B4 (sq_B3 (sq_B2 (sq_B1 x)))) &&& 63
/-- more than half of 'whole' are in 'set' -/
def sq_H (set whole : Int32) : Bool := decide (sq_B whole < 2 * sq_B (set &&& whole))
def sq_M (o n set : Int32) : Bool := sq_H set o && (decide (n = 0) || sq_H set n)
/-- PEERS -/
def sq_P (it o n g : Int32) : Int32 := ((o ||| n) ||| g) &&& (sq_1 it ^^^ (-1))
/-- those who have at least so much, of the first k -/
def sq_L (f : Nat → Int32) (least : Int32) : Nat → Int32
  | 0 => 0
  | k + 1 => if least ≤ f k then sq_L f least k ||| sq_1 (nI k) else sq_L f least k
/-- what a majority has, by the first k -/
def sq_A (o n : Int32) (f : Nat → Int32) : Nat → Int32
  | 0 => 0
  | k + 1 => if sq_A o n f k < f k ∧ sq_M o n (sq_L f (f k) 7) = true then f k else sq_A o n f k
def sq_max (x y : Int32) : Int32 := if x < y then y else x
def sq_min (x y : Int32) : Int32 := if y < x then y else x
/-- whether one more sending may fly -/
def sq_F (fl pr : Nat → Int32) (p : Nat) : Bool := decide (fl p < if pr p = 0 then 4 else 1)
theorem kz_i7 {i : Nat} (h : i ≤ 7) (c : (7 : Int32) ≤ nI i) : i = 7 := by
  have h1 := (nI_leI (a := 7) (b := i) (by decide) (by omega)).mp c
  omega
theorem kz_l7 {i : Nat} (h : i ≤ 7) (c : ¬ (7 : Int32) ≤ nI i) : i < 7 := by
  rcases Nat.lt_or_ge i 7 with q | q
  · exact q
  · exact absurd ((nI_leI (a := 7) (b := i) (by decide) (by omega)).mpr q) c
/-! what is thrown: 0: nothing -/
def tc_members (a b c : Int32) : Nat := if sq_S a = true ∧ sq_S b = true ∧ sq_S c = true ∧ ¬ a = 0 ∧ (c &&& (a ||| b)) = 0 then 0 else 1
def tc_change (o n g : Int32) (mt : Nat → Int32) (t least : Int32) : Nat := if sq_S t = true ∧ ¬ t = 0 ∧ (t &&& ((o ||| (g &&& sq_L mt least 7)) ^^^ (-1))) = 0 then (if n = 0 then 0 else 2) else 1
def tc_settle (n : Int32) : Nat := if n = 0 then 1 else 0
def tc_set (x : Int32) : Nat := if sq_S x = true then 0 else 1
def tc_server (x : Int32) : Nat := if sq_V x = true then 0 else 1
def tc_sending (it o n g p0 p1 p2 : Int32) : Nat := if (sq_V p0 && sq_I (sq_P it o n g) p0) = true then (if sq_N p1 = true ∧ sq_N p2 = true ∧ ¬ p2 < p1 then 0 else 2) else 1
def tc_matched (p0 p1 p2 p3 : Int32) : Nat := if sq_V p0 = true then (if sq_N p1 = true ∧ sq_N p2 = true ∧ sq_N p3 = true then 0 else 2) else 1
def tc_refused (p0 p1 p2 p3 p4 : Int32) : Nat := if sq_V p0 = true then (if sq_N p1 = true ∧ sq_N p2 = true ∧ sq_N p3 = true ∧ sq_N p4 = true then 0 else 2) else 1
def tc_stored (p0 p1 p2 p3 p4 p5 : Int32) : Nat := if sq_V p0 = true then (if sq_N p1 = true ∧ sq_N p2 = true ∧ sq_N p3 = true ∧ sq_N p4 = true ∧ sq_N p5 = true then 0 else 2) else 1
def tc_own (p0 p1 : Int32) : Nat := if sq_N p0 = true ∧ sq_N p1 = true then 0 else 1
def tc_agreed (x : Int32) : Nat := if x = 0 ∨ x = 1 ∨ x = 2 then 0 else 1
def tc_get (p0 p1 : Int32) : Nat := if sq_V p0 = true ∧ (p1 = 0 ∨ p1 = 1 ∨ p1 = 2 ∨ p1 = 3 ∨ p1 = 4 ∨ p1 = 5 ∨ p1 = 6 ∨ p1 = 7) then 0 else 1
/-- who is taken back when a round begins -/
def sq_R (it o n g : Int32) (fl an : Nat → Int32) (j : Nat) : Bool := sq_I (sq_P it o n g) (nI j) && decide (0 < fl j) && decide (an j = 0)
