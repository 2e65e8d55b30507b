def sm_sub (t u : Nat) : Bool := (List.range 7).all (fun i => !t.testBit i || u.testBit i)
set_option maxRecDepth 100000 in
theorem sm_subx : ∀ t, t < 128 → ∀ u, u < 128 → decide ((nI t &&& (nI u ^^^ (-1))) = 0) = sm_sub t u := by decide +kernel
def sm_kk (x t : Nat) : Nat → Nat
  | 0 => x
  | i + 1 => if (sm_kk x t i).testBit i = true ∧ t.testBit i = true then sm_kk x t i - 2 ^ i else sm_kk x t i
set_option maxRecDepth 100000 in
theorem sm_kkx : ∀ x, x < 128 → ∀ t, t < 128 → nI (sm_kk x t 7) = nI x &&& (nI t ^^^ (-1)) := by decide +kernel
