/-! what is thrown, told by a number -/
theorem sm_k1 {k t : Nat} (h : k = t ∧ ¬ k = 0) (b : t ≤ 1) : k = 1 ∧ t = 1 := by omega
theorem sm_k2 {k t : Nat} (h : k = t ∧ ¬ k = 0) (b : t ≤ 2) : (k = 1 ∧ t = 1) ∨ (k = 2 ∧ t = 2) := by omega
theorem tc_members_le {a b c : Int32} : tc_members a b c ≤ 1 := by unfold tc_members; split <;> decide
theorem tc_change_le {o n g t least : Int32} {mt : Nat → Int32} : tc_change o n g mt t least ≤ 2 := by unfold tc_change; split <;> (try split) <;> decide
theorem tc_settle_le {n : Int32} : tc_settle n ≤ 1 := by unfold tc_settle; split <;> decide
theorem tc_set_le {x : Int32} : tc_set x ≤ 1 := by unfold tc_set; split <;> decide
theorem tc_server_le {x : Int32} : tc_server x ≤ 1 := by unfold tc_server; split <;> decide
theorem tc_own_le {x y : Int32} : tc_own x y ≤ 1 := by unfold tc_own; split <;> decide
theorem tc_agreed_le {x : Int32} : tc_agreed x ≤ 1 := by unfold tc_agreed; split <;> decide
theorem tc_get_le {x y : Int32} : tc_get x y ≤ 1 := by unfold tc_get; split <;> decide
theorem tc_sending_le {it o n g p0 p1 p2 : Int32} : tc_sending it o n g p0 p1 p2 ≤ 2 := by unfold tc_sending; split <;> (try split) <;> decide
theorem tc_matched_le {p0 p1 p2 p3 : Int32} : tc_matched p0 p1 p2 p3 ≤ 2 := by unfold tc_matched; split <;> (try split) <;> decide
theorem tc_refused_le {p0 p1 p2 p3 p4 : Int32} : tc_refused p0 p1 p2 p3 p4 ≤ 2 := by unfold tc_refused; split <;> (try split) <;> decide
theorem tc_stored_le {p0 p1 p2 p3 p4 p5 : Int32} : tc_stored p0 p1 p2 p3 p4 p5 ≤ 2 := by unfold tc_stored; split <;> (try split) <;> decide
