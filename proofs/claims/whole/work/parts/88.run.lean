/-! THE LAW'S RUN -/
theorem law_run {L : Nat} {xs : Nat → Int32} (hL : L ≤ 4608) : ∃ h' : jH, jV jmNL 0 [some (.ref 0), none, none, none] [] (jh0 L xs) = some (some (.int 1), h') ∧ h'.2.1 ≤ 600001 ∧ h'.2.2 ≤ 7302250 := law_gst (xs := xs) hL
