/-! A QUESTION ASKED. -/
theorem m_lnz {y : Int64} (h : y.toInt ≠ 0) : y ≠ 0 := fun e => h (by rw [e]; rfl)
