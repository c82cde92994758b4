/-! the functions' theorem -/
theorem LAW_OK (cs : List Int32) (hL : cs.length ≤ 3072) : ∃ h' : aH, m_L_law cs aH0 = some (1, h') ∧ h_nx h' ≤ 601025 ∧ h_sl h' ≤ 7293034 := sorry
