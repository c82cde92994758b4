theorem CL_in : ∀ (c : Nat) (r : vw_C), CL[c]? = some r → ∀ w ∈ u_ws r.1 r.2.1 r.2.2, w ∈ lw_tbl ∧ tb_ok w = true := by
  have hh : CL.all (fun r => (u_ws r.1 r.2.1 r.2.2).all (fun w => decide (w ∈ lw_tbl) && tb_ok w)) = true := by decide +kernel
  intro c r hc w hw
  have h1 := List.all_eq_true.mp (List.all_eq_true.mp hh r (List.mem_of_getElem? hc)) w hw
  simp only [Bool.and_eq_true, decide_eq_true_eq] at h1
  exact h1
