/-! the functions' theorem -/
section
variable {cs : List Int32} {h : aH}
theorem law_step (hL : cs.length ≤ 3072) {i : Nat} (hi : 6 * i + 6 ≤ cs.length) {a b : Nat} (X : XI h a b) (Z : Option (Int32 × aH) → Prop) {k3568 k375 k358 k431 k414 k475 k458 k491 k504 k557 k540 k613 k596 k629 k694 k677 k750 k733 k806 k789 k874 k857 k930 k913 k986 k969 k1042 k1025 k1110 k1093 k1178 k1161 k1246 k1229 k1302 k1285 k1358 k1341 k1426 k1409 k1494 k1477 k1562 k1545 k1642 k1625 k1710 k1693 k1766 k1749 k1822 k1805 k1885 k1861 k1941 k1924 k1997 k1980 k2065 k2048 k2133 k2116 k2213 k2196 k2229 k2294 k2277 k2362 k2345 k2430 k2413 k2510 k2493 k2578 k2561 k2641 k2617 k2697 k2680 k2753 k2736 k2809 k2792 k2865 k2848 k2921 k2904 k3001 k2984 k3057 k3040 k3113 k3096 k3193 k3176 k3277 k3260 k3361 k3344 k3441 k3424 k3485 k3468 k3521 k3557 : aH → Option (Int32 × aH)} {rec : Int32 → aH → Option (Int32 × aH)} (hr : ∀ h2, XI h2 (a + 2) (b + 24) → Z (rec (nI (6 * i + 6)) h2)) : Z (m_L_law_L23 cs 1 412 462 k3568 k375 k358 k431 k414 k475 k458 k491 k504 k557 k540 k613 k596 k629 k694 k677 k750 k733 k806 k789 k874 k857 k930 k913 k986 k969 k1042 k1025 k1110 k1093 k1178 k1161 k1246 k1229 k1302 k1285 k1358 k1341 k1426 k1409 k1494 k1477 k1562 k1545 k1642 k1625 k1710 k1693 k1766 k1749 k1822 k1805 k1885 k1861 k1941 k1924 k1997 k1980 k2065 k2048 k2133 k2116 k2213 k2196 k2229 k2294 k2277 k2362 k2345 k2430 k2413 k2510 k2493 k2578 k2561 k2641 k2617 k2697 k2680 k2753 k2736 k2809 k2792 k2865 k2848 k2921 k2904 k3001 k2984 k3057 k3040 k3113 k3096 k3193 k3176 k3277 k3260 k3361 k3344 k3441 k3424 k3485 k3468 k3521 k3557 rec (nI (6 * i)) h) := by
  have sc0 : scI cs (nI (6 * i)) = some (cs.getD (6 * i) 0) := sc_ok (by omega) hL
  have sc1 : scI cs (nI (6 * i) + (1 : Int32)) = some (cs.getD (6 * i + 1) 0) := by rw [show nI (6 * i) + (1 : Int32) = nI (6 * i + 1) from nI_add ..]; exact sc_ok (by omega) hL
  have sc2 : scI cs (nI (6 * i) + (2 : Int32)) = some (cs.getD (6 * i + 2) 0) := by rw [show nI (6 * i) + (2 : Int32) = nI (6 * i + 2) from nI_add ..]; exact sc_ok (by omega) hL
  have sc3 : scI cs (nI (6 * i) + (3 : Int32)) = some (cs.getD (6 * i + 3) 0) := by rw [show nI (6 * i) + (3 : Int32) = nI (6 * i + 3) from nI_add ..]; exact sc_ok (by omega) hL
  have sc4 : scI cs (nI (6 * i) + (4 : Int32)) = some (cs.getD (6 * i + 4) 0) := by rw [show nI (6 * i) + (4 : Int32) = nI (6 * i + 4) from nI_add ..]; exact sc_ok (by omega) hL
  have sc5 : scI cs (nI (6 * i) + (5 : Int32)) = some (cs.getD (6 * i + 5) 0) := by rw [show nI (6 * i) + (5 : Int32) = nI (6 * i + 5) from nI_add ..]; exact sc_ok (by omega) hL
  generalize cs.getD (6 * i) 0 = c0 at *
  generalize cs.getD (6 * i + 1) 0 = c1 at *
  generalize cs.getD (6 * i + 2) 0 = c2 at *
  generalize cs.getD (6 * i + 3) 0 = c3 at *
  generalize cs.getD (6 * i + 4) 0 = c4 at *
  generalize cs.getD (6 * i + 5) 0 = c5 at *
  have le : nI (6 * i) ≤ nI cs.length - (6 : Int32) := by
    have e : nI cs.length - (6 : Int32) = nI (cs.length - 6) := (show nI cs.length - nI 6 = nI (cs.length - 6) from pk_sub (by omega))
    rw [e, nI_leI (by omega) (by omega)]
    omega
  have n6 : nI (6 * i) + (6 : Int32) = nI (6 * i + 6) := nI_add ..
  obtain ⟨⟨T, P, Q, I⟩, xa, xb⟩ := X
  unfold m_L_law_L23
  rw [if_pos le]
  simp only [sc0, sc1, sc2, sc3, sc4, sc5, bO_v]
  rw [aLet_v]
  refine aJ_gen (R := Z) (fun kk hkk => ?_)
  have ok : ∀ h2, XI h2 (h_nx h + 2) (h_sl h + 24) → Z (kk h2) := fun h2 x => by
    rw [hkk]
    show Z (rec (nI (6 * i) + (6 : Int32)) h2)
    rw [n6]
    exact hr h2 ⟨x.1, by have := x.2.1; omega, by have := x.2.2; omega⟩
  clear hkk hr sc0 sc1 sc2 sc3 sc4 sc5 le n6 hL hi
  refine sw_go Z (qh_go ((q_append I _ _ _ _ _).qh (fun _ _ e => s22_append e)) Z ok) ?_
  refine sw_go Z (qh_go ((q_truncate I _).qh (fun _ _ e => s22_truncate e)) Z ok) ?_
  refine sw_go Z (qh_go ((q_load I).qh (fun _ _ e => s22_load e)) Z ok) ?_
  refine sw_go Z (qd_go (q_errorCode I) I Z ok) ?_
  refine sw_go Z (qd_go (q_errorPosition I) I Z ok) ?_
  refine sw_go Z (qh_go ((q_find I _).qh (fun _ _ e => s22_find e)) Z ok) ?_
  refine sw_go Z (qh_go ((q_count I _).qh I) Z ok) ?_
  refine sw_go Z (qd_go (q_time I) I Z ok) ?_
  refine sw_go Z (qh_go ((q_nightMinutes I _ _).qh I) Z ok) ?_
  refine sw_go Z (qh_go ((q_outUntil I _).qh I) Z ok) ?_
  refine sw_go Z (qh_go ((q_lostSleep I _).qh I) Z ok) ?_
  refine sw_go Z (qh_go ((q_lostSleepAfter I _ _).qh I) Z ok) ?_
  refine sw_go Z (qh_go ((q_restedAt I _).qh I) Z ok) ?_
  refine sw_go Z (qh_go ((q_arrival I _).qh I) Z ok) ?_
  refine sw_go Z (qh_go ((q_pay I _).qh I) Z ok) ?_
  refine sw_go Z (qh_go ((q_trust I _ _).qh I) Z ok) ?_
  refine sw_go Z (qh_go ((q_trustPath I _ _).qh I) Z ok) ?_
  refine sw_go Z (qh_go ((q_chain I _ _).qh I) Z ok) ?_
  refine sw_go Z (qh_go ((q_handOns I _).qh I) Z ok) ?_
  refine sw_go Z (qh_go ((q_holdingEnd I _).qh I) Z ok) ?_
  refine sw_go Z (qh_go ((q_rotation I _ _).qh I) Z ok) ?_
  refine sw_go Z (qh_go ((q_holderAt I _ _).qh I) Z ok) ?_
  refine sw_go Z (qh_go ((q_dutyMinutes I _ _).qh I) Z ok) ?_
  refine sw_go Z (qh_go ((q_why I _ _ _).qh I) Z ok) ?_
  refine sw_go Z (qh_go ((q_steps I _ _).qh (fun _ _ e => s22_steps e)) Z ok) ?_
  refine sw_go Z (qh_go ((q_returnsAt I _).qh I) Z ok) ?_
  refine sw_go Z (qh_go ((q_cost I _).qh I) Z ok) ?_
  refine sw_go Z (qb_go ((q_isAnswered I _).qh I) (fun r h1 e hr => ?_) Z ok) ?_
  · have e2 := e
    unfold m_L_isAnswered at e2
    rw [show gS h 11 1 _ = _ from if_pos (c_cX I.sh)] at e2
    exact b01 e2 hr
  refine sw_go Z (qh_go ((q_came I _).qh I) Z ok) ?_
  refine sw_go Z (qh_go ((q_left I _).qh I) Z ok) ?_
  refine sw_go Z (qh_go ((q_engine I _ _).qh I) Z ok) ?_
  refine sw_go Z (qh_go ((q_leftAt I _ _).qh I) Z ok) ?_
  refine sw_go Z (qh_go ((q_member I _ _ _).qh I) Z ok) ?_
  refine sw_go Z (qd_go (q_totalCost I) I Z ok) ?_
  refine sw_go Z (qh_go ((q_whyAbsent I _ _).qh I) Z ok) ?_
  refine sw_go Z (qh_go ((q_whyStays I _ _).qh I) Z ok) ?_
  refine sw_go Z (qh_go ((q_departure I _ _).qh I) Z ok) ?_
  refine sw_go Z (qh_go ((q_mans I _ _ _).qh I) Z ok) ?_
  refine sw_go Z (qh_go ((q_manned I _ _).qh I) Z ok) ?_
  refine sw_go Z (qb_go ((q_wouldAnswer I _).qh I) (fun r h1 e hr => ?_) Z ok) ?_
  · have e2 := e
    unfold m_L_wouldAnswer at e2
    rw [show gS h 11 1 _ = _ from if_pos (c_cX I.sh)] at e2
    exact b01 e2 hr
  refine sw_go Z (qh_go ((q_mostEngines I _).qh I) Z ok) ?_
  refine sw_go Z (qh_go ((q_hours I _).qh I) Z ok) ?_
  refine sw_go Z (qh_go ((q_helpfulPager I _).qh (fun _ _ e => s22_helpfulPager e)) Z ok) ?_
  refine sw_go Z (qh_go ((q_helpfulPerson I _).qh (fun _ _ e => s22_helpfulPerson e)) Z ok) ?_
  refine sw_go Z (qh_go ((q_call I _).qh (fun _ _ e => s22_call e)) Z ok) ?_
  refine sw_go Z (qh_go ((q_handOn I _ _ _).qh (fun _ _ e => s22_handOn e)) Z ok) ?_
  refine sw_go Z (qh_go ((q_giveBack I _).qh (fun _ _ e => s22_giveBack e)) Z ok) ?_
  refine sw_go Z (qh_go ((q_pass I _).qh (fun _ _ e => s22_pass e)) Z ok) ?_
  refine sw_go Z (qh_go ((q_swap I _ _ _).qh (fun _ _ e => s22_swapPlaces e)) Z ok) ?_
  refine sw_go Z ?_ ?_
  · by_cases c9 : c2 = 0
    · simp only [aJ_v, if_pos c9]
      exact qh_go ((q_excuse I _ _).qh (fun _ _ e => s22_excuse e)) Z ok
    · simp only [aJ_v, if_neg c9]
      exact qh_go ((q_excuse I _ _).qh (fun _ _ e => s22_excuse e)) Z ok
  refine sw_go Z ?_ ?_
  · by_cases c9 : c2 = 0
    · simp only [aJ_v, if_pos c9]
      exact qh_go ((q_setService I _ _).qh (fun _ _ e => s22_setService e)) Z ok
    · simp only [aJ_v, if_neg c9]
      exact qh_go ((q_setService I _ _).qh (fun _ _ e => s22_setService e)) Z ok
  refine sw_go Z (qh_go ((q_setTrust I _ _ _).qh (fun _ _ e => s22_setTrust e)) Z ok) ?_
  refine sw_go Z (qh_go ((q_undo I).qh (fun _ _ e => s22_undo e)) Z ok) ?_
  refine sw_go Z (qs_go (q_save I _) (fun _ _ e => s22_save e) Z ok) ?_
  refine sw_go Z (qs_go (q_restore I _) (fun _ _ e => s22_restore e) Z ok) ?_
  exact ok _ ⟨⟨T, P, Q, I⟩, by omega, by omega⟩
end
theorem LAW_OK (cs : List Int32) (hL : cs.length ≤ 3072) : ∃ h' : aH, m_L_law cs aH0 = some (1, h') ∧ h_nx h' ≤ 601025 ∧ h_sl h' ≤ 7293034 := by
  suffices all : ∀ Z : Option (Int32 × aH) → Prop, Z = (fun o => ∃ h' : aH, o = some (1, h') ∧ h_nx h' ≤ 601025 ∧ h_sl h' ≤ 7293034) → Z (m_L_law cs aH0) from all (fun o => ∃ h' : aH, o = some (1, h') ∧ h_nx h' ≤ 601025 ∧ h_sl h' ≤ 7293034) rfl
  intro Z hZ
  unfold m_L_law
  refine i_law Z (fun h5 T I n5 s5 => ?_)
  refine aJ_gen (R := Z) (fun k3568 hk => ?_)
  iterate 104 refine aJ_gen (R := Z) (fun _ _ => ?_)
  refine aL1_run (R := Z) (fun m s1 g => ∃ i, 6 * i ≤ cs.length ∧ m = 512 - i ∧ s1 = nI (6 * i) ∧ XI g (463 + 2 * i) (29795 + 24 * i)) ⟨0, by omega, rfl, rfl, ⟨T, 4, 69, I⟩, by omega, by omega⟩ (by omega) ?_
  rintro rec m s1 g ⟨i, hi, rfl, rfl, X⟩ ih
  by_cases c : 6 * i + 6 ≤ cs.length
  · refine law_step hL c X Z (fun h2 X2 => ih _ _ _ (by omega) ⟨i + 1, by omega, rfl, by rw [Nat.mul_succ], ?_⟩)
    rw [show 463 + 2 * (i + 1) = 463 + 2 * i + 2 by omega, show 29795 + 24 * (i + 1) = 29795 + 24 * i + 24 by omega]
    exact X2
  · have le : ¬ nI (6 * i) ≤ nI cs.length - (6 : Int32) := fun q => by
      by_cases c6 : 6 ≤ cs.length
      · have e : nI cs.length - (6 : Int32) = nI (cs.length - 6) := (show nI cs.length - nI 6 = nI (cs.length - 6) from pk_sub (by omega))
        rw [e, nI_leI (by omega) (by omega)] at q
        omega
      · have e : (nI cs.length - (6 : Int32)).toInt = (cs.length : Int) - 6 := by
          rcases (show cs.length = 0 ∨ cs.length = 1 ∨ cs.length = 2 ∨ cs.length = 3 ∨ cs.length = 4 ∨ cs.length = 5 by omega) with r | r | r | r | r | r <;> rw [r] <;> decide
        rw [fa_le, e, nI_toInt (by omega)] at q
        omega
    unfold m_L_law_L23
    rw [if_neg le, hk, hZ]
    obtain ⟨-, x1, x2⟩ := X
    exact ⟨g, rfl, by omega, by omega⟩
