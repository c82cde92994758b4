/-! the reference reads a text -/
section
variable {h h0 : aH} {tx : Nat → Nat} {n s : Nat} {M : Nat → Nat → Nat}
theorem y_nB {k : aH → Option (Unit × aH)} {e : ER} (b : BE n h0 h e) : aL1 (m_X12_readsText_L89 412 k) FU (nI 0) h = k h := by
  have z1 : (nI 1 = nI 0) = False := eq_false (by decide)
  refine aL1_run (R := fun o => o = k h) (fun m s1 g => m = 0 ∧ g = h ∧ s1 = nI 0) ⟨rfl, rfl, rfl⟩ (by omega) ?_
  rintro rec m s1 g ⟨rfl, rfl, rfl⟩ ih
  simp (maxSteps := 3000000) (disch := first | assumption | omega) only [m_X12_readsText_L89, bO_v, bR_v, bX_l, bX_r, bC_l, bC_r, aJ_v, aLet_v, nI_add, pk_mul, dvI_n, rmI_n, iMax_n, iMin_n, zO_0, zO_1, li_0, li_1, li_2, li_3, li_4, li_5, li_6, li_7, li_8, li_9, li_10, li_12, li_14, li_15, li_16, li_18, li_19, li_20, li_22, li_23, li_24, li_26, li_29, li_30, li_31, li_32, li_36, li_38, li_48, li_50, li_57, li_58, li_59, li_60, li_63, li_97, li_99, li_120, li_122, li_144, li_168, li_194, li_240, li_255, li_284, li_299, li_603, li_999, li_1200, li_1440, li_4095, li_4096, li_6030, li_16384, li_20160, zl0, zl1, zl2, zl3, zl4, ze01, ze02, ze03, ze04, ze10, ze12, ze13, ze14, ze20, ze21, ze23, ze24, ze30, ze31, ze32, ze34, ze40, ze41, ze42, ze43, zt0, zt1, zt2, zt3, zt4, zq0, zq1, zq2, zq3, zq4, it_t, it_f, Bool.true_eq_false, Bool.false_eq_true, na5, na4, na1441, na2, na10, sx_IOIA, sx_IOIS, sx_IONS, sx_IAIO, sx_IAIS, sx_IANS, sx_ISIO, sx_ISIA, sx_ISNS, sx_NSIO, sx_NSIA, sx_NSIS, nI_ltI, r_cM_gi b.1, b.2.2.2.1, z1]
  rw [ite_self]
theorem b_183 : m_X12_readsText_L183 412 = bodyY 39 232608281 (nI 12) (m_X12_person 412) := rfl
theorem b_210 : m_X12_readsText_L210 412 = bodyY 40 10998956 (nI 24) (m_X12_trust 412) := rfl
theorem b_237 : m_X12_readsText_L237 412 = bodyY 41 8527995 (nI 6) (m_X12_pager 412) := rfl
theorem b_264 : m_X12_readsText_L264 412 = bodyY 42 79329434 (nI 5) (m_X12_engine 412) := rfl
theorem b_290 : m_X12_readsText_L290 412 = bodyY 43 223456 (nI 6) (m_X12_kind 412) := rfl
/-- what the reference's reading of a text leaves -/
def YT (tx : Nat → Nat) (n : Nat) (h h1 : aH) : Prop := Sh h1 ∧ RY h h1 ∧ JN h1 ∧ match sText tx n with
  | .inl e => h_iv h1 412 33 = nI 1 ∧ h_iv h1 412 31 = nI e.1 ∧ h_iv h1 412 32 = nI e.2
  | .inr M => h_iv h1 412 33 = nI 0 ∧ h_iv h1 412 31 = h_iv h 412 31 ∧ h_iv h1 412 32 = h_iv h 412 32 ∧ RM tx n M h1 ∧ WM M
theorem yt_bad {e : ER} (es : sText tx n = .inl e) (b : BE n h0 h e) : YT tx n h0 h := by
  unfold YT
  rw [es]
  exact ⟨b.1, b.2.1, b.2.2.1, b.2.2.2.1, b.2.2.2.2.2⟩
theorem yt_good (es : sText tx n = .inr M) (G : GS tx n h0 h s) (R : RM tx n M h) (w : WM M) : YT tx n h0 h := by
  unfold YT
  rw [es]
  exact ⟨G.1, G.2.1, G.2.2.1, G.2.2.2.1, G.2.2.2.2.2.1, G.2.2.2.2.2.2, R, w⟩
theorem rm_night {v : Nat → Nat} (q : Q0 h) (hv : ∀ j, j < 4 → h_iv h 436 j = nI (v j)) : RM tx n (put (put (put (put (fun _ _ => 0) 418 0 (v 0)) 418 1 (v 1)) 418 2 (v 2)) 418 3 (v 3)) h := by
  have z : ∀ o k', ¬ (o = 418) → put (put (put (put (fun _ _ => 0) 418 0 (v 0)) 418 1 (v 1)) 418 2 (v 2)) 418 3 (v 3) o k' = 0 := fun o k' q => by
    rw [put_n (by omega), put_n (by omega), put_n (by omega), put_n (by omega)]
  have y : ∀ j, j < 4 → put (put (put (put (fun _ _ => 0) 418 0 (v 0)) 418 1 (v 1)) 418 2 (v 2)) 418 3 (v 3) 418 j = v j := fun j hj => by
    rcases (show j = 0 ∨ j = 1 ∨ j = 2 ∨ j = 3 by omega) with r | r | r | r <;> subst r
    · rw [put_n (by omega), put_n (by omega), put_n (by omega), put_e]
    · rw [put_n (by omega), put_n (by omega), put_e]
    · rw [put_n (by omega), put_e]
    · rw [put_e]
  generalize put (put (put (put (fun _ _ => 0) 418 0 (v 0)) 418 1 (v 1)) 418 2 (v 2)) 418 3 (v 3) = M at z y
  obtain ⟨q1, q2, q3, q4, q5, q6⟩ := q
  have c8 := z 412 8 (by omega)
  have c9 := z 412 9 (by omega)
  have c10 := z 412 10 (by omega)
  have c11 := z 412 11 (by omega)
  refine ⟨⟨by rw [c8]; exact q1, by rw [z _ _ (by omega)]; exact q2, by rw [c9]; exact q3, by rw [c10]; exact q4, by rw [c11]; exact q5⟩, fun o k f => ?_, fun k hk => ?_, fun so hso i hi => ?_⟩
  · unfold fil at f
    rw [c8, c9, c10, c11] at f
    have f4 : o = 418 ∧ k < 4 := by
      rcases f with f | f | f | f | f | f | f | f | f <;> first | exact f | (exfalso; omega)
    obtain ⟨rfl, k4⟩ := f4
    rw [y k k4]
    exact hv k k4
  · rw [z 441 k (by omega), if_pos rfl]; exact q6 k hk
  · exfalso
    unfold nmN at hi
    rw [c8, c9, c10, c11] at hi
    (repeat' split at hi) <;> omega
theorem y_reads (hS : Sh h) (X : TR tx n h) (J : JN h) : OK (m_X12_readsText 412 h) (fun _ h1 => YT tx n h h1) := by
  have z : (nI 0 = nI 0) = True := eq_self _
  have z1 : (nI 1 = nI 0) = False := eq_false (by decide)
  have x1 := X.1
  have S1 : Sh (h_si h 412 30 (nI 0)) := hS.si _ _ _
  have w2 : pz (h_si h 412 30 (nI 0)) 12 412 33 (nI 0) = some (h_si (h_si h 412 30 (nI 0)) 412 33 (nI 0)) := pz_ok (r_cM S1) (Or.inl rfl)
  have S2 : Sh (h_si (h_si h 412 30 (nI 0)) 412 33 (nI 0)) := S1.si _ _ _
  have S3 := S2.si 412 39 (nI 0)
  have S4 := S3.si 412 40 (nI 0)
  have S5 := S4.si 412 41 (nI 0)
  have S6 := S5.si 412 42 (nI 0)
  have S7 := S6.si 412 43 (nI 0)
  simp (maxSteps := 3000000) (disch := first | assumption | omega) only [m_X12_readsText, bO_v, bR_v, bX_l, bX_r, bC_l, bC_r, aLet_v, nI_add, pk_mul, dvI_n, rmI_n, iMax_n, iMin_n, zO_0, zO_1, li_0, li_1, li_2, li_3, li_4, li_5, li_6, li_7, li_8, li_9, li_10, li_12, li_14, li_15, li_16, li_18, li_19, li_20, li_22, li_23, li_24, li_26, li_29, li_30, li_31, li_32, li_36, li_38, li_48, li_50, li_57, li_58, li_59, li_60, li_63, li_97, li_99, li_120, li_122, li_144, li_168, li_194, li_240, li_255, li_284, li_299, li_603, li_999, li_1200, li_1440, li_4095, li_4096, li_6030, li_16384, li_20160, zl0, zl1, zl2, zl3, zl4, ze01, ze02, ze03, ze04, ze10, ze12, ze13, ze14, ze20, ze21, ze23, ze24, ze30, ze31, ze32, ze34, ze40, ze41, ze42, ze43, zt0, zt1, zt2, zt3, zt4, zq0, zq1, zq2, zq3, zq4, it_t, it_f, Bool.true_eq_false, Bool.false_eq_true, na5, na4, na1441, na2, na10, sx_IOIA, sx_IOIS, sx_IONS, sx_IAIO, sx_IAIS, sx_IANS, sx_ISIO, sx_ISIA, sx_ISNS, sx_NSIO, sx_NSIA, sx_NSIS, r_cM_pi hS, w2, r_cM_pi S2, r_cM_pi S3, r_cM_pi S4, r_cM_pi S5, r_cM_pi S6]
  have F7 : Fx (fun o k => o = 412 ∧ (k = 30 ∨ k = 33 ∨ (39 ≤ k ∧ k ≤ 43))) h (h_si (h_si (h_si (h_si (h_si (h_si (h_si h 412 30 (nI 0)) 412 33 (nI 0)) 412 39 (nI 0)) 412 40 (nI 0)) 412 41 (nI 0)) 412 42 (nI 0)) 412 43 (nI 0)) := ((((((Fx.si (A := fun o k => o = 412 ∧ (k = 30 ∨ k = 33 ∨ (39 ≤ k ∧ k ≤ 43))) ⟨rfl, by omega⟩).trans (Fx.si ⟨rfl, by omega⟩)).trans (Fx.si ⟨rfl, by omega⟩)).trans (Fx.si ⟨rfl, by omega⟩)).trans (Fx.si ⟨rfl, by omega⟩)).trans (Fx.si ⟨rfl, by omega⟩)).trans (Fx.si ⟨rfl, by omega⟩)
  have a30 : h_iv (h_si (h_si (h_si (h_si (h_si (h_si (h_si h 412 30 (nI 0)) 412 33 (nI 0)) 412 39 (nI 0)) 412 40 (nI 0)) 412 41 (nI 0)) 412 42 (nI 0)) 412 43 (nI 0)) 412 30 = nI 0 := by rw [si_ne (by omega), si_ne (by omega), si_ne (by omega), si_ne (by omega), si_ne (by omega), si_ne (by omega), si_at]
  have a33 : h_iv (h_si (h_si (h_si (h_si (h_si (h_si (h_si h 412 30 (nI 0)) 412 33 (nI 0)) 412 39 (nI 0)) 412 40 (nI 0)) 412 41 (nI 0)) 412 42 (nI 0)) 412 43 (nI 0)) 412 33 = nI 0 := by rw [si_ne (by omega), si_ne (by omega), si_ne (by omega), si_ne (by omega), si_ne (by omega), si_at]
  have a39 : h_iv (h_si (h_si (h_si (h_si (h_si (h_si (h_si h 412 30 (nI 0)) 412 33 (nI 0)) 412 39 (nI 0)) 412 40 (nI 0)) 412 41 (nI 0)) 412 42 (nI 0)) 412 43 (nI 0)) 412 39 = nI 0 := by rw [si_ne (by omega), si_ne (by omega), si_ne (by omega), si_ne (by omega), si_at]
  have a40 : h_iv (h_si (h_si (h_si (h_si (h_si (h_si (h_si h 412 30 (nI 0)) 412 33 (nI 0)) 412 39 (nI 0)) 412 40 (nI 0)) 412 41 (nI 0)) 412 42 (nI 0)) 412 43 (nI 0)) 412 40 = nI 0 := by rw [si_ne (by omega), si_ne (by omega), si_ne (by omega), si_at]
  have a41 : h_iv (h_si (h_si (h_si (h_si (h_si (h_si (h_si h 412 30 (nI 0)) 412 33 (nI 0)) 412 39 (nI 0)) 412 40 (nI 0)) 412 41 (nI 0)) 412 42 (nI 0)) 412 43 (nI 0)) 412 41 = nI 0 := by rw [si_ne (by omega), si_ne (by omega), si_at]
  have a42 : h_iv (h_si (h_si (h_si (h_si (h_si (h_si (h_si h 412 30 (nI 0)) 412 33 (nI 0)) 412 39 (nI 0)) 412 40 (nI 0)) 412 41 (nI 0)) 412 42 (nI 0)) 412 43 (nI 0)) 412 42 = nI 0 := by rw [si_ne (by omega), si_at]
  have a43 : h_iv (h_si (h_si (h_si (h_si (h_si (h_si (h_si h 412 30 (nI 0)) 412 33 (nI 0)) 412 39 (nI 0)) 412 40 (nI 0)) 412 41 (nI 0)) 412 42 (nI 0)) 412 43 (nI 0)) 412 43 = nI 0 := si_at
  generalize h_si (h_si (h_si (h_si (h_si (h_si (h_si h 412 30 (nI 0)) 412 33 (nI 0)) 412 39 (nI 0)) 412 40 (nI 0)) 412 41 (nI 0)) 412 42 (nI 0)) 412 43 (nI 0) = g7 at *
  have G7 : GS tx n h g7 (skp tx n 0) := ⟨S7, RY.fx F7 (fun o k r => by unfold RX; omega), J.fx F7 (fun o k r => by omega), a33, ⟨0, Nat.zero_le _, a30, rfl⟩, F7.iv (by omega), F7.iv (by omega)⟩
  generalize hK : (fun (_ : Unit) (h1 : aH) => YT tx n h h1) = K
  refine aJ_gen (R := fun o => OK o K) (fun k64 hk64 => ?_)
  refine aL1_run (R := fun o => OK o K) (fun m s1 g => ∃ i, i ≤ 144 ∧ m = 144 - i ∧ s1 = nI i ∧ GS tx n h g (skp tx n 0) ∧ (h_iv g 412 39 = nI 0 ∧ h_iv g 412 40 = nI 0 ∧ h_iv g 412 41 = nI 0 ∧ h_iv g 412 42 = nI 0 ∧ h_iv g 412 43 = nI 0) ∧ ∀ k, k < i → h_iv g 441 k = nI 0 ∧ h_iv g 440 k = nI 0) ⟨0, Nat.zero_le _, rfl, rfl, G7, ⟨a39, a40, a41, a42, a43⟩, fun k r => absurd r (Nat.not_lt_zero k)⟩ (by omega) ?_
  rintro rec m s1 g ⟨i, hi, rfl, rfl, Gg, ⟨c39, c40, c41, c42, c43⟩, fz⟩ ih
  have Sg := Gg.1
  by_cases hlt : i < 144
  · have S8 := Sg.si 440 i (nI 0)
    have w8 : asz (h_si g 440 i (nI 0)) 441 (nI i) (nI 0) = some (h_si (h_si g 440 i (nI 0)) 441 i (nI 0)) := r_c441_as S8 hlt (Or.inl rfl)
    simp (maxSteps := 3000000) (disch := first | assumption | omega) only [m_X12_readsText_L37, bO_v, bR_v, bX_l, bX_r, bC_l, bC_r, aLet_v, nI_add, pk_mul, dvI_n, rmI_n, iMax_n, iMin_n, zO_0, zO_1, li_0, li_1, li_2, li_3, li_4, li_5, li_6, li_7, li_8, li_9, li_10, li_12, li_14, li_15, li_16, li_18, li_19, li_20, li_22, li_23, li_24, li_26, li_29, li_30, li_31, li_32, li_36, li_38, li_48, li_50, li_57, li_58, li_59, li_60, li_63, li_97, li_99, li_120, li_122, li_144, li_168, li_194, li_240, li_255, li_284, li_299, li_603, li_999, li_1200, li_1440, li_4095, li_4096, li_6030, li_16384, li_20160, zl0, zl1, zl2, zl3, zl4, ze01, ze02, ze03, ze04, ze10, ze12, ze13, ze14, ze20, ze21, ze23, ze24, ze30, ze31, ze32, ze34, ze40, ze41, ze42, ze43, zt0, zt1, zt2, zt3, zt4, zq0, zq1, zq2, zq3, zq4, it_t, it_f, Bool.true_eq_false, Bool.false_eq_true, na5, na4, na1441, na2, na10, sx_IOIA, sx_IOIS, sx_IONS, sx_IAIO, sx_IAIS, sx_IANS, sx_ISIO, sx_ISIA, sx_ISNS, sx_NSIO, sx_NSIA, sx_NSIS, nI_ltI, r_p440 Sg, r_c440_as Sg, r_p441 S8, w8]
    rw [if_pos hlt]
    have iv : ∀ k, h_iv (h_si (h_si g 440 i (nI 0)) 441 i (nI 0)) 412 k = h_iv g 412 k := fun k => by rw [si_ne (by omega), si_ne (by omega)]
    refine ih _ _ _ (by omega) ⟨i + 1, hlt, rfl, rfl, (Gg.si (by unfold RX; omega) (by omega) (by omega)).si (by unfold RX; omega) (by omega) (by omega), ⟨by rw [iv]; exact c39, by rw [iv]; exact c40, by rw [iv]; exact c41, by rw [iv]; exact c42, by rw [iv]; exact c43⟩, fun k hk => ?_⟩
    by_cases ck : k = i
    · rw [ck, si_at, si_ne (by omega), si_at]; exact ⟨rfl, rfl⟩
    · rw [si_ne (by omega), si_ne (by omega), si_ne (by omega), si_ne (by omega)]; exact fz k (by omega)
  · obtain rfl : i = 144 := by omega
    simp (maxSteps := 3000000) (disch := first | assumption | omega) only [m_X12_readsText_L37, bO_v, bR_v, bX_l, bX_r, bC_l, bC_r, aLet_v, nI_add, pk_mul, dvI_n, rmI_n, iMax_n, iMin_n, zO_0, zO_1, li_0, li_1, li_2, li_3, li_4, li_5, li_6, li_7, li_8, li_9, li_10, li_12, li_14, li_15, li_16, li_18, li_19, li_20, li_22, li_23, li_24, li_26, li_29, li_30, li_31, li_32, li_36, li_38, li_48, li_50, li_57, li_58, li_59, li_60, li_63, li_97, li_99, li_120, li_122, li_144, li_168, li_194, li_240, li_255, li_284, li_299, li_603, li_999, li_1200, li_1440, li_4095, li_4096, li_6030, li_16384, li_20160, zl0, zl1, zl2, zl3, zl4, ze01, ze02, ze03, ze04, ze10, ze12, ze13, ze14, ze20, ze21, ze23, ze24, ze30, ze31, ze32, ze34, ze40, ze41, ze42, ze43, zt0, zt1, zt2, zt3, zt4, zq0, zq1, zq2, zq3, zq4, it_t, it_f, Bool.true_eq_false, Bool.false_eq_true, na5, na4, na1441, na2, na10, sx_IOIA, sx_IOIS, sx_IONS, sx_IAIO, sx_IAIS, sx_IANS, sx_ISIO, sx_ISIA, sx_ISNS, sx_NSIO, sx_NSIA, sx_NSIS, nI_ltI]
    rw [if_neg hlt, hk64]
    clear ih
    have q0 : Q0 g := ⟨c39, c40, c41, c42, c43, fz⟩
    have le := Gg.le
    obtain ⟨p, p1, p2, p3⟩ := Gg.2.2.2.2.1
    obtain ⟨_, h9, e9, F9, a9⟩ := y_blanks Sg (X.ry Gg.2.1) p2 p1
    rw [p3] at a9
    have Z9 : RZ g h9 := RZ.fx F9 (fun o k r => by unfold RSx; omega)
    have G9 : GS tx n h h9 (skp tx n 0) := Gg.rz Z9 ⟨F9.iv (by omega), F9.iv (by omega), F9.iv (by omega)⟩ ⟨_, le.1, a9, le.2⟩
    obtain ⟨r, h10, e10, Z10, rfl, G10, a10⟩ := y_says X G9 (c := 7622660) (w := 7622660) (by decide) (by decide) rfl
    have S10 := G10.1
    simp (maxSteps := 3000000) (disch := first | assumption | omega) only [bO_v, bR_v, bX_l, bX_r, bC_l, bC_r, aLet_v, nI_add, pk_mul, dvI_n, rmI_n, iMax_n, iMin_n, zO_0, zO_1, li_0, li_1, li_2, li_3, li_4, li_5, li_6, li_7, li_8, li_9, li_10, li_12, li_14, li_15, li_16, li_18, li_19, li_20, li_22, li_23, li_24, li_26, li_29, li_30, li_31, li_32, li_36, li_38, li_48, li_50, li_57, li_58, li_59, li_60, li_63, li_97, li_99, li_120, li_122, li_144, li_168, li_194, li_240, li_255, li_284, li_299, li_603, li_999, li_1200, li_1440, li_4095, li_4096, li_6030, li_16384, li_20160, zl0, zl1, zl2, zl3, zl4, ze01, ze02, ze03, ze04, ze10, ze12, ze13, ze14, ze20, ze21, ze23, ze24, ze30, ze31, ze32, ze34, ze40, ze41, ze42, ze43, zt0, zt1, zt2, zt3, zt4, zq0, zq1, zq2, zq3, zq4, it_t, it_f, Bool.true_eq_false, Bool.false_eq_true, na5, na4, na1441, na2, na10, sx_IOIA, sx_IOIS, sx_IONS, sx_IAIO, sx_IAIS, sx_IANS, sx_ISIO, sx_ISIA, sx_ISNS, sx_NSIO, sx_NSIA, sx_NSIS, r_cM_gS Sg, e9, r_cM_gS G9.1, e10]
    refine aJ_gen (R := fun o => OK o K) (fun k87 hk87 => ?_)
    have te : sText tx n = if isWd tx n (skp tx n 0) 7622660 = false then .inl (1, skp tx n 0) else sb (sN tx n (adv tx n (skp tx n 0))) fun r => sb (sSym tx n r.2 3) fun s2 => sMain tx n (n + 1) 0 r.1 s2 := by
      unfold sText
      rw [sNight_sN]
      cases isWd tx n (skp tx n 0) 7622660
      · rfl
      · rw [if_neg (by decide), if_neg (by decide), sb_sb]
        congr 1
        funext r
        rw [sb_sb]
        rfl
    have all : ∀ g11, (∃ e, sText tx n = .inl e ∧ BE n h g11 e) ∨ (isWd tx n (skp tx n 0) 7622660 = true ∧ GS tx n h g11 (adv tx n (skp tx n 0)) ∧ Q0 g11 ∧ sText tx n = sb (sN tx n (adv tx n (skp tx n 0))) fun r => sb (sSym tx n r.2 3) fun s2 => sMain tx n (n + 1) 0 r.1 s2) → OK (k87 g11) K := fun g11 hg => by
      rw [hk87]
      dsimp only
      refine aJ_gen (R := fun o => OK o K) (fun k179 hk179 => ?_)
      have k179Z : ∀ g, Sh g → (∃ g', m_X12_semicolon 412 g = some ((), g') ∧ YM tx n h (sText tx n) 0 g') → OK (k179 g) K := fun g12 S12 hg' => by
        obtain ⟨g13, e13, y0⟩ := hg'
        rw [hk179]
        simp (maxSteps := 3000000) (disch := first | assumption | omega) only [bO_v, bR_v, bX_l, bX_r, bC_l, bC_r, aLet_v, nI_add, pk_mul, dvI_n, rmI_n, iMax_n, iMin_n, zO_0, zO_1, li_0, li_1, li_2, li_3, li_4, li_5, li_6, li_7, li_8, li_9, li_10, li_12, li_14, li_15, li_16, li_18, li_19, li_20, li_22, li_23, li_24, li_26, li_29, li_30, li_31, li_32, li_36, li_38, li_48, li_50, li_57, li_58, li_59, li_60, li_63, li_97, li_99, li_120, li_122, li_144, li_168, li_194, li_240, li_255, li_284, li_299, li_603, li_999, li_1200, li_1440, li_4095, li_4096, li_6030, li_16384, li_20160, zl0, zl1, zl2, zl3, zl4, ze01, ze02, ze03, ze04, ze10, ze12, ze13, ze14, ze20, ze21, ze23, ze24, ze30, ze31, ze32, ze34, ze40, ze41, ze42, ze43, zt0, zt1, zt2, zt3, zt4, zq0, zq1, zq2, zq3, zq4, it_t, it_f, Bool.true_eq_false, Bool.false_eq_true, na5, na4, na1441, na2, na10, sx_IOIA, sx_IOIS, sx_IONS, sx_IAIO, sx_IAIS, sx_IANS, sx_ISIO, sx_ISIA, sx_ISNS, sx_NSIO, sx_NSIA, sx_NSIS, r_cM_gS S12, e13]
        refine aJ_gen (R := fun o => OK o K) (fun k210 hk210 => ?_)
        rw [b_183]
        refine y_loop X (c := 0) (W := 232608281) (by omega) sec_0 rfl (by decide) (by decide) (fun M => M 412 8) (fun M g R => R.1.1) (fun M w => w.1.nP) (by omega) (fun M s q => ?_) (fun M g s w R G hc => y_person X w R G hc) y0 (fun o => OK o K) (fun g14 y1 => ?_)
        · show sPerson tx n M s = _
          unfold sPerson
          rw [if_pos (by omega)]
        rw [hk210]
        dsimp only
        refine aJ_gen (R := fun o => OK o K) (fun k237 hk237 => ?_)
        rw [b_210]
        refine y_loop X (c := 1) (W := 10998956) (by omega) sec_1 rfl (by decide) (by decide) (fun M => M 412 40) (fun M g R => R.1.2.1) (fun M w => w.2.1) (by omega) (fun M s q => ?_) (fun M g s w R G hc => y_trust X w R G hc) y1 (fun o => OK o K) (fun g15 y2 => ?_)
        · show sTrust tx n M s = _
          unfold sTrust
          rw [if_pos (by omega)]
        rw [hk237]
        dsimp only
        refine aJ_gen (R := fun o => OK o K) (fun k264 hk264 => ?_)
        rw [b_237]
        refine y_loop X (c := 2) (W := 8527995) (by omega) sec_2 rfl (by decide) (by decide) (fun M => M 412 9) (fun M g R => R.1.2.2.1) (fun M w => w.1.nG) (by omega) (fun M s q => ?_) (fun M g s w R G hc => y_pager X w R G hc) y2 (fun o => OK o K) (fun g16 y3 => ?_)
        · show sPager tx n M s = _
          unfold sPager
          rw [if_pos (by omega)]
        rw [hk264]
        dsimp only
        refine aJ_gen (R := fun o => OK o K) (fun k290 hk290 => ?_)
        rw [b_264]
        refine y_loop X (c := 3) (W := 79329434) (by omega) sec_3 rfl (by decide) (by decide) (fun M => M 412 10) (fun M g R => R.1.2.2.2.1) (fun M w => w.1.nE) (by omega) (fun M s q => ?_) (fun M g s w R G hc => y_engine X w R G hc) y3 (fun o => OK o K) (fun g17 y4 => ?_)
        · show sEngine tx n M s = _
          unfold sEngine
          rw [if_pos (by omega)]
        rw [hk290]
        dsimp only
        refine aJ_gen (R := fun o => OK o K) (fun k317 hk317 => ?_)
        rw [b_290]
        refine y_loop X (c := 4) (W := 223456) (by omega) sec_4 rfl (by decide) (by decide) (fun M => M 412 11) (fun M g R => R.1.2.2.2.2) (fun M w => w.1.nK) (by omega) (fun M s q => ?_) (fun M g s w R G hc => y_kind X w R G hc) y4 (fun o => OK o K) (fun g18 y5 => ?_)
        · show sKind tx n M s = _
          unfold sKind
          rw [if_pos (by omega)]
        rw [hk317, ← hK]
        rcases y5 with ⟨f, sec, M, s, es, s1, s2, s3, G, R, w⟩ | ⟨e, es, b⟩
        · have Sg := G.1
          have le := G.le
          obtain ⟨p, p1, p2, p3⟩ := G.2.2.2.2.1
          obtain ⟨_, h20, e20, F20, a20⟩ := y_blanks Sg (X.ry G.2.1) p2 p1
          rw [p3] at a20
          have Z20 : RZ g18 h20 := RZ.fx F20 (fun o k r => by unfold RSx; omega)
          have G20 : GS tx n h h20 s := G.rz Z20 ⟨F20.iv (by omega), F20.iv (by omega), F20.iv (by omega)⟩ ⟨_, le.1, a20, le.2⟩
          have S20 := G20.1
          have a29 : h_iv h20 412 29 = nI n := (X.ry G20.2.1).2.1
          obtain ⟨f, rfl⟩ : ∃ f', f = f' + 1 := ⟨f - 1, by omega⟩
          by_cases sn : s < n
          · obtain ⟨h21, e21, b21, F21⟩ := y_fault (n := n) S20 G20.2.1 G20.2.2.1 G20.2.2.2.1 le.1 a20 (c := 1) (w := s)
            simp (maxSteps := 3000000) (disch := first | assumption | omega) only [bO_v, bR_v, bX_l, bX_r, bC_l, bC_r, aJ_v, aLet_v, nI_add, pk_mul, dvI_n, rmI_n, iMax_n, iMin_n, zO_0, zO_1, li_0, li_1, li_2, li_3, li_4, li_5, li_6, li_7, li_8, li_9, li_10, li_12, li_14, li_15, li_16, li_18, li_19, li_20, li_22, li_23, li_24, li_26, li_29, li_30, li_31, li_32, li_36, li_38, li_48, li_50, li_57, li_58, li_59, li_60, li_63, li_97, li_99, li_120, li_122, li_144, li_168, li_194, li_240, li_255, li_284, li_299, li_603, li_999, li_1200, li_1440, li_4095, li_4096, li_6030, li_16384, li_20160, zl0, zl1, zl2, zl3, zl4, ze01, ze02, ze03, ze04, ze10, ze12, ze13, ze14, ze20, ze21, ze23, ze24, ze30, ze31, ze32, ze34, ze40, ze41, ze42, ze43, zt0, zt1, zt2, zt3, zt4, zq0, zq1, zq2, zq3, zq4, it_t, it_f, Bool.true_eq_false, Bool.false_eq_true, na5, na4, na1441, na2, na10, sx_IOIA, sx_IOIS, sx_IONS, sx_IAIO, sx_IAIS, sx_IANS, sx_ISIO, sx_ISIA, sx_ISNS, sx_NSIO, sx_NSIA, sx_NSIS, r_cM_gi Sg, G.2.2.2.1, z, r_cM_gS Sg, e20, r_cM_gi S20, a20, a29, nI_ltI, if_pos sn, r_cM_gS S20, e21]
            have t5 : tok tx n s ≠ 5 := fun q => by have := tok5.mp q; omega
            have ss : sSec tx n s < sec ∨ sSec tx n s = 5 := by
              have l6 : sSec tx n s ≤ 5 := by unfold sSec; (repeat' split) <;> omega
              rcases Nat.lt_or_ge (sSec tx n s) sec with q | q
              · exact Or.inl q
              · rcases Nat.lt_or_ge (sSec tx n s) 5 with q2 | q2
                · exact absurd rfl (s2 _ q q2)
                · exact Or.inr (by omega)
            exact ok_ret (yt_bad (by rw [es, sMain, if_neg t5, if_pos ss]) b21)
          · simp (maxSteps := 3000000) (disch := first | assumption | omega) only [bO_v, bR_v, bX_l, bX_r, bC_l, bC_r, aJ_v, aLet_v, nI_add, pk_mul, dvI_n, rmI_n, iMax_n, iMin_n, zO_0, zO_1, li_0, li_1, li_2, li_3, li_4, li_5, li_6, li_7, li_8, li_9, li_10, li_12, li_14, li_15, li_16, li_18, li_19, li_20, li_22, li_23, li_24, li_26, li_29, li_30, li_31, li_32, li_36, li_38, li_48, li_50, li_57, li_58, li_59, li_60, li_63, li_97, li_99, li_120, li_122, li_144, li_168, li_194, li_240, li_255, li_284, li_299, li_603, li_999, li_1200, li_1440, li_4095, li_4096, li_6030, li_16384, li_20160, zl0, zl1, zl2, zl3, zl4, ze01, ze02, ze03, ze04, ze10, ze12, ze13, ze14, ze20, ze21, ze23, ze24, ze30, ze31, ze32, ze34, ze40, ze41, ze42, ze43, zt0, zt1, zt2, zt3, zt4, zq0, zq1, zq2, zq3, zq4, it_t, it_f, Bool.true_eq_false, Bool.false_eq_true, na5, na4, na1441, na2, na10, sx_IOIA, sx_IOIS, sx_IONS, sx_IAIO, sx_IAIS, sx_IANS, sx_ISIO, sx_ISIA, sx_ISNS, sx_NSIO, sx_NSIA, sx_NSIS, r_cM_gi Sg, G.2.2.2.1, z, r_cM_gS Sg, e20, r_cM_gi S20, a20, a29, nI_ltI, if_neg sn]
            exact ok_ret (yt_good (by rw [es, sMain, if_pos (tok5.mpr (by omega))]) G20 (R.rz Z20) w)
        · simp (maxSteps := 3000000) (disch := first | assumption | omega) only [bO_v, bR_v, bX_l, bX_r, bC_l, bC_r, aJ_v, aLet_v, nI_add, pk_mul, dvI_n, rmI_n, iMax_n, iMin_n, zO_0, zO_1, li_0, li_1, li_2, li_3, li_4, li_5, li_6, li_7, li_8, li_9, li_10, li_12, li_14, li_15, li_16, li_18, li_19, li_20, li_22, li_23, li_24, li_26, li_29, li_30, li_31, li_32, li_36, li_38, li_48, li_50, li_57, li_58, li_59, li_60, li_63, li_97, li_99, li_120, li_122, li_144, li_168, li_194, li_240, li_255, li_284, li_299, li_603, li_999, li_1200, li_1440, li_4095, li_4096, li_6030, li_16384, li_20160, zl0, zl1, zl2, zl3, zl4, ze01, ze02, ze03, ze04, ze10, ze12, ze13, ze14, ze20, ze21, ze23, ze24, ze30, ze31, ze32, ze34, ze40, ze41, ze42, ze43, zt0, zt1, zt2, zt3, zt4, zq0, zq1, zq2, zq3, zq4, it_t, it_f, Bool.true_eq_false, Bool.false_eq_true, na5, na4, na1441, na2, na10, sx_IOIA, sx_IOIS, sx_IONS, sx_IAIO, sx_IAIS, sx_IANS, sx_ISIO, sx_ISIA, sx_ISNS, sx_NSIO, sx_NSIA, sx_NSIS, r_cM_gi b.1, b.2.2.2.1, z1]
          exact ok_ret (yt_bad es b)
      rcases hg with ⟨e, es, b⟩ | ⟨wn, G11, q11, es⟩
      · rw [y_nB b]
        exact k179Z _ b.1 ⟨_, y_semiB b, Or.inr ⟨e, es, b⟩⟩
      · refine y_night X G11 q11 (fun o => OK o K) (fun g e en b => k179Z _ b.1 ⟨_, y_semiB b, Or.inr ⟨e, by rw [es, en]; rfl, b⟩⟩) (fun g v p en G q hv => k179Z _ G.1 ?_)
        have R := rm_night (tx := tx) (n := n) q hv
        obtain ⟨_, h12, e12, hh⟩ := y_semi X (r := (put (put (put (put (fun _ _ => 0) 418 0 (v 0)) 418 1 (v 1)) 418 2 (v 2)) 418 3 (v 3), p)) (Or.inl ⟨G, R⟩)
        refine ⟨h12, e12, ?_⟩
        cases ey : sSym tx n p 3 with
        | inl e =>
          have ey' : sSym tx n (put (put (put (put (fun _ _ => 0) 418 0 (v 0)) 418 1 (v 1)) 418 2 (v 2)) 418 3 (v 3), p).2 3 = .inl e := ey
          rw [ey'] at hh
          refine Or.inr ⟨e, ?_, hh.1⟩
          rw [es, en]
          show sb (sSym tx n p 3) _ = _
          rw [ey]; rfl
        | inr s2 =>
          have ey' : sSym tx n (put (put (put (put (fun _ _ => 0) 418 0 (v 0)) 418 1 (v 1)) 418 2 (v 2)) 418 3 (v 3), p).2 3 = .inr s2 := ey
          rw [ey'] at hh
          have w : WM (put (put (put (put (fun _ _ => 0) 418 0 (v 0)) 418 1 (v 1)) 418 2 (v 2)) 418 3 (v 3)) := by
            refine (wm_night (tx := tx) (n := n) (s := skp tx n 0) (s' := s2) ?_).1
            rw [sNight_sN, wn, if_neg (by decide), en]
            show sb (sSym tx n p 3) _ = _
            rw [ey]; rfl
          refine Or.inl ⟨n + 1, 0, _, s2, ?_, Nat.le_refl _, fun c' q1 q2 => absurd q2 (Nat.not_lt_zero _), by omega, hh.1, hh.2, w⟩
          rw [es, en]
          show sb (sSym tx n p 3) _ = _
          rw [ey]; rfl
    cases wn : isWd tx n (skp tx n 0) 7622660
    · rw [wn] at G10 a10 te
      rw [if_neg (by decide)] at G10 a10
      rw [if_pos rfl] at te
      obtain ⟨h11, e11, b11, F11⟩ := y_fault (n := n) S10 G10.2.1 G10.2.2.1 G10.2.2.2.1 le.1 a10 (c := 1) (w := skp tx n 0)
      have b0 : b2i false = nI 0 := rfl
      simp (maxSteps := 3000000) (disch := first | assumption | omega) only [b0, bO_v, bR_v, bX_l, bX_r, bC_l, bC_r, aLet_v, nI_add, pk_mul, dvI_n, rmI_n, iMax_n, iMin_n, zO_0, zO_1, li_0, li_1, li_2, li_3, li_4, li_5, li_6, li_7, li_8, li_9, li_10, li_12, li_14, li_15, li_16, li_18, li_19, li_20, li_22, li_23, li_24, li_26, li_29, li_30, li_31, li_32, li_36, li_38, li_48, li_50, li_57, li_58, li_59, li_60, li_63, li_97, li_99, li_120, li_122, li_144, li_168, li_194, li_240, li_255, li_284, li_299, li_603, li_999, li_1200, li_1440, li_4095, li_4096, li_6030, li_16384, li_20160, zl0, zl1, zl2, zl3, zl4, ze01, ze02, ze03, ze04, ze10, ze12, ze13, ze14, ze20, ze21, ze23, ze24, ze30, ze31, ze32, ze34, ze40, ze41, ze42, ze43, zt0, zt1, zt2, zt3, zt4, zq0, zq1, zq2, zq3, zq4, it_t, it_f, Bool.true_eq_false, Bool.false_eq_true, na5, na4, na1441, na2, na10, sx_IOIA, sx_IOIS, sx_IONS, sx_IAIO, sx_IAIS, sx_IANS, sx_ISIO, sx_ISIA, sx_ISNS, sx_NSIO, sx_NSIA, sx_NSIS, z, r_cM_gi S10, a10, r_cM_gS S10, e11]
      exact all h11 (Or.inl ⟨_, te, b11⟩)
    · rw [wn] at G10 te
      rw [if_pos rfl] at G10
      rw [if_neg (by decide)] at te
      have b0 : b2i true = nI 1 := rfl
      simp (maxSteps := 3000000) (disch := first | assumption | omega) only [b0, bO_v, bR_v, bX_l, bX_r, bC_l, bC_r, aLet_v, nI_add, pk_mul, dvI_n, rmI_n, iMax_n, iMin_n, zO_0, zO_1, li_0, li_1, li_2, li_3, li_4, li_5, li_6, li_7, li_8, li_9, li_10, li_12, li_14, li_15, li_16, li_18, li_19, li_20, li_22, li_23, li_24, li_26, li_29, li_30, li_31, li_32, li_36, li_38, li_48, li_50, li_57, li_58, li_59, li_60, li_63, li_97, li_99, li_120, li_122, li_144, li_168, li_194, li_240, li_255, li_284, li_299, li_603, li_999, li_1200, li_1440, li_4095, li_4096, li_6030, li_16384, li_20160, zl0, zl1, zl2, zl3, zl4, ze01, ze02, ze03, ze04, ze10, ze12, ze13, ze14, ze20, ze21, ze23, ze24, ze30, ze31, ze32, ze34, ze40, ze41, ze42, ze43, zt0, zt1, zt2, zt3, zt4, zq0, zq1, zq2, zq3, zq4, it_t, it_f, Bool.true_eq_false, Bool.false_eq_true, na5, na4, na1441, na2, na10, sx_IOIA, sx_IOIS, sx_IONS, sx_IAIO, sx_IAIS, sx_IANS, sx_ISIO, sx_ISIA, sx_ISNS, sx_NSIO, sx_NSIA, sx_NSIS, z1]
      exact all h10 (Or.inr ⟨wn, G10, (q0.rz Z9).rz Z10, te⟩)
end
