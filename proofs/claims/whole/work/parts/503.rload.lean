/-! the reference takes a text, and loads -/
/-- cells of a plan, filled or not -/
def cel (o k : Nat) : Prop := (o = 418 ∧ k < 4) ∨ ((o = 420 ∨ o = 421) ∧ k < 12) ∨ ((o = 422 ∨ o = 423 ∨ o = 424 ∨ o = 428 ∨ o = 429 ∨ o = 430 ∨ o = 431 ∨ o = 433) ∧ k < 6) ∨ ((o = 425 ∨ o = 426) ∧ k < 5) ∨ ((o = 427 ∨ o = 434) ∧ k < 30) ∨ (o = 432 ∧ k < 36)
def TKc (o k : Nat) : Prop := (o = 412 ∧ (k = 6 ∨ (8 ≤ k ∧ k ≤ 11))) ∨ (o = 413 ∧ k < 603) ∨ (o = 417 ∧ k < 2) ∨ cel o k
def rowv (h : aH) (j : Nat) : Int32 := if 50 ≤ j ∧ j < 194 then h_iv h 440 (j - 50) else if 194 ≤ j ∧ j < 284 ∧ (j - 194) % 15 < 8 then h_iv h 445 (8 * ((j - 194) / 15) + (j - 194) % 15) else nI 0
def TK (h h1 : aH) : Prop := Sh h1 ∧ (h_nx h1 = h_nx h ∧ h_sl h1 = h_sl h ∧ h_sh h1 = h_sh h ∧ h_ln h1 = h_ln h ∧ h_rv h1 = h_rv h) ∧ (∀ o k, ¬ TKc o k → h_iv h1 o k = h_iv h o k) ∧ (∀ o k, o ≠ 419 → h_lv h1 o k = h_lv h o k) ∧ (h_iv h1 412 8 = h_iv h 412 39 ∧ h_iv h1 412 9 = h_iv h 412 41 ∧ h_iv h1 412 10 = h_iv h 412 42 ∧ h_iv h1 412 11 = h_iv h 412 43 ∧ h_iv h1 412 6 = nI 0) ∧ (∀ k, k < 29 → h_lv h1 419 k = h_lv h 437 k) ∧ (∀ o k, cel o k → h_iv h1 o k = h_iv h (nu o) k) ∧ (∀ j, j < 603 → h_iv h1 413 j = rowv h j) ∧ ∀ s, s < 2 → h_iv h1 417 s = nI 0
section
variable {h h0 : aH} {tx : Nat → Nat} {n s : Nat} {M : Nat → Nat → Nat}
theorem y_takes (hS : Sh h) : OK (m_X12_takesText 412 h) (fun _ h1 => TK h h1) := by
  have S1 := hS.si 412 8 (h_iv h 412 39)
  have S2 := S1.si 412 9 (h_iv h 412 41)
  have S3 := S2.si 412 10 (h_iv h 412 42)
  have S4 := S3.si 412 11 (h_iv h 412 43)
  have e1 : h_iv (h_si h 412 8 (h_iv h 412 39)) 412 41 = h_iv h 412 41 := si_ne (by omega)
  have e2 : h_iv (h_si (h_si h 412 8 (h_iv h 412 39)) 412 9 (h_iv h 412 41)) 412 42 = h_iv h 412 42 := by rw [si_ne (by omega), si_ne (by omega)]
  have e3 : h_iv (h_si (h_si (h_si h 412 8 (h_iv h 412 39)) 412 9 (h_iv h 412 41)) 412 10 (h_iv h 412 42)) 412 43 = h_iv h 412 43 := by rw [si_ne (by omega), si_ne (by omega), si_ne (by omega)]
  simp (maxSteps := 3000000) (disch := first | assumption | omega) only [m_X12_takesText, bO_v, bR_v, bX_l, bX_r, bC_l, bC_r, aLet_v, nI_add, pk_mul, dvI_n, rmI_n, iMax_n, iMin_n, zO_0, zO_1, li_0, li_1, li_2, li_3, li_4, li_5, li_6, li_7, li_8, li_9, li_10, li_12, li_14, li_15, li_16, li_18, li_19, li_20, li_22, li_23, li_24, li_26, li_29, li_30, li_31, li_32, li_36, li_38, li_48, li_50, li_57, li_58, li_59, li_60, li_63, li_97, li_99, li_120, li_122, li_144, li_168, li_194, li_240, li_255, li_284, li_299, li_603, li_999, li_1200, li_1440, li_4095, li_4096, li_6030, li_16384, li_20160, zl0, zl1, zl2, zl3, zl4, ze01, ze02, ze03, ze04, ze10, ze12, ze13, ze14, ze20, ze21, ze23, ze24, ze30, ze31, ze32, ze34, ze40, ze41, ze42, ze43, zt0, zt1, zt2, zt3, zt4, zq0, zq1, zq2, zq3, zq4, it_t, it_f, Bool.true_eq_false, Bool.false_eq_true, na5, na4, na1441, na2, na10, sx_IOIA, sx_IOIS, sx_IONS, sx_IAIO, sx_IAIS, sx_IANS, sx_ISIO, sx_ISIA, sx_ISNS, sx_NSIO, sx_NSIA, sx_NSIS, r_cM_gi hS, r_cM_pi hS, r_cM_gi S1, e1, r_cM_pi S1, r_cM_gi S2, e2, r_cM_pi S2, r_cM_gi S3, e3, r_cM_pi S3]
  have F4 : Fx (fun o k => o = 412 ∧ 8 ≤ k ∧ k ≤ 11) h (h_si (h_si (h_si (h_si h 412 8 (h_iv h 412 39)) 412 9 (h_iv h 412 41)) 412 10 (h_iv h 412 42)) 412 11 (h_iv h 412 43)) := (((Fx.si (A := fun o k => o = 412 ∧ 8 ≤ k ∧ k ≤ 11) ⟨rfl, by omega, by omega⟩).trans (Fx.si ⟨rfl, by omega, by omega⟩)).trans (Fx.si ⟨rfl, by omega, by omega⟩)).trans (Fx.si ⟨rfl, by omega, by omega⟩)
  have a8 : h_iv (h_si (h_si (h_si (h_si h 412 8 (h_iv h 412 39)) 412 9 (h_iv h 412 41)) 412 10 (h_iv h 412 42)) 412 11 (h_iv h 412 43)) 412 8 = h_iv h 412 39 := by rw [si_ne (by omega), si_ne (by omega), si_ne (by omega), si_at]
  have a9 : h_iv (h_si (h_si (h_si (h_si h 412 8 (h_iv h 412 39)) 412 9 (h_iv h 412 41)) 412 10 (h_iv h 412 42)) 412 11 (h_iv h 412 43)) 412 9 = h_iv h 412 41 := by rw [si_ne (by omega), si_ne (by omega), si_at]
  have a10 : h_iv (h_si (h_si (h_si (h_si h 412 8 (h_iv h 412 39)) 412 9 (h_iv h 412 41)) 412 10 (h_iv h 412 42)) 412 11 (h_iv h 412 43)) 412 10 = h_iv h 412 42 := by rw [si_ne (by omega), si_at]
  have a11 : h_iv (h_si (h_si (h_si (h_si h 412 8 (h_iv h 412 39)) 412 9 (h_iv h 412 41)) 412 10 (h_iv h 412 42)) 412 11 (h_iv h 412 43)) 412 11 = h_iv h 412 43 := si_at
  generalize h_si (h_si (h_si (h_si h 412 8 (h_iv h 412 39)) 412 9 (h_iv h 412 41)) 412 10 (h_iv h 412 42)) 412 11 (h_iv h 412 43) = g4 at *
  generalize hK : (fun (_ : Unit) (h1 : aH) => TK h h1) = K
  refine aJ_gen (R := fun o => OK o K) (fun k58 hk58 => ?_)
  refine t_L34 S4 (fun o => OK o K) (fun g5 S5 q5 f5 => ?_)
  rw [hk58]; dsimp only
  refine aJ_gen (R := fun o => OK o K) (fun k83 hk83 => ?_)
  refine t_L60 S5 (fun o => OK o K) (fun g6 F6 f6 => ?_)
  have S6 := F6.sh S5
  rw [hk83]; dsimp only
  refine aJ_gen (R := fun o => OK o K) (fun k121 hk121 => ?_)
  refine t_L85 S6 (fun o => OK o K) (fun g7 F7 f7 => ?_)
  have S7 := F7.sh S6
  rw [hk121]; dsimp only
  refine aJ_gen (R := fun o => OK o K) (fun k143 hk143 => ?_)
  refine t_L123 S7 (fun o => OK o K) (fun g8 F8 f8 => ?_)
  have S8 := F8.sh S7
  rw [hk143]; dsimp only
  refine aJ_gen (R := fun o => OK o K) (fun k173 hk173 => ?_)
  refine t_L145 S8 (fun o => OK o K) (fun g9 F9 f9 => ?_)
  have S9 := F9.sh S8
  rw [hk173]; dsimp only
  refine aJ_gen (R := fun o => OK o K) (fun k323 hk323 => ?_)
  refine t_L175 S9 (fun o => OK o K) (fun g10 F10 f10 => ?_)
  have S10 := F10.sh S9
  rw [hk323]; dsimp only
  refine aJ_gen (R := fun o => OK o K) (fun k360 hk360 => ?_)
  refine t_L325 S10 (fun o => OK o K) (fun g11 F11 f11 => ?_)
  have S11 := F11.sh S10
  rw [hk360]; dsimp only
  refine aJ_gen (R := fun o => OK o K) (fun k386 hk386 => ?_)
  refine t_L362 S11 (fun o => OK o K) (fun g12 F12 f12 => ?_)
  have S12 := F12.sh S11
  rw [hk386]; dsimp only
  refine aJ_gen (R := fun o => OK o K) (fun k438 hk438 => ?_)
  refine t_L388 S12 (fun o => OK o K) (fun g13 F13 f13 => ?_)
  have S13 := F13.sh S12
  rw [hk438]
  have S14 := S13.si 412 6 (nI 0)
  have w15 : asz (h_si g13 412 6 (nI 0)) 417 (nI 0) (nI 0) = some (h_si (h_si g13 412 6 (nI 0)) 417 0 (nI 0)) := r_c417_as S14 (by omega) (Or.inl rfl)
  have S15 := S14.si 417 0 (nI 0)
  have w16 : asz (h_si (h_si g13 412 6 (nI 0)) 417 0 (nI 0)) 417 (nI 1) (nI 0) = some (h_si (h_si (h_si g13 412 6 (nI 0)) 417 0 (nI 0)) 417 1 (nI 0)) := r_c417_as S15 (by omega) (Or.inl rfl)
  simp (maxSteps := 3000000) (disch := first | assumption | omega) only [bO_v, bR_v, bX_l, bX_r, bC_l, bC_r, aLet_v, nI_add, pk_mul, dvI_n, rmI_n, iMax_n, iMin_n, zO_0, zO_1, li_0, li_1, li_2, li_3, li_4, li_5, li_6, li_7, li_8, li_9, li_10, li_12, li_14, li_15, li_16, li_18, li_19, li_20, li_22, li_23, li_24, li_26, li_29, li_30, li_31, li_32, li_36, li_38, li_48, li_50, li_57, li_58, li_59, li_60, li_63, li_97, li_99, li_120, li_122, li_144, li_168, li_194, li_240, li_255, li_284, li_299, li_603, li_999, li_1200, li_1440, li_4095, li_4096, li_6030, li_16384, li_20160, zl0, zl1, zl2, zl3, zl4, ze01, ze02, ze03, ze04, ze10, ze12, ze13, ze14, ze20, ze21, ze23, ze24, ze30, ze31, ze32, ze34, ze40, ze41, ze42, ze43, zt0, zt1, zt2, zt3, zt4, zq0, zq1, zq2, zq3, zq4, it_t, it_f, Bool.true_eq_false, Bool.false_eq_true, na5, na4, na1441, na2, na10, sx_IOIA, sx_IOIS, sx_IONS, sx_IAIO, sx_IAIS, sx_IANS, sx_ISIO, sx_ISIA, sx_ISNS, sx_NSIO, sx_NSIA, sx_NSIS, r_cM_pi S13, r_p417 S14, w15, r_p417 S15, w16]
  have F16 : Fx (fun o k => (o = 412 ∧ k = 6) ∨ (o = 417 ∧ k < 2)) g13 (h_si (h_si (h_si g13 412 6 (nI 0)) 417 0 (nI 0)) 417 1 (nI 0)) := ((Fx.si (A := fun o k => (o = 412 ∧ k = 6) ∨ (o = 417 ∧ k < 2)) (Or.inl ⟨rfl, rfl⟩)).trans (Fx.si (Or.inr ⟨rfl, by omega⟩))).trans (Fx.si (Or.inr ⟨rfl, by omega⟩))
  have b6 : h_iv (h_si (h_si (h_si g13 412 6 (nI 0)) 417 0 (nI 0)) 417 1 (nI 0)) 412 6 = nI 0 := by rw [si_ne (by omega), si_ne (by omega), si_at]
  have b0 : h_iv (h_si (h_si (h_si g13 412 6 (nI 0)) 417 0 (nI 0)) 417 1 (nI 0)) 417 0 = nI 0 := by rw [si_ne (by omega), si_at]
  have b1 : h_iv (h_si (h_si (h_si g13 412 6 (nI 0)) 417 0 (nI 0)) 417 1 (nI 0)) 417 1 = nI 0 := si_at
  generalize h_si (h_si (h_si g13 412 6 (nI 0)) 417 0 (nI 0)) 417 1 (nI 0) = g16 at *
  have S16 := F16.sh S13
  rw [← hK]
  obtain ⟨q51, q52, q53, q54, q55, q56, q57⟩ := q5
  -- frames
  have v5 : ∀ o j, ¬ (o = 412 ∧ 8 ≤ j ∧ j ≤ 11) → h_iv g5 o j = h_iv h o j := fun o j q => by rw [q56]; exact F4.iv q
  have s5 : ∀ o j, 436 ≤ o → h_iv g5 o j = h_iv h o j := fun o j q => v5 o j (by omega)
  have s6 : ∀ o j, 436 ≤ o → h_iv g6 o j = h_iv h o j := fun o j q => by rw [F6.iv (by omega)]; exact s5 o j q
  have s7 : ∀ o j, 436 ≤ o → h_iv g7 o j = h_iv h o j := fun o j q => by rw [F7.iv (by omega)]; exact s6 o j q
  have s8 : ∀ o j, 436 ≤ o → h_iv g8 o j = h_iv h o j := fun o j q => by rw [F8.iv (by omega)]; exact s7 o j q
  have s9 : ∀ o j, 436 ≤ o → h_iv g9 o j = h_iv h o j := fun o j q => by rw [F9.iv (by omega)]; exact s8 o j q
  have s10 : ∀ o j, 436 ≤ o → h_iv g10 o j = h_iv h o j := fun o j q => by rw [F10.iv (by omega)]; exact s9 o j q
  have s11 : ∀ o j, 436 ≤ o → h_iv g11 o j = h_iv h o j := fun o j q => by rw [F11.iv (by omega)]; exact s10 o j q
  have s12 : ∀ o j, 436 ≤ o → h_iv g12 o j = h_iv h o j := fun o j q => by rw [F12.iv (by omega)]; exact s11 o j q
  -- from each step to the end
  have t13 : ∀ o j, o ≠ 412 → o ≠ 417 → h_iv g16 o j = h_iv g13 o j := fun o j q1 q2 => F16.iv (by omega)
  have t12 : ∀ o j, o ≠ 412 → o ≠ 417 → o ≠ 427 → o ≠ 434 → h_iv g16 o j = h_iv g12 o j := fun o j q1 q2 q3 q4 => by rw [t13 o j q1 q2, F13.iv (by omega)]
  have t11 : ∀ o j, o ≠ 412 → o ≠ 417 → o ≠ 427 → o ≠ 434 → o ≠ 432 → h_iv g16 o j = h_iv g11 o j := fun o j q1 q2 q3 q4 q5 => by rw [t12 o j q1 q2 q3 q4, F12.iv (by omega)]
  have t10 : ∀ o j, o ≠ 412 → o ≠ 417 → o ≠ 427 → o ≠ 434 → o ≠ 432 → o ≠ 425 → o ≠ 426 → h_iv g16 o j = h_iv g10 o j := fun o j q1 q2 q3 q4 q5 q6 q7 => by rw [t11 o j q1 q2 q3 q4 q5, F11.iv (by omega)]
  have t9 : ∀ o j, o < 422 → o ≠ 412 → o ≠ 417 → o ≠ 413 → h_iv g16 o j = h_iv g7 o j := fun o j q1 q2 q3 q4 => by rw [t10 o j q2 q3 (by omega) (by omega) (by omega) (by omega) (by omega), F10.iv (by omega), F9.iv (by omega), F8.iv (by omega)]
  have r10 : ∀ j, h_iv g16 413 j = h_iv g10 413 j := fun j => t10 413 j (by omega) (by omega) (by omega) (by omega) (by omega) (by omega) (by omega)
  refine ok_ret ⟨S16, ⟨?_, ?_, ?_, ?_, ?_⟩, fun o k q => ?_, fun o k q => ?_, ⟨?_, ?_, ?_, ?_, b6⟩, fun k hk => ?_, fun o k q => ?_, fun j hj => ?_, fun s hs => ?_⟩
  · rw [F16.1, F13.1, F12.1, F11.1, F10.1, F9.1, F8.1, F7.1, F6.1, q51]; exact F4.1
  · rw [F16.2.1, F13.2.1, F12.2.1, F11.2.1, F10.2.1, F9.2.1, F8.2.1, F7.2.1, F6.2.1, q52]; exact F4.2.1
  · rw [F16.2.2.1, F13.2.2.1, F12.2.2.1, F11.2.2.1, F10.2.2.1, F9.2.2.1, F8.2.2.1, F7.2.2.1, F6.2.2.1, q53]; exact F4.2.2.1
  · rw [F16.2.2.2.1, F13.2.2.2.1, F12.2.2.2.1, F11.2.2.2.1, F10.2.2.2.1, F9.2.2.2.1, F8.2.2.2.1, F7.2.2.2.1, F6.2.2.2.1, q54]; exact F4.2.2.2.1
  · rw [F16.2.2.2.2.1, F13.2.2.2.2.1, F12.2.2.2.2.1, F11.2.2.2.2.1, F10.2.2.2.2.1, F9.2.2.2.2.1, F8.2.2.2.2.1, F7.2.2.2.2.1, F6.2.2.2.2.1, q55]; exact F4.2.2.2.2.1
  · unfold TKc cel at q
    rw [F16.iv (by omega), F13.iv (by omega), F12.iv (by omega), F11.iv (by omega), F10.iv (by omega), F9.iv (by omega), F8.iv (by omega), F7.iv (by omega), F6.iv (by omega)]
    exact v5 o k (by omega)
  · rw [F16.2.2.2.2.2.1, F13.2.2.2.2.2.1, F12.2.2.2.2.2.1, F11.2.2.2.2.2.1, F10.2.2.2.2.2.1, F9.2.2.2.2.2.1, F8.2.2.2.2.2.1, F7.2.2.2.2.2.1, F6.2.2.2.2.2.1, q57 o k q, F4.2.2.2.2.2.1]
  · rw [F16.iv (by omega), F13.iv (by omega), F12.iv (by omega), F11.iv (by omega), F10.iv (by omega), F9.iv (by omega), F8.iv (by omega), F7.iv (by omega), F6.iv (by omega), q56]; exact a8
  · rw [F16.iv (by omega), F13.iv (by omega), F12.iv (by omega), F11.iv (by omega), F10.iv (by omega), F9.iv (by omega), F8.iv (by omega), F7.iv (by omega), F6.iv (by omega), q56]; exact a9
  · rw [F16.iv (by omega), F13.iv (by omega), F12.iv (by omega), F11.iv (by omega), F10.iv (by omega), F9.iv (by omega), F8.iv (by omega), F7.iv (by omega), F6.iv (by omega), q56]; exact a10
  · rw [F16.iv (by omega), F13.iv (by omega), F12.iv (by omega), F11.iv (by omega), F10.iv (by omega), F9.iv (by omega), F8.iv (by omega), F7.iv (by omega), F6.iv (by omega), q56]; exact a11
  · rw [F16.2.2.2.2.2.1, F13.2.2.2.2.2.1, F12.2.2.2.2.2.1, F11.2.2.2.2.2.1, F10.2.2.2.2.2.1, F9.2.2.2.2.2.1, F8.2.2.2.2.2.1, F7.2.2.2.2.2.1, F6.2.2.2.2.2.1, f5 k hk, F4.2.2.2.2.2.1]
  · rcases q with ⟨rfl, k9⟩ | ⟨c, k9⟩ | ⟨c, k9⟩ | ⟨c, k9⟩ | ⟨c, k9⟩ | ⟨rfl, k9⟩
    · rw [t9 _ _ (by omega) (by omega) (by omega) (by omega), F7.iv (by omega)]
      exact (f6 k k9).trans (s5 _ _ (by omega))
    · rcases c with rfl | rfl <;> rw [t9 _ _ (by omega) (by omega) (by omega) (by omega)]
      · exact (f7 k k9).1.trans (s6 _ _ (by omega))
      · exact (f7 k k9).2.trans (s6 _ _ (by omega))
    · have f := f10 k k9
      rcases c with rfl | rfl | rfl | rfl | rfl | rfl | rfl | rfl <;> rw [t10 _ _ (by omega) (by omega) (by omega) (by omega) (by omega) (by omega) (by omega)]
      · exact f.1.trans (s9 _ _ (by omega))
      · exact f.2.1.trans (s9 _ _ (by omega))
      · exact f.2.2.1.trans (s9 _ _ (by omega))
      · exact f.2.2.2.1.trans (s9 _ _ (by omega))
      · exact f.2.2.2.2.1.trans (s9 _ _ (by omega))
      · exact f.2.2.2.2.2.1.trans (s9 _ _ (by omega))
      · exact f.2.2.2.2.2.2.1.trans (s9 _ _ (by omega))
      · exact f.2.2.2.2.2.2.2.1.trans (s9 _ _ (by omega))
    · rcases c with rfl | rfl <;> rw [t11 _ _ (by omega) (by omega) (by omega) (by omega) (by omega)]
      · exact (f11 k k9).1.trans (s10 _ _ (by omega))
      · exact (f11 k k9).2.trans (s10 _ _ (by omega))
    · rcases c with rfl | rfl <;> rw [t13 _ _ (by omega) (by omega)]
      · exact (f13 k k9).1.trans (s12 _ _ (by omega))
      · exact (f13 k k9).2.trans (s12 _ _ (by omega))
    · rw [t12 _ _ (by omega) (by omega) (by omega) (by omega)]
      exact (f12 k k9).trans (s11 _ _ (by omega))
  · rw [r10]
    unfold rowv
    by_cases c1 : 50 ≤ j ∧ j < 194
    · rw [if_pos c1, F10.iv (by omega)]
      have := f9 (j - 50) (by omega)
      rw [show 50 + (j - 50) = j by omega] at this
      exact this.trans (s8 _ _ (by omega))
    · rw [if_neg c1]
      by_cases c2 : 194 ≤ j ∧ j < 284 ∧ (j - 194) % 15 < 8
      · rw [if_pos c2]
        have := (f10 ((j - 194) / 15) (by omega)).2.2.2.2.2.2.2.2 ((j - 194) % 15) c2.2.2
        rw [show 194 + 15 * ((j - 194) / 15) + (j - 194) % 15 = j by omega] at this
        exact this.trans (s9 _ _ (by omega))
      · rw [if_neg c2, F10.iv (by omega), F9.iv (by omega)]
        exact f8 j hj
  · rcases (show s = 0 ∨ s = 1 by omega) with r | r <;> subst r
    · exact b0
    · exact b1
end
