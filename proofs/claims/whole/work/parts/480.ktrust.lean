/-! the class's reader: a trust -/
section
variable {h h0 : aH} {tx : Nat → Nat} {n Q s : Nat} {M : Nat → Nat → Nat}
theorem k_trust (X : TX tx n h0) (hQ : Q ∈ plL) (C : CS tx n Q h0 h s) (p : PQ tx n Q M h) (w : WM M) (hs : s < n) : CP Q h0 (m_X9_readsTrust 3 h) (sTrust tx n M s) (fun r h1 => CS tx n Q h0 h1 r.2 ∧ PQ tx n Q r.1 h1) := by
  have q := pl_in Q hQ
  obtain ⟨hD, w2, w3, w4, w5, w6⟩ := w
  have d0 := hD.nP
  have d1 := hD.nG
  have d2 := hD.nE
  have d3 := hD.nK
  have S0 := C.1
  simp (maxSteps := 3000000) (disch := first | assumption | omega) only [m_X9_readsTrust, bO_v, bR_v, bX_l, bX_r, bC_l, bC_r, aLet_v, nI_add, pk_mul, dvI_n, rmI_n, iMax_n, iMin_n, zO_0, zO_1, li_0, li_1, li_2, li_3, li_4, li_5, li_6, li_7, li_8, li_9, li_10, li_12, li_14, li_15, li_16, li_18, li_19, li_20, li_22, li_23, li_24, li_26, li_29, li_30, li_31, li_32, li_36, li_38, li_48, li_50, li_57, li_58, li_59, li_60, li_63, li_97, li_99, li_120, li_122, li_144, li_168, li_194, li_240, li_255, li_284, li_299, li_603, li_999, li_1200, li_1440, li_4095, li_4096, li_6030, li_16384, li_20160, zl0, zl1, zl2, zl3, zl4, ze01, ze02, ze03, ze04, ze10, ze12, ze13, ze14, ze20, ze21, ze23, ze24, ze30, ze31, ze32, ze34, ze40, ze41, ze42, ze43, zt0, zt1, zt2, zt3, zt4, zq0, zq1, zq2, zq3, zq4, it_t, it_f, Bool.true_eq_false, Bool.false_eq_true, na5, na4, na1441, na2, na10, sx_IOIA, sx_IOIS, sx_IONS, sx_IAIO, sx_IAIS, sx_IANS, sx_ISIO, sx_ISIA, sx_ISNS, sx_NSIO, sx_NSIA, sx_NSIS, C.g2 hQ, p_cP_gi S0 hQ, p.2.2.1, nI_ltI, c_cR_gS S0]
  unfold sTrust
  by_cases c24 : 24 ≤ M 412 40
  · rw [if_neg (by omega), if_pos c24]
    obtain ⟨h1, e1, q1, -⟩ := k_fails C (c := 5)
    simp (maxSteps := 3000000) (disch := first | assumption | omega) only [e1, bO_v, bR_v, bX_l, bX_r, bC_l, bC_r, aLet_v, nI_add, pk_mul, dvI_n, rmI_n, iMax_n, iMin_n, zO_0, zO_1, li_0, li_1, li_2, li_3, li_4, li_5, li_6, li_7, li_8, li_9, li_10, li_12, li_14, li_15, li_16, li_18, li_19, li_20, li_22, li_23, li_24, li_26, li_29, li_30, li_31, li_32, li_36, li_38, li_48, li_50, li_57, li_58, li_59, li_60, li_63, li_97, li_99, li_120, li_122, li_144, li_168, li_194, li_240, li_255, li_284, li_299, li_603, li_999, li_1200, li_1440, li_4095, li_4096, li_6030, li_16384, li_20160, zl0, zl1, zl2, zl3, zl4, ze01, ze02, ze03, ze04, ze10, ze12, ze13, ze14, ze20, ze21, ze23, ze24, ze30, ze31, ze32, ze34, ze40, ze41, ze42, ze43, zt0, zt1, zt2, zt3, zt4, zq0, zq1, zq2, zq3, zq4, it_t, it_f, Bool.true_eq_false, Bool.false_eq_true, na5, na4, na1441, na2, na10, sx_IOIA, sx_IOIS, sx_IONS, sx_IAIO, sx_IAIS, sx_IANS, sx_ISIO, sx_ISIA, sx_ISNS, sx_NSIO, sx_NSIA, sx_NSIS]
    exact cp_inl rfl q1
  · rw [if_pos (by omega), if_neg c24]
    obtain ⟨_, h1, e1, C1, R1, -⟩ := k_takeC X hQ C hs
    have S1 := C1.1
    have p1 := p.rf R1 hD hQ
    simp (maxSteps := 3000000) (disch := first | assumption | omega) only [e1, bO_v, bR_v, bX_l, bX_r, bC_l, bC_r, aLet_v, nI_add, pk_mul, dvI_n, rmI_n, iMax_n, iMin_n, zO_0, zO_1, li_0, li_1, li_2, li_3, li_4, li_5, li_6, li_7, li_8, li_9, li_10, li_12, li_14, li_15, li_16, li_18, li_19, li_20, li_22, li_23, li_24, li_26, li_29, li_30, li_31, li_32, li_36, li_38, li_48, li_50, li_57, li_58, li_59, li_60, li_63, li_97, li_99, li_120, li_122, li_144, li_168, li_194, li_240, li_255, li_284, li_299, li_603, li_999, li_1200, li_1440, li_4095, li_4096, li_6030, li_16384, li_20160, zl0, zl1, zl2, zl3, zl4, ze01, ze02, ze03, ze04, ze10, ze12, ze13, ze14, ze20, ze21, ze23, ze24, ze30, ze31, ze32, ze34, ze40, ze41, ze42, ze43, zt0, zt1, zt2, zt3, zt4, zq0, zq1, zq2, zq3, zq4, it_t, it_f, Bool.true_eq_false, Bool.false_eq_true, na5, na4, na1441, na2, na10, sx_IOIA, sx_IOIS, sx_IONS, sx_IAIO, sx_IAIS, sx_IANS, sx_ISIO, sx_ISIA, sx_ISNS, sx_NSIO, sx_NSIA, sx_NSIS, c_cR_gS S1]
    refine sb_cp (k_nameOf X hQ C1 p1 hD (so := 0) (by omega)) (fun a h2 ea hh => ?_)
    obtain ⟨C2, R2, g7, -, ha⟩ := hh
    change a.1 < M 412 8 at ha
    have p2 := p1.rf R2 hD hQ
    simp (maxSteps := 3000000) (disch := first | assumption | omega) only [c_cR_gi C2.1, g7, bO_v, bR_v, bX_l, bX_r, bC_l, bC_r, aLet_v, nI_add, pk_mul, dvI_n, rmI_n, iMax_n, iMin_n, zO_0, zO_1, li_0, li_1, li_2, li_3, li_4, li_5, li_6, li_7, li_8, li_9, li_10, li_12, li_14, li_15, li_16, li_18, li_19, li_20, li_22, li_23, li_24, li_26, li_29, li_30, li_31, li_32, li_36, li_38, li_48, li_50, li_57, li_58, li_59, li_60, li_63, li_97, li_99, li_120, li_122, li_144, li_168, li_194, li_240, li_255, li_284, li_299, li_603, li_999, li_1200, li_1440, li_4095, li_4096, li_6030, li_16384, li_20160, zl0, zl1, zl2, zl3, zl4, ze01, ze02, ze03, ze04, ze10, ze12, ze13, ze14, ze20, ze21, ze23, ze24, ze30, ze31, ze32, ze34, ze40, ze41, ze42, ze43, zt0, zt1, zt2, zt3, zt4, zq0, zq1, zq2, zq3, zq4, it_t, it_f, Bool.true_eq_false, Bool.false_eq_true, na5, na4, na1441, na2, na10, sx_IOIA, sx_IOIS, sx_IONS, sx_IAIO, sx_IAIS, sx_IANS, sx_ISIO, sx_ISIA, sx_ISNS, sx_NSIO, sx_NSIA, sx_NSIS, c_cR_gS C2.1]
    refine sb_cp (k_nameOf X hQ C2 p2 hD (so := 0) (by omega)) (fun b h3 eb hh => ?_)
    obtain ⟨C3, R3, g73, g63, hb⟩ := hh
    change b.1 < M 412 8 at hb
    have S3 := C3.1
    have p3 := p2.rf R3 hD hQ
    have tr := p3.2.2.2.1 (12 * a.1 + b.1) (by omega)
    rw [show 12 * a.1 + b.1 = a.1 * 12 + b.1 by omega] at tr
    simp (maxSteps := 3000000) (disch := first | assumption | omega) only [c_cR_gi S3, g73, g63, bO_v, bR_v, bX_l, bX_r, bC_l, bC_r, aLet_v, nI_add, pk_mul, dvI_n, rmI_n, iMax_n, iMin_n, zO_0, zO_1, li_0, li_1, li_2, li_3, li_4, li_5, li_6, li_7, li_8, li_9, li_10, li_12, li_14, li_15, li_16, li_18, li_19, li_20, li_22, li_23, li_24, li_26, li_29, li_30, li_31, li_32, li_36, li_38, li_48, li_50, li_57, li_58, li_59, li_60, li_63, li_97, li_99, li_120, li_122, li_144, li_168, li_194, li_240, li_255, li_284, li_299, li_603, li_999, li_1200, li_1440, li_4095, li_4096, li_6030, li_16384, li_20160, zl0, zl1, zl2, zl3, zl4, ze01, ze02, ze03, ze04, ze10, ze12, ze13, ze14, ze20, ze21, ze23, ze24, ze30, ze31, ze32, ze34, ze40, ze41, ze42, ze43, zt0, zt1, zt2, zt3, zt4, zq0, zq1, zq2, zq3, zq4, it_t, it_f, Bool.true_eq_false, Bool.false_eq_true, na5, na4, na1441, na2, na10, sx_IOIA, sx_IOIS, sx_IONS, sx_IAIO, sx_IAIS, sx_IANS, sx_ISIO, sx_ISIA, sx_ISNS, sx_NSIO, sx_NSIA, sx_NSIS, c_cR_gS S3, nI_eq, C3.g2 hQ, p_ptr S3 hQ, k_pair, p_ctr_al S3 hQ, tr]
    by_cases cab : a.1 = b.1
    · rw [if_pos cab, if_pos cab]
      obtain ⟨h4, e4, q4, -⟩ := k_failsAt (c := 6) (p := a.2) S3 C3.2.1
      simp (maxSteps := 3000000) (disch := first | assumption | omega) only [e4, bO_v, bR_v, bX_l, bX_r, bC_l, bC_r, aLet_v, nI_add, pk_mul, dvI_n, rmI_n, iMax_n, iMin_n, zO_0, zO_1, li_0, li_1, li_2, li_3, li_4, li_5, li_6, li_7, li_8, li_9, li_10, li_12, li_14, li_15, li_16, li_18, li_19, li_20, li_22, li_23, li_24, li_26, li_29, li_30, li_31, li_32, li_36, li_38, li_48, li_50, li_57, li_58, li_59, li_60, li_63, li_97, li_99, li_120, li_122, li_144, li_168, li_194, li_240, li_255, li_284, li_299, li_603, li_999, li_1200, li_1440, li_4095, li_4096, li_6030, li_16384, li_20160, zl0, zl1, zl2, zl3, zl4, ze01, ze02, ze03, ze04, ze10, ze12, ze13, ze14, ze20, ze21, ze23, ze24, ze30, ze31, ze32, ze34, ze40, ze41, ze42, ze43, zt0, zt1, zt2, zt3, zt4, zq0, zq1, zq2, zq3, zq4, it_t, it_f, Bool.true_eq_false, Bool.false_eq_true, na5, na4, na1441, na2, na10, sx_IOIA, sx_IOIS, sx_IONS, sx_IAIO, sx_IAIS, sx_IANS, sx_ISIO, sx_ISIA, sx_ISNS, sx_NSIO, sx_NSIA, sx_NSIS]
      exact cp_inl rfl q4
    · rw [if_neg cab, if_neg cab]
      rw [show 12 * a.1 + b.1 = a.1 * 12 + b.1 by omega]
      by_cases cf : M 441 (a.1 * 12 + b.1) = 0
      · rw [if_pos cf, if_pos rfl, if_neg (fun q => q cf)]
        refine sb_cp (k_number X hQ C3 (by omega) (by omega)) (fun v h4 ev hh => ?_)
        obtain ⟨C4, R4, g74, -⟩ := hh
        obtain ⟨-, -, v3, -⟩ := sNum_inr ev
        have S4 := C4.1
        have p4 := p3.rf R4 hD hQ
        have S5 : Sh (h_si h4 (Q + 3) (a.1 * 12 + b.1) (nI v.1)) := S4.si _ _ _
        have F5 : Fx (fun o k => o = Q + 3 ∨ (o = Q ∧ k = 3)) h4 (h_si h4 (Q + 3) (a.1 * 12 + b.1) (nI v.1)) := Fx.si (Or.inl rfl)
        have C5 := C4.qx hQ F5 (fun o k r => by omega)
        have g3 : h_iv (h_si h4 (Q + 3) (a.1 * 12 + b.1) (nI v.1)) Q 3 = nI (M 412 40) := by rw [si_ne (by omega)]; exact p4.2.2.1
        simp (maxSteps := 3000000) (disch := first | assumption | omega) only [C4.g2 hQ, p_ptr S4 hQ, k_pair, c_cR_gi S4, g74, p_ctr_as S4 hQ, C5.g2 hQ, p_cP_gi S5 hQ, g3, p_cP_pi S5 hQ, bO_v, bR_v, bX_l, bX_r, bC_l, bC_r, aLet_v, nI_add, pk_mul, dvI_n, rmI_n, iMax_n, iMin_n, zO_0, zO_1, li_0, li_1, li_2, li_3, li_4, li_5, li_6, li_7, li_8, li_9, li_10, li_12, li_14, li_15, li_16, li_18, li_19, li_20, li_22, li_23, li_24, li_26, li_29, li_30, li_31, li_32, li_36, li_38, li_48, li_50, li_57, li_58, li_59, li_60, li_63, li_97, li_99, li_120, li_122, li_144, li_168, li_194, li_240, li_255, li_284, li_299, li_603, li_999, li_1200, li_1440, li_4095, li_4096, li_6030, li_16384, li_20160, zl0, zl1, zl2, zl3, zl4, ze01, ze02, ze03, ze04, ze10, ze12, ze13, ze14, ze20, ze21, ze23, ze24, ze30, ze31, ze32, ze34, ze40, ze41, ze42, ze43, zt0, zt1, zt2, zt3, zt4, zq0, zq1, zq2, zq3, zq4, it_t, it_f, Bool.true_eq_false, Bool.false_eq_true, na5, na4, na1441, na2, na10, sx_IOIA, sx_IOIS, sx_IONS, sx_IAIO, sx_IAIS, sx_IANS, sx_ISIO, sx_ISIA, sx_ISNS, sx_NSIO, sx_NSIA, sx_NSIS]
        have F6 : Fx (fun o k => o = Q + 3 ∨ (o = Q ∧ k = 3)) h4 (h_si (h_si h4 (Q + 3) (a.1 * 12 + b.1) (nI v.1)) Q 3 (nI (M 412 40 + 1))) := F5.trans (Fx.si (Or.inr ⟨rfl, rfl⟩))
        have C6 := C4.qx hQ F6 (fun o k r => by omega)
        suffices pq : PQ tx n Q (put (put (put M 441 (a.1 * 12 + b.1) 1) 440 (a.1 * 12 + b.1) v.1) 412 40 (M 412 40 + 1)) (h_si (h_si h4 (Q + 3) (a.1 * 12 + b.1) (nI v.1)) Q 3 (nI (M 412 40 + 1))) from cp_inr (a := (_, v.2)) rfl ⟨C6, pq⟩
        have e9 : ∀ o k, 418 ≤ o → o < 435 → put (put (put M 441 (a.1 * 12 + b.1) 1) 440 (a.1 * 12 + b.1) v.1) 412 40 (M 412 40 + 1) o k = M o k := fun o k q1 q2 => by rw [put_n (by omega), put_n (by omega), put_n (by omega)]
        have e8 : ∀ k, k < 12 → put (put (put M 441 (a.1 * 12 + b.1) 1) 440 (a.1 * 12 + b.1) v.1) 412 40 (M 412 40 + 1) 412 k = M 412 k := fun k q1 => by rw [put_n (by omega), put_n (by omega), put_n (by omega)]
        have pe : Pe M (put (put (put M 441 (a.1 * 12 + b.1) 1) 440 (a.1 * 12 + b.1) v.1) 412 40 (M 412 40 + 1)) := ⟨e8 8 (by omega), e8 9 (by omega), e8 10 (by omega), e8 11 (by omega), fun o q1 q2 => funext fun k => e9 o k q1 q2⟩
        obtain ⟨y1, y2, y3, y4, y5⟩ := p4
        refine ⟨pe.plr ?_, fun so hso i hi => ?_, ?_, fun k hk => ?_, fun g hg j hj => ?_⟩
        · refine ⟨fun j hj => ?_, ?_, ?_, ?_, ?_, fun u hu => ?_, fun u hu => ?_, fun u hu => ?_, fun u hu => ?_, fun u hu => ?_, fun u hu => ?_, fun u hu => ?_, fun u hu v hv => ?_, fun u hu v hv => ?_, fun u hu => ?_, fun u hu => ?_, fun u hu => ?_, fun u hu => ?_, fun u hu v hv => ?_, fun u hu => ?_, fun u hu v hv => ?_, fun k hk => ?_⟩ <;> rw [F6.iv (by omega)]
          · exact y1.ni j hj
          · exact y1.nP
          · exact y1.nG
          · exact y1.nE
          · exact y1.nK
          · exact y1.trv u hu
          · exact y1.skl u hu
          · exact y1.dem u hu
          · exact y1.trn u hu
          · exact y1.plc u hu
          · exact y1.drv u hu
          · exact y1.pst u hu
          · exact y1.psk u hu v hv
          · exact y1.dmd u hu v hv
          · exact y1.dur u hu
          · exact y1.pat u hu
          · exact y1.ned u hu
          · exact y1.kgn u hu
          · exact y1.kg u hu v hv
          · exact y1.ken u hu
          · exact y1.ke u hu v hv
          · exact y1.able k hk
        · rw [pe.nm so] at hi
          have := y2 so hso i hi
          rw [e9 419 _ (by omega) (by omega)]
          exact this
        · rw [si_at, put_e]
        · rw [si_ne (by omega)]
          by_cases c : k = a.1 * 12 + b.1
          · rw [c, si_at, put_n (by omega), put_n (by omega), put_e, if_neg (by omega), put_n (by omega), put_e]
          · rw [si_ne (by omega), put_n (by omega), put_n (by omega), put_n (by omega), put_n (by omega), put_n (by omega), put_n (by omega)]; exact y4 k hk
        · rw [e8 9 (by omega)] at hg
          rw [e9 424 _ (by omega) (by omega)] at hj
          rw [F6.iv (by omega), put_n (by omega), put_n (by omega), put_n (by omega)]; exact y5 g hg j hj
      · have m9 := w3 (a.1 * 12 + b.1)
        have ne : ¬ nI (M 440 (a.1 * 12 + b.1)) = -nI 1 := fun q => by
          have h9 := congrArg Int32.toInt q
          rw [nI_toInt (by omega)] at h9
          have h10 : (-nI 1).toInt = -1 := by decide
          omega
        rw [if_neg cf, if_neg ne, if_pos cf]
        obtain ⟨h4, e4, q4, -⟩ := k_failsAt (c := 3) (p := a.2) S3 C3.2.1
        simp (maxSteps := 3000000) (disch := first | assumption | omega) only [e4, bO_v, bR_v, bX_l, bX_r, bC_l, bC_r, aLet_v, nI_add, pk_mul, dvI_n, rmI_n, iMax_n, iMin_n, zO_0, zO_1, li_0, li_1, li_2, li_3, li_4, li_5, li_6, li_7, li_8, li_9, li_10, li_12, li_14, li_15, li_16, li_18, li_19, li_20, li_22, li_23, li_24, li_26, li_29, li_30, li_31, li_32, li_36, li_38, li_48, li_50, li_57, li_58, li_59, li_60, li_63, li_97, li_99, li_120, li_122, li_144, li_168, li_194, li_240, li_255, li_284, li_299, li_603, li_999, li_1200, li_1440, li_4095, li_4096, li_6030, li_16384, li_20160, zl0, zl1, zl2, zl3, zl4, ze01, ze02, ze03, ze04, ze10, ze12, ze13, ze14, ze20, ze21, ze23, ze24, ze30, ze31, ze32, ze34, ze40, ze41, ze42, ze43, zt0, zt1, zt2, zt3, zt4, zq0, zq1, zq2, zq3, zq4, it_t, it_f, Bool.true_eq_false, Bool.false_eq_true, na5, na4, na1441, na2, na10, sx_IOIA, sx_IOIS, sx_IONS, sx_IAIO, sx_IAIS, sx_IANS, sx_ISIO, sx_ISIA, sx_ISNS, sx_NSIO, sx_NSIA, sx_NSIS]
        exact cp_inl rfl q4
end
