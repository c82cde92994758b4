/-! a call comes -/
section
variable {h : aH} {T : Nat → Nat → Nat} {P Q : Nat}
theorem IC.mu (I : IC h T P Q) {h1 : aH} (F : MuF h h1) : IC h1 T P Q := by
  have S1 := F.sh I.sh
  obtain ⟨x1, x2, x3, x4, x5, x6, x7⟩ := F
  obtain ⟨a1, a2, a3, a4, a6, a7, a8, a9, a10, a11, a12, a13, a14, a15⟩ := I
  have pin : 4 ≤ P ∧ P + 65 ≤ 134 := by omega
  have iv : ∀ o, (o < 152 ∨ 180 ≤ o) → h_iv h1 o = h_iv h o := fun o ho => funext fun k => x6 o k (by unfold MUx; omega)
  have rv : ∀ o k, o ≠ 172 → h_rv h1 o k = h_rv h o k := fun o k ho => x7 o k (by omega)
  have stk : ∀ {a : Nat} {S : Nat → Nat}, (a = 134 ∨ 184 ≤ a) → StR h a P T S → StR h1 a P T S := fun {a S} ha y => y.keep (fun o q1 q2 => iv o (by omega)) (rv _ _ (by omega))
  refine ⟨S1, a2, by rw [rv _ _ (by omega)]; exact a3, by rw [rv _ _ (by omega)]; exact a4, a6, a7.keep (fun o q1 q2 => iv o (by omega)) a6, a8, stk (Or.inl rfl) a9, by rw [iv _ (by omega)]; exact a10, fun i hi => by rw [rv _ _ (by omega)]; exact a11 i hi, fun i j hi hj => by rw [rv _ _ (by omega), rv _ _ (by omega)]; exact a12 i j hi hj, fun i hi => ?_, fun s hs => ?_, ?_⟩
  · obtain ⟨m, m1, m2⟩ := a11 i (Nat.lt_of_lt_of_le hi a10.2)
    rw [rv _ _ (by omega)]
    exact ⟨(a13 i hi).1, stk (by omega) (a13 i hi).2⟩
  · obtain ⟨b1, b2, b3⟩ := a14 s hs
    exact ⟨by rw [iv _ (by omega)]; exact b1, b2, fun e => ⟨(b3 e).1, stk (by omega) (b3 e).2⟩⟩
  · rw [iv _ (by omega), iv _ (by omega)]; exact a15
/-- what the reference does behind the row it kept -/
theorem r_callX (hS : Sh h) (z : RefR h T) (hD : PlD T) {S : Nat → Nat} (eS : T 413 = S) (hB : RwB T S) {k : Nat} (hk : k < T 412 11) (h16 : S 1 < 16) (g0 : h_iv h 412 0 = nI 0) :
    OK (bR (m_X12_plans 412 (nI k) h) fun _ h5 =>
      aJ (fun (h6 : aH) =>
      bO (gr h6 12 412 1) fun x6 =>
      bO (ali h6 1 x6 (nI 1)) fun x7 =>
      aLet ((nI 299) + ((nI 19) * x7)) fun x8 =>
      bO (gr h6 12 412 1) fun x9 =>
      bO (gi h6 12 412 68) fun x10 =>
      bO (gr h6 12 412 23) fun x11 =>
      bO (ali h6 1 x11 (nI k)) fun x12 =>
      aJ (fun (x13 : Int32) (h7 : aH) =>
      bO (asi h7 x9 (x8 + (nI 1)) x13) fun h8 =>
      bO (gr h8 12 412 1) fun x14 =>
      bO (gi h8 12 412 63) fun x15 =>
      bR (m_X12_many x15 h8) fun x16 h9 =>
      bO (asi h9 x14 (x8 + (nI 2)) x16) fun h10 =>
      bO (gr h10 12 412 1) fun x17 =>
      bO (gi h10 12 412 68) fun x18 =>
      bO (asi h10 x17 (x8 + (nI 3)) x18) fun h11 =>
      aJ (fun (h12 : aH) =>
      bO (gi h12 12 412 68) fun x19 =>
      aLet ((nI 50) * x19) fun x20 =>
      aLet (x8 + (nI 4)) fun x21 =>
      aJ (fun (x22 : Int32) (x23 : Int32) (h13 : aH) =>
      aJ (fun (x24 : Int32) (h14 : aH) =>
      bO (gr h14 12 412 1) fun x25 =>
      bO (asi h14 x25 (x8 + (nI 0)) x24) fun h15 =>
      bO (gr h15 12 412 1) fun x26 =>
      bO (ali h15 1 x26 (nI 1)) fun x27 =>
      bO (asi h15 x26 (nI 1) (x27 + (nI 1))) fun h16 =>
      some (x7, h16)) fun k582 =>
      aL2 (m_X12_call_L497 412 x23 k582) FU x22 (nI 0) h13) fun k494 =>
      aL4 (m_X12_call_L269 412 (nI k) k494) FU x20 (nI 0) x21 (nI 0) h12) fun k249 =>
      aL1 (m_X12_call_L226 412 x8 k249) FU (nI 4) h11) fun k195 =>
      if x10 < x12 then
        k195 (nI 0) h6
      else
      k195 (nI 1) h6) fun k154 =>
      aL1 (m_X12_call_L52 412 (nI k) k154) FU (nI 0) h5)
    (fun b h2 => b = nI (S 1) ∧ h_iv h2 412 0 = nI 0 ∧ RK h h2 ∧ RefR h2 (setW T (caR T S k))) := by
  have d0 := hD.nP
  have d2 := hD.nE
  have d3 := hD.ken k hk
  have d4 := hD.nK
  have d5 := hD.ned k hk
  have hRB := caR_B hD hB hk h16
  obtain ⟨hR, hp0, ht⟩ := hB
  have hp : ∀ p, p < T 412 8 → S (38 + p) ≤ 500000 := fun p hp9 => by
    have := hp0 p hp9
    omega
  refine ok_bR (r_plans hS z hD (by rw [eS]; exact hR) hk) (fun _ g2 hh => ?_)
  obtain ⟨F2, e63, e68, pp⟩ := hh
  rw [eS] at e63 e68 pp
  have S2 := F2.sh hS
  have z2 := z.fx F2 SCx_no
  have x0 : RW g2 g2 S := ⟨Fr.rf, fun j => by rw [← eS]; exact z2.c413 j⟩
  have v9 := plV_le T S k (T 433 k)
  have cl : com T S k < 4096 := two_pow_lt d0 (mk_lt _)
  have K2 : RK h g2 := RK.fx F2 (fun o k q => by unfold SCx at q; omega)
  have g20 : h_iv g2 412 0 = nI 0 := by rw [F2.iv (by unfold SCx; omega)]; exact g0
  refine aJ_gen (R := fun o => OK o _) (fun k154 hk154 => ?_)
  refine r_tlL52 (Z := fun o => OK o _) S2 z2 hD hR x0 hk e63 (fun g3 x3 => ?_)
  rw [hk154]
  have S3 := x3.1.sh S2
  have w31 := x3.2 1
  rw [tlR_o hD hR hk (Nat.le_refl _) (by omega)] at w31
  have h63 : ∀ {g' R'}, RW g2 g' R' → h_iv g' 412 63 = nI (com T S k) := fun y => by rw [y.1.iv (by decide)]; exact e63
  have h68 : ∀ {g' R'}, RW g2 g' R' → h_iv g' 412 68 = nI (plV T S k (T 433 k)) := fun y => by rw [y.1.iv (by decide)]; exact e68
  have h430 : h_iv g3 430 k = nI (T 430 k) := by rw [x3.1.iv (by decide)]; exact z2.c430 k
  have mn : ∀ g, m_X12_many (nI (com T S k)) g = some (nI (sz (com T S k)), g) := fun g => r_many cl
  simp (maxSteps := 3000000) (disch := first | assumption | omega) only [bO_v, bR_v, bX_l, bX_r, bC_l, bC_r, aLet_v, nI_add, pk_mul, dvI_n, rmI_n, iMax_n, iMin_n, zO_0, zO_1, li_0, li_1, li_2, li_3, li_4, li_5, li_6, li_7, li_8, li_9, li_10, li_12, li_14, li_15, li_16, li_18, li_19, li_20, li_22, li_23, li_24, li_26, li_29, li_30, li_31, li_32, li_36, li_38, li_48, li_50, li_57, li_58, li_59, li_60, li_63, li_97, li_99, li_120, li_122, li_144, li_168, li_194, li_240, li_255, li_284, li_299, li_603, li_999, li_1200, li_1440, li_4095, li_4096, li_6030, li_16384, li_20160, zl0, zl1, zl2, zl3, zl4, ze01, ze02, ze03, ze04, ze10, ze12, ze13, ze14, ze20, ze21, ze23, ze24, ze30, ze31, ze32, ze34, ze40, ze41, ze42, ze43, zt0, zt1, zt2, zt3, zt4, zq0, zq1, zq2, zq3, zq4, it_t, it_f, Bool.true_eq_false, Bool.false_eq_true, na5, na4, na1441, na2, na10, sx_IOIA, sx_IOIS, sx_IONS, sx_IAIO, sx_IAIS, sx_IANS, sx_ISIO, sx_ISIA, sx_ISNS, sx_NSIO, sx_NSIA, sx_NSIS, r_p413 S3, r_c413_al S3, w31, r_cM_gi S3, h68 x3, r_p430 S3, r_c430_al S3, h430, nI_ltI]
  refine aJ_gen (R := fun o => OK o _) (fun k195 hk195 => ?_)
  have main : ∀ v, v = (if plV T S k (T 433 k) < T 430 k then 0 else 1) → OK (k195 (nI v) g3) (fun b h2 => b = nI (S 1) ∧ h_iv h2 412 0 = nI 0 ∧ RK h h2 ∧ RefR h2 (setW T (caR T S k))) := fun v ev => by
    rw [hk195]
    have x4 := x3.pt (k := 299 + 19 * S 1 + 1) (v := v)
    have S4 := x4.1.sh S2
    have x5 := x4.pt (k := 299 + 19 * S 1 + 2) (v := sz (com T S k))
    have S5 := x5.1.sh S2
    have x6 := x5.pt (k := 299 + 19 * S 1 + 3) (v := plV T S k (T 433 k))
    have S6 := x6.1.sh S2
    simp (maxSteps := 3000000) (disch := first | assumption | omega) only [bO_v, bR_v, bX_l, bX_r, bC_l, bC_r, aLet_v, nI_add, pk_mul, dvI_n, rmI_n, iMax_n, iMin_n, zO_0, zO_1, li_0, li_1, li_2, li_3, li_4, li_5, li_6, li_7, li_8, li_9, li_10, li_12, li_14, li_15, li_16, li_18, li_19, li_20, li_22, li_23, li_24, li_26, li_29, li_30, li_31, li_32, li_36, li_38, li_48, li_50, li_57, li_58, li_59, li_60, li_63, li_97, li_99, li_120, li_122, li_144, li_168, li_194, li_240, li_255, li_284, li_299, li_603, li_999, li_1200, li_1440, li_4095, li_4096, li_6030, li_16384, li_20160, zl0, zl1, zl2, zl3, zl4, ze01, ze02, ze03, ze04, ze10, ze12, ze13, ze14, ze20, ze21, ze23, ze24, ze30, ze31, ze32, ze34, ze40, ze41, ze42, ze43, zt0, zt1, zt2, zt3, zt4, zq0, zq1, zq2, zq3, zq4, it_t, it_f, Bool.true_eq_false, Bool.false_eq_true, na5, na4, na1441, na2, na10, sx_IOIA, sx_IOIS, sx_IONS, sx_IAIO, sx_IAIS, sx_IANS, sx_ISIO, sx_ISIA, sx_ISNS, sx_NSIO, sx_NSIA, sx_NSIS, r_c413_as S3, r_p413 S4, r_cM_gi S4, h63 x4, mn, r_c413_as S4, r_p413 S5, r_cM_gi S5, h68 x5, r_c413_as S5]
    refine aJ_gen (R := fun o => OK o _) (fun k249 hk249 => ?_)
    refine r_zeroL226 (Z := fun o => OK o _) S2 x6 (by omega) (fun g7 x7 => ?_)
    rw [hk249]
    have x8 : RW g2 g7 (caE T S k 0) := x7.to (fun j => by
      show _ = lgR T S k (tlR T S k (T 431 k)) j
      unfold lgR pt
      rw [ev]
      by_cases c : 299 + 19 * S 1 < j ∧ j < 299 + 19 * S 1 + 19
      · rw [if_pos c]
        by_cases c1 : j = 299 + 19 * S 1 + 1
        · rw [if_neg (by omega), if_neg (by omega), if_neg (by omega), if_pos c1, if_pos c1]
        · by_cases c2 : j = 299 + 19 * S 1 + 2
          · rw [if_neg (by omega), if_neg (by omega), if_pos c2, if_neg c1, if_pos c2]
          · by_cases c3 : j = 299 + 19 * S 1 + 3
            · rw [if_neg (by omega), if_pos c3, if_neg c1, if_neg c2, if_pos c3]
            · rw [if_pos (by omega), if_neg c1, if_neg c2, if_neg c3]
      · rw [if_neg c, if_neg (by omega), if_neg (by omega), if_neg (by omega), if_neg (by omega)])
    have S7 := x8.1.sh S2
    simp (maxSteps := 3000000) (disch := first | assumption | omega) only [bO_v, bR_v, bX_l, bX_r, bC_l, bC_r, aLet_v, nI_add, pk_mul, dvI_n, rmI_n, iMax_n, iMin_n, zO_0, zO_1, li_0, li_1, li_2, li_3, li_4, li_5, li_6, li_7, li_8, li_9, li_10, li_12, li_14, li_15, li_16, li_18, li_19, li_20, li_22, li_23, li_24, li_26, li_29, li_30, li_31, li_32, li_36, li_38, li_48, li_50, li_57, li_58, li_59, li_60, li_63, li_97, li_99, li_120, li_122, li_144, li_168, li_194, li_240, li_255, li_284, li_299, li_603, li_999, li_1200, li_1440, li_4095, li_4096, li_6030, li_16384, li_20160, zl0, zl1, zl2, zl3, zl4, ze01, ze02, ze03, ze04, ze10, ze12, ze13, ze14, ze20, ze21, ze23, ze24, ze30, ze31, ze32, ze34, ze40, ze41, ze42, ze43, zt0, zt1, zt2, zt3, zt4, zq0, zq1, zq2, zq3, zq4, it_t, it_f, Bool.true_eq_false, Bool.false_eq_true, na5, na4, na1441, na2, na10, sx_IOIA, sx_IOIS, sx_IONS, sx_IAIO, sx_IAIS, sx_IANS, sx_ISIO, sx_ISIA, sx_ISNS, sx_NSIO, sx_NSIA, sx_NSIS, r_cM_gi S7, h68 x8]
    refine aJ_gen (R := fun o => OK o _) (fun k494 hk494 => ?_)
    refine r_engL269 (Z := fun o => OK o _) S2 z2 hD hR x8 hk pp h16 ht hp (by omega) (fun g9 x9 => ?_)
    rw [hk494]
    refine aJ_gen (R := fun o => OK o _) (fun k582 hk582 => ?_)
    obtain ⟨q1, q2, q3, q4, q5⟩ := caE_inv hD hR hk ht hp (Nat.le_refl _)
    obtain ⟨-, rl⟩ := ca_0 hD hR hk
    have c0 : caE T S k (T 433 k) 0 = S 0 := by rw [q2 _ (by omega)]; exact rl _ (by omega)
    refine r_restGo (Z := fun o => OK o _) S2 z2 hD x9 q1 hk e63 c0 ht (fun p hp9 => by
      have := q3 p hp9
      have := hp p hp9
      omega) (by omega) (fun g10 x10 => ?_)
    rw [hk582]
    have ck : 50 * plV T S k (T 433 k) + enC T S k (T 433 k) + sdK T (S 0) (voF T S) (fun p => (plF T S k (T 433 k)).testBit p) (T 412 8) = caK T S k := rfl
    change RW g2 g10 (caV T S k) at x10
    have v1 : caV T S k 1 = S 1 := by
      have e1 : caV T S k 1 = caE T S k (T 433 k) 1 := sdR_o (by omega) d0
      rw [e1, q2 _ (by omega)]
      exact rl _ (by omega)
    have S10 := x10.1.sh S2
    have x11 := x10.pt (k := 299 + 19 * S 1 + 0) (v := caK T S k)
    have S11 := x11.1.sh S2
    have w11 := x11.2 1
    rw [pt_n (by omega), v1] at w11
    have kl := caK_le hD hR hk ht hp
    simp (maxSteps := 3000000) (disch := first | assumption | omega) only [ck, bO_v, bR_v, bX_l, bX_r, bC_l, bC_r, aLet_v, nI_add, pk_mul, dvI_n, rmI_n, iMax_n, iMin_n, zO_0, zO_1, li_0, li_1, li_2, li_3, li_4, li_5, li_6, li_7, li_8, li_9, li_10, li_12, li_14, li_15, li_16, li_18, li_19, li_20, li_22, li_23, li_24, li_26, li_29, li_30, li_31, li_32, li_36, li_38, li_48, li_50, li_57, li_58, li_59, li_60, li_63, li_97, li_99, li_120, li_122, li_144, li_168, li_194, li_240, li_255, li_284, li_299, li_603, li_999, li_1200, li_1440, li_4095, li_4096, li_6030, li_16384, li_20160, zl0, zl1, zl2, zl3, zl4, ze01, ze02, ze03, ze04, ze10, ze12, ze13, ze14, ze20, ze21, ze23, ze24, ze30, ze31, ze32, ze34, ze40, ze41, ze42, ze43, zt0, zt1, zt2, zt3, zt4, zq0, zq1, zq2, zq3, zq4, it_t, it_f, Bool.true_eq_false, Bool.false_eq_true, na5, na4, na1441, na2, na10, sx_IOIA, sx_IOIS, sx_IONS, sx_IAIO, sx_IAIS, sx_IANS, sx_ISIO, sx_ISIA, sx_ISNS, sx_NSIO, sx_NSIA, sx_NSIS, r_p413 S10, r_c413_as S10, r_p413 S11, r_c413_al S11, w11, r_c413_as S11]
    have x12 := x11.pt (k := 1) (v := S 1 + 1)
    change RW g2 _ (caR T S k) at x12
    exact ok_ret ⟨rfl, by rw [x12.1.iv (by decide)]; exact g20, K2.trans x12.rk, x12.ref z2 (fun j => hRB.1.all j)⟩
  by_cases cn : plV T S k (T 433 k) < T 430 k
  · rw [if_pos cn]
    exact main 0 (by rw [if_pos cn])
  · rw [if_neg cn]
    exact main 1 (by rw [if_neg cn])
theorem q_call (I : IV h T P Q) (k : Int32) : QG h (m_L_call 1 k 462 h) (m_X12_call 412 k) := by
  have hS := I.sh
  have hD := I.D
  have hR := I.R
  have hP := I.hP
  have y := I.y
  have d0 := hD.nP
  have d1 := hD.nG
  have d2 := hD.nE
  have d3 := hD.nK
  have d4 := hR.tm
  have d5 := I.RB.2.2
  have ha : 134 ∈ stL := by decide
  have x := I.x
  have p8 : kpT T 412 8 = T 412 8 := kpT_pe.1
  have p9 : kpT T 412 9 = T 412 9 := kpT_pe.2.1
  have p10 : kpT T 412 10 = T 412 10 := kpT_pe.2.2.1
  have p11 : kpT T 412 11 = T 412 11 := kpT_pe.2.2.2.1
  cases c : inr k (T 412 11)
  · refine qg_mk (k := 1) (v := 0) I (by decide) (cq_exc ?_ (by decide)) (fun h1 I1 => ?_)
    · simp (maxSteps := 3000000) (disch := first | assumption | omega | exact hR.all _) only [m_L_call, m_X11_call, bO_v, bR_v, bX_l, bX_r, bC_l, bC_r, aJ_v, aLet_v, nI_add, pk_mul, dvI_n, rmI_n, iMax_n, iMin_n, zO_0, zO_1, li_0, li_1, li_2, li_3, li_4, li_5, li_6, li_7, li_8, li_9, li_10, li_12, li_14, li_15, li_16, li_18, li_19, li_20, li_22, li_23, li_24, li_26, li_29, li_30, li_31, li_32, li_36, li_38, li_48, li_50, li_57, li_58, li_59, li_60, li_63, li_97, li_99, li_120, li_122, li_144, li_168, li_194, li_240, li_255, li_284, li_299, li_603, li_999, li_1200, li_1440, li_4095, li_4096, li_6030, li_16384, li_20160, zl0, zl1, zl2, zl3, zl4, ze01, ze02, ze03, ze04, ze10, ze12, ze13, ze14, ze20, ze21, ze23, ze24, ze30, ze31, ze32, ze34, ze40, ze41, ze42, ze43, zt0, zt1, zt2, zt3, zt4, zq0, zq1, zq2, zq3, zq4, it_t, it_f, Bool.true_eq_false, Bool.false_eq_true, na5, na4, na1441, na2, na10, sx_IOIA, sx_IOIS, sx_IONS, sx_IAIO, sx_IAIS, sx_IANS, sx_ISIO, sx_ISIA, sx_ISNS, sx_NSIO, sx_NSIA, sx_NSIS, c_cX_gS hS, c_cX_gi hS, c_pst hS, c_phi hS, c_cH_gS hS, c_pmu hS, s_cS_gi hS ha, s_cS_gL hS ha, s_cS_pi hS ha, s_cS_pL hS ha, s_cS_gS hS ha, s_clost_al hS ha, s_clost_as hS ha, s_clost_ln hS ha, s_cout_al hS ha, s_cout_as hS ha, s_cout_ln hS ha, s_cpaid_al hS ha, s_cpaid_as hS ha, s_cpaid_ln hS ha, s_ctrust_al hS ha, s_ctrust_as hS ha, s_ctrust_ln hS ha, s_crot_al hS ha, s_crot_as hS ha, s_crot_ln hS ha, s_chands_al hS ha, s_chands_as hS ha, s_chands_ln hS ha, s_cto_al hS ha, s_cto_as hS ha, s_cto_ln hS ha, s_cends_al hS ha, s_cends_as hS ha, s_cends_ln hS ha, s_cret_al hS ha, s_cret_as hS ha, s_cret_ln hS ha, s_ccrew_al hS ha, s_ccrew_as hS ha, s_ccrew_ln hS ha, s_cL_gi hS ha, s_cL_gL hS ha, s_cL_pi hS ha, s_cL_pL hS ha, s_cL_gS hS ha, s_clcosts_al hS ha, s_clcosts_as hS ha, s_clcosts_ln hS ha, s_clcomers_al hS ha, s_clcomers_as hS ha, s_clcomers_ln hS ha, s_clleavers_al hS ha, s_clleavers_as hS ha, s_clleavers_ln hS ha, s_clengs_al hS ha, s_clengs_as hS ha, s_clengs_ln hS ha, s_cltimes_al hS ha, s_cltimes_as hS ha, s_cltimes_ln hS ha, s_clcrews_al hS ha, s_clcrews_as hS ha, s_clcrews_ln hS ha, s_cbest_al hS ha, s_cbest_as hS ha, s_cbest_ln hS ha, s_plost hS ha, s_pout hS ha, s_ppaid hS ha, s_ptrust hS ha, s_prot hS ha, s_phands hS ha, s_pto hS ha, s_pends hS ha, s_pret hS ha, s_pcrew hS ha, s_plog hS ha, s_plcosts hS ha, s_plcomers hS ha, s_plleavers hS ha, s_plengs hS ha, s_pltimes hS ha, s_plcrews hS ha, s_pbest hS ha, p_cP_gi hS hP, p_cP_gL hS hP, p_cP_pi hS hP, p_cP_pL hS hP, p_cP_gS hS hP, p_cN_gi hS hP, p_cN_gL hS hP, p_cN_pi hS hP, p_cN_pL hS hP, p_cN_gS hS hP, p_cps_ln hS hP, p_ctr_al hS hP, p_ctr_as hS hP, p_ctr_ln hS hP, p_cgs_ln hS hP, p_ces_ln hS hP, p_cks_ln hS hP, p_cable_al hS hP, p_cable_as hS hP, p_cable_ln hS hP, p_pN hS hP, p_pps hS hP, p_ptr hS hP, p_pgs hS hP, p_pes hS hP, p_pks hS hP, p_pable hS hP, p_ep_al hS hP, p_ep_gi hS hP, p_ep_gL hS hP, p_ep_pi hS hP, p_ep_pL hS hP, p_ep_gS hS hP, p_eg_al hS hP, p_eg_gi hS hP, p_eg_gL hS hP, p_eg_pi hS hP, p_eg_pL hS hP, p_eg_gS hS hP, p_egr_p hS hP, p_egr_al hS hP, p_egr_as hS hP, p_egr_ln hS hP, p_ee_al hS hP, p_ee_gi hS hP, p_ee_gL hS hP, p_ee_pi hS hP, p_ee_pL hS hP, p_ee_gS hS hP, p_ees_p hS hP, p_ees_al hS hP, p_ees_as hS hP, p_ees_ln hS hP, p_eed_p hS hP, p_eed_al hS hP, p_eed_as hS hP, p_eed_ln hS hP, p_ek_al hS hP, p_ek_gi hS hP, p_ek_gL hS hP, p_ek_pi hS hP, p_ek_pL hS hP, p_ek_gS hS hP, p_ekg_p hS hP, p_ekg_al hS hP, p_ekg_as hS hP, p_ekg_ln hS hP, p_eke_p hS hP, p_eke_al hS hP, p_eke_as hS hP, p_eke_ln hS hP, I.g3, b2i_0, I.needPerson, I.needPager, I.needEngine, I.needKind, I.needCall, I.needTwo, c]
    · have S1 := I1.sh
      refine rq_exc (w := nI 0) ?_ (by decide)
      simp (maxSteps := 3000000) (disch := first | assumption | omega | exact hR.all _) only [m_X12_call, bO_v, bR_v, bX_l, bX_r, bC_l, bC_r, aJ_v, aLet_v, nI_add, pk_mul, dvI_n, rmI_n, iMax_n, iMin_n, zO_0, zO_1, li_0, li_1, li_2, li_3, li_4, li_5, li_6, li_7, li_8, li_9, li_10, li_12, li_14, li_15, li_16, li_18, li_19, li_20, li_22, li_23, li_24, li_26, li_29, li_30, li_31, li_32, li_36, li_38, li_48, li_50, li_57, li_58, li_59, li_60, li_63, li_97, li_99, li_120, li_122, li_144, li_168, li_194, li_240, li_255, li_284, li_299, li_603, li_999, li_1200, li_1440, li_4095, li_4096, li_6030, li_16384, li_20160, zl0, zl1, zl2, zl3, zl4, ze01, ze02, ze03, ze04, ze10, ze12, ze13, ze14, ze20, ze21, ze23, ze24, ze30, ze31, ze32, ze34, ze40, ze41, ze42, ze43, zt0, zt1, zt2, zt3, zt4, zq0, zq1, zq2, zq3, zq4, it_t, it_f, Bool.true_eq_false, Bool.false_eq_true, na5, na4, na1441, na2, na10, sx_IOIA, sx_IOIS, sx_IONS, sx_IAIO, sx_IAIS, sx_IANS, sx_ISIO, sx_ISIA, sx_ISNS, sx_NSIO, sx_NSIA, sx_NSIS, r_cM_gS S1, r_cM_pi S1, rz_gi S1, r_p413 S1, r_c413_al S1, r_isPerson S1 I1.z hD, r_isPager S1 I1.z hD, r_isKind S1 I1.z hD, r_isCouple S1 I1.z hD, b2i_0, nI_leI, c]
  · obtain ⟨k, hk, rfl⟩ := inr_t c (by omega)
    have mny := x.many
    have r16 := hR.many
    by_cases c16 : T 413 1 < 16
    · have ce : ¬ T 413 1 = 16 := by omega
      obtain ⟨_, h1, e1, C1, I1⟩ := k_keep I.c
      have S1 := I1.sh
      have e413 : kpT T 413 = T 413 := kpT_o (by decide) (by decide)
      have x1 : StR h1 134 P (kpT T) (T 413) := by rw [← e413]; exact I1.x
      have y1 := I1.y
      have D1 := I1.D
      have R1 : RwD (kpT T) (T 413) := kpT_pe.rwd hR
      obtain ⟨rF, h2, eF, erF, MF, s0, s1, MK⟩ := k_foresee S1 ha hP x1 y1 D1 R1 (k := k) (by omega)
      have S2 := MF.sh S1
      have I2 := I1.mu MF
      have y2 := I2.y
      have x2 : StR h2 134 P (kpT T) (T 413) := by rw [← e413]; exact I2.x
      have hp : ∀ p, p < kpT T 412 8 → T 413 (38 + p) ≤ 500000 := fun p hp9 => by
        have := I.RB.2.1 p (by omega)
        omega
      obtain ⟨r, h3, e3, er3, F3, x3⟩ := k_carryOut S2 ha hP x2 y2 D1 R1 (k := k) (by omega) s0 s1 MK c16 d5 hp
      rw [er3] at e3
      have hb : RwB (kpT T) (caR (kpT T) (T 413) k) := caR_B D1 (kpT_pe.rwb I.RB) (by omega) c16
      have F3' : Fr (fun o => 134 ≤ o ∧ o < 152) h2 h3 := F3
      have S3 := F3'.sh S2
      refine qg_chg (T' := setW (kpT T) (caR (kpT T) (T 413) k)) I (nI (T 413 1)) (nm_kw _) (chg_fin (hE := h3) ?_ ((C1.trans (CK.mu MF)).trans (CK.fr F3' (fun o q => by omega))) (I2.row F3' (fun o q => q) hb x3)) (fun h1 S1 z1 => ?_)
      · simp (maxSteps := 3000000) (disch := first | assumption | omega | exact hR.all _) only [m_L_call, m_X11_call, bO_v, bR_v, bX_l, bX_r, bC_l, bC_r, aJ_v, aLet_v, nI_add, pk_mul, dvI_n, rmI_n, iMax_n, iMin_n, zO_0, zO_1, li_0, li_1, li_2, li_3, li_4, li_5, li_6, li_7, li_8, li_9, li_10, li_12, li_14, li_15, li_16, li_18, li_19, li_20, li_22, li_23, li_24, li_26, li_29, li_30, li_31, li_32, li_36, li_38, li_48, li_50, li_57, li_58, li_59, li_60, li_63, li_97, li_99, li_120, li_122, li_144, li_168, li_194, li_240, li_255, li_284, li_299, li_603, li_999, li_1200, li_1440, li_4095, li_4096, li_6030, li_16384, li_20160, zl0, zl1, zl2, zl3, zl4, ze01, ze02, ze03, ze04, ze10, ze12, ze13, ze14, ze20, ze21, ze23, ze24, ze30, ze31, ze32, ze34, ze40, ze41, ze42, ze43, zt0, zt1, zt2, zt3, zt4, zq0, zq1, zq2, zq3, zq4, it_t, it_f, Bool.true_eq_false, Bool.false_eq_true, na5, na4, na1441, na2, na10, sx_IOIA, sx_IOIS, sx_IONS, sx_IAIO, sx_IAIS, sx_IANS, sx_ISIO, sx_ISIA, sx_ISNS, sx_NSIO, sx_NSIA, sx_NSIS, c_cX_gS hS, c_cX_gi hS, c_pst hS, c_phi hS, c_cH_gS hS, c_pmu hS, s_cS_gi hS ha, s_cS_gL hS ha, s_cS_pi hS ha, s_cS_pL hS ha, s_cS_gS hS ha, s_clost_al hS ha, s_clost_as hS ha, s_clost_ln hS ha, s_cout_al hS ha, s_cout_as hS ha, s_cout_ln hS ha, s_cpaid_al hS ha, s_cpaid_as hS ha, s_cpaid_ln hS ha, s_ctrust_al hS ha, s_ctrust_as hS ha, s_ctrust_ln hS ha, s_crot_al hS ha, s_crot_as hS ha, s_crot_ln hS ha, s_chands_al hS ha, s_chands_as hS ha, s_chands_ln hS ha, s_cto_al hS ha, s_cto_as hS ha, s_cto_ln hS ha, s_cends_al hS ha, s_cends_as hS ha, s_cends_ln hS ha, s_cret_al hS ha, s_cret_as hS ha, s_cret_ln hS ha, s_ccrew_al hS ha, s_ccrew_as hS ha, s_ccrew_ln hS ha, s_cL_gi hS ha, s_cL_gL hS ha, s_cL_pi hS ha, s_cL_pL hS ha, s_cL_gS hS ha, s_clcosts_al hS ha, s_clcosts_as hS ha, s_clcosts_ln hS ha, s_clcomers_al hS ha, s_clcomers_as hS ha, s_clcomers_ln hS ha, s_clleavers_al hS ha, s_clleavers_as hS ha, s_clleavers_ln hS ha, s_clengs_al hS ha, s_clengs_as hS ha, s_clengs_ln hS ha, s_cltimes_al hS ha, s_cltimes_as hS ha, s_cltimes_ln hS ha, s_clcrews_al hS ha, s_clcrews_as hS ha, s_clcrews_ln hS ha, s_cbest_al hS ha, s_cbest_as hS ha, s_cbest_ln hS ha, s_plost hS ha, s_pout hS ha, s_ppaid hS ha, s_ptrust hS ha, s_prot hS ha, s_phands hS ha, s_pto hS ha, s_pends hS ha, s_pret hS ha, s_pcrew hS ha, s_plog hS ha, s_plcosts hS ha, s_plcomers hS ha, s_plleavers hS ha, s_plengs hS ha, s_pltimes hS ha, s_plcrews hS ha, s_pbest hS ha, p_cP_gi hS hP, p_cP_gL hS hP, p_cP_pi hS hP, p_cP_pL hS hP, p_cP_gS hS hP, p_cN_gi hS hP, p_cN_gL hS hP, p_cN_pi hS hP, p_cN_pL hS hP, p_cN_gS hS hP, p_cps_ln hS hP, p_ctr_al hS hP, p_ctr_as hS hP, p_ctr_ln hS hP, p_cgs_ln hS hP, p_ces_ln hS hP, p_cks_ln hS hP, p_cable_al hS hP, p_cable_as hS hP, p_cable_ln hS hP, p_pN hS hP, p_pps hS hP, p_ptr hS hP, p_pgs hS hP, p_pes hS hP, p_pks hS hP, p_pable hS hP, p_ep_al hS hP, p_ep_gi hS hP, p_ep_gL hS hP, p_ep_pi hS hP, p_ep_pL hS hP, p_ep_gS hS hP, p_eg_al hS hP, p_eg_gi hS hP, p_eg_gL hS hP, p_eg_pi hS hP, p_eg_pL hS hP, p_eg_gS hS hP, p_egr_p hS hP, p_egr_al hS hP, p_egr_as hS hP, p_egr_ln hS hP, p_ee_al hS hP, p_ee_gi hS hP, p_ee_gL hS hP, p_ee_pi hS hP, p_ee_pL hS hP, p_ee_gS hS hP, p_ees_p hS hP, p_ees_al hS hP, p_ees_as hS hP, p_ees_ln hS hP, p_eed_p hS hP, p_eed_al hS hP, p_eed_as hS hP, p_eed_ln hS hP, p_ek_al hS hP, p_ek_gi hS hP, p_ek_gL hS hP, p_ek_pi hS hP, p_ek_pL hS hP, p_ek_gS hS hP, p_ekg_p hS hP, p_ekg_al hS hP, p_ekg_as hS hP, p_ekg_ln hS hP, p_eke_p hS hP, p_eke_al hS hP, p_eke_as hS hP, p_eke_ln hS hP, I.g3, b2i_0, I.needPerson, I.needPager, I.needEngine, I.needKind, I.needCall, I.needTwo, c, s_plog hS ha, mny, nI_ltI, e1, c_pmu S1, c_pst S1, I1.g3, p_pks S1 hP, p_ek_al S1 hP, c_cU_gS S1, eF, c_pmu S2, I2.g3, p_pks S2 hP, p_ek_al S2 hP, c_cU_gS S2, e3, if_pos c16, c_co_as S3]
      · clear e1 x1 y1 x2 y2 S2 I1 I2 C1 R1 eF MF e3 F3 F3' S3 x3 MK s0 s1
        have S0 : Sh (h_si h1 412 0 (nI 0)) := S1.si _ _ _
        have z0 : RefR (h_si h1 412 0 (nI 0)) T := z1.rz
        obtain ⟨_, g1, ek, K1, zk, gk⟩ := r_keeps S0 z0 I.kc.2 (fun k => z0.2 413 k)
        have Sk := K1.sh S0
        have g10 : h_iv g1 412 0 = nI 0 := gk.trans si_at
        have Kr : RK h1 g1 := RK.rz.trans K1
        have e9 : kpT T 413 = T 413 := kpT_o (by decide) (by decide)
        have X := r_callX Sk zk D1 e9 (kpT_pe.rwb I.RB) (k := k) (by omega) c16 g10
        simp (maxSteps := 3000000) (disch := first | assumption | omega | exact hR.all _) only [m_X12_call, bO_v, bR_v, bX_l, bX_r, bC_l, bC_r, aLet_v, nI_add, pk_mul, dvI_n, rmI_n, iMax_n, iMin_n, zO_0, zO_1, li_0, li_1, li_2, li_3, li_4, li_5, li_6, li_7, li_8, li_9, li_10, li_12, li_14, li_15, li_16, li_18, li_19, li_20, li_22, li_23, li_24, li_26, li_29, li_30, li_31, li_32, li_36, li_38, li_48, li_50, li_57, li_58, li_59, li_60, li_63, li_97, li_99, li_120, li_122, li_144, li_168, li_194, li_240, li_255, li_284, li_299, li_603, li_999, li_1200, li_1440, li_4095, li_4096, li_6030, li_16384, li_20160, zl0, zl1, zl2, zl3, zl4, ze01, ze02, ze03, ze04, ze10, ze12, ze13, ze14, ze20, ze21, ze23, ze24, ze30, ze31, ze32, ze34, ze40, ze41, ze42, ze43, zt0, zt1, zt2, zt3, zt4, zq0, zq1, zq2, zq3, zq4, it_t, it_f, Bool.true_eq_false, Bool.false_eq_true, na5, na4, na1441, na2, na10, sx_IOIA, sx_IOIS, sx_IONS, sx_IAIO, sx_IAIS, sx_IANS, sx_ISIO, sx_ISIA, sx_ISNS, sx_NSIO, sx_NSIA, sx_NSIS, r_cM_gS S1, r_isKind S1 z1 hD, c, b2i_0, r_p413 S1, r_c413_al S1, z1.c413, nI_eq]
        rw [aJ_v]
        rw [if_neg ce]
        simp (maxSteps := 3000000) (disch := first | assumption | omega | exact hR.all _) only [r_cM_pi S1, rz_gi S1, nI_leI, r_cM_gS S0, ek, r_cM_gS Sk, bO_v, bR_v, li_0, li_1, li_2, li_3, li_4, li_19, li_50, li_299, zl0, it_t]
        exact ok_mono X (fun b h2 q => ⟨q.1, q.2.1, Kr.trans q.2.2.1, q.2.2.2⟩)
    · have c17 : T 413 1 = 16 := by omega
      refine qg_mk (k := 2) (v := 0) I (by decide) (cq_exc ?_ (by decide)) (fun h1 I1 => ?_)
      · simp (maxSteps := 3000000) (disch := first | assumption | omega | exact hR.all _) only [m_L_call, m_X11_call, bO_v, bR_v, bX_l, bX_r, bC_l, bC_r, aJ_v, aLet_v, nI_add, pk_mul, dvI_n, rmI_n, iMax_n, iMin_n, zO_0, zO_1, li_0, li_1, li_2, li_3, li_4, li_5, li_6, li_7, li_8, li_9, li_10, li_12, li_14, li_15, li_16, li_18, li_19, li_20, li_22, li_23, li_24, li_26, li_29, li_30, li_31, li_32, li_36, li_38, li_48, li_50, li_57, li_58, li_59, li_60, li_63, li_97, li_99, li_120, li_122, li_144, li_168, li_194, li_240, li_255, li_284, li_299, li_603, li_999, li_1200, li_1440, li_4095, li_4096, li_6030, li_16384, li_20160, zl0, zl1, zl2, zl3, zl4, ze01, ze02, ze03, ze04, ze10, ze12, ze13, ze14, ze20, ze21, ze23, ze24, ze30, ze31, ze32, ze34, ze40, ze41, ze42, ze43, zt0, zt1, zt2, zt3, zt4, zq0, zq1, zq2, zq3, zq4, it_t, it_f, Bool.true_eq_false, Bool.false_eq_true, na5, na4, na1441, na2, na10, sx_IOIA, sx_IOIS, sx_IONS, sx_IAIO, sx_IAIS, sx_IANS, sx_ISIO, sx_ISIA, sx_ISNS, sx_NSIO, sx_NSIA, sx_NSIS, c_cX_gS hS, c_cX_gi hS, c_pst hS, c_phi hS, c_cH_gS hS, c_pmu hS, s_cS_gi hS ha, s_cS_gL hS ha, s_cS_pi hS ha, s_cS_pL hS ha, s_cS_gS hS ha, s_clost_al hS ha, s_clost_as hS ha, s_clost_ln hS ha, s_cout_al hS ha, s_cout_as hS ha, s_cout_ln hS ha, s_cpaid_al hS ha, s_cpaid_as hS ha, s_cpaid_ln hS ha, s_ctrust_al hS ha, s_ctrust_as hS ha, s_ctrust_ln hS ha, s_crot_al hS ha, s_crot_as hS ha, s_crot_ln hS ha, s_chands_al hS ha, s_chands_as hS ha, s_chands_ln hS ha, s_cto_al hS ha, s_cto_as hS ha, s_cto_ln hS ha, s_cends_al hS ha, s_cends_as hS ha, s_cends_ln hS ha, s_cret_al hS ha, s_cret_as hS ha, s_cret_ln hS ha, s_ccrew_al hS ha, s_ccrew_as hS ha, s_ccrew_ln hS ha, s_cL_gi hS ha, s_cL_gL hS ha, s_cL_pi hS ha, s_cL_pL hS ha, s_cL_gS hS ha, s_clcosts_al hS ha, s_clcosts_as hS ha, s_clcosts_ln hS ha, s_clcomers_al hS ha, s_clcomers_as hS ha, s_clcomers_ln hS ha, s_clleavers_al hS ha, s_clleavers_as hS ha, s_clleavers_ln hS ha, s_clengs_al hS ha, s_clengs_as hS ha, s_clengs_ln hS ha, s_cltimes_al hS ha, s_cltimes_as hS ha, s_cltimes_ln hS ha, s_clcrews_al hS ha, s_clcrews_as hS ha, s_clcrews_ln hS ha, s_cbest_al hS ha, s_cbest_as hS ha, s_cbest_ln hS ha, s_plost hS ha, s_pout hS ha, s_ppaid hS ha, s_ptrust hS ha, s_prot hS ha, s_phands hS ha, s_pto hS ha, s_pends hS ha, s_pret hS ha, s_pcrew hS ha, s_plog hS ha, s_plcosts hS ha, s_plcomers hS ha, s_plleavers hS ha, s_plengs hS ha, s_pltimes hS ha, s_plcrews hS ha, s_pbest hS ha, p_cP_gi hS hP, p_cP_gL hS hP, p_cP_pi hS hP, p_cP_pL hS hP, p_cP_gS hS hP, p_cN_gi hS hP, p_cN_gL hS hP, p_cN_pi hS hP, p_cN_pL hS hP, p_cN_gS hS hP, p_cps_ln hS hP, p_ctr_al hS hP, p_ctr_as hS hP, p_ctr_ln hS hP, p_cgs_ln hS hP, p_ces_ln hS hP, p_cks_ln hS hP, p_cable_al hS hP, p_cable_as hS hP, p_cable_ln hS hP, p_pN hS hP, p_pps hS hP, p_ptr hS hP, p_pgs hS hP, p_pes hS hP, p_pks hS hP, p_pable hS hP, p_ep_al hS hP, p_ep_gi hS hP, p_ep_gL hS hP, p_ep_pi hS hP, p_ep_pL hS hP, p_ep_gS hS hP, p_eg_al hS hP, p_eg_gi hS hP, p_eg_gL hS hP, p_eg_pi hS hP, p_eg_pL hS hP, p_eg_gS hS hP, p_egr_p hS hP, p_egr_al hS hP, p_egr_as hS hP, p_egr_ln hS hP, p_ee_al hS hP, p_ee_gi hS hP, p_ee_gL hS hP, p_ee_pi hS hP, p_ee_pL hS hP, p_ee_gS hS hP, p_ees_p hS hP, p_ees_al hS hP, p_ees_as hS hP, p_ees_ln hS hP, p_eed_p hS hP, p_eed_al hS hP, p_eed_as hS hP, p_eed_ln hS hP, p_ek_al hS hP, p_ek_gi hS hP, p_ek_gL hS hP, p_ek_pi hS hP, p_ek_pL hS hP, p_ek_gS hS hP, p_ekg_p hS hP, p_ekg_al hS hP, p_ekg_as hS hP, p_ekg_ln hS hP, p_eke_p hS hP, p_eke_al hS hP, p_eke_as hS hP, p_eke_ln hS hP, I.g3, b2i_0, I.needPerson, I.needPager, I.needEngine, I.needKind, I.needCall, I.needTwo, c, s_plog hS ha, mny, nI_ltI, if_neg c16]
      · have S1 := I1.sh
        refine rq_exc (w := nI 0) ?_ (by decide)
        have w1 := I1.z.c413 1
        rw [c17] at w1
        simp (maxSteps := 3000000) (disch := first | assumption | omega | exact hR.all _) only [m_X12_call, bO_v, bR_v, bX_l, bX_r, bC_l, bC_r, aJ_v, aLet_v, nI_add, pk_mul, dvI_n, rmI_n, iMax_n, iMin_n, zO_0, zO_1, li_0, li_1, li_2, li_3, li_4, li_5, li_6, li_7, li_8, li_9, li_10, li_12, li_14, li_15, li_16, li_18, li_19, li_20, li_22, li_23, li_24, li_26, li_29, li_30, li_31, li_32, li_36, li_38, li_48, li_50, li_57, li_58, li_59, li_60, li_63, li_97, li_99, li_120, li_122, li_144, li_168, li_194, li_240, li_255, li_284, li_299, li_603, li_999, li_1200, li_1440, li_4095, li_4096, li_6030, li_16384, li_20160, zl0, zl1, zl2, zl3, zl4, ze01, ze02, ze03, ze04, ze10, ze12, ze13, ze14, ze20, ze21, ze23, ze24, ze30, ze31, ze32, ze34, ze40, ze41, ze42, ze43, zt0, zt1, zt2, zt3, zt4, zq0, zq1, zq2, zq3, zq4, it_t, it_f, Bool.true_eq_false, Bool.false_eq_true, na5, na4, na1441, na2, na10, sx_IOIA, sx_IOIS, sx_IONS, sx_IAIO, sx_IAIS, sx_IANS, sx_ISIO, sx_ISIA, sx_ISNS, sx_NSIO, sx_NSIA, sx_NSIS, r_cM_gS S1, r_cM_pi S1, rz_gi S1, r_p413 S1, r_c413_al S1, r_isPerson S1 I1.z hD, r_isPager S1 I1.z hD, r_isKind S1 I1.z hD, r_isCouple S1 I1.z hD, b2i_0, nI_leI, c, w1, eq_self]
end
