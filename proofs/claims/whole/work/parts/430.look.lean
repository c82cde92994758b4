theorem PlR.fx {A : Nat → Nat → Prop} {h h' : aH} {P : Nat} {T : Nat → Nat → Nat} (y : PlR h P T) (x : Fx A h h') (hD : PlD T) (hA : ∀ o k, P ≤ o → o < P + 65 → ¬ A o k) : PlR h' P T := y.keep (fun o h1 h2 => funext fun k => x.iv (hA o k h1 h2)) hD
theorem StR.fx {A : Nat → Nat → Prop} {h h' : aH} {a P : Nat} {T : Nat → Nat → Nat} {S : Nat → Nat} (x : StR h a P T S) (f : Fx A h h') (hA : ∀ o k, a ≤ o → o < a + 18 → ¬ A o k) : StR h' a P T S := x.keep (fun o h1 h2 => funext fun k => f.iv (hA o k h1 h2)) (by rw [f.2.2.2.2.1])
theorem st_mu : ∀ a ∈ stL, a + 18 ≤ 172 ∨ 184 ≤ a := by decide
theorem st_ne0 : ∀ a ∈ stL, a ≠ 0 := by decide
theorem ldf_0 {A : Nat} (hA : A < 4096) : ldf A 0 = A := Nat.eq_of_testBit_eq (fun i => by rw [ldf_bit hA, Nat.zero_testBit]; simp)
/-- what a look at an engine writes -/
def LKx (i o k : Nat) : Prop := (175 ≤ o ∧ o ≤ 178 ∧ k = i) ∨ (o = 172 ∧ k = 5)
section
variable {h : aH} {a P : Nat} {T : Nat → Nat → Nat} {S : Nat → Nat}
theorem k_mstate (hS : Sh h) (ha : a ∈ stL) (sp : h_rv h 172 0 = a) : gr h 4 172 0 = some a := gr_ok9 (c_cU hS) sp (st_ne0 a ha)
theorem k_look (hS : Sh h) (ha : a ∈ stL) (hP : P ∈ plL) (sp : h_rv h 172 0 = a) (pl : h_rv h 172 1 = P) (x : StR h a P T S) (y : PlR h P T) (hD : PlD T) (hR : RwD T S) {e A i : Nat} (he : e < T 412 10) (hi : i < 5) (hf : h_iv h 172 5 = nI A) (hA : A < 2 ^ T 412 8) (har : ∀ p, p < T 412 8 → h_iv h 174 p = nI (arr T S p)) :
    OK (m_X4_lookAtEngine 172 (nI i) (nI e) h) (fun _ H => Fx (LKx i) h H ∧ h_iv H 176 i = nI (rk (tyE T e) (Kc T) (T 426 e) A) ∧
      h_iv H 175 i = nI (if rstd S e then 1 else if eout S e then 2 else if (if rstd S e || eout S e then 0 else crwE T S e A) = 0 then 3 else 0) ∧
      h_iv H 177 i = nI (if rstd S e || eout S e then 0 else crwE T S e A) ∧
      h_iv H 178 i = nI (latK (arr T S) (if rstd S e || eout S e then 0 else crwE T S e A) (T 412 8)) ∧
      h_iv H 172 5 = nI (ldf A (if rstd S e || eout S e then 0 else crwE T S e A))) := by
  have d0 := hD.nP
  have d1 := hD.nE
  have d2 := hD.pst e he
  have a1 := st_in a ha
  have a2 := st_mu a ha
  have p1 := pl_in P hP
  have hA2 := two_pow_lt d0 hA
  have mp := k_mplan hS hP pl
  have ms := k_mstate hS ha sp
  have b3 := rk_le (tyE T e) (Kc T) (T 426 e) A
  have l0 : latK (arr T S) 0 (T 412 8) = 0 := by
    rcases latK_in (ar := arr T S) (m := 0) (T 412 8) with q | ⟨p, -, q, -⟩
    · exact q
    · rw [Nat.zero_testBit] at q; cases q
  generalize hr : rk (tyE T e) (Kc T) (T 426 e) A = r at b3
  have me := k_mostE hS hP y hD he hA
  rw [hr] at me
  have F1 : Fx (LKx i) h (h_si h 176 i (nI r)) := Fx.si (Or.inl ⟨by decide, by decide, rfl⟩)
  have S1 := F1.sh hS
  have F2 : Fx (LKx i) h (h_si (h_si h 176 i (nI r)) 177 i (nI 0)) := F1.trans (Fx.si (Or.inl ⟨by decide, by decide, rfl⟩))
  have S2 := F2.sh hS
  have F3 : Fx (LKx i) h (h_si (h_si (h_si h 176 i (nI r)) 177 i (nI 0)) 178 i (nI 0)) := F2.trans (Fx.si (Or.inl ⟨by decide, by decide, rfl⟩))
  have S3 := F3.sh hS
  have g74 : h_iv (h_si (h_si (h_si h 176 i (nI r)) 177 i (nI 0)) 178 i (nI 0)) 176 i = nI r := by rw [si_ne (by omega), si_ne (by omega), si_at]
  have g75 : h_iv (h_si (h_si (h_si h 176 i (nI r)) 177 i (nI 0)) 178 i (nI 0)) 177 i = nI 0 := by rw [si_ne (by omega), si_at]
  have g76 : h_iv (h_si (h_si (h_si h 176 i (nI r)) 177 i (nI 0)) 178 i (nI 0)) 178 i = nI 0 := si_at
  have g705 : h_iv (h_si (h_si (h_si h 176 i (nI r)) 177 i (nI 0)) 178 i (nI 0)) 172 5 = nI A := by rw [si_ne (by omega), si_ne (by omega), si_ne (by omega)]; exact hf
  have mp3 : gr (h_si (h_si (h_si h 176 i (nI r)) 177 i (nI 0)) 178 i (nI 0)) 4 172 1 = some P := mp
  have ms3 : gr (h_si (h_si (h_si h 176 i (nI r)) 177 i (nI 0)) 178 i (nI 0)) 4 172 0 = some a := ms
  have pl3 : h_rv (h_si (h_si (h_si h 176 i (nI r)) 177 i (nI 0)) 178 i (nI 0)) 172 1 = P := pl
  obtain ⟨X, x1, x2, x3, -⟩ := x.srv
  simp (maxSteps := 3000000) (disch := first | assumption | omega) only [m_X4_lookAtEngine, bO_v, bR_v, bX_l, bX_r, bC_l, bC_r, aLet_v, nI_add, pk_mul, dvI_n, rmI_n, iMax_n, iMin_n, zO_0, zO_1, li_0, li_1, li_2, li_3, li_4, li_5, li_6, li_7, li_8, li_9, li_10, li_12, li_14, li_15, li_16, li_18, li_19, li_20, li_22, li_23, li_24, li_26, li_29, li_30, li_31, li_32, li_36, li_38, li_48, li_50, li_57, li_58, li_59, li_60, li_63, li_97, li_99, li_120, li_122, li_144, li_168, li_194, li_240, li_255, li_284, li_299, li_603, li_999, li_1200, li_1440, li_4095, li_4096, li_6030, li_16384, li_20160, mp, p_pes hS hP, p_ee_al hS hP, c_pu3 hS, p_eed_p hS hP, c_cU_gi hS, hf, p_cP_gS hS hP, me, c_cu3_as hS, c_pu4 S1, c_cu4_as S1, c_pu5 S2, c_cu5_as S2, ms3]
  generalize h_si (h_si (h_si h 176 i (nI r)) 177 i (nI 0)) 178 i (nI 0) = h3 at F3 S3 g74 g75 g76 g705 mp3 ms3 pl3 ⊢
  have stN : ∀ o k, a ≤ o → o < a + 18 → ¬ LKx i o k := fun o k q1 q2 q3 => by unfold LKx at q3; omega
  have plN : ∀ o k, P ≤ o → o < P + 65 → ¬ LKx i o k := fun o k q1 q2 q3 => by unfold LKx at q3; omega
  have y3 := y.fx F3 hD plN
  have xx3 := x.fx F3 stN
  have e13 : h_iv h3 a 13 = nI X := by rw [F3.iv (stN a 13 (by omega) (by omega))]; exact x1
  have hX : X.testBit e = !rstd S e := by
    rw [x3 e he]
    unfold rstd
    by_cases c : S (284 + 3 * e + 1) = 0
    · rw [decide_eq_true c, decide_eq_false (fun q => q c)]; rfl
    · rw [decide_eq_false c, decide_eq_true c]; rfl
  have ko := k_isEngineOut S3 ha xx3 hD hR he
  have ar3 : ∀ p, p < T 412 8 → h_iv h3 174 p = nI (arr T S p) := fun p hp => by rw [F3.iv (fun q => by unfold LKx at q; omega)]; exact har p hp
  simp (maxSteps := 3000000) (disch := first | assumption | omega) only [bO_v, bR_v, bX_l, bX_r, bC_l, bC_r, aLet_v, nI_add, pk_mul, dvI_n, rmI_n, iMax_n, iMin_n, zO_0, zO_1, li_0, li_1, li_2, li_3, li_4, li_5, li_6, li_7, li_8, li_9, li_10, li_12, li_14, li_15, li_16, li_18, li_19, li_20, li_22, li_23, li_24, li_26, li_29, li_30, li_31, li_32, li_36, li_38, li_48, li_50, li_57, li_58, li_59, li_60, li_63, li_97, li_99, li_120, li_122, li_144, li_168, li_194, li_240, li_255, li_284, li_299, li_603, li_999, li_1200, li_1440, li_4095, li_4096, li_6030, li_16384, li_20160, s_cS_gi S3 ha, e13, k_has, hX]
  refine aJ_gen (R := fun o => OK o _) (fun k169 hk169 => ?_)
  cases w1 : rstd S e
  · rw [show (!false) = true from rfl, b2i_t rfl, if_neg (fun q => absurd ((nI_eq (by decide) (by decide)).mp q) (by decide))]
    simp (maxSteps := 3000000) (disch := first | assumption | omega) only [bO_v, bR_v, bX_l, bX_r, bC_l, bC_r, aLet_v, nI_add, pk_mul, dvI_n, rmI_n, iMax_n, iMin_n, zO_0, zO_1, li_0, li_1, li_2, li_3, li_4, li_5, li_6, li_7, li_8, li_9, li_10, li_12, li_14, li_15, li_16, li_18, li_19, li_20, li_22, li_23, li_24, li_26, li_29, li_30, li_31, li_32, li_36, li_38, li_48, li_50, li_57, li_58, li_59, li_60, li_63, li_97, li_99, li_120, li_122, li_144, li_168, li_194, li_240, li_255, li_284, li_299, li_603, li_999, li_1200, li_1440, li_4095, li_4096, li_6030, li_16384, li_20160, ms3, s_cS_gS S3 ha, ko]
    cases w2 : eout S e
    · rw [show decide (S 0 < S (284 + 3 * e)) = false from w2, b2i_f rfl, if_pos rfl]
      simp (maxSteps := 3000000) (disch := first | assumption | omega) only [bO_v, bR_v, bX_l, bX_r, bC_l, bC_r, aLet_v, nI_add, pk_mul, dvI_n, rmI_n, iMax_n, iMin_n, zO_0, zO_1, li_0, li_1, li_2, li_3, li_4, li_5, li_6, li_7, li_8, li_9, li_10, li_12, li_14, li_15, li_16, li_18, li_19, li_20, li_22, li_23, li_24, li_26, li_29, li_30, li_31, li_32, li_36, li_38, li_48, li_50, li_57, li_58, li_59, li_60, li_63, li_97, li_99, li_120, li_122, li_144, li_168, li_194, li_240, li_255, li_284, li_299, li_603, li_999, li_1200, li_1440, li_4095, li_4096, li_6030, li_16384, li_20160, c_pu3 S3, c_cu3_al S3, g74, p_ee_gi S3 hP, y3.pst e he, nI_ltI]
      by_cases c1 : r < T 426 e
      · have eC : crwE T S e A = 0 := by unfold crwE crw; rw [if_pos (by rw [hr]; exact c1)]
        rw [if_pos c1]
        simp (maxSteps := 3000000) (disch := first | assumption | omega) only [bO_v, bR_v, bX_l, bX_r, bC_l, bC_r, aLet_v, nI_add, pk_mul, dvI_n, rmI_n, iMax_n, iMin_n, zO_0, zO_1, li_0, li_1, li_2, li_3, li_4, li_5, li_6, li_7, li_8, li_9, li_10, li_12, li_14, li_15, li_16, li_18, li_19, li_20, li_22, li_23, li_24, li_26, li_29, li_30, li_31, li_32, li_36, li_38, li_48, li_50, li_57, li_58, li_59, li_60, li_63, li_97, li_99, li_120, li_122, li_144, li_168, li_194, li_240, li_255, li_284, li_299, li_603, li_999, li_1200, li_1440, li_4095, li_4096, li_6030, li_16384, li_20160, c_pu2 S3, c_cu2_as S3, hk169]
        refine ok_ret ⟨F3.trans (Fx.si (Or.inl ⟨by decide, by decide, rfl⟩)), ?_, ?_, ?_, ?_, ?_⟩
        · rw [si_ne (by omega)]; exact g74
        · rw [si_at, eC]; rfl
        · rw [si_ne (by omega), eC]; exact g75
        · rw [si_ne (by omega), eC]; exact g76.trans (by rw [show (if (false || false) = true then 0 else 0 : Nat) = 0 from rfl, l0])
        · rw [si_ne (by omega), eC]
          show _ = nI (ldf A 0)
          rw [ldf_0 hA2]
          exact g705
      · have hn : r = T 426 e := by omega
        have cb := crw_best (K := Kc T) (ar := arr T S) (t := tyE T e) (n := T 426 e) (A := A) (fun k => ptyp_lt _) (by omega) d0 hA (fun p hp => by have := arr_lt hD (S := S) hp; omega) (by rw [hr]; exact c1)
        obtain ⟨b1, b2, b3', b4, -⟩ := cb
        have eC : crwE T S e A = fcr (tyE T e) (Kc T) (T 426 e) (fwd (arr T S) (T 412 8) A (edp (tyE T e) (Kc T) (arr T S) (T 426 e) (T 412 8) A (T 412 8))) 12 := by unfold crwE crw; rw [if_neg (by rw [hr]; exact c1)]
        have eL : latK (arr T S) (crwE T S e A) (T 412 8) = edp (tyE T e) (Kc T) (arr T S) (T 426 e) (T 412 8) A (T 412 8) := b4
        have c0 : crwE T S e A ≠ 0 := fun q => by
          have h9 : sz (crwE T S e A) = T 426 e := b3'
          rw [q, show sz 0 = 0 by decide] at h9
          omega
        have cl : crwE T S e A < 2 ^ T 412 8 := sub_lt (show sub (crwE T S e A) A from b1) hA
        generalize hd : edp (tyE T e) (Kc T) (arr T S) (T 426 e) (T 412 8) A (T 412 8) = d at eC eL
        have hdl : d ≤ 1440 := by
          rw [← eL]
          exact Nat.le_trans (latK_le (fun p hp _ => arr_lt hD (S := S) hp)) (by decide)
        have F4 : Fx (LKx i) h (h_si h3 175 i (nI 0)) := F3.trans (Fx.si (Or.inl ⟨by decide, by decide, rfl⟩))
        have S4 := F4.sh hS
        have y4 := y.fx F4 hD plN
        have k1 := k_earliest S4 hP (show h_rv (h_si h3 175 i (nI 0)) 172 1 = P from pl3) y4 hD he (by rw [si_ne (by omega)]; exact g705) hA (fun p hp => by rw [si_ne (by omega)]; exact ar3 p hp) (fun p hp => arr_lt hD (S := S) hp)
        rw [hd] at k1
        have F5 : Fx (LKx i) h (h_si (h_si h3 175 i (nI 0)) 178 i (nI d)) := F4.trans (Fx.si (Or.inl ⟨by decide, by decide, rfl⟩))
        have S5 := F5.sh hS
        have y5 := y.fx F5 hD plN
        have g5 : h_iv (h_si (h_si h3 175 i (nI 0)) 178 i (nI d)) 178 i = nI d := si_at
        have k2 := k_freeWithin S5 hP (show h_rv (h_si (h_si h3 175 i (nI 0)) 178 i (nI d)) 172 1 = P from pl3) y5 hD (by rw [si_ne (by omega), si_ne (by omega)]; exact g705) hA (fun p hp => by rw [si_ne (by omega), si_ne (by omega)]; exact ar3 p hp) (fun p hp => arr_lt hD (S := S) hp) (show d < 2147483648 by omega)
        have k3 := k_firstCrew S5 hP (show h_rv (h_si (h_si h3 175 i (nI 0)) 178 i (nI d)) 172 1 = P from pl3) y5 hD he (B := fwd (arr T S) (T 412 8) A d) fwd_lt
        rw [← eC] at k3
        have F6 : Fx (LKx i) h (h_si (h_si (h_si h3 175 i (nI 0)) 178 i (nI d)) 177 i (nI (crwE T S e A))) := F5.trans (Fx.si (Or.inl ⟨by decide, by decide, rfl⟩))
        have S6 := F6.sh hS
        have g6 : h_iv (h_si (h_si (h_si h3 175 i (nI 0)) 178 i (nI d)) 177 i (nI (crwE T S e A))) 172 5 = nI A := by rw [si_ne (by omega), si_ne (by omega), si_ne (by omega)]; exact g705
        have g7 : h_iv (h_si (h_si (h_si h3 175 i (nI 0)) 178 i (nI d)) 177 i (nI (crwE T S e A))) 177 i = nI (crwE T S e A) := si_at
        rw [if_neg c1]
        simp (maxSteps := 3000000) (disch := first | assumption | omega) only [bO_v, bR_v, bX_l, bX_r, bC_l, bC_r, aLet_v, nI_add, pk_mul, dvI_n, rmI_n, iMax_n, iMin_n, zO_0, zO_1, li_0, li_1, li_2, li_3, li_4, li_5, li_6, li_7, li_8, li_9, li_10, li_12, li_14, li_15, li_16, li_18, li_19, li_20, li_22, li_23, li_24, li_26, li_29, li_30, li_31, li_32, li_36, li_38, li_48, li_50, li_57, li_58, li_59, li_60, li_63, li_97, li_99, li_120, li_122, li_144, li_168, li_194, li_240, li_255, li_284, li_299, li_603, li_999, li_1200, li_1440, li_4095, li_4096, li_6030, li_16384, li_20160, c_pu2 S3, c_cu2_as S3, c_pu5 S4, c_cU_gS S4, k1, c_cu5_as S4, c_pu4 S5, c_pu5 S5, c_cu5_al S5, g5, c_cU_gS S5, k2, k3, c_cu4_as S5, c_cU_gi S6, g6, c_pu4 S6, c_cu4_al S6, g7, c_cU_pi S6, ldf_is hA2, hk169]
        have eF : (if (false || false) = true then 0 else crwE T S e A) = crwE T S e A := rfl
        refine ok_ret ⟨F6.trans (Fx.si (Or.inr ⟨rfl, rfl⟩)), ?_, ?_, ?_, ?_, ?_⟩
        · rw [si_ne (by omega), si_ne (by omega), si_ne (by omega), si_ne (by omega)]; exact g74
        · rw [si_ne (by omega), si_ne (by omega), si_ne (by omega), si_at, eF, if_neg c0]; rfl
        · rw [si_ne (by omega), si_at, eF]
        · rw [si_ne (by omega), si_ne (by omega), si_at, eF, eL]
        · rw [si_at, eF]
    · rw [show decide (S 0 < S (284 + 3 * e)) = true from w2, b2i_t rfl, if_neg (fun q => absurd ((nI_eq (by decide) (by decide)).mp q) (by decide))]
      simp (maxSteps := 3000000) (disch := first | assumption | omega) only [bO_v, bR_v, bX_l, bX_r, bC_l, bC_r, aLet_v, nI_add, pk_mul, dvI_n, rmI_n, iMax_n, iMin_n, zO_0, zO_1, li_0, li_1, li_2, li_3, li_4, li_5, li_6, li_7, li_8, li_9, li_10, li_12, li_14, li_15, li_16, li_18, li_19, li_20, li_22, li_23, li_24, li_26, li_29, li_30, li_31, li_32, li_36, li_38, li_48, li_50, li_57, li_58, li_59, li_60, li_63, li_97, li_99, li_120, li_122, li_144, li_168, li_194, li_240, li_255, li_284, li_299, li_603, li_999, li_1200, li_1440, li_4095, li_4096, li_6030, li_16384, li_20160, c_pu2 S3, c_cu2_as S3, hk169]
      refine ok_ret ⟨F3.trans (Fx.si (Or.inl ⟨by decide, by decide, rfl⟩)), ?_, ?_, ?_, ?_, ?_⟩
      · rw [si_ne (by omega)]; exact g74
      · rw [si_at]; rfl
      · rw [si_ne (by omega)]; exact g75
      · rw [si_ne (by omega)]; exact g76.trans (by show nI 0 = nI (latK (arr T S) 0 (T 412 8)); rw [l0])
      · rw [si_ne (by omega)]
        show _ = nI (ldf A 0)
        rw [ldf_0 hA2]
        exact g705
  · rw [show (!true) = false from rfl, b2i_f rfl, if_pos rfl]
    simp (maxSteps := 3000000) (disch := first | assumption | omega) only [bO_v, bR_v, bX_l, bX_r, bC_l, bC_r, aLet_v, nI_add, pk_mul, dvI_n, rmI_n, iMax_n, iMin_n, zO_0, zO_1, li_0, li_1, li_2, li_3, li_4, li_5, li_6, li_7, li_8, li_9, li_10, li_12, li_14, li_15, li_16, li_18, li_19, li_20, li_22, li_23, li_24, li_26, li_29, li_30, li_31, li_32, li_36, li_38, li_48, li_50, li_57, li_58, li_59, li_60, li_63, li_97, li_99, li_120, li_122, li_144, li_168, li_194, li_240, li_255, li_284, li_299, li_603, li_999, li_1200, li_1440, li_4095, li_4096, li_6030, li_16384, li_20160, c_pu2 S3, c_cu2_as S3, hk169]
    refine ok_ret ⟨F3.trans (Fx.si (Or.inl ⟨by decide, by decide, rfl⟩)), ?_, ?_, ?_, ?_, ?_⟩
    · rw [si_ne (by omega)]; exact g74
    · rw [si_at]; rfl
    · rw [si_ne (by omega)]; exact g75
    · rw [si_ne (by omega)]; exact g76.trans (by show nI 0 = nI (latK (arr T S) 0 (T 412 8)); rw [l0])
    · rw [si_ne (by omega)]
      show _ = nI (ldf A 0)
      rw [ldf_0 hA2]
      exact g705
end
