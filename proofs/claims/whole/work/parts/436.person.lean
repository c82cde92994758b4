theorem andnot {x y : Int32} (h : x &&& y = y) : x &&& (y ^^^ -nI 1) = x ^^^ y := b_ext (fun i hi => by
  have h1 : bt (x &&& y) i = bt y i := by rw [h]
  have h2 : bt (-nI 1) i = true := li_1 ▸ b_m1 i hi
  rw [b_and] at h1
  rw [b_and, b_xor, b_xor, h2]
  cases hx : bt x i <;> cases hy : bt y i <;> rw [hx, hy] at h1 <;> first | rfl | cases h1)
theorem and_pow {a p : Nat} (h : a.testBit p = true) : a &&& 2 ^ p = 2 ^ p := Nat.eq_of_testBit_eq (fun i => by
  rw [Nat.testBit_and, Nat.testBit_two_pow]
  by_cases e : p = i
  · rw [← e, h]; simp
  · rw [decide_eq_false e, Bool.and_false])
theorem off_n {a p : Nat} (hp : p < 31) (h : a.testBit p = true) : nI a &&& ((nI 1 <<< (nI p &&& nI 31)) ^^^ -nI 1) = nI (a ^^^ 2 ^ p) := by
  rw [shl1_n hp, andnot (by rw [fa_and, and_pow h]), fb_xorI]
theorem Fr.copy {A : Nat → Prop} {h : aH} {o : Nat} {f : Nat → Int32} (ho : A o) : Fr A h (h_copy h o f) := ⟨rfl, rfl, rfl, rfl, rfl, rfl, fun q hq => up1_o (fun e => hq (by rw [e]; exact ho))⟩
section
variable {h : aH} {P : Nat} {T : Nat → Nat → Nat}
theorem k_copyAll {s t n : Nat} (hs : h_sh h s = 1) (hsl : h_ln h s = n) (ht : h_sh h t = 1) (htl : h_ln h t = n) (hn : n < 100000) : OK (m_X11_copyAll s t h) (fun _ h1 => Fr (fun o => o = t) h h1 ∧ ∀ k, k < n → h_iv h1 t k = h_iv h s k) := by
  have e1 : aln h s = some (nI n) := aln_ok (by omega) (by omega) (by omega) hsl
  have e2 : aln h t = some (nI n) := aln_ok (by omega) (by omega) (by omega) htl
  have t0 : (nI 0).toInt = 0 := rfl
  have tn : (nI n).toInt = n := nI_toInt (by omega)
  have c0 : (nI 0).toNatClampNeg = 0 := rfl
  have cn : (nI n).toNatClampNeg = n := nI_clamp (by omega)
  have mn : iMin (nI n) (nI n) = nI n := by rw [iMin_n (by omega) (by omega), Nat.min_self]
  have e3 : acp h s (nI 0) t (nI 0) (nI n) = some (h_copy h t (va_cpy (h_iv h s) (h_iv h t) 0 0 n)) := by
    unfold acp
    rw [t0, tn, c0, cn, hsl, htl]
    exact if_pos ⟨hs, ht, by omega, by omega, by omega, by omega, by omega⟩
  simp only [m_X11_copyAll, bO_v, e1, e2, li_0, mn, e3]
  refine ok_ret ⟨Fr.copy rfl, fun k hk => ?_⟩
  show (if t = t then va_cpy (h_iv h s) (h_iv h t) 0 0 n else h_iv h t) k = h_iv h s k
  rw [if_pos rfl, sb_cpy0 hk]
theorem k_lowestFor (hS : Sh h) (hP : P ∈ plL) (pl : h_rv h 172 1 = P) (y : PlR h P T) (hD : PlD T) {left u ty : Nat} {t : Nat → Nat} (ht : ∀ k, t k < 5) (hty : ty < 5) (hu : u ≤ 6) (hl : left < 2 ^ T 412 8) (hd : ∀ s, s < 32 → h_iv h 179 s = nI (fb_ct (fun k => s.testBit (t k)) u)) {f : Nat → Bool} (hf : ∀ p, f p = (left.testBit p && ((Kc T p).testBit ty && decide (rk t (Kc T) u (left ^^^ 2 ^ p) = u)))) (hN : fa_first f (T 412 8) < T 412 8) : m_X4_lowestFor 172 (nI (2 ^ ty)) (nI left) h = some (nI (fa_first f (T 412 8)), h) := by
  have d0 := hD.nP
  have hl2 := two_pow_lt d0 hl
  have mp := k_mplan hS hP pl
  have e31 : fb_ct (fun k => (31 : Nat).testBit (t k)) u = u := fb_ct_all.mpr (fun k _ => by
    have hh : ∀ j, j < 5 → (31 : Nat).testBit j = true := by decide
    exact hh _ (ht k))
  have d31 := hd 31 (by decide)
  rw [e31] at d31
  have ty2 : 2 ^ ty < 32 := Nat.pow_lt_pow_right (by decide) hty
  have ab := y.able (2 ^ ty) ty2
  have fy := fa_first_yes f (T 412 8) hN
  simp (maxSteps := 3000000) (disch := first | assumption | omega) only [m_X4_lowestFor, bO_v, bR_v, bX_l, bX_r, bC_l, bC_r, aJ_v, aLet_v, nI_add, pk_mul, dvI_n, rmI_n, iMax_n, iMin_n, zO_0, zO_1, li_0, li_1, li_2, li_3, li_4, li_5, li_6, li_7, li_8, li_9, li_10, li_12, li_14, li_15, li_16, li_18, li_19, li_20, li_22, li_23, li_24, li_26, li_29, li_30, li_31, li_32, li_36, li_38, li_48, li_50, li_57, li_58, li_59, li_60, li_63, li_97, li_99, li_120, li_122, li_144, li_168, li_194, li_240, li_255, li_284, li_299, li_603, li_999, li_1200, li_1440, li_4095, li_4096, li_6030, li_16384, li_20160, c_pu6 hS, c_cu6_al hS, d31]
  refine aL1_run (R := fun o => o = some (nI (fa_first f (T 412 8)), h)) (fun m s1 h1 => h1 = h ∧ ∃ i, i ≤ fa_first f (T 412 8) ∧ m = T 412 8 - i ∧ s1 = nI i) ⟨rfl, 0, Nat.zero_le _, rfl, rfl⟩ (by omega) ?_
  rintro rec m s1 h1 ⟨rfl, i, hi, rfl, rfl⟩ ih
  have hlt : i < T 412 8 := by omega
  have amk : mk (fun p => decide (2 ^ ty &&& (16 + T 421 p) ≠ 0)) (T 412 8) < 4096 := two_pow_lt d0 (mk_lt _)
  have abt : (left &&& mk (fun p => decide (2 ^ ty &&& (16 + T 421 p) ≠ 0)) (T 412 8)).testBit i = (left.testBit i && (Kc T i).testBit ty) := by
    rw [Nat.testBit_and, mk_bit, decide_eq_true hlt, Bool.true_and, Nat.and_comm (2 ^ ty), and_bit]
    rfl
  have aml : left &&& mk (fun p => decide (2 ^ ty &&& (16 + T 421 p) ≠ 0)) (T 412 8) < 4096 := Nat.lt_of_le_of_lt Nat.and_le_left hl2
  simp (maxSteps := 3000000) (disch := first | assumption | omega) only [m_X4_lowestFor_L11, bO_v, bR_v, bX_l, bX_r, bC_l, bC_r, aLet_v, nI_add, pk_mul, dvI_n, rmI_n, iMax_n, iMin_n, zO_0, zO_1, li_0, li_1, li_2, li_3, li_4, li_5, li_6, li_7, li_8, li_9, li_10, li_12, li_14, li_15, li_16, li_18, li_19, li_20, li_22, li_23, li_24, li_26, li_29, li_30, li_31, li_32, li_36, li_38, li_48, li_50, li_57, li_58, li_59, li_60, li_63, li_97, li_99, li_120, li_122, li_144, li_168, li_194, li_240, li_255, li_284, li_299, li_603, li_999, li_1200, li_1440, li_4095, li_4096, li_6030, li_16384, li_20160, mp, p_cP_gi hS hP, y.nP, nI_ltI, p_pable hS hP, p_cable_al hS hP, ab, fa_and left, k_has, abt, b2i_0]
  rw [if_pos hlt]
  refine aJ_gen (R := fun o => o = some (nI (fa_first f (T 412 8)), h1)) (fun k68 hk68 => ?_)
  have no : f i = false → k68 h1 = some (nI (fa_first f (T 412 8)), h1) := fun q => by
    rw [hk68]
    simp only [bO_v, bR_v, bX_l, bX_r, bC_l, bC_r, aLet_v, nI_add, pk_mul, dvI_n, rmI_n, iMax_n, iMin_n, zO_0, zO_1, li_0, li_1, li_2, li_3, li_4, li_5, li_6, li_7, li_8, li_9, li_10, li_12, li_14, li_15, li_16, li_18, li_19, li_20, li_22, li_23, li_24, li_26, li_29, li_30, li_31, li_32, li_36, li_38, li_48, li_50, li_57, li_58, li_59, li_60, li_63, li_97, li_99, li_120, li_122, li_144, li_168, li_194, li_240, li_255, li_284, li_299, li_603, li_999, li_1200, li_1440, li_4095, li_4096, li_6030, li_16384, li_20160]
    refine ih _ _ _ (by omega) ⟨rfl, i + 1, ?_, rfl, rfl⟩
    by_cases e : i = fa_first f (T 412 8)
    · rw [← e, q] at fy; cases fy
    · omega
  cases c1 : (left.testBit i && (Kc T i).testBit ty)
  · rw [if_pos rfl]
    exact no (by rw [hf, ← Bool.and_assoc, c1]; rfl)
  · rw [if_neg (by decide)]
    have c2 : left.testBit i = true := by rw [Bool.and_eq_true] at c1; exact c1.1
    have xl := x_lt c2
    have x2 : left ^^^ 2 ^ i < 2 ^ T 412 8 := by omega
    have mm := k_mostManned hS hP y hD (c_cu6 hS).1 (c_cu6 hS).2 hd ht (by omega) x2
    have b3 := rk_le t (Kc T) u (left ^^^ 2 ^ i)
    simp (maxSteps := 3000000) (disch := first | assumption | omega) only [bO_v, bR_v, bX_l, bX_r, bC_l, bC_r, aLet_v, nI_add, pk_mul, dvI_n, rmI_n, iMax_n, iMin_n, zO_0, zO_1, li_0, li_1, li_2, li_3, li_4, li_5, li_6, li_7, li_8, li_9, li_10, li_12, li_14, li_15, li_16, li_18, li_19, li_20, li_22, li_23, li_24, li_26, li_29, li_30, li_31, li_32, li_36, li_38, li_48, li_50, li_57, li_58, li_59, li_60, li_63, li_97, li_99, li_120, li_122, li_144, li_168, li_194, li_240, li_255, li_284, li_299, li_603, li_999, li_1200, li_1440, li_4095, li_4096, li_6030, li_16384, li_20160, c_pu6 hS, p_cP_gS hS hP, off_n (show i < 31 by omega) c2, mm, nI_eq]
    by_cases c3 : rk t (Kc T) u (left ^^^ 2 ^ i) = u
    · rw [if_pos c3]
      have fi : f i = true := by rw [hf, ← Bool.and_assoc, c1, decide_eq_true c3]; rfl
      have e : i = fa_first f (T 412 8) := by
        by_cases e : i = fa_first f (T 412 8)
        · exact e
        · have := fa_first_no f (T 412 8) i (by omega)
          rw [fi] at this
          cases this
      rw [← e]
    · rw [if_neg c3]
      exact no (by rw [hf, ← Bool.and_assoc, c1, decide_eq_false c3]; rfl)
theorem k_personAt (hS : Sh h) (hP : P ∈ plL) (pl : h_rv h 172 1 = P) (y : PlR h P T) (hD : PlD T) {e crew w : Nat} (he : e < T 412 10) (hw : w < T 426 e) (hl : crew < 2 ^ T 412 8) (hs : sz crew = T 426 e) (hM : Me (tyE T e) (Kc T) (T 426 e) crew) :
    OK (m_X4_personAt 172 (P + 32 + 3 * e) (nI crew) (nI w) h) (fun r h1 => r = nI (pkP (tyE T e) (Kc T) (T 426 e) (T 412 8) crew w) ∧ Fr (fun o => o = 179) h h1) := by
  have d0 := hD.nP
  have d1 := hD.nE
  have d2 := hD.pst e he
  have e5 : e < 5 := by omega
  have q := p_eed hS hP (i := e) e5
  have hty : ∀ k, tyE T e k < 5 := fun k => ptyp_lt _
  simp (maxSteps := 3000000) (disch := first | assumption | omega) only [m_X4_personAt, bO_v, bR_v, bX_l, bX_r, bC_l, bC_r, aLet_v, nI_add, pk_mul, dvI_n, rmI_n, iMax_n, iMin_n, zO_0, zO_1, li_0, li_1, li_2, li_3, li_4, li_5, li_6, li_7, li_8, li_9, li_10, li_12, li_14, li_15, li_16, li_18, li_19, li_20, li_22, li_23, li_24, li_26, li_29, li_30, li_31, li_32, li_36, li_38, li_48, li_50, li_57, li_58, li_59, li_60, li_63, li_97, li_99, li_120, li_122, li_144, li_168, li_194, li_240, li_255, li_284, li_299, li_603, li_999, li_1200, li_1440, li_4095, li_4096, li_6030, li_16384, li_20160, p_eed_p hS hP, c_pu6 hS]
  refine ok_bR (k_copyAll q.1 q.2 (c_cu6 hS).1 (c_cu6 hS).2 (by decide)) (fun _ h1 hh => ?_)
  obtain ⟨F1, v1⟩ := hh
  have w1 : ∀ s, s < 32 → h_iv h1 179 s = nI (fb_ct (fun k => s.testBit (rvT (tyE T e) (T 426 e) k)) (T 426 e - 0)) := fun s hs => by
    rw [v1 s hs, y.dmd e he s hs, dmd_is hD he, Nat.sub_zero]
    congr 1
    exact (ct_rev (fun k => s.testBit (tyE T e k)) (T 426 e)).symm
  simp only [aJ_v]
  refine aL3_run (R := fun o => OK o _) (fun n s1 s2 s3 h2 => ∃ j, j ≤ w + 1 ∧ n = w + 1 - j ∧ s3 = nI j ∧ s1 = nI (pkL (tyE T e) (Kc T) (T 426 e) (T 412 8) crew j) ∧ (j = 0 ∨ s2 = nI (pkP (tyE T e) (Kc T) (T 426 e) (T 412 8) crew (j - 1))) ∧ Fr (fun o => o = 179) h h2 ∧ ∀ s, s < 32 → h_iv h2 179 s = nI (fb_ct (fun k => s.testBit (rvT (tyE T e) (T 426 e) k)) (T 426 e - j))) ⟨0, Nat.zero_le _, rfl, rfl, rfl, Or.inl rfl, F1, w1⟩ (by omega) ?_
  rintro rec n s1 s2 s3 h2 ⟨j, hj, rfl, rfl, rfl, hc, F2, v2⟩ ih
  have S2 := F2.sh hS
  have y2 : PlR h2 P T := y.fr F2 hD (fun o q1 q2 q3 => by have := pl_in P hP; omega)
  by_cases hlt : j ≤ w
  · have hjn : j < T 426 e := by omega
    have ps : h_iv h2 (P + 33 + 3 * e) j = nI (2 ^ tyE T e j) := by rw [y2.psk e he j hjn, pbit_is (hD.psk e he j hjn)]; rfl
    have tyb : 2 ^ tyE T e j < 32 := Nat.pow_lt_pow_right (by decide) (hty j)
    obtain ⟨i1, i2, i3, i4⟩ := pk_inv hty d0 hl hs hM (j := j) (by omega)
    obtain ⟨p1, p2, p3, p4, p5⟩ := pk_step hty d0 hjn i1 i2 i3
    have i5 := two_pow_lt d0 i1
    simp (maxSteps := 3000000) (disch := first | assumption | omega) only [m_X4_personAt_L20, bO_v, bR_v, bX_l, bX_r, bC_l, bC_r, aLet_v, nI_add, pk_mul, dvI_n, rmI_n, iMax_n, iMin_n, zO_0, zO_1, li_0, li_1, li_2, li_3, li_4, li_5, li_6, li_7, li_8, li_9, li_10, li_12, li_14, li_15, li_16, li_18, li_19, li_20, li_22, li_23, li_24, li_26, li_29, li_30, li_31, li_32, li_36, li_38, li_48, li_50, li_57, li_58, li_59, li_60, li_63, li_97, li_99, li_120, li_122, li_144, li_168, li_194, li_240, li_255, li_284, li_299, li_603, li_999, li_1200, li_1440, li_4095, li_4096, li_6030, li_16384, li_20160, p_ee_gi S2 hP, y2.pst e he, nI_leI, nI_ltI, p_ees_p S2 hP, p_ees_al S2 hP, ps]
    rw [if_pos hlt, if_pos hjn]
    refine aJ_gen (R := fun o => OK o _) (fun k83 hk83 => ?_)
    refine aL1_run (R := fun o => OK o _) (fun n s1 h3 => ∃ s, s ≤ 32 ∧ n = 32 - s ∧ s1 = nI s ∧ Fr (fun o => o = 179) h h3 ∧ (∀ c, c < s → h_iv h3 179 c = nI (fb_ct (fun k => c.testBit (rvT (tyE T e) (T 426 e) k)) (T 426 e - (j + 1)))) ∧ ∀ c, s ≤ c → c < 32 → h_iv h3 179 c = nI (fb_ct (fun k => c.testBit (rvT (tyE T e) (T 426 e) k)) (T 426 e - j))) ⟨0, Nat.zero_le _, rfl, rfl, F2, fun c hc => absurd hc (Nat.not_lt_zero c), fun c _ hc => v2 c hc⟩ (by omega) ?_
    rintro rec2 n s1 h3 ⟨s, hs32, rfl, rfl, F3, a3, b3⟩ ih2
    have S3 := F3.sh hS
    by_cases hl3 : s < 32
    · have bs := b3 s (Nat.le_refl _) hl3
      have ect : fb_ct (fun k => s.testBit (rvT (tyE T e) (T 426 e) k)) (T 426 e - j) = fb_ct (fun k => s.testBit (rvT (tyE T e) (T 426 e) k)) (T 426 e - (j + 1)) + (if s.testBit (tyE T e j) then 1 else 0) := by
        rw [show T 426 e - j = (T 426 e - (j + 1)) + 1 by omega, fb_ct_succ]
        congr 2
        unfold rvT
        rw [show T 426 e - 1 - (T 426 e - (j + 1)) = j by omega]
      have next : ∀ v, v = fb_ct (fun k => s.testBit (rvT (tyE T e) (T 426 e) k)) (T 426 e - (j + 1)) → OK (rec2 (nI (s + 1)) (h_si h3 179 s (nI v))) (fun r h1 => r = nI (pkP (tyE T e) (Kc T) (T 426 e) (T 412 8) crew w) ∧ Fr (fun o => o = 179) h h1) := fun v hv => by
        refine ih2 _ _ _ (by omega) ⟨s + 1, hl3, rfl, rfl, F3.trans (Fr.si rfl), fun c hc => ?_, fun c hc1 hc2 => ?_⟩
        · by_cases e9 : c = s
          · rw [e9, si_at, hv]
          · rw [si_ne (by omega)]; exact a3 c (by omega)
        · rw [si_ne (by omega)]; exact b3 c (by omega) hc2
      have ab : (s &&& 2 ^ tyE T e j = 0) ↔ s.testBit (tyE T e j) = false := by
        rw [← and_bit]
        simp
      have al : s &&& 2 ^ tyE T e j < 2147483648 := Nat.lt_of_le_of_lt Nat.and_le_left (by omega)
      simp (maxSteps := 3000000) (disch := first | assumption | omega) only [m_X4_personAt_L47, bO_v, bR_v, bX_l, bX_r, bC_l, bC_r, aJ_v, aLet_v, nI_add, pk_mul, dvI_n, rmI_n, iMax_n, iMin_n, zO_0, zO_1, li_0, li_1, li_2, li_3, li_4, li_5, li_6, li_7, li_8, li_9, li_10, li_12, li_14, li_15, li_16, li_18, li_19, li_20, li_22, li_23, li_24, li_26, li_29, li_30, li_31, li_32, li_36, li_38, li_48, li_50, li_57, li_58, li_59, li_60, li_63, li_97, li_99, li_120, li_122, li_144, li_168, li_194, li_240, li_255, li_284, li_299, li_603, li_999, li_1200, li_1440, li_4095, li_4096, li_6030, li_16384, li_20160, c_pu6 S3, c_cu6_al S3, c_cu6_as S3, bs, nI_ltI, fa_and s, nI_eq, ab]
      rw [if_pos hl3]
      by_cases c1 : s.testBit (tyE T e j) = false
      · rw [if_pos c1]
        rw [if_neg (by rw [c1]; decide)] at ect
        rw [pk_sub (Nat.zero_le _), Nat.sub_zero]
        exact next _ ect
      · rw [if_neg c1]
        rw [if_pos (by simpa using c1)] at ect
        rw [pk_sub (by omega)]
        exact next _ (by omega)
    · obtain rfl : s = 32 := by omega
      simp (maxSteps := 3000000) (disch := first | assumption | omega) only [m_X4_personAt_L47, bO_v, bR_v, bX_l, bX_r, bC_l, bC_r, aLet_v, nI_add, pk_mul, dvI_n, rmI_n, iMax_n, iMin_n, zO_0, zO_1, li_0, li_1, li_2, li_3, li_4, li_5, li_6, li_7, li_8, li_9, li_10, li_12, li_14, li_15, li_16, li_18, li_19, li_20, li_22, li_23, li_24, li_26, li_29, li_30, li_31, li_32, li_36, li_38, li_48, li_50, li_57, li_58, li_59, li_60, li_63, li_97, li_99, li_120, li_122, li_144, li_168, li_194, li_240, li_255, li_284, li_299, li_603, li_999, li_1200, li_1440, li_4095, li_4096, li_6030, li_16384, li_20160, nI_ltI]
      rw [if_neg hl3, hk83]
      have y3 : PlR h3 P T := y.fr F3 hD (fun o q1 q2 q3 => by have := pl_in P hP; omega)
      have lw := k_lowestFor (t := rvT (tyE T e) (T 426 e)) (ty := tyE T e j) (u := T 426 e - (j + 1)) (left := pkL (tyE T e) (Kc T) (T 426 e) (T 412 8) crew j) (f := chB (tyE T e) (Kc T) (T 426 e) (pkL (tyE T e) (Kc T) (T 426 e) (T 412 8) crew j) j) S3 hP (by rw [F3.rv]; exact pl) y3 hD (fun k => hty _) (hty j) (by omega) i1 a3 (fun p => by unfold chB; rw [show T 426 e - 1 - j = T 426 e - (j + 1) by omega]) p1
      have pm1 : ¬ nI (fa_first (chB (tyE T e) (Kc T) (T 426 e) (pkL (tyE T e) (Kc T) (T 426 e) (T 412 8) crew j) j) (T 412 8)) = -nI 1 := fun q9 => by
        have h9 := congrArg Int32.toInt q9
        rw [nI_toInt (by omega)] at h9
        have h10 : (-nI 1).toInt = -1 := by decide
        omega
      have bt : (pkL (tyE T e) (Kc T) (T 426 e) (T 412 8) crew j).testBit (fa_first (chB (tyE T e) (Kc T) (T 426 e) (pkL (tyE T e) (Kc T) (T 426 e) (T 412 8) crew j) j) (T 412 8)) = true := by
        unfold chB at p2
        rw [Bool.and_eq_true] at p2
        exact p2.1
      simp (maxSteps := 3000000) (disch := first | assumption | omega) only [bO_v, bR_v, bX_l, bX_r, bC_l, bC_r, aJ_v, aLet_v, nI_add, pk_mul, dvI_n, rmI_n, iMax_n, iMin_n, zO_0, zO_1, li_0, li_1, li_2, li_3, li_4, li_5, li_6, li_7, li_8, li_9, li_10, li_12, li_14, li_15, li_16, li_18, li_19, li_20, li_22, li_23, li_24, li_26, li_29, li_30, li_31, li_32, li_36, li_38, li_48, li_50, li_57, li_58, li_59, li_60, li_63, li_97, li_99, li_120, li_122, li_144, li_168, li_194, li_240, li_255, li_284, li_299, li_603, li_999, li_1200, li_1440, li_4095, li_4096, li_6030, li_16384, li_20160, c_cU_gS S3, lw, off_n (show fa_first (chB (tyE T e) (Kc T) (T 426 e) (pkL (tyE T e) (Kc T) (T 426 e) (T 412 8) crew j) j) (T 412 8) < 31 by omega) bt]
      rw [if_neg pm1]
      exact ih _ _ _ _ _ (by omega) ⟨j + 1, by omega, rfl, rfl, rfl, Or.inr rfl, F3, a3⟩
  · obtain rfl : j = w + 1 := by omega
    simp (maxSteps := 3000000) (disch := first | assumption | omega) only [m_X4_personAt_L20, bO_v, bR_v, bX_l, bX_r, bC_l, bC_r, aLet_v, nI_add, pk_mul, dvI_n, rmI_n, iMax_n, iMin_n, zO_0, zO_1, li_0, li_1, li_2, li_3, li_4, li_5, li_6, li_7, li_8, li_9, li_10, li_12, li_14, li_15, li_16, li_18, li_19, li_20, li_22, li_23, li_24, li_26, li_29, li_30, li_31, li_32, li_36, li_38, li_48, li_50, li_57, li_58, li_59, li_60, li_63, li_97, li_99, li_120, li_122, li_144, li_168, li_194, li_240, li_255, li_284, li_299, li_603, li_999, li_1200, li_1440, li_4095, li_4096, li_6030, li_16384, li_20160, nI_leI]
    rw [if_neg hlt]
    rcases hc with hc | hc
    · omega
    · exact ok_ret ⟨hc, F2⟩
end
