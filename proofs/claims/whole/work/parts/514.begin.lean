/-! what holds behind the constructors -/
def nt (j : Nat) : Nat := if j = 0 then 22 else if j = 1 then 6 else if j = 2 then 5 else 240
theorem sh_all : ∀ q ∈ shL, q.1 < 463 ∧ SH q.1 = q.2.1 ∧ (q.2.1 < 10 → LN q.1 = q.2.2) := by decide +kernel
theorem pt_all : ∀ q ∈ ptL, RVp 476 q.1 q.2.1 = q.2.2 := by decide +kernel
theorem pt_lt : ∀ q ∈ ptL, q.1 < 462 := by decide +kernel
theorem pt_more : RVp 476 1 3 = 4 ∧ RVp 476 1 4 = 69 ∧ RVp 476 134 0 = 4 ∧ ∀ i, i < 10 → RVp 476 181 i = 184 + 19 * i := by decide +kernel
theorem fc_0 {o k : Nat} (h1 : ¬ (o = 3 ∧ k = 10)) (h2 : ¬ (o = 5 ∧ k < 4)) : fC o k = nI 0 := by
  unfold fC
  rw [u2n (by omega), u2n (by omega), u2n (by omega), u2n (by omega), u2n (by omega)]
  rfl
theorem fr_0 {o k : Nat} (h1 : ¬ (o = 3 ∧ k = 10)) (h2 : ¬ (o = 412 ∧ k = 32)) (h3 : ¬ ((o = 5 ∨ o = 436) ∧ k < 4)) : fR o k = nI 0 := by
  unfold fR
  rw [u2n (by omega), u2n (by omega), u2n (by omega), u2n (by omega), u2n (by omega)]
  exact fc_0 (by omega) (by omega)
theorem fr_v : fR 3 10 = -nI 1 ∧ fR 412 32 = -nI 1 ∧ ∀ j, j < 4 → fR 5 j = nI (nt j) ∧ fR 436 j = nI (nt j) := by decide +kernel
theorem b_start : B 1 0 (fun _ _ => 0) aH0 := by
  refine ⟨?_, fun q hq => absurd hq (List.not_mem_nil), fun _ _ _ => rfl⟩
  have e1 : (fun o => if o < 1 then SH o else 0) = fun _ => 0 := funext fun o => by
    by_cases c : o < 1
    · obtain rfl : o = 0 := by omega
      rfl
    · exact if_neg c
  have e2 : (fun o => if o < 1 then LN o else 0) = fun _ => 0 := funext fun o => by
    by_cases c : o < 1
    · obtain rfl : o = 0 := by omega
      rfl
    · exact if_neg c
  unfold Bh
  rw [e1, e2]
  rfl
theorem sl_all : SLn 462 = 29794 := by decide +kernel
section
variable {h g : aH}
theorem b_shr (b : B 462 476 fR h) : ShR h := by
  obtain ⟨b1, b2, b3⟩ := b
  refine ⟨by rw [b1]; exact Nat.le_refl _, fun q hq q1 q2 => ?_, fun q hq q1 => ?_⟩
  · obtain ⟨x1, x2, x3⟩ := sh_all q hq
    rw [b1]
    exact ⟨(if_pos q2).trans x2, fun r => (if_pos q2).trans (x3 r)⟩
  · rw [b1]; exact pt_all q hq
/-- where all begins -/
theorem b_IV (b : B 462 476 fR h) (t : TKR h g) : h_nx g = 462 ∧ (∃ T, IV (h_new g 4 1) T 4 69) ∧ h_nx (h_new g 4 1) = 463 ∧ h_sl (h_new g 4 1) = 29795 := by
  obtain ⟨b1, b2, b3⟩ := b
  obtain ⟨t1, ⟨n1, n2, n3, n4, n5⟩, iv, lv, ⟨v8, v9, v10, v11, v6⟩, nm, ce, ro, s3⟩ := t
  have hx : h_nx h = 462 := by rw [b1]; rfl
  have gx : h_nx g = 462 := n1.trans hx
  have hi : h_iv h = fR := by rw [b1]; rfl
  have hr : h_rv h = RVp 476 := by rw [b1]; rfl
  have hs : ∀ o, o < 462 → h_sh h o = SH o ∧ h_ln h o = LN o := fun o ho => by rw [b1]; exact ⟨if_pos ho, if_pos ho⟩
  have hl : h_sl h = 29794 := by rw [b1]; exact sl_all
  have gx1 : g.1 = 462 := gx
  -- the ints
  have val : ∀ o k, ¬ (o = 3 ∧ k = 10) → ¬ (o = 412 ∧ k = 32) → ¬ ((o = 5 ∨ o = 418 ∨ o = 436) ∧ k < 4) → h_iv g o k = nI 0 := fun o k q1 q2 q3 => by
    by_cases c : TKc o k
    · rcases c with ⟨rfl, rfl | c⟩ | ⟨rfl, c⟩ | ⟨rfl, c⟩ | c
      · exact v6
      · rcases (show k = 8 ∨ k = 9 ∨ k = 10 ∨ k = 11 by omega) with r | r | r | r <;> subst r
        · rw [v8, hi]; exact fr_0 (by omega) (by omega) (by omega)
        · rw [v9, hi]; exact fr_0 (by omega) (by omega) (by omega)
        · rw [v10, hi]; exact fr_0 (by omega) (by omega) (by omega)
        · rw [v11, hi]; exact fr_0 (by omega) (by omega) (by omega)
      · rw [ro k c]
        unfold rowv
        rw [hi]
        by_cases c1 : 50 ≤ k ∧ k < 194
        · rw [if_pos c1]; exact fr_0 (by omega) (by omega) (by omega)
        · rw [if_neg c1]
          by_cases c2 : 194 ≤ k ∧ k < 284 ∧ (k - 194) % 15 < 8
          · rw [if_pos c2]; exact fr_0 (by omega) (by omega) (by omega)
          · rw [if_neg c2]
      · exact s3 k c
      · have ci := cel_in c
        rw [ce o k c, hi]
        have n4 : o ≠ 418 := fun e => by
          unfold cel at c
          omega
        have := nu_v o
        exact fr_0 (by omega) (by omega) (by omega)
    · rw [iv o k c, hi]
      exact fr_0 q1 q2 (by omega)
  have nig : ∀ j, j < 4 → h_iv g 5 j = nI (nt j) ∧ h_iv g 418 j = nI (nt j) ∧ h_iv g 436 j = nI (nt j) := fun j hj => by
    obtain ⟨w1, w2⟩ := fr_v.2.2 j hj
    refine ⟨?_, ?_, ?_⟩
    · rw [iv 5 j (by unfold TKc cel; omega), hi]; exact w1
    · rw [ce 418 j (Or.inl ⟨rfl, hj⟩), hi]; exact w2
    · rw [iv 436 j (by unfold TKc cel; omega), hi]; exact w2
  have m3 : h_iv g 3 10 = -nI 1 := by rw [iv 3 10 (by unfold TKc cel; omega), hi]; exact fr_v.1
  have m412 : h_iv g 412 32 = -nI 1 := by rw [iv 412 32 (by unfold TKc cel; omega), hi]; exact fr_v.2.1
  -- the heap with the array
  have ivn : ∀ o k, o ≠ 462 → h_iv (h_new g 4 1) o k = h_iv g o k := fun o k q => by
    show up1 (h_iv g) (h_nx g) (fun _ => 0) o k = h_iv g o k
    rw [gx, u1n q]
  have iv48 : ∀ k, h_iv (h_new g 4 1) 462 k = nI 0 := fun k => by
    show up1 (h_iv g) (h_nx g) (fun _ => 0) 462 k = nI 0
    rw [gx]
    unfold up1
    rw [if_pos rfl]; rfl
  have rvn : ∀ o k, o ≠ 462 → h_rv (h_new g 4 1) o k = RVp 476 o k := fun o k q => by
    show up1 (h_rv g) (h_nx g) (fun _ => 0) o k = _
    rw [gx, u1n q, n5, hr]
  have V : ∀ o k, ¬ (o = 3 ∧ k = 10) → ¬ (o = 412 ∧ k = 32) → ¬ ((o = 5 ∨ o = 418 ∨ o = 436) ∧ k < 4) → h_iv (h_new g 4 1) o k = nI 0 := fun o k q1 q2 q3 => by
    by_cases c : o = 462
    · rw [c]; exact iv48 k
    · rw [ivn o k c]; exact val o k q1 q2 q3
  have Nn : ∀ j, j < 4 → h_iv (h_new g 4 1) 5 j = nI (nt j) ∧ h_iv (h_new g 4 1) 418 j = nI (nt j) ∧ h_iv (h_new g 4 1) 436 j = nI (nt j) := fun j hj => by
    rw [ivn 5 j (by omega), ivn 418 j (by omega), ivn 436 j (by omega)]
    exact nig j hj
  have S : Sh (h_new g 4 1) := by
    refine ⟨show 463 ≤ g.1 + 1 by omega, fun q hq => ?_, fun q hq => ?_⟩
    · obtain ⟨x1, x2, x3⟩ := sh_all q hq
      by_cases c : q.1 = 462
      · have s48 : SH 462 = 4 := by decide +kernel
        have l48 : LN 462 = 1 := by decide +kernel
        have a1 : h_sh (h_new g 4 1) 462 = 4 := by
          show up1 (h_sh g) (h_nx g) 4 462 = 4
          rw [gx]; exact if_pos rfl
        have a2 : h_ln (h_new g 4 1) 462 = 1 := by
          show up1 (h_ln g) (h_nx g) 1 462 = 1
          rw [gx]; exact if_pos rfl
        rw [c] at x2 x3 ⊢
        exact ⟨a1.trans (s48.symm.trans x2), fun r => a2.trans (l48.symm.trans (x3 r))⟩
      · obtain ⟨y1, y2⟩ := hs q.1 (by omega)
        have a1 : h_sh (h_new g 4 1) q.1 = h_sh h q.1 := by
          show up1 (h_sh g) (h_nx g) 4 q.1 = _
          rw [gx, u1n c, n3]
        have a2 : h_ln (h_new g 4 1) q.1 = h_ln h q.1 := by
          show up1 (h_ln g) (h_nx g) 1 q.1 = _
          rw [gx, u1n c, n4]
        rw [a1, a2, y1, y2]
        exact ⟨x2, x3⟩
    · have := pt_lt q hq
      rw [rvn _ _ (by omega)]
      exact pt_all q hq
  generalize hg : h_new g 4 1 = h5 at *
  have nx5 : h_nx h5 = 463 := by
    rw [← hg]
    show g.1 + 1 = 463
    omega
  have sl5 : h_sl h5 = 29795 := by
    rw [← hg]
    show h_sl g + 1 = 29795
    omega
  clear hg iv lv nm ce ro s3 val nig
  refine ⟨gx, ⟨fun o k => if o = 418 ∧ k < 4 then nt k else 0, ?_⟩, nx5, sl5⟩
  generalize hT : (fun o k => if o = 418 ∧ k < 4 then nt k else 0 : Nat → Nat → Nat) = T
  have T0 : ∀ o k, o ≠ 418 → T o k = 0 := fun o k q => by rw [← hT]; exact if_neg (by omega)
  have T4 : ∀ j, j < 4 → T 418 j = nt j := fun j q => by rw [← hT]; exact if_pos ⟨rfl, q⟩
  have Tb : ∀ o k, T o k < 2147483648 := fun o k => by
    rw [← hT]
    show (if o = 418 ∧ k < 4 then nt k else 0) < 2147483648
    split
    · unfold nt
      split <;> (try split) <;> (try split) <;> omega
    · omega
  have z8 := T0 412 8 (by omega)
  have z9 := T0 412 9 (by omega)
  have z10 := T0 412 10 (by omega)
  have z11 := T0 412 11 (by omega)
  have z6 := T0 412 6 (by omega)
  have z29 := T0 412 29 (by omega)
  have n8 : ∀ {p}, p < T 412 8 → False := fun q => by rw [z8] at q; omega
  have n9 : ∀ {p}, p < T 412 9 → False := fun q => by rw [z9] at q; omega
  have n10 : ∀ {p}, p < T 412 10 → False := fun q => by rw [z10] at q; omega
  have n11 : ∀ {p}, p < T 412 11 → False := fun q => by rw [z11] at q; omega
  have r0 : ∀ k, T 413 k = 0 := fun k => T0 413 k (by omega)
  have n1 : ∀ {c}, c < T 413 1 → False := fun q => by rw [r0] at q; omega
  have D : PlD T := by
    refine ⟨?_, ?_, ?_, ?_, ?_, by omega, by omega, by omega, by omega, fun _ q => (n8 q).elim, fun _ q => (n8 q).elim, fun _ q => (n9 q).elim, fun _ q => (n9 q).elim, fun _ q => (n9 q).elim, fun _ q => (n10 q).elim, fun _ q => (n10 q).elim, fun _ q => (n10 q).elim, fun _ q => (n11 q).elim, fun _ q => (n11 q).elim, fun _ q => (n11 q).elim, fun _ q => (n11 q).elim, fun _ q => (n11 q).elim, fun _ q => (n11 q).elim, fun _ q => (n11 q).elim, fun _ q => (n11 q).elim⟩
    · rw [T4 0 (by omega)]; decide
    · rw [T4 1 (by omega)]; decide
    · rw [T4 0 (by omega), T4 1 (by omega)]; decide
    · rw [T4 2 (by omega)]; decide
    · rw [T4 3 (by omega)]; decide
  have y : PlR h5 4 T := by
    refine ⟨fun j hj => ?_, ?_, ?_, ?_, ?_, fun _ q => (n8 q).elim, fun _ q => (n8 q).elim, fun _ q => (n9 q).elim, fun _ q => (n9 q).elim, fun _ q => (n9 q).elim, fun _ q => (n10 q).elim, fun _ q => (n10 q).elim, fun _ q => (n10 q).elim, fun _ q => (n10 q).elim, fun _ q => (n11 q).elim, fun _ q => (n11 q).elim, fun _ q => (n11 q).elim, fun _ q => (n11 q).elim, fun _ q => (n11 q).elim, fun _ q => (n11 q).elim, fun _ q => (n11 q).elim, fun s hs => ?_⟩
    · rw [T4 j hj]; exact (Nn j hj).1
    · rw [z8]; exact V _ _ (by omega) (by omega) (by omega)
    · rw [z9]; exact V _ _ (by omega) (by omega) (by omega)
    · rw [z10]; exact V _ _ (by omega) (by omega) (by omega)
    · rw [z11]; exact V _ _ (by omega) (by omega) (by omega)
    · rw [z8]; exact V _ _ (by omega) (by omega) (by omega)
  have RB : RwB T (T 413) := by
    refine ⟨⟨by rw [r0]; omega, by rw [r0]; omega, fun _ q => (n8 q).elim, fun _ q => (n8 q).elim, fun _ q => (n8 q).elim, fun _ q => (n8 q).elim, fun _ q => (n9 q).elim, fun _ q => (n9 q).elim, fun _ q => (n9 q).elim, fun _ q => (n9 q).elim, fun _ q => (n9 q).elim, fun _ q => (n10 q).elim, fun _ q => (n10 q).elim, fun _ q => (n10 q).elim, fun _ q => (n10 q).elim, fun _ q => (n1 q).elim, fun _ q => (n1 q).elim, fun _ q => (n1 q).elim, fun k => by rw [r0]; omega⟩, fun _ q => (n8 q).elim, by rw [r0]; omega⟩
  have z0 : ∀ {p : Nat}, (0 : Nat).testBit p = false := fun {p} => Nat.zero_testBit p
  have x : StR h5 134 4 T (T 413) := by
    refine ⟨?_, ?_, fun _ q => (n8 q).elim, fun _ q => (n8 q).elim, fun _ q => (n8 q).elim, ⟨0, V _ _ (by omega) (by omega) (by omega), by omega, fun _ q => (n8 q).elim, fun _ _ => z0⟩, fun _ q => (n8 q).elim, fun _ q => (n9 q).elim, fun _ q => (n9 q).elim, fun _ q => (n9 q).elim, fun _ q => (n9 q).elim, fun _ q => (n10 q).elim, fun _ q => (n10 q).elim, ⟨0, V _ _ (by omega) (by omega) (by omega), by omega, fun _ q => (n10 q).elim, fun _ _ => z0⟩, ?_, fun _ q => (n1 q).elim, ⟨0, V _ _ (by omega) (by omega) (by omega), by omega, fun _ q => (n1 q).elim⟩, fun _ q => (n1 q).elim, fun _ q => (n1 q).elim, fun _ q => (n1 q).elim, fun _ q => (n1 q).elim, fun _ q => (n1 q).elim⟩
    · rw [rvn _ _ (by omega)]; exact pt_more.2.2.1
    · rw [r0]; exact V _ _ (by omega) (by omega) (by omega)
    · rw [r0]; exact V _ _ (by omega) (by omega) (by omega)
  refine ⟨S, Or.inl ⟨rfl, rfl⟩, ?_, ?_, ⟨fun o k c => ?_, Tb⟩, D, y, RB, x, ⟨?_, by omega⟩, fun i hi => ⟨i, hi, ?_⟩, fun i j hi hj e => ?_, fun i q => ?_, fun s hs => ⟨?_, ?_, fun q => ?_⟩, ⟨?_, by omega, fun k q => ?_⟩, ⟨?_, ?_⟩, ⟨⟨fun _ _ => 0, fun _ => 0, fun s i hs q => ?_⟩, fun o k q1 q2 q3 => ?_⟩⟩
  · rw [rvn _ _ (by omega)]; exact pt_more.1
  · rw [rvn _ _ (by omega)]; exact pt_more.2.1
  · by_cases c4 : o = 418 ∧ k < 4
    · obtain ⟨rfl, c4⟩ := c4
      rw [T4 k c4]; exact (Nn k c4).2.1
    · have e0 : T o k = 0 := by rw [← hT]; exact if_neg c4
      rw [e0]
      unfold rfC at c
      by_cases c5 : o = 436
      · omega
      · exact V o k (by omega) (by omega) (by omega)
  · rw [z6]; exact V _ _ (by omega) (by omega) (by omega)
  · rw [rvn _ _ (by omega)]; exact pt_more.2.2.2 i hi
  · rw [rvn _ _ (by omega), rvn _ _ (by omega), pt_more.2.2.2 i hi, pt_more.2.2.2 j hj] at e
    omega
  · rw [z6] at q; omega
  · rw [T0 417 s (by omega)]; exact V _ _ (by omega) (by omega) (by omega)
  · rw [T0 417 s (by omega)]; omega
  · rw [T0 417 s (by omega)] at q; omega
  · rw [z29]; exact V _ _ (by omega) (by omega) (by omega)
  · rw [z29] at q; omega
  · rw [V 3 9 (by omega) (by omega) (by omega), V 412 31 (by omega) (by omega) (by omega)]
  · rw [ivn _ _ (by omega), ivn _ _ (by omega), m3, m412]
  · have e0 : nmN T s = 0 := by
      unfold nmN
      split
      · exact z8
      · split
        · exact z9
        · split
          · exact z10
          · exact z11
    rw [e0] at q; omega
  · by_cases c : o = 436 ∧ k < 4
    · refine ⟨nt k, ?_, by rw [c.1]; exact (Nn k c.2).2.2⟩
      unfold nt
      split <;> (try split) <;> (try split) <;> omega
    · exact ⟨0, by omega, V o k (by omega) (by omega) (by omega)⟩
/-- the law's beginning -/
theorem i_law {K : Nat → Nat → Nat → aH → Option (Int32 × aH)} (Z : Option (Int32 × aH) → Prop) (hk : ∀ h5 T, IV h5 T 4 69 → h_nx h5 = 463 → h_sl h5 = 29795 → Z (K 1 412 462 h5)) : Z (bN aH0 21 9 fun x1 h1 => bR (m_X11_init x1 h1) fun _ h2 => bN h2 22 71 fun x2 h3 => bR (m_X12_init x2 h3) fun _ h4 => bN h4 4 1 fun x3 h5 => K x1 x2 x3 h5) := by
  refine s_new b_start (by decide +kernel) (m := 2) rfl Z (fun h1 b1 => ?_)
  refine s_bR (i_X11 b1) Z (fun _ h2 b2 => ?_)
  refine s_new b2 (by decide +kernel) (m := 413) rfl Z (fun h3 b3 => ?_)
  have i12 : OK (m_X12_init 412 h3) (fun _ g => h_nx g = 462 ∧ (∃ T, IV (h_new g 4 1) T 4 69) ∧ h_nx (h_new g 4 1) = 463 ∧ h_sl (h_new g 4 1) = 29795) := i_X12 b3 (fun h4 b4 => ok_mono (yR_takes (b_shr b4)) (fun _ g t => b_IV b4 t))
  refine s_bR i12 Z (fun _ g q => ?_)
  obtain ⟨q1, ⟨T, I⟩, q2, q3⟩ := q
  show Z (K 1 412 (h_nx g) (h_new g 4 1))
  rw [q1]
  exact hk _ T I q2 q3
end
