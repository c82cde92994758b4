/-! the first crew: greedy, full, and first of all -/
theorem or_x {x i : Nat} (h : x.testBit i = false) : x ||| 2 ^ i = x ^^^ 2 ^ i := Nat.eq_of_testBit_eq (fun j => by
  rw [Nat.testBit_or, tb_x, Nat.testBit_two_pow]
  by_cases e : j = i
  · rw [e, h]; simp
  · rw [decide_eq_false e, decide_eq_false (fun q => e q.symm)]; simp)
theorem Me_Mt {t K : Nat → Nat} : ∀ {n m : Nat}, Me t K n m → Mt t K n m ∧ sz m = n
  | 0, m, h => ⟨h, by rw [show m = 0 from h]; decide⟩
  | n + 1, m, ⟨p, hp, h1, h2, h3⟩ => by
    obtain ⟨q1, q2⟩ := Me_Mt h3
    have := sz_off hp h1
    exact ⟨Or.inr ⟨p, hp, h1, h2, q1⟩, by omega⟩
theorem Mt_sz {t K : Nat → Nat} {n m : Nat} (h : Mt t K n m) : sz m ≤ n := by
  have := Mt_le 0 h
  rwa [hf_0] at this
theorem Mt_Me {t K : Nat → Nat} : ∀ {n m : Nat}, Mt t K n m → sz m = n → Me t K n m
  | 0, m, h, _ => h
  | n + 1, m, h, e => by
    rcases h with h | ⟨p, hp, h1, h2, h3⟩
    · have := Mt_sz h
      omega
    · have := sz_off hp h1
      exact ⟨p, hp, h1, h2, Mt_Me h3 (by omega)⟩
theorem sub_rf (m : Nat) : sub m m := fun _ h => h
theorem sub_tr {a b c : Nat} (h1 : sub a b) (h2 : sub b c) : sub a c := fun p h => h2 p (h1 p h)
theorem Mt_sub {t K : Nat → Nat} : ∀ {n m m' : Nat}, Mt t K n m → sub m' m → Mt t K n m'
  | 0, m, m', h, hs => by
    show m' = 0
    rw [show m = 0 from h] at hs
    exact Nat.eq_of_testBit_eq (fun i => by
      rw [Nat.zero_testBit]
      by_cases c : m'.testBit i = true
      · have := hs i c
        rw [Nat.zero_testBit] at this
        cases this
      · simpa using c)
  | n + 1, m, m', h, hs => by
    rcases h with h | ⟨p, hp, h1, h2, h3⟩
    · exact Or.inl (Mt_sub h hs)
    · by_cases c : m'.testBit p = true
      · refine Or.inr ⟨p, hp, c, h2, Mt_sub h3 (fun q hq => ?_)⟩
        by_cases e : q = p
        · rw [e, tb_xe, c] at hq; cases hq
        · rw [tb_xn e] at hq ⊢
          exact hs q hq
      · refine Or.inl (Mt_sub h3 (fun q hq => ?_))
        by_cases e : q = p
        · rw [e] at hq; exact absurd hq c
        · rw [tb_xn e]
          exact hs q hq
theorem sz_sub {a b : Nat} (h : sub a b) : sz a ≤ sz b := fb_ct_sub (fun p _ hp => h p hp)
theorem ct_eq {f g : Nat → Bool} : ∀ {n : Nat}, (∀ k, k < n → f k = true → g k = true) → fb_ct f n = fb_ct g n → ∀ k, k < n → f k = g k
  | 0, _, _, k, hk => absurd hk (Nat.not_lt_zero k)
  | n + 1, h, e, k, hk => by
    have h1 := fb_ct_sub (n := n) (fun k hk => h k (by omega))
    rw [fb_ct_succ, fb_ct_succ] at e
    have hn := h n (by omega)
    cases hf : f n
    · cases hg : g n
      · rw [hf, hg] at e
        by_cases c : k = n
        · rw [c, hf, hg]
        · exact ct_eq (n := n) (fun k hk => h k (by omega)) (by simpa using e) k (by omega)
      · rw [hf, hg] at e
        simp at e
        omega
    · have hg := hn hf
      rw [hf, hg] at e
      by_cases c : k = n
      · rw [c, hf, hg]
      · exact ct_eq (n := n) (fun k hk => h k (by omega)) (by simpa using e) k (by omega)
theorem sub_eq {a b : Nat} (ha : a < 4096) (hb : b < 4096) (h : sub a b) (e : sz b ≤ sz a) : a = b := mk_ext (n := 12) ha hb (fun p hp => ct_eq (f := fun p => a.testBit p) (g := fun p => b.testBit p) (n := 12) (fun k _ hk => h k hk) (Nat.le_antisymm (sz_sub h) e) p hp)
theorem hf_bot {t K : Nat → Nat} (n A r : Nat) (h1 : ∀ s, s < 32 → r ≤ hf t K n A s) {s0 : Nat} (h0 : s0 < 32) (he : hf t K n A s0 = r) : ∀ k, k ≤ 32 → ∃ S, S < 32 ∧ hf t K n A S = r ∧ ∀ s, s < k → hf t K n A s = r → s &&& S = S
  | 0, _ => ⟨s0, h0, he, fun s hs => absurd hs (Nat.not_lt_zero s)⟩
  | k + 1, hk => by
    obtain ⟨S, a1, a2, a3⟩ := hf_bot n A r h1 h0 he k (by omega)
    by_cases hm : hf t K n A k = r
    · have b1 : k ||| S < 32 := Nat.or_lt_two_pow (n := 5) (by omega) a1
      have b2 : k &&& S < 32 := Nat.lt_of_le_of_lt Nat.and_le_right a1
      have c1 := hf_sub (t := t) (K := K) n A k S
      have c2 := h1 _ b1
      have c3 := h1 _ b2
      refine ⟨k &&& S, b2, by omega, fun s hs hsr => ?_⟩
      by_cases e : s = k
      · rw [e, ← Nat.and_assoc, Nat.and_self]
      · have := a3 s (by omega) hsr
        rw [← Nat.and_assoc, Nat.and_comm s k, Nat.and_assoc, this]
    · refine ⟨S, a1, a2, fun s hs hsr => ?_⟩
      by_cases e : s = k
      · exact absurd (e ▸ hsr) hm
      · exact a3 s (by omega) hsr
/-- the crew after i persons -/
def fcr (t K : Nat → Nat) (n B : Nat) : Nat → Nat
  | 0 => 0
  | i + 1 => if B.testBit i && decide (sz (fcr t K n B i) < rk t K n (fcr t K n B i ||| 2 ^ i)) then fcr t K n B i ||| 2 ^ i else fcr t K n B i
section
variable {t K : Nat → Nat} {n B : Nat}
theorem fcr_lt : ∀ i, fcr t K n B i < 2 ^ i
  | 0 => by show (0 : Nat) < 2 ^ 0; decide
  | i + 1 => by
    have h1 : fcr t K n B i < 2 ^ (i + 1) := Nat.lt_trans (fcr_lt i) (Nat.pow_lt_pow_right (by decide) (by omega))
    rw [fcr]
    split
    · exact Nat.or_lt_two_pow h1 (Nat.pow_lt_pow_right (by decide) (by omega))
    · exact h1
theorem fcr_off {i j : Nat} (h : i ≤ j) : (fcr t K n B i).testBit j = false := Nat.testBit_lt_two_pow (Nat.lt_of_lt_of_le (fcr_lt i) (Nat.pow_le_pow_right (by decide) h))
theorem fcr_keep {p : Nat} : ∀ {j : Nat}, p < j → (fcr t K n B j).testBit p = (fcr t K n B (p + 1)).testBit p
  | 0, h => absurd h (Nat.not_lt_zero p)
  | j + 1, h => by
    by_cases e : p = j
    · rw [e]
    · rw [← fcr_keep (j := j) (by omega), fcr]
      split
      · rw [Nat.testBit_or, Nat.testBit_two_pow, decide_eq_false (fun q => e q.symm), Bool.or_false]
      · rfl
theorem fcr_sub : ∀ i, sub (fcr t K n B i) B
  | 0 => fun p h => by rw [fcr, Nat.zero_testBit] at h; cases h
  | i + 1 => fun p h => by
    rw [fcr] at h
    split at h
    · rename_i c
      rw [Bool.and_eq_true] at c
      rw [Nat.testBit_or, Nat.testBit_two_pow, Bool.or_eq_true] at h
      rcases h with h | h
      · exact fcr_sub i p h
      · rw [← of_decide_eq_true h]; exact c.1
    · exact fcr_sub i p h
theorem fcr_Mt (ht : ∀ k, t k < 5) : ∀ i, i ≤ 12 → Mt t K n (fcr t K n B i)
  | 0, _ => Mt_sub (n := n) (m := 0) (by
      have : ∀ k, Mt t K k 0 := fun k => by
        induction k with
        | zero => rfl
        | succ k ih => exact Or.inl ih
      exact this n) (sub_rf 0)
  | i + 1, hi => by
    have ih := fcr_Mt ht i (by omega)
    rw [fcr]
    split
    · rename_i c
      rw [Bool.and_eq_true] at c
      have c2 := of_decide_eq_true c.2
      have off := fcr_off (t := t) (K := K) (n := n) (B := B) (i := i) (j := i) (Nat.le_refl _)
      obtain ⟨⟨m, m1, m2, m3⟩, -⟩ := rk_spec (K := K) ht n (fcr t K n B i ||| 2 ^ i)
      have e1 : sz (fcr t K n B i ||| 2 ^ i) = sz (fcr t K n B i) + 1 := by rw [or_x off, sz_on (by omega) off]
      have l1 : fcr t K n B i ||| 2 ^ i < 4096 := Nat.lt_of_lt_of_le (Nat.or_lt_two_pow (n := i + 1) (Nat.lt_trans (fcr_lt i) (Nat.pow_lt_pow_right (by decide) (by omega))) (Nat.pow_lt_pow_right (by decide) (by omega))) (show 2 ^ (i + 1) ≤ 2 ^ 12 from Nat.pow_le_pow_right (by decide) hi)
      have l2 : m < 4096 := by
        refine Nat.lt_of_not_le (fun q => ?_)
        obtain ⟨j, j1, j2⟩ := Nat.exists_ge_and_testBit_of_ge_two_pow (n := 12) q
        have := m1 j j2
        rw [Nat.testBit_lt_two_pow (Nat.lt_of_lt_of_le l1 (show 2 ^ 12 ≤ 2 ^ j from Nat.pow_le_pow_right (by decide) j1))] at this
        cases this
      have e2 : m = fcr t K n B i ||| 2 ^ i := sub_eq l2 l1 m1 (by omega)
      rw [← e2]
      exact m2
    · exact ih
theorem rk_mono (ht : ∀ k, t k < 5) {a b : Nat} (h : sub a b) : rk t K n a ≤ rk t K n b := by
  obtain ⟨⟨m, m1, m2, m3⟩, -⟩ := rk_spec (K := K) ht n a
  rw [← m3]
  exact (rk_spec (K := K) ht n b).2 m (sub_tr m1 h) m2
theorem rk_Mt (ht : ∀ k, t k < 5) {a : Nat} (h : Mt t K n a) : rk t K n a = sz a := by
  refine Nat.le_antisymm ?_ ((rk_spec (K := K) ht n a).2 a (sub_rf a) h)
  obtain ⟨⟨m, m1, m2, m3⟩, -⟩ := rk_spec (K := K) ht n a
  rw [← m3]
  exact sz_sub m1
/-- who was passed over could not have had a post beside those before -/
theorem fcr_no (ht : ∀ k, t k < 5) {p : Nat} (hp : p < 12) (hB : B.testBit p = true) (hn : (fcr t K n B 12).testBit p = false) : rk t K n (fcr t K n B p ||| 2 ^ p) ≤ sz (fcr t K n B p) := by
  rw [fcr_keep hp, fcr] at hn
  by_cases c : sz (fcr t K n B p) < rk t K n (fcr t K n B p ||| 2 ^ p)
  · rw [hB, decide_eq_true c, Bool.and_true, if_pos rfl, Nat.testBit_or, Nat.testBit_two_pow_self, Bool.or_true] at hn
    cases hn
  · omega
theorem fcr_full (ht : ∀ k, t k < 5) (hB : B < 4096) : sz (fcr t K n B 12) = rk t K n B := by
  have hM := fcr_Mt (K := K) (n := n) (B := B) ht 12 (Nat.le_refl _)
  have hC := rk_Mt ht hM
  refine Nat.le_antisymm (by rw [← hC]; exact rk_mono ht (fcr_sub 12)) ?_
  have lo : ∀ s, s < 32 → sz (fcr t K n B 12) ≤ hf t K n (fcr t K n B 12) s := fun s _ => Mt_le s hM
  obtain ⟨s0, hs0, he0⟩ : ∃ s, s < 32 ∧ hf t K n (fcr t K n B 12) s = sz (fcr t K n B 12) := by
    rcases mnf_in (f := hf t K n (fcr t K n B 12)) (x := n) 32 with h | ⟨k, h1, h2⟩
    · exact ⟨0, by decide, by rw [hf_0, ← hC]; exact h.symm⟩
    · exact ⟨k, h1, by rw [← hC]; exact h2.symm⟩
  obtain ⟨S, a1, a2, a3⟩ := hf_bot n (fcr t K n B 12) _ lo hs0 he0 32 (Nat.le_refl _)
  have key : hf t K n B S ≤ hf t K n (fcr t K n B 12) S := by
    unfold hf
    refine Nat.add_le_add_left (fb_ct_sub (fun p hp h => ?_)) _
    rw [Bool.and_eq_true] at h ⊢
    refine ⟨?_, h.2⟩
    by_cases c : (fcr t K n B 12).testBit p = true
    · exact c
    · exfalso
      have hn := fcr_no (K := K) (n := n) ht hp h.1 (by simpa using c)
      have off := fcr_off (t := t) (K := K) (n := n) (B := B) (i := p) (j := p) (Nat.le_refl _)
      have hMp := fcr_Mt (K := K) (n := n) (B := B) ht p (by omega)
      obtain ⟨s, s1, s2⟩ : ∃ s, s < 32 ∧ hf t K n (fcr t K n B p ||| 2 ^ p) s ≤ sz (fcr t K n B p) := by
        rcases mnf_in (f := hf t K n (fcr t K n B p ||| 2 ^ p)) (x := n) 32 with h9 | ⟨k, h1, h2⟩
        · exact ⟨0, by decide, by rw [hf_0]; unfold rk at hn; omega⟩
        · exact ⟨k, h1, by unfold rk at hn; omega⟩
      have q1 := Mt_le s hMp
      have hk : K p &&& s = 0 := by
        by_cases e : K p &&& s = 0
        · exact e
        · exfalso
          have q2 := ct_flip (f := fun q => (fcr t K n B p ||| 2 ^ p).testBit q && decide (K q &&& s ≠ 0)) (g := fun q => (fcr t K n B p).testBit q && decide (K q &&& s ≠ 0)) hp (by show ((fcr t K n B p ||| 2 ^ p).testBit p && decide (K p &&& s ≠ 0)) = true; rw [Nat.testBit_or, Nat.testBit_two_pow_self, Bool.or_true, decide_eq_true e]; rfl) (by show ((fcr t K n B p).testBit p && decide (K p &&& s ≠ 0)) = false; rw [off]; rfl) (fun q hq => by show ((fcr t K n B p).testBit q && _) = ((fcr t K n B p ||| 2 ^ p).testBit q && _); rw [Nat.testBit_or, Nat.testBit_two_pow, show decide (p = q) = false from decide_eq_false (fun x => hq x.symm), Bool.or_false])
          unfold hf at q1 s2
          omega
      have q3 : hf t K n (fcr t K n B p) s ≤ hf t K n (fcr t K n B p ||| 2 ^ p) s := hf_mono (fun q hq => by rw [Nat.testBit_or, hq]; rfl) s
      have q4 : hf t K n (fcr t K n B 12) s ≤ sz (fcr t K n B 12) := by
        have e1 : sz (fcr t K n B 12) = sz (fcr t K n B p) + fb_ct (fun q => (fcr t K n B 12).testBit q && !(fcr t K n B p).testBit q) 12 := by
          unfold sz
          rw [← fb_ct_or (fun k _ x => by have h9 := x.2; rw [x.1] at h9; simp at h9)]
          exact fb_ct_cong (fun k hk => by
            by_cases c9 : (fcr t K n B p).testBit k = true
            · have hkp : k < p := bit_lt (fcr_lt p) c9
              rw [c9, fcr_keep hk, ← fcr_keep hkp, c9]; rfl
            · rw [show (fcr t K n B p).testBit k = false by simpa using c9]; simp)
        have e2 : fb_ct (fun q => (fcr t K n B 12).testBit q && decide (K q &&& s ≠ 0)) 12 ≤ fb_ct (fun q => (fcr t K n B p).testBit q && decide (K q &&& s ≠ 0)) 12 + fb_ct (fun q => (fcr t K n B 12).testBit q && !(fcr t K n B p).testBit q) 12 := by
          rw [← fb_ct_or (fun k _ x => by have h9 := x.2; have h8 := x.1; simp at h8 h9; rw [h8.1] at h9; simp at h9)]
          exact fb_ct_sub (fun k _ x => by
            rw [Bool.and_eq_true] at x
            cases c9 : (fcr t K n B p).testBit k
            · rw [x.1]; simp
            · rw [x.2]; simp)
        unfold hf at q3 s2 ⊢
        omega
      have q5 := a3 s s1 (Nat.le_antisymm q4 (lo s s1))
      obtain ⟨i, i1, i2⟩ := meets_ex (of_decide_eq_true h.2)
      rw [← q5, Nat.testBit_and, Bool.and_eq_true] at i2
      exact meets i1 i2.1 hk
  have : rk t K n B ≤ hf t K n B S := mnf_le a1
  omega
/-- m stands ahead of b: the lowest person who is in one of them alone is in m -/
def lexl (m b : Nat) : Prop := ∃ p, m.testBit p = true ∧ b.testBit p = false ∧ ∀ q, q < p → m.testBit q = b.testBit q
theorem fcr_lex (ht : ∀ k, t k < 5) {m : Nat} (hm : m < 4096) (h1 : sub m B) (h2 : Mt t K n m) (h3 : sz m = sz (fcr t K n B 12)) (hne : m ≠ fcr t K n B 12) : lexl (fcr t K n B 12) m := by
  obtain ⟨p, p1, p2⟩ : ∃ p, m.testBit p ≠ (fcr t K n B 12).testBit p ∧ ∀ q, q < p → m.testBit q = (fcr t K n B 12).testBit q := by
    obtain ⟨i, hi⟩ := Nat.exists_testBit_ne_of_ne hne
    obtain ⟨p, hp1, hp2, hp3⟩ := fb_first (p := fun i => m.testBit i ≠ (fcr t K n B 12).testBit i) (n := i + 1) ⟨i, by omega, hi⟩
    exact ⟨p, hp2, fun q hq => by
      by_cases c : m.testBit q = (fcr t K n B 12).testBit q
      · exact c
      · exact absurd c (hp3 q hq)⟩
  have hp : p < 12 := by
    by_cases c : p < 12
    · exact c
    · exfalso
      apply p1
      rw [fcr_off (by omega), Nat.testBit_lt_two_pow (Nat.lt_of_lt_of_le hm (show 2 ^ 12 ≤ 2 ^ p from Nat.pow_le_pow_right (by decide) (by omega)))]
  cases c : (fcr t K n B 12).testBit p
  · exfalso
    have mp : m.testBit p = true := by
      cases e : m.testBit p
      · exact absurd (e.trans c.symm) p1
      · rfl
    have hn := fcr_no (K := K) (n := n) ht hp (h1 p mp) c
    have off := fcr_off (t := t) (K := K) (n := n) (B := B) (i := p) (j := p) (Nat.le_refl _)
    have hs : sub (fcr t K n B p ||| 2 ^ p) m := fun q hq => by
      rw [Nat.testBit_or, Nat.testBit_two_pow, Bool.or_eq_true] at hq
      rcases hq with hq | hq
      · have hqp := bit_lt (fcr_lt p) hq
        rw [p2 q hqp, fcr_keep (show q < 12 by omega), ← fcr_keep hqp]
        exact hq
      · rw [← of_decide_eq_true hq]; exact mp
    have e1 := rk_Mt (K := K) (n := n) ht (Mt_sub h2 hs)
    rw [e1, or_x off, sz_on hp off] at hn
    omega
  · refine ⟨p, c, ?_, fun q hq => (p2 q hq).symm⟩
    cases e : m.testBit p
    · rfl
    · exact absurd (e.trans c.symm) p1
end
