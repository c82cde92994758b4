/-! who can man posts: Hall's theorem by the sets of skills -/
/-- size of a set -/
def sz (m : Nat) : Nat := fb_ct (fun p => m.testBit p) 12
/-- m mans some of the first n posts, each another one; t: the skill that a post asks for, K: a person's skills -/
def Mt (t K : Nat → Nat) : Nat → Nat → Prop
  | 0, m => m = 0
  | n + 1, m => Mt t K n m ∨ ∃ p, p < 12 ∧ m.testBit p = true ∧ (K p).testBit (t n) = true ∧ Mt t K n (m ^^^ 2 ^ p)
/-- .. all of them -/
def Me (t K : Nat → Nat) : Nat → Nat → Prop
  | 0, m => m = 0
  | n + 1, m => ∃ p, p < 12 ∧ m.testBit p = true ∧ (K p).testBit (t n) = true ∧ Me t K n (m ^^^ 2 ^ p)
/-- the posts out of a set of skills, and the persons of A with a skill of it -/
def hf (t K : Nat → Nat) (n A s : Nat) : Nat := fb_ct (fun k => !s.testBit (t k)) n + fb_ct (fun p => A.testBit p && decide (K p &&& s ≠ 0)) 12
theorem tb_x (m p q : Nat) : (m ^^^ 2 ^ p).testBit q = (m.testBit q ^^ decide (q = p)) := fb_bit_flip m p q
theorem tb_xn {m p q : Nat} (h : q ≠ p) : (m ^^^ 2 ^ p).testBit q = m.testBit q := by rw [tb_x, decide_eq_false h, Bool.xor_false]
theorem tb_xe {m p : Nat} : (m ^^^ 2 ^ p).testBit p = !m.testBit p := by rw [tb_x, decide_eq_true rfl, Bool.xor_true]
theorem ct_flip {f : Nat → Bool} {g : Nat → Bool} {p n : Nat} (hp : p < n) (h1 : f p = true) (h2 : g p = false) (h3 : ∀ q, q ≠ p → g q = f q) : fb_ct g n + 1 = fb_ct f n := by
  have e : g = fun k => if k = p then false else f k := funext fun k => by
    by_cases hk : k = p
    · rw [if_pos hk, hk, h2]
    · rw [if_neg hk, h3 k hk]
  have q := fb_ct_upd f false (i := p) (n := n) hp
  rw [← e, h1] at q
  simpa using q
theorem ct_sum (f g : Nat → Bool) : ∀ n, fb_ct f n + fb_ct g n = fb_ct (fun k => f k || g k) n + fb_ct (fun k => f k && g k) n
  | 0 => rfl
  | n + 1 => by
    have := ct_sum f g n
    rw [fb_ct_succ, fb_ct_succ, fb_ct_succ, fb_ct_succ]
    cases f n <;> cases g n <;> simp <;> omega
theorem sz_off {m p : Nat} (hp : p < 12) (h : m.testBit p = true) : sz (m ^^^ 2 ^ p) + 1 = sz m := ct_flip hp h (by rw [tb_xe, h]; rfl) (fun q hq => tb_xn hq)
theorem sz_on {m p : Nat} (hp : p < 12) (h : m.testBit p = false) : sz (m ^^^ 2 ^ p) = sz m + 1 := by
  have e := sz_off (m := m ^^^ 2 ^ p) hp (by rw [tb_xe, h]; rfl)
  rw [Nat.xor_assoc, Nat.xor_self, Nat.xor_zero] at e
  exact e.symm
theorem meets {x s i : Nat} (h1 : x.testBit i = true) (h2 : s.testBit i = true) : x &&& s ≠ 0 := by
  intro h
  have h3 : (x &&& s).testBit i = true := by rw [Nat.testBit_and, h1, h2]; rfl
  rw [h, Nat.zero_testBit] at h3
  cases h3
theorem meets_ex {x s : Nat} (h : x &&& s ≠ 0) : ∃ i, x.testBit i = true ∧ s.testBit i = true := by
  obtain ⟨i, hi⟩ := Nat.exists_testBit_of_ne_zero h
  rw [Nat.testBit_and, Bool.and_eq_true] at hi
  exact ⟨i, hi⟩
theorem meets_or {x s u : Nat} : decide (x &&& (s ||| u) ≠ 0) = (decide (x &&& s ≠ 0) || decide (x &&& u ≠ 0)) := by
  rw [Nat.and_or_distrib_left, ← Bool.decide_or]
  apply decide_eq_decide.mpr
  constructor
  · intro h
    by_cases h1 : x &&& s = 0
    · rw [h1, Nat.zero_or] at h
      exact Or.inr h
    · exact Or.inl h1
  · rintro (h | h) h2
    · exact h (Nat.or_eq_zero_iff.mp h2).1
    · exact h (Nat.or_eq_zero_iff.mp h2).2
theorem hf_sub {t K : Nat → Nat} (n A s u : Nat) : hf t K n A (s ||| u) + hf t K n A (s &&& u) ≤ hf t K n A s + hf t K n A u := by
  unfold hf
  have e1 := ct_sum (fun k => !s.testBit (t k)) (fun k => !u.testBit (t k)) n
  have e2 := ct_sum (fun p => A.testBit p && decide (K p &&& s ≠ 0)) (fun p => A.testBit p && decide (K p &&& u ≠ 0)) 12
  have f1 : fb_ct (fun k => !(s ||| u).testBit (t k)) n = fb_ct (fun k => !s.testBit (t k) && !u.testBit (t k)) n := fb_ct_cong (fun k _ => by rw [Nat.testBit_or, Bool.not_or])
  have f2 : fb_ct (fun k => !(s &&& u).testBit (t k)) n = fb_ct (fun k => !s.testBit (t k) || !u.testBit (t k)) n := fb_ct_cong (fun k _ => by rw [Nat.testBit_and, Bool.not_and])
  have f3 : fb_ct (fun p => A.testBit p && decide (K p &&& (s ||| u) ≠ 0)) 12 = fb_ct (fun p => A.testBit p && decide (K p &&& s ≠ 0) || A.testBit p && decide (K p &&& u ≠ 0)) 12 := fb_ct_cong (fun p _ => by rw [meets_or, Bool.and_or_distrib_left])
  have f4 : fb_ct (fun p => A.testBit p && decide (K p &&& (s &&& u) ≠ 0)) 12 ≤ fb_ct (fun p => (A.testBit p && decide (K p &&& s ≠ 0)) && (A.testBit p && decide (K p &&& u ≠ 0))) 12 := fb_ct_sub (fun p _ h => by
    rw [Bool.and_eq_true] at h
    obtain ⟨i, h1, h2⟩ := meets_ex (of_decide_eq_true h.2)
    rw [Nat.testBit_and, Bool.and_eq_true] at h2
    rw [h.1, decide_eq_true (meets h1 h2.1), decide_eq_true (meets h1 h2.2)]
    rfl)
  omega
theorem Mt_le {t K : Nat → Nat} (s : Nat) : ∀ {n m : Nat}, Mt t K n m → sz m ≤ hf t K n m s
  | 0, m, h => by
    rw [show m = 0 from h]
    have e : sz 0 = 0 := by decide
    rw [e]
    exact Nat.zero_le _
  | n + 1, m, h => by
    unfold hf
    rw [fb_ct_succ]
    rcases h with h | ⟨p, hp, h1, h2, h3⟩
    · have := Mt_le s h
      unfold hf at this
      omega
    · have q1 := Mt_le s h3
      have q2 := sz_off hp h1
      unfold hf at q1
      by_cases hs : s.testBit (t n) = true
      · have hk := meets h2 hs
        have q3 := ct_flip (f := fun q => m.testBit q && decide (K q &&& s ≠ 0)) (g := fun q => (m ^^^ 2 ^ p).testBit q && decide (K q &&& s ≠ 0)) hp (by show (m.testBit p && decide (K p &&& s ≠ 0)) = true; rw [h1, decide_eq_true hk]; rfl) (by show ((m ^^^ 2 ^ p).testBit p && decide (K p &&& s ≠ 0)) = false; rw [tb_xe, h1]; rfl) (fun q hq => by show ((m ^^^ 2 ^ p).testBit q && _) = (m.testBit q && _); rw [tb_xn hq])
        omega
      · rw [if_pos (by simpa using hs)]
        have q3 : fb_ct (fun q => (m ^^^ 2 ^ p).testBit q && decide (K q &&& s ≠ 0)) 12 ≤ fb_ct (fun q => m.testBit q && decide (K q &&& s ≠ 0)) 12 := fb_ct_sub (fun q _ hq => by
          by_cases e : q = p
          · rw [e, tb_xe, h1] at hq; simp at hq
          · rw [tb_xn e] at hq; exact hq)
        omega
/-- a set within another -/
def sub (m A : Nat) : Prop := ∀ p, m.testBit p = true → A.testBit p = true
theorem hf_mono {t K : Nat → Nat} {n m A : Nat} (h : sub m A) (s : Nat) : hf t K n m s ≤ hf t K n A s := Nat.add_le_add_left (fb_ct_sub (fun p _ hq => by
  rw [Bool.and_eq_true] at hq ⊢
  exact ⟨h p hq.1, hq.2⟩)) _
/-- a least set of skills that holds all least ones -/
theorem hf_top {t K : Nat → Nat} (n A r : Nat) (h1 : ∀ s, s < 32 → r ≤ hf t K n A s) {s0 : Nat} (h0 : s0 < 32) (he : hf t K n A s0 = r) : ∀ k, k ≤ 32 → ∃ S, S < 32 ∧ hf t K n A S = r ∧ ∀ s, s < k → hf t K n A s = r → s ||| S = S
  | 0, _ => ⟨s0, h0, he, fun s hs => absurd hs (Nat.not_lt_zero s)⟩
  | k + 1, hk => by
    obtain ⟨S, a1, a2, a3⟩ := hf_top n A r h1 h0 he k (by omega)
    by_cases hm : hf t K n A k = r
    · have b1 : k ||| S < 32 := Nat.or_lt_two_pow (n := 5) (by omega) a1
      have b2 : k &&& S < 32 := Nat.lt_of_le_of_lt Nat.and_le_right a1
      have c1 := hf_sub (t := t) (K := K) n A k S
      have c2 := h1 _ b1
      have c3 := h1 _ b2
      refine ⟨k ||| S, b1, by omega, fun s hs hsr => ?_⟩
      by_cases e : s = k
      · rw [e, ← Nat.or_assoc, Nat.or_self]
      · have := a3 s (by omega) hsr
        rw [← Nat.or_assoc, Nat.or_comm s k, Nat.or_assoc, this]
    · refine ⟨S, a1, a2, fun s hs hsr => ?_⟩
      by_cases e : s = k
      · exact absurd (e ▸ hsr) hm
      · exact a3 s (by omega) hsr
theorem hall {t K : Nat → Nat} (ht : ∀ k, t k < 5) : ∀ n A, ∃ m, sub m A ∧ Mt t K n m ∧ ∃ s, s < 32 ∧ hf t K n A s ≤ sz m
  | 0, A => ⟨0, fun p hp => (by rw [Nat.zero_testBit] at hp; cases hp), rfl, 0, by decide, by
      have e : fb_ct (fun p => A.testBit p && decide (K p &&& 0 ≠ 0)) 12 = 0 := fb_ct_zero.mpr (fun p _ => by rw [Nat.and_zero]; simp)
      unfold hf
      rw [e]
      exact Nat.zero_le _⟩
  | n + 1, A => by
    obtain ⟨s0, hs0, hmin, -⟩ := fb_low (fun s => (hf t K n A s : Int)) (n := 32) (by decide)
    have hmin2 : ∀ s, s < 32 → hf t K n A s0 ≤ hf t K n A s := fun s hs => by have := hmin s hs; omega
    by_cases hc : ∃ s, s < 32 ∧ hf t K n A s = hf t K n A s0 ∧ s.testBit (t n) = true
    · obtain ⟨s, hs, e1, e2⟩ := hc
      obtain ⟨m, m1, m2, s1, m3, m4⟩ := hall ht n A
      refine ⟨m, m1, Or.inl m2, s, hs, ?_⟩
      have := hmin2 s1 m3
      have e3 : hf t K (n + 1) A s = hf t K n A s := by
        unfold hf
        rw [fb_ct_succ, e2]
        simp
      omega
    · obtain ⟨S, a1, a2, a3⟩ := hf_top n A (hf t K n A s0) hmin2 hs0 rfl 32 (Nat.le_refl _)
      have hS : S.testBit (t n) = false := by
        by_cases e : S.testBit (t n) = true
        · exact absurd ⟨S, a1, a2, e⟩ hc
        · simpa using e
      have b1 : S ||| 2 ^ t n < 32 := Nat.or_lt_two_pow (n := 5) a1 (Nat.pow_lt_pow_right (by decide) (ht n))
      have b2 : hf t K n A s0 < hf t K n A (S ||| 2 ^ t n) := by
        have := hmin2 _ b1
        by_cases e : hf t K n A (S ||| 2 ^ t n) = hf t K n A s0
        · exact absurd ⟨_, b1, e, by rw [Nat.testBit_or, Nat.testBit_two_pow_self, Bool.or_true]⟩ hc
        · omega
      obtain ⟨p, hp, p1, p2, p3⟩ : ∃ p, p < 12 ∧ A.testBit p = true ∧ (K p).testBit (t n) = true ∧ K p &&& S = 0 := by
        by_cases hq : ∃ p, p < 12 ∧ A.testBit p = true ∧ (K p).testBit (t n) = true ∧ K p &&& S = 0
        · exact hq
        · exfalso
          have c1 : fb_ct (fun k => !(S ||| 2 ^ t n).testBit (t k)) n ≤ fb_ct (fun k => !S.testBit (t k)) n := fb_ct_sub (fun k _ h => by
            rw [Nat.testBit_or, Bool.not_or, Bool.and_eq_true] at h
            exact h.1)
          have c2 : fb_ct (fun p => A.testBit p && decide (K p &&& (S ||| 2 ^ t n) ≠ 0)) 12 ≤ fb_ct (fun p => A.testBit p && decide (K p &&& S ≠ 0)) 12 := fb_ct_sub (fun p hp h => by
            rw [Bool.and_eq_true] at h ⊢
            refine ⟨h.1, ?_⟩
            by_cases e : K p &&& S = 0
            · obtain ⟨i, i1, i2⟩ := meets_ex (of_decide_eq_true h.2)
              rw [Nat.testBit_or, Bool.or_eq_true] at i2
              rcases i2 with i2 | i2
              · exact absurd e (meets i1 i2)
              · rw [Nat.testBit_two_pow] at i2
                have i3 : t n = i := of_decide_eq_true i2
                exact absurd ⟨p, hp, h.1, by rw [i3]; exact i1, e⟩ hq
            · exact decide_eq_true e)
          unfold hf at b2 a2
          omega
      obtain ⟨m, m1, m2, s1, m3, m4⟩ := hall ht n (A ^^^ 2 ^ p)
      have hmp : m.testBit p = false := by
        by_cases e : m.testBit p = true
        · have := m1 p e
          rw [tb_xe, p1] at this
          cases this
        · simpa using e
      refine ⟨m ^^^ 2 ^ p, fun q hq => ?_, Or.inr ⟨p, hp, by rw [tb_xe, hmp]; rfl, p2, by rw [Nat.xor_assoc, Nat.xor_self, Nat.xor_zero]; exact m2⟩, s0, hs0, ?_⟩
      · by_cases e : q = p
        · rw [e]; exact p1
        · rw [tb_xn e] at hq
          have := m1 q hq
          rw [tb_xn e] at this
          exact this
      · rw [sz_on hp hmp]
        have e0 : s0.testBit (t n) = false := by
          by_cases e : s0.testBit (t n) = true
          · exact absurd ⟨s0, hs0, rfl, e⟩ hc
          · simpa using e
        have e1 : hf t K (n + 1) A s0 = hf t K n A s0 + 1 := by
          unfold hf
          rw [fb_ct_succ, e0]
          simp
          omega
        have e2 : hf t K n A s0 ≤ hf t K n (A ^^^ 2 ^ p) s1 := by
          have q0 := hmin2 s1 m3
          by_cases hk : K p &&& s1 = 0
          · have : hf t K n (A ^^^ 2 ^ p) s1 = hf t K n A s1 := by
              unfold hf
              congr 1
              exact fb_ct_cong (fun q _ => by
                by_cases e : q = p
                · rw [e, hk]; simp
                · rw [tb_xn e])
            omega
          · have q1 := ct_flip (f := fun q => A.testBit q && decide (K q &&& s1 ≠ 0)) (g := fun q => (A ^^^ 2 ^ p).testBit q && decide (K q &&& s1 ≠ 0)) hp (by show (A.testBit p && decide (K p &&& s1 ≠ 0)) = true; rw [p1, decide_eq_true hk]; rfl) (by show ((A ^^^ 2 ^ p).testBit p && decide (K p &&& s1 ≠ 0)) = false; rw [tb_xe, p1]; rfl) (fun q hq => by show ((A ^^^ 2 ^ p).testBit q && _) = (A.testBit q && _); rw [tb_xn hq])
            have q2 : hf t K n A s1 ≠ hf t K n A s0 := by
              intro e
              have e5 := a3 s1 m3 e
              obtain ⟨i, i1, i2⟩ := meets_ex hk
              have i3 : S.testBit i = true := by rw [← e5, Nat.testBit_or, i2]; rfl
              exact meets i1 i3 p3
            unfold hf at q0 q2 ⊢
            omega
        omega
/-- how many persons of A can man the first n posts -/
theorem hall_max {t K : Nat → Nat} (ht : ∀ k, t k < 5) (n A r : Nat) (h1 : ∀ s, s < 32 → r ≤ hf t K n A s) {s0 : Nat} (h0 : s0 < 32) (he : hf t K n A s0 = r) : (∃ m, sub m A ∧ Mt t K n m ∧ sz m = r) ∧ ∀ m, sub m A → Mt t K n m → sz m ≤ r := by
  have hle : ∀ m, sub m A → Mt t K n m → sz m ≤ r := fun m hm hM => he ▸ Nat.le_trans (Mt_le s0 hM) (hf_mono hm s0)
  obtain ⟨m, m1, m2, s, m3, m4⟩ := hall (K := K) ht n A
  have := h1 s m3
  have := hle m m1 m2
  exact ⟨⟨m, m1, m2, by omega⟩, hle⟩
