/-! which crew is better; the earliest departure -/
def latK (ar : Nat → Nat) (m : Nat) : Nat → Nat
  | 0 => 0
  | p + 1 => if m.testBit p && decide (latK ar m p < ar p) then ar p else latK ar m p
theorem latK_ge {ar : Nat → Nat} {m p : Nat} (hb : m.testBit p = true) : ∀ {n : Nat}, p < n → ar p ≤ latK ar m n
  | 0, h => absurd h (Nat.not_lt_zero p)
  | n + 1, h => by
    rw [latK]
    by_cases e : p = n
    · rw [← e, hb]
      by_cases c : latK ar m p < ar p
      · rw [decide_eq_true c]; simp
      · rw [decide_eq_false c]; simp; omega
    · have := latK_ge (ar := ar) hb (n := n) (by omega)
      split
      · rename_i c
        rw [Bool.and_eq_true] at c
        have := of_decide_eq_true c.2
        omega
      · exact this
theorem latK_in {ar : Nat → Nat} {m : Nat} : ∀ n, latK ar m n = 0 ∨ ∃ p, p < n ∧ m.testBit p = true ∧ latK ar m n = ar p
  | 0 => Or.inl rfl
  | n + 1 => by
    rw [latK]
    split
    · rename_i c
      rw [Bool.and_eq_true] at c
      exact Or.inr ⟨n, by omega, c.1, rfl⟩
    · rcases latK_in (ar := ar) (m := m) n with h | ⟨p, h1, h2, h3⟩
      · exact Or.inl h
      · exact Or.inr ⟨p, by omega, h2, h3⟩
theorem latK_le {ar : Nat → Nat} {m d n : Nat} (h : ∀ p, p < n → m.testBit p = true → ar p ≤ d) : latK ar m n ≤ d := by
  rcases latK_in (ar := ar) (m := m) n with h1 | ⟨p, h1, h2, h3⟩
  · omega
  · rw [h3]; exact h p h1 h2
theorem sz_pos {m : Nat} (hm : m < 4096) (h : m ≠ 0) : 0 < sz m := by
  obtain ⟨i, hi⟩ := Nat.exists_testBit_of_ne_zero h
  exact fb_ct_pos.mpr ⟨i, bit_lt (n := 12) hm hi, hi⟩
theorem latK_at {ar : Nat → Nat} {m n : Nat} (hm : m < 2 ^ n) (h : m ≠ 0) : ∃ p, p < n ∧ m.testBit p = true ∧ latK ar m n = ar p := by
  rcases latK_in (ar := ar) (m := m) n with h1 | h1
  · obtain ⟨i, hi⟩ := Nat.exists_testBit_of_ne_zero h
    have hin := bit_lt hm hi
    have := latK_ge (ar := ar) hi hin
    exact ⟨i, hin, hi, by omega⟩
  · exact h1
/-- the better of two crews leaves first; of two that leave together, the one that stands ahead -/
def btr (ar : Nat → Nat) (N a b : Nat) : Prop := latK ar a N < latK ar b N ∨ (latK ar a N = latK ar b N ∧ lexl a b)
theorem lexl_as {a b : Nat} (h1 : lexl a b) (h2 : lexl b a) : False := by
  obtain ⟨p, p1, p2, p3⟩ := h1
  obtain ⟨q, q1, q2, q3⟩ := h2
  by_cases c : p < q
  · have := q3 p c; rw [p1, p2] at this; cases this
  · by_cases e : p = q
    · rw [e, q2] at p1; cases p1
    · have := p3 q (by omega); rw [q1, q2] at this; cases this
theorem lexl_tr {a b c : Nat} (h1 : lexl a b) (h2 : lexl b c) : lexl a c := by
  obtain ⟨p, p1, p2, p3⟩ := h1
  obtain ⟨q, q1, q2, q3⟩ := h2
  by_cases e : p < q
  · exact ⟨p, p1, by rw [← q3 p e]; exact p2, fun r hr => (p3 r hr).trans (q3 r (by omega))⟩
  · by_cases e2 : p = q
    · rw [e2, q1] at p2; cases p2
    · exact ⟨q, by rw [p3 q (by omega)]; exact q1, q2, fun r hr => (p3 r (by omega)).trans (q3 r hr)⟩
theorem lexl_tot {a b : Nat} (h : a ≠ b) : lexl a b ∨ lexl b a := by
  obtain ⟨i, hi⟩ := Nat.exists_testBit_ne_of_ne h
  obtain ⟨p, hp1, hp2, hp3⟩ := fb_first (p := fun i => a.testBit i ≠ b.testBit i) (n := i + 1) ⟨i, by omega, hi⟩
  have eq : ∀ q, q < p → a.testBit q = b.testBit q := fun q hq => by
    by_cases c : a.testBit q = b.testBit q
    · exact c
    · exact absurd c (hp3 q hq)
  cases ha : a.testBit p
  · cases hb : b.testBit p
    · exact absurd (ha.trans hb.symm) hp2
    · exact Or.inr ⟨p, hb, ha, fun q hq => (eq q hq).symm⟩
  · cases hb : b.testBit p
    · exact Or.inl ⟨p, ha, hb, eq⟩
    · exact absurd (ha.trans hb.symm) hp2
theorem btr_as {ar : Nat → Nat} {N a b : Nat} (h1 : btr ar N a b) (h2 : btr ar N b a) : False := by
  rcases h1 with h1 | ⟨h1, h3⟩
  · rcases h2 with h2 | ⟨h2, h4⟩ <;> omega
  · rcases h2 with h2 | ⟨h2, h4⟩
    · omega
    · exact lexl_as h3 h4
theorem btr_tr {ar : Nat → Nat} {N a b c : Nat} (h1 : btr ar N a b) (h2 : btr ar N b c) : btr ar N a c := by
  rcases h1 with h1 | ⟨h1, h3⟩
  · rcases h2 with h2 | ⟨h2, h4⟩
    · exact Or.inl (by omega)
    · exact Or.inl (by omega)
  · rcases h2 with h2 | ⟨h2, h4⟩
    · exact Or.inl (by omega)
    · exact Or.inr ⟨by omega, lexl_tr h3 h4⟩
theorem btr_tot {ar : Nat → Nat} {N a b : Nat} (h : a ≠ b) : btr ar N a b ∨ btr ar N b a := by
  by_cases c1 : latK ar a N < latK ar b N
  · exact Or.inl (Or.inl c1)
  · by_cases c2 : latK ar b N < latK ar a N
    · exact Or.inr (Or.inl c2)
    · rcases lexl_tot h with h | h
      · exact Or.inl (Or.inr ⟨by omega, h⟩)
      · exact Or.inr (Or.inr ⟨by omega, h⟩)
/-- those of A who arrive within d -/
def fwd (ar : Nat → Nat) (N A d : Nat) : Nat := mk (fun p => A.testBit p && decide (ar p ≤ d)) N
def edp (t K ar : Nat → Nat) (n N A : Nat) : Nat → Nat
  | 0 => 1440
  | i + 1 => if A.testBit i && (decide (ar i < edp t K ar n N A i) && decide (rk t K n (fwd ar N A (ar i)) = n)) then ar i else edp t K ar n N A i
section
variable {t K ar : Nat → Nat} {n N A : Nat}
theorem fwd_bit {d p : Nat} : (fwd ar N A d).testBit p = (decide (p < N) && (A.testBit p && decide (ar p ≤ d))) := mk_bit
theorem fwd_sub {d : Nat} : sub (fwd ar N A d) A := fun p h => by
  rw [fwd_bit, Bool.and_eq_true, Bool.and_eq_true] at h
  exact h.2.1
theorem edp_le {p : Nat} (h1 : A.testBit p = true) (h2 : rk t K n (fwd ar N A (ar p)) = n) : ∀ {i : Nat}, p < i → edp t K ar n N A i ≤ ar p
  | 0, h => absurd h (Nat.not_lt_zero p)
  | i + 1, h => by
    rw [edp]
    by_cases e : p = i
    · rw [← e, h1, decide_eq_true h2]
      by_cases c : ar p < edp t K ar n N A p
      · rw [decide_eq_true c]; simp
      · rw [decide_eq_false c]; simp; omega
    · have := edp_le h1 h2 (i := i) (by omega)
      split
      · rename_i c
        rw [Bool.and_eq_true, Bool.and_eq_true] at c
        have := of_decide_eq_true c.2.1
        omega
      · exact this
theorem edp_in : ∀ i, edp t K ar n N A i = 1440 ∨ ∃ p, p < i ∧ A.testBit p = true ∧ rk t K n (fwd ar N A (ar p)) = n ∧ edp t K ar n N A i = ar p
  | 0 => Or.inl rfl
  | i + 1 => by
    rw [edp]
    split
    · rename_i c
      rw [Bool.and_eq_true, Bool.and_eq_true] at c
      exact Or.inr ⟨i, by omega, c.1, of_decide_eq_true c.2.2, rfl⟩
    · rcases edp_in i with h | ⟨p, h1, h2, h3, h4⟩
      · exact Or.inl h
      · exact Or.inr ⟨p, by omega, h2, h3, h4⟩
theorem sub_lt {a b N : Nat} (h : sub a b) (hb : b < 2 ^ N) : a < 2 ^ N := by
  refine Nat.lt_of_not_le (fun q => ?_)
  obtain ⟨j, j1, j2⟩ := Nat.exists_ge_and_testBit_of_ge_two_pow (n := N) q
  have := h j j2
  rw [Nat.testBit_lt_two_pow (Nat.lt_of_lt_of_le hb (Nat.pow_le_pow_right (by decide) j1))] at this
  cases this
/-- every full crew leaves no earlier than the earliest departure, and there is one within it -/
theorem edp_spec (ht : ∀ k, t k < 5) (hn : 0 < n) (hN : N ≤ 12) (hA : A < 2 ^ N) (har : ∀ p, p < N → ar p < 1440) (hr : rk t K n A = n) :
    rk t K n (fwd ar N A (edp t K ar n N A N)) = n ∧ ∀ m, sub m A → Mt t K n m → sz m = n → edp t K ar n N A N ≤ latK ar m N := by
  have low : ∀ m, sub m A → Mt t K n m → sz m = n → edp t K ar n N A N ≤ latK ar m N := by
    intro m h1 h2 h3
    have hm := sub_lt h1 hA
    have hm0 : m ≠ 0 := fun e => by
      rw [e] at h3
      have h9 : sz 0 = 0 := by decide
      omega
    obtain ⟨p, p1, p2, p3⟩ := latK_at (ar := ar) hm hm0
    rw [p3]
    refine edp_le (h1 p p2) ?_ p1
    have hs : sub m (fwd ar N A (ar p)) := fun q hq => by
      have hqN := bit_lt hm hq
      have := latK_ge (ar := ar) hq hqN
      rw [fwd_bit, decide_eq_true hqN, h1 q hq, decide_eq_true (by omega)]
      rfl
    have := (rk_spec (K := K) ht n (fwd ar N A (ar p))).2 m hs h2
    have := rk_le t K n (fwd ar N A (ar p))
    omega
  refine ⟨?_, low⟩
  obtain ⟨⟨m, m1, m2, m3⟩, -⟩ := rk_spec (K := K) ht n A
  have hl := low m m1 m2 (by omega)
  have hl2 : latK ar m N < 1440 := Nat.lt_of_le_of_lt (latK_le (d := 1439) (fun p hp _ => by have := har p hp; omega)) (by decide)
  rcases edp_in (t := t) (K := K) (ar := ar) (n := n) (N := N) (A := A) N with h | ⟨p, h1, h2, h3, h4⟩
  · omega
  · rw [h4]; exact h3
/-- the crew that leaves: 0 if there is none -/
def crw (t K ar : Nat → Nat) (n N A : Nat) : Nat := if rk t K n A < n then 0 else fcr t K n (fwd ar N A (edp t K ar n N A N)) 12
theorem crw_none (ht : ∀ k, t k < 5) (hr : rk t K n A < n) {m : Nat} (h1 : sub m A) (h2 : Mt t K n m) : sz m ≠ n := fun e => by
  have := (rk_spec (K := K) ht n A).2 m h1 h2
  omega
theorem crw_best (ht : ∀ k, t k < 5) (hn : 0 < n) (hN : N ≤ 12) (hA : A < 2 ^ N) (har : ∀ p, p < N → ar p < 1440) (hr : ¬ rk t K n A < n) :
    sub (crw t K ar n N A) A ∧ Mt t K n (crw t K ar n N A) ∧ sz (crw t K ar n N A) = n ∧ latK ar (crw t K ar n N A) N = edp t K ar n N A N ∧ ∀ m, sub m A → Mt t K n m → sz m = n → m ≠ crw t K ar n N A → btr ar N (crw t K ar n N A) m := by
  have hr2 : rk t K n A = n := by have := rk_le t K n A; omega
  obtain ⟨e1, e2⟩ := edp_spec (K := K) (ar := ar) ht hn hN hA har hr2
  have hc : crw t K ar n N A = fcr t K n (fwd ar N A (edp t K ar n N A N)) 12 := if_neg hr
  have hB : fwd ar N A (edp t K ar n N A N) < 4096 := Nat.lt_of_lt_of_le (mk_lt N) (show 2 ^ N ≤ 2 ^ 12 from Nat.pow_le_pow_right (by decide) hN)
  have s1 : sub (crw t K ar n N A) (fwd ar N A (edp t K ar n N A N)) := by rw [hc]; exact fcr_sub 12
  have s2 := sub_tr s1 fwd_sub
  have s3 : Mt t K n (crw t K ar n N A) := by rw [hc]; exact fcr_Mt ht 12 (Nat.le_refl _)
  have s4 : sz (crw t K ar n N A) = n := by rw [hc, fcr_full ht hB]; exact e1
  have s5 : latK ar (crw t K ar n N A) N = edp t K ar n N A N := Nat.le_antisymm (latK_le (fun p hp hb => by
    have := s1 p hb
    rw [fwd_bit, Bool.and_eq_true, Bool.and_eq_true] at this
    exact of_decide_eq_true this.2.2)) (e2 _ s2 s3 s4)
  refine ⟨s2, s3, s4, s5, fun m h1 h2 h3 h4 => ?_⟩
  have l1 := e2 m h1 h2 h3
  by_cases c : latK ar m N = edp t K ar n N A N
  · refine Or.inr ⟨by omega, ?_⟩
    have hm := sub_lt h1 hA
    rw [hc] at h4 s4 ⊢
    refine fcr_lex ht (Nat.lt_of_lt_of_le hm (show 2 ^ N ≤ 2 ^ 12 from Nat.pow_le_pow_right (by decide) hN)) (fun q hq => ?_) h2 (by omega) h4
    have hqN := bit_lt hm hq
    have := latK_ge (ar := ar) hq hqN
    rw [fwd_bit, decide_eq_true hqN, h1 q hq, decide_eq_true (by omega)]
    rfl
  · exact Or.inl (by omega)
end
