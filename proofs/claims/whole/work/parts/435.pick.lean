/-! who mans a post: the lowest one with whom the others can man the posts behind -/
def rvT (t : Nat → Nat) (n : Nat) : Nat → Nat := fun j => t (n - 1 - j)
theorem ct_rev (f : Nat → Bool) : ∀ n, fb_ct (fun j => f (n - 1 - j)) n = fb_ct f n
  | 0 => rfl
  | n + 1 => by
    have e := fb_ct_split (fun j => f (n + 1 - 1 - j)) 1 n
    rw [show 1 + n = n + 1 by omega] at e
    have e2 : fb_ct (fun k => f (n + 1 - 1 - (1 + k))) n = fb_ct (fun j => f (n - 1 - j)) n := fb_ct_cong (fun k _ => by rw [show n + 1 - 1 - (1 + k) = n - 1 - k by omega])
    have e3 : fb_ct (fun j => f (n + 1 - 1 - j)) 1 = if f n then 1 else 0 := by
      show (0 + if f (n + 1 - 1 - 0) then 1 else 0) = _
      rw [Nat.zero_add, show n + 1 - 1 - 0 = n by omega]
    rw [e, e2, e3, ct_rev f n, fb_ct_succ]
    omega
theorem rk_rev {t K : Nat → Nat} {n A : Nat} : rk (rvT t n) K n A = rk t K n A := by
  have e : hf (rvT t n) K n A = hf t K n A := funext fun s => by
    unfold hf rvT
    rw [ct_rev (fun k => !s.testBit (t k)) n]
  show mnf (hf (rvT t n) K n A) n 32 = mnf (hf t K n A) n 32
  rw [e]
theorem Me_rk {t K : Nat → Nat} (ht : ∀ k, t k < 5) {n m : Nat} (hm : m < 4096) (hs : sz m = n) : Me t K n m ↔ rk t K n m = n := by
  constructor
  · intro h
    rw [rk_Mt ht (Me_Mt h).1, hs]
  · intro h
    obtain ⟨⟨m', m1, m2, m3⟩, -⟩ := rk_spec (K := K) ht n m
    have hm' : m' < 4096 := sub_lt (N := 12) m1 hm
    obtain rfl := sub_eq hm' hm m1 (by omega)
    exact Mt_Me m2 (by omega)
theorem x_sub {m p : Nat} (h : m.testBit p = true) : sub (m ^^^ 2 ^ p) m := fun q hq => by
  by_cases e : q = p
  · rw [e]; exact h
  · rw [tb_xn e] at hq; exact hq
/-- p can have the post j, when those left man the posts from j on -/
def chB (t K : Nat → Nat) (n left j p : Nat) : Bool := left.testBit p && ((K p).testBit (t j) && decide (rk (rvT t n) K (n - 1 - j) (left ^^^ 2 ^ p) = n - 1 - j))
def pkL (t K : Nat → Nat) (n N crew : Nat) : Nat → Nat
  | 0 => crew
  | j + 1 => pkL t K n N crew j ^^^ 2 ^ fa_first (chB t K n (pkL t K n N crew j) j) N
def pkP (t K : Nat → Nat) (n N crew j : Nat) : Nat := fa_first (chB t K n (pkL t K n N crew j) j) N
theorem chB_t {t K : Nat → Nat} (ht : ∀ k, t k < 5) {n left j p : Nat} (hj : j < n) (hl : left < 4096) (hp : p < 12) (hs : sz left = n - j) : chB t K n left j p = true ↔ (left.testBit p = true ∧ (K p).testBit (t j) = true ∧ Me (rvT t n) K (n - 1 - j) (left ^^^ 2 ^ p)) := by
  unfold chB
  rw [Bool.and_eq_true, Bool.and_eq_true]
  constructor
  · rintro ⟨h1, h2, h3⟩
    have := sz_off hp h1
    have := x_lt h1
    exact ⟨h1, h2, (Me_rk (fun k => ht _) (by omega) (by omega)).mpr (of_decide_eq_true h3)⟩
  · rintro ⟨h1, h2, h3⟩
    have := sz_off hp h1
    have := x_lt h1
    exact ⟨h1, h2, decide_eq_true ((Me_rk (fun k => ht _) (by omega) (by omega)).mp h3)⟩
theorem pk_step {t K : Nat → Nat} (ht : ∀ k, t k < 5) {n N left j : Nat} (hN : N ≤ 12) (hj : j < n) (hl : left < 2 ^ N) (hs : sz left = n - j) (hM : Me (rvT t n) K (n - j) left) :
    fa_first (chB t K n left j) N < N ∧ chB t K n left j (fa_first (chB t K n left j) N) = true ∧ left ^^^ 2 ^ fa_first (chB t K n left j) N < 2 ^ N ∧ sz (left ^^^ 2 ^ fa_first (chB t K n left j) N) = n - (j + 1) ∧ Me (rvT t n) K (n - (j + 1)) (left ^^^ 2 ^ fa_first (chB t K n left j) N) := by
  have hl2 := two_pow_lt hN hl
  obtain ⟨u, hu⟩ : ∃ u, n - j = u + 1 := ⟨n - j - 1, by omega⟩
  rw [hu] at hM
  obtain ⟨p, p1, p2, p3, p4⟩ := hM
  have et : rvT t n u = t j := by
    unfold rvT
    rw [show n - 1 - u = j by omega]
  rw [et] at p3
  have eu : n - 1 - j = u := by omega
  have hp := bit_lt hl p2
  have hc : chB t K n left j p = true := (chB_t ht hj hl2 p1 hs).mpr ⟨p2, p3, by rw [eu]; exact p4⟩
  have f1 : fa_first (chB t K n left j) N < N := by
    have := fa_first_le (chB t K n left j) N
    by_cases e : fa_first (chB t K n left j) N = N
    · have := fa_first_no (chB t K n left j) N p (by omega)
      rw [hc] at this
      cases this
    · omega
  have f2 := fa_first_yes (chB t K n left j) N f1
  have f3 := (chB_t ht hj hl2 (by omega) hs).mp f2
  have f4 := sz_off (show fa_first (chB t K n left j) N < 12 by omega) f3.1
  have f5 := x_lt f3.1
  exact ⟨f1, f2, by omega, by omega, by rw [show n - (j + 1) = n - 1 - j by omega]; exact f3.2.2⟩
theorem pk_inv {t K : Nat → Nat} (ht : ∀ k, t k < 5) {n N crew : Nat} (hN : N ≤ 12) (hl : crew < 2 ^ N) (hs : sz crew = n) (hM : Me t K n crew) : ∀ {j}, j ≤ n → pkL t K n N crew j < 2 ^ N ∧ sz (pkL t K n N crew j) = n - j ∧ Me (rvT t n) K (n - j) (pkL t K n N crew j) ∧ sub (pkL t K n N crew j) crew
  | 0, _ => ⟨hl, hs, (Me_rk (fun k => ht _) (two_pow_lt hN hl) hs).mpr (rk_rev.trans ((Me_rk ht (two_pow_lt hN hl) hs).mp hM)), sub_rf _⟩
  | j + 1, h => by
    obtain ⟨h1, h2, h3, h4⟩ := pk_inv ht hN hl hs hM (j := j) (by omega)
    obtain ⟨q1, q2, q3, q4, q5⟩ := pk_step ht hN (by omega) h1 h2 h3
    unfold chB at q2
    rw [Bool.and_eq_true] at q2
    exact ⟨q3, q4, q5, sub_tr (x_sub q2.1) h4⟩
theorem pkP_lt {t K : Nat → Nat} (ht : ∀ k, t k < 5) {n N crew : Nat} (hN : N ≤ 12) (hl : crew < 2 ^ N) (hs : sz crew = n) (hM : Me t K n crew) {j : Nat} (hj : j < n) : pkP t K n N crew j < N ∧ (pkL t K n N crew j).testBit (pkP t K n N crew j) = true := by
  obtain ⟨h1, h2, h3, h4⟩ := pk_inv ht hN hl hs hM (j := j) (by omega)
  obtain ⟨q1, q2, q3, q4, q5⟩ := pk_step ht hN hj h1 h2 h3
  unfold chB at q2
  rw [Bool.and_eq_true] at q2
  exact ⟨q1, q2.1⟩
