/-! a call: what becomes of the row -/
theorem StR.engo {h h' : aH} {a P : Nat} {T : Nat → Nat → Nat} {S S' : Nat → Nat} (hD : PlD T) (hR : RwD T S) (x : StR h a P T S) (hr : h_rv h' a 0 = h_rv h a 0) (hi : ∀ o k, a ≤ o → o < a + 18 → ¬ ((o = a + 9 ∨ o = a + 10) ∨ ((o = a + 13 ∨ o = a + 14) ∧ S 1 ≤ k) ∨ ((o = a + 15 ∨ o = a + 16 ∨ o = a + 17) ∧ 5 * S 1 ≤ k)) → h_iv h' o k = h_iv h o k) (e : ∀ j, ((j < 284 ∨ 299 ≤ j ∨ (j - 284) % 3 = 1) ∧ j < 299 + 19 * S 1) → S' j = S j)
    (ret : ∀ e, e < T 412 10 → h_iv h' (a + 9) e = nI (S' (284 + 3 * e)))
    (crew : ∀ e, e < T 412 10 → S' 0 < S' (284 + 3 * e) → h_iv h' (a + 10) e = nI (S' (284 + 3 * e + 2)))
    : StR h' a P T S' := by
  have d0 := hD.nP
  have d1 := hD.nG
  have d2 := hD.nE
  have r1 := hR.many
  have e0 : S' 0 = S 0 := e 0 (by omega)
  have e1 : S' 1 = S 1 := e 1 (by omega)
  refine ⟨?_, ?_, ?_, ?_, ?_, ?_, ?_, ?_, ?_, ?_, ?_, ?_, ?_, ?_, ?_, ?_, ?_, ?_, ?_, ?_, ?_, ?_⟩
  · rw [hr]; exact x.pl
  · rw [e0, hi _ _ (by omega) (by omega) (by omega)]; exact x.tm
  · intro p hp; rw [hi _ _ (by omega) (by omega) (by omega), e _ (by omega)]; exact x.lost p hp
  · intro p hp; rw [hi _ _ (by omega) (by omega) (by omega), e _ (by omega)]; exact x.out p hp
  · intro p hp; rw [hi _ _ (by omega) (by omega) (by omega), e _ (by omega)]; exact x.paid p hp
  · obtain ⟨X, x1, x2, x3, x4⟩ := x.exc
    exact ⟨X, by rw [hi _ _ (by omega) (by omega) (by omega)]; exact x1, x2, fun p hp => by rw [e _ (by omega)]; exact x3 p hp, x4⟩
  · intro p hp q hq; rw [hi _ _ (by omega) (by omega) (by omega), e _ (by omega)]; exact x.tr p hp q hq
  · intro g hg q hq
    have := hD.plc g hg
    rw [hi _ _ (by omega) (by omega) (by omega), e _ (by omega)]; exact x.rot g hg q hq
  · intro g hg; rw [hi _ _ (by omega) (by omega) (by omega), e _ (by omega)]; exact x.hn g hg
  · intro g hg k hk
    have := hR.hn g hg
    rw [e _ (by omega)] at hk
    rw [hi _ _ (by omega) (by omega) (by omega), e _ (by omega)]; exact x.to g hg k hk
  · intro g hg k hk
    have := hR.hn g hg
    rw [e _ (by omega)] at hk
    rw [hi _ _ (by omega) (by omega) (by omega), e _ (by omega)]; exact x.en g hg k hk
  · exact ret
  · exact crew
  · obtain ⟨X, x1, x2, x3, x4⟩ := x.srv
    exact ⟨X, by rw [hi _ _ (by omega) (by omega) (by omega)]; exact x1, x2, fun p hp => by rw [e _ (by omega)]; exact x3 p hp, x4⟩
  · rw [e1, hi _ _ (by omega) (by omega) (by omega)]; exact x.many
  · intro c hc; rw [e1] at hc; rw [hi _ _ (by omega) (by omega) (by omega), e _ (by omega)]; exact x.cost c hc
  · obtain ⟨X, x1, x2, x3⟩ := x.ans
    exact ⟨X, by rw [hi _ _ (by omega) (by omega) (by omega)]; exact x1, x2, fun c hc => by rw [e1] at hc; rw [e _ (by omega)]; exact x3 c hc⟩
  · intro c hc; rw [e1] at hc; rw [hi _ _ (by omega) (by omega) (by omega), e _ (by omega)]; exact x.came c hc
  · intro c hc; rw [e1] at hc; rw [hi _ _ (by omega) (by omega) (by omega), e _ (by omega)]; exact x.left c hc
  · intro c hc i hi9
    rw [e1] at hc
    have := hR.left c hc
    rw [e _ (by omega)] at hi9
    rw [hi _ _ (by omega) (by omega) (by omega), e _ (by omega)]; exact x.leng c hc i hi9
  · intro c hc i hi9
    rw [e1] at hc
    have := hR.left c hc
    rw [e _ (by omega)] at hi9
    rw [hi _ _ (by omega) (by omega) (by omega), e _ (by omega)]; exact x.ltim c hc i hi9
  · intro c hc i hi9
    rw [e1] at hc
    have := hR.left c hc
    rw [e _ (by omega)] at hi9
    rw [hi _ _ (by omega) (by omega) (by omega), e _ (by omega)]; exact x.lcrw c hc i hi9
theorem RwD.engo {T : Nat → Nat → Nat} {S S' : Nat → Nat} (hD : PlD T) (hR : RwD T S) (e : ∀ j, ((j < 284 ∨ 299 ≤ j ∨ (j - 284) % 3 = 1) ∧ j < 299 + 19 * S 1) → S' j = S j)
    (ret : ∀ e, e < T 412 10 → S' (284 + 3 * e) < 50000)
    (crew : ∀ e, e < T 412 10 → S' (284 + 3 * e + 2) < 2 ^ T 412 8)
    (crout : ∀ e, e < T 412 10 → (S' (284 + 3 * e + 2) ≠ 0 ↔ S' 0 < S' (284 + 3 * e)))
    (big : ∀ k, S' k < 2147483600)
    : RwD T S' := by
  have d0 := hD.nP
  have d1 := hD.nG
  have d2 := hD.nE
  have r1 := hR.many
  have e0 : S' 0 = S 0 := e 0 (by omega)
  have e1 : S' 1 = S 1 := e 1 (by omega)
  refine ⟨?_, ?_, ?_, ?_, ?_, ?_, ?_, ?_, ?_, ?_, ?_, ?_, ?_, ?_, ?_, ?_, ?_, ?_, ?_⟩
  · rw [e0]; exact hR.tm
  · rw [e1]; exact hR.many
  · intro p hp; rw [e0, e _ (by omega)]; exact hR.lost p hp
  · intro p hp; rw [e _ (by omega)]; exact hR.out p hp
  · intro p hp; rw [e _ (by omega)]; exact hR.exc p hp
  · intro p hp q hq; rw [e _ (by omega)]; exact hR.tr p hp q hq
  · intro g hg q hq
    have := hD.plc g hg
    rw [e _ (by omega)]; exact hR.rot g hg q hq
  · intro p hp; rw [e _ (by omega)]; exact hR.hn p hp
  · intro g hg k hk
    have := hR.hn g hg
    rw [e _ (by omega)] at hk
    rw [e _ (by omega)]; exact hR.to g hg k hk
  · intro g hg k hk
    have := hR.hn g hg
    rw [e _ (by omega)] at hk
    rw [e0, e _ (by omega)]; exact hR.en g hg k hk
  · intro g hg j k hj hk
    have := hR.hn g hg
    rw [e _ (by omega)] at hk
    rw [e (194 + 15 * g + 12 + k) (by omega), e (194 + 15 * g + 12 + j) (by omega)]; exact hR.ed g hg j k hj hk
  · exact ret
  · intro p hp; rw [e _ (by omega)]; exact hR.rest p hp
  · exact crew
  · exact crout
  · intro c hc; rw [e1] at hc; rw [e _ (by omega)]; exact hR.ans c hc
  · intro c hc; rw [e1] at hc; rw [e _ (by omega)]; exact hR.left c hc
  · intro c hc i hi9
    rw [e1] at hc
    have := hR.left c hc
    rw [e _ (by omega)] at hi9
    rw [e _ (by omega)]; exact hR.lcr c hc i hi9
  · exact big
theorem StR.clos {h h' : aH} {a P : Nat} {T : Nat → Nat → Nat} {S S' : Nat → Nat} (hD : PlD T) (hR : RwD T S) (x : StR h a P T S) (hr : h_rv h' a 0 = h_rv h a 0) (hi : ∀ o k, a ≤ o → o < a + 18 → ¬ (o = a + 11 ∨ o = a + 12) → h_iv h' o k = h_iv h o k) (e : ∀ j, (j < 299 ∧ j ≠ 1) → S' j = S j)
    (many : h_iv h' (a + 11) 0 = nI (S' 1))
    (cost : ∀ c, c < S' 1 → h_iv h' (a + 12) c = nI (S' (299 + 19 * c)))
    (ans : ∃ X, h_iv h' (a + 11) 2 = nI X ∧ X < 65536 ∧ ∀ c, c < S' 1 → X.testBit c = decide (S' (299 + 19 * c + 1) ≠ 0))
    (came : ∀ c, c < S' 1 → h_iv h' (a + 13) c = nI (S' (299 + 19 * c + 2)))
    (left : ∀ c, c < S' 1 → h_iv h' (a + 14) c = nI (S' (299 + 19 * c + 3)))
    (leng : ∀ c, c < S' 1 → ∀ i, i < S' (299 + 19 * c + 3) → h_iv h' (a + 15) (c * 5 + i) = nI (S' (299 + 19 * c + 4 + 3 * i)))
    (ltim : ∀ c, c < S' 1 → ∀ i, i < S' (299 + 19 * c + 3) → h_iv h' (a + 16) (c * 5 + i) = nI (S' (299 + 19 * c + 4 + 3 * i + 1)))
    (lcrw : ∀ c, c < S' 1 → ∀ i, i < S' (299 + 19 * c + 3) → h_iv h' (a + 17) (c * 5 + i) = nI (S' (299 + 19 * c + 4 + 3 * i + 2)))
    : StR h' a P T S' := by
  have d0 := hD.nP
  have d1 := hD.nG
  have d2 := hD.nE
  have r1 := hR.many
  have e0 : S' 0 = S 0 := e 0 (by omega)
  refine ⟨?_, ?_, ?_, ?_, ?_, ?_, ?_, ?_, ?_, ?_, ?_, ?_, ?_, ?_, ?_, ?_, ?_, ?_, ?_, ?_, ?_, ?_⟩
  · rw [hr]; exact x.pl
  · rw [e0, hi _ _ (by omega) (by omega) (by omega)]; exact x.tm
  · intro p hp; rw [hi _ _ (by omega) (by omega) (by omega), e _ (by omega)]; exact x.lost p hp
  · intro p hp; rw [hi _ _ (by omega) (by omega) (by omega), e _ (by omega)]; exact x.out p hp
  · intro p hp; rw [hi _ _ (by omega) (by omega) (by omega), e _ (by omega)]; exact x.paid p hp
  · obtain ⟨X, x1, x2, x3, x4⟩ := x.exc
    exact ⟨X, by rw [hi _ _ (by omega) (by omega) (by omega)]; exact x1, x2, fun p hp => by rw [e _ (by omega)]; exact x3 p hp, x4⟩
  · intro p hp q hq; rw [hi _ _ (by omega) (by omega) (by omega), e _ (by omega)]; exact x.tr p hp q hq
  · intro g hg q hq
    have := hD.plc g hg
    rw [hi _ _ (by omega) (by omega) (by omega), e _ (by omega)]; exact x.rot g hg q hq
  · intro g hg; rw [hi _ _ (by omega) (by omega) (by omega), e _ (by omega)]; exact x.hn g hg
  · intro g hg k hk
    have := hR.hn g hg
    rw [e _ (by omega)] at hk
    rw [hi _ _ (by omega) (by omega) (by omega), e _ (by omega)]; exact x.to g hg k hk
  · intro g hg k hk
    have := hR.hn g hg
    rw [e _ (by omega)] at hk
    rw [hi _ _ (by omega) (by omega) (by omega), e _ (by omega)]; exact x.en g hg k hk
  · intro p hp; rw [hi _ _ (by omega) (by omega) (by omega), e _ (by omega)]; exact x.ret p hp
  · intro g hg hq
    rw [e0, e _ (by omega)] at hq
    rw [hi _ _ (by omega) (by omega) (by omega), e _ (by omega)]; exact x.crew g hg hq
  · obtain ⟨X, x1, x2, x3, x4⟩ := x.srv
    exact ⟨X, by rw [hi _ _ (by omega) (by omega) (by omega)]; exact x1, x2, fun p hp => by rw [e _ (by omega)]; exact x3 p hp, x4⟩
  · exact many
  · exact cost
  · exact ans
  · exact came
  · exact left
  · exact leng
  · exact ltim
  · exact lcrw
theorem RwD.clos {T : Nat → Nat → Nat} {S S' : Nat → Nat} (hD : PlD T) (hR : RwD T S) (e : ∀ j, (j < 299 ∧ j ≠ 1) → S' j = S j)
    (many : S' 1 ≤ 16)
    (ans : ∀ c, c < S' 1 → S' (299 + 19 * c + 1) ≤ 1)
    (left : ∀ c, c < S' 1 → S' (299 + 19 * c + 3) ≤ 5)
    (lcr : ∀ c, c < S' 1 → ∀ i, i < S' (299 + 19 * c + 3) → S' (299 + 19 * c + 4 + 3 * i + 2) < 2 ^ T 412 8)
    (big : ∀ k, S' k < 2147483600)
    : RwD T S' := by
  have d0 := hD.nP
  have d1 := hD.nG
  have d2 := hD.nE
  have r1 := hR.many
  have e0 : S' 0 = S 0 := e 0 (by omega)
  refine ⟨?_, ?_, ?_, ?_, ?_, ?_, ?_, ?_, ?_, ?_, ?_, ?_, ?_, ?_, ?_, ?_, ?_, ?_, ?_⟩
  · rw [e0]; exact hR.tm
  · exact many
  · intro p hp; rw [e0, e _ (by omega)]; exact hR.lost p hp
  · intro p hp; rw [e _ (by omega)]; exact hR.out p hp
  · intro p hp; rw [e _ (by omega)]; exact hR.exc p hp
  · intro p hp q hq; rw [e _ (by omega)]; exact hR.tr p hp q hq
  · intro g hg q hq
    have := hD.plc g hg
    rw [e _ (by omega)]; exact hR.rot g hg q hq
  · intro p hp; rw [e _ (by omega)]; exact hR.hn p hp
  · intro g hg k hk
    have := hR.hn g hg
    rw [e _ (by omega)] at hk
    rw [e _ (by omega)]; exact hR.to g hg k hk
  · intro g hg k hk
    have := hR.hn g hg
    rw [e _ (by omega)] at hk
    rw [e0, e _ (by omega)]; exact hR.en g hg k hk
  · intro g hg j k hj hk
    have := hR.hn g hg
    rw [e _ (by omega)] at hk
    rw [e (194 + 15 * g + 12 + k) (by omega), e (194 + 15 * g + 12 + j) (by omega)]; exact hR.ed g hg j k hj hk
  · intro p hp; rw [e _ (by omega)]; exact hR.ret p hp
  · intro p hp; rw [e _ (by omega)]; exact hR.rest p hp
  · intro p hp; rw [e _ (by omega)]; exact hR.crew p hp
  · intro g hg; rw [e0, e (284 + 3 * g + 2) (by omega), e (284 + 3 * g) (by omega)]; exact hR.crout g hg
  · exact ans
  · exact left
  · exact lcr
  · exact big
section
variable {T : Nat → Nat → Nat} {S R : Nat → Nat} {t n : Nat} {f : Nat → Nat} {B : Nat → Bool}
/-- what one who is away from t to u is paid -/
def pyF (T : Nat → Nat → Nat) (t u : Nat) : Nat := (u - t) + (nm (T 418 0) (T 418 1) u - nm (T 418 0) (T 418 1) t)
theorem pyF_le (t u : Nat) : pyF T t u ≤ 2 * (u - t) := by
  unfold pyF
  by_cases c : t ≤ u
  · have := nm_le' (T 418 0) (T 418 1) c
    omega
  · have := nm_mono' (T 418 0) (T 418 1) (show u ≤ t by omega)
    omega
/-- the first n persons, those of B, are sent away -/
def sdR (T : Nat → Nat → Nat) (t : Nat) (f : Nat → Nat) (B : Nat → Bool) (n : Nat) (R : Nat → Nat) (j : Nat) : Nat := if 14 ≤ j ∧ j < 14 + n ∧ B (j - 14) = true then f (j - 14) else if 38 ≤ j ∧ j < 38 + n ∧ B (j - 38) = true then R j + pyF T t (f (j - 38)) else R j
def sdK (T : Nat → Nat → Nat) (t : Nat) (f : Nat → Nat) (B : Nat → Bool) : Nat → Nat
  | 0 => 0
  | n + 1 => sdK T t f B n + (if B n then pyF T t (f n) else 0)
def pd (T : Nat → Nat → Nat) (t : Nat) (R : Nat → Nat) (p u : Nat) : Nat → Nat := pt (pt R (14 + p) u) (38 + p) (R (38 + p) + pyF T t u)
theorem sdR_0 : sdR T t f B 0 R = R := funext fun j => by
  unfold sdR
  rw [if_neg (by omega), if_neg (by omega)]
theorem sdR_no (h : B n = false) (hn : n < 12) : sdR T t f B (n + 1) R = sdR T t f B n R := funext fun j => by
  unfold sdR
  by_cases c1 : j = 14 + n
  · subst c1
    rw [if_neg (fun q => by rw [Nat.add_sub_cancel_left, h] at q; exact absurd q.2.2 (by decide)), if_neg (by omega), if_neg (by omega), if_neg (by omega)]
  · by_cases c2 : j = 38 + n
    · subst c2
      rw [if_neg (by omega), if_neg (fun q => by rw [Nat.add_sub_cancel_left, h] at q; exact absurd q.2.2 (by decide)), if_neg (by omega), if_neg (by omega)]
    · simp only [show (j < 14 + (n + 1)) = (j < 14 + n) from propext (by omega), show (j < 38 + (n + 1)) = (j < 38 + n) from propext (by omega)]
theorem sdR_yes (h : B n = true) (hn : n < 12) : sdR T t f B (n + 1) R = pd T t (sdR T t f B n R) n (f n) := funext fun j => by
  unfold pd pt
  by_cases c2 : j = 38 + n
  · subst c2
    rw [if_pos rfl]
    unfold sdR
    rw [if_neg (by omega), if_pos ⟨by omega, by omega, by rw [Nat.add_sub_cancel_left]; exact h⟩, Nat.add_sub_cancel_left, if_neg (by omega), if_neg (by omega)]
  · rw [if_neg c2]
    by_cases c1 : j = 14 + n
    · subst c1
      rw [if_pos rfl]
      unfold sdR
      rw [if_pos ⟨by omega, by omega, by rw [Nat.add_sub_cancel_left]; exact h⟩, Nat.add_sub_cancel_left]
    · rw [if_neg c1]
      unfold sdR
      simp only [show (j < 14 + (n + 1)) = (j < 14 + n) from propext (by omega), show (j < 38 + (n + 1)) = (j < 38 + n) from propext (by omega)]
theorem sdR_o {j : Nat} (h : j < 14 ∨ (26 ≤ j ∧ j < 38) ∨ 50 ≤ j) (hn : n ≤ 12) : sdR T t f B n R j = R j := by
  unfold sdR
  rw [if_neg (by omega), if_neg (by omega)]
theorem sdR_pay (hf : ∀ p, p < n → B p = true → f p ≤ t + 1389) (hn : n ≤ 12) {p : Nat} (hp : p < 12) : sdR T t f B n R (38 + p) ≤ R (38 + p) + 2778 := by
  unfold sdR
  rw [if_neg (by omega)]
  by_cases c : 38 ≤ 38 + p ∧ 38 + p < 38 + n ∧ B (38 + p - 38) = true
  · rw [if_pos c]
    have h1 := hf _ (by omega) c.2.2
    have h2 := pyF_le (T := T) t (f (38 + p - 38))
    omega
  · rw [if_neg c]; omega
theorem sdK_le (hf : ∀ p, p < n → B p = true → f p ≤ t + 1389) : sdK T t f B n ≤ 2778 * n := by
  induction n with
  | zero => exact Nat.le_refl _
  | succ n ih =>
    have h1 := ih (fun p hp => hf p (by omega))
    rw [sdK]
    by_cases c : B n = true
    · rw [if_pos c]
      have h2 := hf n (by omega) c
      have h3 := pyF_le (T := T) t (f n)
      omega
    · rw [if_neg c]; omega
theorem sdR_R (hD : PlD T) (hR : RwD T R) (hn : n ≤ T 412 8) (ht : t ≤ 20160) (hf : ∀ p, p < n → B p = true → f p ≤ t + 1389) (hp : ∀ p, p < T 412 8 → R (38 + p) < 2000000000) : RwD T (sdR T t f B n R) := by
  have d0 := hD.nP
  refine hR.send hD (fun j hj => sdR_o hj (by omega)) (fun p hp => ?_) (fun j => ?_)
  · unfold sdR
    by_cases c : 14 ≤ 14 + p ∧ 14 + p < 14 + n ∧ B (14 + p - 14) = true
    · rw [if_pos c]
      have h1 := hf _ (by omega) c.2.2
      omega
    · rw [if_neg c, if_neg (by omega)]; exact hR.out p hp
  · unfold sdR
    by_cases c : 14 ≤ j ∧ j < 14 + n ∧ B (j - 14) = true
    · rw [if_pos c]
      have h1 := hf _ (by omega) c.2.2
      omega
    · rw [if_neg c]
      by_cases c2 : 38 ≤ j ∧ j < 38 + n ∧ B (j - 38) = true
      · rw [if_pos c2]
        have h1 := hf _ (by omega) c2.2.2
        have h2 := pyF_le (T := T) t (f (j - 38))
        have h3 := hp (j - 38) (by omega)
        rw [show 38 + (j - 38) = j by omega] at h3
        omega
      · rw [if_neg c2]; exact hR.big j
/-- who falls in trust -/
def tlP (T : Nat → Nat → Nat) (S : Nat → Nat) (k j : Nat) : Nat := link T S (T 432 (6 * k + j)) (S (194 + 15 * T 432 (6 * k + j) + 8))
def tlQ (T : Nat → Nat → Nat) (S : Nat → Nat) (k j : Nat) : Nat := link T S (T 432 (6 * k + j)) (S (194 + 15 * T 432 (6 * k + j) + 8) - 1)
def tlB (T : Nat → Nat → Nat) (S : Nat → Nat) (k j : Nat) : Bool := decide (S (194 + 15 * T 432 (6 * k + j) + 8) ≠ 0 ∧ absn T S k (tlP T S k j) ≠ 0)
def tlR (T : Nat → Nat → Nat) (S : Nat → Nat) (k : Nat) : Nat → Nat → Nat
  | 0 => S
  | j + 1 => if tlB T S k j then pt (tlR T S k j) (50 + 12 * tlQ T S k j + tlP T S k j) (tlR T S k j (50 + 12 * tlQ T S k j + tlP T S k j) - 1) else tlR T S k j
theorem tl_lt (hD : PlD T) (hR : RwD T S) {k j : Nat} (hk : k < T 412 11) (hj : j < T 431 k) : tlP T S k j < T 412 8 ∧ tlQ T S k j < T 412 8 := by
  have hg := hD.kg k hk j hj
  exact ⟨link_lt hD hR hg (Nat.le_refl _), link_lt hD hR hg (Nat.sub_le _ _)⟩
theorem tlR_le {k : Nat} : ∀ (i j : Nat), tlR T S k i j ≤ S j
  | 0, j => Nat.le_refl _
  | i + 1, j => by
    rw [tlR]
    split
    · unfold pt
      split
      · have : tlR T S k i j ≤ S j := tlR_le i j
        rename_i e
        rw [← e]
        omega
      · exact tlR_le i j
    · exact tlR_le i j
theorem tlR_o (hD : PlD T) (hR : RwD T S) {k : Nat} (hk : k < T 412 11) : ∀ {i : Nat}, i ≤ T 431 k → ∀ {j : Nat}, (j < 50 ∨ 194 ≤ j) → tlR T S k i j = S j
  | 0, _, j, _ => rfl
  | i + 1, hi, j, hj => by
    have d0 := hD.nP
    obtain ⟨a1, a2⟩ := tl_lt hD hR hk (j := i) (by omega)
    rw [tlR]
    split
    · rw [pt_n (by omega)]; exact tlR_o hD hR hk (by omega) hj
    · exact tlR_o hD hR hk (by omega) hj
theorem tlR_R (hD : PlD T) (hR : RwD T S) {k i : Nat} (hk : k < T 412 11) (hi : i ≤ T 431 k) : RwD T (tlR T S k i) := hR.trust hD (fun j hj => tlR_o hD hR hk hi hj) (fun p hp q hq => Nat.le_trans (tlR_le _ _) (hR.tr p hp q hq)) (fun j => Nat.lt_of_le_of_lt (tlR_le _ _) (hR.big j))
/-- the call is written into the book -/
def lgR (T : Nat → Nat → Nat) (S : Nat → Nat) (k : Nat) (R : Nat → Nat) (j : Nat) : Nat := if 299 + 19 * S 1 < j ∧ j < 299 + 19 * S 1 + 19 then (if j = 299 + 19 * S 1 + 1 then (if plV T S k (T 433 k) < T 430 k then 0 else 1) else if j = 299 + 19 * S 1 + 2 then sz (com T S k) else if j = 299 + 19 * S 1 + 3 then plV T S k (T 433 k) else 0) else R j
theorem lgR_o {k j : Nat} (h : j ≤ 299 + 19 * S 1) : lgR T S k R j = R j := if_neg (by omega)
theorem sz_le (m : Nat) : sz m ≤ 12 := fb_ct_le _ _
theorem lgR_R (hD : PlD T) (hR : RwD T R) {k : Nat} (hk : k < T 412 11) (e1 : R 1 = S 1) : RwD T (lgR T S k R) := by
  have d2 := hD.nE
  have d3 := hD.ken k hk
  have v := plV_le T S k (T 433 k)
  have z := sz_le (com T S k)
  refine hR.engo hD (fun j hj => lgR_o (by omega)) (fun e he => ?_) (fun e he => ?_) (fun e he => ?_) (fun j => ?_)
  · rw [lgR_o (by omega)]; exact hR.ret e he
  · rw [lgR_o (by omega)]; exact hR.crew e he
  · rw [lgR_o (by omega), lgR_o (by omega), lgR_o (by omega)]; exact hR.crout e he
  · unfold lgR
    have := hR.big j
    (repeat' split) <;> omega
/-- one engine leaves -/
def plJ (T : Nat → Nat → Nat) (S : Nat → Nat) (k i : Nat) : Nat := plC T S k (plF T S k i) i
def plX (T : Nat → Nat → Nat) (S : Nat → Nat) (k i : Nat) : Nat := latK (arr T S) (plJ T S k i) (T 412 8)
def enU (T : Nat → Nat → Nat) (S : Nat → Nat) (k i : Nat) : Nat := S 0 + plX T S k i + 2 * T 425 (enK T k i) + T 428 k
def egR (T : Nat → Nat → Nat) (S : Nat → Nat) (k i : Nat) (R : Nat → Nat) : Nat → Nat := pt (pt (pt (pt (pt R (299 + 19 * S 1 + 4 + 3 * plV T S k i) (enK T k i)) (299 + 19 * S 1 + 4 + 3 * plV T S k i + 1) (S 0 + plX T S k i)) (299 + 19 * S 1 + 4 + 3 * plV T S k i + 2) (plJ T S k i)) (284 + 3 * enK T k i) (enU T S k i)) (284 + 3 * enK T k i + 2) (plJ T S k i)
def enR (T : Nat → Nat → Nat) (S : Nat → Nat) (k : Nat) (R : Nat → Nat) : Nat → Nat → Nat
  | 0 => R
  | i + 1 => if plJ T S k i = 0 then enR T S k R i else sdR T (S 0) (fun _ => enU T S k i) (fun p => (plJ T S k i).testBit p) (T 412 8) (egR T S k i (enR T S k R i))
def enC (T : Nat → Nat → Nat) (S : Nat → Nat) (k : Nat) : Nat → Nat
  | 0 => 0
  | i + 1 => if plJ T S k i = 0 then enC T S k i else enC T S k i + sdK T (S 0) (fun _ => enU T S k i) (fun p => (plJ T S k i).testBit p) (T 412 8)
theorem plX_le (hD : PlD T) {k i : Nat} : plX T S k i ≤ 150 := latK_le (fun p hp _ => arr_lt hD hp)
theorem enU_le (hD : PlD T) {k i : Nat} (hk : k < T 412 11) (hi : i < T 433 k) : enU T S k i ≤ S 0 + 1389 ∧ S 0 < enU T S k i := by
  have h1 := plX_le (S := S) hD (k := k) (i := i)
  have h2 := hD.drv _ (hD.ke k hk i hi)
  have h3 := hD.dur k hk
  unfold enK at *
  unfold enU
  unfold enK
  omega
theorem egR_o {k i j : Nat} (h : j < 284 ∨ (299 ≤ j ∧ j < 299 + 19 * S 1 + 4 + 3 * plV T S k i) ∨ 299 + 19 * S 1 + 4 + 3 * plV T S k i + 3 ≤ j) (he : enK T k i < 5) : egR T S k i R j = R j := by
  unfold egR
  rw [pt_n (by omega), pt_n (by omega), pt_n (by omega), pt_n (by omega), pt_n (by omega)]
theorem egR_e {k i e : Nat} (h : e ≠ enK T k i) (he : e < 5) : egR T S k i R (284 + 3 * e) = R (284 + 3 * e) ∧ egR T S k i R (284 + 3 * e + 1) = R (284 + 3 * e + 1) ∧ egR T S k i R (284 + 3 * e + 2) = R (284 + 3 * e + 2) := by
  unfold egR
  refine ⟨?_, ?_, ?_⟩ <;> rw [pt_n (by omega), pt_n (by omega), pt_n (by omega), pt_n (by omega), pt_n (by omega)]
theorem egR_c {k i : Nat} (he : enK T k i < 5) : egR T S k i R (299 + 19 * S 1 + 4 + 3 * plV T S k i) = enK T k i ∧ egR T S k i R (299 + 19 * S 1 + 4 + 3 * plV T S k i + 1) = S 0 + plX T S k i ∧ egR T S k i R (299 + 19 * S 1 + 4 + 3 * plV T S k i + 2) = plJ T S k i ∧ egR T S k i R (284 + 3 * enK T k i) = enU T S k i ∧ egR T S k i R (284 + 3 * enK T k i + 1) = R (284 + 3 * enK T k i + 1) ∧ egR T S k i R (284 + 3 * enK T k i + 2) = plJ T S k i := by
  unfold egR
  refine ⟨?_, ?_, ?_, ?_, ?_, ?_⟩
  · rw [pt_n (by omega), pt_n (by omega), pt_n (by omega), pt_n (by omega), pt_e]
  · rw [pt_n (by omega), pt_n (by omega), pt_n (by omega), pt_e]
  · rw [pt_n (by omega), pt_n (by omega), pt_e]
  · rw [pt_n (by omega), pt_e]
  · rw [pt_n (by omega), pt_n (by omega), pt_n (by omega), pt_n (by omega), pt_n (by omega)]
  · rw [pt_e]
theorem plJ_lt (hD : PlD T) {k i : Nat} (hk : k < T 412 11) (hi : i < T 433 k) : plJ T S k i < 2 ^ T 412 8 := plC_lt hD hk hi (plF_lt hD S k i)
theorem egR_R (hD : PlD T) (hR : RwD T R) {k i : Nat} (hk : k < T 412 11) (hi : i < T 433 k) (e0 : R 0 = S 0) (e1 : R 1 = S 1) (ht : S 0 ≤ 20160) (h0 : plJ T S k i ≠ 0) : RwD T (egR T S k i R) := by
  have d0 := hD.nP
  have d2 := hD.nE
  have he := hD.ke k hk i hi
  change enK T k i < T 412 10 at he
  have lt := plJ_lt (S := S) hD hk hi
  have lt2 := two_pow_lt d0 lt
  obtain ⟨u1, u2⟩ := enU_le (S := S) hD hk hi
  have l1 := plX_le (S := S) hD (k := k) (i := i)
  obtain ⟨c1, c2, c3, c4, c5, c6⟩ := egR_c (S := S) (R := R) (T := T) (k := k) (i := i) (by omega)
  have s1 := hR.many
  refine hR.engo hD (fun j hj => ?_) (fun e he2 => ?_) (fun e he2 => ?_) (fun e he2 => ?_) (fun j => ?_)
  · unfold egR
    rw [pt_n (by omega), pt_n (by omega), pt_n (by omega), pt_n (by omega), pt_n (by omega)]
  · by_cases c : e = enK T k i
    · rw [c, c4]; omega
    · rw [(egR_e c (by omega)).1]; exact hR.ret e he2
  · by_cases c : e = enK T k i
    · rw [c, c6]; exact lt
    · rw [(egR_e c (by omega)).2.2]; exact hR.crew e he2
  · have e00 : egR T S k i R 0 = S 0 := by rw [egR_o (by omega) (by omega)]; exact e0
    rw [e00, ← e0]
    by_cases c : e = enK T k i
    · rw [c, c6, c4, e0]
      exact ⟨fun _ => u2, fun _ => h0⟩
    · rw [(egR_e c (by omega)).2.2, (egR_e c (by omega)).1]; exact hR.crout e he2
  · have := hR.big j
    unfold egR pt
    (repeat' split) <;> omega
/-- what holds of the row when i engines were asked -/
theorem enR_inv (hD : PlD T) (hR : RwD T R) {k : Nat} (hk : k < T 412 11) (e0 : R 0 = S 0) (e1 : R 1 = S 1) (ht : S 0 ≤ 20160) (hp : ∀ p, p < T 412 8 → R (38 + p) ≤ 500000) : ∀ {i : Nat}, i ≤ T 433 k → RwD T (enR T S k R i) ∧ (∀ j, (j < 14 ∨ (26 ≤ j ∧ j < 38) ∨ (50 ≤ j ∧ j < 284) ∨ (299 ≤ j ∧ j < 299 + 19 * S 1 + 4)) → enR T S k R i j = R j) ∧ (∀ p, p < T 412 8 → enR T S k R i (38 + p) ≤ R (38 + p) + 2778 * i) ∧ (∀ v, v < plV T S k i → enR T S k R i (299 + 19 * S 1 + 4 + 3 * v + 2) < 2 ^ T 412 8) ∧ enC T S k i ≤ 40000 * i
  | 0, _ => ⟨hR, fun _ _ => rfl, fun _ _ => Nat.le_refl _, fun v hv => absurd hv (Nat.not_lt_zero _), Nat.le_refl _⟩
  | i + 1, hi => by
    have d0 := hD.nP
    have d2 := hD.nE
    have d3 := hD.ken k hk
    have he := hD.ke k hk i (by omega)
    change enK T k i < T 412 10 at he
    obtain ⟨q1, q2, q3, q4, q5⟩ := enR_inv hD hR hk e0 e1 ht hp (i := i) (by omega)
    by_cases c : plJ T S k i = 0
    · have cv : plV T S k (i + 1) = plV T S k i := by
        show plV T S k i + (if plJ T S k i = 0 then 0 else 1) = _
        rw [if_pos c, Nat.add_zero]
      rw [enR, if_pos c, enC, if_pos c, cv]
      exact ⟨q1, q2, fun p hp => Nat.le_trans (q3 p hp) (by omega), q4, by omega⟩
    · have cv : plV T S k (i + 1) = plV T S k i + 1 := by
        show plV T S k i + (if plJ T S k i = 0 then 0 else 1) = _
        rw [if_neg c]
      obtain ⟨u1, u2⟩ := enU_le (S := S) hD hk (i := i) (by omega)
      have r1 := egR_R hD q1 hk (i := i) (by omega) (by rw [q2 _ (by omega)]; exact e0) (by rw [q2 _ (by omega)]; exact e1) ht c
      have hf : ∀ p, p < T 412 8 → (plJ T S k i).testBit p = true → enU T S k i ≤ S 0 + 1389 := fun _ _ _ => u1
      have sk := sdK_le (T := T) (t := S 0) (f := fun _ => enU T S k i) (B := fun p => (plJ T S k i).testBit p) (n := T 412 8) hf
      rw [enR, if_neg c, enC, if_neg c, cv]
      refine ⟨sdR_R hD r1 (Nat.le_refl _) ht hf (fun p hp9 => ?_), fun j hj => ?_, fun p hp9 => ?_, fun v hv => ?_, by omega⟩
      · rw [egR_o (by omega) (by omega)]
        have := q3 p hp9
        have := hp p hp9
        omega
      · rw [sdR_o (by omega) d0, egR_o (by omega) (by omega)]; exact q2 j hj
      · refine Nat.le_trans (sdR_pay hf d0 (by omega)) ?_
        rw [egR_o (by omega) (by omega)]
        have := q3 p hp9
        omega
      · rw [sdR_o (by omega) d0]
        by_cases cc : v = plV T S k i
        · rw [cc, (egR_c (by omega)).2.2.1]; exact plJ_lt hD hk (by omega)
        · rw [egR_o (by omega) (by omega)]; exact q4 v (by omega)
/-- those who come and stay without an engine -/
def voF (T : Nat → Nat → Nat) (S : Nat → Nat) (p : Nat) : Nat := S 0 + arr T S p + T 420 p
def caE (T : Nat → Nat → Nat) (S : Nat → Nat) (k : Nat) : Nat → Nat → Nat := enR T S k (lgR T S k (tlR T S k (T 431 k)))
def caV (T : Nat → Nat → Nat) (S : Nat → Nat) (k : Nat) : Nat → Nat := sdR T (S 0) (voF T S) (fun p => (plF T S k (T 433 k)).testBit p) (T 412 8) (caE T S k (T 433 k))
def caK (T : Nat → Nat → Nat) (S : Nat → Nat) (k : Nat) : Nat := 50 * plV T S k (T 433 k) + enC T S k (T 433 k) + sdK T (S 0) (voF T S) (fun p => (plF T S k (T 433 k)).testBit p) (T 412 8)
def caR (T : Nat → Nat → Nat) (S : Nat → Nat) (k : Nat) : Nat → Nat := pt (pt (caV T S k) (299 + 19 * S 1) (caK T S k)) 1 (S 1 + 1)
theorem voF_le (hD : PlD T) {p : Nat} (hp : p < T 412 8) : voF T S p ≤ S 0 + 1389 := by
  have h1 := arr_lt (S := S) hD hp
  have h2 := hD.trv p hp
  unfold voF
  omega
/-- what the rows of a call keep -/
theorem ca_0 (hD : PlD T) (hR : RwD T S) {k : Nat} (hk : k < T 412 11) : RwD T (lgR T S k (tlR T S k (T 431 k))) ∧ (∀ j, (j < 50 ∨ (194 ≤ j ∧ j ≤ 299 + 19 * S 1)) → lgR T S k (tlR T S k (T 431 k)) j = S j) := by
  have r0 := tlR_R hD hR hk (Nat.le_refl _)
  have r1 : tlR T S k (T 431 k) 1 = S 1 := tlR_o hD hR hk (Nat.le_refl _) (by omega)
  exact ⟨lgR_R hD r0 hk r1, fun j hj => by rw [lgR_o (by omega)]; exact tlR_o hD hR hk (Nat.le_refl _) (by omega)⟩
theorem caE_inv (hD : PlD T) (hR : RwD T S) {k : Nat} (hk : k < T 412 11) (ht : S 0 ≤ 20160) (hp : ∀ p, p < T 412 8 → S (38 + p) ≤ 500000) {i : Nat} (hi : i ≤ T 433 k) : RwD T (caE T S k i) ∧ (∀ j, (j < 14 ∨ (26 ≤ j ∧ j < 38) ∨ (50 ≤ j ∧ j < 284) ∨ (299 ≤ j ∧ j < 299 + 19 * S 1 + 4)) → caE T S k i j = lgR T S k (tlR T S k (T 431 k)) j) ∧ (∀ p, p < T 412 8 → caE T S k i (38 + p) ≤ S (38 + p) + 2778 * i) ∧ (∀ v, v < plV T S k i → caE T S k i (299 + 19 * S 1 + 4 + 3 * v + 2) < 2 ^ T 412 8) ∧ enC T S k i ≤ 40000 * i := by
  obtain ⟨r0, r1⟩ := ca_0 hD hR hk
  have d0 := hD.nP
  have e := fun j hj => r1 j (Or.inl hj)
  obtain ⟨q1, q2, q3, q4, q5⟩ := enR_inv hD r0 hk (e 0 (by omega)) (e 1 (by omega)) ht (fun p hp9 => by rw [e _ (by omega)]; exact hp p hp9) hi
  exact ⟨q1, q2, fun p hp9 => by rw [← e _ (by omega)]; exact q3 p hp9, q4, q5⟩
theorem caV_R (hD : PlD T) (hR : RwD T S) {k : Nat} (hk : k < T 412 11) (ht : S 0 ≤ 20160) (hp : ∀ p, p < T 412 8 → S (38 + p) ≤ 500000) : RwD T (caV T S k) := by
  obtain ⟨q1, q2, q3, q4, q5⟩ := caE_inv hD hR hk ht hp (Nat.le_refl _)
  have d3 := hD.ken k hk
  have d0 := hD.nP
  refine sdR_R hD q1 (Nat.le_refl _) ht (fun p hp9 _ => voF_le hD hp9) (fun p hp9 => ?_)
  have := q3 p hp9
  have := hp p hp9
  omega
theorem caK_le (hD : PlD T) (hR : RwD T S) {k : Nat} (hk : k < T 412 11) (ht : S 0 ≤ 20160) (hp : ∀ p, p < T 412 8 → S (38 + p) ≤ 500000) : caK T S k ≤ 300000 := by
  obtain ⟨q1, q2, q3, q4, q5⟩ := caE_inv hD hR hk ht hp (Nat.le_refl _)
  have d0 := hD.nP
  have d3 := hD.ken k hk
  have v := plV_le T S k (T 433 k)
  have h := sdK_le (T := T) (t := S 0) (f := voF T S) (B := fun p => (plF T S k (T 433 k)).testBit p) (n := T 412 8) (fun p hp9 _ => voF_le hD hp9)
  unfold caK
  omega
theorem caR_B (hD : PlD T) (hB : RwB T S) {k : Nat} (hk : k < T 412 11) (h16 : S 1 < 16) : RwB T (caR T S k) := by
  obtain ⟨hR, hp, ht⟩ := hB
  have d0 := hD.nP
  have d3 := hD.ken k hk
  have hp2 : ∀ p, p < T 412 8 → S (38 + p) ≤ 500000 := fun p hp9 => by
    have := hp p hp9
    omega
  obtain ⟨q1, q2, q3, q4, q5⟩ := caE_inv hD hR hk ht hp2 (Nat.le_refl _)
  obtain ⟨-, z1⟩ := ca_0 hD hR hk
  have v9 := plV_le T S k (T 433 k)
  have hf : ∀ p, p < T 412 8 → (plF T S k (T 433 k)).testBit p = true → voF T S p ≤ S 0 + 1389 := fun p hp9 _ => voF_le hD hp9
  have rV := caV_R hD hR hk ht hp2
  have kl := caK_le hD hR hk ht hp2
  have eo : ∀ {j}, j ≠ 1 → j ≠ 299 + 19 * S 1 → caR T S k j = caV T S k j := fun h1 h2 => by unfold caR; rw [pt_n h1, pt_n h2]
  have ev : ∀ {j}, (j < 14 ∨ (26 ≤ j ∧ j < 38) ∨ 50 ≤ j) → caV T S k j = caE T S k (T 433 k) j := fun h => sdR_o h d0
  have e1 : caR T S k 1 = S 1 + 1 := pt_e
  have v1 : caV T S k 1 = S 1 := by rw [ev (by omega), q2 _ (by omega)]; exact z1 _ (by omega)
  have lg : ∀ i, 0 < i → i < 4 → caR T S k (299 + 19 * S 1 + i) = lgR T S k (tlR T S k (T 431 k)) (299 + 19 * S 1 + i) := fun i h1 h2 => by rw [eo (by omega) (by omega), ev (by omega), q2 _ (by omega)]
  have l1 : caR T S k (299 + 19 * S 1 + 1) ≤ 1 := by
    rw [lg 1 (by omega) (by omega)]
    unfold lgR
    rw [if_pos (by omega), if_pos rfl]
    split <;> omega
  have l3 : caR T S k (299 + 19 * S 1 + 3) = plV T S k (T 433 k) := by
    rw [lg 3 (by omega) (by omega)]
    unfold lgR
    rw [if_pos (by omega), if_neg (by omega), if_neg (by omega), if_pos rfl]
  refine ⟨rV.clos hD (fun j hj => eo (by omega) (by omega)) (by omega) (fun c hc => ?_) (fun c hc => ?_) (fun c hc i hi => ?_) (fun j => ?_), fun p hp9 => ?_, ?_⟩
  · rw [e1] at hc
    by_cases cc : c = S 1
    · rw [cc]; exact l1
    · rw [eo (by omega) (by omega)]; exact rV.ans c (by omega)
  · rw [e1] at hc
    by_cases cc : c = S 1
    · rw [cc, l3]; omega
    · rw [eo (by omega) (by omega)]; exact rV.left c (by omega)
  · rw [e1] at hc
    by_cases cc : c = S 1
    · rw [cc, l3] at hi
      rw [cc, eo (by omega) (by omega), ev (by omega)]; exact q4 i hi
    · have l9 := rV.left c (by omega)
      rw [eo (by omega) (by omega)] at hi
      rw [eo (by omega) (by omega)]; exact rV.lcr c (by omega) i hi
  · have := rV.big j
    unfold caR pt
    (repeat' split) <;> omega
  · rw [eo (by omega) (by omega), e1]
    have h1 : caV T S k (38 + p) ≤ caE T S k (T 433 k) (38 + p) + 2778 := sdR_pay hf d0 (by omega)
    have h2 := q3 p hp9
    have h3 := hp p hp9
    omega
  · rw [eo (by omega) (by omega), ev (by omega), q2 _ (by omega), z1 _ (by omega)]; exact ht
end
