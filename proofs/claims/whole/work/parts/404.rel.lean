/-! what objects say: plan, state, in numbers. T: the numbers of the reference (its cells), S: a row -/
/-- the bounds of a plan -/
def PlD (T : Nat → Nat → Nat) : Prop :=
  (T 418 0 < 24) ∧
  (T 418 1 < 24) ∧
  (T 418 0 ≠ T 418 1) ∧
  (T 418 2 ≤ 30) ∧
  (1 ≤ T 418 3 ∧ T 418 3 ≤ 999) ∧
  (T 412 8 ≤ 12) ∧
  (T 412 9 ≤ 6) ∧
  (T 412 10 ≤ 5) ∧
  (T 412 11 ≤ 6) ∧
  (∀ p, p < T 412 8 → T 420 p ≤ 120) ∧
  (∀ p, p < T 412 8 → T 421 p < 16) ∧
  (∀ g, g < T 412 9 → T 422 g ≤ 9) ∧
  (∀ g, g < T 412 9 → 60 ≤ T 423 g ∧ T 423 g ≤ 10080) ∧
  (∀ g, g < T 412 9 → 1 ≤ T 424 g ∧ T 424 g ≤ 8) ∧
  (∀ e, e < T 412 10 → T 425 e ≤ 120) ∧
  (∀ e, e < T 412 10 → 1 ≤ T 426 e ∧ T 426 e ≤ 6) ∧
  (∀ e, e < T 412 10 → ∀ k, k < T 426 e → T 427 (6 * e + k) = 0 ∨ T 427 (6 * e + k) = 1 ∨ T 427 (6 * e + k) = 2 ∨ T 427 (6 * e + k) = 4 ∨ T 427 (6 * e + k) = 8) ∧
  (∀ k, k < T 412 11 → 1 ≤ T 428 k ∧ T 428 k ≤ 999) ∧
  (∀ k, k < T 412 11 → T 429 k ≤ 240) ∧
  (∀ k, k < T 412 11 → 1 ≤ T 430 k ∧ T 430 k ≤ 5) ∧
  (∀ k, k < T 412 11 → T 431 k ≤ 6) ∧
  (∀ k, k < T 412 11 → ∀ j, j < T 431 k → T 432 (6 * k + j) < T 412 9) ∧
  (∀ k, k < T 412 11 → T 433 k ≤ 5) ∧
  (∀ k, k < T 412 11 → ∀ j, j < T 433 k → T 434 (5 * k + j) < T 412 10) ∧
  (∀ k, k < T 412 11 → ∀ i j, i < j → j < T 433 k → T 434 (5 * k + i) ≠ T 434 (5 * k + j))
theorem PlD.b {T : Nat → Nat → Nat} (x : PlD T) : T 418 0 < 24 := x.1
theorem PlD.e {T : Nat → Nat → Nat} (x : PlD T) : T 418 1 < 24 := x.2.1
theorem PlD.be {T : Nat → Nat → Nat} (x : PlD T) : T 418 0 ≠ T 418 1 := x.2.2.1
theorem PlD.wk {T : Nat → Nat → Nat} (x : PlD T) : T 418 2 ≤ 30 := x.2.2.2.1
theorem PlD.lim {T : Nat → Nat → Nat} (x : PlD T) : 1 ≤ T 418 3 ∧ T 418 3 ≤ 999 := x.2.2.2.2.1
theorem PlD.nP {T : Nat → Nat → Nat} (x : PlD T) : T 412 8 ≤ 12 := x.2.2.2.2.2.1
theorem PlD.nG {T : Nat → Nat → Nat} (x : PlD T) : T 412 9 ≤ 6 := x.2.2.2.2.2.2.1
theorem PlD.nE {T : Nat → Nat → Nat} (x : PlD T) : T 412 10 ≤ 5 := x.2.2.2.2.2.2.2.1
theorem PlD.nK {T : Nat → Nat → Nat} (x : PlD T) : T 412 11 ≤ 6 := x.2.2.2.2.2.2.2.2.1
theorem PlD.trv {T : Nat → Nat → Nat} (x : PlD T) : ∀ p, p < T 412 8 → T 420 p ≤ 120 := x.2.2.2.2.2.2.2.2.2.1
theorem PlD.skl {T : Nat → Nat → Nat} (x : PlD T) : ∀ p, p < T 412 8 → T 421 p < 16 := x.2.2.2.2.2.2.2.2.2.2.1
theorem PlD.dem {T : Nat → Nat → Nat} (x : PlD T) : ∀ g, g < T 412 9 → T 422 g ≤ 9 := x.2.2.2.2.2.2.2.2.2.2.2.1
theorem PlD.trn {T : Nat → Nat → Nat} (x : PlD T) : ∀ g, g < T 412 9 → 60 ≤ T 423 g ∧ T 423 g ≤ 10080 := x.2.2.2.2.2.2.2.2.2.2.2.2.1
theorem PlD.plc {T : Nat → Nat → Nat} (x : PlD T) : ∀ g, g < T 412 9 → 1 ≤ T 424 g ∧ T 424 g ≤ 8 := x.2.2.2.2.2.2.2.2.2.2.2.2.2.1
theorem PlD.drv {T : Nat → Nat → Nat} (x : PlD T) : ∀ e, e < T 412 10 → T 425 e ≤ 120 := x.2.2.2.2.2.2.2.2.2.2.2.2.2.2.1
theorem PlD.pst {T : Nat → Nat → Nat} (x : PlD T) : ∀ e, e < T 412 10 → 1 ≤ T 426 e ∧ T 426 e ≤ 6 := x.2.2.2.2.2.2.2.2.2.2.2.2.2.2.2.1
theorem PlD.psk {T : Nat → Nat → Nat} (x : PlD T) : ∀ e, e < T 412 10 → ∀ k, k < T 426 e → T 427 (6 * e + k) = 0 ∨ T 427 (6 * e + k) = 1 ∨ T 427 (6 * e + k) = 2 ∨ T 427 (6 * e + k) = 4 ∨ T 427 (6 * e + k) = 8 := x.2.2.2.2.2.2.2.2.2.2.2.2.2.2.2.2.1
theorem PlD.dur {T : Nat → Nat → Nat} (x : PlD T) : ∀ k, k < T 412 11 → 1 ≤ T 428 k ∧ T 428 k ≤ 999 := x.2.2.2.2.2.2.2.2.2.2.2.2.2.2.2.2.2.1
theorem PlD.pat {T : Nat → Nat → Nat} (x : PlD T) : ∀ k, k < T 412 11 → T 429 k ≤ 240 := x.2.2.2.2.2.2.2.2.2.2.2.2.2.2.2.2.2.2.1
theorem PlD.ned {T : Nat → Nat → Nat} (x : PlD T) : ∀ k, k < T 412 11 → 1 ≤ T 430 k ∧ T 430 k ≤ 5 := x.2.2.2.2.2.2.2.2.2.2.2.2.2.2.2.2.2.2.2.1
theorem PlD.kgn {T : Nat → Nat → Nat} (x : PlD T) : ∀ k, k < T 412 11 → T 431 k ≤ 6 := x.2.2.2.2.2.2.2.2.2.2.2.2.2.2.2.2.2.2.2.2.1
theorem PlD.kg {T : Nat → Nat → Nat} (x : PlD T) : ∀ k, k < T 412 11 → ∀ j, j < T 431 k → T 432 (6 * k + j) < T 412 9 := x.2.2.2.2.2.2.2.2.2.2.2.2.2.2.2.2.2.2.2.2.2.1
theorem PlD.ken {T : Nat → Nat → Nat} (x : PlD T) : ∀ k, k < T 412 11 → T 433 k ≤ 5 := x.2.2.2.2.2.2.2.2.2.2.2.2.2.2.2.2.2.2.2.2.2.2.1
theorem PlD.ke {T : Nat → Nat → Nat} (x : PlD T) : ∀ k, k < T 412 11 → ∀ j, j < T 433 k → T 434 (5 * k + j) < T 412 10 := x.2.2.2.2.2.2.2.2.2.2.2.2.2.2.2.2.2.2.2.2.2.2.2.1
theorem PlD.ked {T : Nat → Nat → Nat} (x : PlD T) : ∀ k, k < T 412 11 → ∀ i j, i < j → j < T 433 k → T 434 (5 * k + i) ≠ T 434 (5 * k + j) := x.2.2.2.2.2.2.2.2.2.2.2.2.2.2.2.2.2.2.2.2.2.2.2.2
/-- the one bit that a post asks for -/
def pbit (x : Nat) : Nat := if x = 0 then 16 else x
/-- how many of the first n posts of engine e ask for a bit of the set -/
def dmd (T : Nat → Nat → Nat) (e set : Nat) : Nat → Nat := fb_ct (fun k => decide (set &&& pbit (T 427 (6 * e + k)) ≠ 0))
/-- a set of persons by its members -/
def mk (q : Nat → Bool) : Nat → Nat
  | 0 => 0
  | n + 1 => mk q n ||| (if q n then 2 ^ n else 0)
/-- the class's plan at P says what the reference's numbers T say -/
def PlR (h : aH) (P : Nat) (T : Nat → Nat → Nat) : Prop :=
  (∀ j, j < 4 → h_iv h (P + 1) j = nI (T 418 j)) ∧
  (h_iv h P 1 = nI (T 412 8)) ∧
  (h_iv h P 5 = nI (T 412 9)) ∧
  (h_iv h P 7 = nI (T 412 10)) ∧
  (h_iv h P 9 = nI (T 412 11)) ∧
  (∀ p, p < T 412 8 → h_iv h (P + 8 + 1 * p) 1 = nI (T 420 p)) ∧
  (∀ p, p < T 412 8 → h_iv h (P + 8 + 1 * p) 2 = nI (16 + T 421 p)) ∧
  (∀ g, g < T 412 9 → h_iv h (P + 20 + 2 * g) 1 = nI (T 422 g)) ∧
  (∀ g, g < T 412 9 → h_iv h (P + 20 + 2 * g) 2 = nI (T 423 g)) ∧
  (∀ g, g < T 412 9 → h_iv h (P + 20 + 2 * g) 3 = nI (T 424 g)) ∧
  (∀ e, e < T 412 10 → h_iv h (P + 32 + 3 * e) 1 = nI (T 425 e)) ∧
  (∀ e, e < T 412 10 → h_iv h (P + 32 + 3 * e) 2 = nI (T 426 e)) ∧
  (∀ e, e < T 412 10 → ∀ k, k < T 426 e → h_iv h (P + 33 + 3 * e) k = nI (pbit (T 427 (6 * e + k)))) ∧
  (∀ e, e < T 412 10 → ∀ s, s < 32 → h_iv h (P + 34 + 3 * e) s = nI (dmd T e s (T 426 e))) ∧
  (∀ k, k < T 412 11 → h_iv h (P + 47 + 3 * k) 1 = nI (T 428 k)) ∧
  (∀ k, k < T 412 11 → h_iv h (P + 47 + 3 * k) 2 = nI (T 429 k)) ∧
  (∀ k, k < T 412 11 → h_iv h (P + 47 + 3 * k) 3 = nI (T 430 k)) ∧
  (∀ k, k < T 412 11 → h_iv h (P + 47 + 3 * k) 4 = nI (T 431 k)) ∧
  (∀ k, k < T 412 11 → ∀ j, j < T 431 k → h_iv h (P + 48 + 3 * k) j = nI (T 432 (6 * k + j))) ∧
  (∀ k, k < T 412 11 → h_iv h (P + 47 + 3 * k) 6 = nI (T 433 k)) ∧
  (∀ k, k < T 412 11 → ∀ j, j < T 433 k → h_iv h (P + 49 + 3 * k) j = nI (T 434 (5 * k + j))) ∧
  (∀ s, s < 32 → h_iv h (P + 7) s = nI (mk (fun p => decide (s &&& (16 + T 421 p) ≠ 0)) (T 412 8)))
theorem PlR.ni {h : aH} {P : Nat} {T : Nat → Nat → Nat} (x : PlR h P T) : ∀ j, j < 4 → h_iv h (P + 1) j = nI (T 418 j) := x.1
theorem PlR.nP {h : aH} {P : Nat} {T : Nat → Nat → Nat} (x : PlR h P T) : h_iv h P 1 = nI (T 412 8) := x.2.1
theorem PlR.nG {h : aH} {P : Nat} {T : Nat → Nat → Nat} (x : PlR h P T) : h_iv h P 5 = nI (T 412 9) := x.2.2.1
theorem PlR.nE {h : aH} {P : Nat} {T : Nat → Nat → Nat} (x : PlR h P T) : h_iv h P 7 = nI (T 412 10) := x.2.2.2.1
theorem PlR.nK {h : aH} {P : Nat} {T : Nat → Nat → Nat} (x : PlR h P T) : h_iv h P 9 = nI (T 412 11) := x.2.2.2.2.1
theorem PlR.trv {h : aH} {P : Nat} {T : Nat → Nat → Nat} (x : PlR h P T) : ∀ p, p < T 412 8 → h_iv h (P + 8 + 1 * p) 1 = nI (T 420 p) := x.2.2.2.2.2.1
theorem PlR.skl {h : aH} {P : Nat} {T : Nat → Nat → Nat} (x : PlR h P T) : ∀ p, p < T 412 8 → h_iv h (P + 8 + 1 * p) 2 = nI (16 + T 421 p) := x.2.2.2.2.2.2.1
theorem PlR.dem {h : aH} {P : Nat} {T : Nat → Nat → Nat} (x : PlR h P T) : ∀ g, g < T 412 9 → h_iv h (P + 20 + 2 * g) 1 = nI (T 422 g) := x.2.2.2.2.2.2.2.1
theorem PlR.trn {h : aH} {P : Nat} {T : Nat → Nat → Nat} (x : PlR h P T) : ∀ g, g < T 412 9 → h_iv h (P + 20 + 2 * g) 2 = nI (T 423 g) := x.2.2.2.2.2.2.2.2.1
theorem PlR.plc {h : aH} {P : Nat} {T : Nat → Nat → Nat} (x : PlR h P T) : ∀ g, g < T 412 9 → h_iv h (P + 20 + 2 * g) 3 = nI (T 424 g) := x.2.2.2.2.2.2.2.2.2.1
theorem PlR.drv {h : aH} {P : Nat} {T : Nat → Nat → Nat} (x : PlR h P T) : ∀ e, e < T 412 10 → h_iv h (P + 32 + 3 * e) 1 = nI (T 425 e) := x.2.2.2.2.2.2.2.2.2.2.1
theorem PlR.pst {h : aH} {P : Nat} {T : Nat → Nat → Nat} (x : PlR h P T) : ∀ e, e < T 412 10 → h_iv h (P + 32 + 3 * e) 2 = nI (T 426 e) := x.2.2.2.2.2.2.2.2.2.2.2.1
theorem PlR.psk {h : aH} {P : Nat} {T : Nat → Nat → Nat} (x : PlR h P T) : ∀ e, e < T 412 10 → ∀ k, k < T 426 e → h_iv h (P + 33 + 3 * e) k = nI (pbit (T 427 (6 * e + k))) := x.2.2.2.2.2.2.2.2.2.2.2.2.1
theorem PlR.dmd {h : aH} {P : Nat} {T : Nat → Nat → Nat} (x : PlR h P T) : ∀ e, e < T 412 10 → ∀ s, s < 32 → h_iv h (P + 34 + 3 * e) s = nI (dmd T e s (T 426 e)) := x.2.2.2.2.2.2.2.2.2.2.2.2.2.1
theorem PlR.dur {h : aH} {P : Nat} {T : Nat → Nat → Nat} (x : PlR h P T) : ∀ k, k < T 412 11 → h_iv h (P + 47 + 3 * k) 1 = nI (T 428 k) := x.2.2.2.2.2.2.2.2.2.2.2.2.2.2.1
theorem PlR.pat {h : aH} {P : Nat} {T : Nat → Nat → Nat} (x : PlR h P T) : ∀ k, k < T 412 11 → h_iv h (P + 47 + 3 * k) 2 = nI (T 429 k) := x.2.2.2.2.2.2.2.2.2.2.2.2.2.2.2.1
theorem PlR.ned {h : aH} {P : Nat} {T : Nat → Nat → Nat} (x : PlR h P T) : ∀ k, k < T 412 11 → h_iv h (P + 47 + 3 * k) 3 = nI (T 430 k) := x.2.2.2.2.2.2.2.2.2.2.2.2.2.2.2.2.1
theorem PlR.kgn {h : aH} {P : Nat} {T : Nat → Nat → Nat} (x : PlR h P T) : ∀ k, k < T 412 11 → h_iv h (P + 47 + 3 * k) 4 = nI (T 431 k) := x.2.2.2.2.2.2.2.2.2.2.2.2.2.2.2.2.2.1
theorem PlR.kg {h : aH} {P : Nat} {T : Nat → Nat → Nat} (x : PlR h P T) : ∀ k, k < T 412 11 → ∀ j, j < T 431 k → h_iv h (P + 48 + 3 * k) j = nI (T 432 (6 * k + j)) := x.2.2.2.2.2.2.2.2.2.2.2.2.2.2.2.2.2.2.1
theorem PlR.ken {h : aH} {P : Nat} {T : Nat → Nat → Nat} (x : PlR h P T) : ∀ k, k < T 412 11 → h_iv h (P + 47 + 3 * k) 6 = nI (T 433 k) := x.2.2.2.2.2.2.2.2.2.2.2.2.2.2.2.2.2.2.2.1
theorem PlR.ke {h : aH} {P : Nat} {T : Nat → Nat → Nat} (x : PlR h P T) : ∀ k, k < T 412 11 → ∀ j, j < T 433 k → h_iv h (P + 49 + 3 * k) j = nI (T 434 (5 * k + j)) := x.2.2.2.2.2.2.2.2.2.2.2.2.2.2.2.2.2.2.2.2.1
theorem PlR.able {h : aH} {P : Nat} {T : Nat → Nat → Nat} (x : PlR h P T) : ∀ s, s < 32 → h_iv h (P + 7) s = nI (mk (fun p => decide (s &&& (16 + T 421 p) ≠ 0)) (T 412 8)) := x.2.2.2.2.2.2.2.2.2.2.2.2.2.2.2.2.2.2.2.2.2
/-- the bounds of a row -/
def RwD (T : Nat → Nat → Nat) (S : Nat → Nat) : Prop :=
  (S 0 < 40000) ∧
  (S 1 ≤ 16) ∧
  (∀ p, p < T 412 8 → S (2 + p) ≤ S 0) ∧
  (∀ p, p < T 412 8 → S (14 + p) < 50000) ∧
  (∀ p, p < T 412 8 → S (26 + p) ≤ 1) ∧
  (∀ p, p < T 412 8 → ∀ q, q < T 412 8 → S (50 + 12 * p + q) ≤ 9) ∧
  (∀ g, g < T 412 9 → ∀ q, q < T 424 g → S (194 + 15 * g + q) < T 412 8) ∧
  (∀ g, g < T 412 9 → S (194 + 15 * g + 8) ≤ 3) ∧
  (∀ g, g < T 412 9 → ∀ k, k < S (194 + 15 * g + 8) → S (194 + 15 * g + 9 + k) < T 412 8) ∧
  (∀ g, g < T 412 9 → ∀ k, k < S (194 + 15 * g + 8) → S 0 < S (194 + 15 * g + 12 + k) ∧ S (194 + 15 * g + 12 + k) ≤ (S 0 / T 423 g + 1) * T 423 g) ∧
  (∀ g, g < T 412 9 → ∀ j k, j < k → k < S (194 + 15 * g + 8) → S (194 + 15 * g + 12 + k) ≤ S (194 + 15 * g + 12 + j)) ∧
  (∀ e, e < T 412 10 → S (284 + 3 * e) < 50000) ∧
  (∀ e, e < T 412 10 → S (284 + 3 * e + 1) ≤ 1) ∧
  (∀ e, e < T 412 10 → S (284 + 3 * e + 2) < 2 ^ T 412 8) ∧
  (∀ e, e < T 412 10 → (S (284 + 3 * e + 2) ≠ 0 ↔ S 0 < S (284 + 3 * e))) ∧
  (∀ c, c < S 1 → S (299 + 19 * c + 1) ≤ 1) ∧
  (∀ c, c < S 1 → S (299 + 19 * c + 3) ≤ 5) ∧
  (∀ c, c < S 1 → ∀ i, i < S (299 + 19 * c + 3) → S (299 + 19 * c + 4 + 3 * i + 2) < 2 ^ T 412 8) ∧
  (∀ k, S k < 2147483600)
theorem RwD.tm {T : Nat → Nat → Nat} {S : Nat → Nat} (x : RwD T S) : S 0 < 40000 := x.1
theorem RwD.many {T : Nat → Nat → Nat} {S : Nat → Nat} (x : RwD T S) : S 1 ≤ 16 := x.2.1
theorem RwD.lost {T : Nat → Nat → Nat} {S : Nat → Nat} (x : RwD T S) : ∀ p, p < T 412 8 → S (2 + p) ≤ S 0 := x.2.2.1
theorem RwD.out {T : Nat → Nat → Nat} {S : Nat → Nat} (x : RwD T S) : ∀ p, p < T 412 8 → S (14 + p) < 50000 := x.2.2.2.1
theorem RwD.exc {T : Nat → Nat → Nat} {S : Nat → Nat} (x : RwD T S) : ∀ p, p < T 412 8 → S (26 + p) ≤ 1 := x.2.2.2.2.1
theorem RwD.tr {T : Nat → Nat → Nat} {S : Nat → Nat} (x : RwD T S) : ∀ p, p < T 412 8 → ∀ q, q < T 412 8 → S (50 + 12 * p + q) ≤ 9 := x.2.2.2.2.2.1
theorem RwD.rot {T : Nat → Nat → Nat} {S : Nat → Nat} (x : RwD T S) : ∀ g, g < T 412 9 → ∀ q, q < T 424 g → S (194 + 15 * g + q) < T 412 8 := x.2.2.2.2.2.2.1
theorem RwD.hn {T : Nat → Nat → Nat} {S : Nat → Nat} (x : RwD T S) : ∀ g, g < T 412 9 → S (194 + 15 * g + 8) ≤ 3 := x.2.2.2.2.2.2.2.1
theorem RwD.to {T : Nat → Nat → Nat} {S : Nat → Nat} (x : RwD T S) : ∀ g, g < T 412 9 → ∀ k, k < S (194 + 15 * g + 8) → S (194 + 15 * g + 9 + k) < T 412 8 := x.2.2.2.2.2.2.2.2.1
theorem RwD.en {T : Nat → Nat → Nat} {S : Nat → Nat} (x : RwD T S) : ∀ g, g < T 412 9 → ∀ k, k < S (194 + 15 * g + 8) → S 0 < S (194 + 15 * g + 12 + k) ∧ S (194 + 15 * g + 12 + k) ≤ (S 0 / T 423 g + 1) * T 423 g := x.2.2.2.2.2.2.2.2.2.1
theorem RwD.ed {T : Nat → Nat → Nat} {S : Nat → Nat} (x : RwD T S) : ∀ g, g < T 412 9 → ∀ j k, j < k → k < S (194 + 15 * g + 8) → S (194 + 15 * g + 12 + k) ≤ S (194 + 15 * g + 12 + j) := x.2.2.2.2.2.2.2.2.2.2.1
theorem RwD.ret {T : Nat → Nat → Nat} {S : Nat → Nat} (x : RwD T S) : ∀ e, e < T 412 10 → S (284 + 3 * e) < 50000 := x.2.2.2.2.2.2.2.2.2.2.2.1
theorem RwD.rest {T : Nat → Nat → Nat} {S : Nat → Nat} (x : RwD T S) : ∀ e, e < T 412 10 → S (284 + 3 * e + 1) ≤ 1 := x.2.2.2.2.2.2.2.2.2.2.2.2.1
theorem RwD.crew {T : Nat → Nat → Nat} {S : Nat → Nat} (x : RwD T S) : ∀ e, e < T 412 10 → S (284 + 3 * e + 2) < 2 ^ T 412 8 := x.2.2.2.2.2.2.2.2.2.2.2.2.2.1
theorem RwD.crout {T : Nat → Nat → Nat} {S : Nat → Nat} (x : RwD T S) : ∀ e, e < T 412 10 → (S (284 + 3 * e + 2) ≠ 0 ↔ S 0 < S (284 + 3 * e)) := x.2.2.2.2.2.2.2.2.2.2.2.2.2.2.1
theorem RwD.ans {T : Nat → Nat → Nat} {S : Nat → Nat} (x : RwD T S) : ∀ c, c < S 1 → S (299 + 19 * c + 1) ≤ 1 := x.2.2.2.2.2.2.2.2.2.2.2.2.2.2.2.1
theorem RwD.left {T : Nat → Nat → Nat} {S : Nat → Nat} (x : RwD T S) : ∀ c, c < S 1 → S (299 + 19 * c + 3) ≤ 5 := x.2.2.2.2.2.2.2.2.2.2.2.2.2.2.2.2.1
theorem RwD.lcr {T : Nat → Nat → Nat} {S : Nat → Nat} (x : RwD T S) : ∀ c, c < S 1 → ∀ i, i < S (299 + 19 * c + 3) → S (299 + 19 * c + 4 + 3 * i + 2) < 2 ^ T 412 8 := x.2.2.2.2.2.2.2.2.2.2.2.2.2.2.2.2.2.1
theorem RwD.big {T : Nat → Nat → Nat} {S : Nat → Nat} (x : RwD T S) : ∀ k, S k < 2147483600 := x.2.2.2.2.2.2.2.2.2.2.2.2.2.2.2.2.2.2
theorem RwD.all {T : Nat → Nat → Nat} {S : Nat → Nat} (x : RwD T S) (k : Nat) : S k < 2147483648 := Nat.lt_trans (x.big k) (by decide)
/-- the state at a is the row S, of the plan at P -/
def StR (h : aH) (a : Nat) (P : Nat) (T : Nat → Nat → Nat) (S : Nat → Nat) : Prop :=
  (h_rv h a 0 = P) ∧
  (h_iv h a 1 = nI (S 0)) ∧
  (∀ p, p < T 412 8 → h_iv h (a + 1) p = nI (S (2 + p))) ∧
  (∀ p, p < T 412 8 → h_iv h (a + 2) p = nI (S (14 + p))) ∧
  (∀ p, p < T 412 8 → h_iv h (a + 3) p = nI (S (38 + p))) ∧
  (∃ X, h_iv h a 5 = nI X ∧ X < 4096 ∧ (∀ p, p < T 412 8 → X.testBit p = decide (S (26 + p) ≠ 0)) ∧ ∀ p, T 412 8 ≤ p → X.testBit p = false) ∧
  (∀ p, p < T 412 8 → ∀ q, q < T 412 8 → h_iv h (a + 4) (p * 12 + q) = nI (S (50 + 12 * p + q))) ∧
  (∀ g, g < T 412 9 → ∀ q, q < T 424 g → h_iv h (a + 5) (g * 8 + q) = nI (S (194 + 15 * g + q))) ∧
  (∀ g, g < T 412 9 → h_iv h (a + 6) g = nI (S (194 + 15 * g + 8))) ∧
  (∀ g, g < T 412 9 → ∀ k, k < S (194 + 15 * g + 8) → h_iv h (a + 7) (g * 3 + k) = nI (S (194 + 15 * g + 9 + k))) ∧
  (∀ g, g < T 412 9 → ∀ k, k < S (194 + 15 * g + 8) → h_iv h (a + 8) (g * 3 + k) = nI (S (194 + 15 * g + 12 + k))) ∧
  (∀ e, e < T 412 10 → h_iv h (a + 9) e = nI (S (284 + 3 * e))) ∧
  (∀ e, e < T 412 10 → S 0 < S (284 + 3 * e) → h_iv h (a + 10) e = nI (S (284 + 3 * e + 2))) ∧
  (∃ X, h_iv h a 13 = nI X ∧ X < 32 ∧ (∀ e, e < T 412 10 → X.testBit e = decide (S (284 + 3 * e + 1) = 0)) ∧ ∀ e, T 412 10 ≤ e → X.testBit e = false) ∧
  (h_iv h (a + 11) 0 = nI (S 1)) ∧
  (∀ c, c < S 1 → h_iv h (a + 12) c = nI (S (299 + 19 * c))) ∧
  (∃ X, h_iv h (a + 11) 2 = nI X ∧ X < 65536 ∧ ∀ c, c < S 1 → X.testBit c = decide (S (299 + 19 * c + 1) ≠ 0)) ∧
  (∀ c, c < S 1 → h_iv h (a + 13) c = nI (S (299 + 19 * c + 2))) ∧
  (∀ c, c < S 1 → h_iv h (a + 14) c = nI (S (299 + 19 * c + 3))) ∧
  (∀ c, c < S 1 → ∀ i, i < S (299 + 19 * c + 3) → h_iv h (a + 15) (c * 5 + i) = nI (S (299 + 19 * c + 4 + 3 * i))) ∧
  (∀ c, c < S 1 → ∀ i, i < S (299 + 19 * c + 3) → h_iv h (a + 16) (c * 5 + i) = nI (S (299 + 19 * c + 4 + 3 * i + 1))) ∧
  (∀ c, c < S 1 → ∀ i, i < S (299 + 19 * c + 3) → h_iv h (a + 17) (c * 5 + i) = nI (S (299 + 19 * c + 4 + 3 * i + 2)))
theorem StR.pl {h : aH} {a : Nat} {P : Nat} {T : Nat → Nat → Nat} {S : Nat → Nat} (x : StR h a P T S) : h_rv h a 0 = P := x.1
theorem StR.tm {h : aH} {a : Nat} {P : Nat} {T : Nat → Nat → Nat} {S : Nat → Nat} (x : StR h a P T S) : h_iv h a 1 = nI (S 0) := x.2.1
theorem StR.lost {h : aH} {a : Nat} {P : Nat} {T : Nat → Nat → Nat} {S : Nat → Nat} (x : StR h a P T S) : ∀ p, p < T 412 8 → h_iv h (a + 1) p = nI (S (2 + p)) := x.2.2.1
theorem StR.out {h : aH} {a : Nat} {P : Nat} {T : Nat → Nat → Nat} {S : Nat → Nat} (x : StR h a P T S) : ∀ p, p < T 412 8 → h_iv h (a + 2) p = nI (S (14 + p)) := x.2.2.2.1
theorem StR.paid {h : aH} {a : Nat} {P : Nat} {T : Nat → Nat → Nat} {S : Nat → Nat} (x : StR h a P T S) : ∀ p, p < T 412 8 → h_iv h (a + 3) p = nI (S (38 + p)) := x.2.2.2.2.1
theorem StR.exc {h : aH} {a : Nat} {P : Nat} {T : Nat → Nat → Nat} {S : Nat → Nat} (x : StR h a P T S) : ∃ X, h_iv h a 5 = nI X ∧ X < 4096 ∧ (∀ p, p < T 412 8 → X.testBit p = decide (S (26 + p) ≠ 0)) ∧ ∀ p, T 412 8 ≤ p → X.testBit p = false := x.2.2.2.2.2.1
theorem StR.tr {h : aH} {a : Nat} {P : Nat} {T : Nat → Nat → Nat} {S : Nat → Nat} (x : StR h a P T S) : ∀ p, p < T 412 8 → ∀ q, q < T 412 8 → h_iv h (a + 4) (p * 12 + q) = nI (S (50 + 12 * p + q)) := x.2.2.2.2.2.2.1
theorem StR.rot {h : aH} {a : Nat} {P : Nat} {T : Nat → Nat → Nat} {S : Nat → Nat} (x : StR h a P T S) : ∀ g, g < T 412 9 → ∀ q, q < T 424 g → h_iv h (a + 5) (g * 8 + q) = nI (S (194 + 15 * g + q)) := x.2.2.2.2.2.2.2.1
theorem StR.hn {h : aH} {a : Nat} {P : Nat} {T : Nat → Nat → Nat} {S : Nat → Nat} (x : StR h a P T S) : ∀ g, g < T 412 9 → h_iv h (a + 6) g = nI (S (194 + 15 * g + 8)) := x.2.2.2.2.2.2.2.2.1
theorem StR.to {h : aH} {a : Nat} {P : Nat} {T : Nat → Nat → Nat} {S : Nat → Nat} (x : StR h a P T S) : ∀ g, g < T 412 9 → ∀ k, k < S (194 + 15 * g + 8) → h_iv h (a + 7) (g * 3 + k) = nI (S (194 + 15 * g + 9 + k)) := x.2.2.2.2.2.2.2.2.2.1
theorem StR.en {h : aH} {a : Nat} {P : Nat} {T : Nat → Nat → Nat} {S : Nat → Nat} (x : StR h a P T S) : ∀ g, g < T 412 9 → ∀ k, k < S (194 + 15 * g + 8) → h_iv h (a + 8) (g * 3 + k) = nI (S (194 + 15 * g + 12 + k)) := x.2.2.2.2.2.2.2.2.2.2.1
theorem StR.ret {h : aH} {a : Nat} {P : Nat} {T : Nat → Nat → Nat} {S : Nat → Nat} (x : StR h a P T S) : ∀ e, e < T 412 10 → h_iv h (a + 9) e = nI (S (284 + 3 * e)) := x.2.2.2.2.2.2.2.2.2.2.2.1
theorem StR.crew {h : aH} {a : Nat} {P : Nat} {T : Nat → Nat → Nat} {S : Nat → Nat} (x : StR h a P T S) : ∀ e, e < T 412 10 → S 0 < S (284 + 3 * e) → h_iv h (a + 10) e = nI (S (284 + 3 * e + 2)) := x.2.2.2.2.2.2.2.2.2.2.2.2.1
theorem StR.srv {h : aH} {a : Nat} {P : Nat} {T : Nat → Nat → Nat} {S : Nat → Nat} (x : StR h a P T S) : ∃ X, h_iv h a 13 = nI X ∧ X < 32 ∧ (∀ e, e < T 412 10 → X.testBit e = decide (S (284 + 3 * e + 1) = 0)) ∧ ∀ e, T 412 10 ≤ e → X.testBit e = false := x.2.2.2.2.2.2.2.2.2.2.2.2.2.1
theorem StR.many {h : aH} {a : Nat} {P : Nat} {T : Nat → Nat → Nat} {S : Nat → Nat} (x : StR h a P T S) : h_iv h (a + 11) 0 = nI (S 1) := x.2.2.2.2.2.2.2.2.2.2.2.2.2.2.1
theorem StR.cost {h : aH} {a : Nat} {P : Nat} {T : Nat → Nat → Nat} {S : Nat → Nat} (x : StR h a P T S) : ∀ c, c < S 1 → h_iv h (a + 12) c = nI (S (299 + 19 * c)) := x.2.2.2.2.2.2.2.2.2.2.2.2.2.2.2.1
theorem StR.ans {h : aH} {a : Nat} {P : Nat} {T : Nat → Nat → Nat} {S : Nat → Nat} (x : StR h a P T S) : ∃ X, h_iv h (a + 11) 2 = nI X ∧ X < 65536 ∧ ∀ c, c < S 1 → X.testBit c = decide (S (299 + 19 * c + 1) ≠ 0) := x.2.2.2.2.2.2.2.2.2.2.2.2.2.2.2.2.1
theorem StR.came {h : aH} {a : Nat} {P : Nat} {T : Nat → Nat → Nat} {S : Nat → Nat} (x : StR h a P T S) : ∀ c, c < S 1 → h_iv h (a + 13) c = nI (S (299 + 19 * c + 2)) := x.2.2.2.2.2.2.2.2.2.2.2.2.2.2.2.2.2.1
theorem StR.left {h : aH} {a : Nat} {P : Nat} {T : Nat → Nat → Nat} {S : Nat → Nat} (x : StR h a P T S) : ∀ c, c < S 1 → h_iv h (a + 14) c = nI (S (299 + 19 * c + 3)) := x.2.2.2.2.2.2.2.2.2.2.2.2.2.2.2.2.2.2.1
theorem StR.leng {h : aH} {a : Nat} {P : Nat} {T : Nat → Nat → Nat} {S : Nat → Nat} (x : StR h a P T S) : ∀ c, c < S 1 → ∀ i, i < S (299 + 19 * c + 3) → h_iv h (a + 15) (c * 5 + i) = nI (S (299 + 19 * c + 4 + 3 * i)) := x.2.2.2.2.2.2.2.2.2.2.2.2.2.2.2.2.2.2.2.1
theorem StR.ltim {h : aH} {a : Nat} {P : Nat} {T : Nat → Nat → Nat} {S : Nat → Nat} (x : StR h a P T S) : ∀ c, c < S 1 → ∀ i, i < S (299 + 19 * c + 3) → h_iv h (a + 16) (c * 5 + i) = nI (S (299 + 19 * c + 4 + 3 * i + 1)) := x.2.2.2.2.2.2.2.2.2.2.2.2.2.2.2.2.2.2.2.2.1
theorem StR.lcrw {h : aH} {a : Nat} {P : Nat} {T : Nat → Nat → Nat} {S : Nat → Nat} (x : StR h a P T S) : ∀ c, c < S 1 → ∀ i, i < S (299 + 19 * c + 3) → h_iv h (a + 17) (c * 5 + i) = nI (S (299 + 19 * c + 4 + 3 * i + 2)) := x.2.2.2.2.2.2.2.2.2.2.2.2.2.2.2.2.2.2.2.2.2
theorem PlR.keep {h h' : aH} {P : Nat} {T : Nat → Nat → Nat} (x : PlR h P T) (hk : ∀ o, P ≤ o → o < P + 65 → h_iv h' o = h_iv h o) (hD : PlD T) : PlR h' P T := by
  have d1 := hD.nP
  have d2 := hD.nG
  have d3 := hD.nE
  have d4 := hD.nK
  refine ⟨?_, ?_, ?_, ?_, ?_, ?_, ?_, ?_, ?_, ?_, ?_, ?_, ?_, ?_, ?_, ?_, ?_, ?_, ?_, ?_, ?_, ?_⟩
  · intros; rw [hk _ (by omega) (by omega)]; exact x.ni _ ‹_›
  · rw [hk _ (by omega) (by omega)]; exact x.nP
  · rw [hk _ (by omega) (by omega)]; exact x.nG
  · rw [hk _ (by omega) (by omega)]; exact x.nE
  · rw [hk _ (by omega) (by omega)]; exact x.nK
  · intros; rw [hk _ (by omega) (by omega)]; exact x.trv _ ‹_›
  · intros; rw [hk _ (by omega) (by omega)]; exact x.skl _ ‹_›
  · intros; rw [hk _ (by omega) (by omega)]; exact x.dem _ ‹_›
  · intros; rw [hk _ (by omega) (by omega)]; exact x.trn _ ‹_›
  · intros; rw [hk _ (by omega) (by omega)]; exact x.plc _ ‹_›
  · intros; rw [hk _ (by omega) (by omega)]; exact x.drv _ ‹_›
  · intros; rw [hk _ (by omega) (by omega)]; exact x.pst _ ‹_›
  · intro u hu v hv; rw [hk _ (by omega) (by omega)]; exact x.psk u hu v hv
  · intro u hu v hv; rw [hk _ (by omega) (by omega)]; exact x.dmd u hu v hv
  · intros; rw [hk _ (by omega) (by omega)]; exact x.dur _ ‹_›
  · intros; rw [hk _ (by omega) (by omega)]; exact x.pat _ ‹_›
  · intros; rw [hk _ (by omega) (by omega)]; exact x.ned _ ‹_›
  · intros; rw [hk _ (by omega) (by omega)]; exact x.kgn _ ‹_›
  · intro u hu v hv; rw [hk _ (by omega) (by omega)]; exact x.kg u hu v hv
  · intros; rw [hk _ (by omega) (by omega)]; exact x.ken _ ‹_›
  · intro u hu v hv; rw [hk _ (by omega) (by omega)]; exact x.ke u hu v hv
  · intros; rw [hk _ (by omega) (by omega)]; exact x.able _ ‹_›
theorem StR.keep {h h' : aH} {a P : Nat} {T : Nat → Nat → Nat} {S : Nat → Nat} (x : StR h a P T S) (hk : ∀ o, a ≤ o → o < a + 18 → h_iv h' o = h_iv h o) (hr : h_rv h' a 0 = h_rv h a 0) : StR h' a P T S := by
  refine ⟨?_, ?_, ?_, ?_, ?_, ?_, ?_, ?_, ?_, ?_, ?_, ?_, ?_, ?_, ?_, ?_, ?_, ?_, ?_, ?_, ?_, ?_⟩
  · exact hr.trans x.pl
  · rw [hk _ (by omega) (by omega)]; exact x.tm
  · intros; rw [hk _ (by omega) (by omega)]; exact x.lost _ ‹_›
  · intros; rw [hk _ (by omega) (by omega)]; exact x.out _ ‹_›
  · intros; rw [hk _ (by omega) (by omega)]; exact x.paid _ ‹_›
  · rw [hk _ (by omega) (by omega)]; exact x.exc
  · intro u hu v hv; rw [hk _ (by omega) (by omega)]; exact x.tr u hu v hv
  · intro u hu v hv; rw [hk _ (by omega) (by omega)]; exact x.rot u hu v hv
  · intros; rw [hk _ (by omega) (by omega)]; exact x.hn _ ‹_›
  · intro u hu v hv; rw [hk _ (by omega) (by omega)]; exact x.to u hu v hv
  · intro u hu v hv; rw [hk _ (by omega) (by omega)]; exact x.en u hu v hv
  · intros; rw [hk _ (by omega) (by omega)]; exact x.ret _ ‹_›
  · intro u hu v; rw [hk _ (by omega) (by omega)]; exact x.crew u hu v
  · rw [hk _ (by omega) (by omega)]; exact x.srv
  · rw [hk _ (by omega) (by omega)]; exact x.many
  · intros; rw [hk _ (by omega) (by omega)]; exact x.cost _ ‹_›
  · rw [hk _ (by omega) (by omega)]; exact x.ans
  · intros; rw [hk _ (by omega) (by omega)]; exact x.came _ ‹_›
  · intros; rw [hk _ (by omega) (by omega)]; exact x.left _ ‹_›
  · intro u hu v hv; rw [hk _ (by omega) (by omega)]; exact x.leng u hu v hv
  · intro u hu v hv; rw [hk _ (by omega) (by omega)]; exact x.ltim u hu v hv
  · intro u hu v hv; rw [hk _ (by omega) (by omega)]; exact x.lcrw u hu v hv
