/-! rows of change; one hand-on more -/
theorem StR.hands {h h' : aH} {a P : Nat} {T : Nat → Nat → Nat} {S S' : Nat → Nat} (hD : PlD T) (hR : RwD T S) (x : StR h a P T S) (hr : h_rv h' a 0 = h_rv h a 0) (hi : ∀ o k, a ≤ o → o < a + 18 → ¬ (o = a + 6 ∨ o = a + 7 ∨ o = a + 8) → h_iv h' o k = h_iv h o k) (e : ∀ j, (j < 194 ∨ 284 ≤ j ∨ (j - 194) % 15 < 8) → S' j = S j)
    (hn : ∀ g, g < T 412 9 → h_iv h' (a + 6) g = nI (S' (194 + 15 * g + 8)))
    (to : ∀ g, g < T 412 9 → ∀ k, k < S' (194 + 15 * g + 8) → h_iv h' (a + 7) (g * 3 + k) = nI (S' (194 + 15 * g + 9 + k)))
    (en : ∀ g, g < T 412 9 → ∀ k, k < S' (194 + 15 * g + 8) → h_iv h' (a + 8) (g * 3 + k) = nI (S' (194 + 15 * g + 12 + k)))
    : StR h' a P T S' := by
  have d0 := hD.nP
  have d1 := hD.nG
  have d2 := hD.nE
  have r1 := hR.many
  have e0 : S' 0 = S 0 := e 0 (by omega)
  have e1 : S' 1 = S 1 := e 1 (by omega)
  refine ⟨?_, ?_, ?_, ?_, ?_, ?_, ?_, ?_, ?_, ?_, ?_, ?_, ?_, ?_, ?_, ?_, ?_, ?_, ?_, ?_, ?_, ?_⟩
  · rw [hr]; exact x.pl
  · rw [e0, hi _ _ (by omega) (by omega) (by omega)]; exact x.tm
  · intro p hp; rw [hi _ _ (by omega) (by omega) (by omega), e _ (by omega)]; exact x.lost p hp
  · intro p hp; rw [hi _ _ (by omega) (by omega) (by omega), e _ (by omega)]; exact x.out p hp
  · intro p hp; rw [hi _ _ (by omega) (by omega) (by omega), e _ (by omega)]; exact x.paid p hp
  · obtain ⟨X, x1, x2, x3, x4⟩ := x.exc
    exact ⟨X, by rw [hi _ _ (by omega) (by omega) (by omega)]; exact x1, x2, fun p hp => by rw [e _ (by omega)]; exact x3 p hp, x4⟩
  · intro p hp q hq; rw [hi _ _ (by omega) (by omega) (by omega), e _ (by omega)]; exact x.tr p hp q hq
  · intro g hg q hq
    have := hD.plc g hg
    rw [hi _ _ (by omega) (by omega) (by omega), e _ (by omega)]; exact x.rot g hg q hq
  · exact hn
  · exact to
  · exact en
  · intro p hp; rw [hi _ _ (by omega) (by omega) (by omega), e _ (by omega)]; exact x.ret p hp
  · intro g hg hq
    rw [e0, e _ (by omega)] at hq
    rw [hi _ _ (by omega) (by omega) (by omega), e _ (by omega)]; exact x.crew g hg hq
  · obtain ⟨X, x1, x2, x3, x4⟩ := x.srv
    exact ⟨X, by rw [hi _ _ (by omega) (by omega) (by omega)]; exact x1, x2, fun p hp => by rw [e _ (by omega)]; exact x3 p hp, x4⟩
  · rw [e1, hi _ _ (by omega) (by omega) (by omega)]; exact x.many
  · intro c hc; rw [e1] at hc; rw [hi _ _ (by omega) (by omega) (by omega), e _ (by omega)]; exact x.cost c hc
  · obtain ⟨X, x1, x2, x3⟩ := x.ans
    exact ⟨X, by rw [hi _ _ (by omega) (by omega) (by omega)]; exact x1, x2, fun c hc => by rw [e1] at hc; rw [e _ (by omega)]; exact x3 c hc⟩
  · intro c hc; rw [e1] at hc; rw [hi _ _ (by omega) (by omega) (by omega), e _ (by omega)]; exact x.came c hc
  · intro c hc; rw [e1] at hc; rw [hi _ _ (by omega) (by omega) (by omega), e _ (by omega)]; exact x.left c hc
  · intro c hc i hi9
    rw [e1] at hc
    have := hR.left c hc
    rw [e _ (by omega)] at hi9
    rw [hi _ _ (by omega) (by omega) (by omega), e _ (by omega)]; exact x.leng c hc i hi9
  · intro c hc i hi9
    rw [e1] at hc
    have := hR.left c hc
    rw [e _ (by omega)] at hi9
    rw [hi _ _ (by omega) (by omega) (by omega), e _ (by omega)]; exact x.ltim c hc i hi9
  · intro c hc i hi9
    rw [e1] at hc
    have := hR.left c hc
    rw [e _ (by omega)] at hi9
    rw [hi _ _ (by omega) (by omega) (by omega), e _ (by omega)]; exact x.lcrw c hc i hi9
theorem RwD.hands {T : Nat → Nat → Nat} {S S' : Nat → Nat} (hD : PlD T) (hR : RwD T S) (e : ∀ j, (j < 194 ∨ 284 ≤ j ∨ (j - 194) % 15 < 8) → S' j = S j)
    (hn : ∀ g, g < T 412 9 → S' (194 + 15 * g + 8) ≤ 3)
    (to : ∀ g, g < T 412 9 → ∀ k, k < S' (194 + 15 * g + 8) → S' (194 + 15 * g + 9 + k) < T 412 8)
    (en : ∀ g, g < T 412 9 → ∀ k, k < S' (194 + 15 * g + 8) → S' 0 < S' (194 + 15 * g + 12 + k) ∧ S' (194 + 15 * g + 12 + k) ≤ (S' 0 / T 423 g + 1) * T 423 g)
    (ed : ∀ g, g < T 412 9 → ∀ j k, j < k → k < S' (194 + 15 * g + 8) → S' (194 + 15 * g + 12 + k) ≤ S' (194 + 15 * g + 12 + j))
    (big : ∀ k, S' k < 2147483600)
    : RwD T S' := by
  have d0 := hD.nP
  have d1 := hD.nG
  have d2 := hD.nE
  have r1 := hR.many
  have e0 : S' 0 = S 0 := e 0 (by omega)
  have e1 : S' 1 = S 1 := e 1 (by omega)
  refine ⟨?_, ?_, ?_, ?_, ?_, ?_, ?_, ?_, ?_, ?_, ?_, ?_, ?_, ?_, ?_, ?_, ?_, ?_, ?_⟩
  · rw [e0]; exact hR.tm
  · rw [e1]; exact hR.many
  · intro p hp; rw [e0, e _ (by omega)]; exact hR.lost p hp
  · intro p hp; rw [e _ (by omega)]; exact hR.out p hp
  · intro p hp; rw [e _ (by omega)]; exact hR.exc p hp
  · intro p hp q hq; rw [e _ (by omega)]; exact hR.tr p hp q hq
  · intro g hg q hq
    have := hD.plc g hg
    rw [e _ (by omega)]; exact hR.rot g hg q hq
  · exact hn
  · exact to
  · exact en
  · exact ed
  · intro p hp; rw [e _ (by omega)]; exact hR.ret p hp
  · intro p hp; rw [e _ (by omega)]; exact hR.rest p hp
  · intro p hp; rw [e _ (by omega)]; exact hR.crew p hp
  · intro g hg; rw [e0, e (284 + 3 * g + 2) (by omega), e (284 + 3 * g) (by omega)]; exact hR.crout g hg
  · intro c hc; rw [e1] at hc; rw [e _ (by omega)]; exact hR.ans c hc
  · intro c hc; rw [e1] at hc; rw [e _ (by omega)]; exact hR.left c hc
  · intro c hc i hi9
    rw [e1] at hc
    have := hR.left c hc
    rw [e _ (by omega)] at hi9
    rw [e _ (by omega)]; exact hR.lcr c hc i hi9
  · exact big
theorem StR.trust {h h' : aH} {a P : Nat} {T : Nat → Nat → Nat} {S S' : Nat → Nat} (hD : PlD T) (hR : RwD T S) (x : StR h a P T S) (hr : h_rv h' a 0 = h_rv h a 0) (hi : ∀ o k, a ≤ o → o < a + 18 → ¬ (o = a + 4) → h_iv h' o k = h_iv h o k) (e : ∀ j, (j < 50 ∨ 194 ≤ j) → S' j = S j)
    (tr : ∀ p, p < T 412 8 → ∀ q, q < T 412 8 → h_iv h' (a + 4) (p * 12 + q) = nI (S' (50 + 12 * p + q)))
    : StR h' a P T S' := by
  have d0 := hD.nP
  have d1 := hD.nG
  have d2 := hD.nE
  have r1 := hR.many
  have e0 : S' 0 = S 0 := e 0 (by omega)
  have e1 : S' 1 = S 1 := e 1 (by omega)
  refine ⟨?_, ?_, ?_, ?_, ?_, ?_, ?_, ?_, ?_, ?_, ?_, ?_, ?_, ?_, ?_, ?_, ?_, ?_, ?_, ?_, ?_, ?_⟩
  · rw [hr]; exact x.pl
  · rw [e0, hi _ _ (by omega) (by omega) (by omega)]; exact x.tm
  · intro p hp; rw [hi _ _ (by omega) (by omega) (by omega), e _ (by omega)]; exact x.lost p hp
  · intro p hp; rw [hi _ _ (by omega) (by omega) (by omega), e _ (by omega)]; exact x.out p hp
  · intro p hp; rw [hi _ _ (by omega) (by omega) (by omega), e _ (by omega)]; exact x.paid p hp
  · obtain ⟨X, x1, x2, x3, x4⟩ := x.exc
    exact ⟨X, by rw [hi _ _ (by omega) (by omega) (by omega)]; exact x1, x2, fun p hp => by rw [e _ (by omega)]; exact x3 p hp, x4⟩
  · exact tr
  · intro g hg q hq
    have := hD.plc g hg
    rw [hi _ _ (by omega) (by omega) (by omega), e _ (by omega)]; exact x.rot g hg q hq
  · intro g hg; rw [hi _ _ (by omega) (by omega) (by omega), e _ (by omega)]; exact x.hn g hg
  · intro g hg k hk
    have := hR.hn g hg
    rw [e _ (by omega)] at hk
    rw [hi _ _ (by omega) (by omega) (by omega), e _ (by omega)]; exact x.to g hg k hk
  · intro g hg k hk
    have := hR.hn g hg
    rw [e _ (by omega)] at hk
    rw [hi _ _ (by omega) (by omega) (by omega), e _ (by omega)]; exact x.en g hg k hk
  · intro p hp; rw [hi _ _ (by omega) (by omega) (by omega), e _ (by omega)]; exact x.ret p hp
  · intro g hg hq
    rw [e0, e _ (by omega)] at hq
    rw [hi _ _ (by omega) (by omega) (by omega), e _ (by omega)]; exact x.crew g hg hq
  · obtain ⟨X, x1, x2, x3, x4⟩ := x.srv
    exact ⟨X, by rw [hi _ _ (by omega) (by omega) (by omega)]; exact x1, x2, fun p hp => by rw [e _ (by omega)]; exact x3 p hp, x4⟩
  · rw [e1, hi _ _ (by omega) (by omega) (by omega)]; exact x.many
  · intro c hc; rw [e1] at hc; rw [hi _ _ (by omega) (by omega) (by omega), e _ (by omega)]; exact x.cost c hc
  · obtain ⟨X, x1, x2, x3⟩ := x.ans
    exact ⟨X, by rw [hi _ _ (by omega) (by omega) (by omega)]; exact x1, x2, fun c hc => by rw [e1] at hc; rw [e _ (by omega)]; exact x3 c hc⟩
  · intro c hc; rw [e1] at hc; rw [hi _ _ (by omega) (by omega) (by omega), e _ (by omega)]; exact x.came c hc
  · intro c hc; rw [e1] at hc; rw [hi _ _ (by omega) (by omega) (by omega), e _ (by omega)]; exact x.left c hc
  · intro c hc i hi9
    rw [e1] at hc
    have := hR.left c hc
    rw [e _ (by omega)] at hi9
    rw [hi _ _ (by omega) (by omega) (by omega), e _ (by omega)]; exact x.leng c hc i hi9
  · intro c hc i hi9
    rw [e1] at hc
    have := hR.left c hc
    rw [e _ (by omega)] at hi9
    rw [hi _ _ (by omega) (by omega) (by omega), e _ (by omega)]; exact x.ltim c hc i hi9
  · intro c hc i hi9
    rw [e1] at hc
    have := hR.left c hc
    rw [e _ (by omega)] at hi9
    rw [hi _ _ (by omega) (by omega) (by omega), e _ (by omega)]; exact x.lcrw c hc i hi9
theorem RwD.trust {T : Nat → Nat → Nat} {S S' : Nat → Nat} (hD : PlD T) (hR : RwD T S) (e : ∀ j, (j < 50 ∨ 194 ≤ j) → S' j = S j)
    (tr : ∀ p, p < T 412 8 → ∀ q, q < T 412 8 → S' (50 + 12 * p + q) ≤ 9)
    (big : ∀ k, S' k < 2147483600)
    : RwD T S' := by
  have d0 := hD.nP
  have d1 := hD.nG
  have d2 := hD.nE
  have r1 := hR.many
  have e0 : S' 0 = S 0 := e 0 (by omega)
  have e1 : S' 1 = S 1 := e 1 (by omega)
  refine ⟨?_, ?_, ?_, ?_, ?_, ?_, ?_, ?_, ?_, ?_, ?_, ?_, ?_, ?_, ?_, ?_, ?_, ?_, ?_⟩
  · rw [e0]; exact hR.tm
  · rw [e1]; exact hR.many
  · intro p hp; rw [e0, e _ (by omega)]; exact hR.lost p hp
  · intro p hp; rw [e _ (by omega)]; exact hR.out p hp
  · intro p hp; rw [e _ (by omega)]; exact hR.exc p hp
  · exact tr
  · intro g hg q hq
    have := hD.plc g hg
    rw [e _ (by omega)]; exact hR.rot g hg q hq
  · intro p hp; rw [e _ (by omega)]; exact hR.hn p hp
  · intro g hg k hk
    have := hR.hn g hg
    rw [e _ (by omega)] at hk
    rw [e _ (by omega)]; exact hR.to g hg k hk
  · intro g hg k hk
    have := hR.hn g hg
    rw [e _ (by omega)] at hk
    rw [e0, e _ (by omega)]; exact hR.en g hg k hk
  · intro g hg j k hj hk
    have := hR.hn g hg
    rw [e _ (by omega)] at hk
    rw [e (194 + 15 * g + 12 + k) (by omega), e (194 + 15 * g + 12 + j) (by omega)]; exact hR.ed g hg j k hj hk
  · intro p hp; rw [e _ (by omega)]; exact hR.ret p hp
  · intro p hp; rw [e _ (by omega)]; exact hR.rest p hp
  · intro p hp; rw [e _ (by omega)]; exact hR.crew p hp
  · intro g hg; rw [e0, e (284 + 3 * g + 2) (by omega), e (284 + 3 * g) (by omega)]; exact hR.crout g hg
  · intro c hc; rw [e1] at hc; rw [e _ (by omega)]; exact hR.ans c hc
  · intro c hc; rw [e1] at hc; rw [e _ (by omega)]; exact hR.left c hc
  · intro c hc i hi9
    rw [e1] at hc
    have := hR.left c hc
    rw [e _ (by omega)] at hi9
    rw [e _ (by omega)]; exact hR.lcr c hc i hi9
  · exact big
theorem StR.excu {h h' : aH} {a P : Nat} {T : Nat → Nat → Nat} {S S' : Nat → Nat} (hD : PlD T) (hR : RwD T S) (x : StR h a P T S) (hr : h_rv h' a 0 = h_rv h a 0) (hi : ∀ o k, a ≤ o → o < a + 18 → ¬ (o = a ∧ k = 5) → h_iv h' o k = h_iv h o k) (e : ∀ j, (j < 26 ∨ 38 ≤ j) → S' j = S j)
    (exc : ∃ X, h_iv h' a 5 = nI X ∧ X < 4096 ∧ (∀ p, p < T 412 8 → X.testBit p = decide (S' (26 + p) ≠ 0)) ∧ ∀ p, T 412 8 ≤ p → X.testBit p = false)
    : StR h' a P T S' := by
  have d0 := hD.nP
  have d1 := hD.nG
  have d2 := hD.nE
  have r1 := hR.many
  have e0 : S' 0 = S 0 := e 0 (by omega)
  have e1 : S' 1 = S 1 := e 1 (by omega)
  refine ⟨?_, ?_, ?_, ?_, ?_, ?_, ?_, ?_, ?_, ?_, ?_, ?_, ?_, ?_, ?_, ?_, ?_, ?_, ?_, ?_, ?_, ?_⟩
  · rw [hr]; exact x.pl
  · rw [e0, hi _ _ (by omega) (by omega) (by omega)]; exact x.tm
  · intro p hp; rw [hi _ _ (by omega) (by omega) (by omega), e _ (by omega)]; exact x.lost p hp
  · intro p hp; rw [hi _ _ (by omega) (by omega) (by omega), e _ (by omega)]; exact x.out p hp
  · intro p hp; rw [hi _ _ (by omega) (by omega) (by omega), e _ (by omega)]; exact x.paid p hp
  · exact exc
  · intro p hp q hq; rw [hi _ _ (by omega) (by omega) (by omega), e _ (by omega)]; exact x.tr p hp q hq
  · intro g hg q hq
    have := hD.plc g hg
    rw [hi _ _ (by omega) (by omega) (by omega), e _ (by omega)]; exact x.rot g hg q hq
  · intro g hg; rw [hi _ _ (by omega) (by omega) (by omega), e _ (by omega)]; exact x.hn g hg
  · intro g hg k hk
    have := hR.hn g hg
    rw [e _ (by omega)] at hk
    rw [hi _ _ (by omega) (by omega) (by omega), e _ (by omega)]; exact x.to g hg k hk
  · intro g hg k hk
    have := hR.hn g hg
    rw [e _ (by omega)] at hk
    rw [hi _ _ (by omega) (by omega) (by omega), e _ (by omega)]; exact x.en g hg k hk
  · intro p hp; rw [hi _ _ (by omega) (by omega) (by omega), e _ (by omega)]; exact x.ret p hp
  · intro g hg hq
    rw [e0, e _ (by omega)] at hq
    rw [hi _ _ (by omega) (by omega) (by omega), e _ (by omega)]; exact x.crew g hg hq
  · obtain ⟨X, x1, x2, x3, x4⟩ := x.srv
    exact ⟨X, by rw [hi _ _ (by omega) (by omega) (by omega)]; exact x1, x2, fun p hp => by rw [e _ (by omega)]; exact x3 p hp, x4⟩
  · rw [e1, hi _ _ (by omega) (by omega) (by omega)]; exact x.many
  · intro c hc; rw [e1] at hc; rw [hi _ _ (by omega) (by omega) (by omega), e _ (by omega)]; exact x.cost c hc
  · obtain ⟨X, x1, x2, x3⟩ := x.ans
    exact ⟨X, by rw [hi _ _ (by omega) (by omega) (by omega)]; exact x1, x2, fun c hc => by rw [e1] at hc; rw [e _ (by omega)]; exact x3 c hc⟩
  · intro c hc; rw [e1] at hc; rw [hi _ _ (by omega) (by omega) (by omega), e _ (by omega)]; exact x.came c hc
  · intro c hc; rw [e1] at hc; rw [hi _ _ (by omega) (by omega) (by omega), e _ (by omega)]; exact x.left c hc
  · intro c hc i hi9
    rw [e1] at hc
    have := hR.left c hc
    rw [e _ (by omega)] at hi9
    rw [hi _ _ (by omega) (by omega) (by omega), e _ (by omega)]; exact x.leng c hc i hi9
  · intro c hc i hi9
    rw [e1] at hc
    have := hR.left c hc
    rw [e _ (by omega)] at hi9
    rw [hi _ _ (by omega) (by omega) (by omega), e _ (by omega)]; exact x.ltim c hc i hi9
  · intro c hc i hi9
    rw [e1] at hc
    have := hR.left c hc
    rw [e _ (by omega)] at hi9
    rw [hi _ _ (by omega) (by omega) (by omega), e _ (by omega)]; exact x.lcrw c hc i hi9
theorem RwD.excu {T : Nat → Nat → Nat} {S S' : Nat → Nat} (hD : PlD T) (hR : RwD T S) (e : ∀ j, (j < 26 ∨ 38 ≤ j) → S' j = S j)
    (exc : ∀ p, p < T 412 8 → S' (26 + p) ≤ 1)
    (big : ∀ k, S' k < 2147483600)
    : RwD T S' := by
  have d0 := hD.nP
  have d1 := hD.nG
  have d2 := hD.nE
  have r1 := hR.many
  have e0 : S' 0 = S 0 := e 0 (by omega)
  have e1 : S' 1 = S 1 := e 1 (by omega)
  refine ⟨?_, ?_, ?_, ?_, ?_, ?_, ?_, ?_, ?_, ?_, ?_, ?_, ?_, ?_, ?_, ?_, ?_, ?_, ?_⟩
  · rw [e0]; exact hR.tm
  · rw [e1]; exact hR.many
  · intro p hp; rw [e0, e _ (by omega)]; exact hR.lost p hp
  · intro p hp; rw [e _ (by omega)]; exact hR.out p hp
  · exact exc
  · intro p hp q hq; rw [e _ (by omega)]; exact hR.tr p hp q hq
  · intro g hg q hq
    have := hD.plc g hg
    rw [e _ (by omega)]; exact hR.rot g hg q hq
  · intro p hp; rw [e _ (by omega)]; exact hR.hn p hp
  · intro g hg k hk
    have := hR.hn g hg
    rw [e _ (by omega)] at hk
    rw [e _ (by omega)]; exact hR.to g hg k hk
  · intro g hg k hk
    have := hR.hn g hg
    rw [e _ (by omega)] at hk
    rw [e0, e _ (by omega)]; exact hR.en g hg k hk
  · intro g hg j k hj hk
    have := hR.hn g hg
    rw [e _ (by omega)] at hk
    rw [e (194 + 15 * g + 12 + k) (by omega), e (194 + 15 * g + 12 + j) (by omega)]; exact hR.ed g hg j k hj hk
  · intro p hp; rw [e _ (by omega)]; exact hR.ret p hp
  · intro p hp; rw [e _ (by omega)]; exact hR.rest p hp
  · intro p hp; rw [e _ (by omega)]; exact hR.crew p hp
  · intro g hg; rw [e0, e (284 + 3 * g + 2) (by omega), e (284 + 3 * g) (by omega)]; exact hR.crout g hg
  · intro c hc; rw [e1] at hc; rw [e _ (by omega)]; exact hR.ans c hc
  · intro c hc; rw [e1] at hc; rw [e _ (by omega)]; exact hR.left c hc
  · intro c hc i hi9
    rw [e1] at hc
    have := hR.left c hc
    rw [e _ (by omega)] at hi9
    rw [e _ (by omega)]; exact hR.lcr c hc i hi9
  · exact big
theorem StR.serv {h h' : aH} {a P : Nat} {T : Nat → Nat → Nat} {S S' : Nat → Nat} (hD : PlD T) (hR : RwD T S) (x : StR h a P T S) (hr : h_rv h' a 0 = h_rv h a 0) (hi : ∀ o k, a ≤ o → o < a + 18 → ¬ (o = a ∧ k = 13) → h_iv h' o k = h_iv h o k) (e : ∀ j, (j < 284 ∨ 299 ≤ j ∨ (j - 284) % 3 ≠ 1) → S' j = S j)
    (srv : ∃ X, h_iv h' a 13 = nI X ∧ X < 32 ∧ (∀ e, e < T 412 10 → X.testBit e = decide (S' (284 + 3 * e + 1) = 0)) ∧ ∀ e, T 412 10 ≤ e → X.testBit e = false)
    : StR h' a P T S' := by
  have d0 := hD.nP
  have d1 := hD.nG
  have d2 := hD.nE
  have r1 := hR.many
  have e0 : S' 0 = S 0 := e 0 (by omega)
  have e1 : S' 1 = S 1 := e 1 (by omega)
  refine ⟨?_, ?_, ?_, ?_, ?_, ?_, ?_, ?_, ?_, ?_, ?_, ?_, ?_, ?_, ?_, ?_, ?_, ?_, ?_, ?_, ?_, ?_⟩
  · rw [hr]; exact x.pl
  · rw [e0, hi _ _ (by omega) (by omega) (by omega)]; exact x.tm
  · intro p hp; rw [hi _ _ (by omega) (by omega) (by omega), e _ (by omega)]; exact x.lost p hp
  · intro p hp; rw [hi _ _ (by omega) (by omega) (by omega), e _ (by omega)]; exact x.out p hp
  · intro p hp; rw [hi _ _ (by omega) (by omega) (by omega), e _ (by omega)]; exact x.paid p hp
  · obtain ⟨X, x1, x2, x3, x4⟩ := x.exc
    exact ⟨X, by rw [hi _ _ (by omega) (by omega) (by omega)]; exact x1, x2, fun p hp => by rw [e _ (by omega)]; exact x3 p hp, x4⟩
  · intro p hp q hq; rw [hi _ _ (by omega) (by omega) (by omega), e _ (by omega)]; exact x.tr p hp q hq
  · intro g hg q hq
    have := hD.plc g hg
    rw [hi _ _ (by omega) (by omega) (by omega), e _ (by omega)]; exact x.rot g hg q hq
  · intro g hg; rw [hi _ _ (by omega) (by omega) (by omega), e _ (by omega)]; exact x.hn g hg
  · intro g hg k hk
    have := hR.hn g hg
    rw [e _ (by omega)] at hk
    rw [hi _ _ (by omega) (by omega) (by omega), e _ (by omega)]; exact x.to g hg k hk
  · intro g hg k hk
    have := hR.hn g hg
    rw [e _ (by omega)] at hk
    rw [hi _ _ (by omega) (by omega) (by omega), e _ (by omega)]; exact x.en g hg k hk
  · intro p hp; rw [hi _ _ (by omega) (by omega) (by omega), e _ (by omega)]; exact x.ret p hp
  · intro g hg hq
    rw [e0, e _ (by omega)] at hq
    rw [hi _ _ (by omega) (by omega) (by omega), e _ (by omega)]; exact x.crew g hg hq
  · exact srv
  · rw [e1, hi _ _ (by omega) (by omega) (by omega)]; exact x.many
  · intro c hc; rw [e1] at hc; rw [hi _ _ (by omega) (by omega) (by omega), e _ (by omega)]; exact x.cost c hc
  · obtain ⟨X, x1, x2, x3⟩ := x.ans
    exact ⟨X, by rw [hi _ _ (by omega) (by omega) (by omega)]; exact x1, x2, fun c hc => by rw [e1] at hc; rw [e _ (by omega)]; exact x3 c hc⟩
  · intro c hc; rw [e1] at hc; rw [hi _ _ (by omega) (by omega) (by omega), e _ (by omega)]; exact x.came c hc
  · intro c hc; rw [e1] at hc; rw [hi _ _ (by omega) (by omega) (by omega), e _ (by omega)]; exact x.left c hc
  · intro c hc i hi9
    rw [e1] at hc
    have := hR.left c hc
    rw [e _ (by omega)] at hi9
    rw [hi _ _ (by omega) (by omega) (by omega), e _ (by omega)]; exact x.leng c hc i hi9
  · intro c hc i hi9
    rw [e1] at hc
    have := hR.left c hc
    rw [e _ (by omega)] at hi9
    rw [hi _ _ (by omega) (by omega) (by omega), e _ (by omega)]; exact x.ltim c hc i hi9
  · intro c hc i hi9
    rw [e1] at hc
    have := hR.left c hc
    rw [e _ (by omega)] at hi9
    rw [hi _ _ (by omega) (by omega) (by omega), e _ (by omega)]; exact x.lcrw c hc i hi9
theorem RwD.serv {T : Nat → Nat → Nat} {S S' : Nat → Nat} (hD : PlD T) (hR : RwD T S) (e : ∀ j, (j < 284 ∨ 299 ≤ j ∨ (j - 284) % 3 ≠ 1) → S' j = S j)
    (rest : ∀ e, e < T 412 10 → S' (284 + 3 * e + 1) ≤ 1)
    (big : ∀ k, S' k < 2147483600)
    : RwD T S' := by
  have d0 := hD.nP
  have d1 := hD.nG
  have d2 := hD.nE
  have r1 := hR.many
  have e0 : S' 0 = S 0 := e 0 (by omega)
  have e1 : S' 1 = S 1 := e 1 (by omega)
  refine ⟨?_, ?_, ?_, ?_, ?_, ?_, ?_, ?_, ?_, ?_, ?_, ?_, ?_, ?_, ?_, ?_, ?_, ?_, ?_⟩
  · rw [e0]; exact hR.tm
  · rw [e1]; exact hR.many
  · intro p hp; rw [e0, e _ (by omega)]; exact hR.lost p hp
  · intro p hp; rw [e _ (by omega)]; exact hR.out p hp
  · intro p hp; rw [e _ (by omega)]; exact hR.exc p hp
  · intro p hp q hq; rw [e _ (by omega)]; exact hR.tr p hp q hq
  · intro g hg q hq
    have := hD.plc g hg
    rw [e _ (by omega)]; exact hR.rot g hg q hq
  · intro p hp; rw [e _ (by omega)]; exact hR.hn p hp
  · intro g hg k hk
    have := hR.hn g hg
    rw [e _ (by omega)] at hk
    rw [e _ (by omega)]; exact hR.to g hg k hk
  · intro g hg k hk
    have := hR.hn g hg
    rw [e _ (by omega)] at hk
    rw [e0, e _ (by omega)]; exact hR.en g hg k hk
  · intro g hg j k hj hk
    have := hR.hn g hg
    rw [e _ (by omega)] at hk
    rw [e (194 + 15 * g + 12 + k) (by omega), e (194 + 15 * g + 12 + j) (by omega)]; exact hR.ed g hg j k hj hk
  · intro p hp; rw [e _ (by omega)]; exact hR.ret p hp
  · exact rest
  · intro p hp; rw [e _ (by omega)]; exact hR.crew p hp
  · intro g hg; rw [e0, e (284 + 3 * g + 2) (by omega), e (284 + 3 * g) (by omega)]; exact hR.crout g hg
  · intro c hc; rw [e1] at hc; rw [e _ (by omega)]; exact hR.ans c hc
  · intro c hc; rw [e1] at hc; rw [e _ (by omega)]; exact hR.left c hc
  · intro c hc i hi9
    rw [e1] at hc
    have := hR.left c hc
    rw [e _ (by omega)] at hi9
    rw [e _ (by omega)]; exact hR.lcr c hc i hi9
  · exact big
theorem StR.swap {h h' : aH} {a P : Nat} {T : Nat → Nat → Nat} {S S' : Nat → Nat} (hD : PlD T) (hR : RwD T S) (x : StR h a P T S) (hr : h_rv h' a 0 = h_rv h a 0) (hi : ∀ o k, a ≤ o → o < a + 18 → ¬ (o = a + 5) → h_iv h' o k = h_iv h o k) (e : ∀ j, (j < 194 ∨ 284 ≤ j ∨ 8 ≤ (j - 194) % 15) → S' j = S j)
    (rot : ∀ g, g < T 412 9 → ∀ q, q < T 424 g → h_iv h' (a + 5) (g * 8 + q) = nI (S' (194 + 15 * g + q)))
    : StR h' a P T S' := by
  have d0 := hD.nP
  have d1 := hD.nG
  have d2 := hD.nE
  have r1 := hR.many
  have e0 : S' 0 = S 0 := e 0 (by omega)
  have e1 : S' 1 = S 1 := e 1 (by omega)
  refine ⟨?_, ?_, ?_, ?_, ?_, ?_, ?_, ?_, ?_, ?_, ?_, ?_, ?_, ?_, ?_, ?_, ?_, ?_, ?_, ?_, ?_, ?_⟩
  · rw [hr]; exact x.pl
  · rw [e0, hi _ _ (by omega) (by omega) (by omega)]; exact x.tm
  · intro p hp; rw [hi _ _ (by omega) (by omega) (by omega), e _ (by omega)]; exact x.lost p hp
  · intro p hp; rw [hi _ _ (by omega) (by omega) (by omega), e _ (by omega)]; exact x.out p hp
  · intro p hp; rw [hi _ _ (by omega) (by omega) (by omega), e _ (by omega)]; exact x.paid p hp
  · obtain ⟨X, x1, x2, x3, x4⟩ := x.exc
    exact ⟨X, by rw [hi _ _ (by omega) (by omega) (by omega)]; exact x1, x2, fun p hp => by rw [e _ (by omega)]; exact x3 p hp, x4⟩
  · intro p hp q hq; rw [hi _ _ (by omega) (by omega) (by omega), e _ (by omega)]; exact x.tr p hp q hq
  · exact rot
  · intro g hg; rw [hi _ _ (by omega) (by omega) (by omega), e _ (by omega)]; exact x.hn g hg
  · intro g hg k hk
    have := hR.hn g hg
    rw [e _ (by omega)] at hk
    rw [hi _ _ (by omega) (by omega) (by omega), e _ (by omega)]; exact x.to g hg k hk
  · intro g hg k hk
    have := hR.hn g hg
    rw [e _ (by omega)] at hk
    rw [hi _ _ (by omega) (by omega) (by omega), e _ (by omega)]; exact x.en g hg k hk
  · intro p hp; rw [hi _ _ (by omega) (by omega) (by omega), e _ (by omega)]; exact x.ret p hp
  · intro g hg hq
    rw [e0, e _ (by omega)] at hq
    rw [hi _ _ (by omega) (by omega) (by omega), e _ (by omega)]; exact x.crew g hg hq
  · obtain ⟨X, x1, x2, x3, x4⟩ := x.srv
    exact ⟨X, by rw [hi _ _ (by omega) (by omega) (by omega)]; exact x1, x2, fun p hp => by rw [e _ (by omega)]; exact x3 p hp, x4⟩
  · rw [e1, hi _ _ (by omega) (by omega) (by omega)]; exact x.many
  · intro c hc; rw [e1] at hc; rw [hi _ _ (by omega) (by omega) (by omega), e _ (by omega)]; exact x.cost c hc
  · obtain ⟨X, x1, x2, x3⟩ := x.ans
    exact ⟨X, by rw [hi _ _ (by omega) (by omega) (by omega)]; exact x1, x2, fun c hc => by rw [e1] at hc; rw [e _ (by omega)]; exact x3 c hc⟩
  · intro c hc; rw [e1] at hc; rw [hi _ _ (by omega) (by omega) (by omega), e _ (by omega)]; exact x.came c hc
  · intro c hc; rw [e1] at hc; rw [hi _ _ (by omega) (by omega) (by omega), e _ (by omega)]; exact x.left c hc
  · intro c hc i hi9
    rw [e1] at hc
    have := hR.left c hc
    rw [e _ (by omega)] at hi9
    rw [hi _ _ (by omega) (by omega) (by omega), e _ (by omega)]; exact x.leng c hc i hi9
  · intro c hc i hi9
    rw [e1] at hc
    have := hR.left c hc
    rw [e _ (by omega)] at hi9
    rw [hi _ _ (by omega) (by omega) (by omega), e _ (by omega)]; exact x.ltim c hc i hi9
  · intro c hc i hi9
    rw [e1] at hc
    have := hR.left c hc
    rw [e _ (by omega)] at hi9
    rw [hi _ _ (by omega) (by omega) (by omega), e _ (by omega)]; exact x.lcrw c hc i hi9
theorem RwD.swap {T : Nat → Nat → Nat} {S S' : Nat → Nat} (hD : PlD T) (hR : RwD T S) (e : ∀ j, (j < 194 ∨ 284 ≤ j ∨ 8 ≤ (j - 194) % 15) → S' j = S j)
    (rot : ∀ g, g < T 412 9 → ∀ q, q < T 424 g → S' (194 + 15 * g + q) < T 412 8)
    (big : ∀ k, S' k < 2147483600)
    : RwD T S' := by
  have d0 := hD.nP
  have d1 := hD.nG
  have d2 := hD.nE
  have r1 := hR.many
  have e0 : S' 0 = S 0 := e 0 (by omega)
  have e1 : S' 1 = S 1 := e 1 (by omega)
  refine ⟨?_, ?_, ?_, ?_, ?_, ?_, ?_, ?_, ?_, ?_, ?_, ?_, ?_, ?_, ?_, ?_, ?_, ?_, ?_⟩
  · rw [e0]; exact hR.tm
  · rw [e1]; exact hR.many
  · intro p hp; rw [e0, e _ (by omega)]; exact hR.lost p hp
  · intro p hp; rw [e _ (by omega)]; exact hR.out p hp
  · intro p hp; rw [e _ (by omega)]; exact hR.exc p hp
  · intro p hp q hq; rw [e _ (by omega)]; exact hR.tr p hp q hq
  · exact rot
  · intro p hp; rw [e _ (by omega)]; exact hR.hn p hp
  · intro g hg k hk
    have := hR.hn g hg
    rw [e _ (by omega)] at hk
    rw [e _ (by omega)]; exact hR.to g hg k hk
  · intro g hg k hk
    have := hR.hn g hg
    rw [e _ (by omega)] at hk
    rw [e0, e _ (by omega)]; exact hR.en g hg k hk
  · intro g hg j k hj hk
    have := hR.hn g hg
    rw [e _ (by omega)] at hk
    rw [e (194 + 15 * g + 12 + k) (by omega), e (194 + 15 * g + 12 + j) (by omega)]; exact hR.ed g hg j k hj hk
  · intro p hp; rw [e _ (by omega)]; exact hR.ret p hp
  · intro p hp; rw [e _ (by omega)]; exact hR.rest p hp
  · intro p hp; rw [e _ (by omega)]; exact hR.crew p hp
  · intro g hg; rw [e0, e (284 + 3 * g + 2) (by omega), e (284 + 3 * g) (by omega)]; exact hR.crout g hg
  · intro c hc; rw [e1] at hc; rw [e _ (by omega)]; exact hR.ans c hc
  · intro c hc; rw [e1] at hc; rw [e _ (by omega)]; exact hR.left c hc
  · intro c hc i hi9
    rw [e1] at hc
    have := hR.left c hc
    rw [e _ (by omega)] at hi9
    rw [e _ (by omega)]; exact hR.lcr c hc i hi9
  · exact big
theorem StR.send {h h' : aH} {a P : Nat} {T : Nat → Nat → Nat} {S S' : Nat → Nat} (hD : PlD T) (hR : RwD T S) (x : StR h a P T S) (hr : h_rv h' a 0 = h_rv h a 0) (hi : ∀ o k, a ≤ o → o < a + 18 → ¬ (o = a + 2 ∨ o = a + 3) → h_iv h' o k = h_iv h o k) (e : ∀ j, (j < 14 ∨ (26 ≤ j ∧ j < 38) ∨ 50 ≤ j) → S' j = S j)
    (out : ∀ p, p < T 412 8 → h_iv h' (a + 2) p = nI (S' (14 + p)))
    (paid : ∀ p, p < T 412 8 → h_iv h' (a + 3) p = nI (S' (38 + p)))
    : StR h' a P T S' := by
  have d0 := hD.nP
  have d1 := hD.nG
  have d2 := hD.nE
  have r1 := hR.many
  have e0 : S' 0 = S 0 := e 0 (by omega)
  have e1 : S' 1 = S 1 := e 1 (by omega)
  refine ⟨?_, ?_, ?_, ?_, ?_, ?_, ?_, ?_, ?_, ?_, ?_, ?_, ?_, ?_, ?_, ?_, ?_, ?_, ?_, ?_, ?_, ?_⟩
  · rw [hr]; exact x.pl
  · rw [e0, hi _ _ (by omega) (by omega) (by omega)]; exact x.tm
  · intro p hp; rw [hi _ _ (by omega) (by omega) (by omega), e _ (by omega)]; exact x.lost p hp
  · exact out
  · exact paid
  · obtain ⟨X, x1, x2, x3, x4⟩ := x.exc
    exact ⟨X, by rw [hi _ _ (by omega) (by omega) (by omega)]; exact x1, x2, fun p hp => by rw [e _ (by omega)]; exact x3 p hp, x4⟩
  · intro p hp q hq; rw [hi _ _ (by omega) (by omega) (by omega), e _ (by omega)]; exact x.tr p hp q hq
  · intro g hg q hq
    have := hD.plc g hg
    rw [hi _ _ (by omega) (by omega) (by omega), e _ (by omega)]; exact x.rot g hg q hq
  · intro g hg; rw [hi _ _ (by omega) (by omega) (by omega), e _ (by omega)]; exact x.hn g hg
  · intro g hg k hk
    have := hR.hn g hg
    rw [e _ (by omega)] at hk
    rw [hi _ _ (by omega) (by omega) (by omega), e _ (by omega)]; exact x.to g hg k hk
  · intro g hg k hk
    have := hR.hn g hg
    rw [e _ (by omega)] at hk
    rw [hi _ _ (by omega) (by omega) (by omega), e _ (by omega)]; exact x.en g hg k hk
  · intro p hp; rw [hi _ _ (by omega) (by omega) (by omega), e _ (by omega)]; exact x.ret p hp
  · intro g hg hq
    rw [e0, e _ (by omega)] at hq
    rw [hi _ _ (by omega) (by omega) (by omega), e _ (by omega)]; exact x.crew g hg hq
  · obtain ⟨X, x1, x2, x3, x4⟩ := x.srv
    exact ⟨X, by rw [hi _ _ (by omega) (by omega) (by omega)]; exact x1, x2, fun p hp => by rw [e _ (by omega)]; exact x3 p hp, x4⟩
  · rw [e1, hi _ _ (by omega) (by omega) (by omega)]; exact x.many
  · intro c hc; rw [e1] at hc; rw [hi _ _ (by omega) (by omega) (by omega), e _ (by omega)]; exact x.cost c hc
  · obtain ⟨X, x1, x2, x3⟩ := x.ans
    exact ⟨X, by rw [hi _ _ (by omega) (by omega) (by omega)]; exact x1, x2, fun c hc => by rw [e1] at hc; rw [e _ (by omega)]; exact x3 c hc⟩
  · intro c hc; rw [e1] at hc; rw [hi _ _ (by omega) (by omega) (by omega), e _ (by omega)]; exact x.came c hc
  · intro c hc; rw [e1] at hc; rw [hi _ _ (by omega) (by omega) (by omega), e _ (by omega)]; exact x.left c hc
  · intro c hc i hi9
    rw [e1] at hc
    have := hR.left c hc
    rw [e _ (by omega)] at hi9
    rw [hi _ _ (by omega) (by omega) (by omega), e _ (by omega)]; exact x.leng c hc i hi9
  · intro c hc i hi9
    rw [e1] at hc
    have := hR.left c hc
    rw [e _ (by omega)] at hi9
    rw [hi _ _ (by omega) (by omega) (by omega), e _ (by omega)]; exact x.ltim c hc i hi9
  · intro c hc i hi9
    rw [e1] at hc
    have := hR.left c hc
    rw [e _ (by omega)] at hi9
    rw [hi _ _ (by omega) (by omega) (by omega), e _ (by omega)]; exact x.lcrw c hc i hi9
theorem RwD.send {T : Nat → Nat → Nat} {S S' : Nat → Nat} (hD : PlD T) (hR : RwD T S) (e : ∀ j, (j < 14 ∨ (26 ≤ j ∧ j < 38) ∨ 50 ≤ j) → S' j = S j)
    (out : ∀ p, p < T 412 8 → S' (14 + p) < 50000)
    (big : ∀ k, S' k < 2147483600)
    : RwD T S' := by
  have d0 := hD.nP
  have d1 := hD.nG
  have d2 := hD.nE
  have r1 := hR.many
  have e0 : S' 0 = S 0 := e 0 (by omega)
  have e1 : S' 1 = S 1 := e 1 (by omega)
  refine ⟨?_, ?_, ?_, ?_, ?_, ?_, ?_, ?_, ?_, ?_, ?_, ?_, ?_, ?_, ?_, ?_, ?_, ?_, ?_⟩
  · rw [e0]; exact hR.tm
  · rw [e1]; exact hR.many
  · intro p hp; rw [e0, e _ (by omega)]; exact hR.lost p hp
  · exact out
  · intro p hp; rw [e _ (by omega)]; exact hR.exc p hp
  · intro p hp q hq; rw [e _ (by omega)]; exact hR.tr p hp q hq
  · intro g hg q hq
    have := hD.plc g hg
    rw [e _ (by omega)]; exact hR.rot g hg q hq
  · intro p hp; rw [e _ (by omega)]; exact hR.hn p hp
  · intro g hg k hk
    have := hR.hn g hg
    rw [e _ (by omega)] at hk
    rw [e _ (by omega)]; exact hR.to g hg k hk
  · intro g hg k hk
    have := hR.hn g hg
    rw [e _ (by omega)] at hk
    rw [e0, e _ (by omega)]; exact hR.en g hg k hk
  · intro g hg j k hj hk
    have := hR.hn g hg
    rw [e _ (by omega)] at hk
    rw [e (194 + 15 * g + 12 + k) (by omega), e (194 + 15 * g + 12 + j) (by omega)]; exact hR.ed g hg j k hj hk
  · intro p hp; rw [e _ (by omega)]; exact hR.ret p hp
  · intro p hp; rw [e _ (by omega)]; exact hR.rest p hp
  · intro p hp; rw [e _ (by omega)]; exact hR.crew p hp
  · intro g hg; rw [e0, e (284 + 3 * g + 2) (by omega), e (284 + 3 * g) (by omega)]; exact hR.crout g hg
  · intro c hc; rw [e1] at hc; rw [e _ (by omega)]; exact hR.ans c hc
  · intro c hc; rw [e1] at hc; rw [e _ (by omega)]; exact hR.left c hc
  · intro c hc i hi9
    rw [e1] at hc
    have := hR.left c hc
    rw [e _ (by omega)] at hi9
    rw [e _ (by omega)]; exact hR.lcr c hc i hi9
  · exact big
/-- one hand-on more of pager g, to p up to u -/
def hdS (S : Nat → Nat) (g p u j : Nat) : Nat := if j = 194 + 15 * g + 8 then S (194 + 15 * g + 8) + 1 else if j = 194 + 15 * g + 9 + S (194 + 15 * g + 8) then p else if j = 194 + 15 * g + 12 + S (194 + 15 * g + 8) then u else S j
/-- one less -/
def drS (S : Nat → Nat) (g j : Nat) : Nat := if j = 194 + 15 * g + 8 then S (194 + 15 * g + 8) - 1 else S j
section
variable {h : aH} {a P : Nat} {T : Nat → Nat → Nat} {S : Nat → Nat}
theorem hdS_o {g p u j : Nat} (h3 : S (194 + 15 * g + 8) < 3) (h : j < 194 + 15 * g + 8 ∨ 194 + 15 * g + 15 ≤ j) : hdS S g p u j = S j := by
  unfold hdS
  rw [if_neg (by omega), if_neg (by omega), if_neg (by omega)]
theorem hdS_n {g p u : Nat} : hdS S g p u (194 + 15 * g + 8) = S (194 + 15 * g + 8) + 1 := if_pos rfl
theorem hdS_t {g p u k : Nat} (h3 : S (194 + 15 * g + 8) < 3) (hk : k < 3) : hdS S g p u (194 + 15 * g + 9 + k) = if k = S (194 + 15 * g + 8) then p else S (194 + 15 * g + 9 + k) := by
  unfold hdS
  rw [if_neg (by omega)]
  by_cases c : k = S (194 + 15 * g + 8)
  · rw [if_pos (by omega), if_pos c]
  · rw [if_neg (by omega), if_neg (by omega), if_neg c]
theorem hdS_e {g p u k : Nat} (h3 : S (194 + 15 * g + 8) < 3) (hk : k < 3) : hdS S g p u (194 + 15 * g + 12 + k) = if k = S (194 + 15 * g + 8) then u else S (194 + 15 * g + 12 + k) := by
  unfold hdS
  rw [if_neg (by omega), if_neg (by omega)]
  by_cases c : k = S (194 + 15 * g + 8)
  · rw [if_pos (by omega), if_pos c]
  · rw [if_neg (by omega), if_neg c]
theorem link_hd (hD : PlD T) {g p u k : Nat} (hg : g < T 412 9) (h3 : S (194 + 15 * g + 8) < 3) (hk : k ≤ S (194 + 15 * g + 8)) : link T (hdS S g p u) g k = link T S g k := by
  have d := hD.plc g hg
  have m1 : S 0 / T 423 g % T 424 g < T 424 g := Nat.mod_lt _ (by omega)
  unfold link own
  rw [hdS_o h3 (j := 0) (by omega)]
  by_cases c : k = 0
  · rw [if_pos c, if_pos c, hdS_o h3 (by omega)]
  · rw [if_neg c, if_neg c, hdS_t h3 (by omega), if_neg (by omega)]
theorem rsn_0 {g p : Nat} {u : Int32} : rsn T S g p u = 0 ↔ (isO S (link T S g (S (194 + 15 * g + 8))) = false ∧ inC T S g p = false ∧ S (26 + p) = 0 ∧ isO S p = false ∧ isT T S p = false ∧ dbt T S g p = false ∧ S (194 + 15 * g + 8) < 3 ∧ ¬ u ≤ nI (S 0) ∧ u ≤ nI (endA T S g (S 0))) := by
  unfold rsn
  cases c1 : isO S (link T S g (S (194 + 15 * g + 8)))
  · cases c2 : inC T S g p
    · by_cases c3 : S (26 + p) = 0
      · cases c4 : isO S p
        · cases c5 : isT T S p
          · cases c6 : dbt T S g p
            · by_cases c7 : S (194 + 15 * g + 8) < 3
              · by_cases c8 : u ≤ nI (S 0)
                · simp [c3, c7, c8]
                · by_cases c9 : u ≤ nI (endA T S g (S 0)) <;> simp [c3, c7, c8, c9]
              · simp [c3, c7]
            · simp [c3]
          · simp [c3]
        · simp [c3]
      · simp [c3]
    · simp
  · simp
/-- a longer chain lets nobody in who could not come before -/
theorem rsn_more (hD : PlD T) (hR : RwD T S) {g p q w : Nat} {u : Int32} (hg : g < T 412 9) (hp : p < T 412 8) (h0 : rsn T S g q u = 0) (h1 : rsn T S g p u ≠ 0) : rsn T (hdS S g q w) g p u ≠ 0 := by
  obtain ⟨a1, a2, a3, a4, a5, a6, a7, a8, a9⟩ := rsn_0.mp h0
  intro hc
  obtain ⟨b1, b2, b3, b4, b5, b6, b7, b8, b9⟩ := rsn_0.mp hc
  have p1 := hD.nP
  have p2 := hD.nG
  refine h1 (rsn_0.mpr ⟨a1, ?_, ?_, ?_, ?_, ?_, a7, a8, a9⟩)
  · refine anyB_f.mpr (fun k hk => ?_)
    have := anyB_f.mp b2 k (by rw [hdS_n]; omega)
    rw [link_hd hD hg a7 (by omega)] at this
    exact this
  · rw [hdS_o a7 (by omega)] at b3; exact b3
  · unfold isO at b4 ⊢
    rw [hdS_o a7 (by omega), hdS_o a7 (by omega)] at b4; exact b4
  · unfold isT at b5 ⊢
    rw [hdS_o a7 (by omega)] at b5; exact b5
  · refine anyB_f.mpr (fun k hk => ?_)
    have l := link_lt hD hR hg (show k ≤ S (194 + 15 * g + 8) by omega)
    have := anyB_f.mp b6 k (by rw [hdS_n]; omega)
    rw [link_hd hD hg a7 (by omega), hdS_o a7 (by omega)] at this
    exact this
theorem endA_le (hD : PlD T) (hR : RwD T S) {g : Nat} (hg : g < T 412 9) : S 0 < endA T S g (S 0) ∧ endA T S g (S 0) ≤ (S 0 / T 423 g + 1) * T 423 g ∧ (S 0 / T 423 g + 1) * T 423 g ≤ S 0 + 10080 := by
  have d := hD.trn g hg
  have l1 := lst_now hR hg
  have q3 : S 0 / T 423 g * T 423 g ≤ S 0 := Nat.div_mul_le_self _ _
  have q4 : S 0 < (S 0 / T 423 g + 1) * T 423 g := by
    have := Nat.lt_div_mul_add (a := S 0) (b := T 423 g) (by omega)
    rw [Nat.add_mul, Nat.one_mul]
    exact this
  have q5 : (S 0 / T 423 g + 1) * T 423 g = S 0 / T 423 g * T 423 g + T 423 g := by rw [Nat.add_mul, Nat.one_mul]
  unfold endA
  rw [l1]
  by_cases c : S (194 + 15 * g + 8) = 0
  · rw [if_pos c]; omega
  · rw [if_neg c]
    have := hR.en g hg (S (194 + 15 * g + 8) - 1) (by omega)
    omega
theorem endA_last (hR : RwD T S) {g k : Nat} (hg : g < T 412 9) (hk : k < S (194 + 15 * g + 8)) : endA T S g (S 0) ≤ S (194 + 15 * g + 12 + k) := by
  have l1 := lst_now hR hg
  unfold endA
  rw [l1, if_neg (by omega)]
  by_cases c : k = S (194 + 15 * g + 8) - 1
  · rw [c]; exact Nat.le_refl _
  · exact hR.ed g hg k (S (194 + 15 * g + 8) - 1) (by omega) (by omega)
theorem hd_R (hD : PlD T) (hR : RwD T S) {g p u : Nat} (hg : g < T 412 9) (hp : p < T 412 8) (h3 : S (194 + 15 * g + 8) < 3) (h1 : S 0 < u) (h2 : u ≤ endA T S g (S 0)) : RwD T (hdS S g p u) := by
  have d0 := hD.nP
  have d1 := hD.nG
  have el := endA_le hD hR hg
  have tm := hR.tm
  have far : ∀ {g' j : Nat}, g' ≠ g → 194 + 15 * g' ≤ j → j < 194 + 15 * g' + 15 → hdS S g p u j = S j := fun q1 q2 q3 => hdS_o h3 (by omega)
  refine hR.hands hD (fun j hj => hdS_o h3 (by omega)) ?_ ?_ ?_ ?_ ?_
  · intro g' hg'
    by_cases c : g' = g
    · rw [c, hdS_n]; omega
    · rw [far c (by omega) (by omega)]; exact hR.hn g' hg'
  · intro g' hg' k hk
    by_cases c : g' = g
    · subst c
      rw [hdS_n] at hk
      rw [hdS_t h3 (by omega)]
      by_cases c2 : k = S (194 + 15 * g' + 8)
      · rw [if_pos c2]; exact hp
      · rw [if_neg c2]; exact hR.to g' hg' k (by omega)
    · have := hR.hn g' hg'
      rw [far c (by omega) (by omega)] at hk
      rw [far c (by omega) (by omega)]; exact hR.to g' hg' k hk
  · intro g' hg' k hk
    rw [hdS_o h3 (j := 0) (by omega)]
    by_cases c : g' = g
    · subst c
      rw [hdS_n] at hk
      rw [hdS_e h3 (by omega)]
      by_cases c2 : k = S (194 + 15 * g' + 8)
      · rw [if_pos c2]; exact ⟨h1, by omega⟩
      · rw [if_neg c2]; exact hR.en g' hg' k (by omega)
    · have := hR.hn g' hg'
      rw [far c (by omega) (by omega)] at hk
      rw [far c (by omega) (by omega)]; exact hR.en g' hg' k hk
  · intro g' hg' j k hj hk
    by_cases c : g' = g
    · subst c
      rw [hdS_n] at hk
      rw [hdS_e h3 (by omega), hdS_e h3 (by omega), if_neg (show ¬ j = S (194 + 15 * g' + 8) by omega)]
      by_cases c2 : k = S (194 + 15 * g' + 8)
      · rw [if_pos c2]
        have := endA_last hR hg' (show j < S (194 + 15 * g' + 8) by omega)
        omega
      · rw [if_neg c2]; exact hR.ed g' hg' j k hj (by omega)
    · have := hR.hn g' hg'
      rw [far c (by omega) (by omega)] at hk
      rw [far c (by omega) (by omega), far c (by omega) (by omega)]; exact hR.ed g' hg' j k hj hk
  · intro k
    have bk := hR.big k
    have := hR.big (194 + 15 * g + 8)
    unfold hdS
    split
    · omega
    · split
      · omega
      · split
        · omega
        · exact bk
theorem drS_o {g j : Nat} (h : j ≠ 194 + 15 * g + 8) : drS S g j = S j := if_neg h
theorem drS_n {g : Nat} : drS S g (194 + 15 * g + 8) = S (194 + 15 * g + 8) - 1 := if_pos rfl
theorem dr_R (hD : PlD T) (hR : RwD T S) {g : Nat} (hg : g < T 412 9) : RwD T (drS S g) := by
  have d1 := hD.nG
  have lt : ∀ {g' k : Nat}, k < drS S g (194 + 15 * g' + 8) → k < S (194 + 15 * g' + 8) := fun {g' k} hk => by
    by_cases c : g' = g
    · subst c; rw [drS_n] at hk; omega
    · rw [drS_o (by omega)] at hk; exact hk
  refine hR.hands hD (fun j hj => drS_o (by omega)) ?_ ?_ ?_ ?_ ?_
  · intro g' hg'
    by_cases c : g' = g
    · have := hR.hn g hg
      rw [c, drS_n]; omega
    · rw [drS_o (by omega)]; exact hR.hn g' hg'
  · intro g' hg' k hk
    have := hR.hn g' hg'
    have := lt hk
    rw [drS_o (by omega)]; exact hR.to g' hg' k (lt hk)
  · intro g' hg' k hk
    have := hR.hn g' hg'
    have := lt hk
    rw [drS_o (by omega), drS_o (by omega)]; exact hR.en g' hg' k (lt hk)
  · intro g' hg' j k hj hk
    have := hR.hn g' hg'
    have := lt hk
    rw [drS_o (by omega), drS_o (by omega)]; exact hR.ed g' hg' j k hj (lt hk)
  · intro k
    have := hR.big k
    have := hR.big (194 + 15 * g + 8)
    unfold drS
    split <;> omega
theorem k_addHandOn (hS : Sh h) (ha : a ∈ stL) (x : StR h a P T S) (hD : PlD T) (hR : RwD T S) {g p : Nat} {u : Nat} (hg : g < T 412 9) (h3 : S (194 + 15 * g + 8) < 3) :
    OK (m_X10_addHandOn a (nI g) (nI p) (nI u) h) (fun _ h1 => Fr (fun o => o = a + 6 ∨ o = a + 7 ∨ o = a + 8) h h1 ∧ StR h1 a P T (hdS S g p u)) := by
  have d1 := hD.nG
  have a1 := st_in a ha
  have S1 : Sh (h_si h (a + 7) (g * 3 + S (194 + 15 * g + 8)) (nI p)) := hS.si _ _ _
  have S2 : Sh (h_si (h_si h (a + 7) (g * 3 + S (194 + 15 * g + 8)) (nI p)) (a + 8) (g * 3 + S (194 + 15 * g + 8)) (nI u)) := S1.si _ _ _
  have e0 := x.hn g hg
  have e1 : h_iv (h_si h (a + 7) (g * 3 + S (194 + 15 * g + 8)) (nI p)) (a + 6) g = nI (S (194 + 15 * g + 8)) := by rw [si_ne (by omega)]; exact e0
  have e2 : h_iv (h_si (h_si h (a + 7) (g * 3 + S (194 + 15 * g + 8)) (nI p)) (a + 8) (g * 3 + S (194 + 15 * g + 8)) (nI u)) (a + 6) g = nI (S (194 + 15 * g + 8)) := by rw [si_ne (by omega), si_ne (by omega)]; exact e0
  simp (maxSteps := 3000000) (disch := first | assumption | omega) only [m_X10_addHandOn, bO_v, bR_v, bX_l, bX_r, bC_l, bC_r, aJ_v, aLet_v, nI_add, pk_mul, dvI_n, rmI_n, iMax_n, iMin_n, zO_0, zO_1, li_0, li_1, li_2, li_3, li_4, li_5, li_6, li_7, li_8, li_9, li_10, li_12, li_14, li_15, li_16, li_18, li_19, li_20, li_22, li_23, li_24, li_26, li_29, li_30, li_31, li_32, li_36, li_38, li_48, li_50, li_57, li_58, li_59, li_60, li_63, li_97, li_99, li_120, li_122, li_144, li_168, li_194, li_240, li_255, li_284, li_299, li_603, li_999, li_1200, li_1440, li_4095, li_4096, li_6030, li_16384, li_20160, zl0, zl1, zl2, zl3, zl4, ze01, ze02, ze03, ze04, ze10, ze12, ze13, ze14, ze20, ze21, ze23, ze24, ze30, ze31, ze32, ze34, ze40, ze41, ze42, ze43, zt0, zt1, zt2, zt3, zt4, zq0, zq1, zq2, zq3, zq4, it_t, it_f, Bool.true_eq_false, Bool.false_eq_true, na5, na4, na1441, na2, na10, sx_IOIA, sx_IOIS, sx_IONS, sx_IAIO, sx_IAIS, sx_IANS, sx_ISIO, sx_ISIA, sx_ISNS, sx_NSIO, sx_NSIA, sx_NSIS, s_cS_gi hS ha, s_cS_gL hS ha, s_cS_pi hS ha, s_cS_pL hS ha, s_cS_gS hS ha, s_clost_al hS ha, s_clost_as hS ha, s_clost_ln hS ha, s_cout_al hS ha, s_cout_as hS ha, s_cout_ln hS ha, s_cpaid_al hS ha, s_cpaid_as hS ha, s_cpaid_ln hS ha, s_ctrust_al hS ha, s_ctrust_as hS ha, s_ctrust_ln hS ha, s_crot_al hS ha, s_crot_as hS ha, s_crot_ln hS ha, s_chands_al hS ha, s_chands_as hS ha, s_chands_ln hS ha, s_cto_al hS ha, s_cto_as hS ha, s_cto_ln hS ha, s_cends_al hS ha, s_cends_as hS ha, s_cends_ln hS ha, s_cret_al hS ha, s_cret_as hS ha, s_cret_ln hS ha, s_ccrew_al hS ha, s_ccrew_as hS ha, s_ccrew_ln hS ha, s_cL_gi hS ha, s_cL_gL hS ha, s_cL_pi hS ha, s_cL_pL hS ha, s_cL_gS hS ha, s_clcosts_al hS ha, s_clcosts_as hS ha, s_clcosts_ln hS ha, s_clcomers_al hS ha, s_clcomers_as hS ha, s_clcomers_ln hS ha, s_clleavers_al hS ha, s_clleavers_as hS ha, s_clleavers_ln hS ha, s_clengs_al hS ha, s_clengs_as hS ha, s_clengs_ln hS ha, s_cltimes_al hS ha, s_cltimes_as hS ha, s_cltimes_ln hS ha, s_clcrews_al hS ha, s_clcrews_as hS ha, s_clcrews_ln hS ha, s_cbest_al hS ha, s_cbest_as hS ha, s_cbest_ln hS ha, s_plost hS ha, s_pout hS ha, s_ppaid hS ha, s_ptrust hS ha, s_prot hS ha, s_phands hS ha, s_pto hS ha, s_pends hS ha, s_pret hS ha, s_pcrew hS ha, s_plog hS ha, s_plcosts hS ha, s_plcomers hS ha, s_plleavers hS ha, s_plengs hS ha, s_pltimes hS ha, s_plcrews hS ha, s_pbest hS ha, s_cS_gi S1 ha, s_cS_gL S1 ha, s_cS_pi S1 ha, s_cS_pL S1 ha, s_cS_gS S1 ha, s_clost_al S1 ha, s_clost_as S1 ha, s_clost_ln S1 ha, s_cout_al S1 ha, s_cout_as S1 ha, s_cout_ln S1 ha, s_cpaid_al S1 ha, s_cpaid_as S1 ha, s_cpaid_ln S1 ha, s_ctrust_al S1 ha, s_ctrust_as S1 ha, s_ctrust_ln S1 ha, s_crot_al S1 ha, s_crot_as S1 ha, s_crot_ln S1 ha, s_chands_al S1 ha, s_chands_as S1 ha, s_chands_ln S1 ha, s_cto_al S1 ha, s_cto_as S1 ha, s_cto_ln S1 ha, s_cends_al S1 ha, s_cends_as S1 ha, s_cends_ln S1 ha, s_cret_al S1 ha, s_cret_as S1 ha, s_cret_ln S1 ha, s_ccrew_al S1 ha, s_ccrew_as S1 ha, s_ccrew_ln S1 ha, s_cL_gi S1 ha, s_cL_gL S1 ha, s_cL_pi S1 ha, s_cL_pL S1 ha, s_cL_gS S1 ha, s_clcosts_al S1 ha, s_clcosts_as S1 ha, s_clcosts_ln S1 ha, s_clcomers_al S1 ha, s_clcomers_as S1 ha, s_clcomers_ln S1 ha, s_clleavers_al S1 ha, s_clleavers_as S1 ha, s_clleavers_ln S1 ha, s_clengs_al S1 ha, s_clengs_as S1 ha, s_clengs_ln S1 ha, s_cltimes_al S1 ha, s_cltimes_as S1 ha, s_cltimes_ln S1 ha, s_clcrews_al S1 ha, s_clcrews_as S1 ha, s_clcrews_ln S1 ha, s_cbest_al S1 ha, s_cbest_as S1 ha, s_cbest_ln S1 ha, s_plost S1 ha, s_pout S1 ha, s_ppaid S1 ha, s_ptrust S1 ha, s_prot S1 ha, s_phands S1 ha, s_pto S1 ha, s_pends S1 ha, s_pret S1 ha, s_pcrew S1 ha, s_plog S1 ha, s_plcosts S1 ha, s_plcomers S1 ha, s_plleavers S1 ha, s_plengs S1 ha, s_pltimes S1 ha, s_plcrews S1 ha, s_pbest S1 ha, s_cS_gi S2 ha, s_cS_gL S2 ha, s_cS_pi S2 ha, s_cS_pL S2 ha, s_cS_gS S2 ha, s_clost_al S2 ha, s_clost_as S2 ha, s_clost_ln S2 ha, s_cout_al S2 ha, s_cout_as S2 ha, s_cout_ln S2 ha, s_cpaid_al S2 ha, s_cpaid_as S2 ha, s_cpaid_ln S2 ha, s_ctrust_al S2 ha, s_ctrust_as S2 ha, s_ctrust_ln S2 ha, s_crot_al S2 ha, s_crot_as S2 ha, s_crot_ln S2 ha, s_chands_al S2 ha, s_chands_as S2 ha, s_chands_ln S2 ha, s_cto_al S2 ha, s_cto_as S2 ha, s_cto_ln S2 ha, s_cends_al S2 ha, s_cends_as S2 ha, s_cends_ln S2 ha, s_cret_al S2 ha, s_cret_as S2 ha, s_cret_ln S2 ha, s_ccrew_al S2 ha, s_ccrew_as S2 ha, s_ccrew_ln S2 ha, s_cL_gi S2 ha, s_cL_gL S2 ha, s_cL_pi S2 ha, s_cL_pL S2 ha, s_cL_gS S2 ha, s_clcosts_al S2 ha, s_clcosts_as S2 ha, s_clcosts_ln S2 ha, s_clcomers_al S2 ha, s_clcomers_as S2 ha, s_clcomers_ln S2 ha, s_clleavers_al S2 ha, s_clleavers_as S2 ha, s_clleavers_ln S2 ha, s_clengs_al S2 ha, s_clengs_as S2 ha, s_clengs_ln S2 ha, s_cltimes_al S2 ha, s_cltimes_as S2 ha, s_cltimes_ln S2 ha, s_clcrews_al S2 ha, s_clcrews_as S2 ha, s_clcrews_ln S2 ha, s_cbest_al S2 ha, s_cbest_as S2 ha, s_cbest_ln S2 ha, s_plost S2 ha, s_pout S2 ha, s_ppaid S2 ha, s_ptrust S2 ha, s_prot S2 ha, s_phands S2 ha, s_pto S2 ha, s_pends S2 ha, s_pret S2 ha, s_pcrew S2 ha, s_plog S2 ha, s_plcosts S2 ha, s_plcomers S2 ha, s_plleavers S2 ha, s_plengs S2 ha, s_pltimes S2 ha, s_plcrews S2 ha, s_pbest S2 ha, e0, e1, e2, nI_ltI, h3]
  refine ok_ret ⟨((Fr.si (Or.inr (Or.inl rfl))).trans (Fr.si (Or.inr (Or.inr rfl)))).trans (Fr.si (Or.inl rfl)), ?_⟩
  have far : ∀ {g' j : Nat}, g' ≠ g → 194 + 15 * g' ≤ j → j < 194 + 15 * g' + 15 → hdS S g p u j = S j := fun q1 q2 q3 => hdS_o h3 (by omega)
  refine x.hands hD hR rfl (fun o k q1 q2 q3 => ?_) (fun j hj => hdS_o h3 (by omega)) ?_ ?_ ?_
  · rw [si_ne (by omega), si_ne (by omega), si_ne (by omega)]
  · intro g' hg'
    by_cases c : g' = g
    · rw [c, hdS_n, si_at]
    · rw [far c (by omega) (by omega), si_ne (by omega), si_ne (by omega), si_ne (by omega)]; exact x.hn g' hg'
  · intro g' hg' k hk
    by_cases c : g' = g
    · subst c
      rw [hdS_n] at hk
      rw [hdS_t h3 (by omega), si_ne (by omega), si_ne (by omega)]
      by_cases c2 : k = S (194 + 15 * g' + 8)
      · rw [if_pos c2, c2, si_at]
      · rw [if_neg c2, si_ne (by omega)]; exact x.to g' hg' k (by omega)
    · have := hR.hn g' hg'
      rw [far c (by omega) (by omega)] at hk
      rw [far c (by omega) (by omega), si_ne (by omega), si_ne (by omega), si_ne (by omega)]; exact x.to g' hg' k hk
  · intro g' hg' k hk
    by_cases c : g' = g
    · subst c
      rw [hdS_n] at hk
      rw [hdS_e h3 (by omega), si_ne (by omega)]
      by_cases c2 : k = S (194 + 15 * g' + 8)
      · rw [if_pos c2, c2, si_at]
      · rw [if_neg c2, si_ne (by omega), si_ne (by omega)]; exact x.en g' hg' k (by omega)
    · have := hR.hn g' hg'
      rw [far c (by omega) (by omega)] at hk
      rw [far c (by omega) (by omega), si_ne (by omega), si_ne (by omega), si_ne (by omega)]; exact x.en g' hg' k hk
theorem k_dropHandOn (hS : Sh h) (ha : a ∈ stL) (x : StR h a P T S) (hD : PlD T) (hR : RwD T S) {g : Nat} (hg : g < T 412 9) :
    OK (m_X10_dropHandOn a (nI g) h) (fun _ h1 => Fr (fun o => o = a + 6) h h1 ∧ StR h1 a P T (drS S g)) := by
  have d1 := hD.nG
  have a1 := st_in a ha
  have r1 := hR.hn g hg
  have im : iMax (nI 0) (nI (S (194 + 15 * g + 8)) - nI 1) = nI (S (194 + 15 * g + 8) - 1) := iMax0_sub (by omega) (by omega)
  simp (maxSteps := 3000000) (disch := first | assumption | omega) only [m_X10_dropHandOn, bO_v, bR_v, bX_l, bX_r, bC_l, bC_r, aJ_v, aLet_v, nI_add, pk_mul, dvI_n, rmI_n, iMax_n, iMin_n, zO_0, zO_1, li_0, li_1, li_2, li_3, li_4, li_5, li_6, li_7, li_8, li_9, li_10, li_12, li_14, li_15, li_16, li_18, li_19, li_20, li_22, li_23, li_24, li_26, li_29, li_30, li_31, li_32, li_36, li_38, li_48, li_50, li_57, li_58, li_59, li_60, li_63, li_97, li_99, li_120, li_122, li_144, li_168, li_194, li_240, li_255, li_284, li_299, li_603, li_999, li_1200, li_1440, li_4095, li_4096, li_6030, li_16384, li_20160, zl0, zl1, zl2, zl3, zl4, ze01, ze02, ze03, ze04, ze10, ze12, ze13, ze14, ze20, ze21, ze23, ze24, ze30, ze31, ze32, ze34, ze40, ze41, ze42, ze43, zt0, zt1, zt2, zt3, zt4, zq0, zq1, zq2, zq3, zq4, it_t, it_f, Bool.true_eq_false, Bool.false_eq_true, na5, na4, na1441, na2, na10, sx_IOIA, sx_IOIS, sx_IONS, sx_IAIO, sx_IAIS, sx_IANS, sx_ISIO, sx_ISIA, sx_ISNS, sx_NSIO, sx_NSIA, sx_NSIS, s_cS_gi hS ha, s_cS_gL hS ha, s_cS_pi hS ha, s_cS_pL hS ha, s_cS_gS hS ha, s_clost_al hS ha, s_clost_as hS ha, s_clost_ln hS ha, s_cout_al hS ha, s_cout_as hS ha, s_cout_ln hS ha, s_cpaid_al hS ha, s_cpaid_as hS ha, s_cpaid_ln hS ha, s_ctrust_al hS ha, s_ctrust_as hS ha, s_ctrust_ln hS ha, s_crot_al hS ha, s_crot_as hS ha, s_crot_ln hS ha, s_chands_al hS ha, s_chands_as hS ha, s_chands_ln hS ha, s_cto_al hS ha, s_cto_as hS ha, s_cto_ln hS ha, s_cends_al hS ha, s_cends_as hS ha, s_cends_ln hS ha, s_cret_al hS ha, s_cret_as hS ha, s_cret_ln hS ha, s_ccrew_al hS ha, s_ccrew_as hS ha, s_ccrew_ln hS ha, s_cL_gi hS ha, s_cL_gL hS ha, s_cL_pi hS ha, s_cL_pL hS ha, s_cL_gS hS ha, s_clcosts_al hS ha, s_clcosts_as hS ha, s_clcosts_ln hS ha, s_clcomers_al hS ha, s_clcomers_as hS ha, s_clcomers_ln hS ha, s_clleavers_al hS ha, s_clleavers_as hS ha, s_clleavers_ln hS ha, s_clengs_al hS ha, s_clengs_as hS ha, s_clengs_ln hS ha, s_cltimes_al hS ha, s_cltimes_as hS ha, s_cltimes_ln hS ha, s_clcrews_al hS ha, s_clcrews_as hS ha, s_clcrews_ln hS ha, s_cbest_al hS ha, s_cbest_as hS ha, s_cbest_ln hS ha, s_plost hS ha, s_pout hS ha, s_ppaid hS ha, s_ptrust hS ha, s_prot hS ha, s_phands hS ha, s_pto hS ha, s_pends hS ha, s_pret hS ha, s_pcrew hS ha, s_plog hS ha, s_plcosts hS ha, s_plcomers hS ha, s_plleavers hS ha, s_plengs hS ha, s_pltimes hS ha, s_plcrews hS ha, s_pbest hS ha, x.hn g hg, im]
  refine ok_ret ⟨Fr.si rfl, ?_⟩
  have lt : ∀ {g' k : Nat}, k < drS S g (194 + 15 * g' + 8) → k < S (194 + 15 * g' + 8) := fun {g' k} hk => by
    by_cases c : g' = g
    · subst c; rw [drS_n] at hk; omega
    · rw [drS_o (by omega)] at hk; exact hk
  refine x.hands hD hR rfl (fun o k q1 q2 q3 => ?_) (fun j hj => drS_o (by omega)) ?_ ?_ ?_
  · rw [si_ne (by omega)]
  · intro g' hg'
    by_cases c : g' = g
    · rw [c, drS_n, si_at]
    · rw [drS_o (by omega), si_ne (by omega)]; exact x.hn g' hg'
  · intro g' hg' k hk
    have := hR.hn g' hg'
    have := lt hk
    rw [drS_o (by omega), si_ne (by omega)]; exact x.to g' hg' k (lt hk)
  · intro g' hg' k hk
    have := hR.hn g' hg'
    have := lt hk
    rw [drS_o (by omega), si_ne (by omega)]; exact x.en g' hg' k (lt hk)
theorem r_hands_ (hS : Sh h) {g p u : Nat} (hg : g < 6) (hw : ∀ j, h_iv h 413 j = nI (S j)) (h3 : S (194 + 15 * g + 8) < 3) : OK (m_X12_hands_ 412 (nI g) (nI p) (nI u) h) (fun _ h1 => RW h h1 (hdS S g p u)) := by
  have e0 := hw (194 + 15 * g + 8)
  have S1 : Sh (h_si h 413 (194 + 15 * g + 9 + S (194 + 15 * g + 8)) (nI p)) := hS.si _ _ _
  have S2 : Sh (h_si (h_si h 413 (194 + 15 * g + 9 + S (194 + 15 * g + 8)) (nI p)) 413 (194 + 15 * g + 12 + S (194 + 15 * g + 8)) (nI u)) := S1.si _ _ _
  have e1 : h_iv (h_si h 413 (194 + 15 * g + 9 + S (194 + 15 * g + 8)) (nI p)) 413 (194 + 15 * g + 8) = nI (S (194 + 15 * g + 8)) := by rw [si_ne (by omega)]; exact e0
  have e2 : h_iv (h_si (h_si h 413 (194 + 15 * g + 9 + S (194 + 15 * g + 8)) (nI p)) 413 (194 + 15 * g + 12 + S (194 + 15 * g + 8)) (nI u)) 413 (194 + 15 * g + 8) = nI (S (194 + 15 * g + 8)) := by rw [si_ne (by omega), si_ne (by omega)]; exact e0
  simp (maxSteps := 3000000) (disch := first | assumption | omega) only [m_X12_hands_, bO_v, bR_v, bX_l, bX_r, bC_l, bC_r, aJ_v, aLet_v, nI_add, pk_mul, dvI_n, rmI_n, iMax_n, iMin_n, zO_0, zO_1, li_0, li_1, li_2, li_3, li_4, li_5, li_6, li_7, li_8, li_9, li_10, li_12, li_14, li_15, li_16, li_18, li_19, li_20, li_22, li_23, li_24, li_26, li_29, li_30, li_31, li_32, li_36, li_38, li_48, li_50, li_57, li_58, li_59, li_60, li_63, li_97, li_99, li_120, li_122, li_144, li_168, li_194, li_240, li_255, li_284, li_299, li_603, li_999, li_1200, li_1440, li_4095, li_4096, li_6030, li_16384, li_20160, zl0, zl1, zl2, zl3, zl4, ze01, ze02, ze03, ze04, ze10, ze12, ze13, ze14, ze20, ze21, ze23, ze24, ze30, ze31, ze32, ze34, ze40, ze41, ze42, ze43, zt0, zt1, zt2, zt3, zt4, zq0, zq1, zq2, zq3, zq4, it_t, it_f, Bool.true_eq_false, Bool.false_eq_true, na5, na4, na1441, na2, na10, sx_IOIA, sx_IOIS, sx_IONS, sx_IAIO, sx_IAIS, sx_IANS, sx_ISIO, sx_ISIA, sx_ISNS, sx_NSIO, sx_NSIA, sx_NSIS, r_p413 hS, r_c413_al hS, r_c413_as hS, r_p413 S1, r_c413_al S1, r_c413_as S1, r_p413 S2, r_c413_al S2, r_c413_as S2, e0, e1, e2]
  refine ok_ret ⟨((Fr.si (A := fun o => o = 413) rfl).trans (Fr.si rfl)).trans (Fr.si rfl), fun j => ?_⟩
  unfold hdS
  by_cases c1 : j = 194 + 15 * g + 8
  · rw [if_pos c1, c1, si_at]
  · rw [if_neg c1, si_ne (by omega)]
    by_cases c2 : j = 194 + 15 * g + 9 + S (194 + 15 * g + 8)
    · rw [if_pos c2, c2, si_ne (by omega), si_at]
    · rw [if_neg c2]
      by_cases c3 : j = 194 + 15 * g + 12 + S (194 + 15 * g + 8)
      · rw [if_pos c3, c3, si_at]
      · rw [if_neg c3, si_ne (by omega), si_ne (by omega)]; exact hw j
/-- reasons read no garbage -/
theorem link_ext (hD : PlD T) {S' : Nat → Nat} (e : ∀ j, ¬ garb S j → S' j = S j) {g k : Nat} (hg : g < T 412 9) (h3 : S (194 + 15 * g + 8) ≤ 3) (hk : k ≤ S (194 + 15 * g + 8)) : link T S' g k = link T S g k := by
  have d1 := hD.nG
  have d := hD.plc g hg
  have m1 : S 0 / T 423 g % T 424 g < T 424 g := Nat.mod_lt _ (by omega)
  unfold link own
  rw [e 0 (ng (by omega) (by omega))]
  by_cases c : k = 0
  · rw [if_pos c, if_pos c, e _ (ng (by omega) (by omega))]
  · rw [if_neg c, if_neg c, e _ (ngt (by omega) (by omega) (by omega))]
theorem endA_ext {S' : Nat → Nat} (hD : PlD T) (hR : RwD T S) (hR' : RwD T S') (e : ∀ j, ¬ garb S j → S' j = S j) {g : Nat} (hg : g < T 412 9) : endA T S' g (S' 0) = endA T S g (S 0) := by
  have d1 := hD.nG
  have h3 := hR.hn g hg
  have l1 := lst_now hR hg
  have l2 := lst_now hR' hg
  have en : S' (194 + 15 * g + 8) = S (194 + 15 * g + 8) := e _ (ng (by omega) (by omega))
  unfold endA
  rw [l1, l2, en, e 0 (ng (by omega) (by omega))]
  by_cases c : S (194 + 15 * g + 8) = 0
  · rw [if_pos c, if_pos c]
  · rw [if_neg c, if_neg c, e _ (nge (by omega) (by omega) (by omega))]
theorem anyB_cong {p q : Nat → Bool} : ∀ {n : Nat}, (∀ k, k < n → p k = q k) → anyB p n = anyB q n
  | 0, _ => rfl
  | n + 1, h => by rw [anyB, anyB, anyB_cong (fun k hk => h k (by omega)), h n (by omega)]
theorem rsn_ext (hD : PlD T) (hR : RwD T S) {S' : Nat → Nat} (hR' : RwD T S') (e : ∀ j, ¬ garb S j → S' j = S j) {g p : Nat} (hg : g < T 412 9) (hp : p < T 412 8) (u : Int32) : rsn T S' g p u = rsn T S g p u := by
  have d0 := hD.nP
  have d1 := hD.nG
  have h3 := hR.hn g hg
  have en : S' (194 + 15 * g + 8) = S (194 + 15 * g + 8) := e _ (ng (by omega) (by omega))
  have e0 : S' 0 = S 0 := e _ (ng (by omega) (by omega))
  have io : ∀ q, q < T 412 8 → isO S' q = isO S q := fun q hq => by unfold isO; rw [e0, e _ (ng (by omega) (by omega))]
  have it : isT T S' p = isT T S p := by unfold isT; rw [e _ (ng (by omega) (by omega))]
  have ic : inC T S' g p = inC T S g p := by
    unfold inC
    rw [en]
    exact anyB_cong (fun k hk => by rw [link_ext hD e hg h3 (by omega)])
  have db : dbt T S' g p = dbt T S g p := by
    unfold dbt
    rw [en]
    refine anyB_cong (fun k hk => ?_)
    have l := link_lt hD hR hg (show k ≤ S (194 + 15 * g + 8) by omega)
    rw [link_ext hD e hg h3 (by omega), e _ (ng (by omega) (by omega))]
  unfold rsn
  rw [en, e0, link_ext hD e hg h3 (Nat.le_refl _), io _ (link_lt hD hR hg (Nat.le_refl _)), ic, e (26 + p) (ng (by omega) (by omega)), io p hp, it, db]
  have ea := endA_ext hD hR hR' e hg
  rw [e0] at ea
  rw [ea]
theorem garb_tr {S' S'' : Nat → Nat} (e : ∀ j, ¬ garb S j → S' j = S j) (e2 : ∀ j, ¬ garb S' j → S'' j = S' j) : ∀ j, ¬ garb S j → S'' j = S j := fun j hj => by
  rw [e2 j (fun q => hj ?_), e j hj]
  rcases q with q | ⟨g, k, q1, q2, q3, q4⟩
  · exact Or.inl q
  · exact Or.inr ⟨g, k, q1, by rw [← e _ (ng (by omega) (by omega))]; exact q2, q3, q4⟩
/-- added and dropped: only garbage is new -/
theorem hd_dr (hD : PlD T) {g p u : Nat} (hg : g < T 412 9) (h3 : S (194 + 15 * g + 8) < 3) : ∀ j, ¬ garb S j → drS (hdS S g p u) g j = S j := fun j hj => by
  have d1 := hD.nG
  by_cases c : j = 194 + 15 * g + 8
  · rw [c, drS_n, hdS_n]; omega
  · rw [drS_o c]
    unfold hdS
    rw [if_neg c]
    by_cases c2 : j = 194 + 15 * g + 9 + S (194 + 15 * g + 8)
    · exact absurd (Or.inr ⟨g, S (194 + 15 * g + 8), by omega, Nat.le_refl _, h3, Or.inl c2⟩) hj
    · rw [if_neg c2]
      by_cases c3 : j = 194 + 15 * g + 12 + S (194 + 15 * g + 8)
      · exact absurd (Or.inr ⟨g, S (194 + 15 * g + 8), by omega, Nat.le_refl _, h3, Or.inr c3⟩) hj
      · rw [if_neg c3]
theorem hdS_b (hR : RwD T S) {g p u : Nat} (hp : p < 1000000) (hu : u < 1000000) (j : Nat) : hdS S g p u j < 2147483648 := by
  have := hR.big j
  have := hR.big (194 + 15 * g + 8)
  unfold hdS
  (repeat' split) <;> omega
end
