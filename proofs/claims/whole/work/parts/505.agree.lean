/-! a plan in the spec's numbers, and in the reference's -/
def AG (M T : Nat → Nat → Nat) : Prop := T 412 8 = M 412 8 ∧ T 412 9 = M 412 9 ∧ T 412 10 = M 412 10 ∧ T 412 11 = M 412 11 ∧ ∀ o k, fil M o k → o < 435 → T o k = M o k
section
variable {M T : Nat → Nat → Nat}
theorem fil_n {k : Nat} (hk : k < 4) : fil M 418 k := Or.inl ⟨rfl, hk⟩
theorem fil_p {o k : Nat} (ho : o = 420 ∨ o = 421) (hk : k < M 412 8) : fil M o k := Or.inr (Or.inl ⟨ho, hk⟩)
theorem fil_g {o k : Nat} (ho : o = 422 ∨ o = 423 ∨ o = 424) (hk : k < M 412 9) : fil M o k := Or.inr (Or.inr (Or.inl ⟨ho, hk⟩))
theorem fil_e {o k : Nat} (ho : o = 425 ∨ o = 426) (hk : k < M 412 10) : fil M o k := Or.inr (Or.inr (Or.inr (Or.inr (Or.inl ⟨ho, hk⟩))))
theorem fil_k {o k : Nat} (ho : o = 428 ∨ o = 429 ∨ o = 430 ∨ o = 431 ∨ o = 433) (hk : k < M 412 11) : fil M o k := Or.inr (Or.inr (Or.inr (Or.inr (Or.inr (Or.inr (Or.inl ⟨ho, hk⟩))))))
theorem fil_427 {e k : Nat} (he : e < M 412 10) (hk : k < M 426 e) (h6 : M 426 e ≤ 6) : fil M 427 (6 * e + k) := by
  have e1 : (6 * e + k) / 6 = e := by omega
  have e2 : (6 * e + k) % 6 = k := by omega
  refine Or.inr (Or.inr (Or.inr (Or.inr (Or.inr (Or.inl ⟨rfl, ?_, ?_⟩)))))
  · rw [e1]; exact he
  · rw [e1, e2]; exact hk
theorem fil_432 {e k : Nat} (he : e < M 412 11) (hk : k < M 431 e) (h6 : M 431 e ≤ 6) : fil M 432 (6 * e + k) := by
  have e1 : (6 * e + k) / 6 = e := by omega
  have e2 : (6 * e + k) % 6 = k := by omega
  refine Or.inr (Or.inr (Or.inr (Or.inr (Or.inr (Or.inr (Or.inr (Or.inl ⟨rfl, ?_, ?_⟩)))))))
  · rw [e1]; exact he
  · rw [e1, e2]; exact hk
theorem fil_434 {e k : Nat} (he : e < M 412 11) (hk : k < M 433 e) (h6 : M 433 e ≤ 5) : fil M 434 (5 * e + k) := by
  have e1 : (5 * e + k) / 5 = e := by omega
  have e2 : (5 * e + k) % 5 = k := by omega
  refine Or.inr (Or.inr (Or.inr (Or.inr (Or.inr (Or.inr (Or.inr (Or.inr ⟨rfl, ?_, ?_⟩)))))))
  · rw [e1]; exact he
  · rw [e1, e2]; exact hk
theorem PlD.ag (hD : PlD M) (a : AG M T) : PlD T := by
  obtain ⟨c8, c9, c10, c11, e⟩ := a
  have eN : ∀ k, k < 4 → T 418 k = M 418 k := fun k hk => e _ _ (fil_n hk) (by omega)
  have e420 : ∀ k, k < M 412 8 → T 420 k = M 420 k := fun k hk => e _ _ (fil_p (by omega) hk) (by omega)
  have e421 : ∀ k, k < M 412 8 → T 421 k = M 421 k := fun k hk => e _ _ (fil_p (by omega) hk) (by omega)
  have e422 : ∀ k, k < M 412 9 → T 422 k = M 422 k := fun k hk => e _ _ (fil_g (by omega) hk) (by omega)
  have e423 : ∀ k, k < M 412 9 → T 423 k = M 423 k := fun k hk => e _ _ (fil_g (by omega) hk) (by omega)
  have e424 : ∀ k, k < M 412 9 → T 424 k = M 424 k := fun k hk => e _ _ (fil_g (by omega) hk) (by omega)
  have e425 : ∀ k, k < M 412 10 → T 425 k = M 425 k := fun k hk => e _ _ (fil_e (by omega) hk) (by omega)
  have e426 : ∀ k, k < M 412 10 → T 426 k = M 426 k := fun k hk => e _ _ (fil_e (by omega) hk) (by omega)
  have e428 : ∀ k, k < M 412 11 → T 428 k = M 428 k := fun k hk => e _ _ (fil_k (by omega) hk) (by omega)
  have e429 : ∀ k, k < M 412 11 → T 429 k = M 429 k := fun k hk => e _ _ (fil_k (by omega) hk) (by omega)
  have e430 : ∀ k, k < M 412 11 → T 430 k = M 430 k := fun k hk => e _ _ (fil_k (by omega) hk) (by omega)
  have e431 : ∀ k, k < M 412 11 → T 431 k = M 431 k := fun k hk => e _ _ (fil_k (by omega) hk) (by omega)
  have e433 : ∀ k, k < M 412 11 → T 433 k = M 433 k := fun k hk => e _ _ (fil_k (by omega) hk) (by omega)
  refine ⟨?_, ?_, ?_, ?_, ?_, ?_, ?_, ?_, ?_, fun u hu => ?_, fun u hu => ?_, fun u hu => ?_, fun u hu => ?_, fun u hu => ?_, fun u hu => ?_, fun u hu => ?_, fun u hu v hv => ?_, fun u hu => ?_, fun u hu => ?_, fun u hu => ?_, fun u hu => ?_, fun u hu v hv => ?_, fun u hu => ?_, fun u hu v hv => ?_, fun u hu i j hij hj => ?_⟩
  · rw [eN _ (by omega)]; exact hD.b
  · rw [eN _ (by omega)]; exact hD.e
  · rw [eN _ (by omega), eN _ (by omega)]; exact hD.be
  · rw [eN _ (by omega)]; exact hD.wk
  · rw [eN _ (by omega)]; exact hD.lim
  · rw [c8]; exact hD.nP
  · rw [c9]; exact hD.nG
  · rw [c10]; exact hD.nE
  · rw [c11]; exact hD.nK
  · rw [c8] at hu; rw [e420 u hu]; exact hD.trv u hu
  · rw [c8] at hu; rw [e421 u hu]; exact hD.skl u hu
  · rw [c9] at hu; rw [e422 u hu]; exact hD.dem u hu
  · rw [c9] at hu; rw [e423 u hu]; exact hD.trn u hu
  · rw [c9] at hu; rw [e424 u hu]; exact hD.plc u hu
  · rw [c10] at hu; rw [e425 u hu]; exact hD.drv u hu
  · rw [c10] at hu; rw [e426 u hu]; exact hD.pst u hu
  · rw [c10] at hu; rw [e426 u hu] at hv
    rw [e _ _ (fil_427 hu hv (hD.pst u hu).2) (by omega)]; exact hD.psk u hu v hv
  · rw [c11] at hu; rw [e428 u hu]; exact hD.dur u hu
  · rw [c11] at hu; rw [e429 u hu]; exact hD.pat u hu
  · rw [c11] at hu; rw [e430 u hu]; exact hD.ned u hu
  · rw [c11] at hu; rw [e431 u hu]; exact hD.kgn u hu
  · rw [c11] at hu; rw [e431 u hu] at hv
    rw [e _ _ (fil_432 hu hv (hD.kgn u hu)) (by omega), c9]; exact hD.kg u hu v hv
  · rw [c11] at hu; rw [e433 u hu]; exact hD.ken u hu
  · rw [c11] at hu; rw [e433 u hu] at hv
    rw [e _ _ (fil_434 hu hv (hD.ken u hu)) (by omega), c10]; exact hD.ke u hu v hv
  · rw [c11] at hu; rw [e433 u hu] at hj
    rw [e _ _ (fil_434 hu (show i < M 433 u by omega) (hD.ken u hu)) (by omega), e _ _ (fil_434 hu hj (hD.ken u hu)) (by omega)]; exact hD.ked u hu i j hij hj
theorem PlR.ag {h : aH} {P : Nat} (x : PlR h P M) (hD : PlD M) (a : AG M T) : PlR h P T := by
  obtain ⟨c8, c9, c10, c11, e⟩ := a
  refine ⟨fun j hj => ?_, ?_, ?_, ?_, ?_, fun u hu => ?_, fun u hu => ?_, fun u hu => ?_, fun u hu => ?_, fun u hu => ?_, fun u hu => ?_, fun u hu => ?_, fun u hu v hv => ?_, fun u hu v hv => ?_, fun u hu => ?_, fun u hu => ?_, fun u hu => ?_, fun u hu => ?_, fun u hu v hv => ?_, fun u hu => ?_, fun u hu v hv => ?_, fun k hk => ?_⟩
  · rw [e _ _ (fil_n hj) (by omega)]; exact x.ni j hj
  · rw [c8]; exact x.nP
  · rw [c9]; exact x.nG
  · rw [c10]; exact x.nE
  · rw [c11]; exact x.nK
  · rw [c8] at hu; rw [e _ _ (fil_p (by omega) hu) (by omega)]; exact x.trv u hu
  · rw [c8] at hu; rw [e _ _ (fil_p (by omega) hu) (by omega)]; exact x.skl u hu
  · rw [c9] at hu; rw [e _ _ (fil_g (by omega) hu) (by omega)]; exact x.dem u hu
  · rw [c9] at hu; rw [e _ _ (fil_g (by omega) hu) (by omega)]; exact x.trn u hu
  · rw [c9] at hu; rw [e _ _ (fil_g (by omega) hu) (by omega)]; exact x.plc u hu
  · rw [c10] at hu; rw [e _ _ (fil_e (by omega) hu) (by omega)]; exact x.drv u hu
  · rw [c10] at hu; rw [e _ _ (fil_e (by omega) hu) (by omega)]; exact x.pst u hu
  · rw [c10] at hu; rw [e 426 u (fil_e (by omega) hu) (by omega)] at hv
    rw [e _ _ (fil_427 hu hv (hD.pst u hu).2) (by omega)]; exact x.psk u hu v hv
  · rw [c10] at hu; rw [e 426 u (fil_e (by omega) hu) (by omega), x.dmd u hu v hv]
    congr 1
    exact fb_ct_cong (fun j hj => by rw [e _ _ (fil_427 hu hj (hD.pst u hu).2) (by omega)])
  · rw [c11] at hu; rw [e _ _ (fil_k (by omega) hu) (by omega)]; exact x.dur u hu
  · rw [c11] at hu; rw [e _ _ (fil_k (by omega) hu) (by omega)]; exact x.pat u hu
  · rw [c11] at hu; rw [e _ _ (fil_k (by omega) hu) (by omega)]; exact x.ned u hu
  · rw [c11] at hu; rw [e _ _ (fil_k (by omega) hu) (by omega)]; exact x.kgn u hu
  · rw [c11] at hu; rw [e 431 u (fil_k (by omega) hu) (by omega)] at hv
    rw [e _ _ (fil_432 hu hv (hD.kgn u hu)) (by omega)]; exact x.kg u hu v hv
  · rw [c11] at hu; rw [e _ _ (fil_k (by omega) hu) (by omega)]; exact x.ken u hu
  · rw [c11] at hu; rw [e 433 u (fil_k (by omega) hu) (by omega)] at hv
    rw [e _ _ (fil_434 hu hv (hD.ken u hu)) (by omega)]; exact x.ke u hu v hv
  · rw [c8, x.able k hk]
    congr 1
    exact mk_cong (fun p hp => by rw [e 421 p (fil_p (by omega) hp) (by omega)])
/-- the row that the reference lays, where it matters -/
def RG (M : Nat → Nat → Nat) (S : Nat → Nat) : Prop := (∀ j, j < 603 → ¬ (194 ≤ j ∧ j < 284 ∧ (j - 194) % 15 < 8) → S j = rwM M j) ∧ ∀ g, g < M 412 9 → ∀ q, q < M 424 g → S (194 + 15 * g + q) = M 445 (8 * g + q)
theorem RG.z {S : Nat → Nat} (r : RG M S) {j : Nat} (h : j < 50 ∨ (284 ≤ j ∧ j < 603)) : S j = 0 := by
  rw [r.1 j (by omega) (by omega)]; exact rwM_0 (by omega)
theorem RG.h {S : Nat → Nat} (r : RG M S) {g c : Nat} (hg : g < 6) (h1 : 8 ≤ c) (h2 : c < 15) : S (194 + 15 * g + c) = 0 := by
  rw [r.1 _ (by omega) (by omega)]; exact rwM_h hg h1 h2
theorem StR.ag {h : aH} {a P : Nat} {S : Nat → Nat} (x : StR h a P M (rwM M)) (hD : PlD M) (A : AG M T) (r : RG M S) : StR h a P T S := by
  obtain ⟨c8, c9, c10, c11, e⟩ := A
  have d0 := hD.nP
  have d1 := hD.nG
  have d2 := hD.nE
  have s1 : S 1 = 0 := r.z (by omega)
  have z1 : ∀ {c}, c < S 1 → False := fun q => by rw [s1] at q; omega
  have zh : ∀ {g k}, g < M 412 9 → k < S (194 + 15 * g + 8) → False := fun hg q => by rw [r.h (by omega) (by omega) (by omega)] at q; omega
  refine ⟨x.pl, ?_, fun u hu => ?_, fun u hu => ?_, fun u hu => ?_, ?_, fun u hu v hv => ?_, fun u hu v hv => ?_, fun u hu => ?_, fun u hu k hk => ?_, fun u hu k hk => ?_, fun u hu => ?_, fun u hu k => ?_, ?_, ?_, fun _ q => (z1 q).elim, ?_, fun _ q => (z1 q).elim, fun _ q => (z1 q).elim, fun _ q => (z1 q).elim, fun _ q => (z1 q).elim, fun _ q => (z1 q).elim⟩
  · have := x.tm
    rw [rwM_0 (by omega)] at this
    rw [r.z (by omega)]; exact this
  · rw [c8] at hu
    have := x.lost u hu
    rw [rwM_0 (by omega)] at this
    rw [r.z (by omega)]; exact this
  · rw [c8] at hu
    have := x.out u hu
    rw [rwM_0 (by omega)] at this
    rw [r.z (by omega)]; exact this
  · rw [c8] at hu
    have := x.paid u hu
    rw [rwM_0 (by omega)] at this
    rw [r.z (by omega)]; exact this
  · obtain ⟨X, y1, y2, y3, y4⟩ := x.exc
    refine ⟨X, y1, y2, fun p hp => ?_, fun p hp => y4 p (by omega)⟩
    rw [c8] at hp
    have := y3 p hp
    rw [rwM_0 (by omega)] at this
    rw [r.z (by omega)]; exact this
  · rw [c8] at hu hv
    rw [r.1 _ (by omega) (by omega)]; exact x.tr u hu v hv
  · rw [c9] at hu
    rw [e 424 u (fil_g (by omega) hu) (by omega)] at hv
    have pc := hD.plc u hu
    have := x.rot u hu v hv
    rw [rwM_r (by omega) (by omega)] at this
    rw [r.2 u hu v hv]; exact this
  · rw [c9] at hu
    have := x.hn u hu
    rw [rwM_h (by omega) (by omega) (by omega)] at this
    rw [r.h (by omega) (by omega) (by omega)]; exact this
  · rw [c9] at hu; exact (zh hu hk).elim
  · rw [c9] at hu; exact (zh hu hk).elim
  · rw [c10] at hu
    have := x.ret u hu
    rw [rwM_0 (by omega)] at this
    rw [r.z (by omega)]; exact this
  · rw [c10] at hu
    rw [r.z (by omega), r.z (by omega)] at k; omega
  · obtain ⟨X, y1, y2, y3, y4⟩ := x.srv
    refine ⟨X, y1, y2, fun p hp => ?_, fun p hp => y4 p (by omega)⟩
    rw [c10] at hp
    have := y3 p hp
    rw [rwM_0 (by omega)] at this
    rw [r.z (by omega)]; exact this
  · have := x.many
    rw [rwM_0 (by omega)] at this
    rw [s1]; exact this
  · obtain ⟨X, y1, y2, y3⟩ := x.ans
    exact ⟨X, y1, y2, fun _ q => (z1 q).elim⟩
theorem RwB.ag {S : Nat → Nat} (w : WM M) (A : AG M T) (r : RG M S) (big : ∀ k, S k < 2147483600) : RwB T S := by
  obtain ⟨hD, w2, w3, w4, w5, w6⟩ := w
  obtain ⟨c8, c9, c10, c11, e⟩ := A
  have d0 := hD.nP
  have d1 := hD.nG
  have d2 := hD.nE
  have s0 : S 0 = 0 := r.z (by omega)
  have s1 : S 1 = 0 := r.z (by omega)
  have z1 : ∀ {c}, c < S 1 → False := fun q => by rw [s1] at q; omega
  have zh : ∀ {g k}, g < M 412 9 → k < S (194 + 15 * g + 8) → False := fun hg q => by rw [r.h (by omega) (by omega) (by omega)] at q; omega
  refine ⟨⟨by omega, by omega, fun u hu => ?_, fun u hu => ?_, fun u hu => ?_, fun u hu v hv => ?_, fun u hu v hv => ?_, fun u hu => ?_, fun u hu k hk => ?_, fun u hu k hk => ?_, fun u hu i k hik hk => ?_, fun u hu => ?_, fun u hu => ?_, fun u hu => ?_, fun u hu => ?_, fun _ q => (z1 q).elim, fun _ q => (z1 q).elim, fun _ q => (z1 q).elim, big⟩, fun u hu => ?_, by omega⟩
  · rw [c8] at hu; rw [r.z (by omega)]; omega
  · rw [c8] at hu; rw [r.z (by omega)]; omega
  · rw [c8] at hu; rw [r.z (by omega)]; omega
  · rw [c8] at hu hv
    rw [r.1 _ (by omega) (by omega), show 50 + 12 * u + v = 50 + (12 * u + v) by omega, rwM_t (by omega)]
    have := w3 (12 * u + v)
    split <;> omega
  · rw [c9] at hu
    rw [e 424 u (fil_g (by omega) hu) (by omega)] at hv
    rw [r.2 u hu v hv, c8]; exact w6 u hu v hv
  · rw [c9] at hu; rw [r.h (by omega) (by omega) (by omega)]; omega
  · rw [c9] at hu; exact (zh hu hk).elim
  · rw [c9] at hu; exact (zh hu hk).elim
  · rw [c9] at hu; exact (zh hu hk).elim
  · rw [c10] at hu; rw [r.z (by omega)]; omega
  · rw [c10] at hu; rw [r.z (by omega)]; omega
  · rw [c10] at hu; rw [r.z (by omega)]; exact Nat.two_pow_pos _
  · rw [c10] at hu; rw [r.z (by omega), s0, r.z (by omega)]
    exact ⟨fun q => absurd rfl q, fun q => absurd q (Nat.lt_irrefl 0)⟩
  · rw [c8] at hu; rw [r.z (by omega)]; omega
end
