/-! a plan that grows by one thing -/
theorem plr_addP {h h1 : aH} {Q : Nat} {M M' : Nat → Nat → Nat} (hD : PlD M) (x : PlR h Q M) (hb : M 412 8 < 12) (hi : ∀ o k, Q ≤ o → o < Q + 65 → ¬ ((o = Q ∧ k = 1) ∨ o = Q + 8 + 1 * M 412 8 ∨ o = Q + 7) → h_iv h1 o k = h_iv h o k) (e : ∀ o k, ¬ ((o = 412 ∧ k = 8) ∨ o = 419 ∨ ((o = 420 ∨ o = 421) ∧ k = M 412 8)) → M' o k = M o k) (ec : M' 412 8 = M 412 8 + 1)
    (hc : h_iv h1 Q 1 = nI (M 412 8 + 1))
    (n_trv : h_iv h1 (Q + 8 + 1 * (M 412 8)) 1 = nI (M' 420 (M 412 8)))
    (n_skl : h_iv h1 (Q + 8 + 1 * (M 412 8)) 2 = nI (16 + M' 421 (M 412 8)))
    (n_able : ∀ s, s < 32 → h_iv h1 (Q + 7) s = nI (mk (fun p => decide (s &&& (16 + M' 421 p) ≠ 0)) (M' 412 8)))
    : PlR h1 Q M' := by
  have d0 := hD.nP
  have d1 := hD.nG
  have d2 := hD.nE
  have d3 := hD.nK
  have cG : M' 412 9 = M 412 9 := e _ _ (by omega)
  have cE : M' 412 10 = M 412 10 := e _ _ (by omega)
  have cK : M' 412 11 = M 412 11 := e _ _ (by omega)
  refine ⟨?_, ?_, ?_, ?_, ?_, ?_, ?_, ?_, ?_, ?_, ?_, ?_, ?_, ?_, ?_, ?_, ?_, ?_, ?_, ?_, ?_, ?_⟩
  · intro j hj; rw [hi _ _ (by omega) (by omega) (by omega), e _ _ (by omega)]; exact x.ni j hj
  · rw [ec]; exact hc
  · rw [hi _ _ (by omega) (by omega) (by omega), e _ _ (by omega)]; exact x.nG
  · rw [hi _ _ (by omega) (by omega) (by omega), e _ _ (by omega)]; exact x.nE
  · rw [hi _ _ (by omega) (by omega) (by omega), e _ _ (by omega)]; exact x.nK
  · intro u hu
    rw [ec] at hu
    by_cases cu : u = M 412 8
    · rw [cu]; exact n_trv
    · rw [hi _ _ (by omega) (by omega) (by omega), e _ _ (by omega)]; exact x.trv u (by omega)
  · intro u hu
    rw [ec] at hu
    by_cases cu : u = M 412 8
    · rw [cu]; exact n_skl
    · rw [hi _ _ (by omega) (by omega) (by omega), e _ _ (by omega)]; exact x.skl u (by omega)
  · intro u hu
    rw [cG] at hu
    rw [hi _ _ (by omega) (by omega) (by omega), e _ _ (by omega)]; exact x.dem u hu
  · intro u hu
    rw [cG] at hu
    rw [hi _ _ (by omega) (by omega) (by omega), e _ _ (by omega)]; exact x.trn u hu
  · intro u hu
    rw [cG] at hu
    rw [hi _ _ (by omega) (by omega) (by omega), e _ _ (by omega)]; exact x.plc u hu
  · intro u hu
    rw [cE] at hu
    rw [hi _ _ (by omega) (by omega) (by omega), e _ _ (by omega)]; exact x.drv u hu
  · intro u hu
    rw [cE] at hu
    rw [hi _ _ (by omega) (by omega) (by omega), e _ _ (by omega)]; exact x.pst u hu
  · intro u hu
    rw [cE] at hu
    intro v hv
    rw [e 426 u (by omega)] at hv
    rw [hi _ _ (by omega) (by omega) (by omega), e _ _ (by omega)]; exact x.psk u hu v hv
  · intro u hu
    rw [cE] at hu
    intro v hv
    rw [hi _ _ (by omega) (by omega) (by omega), e 426 u (by omega), x.dmd u hu v hv]
    congr 1
    exact (fb_ct_cong (fun j hj => by rw [e 427 _ (by omega)])).symm
  · intro u hu
    rw [cK] at hu
    rw [hi _ _ (by omega) (by omega) (by omega), e _ _ (by omega)]; exact x.dur u hu
  · intro u hu
    rw [cK] at hu
    rw [hi _ _ (by omega) (by omega) (by omega), e _ _ (by omega)]; exact x.pat u hu
  · intro u hu
    rw [cK] at hu
    rw [hi _ _ (by omega) (by omega) (by omega), e _ _ (by omega)]; exact x.ned u hu
  · intro u hu
    rw [cK] at hu
    rw [hi _ _ (by omega) (by omega) (by omega), e _ _ (by omega)]; exact x.kgn u hu
  · intro u hu
    rw [cK] at hu
    intro v hv
    rw [e 431 u (by omega)] at hv
    rw [hi _ _ (by omega) (by omega) (by omega), e _ _ (by omega)]; exact x.kg u hu v hv
  · intro u hu
    rw [cK] at hu
    rw [hi _ _ (by omega) (by omega) (by omega), e _ _ (by omega)]; exact x.ken u hu
  · intro u hu
    rw [cK] at hu
    intro v hv
    rw [e 433 u (by omega)] at hv
    rw [hi _ _ (by omega) (by omega) (by omega), e _ _ (by omega)]; exact x.ke u hu v hv
  · exact n_able
theorem pld_addP {M M' : Nat → Nat → Nat} (hD : PlD M) (hb : M 412 8 < 12) (e : ∀ o k, ¬ ((o = 412 ∧ k = 8) ∨ o = 419 ∨ ((o = 420 ∨ o = 421) ∧ k = M 412 8)) → M' o k = M o k) (ec : M' 412 8 = M 412 8 + 1)
    (n_trv : M' 420 (M 412 8) ≤ 120)
    (n_skl : M' 421 (M 412 8) < 16)
    : PlD M' := by
  have d0 := hD.nP
  have d1 := hD.nG
  have d2 := hD.nE
  have d3 := hD.nK
  have cG : M' 412 9 = M 412 9 := e _ _ (by omega)
  have cE : M' 412 10 = M 412 10 := e _ _ (by omega)
  have cK : M' 412 11 = M 412 11 := e _ _ (by omega)
  have e0 : ∀ k, M' 418 k = M 418 k := fun k => e _ _ (by omega)
  refine ⟨?_, ?_, ?_, ?_, ?_, ?_, ?_, ?_, ?_, ?_, ?_, ?_, ?_, ?_, ?_, ?_, ?_, ?_, ?_, ?_, ?_, ?_, ?_, ?_, ?_⟩
  · rw [e0]; exact hD.b
  · rw [e0]; exact hD.e
  · rw [e0, e0]; exact hD.be
  · rw [e0]; exact hD.wk
  · rw [e0]; exact hD.lim
  · omega
  · rw [e _ _ (by omega)]; exact hD.nG
  · rw [e _ _ (by omega)]; exact hD.nE
  · rw [e _ _ (by omega)]; exact hD.nK
  · intro u hu
    rw [ec] at hu
    by_cases cu : u = M 412 8
    · rw [cu]; exact n_trv
    · rw [e 420 u (by omega)]; exact hD.trv u (by omega)
  · intro u hu
    rw [ec] at hu
    by_cases cu : u = M 412 8
    · rw [cu]; exact n_skl
    · rw [e 421 u (by omega)]; exact hD.skl u (by omega)
  · intro u hu
    rw [cG] at hu
    rw [e 422 u (by omega)]; exact hD.dem u hu
  · intro u hu
    rw [cG] at hu
    rw [e 423 u (by omega)]; exact hD.trn u hu
  · intro u hu
    rw [cG] at hu
    rw [e 424 u (by omega)]; exact hD.plc u hu
  · intro u hu
    rw [cE] at hu
    rw [e 425 u (by omega)]; exact hD.drv u hu
  · intro u hu
    rw [cE] at hu
    rw [e 426 u (by omega)]; exact hD.pst u hu
  · intro u hu
    rw [cE] at hu
    intro v hv
    have he := hD.pst u (by omega)
    rw [e 426 u (by omega)] at hv
    rw [e 427 (6 * u + v) (by omega)]
    exact hD.psk u hu v hv
  · intro u hu
    rw [cK] at hu
    rw [e 428 u (by omega)]; exact hD.dur u hu
  · intro u hu
    rw [cK] at hu
    rw [e 429 u (by omega)]; exact hD.pat u hu
  · intro u hu
    rw [cK] at hu
    rw [e 430 u (by omega)]; exact hD.ned u hu
  · intro u hu
    rw [cK] at hu
    rw [e 431 u (by omega)]; exact hD.kgn u hu
  · intro u hu
    rw [cK] at hu
    intro v hv
    have he := hD.kgn u (by omega)
    rw [e 431 u (by omega)] at hv
    rw [e 432 (6 * u + v) (by omega)]
    have := hD.kg u hu v hv
    omega
  · intro u hu
    rw [cK] at hu
    rw [e 433 u (by omega)]; exact hD.ken u hu
  · intro u hu
    rw [cK] at hu
    intro v hv
    have he := hD.ken u (by omega)
    rw [e 433 u (by omega)] at hv
    rw [e 434 (5 * u + v) (by omega)]
    have := hD.ke u hu v hv
    omega
  · intro u hu
    rw [cK] at hu
    intro i j hij hj
    have he := hD.ken u (by omega)
    rw [e 433 u (by omega)] at hj
    rw [e 434 (5 * u + i) (by omega), e 434 (5 * u + j) (by omega)]; exact hD.ked u hu i j hij hj
theorem plr_addG {h h1 : aH} {Q : Nat} {M M' : Nat → Nat → Nat} (hD : PlD M) (x : PlR h Q M) (hb : M 412 9 < 6) (hi : ∀ o k, Q ≤ o → o < Q + 65 → ¬ ((o = Q ∧ k = 5) ∨ o = Q + 20 + 2 * M 412 9 ∨ o = Q + 21 + 2 * M 412 9) → h_iv h1 o k = h_iv h o k) (e : ∀ o k, ¬ ((o = 412 ∧ k = 9) ∨ o = 419 ∨ ((o = 422 ∨ o = 423 ∨ o = 424) ∧ k = M 412 9) ∨ (o = 445 ∧ 8 * M 412 9 ≤ k)) → M' o k = M o k) (ec : M' 412 9 = M 412 9 + 1)
    (hc : h_iv h1 Q 5 = nI (M 412 9 + 1))
    (n_dem : h_iv h1 (Q + 20 + 2 * (M 412 9)) 1 = nI (M' 422 (M 412 9)))
    (n_trn : h_iv h1 (Q + 20 + 2 * (M 412 9)) 2 = nI (M' 423 (M 412 9)))
    (n_plc : h_iv h1 (Q + 20 + 2 * (M 412 9)) 3 = nI (M' 424 (M 412 9)))
    : PlR h1 Q M' := by
  have d0 := hD.nP
  have d1 := hD.nG
  have d2 := hD.nE
  have d3 := hD.nK
  have cP : M' 412 8 = M 412 8 := e _ _ (by omega)
  have cE : M' 412 10 = M 412 10 := e _ _ (by omega)
  have cK : M' 412 11 = M 412 11 := e _ _ (by omega)
  refine ⟨?_, ?_, ?_, ?_, ?_, ?_, ?_, ?_, ?_, ?_, ?_, ?_, ?_, ?_, ?_, ?_, ?_, ?_, ?_, ?_, ?_, ?_⟩
  · intro j hj; rw [hi _ _ (by omega) (by omega) (by omega), e _ _ (by omega)]; exact x.ni j hj
  · rw [hi _ _ (by omega) (by omega) (by omega), e _ _ (by omega)]; exact x.nP
  · rw [ec]; exact hc
  · rw [hi _ _ (by omega) (by omega) (by omega), e _ _ (by omega)]; exact x.nE
  · rw [hi _ _ (by omega) (by omega) (by omega), e _ _ (by omega)]; exact x.nK
  · intro u hu
    rw [cP] at hu
    rw [hi _ _ (by omega) (by omega) (by omega), e _ _ (by omega)]; exact x.trv u hu
  · intro u hu
    rw [cP] at hu
    rw [hi _ _ (by omega) (by omega) (by omega), e _ _ (by omega)]; exact x.skl u hu
  · intro u hu
    rw [ec] at hu
    by_cases cu : u = M 412 9
    · rw [cu]; exact n_dem
    · rw [hi _ _ (by omega) (by omega) (by omega), e _ _ (by omega)]; exact x.dem u (by omega)
  · intro u hu
    rw [ec] at hu
    by_cases cu : u = M 412 9
    · rw [cu]; exact n_trn
    · rw [hi _ _ (by omega) (by omega) (by omega), e _ _ (by omega)]; exact x.trn u (by omega)
  · intro u hu
    rw [ec] at hu
    by_cases cu : u = M 412 9
    · rw [cu]; exact n_plc
    · rw [hi _ _ (by omega) (by omega) (by omega), e _ _ (by omega)]; exact x.plc u (by omega)
  · intro u hu
    rw [cE] at hu
    rw [hi _ _ (by omega) (by omega) (by omega), e _ _ (by omega)]; exact x.drv u hu
  · intro u hu
    rw [cE] at hu
    rw [hi _ _ (by omega) (by omega) (by omega), e _ _ (by omega)]; exact x.pst u hu
  · intro u hu
    rw [cE] at hu
    intro v hv
    rw [e 426 u (by omega)] at hv
    rw [hi _ _ (by omega) (by omega) (by omega), e _ _ (by omega)]; exact x.psk u hu v hv
  · intro u hu
    rw [cE] at hu
    intro v hv
    rw [hi _ _ (by omega) (by omega) (by omega), e 426 u (by omega), x.dmd u hu v hv]
    congr 1
    exact (fb_ct_cong (fun j hj => by rw [e 427 _ (by omega)])).symm
  · intro u hu
    rw [cK] at hu
    rw [hi _ _ (by omega) (by omega) (by omega), e _ _ (by omega)]; exact x.dur u hu
  · intro u hu
    rw [cK] at hu
    rw [hi _ _ (by omega) (by omega) (by omega), e _ _ (by omega)]; exact x.pat u hu
  · intro u hu
    rw [cK] at hu
    rw [hi _ _ (by omega) (by omega) (by omega), e _ _ (by omega)]; exact x.ned u hu
  · intro u hu
    rw [cK] at hu
    rw [hi _ _ (by omega) (by omega) (by omega), e _ _ (by omega)]; exact x.kgn u hu
  · intro u hu
    rw [cK] at hu
    intro v hv
    rw [e 431 u (by omega)] at hv
    rw [hi _ _ (by omega) (by omega) (by omega), e _ _ (by omega)]; exact x.kg u hu v hv
  · intro u hu
    rw [cK] at hu
    rw [hi _ _ (by omega) (by omega) (by omega), e _ _ (by omega)]; exact x.ken u hu
  · intro u hu
    rw [cK] at hu
    intro v hv
    rw [e 433 u (by omega)] at hv
    rw [hi _ _ (by omega) (by omega) (by omega), e _ _ (by omega)]; exact x.ke u hu v hv
  · intro s hs
    rw [hi _ _ (by omega) (by omega) (by omega), cP, x.able s hs]
    congr 1
    exact mk_cong (fun p hp => by rw [e 421 p (by omega)])
theorem pld_addG {M M' : Nat → Nat → Nat} (hD : PlD M) (hb : M 412 9 < 6) (e : ∀ o k, ¬ ((o = 412 ∧ k = 9) ∨ o = 419 ∨ ((o = 422 ∨ o = 423 ∨ o = 424) ∧ k = M 412 9) ∨ (o = 445 ∧ 8 * M 412 9 ≤ k)) → M' o k = M o k) (ec : M' 412 9 = M 412 9 + 1)
    (n_dem : M' 422 (M 412 9) ≤ 9)
    (n_trn : 60 ≤ M' 423 (M 412 9) ∧ M' 423 (M 412 9) ≤ 10080)
    (n_plc : 1 ≤ M' 424 (M 412 9) ∧ M' 424 (M 412 9) ≤ 8)
    : PlD M' := by
  have d0 := hD.nP
  have d1 := hD.nG
  have d2 := hD.nE
  have d3 := hD.nK
  have cP : M' 412 8 = M 412 8 := e _ _ (by omega)
  have cE : M' 412 10 = M 412 10 := e _ _ (by omega)
  have cK : M' 412 11 = M 412 11 := e _ _ (by omega)
  have e0 : ∀ k, M' 418 k = M 418 k := fun k => e _ _ (by omega)
  refine ⟨?_, ?_, ?_, ?_, ?_, ?_, ?_, ?_, ?_, ?_, ?_, ?_, ?_, ?_, ?_, ?_, ?_, ?_, ?_, ?_, ?_, ?_, ?_, ?_, ?_⟩
  · rw [e0]; exact hD.b
  · rw [e0]; exact hD.e
  · rw [e0, e0]; exact hD.be
  · rw [e0]; exact hD.wk
  · rw [e0]; exact hD.lim
  · rw [e _ _ (by omega)]; exact hD.nP
  · omega
  · rw [e _ _ (by omega)]; exact hD.nE
  · rw [e _ _ (by omega)]; exact hD.nK
  · intro u hu
    rw [cP] at hu
    rw [e 420 u (by omega)]; exact hD.trv u hu
  · intro u hu
    rw [cP] at hu
    rw [e 421 u (by omega)]; exact hD.skl u hu
  · intro u hu
    rw [ec] at hu
    by_cases cu : u = M 412 9
    · rw [cu]; exact n_dem
    · rw [e 422 u (by omega)]; exact hD.dem u (by omega)
  · intro u hu
    rw [ec] at hu
    by_cases cu : u = M 412 9
    · rw [cu]; exact n_trn
    · rw [e 423 u (by omega)]; exact hD.trn u (by omega)
  · intro u hu
    rw [ec] at hu
    by_cases cu : u = M 412 9
    · rw [cu]; exact n_plc
    · rw [e 424 u (by omega)]; exact hD.plc u (by omega)
  · intro u hu
    rw [cE] at hu
    rw [e 425 u (by omega)]; exact hD.drv u hu
  · intro u hu
    rw [cE] at hu
    rw [e 426 u (by omega)]; exact hD.pst u hu
  · intro u hu
    rw [cE] at hu
    intro v hv
    have he := hD.pst u (by omega)
    rw [e 426 u (by omega)] at hv
    rw [e 427 (6 * u + v) (by omega)]
    exact hD.psk u hu v hv
  · intro u hu
    rw [cK] at hu
    rw [e 428 u (by omega)]; exact hD.dur u hu
  · intro u hu
    rw [cK] at hu
    rw [e 429 u (by omega)]; exact hD.pat u hu
  · intro u hu
    rw [cK] at hu
    rw [e 430 u (by omega)]; exact hD.ned u hu
  · intro u hu
    rw [cK] at hu
    rw [e 431 u (by omega)]; exact hD.kgn u hu
  · intro u hu
    rw [cK] at hu
    intro v hv
    have he := hD.kgn u (by omega)
    rw [e 431 u (by omega)] at hv
    rw [e 432 (6 * u + v) (by omega)]
    have := hD.kg u hu v hv
    omega
  · intro u hu
    rw [cK] at hu
    rw [e 433 u (by omega)]; exact hD.ken u hu
  · intro u hu
    rw [cK] at hu
    intro v hv
    have he := hD.ken u (by omega)
    rw [e 433 u (by omega)] at hv
    rw [e 434 (5 * u + v) (by omega)]
    have := hD.ke u hu v hv
    omega
  · intro u hu
    rw [cK] at hu
    intro i j hij hj
    have he := hD.ken u (by omega)
    rw [e 433 u (by omega)] at hj
    rw [e 434 (5 * u + i) (by omega), e 434 (5 * u + j) (by omega)]; exact hD.ked u hu i j hij hj
theorem plr_addE {h h1 : aH} {Q : Nat} {M M' : Nat → Nat → Nat} (hD : PlD M) (x : PlR h Q M) (hb : M 412 10 < 5) (hi : ∀ o k, Q ≤ o → o < Q + 65 → ¬ ((o = Q ∧ k = 7) ∨ (Q + 32 + 3 * M 412 10 ≤ o ∧ o ≤ Q + 34 + 3 * M 412 10)) → h_iv h1 o k = h_iv h o k) (e : ∀ o k, ¬ ((o = 412 ∧ k = 10) ∨ o = 419 ∨ ((o = 425 ∨ o = 426) ∧ k = M 412 10) ∨ (o = 427 ∧ 6 * M 412 10 ≤ k)) → M' o k = M o k) (ec : M' 412 10 = M 412 10 + 1)
    (hc : h_iv h1 Q 7 = nI (M 412 10 + 1))
    (n_drv : h_iv h1 (Q + 32 + 3 * (M 412 10)) 1 = nI (M' 425 (M 412 10)))
    (n_pst : h_iv h1 (Q + 32 + 3 * (M 412 10)) 2 = nI (M' 426 (M 412 10)))
    (n_psk : ∀ v, v < M' 426 (M 412 10) → h_iv h1 (Q + 33 + 3 * (M 412 10)) v = nI (pbit (M' 427 (6 * (M 412 10) + v))))
    (n_dmd : ∀ v, v < 32 → h_iv h1 (Q + 34 + 3 * (M 412 10)) v = nI (dmd M' (M 412 10) v (M' 426 (M 412 10))))
    : PlR h1 Q M' := by
  have d0 := hD.nP
  have d1 := hD.nG
  have d2 := hD.nE
  have d3 := hD.nK
  have cP : M' 412 8 = M 412 8 := e _ _ (by omega)
  have cG : M' 412 9 = M 412 9 := e _ _ (by omega)
  have cK : M' 412 11 = M 412 11 := e _ _ (by omega)
  refine ⟨?_, ?_, ?_, ?_, ?_, ?_, ?_, ?_, ?_, ?_, ?_, ?_, ?_, ?_, ?_, ?_, ?_, ?_, ?_, ?_, ?_, ?_⟩
  · intro j hj; rw [hi _ _ (by omega) (by omega) (by omega), e _ _ (by omega)]; exact x.ni j hj
  · rw [hi _ _ (by omega) (by omega) (by omega), e _ _ (by omega)]; exact x.nP
  · rw [hi _ _ (by omega) (by omega) (by omega), e _ _ (by omega)]; exact x.nG
  · rw [ec]; exact hc
  · rw [hi _ _ (by omega) (by omega) (by omega), e _ _ (by omega)]; exact x.nK
  · intro u hu
    rw [cP] at hu
    rw [hi _ _ (by omega) (by omega) (by omega), e _ _ (by omega)]; exact x.trv u hu
  · intro u hu
    rw [cP] at hu
    rw [hi _ _ (by omega) (by omega) (by omega), e _ _ (by omega)]; exact x.skl u hu
  · intro u hu
    rw [cG] at hu
    rw [hi _ _ (by omega) (by omega) (by omega), e _ _ (by omega)]; exact x.dem u hu
  · intro u hu
    rw [cG] at hu
    rw [hi _ _ (by omega) (by omega) (by omega), e _ _ (by omega)]; exact x.trn u hu
  · intro u hu
    rw [cG] at hu
    rw [hi _ _ (by omega) (by omega) (by omega), e _ _ (by omega)]; exact x.plc u hu
  · intro u hu
    rw [ec] at hu
    by_cases cu : u = M 412 10
    · rw [cu]; exact n_drv
    · rw [hi _ _ (by omega) (by omega) (by omega), e _ _ (by omega)]; exact x.drv u (by omega)
  · intro u hu
    rw [ec] at hu
    by_cases cu : u = M 412 10
    · rw [cu]; exact n_pst
    · rw [hi _ _ (by omega) (by omega) (by omega), e _ _ (by omega)]; exact x.pst u (by omega)
  · intro u hu
    rw [ec] at hu
    by_cases cu : u = M 412 10
    · rw [cu]; exact n_psk
    · intro v hv
      have he := hD.pst u (by omega)
      rw [e 426 u (by omega)] at hv
      rw [hi _ _ (by omega) (by omega) (by omega), e _ _ (by omega)]; exact x.psk u (by omega) v hv
  · intro u hu
    rw [ec] at hu
    by_cases cu : u = M 412 10
    · rw [cu]; exact n_dmd
    · intro v hv
      have he := hD.pst u (by omega)
      rw [hi _ _ (by omega) (by omega) (by omega), e 426 u (by omega), x.dmd u (by omega) v hv]
      congr 1
      exact (fb_ct_cong (fun j hj => by rw [e 427 _ (by omega)])).symm
  · intro u hu
    rw [cK] at hu
    rw [hi _ _ (by omega) (by omega) (by omega), e _ _ (by omega)]; exact x.dur u hu
  · intro u hu
    rw [cK] at hu
    rw [hi _ _ (by omega) (by omega) (by omega), e _ _ (by omega)]; exact x.pat u hu
  · intro u hu
    rw [cK] at hu
    rw [hi _ _ (by omega) (by omega) (by omega), e _ _ (by omega)]; exact x.ned u hu
  · intro u hu
    rw [cK] at hu
    rw [hi _ _ (by omega) (by omega) (by omega), e _ _ (by omega)]; exact x.kgn u hu
  · intro u hu
    rw [cK] at hu
    intro v hv
    rw [e 431 u (by omega)] at hv
    rw [hi _ _ (by omega) (by omega) (by omega), e _ _ (by omega)]; exact x.kg u hu v hv
  · intro u hu
    rw [cK] at hu
    rw [hi _ _ (by omega) (by omega) (by omega), e _ _ (by omega)]; exact x.ken u hu
  · intro u hu
    rw [cK] at hu
    intro v hv
    rw [e 433 u (by omega)] at hv
    rw [hi _ _ (by omega) (by omega) (by omega), e _ _ (by omega)]; exact x.ke u hu v hv
  · intro s hs
    rw [hi _ _ (by omega) (by omega) (by omega), cP, x.able s hs]
    congr 1
    exact mk_cong (fun p hp => by rw [e 421 p (by omega)])
theorem pld_addE {M M' : Nat → Nat → Nat} (hD : PlD M) (hb : M 412 10 < 5) (e : ∀ o k, ¬ ((o = 412 ∧ k = 10) ∨ o = 419 ∨ ((o = 425 ∨ o = 426) ∧ k = M 412 10) ∨ (o = 427 ∧ 6 * M 412 10 ≤ k)) → M' o k = M o k) (ec : M' 412 10 = M 412 10 + 1)
    (n_drv : M' 425 (M 412 10) ≤ 120)
    (n_pst : 1 ≤ M' 426 (M 412 10) ∧ M' 426 (M 412 10) ≤ 6)
    (n_psk : ∀ v, v < M' 426 (M 412 10) → M' 427 (6 * (M 412 10) + v) = 0 ∨ M' 427 (6 * (M 412 10) + v) = 1 ∨ M' 427 (6 * (M 412 10) + v) = 2 ∨ M' 427 (6 * (M 412 10) + v) = 4 ∨ M' 427 (6 * (M 412 10) + v) = 8)
    : PlD M' := by
  have d0 := hD.nP
  have d1 := hD.nG
  have d2 := hD.nE
  have d3 := hD.nK
  have cP : M' 412 8 = M 412 8 := e _ _ (by omega)
  have cG : M' 412 9 = M 412 9 := e _ _ (by omega)
  have cK : M' 412 11 = M 412 11 := e _ _ (by omega)
  have e0 : ∀ k, M' 418 k = M 418 k := fun k => e _ _ (by omega)
  refine ⟨?_, ?_, ?_, ?_, ?_, ?_, ?_, ?_, ?_, ?_, ?_, ?_, ?_, ?_, ?_, ?_, ?_, ?_, ?_, ?_, ?_, ?_, ?_, ?_, ?_⟩
  · rw [e0]; exact hD.b
  · rw [e0]; exact hD.e
  · rw [e0, e0]; exact hD.be
  · rw [e0]; exact hD.wk
  · rw [e0]; exact hD.lim
  · rw [e _ _ (by omega)]; exact hD.nP
  · rw [e _ _ (by omega)]; exact hD.nG
  · omega
  · rw [e _ _ (by omega)]; exact hD.nK
  · intro u hu
    rw [cP] at hu
    rw [e 420 u (by omega)]; exact hD.trv u hu
  · intro u hu
    rw [cP] at hu
    rw [e 421 u (by omega)]; exact hD.skl u hu
  · intro u hu
    rw [cG] at hu
    rw [e 422 u (by omega)]; exact hD.dem u hu
  · intro u hu
    rw [cG] at hu
    rw [e 423 u (by omega)]; exact hD.trn u hu
  · intro u hu
    rw [cG] at hu
    rw [e 424 u (by omega)]; exact hD.plc u hu
  · intro u hu
    rw [ec] at hu
    by_cases cu : u = M 412 10
    · rw [cu]; exact n_drv
    · rw [e 425 u (by omega)]; exact hD.drv u (by omega)
  · intro u hu
    rw [ec] at hu
    by_cases cu : u = M 412 10
    · rw [cu]; exact n_pst
    · rw [e 426 u (by omega)]; exact hD.pst u (by omega)
  · intro u hu
    rw [ec] at hu
    by_cases cu : u = M 412 10
    · rw [cu]; exact n_psk
    · intro v hv
      have he := hD.pst u (by omega)
      rw [e 426 u (by omega)] at hv
      rw [e 427 (6 * u + v) (by omega)]
      exact hD.psk u (by omega) v hv
  · intro u hu
    rw [cK] at hu
    rw [e 428 u (by omega)]; exact hD.dur u hu
  · intro u hu
    rw [cK] at hu
    rw [e 429 u (by omega)]; exact hD.pat u hu
  · intro u hu
    rw [cK] at hu
    rw [e 430 u (by omega)]; exact hD.ned u hu
  · intro u hu
    rw [cK] at hu
    rw [e 431 u (by omega)]; exact hD.kgn u hu
  · intro u hu
    rw [cK] at hu
    intro v hv
    have he := hD.kgn u (by omega)
    rw [e 431 u (by omega)] at hv
    rw [e 432 (6 * u + v) (by omega)]
    have := hD.kg u hu v hv
    omega
  · intro u hu
    rw [cK] at hu
    rw [e 433 u (by omega)]; exact hD.ken u hu
  · intro u hu
    rw [cK] at hu
    intro v hv
    have he := hD.ken u (by omega)
    rw [e 433 u (by omega)] at hv
    rw [e 434 (5 * u + v) (by omega)]
    have := hD.ke u hu v hv
    omega
  · intro u hu
    rw [cK] at hu
    intro i j hij hj
    have he := hD.ken u (by omega)
    rw [e 433 u (by omega)] at hj
    rw [e 434 (5 * u + i) (by omega), e 434 (5 * u + j) (by omega)]; exact hD.ked u hu i j hij hj
theorem plr_addK {h h1 : aH} {Q : Nat} {M M' : Nat → Nat → Nat} (hD : PlD M) (x : PlR h Q M) (hb : M 412 11 < 6) (hi : ∀ o k, Q ≤ o → o < Q + 65 → ¬ ((o = Q ∧ k = 9) ∨ (Q + 47 + 3 * M 412 11 ≤ o ∧ o ≤ Q + 49 + 3 * M 412 11)) → h_iv h1 o k = h_iv h o k) (e : ∀ o k, ¬ ((o = 412 ∧ k = 11) ∨ o = 419 ∨ ((o = 428 ∨ o = 429 ∨ o = 430 ∨ o = 431 ∨ o = 433) ∧ k = M 412 11) ∨ (o = 432 ∧ 6 * M 412 11 ≤ k) ∨ (o = 434 ∧ 5 * M 412 11 ≤ k)) → M' o k = M o k) (ec : M' 412 11 = M 412 11 + 1)
    (hc : h_iv h1 Q 9 = nI (M 412 11 + 1))
    (n_dur : h_iv h1 (Q + 47 + 3 * (M 412 11)) 1 = nI (M' 428 (M 412 11)))
    (n_pat : h_iv h1 (Q + 47 + 3 * (M 412 11)) 2 = nI (M' 429 (M 412 11)))
    (n_ned : h_iv h1 (Q + 47 + 3 * (M 412 11)) 3 = nI (M' 430 (M 412 11)))
    (n_kgn : h_iv h1 (Q + 47 + 3 * (M 412 11)) 4 = nI (M' 431 (M 412 11)))
    (n_kg : ∀ v, v < M' 431 (M 412 11) → h_iv h1 (Q + 48 + 3 * (M 412 11)) v = nI (M' 432 (6 * (M 412 11) + v)))
    (n_ken : h_iv h1 (Q + 47 + 3 * (M 412 11)) 6 = nI (M' 433 (M 412 11)))
    (n_ke : ∀ v, v < M' 433 (M 412 11) → h_iv h1 (Q + 49 + 3 * (M 412 11)) v = nI (M' 434 (5 * (M 412 11) + v)))
    : PlR h1 Q M' := by
  have d0 := hD.nP
  have d1 := hD.nG
  have d2 := hD.nE
  have d3 := hD.nK
  have cP : M' 412 8 = M 412 8 := e _ _ (by omega)
  have cG : M' 412 9 = M 412 9 := e _ _ (by omega)
  have cE : M' 412 10 = M 412 10 := e _ _ (by omega)
  refine ⟨?_, ?_, ?_, ?_, ?_, ?_, ?_, ?_, ?_, ?_, ?_, ?_, ?_, ?_, ?_, ?_, ?_, ?_, ?_, ?_, ?_, ?_⟩
  · intro j hj; rw [hi _ _ (by omega) (by omega) (by omega), e _ _ (by omega)]; exact x.ni j hj
  · rw [hi _ _ (by omega) (by omega) (by omega), e _ _ (by omega)]; exact x.nP
  · rw [hi _ _ (by omega) (by omega) (by omega), e _ _ (by omega)]; exact x.nG
  · rw [hi _ _ (by omega) (by omega) (by omega), e _ _ (by omega)]; exact x.nE
  · rw [ec]; exact hc
  · intro u hu
    rw [cP] at hu
    rw [hi _ _ (by omega) (by omega) (by omega), e _ _ (by omega)]; exact x.trv u hu
  · intro u hu
    rw [cP] at hu
    rw [hi _ _ (by omega) (by omega) (by omega), e _ _ (by omega)]; exact x.skl u hu
  · intro u hu
    rw [cG] at hu
    rw [hi _ _ (by omega) (by omega) (by omega), e _ _ (by omega)]; exact x.dem u hu
  · intro u hu
    rw [cG] at hu
    rw [hi _ _ (by omega) (by omega) (by omega), e _ _ (by omega)]; exact x.trn u hu
  · intro u hu
    rw [cG] at hu
    rw [hi _ _ (by omega) (by omega) (by omega), e _ _ (by omega)]; exact x.plc u hu
  · intro u hu
    rw [cE] at hu
    rw [hi _ _ (by omega) (by omega) (by omega), e _ _ (by omega)]; exact x.drv u hu
  · intro u hu
    rw [cE] at hu
    rw [hi _ _ (by omega) (by omega) (by omega), e _ _ (by omega)]; exact x.pst u hu
  · intro u hu
    rw [cE] at hu
    intro v hv
    rw [e 426 u (by omega)] at hv
    rw [hi _ _ (by omega) (by omega) (by omega), e _ _ (by omega)]; exact x.psk u hu v hv
  · intro u hu
    rw [cE] at hu
    intro v hv
    rw [hi _ _ (by omega) (by omega) (by omega), e 426 u (by omega), x.dmd u hu v hv]
    congr 1
    exact (fb_ct_cong (fun j hj => by rw [e 427 _ (by omega)])).symm
  · intro u hu
    rw [ec] at hu
    by_cases cu : u = M 412 11
    · rw [cu]; exact n_dur
    · rw [hi _ _ (by omega) (by omega) (by omega), e _ _ (by omega)]; exact x.dur u (by omega)
  · intro u hu
    rw [ec] at hu
    by_cases cu : u = M 412 11
    · rw [cu]; exact n_pat
    · rw [hi _ _ (by omega) (by omega) (by omega), e _ _ (by omega)]; exact x.pat u (by omega)
  · intro u hu
    rw [ec] at hu
    by_cases cu : u = M 412 11
    · rw [cu]; exact n_ned
    · rw [hi _ _ (by omega) (by omega) (by omega), e _ _ (by omega)]; exact x.ned u (by omega)
  · intro u hu
    rw [ec] at hu
    by_cases cu : u = M 412 11
    · rw [cu]; exact n_kgn
    · rw [hi _ _ (by omega) (by omega) (by omega), e _ _ (by omega)]; exact x.kgn u (by omega)
  · intro u hu
    rw [ec] at hu
    by_cases cu : u = M 412 11
    · rw [cu]; exact n_kg
    · intro v hv
      have he := hD.kgn u (by omega)
      rw [e 431 u (by omega)] at hv
      rw [hi _ _ (by omega) (by omega) (by omega), e _ _ (by omega)]; exact x.kg u (by omega) v hv
  · intro u hu
    rw [ec] at hu
    by_cases cu : u = M 412 11
    · rw [cu]; exact n_ken
    · rw [hi _ _ (by omega) (by omega) (by omega), e _ _ (by omega)]; exact x.ken u (by omega)
  · intro u hu
    rw [ec] at hu
    by_cases cu : u = M 412 11
    · rw [cu]; exact n_ke
    · intro v hv
      have he := hD.ken u (by omega)
      rw [e 433 u (by omega)] at hv
      rw [hi _ _ (by omega) (by omega) (by omega), e _ _ (by omega)]; exact x.ke u (by omega) v hv
  · intro s hs
    rw [hi _ _ (by omega) (by omega) (by omega), cP, x.able s hs]
    congr 1
    exact mk_cong (fun p hp => by rw [e 421 p (by omega)])
theorem pld_addK {M M' : Nat → Nat → Nat} (hD : PlD M) (hb : M 412 11 < 6) (e : ∀ o k, ¬ ((o = 412 ∧ k = 11) ∨ o = 419 ∨ ((o = 428 ∨ o = 429 ∨ o = 430 ∨ o = 431 ∨ o = 433) ∧ k = M 412 11) ∨ (o = 432 ∧ 6 * M 412 11 ≤ k) ∨ (o = 434 ∧ 5 * M 412 11 ≤ k)) → M' o k = M o k) (ec : M' 412 11 = M 412 11 + 1)
    (n_dur : 1 ≤ M' 428 (M 412 11) ∧ M' 428 (M 412 11) ≤ 999)
    (n_pat : M' 429 (M 412 11) ≤ 240)
    (n_ned : 1 ≤ M' 430 (M 412 11) ∧ M' 430 (M 412 11) ≤ 5)
    (n_kgn : M' 431 (M 412 11) ≤ 6)
    (n_kg : ∀ v, v < M' 431 (M 412 11) → M' 432 (6 * (M 412 11) + v) < M' 412 9)
    (n_ken : M' 433 (M 412 11) ≤ 5)
    (n_ke : ∀ v, v < M' 433 (M 412 11) → M' 434 (5 * (M 412 11) + v) < M' 412 10)
    (n_ked : ∀ i j, i < j → j < M' 433 (M 412 11) → M' 434 (5 * (M 412 11) + i) ≠ M' 434 (5 * (M 412 11) + j))
    : PlD M' := by
  have d0 := hD.nP
  have d1 := hD.nG
  have d2 := hD.nE
  have d3 := hD.nK
  have cP : M' 412 8 = M 412 8 := e _ _ (by omega)
  have cG : M' 412 9 = M 412 9 := e _ _ (by omega)
  have cE : M' 412 10 = M 412 10 := e _ _ (by omega)
  have e0 : ∀ k, M' 418 k = M 418 k := fun k => e _ _ (by omega)
  refine ⟨?_, ?_, ?_, ?_, ?_, ?_, ?_, ?_, ?_, ?_, ?_, ?_, ?_, ?_, ?_, ?_, ?_, ?_, ?_, ?_, ?_, ?_, ?_, ?_, ?_⟩
  · rw [e0]; exact hD.b
  · rw [e0]; exact hD.e
  · rw [e0, e0]; exact hD.be
  · rw [e0]; exact hD.wk
  · rw [e0]; exact hD.lim
  · rw [e _ _ (by omega)]; exact hD.nP
  · rw [e _ _ (by omega)]; exact hD.nG
  · rw [e _ _ (by omega)]; exact hD.nE
  · omega
  · intro u hu
    rw [cP] at hu
    rw [e 420 u (by omega)]; exact hD.trv u hu
  · intro u hu
    rw [cP] at hu
    rw [e 421 u (by omega)]; exact hD.skl u hu
  · intro u hu
    rw [cG] at hu
    rw [e 422 u (by omega)]; exact hD.dem u hu
  · intro u hu
    rw [cG] at hu
    rw [e 423 u (by omega)]; exact hD.trn u hu
  · intro u hu
    rw [cG] at hu
    rw [e 424 u (by omega)]; exact hD.plc u hu
  · intro u hu
    rw [cE] at hu
    rw [e 425 u (by omega)]; exact hD.drv u hu
  · intro u hu
    rw [cE] at hu
    rw [e 426 u (by omega)]; exact hD.pst u hu
  · intro u hu
    rw [cE] at hu
    intro v hv
    have he := hD.pst u (by omega)
    rw [e 426 u (by omega)] at hv
    rw [e 427 (6 * u + v) (by omega)]
    exact hD.psk u hu v hv
  · intro u hu
    rw [ec] at hu
    by_cases cu : u = M 412 11
    · rw [cu]; exact n_dur
    · rw [e 428 u (by omega)]; exact hD.dur u (by omega)
  · intro u hu
    rw [ec] at hu
    by_cases cu : u = M 412 11
    · rw [cu]; exact n_pat
    · rw [e 429 u (by omega)]; exact hD.pat u (by omega)
  · intro u hu
    rw [ec] at hu
    by_cases cu : u = M 412 11
    · rw [cu]; exact n_ned
    · rw [e 430 u (by omega)]; exact hD.ned u (by omega)
  · intro u hu
    rw [ec] at hu
    by_cases cu : u = M 412 11
    · rw [cu]; exact n_kgn
    · rw [e 431 u (by omega)]; exact hD.kgn u (by omega)
  · intro u hu
    rw [ec] at hu
    by_cases cu : u = M 412 11
    · rw [cu]; exact n_kg
    · intro v hv
      have he := hD.kgn u (by omega)
      rw [e 431 u (by omega)] at hv
      rw [e 432 (6 * u + v) (by omega)]
      have := hD.kg u (by omega) v hv
      omega
  · intro u hu
    rw [ec] at hu
    by_cases cu : u = M 412 11
    · rw [cu]; exact n_ken
    · rw [e 433 u (by omega)]; exact hD.ken u (by omega)
  · intro u hu
    rw [ec] at hu
    by_cases cu : u = M 412 11
    · rw [cu]; exact n_ke
    · intro v hv
      have he := hD.ken u (by omega)
      rw [e 433 u (by omega)] at hv
      rw [e 434 (5 * u + v) (by omega)]
      have := hD.ke u (by omega) v hv
      omega
  · intro u hu
    rw [ec] at hu
    by_cases cu : u = M 412 11
    · rw [cu]; exact n_ked
    · intro i j hij hj
      have he := hD.ken u (by omega)
      rw [e 433 u (by omega)] at hj
      rw [e 434 (5 * u + i) (by omega), e 434 (5 * u + j) (by omega)]; exact hD.ked u (by omega) i j hij hj
