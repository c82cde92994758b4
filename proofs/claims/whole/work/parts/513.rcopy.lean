/-! the reference takes a text ahead of the class's array: the same, where the reference alone need stand -/
def ShR (h : aH) : Prop := 448 ≤ h_nx h ∧ (∀ q ∈ shL, 398 ≤ q.1 → q.1 < 448 → h_sh h q.1 = q.2.1 ∧ (q.2.1 < 10 → h_ln h q.1 = q.2.2)) ∧ ∀ q ∈ ptL, 398 ≤ q.1 → h_rv h q.1 q.2.1 = q.2.2
theorem ShR.si {h : aH} (hS : ShR h) (o k : Nat) (x : Int32) : ShR (h_si h o k x) := hS
theorem ShR.sL {h : aH} (hS : ShR h) (o k : Nat) (x : Int64) : ShR (h_sL h o k x) := hS
theorem Fx.shR {A : Nat → Nat → Prop} {h h' : aH} (x : Fx A h h') (hS : ShR h) : ShR h' := by
  obtain ⟨x1, x2, x3, x4, x5, -⟩ := x
  refine ⟨?_, fun q hq q1 q2 => ?_, fun q hq q1 => ?_⟩
  · rw [x1]; exact hS.1
  · rw [x3, x4]; exact hS.2.1 q hq q1 q2
  · rw [x5]; exact hS.2.2 q hq q1
theorem rR_c399 {h : aH} (hS : ShR h) : h_sh h (399) = 1 ∧ h_ln h (399) = 603 := ⟨(hS.2.1 _ r_c399m (by decide) (by decide)).1, (hS.2.1 _ r_c399m (by decide) (by decide)).2 (show (1 : Nat) < 10 by decide)⟩
theorem rR_c403 {h : aH} (hS : ShR h) : h_sh h (403) = 3 ∧ h_ln h (403) = 2 := ⟨(hS.2.1 _ r_c403m (by decide) (by decide)).1, (hS.2.1 _ r_c403m (by decide) (by decide)).2 (show (3 : Nat) < 10 by decide)⟩
theorem rR_c404 {h : aH} (hS : ShR h) : h_sh h (404) = 1 ∧ h_ln h (404) = 4 := ⟨(hS.2.1 _ r_c404m (by decide) (by decide)).1, (hS.2.1 _ r_c404m (by decide) (by decide)).2 (show (1 : Nat) < 10 by decide)⟩
theorem rR_c405 {h : aH} (hS : ShR h) : h_sh h (405) = 4 ∧ h_ln h (405) = 29 := ⟨(hS.2.1 _ r_c405m (by decide) (by decide)).1, (hS.2.1 _ r_c405m (by decide) (by decide)).2 (show (4 : Nat) < 10 by decide)⟩
theorem rR_c406 {h : aH} (hS : ShR h) : h_sh h (406) = 1 ∧ h_ln h (406) = 12 := ⟨(hS.2.1 _ r_c406m (by decide) (by decide)).1, (hS.2.1 _ r_c406m (by decide) (by decide)).2 (show (1 : Nat) < 10 by decide)⟩
theorem rR_c407 {h : aH} (hS : ShR h) : h_sh h (407) = 1 ∧ h_ln h (407) = 12 := ⟨(hS.2.1 _ r_c407m (by decide) (by decide)).1, (hS.2.1 _ r_c407m (by decide) (by decide)).2 (show (1 : Nat) < 10 by decide)⟩
theorem rR_c408 {h : aH} (hS : ShR h) : h_sh h (408) = 1 ∧ h_ln h (408) = 6 := ⟨(hS.2.1 _ r_c408m (by decide) (by decide)).1, (hS.2.1 _ r_c408m (by decide) (by decide)).2 (show (1 : Nat) < 10 by decide)⟩
theorem rR_c409 {h : aH} (hS : ShR h) : h_sh h (409) = 1 ∧ h_ln h (409) = 6 := ⟨(hS.2.1 _ r_c409m (by decide) (by decide)).1, (hS.2.1 _ r_c409m (by decide) (by decide)).2 (show (1 : Nat) < 10 by decide)⟩
theorem rR_c410 {h : aH} (hS : ShR h) : h_sh h (410) = 1 ∧ h_ln h (410) = 6 := ⟨(hS.2.1 _ r_c410m (by decide) (by decide)).1, (hS.2.1 _ r_c410m (by decide) (by decide)).2 (show (1 : Nat) < 10 by decide)⟩
theorem rR_c411 {h : aH} (hS : ShR h) : h_sh h (411) = 1 ∧ h_ln h (411) = 5 := ⟨(hS.2.1 _ r_c411m (by decide) (by decide)).1, (hS.2.1 _ r_c411m (by decide) (by decide)).2 (show (1 : Nat) < 10 by decide)⟩
theorem rR_c412 {h : aH} (hS : ShR h) : h_sh h (412) = 1 ∧ h_ln h (412) = 5 := ⟨(hS.2.1 _ r_c412m (by decide) (by decide)).1, (hS.2.1 _ r_c412m (by decide) (by decide)).2 (show (1 : Nat) < 10 by decide)⟩
theorem rR_c413 {h : aH} (hS : ShR h) : h_sh h (413) = 1 ∧ h_ln h (413) = 30 := ⟨(hS.2.1 _ r_c413m (by decide) (by decide)).1, (hS.2.1 _ r_c413m (by decide) (by decide)).2 (show (1 : Nat) < 10 by decide)⟩
theorem rR_c414 {h : aH} (hS : ShR h) : h_sh h (414) = 1 ∧ h_ln h (414) = 6 := ⟨(hS.2.1 _ r_c414m (by decide) (by decide)).1, (hS.2.1 _ r_c414m (by decide) (by decide)).2 (show (1 : Nat) < 10 by decide)⟩
theorem rR_c415 {h : aH} (hS : ShR h) : h_sh h (415) = 1 ∧ h_ln h (415) = 6 := ⟨(hS.2.1 _ r_c415m (by decide) (by decide)).1, (hS.2.1 _ r_c415m (by decide) (by decide)).2 (show (1 : Nat) < 10 by decide)⟩
theorem rR_c416 {h : aH} (hS : ShR h) : h_sh h (416) = 1 ∧ h_ln h (416) = 6 := ⟨(hS.2.1 _ r_c416m (by decide) (by decide)).1, (hS.2.1 _ r_c416m (by decide) (by decide)).2 (show (1 : Nat) < 10 by decide)⟩
theorem rR_c417 {h : aH} (hS : ShR h) : h_sh h (417) = 1 ∧ h_ln h (417) = 6 := ⟨(hS.2.1 _ r_c417m (by decide) (by decide)).1, (hS.2.1 _ r_c417m (by decide) (by decide)).2 (show (1 : Nat) < 10 by decide)⟩
theorem rR_c418 {h : aH} (hS : ShR h) : h_sh h (418) = 1 ∧ h_ln h (418) = 36 := ⟨(hS.2.1 _ r_c418m (by decide) (by decide)).1, (hS.2.1 _ r_c418m (by decide) (by decide)).2 (show (1 : Nat) < 10 by decide)⟩
theorem rR_c419 {h : aH} (hS : ShR h) : h_sh h (419) = 1 ∧ h_ln h (419) = 6 := ⟨(hS.2.1 _ r_c419m (by decide) (by decide)).1, (hS.2.1 _ r_c419m (by decide) (by decide)).2 (show (1 : Nat) < 10 by decide)⟩
theorem rR_c420 {h : aH} (hS : ShR h) : h_sh h (420) = 1 ∧ h_ln h (420) = 30 := ⟨(hS.2.1 _ r_c420m (by decide) (by decide)).1, (hS.2.1 _ r_c420m (by decide) (by decide)).2 (show (1 : Nat) < 10 by decide)⟩
theorem rR_c422 {h : aH} (hS : ShR h) : h_sh h (422) = 1 ∧ h_ln h (422) = 4 := ⟨(hS.2.1 _ r_c422m (by decide) (by decide)).1, (hS.2.1 _ r_c422m (by decide) (by decide)).2 (show (1 : Nat) < 10 by decide)⟩
theorem rR_c423 {h : aH} (hS : ShR h) : h_sh h (423) = 4 ∧ h_ln h (423) = 29 := ⟨(hS.2.1 _ r_c423m (by decide) (by decide)).1, (hS.2.1 _ r_c423m (by decide) (by decide)).2 (show (4 : Nat) < 10 by decide)⟩
theorem rR_c424 {h : aH} (hS : ShR h) : h_sh h (424) = 1 ∧ h_ln h (424) = 12 := ⟨(hS.2.1 _ r_c424m (by decide) (by decide)).1, (hS.2.1 _ r_c424m (by decide) (by decide)).2 (show (1 : Nat) < 10 by decide)⟩
theorem rR_c425 {h : aH} (hS : ShR h) : h_sh h (425) = 1 ∧ h_ln h (425) = 12 := ⟨(hS.2.1 _ r_c425m (by decide) (by decide)).1, (hS.2.1 _ r_c425m (by decide) (by decide)).2 (show (1 : Nat) < 10 by decide)⟩
theorem rR_c426 {h : aH} (hS : ShR h) : h_sh h (426) = 1 ∧ h_ln h (426) = 144 := ⟨(hS.2.1 _ r_c426m (by decide) (by decide)).1, (hS.2.1 _ r_c426m (by decide) (by decide)).2 (show (1 : Nat) < 10 by decide)⟩
theorem rR_c428 {h : aH} (hS : ShR h) : h_sh h (428) = 1 ∧ h_ln h (428) = 6 := ⟨(hS.2.1 _ r_c428m (by decide) (by decide)).1, (hS.2.1 _ r_c428m (by decide) (by decide)).2 (show (1 : Nat) < 10 by decide)⟩
theorem rR_c429 {h : aH} (hS : ShR h) : h_sh h (429) = 1 ∧ h_ln h (429) = 6 := ⟨(hS.2.1 _ r_c429m (by decide) (by decide)).1, (hS.2.1 _ r_c429m (by decide) (by decide)).2 (show (1 : Nat) < 10 by decide)⟩
theorem rR_c430 {h : aH} (hS : ShR h) : h_sh h (430) = 1 ∧ h_ln h (430) = 6 := ⟨(hS.2.1 _ r_c430m (by decide) (by decide)).1, (hS.2.1 _ r_c430m (by decide) (by decide)).2 (show (1 : Nat) < 10 by decide)⟩
theorem rR_c431 {h : aH} (hS : ShR h) : h_sh h (431) = 1 ∧ h_ln h (431) = 48 := ⟨(hS.2.1 _ r_c431m (by decide) (by decide)).1, (hS.2.1 _ r_c431m (by decide) (by decide)).2 (show (1 : Nat) < 10 by decide)⟩
theorem rR_c432 {h : aH} (hS : ShR h) : h_sh h (432) = 1 ∧ h_ln h (432) = 5 := ⟨(hS.2.1 _ r_c432m (by decide) (by decide)).1, (hS.2.1 _ r_c432m (by decide) (by decide)).2 (show (1 : Nat) < 10 by decide)⟩
theorem rR_c433 {h : aH} (hS : ShR h) : h_sh h (433) = 1 ∧ h_ln h (433) = 5 := ⟨(hS.2.1 _ r_c433m (by decide) (by decide)).1, (hS.2.1 _ r_c433m (by decide) (by decide)).2 (show (1 : Nat) < 10 by decide)⟩
theorem rR_c434 {h : aH} (hS : ShR h) : h_sh h (434) = 1 ∧ h_ln h (434) = 30 := ⟨(hS.2.1 _ r_c434m (by decide) (by decide)).1, (hS.2.1 _ r_c434m (by decide) (by decide)).2 (show (1 : Nat) < 10 by decide)⟩
theorem rR_c435 {h : aH} (hS : ShR h) : h_sh h (435) = 1 ∧ h_ln h (435) = 6 := ⟨(hS.2.1 _ r_c435m (by decide) (by decide)).1, (hS.2.1 _ r_c435m (by decide) (by decide)).2 (show (1 : Nat) < 10 by decide)⟩
theorem rR_c436 {h : aH} (hS : ShR h) : h_sh h (436) = 1 ∧ h_ln h (436) = 6 := ⟨(hS.2.1 _ r_c436m (by decide) (by decide)).1, (hS.2.1 _ r_c436m (by decide) (by decide)).2 (show (1 : Nat) < 10 by decide)⟩
theorem rR_c437 {h : aH} (hS : ShR h) : h_sh h (437) = 1 ∧ h_ln h (437) = 6 := ⟨(hS.2.1 _ r_c437m (by decide) (by decide)).1, (hS.2.1 _ r_c437m (by decide) (by decide)).2 (show (1 : Nat) < 10 by decide)⟩
theorem rR_c438 {h : aH} (hS : ShR h) : h_sh h (438) = 1 ∧ h_ln h (438) = 6 := ⟨(hS.2.1 _ r_c438m (by decide) (by decide)).1, (hS.2.1 _ r_c438m (by decide) (by decide)).2 (show (1 : Nat) < 10 by decide)⟩
theorem rR_c439 {h : aH} (hS : ShR h) : h_sh h (439) = 1 ∧ h_ln h (439) = 36 := ⟨(hS.2.1 _ r_c439m (by decide) (by decide)).1, (hS.2.1 _ r_c439m (by decide) (by decide)).2 (show (1 : Nat) < 10 by decide)⟩
theorem rR_c440 {h : aH} (hS : ShR h) : h_sh h (440) = 1 ∧ h_ln h (440) = 6 := ⟨(hS.2.1 _ r_c440m (by decide) (by decide)).1, (hS.2.1 _ r_c440m (by decide) (by decide)).2 (show (1 : Nat) < 10 by decide)⟩
theorem rR_c441 {h : aH} (hS : ShR h) : h_sh h (441) = 1 ∧ h_ln h (441) = 30 := ⟨(hS.2.1 _ r_c441m (by decide) (by decide)).1, (hS.2.1 _ r_c441m (by decide) (by decide)).2 (show (1 : Nat) < 10 by decide)⟩
theorem rR_cM {h : aH} (hS : ShR h) : h_sh h (398) = 10 + 12 := (hS.2.1 _ r_cMm (by decide) (by decide)).1
theorem rR_c399_as {h : aH} (hS : ShR h) {n : Nat} (x : Int32) (hn : n < 603) : asi h (399) (nI n) x = some (h_si h (399) n x) := asi_ok (rR_c399 hS).1 (rR_c399 hS).2 hn (by omega)
theorem rR_c403_as {h : aH} (hS : ShR h) {n : Nat} {x : Int32} (hn : n < 2) (hx : x = 0 ∨ x = 1) : asz h (403) (nI n) x = some (h_si h (403) n x) := asz_ok (rR_c403 hS).1 (rR_c403 hS).2 hn (by omega) hx
theorem rR_c404_as {h : aH} (hS : ShR h) {n : Nat} (x : Int32) (hn : n < 4) : asi h (404) (nI n) x = some (h_si h (404) n x) := asi_ok (rR_c404 hS).1 (rR_c404 hS).2 hn (by omega)
theorem rR_c405_as {h : aH} (hS : ShR h) {n : Nat} (x : Int64) (hn : n < 29) : asL h (405) (nI n) x = some (h_sL h (405) n x) := asL_ok (rR_c405 hS).1 (rR_c405 hS).2 hn (by omega)
theorem rR_c406_as {h : aH} (hS : ShR h) {n : Nat} (x : Int32) (hn : n < 12) : asi h (406) (nI n) x = some (h_si h (406) n x) := asi_ok (rR_c406 hS).1 (rR_c406 hS).2 hn (by omega)
theorem rR_c407_as {h : aH} (hS : ShR h) {n : Nat} (x : Int32) (hn : n < 12) : asi h (407) (nI n) x = some (h_si h (407) n x) := asi_ok (rR_c407 hS).1 (rR_c407 hS).2 hn (by omega)
theorem rR_c408_as {h : aH} (hS : ShR h) {n : Nat} (x : Int32) (hn : n < 6) : asi h (408) (nI n) x = some (h_si h (408) n x) := asi_ok (rR_c408 hS).1 (rR_c408 hS).2 hn (by omega)
theorem rR_c409_as {h : aH} (hS : ShR h) {n : Nat} (x : Int32) (hn : n < 6) : asi h (409) (nI n) x = some (h_si h (409) n x) := asi_ok (rR_c409 hS).1 (rR_c409 hS).2 hn (by omega)
theorem rR_c410_as {h : aH} (hS : ShR h) {n : Nat} (x : Int32) (hn : n < 6) : asi h (410) (nI n) x = some (h_si h (410) n x) := asi_ok (rR_c410 hS).1 (rR_c410 hS).2 hn (by omega)
theorem rR_c411_as {h : aH} (hS : ShR h) {n : Nat} (x : Int32) (hn : n < 5) : asi h (411) (nI n) x = some (h_si h (411) n x) := asi_ok (rR_c411 hS).1 (rR_c411 hS).2 hn (by omega)
theorem rR_c412_as {h : aH} (hS : ShR h) {n : Nat} (x : Int32) (hn : n < 5) : asi h (412) (nI n) x = some (h_si h (412) n x) := asi_ok (rR_c412 hS).1 (rR_c412 hS).2 hn (by omega)
theorem rR_c413_as {h : aH} (hS : ShR h) {n : Nat} (x : Int32) (hn : n < 30) : asi h (413) (nI n) x = some (h_si h (413) n x) := asi_ok (rR_c413 hS).1 (rR_c413 hS).2 hn (by omega)
theorem rR_c414_as {h : aH} (hS : ShR h) {n : Nat} (x : Int32) (hn : n < 6) : asi h (414) (nI n) x = some (h_si h (414) n x) := asi_ok (rR_c414 hS).1 (rR_c414 hS).2 hn (by omega)
theorem rR_c415_as {h : aH} (hS : ShR h) {n : Nat} (x : Int32) (hn : n < 6) : asi h (415) (nI n) x = some (h_si h (415) n x) := asi_ok (rR_c415 hS).1 (rR_c415 hS).2 hn (by omega)
theorem rR_c416_as {h : aH} (hS : ShR h) {n : Nat} (x : Int32) (hn : n < 6) : asi h (416) (nI n) x = some (h_si h (416) n x) := asi_ok (rR_c416 hS).1 (rR_c416 hS).2 hn (by omega)
theorem rR_c417_as {h : aH} (hS : ShR h) {n : Nat} (x : Int32) (hn : n < 6) : asi h (417) (nI n) x = some (h_si h (417) n x) := asi_ok (rR_c417 hS).1 (rR_c417 hS).2 hn (by omega)
theorem rR_c418_as {h : aH} (hS : ShR h) {n : Nat} (x : Int32) (hn : n < 36) : asi h (418) (nI n) x = some (h_si h (418) n x) := asi_ok (rR_c418 hS).1 (rR_c418 hS).2 hn (by omega)
theorem rR_c419_as {h : aH} (hS : ShR h) {n : Nat} (x : Int32) (hn : n < 6) : asi h (419) (nI n) x = some (h_si h (419) n x) := asi_ok (rR_c419 hS).1 (rR_c419 hS).2 hn (by omega)
theorem rR_c420_as {h : aH} (hS : ShR h) {n : Nat} (x : Int32) (hn : n < 30) : asi h (420) (nI n) x = some (h_si h (420) n x) := asi_ok (rR_c420 hS).1 (rR_c420 hS).2 hn (by omega)
theorem rR_c422_al {h : aH} (hS : ShR h) {n : Nat} (hn : n < 4) : ali h 1 (422) (nI n) = some (h_iv h (422) n) := ali_ok (rR_c422 hS).1 (rR_c422 hS).2 hn (by omega)
theorem rR_c423_al {h : aH} (hS : ShR h) {n : Nat} (hn : n < 29) : alL h (423) (nI n) = some (h_lv h (423) n) := alL_ok (rR_c423 hS).1 (rR_c423 hS).2 hn (by omega)
theorem rR_c424_al {h : aH} (hS : ShR h) {n : Nat} (hn : n < 12) : ali h 1 (424) (nI n) = some (h_iv h (424) n) := ali_ok (rR_c424 hS).1 (rR_c424 hS).2 hn (by omega)
theorem rR_c425_al {h : aH} (hS : ShR h) {n : Nat} (hn : n < 12) : ali h 1 (425) (nI n) = some (h_iv h (425) n) := ali_ok (rR_c425 hS).1 (rR_c425 hS).2 hn (by omega)
theorem rR_c426_al {h : aH} (hS : ShR h) {n : Nat} (hn : n < 144) : ali h 1 (426) (nI n) = some (h_iv h (426) n) := ali_ok (rR_c426 hS).1 (rR_c426 hS).2 hn (by omega)
theorem rR_c428_al {h : aH} (hS : ShR h) {n : Nat} (hn : n < 6) : ali h 1 (428) (nI n) = some (h_iv h (428) n) := ali_ok (rR_c428 hS).1 (rR_c428 hS).2 hn (by omega)
theorem rR_c429_al {h : aH} (hS : ShR h) {n : Nat} (hn : n < 6) : ali h 1 (429) (nI n) = some (h_iv h (429) n) := ali_ok (rR_c429 hS).1 (rR_c429 hS).2 hn (by omega)
theorem rR_c430_al {h : aH} (hS : ShR h) {n : Nat} (hn : n < 6) : ali h 1 (430) (nI n) = some (h_iv h (430) n) := ali_ok (rR_c430 hS).1 (rR_c430 hS).2 hn (by omega)
theorem rR_c431_al {h : aH} (hS : ShR h) {n : Nat} (hn : n < 48) : ali h 1 (431) (nI n) = some (h_iv h (431) n) := ali_ok (rR_c431 hS).1 (rR_c431 hS).2 hn (by omega)
theorem rR_c432_al {h : aH} (hS : ShR h) {n : Nat} (hn : n < 5) : ali h 1 (432) (nI n) = some (h_iv h (432) n) := ali_ok (rR_c432 hS).1 (rR_c432 hS).2 hn (by omega)
theorem rR_c433_al {h : aH} (hS : ShR h) {n : Nat} (hn : n < 5) : ali h 1 (433) (nI n) = some (h_iv h (433) n) := ali_ok (rR_c433 hS).1 (rR_c433 hS).2 hn (by omega)
theorem rR_c434_al {h : aH} (hS : ShR h) {n : Nat} (hn : n < 30) : ali h 1 (434) (nI n) = some (h_iv h (434) n) := ali_ok (rR_c434 hS).1 (rR_c434 hS).2 hn (by omega)
theorem rR_c435_al {h : aH} (hS : ShR h) {n : Nat} (hn : n < 6) : ali h 1 (435) (nI n) = some (h_iv h (435) n) := ali_ok (rR_c435 hS).1 (rR_c435 hS).2 hn (by omega)
theorem rR_c436_al {h : aH} (hS : ShR h) {n : Nat} (hn : n < 6) : ali h 1 (436) (nI n) = some (h_iv h (436) n) := ali_ok (rR_c436 hS).1 (rR_c436 hS).2 hn (by omega)
theorem rR_c437_al {h : aH} (hS : ShR h) {n : Nat} (hn : n < 6) : ali h 1 (437) (nI n) = some (h_iv h (437) n) := ali_ok (rR_c437 hS).1 (rR_c437 hS).2 hn (by omega)
theorem rR_c438_al {h : aH} (hS : ShR h) {n : Nat} (hn : n < 6) : ali h 1 (438) (nI n) = some (h_iv h (438) n) := ali_ok (rR_c438 hS).1 (rR_c438 hS).2 hn (by omega)
theorem rR_c439_al {h : aH} (hS : ShR h) {n : Nat} (hn : n < 36) : ali h 1 (439) (nI n) = some (h_iv h (439) n) := ali_ok (rR_c439 hS).1 (rR_c439 hS).2 hn (by omega)
theorem rR_c440_al {h : aH} (hS : ShR h) {n : Nat} (hn : n < 6) : ali h 1 (440) (nI n) = some (h_iv h (440) n) := ali_ok (rR_c440 hS).1 (rR_c440 hS).2 hn (by omega)
theorem rR_c441_al {h : aH} (hS : ShR h) {n : Nat} (hn : n < 30) : ali h 1 (441) (nI n) = some (h_iv h (441) n) := ali_ok (rR_c441 hS).1 (rR_c441 hS).2 hn (by omega)
theorem rR_cM_gi {h : aH} (hS : ShR h) (k : Nat) : gi h 12 (398) k = some (h_iv h (398) k) := gi_ok (rR_cM hS)
theorem rR_cM_pi {h : aH} (hS : ShR h) (k : Nat) (x : Int32) : pi h 12 (398) k x = some (h_si h (398) k x) := pi_ok (rR_cM hS)
theorem rR_p399 {h : aH} (hS : ShR h) : gr h 12 (398) 1 = some (399) := gr_ok9 (rR_cM hS) (hS.2.2 _ r_p399m (by decide)) (by decide)
theorem rR_p403 {h : aH} (hS : ShR h) : gr h 12 (398) 5 = some (403) := gr_ok9 (rR_cM hS) (hS.2.2 _ r_p403m (by decide)) (by decide)
theorem rR_p404 {h : aH} (hS : ShR h) : gr h 12 (398) 7 = some (404) := gr_ok9 (rR_cM hS) (hS.2.2 _ r_p404m (by decide)) (by decide)
theorem rR_p405 {h : aH} (hS : ShR h) : gr h 12 (398) 12 = some (405) := gr_ok9 (rR_cM hS) (hS.2.2 _ r_p405m (by decide)) (by decide)
theorem rR_p406 {h : aH} (hS : ShR h) : gr h 12 (398) 13 = some (406) := gr_ok9 (rR_cM hS) (hS.2.2 _ r_p406m (by decide)) (by decide)
theorem rR_p407 {h : aH} (hS : ShR h) : gr h 12 (398) 14 = some (407) := gr_ok9 (rR_cM hS) (hS.2.2 _ r_p407m (by decide)) (by decide)
theorem rR_p408 {h : aH} (hS : ShR h) : gr h 12 (398) 15 = some (408) := gr_ok9 (rR_cM hS) (hS.2.2 _ r_p408m (by decide)) (by decide)
theorem rR_p409 {h : aH} (hS : ShR h) : gr h 12 (398) 16 = some (409) := gr_ok9 (rR_cM hS) (hS.2.2 _ r_p409m (by decide)) (by decide)
theorem rR_p410 {h : aH} (hS : ShR h) : gr h 12 (398) 17 = some (410) := gr_ok9 (rR_cM hS) (hS.2.2 _ r_p410m (by decide)) (by decide)
theorem rR_p411 {h : aH} (hS : ShR h) : gr h 12 (398) 18 = some (411) := gr_ok9 (rR_cM hS) (hS.2.2 _ r_p411m (by decide)) (by decide)
theorem rR_p412 {h : aH} (hS : ShR h) : gr h 12 (398) 19 = some (412) := gr_ok9 (rR_cM hS) (hS.2.2 _ r_p412m (by decide)) (by decide)
theorem rR_p413 {h : aH} (hS : ShR h) : gr h 12 (398) 20 = some (413) := gr_ok9 (rR_cM hS) (hS.2.2 _ r_p413m (by decide)) (by decide)
theorem rR_p414 {h : aH} (hS : ShR h) : gr h 12 (398) 21 = some (414) := gr_ok9 (rR_cM hS) (hS.2.2 _ r_p414m (by decide)) (by decide)
theorem rR_p415 {h : aH} (hS : ShR h) : gr h 12 (398) 22 = some (415) := gr_ok9 (rR_cM hS) (hS.2.2 _ r_p415m (by decide)) (by decide)
theorem rR_p416 {h : aH} (hS : ShR h) : gr h 12 (398) 23 = some (416) := gr_ok9 (rR_cM hS) (hS.2.2 _ r_p416m (by decide)) (by decide)
theorem rR_p417 {h : aH} (hS : ShR h) : gr h 12 (398) 24 = some (417) := gr_ok9 (rR_cM hS) (hS.2.2 _ r_p417m (by decide)) (by decide)
theorem rR_p418 {h : aH} (hS : ShR h) : gr h 12 (398) 25 = some (418) := gr_ok9 (rR_cM hS) (hS.2.2 _ r_p418m (by decide)) (by decide)
theorem rR_p419 {h : aH} (hS : ShR h) : gr h 12 (398) 26 = some (419) := gr_ok9 (rR_cM hS) (hS.2.2 _ r_p419m (by decide)) (by decide)
theorem rR_p420 {h : aH} (hS : ShR h) : gr h 12 (398) 27 = some (420) := gr_ok9 (rR_cM hS) (hS.2.2 _ r_p420m (by decide)) (by decide)
theorem rR_p422 {h : aH} (hS : ShR h) : gr h 12 (398) 38 = some (422) := gr_ok9 (rR_cM hS) (hS.2.2 _ r_p422m (by decide)) (by decide)
theorem rR_p423 {h : aH} (hS : ShR h) : gr h 12 (398) 44 = some (423) := gr_ok9 (rR_cM hS) (hS.2.2 _ r_p423m (by decide)) (by decide)
theorem rR_p424 {h : aH} (hS : ShR h) : gr h 12 (398) 45 = some (424) := gr_ok9 (rR_cM hS) (hS.2.2 _ r_p424m (by decide)) (by decide)
theorem rR_p425 {h : aH} (hS : ShR h) : gr h 12 (398) 46 = some (425) := gr_ok9 (rR_cM hS) (hS.2.2 _ r_p425m (by decide)) (by decide)
theorem rR_p426 {h : aH} (hS : ShR h) : gr h 12 (398) 47 = some (426) := gr_ok9 (rR_cM hS) (hS.2.2 _ r_p426m (by decide)) (by decide)
theorem rR_p428 {h : aH} (hS : ShR h) : gr h 12 (398) 49 = some (428) := gr_ok9 (rR_cM hS) (hS.2.2 _ r_p428m (by decide)) (by decide)
theorem rR_p429 {h : aH} (hS : ShR h) : gr h 12 (398) 50 = some (429) := gr_ok9 (rR_cM hS) (hS.2.2 _ r_p429m (by decide)) (by decide)
theorem rR_p430 {h : aH} (hS : ShR h) : gr h 12 (398) 51 = some (430) := gr_ok9 (rR_cM hS) (hS.2.2 _ r_p430m (by decide)) (by decide)
theorem rR_p431 {h : aH} (hS : ShR h) : gr h 12 (398) 52 = some (431) := gr_ok9 (rR_cM hS) (hS.2.2 _ r_p431m (by decide)) (by decide)
theorem rR_p432 {h : aH} (hS : ShR h) : gr h 12 (398) 53 = some (432) := gr_ok9 (rR_cM hS) (hS.2.2 _ r_p432m (by decide)) (by decide)
theorem rR_p433 {h : aH} (hS : ShR h) : gr h 12 (398) 54 = some (433) := gr_ok9 (rR_cM hS) (hS.2.2 _ r_p433m (by decide)) (by decide)
theorem rR_p434 {h : aH} (hS : ShR h) : gr h 12 (398) 55 = some (434) := gr_ok9 (rR_cM hS) (hS.2.2 _ r_p434m (by decide)) (by decide)
theorem rR_p435 {h : aH} (hS : ShR h) : gr h 12 (398) 56 = some (435) := gr_ok9 (rR_cM hS) (hS.2.2 _ r_p435m (by decide)) (by decide)
theorem rR_p436 {h : aH} (hS : ShR h) : gr h 12 (398) 57 = some (436) := gr_ok9 (rR_cM hS) (hS.2.2 _ r_p436m (by decide)) (by decide)
theorem rR_p437 {h : aH} (hS : ShR h) : gr h 12 (398) 58 = some (437) := gr_ok9 (rR_cM hS) (hS.2.2 _ r_p437m (by decide)) (by decide)
theorem rR_p438 {h : aH} (hS : ShR h) : gr h 12 (398) 59 = some (438) := gr_ok9 (rR_cM hS) (hS.2.2 _ r_p438m (by decide)) (by decide)
theorem rR_p439 {h : aH} (hS : ShR h) : gr h 12 (398) 60 = some (439) := gr_ok9 (rR_cM hS) (hS.2.2 _ r_p439m (by decide)) (by decide)
theorem rR_p440 {h : aH} (hS : ShR h) : gr h 12 (398) 61 = some (440) := gr_ok9 (rR_cM hS) (hS.2.2 _ r_p440m (by decide)) (by decide)
theorem rR_p441 {h : aH} (hS : ShR h) : gr h 12 (398) 62 = some (441) := gr_ok9 (rR_cM hS) (hS.2.2 _ r_p441m (by decide)) (by decide)
/-! the reference takes what was read loops -/
section
variable {g : aH}
theorem tR_L60 (Sg : ShR g) {k : aH → Option (Unit × aH)} (Z : Option (Unit × aH) → Prop) (hk : ∀ g', Fx (fun o j => (o = 404) ∧ j < 4) g g' → (∀ j, j < 4 → h_iv g' 404 j = h_iv g 422 j) → Z (k g')) : Z (aL1 (m_X12_takesText_L60 398 k) FU (nI 0) g) := by
  refine aL1_run (R := Z) (fun m s1 g' => ∃ i, i ≤ 4 ∧ m = 4 - i ∧ s1 = nI i ∧ Fx (fun o j => (o = 404) ∧ j < 4) g g' ∧ ∀ j, j < i → h_iv g' 404 j = h_iv g 422 j) ⟨0, Nat.zero_le _, rfl, rfl, Fx.rf, fun k r => absurd r (Nat.not_lt_zero k)⟩ (by omega) ?_
  rintro rec m s1 g' ⟨i, hi, rfl, rfl, F, f⟩ ih
  have S := F.shR Sg
  by_cases hlt : i < 4
  · have S1 : ShR (h_si g' 404 i (h_iv g' 422 i)) := S.si _ _ _
    simp (maxSteps := 3000000) (disch := first | assumption | omega) only [m_X12_takesText_L60, bO_v, bR_v, bX_l, bX_r, bC_l, bC_r, aLet_v, nI_add, pk_mul, dvI_n, rmI_n, iMax_n, iMin_n, zO_0, zO_1, li_0, li_1, li_2, li_3, li_4, li_5, li_6, li_7, li_8, li_9, li_10, li_12, li_14, li_15, li_16, li_18, li_19, li_20, li_22, li_23, li_24, li_26, li_29, li_30, li_31, li_32, li_36, li_38, li_48, li_50, li_57, li_58, li_59, li_60, li_63, li_97, li_99, li_120, li_122, li_144, li_168, li_194, li_240, li_255, li_284, li_299, li_603, li_999, li_1200, li_1440, li_4095, li_4096, li_6030, li_16384, li_20160, zl0, zl1, zl2, zl3, zl4, ze01, ze02, ze03, ze04, ze10, ze12, ze13, ze14, ze20, ze21, ze23, ze24, ze30, ze31, ze32, ze34, ze40, ze41, ze42, ze43, zt0, zt1, zt2, zt3, zt4, zq0, zq1, zq2, zq3, zq4, it_t, it_f, Bool.true_eq_false, Bool.false_eq_true, na5, na4, na1441, na2, na10, sx_IOIA, sx_IOIS, sx_IONS, sx_IAIO, sx_IAIS, sx_IANS, sx_ISIO, sx_ISIA, sx_ISNS, sx_NSIO, sx_NSIA, sx_NSIS, nI_ltI, rR_p404 S, rR_p422 S, rR_c422_al S, rR_c404_as S]
    rw [if_pos hlt]
    refine ih _ _ _ (by omega) ⟨i + 1, hlt, rfl, rfl, (F).trans (Fx.si (A := fun o j => (o = 404) ∧ j < 4) ⟨by omega, hlt⟩), fun j hj => ?_⟩
    by_cases cj : j = i
    · rw [cj]
      exact by rw [si_at]; exact F.iv (by omega)
    · exact by rw [si_ne (by omega)]; exact (f j (by omega))
  · obtain rfl : i = 4 := by omega
    simp (maxSteps := 3000000) (disch := first | assumption | omega) only [m_X12_takesText_L60, bO_v, bR_v, bX_l, bX_r, bC_l, bC_r, aLet_v, nI_add, pk_mul, dvI_n, rmI_n, iMax_n, iMin_n, zO_0, zO_1, li_0, li_1, li_2, li_3, li_4, li_5, li_6, li_7, li_8, li_9, li_10, li_12, li_14, li_15, li_16, li_18, li_19, li_20, li_22, li_23, li_24, li_26, li_29, li_30, li_31, li_32, li_36, li_38, li_48, li_50, li_57, li_58, li_59, li_60, li_63, li_97, li_99, li_120, li_122, li_144, li_168, li_194, li_240, li_255, li_284, li_299, li_603, li_999, li_1200, li_1440, li_4095, li_4096, li_6030, li_16384, li_20160, zl0, zl1, zl2, zl3, zl4, ze01, ze02, ze03, ze04, ze10, ze12, ze13, ze14, ze20, ze21, ze23, ze24, ze30, ze31, ze32, ze34, ze40, ze41, ze42, ze43, zt0, zt1, zt2, zt3, zt4, zq0, zq1, zq2, zq3, zq4, it_t, it_f, Bool.true_eq_false, Bool.false_eq_true, na5, na4, na1441, na2, na10, sx_IOIA, sx_IOIS, sx_IONS, sx_IAIO, sx_IAIS, sx_IANS, sx_ISIO, sx_ISIA, sx_ISNS, sx_NSIO, sx_NSIA, sx_NSIS, nI_ltI]
    rw [if_neg hlt]
    exact hk g' F f
theorem tR_L85 (Sg : ShR g) {k : aH → Option (Unit × aH)} (Z : Option (Unit × aH) → Prop) (hk : ∀ g', Fx (fun o j => (o = 406 ∨ o = 407) ∧ j < 12) g g' → (∀ j, j < 12 → h_iv g' 406 j = h_iv g 424 j ∧ h_iv g' 407 j = h_iv g 425 j) → Z (k g')) : Z (aL1 (m_X12_takesText_L85 398 k) FU (nI 0) g) := by
  refine aL1_run (R := Z) (fun m s1 g' => ∃ i, i ≤ 12 ∧ m = 12 - i ∧ s1 = nI i ∧ Fx (fun o j => (o = 406 ∨ o = 407) ∧ j < 12) g g' ∧ ∀ j, j < i → h_iv g' 406 j = h_iv g 424 j ∧ h_iv g' 407 j = h_iv g 425 j) ⟨0, Nat.zero_le _, rfl, rfl, Fx.rf, fun k r => absurd r (Nat.not_lt_zero k)⟩ (by omega) ?_
  rintro rec m s1 g' ⟨i, hi, rfl, rfl, F, f⟩ ih
  have S := F.shR Sg
  by_cases hlt : i < 12
  · have S1 : ShR (h_si g' 406 i (h_iv g' 424 i)) := S.si _ _ _
    have S2 : ShR (h_si (h_si g' 406 i (h_iv g' 424 i)) 407 i (h_iv g' 425 i)) := S1.si _ _ _
    have e1 : h_iv (h_si g' 406 i (h_iv g' 424 i)) 425 i = h_iv g' 425 i := by rw [si_ne (by omega)]
    simp (maxSteps := 3000000) (disch := first | assumption | omega) only [m_X12_takesText_L85, bO_v, bR_v, bX_l, bX_r, bC_l, bC_r, aLet_v, nI_add, pk_mul, dvI_n, rmI_n, iMax_n, iMin_n, zO_0, zO_1, li_0, li_1, li_2, li_3, li_4, li_5, li_6, li_7, li_8, li_9, li_10, li_12, li_14, li_15, li_16, li_18, li_19, li_20, li_22, li_23, li_24, li_26, li_29, li_30, li_31, li_32, li_36, li_38, li_48, li_50, li_57, li_58, li_59, li_60, li_63, li_97, li_99, li_120, li_122, li_144, li_168, li_194, li_240, li_255, li_284, li_299, li_603, li_999, li_1200, li_1440, li_4095, li_4096, li_6030, li_16384, li_20160, zl0, zl1, zl2, zl3, zl4, ze01, ze02, ze03, ze04, ze10, ze12, ze13, ze14, ze20, ze21, ze23, ze24, ze30, ze31, ze32, ze34, ze40, ze41, ze42, ze43, zt0, zt1, zt2, zt3, zt4, zq0, zq1, zq2, zq3, zq4, it_t, it_f, Bool.true_eq_false, Bool.false_eq_true, na5, na4, na1441, na2, na10, sx_IOIA, sx_IOIS, sx_IONS, sx_IAIO, sx_IAIS, sx_IANS, sx_ISIO, sx_ISIA, sx_ISNS, sx_NSIO, sx_NSIA, sx_NSIS, nI_ltI, rR_p406 S, rR_p424 S, rR_c424_al S, rR_c406_as S, rR_p407 S1, rR_p425 S1, rR_c425_al S1, rR_c407_as S1, e1]
    rw [if_pos hlt]
    refine ih _ _ _ (by omega) ⟨i + 1, hlt, rfl, rfl, ((F).trans (Fx.si (A := fun o j => (o = 406 ∨ o = 407) ∧ j < 12) ⟨by omega, hlt⟩)).trans (Fx.si (A := fun o j => (o = 406 ∨ o = 407) ∧ j < 12) ⟨by omega, hlt⟩), fun j hj => ?_⟩
    by_cases cj : j = i
    · rw [cj]
      exact ⟨by rw [si_ne (by omega), si_at]; exact F.iv (by omega), by rw [si_at]; exact F.iv (by omega)⟩
    · exact ⟨by rw [si_ne (by omega), si_ne (by omega)]; exact (f j (by omega)).1, by rw [si_ne (by omega), si_ne (by omega)]; exact (f j (by omega)).2⟩
  · obtain rfl : i = 12 := by omega
    simp (maxSteps := 3000000) (disch := first | assumption | omega) only [m_X12_takesText_L85, bO_v, bR_v, bX_l, bX_r, bC_l, bC_r, aLet_v, nI_add, pk_mul, dvI_n, rmI_n, iMax_n, iMin_n, zO_0, zO_1, li_0, li_1, li_2, li_3, li_4, li_5, li_6, li_7, li_8, li_9, li_10, li_12, li_14, li_15, li_16, li_18, li_19, li_20, li_22, li_23, li_24, li_26, li_29, li_30, li_31, li_32, li_36, li_38, li_48, li_50, li_57, li_58, li_59, li_60, li_63, li_97, li_99, li_120, li_122, li_144, li_168, li_194, li_240, li_255, li_284, li_299, li_603, li_999, li_1200, li_1440, li_4095, li_4096, li_6030, li_16384, li_20160, zl0, zl1, zl2, zl3, zl4, ze01, ze02, ze03, ze04, ze10, ze12, ze13, ze14, ze20, ze21, ze23, ze24, ze30, ze31, ze32, ze34, ze40, ze41, ze42, ze43, zt0, zt1, zt2, zt3, zt4, zq0, zq1, zq2, zq3, zq4, it_t, it_f, Bool.true_eq_false, Bool.false_eq_true, na5, na4, na1441, na2, na10, sx_IOIA, sx_IOIS, sx_IONS, sx_IAIO, sx_IAIS, sx_IANS, sx_ISIO, sx_ISIA, sx_ISNS, sx_NSIO, sx_NSIA, sx_NSIS, nI_ltI]
    rw [if_neg hlt]
    exact hk g' F f
theorem tR_L325 (Sg : ShR g) {k : aH → Option (Unit × aH)} (Z : Option (Unit × aH) → Prop) (hk : ∀ g', Fx (fun o j => (o = 411 ∨ o = 412) ∧ j < 5) g g' → (∀ j, j < 5 → h_iv g' 411 j = h_iv g 432 j ∧ h_iv g' 412 j = h_iv g 433 j) → Z (k g')) : Z (aL1 (m_X12_takesText_L325 398 k) FU (nI 0) g) := by
  refine aL1_run (R := Z) (fun m s1 g' => ∃ i, i ≤ 5 ∧ m = 5 - i ∧ s1 = nI i ∧ Fx (fun o j => (o = 411 ∨ o = 412) ∧ j < 5) g g' ∧ ∀ j, j < i → h_iv g' 411 j = h_iv g 432 j ∧ h_iv g' 412 j = h_iv g 433 j) ⟨0, Nat.zero_le _, rfl, rfl, Fx.rf, fun k r => absurd r (Nat.not_lt_zero k)⟩ (by omega) ?_
  rintro rec m s1 g' ⟨i, hi, rfl, rfl, F, f⟩ ih
  have S := F.shR Sg
  by_cases hlt : i < 5
  · have S1 : ShR (h_si g' 411 i (h_iv g' 432 i)) := S.si _ _ _
    have S2 : ShR (h_si (h_si g' 411 i (h_iv g' 432 i)) 412 i (h_iv g' 433 i)) := S1.si _ _ _
    have e1 : h_iv (h_si g' 411 i (h_iv g' 432 i)) 433 i = h_iv g' 433 i := by rw [si_ne (by omega)]
    simp (maxSteps := 3000000) (disch := first | assumption | omega) only [m_X12_takesText_L325, bO_v, bR_v, bX_l, bX_r, bC_l, bC_r, aLet_v, nI_add, pk_mul, dvI_n, rmI_n, iMax_n, iMin_n, zO_0, zO_1, li_0, li_1, li_2, li_3, li_4, li_5, li_6, li_7, li_8, li_9, li_10, li_12, li_14, li_15, li_16, li_18, li_19, li_20, li_22, li_23, li_24, li_26, li_29, li_30, li_31, li_32, li_36, li_38, li_48, li_50, li_57, li_58, li_59, li_60, li_63, li_97, li_99, li_120, li_122, li_144, li_168, li_194, li_240, li_255, li_284, li_299, li_603, li_999, li_1200, li_1440, li_4095, li_4096, li_6030, li_16384, li_20160, zl0, zl1, zl2, zl3, zl4, ze01, ze02, ze03, ze04, ze10, ze12, ze13, ze14, ze20, ze21, ze23, ze24, ze30, ze31, ze32, ze34, ze40, ze41, ze42, ze43, zt0, zt1, zt2, zt3, zt4, zq0, zq1, zq2, zq3, zq4, it_t, it_f, Bool.true_eq_false, Bool.false_eq_true, na5, na4, na1441, na2, na10, sx_IOIA, sx_IOIS, sx_IONS, sx_IAIO, sx_IAIS, sx_IANS, sx_ISIO, sx_ISIA, sx_ISNS, sx_NSIO, sx_NSIA, sx_NSIS, nI_ltI, rR_p411 S, rR_p432 S, rR_c432_al S, rR_c411_as S, rR_p412 S1, rR_p433 S1, rR_c433_al S1, rR_c412_as S1, e1]
    rw [if_pos hlt]
    refine ih _ _ _ (by omega) ⟨i + 1, hlt, rfl, rfl, ((F).trans (Fx.si (A := fun o j => (o = 411 ∨ o = 412) ∧ j < 5) ⟨by omega, hlt⟩)).trans (Fx.si (A := fun o j => (o = 411 ∨ o = 412) ∧ j < 5) ⟨by omega, hlt⟩), fun j hj => ?_⟩
    by_cases cj : j = i
    · rw [cj]
      exact ⟨by rw [si_ne (by omega), si_at]; exact F.iv (by omega), by rw [si_at]; exact F.iv (by omega)⟩
    · exact ⟨by rw [si_ne (by omega), si_ne (by omega)]; exact (f j (by omega)).1, by rw [si_ne (by omega), si_ne (by omega)]; exact (f j (by omega)).2⟩
  · obtain rfl : i = 5 := by omega
    simp (maxSteps := 3000000) (disch := first | assumption | omega) only [m_X12_takesText_L325, bO_v, bR_v, bX_l, bX_r, bC_l, bC_r, aLet_v, nI_add, pk_mul, dvI_n, rmI_n, iMax_n, iMin_n, zO_0, zO_1, li_0, li_1, li_2, li_3, li_4, li_5, li_6, li_7, li_8, li_9, li_10, li_12, li_14, li_15, li_16, li_18, li_19, li_20, li_22, li_23, li_24, li_26, li_29, li_30, li_31, li_32, li_36, li_38, li_48, li_50, li_57, li_58, li_59, li_60, li_63, li_97, li_99, li_120, li_122, li_144, li_168, li_194, li_240, li_255, li_284, li_299, li_603, li_999, li_1200, li_1440, li_4095, li_4096, li_6030, li_16384, li_20160, zl0, zl1, zl2, zl3, zl4, ze01, ze02, ze03, ze04, ze10, ze12, ze13, ze14, ze20, ze21, ze23, ze24, ze30, ze31, ze32, ze34, ze40, ze41, ze42, ze43, zt0, zt1, zt2, zt3, zt4, zq0, zq1, zq2, zq3, zq4, it_t, it_f, Bool.true_eq_false, Bool.false_eq_true, na5, na4, na1441, na2, na10, sx_IOIA, sx_IOIS, sx_IONS, sx_IAIO, sx_IAIS, sx_IANS, sx_ISIO, sx_ISIA, sx_ISNS, sx_NSIO, sx_NSIA, sx_NSIS, nI_ltI]
    rw [if_neg hlt]
    exact hk g' F f
theorem tR_L362 (Sg : ShR g) {k : aH → Option (Unit × aH)} (Z : Option (Unit × aH) → Prop) (hk : ∀ g', Fx (fun o j => (o = 418) ∧ j < 36) g g' → (∀ j, j < 36 → h_iv g' 418 j = h_iv g 439 j) → Z (k g')) : Z (aL1 (m_X12_takesText_L362 398 k) FU (nI 0) g) := by
  refine aL1_run (R := Z) (fun m s1 g' => ∃ i, i ≤ 36 ∧ m = 36 - i ∧ s1 = nI i ∧ Fx (fun o j => (o = 418) ∧ j < 36) g g' ∧ ∀ j, j < i → h_iv g' 418 j = h_iv g 439 j) ⟨0, Nat.zero_le _, rfl, rfl, Fx.rf, fun k r => absurd r (Nat.not_lt_zero k)⟩ (by omega) ?_
  rintro rec m s1 g' ⟨i, hi, rfl, rfl, F, f⟩ ih
  have S := F.shR Sg
  by_cases hlt : i < 36
  · have S1 : ShR (h_si g' 418 i (h_iv g' 439 i)) := S.si _ _ _
    simp (maxSteps := 3000000) (disch := first | assumption | omega) only [m_X12_takesText_L362, bO_v, bR_v, bX_l, bX_r, bC_l, bC_r, aLet_v, nI_add, pk_mul, dvI_n, rmI_n, iMax_n, iMin_n, zO_0, zO_1, li_0, li_1, li_2, li_3, li_4, li_5, li_6, li_7, li_8, li_9, li_10, li_12, li_14, li_15, li_16, li_18, li_19, li_20, li_22, li_23, li_24, li_26, li_29, li_30, li_31, li_32, li_36, li_38, li_48, li_50, li_57, li_58, li_59, li_60, li_63, li_97, li_99, li_120, li_122, li_144, li_168, li_194, li_240, li_255, li_284, li_299, li_603, li_999, li_1200, li_1440, li_4095, li_4096, li_6030, li_16384, li_20160, zl0, zl1, zl2, zl3, zl4, ze01, ze02, ze03, ze04, ze10, ze12, ze13, ze14, ze20, ze21, ze23, ze24, ze30, ze31, ze32, ze34, ze40, ze41, ze42, ze43, zt0, zt1, zt2, zt3, zt4, zq0, zq1, zq2, zq3, zq4, it_t, it_f, Bool.true_eq_false, Bool.false_eq_true, na5, na4, na1441, na2, na10, sx_IOIA, sx_IOIS, sx_IONS, sx_IAIO, sx_IAIS, sx_IANS, sx_ISIO, sx_ISIA, sx_ISNS, sx_NSIO, sx_NSIA, sx_NSIS, nI_ltI, rR_p418 S, rR_p439 S, rR_c439_al S, rR_c418_as S]
    rw [if_pos hlt]
    refine ih _ _ _ (by omega) ⟨i + 1, hlt, rfl, rfl, (F).trans (Fx.si (A := fun o j => (o = 418) ∧ j < 36) ⟨by omega, hlt⟩), fun j hj => ?_⟩
    by_cases cj : j = i
    · rw [cj]
      exact by rw [si_at]; exact F.iv (by omega)
    · exact by rw [si_ne (by omega)]; exact (f j (by omega))
  · obtain rfl : i = 36 := by omega
    simp (maxSteps := 3000000) (disch := first | assumption | omega) only [m_X12_takesText_L362, bO_v, bR_v, bX_l, bX_r, bC_l, bC_r, aLet_v, nI_add, pk_mul, dvI_n, rmI_n, iMax_n, iMin_n, zO_0, zO_1, li_0, li_1, li_2, li_3, li_4, li_5, li_6, li_7, li_8, li_9, li_10, li_12, li_14, li_15, li_16, li_18, li_19, li_20, li_22, li_23, li_24, li_26, li_29, li_30, li_31, li_32, li_36, li_38, li_48, li_50, li_57, li_58, li_59, li_60, li_63, li_97, li_99, li_120, li_122, li_144, li_168, li_194, li_240, li_255, li_284, li_299, li_603, li_999, li_1200, li_1440, li_4095, li_4096, li_6030, li_16384, li_20160, zl0, zl1, zl2, zl3, zl4, ze01, ze02, ze03, ze04, ze10, ze12, ze13, ze14, ze20, ze21, ze23, ze24, ze30, ze31, ze32, ze34, ze40, ze41, ze42, ze43, zt0, zt1, zt2, zt3, zt4, zq0, zq1, zq2, zq3, zq4, it_t, it_f, Bool.true_eq_false, Bool.false_eq_true, na5, na4, na1441, na2, na10, sx_IOIA, sx_IOIS, sx_IONS, sx_IAIO, sx_IAIS, sx_IANS, sx_ISIO, sx_ISIA, sx_ISNS, sx_NSIO, sx_NSIA, sx_NSIS, nI_ltI]
    rw [if_neg hlt]
    exact hk g' F f
theorem tR_L388 (Sg : ShR g) {k : aH → Option (Unit × aH)} (Z : Option (Unit × aH) → Prop) (hk : ∀ g', Fx (fun o j => (o = 413 ∨ o = 420) ∧ j < 30) g g' → (∀ j, j < 30 → h_iv g' 413 j = h_iv g 434 j ∧ h_iv g' 420 j = h_iv g 441 j) → Z (k g')) : Z (aL1 (m_X12_takesText_L388 398 k) FU (nI 0) g) := by
  refine aL1_run (R := Z) (fun m s1 g' => ∃ i, i ≤ 30 ∧ m = 30 - i ∧ s1 = nI i ∧ Fx (fun o j => (o = 413 ∨ o = 420) ∧ j < 30) g g' ∧ ∀ j, j < i → h_iv g' 413 j = h_iv g 434 j ∧ h_iv g' 420 j = h_iv g 441 j) ⟨0, Nat.zero_le _, rfl, rfl, Fx.rf, fun k r => absurd r (Nat.not_lt_zero k)⟩ (by omega) ?_
  rintro rec m s1 g' ⟨i, hi, rfl, rfl, F, f⟩ ih
  have S := F.shR Sg
  by_cases hlt : i < 30
  · have S1 : ShR (h_si g' 413 i (h_iv g' 434 i)) := S.si _ _ _
    have S2 : ShR (h_si (h_si g' 413 i (h_iv g' 434 i)) 420 i (h_iv g' 441 i)) := S1.si _ _ _
    have e1 : h_iv (h_si g' 413 i (h_iv g' 434 i)) 441 i = h_iv g' 441 i := by rw [si_ne (by omega)]
    simp (maxSteps := 3000000) (disch := first | assumption | omega) only [m_X12_takesText_L388, bO_v, bR_v, bX_l, bX_r, bC_l, bC_r, aLet_v, nI_add, pk_mul, dvI_n, rmI_n, iMax_n, iMin_n, zO_0, zO_1, li_0, li_1, li_2, li_3, li_4, li_5, li_6, li_7, li_8, li_9, li_10, li_12, li_14, li_15, li_16, li_18, li_19, li_20, li_22, li_23, li_24, li_26, li_29, li_30, li_31, li_32, li_36, li_38, li_48, li_50, li_57, li_58, li_59, li_60, li_63, li_97, li_99, li_120, li_122, li_144, li_168, li_194, li_240, li_255, li_284, li_299, li_603, li_999, li_1200, li_1440, li_4095, li_4096, li_6030, li_16384, li_20160, zl0, zl1, zl2, zl3, zl4, ze01, ze02, ze03, ze04, ze10, ze12, ze13, ze14, ze20, ze21, ze23, ze24, ze30, ze31, ze32, ze34, ze40, ze41, ze42, ze43, zt0, zt1, zt2, zt3, zt4, zq0, zq1, zq2, zq3, zq4, it_t, it_f, Bool.true_eq_false, Bool.false_eq_true, na5, na4, na1441, na2, na10, sx_IOIA, sx_IOIS, sx_IONS, sx_IAIO, sx_IAIS, sx_IANS, sx_ISIO, sx_ISIA, sx_ISNS, sx_NSIO, sx_NSIA, sx_NSIS, nI_ltI, rR_p413 S, rR_p434 S, rR_c434_al S, rR_c413_as S, rR_p420 S1, rR_p441 S1, rR_c441_al S1, rR_c420_as S1, e1]
    rw [if_pos hlt]
    refine ih _ _ _ (by omega) ⟨i + 1, hlt, rfl, rfl, ((F).trans (Fx.si (A := fun o j => (o = 413 ∨ o = 420) ∧ j < 30) ⟨by omega, hlt⟩)).trans (Fx.si (A := fun o j => (o = 413 ∨ o = 420) ∧ j < 30) ⟨by omega, hlt⟩), fun j hj => ?_⟩
    by_cases cj : j = i
    · rw [cj]
      exact ⟨by rw [si_ne (by omega), si_at]; exact F.iv (by omega), by rw [si_at]; exact F.iv (by omega)⟩
    · exact ⟨by rw [si_ne (by omega), si_ne (by omega)]; exact (f j (by omega)).1, by rw [si_ne (by omega), si_ne (by omega)]; exact (f j (by omega)).2⟩
  · obtain rfl : i = 30 := by omega
    simp (maxSteps := 3000000) (disch := first | assumption | omega) only [m_X12_takesText_L388, bO_v, bR_v, bX_l, bX_r, bC_l, bC_r, aLet_v, nI_add, pk_mul, dvI_n, rmI_n, iMax_n, iMin_n, zO_0, zO_1, li_0, li_1, li_2, li_3, li_4, li_5, li_6, li_7, li_8, li_9, li_10, li_12, li_14, li_15, li_16, li_18, li_19, li_20, li_22, li_23, li_24, li_26, li_29, li_30, li_31, li_32, li_36, li_38, li_48, li_50, li_57, li_58, li_59, li_60, li_63, li_97, li_99, li_120, li_122, li_144, li_168, li_194, li_240, li_255, li_284, li_299, li_603, li_999, li_1200, li_1440, li_4095, li_4096, li_6030, li_16384, li_20160, zl0, zl1, zl2, zl3, zl4, ze01, ze02, ze03, ze04, ze10, ze12, ze13, ze14, ze20, ze21, ze23, ze24, ze30, ze31, ze32, ze34, ze40, ze41, ze42, ze43, zt0, zt1, zt2, zt3, zt4, zq0, zq1, zq2, zq3, zq4, it_t, it_f, Bool.true_eq_false, Bool.false_eq_true, na5, na4, na1441, na2, na10, sx_IOIA, sx_IOIS, sx_IONS, sx_IAIO, sx_IAIS, sx_IANS, sx_ISIO, sx_ISIA, sx_ISNS, sx_NSIO, sx_NSIA, sx_NSIS, nI_ltI]
    rw [if_neg hlt]
    exact hk g' F f
theorem tR_L34 (Sg : ShR g) {k : aH → Option (Unit × aH)} (Z : Option (Unit × aH) → Prop) (hk : ∀ g', ShR g' → (h_nx g' = h_nx g ∧ h_sl g' = h_sl g ∧ h_sh g' = h_sh g ∧ h_ln g' = h_ln g ∧ h_rv g' = h_rv g ∧ h_iv g' = h_iv g ∧ ∀ o j, o ≠ 405 → h_lv g' o j = h_lv g o j) → (∀ j, j < 29 → h_lv g' 405 j = h_lv g 423 j) → Z (k g')) : Z (aL1 (m_X12_takesText_L34 398 k) FU (nI 0) g) := by
  refine aL1_run (R := Z) (fun m s1 g' => ∃ i, i ≤ 29 ∧ m = 29 - i ∧ s1 = nI i ∧ ShR g' ∧ (h_nx g' = h_nx g ∧ h_sl g' = h_sl g ∧ h_sh g' = h_sh g ∧ h_ln g' = h_ln g ∧ h_rv g' = h_rv g ∧ h_iv g' = h_iv g ∧ ∀ o j, o ≠ 405 → h_lv g' o j = h_lv g o j) ∧ ∀ j, j < i → h_lv g' 405 j = h_lv g 423 j) ⟨0, Nat.zero_le _, rfl, rfl, Sg, ⟨rfl, rfl, rfl, rfl, rfl, rfl, fun _ _ _ => rfl⟩, fun k r => absurd r (Nat.not_lt_zero k)⟩ (by omega) ?_
  rintro rec m s1 g' ⟨i, hi, rfl, rfl, S, ⟨q1, q2, q3, q4, q5, q6, q7⟩, f⟩ ih
  by_cases hlt : i < 29
  · simp (maxSteps := 3000000) (disch := first | assumption | omega) only [m_X12_takesText_L34, bO_v, bR_v, bX_l, bX_r, bC_l, bC_r, aLet_v, nI_add, pk_mul, dvI_n, rmI_n, iMax_n, iMin_n, zO_0, zO_1, li_0, li_1, li_2, li_3, li_4, li_5, li_6, li_7, li_8, li_9, li_10, li_12, li_14, li_15, li_16, li_18, li_19, li_20, li_22, li_23, li_24, li_26, li_29, li_30, li_31, li_32, li_36, li_38, li_48, li_50, li_57, li_58, li_59, li_60, li_63, li_97, li_99, li_120, li_122, li_144, li_168, li_194, li_240, li_255, li_284, li_299, li_603, li_999, li_1200, li_1440, li_4095, li_4096, li_6030, li_16384, li_20160, zl0, zl1, zl2, zl3, zl4, ze01, ze02, ze03, ze04, ze10, ze12, ze13, ze14, ze20, ze21, ze23, ze24, ze30, ze31, ze32, ze34, ze40, ze41, ze42, ze43, zt0, zt1, zt2, zt3, zt4, zq0, zq1, zq2, zq3, zq4, it_t, it_f, Bool.true_eq_false, Bool.false_eq_true, na5, na4, na1441, na2, na10, sx_IOIA, sx_IOIS, sx_IONS, sx_IAIO, sx_IAIS, sx_IANS, sx_ISIO, sx_ISIA, sx_ISNS, sx_NSIO, sx_NSIA, sx_NSIS, nI_ltI, rR_p405 S, rR_p423 S, rR_c423_al S, rR_c405_as S]
    rw [if_pos hlt]
    refine ih _ _ _ (by omega) ⟨i + 1, hlt, rfl, rfl, S.sL _ _ _, ⟨q1, q2, q3, q4, q5, q6, fun o j ho => (u2n (by omega)).trans (q7 o j ho)⟩, fun j hj => ?_⟩
    by_cases cj : j = i
    · rw [cj, sL_at]; exact q7 _ _ (by omega)
    · exact (u2n (by omega)).trans (f j (by omega))
  · obtain rfl : i = 29 := by omega
    simp (maxSteps := 3000000) (disch := first | assumption | omega) only [m_X12_takesText_L34, bO_v, bR_v, bX_l, bX_r, bC_l, bC_r, aLet_v, nI_add, pk_mul, dvI_n, rmI_n, iMax_n, iMin_n, zO_0, zO_1, li_0, li_1, li_2, li_3, li_4, li_5, li_6, li_7, li_8, li_9, li_10, li_12, li_14, li_15, li_16, li_18, li_19, li_20, li_22, li_23, li_24, li_26, li_29, li_30, li_31, li_32, li_36, li_38, li_48, li_50, li_57, li_58, li_59, li_60, li_63, li_97, li_99, li_120, li_122, li_144, li_168, li_194, li_240, li_255, li_284, li_299, li_603, li_999, li_1200, li_1440, li_4095, li_4096, li_6030, li_16384, li_20160, zl0, zl1, zl2, zl3, zl4, ze01, ze02, ze03, ze04, ze10, ze12, ze13, ze14, ze20, ze21, ze23, ze24, ze30, ze31, ze32, ze34, ze40, ze41, ze42, ze43, zt0, zt1, zt2, zt3, zt4, zq0, zq1, zq2, zq3, zq4, it_t, it_f, Bool.true_eq_false, Bool.false_eq_true, na5, na4, na1441, na2, na10, sx_IOIA, sx_IOIS, sx_IONS, sx_IAIO, sx_IAIS, sx_IANS, sx_ISIO, sx_ISIA, sx_ISNS, sx_NSIO, sx_NSIA, sx_NSIS, nI_ltI]
    rw [if_neg hlt]
    exact hk g' S ⟨q1, q2, q3, q4, q5, q6, q7⟩ f
theorem tR_L123 (Sg : ShR g) {k : aH → Option (Unit × aH)} (Z : Option (Unit × aH) → Prop) (hk : ∀ g', Fx (fun o j => o = 399 ∧ j < 603) g g' → (∀ j, j < 603 → h_iv g' 399 j = nI 0) → Z (k g')) : Z (aL1 (m_X12_takesText_L123 398 k) FU (nI 0) g) := by
  refine aL1_run (R := Z) (fun m s1 g' => ∃ i, i ≤ 603 ∧ m = 603 - i ∧ s1 = nI i ∧ Fx (fun o j => o = 399 ∧ j < 603) g g' ∧ ∀ j, j < i → h_iv g' 399 j = nI 0) ⟨0, Nat.zero_le _, rfl, rfl, Fx.rf, fun k r => absurd r (Nat.not_lt_zero k)⟩ (by omega) ?_
  rintro rec m s1 g' ⟨i, hi, rfl, rfl, F, f⟩ ih
  have S := F.shR Sg
  by_cases hlt : i < 603
  · simp (maxSteps := 3000000) (disch := first | assumption | omega) only [m_X12_takesText_L123, bO_v, bR_v, bX_l, bX_r, bC_l, bC_r, aLet_v, nI_add, pk_mul, dvI_n, rmI_n, iMax_n, iMin_n, zO_0, zO_1, li_0, li_1, li_2, li_3, li_4, li_5, li_6, li_7, li_8, li_9, li_10, li_12, li_14, li_15, li_16, li_18, li_19, li_20, li_22, li_23, li_24, li_26, li_29, li_30, li_31, li_32, li_36, li_38, li_48, li_50, li_57, li_58, li_59, li_60, li_63, li_97, li_99, li_120, li_122, li_144, li_168, li_194, li_240, li_255, li_284, li_299, li_603, li_999, li_1200, li_1440, li_4095, li_4096, li_6030, li_16384, li_20160, zl0, zl1, zl2, zl3, zl4, ze01, ze02, ze03, ze04, ze10, ze12, ze13, ze14, ze20, ze21, ze23, ze24, ze30, ze31, ze32, ze34, ze40, ze41, ze42, ze43, zt0, zt1, zt2, zt3, zt4, zq0, zq1, zq2, zq3, zq4, it_t, it_f, Bool.true_eq_false, Bool.false_eq_true, na5, na4, na1441, na2, na10, sx_IOIA, sx_IOIS, sx_IONS, sx_IAIO, sx_IAIS, sx_IANS, sx_ISIO, sx_ISIA, sx_ISNS, sx_NSIO, sx_NSIA, sx_NSIS, nI_ltI, rR_p399 S, rR_c399_as S]
    rw [if_pos hlt]
    refine ih _ _ _ (by omega) ⟨i + 1, hlt, rfl, rfl, F.trans (Fx.si (A := fun o j => o = 399 ∧ j < 603) ⟨rfl, hlt⟩), fun j hj => ?_⟩
    by_cases cj : j = i
    · rw [cj, si_at]
    · rw [si_ne (by omega)]; exact f j (by omega)
  · obtain rfl : i = 603 := by omega
    simp (maxSteps := 3000000) (disch := first | assumption | omega) only [m_X12_takesText_L123, bO_v, bR_v, bX_l, bX_r, bC_l, bC_r, aLet_v, nI_add, pk_mul, dvI_n, rmI_n, iMax_n, iMin_n, zO_0, zO_1, li_0, li_1, li_2, li_3, li_4, li_5, li_6, li_7, li_8, li_9, li_10, li_12, li_14, li_15, li_16, li_18, li_19, li_20, li_22, li_23, li_24, li_26, li_29, li_30, li_31, li_32, li_36, li_38, li_48, li_50, li_57, li_58, li_59, li_60, li_63, li_97, li_99, li_120, li_122, li_144, li_168, li_194, li_240, li_255, li_284, li_299, li_603, li_999, li_1200, li_1440, li_4095, li_4096, li_6030, li_16384, li_20160, zl0, zl1, zl2, zl3, zl4, ze01, ze02, ze03, ze04, ze10, ze12, ze13, ze14, ze20, ze21, ze23, ze24, ze30, ze31, ze32, ze34, ze40, ze41, ze42, ze43, zt0, zt1, zt2, zt3, zt4, zq0, zq1, zq2, zq3, zq4, it_t, it_f, Bool.true_eq_false, Bool.false_eq_true, na5, na4, na1441, na2, na10, sx_IOIA, sx_IOIS, sx_IONS, sx_IAIO, sx_IAIS, sx_IANS, sx_ISIO, sx_ISIA, sx_ISNS, sx_NSIO, sx_NSIA, sx_NSIS, nI_ltI]
    rw [if_neg hlt]
    exact hk g' F f
theorem tR_L145 (Sg : ShR g) {k : aH → Option (Unit × aH)} (Z : Option (Unit × aH) → Prop) (hk : ∀ g', Fx (fun o j => o = 399 ∧ 50 ≤ j ∧ j < 194) g g' → (∀ j, j < 144 → h_iv g' 399 (50 + j) = h_iv g 426 j) → Z (k g')) : Z (aL1 (m_X12_takesText_L145 398 k) FU (nI 0) g) := by
  refine aL1_run (R := Z) (fun m s1 g' => ∃ i, i ≤ 144 ∧ m = 144 - i ∧ s1 = nI i ∧ Fx (fun o j => o = 399 ∧ 50 ≤ j ∧ j < 194) g g' ∧ ∀ j, j < i → h_iv g' 399 (50 + j) = h_iv g 426 j) ⟨0, Nat.zero_le _, rfl, rfl, Fx.rf, fun k r => absurd r (Nat.not_lt_zero k)⟩ (by omega) ?_
  rintro rec m s1 g' ⟨i, hi, rfl, rfl, F, f⟩ ih
  have S := F.shR Sg
  by_cases hlt : i < 144
  · simp (maxSteps := 3000000) (disch := first | assumption | omega) only [m_X12_takesText_L145, bO_v, bR_v, bX_l, bX_r, bC_l, bC_r, aLet_v, nI_add, pk_mul, dvI_n, rmI_n, iMax_n, iMin_n, zO_0, zO_1, li_0, li_1, li_2, li_3, li_4, li_5, li_6, li_7, li_8, li_9, li_10, li_12, li_14, li_15, li_16, li_18, li_19, li_20, li_22, li_23, li_24, li_26, li_29, li_30, li_31, li_32, li_36, li_38, li_48, li_50, li_57, li_58, li_59, li_60, li_63, li_97, li_99, li_120, li_122, li_144, li_168, li_194, li_240, li_255, li_284, li_299, li_603, li_999, li_1200, li_1440, li_4095, li_4096, li_6030, li_16384, li_20160, zl0, zl1, zl2, zl3, zl4, ze01, ze02, ze03, ze04, ze10, ze12, ze13, ze14, ze20, ze21, ze23, ze24, ze30, ze31, ze32, ze34, ze40, ze41, ze42, ze43, zt0, zt1, zt2, zt3, zt4, zq0, zq1, zq2, zq3, zq4, it_t, it_f, Bool.true_eq_false, Bool.false_eq_true, na5, na4, na1441, na2, na10, sx_IOIA, sx_IOIS, sx_IONS, sx_IAIO, sx_IAIS, sx_IANS, sx_ISIO, sx_ISIA, sx_ISNS, sx_NSIO, sx_NSIA, sx_NSIS, nI_ltI, rR_p399 S, rR_p426 S, rR_c426_al S, rR_c399_as S]
    rw [if_pos hlt]
    refine ih _ _ _ (by omega) ⟨i + 1, hlt, rfl, rfl, F.trans (Fx.si (A := fun o j => o = 399 ∧ 50 ≤ j ∧ j < 194) ⟨rfl, by omega, by omega⟩), fun j hj => ?_⟩
    by_cases cj : j = i
    · rw [cj, si_at]; exact F.iv (by omega)
    · rw [si_ne (by omega)]; exact f j (by omega)
  · obtain rfl : i = 144 := by omega
    simp (maxSteps := 3000000) (disch := first | assumption | omega) only [m_X12_takesText_L145, bO_v, bR_v, bX_l, bX_r, bC_l, bC_r, aLet_v, nI_add, pk_mul, dvI_n, rmI_n, iMax_n, iMin_n, zO_0, zO_1, li_0, li_1, li_2, li_3, li_4, li_5, li_6, li_7, li_8, li_9, li_10, li_12, li_14, li_15, li_16, li_18, li_19, li_20, li_22, li_23, li_24, li_26, li_29, li_30, li_31, li_32, li_36, li_38, li_48, li_50, li_57, li_58, li_59, li_60, li_63, li_97, li_99, li_120, li_122, li_144, li_168, li_194, li_240, li_255, li_284, li_299, li_603, li_999, li_1200, li_1440, li_4095, li_4096, li_6030, li_16384, li_20160, zl0, zl1, zl2, zl3, zl4, ze01, ze02, ze03, ze04, ze10, ze12, ze13, ze14, ze20, ze21, ze23, ze24, ze30, ze31, ze32, ze34, ze40, ze41, ze42, ze43, zt0, zt1, zt2, zt3, zt4, zq0, zq1, zq2, zq3, zq4, it_t, it_f, Bool.true_eq_false, Bool.false_eq_true, na5, na4, na1441, na2, na10, sx_IOIA, sx_IOIS, sx_IONS, sx_IAIO, sx_IAIS, sx_IANS, sx_ISIO, sx_ISIA, sx_ISNS, sx_NSIO, sx_NSIA, sx_NSIS, nI_ltI]
    rw [if_neg hlt]
    exact hk g' F f
theorem tR_L279 (Sg : ShR g) {u : Nat} (hu : u < 6) {k : aH → Option (Unit × aH)} (Z : Option (Unit × aH) → Prop) (hk : ∀ g', Fx (fun o j => o = 399 ∧ 194 + 15 * u ≤ j ∧ j < 202 + 15 * u) g g' → (∀ j, j < 8 → h_iv g' 399 (194 + 15 * u + j) = h_iv g 431 (8 * u + j)) → Z (k g')) : Z (aL1 (m_X12_takesText_L279 398 (nI u) k) FU (nI 0) g) := by
  refine aL1_run (R := Z) (fun m s1 g' => ∃ i, i ≤ 8 ∧ m = 8 - i ∧ s1 = nI i ∧ Fx (fun o j => o = 399 ∧ 194 + 15 * u ≤ j ∧ j < 202 + 15 * u) g g' ∧ ∀ j, j < i → h_iv g' 399 (194 + 15 * u + j) = h_iv g 431 (8 * u + j)) ⟨0, Nat.zero_le _, rfl, rfl, Fx.rf, fun k r => absurd r (Nat.not_lt_zero k)⟩ (by omega) ?_
  rintro rec m s1 g' ⟨i, hi, rfl, rfl, F, f⟩ ih
  have S := F.shR Sg
  by_cases hlt : i < 8
  · simp (maxSteps := 3000000) (disch := first | assumption | omega) only [m_X12_takesText_L279, bO_v, bR_v, bX_l, bX_r, bC_l, bC_r, aLet_v, nI_add, pk_mul, dvI_n, rmI_n, iMax_n, iMin_n, zO_0, zO_1, li_0, li_1, li_2, li_3, li_4, li_5, li_6, li_7, li_8, li_9, li_10, li_12, li_14, li_15, li_16, li_18, li_19, li_20, li_22, li_23, li_24, li_26, li_29, li_30, li_31, li_32, li_36, li_38, li_48, li_50, li_57, li_58, li_59, li_60, li_63, li_97, li_99, li_120, li_122, li_144, li_168, li_194, li_240, li_255, li_284, li_299, li_603, li_999, li_1200, li_1440, li_4095, li_4096, li_6030, li_16384, li_20160, zl0, zl1, zl2, zl3, zl4, ze01, ze02, ze03, ze04, ze10, ze12, ze13, ze14, ze20, ze21, ze23, ze24, ze30, ze31, ze32, ze34, ze40, ze41, ze42, ze43, zt0, zt1, zt2, zt3, zt4, zq0, zq1, zq2, zq3, zq4, it_t, it_f, Bool.true_eq_false, Bool.false_eq_true, na5, na4, na1441, na2, na10, sx_IOIA, sx_IOIS, sx_IONS, sx_IAIO, sx_IAIS, sx_IANS, sx_ISIO, sx_ISIA, sx_ISNS, sx_NSIO, sx_NSIA, sx_NSIS, nI_ltI, rR_p399 S, rR_p431 S, rR_c431_al S, rR_c399_as S]
    rw [if_pos hlt]
    refine ih _ _ _ (by omega) ⟨i + 1, hlt, rfl, rfl, F.trans (Fx.si (A := fun o j => o = 399 ∧ 194 + 15 * u ≤ j ∧ j < 202 + 15 * u) ⟨rfl, by omega, by omega⟩), fun j hj => ?_⟩
    by_cases cj : j = i
    · rw [cj, si_at]; exact F.iv (by omega)
    · rw [si_ne (by omega)]; exact f j (by omega)
  · obtain rfl : i = 8 := by omega
    simp (maxSteps := 3000000) (disch := first | assumption | omega) only [m_X12_takesText_L279, bO_v, bR_v, bX_l, bX_r, bC_l, bC_r, aLet_v, nI_add, pk_mul, dvI_n, rmI_n, iMax_n, iMin_n, zO_0, zO_1, li_0, li_1, li_2, li_3, li_4, li_5, li_6, li_7, li_8, li_9, li_10, li_12, li_14, li_15, li_16, li_18, li_19, li_20, li_22, li_23, li_24, li_26, li_29, li_30, li_31, li_32, li_36, li_38, li_48, li_50, li_57, li_58, li_59, li_60, li_63, li_97, li_99, li_120, li_122, li_144, li_168, li_194, li_240, li_255, li_284, li_299, li_603, li_999, li_1200, li_1440, li_4095, li_4096, li_6030, li_16384, li_20160, zl0, zl1, zl2, zl3, zl4, ze01, ze02, ze03, ze04, ze10, ze12, ze13, ze14, ze20, ze21, ze23, ze24, ze30, ze31, ze32, ze34, ze40, ze41, ze42, ze43, zt0, zt1, zt2, zt3, zt4, zq0, zq1, zq2, zq3, zq4, it_t, it_f, Bool.true_eq_false, Bool.false_eq_true, na5, na4, na1441, na2, na10, sx_IOIA, sx_IOIS, sx_IONS, sx_IAIO, sx_IAIS, sx_IANS, sx_ISIO, sx_ISIA, sx_ISNS, sx_NSIO, sx_NSIA, sx_NSIS, nI_ltI]
    rw [if_neg hlt]
    exact hk g' F f
theorem tR_L175 (Sg : ShR g) {k : aH → Option (Unit × aH)} (Z : Option (Unit × aH) → Prop) (hk : ∀ g', Fx (fun o j => ((o = 408 ∨ o = 409 ∨ o = 410 ∨ o = 414 ∨ o = 415 ∨ o = 416 ∨ o = 417 ∨ o = 419) ∧ j < 6) ∨ (o = 399 ∧ 194 ≤ j ∧ j < 284 ∧ (j - 194) % 15 < 8)) g g' → (∀ j, j < 6 → h_iv g' 408 j = h_iv g 428 j ∧ h_iv g' 409 j = h_iv g 429 j ∧ h_iv g' 410 j = h_iv g 430 j ∧ h_iv g' 414 j = h_iv g 435 j ∧ h_iv g' 415 j = h_iv g 436 j ∧ h_iv g' 416 j = h_iv g 437 j ∧ h_iv g' 417 j = h_iv g 438 j ∧ h_iv g' 419 j = h_iv g 440 j ∧ ∀ q, q < 8 → h_iv g' 399 (194 + 15 * j + q) = h_iv g 431 (8 * j + q)) → Z (k g')) : Z (aL1 (m_X12_takesText_L175 398 k) FU (nI 0) g) := by
  refine aL1_run (R := Z) (fun m s1 g' => ∃ i, i ≤ 6 ∧ m = 6 - i ∧ s1 = nI i ∧ Fx (fun o j => ((o = 408 ∨ o = 409 ∨ o = 410 ∨ o = 414 ∨ o = 415 ∨ o = 416 ∨ o = 417 ∨ o = 419) ∧ j < 6) ∨ (o = 399 ∧ 194 ≤ j ∧ j < 284 ∧ (j - 194) % 15 < 8)) g g' ∧ ∀ j, j < i → h_iv g' 408 j = h_iv g 428 j ∧ h_iv g' 409 j = h_iv g 429 j ∧ h_iv g' 410 j = h_iv g 430 j ∧ h_iv g' 414 j = h_iv g 435 j ∧ h_iv g' 415 j = h_iv g 436 j ∧ h_iv g' 416 j = h_iv g 437 j ∧ h_iv g' 417 j = h_iv g 438 j ∧ h_iv g' 419 j = h_iv g 440 j ∧ ∀ q, q < 8 → h_iv g' 399 (194 + 15 * j + q) = h_iv g 431 (8 * j + q)) ⟨0, Nat.zero_le _, rfl, rfl, Fx.rf, fun k r => absurd r (Nat.not_lt_zero k)⟩ (by omega) ?_
  rintro rec m s1 g' ⟨i, hi, rfl, rfl, F, f⟩ ih
  have S := F.shR Sg
  by_cases hlt : i < 6
  · have S1 : ShR (h_si g' 408 i (h_iv g' 428 i)) := S.si _ _ _
    have S2 : ShR (h_si (h_si g' 408 i (h_iv g' 428 i)) 409 i (h_iv g' 429 i)) := S1.si _ _ _
    have S3 : ShR (h_si (h_si (h_si g' 408 i (h_iv g' 428 i)) 409 i (h_iv g' 429 i)) 410 i (h_iv g' 430 i)) := S2.si _ _ _
    have S4 : ShR (h_si (h_si (h_si (h_si g' 408 i (h_iv g' 428 i)) 409 i (h_iv g' 429 i)) 410 i (h_iv g' 430 i)) 414 i (h_iv g' 435 i)) := S3.si _ _ _
    have S5 : ShR (h_si (h_si (h_si (h_si (h_si g' 408 i (h_iv g' 428 i)) 409 i (h_iv g' 429 i)) 410 i (h_iv g' 430 i)) 414 i (h_iv g' 435 i)) 415 i (h_iv g' 436 i)) := S4.si _ _ _
    have S6 : ShR (h_si (h_si (h_si (h_si (h_si (h_si g' 408 i (h_iv g' 428 i)) 409 i (h_iv g' 429 i)) 410 i (h_iv g' 430 i)) 414 i (h_iv g' 435 i)) 415 i (h_iv g' 436 i)) 416 i (h_iv g' 437 i)) := S5.si _ _ _
    have S7 : ShR (h_si (h_si (h_si (h_si (h_si (h_si (h_si g' 408 i (h_iv g' 428 i)) 409 i (h_iv g' 429 i)) 410 i (h_iv g' 430 i)) 414 i (h_iv g' 435 i)) 415 i (h_iv g' 436 i)) 416 i (h_iv g' 437 i)) 417 i (h_iv g' 438 i)) := S6.si _ _ _
    have S8 : ShR (h_si (h_si (h_si (h_si (h_si (h_si (h_si (h_si g' 408 i (h_iv g' 428 i)) 409 i (h_iv g' 429 i)) 410 i (h_iv g' 430 i)) 414 i (h_iv g' 435 i)) 415 i (h_iv g' 436 i)) 416 i (h_iv g' 437 i)) 417 i (h_iv g' 438 i)) 419 i (h_iv g' 440 i)) := S7.si _ _ _
    have e1 : h_iv (h_si g' 408 i (h_iv g' 428 i)) 429 i = h_iv g' 429 i := by rw [si_ne (by omega)]
    have e2 : h_iv (h_si (h_si g' 408 i (h_iv g' 428 i)) 409 i (h_iv g' 429 i)) 430 i = h_iv g' 430 i := by rw [si_ne (by omega), si_ne (by omega)]
    have e3 : h_iv (h_si (h_si (h_si g' 408 i (h_iv g' 428 i)) 409 i (h_iv g' 429 i)) 410 i (h_iv g' 430 i)) 435 i = h_iv g' 435 i := by rw [si_ne (by omega), si_ne (by omega), si_ne (by omega)]
    have e4 : h_iv (h_si (h_si (h_si (h_si g' 408 i (h_iv g' 428 i)) 409 i (h_iv g' 429 i)) 410 i (h_iv g' 430 i)) 414 i (h_iv g' 435 i)) 436 i = h_iv g' 436 i := by rw [si_ne (by omega), si_ne (by omega), si_ne (by omega), si_ne (by omega)]
    have e5 : h_iv (h_si (h_si (h_si (h_si (h_si g' 408 i (h_iv g' 428 i)) 409 i (h_iv g' 429 i)) 410 i (h_iv g' 430 i)) 414 i (h_iv g' 435 i)) 415 i (h_iv g' 436 i)) 437 i = h_iv g' 437 i := by rw [si_ne (by omega), si_ne (by omega), si_ne (by omega), si_ne (by omega), si_ne (by omega)]
    have e6 : h_iv (h_si (h_si (h_si (h_si (h_si (h_si g' 408 i (h_iv g' 428 i)) 409 i (h_iv g' 429 i)) 410 i (h_iv g' 430 i)) 414 i (h_iv g' 435 i)) 415 i (h_iv g' 436 i)) 416 i (h_iv g' 437 i)) 438 i = h_iv g' 438 i := by rw [si_ne (by omega), si_ne (by omega), si_ne (by omega), si_ne (by omega), si_ne (by omega), si_ne (by omega)]
    have e7 : h_iv (h_si (h_si (h_si (h_si (h_si (h_si (h_si g' 408 i (h_iv g' 428 i)) 409 i (h_iv g' 429 i)) 410 i (h_iv g' 430 i)) 414 i (h_iv g' 435 i)) 415 i (h_iv g' 436 i)) 416 i (h_iv g' 437 i)) 417 i (h_iv g' 438 i)) 440 i = h_iv g' 440 i := by rw [si_ne (by omega), si_ne (by omega), si_ne (by omega), si_ne (by omega), si_ne (by omega), si_ne (by omega), si_ne (by omega)]
    simp (maxSteps := 3000000) (disch := first | assumption | omega) only [m_X12_takesText_L175, bO_v, bR_v, bX_l, bX_r, bC_l, bC_r, aLet_v, nI_add, pk_mul, dvI_n, rmI_n, iMax_n, iMin_n, zO_0, zO_1, li_0, li_1, li_2, li_3, li_4, li_5, li_6, li_7, li_8, li_9, li_10, li_12, li_14, li_15, li_16, li_18, li_19, li_20, li_22, li_23, li_24, li_26, li_29, li_30, li_31, li_32, li_36, li_38, li_48, li_50, li_57, li_58, li_59, li_60, li_63, li_97, li_99, li_120, li_122, li_144, li_168, li_194, li_240, li_255, li_284, li_299, li_603, li_999, li_1200, li_1440, li_4095, li_4096, li_6030, li_16384, li_20160, zl0, zl1, zl2, zl3, zl4, ze01, ze02, ze03, ze04, ze10, ze12, ze13, ze14, ze20, ze21, ze23, ze24, ze30, ze31, ze32, ze34, ze40, ze41, ze42, ze43, zt0, zt1, zt2, zt3, zt4, zq0, zq1, zq2, zq3, zq4, it_t, it_f, Bool.true_eq_false, Bool.false_eq_true, na5, na4, na1441, na2, na10, sx_IOIA, sx_IOIS, sx_IONS, sx_IAIO, sx_IAIS, sx_IANS, sx_ISIO, sx_ISIA, sx_ISNS, sx_NSIO, sx_NSIA, sx_NSIS, nI_ltI, rR_p408 S, rR_p428 S, rR_c428_al S, rR_c408_as S, rR_p409 S1, rR_p429 S1, rR_c429_al S1, rR_c409_as S1, e1, rR_p410 S2, rR_p430 S2, rR_c430_al S2, rR_c410_as S2, e2, rR_p414 S3, rR_p435 S3, rR_c435_al S3, rR_c414_as S3, e3, rR_p415 S4, rR_p436 S4, rR_c436_al S4, rR_c415_as S4, e4, rR_p416 S5, rR_p437 S5, rR_c437_al S5, rR_c416_as S5, e5, rR_p417 S6, rR_p438 S6, rR_c438_al S6, rR_c417_as S6, e6, rR_p419 S7, rR_p440 S7, rR_c440_al S7, rR_c419_as S7, e7]
    rw [if_pos hlt]
    have F8 : Fx (fun o j => (o = 408 ∨ o = 409 ∨ o = 410 ∨ o = 414 ∨ o = 415 ∨ o = 416 ∨ o = 417 ∨ o = 419) ∧ j = i) g' (h_si (h_si (h_si (h_si (h_si (h_si (h_si (h_si g' 408 i (h_iv g' 428 i)) 409 i (h_iv g' 429 i)) 410 i (h_iv g' 430 i)) 414 i (h_iv g' 435 i)) 415 i (h_iv g' 436 i)) 416 i (h_iv g' 437 i)) 417 i (h_iv g' 438 i)) 419 i (h_iv g' 440 i)) := ((((((((Fx.si (A := fun o j => (o = 408 ∨ o = 409 ∨ o = 410 ∨ o = 414 ∨ o = 415 ∨ o = 416 ∨ o = 417 ∨ o = 419) ∧ j = i) (by omega)).trans (Fx.si (by omega))).trans (Fx.si (by omega))).trans (Fx.si (by omega))).trans (Fx.si (by omega))).trans (Fx.si (by omega))).trans (Fx.si (by omega))).trans (Fx.si (by omega)))
    have t408 : h_iv (h_si (h_si (h_si (h_si (h_si (h_si (h_si (h_si g' 408 i (h_iv g' 428 i)) 409 i (h_iv g' 429 i)) 410 i (h_iv g' 430 i)) 414 i (h_iv g' 435 i)) 415 i (h_iv g' 436 i)) 416 i (h_iv g' 437 i)) 417 i (h_iv g' 438 i)) 419 i (h_iv g' 440 i)) 408 i = h_iv g' 428 i := by rw [si_ne (by omega), si_ne (by omega), si_ne (by omega), si_ne (by omega), si_ne (by omega), si_ne (by omega), si_ne (by omega), si_at]
    have t409 : h_iv (h_si (h_si (h_si (h_si (h_si (h_si (h_si (h_si g' 408 i (h_iv g' 428 i)) 409 i (h_iv g' 429 i)) 410 i (h_iv g' 430 i)) 414 i (h_iv g' 435 i)) 415 i (h_iv g' 436 i)) 416 i (h_iv g' 437 i)) 417 i (h_iv g' 438 i)) 419 i (h_iv g' 440 i)) 409 i = h_iv g' 429 i := by rw [si_ne (by omega), si_ne (by omega), si_ne (by omega), si_ne (by omega), si_ne (by omega), si_ne (by omega), si_at]
    have t410 : h_iv (h_si (h_si (h_si (h_si (h_si (h_si (h_si (h_si g' 408 i (h_iv g' 428 i)) 409 i (h_iv g' 429 i)) 410 i (h_iv g' 430 i)) 414 i (h_iv g' 435 i)) 415 i (h_iv g' 436 i)) 416 i (h_iv g' 437 i)) 417 i (h_iv g' 438 i)) 419 i (h_iv g' 440 i)) 410 i = h_iv g' 430 i := by rw [si_ne (by omega), si_ne (by omega), si_ne (by omega), si_ne (by omega), si_ne (by omega), si_at]
    have t414 : h_iv (h_si (h_si (h_si (h_si (h_si (h_si (h_si (h_si g' 408 i (h_iv g' 428 i)) 409 i (h_iv g' 429 i)) 410 i (h_iv g' 430 i)) 414 i (h_iv g' 435 i)) 415 i (h_iv g' 436 i)) 416 i (h_iv g' 437 i)) 417 i (h_iv g' 438 i)) 419 i (h_iv g' 440 i)) 414 i = h_iv g' 435 i := by rw [si_ne (by omega), si_ne (by omega), si_ne (by omega), si_ne (by omega), si_at]
    have t415 : h_iv (h_si (h_si (h_si (h_si (h_si (h_si (h_si (h_si g' 408 i (h_iv g' 428 i)) 409 i (h_iv g' 429 i)) 410 i (h_iv g' 430 i)) 414 i (h_iv g' 435 i)) 415 i (h_iv g' 436 i)) 416 i (h_iv g' 437 i)) 417 i (h_iv g' 438 i)) 419 i (h_iv g' 440 i)) 415 i = h_iv g' 436 i := by rw [si_ne (by omega), si_ne (by omega), si_ne (by omega), si_at]
    have t416 : h_iv (h_si (h_si (h_si (h_si (h_si (h_si (h_si (h_si g' 408 i (h_iv g' 428 i)) 409 i (h_iv g' 429 i)) 410 i (h_iv g' 430 i)) 414 i (h_iv g' 435 i)) 415 i (h_iv g' 436 i)) 416 i (h_iv g' 437 i)) 417 i (h_iv g' 438 i)) 419 i (h_iv g' 440 i)) 416 i = h_iv g' 437 i := by rw [si_ne (by omega), si_ne (by omega), si_at]
    have t417 : h_iv (h_si (h_si (h_si (h_si (h_si (h_si (h_si (h_si g' 408 i (h_iv g' 428 i)) 409 i (h_iv g' 429 i)) 410 i (h_iv g' 430 i)) 414 i (h_iv g' 435 i)) 415 i (h_iv g' 436 i)) 416 i (h_iv g' 437 i)) 417 i (h_iv g' 438 i)) 419 i (h_iv g' 440 i)) 417 i = h_iv g' 438 i := by rw [si_ne (by omega), si_at]
    have t419 : h_iv (h_si (h_si (h_si (h_si (h_si (h_si (h_si (h_si g' 408 i (h_iv g' 428 i)) 409 i (h_iv g' 429 i)) 410 i (h_iv g' 430 i)) 414 i (h_iv g' 435 i)) 415 i (h_iv g' 436 i)) 416 i (h_iv g' 437 i)) 417 i (h_iv g' 438 i)) 419 i (h_iv g' 440 i)) 419 i = h_iv g' 440 i := by rw [si_at]
    generalize (h_si (h_si (h_si (h_si (h_si (h_si (h_si (h_si g' 408 i (h_iv g' 428 i)) 409 i (h_iv g' 429 i)) 410 i (h_iv g' 430 i)) 414 i (h_iv g' 435 i)) 415 i (h_iv g' 436 i)) 416 i (h_iv g' 437 i)) 417 i (h_iv g' 438 i)) 419 i (h_iv g' 440 i)) = g8 at *
    refine aJ_gen (R := Z) (fun k317 hk317 => ?_)
    refine tR_L279 S8 hlt Z (fun g9 F9 f9 => ?_)
    rw [hk317]
    simp (maxSteps := 3000000) (disch := first | assumption | omega) only [bO_v, bR_v, bX_l, bX_r, bC_l, bC_r, aLet_v, nI_add, pk_mul, dvI_n, rmI_n, iMax_n, iMin_n, zO_0, zO_1, li_0, li_1, li_2, li_3, li_4, li_5, li_6, li_7, li_8, li_9, li_10, li_12, li_14, li_15, li_16, li_18, li_19, li_20, li_22, li_23, li_24, li_26, li_29, li_30, li_31, li_32, li_36, li_38, li_48, li_50, li_57, li_58, li_59, li_60, li_63, li_97, li_99, li_120, li_122, li_144, li_168, li_194, li_240, li_255, li_284, li_299, li_603, li_999, li_1200, li_1440, li_4095, li_4096, li_6030, li_16384, li_20160, zl0, zl1, zl2, zl3, zl4, ze01, ze02, ze03, ze04, ze10, ze12, ze13, ze14, ze20, ze21, ze23, ze24, ze30, ze31, ze32, ze34, ze40, ze41, ze42, ze43, zt0, zt1, zt2, zt3, zt4, zq0, zq1, zq2, zq3, zq4, it_t, it_f, Bool.true_eq_false, Bool.false_eq_true, na5, na4, na1441, na2, na10, sx_IOIA, sx_IOIS, sx_IONS, sx_IAIO, sx_IAIS, sx_IANS, sx_ISIO, sx_ISIA, sx_ISNS, sx_NSIO, sx_NSIA, sx_NSIS]
    refine ih _ _ _ (by omega) ⟨i + 1, hlt, rfl, rfl, (F.trans (F8.mono (fun o j r => by omega))).trans (F9.mono (fun o j r => by omega)), fun j hj => ?_⟩
    by_cases cj : j = i
    · rw [cj]
      exact ⟨by rw [F9.iv (by omega), t408]; exact F.iv (by omega), by rw [F9.iv (by omega), t409]; exact F.iv (by omega), by rw [F9.iv (by omega), t410]; exact F.iv (by omega), by rw [F9.iv (by omega), t414]; exact F.iv (by omega), by rw [F9.iv (by omega), t415]; exact F.iv (by omega), by rw [F9.iv (by omega), t416]; exact F.iv (by omega), by rw [F9.iv (by omega), t417]; exact F.iv (by omega), by rw [F9.iv (by omega), t419]; exact F.iv (by omega), fun q hq => by rw [f9 q hq, F8.iv (by omega)]; exact F.iv (by omega)⟩
    · exact ⟨by rw [F9.iv (by omega), F8.iv (by omega)]; exact (f j (by omega)).1, by rw [F9.iv (by omega), F8.iv (by omega)]; exact (f j (by omega)).2.1, by rw [F9.iv (by omega), F8.iv (by omega)]; exact (f j (by omega)).2.2.1, by rw [F9.iv (by omega), F8.iv (by omega)]; exact (f j (by omega)).2.2.2.1, by rw [F9.iv (by omega), F8.iv (by omega)]; exact (f j (by omega)).2.2.2.2.1, by rw [F9.iv (by omega), F8.iv (by omega)]; exact (f j (by omega)).2.2.2.2.2.1, by rw [F9.iv (by omega), F8.iv (by omega)]; exact (f j (by omega)).2.2.2.2.2.2.1, by rw [F9.iv (by omega), F8.iv (by omega)]; exact (f j (by omega)).2.2.2.2.2.2.2.1, fun q hq => by rw [F9.iv (by omega), F8.iv (by omega)]; exact (f j (by omega)).2.2.2.2.2.2.2.2 q hq⟩
  · obtain rfl : i = 6 := by omega
    simp (maxSteps := 3000000) (disch := first | assumption | omega) only [m_X12_takesText_L175, bO_v, bR_v, bX_l, bX_r, bC_l, bC_r, aLet_v, nI_add, pk_mul, dvI_n, rmI_n, iMax_n, iMin_n, zO_0, zO_1, li_0, li_1, li_2, li_3, li_4, li_5, li_6, li_7, li_8, li_9, li_10, li_12, li_14, li_15, li_16, li_18, li_19, li_20, li_22, li_23, li_24, li_26, li_29, li_30, li_31, li_32, li_36, li_38, li_48, li_50, li_57, li_58, li_59, li_60, li_63, li_97, li_99, li_120, li_122, li_144, li_168, li_194, li_240, li_255, li_284, li_299, li_603, li_999, li_1200, li_1440, li_4095, li_4096, li_6030, li_16384, li_20160, zl0, zl1, zl2, zl3, zl4, ze01, ze02, ze03, ze04, ze10, ze12, ze13, ze14, ze20, ze21, ze23, ze24, ze30, ze31, ze32, ze34, ze40, ze41, ze42, ze43, zt0, zt1, zt2, zt3, zt4, zq0, zq1, zq2, zq3, zq4, it_t, it_f, Bool.true_eq_false, Bool.false_eq_true, na5, na4, na1441, na2, na10, sx_IOIA, sx_IOIS, sx_IONS, sx_IAIO, sx_IAIS, sx_IANS, sx_ISIO, sx_ISIA, sx_ISNS, sx_NSIO, sx_NSIA, sx_NSIS, nI_ltI]
    rw [if_neg hlt]
    exact hk g' F f
end
/-! the reference takes a text, and loads -/
def TKR (h h1 : aH) : Prop := ShR h1 ∧ (h_nx h1 = h_nx h ∧ h_sl h1 = h_sl h ∧ h_sh h1 = h_sh h ∧ h_ln h1 = h_ln h ∧ h_rv h1 = h_rv h) ∧ (∀ o k, ¬ TKc o k → h_iv h1 o k = h_iv h o k) ∧ (∀ o k, o ≠ 405 → h_lv h1 o k = h_lv h o k) ∧ (h_iv h1 398 8 = h_iv h 398 39 ∧ h_iv h1 398 9 = h_iv h 398 41 ∧ h_iv h1 398 10 = h_iv h 398 42 ∧ h_iv h1 398 11 = h_iv h 398 43 ∧ h_iv h1 398 6 = nI 0) ∧ (∀ k, k < 29 → h_lv h1 405 k = h_lv h 423 k) ∧ (∀ o k, cel o k → h_iv h1 o k = h_iv h (nu o) k) ∧ (∀ j, j < 603 → h_iv h1 399 j = rowv h j) ∧ ∀ s, s < 2 → h_iv h1 403 s = nI 0
section
variable {h h0 : aH} {tx : Nat → Nat} {n s : Nat} {M : Nat → Nat → Nat}
theorem yR_takes (hS : ShR h) : OK (m_X12_takesText 398 h) (fun _ h1 => TKR h h1) := by
  have S1 := hS.si 398 8 (h_iv h 398 39)
  have S2 := S1.si 398 9 (h_iv h 398 41)
  have S3 := S2.si 398 10 (h_iv h 398 42)
  have S4 := S3.si 398 11 (h_iv h 398 43)
  have e1 : h_iv (h_si h 398 8 (h_iv h 398 39)) 398 41 = h_iv h 398 41 := si_ne (by omega)
  have e2 : h_iv (h_si (h_si h 398 8 (h_iv h 398 39)) 398 9 (h_iv h 398 41)) 398 42 = h_iv h 398 42 := by rw [si_ne (by omega), si_ne (by omega)]
  have e3 : h_iv (h_si (h_si (h_si h 398 8 (h_iv h 398 39)) 398 9 (h_iv h 398 41)) 398 10 (h_iv h 398 42)) 398 43 = h_iv h 398 43 := by rw [si_ne (by omega), si_ne (by omega), si_ne (by omega)]
  simp (maxSteps := 3000000) (disch := first | assumption | omega) only [m_X12_takesText, bO_v, bR_v, bX_l, bX_r, bC_l, bC_r, aLet_v, nI_add, pk_mul, dvI_n, rmI_n, iMax_n, iMin_n, zO_0, zO_1, li_0, li_1, li_2, li_3, li_4, li_5, li_6, li_7, li_8, li_9, li_10, li_12, li_14, li_15, li_16, li_18, li_19, li_20, li_22, li_23, li_24, li_26, li_29, li_30, li_31, li_32, li_36, li_38, li_48, li_50, li_57, li_58, li_59, li_60, li_63, li_97, li_99, li_120, li_122, li_144, li_168, li_194, li_240, li_255, li_284, li_299, li_603, li_999, li_1200, li_1440, li_4095, li_4096, li_6030, li_16384, li_20160, zl0, zl1, zl2, zl3, zl4, ze01, ze02, ze03, ze04, ze10, ze12, ze13, ze14, ze20, ze21, ze23, ze24, ze30, ze31, ze32, ze34, ze40, ze41, ze42, ze43, zt0, zt1, zt2, zt3, zt4, zq0, zq1, zq2, zq3, zq4, it_t, it_f, Bool.true_eq_false, Bool.false_eq_true, na5, na4, na1441, na2, na10, sx_IOIA, sx_IOIS, sx_IONS, sx_IAIO, sx_IAIS, sx_IANS, sx_ISIO, sx_ISIA, sx_ISNS, sx_NSIO, sx_NSIA, sx_NSIS, rR_cM_gi hS, rR_cM_pi hS, rR_cM_gi S1, e1, rR_cM_pi S1, rR_cM_gi S2, e2, rR_cM_pi S2, rR_cM_gi S3, e3, rR_cM_pi S3]
  have F4 : Fx (fun o k => o = 398 ∧ 8 ≤ k ∧ k ≤ 11) h (h_si (h_si (h_si (h_si h 398 8 (h_iv h 398 39)) 398 9 (h_iv h 398 41)) 398 10 (h_iv h 398 42)) 398 11 (h_iv h 398 43)) := (((Fx.si (A := fun o k => o = 398 ∧ 8 ≤ k ∧ k ≤ 11) ⟨rfl, by omega, by omega⟩).trans (Fx.si ⟨rfl, by omega, by omega⟩)).trans (Fx.si ⟨rfl, by omega, by omega⟩)).trans (Fx.si ⟨rfl, by omega, by omega⟩)
  have a8 : h_iv (h_si (h_si (h_si (h_si h 398 8 (h_iv h 398 39)) 398 9 (h_iv h 398 41)) 398 10 (h_iv h 398 42)) 398 11 (h_iv h 398 43)) 398 8 = h_iv h 398 39 := by rw [si_ne (by omega), si_ne (by omega), si_ne (by omega), si_at]
  have a9 : h_iv (h_si (h_si (h_si (h_si h 398 8 (h_iv h 398 39)) 398 9 (h_iv h 398 41)) 398 10 (h_iv h 398 42)) 398 11 (h_iv h 398 43)) 398 9 = h_iv h 398 41 := by rw [si_ne (by omega), si_ne (by omega), si_at]
  have a10 : h_iv (h_si (h_si (h_si (h_si h 398 8 (h_iv h 398 39)) 398 9 (h_iv h 398 41)) 398 10 (h_iv h 398 42)) 398 11 (h_iv h 398 43)) 398 10 = h_iv h 398 42 := by rw [si_ne (by omega), si_at]
  have a11 : h_iv (h_si (h_si (h_si (h_si h 398 8 (h_iv h 398 39)) 398 9 (h_iv h 398 41)) 398 10 (h_iv h 398 42)) 398 11 (h_iv h 398 43)) 398 11 = h_iv h 398 43 := si_at
  generalize h_si (h_si (h_si (h_si h 398 8 (h_iv h 398 39)) 398 9 (h_iv h 398 41)) 398 10 (h_iv h 398 42)) 398 11 (h_iv h 398 43) = g4 at *
  generalize hK : (fun (_ : Unit) (h1 : aH) => TKR h h1) = K
  refine aJ_gen (R := fun o => OK o K) (fun k58 hk58 => ?_)
  refine tR_L34 S4 (fun o => OK o K) (fun g5 S5 q5 f5 => ?_)
  rw [hk58]; dsimp only
  refine aJ_gen (R := fun o => OK o K) (fun k83 hk83 => ?_)
  refine tR_L60 S5 (fun o => OK o K) (fun g6 F6 f6 => ?_)
  have S6 := F6.shR S5
  rw [hk83]; dsimp only
  refine aJ_gen (R := fun o => OK o K) (fun k121 hk121 => ?_)
  refine tR_L85 S6 (fun o => OK o K) (fun g7 F7 f7 => ?_)
  have S7 := F7.shR S6
  rw [hk121]; dsimp only
  refine aJ_gen (R := fun o => OK o K) (fun k143 hk143 => ?_)
  refine tR_L123 S7 (fun o => OK o K) (fun g8 F8 f8 => ?_)
  have S8 := F8.shR S7
  rw [hk143]; dsimp only
  refine aJ_gen (R := fun o => OK o K) (fun k173 hk173 => ?_)
  refine tR_L145 S8 (fun o => OK o K) (fun g9 F9 f9 => ?_)
  have S9 := F9.shR S8
  rw [hk173]; dsimp only
  refine aJ_gen (R := fun o => OK o K) (fun k323 hk323 => ?_)
  refine tR_L175 S9 (fun o => OK o K) (fun g10 F10 f10 => ?_)
  have S10 := F10.shR S9
  rw [hk323]; dsimp only
  refine aJ_gen (R := fun o => OK o K) (fun k360 hk360 => ?_)
  refine tR_L325 S10 (fun o => OK o K) (fun g11 F11 f11 => ?_)
  have S11 := F11.shR S10
  rw [hk360]; dsimp only
  refine aJ_gen (R := fun o => OK o K) (fun k386 hk386 => ?_)
  refine tR_L362 S11 (fun o => OK o K) (fun g12 F12 f12 => ?_)
  have S12 := F12.shR S11
  rw [hk386]; dsimp only
  refine aJ_gen (R := fun o => OK o K) (fun k424 hk424 => ?_)
  refine tR_L388 S12 (fun o => OK o K) (fun g13 F13 f13 => ?_)
  have S13 := F13.shR S12
  rw [hk424]
  have S14 := S13.si 398 6 (nI 0)
  have w15 : asz (h_si g13 398 6 (nI 0)) 403 (nI 0) (nI 0) = some (h_si (h_si g13 398 6 (nI 0)) 403 0 (nI 0)) := rR_c403_as S14 (by omega) (Or.inl rfl)
  have S15 := S14.si 403 0 (nI 0)
  have w16 : asz (h_si (h_si g13 398 6 (nI 0)) 403 0 (nI 0)) 403 (nI 1) (nI 0) = some (h_si (h_si (h_si g13 398 6 (nI 0)) 403 0 (nI 0)) 403 1 (nI 0)) := rR_c403_as S15 (by omega) (Or.inl rfl)
  simp (maxSteps := 3000000) (disch := first | assumption | omega) only [bO_v, bR_v, bX_l, bX_r, bC_l, bC_r, aLet_v, nI_add, pk_mul, dvI_n, rmI_n, iMax_n, iMin_n, zO_0, zO_1, li_0, li_1, li_2, li_3, li_4, li_5, li_6, li_7, li_8, li_9, li_10, li_12, li_14, li_15, li_16, li_18, li_19, li_20, li_22, li_23, li_24, li_26, li_29, li_30, li_31, li_32, li_36, li_38, li_48, li_50, li_57, li_58, li_59, li_60, li_63, li_97, li_99, li_120, li_122, li_144, li_168, li_194, li_240, li_255, li_284, li_299, li_603, li_999, li_1200, li_1440, li_4095, li_4096, li_6030, li_16384, li_20160, zl0, zl1, zl2, zl3, zl4, ze01, ze02, ze03, ze04, ze10, ze12, ze13, ze14, ze20, ze21, ze23, ze24, ze30, ze31, ze32, ze34, ze40, ze41, ze42, ze43, zt0, zt1, zt2, zt3, zt4, zq0, zq1, zq2, zq3, zq4, it_t, it_f, Bool.true_eq_false, Bool.false_eq_true, na5, na4, na1441, na2, na10, sx_IOIA, sx_IOIS, sx_IONS, sx_IAIO, sx_IAIS, sx_IANS, sx_ISIO, sx_ISIA, sx_ISNS, sx_NSIO, sx_NSIA, sx_NSIS, rR_cM_pi S13, rR_p403 S14, w15, rR_p403 S15, w16]
  have F16 : Fx (fun o k => (o = 398 ∧ k = 6) ∨ (o = 403 ∧ k < 2)) g13 (h_si (h_si (h_si g13 398 6 (nI 0)) 403 0 (nI 0)) 403 1 (nI 0)) := ((Fx.si (A := fun o k => (o = 398 ∧ k = 6) ∨ (o = 403 ∧ k < 2)) (Or.inl ⟨rfl, rfl⟩)).trans (Fx.si (Or.inr ⟨rfl, by omega⟩))).trans (Fx.si (Or.inr ⟨rfl, by omega⟩))
  have b6 : h_iv (h_si (h_si (h_si g13 398 6 (nI 0)) 403 0 (nI 0)) 403 1 (nI 0)) 398 6 = nI 0 := by rw [si_ne (by omega), si_ne (by omega), si_at]
  have b0 : h_iv (h_si (h_si (h_si g13 398 6 (nI 0)) 403 0 (nI 0)) 403 1 (nI 0)) 403 0 = nI 0 := by rw [si_ne (by omega), si_at]
  have b1 : h_iv (h_si (h_si (h_si g13 398 6 (nI 0)) 403 0 (nI 0)) 403 1 (nI 0)) 403 1 = nI 0 := si_at
  generalize h_si (h_si (h_si g13 398 6 (nI 0)) 403 0 (nI 0)) 403 1 (nI 0) = g16 at *
  have S16 := F16.shR S13
  rw [← hK]
  obtain ⟨q51, q52, q53, q54, q55, q56, q57⟩ := q5
  -- frames
  have v5 : ∀ o j, ¬ (o = 398 ∧ 8 ≤ j ∧ j ≤ 11) → h_iv g5 o j = h_iv h o j := fun o j q => by rw [q56]; exact F4.iv q
  have s5 : ∀ o j, 422 ≤ o → h_iv g5 o j = h_iv h o j := fun o j q => v5 o j (by omega)
  have s6 : ∀ o j, 422 ≤ o → h_iv g6 o j = h_iv h o j := fun o j q => by rw [F6.iv (by omega)]; exact s5 o j q
  have s7 : ∀ o j, 422 ≤ o → h_iv g7 o j = h_iv h o j := fun o j q => by rw [F7.iv (by omega)]; exact s6 o j q
  have s8 : ∀ o j, 422 ≤ o → h_iv g8 o j = h_iv h o j := fun o j q => by rw [F8.iv (by omega)]; exact s7 o j q
  have s9 : ∀ o j, 422 ≤ o → h_iv g9 o j = h_iv h o j := fun o j q => by rw [F9.iv (by omega)]; exact s8 o j q
  have s10 : ∀ o j, 422 ≤ o → h_iv g10 o j = h_iv h o j := fun o j q => by rw [F10.iv (by omega)]; exact s9 o j q
  have s11 : ∀ o j, 422 ≤ o → h_iv g11 o j = h_iv h o j := fun o j q => by rw [F11.iv (by omega)]; exact s10 o j q
  have s12 : ∀ o j, 422 ≤ o → h_iv g12 o j = h_iv h o j := fun o j q => by rw [F12.iv (by omega)]; exact s11 o j q
  -- from each step to the end
  have t13 : ∀ o j, o ≠ 398 → o ≠ 403 → h_iv g16 o j = h_iv g13 o j := fun o j q1 q2 => F16.iv (by omega)
  have t12 : ∀ o j, o ≠ 398 → o ≠ 403 → o ≠ 413 → o ≠ 420 → h_iv g16 o j = h_iv g12 o j := fun o j q1 q2 q3 q4 => by rw [t13 o j q1 q2, F13.iv (by omega)]
  have t11 : ∀ o j, o ≠ 398 → o ≠ 403 → o ≠ 413 → o ≠ 420 → o ≠ 418 → h_iv g16 o j = h_iv g11 o j := fun o j q1 q2 q3 q4 q5 => by rw [t12 o j q1 q2 q3 q4, F12.iv (by omega)]
  have t10 : ∀ o j, o ≠ 398 → o ≠ 403 → o ≠ 413 → o ≠ 420 → o ≠ 418 → o ≠ 411 → o ≠ 412 → h_iv g16 o j = h_iv g10 o j := fun o j q1 q2 q3 q4 q5 q6 q7 => by rw [t11 o j q1 q2 q3 q4 q5, F11.iv (by omega)]
  have t9 : ∀ o j, o < 408 → o ≠ 398 → o ≠ 403 → o ≠ 399 → h_iv g16 o j = h_iv g7 o j := fun o j q1 q2 q3 q4 => by rw [t10 o j q2 q3 (by omega) (by omega) (by omega) (by omega) (by omega), F10.iv (by omega), F9.iv (by omega), F8.iv (by omega)]
  have r10 : ∀ j, h_iv g16 399 j = h_iv g10 399 j := fun j => t10 399 j (by omega) (by omega) (by omega) (by omega) (by omega) (by omega) (by omega)
  refine ok_ret ⟨S16, ⟨?_, ?_, ?_, ?_, ?_⟩, fun o k q => ?_, fun o k q => ?_, ⟨?_, ?_, ?_, ?_, b6⟩, fun k hk => ?_, fun o k q => ?_, fun j hj => ?_, fun s hs => ?_⟩
  · rw [F16.1, F13.1, F12.1, F11.1, F10.1, F9.1, F8.1, F7.1, F6.1, q51]; exact F4.1
  · rw [F16.2.1, F13.2.1, F12.2.1, F11.2.1, F10.2.1, F9.2.1, F8.2.1, F7.2.1, F6.2.1, q52]; exact F4.2.1
  · rw [F16.2.2.1, F13.2.2.1, F12.2.2.1, F11.2.2.1, F10.2.2.1, F9.2.2.1, F8.2.2.1, F7.2.2.1, F6.2.2.1, q53]; exact F4.2.2.1
  · rw [F16.2.2.2.1, F13.2.2.2.1, F12.2.2.2.1, F11.2.2.2.1, F10.2.2.2.1, F9.2.2.2.1, F8.2.2.2.1, F7.2.2.2.1, F6.2.2.2.1, q54]; exact F4.2.2.2.1
  · rw [F16.2.2.2.2.1, F13.2.2.2.2.1, F12.2.2.2.2.1, F11.2.2.2.2.1, F10.2.2.2.2.1, F9.2.2.2.2.1, F8.2.2.2.2.1, F7.2.2.2.2.1, F6.2.2.2.2.1, q55]; exact F4.2.2.2.2.1
  · unfold TKc cel at q
    rw [F16.iv (by omega), F13.iv (by omega), F12.iv (by omega), F11.iv (by omega), F10.iv (by omega), F9.iv (by omega), F8.iv (by omega), F7.iv (by omega), F6.iv (by omega)]
    exact v5 o k (by omega)
  · rw [F16.2.2.2.2.2.1, F13.2.2.2.2.2.1, F12.2.2.2.2.2.1, F11.2.2.2.2.2.1, F10.2.2.2.2.2.1, F9.2.2.2.2.2.1, F8.2.2.2.2.2.1, F7.2.2.2.2.2.1, F6.2.2.2.2.2.1, q57 o k q, F4.2.2.2.2.2.1]
  · rw [F16.iv (by omega), F13.iv (by omega), F12.iv (by omega), F11.iv (by omega), F10.iv (by omega), F9.iv (by omega), F8.iv (by omega), F7.iv (by omega), F6.iv (by omega), q56]; exact a8
  · rw [F16.iv (by omega), F13.iv (by omega), F12.iv (by omega), F11.iv (by omega), F10.iv (by omega), F9.iv (by omega), F8.iv (by omega), F7.iv (by omega), F6.iv (by omega), q56]; exact a9
  · rw [F16.iv (by omega), F13.iv (by omega), F12.iv (by omega), F11.iv (by omega), F10.iv (by omega), F9.iv (by omega), F8.iv (by omega), F7.iv (by omega), F6.iv (by omega), q56]; exact a10
  · rw [F16.iv (by omega), F13.iv (by omega), F12.iv (by omega), F11.iv (by omega), F10.iv (by omega), F9.iv (by omega), F8.iv (by omega), F7.iv (by omega), F6.iv (by omega), q56]; exact a11
  · rw [F16.2.2.2.2.2.1, F13.2.2.2.2.2.1, F12.2.2.2.2.2.1, F11.2.2.2.2.2.1, F10.2.2.2.2.2.1, F9.2.2.2.2.2.1, F8.2.2.2.2.2.1, F7.2.2.2.2.2.1, F6.2.2.2.2.2.1, f5 k hk, F4.2.2.2.2.2.1]
  · rcases q with ⟨rfl, k9⟩ | ⟨c, k9⟩ | ⟨c, k9⟩ | ⟨c, k9⟩ | ⟨c, k9⟩ | ⟨rfl, k9⟩
    · rw [t9 _ _ (by omega) (by omega) (by omega) (by omega), F7.iv (by omega)]
      exact (f6 k k9).trans (s5 _ _ (by omega))
    · rcases c with rfl | rfl <;> rw [t9 _ _ (by omega) (by omega) (by omega) (by omega)]
      · exact (f7 k k9).1.trans (s6 _ _ (by omega))
      · exact (f7 k k9).2.trans (s6 _ _ (by omega))
    · have f := f10 k k9
      rcases c with rfl | rfl | rfl | rfl | rfl | rfl | rfl | rfl <;> rw [t10 _ _ (by omega) (by omega) (by omega) (by omega) (by omega) (by omega) (by omega)]
      · exact f.1.trans (s9 _ _ (by omega))
      · exact f.2.1.trans (s9 _ _ (by omega))
      · exact f.2.2.1.trans (s9 _ _ (by omega))
      · exact f.2.2.2.1.trans (s9 _ _ (by omega))
      · exact f.2.2.2.2.1.trans (s9 _ _ (by omega))
      · exact f.2.2.2.2.2.1.trans (s9 _ _ (by omega))
      · exact f.2.2.2.2.2.2.1.trans (s9 _ _ (by omega))
      · exact f.2.2.2.2.2.2.2.1.trans (s9 _ _ (by omega))
    · rcases c with rfl | rfl <;> rw [t11 _ _ (by omega) (by omega) (by omega) (by omega) (by omega)]
      · exact (f11 k k9).1.trans (s10 _ _ (by omega))
      · exact (f11 k k9).2.trans (s10 _ _ (by omega))
    · rcases c with rfl | rfl <;> rw [t13 _ _ (by omega) (by omega)]
      · exact (f13 k k9).1.trans (s12 _ _ (by omega))
      · exact (f13 k k9).2.trans (s12 _ _ (by omega))
    · rw [t12 _ _ (by omega) (by omega) (by omega) (by omega)]
      exact (f12 k k9).trans (s11 _ _ (by omega))
  · rw [r10]
    unfold rowv
    by_cases c1 : 50 ≤ j ∧ j < 194
    · rw [if_pos c1, F10.iv (by omega)]
      have := f9 (j - 50) (by omega)
      rw [show 50 + (j - 50) = j by omega] at this
      exact this.trans (s8 _ _ (by omega))
    · rw [if_neg c1]
      by_cases c2 : 194 ≤ j ∧ j < 284 ∧ (j - 194) % 15 < 8
      · rw [if_pos c2]
        have := (f10 ((j - 194) / 15) (by omega)).2.2.2.2.2.2.2.2 ((j - 194) % 15) c2.2.2
        rw [show 194 + 15 * ((j - 194) / 15) + (j - 194) % 15 = j by omega] at this
        exact this.trans (s9 _ _ (by omega))
      · rw [if_neg c2, F10.iv (by omega), F9.iv (by omega)]
        exact f8 j hj
  · rcases (show s = 0 ∨ s = 1 by omega) with r | r <;> subst r
    · exact b0
    · exact b1
end
