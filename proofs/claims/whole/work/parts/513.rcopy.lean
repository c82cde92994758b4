/-! the reference takes a text ahead of the class's array: the same, where the reference alone need stand -/
def ShR (h : aH) : Prop := 462 ≤ h_nx h ∧ (∀ q ∈ shL, 412 ≤ q.1 → q.1 < 462 → h_sh h q.1 = q.2.1 ∧ (q.2.1 < 10 → h_ln h q.1 = q.2.2)) ∧ ∀ q ∈ ptL, 412 ≤ q.1 → h_rv h q.1 q.2.1 = q.2.2
theorem ShR.si {h : aH} (hS : ShR h) (o k : Nat) (x : Int32) : ShR (h_si h o k x) := hS
theorem ShR.sL {h : aH} (hS : ShR h) (o k : Nat) (x : Int64) : ShR (h_sL h o k x) := hS
theorem Fx.shR {A : Nat → Nat → Prop} {h h' : aH} (x : Fx A h h') (hS : ShR h) : ShR h' := by
  obtain ⟨x1, x2, x3, x4, x5, -⟩ := x
  refine ⟨?_, fun q hq q1 q2 => ?_, fun q hq q1 => ?_⟩
  · rw [x1]; exact hS.1
  · rw [x3, x4]; exact hS.2.1 q hq q1 q2
  · rw [x5]; exact hS.2.2 q hq q1
theorem rR_c413 {h : aH} (hS : ShR h) : h_sh h (413) = 1 ∧ h_ln h (413) = 603 := ⟨(hS.2.1 _ r_c413m (by decide) (by decide)).1, (hS.2.1 _ r_c413m (by decide) (by decide)).2 (show (1 : Nat) < 10 by decide)⟩
theorem rR_c417 {h : aH} (hS : ShR h) : h_sh h (417) = 3 ∧ h_ln h (417) = 2 := ⟨(hS.2.1 _ r_c417m (by decide) (by decide)).1, (hS.2.1 _ r_c417m (by decide) (by decide)).2 (show (3 : Nat) < 10 by decide)⟩
theorem rR_c418 {h : aH} (hS : ShR h) : h_sh h (418) = 1 ∧ h_ln h (418) = 4 := ⟨(hS.2.1 _ r_c418m (by decide) (by decide)).1, (hS.2.1 _ r_c418m (by decide) (by decide)).2 (show (1 : Nat) < 10 by decide)⟩
theorem rR_c419 {h : aH} (hS : ShR h) : h_sh h (419) = 4 ∧ h_ln h (419) = 29 := ⟨(hS.2.1 _ r_c419m (by decide) (by decide)).1, (hS.2.1 _ r_c419m (by decide) (by decide)).2 (show (4 : Nat) < 10 by decide)⟩
theorem rR_c420 {h : aH} (hS : ShR h) : h_sh h (420) = 1 ∧ h_ln h (420) = 12 := ⟨(hS.2.1 _ r_c420m (by decide) (by decide)).1, (hS.2.1 _ r_c420m (by decide) (by decide)).2 (show (1 : Nat) < 10 by decide)⟩
theorem rR_c421 {h : aH} (hS : ShR h) : h_sh h (421) = 1 ∧ h_ln h (421) = 12 := ⟨(hS.2.1 _ r_c421m (by decide) (by decide)).1, (hS.2.1 _ r_c421m (by decide) (by decide)).2 (show (1 : Nat) < 10 by decide)⟩
theorem rR_c422 {h : aH} (hS : ShR h) : h_sh h (422) = 1 ∧ h_ln h (422) = 6 := ⟨(hS.2.1 _ r_c422m (by decide) (by decide)).1, (hS.2.1 _ r_c422m (by decide) (by decide)).2 (show (1 : Nat) < 10 by decide)⟩
theorem rR_c423 {h : aH} (hS : ShR h) : h_sh h (423) = 1 ∧ h_ln h (423) = 6 := ⟨(hS.2.1 _ r_c423m (by decide) (by decide)).1, (hS.2.1 _ r_c423m (by decide) (by decide)).2 (show (1 : Nat) < 10 by decide)⟩
theorem rR_c424 {h : aH} (hS : ShR h) : h_sh h (424) = 1 ∧ h_ln h (424) = 6 := ⟨(hS.2.1 _ r_c424m (by decide) (by decide)).1, (hS.2.1 _ r_c424m (by decide) (by decide)).2 (show (1 : Nat) < 10 by decide)⟩
theorem rR_c425 {h : aH} (hS : ShR h) : h_sh h (425) = 1 ∧ h_ln h (425) = 5 := ⟨(hS.2.1 _ r_c425m (by decide) (by decide)).1, (hS.2.1 _ r_c425m (by decide) (by decide)).2 (show (1 : Nat) < 10 by decide)⟩
theorem rR_c426 {h : aH} (hS : ShR h) : h_sh h (426) = 1 ∧ h_ln h (426) = 5 := ⟨(hS.2.1 _ r_c426m (by decide) (by decide)).1, (hS.2.1 _ r_c426m (by decide) (by decide)).2 (show (1 : Nat) < 10 by decide)⟩
theorem rR_c427 {h : aH} (hS : ShR h) : h_sh h (427) = 1 ∧ h_ln h (427) = 30 := ⟨(hS.2.1 _ r_c427m (by decide) (by decide)).1, (hS.2.1 _ r_c427m (by decide) (by decide)).2 (show (1 : Nat) < 10 by decide)⟩
theorem rR_c428 {h : aH} (hS : ShR h) : h_sh h (428) = 1 ∧ h_ln h (428) = 6 := ⟨(hS.2.1 _ r_c428m (by decide) (by decide)).1, (hS.2.1 _ r_c428m (by decide) (by decide)).2 (show (1 : Nat) < 10 by decide)⟩
theorem rR_c429 {h : aH} (hS : ShR h) : h_sh h (429) = 1 ∧ h_ln h (429) = 6 := ⟨(hS.2.1 _ r_c429m (by decide) (by decide)).1, (hS.2.1 _ r_c429m (by decide) (by decide)).2 (show (1 : Nat) < 10 by decide)⟩
theorem rR_c430 {h : aH} (hS : ShR h) : h_sh h (430) = 1 ∧ h_ln h (430) = 6 := ⟨(hS.2.1 _ r_c430m (by decide) (by decide)).1, (hS.2.1 _ r_c430m (by decide) (by decide)).2 (show (1 : Nat) < 10 by decide)⟩
theorem rR_c431 {h : aH} (hS : ShR h) : h_sh h (431) = 1 ∧ h_ln h (431) = 6 := ⟨(hS.2.1 _ r_c431m (by decide) (by decide)).1, (hS.2.1 _ r_c431m (by decide) (by decide)).2 (show (1 : Nat) < 10 by decide)⟩
theorem rR_c432 {h : aH} (hS : ShR h) : h_sh h (432) = 1 ∧ h_ln h (432) = 36 := ⟨(hS.2.1 _ r_c432m (by decide) (by decide)).1, (hS.2.1 _ r_c432m (by decide) (by decide)).2 (show (1 : Nat) < 10 by decide)⟩
theorem rR_c433 {h : aH} (hS : ShR h) : h_sh h (433) = 1 ∧ h_ln h (433) = 6 := ⟨(hS.2.1 _ r_c433m (by decide) (by decide)).1, (hS.2.1 _ r_c433m (by decide) (by decide)).2 (show (1 : Nat) < 10 by decide)⟩
theorem rR_c434 {h : aH} (hS : ShR h) : h_sh h (434) = 1 ∧ h_ln h (434) = 30 := ⟨(hS.2.1 _ r_c434m (by decide) (by decide)).1, (hS.2.1 _ r_c434m (by decide) (by decide)).2 (show (1 : Nat) < 10 by decide)⟩
theorem rR_c436 {h : aH} (hS : ShR h) : h_sh h (436) = 1 ∧ h_ln h (436) = 4 := ⟨(hS.2.1 _ r_c436m (by decide) (by decide)).1, (hS.2.1 _ r_c436m (by decide) (by decide)).2 (show (1 : Nat) < 10 by decide)⟩
theorem rR_c437 {h : aH} (hS : ShR h) : h_sh h (437) = 4 ∧ h_ln h (437) = 29 := ⟨(hS.2.1 _ r_c437m (by decide) (by decide)).1, (hS.2.1 _ r_c437m (by decide) (by decide)).2 (show (4 : Nat) < 10 by decide)⟩
theorem rR_c438 {h : aH} (hS : ShR h) : h_sh h (438) = 1 ∧ h_ln h (438) = 12 := ⟨(hS.2.1 _ r_c438m (by decide) (by decide)).1, (hS.2.1 _ r_c438m (by decide) (by decide)).2 (show (1 : Nat) < 10 by decide)⟩
theorem rR_c439 {h : aH} (hS : ShR h) : h_sh h (439) = 1 ∧ h_ln h (439) = 12 := ⟨(hS.2.1 _ r_c439m (by decide) (by decide)).1, (hS.2.1 _ r_c439m (by decide) (by decide)).2 (show (1 : Nat) < 10 by decide)⟩
theorem rR_c440 {h : aH} (hS : ShR h) : h_sh h (440) = 1 ∧ h_ln h (440) = 144 := ⟨(hS.2.1 _ r_c440m (by decide) (by decide)).1, (hS.2.1 _ r_c440m (by decide) (by decide)).2 (show (1 : Nat) < 10 by decide)⟩
theorem rR_c442 {h : aH} (hS : ShR h) : h_sh h (442) = 1 ∧ h_ln h (442) = 6 := ⟨(hS.2.1 _ r_c442m (by decide) (by decide)).1, (hS.2.1 _ r_c442m (by decide) (by decide)).2 (show (1 : Nat) < 10 by decide)⟩
theorem rR_c443 {h : aH} (hS : ShR h) : h_sh h (443) = 1 ∧ h_ln h (443) = 6 := ⟨(hS.2.1 _ r_c443m (by decide) (by decide)).1, (hS.2.1 _ r_c443m (by decide) (by decide)).2 (show (1 : Nat) < 10 by decide)⟩
theorem rR_c444 {h : aH} (hS : ShR h) : h_sh h (444) = 1 ∧ h_ln h (444) = 6 := ⟨(hS.2.1 _ r_c444m (by decide) (by decide)).1, (hS.2.1 _ r_c444m (by decide) (by decide)).2 (show (1 : Nat) < 10 by decide)⟩
theorem rR_c445 {h : aH} (hS : ShR h) : h_sh h (445) = 1 ∧ h_ln h (445) = 48 := ⟨(hS.2.1 _ r_c445m (by decide) (by decide)).1, (hS.2.1 _ r_c445m (by decide) (by decide)).2 (show (1 : Nat) < 10 by decide)⟩
theorem rR_c446 {h : aH} (hS : ShR h) : h_sh h (446) = 1 ∧ h_ln h (446) = 5 := ⟨(hS.2.1 _ r_c446m (by decide) (by decide)).1, (hS.2.1 _ r_c446m (by decide) (by decide)).2 (show (1 : Nat) < 10 by decide)⟩
theorem rR_c447 {h : aH} (hS : ShR h) : h_sh h (447) = 1 ∧ h_ln h (447) = 5 := ⟨(hS.2.1 _ r_c447m (by decide) (by decide)).1, (hS.2.1 _ r_c447m (by decide) (by decide)).2 (show (1 : Nat) < 10 by decide)⟩
theorem rR_c448 {h : aH} (hS : ShR h) : h_sh h (448) = 1 ∧ h_ln h (448) = 30 := ⟨(hS.2.1 _ r_c448m (by decide) (by decide)).1, (hS.2.1 _ r_c448m (by decide) (by decide)).2 (show (1 : Nat) < 10 by decide)⟩
theorem rR_c449 {h : aH} (hS : ShR h) : h_sh h (449) = 1 ∧ h_ln h (449) = 6 := ⟨(hS.2.1 _ r_c449m (by decide) (by decide)).1, (hS.2.1 _ r_c449m (by decide) (by decide)).2 (show (1 : Nat) < 10 by decide)⟩
theorem rR_c450 {h : aH} (hS : ShR h) : h_sh h (450) = 1 ∧ h_ln h (450) = 6 := ⟨(hS.2.1 _ r_c450m (by decide) (by decide)).1, (hS.2.1 _ r_c450m (by decide) (by decide)).2 (show (1 : Nat) < 10 by decide)⟩
theorem rR_c451 {h : aH} (hS : ShR h) : h_sh h (451) = 1 ∧ h_ln h (451) = 6 := ⟨(hS.2.1 _ r_c451m (by decide) (by decide)).1, (hS.2.1 _ r_c451m (by decide) (by decide)).2 (show (1 : Nat) < 10 by decide)⟩
theorem rR_c452 {h : aH} (hS : ShR h) : h_sh h (452) = 1 ∧ h_ln h (452) = 6 := ⟨(hS.2.1 _ r_c452m (by decide) (by decide)).1, (hS.2.1 _ r_c452m (by decide) (by decide)).2 (show (1 : Nat) < 10 by decide)⟩
theorem rR_c453 {h : aH} (hS : ShR h) : h_sh h (453) = 1 ∧ h_ln h (453) = 36 := ⟨(hS.2.1 _ r_c453m (by decide) (by decide)).1, (hS.2.1 _ r_c453m (by decide) (by decide)).2 (show (1 : Nat) < 10 by decide)⟩
theorem rR_c454 {h : aH} (hS : ShR h) : h_sh h (454) = 1 ∧ h_ln h (454) = 6 := ⟨(hS.2.1 _ r_c454m (by decide) (by decide)).1, (hS.2.1 _ r_c454m (by decide) (by decide)).2 (show (1 : Nat) < 10 by decide)⟩
theorem rR_c455 {h : aH} (hS : ShR h) : h_sh h (455) = 1 ∧ h_ln h (455) = 30 := ⟨(hS.2.1 _ r_c455m (by decide) (by decide)).1, (hS.2.1 _ r_c455m (by decide) (by decide)).2 (show (1 : Nat) < 10 by decide)⟩
theorem rR_cM {h : aH} (hS : ShR h) : h_sh h (412) = 10 + 12 := (hS.2.1 _ r_cMm (by decide) (by decide)).1
theorem rR_c413_as {h : aH} (hS : ShR h) {n : Nat} (x : Int32) (hn : n < 603) : asi h (413) (nI n) x = some (h_si h (413) n x) := asi_ok (rR_c413 hS).1 (rR_c413 hS).2 hn (by omega)
theorem rR_c417_as {h : aH} (hS : ShR h) {n : Nat} {x : Int32} (hn : n < 2) (hx : x = 0 ∨ x = 1) : asz h (417) (nI n) x = some (h_si h (417) n x) := asz_ok (rR_c417 hS).1 (rR_c417 hS).2 hn (by omega) hx
theorem rR_c418_as {h : aH} (hS : ShR h) {n : Nat} (x : Int32) (hn : n < 4) : asi h (418) (nI n) x = some (h_si h (418) n x) := asi_ok (rR_c418 hS).1 (rR_c418 hS).2 hn (by omega)
theorem rR_c419_as {h : aH} (hS : ShR h) {n : Nat} (x : Int64) (hn : n < 29) : asL h (419) (nI n) x = some (h_sL h (419) n x) := asL_ok (rR_c419 hS).1 (rR_c419 hS).2 hn (by omega)
theorem rR_c420_as {h : aH} (hS : ShR h) {n : Nat} (x : Int32) (hn : n < 12) : asi h (420) (nI n) x = some (h_si h (420) n x) := asi_ok (rR_c420 hS).1 (rR_c420 hS).2 hn (by omega)
theorem rR_c421_as {h : aH} (hS : ShR h) {n : Nat} (x : Int32) (hn : n < 12) : asi h (421) (nI n) x = some (h_si h (421) n x) := asi_ok (rR_c421 hS).1 (rR_c421 hS).2 hn (by omega)
theorem rR_c422_as {h : aH} (hS : ShR h) {n : Nat} (x : Int32) (hn : n < 6) : asi h (422) (nI n) x = some (h_si h (422) n x) := asi_ok (rR_c422 hS).1 (rR_c422 hS).2 hn (by omega)
theorem rR_c423_as {h : aH} (hS : ShR h) {n : Nat} (x : Int32) (hn : n < 6) : asi h (423) (nI n) x = some (h_si h (423) n x) := asi_ok (rR_c423 hS).1 (rR_c423 hS).2 hn (by omega)
theorem rR_c424_as {h : aH} (hS : ShR h) {n : Nat} (x : Int32) (hn : n < 6) : asi h (424) (nI n) x = some (h_si h (424) n x) := asi_ok (rR_c424 hS).1 (rR_c424 hS).2 hn (by omega)
theorem rR_c425_as {h : aH} (hS : ShR h) {n : Nat} (x : Int32) (hn : n < 5) : asi h (425) (nI n) x = some (h_si h (425) n x) := asi_ok (rR_c425 hS).1 (rR_c425 hS).2 hn (by omega)
theorem rR_c426_as {h : aH} (hS : ShR h) {n : Nat} (x : Int32) (hn : n < 5) : asi h (426) (nI n) x = some (h_si h (426) n x) := asi_ok (rR_c426 hS).1 (rR_c426 hS).2 hn (by omega)
theorem rR_c427_as {h : aH} (hS : ShR h) {n : Nat} (x : Int32) (hn : n < 30) : asi h (427) (nI n) x = some (h_si h (427) n x) := asi_ok (rR_c427 hS).1 (rR_c427 hS).2 hn (by omega)
theorem rR_c428_as {h : aH} (hS : ShR h) {n : Nat} (x : Int32) (hn : n < 6) : asi h (428) (nI n) x = some (h_si h (428) n x) := asi_ok (rR_c428 hS).1 (rR_c428 hS).2 hn (by omega)
theorem rR_c429_as {h : aH} (hS : ShR h) {n : Nat} (x : Int32) (hn : n < 6) : asi h (429) (nI n) x = some (h_si h (429) n x) := asi_ok (rR_c429 hS).1 (rR_c429 hS).2 hn (by omega)
theorem rR_c430_as {h : aH} (hS : ShR h) {n : Nat} (x : Int32) (hn : n < 6) : asi h (430) (nI n) x = some (h_si h (430) n x) := asi_ok (rR_c430 hS).1 (rR_c430 hS).2 hn (by omega)
theorem rR_c431_as {h : aH} (hS : ShR h) {n : Nat} (x : Int32) (hn : n < 6) : asi h (431) (nI n) x = some (h_si h (431) n x) := asi_ok (rR_c431 hS).1 (rR_c431 hS).2 hn (by omega)
theorem rR_c432_as {h : aH} (hS : ShR h) {n : Nat} (x : Int32) (hn : n < 36) : asi h (432) (nI n) x = some (h_si h (432) n x) := asi_ok (rR_c432 hS).1 (rR_c432 hS).2 hn (by omega)
theorem rR_c433_as {h : aH} (hS : ShR h) {n : Nat} (x : Int32) (hn : n < 6) : asi h (433) (nI n) x = some (h_si h (433) n x) := asi_ok (rR_c433 hS).1 (rR_c433 hS).2 hn (by omega)
theorem rR_c434_as {h : aH} (hS : ShR h) {n : Nat} (x : Int32) (hn : n < 30) : asi h (434) (nI n) x = some (h_si h (434) n x) := asi_ok (rR_c434 hS).1 (rR_c434 hS).2 hn (by omega)
theorem rR_c436_al {h : aH} (hS : ShR h) {n : Nat} (hn : n < 4) : ali h 1 (436) (nI n) = some (h_iv h (436) n) := ali_ok (rR_c436 hS).1 (rR_c436 hS).2 hn (by omega)
theorem rR_c437_al {h : aH} (hS : ShR h) {n : Nat} (hn : n < 29) : alL h (437) (nI n) = some (h_lv h (437) n) := alL_ok (rR_c437 hS).1 (rR_c437 hS).2 hn (by omega)
theorem rR_c438_al {h : aH} (hS : ShR h) {n : Nat} (hn : n < 12) : ali h 1 (438) (nI n) = some (h_iv h (438) n) := ali_ok (rR_c438 hS).1 (rR_c438 hS).2 hn (by omega)
theorem rR_c439_al {h : aH} (hS : ShR h) {n : Nat} (hn : n < 12) : ali h 1 (439) (nI n) = some (h_iv h (439) n) := ali_ok (rR_c439 hS).1 (rR_c439 hS).2 hn (by omega)
theorem rR_c440_al {h : aH} (hS : ShR h) {n : Nat} (hn : n < 144) : ali h 1 (440) (nI n) = some (h_iv h (440) n) := ali_ok (rR_c440 hS).1 (rR_c440 hS).2 hn (by omega)
theorem rR_c442_al {h : aH} (hS : ShR h) {n : Nat} (hn : n < 6) : ali h 1 (442) (nI n) = some (h_iv h (442) n) := ali_ok (rR_c442 hS).1 (rR_c442 hS).2 hn (by omega)
theorem rR_c443_al {h : aH} (hS : ShR h) {n : Nat} (hn : n < 6) : ali h 1 (443) (nI n) = some (h_iv h (443) n) := ali_ok (rR_c443 hS).1 (rR_c443 hS).2 hn (by omega)
theorem rR_c444_al {h : aH} (hS : ShR h) {n : Nat} (hn : n < 6) : ali h 1 (444) (nI n) = some (h_iv h (444) n) := ali_ok (rR_c444 hS).1 (rR_c444 hS).2 hn (by omega)
theorem rR_c445_al {h : aH} (hS : ShR h) {n : Nat} (hn : n < 48) : ali h 1 (445) (nI n) = some (h_iv h (445) n) := ali_ok (rR_c445 hS).1 (rR_c445 hS).2 hn (by omega)
theorem rR_c446_al {h : aH} (hS : ShR h) {n : Nat} (hn : n < 5) : ali h 1 (446) (nI n) = some (h_iv h (446) n) := ali_ok (rR_c446 hS).1 (rR_c446 hS).2 hn (by omega)
theorem rR_c447_al {h : aH} (hS : ShR h) {n : Nat} (hn : n < 5) : ali h 1 (447) (nI n) = some (h_iv h (447) n) := ali_ok (rR_c447 hS).1 (rR_c447 hS).2 hn (by omega)
theorem rR_c448_al {h : aH} (hS : ShR h) {n : Nat} (hn : n < 30) : ali h 1 (448) (nI n) = some (h_iv h (448) n) := ali_ok (rR_c448 hS).1 (rR_c448 hS).2 hn (by omega)
theorem rR_c449_al {h : aH} (hS : ShR h) {n : Nat} (hn : n < 6) : ali h 1 (449) (nI n) = some (h_iv h (449) n) := ali_ok (rR_c449 hS).1 (rR_c449 hS).2 hn (by omega)
theorem rR_c450_al {h : aH} (hS : ShR h) {n : Nat} (hn : n < 6) : ali h 1 (450) (nI n) = some (h_iv h (450) n) := ali_ok (rR_c450 hS).1 (rR_c450 hS).2 hn (by omega)
theorem rR_c451_al {h : aH} (hS : ShR h) {n : Nat} (hn : n < 6) : ali h 1 (451) (nI n) = some (h_iv h (451) n) := ali_ok (rR_c451 hS).1 (rR_c451 hS).2 hn (by omega)
theorem rR_c452_al {h : aH} (hS : ShR h) {n : Nat} (hn : n < 6) : ali h 1 (452) (nI n) = some (h_iv h (452) n) := ali_ok (rR_c452 hS).1 (rR_c452 hS).2 hn (by omega)
theorem rR_c453_al {h : aH} (hS : ShR h) {n : Nat} (hn : n < 36) : ali h 1 (453) (nI n) = some (h_iv h (453) n) := ali_ok (rR_c453 hS).1 (rR_c453 hS).2 hn (by omega)
theorem rR_c454_al {h : aH} (hS : ShR h) {n : Nat} (hn : n < 6) : ali h 1 (454) (nI n) = some (h_iv h (454) n) := ali_ok (rR_c454 hS).1 (rR_c454 hS).2 hn (by omega)
theorem rR_c455_al {h : aH} (hS : ShR h) {n : Nat} (hn : n < 30) : ali h 1 (455) (nI n) = some (h_iv h (455) n) := ali_ok (rR_c455 hS).1 (rR_c455 hS).2 hn (by omega)
theorem rR_cM_gi {h : aH} (hS : ShR h) (k : Nat) : gi h 12 (412) k = some (h_iv h (412) k) := gi_ok (rR_cM hS)
theorem rR_cM_pi {h : aH} (hS : ShR h) (k : Nat) (x : Int32) : pi h 12 (412) k x = some (h_si h (412) k x) := pi_ok (rR_cM hS)
theorem rR_p413 {h : aH} (hS : ShR h) : gr h 12 (412) 1 = some (413) := gr_ok9 (rR_cM hS) (hS.2.2 _ r_p413m (by decide)) (by decide)
theorem rR_p417 {h : aH} (hS : ShR h) : gr h 12 (412) 5 = some (417) := gr_ok9 (rR_cM hS) (hS.2.2 _ r_p417m (by decide)) (by decide)
theorem rR_p418 {h : aH} (hS : ShR h) : gr h 12 (412) 7 = some (418) := gr_ok9 (rR_cM hS) (hS.2.2 _ r_p418m (by decide)) (by decide)
theorem rR_p419 {h : aH} (hS : ShR h) : gr h 12 (412) 12 = some (419) := gr_ok9 (rR_cM hS) (hS.2.2 _ r_p419m (by decide)) (by decide)
theorem rR_p420 {h : aH} (hS : ShR h) : gr h 12 (412) 13 = some (420) := gr_ok9 (rR_cM hS) (hS.2.2 _ r_p420m (by decide)) (by decide)
theorem rR_p421 {h : aH} (hS : ShR h) : gr h 12 (412) 14 = some (421) := gr_ok9 (rR_cM hS) (hS.2.2 _ r_p421m (by decide)) (by decide)
theorem rR_p422 {h : aH} (hS : ShR h) : gr h 12 (412) 15 = some (422) := gr_ok9 (rR_cM hS) (hS.2.2 _ r_p422m (by decide)) (by decide)
theorem rR_p423 {h : aH} (hS : ShR h) : gr h 12 (412) 16 = some (423) := gr_ok9 (rR_cM hS) (hS.2.2 _ r_p423m (by decide)) (by decide)
theorem rR_p424 {h : aH} (hS : ShR h) : gr h 12 (412) 17 = some (424) := gr_ok9 (rR_cM hS) (hS.2.2 _ r_p424m (by decide)) (by decide)
theorem rR_p425 {h : aH} (hS : ShR h) : gr h 12 (412) 18 = some (425) := gr_ok9 (rR_cM hS) (hS.2.2 _ r_p425m (by decide)) (by decide)
theorem rR_p426 {h : aH} (hS : ShR h) : gr h 12 (412) 19 = some (426) := gr_ok9 (rR_cM hS) (hS.2.2 _ r_p426m (by decide)) (by decide)
theorem rR_p427 {h : aH} (hS : ShR h) : gr h 12 (412) 20 = some (427) := gr_ok9 (rR_cM hS) (hS.2.2 _ r_p427m (by decide)) (by decide)
theorem rR_p428 {h : aH} (hS : ShR h) : gr h 12 (412) 21 = some (428) := gr_ok9 (rR_cM hS) (hS.2.2 _ r_p428m (by decide)) (by decide)
theorem rR_p429 {h : aH} (hS : ShR h) : gr h 12 (412) 22 = some (429) := gr_ok9 (rR_cM hS) (hS.2.2 _ r_p429m (by decide)) (by decide)
theorem rR_p430 {h : aH} (hS : ShR h) : gr h 12 (412) 23 = some (430) := gr_ok9 (rR_cM hS) (hS.2.2 _ r_p430m (by decide)) (by decide)
theorem rR_p431 {h : aH} (hS : ShR h) : gr h 12 (412) 24 = some (431) := gr_ok9 (rR_cM hS) (hS.2.2 _ r_p431m (by decide)) (by decide)
theorem rR_p432 {h : aH} (hS : ShR h) : gr h 12 (412) 25 = some (432) := gr_ok9 (rR_cM hS) (hS.2.2 _ r_p432m (by decide)) (by decide)
theorem rR_p433 {h : aH} (hS : ShR h) : gr h 12 (412) 26 = some (433) := gr_ok9 (rR_cM hS) (hS.2.2 _ r_p433m (by decide)) (by decide)
theorem rR_p434 {h : aH} (hS : ShR h) : gr h 12 (412) 27 = some (434) := gr_ok9 (rR_cM hS) (hS.2.2 _ r_p434m (by decide)) (by decide)
theorem rR_p436 {h : aH} (hS : ShR h) : gr h 12 (412) 38 = some (436) := gr_ok9 (rR_cM hS) (hS.2.2 _ r_p436m (by decide)) (by decide)
theorem rR_p437 {h : aH} (hS : ShR h) : gr h 12 (412) 44 = some (437) := gr_ok9 (rR_cM hS) (hS.2.2 _ r_p437m (by decide)) (by decide)
theorem rR_p438 {h : aH} (hS : ShR h) : gr h 12 (412) 45 = some (438) := gr_ok9 (rR_cM hS) (hS.2.2 _ r_p438m (by decide)) (by decide)
theorem rR_p439 {h : aH} (hS : ShR h) : gr h 12 (412) 46 = some (439) := gr_ok9 (rR_cM hS) (hS.2.2 _ r_p439m (by decide)) (by decide)
theorem rR_p440 {h : aH} (hS : ShR h) : gr h 12 (412) 47 = some (440) := gr_ok9 (rR_cM hS) (hS.2.2 _ r_p440m (by decide)) (by decide)
theorem rR_p442 {h : aH} (hS : ShR h) : gr h 12 (412) 49 = some (442) := gr_ok9 (rR_cM hS) (hS.2.2 _ r_p442m (by decide)) (by decide)
theorem rR_p443 {h : aH} (hS : ShR h) : gr h 12 (412) 50 = some (443) := gr_ok9 (rR_cM hS) (hS.2.2 _ r_p443m (by decide)) (by decide)
theorem rR_p444 {h : aH} (hS : ShR h) : gr h 12 (412) 51 = some (444) := gr_ok9 (rR_cM hS) (hS.2.2 _ r_p444m (by decide)) (by decide)
theorem rR_p445 {h : aH} (hS : ShR h) : gr h 12 (412) 52 = some (445) := gr_ok9 (rR_cM hS) (hS.2.2 _ r_p445m (by decide)) (by decide)
theorem rR_p446 {h : aH} (hS : ShR h) : gr h 12 (412) 53 = some (446) := gr_ok9 (rR_cM hS) (hS.2.2 _ r_p446m (by decide)) (by decide)
theorem rR_p447 {h : aH} (hS : ShR h) : gr h 12 (412) 54 = some (447) := gr_ok9 (rR_cM hS) (hS.2.2 _ r_p447m (by decide)) (by decide)
theorem rR_p448 {h : aH} (hS : ShR h) : gr h 12 (412) 55 = some (448) := gr_ok9 (rR_cM hS) (hS.2.2 _ r_p448m (by decide)) (by decide)
theorem rR_p449 {h : aH} (hS : ShR h) : gr h 12 (412) 56 = some (449) := gr_ok9 (rR_cM hS) (hS.2.2 _ r_p449m (by decide)) (by decide)
theorem rR_p450 {h : aH} (hS : ShR h) : gr h 12 (412) 57 = some (450) := gr_ok9 (rR_cM hS) (hS.2.2 _ r_p450m (by decide)) (by decide)
theorem rR_p451 {h : aH} (hS : ShR h) : gr h 12 (412) 58 = some (451) := gr_ok9 (rR_cM hS) (hS.2.2 _ r_p451m (by decide)) (by decide)
theorem rR_p452 {h : aH} (hS : ShR h) : gr h 12 (412) 59 = some (452) := gr_ok9 (rR_cM hS) (hS.2.2 _ r_p452m (by decide)) (by decide)
theorem rR_p453 {h : aH} (hS : ShR h) : gr h 12 (412) 60 = some (453) := gr_ok9 (rR_cM hS) (hS.2.2 _ r_p453m (by decide)) (by decide)
theorem rR_p454 {h : aH} (hS : ShR h) : gr h 12 (412) 61 = some (454) := gr_ok9 (rR_cM hS) (hS.2.2 _ r_p454m (by decide)) (by decide)
theorem rR_p455 {h : aH} (hS : ShR h) : gr h 12 (412) 62 = some (455) := gr_ok9 (rR_cM hS) (hS.2.2 _ r_p455m (by decide)) (by decide)
/-! the reference takes what was read loops -/
section
variable {g : aH}
theorem tR_L60 (Sg : ShR g) {k : aH → Option (Unit × aH)} (Z : Option (Unit × aH) → Prop) (hk : ∀ g', Fx (fun o j => (o = 418) ∧ j < 4) g g' → (∀ j, j < 4 → h_iv g' 418 j = h_iv g 436 j) → Z (k g')) : Z (aL1 (m_X12_takesText_L60 412 k) FU (nI 0) g) := by
  refine aL1_run (R := Z) (fun m s1 g' => ∃ i, i ≤ 4 ∧ m = 4 - i ∧ s1 = nI i ∧ Fx (fun o j => (o = 418) ∧ j < 4) g g' ∧ ∀ j, j < i → h_iv g' 418 j = h_iv g 436 j) ⟨0, Nat.zero_le _, rfl, rfl, Fx.rf, fun k r => absurd r (Nat.not_lt_zero k)⟩ (by omega) ?_
  rintro rec m s1 g' ⟨i, hi, rfl, rfl, F, f⟩ ih
  have S := F.shR Sg
  by_cases hlt : i < 4
  · have S1 : ShR (h_si g' 418 i (h_iv g' 436 i)) := S.si _ _ _
    simp (maxSteps := 3000000) (disch := first | assumption | omega) only [m_X12_takesText_L60, bO_v, bR_v, bX_l, bX_r, bC_l, bC_r, aLet_v, nI_add, pk_mul, dvI_n, rmI_n, iMax_n, iMin_n, zO_0, zO_1, li_0, li_1, li_2, li_3, li_4, li_5, li_6, li_7, li_8, li_9, li_10, li_12, li_14, li_15, li_16, li_18, li_19, li_20, li_22, li_23, li_24, li_26, li_29, li_30, li_31, li_32, li_36, li_38, li_48, li_50, li_57, li_58, li_59, li_60, li_63, li_97, li_99, li_120, li_122, li_144, li_168, li_194, li_240, li_255, li_284, li_299, li_603, li_999, li_1200, li_1440, li_4095, li_4096, li_6030, li_16384, li_20160, zl0, zl1, zl2, zl3, zl4, ze01, ze02, ze03, ze04, ze10, ze12, ze13, ze14, ze20, ze21, ze23, ze24, ze30, ze31, ze32, ze34, ze40, ze41, ze42, ze43, zt0, zt1, zt2, zt3, zt4, zq0, zq1, zq2, zq3, zq4, it_t, it_f, Bool.true_eq_false, Bool.false_eq_true, na5, na4, na1441, na2, na10, sx_IOIA, sx_IOIS, sx_IONS, sx_IAIO, sx_IAIS, sx_IANS, sx_ISIO, sx_ISIA, sx_ISNS, sx_NSIO, sx_NSIA, sx_NSIS, nI_ltI, rR_p418 S, rR_p436 S, rR_c436_al S, rR_c418_as S]
    rw [if_pos hlt]
    refine ih _ _ _ (by omega) ⟨i + 1, hlt, rfl, rfl, (F).trans (Fx.si (A := fun o j => (o = 418) ∧ j < 4) ⟨by omega, hlt⟩), fun j hj => ?_⟩
    by_cases cj : j = i
    · rw [cj]
      exact by rw [si_at]; exact F.iv (by omega)
    · exact by rw [si_ne (by omega)]; exact (f j (by omega))
  · obtain rfl : i = 4 := by omega
    simp (maxSteps := 3000000) (disch := first | assumption | omega) only [m_X12_takesText_L60, bO_v, bR_v, bX_l, bX_r, bC_l, bC_r, aLet_v, nI_add, pk_mul, dvI_n, rmI_n, iMax_n, iMin_n, zO_0, zO_1, li_0, li_1, li_2, li_3, li_4, li_5, li_6, li_7, li_8, li_9, li_10, li_12, li_14, li_15, li_16, li_18, li_19, li_20, li_22, li_23, li_24, li_26, li_29, li_30, li_31, li_32, li_36, li_38, li_48, li_50, li_57, li_58, li_59, li_60, li_63, li_97, li_99, li_120, li_122, li_144, li_168, li_194, li_240, li_255, li_284, li_299, li_603, li_999, li_1200, li_1440, li_4095, li_4096, li_6030, li_16384, li_20160, zl0, zl1, zl2, zl3, zl4, ze01, ze02, ze03, ze04, ze10, ze12, ze13, ze14, ze20, ze21, ze23, ze24, ze30, ze31, ze32, ze34, ze40, ze41, ze42, ze43, zt0, zt1, zt2, zt3, zt4, zq0, zq1, zq2, zq3, zq4, it_t, it_f, Bool.true_eq_false, Bool.false_eq_true, na5, na4, na1441, na2, na10, sx_IOIA, sx_IOIS, sx_IONS, sx_IAIO, sx_IAIS, sx_IANS, sx_ISIO, sx_ISIA, sx_ISNS, sx_NSIO, sx_NSIA, sx_NSIS, nI_ltI]
    rw [if_neg hlt]
    exact hk g' F f
theorem tR_L85 (Sg : ShR g) {k : aH → Option (Unit × aH)} (Z : Option (Unit × aH) → Prop) (hk : ∀ g', Fx (fun o j => (o = 420 ∨ o = 421) ∧ j < 12) g g' → (∀ j, j < 12 → h_iv g' 420 j = h_iv g 438 j ∧ h_iv g' 421 j = h_iv g 439 j) → Z (k g')) : Z (aL1 (m_X12_takesText_L85 412 k) FU (nI 0) g) := by
  refine aL1_run (R := Z) (fun m s1 g' => ∃ i, i ≤ 12 ∧ m = 12 - i ∧ s1 = nI i ∧ Fx (fun o j => (o = 420 ∨ o = 421) ∧ j < 12) g g' ∧ ∀ j, j < i → h_iv g' 420 j = h_iv g 438 j ∧ h_iv g' 421 j = h_iv g 439 j) ⟨0, Nat.zero_le _, rfl, rfl, Fx.rf, fun k r => absurd r (Nat.not_lt_zero k)⟩ (by omega) ?_
  rintro rec m s1 g' ⟨i, hi, rfl, rfl, F, f⟩ ih
  have S := F.shR Sg
  by_cases hlt : i < 12
  · have S1 : ShR (h_si g' 420 i (h_iv g' 438 i)) := S.si _ _ _
    have S2 : ShR (h_si (h_si g' 420 i (h_iv g' 438 i)) 421 i (h_iv g' 439 i)) := S1.si _ _ _
    have e1 : h_iv (h_si g' 420 i (h_iv g' 438 i)) 439 i = h_iv g' 439 i := by rw [si_ne (by omega)]
    simp (maxSteps := 3000000) (disch := first | assumption | omega) only [m_X12_takesText_L85, bO_v, bR_v, bX_l, bX_r, bC_l, bC_r, aLet_v, nI_add, pk_mul, dvI_n, rmI_n, iMax_n, iMin_n, zO_0, zO_1, li_0, li_1, li_2, li_3, li_4, li_5, li_6, li_7, li_8, li_9, li_10, li_12, li_14, li_15, li_16, li_18, li_19, li_20, li_22, li_23, li_24, li_26, li_29, li_30, li_31, li_32, li_36, li_38, li_48, li_50, li_57, li_58, li_59, li_60, li_63, li_97, li_99, li_120, li_122, li_144, li_168, li_194, li_240, li_255, li_284, li_299, li_603, li_999, li_1200, li_1440, li_4095, li_4096, li_6030, li_16384, li_20160, zl0, zl1, zl2, zl3, zl4, ze01, ze02, ze03, ze04, ze10, ze12, ze13, ze14, ze20, ze21, ze23, ze24, ze30, ze31, ze32, ze34, ze40, ze41, ze42, ze43, zt0, zt1, zt2, zt3, zt4, zq0, zq1, zq2, zq3, zq4, it_t, it_f, Bool.true_eq_false, Bool.false_eq_true, na5, na4, na1441, na2, na10, sx_IOIA, sx_IOIS, sx_IONS, sx_IAIO, sx_IAIS, sx_IANS, sx_ISIO, sx_ISIA, sx_ISNS, sx_NSIO, sx_NSIA, sx_NSIS, nI_ltI, rR_p420 S, rR_p438 S, rR_c438_al S, rR_c420_as S, rR_p421 S1, rR_p439 S1, rR_c439_al S1, rR_c421_as S1, e1]
    rw [if_pos hlt]
    refine ih _ _ _ (by omega) ⟨i + 1, hlt, rfl, rfl, ((F).trans (Fx.si (A := fun o j => (o = 420 ∨ o = 421) ∧ j < 12) ⟨by omega, hlt⟩)).trans (Fx.si (A := fun o j => (o = 420 ∨ o = 421) ∧ j < 12) ⟨by omega, hlt⟩), fun j hj => ?_⟩
    by_cases cj : j = i
    · rw [cj]
      exact ⟨by rw [si_ne (by omega), si_at]; exact F.iv (by omega), by rw [si_at]; exact F.iv (by omega)⟩
    · exact ⟨by rw [si_ne (by omega), si_ne (by omega)]; exact (f j (by omega)).1, by rw [si_ne (by omega), si_ne (by omega)]; exact (f j (by omega)).2⟩
  · obtain rfl : i = 12 := by omega
    simp (maxSteps := 3000000) (disch := first | assumption | omega) only [m_X12_takesText_L85, bO_v, bR_v, bX_l, bX_r, bC_l, bC_r, aLet_v, nI_add, pk_mul, dvI_n, rmI_n, iMax_n, iMin_n, zO_0, zO_1, li_0, li_1, li_2, li_3, li_4, li_5, li_6, li_7, li_8, li_9, li_10, li_12, li_14, li_15, li_16, li_18, li_19, li_20, li_22, li_23, li_24, li_26, li_29, li_30, li_31, li_32, li_36, li_38, li_48, li_50, li_57, li_58, li_59, li_60, li_63, li_97, li_99, li_120, li_122, li_144, li_168, li_194, li_240, li_255, li_284, li_299, li_603, li_999, li_1200, li_1440, li_4095, li_4096, li_6030, li_16384, li_20160, zl0, zl1, zl2, zl3, zl4, ze01, ze02, ze03, ze04, ze10, ze12, ze13, ze14, ze20, ze21, ze23, ze24, ze30, ze31, ze32, ze34, ze40, ze41, ze42, ze43, zt0, zt1, zt2, zt3, zt4, zq0, zq1, zq2, zq3, zq4, it_t, it_f, Bool.true_eq_false, Bool.false_eq_true, na5, na4, na1441, na2, na10, sx_IOIA, sx_IOIS, sx_IONS, sx_IAIO, sx_IAIS, sx_IANS, sx_ISIO, sx_ISIA, sx_ISNS, sx_NSIO, sx_NSIA, sx_NSIS, nI_ltI]
    rw [if_neg hlt]
    exact hk g' F f
theorem tR_L325 (Sg : ShR g) {k : aH → Option (Unit × aH)} (Z : Option (Unit × aH) → Prop) (hk : ∀ g', Fx (fun o j => (o = 425 ∨ o = 426) ∧ j < 5) g g' → (∀ j, j < 5 → h_iv g' 425 j = h_iv g 446 j ∧ h_iv g' 426 j = h_iv g 447 j) → Z (k g')) : Z (aL1 (m_X12_takesText_L325 412 k) FU (nI 0) g) := by
  refine aL1_run (R := Z) (fun m s1 g' => ∃ i, i ≤ 5 ∧ m = 5 - i ∧ s1 = nI i ∧ Fx (fun o j => (o = 425 ∨ o = 426) ∧ j < 5) g g' ∧ ∀ j, j < i → h_iv g' 425 j = h_iv g 446 j ∧ h_iv g' 426 j = h_iv g 447 j) ⟨0, Nat.zero_le _, rfl, rfl, Fx.rf, fun k r => absurd r (Nat.not_lt_zero k)⟩ (by omega) ?_
  rintro rec m s1 g' ⟨i, hi, rfl, rfl, F, f⟩ ih
  have S := F.shR Sg
  by_cases hlt : i < 5
  · have S1 : ShR (h_si g' 425 i (h_iv g' 446 i)) := S.si _ _ _
    have S2 : ShR (h_si (h_si g' 425 i (h_iv g' 446 i)) 426 i (h_iv g' 447 i)) := S1.si _ _ _
    have e1 : h_iv (h_si g' 425 i (h_iv g' 446 i)) 447 i = h_iv g' 447 i := by rw [si_ne (by omega)]
    simp (maxSteps := 3000000) (disch := first | assumption | omega) only [m_X12_takesText_L325, bO_v, bR_v, bX_l, bX_r, bC_l, bC_r, aLet_v, nI_add, pk_mul, dvI_n, rmI_n, iMax_n, iMin_n, zO_0, zO_1, li_0, li_1, li_2, li_3, li_4, li_5, li_6, li_7, li_8, li_9, li_10, li_12, li_14, li_15, li_16, li_18, li_19, li_20, li_22, li_23, li_24, li_26, li_29, li_30, li_31, li_32, li_36, li_38, li_48, li_50, li_57, li_58, li_59, li_60, li_63, li_97, li_99, li_120, li_122, li_144, li_168, li_194, li_240, li_255, li_284, li_299, li_603, li_999, li_1200, li_1440, li_4095, li_4096, li_6030, li_16384, li_20160, zl0, zl1, zl2, zl3, zl4, ze01, ze02, ze03, ze04, ze10, ze12, ze13, ze14, ze20, ze21, ze23, ze24, ze30, ze31, ze32, ze34, ze40, ze41, ze42, ze43, zt0, zt1, zt2, zt3, zt4, zq0, zq1, zq2, zq3, zq4, it_t, it_f, Bool.true_eq_false, Bool.false_eq_true, na5, na4, na1441, na2, na10, sx_IOIA, sx_IOIS, sx_IONS, sx_IAIO, sx_IAIS, sx_IANS, sx_ISIO, sx_ISIA, sx_ISNS, sx_NSIO, sx_NSIA, sx_NSIS, nI_ltI, rR_p425 S, rR_p446 S, rR_c446_al S, rR_c425_as S, rR_p426 S1, rR_p447 S1, rR_c447_al S1, rR_c426_as S1, e1]
    rw [if_pos hlt]
    refine ih _ _ _ (by omega) ⟨i + 1, hlt, rfl, rfl, ((F).trans (Fx.si (A := fun o j => (o = 425 ∨ o = 426) ∧ j < 5) ⟨by omega, hlt⟩)).trans (Fx.si (A := fun o j => (o = 425 ∨ o = 426) ∧ j < 5) ⟨by omega, hlt⟩), fun j hj => ?_⟩
    by_cases cj : j = i
    · rw [cj]
      exact ⟨by rw [si_ne (by omega), si_at]; exact F.iv (by omega), by rw [si_at]; exact F.iv (by omega)⟩
    · exact ⟨by rw [si_ne (by omega), si_ne (by omega)]; exact (f j (by omega)).1, by rw [si_ne (by omega), si_ne (by omega)]; exact (f j (by omega)).2⟩
  · obtain rfl : i = 5 := by omega
    simp (maxSteps := 3000000) (disch := first | assumption | omega) only [m_X12_takesText_L325, bO_v, bR_v, bX_l, bX_r, bC_l, bC_r, aLet_v, nI_add, pk_mul, dvI_n, rmI_n, iMax_n, iMin_n, zO_0, zO_1, li_0, li_1, li_2, li_3, li_4, li_5, li_6, li_7, li_8, li_9, li_10, li_12, li_14, li_15, li_16, li_18, li_19, li_20, li_22, li_23, li_24, li_26, li_29, li_30, li_31, li_32, li_36, li_38, li_48, li_50, li_57, li_58, li_59, li_60, li_63, li_97, li_99, li_120, li_122, li_144, li_168, li_194, li_240, li_255, li_284, li_299, li_603, li_999, li_1200, li_1440, li_4095, li_4096, li_6030, li_16384, li_20160, zl0, zl1, zl2, zl3, zl4, ze01, ze02, ze03, ze04, ze10, ze12, ze13, ze14, ze20, ze21, ze23, ze24, ze30, ze31, ze32, ze34, ze40, ze41, ze42, ze43, zt0, zt1, zt2, zt3, zt4, zq0, zq1, zq2, zq3, zq4, it_t, it_f, Bool.true_eq_false, Bool.false_eq_true, na5, na4, na1441, na2, na10, sx_IOIA, sx_IOIS, sx_IONS, sx_IAIO, sx_IAIS, sx_IANS, sx_ISIO, sx_ISIA, sx_ISNS, sx_NSIO, sx_NSIA, sx_NSIS, nI_ltI]
    rw [if_neg hlt]
    exact hk g' F f
theorem tR_L362 (Sg : ShR g) {k : aH → Option (Unit × aH)} (Z : Option (Unit × aH) → Prop) (hk : ∀ g', Fx (fun o j => (o = 432) ∧ j < 36) g g' → (∀ j, j < 36 → h_iv g' 432 j = h_iv g 453 j) → Z (k g')) : Z (aL1 (m_X12_takesText_L362 412 k) FU (nI 0) g) := by
  refine aL1_run (R := Z) (fun m s1 g' => ∃ i, i ≤ 36 ∧ m = 36 - i ∧ s1 = nI i ∧ Fx (fun o j => (o = 432) ∧ j < 36) g g' ∧ ∀ j, j < i → h_iv g' 432 j = h_iv g 453 j) ⟨0, Nat.zero_le _, rfl, rfl, Fx.rf, fun k r => absurd r (Nat.not_lt_zero k)⟩ (by omega) ?_
  rintro rec m s1 g' ⟨i, hi, rfl, rfl, F, f⟩ ih
  have S := F.shR Sg
  by_cases hlt : i < 36
  · have S1 : ShR (h_si g' 432 i (h_iv g' 453 i)) := S.si _ _ _
    simp (maxSteps := 3000000) (disch := first | assumption | omega) only [m_X12_takesText_L362, bO_v, bR_v, bX_l, bX_r, bC_l, bC_r, aLet_v, nI_add, pk_mul, dvI_n, rmI_n, iMax_n, iMin_n, zO_0, zO_1, li_0, li_1, li_2, li_3, li_4, li_5, li_6, li_7, li_8, li_9, li_10, li_12, li_14, li_15, li_16, li_18, li_19, li_20, li_22, li_23, li_24, li_26, li_29, li_30, li_31, li_32, li_36, li_38, li_48, li_50, li_57, li_58, li_59, li_60, li_63, li_97, li_99, li_120, li_122, li_144, li_168, li_194, li_240, li_255, li_284, li_299, li_603, li_999, li_1200, li_1440, li_4095, li_4096, li_6030, li_16384, li_20160, zl0, zl1, zl2, zl3, zl4, ze01, ze02, ze03, ze04, ze10, ze12, ze13, ze14, ze20, ze21, ze23, ze24, ze30, ze31, ze32, ze34, ze40, ze41, ze42, ze43, zt0, zt1, zt2, zt3, zt4, zq0, zq1, zq2, zq3, zq4, it_t, it_f, Bool.true_eq_false, Bool.false_eq_true, na5, na4, na1441, na2, na10, sx_IOIA, sx_IOIS, sx_IONS, sx_IAIO, sx_IAIS, sx_IANS, sx_ISIO, sx_ISIA, sx_ISNS, sx_NSIO, sx_NSIA, sx_NSIS, nI_ltI, rR_p432 S, rR_p453 S, rR_c453_al S, rR_c432_as S]
    rw [if_pos hlt]
    refine ih _ _ _ (by omega) ⟨i + 1, hlt, rfl, rfl, (F).trans (Fx.si (A := fun o j => (o = 432) ∧ j < 36) ⟨by omega, hlt⟩), fun j hj => ?_⟩
    by_cases cj : j = i
    · rw [cj]
      exact by rw [si_at]; exact F.iv (by omega)
    · exact by rw [si_ne (by omega)]; exact (f j (by omega))
  · obtain rfl : i = 36 := by omega
    simp (maxSteps := 3000000) (disch := first | assumption | omega) only [m_X12_takesText_L362, bO_v, bR_v, bX_l, bX_r, bC_l, bC_r, aLet_v, nI_add, pk_mul, dvI_n, rmI_n, iMax_n, iMin_n, zO_0, zO_1, li_0, li_1, li_2, li_3, li_4, li_5, li_6, li_7, li_8, li_9, li_10, li_12, li_14, li_15, li_16, li_18, li_19, li_20, li_22, li_23, li_24, li_26, li_29, li_30, li_31, li_32, li_36, li_38, li_48, li_50, li_57, li_58, li_59, li_60, li_63, li_97, li_99, li_120, li_122, li_144, li_168, li_194, li_240, li_255, li_284, li_299, li_603, li_999, li_1200, li_1440, li_4095, li_4096, li_6030, li_16384, li_20160, zl0, zl1, zl2, zl3, zl4, ze01, ze02, ze03, ze04, ze10, ze12, ze13, ze14, ze20, ze21, ze23, ze24, ze30, ze31, ze32, ze34, ze40, ze41, ze42, ze43, zt0, zt1, zt2, zt3, zt4, zq0, zq1, zq2, zq3, zq4, it_t, it_f, Bool.true_eq_false, Bool.false_eq_true, na5, na4, na1441, na2, na10, sx_IOIA, sx_IOIS, sx_IONS, sx_IAIO, sx_IAIS, sx_IANS, sx_ISIO, sx_ISIA, sx_ISNS, sx_NSIO, sx_NSIA, sx_NSIS, nI_ltI]
    rw [if_neg hlt]
    exact hk g' F f
theorem tR_L388 (Sg : ShR g) {k : aH → Option (Unit × aH)} (Z : Option (Unit × aH) → Prop) (hk : ∀ g', Fx (fun o j => (o = 427 ∨ o = 434) ∧ j < 30) g g' → (∀ j, j < 30 → h_iv g' 427 j = h_iv g 448 j ∧ h_iv g' 434 j = h_iv g 455 j) → Z (k g')) : Z (aL1 (m_X12_takesText_L388 412 k) FU (nI 0) g) := by
  refine aL1_run (R := Z) (fun m s1 g' => ∃ i, i ≤ 30 ∧ m = 30 - i ∧ s1 = nI i ∧ Fx (fun o j => (o = 427 ∨ o = 434) ∧ j < 30) g g' ∧ ∀ j, j < i → h_iv g' 427 j = h_iv g 448 j ∧ h_iv g' 434 j = h_iv g 455 j) ⟨0, Nat.zero_le _, rfl, rfl, Fx.rf, fun k r => absurd r (Nat.not_lt_zero k)⟩ (by omega) ?_
  rintro rec m s1 g' ⟨i, hi, rfl, rfl, F, f⟩ ih
  have S := F.shR Sg
  by_cases hlt : i < 30
  · have S1 : ShR (h_si g' 427 i (h_iv g' 448 i)) := S.si _ _ _
    have S2 : ShR (h_si (h_si g' 427 i (h_iv g' 448 i)) 434 i (h_iv g' 455 i)) := S1.si _ _ _
    have e1 : h_iv (h_si g' 427 i (h_iv g' 448 i)) 455 i = h_iv g' 455 i := by rw [si_ne (by omega)]
    simp (maxSteps := 3000000) (disch := first | assumption | omega) only [m_X12_takesText_L388, bO_v, bR_v, bX_l, bX_r, bC_l, bC_r, aLet_v, nI_add, pk_mul, dvI_n, rmI_n, iMax_n, iMin_n, zO_0, zO_1, li_0, li_1, li_2, li_3, li_4, li_5, li_6, li_7, li_8, li_9, li_10, li_12, li_14, li_15, li_16, li_18, li_19, li_20, li_22, li_23, li_24, li_26, li_29, li_30, li_31, li_32, li_36, li_38, li_48, li_50, li_57, li_58, li_59, li_60, li_63, li_97, li_99, li_120, li_122, li_144, li_168, li_194, li_240, li_255, li_284, li_299, li_603, li_999, li_1200, li_1440, li_4095, li_4096, li_6030, li_16384, li_20160, zl0, zl1, zl2, zl3, zl4, ze01, ze02, ze03, ze04, ze10, ze12, ze13, ze14, ze20, ze21, ze23, ze24, ze30, ze31, ze32, ze34, ze40, ze41, ze42, ze43, zt0, zt1, zt2, zt3, zt4, zq0, zq1, zq2, zq3, zq4, it_t, it_f, Bool.true_eq_false, Bool.false_eq_true, na5, na4, na1441, na2, na10, sx_IOIA, sx_IOIS, sx_IONS, sx_IAIO, sx_IAIS, sx_IANS, sx_ISIO, sx_ISIA, sx_ISNS, sx_NSIO, sx_NSIA, sx_NSIS, nI_ltI, rR_p427 S, rR_p448 S, rR_c448_al S, rR_c427_as S, rR_p434 S1, rR_p455 S1, rR_c455_al S1, rR_c434_as S1, e1]
    rw [if_pos hlt]
    refine ih _ _ _ (by omega) ⟨i + 1, hlt, rfl, rfl, ((F).trans (Fx.si (A := fun o j => (o = 427 ∨ o = 434) ∧ j < 30) ⟨by omega, hlt⟩)).trans (Fx.si (A := fun o j => (o = 427 ∨ o = 434) ∧ j < 30) ⟨by omega, hlt⟩), fun j hj => ?_⟩
    by_cases cj : j = i
    · rw [cj]
      exact ⟨by rw [si_ne (by omega), si_at]; exact F.iv (by omega), by rw [si_at]; exact F.iv (by omega)⟩
    · exact ⟨by rw [si_ne (by omega), si_ne (by omega)]; exact (f j (by omega)).1, by rw [si_ne (by omega), si_ne (by omega)]; exact (f j (by omega)).2⟩
  · obtain rfl : i = 30 := by omega
    simp (maxSteps := 3000000) (disch := first | assumption | omega) only [m_X12_takesText_L388, bO_v, bR_v, bX_l, bX_r, bC_l, bC_r, aLet_v, nI_add, pk_mul, dvI_n, rmI_n, iMax_n, iMin_n, zO_0, zO_1, li_0, li_1, li_2, li_3, li_4, li_5, li_6, li_7, li_8, li_9, li_10, li_12, li_14, li_15, li_16, li_18, li_19, li_20, li_22, li_23, li_24, li_26, li_29, li_30, li_31, li_32, li_36, li_38, li_48, li_50, li_57, li_58, li_59, li_60, li_63, li_97, li_99, li_120, li_122, li_144, li_168, li_194, li_240, li_255, li_284, li_299, li_603, li_999, li_1200, li_1440, li_4095, li_4096, li_6030, li_16384, li_20160, zl0, zl1, zl2, zl3, zl4, ze01, ze02, ze03, ze04, ze10, ze12, ze13, ze14, ze20, ze21, ze23, ze24, ze30, ze31, ze32, ze34, ze40, ze41, ze42, ze43, zt0, zt1, zt2, zt3, zt4, zq0, zq1, zq2, zq3, zq4, it_t, it_f, Bool.true_eq_false, Bool.false_eq_true, na5, na4, na1441, na2, na10, sx_IOIA, sx_IOIS, sx_IONS, sx_IAIO, sx_IAIS, sx_IANS, sx_ISIO, sx_ISIA, sx_ISNS, sx_NSIO, sx_NSIA, sx_NSIS, nI_ltI]
    rw [if_neg hlt]
    exact hk g' F f
theorem tR_L34 (Sg : ShR g) {k : aH → Option (Unit × aH)} (Z : Option (Unit × aH) → Prop) (hk : ∀ g', ShR g' → (h_nx g' = h_nx g ∧ h_sl g' = h_sl g ∧ h_sh g' = h_sh g ∧ h_ln g' = h_ln g ∧ h_rv g' = h_rv g ∧ h_iv g' = h_iv g ∧ ∀ o j, o ≠ 419 → h_lv g' o j = h_lv g o j) → (∀ j, j < 29 → h_lv g' 419 j = h_lv g 437 j) → Z (k g')) : Z (aL1 (m_X12_takesText_L34 412 k) FU (nI 0) g) := by
  refine aL1_run (R := Z) (fun m s1 g' => ∃ i, i ≤ 29 ∧ m = 29 - i ∧ s1 = nI i ∧ ShR g' ∧ (h_nx g' = h_nx g ∧ h_sl g' = h_sl g ∧ h_sh g' = h_sh g ∧ h_ln g' = h_ln g ∧ h_rv g' = h_rv g ∧ h_iv g' = h_iv g ∧ ∀ o j, o ≠ 419 → h_lv g' o j = h_lv g o j) ∧ ∀ j, j < i → h_lv g' 419 j = h_lv g 437 j) ⟨0, Nat.zero_le _, rfl, rfl, Sg, ⟨rfl, rfl, rfl, rfl, rfl, rfl, fun _ _ _ => rfl⟩, fun k r => absurd r (Nat.not_lt_zero k)⟩ (by omega) ?_
  rintro rec m s1 g' ⟨i, hi, rfl, rfl, S, ⟨q1, q2, q3, q4, q5, q6, q7⟩, f⟩ ih
  by_cases hlt : i < 29
  · simp (maxSteps := 3000000) (disch := first | assumption | omega) only [m_X12_takesText_L34, bO_v, bR_v, bX_l, bX_r, bC_l, bC_r, aLet_v, nI_add, pk_mul, dvI_n, rmI_n, iMax_n, iMin_n, zO_0, zO_1, li_0, li_1, li_2, li_3, li_4, li_5, li_6, li_7, li_8, li_9, li_10, li_12, li_14, li_15, li_16, li_18, li_19, li_20, li_22, li_23, li_24, li_26, li_29, li_30, li_31, li_32, li_36, li_38, li_48, li_50, li_57, li_58, li_59, li_60, li_63, li_97, li_99, li_120, li_122, li_144, li_168, li_194, li_240, li_255, li_284, li_299, li_603, li_999, li_1200, li_1440, li_4095, li_4096, li_6030, li_16384, li_20160, zl0, zl1, zl2, zl3, zl4, ze01, ze02, ze03, ze04, ze10, ze12, ze13, ze14, ze20, ze21, ze23, ze24, ze30, ze31, ze32, ze34, ze40, ze41, ze42, ze43, zt0, zt1, zt2, zt3, zt4, zq0, zq1, zq2, zq3, zq4, it_t, it_f, Bool.true_eq_false, Bool.false_eq_true, na5, na4, na1441, na2, na10, sx_IOIA, sx_IOIS, sx_IONS, sx_IAIO, sx_IAIS, sx_IANS, sx_ISIO, sx_ISIA, sx_ISNS, sx_NSIO, sx_NSIA, sx_NSIS, nI_ltI, rR_p419 S, rR_p437 S, rR_c437_al S, rR_c419_as S]
    rw [if_pos hlt]
    refine ih _ _ _ (by omega) ⟨i + 1, hlt, rfl, rfl, S.sL _ _ _, ⟨q1, q2, q3, q4, q5, q6, fun o j ho => (u2n (by omega)).trans (q7 o j ho)⟩, fun j hj => ?_⟩
    by_cases cj : j = i
    · rw [cj, sL_at]; exact q7 _ _ (by omega)
    · exact (u2n (by omega)).trans (f j (by omega))
  · obtain rfl : i = 29 := by omega
    simp (maxSteps := 3000000) (disch := first | assumption | omega) only [m_X12_takesText_L34, bO_v, bR_v, bX_l, bX_r, bC_l, bC_r, aLet_v, nI_add, pk_mul, dvI_n, rmI_n, iMax_n, iMin_n, zO_0, zO_1, li_0, li_1, li_2, li_3, li_4, li_5, li_6, li_7, li_8, li_9, li_10, li_12, li_14, li_15, li_16, li_18, li_19, li_20, li_22, li_23, li_24, li_26, li_29, li_30, li_31, li_32, li_36, li_38, li_48, li_50, li_57, li_58, li_59, li_60, li_63, li_97, li_99, li_120, li_122, li_144, li_168, li_194, li_240, li_255, li_284, li_299, li_603, li_999, li_1200, li_1440, li_4095, li_4096, li_6030, li_16384, li_20160, zl0, zl1, zl2, zl3, zl4, ze01, ze02, ze03, ze04, ze10, ze12, ze13, ze14, ze20, ze21, ze23, ze24, ze30, ze31, ze32, ze34, ze40, ze41, ze42, ze43, zt0, zt1, zt2, zt3, zt4, zq0, zq1, zq2, zq3, zq4, it_t, it_f, Bool.true_eq_false, Bool.false_eq_true, na5, na4, na1441, na2, na10, sx_IOIA, sx_IOIS, sx_IONS, sx_IAIO, sx_IAIS, sx_IANS, sx_ISIO, sx_ISIA, sx_ISNS, sx_NSIO, sx_NSIA, sx_NSIS, nI_ltI]
    rw [if_neg hlt]
    exact hk g' S ⟨q1, q2, q3, q4, q5, q6, q7⟩ f
theorem tR_L123 (Sg : ShR g) {k : aH → Option (Unit × aH)} (Z : Option (Unit × aH) → Prop) (hk : ∀ g', Fx (fun o j => o = 413 ∧ j < 603) g g' → (∀ j, j < 603 → h_iv g' 413 j = nI 0) → Z (k g')) : Z (aL1 (m_X12_takesText_L123 412 k) FU (nI 0) g) := by
  refine aL1_run (R := Z) (fun m s1 g' => ∃ i, i ≤ 603 ∧ m = 603 - i ∧ s1 = nI i ∧ Fx (fun o j => o = 413 ∧ j < 603) g g' ∧ ∀ j, j < i → h_iv g' 413 j = nI 0) ⟨0, Nat.zero_le _, rfl, rfl, Fx.rf, fun k r => absurd r (Nat.not_lt_zero k)⟩ (by omega) ?_
  rintro rec m s1 g' ⟨i, hi, rfl, rfl, F, f⟩ ih
  have S := F.shR Sg
  by_cases hlt : i < 603
  · simp (maxSteps := 3000000) (disch := first | assumption | omega) only [m_X12_takesText_L123, bO_v, bR_v, bX_l, bX_r, bC_l, bC_r, aLet_v, nI_add, pk_mul, dvI_n, rmI_n, iMax_n, iMin_n, zO_0, zO_1, li_0, li_1, li_2, li_3, li_4, li_5, li_6, li_7, li_8, li_9, li_10, li_12, li_14, li_15, li_16, li_18, li_19, li_20, li_22, li_23, li_24, li_26, li_29, li_30, li_31, li_32, li_36, li_38, li_48, li_50, li_57, li_58, li_59, li_60, li_63, li_97, li_99, li_120, li_122, li_144, li_168, li_194, li_240, li_255, li_284, li_299, li_603, li_999, li_1200, li_1440, li_4095, li_4096, li_6030, li_16384, li_20160, zl0, zl1, zl2, zl3, zl4, ze01, ze02, ze03, ze04, ze10, ze12, ze13, ze14, ze20, ze21, ze23, ze24, ze30, ze31, ze32, ze34, ze40, ze41, ze42, ze43, zt0, zt1, zt2, zt3, zt4, zq0, zq1, zq2, zq3, zq4, it_t, it_f, Bool.true_eq_false, Bool.false_eq_true, na5, na4, na1441, na2, na10, sx_IOIA, sx_IOIS, sx_IONS, sx_IAIO, sx_IAIS, sx_IANS, sx_ISIO, sx_ISIA, sx_ISNS, sx_NSIO, sx_NSIA, sx_NSIS, nI_ltI, rR_p413 S, rR_c413_as S]
    rw [if_pos hlt]
    refine ih _ _ _ (by omega) ⟨i + 1, hlt, rfl, rfl, F.trans (Fx.si (A := fun o j => o = 413 ∧ j < 603) ⟨rfl, hlt⟩), fun j hj => ?_⟩
    by_cases cj : j = i
    · rw [cj, si_at]
    · rw [si_ne (by omega)]; exact f j (by omega)
  · obtain rfl : i = 603 := by omega
    simp (maxSteps := 3000000) (disch := first | assumption | omega) only [m_X12_takesText_L123, bO_v, bR_v, bX_l, bX_r, bC_l, bC_r, aLet_v, nI_add, pk_mul, dvI_n, rmI_n, iMax_n, iMin_n, zO_0, zO_1, li_0, li_1, li_2, li_3, li_4, li_5, li_6, li_7, li_8, li_9, li_10, li_12, li_14, li_15, li_16, li_18, li_19, li_20, li_22, li_23, li_24, li_26, li_29, li_30, li_31, li_32, li_36, li_38, li_48, li_50, li_57, li_58, li_59, li_60, li_63, li_97, li_99, li_120, li_122, li_144, li_168, li_194, li_240, li_255, li_284, li_299, li_603, li_999, li_1200, li_1440, li_4095, li_4096, li_6030, li_16384, li_20160, zl0, zl1, zl2, zl3, zl4, ze01, ze02, ze03, ze04, ze10, ze12, ze13, ze14, ze20, ze21, ze23, ze24, ze30, ze31, ze32, ze34, ze40, ze41, ze42, ze43, zt0, zt1, zt2, zt3, zt4, zq0, zq1, zq2, zq3, zq4, it_t, it_f, Bool.true_eq_false, Bool.false_eq_true, na5, na4, na1441, na2, na10, sx_IOIA, sx_IOIS, sx_IONS, sx_IAIO, sx_IAIS, sx_IANS, sx_ISIO, sx_ISIA, sx_ISNS, sx_NSIO, sx_NSIA, sx_NSIS, nI_ltI]
    rw [if_neg hlt]
    exact hk g' F f
theorem tR_L145 (Sg : ShR g) {k : aH → Option (Unit × aH)} (Z : Option (Unit × aH) → Prop) (hk : ∀ g', Fx (fun o j => o = 413 ∧ 50 ≤ j ∧ j < 194) g g' → (∀ j, j < 144 → h_iv g' 413 (50 + j) = h_iv g 440 j) → Z (k g')) : Z (aL1 (m_X12_takesText_L145 412 k) FU (nI 0) g) := by
  refine aL1_run (R := Z) (fun m s1 g' => ∃ i, i ≤ 144 ∧ m = 144 - i ∧ s1 = nI i ∧ Fx (fun o j => o = 413 ∧ 50 ≤ j ∧ j < 194) g g' ∧ ∀ j, j < i → h_iv g' 413 (50 + j) = h_iv g 440 j) ⟨0, Nat.zero_le _, rfl, rfl, Fx.rf, fun k r => absurd r (Nat.not_lt_zero k)⟩ (by omega) ?_
  rintro rec m s1 g' ⟨i, hi, rfl, rfl, F, f⟩ ih
  have S := F.shR Sg
  by_cases hlt : i < 144
  · simp (maxSteps := 3000000) (disch := first | assumption | omega) only [m_X12_takesText_L145, bO_v, bR_v, bX_l, bX_r, bC_l, bC_r, aLet_v, nI_add, pk_mul, dvI_n, rmI_n, iMax_n, iMin_n, zO_0, zO_1, li_0, li_1, li_2, li_3, li_4, li_5, li_6, li_7, li_8, li_9, li_10, li_12, li_14, li_15, li_16, li_18, li_19, li_20, li_22, li_23, li_24, li_26, li_29, li_30, li_31, li_32, li_36, li_38, li_48, li_50, li_57, li_58, li_59, li_60, li_63, li_97, li_99, li_120, li_122, li_144, li_168, li_194, li_240, li_255, li_284, li_299, li_603, li_999, li_1200, li_1440, li_4095, li_4096, li_6030, li_16384, li_20160, zl0, zl1, zl2, zl3, zl4, ze01, ze02, ze03, ze04, ze10, ze12, ze13, ze14, ze20, ze21, ze23, ze24, ze30, ze31, ze32, ze34, ze40, ze41, ze42, ze43, zt0, zt1, zt2, zt3, zt4, zq0, zq1, zq2, zq3, zq4, it_t, it_f, Bool.true_eq_false, Bool.false_eq_true, na5, na4, na1441, na2, na10, sx_IOIA, sx_IOIS, sx_IONS, sx_IAIO, sx_IAIS, sx_IANS, sx_ISIO, sx_ISIA, sx_ISNS, sx_NSIO, sx_NSIA, sx_NSIS, nI_ltI, rR_p413 S, rR_p440 S, rR_c440_al S, rR_c413_as S]
    rw [if_pos hlt]
    refine ih _ _ _ (by omega) ⟨i + 1, hlt, rfl, rfl, F.trans (Fx.si (A := fun o j => o = 413 ∧ 50 ≤ j ∧ j < 194) ⟨rfl, by omega, by omega⟩), fun j hj => ?_⟩
    by_cases cj : j = i
    · rw [cj, si_at]; exact F.iv (by omega)
    · rw [si_ne (by omega)]; exact f j (by omega)
  · obtain rfl : i = 144 := by omega
    simp (maxSteps := 3000000) (disch := first | assumption | omega) only [m_X12_takesText_L145, bO_v, bR_v, bX_l, bX_r, bC_l, bC_r, aLet_v, nI_add, pk_mul, dvI_n, rmI_n, iMax_n, iMin_n, zO_0, zO_1, li_0, li_1, li_2, li_3, li_4, li_5, li_6, li_7, li_8, li_9, li_10, li_12, li_14, li_15, li_16, li_18, li_19, li_20, li_22, li_23, li_24, li_26, li_29, li_30, li_31, li_32, li_36, li_38, li_48, li_50, li_57, li_58, li_59, li_60, li_63, li_97, li_99, li_120, li_122, li_144, li_168, li_194, li_240, li_255, li_284, li_299, li_603, li_999, li_1200, li_1440, li_4095, li_4096, li_6030, li_16384, li_20160, zl0, zl1, zl2, zl3, zl4, ze01, ze02, ze03, ze04, ze10, ze12, ze13, ze14, ze20, ze21, ze23, ze24, ze30, ze31, ze32, ze34, ze40, ze41, ze42, ze43, zt0, zt1, zt2, zt3, zt4, zq0, zq1, zq2, zq3, zq4, it_t, it_f, Bool.true_eq_false, Bool.false_eq_true, na5, na4, na1441, na2, na10, sx_IOIA, sx_IOIS, sx_IONS, sx_IAIO, sx_IAIS, sx_IANS, sx_ISIO, sx_ISIA, sx_ISNS, sx_NSIO, sx_NSIA, sx_NSIS, nI_ltI]
    rw [if_neg hlt]
    exact hk g' F f
theorem tR_L279 (Sg : ShR g) {u : Nat} (hu : u < 6) {k : aH → Option (Unit × aH)} (Z : Option (Unit × aH) → Prop) (hk : ∀ g', Fx (fun o j => o = 413 ∧ 194 + 15 * u ≤ j ∧ j < 202 + 15 * u) g g' → (∀ j, j < 8 → h_iv g' 413 (194 + 15 * u + j) = h_iv g 445 (8 * u + j)) → Z (k g')) : Z (aL1 (m_X12_takesText_L279 412 (nI u) k) FU (nI 0) g) := by
  refine aL1_run (R := Z) (fun m s1 g' => ∃ i, i ≤ 8 ∧ m = 8 - i ∧ s1 = nI i ∧ Fx (fun o j => o = 413 ∧ 194 + 15 * u ≤ j ∧ j < 202 + 15 * u) g g' ∧ ∀ j, j < i → h_iv g' 413 (194 + 15 * u + j) = h_iv g 445 (8 * u + j)) ⟨0, Nat.zero_le _, rfl, rfl, Fx.rf, fun k r => absurd r (Nat.not_lt_zero k)⟩ (by omega) ?_
  rintro rec m s1 g' ⟨i, hi, rfl, rfl, F, f⟩ ih
  have S := F.shR Sg
  by_cases hlt : i < 8
  · simp (maxSteps := 3000000) (disch := first | assumption | omega) only [m_X12_takesText_L279, bO_v, bR_v, bX_l, bX_r, bC_l, bC_r, aLet_v, nI_add, pk_mul, dvI_n, rmI_n, iMax_n, iMin_n, zO_0, zO_1, li_0, li_1, li_2, li_3, li_4, li_5, li_6, li_7, li_8, li_9, li_10, li_12, li_14, li_15, li_16, li_18, li_19, li_20, li_22, li_23, li_24, li_26, li_29, li_30, li_31, li_32, li_36, li_38, li_48, li_50, li_57, li_58, li_59, li_60, li_63, li_97, li_99, li_120, li_122, li_144, li_168, li_194, li_240, li_255, li_284, li_299, li_603, li_999, li_1200, li_1440, li_4095, li_4096, li_6030, li_16384, li_20160, zl0, zl1, zl2, zl3, zl4, ze01, ze02, ze03, ze04, ze10, ze12, ze13, ze14, ze20, ze21, ze23, ze24, ze30, ze31, ze32, ze34, ze40, ze41, ze42, ze43, zt0, zt1, zt2, zt3, zt4, zq0, zq1, zq2, zq3, zq4, it_t, it_f, Bool.true_eq_false, Bool.false_eq_true, na5, na4, na1441, na2, na10, sx_IOIA, sx_IOIS, sx_IONS, sx_IAIO, sx_IAIS, sx_IANS, sx_ISIO, sx_ISIA, sx_ISNS, sx_NSIO, sx_NSIA, sx_NSIS, nI_ltI, rR_p413 S, rR_p445 S, rR_c445_al S, rR_c413_as S]
    rw [if_pos hlt]
    refine ih _ _ _ (by omega) ⟨i + 1, hlt, rfl, rfl, F.trans (Fx.si (A := fun o j => o = 413 ∧ 194 + 15 * u ≤ j ∧ j < 202 + 15 * u) ⟨rfl, by omega, by omega⟩), fun j hj => ?_⟩
    by_cases cj : j = i
    · rw [cj, si_at]; exact F.iv (by omega)
    · rw [si_ne (by omega)]; exact f j (by omega)
  · obtain rfl : i = 8 := by omega
    simp (maxSteps := 3000000) (disch := first | assumption | omega) only [m_X12_takesText_L279, bO_v, bR_v, bX_l, bX_r, bC_l, bC_r, aLet_v, nI_add, pk_mul, dvI_n, rmI_n, iMax_n, iMin_n, zO_0, zO_1, li_0, li_1, li_2, li_3, li_4, li_5, li_6, li_7, li_8, li_9, li_10, li_12, li_14, li_15, li_16, li_18, li_19, li_20, li_22, li_23, li_24, li_26, li_29, li_30, li_31, li_32, li_36, li_38, li_48, li_50, li_57, li_58, li_59, li_60, li_63, li_97, li_99, li_120, li_122, li_144, li_168, li_194, li_240, li_255, li_284, li_299, li_603, li_999, li_1200, li_1440, li_4095, li_4096, li_6030, li_16384, li_20160, zl0, zl1, zl2, zl3, zl4, ze01, ze02, ze03, ze04, ze10, ze12, ze13, ze14, ze20, ze21, ze23, ze24, ze30, ze31, ze32, ze34, ze40, ze41, ze42, ze43, zt0, zt1, zt2, zt3, zt4, zq0, zq1, zq2, zq3, zq4, it_t, it_f, Bool.true_eq_false, Bool.false_eq_true, na5, na4, na1441, na2, na10, sx_IOIA, sx_IOIS, sx_IONS, sx_IAIO, sx_IAIS, sx_IANS, sx_ISIO, sx_ISIA, sx_ISNS, sx_NSIO, sx_NSIA, sx_NSIS, nI_ltI]
    rw [if_neg hlt]
    exact hk g' F f
theorem tR_L175 (Sg : ShR g) {k : aH → Option (Unit × aH)} (Z : Option (Unit × aH) → Prop) (hk : ∀ g', Fx (fun o j => ((o = 422 ∨ o = 423 ∨ o = 424 ∨ o = 428 ∨ o = 429 ∨ o = 430 ∨ o = 431 ∨ o = 433) ∧ j < 6) ∨ (o = 413 ∧ 194 ≤ j ∧ j < 284 ∧ (j - 194) % 15 < 8)) g g' → (∀ j, j < 6 → h_iv g' 422 j = h_iv g 442 j ∧ h_iv g' 423 j = h_iv g 443 j ∧ h_iv g' 424 j = h_iv g 444 j ∧ h_iv g' 428 j = h_iv g 449 j ∧ h_iv g' 429 j = h_iv g 450 j ∧ h_iv g' 430 j = h_iv g 451 j ∧ h_iv g' 431 j = h_iv g 452 j ∧ h_iv g' 433 j = h_iv g 454 j ∧ ∀ q, q < 8 → h_iv g' 413 (194 + 15 * j + q) = h_iv g 445 (8 * j + q)) → Z (k g')) : Z (aL1 (m_X12_takesText_L175 412 k) FU (nI 0) g) := by
  refine aL1_run (R := Z) (fun m s1 g' => ∃ i, i ≤ 6 ∧ m = 6 - i ∧ s1 = nI i ∧ Fx (fun o j => ((o = 422 ∨ o = 423 ∨ o = 424 ∨ o = 428 ∨ o = 429 ∨ o = 430 ∨ o = 431 ∨ o = 433) ∧ j < 6) ∨ (o = 413 ∧ 194 ≤ j ∧ j < 284 ∧ (j - 194) % 15 < 8)) g g' ∧ ∀ j, j < i → h_iv g' 422 j = h_iv g 442 j ∧ h_iv g' 423 j = h_iv g 443 j ∧ h_iv g' 424 j = h_iv g 444 j ∧ h_iv g' 428 j = h_iv g 449 j ∧ h_iv g' 429 j = h_iv g 450 j ∧ h_iv g' 430 j = h_iv g 451 j ∧ h_iv g' 431 j = h_iv g 452 j ∧ h_iv g' 433 j = h_iv g 454 j ∧ ∀ q, q < 8 → h_iv g' 413 (194 + 15 * j + q) = h_iv g 445 (8 * j + q)) ⟨0, Nat.zero_le _, rfl, rfl, Fx.rf, fun k r => absurd r (Nat.not_lt_zero k)⟩ (by omega) ?_
  rintro rec m s1 g' ⟨i, hi, rfl, rfl, F, f⟩ ih
  have S := F.shR Sg
  by_cases hlt : i < 6
  · have S1 : ShR (h_si g' 422 i (h_iv g' 442 i)) := S.si _ _ _
    have S2 : ShR (h_si (h_si g' 422 i (h_iv g' 442 i)) 423 i (h_iv g' 443 i)) := S1.si _ _ _
    have S3 : ShR (h_si (h_si (h_si g' 422 i (h_iv g' 442 i)) 423 i (h_iv g' 443 i)) 424 i (h_iv g' 444 i)) := S2.si _ _ _
    have S4 : ShR (h_si (h_si (h_si (h_si g' 422 i (h_iv g' 442 i)) 423 i (h_iv g' 443 i)) 424 i (h_iv g' 444 i)) 428 i (h_iv g' 449 i)) := S3.si _ _ _
    have S5 : ShR (h_si (h_si (h_si (h_si (h_si g' 422 i (h_iv g' 442 i)) 423 i (h_iv g' 443 i)) 424 i (h_iv g' 444 i)) 428 i (h_iv g' 449 i)) 429 i (h_iv g' 450 i)) := S4.si _ _ _
    have S6 : ShR (h_si (h_si (h_si (h_si (h_si (h_si g' 422 i (h_iv g' 442 i)) 423 i (h_iv g' 443 i)) 424 i (h_iv g' 444 i)) 428 i (h_iv g' 449 i)) 429 i (h_iv g' 450 i)) 430 i (h_iv g' 451 i)) := S5.si _ _ _
    have S7 : ShR (h_si (h_si (h_si (h_si (h_si (h_si (h_si g' 422 i (h_iv g' 442 i)) 423 i (h_iv g' 443 i)) 424 i (h_iv g' 444 i)) 428 i (h_iv g' 449 i)) 429 i (h_iv g' 450 i)) 430 i (h_iv g' 451 i)) 431 i (h_iv g' 452 i)) := S6.si _ _ _
    have S8 : ShR (h_si (h_si (h_si (h_si (h_si (h_si (h_si (h_si g' 422 i (h_iv g' 442 i)) 423 i (h_iv g' 443 i)) 424 i (h_iv g' 444 i)) 428 i (h_iv g' 449 i)) 429 i (h_iv g' 450 i)) 430 i (h_iv g' 451 i)) 431 i (h_iv g' 452 i)) 433 i (h_iv g' 454 i)) := S7.si _ _ _
    have e1 : h_iv (h_si g' 422 i (h_iv g' 442 i)) 443 i = h_iv g' 443 i := by rw [si_ne (by omega)]
    have e2 : h_iv (h_si (h_si g' 422 i (h_iv g' 442 i)) 423 i (h_iv g' 443 i)) 444 i = h_iv g' 444 i := by rw [si_ne (by omega), si_ne (by omega)]
    have e3 : h_iv (h_si (h_si (h_si g' 422 i (h_iv g' 442 i)) 423 i (h_iv g' 443 i)) 424 i (h_iv g' 444 i)) 449 i = h_iv g' 449 i := by rw [si_ne (by omega), si_ne (by omega), si_ne (by omega)]
    have e4 : h_iv (h_si (h_si (h_si (h_si g' 422 i (h_iv g' 442 i)) 423 i (h_iv g' 443 i)) 424 i (h_iv g' 444 i)) 428 i (h_iv g' 449 i)) 450 i = h_iv g' 450 i := by rw [si_ne (by omega), si_ne (by omega), si_ne (by omega), si_ne (by omega)]
    have e5 : h_iv (h_si (h_si (h_si (h_si (h_si g' 422 i (h_iv g' 442 i)) 423 i (h_iv g' 443 i)) 424 i (h_iv g' 444 i)) 428 i (h_iv g' 449 i)) 429 i (h_iv g' 450 i)) 451 i = h_iv g' 451 i := by rw [si_ne (by omega), si_ne (by omega), si_ne (by omega), si_ne (by omega), si_ne (by omega)]
    have e6 : h_iv (h_si (h_si (h_si (h_si (h_si (h_si g' 422 i (h_iv g' 442 i)) 423 i (h_iv g' 443 i)) 424 i (h_iv g' 444 i)) 428 i (h_iv g' 449 i)) 429 i (h_iv g' 450 i)) 430 i (h_iv g' 451 i)) 452 i = h_iv g' 452 i := by rw [si_ne (by omega), si_ne (by omega), si_ne (by omega), si_ne (by omega), si_ne (by omega), si_ne (by omega)]
    have e7 : h_iv (h_si (h_si (h_si (h_si (h_si (h_si (h_si g' 422 i (h_iv g' 442 i)) 423 i (h_iv g' 443 i)) 424 i (h_iv g' 444 i)) 428 i (h_iv g' 449 i)) 429 i (h_iv g' 450 i)) 430 i (h_iv g' 451 i)) 431 i (h_iv g' 452 i)) 454 i = h_iv g' 454 i := by rw [si_ne (by omega), si_ne (by omega), si_ne (by omega), si_ne (by omega), si_ne (by omega), si_ne (by omega), si_ne (by omega)]
    simp (maxSteps := 3000000) (disch := first | assumption | omega) only [m_X12_takesText_L175, bO_v, bR_v, bX_l, bX_r, bC_l, bC_r, aLet_v, nI_add, pk_mul, dvI_n, rmI_n, iMax_n, iMin_n, zO_0, zO_1, li_0, li_1, li_2, li_3, li_4, li_5, li_6, li_7, li_8, li_9, li_10, li_12, li_14, li_15, li_16, li_18, li_19, li_20, li_22, li_23, li_24, li_26, li_29, li_30, li_31, li_32, li_36, li_38, li_48, li_50, li_57, li_58, li_59, li_60, li_63, li_97, li_99, li_120, li_122, li_144, li_168, li_194, li_240, li_255, li_284, li_299, li_603, li_999, li_1200, li_1440, li_4095, li_4096, li_6030, li_16384, li_20160, zl0, zl1, zl2, zl3, zl4, ze01, ze02, ze03, ze04, ze10, ze12, ze13, ze14, ze20, ze21, ze23, ze24, ze30, ze31, ze32, ze34, ze40, ze41, ze42, ze43, zt0, zt1, zt2, zt3, zt4, zq0, zq1, zq2, zq3, zq4, it_t, it_f, Bool.true_eq_false, Bool.false_eq_true, na5, na4, na1441, na2, na10, sx_IOIA, sx_IOIS, sx_IONS, sx_IAIO, sx_IAIS, sx_IANS, sx_ISIO, sx_ISIA, sx_ISNS, sx_NSIO, sx_NSIA, sx_NSIS, nI_ltI, rR_p422 S, rR_p442 S, rR_c442_al S, rR_c422_as S, rR_p423 S1, rR_p443 S1, rR_c443_al S1, rR_c423_as S1, e1, rR_p424 S2, rR_p444 S2, rR_c444_al S2, rR_c424_as S2, e2, rR_p428 S3, rR_p449 S3, rR_c449_al S3, rR_c428_as S3, e3, rR_p429 S4, rR_p450 S4, rR_c450_al S4, rR_c429_as S4, e4, rR_p430 S5, rR_p451 S5, rR_c451_al S5, rR_c430_as S5, e5, rR_p431 S6, rR_p452 S6, rR_c452_al S6, rR_c431_as S6, e6, rR_p433 S7, rR_p454 S7, rR_c454_al S7, rR_c433_as S7, e7]
    rw [if_pos hlt]
    have F8 : Fx (fun o j => (o = 422 ∨ o = 423 ∨ o = 424 ∨ o = 428 ∨ o = 429 ∨ o = 430 ∨ o = 431 ∨ o = 433) ∧ j = i) g' (h_si (h_si (h_si (h_si (h_si (h_si (h_si (h_si g' 422 i (h_iv g' 442 i)) 423 i (h_iv g' 443 i)) 424 i (h_iv g' 444 i)) 428 i (h_iv g' 449 i)) 429 i (h_iv g' 450 i)) 430 i (h_iv g' 451 i)) 431 i (h_iv g' 452 i)) 433 i (h_iv g' 454 i)) := ((((((((Fx.si (A := fun o j => (o = 422 ∨ o = 423 ∨ o = 424 ∨ o = 428 ∨ o = 429 ∨ o = 430 ∨ o = 431 ∨ o = 433) ∧ j = i) (by omega)).trans (Fx.si (by omega))).trans (Fx.si (by omega))).trans (Fx.si (by omega))).trans (Fx.si (by omega))).trans (Fx.si (by omega))).trans (Fx.si (by omega))).trans (Fx.si (by omega)))
    have t422 : h_iv (h_si (h_si (h_si (h_si (h_si (h_si (h_si (h_si g' 422 i (h_iv g' 442 i)) 423 i (h_iv g' 443 i)) 424 i (h_iv g' 444 i)) 428 i (h_iv g' 449 i)) 429 i (h_iv g' 450 i)) 430 i (h_iv g' 451 i)) 431 i (h_iv g' 452 i)) 433 i (h_iv g' 454 i)) 422 i = h_iv g' 442 i := by rw [si_ne (by omega), si_ne (by omega), si_ne (by omega), si_ne (by omega), si_ne (by omega), si_ne (by omega), si_ne (by omega), si_at]
    have t423 : h_iv (h_si (h_si (h_si (h_si (h_si (h_si (h_si (h_si g' 422 i (h_iv g' 442 i)) 423 i (h_iv g' 443 i)) 424 i (h_iv g' 444 i)) 428 i (h_iv g' 449 i)) 429 i (h_iv g' 450 i)) 430 i (h_iv g' 451 i)) 431 i (h_iv g' 452 i)) 433 i (h_iv g' 454 i)) 423 i = h_iv g' 443 i := by rw [si_ne (by omega), si_ne (by omega), si_ne (by omega), si_ne (by omega), si_ne (by omega), si_ne (by omega), si_at]
    have t424 : h_iv (h_si (h_si (h_si (h_si (h_si (h_si (h_si (h_si g' 422 i (h_iv g' 442 i)) 423 i (h_iv g' 443 i)) 424 i (h_iv g' 444 i)) 428 i (h_iv g' 449 i)) 429 i (h_iv g' 450 i)) 430 i (h_iv g' 451 i)) 431 i (h_iv g' 452 i)) 433 i (h_iv g' 454 i)) 424 i = h_iv g' 444 i := by rw [si_ne (by omega), si_ne (by omega), si_ne (by omega), si_ne (by omega), si_ne (by omega), si_at]
    have t428 : h_iv (h_si (h_si (h_si (h_si (h_si (h_si (h_si (h_si g' 422 i (h_iv g' 442 i)) 423 i (h_iv g' 443 i)) 424 i (h_iv g' 444 i)) 428 i (h_iv g' 449 i)) 429 i (h_iv g' 450 i)) 430 i (h_iv g' 451 i)) 431 i (h_iv g' 452 i)) 433 i (h_iv g' 454 i)) 428 i = h_iv g' 449 i := by rw [si_ne (by omega), si_ne (by omega), si_ne (by omega), si_ne (by omega), si_at]
    have t429 : h_iv (h_si (h_si (h_si (h_si (h_si (h_si (h_si (h_si g' 422 i (h_iv g' 442 i)) 423 i (h_iv g' 443 i)) 424 i (h_iv g' 444 i)) 428 i (h_iv g' 449 i)) 429 i (h_iv g' 450 i)) 430 i (h_iv g' 451 i)) 431 i (h_iv g' 452 i)) 433 i (h_iv g' 454 i)) 429 i = h_iv g' 450 i := by rw [si_ne (by omega), si_ne (by omega), si_ne (by omega), si_at]
    have t430 : h_iv (h_si (h_si (h_si (h_si (h_si (h_si (h_si (h_si g' 422 i (h_iv g' 442 i)) 423 i (h_iv g' 443 i)) 424 i (h_iv g' 444 i)) 428 i (h_iv g' 449 i)) 429 i (h_iv g' 450 i)) 430 i (h_iv g' 451 i)) 431 i (h_iv g' 452 i)) 433 i (h_iv g' 454 i)) 430 i = h_iv g' 451 i := by rw [si_ne (by omega), si_ne (by omega), si_at]
    have t431 : h_iv (h_si (h_si (h_si (h_si (h_si (h_si (h_si (h_si g' 422 i (h_iv g' 442 i)) 423 i (h_iv g' 443 i)) 424 i (h_iv g' 444 i)) 428 i (h_iv g' 449 i)) 429 i (h_iv g' 450 i)) 430 i (h_iv g' 451 i)) 431 i (h_iv g' 452 i)) 433 i (h_iv g' 454 i)) 431 i = h_iv g' 452 i := by rw [si_ne (by omega), si_at]
    have t433 : h_iv (h_si (h_si (h_si (h_si (h_si (h_si (h_si (h_si g' 422 i (h_iv g' 442 i)) 423 i (h_iv g' 443 i)) 424 i (h_iv g' 444 i)) 428 i (h_iv g' 449 i)) 429 i (h_iv g' 450 i)) 430 i (h_iv g' 451 i)) 431 i (h_iv g' 452 i)) 433 i (h_iv g' 454 i)) 433 i = h_iv g' 454 i := by rw [si_at]
    generalize (h_si (h_si (h_si (h_si (h_si (h_si (h_si (h_si g' 422 i (h_iv g' 442 i)) 423 i (h_iv g' 443 i)) 424 i (h_iv g' 444 i)) 428 i (h_iv g' 449 i)) 429 i (h_iv g' 450 i)) 430 i (h_iv g' 451 i)) 431 i (h_iv g' 452 i)) 433 i (h_iv g' 454 i)) = g8 at *
    refine aJ_gen (R := Z) (fun k317 hk317 => ?_)
    refine tR_L279 S8 hlt Z (fun g9 F9 f9 => ?_)
    rw [hk317]
    simp (maxSteps := 3000000) (disch := first | assumption | omega) only [bO_v, bR_v, bX_l, bX_r, bC_l, bC_r, aLet_v, nI_add, pk_mul, dvI_n, rmI_n, iMax_n, iMin_n, zO_0, zO_1, li_0, li_1, li_2, li_3, li_4, li_5, li_6, li_7, li_8, li_9, li_10, li_12, li_14, li_15, li_16, li_18, li_19, li_20, li_22, li_23, li_24, li_26, li_29, li_30, li_31, li_32, li_36, li_38, li_48, li_50, li_57, li_58, li_59, li_60, li_63, li_97, li_99, li_120, li_122, li_144, li_168, li_194, li_240, li_255, li_284, li_299, li_603, li_999, li_1200, li_1440, li_4095, li_4096, li_6030, li_16384, li_20160, zl0, zl1, zl2, zl3, zl4, ze01, ze02, ze03, ze04, ze10, ze12, ze13, ze14, ze20, ze21, ze23, ze24, ze30, ze31, ze32, ze34, ze40, ze41, ze42, ze43, zt0, zt1, zt2, zt3, zt4, zq0, zq1, zq2, zq3, zq4, it_t, it_f, Bool.true_eq_false, Bool.false_eq_true, na5, na4, na1441, na2, na10, sx_IOIA, sx_IOIS, sx_IONS, sx_IAIO, sx_IAIS, sx_IANS, sx_ISIO, sx_ISIA, sx_ISNS, sx_NSIO, sx_NSIA, sx_NSIS]
    refine ih _ _ _ (by omega) ⟨i + 1, hlt, rfl, rfl, (F.trans (F8.mono (fun o j r => by omega))).trans (F9.mono (fun o j r => by omega)), fun j hj => ?_⟩
    by_cases cj : j = i
    · rw [cj]
      exact ⟨by rw [F9.iv (by omega), t422]; exact F.iv (by omega), by rw [F9.iv (by omega), t423]; exact F.iv (by omega), by rw [F9.iv (by omega), t424]; exact F.iv (by omega), by rw [F9.iv (by omega), t428]; exact F.iv (by omega), by rw [F9.iv (by omega), t429]; exact F.iv (by omega), by rw [F9.iv (by omega), t430]; exact F.iv (by omega), by rw [F9.iv (by omega), t431]; exact F.iv (by omega), by rw [F9.iv (by omega), t433]; exact F.iv (by omega), fun q hq => by rw [f9 q hq, F8.iv (by omega)]; exact F.iv (by omega)⟩
    · exact ⟨by rw [F9.iv (by omega), F8.iv (by omega)]; exact (f j (by omega)).1, by rw [F9.iv (by omega), F8.iv (by omega)]; exact (f j (by omega)).2.1, by rw [F9.iv (by omega), F8.iv (by omega)]; exact (f j (by omega)).2.2.1, by rw [F9.iv (by omega), F8.iv (by omega)]; exact (f j (by omega)).2.2.2.1, by rw [F9.iv (by omega), F8.iv (by omega)]; exact (f j (by omega)).2.2.2.2.1, by rw [F9.iv (by omega), F8.iv (by omega)]; exact (f j (by omega)).2.2.2.2.2.1, by rw [F9.iv (by omega), F8.iv (by omega)]; exact (f j (by omega)).2.2.2.2.2.2.1, by rw [F9.iv (by omega), F8.iv (by omega)]; exact (f j (by omega)).2.2.2.2.2.2.2.1, fun q hq => by rw [F9.iv (by omega), F8.iv (by omega)]; exact (f j (by omega)).2.2.2.2.2.2.2.2 q hq⟩
  · obtain rfl : i = 6 := by omega
    simp (maxSteps := 3000000) (disch := first | assumption | omega) only [m_X12_takesText_L175, bO_v, bR_v, bX_l, bX_r, bC_l, bC_r, aLet_v, nI_add, pk_mul, dvI_n, rmI_n, iMax_n, iMin_n, zO_0, zO_1, li_0, li_1, li_2, li_3, li_4, li_5, li_6, li_7, li_8, li_9, li_10, li_12, li_14, li_15, li_16, li_18, li_19, li_20, li_22, li_23, li_24, li_26, li_29, li_30, li_31, li_32, li_36, li_38, li_48, li_50, li_57, li_58, li_59, li_60, li_63, li_97, li_99, li_120, li_122, li_144, li_168, li_194, li_240, li_255, li_284, li_299, li_603, li_999, li_1200, li_1440, li_4095, li_4096, li_6030, li_16384, li_20160, zl0, zl1, zl2, zl3, zl4, ze01, ze02, ze03, ze04, ze10, ze12, ze13, ze14, ze20, ze21, ze23, ze24, ze30, ze31, ze32, ze34, ze40, ze41, ze42, ze43, zt0, zt1, zt2, zt3, zt4, zq0, zq1, zq2, zq3, zq4, it_t, it_f, Bool.true_eq_false, Bool.false_eq_true, na5, na4, na1441, na2, na10, sx_IOIA, sx_IOIS, sx_IONS, sx_IAIO, sx_IAIS, sx_IANS, sx_ISIO, sx_ISIA, sx_ISNS, sx_NSIO, sx_NSIA, sx_NSIS, nI_ltI]
    rw [if_neg hlt]
    exact hk g' F f
end
/-! the reference takes a text, and loads -/
def TKR (h h1 : aH) : Prop := ShR h1 ∧ (h_nx h1 = h_nx h ∧ h_sl h1 = h_sl h ∧ h_sh h1 = h_sh h ∧ h_ln h1 = h_ln h ∧ h_rv h1 = h_rv h) ∧ (∀ o k, ¬ TKc o k → h_iv h1 o k = h_iv h o k) ∧ (∀ o k, o ≠ 419 → h_lv h1 o k = h_lv h o k) ∧ (h_iv h1 412 8 = h_iv h 412 39 ∧ h_iv h1 412 9 = h_iv h 412 41 ∧ h_iv h1 412 10 = h_iv h 412 42 ∧ h_iv h1 412 11 = h_iv h 412 43 ∧ h_iv h1 412 6 = nI 0) ∧ (∀ k, k < 29 → h_lv h1 419 k = h_lv h 437 k) ∧ (∀ o k, cel o k → h_iv h1 o k = h_iv h (nu o) k) ∧ (∀ j, j < 603 → h_iv h1 413 j = rowv h j) ∧ ∀ s, s < 2 → h_iv h1 417 s = nI 0
section
variable {h h0 : aH} {tx : Nat → Nat} {n s : Nat} {M : Nat → Nat → Nat}
theorem yR_takes (hS : ShR h) : OK (m_X12_takesText 412 h) (fun _ h1 => TKR h h1) := by
  have S1 := hS.si 412 8 (h_iv h 412 39)
  have S2 := S1.si 412 9 (h_iv h 412 41)
  have S3 := S2.si 412 10 (h_iv h 412 42)
  have S4 := S3.si 412 11 (h_iv h 412 43)
  have e1 : h_iv (h_si h 412 8 (h_iv h 412 39)) 412 41 = h_iv h 412 41 := si_ne (by omega)
  have e2 : h_iv (h_si (h_si h 412 8 (h_iv h 412 39)) 412 9 (h_iv h 412 41)) 412 42 = h_iv h 412 42 := by rw [si_ne (by omega), si_ne (by omega)]
  have e3 : h_iv (h_si (h_si (h_si h 412 8 (h_iv h 412 39)) 412 9 (h_iv h 412 41)) 412 10 (h_iv h 412 42)) 412 43 = h_iv h 412 43 := by rw [si_ne (by omega), si_ne (by omega), si_ne (by omega)]
  simp (maxSteps := 3000000) (disch := first | assumption | omega) only [m_X12_takesText, bO_v, bR_v, bX_l, bX_r, bC_l, bC_r, aLet_v, nI_add, pk_mul, dvI_n, rmI_n, iMax_n, iMin_n, zO_0, zO_1, li_0, li_1, li_2, li_3, li_4, li_5, li_6, li_7, li_8, li_9, li_10, li_12, li_14, li_15, li_16, li_18, li_19, li_20, li_22, li_23, li_24, li_26, li_29, li_30, li_31, li_32, li_36, li_38, li_48, li_50, li_57, li_58, li_59, li_60, li_63, li_97, li_99, li_120, li_122, li_144, li_168, li_194, li_240, li_255, li_284, li_299, li_603, li_999, li_1200, li_1440, li_4095, li_4096, li_6030, li_16384, li_20160, zl0, zl1, zl2, zl3, zl4, ze01, ze02, ze03, ze04, ze10, ze12, ze13, ze14, ze20, ze21, ze23, ze24, ze30, ze31, ze32, ze34, ze40, ze41, ze42, ze43, zt0, zt1, zt2, zt3, zt4, zq0, zq1, zq2, zq3, zq4, it_t, it_f, Bool.true_eq_false, Bool.false_eq_true, na5, na4, na1441, na2, na10, sx_IOIA, sx_IOIS, sx_IONS, sx_IAIO, sx_IAIS, sx_IANS, sx_ISIO, sx_ISIA, sx_ISNS, sx_NSIO, sx_NSIA, sx_NSIS, rR_cM_gi hS, rR_cM_pi hS, rR_cM_gi S1, e1, rR_cM_pi S1, rR_cM_gi S2, e2, rR_cM_pi S2, rR_cM_gi S3, e3, rR_cM_pi S3]
  have F4 : Fx (fun o k => o = 412 ∧ 8 ≤ k ∧ k ≤ 11) h (h_si (h_si (h_si (h_si h 412 8 (h_iv h 412 39)) 412 9 (h_iv h 412 41)) 412 10 (h_iv h 412 42)) 412 11 (h_iv h 412 43)) := (((Fx.si (A := fun o k => o = 412 ∧ 8 ≤ k ∧ k ≤ 11) ⟨rfl, by omega, by omega⟩).trans (Fx.si ⟨rfl, by omega, by omega⟩)).trans (Fx.si ⟨rfl, by omega, by omega⟩)).trans (Fx.si ⟨rfl, by omega, by omega⟩)
  have a8 : h_iv (h_si (h_si (h_si (h_si h 412 8 (h_iv h 412 39)) 412 9 (h_iv h 412 41)) 412 10 (h_iv h 412 42)) 412 11 (h_iv h 412 43)) 412 8 = h_iv h 412 39 := by rw [si_ne (by omega), si_ne (by omega), si_ne (by omega), si_at]
  have a9 : h_iv (h_si (h_si (h_si (h_si h 412 8 (h_iv h 412 39)) 412 9 (h_iv h 412 41)) 412 10 (h_iv h 412 42)) 412 11 (h_iv h 412 43)) 412 9 = h_iv h 412 41 := by rw [si_ne (by omega), si_ne (by omega), si_at]
  have a10 : h_iv (h_si (h_si (h_si (h_si h 412 8 (h_iv h 412 39)) 412 9 (h_iv h 412 41)) 412 10 (h_iv h 412 42)) 412 11 (h_iv h 412 43)) 412 10 = h_iv h 412 42 := by rw [si_ne (by omega), si_at]
  have a11 : h_iv (h_si (h_si (h_si (h_si h 412 8 (h_iv h 412 39)) 412 9 (h_iv h 412 41)) 412 10 (h_iv h 412 42)) 412 11 (h_iv h 412 43)) 412 11 = h_iv h 412 43 := si_at
  generalize h_si (h_si (h_si (h_si h 412 8 (h_iv h 412 39)) 412 9 (h_iv h 412 41)) 412 10 (h_iv h 412 42)) 412 11 (h_iv h 412 43) = g4 at *
  generalize hK : (fun (_ : Unit) (h1 : aH) => TKR h h1) = K
  refine aJ_gen (R := fun o => OK o K) (fun k58 hk58 => ?_)
  refine tR_L34 S4 (fun o => OK o K) (fun g5 S5 q5 f5 => ?_)
  rw [hk58]; dsimp only
  refine aJ_gen (R := fun o => OK o K) (fun k83 hk83 => ?_)
  refine tR_L60 S5 (fun o => OK o K) (fun g6 F6 f6 => ?_)
  have S6 := F6.shR S5
  rw [hk83]; dsimp only
  refine aJ_gen (R := fun o => OK o K) (fun k121 hk121 => ?_)
  refine tR_L85 S6 (fun o => OK o K) (fun g7 F7 f7 => ?_)
  have S7 := F7.shR S6
  rw [hk121]; dsimp only
  refine aJ_gen (R := fun o => OK o K) (fun k143 hk143 => ?_)
  refine tR_L123 S7 (fun o => OK o K) (fun g8 F8 f8 => ?_)
  have S8 := F8.shR S7
  rw [hk143]; dsimp only
  refine aJ_gen (R := fun o => OK o K) (fun k173 hk173 => ?_)
  refine tR_L145 S8 (fun o => OK o K) (fun g9 F9 f9 => ?_)
  have S9 := F9.shR S8
  rw [hk173]; dsimp only
  refine aJ_gen (R := fun o => OK o K) (fun k323 hk323 => ?_)
  refine tR_L175 S9 (fun o => OK o K) (fun g10 F10 f10 => ?_)
  have S10 := F10.shR S9
  rw [hk323]; dsimp only
  refine aJ_gen (R := fun o => OK o K) (fun k360 hk360 => ?_)
  refine tR_L325 S10 (fun o => OK o K) (fun g11 F11 f11 => ?_)
  have S11 := F11.shR S10
  rw [hk360]; dsimp only
  refine aJ_gen (R := fun o => OK o K) (fun k386 hk386 => ?_)
  refine tR_L362 S11 (fun o => OK o K) (fun g12 F12 f12 => ?_)
  have S12 := F12.shR S11
  rw [hk386]; dsimp only
  refine aJ_gen (R := fun o => OK o K) (fun k438 hk438 => ?_)
  refine tR_L388 S12 (fun o => OK o K) (fun g13 F13 f13 => ?_)
  have S13 := F13.shR S12
  rw [hk438]
  have S14 := S13.si 412 6 (nI 0)
  have w15 : asz (h_si g13 412 6 (nI 0)) 417 (nI 0) (nI 0) = some (h_si (h_si g13 412 6 (nI 0)) 417 0 (nI 0)) := rR_c417_as S14 (by omega) (Or.inl rfl)
  have S15 := S14.si 417 0 (nI 0)
  have w16 : asz (h_si (h_si g13 412 6 (nI 0)) 417 0 (nI 0)) 417 (nI 1) (nI 0) = some (h_si (h_si (h_si g13 412 6 (nI 0)) 417 0 (nI 0)) 417 1 (nI 0)) := rR_c417_as S15 (by omega) (Or.inl rfl)
  simp (maxSteps := 3000000) (disch := first | assumption | omega) only [bO_v, bR_v, bX_l, bX_r, bC_l, bC_r, aLet_v, nI_add, pk_mul, dvI_n, rmI_n, iMax_n, iMin_n, zO_0, zO_1, li_0, li_1, li_2, li_3, li_4, li_5, li_6, li_7, li_8, li_9, li_10, li_12, li_14, li_15, li_16, li_18, li_19, li_20, li_22, li_23, li_24, li_26, li_29, li_30, li_31, li_32, li_36, li_38, li_48, li_50, li_57, li_58, li_59, li_60, li_63, li_97, li_99, li_120, li_122, li_144, li_168, li_194, li_240, li_255, li_284, li_299, li_603, li_999, li_1200, li_1440, li_4095, li_4096, li_6030, li_16384, li_20160, zl0, zl1, zl2, zl3, zl4, ze01, ze02, ze03, ze04, ze10, ze12, ze13, ze14, ze20, ze21, ze23, ze24, ze30, ze31, ze32, ze34, ze40, ze41, ze42, ze43, zt0, zt1, zt2, zt3, zt4, zq0, zq1, zq2, zq3, zq4, it_t, it_f, Bool.true_eq_false, Bool.false_eq_true, na5, na4, na1441, na2, na10, sx_IOIA, sx_IOIS, sx_IONS, sx_IAIO, sx_IAIS, sx_IANS, sx_ISIO, sx_ISIA, sx_ISNS, sx_NSIO, sx_NSIA, sx_NSIS, rR_cM_pi S13, rR_p417 S14, w15, rR_p417 S15, w16]
  have F16 : Fx (fun o k => (o = 412 ∧ k = 6) ∨ (o = 417 ∧ k < 2)) g13 (h_si (h_si (h_si g13 412 6 (nI 0)) 417 0 (nI 0)) 417 1 (nI 0)) := ((Fx.si (A := fun o k => (o = 412 ∧ k = 6) ∨ (o = 417 ∧ k < 2)) (Or.inl ⟨rfl, rfl⟩)).trans (Fx.si (Or.inr ⟨rfl, by omega⟩))).trans (Fx.si (Or.inr ⟨rfl, by omega⟩))
  have b6 : h_iv (h_si (h_si (h_si g13 412 6 (nI 0)) 417 0 (nI 0)) 417 1 (nI 0)) 412 6 = nI 0 := by rw [si_ne (by omega), si_ne (by omega), si_at]
  have b0 : h_iv (h_si (h_si (h_si g13 412 6 (nI 0)) 417 0 (nI 0)) 417 1 (nI 0)) 417 0 = nI 0 := by rw [si_ne (by omega), si_at]
  have b1 : h_iv (h_si (h_si (h_si g13 412 6 (nI 0)) 417 0 (nI 0)) 417 1 (nI 0)) 417 1 = nI 0 := si_at
  generalize h_si (h_si (h_si g13 412 6 (nI 0)) 417 0 (nI 0)) 417 1 (nI 0) = g16 at *
  have S16 := F16.shR S13
  rw [← hK]
  obtain ⟨q51, q52, q53, q54, q55, q56, q57⟩ := q5
  -- frames
  have v5 : ∀ o j, ¬ (o = 412 ∧ 8 ≤ j ∧ j ≤ 11) → h_iv g5 o j = h_iv h o j := fun o j q => by rw [q56]; exact F4.iv q
  have s5 : ∀ o j, 436 ≤ o → h_iv g5 o j = h_iv h o j := fun o j q => v5 o j (by omega)
  have s6 : ∀ o j, 436 ≤ o → h_iv g6 o j = h_iv h o j := fun o j q => by rw [F6.iv (by omega)]; exact s5 o j q
  have s7 : ∀ o j, 436 ≤ o → h_iv g7 o j = h_iv h o j := fun o j q => by rw [F7.iv (by omega)]; exact s6 o j q
  have s8 : ∀ o j, 436 ≤ o → h_iv g8 o j = h_iv h o j := fun o j q => by rw [F8.iv (by omega)]; exact s7 o j q
  have s9 : ∀ o j, 436 ≤ o → h_iv g9 o j = h_iv h o j := fun o j q => by rw [F9.iv (by omega)]; exact s8 o j q
  have s10 : ∀ o j, 436 ≤ o → h_iv g10 o j = h_iv h o j := fun o j q => by rw [F10.iv (by omega)]; exact s9 o j q
  have s11 : ∀ o j, 436 ≤ o → h_iv g11 o j = h_iv h o j := fun o j q => by rw [F11.iv (by omega)]; exact s10 o j q
  have s12 : ∀ o j, 436 ≤ o → h_iv g12 o j = h_iv h o j := fun o j q => by rw [F12.iv (by omega)]; exact s11 o j q
  -- from each step to the end
  have t13 : ∀ o j, o ≠ 412 → o ≠ 417 → h_iv g16 o j = h_iv g13 o j := fun o j q1 q2 => F16.iv (by omega)
  have t12 : ∀ o j, o ≠ 412 → o ≠ 417 → o ≠ 427 → o ≠ 434 → h_iv g16 o j = h_iv g12 o j := fun o j q1 q2 q3 q4 => by rw [t13 o j q1 q2, F13.iv (by omega)]
  have t11 : ∀ o j, o ≠ 412 → o ≠ 417 → o ≠ 427 → o ≠ 434 → o ≠ 432 → h_iv g16 o j = h_iv g11 o j := fun o j q1 q2 q3 q4 q5 => by rw [t12 o j q1 q2 q3 q4, F12.iv (by omega)]
  have t10 : ∀ o j, o ≠ 412 → o ≠ 417 → o ≠ 427 → o ≠ 434 → o ≠ 432 → o ≠ 425 → o ≠ 426 → h_iv g16 o j = h_iv g10 o j := fun o j q1 q2 q3 q4 q5 q6 q7 => by rw [t11 o j q1 q2 q3 q4 q5, F11.iv (by omega)]
  have t9 : ∀ o j, o < 422 → o ≠ 412 → o ≠ 417 → o ≠ 413 → h_iv g16 o j = h_iv g7 o j := fun o j q1 q2 q3 q4 => by rw [t10 o j q2 q3 (by omega) (by omega) (by omega) (by omega) (by omega), F10.iv (by omega), F9.iv (by omega), F8.iv (by omega)]
  have r10 : ∀ j, h_iv g16 413 j = h_iv g10 413 j := fun j => t10 413 j (by omega) (by omega) (by omega) (by omega) (by omega) (by omega) (by omega)
  refine ok_ret ⟨S16, ⟨?_, ?_, ?_, ?_, ?_⟩, fun o k q => ?_, fun o k q => ?_, ⟨?_, ?_, ?_, ?_, b6⟩, fun k hk => ?_, fun o k q => ?_, fun j hj => ?_, fun s hs => ?_⟩
  · rw [F16.1, F13.1, F12.1, F11.1, F10.1, F9.1, F8.1, F7.1, F6.1, q51]; exact F4.1
  · rw [F16.2.1, F13.2.1, F12.2.1, F11.2.1, F10.2.1, F9.2.1, F8.2.1, F7.2.1, F6.2.1, q52]; exact F4.2.1
  · rw [F16.2.2.1, F13.2.2.1, F12.2.2.1, F11.2.2.1, F10.2.2.1, F9.2.2.1, F8.2.2.1, F7.2.2.1, F6.2.2.1, q53]; exact F4.2.2.1
  · rw [F16.2.2.2.1, F13.2.2.2.1, F12.2.2.2.1, F11.2.2.2.1, F10.2.2.2.1, F9.2.2.2.1, F8.2.2.2.1, F7.2.2.2.1, F6.2.2.2.1, q54]; exact F4.2.2.2.1
  · rw [F16.2.2.2.2.1, F13.2.2.2.2.1, F12.2.2.2.2.1, F11.2.2.2.2.1, F10.2.2.2.2.1, F9.2.2.2.2.1, F8.2.2.2.2.1, F7.2.2.2.2.1, F6.2.2.2.2.1, q55]; exact F4.2.2.2.2.1
  · unfold TKc cel at q
    rw [F16.iv (by omega), F13.iv (by omega), F12.iv (by omega), F11.iv (by omega), F10.iv (by omega), F9.iv (by omega), F8.iv (by omega), F7.iv (by omega), F6.iv (by omega)]
    exact v5 o k (by omega)
  · rw [F16.2.2.2.2.2.1, F13.2.2.2.2.2.1, F12.2.2.2.2.2.1, F11.2.2.2.2.2.1, F10.2.2.2.2.2.1, F9.2.2.2.2.2.1, F8.2.2.2.2.2.1, F7.2.2.2.2.2.1, F6.2.2.2.2.2.1, q57 o k q, F4.2.2.2.2.2.1]
  · rw [F16.iv (by omega), F13.iv (by omega), F12.iv (by omega), F11.iv (by omega), F10.iv (by omega), F9.iv (by omega), F8.iv (by omega), F7.iv (by omega), F6.iv (by omega), q56]; exact a8
  · rw [F16.iv (by omega), F13.iv (by omega), F12.iv (by omega), F11.iv (by omega), F10.iv (by omega), F9.iv (by omega), F8.iv (by omega), F7.iv (by omega), F6.iv (by omega), q56]; exact a9
  · rw [F16.iv (by omega), F13.iv (by omega), F12.iv (by omega), F11.iv (by omega), F10.iv (by omega), F9.iv (by omega), F8.iv (by omega), F7.iv (by omega), F6.iv (by omega), q56]; exact a10
  · rw [F16.iv (by omega), F13.iv (by omega), F12.iv (by omega), F11.iv (by omega), F10.iv (by omega), F9.iv (by omega), F8.iv (by omega), F7.iv (by omega), F6.iv (by omega), q56]; exact a11
  · rw [F16.2.2.2.2.2.1, F13.2.2.2.2.2.1, F12.2.2.2.2.2.1, F11.2.2.2.2.2.1, F10.2.2.2.2.2.1, F9.2.2.2.2.2.1, F8.2.2.2.2.2.1, F7.2.2.2.2.2.1, F6.2.2.2.2.2.1, f5 k hk, F4.2.2.2.2.2.1]
  · rcases q with ⟨rfl, k9⟩ | ⟨c, k9⟩ | ⟨c, k9⟩ | ⟨c, k9⟩ | ⟨c, k9⟩ | ⟨rfl, k9⟩
    · rw [t9 _ _ (by omega) (by omega) (by omega) (by omega), F7.iv (by omega)]
      exact (f6 k k9).trans (s5 _ _ (by omega))
    · rcases c with rfl | rfl <;> rw [t9 _ _ (by omega) (by omega) (by omega) (by omega)]
      · exact (f7 k k9).1.trans (s6 _ _ (by omega))
      · exact (f7 k k9).2.trans (s6 _ _ (by omega))
    · have f := f10 k k9
      rcases c with rfl | rfl | rfl | rfl | rfl | rfl | rfl | rfl <;> rw [t10 _ _ (by omega) (by omega) (by omega) (by omega) (by omega) (by omega) (by omega)]
      · exact f.1.trans (s9 _ _ (by omega))
      · exact f.2.1.trans (s9 _ _ (by omega))
      · exact f.2.2.1.trans (s9 _ _ (by omega))
      · exact f.2.2.2.1.trans (s9 _ _ (by omega))
      · exact f.2.2.2.2.1.trans (s9 _ _ (by omega))
      · exact f.2.2.2.2.2.1.trans (s9 _ _ (by omega))
      · exact f.2.2.2.2.2.2.1.trans (s9 _ _ (by omega))
      · exact f.2.2.2.2.2.2.2.1.trans (s9 _ _ (by omega))
    · rcases c with rfl | rfl <;> rw [t11 _ _ (by omega) (by omega) (by omega) (by omega) (by omega)]
      · exact (f11 k k9).1.trans (s10 _ _ (by omega))
      · exact (f11 k k9).2.trans (s10 _ _ (by omega))
    · rcases c with rfl | rfl <;> rw [t13 _ _ (by omega) (by omega)]
      · exact (f13 k k9).1.trans (s12 _ _ (by omega))
      · exact (f13 k k9).2.trans (s12 _ _ (by omega))
    · rw [t12 _ _ (by omega) (by omega) (by omega) (by omega)]
      exact (f12 k k9).trans (s11 _ _ (by omega))
  · rw [r10]
    unfold rowv
    by_cases c1 : 50 ≤ j ∧ j < 194
    · rw [if_pos c1, F10.iv (by omega)]
      have := f9 (j - 50) (by omega)
      rw [show 50 + (j - 50) = j by omega] at this
      exact this.trans (s8 _ _ (by omega))
    · rw [if_neg c1]
      by_cases c2 : 194 ≤ j ∧ j < 284 ∧ (j - 194) % 15 < 8
      · rw [if_pos c2]
        have := (f10 ((j - 194) / 15) (by omega)).2.2.2.2.2.2.2.2 ((j - 194) % 15) c2.2.2
        rw [show 194 + 15 * ((j - 194) / 15) + (j - 194) % 15 = j by omega] at this
        exact this.trans (s9 _ _ (by omega))
      · rw [if_neg c2, F10.iv (by omega), F9.iv (by omega)]
        exact f8 j hj
  · rcases (show s = 0 ∨ s = 1 by omega) with r | r <;> subst r
    · exact b0
    · exact b1
end
