/-! a throw, with the heap's exact size (follows vx_throwS, vx_throwSW) -/
section GGT
variable {p : Program} {l : Launch} {e : Env} {R : Room} {s : State} {m : MethodId} {args : Array Value} {below : List Frame} {meth : Method} {c : Code} {H : Heap} {locs : List Loc} {cells slots : Nat} {free : Addr → Prop} {ls : Array Slot} {rest : List Value}
variable {Qc : Array Value → State → Outcome → State → Prop} {XC : String → State → State → Prop}
theorem x_throwS {cc : ByteArray} {pc : Nat} (hexec : p.tables.exec = Jvm.exec) (hb : c.code = cc) (hl : l.stackTraces = false) {own cls text : String} {names : List String} {ik is ic mc ms sa : Nat} {A : Nat → Prop}
    (hown : s.vm.findClass own = some m.cls) (hcls : Bundle.fit cls = true) (hnames : ∀ n ∈ names, Bundle.fit n = true)
    (hk : (Cond.classLink own ik cls).before args s = true) (hini : (Cond.initialized cls).before args s = true) (hstr : vk_R own is text sa s) (hat : ∀ w ∈ vx_atS own ic cls names, w.before args s = true)
    (hgood : ∀ w ∈ Cond.classLink own ik cls :: Cond.initialized cls :: vx_atS own ic cls names, vx_ot w = true)
    (hU : vx_Zq Bundle.tN "UNASSIGNED_STACK" Bundle.steD A s s.heap) (hN : vx_Zq Bundle.tN "SUPPRESSED_SENTINEL" Bundle.listD A s s.heap) (hS : va_S A s.heap H locs) (hsize : ls.size = c.maxLocals)
    (d0 : decode cc pc = .ok (.new ik, 3)) (d3 : decode cc (pc + 3) = .ok (.dup, 1)) (d4 : decode cc (pc + 4) = .ok (.ldc is, 2)) (d6 : decode cc (pc + 6) = .ok (.invokespecial ic, 3)) (d9 : decode cc (pc + 9) = .ok (.athrow, 1))
    (hout : ∀ x ∈ c.exceptionTable.toList, covers x (pc + 9) = false)
    (hRframes : names.length + 3 < R.frames) (hRlocals : (rest.map fun v => v.category).sum + (13 * (names.length + 1) + 43) ≤ R.locals) (hRcells : cells + 1 ≤ R.cells) (hRslots : slots + 6 ≤ R.slots) (hlocks : meth.locks = false)
    (hx : ∀ t : State, s.vm.Alike t.vm → t.heap.size = H.size + 1 → (∀ q : Nat, q < H.size → t.heap[q]? = H[q]?) → XC cls s t)
    (hf : ∀ z ∈ locs, free z.base) (hc : cells + 1 ≤ mc) (hs : slots + 6 ≤ ms) :
    W p l e R s m args below meth c H locs cells slots (vx_MQ below Qc XC args s mc ms free) (F0 m pc ls rest) := by
  intro T hT X
  have htr : e.platform.stackTraces = false := (show e.platform.stackTraces = l.stackTraces by rw [X.admits.platform]).trans hl
  have Y := vx_rebase X (R' := { frames := R.frames, locals := R.locals, cells := 1, slots := 6 }) (Nat.le_refl _) (Nat.le_refl _) hRcells hRslots
  obtain ⟨s', hA⟩ : ∃ z, z = (T.setVm s.vm).setFrames (.invoking m args :: below) := ⟨_, rfl⟩
  rw [← hA] at Y
  have hvm : s'.vm = s.vm := by rw [hA]; rfl
  have hhp : s'.heap = H := by rw [hA]; exact hT
  have hW0 : s.WarmedH s'.vm := by rw [hvm]; exact State.WarmedH.refl s
  have hat' : ∀ w ∈ vx_atS own ic cls names, w.before args s' = true := fun w hw => vx_ot_at hW0 hvm.symm (hgood w (List.mem_cons_of_mem _ (List.mem_cons_of_mem _ hw))) (hat w hw)
  have hk' : (Cond.classLink own ik cls).before args s' = true := vx_ot_at hW0 hvm.symm (hgood _ List.mem_cons_self) hk
  have hini' : (Cond.initialized cls).before args s' = true := vx_ot_at hW0 hvm.symm (hgood _ (List.mem_cons_of_mem _ List.mem_cons_self)) hini
  have hU' : vx_Zq Bundle.tN "UNASSIGNED_STACK" Bundle.steD A s' s'.heap := by rw [hhp]; exact vx_Zq.moved hW0.alike (hU.kept hS.2.1)
  have hN' : vx_Zq Bundle.tN "SUPPRESSED_SENTINEL" Bundle.listD A s' s'.heap := by rw [hhp]; exact vx_Zq.moved hW0.alike (hN.kept hS.2.1)
  have h : ∀ w ∈ Bundle.ownAtoms own ic cls names, w.before args s' = true := vx_own hat' (vx_isRefq hU'.1) (vx_isRefq hN'.1) hU'.2.word hN'.2.word
  have hown' : s'.vm.findClass own = some m.cls := by rw [hvm]; exact hown
  have hins : (Cond.instantiable cls 6).before args s' = true := h _ (by simp [Bundle.ownAtoms])
  obtain ⟨vm₁, cX, kX, hfX, hkX, -, -, X₁, st1⟩ := Y.newCold hexec (own := own) (C := cls) (index := ik) (n := 6) hown' hk' hins hini'
    (g := F0 m pc ls rest) rfl (by rw [hb]; exact d0) (Nat.le_refl _) (Nat.le_refl _)
  generalize hT1 : (T.setVm vm₁).pushCell { cls := cX, slots := kX.instanceTypes.map defaultValue, vm := .none } = T1 at X₁ st1
  have hcat : (Value.ref T.heap.size).category = 1 := rfl
  have hcellA : T1.heap[T.heap.size]? = some (freshCell cX kX) := by rw [← hT1]; exact State.heap_pushCell_size _ _
  have d3' : decode c.code (pc + 3) = .ok (.dup, 1) := by rw [hb]; exact d3
  have d4' : decode c.code (pc + 4) = .ok (.ldc is, 2) := by rw [hb]; exact d4
  have hstr' : vk_R own is text sa s' := vk_R.warm hW0 hstr
  obtain ⟨U, hsteps, hrun, hend, hW, hsame, ce, hce, hO⟩ := X₁.ctorThrowS hexec htr (own := own) (cls := cls) (names := names) (ic := ic) hown' hcls hnames h (fun x hx => nomatch hx) hfX hkX hcellA (by rw [hhp, hT]; exact Nat.le_refl _) (msg := .ref sa) rfl
    (g := { method := m, pc := pc + 6, locals := ls, stack := .ref sa :: .ref T.heap.size :: .ref T.heap.size :: rest, locked := none }) rfl hsize rfl rfl (rest := rest) rfl
    (by rw [hb]; exact d6) (by rw [hb]; exact d9) hout hRframes (by simp only [List.map_cons, List.sum_cons, hcat]; omega) hlocks
  obtain ⟨f1, f2⟩ := vx_frame hsame
  rw [hhp] at f1 f2
  have f3 : U.heap.size ≤ s'.heap.size + (0 + 1) := hsame.2.2.1
  have f4 : T.heap.size < U.heap.size := (Array.getElem?_eq_some_iff.mp hce).1
  rw [hhp] at f3
  rw [hT] at f4
  have hWs : s.WarmedH U.vm := State.WarmedH.trans hW0 hW
  have hcl : s.vm.findClass cls = some ce.cls := by
    have h9 := hO.cls
    rw [hvm] at h9
    exact h9
  have hall : s.sameButNew ({ U with vm := s.vm } : State) locs mc ms := by
    subst hA
    obtain ⟨e1, e2⟩ := hsame
    rw [State.setFrames_setFrames] at e1
    have h2 : (T.setVm s.vm).sameButNew ({ U with vm := s.vm } : State) [] (0 + 1) (0 + 6) := ⟨e1, e2⟩
    have h3 := X.same.trans h2
    rw [List.append_nil] at h3
    exact h3.mono hc hs
  refine ⟨U, ?_, .threw T.heap.size, hrun, hend, Or.inr ⟨T.heap.size, rfl, cls, ce, locs, hx U hWs.alike (by omega) (fun q hq => f2 q hq (fun z hz => nomatch hz)), hce, hO.vm, hcl, hWs, hall, hf⟩⟩
  refine st1 _ ?_
  show Steps p.tables e below (T1.setTop { method := m, pc := pc + 3, locals := ls, stack := .ref T.heap.size :: rest, locked := none }) _
  jvm_step X₁.here [X₁.here.top, hexec, d3', Value.category]
  exact X₁.ldcString hexec (own := own) (text := text) (index := is) (a := sa) hown' hstr'.1 hstr'.2
    (g := { method := m, pc := pc + 4, locals := ls, stack := .ref T.heap.size :: .ref T.heap.size :: rest, locked := none }) rfl d4' _ hsteps
theorem x_throwSW {cc : ByteArray} {pc : Nat} (hexec : p.tables.exec = Jvm.exec) (hb : c.code = cc) (hl : l.stackTraces = false) {own cls text : String} {names : List String} {ik is ic mc ms sa : Nat} {A : Nat → Prop}
    (hown : s.vm.findClass own = some m.cls) (hcls : Bundle.fit cls = true) (hnames : ∀ n ∈ names, Bundle.fit n = true)
    (hk : (Cond.classLink own ik cls).before args s = true) (hini : (Cond.initialized cls).before args s = true) (hstr : vk_R own is text sa s) (hat : ∀ w ∈ vx_atS own ic cls names, w.before args s = true)
    (hgood : ∀ w ∈ Cond.classLink own ik cls :: Cond.initialized cls :: vx_atS own ic cls names, vx_ot w = true)
    (hU : vx_Zq Bundle.tN "UNASSIGNED_STACK" Bundle.steD A s s.heap) (hN : vx_Zq Bundle.tN "SUPPRESSED_SENTINEL" Bundle.listD A s s.heap) (hS : va_S A s.heap H locs) (hsize : ls.size = c.maxLocals)
    (d0 : decode cc pc = .ok (.new ik, 3)) (d3 : decode cc (pc + 3) = .ok (.dup, 1)) (d4 : decode cc (pc + 4) = .ok (.ldc_w is, 3)) (d7 : decode cc (pc + 7) = .ok (.invokespecial ic, 3)) (d10 : decode cc (pc + 10) = .ok (.athrow, 1))
    (hout : ∀ x ∈ c.exceptionTable.toList, covers x (pc + 10) = false)
    (hRframes : names.length + 3 < R.frames) (hRlocals : (rest.map fun v => v.category).sum + (13 * (names.length + 1) + 43) ≤ R.locals) (hRcells : cells + 1 ≤ R.cells) (hRslots : slots + 6 ≤ R.slots) (hlocks : meth.locks = false)
    (hx : ∀ t : State, s.vm.Alike t.vm → t.heap.size = H.size + 1 → (∀ q : Nat, q < H.size → t.heap[q]? = H[q]?) → XC cls s t)
    (hf : ∀ z ∈ locs, free z.base) (hc : cells + 1 ≤ mc) (hs : slots + 6 ≤ ms) :
    W p l e R s m args below meth c H locs cells slots (vx_MQ below Qc XC args s mc ms free) (F0 m pc ls rest) := by
  intro T hT X
  have htr : e.platform.stackTraces = false := (show e.platform.stackTraces = l.stackTraces by rw [X.admits.platform]).trans hl
  have Y := vx_rebase X (R' := { frames := R.frames, locals := R.locals, cells := 1, slots := 6 }) (Nat.le_refl _) (Nat.le_refl _) hRcells hRslots
  obtain ⟨s', hA⟩ : ∃ z, z = (T.setVm s.vm).setFrames (.invoking m args :: below) := ⟨_, rfl⟩
  rw [← hA] at Y
  have hvm : s'.vm = s.vm := by rw [hA]; rfl
  have hhp : s'.heap = H := by rw [hA]; exact hT
  have hW0 : s.WarmedH s'.vm := by rw [hvm]; exact State.WarmedH.refl s
  have hat' : ∀ w ∈ vx_atS own ic cls names, w.before args s' = true := fun w hw => vx_ot_at hW0 hvm.symm (hgood w (List.mem_cons_of_mem _ (List.mem_cons_of_mem _ hw))) (hat w hw)
  have hk' : (Cond.classLink own ik cls).before args s' = true := vx_ot_at hW0 hvm.symm (hgood _ List.mem_cons_self) hk
  have hini' : (Cond.initialized cls).before args s' = true := vx_ot_at hW0 hvm.symm (hgood _ (List.mem_cons_of_mem _ List.mem_cons_self)) hini
  have hU' : vx_Zq Bundle.tN "UNASSIGNED_STACK" Bundle.steD A s' s'.heap := by rw [hhp]; exact vx_Zq.moved hW0.alike (hU.kept hS.2.1)
  have hN' : vx_Zq Bundle.tN "SUPPRESSED_SENTINEL" Bundle.listD A s' s'.heap := by rw [hhp]; exact vx_Zq.moved hW0.alike (hN.kept hS.2.1)
  have h : ∀ w ∈ Bundle.ownAtoms own ic cls names, w.before args s' = true := vx_own hat' (vx_isRefq hU'.1) (vx_isRefq hN'.1) hU'.2.word hN'.2.word
  have hown' : s'.vm.findClass own = some m.cls := by rw [hvm]; exact hown
  have hins : (Cond.instantiable cls 6).before args s' = true := h _ (by simp [Bundle.ownAtoms])
  obtain ⟨vm₁, cX, kX, hfX, hkX, -, -, X₁, st1⟩ := Y.newCold hexec (own := own) (C := cls) (index := ik) (n := 6) hown' hk' hins hini'
    (g := F0 m pc ls rest) rfl (by rw [hb]; exact d0) (Nat.le_refl _) (Nat.le_refl _)
  generalize hT1 : (T.setVm vm₁).pushCell { cls := cX, slots := kX.instanceTypes.map defaultValue, vm := .none } = T1 at X₁ st1
  have hcat : (Value.ref T.heap.size).category = 1 := rfl
  have hcellA : T1.heap[T.heap.size]? = some (freshCell cX kX) := by rw [← hT1]; exact State.heap_pushCell_size _ _
  have d3' : decode c.code (pc + 3) = .ok (.dup, 1) := by rw [hb]; exact d3
  have d4' : decode c.code (pc + 4) = .ok (.ldc_w is, 3) := by rw [hb]; exact d4
  have hstr' : vk_R own is text sa s' := vk_R.warm hW0 hstr
  obtain ⟨U, hsteps, hrun, hend, hW, hsame, ce, hce, hO⟩ := X₁.ctorThrowS hexec htr (own := own) (cls := cls) (names := names) (ic := ic) hown' hcls hnames h (fun x hx => nomatch hx) hfX hkX hcellA (by rw [hhp, hT]; exact Nat.le_refl _) (msg := .ref sa) rfl
    (g := { method := m, pc := pc + 7, locals := ls, stack := .ref sa :: .ref T.heap.size :: .ref T.heap.size :: rest, locked := none }) rfl hsize rfl rfl (rest := rest) rfl
    (by rw [hb]; exact d7) (by rw [hb]; exact d10) hout hRframes (by simp only [List.map_cons, List.sum_cons, hcat]; omega) hlocks
  obtain ⟨f1, f2⟩ := vx_frame hsame
  rw [hhp] at f1 f2
  have f3 : U.heap.size ≤ s'.heap.size + (0 + 1) := hsame.2.2.1
  have f4 : T.heap.size < U.heap.size := (Array.getElem?_eq_some_iff.mp hce).1
  rw [hhp] at f3
  rw [hT] at f4
  have hWs : s.WarmedH U.vm := State.WarmedH.trans hW0 hW
  have hcl : s.vm.findClass cls = some ce.cls := by
    have h9 := hO.cls
    rw [hvm] at h9
    exact h9
  have hall : s.sameButNew ({ U with vm := s.vm } : State) locs mc ms := by
    subst hA
    obtain ⟨e1, e2⟩ := hsame
    rw [State.setFrames_setFrames] at e1
    have h2 : (T.setVm s.vm).sameButNew ({ U with vm := s.vm } : State) [] (0 + 1) (0 + 6) := ⟨e1, e2⟩
    have h3 := X.same.trans h2
    rw [List.append_nil] at h3
    exact h3.mono hc hs
  refine ⟨U, ?_, .threw T.heap.size, hrun, hend, Or.inr ⟨T.heap.size, rfl, cls, ce, locs, hx U hWs.alike (by omega) (fun q hq => f2 q hq (fun z hz => nomatch hz)), hce, hO.vm, hcl, hWs, hall, hf⟩⟩
  refine st1 _ ?_
  show Steps p.tables e below (T1.setTop { method := m, pc := pc + 3, locals := ls, stack := .ref T.heap.size :: rest, locked := none }) _
  jvm_step X₁.here [X₁.here.top, hexec, d3', Value.category]
  exact X₁.ldcStringW hexec (own := own) (text := text) (index := is) (a := sa) hown' hstr'.1 hstr'.2
    (g := { method := m, pc := pc + 4, locals := ls, stack := .ref T.heap.size :: .ref T.heap.size :: rest, locked := none }) rfl d4' _ hsteps
end GGT
/-! the exceptions' words -/
theorem exc_ok {own cls : String} {ik ic : Nat} {names : List String} (h : ∀ w ∈ Cond.classLink own ik cls :: Cond.initialized cls :: vx_atS own ic cls names, w ∈ lw_tbl ∧ tb_ok w = true) {U : State} {A : Array Value} (hT : tb_at U) : ∀ w ∈ Cond.classLink own ik cls :: Cond.initialized cls :: vx_atS own ic cls names, w.before A U = true := fun w hw => tb_use hT (h w hw).1 (h w hw).2
section GGS7
variable {α β γ : Type} {em : α → aR} {l : Launch} {E : aE} {M : aM} {d lr n0 m0 pc : Nat} {lv : List (Nat × Value)} {st stk : List Value} {h : aH} {o : Option (α × aH)}
/-- the heap behind a throw -/
theorem HR.exc {z : Nat} {D : va_G} {cA : Nat → ClassId} {H H1 : Heap} (hR : HR z D cA h H) (hz : H1.size = H.size + 1) (oq : ∀ q, q < H.size → H1[q]? = H[q]?) : HR z D cA (h_exc h) H1 := by
  refine ⟨by show H1.size = z + (h_nx h + 1); rw [hz, hR.1]; omega, by show 0 < h_nx h + 1; omega, fun k => ?_⟩
  obtain ⟨a1, a2, a3, a4, a5⟩ := hR.2.2 k
  have hq : h_sh h k ≠ 0 → H1[z + k]? = H[z + k]? := fun hs => oq _ (by have := (a1 hs).2; rw [hR.1]; omega)
  refine ⟨?_, ?_, ?_, ?_, ?_⟩
  · intro hs; have := a1 hs; exact ⟨this.1, Nat.lt_succ_of_lt this.2⟩
  · intro t ht (hs : h_sh h k = t + 1); rw [hq (by omega)]; exact a2 t ht hs
  · intro (hs : h_sh h k = 4); rw [hq (by omega)]; exact a3 hs
  · intro t h4 h9 (hs : h_sh h k = t + 1); rw [hq (by omega)]; exact a4 t h4 h9 hs
  · intro c (hs : h_sh h k = 10 + c)
    obtain ⟨r, r1, r2⟩ := a5 c hs
    exact ⟨r, r1, (r2.kept (hq (by omega))).to (fun f _ => rfl)⟩
theorem g_throw {em : γ → Option Value} {cls text : String} {ik is ic : Nat} {names : List String} (hM : M.2.2.2.2.1 = []) (hcls : Bundle.fit cls = true) (hnames : ∀ n ∈ names, Bundle.fit n = true)
    (hat : ∀ w ∈ Cond.classLink M.1 ik cls :: Cond.initialized cls :: vx_atS M.1 ic cls names, w ∈ lw_tbl ∧ tb_ok w = true) (hgood : ∀ w ∈ Cond.classLink M.1 ik cls :: Cond.initialized cls :: vx_atS M.1 ic cls names, vx_ot w = true) (hstr : (M.1, is, text) ∈ TXL)
    (d0 : decode M.2.1 pc = .ok (.new ik, 3)) (d3 : decode M.2.1 (pc + 3) = .ok (.dup, 1)) (d4 : decode M.2.1 (pc + 4) = .ok (.ldc is, 2)) (d6 : decode M.2.1 (pc + 6) = .ok (.invokespecial ic, 3)) (d9 : decode M.2.1 (pc + 9) = .ok (.athrow, 1))
    (hf : names.length + 3 < d) (hl : cats st + (13 * (names.length + 1) + 43) ≤ lr) : GG (eT em) l E M d lr n0 m0 pc lv st h (some (.inr cls, h_exc h)) := by
  intro r h' ho
  cases ho
  have b1 : h_nx (h_exc h) = h_nx h + 1 := rfl
  have b2 : h_sl (h_exc h) = h_sl h + 6 := rfl
  refine ⟨by omega, by omega, fun p e R s m args below meth c H locs cells slots ls Q hC hd9 hr9 hc9 hs9 e1 e2 hH hS hl9 hQ => ?_⟩
  have hW := hC.2.2.2.2.2.2.1
  obtain ⟨sa, hsa⟩ := hW.2.2.2.2.2.1 _ hstr
  have hw := exc_ok (A := args) hat hW.1
  have hQX := hQ.2 cls rfl
  subst hQX
  exact x_throwS (A := aA (e_z E)) hC.1 hC.2.1 hC.2.2.2.2.2.2.2.2.1 hC.2.2.2.2.2.1 hcls hnames (hw _ List.mem_cons_self) (hw _ (List.mem_cons_of_mem _ List.mem_cons_self)) hsa (fun w hm => hw w (List.mem_cons_of_mem _ (List.mem_cons_of_mem _ hm))) hgood hW.2.2.1 hW.2.2.2.1 hS (hl9.1.trans hC.2.2.2.2.1.symm) d0 d3 d4 d6 d9
    (fun x hx => by rw [hC.2.2.2.2.2.2.2.1, hM] at hx; cases hx) (by omega) (by show cats st + _ ≤ _; omega) (by omega) (by omega) hC.2.2.2.1
    (fun t _ hz hq => ⟨rfl, hH.exc hz hq, by have := hS.1; exact ⟨by omega, fun q q1 q2 => (hq q (by omega)).trans (hS.2.1 q q1 q2)⟩⟩) hS.2.2 (by omega) (by omega)
theorem g_throwW {em : γ → Option Value} {cls text : String} {ik is ic : Nat} {names : List String} (hM : M.2.2.2.2.1 = []) (hcls : Bundle.fit cls = true) (hnames : ∀ n ∈ names, Bundle.fit n = true)
    (hat : ∀ w ∈ Cond.classLink M.1 ik cls :: Cond.initialized cls :: vx_atS M.1 ic cls names, w ∈ lw_tbl ∧ tb_ok w = true) (hgood : ∀ w ∈ Cond.classLink M.1 ik cls :: Cond.initialized cls :: vx_atS M.1 ic cls names, vx_ot w = true) (hstr : (M.1, is, text) ∈ TXL)
    (d0 : decode M.2.1 pc = .ok (.new ik, 3)) (d3 : decode M.2.1 (pc + 3) = .ok (.dup, 1)) (d4 : decode M.2.1 (pc + 4) = .ok (.ldc_w is, 3)) (d6 : decode M.2.1 (pc + 7) = .ok (.invokespecial ic, 3)) (d9 : decode M.2.1 (pc + 10) = .ok (.athrow, 1))
    (hf : names.length + 3 < d) (hl : cats st + (13 * (names.length + 1) + 43) ≤ lr) : GG (eT em) l E M d lr n0 m0 pc lv st h (some (.inr cls, h_exc h)) := by
  intro r h' ho
  cases ho
  have b1 : h_nx (h_exc h) = h_nx h + 1 := rfl
  have b2 : h_sl (h_exc h) = h_sl h + 6 := rfl
  refine ⟨by omega, by omega, fun p e R s m args below meth c H locs cells slots ls Q hC hd9 hr9 hc9 hs9 e1 e2 hH hS hl9 hQ => ?_⟩
  have hW := hC.2.2.2.2.2.2.1
  obtain ⟨sa, hsa⟩ := hW.2.2.2.2.2.1 _ hstr
  have hw := exc_ok (A := args) hat hW.1
  have hQX := hQ.2 cls rfl
  subst hQX
  exact x_throwSW (A := aA (e_z E)) hC.1 hC.2.1 hC.2.2.2.2.2.2.2.2.1 hC.2.2.2.2.2.1 hcls hnames (hw _ List.mem_cons_self) (hw _ (List.mem_cons_of_mem _ List.mem_cons_self)) hsa (fun w hm => hw w (List.mem_cons_of_mem _ (List.mem_cons_of_mem _ hm))) hgood hW.2.2.1 hW.2.2.2.1 hS (hl9.1.trans hC.2.2.2.2.1.symm) d0 d3 d4 d6 d9
    (fun x hx => by rw [hC.2.2.2.2.2.2.2.1, hM] at hx; cases hx) (by omega) (by show cats st + _ ≤ _; omega) (by omega) (by omega) hC.2.2.2.1
    (fun t _ hz hq => ⟨rfl, hH.exc hz hq, by have := hS.1; exact ⟨by omega, fun q q1 q2 => (hq q (by omega)).trans (hS.2.1 q q1 q2)⟩⟩) hS.2.2 (by omega) (by omega)
/-- a switch -/
theorem g_swOut {x : Int32} {dflt lo hi : Int} {offs : Array Int} {len tgt : Nat} (hd : decode M.2.1 pc = .ok (.tableswitch dflt lo hi offs, len)) (hx : x.toInt < lo ∨ hi < x.toInt) (ht : (pc : Int) + dflt = (tgt : Int)) (k : GG em l E M d lr n0 m0 tgt lv st h o) : GG em l E M d lr n0 m0 pc lv (.int x :: st) h o := g_lift k (fun _ _ _ _ _ _ _ _ _ _ _ _ _ _ _ hC _ _ _ _ _ _ _ w => lv_tableOut hC.1 hC.2.1 hd hx ht w)
theorem g_swIn {x : Int32} {dflt lo hi off : Int} {offs : Array Int} {len tgt : Nat} (hd : decode M.2.1 pc = .ok (.tableswitch dflt lo hi offs, len)) (h1 : ¬ x.toInt < lo) (h2 : ¬ hi < x.toInt) (ho : offs[(x.toInt - lo).toNat]? = some off) (ht : (pc : Int) + off = (tgt : Int)) (k : GG em l E M d lr n0 m0 tgt lv st h o) : GG em l E M d lr n0 m0 pc lv (.int x :: st) h o := g_lift k (fun _ _ _ _ _ _ _ _ _ _ _ _ _ _ _ hC _ _ _ _ _ _ _ w => lv_tableIn hC.1 hC.2.1 hd h1 h2 ho ht w)
/-- .. its roads, one behind another: value v goes to o1 -/
def swO {γ : Type} (x : Int32) (v : Int) (a b : Option γ) : Option γ := if x.toInt = v then a else b
theorem g_swI {x : Int32} {v : Int} {o1 o2 : Option (α × aH)} (k1 : x.toInt = v → GG em l E M d lr n0 m0 pc lv stk h o1) (k2 : ¬ x.toInt = v → GG em l E M d lr n0 m0 pc lv stk h o2) : GG em l E M d lr n0 m0 pc lv stk h (swO x v o1 o2) := by
  by_cases hx : x.toInt = v
  · rw [swO, if_pos hx]; exact k1 hx
  · rw [swO, if_neg hx]; exact k2 hx
/-- the script's ints -/
def scI (sc : List Int32) (i : Int32) : Option Int32 := if 0 ≤ i.toInt ∧ i.toInt < sc.length then some (sc.getD i.toNatClampNeg 0) else none
theorem g_sld {i : Int32} {f : Int32 → Option (α × aH)} (hd : decode M.2.1 pc = .ok (.iaload, 1)) (kk : ∀ v, GG em l E M d lr n0 m0 (pc + 1) lv (.int v :: st) h (f v)) : GG em l E M d lr n0 m0 pc lv (.int i :: .ref (e_ca E) :: st) h (bO (scI (e_cs E) i) f) := by
  by_cases hi : 0 ≤ i.toInt ∧ i.toInt < (e_cs E).length
  · rw [scI, if_pos hi]
    refine g_lift (kk _) (fun p e R s m args below meth c H locs cells slots ls Q hC _ _ _ _ _ hS _ w => ?_)
    obtain ⟨cell, h1, h2, h3, h4, h5, h6, h7⟩ := va_T.kept hC.2.2.2.2.2.2.1.2.2.2.2.2.2.2.2.2 hS.2.1
    have hv := vin_of hi.1 hi.2
    exact W.iald (v := .int ((e_cs E).getD i.toNatClampNeg 0)) hC.1 hC.2.1 h1 h2 h3 (fun q => q.elim (fun a => hv (Or.inl a)) (fun b => hv (Or.inr (Nat.le_trans h4 b)))) (h6 _ (Nat.not_le.mp (fun q => hv (Or.inr q)))) rfl rfl hd w
  · rw [scI, if_neg hi]; exact g_none
theorem g_slen (hd : decode M.2.1 pc = .ok (.arraylength, 1)) (kk : GG em l E M d lr n0 m0 (pc + 1) lv (.int (nI (e_cs E).length) :: st) h o) : GG em l E M d lr n0 m0 pc lv (.ref (e_ca E) :: st) h o := by
  refine g_lift kk (fun p e R s m args below meth c H locs cells slots ls Q hC _ _ _ _ _ hS _ w => ?_)
  obtain ⟨cell, h1, h2, h3, h4, h5, h6, h7⟩ := va_T.kept hC.2.2.2.2.2.2.1.2.2.2.2.2.2.2.2.2 hS.2.1
  exact W.alen (n := nI (e_cs E).length) hC.1 hC.2.1 h1 h2 h5 rfl rfl hd w
/-- System.arraycopy of ints -/
theorem g_acp {i s9 t9 : Nat} {sp dp n : Int32} {f : aH → Option (α × aH)} (hw : Cond.methodLink M.1 i arraycopyName ∈ lw_tbl) (hw2 : Cond.native arraycopyName ∈ lw_tbl) (hw3 : Cond.static arraycopyName ∈ lw_tbl) (hw4 : Cond.initialized "java/lang/System" ∈ lw_tbl)
    (hf : 1 ≤ d) (hl : cats st + (nativeFrameWords "java/lang/System" "arraycopy" 5 + 11) ≤ lr) (hd : decode M.2.1 pc = .ok (.invokestatic i, 3)) (kk : ∀ h1, GG em l E M d lr n0 m0 (pc + 3) lv st h1 (f h1)) :
    GG em l E M d lr n0 m0 pc lv (.int n :: .int dp :: .ref (e_z E + t9) :: .int sp :: .ref (e_z E + s9) :: st) h (bO (acp h s9 sp t9 dp n) f) := by
  by_cases hs : h_sh h s9 = 1 ∧ h_sh h t9 = 1 ∧ 0 ≤ sp.toInt ∧ 0 ≤ dp.toInt ∧ 0 ≤ n.toInt ∧ sp.toInt + n.toInt ≤ h_ln h s9 ∧ dp.toInt + n.toInt ≤ h_ln h t9
  · rw [acp, if_pos hs]
    obtain ⟨g1, g2, g3, g4, g5, g6, g7⟩ := hs
    intro r h' ho
    obtain ⟨a1, a2, a3⟩ := kk _ r h' ho
    refine ⟨a1, a2, fun p e R s m args below meth c H locs cells slots ls Q hC hd9 hr9 hc9 hs9 e1 e2 hH hS hl9 hQ => ?_⟩
    intro T hT X
    have hW := hC.2.2.2.2.2.2.1
    have nn : ∀ z : Int32, 0 ≤ z.toInt → ¬ z < 0 ∧ z.toInt = (z.toNatClampNeg : Int) := by
      intro z hz
      refine ⟨fun q => ?_, ?_⟩
      · have := Int32.lt_iff_toInt_lt.mp q
        rw [show (0 : Int32).toInt = 0 from rfl] at this
        omega
      · show z.toInt = ((z.toInt.toNat : Nat) : Int)
        omega
    have f1 := nn sp g3
    have f2 := nn dp g4
    have f3 := nn n g5
    have hc0 := (hH.2.2 s9).2.1 0 (by decide) g1
    have hc1 := (hH.2.2 t9).2.1 0 (by decide) g2
    obtain ⟨-, k0, hk0, cm0, hkk0⟩ := (hC.arr (t := 0) (by decide)).1 (h_ln h s9) (fun j => .int (h_iv h s9 j))
    obtain ⟨-, k1, hk1, cm1, hkk1⟩ := (hC.arr (t := 0) (by decide)).1 (h_ln h t9) (fun j => .int (h_iv h t9 j))
    obtain ⟨vm', X', step⟩ := X.arraycopy hC.1 hC.2.2.2.2.2.1 (tb_use hW.1 hw rfl) (tb_use hW.1 hw2 rfl) (tb_use hW.1 hw3 rfl) (tb_use hW.1 hw4 rfl) (src := e_z E + s9) (dst := e_z E + t9) (cs := arrV (e_cA E 0) (h_ln h s9) (fun j => .int (h_iv h s9 j))) (cd := arrV (e_cA E 0) (h_ln h t9) (fun j => .int (h_iv h t9 j))) (srcPos := sp) (destPos := dp) (n := n) (by rw [hT]; exact hc0) (by rw [hT]; exact hc1)
      (fun _ h => by cases h) (fun _ h => by cases h) (fun h => by cases h) (fun h => by cases h) hk0 hk1 hkk0 hkk1 (by simp [TYL, refKind]) f1.1 f2.1 f3.1
      (by rw [f1.2, f3.2, arrV_size]; omega) (by rw [f2.2, f3.2, arrV_size]; omega)
      (fun vm₁ _ i hi => by
        have e : (arrV (e_cA E 0) (h_ln h s9) (fun j => Value.int (h_iv h s9 j))).slots.getD (sp.toNatClampNeg + i) .null = .int (h_iv h s9 (sp.toNatClampNeg + i)) := by
          rw [Array.getD_eq_getD_getElem?, arrV_read _ _ (by omega)]
          rfl
        refine ⟨?_, ?_⟩
        · rw [e]; rfl
        · rw [e]; exact trivial)
      (g := F0 m pc ls (.int n :: .int dp :: .ref (e_z E + t9) :: .int sp :: .ref (e_z E + s9) :: st)) rfl (hl9.1.trans hC.2.2.2.2.1.symm) (rest := st) rfl (by rw [hC.2.1]; exact hd) (by omega) (by show 2 * 0 + cats st + _ ≤ _; omega)
    have e3 : copied (arrV (e_cA E 0) (h_ln h s9) (fun j => Value.int (h_iv h s9 j))) (arrV (e_cA E 0) (h_ln h t9) (fun j => Value.int (h_iv h t9 j))) sp dp n = arrV (e_cA E 0) (h_ln h t9) (fun j => .int (va_cpy (h_iv h s9) (h_iv h t9) sp.toNatClampNeg dp.toNatClampNeg n.toNatClampNeg j)) := va_copied (fun z => .int z) (e_cA E 0) (e_cA E 0) (h_iv h s9) (h_iv h t9) (by omega)
    rw [e3] at X' step
    have hlt : e_z E + t9 < H.size := (Array.getElem?_eq_some_iff.mp hc1).1
    have ht0 := (hH.lt (k := t9) (by omega)).1
    have hA : aA (e_z E) (e_z E + t9) := by show _ < _; omega
    have oq : ∀ (C9 : Cell) (q : Nat), q ≠ e_z E + t9 → (H.setIfInBounds (e_z E + t9) C9)[q]? = H[q]? := fun C9 q hq => by simp [Array.getElem?_setIfInBounds, Ne.symm hq]
    have hHeap : ∀ C9 : Cell, ((T.setVm vm').setCell (e_z E + t9) C9).heap = H.setIfInBounds (e_z E + t9) C9 := fun C9 => by rw [← hT]; rfl
    have hat : ∀ C9 : Cell, (H.setIfInBounds (e_z E + t9) C9)[e_z E + t9]? = some C9 := fun C9 => by simp [Array.getElem?_setIfInBounds, hlt]
    obtain ⟨t, b1, b2⟩ := a3 p e R s m args below meth c _ _ cells slots ls Q hC hd9 hr9 hc9 hs9 e1 e2
      (hH.wr (h' := h_copy h t9 (va_cpy (h_iv h s9) (h_iv h t9) sp.toNatClampNeg dp.toNatClampNeg n.toNatClampNeg)) (H1 := H.setIfInBounds (e_z E + t9) (arrV (e_cA E 0) (h_ln h t9) (fun j => .int (va_cpy (h_iv h s9) (h_iv h t9) sp.toNatClampNeg dp.toNatClampNeg n.toNatClampNeg j)))) (o := t9) rfl rfl rfl (fun _ q => up1_o q) (fun _ _ => rfl) (fun _ _ => rfl) (by simp) (oq _)
        ⟨(hH.2.2 t9).1, fun t ht (hs' : h_sh h t9 = t + 1) => by
            have : t = 0 := by omega
            subst this
            rw [hat]
            show _ = some (arrV (e_cA E 0) (h_ln h t9) (fun j => Value.int (up1 (h_iv h) t9 _ t9 j)))
            rw [up1_s], fun (hs' : h_sh h t9 = 4) => by omega, fun t h4 h9 (hs' : h_sh h t9 = t + 1) => by omega, fun c (hs' : h_sh h t9 = 10 + c) => by omega⟩)
      ⟨by simp; exact hS.1, fun q q1 q2 => by rw [oq _ q (fun e => q2 (by rw [e]; exact hA))]; exact hS.2.1 q q1 q2, fun q hq => by
        rcases List.mem_append.mp hq with h9 | h9
        · exact hS.2.2 q h9
        · obtain ⟨z, -, hz⟩ := List.mem_map.mp h9
          rw [← hz]
          exact hA⟩ hl9 hQ _ (hHeap _) X'
    exact ⟨t, step t b1, b2⟩
  · rw [acp, if_neg hs]; exact g_none
/-- a method's contract out of its body -/
theorem g_met {y : MethodName} {bytes : ByteArray} {maxL : Nat} {ret : Option FieldType} {args : List Value} {x : Option (α × aH)} (hl : l.stackTraces = false) (hy : plainName y.cls = true) (hlen : (lg_sl args).length ≤ maxL)
    (k : GG em l E (y.cls, bytes, maxL, ret, [], y.name == "<init>") d lr (h_nx h) (h_sl h) 0 (lv_args 0 args) [] h x) : MO em l E y (.code y bytes maxL ret) d lr args h x := by
  intro r h' hx
  obtain ⟨a1, a2, a3⟩ := k r h' hx
  refine ⟨a1, a2, vx_ofW (ws' := []) hy rfl (fun p e s m args9 below meth c s1 B hml ht hP => ?_)⟩
  obtain ⟨rfl, hW, hH⟩ := hP
  rw [lg_entry_eq]
  refine a3 p e _ s m _ below meth c s.heap [] 0 0 _ _ ⟨B.exec, B.bytes, B.returns, B.notSynchronized, hml, findClass_of_methodNamed B.named, hW, List.eq_nil_iff_forall_not_mem.mpr (fun x hx => ht x hx), hl, hH.1, hH.2.1, fun hi => (name_of_methodNamed B.named B.method).1.trans (eq_of_beq hi)⟩
    (Nat.le_refl _) (Nat.le_refl _) (by show _ ≤ (h_nx h' - h_nx h) + _; omega) (by show _ ≤ (h_sl h' - h_sl h) + _; omega) (Nat.zero_add _) (Nat.zero_add _) hH ⟨Nat.le_refl _, fun _ _ _ => rfl, fun _ hq => nomatch hq⟩ (lv_entry args hlen) ⟨?_, fun X _ => rfl⟩
  intro pc ig v H locs cells slots ls hr hi hd hH9 hS hc hs
  have f1 : h_nx h' - h_nx h = cells := by omega
  have f2 : h_sl h' - h_sl h = slots := by omega
  rw [f1, f2]
  refine vx_ret ?_
  rcases hi with ⟨rfl, hret, rfl⟩ | ⟨rfl, x9, ty, hret, rfl, hn⟩ | ⟨rfl, hret, x9, rfl⟩ | ⟨rfl, n9, a9, hret, rfl⟩
  · exact W.vret B.exec B.bytes (B.returns.trans hret) (fun t ht9 _ => ⟨⟨none, hr, rfl⟩, by rw [ht9]; exact hH9, va_S.F hS ht9⟩) hS.2.2 hd B.notSynchronized
  · exact W.zret B.exec B.bytes (B.returns.trans hret) hn (fun t ht9 _ => ⟨⟨_, hr, rfl⟩, by rw [ht9]; exact hH9, va_S.F hS ht9⟩) hS.2.2 hd B.notSynchronized
  · exact W.lret B.exec B.bytes (B.returns.trans hret) (fun t ht9 _ => ⟨⟨_, hr, rfl⟩, by rw [ht9]; exact hH9, va_S.F hS ht9⟩) hS.2.2 hd B.notSynchronized
  · exact W.aret B.exec B.bytes (B.returns.trans hret) (Or.inl ⟨_, rfl⟩) (Or.inr ⟨_, rfl⟩) (fun t ht9 _ => ⟨⟨_, hr, rfl⟩, by rw [ht9]; exact hH9, va_S.F hS ht9⟩) hS.2.2 hd B.notSynchronized
/-- .. of one with handlers -/
theorem g_metH {y : MethodName} {bytes : ByteArray} {maxL : Nat} {ret : Option FieldType} {hh : List (Nat × Nat × Nat × Nat)} {args : List Value} {x : Option (α × aH)} (hl : l.stackTraces = false) (hy : plainName y.cls = true) (hlen : (lg_sl args).length ≤ maxL)
    (k : GG em l E (y.cls, bytes, maxL, ret, tableOf hh, y.name == "<init>") d lr (h_nx h) (h_sl h) 0 (lv_args 0 args) [] h x) : MO em l E y (.codeWith y bytes maxL ret hh) d lr args h x := by
  intro r h' hx
  obtain ⟨a1, a2, a3⟩ := k r h' hx
  refine ⟨a1, a2, vx_ofWH (ws' := []) hy rfl (fun p e s m args9 below meth c s1 B hml hP => ?_)⟩
  obtain ⟨rfl, hW, hH⟩ := hP
  rw [lg_entry_eq]
  refine a3 p e _ s m _ below meth c s.heap [] 0 0 _ _ ⟨B.exec, B.bytes, B.returns, B.notSynchronized, hml, findClass_of_methodNamed B.named, hW, vx_table (x := y) B (atoms_spec (ws := [Cond.codeWith y bytes maxL ret hh]) B.pre _ List.mem_cons_self), hl, hH.1, hH.2.1, fun hi => (name_of_methodNamed B.named B.method).1.trans (eq_of_beq hi)⟩
    (Nat.le_refl _) (Nat.le_refl _) (by show _ ≤ (h_nx h' - h_nx h) + _; omega) (by show _ ≤ (h_sl h' - h_sl h) + _; omega) (Nat.zero_add _) (Nat.zero_add _) hH ⟨Nat.le_refl _, fun _ _ _ => rfl, fun _ hq => nomatch hq⟩ (lv_entry args hlen) ⟨?_, fun X _ => rfl⟩
  intro pc ig v H locs cells slots ls hr hi hd hH9 hS hc hs
  have f1 : h_nx h' - h_nx h = cells := by omega
  have f2 : h_sl h' - h_sl h = slots := by omega
  rw [f1, f2]
  refine vx_ret ?_
  rcases hi with ⟨rfl, hret, rfl⟩ | ⟨rfl, x9, ty, hret, rfl, hn⟩ | ⟨rfl, hret, x9, rfl⟩ | ⟨rfl, n9, a9, hret, rfl⟩
  · exact W.vret B.exec B.bytes (B.returns.trans hret) (fun t ht9 _ => ⟨⟨none, hr, rfl⟩, by rw [ht9]; exact hH9, va_S.F hS ht9⟩) hS.2.2 hd B.notSynchronized
  · exact W.zret B.exec B.bytes (B.returns.trans hret) hn (fun t ht9 _ => ⟨⟨_, hr, rfl⟩, by rw [ht9]; exact hH9, va_S.F hS ht9⟩) hS.2.2 hd B.notSynchronized
  · exact W.lret B.exec B.bytes (B.returns.trans hret) (fun t ht9 _ => ⟨⟨_, hr, rfl⟩, by rw [ht9]; exact hH9, va_S.F hS ht9⟩) hS.2.2 hd B.notSynchronized
  · exact W.aret B.exec B.bytes (B.returns.trans hret) (Or.inl ⟨_, rfl⟩) (Or.inr ⟨_, rfl⟩) (fun t ht9 _ => ⟨⟨_, hr, rfl⟩, by rw [ht9]; exact hH9, va_S.F hS ht9⟩) hS.2.2 hd B.notSynchronized
end GGS7
