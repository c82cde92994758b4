/-! proofs of methods -/
theorem dL_append_0 : decode cL_append 0 = .ok (.aload 6, 2) := by decide +kernel
theorem dL_append_2 : decode cL_append 2 = .ok (.iconst 0, 1) := by decide +kernel
theorem dL_append_3 : decode cL_append 3 = .ok (.aload_n 0, 1) := by decide +kernel
theorem dL_append_4 : decode cL_append 4 = .ok (.iload_n 1, 1) := by decide +kernel
theorem dL_append_5 : decode cL_append 5 = .ok (.iload_n 2, 1) := by decide +kernel
theorem dL_append_6 : decode cL_append 6 = .ok (.iload_n 3, 1) := by decide +kernel
theorem dL_append_7 : decode cL_append 7 = .ok (.iload 4, 2) := by decide +kernel
theorem dL_append_9 : decode cL_append 9 = .ok (.iload 5, 2) := by decide +kernel
theorem dL_append_11 : decode cL_append 11 = .ok (.invokevirtual 7, 3) := by decide +kernel
theorem dL_append_14 : decode cL_append 14 = .ok (.i2l, 1) := by decide +kernel
theorem dL_append_15 : decode cL_append 15 = .ok (.lastore, 1) := by decide +kernel
theorem dL_append_16 : decode cL_append 16 = .ok (.goto 7, 3) := by decide +kernel
theorem dL_append_19 : decode cL_append 19 = .ok (.astore 7, 2) := by decide +kernel
theorem dL_append_21 : decode cL_append 21 = .ok (.iconst 1, 1) := by decide +kernel
theorem dL_append_22 : decode cL_append 22 = .ok (.ireturn, 1) := by decide +kernel
theorem dL_append_23 : decode cL_append 23 = .ok (.iconst 0, 1) := by decide +kernel
theorem dL_append_24 : decode cL_append 24 = .ok (.ireturn, 1) := by decide +kernel
abbrev M_L_append : aM := (yL_append.cls, cL_append, 8, (some .int), tableOf [(0, 16, 19, 13)], yL_append.name == "<init>")
abbrev J_L_append (l : Launch) (E : aE) (n0 m0 : Nat) := GG (fun (v : Int32) => .inl (some (.int v))) l E M_L_append 7 115 n0 m0
theorem b_L_append {l : Launch} {E : aE} (hl : l.stackTraces = false) (n0 m0 : Nat) (x1 : Nat) (x2 : Int32) (x3 : Int32) (x4 : Int32) (x5 : Int32) (x6 : Int32) (x7 : Nat) (h0 : aH) : J_L_append l E n0 m0 0 [(0, .ref (e_z E + x1)), (1, .int x2), (2, .int x3), (3, .int x4), (4, .int x5), (5, .int x6), (6, .ref (e_z E + x7))] [] h0 (m_L_append x1 x2 x3 x4 x5 x6 x7 h0) := by
  unfold m_L_append
  refine g_aload (pc := 0) dL_append_0 6 rfl ?_
  refine g_iconst (pc := 2) dL_append_2 ci_0 ?_
  refine g_aload_n (pc := 3) dL_append_3 0 rfl ?_
  refine g_iload_n (pc := 4) dL_append_4 1 rfl ?_
  refine g_iload_n (pc := 5) dL_append_5 2 rfl ?_
  refine g_iload_n (pc := 6) dL_append_6 3 rfl ?_
  refine g_iload (pc := 7) dL_append_7 4 rfl ?_
  refine g_iload (pc := 9) dL_append_9 5 rfl ?_
  refine g_gS (fun hs => ?_)
  refine g_bCi (pc := 11) (c_V cl11 hs (p_X11_append hl x1 x2 x3 x4 x5 x6 h0) y_X11_append tw538 dL_append_11 rfl (st := [.int (0 : Int32), .ref (e_z E + x7)]) rfl (Nat.le_of_ble_eq_true rfl) (Nat.le_of_ble_eq_true rfl) (Nat.le_of_ble_eq_true rfl)) (fun x8 h1 => ?_) (fun X11 h2 => ?_)
  · refine g_i2l (pc := 14) dL_append_14 ?_
    refine g_last (pc := 15) dL_append_15 (fun h3 => ?_)
    refine g_goto (pc := 16) (tgt := 23) dL_append_16 rfl ?_
    refine g_iconst (pc := 23) dL_append_23 ci_0 ?_
    exact g_ret (pc := 24) rfl (isRet_i _) dL_append_24 rfl
  · by_cases hX : X11 = "java/lang/IllegalStateException"
    · rw [if_pos hX]
      subst hX
      refine Or.inr ⟨[], ⟨0, 16, 19, 13⟩, [], _, rfl, (fun z hz => nomatch hz), by decide, by decide, tw537, tw544, fun q9 => ?_⟩
      refine g_astore (pc := 19) (lv' := [(7, .ref q9), (0, .ref (e_z E + x1)), (1, .int x2), (2, .int x3), (3, .int x4), (4, .int x5), (5, .int x6), (6, .ref (e_z E + x7))]) dL_append_19 (Nat.le_of_ble_eq_true rfl) rfl ?_
      refine g_iconst (pc := 21) dL_append_21 ci_1 ?_
      exact g_ret (pc := 22) rfl (isRet_i _) dL_append_22 rfl
    · rw [if_neg hX]
      exact Or.inl rfl
theorem p_L_append {l : Launch} {E : aE} (hl : l.stackTraces = false) (x1 : Nat) (x2 : Int32) (x3 : Int32) (x4 : Int32) (x5 : Int32) (x6 : Int32) (x7 : Nat) (h0 : aH) : MO (fun (v : Int32) => .inl (some (.int v))) l E yL_append (.codeWith yL_append cL_append 8 (some .int) [(0, 16, 19, 13)]) 7 115 [.ref (e_z E + x1), .int x2, .int x3, .int x4, .int x5, .int x6, .ref (e_z E + x7)] h0 (m_L_append x1 x2 x3 x4 x5 x6 x7 h0) := g_metH hl (by decide +kernel) (Nat.le_of_ble_eq_true rfl) (b_L_append hl _ _ x1 x2 x3 x4 x5 x6 x7 h0)
theorem dL_truncate_0 : decode cL_truncate 0 = .ok (.aload_n 2, 1) := by decide +kernel
theorem dL_truncate_1 : decode cL_truncate 1 = .ok (.iconst 0, 1) := by decide +kernel
theorem dL_truncate_2 : decode cL_truncate 2 = .ok (.aload_n 0, 1) := by decide +kernel
theorem dL_truncate_3 : decode cL_truncate 3 = .ok (.iload_n 1, 1) := by decide +kernel
theorem dL_truncate_4 : decode cL_truncate 4 = .ok (.invokevirtual 15, 3) := by decide +kernel
theorem dL_truncate_7 : decode cL_truncate 7 = .ok (.i2l, 1) := by decide +kernel
theorem dL_truncate_8 : decode cL_truncate 8 = .ok (.lastore, 1) := by decide +kernel
theorem dL_truncate_9 : decode cL_truncate 9 = .ok (.goto 6, 3) := by decide +kernel
theorem dL_truncate_12 : decode cL_truncate 12 = .ok (.astore_n 3, 1) := by decide +kernel
theorem dL_truncate_13 : decode cL_truncate 13 = .ok (.iconst 1, 1) := by decide +kernel
theorem dL_truncate_14 : decode cL_truncate 14 = .ok (.ireturn, 1) := by decide +kernel
theorem dL_truncate_15 : decode cL_truncate 15 = .ok (.iconst 0, 1) := by decide +kernel
theorem dL_truncate_16 : decode cL_truncate 16 = .ok (.ireturn, 1) := by decide +kernel
abbrev M_L_truncate : aM := (yL_truncate.cls, cL_truncate, 4, (some .int), tableOf [(0, 9, 12, 19)], yL_truncate.name == "<init>")
abbrev J_L_truncate (l : Launch) (E : aE) (n0 m0 : Nat) := GG (fun (v : Int32) => .inl (some (.int v))) l E M_L_truncate 7 111 n0 m0
theorem b_L_truncate {l : Launch} {E : aE} (hl : l.stackTraces = false) (n0 m0 : Nat) (x1 : Nat) (x2 : Int32) (x3 : Nat) (h0 : aH) : J_L_truncate l E n0 m0 0 [(0, .ref (e_z E + x1)), (1, .int x2), (2, .ref (e_z E + x3))] [] h0 (m_L_truncate x1 x2 x3 h0) := by
  unfold m_L_truncate
  refine g_aload_n (pc := 0) dL_truncate_0 2 rfl ?_
  refine g_iconst (pc := 1) dL_truncate_1 ci_0 ?_
  refine g_aload_n (pc := 2) dL_truncate_2 0 rfl ?_
  refine g_iload_n (pc := 3) dL_truncate_3 1 rfl ?_
  refine g_gS (fun hs => ?_)
  refine g_bCi (pc := 4) (c_V cl11 hs (p_X11_truncate hl x1 x2 h0) y_X11_truncate tw618 dL_truncate_4 rfl (st := [.int (0 : Int32), .ref (e_z E + x3)]) rfl (Nat.le_of_ble_eq_true rfl) (Nat.le_of_ble_eq_true rfl) (Nat.le_of_ble_eq_true rfl)) (fun x4 h1 => ?_) (fun X4 h2 => ?_)
  · refine g_i2l (pc := 7) dL_truncate_7 ?_
    refine g_last (pc := 8) dL_truncate_8 (fun h3 => ?_)
    refine g_goto (pc := 9) (tgt := 15) dL_truncate_9 rfl ?_
    refine g_iconst (pc := 15) dL_truncate_15 ci_0 ?_
    exact g_ret (pc := 16) rfl (isRet_i _) dL_truncate_16 rfl
  · by_cases hX : X4 = "java/lang/IndexOutOfBoundsException"
    · rw [if_pos hX]
      subst hX
      refine Or.inr ⟨[], ⟨0, 9, 12, 19⟩, [], _, rfl, (fun z hz => nomatch hz), by decide, by decide, tw617, tw624, fun q5 => ?_⟩
      refine g_astore_n (pc := 12) (lv' := [(3, .ref q5), (0, .ref (e_z E + x1)), (1, .int x2), (2, .ref (e_z E + x3))]) dL_truncate_12 (Nat.le_of_ble_eq_true rfl) rfl ?_
      refine g_iconst (pc := 13) dL_truncate_13 ci_1 ?_
      exact g_ret (pc := 14) rfl (isRet_i _) dL_truncate_14 rfl
    · rw [if_neg hX]
      exact Or.inl rfl
theorem p_L_truncate {l : Launch} {E : aE} (hl : l.stackTraces = false) (x1 : Nat) (x2 : Int32) (x3 : Nat) (h0 : aH) : MO (fun (v : Int32) => .inl (some (.int v))) l E yL_truncate (.codeWith yL_truncate cL_truncate 4 (some .int) [(0, 9, 12, 19)]) 7 111 [.ref (e_z E + x1), .int x2, .ref (e_z E + x3)] h0 (m_L_truncate x1 x2 x3 h0) := g_metH hl (by decide +kernel) (Nat.le_of_ble_eq_true rfl) (b_L_truncate hl _ _ x1 x2 x3 h0)
theorem dL_load_0 : decode cL_load 0 = .ok (.aload_n 1, 1) := by decide +kernel
theorem dL_load_1 : decode cL_load 1 = .ok (.iconst 0, 1) := by decide +kernel
theorem dL_load_2 : decode cL_load 2 = .ok (.aload_n 0, 1) := by decide +kernel
theorem dL_load_3 : decode cL_load 3 = .ok (.invokevirtual 21, 3) := by decide +kernel
theorem dL_load_6 : decode cL_load 6 = .ok (.i2l, 1) := by decide +kernel
theorem dL_load_7 : decode cL_load 7 = .ok (.lastore, 1) := by decide +kernel
theorem dL_load_8 : decode cL_load 8 = .ok (.goto 6, 3) := by decide +kernel
theorem dL_load_11 : decode cL_load 11 = .ok (.astore_n 2, 1) := by decide +kernel
theorem dL_load_12 : decode cL_load 12 = .ok (.iconst 1, 1) := by decide +kernel
theorem dL_load_13 : decode cL_load 13 = .ok (.ireturn, 1) := by decide +kernel
theorem dL_load_14 : decode cL_load 14 = .ok (.iconst 0, 1) := by decide +kernel
theorem dL_load_15 : decode cL_load 15 = .ok (.ireturn, 1) := by decide +kernel
abbrev M_L_load : aM := (yL_load.cls, cL_load, 3, (some .int), tableOf [(0, 8, 11, 25)], yL_load.name == "<init>")
abbrev J_L_load (l : Launch) (E : aE) (n0 m0 : Nat) := GG (fun (v : Int32) => .inl (some (.int v))) l E M_L_load 12 334 n0 m0
theorem b_L_load {l : Launch} {E : aE} (hl : l.stackTraces = false) (n0 m0 : Nat) (x1 : Nat) (x2 : Nat) (h0 : aH) : J_L_load l E n0 m0 0 [(0, .ref (e_z E + x1)), (1, .ref (e_z E + x2))] [] h0 (m_L_load x1 x2 h0) := by
  unfold m_L_load
  refine g_aload_n (pc := 0) dL_load_0 1 rfl ?_
  refine g_iconst (pc := 1) dL_load_1 ci_0 ?_
  refine g_aload_n (pc := 2) dL_load_2 0 rfl ?_
  refine g_gS (fun hs => ?_)
  refine g_bCi (pc := 3) (c_V cl11 hs (p_X11_load hl x1 h0) y_X11_load tw642 dL_load_3 rfl (st := [.int (0 : Int32), .ref (e_z E + x2)]) rfl (Nat.le_of_ble_eq_true rfl) (Nat.le_of_ble_eq_true rfl) (Nat.le_of_ble_eq_true rfl)) (fun x3 h1 => ?_) (fun X3 h2 => ?_)
  · refine g_i2l (pc := 6) dL_load_6 ?_
    refine g_last (pc := 7) dL_load_7 (fun h3 => ?_)
    refine g_goto (pc := 8) (tgt := 14) dL_load_8 rfl ?_
    refine g_iconst (pc := 14) dL_load_14 ci_0 ?_
    exact g_ret (pc := 15) rfl (isRet_i _) dL_load_15 rfl
  · by_cases hX : X3 = "java/lang/IllegalArgumentException"
    · rw [if_pos hX]
      subst hX
      refine Or.inr ⟨[], ⟨0, 8, 11, 25⟩, [], _, rfl, (fun z hz => nomatch hz), by decide, by decide, tw641, tw832, fun q4 => ?_⟩
      refine g_astore_n (pc := 11) (lv' := [(2, .ref q4), (0, .ref (e_z E + x1)), (1, .ref (e_z E + x2))]) dL_load_11 (Nat.le_of_ble_eq_true rfl) rfl ?_
      refine g_iconst (pc := 12) dL_load_12 ci_1 ?_
      exact g_ret (pc := 13) rfl (isRet_i _) dL_load_13 rfl
    · rw [if_neg hX]
      exact Or.inl rfl
theorem p_L_load {l : Launch} {E : aE} (hl : l.stackTraces = false) (x1 : Nat) (x2 : Nat) (h0 : aH) : MO (fun (v : Int32) => .inl (some (.int v))) l E yL_load (.codeWith yL_load cL_load 3 (some .int) [(0, 8, 11, 25)]) 12 334 [.ref (e_z E + x1), .ref (e_z E + x2)] h0 (m_L_load x1 x2 h0) := g_metH hl (by decide +kernel) (Nat.le_of_ble_eq_true rfl) (b_L_load hl _ _ x1 x2 h0)
theorem dL_find_0 : decode cL_find 0 = .ok (.aload_n 2, 1) := by decide +kernel
theorem dL_find_1 : decode cL_find 1 = .ok (.iconst 0, 1) := by decide +kernel
theorem dL_find_2 : decode cL_find 2 = .ok (.aload_n 0, 1) := by decide +kernel
theorem dL_find_3 : decode cL_find 3 = .ok (.iload_n 1, 1) := by decide +kernel
theorem dL_find_4 : decode cL_find 4 = .ok (.invokevirtual 27, 3) := by decide +kernel
theorem dL_find_7 : decode cL_find 7 = .ok (.i2l, 1) := by decide +kernel
theorem dL_find_8 : decode cL_find 8 = .ok (.lastore, 1) := by decide +kernel
theorem dL_find_9 : decode cL_find 9 = .ok (.goto 9, 3) := by decide +kernel
theorem dL_find_12 : decode cL_find 12 = .ok (.astore_n 3, 1) := by decide +kernel
theorem dL_find_13 : decode cL_find 13 = .ok (.iconst 1, 1) := by decide +kernel
theorem dL_find_14 : decode cL_find 14 = .ok (.ireturn, 1) := by decide +kernel
theorem dL_find_15 : decode cL_find 15 = .ok (.astore_n 3, 1) := by decide +kernel
theorem dL_find_16 : decode cL_find 16 = .ok (.iconst 2, 1) := by decide +kernel
theorem dL_find_17 : decode cL_find 17 = .ok (.ireturn, 1) := by decide +kernel
theorem dL_find_18 : decode cL_find 18 = .ok (.iconst 0, 1) := by decide +kernel
theorem dL_find_19 : decode cL_find 19 = .ok (.ireturn, 1) := by decide +kernel
abbrev M_L_find : aM := (yL_find.cls, cL_find, 4, (some .int), tableOf [(0, 9, 12, 25), (0, 9, 15, 30)], yL_find.name == "<init>")
abbrev J_L_find (l : Launch) (E : aE) (n0 m0 : Nat) := GG (fun (v : Int32) => .inl (some (.int v))) l E M_L_find 7 114 n0 m0
theorem b_L_find {l : Launch} {E : aE} (hl : l.stackTraces = false) (n0 m0 : Nat) (x1 : Nat) (x2 : Int32) (x3 : Nat) (h0 : aH) : J_L_find l E n0 m0 0 [(0, .ref (e_z E + x1)), (1, .int x2), (2, .ref (e_z E + x3))] [] h0 (m_L_find x1 x2 x3 h0) := by
  unfold m_L_find
  refine g_aload_n (pc := 0) dL_find_0 2 rfl ?_
  refine g_iconst (pc := 1) dL_find_1 ci_0 ?_
  refine g_aload_n (pc := 2) dL_find_2 0 rfl ?_
  refine g_iload_n (pc := 3) dL_find_3 1 rfl ?_
  refine g_gS (fun hs => ?_)
  refine g_bCi (pc := 4) (c_V cl11 hs (p_X11_find hl x1 x2 h0) y_X11_find tw865 dL_find_4 rfl (st := [.int (0 : Int32), .ref (e_z E + x3)]) rfl (Nat.le_of_ble_eq_true rfl) (Nat.le_of_ble_eq_true rfl) (Nat.le_of_ble_eq_true rfl)) (fun x4 h1 => ?_) (fun X4 h2 => ?_)
  · refine g_i2l (pc := 7) dL_find_7 ?_
    refine g_last (pc := 8) dL_find_8 (fun h3 => ?_)
    refine g_goto (pc := 9) (tgt := 18) dL_find_9 rfl ?_
    refine g_iconst (pc := 18) dL_find_18 ci_0 ?_
    exact g_ret (pc := 19) rfl (isRet_i _) dL_find_19 rfl
  · by_cases hX : X4 = "java/lang/IllegalArgumentException"
    · rw [if_pos hX]
      subst hX
      refine Or.inr ⟨[], ⟨0, 9, 12, 25⟩, [⟨0, 9, 15, 30⟩], _, rfl, (fun z hz => nomatch hz), by decide, by decide, tw641, tw832, fun q5 => ?_⟩
      refine g_astore_n (pc := 12) (lv' := [(3, .ref q5), (0, .ref (e_z E + x1)), (1, .int x2), (2, .ref (e_z E + x3))]) dL_find_12 (Nat.le_of_ble_eq_true rfl) rfl ?_
      refine g_iconst (pc := 13) dL_find_13 ci_1 ?_
      exact g_ret (pc := 14) rfl (isRet_i _) dL_find_14 rfl
    · rw [if_neg hX]
      by_cases hX : X4 = "java/util/NoSuchElementException"
      · rw [if_pos hX]
        subst hX
        refine Or.inr ⟨[⟨0, 9, 12, 25⟩], ⟨0, 9, 15, 30⟩, [], _, rfl, (fun z hz => by cases List.mem_singleton.mp hz; exact Or.inr ⟨by decide, _, tw641, by decide⟩), by decide, by decide, tw864, tw878, fun q6 => ?_⟩
        refine g_astore_n (pc := 15) (lv' := [(3, .ref q6), (0, .ref (e_z E + x1)), (1, .int x2), (2, .ref (e_z E + x3))]) dL_find_15 (Nat.le_of_ble_eq_true rfl) rfl ?_
        refine g_iconst (pc := 16) dL_find_16 ci_2 ?_
        exact g_ret (pc := 17) rfl (isRet_i _) dL_find_17 rfl
      · rw [if_neg hX]
        exact Or.inl rfl
theorem p_L_find {l : Launch} {E : aE} (hl : l.stackTraces = false) (x1 : Nat) (x2 : Int32) (x3 : Nat) (h0 : aH) : MO (fun (v : Int32) => .inl (some (.int v))) l E yL_find (.codeWith yL_find cL_find 4 (some .int) [(0, 9, 12, 25), (0, 9, 15, 30)]) 7 114 [.ref (e_z E + x1), .int x2, .ref (e_z E + x3)] h0 (m_L_find x1 x2 x3 h0) := g_metH hl (by decide +kernel) (Nat.le_of_ble_eq_true rfl) (b_L_find hl _ _ x1 x2 x3 h0)
theorem dL_count_0 : decode cL_count 0 = .ok (.aload_n 2, 1) := by decide +kernel
theorem dL_count_1 : decode cL_count 1 = .ok (.iconst 0, 1) := by decide +kernel
theorem dL_count_2 : decode cL_count 2 = .ok (.aload_n 0, 1) := by decide +kernel
theorem dL_count_3 : decode cL_count 3 = .ok (.iload_n 1, 1) := by decide +kernel
theorem dL_count_4 : decode cL_count 4 = .ok (.invokevirtual 32, 3) := by decide +kernel
theorem dL_count_7 : decode cL_count 7 = .ok (.i2l, 1) := by decide +kernel
theorem dL_count_8 : decode cL_count 8 = .ok (.lastore, 1) := by decide +kernel
theorem dL_count_9 : decode cL_count 9 = .ok (.goto 6, 3) := by decide +kernel
theorem dL_count_12 : decode cL_count 12 = .ok (.astore_n 3, 1) := by decide +kernel
theorem dL_count_13 : decode cL_count 13 = .ok (.iconst 1, 1) := by decide +kernel
theorem dL_count_14 : decode cL_count 14 = .ok (.ireturn, 1) := by decide +kernel
theorem dL_count_15 : decode cL_count 15 = .ok (.iconst 0, 1) := by decide +kernel
theorem dL_count_16 : decode cL_count 16 = .ok (.ireturn, 1) := by decide +kernel
abbrev M_L_count : aM := (yL_count.cls, cL_count, 4, (some .int), tableOf [(0, 9, 12, 25)], yL_count.name == "<init>")
abbrev J_L_count (l : Launch) (E : aE) (n0 m0 : Nat) := GG (fun (v : Int32) => .inl (some (.int v))) l E M_L_count 7 111 n0 m0
theorem b_L_count {l : Launch} {E : aE} (hl : l.stackTraces = false) (n0 m0 : Nat) (x1 : Nat) (x2 : Int32) (x3 : Nat) (h0 : aH) : J_L_count l E n0 m0 0 [(0, .ref (e_z E + x1)), (1, .int x2), (2, .ref (e_z E + x3))] [] h0 (m_L_count x1 x2 x3 h0) := by
  unfold m_L_count
  refine g_aload_n (pc := 0) dL_count_0 2 rfl ?_
  refine g_iconst (pc := 1) dL_count_1 ci_0 ?_
  refine g_aload_n (pc := 2) dL_count_2 0 rfl ?_
  refine g_iload_n (pc := 3) dL_count_3 1 rfl ?_
  refine g_gS (fun hs => ?_)
  refine g_bCi (pc := 4) (c_V cl11 hs (p_X11_count hl x1 x2 h0) y_X11_count tw895 dL_count_4 rfl (st := [.int (0 : Int32), .ref (e_z E + x3)]) rfl (Nat.le_of_ble_eq_true rfl) (Nat.le_of_ble_eq_true rfl) (Nat.le_of_ble_eq_true rfl)) (fun x4 h1 => ?_) (fun X4 h2 => ?_)
  · refine g_i2l (pc := 7) dL_count_7 ?_
    refine g_last (pc := 8) dL_count_8 (fun h3 => ?_)
    refine g_goto (pc := 9) (tgt := 15) dL_count_9 rfl ?_
    refine g_iconst (pc := 15) dL_count_15 ci_0 ?_
    exact g_ret (pc := 16) rfl (isRet_i _) dL_count_16 rfl
  · by_cases hX : X4 = "java/lang/IllegalArgumentException"
    · rw [if_pos hX]
      subst hX
      refine Or.inr ⟨[], ⟨0, 9, 12, 25⟩, [], _, rfl, (fun z hz => nomatch hz), by decide, by decide, tw641, tw832, fun q5 => ?_⟩
      refine g_astore_n (pc := 12) (lv' := [(3, .ref q5), (0, .ref (e_z E + x1)), (1, .int x2), (2, .ref (e_z E + x3))]) dL_count_12 (Nat.le_of_ble_eq_true rfl) rfl ?_
      refine g_iconst (pc := 13) dL_count_13 ci_1 ?_
      exact g_ret (pc := 14) rfl (isRet_i _) dL_count_14 rfl
    · rw [if_neg hX]
      exact Or.inl rfl
theorem p_L_count {l : Launch} {E : aE} (hl : l.stackTraces = false) (x1 : Nat) (x2 : Int32) (x3 : Nat) (h0 : aH) : MO (fun (v : Int32) => .inl (some (.int v))) l E yL_count (.codeWith yL_count cL_count 4 (some .int) [(0, 9, 12, 25)]) 7 111 [.ref (e_z E + x1), .int x2, .ref (e_z E + x3)] h0 (m_L_count x1 x2 x3 h0) := g_metH hl (by decide +kernel) (Nat.le_of_ble_eq_true rfl) (b_L_count hl _ _ x1 x2 x3 h0)
theorem dL_nightMinutes_0 : decode cL_nightMinutes 0 = .ok (.aload_n 3, 1) := by decide +kernel
theorem dL_nightMinutes_1 : decode cL_nightMinutes 1 = .ok (.iconst 0, 1) := by decide +kernel
theorem dL_nightMinutes_2 : decode cL_nightMinutes 2 = .ok (.aload_n 0, 1) := by decide +kernel
theorem dL_nightMinutes_3 : decode cL_nightMinutes 3 = .ok (.iload_n 1, 1) := by decide +kernel
theorem dL_nightMinutes_4 : decode cL_nightMinutes 4 = .ok (.iload_n 2, 1) := by decide +kernel
theorem dL_nightMinutes_5 : decode cL_nightMinutes 5 = .ok (.invokevirtual 35, 3) := by decide +kernel
theorem dL_nightMinutes_8 : decode cL_nightMinutes 8 = .ok (.i2l, 1) := by decide +kernel
theorem dL_nightMinutes_9 : decode cL_nightMinutes 9 = .ok (.lastore, 1) := by decide +kernel
theorem dL_nightMinutes_10 : decode cL_nightMinutes 10 = .ok (.goto 7, 3) := by decide +kernel
theorem dL_nightMinutes_13 : decode cL_nightMinutes 13 = .ok (.astore 4, 2) := by decide +kernel
theorem dL_nightMinutes_15 : decode cL_nightMinutes 15 = .ok (.iconst 1, 1) := by decide +kernel
theorem dL_nightMinutes_16 : decode cL_nightMinutes 16 = .ok (.ireturn, 1) := by decide +kernel
theorem dL_nightMinutes_17 : decode cL_nightMinutes 17 = .ok (.iconst 0, 1) := by decide +kernel
theorem dL_nightMinutes_18 : decode cL_nightMinutes 18 = .ok (.ireturn, 1) := by decide +kernel
abbrev M_L_nightMinutes : aM := (yL_nightMinutes.cls, cL_nightMinutes, 5, (some .int), tableOf [(0, 10, 13, 25)], yL_nightMinutes.name == "<init>")
abbrev J_L_nightMinutes (l : Launch) (E : aE) (n0 m0 : Nat) := GG (fun (v : Int32) => .inl (some (.int v))) l E M_L_nightMinutes 7 112 n0 m0
theorem b_L_nightMinutes {l : Launch} {E : aE} (hl : l.stackTraces = false) (n0 m0 : Nat) (x1 : Nat) (x2 : Int32) (x3 : Int32) (x4 : Nat) (h0 : aH) : J_L_nightMinutes l E n0 m0 0 [(0, .ref (e_z E + x1)), (1, .int x2), (2, .int x3), (3, .ref (e_z E + x4))] [] h0 (m_L_nightMinutes x1 x2 x3 x4 h0) := by
  unfold m_L_nightMinutes
  refine g_aload_n (pc := 0) dL_nightMinutes_0 3 rfl ?_
  refine g_iconst (pc := 1) dL_nightMinutes_1 ci_0 ?_
  refine g_aload_n (pc := 2) dL_nightMinutes_2 0 rfl ?_
  refine g_iload_n (pc := 3) dL_nightMinutes_3 1 rfl ?_
  refine g_iload_n (pc := 4) dL_nightMinutes_4 2 rfl ?_
  refine g_gS (fun hs => ?_)
  refine g_bCi (pc := 5) (c_V cl11 hs (p_X11_nightMinutes hl x1 x2 x3 h0) y_X11_nightMinutes tw903 dL_nightMinutes_5 rfl (st := [.int (0 : Int32), .ref (e_z E + x4)]) rfl (Nat.le_of_ble_eq_true rfl) (Nat.le_of_ble_eq_true rfl) (Nat.le_of_ble_eq_true rfl)) (fun x5 h1 => ?_) (fun X5 h2 => ?_)
  · refine g_i2l (pc := 8) dL_nightMinutes_8 ?_
    refine g_last (pc := 9) dL_nightMinutes_9 (fun h3 => ?_)
    refine g_goto (pc := 10) (tgt := 17) dL_nightMinutes_10 rfl ?_
    refine g_iconst (pc := 17) dL_nightMinutes_17 ci_0 ?_
    exact g_ret (pc := 18) rfl (isRet_i _) dL_nightMinutes_18 rfl
  · by_cases hX : X5 = "java/lang/IllegalArgumentException"
    · rw [if_pos hX]
      subst hX
      refine Or.inr ⟨[], ⟨0, 10, 13, 25⟩, [], _, rfl, (fun z hz => nomatch hz), by decide, by decide, tw641, tw832, fun q6 => ?_⟩
      refine g_astore (pc := 13) (lv' := [(4, .ref q6), (0, .ref (e_z E + x1)), (1, .int x2), (2, .int x3), (3, .ref (e_z E + x4))]) dL_nightMinutes_13 (Nat.le_of_ble_eq_true rfl) rfl ?_
      refine g_iconst (pc := 15) dL_nightMinutes_15 ci_1 ?_
      exact g_ret (pc := 16) rfl (isRet_i _) dL_nightMinutes_16 rfl
    · rw [if_neg hX]
      exact Or.inl rfl
theorem p_L_nightMinutes {l : Launch} {E : aE} (hl : l.stackTraces = false) (x1 : Nat) (x2 : Int32) (x3 : Int32) (x4 : Nat) (h0 : aH) : MO (fun (v : Int32) => .inl (some (.int v))) l E yL_nightMinutes (.codeWith yL_nightMinutes cL_nightMinutes 5 (some .int) [(0, 10, 13, 25)]) 7 112 [.ref (e_z E + x1), .int x2, .int x3, .ref (e_z E + x4)] h0 (m_L_nightMinutes x1 x2 x3 x4 h0) := g_metH hl (by decide +kernel) (Nat.le_of_ble_eq_true rfl) (b_L_nightMinutes hl _ _ x1 x2 x3 x4 h0)
theorem dL_outUntil_0 : decode cL_outUntil 0 = .ok (.aload_n 2, 1) := by decide +kernel
theorem dL_outUntil_1 : decode cL_outUntil 1 = .ok (.iconst 0, 1) := by decide +kernel
theorem dL_outUntil_2 : decode cL_outUntil 2 = .ok (.aload_n 0, 1) := by decide +kernel
theorem dL_outUntil_3 : decode cL_outUntil 3 = .ok (.iload_n 1, 1) := by decide +kernel
theorem dL_outUntil_4 : decode cL_outUntil 4 = .ok (.invokevirtual 39, 3) := by decide +kernel
theorem dL_outUntil_7 : decode cL_outUntil 7 = .ok (.i2l, 1) := by decide +kernel
theorem dL_outUntil_8 : decode cL_outUntil 8 = .ok (.lastore, 1) := by decide +kernel
theorem dL_outUntil_9 : decode cL_outUntil 9 = .ok (.goto 6, 3) := by decide +kernel
theorem dL_outUntil_12 : decode cL_outUntil 12 = .ok (.astore_n 3, 1) := by decide +kernel
theorem dL_outUntil_13 : decode cL_outUntil 13 = .ok (.iconst 1, 1) := by decide +kernel
theorem dL_outUntil_14 : decode cL_outUntil 14 = .ok (.ireturn, 1) := by decide +kernel
theorem dL_outUntil_15 : decode cL_outUntil 15 = .ok (.iconst 0, 1) := by decide +kernel
theorem dL_outUntil_16 : decode cL_outUntil 16 = .ok (.ireturn, 1) := by decide +kernel
abbrev M_L_outUntil : aM := (yL_outUntil.cls, cL_outUntil, 4, (some .int), tableOf [(0, 9, 12, 19)], yL_outUntil.name == "<init>")
abbrev J_L_outUntil (l : Launch) (E : aE) (n0 m0 : Nat) := GG (fun (v : Int32) => .inl (some (.int v))) l E M_L_outUntil 8 132 n0 m0
theorem b_L_outUntil {l : Launch} {E : aE} (hl : l.stackTraces = false) (n0 m0 : Nat) (x1 : Nat) (x2 : Int32) (x3 : Nat) (h0 : aH) : J_L_outUntil l E n0 m0 0 [(0, .ref (e_z E + x1)), (1, .int x2), (2, .ref (e_z E + x3))] [] h0 (m_L_outUntil x1 x2 x3 h0) := by
  unfold m_L_outUntil
  refine g_aload_n (pc := 0) dL_outUntil_0 2 rfl ?_
  refine g_iconst (pc := 1) dL_outUntil_1 ci_0 ?_
  refine g_aload_n (pc := 2) dL_outUntil_2 0 rfl ?_
  refine g_iload_n (pc := 3) dL_outUntil_3 1 rfl ?_
  refine g_gS (fun hs => ?_)
  refine g_bCi (pc := 4) (c_V cl11 hs (p_X11_outUntil hl x1 x2 h0) y_X11_outUntil tw921 dL_outUntil_4 rfl (st := [.int (0 : Int32), .ref (e_z E + x3)]) rfl (Nat.le_of_ble_eq_true rfl) (Nat.le_of_ble_eq_true rfl) (Nat.le_of_ble_eq_true rfl)) (fun x4 h1 => ?_) (fun X4 h2 => ?_)
  · refine g_i2l (pc := 7) dL_outUntil_7 ?_
    refine g_last (pc := 8) dL_outUntil_8 (fun h3 => ?_)
    refine g_goto (pc := 9) (tgt := 15) dL_outUntil_9 rfl ?_
    refine g_iconst (pc := 15) dL_outUntil_15 ci_0 ?_
    exact g_ret (pc := 16) rfl (isRet_i _) dL_outUntil_16 rfl
  · by_cases hX : X4 = "java/lang/IndexOutOfBoundsException"
    · rw [if_pos hX]
      subst hX
      refine Or.inr ⟨[], ⟨0, 9, 12, 19⟩, [], _, rfl, (fun z hz => nomatch hz), by decide, by decide, tw617, tw624, fun q5 => ?_⟩
      refine g_astore_n (pc := 12) (lv' := [(3, .ref q5), (0, .ref (e_z E + x1)), (1, .int x2), (2, .ref (e_z E + x3))]) dL_outUntil_12 (Nat.le_of_ble_eq_true rfl) rfl ?_
      refine g_iconst (pc := 13) dL_outUntil_13 ci_1 ?_
      exact g_ret (pc := 14) rfl (isRet_i _) dL_outUntil_14 rfl
    · rw [if_neg hX]
      exact Or.inl rfl
theorem p_L_outUntil {l : Launch} {E : aE} (hl : l.stackTraces = false) (x1 : Nat) (x2 : Int32) (x3 : Nat) (h0 : aH) : MO (fun (v : Int32) => .inl (some (.int v))) l E yL_outUntil (.codeWith yL_outUntil cL_outUntil 4 (some .int) [(0, 9, 12, 19)]) 8 132 [.ref (e_z E + x1), .int x2, .ref (e_z E + x3)] h0 (m_L_outUntil x1 x2 x3 h0) := g_metH hl (by decide +kernel) (Nat.le_of_ble_eq_true rfl) (b_L_outUntil hl _ _ x1 x2 x3 h0)
theorem dL_lostSleep_0 : decode cL_lostSleep 0 = .ok (.aload_n 2, 1) := by decide +kernel
theorem dL_lostSleep_1 : decode cL_lostSleep 1 = .ok (.iconst 0, 1) := by decide +kernel
theorem dL_lostSleep_2 : decode cL_lostSleep 2 = .ok (.aload_n 0, 1) := by decide +kernel
theorem dL_lostSleep_3 : decode cL_lostSleep 3 = .ok (.iload_n 1, 1) := by decide +kernel
theorem dL_lostSleep_4 : decode cL_lostSleep 4 = .ok (.invokevirtual 42, 3) := by decide +kernel
theorem dL_lostSleep_7 : decode cL_lostSleep 7 = .ok (.i2l, 1) := by decide +kernel
theorem dL_lostSleep_8 : decode cL_lostSleep 8 = .ok (.lastore, 1) := by decide +kernel
theorem dL_lostSleep_9 : decode cL_lostSleep 9 = .ok (.goto 6, 3) := by decide +kernel
theorem dL_lostSleep_12 : decode cL_lostSleep 12 = .ok (.astore_n 3, 1) := by decide +kernel
theorem dL_lostSleep_13 : decode cL_lostSleep 13 = .ok (.iconst 1, 1) := by decide +kernel
theorem dL_lostSleep_14 : decode cL_lostSleep 14 = .ok (.ireturn, 1) := by decide +kernel
theorem dL_lostSleep_15 : decode cL_lostSleep 15 = .ok (.iconst 0, 1) := by decide +kernel
theorem dL_lostSleep_16 : decode cL_lostSleep 16 = .ok (.ireturn, 1) := by decide +kernel
abbrev M_L_lostSleep : aM := (yL_lostSleep.cls, cL_lostSleep, 4, (some .int), tableOf [(0, 9, 12, 19)], yL_lostSleep.name == "<init>")
abbrev J_L_lostSleep (l : Launch) (E : aE) (n0 m0 : Nat) := GG (fun (v : Int32) => .inl (some (.int v))) l E M_L_lostSleep 8 132 n0 m0
theorem b_L_lostSleep {l : Launch} {E : aE} (hl : l.stackTraces = false) (n0 m0 : Nat) (x1 : Nat) (x2 : Int32) (x3 : Nat) (h0 : aH) : J_L_lostSleep l E n0 m0 0 [(0, .ref (e_z E + x1)), (1, .int x2), (2, .ref (e_z E + x3))] [] h0 (m_L_lostSleep x1 x2 x3 h0) := by
  unfold m_L_lostSleep
  refine g_aload_n (pc := 0) dL_lostSleep_0 2 rfl ?_
  refine g_iconst (pc := 1) dL_lostSleep_1 ci_0 ?_
  refine g_aload_n (pc := 2) dL_lostSleep_2 0 rfl ?_
  refine g_iload_n (pc := 3) dL_lostSleep_3 1 rfl ?_
  refine g_gS (fun hs => ?_)
  refine g_bCi (pc := 4) (c_V cl11 hs (p_X11_lostSleep hl x1 x2 h0) y_X11_lostSleep tw937 dL_lostSleep_4 rfl (st := [.int (0 : Int32), .ref (e_z E + x3)]) rfl (Nat.le_of_ble_eq_true rfl) (Nat.le_of_ble_eq_true rfl) (Nat.le_of_ble_eq_true rfl)) (fun x4 h1 => ?_) (fun X4 h2 => ?_)
  · refine g_i2l (pc := 7) dL_lostSleep_7 ?_
    refine g_last (pc := 8) dL_lostSleep_8 (fun h3 => ?_)
    refine g_goto (pc := 9) (tgt := 15) dL_lostSleep_9 rfl ?_
    refine g_iconst (pc := 15) dL_lostSleep_15 ci_0 ?_
    exact g_ret (pc := 16) rfl (isRet_i _) dL_lostSleep_16 rfl
  · by_cases hX : X4 = "java/lang/IndexOutOfBoundsException"
    · rw [if_pos hX]
      subst hX
      refine Or.inr ⟨[], ⟨0, 9, 12, 19⟩, [], _, rfl, (fun z hz => nomatch hz), by decide, by decide, tw617, tw624, fun q5 => ?_⟩
      refine g_astore_n (pc := 12) (lv' := [(3, .ref q5), (0, .ref (e_z E + x1)), (1, .int x2), (2, .ref (e_z E + x3))]) dL_lostSleep_12 (Nat.le_of_ble_eq_true rfl) rfl ?_
      refine g_iconst (pc := 13) dL_lostSleep_13 ci_1 ?_
      exact g_ret (pc := 14) rfl (isRet_i _) dL_lostSleep_14 rfl
    · rw [if_neg hX]
      exact Or.inl rfl
theorem p_L_lostSleep {l : Launch} {E : aE} (hl : l.stackTraces = false) (x1 : Nat) (x2 : Int32) (x3 : Nat) (h0 : aH) : MO (fun (v : Int32) => .inl (some (.int v))) l E yL_lostSleep (.codeWith yL_lostSleep cL_lostSleep 4 (some .int) [(0, 9, 12, 19)]) 8 132 [.ref (e_z E + x1), .int x2, .ref (e_z E + x3)] h0 (m_L_lostSleep x1 x2 x3 h0) := g_metH hl (by decide +kernel) (Nat.le_of_ble_eq_true rfl) (b_L_lostSleep hl _ _ x1 x2 x3 h0)
theorem dL_lostSleepAfter_0 : decode cL_lostSleepAfter 0 = .ok (.aload_n 3, 1) := by decide +kernel
theorem dL_lostSleepAfter_1 : decode cL_lostSleepAfter 1 = .ok (.iconst 0, 1) := by decide +kernel
theorem dL_lostSleepAfter_2 : decode cL_lostSleepAfter 2 = .ok (.aload_n 0, 1) := by decide +kernel
theorem dL_lostSleepAfter_3 : decode cL_lostSleepAfter 3 = .ok (.iload_n 1, 1) := by decide +kernel
theorem dL_lostSleepAfter_4 : decode cL_lostSleepAfter 4 = .ok (.iload_n 2, 1) := by decide +kernel
theorem dL_lostSleepAfter_5 : decode cL_lostSleepAfter 5 = .ok (.invokevirtual 45, 3) := by decide +kernel
theorem dL_lostSleepAfter_8 : decode cL_lostSleepAfter 8 = .ok (.i2l, 1) := by decide +kernel
theorem dL_lostSleepAfter_9 : decode cL_lostSleepAfter 9 = .ok (.lastore, 1) := by decide +kernel
theorem dL_lostSleepAfter_10 : decode cL_lostSleepAfter 10 = .ok (.goto 11, 3) := by decide +kernel
theorem dL_lostSleepAfter_13 : decode cL_lostSleepAfter 13 = .ok (.astore 4, 2) := by decide +kernel
theorem dL_lostSleepAfter_15 : decode cL_lostSleepAfter 15 = .ok (.iconst 1, 1) := by decide +kernel
theorem dL_lostSleepAfter_16 : decode cL_lostSleepAfter 16 = .ok (.ireturn, 1) := by decide +kernel
theorem dL_lostSleepAfter_17 : decode cL_lostSleepAfter 17 = .ok (.astore 4, 2) := by decide +kernel
theorem dL_lostSleepAfter_19 : decode cL_lostSleepAfter 19 = .ok (.iconst 2, 1) := by decide +kernel
theorem dL_lostSleepAfter_20 : decode cL_lostSleepAfter 20 = .ok (.ireturn, 1) := by decide +kernel
theorem dL_lostSleepAfter_21 : decode cL_lostSleepAfter 21 = .ok (.iconst 0, 1) := by decide +kernel
theorem dL_lostSleepAfter_22 : decode cL_lostSleepAfter 22 = .ok (.ireturn, 1) := by decide +kernel
abbrev M_L_lostSleepAfter : aM := (yL_lostSleepAfter.cls, cL_lostSleepAfter, 5, (some .int), tableOf [(0, 10, 13, 19), (0, 10, 17, 25)], yL_lostSleepAfter.name == "<init>")
abbrev J_L_lostSleepAfter (l : Launch) (E : aE) (n0 m0 : Nat) := GG (fun (v : Int32) => .inl (some (.int v))) l E M_L_lostSleepAfter 8 133 n0 m0
theorem b_L_lostSleepAfter {l : Launch} {E : aE} (hl : l.stackTraces = false) (n0 m0 : Nat) (x1 : Nat) (x2 : Int32) (x3 : Int32) (x4 : Nat) (h0 : aH) : J_L_lostSleepAfter l E n0 m0 0 [(0, .ref (e_z E + x1)), (1, .int x2), (2, .int x3), (3, .ref (e_z E + x4))] [] h0 (m_L_lostSleepAfter x1 x2 x3 x4 h0) := by
  unfold m_L_lostSleepAfter
  refine g_aload_n (pc := 0) dL_lostSleepAfter_0 3 rfl ?_
  refine g_iconst (pc := 1) dL_lostSleepAfter_1 ci_0 ?_
  refine g_aload_n (pc := 2) dL_lostSleepAfter_2 0 rfl ?_
  refine g_iload_n (pc := 3) dL_lostSleepAfter_3 1 rfl ?_
  refine g_iload_n (pc := 4) dL_lostSleepAfter_4 2 rfl ?_
  refine g_gS (fun hs => ?_)
  refine g_bCi (pc := 5) (c_V cl11 hs (p_X11_lostSleepAfter hl x1 x2 x3 h0) y_X11_lostSleepAfter tw944 dL_lostSleepAfter_5 rfl (st := [.int (0 : Int32), .ref (e_z E + x4)]) rfl (Nat.le_of_ble_eq_true rfl) (Nat.le_of_ble_eq_true rfl) (Nat.le_of_ble_eq_true rfl)) (fun x5 h1 => ?_) (fun X5 h2 => ?_)
  · refine g_i2l (pc := 8) dL_lostSleepAfter_8 ?_
    refine g_last (pc := 9) dL_lostSleepAfter_9 (fun h3 => ?_)
    refine g_goto (pc := 10) (tgt := 21) dL_lostSleepAfter_10 rfl ?_
    refine g_iconst (pc := 21) dL_lostSleepAfter_21 ci_0 ?_
    exact g_ret (pc := 22) rfl (isRet_i _) dL_lostSleepAfter_22 rfl
  · by_cases hX : X5 = "java/lang/IndexOutOfBoundsException"
    · rw [if_pos hX]
      subst hX
      refine Or.inr ⟨[], ⟨0, 10, 13, 19⟩, [⟨0, 10, 17, 25⟩], _, rfl, (fun z hz => nomatch hz), by decide, by decide, tw617, tw624, fun q6 => ?_⟩
      refine g_astore (pc := 13) (lv' := [(4, .ref q6), (0, .ref (e_z E + x1)), (1, .int x2), (2, .int x3), (3, .ref (e_z E + x4))]) dL_lostSleepAfter_13 (Nat.le_of_ble_eq_true rfl) rfl ?_
      refine g_iconst (pc := 15) dL_lostSleepAfter_15 ci_1 ?_
      exact g_ret (pc := 16) rfl (isRet_i _) dL_lostSleepAfter_16 rfl
    · rw [if_neg hX]
      by_cases hX : X5 = "java/lang/IllegalArgumentException"
      · rw [if_pos hX]
        subst hX
        refine Or.inr ⟨[⟨0, 10, 13, 19⟩], ⟨0, 10, 17, 25⟩, [], _, rfl, (fun z hz => by cases List.mem_singleton.mp hz; exact Or.inr ⟨by decide, _, tw617, by decide⟩), by decide, by decide, tw641, tw832, fun q7 => ?_⟩
        refine g_astore (pc := 17) (lv' := [(4, .ref q7), (0, .ref (e_z E + x1)), (1, .int x2), (2, .int x3), (3, .ref (e_z E + x4))]) dL_lostSleepAfter_17 (Nat.le_of_ble_eq_true rfl) rfl ?_
        refine g_iconst (pc := 19) dL_lostSleepAfter_19 ci_2 ?_
        exact g_ret (pc := 20) rfl (isRet_i _) dL_lostSleepAfter_20 rfl
      · rw [if_neg hX]
        exact Or.inl rfl
theorem p_L_lostSleepAfter {l : Launch} {E : aE} (hl : l.stackTraces = false) (x1 : Nat) (x2 : Int32) (x3 : Int32) (x4 : Nat) (h0 : aH) : MO (fun (v : Int32) => .inl (some (.int v))) l E yL_lostSleepAfter (.codeWith yL_lostSleepAfter cL_lostSleepAfter 5 (some .int) [(0, 10, 13, 19), (0, 10, 17, 25)]) 8 133 [.ref (e_z E + x1), .int x2, .int x3, .ref (e_z E + x4)] h0 (m_L_lostSleepAfter x1 x2 x3 x4 h0) := g_metH hl (by decide +kernel) (Nat.le_of_ble_eq_true rfl) (b_L_lostSleepAfter hl _ _ x1 x2 x3 x4 h0)
theorem dL_restedAt_0 : decode cL_restedAt 0 = .ok (.aload_n 2, 1) := by decide +kernel
theorem dL_restedAt_1 : decode cL_restedAt 1 = .ok (.iconst 0, 1) := by decide +kernel
theorem dL_restedAt_2 : decode cL_restedAt 2 = .ok (.aload_n 0, 1) := by decide +kernel
theorem dL_restedAt_3 : decode cL_restedAt 3 = .ok (.iload_n 1, 1) := by decide +kernel
theorem dL_restedAt_4 : decode cL_restedAt 4 = .ok (.invokevirtual 48, 3) := by decide +kernel
theorem dL_restedAt_7 : decode cL_restedAt 7 = .ok (.i2l, 1) := by decide +kernel
theorem dL_restedAt_8 : decode cL_restedAt 8 = .ok (.lastore, 1) := by decide +kernel
theorem dL_restedAt_9 : decode cL_restedAt 9 = .ok (.goto 9, 3) := by decide +kernel
theorem dL_restedAt_12 : decode cL_restedAt 12 = .ok (.astore_n 3, 1) := by decide +kernel
theorem dL_restedAt_13 : decode cL_restedAt 13 = .ok (.iconst 1, 1) := by decide +kernel
theorem dL_restedAt_14 : decode cL_restedAt 14 = .ok (.ireturn, 1) := by decide +kernel
theorem dL_restedAt_15 : decode cL_restedAt 15 = .ok (.astore_n 3, 1) := by decide +kernel
theorem dL_restedAt_16 : decode cL_restedAt 16 = .ok (.iconst 2, 1) := by decide +kernel
theorem dL_restedAt_17 : decode cL_restedAt 17 = .ok (.ireturn, 1) := by decide +kernel
theorem dL_restedAt_18 : decode cL_restedAt 18 = .ok (.iconst 0, 1) := by decide +kernel
theorem dL_restedAt_19 : decode cL_restedAt 19 = .ok (.ireturn, 1) := by decide +kernel
abbrev M_L_restedAt : aM := (yL_restedAt.cls, cL_restedAt, 4, (some .int), tableOf [(0, 9, 12, 19), (0, 9, 15, 30)], yL_restedAt.name == "<init>")
abbrev J_L_restedAt (l : Launch) (E : aE) (n0 m0 : Nat) := GG (fun (v : Int32) => .inl (some (.int v))) l E M_L_restedAt 8 147 n0 m0
theorem b_L_restedAt {l : Launch} {E : aE} (hl : l.stackTraces = false) (n0 m0 : Nat) (x1 : Nat) (x2 : Int32) (x3 : Nat) (h0 : aH) : J_L_restedAt l E n0 m0 0 [(0, .ref (e_z E + x1)), (1, .int x2), (2, .ref (e_z E + x3))] [] h0 (m_L_restedAt x1 x2 x3 h0) := by
  unfold m_L_restedAt
  refine g_aload_n (pc := 0) dL_restedAt_0 2 rfl ?_
  refine g_iconst (pc := 1) dL_restedAt_1 ci_0 ?_
  refine g_aload_n (pc := 2) dL_restedAt_2 0 rfl ?_
  refine g_iload_n (pc := 3) dL_restedAt_3 1 rfl ?_
  refine g_gS (fun hs => ?_)
  refine g_bCi (pc := 4) (c_V cl11 hs (p_X11_restedAt hl x1 x2 h0) y_X11_restedAt tw958 dL_restedAt_4 rfl (st := [.int (0 : Int32), .ref (e_z E + x3)]) rfl (Nat.le_of_ble_eq_true rfl) (Nat.le_of_ble_eq_true rfl) (Nat.le_of_ble_eq_true rfl)) (fun x4 h1 => ?_) (fun X4 h2 => ?_)
  · refine g_i2l (pc := 7) dL_restedAt_7 ?_
    refine g_last (pc := 8) dL_restedAt_8 (fun h3 => ?_)
    refine g_goto (pc := 9) (tgt := 18) dL_restedAt_9 rfl ?_
    refine g_iconst (pc := 18) dL_restedAt_18 ci_0 ?_
    exact g_ret (pc := 19) rfl (isRet_i _) dL_restedAt_19 rfl
  · by_cases hX : X4 = "java/lang/IndexOutOfBoundsException"
    · rw [if_pos hX]
      subst hX
      refine Or.inr ⟨[], ⟨0, 9, 12, 19⟩, [⟨0, 9, 15, 30⟩], _, rfl, (fun z hz => nomatch hz), by decide, by decide, tw617, tw624, fun q5 => ?_⟩
      refine g_astore_n (pc := 12) (lv' := [(3, .ref q5), (0, .ref (e_z E + x1)), (1, .int x2), (2, .ref (e_z E + x3))]) dL_restedAt_12 (Nat.le_of_ble_eq_true rfl) rfl ?_
      refine g_iconst (pc := 13) dL_restedAt_13 ci_1 ?_
      exact g_ret (pc := 14) rfl (isRet_i _) dL_restedAt_14 rfl
    · rw [if_neg hX]
      by_cases hX : X4 = "java/util/NoSuchElementException"
      · rw [if_pos hX]
        subst hX
        refine Or.inr ⟨[⟨0, 9, 12, 19⟩], ⟨0, 9, 15, 30⟩, [], _, rfl, (fun z hz => by cases List.mem_singleton.mp hz; exact Or.inr ⟨by decide, _, tw617, by decide⟩), by decide, by decide, tw864, tw878, fun q6 => ?_⟩
        refine g_astore_n (pc := 15) (lv' := [(3, .ref q6), (0, .ref (e_z E + x1)), (1, .int x2), (2, .ref (e_z E + x3))]) dL_restedAt_15 (Nat.le_of_ble_eq_true rfl) rfl ?_
        refine g_iconst (pc := 16) dL_restedAt_16 ci_2 ?_
        exact g_ret (pc := 17) rfl (isRet_i _) dL_restedAt_17 rfl
      · rw [if_neg hX]
        exact Or.inl rfl
theorem p_L_restedAt {l : Launch} {E : aE} (hl : l.stackTraces = false) (x1 : Nat) (x2 : Int32) (x3 : Nat) (h0 : aH) : MO (fun (v : Int32) => .inl (some (.int v))) l E yL_restedAt (.codeWith yL_restedAt cL_restedAt 4 (some .int) [(0, 9, 12, 19), (0, 9, 15, 30)]) 8 147 [.ref (e_z E + x1), .int x2, .ref (e_z E + x3)] h0 (m_L_restedAt x1 x2 x3 h0) := g_metH hl (by decide +kernel) (Nat.le_of_ble_eq_true rfl) (b_L_restedAt hl _ _ x1 x2 x3 h0)
theorem dL_arrival_0 : decode cL_arrival 0 = .ok (.aload_n 2, 1) := by decide +kernel
theorem dL_arrival_1 : decode cL_arrival 1 = .ok (.iconst 0, 1) := by decide +kernel
theorem dL_arrival_2 : decode cL_arrival 2 = .ok (.aload_n 0, 1) := by decide +kernel
theorem dL_arrival_3 : decode cL_arrival 3 = .ok (.iload_n 1, 1) := by decide +kernel
theorem dL_arrival_4 : decode cL_arrival 4 = .ok (.invokevirtual 51, 3) := by decide +kernel
theorem dL_arrival_7 : decode cL_arrival 7 = .ok (.i2l, 1) := by decide +kernel
theorem dL_arrival_8 : decode cL_arrival 8 = .ok (.lastore, 1) := by decide +kernel
theorem dL_arrival_9 : decode cL_arrival 9 = .ok (.goto 6, 3) := by decide +kernel
theorem dL_arrival_12 : decode cL_arrival 12 = .ok (.astore_n 3, 1) := by decide +kernel
theorem dL_arrival_13 : decode cL_arrival 13 = .ok (.iconst 1, 1) := by decide +kernel
theorem dL_arrival_14 : decode cL_arrival 14 = .ok (.ireturn, 1) := by decide +kernel
theorem dL_arrival_15 : decode cL_arrival 15 = .ok (.iconst 0, 1) := by decide +kernel
theorem dL_arrival_16 : decode cL_arrival 16 = .ok (.ireturn, 1) := by decide +kernel
abbrev M_L_arrival : aM := (yL_arrival.cls, cL_arrival, 4, (some .int), tableOf [(0, 9, 12, 19)], yL_arrival.name == "<init>")
abbrev J_L_arrival (l : Launch) (E : aE) (n0 m0 : Nat) := GG (fun (v : Int32) => .inl (some (.int v))) l E M_L_arrival 8 132 n0 m0
theorem b_L_arrival {l : Launch} {E : aE} (hl : l.stackTraces = false) (n0 m0 : Nat) (x1 : Nat) (x2 : Int32) (x3 : Nat) (h0 : aH) : J_L_arrival l E n0 m0 0 [(0, .ref (e_z E + x1)), (1, .int x2), (2, .ref (e_z E + x3))] [] h0 (m_L_arrival x1 x2 x3 h0) := by
  unfold m_L_arrival
  refine g_aload_n (pc := 0) dL_arrival_0 2 rfl ?_
  refine g_iconst (pc := 1) dL_arrival_1 ci_0 ?_
  refine g_aload_n (pc := 2) dL_arrival_2 0 rfl ?_
  refine g_iload_n (pc := 3) dL_arrival_3 1 rfl ?_
  refine g_gS (fun hs => ?_)
  refine g_bCi (pc := 4) (c_V cl11 hs (p_X11_arrival hl x1 x2 h0) y_X11_arrival tw975 dL_arrival_4 rfl (st := [.int (0 : Int32), .ref (e_z E + x3)]) rfl (Nat.le_of_ble_eq_true rfl) (Nat.le_of_ble_eq_true rfl) (Nat.le_of_ble_eq_true rfl)) (fun x4 h1 => ?_) (fun X4 h2 => ?_)
  · refine g_i2l (pc := 7) dL_arrival_7 ?_
    refine g_last (pc := 8) dL_arrival_8 (fun h3 => ?_)
    refine g_goto (pc := 9) (tgt := 15) dL_arrival_9 rfl ?_
    refine g_iconst (pc := 15) dL_arrival_15 ci_0 ?_
    exact g_ret (pc := 16) rfl (isRet_i _) dL_arrival_16 rfl
  · by_cases hX : X4 = "java/lang/IndexOutOfBoundsException"
    · rw [if_pos hX]
      subst hX
      refine Or.inr ⟨[], ⟨0, 9, 12, 19⟩, [], _, rfl, (fun z hz => nomatch hz), by decide, by decide, tw617, tw624, fun q5 => ?_⟩
      refine g_astore_n (pc := 12) (lv' := [(3, .ref q5), (0, .ref (e_z E + x1)), (1, .int x2), (2, .ref (e_z E + x3))]) dL_arrival_12 (Nat.le_of_ble_eq_true rfl) rfl ?_
      refine g_iconst (pc := 13) dL_arrival_13 ci_1 ?_
      exact g_ret (pc := 14) rfl (isRet_i _) dL_arrival_14 rfl
    · rw [if_neg hX]
      exact Or.inl rfl
theorem p_L_arrival {l : Launch} {E : aE} (hl : l.stackTraces = false) (x1 : Nat) (x2 : Int32) (x3 : Nat) (h0 : aH) : MO (fun (v : Int32) => .inl (some (.int v))) l E yL_arrival (.codeWith yL_arrival cL_arrival 4 (some .int) [(0, 9, 12, 19)]) 8 132 [.ref (e_z E + x1), .int x2, .ref (e_z E + x3)] h0 (m_L_arrival x1 x2 x3 h0) := g_metH hl (by decide +kernel) (Nat.le_of_ble_eq_true rfl) (b_L_arrival hl _ _ x1 x2 x3 h0)
theorem dL_pay_0 : decode cL_pay 0 = .ok (.aload_n 2, 1) := by decide +kernel
theorem dL_pay_1 : decode cL_pay 1 = .ok (.iconst 0, 1) := by decide +kernel
theorem dL_pay_2 : decode cL_pay 2 = .ok (.aload_n 0, 1) := by decide +kernel
theorem dL_pay_3 : decode cL_pay 3 = .ok (.iload_n 1, 1) := by decide +kernel
theorem dL_pay_4 : decode cL_pay 4 = .ok (.invokevirtual 54, 3) := by decide +kernel
theorem dL_pay_7 : decode cL_pay 7 = .ok (.i2l, 1) := by decide +kernel
theorem dL_pay_8 : decode cL_pay 8 = .ok (.lastore, 1) := by decide +kernel
theorem dL_pay_9 : decode cL_pay 9 = .ok (.goto 6, 3) := by decide +kernel
theorem dL_pay_12 : decode cL_pay 12 = .ok (.astore_n 3, 1) := by decide +kernel
theorem dL_pay_13 : decode cL_pay 13 = .ok (.iconst 1, 1) := by decide +kernel
theorem dL_pay_14 : decode cL_pay 14 = .ok (.ireturn, 1) := by decide +kernel
theorem dL_pay_15 : decode cL_pay 15 = .ok (.iconst 0, 1) := by decide +kernel
theorem dL_pay_16 : decode cL_pay 16 = .ok (.ireturn, 1) := by decide +kernel
abbrev M_L_pay : aM := (yL_pay.cls, cL_pay, 4, (some .int), tableOf [(0, 9, 12, 19)], yL_pay.name == "<init>")
abbrev J_L_pay (l : Launch) (E : aE) (n0 m0 : Nat) := GG (fun (v : Int32) => .inl (some (.int v))) l E M_L_pay 8 132 n0 m0
theorem b_L_pay {l : Launch} {E : aE} (hl : l.stackTraces = false) (n0 m0 : Nat) (x1 : Nat) (x2 : Int32) (x3 : Nat) (h0 : aH) : J_L_pay l E n0 m0 0 [(0, .ref (e_z E + x1)), (1, .int x2), (2, .ref (e_z E + x3))] [] h0 (m_L_pay x1 x2 x3 h0) := by
  unfold m_L_pay
  refine g_aload_n (pc := 0) dL_pay_0 2 rfl ?_
  refine g_iconst (pc := 1) dL_pay_1 ci_0 ?_
  refine g_aload_n (pc := 2) dL_pay_2 0 rfl ?_
  refine g_iload_n (pc := 3) dL_pay_3 1 rfl ?_
  refine g_gS (fun hs => ?_)
  refine g_bCi (pc := 4) (c_V cl11 hs (p_X11_pay hl x1 x2 h0) y_X11_pay tw990 dL_pay_4 rfl (st := [.int (0 : Int32), .ref (e_z E + x3)]) rfl (Nat.le_of_ble_eq_true rfl) (Nat.le_of_ble_eq_true rfl) (Nat.le_of_ble_eq_true rfl)) (fun x4 h1 => ?_) (fun X4 h2 => ?_)
  · refine g_i2l (pc := 7) dL_pay_7 ?_
    refine g_last (pc := 8) dL_pay_8 (fun h3 => ?_)
    refine g_goto (pc := 9) (tgt := 15) dL_pay_9 rfl ?_
    refine g_iconst (pc := 15) dL_pay_15 ci_0 ?_
    exact g_ret (pc := 16) rfl (isRet_i _) dL_pay_16 rfl
  · by_cases hX : X4 = "java/lang/IndexOutOfBoundsException"
    · rw [if_pos hX]
      subst hX
      refine Or.inr ⟨[], ⟨0, 9, 12, 19⟩, [], _, rfl, (fun z hz => nomatch hz), by decide, by decide, tw617, tw624, fun q5 => ?_⟩
      refine g_astore_n (pc := 12) (lv' := [(3, .ref q5), (0, .ref (e_z E + x1)), (1, .int x2), (2, .ref (e_z E + x3))]) dL_pay_12 (Nat.le_of_ble_eq_true rfl) rfl ?_
      refine g_iconst (pc := 13) dL_pay_13 ci_1 ?_
      exact g_ret (pc := 14) rfl (isRet_i _) dL_pay_14 rfl
    · rw [if_neg hX]
      exact Or.inl rfl
theorem p_L_pay {l : Launch} {E : aE} (hl : l.stackTraces = false) (x1 : Nat) (x2 : Int32) (x3 : Nat) (h0 : aH) : MO (fun (v : Int32) => .inl (some (.int v))) l E yL_pay (.codeWith yL_pay cL_pay 4 (some .int) [(0, 9, 12, 19)]) 8 132 [.ref (e_z E + x1), .int x2, .ref (e_z E + x3)] h0 (m_L_pay x1 x2 x3 h0) := g_metH hl (by decide +kernel) (Nat.le_of_ble_eq_true rfl) (b_L_pay hl _ _ x1 x2 x3 h0)
theorem dL_trust_0 : decode cL_trust 0 = .ok (.aload_n 3, 1) := by decide +kernel
theorem dL_trust_1 : decode cL_trust 1 = .ok (.iconst 0, 1) := by decide +kernel
theorem dL_trust_2 : decode cL_trust 2 = .ok (.aload_n 0, 1) := by decide +kernel
theorem dL_trust_3 : decode cL_trust 3 = .ok (.iload_n 1, 1) := by decide +kernel
theorem dL_trust_4 : decode cL_trust 4 = .ok (.iload_n 2, 1) := by decide +kernel
theorem dL_trust_5 : decode cL_trust 5 = .ok (.invokevirtual 57, 3) := by decide +kernel
theorem dL_trust_8 : decode cL_trust 8 = .ok (.i2l, 1) := by decide +kernel
theorem dL_trust_9 : decode cL_trust 9 = .ok (.lastore, 1) := by decide +kernel
theorem dL_trust_10 : decode cL_trust 10 = .ok (.goto 11, 3) := by decide +kernel
theorem dL_trust_13 : decode cL_trust 13 = .ok (.astore 4, 2) := by decide +kernel
theorem dL_trust_15 : decode cL_trust 15 = .ok (.iconst 1, 1) := by decide +kernel
theorem dL_trust_16 : decode cL_trust 16 = .ok (.ireturn, 1) := by decide +kernel
theorem dL_trust_17 : decode cL_trust 17 = .ok (.astore 4, 2) := by decide +kernel
theorem dL_trust_19 : decode cL_trust 19 = .ok (.iconst 2, 1) := by decide +kernel
theorem dL_trust_20 : decode cL_trust 20 = .ok (.ireturn, 1) := by decide +kernel
theorem dL_trust_21 : decode cL_trust 21 = .ok (.iconst 0, 1) := by decide +kernel
theorem dL_trust_22 : decode cL_trust 22 = .ok (.ireturn, 1) := by decide +kernel
abbrev M_L_trust : aM := (yL_trust.cls, cL_trust, 5, (some .int), tableOf [(0, 10, 13, 19), (0, 10, 17, 25)], yL_trust.name == "<init>")
abbrev J_L_trust (l : Launch) (E : aE) (n0 m0 : Nat) := GG (fun (v : Int32) => .inl (some (.int v))) l E M_L_trust 9 155 n0 m0
theorem b_L_trust {l : Launch} {E : aE} (hl : l.stackTraces = false) (n0 m0 : Nat) (x1 : Nat) (x2 : Int32) (x3 : Int32) (x4 : Nat) (h0 : aH) : J_L_trust l E n0 m0 0 [(0, .ref (e_z E + x1)), (1, .int x2), (2, .int x3), (3, .ref (e_z E + x4))] [] h0 (m_L_trust x1 x2 x3 x4 h0) := by
  unfold m_L_trust
  refine g_aload_n (pc := 0) dL_trust_0 3 rfl ?_
  refine g_iconst (pc := 1) dL_trust_1 ci_0 ?_
  refine g_aload_n (pc := 2) dL_trust_2 0 rfl ?_
  refine g_iload_n (pc := 3) dL_trust_3 1 rfl ?_
  refine g_iload_n (pc := 4) dL_trust_4 2 rfl ?_
  refine g_gS (fun hs => ?_)
  refine g_bCi (pc := 5) (c_V cl11 hs (p_X11_trust hl x1 x2 x3 h0) y_X11_trust tw997 dL_trust_5 rfl (st := [.int (0 : Int32), .ref (e_z E + x4)]) rfl (Nat.le_of_ble_eq_true rfl) (Nat.le_of_ble_eq_true rfl) (Nat.le_of_ble_eq_true rfl)) (fun x5 h1 => ?_) (fun X5 h2 => ?_)
  · refine g_i2l (pc := 8) dL_trust_8 ?_
    refine g_last (pc := 9) dL_trust_9 (fun h3 => ?_)
    refine g_goto (pc := 10) (tgt := 21) dL_trust_10 rfl ?_
    refine g_iconst (pc := 21) dL_trust_21 ci_0 ?_
    exact g_ret (pc := 22) rfl (isRet_i _) dL_trust_22 rfl
  · by_cases hX : X5 = "java/lang/IndexOutOfBoundsException"
    · rw [if_pos hX]
      subst hX
      refine Or.inr ⟨[], ⟨0, 10, 13, 19⟩, [⟨0, 10, 17, 25⟩], _, rfl, (fun z hz => nomatch hz), by decide, by decide, tw617, tw624, fun q6 => ?_⟩
      refine g_astore (pc := 13) (lv' := [(4, .ref q6), (0, .ref (e_z E + x1)), (1, .int x2), (2, .int x3), (3, .ref (e_z E + x4))]) dL_trust_13 (Nat.le_of_ble_eq_true rfl) rfl ?_
      refine g_iconst (pc := 15) dL_trust_15 ci_1 ?_
      exact g_ret (pc := 16) rfl (isRet_i _) dL_trust_16 rfl
    · rw [if_neg hX]
      by_cases hX : X5 = "java/lang/IllegalArgumentException"
      · rw [if_pos hX]
        subst hX
        refine Or.inr ⟨[⟨0, 10, 13, 19⟩], ⟨0, 10, 17, 25⟩, [], _, rfl, (fun z hz => by cases List.mem_singleton.mp hz; exact Or.inr ⟨by decide, _, tw617, by decide⟩), by decide, by decide, tw641, tw832, fun q7 => ?_⟩
        refine g_astore (pc := 17) (lv' := [(4, .ref q7), (0, .ref (e_z E + x1)), (1, .int x2), (2, .int x3), (3, .ref (e_z E + x4))]) dL_trust_17 (Nat.le_of_ble_eq_true rfl) rfl ?_
        refine g_iconst (pc := 19) dL_trust_19 ci_2 ?_
        exact g_ret (pc := 20) rfl (isRet_i _) dL_trust_20 rfl
      · rw [if_neg hX]
        exact Or.inl rfl
theorem p_L_trust {l : Launch} {E : aE} (hl : l.stackTraces = false) (x1 : Nat) (x2 : Int32) (x3 : Int32) (x4 : Nat) (h0 : aH) : MO (fun (v : Int32) => .inl (some (.int v))) l E yL_trust (.codeWith yL_trust cL_trust 5 (some .int) [(0, 10, 13, 19), (0, 10, 17, 25)]) 9 155 [.ref (e_z E + x1), .int x2, .int x3, .ref (e_z E + x4)] h0 (m_L_trust x1 x2 x3 x4 h0) := g_metH hl (by decide +kernel) (Nat.le_of_ble_eq_true rfl) (b_L_trust hl _ _ x1 x2 x3 x4 h0)
theorem dL_trustPath_0 : decode cL_trustPath 0 = .ok (.aload_n 3, 1) := by decide +kernel
theorem dL_trustPath_1 : decode cL_trustPath 1 = .ok (.iconst 0, 1) := by decide +kernel
theorem dL_trustPath_2 : decode cL_trustPath 2 = .ok (.aload_n 0, 1) := by decide +kernel
theorem dL_trustPath_3 : decode cL_trustPath 3 = .ok (.iload_n 1, 1) := by decide +kernel
theorem dL_trustPath_4 : decode cL_trustPath 4 = .ok (.iload_n 2, 1) := by decide +kernel
theorem dL_trustPath_5 : decode cL_trustPath 5 = .ok (.invokevirtual 60, 3) := by decide +kernel
theorem dL_trustPath_8 : decode cL_trustPath 8 = .ok (.i2l, 1) := by decide +kernel
theorem dL_trustPath_9 : decode cL_trustPath 9 = .ok (.lastore, 1) := by decide +kernel
theorem dL_trustPath_10 : decode cL_trustPath 10 = .ok (.goto 11, 3) := by decide +kernel
theorem dL_trustPath_13 : decode cL_trustPath 13 = .ok (.astore 4, 2) := by decide +kernel
theorem dL_trustPath_15 : decode cL_trustPath 15 = .ok (.iconst 1, 1) := by decide +kernel
theorem dL_trustPath_16 : decode cL_trustPath 16 = .ok (.ireturn, 1) := by decide +kernel
theorem dL_trustPath_17 : decode cL_trustPath 17 = .ok (.astore 4, 2) := by decide +kernel
theorem dL_trustPath_19 : decode cL_trustPath 19 = .ok (.iconst 2, 1) := by decide +kernel
theorem dL_trustPath_20 : decode cL_trustPath 20 = .ok (.ireturn, 1) := by decide +kernel
theorem dL_trustPath_21 : decode cL_trustPath 21 = .ok (.iconst 0, 1) := by decide +kernel
theorem dL_trustPath_22 : decode cL_trustPath 22 = .ok (.ireturn, 1) := by decide +kernel
abbrev M_L_trustPath : aM := (yL_trustPath.cls, cL_trustPath, 5, (some .int), tableOf [(0, 10, 13, 19), (0, 10, 17, 25)], yL_trustPath.name == "<init>")
abbrev J_L_trustPath (l : Launch) (E : aE) (n0 m0 : Nat) := GG (fun (v : Int32) => .inl (some (.int v))) l E M_L_trustPath 9 155 n0 m0
theorem b_L_trustPath {l : Launch} {E : aE} (hl : l.stackTraces = false) (n0 m0 : Nat) (x1 : Nat) (x2 : Int32) (x3 : Int32) (x4 : Nat) (h0 : aH) : J_L_trustPath l E n0 m0 0 [(0, .ref (e_z E + x1)), (1, .int x2), (2, .int x3), (3, .ref (e_z E + x4))] [] h0 (m_L_trustPath x1 x2 x3 x4 h0) := by
  unfold m_L_trustPath
  refine g_aload_n (pc := 0) dL_trustPath_0 3 rfl ?_
  refine g_iconst (pc := 1) dL_trustPath_1 ci_0 ?_
  refine g_aload_n (pc := 2) dL_trustPath_2 0 rfl ?_
  refine g_iload_n (pc := 3) dL_trustPath_3 1 rfl ?_
  refine g_iload_n (pc := 4) dL_trustPath_4 2 rfl ?_
  refine g_gS (fun hs => ?_)
  refine g_bCi (pc := 5) (c_V cl11 hs (p_X11_trustPath hl x1 x2 x3 h0) y_X11_trustPath tw1010 dL_trustPath_5 rfl (st := [.int (0 : Int32), .ref (e_z E + x4)]) rfl (Nat.le_of_ble_eq_true rfl) (Nat.le_of_ble_eq_true rfl) (Nat.le_of_ble_eq_true rfl)) (fun x5 h1 => ?_) (fun X5 h2 => ?_)
  · refine g_i2l (pc := 8) dL_trustPath_8 ?_
    refine g_last (pc := 9) dL_trustPath_9 (fun h3 => ?_)
    refine g_goto (pc := 10) (tgt := 21) dL_trustPath_10 rfl ?_
    refine g_iconst (pc := 21) dL_trustPath_21 ci_0 ?_
    exact g_ret (pc := 22) rfl (isRet_i _) dL_trustPath_22 rfl
  · by_cases hX : X5 = "java/lang/IndexOutOfBoundsException"
    · rw [if_pos hX]
      subst hX
      refine Or.inr ⟨[], ⟨0, 10, 13, 19⟩, [⟨0, 10, 17, 25⟩], _, rfl, (fun z hz => nomatch hz), by decide, by decide, tw617, tw624, fun q6 => ?_⟩
      refine g_astore (pc := 13) (lv' := [(4, .ref q6), (0, .ref (e_z E + x1)), (1, .int x2), (2, .int x3), (3, .ref (e_z E + x4))]) dL_trustPath_13 (Nat.le_of_ble_eq_true rfl) rfl ?_
      refine g_iconst (pc := 15) dL_trustPath_15 ci_1 ?_
      exact g_ret (pc := 16) rfl (isRet_i _) dL_trustPath_16 rfl
    · rw [if_neg hX]
      by_cases hX : X5 = "java/lang/IllegalArgumentException"
      · rw [if_pos hX]
        subst hX
        refine Or.inr ⟨[⟨0, 10, 13, 19⟩], ⟨0, 10, 17, 25⟩, [], _, rfl, (fun z hz => by cases List.mem_singleton.mp hz; exact Or.inr ⟨by decide, _, tw617, by decide⟩), by decide, by decide, tw641, tw832, fun q7 => ?_⟩
        refine g_astore (pc := 17) (lv' := [(4, .ref q7), (0, .ref (e_z E + x1)), (1, .int x2), (2, .int x3), (3, .ref (e_z E + x4))]) dL_trustPath_17 (Nat.le_of_ble_eq_true rfl) rfl ?_
        refine g_iconst (pc := 19) dL_trustPath_19 ci_2 ?_
        exact g_ret (pc := 20) rfl (isRet_i _) dL_trustPath_20 rfl
      · rw [if_neg hX]
        exact Or.inl rfl
theorem p_L_trustPath {l : Launch} {E : aE} (hl : l.stackTraces = false) (x1 : Nat) (x2 : Int32) (x3 : Int32) (x4 : Nat) (h0 : aH) : MO (fun (v : Int32) => .inl (some (.int v))) l E yL_trustPath (.codeWith yL_trustPath cL_trustPath 5 (some .int) [(0, 10, 13, 19), (0, 10, 17, 25)]) 9 155 [.ref (e_z E + x1), .int x2, .int x3, .ref (e_z E + x4)] h0 (m_L_trustPath x1 x2 x3 x4 h0) := g_metH hl (by decide +kernel) (Nat.le_of_ble_eq_true rfl) (b_L_trustPath hl _ _ x1 x2 x3 x4 h0)
theorem dL_chain_0 : decode cL_chain 0 = .ok (.aload_n 3, 1) := by decide +kernel
theorem dL_chain_1 : decode cL_chain 1 = .ok (.iconst 0, 1) := by decide +kernel
theorem dL_chain_2 : decode cL_chain 2 = .ok (.aload_n 0, 1) := by decide +kernel
theorem dL_chain_3 : decode cL_chain 3 = .ok (.iload_n 1, 1) := by decide +kernel
theorem dL_chain_4 : decode cL_chain 4 = .ok (.iload_n 2, 1) := by decide +kernel
theorem dL_chain_5 : decode cL_chain 5 = .ok (.invokevirtual 63, 3) := by decide +kernel
theorem dL_chain_8 : decode cL_chain 8 = .ok (.i2l, 1) := by decide +kernel
theorem dL_chain_9 : decode cL_chain 9 = .ok (.lastore, 1) := by decide +kernel
theorem dL_chain_10 : decode cL_chain 10 = .ok (.goto 7, 3) := by decide +kernel
theorem dL_chain_13 : decode cL_chain 13 = .ok (.astore 4, 2) := by decide +kernel
theorem dL_chain_15 : decode cL_chain 15 = .ok (.iconst 1, 1) := by decide +kernel
theorem dL_chain_16 : decode cL_chain 16 = .ok (.ireturn, 1) := by decide +kernel
theorem dL_chain_17 : decode cL_chain 17 = .ok (.iconst 0, 1) := by decide +kernel
theorem dL_chain_18 : decode cL_chain 18 = .ok (.ireturn, 1) := by decide +kernel
abbrev M_L_chain : aM := (yL_chain.cls, cL_chain, 5, (some .int), tableOf [(0, 10, 13, 19)], yL_chain.name == "<init>")
abbrev J_L_chain (l : Launch) (E : aE) (n0 m0 : Nat) := GG (fun (v : Int32) => .inl (some (.int v))) l E M_L_chain 8 133 n0 m0
theorem b_L_chain {l : Launch} {E : aE} (hl : l.stackTraces = false) (n0 m0 : Nat) (x1 : Nat) (x2 : Int32) (x3 : Int32) (x4 : Nat) (h0 : aH) : J_L_chain l E n0 m0 0 [(0, .ref (e_z E + x1)), (1, .int x2), (2, .int x3), (3, .ref (e_z E + x4))] [] h0 (m_L_chain x1 x2 x3 x4 h0) := by
  unfold m_L_chain
  refine g_aload_n (pc := 0) dL_chain_0 3 rfl ?_
  refine g_iconst (pc := 1) dL_chain_1 ci_0 ?_
  refine g_aload_n (pc := 2) dL_chain_2 0 rfl ?_
  refine g_iload_n (pc := 3) dL_chain_3 1 rfl ?_
  refine g_iload_n (pc := 4) dL_chain_4 2 rfl ?_
  refine g_gS (fun hs => ?_)
  refine g_bCi (pc := 5) (c_V cl11 hs (p_X11_chain hl x1 x2 x3 h0) y_X11_chain tw1022 dL_chain_5 rfl (st := [.int (0 : Int32), .ref (e_z E + x4)]) rfl (Nat.le_of_ble_eq_true rfl) (Nat.le_of_ble_eq_true rfl) (Nat.le_of_ble_eq_true rfl)) (fun x5 h1 => ?_) (fun X5 h2 => ?_)
  · refine g_i2l (pc := 8) dL_chain_8 ?_
    refine g_last (pc := 9) dL_chain_9 (fun h3 => ?_)
    refine g_goto (pc := 10) (tgt := 17) dL_chain_10 rfl ?_
    refine g_iconst (pc := 17) dL_chain_17 ci_0 ?_
    exact g_ret (pc := 18) rfl (isRet_i _) dL_chain_18 rfl
  · by_cases hX : X5 = "java/lang/IndexOutOfBoundsException"
    · rw [if_pos hX]
      subst hX
      refine Or.inr ⟨[], ⟨0, 10, 13, 19⟩, [], _, rfl, (fun z hz => nomatch hz), by decide, by decide, tw617, tw624, fun q6 => ?_⟩
      refine g_astore (pc := 13) (lv' := [(4, .ref q6), (0, .ref (e_z E + x1)), (1, .int x2), (2, .int x3), (3, .ref (e_z E + x4))]) dL_chain_13 (Nat.le_of_ble_eq_true rfl) rfl ?_
      refine g_iconst (pc := 15) dL_chain_15 ci_1 ?_
      exact g_ret (pc := 16) rfl (isRet_i _) dL_chain_16 rfl
    · rw [if_neg hX]
      exact Or.inl rfl
theorem p_L_chain {l : Launch} {E : aE} (hl : l.stackTraces = false) (x1 : Nat) (x2 : Int32) (x3 : Int32) (x4 : Nat) (h0 : aH) : MO (fun (v : Int32) => .inl (some (.int v))) l E yL_chain (.codeWith yL_chain cL_chain 5 (some .int) [(0, 10, 13, 19)]) 8 133 [.ref (e_z E + x1), .int x2, .int x3, .ref (e_z E + x4)] h0 (m_L_chain x1 x2 x3 x4 h0) := g_metH hl (by decide +kernel) (Nat.le_of_ble_eq_true rfl) (b_L_chain hl _ _ x1 x2 x3 x4 h0)
theorem dL_handOns_0 : decode cL_handOns 0 = .ok (.aload_n 2, 1) := by decide +kernel
theorem dL_handOns_1 : decode cL_handOns 1 = .ok (.iconst 0, 1) := by decide +kernel
theorem dL_handOns_2 : decode cL_handOns 2 = .ok (.aload_n 0, 1) := by decide +kernel
theorem dL_handOns_3 : decode cL_handOns 3 = .ok (.iload_n 1, 1) := by decide +kernel
theorem dL_handOns_4 : decode cL_handOns 4 = .ok (.invokevirtual 66, 3) := by decide +kernel
theorem dL_handOns_7 : decode cL_handOns 7 = .ok (.i2l, 1) := by decide +kernel
theorem dL_handOns_8 : decode cL_handOns 8 = .ok (.lastore, 1) := by decide +kernel
theorem dL_handOns_9 : decode cL_handOns 9 = .ok (.goto 6, 3) := by decide +kernel
theorem dL_handOns_12 : decode cL_handOns 12 = .ok (.astore_n 3, 1) := by decide +kernel
theorem dL_handOns_13 : decode cL_handOns 13 = .ok (.iconst 1, 1) := by decide +kernel
theorem dL_handOns_14 : decode cL_handOns 14 = .ok (.ireturn, 1) := by decide +kernel
theorem dL_handOns_15 : decode cL_handOns 15 = .ok (.iconst 0, 1) := by decide +kernel
theorem dL_handOns_16 : decode cL_handOns 16 = .ok (.ireturn, 1) := by decide +kernel
abbrev M_L_handOns : aM := (yL_handOns.cls, cL_handOns, 4, (some .int), tableOf [(0, 9, 12, 19)], yL_handOns.name == "<init>")
abbrev J_L_handOns (l : Launch) (E : aE) (n0 m0 : Nat) := GG (fun (v : Int32) => .inl (some (.int v))) l E M_L_handOns 8 132 n0 m0
theorem b_L_handOns {l : Launch} {E : aE} (hl : l.stackTraces = false) (n0 m0 : Nat) (x1 : Nat) (x2 : Int32) (x3 : Nat) (h0 : aH) : J_L_handOns l E n0 m0 0 [(0, .ref (e_z E + x1)), (1, .int x2), (2, .ref (e_z E + x3))] [] h0 (m_L_handOns x1 x2 x3 h0) := by
  unfold m_L_handOns
  refine g_aload_n (pc := 0) dL_handOns_0 2 rfl ?_
  refine g_iconst (pc := 1) dL_handOns_1 ci_0 ?_
  refine g_aload_n (pc := 2) dL_handOns_2 0 rfl ?_
  refine g_iload_n (pc := 3) dL_handOns_3 1 rfl ?_
  refine g_gS (fun hs => ?_)
  refine g_bCi (pc := 4) (c_V cl11 hs (p_X11_handOns hl x1 x2 h0) y_X11_handOns tw1043 dL_handOns_4 rfl (st := [.int (0 : Int32), .ref (e_z E + x3)]) rfl (Nat.le_of_ble_eq_true rfl) (Nat.le_of_ble_eq_true rfl) (Nat.le_of_ble_eq_true rfl)) (fun x4 h1 => ?_) (fun X4 h2 => ?_)
  · refine g_i2l (pc := 7) dL_handOns_7 ?_
    refine g_last (pc := 8) dL_handOns_8 (fun h3 => ?_)
    refine g_goto (pc := 9) (tgt := 15) dL_handOns_9 rfl ?_
    refine g_iconst (pc := 15) dL_handOns_15 ci_0 ?_
    exact g_ret (pc := 16) rfl (isRet_i _) dL_handOns_16 rfl
  · by_cases hX : X4 = "java/lang/IndexOutOfBoundsException"
    · rw [if_pos hX]
      subst hX
      refine Or.inr ⟨[], ⟨0, 9, 12, 19⟩, [], _, rfl, (fun z hz => nomatch hz), by decide, by decide, tw617, tw624, fun q5 => ?_⟩
      refine g_astore_n (pc := 12) (lv' := [(3, .ref q5), (0, .ref (e_z E + x1)), (1, .int x2), (2, .ref (e_z E + x3))]) dL_handOns_12 (Nat.le_of_ble_eq_true rfl) rfl ?_
      refine g_iconst (pc := 13) dL_handOns_13 ci_1 ?_
      exact g_ret (pc := 14) rfl (isRet_i _) dL_handOns_14 rfl
    · rw [if_neg hX]
      exact Or.inl rfl
theorem p_L_handOns {l : Launch} {E : aE} (hl : l.stackTraces = false) (x1 : Nat) (x2 : Int32) (x3 : Nat) (h0 : aH) : MO (fun (v : Int32) => .inl (some (.int v))) l E yL_handOns (.codeWith yL_handOns cL_handOns 4 (some .int) [(0, 9, 12, 19)]) 8 132 [.ref (e_z E + x1), .int x2, .ref (e_z E + x3)] h0 (m_L_handOns x1 x2 x3 h0) := g_metH hl (by decide +kernel) (Nat.le_of_ble_eq_true rfl) (b_L_handOns hl _ _ x1 x2 x3 h0)
theorem dL_holdingEnd_0 : decode cL_holdingEnd 0 = .ok (.aload_n 2, 1) := by decide +kernel
theorem dL_holdingEnd_1 : decode cL_holdingEnd 1 = .ok (.iconst 0, 1) := by decide +kernel
theorem dL_holdingEnd_2 : decode cL_holdingEnd 2 = .ok (.aload_n 0, 1) := by decide +kernel
theorem dL_holdingEnd_3 : decode cL_holdingEnd 3 = .ok (.iload_n 1, 1) := by decide +kernel
theorem dL_holdingEnd_4 : decode cL_holdingEnd 4 = .ok (.invokevirtual 69, 3) := by decide +kernel
theorem dL_holdingEnd_7 : decode cL_holdingEnd 7 = .ok (.i2l, 1) := by decide +kernel
theorem dL_holdingEnd_8 : decode cL_holdingEnd 8 = .ok (.lastore, 1) := by decide +kernel
theorem dL_holdingEnd_9 : decode cL_holdingEnd 9 = .ok (.goto 6, 3) := by decide +kernel
theorem dL_holdingEnd_12 : decode cL_holdingEnd 12 = .ok (.astore_n 3, 1) := by decide +kernel
theorem dL_holdingEnd_13 : decode cL_holdingEnd 13 = .ok (.iconst 1, 1) := by decide +kernel
theorem dL_holdingEnd_14 : decode cL_holdingEnd 14 = .ok (.ireturn, 1) := by decide +kernel
theorem dL_holdingEnd_15 : decode cL_holdingEnd 15 = .ok (.iconst 0, 1) := by decide +kernel
theorem dL_holdingEnd_16 : decode cL_holdingEnd 16 = .ok (.ireturn, 1) := by decide +kernel
abbrev M_L_holdingEnd : aM := (yL_holdingEnd.cls, cL_holdingEnd, 4, (some .int), tableOf [(0, 9, 12, 19)], yL_holdingEnd.name == "<init>")
abbrev J_L_holdingEnd (l : Launch) (E : aE) (n0 m0 : Nat) := GG (fun (v : Int32) => .inl (some (.int v))) l E M_L_holdingEnd 8 132 n0 m0
theorem b_L_holdingEnd {l : Launch} {E : aE} (hl : l.stackTraces = false) (n0 m0 : Nat) (x1 : Nat) (x2 : Int32) (x3 : Nat) (h0 : aH) : J_L_holdingEnd l E n0 m0 0 [(0, .ref (e_z E + x1)), (1, .int x2), (2, .ref (e_z E + x3))] [] h0 (m_L_holdingEnd x1 x2 x3 h0) := by
  unfold m_L_holdingEnd
  refine g_aload_n (pc := 0) dL_holdingEnd_0 2 rfl ?_
  refine g_iconst (pc := 1) dL_holdingEnd_1 ci_0 ?_
  refine g_aload_n (pc := 2) dL_holdingEnd_2 0 rfl ?_
  refine g_iload_n (pc := 3) dL_holdingEnd_3 1 rfl ?_
  refine g_gS (fun hs => ?_)
  refine g_bCi (pc := 4) (c_V cl11 hs (p_X11_holdingEnd hl x1 x2 h0) y_X11_holdingEnd tw1050 dL_holdingEnd_4 rfl (st := [.int (0 : Int32), .ref (e_z E + x3)]) rfl (Nat.le_of_ble_eq_true rfl) (Nat.le_of_ble_eq_true rfl) (Nat.le_of_ble_eq_true rfl)) (fun x4 h1 => ?_) (fun X4 h2 => ?_)
  · refine g_i2l (pc := 7) dL_holdingEnd_7 ?_
    refine g_last (pc := 8) dL_holdingEnd_8 (fun h3 => ?_)
    refine g_goto (pc := 9) (tgt := 15) dL_holdingEnd_9 rfl ?_
    refine g_iconst (pc := 15) dL_holdingEnd_15 ci_0 ?_
    exact g_ret (pc := 16) rfl (isRet_i _) dL_holdingEnd_16 rfl
  · by_cases hX : X4 = "java/lang/IndexOutOfBoundsException"
    · rw [if_pos hX]
      subst hX
      refine Or.inr ⟨[], ⟨0, 9, 12, 19⟩, [], _, rfl, (fun z hz => nomatch hz), by decide, by decide, tw617, tw624, fun q5 => ?_⟩
      refine g_astore_n (pc := 12) (lv' := [(3, .ref q5), (0, .ref (e_z E + x1)), (1, .int x2), (2, .ref (e_z E + x3))]) dL_holdingEnd_12 (Nat.le_of_ble_eq_true rfl) rfl ?_
      refine g_iconst (pc := 13) dL_holdingEnd_13 ci_1 ?_
      exact g_ret (pc := 14) rfl (isRet_i _) dL_holdingEnd_14 rfl
    · rw [if_neg hX]
      exact Or.inl rfl
theorem p_L_holdingEnd {l : Launch} {E : aE} (hl : l.stackTraces = false) (x1 : Nat) (x2 : Int32) (x3 : Nat) (h0 : aH) : MO (fun (v : Int32) => .inl (some (.int v))) l E yL_holdingEnd (.codeWith yL_holdingEnd cL_holdingEnd 4 (some .int) [(0, 9, 12, 19)]) 8 132 [.ref (e_z E + x1), .int x2, .ref (e_z E + x3)] h0 (m_L_holdingEnd x1 x2 x3 h0) := g_metH hl (by decide +kernel) (Nat.le_of_ble_eq_true rfl) (b_L_holdingEnd hl _ _ x1 x2 x3 h0)
theorem dL_rotation_0 : decode cL_rotation 0 = .ok (.aload_n 3, 1) := by decide +kernel
theorem dL_rotation_1 : decode cL_rotation 1 = .ok (.iconst 0, 1) := by decide +kernel
theorem dL_rotation_2 : decode cL_rotation 2 = .ok (.aload_n 0, 1) := by decide +kernel
theorem dL_rotation_3 : decode cL_rotation 3 = .ok (.iload_n 1, 1) := by decide +kernel
theorem dL_rotation_4 : decode cL_rotation 4 = .ok (.iload_n 2, 1) := by decide +kernel
theorem dL_rotation_5 : decode cL_rotation 5 = .ok (.invokevirtual 72, 3) := by decide +kernel
theorem dL_rotation_8 : decode cL_rotation 8 = .ok (.i2l, 1) := by decide +kernel
theorem dL_rotation_9 : decode cL_rotation 9 = .ok (.lastore, 1) := by decide +kernel
theorem dL_rotation_10 : decode cL_rotation 10 = .ok (.goto 7, 3) := by decide +kernel
theorem dL_rotation_13 : decode cL_rotation 13 = .ok (.astore 4, 2) := by decide +kernel
theorem dL_rotation_15 : decode cL_rotation 15 = .ok (.iconst 1, 1) := by decide +kernel
theorem dL_rotation_16 : decode cL_rotation 16 = .ok (.ireturn, 1) := by decide +kernel
theorem dL_rotation_17 : decode cL_rotation 17 = .ok (.iconst 0, 1) := by decide +kernel
theorem dL_rotation_18 : decode cL_rotation 18 = .ok (.ireturn, 1) := by decide +kernel
abbrev M_L_rotation : aM := (yL_rotation.cls, cL_rotation, 5, (some .int), tableOf [(0, 10, 13, 19)], yL_rotation.name == "<init>")
abbrev J_L_rotation (l : Launch) (E : aE) (n0 m0 : Nat) := GG (fun (v : Int32) => .inl (some (.int v))) l E M_L_rotation 8 134 n0 m0
theorem b_L_rotation {l : Launch} {E : aE} (hl : l.stackTraces = false) (n0 m0 : Nat) (x1 : Nat) (x2 : Int32) (x3 : Int32) (x4 : Nat) (h0 : aH) : J_L_rotation l E n0 m0 0 [(0, .ref (e_z E + x1)), (1, .int x2), (2, .int x3), (3, .ref (e_z E + x4))] [] h0 (m_L_rotation x1 x2 x3 x4 h0) := by
  unfold m_L_rotation
  refine g_aload_n (pc := 0) dL_rotation_0 3 rfl ?_
  refine g_iconst (pc := 1) dL_rotation_1 ci_0 ?_
  refine g_aload_n (pc := 2) dL_rotation_2 0 rfl ?_
  refine g_iload_n (pc := 3) dL_rotation_3 1 rfl ?_
  refine g_iload_n (pc := 4) dL_rotation_4 2 rfl ?_
  refine g_gS (fun hs => ?_)
  refine g_bCi (pc := 5) (c_V cl11 hs (p_X11_rotation hl x1 x2 x3 h0) y_X11_rotation tw1065 dL_rotation_5 rfl (st := [.int (0 : Int32), .ref (e_z E + x4)]) rfl (Nat.le_of_ble_eq_true rfl) (Nat.le_of_ble_eq_true rfl) (Nat.le_of_ble_eq_true rfl)) (fun x5 h1 => ?_) (fun X5 h2 => ?_)
  · refine g_i2l (pc := 8) dL_rotation_8 ?_
    refine g_last (pc := 9) dL_rotation_9 (fun h3 => ?_)
    refine g_goto (pc := 10) (tgt := 17) dL_rotation_10 rfl ?_
    refine g_iconst (pc := 17) dL_rotation_17 ci_0 ?_
    exact g_ret (pc := 18) rfl (isRet_i _) dL_rotation_18 rfl
  · by_cases hX : X5 = "java/lang/IndexOutOfBoundsException"
    · rw [if_pos hX]
      subst hX
      refine Or.inr ⟨[], ⟨0, 10, 13, 19⟩, [], _, rfl, (fun z hz => nomatch hz), by decide, by decide, tw617, tw624, fun q6 => ?_⟩
      refine g_astore (pc := 13) (lv' := [(4, .ref q6), (0, .ref (e_z E + x1)), (1, .int x2), (2, .int x3), (3, .ref (e_z E + x4))]) dL_rotation_13 (Nat.le_of_ble_eq_true rfl) rfl ?_
      refine g_iconst (pc := 15) dL_rotation_15 ci_1 ?_
      exact g_ret (pc := 16) rfl (isRet_i _) dL_rotation_16 rfl
    · rw [if_neg hX]
      exact Or.inl rfl
theorem p_L_rotation {l : Launch} {E : aE} (hl : l.stackTraces = false) (x1 : Nat) (x2 : Int32) (x3 : Int32) (x4 : Nat) (h0 : aH) : MO (fun (v : Int32) => .inl (some (.int v))) l E yL_rotation (.codeWith yL_rotation cL_rotation 5 (some .int) [(0, 10, 13, 19)]) 8 134 [.ref (e_z E + x1), .int x2, .int x3, .ref (e_z E + x4)] h0 (m_L_rotation x1 x2 x3 x4 h0) := g_metH hl (by decide +kernel) (Nat.le_of_ble_eq_true rfl) (b_L_rotation hl _ _ x1 x2 x3 x4 h0)
theorem dL_holderAt_0 : decode cL_holderAt 0 = .ok (.aload_n 3, 1) := by decide +kernel
theorem dL_holderAt_1 : decode cL_holderAt 1 = .ok (.iconst 0, 1) := by decide +kernel
theorem dL_holderAt_2 : decode cL_holderAt 2 = .ok (.aload_n 0, 1) := by decide +kernel
theorem dL_holderAt_3 : decode cL_holderAt 3 = .ok (.iload_n 1, 1) := by decide +kernel
theorem dL_holderAt_4 : decode cL_holderAt 4 = .ok (.iload_n 2, 1) := by decide +kernel
theorem dL_holderAt_5 : decode cL_holderAt 5 = .ok (.invokevirtual 75, 3) := by decide +kernel
theorem dL_holderAt_8 : decode cL_holderAt 8 = .ok (.i2l, 1) := by decide +kernel
theorem dL_holderAt_9 : decode cL_holderAt 9 = .ok (.lastore, 1) := by decide +kernel
theorem dL_holderAt_10 : decode cL_holderAt 10 = .ok (.goto 11, 3) := by decide +kernel
theorem dL_holderAt_13 : decode cL_holderAt 13 = .ok (.astore 4, 2) := by decide +kernel
theorem dL_holderAt_15 : decode cL_holderAt 15 = .ok (.iconst 1, 1) := by decide +kernel
theorem dL_holderAt_16 : decode cL_holderAt 16 = .ok (.ireturn, 1) := by decide +kernel
theorem dL_holderAt_17 : decode cL_holderAt 17 = .ok (.astore 4, 2) := by decide +kernel
theorem dL_holderAt_19 : decode cL_holderAt 19 = .ok (.iconst 2, 1) := by decide +kernel
theorem dL_holderAt_20 : decode cL_holderAt 20 = .ok (.ireturn, 1) := by decide +kernel
theorem dL_holderAt_21 : decode cL_holderAt 21 = .ok (.iconst 0, 1) := by decide +kernel
theorem dL_holderAt_22 : decode cL_holderAt 22 = .ok (.ireturn, 1) := by decide +kernel
abbrev M_L_holderAt : aM := (yL_holderAt.cls, cL_holderAt, 5, (some .int), tableOf [(0, 10, 13, 19), (0, 10, 17, 25)], yL_holderAt.name == "<init>")
abbrev J_L_holderAt (l : Launch) (E : aE) (n0 m0 : Nat) := GG (fun (v : Int32) => .inl (some (.int v))) l E M_L_holderAt 8 133 n0 m0
theorem b_L_holderAt {l : Launch} {E : aE} (hl : l.stackTraces = false) (n0 m0 : Nat) (x1 : Nat) (x2 : Int32) (x3 : Int32) (x4 : Nat) (h0 : aH) : J_L_holderAt l E n0 m0 0 [(0, .ref (e_z E + x1)), (1, .int x2), (2, .int x3), (3, .ref (e_z E + x4))] [] h0 (m_L_holderAt x1 x2 x3 x4 h0) := by
  unfold m_L_holderAt
  refine g_aload_n (pc := 0) dL_holderAt_0 3 rfl ?_
  refine g_iconst (pc := 1) dL_holderAt_1 ci_0 ?_
  refine g_aload_n (pc := 2) dL_holderAt_2 0 rfl ?_
  refine g_iload_n (pc := 3) dL_holderAt_3 1 rfl ?_
  refine g_iload_n (pc := 4) dL_holderAt_4 2 rfl ?_
  refine g_gS (fun hs => ?_)
  refine g_bCi (pc := 5) (c_V cl11 hs (p_X11_holderAt hl x1 x2 x3 h0) y_X11_holderAt tw1077 dL_holderAt_5 rfl (st := [.int (0 : Int32), .ref (e_z E + x4)]) rfl (Nat.le_of_ble_eq_true rfl) (Nat.le_of_ble_eq_true rfl) (Nat.le_of_ble_eq_true rfl)) (fun x5 h1 => ?_) (fun X5 h2 => ?_)
  · refine g_i2l (pc := 8) dL_holderAt_8 ?_
    refine g_last (pc := 9) dL_holderAt_9 (fun h3 => ?_)
    refine g_goto (pc := 10) (tgt := 21) dL_holderAt_10 rfl ?_
    refine g_iconst (pc := 21) dL_holderAt_21 ci_0 ?_
    exact g_ret (pc := 22) rfl (isRet_i _) dL_holderAt_22 rfl
  · by_cases hX : X5 = "java/lang/IndexOutOfBoundsException"
    · rw [if_pos hX]
      subst hX
      refine Or.inr ⟨[], ⟨0, 10, 13, 19⟩, [⟨0, 10, 17, 25⟩], _, rfl, (fun z hz => nomatch hz), by decide, by decide, tw617, tw624, fun q6 => ?_⟩
      refine g_astore (pc := 13) (lv' := [(4, .ref q6), (0, .ref (e_z E + x1)), (1, .int x2), (2, .int x3), (3, .ref (e_z E + x4))]) dL_holderAt_13 (Nat.le_of_ble_eq_true rfl) rfl ?_
      refine g_iconst (pc := 15) dL_holderAt_15 ci_1 ?_
      exact g_ret (pc := 16) rfl (isRet_i _) dL_holderAt_16 rfl
    · rw [if_neg hX]
      by_cases hX : X5 = "java/lang/IllegalArgumentException"
      · rw [if_pos hX]
        subst hX
        refine Or.inr ⟨[⟨0, 10, 13, 19⟩], ⟨0, 10, 17, 25⟩, [], _, rfl, (fun z hz => by cases List.mem_singleton.mp hz; exact Or.inr ⟨by decide, _, tw617, by decide⟩), by decide, by decide, tw641, tw832, fun q7 => ?_⟩
        refine g_astore (pc := 17) (lv' := [(4, .ref q7), (0, .ref (e_z E + x1)), (1, .int x2), (2, .int x3), (3, .ref (e_z E + x4))]) dL_holderAt_17 (Nat.le_of_ble_eq_true rfl) rfl ?_
        refine g_iconst (pc := 19) dL_holderAt_19 ci_2 ?_
        exact g_ret (pc := 20) rfl (isRet_i _) dL_holderAt_20 rfl
      · rw [if_neg hX]
        exact Or.inl rfl
theorem p_L_holderAt {l : Launch} {E : aE} (hl : l.stackTraces = false) (x1 : Nat) (x2 : Int32) (x3 : Int32) (x4 : Nat) (h0 : aH) : MO (fun (v : Int32) => .inl (some (.int v))) l E yL_holderAt (.codeWith yL_holderAt cL_holderAt 5 (some .int) [(0, 10, 13, 19), (0, 10, 17, 25)]) 8 133 [.ref (e_z E + x1), .int x2, .int x3, .ref (e_z E + x4)] h0 (m_L_holderAt x1 x2 x3 x4 h0) := g_metH hl (by decide +kernel) (Nat.le_of_ble_eq_true rfl) (b_L_holderAt hl _ _ x1 x2 x3 x4 h0)
theorem dL_dutyMinutes_0 : decode cL_dutyMinutes 0 = .ok (.aload_n 3, 1) := by decide +kernel
theorem dL_dutyMinutes_1 : decode cL_dutyMinutes 1 = .ok (.iconst 0, 1) := by decide +kernel
theorem dL_dutyMinutes_2 : decode cL_dutyMinutes 2 = .ok (.aload_n 0, 1) := by decide +kernel
theorem dL_dutyMinutes_3 : decode cL_dutyMinutes 3 = .ok (.iload_n 1, 1) := by decide +kernel
theorem dL_dutyMinutes_4 : decode cL_dutyMinutes 4 = .ok (.iload_n 2, 1) := by decide +kernel
theorem dL_dutyMinutes_5 : decode cL_dutyMinutes 5 = .ok (.invokevirtual 78, 3) := by decide +kernel
theorem dL_dutyMinutes_8 : decode cL_dutyMinutes 8 = .ok (.i2l, 1) := by decide +kernel
theorem dL_dutyMinutes_9 : decode cL_dutyMinutes 9 = .ok (.lastore, 1) := by decide +kernel
theorem dL_dutyMinutes_10 : decode cL_dutyMinutes 10 = .ok (.goto 11, 3) := by decide +kernel
theorem dL_dutyMinutes_13 : decode cL_dutyMinutes 13 = .ok (.astore 4, 2) := by decide +kernel
theorem dL_dutyMinutes_15 : decode cL_dutyMinutes 15 = .ok (.iconst 1, 1) := by decide +kernel
theorem dL_dutyMinutes_16 : decode cL_dutyMinutes 16 = .ok (.ireturn, 1) := by decide +kernel
theorem dL_dutyMinutes_17 : decode cL_dutyMinutes 17 = .ok (.astore 4, 2) := by decide +kernel
theorem dL_dutyMinutes_19 : decode cL_dutyMinutes 19 = .ok (.iconst 2, 1) := by decide +kernel
theorem dL_dutyMinutes_20 : decode cL_dutyMinutes 20 = .ok (.ireturn, 1) := by decide +kernel
theorem dL_dutyMinutes_21 : decode cL_dutyMinutes 21 = .ok (.iconst 0, 1) := by decide +kernel
theorem dL_dutyMinutes_22 : decode cL_dutyMinutes 22 = .ok (.ireturn, 1) := by decide +kernel
abbrev M_L_dutyMinutes : aM := (yL_dutyMinutes.cls, cL_dutyMinutes, 5, (some .int), tableOf [(0, 10, 13, 19), (0, 10, 17, 25)], yL_dutyMinutes.name == "<init>")
abbrev J_L_dutyMinutes (l : Launch) (E : aE) (n0 m0 : Nat) := GG (fun (v : Int32) => .inl (some (.int v))) l E M_L_dutyMinutes 8 133 n0 m0
theorem b_L_dutyMinutes {l : Launch} {E : aE} (hl : l.stackTraces = false) (n0 m0 : Nat) (x1 : Nat) (x2 : Int32) (x3 : Int32) (x4 : Nat) (h0 : aH) : J_L_dutyMinutes l E n0 m0 0 [(0, .ref (e_z E + x1)), (1, .int x2), (2, .int x3), (3, .ref (e_z E + x4))] [] h0 (m_L_dutyMinutes x1 x2 x3 x4 h0) := by
  unfold m_L_dutyMinutes
  refine g_aload_n (pc := 0) dL_dutyMinutes_0 3 rfl ?_
  refine g_iconst (pc := 1) dL_dutyMinutes_1 ci_0 ?_
  refine g_aload_n (pc := 2) dL_dutyMinutes_2 0 rfl ?_
  refine g_iload_n (pc := 3) dL_dutyMinutes_3 1 rfl ?_
  refine g_iload_n (pc := 4) dL_dutyMinutes_4 2 rfl ?_
  refine g_gS (fun hs => ?_)
  refine g_bCi (pc := 5) (c_V cl11 hs (p_X11_dutyMinutes hl x1 x2 x3 h0) y_X11_dutyMinutes tw1089 dL_dutyMinutes_5 rfl (st := [.int (0 : Int32), .ref (e_z E + x4)]) rfl (Nat.le_of_ble_eq_true rfl) (Nat.le_of_ble_eq_true rfl) (Nat.le_of_ble_eq_true rfl)) (fun x5 h1 => ?_) (fun X5 h2 => ?_)
  · refine g_i2l (pc := 8) dL_dutyMinutes_8 ?_
    refine g_last (pc := 9) dL_dutyMinutes_9 (fun h3 => ?_)
    refine g_goto (pc := 10) (tgt := 21) dL_dutyMinutes_10 rfl ?_
    refine g_iconst (pc := 21) dL_dutyMinutes_21 ci_0 ?_
    exact g_ret (pc := 22) rfl (isRet_i _) dL_dutyMinutes_22 rfl
  · by_cases hX : X5 = "java/lang/IndexOutOfBoundsException"
    · rw [if_pos hX]
      subst hX
      refine Or.inr ⟨[], ⟨0, 10, 13, 19⟩, [⟨0, 10, 17, 25⟩], _, rfl, (fun z hz => nomatch hz), by decide, by decide, tw617, tw624, fun q6 => ?_⟩
      refine g_astore (pc := 13) (lv' := [(4, .ref q6), (0, .ref (e_z E + x1)), (1, .int x2), (2, .int x3), (3, .ref (e_z E + x4))]) dL_dutyMinutes_13 (Nat.le_of_ble_eq_true rfl) rfl ?_
      refine g_iconst (pc := 15) dL_dutyMinutes_15 ci_1 ?_
      exact g_ret (pc := 16) rfl (isRet_i _) dL_dutyMinutes_16 rfl
    · rw [if_neg hX]
      by_cases hX : X5 = "java/lang/IllegalArgumentException"
      · rw [if_pos hX]
        subst hX
        refine Or.inr ⟨[⟨0, 10, 13, 19⟩], ⟨0, 10, 17, 25⟩, [], _, rfl, (fun z hz => by cases List.mem_singleton.mp hz; exact Or.inr ⟨by decide, _, tw617, by decide⟩), by decide, by decide, tw641, tw832, fun q7 => ?_⟩
        refine g_astore (pc := 17) (lv' := [(4, .ref q7), (0, .ref (e_z E + x1)), (1, .int x2), (2, .int x3), (3, .ref (e_z E + x4))]) dL_dutyMinutes_17 (Nat.le_of_ble_eq_true rfl) rfl ?_
        refine g_iconst (pc := 19) dL_dutyMinutes_19 ci_2 ?_
        exact g_ret (pc := 20) rfl (isRet_i _) dL_dutyMinutes_20 rfl
      · rw [if_neg hX]
        exact Or.inl rfl
theorem p_L_dutyMinutes {l : Launch} {E : aE} (hl : l.stackTraces = false) (x1 : Nat) (x2 : Int32) (x3 : Int32) (x4 : Nat) (h0 : aH) : MO (fun (v : Int32) => .inl (some (.int v))) l E yL_dutyMinutes (.codeWith yL_dutyMinutes cL_dutyMinutes 5 (some .int) [(0, 10, 13, 19), (0, 10, 17, 25)]) 8 133 [.ref (e_z E + x1), .int x2, .int x3, .ref (e_z E + x4)] h0 (m_L_dutyMinutes x1 x2 x3 x4 h0) := g_metH hl (by decide +kernel) (Nat.le_of_ble_eq_true rfl) (b_L_dutyMinutes hl _ _ x1 x2 x3 x4 h0)
theorem dL_whyNotHandOn_0 : decode cL_whyNotHandOn 0 = .ok (.aload 4, 2) := by decide +kernel
theorem dL_whyNotHandOn_2 : decode cL_whyNotHandOn 2 = .ok (.iconst 0, 1) := by decide +kernel
theorem dL_whyNotHandOn_3 : decode cL_whyNotHandOn 3 = .ok (.aload_n 0, 1) := by decide +kernel
theorem dL_whyNotHandOn_4 : decode cL_whyNotHandOn 4 = .ok (.iload_n 1, 1) := by decide +kernel
theorem dL_whyNotHandOn_5 : decode cL_whyNotHandOn 5 = .ok (.iload_n 2, 1) := by decide +kernel
theorem dL_whyNotHandOn_6 : decode cL_whyNotHandOn 6 = .ok (.iload_n 3, 1) := by decide +kernel
theorem dL_whyNotHandOn_7 : decode cL_whyNotHandOn 7 = .ok (.invokevirtual 81, 3) := by decide +kernel
theorem dL_whyNotHandOn_10 : decode cL_whyNotHandOn 10 = .ok (.i2l, 1) := by decide +kernel
theorem dL_whyNotHandOn_11 : decode cL_whyNotHandOn 11 = .ok (.lastore, 1) := by decide +kernel
theorem dL_whyNotHandOn_12 : decode cL_whyNotHandOn 12 = .ok (.goto 7, 3) := by decide +kernel
theorem dL_whyNotHandOn_15 : decode cL_whyNotHandOn 15 = .ok (.astore 5, 2) := by decide +kernel
theorem dL_whyNotHandOn_17 : decode cL_whyNotHandOn 17 = .ok (.iconst 1, 1) := by decide +kernel
theorem dL_whyNotHandOn_18 : decode cL_whyNotHandOn 18 = .ok (.ireturn, 1) := by decide +kernel
theorem dL_whyNotHandOn_19 : decode cL_whyNotHandOn 19 = .ok (.iconst 0, 1) := by decide +kernel
theorem dL_whyNotHandOn_20 : decode cL_whyNotHandOn 20 = .ok (.ireturn, 1) := by decide +kernel
abbrev M_L_whyNotHandOn : aM := (yL_whyNotHandOn.cls, cL_whyNotHandOn, 6, (some .int), tableOf [(0, 12, 15, 19)], yL_whyNotHandOn.name == "<init>")
abbrev J_L_whyNotHandOn (l : Launch) (E : aE) (n0 m0 : Nat) := GG (fun (v : Int32) => .inl (some (.int v))) l E M_L_whyNotHandOn 8 144 n0 m0
theorem b_L_whyNotHandOn {l : Launch} {E : aE} (hl : l.stackTraces = false) (n0 m0 : Nat) (x1 : Nat) (x2 : Int32) (x3 : Int32) (x4 : Int32) (x5 : Nat) (h0 : aH) : J_L_whyNotHandOn l E n0 m0 0 [(0, .ref (e_z E + x1)), (1, .int x2), (2, .int x3), (3, .int x4), (4, .ref (e_z E + x5))] [] h0 (m_L_whyNotHandOn x1 x2 x3 x4 x5 h0) := by
  unfold m_L_whyNotHandOn
  refine g_aload (pc := 0) dL_whyNotHandOn_0 4 rfl ?_
  refine g_iconst (pc := 2) dL_whyNotHandOn_2 ci_0 ?_
  refine g_aload_n (pc := 3) dL_whyNotHandOn_3 0 rfl ?_
  refine g_iload_n (pc := 4) dL_whyNotHandOn_4 1 rfl ?_
  refine g_iload_n (pc := 5) dL_whyNotHandOn_5 2 rfl ?_
  refine g_iload_n (pc := 6) dL_whyNotHandOn_6 3 rfl ?_
  refine g_gS (fun hs => ?_)
  refine g_bCi (pc := 7) (c_V cl11 hs (p_X11_whyNotHandOn hl x1 x2 x3 x4 h0) y_X11_whyNotHandOn tw1103 dL_whyNotHandOn_7 rfl (st := [.int (0 : Int32), .ref (e_z E + x5)]) rfl (Nat.le_of_ble_eq_true rfl) (Nat.le_of_ble_eq_true rfl) (Nat.le_of_ble_eq_true rfl)) (fun x6 h1 => ?_) (fun X7 h2 => ?_)
  · refine g_i2l (pc := 10) dL_whyNotHandOn_10 ?_
    refine g_last (pc := 11) dL_whyNotHandOn_11 (fun h3 => ?_)
    refine g_goto (pc := 12) (tgt := 19) dL_whyNotHandOn_12 rfl ?_
    refine g_iconst (pc := 19) dL_whyNotHandOn_19 ci_0 ?_
    exact g_ret (pc := 20) rfl (isRet_i _) dL_whyNotHandOn_20 rfl
  · by_cases hX : X7 = "java/lang/IndexOutOfBoundsException"
    · rw [if_pos hX]
      subst hX
      refine Or.inr ⟨[], ⟨0, 12, 15, 19⟩, [], _, rfl, (fun z hz => nomatch hz), by decide, by decide, tw617, tw624, fun q7 => ?_⟩
      refine g_astore (pc := 15) (lv' := [(5, .ref q7), (0, .ref (e_z E + x1)), (1, .int x2), (2, .int x3), (3, .int x4), (4, .ref (e_z E + x5))]) dL_whyNotHandOn_15 (Nat.le_of_ble_eq_true rfl) rfl ?_
      refine g_iconst (pc := 17) dL_whyNotHandOn_17 ci_1 ?_
      exact g_ret (pc := 18) rfl (isRet_i _) dL_whyNotHandOn_18 rfl
    · rw [if_neg hX]
      exact Or.inl rfl
theorem p_L_whyNotHandOn {l : Launch} {E : aE} (hl : l.stackTraces = false) (x1 : Nat) (x2 : Int32) (x3 : Int32) (x4 : Int32) (x5 : Nat) (h0 : aH) : MO (fun (v : Int32) => .inl (some (.int v))) l E yL_whyNotHandOn (.codeWith yL_whyNotHandOn cL_whyNotHandOn 6 (some .int) [(0, 12, 15, 19)]) 8 144 [.ref (e_z E + x1), .int x2, .int x3, .int x4, .ref (e_z E + x5)] h0 (m_L_whyNotHandOn x1 x2 x3 x4 x5 h0) := g_metH hl (by decide +kernel) (Nat.le_of_ble_eq_true rfl) (b_L_whyNotHandOn hl _ _ x1 x2 x3 x4 x5 h0)
theorem dL_steps_0 : decode cL_steps 0 = .ok (.aload_n 3, 1) := by decide +kernel
theorem dL_steps_1 : decode cL_steps 1 = .ok (.iconst 0, 1) := by decide +kernel
theorem dL_steps_2 : decode cL_steps 2 = .ok (.aload_n 0, 1) := by decide +kernel
theorem dL_steps_3 : decode cL_steps 3 = .ok (.iload_n 1, 1) := by decide +kernel
theorem dL_steps_4 : decode cL_steps 4 = .ok (.iload_n 2, 1) := by decide +kernel
theorem dL_steps_5 : decode cL_steps 5 = .ok (.invokevirtual 85, 3) := by decide +kernel
theorem dL_steps_8 : decode cL_steps 8 = .ok (.i2l, 1) := by decide +kernel
theorem dL_steps_9 : decode cL_steps 9 = .ok (.lastore, 1) := by decide +kernel
theorem dL_steps_10 : decode cL_steps 10 = .ok (.goto 11, 3) := by decide +kernel
theorem dL_steps_13 : decode cL_steps 13 = .ok (.astore 4, 2) := by decide +kernel
theorem dL_steps_15 : decode cL_steps 15 = .ok (.iconst 1, 1) := by decide +kernel
theorem dL_steps_16 : decode cL_steps 16 = .ok (.ireturn, 1) := by decide +kernel
theorem dL_steps_17 : decode cL_steps 17 = .ok (.astore 4, 2) := by decide +kernel
theorem dL_steps_19 : decode cL_steps 19 = .ok (.iconst 2, 1) := by decide +kernel
theorem dL_steps_20 : decode cL_steps 20 = .ok (.ireturn, 1) := by decide +kernel
theorem dL_steps_21 : decode cL_steps 21 = .ok (.iconst 0, 1) := by decide +kernel
theorem dL_steps_22 : decode cL_steps 22 = .ok (.ireturn, 1) := by decide +kernel
abbrev M_L_steps : aM := (yL_steps.cls, cL_steps, 5, (some .int), tableOf [(0, 10, 13, 19), (0, 10, 17, 30)], yL_steps.name == "<init>")
abbrev J_L_steps (l : Launch) (E : aE) (n0 m0 : Nat) := GG (fun (v : Int32) => .inl (some (.int v))) l E M_L_steps 8 143 n0 m0
theorem b_L_steps {l : Launch} {E : aE} (hl : l.stackTraces = false) (n0 m0 : Nat) (x1 : Nat) (x2 : Int32) (x3 : Int32) (x4 : Nat) (h0 : aH) : J_L_steps l E n0 m0 0 [(0, .ref (e_z E + x1)), (1, .int x2), (2, .int x3), (3, .ref (e_z E + x4))] [] h0 (m_L_steps x1 x2 x3 x4 h0) := by
  unfold m_L_steps
  refine g_aload_n (pc := 0) dL_steps_0 3 rfl ?_
  refine g_iconst (pc := 1) dL_steps_1 ci_0 ?_
  refine g_aload_n (pc := 2) dL_steps_2 0 rfl ?_
  refine g_iload_n (pc := 3) dL_steps_3 1 rfl ?_
  refine g_iload_n (pc := 4) dL_steps_4 2 rfl ?_
  refine g_gS (fun hs => ?_)
  refine g_bCi (pc := 5) (c_V cl11 hs (p_X11_steps hl x1 x2 x3 h0) y_X11_steps tw1127 dL_steps_5 rfl (st := [.int (0 : Int32), .ref (e_z E + x4)]) rfl (Nat.le_of_ble_eq_true rfl) (Nat.le_of_ble_eq_true rfl) (Nat.le_of_ble_eq_true rfl)) (fun x5 h1 => ?_) (fun X5 h2 => ?_)
  · refine g_i2l (pc := 8) dL_steps_8 ?_
    refine g_last (pc := 9) dL_steps_9 (fun h3 => ?_)
    refine g_goto (pc := 10) (tgt := 21) dL_steps_10 rfl ?_
    refine g_iconst (pc := 21) dL_steps_21 ci_0 ?_
    exact g_ret (pc := 22) rfl (isRet_i _) dL_steps_22 rfl
  · by_cases hX : X5 = "java/lang/IndexOutOfBoundsException"
    · rw [if_pos hX]
      subst hX
      refine Or.inr ⟨[], ⟨0, 10, 13, 19⟩, [⟨0, 10, 17, 30⟩], _, rfl, (fun z hz => nomatch hz), by decide, by decide, tw617, tw624, fun q6 => ?_⟩
      refine g_astore (pc := 13) (lv' := [(4, .ref q6), (0, .ref (e_z E + x1)), (1, .int x2), (2, .int x3), (3, .ref (e_z E + x4))]) dL_steps_13 (Nat.le_of_ble_eq_true rfl) rfl ?_
      refine g_iconst (pc := 15) dL_steps_15 ci_1 ?_
      exact g_ret (pc := 16) rfl (isRet_i _) dL_steps_16 rfl
    · rw [if_neg hX]
      by_cases hX : X5 = "java/util/NoSuchElementException"
      · rw [if_pos hX]
        subst hX
        refine Or.inr ⟨[⟨0, 10, 13, 19⟩], ⟨0, 10, 17, 30⟩, [], _, rfl, (fun z hz => by cases List.mem_singleton.mp hz; exact Or.inr ⟨by decide, _, tw617, by decide⟩), by decide, by decide, tw864, tw878, fun q7 => ?_⟩
        refine g_astore (pc := 17) (lv' := [(4, .ref q7), (0, .ref (e_z E + x1)), (1, .int x2), (2, .int x3), (3, .ref (e_z E + x4))]) dL_steps_17 (Nat.le_of_ble_eq_true rfl) rfl ?_
        refine g_iconst (pc := 19) dL_steps_19 ci_2 ?_
        exact g_ret (pc := 20) rfl (isRet_i _) dL_steps_20 rfl
      · rw [if_neg hX]
        exact Or.inl rfl
theorem p_L_steps {l : Launch} {E : aE} (hl : l.stackTraces = false) (x1 : Nat) (x2 : Int32) (x3 : Int32) (x4 : Nat) (h0 : aH) : MO (fun (v : Int32) => .inl (some (.int v))) l E yL_steps (.codeWith yL_steps cL_steps 5 (some .int) [(0, 10, 13, 19), (0, 10, 17, 30)]) 8 143 [.ref (e_z E + x1), .int x2, .int x3, .ref (e_z E + x4)] h0 (m_L_steps x1 x2 x3 x4 h0) := g_metH hl (by decide +kernel) (Nat.le_of_ble_eq_true rfl) (b_L_steps hl _ _ x1 x2 x3 x4 h0)
theorem dL_returnsAt_0 : decode cL_returnsAt 0 = .ok (.aload_n 2, 1) := by decide +kernel
theorem dL_returnsAt_1 : decode cL_returnsAt 1 = .ok (.iconst 0, 1) := by decide +kernel
theorem dL_returnsAt_2 : decode cL_returnsAt 2 = .ok (.aload_n 0, 1) := by decide +kernel
theorem dL_returnsAt_3 : decode cL_returnsAt 3 = .ok (.iload_n 1, 1) := by decide +kernel
theorem dL_returnsAt_4 : decode cL_returnsAt 4 = .ok (.invokevirtual 88, 3) := by decide +kernel
theorem dL_returnsAt_7 : decode cL_returnsAt 7 = .ok (.i2l, 1) := by decide +kernel
theorem dL_returnsAt_8 : decode cL_returnsAt 8 = .ok (.lastore, 1) := by decide +kernel
theorem dL_returnsAt_9 : decode cL_returnsAt 9 = .ok (.goto 6, 3) := by decide +kernel
theorem dL_returnsAt_12 : decode cL_returnsAt 12 = .ok (.astore_n 3, 1) := by decide +kernel
theorem dL_returnsAt_13 : decode cL_returnsAt 13 = .ok (.iconst 1, 1) := by decide +kernel
theorem dL_returnsAt_14 : decode cL_returnsAt 14 = .ok (.ireturn, 1) := by decide +kernel
theorem dL_returnsAt_15 : decode cL_returnsAt 15 = .ok (.iconst 0, 1) := by decide +kernel
theorem dL_returnsAt_16 : decode cL_returnsAt 16 = .ok (.ireturn, 1) := by decide +kernel
abbrev M_L_returnsAt : aM := (yL_returnsAt.cls, cL_returnsAt, 4, (some .int), tableOf [(0, 9, 12, 19)], yL_returnsAt.name == "<init>")
abbrev J_L_returnsAt (l : Launch) (E : aE) (n0 m0 : Nat) := GG (fun (v : Int32) => .inl (some (.int v))) l E M_L_returnsAt 8 132 n0 m0
theorem b_L_returnsAt {l : Launch} {E : aE} (hl : l.stackTraces = false) (n0 m0 : Nat) (x1 : Nat) (x2 : Int32) (x3 : Nat) (h0 : aH) : J_L_returnsAt l E n0 m0 0 [(0, .ref (e_z E + x1)), (1, .int x2), (2, .ref (e_z E + x3))] [] h0 (m_L_returnsAt x1 x2 x3 h0) := by
  unfold m_L_returnsAt
  refine g_aload_n (pc := 0) dL_returnsAt_0 2 rfl ?_
  refine g_iconst (pc := 1) dL_returnsAt_1 ci_0 ?_
  refine g_aload_n (pc := 2) dL_returnsAt_2 0 rfl ?_
  refine g_iload_n (pc := 3) dL_returnsAt_3 1 rfl ?_
  refine g_gS (fun hs => ?_)
  refine g_bCi (pc := 4) (c_V cl11 hs (p_X11_returnsAt hl x1 x2 h0) y_X11_returnsAt tw1135 dL_returnsAt_4 rfl (st := [.int (0 : Int32), .ref (e_z E + x3)]) rfl (Nat.le_of_ble_eq_true rfl) (Nat.le_of_ble_eq_true rfl) (Nat.le_of_ble_eq_true rfl)) (fun x4 h1 => ?_) (fun X4 h2 => ?_)
  · refine g_i2l (pc := 7) dL_returnsAt_7 ?_
    refine g_last (pc := 8) dL_returnsAt_8 (fun h3 => ?_)
    refine g_goto (pc := 9) (tgt := 15) dL_returnsAt_9 rfl ?_
    refine g_iconst (pc := 15) dL_returnsAt_15 ci_0 ?_
    exact g_ret (pc := 16) rfl (isRet_i _) dL_returnsAt_16 rfl
  · by_cases hX : X4 = "java/lang/IndexOutOfBoundsException"
    · rw [if_pos hX]
      subst hX
      refine Or.inr ⟨[], ⟨0, 9, 12, 19⟩, [], _, rfl, (fun z hz => nomatch hz), by decide, by decide, tw617, tw624, fun q5 => ?_⟩
      refine g_astore_n (pc := 12) (lv' := [(3, .ref q5), (0, .ref (e_z E + x1)), (1, .int x2), (2, .ref (e_z E + x3))]) dL_returnsAt_12 (Nat.le_of_ble_eq_true rfl) rfl ?_
      refine g_iconst (pc := 13) dL_returnsAt_13 ci_1 ?_
      exact g_ret (pc := 14) rfl (isRet_i _) dL_returnsAt_14 rfl
    · rw [if_neg hX]
      exact Or.inl rfl
theorem p_L_returnsAt {l : Launch} {E : aE} (hl : l.stackTraces = false) (x1 : Nat) (x2 : Int32) (x3 : Nat) (h0 : aH) : MO (fun (v : Int32) => .inl (some (.int v))) l E yL_returnsAt (.codeWith yL_returnsAt cL_returnsAt 4 (some .int) [(0, 9, 12, 19)]) 8 132 [.ref (e_z E + x1), .int x2, .ref (e_z E + x3)] h0 (m_L_returnsAt x1 x2 x3 h0) := g_metH hl (by decide +kernel) (Nat.le_of_ble_eq_true rfl) (b_L_returnsAt hl _ _ x1 x2 x3 h0)
theorem dL_cost_0 : decode cL_cost 0 = .ok (.aload_n 2, 1) := by decide +kernel
theorem dL_cost_1 : decode cL_cost 1 = .ok (.iconst 0, 1) := by decide +kernel
theorem dL_cost_2 : decode cL_cost 2 = .ok (.aload_n 0, 1) := by decide +kernel
theorem dL_cost_3 : decode cL_cost 3 = .ok (.iload_n 1, 1) := by decide +kernel
theorem dL_cost_4 : decode cL_cost 4 = .ok (.invokevirtual 91, 3) := by decide +kernel
theorem dL_cost_7 : decode cL_cost 7 = .ok (.i2l, 1) := by decide +kernel
theorem dL_cost_8 : decode cL_cost 8 = .ok (.lastore, 1) := by decide +kernel
theorem dL_cost_9 : decode cL_cost 9 = .ok (.goto 6, 3) := by decide +kernel
theorem dL_cost_12 : decode cL_cost 12 = .ok (.astore_n 3, 1) := by decide +kernel
theorem dL_cost_13 : decode cL_cost 13 = .ok (.iconst 1, 1) := by decide +kernel
theorem dL_cost_14 : decode cL_cost 14 = .ok (.ireturn, 1) := by decide +kernel
theorem dL_cost_15 : decode cL_cost 15 = .ok (.iconst 0, 1) := by decide +kernel
theorem dL_cost_16 : decode cL_cost 16 = .ok (.ireturn, 1) := by decide +kernel
abbrev M_L_cost : aM := (yL_cost.cls, cL_cost, 4, (some .int), tableOf [(0, 9, 12, 19)], yL_cost.name == "<init>")
abbrev J_L_cost (l : Launch) (E : aE) (n0 m0 : Nat) := GG (fun (v : Int32) => .inl (some (.int v))) l E M_L_cost 8 132 n0 m0
theorem b_L_cost {l : Launch} {E : aE} (hl : l.stackTraces = false) (n0 m0 : Nat) (x1 : Nat) (x2 : Int32) (x3 : Nat) (h0 : aH) : J_L_cost l E n0 m0 0 [(0, .ref (e_z E + x1)), (1, .int x2), (2, .ref (e_z E + x3))] [] h0 (m_L_cost x1 x2 x3 h0) := by
  unfold m_L_cost
  refine g_aload_n (pc := 0) dL_cost_0 2 rfl ?_
  refine g_iconst (pc := 1) dL_cost_1 ci_0 ?_
  refine g_aload_n (pc := 2) dL_cost_2 0 rfl ?_
  refine g_iload_n (pc := 3) dL_cost_3 1 rfl ?_
  refine g_gS (fun hs => ?_)
  refine g_bCi (pc := 4) (c_V cl11 hs (p_X11_cost hl x1 x2 h0) y_X11_cost tw1151 dL_cost_4 rfl (st := [.int (0 : Int32), .ref (e_z E + x3)]) rfl (Nat.le_of_ble_eq_true rfl) (Nat.le_of_ble_eq_true rfl) (Nat.le_of_ble_eq_true rfl)) (fun x4 h1 => ?_) (fun X4 h2 => ?_)
  · refine g_i2l (pc := 7) dL_cost_7 ?_
    refine g_last (pc := 8) dL_cost_8 (fun h3 => ?_)
    refine g_goto (pc := 9) (tgt := 15) dL_cost_9 rfl ?_
    refine g_iconst (pc := 15) dL_cost_15 ci_0 ?_
    exact g_ret (pc := 16) rfl (isRet_i _) dL_cost_16 rfl
  · by_cases hX : X4 = "java/lang/IndexOutOfBoundsException"
    · rw [if_pos hX]
      subst hX
      refine Or.inr ⟨[], ⟨0, 9, 12, 19⟩, [], _, rfl, (fun z hz => nomatch hz), by decide, by decide, tw617, tw624, fun q5 => ?_⟩
      refine g_astore_n (pc := 12) (lv' := [(3, .ref q5), (0, .ref (e_z E + x1)), (1, .int x2), (2, .ref (e_z E + x3))]) dL_cost_12 (Nat.le_of_ble_eq_true rfl) rfl ?_
      refine g_iconst (pc := 13) dL_cost_13 ci_1 ?_
      exact g_ret (pc := 14) rfl (isRet_i _) dL_cost_14 rfl
    · rw [if_neg hX]
      exact Or.inl rfl
theorem p_L_cost {l : Launch} {E : aE} (hl : l.stackTraces = false) (x1 : Nat) (x2 : Int32) (x3 : Nat) (h0 : aH) : MO (fun (v : Int32) => .inl (some (.int v))) l E yL_cost (.codeWith yL_cost cL_cost 4 (some .int) [(0, 9, 12, 19)]) 8 132 [.ref (e_z E + x1), .int x2, .ref (e_z E + x3)] h0 (m_L_cost x1 x2 x3 h0) := g_metH hl (by decide +kernel) (Nat.le_of_ble_eq_true rfl) (b_L_cost hl _ _ x1 x2 x3 h0)
theorem dL_isAnswered_0 : decode cL_isAnswered 0 = .ok (.aload_n 2, 1) := by decide +kernel
theorem dL_isAnswered_1 : decode cL_isAnswered 1 = .ok (.iconst 0, 1) := by decide +kernel
theorem dL_isAnswered_2 : decode cL_isAnswered 2 = .ok (.aload_n 0, 1) := by decide +kernel
theorem dL_isAnswered_3 : decode cL_isAnswered 3 = .ok (.iload_n 1, 1) := by decide +kernel
theorem dL_isAnswered_4 : decode cL_isAnswered 4 = .ok (.invokevirtual 94, 3) := by decide +kernel
theorem dL_isAnswered_7 : decode cL_isAnswered 7 = .ok (.ifCond .eq 7, 3) := by decide +kernel
theorem dL_isAnswered_10 : decode cL_isAnswered 10 = .ok (.lconst 1, 1) := by decide +kernel
theorem dL_isAnswered_11 : decode cL_isAnswered 11 = .ok (.goto 4, 3) := by decide +kernel
theorem dL_isAnswered_14 : decode cL_isAnswered 14 = .ok (.lconst 0, 1) := by decide +kernel
theorem dL_isAnswered_15 : decode cL_isAnswered 15 = .ok (.lastore, 1) := by decide +kernel
theorem dL_isAnswered_16 : decode cL_isAnswered 16 = .ok (.goto 6, 3) := by decide +kernel
theorem dL_isAnswered_19 : decode cL_isAnswered 19 = .ok (.astore_n 3, 1) := by decide +kernel
theorem dL_isAnswered_20 : decode cL_isAnswered 20 = .ok (.iconst 1, 1) := by decide +kernel
theorem dL_isAnswered_21 : decode cL_isAnswered 21 = .ok (.ireturn, 1) := by decide +kernel
theorem dL_isAnswered_22 : decode cL_isAnswered 22 = .ok (.iconst 0, 1) := by decide +kernel
theorem dL_isAnswered_23 : decode cL_isAnswered 23 = .ok (.ireturn, 1) := by decide +kernel
abbrev M_L_isAnswered : aM := (yL_isAnswered.cls, cL_isAnswered, 4, (some .int), tableOf [(0, 16, 19, 19)], yL_isAnswered.name == "<init>")
abbrev J_L_isAnswered (l : Launch) (E : aE) (n0 m0 : Nat) := GG (fun (v : Int32) => .inl (some (.int v))) l E M_L_isAnswered 8 132 n0 m0
theorem b_L_isAnswered {l : Launch} {E : aE} (hl : l.stackTraces = false) (n0 m0 : Nat) (x1 : Nat) (x2 : Int32) (x3 : Nat) (h0 : aH) : J_L_isAnswered l E n0 m0 0 [(0, .ref (e_z E + x1)), (1, .int x2), (2, .ref (e_z E + x3))] [] h0 (m_L_isAnswered x1 x2 x3 h0) := by
  unfold m_L_isAnswered
  refine g_aload_n (pc := 0) dL_isAnswered_0 2 rfl ?_
  refine g_iconst (pc := 1) dL_isAnswered_1 ci_0 ?_
  refine g_aload_n (pc := 2) dL_isAnswered_2 0 rfl ?_
  refine g_iload_n (pc := 3) dL_isAnswered_3 1 rfl ?_
  refine g_gS (fun hs => ?_)
  refine g_bCi (pc := 4) (c_V cl11 hs (p_X11_isAnswered hl x1 x2 h0) y_X11_isAnswered tw1163 dL_isAnswered_4 rfl (st := [.int (0 : Int32), .ref (e_z E + x3)]) rfl (Nat.le_of_ble_eq_true rfl) (Nat.le_of_ble_eq_true rfl) (Nat.le_of_ble_eq_true rfl)) (fun x4 h1 => ?_) (fun X4 h2 => ?_)
  · refine g_join (fun k => ∀ (x6 : Int64) (h3 : aH), J_L_isAnswered l E n0 m0 15 [] [.long x6, .int (0 : Int32), .ref (e_z E + x3)] h3 (k x6 h3)) (fun x6 h3 => ?_) (fun k15 hk15 => ?_)
    · refine g_last (pc := 15) dL_isAnswered_15 (fun h4 => ?_)
      refine g_goto (pc := 16) (tgt := 22) dL_isAnswered_16 rfl ?_
      refine g_iconst (pc := 22) dL_isAnswered_22 ci_0 ?_
      exact g_ret (pc := 23) rfl (isRet_i _) dL_isAnswered_23 rfl
    refine g_ifeq (pc := 7) (tgt := 14) dL_isAnswered_7 rfl ?_ ?_
    · refine g_lconst (pc := 14) dL_isAnswered_14 cl_0 ?_
      refine g_lv [] rfl ?_
      exact hk15 (0 : Int64) h1
    · refine g_lconst (pc := 10) dL_isAnswered_10 cl_1 ?_
      refine g_goto (pc := 11) (tgt := 15) dL_isAnswered_11 rfl ?_
      refine g_lv [] rfl ?_
      exact hk15 (1 : Int64) h1
  · by_cases hX : X4 = "java/lang/IndexOutOfBoundsException"
    · rw [if_pos hX]
      subst hX
      refine Or.inr ⟨[], ⟨0, 16, 19, 19⟩, [], _, rfl, (fun z hz => nomatch hz), by decide, by decide, tw617, tw624, fun q5 => ?_⟩
      refine g_astore_n (pc := 19) (lv' := [(3, .ref q5), (0, .ref (e_z E + x1)), (1, .int x2), (2, .ref (e_z E + x3))]) dL_isAnswered_19 (Nat.le_of_ble_eq_true rfl) rfl ?_
      refine g_iconst (pc := 20) dL_isAnswered_20 ci_1 ?_
      exact g_ret (pc := 21) rfl (isRet_i _) dL_isAnswered_21 rfl
    · rw [if_neg hX]
      exact Or.inl rfl
theorem p_L_isAnswered {l : Launch} {E : aE} (hl : l.stackTraces = false) (x1 : Nat) (x2 : Int32) (x3 : Nat) (h0 : aH) : MO (fun (v : Int32) => .inl (some (.int v))) l E yL_isAnswered (.codeWith yL_isAnswered cL_isAnswered 4 (some .int) [(0, 16, 19, 19)]) 8 132 [.ref (e_z E + x1), .int x2, .ref (e_z E + x3)] h0 (m_L_isAnswered x1 x2 x3 h0) := g_metH hl (by decide +kernel) (Nat.le_of_ble_eq_true rfl) (b_L_isAnswered hl _ _ x1 x2 x3 h0)
theorem dL_came_0 : decode cL_came 0 = .ok (.aload_n 2, 1) := by decide +kernel
theorem dL_came_1 : decode cL_came 1 = .ok (.iconst 0, 1) := by decide +kernel
theorem dL_came_2 : decode cL_came 2 = .ok (.aload_n 0, 1) := by decide +kernel
theorem dL_came_3 : decode cL_came 3 = .ok (.iload_n 1, 1) := by decide +kernel
theorem dL_came_4 : decode cL_came 4 = .ok (.invokevirtual 98, 3) := by decide +kernel
theorem dL_came_7 : decode cL_came 7 = .ok (.i2l, 1) := by decide +kernel
theorem dL_came_8 : decode cL_came 8 = .ok (.lastore, 1) := by decide +kernel
theorem dL_came_9 : decode cL_came 9 = .ok (.goto 6, 3) := by decide +kernel
theorem dL_came_12 : decode cL_came 12 = .ok (.astore_n 3, 1) := by decide +kernel
theorem dL_came_13 : decode cL_came 13 = .ok (.iconst 1, 1) := by decide +kernel
theorem dL_came_14 : decode cL_came 14 = .ok (.ireturn, 1) := by decide +kernel
theorem dL_came_15 : decode cL_came 15 = .ok (.iconst 0, 1) := by decide +kernel
theorem dL_came_16 : decode cL_came 16 = .ok (.ireturn, 1) := by decide +kernel
abbrev M_L_came : aM := (yL_came.cls, cL_came, 4, (some .int), tableOf [(0, 9, 12, 19)], yL_came.name == "<init>")
abbrev J_L_came (l : Launch) (E : aE) (n0 m0 : Nat) := GG (fun (v : Int32) => .inl (some (.int v))) l E M_L_came 8 132 n0 m0
theorem b_L_came {l : Launch} {E : aE} (hl : l.stackTraces = false) (n0 m0 : Nat) (x1 : Nat) (x2 : Int32) (x3 : Nat) (h0 : aH) : J_L_came l E n0 m0 0 [(0, .ref (e_z E + x1)), (1, .int x2), (2, .ref (e_z E + x3))] [] h0 (m_L_came x1 x2 x3 h0) := by
  unfold m_L_came
  refine g_aload_n (pc := 0) dL_came_0 2 rfl ?_
  refine g_iconst (pc := 1) dL_came_1 ci_0 ?_
  refine g_aload_n (pc := 2) dL_came_2 0 rfl ?_
  refine g_iload_n (pc := 3) dL_came_3 1 rfl ?_
  refine g_gS (fun hs => ?_)
  refine g_bCi (pc := 4) (c_V cl11 hs (p_X11_came hl x1 x2 h0) y_X11_came tw1171 dL_came_4 rfl (st := [.int (0 : Int32), .ref (e_z E + x3)]) rfl (Nat.le_of_ble_eq_true rfl) (Nat.le_of_ble_eq_true rfl) (Nat.le_of_ble_eq_true rfl)) (fun x4 h1 => ?_) (fun X4 h2 => ?_)
  · refine g_i2l (pc := 7) dL_came_7 ?_
    refine g_last (pc := 8) dL_came_8 (fun h3 => ?_)
    refine g_goto (pc := 9) (tgt := 15) dL_came_9 rfl ?_
    refine g_iconst (pc := 15) dL_came_15 ci_0 ?_
    exact g_ret (pc := 16) rfl (isRet_i _) dL_came_16 rfl
  · by_cases hX : X4 = "java/lang/IndexOutOfBoundsException"
    · rw [if_pos hX]
      subst hX
      refine Or.inr ⟨[], ⟨0, 9, 12, 19⟩, [], _, rfl, (fun z hz => nomatch hz), by decide, by decide, tw617, tw624, fun q5 => ?_⟩
      refine g_astore_n (pc := 12) (lv' := [(3, .ref q5), (0, .ref (e_z E + x1)), (1, .int x2), (2, .ref (e_z E + x3))]) dL_came_12 (Nat.le_of_ble_eq_true rfl) rfl ?_
      refine g_iconst (pc := 13) dL_came_13 ci_1 ?_
      exact g_ret (pc := 14) rfl (isRet_i _) dL_came_14 rfl
    · rw [if_neg hX]
      exact Or.inl rfl
theorem p_L_came {l : Launch} {E : aE} (hl : l.stackTraces = false) (x1 : Nat) (x2 : Int32) (x3 : Nat) (h0 : aH) : MO (fun (v : Int32) => .inl (some (.int v))) l E yL_came (.codeWith yL_came cL_came 4 (some .int) [(0, 9, 12, 19)]) 8 132 [.ref (e_z E + x1), .int x2, .ref (e_z E + x3)] h0 (m_L_came x1 x2 x3 h0) := g_metH hl (by decide +kernel) (Nat.le_of_ble_eq_true rfl) (b_L_came hl _ _ x1 x2 x3 h0)
theorem dL_left_0 : decode cL_left 0 = .ok (.aload_n 2, 1) := by decide +kernel
theorem dL_left_1 : decode cL_left 1 = .ok (.iconst 0, 1) := by decide +kernel
theorem dL_left_2 : decode cL_left 2 = .ok (.aload_n 0, 1) := by decide +kernel
theorem dL_left_3 : decode cL_left 3 = .ok (.iload_n 1, 1) := by decide +kernel
theorem dL_left_4 : decode cL_left 4 = .ok (.invokevirtual 101, 3) := by decide +kernel
theorem dL_left_7 : decode cL_left 7 = .ok (.i2l, 1) := by decide +kernel
theorem dL_left_8 : decode cL_left 8 = .ok (.lastore, 1) := by decide +kernel
theorem dL_left_9 : decode cL_left 9 = .ok (.goto 6, 3) := by decide +kernel
theorem dL_left_12 : decode cL_left 12 = .ok (.astore_n 3, 1) := by decide +kernel
theorem dL_left_13 : decode cL_left 13 = .ok (.iconst 1, 1) := by decide +kernel
theorem dL_left_14 : decode cL_left 14 = .ok (.ireturn, 1) := by decide +kernel
theorem dL_left_15 : decode cL_left 15 = .ok (.iconst 0, 1) := by decide +kernel
theorem dL_left_16 : decode cL_left 16 = .ok (.ireturn, 1) := by decide +kernel
abbrev M_L_left : aM := (yL_left.cls, cL_left, 4, (some .int), tableOf [(0, 9, 12, 19)], yL_left.name == "<init>")
abbrev J_L_left (l : Launch) (E : aE) (n0 m0 : Nat) := GG (fun (v : Int32) => .inl (some (.int v))) l E M_L_left 8 132 n0 m0
theorem b_L_left {l : Launch} {E : aE} (hl : l.stackTraces = false) (n0 m0 : Nat) (x1 : Nat) (x2 : Int32) (x3 : Nat) (h0 : aH) : J_L_left l E n0 m0 0 [(0, .ref (e_z E + x1)), (1, .int x2), (2, .ref (e_z E + x3))] [] h0 (m_L_left x1 x2 x3 h0) := by
  unfold m_L_left
  refine g_aload_n (pc := 0) dL_left_0 2 rfl ?_
  refine g_iconst (pc := 1) dL_left_1 ci_0 ?_
  refine g_aload_n (pc := 2) dL_left_2 0 rfl ?_
  refine g_iload_n (pc := 3) dL_left_3 1 rfl ?_
  refine g_gS (fun hs => ?_)
  refine g_bCi (pc := 4) (c_V cl11 hs (p_X11_left hl x1 x2 h0) y_X11_left tw1178 dL_left_4 rfl (st := [.int (0 : Int32), .ref (e_z E + x3)]) rfl (Nat.le_of_ble_eq_true rfl) (Nat.le_of_ble_eq_true rfl) (Nat.le_of_ble_eq_true rfl)) (fun x4 h1 => ?_) (fun X4 h2 => ?_)
  · refine g_i2l (pc := 7) dL_left_7 ?_
    refine g_last (pc := 8) dL_left_8 (fun h3 => ?_)
    refine g_goto (pc := 9) (tgt := 15) dL_left_9 rfl ?_
    refine g_iconst (pc := 15) dL_left_15 ci_0 ?_
    exact g_ret (pc := 16) rfl (isRet_i _) dL_left_16 rfl
  · by_cases hX : X4 = "java/lang/IndexOutOfBoundsException"
    · rw [if_pos hX]
      subst hX
      refine Or.inr ⟨[], ⟨0, 9, 12, 19⟩, [], _, rfl, (fun z hz => nomatch hz), by decide, by decide, tw617, tw624, fun q5 => ?_⟩
      refine g_astore_n (pc := 12) (lv' := [(3, .ref q5), (0, .ref (e_z E + x1)), (1, .int x2), (2, .ref (e_z E + x3))]) dL_left_12 (Nat.le_of_ble_eq_true rfl) rfl ?_
      refine g_iconst (pc := 13) dL_left_13 ci_1 ?_
      exact g_ret (pc := 14) rfl (isRet_i _) dL_left_14 rfl
    · rw [if_neg hX]
      exact Or.inl rfl
theorem p_L_left {l : Launch} {E : aE} (hl : l.stackTraces = false) (x1 : Nat) (x2 : Int32) (x3 : Nat) (h0 : aH) : MO (fun (v : Int32) => .inl (some (.int v))) l E yL_left (.codeWith yL_left cL_left 4 (some .int) [(0, 9, 12, 19)]) 8 132 [.ref (e_z E + x1), .int x2, .ref (e_z E + x3)] h0 (m_L_left x1 x2 x3 h0) := g_metH hl (by decide +kernel) (Nat.le_of_ble_eq_true rfl) (b_L_left hl _ _ x1 x2 x3 h0)
theorem dL_engine_0 : decode cL_engine 0 = .ok (.aload_n 3, 1) := by decide +kernel
theorem dL_engine_1 : decode cL_engine 1 = .ok (.iconst 0, 1) := by decide +kernel
theorem dL_engine_2 : decode cL_engine 2 = .ok (.aload_n 0, 1) := by decide +kernel
theorem dL_engine_3 : decode cL_engine 3 = .ok (.iload_n 1, 1) := by decide +kernel
theorem dL_engine_4 : decode cL_engine 4 = .ok (.iload_n 2, 1) := by decide +kernel
theorem dL_engine_5 : decode cL_engine 5 = .ok (.invokevirtual 104, 3) := by decide +kernel
theorem dL_engine_8 : decode cL_engine 8 = .ok (.i2l, 1) := by decide +kernel
theorem dL_engine_9 : decode cL_engine 9 = .ok (.lastore, 1) := by decide +kernel
theorem dL_engine_10 : decode cL_engine 10 = .ok (.goto 7, 3) := by decide +kernel
theorem dL_engine_13 : decode cL_engine 13 = .ok (.astore 4, 2) := by decide +kernel
theorem dL_engine_15 : decode cL_engine 15 = .ok (.iconst 1, 1) := by decide +kernel
theorem dL_engine_16 : decode cL_engine 16 = .ok (.ireturn, 1) := by decide +kernel
theorem dL_engine_17 : decode cL_engine 17 = .ok (.iconst 0, 1) := by decide +kernel
theorem dL_engine_18 : decode cL_engine 18 = .ok (.ireturn, 1) := by decide +kernel
abbrev M_L_engine : aM := (yL_engine.cls, cL_engine, 5, (some .int), tableOf [(0, 10, 13, 19)], yL_engine.name == "<init>")
abbrev J_L_engine (l : Launch) (E : aE) (n0 m0 : Nat) := GG (fun (v : Int32) => .inl (some (.int v))) l E M_L_engine 9 155 n0 m0
theorem b_L_engine {l : Launch} {E : aE} (hl : l.stackTraces = false) (n0 m0 : Nat) (x1 : Nat) (x2 : Int32) (x3 : Int32) (x4 : Nat) (h0 : aH) : J_L_engine l E n0 m0 0 [(0, .ref (e_z E + x1)), (1, .int x2), (2, .int x3), (3, .ref (e_z E + x4))] [] h0 (m_L_engine x1 x2 x3 x4 h0) := by
  unfold m_L_engine
  refine g_aload_n (pc := 0) dL_engine_0 3 rfl ?_
  refine g_iconst (pc := 1) dL_engine_1 ci_0 ?_
  refine g_aload_n (pc := 2) dL_engine_2 0 rfl ?_
  refine g_iload_n (pc := 3) dL_engine_3 1 rfl ?_
  refine g_iload_n (pc := 4) dL_engine_4 2 rfl ?_
  refine g_gS (fun hs => ?_)
  refine g_bCi (pc := 5) (c_V cl11 hs (p_X11_engine hl x1 x2 x3 h0) y_X11_engine tw1185 dL_engine_5 rfl (st := [.int (0 : Int32), .ref (e_z E + x4)]) rfl (Nat.le_of_ble_eq_true rfl) (Nat.le_of_ble_eq_true rfl) (Nat.le_of_ble_eq_true rfl)) (fun x5 h1 => ?_) (fun X5 h2 => ?_)
  · refine g_i2l (pc := 8) dL_engine_8 ?_
    refine g_last (pc := 9) dL_engine_9 (fun h3 => ?_)
    refine g_goto (pc := 10) (tgt := 17) dL_engine_10 rfl ?_
    refine g_iconst (pc := 17) dL_engine_17 ci_0 ?_
    exact g_ret (pc := 18) rfl (isRet_i _) dL_engine_18 rfl
  · by_cases hX : X5 = "java/lang/IndexOutOfBoundsException"
    · rw [if_pos hX]
      subst hX
      refine Or.inr ⟨[], ⟨0, 10, 13, 19⟩, [], _, rfl, (fun z hz => nomatch hz), by decide, by decide, tw617, tw624, fun q6 => ?_⟩
      refine g_astore (pc := 13) (lv' := [(4, .ref q6), (0, .ref (e_z E + x1)), (1, .int x2), (2, .int x3), (3, .ref (e_z E + x4))]) dL_engine_13 (Nat.le_of_ble_eq_true rfl) rfl ?_
      refine g_iconst (pc := 15) dL_engine_15 ci_1 ?_
      exact g_ret (pc := 16) rfl (isRet_i _) dL_engine_16 rfl
    · rw [if_neg hX]
      exact Or.inl rfl
theorem p_L_engine {l : Launch} {E : aE} (hl : l.stackTraces = false) (x1 : Nat) (x2 : Int32) (x3 : Int32) (x4 : Nat) (h0 : aH) : MO (fun (v : Int32) => .inl (some (.int v))) l E yL_engine (.codeWith yL_engine cL_engine 5 (some .int) [(0, 10, 13, 19)]) 9 155 [.ref (e_z E + x1), .int x2, .int x3, .ref (e_z E + x4)] h0 (m_L_engine x1 x2 x3 x4 h0) := g_metH hl (by decide +kernel) (Nat.le_of_ble_eq_true rfl) (b_L_engine hl _ _ x1 x2 x3 x4 h0)
theorem dL_leftAt_0 : decode cL_leftAt 0 = .ok (.aload_n 3, 1) := by decide +kernel
theorem dL_leftAt_1 : decode cL_leftAt 1 = .ok (.iconst 0, 1) := by decide +kernel
theorem dL_leftAt_2 : decode cL_leftAt 2 = .ok (.aload_n 0, 1) := by decide +kernel
theorem dL_leftAt_3 : decode cL_leftAt 3 = .ok (.iload_n 1, 1) := by decide +kernel
theorem dL_leftAt_4 : decode cL_leftAt 4 = .ok (.iload_n 2, 1) := by decide +kernel
theorem dL_leftAt_5 : decode cL_leftAt 5 = .ok (.invokevirtual 107, 3) := by decide +kernel
theorem dL_leftAt_8 : decode cL_leftAt 8 = .ok (.i2l, 1) := by decide +kernel
theorem dL_leftAt_9 : decode cL_leftAt 9 = .ok (.lastore, 1) := by decide +kernel
theorem dL_leftAt_10 : decode cL_leftAt 10 = .ok (.goto 7, 3) := by decide +kernel
theorem dL_leftAt_13 : decode cL_leftAt 13 = .ok (.astore 4, 2) := by decide +kernel
theorem dL_leftAt_15 : decode cL_leftAt 15 = .ok (.iconst 1, 1) := by decide +kernel
theorem dL_leftAt_16 : decode cL_leftAt 16 = .ok (.ireturn, 1) := by decide +kernel
theorem dL_leftAt_17 : decode cL_leftAt 17 = .ok (.iconst 0, 1) := by decide +kernel
theorem dL_leftAt_18 : decode cL_leftAt 18 = .ok (.ireturn, 1) := by decide +kernel
abbrev M_L_leftAt : aM := (yL_leftAt.cls, cL_leftAt, 5, (some .int), tableOf [(0, 10, 13, 19)], yL_leftAt.name == "<init>")
abbrev J_L_leftAt (l : Launch) (E : aE) (n0 m0 : Nat) := GG (fun (v : Int32) => .inl (some (.int v))) l E M_L_leftAt 9 155 n0 m0
theorem b_L_leftAt {l : Launch} {E : aE} (hl : l.stackTraces = false) (n0 m0 : Nat) (x1 : Nat) (x2 : Int32) (x3 : Int32) (x4 : Nat) (h0 : aH) : J_L_leftAt l E n0 m0 0 [(0, .ref (e_z E + x1)), (1, .int x2), (2, .int x3), (3, .ref (e_z E + x4))] [] h0 (m_L_leftAt x1 x2 x3 x4 h0) := by
  unfold m_L_leftAt
  refine g_aload_n (pc := 0) dL_leftAt_0 3 rfl ?_
  refine g_iconst (pc := 1) dL_leftAt_1 ci_0 ?_
  refine g_aload_n (pc := 2) dL_leftAt_2 0 rfl ?_
  refine g_iload_n (pc := 3) dL_leftAt_3 1 rfl ?_
  refine g_iload_n (pc := 4) dL_leftAt_4 2 rfl ?_
  refine g_gS (fun hs => ?_)
  refine g_bCi (pc := 5) (c_V cl11 hs (p_X11_leftAt hl x1 x2 x3 h0) y_X11_leftAt tw1197 dL_leftAt_5 rfl (st := [.int (0 : Int32), .ref (e_z E + x4)]) rfl (Nat.le_of_ble_eq_true rfl) (Nat.le_of_ble_eq_true rfl) (Nat.le_of_ble_eq_true rfl)) (fun x5 h1 => ?_) (fun X5 h2 => ?_)
  · refine g_i2l (pc := 8) dL_leftAt_8 ?_
    refine g_last (pc := 9) dL_leftAt_9 (fun h3 => ?_)
    refine g_goto (pc := 10) (tgt := 17) dL_leftAt_10 rfl ?_
    refine g_iconst (pc := 17) dL_leftAt_17 ci_0 ?_
    exact g_ret (pc := 18) rfl (isRet_i _) dL_leftAt_18 rfl
  · by_cases hX : X5 = "java/lang/IndexOutOfBoundsException"
    · rw [if_pos hX]
      subst hX
      refine Or.inr ⟨[], ⟨0, 10, 13, 19⟩, [], _, rfl, (fun z hz => nomatch hz), by decide, by decide, tw617, tw624, fun q6 => ?_⟩
      refine g_astore (pc := 13) (lv' := [(4, .ref q6), (0, .ref (e_z E + x1)), (1, .int x2), (2, .int x3), (3, .ref (e_z E + x4))]) dL_leftAt_13 (Nat.le_of_ble_eq_true rfl) rfl ?_
      refine g_iconst (pc := 15) dL_leftAt_15 ci_1 ?_
      exact g_ret (pc := 16) rfl (isRet_i _) dL_leftAt_16 rfl
    · rw [if_neg hX]
      exact Or.inl rfl
theorem p_L_leftAt {l : Launch} {E : aE} (hl : l.stackTraces = false) (x1 : Nat) (x2 : Int32) (x3 : Int32) (x4 : Nat) (h0 : aH) : MO (fun (v : Int32) => .inl (some (.int v))) l E yL_leftAt (.codeWith yL_leftAt cL_leftAt 5 (some .int) [(0, 10, 13, 19)]) 9 155 [.ref (e_z E + x1), .int x2, .int x3, .ref (e_z E + x4)] h0 (m_L_leftAt x1 x2 x3 x4 h0) := g_metH hl (by decide +kernel) (Nat.le_of_ble_eq_true rfl) (b_L_leftAt hl _ _ x1 x2 x3 x4 h0)
theorem dL_member_0 : decode cL_member 0 = .ok (.aload 4, 2) := by decide +kernel
theorem dL_member_2 : decode cL_member 2 = .ok (.iconst 0, 1) := by decide +kernel
theorem dL_member_3 : decode cL_member 3 = .ok (.aload_n 0, 1) := by decide +kernel
theorem dL_member_4 : decode cL_member 4 = .ok (.iload_n 1, 1) := by decide +kernel
theorem dL_member_5 : decode cL_member 5 = .ok (.iload_n 2, 1) := by decide +kernel
theorem dL_member_6 : decode cL_member 6 = .ok (.iload_n 3, 1) := by decide +kernel
theorem dL_member_7 : decode cL_member 7 = .ok (.invokevirtual 110, 3) := by decide +kernel
theorem dL_member_10 : decode cL_member 10 = .ok (.i2l, 1) := by decide +kernel
theorem dL_member_11 : decode cL_member 11 = .ok (.lastore, 1) := by decide +kernel
theorem dL_member_12 : decode cL_member 12 = .ok (.goto 7, 3) := by decide +kernel
theorem dL_member_15 : decode cL_member 15 = .ok (.astore 5, 2) := by decide +kernel
theorem dL_member_17 : decode cL_member 17 = .ok (.iconst 1, 1) := by decide +kernel
theorem dL_member_18 : decode cL_member 18 = .ok (.ireturn, 1) := by decide +kernel
theorem dL_member_19 : decode cL_member 19 = .ok (.iconst 0, 1) := by decide +kernel
theorem dL_member_20 : decode cL_member 20 = .ok (.ireturn, 1) := by decide +kernel
abbrev M_L_member : aM := (yL_member.cls, cL_member, 6, (some .int), tableOf [(0, 12, 15, 19)], yL_member.name == "<init>")
abbrev J_L_member (l : Launch) (E : aE) (n0 m0 : Nat) := GG (fun (v : Int32) => .inl (some (.int v))) l E M_L_member 9 157 n0 m0
theorem b_L_member {l : Launch} {E : aE} (hl : l.stackTraces = false) (n0 m0 : Nat) (x1 : Nat) (x2 : Int32) (x3 : Int32) (x4 : Int32) (x5 : Nat) (h0 : aH) : J_L_member l E n0 m0 0 [(0, .ref (e_z E + x1)), (1, .int x2), (2, .int x3), (3, .int x4), (4, .ref (e_z E + x5))] [] h0 (m_L_member x1 x2 x3 x4 x5 h0) := by
  unfold m_L_member
  refine g_aload (pc := 0) dL_member_0 4 rfl ?_
  refine g_iconst (pc := 2) dL_member_2 ci_0 ?_
  refine g_aload_n (pc := 3) dL_member_3 0 rfl ?_
  refine g_iload_n (pc := 4) dL_member_4 1 rfl ?_
  refine g_iload_n (pc := 5) dL_member_5 2 rfl ?_
  refine g_iload_n (pc := 6) dL_member_6 3 rfl ?_
  refine g_gS (fun hs => ?_)
  refine g_bCi (pc := 7) (c_V cl11 hs (p_X11_member hl x1 x2 x3 x4 h0) y_X11_member tw1204 dL_member_7 rfl (st := [.int (0 : Int32), .ref (e_z E + x5)]) rfl (Nat.le_of_ble_eq_true rfl) (Nat.le_of_ble_eq_true rfl) (Nat.le_of_ble_eq_true rfl)) (fun x6 h1 => ?_) (fun X7 h2 => ?_)
  · refine g_i2l (pc := 10) dL_member_10 ?_
    refine g_last (pc := 11) dL_member_11 (fun h3 => ?_)
    refine g_goto (pc := 12) (tgt := 19) dL_member_12 rfl ?_
    refine g_iconst (pc := 19) dL_member_19 ci_0 ?_
    exact g_ret (pc := 20) rfl (isRet_i _) dL_member_20 rfl
  · by_cases hX : X7 = "java/lang/IndexOutOfBoundsException"
    · rw [if_pos hX]
      subst hX
      refine Or.inr ⟨[], ⟨0, 12, 15, 19⟩, [], _, rfl, (fun z hz => nomatch hz), by decide, by decide, tw617, tw624, fun q7 => ?_⟩
      refine g_astore (pc := 15) (lv' := [(5, .ref q7), (0, .ref (e_z E + x1)), (1, .int x2), (2, .int x3), (3, .int x4), (4, .ref (e_z E + x5))]) dL_member_15 (Nat.le_of_ble_eq_true rfl) rfl ?_
      refine g_iconst (pc := 17) dL_member_17 ci_1 ?_
      exact g_ret (pc := 18) rfl (isRet_i _) dL_member_18 rfl
    · rw [if_neg hX]
      exact Or.inl rfl
theorem p_L_member {l : Launch} {E : aE} (hl : l.stackTraces = false) (x1 : Nat) (x2 : Int32) (x3 : Int32) (x4 : Int32) (x5 : Nat) (h0 : aH) : MO (fun (v : Int32) => .inl (some (.int v))) l E yL_member (.codeWith yL_member cL_member 6 (some .int) [(0, 12, 15, 19)]) 9 157 [.ref (e_z E + x1), .int x2, .int x3, .int x4, .ref (e_z E + x5)] h0 (m_L_member x1 x2 x3 x4 x5 h0) := g_metH hl (by decide +kernel) (Nat.le_of_ble_eq_true rfl) (b_L_member hl _ _ x1 x2 x3 x4 x5 h0)
theorem dL_whyAbsent_0 : decode cL_whyAbsent 0 = .ok (.aload_n 3, 1) := by decide +kernel
theorem dL_whyAbsent_1 : decode cL_whyAbsent 1 = .ok (.iconst 0, 1) := by decide +kernel
theorem dL_whyAbsent_2 : decode cL_whyAbsent 2 = .ok (.aload_n 0, 1) := by decide +kernel
theorem dL_whyAbsent_3 : decode cL_whyAbsent 3 = .ok (.iload_n 1, 1) := by decide +kernel
theorem dL_whyAbsent_4 : decode cL_whyAbsent 4 = .ok (.iload_n 2, 1) := by decide +kernel
theorem dL_whyAbsent_5 : decode cL_whyAbsent 5 = .ok (.invokevirtual 113, 3) := by decide +kernel
theorem dL_whyAbsent_8 : decode cL_whyAbsent 8 = .ok (.i2l, 1) := by decide +kernel
theorem dL_whyAbsent_9 : decode cL_whyAbsent 9 = .ok (.lastore, 1) := by decide +kernel
theorem dL_whyAbsent_10 : decode cL_whyAbsent 10 = .ok (.goto 7, 3) := by decide +kernel
theorem dL_whyAbsent_13 : decode cL_whyAbsent 13 = .ok (.astore 4, 2) := by decide +kernel
theorem dL_whyAbsent_15 : decode cL_whyAbsent 15 = .ok (.iconst 1, 1) := by decide +kernel
theorem dL_whyAbsent_16 : decode cL_whyAbsent 16 = .ok (.ireturn, 1) := by decide +kernel
theorem dL_whyAbsent_17 : decode cL_whyAbsent 17 = .ok (.iconst 0, 1) := by decide +kernel
theorem dL_whyAbsent_18 : decode cL_whyAbsent 18 = .ok (.ireturn, 1) := by decide +kernel
abbrev M_L_whyAbsent : aM := (yL_whyAbsent.cls, cL_whyAbsent, 5, (some .int), tableOf [(0, 10, 13, 19)], yL_whyAbsent.name == "<init>")
abbrev J_L_whyAbsent (l : Launch) (E : aE) (n0 m0 : Nat) := GG (fun (v : Int32) => .inl (some (.int v))) l E M_L_whyAbsent 8 150 n0 m0
theorem b_L_whyAbsent {l : Launch} {E : aE} (hl : l.stackTraces = false) (n0 m0 : Nat) (x1 : Nat) (x2 : Int32) (x3 : Int32) (x4 : Nat) (h0 : aH) : J_L_whyAbsent l E n0 m0 0 [(0, .ref (e_z E + x1)), (1, .int x2), (2, .int x3), (3, .ref (e_z E + x4))] [] h0 (m_L_whyAbsent x1 x2 x3 x4 h0) := by
  unfold m_L_whyAbsent
  refine g_aload_n (pc := 0) dL_whyAbsent_0 3 rfl ?_
  refine g_iconst (pc := 1) dL_whyAbsent_1 ci_0 ?_
  refine g_aload_n (pc := 2) dL_whyAbsent_2 0 rfl ?_
  refine g_iload_n (pc := 3) dL_whyAbsent_3 1 rfl ?_
  refine g_iload_n (pc := 4) dL_whyAbsent_4 2 rfl ?_
  refine g_gS (fun hs => ?_)
  refine g_bCi (pc := 5) (c_V cl11 hs (p_X11_whyAbsent hl x1 x2 x3 h0) y_X11_whyAbsent tw1215 dL_whyAbsent_5 rfl (st := [.int (0 : Int32), .ref (e_z E + x4)]) rfl (Nat.le_of_ble_eq_true rfl) (Nat.le_of_ble_eq_true rfl) (Nat.le_of_ble_eq_true rfl)) (fun x5 h1 => ?_) (fun X5 h2 => ?_)
  · refine g_i2l (pc := 8) dL_whyAbsent_8 ?_
    refine g_last (pc := 9) dL_whyAbsent_9 (fun h3 => ?_)
    refine g_goto (pc := 10) (tgt := 17) dL_whyAbsent_10 rfl ?_
    refine g_iconst (pc := 17) dL_whyAbsent_17 ci_0 ?_
    exact g_ret (pc := 18) rfl (isRet_i _) dL_whyAbsent_18 rfl
  · by_cases hX : X5 = "java/lang/IndexOutOfBoundsException"
    · rw [if_pos hX]
      subst hX
      refine Or.inr ⟨[], ⟨0, 10, 13, 19⟩, [], _, rfl, (fun z hz => nomatch hz), by decide, by decide, tw617, tw624, fun q6 => ?_⟩
      refine g_astore (pc := 13) (lv' := [(4, .ref q6), (0, .ref (e_z E + x1)), (1, .int x2), (2, .int x3), (3, .ref (e_z E + x4))]) dL_whyAbsent_13 (Nat.le_of_ble_eq_true rfl) rfl ?_
      refine g_iconst (pc := 15) dL_whyAbsent_15 ci_1 ?_
      exact g_ret (pc := 16) rfl (isRet_i _) dL_whyAbsent_16 rfl
    · rw [if_neg hX]
      exact Or.inl rfl
theorem p_L_whyAbsent {l : Launch} {E : aE} (hl : l.stackTraces = false) (x1 : Nat) (x2 : Int32) (x3 : Int32) (x4 : Nat) (h0 : aH) : MO (fun (v : Int32) => .inl (some (.int v))) l E yL_whyAbsent (.codeWith yL_whyAbsent cL_whyAbsent 5 (some .int) [(0, 10, 13, 19)]) 8 150 [.ref (e_z E + x1), .int x2, .int x3, .ref (e_z E + x4)] h0 (m_L_whyAbsent x1 x2 x3 x4 h0) := g_metH hl (by decide +kernel) (Nat.le_of_ble_eq_true rfl) (b_L_whyAbsent hl _ _ x1 x2 x3 x4 h0)
theorem dL_whyStays_0 : decode cL_whyStays 0 = .ok (.aload_n 3, 1) := by decide +kernel
theorem dL_whyStays_1 : decode cL_whyStays 1 = .ok (.iconst 0, 1) := by decide +kernel
theorem dL_whyStays_2 : decode cL_whyStays 2 = .ok (.aload_n 0, 1) := by decide +kernel
theorem dL_whyStays_3 : decode cL_whyStays 3 = .ok (.iload_n 1, 1) := by decide +kernel
theorem dL_whyStays_4 : decode cL_whyStays 4 = .ok (.iload_n 2, 1) := by decide +kernel
theorem dL_whyStays_5 : decode cL_whyStays 5 = .ok (.invokevirtual 116, 3) := by decide +kernel
theorem dL_whyStays_8 : decode cL_whyStays 8 = .ok (.i2l, 1) := by decide +kernel
theorem dL_whyStays_9 : decode cL_whyStays 9 = .ok (.lastore, 1) := by decide +kernel
theorem dL_whyStays_10 : decode cL_whyStays 10 = .ok (.goto 7, 3) := by decide +kernel
theorem dL_whyStays_13 : decode cL_whyStays 13 = .ok (.astore 4, 2) := by decide +kernel
theorem dL_whyStays_15 : decode cL_whyStays 15 = .ok (.iconst 1, 1) := by decide +kernel
theorem dL_whyStays_16 : decode cL_whyStays 16 = .ok (.ireturn, 1) := by decide +kernel
theorem dL_whyStays_17 : decode cL_whyStays 17 = .ok (.iconst 0, 1) := by decide +kernel
theorem dL_whyStays_18 : decode cL_whyStays 18 = .ok (.ireturn, 1) := by decide +kernel
abbrev M_L_whyStays : aM := (yL_whyStays.cls, cL_whyStays, 5, (some .int), tableOf [(0, 10, 13, 19)], yL_whyStays.name == "<init>")
abbrev J_L_whyStays (l : Launch) (E : aE) (n0 m0 : Nat) := GG (fun (v : Int32) => .inl (some (.int v))) l E M_L_whyStays 9 155 n0 m0
theorem b_L_whyStays {l : Launch} {E : aE} (hl : l.stackTraces = false) (n0 m0 : Nat) (x1 : Nat) (x2 : Int32) (x3 : Int32) (x4 : Nat) (h0 : aH) : J_L_whyStays l E n0 m0 0 [(0, .ref (e_z E + x1)), (1, .int x2), (2, .int x3), (3, .ref (e_z E + x4))] [] h0 (m_L_whyStays x1 x2 x3 x4 h0) := by
  unfold m_L_whyStays
  refine g_aload_n (pc := 0) dL_whyStays_0 3 rfl ?_
  refine g_iconst (pc := 1) dL_whyStays_1 ci_0 ?_
  refine g_aload_n (pc := 2) dL_whyStays_2 0 rfl ?_
  refine g_iload_n (pc := 3) dL_whyStays_3 1 rfl ?_
  refine g_iload_n (pc := 4) dL_whyStays_4 2 rfl ?_
  refine g_gS (fun hs => ?_)
  refine g_bCi (pc := 5) (c_V cl11 hs (p_X11_whyStays hl x1 x2 x3 h0) y_X11_whyStays tw1272 dL_whyStays_5 rfl (st := [.int (0 : Int32), .ref (e_z E + x4)]) rfl (Nat.le_of_ble_eq_true rfl) (Nat.le_of_ble_eq_true rfl) (Nat.le_of_ble_eq_true rfl)) (fun x5 h1 => ?_) (fun X5 h2 => ?_)
  · refine g_i2l (pc := 8) dL_whyStays_8 ?_
    refine g_last (pc := 9) dL_whyStays_9 (fun h3 => ?_)
    refine g_goto (pc := 10) (tgt := 17) dL_whyStays_10 rfl ?_
    refine g_iconst (pc := 17) dL_whyStays_17 ci_0 ?_
    exact g_ret (pc := 18) rfl (isRet_i _) dL_whyStays_18 rfl
  · by_cases hX : X5 = "java/lang/IndexOutOfBoundsException"
    · rw [if_pos hX]
      subst hX
      refine Or.inr ⟨[], ⟨0, 10, 13, 19⟩, [], _, rfl, (fun z hz => nomatch hz), by decide, by decide, tw617, tw624, fun q6 => ?_⟩
      refine g_astore (pc := 13) (lv' := [(4, .ref q6), (0, .ref (e_z E + x1)), (1, .int x2), (2, .int x3), (3, .ref (e_z E + x4))]) dL_whyStays_13 (Nat.le_of_ble_eq_true rfl) rfl ?_
      refine g_iconst (pc := 15) dL_whyStays_15 ci_1 ?_
      exact g_ret (pc := 16) rfl (isRet_i _) dL_whyStays_16 rfl
    · rw [if_neg hX]
      exact Or.inl rfl
theorem p_L_whyStays {l : Launch} {E : aE} (hl : l.stackTraces = false) (x1 : Nat) (x2 : Int32) (x3 : Int32) (x4 : Nat) (h0 : aH) : MO (fun (v : Int32) => .inl (some (.int v))) l E yL_whyStays (.codeWith yL_whyStays cL_whyStays 5 (some .int) [(0, 10, 13, 19)]) 9 155 [.ref (e_z E + x1), .int x2, .int x3, .ref (e_z E + x4)] h0 (m_L_whyStays x1 x2 x3 x4 h0) := g_metH hl (by decide +kernel) (Nat.le_of_ble_eq_true rfl) (b_L_whyStays hl _ _ x1 x2 x3 x4 h0)
theorem dL_departure_0 : decode cL_departure 0 = .ok (.aload_n 3, 1) := by decide +kernel
theorem dL_departure_1 : decode cL_departure 1 = .ok (.iconst 0, 1) := by decide +kernel
theorem dL_departure_2 : decode cL_departure 2 = .ok (.aload_n 0, 1) := by decide +kernel
theorem dL_departure_3 : decode cL_departure 3 = .ok (.iload_n 1, 1) := by decide +kernel
theorem dL_departure_4 : decode cL_departure 4 = .ok (.iload_n 2, 1) := by decide +kernel
theorem dL_departure_5 : decode cL_departure 5 = .ok (.invokevirtual 119, 3) := by decide +kernel
theorem dL_departure_8 : decode cL_departure 8 = .ok (.i2l, 1) := by decide +kernel
theorem dL_departure_9 : decode cL_departure 9 = .ok (.lastore, 1) := by decide +kernel
theorem dL_departure_10 : decode cL_departure 10 = .ok (.goto 11, 3) := by decide +kernel
theorem dL_departure_13 : decode cL_departure 13 = .ok (.astore 4, 2) := by decide +kernel
theorem dL_departure_15 : decode cL_departure 15 = .ok (.iconst 1, 1) := by decide +kernel
theorem dL_departure_16 : decode cL_departure 16 = .ok (.ireturn, 1) := by decide +kernel
theorem dL_departure_17 : decode cL_departure 17 = .ok (.astore 4, 2) := by decide +kernel
theorem dL_departure_19 : decode cL_departure 19 = .ok (.iconst 2, 1) := by decide +kernel
theorem dL_departure_20 : decode cL_departure 20 = .ok (.ireturn, 1) := by decide +kernel
theorem dL_departure_21 : decode cL_departure 21 = .ok (.iconst 0, 1) := by decide +kernel
theorem dL_departure_22 : decode cL_departure 22 = .ok (.ireturn, 1) := by decide +kernel
abbrev M_L_departure : aM := (yL_departure.cls, cL_departure, 5, (some .int), tableOf [(0, 10, 13, 19), (0, 10, 17, 13)], yL_departure.name == "<init>")
abbrev J_L_departure (l : Launch) (E : aE) (n0 m0 : Nat) := GG (fun (v : Int32) => .inl (some (.int v))) l E M_L_departure 9 155 n0 m0
theorem b_L_departure {l : Launch} {E : aE} (hl : l.stackTraces = false) (n0 m0 : Nat) (x1 : Nat) (x2 : Int32) (x3 : Int32) (x4 : Nat) (h0 : aH) : J_L_departure l E n0 m0 0 [(0, .ref (e_z E + x1)), (1, .int x2), (2, .int x3), (3, .ref (e_z E + x4))] [] h0 (m_L_departure x1 x2 x3 x4 h0) := by
  unfold m_L_departure
  refine g_aload_n (pc := 0) dL_departure_0 3 rfl ?_
  refine g_iconst (pc := 1) dL_departure_1 ci_0 ?_
  refine g_aload_n (pc := 2) dL_departure_2 0 rfl ?_
  refine g_iload_n (pc := 3) dL_departure_3 1 rfl ?_
  refine g_iload_n (pc := 4) dL_departure_4 2 rfl ?_
  refine g_gS (fun hs => ?_)
  refine g_bCi (pc := 5) (c_V cl11 hs (p_X11_departure hl x1 x2 x3 h0) y_X11_departure tw1284 dL_departure_5 rfl (st := [.int (0 : Int32), .ref (e_z E + x4)]) rfl (Nat.le_of_ble_eq_true rfl) (Nat.le_of_ble_eq_true rfl) (Nat.le_of_ble_eq_true rfl)) (fun x5 h1 => ?_) (fun X5 h2 => ?_)
  · refine g_i2l (pc := 8) dL_departure_8 ?_
    refine g_last (pc := 9) dL_departure_9 (fun h3 => ?_)
    refine g_goto (pc := 10) (tgt := 21) dL_departure_10 rfl ?_
    refine g_iconst (pc := 21) dL_departure_21 ci_0 ?_
    exact g_ret (pc := 22) rfl (isRet_i _) dL_departure_22 rfl
  · by_cases hX : X5 = "java/lang/IndexOutOfBoundsException"
    · rw [if_pos hX]
      subst hX
      refine Or.inr ⟨[], ⟨0, 10, 13, 19⟩, [⟨0, 10, 17, 13⟩], _, rfl, (fun z hz => nomatch hz), by decide, by decide, tw617, tw624, fun q6 => ?_⟩
      refine g_astore (pc := 13) (lv' := [(4, .ref q6), (0, .ref (e_z E + x1)), (1, .int x2), (2, .int x3), (3, .ref (e_z E + x4))]) dL_departure_13 (Nat.le_of_ble_eq_true rfl) rfl ?_
      refine g_iconst (pc := 15) dL_departure_15 ci_1 ?_
      exact g_ret (pc := 16) rfl (isRet_i _) dL_departure_16 rfl
    · rw [if_neg hX]
      by_cases hX : X5 = "java/lang/IllegalStateException"
      · rw [if_pos hX]
        subst hX
        refine Or.inr ⟨[⟨0, 10, 13, 19⟩], ⟨0, 10, 17, 13⟩, [], _, rfl, (fun z hz => by cases List.mem_singleton.mp hz; exact Or.inr ⟨by decide, _, tw617, by decide⟩), by decide, by decide, tw537, tw544, fun q7 => ?_⟩
        refine g_astore (pc := 17) (lv' := [(4, .ref q7), (0, .ref (e_z E + x1)), (1, .int x2), (2, .int x3), (3, .ref (e_z E + x4))]) dL_departure_17 (Nat.le_of_ble_eq_true rfl) rfl ?_
        refine g_iconst (pc := 19) dL_departure_19 ci_2 ?_
        exact g_ret (pc := 20) rfl (isRet_i _) dL_departure_20 rfl
      · rw [if_neg hX]
        exact Or.inl rfl
theorem p_L_departure {l : Launch} {E : aE} (hl : l.stackTraces = false) (x1 : Nat) (x2 : Int32) (x3 : Int32) (x4 : Nat) (h0 : aH) : MO (fun (v : Int32) => .inl (some (.int v))) l E yL_departure (.codeWith yL_departure cL_departure 5 (some .int) [(0, 10, 13, 19), (0, 10, 17, 13)]) 9 155 [.ref (e_z E + x1), .int x2, .int x3, .ref (e_z E + x4)] h0 (m_L_departure x1 x2 x3 x4 h0) := g_metH hl (by decide +kernel) (Nat.le_of_ble_eq_true rfl) (b_L_departure hl _ _ x1 x2 x3 x4 h0)
theorem dL_mans_0 : decode cL_mans 0 = .ok (.aload 4, 2) := by decide +kernel
theorem dL_mans_2 : decode cL_mans 2 = .ok (.iconst 0, 1) := by decide +kernel
theorem dL_mans_3 : decode cL_mans 3 = .ok (.aload_n 0, 1) := by decide +kernel
theorem dL_mans_4 : decode cL_mans 4 = .ok (.iload_n 1, 1) := by decide +kernel
theorem dL_mans_5 : decode cL_mans 5 = .ok (.iload_n 2, 1) := by decide +kernel
theorem dL_mans_6 : decode cL_mans 6 = .ok (.iload_n 3, 1) := by decide +kernel
theorem dL_mans_7 : decode cL_mans 7 = .ok (.invokevirtual 122, 3) := by decide +kernel
theorem dL_mans_10 : decode cL_mans 10 = .ok (.i2l, 1) := by decide +kernel
theorem dL_mans_11 : decode cL_mans 11 = .ok (.lastore, 1) := by decide +kernel
theorem dL_mans_12 : decode cL_mans 12 = .ok (.goto 11, 3) := by decide +kernel
theorem dL_mans_15 : decode cL_mans 15 = .ok (.astore 5, 2) := by decide +kernel
theorem dL_mans_17 : decode cL_mans 17 = .ok (.iconst 1, 1) := by decide +kernel
theorem dL_mans_18 : decode cL_mans 18 = .ok (.ireturn, 1) := by decide +kernel
theorem dL_mans_19 : decode cL_mans 19 = .ok (.astore 5, 2) := by decide +kernel
theorem dL_mans_21 : decode cL_mans 21 = .ok (.iconst 2, 1) := by decide +kernel
theorem dL_mans_22 : decode cL_mans 22 = .ok (.ireturn, 1) := by decide +kernel
theorem dL_mans_23 : decode cL_mans 23 = .ok (.iconst 0, 1) := by decide +kernel
theorem dL_mans_24 : decode cL_mans 24 = .ok (.ireturn, 1) := by decide +kernel
abbrev M_L_mans : aM := (yL_mans.cls, cL_mans, 6, (some .int), tableOf [(0, 12, 15, 19), (0, 12, 19, 13)], yL_mans.name == "<init>")
abbrev J_L_mans (l : Launch) (E : aE) (n0 m0 : Nat) := GG (fun (v : Int32) => .inl (some (.int v))) l E M_L_mans 9 157 n0 m0
theorem b_L_mans {l : Launch} {E : aE} (hl : l.stackTraces = false) (n0 m0 : Nat) (x1 : Nat) (x2 : Int32) (x3 : Int32) (x4 : Int32) (x5 : Nat) (h0 : aH) : J_L_mans l E n0 m0 0 [(0, .ref (e_z E + x1)), (1, .int x2), (2, .int x3), (3, .int x4), (4, .ref (e_z E + x5))] [] h0 (m_L_mans x1 x2 x3 x4 x5 h0) := by
  unfold m_L_mans
  refine g_aload (pc := 0) dL_mans_0 4 rfl ?_
  refine g_iconst (pc := 2) dL_mans_2 ci_0 ?_
  refine g_aload_n (pc := 3) dL_mans_3 0 rfl ?_
  refine g_iload_n (pc := 4) dL_mans_4 1 rfl ?_
  refine g_iload_n (pc := 5) dL_mans_5 2 rfl ?_
  refine g_iload_n (pc := 6) dL_mans_6 3 rfl ?_
  refine g_gS (fun hs => ?_)
  refine g_bCi (pc := 7) (c_V cl11 hs (p_X11_mans hl x1 x2 x3 x4 h0) y_X11_mans tw1296 dL_mans_7 rfl (st := [.int (0 : Int32), .ref (e_z E + x5)]) rfl (Nat.le_of_ble_eq_true rfl) (Nat.le_of_ble_eq_true rfl) (Nat.le_of_ble_eq_true rfl)) (fun x6 h1 => ?_) (fun X7 h2 => ?_)
  · refine g_i2l (pc := 10) dL_mans_10 ?_
    refine g_last (pc := 11) dL_mans_11 (fun h3 => ?_)
    refine g_goto (pc := 12) (tgt := 23) dL_mans_12 rfl ?_
    refine g_iconst (pc := 23) dL_mans_23 ci_0 ?_
    exact g_ret (pc := 24) rfl (isRet_i _) dL_mans_24 rfl
  · by_cases hX : X7 = "java/lang/IndexOutOfBoundsException"
    · rw [if_pos hX]
      subst hX
      refine Or.inr ⟨[], ⟨0, 12, 15, 19⟩, [⟨0, 12, 19, 13⟩], _, rfl, (fun z hz => nomatch hz), by decide, by decide, tw617, tw624, fun q7 => ?_⟩
      refine g_astore (pc := 15) (lv' := [(5, .ref q7), (0, .ref (e_z E + x1)), (1, .int x2), (2, .int x3), (3, .int x4), (4, .ref (e_z E + x5))]) dL_mans_15 (Nat.le_of_ble_eq_true rfl) rfl ?_
      refine g_iconst (pc := 17) dL_mans_17 ci_1 ?_
      exact g_ret (pc := 18) rfl (isRet_i _) dL_mans_18 rfl
    · rw [if_neg hX]
      by_cases hX : X7 = "java/lang/IllegalStateException"
      · rw [if_pos hX]
        subst hX
        refine Or.inr ⟨[⟨0, 12, 15, 19⟩], ⟨0, 12, 19, 13⟩, [], _, rfl, (fun z hz => by cases List.mem_singleton.mp hz; exact Or.inr ⟨by decide, _, tw617, by decide⟩), by decide, by decide, tw537, tw544, fun q8 => ?_⟩
        refine g_astore (pc := 19) (lv' := [(5, .ref q8), (0, .ref (e_z E + x1)), (1, .int x2), (2, .int x3), (3, .int x4), (4, .ref (e_z E + x5))]) dL_mans_19 (Nat.le_of_ble_eq_true rfl) rfl ?_
        refine g_iconst (pc := 21) dL_mans_21 ci_2 ?_
        exact g_ret (pc := 22) rfl (isRet_i _) dL_mans_22 rfl
      · rw [if_neg hX]
        exact Or.inl rfl
theorem p_L_mans {l : Launch} {E : aE} (hl : l.stackTraces = false) (x1 : Nat) (x2 : Int32) (x3 : Int32) (x4 : Int32) (x5 : Nat) (h0 : aH) : MO (fun (v : Int32) => .inl (some (.int v))) l E yL_mans (.codeWith yL_mans cL_mans 6 (some .int) [(0, 12, 15, 19), (0, 12, 19, 13)]) 9 157 [.ref (e_z E + x1), .int x2, .int x3, .int x4, .ref (e_z E + x5)] h0 (m_L_mans x1 x2 x3 x4 x5 h0) := g_metH hl (by decide +kernel) (Nat.le_of_ble_eq_true rfl) (b_L_mans hl _ _ x1 x2 x3 x4 x5 h0)
theorem dL_manned_0 : decode cL_manned 0 = .ok (.aload_n 3, 1) := by decide +kernel
theorem dL_manned_1 : decode cL_manned 1 = .ok (.iconst 0, 1) := by decide +kernel
theorem dL_manned_2 : decode cL_manned 2 = .ok (.aload_n 0, 1) := by decide +kernel
theorem dL_manned_3 : decode cL_manned 3 = .ok (.iload_n 1, 1) := by decide +kernel
theorem dL_manned_4 : decode cL_manned 4 = .ok (.iload_n 2, 1) := by decide +kernel
theorem dL_manned_5 : decode cL_manned 5 = .ok (.invokevirtual 125, 3) := by decide +kernel
theorem dL_manned_8 : decode cL_manned 8 = .ok (.i2l, 1) := by decide +kernel
theorem dL_manned_9 : decode cL_manned 9 = .ok (.lastore, 1) := by decide +kernel
theorem dL_manned_10 : decode cL_manned 10 = .ok (.goto 7, 3) := by decide +kernel
theorem dL_manned_13 : decode cL_manned 13 = .ok (.astore 4, 2) := by decide +kernel
theorem dL_manned_15 : decode cL_manned 15 = .ok (.iconst 1, 1) := by decide +kernel
theorem dL_manned_16 : decode cL_manned 16 = .ok (.ireturn, 1) := by decide +kernel
theorem dL_manned_17 : decode cL_manned 17 = .ok (.iconst 0, 1) := by decide +kernel
theorem dL_manned_18 : decode cL_manned 18 = .ok (.ireturn, 1) := by decide +kernel
abbrev M_L_manned : aM := (yL_manned.cls, cL_manned, 5, (some .int), tableOf [(0, 10, 13, 19)], yL_manned.name == "<init>")
abbrev J_L_manned (l : Launch) (E : aE) (n0 m0 : Nat) := GG (fun (v : Int32) => .inl (some (.int v))) l E M_L_manned 9 155 n0 m0
theorem b_L_manned {l : Launch} {E : aE} (hl : l.stackTraces = false) (n0 m0 : Nat) (x1 : Nat) (x2 : Int32) (x3 : Int32) (x4 : Nat) (h0 : aH) : J_L_manned l E n0 m0 0 [(0, .ref (e_z E + x1)), (1, .int x2), (2, .int x3), (3, .ref (e_z E + x4))] [] h0 (m_L_manned x1 x2 x3 x4 h0) := by
  unfold m_L_manned
  refine g_aload_n (pc := 0) dL_manned_0 3 rfl ?_
  refine g_iconst (pc := 1) dL_manned_1 ci_0 ?_
  refine g_aload_n (pc := 2) dL_manned_2 0 rfl ?_
  refine g_iload_n (pc := 3) dL_manned_3 1 rfl ?_
  refine g_iload_n (pc := 4) dL_manned_4 2 rfl ?_
  refine g_gS (fun hs => ?_)
  refine g_bCi (pc := 5) (c_V cl11 hs (p_X11_manned hl x1 x2 x3 h0) y_X11_manned tw1317 dL_manned_5 rfl (st := [.int (0 : Int32), .ref (e_z E + x4)]) rfl (Nat.le_of_ble_eq_true rfl) (Nat.le_of_ble_eq_true rfl) (Nat.le_of_ble_eq_true rfl)) (fun x5 h1 => ?_) (fun X5 h2 => ?_)
  · refine g_i2l (pc := 8) dL_manned_8 ?_
    refine g_last (pc := 9) dL_manned_9 (fun h3 => ?_)
    refine g_goto (pc := 10) (tgt := 17) dL_manned_10 rfl ?_
    refine g_iconst (pc := 17) dL_manned_17 ci_0 ?_
    exact g_ret (pc := 18) rfl (isRet_i _) dL_manned_18 rfl
  · by_cases hX : X5 = "java/lang/IndexOutOfBoundsException"
    · rw [if_pos hX]
      subst hX
      refine Or.inr ⟨[], ⟨0, 10, 13, 19⟩, [], _, rfl, (fun z hz => nomatch hz), by decide, by decide, tw617, tw624, fun q6 => ?_⟩
      refine g_astore (pc := 13) (lv' := [(4, .ref q6), (0, .ref (e_z E + x1)), (1, .int x2), (2, .int x3), (3, .ref (e_z E + x4))]) dL_manned_13 (Nat.le_of_ble_eq_true rfl) rfl ?_
      refine g_iconst (pc := 15) dL_manned_15 ci_1 ?_
      exact g_ret (pc := 16) rfl (isRet_i _) dL_manned_16 rfl
    · rw [if_neg hX]
      exact Or.inl rfl
theorem p_L_manned {l : Launch} {E : aE} (hl : l.stackTraces = false) (x1 : Nat) (x2 : Int32) (x3 : Int32) (x4 : Nat) (h0 : aH) : MO (fun (v : Int32) => .inl (some (.int v))) l E yL_manned (.codeWith yL_manned cL_manned 5 (some .int) [(0, 10, 13, 19)]) 9 155 [.ref (e_z E + x1), .int x2, .int x3, .ref (e_z E + x4)] h0 (m_L_manned x1 x2 x3 x4 h0) := g_metH hl (by decide +kernel) (Nat.le_of_ble_eq_true rfl) (b_L_manned hl _ _ x1 x2 x3 x4 h0)
theorem dL_wouldAnswer_0 : decode cL_wouldAnswer 0 = .ok (.aload_n 2, 1) := by decide +kernel
theorem dL_wouldAnswer_1 : decode cL_wouldAnswer 1 = .ok (.iconst 0, 1) := by decide +kernel
theorem dL_wouldAnswer_2 : decode cL_wouldAnswer 2 = .ok (.aload_n 0, 1) := by decide +kernel
theorem dL_wouldAnswer_3 : decode cL_wouldAnswer 3 = .ok (.iload_n 1, 1) := by decide +kernel
theorem dL_wouldAnswer_4 : decode cL_wouldAnswer 4 = .ok (.invokevirtual 128, 3) := by decide +kernel
theorem dL_wouldAnswer_7 : decode cL_wouldAnswer 7 = .ok (.ifCond .eq 7, 3) := by decide +kernel
theorem dL_wouldAnswer_10 : decode cL_wouldAnswer 10 = .ok (.lconst 1, 1) := by decide +kernel
theorem dL_wouldAnswer_11 : decode cL_wouldAnswer 11 = .ok (.goto 4, 3) := by decide +kernel
theorem dL_wouldAnswer_14 : decode cL_wouldAnswer 14 = .ok (.lconst 0, 1) := by decide +kernel
theorem dL_wouldAnswer_15 : decode cL_wouldAnswer 15 = .ok (.lastore, 1) := by decide +kernel
theorem dL_wouldAnswer_16 : decode cL_wouldAnswer 16 = .ok (.goto 6, 3) := by decide +kernel
theorem dL_wouldAnswer_19 : decode cL_wouldAnswer 19 = .ok (.astore_n 3, 1) := by decide +kernel
theorem dL_wouldAnswer_20 : decode cL_wouldAnswer 20 = .ok (.iconst 1, 1) := by decide +kernel
theorem dL_wouldAnswer_21 : decode cL_wouldAnswer 21 = .ok (.ireturn, 1) := by decide +kernel
theorem dL_wouldAnswer_22 : decode cL_wouldAnswer 22 = .ok (.iconst 0, 1) := by decide +kernel
theorem dL_wouldAnswer_23 : decode cL_wouldAnswer 23 = .ok (.ireturn, 1) := by decide +kernel
abbrev M_L_wouldAnswer : aM := (yL_wouldAnswer.cls, cL_wouldAnswer, 4, (some .int), tableOf [(0, 16, 19, 19)], yL_wouldAnswer.name == "<init>")
abbrev J_L_wouldAnswer (l : Launch) (E : aE) (n0 m0 : Nat) := GG (fun (v : Int32) => .inl (some (.int v))) l E M_L_wouldAnswer 8 149 n0 m0
theorem b_L_wouldAnswer {l : Launch} {E : aE} (hl : l.stackTraces = false) (n0 m0 : Nat) (x1 : Nat) (x2 : Int32) (x3 : Nat) (h0 : aH) : J_L_wouldAnswer l E n0 m0 0 [(0, .ref (e_z E + x1)), (1, .int x2), (2, .ref (e_z E + x3))] [] h0 (m_L_wouldAnswer x1 x2 x3 h0) := by
  unfold m_L_wouldAnswer
  refine g_aload_n (pc := 0) dL_wouldAnswer_0 2 rfl ?_
  refine g_iconst (pc := 1) dL_wouldAnswer_1 ci_0 ?_
  refine g_aload_n (pc := 2) dL_wouldAnswer_2 0 rfl ?_
  refine g_iload_n (pc := 3) dL_wouldAnswer_3 1 rfl ?_
  refine g_gS (fun hs => ?_)
  refine g_bCi (pc := 4) (c_V cl11 hs (p_X11_wouldAnswer hl x1 x2 h0) y_X11_wouldAnswer tw1324 dL_wouldAnswer_4 rfl (st := [.int (0 : Int32), .ref (e_z E + x3)]) rfl (Nat.le_of_ble_eq_true rfl) (Nat.le_of_ble_eq_true rfl) (Nat.le_of_ble_eq_true rfl)) (fun x4 h1 => ?_) (fun X4 h2 => ?_)
  · refine g_join (fun k => ∀ (x6 : Int64) (h3 : aH), J_L_wouldAnswer l E n0 m0 15 [] [.long x6, .int (0 : Int32), .ref (e_z E + x3)] h3 (k x6 h3)) (fun x6 h3 => ?_) (fun k15 hk15 => ?_)
    · refine g_last (pc := 15) dL_wouldAnswer_15 (fun h4 => ?_)
      refine g_goto (pc := 16) (tgt := 22) dL_wouldAnswer_16 rfl ?_
      refine g_iconst (pc := 22) dL_wouldAnswer_22 ci_0 ?_
      exact g_ret (pc := 23) rfl (isRet_i _) dL_wouldAnswer_23 rfl
    refine g_ifeq (pc := 7) (tgt := 14) dL_wouldAnswer_7 rfl ?_ ?_
    · refine g_lconst (pc := 14) dL_wouldAnswer_14 cl_0 ?_
      refine g_lv [] rfl ?_
      exact hk15 (0 : Int64) h1
    · refine g_lconst (pc := 10) dL_wouldAnswer_10 cl_1 ?_
      refine g_goto (pc := 11) (tgt := 15) dL_wouldAnswer_11 rfl ?_
      refine g_lv [] rfl ?_
      exact hk15 (1 : Int64) h1
  · by_cases hX : X4 = "java/lang/IndexOutOfBoundsException"
    · rw [if_pos hX]
      subst hX
      refine Or.inr ⟨[], ⟨0, 16, 19, 19⟩, [], _, rfl, (fun z hz => nomatch hz), by decide, by decide, tw617, tw624, fun q5 => ?_⟩
      refine g_astore_n (pc := 19) (lv' := [(3, .ref q5), (0, .ref (e_z E + x1)), (1, .int x2), (2, .ref (e_z E + x3))]) dL_wouldAnswer_19 (Nat.le_of_ble_eq_true rfl) rfl ?_
      refine g_iconst (pc := 20) dL_wouldAnswer_20 ci_1 ?_
      exact g_ret (pc := 21) rfl (isRet_i _) dL_wouldAnswer_21 rfl
    · rw [if_neg hX]
      exact Or.inl rfl
theorem p_L_wouldAnswer {l : Launch} {E : aE} (hl : l.stackTraces = false) (x1 : Nat) (x2 : Int32) (x3 : Nat) (h0 : aH) : MO (fun (v : Int32) => .inl (some (.int v))) l E yL_wouldAnswer (.codeWith yL_wouldAnswer cL_wouldAnswer 4 (some .int) [(0, 16, 19, 19)]) 8 149 [.ref (e_z E + x1), .int x2, .ref (e_z E + x3)] h0 (m_L_wouldAnswer x1 x2 x3 h0) := g_metH hl (by decide +kernel) (Nat.le_of_ble_eq_true rfl) (b_L_wouldAnswer hl _ _ x1 x2 x3 h0)
theorem dL_mostEngines_0 : decode cL_mostEngines 0 = .ok (.aload_n 2, 1) := by decide +kernel
theorem dL_mostEngines_1 : decode cL_mostEngines 1 = .ok (.iconst 0, 1) := by decide +kernel
theorem dL_mostEngines_2 : decode cL_mostEngines 2 = .ok (.aload_n 0, 1) := by decide +kernel
theorem dL_mostEngines_3 : decode cL_mostEngines 3 = .ok (.iload_n 1, 1) := by decide +kernel
theorem dL_mostEngines_4 : decode cL_mostEngines 4 = .ok (.invokevirtual 131, 3) := by decide +kernel
theorem dL_mostEngines_7 : decode cL_mostEngines 7 = .ok (.i2l, 1) := by decide +kernel
theorem dL_mostEngines_8 : decode cL_mostEngines 8 = .ok (.lastore, 1) := by decide +kernel
theorem dL_mostEngines_9 : decode cL_mostEngines 9 = .ok (.goto 6, 3) := by decide +kernel
theorem dL_mostEngines_12 : decode cL_mostEngines 12 = .ok (.astore_n 3, 1) := by decide +kernel
theorem dL_mostEngines_13 : decode cL_mostEngines 13 = .ok (.iconst 1, 1) := by decide +kernel
theorem dL_mostEngines_14 : decode cL_mostEngines 14 = .ok (.ireturn, 1) := by decide +kernel
theorem dL_mostEngines_15 : decode cL_mostEngines 15 = .ok (.iconst 0, 1) := by decide +kernel
theorem dL_mostEngines_16 : decode cL_mostEngines 16 = .ok (.ireturn, 1) := by decide +kernel
abbrev M_L_mostEngines : aM := (yL_mostEngines.cls, cL_mostEngines, 4, (some .int), tableOf [(0, 9, 12, 19)], yL_mostEngines.name == "<init>")
abbrev J_L_mostEngines (l : Launch) (E : aE) (n0 m0 : Nat) := GG (fun (v : Int32) => .inl (some (.int v))) l E M_L_mostEngines 8 149 n0 m0
theorem b_L_mostEngines {l : Launch} {E : aE} (hl : l.stackTraces = false) (n0 m0 : Nat) (x1 : Nat) (x2 : Int32) (x3 : Nat) (h0 : aH) : J_L_mostEngines l E n0 m0 0 [(0, .ref (e_z E + x1)), (1, .int x2), (2, .ref (e_z E + x3))] [] h0 (m_L_mostEngines x1 x2 x3 h0) := by
  unfold m_L_mostEngines
  refine g_aload_n (pc := 0) dL_mostEngines_0 2 rfl ?_
  refine g_iconst (pc := 1) dL_mostEngines_1 ci_0 ?_
  refine g_aload_n (pc := 2) dL_mostEngines_2 0 rfl ?_
  refine g_iload_n (pc := 3) dL_mostEngines_3 1 rfl ?_
  refine g_gS (fun hs => ?_)
  refine g_bCi (pc := 4) (c_V cl11 hs (p_X11_mostEngines hl x1 x2 h0) y_X11_mostEngines tw1331 dL_mostEngines_4 rfl (st := [.int (0 : Int32), .ref (e_z E + x3)]) rfl (Nat.le_of_ble_eq_true rfl) (Nat.le_of_ble_eq_true rfl) (Nat.le_of_ble_eq_true rfl)) (fun x4 h1 => ?_) (fun X4 h2 => ?_)
  · refine g_i2l (pc := 7) dL_mostEngines_7 ?_
    refine g_last (pc := 8) dL_mostEngines_8 (fun h3 => ?_)
    refine g_goto (pc := 9) (tgt := 15) dL_mostEngines_9 rfl ?_
    refine g_iconst (pc := 15) dL_mostEngines_15 ci_0 ?_
    exact g_ret (pc := 16) rfl (isRet_i _) dL_mostEngines_16 rfl
  · by_cases hX : X4 = "java/lang/IndexOutOfBoundsException"
    · rw [if_pos hX]
      subst hX
      refine Or.inr ⟨[], ⟨0, 9, 12, 19⟩, [], _, rfl, (fun z hz => nomatch hz), by decide, by decide, tw617, tw624, fun q5 => ?_⟩
      refine g_astore_n (pc := 12) (lv' := [(3, .ref q5), (0, .ref (e_z E + x1)), (1, .int x2), (2, .ref (e_z E + x3))]) dL_mostEngines_12 (Nat.le_of_ble_eq_true rfl) rfl ?_
      refine g_iconst (pc := 13) dL_mostEngines_13 ci_1 ?_
      exact g_ret (pc := 14) rfl (isRet_i _) dL_mostEngines_14 rfl
    · rw [if_neg hX]
      exact Or.inl rfl
theorem p_L_mostEngines {l : Launch} {E : aE} (hl : l.stackTraces = false) (x1 : Nat) (x2 : Int32) (x3 : Nat) (h0 : aH) : MO (fun (v : Int32) => .inl (some (.int v))) l E yL_mostEngines (.codeWith yL_mostEngines cL_mostEngines 4 (some .int) [(0, 9, 12, 19)]) 8 149 [.ref (e_z E + x1), .int x2, .ref (e_z E + x3)] h0 (m_L_mostEngines x1 x2 x3 h0) := g_metH hl (by decide +kernel) (Nat.le_of_ble_eq_true rfl) (b_L_mostEngines hl _ _ x1 x2 x3 h0)
theorem dL_hoursUntilAnswered_0 : decode cL_hoursUntilAnswered 0 = .ok (.aload_n 2, 1) := by decide +kernel
theorem dL_hoursUntilAnswered_1 : decode cL_hoursUntilAnswered 1 = .ok (.iconst 0, 1) := by decide +kernel
theorem dL_hoursUntilAnswered_2 : decode cL_hoursUntilAnswered 2 = .ok (.aload_n 0, 1) := by decide +kernel
theorem dL_hoursUntilAnswered_3 : decode cL_hoursUntilAnswered 3 = .ok (.iload_n 1, 1) := by decide +kernel
theorem dL_hoursUntilAnswered_4 : decode cL_hoursUntilAnswered 4 = .ok (.invokevirtual 134, 3) := by decide +kernel
theorem dL_hoursUntilAnswered_7 : decode cL_hoursUntilAnswered 7 = .ok (.i2l, 1) := by decide +kernel
theorem dL_hoursUntilAnswered_8 : decode cL_hoursUntilAnswered 8 = .ok (.lastore, 1) := by decide +kernel
theorem dL_hoursUntilAnswered_9 : decode cL_hoursUntilAnswered 9 = .ok (.goto 9, 3) := by decide +kernel
theorem dL_hoursUntilAnswered_12 : decode cL_hoursUntilAnswered 12 = .ok (.astore_n 3, 1) := by decide +kernel
theorem dL_hoursUntilAnswered_13 : decode cL_hoursUntilAnswered 13 = .ok (.iconst 1, 1) := by decide +kernel
theorem dL_hoursUntilAnswered_14 : decode cL_hoursUntilAnswered 14 = .ok (.ireturn, 1) := by decide +kernel
theorem dL_hoursUntilAnswered_15 : decode cL_hoursUntilAnswered 15 = .ok (.astore_n 3, 1) := by decide +kernel
theorem dL_hoursUntilAnswered_16 : decode cL_hoursUntilAnswered 16 = .ok (.iconst 2, 1) := by decide +kernel
theorem dL_hoursUntilAnswered_17 : decode cL_hoursUntilAnswered 17 = .ok (.ireturn, 1) := by decide +kernel
theorem dL_hoursUntilAnswered_18 : decode cL_hoursUntilAnswered 18 = .ok (.iconst 0, 1) := by decide +kernel
theorem dL_hoursUntilAnswered_19 : decode cL_hoursUntilAnswered 19 = .ok (.ireturn, 1) := by decide +kernel
abbrev M_L_hoursUntilAnswered : aM := (yL_hoursUntilAnswered.cls, cL_hoursUntilAnswered, 4, (some .int), tableOf [(0, 9, 12, 19), (0, 9, 15, 30)], yL_hoursUntilAnswered.name == "<init>")
abbrev J_L_hoursUntilAnswered (l : Launch) (E : aE) (n0 m0 : Nat) := GG (fun (v : Int32) => .inl (some (.int v))) l E M_L_hoursUntilAnswered 8 150 n0 m0
theorem b_L_hoursUntilAnswered {l : Launch} {E : aE} (hl : l.stackTraces = false) (n0 m0 : Nat) (x1 : Nat) (x2 : Int32) (x3 : Nat) (h0 : aH) : J_L_hoursUntilAnswered l E n0 m0 0 [(0, .ref (e_z E + x1)), (1, .int x2), (2, .ref (e_z E + x3))] [] h0 (m_L_hoursUntilAnswered x1 x2 x3 h0) := by
  unfold m_L_hoursUntilAnswered
  refine g_aload_n (pc := 0) dL_hoursUntilAnswered_0 2 rfl ?_
  refine g_iconst (pc := 1) dL_hoursUntilAnswered_1 ci_0 ?_
  refine g_aload_n (pc := 2) dL_hoursUntilAnswered_2 0 rfl ?_
  refine g_iload_n (pc := 3) dL_hoursUntilAnswered_3 1 rfl ?_
  refine g_gS (fun hs => ?_)
  refine g_bCi (pc := 4) (c_V cl11 hs (p_X11_hoursUntilAnswered hl x1 x2 h0) y_X11_hoursUntilAnswered tw1348 dL_hoursUntilAnswered_4 rfl (st := [.int (0 : Int32), .ref (e_z E + x3)]) rfl (Nat.le_of_ble_eq_true rfl) (Nat.le_of_ble_eq_true rfl) (Nat.le_of_ble_eq_true rfl)) (fun x4 h1 => ?_) (fun X4 h2 => ?_)
  · refine g_i2l (pc := 7) dL_hoursUntilAnswered_7 ?_
    refine g_last (pc := 8) dL_hoursUntilAnswered_8 (fun h3 => ?_)
    refine g_goto (pc := 9) (tgt := 18) dL_hoursUntilAnswered_9 rfl ?_
    refine g_iconst (pc := 18) dL_hoursUntilAnswered_18 ci_0 ?_
    exact g_ret (pc := 19) rfl (isRet_i _) dL_hoursUntilAnswered_19 rfl
  · by_cases hX : X4 = "java/lang/IndexOutOfBoundsException"
    · rw [if_pos hX]
      subst hX
      refine Or.inr ⟨[], ⟨0, 9, 12, 19⟩, [⟨0, 9, 15, 30⟩], _, rfl, (fun z hz => nomatch hz), by decide, by decide, tw617, tw624, fun q5 => ?_⟩
      refine g_astore_n (pc := 12) (lv' := [(3, .ref q5), (0, .ref (e_z E + x1)), (1, .int x2), (2, .ref (e_z E + x3))]) dL_hoursUntilAnswered_12 (Nat.le_of_ble_eq_true rfl) rfl ?_
      refine g_iconst (pc := 13) dL_hoursUntilAnswered_13 ci_1 ?_
      exact g_ret (pc := 14) rfl (isRet_i _) dL_hoursUntilAnswered_14 rfl
    · rw [if_neg hX]
      by_cases hX : X4 = "java/util/NoSuchElementException"
      · rw [if_pos hX]
        subst hX
        refine Or.inr ⟨[⟨0, 9, 12, 19⟩], ⟨0, 9, 15, 30⟩, [], _, rfl, (fun z hz => by cases List.mem_singleton.mp hz; exact Or.inr ⟨by decide, _, tw617, by decide⟩), by decide, by decide, tw864, tw878, fun q6 => ?_⟩
        refine g_astore_n (pc := 15) (lv' := [(3, .ref q6), (0, .ref (e_z E + x1)), (1, .int x2), (2, .ref (e_z E + x3))]) dL_hoursUntilAnswered_15 (Nat.le_of_ble_eq_true rfl) rfl ?_
        refine g_iconst (pc := 16) dL_hoursUntilAnswered_16 ci_2 ?_
        exact g_ret (pc := 17) rfl (isRet_i _) dL_hoursUntilAnswered_17 rfl
      · rw [if_neg hX]
        exact Or.inl rfl
theorem p_L_hoursUntilAnswered {l : Launch} {E : aE} (hl : l.stackTraces = false) (x1 : Nat) (x2 : Int32) (x3 : Nat) (h0 : aH) : MO (fun (v : Int32) => .inl (some (.int v))) l E yL_hoursUntilAnswered (.codeWith yL_hoursUntilAnswered cL_hoursUntilAnswered 4 (some .int) [(0, 9, 12, 19), (0, 9, 15, 30)]) 8 150 [.ref (e_z E + x1), .int x2, .ref (e_z E + x3)] h0 (m_L_hoursUntilAnswered x1 x2 x3 h0) := g_metH hl (by decide +kernel) (Nat.le_of_ble_eq_true rfl) (b_L_hoursUntilAnswered hl _ _ x1 x2 x3 h0)
theorem dL_helpfulPager_0 : decode cL_helpfulPager 0 = .ok (.aload_n 2, 1) := by decide +kernel
theorem dL_helpfulPager_1 : decode cL_helpfulPager 1 = .ok (.iconst 0, 1) := by decide +kernel
theorem dL_helpfulPager_2 : decode cL_helpfulPager 2 = .ok (.aload_n 0, 1) := by decide +kernel
theorem dL_helpfulPager_3 : decode cL_helpfulPager 3 = .ok (.iload_n 1, 1) := by decide +kernel
theorem dL_helpfulPager_4 : decode cL_helpfulPager 4 = .ok (.invokevirtual 137, 3) := by decide +kernel
theorem dL_helpfulPager_7 : decode cL_helpfulPager 7 = .ok (.i2l, 1) := by decide +kernel
theorem dL_helpfulPager_8 : decode cL_helpfulPager 8 = .ok (.lastore, 1) := by decide +kernel
theorem dL_helpfulPager_9 : decode cL_helpfulPager 9 = .ok (.goto 12, 3) := by decide +kernel
theorem dL_helpfulPager_12 : decode cL_helpfulPager 12 = .ok (.astore_n 3, 1) := by decide +kernel
theorem dL_helpfulPager_13 : decode cL_helpfulPager 13 = .ok (.iconst 1, 1) := by decide +kernel
theorem dL_helpfulPager_14 : decode cL_helpfulPager 14 = .ok (.ireturn, 1) := by decide +kernel
theorem dL_helpfulPager_15 : decode cL_helpfulPager 15 = .ok (.astore_n 3, 1) := by decide +kernel
theorem dL_helpfulPager_16 : decode cL_helpfulPager 16 = .ok (.iconst 2, 1) := by decide +kernel
theorem dL_helpfulPager_17 : decode cL_helpfulPager 17 = .ok (.ireturn, 1) := by decide +kernel
theorem dL_helpfulPager_18 : decode cL_helpfulPager 18 = .ok (.astore_n 3, 1) := by decide +kernel
theorem dL_helpfulPager_19 : decode cL_helpfulPager 19 = .ok (.iconst 3, 1) := by decide +kernel
theorem dL_helpfulPager_20 : decode cL_helpfulPager 20 = .ok (.ireturn, 1) := by decide +kernel
theorem dL_helpfulPager_21 : decode cL_helpfulPager 21 = .ok (.iconst 0, 1) := by decide +kernel
theorem dL_helpfulPager_22 : decode cL_helpfulPager 22 = .ok (.ireturn, 1) := by decide +kernel
abbrev M_L_helpfulPager : aM := (yL_helpfulPager.cls, cL_helpfulPager, 4, (some .int), tableOf [(0, 9, 12, 19), (0, 9, 15, 13), (0, 9, 18, 30)], yL_helpfulPager.name == "<init>")
abbrev J_L_helpfulPager (l : Launch) (E : aE) (n0 m0 : Nat) := GG (fun (v : Int32) => .inl (some (.int v))) l E M_L_helpfulPager 9 174 n0 m0
theorem b_L_helpfulPager {l : Launch} {E : aE} (hl : l.stackTraces = false) (n0 m0 : Nat) (x1 : Nat) (x2 : Int32) (x3 : Nat) (h0 : aH) : J_L_helpfulPager l E n0 m0 0 [(0, .ref (e_z E + x1)), (1, .int x2), (2, .ref (e_z E + x3))] [] h0 (m_L_helpfulPager x1 x2 x3 h0) := by
  unfold m_L_helpfulPager
  refine g_aload_n (pc := 0) dL_helpfulPager_0 2 rfl ?_
  refine g_iconst (pc := 1) dL_helpfulPager_1 ci_0 ?_
  refine g_aload_n (pc := 2) dL_helpfulPager_2 0 rfl ?_
  refine g_iload_n (pc := 3) dL_helpfulPager_3 1 rfl ?_
  refine g_gS (fun hs => ?_)
  refine g_bCi (pc := 4) (c_V cl11 hs (p_X11_helpfulPager hl x1 x2 h0) y_X11_helpfulPager tw1379 dL_helpfulPager_4 rfl (st := [.int (0 : Int32), .ref (e_z E + x3)]) rfl (Nat.le_of_ble_eq_true rfl) (Nat.le_of_ble_eq_true rfl) (Nat.le_of_ble_eq_true rfl)) (fun x4 h1 => ?_) (fun X4 h2 => ?_)
  · refine g_i2l (pc := 7) dL_helpfulPager_7 ?_
    refine g_last (pc := 8) dL_helpfulPager_8 (fun h3 => ?_)
    refine g_goto (pc := 9) (tgt := 21) dL_helpfulPager_9 rfl ?_
    refine g_iconst (pc := 21) dL_helpfulPager_21 ci_0 ?_
    exact g_ret (pc := 22) rfl (isRet_i _) dL_helpfulPager_22 rfl
  · by_cases hX : X4 = "java/lang/IndexOutOfBoundsException"
    · rw [if_pos hX]
      subst hX
      refine Or.inr ⟨[], ⟨0, 9, 12, 19⟩, [⟨0, 9, 15, 13⟩, ⟨0, 9, 18, 30⟩], _, rfl, (fun z hz => nomatch hz), by decide, by decide, tw617, tw624, fun q5 => ?_⟩
      refine g_astore_n (pc := 12) (lv' := [(3, .ref q5), (0, .ref (e_z E + x1)), (1, .int x2), (2, .ref (e_z E + x3))]) dL_helpfulPager_12 (Nat.le_of_ble_eq_true rfl) rfl ?_
      refine g_iconst (pc := 13) dL_helpfulPager_13 ci_1 ?_
      exact g_ret (pc := 14) rfl (isRet_i _) dL_helpfulPager_14 rfl
    · rw [if_neg hX]
      by_cases hX : X4 = "java/lang/IllegalStateException"
      · rw [if_pos hX]
        subst hX
        refine Or.inr ⟨[⟨0, 9, 12, 19⟩], ⟨0, 9, 15, 13⟩, [⟨0, 9, 18, 30⟩], _, rfl, (fun z hz => by cases List.mem_singleton.mp hz; exact Or.inr ⟨by decide, _, tw617, by decide⟩), by decide, by decide, tw537, tw544, fun q6 => ?_⟩
        refine g_astore_n (pc := 15) (lv' := [(3, .ref q6), (0, .ref (e_z E + x1)), (1, .int x2), (2, .ref (e_z E + x3))]) dL_helpfulPager_15 (Nat.le_of_ble_eq_true rfl) rfl ?_
        refine g_iconst (pc := 16) dL_helpfulPager_16 ci_2 ?_
        exact g_ret (pc := 17) rfl (isRet_i _) dL_helpfulPager_17 rfl
      · rw [if_neg hX]
        by_cases hX : X4 = "java/util/NoSuchElementException"
        · rw [if_pos hX]
          subst hX
          refine Or.inr ⟨[⟨0, 9, 12, 19⟩, ⟨0, 9, 15, 13⟩], ⟨0, 9, 18, 30⟩, [], _, rfl, (List.forall_mem_cons.mpr ⟨Or.inr ⟨by decide, _, tw617, by decide⟩, List.forall_mem_cons.mpr ⟨Or.inr ⟨by decide, _, tw537, by decide⟩, fun _ h9 => absurd h9 List.not_mem_nil⟩⟩), by decide, by decide, tw864, tw878, fun q7 => ?_⟩
          refine g_astore_n (pc := 18) (lv' := [(3, .ref q7), (0, .ref (e_z E + x1)), (1, .int x2), (2, .ref (e_z E + x3))]) dL_helpfulPager_18 (Nat.le_of_ble_eq_true rfl) rfl ?_
          refine g_iconst (pc := 19) dL_helpfulPager_19 ci_3 ?_
          exact g_ret (pc := 20) rfl (isRet_i _) dL_helpfulPager_20 rfl
        · rw [if_neg hX]
          exact Or.inl rfl
theorem p_L_helpfulPager {l : Launch} {E : aE} (hl : l.stackTraces = false) (x1 : Nat) (x2 : Int32) (x3 : Nat) (h0 : aH) : MO (fun (v : Int32) => .inl (some (.int v))) l E yL_helpfulPager (.codeWith yL_helpfulPager cL_helpfulPager 4 (some .int) [(0, 9, 12, 19), (0, 9, 15, 13), (0, 9, 18, 30)]) 9 174 [.ref (e_z E + x1), .int x2, .ref (e_z E + x3)] h0 (m_L_helpfulPager x1 x2 x3 h0) := g_metH hl (by decide +kernel) (Nat.le_of_ble_eq_true rfl) (b_L_helpfulPager hl _ _ x1 x2 x3 h0)
theorem dL_helpfulPerson_0 : decode cL_helpfulPerson 0 = .ok (.aload_n 2, 1) := by decide +kernel
theorem dL_helpfulPerson_1 : decode cL_helpfulPerson 1 = .ok (.iconst 0, 1) := by decide +kernel
theorem dL_helpfulPerson_2 : decode cL_helpfulPerson 2 = .ok (.aload_n 0, 1) := by decide +kernel
theorem dL_helpfulPerson_3 : decode cL_helpfulPerson 3 = .ok (.iload_n 1, 1) := by decide +kernel
theorem dL_helpfulPerson_4 : decode cL_helpfulPerson 4 = .ok (.invokevirtual 140, 3) := by decide +kernel
theorem dL_helpfulPerson_7 : decode cL_helpfulPerson 7 = .ok (.i2l, 1) := by decide +kernel
theorem dL_helpfulPerson_8 : decode cL_helpfulPerson 8 = .ok (.lastore, 1) := by decide +kernel
theorem dL_helpfulPerson_9 : decode cL_helpfulPerson 9 = .ok (.goto 12, 3) := by decide +kernel
theorem dL_helpfulPerson_12 : decode cL_helpfulPerson 12 = .ok (.astore_n 3, 1) := by decide +kernel
theorem dL_helpfulPerson_13 : decode cL_helpfulPerson 13 = .ok (.iconst 1, 1) := by decide +kernel
theorem dL_helpfulPerson_14 : decode cL_helpfulPerson 14 = .ok (.ireturn, 1) := by decide +kernel
theorem dL_helpfulPerson_15 : decode cL_helpfulPerson 15 = .ok (.astore_n 3, 1) := by decide +kernel
theorem dL_helpfulPerson_16 : decode cL_helpfulPerson 16 = .ok (.iconst 2, 1) := by decide +kernel
theorem dL_helpfulPerson_17 : decode cL_helpfulPerson 17 = .ok (.ireturn, 1) := by decide +kernel
theorem dL_helpfulPerson_18 : decode cL_helpfulPerson 18 = .ok (.astore_n 3, 1) := by decide +kernel
theorem dL_helpfulPerson_19 : decode cL_helpfulPerson 19 = .ok (.iconst 3, 1) := by decide +kernel
theorem dL_helpfulPerson_20 : decode cL_helpfulPerson 20 = .ok (.ireturn, 1) := by decide +kernel
theorem dL_helpfulPerson_21 : decode cL_helpfulPerson 21 = .ok (.iconst 0, 1) := by decide +kernel
theorem dL_helpfulPerson_22 : decode cL_helpfulPerson 22 = .ok (.ireturn, 1) := by decide +kernel
abbrev M_L_helpfulPerson : aM := (yL_helpfulPerson.cls, cL_helpfulPerson, 4, (some .int), tableOf [(0, 9, 12, 19), (0, 9, 15, 13), (0, 9, 18, 30)], yL_helpfulPerson.name == "<init>")
abbrev J_L_helpfulPerson (l : Launch) (E : aE) (n0 m0 : Nat) := GG (fun (v : Int32) => .inl (some (.int v))) l E M_L_helpfulPerson 9 174 n0 m0
theorem b_L_helpfulPerson {l : Launch} {E : aE} (hl : l.stackTraces = false) (n0 m0 : Nat) (x1 : Nat) (x2 : Int32) (x3 : Nat) (h0 : aH) : J_L_helpfulPerson l E n0 m0 0 [(0, .ref (e_z E + x1)), (1, .int x2), (2, .ref (e_z E + x3))] [] h0 (m_L_helpfulPerson x1 x2 x3 h0) := by
  unfold m_L_helpfulPerson
  refine g_aload_n (pc := 0) dL_helpfulPerson_0 2 rfl ?_
  refine g_iconst (pc := 1) dL_helpfulPerson_1 ci_0 ?_
  refine g_aload_n (pc := 2) dL_helpfulPerson_2 0 rfl ?_
  refine g_iload_n (pc := 3) dL_helpfulPerson_3 1 rfl ?_
  refine g_gS (fun hs => ?_)
  refine g_bCi (pc := 4) (c_V cl11 hs (p_X11_helpfulPerson hl x1 x2 h0) y_X11_helpfulPerson tw1400 dL_helpfulPerson_4 rfl (st := [.int (0 : Int32), .ref (e_z E + x3)]) rfl (Nat.le_of_ble_eq_true rfl) (Nat.le_of_ble_eq_true rfl) (Nat.le_of_ble_eq_true rfl)) (fun x4 h1 => ?_) (fun X4 h2 => ?_)
  · refine g_i2l (pc := 7) dL_helpfulPerson_7 ?_
    refine g_last (pc := 8) dL_helpfulPerson_8 (fun h3 => ?_)
    refine g_goto (pc := 9) (tgt := 21) dL_helpfulPerson_9 rfl ?_
    refine g_iconst (pc := 21) dL_helpfulPerson_21 ci_0 ?_
    exact g_ret (pc := 22) rfl (isRet_i _) dL_helpfulPerson_22 rfl
  · by_cases hX : X4 = "java/lang/IndexOutOfBoundsException"
    · rw [if_pos hX]
      subst hX
      refine Or.inr ⟨[], ⟨0, 9, 12, 19⟩, [⟨0, 9, 15, 13⟩, ⟨0, 9, 18, 30⟩], _, rfl, (fun z hz => nomatch hz), by decide, by decide, tw617, tw624, fun q5 => ?_⟩
      refine g_astore_n (pc := 12) (lv' := [(3, .ref q5), (0, .ref (e_z E + x1)), (1, .int x2), (2, .ref (e_z E + x3))]) dL_helpfulPerson_12 (Nat.le_of_ble_eq_true rfl) rfl ?_
      refine g_iconst (pc := 13) dL_helpfulPerson_13 ci_1 ?_
      exact g_ret (pc := 14) rfl (isRet_i _) dL_helpfulPerson_14 rfl
    · rw [if_neg hX]
      by_cases hX : X4 = "java/lang/IllegalStateException"
      · rw [if_pos hX]
        subst hX
        refine Or.inr ⟨[⟨0, 9, 12, 19⟩], ⟨0, 9, 15, 13⟩, [⟨0, 9, 18, 30⟩], _, rfl, (fun z hz => by cases List.mem_singleton.mp hz; exact Or.inr ⟨by decide, _, tw617, by decide⟩), by decide, by decide, tw537, tw544, fun q6 => ?_⟩
        refine g_astore_n (pc := 15) (lv' := [(3, .ref q6), (0, .ref (e_z E + x1)), (1, .int x2), (2, .ref (e_z E + x3))]) dL_helpfulPerson_15 (Nat.le_of_ble_eq_true rfl) rfl ?_
        refine g_iconst (pc := 16) dL_helpfulPerson_16 ci_2 ?_
        exact g_ret (pc := 17) rfl (isRet_i _) dL_helpfulPerson_17 rfl
      · rw [if_neg hX]
        by_cases hX : X4 = "java/util/NoSuchElementException"
        · rw [if_pos hX]
          subst hX
          refine Or.inr ⟨[⟨0, 9, 12, 19⟩, ⟨0, 9, 15, 13⟩], ⟨0, 9, 18, 30⟩, [], _, rfl, (List.forall_mem_cons.mpr ⟨Or.inr ⟨by decide, _, tw617, by decide⟩, List.forall_mem_cons.mpr ⟨Or.inr ⟨by decide, _, tw537, by decide⟩, fun _ h9 => absurd h9 List.not_mem_nil⟩⟩), by decide, by decide, tw864, tw878, fun q7 => ?_⟩
          refine g_astore_n (pc := 18) (lv' := [(3, .ref q7), (0, .ref (e_z E + x1)), (1, .int x2), (2, .ref (e_z E + x3))]) dL_helpfulPerson_18 (Nat.le_of_ble_eq_true rfl) rfl ?_
          refine g_iconst (pc := 19) dL_helpfulPerson_19 ci_3 ?_
          exact g_ret (pc := 20) rfl (isRet_i _) dL_helpfulPerson_20 rfl
        · rw [if_neg hX]
          exact Or.inl rfl
theorem p_L_helpfulPerson {l : Launch} {E : aE} (hl : l.stackTraces = false) (x1 : Nat) (x2 : Int32) (x3 : Nat) (h0 : aH) : MO (fun (v : Int32) => .inl (some (.int v))) l E yL_helpfulPerson (.codeWith yL_helpfulPerson cL_helpfulPerson 4 (some .int) [(0, 9, 12, 19), (0, 9, 15, 13), (0, 9, 18, 30)]) 9 174 [.ref (e_z E + x1), .int x2, .ref (e_z E + x3)] h0 (m_L_helpfulPerson x1 x2 x3 h0) := g_metH hl (by decide +kernel) (Nat.le_of_ble_eq_true rfl) (b_L_helpfulPerson hl _ _ x1 x2 x3 h0)
theorem dL_call_0 : decode cL_call 0 = .ok (.aload_n 2, 1) := by decide +kernel
theorem dL_call_1 : decode cL_call 1 = .ok (.iconst 0, 1) := by decide +kernel
theorem dL_call_2 : decode cL_call 2 = .ok (.aload_n 0, 1) := by decide +kernel
theorem dL_call_3 : decode cL_call 3 = .ok (.iload_n 1, 1) := by decide +kernel
theorem dL_call_4 : decode cL_call 4 = .ok (.invokevirtual 143, 3) := by decide +kernel
theorem dL_call_7 : decode cL_call 7 = .ok (.i2l, 1) := by decide +kernel
theorem dL_call_8 : decode cL_call 8 = .ok (.lastore, 1) := by decide +kernel
theorem dL_call_9 : decode cL_call 9 = .ok (.goto 9, 3) := by decide +kernel
theorem dL_call_12 : decode cL_call 12 = .ok (.astore_n 3, 1) := by decide +kernel
theorem dL_call_13 : decode cL_call 13 = .ok (.iconst 1, 1) := by decide +kernel
theorem dL_call_14 : decode cL_call 14 = .ok (.ireturn, 1) := by decide +kernel
theorem dL_call_15 : decode cL_call 15 = .ok (.astore_n 3, 1) := by decide +kernel
theorem dL_call_16 : decode cL_call 16 = .ok (.iconst 2, 1) := by decide +kernel
theorem dL_call_17 : decode cL_call 17 = .ok (.ireturn, 1) := by decide +kernel
theorem dL_call_18 : decode cL_call 18 = .ok (.iconst 0, 1) := by decide +kernel
theorem dL_call_19 : decode cL_call 19 = .ok (.ireturn, 1) := by decide +kernel
abbrev M_L_call : aM := (yL_call.cls, cL_call, 4, (some .int), tableOf [(0, 9, 12, 19), (0, 9, 15, 13)], yL_call.name == "<init>")
abbrev J_L_call (l : Launch) (E : aE) (n0 m0 : Nat) := GG (fun (v : Int32) => .inl (some (.int v))) l E M_L_call 8 172 n0 m0
theorem b_L_call {l : Launch} {E : aE} (hl : l.stackTraces = false) (n0 m0 : Nat) (x1 : Nat) (x2 : Int32) (x3 : Nat) (h0 : aH) : J_L_call l E n0 m0 0 [(0, .ref (e_z E + x1)), (1, .int x2), (2, .ref (e_z E + x3))] [] h0 (m_L_call x1 x2 x3 h0) := by
  unfold m_L_call
  refine g_aload_n (pc := 0) dL_call_0 2 rfl ?_
  refine g_iconst (pc := 1) dL_call_1 ci_0 ?_
  refine g_aload_n (pc := 2) dL_call_2 0 rfl ?_
  refine g_iload_n (pc := 3) dL_call_3 1 rfl ?_
  refine g_gS (fun hs => ?_)
  refine g_bCi (pc := 4) (c_V cl11 hs (p_X11_call hl x1 x2 h0) y_X11_call tw1407 dL_call_4 rfl (st := [.int (0 : Int32), .ref (e_z E + x3)]) rfl (Nat.le_of_ble_eq_true rfl) (Nat.le_of_ble_eq_true rfl) (Nat.le_of_ble_eq_true rfl)) (fun x4 h1 => ?_) (fun X4 h2 => ?_)
  · refine g_i2l (pc := 7) dL_call_7 ?_
    refine g_last (pc := 8) dL_call_8 (fun h3 => ?_)
    refine g_goto (pc := 9) (tgt := 18) dL_call_9 rfl ?_
    refine g_iconst (pc := 18) dL_call_18 ci_0 ?_
    exact g_ret (pc := 19) rfl (isRet_i _) dL_call_19 rfl
  · by_cases hX : X4 = "java/lang/IndexOutOfBoundsException"
    · rw [if_pos hX]
      subst hX
      refine Or.inr ⟨[], ⟨0, 9, 12, 19⟩, [⟨0, 9, 15, 13⟩], _, rfl, (fun z hz => nomatch hz), by decide, by decide, tw617, tw624, fun q5 => ?_⟩
      refine g_astore_n (pc := 12) (lv' := [(3, .ref q5), (0, .ref (e_z E + x1)), (1, .int x2), (2, .ref (e_z E + x3))]) dL_call_12 (Nat.le_of_ble_eq_true rfl) rfl ?_
      refine g_iconst (pc := 13) dL_call_13 ci_1 ?_
      exact g_ret (pc := 14) rfl (isRet_i _) dL_call_14 rfl
    · rw [if_neg hX]
      by_cases hX : X4 = "java/lang/IllegalStateException"
      · rw [if_pos hX]
        subst hX
        refine Or.inr ⟨[⟨0, 9, 12, 19⟩], ⟨0, 9, 15, 13⟩, [], _, rfl, (fun z hz => by cases List.mem_singleton.mp hz; exact Or.inr ⟨by decide, _, tw617, by decide⟩), by decide, by decide, tw537, tw544, fun q6 => ?_⟩
        refine g_astore_n (pc := 15) (lv' := [(3, .ref q6), (0, .ref (e_z E + x1)), (1, .int x2), (2, .ref (e_z E + x3))]) dL_call_15 (Nat.le_of_ble_eq_true rfl) rfl ?_
        refine g_iconst (pc := 16) dL_call_16 ci_2 ?_
        exact g_ret (pc := 17) rfl (isRet_i _) dL_call_17 rfl
      · rw [if_neg hX]
        exact Or.inl rfl
theorem p_L_call {l : Launch} {E : aE} (hl : l.stackTraces = false) (x1 : Nat) (x2 : Int32) (x3 : Nat) (h0 : aH) : MO (fun (v : Int32) => .inl (some (.int v))) l E yL_call (.codeWith yL_call cL_call 4 (some .int) [(0, 9, 12, 19), (0, 9, 15, 13)]) 8 172 [.ref (e_z E + x1), .int x2, .ref (e_z E + x3)] h0 (m_L_call x1 x2 x3 h0) := g_metH hl (by decide +kernel) (Nat.le_of_ble_eq_true rfl) (b_L_call hl _ _ x1 x2 x3 h0)
theorem dL_handOn_0 : decode cL_handOn 0 = .ok (.aload 4, 2) := by decide +kernel
theorem dL_handOn_2 : decode cL_handOn 2 = .ok (.iconst 0, 1) := by decide +kernel
theorem dL_handOn_3 : decode cL_handOn 3 = .ok (.aload_n 0, 1) := by decide +kernel
theorem dL_handOn_4 : decode cL_handOn 4 = .ok (.iload_n 1, 1) := by decide +kernel
theorem dL_handOn_5 : decode cL_handOn 5 = .ok (.iload_n 2, 1) := by decide +kernel
theorem dL_handOn_6 : decode cL_handOn 6 = .ok (.iload_n 3, 1) := by decide +kernel
theorem dL_handOn_7 : decode cL_handOn 7 = .ok (.invokevirtual 146, 3) := by decide +kernel
theorem dL_handOn_10 : decode cL_handOn 10 = .ok (.i2l, 1) := by decide +kernel
theorem dL_handOn_11 : decode cL_handOn 11 = .ok (.lastore, 1) := by decide +kernel
theorem dL_handOn_12 : decode cL_handOn 12 = .ok (.goto 11, 3) := by decide +kernel
theorem dL_handOn_15 : decode cL_handOn 15 = .ok (.astore 5, 2) := by decide +kernel
theorem dL_handOn_17 : decode cL_handOn 17 = .ok (.iconst 1, 1) := by decide +kernel
theorem dL_handOn_18 : decode cL_handOn 18 = .ok (.ireturn, 1) := by decide +kernel
theorem dL_handOn_19 : decode cL_handOn 19 = .ok (.astore 5, 2) := by decide +kernel
theorem dL_handOn_21 : decode cL_handOn 21 = .ok (.iconst 2, 1) := by decide +kernel
theorem dL_handOn_22 : decode cL_handOn 22 = .ok (.ireturn, 1) := by decide +kernel
theorem dL_handOn_23 : decode cL_handOn 23 = .ok (.iconst 0, 1) := by decide +kernel
theorem dL_handOn_24 : decode cL_handOn 24 = .ok (.ireturn, 1) := by decide +kernel
abbrev M_L_handOn : aM := (yL_handOn.cls, cL_handOn, 6, (some .int), tableOf [(0, 12, 15, 19), (0, 12, 19, 13)], yL_handOn.name == "<init>")
abbrev J_L_handOn (l : Launch) (E : aE) (n0 m0 : Nat) := GG (fun (v : Int32) => .inl (some (.int v))) l E M_L_handOn 8 144 n0 m0
theorem b_L_handOn {l : Launch} {E : aE} (hl : l.stackTraces = false) (n0 m0 : Nat) (x1 : Nat) (x2 : Int32) (x3 : Int32) (x4 : Int32) (x5 : Nat) (h0 : aH) : J_L_handOn l E n0 m0 0 [(0, .ref (e_z E + x1)), (1, .int x2), (2, .int x3), (3, .int x4), (4, .ref (e_z E + x5))] [] h0 (m_L_handOn x1 x2 x3 x4 x5 h0) := by
  unfold m_L_handOn
  refine g_aload (pc := 0) dL_handOn_0 4 rfl ?_
  refine g_iconst (pc := 2) dL_handOn_2 ci_0 ?_
  refine g_aload_n (pc := 3) dL_handOn_3 0 rfl ?_
  refine g_iload_n (pc := 4) dL_handOn_4 1 rfl ?_
  refine g_iload_n (pc := 5) dL_handOn_5 2 rfl ?_
  refine g_iload_n (pc := 6) dL_handOn_6 3 rfl ?_
  refine g_gS (fun hs => ?_)
  refine g_bCi (pc := 7) (c_V cl11 hs (p_X11_handOn hl x1 x2 x3 x4 h0) y_X11_handOn tw1454 dL_handOn_7 rfl (st := [.int (0 : Int32), .ref (e_z E + x5)]) rfl (Nat.le_of_ble_eq_true rfl) (Nat.le_of_ble_eq_true rfl) (Nat.le_of_ble_eq_true rfl)) (fun x6 h1 => ?_) (fun X7 h2 => ?_)
  · refine g_i2l (pc := 10) dL_handOn_10 ?_
    refine g_last (pc := 11) dL_handOn_11 (fun h3 => ?_)
    refine g_goto (pc := 12) (tgt := 23) dL_handOn_12 rfl ?_
    refine g_iconst (pc := 23) dL_handOn_23 ci_0 ?_
    exact g_ret (pc := 24) rfl (isRet_i _) dL_handOn_24 rfl
  · by_cases hX : X7 = "java/lang/IndexOutOfBoundsException"
    · rw [if_pos hX]
      subst hX
      refine Or.inr ⟨[], ⟨0, 12, 15, 19⟩, [⟨0, 12, 19, 13⟩], _, rfl, (fun z hz => nomatch hz), by decide, by decide, tw617, tw624, fun q7 => ?_⟩
      refine g_astore (pc := 15) (lv' := [(5, .ref q7), (0, .ref (e_z E + x1)), (1, .int x2), (2, .int x3), (3, .int x4), (4, .ref (e_z E + x5))]) dL_handOn_15 (Nat.le_of_ble_eq_true rfl) rfl ?_
      refine g_iconst (pc := 17) dL_handOn_17 ci_1 ?_
      exact g_ret (pc := 18) rfl (isRet_i _) dL_handOn_18 rfl
    · rw [if_neg hX]
      by_cases hX : X7 = "java/lang/IllegalStateException"
      · rw [if_pos hX]
        subst hX
        refine Or.inr ⟨[⟨0, 12, 15, 19⟩], ⟨0, 12, 19, 13⟩, [], _, rfl, (fun z hz => by cases List.mem_singleton.mp hz; exact Or.inr ⟨by decide, _, tw617, by decide⟩), by decide, by decide, tw537, tw544, fun q8 => ?_⟩
        refine g_astore (pc := 19) (lv' := [(5, .ref q8), (0, .ref (e_z E + x1)), (1, .int x2), (2, .int x3), (3, .int x4), (4, .ref (e_z E + x5))]) dL_handOn_19 (Nat.le_of_ble_eq_true rfl) rfl ?_
        refine g_iconst (pc := 21) dL_handOn_21 ci_2 ?_
        exact g_ret (pc := 22) rfl (isRet_i _) dL_handOn_22 rfl
      · rw [if_neg hX]
        exact Or.inl rfl
theorem p_L_handOn {l : Launch} {E : aE} (hl : l.stackTraces = false) (x1 : Nat) (x2 : Int32) (x3 : Int32) (x4 : Int32) (x5 : Nat) (h0 : aH) : MO (fun (v : Int32) => .inl (some (.int v))) l E yL_handOn (.codeWith yL_handOn cL_handOn 6 (some .int) [(0, 12, 15, 19), (0, 12, 19, 13)]) 8 144 [.ref (e_z E + x1), .int x2, .int x3, .int x4, .ref (e_z E + x5)] h0 (m_L_handOn x1 x2 x3 x4 x5 h0) := g_metH hl (by decide +kernel) (Nat.le_of_ble_eq_true rfl) (b_L_handOn hl _ _ x1 x2 x3 x4 x5 h0)
theorem dL_giveBack_0 : decode cL_giveBack 0 = .ok (.aload_n 2, 1) := by decide +kernel
theorem dL_giveBack_1 : decode cL_giveBack 1 = .ok (.iconst 0, 1) := by decide +kernel
theorem dL_giveBack_2 : decode cL_giveBack 2 = .ok (.aload_n 0, 1) := by decide +kernel
theorem dL_giveBack_3 : decode cL_giveBack 3 = .ok (.iload_n 1, 1) := by decide +kernel
theorem dL_giveBack_4 : decode cL_giveBack 4 = .ok (.invokevirtual 149, 3) := by decide +kernel
theorem dL_giveBack_7 : decode cL_giveBack 7 = .ok (.i2l, 1) := by decide +kernel
theorem dL_giveBack_8 : decode cL_giveBack 8 = .ok (.lastore, 1) := by decide +kernel
theorem dL_giveBack_9 : decode cL_giveBack 9 = .ok (.goto 9, 3) := by decide +kernel
theorem dL_giveBack_12 : decode cL_giveBack 12 = .ok (.astore_n 3, 1) := by decide +kernel
theorem dL_giveBack_13 : decode cL_giveBack 13 = .ok (.iconst 1, 1) := by decide +kernel
theorem dL_giveBack_14 : decode cL_giveBack 14 = .ok (.ireturn, 1) := by decide +kernel
theorem dL_giveBack_15 : decode cL_giveBack 15 = .ok (.astore_n 3, 1) := by decide +kernel
theorem dL_giveBack_16 : decode cL_giveBack 16 = .ok (.iconst 2, 1) := by decide +kernel
theorem dL_giveBack_17 : decode cL_giveBack 17 = .ok (.ireturn, 1) := by decide +kernel
theorem dL_giveBack_18 : decode cL_giveBack 18 = .ok (.iconst 0, 1) := by decide +kernel
theorem dL_giveBack_19 : decode cL_giveBack 19 = .ok (.ireturn, 1) := by decide +kernel
abbrev M_L_giveBack : aM := (yL_giveBack.cls, cL_giveBack, 4, (some .int), tableOf [(0, 9, 12, 19), (0, 9, 15, 13)], yL_giveBack.name == "<init>")
abbrev J_L_giveBack (l : Launch) (E : aE) (n0 m0 : Nat) := GG (fun (v : Int32) => .inl (some (.int v))) l E M_L_giveBack 8 135 n0 m0
theorem b_L_giveBack {l : Launch} {E : aE} (hl : l.stackTraces = false) (n0 m0 : Nat) (x1 : Nat) (x2 : Int32) (x3 : Nat) (h0 : aH) : J_L_giveBack l E n0 m0 0 [(0, .ref (e_z E + x1)), (1, .int x2), (2, .ref (e_z E + x3))] [] h0 (m_L_giveBack x1 x2 x3 h0) := by
  unfold m_L_giveBack
  refine g_aload_n (pc := 0) dL_giveBack_0 2 rfl ?_
  refine g_iconst (pc := 1) dL_giveBack_1 ci_0 ?_
  refine g_aload_n (pc := 2) dL_giveBack_2 0 rfl ?_
  refine g_iload_n (pc := 3) dL_giveBack_3 1 rfl ?_
  refine g_gS (fun hs => ?_)
  refine g_bCi (pc := 4) (c_V cl11 hs (p_X11_giveBack hl x1 x2 h0) y_X11_giveBack tw1462 dL_giveBack_4 rfl (st := [.int (0 : Int32), .ref (e_z E + x3)]) rfl (Nat.le_of_ble_eq_true rfl) (Nat.le_of_ble_eq_true rfl) (Nat.le_of_ble_eq_true rfl)) (fun x4 h1 => ?_) (fun X4 h2 => ?_)
  · refine g_i2l (pc := 7) dL_giveBack_7 ?_
    refine g_last (pc := 8) dL_giveBack_8 (fun h3 => ?_)
    refine g_goto (pc := 9) (tgt := 18) dL_giveBack_9 rfl ?_
    refine g_iconst (pc := 18) dL_giveBack_18 ci_0 ?_
    exact g_ret (pc := 19) rfl (isRet_i _) dL_giveBack_19 rfl
  · by_cases hX : X4 = "java/lang/IndexOutOfBoundsException"
    · rw [if_pos hX]
      subst hX
      refine Or.inr ⟨[], ⟨0, 9, 12, 19⟩, [⟨0, 9, 15, 13⟩], _, rfl, (fun z hz => nomatch hz), by decide, by decide, tw617, tw624, fun q5 => ?_⟩
      refine g_astore_n (pc := 12) (lv' := [(3, .ref q5), (0, .ref (e_z E + x1)), (1, .int x2), (2, .ref (e_z E + x3))]) dL_giveBack_12 (Nat.le_of_ble_eq_true rfl) rfl ?_
      refine g_iconst (pc := 13) dL_giveBack_13 ci_1 ?_
      exact g_ret (pc := 14) rfl (isRet_i _) dL_giveBack_14 rfl
    · rw [if_neg hX]
      by_cases hX : X4 = "java/lang/IllegalStateException"
      · rw [if_pos hX]
        subst hX
        refine Or.inr ⟨[⟨0, 9, 12, 19⟩], ⟨0, 9, 15, 13⟩, [], _, rfl, (fun z hz => by cases List.mem_singleton.mp hz; exact Or.inr ⟨by decide, _, tw617, by decide⟩), by decide, by decide, tw537, tw544, fun q6 => ?_⟩
        refine g_astore_n (pc := 15) (lv' := [(3, .ref q6), (0, .ref (e_z E + x1)), (1, .int x2), (2, .ref (e_z E + x3))]) dL_giveBack_15 (Nat.le_of_ble_eq_true rfl) rfl ?_
        refine g_iconst (pc := 16) dL_giveBack_16 ci_2 ?_
        exact g_ret (pc := 17) rfl (isRet_i _) dL_giveBack_17 rfl
      · rw [if_neg hX]
        exact Or.inl rfl
theorem p_L_giveBack {l : Launch} {E : aE} (hl : l.stackTraces = false) (x1 : Nat) (x2 : Int32) (x3 : Nat) (h0 : aH) : MO (fun (v : Int32) => .inl (some (.int v))) l E yL_giveBack (.codeWith yL_giveBack cL_giveBack 4 (some .int) [(0, 9, 12, 19), (0, 9, 15, 13)]) 8 135 [.ref (e_z E + x1), .int x2, .ref (e_z E + x3)] h0 (m_L_giveBack x1 x2 x3 h0) := g_metH hl (by decide +kernel) (Nat.le_of_ble_eq_true rfl) (b_L_giveBack hl _ _ x1 x2 x3 h0)
theorem dL_pass_0 : decode cL_pass 0 = .ok (.aload_n 2, 1) := by decide +kernel
theorem dL_pass_1 : decode cL_pass 1 = .ok (.iconst 0, 1) := by decide +kernel
theorem dL_pass_2 : decode cL_pass 2 = .ok (.aload_n 0, 1) := by decide +kernel
theorem dL_pass_3 : decode cL_pass 3 = .ok (.iload_n 1, 1) := by decide +kernel
theorem dL_pass_4 : decode cL_pass 4 = .ok (.invokevirtual 152, 3) := by decide +kernel
theorem dL_pass_7 : decode cL_pass 7 = .ok (.i2l, 1) := by decide +kernel
theorem dL_pass_8 : decode cL_pass 8 = .ok (.lastore, 1) := by decide +kernel
theorem dL_pass_9 : decode cL_pass 9 = .ok (.goto 9, 3) := by decide +kernel
theorem dL_pass_12 : decode cL_pass 12 = .ok (.astore_n 3, 1) := by decide +kernel
theorem dL_pass_13 : decode cL_pass 13 = .ok (.iconst 1, 1) := by decide +kernel
theorem dL_pass_14 : decode cL_pass 14 = .ok (.ireturn, 1) := by decide +kernel
theorem dL_pass_15 : decode cL_pass 15 = .ok (.astore_n 3, 1) := by decide +kernel
theorem dL_pass_16 : decode cL_pass 16 = .ok (.iconst 2, 1) := by decide +kernel
theorem dL_pass_17 : decode cL_pass 17 = .ok (.ireturn, 1) := by decide +kernel
theorem dL_pass_18 : decode cL_pass 18 = .ok (.iconst 0, 1) := by decide +kernel
theorem dL_pass_19 : decode cL_pass 19 = .ok (.ireturn, 1) := by decide +kernel
abbrev M_L_pass : aM := (yL_pass.cls, cL_pass, 4, (some .int), tableOf [(0, 9, 12, 25), (0, 9, 15, 13)], yL_pass.name == "<init>")
abbrev J_L_pass (l : Launch) (E : aE) (n0 m0 : Nat) := GG (fun (v : Int32) => .inl (some (.int v))) l E M_L_pass 7 146 n0 m0
theorem b_L_pass {l : Launch} {E : aE} (hl : l.stackTraces = false) (n0 m0 : Nat) (x1 : Nat) (x2 : Int32) (x3 : Nat) (h0 : aH) : J_L_pass l E n0 m0 0 [(0, .ref (e_z E + x1)), (1, .int x2), (2, .ref (e_z E + x3))] [] h0 (m_L_pass x1 x2 x3 h0) := by
  unfold m_L_pass
  refine g_aload_n (pc := 0) dL_pass_0 2 rfl ?_
  refine g_iconst (pc := 1) dL_pass_1 ci_0 ?_
  refine g_aload_n (pc := 2) dL_pass_2 0 rfl ?_
  refine g_iload_n (pc := 3) dL_pass_3 1 rfl ?_
  refine g_gS (fun hs => ?_)
  refine g_bCi (pc := 4) (c_V cl11 hs (p_X11_pass hl x1 x2 h0) y_X11_pass tw1470 dL_pass_4 rfl (st := [.int (0 : Int32), .ref (e_z E + x3)]) rfl (Nat.le_of_ble_eq_true rfl) (Nat.le_of_ble_eq_true rfl) (Nat.le_of_ble_eq_true rfl)) (fun x4 h1 => ?_) (fun X4 h2 => ?_)
  · refine g_i2l (pc := 7) dL_pass_7 ?_
    refine g_last (pc := 8) dL_pass_8 (fun h3 => ?_)
    refine g_goto (pc := 9) (tgt := 18) dL_pass_9 rfl ?_
    refine g_iconst (pc := 18) dL_pass_18 ci_0 ?_
    exact g_ret (pc := 19) rfl (isRet_i _) dL_pass_19 rfl
  · by_cases hX : X4 = "java/lang/IllegalArgumentException"
    · rw [if_pos hX]
      subst hX
      refine Or.inr ⟨[], ⟨0, 9, 12, 25⟩, [⟨0, 9, 15, 13⟩], _, rfl, (fun z hz => nomatch hz), by decide, by decide, tw641, tw832, fun q5 => ?_⟩
      refine g_astore_n (pc := 12) (lv' := [(3, .ref q5), (0, .ref (e_z E + x1)), (1, .int x2), (2, .ref (e_z E + x3))]) dL_pass_12 (Nat.le_of_ble_eq_true rfl) rfl ?_
      refine g_iconst (pc := 13) dL_pass_13 ci_1 ?_
      exact g_ret (pc := 14) rfl (isRet_i _) dL_pass_14 rfl
    · rw [if_neg hX]
      by_cases hX : X4 = "java/lang/IllegalStateException"
      · rw [if_pos hX]
        subst hX
        refine Or.inr ⟨[⟨0, 9, 12, 25⟩], ⟨0, 9, 15, 13⟩, [], _, rfl, (fun z hz => by cases List.mem_singleton.mp hz; exact Or.inr ⟨by decide, _, tw641, by decide⟩), by decide, by decide, tw537, tw544, fun q6 => ?_⟩
        refine g_astore_n (pc := 15) (lv' := [(3, .ref q6), (0, .ref (e_z E + x1)), (1, .int x2), (2, .ref (e_z E + x3))]) dL_pass_15 (Nat.le_of_ble_eq_true rfl) rfl ?_
        refine g_iconst (pc := 16) dL_pass_16 ci_2 ?_
        exact g_ret (pc := 17) rfl (isRet_i _) dL_pass_17 rfl
      · rw [if_neg hX]
        exact Or.inl rfl
theorem p_L_pass {l : Launch} {E : aE} (hl : l.stackTraces = false) (x1 : Nat) (x2 : Int32) (x3 : Nat) (h0 : aH) : MO (fun (v : Int32) => .inl (some (.int v))) l E yL_pass (.codeWith yL_pass cL_pass 4 (some .int) [(0, 9, 12, 25), (0, 9, 15, 13)]) 7 146 [.ref (e_z E + x1), .int x2, .ref (e_z E + x3)] h0 (m_L_pass x1 x2 x3 h0) := g_metH hl (by decide +kernel) (Nat.le_of_ble_eq_true rfl) (b_L_pass hl _ _ x1 x2 x3 h0)
theorem dL_swapPlaces_0 : decode cL_swapPlaces 0 = .ok (.aload 4, 2) := by decide +kernel
theorem dL_swapPlaces_2 : decode cL_swapPlaces 2 = .ok (.iconst 0, 1) := by decide +kernel
theorem dL_swapPlaces_3 : decode cL_swapPlaces 3 = .ok (.aload_n 0, 1) := by decide +kernel
theorem dL_swapPlaces_4 : decode cL_swapPlaces 4 = .ok (.iload_n 1, 1) := by decide +kernel
theorem dL_swapPlaces_5 : decode cL_swapPlaces 5 = .ok (.iload_n 2, 1) := by decide +kernel
theorem dL_swapPlaces_6 : decode cL_swapPlaces 6 = .ok (.iload_n 3, 1) := by decide +kernel
theorem dL_swapPlaces_7 : decode cL_swapPlaces 7 = .ok (.invokevirtual 155, 3) := by decide +kernel
theorem dL_swapPlaces_10 : decode cL_swapPlaces 10 = .ok (.i2l, 1) := by decide +kernel
theorem dL_swapPlaces_11 : decode cL_swapPlaces 11 = .ok (.lastore, 1) := by decide +kernel
theorem dL_swapPlaces_12 : decode cL_swapPlaces 12 = .ok (.goto 15, 3) := by decide +kernel
theorem dL_swapPlaces_15 : decode cL_swapPlaces 15 = .ok (.astore 5, 2) := by decide +kernel
theorem dL_swapPlaces_17 : decode cL_swapPlaces 17 = .ok (.iconst 1, 1) := by decide +kernel
theorem dL_swapPlaces_18 : decode cL_swapPlaces 18 = .ok (.ireturn, 1) := by decide +kernel
theorem dL_swapPlaces_19 : decode cL_swapPlaces 19 = .ok (.astore 5, 2) := by decide +kernel
theorem dL_swapPlaces_21 : decode cL_swapPlaces 21 = .ok (.iconst 2, 1) := by decide +kernel
theorem dL_swapPlaces_22 : decode cL_swapPlaces 22 = .ok (.ireturn, 1) := by decide +kernel
theorem dL_swapPlaces_23 : decode cL_swapPlaces 23 = .ok (.astore 5, 2) := by decide +kernel
theorem dL_swapPlaces_25 : decode cL_swapPlaces 25 = .ok (.iconst 3, 1) := by decide +kernel
theorem dL_swapPlaces_26 : decode cL_swapPlaces 26 = .ok (.ireturn, 1) := by decide +kernel
theorem dL_swapPlaces_27 : decode cL_swapPlaces 27 = .ok (.iconst 0, 1) := by decide +kernel
theorem dL_swapPlaces_28 : decode cL_swapPlaces 28 = .ok (.ireturn, 1) := by decide +kernel
abbrev M_L_swapPlaces : aM := (yL_swapPlaces.cls, cL_swapPlaces, 6, (some .int), tableOf [(0, 12, 15, 19), (0, 12, 19, 25), (0, 12, 23, 13)], yL_swapPlaces.name == "<init>")
abbrev J_L_swapPlaces (l : Launch) (E : aE) (n0 m0 : Nat) := GG (fun (v : Int32) => .inl (some (.int v))) l E M_L_swapPlaces 8 141 n0 m0
theorem b_L_swapPlaces {l : Launch} {E : aE} (hl : l.stackTraces = false) (n0 m0 : Nat) (x1 : Nat) (x2 : Int32) (x3 : Int32) (x4 : Int32) (x5 : Nat) (h0 : aH) : J_L_swapPlaces l E n0 m0 0 [(0, .ref (e_z E + x1)), (1, .int x2), (2, .int x3), (3, .int x4), (4, .ref (e_z E + x5))] [] h0 (m_L_swapPlaces x1 x2 x3 x4 x5 h0) := by
  unfold m_L_swapPlaces
  refine g_aload (pc := 0) dL_swapPlaces_0 4 rfl ?_
  refine g_iconst (pc := 2) dL_swapPlaces_2 ci_0 ?_
  refine g_aload_n (pc := 3) dL_swapPlaces_3 0 rfl ?_
  refine g_iload_n (pc := 4) dL_swapPlaces_4 1 rfl ?_
  refine g_iload_n (pc := 5) dL_swapPlaces_5 2 rfl ?_
  refine g_iload_n (pc := 6) dL_swapPlaces_6 3 rfl ?_
  refine g_gS (fun hs => ?_)
  refine g_bCi (pc := 7) (c_V cl11 hs (p_X11_swapPlaces hl x1 x2 x3 x4 h0) y_X11_swapPlaces tw1478 dL_swapPlaces_7 rfl (st := [.int (0 : Int32), .ref (e_z E + x5)]) rfl (Nat.le_of_ble_eq_true rfl) (Nat.le_of_ble_eq_true rfl) (Nat.le_of_ble_eq_true rfl)) (fun x6 h1 => ?_) (fun X7 h2 => ?_)
  · refine g_i2l (pc := 10) dL_swapPlaces_10 ?_
    refine g_last (pc := 11) dL_swapPlaces_11 (fun h3 => ?_)
    refine g_goto (pc := 12) (tgt := 27) dL_swapPlaces_12 rfl ?_
    refine g_iconst (pc := 27) dL_swapPlaces_27 ci_0 ?_
    exact g_ret (pc := 28) rfl (isRet_i _) dL_swapPlaces_28 rfl
  · by_cases hX : X7 = "java/lang/IndexOutOfBoundsException"
    · rw [if_pos hX]
      subst hX
      refine Or.inr ⟨[], ⟨0, 12, 15, 19⟩, [⟨0, 12, 19, 25⟩, ⟨0, 12, 23, 13⟩], _, rfl, (fun z hz => nomatch hz), by decide, by decide, tw617, tw624, fun q7 => ?_⟩
      refine g_astore (pc := 15) (lv' := [(5, .ref q7), (0, .ref (e_z E + x1)), (1, .int x2), (2, .int x3), (3, .int x4), (4, .ref (e_z E + x5))]) dL_swapPlaces_15 (Nat.le_of_ble_eq_true rfl) rfl ?_
      refine g_iconst (pc := 17) dL_swapPlaces_17 ci_1 ?_
      exact g_ret (pc := 18) rfl (isRet_i _) dL_swapPlaces_18 rfl
    · rw [if_neg hX]
      by_cases hX : X7 = "java/lang/IllegalArgumentException"
      · rw [if_pos hX]
        subst hX
        refine Or.inr ⟨[⟨0, 12, 15, 19⟩], ⟨0, 12, 19, 25⟩, [⟨0, 12, 23, 13⟩], _, rfl, (fun z hz => by cases List.mem_singleton.mp hz; exact Or.inr ⟨by decide, _, tw617, by decide⟩), by decide, by decide, tw641, tw832, fun q8 => ?_⟩
        refine g_astore (pc := 19) (lv' := [(5, .ref q8), (0, .ref (e_z E + x1)), (1, .int x2), (2, .int x3), (3, .int x4), (4, .ref (e_z E + x5))]) dL_swapPlaces_19 (Nat.le_of_ble_eq_true rfl) rfl ?_
        refine g_iconst (pc := 21) dL_swapPlaces_21 ci_2 ?_
        exact g_ret (pc := 22) rfl (isRet_i _) dL_swapPlaces_22 rfl
      · rw [if_neg hX]
        by_cases hX : X7 = "java/lang/IllegalStateException"
        · rw [if_pos hX]
          subst hX
          refine Or.inr ⟨[⟨0, 12, 15, 19⟩, ⟨0, 12, 19, 25⟩], ⟨0, 12, 23, 13⟩, [], _, rfl, (List.forall_mem_cons.mpr ⟨Or.inr ⟨by decide, _, tw617, by decide⟩, List.forall_mem_cons.mpr ⟨Or.inr ⟨by decide, _, tw641, by decide⟩, fun _ h9 => absurd h9 List.not_mem_nil⟩⟩), by decide, by decide, tw537, tw544, fun q9 => ?_⟩
          refine g_astore (pc := 23) (lv' := [(5, .ref q9), (0, .ref (e_z E + x1)), (1, .int x2), (2, .int x3), (3, .int x4), (4, .ref (e_z E + x5))]) dL_swapPlaces_23 (Nat.le_of_ble_eq_true rfl) rfl ?_
          refine g_iconst (pc := 25) dL_swapPlaces_25 ci_3 ?_
          exact g_ret (pc := 26) rfl (isRet_i _) dL_swapPlaces_26 rfl
        · rw [if_neg hX]
          exact Or.inl rfl
theorem p_L_swapPlaces {l : Launch} {E : aE} (hl : l.stackTraces = false) (x1 : Nat) (x2 : Int32) (x3 : Int32) (x4 : Int32) (x5 : Nat) (h0 : aH) : MO (fun (v : Int32) => .inl (some (.int v))) l E yL_swapPlaces (.codeWith yL_swapPlaces cL_swapPlaces 6 (some .int) [(0, 12, 15, 19), (0, 12, 19, 25), (0, 12, 23, 13)]) 8 141 [.ref (e_z E + x1), .int x2, .int x3, .int x4, .ref (e_z E + x5)] h0 (m_L_swapPlaces x1 x2 x3 x4 x5 h0) := g_metH hl (by decide +kernel) (Nat.le_of_ble_eq_true rfl) (b_L_swapPlaces hl _ _ x1 x2 x3 x4 x5 h0)
theorem dL_excuse_0 : decode cL_excuse 0 = .ok (.aload_n 3, 1) := by decide +kernel
theorem dL_excuse_1 : decode cL_excuse 1 = .ok (.iconst 0, 1) := by decide +kernel
theorem dL_excuse_2 : decode cL_excuse 2 = .ok (.aload_n 0, 1) := by decide +kernel
theorem dL_excuse_3 : decode cL_excuse 3 = .ok (.iload_n 1, 1) := by decide +kernel
theorem dL_excuse_4 : decode cL_excuse 4 = .ok (.iload_n 2, 1) := by decide +kernel
theorem dL_excuse_5 : decode cL_excuse 5 = .ok (.invokevirtual 158, 3) := by decide +kernel
theorem dL_excuse_8 : decode cL_excuse 8 = .ok (.i2l, 1) := by decide +kernel
theorem dL_excuse_9 : decode cL_excuse 9 = .ok (.lastore, 1) := by decide +kernel
theorem dL_excuse_10 : decode cL_excuse 10 = .ok (.goto 7, 3) := by decide +kernel
theorem dL_excuse_13 : decode cL_excuse 13 = .ok (.astore 4, 2) := by decide +kernel
theorem dL_excuse_15 : decode cL_excuse 15 = .ok (.iconst 1, 1) := by decide +kernel
theorem dL_excuse_16 : decode cL_excuse 16 = .ok (.ireturn, 1) := by decide +kernel
theorem dL_excuse_17 : decode cL_excuse 17 = .ok (.iconst 0, 1) := by decide +kernel
theorem dL_excuse_18 : decode cL_excuse 18 = .ok (.ireturn, 1) := by decide +kernel
abbrev M_L_excuse : aM := (yL_excuse.cls, cL_excuse, 5, (some .int), tableOf [(0, 10, 13, 19)], yL_excuse.name == "<init>")
abbrev J_L_excuse (l : Launch) (E : aE) (n0 m0 : Nat) := GG (fun (v : Int32) => .inl (some (.int v))) l E M_L_excuse 8 136 n0 m0
theorem b_L_excuse {l : Launch} {E : aE} (hl : l.stackTraces = false) (n0 m0 : Nat) (x1 : Nat) (x2 : Int32) (x3 : Int32) (x4 : Nat) (h0 : aH) : J_L_excuse l E n0 m0 0 [(0, .ref (e_z E + x1)), (1, .int x2), (2, .int x3), (3, .ref (e_z E + x4))] [] h0 (m_L_excuse x1 x2 x3 x4 h0) := by
  unfold m_L_excuse
  refine g_aload_n (pc := 0) dL_excuse_0 3 rfl ?_
  refine g_iconst (pc := 1) dL_excuse_1 ci_0 ?_
  refine g_aload_n (pc := 2) dL_excuse_2 0 rfl ?_
  refine g_iload_n (pc := 3) dL_excuse_3 1 rfl ?_
  refine g_iload_n (pc := 4) dL_excuse_4 2 rfl ?_
  refine g_gS (fun hs => ?_)
  refine g_bCi (pc := 5) (c_V cl11 hs (p_X11_excuse hl x1 x2 x3 h0) y_X11_excuse tw1488 dL_excuse_5 rfl (st := [.int (0 : Int32), .ref (e_z E + x4)]) rfl (Nat.le_of_ble_eq_true rfl) (Nat.le_of_ble_eq_true rfl) (Nat.le_of_ble_eq_true rfl)) (fun x5 h1 => ?_) (fun X5 h2 => ?_)
  · refine g_i2l (pc := 8) dL_excuse_8 ?_
    refine g_last (pc := 9) dL_excuse_9 (fun h3 => ?_)
    refine g_goto (pc := 10) (tgt := 17) dL_excuse_10 rfl ?_
    refine g_iconst (pc := 17) dL_excuse_17 ci_0 ?_
    exact g_ret (pc := 18) rfl (isRet_i _) dL_excuse_18 rfl
  · by_cases hX : X5 = "java/lang/IndexOutOfBoundsException"
    · rw [if_pos hX]
      subst hX
      refine Or.inr ⟨[], ⟨0, 10, 13, 19⟩, [], _, rfl, (fun z hz => nomatch hz), by decide, by decide, tw617, tw624, fun q6 => ?_⟩
      refine g_astore (pc := 13) (lv' := [(4, .ref q6), (0, .ref (e_z E + x1)), (1, .int x2), (2, .int x3), (3, .ref (e_z E + x4))]) dL_excuse_13 (Nat.le_of_ble_eq_true rfl) rfl ?_
      refine g_iconst (pc := 15) dL_excuse_15 ci_1 ?_
      exact g_ret (pc := 16) rfl (isRet_i _) dL_excuse_16 rfl
    · rw [if_neg hX]
      exact Or.inl rfl
theorem p_L_excuse {l : Launch} {E : aE} (hl : l.stackTraces = false) (x1 : Nat) (x2 : Int32) (x3 : Int32) (x4 : Nat) (h0 : aH) : MO (fun (v : Int32) => .inl (some (.int v))) l E yL_excuse (.codeWith yL_excuse cL_excuse 5 (some .int) [(0, 10, 13, 19)]) 8 136 [.ref (e_z E + x1), .int x2, .int x3, .ref (e_z E + x4)] h0 (m_L_excuse x1 x2 x3 x4 h0) := g_metH hl (by decide +kernel) (Nat.le_of_ble_eq_true rfl) (b_L_excuse hl _ _ x1 x2 x3 x4 h0)
theorem dL_setService_0 : decode cL_setService 0 = .ok (.aload_n 3, 1) := by decide +kernel
theorem dL_setService_1 : decode cL_setService 1 = .ok (.iconst 0, 1) := by decide +kernel
theorem dL_setService_2 : decode cL_setService 2 = .ok (.aload_n 0, 1) := by decide +kernel
theorem dL_setService_3 : decode cL_setService 3 = .ok (.iload_n 1, 1) := by decide +kernel
theorem dL_setService_4 : decode cL_setService 4 = .ok (.iload_n 2, 1) := by decide +kernel
theorem dL_setService_5 : decode cL_setService 5 = .ok (.invokevirtual 162, 3) := by decide +kernel
theorem dL_setService_8 : decode cL_setService 8 = .ok (.i2l, 1) := by decide +kernel
theorem dL_setService_9 : decode cL_setService 9 = .ok (.lastore, 1) := by decide +kernel
theorem dL_setService_10 : decode cL_setService 10 = .ok (.goto 11, 3) := by decide +kernel
theorem dL_setService_13 : decode cL_setService 13 = .ok (.astore 4, 2) := by decide +kernel
theorem dL_setService_15 : decode cL_setService 15 = .ok (.iconst 1, 1) := by decide +kernel
theorem dL_setService_16 : decode cL_setService 16 = .ok (.ireturn, 1) := by decide +kernel
theorem dL_setService_17 : decode cL_setService 17 = .ok (.astore 4, 2) := by decide +kernel
theorem dL_setService_19 : decode cL_setService 19 = .ok (.iconst 2, 1) := by decide +kernel
theorem dL_setService_20 : decode cL_setService 20 = .ok (.ireturn, 1) := by decide +kernel
theorem dL_setService_21 : decode cL_setService 21 = .ok (.iconst 0, 1) := by decide +kernel
theorem dL_setService_22 : decode cL_setService 22 = .ok (.ireturn, 1) := by decide +kernel
abbrev M_L_setService : aM := (yL_setService.cls, cL_setService, 5, (some .int), tableOf [(0, 10, 13, 19), (0, 10, 17, 13)], yL_setService.name == "<init>")
abbrev J_L_setService (l : Launch) (E : aE) (n0 m0 : Nat) := GG (fun (v : Int32) => .inl (some (.int v))) l E M_L_setService 8 136 n0 m0
theorem b_L_setService {l : Launch} {E : aE} (hl : l.stackTraces = false) (n0 m0 : Nat) (x1 : Nat) (x2 : Int32) (x3 : Int32) (x4 : Nat) (h0 : aH) : J_L_setService l E n0 m0 0 [(0, .ref (e_z E + x1)), (1, .int x2), (2, .int x3), (3, .ref (e_z E + x4))] [] h0 (m_L_setService x1 x2 x3 x4 h0) := by
  unfold m_L_setService
  refine g_aload_n (pc := 0) dL_setService_0 3 rfl ?_
  refine g_iconst (pc := 1) dL_setService_1 ci_0 ?_
  refine g_aload_n (pc := 2) dL_setService_2 0 rfl ?_
  refine g_iload_n (pc := 3) dL_setService_3 1 rfl ?_
  refine g_iload_n (pc := 4) dL_setService_4 2 rfl ?_
  refine g_gS (fun hs => ?_)
  refine g_bCi (pc := 5) (c_V cl11 hs (p_X11_setService hl x1 x2 x3 h0) y_X11_setService tw1496 dL_setService_5 rfl (st := [.int (0 : Int32), .ref (e_z E + x4)]) rfl (Nat.le_of_ble_eq_true rfl) (Nat.le_of_ble_eq_true rfl) (Nat.le_of_ble_eq_true rfl)) (fun x5 h1 => ?_) (fun X5 h2 => ?_)
  · refine g_i2l (pc := 8) dL_setService_8 ?_
    refine g_last (pc := 9) dL_setService_9 (fun h3 => ?_)
    refine g_goto (pc := 10) (tgt := 21) dL_setService_10 rfl ?_
    refine g_iconst (pc := 21) dL_setService_21 ci_0 ?_
    exact g_ret (pc := 22) rfl (isRet_i _) dL_setService_22 rfl
  · by_cases hX : X5 = "java/lang/IndexOutOfBoundsException"
    · rw [if_pos hX]
      subst hX
      refine Or.inr ⟨[], ⟨0, 10, 13, 19⟩, [⟨0, 10, 17, 13⟩], _, rfl, (fun z hz => nomatch hz), by decide, by decide, tw617, tw624, fun q6 => ?_⟩
      refine g_astore (pc := 13) (lv' := [(4, .ref q6), (0, .ref (e_z E + x1)), (1, .int x2), (2, .int x3), (3, .ref (e_z E + x4))]) dL_setService_13 (Nat.le_of_ble_eq_true rfl) rfl ?_
      refine g_iconst (pc := 15) dL_setService_15 ci_1 ?_
      exact g_ret (pc := 16) rfl (isRet_i _) dL_setService_16 rfl
    · rw [if_neg hX]
      by_cases hX : X5 = "java/lang/IllegalStateException"
      · rw [if_pos hX]
        subst hX
        refine Or.inr ⟨[⟨0, 10, 13, 19⟩], ⟨0, 10, 17, 13⟩, [], _, rfl, (fun z hz => by cases List.mem_singleton.mp hz; exact Or.inr ⟨by decide, _, tw617, by decide⟩), by decide, by decide, tw537, tw544, fun q7 => ?_⟩
        refine g_astore (pc := 17) (lv' := [(4, .ref q7), (0, .ref (e_z E + x1)), (1, .int x2), (2, .int x3), (3, .ref (e_z E + x4))]) dL_setService_17 (Nat.le_of_ble_eq_true rfl) rfl ?_
        refine g_iconst (pc := 19) dL_setService_19 ci_2 ?_
        exact g_ret (pc := 20) rfl (isRet_i _) dL_setService_20 rfl
      · rw [if_neg hX]
        exact Or.inl rfl
theorem p_L_setService {l : Launch} {E : aE} (hl : l.stackTraces = false) (x1 : Nat) (x2 : Int32) (x3 : Int32) (x4 : Nat) (h0 : aH) : MO (fun (v : Int32) => .inl (some (.int v))) l E yL_setService (.codeWith yL_setService cL_setService 5 (some .int) [(0, 10, 13, 19), (0, 10, 17, 13)]) 8 136 [.ref (e_z E + x1), .int x2, .int x3, .ref (e_z E + x4)] h0 (m_L_setService x1 x2 x3 x4 h0) := g_metH hl (by decide +kernel) (Nat.le_of_ble_eq_true rfl) (b_L_setService hl _ _ x1 x2 x3 x4 h0)
theorem dL_setTrust_0 : decode cL_setTrust 0 = .ok (.aload 4, 2) := by decide +kernel
theorem dL_setTrust_2 : decode cL_setTrust 2 = .ok (.iconst 0, 1) := by decide +kernel
theorem dL_setTrust_3 : decode cL_setTrust 3 = .ok (.aload_n 0, 1) := by decide +kernel
theorem dL_setTrust_4 : decode cL_setTrust 4 = .ok (.iload_n 1, 1) := by decide +kernel
theorem dL_setTrust_5 : decode cL_setTrust 5 = .ok (.iload_n 2, 1) := by decide +kernel
theorem dL_setTrust_6 : decode cL_setTrust 6 = .ok (.iload_n 3, 1) := by decide +kernel
theorem dL_setTrust_7 : decode cL_setTrust 7 = .ok (.invokevirtual 165, 3) := by decide +kernel
theorem dL_setTrust_10 : decode cL_setTrust 10 = .ok (.i2l, 1) := by decide +kernel
theorem dL_setTrust_11 : decode cL_setTrust 11 = .ok (.lastore, 1) := by decide +kernel
theorem dL_setTrust_12 : decode cL_setTrust 12 = .ok (.goto 11, 3) := by decide +kernel
theorem dL_setTrust_15 : decode cL_setTrust 15 = .ok (.astore 5, 2) := by decide +kernel
theorem dL_setTrust_17 : decode cL_setTrust 17 = .ok (.iconst 1, 1) := by decide +kernel
theorem dL_setTrust_18 : decode cL_setTrust 18 = .ok (.ireturn, 1) := by decide +kernel
theorem dL_setTrust_19 : decode cL_setTrust 19 = .ok (.astore 5, 2) := by decide +kernel
theorem dL_setTrust_21 : decode cL_setTrust 21 = .ok (.iconst 2, 1) := by decide +kernel
theorem dL_setTrust_22 : decode cL_setTrust 22 = .ok (.ireturn, 1) := by decide +kernel
theorem dL_setTrust_23 : decode cL_setTrust 23 = .ok (.iconst 0, 1) := by decide +kernel
theorem dL_setTrust_24 : decode cL_setTrust 24 = .ok (.ireturn, 1) := by decide +kernel
abbrev M_L_setTrust : aM := (yL_setTrust.cls, cL_setTrust, 6, (some .int), tableOf [(0, 12, 15, 19), (0, 12, 19, 25)], yL_setTrust.name == "<init>")
abbrev J_L_setTrust (l : Launch) (E : aE) (n0 m0 : Nat) := GG (fun (v : Int32) => .inl (some (.int v))) l E M_L_setTrust 9 157 n0 m0
theorem b_L_setTrust {l : Launch} {E : aE} (hl : l.stackTraces = false) (n0 m0 : Nat) (x1 : Nat) (x2 : Int32) (x3 : Int32) (x4 : Int32) (x5 : Nat) (h0 : aH) : J_L_setTrust l E n0 m0 0 [(0, .ref (e_z E + x1)), (1, .int x2), (2, .int x3), (3, .int x4), (4, .ref (e_z E + x5))] [] h0 (m_L_setTrust x1 x2 x3 x4 x5 h0) := by
  unfold m_L_setTrust
  refine g_aload (pc := 0) dL_setTrust_0 4 rfl ?_
  refine g_iconst (pc := 2) dL_setTrust_2 ci_0 ?_
  refine g_aload_n (pc := 3) dL_setTrust_3 0 rfl ?_
  refine g_iload_n (pc := 4) dL_setTrust_4 1 rfl ?_
  refine g_iload_n (pc := 5) dL_setTrust_5 2 rfl ?_
  refine g_iload_n (pc := 6) dL_setTrust_6 3 rfl ?_
  refine g_gS (fun hs => ?_)
  refine g_bCi (pc := 7) (c_V cl11 hs (p_X11_setTrust hl x1 x2 x3 x4 h0) y_X11_setTrust tw1504 dL_setTrust_7 rfl (st := [.int (0 : Int32), .ref (e_z E + x5)]) rfl (Nat.le_of_ble_eq_true rfl) (Nat.le_of_ble_eq_true rfl) (Nat.le_of_ble_eq_true rfl)) (fun x6 h1 => ?_) (fun X7 h2 => ?_)
  · refine g_i2l (pc := 10) dL_setTrust_10 ?_
    refine g_last (pc := 11) dL_setTrust_11 (fun h3 => ?_)
    refine g_goto (pc := 12) (tgt := 23) dL_setTrust_12 rfl ?_
    refine g_iconst (pc := 23) dL_setTrust_23 ci_0 ?_
    exact g_ret (pc := 24) rfl (isRet_i _) dL_setTrust_24 rfl
  · by_cases hX : X7 = "java/lang/IndexOutOfBoundsException"
    · rw [if_pos hX]
      subst hX
      refine Or.inr ⟨[], ⟨0, 12, 15, 19⟩, [⟨0, 12, 19, 25⟩], _, rfl, (fun z hz => nomatch hz), by decide, by decide, tw617, tw624, fun q7 => ?_⟩
      refine g_astore (pc := 15) (lv' := [(5, .ref q7), (0, .ref (e_z E + x1)), (1, .int x2), (2, .int x3), (3, .int x4), (4, .ref (e_z E + x5))]) dL_setTrust_15 (Nat.le_of_ble_eq_true rfl) rfl ?_
      refine g_iconst (pc := 17) dL_setTrust_17 ci_1 ?_
      exact g_ret (pc := 18) rfl (isRet_i _) dL_setTrust_18 rfl
    · rw [if_neg hX]
      by_cases hX : X7 = "java/lang/IllegalArgumentException"
      · rw [if_pos hX]
        subst hX
        refine Or.inr ⟨[⟨0, 12, 15, 19⟩], ⟨0, 12, 19, 25⟩, [], _, rfl, (fun z hz => by cases List.mem_singleton.mp hz; exact Or.inr ⟨by decide, _, tw617, by decide⟩), by decide, by decide, tw641, tw832, fun q8 => ?_⟩
        refine g_astore (pc := 19) (lv' := [(5, .ref q8), (0, .ref (e_z E + x1)), (1, .int x2), (2, .int x3), (3, .int x4), (4, .ref (e_z E + x5))]) dL_setTrust_19 (Nat.le_of_ble_eq_true rfl) rfl ?_
        refine g_iconst (pc := 21) dL_setTrust_21 ci_2 ?_
        exact g_ret (pc := 22) rfl (isRet_i _) dL_setTrust_22 rfl
      · rw [if_neg hX]
        exact Or.inl rfl
theorem p_L_setTrust {l : Launch} {E : aE} (hl : l.stackTraces = false) (x1 : Nat) (x2 : Int32) (x3 : Int32) (x4 : Int32) (x5 : Nat) (h0 : aH) : MO (fun (v : Int32) => .inl (some (.int v))) l E yL_setTrust (.codeWith yL_setTrust cL_setTrust 6 (some .int) [(0, 12, 15, 19), (0, 12, 19, 25)]) 9 157 [.ref (e_z E + x1), .int x2, .int x3, .int x4, .ref (e_z E + x5)] h0 (m_L_setTrust x1 x2 x3 x4 x5 h0) := g_metH hl (by decide +kernel) (Nat.le_of_ble_eq_true rfl) (b_L_setTrust hl _ _ x1 x2 x3 x4 x5 h0)
theorem dL_undo_0 : decode cL_undo 0 = .ok (.aload_n 1, 1) := by decide +kernel
theorem dL_undo_1 : decode cL_undo 1 = .ok (.iconst 0, 1) := by decide +kernel
theorem dL_undo_2 : decode cL_undo 2 = .ok (.aload_n 0, 1) := by decide +kernel
theorem dL_undo_3 : decode cL_undo 3 = .ok (.invokevirtual 168, 3) := by decide +kernel
theorem dL_undo_6 : decode cL_undo 6 = .ok (.i2l, 1) := by decide +kernel
theorem dL_undo_7 : decode cL_undo 7 = .ok (.lastore, 1) := by decide +kernel
theorem dL_undo_8 : decode cL_undo 8 = .ok (.goto 6, 3) := by decide +kernel
theorem dL_undo_11 : decode cL_undo 11 = .ok (.astore_n 2, 1) := by decide +kernel
theorem dL_undo_12 : decode cL_undo 12 = .ok (.iconst 1, 1) := by decide +kernel
theorem dL_undo_13 : decode cL_undo 13 = .ok (.ireturn, 1) := by decide +kernel
theorem dL_undo_14 : decode cL_undo 14 = .ok (.iconst 0, 1) := by decide +kernel
theorem dL_undo_15 : decode cL_undo 15 = .ok (.ireturn, 1) := by decide +kernel
abbrev M_L_undo : aM := (yL_undo.cls, cL_undo, 3, (some .int), tableOf [(0, 8, 11, 13)], yL_undo.name == "<init>")
abbrev J_L_undo (l : Launch) (E : aE) (n0 m0 : Nat) := GG (fun (v : Int32) => .inl (some (.int v))) l E M_L_undo 7 134 n0 m0
theorem b_L_undo {l : Launch} {E : aE} (hl : l.stackTraces = false) (n0 m0 : Nat) (x1 : Nat) (x2 : Nat) (h0 : aH) : J_L_undo l E n0 m0 0 [(0, .ref (e_z E + x1)), (1, .ref (e_z E + x2))] [] h0 (m_L_undo x1 x2 h0) := by
  unfold m_L_undo
  refine g_aload_n (pc := 0) dL_undo_0 1 rfl ?_
  refine g_iconst (pc := 1) dL_undo_1 ci_0 ?_
  refine g_aload_n (pc := 2) dL_undo_2 0 rfl ?_
  refine g_gS (fun hs => ?_)
  refine g_bCi (pc := 3) (c_V cl11 hs (p_X11_undo hl x1 h0) y_X11_undo tw1512 dL_undo_3 rfl (st := [.int (0 : Int32), .ref (e_z E + x2)]) rfl (Nat.le_of_ble_eq_true rfl) (Nat.le_of_ble_eq_true rfl) (Nat.le_of_ble_eq_true rfl)) (fun x3 h1 => ?_) (fun X3 h2 => ?_)
  · refine g_i2l (pc := 6) dL_undo_6 ?_
    refine g_last (pc := 7) dL_undo_7 (fun h3 => ?_)
    refine g_goto (pc := 8) (tgt := 14) dL_undo_8 rfl ?_
    refine g_iconst (pc := 14) dL_undo_14 ci_0 ?_
    exact g_ret (pc := 15) rfl (isRet_i _) dL_undo_15 rfl
  · by_cases hX : X3 = "java/lang/IllegalStateException"
    · rw [if_pos hX]
      subst hX
      refine Or.inr ⟨[], ⟨0, 8, 11, 13⟩, [], _, rfl, (fun z hz => nomatch hz), by decide, by decide, tw537, tw544, fun q4 => ?_⟩
      refine g_astore_n (pc := 11) (lv' := [(2, .ref q4), (0, .ref (e_z E + x1)), (1, .ref (e_z E + x2))]) dL_undo_11 (Nat.le_of_ble_eq_true rfl) rfl ?_
      refine g_iconst (pc := 12) dL_undo_12 ci_1 ?_
      exact g_ret (pc := 13) rfl (isRet_i _) dL_undo_13 rfl
    · rw [if_neg hX]
      exact Or.inl rfl
theorem p_L_undo {l : Launch} {E : aE} (hl : l.stackTraces = false) (x1 : Nat) (x2 : Nat) (h0 : aH) : MO (fun (v : Int32) => .inl (some (.int v))) l E yL_undo (.codeWith yL_undo cL_undo 3 (some .int) [(0, 8, 11, 13)]) 7 134 [.ref (e_z E + x1), .ref (e_z E + x2)] h0 (m_L_undo x1 x2 h0) := g_metH hl (by decide +kernel) (Nat.le_of_ble_eq_true rfl) (b_L_undo hl _ _ x1 x2 h0)
theorem dL_save_0 : decode cL_save 0 = .ok (.aload_n 0, 1) := by decide +kernel
theorem dL_save_1 : decode cL_save 1 = .ok (.iload_n 1, 1) := by decide +kernel
theorem dL_save_2 : decode cL_save 2 = .ok (.invokevirtual 171, 3) := by decide +kernel
theorem dL_save_5 : decode cL_save 5 = .ok (.goto 6, 3) := by decide +kernel
theorem dL_save_8 : decode cL_save 8 = .ok (.astore_n 2, 1) := by decide +kernel
theorem dL_save_9 : decode cL_save 9 = .ok (.iconst 1, 1) := by decide +kernel
theorem dL_save_10 : decode cL_save 10 = .ok (.ireturn, 1) := by decide +kernel
theorem dL_save_11 : decode cL_save 11 = .ok (.iconst 0, 1) := by decide +kernel
theorem dL_save_12 : decode cL_save 12 = .ok (.ireturn, 1) := by decide +kernel
abbrev M_L_save : aM := (yL_save.cls, cL_save, 3, (some .int), tableOf [(0, 5, 8, 19)], yL_save.name == "<init>")
abbrev J_L_save (l : Launch) (E : aE) (n0 m0 : Nat) := GG (fun (v : Int32) => .inl (some (.int v))) l E M_L_save 8 132 n0 m0
theorem b_L_save {l : Launch} {E : aE} (hl : l.stackTraces = false) (n0 m0 : Nat) (x1 : Nat) (x2 : Int32) (h0 : aH) : J_L_save l E n0 m0 0 [(0, .ref (e_z E + x1)), (1, .int x2)] [] h0 (m_L_save x1 x2 h0) := by
  unfold m_L_save
  refine g_aload_n (pc := 0) dL_save_0 0 rfl ?_
  refine g_iload_n (pc := 1) dL_save_1 1 rfl ?_
  refine g_gS (fun hs => ?_)
  refine g_bCv (pc := 2) (c_V cl11 hs (p_X11_save hl x1 x2 h0) y_X11_save tw1524 dL_save_2 rfl (st := []) rfl (Nat.le_of_ble_eq_true rfl) (Nat.le_of_ble_eq_true rfl) (Nat.le_of_ble_eq_true rfl)) (fun _ h1 => ?_) (fun X2 h2 => ?_)
  · refine g_goto (pc := 5) (tgt := 11) dL_save_5 rfl ?_
    refine g_iconst (pc := 11) dL_save_11 ci_0 ?_
    exact g_ret (pc := 12) rfl (isRet_i _) dL_save_12 rfl
  · by_cases hX : X2 = "java/lang/IndexOutOfBoundsException"
    · rw [if_pos hX]
      subst hX
      refine Or.inr ⟨[], ⟨0, 5, 8, 19⟩, [], _, rfl, (fun z hz => nomatch hz), by decide, by decide, tw617, tw624, fun q3 => ?_⟩
      refine g_astore_n (pc := 8) (lv' := [(2, .ref q3), (0, .ref (e_z E + x1)), (1, .int x2)]) dL_save_8 (Nat.le_of_ble_eq_true rfl) rfl ?_
      refine g_iconst (pc := 9) dL_save_9 ci_1 ?_
      exact g_ret (pc := 10) rfl (isRet_i _) dL_save_10 rfl
    · rw [if_neg hX]
      exact Or.inl rfl
theorem p_L_save {l : Launch} {E : aE} (hl : l.stackTraces = false) (x1 : Nat) (x2 : Int32) (h0 : aH) : MO (fun (v : Int32) => .inl (some (.int v))) l E yL_save (.codeWith yL_save cL_save 3 (some .int) [(0, 5, 8, 19)]) 8 132 [.ref (e_z E + x1), .int x2] h0 (m_L_save x1 x2 h0) := g_metH hl (by decide +kernel) (Nat.le_of_ble_eq_true rfl) (b_L_save hl _ _ x1 x2 h0)
theorem dL_restore_0 : decode cL_restore 0 = .ok (.aload_n 0, 1) := by decide +kernel
theorem dL_restore_1 : decode cL_restore 1 = .ok (.iload_n 1, 1) := by decide +kernel
theorem dL_restore_2 : decode cL_restore 2 = .ok (.invokevirtual 175, 3) := by decide +kernel
theorem dL_restore_5 : decode cL_restore 5 = .ok (.goto 9, 3) := by decide +kernel
theorem dL_restore_8 : decode cL_restore 8 = .ok (.astore_n 2, 1) := by decide +kernel
theorem dL_restore_9 : decode cL_restore 9 = .ok (.iconst 1, 1) := by decide +kernel
theorem dL_restore_10 : decode cL_restore 10 = .ok (.ireturn, 1) := by decide +kernel
theorem dL_restore_11 : decode cL_restore 11 = .ok (.astore_n 2, 1) := by decide +kernel
theorem dL_restore_12 : decode cL_restore 12 = .ok (.iconst 2, 1) := by decide +kernel
theorem dL_restore_13 : decode cL_restore 13 = .ok (.ireturn, 1) := by decide +kernel
theorem dL_restore_14 : decode cL_restore 14 = .ok (.iconst 0, 1) := by decide +kernel
theorem dL_restore_15 : decode cL_restore 15 = .ok (.ireturn, 1) := by decide +kernel
abbrev M_L_restore : aM := (yL_restore.cls, cL_restore, 3, (some .int), tableOf [(0, 5, 8, 19), (0, 5, 11, 30)], yL_restore.name == "<init>")
abbrev J_L_restore (l : Launch) (E : aE) (n0 m0 : Nat) := GG (fun (v : Int32) => .inl (some (.int v))) l E M_L_restore 8 132 n0 m0
theorem b_L_restore {l : Launch} {E : aE} (hl : l.stackTraces = false) (n0 m0 : Nat) (x1 : Nat) (x2 : Int32) (h0 : aH) : J_L_restore l E n0 m0 0 [(0, .ref (e_z E + x1)), (1, .int x2)] [] h0 (m_L_restore x1 x2 h0) := by
  unfold m_L_restore
  refine g_aload_n (pc := 0) dL_restore_0 0 rfl ?_
  refine g_iload_n (pc := 1) dL_restore_1 1 rfl ?_
  refine g_gS (fun hs => ?_)
  refine g_bCv (pc := 2) (c_V cl11 hs (p_X11_restore hl x1 x2 h0) y_X11_restore tw1536 dL_restore_2 rfl (st := []) rfl (Nat.le_of_ble_eq_true rfl) (Nat.le_of_ble_eq_true rfl) (Nat.le_of_ble_eq_true rfl)) (fun _ h1 => ?_) (fun X2 h2 => ?_)
  · refine g_goto (pc := 5) (tgt := 14) dL_restore_5 rfl ?_
    refine g_iconst (pc := 14) dL_restore_14 ci_0 ?_
    exact g_ret (pc := 15) rfl (isRet_i _) dL_restore_15 rfl
  · by_cases hX : X2 = "java/lang/IndexOutOfBoundsException"
    · rw [if_pos hX]
      subst hX
      refine Or.inr ⟨[], ⟨0, 5, 8, 19⟩, [⟨0, 5, 11, 30⟩], _, rfl, (fun z hz => nomatch hz), by decide, by decide, tw617, tw624, fun q3 => ?_⟩
      refine g_astore_n (pc := 8) (lv' := [(2, .ref q3), (0, .ref (e_z E + x1)), (1, .int x2)]) dL_restore_8 (Nat.le_of_ble_eq_true rfl) rfl ?_
      refine g_iconst (pc := 9) dL_restore_9 ci_1 ?_
      exact g_ret (pc := 10) rfl (isRet_i _) dL_restore_10 rfl
    · rw [if_neg hX]
      by_cases hX : X2 = "java/util/NoSuchElementException"
      · rw [if_pos hX]
        subst hX
        refine Or.inr ⟨[⟨0, 5, 8, 19⟩], ⟨0, 5, 11, 30⟩, [], _, rfl, (fun z hz => by cases List.mem_singleton.mp hz; exact Or.inr ⟨by decide, _, tw617, by decide⟩), by decide, by decide, tw864, tw878, fun q4 => ?_⟩
        refine g_astore_n (pc := 11) (lv' := [(2, .ref q4), (0, .ref (e_z E + x1)), (1, .int x2)]) dL_restore_11 (Nat.le_of_ble_eq_true rfl) rfl ?_
        refine g_iconst (pc := 12) dL_restore_12 ci_2 ?_
        exact g_ret (pc := 13) rfl (isRet_i _) dL_restore_13 rfl
      · rw [if_neg hX]
        exact Or.inl rfl
theorem p_L_restore {l : Launch} {E : aE} (hl : l.stackTraces = false) (x1 : Nat) (x2 : Int32) (h0 : aH) : MO (fun (v : Int32) => .inl (some (.int v))) l E yL_restore (.codeWith yL_restore cL_restore 3 (some .int) [(0, 5, 8, 19), (0, 5, 11, 30)]) 8 132 [.ref (e_z E + x1), .int x2] h0 (m_L_restore x1 x2 h0) := g_metH hl (by decide +kernel) (Nat.le_of_ble_eq_true rfl) (b_L_restore hl _ _ x1 x2 h0)
