/-! proofs of methods -/
theorem dX12_ownerAt_0 : decode cX12_ownerAt 0 = .ok (.aload_n 0, 1) := by decide +kernel
theorem dX12_ownerAt_1 : decode cX12_ownerAt 1 = .ok (.getfield 7, 3) := by decide +kernel
theorem dX12_ownerAt_4 : decode cX12_ownerAt 4 = .ok (.sipush 194, 3) := by decide +kernel
theorem dX12_ownerAt_7 : decode cX12_ownerAt 7 = .ok (.bipush 15, 2) := by decide +kernel
theorem dX12_ownerAt_9 : decode cX12_ownerAt 9 = .ok (.iload_n 1, 1) := by decide +kernel
theorem dX12_ownerAt_10 : decode cX12_ownerAt 10 = .ok (.imul, 1) := by decide +kernel
theorem dX12_ownerAt_11 : decode cX12_ownerAt 11 = .ok (.iadd, 1) := by decide +kernel
theorem dX12_ownerAt_12 : decode cX12_ownerAt 12 = .ok (.aload_n 0, 1) := by decide +kernel
theorem dX12_ownerAt_13 : decode cX12_ownerAt 13 = .ok (.iload_n 1, 1) := by decide +kernel
theorem dX12_ownerAt_14 : decode cX12_ownerAt 14 = .ok (.iload_n 2, 1) := by decide +kernel
theorem dX12_ownerAt_15 : decode cX12_ownerAt 15 = .ok (.invokevirtual 382, 3) := by decide +kernel
theorem dX12_ownerAt_18 : decode cX12_ownerAt 18 = .ok (.aload_n 0, 1) := by decide +kernel
theorem dX12_ownerAt_19 : decode cX12_ownerAt 19 = .ok (.getfield 45, 3) := by decide +kernel
theorem dX12_ownerAt_22 : decode cX12_ownerAt 22 = .ok (.iload_n 1, 1) := by decide +kernel
theorem dX12_ownerAt_23 : decode cX12_ownerAt 23 = .ok (.iaload, 1) := by decide +kernel
theorem dX12_ownerAt_24 : decode cX12_ownerAt 24 = .ok (.irem, 1) := by decide +kernel
theorem dX12_ownerAt_25 : decode cX12_ownerAt 25 = .ok (.iadd, 1) := by decide +kernel
theorem dX12_ownerAt_26 : decode cX12_ownerAt 26 = .ok (.iaload, 1) := by decide +kernel
theorem dX12_ownerAt_27 : decode cX12_ownerAt 27 = .ok (.ireturn, 1) := by decide +kernel
abbrev M_X12_ownerAt : aM := (yX12_ownerAt.cls, cX12_ownerAt, 3, (some .int), [], yX12_ownerAt.name == "<init>")
abbrev J_X12_ownerAt (l : Launch) (E : aE) (n0 m0 : Nat) := GG (fun (v : Int32) => .inl (some (.int v))) l E M_X12_ownerAt 1 22 n0 m0
theorem b_X12_ownerAt {l : Launch} {E : aE} (hl : l.stackTraces = false) (n0 m0 : Nat) (x1 : Nat) (x2 : Int32) (x3 : Int32) (h0 : aH) : J_X12_ownerAt l E n0 m0 0 [(0, .ref (e_z E + x1)), (1, .int x2), (2, .int x3)] [] h0 (m_X12_ownerAt x1 x2 x3 h0) := by
  unfold m_X12_ownerAt
  refine g_aload_n (pc := 0) dX12_ownerAt_0 0 rfl ?_
  refine g_getr (pc := 1) cl12 (Nat.le_of_ble_eq_true rfl) fk1552 (fun _ _ _ => rfl) dX12_ownerAt_1 (fun x4 => ?_)
  refine g_sipush (pc := 4) dX12_ownerAt_4 cs_194 ?_
  refine g_bipush (pc := 7) dX12_ownerAt_7 cb_15 ?_
  refine g_iload_n (pc := 9) dX12_ownerAt_9 1 rfl ?_
  refine g_imul (pc := 10) dX12_ownerAt_10 ?_
  refine g_iadd (pc := 11) dX12_ownerAt_11 ?_
  refine g_aload_n (pc := 12) dX12_ownerAt_12 0 rfl ?_
  refine g_iload_n (pc := 13) dX12_ownerAt_13 1 rfl ?_
  refine g_iload_n (pc := 14) dX12_ownerAt_14 2 rfl ?_
  refine g_gS (fun hs => ?_)
  refine g_bRi (pc := 15) (c_V cl12 hs (p_X12_turnAt hl x1 x2 x3 h0) y_X12_turnAt tw2012 dX12_ownerAt_15 rfl (st := [.int ((194 : Int32) + ((15 : Int32) * x2)), .ref (e_z E + x4)]) rfl (Nat.le_of_ble_eq_true rfl) (Nat.le_of_ble_eq_true rfl) (Nat.le_of_ble_eq_true rfl)) (fun x5 h1 => ?_)
  refine g_aload_n (pc := 18) dX12_ownerAt_18 0 rfl ?_
  refine g_getr (pc := 19) cl12 (Nat.le_of_ble_eq_true rfl) fk1568 (fun _ _ _ => rfl) dX12_ownerAt_19 (fun x6 => ?_)
  refine g_iload_n (pc := 22) dX12_ownerAt_22 1 rfl ?_
  refine g_iald (pc := 23) dX12_ownerAt_23 (fun x7 => ?_)
  refine g_irem (pc := 24) dX12_ownerAt_24 (fun x8 => ?_)
  refine g_iadd (pc := 25) dX12_ownerAt_25 ?_
  refine g_iald (pc := 26) dX12_ownerAt_26 (fun x9 => ?_)
  exact g_ret (pc := 27) rfl (isRet_i _) dX12_ownerAt_27 rfl
theorem p_X12_ownerAt {l : Launch} {E : aE} (hl : l.stackTraces = false) (x1 : Nat) (x2 : Int32) (x3 : Int32) (h0 : aH) : MO (fun (v : Int32) => .inl (some (.int v))) l E yX12_ownerAt (.code yX12_ownerAt cX12_ownerAt 3 (some .int)) 1 22 [.ref (e_z E + x1), .int x2, .int x3] h0 (m_X12_ownerAt x1 x2 x3 h0) := g_met hl (by decide +kernel) (Nat.le_of_ble_eq_true rfl) (b_X12_ownerAt hl _ _ x1 x2 x3 h0)
theorem dX12_link_0 : decode cX12_link 0 = .ok (.iload_n 2, 1) := by decide +kernel
theorem dX12_link_1 : decode cX12_link 1 = .ok (.ifCond .ne 17, 3) := by decide +kernel
theorem dX12_link_4 : decode cX12_link 4 = .ok (.aload_n 0, 1) := by decide +kernel
theorem dX12_link_5 : decode cX12_link 5 = .ok (.iload_n 1, 1) := by decide +kernel
theorem dX12_link_6 : decode cX12_link 6 = .ok (.aload_n 0, 1) := by decide +kernel
theorem dX12_link_7 : decode cX12_link 7 = .ok (.getfield 7, 3) := by decide +kernel
theorem dX12_link_10 : decode cX12_link 10 = .ok (.iconst 0, 1) := by decide +kernel
theorem dX12_link_11 : decode cX12_link 11 = .ok (.iaload, 1) := by decide +kernel
theorem dX12_link_12 : decode cX12_link 12 = .ok (.invokevirtual 385, 3) := by decide +kernel
theorem dX12_link_15 : decode cX12_link 15 = .ok (.goto 23, 3) := by decide +kernel
theorem dX12_link_18 : decode cX12_link 18 = .ok (.aload_n 0, 1) := by decide +kernel
theorem dX12_link_19 : decode cX12_link 19 = .ok (.getfield 7, 3) := by decide +kernel
theorem dX12_link_22 : decode cX12_link 22 = .ok (.sipush 194, 3) := by decide +kernel
theorem dX12_link_25 : decode cX12_link 25 = .ok (.bipush 15, 2) := by decide +kernel
theorem dX12_link_27 : decode cX12_link 27 = .ok (.iload_n 1, 1) := by decide +kernel
theorem dX12_link_28 : decode cX12_link 28 = .ok (.imul, 1) := by decide +kernel
theorem dX12_link_29 : decode cX12_link 29 = .ok (.iadd, 1) := by decide +kernel
theorem dX12_link_30 : decode cX12_link 30 = .ok (.bipush 9, 2) := by decide +kernel
theorem dX12_link_32 : decode cX12_link 32 = .ok (.iadd, 1) := by decide +kernel
theorem dX12_link_33 : decode cX12_link 33 = .ok (.iload_n 2, 1) := by decide +kernel
theorem dX12_link_34 : decode cX12_link 34 = .ok (.iadd, 1) := by decide +kernel
theorem dX12_link_35 : decode cX12_link 35 = .ok (.iconst 1, 1) := by decide +kernel
theorem dX12_link_36 : decode cX12_link 36 = .ok (.isub, 1) := by decide +kernel
theorem dX12_link_37 : decode cX12_link 37 = .ok (.iaload, 1) := by decide +kernel
theorem dX12_link_38 : decode cX12_link 38 = .ok (.ireturn, 1) := by decide +kernel
abbrev M_X12_link : aM := (yX12_link.cls, cX12_link, 3, (some .int), [], yX12_link.name == "<init>")
abbrev J_X12_link (l : Launch) (E : aE) (n0 m0 : Nat) := GG (fun (v : Int32) => .inl (some (.int v))) l E M_X12_link 2 44 n0 m0
theorem b_X12_link {l : Launch} {E : aE} (hl : l.stackTraces = false) (n0 m0 : Nat) (x1 : Nat) (x2 : Int32) (x3 : Int32) (h0 : aH) : J_X12_link l E n0 m0 0 [(0, .ref (e_z E + x1)), (1, .int x2), (2, .int x3)] [] h0 (m_X12_link x1 x2 x3 h0) := by
  unfold m_X12_link
  refine g_iload_n (pc := 0) dX12_link_0 2 rfl ?_
  refine g_join (fun k => ∀ (x4 : Int32) (h1 : aH), J_X12_link l E n0 m0 38 [] [.int x4] h1 (k x4 h1)) (fun x4 h1 => ?_) (fun k38 hk38 => ?_)
  · exact g_ret (pc := 38) rfl (isRet_i _) dX12_link_38 rfl
  refine g_ifne (pc := 1) (tgt := 18) dX12_link_1 rfl ?_ ?_
  · refine g_aload_n (pc := 4) dX12_link_4 0 rfl ?_
    refine g_iload_n (pc := 5) dX12_link_5 1 rfl ?_
    refine g_aload_n (pc := 6) dX12_link_6 0 rfl ?_
    refine g_getr (pc := 7) cl12 (Nat.le_of_ble_eq_true rfl) fk1552 (fun _ _ _ => rfl) dX12_link_7 (fun x5 => ?_)
    refine g_iconst (pc := 10) dX12_link_10 ci_0 ?_
    refine g_iald (pc := 11) dX12_link_11 (fun x6 => ?_)
    refine g_gS (fun hs => ?_)
    refine g_bRi (pc := 12) (c_V cl12 hs (p_X12_ownerAt hl x1 x2 x6 h0) y_X12_ownerAt tw2008 dX12_link_12 rfl (st := []) rfl (Nat.le_of_ble_eq_true rfl) (Nat.le_of_ble_eq_true rfl) (Nat.le_of_ble_eq_true rfl)) (fun x7 h2 => ?_)
    refine g_goto (pc := 15) (tgt := 38) dX12_link_15 rfl ?_
    refine g_lv [] rfl ?_
    exact hk38 x7 h2
  · refine g_aload_n (pc := 18) dX12_link_18 0 rfl ?_
    refine g_getr (pc := 19) cl12 (Nat.le_of_ble_eq_true rfl) fk1552 (fun _ _ _ => rfl) dX12_link_19 (fun x8 => ?_)
    refine g_sipush (pc := 22) dX12_link_22 cs_194 ?_
    refine g_bipush (pc := 25) dX12_link_25 cb_15 ?_
    refine g_iload_n (pc := 27) dX12_link_27 1 rfl ?_
    refine g_imul (pc := 28) dX12_link_28 ?_
    refine g_iadd (pc := 29) dX12_link_29 ?_
    refine g_bipush (pc := 30) dX12_link_30 cb_9 ?_
    refine g_iadd (pc := 32) dX12_link_32 ?_
    refine g_iload_n (pc := 33) dX12_link_33 2 rfl ?_
    refine g_iadd (pc := 34) dX12_link_34 ?_
    refine g_iconst (pc := 35) dX12_link_35 ci_1 ?_
    refine g_isub (pc := 36) dX12_link_36 ?_
    refine g_iald (pc := 37) dX12_link_37 (fun x9 => ?_)
    refine g_lv [] rfl ?_
    exact hk38 x9 h0
theorem p_X12_link {l : Launch} {E : aE} (hl : l.stackTraces = false) (x1 : Nat) (x2 : Int32) (x3 : Int32) (h0 : aH) : MO (fun (v : Int32) => .inl (some (.int v))) l E yX12_link (.code yX12_link cX12_link 3 (some .int)) 2 44 [.ref (e_z E + x1), .int x2, .int x3] h0 (m_X12_link x1 x2 x3 h0) := g_met hl (by decide +kernel) (Nat.le_of_ble_eq_true rfl) (b_X12_link hl _ _ x1 x2 x3 h0)
theorem dX12_hands_0 : decode cX12_hands 0 = .ok (.aload_n 0, 1) := by decide +kernel
theorem dX12_hands_1 : decode cX12_hands 1 = .ok (.getfield 7, 3) := by decide +kernel
theorem dX12_hands_4 : decode cX12_hands 4 = .ok (.sipush 194, 3) := by decide +kernel
theorem dX12_hands_7 : decode cX12_hands 7 = .ok (.bipush 15, 2) := by decide +kernel
theorem dX12_hands_9 : decode cX12_hands 9 = .ok (.iload_n 1, 1) := by decide +kernel
theorem dX12_hands_10 : decode cX12_hands 10 = .ok (.imul, 1) := by decide +kernel
theorem dX12_hands_11 : decode cX12_hands 11 = .ok (.iadd, 1) := by decide +kernel
theorem dX12_hands_12 : decode cX12_hands 12 = .ok (.bipush 8, 2) := by decide +kernel
theorem dX12_hands_14 : decode cX12_hands 14 = .ok (.iadd, 1) := by decide +kernel
theorem dX12_hands_15 : decode cX12_hands 15 = .ok (.iaload, 1) := by decide +kernel
theorem dX12_hands_16 : decode cX12_hands 16 = .ok (.ireturn, 1) := by decide +kernel
abbrev M_X12_hands : aM := (yX12_hands.cls, cX12_hands, 2, (some .int), [], yX12_hands.name == "<init>")
abbrev J_X12_hands (l : Launch) (E : aE) (n0 m0 : Nat) := GG (fun (v : Int32) => .inl (some (.int v))) l E M_X12_hands 0 0 n0 m0
theorem b_X12_hands {l : Launch} {E : aE} (hl : l.stackTraces = false) (n0 m0 : Nat) (x1 : Nat) (x2 : Int32) (h0 : aH) : J_X12_hands l E n0 m0 0 [(0, .ref (e_z E + x1)), (1, .int x2)] [] h0 (m_X12_hands x1 x2 h0) := by
  unfold m_X12_hands
  refine g_aload_n (pc := 0) dX12_hands_0 0 rfl ?_
  refine g_getr (pc := 1) cl12 (Nat.le_of_ble_eq_true rfl) fk1552 (fun _ _ _ => rfl) dX12_hands_1 (fun x3 => ?_)
  refine g_sipush (pc := 4) dX12_hands_4 cs_194 ?_
  refine g_bipush (pc := 7) dX12_hands_7 cb_15 ?_
  refine g_iload_n (pc := 9) dX12_hands_9 1 rfl ?_
  refine g_imul (pc := 10) dX12_hands_10 ?_
  refine g_iadd (pc := 11) dX12_hands_11 ?_
  refine g_bipush (pc := 12) dX12_hands_12 cb_8 ?_
  refine g_iadd (pc := 14) dX12_hands_14 ?_
  refine g_iald (pc := 15) dX12_hands_15 (fun x4 => ?_)
  exact g_ret (pc := 16) rfl (isRet_i _) dX12_hands_16 rfl
theorem p_X12_hands {l : Launch} {E : aE} (hl : l.stackTraces = false) (x1 : Nat) (x2 : Int32) (h0 : aH) : MO (fun (v : Int32) => .inl (some (.int v))) l E yX12_hands (.code yX12_hands cX12_hands 2 (some .int)) 0 0 [.ref (e_z E + x1), .int x2] h0 (m_X12_hands x1 x2 h0) := g_met hl (by decide +kernel) (Nat.le_of_ble_eq_true rfl) (b_X12_hands hl _ _ x1 x2 h0)
theorem dX12_holder_0 : decode cX12_holder 0 = .ok (.aload_n 0, 1) := by decide +kernel
theorem dX12_holder_1 : decode cX12_holder 1 = .ok (.iload_n 1, 1) := by decide +kernel
theorem dX12_holder_2 : decode cX12_holder 2 = .ok (.aload_n 0, 1) := by decide +kernel
theorem dX12_holder_3 : decode cX12_holder 3 = .ok (.iload_n 1, 1) := by decide +kernel
theorem dX12_holder_4 : decode cX12_holder 4 = .ok (.invokevirtual 388, 3) := by decide +kernel
theorem dX12_holder_7 : decode cX12_holder 7 = .ok (.invokevirtual 391, 3) := by decide +kernel
theorem dX12_holder_10 : decode cX12_holder 10 = .ok (.ireturn, 1) := by decide +kernel
abbrev M_X12_holder : aM := (yX12_holder.cls, cX12_holder, 2, (some .int), [], yX12_holder.name == "<init>")
abbrev J_X12_holder (l : Launch) (E : aE) (n0 m0 : Nat) := GG (fun (v : Int32) => .inl (some (.int v))) l E M_X12_holder 3 66 n0 m0
theorem b_X12_holder {l : Launch} {E : aE} (hl : l.stackTraces = false) (n0 m0 : Nat) (x1 : Nat) (x2 : Int32) (h0 : aH) : J_X12_holder l E n0 m0 0 [(0, .ref (e_z E + x1)), (1, .int x2)] [] h0 (m_X12_holder x1 x2 h0) := by
  unfold m_X12_holder
  refine g_aload_n (pc := 0) dX12_holder_0 0 rfl ?_
  refine g_iload_n (pc := 1) dX12_holder_1 1 rfl ?_
  refine g_aload_n (pc := 2) dX12_holder_2 0 rfl ?_
  refine g_iload_n (pc := 3) dX12_holder_3 1 rfl ?_
  refine g_gS (fun hs => ?_)
  refine g_bRi (pc := 4) (c_V cl12 hs (p_X12_hands hl x1 x2 h0) y_X12_hands tw2000 dX12_holder_4 rfl (st := [.int x2, .ref (e_z E + x1)]) rfl (Nat.le_of_ble_eq_true rfl) (Nat.le_of_ble_eq_true rfl) (Nat.le_of_ble_eq_true rfl)) (fun x3 h1 => ?_)
  refine g_gS (fun hs => ?_)
  refine g_bRi (pc := 7) (c_V cl12 hs (p_X12_link hl x1 x2 x3 h1) y_X12_link tw2004 dX12_holder_7 rfl (st := []) rfl (Nat.le_of_ble_eq_true rfl) (Nat.le_of_ble_eq_true rfl) (Nat.le_of_ble_eq_true rfl)) (fun x4 h2 => ?_)
  exact g_ret (pc := 10) rfl (isRet_i _) dX12_holder_10 rfl
theorem p_X12_holder {l : Launch} {E : aE} (hl : l.stackTraces = false) (x1 : Nat) (x2 : Int32) (h0 : aH) : MO (fun (v : Int32) => .inl (some (.int v))) l E yX12_holder (.code yX12_holder cX12_holder 2 (some .int)) 3 66 [.ref (e_z E + x1), .int x2] h0 (m_X12_holder x1 x2 h0) := g_met hl (by decide +kernel) (Nat.le_of_ble_eq_true rfl) (b_X12_holder hl _ _ x1 x2 h0)
theorem dX12_endOf_0 : decode cX12_endOf 0 = .ok (.aload_n 0, 1) := by decide +kernel
theorem dX12_endOf_1 : decode cX12_endOf 1 = .ok (.iload_n 1, 1) := by decide +kernel
theorem dX12_endOf_2 : decode cX12_endOf 2 = .ok (.invokevirtual 388, 3) := by decide +kernel
theorem dX12_endOf_5 : decode cX12_endOf 5 = .ok (.istore_n 2, 1) := by decide +kernel
theorem dX12_endOf_6 : decode cX12_endOf 6 = .ok (.iload_n 2, 1) := by decide +kernel
theorem dX12_endOf_7 : decode cX12_endOf 7 = .ok (.ifCond .le 26, 3) := by decide +kernel
theorem dX12_endOf_10 : decode cX12_endOf 10 = .ok (.aload_n 0, 1) := by decide +kernel
theorem dX12_endOf_11 : decode cX12_endOf 11 = .ok (.getfield 7, 3) := by decide +kernel
theorem dX12_endOf_14 : decode cX12_endOf 14 = .ok (.sipush 194, 3) := by decide +kernel
theorem dX12_endOf_17 : decode cX12_endOf 17 = .ok (.bipush 15, 2) := by decide +kernel
theorem dX12_endOf_19 : decode cX12_endOf 19 = .ok (.iload_n 1, 1) := by decide +kernel
theorem dX12_endOf_20 : decode cX12_endOf 20 = .ok (.imul, 1) := by decide +kernel
theorem dX12_endOf_21 : decode cX12_endOf 21 = .ok (.iadd, 1) := by decide +kernel
theorem dX12_endOf_22 : decode cX12_endOf 22 = .ok (.bipush 12, 2) := by decide +kernel
theorem dX12_endOf_24 : decode cX12_endOf 24 = .ok (.iadd, 1) := by decide +kernel
theorem dX12_endOf_25 : decode cX12_endOf 25 = .ok (.iload_n 2, 1) := by decide +kernel
theorem dX12_endOf_26 : decode cX12_endOf 26 = .ok (.iadd, 1) := by decide +kernel
theorem dX12_endOf_27 : decode cX12_endOf 27 = .ok (.iconst 1, 1) := by decide +kernel
theorem dX12_endOf_28 : decode cX12_endOf 28 = .ok (.isub, 1) := by decide +kernel
theorem dX12_endOf_29 : decode cX12_endOf 29 = .ok (.iaload, 1) := by decide +kernel
theorem dX12_endOf_30 : decode cX12_endOf 30 = .ok (.goto 23, 3) := by decide +kernel
theorem dX12_endOf_33 : decode cX12_endOf 33 = .ok (.aload_n 0, 1) := by decide +kernel
theorem dX12_endOf_34 : decode cX12_endOf 34 = .ok (.getfield 42, 3) := by decide +kernel
theorem dX12_endOf_37 : decode cX12_endOf 37 = .ok (.iload_n 1, 1) := by decide +kernel
theorem dX12_endOf_38 : decode cX12_endOf 38 = .ok (.iaload, 1) := by decide +kernel
theorem dX12_endOf_39 : decode cX12_endOf 39 = .ok (.aload_n 0, 1) := by decide +kernel
theorem dX12_endOf_40 : decode cX12_endOf 40 = .ok (.iload_n 1, 1) := by decide +kernel
theorem dX12_endOf_41 : decode cX12_endOf 41 = .ok (.aload_n 0, 1) := by decide +kernel
theorem dX12_endOf_42 : decode cX12_endOf 42 = .ok (.getfield 7, 3) := by decide +kernel
theorem dX12_endOf_45 : decode cX12_endOf 45 = .ok (.iconst 0, 1) := by decide +kernel
theorem dX12_endOf_46 : decode cX12_endOf 46 = .ok (.iaload, 1) := by decide +kernel
theorem dX12_endOf_47 : decode cX12_endOf 47 = .ok (.invokevirtual 382, 3) := by decide +kernel
theorem dX12_endOf_50 : decode cX12_endOf 50 = .ok (.iconst 1, 1) := by decide +kernel
theorem dX12_endOf_51 : decode cX12_endOf 51 = .ok (.iadd, 1) := by decide +kernel
theorem dX12_endOf_52 : decode cX12_endOf 52 = .ok (.imul, 1) := by decide +kernel
theorem dX12_endOf_53 : decode cX12_endOf 53 = .ok (.ireturn, 1) := by decide +kernel
abbrev M_X12_endOf : aM := (yX12_endOf.cls, cX12_endOf, 3, (some .int), [], yX12_endOf.name == "<init>")
abbrev J_X12_endOf (l : Launch) (E : aE) (n0 m0 : Nat) := GG (fun (v : Int32) => .inl (some (.int v))) l E M_X12_endOf 1 22 n0 m0
theorem b_X12_endOf {l : Launch} {E : aE} (hl : l.stackTraces = false) (n0 m0 : Nat) (x1 : Nat) (x2 : Int32) (h0 : aH) : J_X12_endOf l E n0 m0 0 [(0, .ref (e_z E + x1)), (1, .int x2)] [] h0 (m_X12_endOf x1 x2 h0) := by
  unfold m_X12_endOf
  refine g_aload_n (pc := 0) dX12_endOf_0 0 rfl ?_
  refine g_iload_n (pc := 1) dX12_endOf_1 1 rfl ?_
  refine g_gS (fun hs => ?_)
  refine g_bRi (pc := 2) (c_V cl12 hs (p_X12_hands hl x1 x2 h0) y_X12_hands tw2000 dX12_endOf_2 rfl (st := []) rfl (Nat.le_of_ble_eq_true rfl) (Nat.le_of_ble_eq_true rfl) (Nat.le_of_ble_eq_true rfl)) (fun x3 h1 => ?_)
  refine g_istore_n (pc := 5) (lv' := [(2, .int x3), (0, .ref (e_z E + x1)), (1, .int x2)]) dX12_endOf_5 (Nat.le_of_ble_eq_true rfl) rfl ?_
  refine g_iload_n (pc := 6) dX12_endOf_6 0 rfl ?_
  refine g_join (fun k => ∀ (x4 : Int32) (h2 : aH), J_X12_endOf l E n0 m0 53 [] [.int x4] h2 (k x4 h2)) (fun x4 h2 => ?_) (fun k53 hk53 => ?_)
  · exact g_ret (pc := 53) rfl (isRet_i _) dX12_endOf_53 rfl
  refine g_ifle (pc := 7) (tgt := 33) dX12_endOf_7 rfl ?_ ?_
  · refine g_aload_n (pc := 33) dX12_endOf_33 1 rfl ?_
    refine g_getr (pc := 34) cl12 (Nat.le_of_ble_eq_true rfl) fk1567 (fun _ _ _ => rfl) dX12_endOf_34 (fun x5 => ?_)
    refine g_iload_n (pc := 37) dX12_endOf_37 2 rfl ?_
    refine g_iald (pc := 38) dX12_endOf_38 (fun x6 => ?_)
    refine g_aload_n (pc := 39) dX12_endOf_39 1 rfl ?_
    refine g_iload_n (pc := 40) dX12_endOf_40 2 rfl ?_
    refine g_aload_n (pc := 41) dX12_endOf_41 1 rfl ?_
    refine g_getr (pc := 42) cl12 (Nat.le_of_ble_eq_true rfl) fk1552 (fun _ _ _ => rfl) dX12_endOf_42 (fun x7 => ?_)
    refine g_iconst (pc := 45) dX12_endOf_45 ci_0 ?_
    refine g_iald (pc := 46) dX12_endOf_46 (fun x8 => ?_)
    refine g_gS (fun hs => ?_)
    refine g_bRi (pc := 47) (c_V cl12 hs (p_X12_turnAt hl x1 x2 x8 h1) y_X12_turnAt tw2012 dX12_endOf_47 rfl (st := [.int x6]) rfl (Nat.le_of_ble_eq_true rfl) (Nat.le_of_ble_eq_true rfl) (Nat.le_of_ble_eq_true rfl)) (fun x9 h3 => ?_)
    refine g_iconst (pc := 50) dX12_endOf_50 ci_1 ?_
    refine g_iadd (pc := 51) dX12_endOf_51 ?_
    refine g_imul (pc := 52) dX12_endOf_52 ?_
    refine g_lv [] rfl ?_
    exact hk53 (x6 * (x9 + (1 : Int32))) h3
  · refine g_aload_n (pc := 10) dX12_endOf_10 1 rfl ?_
    refine g_getr (pc := 11) cl12 (Nat.le_of_ble_eq_true rfl) fk1552 (fun _ _ _ => rfl) dX12_endOf_11 (fun x10 => ?_)
    refine g_sipush (pc := 14) dX12_endOf_14 cs_194 ?_
    refine g_bipush (pc := 17) dX12_endOf_17 cb_15 ?_
    refine g_iload_n (pc := 19) dX12_endOf_19 2 rfl ?_
    refine g_imul (pc := 20) dX12_endOf_20 ?_
    refine g_iadd (pc := 21) dX12_endOf_21 ?_
    refine g_bipush (pc := 22) dX12_endOf_22 cb_12 ?_
    refine g_iadd (pc := 24) dX12_endOf_24 ?_
    refine g_iload_n (pc := 25) dX12_endOf_25 0 rfl ?_
    refine g_iadd (pc := 26) dX12_endOf_26 ?_
    refine g_iconst (pc := 27) dX12_endOf_27 ci_1 ?_
    refine g_isub (pc := 28) dX12_endOf_28 ?_
    refine g_iald (pc := 29) dX12_endOf_29 (fun x11 => ?_)
    refine g_goto (pc := 30) (tgt := 53) dX12_endOf_30 rfl ?_
    refine g_lv [] rfl ?_
    exact hk53 x11 h1
theorem p_X12_endOf {l : Launch} {E : aE} (hl : l.stackTraces = false) (x1 : Nat) (x2 : Int32) (h0 : aH) : MO (fun (v : Int32) => .inl (some (.int v))) l E yX12_endOf (.code yX12_endOf cX12_endOf 3 (some .int)) 1 22 [.ref (e_z E + x1), .int x2] h0 (m_X12_endOf x1 x2 h0) := g_met hl (by decide +kernel) (Nat.le_of_ble_eq_true rfl) (b_X12_endOf hl _ _ x1 x2 h0)
theorem dX12_against_0 : decode cX12_against 0 = .ok (.iconst 0, 1) := by decide +kernel
theorem dX12_against_1 : decode cX12_against 1 = .ok (.istore 4, 2) := by decide +kernel
theorem dX12_against_3 : decode cX12_against 3 = .ok (.iconst 0, 1) := by decide +kernel
theorem dX12_against_4 : decode cX12_against 4 = .ok (.istore 5, 2) := by decide +kernel
theorem dX12_against_6 : decode cX12_against 6 = .ok (.iconst 0, 1) := by decide +kernel
theorem dX12_against_7 : decode cX12_against 7 = .ok (.istore 6, 2) := by decide +kernel
theorem dX12_against_9 : decode cX12_against 9 = .ok (.iload 6, 2) := by decide +kernel
theorem dX12_against_11 : decode cX12_against 11 = .ok (.aload_n 0, 1) := by decide +kernel
theorem dX12_against_12 : decode cX12_against 12 = .ok (.iload_n 1, 1) := by decide +kernel
theorem dX12_against_13 : decode cX12_against 13 = .ok (.invokevirtual 388, 3) := by decide +kernel
theorem dX12_against_16 : decode cX12_against 16 = .ok (.if_icmp .gt 74, 3) := by decide +kernel
theorem dX12_against_19 : decode cX12_against 19 = .ok (.aload_n 0, 1) := by decide +kernel
theorem dX12_against_20 : decode cX12_against 20 = .ok (.iload_n 1, 1) := by decide +kernel
theorem dX12_against_21 : decode cX12_against 21 = .ok (.iload 6, 2) := by decide +kernel
theorem dX12_against_23 : decode cX12_against 23 = .ok (.invokevirtual 391, 3) := by decide +kernel
theorem dX12_against_26 : decode cX12_against 26 = .ok (.istore 7, 2) := by decide +kernel
theorem dX12_against_28 : decode cX12_against 28 = .ok (.iload 4, 2) := by decide +kernel
theorem dX12_against_30 : decode cX12_against 30 = .ok (.iload 7, 2) := by decide +kernel
theorem dX12_against_32 : decode cX12_against 32 = .ok (.iload_n 2, 1) := by decide +kernel
theorem dX12_against_33 : decode cX12_against 33 = .ok (.if_icmp .ne 7, 3) := by decide +kernel
theorem dX12_against_36 : decode cX12_against 36 = .ok (.iconst 1, 1) := by decide +kernel
theorem dX12_against_37 : decode cX12_against 37 = .ok (.goto 4, 3) := by decide +kernel
theorem dX12_against_40 : decode cX12_against 40 = .ok (.iconst 0, 1) := by decide +kernel
theorem dX12_against_41 : decode cX12_against 41 = .ok (.ior, 1) := by decide +kernel
theorem dX12_against_42 : decode cX12_against 42 = .ok (.istore 4, 2) := by decide +kernel
theorem dX12_against_44 : decode cX12_against 44 = .ok (.iload 5, 2) := by decide +kernel
theorem dX12_against_46 : decode cX12_against 46 = .ok (.iload 7, 2) := by decide +kernel
theorem dX12_against_48 : decode cX12_against 48 = .ok (.iload_n 2, 1) := by decide +kernel
theorem dX12_against_49 : decode cX12_against 49 = .ok (.if_icmp .eq 31, 3) := by decide +kernel
theorem dX12_against_52 : decode cX12_against 52 = .ok (.aload_n 0, 1) := by decide +kernel
theorem dX12_against_53 : decode cX12_against 53 = .ok (.getfield 7, 3) := by decide +kernel
theorem dX12_against_56 : decode cX12_against 56 = .ok (.bipush 50, 2) := by decide +kernel
theorem dX12_against_58 : decode cX12_against 58 = .ok (.bipush 12, 2) := by decide +kernel
theorem dX12_against_60 : decode cX12_against 60 = .ok (.iload 7, 2) := by decide +kernel
theorem dX12_against_62 : decode cX12_against 62 = .ok (.imul, 1) := by decide +kernel
theorem dX12_against_63 : decode cX12_against 63 = .ok (.iadd, 1) := by decide +kernel
theorem dX12_against_64 : decode cX12_against 64 = .ok (.iload_n 2, 1) := by decide +kernel
theorem dX12_against_65 : decode cX12_against 65 = .ok (.iadd, 1) := by decide +kernel
theorem dX12_against_66 : decode cX12_against 66 = .ok (.iaload, 1) := by decide +kernel
theorem dX12_against_67 : decode cX12_against 67 = .ok (.aload_n 0, 1) := by decide +kernel
theorem dX12_against_68 : decode cX12_against 68 = .ok (.getfield 39, 3) := by decide +kernel
theorem dX12_against_71 : decode cX12_against 71 = .ok (.iload_n 1, 1) := by decide +kernel
theorem dX12_against_72 : decode cX12_against 72 = .ok (.iaload, 1) := by decide +kernel
theorem dX12_against_73 : decode cX12_against 73 = .ok (.if_icmp .ge 7, 3) := by decide +kernel
theorem dX12_against_76 : decode cX12_against 76 = .ok (.iconst 1, 1) := by decide +kernel
theorem dX12_against_77 : decode cX12_against 77 = .ok (.goto 4, 3) := by decide +kernel
theorem dX12_against_80 : decode cX12_against 80 = .ok (.iconst 0, 1) := by decide +kernel
theorem dX12_against_81 : decode cX12_against 81 = .ok (.ior, 1) := by decide +kernel
theorem dX12_against_82 : decode cX12_against 82 = .ok (.istore 5, 2) := by decide +kernel
theorem dX12_against_84 : decode cX12_against 84 = .ok (.iinc 6 1, 3) := by decide +kernel
theorem dX12_against_87 : decode cX12_against 87 = .ok (.goto (-78), 3) := by decide +kernel
theorem dX12_against_90 : decode cX12_against 90 = .ok (.aload_n 0, 1) := by decide +kernel
theorem dX12_against_91 : decode cX12_against 91 = .ok (.aload_n 0, 1) := by decide +kernel
theorem dX12_against_92 : decode cX12_against 92 = .ok (.iload_n 1, 1) := by decide +kernel
theorem dX12_against_93 : decode cX12_against 93 = .ok (.invokevirtual 394, 3) := by decide +kernel
theorem dX12_against_96 : decode cX12_against 96 = .ok (.invokevirtual 356, 3) := by decide +kernel
theorem dX12_against_99 : decode cX12_against 99 = .ok (.ifCond .eq 5, 3) := by decide +kernel
theorem dX12_against_102 : decode cX12_against 102 = .ok (.iconst 1, 1) := by decide +kernel
theorem dX12_against_103 : decode cX12_against 103 = .ok (.ireturn, 1) := by decide +kernel
theorem dX12_against_104 : decode cX12_against 104 = .ok (.iload 4, 2) := by decide +kernel
theorem dX12_against_106 : decode cX12_against 106 = .ok (.ifCond .eq 5, 3) := by decide +kernel
theorem dX12_against_109 : decode cX12_against 109 = .ok (.iconst 2, 1) := by decide +kernel
theorem dX12_against_110 : decode cX12_against 110 = .ok (.ireturn, 1) := by decide +kernel
theorem dX12_against_111 : decode cX12_against 111 = .ok (.aload_n 0, 1) := by decide +kernel
theorem dX12_against_112 : decode cX12_against 112 = .ok (.getfield 7, 3) := by decide +kernel
theorem dX12_against_115 : decode cX12_against 115 = .ok (.bipush 26, 2) := by decide +kernel
theorem dX12_against_117 : decode cX12_against 117 = .ok (.iload_n 2, 1) := by decide +kernel
theorem dX12_against_118 : decode cX12_against 118 = .ok (.iadd, 1) := by decide +kernel
theorem dX12_against_119 : decode cX12_against 119 = .ok (.iaload, 1) := by decide +kernel
theorem dX12_against_120 : decode cX12_against 120 = .ok (.ifCond .eq 5, 3) := by decide +kernel
theorem dX12_against_123 : decode cX12_against 123 = .ok (.iconst 3, 1) := by decide +kernel
theorem dX12_against_124 : decode cX12_against 124 = .ok (.ireturn, 1) := by decide +kernel
theorem dX12_against_125 : decode cX12_against 125 = .ok (.aload_n 0, 1) := by decide +kernel
theorem dX12_against_126 : decode cX12_against 126 = .ok (.iload_n 2, 1) := by decide +kernel
theorem dX12_against_127 : decode cX12_against 127 = .ok (.invokevirtual 356, 3) := by decide +kernel
theorem dX12_against_130 : decode cX12_against 130 = .ok (.ifCond .eq 5, 3) := by decide +kernel
theorem dX12_against_133 : decode cX12_against 133 = .ok (.iconst 4, 1) := by decide +kernel
theorem dX12_against_134 : decode cX12_against 134 = .ok (.ireturn, 1) := by decide +kernel
theorem dX12_against_135 : decode cX12_against 135 = .ok (.aload_n 0, 1) := by decide +kernel
theorem dX12_against_136 : decode cX12_against 136 = .ok (.iload_n 2, 1) := by decide +kernel
theorem dX12_against_137 : decode cX12_against 137 = .ok (.invokevirtual 371, 3) := by decide +kernel
theorem dX12_against_140 : decode cX12_against 140 = .ok (.ifCond .eq 5, 3) := by decide +kernel
theorem dX12_against_143 : decode cX12_against 143 = .ok (.iconst 5, 1) := by decide +kernel
theorem dX12_against_144 : decode cX12_against 144 = .ok (.ireturn, 1) := by decide +kernel
theorem dX12_against_145 : decode cX12_against 145 = .ok (.iload 5, 2) := by decide +kernel
theorem dX12_against_147 : decode cX12_against 147 = .ok (.ifCond .eq 6, 3) := by decide +kernel
theorem dX12_against_150 : decode cX12_against 150 = .ok (.bipush 6, 2) := by decide +kernel
theorem dX12_against_152 : decode cX12_against 152 = .ok (.ireturn, 1) := by decide +kernel
theorem dX12_against_153 : decode cX12_against 153 = .ok (.aload_n 0, 1) := by decide +kernel
theorem dX12_against_154 : decode cX12_against 154 = .ok (.iload_n 1, 1) := by decide +kernel
theorem dX12_against_155 : decode cX12_against 155 = .ok (.invokevirtual 388, 3) := by decide +kernel
theorem dX12_against_158 : decode cX12_against 158 = .ok (.iconst 3, 1) := by decide +kernel
theorem dX12_against_159 : decode cX12_against 159 = .ok (.if_icmp .ne 6, 3) := by decide +kernel
theorem dX12_against_162 : decode cX12_against 162 = .ok (.bipush 7, 2) := by decide +kernel
theorem dX12_against_164 : decode cX12_against 164 = .ok (.ireturn, 1) := by decide +kernel
theorem dX12_against_165 : decode cX12_against 165 = .ok (.iload_n 3, 1) := by decide +kernel
theorem dX12_against_166 : decode cX12_against 166 = .ok (.aload_n 0, 1) := by decide +kernel
theorem dX12_against_167 : decode cX12_against 167 = .ok (.getfield 7, 3) := by decide +kernel
theorem dX12_against_170 : decode cX12_against 170 = .ok (.iconst 0, 1) := by decide +kernel
theorem dX12_against_171 : decode cX12_against 171 = .ok (.iaload, 1) := by decide +kernel
theorem dX12_against_172 : decode cX12_against 172 = .ok (.if_icmp .le 12, 3) := by decide +kernel
theorem dX12_against_175 : decode cX12_against 175 = .ok (.iload_n 3, 1) := by decide +kernel
theorem dX12_against_176 : decode cX12_against 176 = .ok (.aload_n 0, 1) := by decide +kernel
theorem dX12_against_177 : decode cX12_against 177 = .ok (.iload_n 1, 1) := by decide +kernel
theorem dX12_against_178 : decode cX12_against 178 = .ok (.invokevirtual 397, 3) := by decide +kernel
theorem dX12_against_181 : decode cX12_against 181 = .ok (.if_icmp .le 8, 3) := by decide +kernel
theorem dX12_against_184 : decode cX12_against 184 = .ok (.bipush 8, 2) := by decide +kernel
theorem dX12_against_186 : decode cX12_against 186 = .ok (.goto 4, 3) := by decide +kernel
theorem dX12_against_189 : decode cX12_against 189 = .ok (.iconst 0, 1) := by decide +kernel
theorem dX12_against_190 : decode cX12_against 190 = .ok (.ireturn, 1) := by decide +kernel
abbrev M_X12_against : aM := (yX12_against.cls, cX12_against, 8, (some .int), [], yX12_against.name == "<init>")
abbrev J_X12_against (l : Launch) (E : aE) (n0 m0 : Nat) := GG (fun (v : Int32) => .inl (some (.int v))) l E M_X12_against 4 87 n0 m0
theorem b_X12_against {l : Launch} {E : aE} (hl : l.stackTraces = false) (n0 m0 : Nat) (x1 : Nat) (x2 : Int32) (x3 : Int32) (x4 : Int32) (h0 : aH) : J_X12_against l E n0 m0 0 [(0, .ref (e_z E + x1)), (1, .int x2), (2, .int x3), (3, .int x4)] [] h0 (m_X12_against x1 x2 x3 x4 h0) := by
  unfold m_X12_against
  refine g_iconst (pc := 0) dX12_against_0 ci_0 ?_
  refine g_istore (pc := 1) (lv' := [(4, .int (0 : Int32)), (0, .ref (e_z E + x1)), (1, .int x2), (2, .int x3), (3, .int x4)]) dX12_against_1 (Nat.le_of_ble_eq_true rfl) rfl ?_
  refine g_iconst (pc := 3) dX12_against_3 ci_0 ?_
  refine g_istore (pc := 4) (lv' := [(5, .int (0 : Int32)), (4, .int (0 : Int32)), (0, .ref (e_z E + x1)), (1, .int x2), (2, .int x3), (3, .int x4)]) dX12_against_4 (Nat.le_of_ble_eq_true rfl) rfl ?_
  refine g_iconst (pc := 6) dX12_against_6 ci_0 ?_
  refine g_istore (pc := 7) (lv' := [(6, .int (0 : Int32)), (5, .int (0 : Int32)), (4, .int (0 : Int32)), (0, .ref (e_z E + x1)), (1, .int x2), (2, .int x3), (3, .int x4)]) dX12_against_7 (Nat.le_of_ble_eq_true rfl) rfl ?_
  refine g_join (fun k => ∀ (x5 : Int32) (x6 : Int32) (h1 : aH), J_X12_against l E n0 m0 90 [(0, .ref (e_z E + x1)), (1, .int x2), (2, .int x3), (3, .int x4), (4, .int x5), (5, .int x6)] [] h1 (k x5 x6 h1)) (fun x5 x6 h1 => ?_) (fun k90 hk90 => ?_)
  · refine g_aload_n (pc := 90) dX12_against_90 0 rfl ?_
    refine g_aload_n (pc := 91) dX12_against_91 0 rfl ?_
    refine g_iload_n (pc := 92) dX12_against_92 1 rfl ?_
    refine g_gS (fun hs => ?_)
    refine g_bRi (pc := 93) (c_V cl12 hs (p_X12_holder hl x1 x2 h1) y_X12_holder tw2053 dX12_against_93 rfl (st := [.ref (e_z E + x1)]) rfl (Nat.le_of_ble_eq_true rfl) (Nat.le_of_ble_eq_true rfl) (Nat.le_of_ble_eq_true rfl)) (fun x7 h2 => ?_)
    refine g_gS (fun hs => ?_)
    refine g_bRi (pc := 96) (c_V cl12 hs (p_X12_isOut hl x1 x7 h2) y_X12_isOut tw1931 dX12_against_96 rfl (st := []) rfl (Nat.le_of_ble_eq_true rfl) (Nat.le_of_ble_eq_true rfl) (Nat.le_of_ble_eq_true rfl)) (fun x8 h3 => ?_)
    refine g_ifeq (pc := 99) (tgt := 104) dX12_against_99 rfl ?_ ?_
    · refine g_iload (pc := 104) dX12_against_104 4 rfl ?_
      refine g_ifeq (pc := 106) (tgt := 111) dX12_against_106 rfl ?_ ?_
      · refine g_aload_n (pc := 111) dX12_against_111 0 rfl ?_
        refine g_getr (pc := 112) cl12 (Nat.le_of_ble_eq_true rfl) fk1552 (fun _ _ _ => rfl) dX12_against_112 (fun x9 => ?_)
        refine g_bipush (pc := 115) dX12_against_115 cb_26 ?_
        refine g_iload_n (pc := 117) dX12_against_117 2 rfl ?_
        refine g_iadd (pc := 118) dX12_against_118 ?_
        refine g_iald (pc := 119) dX12_against_119 (fun x10 => ?_)
        refine g_ifeq (pc := 120) (tgt := 125) dX12_against_120 rfl ?_ ?_
        · refine g_aload_n (pc := 125) dX12_against_125 0 rfl ?_
          refine g_iload_n (pc := 126) dX12_against_126 2 rfl ?_
          refine g_gS (fun hs => ?_)
          refine g_bRi (pc := 127) (c_V cl12 hs (p_X12_isOut hl x1 x3 h3) y_X12_isOut tw1931 dX12_against_127 rfl (st := []) rfl (Nat.le_of_ble_eq_true rfl) (Nat.le_of_ble_eq_true rfl) (Nat.le_of_ble_eq_true rfl)) (fun x11 h4 => ?_)
          refine g_ifeq (pc := 130) (tgt := 135) dX12_against_130 rfl ?_ ?_
          · refine g_aload_n (pc := 135) dX12_against_135 0 rfl ?_
            refine g_iload_n (pc := 136) dX12_against_136 2 rfl ?_
            refine g_gS (fun hs => ?_)
            refine g_bRi (pc := 137) (c_V cl12 hs (p_X12_isTired hl x1 x3 h4) y_X12_isTired tw1964 dX12_against_137 rfl (st := []) rfl (Nat.le_of_ble_eq_true rfl) (Nat.le_of_ble_eq_true rfl) (Nat.le_of_ble_eq_true rfl)) (fun x12 h5 => ?_)
            refine g_ifeq (pc := 140) (tgt := 145) dX12_against_140 rfl ?_ ?_
            · refine g_iload (pc := 145) dX12_against_145 5 rfl ?_
              refine g_ifeq (pc := 147) (tgt := 153) dX12_against_147 rfl ?_ ?_
              · refine g_aload_n (pc := 153) dX12_against_153 0 rfl ?_
                refine g_iload_n (pc := 154) dX12_against_154 1 rfl ?_
                refine g_gS (fun hs => ?_)
                refine g_bRi (pc := 155) (c_V cl12 hs (p_X12_hands hl x1 x2 h5) y_X12_hands tw2000 dX12_against_155 rfl (st := []) rfl (Nat.le_of_ble_eq_true rfl) (Nat.le_of_ble_eq_true rfl) (Nat.le_of_ble_eq_true rfl)) (fun x13 h6 => ?_)
                refine g_iconst (pc := 158) dX12_against_158 ci_3 ?_
                refine g_icmpne (pc := 159) (tgt := 165) dX12_against_159 rfl ?_ ?_
                · refine g_bipush (pc := 162) dX12_against_162 cb_7 ?_
                  exact g_ret (pc := 164) rfl (isRet_i _) dX12_against_164 rfl
                · refine g_iload_n (pc := 165) dX12_against_165 3 rfl ?_
                  refine g_aload_n (pc := 166) dX12_against_166 0 rfl ?_
                  refine g_getr (pc := 167) cl12 (Nat.le_of_ble_eq_true rfl) fk1552 (fun _ _ _ => rfl) dX12_against_167 (fun x14 => ?_)
                  refine g_iconst (pc := 170) dX12_against_170 ci_0 ?_
                  refine g_iald (pc := 171) dX12_against_171 (fun x15 => ?_)
                  refine g_join (fun k => ∀ (x16 : Int32) (h7 : aH), J_X12_against l E n0 m0 190 [] [.int x16] h7 (k x16 h7)) (fun x16 h7 => ?_) (fun k190 hk190 => ?_)
                  · exact g_ret (pc := 190) rfl (isRet_i _) dX12_against_190 rfl
                  refine g_join (fun k => ∀ (h8 : aH), J_X12_against l E n0 m0 184 [] [] h8 (k h8)) (fun h8 => ?_) (fun k184 hk184 => ?_)
                  · refine g_bipush (pc := 184) dX12_against_184 cb_8 ?_
                    refine g_goto (pc := 186) (tgt := 190) dX12_against_186 rfl ?_
                    exact hk190 (8 : Int32) h8
                  refine g_icmple (pc := 172) (tgt := 184) dX12_against_172 rfl ?_ ?_
                  · refine g_lv [] rfl ?_
                    exact hk184 h6
                  · refine g_iload_n (pc := 175) dX12_against_175 3 rfl ?_
                    refine g_aload_n (pc := 176) dX12_against_176 0 rfl ?_
                    refine g_iload_n (pc := 177) dX12_against_177 1 rfl ?_
                    refine g_gS (fun hs => ?_)
                    refine g_bRi (pc := 178) (c_V cl12 hs (p_X12_endOf hl x1 x2 h6) y_X12_endOf tw2024 dX12_against_178 rfl (st := [.int x4]) rfl (Nat.le_of_ble_eq_true rfl) (Nat.le_of_ble_eq_true rfl) (Nat.le_of_ble_eq_true rfl)) (fun x17 h9 => ?_)
                    refine g_icmple (pc := 181) (tgt := 189) dX12_against_181 rfl ?_ ?_
                    · refine g_iconst (pc := 189) dX12_against_189 ci_0 ?_
                      refine g_lv [] rfl ?_
                      exact hk190 (0 : Int32) h9
                    · refine g_lv [] rfl ?_
                      exact hk184 h9
              · refine g_bipush (pc := 150) dX12_against_150 cb_6 ?_
                exact g_ret (pc := 152) rfl (isRet_i _) dX12_against_152 rfl
            · refine g_iconst (pc := 143) dX12_against_143 ci_5 ?_
              exact g_ret (pc := 144) rfl (isRet_i _) dX12_against_144 rfl
          · refine g_iconst (pc := 133) dX12_against_133 ci_4 ?_
            exact g_ret (pc := 134) rfl (isRet_i _) dX12_against_134 rfl
        · refine g_iconst (pc := 123) dX12_against_123 ci_3 ?_
          exact g_ret (pc := 124) rfl (isRet_i _) dX12_against_124 rfl
      · refine g_iconst (pc := 109) dX12_against_109 ci_2 ?_
        exact g_ret (pc := 110) rfl (isRet_i _) dX12_against_110 rfl
    · refine g_iconst (pc := 102) dX12_against_102 ci_1 ?_
      exact g_ret (pc := 103) rfl (isRet_i _) dX12_against_103 rfl
  refine g_lv [3, 4, 5, 6, 2, 1, 0] rfl ?_
  refine g_loop3 (F := (m_X12_against_L9 x1 x2 x3 k90)) (fun x18 x19 x20 => [(0, .ref (e_z E + x1)), (1, .int x2), (2, .int x3), (3, .int x4), (4, .int x18), (5, .int x19), (6, .int x20)]) (fun r9 hr9 x18 x19 x20 h10 => ?_) _ _ _ _ _
  unfold m_X12_against_L9
  refine g_iload (pc := 9) dX12_against_9 6 rfl ?_
  refine g_aload_n (pc := 11) dX12_against_11 0 rfl ?_
  refine g_iload_n (pc := 12) dX12_against_12 1 rfl ?_
  refine g_gS (fun hs => ?_)
  refine g_bRi (pc := 13) (c_V cl12 hs (p_X12_hands hl x1 x2 h10) y_X12_hands tw2000 dX12_against_13 rfl (st := [.int x20]) rfl (Nat.le_of_ble_eq_true rfl) (Nat.le_of_ble_eq_true rfl) (Nat.le_of_ble_eq_true rfl)) (fun x21 h11 => ?_)
  refine g_icmpgt (pc := 16) (tgt := 90) dX12_against_16 rfl ?_ ?_
  · refine g_aload_n (pc := 19) dX12_against_19 0 rfl ?_
    refine g_iload_n (pc := 20) dX12_against_20 1 rfl ?_
    refine g_iload (pc := 21) dX12_against_21 6 rfl ?_
    refine g_gS (fun hs => ?_)
    refine g_bRi (pc := 23) (c_V cl12 hs (p_X12_link hl x1 x2 x20 h11) y_X12_link tw2004 dX12_against_23 rfl (st := []) rfl (Nat.le_of_ble_eq_true rfl) (Nat.le_of_ble_eq_true rfl) (Nat.le_of_ble_eq_true rfl)) (fun x22 h12 => ?_)
    refine g_istore (pc := 26) (lv' := [(7, .int x22), (0, .ref (e_z E + x1)), (1, .int x2), (2, .int x3), (3, .int x4), (4, .int x18), (5, .int x19), (6, .int x20)]) dX12_against_26 (Nat.le_of_ble_eq_true rfl) rfl ?_
    refine g_iload (pc := 28) dX12_against_28 5 rfl ?_
    refine g_iload (pc := 30) dX12_against_30 0 rfl ?_
    refine g_iload_n (pc := 32) dX12_against_32 3 rfl ?_
    refine g_join (fun k => ∀ (x23 : Int32) (h13 : aH), J_X12_against l E n0 m0 41 [(0, .ref (e_z E + x1)), (1, .int x2), (2, .int x3), (3, .int x4), (5, .int x19), (6, .int x20), (7, .int x22)] [.int x23, .int x18] h13 (k x23 h13)) (fun x23 h13 => ?_) (fun k41 hk41 => ?_)
    · refine g_ior (pc := 41) dX12_against_41 ?_
      refine g_topi (fun x24 => ?_)
      refine g_istore (pc := 42) (lv' := [(4, .int x24), (0, .ref (e_z E + x1)), (1, .int x2), (2, .int x3), (3, .int x4), (5, .int x19), (6, .int x20), (7, .int x22)]) dX12_against_42 (Nat.le_of_ble_eq_true rfl) rfl ?_
      refine g_iload (pc := 44) dX12_against_44 5 rfl ?_
      refine g_iload (pc := 46) dX12_against_46 7 rfl ?_
      refine g_iload_n (pc := 48) dX12_against_48 3 rfl ?_
      refine g_join (fun k => ∀ (x25 : Int32) (h14 : aH), J_X12_against l E n0 m0 81 [(0, .ref (e_z E + x1)), (1, .int x2), (2, .int x3), (3, .int x4), (4, .int x24), (6, .int x20)] [.int x25, .int x19] h14 (k x25 h14)) (fun x25 h14 => ?_) (fun k81 hk81 => ?_)
      · refine g_ior (pc := 81) dX12_against_81 ?_
        refine g_topi (fun x26 => ?_)
        refine g_istore (pc := 82) (lv' := [(5, .int x26), (0, .ref (e_z E + x1)), (1, .int x2), (2, .int x3), (3, .int x4), (4, .int x24), (6, .int x20)]) dX12_against_82 (Nat.le_of_ble_eq_true rfl) rfl ?_
        refine g_iincN (pc := 84) dX12_against_84 6 rfl ci_1 (Nat.le_of_ble_eq_true rfl) (fun x27 => ?_)
        refine g_lvr (lv' := [(6, .int x27), (5, .int x26), (0, .ref (e_z E + x1)), (1, .int x2), (2, .int x3), (3, .int x4), (4, .int x24)]) rfl ?_
        refine g_goto (pc := 87) (tgt := 9) dX12_against_87 rfl ?_
        refine g_lv [2, 3, 4, 5, 6, 1, 0] rfl ?_
        exact hr9 x24 x26 x27 h14
      refine g_join (fun k => ∀ (h15 : aH), J_X12_against l E n0 m0 80 [(0, .ref (e_z E + x1)), (1, .int x2), (2, .int x3), (3, .int x4), (4, .int x24), (6, .int x20)] [.int x19] h15 (k h15)) (fun h15 => ?_) (fun k80 hk80 => ?_)
      · refine g_iconst (pc := 80) dX12_against_80 ci_0 ?_
        exact hk81 (0 : Int32) h15
      refine g_icmpeq (pc := 49) (tgt := 80) dX12_against_49 rfl ?_ ?_
      · refine g_lv [1, 2, 3, 4, 0, 6] rfl ?_
        exact hk80 h13
      · refine g_aload_n (pc := 52) dX12_against_52 1 rfl ?_
        refine g_getr (pc := 53) cl12 (Nat.le_of_ble_eq_true rfl) fk1552 (fun _ _ _ => rfl) dX12_against_53 (fun x28 => ?_)
        refine g_bipush (pc := 56) dX12_against_56 cb_50 ?_
        refine g_bipush (pc := 58) dX12_against_58 cb_12 ?_
        refine g_iload (pc := 60) dX12_against_60 7 rfl ?_
        refine g_imul (pc := 62) dX12_against_62 ?_
        refine g_iadd (pc := 63) dX12_against_63 ?_
        refine g_iload_n (pc := 64) dX12_against_64 3 rfl ?_
        refine g_iadd (pc := 65) dX12_against_65 ?_
        refine g_iald (pc := 66) dX12_against_66 (fun x29 => ?_)
        refine g_aload_n (pc := 67) dX12_against_67 1 rfl ?_
        refine g_getr (pc := 68) cl12 (Nat.le_of_ble_eq_true rfl) fk1566 (fun _ _ _ => rfl) dX12_against_68 (fun x30 => ?_)
        refine g_iload_n (pc := 71) dX12_against_71 2 rfl ?_
        refine g_iald (pc := 72) dX12_against_72 (fun x31 => ?_)
        refine g_icmpge (pc := 73) (tgt := 80) dX12_against_73 rfl ?_ ?_
        · refine g_iconst (pc := 76) dX12_against_76 ci_1 ?_
          refine g_goto (pc := 77) (tgt := 81) dX12_against_77 rfl ?_
          refine g_lv [1, 2, 3, 4, 0, 6] rfl ?_
          exact hk81 (1 : Int32) h13
        · refine g_lv [1, 2, 3, 4, 0, 6] rfl ?_
          exact hk80 h13
    refine g_icmpne (pc := 33) (tgt := 40) dX12_against_33 rfl ?_ ?_
    · refine g_iconst (pc := 36) dX12_against_36 ci_1 ?_
      refine g_goto (pc := 37) (tgt := 41) dX12_against_37 rfl ?_
      refine g_lv [1, 2, 3, 4, 6, 7, 0] rfl ?_
      exact hk41 (1 : Int32) h12
    · refine g_iconst (pc := 40) dX12_against_40 ci_0 ?_
      refine g_lv [1, 2, 3, 4, 6, 7, 0] rfl ?_
      exact hk41 (0 : Int32) h12
  · refine g_lv [0, 1, 2, 3, 4, 5] rfl ?_
    exact hk90 x18 x19 h11
theorem p_X12_against {l : Launch} {E : aE} (hl : l.stackTraces = false) (x1 : Nat) (x2 : Int32) (x3 : Int32) (x4 : Int32) (h0 : aH) : MO (fun (v : Int32) => .inl (some (.int v))) l E yX12_against (.code yX12_against cX12_against 8 (some .int)) 4 87 [.ref (e_z E + x1), .int x2, .int x3, .int x4] h0 (m_X12_against x1 x2 x3 x4 h0) := g_met hl (by decide +kernel) (Nat.le_of_ble_eq_true rfl) (b_X12_against hl _ _ x1 x2 x3 x4 h0)
theorem dX12_hands__0 : decode cX12_hands_ 0 = .ok (.sipush 194, 3) := by decide +kernel
theorem dX12_hands__3 : decode cX12_hands_ 3 = .ok (.bipush 15, 2) := by decide +kernel
theorem dX12_hands__5 : decode cX12_hands_ 5 = .ok (.iload_n 1, 1) := by decide +kernel
theorem dX12_hands__6 : decode cX12_hands_ 6 = .ok (.imul, 1) := by decide +kernel
theorem dX12_hands__7 : decode cX12_hands_ 7 = .ok (.iadd, 1) := by decide +kernel
theorem dX12_hands__8 : decode cX12_hands_ 8 = .ok (.istore 4, 2) := by decide +kernel
theorem dX12_hands__10 : decode cX12_hands_ 10 = .ok (.aload_n 0, 1) := by decide +kernel
theorem dX12_hands__11 : decode cX12_hands_ 11 = .ok (.getfield 7, 3) := by decide +kernel
theorem dX12_hands__14 : decode cX12_hands_ 14 = .ok (.iload 4, 2) := by decide +kernel
theorem dX12_hands__16 : decode cX12_hands_ 16 = .ok (.bipush 9, 2) := by decide +kernel
theorem dX12_hands__18 : decode cX12_hands_ 18 = .ok (.iadd, 1) := by decide +kernel
theorem dX12_hands__19 : decode cX12_hands_ 19 = .ok (.aload_n 0, 1) := by decide +kernel
theorem dX12_hands__20 : decode cX12_hands_ 20 = .ok (.getfield 7, 3) := by decide +kernel
theorem dX12_hands__23 : decode cX12_hands_ 23 = .ok (.iload 4, 2) := by decide +kernel
theorem dX12_hands__25 : decode cX12_hands_ 25 = .ok (.bipush 8, 2) := by decide +kernel
theorem dX12_hands__27 : decode cX12_hands_ 27 = .ok (.iadd, 1) := by decide +kernel
theorem dX12_hands__28 : decode cX12_hands_ 28 = .ok (.iaload, 1) := by decide +kernel
theorem dX12_hands__29 : decode cX12_hands_ 29 = .ok (.iadd, 1) := by decide +kernel
theorem dX12_hands__30 : decode cX12_hands_ 30 = .ok (.iload_n 2, 1) := by decide +kernel
theorem dX12_hands__31 : decode cX12_hands_ 31 = .ok (.iastore, 1) := by decide +kernel
theorem dX12_hands__32 : decode cX12_hands_ 32 = .ok (.aload_n 0, 1) := by decide +kernel
theorem dX12_hands__33 : decode cX12_hands_ 33 = .ok (.getfield 7, 3) := by decide +kernel
theorem dX12_hands__36 : decode cX12_hands_ 36 = .ok (.iload 4, 2) := by decide +kernel
theorem dX12_hands__38 : decode cX12_hands_ 38 = .ok (.bipush 12, 2) := by decide +kernel
theorem dX12_hands__40 : decode cX12_hands_ 40 = .ok (.iadd, 1) := by decide +kernel
theorem dX12_hands__41 : decode cX12_hands_ 41 = .ok (.aload_n 0, 1) := by decide +kernel
theorem dX12_hands__42 : decode cX12_hands_ 42 = .ok (.getfield 7, 3) := by decide +kernel
theorem dX12_hands__45 : decode cX12_hands_ 45 = .ok (.iload 4, 2) := by decide +kernel
theorem dX12_hands__47 : decode cX12_hands_ 47 = .ok (.bipush 8, 2) := by decide +kernel
theorem dX12_hands__49 : decode cX12_hands_ 49 = .ok (.iadd, 1) := by decide +kernel
theorem dX12_hands__50 : decode cX12_hands_ 50 = .ok (.iaload, 1) := by decide +kernel
theorem dX12_hands__51 : decode cX12_hands_ 51 = .ok (.iadd, 1) := by decide +kernel
theorem dX12_hands__52 : decode cX12_hands_ 52 = .ok (.iload_n 3, 1) := by decide +kernel
theorem dX12_hands__53 : decode cX12_hands_ 53 = .ok (.iastore, 1) := by decide +kernel
theorem dX12_hands__54 : decode cX12_hands_ 54 = .ok (.aload_n 0, 1) := by decide +kernel
theorem dX12_hands__55 : decode cX12_hands_ 55 = .ok (.getfield 7, 3) := by decide +kernel
theorem dX12_hands__58 : decode cX12_hands_ 58 = .ok (.iload 4, 2) := by decide +kernel
theorem dX12_hands__60 : decode cX12_hands_ 60 = .ok (.bipush 8, 2) := by decide +kernel
theorem dX12_hands__62 : decode cX12_hands_ 62 = .ok (.iadd, 1) := by decide +kernel
theorem dX12_hands__63 : decode cX12_hands_ 63 = .ok (.dup2, 1) := by decide +kernel
theorem dX12_hands__64 : decode cX12_hands_ 64 = .ok (.iaload, 1) := by decide +kernel
theorem dX12_hands__65 : decode cX12_hands_ 65 = .ok (.iconst 1, 1) := by decide +kernel
theorem dX12_hands__66 : decode cX12_hands_ 66 = .ok (.iadd, 1) := by decide +kernel
theorem dX12_hands__67 : decode cX12_hands_ 67 = .ok (.iastore, 1) := by decide +kernel
theorem dX12_hands__68 : decode cX12_hands_ 68 = .ok (.return_, 1) := by decide +kernel
abbrev M_X12_hands_ : aM := (yX12_hands_.cls, cX12_hands_, 5, none, [], yX12_hands_.name == "<init>")
abbrev J_X12_hands_ (l : Launch) (E : aE) (n0 m0 : Nat) := GG (fun (_ : Unit) => .inl none) l E M_X12_hands_ 0 0 n0 m0
theorem b_X12_hands_ {l : Launch} {E : aE} (hl : l.stackTraces = false) (n0 m0 : Nat) (x1 : Nat) (x2 : Int32) (x3 : Int32) (x4 : Int32) (h0 : aH) : J_X12_hands_ l E n0 m0 0 [(0, .ref (e_z E + x1)), (1, .int x2), (2, .int x3), (3, .int x4)] [] h0 (m_X12_hands_ x1 x2 x3 x4 h0) := by
  unfold m_X12_hands_
  refine g_sipush (pc := 0) dX12_hands__0 cs_194 ?_
  refine g_bipush (pc := 3) dX12_hands__3 cb_15 ?_
  refine g_iload_n (pc := 5) dX12_hands__5 1 rfl ?_
  refine g_imul (pc := 6) dX12_hands__6 ?_
  refine g_iadd (pc := 7) dX12_hands__7 ?_
  refine g_topi (fun x5 => ?_)
  refine g_istore (pc := 8) (lv' := [(4, .int x5), (0, .ref (e_z E + x1)), (1, .int x2), (2, .int x3), (3, .int x4)]) dX12_hands__8 (Nat.le_of_ble_eq_true rfl) rfl ?_
  refine g_aload_n (pc := 10) dX12_hands__10 1 rfl ?_
  refine g_getr (pc := 11) cl12 (Nat.le_of_ble_eq_true rfl) fk1552 (fun _ _ _ => rfl) dX12_hands__11 (fun x6 => ?_)
  refine g_iload (pc := 14) dX12_hands__14 0 rfl ?_
  refine g_bipush (pc := 16) dX12_hands__16 cb_9 ?_
  refine g_iadd (pc := 18) dX12_hands__18 ?_
  refine g_aload_n (pc := 19) dX12_hands__19 1 rfl ?_
  refine g_getr (pc := 20) cl12 (Nat.le_of_ble_eq_true rfl) fk1552 (fun _ _ _ => rfl) dX12_hands__20 (fun x7 => ?_)
  refine g_iload (pc := 23) dX12_hands__23 0 rfl ?_
  refine g_bipush (pc := 25) dX12_hands__25 cb_8 ?_
  refine g_iadd (pc := 27) dX12_hands__27 ?_
  refine g_iald (pc := 28) dX12_hands__28 (fun x8 => ?_)
  refine g_iadd (pc := 29) dX12_hands__29 ?_
  refine g_iload_n (pc := 30) dX12_hands__30 3 rfl ?_
  refine g_iast (pc := 31) dX12_hands__31 (fun h1 => ?_)
  refine g_aload_n (pc := 32) dX12_hands__32 1 rfl ?_
  refine g_getr (pc := 33) cl12 (Nat.le_of_ble_eq_true rfl) fk1552 (fun _ _ _ => rfl) dX12_hands__33 (fun x9 => ?_)
  refine g_iload (pc := 36) dX12_hands__36 0 rfl ?_
  refine g_bipush (pc := 38) dX12_hands__38 cb_12 ?_
  refine g_iadd (pc := 40) dX12_hands__40 ?_
  refine g_aload_n (pc := 41) dX12_hands__41 1 rfl ?_
  refine g_getr (pc := 42) cl12 (Nat.le_of_ble_eq_true rfl) fk1552 (fun _ _ _ => rfl) dX12_hands__42 (fun x10 => ?_)
  refine g_iload (pc := 45) dX12_hands__45 0 rfl ?_
  refine g_bipush (pc := 47) dX12_hands__47 cb_8 ?_
  refine g_iadd (pc := 49) dX12_hands__49 ?_
  refine g_iald (pc := 50) dX12_hands__50 (fun x11 => ?_)
  refine g_iadd (pc := 51) dX12_hands__51 ?_
  refine g_iload_n (pc := 52) dX12_hands__52 4 rfl ?_
  refine g_iast (pc := 53) dX12_hands__53 (fun h2 => ?_)
  refine g_aload_n (pc := 54) dX12_hands__54 1 rfl ?_
  refine g_getr (pc := 55) cl12 (Nat.le_of_ble_eq_true rfl) fk1552 (fun _ _ _ => rfl) dX12_hands__55 (fun x12 => ?_)
  refine g_iload (pc := 58) dX12_hands__58 0 rfl ?_
  refine g_bipush (pc := 60) dX12_hands__60 cb_8 ?_
  refine g_iadd (pc := 62) dX12_hands__62 ?_
  refine g_topi (fun x13 => ?_)
  refine g_dup2 (pc := 63) rfl rfl dX12_hands__63 ?_
  refine g_iald (pc := 64) dX12_hands__64 (fun x14 => ?_)
  refine g_iconst (pc := 65) dX12_hands__65 ci_1 ?_
  refine g_iadd (pc := 66) dX12_hands__66 ?_
  refine g_iast (pc := 67) dX12_hands__67 (fun h3 => ?_)
  exact g_ret (pc := 68) rfl isRet_v dX12_hands__68 rfl
theorem p_X12_hands_ {l : Launch} {E : aE} (hl : l.stackTraces = false) (x1 : Nat) (x2 : Int32) (x3 : Int32) (x4 : Int32) (h0 : aH) : MO (fun (_ : Unit) => .inl none) l E yX12_hands_ (.code yX12_hands_ cX12_hands_ 5 none) 0 0 [.ref (e_z E + x1), .int x2, .int x3, .int x4] h0 (m_X12_hands_ x1 x2 x3 x4 h0) := g_met hl (by decide +kernel) (Nat.le_of_ble_eq_true rfl) (b_X12_hands_ hl _ _ x1 x2 x3 x4 h0)
theorem dX12_chain_0 : decode cX12_chain 0 = .ok (.aload_n 0, 1) := by decide +kernel
theorem dX12_chain_1 : decode cX12_chain 1 = .ok (.aload_n 0, 1) := by decide +kernel
theorem dX12_chain_2 : decode cX12_chain 2 = .ok (.iload_n 1, 1) := by decide +kernel
theorem dX12_chain_3 : decode cX12_chain 3 = .ok (.invokevirtual 400, 3) := by decide +kernel
theorem dX12_chain_6 : decode cX12_chain 6 = .ok (.ifCond .eq 22, 3) := by decide +kernel
theorem dX12_chain_9 : decode cX12_chain 9 = .ok (.iload_n 2, 1) := by decide +kernel
theorem dX12_chain_10 : decode cX12_chain 10 = .ok (.i2l, 1) := by decide +kernel
theorem dX12_chain_11 : decode cX12_chain 11 = .ok (.lconst 0, 1) := by decide +kernel
theorem dX12_chain_12 : decode cX12_chain 12 = .ok (.aload_n 0, 1) := by decide +kernel
theorem dX12_chain_13 : decode cX12_chain 13 = .ok (.iload_n 1, 1) := by decide +kernel
theorem dX12_chain_14 : decode cX12_chain 14 = .ok (.invokevirtual 388, 3) := by decide +kernel
theorem dX12_chain_17 : decode cX12_chain 17 = .ok (.i2l, 1) := by decide +kernel
theorem dX12_chain_18 : decode cX12_chain 18 = .ok (.invokestatic 176, 3) := by decide +kernel
theorem dX12_chain_21 : decode cX12_chain 21 = .ok (.ifCond .eq 7, 3) := by decide +kernel
theorem dX12_chain_24 : decode cX12_chain 24 = .ok (.iconst 0, 1) := by decide +kernel
theorem dX12_chain_25 : decode cX12_chain 25 = .ok (.goto 4, 3) := by decide +kernel
theorem dX12_chain_28 : decode cX12_chain 28 = .ok (.iconst 1, 1) := by decide +kernel
theorem dX12_chain_29 : decode cX12_chain 29 = .ok (.putfield 166, 3) := by decide +kernel
theorem dX12_chain_32 : decode cX12_chain 32 = .ok (.aload_n 0, 1) := by decide +kernel
theorem dX12_chain_33 : decode cX12_chain 33 = .ok (.getfield 166, 3) := by decide +kernel
theorem dX12_chain_36 : decode cX12_chain 36 = .ok (.ifCond .le 7, 3) := by decide +kernel
theorem dX12_chain_39 : decode cX12_chain 39 = .ok (.iconst 0, 1) := by decide +kernel
theorem dX12_chain_40 : decode cX12_chain 40 = .ok (.goto 9, 3) := by decide +kernel
theorem dX12_chain_43 : decode cX12_chain 43 = .ok (.aload_n 0, 1) := by decide +kernel
theorem dX12_chain_44 : decode cX12_chain 44 = .ok (.iload_n 1, 1) := by decide +kernel
theorem dX12_chain_45 : decode cX12_chain 45 = .ok (.iload_n 2, 1) := by decide +kernel
theorem dX12_chain_46 : decode cX12_chain 46 = .ok (.invokevirtual 391, 3) := by decide +kernel
theorem dX12_chain_49 : decode cX12_chain 49 = .ok (.ireturn, 1) := by decide +kernel
abbrev M_X12_chain : aM := (yX12_chain.cls, cX12_chain, 3, (some .int), [], yX12_chain.name == "<init>")
abbrev J_X12_chain (l : Launch) (E : aE) (n0 m0 : Nat) := GG (fun (v : Int32) => .inl (some (.int v))) l E M_X12_chain 3 66 n0 m0
theorem b_X12_chain {l : Launch} {E : aE} (hl : l.stackTraces = false) (n0 m0 : Nat) (x1 : Nat) (x2 : Int32) (x3 : Int32) (h0 : aH) : J_X12_chain l E n0 m0 0 [(0, .ref (e_z E + x1)), (1, .int x2), (2, .int x3)] [] h0 (m_X12_chain x1 x2 x3 h0) := by
  unfold m_X12_chain
  refine g_aload_n (pc := 0) dX12_chain_0 0 rfl ?_
  refine g_aload_n (pc := 1) dX12_chain_1 0 rfl ?_
  refine g_iload_n (pc := 2) dX12_chain_2 1 rfl ?_
  refine g_gS (fun hs => ?_)
  refine g_bRi (pc := 3) (c_V cl12 hs (p_X12_isPager hl x1 x2 h0) y_X12_isPager tw1996 dX12_chain_3 rfl (st := [.ref (e_z E + x1)]) rfl (Nat.le_of_ble_eq_true rfl) (Nat.le_of_ble_eq_true rfl) (Nat.le_of_ble_eq_true rfl)) (fun x4 h1 => ?_)
  refine g_join (fun k => ∀ (x5 : Int32) (h2 : aH), J_X12_chain l E n0 m0 29 [(0, .ref (e_z E + x1)), (1, .int x2), (2, .int x3)] [.int x5, .ref (e_z E + x1)] h2 (k x5 h2)) (fun x5 h2 => ?_) (fun k29 hk29 => ?_)
  · refine g_puti (pc := 29) cl12 (Nat.le_of_ble_eq_true rfl) (Or.inl ⟨rfl, fk1551⟩) (fun _ _ _ => rfl) (fun _ => ⟨rfl, rfl⟩) dX12_chain_29 (fun h3 => ?_)
    refine g_aload_n (pc := 32) dX12_chain_32 0 rfl ?_
    refine g_geti (pc := 33) cl12 (Nat.le_of_ble_eq_true rfl) fk1551 (fun _ _ _ => rfl) dX12_chain_33 (fun x6 => ?_)
    refine g_join (fun k => ∀ (x7 : Int32) (h4 : aH), J_X12_chain l E n0 m0 49 [] [.int x7] h4 (k x7 h4)) (fun x7 h4 => ?_) (fun k49 hk49 => ?_)
    · exact g_ret (pc := 49) rfl (isRet_i _) dX12_chain_49 rfl
    refine g_ifle (pc := 36) (tgt := 43) dX12_chain_36 rfl ?_ ?_
    · refine g_aload_n (pc := 43) dX12_chain_43 0 rfl ?_
      refine g_iload_n (pc := 44) dX12_chain_44 1 rfl ?_
      refine g_iload_n (pc := 45) dX12_chain_45 2 rfl ?_
      refine g_gS (fun hs => ?_)
      refine g_bRi (pc := 46) (c_V cl12 hs (p_X12_link hl x1 x2 x3 h3) y_X12_link tw2004 dX12_chain_46 rfl (st := []) rfl (Nat.le_of_ble_eq_true rfl) (Nat.le_of_ble_eq_true rfl) (Nat.le_of_ble_eq_true rfl)) (fun x8 h5 => ?_)
      refine g_lv [] rfl ?_
      exact hk49 x8 h5
    · refine g_iconst (pc := 39) dX12_chain_39 ci_0 ?_
      refine g_goto (pc := 40) (tgt := 49) dX12_chain_40 rfl ?_
      refine g_lv [] rfl ?_
      exact hk49 (0 : Int32) h3
  refine g_join (fun k => ∀ (h6 : aH), J_X12_chain l E n0 m0 28 [(0, .ref (e_z E + x1)), (1, .int x2), (2, .int x3)] [.ref (e_z E + x1)] h6 (k h6)) (fun h6 => ?_) (fun k28 hk28 => ?_)
  · refine g_iconst (pc := 28) dX12_chain_28 ci_1 ?_
    exact hk29 (1 : Int32) h6
  refine g_ifeq (pc := 6) (tgt := 28) dX12_chain_6 rfl ?_ ?_
  · exact hk28 h1
  · refine g_iload_n (pc := 9) dX12_chain_9 2 rfl ?_
    refine g_i2l (pc := 10) dX12_chain_10 ?_
    refine g_lconst (pc := 11) dX12_chain_11 cl_0 ?_
    refine g_aload_n (pc := 12) dX12_chain_12 0 rfl ?_
    refine g_iload_n (pc := 13) dX12_chain_13 1 rfl ?_
    refine g_gS (fun hs => ?_)
    refine g_bRi (pc := 14) (c_V cl12 hs (p_X12_hands hl x1 x2 h1) y_X12_hands tw2000 dX12_chain_14 rfl (st := [.long (0 : Int64), .long (x3.toInt64), .ref (e_z E + x1)]) rfl (Nat.le_of_ble_eq_true rfl) (Nat.le_of_ble_eq_true rfl) (Nat.le_of_ble_eq_true rfl)) (fun x9 h7 => ?_)
    refine g_i2l (pc := 17) dX12_chain_17 ?_
    refine g_bRi (pc := 18) (c_S (p_X12_in hl (x3.toInt64) (0 : Int64) (x9.toInt64) h7) y_X12_in tw1782 dX12_chain_18 rfl (st := [.ref (e_z E + x1)]) rfl (Nat.le_of_ble_eq_true rfl) (Nat.le_of_ble_eq_true rfl) (Nat.le_of_ble_eq_true rfl)) (fun x10 h8 => ?_)
    refine g_ifeq (pc := 21) (tgt := 28) dX12_chain_21 rfl ?_ ?_
    · exact hk28 h8
    · refine g_iconst (pc := 24) dX12_chain_24 ci_0 ?_
      refine g_goto (pc := 25) (tgt := 29) dX12_chain_25 rfl ?_
      exact hk29 (0 : Int32) h8
theorem p_X12_chain {l : Launch} {E : aE} (hl : l.stackTraces = false) (x1 : Nat) (x2 : Int32) (x3 : Int32) (h0 : aH) : MO (fun (v : Int32) => .inl (some (.int v))) l E yX12_chain (.code yX12_chain cX12_chain 3 (some .int)) 3 66 [.ref (e_z E + x1), .int x2, .int x3] h0 (m_X12_chain x1 x2 x3 h0) := g_met hl (by decide +kernel) (Nat.le_of_ble_eq_true rfl) (b_X12_chain hl _ _ x1 x2 x3 h0)
theorem dX12_handOns_0 : decode cX12_handOns 0 = .ok (.aload_n 0, 1) := by decide +kernel
theorem dX12_handOns_1 : decode cX12_handOns 1 = .ok (.aload_n 0, 1) := by decide +kernel
theorem dX12_handOns_2 : decode cX12_handOns 2 = .ok (.iload_n 1, 1) := by decide +kernel
theorem dX12_handOns_3 : decode cX12_handOns 3 = .ok (.invokevirtual 400, 3) := by decide +kernel
theorem dX12_handOns_6 : decode cX12_handOns 6 = .ok (.ifCond .eq 7, 3) := by decide +kernel
theorem dX12_handOns_9 : decode cX12_handOns 9 = .ok (.iconst 0, 1) := by decide +kernel
theorem dX12_handOns_10 : decode cX12_handOns 10 = .ok (.goto 4, 3) := by decide +kernel
theorem dX12_handOns_13 : decode cX12_handOns 13 = .ok (.iconst 1, 1) := by decide +kernel
theorem dX12_handOns_14 : decode cX12_handOns 14 = .ok (.putfield 166, 3) := by decide +kernel
theorem dX12_handOns_17 : decode cX12_handOns 17 = .ok (.aload_n 0, 1) := by decide +kernel
theorem dX12_handOns_18 : decode cX12_handOns 18 = .ok (.getfield 166, 3) := by decide +kernel
theorem dX12_handOns_21 : decode cX12_handOns 21 = .ok (.ifCond .le 7, 3) := by decide +kernel
theorem dX12_handOns_24 : decode cX12_handOns 24 = .ok (.iconst 0, 1) := by decide +kernel
theorem dX12_handOns_25 : decode cX12_handOns 25 = .ok (.goto 8, 3) := by decide +kernel
theorem dX12_handOns_28 : decode cX12_handOns 28 = .ok (.aload_n 0, 1) := by decide +kernel
theorem dX12_handOns_29 : decode cX12_handOns 29 = .ok (.iload_n 1, 1) := by decide +kernel
theorem dX12_handOns_30 : decode cX12_handOns 30 = .ok (.invokevirtual 388, 3) := by decide +kernel
theorem dX12_handOns_33 : decode cX12_handOns 33 = .ok (.ireturn, 1) := by decide +kernel
abbrev M_X12_handOns : aM := (yX12_handOns.cls, cX12_handOns, 2, (some .int), [], yX12_handOns.name == "<init>")
abbrev J_X12_handOns (l : Launch) (E : aE) (n0 m0 : Nat) := GG (fun (v : Int32) => .inl (some (.int v))) l E M_X12_handOns 2 46 n0 m0
theorem b_X12_handOns {l : Launch} {E : aE} (hl : l.stackTraces = false) (n0 m0 : Nat) (x1 : Nat) (x2 : Int32) (h0 : aH) : J_X12_handOns l E n0 m0 0 [(0, .ref (e_z E + x1)), (1, .int x2)] [] h0 (m_X12_handOns x1 x2 h0) := by
  unfold m_X12_handOns
  refine g_aload_n (pc := 0) dX12_handOns_0 0 rfl ?_
  refine g_aload_n (pc := 1) dX12_handOns_1 0 rfl ?_
  refine g_iload_n (pc := 2) dX12_handOns_2 1 rfl ?_
  refine g_gS (fun hs => ?_)
  refine g_bRi (pc := 3) (c_V cl12 hs (p_X12_isPager hl x1 x2 h0) y_X12_isPager tw1996 dX12_handOns_3 rfl (st := [.ref (e_z E + x1)]) rfl (Nat.le_of_ble_eq_true rfl) (Nat.le_of_ble_eq_true rfl) (Nat.le_of_ble_eq_true rfl)) (fun x3 h1 => ?_)
  refine g_join (fun k => ∀ (x4 : Int32) (h2 : aH), J_X12_handOns l E n0 m0 14 [(0, .ref (e_z E + x1)), (1, .int x2)] [.int x4, .ref (e_z E + x1)] h2 (k x4 h2)) (fun x4 h2 => ?_) (fun k14 hk14 => ?_)
  · refine g_puti (pc := 14) cl12 (Nat.le_of_ble_eq_true rfl) (Or.inl ⟨rfl, fk1551⟩) (fun _ _ _ => rfl) (fun _ => ⟨rfl, rfl⟩) dX12_handOns_14 (fun h3 => ?_)
    refine g_aload_n (pc := 17) dX12_handOns_17 0 rfl ?_
    refine g_geti (pc := 18) cl12 (Nat.le_of_ble_eq_true rfl) fk1551 (fun _ _ _ => rfl) dX12_handOns_18 (fun x5 => ?_)
    refine g_join (fun k => ∀ (x6 : Int32) (h4 : aH), J_X12_handOns l E n0 m0 33 [] [.int x6] h4 (k x6 h4)) (fun x6 h4 => ?_) (fun k33 hk33 => ?_)
    · exact g_ret (pc := 33) rfl (isRet_i _) dX12_handOns_33 rfl
    refine g_ifle (pc := 21) (tgt := 28) dX12_handOns_21 rfl ?_ ?_
    · refine g_aload_n (pc := 28) dX12_handOns_28 0 rfl ?_
      refine g_iload_n (pc := 29) dX12_handOns_29 1 rfl ?_
      refine g_gS (fun hs => ?_)
      refine g_bRi (pc := 30) (c_V cl12 hs (p_X12_hands hl x1 x2 h3) y_X12_hands tw2000 dX12_handOns_30 rfl (st := []) rfl (Nat.le_of_ble_eq_true rfl) (Nat.le_of_ble_eq_true rfl) (Nat.le_of_ble_eq_true rfl)) (fun x7 h5 => ?_)
      refine g_lv [] rfl ?_
      exact hk33 x7 h5
    · refine g_iconst (pc := 24) dX12_handOns_24 ci_0 ?_
      refine g_goto (pc := 25) (tgt := 33) dX12_handOns_25 rfl ?_
      refine g_lv [] rfl ?_
      exact hk33 (0 : Int32) h3
  refine g_ifeq (pc := 6) (tgt := 13) dX12_handOns_6 rfl ?_ ?_
  · refine g_iconst (pc := 13) dX12_handOns_13 ci_1 ?_
    exact hk14 (1 : Int32) h1
  · refine g_iconst (pc := 9) dX12_handOns_9 ci_0 ?_
    refine g_goto (pc := 10) (tgt := 14) dX12_handOns_10 rfl ?_
    exact hk14 (0 : Int32) h1
theorem p_X12_handOns {l : Launch} {E : aE} (hl : l.stackTraces = false) (x1 : Nat) (x2 : Int32) (h0 : aH) : MO (fun (v : Int32) => .inl (some (.int v))) l E yX12_handOns (.code yX12_handOns cX12_handOns 2 (some .int)) 2 46 [.ref (e_z E + x1), .int x2] h0 (m_X12_handOns x1 x2 h0) := g_met hl (by decide +kernel) (Nat.le_of_ble_eq_true rfl) (b_X12_handOns hl _ _ x1 x2 h0)
theorem dX12_holdingEnd_0 : decode cX12_holdingEnd 0 = .ok (.aload_n 0, 1) := by decide +kernel
theorem dX12_holdingEnd_1 : decode cX12_holdingEnd 1 = .ok (.aload_n 0, 1) := by decide +kernel
theorem dX12_holdingEnd_2 : decode cX12_holdingEnd 2 = .ok (.iload_n 1, 1) := by decide +kernel
theorem dX12_holdingEnd_3 : decode cX12_holdingEnd 3 = .ok (.invokevirtual 400, 3) := by decide +kernel
theorem dX12_holdingEnd_6 : decode cX12_holdingEnd 6 = .ok (.ifCond .eq 7, 3) := by decide +kernel
theorem dX12_holdingEnd_9 : decode cX12_holdingEnd 9 = .ok (.iconst 0, 1) := by decide +kernel
theorem dX12_holdingEnd_10 : decode cX12_holdingEnd 10 = .ok (.goto 4, 3) := by decide +kernel
theorem dX12_holdingEnd_13 : decode cX12_holdingEnd 13 = .ok (.iconst 1, 1) := by decide +kernel
theorem dX12_holdingEnd_14 : decode cX12_holdingEnd 14 = .ok (.putfield 166, 3) := by decide +kernel
theorem dX12_holdingEnd_17 : decode cX12_holdingEnd 17 = .ok (.aload_n 0, 1) := by decide +kernel
theorem dX12_holdingEnd_18 : decode cX12_holdingEnd 18 = .ok (.getfield 166, 3) := by decide +kernel
theorem dX12_holdingEnd_21 : decode cX12_holdingEnd 21 = .ok (.ifCond .le 7, 3) := by decide +kernel
theorem dX12_holdingEnd_24 : decode cX12_holdingEnd 24 = .ok (.iconst 0, 1) := by decide +kernel
theorem dX12_holdingEnd_25 : decode cX12_holdingEnd 25 = .ok (.goto 8, 3) := by decide +kernel
theorem dX12_holdingEnd_28 : decode cX12_holdingEnd 28 = .ok (.aload_n 0, 1) := by decide +kernel
theorem dX12_holdingEnd_29 : decode cX12_holdingEnd 29 = .ok (.iload_n 1, 1) := by decide +kernel
theorem dX12_holdingEnd_30 : decode cX12_holdingEnd 30 = .ok (.invokevirtual 397, 3) := by decide +kernel
theorem dX12_holdingEnd_33 : decode cX12_holdingEnd 33 = .ok (.ireturn, 1) := by decide +kernel
abbrev M_X12_holdingEnd : aM := (yX12_holdingEnd.cls, cX12_holdingEnd, 2, (some .int), [], yX12_holdingEnd.name == "<init>")
abbrev J_X12_holdingEnd (l : Launch) (E : aE) (n0 m0 : Nat) := GG (fun (v : Int32) => .inl (some (.int v))) l E M_X12_holdingEnd 2 46 n0 m0
theorem b_X12_holdingEnd {l : Launch} {E : aE} (hl : l.stackTraces = false) (n0 m0 : Nat) (x1 : Nat) (x2 : Int32) (h0 : aH) : J_X12_holdingEnd l E n0 m0 0 [(0, .ref (e_z E + x1)), (1, .int x2)] [] h0 (m_X12_holdingEnd x1 x2 h0) := by
  unfold m_X12_holdingEnd
  refine g_aload_n (pc := 0) dX12_holdingEnd_0 0 rfl ?_
  refine g_aload_n (pc := 1) dX12_holdingEnd_1 0 rfl ?_
  refine g_iload_n (pc := 2) dX12_holdingEnd_2 1 rfl ?_
  refine g_gS (fun hs => ?_)
  refine g_bRi (pc := 3) (c_V cl12 hs (p_X12_isPager hl x1 x2 h0) y_X12_isPager tw1996 dX12_holdingEnd_3 rfl (st := [.ref (e_z E + x1)]) rfl (Nat.le_of_ble_eq_true rfl) (Nat.le_of_ble_eq_true rfl) (Nat.le_of_ble_eq_true rfl)) (fun x3 h1 => ?_)
  refine g_join (fun k => ∀ (x4 : Int32) (h2 : aH), J_X12_holdingEnd l E n0 m0 14 [(0, .ref (e_z E + x1)), (1, .int x2)] [.int x4, .ref (e_z E + x1)] h2 (k x4 h2)) (fun x4 h2 => ?_) (fun k14 hk14 => ?_)
  · refine g_puti (pc := 14) cl12 (Nat.le_of_ble_eq_true rfl) (Or.inl ⟨rfl, fk1551⟩) (fun _ _ _ => rfl) (fun _ => ⟨rfl, rfl⟩) dX12_holdingEnd_14 (fun h3 => ?_)
    refine g_aload_n (pc := 17) dX12_holdingEnd_17 0 rfl ?_
    refine g_geti (pc := 18) cl12 (Nat.le_of_ble_eq_true rfl) fk1551 (fun _ _ _ => rfl) dX12_holdingEnd_18 (fun x5 => ?_)
    refine g_join (fun k => ∀ (x6 : Int32) (h4 : aH), J_X12_holdingEnd l E n0 m0 33 [] [.int x6] h4 (k x6 h4)) (fun x6 h4 => ?_) (fun k33 hk33 => ?_)
    · exact g_ret (pc := 33) rfl (isRet_i _) dX12_holdingEnd_33 rfl
    refine g_ifle (pc := 21) (tgt := 28) dX12_holdingEnd_21 rfl ?_ ?_
    · refine g_aload_n (pc := 28) dX12_holdingEnd_28 0 rfl ?_
      refine g_iload_n (pc := 29) dX12_holdingEnd_29 1 rfl ?_
      refine g_gS (fun hs => ?_)
      refine g_bRi (pc := 30) (c_V cl12 hs (p_X12_endOf hl x1 x2 h3) y_X12_endOf tw2024 dX12_holdingEnd_30 rfl (st := []) rfl (Nat.le_of_ble_eq_true rfl) (Nat.le_of_ble_eq_true rfl) (Nat.le_of_ble_eq_true rfl)) (fun x7 h5 => ?_)
      refine g_lv [] rfl ?_
      exact hk33 x7 h5
    · refine g_iconst (pc := 24) dX12_holdingEnd_24 ci_0 ?_
      refine g_goto (pc := 25) (tgt := 33) dX12_holdingEnd_25 rfl ?_
      refine g_lv [] rfl ?_
      exact hk33 (0 : Int32) h3
  refine g_ifeq (pc := 6) (tgt := 13) dX12_holdingEnd_6 rfl ?_ ?_
  · refine g_iconst (pc := 13) dX12_holdingEnd_13 ci_1 ?_
    exact hk14 (1 : Int32) h1
  · refine g_iconst (pc := 9) dX12_holdingEnd_9 ci_0 ?_
    refine g_goto (pc := 10) (tgt := 14) dX12_holdingEnd_10 rfl ?_
    exact hk14 (0 : Int32) h1
theorem p_X12_holdingEnd {l : Launch} {E : aE} (hl : l.stackTraces = false) (x1 : Nat) (x2 : Int32) (h0 : aH) : MO (fun (v : Int32) => .inl (some (.int v))) l E yX12_holdingEnd (.code yX12_holdingEnd cX12_holdingEnd 2 (some .int)) 2 46 [.ref (e_z E + x1), .int x2] h0 (m_X12_holdingEnd x1 x2 h0) := g_met hl (by decide +kernel) (Nat.le_of_ble_eq_true rfl) (b_X12_holdingEnd hl _ _ x1 x2 h0)
theorem dX12_rotation_0 : decode cX12_rotation 0 = .ok (.aload_n 0, 1) := by decide +kernel
theorem dX12_rotation_1 : decode cX12_rotation 1 = .ok (.aload_n 0, 1) := by decide +kernel
theorem dX12_rotation_2 : decode cX12_rotation 2 = .ok (.iload_n 1, 1) := by decide +kernel
theorem dX12_rotation_3 : decode cX12_rotation 3 = .ok (.invokevirtual 400, 3) := by decide +kernel
theorem dX12_rotation_6 : decode cX12_rotation 6 = .ok (.ifCond .eq 25, 3) := by decide +kernel
theorem dX12_rotation_9 : decode cX12_rotation 9 = .ok (.iload_n 2, 1) := by decide +kernel
theorem dX12_rotation_10 : decode cX12_rotation 10 = .ok (.i2l, 1) := by decide +kernel
theorem dX12_rotation_11 : decode cX12_rotation 11 = .ok (.lconst 0, 1) := by decide +kernel
theorem dX12_rotation_12 : decode cX12_rotation 12 = .ok (.aload_n 0, 1) := by decide +kernel
theorem dX12_rotation_13 : decode cX12_rotation 13 = .ok (.getfield 45, 3) := by decide +kernel
theorem dX12_rotation_16 : decode cX12_rotation 16 = .ok (.iload_n 1, 1) := by decide +kernel
theorem dX12_rotation_17 : decode cX12_rotation 17 = .ok (.iaload, 1) := by decide +kernel
theorem dX12_rotation_18 : decode cX12_rotation 18 = .ok (.iconst 1, 1) := by decide +kernel
theorem dX12_rotation_19 : decode cX12_rotation 19 = .ok (.isub, 1) := by decide +kernel
theorem dX12_rotation_20 : decode cX12_rotation 20 = .ok (.i2l, 1) := by decide +kernel
theorem dX12_rotation_21 : decode cX12_rotation 21 = .ok (.invokestatic 176, 3) := by decide +kernel
theorem dX12_rotation_24 : decode cX12_rotation 24 = .ok (.ifCond .eq 7, 3) := by decide +kernel
theorem dX12_rotation_27 : decode cX12_rotation 27 = .ok (.iconst 0, 1) := by decide +kernel
theorem dX12_rotation_28 : decode cX12_rotation 28 = .ok (.goto 4, 3) := by decide +kernel
theorem dX12_rotation_31 : decode cX12_rotation 31 = .ok (.iconst 1, 1) := by decide +kernel
theorem dX12_rotation_32 : decode cX12_rotation 32 = .ok (.putfield 166, 3) := by decide +kernel
theorem dX12_rotation_35 : decode cX12_rotation 35 = .ok (.aload_n 0, 1) := by decide +kernel
theorem dX12_rotation_36 : decode cX12_rotation 36 = .ok (.getfield 166, 3) := by decide +kernel
theorem dX12_rotation_39 : decode cX12_rotation 39 = .ok (.ifCond .le 7, 3) := by decide +kernel
theorem dX12_rotation_42 : decode cX12_rotation 42 = .ok (.iconst 0, 1) := by decide +kernel
theorem dX12_rotation_43 : decode cX12_rotation 43 = .ok (.goto 18, 3) := by decide +kernel
theorem dX12_rotation_46 : decode cX12_rotation 46 = .ok (.aload_n 0, 1) := by decide +kernel
theorem dX12_rotation_47 : decode cX12_rotation 47 = .ok (.getfield 7, 3) := by decide +kernel
theorem dX12_rotation_50 : decode cX12_rotation 50 = .ok (.sipush 194, 3) := by decide +kernel
theorem dX12_rotation_53 : decode cX12_rotation 53 = .ok (.bipush 15, 2) := by decide +kernel
theorem dX12_rotation_55 : decode cX12_rotation 55 = .ok (.iload_n 1, 1) := by decide +kernel
theorem dX12_rotation_56 : decode cX12_rotation 56 = .ok (.imul, 1) := by decide +kernel
theorem dX12_rotation_57 : decode cX12_rotation 57 = .ok (.iadd, 1) := by decide +kernel
theorem dX12_rotation_58 : decode cX12_rotation 58 = .ok (.iload_n 2, 1) := by decide +kernel
theorem dX12_rotation_59 : decode cX12_rotation 59 = .ok (.iadd, 1) := by decide +kernel
theorem dX12_rotation_60 : decode cX12_rotation 60 = .ok (.iaload, 1) := by decide +kernel
theorem dX12_rotation_61 : decode cX12_rotation 61 = .ok (.ireturn, 1) := by decide +kernel
abbrev M_X12_rotation : aM := (yX12_rotation.cls, cX12_rotation, 3, (some .int), [], yX12_rotation.name == "<init>")
abbrev J_X12_rotation (l : Launch) (E : aE) (n0 m0 : Nat) := GG (fun (v : Int32) => .inl (some (.int v))) l E M_X12_rotation 2 46 n0 m0
theorem b_X12_rotation {l : Launch} {E : aE} (hl : l.stackTraces = false) (n0 m0 : Nat) (x1 : Nat) (x2 : Int32) (x3 : Int32) (h0 : aH) : J_X12_rotation l E n0 m0 0 [(0, .ref (e_z E + x1)), (1, .int x2), (2, .int x3)] [] h0 (m_X12_rotation x1 x2 x3 h0) := by
  unfold m_X12_rotation
  refine g_aload_n (pc := 0) dX12_rotation_0 0 rfl ?_
  refine g_aload_n (pc := 1) dX12_rotation_1 0 rfl ?_
  refine g_iload_n (pc := 2) dX12_rotation_2 1 rfl ?_
  refine g_gS (fun hs => ?_)
  refine g_bRi (pc := 3) (c_V cl12 hs (p_X12_isPager hl x1 x2 h0) y_X12_isPager tw1996 dX12_rotation_3 rfl (st := [.ref (e_z E + x1)]) rfl (Nat.le_of_ble_eq_true rfl) (Nat.le_of_ble_eq_true rfl) (Nat.le_of_ble_eq_true rfl)) (fun x4 h1 => ?_)
  refine g_join (fun k => ∀ (x5 : Int32) (h2 : aH), J_X12_rotation l E n0 m0 32 [(0, .ref (e_z E + x1)), (1, .int x2), (2, .int x3)] [.int x5, .ref (e_z E + x1)] h2 (k x5 h2)) (fun x5 h2 => ?_) (fun k32 hk32 => ?_)
  · refine g_puti (pc := 32) cl12 (Nat.le_of_ble_eq_true rfl) (Or.inl ⟨rfl, fk1551⟩) (fun _ _ _ => rfl) (fun _ => ⟨rfl, rfl⟩) dX12_rotation_32 (fun h3 => ?_)
    refine g_aload_n (pc := 35) dX12_rotation_35 0 rfl ?_
    refine g_geti (pc := 36) cl12 (Nat.le_of_ble_eq_true rfl) fk1551 (fun _ _ _ => rfl) dX12_rotation_36 (fun x6 => ?_)
    refine g_join (fun k => ∀ (x7 : Int32) (h4 : aH), J_X12_rotation l E n0 m0 61 [] [.int x7] h4 (k x7 h4)) (fun x7 h4 => ?_) (fun k61 hk61 => ?_)
    · exact g_ret (pc := 61) rfl (isRet_i _) dX12_rotation_61 rfl
    refine g_ifle (pc := 39) (tgt := 46) dX12_rotation_39 rfl ?_ ?_
    · refine g_aload_n (pc := 46) dX12_rotation_46 0 rfl ?_
      refine g_getr (pc := 47) cl12 (Nat.le_of_ble_eq_true rfl) fk1552 (fun _ _ _ => rfl) dX12_rotation_47 (fun x8 => ?_)
      refine g_sipush (pc := 50) dX12_rotation_50 cs_194 ?_
      refine g_bipush (pc := 53) dX12_rotation_53 cb_15 ?_
      refine g_iload_n (pc := 55) dX12_rotation_55 1 rfl ?_
      refine g_imul (pc := 56) dX12_rotation_56 ?_
      refine g_iadd (pc := 57) dX12_rotation_57 ?_
      refine g_iload_n (pc := 58) dX12_rotation_58 2 rfl ?_
      refine g_iadd (pc := 59) dX12_rotation_59 ?_
      refine g_iald (pc := 60) dX12_rotation_60 (fun x9 => ?_)
      refine g_lv [] rfl ?_
      exact hk61 x9 h3
    · refine g_iconst (pc := 42) dX12_rotation_42 ci_0 ?_
      refine g_goto (pc := 43) (tgt := 61) dX12_rotation_43 rfl ?_
      refine g_lv [] rfl ?_
      exact hk61 (0 : Int32) h3
  refine g_join (fun k => ∀ (h5 : aH), J_X12_rotation l E n0 m0 31 [(0, .ref (e_z E + x1)), (1, .int x2), (2, .int x3)] [.ref (e_z E + x1)] h5 (k h5)) (fun h5 => ?_) (fun k31 hk31 => ?_)
  · refine g_iconst (pc := 31) dX12_rotation_31 ci_1 ?_
    exact hk32 (1 : Int32) h5
  refine g_ifeq (pc := 6) (tgt := 31) dX12_rotation_6 rfl ?_ ?_
  · exact hk31 h1
  · refine g_iload_n (pc := 9) dX12_rotation_9 2 rfl ?_
    refine g_i2l (pc := 10) dX12_rotation_10 ?_
    refine g_lconst (pc := 11) dX12_rotation_11 cl_0 ?_
    refine g_aload_n (pc := 12) dX12_rotation_12 0 rfl ?_
    refine g_getr (pc := 13) cl12 (Nat.le_of_ble_eq_true rfl) fk1568 (fun _ _ _ => rfl) dX12_rotation_13 (fun x10 => ?_)
    refine g_iload_n (pc := 16) dX12_rotation_16 1 rfl ?_
    refine g_iald (pc := 17) dX12_rotation_17 (fun x11 => ?_)
    refine g_iconst (pc := 18) dX12_rotation_18 ci_1 ?_
    refine g_isub (pc := 19) dX12_rotation_19 ?_
    refine g_i2l (pc := 20) dX12_rotation_20 ?_
    refine g_bRi (pc := 21) (c_S (p_X12_in hl (x3.toInt64) (0 : Int64) ((x11 - (1 : Int32)).toInt64) h1) y_X12_in tw1782 dX12_rotation_21 rfl (st := [.ref (e_z E + x1)]) rfl (Nat.le_of_ble_eq_true rfl) (Nat.le_of_ble_eq_true rfl) (Nat.le_of_ble_eq_true rfl)) (fun x12 h6 => ?_)
    refine g_ifeq (pc := 24) (tgt := 31) dX12_rotation_24 rfl ?_ ?_
    · exact hk31 h6
    · refine g_iconst (pc := 27) dX12_rotation_27 ci_0 ?_
      refine g_goto (pc := 28) (tgt := 32) dX12_rotation_28 rfl ?_
      exact hk32 (0 : Int32) h6
theorem p_X12_rotation {l : Launch} {E : aE} (hl : l.stackTraces = false) (x1 : Nat) (x2 : Int32) (x3 : Int32) (h0 : aH) : MO (fun (v : Int32) => .inl (some (.int v))) l E yX12_rotation (.code yX12_rotation cX12_rotation 3 (some .int)) 2 46 [.ref (e_z E + x1), .int x2, .int x3] h0 (m_X12_rotation x1 x2 x3 h0) := g_met hl (by decide +kernel) (Nat.le_of_ble_eq_true rfl) (b_X12_rotation hl _ _ x1 x2 x3 h0)
theorem dX12_holderThen_0 : decode cX12_holderThen 0 = .ok (.aload_n 0, 1) := by decide +kernel
theorem dX12_holderThen_1 : decode cX12_holderThen 1 = .ok (.iload_n 1, 1) := by decide +kernel
theorem dX12_holderThen_2 : decode cX12_holderThen 2 = .ok (.iload_n 2, 1) := by decide +kernel
theorem dX12_holderThen_3 : decode cX12_holderThen 3 = .ok (.invokevirtual 382, 3) := by decide +kernel
theorem dX12_holderThen_6 : decode cX12_holderThen 6 = .ok (.aload_n 0, 1) := by decide +kernel
theorem dX12_holderThen_7 : decode cX12_holderThen 7 = .ok (.iload_n 1, 1) := by decide +kernel
theorem dX12_holderThen_8 : decode cX12_holderThen 8 = .ok (.aload_n 0, 1) := by decide +kernel
theorem dX12_holderThen_9 : decode cX12_holderThen 9 = .ok (.getfield 7, 3) := by decide +kernel
theorem dX12_holderThen_12 : decode cX12_holderThen 12 = .ok (.iconst 0, 1) := by decide +kernel
theorem dX12_holderThen_13 : decode cX12_holderThen 13 = .ok (.iaload, 1) := by decide +kernel
theorem dX12_holderThen_14 : decode cX12_holderThen 14 = .ok (.invokevirtual 382, 3) := by decide +kernel
theorem dX12_holderThen_17 : decode cX12_holderThen 17 = .ok (.if_icmp .eq 10, 3) := by decide +kernel
theorem dX12_holderThen_20 : decode cX12_holderThen 20 = .ok (.aload_n 0, 1) := by decide +kernel
theorem dX12_holderThen_21 : decode cX12_holderThen 21 = .ok (.iload_n 1, 1) := by decide +kernel
theorem dX12_holderThen_22 : decode cX12_holderThen 22 = .ok (.iload_n 2, 1) := by decide +kernel
theorem dX12_holderThen_23 : decode cX12_holderThen 23 = .ok (.invokevirtual 385, 3) := by decide +kernel
theorem dX12_holderThen_26 : decode cX12_holderThen 26 = .ok (.ireturn, 1) := by decide +kernel
theorem dX12_holderThen_27 : decode cX12_holderThen 27 = .ok (.aload_n 0, 1) := by decide +kernel
theorem dX12_holderThen_28 : decode cX12_holderThen 28 = .ok (.iload_n 1, 1) := by decide +kernel
theorem dX12_holderThen_29 : decode cX12_holderThen 29 = .ok (.invokevirtual 388, 3) := by decide +kernel
theorem dX12_holderThen_32 : decode cX12_holderThen 32 = .ok (.istore_n 3, 1) := by decide +kernel
theorem dX12_holderThen_33 : decode cX12_holderThen 33 = .ok (.iload_n 3, 1) := by decide +kernel
theorem dX12_holderThen_34 : decode cX12_holderThen 34 = .ok (.ifCond .le 33, 3) := by decide +kernel
theorem dX12_holderThen_37 : decode cX12_holderThen 37 = .ok (.aload_n 0, 1) := by decide +kernel
theorem dX12_holderThen_38 : decode cX12_holderThen 38 = .ok (.getfield 7, 3) := by decide +kernel
theorem dX12_holderThen_41 : decode cX12_holderThen 41 = .ok (.sipush 194, 3) := by decide +kernel
theorem dX12_holderThen_44 : decode cX12_holderThen 44 = .ok (.bipush 15, 2) := by decide +kernel
theorem dX12_holderThen_46 : decode cX12_holderThen 46 = .ok (.iload_n 1, 1) := by decide +kernel
theorem dX12_holderThen_47 : decode cX12_holderThen 47 = .ok (.imul, 1) := by decide +kernel
theorem dX12_holderThen_48 : decode cX12_holderThen 48 = .ok (.iadd, 1) := by decide +kernel
theorem dX12_holderThen_49 : decode cX12_holderThen 49 = .ok (.bipush 12, 2) := by decide +kernel
theorem dX12_holderThen_51 : decode cX12_holderThen 51 = .ok (.iadd, 1) := by decide +kernel
theorem dX12_holderThen_52 : decode cX12_holderThen 52 = .ok (.iload_n 3, 1) := by decide +kernel
theorem dX12_holderThen_53 : decode cX12_holderThen 53 = .ok (.iadd, 1) := by decide +kernel
theorem dX12_holderThen_54 : decode cX12_holderThen 54 = .ok (.iconst 1, 1) := by decide +kernel
theorem dX12_holderThen_55 : decode cX12_holderThen 55 = .ok (.isub, 1) := by decide +kernel
theorem dX12_holderThen_56 : decode cX12_holderThen 56 = .ok (.iaload, 1) := by decide +kernel
theorem dX12_holderThen_57 : decode cX12_holderThen 57 = .ok (.iload_n 2, 1) := by decide +kernel
theorem dX12_holderThen_58 : decode cX12_holderThen 58 = .ok (.if_icmp .gt 9, 3) := by decide +kernel
theorem dX12_holderThen_61 : decode cX12_holderThen 61 = .ok (.iinc 3 (-1), 3) := by decide +kernel
theorem dX12_holderThen_64 : decode cX12_holderThen 64 = .ok (.goto (-31), 3) := by decide +kernel
theorem dX12_holderThen_67 : decode cX12_holderThen 67 = .ok (.aload_n 0, 1) := by decide +kernel
theorem dX12_holderThen_68 : decode cX12_holderThen 68 = .ok (.iload_n 1, 1) := by decide +kernel
theorem dX12_holderThen_69 : decode cX12_holderThen 69 = .ok (.iload_n 3, 1) := by decide +kernel
theorem dX12_holderThen_70 : decode cX12_holderThen 70 = .ok (.invokevirtual 391, 3) := by decide +kernel
theorem dX12_holderThen_73 : decode cX12_holderThen 73 = .ok (.ireturn, 1) := by decide +kernel
abbrev M_X12_holderThen : aM := (yX12_holderThen.cls, cX12_holderThen, 4, (some .int), [], yX12_holderThen.name == "<init>")
abbrev J_X12_holderThen (l : Launch) (E : aE) (n0 m0 : Nat) := GG (fun (v : Int32) => .inl (some (.int v))) l E M_X12_holderThen 3 66 n0 m0
theorem b_X12_holderThen {l : Launch} {E : aE} (hl : l.stackTraces = false) (n0 m0 : Nat) (x1 : Nat) (x2 : Int32) (x3 : Int32) (h0 : aH) : J_X12_holderThen l E n0 m0 0 [(0, .ref (e_z E + x1)), (1, .int x2), (2, .int x3)] [] h0 (m_X12_holderThen x1 x2 x3 h0) := by
  unfold m_X12_holderThen
  refine g_aload_n (pc := 0) dX12_holderThen_0 0 rfl ?_
  refine g_iload_n (pc := 1) dX12_holderThen_1 1 rfl ?_
  refine g_iload_n (pc := 2) dX12_holderThen_2 2 rfl ?_
  refine g_gS (fun hs => ?_)
  refine g_bRi (pc := 3) (c_V cl12 hs (p_X12_turnAt hl x1 x2 x3 h0) y_X12_turnAt tw2012 dX12_holderThen_3 rfl (st := []) rfl (Nat.le_of_ble_eq_true rfl) (Nat.le_of_ble_eq_true rfl) (Nat.le_of_ble_eq_true rfl)) (fun x4 h1 => ?_)
  refine g_aload_n (pc := 6) dX12_holderThen_6 0 rfl ?_
  refine g_iload_n (pc := 7) dX12_holderThen_7 1 rfl ?_
  refine g_aload_n (pc := 8) dX12_holderThen_8 0 rfl ?_
  refine g_getr (pc := 9) cl12 (Nat.le_of_ble_eq_true rfl) fk1552 (fun _ _ _ => rfl) dX12_holderThen_9 (fun x5 => ?_)
  refine g_iconst (pc := 12) dX12_holderThen_12 ci_0 ?_
  refine g_iald (pc := 13) dX12_holderThen_13 (fun x6 => ?_)
  refine g_gS (fun hs => ?_)
  refine g_bRi (pc := 14) (c_V cl12 hs (p_X12_turnAt hl x1 x2 x6 h1) y_X12_turnAt tw2012 dX12_holderThen_14 rfl (st := [.int x4]) rfl (Nat.le_of_ble_eq_true rfl) (Nat.le_of_ble_eq_true rfl) (Nat.le_of_ble_eq_true rfl)) (fun x7 h2 => ?_)
  refine g_icmpeq (pc := 17) (tgt := 27) dX12_holderThen_17 rfl ?_ ?_
  · refine g_aload_n (pc := 27) dX12_holderThen_27 0 rfl ?_
    refine g_iload_n (pc := 28) dX12_holderThen_28 1 rfl ?_
    refine g_gS (fun hs => ?_)
    refine g_bRi (pc := 29) (c_V cl12 hs (p_X12_hands hl x1 x2 h2) y_X12_hands tw2000 dX12_holderThen_29 rfl (st := []) rfl (Nat.le_of_ble_eq_true rfl) (Nat.le_of_ble_eq_true rfl) (Nat.le_of_ble_eq_true rfl)) (fun x8 h3 => ?_)
    refine g_istore_n (pc := 32) (lv' := [(3, .int x8), (0, .ref (e_z E + x1)), (1, .int x2), (2, .int x3)]) dX12_holderThen_32 (Nat.le_of_ble_eq_true rfl) rfl ?_
    refine g_join (fun k => ∀ (x9 : Int32) (h4 : aH), J_X12_holderThen l E n0 m0 67 [(0, .ref (e_z E + x1)), (1, .int x2), (3, .int x9)] [] h4 (k x9 h4)) (fun x9 h4 => ?_) (fun k67 hk67 => ?_)
    · refine g_aload_n (pc := 67) dX12_holderThen_67 0 rfl ?_
      refine g_iload_n (pc := 68) dX12_holderThen_68 1 rfl ?_
      refine g_iload_n (pc := 69) dX12_holderThen_69 2 rfl ?_
      refine g_gS (fun hs => ?_)
      refine g_bRi (pc := 70) (c_V cl12 hs (p_X12_link hl x1 x2 x9 h4) y_X12_link tw2004 dX12_holderThen_70 rfl (st := []) rfl (Nat.le_of_ble_eq_true rfl) (Nat.le_of_ble_eq_true rfl) (Nat.le_of_ble_eq_true rfl)) (fun x10 h5 => ?_)
      exact g_ret (pc := 73) rfl (isRet_i _) dX12_holderThen_73 rfl
    refine g_lv [1, 2, 3, 0] rfl ?_
    refine g_loop1 (F := (m_X12_holderThen_L33 x1 x2 x3 k67)) (fun x11 => [(0, .ref (e_z E + x1)), (1, .int x2), (2, .int x3), (3, .int x11)]) (fun r33 hr33 x11 h6 => ?_) _ _ _
    unfold m_X12_holderThen_L33
    refine g_iload_n (pc := 33) dX12_holderThen_33 3 rfl ?_
    refine g_ifle (pc := 34) (tgt := 67) dX12_holderThen_34 rfl ?_ ?_
    · refine g_lv [0, 1, 3] rfl ?_
      exact hk67 x11 h6
    · refine g_aload_n (pc := 37) dX12_holderThen_37 0 rfl ?_
      refine g_getr (pc := 38) cl12 (Nat.le_of_ble_eq_true rfl) fk1552 (fun _ _ _ => rfl) dX12_holderThen_38 (fun x12 => ?_)
      refine g_sipush (pc := 41) dX12_holderThen_41 cs_194 ?_
      refine g_bipush (pc := 44) dX12_holderThen_44 cb_15 ?_
      refine g_iload_n (pc := 46) dX12_holderThen_46 1 rfl ?_
      refine g_imul (pc := 47) dX12_holderThen_47 ?_
      refine g_iadd (pc := 48) dX12_holderThen_48 ?_
      refine g_bipush (pc := 49) dX12_holderThen_49 cb_12 ?_
      refine g_iadd (pc := 51) dX12_holderThen_51 ?_
      refine g_iload_n (pc := 52) dX12_holderThen_52 3 rfl ?_
      refine g_iadd (pc := 53) dX12_holderThen_53 ?_
      refine g_iconst (pc := 54) dX12_holderThen_54 ci_1 ?_
      refine g_isub (pc := 55) dX12_holderThen_55 ?_
      refine g_iald (pc := 56) dX12_holderThen_56 (fun x13 => ?_)
      refine g_iload_n (pc := 57) dX12_holderThen_57 2 rfl ?_
      refine g_icmpgt (pc := 58) (tgt := 67) dX12_holderThen_58 rfl ?_ ?_
      · refine g_iincN (pc := 61) dX12_holderThen_61 3 rfl ci_m1 (Nat.le_of_ble_eq_true rfl) (fun x14 => ?_)
        refine g_lvr (lv' := [(3, .int x14), (0, .ref (e_z E + x1)), (1, .int x2), (2, .int x3)]) rfl ?_
        refine g_goto (pc := 64) (tgt := 33) dX12_holderThen_64 rfl ?_
        refine g_lv [1, 2, 3, 0] rfl ?_
        exact hr33 x14 h6
      · refine g_lv [0, 1, 3] rfl ?_
        exact hk67 x11 h6
  · refine g_aload_n (pc := 20) dX12_holderThen_20 0 rfl ?_
    refine g_iload_n (pc := 21) dX12_holderThen_21 1 rfl ?_
    refine g_iload_n (pc := 22) dX12_holderThen_22 2 rfl ?_
    refine g_gS (fun hs => ?_)
    refine g_bRi (pc := 23) (c_V cl12 hs (p_X12_ownerAt hl x1 x2 x3 h2) y_X12_ownerAt tw2008 dX12_holderThen_23 rfl (st := []) rfl (Nat.le_of_ble_eq_true rfl) (Nat.le_of_ble_eq_true rfl) (Nat.le_of_ble_eq_true rfl)) (fun x15 h7 => ?_)
    exact g_ret (pc := 26) rfl (isRet_i _) dX12_holderThen_26 rfl
theorem p_X12_holderThen {l : Launch} {E : aE} (hl : l.stackTraces = false) (x1 : Nat) (x2 : Int32) (x3 : Int32) (h0 : aH) : MO (fun (v : Int32) => .inl (some (.int v))) l E yX12_holderThen (.code yX12_holderThen cX12_holderThen 4 (some .int)) 3 66 [.ref (e_z E + x1), .int x2, .int x3] h0 (m_X12_holderThen x1 x2 x3 h0) := g_met hl (by decide +kernel) (Nat.le_of_ble_eq_true rfl) (b_X12_holderThen hl _ _ x1 x2 x3 h0)
theorem dX12_holderAt_0 : decode cX12_holderAt 0 = .ok (.aload_n 0, 1) := by decide +kernel
theorem dX12_holderAt_1 : decode cX12_holderAt 1 = .ok (.aload_n 0, 1) := by decide +kernel
theorem dX12_holderAt_2 : decode cX12_holderAt 2 = .ok (.iload_n 1, 1) := by decide +kernel
theorem dX12_holderAt_3 : decode cX12_holderAt 3 = .ok (.invokevirtual 400, 3) := by decide +kernel
theorem dX12_holderAt_6 : decode cX12_holderAt 6 = .ok (.ifCond .ne 7, 3) := by decide +kernel
theorem dX12_holderAt_9 : decode cX12_holderAt 9 = .ok (.iconst 1, 1) := by decide +kernel
theorem dX12_holderAt_10 : decode cX12_holderAt 10 = .ok (.goto 26, 3) := by decide +kernel
theorem dX12_holderAt_13 : decode cX12_holderAt 13 = .ok (.iload_n 2, 1) := by decide +kernel
theorem dX12_holderAt_14 : decode cX12_holderAt 14 = .ok (.i2l, 1) := by decide +kernel
theorem dX12_holderAt_15 : decode cX12_holderAt 15 = .ok (.aload_n 0, 1) := by decide +kernel
theorem dX12_holderAt_16 : decode cX12_holderAt 16 = .ok (.getfield 7, 3) := by decide +kernel
theorem dX12_holderAt_19 : decode cX12_holderAt 19 = .ok (.iconst 0, 1) := by decide +kernel
theorem dX12_holderAt_20 : decode cX12_holderAt 20 = .ok (.iaload, 1) := by decide +kernel
theorem dX12_holderAt_21 : decode cX12_holderAt 21 = .ok (.i2l, 1) := by decide +kernel
theorem dX12_holderAt_22 : decode cX12_holderAt 22 = .ok (.ldc2_w 403, 3) := by decide +kernel
theorem dX12_holderAt_25 : decode cX12_holderAt 25 = .ok (.invokestatic 176, 3) := by decide +kernel
theorem dX12_holderAt_28 : decode cX12_holderAt 28 = .ok (.ifCond .eq 7, 3) := by decide +kernel
theorem dX12_holderAt_31 : decode cX12_holderAt 31 = .ok (.iconst 0, 1) := by decide +kernel
theorem dX12_holderAt_32 : decode cX12_holderAt 32 = .ok (.goto 4, 3) := by decide +kernel
theorem dX12_holderAt_35 : decode cX12_holderAt 35 = .ok (.iconst 2, 1) := by decide +kernel
theorem dX12_holderAt_36 : decode cX12_holderAt 36 = .ok (.putfield 166, 3) := by decide +kernel
theorem dX12_holderAt_39 : decode cX12_holderAt 39 = .ok (.aload_n 0, 1) := by decide +kernel
theorem dX12_holderAt_40 : decode cX12_holderAt 40 = .ok (.getfield 166, 3) := by decide +kernel
theorem dX12_holderAt_43 : decode cX12_holderAt 43 = .ok (.ifCond .le 7, 3) := by decide +kernel
theorem dX12_holderAt_46 : decode cX12_holderAt 46 = .ok (.iconst 0, 1) := by decide +kernel
theorem dX12_holderAt_47 : decode cX12_holderAt 47 = .ok (.goto 9, 3) := by decide +kernel
theorem dX12_holderAt_50 : decode cX12_holderAt 50 = .ok (.aload_n 0, 1) := by decide +kernel
theorem dX12_holderAt_51 : decode cX12_holderAt 51 = .ok (.iload_n 1, 1) := by decide +kernel
theorem dX12_holderAt_52 : decode cX12_holderAt 52 = .ok (.iload_n 2, 1) := by decide +kernel
theorem dX12_holderAt_53 : decode cX12_holderAt 53 = .ok (.invokevirtual 405, 3) := by decide +kernel
theorem dX12_holderAt_56 : decode cX12_holderAt 56 = .ok (.ireturn, 1) := by decide +kernel
abbrev M_X12_holderAt : aM := (yX12_holderAt.cls, cX12_holderAt, 3, (some .int), [], yX12_holderAt.name == "<init>")
abbrev J_X12_holderAt (l : Launch) (E : aE) (n0 m0 : Nat) := GG (fun (v : Int32) => .inl (some (.int v))) l E M_X12_holderAt 4 89 n0 m0
theorem b_X12_holderAt {l : Launch} {E : aE} (hl : l.stackTraces = false) (n0 m0 : Nat) (x1 : Nat) (x2 : Int32) (x3 : Int32) (h0 : aH) : J_X12_holderAt l E n0 m0 0 [(0, .ref (e_z E + x1)), (1, .int x2), (2, .int x3)] [] h0 (m_X12_holderAt x1 x2 x3 h0) := by
  unfold m_X12_holderAt
  refine g_aload_n (pc := 0) dX12_holderAt_0 0 rfl ?_
  refine g_aload_n (pc := 1) dX12_holderAt_1 0 rfl ?_
  refine g_iload_n (pc := 2) dX12_holderAt_2 1 rfl ?_
  refine g_gS (fun hs => ?_)
  refine g_bRi (pc := 3) (c_V cl12 hs (p_X12_isPager hl x1 x2 h0) y_X12_isPager tw1996 dX12_holderAt_3 rfl (st := [.ref (e_z E + x1)]) rfl (Nat.le_of_ble_eq_true rfl) (Nat.le_of_ble_eq_true rfl) (Nat.le_of_ble_eq_true rfl)) (fun x4 h1 => ?_)
  refine g_join (fun k => ∀ (x5 : Int32) (h2 : aH), J_X12_holderAt l E n0 m0 36 [(0, .ref (e_z E + x1)), (1, .int x2), (2, .int x3)] [.int x5, .ref (e_z E + x1)] h2 (k x5 h2)) (fun x5 h2 => ?_) (fun k36 hk36 => ?_)
  · refine g_puti (pc := 36) cl12 (Nat.le_of_ble_eq_true rfl) (Or.inl ⟨rfl, fk1551⟩) (fun _ _ _ => rfl) (fun _ => ⟨rfl, rfl⟩) dX12_holderAt_36 (fun h3 => ?_)
    refine g_aload_n (pc := 39) dX12_holderAt_39 0 rfl ?_
    refine g_geti (pc := 40) cl12 (Nat.le_of_ble_eq_true rfl) fk1551 (fun _ _ _ => rfl) dX12_holderAt_40 (fun x6 => ?_)
    refine g_join (fun k => ∀ (x7 : Int32) (h4 : aH), J_X12_holderAt l E n0 m0 56 [] [.int x7] h4 (k x7 h4)) (fun x7 h4 => ?_) (fun k56 hk56 => ?_)
    · exact g_ret (pc := 56) rfl (isRet_i _) dX12_holderAt_56 rfl
    refine g_ifle (pc := 43) (tgt := 50) dX12_holderAt_43 rfl ?_ ?_
    · refine g_aload_n (pc := 50) dX12_holderAt_50 0 rfl ?_
      refine g_iload_n (pc := 51) dX12_holderAt_51 1 rfl ?_
      refine g_iload_n (pc := 52) dX12_holderAt_52 2 rfl ?_
      refine g_gS (fun hs => ?_)
      refine g_bRi (pc := 53) (c_V cl12 hs (p_X12_holderThen hl x1 x2 x3 h3) y_X12_holderThen tw2037 dX12_holderAt_53 rfl (st := []) rfl (Nat.le_of_ble_eq_true rfl) (Nat.le_of_ble_eq_true rfl) (Nat.le_of_ble_eq_true rfl)) (fun x8 h5 => ?_)
      refine g_lv [] rfl ?_
      exact hk56 x8 h5
    · refine g_iconst (pc := 46) dX12_holderAt_46 ci_0 ?_
      refine g_goto (pc := 47) (tgt := 56) dX12_holderAt_47 rfl ?_
      refine g_lv [] rfl ?_
      exact hk56 (0 : Int32) h3
  refine g_ifne (pc := 6) (tgt := 13) dX12_holderAt_6 rfl ?_ ?_
  · refine g_iconst (pc := 9) dX12_holderAt_9 ci_1 ?_
    refine g_goto (pc := 10) (tgt := 36) dX12_holderAt_10 rfl ?_
    exact hk36 (1 : Int32) h1
  · refine g_iload_n (pc := 13) dX12_holderAt_13 2 rfl ?_
    refine g_i2l (pc := 14) dX12_holderAt_14 ?_
    refine g_aload_n (pc := 15) dX12_holderAt_15 0 rfl ?_
    refine g_getr (pc := 16) cl12 (Nat.le_of_ble_eq_true rfl) fk1552 (fun _ _ _ => rfl) dX12_holderAt_16 (fun x9 => ?_)
    refine g_iconst (pc := 19) dX12_holderAt_19 ci_0 ?_
    refine g_iald (pc := 20) dX12_holderAt_20 (fun x10 => ?_)
    refine g_i2l (pc := 21) dX12_holderAt_21 ?_
    refine g_ldc2 (pc := 22) tw2036 dX12_holderAt_22 ?_
    refine g_bRi (pc := 25) (c_S (p_X12_in hl (x3.toInt64) (x10.toInt64) (20160 : Int64) h1) y_X12_in tw1782 dX12_holderAt_25 rfl (st := [.ref (e_z E + x1)]) rfl (Nat.le_of_ble_eq_true rfl) (Nat.le_of_ble_eq_true rfl) (Nat.le_of_ble_eq_true rfl)) (fun x11 h6 => ?_)
    refine g_ifeq (pc := 28) (tgt := 35) dX12_holderAt_28 rfl ?_ ?_
    · refine g_iconst (pc := 35) dX12_holderAt_35 ci_2 ?_
      exact hk36 (2 : Int32) h6
    · refine g_iconst (pc := 31) dX12_holderAt_31 ci_0 ?_
      refine g_goto (pc := 32) (tgt := 36) dX12_holderAt_32 rfl ?_
      exact hk36 (0 : Int32) h6
theorem p_X12_holderAt {l : Launch} {E : aE} (hl : l.stackTraces = false) (x1 : Nat) (x2 : Int32) (x3 : Int32) (h0 : aH) : MO (fun (v : Int32) => .inl (some (.int v))) l E yX12_holderAt (.code yX12_holderAt cX12_holderAt 3 (some .int)) 4 89 [.ref (e_z E + x1), .int x2, .int x3] h0 (m_X12_holderAt x1 x2 x3 h0) := g_met hl (by decide +kernel) (Nat.le_of_ble_eq_true rfl) (b_X12_holderAt hl _ _ x1 x2 x3 h0)
theorem dX12_dutyMinutes_0 : decode cX12_dutyMinutes 0 = .ok (.aload_n 0, 1) := by decide +kernel
theorem dX12_dutyMinutes_1 : decode cX12_dutyMinutes 1 = .ok (.aload_n 0, 1) := by decide +kernel
theorem dX12_dutyMinutes_2 : decode cX12_dutyMinutes 2 = .ok (.iload_n 1, 1) := by decide +kernel
theorem dX12_dutyMinutes_3 : decode cX12_dutyMinutes 3 = .ok (.invokevirtual 353, 3) := by decide +kernel
theorem dX12_dutyMinutes_6 : decode cX12_dutyMinutes 6 = .ok (.ifCond .ne 7, 3) := by decide +kernel
theorem dX12_dutyMinutes_9 : decode cX12_dutyMinutes 9 = .ok (.iconst 1, 1) := by decide +kernel
theorem dX12_dutyMinutes_10 : decode cX12_dutyMinutes 10 = .ok (.goto 20, 3) := by decide +kernel
theorem dX12_dutyMinutes_13 : decode cX12_dutyMinutes 13 = .ok (.iload_n 2, 1) := by decide +kernel
theorem dX12_dutyMinutes_14 : decode cX12_dutyMinutes 14 = .ok (.i2l, 1) := by decide +kernel
theorem dX12_dutyMinutes_15 : decode cX12_dutyMinutes 15 = .ok (.lconst 1, 1) := by decide +kernel
theorem dX12_dutyMinutes_16 : decode cX12_dutyMinutes 16 = .ok (.ldc2_w 359, 3) := by decide +kernel
theorem dX12_dutyMinutes_19 : decode cX12_dutyMinutes 19 = .ok (.invokestatic 176, 3) := by decide +kernel
theorem dX12_dutyMinutes_22 : decode cX12_dutyMinutes 22 = .ok (.ifCond .eq 7, 3) := by decide +kernel
theorem dX12_dutyMinutes_25 : decode cX12_dutyMinutes 25 = .ok (.iconst 0, 1) := by decide +kernel
theorem dX12_dutyMinutes_26 : decode cX12_dutyMinutes 26 = .ok (.goto 4, 3) := by decide +kernel
theorem dX12_dutyMinutes_29 : decode cX12_dutyMinutes 29 = .ok (.iconst 2, 1) := by decide +kernel
theorem dX12_dutyMinutes_30 : decode cX12_dutyMinutes 30 = .ok (.putfield 166, 3) := by decide +kernel
theorem dX12_dutyMinutes_33 : decode cX12_dutyMinutes 33 = .ok (.iconst 0, 1) := by decide +kernel
theorem dX12_dutyMinutes_34 : decode cX12_dutyMinutes 34 = .ok (.istore_n 3, 1) := by decide +kernel
theorem dX12_dutyMinutes_35 : decode cX12_dutyMinutes 35 = .ok (.aload_n 0, 1) := by decide +kernel
theorem dX12_dutyMinutes_36 : decode cX12_dutyMinutes 36 = .ok (.getfield 7, 3) := by decide +kernel
theorem dX12_dutyMinutes_39 : decode cX12_dutyMinutes 39 = .ok (.iconst 0, 1) := by decide +kernel
theorem dX12_dutyMinutes_40 : decode cX12_dutyMinutes 40 = .ok (.iaload, 1) := by decide +kernel
theorem dX12_dutyMinutes_41 : decode cX12_dutyMinutes 41 = .ok (.istore 4, 2) := by decide +kernel
theorem dX12_dutyMinutes_43 : decode cX12_dutyMinutes 43 = .ok (.aload_n 0, 1) := by decide +kernel
theorem dX12_dutyMinutes_44 : decode cX12_dutyMinutes 44 = .ok (.getfield 166, 3) := by decide +kernel
theorem dX12_dutyMinutes_47 : decode cX12_dutyMinutes 47 = .ok (.ifCond .ne 78, 3) := by decide +kernel
theorem dX12_dutyMinutes_50 : decode cX12_dutyMinutes 50 = .ok (.iload 4, 2) := by decide +kernel
theorem dX12_dutyMinutes_52 : decode cX12_dutyMinutes 52 = .ok (.aload_n 0, 1) := by decide +kernel
theorem dX12_dutyMinutes_53 : decode cX12_dutyMinutes 53 = .ok (.getfield 7, 3) := by decide +kernel
theorem dX12_dutyMinutes_56 : decode cX12_dutyMinutes 56 = .ok (.iconst 0, 1) := by decide +kernel
theorem dX12_dutyMinutes_57 : decode cX12_dutyMinutes 57 = .ok (.iaload, 1) := by decide +kernel
theorem dX12_dutyMinutes_58 : decode cX12_dutyMinutes 58 = .ok (.iload_n 2, 1) := by decide +kernel
theorem dX12_dutyMinutes_59 : decode cX12_dutyMinutes 59 = .ok (.iadd, 1) := by decide +kernel
theorem dX12_dutyMinutes_60 : decode cX12_dutyMinutes 60 = .ok (.if_icmp .ge 65, 3) := by decide +kernel
theorem dX12_dutyMinutes_63 : decode cX12_dutyMinutes 63 = .ok (.iconst 0, 1) := by decide +kernel
theorem dX12_dutyMinutes_64 : decode cX12_dutyMinutes 64 = .ok (.istore 5, 2) := by decide +kernel
theorem dX12_dutyMinutes_66 : decode cX12_dutyMinutes 66 = .ok (.iconst 0, 1) := by decide +kernel
theorem dX12_dutyMinutes_67 : decode cX12_dutyMinutes 67 = .ok (.istore 6, 2) := by decide +kernel
theorem dX12_dutyMinutes_69 : decode cX12_dutyMinutes 69 = .ok (.iload 6, 2) := by decide +kernel
theorem dX12_dutyMinutes_71 : decode cX12_dutyMinutes 71 = .ok (.aload_n 0, 1) := by decide +kernel
theorem dX12_dutyMinutes_72 : decode cX12_dutyMinutes 72 = .ok (.getfield 328, 3) := by decide +kernel
theorem dX12_dutyMinutes_75 : decode cX12_dutyMinutes 75 = .ok (.if_icmp .ge 31, 3) := by decide +kernel
theorem dX12_dutyMinutes_78 : decode cX12_dutyMinutes 78 = .ok (.iload 5, 2) := by decide +kernel
theorem dX12_dutyMinutes_80 : decode cX12_dutyMinutes 80 = .ok (.aload_n 0, 1) := by decide +kernel
theorem dX12_dutyMinutes_81 : decode cX12_dutyMinutes 81 = .ok (.iload 6, 2) := by decide +kernel
theorem dX12_dutyMinutes_83 : decode cX12_dutyMinutes 83 = .ok (.iload 4, 2) := by decide +kernel
theorem dX12_dutyMinutes_85 : decode cX12_dutyMinutes 85 = .ok (.invokevirtual 405, 3) := by decide +kernel
theorem dX12_dutyMinutes_88 : decode cX12_dutyMinutes 88 = .ok (.iload_n 1, 1) := by decide +kernel
theorem dX12_dutyMinutes_89 : decode cX12_dutyMinutes 89 = .ok (.if_icmp .ne 7, 3) := by decide +kernel
theorem dX12_dutyMinutes_92 : decode cX12_dutyMinutes 92 = .ok (.iconst 1, 1) := by decide +kernel
theorem dX12_dutyMinutes_93 : decode cX12_dutyMinutes 93 = .ok (.goto 4, 3) := by decide +kernel
theorem dX12_dutyMinutes_96 : decode cX12_dutyMinutes 96 = .ok (.iconst 0, 1) := by decide +kernel
theorem dX12_dutyMinutes_97 : decode cX12_dutyMinutes 97 = .ok (.ior, 1) := by decide +kernel
theorem dX12_dutyMinutes_98 : decode cX12_dutyMinutes 98 = .ok (.istore 5, 2) := by decide +kernel
theorem dX12_dutyMinutes_100 : decode cX12_dutyMinutes 100 = .ok (.iinc 6 1, 3) := by decide +kernel
theorem dX12_dutyMinutes_103 : decode cX12_dutyMinutes 103 = .ok (.goto (-34), 3) := by decide +kernel
theorem dX12_dutyMinutes_106 : decode cX12_dutyMinutes 106 = .ok (.iload_n 3, 1) := by decide +kernel
theorem dX12_dutyMinutes_107 : decode cX12_dutyMinutes 107 = .ok (.iload 5, 2) := by decide +kernel
theorem dX12_dutyMinutes_109 : decode cX12_dutyMinutes 109 = .ok (.ifCond .eq 7, 3) := by decide +kernel
theorem dX12_dutyMinutes_112 : decode cX12_dutyMinutes 112 = .ok (.iconst 1, 1) := by decide +kernel
theorem dX12_dutyMinutes_113 : decode cX12_dutyMinutes 113 = .ok (.goto 4, 3) := by decide +kernel
theorem dX12_dutyMinutes_116 : decode cX12_dutyMinutes 116 = .ok (.iconst 0, 1) := by decide +kernel
theorem dX12_dutyMinutes_117 : decode cX12_dutyMinutes 117 = .ok (.iadd, 1) := by decide +kernel
theorem dX12_dutyMinutes_118 : decode cX12_dutyMinutes 118 = .ok (.istore_n 3, 1) := by decide +kernel
theorem dX12_dutyMinutes_119 : decode cX12_dutyMinutes 119 = .ok (.iinc 4 1, 3) := by decide +kernel
theorem dX12_dutyMinutes_122 : decode cX12_dutyMinutes 122 = .ok (.goto (-79), 3) := by decide +kernel
theorem dX12_dutyMinutes_125 : decode cX12_dutyMinutes 125 = .ok (.iload_n 3, 1) := by decide +kernel
theorem dX12_dutyMinutes_126 : decode cX12_dutyMinutes 126 = .ok (.ireturn, 1) := by decide +kernel
abbrev M_X12_dutyMinutes : aM := (yX12_dutyMinutes.cls, cX12_dutyMinutes, 7, (some .int), [], yX12_dutyMinutes.name == "<init>")
abbrev J_X12_dutyMinutes (l : Launch) (E : aE) (n0 m0 : Nat) := GG (fun (v : Int32) => .inl (some (.int v))) l E M_X12_dutyMinutes 4 89 n0 m0
theorem b_X12_dutyMinutes {l : Launch} {E : aE} (hl : l.stackTraces = false) (n0 m0 : Nat) (x1 : Nat) (x2 : Int32) (x3 : Int32) (h0 : aH) : J_X12_dutyMinutes l E n0 m0 0 [(0, .ref (e_z E + x1)), (1, .int x2), (2, .int x3)] [] h0 (m_X12_dutyMinutes x1 x2 x3 h0) := by
  unfold m_X12_dutyMinutes
  refine g_aload_n (pc := 0) dX12_dutyMinutes_0 0 rfl ?_
  refine g_aload_n (pc := 1) dX12_dutyMinutes_1 0 rfl ?_
  refine g_iload_n (pc := 2) dX12_dutyMinutes_2 1 rfl ?_
  refine g_gS (fun hs => ?_)
  refine g_bRi (pc := 3) (c_V cl12 hs (p_X12_isPerson hl x1 x2 h0) y_X12_isPerson tw1927 dX12_dutyMinutes_3 rfl (st := [.ref (e_z E + x1)]) rfl (Nat.le_of_ble_eq_true rfl) (Nat.le_of_ble_eq_true rfl) (Nat.le_of_ble_eq_true rfl)) (fun x4 h1 => ?_)
  refine g_join (fun k => ∀ (x5 : Int32) (h2 : aH), J_X12_dutyMinutes l E n0 m0 30 [(0, .ref (e_z E + x1)), (1, .int x2), (2, .int x3)] [.int x5, .ref (e_z E + x1)] h2 (k x5 h2)) (fun x5 h2 => ?_) (fun k30 hk30 => ?_)
  · refine g_puti (pc := 30) cl12 (Nat.le_of_ble_eq_true rfl) (Or.inl ⟨rfl, fk1551⟩) (fun _ _ _ => rfl) (fun _ => ⟨rfl, rfl⟩) dX12_dutyMinutes_30 (fun h3 => ?_)
    refine g_iconst (pc := 33) dX12_dutyMinutes_33 ci_0 ?_
    refine g_istore_n (pc := 34) (lv' := [(3, .int (0 : Int32)), (0, .ref (e_z E + x1)), (1, .int x2), (2, .int x3)]) dX12_dutyMinutes_34 (Nat.le_of_ble_eq_true rfl) rfl ?_
    refine g_aload_n (pc := 35) dX12_dutyMinutes_35 1 rfl ?_
    refine g_getr (pc := 36) cl12 (Nat.le_of_ble_eq_true rfl) fk1552 (fun _ _ _ => rfl) dX12_dutyMinutes_36 (fun x6 => ?_)
    refine g_iconst (pc := 39) dX12_dutyMinutes_39 ci_0 ?_
    refine g_iald (pc := 40) dX12_dutyMinutes_40 (fun x7 => ?_)
    refine g_istore (pc := 41) (lv' := [(4, .int x7), (3, .int (0 : Int32)), (0, .ref (e_z E + x1)), (1, .int x2), (2, .int x3)]) dX12_dutyMinutes_41 (Nat.le_of_ble_eq_true rfl) rfl ?_
    refine g_join (fun k => ∀ (x8 : Int32) (h4 : aH), J_X12_dutyMinutes l E n0 m0 125 [(3, .int x8)] [] h4 (k x8 h4)) (fun x8 h4 => ?_) (fun k125 hk125 => ?_)
    · refine g_iload_n (pc := 125) dX12_dutyMinutes_125 0 rfl ?_
      exact g_ret (pc := 126) rfl (isRet_i _) dX12_dutyMinutes_126 rfl
    refine g_lv [2, 3, 4, 1, 0] rfl ?_
    refine g_loop2 (F := (m_X12_dutyMinutes_L43 x1 x2 x3 k125)) (fun x9 x10 => [(0, .ref (e_z E + x1)), (1, .int x2), (2, .int x3), (3, .int x9), (4, .int x10)]) (fun r43 hr43 x9 x10 h5 => ?_) _ _ _ _
    unfold m_X12_dutyMinutes_L43
    refine g_aload_n (pc := 43) dX12_dutyMinutes_43 0 rfl ?_
    refine g_geti (pc := 44) cl12 (Nat.le_of_ble_eq_true rfl) fk1551 (fun _ _ _ => rfl) dX12_dutyMinutes_44 (fun x11 => ?_)
    refine g_ifne (pc := 47) (tgt := 125) dX12_dutyMinutes_47 rfl ?_ ?_
    · refine g_iload (pc := 50) dX12_dutyMinutes_50 4 rfl ?_
      refine g_aload_n (pc := 52) dX12_dutyMinutes_52 0 rfl ?_
      refine g_getr (pc := 53) cl12 (Nat.le_of_ble_eq_true rfl) fk1552 (fun _ _ _ => rfl) dX12_dutyMinutes_53 (fun x12 => ?_)
      refine g_iconst (pc := 56) dX12_dutyMinutes_56 ci_0 ?_
      refine g_iald (pc := 57) dX12_dutyMinutes_57 (fun x13 => ?_)
      refine g_iload_n (pc := 58) dX12_dutyMinutes_58 2 rfl ?_
      refine g_iadd (pc := 59) dX12_dutyMinutes_59 ?_
      refine g_icmpge (pc := 60) (tgt := 125) dX12_dutyMinutes_60 rfl ?_ ?_
      · refine g_iconst (pc := 63) dX12_dutyMinutes_63 ci_0 ?_
        refine g_istore (pc := 64) (lv' := [(5, .int (0 : Int32)), (0, .ref (e_z E + x1)), (1, .int x2), (2, .int x3), (3, .int x9), (4, .int x10)]) dX12_dutyMinutes_64 (Nat.le_of_ble_eq_true rfl) rfl ?_
        refine g_iconst (pc := 66) dX12_dutyMinutes_66 ci_0 ?_
        refine g_istore (pc := 67) (lv' := [(6, .int (0 : Int32)), (5, .int (0 : Int32)), (0, .ref (e_z E + x1)), (1, .int x2), (2, .int x3), (3, .int x9), (4, .int x10)]) dX12_dutyMinutes_67 (Nat.le_of_ble_eq_true rfl) rfl ?_
        refine g_join (fun k => ∀ (x14 : Int32) (h6 : aH), J_X12_dutyMinutes l E n0 m0 106 [(0, .ref (e_z E + x1)), (1, .int x2), (2, .int x3), (3, .int x9), (4, .int x10), (5, .int x14)] [] h6 (k x14 h6)) (fun x14 h6 => ?_) (fun k106 hk106 => ?_)
        · refine g_iload_n (pc := 106) dX12_dutyMinutes_106 3 rfl ?_
          refine g_iload (pc := 107) dX12_dutyMinutes_107 5 rfl ?_
          refine g_join (fun k => ∀ (x15 : Int32) (h7 : aH), J_X12_dutyMinutes l E n0 m0 117 [(0, .ref (e_z E + x1)), (1, .int x2), (2, .int x3), (4, .int x10)] [.int x15, .int x9] h7 (k x15 h7)) (fun x15 h7 => ?_) (fun k117 hk117 => ?_)
          · refine g_iadd (pc := 117) dX12_dutyMinutes_117 ?_
            refine g_topi (fun x16 => ?_)
            refine g_istore_n (pc := 118) (lv' := [(3, .int x16), (0, .ref (e_z E + x1)), (1, .int x2), (2, .int x3), (4, .int x10)]) dX12_dutyMinutes_118 (Nat.le_of_ble_eq_true rfl) rfl ?_
            refine g_iincN (pc := 119) dX12_dutyMinutes_119 4 rfl ci_1 (Nat.le_of_ble_eq_true rfl) (fun x17 => ?_)
            refine g_lvr (lv' := [(4, .int x17), (3, .int x16), (0, .ref (e_z E + x1)), (1, .int x2), (2, .int x3)]) rfl ?_
            refine g_goto (pc := 122) (tgt := 43) dX12_dutyMinutes_122 rfl ?_
            refine g_lv [2, 3, 4, 1, 0] rfl ?_
            exact hr43 x16 x17 h7
          refine g_ifeq (pc := 109) (tgt := 116) dX12_dutyMinutes_109 rfl ?_ ?_
          · refine g_iconst (pc := 116) dX12_dutyMinutes_116 ci_0 ?_
            refine g_lv [0, 1, 2, 4] rfl ?_
            exact hk117 (0 : Int32) h6
          · refine g_iconst (pc := 112) dX12_dutyMinutes_112 ci_1 ?_
            refine g_goto (pc := 113) (tgt := 117) dX12_dutyMinutes_113 rfl ?_
            refine g_lv [0, 1, 2, 4] rfl ?_
            exact hk117 (1 : Int32) h6
        refine g_lv [2, 3, 4, 5, 6, 1, 0] rfl ?_
        refine g_loop2 (F := (m_X12_dutyMinutes_L69 x1 x2 x10 k106)) (fun x18 x19 => [(0, .ref (e_z E + x1)), (1, .int x2), (2, .int x3), (3, .int x9), (4, .int x10), (5, .int x18), (6, .int x19)]) (fun r69 hr69 x18 x19 h8 => ?_) _ _ _ _
        unfold m_X12_dutyMinutes_L69
        refine g_iload (pc := 69) dX12_dutyMinutes_69 6 rfl ?_
        refine g_aload_n (pc := 71) dX12_dutyMinutes_71 0 rfl ?_
        refine g_geti (pc := 72) cl12 (Nat.le_of_ble_eq_true rfl) fk1560 (fun _ _ _ => rfl) dX12_dutyMinutes_72 (fun x20 => ?_)
        refine g_icmpge (pc := 75) (tgt := 106) dX12_dutyMinutes_75 rfl ?_ ?_
        · refine g_iload (pc := 78) dX12_dutyMinutes_78 5 rfl ?_
          refine g_aload_n (pc := 80) dX12_dutyMinutes_80 0 rfl ?_
          refine g_iload (pc := 81) dX12_dutyMinutes_81 6 rfl ?_
          refine g_iload (pc := 83) dX12_dutyMinutes_83 4 rfl ?_
          refine g_gS (fun hs => ?_)
          refine g_bRi (pc := 85) (c_V cl12 hs (p_X12_holderThen hl x1 x19 x10 h8) y_X12_holderThen tw2037 dX12_dutyMinutes_85 rfl (st := [.int x18]) rfl (Nat.le_of_ble_eq_true rfl) (Nat.le_of_ble_eq_true rfl) (Nat.le_of_ble_eq_true rfl)) (fun x21 h9 => ?_)
          refine g_iload_n (pc := 88) dX12_dutyMinutes_88 1 rfl ?_
          refine g_join (fun k => ∀ (x22 : Int32) (h10 : aH), J_X12_dutyMinutes l E n0 m0 97 [(0, .ref (e_z E + x1)), (1, .int x2), (2, .int x3), (3, .int x9), (4, .int x10), (6, .int x19)] [.int x22, .int x18] h10 (k x22 h10)) (fun x22 h10 => ?_) (fun k97 hk97 => ?_)
          · refine g_ior (pc := 97) dX12_dutyMinutes_97 ?_
            refine g_topi (fun x23 => ?_)
            refine g_istore (pc := 98) (lv' := [(5, .int x23), (0, .ref (e_z E + x1)), (1, .int x2), (2, .int x3), (3, .int x9), (4, .int x10), (6, .int x19)]) dX12_dutyMinutes_98 (Nat.le_of_ble_eq_true rfl) rfl ?_
            refine g_iincN (pc := 100) dX12_dutyMinutes_100 6 rfl ci_1 (Nat.le_of_ble_eq_true rfl) (fun x24 => ?_)
            refine g_lvr (lv' := [(6, .int x24), (5, .int x23), (0, .ref (e_z E + x1)), (1, .int x2), (2, .int x3), (3, .int x9), (4, .int x10)]) rfl ?_
            refine g_goto (pc := 103) (tgt := 69) dX12_dutyMinutes_103 rfl ?_
            refine g_lv [2, 3, 4, 5, 6, 1, 0] rfl ?_
            exact hr69 x23 x24 h10
          refine g_icmpne (pc := 89) (tgt := 96) dX12_dutyMinutes_89 rfl ?_ ?_
          · refine g_iconst (pc := 92) dX12_dutyMinutes_92 ci_1 ?_
            refine g_goto (pc := 93) (tgt := 97) dX12_dutyMinutes_93 rfl ?_
            refine g_lv [0, 1, 2, 3, 4, 6] rfl ?_
            exact hk97 (1 : Int32) h9
          · refine g_iconst (pc := 96) dX12_dutyMinutes_96 ci_0 ?_
            refine g_lv [0, 1, 2, 3, 4, 6] rfl ?_
            exact hk97 (0 : Int32) h9
        · refine g_lv [0, 1, 2, 3, 4, 5] rfl ?_
          exact hk106 x18 h8
      · refine g_lv [3] rfl ?_
        exact hk125 x9 h5
    · refine g_lv [3] rfl ?_
      exact hk125 x9 h5
  refine g_ifne (pc := 6) (tgt := 13) dX12_dutyMinutes_6 rfl ?_ ?_
  · refine g_iconst (pc := 9) dX12_dutyMinutes_9 ci_1 ?_
    refine g_goto (pc := 10) (tgt := 30) dX12_dutyMinutes_10 rfl ?_
    exact hk30 (1 : Int32) h1
  · refine g_iload_n (pc := 13) dX12_dutyMinutes_13 2 rfl ?_
    refine g_i2l (pc := 14) dX12_dutyMinutes_14 ?_
    refine g_lconst (pc := 15) dX12_dutyMinutes_15 cl_1 ?_
    refine g_ldc2 (pc := 16) tw1943 dX12_dutyMinutes_16 ?_
    refine g_bRi (pc := 19) (c_S (p_X12_in hl (x3.toInt64) (1 : Int64) (1440 : Int64) h1) y_X12_in tw1782 dX12_dutyMinutes_19 rfl (st := [.ref (e_z E + x1)]) rfl (Nat.le_of_ble_eq_true rfl) (Nat.le_of_ble_eq_true rfl) (Nat.le_of_ble_eq_true rfl)) (fun x25 h11 => ?_)
    refine g_ifeq (pc := 22) (tgt := 29) dX12_dutyMinutes_22 rfl ?_ ?_
    · refine g_iconst (pc := 29) dX12_dutyMinutes_29 ci_2 ?_
      exact hk30 (2 : Int32) h11
    · refine g_iconst (pc := 25) dX12_dutyMinutes_25 ci_0 ?_
      refine g_goto (pc := 26) (tgt := 30) dX12_dutyMinutes_26 rfl ?_
      exact hk30 (0 : Int32) h11
theorem p_X12_dutyMinutes {l : Launch} {E : aE} (hl : l.stackTraces = false) (x1 : Nat) (x2 : Int32) (x3 : Int32) (h0 : aH) : MO (fun (v : Int32) => .inl (some (.int v))) l E yX12_dutyMinutes (.code yX12_dutyMinutes cX12_dutyMinutes 7 (some .int)) 4 89 [.ref (e_z E + x1), .int x2, .int x3] h0 (m_X12_dutyMinutes x1 x2 x3 h0) := g_met hl (by decide +kernel) (Nat.le_of_ble_eq_true rfl) (b_X12_dutyMinutes hl _ _ x1 x2 x3 h0)
theorem dX12_whyNotHandOn_0 : decode cX12_whyNotHandOn 0 = .ok (.aload_n 0, 1) := by decide +kernel
theorem dX12_whyNotHandOn_1 : decode cX12_whyNotHandOn 1 = .ok (.aload_n 0, 1) := by decide +kernel
theorem dX12_whyNotHandOn_2 : decode cX12_whyNotHandOn 2 = .ok (.iload_n 1, 1) := by decide +kernel
theorem dX12_whyNotHandOn_3 : decode cX12_whyNotHandOn 3 = .ok (.invokevirtual 400, 3) := by decide +kernel
theorem dX12_whyNotHandOn_6 : decode cX12_whyNotHandOn 6 = .ok (.ifCond .eq 15, 3) := by decide +kernel
theorem dX12_whyNotHandOn_9 : decode cX12_whyNotHandOn 9 = .ok (.aload_n 0, 1) := by decide +kernel
theorem dX12_whyNotHandOn_10 : decode cX12_whyNotHandOn 10 = .ok (.iload_n 2, 1) := by decide +kernel
theorem dX12_whyNotHandOn_11 : decode cX12_whyNotHandOn 11 = .ok (.invokevirtual 353, 3) := by decide +kernel
theorem dX12_whyNotHandOn_14 : decode cX12_whyNotHandOn 14 = .ok (.ifCond .eq 7, 3) := by decide +kernel
theorem dX12_whyNotHandOn_17 : decode cX12_whyNotHandOn 17 = .ok (.iconst 0, 1) := by decide +kernel
theorem dX12_whyNotHandOn_18 : decode cX12_whyNotHandOn 18 = .ok (.goto 4, 3) := by decide +kernel
theorem dX12_whyNotHandOn_21 : decode cX12_whyNotHandOn 21 = .ok (.iconst 1, 1) := by decide +kernel
theorem dX12_whyNotHandOn_22 : decode cX12_whyNotHandOn 22 = .ok (.putfield 166, 3) := by decide +kernel
theorem dX12_whyNotHandOn_25 : decode cX12_whyNotHandOn 25 = .ok (.aload_n 0, 1) := by decide +kernel
theorem dX12_whyNotHandOn_26 : decode cX12_whyNotHandOn 26 = .ok (.getfield 166, 3) := by decide +kernel
theorem dX12_whyNotHandOn_29 : decode cX12_whyNotHandOn 29 = .ok (.ifCond .le 7, 3) := by decide +kernel
theorem dX12_whyNotHandOn_32 : decode cX12_whyNotHandOn 32 = .ok (.iconst 0, 1) := by decide +kernel
theorem dX12_whyNotHandOn_33 : decode cX12_whyNotHandOn 33 = .ok (.goto 10, 3) := by decide +kernel
theorem dX12_whyNotHandOn_36 : decode cX12_whyNotHandOn 36 = .ok (.aload_n 0, 1) := by decide +kernel
theorem dX12_whyNotHandOn_37 : decode cX12_whyNotHandOn 37 = .ok (.iload_n 1, 1) := by decide +kernel
theorem dX12_whyNotHandOn_38 : decode cX12_whyNotHandOn 38 = .ok (.iload_n 2, 1) := by decide +kernel
theorem dX12_whyNotHandOn_39 : decode cX12_whyNotHandOn 39 = .ok (.iload_n 3, 1) := by decide +kernel
theorem dX12_whyNotHandOn_40 : decode cX12_whyNotHandOn 40 = .ok (.invokevirtual 408, 3) := by decide +kernel
theorem dX12_whyNotHandOn_43 : decode cX12_whyNotHandOn 43 = .ok (.ireturn, 1) := by decide +kernel
abbrev M_X12_whyNotHandOn : aM := (yX12_whyNotHandOn.cls, cX12_whyNotHandOn, 4, (some .int), [], yX12_whyNotHandOn.name == "<init>")
abbrev J_X12_whyNotHandOn (l : Launch) (E : aE) (n0 m0 : Nat) := GG (fun (v : Int32) => .inl (some (.int v))) l E M_X12_whyNotHandOn 5 114 n0 m0
theorem b_X12_whyNotHandOn {l : Launch} {E : aE} (hl : l.stackTraces = false) (n0 m0 : Nat) (x1 : Nat) (x2 : Int32) (x3 : Int32) (x4 : Int32) (h0 : aH) : J_X12_whyNotHandOn l E n0 m0 0 [(0, .ref (e_z E + x1)), (1, .int x2), (2, .int x3), (3, .int x4)] [] h0 (m_X12_whyNotHandOn x1 x2 x3 x4 h0) := by
  unfold m_X12_whyNotHandOn
  refine g_aload_n (pc := 0) dX12_whyNotHandOn_0 0 rfl ?_
  refine g_aload_n (pc := 1) dX12_whyNotHandOn_1 0 rfl ?_
  refine g_iload_n (pc := 2) dX12_whyNotHandOn_2 1 rfl ?_
  refine g_gS (fun hs => ?_)
  refine g_bRi (pc := 3) (c_V cl12 hs (p_X12_isPager hl x1 x2 h0) y_X12_isPager tw1996 dX12_whyNotHandOn_3 rfl (st := [.ref (e_z E + x1)]) rfl (Nat.le_of_ble_eq_true rfl) (Nat.le_of_ble_eq_true rfl) (Nat.le_of_ble_eq_true rfl)) (fun x5 h1 => ?_)
  refine g_join (fun k => ∀ (x6 : Int32) (h2 : aH), J_X12_whyNotHandOn l E n0 m0 22 [(0, .ref (e_z E + x1)), (1, .int x2), (2, .int x3), (3, .int x4)] [.int x6, .ref (e_z E + x1)] h2 (k x6 h2)) (fun x6 h2 => ?_) (fun k22 hk22 => ?_)
  · refine g_puti (pc := 22) cl12 (Nat.le_of_ble_eq_true rfl) (Or.inl ⟨rfl, fk1551⟩) (fun _ _ _ => rfl) (fun _ => ⟨rfl, rfl⟩) dX12_whyNotHandOn_22 (fun h3 => ?_)
    refine g_aload_n (pc := 25) dX12_whyNotHandOn_25 0 rfl ?_
    refine g_geti (pc := 26) cl12 (Nat.le_of_ble_eq_true rfl) fk1551 (fun _ _ _ => rfl) dX12_whyNotHandOn_26 (fun x7 => ?_)
    refine g_join (fun k => ∀ (x8 : Int32) (h4 : aH), J_X12_whyNotHandOn l E n0 m0 43 [] [.int x8] h4 (k x8 h4)) (fun x8 h4 => ?_) (fun k43 hk43 => ?_)
    · exact g_ret (pc := 43) rfl (isRet_i _) dX12_whyNotHandOn_43 rfl
    refine g_ifle (pc := 29) (tgt := 36) dX12_whyNotHandOn_29 rfl ?_ ?_
    · refine g_aload_n (pc := 36) dX12_whyNotHandOn_36 0 rfl ?_
      refine g_iload_n (pc := 37) dX12_whyNotHandOn_37 1 rfl ?_
      refine g_iload_n (pc := 38) dX12_whyNotHandOn_38 2 rfl ?_
      refine g_iload_n (pc := 39) dX12_whyNotHandOn_39 3 rfl ?_
      refine g_gS (fun hs => ?_)
      refine g_bRi (pc := 40) (c_V cl12 hs (p_X12_against hl x1 x2 x3 x4 h3) y_X12_against tw2049 dX12_whyNotHandOn_40 rfl (st := []) rfl (Nat.le_of_ble_eq_true rfl) (Nat.le_of_ble_eq_true rfl) (Nat.le_of_ble_eq_true rfl)) (fun x9 h5 => ?_)
      refine g_lv [] rfl ?_
      exact hk43 x9 h5
    · refine g_iconst (pc := 32) dX12_whyNotHandOn_32 ci_0 ?_
      refine g_goto (pc := 33) (tgt := 43) dX12_whyNotHandOn_33 rfl ?_
      refine g_lv [] rfl ?_
      exact hk43 (0 : Int32) h3
  refine g_join (fun k => ∀ (h6 : aH), J_X12_whyNotHandOn l E n0 m0 21 [(0, .ref (e_z E + x1)), (1, .int x2), (2, .int x3), (3, .int x4)] [.ref (e_z E + x1)] h6 (k h6)) (fun h6 => ?_) (fun k21 hk21 => ?_)
  · refine g_iconst (pc := 21) dX12_whyNotHandOn_21 ci_1 ?_
    exact hk22 (1 : Int32) h6
  refine g_ifeq (pc := 6) (tgt := 21) dX12_whyNotHandOn_6 rfl ?_ ?_
  · exact hk21 h1
  · refine g_aload_n (pc := 9) dX12_whyNotHandOn_9 0 rfl ?_
    refine g_iload_n (pc := 10) dX12_whyNotHandOn_10 2 rfl ?_
    refine g_gS (fun hs => ?_)
    refine g_bRi (pc := 11) (c_V cl12 hs (p_X12_isPerson hl x1 x3 h1) y_X12_isPerson tw1927 dX12_whyNotHandOn_11 rfl (st := [.ref (e_z E + x1)]) rfl (Nat.le_of_ble_eq_true rfl) (Nat.le_of_ble_eq_true rfl) (Nat.le_of_ble_eq_true rfl)) (fun x10 h7 => ?_)
    refine g_ifeq (pc := 14) (tgt := 21) dX12_whyNotHandOn_14 rfl ?_ ?_
    · exact hk21 h7
    · refine g_iconst (pc := 17) dX12_whyNotHandOn_17 ci_0 ?_
      refine g_goto (pc := 18) (tgt := 22) dX12_whyNotHandOn_18 rfl ?_
      exact hk22 (0 : Int32) h7
theorem p_X12_whyNotHandOn {l : Launch} {E : aE} (hl : l.stackTraces = false) (x1 : Nat) (x2 : Int32) (x3 : Int32) (x4 : Int32) (h0 : aH) : MO (fun (v : Int32) => .inl (some (.int v))) l E yX12_whyNotHandOn (.code yX12_whyNotHandOn cX12_whyNotHandOn 4 (some .int)) 5 114 [.ref (e_z E + x1), .int x2, .int x3, .int x4] h0 (m_X12_whyNotHandOn x1 x2 x3 x4 h0) := g_met hl (by decide +kernel) (Nat.le_of_ble_eq_true rfl) (b_X12_whyNotHandOn hl _ _ x1 x2 x3 x4 h0)
theorem dX12_steps_0 : decode cX12_steps 0 = .ok (.aload_n 0, 1) := by decide +kernel
theorem dX12_steps_1 : decode cX12_steps 1 = .ok (.aload_n 0, 1) := by decide +kernel
theorem dX12_steps_2 : decode cX12_steps 2 = .ok (.iload_n 1, 1) := by decide +kernel
theorem dX12_steps_3 : decode cX12_steps 3 = .ok (.invokevirtual 400, 3) := by decide +kernel
theorem dX12_steps_6 : decode cX12_steps 6 = .ok (.ifCond .eq 15, 3) := by decide +kernel
theorem dX12_steps_9 : decode cX12_steps 9 = .ok (.aload_n 0, 1) := by decide +kernel
theorem dX12_steps_10 : decode cX12_steps 10 = .ok (.iload_n 2, 1) := by decide +kernel
theorem dX12_steps_11 : decode cX12_steps 11 = .ok (.invokevirtual 353, 3) := by decide +kernel
theorem dX12_steps_14 : decode cX12_steps 14 = .ok (.ifCond .eq 7, 3) := by decide +kernel
theorem dX12_steps_17 : decode cX12_steps 17 = .ok (.iconst 0, 1) := by decide +kernel
theorem dX12_steps_18 : decode cX12_steps 18 = .ok (.goto 4, 3) := by decide +kernel
theorem dX12_steps_21 : decode cX12_steps 21 = .ok (.iconst 1, 1) := by decide +kernel
theorem dX12_steps_22 : decode cX12_steps 22 = .ok (.putfield 166, 3) := by decide +kernel
theorem dX12_steps_25 : decode cX12_steps 25 = .ok (.aload_n 0, 1) := by decide +kernel
theorem dX12_steps_26 : decode cX12_steps 26 = .ok (.getfield 166, 3) := by decide +kernel
theorem dX12_steps_29 : decode cX12_steps 29 = .ok (.ifCond .gt 12, 3) := by decide +kernel
theorem dX12_steps_32 : decode cX12_steps 32 = .ok (.aload_n 0, 1) := by decide +kernel
theorem dX12_steps_33 : decode cX12_steps 33 = .ok (.iload_n 1, 1) := by decide +kernel
theorem dX12_steps_34 : decode cX12_steps 34 = .ok (.invokevirtual 394, 3) := by decide +kernel
theorem dX12_steps_37 : decode cX12_steps 37 = .ok (.iload_n 2, 1) := by decide +kernel
theorem dX12_steps_38 : decode cX12_steps 38 = .ok (.if_icmp .ne 5, 3) := by decide +kernel
theorem dX12_steps_41 : decode cX12_steps 41 = .ok (.iconst 0, 1) := by decide +kernel
theorem dX12_steps_42 : decode cX12_steps 42 = .ok (.ireturn, 1) := by decide +kernel
theorem dX12_steps_43 : decode cX12_steps 43 = .ok (.sipush 194, 3) := by decide +kernel
theorem dX12_steps_46 : decode cX12_steps 46 = .ok (.bipush 15, 2) := by decide +kernel
theorem dX12_steps_48 : decode cX12_steps 48 = .ok (.iload_n 1, 1) := by decide +kernel
theorem dX12_steps_49 : decode cX12_steps 49 = .ok (.imul, 1) := by decide +kernel
theorem dX12_steps_50 : decode cX12_steps 50 = .ok (.iadd, 1) := by decide +kernel
theorem dX12_steps_51 : decode cX12_steps 51 = .ok (.istore_n 3, 1) := by decide +kernel
theorem dX12_steps_52 : decode cX12_steps 52 = .ok (.aload_n 0, 1) := by decide +kernel
theorem dX12_steps_53 : decode cX12_steps 53 = .ok (.getfield 7, 3) := by decide +kernel
theorem dX12_steps_56 : decode cX12_steps 56 = .ok (.iload_n 3, 1) := by decide +kernel
theorem dX12_steps_57 : decode cX12_steps 57 = .ok (.bipush 8, 2) := by decide +kernel
theorem dX12_steps_59 : decode cX12_steps 59 = .ok (.iadd, 1) := by decide +kernel
theorem dX12_steps_60 : decode cX12_steps 60 = .ok (.iaload, 1) := by decide +kernel
theorem dX12_steps_61 : decode cX12_steps 61 = .ok (.istore 4, 2) := by decide +kernel
theorem dX12_steps_63 : decode cX12_steps 63 = .ok (.aload_n 0, 1) := by decide +kernel
theorem dX12_steps_64 : decode cX12_steps 64 = .ok (.iload_n 1, 1) := by decide +kernel
theorem dX12_steps_65 : decode cX12_steps 65 = .ok (.invokevirtual 397, 3) := by decide +kernel
theorem dX12_steps_68 : decode cX12_steps 68 = .ok (.istore 5, 2) := by decide +kernel
theorem dX12_steps_70 : decode cX12_steps 70 = .ok (.aload_n 0, 1) := by decide +kernel
theorem dX12_steps_71 : decode cX12_steps 71 = .ok (.iload_n 1, 1) := by decide +kernel
theorem dX12_steps_72 : decode cX12_steps 72 = .ok (.iload_n 2, 1) := by decide +kernel
theorem dX12_steps_73 : decode cX12_steps 73 = .ok (.iload 5, 2) := by decide +kernel
theorem dX12_steps_75 : decode cX12_steps 75 = .ok (.invokevirtual 408, 3) := by decide +kernel
theorem dX12_steps_78 : decode cX12_steps 78 = .ok (.ifCond .ne 7, 3) := by decide +kernel
theorem dX12_steps_81 : decode cX12_steps 81 = .ok (.iconst 1, 1) := by decide +kernel
theorem dX12_steps_82 : decode cX12_steps 82 = .ok (.goto 5, 3) := by decide +kernel
theorem dX12_steps_85 : decode cX12_steps 85 = .ok (.bipush 9, 2) := by decide +kernel
theorem dX12_steps_87 : decode cX12_steps 87 = .ok (.istore 6, 2) := by decide +kernel
theorem dX12_steps_89 : decode cX12_steps 89 = .ok (.iconst 0, 1) := by decide +kernel
theorem dX12_steps_90 : decode cX12_steps 90 = .ok (.istore 7, 2) := by decide +kernel
theorem dX12_steps_92 : decode cX12_steps 92 = .ok (.iload 7, 2) := by decide +kernel
theorem dX12_steps_94 : decode cX12_steps 94 = .ok (.aload_n 0, 1) := by decide +kernel
theorem dX12_steps_95 : decode cX12_steps 95 = .ok (.getfield 325, 3) := by decide +kernel
theorem dX12_steps_98 : decode cX12_steps 98 = .ok (.if_icmp .ge 151, 3) := by decide +kernel
theorem dX12_steps_101 : decode cX12_steps 101 = .ok (.iload 6, 2) := by decide +kernel
theorem dX12_steps_103 : decode cX12_steps 103 = .ok (.iconst 1, 1) := by decide +kernel
theorem dX12_steps_104 : decode cX12_steps 104 = .ok (.if_icmp .le 145, 3) := by decide +kernel
theorem dX12_steps_107 : decode cX12_steps 107 = .ok (.aload_n 0, 1) := by decide +kernel
theorem dX12_steps_108 : decode cX12_steps 108 = .ok (.iload_n 1, 1) := by decide +kernel
theorem dX12_steps_109 : decode cX12_steps 109 = .ok (.iload 7, 2) := by decide +kernel
theorem dX12_steps_111 : decode cX12_steps 111 = .ok (.iload 5, 2) := by decide +kernel
theorem dX12_steps_113 : decode cX12_steps 113 = .ok (.invokevirtual 408, 3) := by decide +kernel
theorem dX12_steps_116 : decode cX12_steps 116 = .ok (.ifCond .eq 6, 3) := by decide +kernel
theorem dX12_steps_119 : decode cX12_steps 119 = .ok (.goto 124, 3) := by decide +kernel
theorem dX12_steps_122 : decode cX12_steps 122 = .ok (.aload_n 0, 1) := by decide +kernel
theorem dX12_steps_123 : decode cX12_steps 123 = .ok (.iload_n 1, 1) := by decide +kernel
theorem dX12_steps_124 : decode cX12_steps 124 = .ok (.iload 7, 2) := by decide +kernel
theorem dX12_steps_126 : decode cX12_steps 126 = .ok (.iload 5, 2) := by decide +kernel
theorem dX12_steps_128 : decode cX12_steps 128 = .ok (.invokevirtual 412, 3) := by decide +kernel
theorem dX12_steps_131 : decode cX12_steps 131 = .ok (.iload 6, 2) := by decide +kernel
theorem dX12_steps_133 : decode cX12_steps 133 = .ok (.iconst 2, 1) := by decide +kernel
theorem dX12_steps_134 : decode cX12_steps 134 = .ok (.if_icmp .le 17, 3) := by decide +kernel
theorem dX12_steps_137 : decode cX12_steps 137 = .ok (.aload_n 0, 1) := by decide +kernel
theorem dX12_steps_138 : decode cX12_steps 138 = .ok (.iload_n 1, 1) := by decide +kernel
theorem dX12_steps_139 : decode cX12_steps 139 = .ok (.iload_n 2, 1) := by decide +kernel
theorem dX12_steps_140 : decode cX12_steps 140 = .ok (.iload 5, 2) := by decide +kernel
theorem dX12_steps_142 : decode cX12_steps 142 = .ok (.invokevirtual 408, 3) := by decide +kernel
theorem dX12_steps_145 : decode cX12_steps 145 = .ok (.ifCond .ne 6, 3) := by decide +kernel
theorem dX12_steps_148 : decode cX12_steps 148 = .ok (.iconst 2, 1) := by decide +kernel
theorem dX12_steps_149 : decode cX12_steps 149 = .ok (.istore 6, 2) := by decide +kernel
theorem dX12_steps_151 : decode cX12_steps 151 = .ok (.iconst 0, 1) := by decide +kernel
theorem dX12_steps_152 : decode cX12_steps 152 = .ok (.istore 8, 2) := by decide +kernel
theorem dX12_steps_154 : decode cX12_steps 154 = .ok (.iload 8, 2) := by decide +kernel
theorem dX12_steps_156 : decode cX12_steps 156 = .ok (.aload_n 0, 1) := by decide +kernel
theorem dX12_steps_157 : decode cX12_steps 157 = .ok (.getfield 325, 3) := by decide +kernel
theorem dX12_steps_160 : decode cX12_steps 160 = .ok (.if_icmp .ge 72, 3) := by decide +kernel
theorem dX12_steps_163 : decode cX12_steps 163 = .ok (.iload 6, 2) := by decide +kernel
theorem dX12_steps_165 : decode cX12_steps 165 = .ok (.iconst 2, 1) := by decide +kernel
theorem dX12_steps_166 : decode cX12_steps 166 = .ok (.if_icmp .le 66, 3) := by decide +kernel
theorem dX12_steps_169 : decode cX12_steps 169 = .ok (.aload_n 0, 1) := by decide +kernel
theorem dX12_steps_170 : decode cX12_steps 170 = .ok (.iload_n 1, 1) := by decide +kernel
theorem dX12_steps_171 : decode cX12_steps 171 = .ok (.iload 8, 2) := by decide +kernel
theorem dX12_steps_173 : decode cX12_steps 173 = .ok (.iload 5, 2) := by decide +kernel
theorem dX12_steps_175 : decode cX12_steps 175 = .ok (.invokevirtual 408, 3) := by decide +kernel
theorem dX12_steps_178 : decode cX12_steps 178 = .ok (.ifCond .eq 6, 3) := by decide +kernel
theorem dX12_steps_181 : decode cX12_steps 181 = .ok (.goto 45, 3) := by decide +kernel
theorem dX12_steps_184 : decode cX12_steps 184 = .ok (.aload_n 0, 1) := by decide +kernel
theorem dX12_steps_185 : decode cX12_steps 185 = .ok (.iload_n 1, 1) := by decide +kernel
theorem dX12_steps_186 : decode cX12_steps 186 = .ok (.iload 8, 2) := by decide +kernel
theorem dX12_steps_188 : decode cX12_steps 188 = .ok (.iload 5, 2) := by decide +kernel
theorem dX12_steps_190 : decode cX12_steps 190 = .ok (.invokevirtual 412, 3) := by decide +kernel
theorem dX12_steps_193 : decode cX12_steps 193 = .ok (.iload 6, 2) := by decide +kernel
theorem dX12_steps_195 : decode cX12_steps 195 = .ok (.iconst 3, 1) := by decide +kernel
theorem dX12_steps_196 : decode cX12_steps 196 = .ok (.if_icmp .le 17, 3) := by decide +kernel
theorem dX12_steps_199 : decode cX12_steps 199 = .ok (.aload_n 0, 1) := by decide +kernel
theorem dX12_steps_200 : decode cX12_steps 200 = .ok (.iload_n 1, 1) := by decide +kernel
theorem dX12_steps_201 : decode cX12_steps 201 = .ok (.iload_n 2, 1) := by decide +kernel
theorem dX12_steps_202 : decode cX12_steps 202 = .ok (.iload 5, 2) := by decide +kernel
theorem dX12_steps_204 : decode cX12_steps 204 = .ok (.invokevirtual 408, 3) := by decide +kernel
theorem dX12_steps_207 : decode cX12_steps 207 = .ok (.ifCond .ne 6, 3) := by decide +kernel
theorem dX12_steps_210 : decode cX12_steps 210 = .ok (.iconst 3, 1) := by decide +kernel
theorem dX12_steps_211 : decode cX12_steps 211 = .ok (.istore 6, 2) := by decide +kernel
theorem dX12_steps_213 : decode cX12_steps 213 = .ok (.aload_n 0, 1) := by decide +kernel
theorem dX12_steps_214 : decode cX12_steps 214 = .ok (.getfield 7, 3) := by decide +kernel
theorem dX12_steps_217 : decode cX12_steps 217 = .ok (.iload_n 3, 1) := by decide +kernel
theorem dX12_steps_218 : decode cX12_steps 218 = .ok (.bipush 8, 2) := by decide +kernel
theorem dX12_steps_220 : decode cX12_steps 220 = .ok (.iadd, 1) := by decide +kernel
theorem dX12_steps_221 : decode cX12_steps 221 = .ok (.dup2, 1) := by decide +kernel
theorem dX12_steps_222 : decode cX12_steps 222 = .ok (.iaload, 1) := by decide +kernel
theorem dX12_steps_223 : decode cX12_steps 223 = .ok (.iconst 1, 1) := by decide +kernel
theorem dX12_steps_224 : decode cX12_steps 224 = .ok (.isub, 1) := by decide +kernel
theorem dX12_steps_225 : decode cX12_steps 225 = .ok (.iastore, 1) := by decide +kernel
theorem dX12_steps_226 : decode cX12_steps 226 = .ok (.iinc 8 1, 3) := by decide +kernel
theorem dX12_steps_229 : decode cX12_steps 229 = .ok (.goto (-75), 3) := by decide +kernel
theorem dX12_steps_232 : decode cX12_steps 232 = .ok (.aload_n 0, 1) := by decide +kernel
theorem dX12_steps_233 : decode cX12_steps 233 = .ok (.getfield 7, 3) := by decide +kernel
theorem dX12_steps_236 : decode cX12_steps 236 = .ok (.iload_n 3, 1) := by decide +kernel
theorem dX12_steps_237 : decode cX12_steps 237 = .ok (.bipush 8, 2) := by decide +kernel
theorem dX12_steps_239 : decode cX12_steps 239 = .ok (.iadd, 1) := by decide +kernel
theorem dX12_steps_240 : decode cX12_steps 240 = .ok (.iload 4, 2) := by decide +kernel
theorem dX12_steps_242 : decode cX12_steps 242 = .ok (.iastore, 1) := by decide +kernel
theorem dX12_steps_243 : decode cX12_steps 243 = .ok (.iinc 7 1, 3) := by decide +kernel
theorem dX12_steps_246 : decode cX12_steps 246 = .ok (.goto (-154), 3) := by decide +kernel
theorem dX12_steps_249 : decode cX12_steps 249 = .ok (.aload_n 0, 1) := by decide +kernel
theorem dX12_steps_250 : decode cX12_steps 250 = .ok (.iload 6, 2) := by decide +kernel
theorem dX12_steps_252 : decode cX12_steps 252 = .ok (.bipush 9, 2) := by decide +kernel
theorem dX12_steps_254 : decode cX12_steps 254 = .ok (.if_icmp .ne 7, 3) := by decide +kernel
theorem dX12_steps_257 : decode cX12_steps 257 = .ok (.iconst 2, 1) := by decide +kernel
theorem dX12_steps_258 : decode cX12_steps 258 = .ok (.goto 4, 3) := by decide +kernel
theorem dX12_steps_261 : decode cX12_steps 261 = .ok (.iconst 0, 1) := by decide +kernel
theorem dX12_steps_262 : decode cX12_steps 262 = .ok (.putfield 166, 3) := by decide +kernel
theorem dX12_steps_265 : decode cX12_steps 265 = .ok (.aload_n 0, 1) := by decide +kernel
theorem dX12_steps_266 : decode cX12_steps 266 = .ok (.getfield 166, 3) := by decide +kernel
theorem dX12_steps_269 : decode cX12_steps 269 = .ok (.ifCond .le 7, 3) := by decide +kernel
theorem dX12_steps_272 : decode cX12_steps 272 = .ok (.iconst 0, 1) := by decide +kernel
theorem dX12_steps_273 : decode cX12_steps 273 = .ok (.goto 5, 3) := by decide +kernel
theorem dX12_steps_276 : decode cX12_steps 276 = .ok (.iload 6, 2) := by decide +kernel
theorem dX12_steps_278 : decode cX12_steps 278 = .ok (.ireturn, 1) := by decide +kernel
abbrev M_X12_steps : aM := (yX12_steps.cls, cX12_steps, 9, (some .int), [], yX12_steps.name == "<init>")
abbrev J_X12_steps (l : Launch) (E : aE) (n0 m0 : Nat) := GG (fun (v : Int32) => .inl (some (.int v))) l E M_X12_steps 5 114 n0 m0
theorem b_X12_steps {l : Launch} {E : aE} (hl : l.stackTraces = false) (n0 m0 : Nat) (x1 : Nat) (x2 : Int32) (x3 : Int32) (h0 : aH) : J_X12_steps l E n0 m0 0 [(0, .ref (e_z E + x1)), (1, .int x2), (2, .int x3)] [] h0 (m_X12_steps x1 x2 x3 h0) := by
  unfold m_X12_steps
  refine g_aload_n (pc := 0) dX12_steps_0 0 rfl ?_
  refine g_aload_n (pc := 1) dX12_steps_1 0 rfl ?_
  refine g_iload_n (pc := 2) dX12_steps_2 1 rfl ?_
  refine g_gS (fun hs => ?_)
  refine g_bRi (pc := 3) (c_V cl12 hs (p_X12_isPager hl x1 x2 h0) y_X12_isPager tw1996 dX12_steps_3 rfl (st := [.ref (e_z E + x1)]) rfl (Nat.le_of_ble_eq_true rfl) (Nat.le_of_ble_eq_true rfl) (Nat.le_of_ble_eq_true rfl)) (fun x4 h1 => ?_)
  refine g_join (fun k => ∀ (x5 : Int32) (h2 : aH), J_X12_steps l E n0 m0 22 [(0, .ref (e_z E + x1)), (1, .int x2), (2, .int x3)] [.int x5, .ref (e_z E + x1)] h2 (k x5 h2)) (fun x5 h2 => ?_) (fun k22 hk22 => ?_)
  · refine g_puti (pc := 22) cl12 (Nat.le_of_ble_eq_true rfl) (Or.inl ⟨rfl, fk1551⟩) (fun _ _ _ => rfl) (fun _ => ⟨rfl, rfl⟩) dX12_steps_22 (fun h3 => ?_)
    refine g_aload_n (pc := 25) dX12_steps_25 0 rfl ?_
    refine g_geti (pc := 26) cl12 (Nat.le_of_ble_eq_true rfl) fk1551 (fun _ _ _ => rfl) dX12_steps_26 (fun x6 => ?_)
    refine g_join (fun k => ∀ (h4 : aH), J_X12_steps l E n0 m0 41 [] [] h4 (k h4)) (fun h4 => ?_) (fun k41 hk41 => ?_)
    · refine g_iconst (pc := 41) dX12_steps_41 ci_0 ?_
      exact g_ret (pc := 42) rfl (isRet_i _) dX12_steps_42 rfl
    refine g_ifgt (pc := 29) (tgt := 41) dX12_steps_29 rfl ?_ ?_
    · refine g_aload_n (pc := 32) dX12_steps_32 0 rfl ?_
      refine g_iload_n (pc := 33) dX12_steps_33 1 rfl ?_
      refine g_gS (fun hs => ?_)
      refine g_bRi (pc := 34) (c_V cl12 hs (p_X12_holder hl x1 x2 h3) y_X12_holder tw2053 dX12_steps_34 rfl (st := []) rfl (Nat.le_of_ble_eq_true rfl) (Nat.le_of_ble_eq_true rfl) (Nat.le_of_ble_eq_true rfl)) (fun x7 h5 => ?_)
      refine g_iload_n (pc := 37) dX12_steps_37 2 rfl ?_
      refine g_icmpne (pc := 38) (tgt := 43) dX12_steps_38 rfl ?_ ?_
      · refine g_lv [] rfl ?_
        exact hk41 h5
      · refine g_sipush (pc := 43) dX12_steps_43 cs_194 ?_
        refine g_bipush (pc := 46) dX12_steps_46 cb_15 ?_
        refine g_iload_n (pc := 48) dX12_steps_48 1 rfl ?_
        refine g_imul (pc := 49) dX12_steps_49 ?_
        refine g_iadd (pc := 50) dX12_steps_50 ?_
        refine g_topi (fun x8 => ?_)
        refine g_istore_n (pc := 51) (lv' := [(3, .int x8), (0, .ref (e_z E + x1)), (1, .int x2), (2, .int x3)]) dX12_steps_51 (Nat.le_of_ble_eq_true rfl) rfl ?_
        refine g_aload_n (pc := 52) dX12_steps_52 1 rfl ?_
        refine g_getr (pc := 53) cl12 (Nat.le_of_ble_eq_true rfl) fk1552 (fun _ _ _ => rfl) dX12_steps_53 (fun x9 => ?_)
        refine g_iload_n (pc := 56) dX12_steps_56 0 rfl ?_
        refine g_bipush (pc := 57) dX12_steps_57 cb_8 ?_
        refine g_iadd (pc := 59) dX12_steps_59 ?_
        refine g_iald (pc := 60) dX12_steps_60 (fun x10 => ?_)
        refine g_istore (pc := 61) (lv' := [(4, .int x10), (3, .int x8), (0, .ref (e_z E + x1)), (1, .int x2), (2, .int x3)]) dX12_steps_61 (Nat.le_of_ble_eq_true rfl) rfl ?_
        refine g_aload_n (pc := 63) dX12_steps_63 2 rfl ?_
        refine g_iload_n (pc := 64) dX12_steps_64 3 rfl ?_
        refine g_gS (fun hs => ?_)
        refine g_bRi (pc := 65) (c_V cl12 hs (p_X12_endOf hl x1 x2 h5) y_X12_endOf tw2024 dX12_steps_65 rfl (st := []) rfl (Nat.le_of_ble_eq_true rfl) (Nat.le_of_ble_eq_true rfl) (Nat.le_of_ble_eq_true rfl)) (fun x11 h6 => ?_)
        refine g_istore (pc := 68) (lv' := [(5, .int x11), (4, .int x10), (3, .int x8), (0, .ref (e_z E + x1)), (1, .int x2), (2, .int x3)]) dX12_steps_68 (Nat.le_of_ble_eq_true rfl) rfl ?_
        refine g_aload_n (pc := 70) dX12_steps_70 3 rfl ?_
        refine g_iload_n (pc := 71) dX12_steps_71 4 rfl ?_
        refine g_iload_n (pc := 72) dX12_steps_72 5 rfl ?_
        refine g_iload (pc := 73) dX12_steps_73 0 rfl ?_
        refine g_gS (fun hs => ?_)
        refine g_bRi (pc := 75) (c_V cl12 hs (p_X12_against hl x1 x2 x3 x11 h6) y_X12_against tw2049 dX12_steps_75 rfl (st := []) rfl (Nat.le_of_ble_eq_true rfl) (Nat.le_of_ble_eq_true rfl) (Nat.le_of_ble_eq_true rfl)) (fun x12 h7 => ?_)
        refine g_join (fun k => ∀ (x13 : Int32) (h8 : aH), J_X12_steps l E n0 m0 87 [(0, .ref (e_z E + x1)), (1, .int x2), (2, .int x3), (3, .int x8), (4, .int x10), (5, .int x11)] [.int x13] h8 (k x13 h8)) (fun x13 h8 => ?_) (fun k87 hk87 => ?_)
        · refine g_istore (pc := 87) (lv' := [(6, .int x13), (0, .ref (e_z E + x1)), (1, .int x2), (2, .int x3), (3, .int x8), (4, .int x10), (5, .int x11)]) dX12_steps_87 (Nat.le_of_ble_eq_true rfl) rfl ?_
          refine g_iconst (pc := 89) dX12_steps_89 ci_0 ?_
          refine g_istore (pc := 90) (lv' := [(7, .int (0 : Int32)), (6, .int x13), (0, .ref (e_z E + x1)), (1, .int x2), (2, .int x3), (3, .int x8), (4, .int x10), (5, .int x11)]) dX12_steps_90 (Nat.le_of_ble_eq_true rfl) rfl ?_
          refine g_join (fun k => ∀ (x14 : Int32) (h9 : aH), J_X12_steps l E n0 m0 249 [(0, .ref (e_z E + x1)), (6, .int x14)] [] h9 (k x14 h9)) (fun x14 h9 => ?_) (fun k249 hk249 => ?_)
          · refine g_aload_n (pc := 249) dX12_steps_249 0 rfl ?_
            refine g_iload (pc := 250) dX12_steps_250 1 rfl ?_
            refine g_bipush (pc := 252) dX12_steps_252 cb_9 ?_
            refine g_join (fun k => ∀ (x15 : Int32) (h10 : aH), J_X12_steps l E n0 m0 262 [(0, .ref (e_z E + x1)), (6, .int x14)] [.int x15, .ref (e_z E + x1)] h10 (k x15 h10)) (fun x15 h10 => ?_) (fun k262 hk262 => ?_)
            · refine g_puti (pc := 262) cl12 (Nat.le_of_ble_eq_true rfl) (Or.inl ⟨rfl, fk1551⟩) (fun _ _ _ => rfl) (fun _ => ⟨rfl, rfl⟩) dX12_steps_262 (fun h11 => ?_)
              refine g_aload_n (pc := 265) dX12_steps_265 0 rfl ?_
              refine g_geti (pc := 266) cl12 (Nat.le_of_ble_eq_true rfl) fk1551 (fun _ _ _ => rfl) dX12_steps_266 (fun x16 => ?_)
              refine g_join (fun k => ∀ (x17 : Int32) (h12 : aH), J_X12_steps l E n0 m0 278 [] [.int x17] h12 (k x17 h12)) (fun x17 h12 => ?_) (fun k278 hk278 => ?_)
              · exact g_ret (pc := 278) rfl (isRet_i _) dX12_steps_278 rfl
              refine g_ifle (pc := 269) (tgt := 276) dX12_steps_269 rfl ?_ ?_
              · refine g_iload (pc := 276) dX12_steps_276 1 rfl ?_
                refine g_lv [] rfl ?_
                exact hk278 x14 h11
              · refine g_iconst (pc := 272) dX12_steps_272 ci_0 ?_
                refine g_goto (pc := 273) (tgt := 278) dX12_steps_273 rfl ?_
                refine g_lv [] rfl ?_
                exact hk278 (0 : Int32) h11
            refine g_icmpne (pc := 254) (tgt := 261) dX12_steps_254 rfl ?_ ?_
            · refine g_iconst (pc := 257) dX12_steps_257 ci_2 ?_
              refine g_goto (pc := 258) (tgt := 262) dX12_steps_258 rfl ?_
              exact hk262 (2 : Int32) h9
            · refine g_iconst (pc := 261) dX12_steps_261 ci_0 ?_
              exact hk262 (0 : Int32) h9
          refine g_lv [2, 3, 4, 5, 6, 7, 1, 0] rfl ?_
          refine g_loop2 (F := (m_X12_steps_L92 x1 x2 x3 x8 x10 x11 k249)) (fun x18 x19 => [(0, .ref (e_z E + x1)), (1, .int x2), (2, .int x3), (3, .int x8), (4, .int x10), (5, .int x11), (6, .int x18), (7, .int x19)]) (fun r92 hr92 x18 x19 h13 => ?_) _ _ _ _
          unfold m_X12_steps_L92
          refine g_iload (pc := 92) dX12_steps_92 7 rfl ?_
          refine g_aload_n (pc := 94) dX12_steps_94 0 rfl ?_
          refine g_geti (pc := 95) cl12 (Nat.le_of_ble_eq_true rfl) fk1559 (fun _ _ _ => rfl) dX12_steps_95 (fun x20 => ?_)
          refine g_icmpge (pc := 98) (tgt := 249) dX12_steps_98 rfl ?_ ?_
          · refine g_iload (pc := 101) dX12_steps_101 6 rfl ?_
            refine g_iconst (pc := 103) dX12_steps_103 ci_1 ?_
            refine g_icmple (pc := 104) (tgt := 249) dX12_steps_104 rfl ?_ ?_
            · refine g_lv [0, 6] rfl ?_
              exact hk249 x18 h13
            · refine g_aload_n (pc := 107) dX12_steps_107 0 rfl ?_
              refine g_iload_n (pc := 108) dX12_steps_108 1 rfl ?_
              refine g_iload (pc := 109) dX12_steps_109 7 rfl ?_
              refine g_iload (pc := 111) dX12_steps_111 5 rfl ?_
              refine g_gS (fun hs => ?_)
              refine g_bRi (pc := 113) (c_V cl12 hs (p_X12_against hl x1 x2 x19 x11 h13) y_X12_against tw2049 dX12_steps_113 rfl (st := []) rfl (Nat.le_of_ble_eq_true rfl) (Nat.le_of_ble_eq_true rfl) (Nat.le_of_ble_eq_true rfl)) (fun x21 h14 => ?_)
              refine g_join (fun k => ∀ (x22 : Int32) (h15 : aH), J_X12_steps l E n0 m0 243 [(0, .ref (e_z E + x1)), (1, .int x2), (2, .int x3), (3, .int x8), (4, .int x10), (5, .int x11), (6, .int x22), (7, .int x19)] [] h15 (k x22 h15)) (fun x22 h15 => ?_) (fun k243 hk243 => ?_)
              · refine g_iincN (pc := 243) dX12_steps_243 7 rfl ci_1 (Nat.le_of_ble_eq_true rfl) (fun x23 => ?_)
                refine g_lvr (lv' := [(7, .int x23), (0, .ref (e_z E + x1)), (1, .int x2), (2, .int x3), (3, .int x8), (4, .int x10), (5, .int x11), (6, .int x22)]) rfl ?_
                refine g_goto (pc := 246) (tgt := 92) dX12_steps_246 rfl ?_
                refine g_lv [1, 2, 3, 4, 5, 6, 7, 0] rfl ?_
                exact hr92 x22 x23 h15
              refine g_ifeq (pc := 116) (tgt := 122) dX12_steps_116 rfl ?_ ?_
              · refine g_aload_n (pc := 122) dX12_steps_122 0 rfl ?_
                refine g_iload_n (pc := 123) dX12_steps_123 1 rfl ?_
                refine g_iload (pc := 124) dX12_steps_124 7 rfl ?_
                refine g_iload (pc := 126) dX12_steps_126 5 rfl ?_
                refine g_gS (fun hs => ?_)
                refine g_bRv (pc := 128) (c_V cl12 hs (p_X12_hands_ hl x1 x2 x19 x11 h14) y_X12_hands_ tw2061 dX12_steps_128 rfl (st := []) rfl (Nat.le_of_ble_eq_true rfl) (Nat.le_of_ble_eq_true rfl) (Nat.le_of_ble_eq_true rfl)) (fun _ h16 => ?_)
                refine g_iload (pc := 131) dX12_steps_131 6 rfl ?_
                refine g_iconst (pc := 133) dX12_steps_133 ci_2 ?_
                refine g_join (fun k => ∀ (x24 : Int32) (h17 : aH), J_X12_steps l E n0 m0 151 [(0, .ref (e_z E + x1)), (1, .int x2), (2, .int x3), (3, .int x8), (4, .int x10), (5, .int x11), (6, .int x24), (7, .int x19)] [] h17 (k x24 h17)) (fun x24 h17 => ?_) (fun k151 hk151 => ?_)
                · refine g_iconst (pc := 151) dX12_steps_151 ci_0 ?_
                  refine g_istore (pc := 152) (lv' := [(8, .int (0 : Int32)), (0, .ref (e_z E + x1)), (1, .int x2), (2, .int x3), (3, .int x8), (4, .int x10), (5, .int x11), (6, .int x24), (7, .int x19)]) dX12_steps_152 (Nat.le_of_ble_eq_true rfl) rfl ?_
                  refine g_join (fun k => ∀ (x25 : Int32) (h18 : aH), J_X12_steps l E n0 m0 232 [(0, .ref (e_z E + x1)), (1, .int x2), (2, .int x3), (3, .int x8), (4, .int x10), (5, .int x11), (6, .int x25), (7, .int x19)] [] h18 (k x25 h18)) (fun x25 h18 => ?_) (fun k232 hk232 => ?_)
                  · refine g_aload_n (pc := 232) dX12_steps_232 0 rfl ?_
                    refine g_getr (pc := 233) cl12 (Nat.le_of_ble_eq_true rfl) fk1552 (fun _ _ _ => rfl) dX12_steps_233 (fun x26 => ?_)
                    refine g_iload_n (pc := 236) dX12_steps_236 3 rfl ?_
                    refine g_bipush (pc := 237) dX12_steps_237 cb_8 ?_
                    refine g_iadd (pc := 239) dX12_steps_239 ?_
                    refine g_iload (pc := 240) dX12_steps_240 4 rfl ?_
                    refine g_iast (pc := 242) dX12_steps_242 (fun h19 => ?_)
                    exact hk243 x25 h19
                  refine g_lv [1, 2, 3, 4, 5, 6, 7, 8, 0] rfl ?_
                  refine g_loop2 (F := (m_X12_steps_L154 x1 x2 x3 x8 x11 k232)) (fun x27 x28 => [(0, .ref (e_z E + x1)), (1, .int x2), (2, .int x3), (3, .int x8), (4, .int x10), (5, .int x11), (6, .int x27), (7, .int x19), (8, .int x28)]) (fun r154 hr154 x27 x28 h20 => ?_) _ _ _ _
                  unfold m_X12_steps_L154
                  refine g_iload (pc := 154) dX12_steps_154 8 rfl ?_
                  refine g_aload_n (pc := 156) dX12_steps_156 0 rfl ?_
                  refine g_geti (pc := 157) cl12 (Nat.le_of_ble_eq_true rfl) fk1559 (fun _ _ _ => rfl) dX12_steps_157 (fun x29 => ?_)
                  refine g_icmpge (pc := 160) (tgt := 232) dX12_steps_160 rfl ?_ ?_
                  · refine g_iload (pc := 163) dX12_steps_163 6 rfl ?_
                    refine g_iconst (pc := 165) dX12_steps_165 ci_2 ?_
                    refine g_icmple (pc := 166) (tgt := 232) dX12_steps_166 rfl ?_ ?_
                    · refine g_lv [0, 1, 2, 3, 4, 5, 6, 7] rfl ?_
                      exact hk232 x27 h20
                    · refine g_aload_n (pc := 169) dX12_steps_169 0 rfl ?_
                      refine g_iload_n (pc := 170) dX12_steps_170 1 rfl ?_
                      refine g_iload (pc := 171) dX12_steps_171 8 rfl ?_
                      refine g_iload (pc := 173) dX12_steps_173 5 rfl ?_
                      refine g_gS (fun hs => ?_)
                      refine g_bRi (pc := 175) (c_V cl12 hs (p_X12_against hl x1 x2 x28 x11 h20) y_X12_against tw2049 dX12_steps_175 rfl (st := []) rfl (Nat.le_of_ble_eq_true rfl) (Nat.le_of_ble_eq_true rfl) (Nat.le_of_ble_eq_true rfl)) (fun x30 h21 => ?_)
                      refine g_join (fun k => ∀ (x31 : Int32) (h22 : aH), J_X12_steps l E n0 m0 226 [(0, .ref (e_z E + x1)), (1, .int x2), (2, .int x3), (3, .int x8), (4, .int x10), (5, .int x11), (6, .int x31), (7, .int x19), (8, .int x28)] [] h22 (k x31 h22)) (fun x31 h22 => ?_) (fun k226 hk226 => ?_)
                      · refine g_iincN (pc := 226) dX12_steps_226 8 rfl ci_1 (Nat.le_of_ble_eq_true rfl) (fun x32 => ?_)
                        refine g_lvr (lv' := [(8, .int x32), (0, .ref (e_z E + x1)), (1, .int x2), (2, .int x3), (3, .int x8), (4, .int x10), (5, .int x11), (6, .int x31), (7, .int x19)]) rfl ?_
                        refine g_goto (pc := 229) (tgt := 154) dX12_steps_229 rfl ?_
                        refine g_lv [1, 2, 3, 4, 5, 6, 7, 8, 0] rfl ?_
                        exact hr154 x31 x32 h22
                      refine g_ifeq (pc := 178) (tgt := 184) dX12_steps_178 rfl ?_ ?_
                      · refine g_aload_n (pc := 184) dX12_steps_184 0 rfl ?_
                        refine g_iload_n (pc := 185) dX12_steps_185 1 rfl ?_
                        refine g_iload (pc := 186) dX12_steps_186 8 rfl ?_
                        refine g_iload (pc := 188) dX12_steps_188 5 rfl ?_
                        refine g_gS (fun hs => ?_)
                        refine g_bRv (pc := 190) (c_V cl12 hs (p_X12_hands_ hl x1 x2 x28 x11 h21) y_X12_hands_ tw2061 dX12_steps_190 rfl (st := []) rfl (Nat.le_of_ble_eq_true rfl) (Nat.le_of_ble_eq_true rfl) (Nat.le_of_ble_eq_true rfl)) (fun _ h23 => ?_)
                        refine g_iload (pc := 193) dX12_steps_193 6 rfl ?_
                        refine g_iconst (pc := 195) dX12_steps_195 ci_3 ?_
                        refine g_join (fun k => ∀ (x33 : Int32) (h24 : aH), J_X12_steps l E n0 m0 213 [(0, .ref (e_z E + x1)), (1, .int x2), (2, .int x3), (3, .int x8), (4, .int x10), (5, .int x11), (6, .int x33), (7, .int x19), (8, .int x28)] [] h24 (k x33 h24)) (fun x33 h24 => ?_) (fun k213 hk213 => ?_)
                        · refine g_aload_n (pc := 213) dX12_steps_213 0 rfl ?_
                          refine g_getr (pc := 214) cl12 (Nat.le_of_ble_eq_true rfl) fk1552 (fun _ _ _ => rfl) dX12_steps_214 (fun x34 => ?_)
                          refine g_iload_n (pc := 217) dX12_steps_217 3 rfl ?_
                          refine g_bipush (pc := 218) dX12_steps_218 cb_8 ?_
                          refine g_iadd (pc := 220) dX12_steps_220 ?_
                          refine g_topi (fun x35 => ?_)
                          refine g_dup2 (pc := 221) rfl rfl dX12_steps_221 ?_
                          refine g_iald (pc := 222) dX12_steps_222 (fun x36 => ?_)
                          refine g_iconst (pc := 223) dX12_steps_223 ci_1 ?_
                          refine g_isub (pc := 224) dX12_steps_224 ?_
                          refine g_iast (pc := 225) dX12_steps_225 (fun h25 => ?_)
                          exact hk226 x33 h25
                        refine g_icmple (pc := 196) (tgt := 213) dX12_steps_196 rfl ?_ ?_
                        · exact hk213 x27 h23
                        · refine g_aload_n (pc := 199) dX12_steps_199 0 rfl ?_
                          refine g_iload_n (pc := 200) dX12_steps_200 1 rfl ?_
                          refine g_iload_n (pc := 201) dX12_steps_201 2 rfl ?_
                          refine g_iload (pc := 202) dX12_steps_202 5 rfl ?_
                          refine g_gS (fun hs => ?_)
                          refine g_bRi (pc := 204) (c_V cl12 hs (p_X12_against hl x1 x2 x3 x11 h23) y_X12_against tw2049 dX12_steps_204 rfl (st := []) rfl (Nat.le_of_ble_eq_true rfl) (Nat.le_of_ble_eq_true rfl) (Nat.le_of_ble_eq_true rfl)) (fun x37 h26 => ?_)
                          refine g_ifne (pc := 207) (tgt := 213) dX12_steps_207 rfl ?_ ?_
                          · refine g_iconst (pc := 210) dX12_steps_210 ci_3 ?_
                            refine g_istore (pc := 211) (lv' := [(6, .int (3 : Int32)), (0, .ref (e_z E + x1)), (1, .int x2), (2, .int x3), (3, .int x8), (4, .int x10), (5, .int x11), (7, .int x19), (8, .int x28)]) dX12_steps_211 (Nat.le_of_ble_eq_true rfl) rfl ?_
                            refine g_lv [1, 2, 3, 4, 5, 6, 0, 7, 8] rfl ?_
                            exact hk213 (3 : Int32) h26
                          · exact hk213 x27 h26
                      · refine g_goto (pc := 181) (tgt := 226) dX12_steps_181 rfl ?_
                        exact hk226 x27 h21
                  · refine g_lv [0, 1, 2, 3, 4, 5, 6, 7] rfl ?_
                    exact hk232 x27 h20
                refine g_icmple (pc := 134) (tgt := 151) dX12_steps_134 rfl ?_ ?_
                · exact hk151 x18 h16
                · refine g_aload_n (pc := 137) dX12_steps_137 0 rfl ?_
                  refine g_iload_n (pc := 138) dX12_steps_138 1 rfl ?_
                  refine g_iload_n (pc := 139) dX12_steps_139 2 rfl ?_
                  refine g_iload (pc := 140) dX12_steps_140 5 rfl ?_
                  refine g_gS (fun hs => ?_)
                  refine g_bRi (pc := 142) (c_V cl12 hs (p_X12_against hl x1 x2 x3 x11 h16) y_X12_against tw2049 dX12_steps_142 rfl (st := []) rfl (Nat.le_of_ble_eq_true rfl) (Nat.le_of_ble_eq_true rfl) (Nat.le_of_ble_eq_true rfl)) (fun x38 h27 => ?_)
                  refine g_ifne (pc := 145) (tgt := 151) dX12_steps_145 rfl ?_ ?_
                  · refine g_iconst (pc := 148) dX12_steps_148 ci_2 ?_
                    refine g_istore (pc := 149) (lv' := [(6, .int (2 : Int32)), (0, .ref (e_z E + x1)), (1, .int x2), (2, .int x3), (3, .int x8), (4, .int x10), (5, .int x11), (7, .int x19)]) dX12_steps_149 (Nat.le_of_ble_eq_true rfl) rfl ?_
                    refine g_lv [1, 2, 3, 4, 5, 6, 0, 7] rfl ?_
                    exact hk151 (2 : Int32) h27
                  · exact hk151 x18 h27
              · refine g_goto (pc := 119) (tgt := 243) dX12_steps_119 rfl ?_
                exact hk243 x18 h14
          · refine g_lv [0, 6] rfl ?_
            exact hk249 x18 h13
        refine g_ifne (pc := 78) (tgt := 85) dX12_steps_78 rfl ?_ ?_
        · refine g_iconst (pc := 81) dX12_steps_81 ci_1 ?_
          refine g_goto (pc := 82) (tgt := 87) dX12_steps_82 rfl ?_
          refine g_lv [3, 4, 5, 2, 1, 0] rfl ?_
          exact hk87 (1 : Int32) h7
        · refine g_bipush (pc := 85) dX12_steps_85 cb_9 ?_
          refine g_lv [3, 4, 5, 2, 1, 0] rfl ?_
          exact hk87 (9 : Int32) h7
    · refine g_lv [] rfl ?_
      exact hk41 h3
  refine g_join (fun k => ∀ (h28 : aH), J_X12_steps l E n0 m0 21 [(0, .ref (e_z E + x1)), (1, .int x2), (2, .int x3)] [.ref (e_z E + x1)] h28 (k h28)) (fun h28 => ?_) (fun k21 hk21 => ?_)
  · refine g_iconst (pc := 21) dX12_steps_21 ci_1 ?_
    exact hk22 (1 : Int32) h28
  refine g_ifeq (pc := 6) (tgt := 21) dX12_steps_6 rfl ?_ ?_
  · exact hk21 h1
  · refine g_aload_n (pc := 9) dX12_steps_9 0 rfl ?_
    refine g_iload_n (pc := 10) dX12_steps_10 2 rfl ?_
    refine g_gS (fun hs => ?_)
    refine g_bRi (pc := 11) (c_V cl12 hs (p_X12_isPerson hl x1 x3 h1) y_X12_isPerson tw1927 dX12_steps_11 rfl (st := [.ref (e_z E + x1)]) rfl (Nat.le_of_ble_eq_true rfl) (Nat.le_of_ble_eq_true rfl) (Nat.le_of_ble_eq_true rfl)) (fun x39 h29 => ?_)
    refine g_ifeq (pc := 14) (tgt := 21) dX12_steps_14 rfl ?_ ?_
    · exact hk21 h29
    · refine g_iconst (pc := 17) dX12_steps_17 ci_0 ?_
      refine g_goto (pc := 18) (tgt := 22) dX12_steps_18 rfl ?_
      exact hk22 (0 : Int32) h29
theorem p_X12_steps {l : Launch} {E : aE} (hl : l.stackTraces = false) (x1 : Nat) (x2 : Int32) (x3 : Int32) (h0 : aH) : MO (fun (v : Int32) => .inl (some (.int v))) l E yX12_steps (.code yX12_steps cX12_steps 9 (some .int)) 5 114 [.ref (e_z E + x1), .int x2, .int x3] h0 (m_X12_steps x1 x2 x3 h0) := g_met hl (by decide +kernel) (Nat.le_of_ble_eq_true rfl) (b_X12_steps hl _ _ x1 x2 x3 h0)
theorem dX12_many_0 : decode cX12_many 0 = .ok (.iconst 0, 1) := by decide +kernel
theorem dX12_many_1 : decode cX12_many 1 = .ok (.istore_n 1, 1) := by decide +kernel
theorem dX12_many_2 : decode cX12_many 2 = .ok (.iconst 0, 1) := by decide +kernel
theorem dX12_many_3 : decode cX12_many 3 = .ok (.istore_n 2, 1) := by decide +kernel
theorem dX12_many_4 : decode cX12_many 4 = .ok (.iload_n 2, 1) := by decide +kernel
theorem dX12_many_5 : decode cX12_many 5 = .ok (.bipush 12, 2) := by decide +kernel
theorem dX12_many_7 : decode cX12_many 7 = .ok (.if_icmp .ge 17, 3) := by decide +kernel
theorem dX12_many_10 : decode cX12_many 10 = .ok (.iload_n 1, 1) := by decide +kernel
theorem dX12_many_11 : decode cX12_many 11 = .ok (.iload_n 0, 1) := by decide +kernel
theorem dX12_many_12 : decode cX12_many 12 = .ok (.iload_n 2, 1) := by decide +kernel
theorem dX12_many_13 : decode cX12_many 13 = .ok (.ishr, 1) := by decide +kernel
theorem dX12_many_14 : decode cX12_many 14 = .ok (.iconst 1, 1) := by decide +kernel
theorem dX12_many_15 : decode cX12_many 15 = .ok (.iand, 1) := by decide +kernel
theorem dX12_many_16 : decode cX12_many 16 = .ok (.iadd, 1) := by decide +kernel
theorem dX12_many_17 : decode cX12_many 17 = .ok (.istore_n 1, 1) := by decide +kernel
theorem dX12_many_18 : decode cX12_many 18 = .ok (.iinc 2 1, 3) := by decide +kernel
theorem dX12_many_21 : decode cX12_many 21 = .ok (.goto (-17), 3) := by decide +kernel
theorem dX12_many_24 : decode cX12_many 24 = .ok (.iload_n 1, 1) := by decide +kernel
theorem dX12_many_25 : decode cX12_many 25 = .ok (.ireturn, 1) := by decide +kernel
abbrev M_X12_many : aM := (yX12_many.cls, cX12_many, 3, (some .int), [], yX12_many.name == "<init>")
abbrev J_X12_many (l : Launch) (E : aE) (n0 m0 : Nat) := GG (fun (v : Int32) => .inl (some (.int v))) l E M_X12_many 0 0 n0 m0
theorem b_X12_many {l : Launch} {E : aE} (hl : l.stackTraces = false) (n0 m0 : Nat) (x1 : Int32) (h0 : aH) : J_X12_many l E n0 m0 0 [(0, .int x1)] [] h0 (m_X12_many x1 h0) := by
  unfold m_X12_many
  refine g_iconst (pc := 0) dX12_many_0 ci_0 ?_
  refine g_istore_n (pc := 1) (lv' := [(1, .int (0 : Int32)), (0, .int x1)]) dX12_many_1 (Nat.le_of_ble_eq_true rfl) rfl ?_
  refine g_iconst (pc := 2) dX12_many_2 ci_0 ?_
  refine g_istore_n (pc := 3) (lv' := [(2, .int (0 : Int32)), (1, .int (0 : Int32)), (0, .int x1)]) dX12_many_3 (Nat.le_of_ble_eq_true rfl) rfl ?_
  refine g_join (fun k => ∀ (x2 : Int32) (h1 : aH), J_X12_many l E n0 m0 24 [(1, .int x2)] [] h1 (k x2 h1)) (fun x2 h1 => ?_) (fun k24 hk24 => ?_)
  · refine g_iload_n (pc := 24) dX12_many_24 0 rfl ?_
    exact g_ret (pc := 25) rfl (isRet_i _) dX12_many_25 rfl
  refine g_lv [2, 1, 0] rfl ?_
  refine g_loop2 (F := (m_X12_many_L4 x1 k24)) (fun x3 x4 => [(0, .int x1), (1, .int x3), (2, .int x4)]) (fun r4 hr4 x3 x4 h2 => ?_) _ _ _ _
  unfold m_X12_many_L4
  refine g_iload_n (pc := 4) dX12_many_4 2 rfl ?_
  refine g_bipush (pc := 5) dX12_many_5 cb_12 ?_
  refine g_icmpge (pc := 7) (tgt := 24) dX12_many_7 rfl ?_ ?_
  · refine g_iload_n (pc := 10) dX12_many_10 1 rfl ?_
    refine g_iload_n (pc := 11) dX12_many_11 0 rfl ?_
    refine g_iload_n (pc := 12) dX12_many_12 2 rfl ?_
    refine g_ishr (pc := 13) dX12_many_13 ?_
    refine g_iconst (pc := 14) dX12_many_14 ci_1 ?_
    refine g_iand (pc := 15) dX12_many_15 ?_
    refine g_iadd (pc := 16) dX12_many_16 ?_
    refine g_topi (fun x5 => ?_)
    refine g_istore_n (pc := 17) (lv' := [(1, .int x5), (0, .int x1), (2, .int x4)]) dX12_many_17 (Nat.le_of_ble_eq_true rfl) rfl ?_
    refine g_iincN (pc := 18) dX12_many_18 2 rfl ci_1 (Nat.le_of_ble_eq_true rfl) (fun x6 => ?_)
    refine g_lvr (lv' := [(2, .int x6), (1, .int x5), (0, .int x1)]) rfl ?_
    refine g_goto (pc := 21) (tgt := 4) dX12_many_21 rfl ?_
    refine g_lv [2, 1, 0] rfl ?_
    exact hr4 x5 x6 h2
  · refine g_lv [1] rfl ?_
    exact hk24 x3 h2
theorem p_X12_many {l : Launch} {E : aE} (hl : l.stackTraces = false) (x1 : Int32) (h0 : aH) : MO (fun (v : Int32) => .inl (some (.int v))) l E yX12_many (.code yX12_many cX12_many 3 (some .int)) 0 0 [.int x1] h0 (m_X12_many x1 h0) := g_met hl (by decide +kernel) (Nat.le_of_ble_eq_true rfl) (b_X12_many hl _ _ x1 h0)
theorem dX12_fits_0 : decode cX12_fits 0 = .ok (.aload_n 0, 1) := by decide +kernel
theorem dX12_fits_1 : decode cX12_fits 1 = .ok (.getfield 54, 3) := by decide +kernel
theorem dX12_fits_4 : decode cX12_fits 4 = .ok (.bipush 6, 2) := by decide +kernel
theorem dX12_fits_6 : decode cX12_fits 6 = .ok (.iload_n 2, 1) := by decide +kernel
theorem dX12_fits_7 : decode cX12_fits 7 = .ok (.imul, 1) := by decide +kernel
theorem dX12_fits_8 : decode cX12_fits 8 = .ok (.iload_n 3, 1) := by decide +kernel
theorem dX12_fits_9 : decode cX12_fits 9 = .ok (.iadd, 1) := by decide +kernel
theorem dX12_fits_10 : decode cX12_fits 10 = .ok (.iaload, 1) := by decide +kernel
theorem dX12_fits_11 : decode cX12_fits 11 = .ok (.istore 4, 2) := by decide +kernel
theorem dX12_fits_13 : decode cX12_fits 13 = .ok (.iload 4, 2) := by decide +kernel
theorem dX12_fits_15 : decode cX12_fits 15 = .ok (.ifCond .eq 15, 3) := by decide +kernel
theorem dX12_fits_18 : decode cX12_fits 18 = .ok (.aload_n 0, 1) := by decide +kernel
theorem dX12_fits_19 : decode cX12_fits 19 = .ok (.getfield 36, 3) := by decide +kernel
theorem dX12_fits_22 : decode cX12_fits 22 = .ok (.iload_n 1, 1) := by decide +kernel
theorem dX12_fits_23 : decode cX12_fits 23 = .ok (.iaload, 1) := by decide +kernel
theorem dX12_fits_24 : decode cX12_fits 24 = .ok (.iload 4, 2) := by decide +kernel
theorem dX12_fits_26 : decode cX12_fits 26 = .ok (.iand, 1) := by decide +kernel
theorem dX12_fits_27 : decode cX12_fits 27 = .ok (.ifCond .eq 7, 3) := by decide +kernel
theorem dX12_fits_30 : decode cX12_fits 30 = .ok (.iconst 1, 1) := by decide +kernel
theorem dX12_fits_31 : decode cX12_fits 31 = .ok (.goto 4, 3) := by decide +kernel
theorem dX12_fits_34 : decode cX12_fits 34 = .ok (.iconst 0, 1) := by decide +kernel
theorem dX12_fits_35 : decode cX12_fits 35 = .ok (.ireturn, 1) := by decide +kernel
abbrev M_X12_fits : aM := (yX12_fits.cls, cX12_fits, 5, (some .boolean), [], yX12_fits.name == "<init>")
abbrev J_X12_fits (l : Launch) (E : aE) (n0 m0 : Nat) := GG (fun (v : Int32) => .inl (some (.int v))) l E M_X12_fits 0 0 n0 m0
theorem b_X12_fits {l : Launch} {E : aE} (hl : l.stackTraces = false) (n0 m0 : Nat) (x1 : Nat) (x2 : Int32) (x3 : Int32) (x4 : Int32) (h0 : aH) : J_X12_fits l E n0 m0 0 [(0, .ref (e_z E + x1)), (1, .int x2), (2, .int x3), (3, .int x4)] [] h0 (m_X12_fits x1 x2 x3 x4 h0) := by
  unfold m_X12_fits
  refine g_aload_n (pc := 0) dX12_fits_0 0 rfl ?_
  refine g_getr (pc := 1) cl12 (Nat.le_of_ble_eq_true rfl) fk1571 (fun _ _ _ => rfl) dX12_fits_1 (fun x5 => ?_)
  refine g_bipush (pc := 4) dX12_fits_4 cb_6 ?_
  refine g_iload_n (pc := 6) dX12_fits_6 2 rfl ?_
  refine g_imul (pc := 7) dX12_fits_7 ?_
  refine g_iload_n (pc := 8) dX12_fits_8 3 rfl ?_
  refine g_iadd (pc := 9) dX12_fits_9 ?_
  refine g_iald (pc := 10) dX12_fits_10 (fun x6 => ?_)
  refine g_istore (pc := 11) (lv' := [(4, .int x6), (0, .ref (e_z E + x1)), (1, .int x2), (2, .int x3), (3, .int x4)]) dX12_fits_11 (Nat.le_of_ble_eq_true rfl) rfl ?_
  refine g_iload (pc := 13) dX12_fits_13 0 rfl ?_
  refine g_join (fun k => ∀ (x7 : Int32) (h1 : aH), J_X12_fits l E n0 m0 35 [] [.int x7] h1 (k x7 h1)) (fun x7 h1 => ?_) (fun k35 hk35 => ?_)
  · refine g_zO (fun hz => ?_)
    exact g_ret (pc := 35) rfl (isRet_z hz) dX12_fits_35 rfl
  refine g_join (fun k => ∀ (h2 : aH), J_X12_fits l E n0 m0 30 [] [] h2 (k h2)) (fun h2 => ?_) (fun k30 hk30 => ?_)
  · refine g_iconst (pc := 30) dX12_fits_30 ci_1 ?_
    refine g_goto (pc := 31) (tgt := 35) dX12_fits_31 rfl ?_
    exact hk35 (1 : Int32) h2
  refine g_ifeq (pc := 15) (tgt := 30) dX12_fits_15 rfl ?_ ?_
  · refine g_lv [] rfl ?_
    exact hk30 h0
  · refine g_aload_n (pc := 18) dX12_fits_18 1 rfl ?_
    refine g_getr (pc := 19) cl12 (Nat.le_of_ble_eq_true rfl) fk1565 (fun _ _ _ => rfl) dX12_fits_19 (fun x9 => ?_)
    refine g_iload_n (pc := 22) dX12_fits_22 2 rfl ?_
    refine g_iald (pc := 23) dX12_fits_23 (fun x10 => ?_)
    refine g_iload (pc := 24) dX12_fits_24 0 rfl ?_
    refine g_iand (pc := 26) dX12_fits_26 ?_
    refine g_ifeq (pc := 27) (tgt := 34) dX12_fits_27 rfl ?_ ?_
    · refine g_iconst (pc := 34) dX12_fits_34 ci_0 ?_
      refine g_lv [] rfl ?_
      exact hk35 (0 : Int32) h0
    · refine g_lv [] rfl ?_
      exact hk30 h0
theorem p_X12_fits {l : Launch} {E : aE} (hl : l.stackTraces = false) (x1 : Nat) (x2 : Int32) (x3 : Int32) (x4 : Int32) (h0 : aH) : MO (fun (v : Int32) => .inl (some (.int v))) l E yX12_fits (.code yX12_fits cX12_fits 5 (some .boolean)) 0 0 [.ref (e_z E + x1), .int x2, .int x3, .int x4] h0 (m_X12_fits x1 x2 x3 x4 h0) := g_met hl (by decide +kernel) (Nat.le_of_ble_eq_true rfl) (b_X12_fits hl _ _ x1 x2 x3 x4 h0)
theorem dX12_absent_0 : decode cX12_absent 0 = .ok (.iconst 0, 1) := by decide +kernel
theorem dX12_absent_1 : decode cX12_absent 1 = .ok (.istore_n 3, 1) := by decide +kernel
theorem dX12_absent_2 : decode cX12_absent 2 = .ok (.iconst 0, 1) := by decide +kernel
theorem dX12_absent_3 : decode cX12_absent 3 = .ok (.istore 4, 2) := by decide +kernel
theorem dX12_absent_5 : decode cX12_absent 5 = .ok (.iload 4, 2) := by decide +kernel
theorem dX12_absent_7 : decode cX12_absent 7 = .ok (.aload_n 0, 1) := by decide +kernel
theorem dX12_absent_8 : decode cX12_absent 8 = .ok (.getfield 66, 3) := by decide +kernel
theorem dX12_absent_11 : decode cX12_absent 11 = .ok (.iload_n 1, 1) := by decide +kernel
theorem dX12_absent_12 : decode cX12_absent 12 = .ok (.iaload, 1) := by decide +kernel
theorem dX12_absent_13 : decode cX12_absent 13 = .ok (.if_icmp .ge 37, 3) := by decide +kernel
theorem dX12_absent_16 : decode cX12_absent 16 = .ok (.iload_n 3, 1) := by decide +kernel
theorem dX12_absent_17 : decode cX12_absent 17 = .ok (.aload_n 0, 1) := by decide +kernel
theorem dX12_absent_18 : decode cX12_absent 18 = .ok (.aload_n 0, 1) := by decide +kernel
theorem dX12_absent_19 : decode cX12_absent 19 = .ok (.getfield 69, 3) := by decide +kernel
theorem dX12_absent_22 : decode cX12_absent 22 = .ok (.bipush 6, 2) := by decide +kernel
theorem dX12_absent_24 : decode cX12_absent 24 = .ok (.iload_n 1, 1) := by decide +kernel
theorem dX12_absent_25 : decode cX12_absent 25 = .ok (.imul, 1) := by decide +kernel
theorem dX12_absent_26 : decode cX12_absent 26 = .ok (.iload 4, 2) := by decide +kernel
theorem dX12_absent_28 : decode cX12_absent 28 = .ok (.iadd, 1) := by decide +kernel
theorem dX12_absent_29 : decode cX12_absent 29 = .ok (.iaload, 1) := by decide +kernel
theorem dX12_absent_30 : decode cX12_absent 30 = .ok (.invokevirtual 394, 3) := by decide +kernel
theorem dX12_absent_33 : decode cX12_absent 33 = .ok (.iload_n 2, 1) := by decide +kernel
theorem dX12_absent_34 : decode cX12_absent 34 = .ok (.if_icmp .ne 7, 3) := by decide +kernel
theorem dX12_absent_37 : decode cX12_absent 37 = .ok (.iconst 1, 1) := by decide +kernel
theorem dX12_absent_38 : decode cX12_absent 38 = .ok (.goto 4, 3) := by decide +kernel
theorem dX12_absent_41 : decode cX12_absent 41 = .ok (.iconst 0, 1) := by decide +kernel
theorem dX12_absent_42 : decode cX12_absent 42 = .ok (.ior, 1) := by decide +kernel
theorem dX12_absent_43 : decode cX12_absent 43 = .ok (.istore_n 3, 1) := by decide +kernel
theorem dX12_absent_44 : decode cX12_absent 44 = .ok (.iinc 4 1, 3) := by decide +kernel
theorem dX12_absent_47 : decode cX12_absent 47 = .ok (.goto (-42), 3) := by decide +kernel
theorem dX12_absent_50 : decode cX12_absent 50 = .ok (.iload_n 3, 1) := by decide +kernel
theorem dX12_absent_51 : decode cX12_absent 51 = .ok (.ifCond .ne 7, 3) := by decide +kernel
theorem dX12_absent_54 : decode cX12_absent 54 = .ok (.iconst 1, 1) := by decide +kernel
theorem dX12_absent_55 : decode cX12_absent 55 = .ok (.goto 62, 3) := by decide +kernel
theorem dX12_absent_58 : decode cX12_absent 58 = .ok (.aload_n 0, 1) := by decide +kernel
theorem dX12_absent_59 : decode cX12_absent 59 = .ok (.getfield 7, 3) := by decide +kernel
theorem dX12_absent_62 : decode cX12_absent 62 = .ok (.bipush 26, 2) := by decide +kernel
theorem dX12_absent_64 : decode cX12_absent 64 = .ok (.iload_n 2, 1) := by decide +kernel
theorem dX12_absent_65 : decode cX12_absent 65 = .ok (.iadd, 1) := by decide +kernel
theorem dX12_absent_66 : decode cX12_absent 66 = .ok (.iaload, 1) := by decide +kernel
theorem dX12_absent_67 : decode cX12_absent 67 = .ok (.ifCond .eq 7, 3) := by decide +kernel
theorem dX12_absent_70 : decode cX12_absent 70 = .ok (.iconst 2, 1) := by decide +kernel
theorem dX12_absent_71 : decode cX12_absent 71 = .ok (.goto 46, 3) := by decide +kernel
theorem dX12_absent_74 : decode cX12_absent 74 = .ok (.aload_n 0, 1) := by decide +kernel
theorem dX12_absent_75 : decode cX12_absent 75 = .ok (.iload_n 2, 1) := by decide +kernel
theorem dX12_absent_76 : decode cX12_absent 76 = .ok (.invokevirtual 356, 3) := by decide +kernel
theorem dX12_absent_79 : decode cX12_absent 79 = .ok (.ifCond .eq 7, 3) := by decide +kernel
theorem dX12_absent_82 : decode cX12_absent 82 = .ok (.iconst 3, 1) := by decide +kernel
theorem dX12_absent_83 : decode cX12_absent 83 = .ok (.goto 34, 3) := by decide +kernel
theorem dX12_absent_86 : decode cX12_absent 86 = .ok (.aload_n 0, 1) := by decide +kernel
theorem dX12_absent_87 : decode cX12_absent 87 = .ok (.iload_n 2, 1) := by decide +kernel
theorem dX12_absent_88 : decode cX12_absent 88 = .ok (.invokevirtual 371, 3) := by decide +kernel
theorem dX12_absent_91 : decode cX12_absent 91 = .ok (.ifCond .eq 7, 3) := by decide +kernel
theorem dX12_absent_94 : decode cX12_absent 94 = .ok (.iconst 4, 1) := by decide +kernel
theorem dX12_absent_95 : decode cX12_absent 95 = .ok (.goto 22, 3) := by decide +kernel
theorem dX12_absent_98 : decode cX12_absent 98 = .ok (.aload_n 0, 1) := by decide +kernel
theorem dX12_absent_99 : decode cX12_absent 99 = .ok (.iload_n 2, 1) := by decide +kernel
theorem dX12_absent_100 : decode cX12_absent 100 = .ok (.invokevirtual 374, 3) := by decide +kernel
theorem dX12_absent_103 : decode cX12_absent 103 = .ok (.aload_n 0, 1) := by decide +kernel
theorem dX12_absent_104 : decode cX12_absent 104 = .ok (.getfield 60, 3) := by decide +kernel
theorem dX12_absent_107 : decode cX12_absent 107 = .ok (.iload_n 1, 1) := by decide +kernel
theorem dX12_absent_108 : decode cX12_absent 108 = .ok (.iaload, 1) := by decide +kernel
theorem dX12_absent_109 : decode cX12_absent 109 = .ok (.if_icmp .le 7, 3) := by decide +kernel
theorem dX12_absent_112 : decode cX12_absent 112 = .ok (.iconst 5, 1) := by decide +kernel
theorem dX12_absent_113 : decode cX12_absent 113 = .ok (.goto 4, 3) := by decide +kernel
theorem dX12_absent_116 : decode cX12_absent 116 = .ok (.iconst 0, 1) := by decide +kernel
theorem dX12_absent_117 : decode cX12_absent 117 = .ok (.ireturn, 1) := by decide +kernel
abbrev M_X12_absent : aM := (yX12_absent.cls, cX12_absent, 5, (some .int), [], yX12_absent.name == "<init>")
abbrev J_X12_absent (l : Launch) (E : aE) (n0 m0 : Nat) := GG (fun (v : Int32) => .inl (some (.int v))) l E M_X12_absent 4 87 n0 m0
theorem b_X12_absent {l : Launch} {E : aE} (hl : l.stackTraces = false) (n0 m0 : Nat) (x1 : Nat) (x2 : Int32) (x3 : Int32) (h0 : aH) : J_X12_absent l E n0 m0 0 [(0, .ref (e_z E + x1)), (1, .int x2), (2, .int x3)] [] h0 (m_X12_absent x1 x2 x3 h0) := by
  unfold m_X12_absent
  refine g_iconst (pc := 0) dX12_absent_0 ci_0 ?_
  refine g_istore_n (pc := 1) (lv' := [(3, .int (0 : Int32)), (0, .ref (e_z E + x1)), (1, .int x2), (2, .int x3)]) dX12_absent_1 (Nat.le_of_ble_eq_true rfl) rfl ?_
  refine g_iconst (pc := 2) dX12_absent_2 ci_0 ?_
  refine g_istore (pc := 3) (lv' := [(4, .int (0 : Int32)), (3, .int (0 : Int32)), (0, .ref (e_z E + x1)), (1, .int x2), (2, .int x3)]) dX12_absent_3 (Nat.le_of_ble_eq_true rfl) rfl ?_
  refine g_join (fun k => ∀ (x4 : Int32) (h1 : aH), J_X12_absent l E n0 m0 50 [(0, .ref (e_z E + x1)), (1, .int x2), (2, .int x3), (3, .int x4)] [] h1 (k x4 h1)) (fun x4 h1 => ?_) (fun k50 hk50 => ?_)
  · refine g_iload_n (pc := 50) dX12_absent_50 3 rfl ?_
    refine g_join (fun k => ∀ (x5 : Int32) (h2 : aH), J_X12_absent l E n0 m0 117 [] [.int x5] h2 (k x5 h2)) (fun x5 h2 => ?_) (fun k117 hk117 => ?_)
    · exact g_ret (pc := 117) rfl (isRet_i _) dX12_absent_117 rfl
    refine g_ifne (pc := 51) (tgt := 58) dX12_absent_51 rfl ?_ ?_
    · refine g_iconst (pc := 54) dX12_absent_54 ci_1 ?_
      refine g_goto (pc := 55) (tgt := 117) dX12_absent_55 rfl ?_
      refine g_lv [] rfl ?_
      exact hk117 (1 : Int32) h1
    · refine g_aload_n (pc := 58) dX12_absent_58 0 rfl ?_
      refine g_getr (pc := 59) cl12 (Nat.le_of_ble_eq_true rfl) fk1552 (fun _ _ _ => rfl) dX12_absent_59 (fun x6 => ?_)
      refine g_bipush (pc := 62) dX12_absent_62 cb_26 ?_
      refine g_iload_n (pc := 64) dX12_absent_64 2 rfl ?_
      refine g_iadd (pc := 65) dX12_absent_65 ?_
      refine g_iald (pc := 66) dX12_absent_66 (fun x7 => ?_)
      refine g_ifeq (pc := 67) (tgt := 74) dX12_absent_67 rfl ?_ ?_
      · refine g_aload_n (pc := 74) dX12_absent_74 0 rfl ?_
        refine g_iload_n (pc := 75) dX12_absent_75 2 rfl ?_
        refine g_gS (fun hs => ?_)
        refine g_bRi (pc := 76) (c_V cl12 hs (p_X12_isOut hl x1 x3 h1) y_X12_isOut tw1931 dX12_absent_76 rfl (st := []) rfl (Nat.le_of_ble_eq_true rfl) (Nat.le_of_ble_eq_true rfl) (Nat.le_of_ble_eq_true rfl)) (fun x8 h3 => ?_)
        refine g_ifeq (pc := 79) (tgt := 86) dX12_absent_79 rfl ?_ ?_
        · refine g_aload_n (pc := 86) dX12_absent_86 0 rfl ?_
          refine g_iload_n (pc := 87) dX12_absent_87 2 rfl ?_
          refine g_gS (fun hs => ?_)
          refine g_bRi (pc := 88) (c_V cl12 hs (p_X12_isTired hl x1 x3 h3) y_X12_isTired tw1964 dX12_absent_88 rfl (st := []) rfl (Nat.le_of_ble_eq_true rfl) (Nat.le_of_ble_eq_true rfl) (Nat.le_of_ble_eq_true rfl)) (fun x9 h4 => ?_)
          refine g_ifeq (pc := 91) (tgt := 98) dX12_absent_91 rfl ?_ ?_
          · refine g_aload_n (pc := 98) dX12_absent_98 0 rfl ?_
            refine g_iload_n (pc := 99) dX12_absent_99 2 rfl ?_
            refine g_gS (fun hs => ?_)
            refine g_bRi (pc := 100) (c_V cl12 hs (p_X12_arrivalOf hl x1 x3 h4) y_X12_arrivalOf tw1972 dX12_absent_100 rfl (st := []) rfl (Nat.le_of_ble_eq_true rfl) (Nat.le_of_ble_eq_true rfl) (Nat.le_of_ble_eq_true rfl)) (fun x10 h5 => ?_)
            refine g_aload_n (pc := 103) dX12_absent_103 0 rfl ?_
            refine g_getr (pc := 104) cl12 (Nat.le_of_ble_eq_true rfl) fk1573 (fun _ _ _ => rfl) dX12_absent_104 (fun x11 => ?_)
            refine g_iload_n (pc := 107) dX12_absent_107 1 rfl ?_
            refine g_iald (pc := 108) dX12_absent_108 (fun x12 => ?_)
            refine g_icmple (pc := 109) (tgt := 116) dX12_absent_109 rfl ?_ ?_
            · refine g_iconst (pc := 116) dX12_absent_116 ci_0 ?_
              refine g_lv [] rfl ?_
              exact hk117 (0 : Int32) h5
            · refine g_iconst (pc := 112) dX12_absent_112 ci_5 ?_
              refine g_goto (pc := 113) (tgt := 117) dX12_absent_113 rfl ?_
              refine g_lv [] rfl ?_
              exact hk117 (5 : Int32) h5
          · refine g_iconst (pc := 94) dX12_absent_94 ci_4 ?_
            refine g_goto (pc := 95) (tgt := 117) dX12_absent_95 rfl ?_
            refine g_lv [] rfl ?_
            exact hk117 (4 : Int32) h4
        · refine g_iconst (pc := 82) dX12_absent_82 ci_3 ?_
          refine g_goto (pc := 83) (tgt := 117) dX12_absent_83 rfl ?_
          refine g_lv [] rfl ?_
          exact hk117 (3 : Int32) h3
      · refine g_iconst (pc := 70) dX12_absent_70 ci_2 ?_
        refine g_goto (pc := 71) (tgt := 117) dX12_absent_71 rfl ?_
        refine g_lv [] rfl ?_
        exact hk117 (2 : Int32) h1
  refine g_lv [2, 3, 4, 1, 0] rfl ?_
  refine g_loop2 (F := (m_X12_absent_L5 x1 x2 x3 k50)) (fun x13 x14 => [(0, .ref (e_z E + x1)), (1, .int x2), (2, .int x3), (3, .int x13), (4, .int x14)]) (fun r5 hr5 x13 x14 h6 => ?_) _ _ _ _
  unfold m_X12_absent_L5
  refine g_iload (pc := 5) dX12_absent_5 4 rfl ?_
  refine g_aload_n (pc := 7) dX12_absent_7 0 rfl ?_
  refine g_getr (pc := 8) cl12 (Nat.le_of_ble_eq_true rfl) fk1575 (fun _ _ _ => rfl) dX12_absent_8 (fun x15 => ?_)
  refine g_iload_n (pc := 11) dX12_absent_11 1 rfl ?_
  refine g_iald (pc := 12) dX12_absent_12 (fun x16 => ?_)
  refine g_icmpge (pc := 13) (tgt := 50) dX12_absent_13 rfl ?_ ?_
  · refine g_iload_n (pc := 16) dX12_absent_16 3 rfl ?_
    refine g_aload_n (pc := 17) dX12_absent_17 0 rfl ?_
    refine g_aload_n (pc := 18) dX12_absent_18 0 rfl ?_
    refine g_getr (pc := 19) cl12 (Nat.le_of_ble_eq_true rfl) fk1576 (fun _ _ _ => rfl) dX12_absent_19 (fun x17 => ?_)
    refine g_bipush (pc := 22) dX12_absent_22 cb_6 ?_
    refine g_iload_n (pc := 24) dX12_absent_24 1 rfl ?_
    refine g_imul (pc := 25) dX12_absent_25 ?_
    refine g_iload (pc := 26) dX12_absent_26 4 rfl ?_
    refine g_iadd (pc := 28) dX12_absent_28 ?_
    refine g_iald (pc := 29) dX12_absent_29 (fun x18 => ?_)
    refine g_gS (fun hs => ?_)
    refine g_bRi (pc := 30) (c_V cl12 hs (p_X12_holder hl x1 x18 h6) y_X12_holder tw2053 dX12_absent_30 rfl (st := [.int x13]) rfl (Nat.le_of_ble_eq_true rfl) (Nat.le_of_ble_eq_true rfl) (Nat.le_of_ble_eq_true rfl)) (fun x19 h7 => ?_)
    refine g_iload_n (pc := 33) dX12_absent_33 2 rfl ?_
    refine g_join (fun k => ∀ (x20 : Int32) (h8 : aH), J_X12_absent l E n0 m0 42 [(0, .ref (e_z E + x1)), (1, .int x2), (2, .int x3), (4, .int x14)] [.int x20, .int x13] h8 (k x20 h8)) (fun x20 h8 => ?_) (fun k42 hk42 => ?_)
    · refine g_ior (pc := 42) dX12_absent_42 ?_
      refine g_topi (fun x21 => ?_)
      refine g_istore_n (pc := 43) (lv' := [(3, .int x21), (0, .ref (e_z E + x1)), (1, .int x2), (2, .int x3), (4, .int x14)]) dX12_absent_43 (Nat.le_of_ble_eq_true rfl) rfl ?_
      refine g_iincN (pc := 44) dX12_absent_44 4 rfl ci_1 (Nat.le_of_ble_eq_true rfl) (fun x22 => ?_)
      refine g_lvr (lv' := [(4, .int x22), (3, .int x21), (0, .ref (e_z E + x1)), (1, .int x2), (2, .int x3)]) rfl ?_
      refine g_goto (pc := 47) (tgt := 5) dX12_absent_47 rfl ?_
      refine g_lv [2, 3, 4, 1, 0] rfl ?_
      exact hr5 x21 x22 h8
    refine g_icmpne (pc := 34) (tgt := 41) dX12_absent_34 rfl ?_ ?_
    · refine g_iconst (pc := 37) dX12_absent_37 ci_1 ?_
      refine g_goto (pc := 38) (tgt := 42) dX12_absent_38 rfl ?_
      refine g_lv [0, 1, 2, 4] rfl ?_
      exact hk42 (1 : Int32) h7
    · refine g_iconst (pc := 41) dX12_absent_41 ci_0 ?_
      refine g_lv [0, 1, 2, 4] rfl ?_
      exact hk42 (0 : Int32) h7
  · refine g_lv [0, 1, 2, 3] rfl ?_
    exact hk50 x13 h6
theorem p_X12_absent {l : Launch} {E : aE} (hl : l.stackTraces = false) (x1 : Nat) (x2 : Int32) (x3 : Int32) (h0 : aH) : MO (fun (v : Int32) => .inl (some (.int v))) l E yX12_absent (.code yX12_absent cX12_absent 5 (some .int)) 4 87 [.ref (e_z E + x1), .int x2, .int x3] h0 (m_X12_absent x1 x2 x3 h0) := g_met hl (by decide +kernel) (Nat.le_of_ble_eq_true rfl) (b_X12_absent hl _ _ x1 x2 x3 h0)
theorem dX12_latest_0 : decode cX12_latest 0 = .ok (.iconst 0, 1) := by decide +kernel
theorem dX12_latest_1 : decode cX12_latest 1 = .ok (.istore_n 2, 1) := by decide +kernel
theorem dX12_latest_2 : decode cX12_latest 2 = .ok (.iconst 0, 1) := by decide +kernel
theorem dX12_latest_3 : decode cX12_latest 3 = .ok (.istore_n 3, 1) := by decide +kernel
theorem dX12_latest_4 : decode cX12_latest 4 = .ok (.iload_n 3, 1) := by decide +kernel
theorem dX12_latest_5 : decode cX12_latest 5 = .ok (.aload_n 0, 1) := by decide +kernel
theorem dX12_latest_6 : decode cX12_latest 6 = .ok (.getfield 325, 3) := by decide +kernel
theorem dX12_latest_9 : decode cX12_latest 9 = .ok (.if_icmp .ge 48, 3) := by decide +kernel
theorem dX12_latest_12 : decode cX12_latest 12 = .ok (.iload_n 1, 1) := by decide +kernel
theorem dX12_latest_13 : decode cX12_latest 13 = .ok (.iload_n 3, 1) := by decide +kernel
theorem dX12_latest_14 : decode cX12_latest 14 = .ok (.ishr, 1) := by decide +kernel
theorem dX12_latest_15 : decode cX12_latest 15 = .ok (.iconst 1, 1) := by decide +kernel
theorem dX12_latest_16 : decode cX12_latest 16 = .ok (.iand, 1) := by decide +kernel
theorem dX12_latest_17 : decode cX12_latest 17 = .ok (.ifCond .eq 16, 3) := by decide +kernel
theorem dX12_latest_20 : decode cX12_latest 20 = .ok (.aload_n 0, 1) := by decide +kernel
theorem dX12_latest_21 : decode cX12_latest 21 = .ok (.iload_n 3, 1) := by decide +kernel
theorem dX12_latest_22 : decode cX12_latest 22 = .ok (.invokevirtual 374, 3) := by decide +kernel
theorem dX12_latest_25 : decode cX12_latest 25 = .ok (.iload_n 2, 1) := by decide +kernel
theorem dX12_latest_26 : decode cX12_latest 26 = .ok (.if_icmp .le 7, 3) := by decide +kernel
theorem dX12_latest_29 : decode cX12_latest 29 = .ok (.iconst 1, 1) := by decide +kernel
theorem dX12_latest_30 : decode cX12_latest 30 = .ok (.goto 4, 3) := by decide +kernel
theorem dX12_latest_33 : decode cX12_latest 33 = .ok (.iconst 0, 1) := by decide +kernel
theorem dX12_latest_34 : decode cX12_latest 34 = .ok (.istore 4, 2) := by decide +kernel
theorem dX12_latest_36 : decode cX12_latest 36 = .ok (.iload 4, 2) := by decide +kernel
theorem dX12_latest_38 : decode cX12_latest 38 = .ok (.ifCond .eq 11, 3) := by decide +kernel
theorem dX12_latest_41 : decode cX12_latest 41 = .ok (.aload_n 0, 1) := by decide +kernel
theorem dX12_latest_42 : decode cX12_latest 42 = .ok (.iload_n 3, 1) := by decide +kernel
theorem dX12_latest_43 : decode cX12_latest 43 = .ok (.invokevirtual 374, 3) := by decide +kernel
theorem dX12_latest_46 : decode cX12_latest 46 = .ok (.goto 4, 3) := by decide +kernel
theorem dX12_latest_49 : decode cX12_latest 49 = .ok (.iload_n 2, 1) := by decide +kernel
theorem dX12_latest_50 : decode cX12_latest 50 = .ok (.istore_n 2, 1) := by decide +kernel
theorem dX12_latest_51 : decode cX12_latest 51 = .ok (.iinc 3 1, 3) := by decide +kernel
theorem dX12_latest_54 : decode cX12_latest 54 = .ok (.goto (-50), 3) := by decide +kernel
theorem dX12_latest_57 : decode cX12_latest 57 = .ok (.iload_n 2, 1) := by decide +kernel
theorem dX12_latest_58 : decode cX12_latest 58 = .ok (.ireturn, 1) := by decide +kernel
abbrev M_X12_latest : aM := (yX12_latest.cls, cX12_latest, 5, (some .int), [], yX12_latest.name == "<init>")
abbrev J_X12_latest (l : Launch) (E : aE) (n0 m0 : Nat) := GG (fun (v : Int32) => .inl (some (.int v))) l E M_X12_latest 2 43 n0 m0
theorem b_X12_latest {l : Launch} {E : aE} (hl : l.stackTraces = false) (n0 m0 : Nat) (x1 : Nat) (x2 : Int32) (h0 : aH) : J_X12_latest l E n0 m0 0 [(0, .ref (e_z E + x1)), (1, .int x2)] [] h0 (m_X12_latest x1 x2 h0) := by
  unfold m_X12_latest
  refine g_iconst (pc := 0) dX12_latest_0 ci_0 ?_
  refine g_istore_n (pc := 1) (lv' := [(2, .int (0 : Int32)), (0, .ref (e_z E + x1)), (1, .int x2)]) dX12_latest_1 (Nat.le_of_ble_eq_true rfl) rfl ?_
  refine g_iconst (pc := 2) dX12_latest_2 ci_0 ?_
  refine g_istore_n (pc := 3) (lv' := [(3, .int (0 : Int32)), (2, .int (0 : Int32)), (0, .ref (e_z E + x1)), (1, .int x2)]) dX12_latest_3 (Nat.le_of_ble_eq_true rfl) rfl ?_
  refine g_join (fun k => ∀ (x3 : Int32) (h1 : aH), J_X12_latest l E n0 m0 57 [(2, .int x3)] [] h1 (k x3 h1)) (fun x3 h1 => ?_) (fun k57 hk57 => ?_)
  · refine g_iload_n (pc := 57) dX12_latest_57 0 rfl ?_
    exact g_ret (pc := 58) rfl (isRet_i _) dX12_latest_58 rfl
  refine g_lv [2, 3, 1, 0] rfl ?_
  refine g_loop2 (F := (m_X12_latest_L4 x1 x2 k57)) (fun x4 x5 => [(0, .ref (e_z E + x1)), (1, .int x2), (2, .int x4), (3, .int x5)]) (fun r4 hr4 x4 x5 h2 => ?_) _ _ _ _
  unfold m_X12_latest_L4
  refine g_iload_n (pc := 4) dX12_latest_4 3 rfl ?_
  refine g_aload_n (pc := 5) dX12_latest_5 0 rfl ?_
  refine g_geti (pc := 6) cl12 (Nat.le_of_ble_eq_true rfl) fk1559 (fun _ _ _ => rfl) dX12_latest_6 (fun x6 => ?_)
  refine g_icmpge (pc := 9) (tgt := 57) dX12_latest_9 rfl ?_ ?_
  · refine g_iload_n (pc := 12) dX12_latest_12 1 rfl ?_
    refine g_iload_n (pc := 13) dX12_latest_13 3 rfl ?_
    refine g_ishr (pc := 14) dX12_latest_14 ?_
    refine g_iconst (pc := 15) dX12_latest_15 ci_1 ?_
    refine g_iand (pc := 16) dX12_latest_16 ?_
    refine g_join (fun k => ∀ (x7 : Int32) (h3 : aH), J_X12_latest l E n0 m0 34 [(0, .ref (e_z E + x1)), (1, .int x2), (2, .int x4), (3, .int x5)] [.int x7] h3 (k x7 h3)) (fun x7 h3 => ?_) (fun k34 hk34 => ?_)
    · refine g_istore (pc := 34) (lv' := [(4, .int x7), (0, .ref (e_z E + x1)), (1, .int x2), (2, .int x4), (3, .int x5)]) dX12_latest_34 (Nat.le_of_ble_eq_true rfl) rfl ?_
      refine g_iload (pc := 36) dX12_latest_36 0 rfl ?_
      refine g_join (fun k => ∀ (x8 : Int32) (h4 : aH), J_X12_latest l E n0 m0 50 [(0, .ref (e_z E + x1)), (1, .int x2), (3, .int x5)] [.int x8] h4 (k x8 h4)) (fun x8 h4 => ?_) (fun k50 hk50 => ?_)
      · refine g_istore_n (pc := 50) (lv' := [(2, .int x8), (0, .ref (e_z E + x1)), (1, .int x2), (3, .int x5)]) dX12_latest_50 (Nat.le_of_ble_eq_true rfl) rfl ?_
        refine g_iincN (pc := 51) dX12_latest_51 3 rfl ci_1 (Nat.le_of_ble_eq_true rfl) (fun x9 => ?_)
        refine g_lvr (lv' := [(3, .int x9), (2, .int x8), (0, .ref (e_z E + x1)), (1, .int x2)]) rfl ?_
        refine g_goto (pc := 54) (tgt := 4) dX12_latest_54 rfl ?_
        refine g_lv [2, 3, 1, 0] rfl ?_
        exact hr4 x8 x9 h4
      refine g_ifeq (pc := 38) (tgt := 49) dX12_latest_38 rfl ?_ ?_
      · refine g_iload_n (pc := 49) dX12_latest_49 3 rfl ?_
        refine g_lv [1, 2, 4] rfl ?_
        exact hk50 x4 h3
      · refine g_aload_n (pc := 41) dX12_latest_41 1 rfl ?_
        refine g_iload_n (pc := 42) dX12_latest_42 4 rfl ?_
        refine g_gS (fun hs => ?_)
        refine g_bRi (pc := 43) (c_V cl12 hs (p_X12_arrivalOf hl x1 x5 h3) y_X12_arrivalOf tw1972 dX12_latest_43 rfl (st := []) rfl (Nat.le_of_ble_eq_true rfl) (Nat.le_of_ble_eq_true rfl) (Nat.le_of_ble_eq_true rfl)) (fun x10 h5 => ?_)
        refine g_goto (pc := 46) (tgt := 50) dX12_latest_46 rfl ?_
        refine g_lv [1, 2, 4] rfl ?_
        exact hk50 x10 h5
    refine g_join (fun k => ∀ (h6 : aH), J_X12_latest l E n0 m0 33 [(0, .ref (e_z E + x1)), (1, .int x2), (2, .int x4), (3, .int x5)] [] h6 (k h6)) (fun h6 => ?_) (fun k33 hk33 => ?_)
    · refine g_iconst (pc := 33) dX12_latest_33 ci_0 ?_
      exact hk34 (0 : Int32) h6
    refine g_ifeq (pc := 17) (tgt := 33) dX12_latest_17 rfl ?_ ?_
    · exact hk33 h2
    · refine g_aload_n (pc := 20) dX12_latest_20 0 rfl ?_
      refine g_iload_n (pc := 21) dX12_latest_21 3 rfl ?_
      refine g_gS (fun hs => ?_)
      refine g_bRi (pc := 22) (c_V cl12 hs (p_X12_arrivalOf hl x1 x5 h2) y_X12_arrivalOf tw1972 dX12_latest_22 rfl (st := []) rfl (Nat.le_of_ble_eq_true rfl) (Nat.le_of_ble_eq_true rfl) (Nat.le_of_ble_eq_true rfl)) (fun x11 h7 => ?_)
      refine g_iload_n (pc := 25) dX12_latest_25 2 rfl ?_
      refine g_icmple (pc := 26) (tgt := 33) dX12_latest_26 rfl ?_ ?_
      · exact hk33 h7
      · refine g_iconst (pc := 29) dX12_latest_29 ci_1 ?_
        refine g_goto (pc := 30) (tgt := 34) dX12_latest_30 rfl ?_
        exact hk34 (1 : Int32) h7
  · refine g_lv [2] rfl ?_
    exact hk57 x4 h2
theorem p_X12_latest {l : Launch} {E : aE} (hl : l.stackTraces = false) (x1 : Nat) (x2 : Int32) (h0 : aH) : MO (fun (v : Int32) => .inl (some (.int v))) l E yX12_latest (.code yX12_latest cX12_latest 5 (some .int)) 2 43 [.ref (e_z E + x1), .int x2] h0 (m_X12_latest x1 x2 h0) := g_met hl (by decide +kernel) (Nat.le_of_ble_eq_true rfl) (b_X12_latest hl _ _ x1 x2 h0)
