/-! proofs of methods -/
theorem dX12_newName_0 : decode cX12_newName 0 = .ok (.aload_n 0, 1) := by decide +kernel
theorem dX12_newName_1 : decode cX12_newName 1 = .ok (.invokevirtual 237, 3) := by decide +kernel
theorem dX12_newName_4 : decode cX12_newName 4 = .ok (.lstore_n 3, 1) := by decide +kernel
theorem dX12_newName_5 : decode cX12_newName 5 = .ok (.aload_n 0, 1) := by decide +kernel
theorem dX12_newName_6 : decode cX12_newName 6 = .ok (.getfield 180, 3) := by decide +kernel
theorem dX12_newName_9 : decode cX12_newName 9 = .ok (.ifCond .ne 22, 3) := by decide +kernel
theorem dX12_newName_12 : decode cX12_newName 12 = .ok (.aload_n 0, 1) := by decide +kernel
theorem dX12_newName_13 : decode cX12_newName 13 = .ok (.iload_n 1, 1) := by decide +kernel
theorem dX12_newName_14 : decode cX12_newName 14 = .ok (.iload_n 2, 1) := by decide +kernel
theorem dX12_newName_15 : decode cX12_newName 15 = .ok (.lload_n 3, 1) := by decide +kernel
theorem dX12_newName_16 : decode cX12_newName 16 = .ok (.invokevirtual 240, 3) := by decide +kernel
theorem dX12_newName_19 : decode cX12_newName 19 = .ok (.ifCond .lt 12, 3) := by decide +kernel
theorem dX12_newName_22 : decode cX12_newName 22 = .ok (.aload_n 0, 1) := by decide +kernel
theorem dX12_newName_23 : decode cX12_newName 23 = .ok (.iconst 3, 1) := by decide +kernel
theorem dX12_newName_24 : decode cX12_newName 24 = .ok (.aload_n 0, 1) := by decide +kernel
theorem dX12_newName_25 : decode cX12_newName 25 = .ok (.getfield 201, 3) := by decide +kernel
theorem dX12_newName_28 : decode cX12_newName 28 = .ok (.invokevirtual 220, 3) := by decide +kernel
theorem dX12_newName_31 : decode cX12_newName 31 = .ok (.aload_n 0, 1) := by decide +kernel
theorem dX12_newName_32 : decode cX12_newName 32 = .ok (.getfield 180, 3) := by decide +kernel
theorem dX12_newName_35 : decode cX12_newName 35 = .ok (.ifCond .ne 12, 3) := by decide +kernel
theorem dX12_newName_38 : decode cX12_newName 38 = .ok (.aload_n 0, 1) := by decide +kernel
theorem dX12_newName_39 : decode cX12_newName 39 = .ok (.getfield 88, 3) := by decide +kernel
theorem dX12_newName_42 : decode cX12_newName 42 = .ok (.iload_n 1, 1) := by decide +kernel
theorem dX12_newName_43 : decode cX12_newName 43 = .ok (.iload_n 2, 1) := by decide +kernel
theorem dX12_newName_44 : decode cX12_newName 44 = .ok (.iadd, 1) := by decide +kernel
theorem dX12_newName_45 : decode cX12_newName 45 = .ok (.lload_n 3, 1) := by decide +kernel
theorem dX12_newName_46 : decode cX12_newName 46 = .ok (.lastore, 1) := by decide +kernel
theorem dX12_newName_47 : decode cX12_newName 47 = .ok (.return_, 1) := by decide +kernel
abbrev M_X12_newName : aM := (yX12_newName.cls, cX12_newName, 5, none, [], yX12_newName.name == "<init>")
abbrev J_X12_newName (l : Launch) (E : aE) (n0 m0 : Nat) := GG (fun (_ : Unit) => .inl none) l E M_X12_newName 4 89 n0 m0
theorem b_X12_newName {l : Launch} {E : aE} (hl : l.stackTraces = false) (n0 m0 : Nat) (x1 : Nat) (x2 : Int32) (x3 : Int32) (h0 : aH) : J_X12_newName l E n0 m0 0 [(0, .ref (e_z E + x1)), (1, .int x2), (2, .int x3)] [] h0 (m_X12_newName x1 x2 x3 h0) := by
  unfold m_X12_newName
  refine g_aload_n (pc := 0) dX12_newName_0 0 rfl ?_
  refine g_gS (fun hs => ?_)
  refine g_bRl (pc := 1) (c_V cl12 hs (p_X12_name hl x1 h0) y_X12_name tw1853 dX12_newName_1 rfl (st := []) rfl (Nat.le_of_ble_eq_true rfl) (Nat.le_of_ble_eq_true rfl) (Nat.le_of_ble_eq_true rfl)) (fun x4 h1 => ?_)
  refine g_lstore_n (pc := 4) (lv' := [(3, .long x4), (0, .ref (e_z E + x1)), (1, .int x2), (2, .int x3)]) dX12_newName_4 (Nat.le_of_ble_eq_true rfl) rfl ?_
  refine g_aload_n (pc := 5) dX12_newName_5 1 rfl ?_
  refine g_geti (pc := 6) cl12 (Nat.le_of_ble_eq_true rfl) fk1584 (fun _ _ _ => rfl) dX12_newName_6 (fun x5 => ?_)
  refine g_join (fun k => ∀ (h2 : aH), J_X12_newName l E n0 m0 31 [(0, .ref (e_z E + x1)), (1, .int x2), (2, .int x3), (3, .long x4)] [] h2 (k h2)) (fun h2 => ?_) (fun k31 hk31 => ?_)
  · refine g_aload_n (pc := 31) dX12_newName_31 0 rfl ?_
    refine g_geti (pc := 32) cl12 (Nat.le_of_ble_eq_true rfl) fk1584 (fun _ _ _ => rfl) dX12_newName_32 (fun x6 => ?_)
    refine g_join (fun k => ∀ (h3 : aH), J_X12_newName l E n0 m0 47 [] [] h3 (k h3)) (fun h3 => ?_) (fun k47 hk47 => ?_)
    · exact g_ret (pc := 47) rfl isRet_v dX12_newName_47 rfl
    refine g_ifne (pc := 35) (tgt := 47) dX12_newName_35 rfl ?_ ?_
    · refine g_aload_n (pc := 38) dX12_newName_38 0 rfl ?_
      refine g_getr (pc := 39) cl12 (Nat.le_of_ble_eq_true rfl) fk1595 (fun _ _ _ => rfl) dX12_newName_39 (fun x7 => ?_)
      refine g_iload_n (pc := 42) dX12_newName_42 1 rfl ?_
      refine g_iload_n (pc := 43) dX12_newName_43 2 rfl ?_
      refine g_iadd (pc := 44) dX12_newName_44 ?_
      refine g_lload_n (pc := 45) dX12_newName_45 3 rfl ?_
      refine g_last (pc := 46) dX12_newName_46 (fun h4 => ?_)
      refine g_lv [] rfl ?_
      exact hk47 h4
    · refine g_lv [] rfl ?_
      exact hk47 h2
  refine g_ifne (pc := 9) (tgt := 31) dX12_newName_9 rfl ?_ ?_
  · refine g_aload_n (pc := 12) dX12_newName_12 1 rfl ?_
    refine g_iload_n (pc := 13) dX12_newName_13 2 rfl ?_
    refine g_iload_n (pc := 14) dX12_newName_14 3 rfl ?_
    refine g_lload_n (pc := 15) dX12_newName_15 0 rfl ?_
    refine g_gS (fun hs => ?_)
    refine g_bRi (pc := 16) (c_V cl12 hs (p_X12_place hl x1 x2 x3 x4 h1) y_X12_place tw1857 dX12_newName_16 rfl (st := []) rfl (Nat.le_of_ble_eq_true rfl) (Nat.le_of_ble_eq_true rfl) (Nat.le_of_ble_eq_true rfl)) (fun x8 h5 => ?_)
    refine g_iflt (pc := 19) (tgt := 31) dX12_newName_19 rfl ?_ ?_
    · refine g_lv [1, 2, 3, 0] rfl ?_
      exact hk31 h5
    · refine g_aload_n (pc := 22) dX12_newName_22 1 rfl ?_
      refine g_iconst (pc := 23) dX12_newName_23 ci_3 ?_
      refine g_aload_n (pc := 24) dX12_newName_24 1 rfl ?_
      refine g_geti (pc := 25) cl12 (Nat.le_of_ble_eq_true rfl) fk1588 (fun _ _ _ => rfl) dX12_newName_25 (fun x9 => ?_)
      refine g_gS (fun hs => ?_)
      refine g_bRv (pc := 28) (c_V cl12 hs (p_X12_fault hl x1 (3 : Int32) x9 h5) y_X12_fault tw1814 dX12_newName_28 rfl (st := []) rfl (Nat.le_of_ble_eq_true rfl) (Nat.le_of_ble_eq_true rfl) (Nat.le_of_ble_eq_true rfl)) (fun _ h6 => ?_)
      refine g_lv [1, 2, 3, 0] rfl ?_
      exact hk31 h6
  · refine g_lv [1, 2, 3, 0] rfl ?_
    exact hk31 h1
theorem p_X12_newName {l : Launch} {E : aE} (hl : l.stackTraces = false) (x1 : Nat) (x2 : Int32) (x3 : Int32) (h0 : aH) : MO (fun (_ : Unit) => .inl none) l E yX12_newName (.code yX12_newName cX12_newName 5 none) 4 89 [.ref (e_z E + x1), .int x2, .int x3] h0 (m_X12_newName x1 x2 x3 h0) := g_met hl (by decide +kernel) (Nat.le_of_ble_eq_true rfl) (b_X12_newName hl _ _ x1 x2 x3 h0)
theorem dX12_named_0 : decode cX12_named 0 = .ok (.aload_n 0, 1) := by decide +kernel
theorem dX12_named_1 : decode cX12_named 1 = .ok (.invokevirtual 237, 3) := by decide +kernel
theorem dX12_named_4 : decode cX12_named 4 = .ok (.lstore_n 3, 1) := by decide +kernel
theorem dX12_named_5 : decode cX12_named 5 = .ok (.aload_n 0, 1) := by decide +kernel
theorem dX12_named_6 : decode cX12_named 6 = .ok (.iload_n 1, 1) := by decide +kernel
theorem dX12_named_7 : decode cX12_named 7 = .ok (.iload_n 2, 1) := by decide +kernel
theorem dX12_named_8 : decode cX12_named 8 = .ok (.lload_n 3, 1) := by decide +kernel
theorem dX12_named_9 : decode cX12_named 9 = .ok (.invokevirtual 240, 3) := by decide +kernel
theorem dX12_named_12 : decode cX12_named 12 = .ok (.istore 5, 2) := by decide +kernel
theorem dX12_named_14 : decode cX12_named 14 = .ok (.aload_n 0, 1) := by decide +kernel
theorem dX12_named_15 : decode cX12_named 15 = .ok (.getfield 180, 3) := by decide +kernel
theorem dX12_named_18 : decode cX12_named 18 = .ok (.ifCond .ne 17, 3) := by decide +kernel
theorem dX12_named_21 : decode cX12_named 21 = .ok (.iload 5, 2) := by decide +kernel
theorem dX12_named_23 : decode cX12_named 23 = .ok (.ifCond .ge 12, 3) := by decide +kernel
theorem dX12_named_26 : decode cX12_named 26 = .ok (.aload_n 0, 1) := by decide +kernel
theorem dX12_named_27 : decode cX12_named 27 = .ok (.iconst 4, 1) := by decide +kernel
theorem dX12_named_28 : decode cX12_named 28 = .ok (.aload_n 0, 1) := by decide +kernel
theorem dX12_named_29 : decode cX12_named 29 = .ok (.getfield 201, 3) := by decide +kernel
theorem dX12_named_32 : decode cX12_named 32 = .ok (.invokevirtual 220, 3) := by decide +kernel
theorem dX12_named_35 : decode cX12_named 35 = .ok (.aload_n 0, 1) := by decide +kernel
theorem dX12_named_36 : decode cX12_named 36 = .ok (.getfield 180, 3) := by decide +kernel
theorem dX12_named_39 : decode cX12_named 39 = .ok (.ifCond .eq 7, 3) := by decide +kernel
theorem dX12_named_42 : decode cX12_named 42 = .ok (.iconst 0, 1) := by decide +kernel
theorem dX12_named_43 : decode cX12_named 43 = .ok (.goto 5, 3) := by decide +kernel
theorem dX12_named_46 : decode cX12_named 46 = .ok (.iload 5, 2) := by decide +kernel
theorem dX12_named_48 : decode cX12_named 48 = .ok (.ireturn, 1) := by decide +kernel
abbrev M_X12_named : aM := (yX12_named.cls, cX12_named, 6, (some .int), [], yX12_named.name == "<init>")
abbrev J_X12_named (l : Launch) (E : aE) (n0 m0 : Nat) := GG (fun (v : Int32) => .inl (some (.int v))) l E M_X12_named 4 89 n0 m0
theorem b_X12_named {l : Launch} {E : aE} (hl : l.stackTraces = false) (n0 m0 : Nat) (x1 : Nat) (x2 : Int32) (x3 : Int32) (h0 : aH) : J_X12_named l E n0 m0 0 [(0, .ref (e_z E + x1)), (1, .int x2), (2, .int x3)] [] h0 (m_X12_named x1 x2 x3 h0) := by
  unfold m_X12_named
  refine g_aload_n (pc := 0) dX12_named_0 0 rfl ?_
  refine g_gS (fun hs => ?_)
  refine g_bRl (pc := 1) (c_V cl12 hs (p_X12_name hl x1 h0) y_X12_name tw1853 dX12_named_1 rfl (st := []) rfl (Nat.le_of_ble_eq_true rfl) (Nat.le_of_ble_eq_true rfl) (Nat.le_of_ble_eq_true rfl)) (fun x4 h1 => ?_)
  refine g_lstore_n (pc := 4) (lv' := [(3, .long x4), (0, .ref (e_z E + x1)), (1, .int x2), (2, .int x3)]) dX12_named_4 (Nat.le_of_ble_eq_true rfl) rfl ?_
  refine g_aload_n (pc := 5) dX12_named_5 1 rfl ?_
  refine g_iload_n (pc := 6) dX12_named_6 2 rfl ?_
  refine g_iload_n (pc := 7) dX12_named_7 3 rfl ?_
  refine g_lload_n (pc := 8) dX12_named_8 0 rfl ?_
  refine g_gS (fun hs => ?_)
  refine g_bRi (pc := 9) (c_V cl12 hs (p_X12_place hl x1 x2 x3 x4 h1) y_X12_place tw1857 dX12_named_9 rfl (st := []) rfl (Nat.le_of_ble_eq_true rfl) (Nat.le_of_ble_eq_true rfl) (Nat.le_of_ble_eq_true rfl)) (fun x5 h2 => ?_)
  refine g_istore (pc := 12) (lv' := [(5, .int x5), (3, .long x4), (0, .ref (e_z E + x1)), (1, .int x2), (2, .int x3)]) dX12_named_12 (Nat.le_of_ble_eq_true rfl) rfl ?_
  refine g_aload_n (pc := 14) dX12_named_14 2 rfl ?_
  refine g_geti (pc := 15) cl12 (Nat.le_of_ble_eq_true rfl) fk1584 (fun _ _ _ => rfl) dX12_named_15 (fun x6 => ?_)
  refine g_join (fun k => ∀ (h3 : aH), J_X12_named l E n0 m0 35 [(0, .ref (e_z E + x1)), (5, .int x5)] [] h3 (k h3)) (fun h3 => ?_) (fun k35 hk35 => ?_)
  · refine g_aload_n (pc := 35) dX12_named_35 0 rfl ?_
    refine g_geti (pc := 36) cl12 (Nat.le_of_ble_eq_true rfl) fk1584 (fun _ _ _ => rfl) dX12_named_36 (fun x7 => ?_)
    refine g_join (fun k => ∀ (x8 : Int32) (h4 : aH), J_X12_named l E n0 m0 48 [] [.int x8] h4 (k x8 h4)) (fun x8 h4 => ?_) (fun k48 hk48 => ?_)
    · exact g_ret (pc := 48) rfl (isRet_i _) dX12_named_48 rfl
    refine g_ifeq (pc := 39) (tgt := 46) dX12_named_39 rfl ?_ ?_
    · refine g_iload (pc := 46) dX12_named_46 1 rfl ?_
      refine g_lv [] rfl ?_
      exact hk48 x5 h3
    · refine g_iconst (pc := 42) dX12_named_42 ci_0 ?_
      refine g_goto (pc := 43) (tgt := 48) dX12_named_43 rfl ?_
      refine g_lv [] rfl ?_
      exact hk48 (0 : Int32) h3
  refine g_ifne (pc := 18) (tgt := 35) dX12_named_18 rfl ?_ ?_
  · refine g_iload (pc := 21) dX12_named_21 0 rfl ?_
    refine g_ifge (pc := 23) (tgt := 35) dX12_named_23 rfl ?_ ?_
    · refine g_aload_n (pc := 26) dX12_named_26 2 rfl ?_
      refine g_iconst (pc := 27) dX12_named_27 ci_4 ?_
      refine g_aload_n (pc := 28) dX12_named_28 2 rfl ?_
      refine g_geti (pc := 29) cl12 (Nat.le_of_ble_eq_true rfl) fk1588 (fun _ _ _ => rfl) dX12_named_29 (fun x9 => ?_)
      refine g_gS (fun hs => ?_)
      refine g_bRv (pc := 32) (c_V cl12 hs (p_X12_fault hl x1 (4 : Int32) x9 h2) y_X12_fault tw1814 dX12_named_32 rfl (st := []) rfl (Nat.le_of_ble_eq_true rfl) (Nat.le_of_ble_eq_true rfl) (Nat.le_of_ble_eq_true rfl)) (fun _ h5 => ?_)
      refine g_lv [2, 0] rfl ?_
      exact hk35 h5
    · refine g_lv [2, 0] rfl ?_
      exact hk35 h2
  · refine g_lv [2, 0] rfl ?_
    exact hk35 h2
theorem p_X12_named {l : Launch} {E : aE} (hl : l.stackTraces = false) (x1 : Nat) (x2 : Int32) (x3 : Int32) (h0 : aH) : MO (fun (v : Int32) => .inl (some (.int v))) l E yX12_named (.code yX12_named cX12_named 6 (some .int)) 4 89 [.ref (e_z E + x1), .int x2, .int x3] h0 (m_X12_named x1 x2 x3 h0) := g_met hl (by decide +kernel) (Nat.le_of_ble_eq_true rfl) (b_X12_named hl _ _ x1 x2 x3 h0)
theorem dX12_skillOf_0 : decode cX12_skillOf 0 = .ok (.lload_n 0, 1) := by decide +kernel
theorem dX12_skillOf_1 : decode cX12_skillOf 1 = .ok (.ldc2_w 244, 3) := by decide +kernel
theorem dX12_skillOf_4 : decode cX12_skillOf 4 = .ok (.lcmp, 1) := by decide +kernel
theorem dX12_skillOf_5 : decode cX12_skillOf 5 = .ok (.ifCond .ne 7, 3) := by decide +kernel
theorem dX12_skillOf_8 : decode cX12_skillOf 8 = .ok (.iconst 1, 1) := by decide +kernel
theorem dX12_skillOf_9 : decode cX12_skillOf 9 = .ok (.goto 41, 3) := by decide +kernel
theorem dX12_skillOf_12 : decode cX12_skillOf 12 = .ok (.lload_n 0, 1) := by decide +kernel
theorem dX12_skillOf_13 : decode cX12_skillOf 13 = .ok (.ldc2_w 246, 3) := by decide +kernel
theorem dX12_skillOf_16 : decode cX12_skillOf 16 = .ok (.lcmp, 1) := by decide +kernel
theorem dX12_skillOf_17 : decode cX12_skillOf 17 = .ok (.ifCond .ne 7, 3) := by decide +kernel
theorem dX12_skillOf_20 : decode cX12_skillOf 20 = .ok (.iconst 2, 1) := by decide +kernel
theorem dX12_skillOf_21 : decode cX12_skillOf 21 = .ok (.goto 29, 3) := by decide +kernel
theorem dX12_skillOf_24 : decode cX12_skillOf 24 = .ok (.lload_n 0, 1) := by decide +kernel
theorem dX12_skillOf_25 : decode cX12_skillOf 25 = .ok (.ldc2_w 248, 3) := by decide +kernel
theorem dX12_skillOf_28 : decode cX12_skillOf 28 = .ok (.lcmp, 1) := by decide +kernel
theorem dX12_skillOf_29 : decode cX12_skillOf 29 = .ok (.ifCond .ne 7, 3) := by decide +kernel
theorem dX12_skillOf_32 : decode cX12_skillOf 32 = .ok (.iconst 4, 1) := by decide +kernel
theorem dX12_skillOf_33 : decode cX12_skillOf 33 = .ok (.goto 17, 3) := by decide +kernel
theorem dX12_skillOf_36 : decode cX12_skillOf 36 = .ok (.lload_n 0, 1) := by decide +kernel
theorem dX12_skillOf_37 : decode cX12_skillOf 37 = .ok (.ldc2_w 250, 3) := by decide +kernel
theorem dX12_skillOf_40 : decode cX12_skillOf 40 = .ok (.lcmp, 1) := by decide +kernel
theorem dX12_skillOf_41 : decode cX12_skillOf 41 = .ok (.ifCond .ne 8, 3) := by decide +kernel
theorem dX12_skillOf_44 : decode cX12_skillOf 44 = .ok (.bipush 8, 2) := by decide +kernel
theorem dX12_skillOf_46 : decode cX12_skillOf 46 = .ok (.goto 4, 3) := by decide +kernel
theorem dX12_skillOf_49 : decode cX12_skillOf 49 = .ok (.iconst 0, 1) := by decide +kernel
theorem dX12_skillOf_50 : decode cX12_skillOf 50 = .ok (.ireturn, 1) := by decide +kernel
abbrev M_X12_skillOf : aM := (yX12_skillOf.cls, cX12_skillOf, 2, (some .int), [], yX12_skillOf.name == "<init>")
abbrev J_X12_skillOf (l : Launch) (E : aE) (n0 m0 : Nat) := GG (fun (v : Int32) => .inl (some (.int v))) l E M_X12_skillOf 0 0 n0 m0
theorem b_X12_skillOf {l : Launch} {E : aE} (hl : l.stackTraces = false) (n0 m0 : Nat) (x1 : Int64) (h0 : aH) : J_X12_skillOf l E n0 m0 0 [(0, .long x1)] [] h0 (m_X12_skillOf x1 h0) := by
  unfold m_X12_skillOf
  refine g_lload_n (pc := 0) dX12_skillOf_0 0 rfl ?_
  refine g_ldc2 (pc := 1) tw1864 dX12_skillOf_1 ?_
  refine g_lcmp (pc := 4) dX12_skillOf_4 ?_
  refine g_join (fun k => ∀ (x2 : Int32) (h1 : aH), J_X12_skillOf l E n0 m0 50 [] [.int x2] h1 (k x2 h1)) (fun x2 h1 => ?_) (fun k50 hk50 => ?_)
  · exact g_ret (pc := 50) rfl (isRet_i _) dX12_skillOf_50 rfl
  refine g_ifne (pc := 5) (tgt := 12) dX12_skillOf_5 rfl ?_ ?_
  · refine g_iconst (pc := 8) dX12_skillOf_8 ci_1 ?_
    refine g_goto (pc := 9) (tgt := 50) dX12_skillOf_9 rfl ?_
    refine g_lv [] rfl ?_
    exact hk50 (1 : Int32) h0
  · refine g_lload_n (pc := 12) dX12_skillOf_12 0 rfl ?_
    refine g_ldc2 (pc := 13) tw1865 dX12_skillOf_13 ?_
    refine g_lcmp (pc := 16) dX12_skillOf_16 ?_
    refine g_ifne (pc := 17) (tgt := 24) dX12_skillOf_17 rfl ?_ ?_
    · refine g_iconst (pc := 20) dX12_skillOf_20 ci_2 ?_
      refine g_goto (pc := 21) (tgt := 50) dX12_skillOf_21 rfl ?_
      refine g_lv [] rfl ?_
      exact hk50 (2 : Int32) h0
    · refine g_lload_n (pc := 24) dX12_skillOf_24 0 rfl ?_
      refine g_ldc2 (pc := 25) tw1866 dX12_skillOf_25 ?_
      refine g_lcmp (pc := 28) dX12_skillOf_28 ?_
      refine g_ifne (pc := 29) (tgt := 36) dX12_skillOf_29 rfl ?_ ?_
      · refine g_iconst (pc := 32) dX12_skillOf_32 ci_4 ?_
        refine g_goto (pc := 33) (tgt := 50) dX12_skillOf_33 rfl ?_
        refine g_lv [] rfl ?_
        exact hk50 (4 : Int32) h0
      · refine g_lload_n (pc := 36) dX12_skillOf_36 0 rfl ?_
        refine g_ldc2 (pc := 37) tw1867 dX12_skillOf_37 ?_
        refine g_lcmp (pc := 40) dX12_skillOf_40 ?_
        refine g_ifne (pc := 41) (tgt := 49) dX12_skillOf_41 rfl ?_ ?_
        · refine g_bipush (pc := 44) dX12_skillOf_44 cb_8 ?_
          refine g_goto (pc := 46) (tgt := 50) dX12_skillOf_46 rfl ?_
          refine g_lv [] rfl ?_
          exact hk50 (8 : Int32) h0
        · refine g_iconst (pc := 49) dX12_skillOf_49 ci_0 ?_
          refine g_lv [] rfl ?_
          exact hk50 (0 : Int32) h0
theorem p_X12_skillOf {l : Launch} {E : aE} (hl : l.stackTraces = false) (x1 : Int64) (h0 : aH) : MO (fun (v : Int32) => .inl (some (.int v))) l E yX12_skillOf (.code yX12_skillOf cX12_skillOf 2 (some .int)) 0 0 [.long x1] h0 (m_X12_skillOf x1 h0) := g_met hl (by decide +kernel) (Nat.le_of_ble_eq_true rfl) (b_X12_skillOf hl _ _ x1 h0)
theorem dX12_begins_0 : decode cX12_begins 0 = .ok (.aload_n 0, 1) := by decide +kernel
theorem dX12_begins_1 : decode cX12_begins 1 = .ok (.invokevirtual 198, 3) := by decide +kernel
theorem dX12_begins_4 : decode cX12_begins 4 = .ok (.aload_n 0, 1) := by decide +kernel
theorem dX12_begins_5 : decode cX12_begins 5 = .ok (.getfield 187, 3) := by decide +kernel
theorem dX12_begins_8 : decode cX12_begins 8 = .ok (.istore 5, 2) := by decide +kernel
theorem dX12_begins_10 : decode cX12_begins 10 = .ok (.aload_n 0, 1) := by decide +kernel
theorem dX12_begins_11 : decode cX12_begins 11 = .ok (.getfield 180, 3) := by decide +kernel
theorem dX12_begins_14 : decode cX12_begins 14 = .ok (.ifCond .ne 11, 3) := by decide +kernel
theorem dX12_begins_17 : decode cX12_begins 17 = .ok (.aload_n 0, 1) := by decide +kernel
theorem dX12_begins_18 : decode cX12_begins 18 = .ok (.lload_n 1, 1) := by decide +kernel
theorem dX12_begins_19 : decode cX12_begins 19 = .ok (.invokevirtual 252, 3) := by decide +kernel
theorem dX12_begins_22 : decode cX12_begins 22 = .ok (.ifCond .ne 5, 3) := by decide +kernel
theorem dX12_begins_25 : decode cX12_begins 25 = .ok (.iconst 0, 1) := by decide +kernel
theorem dX12_begins_26 : decode cX12_begins 26 = .ok (.ireturn, 1) := by decide +kernel
theorem dX12_begins_27 : decode cX12_begins 27 = .ok (.iload_n 3, 1) := by decide +kernel
theorem dX12_begins_28 : decode cX12_begins 28 = .ok (.iload 4, 2) := by decide +kernel
theorem dX12_begins_30 : decode cX12_begins 30 = .ok (.if_icmp .ne 10, 3) := by decide +kernel
theorem dX12_begins_33 : decode cX12_begins 33 = .ok (.aload_n 0, 1) := by decide +kernel
theorem dX12_begins_34 : decode cX12_begins 34 = .ok (.iconst 5, 1) := by decide +kernel
theorem dX12_begins_35 : decode cX12_begins 35 = .ok (.iload 5, 2) := by decide +kernel
theorem dX12_begins_37 : decode cX12_begins 37 = .ok (.invokevirtual 220, 3) := by decide +kernel
theorem dX12_begins_40 : decode cX12_begins 40 = .ok (.aload_n 0, 1) := by decide +kernel
theorem dX12_begins_41 : decode cX12_begins 41 = .ok (.getfield 180, 3) := by decide +kernel
theorem dX12_begins_44 : decode cX12_begins 44 = .ok (.ifCond .ne 7, 3) := by decide +kernel
theorem dX12_begins_47 : decode cX12_begins 47 = .ok (.iconst 1, 1) := by decide +kernel
theorem dX12_begins_48 : decode cX12_begins 48 = .ok (.goto 4, 3) := by decide +kernel
theorem dX12_begins_51 : decode cX12_begins 51 = .ok (.iconst 0, 1) := by decide +kernel
theorem dX12_begins_52 : decode cX12_begins 52 = .ok (.ireturn, 1) := by decide +kernel
abbrev M_X12_begins : aM := (yX12_begins.cls, cX12_begins, 6, (some .boolean), [], yX12_begins.name == "<init>")
abbrev J_X12_begins (l : Launch) (E : aE) (n0 m0 : Nat) := GG (fun (v : Int32) => .inl (some (.int v))) l E M_X12_begins 4 93 n0 m0
theorem b_X12_begins {l : Launch} {E : aE} (hl : l.stackTraces = false) (n0 m0 : Nat) (x1 : Nat) (x2 : Int64) (x3 : Int32) (x4 : Int32) (h0 : aH) : J_X12_begins l E n0 m0 0 [(0, .ref (e_z E + x1)), (1, .long x2), (3, .int x3), (4, .int x4)] [] h0 (m_X12_begins x1 x2 x3 x4 h0) := by
  unfold m_X12_begins
  refine g_aload_n (pc := 0) dX12_begins_0 0 rfl ?_
  refine g_gS (fun hs => ?_)
  refine g_bRv (pc := 1) (c_V cl12 hs (p_X12_blanks hl x1 h0) y_X12_blanks tw1793 dX12_begins_1 rfl (st := []) rfl (Nat.le_of_ble_eq_true rfl) (Nat.le_of_ble_eq_true rfl) (Nat.le_of_ble_eq_true rfl)) (fun _ h1 => ?_)
  refine g_aload_n (pc := 4) dX12_begins_4 0 rfl ?_
  refine g_geti (pc := 5) cl12 (Nat.le_of_ble_eq_true rfl) fk1581 (fun _ _ _ => rfl) dX12_begins_5 (fun x5 => ?_)
  refine g_istore (pc := 8) (lv' := [(5, .int x5), (0, .ref (e_z E + x1)), (1, .long x2), (3, .int x3), (4, .int x4)]) dX12_begins_8 (Nat.le_of_ble_eq_true rfl) rfl ?_
  refine g_aload_n (pc := 10) dX12_begins_10 1 rfl ?_
  refine g_geti (pc := 11) cl12 (Nat.le_of_ble_eq_true rfl) fk1584 (fun _ _ _ => rfl) dX12_begins_11 (fun x6 => ?_)
  refine g_join (fun k => ∀ (h2 : aH), J_X12_begins l E n0 m0 25 [] [] h2 (k h2)) (fun h2 => ?_) (fun k25 hk25 => ?_)
  · refine g_iconst (pc := 25) dX12_begins_25 ci_0 ?_
    exact g_ret (pc := 26) rfl (isRet_z (Or.inl rfl)) dX12_begins_26 rfl
  refine g_ifne (pc := 14) (tgt := 25) dX12_begins_14 rfl ?_ ?_
  · refine g_aload_n (pc := 17) dX12_begins_17 1 rfl ?_
    refine g_lload_n (pc := 18) dX12_begins_18 2 rfl ?_
    refine g_gS (fun hs => ?_)
    refine g_bRi (pc := 19) (c_V cl12 hs (p_X12_says hl x1 x2 h1) y_X12_says tw1798 dX12_begins_19 rfl (st := []) rfl (Nat.le_of_ble_eq_true rfl) (Nat.le_of_ble_eq_true rfl) (Nat.le_of_ble_eq_true rfl)) (fun x7 h3 => ?_)
    refine g_ifne (pc := 22) (tgt := 27) dX12_begins_22 rfl ?_ ?_
    · refine g_lv [] rfl ?_
      exact hk25 h3
    · refine g_iload_n (pc := 27) dX12_begins_27 3 rfl ?_
      refine g_iload (pc := 28) dX12_begins_28 4 rfl ?_
      refine g_join (fun k => ∀ (h4 : aH), J_X12_begins l E n0 m0 40 [(0, .ref (e_z E + x1))] [] h4 (k h4)) (fun h4 => ?_) (fun k40 hk40 => ?_)
      · refine g_aload_n (pc := 40) dX12_begins_40 0 rfl ?_
        refine g_geti (pc := 41) cl12 (Nat.le_of_ble_eq_true rfl) fk1584 (fun _ _ _ => rfl) dX12_begins_41 (fun x8 => ?_)
        refine g_join (fun k => ∀ (x9 : Int32) (h5 : aH), J_X12_begins l E n0 m0 52 [] [.int x9] h5 (k x9 h5)) (fun x9 h5 => ?_) (fun k52 hk52 => ?_)
        · refine g_zO (fun hz => ?_)
          exact g_ret (pc := 52) rfl (isRet_z hz) dX12_begins_52 rfl
        refine g_ifne (pc := 44) (tgt := 51) dX12_begins_44 rfl ?_ ?_
        · refine g_iconst (pc := 47) dX12_begins_47 ci_1 ?_
          refine g_goto (pc := 48) (tgt := 52) dX12_begins_48 rfl ?_
          refine g_lv [] rfl ?_
          exact hk52 (1 : Int32) h4
        · refine g_iconst (pc := 51) dX12_begins_51 ci_0 ?_
          refine g_lv [] rfl ?_
          exact hk52 (0 : Int32) h4
      refine g_icmpne (pc := 30) (tgt := 40) dX12_begins_30 rfl ?_ ?_
      · refine g_aload_n (pc := 33) dX12_begins_33 1 rfl ?_
        refine g_iconst (pc := 34) dX12_begins_34 ci_5 ?_
        refine g_iload (pc := 35) dX12_begins_35 0 rfl ?_
        refine g_gS (fun hs => ?_)
        refine g_bRv (pc := 37) (c_V cl12 hs (p_X12_fault hl x1 (5 : Int32) x5 h3) y_X12_fault tw1814 dX12_begins_37 rfl (st := []) rfl (Nat.le_of_ble_eq_true rfl) (Nat.le_of_ble_eq_true rfl) (Nat.le_of_ble_eq_true rfl)) (fun _ h6 => ?_)
        refine g_lv [1] rfl ?_
        exact hk40 h6
      · refine g_lv [1] rfl ?_
        exact hk40 h3
  · refine g_lv [] rfl ?_
    exact hk25 h1
theorem p_X12_begins {l : Launch} {E : aE} (hl : l.stackTraces = false) (x1 : Nat) (x2 : Int64) (x3 : Int32) (x4 : Int32) (h0 : aH) : MO (fun (v : Int32) => .inl (some (.int v))) l E yX12_begins (.code yX12_begins cX12_begins 6 (some .boolean)) 4 93 [.ref (e_z E + x1), .long x2, .int x3, .int x4] h0 (m_X12_begins x1 x2 x3 x4 h0) := g_met hl (by decide +kernel) (Nat.le_of_ble_eq_true rfl) (b_X12_begins hl _ _ x1 x2 x3 x4 h0)
theorem dX12_person_0 : decode cX12_person 0 = .ok (.aload_n 0, 1) := by decide +kernel
theorem dX12_person_1 : decode cX12_person 1 = .ok (.iconst 0, 1) := by decide +kernel
theorem dX12_person_2 : decode cX12_person 2 = .ok (.aload_n 0, 1) := by decide +kernel
theorem dX12_person_3 : decode cX12_person 3 = .ok (.getfield 256, 3) := by decide +kernel
theorem dX12_person_6 : decode cX12_person 6 = .ok (.invokevirtual 259, 3) := by decide +kernel
theorem dX12_person_9 : decode cX12_person 9 = .ok (.aload_n 0, 1) := by decide +kernel
theorem dX12_person_10 : decode cX12_person 10 = .ok (.getfield 180, 3) := by decide +kernel
theorem dX12_person_13 : decode cX12_person 13 = .ok (.ifCond .ne 19, 3) := by decide +kernel
theorem dX12_person_16 : decode cX12_person 16 = .ok (.aload_n 0, 1) := by decide +kernel
theorem dX12_person_17 : decode cX12_person 17 = .ok (.getfield 91, 3) := by decide +kernel
theorem dX12_person_20 : decode cX12_person 20 = .ok (.aload_n 0, 1) := by decide +kernel
theorem dX12_person_21 : decode cX12_person 21 = .ok (.getfield 256, 3) := by decide +kernel
theorem dX12_person_24 : decode cX12_person 24 = .ok (.aload_n 0, 1) := by decide +kernel
theorem dX12_person_25 : decode cX12_person 25 = .ok (.iconst 0, 1) := by decide +kernel
theorem dX12_person_26 : decode cX12_person 26 = .ok (.bipush 120, 2) := by decide +kernel
theorem dX12_person_28 : decode cX12_person 28 = .ok (.invokevirtual 262, 3) := by decide +kernel
theorem dX12_person_31 : decode cX12_person 31 = .ok (.iastore, 1) := by decide +kernel
theorem dX12_person_32 : decode cX12_person 32 = .ok (.aload_n 0, 1) := by decide +kernel
theorem dX12_person_33 : decode cX12_person 33 = .ok (.getfield 94, 3) := by decide +kernel
theorem dX12_person_36 : decode cX12_person 36 = .ok (.aload_n 0, 1) := by decide +kernel
theorem dX12_person_37 : decode cX12_person 37 = .ok (.getfield 256, 3) := by decide +kernel
theorem dX12_person_40 : decode cX12_person 40 = .ok (.iconst 0, 1) := by decide +kernel
theorem dX12_person_41 : decode cX12_person 41 = .ok (.iastore, 1) := by decide +kernel
theorem dX12_person_42 : decode cX12_person 42 = .ok (.aload_n 0, 1) := by decide +kernel
theorem dX12_person_43 : decode cX12_person 43 = .ok (.getfield 180, 3) := by decide +kernel
theorem dX12_person_46 : decode cX12_person 46 = .ok (.ifCond .ne 75, 3) := by decide +kernel
theorem dX12_person_49 : decode cX12_person 49 = .ok (.aload_n 0, 1) := by decide +kernel
theorem dX12_person_50 : decode cX12_person 50 = .ok (.bipush 59, 2) := by decide +kernel
theorem dX12_person_52 : decode cX12_person 52 = .ok (.invokevirtual 216, 3) := by decide +kernel
theorem dX12_person_55 : decode cX12_person 55 = .ok (.ifCond .ne 66, 3) := by decide +kernel
theorem dX12_person_58 : decode cX12_person 58 = .ok (.aload_n 0, 1) := by decide +kernel
theorem dX12_person_59 : decode cX12_person 59 = .ok (.invokevirtual 237, 3) := by decide +kernel
theorem dX12_person_62 : decode cX12_person 62 = .ok (.invokestatic 266, 3) := by decide +kernel
theorem dX12_person_65 : decode cX12_person 65 = .ok (.istore_n 1, 1) := by decide +kernel
theorem dX12_person_66 : decode cX12_person 66 = .ok (.iload_n 1, 1) := by decide +kernel
theorem dX12_person_67 : decode cX12_person 67 = .ok (.ifCond .ne 15, 3) := by decide +kernel
theorem dX12_person_70 : decode cX12_person 70 = .ok (.aload_n 0, 1) := by decide +kernel
theorem dX12_person_71 : decode cX12_person 71 = .ok (.iconst 1, 1) := by decide +kernel
theorem dX12_person_72 : decode cX12_person 72 = .ok (.aload_n 0, 1) := by decide +kernel
theorem dX12_person_73 : decode cX12_person 73 = .ok (.getfield 201, 3) := by decide +kernel
theorem dX12_person_76 : decode cX12_person 76 = .ok (.invokevirtual 220, 3) := by decide +kernel
theorem dX12_person_79 : decode cX12_person 79 = .ok (.goto 26, 3) := by decide +kernel
theorem dX12_person_82 : decode cX12_person 82 = .ok (.aload_n 0, 1) := by decide +kernel
theorem dX12_person_83 : decode cX12_person 83 = .ok (.getfield 94, 3) := by decide +kernel
theorem dX12_person_86 : decode cX12_person 86 = .ok (.aload_n 0, 1) := by decide +kernel
theorem dX12_person_87 : decode cX12_person 87 = .ok (.getfield 256, 3) := by decide +kernel
theorem dX12_person_90 : decode cX12_person 90 = .ok (.iaload, 1) := by decide +kernel
theorem dX12_person_91 : decode cX12_person 91 = .ok (.iload_n 1, 1) := by decide +kernel
theorem dX12_person_92 : decode cX12_person 92 = .ok (.iand, 1) := by decide +kernel
theorem dX12_person_93 : decode cX12_person 93 = .ok (.ifCond .eq 12, 3) := by decide +kernel
theorem dX12_person_96 : decode cX12_person 96 = .ok (.aload_n 0, 1) := by decide +kernel
theorem dX12_person_97 : decode cX12_person 97 = .ok (.iconst 3, 1) := by decide +kernel
theorem dX12_person_98 : decode cX12_person 98 = .ok (.aload_n 0, 1) := by decide +kernel
theorem dX12_person_99 : decode cX12_person 99 = .ok (.getfield 201, 3) := by decide +kernel
theorem dX12_person_102 : decode cX12_person 102 = .ok (.invokevirtual 220, 3) := by decide +kernel
theorem dX12_person_105 : decode cX12_person 105 = .ok (.aload_n 0, 1) := by decide +kernel
theorem dX12_person_106 : decode cX12_person 106 = .ok (.getfield 94, 3) := by decide +kernel
theorem dX12_person_109 : decode cX12_person 109 = .ok (.aload_n 0, 1) := by decide +kernel
theorem dX12_person_110 : decode cX12_person 110 = .ok (.getfield 256, 3) := by decide +kernel
theorem dX12_person_113 : decode cX12_person 113 = .ok (.dup2, 1) := by decide +kernel
theorem dX12_person_114 : decode cX12_person 114 = .ok (.iaload, 1) := by decide +kernel
theorem dX12_person_115 : decode cX12_person 115 = .ok (.iload_n 1, 1) := by decide +kernel
theorem dX12_person_116 : decode cX12_person 116 = .ok (.ior, 1) := by decide +kernel
theorem dX12_person_117 : decode cX12_person 117 = .ok (.iastore, 1) := by decide +kernel
theorem dX12_person_118 : decode cX12_person 118 = .ok (.goto (-76), 3) := by decide +kernel
theorem dX12_person_121 : decode cX12_person 121 = .ok (.aload_n 0, 1) := by decide +kernel
theorem dX12_person_122 : decode cX12_person 122 = .ok (.dup, 1) := by decide +kernel
theorem dX12_person_123 : decode cX12_person 123 = .ok (.getfield 256, 3) := by decide +kernel
theorem dX12_person_126 : decode cX12_person 126 = .ok (.iconst 1, 1) := by decide +kernel
theorem dX12_person_127 : decode cX12_person 127 = .ok (.iadd, 1) := by decide +kernel
theorem dX12_person_128 : decode cX12_person 128 = .ok (.putfield 256, 3) := by decide +kernel
theorem dX12_person_131 : decode cX12_person 131 = .ok (.return_, 1) := by decide +kernel
abbrev M_X12_person : aM := (yX12_person.cls, cX12_person, 2, none, [], yX12_person.name == "<init>")
abbrev J_X12_person (l : Launch) (E : aE) (n0 m0 : Nat) := GG (fun (_ : Unit) => .inl none) l E M_X12_person 5 113 n0 m0
theorem b_X12_person {l : Launch} {E : aE} (hl : l.stackTraces = false) (n0 m0 : Nat) (x1 : Nat) (h0 : aH) : J_X12_person l E n0 m0 0 [(0, .ref (e_z E + x1))] [] h0 (m_X12_person x1 h0) := by
  unfold m_X12_person
  refine g_aload_n (pc := 0) dX12_person_0 0 rfl ?_
  refine g_iconst (pc := 1) dX12_person_1 ci_0 ?_
  refine g_aload_n (pc := 2) dX12_person_2 0 rfl ?_
  refine g_geti (pc := 3) cl12 (Nat.le_of_ble_eq_true rfl) fk1590 (fun _ _ _ => rfl) dX12_person_3 (fun x2 => ?_)
  refine g_gS (fun hs => ?_)
  refine g_bRv (pc := 6) (c_V cl12 hs (p_X12_newName hl x1 (0 : Int32) x2 h0) y_X12_newName tw1849 dX12_person_6 rfl (st := []) rfl (Nat.le_of_ble_eq_true rfl) (Nat.le_of_ble_eq_true rfl) (Nat.le_of_ble_eq_true rfl)) (fun _ h1 => ?_)
  refine g_aload_n (pc := 9) dX12_person_9 0 rfl ?_
  refine g_geti (pc := 10) cl12 (Nat.le_of_ble_eq_true rfl) fk1584 (fun _ _ _ => rfl) dX12_person_10 (fun x3 => ?_)
  refine g_join (fun k => ∀ (h2 : aH), J_X12_person l E n0 m0 32 [(0, .ref (e_z E + x1))] [] h2 (k h2)) (fun h2 => ?_) (fun k32 hk32 => ?_)
  · refine g_aload_n (pc := 32) dX12_person_32 0 rfl ?_
    refine g_getr (pc := 33) cl12 (Nat.le_of_ble_eq_true rfl) fk1597 (fun _ _ _ => rfl) dX12_person_33 (fun x4 => ?_)
    refine g_aload_n (pc := 36) dX12_person_36 0 rfl ?_
    refine g_geti (pc := 37) cl12 (Nat.le_of_ble_eq_true rfl) fk1590 (fun _ _ _ => rfl) dX12_person_37 (fun x5 => ?_)
    refine g_iconst (pc := 40) dX12_person_40 ci_0 ?_
    refine g_iast (pc := 41) dX12_person_41 (fun h3 => ?_)
    refine g_join (fun k => ∀ (h4 : aH), J_X12_person l E n0 m0 121 [(0, .ref (e_z E + x1))] [] h4 (k h4)) (fun h4 => ?_) (fun k121 hk121 => ?_)
    · refine g_aload_n (pc := 121) dX12_person_121 0 rfl ?_
      refine g_dup (pc := 122) rfl dX12_person_122 ?_
      refine g_geti (pc := 123) cl12 (Nat.le_of_ble_eq_true rfl) fk1590 (fun _ _ _ => rfl) dX12_person_123 (fun x6 => ?_)
      refine g_iconst (pc := 126) dX12_person_126 ci_1 ?_
      refine g_iadd (pc := 127) dX12_person_127 ?_
      refine g_puti (pc := 128) cl12 (Nat.le_of_ble_eq_true rfl) (Or.inl ⟨rfl, fk1590⟩) (fun _ _ _ => rfl) (fun _ => ⟨rfl, rfl⟩) dX12_person_128 (fun h5 => ?_)
      exact g_ret (pc := 131) rfl isRet_v dX12_person_131 rfl
    refine g_loop0 (F := (m_X12_person_L42 x1 k121)) ([(0, .ref (e_z E + x1))]) (fun r42 hr42 h6 => ?_) _ _
    unfold m_X12_person_L42
    refine g_aload_n (pc := 42) dX12_person_42 0 rfl ?_
    refine g_geti (pc := 43) cl12 (Nat.le_of_ble_eq_true rfl) fk1584 (fun _ _ _ => rfl) dX12_person_43 (fun x7 => ?_)
    refine g_ifne (pc := 46) (tgt := 121) dX12_person_46 rfl ?_ ?_
    · refine g_aload_n (pc := 49) dX12_person_49 0 rfl ?_
      refine g_bipush (pc := 50) dX12_person_50 cb_59 ?_
      refine g_gS (fun hs => ?_)
      refine g_bRi (pc := 52) (c_V cl12 hs (p_X12_isNext hl x1 (59 : Int32) h6) y_X12_isNext tw1836 dX12_person_52 rfl (st := []) rfl (Nat.le_of_ble_eq_true rfl) (Nat.le_of_ble_eq_true rfl) (Nat.le_of_ble_eq_true rfl)) (fun x8 h7 => ?_)
      refine g_ifne (pc := 55) (tgt := 121) dX12_person_55 rfl ?_ ?_
      · refine g_aload_n (pc := 58) dX12_person_58 0 rfl ?_
        refine g_gS (fun hs => ?_)
        refine g_bRl (pc := 59) (c_V cl12 hs (p_X12_name hl x1 h7) y_X12_name tw1853 dX12_person_59 rfl (st := []) rfl (Nat.le_of_ble_eq_true rfl) (Nat.le_of_ble_eq_true rfl) (Nat.le_of_ble_eq_true rfl)) (fun x9 h8 => ?_)
        refine g_bRi (pc := 62) (c_S (p_X12_skillOf hl x9 h8) y_X12_skillOf tw1861 dX12_person_62 rfl (st := []) rfl (Nat.le_of_ble_eq_true rfl) (Nat.le_of_ble_eq_true rfl) (Nat.le_of_ble_eq_true rfl)) (fun x10 h9 => ?_)
        refine g_istore_n (pc := 65) (lv' := [(1, .int x10), (0, .ref (e_z E + x1))]) dX12_person_65 (Nat.le_of_ble_eq_true rfl) rfl ?_
        refine g_iload_n (pc := 66) dX12_person_66 0 rfl ?_
        refine g_join (fun k => ∀ (h10 : aH), J_X12_person l E n0 m0 105 [(0, .ref (e_z E + x1)), (1, .int x10)] [] h10 (k h10)) (fun h10 => ?_) (fun k105 hk105 => ?_)
        · refine g_aload_n (pc := 105) dX12_person_105 0 rfl ?_
          refine g_getr (pc := 106) cl12 (Nat.le_of_ble_eq_true rfl) fk1597 (fun _ _ _ => rfl) dX12_person_106 (fun x11 => ?_)
          refine g_aload_n (pc := 109) dX12_person_109 0 rfl ?_
          refine g_geti (pc := 110) cl12 (Nat.le_of_ble_eq_true rfl) fk1590 (fun _ _ _ => rfl) dX12_person_110 (fun x12 => ?_)
          refine g_dup2 (pc := 113) rfl rfl dX12_person_113 ?_
          refine g_iald (pc := 114) dX12_person_114 (fun x13 => ?_)
          refine g_iload_n (pc := 115) dX12_person_115 1 rfl ?_
          refine g_ior (pc := 116) dX12_person_116 ?_
          refine g_iast (pc := 117) dX12_person_117 (fun h11 => ?_)
          refine g_goto (pc := 118) (tgt := 42) dX12_person_118 rfl ?_
          refine g_lv [0] rfl ?_
          exact hr42 h11
        refine g_ifne (pc := 67) (tgt := 82) dX12_person_67 rfl ?_ ?_
        · refine g_aload_n (pc := 70) dX12_person_70 1 rfl ?_
          refine g_iconst (pc := 71) dX12_person_71 ci_1 ?_
          refine g_aload_n (pc := 72) dX12_person_72 1 rfl ?_
          refine g_geti (pc := 73) cl12 (Nat.le_of_ble_eq_true rfl) fk1588 (fun _ _ _ => rfl) dX12_person_73 (fun x14 => ?_)
          refine g_gS (fun hs => ?_)
          refine g_bRv (pc := 76) (c_V cl12 hs (p_X12_fault hl x1 (1 : Int32) x14 h9) y_X12_fault tw1814 dX12_person_76 rfl (st := []) rfl (Nat.le_of_ble_eq_true rfl) (Nat.le_of_ble_eq_true rfl) (Nat.le_of_ble_eq_true rfl)) (fun _ h12 => ?_)
          refine g_goto (pc := 79) (tgt := 105) dX12_person_79 rfl ?_
          refine g_lv [1, 0] rfl ?_
          exact hk105 h12
        · refine g_aload_n (pc := 82) dX12_person_82 1 rfl ?_
          refine g_getr (pc := 83) cl12 (Nat.le_of_ble_eq_true rfl) fk1597 (fun _ _ _ => rfl) dX12_person_83 (fun x15 => ?_)
          refine g_aload_n (pc := 86) dX12_person_86 1 rfl ?_
          refine g_geti (pc := 87) cl12 (Nat.le_of_ble_eq_true rfl) fk1590 (fun _ _ _ => rfl) dX12_person_87 (fun x16 => ?_)
          refine g_iald (pc := 90) dX12_person_90 (fun x17 => ?_)
          refine g_iload_n (pc := 91) dX12_person_91 0 rfl ?_
          refine g_iand (pc := 92) dX12_person_92 ?_
          refine g_ifeq (pc := 93) (tgt := 105) dX12_person_93 rfl ?_ ?_
          · refine g_lv [1, 0] rfl ?_
            exact hk105 h9
          · refine g_aload_n (pc := 96) dX12_person_96 1 rfl ?_
            refine g_iconst (pc := 97) dX12_person_97 ci_3 ?_
            refine g_aload_n (pc := 98) dX12_person_98 1 rfl ?_
            refine g_geti (pc := 99) cl12 (Nat.le_of_ble_eq_true rfl) fk1588 (fun _ _ _ => rfl) dX12_person_99 (fun x18 => ?_)
            refine g_gS (fun hs => ?_)
            refine g_bRv (pc := 102) (c_V cl12 hs (p_X12_fault hl x1 (3 : Int32) x18 h9) y_X12_fault tw1814 dX12_person_102 rfl (st := []) rfl (Nat.le_of_ble_eq_true rfl) (Nat.le_of_ble_eq_true rfl) (Nat.le_of_ble_eq_true rfl)) (fun _ h13 => ?_)
            refine g_lv [1, 0] rfl ?_
            exact hk105 h13
      · exact hk121 h7
    · exact hk121 h6
  refine g_ifne (pc := 13) (tgt := 32) dX12_person_13 rfl ?_ ?_
  · refine g_aload_n (pc := 16) dX12_person_16 0 rfl ?_
    refine g_getr (pc := 17) cl12 (Nat.le_of_ble_eq_true rfl) fk1596 (fun _ _ _ => rfl) dX12_person_17 (fun x19 => ?_)
    refine g_aload_n (pc := 20) dX12_person_20 0 rfl ?_
    refine g_geti (pc := 21) cl12 (Nat.le_of_ble_eq_true rfl) fk1590 (fun _ _ _ => rfl) dX12_person_21 (fun x20 => ?_)
    refine g_aload_n (pc := 24) dX12_person_24 0 rfl ?_
    refine g_iconst (pc := 25) dX12_person_25 ci_0 ?_
    refine g_bipush (pc := 26) dX12_person_26 cb_120 ?_
    refine g_gS (fun hs => ?_)
    refine g_bRi (pc := 28) (c_V cl12 hs (p_X12_number hl x1 (0 : Int32) (120 : Int32) h1) y_X12_number tw1818 dX12_person_28 rfl (st := [.int x20, .ref (e_z E + x19)]) rfl (Nat.le_of_ble_eq_true rfl) (Nat.le_of_ble_eq_true rfl) (Nat.le_of_ble_eq_true rfl)) (fun x21 h14 => ?_)
    refine g_iast (pc := 31) dX12_person_31 (fun h15 => ?_)
    exact hk32 h15
  · exact hk32 h1
theorem p_X12_person {l : Launch} {E : aE} (hl : l.stackTraces = false) (x1 : Nat) (h0 : aH) : MO (fun (_ : Unit) => .inl none) l E yX12_person (.code yX12_person cX12_person 2 none) 5 113 [.ref (e_z E + x1)] h0 (m_X12_person x1 h0) := g_met hl (by decide +kernel) (Nat.le_of_ble_eq_true rfl) (b_X12_person hl _ _ x1 h0)
theorem dX12_trust_0 : decode cX12_trust 0 = .ok (.aload_n 0, 1) := by decide +kernel
theorem dX12_trust_1 : decode cX12_trust 1 = .ok (.iconst 0, 1) := by decide +kernel
theorem dX12_trust_2 : decode cX12_trust 2 = .ok (.aload_n 0, 1) := by decide +kernel
theorem dX12_trust_3 : decode cX12_trust 3 = .ok (.getfield 256, 3) := by decide +kernel
theorem dX12_trust_6 : decode cX12_trust 6 = .ok (.invokevirtual 270, 3) := by decide +kernel
theorem dX12_trust_9 : decode cX12_trust 9 = .ok (.istore_n 1, 1) := by decide +kernel
theorem dX12_trust_10 : decode cX12_trust 10 = .ok (.aload_n 0, 1) := by decide +kernel
theorem dX12_trust_11 : decode cX12_trust 11 = .ok (.getfield 180, 3) := by decide +kernel
theorem dX12_trust_14 : decode cX12_trust 14 = .ok (.ifCond .eq 4, 3) := by decide +kernel
theorem dX12_trust_17 : decode cX12_trust 17 = .ok (.return_, 1) := by decide +kernel
theorem dX12_trust_18 : decode cX12_trust 18 = .ok (.aload_n 0, 1) := by decide +kernel
theorem dX12_trust_19 : decode cX12_trust 19 = .ok (.iconst 0, 1) := by decide +kernel
theorem dX12_trust_20 : decode cX12_trust 20 = .ok (.aload_n 0, 1) := by decide +kernel
theorem dX12_trust_21 : decode cX12_trust 21 = .ok (.getfield 256, 3) := by decide +kernel
theorem dX12_trust_24 : decode cX12_trust 24 = .ok (.invokevirtual 270, 3) := by decide +kernel
theorem dX12_trust_27 : decode cX12_trust 27 = .ok (.istore_n 2, 1) := by decide +kernel
theorem dX12_trust_28 : decode cX12_trust 28 = .ok (.aload_n 0, 1) := by decide +kernel
theorem dX12_trust_29 : decode cX12_trust 29 = .ok (.getfield 180, 3) := by decide +kernel
theorem dX12_trust_32 : decode cX12_trust 32 = .ok (.ifCond .eq 4, 3) := by decide +kernel
theorem dX12_trust_35 : decode cX12_trust 35 = .ok (.return_, 1) := by decide +kernel
theorem dX12_trust_36 : decode cX12_trust 36 = .ok (.aload_n 0, 1) := by decide +kernel
theorem dX12_trust_37 : decode cX12_trust 37 = .ok (.getfield 100, 3) := by decide +kernel
theorem dX12_trust_40 : decode cX12_trust 40 = .ok (.bipush 12, 2) := by decide +kernel
theorem dX12_trust_42 : decode cX12_trust 42 = .ok (.iload_n 1, 1) := by decide +kernel
theorem dX12_trust_43 : decode cX12_trust 43 = .ok (.imul, 1) := by decide +kernel
theorem dX12_trust_44 : decode cX12_trust 44 = .ok (.iload_n 2, 1) := by decide +kernel
theorem dX12_trust_45 : decode cX12_trust 45 = .ok (.iadd, 1) := by decide +kernel
theorem dX12_trust_46 : decode cX12_trust 46 = .ok (.baload, 1) := by decide +kernel
theorem dX12_trust_47 : decode cX12_trust 47 = .ok (.ifCond .eq 15, 3) := by decide +kernel
theorem dX12_trust_50 : decode cX12_trust 50 = .ok (.aload_n 0, 1) := by decide +kernel
theorem dX12_trust_51 : decode cX12_trust 51 = .ok (.iconst 3, 1) := by decide +kernel
theorem dX12_trust_52 : decode cX12_trust 52 = .ok (.aload_n 0, 1) := by decide +kernel
theorem dX12_trust_53 : decode cX12_trust 53 = .ok (.getfield 201, 3) := by decide +kernel
theorem dX12_trust_56 : decode cX12_trust 56 = .ok (.invokevirtual 220, 3) := by decide +kernel
theorem dX12_trust_59 : decode cX12_trust 59 = .ok (.goto 61, 3) := by decide +kernel
theorem dX12_trust_62 : decode cX12_trust 62 = .ok (.iload_n 1, 1) := by decide +kernel
theorem dX12_trust_63 : decode cX12_trust 63 = .ok (.iload_n 2, 1) := by decide +kernel
theorem dX12_trust_64 : decode cX12_trust 64 = .ok (.if_icmp .ne 16, 3) := by decide +kernel
theorem dX12_trust_67 : decode cX12_trust 67 = .ok (.aload_n 0, 1) := by decide +kernel
theorem dX12_trust_68 : decode cX12_trust 68 = .ok (.bipush 6, 2) := by decide +kernel
theorem dX12_trust_70 : decode cX12_trust 70 = .ok (.aload_n 0, 1) := by decide +kernel
theorem dX12_trust_71 : decode cX12_trust 71 = .ok (.getfield 201, 3) := by decide +kernel
theorem dX12_trust_74 : decode cX12_trust 74 = .ok (.invokevirtual 220, 3) := by decide +kernel
theorem dX12_trust_77 : decode cX12_trust 77 = .ok (.goto 43, 3) := by decide +kernel
theorem dX12_trust_80 : decode cX12_trust 80 = .ok (.aload_n 0, 1) := by decide +kernel
theorem dX12_trust_81 : decode cX12_trust 81 = .ok (.getfield 100, 3) := by decide +kernel
theorem dX12_trust_84 : decode cX12_trust 84 = .ok (.bipush 12, 2) := by decide +kernel
theorem dX12_trust_86 : decode cX12_trust 86 = .ok (.iload_n 1, 1) := by decide +kernel
theorem dX12_trust_87 : decode cX12_trust 87 = .ok (.imul, 1) := by decide +kernel
theorem dX12_trust_88 : decode cX12_trust 88 = .ok (.iload_n 2, 1) := by decide +kernel
theorem dX12_trust_89 : decode cX12_trust 89 = .ok (.iadd, 1) := by decide +kernel
theorem dX12_trust_90 : decode cX12_trust 90 = .ok (.iconst 1, 1) := by decide +kernel
theorem dX12_trust_91 : decode cX12_trust 91 = .ok (.bastore, 1) := by decide +kernel
theorem dX12_trust_92 : decode cX12_trust 92 = .ok (.aload_n 0, 1) := by decide +kernel
theorem dX12_trust_93 : decode cX12_trust 93 = .ok (.getfield 97, 3) := by decide +kernel
theorem dX12_trust_96 : decode cX12_trust 96 = .ok (.bipush 12, 2) := by decide +kernel
theorem dX12_trust_98 : decode cX12_trust 98 = .ok (.iload_n 1, 1) := by decide +kernel
theorem dX12_trust_99 : decode cX12_trust 99 = .ok (.imul, 1) := by decide +kernel
theorem dX12_trust_100 : decode cX12_trust 100 = .ok (.iload_n 2, 1) := by decide +kernel
theorem dX12_trust_101 : decode cX12_trust 101 = .ok (.iadd, 1) := by decide +kernel
theorem dX12_trust_102 : decode cX12_trust 102 = .ok (.aload_n 0, 1) := by decide +kernel
theorem dX12_trust_103 : decode cX12_trust 103 = .ok (.iconst 0, 1) := by decide +kernel
theorem dX12_trust_104 : decode cX12_trust 104 = .ok (.bipush 9, 2) := by decide +kernel
theorem dX12_trust_106 : decode cX12_trust 106 = .ok (.invokevirtual 262, 3) := by decide +kernel
theorem dX12_trust_109 : decode cX12_trust 109 = .ok (.iastore, 1) := by decide +kernel
theorem dX12_trust_110 : decode cX12_trust 110 = .ok (.aload_n 0, 1) := by decide +kernel
theorem dX12_trust_111 : decode cX12_trust 111 = .ok (.dup, 1) := by decide +kernel
theorem dX12_trust_112 : decode cX12_trust 112 = .ok (.getfield 273, 3) := by decide +kernel
theorem dX12_trust_115 : decode cX12_trust 115 = .ok (.iconst 1, 1) := by decide +kernel
theorem dX12_trust_116 : decode cX12_trust 116 = .ok (.iadd, 1) := by decide +kernel
theorem dX12_trust_117 : decode cX12_trust 117 = .ok (.putfield 273, 3) := by decide +kernel
theorem dX12_trust_120 : decode cX12_trust 120 = .ok (.return_, 1) := by decide +kernel
abbrev M_X12_trust : aM := (yX12_trust.cls, cX12_trust, 3, none, [], yX12_trust.name == "<init>")
abbrev J_X12_trust (l : Launch) (E : aE) (n0 m0 : Nat) := GG (fun (_ : Unit) => .inl none) l E M_X12_trust 5 114 n0 m0
theorem b_X12_trust {l : Launch} {E : aE} (hl : l.stackTraces = false) (n0 m0 : Nat) (x1 : Nat) (h0 : aH) : J_X12_trust l E n0 m0 0 [(0, .ref (e_z E + x1))] [] h0 (m_X12_trust x1 h0) := by
  unfold m_X12_trust
  refine g_aload_n (pc := 0) dX12_trust_0 0 rfl ?_
  refine g_iconst (pc := 1) dX12_trust_1 ci_0 ?_
  refine g_aload_n (pc := 2) dX12_trust_2 0 rfl ?_
  refine g_geti (pc := 3) cl12 (Nat.le_of_ble_eq_true rfl) fk1590 (fun _ _ _ => rfl) dX12_trust_3 (fun x2 => ?_)
  refine g_gS (fun hs => ?_)
  refine g_bRi (pc := 6) (c_V cl12 hs (p_X12_named hl x1 (0 : Int32) x2 h0) y_X12_named tw1873 dX12_trust_6 rfl (st := []) rfl (Nat.le_of_ble_eq_true rfl) (Nat.le_of_ble_eq_true rfl) (Nat.le_of_ble_eq_true rfl)) (fun x3 h1 => ?_)
  refine g_istore_n (pc := 9) (lv' := [(1, .int x3), (0, .ref (e_z E + x1))]) dX12_trust_9 (Nat.le_of_ble_eq_true rfl) rfl ?_
  refine g_aload_n (pc := 10) dX12_trust_10 1 rfl ?_
  refine g_geti (pc := 11) cl12 (Nat.le_of_ble_eq_true rfl) fk1584 (fun _ _ _ => rfl) dX12_trust_11 (fun x4 => ?_)
  refine g_ifeq (pc := 14) (tgt := 18) dX12_trust_14 rfl ?_ ?_
  · refine g_aload_n (pc := 18) dX12_trust_18 1 rfl ?_
    refine g_iconst (pc := 19) dX12_trust_19 ci_0 ?_
    refine g_aload_n (pc := 20) dX12_trust_20 1 rfl ?_
    refine g_geti (pc := 21) cl12 (Nat.le_of_ble_eq_true rfl) fk1590 (fun _ _ _ => rfl) dX12_trust_21 (fun x5 => ?_)
    refine g_gS (fun hs => ?_)
    refine g_bRi (pc := 24) (c_V cl12 hs (p_X12_named hl x1 (0 : Int32) x5 h1) y_X12_named tw1873 dX12_trust_24 rfl (st := []) rfl (Nat.le_of_ble_eq_true rfl) (Nat.le_of_ble_eq_true rfl) (Nat.le_of_ble_eq_true rfl)) (fun x6 h2 => ?_)
    refine g_istore_n (pc := 27) (lv' := [(2, .int x6), (1, .int x3), (0, .ref (e_z E + x1))]) dX12_trust_27 (Nat.le_of_ble_eq_true rfl) rfl ?_
    refine g_aload_n (pc := 28) dX12_trust_28 2 rfl ?_
    refine g_geti (pc := 29) cl12 (Nat.le_of_ble_eq_true rfl) fk1584 (fun _ _ _ => rfl) dX12_trust_29 (fun x7 => ?_)
    refine g_ifeq (pc := 32) (tgt := 36) dX12_trust_32 rfl ?_ ?_
    · refine g_aload_n (pc := 36) dX12_trust_36 2 rfl ?_
      refine g_getr (pc := 37) cl12 (Nat.le_of_ble_eq_true rfl) fk1599 (fun _ _ _ => rfl) dX12_trust_37 (fun x8 => ?_)
      refine g_bipush (pc := 40) dX12_trust_40 cb_12 ?_
      refine g_iload_n (pc := 42) dX12_trust_42 1 rfl ?_
      refine g_imul (pc := 43) dX12_trust_43 ?_
      refine g_iload_n (pc := 44) dX12_trust_44 0 rfl ?_
      refine g_iadd (pc := 45) dX12_trust_45 ?_
      refine g_zald (pc := 46) dX12_trust_46 (fun x9 => ?_)
      refine g_join (fun k => ∀ (h3 : aH), J_X12_trust l E n0 m0 120 [] [] h3 (k h3)) (fun h3 => ?_) (fun k120 hk120 => ?_)
      · exact g_ret (pc := 120) rfl isRet_v dX12_trust_120 rfl
      refine g_ifeq (pc := 47) (tgt := 62) dX12_trust_47 rfl ?_ ?_
      · refine g_iload_n (pc := 62) dX12_trust_62 1 rfl ?_
        refine g_iload_n (pc := 63) dX12_trust_63 0 rfl ?_
        refine g_icmpne (pc := 64) (tgt := 80) dX12_trust_64 rfl ?_ ?_
        · refine g_aload_n (pc := 67) dX12_trust_67 2 rfl ?_
          refine g_bipush (pc := 68) dX12_trust_68 cb_6 ?_
          refine g_aload_n (pc := 70) dX12_trust_70 2 rfl ?_
          refine g_geti (pc := 71) cl12 (Nat.le_of_ble_eq_true rfl) fk1588 (fun _ _ _ => rfl) dX12_trust_71 (fun x10 => ?_)
          refine g_gS (fun hs => ?_)
          refine g_bRv (pc := 74) (c_V cl12 hs (p_X12_fault hl x1 (6 : Int32) x10 h2) y_X12_fault tw1814 dX12_trust_74 rfl (st := []) rfl (Nat.le_of_ble_eq_true rfl) (Nat.le_of_ble_eq_true rfl) (Nat.le_of_ble_eq_true rfl)) (fun _ h4 => ?_)
          refine g_goto (pc := 77) (tgt := 120) dX12_trust_77 rfl ?_
          refine g_lv [] rfl ?_
          exact hk120 h4
        · refine g_aload_n (pc := 80) dX12_trust_80 2 rfl ?_
          refine g_getr (pc := 81) cl12 (Nat.le_of_ble_eq_true rfl) fk1599 (fun _ _ _ => rfl) dX12_trust_81 (fun x11 => ?_)
          refine g_bipush (pc := 84) dX12_trust_84 cb_12 ?_
          refine g_iload_n (pc := 86) dX12_trust_86 1 rfl ?_
          refine g_imul (pc := 87) dX12_trust_87 ?_
          refine g_iload_n (pc := 88) dX12_trust_88 0 rfl ?_
          refine g_iadd (pc := 89) dX12_trust_89 ?_
          refine g_iconst (pc := 90) dX12_trust_90 ci_1 ?_
          refine g_zast (pc := 91) dX12_trust_91 (fun h5 => ?_)
          refine g_aload_n (pc := 92) dX12_trust_92 2 rfl ?_
          refine g_getr (pc := 93) cl12 (Nat.le_of_ble_eq_true rfl) fk1598 (fun _ _ _ => rfl) dX12_trust_93 (fun x12 => ?_)
          refine g_bipush (pc := 96) dX12_trust_96 cb_12 ?_
          refine g_iload_n (pc := 98) dX12_trust_98 1 rfl ?_
          refine g_imul (pc := 99) dX12_trust_99 ?_
          refine g_iload_n (pc := 100) dX12_trust_100 0 rfl ?_
          refine g_iadd (pc := 101) dX12_trust_101 ?_
          refine g_aload_n (pc := 102) dX12_trust_102 2 rfl ?_
          refine g_iconst (pc := 103) dX12_trust_103 ci_0 ?_
          refine g_bipush (pc := 104) dX12_trust_104 cb_9 ?_
          refine g_gS (fun hs => ?_)
          refine g_bRi (pc := 106) (c_V cl12 hs (p_X12_number hl x1 (0 : Int32) (9 : Int32) h5) y_X12_number tw1818 dX12_trust_106 rfl (st := [.int (((12 : Int32) * x3) + x6), .ref (e_z E + x12)]) rfl (Nat.le_of_ble_eq_true rfl) (Nat.le_of_ble_eq_true rfl) (Nat.le_of_ble_eq_true rfl)) (fun x13 h6 => ?_)
          refine g_iast (pc := 109) dX12_trust_109 (fun h7 => ?_)
          refine g_aload_n (pc := 110) dX12_trust_110 2 rfl ?_
          refine g_dup (pc := 111) rfl dX12_trust_111 ?_
          refine g_geti (pc := 112) cl12 (Nat.le_of_ble_eq_true rfl) fk1591 (fun _ _ _ => rfl) dX12_trust_112 (fun x14 => ?_)
          refine g_iconst (pc := 115) dX12_trust_115 ci_1 ?_
          refine g_iadd (pc := 116) dX12_trust_116 ?_
          refine g_puti (pc := 117) cl12 (Nat.le_of_ble_eq_true rfl) (Or.inl ⟨rfl, fk1591⟩) (fun _ _ _ => rfl) (fun _ => ⟨rfl, rfl⟩) dX12_trust_117 (fun h8 => ?_)
          refine g_lv [] rfl ?_
          exact hk120 h8
      · refine g_aload_n (pc := 50) dX12_trust_50 2 rfl ?_
        refine g_iconst (pc := 51) dX12_trust_51 ci_3 ?_
        refine g_aload_n (pc := 52) dX12_trust_52 2 rfl ?_
        refine g_geti (pc := 53) cl12 (Nat.le_of_ble_eq_true rfl) fk1588 (fun _ _ _ => rfl) dX12_trust_53 (fun x15 => ?_)
        refine g_gS (fun hs => ?_)
        refine g_bRv (pc := 56) (c_V cl12 hs (p_X12_fault hl x1 (3 : Int32) x15 h2) y_X12_fault tw1814 dX12_trust_56 rfl (st := []) rfl (Nat.le_of_ble_eq_true rfl) (Nat.le_of_ble_eq_true rfl) (Nat.le_of_ble_eq_true rfl)) (fun _ h9 => ?_)
        refine g_goto (pc := 59) (tgt := 120) dX12_trust_59 rfl ?_
        refine g_lv [] rfl ?_
        exact hk120 h9
    · exact g_ret (pc := 35) rfl isRet_v dX12_trust_35 rfl
  · exact g_ret (pc := 17) rfl isRet_v dX12_trust_17 rfl
theorem p_X12_trust {l : Launch} {E : aE} (hl : l.stackTraces = false) (x1 : Nat) (h0 : aH) : MO (fun (_ : Unit) => .inl none) l E yX12_trust (.code yX12_trust cX12_trust 3 none) 5 114 [.ref (e_z E + x1)] h0 (m_X12_trust x1 h0) := g_met hl (by decide +kernel) (Nat.le_of_ble_eq_true rfl) (b_X12_trust hl _ _ x1 h0)
theorem dX12_pager_0 : decode cX12_pager 0 = .ok (.aload_n 0, 1) := by decide +kernel
theorem dX12_pager_1 : decode cX12_pager 1 = .ok (.bipush 12, 2) := by decide +kernel
theorem dX12_pager_3 : decode cX12_pager 3 = .ok (.aload_n 0, 1) := by decide +kernel
theorem dX12_pager_4 : decode cX12_pager 4 = .ok (.getfield 276, 3) := by decide +kernel
theorem dX12_pager_7 : decode cX12_pager 7 = .ok (.invokevirtual 259, 3) := by decide +kernel
theorem dX12_pager_10 : decode cX12_pager 10 = .ok (.aload_n 0, 1) := by decide +kernel
theorem dX12_pager_11 : decode cX12_pager 11 = .ok (.getfield 180, 3) := by decide +kernel
theorem dX12_pager_14 : decode cX12_pager 14 = .ok (.ifCond .ne 19, 3) := by decide +kernel
theorem dX12_pager_17 : decode cX12_pager 17 = .ok (.aload_n 0, 1) := by decide +kernel
theorem dX12_pager_18 : decode cX12_pager 18 = .ok (.getfield 103, 3) := by decide +kernel
theorem dX12_pager_21 : decode cX12_pager 21 = .ok (.aload_n 0, 1) := by decide +kernel
theorem dX12_pager_22 : decode cX12_pager 22 = .ok (.getfield 276, 3) := by decide +kernel
theorem dX12_pager_25 : decode cX12_pager 25 = .ok (.aload_n 0, 1) := by decide +kernel
theorem dX12_pager_26 : decode cX12_pager 26 = .ok (.iconst 0, 1) := by decide +kernel
theorem dX12_pager_27 : decode cX12_pager 27 = .ok (.bipush 9, 2) := by decide +kernel
theorem dX12_pager_29 : decode cX12_pager 29 = .ok (.invokevirtual 262, 3) := by decide +kernel
theorem dX12_pager_32 : decode cX12_pager 32 = .ok (.iastore, 1) := by decide +kernel
theorem dX12_pager_33 : decode cX12_pager 33 = .ok (.aload_n 0, 1) := by decide +kernel
theorem dX12_pager_34 : decode cX12_pager 34 = .ok (.getfield 180, 3) := by decide +kernel
theorem dX12_pager_37 : decode cX12_pager 37 = .ok (.ifCond .ne 23, 3) := by decide +kernel
theorem dX12_pager_40 : decode cX12_pager 40 = .ok (.aload_n 0, 1) := by decide +kernel
theorem dX12_pager_41 : decode cX12_pager 41 = .ok (.getfield 106, 3) := by decide +kernel
theorem dX12_pager_44 : decode cX12_pager 44 = .ok (.aload_n 0, 1) := by decide +kernel
theorem dX12_pager_45 : decode cX12_pager 45 = .ok (.getfield 276, 3) := by decide +kernel
theorem dX12_pager_48 : decode cX12_pager 48 = .ok (.bipush 60, 2) := by decide +kernel
theorem dX12_pager_50 : decode cX12_pager 50 = .ok (.aload_n 0, 1) := by decide +kernel
theorem dX12_pager_51 : decode cX12_pager 51 = .ok (.iconst 1, 1) := by decide +kernel
theorem dX12_pager_52 : decode cX12_pager 52 = .ok (.sipush 168, 3) := by decide +kernel
theorem dX12_pager_55 : decode cX12_pager 55 = .ok (.invokevirtual 262, 3) := by decide +kernel
theorem dX12_pager_58 : decode cX12_pager 58 = .ok (.imul, 1) := by decide +kernel
theorem dX12_pager_59 : decode cX12_pager 59 = .ok (.iastore, 1) := by decide +kernel
theorem dX12_pager_60 : decode cX12_pager 60 = .ok (.iconst 0, 1) := by decide +kernel
theorem dX12_pager_61 : decode cX12_pager 61 = .ok (.istore_n 1, 1) := by decide +kernel
theorem dX12_pager_62 : decode cX12_pager 62 = .ok (.aload_n 0, 1) := by decide +kernel
theorem dX12_pager_63 : decode cX12_pager 63 = .ok (.getfield 180, 3) := by decide +kernel
theorem dX12_pager_66 : decode cX12_pager 66 = .ok (.ifCond .ne 76, 3) := by decide +kernel
theorem dX12_pager_69 : decode cX12_pager 69 = .ok (.iload_n 1, 1) := by decide +kernel
theorem dX12_pager_70 : decode cX12_pager 70 = .ok (.ifCond .eq 12, 3) := by decide +kernel
theorem dX12_pager_73 : decode cX12_pager 73 = .ok (.aload_n 0, 1) := by decide +kernel
theorem dX12_pager_74 : decode cX12_pager 74 = .ok (.bipush 59, 2) := by decide +kernel
theorem dX12_pager_76 : decode cX12_pager 76 = .ok (.invokevirtual 216, 3) := by decide +kernel
theorem dX12_pager_79 : decode cX12_pager 79 = .ok (.ifCond .ne 63, 3) := by decide +kernel
theorem dX12_pager_82 : decode cX12_pager 82 = .ok (.aload_n 0, 1) := by decide +kernel
theorem dX12_pager_83 : decode cX12_pager 83 = .ok (.iconst 0, 1) := by decide +kernel
theorem dX12_pager_84 : decode cX12_pager 84 = .ok (.aload_n 0, 1) := by decide +kernel
theorem dX12_pager_85 : decode cX12_pager 85 = .ok (.getfield 256, 3) := by decide +kernel
theorem dX12_pager_88 : decode cX12_pager 88 = .ok (.invokevirtual 270, 3) := by decide +kernel
theorem dX12_pager_91 : decode cX12_pager 91 = .ok (.istore_n 2, 1) := by decide +kernel
theorem dX12_pager_92 : decode cX12_pager 92 = .ok (.aload_n 0, 1) := by decide +kernel
theorem dX12_pager_93 : decode cX12_pager 93 = .ok (.getfield 180, 3) := by decide +kernel
theorem dX12_pager_96 : decode cX12_pager 96 = .ok (.ifCond .ne 18, 3) := by decide +kernel
theorem dX12_pager_99 : decode cX12_pager 99 = .ok (.iload_n 1, 1) := by decide +kernel
theorem dX12_pager_100 : decode cX12_pager 100 = .ok (.bipush 8, 2) := by decide +kernel
theorem dX12_pager_102 : decode cX12_pager 102 = .ok (.if_icmp .ne 12, 3) := by decide +kernel
theorem dX12_pager_105 : decode cX12_pager 105 = .ok (.aload_n 0, 1) := by decide +kernel
theorem dX12_pager_106 : decode cX12_pager 106 = .ok (.iconst 5, 1) := by decide +kernel
theorem dX12_pager_107 : decode cX12_pager 107 = .ok (.aload_n 0, 1) := by decide +kernel
theorem dX12_pager_108 : decode cX12_pager 108 = .ok (.getfield 201, 3) := by decide +kernel
theorem dX12_pager_111 : decode cX12_pager 111 = .ok (.invokevirtual 220, 3) := by decide +kernel
theorem dX12_pager_114 : decode cX12_pager 114 = .ok (.aload_n 0, 1) := by decide +kernel
theorem dX12_pager_115 : decode cX12_pager 115 = .ok (.getfield 180, 3) := by decide +kernel
theorem dX12_pager_118 : decode cX12_pager 118 = .ok (.ifCond .ne 21, 3) := by decide +kernel
theorem dX12_pager_121 : decode cX12_pager 121 = .ok (.aload_n 0, 1) := by decide +kernel
theorem dX12_pager_122 : decode cX12_pager 122 = .ok (.getfield 112, 3) := by decide +kernel
theorem dX12_pager_125 : decode cX12_pager 125 = .ok (.bipush 8, 2) := by decide +kernel
theorem dX12_pager_127 : decode cX12_pager 127 = .ok (.aload_n 0, 1) := by decide +kernel
theorem dX12_pager_128 : decode cX12_pager 128 = .ok (.getfield 276, 3) := by decide +kernel
theorem dX12_pager_131 : decode cX12_pager 131 = .ok (.imul, 1) := by decide +kernel
theorem dX12_pager_132 : decode cX12_pager 132 = .ok (.iload_n 1, 1) := by decide +kernel
theorem dX12_pager_133 : decode cX12_pager 133 = .ok (.iadd, 1) := by decide +kernel
theorem dX12_pager_134 : decode cX12_pager 134 = .ok (.iload_n 2, 1) := by decide +kernel
theorem dX12_pager_135 : decode cX12_pager 135 = .ok (.iastore, 1) := by decide +kernel
theorem dX12_pager_136 : decode cX12_pager 136 = .ok (.iinc 1 1, 3) := by decide +kernel
theorem dX12_pager_139 : decode cX12_pager 139 = .ok (.goto (-77), 3) := by decide +kernel
theorem dX12_pager_142 : decode cX12_pager 142 = .ok (.aload_n 0, 1) := by decide +kernel
theorem dX12_pager_143 : decode cX12_pager 143 = .ok (.getfield 109, 3) := by decide +kernel
theorem dX12_pager_146 : decode cX12_pager 146 = .ok (.aload_n 0, 1) := by decide +kernel
theorem dX12_pager_147 : decode cX12_pager 147 = .ok (.getfield 276, 3) := by decide +kernel
theorem dX12_pager_150 : decode cX12_pager 150 = .ok (.iload_n 1, 1) := by decide +kernel
theorem dX12_pager_151 : decode cX12_pager 151 = .ok (.iastore, 1) := by decide +kernel
theorem dX12_pager_152 : decode cX12_pager 152 = .ok (.aload_n 0, 1) := by decide +kernel
theorem dX12_pager_153 : decode cX12_pager 153 = .ok (.dup, 1) := by decide +kernel
theorem dX12_pager_154 : decode cX12_pager 154 = .ok (.getfield 276, 3) := by decide +kernel
theorem dX12_pager_157 : decode cX12_pager 157 = .ok (.iconst 1, 1) := by decide +kernel
theorem dX12_pager_158 : decode cX12_pager 158 = .ok (.iadd, 1) := by decide +kernel
theorem dX12_pager_159 : decode cX12_pager 159 = .ok (.putfield 276, 3) := by decide +kernel
theorem dX12_pager_162 : decode cX12_pager 162 = .ok (.return_, 1) := by decide +kernel
abbrev M_X12_pager : aM := (yX12_pager.cls, cX12_pager, 3, none, [], yX12_pager.name == "<init>")
abbrev J_X12_pager (l : Launch) (E : aE) (n0 m0 : Nat) := GG (fun (_ : Unit) => .inl none) l E M_X12_pager 5 114 n0 m0
theorem b_X12_pager {l : Launch} {E : aE} (hl : l.stackTraces = false) (n0 m0 : Nat) (x1 : Nat) (h0 : aH) : J_X12_pager l E n0 m0 0 [(0, .ref (e_z E + x1))] [] h0 (m_X12_pager x1 h0) := by
  unfold m_X12_pager
  refine g_aload_n (pc := 0) dX12_pager_0 0 rfl ?_
  refine g_bipush (pc := 1) dX12_pager_1 cb_12 ?_
  refine g_aload_n (pc := 3) dX12_pager_3 0 rfl ?_
  refine g_geti (pc := 4) cl12 (Nat.le_of_ble_eq_true rfl) fk1592 (fun _ _ _ => rfl) dX12_pager_4 (fun x2 => ?_)
  refine g_gS (fun hs => ?_)
  refine g_bRv (pc := 7) (c_V cl12 hs (p_X12_newName hl x1 (12 : Int32) x2 h0) y_X12_newName tw1849 dX12_pager_7 rfl (st := []) rfl (Nat.le_of_ble_eq_true rfl) (Nat.le_of_ble_eq_true rfl) (Nat.le_of_ble_eq_true rfl)) (fun _ h1 => ?_)
  refine g_aload_n (pc := 10) dX12_pager_10 0 rfl ?_
  refine g_geti (pc := 11) cl12 (Nat.le_of_ble_eq_true rfl) fk1584 (fun _ _ _ => rfl) dX12_pager_11 (fun x3 => ?_)
  refine g_join (fun k => ∀ (h2 : aH), J_X12_pager l E n0 m0 33 [(0, .ref (e_z E + x1))] [] h2 (k h2)) (fun h2 => ?_) (fun k33 hk33 => ?_)
  · refine g_aload_n (pc := 33) dX12_pager_33 0 rfl ?_
    refine g_geti (pc := 34) cl12 (Nat.le_of_ble_eq_true rfl) fk1584 (fun _ _ _ => rfl) dX12_pager_34 (fun x4 => ?_)
    refine g_join (fun k => ∀ (h3 : aH), J_X12_pager l E n0 m0 60 [(0, .ref (e_z E + x1))] [] h3 (k h3)) (fun h3 => ?_) (fun k60 hk60 => ?_)
    · refine g_iconst (pc := 60) dX12_pager_60 ci_0 ?_
      refine g_istore_n (pc := 61) (lv' := [(1, .int (0 : Int32)), (0, .ref (e_z E + x1))]) dX12_pager_61 (Nat.le_of_ble_eq_true rfl) rfl ?_
      refine g_join (fun k => ∀ (x5 : Int32) (h4 : aH), J_X12_pager l E n0 m0 142 [(0, .ref (e_z E + x1)), (1, .int x5)] [] h4 (k x5 h4)) (fun x5 h4 => ?_) (fun k142 hk142 => ?_)
      · refine g_aload_n (pc := 142) dX12_pager_142 0 rfl ?_
        refine g_getr (pc := 143) cl12 (Nat.le_of_ble_eq_true rfl) fk1602 (fun _ _ _ => rfl) dX12_pager_143 (fun x6 => ?_)
        refine g_aload_n (pc := 146) dX12_pager_146 0 rfl ?_
        refine g_geti (pc := 147) cl12 (Nat.le_of_ble_eq_true rfl) fk1592 (fun _ _ _ => rfl) dX12_pager_147 (fun x7 => ?_)
        refine g_iload_n (pc := 150) dX12_pager_150 1 rfl ?_
        refine g_iast (pc := 151) dX12_pager_151 (fun h5 => ?_)
        refine g_aload_n (pc := 152) dX12_pager_152 0 rfl ?_
        refine g_dup (pc := 153) rfl dX12_pager_153 ?_
        refine g_geti (pc := 154) cl12 (Nat.le_of_ble_eq_true rfl) fk1592 (fun _ _ _ => rfl) dX12_pager_154 (fun x8 => ?_)
        refine g_iconst (pc := 157) dX12_pager_157 ci_1 ?_
        refine g_iadd (pc := 158) dX12_pager_158 ?_
        refine g_puti (pc := 159) cl12 (Nat.le_of_ble_eq_true rfl) (Or.inl ⟨rfl, fk1592⟩) (fun _ _ _ => rfl) (fun _ => ⟨rfl, rfl⟩) dX12_pager_159 (fun h6 => ?_)
        exact g_ret (pc := 162) rfl isRet_v dX12_pager_162 rfl
      refine g_lv [1, 0] rfl ?_
      refine g_loop1 (F := (m_X12_pager_L62 x1 k142)) (fun x9 => [(0, .ref (e_z E + x1)), (1, .int x9)]) (fun r62 hr62 x9 h7 => ?_) _ _ _
      unfold m_X12_pager_L62
      refine g_aload_n (pc := 62) dX12_pager_62 0 rfl ?_
      refine g_geti (pc := 63) cl12 (Nat.le_of_ble_eq_true rfl) fk1584 (fun _ _ _ => rfl) dX12_pager_63 (fun x10 => ?_)
      refine g_ifne (pc := 66) (tgt := 142) dX12_pager_66 rfl ?_ ?_
      · refine g_iload_n (pc := 69) dX12_pager_69 1 rfl ?_
        refine g_join (fun k => ∀ (h8 : aH), J_X12_pager l E n0 m0 82 [(0, .ref (e_z E + x1)), (1, .int x9)] [] h8 (k h8)) (fun h8 => ?_) (fun k82 hk82 => ?_)
        · refine g_aload_n (pc := 82) dX12_pager_82 0 rfl ?_
          refine g_iconst (pc := 83) dX12_pager_83 ci_0 ?_
          refine g_aload_n (pc := 84) dX12_pager_84 0 rfl ?_
          refine g_geti (pc := 85) cl12 (Nat.le_of_ble_eq_true rfl) fk1590 (fun _ _ _ => rfl) dX12_pager_85 (fun x11 => ?_)
          refine g_gS (fun hs => ?_)
          refine g_bRi (pc := 88) (c_V cl12 hs (p_X12_named hl x1 (0 : Int32) x11 h8) y_X12_named tw1873 dX12_pager_88 rfl (st := []) rfl (Nat.le_of_ble_eq_true rfl) (Nat.le_of_ble_eq_true rfl) (Nat.le_of_ble_eq_true rfl)) (fun x12 h9 => ?_)
          refine g_istore_n (pc := 91) (lv' := [(2, .int x12), (0, .ref (e_z E + x1)), (1, .int x9)]) dX12_pager_91 (Nat.le_of_ble_eq_true rfl) rfl ?_
          refine g_aload_n (pc := 92) dX12_pager_92 1 rfl ?_
          refine g_geti (pc := 93) cl12 (Nat.le_of_ble_eq_true rfl) fk1584 (fun _ _ _ => rfl) dX12_pager_93 (fun x13 => ?_)
          refine g_join (fun k => ∀ (h10 : aH), J_X12_pager l E n0 m0 114 [(0, .ref (e_z E + x1)), (1, .int x9), (2, .int x12)] [] h10 (k h10)) (fun h10 => ?_) (fun k114 hk114 => ?_)
          · refine g_aload_n (pc := 114) dX12_pager_114 0 rfl ?_
            refine g_geti (pc := 115) cl12 (Nat.le_of_ble_eq_true rfl) fk1584 (fun _ _ _ => rfl) dX12_pager_115 (fun x14 => ?_)
            refine g_join (fun k => ∀ (x15 : Int32) (h11 : aH), J_X12_pager l E n0 m0 139 [(0, .ref (e_z E + x1)), (1, .int x15)] [] h11 (k x15 h11)) (fun x15 h11 => ?_) (fun k139 hk139 => ?_)
            · refine g_goto (pc := 139) (tgt := 62) dX12_pager_139 rfl ?_
              exact hr62 x15 h11
            refine g_ifne (pc := 118) (tgt := 139) dX12_pager_118 rfl ?_ ?_
            · refine g_aload_n (pc := 121) dX12_pager_121 0 rfl ?_
              refine g_getr (pc := 122) cl12 (Nat.le_of_ble_eq_true rfl) fk1603 (fun _ _ _ => rfl) dX12_pager_122 (fun x16 => ?_)
              refine g_bipush (pc := 125) dX12_pager_125 cb_8 ?_
              refine g_aload_n (pc := 127) dX12_pager_127 0 rfl ?_
              refine g_geti (pc := 128) cl12 (Nat.le_of_ble_eq_true rfl) fk1592 (fun _ _ _ => rfl) dX12_pager_128 (fun x17 => ?_)
              refine g_imul (pc := 131) dX12_pager_131 ?_
              refine g_iload_n (pc := 132) dX12_pager_132 1 rfl ?_
              refine g_iadd (pc := 133) dX12_pager_133 ?_
              refine g_iload_n (pc := 134) dX12_pager_134 2 rfl ?_
              refine g_iast (pc := 135) dX12_pager_135 (fun h12 => ?_)
              refine g_iincN (pc := 136) dX12_pager_136 1 rfl ci_1 (Nat.le_of_ble_eq_true rfl) (fun x18 => ?_)
              refine g_lvr (lv' := [(1, .int x18), (0, .ref (e_z E + x1)), (2, .int x12)]) rfl ?_
              refine g_lv [1, 0] rfl ?_
              exact hk139 x18 h12
            · refine g_lv [0, 1] rfl ?_
              exact hk139 x9 h10
          refine g_ifne (pc := 96) (tgt := 114) dX12_pager_96 rfl ?_ ?_
          · refine g_iload_n (pc := 99) dX12_pager_99 2 rfl ?_
            refine g_bipush (pc := 100) dX12_pager_100 cb_8 ?_
            refine g_icmpne (pc := 102) (tgt := 114) dX12_pager_102 rfl ?_ ?_
            · refine g_aload_n (pc := 105) dX12_pager_105 1 rfl ?_
              refine g_iconst (pc := 106) dX12_pager_106 ci_5 ?_
              refine g_aload_n (pc := 107) dX12_pager_107 1 rfl ?_
              refine g_geti (pc := 108) cl12 (Nat.le_of_ble_eq_true rfl) fk1588 (fun _ _ _ => rfl) dX12_pager_108 (fun x19 => ?_)
              refine g_gS (fun hs => ?_)
              refine g_bRv (pc := 111) (c_V cl12 hs (p_X12_fault hl x1 (5 : Int32) x19 h9) y_X12_fault tw1814 dX12_pager_111 rfl (st := []) rfl (Nat.le_of_ble_eq_true rfl) (Nat.le_of_ble_eq_true rfl) (Nat.le_of_ble_eq_true rfl)) (fun _ h13 => ?_)
              refine g_lv [1, 2, 0] rfl ?_
              exact hk114 h13
            · refine g_lv [1, 2, 0] rfl ?_
              exact hk114 h9
          · refine g_lv [1, 2, 0] rfl ?_
            exact hk114 h9
        refine g_ifeq (pc := 70) (tgt := 82) dX12_pager_70 rfl ?_ ?_
        · exact hk82 h7
        · refine g_aload_n (pc := 73) dX12_pager_73 0 rfl ?_
          refine g_bipush (pc := 74) dX12_pager_74 cb_59 ?_
          refine g_gS (fun hs => ?_)
          refine g_bRi (pc := 76) (c_V cl12 hs (p_X12_isNext hl x1 (59 : Int32) h7) y_X12_isNext tw1836 dX12_pager_76 rfl (st := []) rfl (Nat.le_of_ble_eq_true rfl) (Nat.le_of_ble_eq_true rfl) (Nat.le_of_ble_eq_true rfl)) (fun x20 h14 => ?_)
          refine g_ifne (pc := 79) (tgt := 142) dX12_pager_79 rfl ?_ ?_
          · exact hk82 h14
          · exact hk142 x9 h14
      · exact hk142 x9 h7
    refine g_ifne (pc := 37) (tgt := 60) dX12_pager_37 rfl ?_ ?_
    · refine g_aload_n (pc := 40) dX12_pager_40 0 rfl ?_
      refine g_getr (pc := 41) cl12 (Nat.le_of_ble_eq_true rfl) fk1601 (fun _ _ _ => rfl) dX12_pager_41 (fun x21 => ?_)
      refine g_aload_n (pc := 44) dX12_pager_44 0 rfl ?_
      refine g_geti (pc := 45) cl12 (Nat.le_of_ble_eq_true rfl) fk1592 (fun _ _ _ => rfl) dX12_pager_45 (fun x22 => ?_)
      refine g_bipush (pc := 48) dX12_pager_48 cb_60 ?_
      refine g_aload_n (pc := 50) dX12_pager_50 0 rfl ?_
      refine g_iconst (pc := 51) dX12_pager_51 ci_1 ?_
      refine g_sipush (pc := 52) dX12_pager_52 cs_168 ?_
      refine g_gS (fun hs => ?_)
      refine g_bRi (pc := 55) (c_V cl12 hs (p_X12_number hl x1 (1 : Int32) (168 : Int32) h2) y_X12_number tw1818 dX12_pager_55 rfl (st := [.int (60 : Int32), .int x22, .ref (e_z E + x21)]) rfl (Nat.le_of_ble_eq_true rfl) (Nat.le_of_ble_eq_true rfl) (Nat.le_of_ble_eq_true rfl)) (fun x23 h15 => ?_)
      refine g_imul (pc := 58) dX12_pager_58 ?_
      refine g_iast (pc := 59) dX12_pager_59 (fun h16 => ?_)
      exact hk60 h16
    · exact hk60 h2
  refine g_ifne (pc := 14) (tgt := 33) dX12_pager_14 rfl ?_ ?_
  · refine g_aload_n (pc := 17) dX12_pager_17 0 rfl ?_
    refine g_getr (pc := 18) cl12 (Nat.le_of_ble_eq_true rfl) fk1600 (fun _ _ _ => rfl) dX12_pager_18 (fun x24 => ?_)
    refine g_aload_n (pc := 21) dX12_pager_21 0 rfl ?_
    refine g_geti (pc := 22) cl12 (Nat.le_of_ble_eq_true rfl) fk1592 (fun _ _ _ => rfl) dX12_pager_22 (fun x25 => ?_)
    refine g_aload_n (pc := 25) dX12_pager_25 0 rfl ?_
    refine g_iconst (pc := 26) dX12_pager_26 ci_0 ?_
    refine g_bipush (pc := 27) dX12_pager_27 cb_9 ?_
    refine g_gS (fun hs => ?_)
    refine g_bRi (pc := 29) (c_V cl12 hs (p_X12_number hl x1 (0 : Int32) (9 : Int32) h1) y_X12_number tw1818 dX12_pager_29 rfl (st := [.int x25, .ref (e_z E + x24)]) rfl (Nat.le_of_ble_eq_true rfl) (Nat.le_of_ble_eq_true rfl) (Nat.le_of_ble_eq_true rfl)) (fun x26 h17 => ?_)
    refine g_iast (pc := 32) dX12_pager_32 (fun h18 => ?_)
    exact hk33 h18
  · exact hk33 h1
theorem p_X12_pager {l : Launch} {E : aE} (hl : l.stackTraces = false) (x1 : Nat) (h0 : aH) : MO (fun (_ : Unit) => .inl none) l E yX12_pager (.code yX12_pager cX12_pager 3 none) 5 114 [.ref (e_z E + x1)] h0 (m_X12_pager x1 h0) := g_met hl (by decide +kernel) (Nat.le_of_ble_eq_true rfl) (b_X12_pager hl _ _ x1 h0)
theorem dX12_engine_0 : decode cX12_engine 0 = .ok (.aload_n 0, 1) := by decide +kernel
theorem dX12_engine_1 : decode cX12_engine 1 = .ok (.bipush 18, 2) := by decide +kernel
theorem dX12_engine_3 : decode cX12_engine 3 = .ok (.aload_n 0, 1) := by decide +kernel
theorem dX12_engine_4 : decode cX12_engine 4 = .ok (.getfield 279, 3) := by decide +kernel
theorem dX12_engine_7 : decode cX12_engine 7 = .ok (.invokevirtual 259, 3) := by decide +kernel
theorem dX12_engine_10 : decode cX12_engine 10 = .ok (.aload_n 0, 1) := by decide +kernel
theorem dX12_engine_11 : decode cX12_engine 11 = .ok (.getfield 180, 3) := by decide +kernel
theorem dX12_engine_14 : decode cX12_engine 14 = .ok (.ifCond .ne 19, 3) := by decide +kernel
theorem dX12_engine_17 : decode cX12_engine 17 = .ok (.aload_n 0, 1) := by decide +kernel
theorem dX12_engine_18 : decode cX12_engine 18 = .ok (.getfield 115, 3) := by decide +kernel
theorem dX12_engine_21 : decode cX12_engine 21 = .ok (.aload_n 0, 1) := by decide +kernel
theorem dX12_engine_22 : decode cX12_engine 22 = .ok (.getfield 279, 3) := by decide +kernel
theorem dX12_engine_25 : decode cX12_engine 25 = .ok (.aload_n 0, 1) := by decide +kernel
theorem dX12_engine_26 : decode cX12_engine 26 = .ok (.iconst 0, 1) := by decide +kernel
theorem dX12_engine_27 : decode cX12_engine 27 = .ok (.bipush 120, 2) := by decide +kernel
theorem dX12_engine_29 : decode cX12_engine 29 = .ok (.invokevirtual 262, 3) := by decide +kernel
theorem dX12_engine_32 : decode cX12_engine 32 = .ok (.iastore, 1) := by decide +kernel
theorem dX12_engine_33 : decode cX12_engine 33 = .ok (.iconst 0, 1) := by decide +kernel
theorem dX12_engine_34 : decode cX12_engine 34 = .ok (.istore_n 1, 1) := by decide +kernel
theorem dX12_engine_35 : decode cX12_engine 35 = .ok (.aload_n 0, 1) := by decide +kernel
theorem dX12_engine_36 : decode cX12_engine 36 = .ok (.getfield 180, 3) := by decide +kernel
theorem dX12_engine_39 : decode cX12_engine 39 = .ok (.ifCond .ne 105, 3) := by decide +kernel
theorem dX12_engine_42 : decode cX12_engine 42 = .ok (.iload_n 1, 1) := by decide +kernel
theorem dX12_engine_43 : decode cX12_engine 43 = .ok (.ifCond .eq 12, 3) := by decide +kernel
theorem dX12_engine_46 : decode cX12_engine 46 = .ok (.aload_n 0, 1) := by decide +kernel
theorem dX12_engine_47 : decode cX12_engine 47 = .ok (.bipush 59, 2) := by decide +kernel
theorem dX12_engine_49 : decode cX12_engine 49 = .ok (.invokevirtual 216, 3) := by decide +kernel
theorem dX12_engine_52 : decode cX12_engine 52 = .ok (.ifCond .ne 92, 3) := by decide +kernel
theorem dX12_engine_55 : decode cX12_engine 55 = .ok (.aload_n 0, 1) := by decide +kernel
theorem dX12_engine_56 : decode cX12_engine 56 = .ok (.invokevirtual 237, 3) := by decide +kernel
theorem dX12_engine_59 : decode cX12_engine 59 = .ok (.lstore_n 2, 1) := by decide +kernel
theorem dX12_engine_60 : decode cX12_engine 60 = .ok (.aload_n 0, 1) := by decide +kernel
theorem dX12_engine_61 : decode cX12_engine 61 = .ok (.getfield 180, 3) := by decide +kernel
theorem dX12_engine_64 : decode cX12_engine 64 = .ok (.ifCond .ne 27, 3) := by decide +kernel
theorem dX12_engine_67 : decode cX12_engine 67 = .ok (.lload_n 2, 1) := by decide +kernel
theorem dX12_engine_68 : decode cX12_engine 68 = .ok (.ldc2_w 282, 3) := by decide +kernel
theorem dX12_engine_71 : decode cX12_engine 71 = .ok (.lcmp, 1) := by decide +kernel
theorem dX12_engine_72 : decode cX12_engine 72 = .ok (.ifCond .eq 19, 3) := by decide +kernel
theorem dX12_engine_75 : decode cX12_engine 75 = .ok (.lload_n 2, 1) := by decide +kernel
theorem dX12_engine_76 : decode cX12_engine 76 = .ok (.invokestatic 266, 3) := by decide +kernel
theorem dX12_engine_79 : decode cX12_engine 79 = .ok (.ifCond .ne 12, 3) := by decide +kernel
theorem dX12_engine_82 : decode cX12_engine 82 = .ok (.aload_n 0, 1) := by decide +kernel
theorem dX12_engine_83 : decode cX12_engine 83 = .ok (.iconst 1, 1) := by decide +kernel
theorem dX12_engine_84 : decode cX12_engine 84 = .ok (.aload_n 0, 1) := by decide +kernel
theorem dX12_engine_85 : decode cX12_engine 85 = .ok (.getfield 201, 3) := by decide +kernel
theorem dX12_engine_88 : decode cX12_engine 88 = .ok (.invokevirtual 220, 3) := by decide +kernel
theorem dX12_engine_91 : decode cX12_engine 91 = .ok (.aload_n 0, 1) := by decide +kernel
theorem dX12_engine_92 : decode cX12_engine 92 = .ok (.getfield 180, 3) := by decide +kernel
theorem dX12_engine_95 : decode cX12_engine 95 = .ok (.ifCond .ne 18, 3) := by decide +kernel
theorem dX12_engine_98 : decode cX12_engine 98 = .ok (.iload_n 1, 1) := by decide +kernel
theorem dX12_engine_99 : decode cX12_engine 99 = .ok (.bipush 6, 2) := by decide +kernel
theorem dX12_engine_101 : decode cX12_engine 101 = .ok (.if_icmp .ne 12, 3) := by decide +kernel
theorem dX12_engine_104 : decode cX12_engine 104 = .ok (.aload_n 0, 1) := by decide +kernel
theorem dX12_engine_105 : decode cX12_engine 105 = .ok (.iconst 5, 1) := by decide +kernel
theorem dX12_engine_106 : decode cX12_engine 106 = .ok (.aload_n 0, 1) := by decide +kernel
theorem dX12_engine_107 : decode cX12_engine 107 = .ok (.getfield 201, 3) := by decide +kernel
theorem dX12_engine_110 : decode cX12_engine 110 = .ok (.invokevirtual 220, 3) := by decide +kernel
theorem dX12_engine_113 : decode cX12_engine 113 = .ok (.aload_n 0, 1) := by decide +kernel
theorem dX12_engine_114 : decode cX12_engine 114 = .ok (.getfield 180, 3) := by decide +kernel
theorem dX12_engine_117 : decode cX12_engine 117 = .ok (.ifCond .ne 24, 3) := by decide +kernel
theorem dX12_engine_120 : decode cX12_engine 120 = .ok (.aload_n 0, 1) := by decide +kernel
theorem dX12_engine_121 : decode cX12_engine 121 = .ok (.getfield 121, 3) := by decide +kernel
theorem dX12_engine_124 : decode cX12_engine 124 = .ok (.bipush 6, 2) := by decide +kernel
theorem dX12_engine_126 : decode cX12_engine 126 = .ok (.aload_n 0, 1) := by decide +kernel
theorem dX12_engine_127 : decode cX12_engine 127 = .ok (.getfield 279, 3) := by decide +kernel
theorem dX12_engine_130 : decode cX12_engine 130 = .ok (.imul, 1) := by decide +kernel
theorem dX12_engine_131 : decode cX12_engine 131 = .ok (.iload_n 1, 1) := by decide +kernel
theorem dX12_engine_132 : decode cX12_engine 132 = .ok (.iadd, 1) := by decide +kernel
theorem dX12_engine_133 : decode cX12_engine 133 = .ok (.lload_n 2, 1) := by decide +kernel
theorem dX12_engine_134 : decode cX12_engine 134 = .ok (.invokestatic 266, 3) := by decide +kernel
theorem dX12_engine_137 : decode cX12_engine 137 = .ok (.iastore, 1) := by decide +kernel
theorem dX12_engine_138 : decode cX12_engine 138 = .ok (.iinc 1 1, 3) := by decide +kernel
theorem dX12_engine_141 : decode cX12_engine 141 = .ok (.goto (-106), 3) := by decide +kernel
theorem dX12_engine_144 : decode cX12_engine 144 = .ok (.aload_n 0, 1) := by decide +kernel
theorem dX12_engine_145 : decode cX12_engine 145 = .ok (.getfield 118, 3) := by decide +kernel
theorem dX12_engine_148 : decode cX12_engine 148 = .ok (.aload_n 0, 1) := by decide +kernel
theorem dX12_engine_149 : decode cX12_engine 149 = .ok (.getfield 279, 3) := by decide +kernel
theorem dX12_engine_152 : decode cX12_engine 152 = .ok (.iload_n 1, 1) := by decide +kernel
theorem dX12_engine_153 : decode cX12_engine 153 = .ok (.iastore, 1) := by decide +kernel
theorem dX12_engine_154 : decode cX12_engine 154 = .ok (.aload_n 0, 1) := by decide +kernel
theorem dX12_engine_155 : decode cX12_engine 155 = .ok (.dup, 1) := by decide +kernel
theorem dX12_engine_156 : decode cX12_engine 156 = .ok (.getfield 279, 3) := by decide +kernel
theorem dX12_engine_159 : decode cX12_engine 159 = .ok (.iconst 1, 1) := by decide +kernel
theorem dX12_engine_160 : decode cX12_engine 160 = .ok (.iadd, 1) := by decide +kernel
theorem dX12_engine_161 : decode cX12_engine 161 = .ok (.putfield 279, 3) := by decide +kernel
theorem dX12_engine_164 : decode cX12_engine 164 = .ok (.return_, 1) := by decide +kernel
abbrev M_X12_engine : aM := (yX12_engine.cls, cX12_engine, 4, none, [], yX12_engine.name == "<init>")
abbrev J_X12_engine (l : Launch) (E : aE) (n0 m0 : Nat) := GG (fun (_ : Unit) => .inl none) l E M_X12_engine 5 113 n0 m0
theorem b_X12_engine {l : Launch} {E : aE} (hl : l.stackTraces = false) (n0 m0 : Nat) (x1 : Nat) (h0 : aH) : J_X12_engine l E n0 m0 0 [(0, .ref (e_z E + x1))] [] h0 (m_X12_engine x1 h0) := by
  unfold m_X12_engine
  refine g_aload_n (pc := 0) dX12_engine_0 0 rfl ?_
  refine g_bipush (pc := 1) dX12_engine_1 cb_18 ?_
  refine g_aload_n (pc := 3) dX12_engine_3 0 rfl ?_
  refine g_geti (pc := 4) cl12 (Nat.le_of_ble_eq_true rfl) fk1593 (fun _ _ _ => rfl) dX12_engine_4 (fun x2 => ?_)
  refine g_gS (fun hs => ?_)
  refine g_bRv (pc := 7) (c_V cl12 hs (p_X12_newName hl x1 (18 : Int32) x2 h0) y_X12_newName tw1849 dX12_engine_7 rfl (st := []) rfl (Nat.le_of_ble_eq_true rfl) (Nat.le_of_ble_eq_true rfl) (Nat.le_of_ble_eq_true rfl)) (fun _ h1 => ?_)
  refine g_aload_n (pc := 10) dX12_engine_10 0 rfl ?_
  refine g_geti (pc := 11) cl12 (Nat.le_of_ble_eq_true rfl) fk1584 (fun _ _ _ => rfl) dX12_engine_11 (fun x3 => ?_)
  refine g_join (fun k => ∀ (h2 : aH), J_X12_engine l E n0 m0 33 [(0, .ref (e_z E + x1))] [] h2 (k h2)) (fun h2 => ?_) (fun k33 hk33 => ?_)
  · refine g_iconst (pc := 33) dX12_engine_33 ci_0 ?_
    refine g_istore_n (pc := 34) (lv' := [(1, .int (0 : Int32)), (0, .ref (e_z E + x1))]) dX12_engine_34 (Nat.le_of_ble_eq_true rfl) rfl ?_
    refine g_join (fun k => ∀ (x4 : Int32) (h3 : aH), J_X12_engine l E n0 m0 144 [(0, .ref (e_z E + x1)), (1, .int x4)] [] h3 (k x4 h3)) (fun x4 h3 => ?_) (fun k144 hk144 => ?_)
    · refine g_aload_n (pc := 144) dX12_engine_144 0 rfl ?_
      refine g_getr (pc := 145) cl12 (Nat.le_of_ble_eq_true rfl) fk1605 (fun _ _ _ => rfl) dX12_engine_145 (fun x5 => ?_)
      refine g_aload_n (pc := 148) dX12_engine_148 0 rfl ?_
      refine g_geti (pc := 149) cl12 (Nat.le_of_ble_eq_true rfl) fk1593 (fun _ _ _ => rfl) dX12_engine_149 (fun x6 => ?_)
      refine g_iload_n (pc := 152) dX12_engine_152 1 rfl ?_
      refine g_iast (pc := 153) dX12_engine_153 (fun h4 => ?_)
      refine g_aload_n (pc := 154) dX12_engine_154 0 rfl ?_
      refine g_dup (pc := 155) rfl dX12_engine_155 ?_
      refine g_geti (pc := 156) cl12 (Nat.le_of_ble_eq_true rfl) fk1593 (fun _ _ _ => rfl) dX12_engine_156 (fun x7 => ?_)
      refine g_iconst (pc := 159) dX12_engine_159 ci_1 ?_
      refine g_iadd (pc := 160) dX12_engine_160 ?_
      refine g_puti (pc := 161) cl12 (Nat.le_of_ble_eq_true rfl) (Or.inl ⟨rfl, fk1593⟩) (fun _ _ _ => rfl) (fun _ => ⟨rfl, rfl⟩) dX12_engine_161 (fun h5 => ?_)
      exact g_ret (pc := 164) rfl isRet_v dX12_engine_164 rfl
    refine g_lv [1, 0] rfl ?_
    refine g_loop1 (F := (m_X12_engine_L35 x1 k144)) (fun x8 => [(0, .ref (e_z E + x1)), (1, .int x8)]) (fun r35 hr35 x8 h6 => ?_) _ _ _
    unfold m_X12_engine_L35
    refine g_aload_n (pc := 35) dX12_engine_35 0 rfl ?_
    refine g_geti (pc := 36) cl12 (Nat.le_of_ble_eq_true rfl) fk1584 (fun _ _ _ => rfl) dX12_engine_36 (fun x9 => ?_)
    refine g_ifne (pc := 39) (tgt := 144) dX12_engine_39 rfl ?_ ?_
    · refine g_iload_n (pc := 42) dX12_engine_42 1 rfl ?_
      refine g_join (fun k => ∀ (h7 : aH), J_X12_engine l E n0 m0 55 [(0, .ref (e_z E + x1)), (1, .int x8)] [] h7 (k h7)) (fun h7 => ?_) (fun k55 hk55 => ?_)
      · refine g_aload_n (pc := 55) dX12_engine_55 0 rfl ?_
        refine g_gS (fun hs => ?_)
        refine g_bRl (pc := 56) (c_V cl12 hs (p_X12_name hl x1 h7) y_X12_name tw1853 dX12_engine_56 rfl (st := []) rfl (Nat.le_of_ble_eq_true rfl) (Nat.le_of_ble_eq_true rfl) (Nat.le_of_ble_eq_true rfl)) (fun x10 h8 => ?_)
        refine g_lstore_n (pc := 59) (lv' := [(2, .long x10), (0, .ref (e_z E + x1)), (1, .int x8)]) dX12_engine_59 (Nat.le_of_ble_eq_true rfl) rfl ?_
        refine g_aload_n (pc := 60) dX12_engine_60 1 rfl ?_
        refine g_geti (pc := 61) cl12 (Nat.le_of_ble_eq_true rfl) fk1584 (fun _ _ _ => rfl) dX12_engine_61 (fun x11 => ?_)
        refine g_join (fun k => ∀ (h9 : aH), J_X12_engine l E n0 m0 91 [(0, .ref (e_z E + x1)), (1, .int x8), (2, .long x10)] [] h9 (k h9)) (fun h9 => ?_) (fun k91 hk91 => ?_)
        · refine g_aload_n (pc := 91) dX12_engine_91 0 rfl ?_
          refine g_geti (pc := 92) cl12 (Nat.le_of_ble_eq_true rfl) fk1584 (fun _ _ _ => rfl) dX12_engine_92 (fun x12 => ?_)
          refine g_join (fun k => ∀ (h10 : aH), J_X12_engine l E n0 m0 113 [(0, .ref (e_z E + x1)), (1, .int x8), (2, .long x10)] [] h10 (k h10)) (fun h10 => ?_) (fun k113 hk113 => ?_)
          · refine g_aload_n (pc := 113) dX12_engine_113 0 rfl ?_
            refine g_geti (pc := 114) cl12 (Nat.le_of_ble_eq_true rfl) fk1584 (fun _ _ _ => rfl) dX12_engine_114 (fun x13 => ?_)
            refine g_join (fun k => ∀ (x14 : Int32) (h11 : aH), J_X12_engine l E n0 m0 141 [(0, .ref (e_z E + x1)), (1, .int x14)] [] h11 (k x14 h11)) (fun x14 h11 => ?_) (fun k141 hk141 => ?_)
            · refine g_goto (pc := 141) (tgt := 35) dX12_engine_141 rfl ?_
              exact hr35 x14 h11
            refine g_ifne (pc := 117) (tgt := 141) dX12_engine_117 rfl ?_ ?_
            · refine g_aload_n (pc := 120) dX12_engine_120 0 rfl ?_
              refine g_getr (pc := 121) cl12 (Nat.le_of_ble_eq_true rfl) fk1606 (fun _ _ _ => rfl) dX12_engine_121 (fun x15 => ?_)
              refine g_bipush (pc := 124) dX12_engine_124 cb_6 ?_
              refine g_aload_n (pc := 126) dX12_engine_126 0 rfl ?_
              refine g_geti (pc := 127) cl12 (Nat.le_of_ble_eq_true rfl) fk1593 (fun _ _ _ => rfl) dX12_engine_127 (fun x16 => ?_)
              refine g_imul (pc := 130) dX12_engine_130 ?_
              refine g_iload_n (pc := 131) dX12_engine_131 1 rfl ?_
              refine g_iadd (pc := 132) dX12_engine_132 ?_
              refine g_lload_n (pc := 133) dX12_engine_133 2 rfl ?_
              refine g_bRi (pc := 134) (c_S (p_X12_skillOf hl x10 h10) y_X12_skillOf tw1861 dX12_engine_134 rfl (st := [.int (((6 : Int32) * x16) + x8), .ref (e_z E + x15)]) rfl (Nat.le_of_ble_eq_true rfl) (Nat.le_of_ble_eq_true rfl) (Nat.le_of_ble_eq_true rfl)) (fun x17 h12 => ?_)
              refine g_iast (pc := 137) dX12_engine_137 (fun h13 => ?_)
              refine g_iincN (pc := 138) dX12_engine_138 1 rfl ci_1 (Nat.le_of_ble_eq_true rfl) (fun x18 => ?_)
              refine g_lvr (lv' := [(1, .int x18), (0, .ref (e_z E + x1)), (2, .long x10)]) rfl ?_
              refine g_lv [1, 0] rfl ?_
              exact hk141 x18 h13
            · refine g_lv [0, 1] rfl ?_
              exact hk141 x8 h10
          refine g_ifne (pc := 95) (tgt := 113) dX12_engine_95 rfl ?_ ?_
          · refine g_iload_n (pc := 98) dX12_engine_98 1 rfl ?_
            refine g_bipush (pc := 99) dX12_engine_99 cb_6 ?_
            refine g_icmpne (pc := 101) (tgt := 113) dX12_engine_101 rfl ?_ ?_
            · refine g_aload_n (pc := 104) dX12_engine_104 0 rfl ?_
              refine g_iconst (pc := 105) dX12_engine_105 ci_5 ?_
              refine g_aload_n (pc := 106) dX12_engine_106 0 rfl ?_
              refine g_geti (pc := 107) cl12 (Nat.le_of_ble_eq_true rfl) fk1588 (fun _ _ _ => rfl) dX12_engine_107 (fun x19 => ?_)
              refine g_gS (fun hs => ?_)
              refine g_bRv (pc := 110) (c_V cl12 hs (p_X12_fault hl x1 (5 : Int32) x19 h9) y_X12_fault tw1814 dX12_engine_110 rfl (st := []) rfl (Nat.le_of_ble_eq_true rfl) (Nat.le_of_ble_eq_true rfl) (Nat.le_of_ble_eq_true rfl)) (fun _ h14 => ?_)
              exact hk113 h14
            · exact hk113 h9
          · exact hk113 h9
        refine g_ifne (pc := 64) (tgt := 91) dX12_engine_64 rfl ?_ ?_
        · refine g_lload_n (pc := 67) dX12_engine_67 0 rfl ?_
          refine g_ldc2 (pc := 68) tw1887 dX12_engine_68 ?_
          refine g_lcmp (pc := 71) dX12_engine_71 ?_
          refine g_ifeq (pc := 72) (tgt := 91) dX12_engine_72 rfl ?_ ?_
          · refine g_lv [1, 2, 0] rfl ?_
            exact hk91 h8
          · refine g_lload_n (pc := 75) dX12_engine_75 0 rfl ?_
            refine g_bRi (pc := 76) (c_S (p_X12_skillOf hl x10 h8) y_X12_skillOf tw1861 dX12_engine_76 rfl (st := []) rfl (Nat.le_of_ble_eq_true rfl) (Nat.le_of_ble_eq_true rfl) (Nat.le_of_ble_eq_true rfl)) (fun x20 h15 => ?_)
            refine g_ifne (pc := 79) (tgt := 91) dX12_engine_79 rfl ?_ ?_
            · refine g_aload_n (pc := 82) dX12_engine_82 1 rfl ?_
              refine g_iconst (pc := 83) dX12_engine_83 ci_1 ?_
              refine g_aload_n (pc := 84) dX12_engine_84 1 rfl ?_
              refine g_geti (pc := 85) cl12 (Nat.le_of_ble_eq_true rfl) fk1588 (fun _ _ _ => rfl) dX12_engine_85 (fun x21 => ?_)
              refine g_gS (fun hs => ?_)
              refine g_bRv (pc := 88) (c_V cl12 hs (p_X12_fault hl x1 (1 : Int32) x21 h15) y_X12_fault tw1814 dX12_engine_88 rfl (st := []) rfl (Nat.le_of_ble_eq_true rfl) (Nat.le_of_ble_eq_true rfl) (Nat.le_of_ble_eq_true rfl)) (fun _ h16 => ?_)
              refine g_lv [1, 2, 0] rfl ?_
              exact hk91 h16
            · refine g_lv [1, 2, 0] rfl ?_
              exact hk91 h15
        · refine g_lv [1, 2, 0] rfl ?_
          exact hk91 h8
      refine g_ifeq (pc := 43) (tgt := 55) dX12_engine_43 rfl ?_ ?_
      · exact hk55 h6
      · refine g_aload_n (pc := 46) dX12_engine_46 0 rfl ?_
        refine g_bipush (pc := 47) dX12_engine_47 cb_59 ?_
        refine g_gS (fun hs => ?_)
        refine g_bRi (pc := 49) (c_V cl12 hs (p_X12_isNext hl x1 (59 : Int32) h6) y_X12_isNext tw1836 dX12_engine_49 rfl (st := []) rfl (Nat.le_of_ble_eq_true rfl) (Nat.le_of_ble_eq_true rfl) (Nat.le_of_ble_eq_true rfl)) (fun x22 h17 => ?_)
        refine g_ifne (pc := 52) (tgt := 144) dX12_engine_52 rfl ?_ ?_
        · exact hk55 h17
        · exact hk144 x8 h17
    · exact hk144 x8 h6
  refine g_ifne (pc := 14) (tgt := 33) dX12_engine_14 rfl ?_ ?_
  · refine g_aload_n (pc := 17) dX12_engine_17 0 rfl ?_
    refine g_getr (pc := 18) cl12 (Nat.le_of_ble_eq_true rfl) fk1604 (fun _ _ _ => rfl) dX12_engine_18 (fun x23 => ?_)
    refine g_aload_n (pc := 21) dX12_engine_21 0 rfl ?_
    refine g_geti (pc := 22) cl12 (Nat.le_of_ble_eq_true rfl) fk1593 (fun _ _ _ => rfl) dX12_engine_22 (fun x24 => ?_)
    refine g_aload_n (pc := 25) dX12_engine_25 0 rfl ?_
    refine g_iconst (pc := 26) dX12_engine_26 ci_0 ?_
    refine g_bipush (pc := 27) dX12_engine_27 cb_120 ?_
    refine g_gS (fun hs => ?_)
    refine g_bRi (pc := 29) (c_V cl12 hs (p_X12_number hl x1 (0 : Int32) (120 : Int32) h1) y_X12_number tw1818 dX12_engine_29 rfl (st := [.int x24, .ref (e_z E + x23)]) rfl (Nat.le_of_ble_eq_true rfl) (Nat.le_of_ble_eq_true rfl) (Nat.le_of_ble_eq_true rfl)) (fun x25 h18 => ?_)
    refine g_iast (pc := 32) dX12_engine_32 (fun h19 => ?_)
    exact hk33 h19
  · exact hk33 h1
theorem p_X12_engine {l : Launch} {E : aE} (hl : l.stackTraces = false) (x1 : Nat) (h0 : aH) : MO (fun (_ : Unit) => .inl none) l E yX12_engine (.code yX12_engine cX12_engine 4 none) 5 113 [.ref (e_z E + x1)] h0 (m_X12_engine x1 h0) := g_met hl (by decide +kernel) (Nat.le_of_ble_eq_true rfl) (b_X12_engine hl _ _ x1 h0)
theorem dX12_kind_0 : decode cX12_kind 0 = .ok (.aload_n 0, 1) := by decide +kernel
theorem dX12_kind_1 : decode cX12_kind 1 = .ok (.bipush 23, 2) := by decide +kernel
theorem dX12_kind_3 : decode cX12_kind 3 = .ok (.aload_n 0, 1) := by decide +kernel
theorem dX12_kind_4 : decode cX12_kind 4 = .ok (.getfield 284, 3) := by decide +kernel
theorem dX12_kind_7 : decode cX12_kind 7 = .ok (.invokevirtual 259, 3) := by decide +kernel
theorem dX12_kind_10 : decode cX12_kind 10 = .ok (.aload_n 0, 1) := by decide +kernel
theorem dX12_kind_11 : decode cX12_kind 11 = .ok (.getfield 180, 3) := by decide +kernel
theorem dX12_kind_14 : decode cX12_kind 14 = .ok (.ifCond .ne 20, 3) := by decide +kernel
theorem dX12_kind_17 : decode cX12_kind 17 = .ok (.aload_n 0, 1) := by decide +kernel
theorem dX12_kind_18 : decode cX12_kind 18 = .ok (.getfield 124, 3) := by decide +kernel
theorem dX12_kind_21 : decode cX12_kind 21 = .ok (.aload_n 0, 1) := by decide +kernel
theorem dX12_kind_22 : decode cX12_kind 22 = .ok (.getfield 284, 3) := by decide +kernel
theorem dX12_kind_25 : decode cX12_kind 25 = .ok (.aload_n 0, 1) := by decide +kernel
theorem dX12_kind_26 : decode cX12_kind 26 = .ok (.iconst 1, 1) := by decide +kernel
theorem dX12_kind_27 : decode cX12_kind 27 = .ok (.sipush 999, 3) := by decide +kernel
theorem dX12_kind_30 : decode cX12_kind 30 = .ok (.invokevirtual 262, 3) := by decide +kernel
theorem dX12_kind_33 : decode cX12_kind 33 = .ok (.iastore, 1) := by decide +kernel
theorem dX12_kind_34 : decode cX12_kind 34 = .ok (.aload_n 0, 1) := by decide +kernel
theorem dX12_kind_35 : decode cX12_kind 35 = .ok (.getfield 180, 3) := by decide +kernel
theorem dX12_kind_38 : decode cX12_kind 38 = .ok (.ifCond .ne 20, 3) := by decide +kernel
theorem dX12_kind_41 : decode cX12_kind 41 = .ok (.aload_n 0, 1) := by decide +kernel
theorem dX12_kind_42 : decode cX12_kind 42 = .ok (.getfield 127, 3) := by decide +kernel
theorem dX12_kind_45 : decode cX12_kind 45 = .ok (.aload_n 0, 1) := by decide +kernel
theorem dX12_kind_46 : decode cX12_kind 46 = .ok (.getfield 284, 3) := by decide +kernel
theorem dX12_kind_49 : decode cX12_kind 49 = .ok (.aload_n 0, 1) := by decide +kernel
theorem dX12_kind_50 : decode cX12_kind 50 = .ok (.iconst 0, 1) := by decide +kernel
theorem dX12_kind_51 : decode cX12_kind 51 = .ok (.sipush 240, 3) := by decide +kernel
theorem dX12_kind_54 : decode cX12_kind 54 = .ok (.invokevirtual 262, 3) := by decide +kernel
theorem dX12_kind_57 : decode cX12_kind 57 = .ok (.iastore, 1) := by decide +kernel
theorem dX12_kind_58 : decode cX12_kind 58 = .ok (.aload_n 0, 1) := by decide +kernel
theorem dX12_kind_59 : decode cX12_kind 59 = .ok (.getfield 180, 3) := by decide +kernel
theorem dX12_kind_62 : decode cX12_kind 62 = .ok (.ifCond .ne 18, 3) := by decide +kernel
theorem dX12_kind_65 : decode cX12_kind 65 = .ok (.aload_n 0, 1) := by decide +kernel
theorem dX12_kind_66 : decode cX12_kind 66 = .ok (.getfield 130, 3) := by decide +kernel
theorem dX12_kind_69 : decode cX12_kind 69 = .ok (.aload_n 0, 1) := by decide +kernel
theorem dX12_kind_70 : decode cX12_kind 70 = .ok (.getfield 284, 3) := by decide +kernel
theorem dX12_kind_73 : decode cX12_kind 73 = .ok (.aload_n 0, 1) := by decide +kernel
theorem dX12_kind_74 : decode cX12_kind 74 = .ok (.iconst 1, 1) := by decide +kernel
theorem dX12_kind_75 : decode cX12_kind 75 = .ok (.iconst 5, 1) := by decide +kernel
theorem dX12_kind_76 : decode cX12_kind 76 = .ok (.invokevirtual 262, 3) := by decide +kernel
theorem dX12_kind_79 : decode cX12_kind 79 = .ok (.iastore, 1) := by decide +kernel
theorem dX12_kind_80 : decode cX12_kind 80 = .ok (.aload_n 0, 1) := by decide +kernel
theorem dX12_kind_81 : decode cX12_kind 81 = .ok (.getfield 180, 3) := by decide +kernel
theorem dX12_kind_84 : decode cX12_kind 84 = .ok (.ifCond .ne 9, 3) := by decide +kernel
theorem dX12_kind_87 : decode cX12_kind 87 = .ok (.aload_n 0, 1) := by decide +kernel
theorem dX12_kind_88 : decode cX12_kind 88 = .ok (.bipush 58, 2) := by decide +kernel
theorem dX12_kind_90 : decode cX12_kind 90 = .ok (.invokevirtual 287, 3) := by decide +kernel
theorem dX12_kind_93 : decode cX12_kind 93 = .ok (.iconst 0, 1) := by decide +kernel
theorem dX12_kind_94 : decode cX12_kind 94 = .ok (.istore_n 1, 1) := by decide +kernel
theorem dX12_kind_95 : decode cX12_kind 95 = .ok (.aload_n 0, 1) := by decide +kernel
theorem dX12_kind_96 : decode cX12_kind 96 = .ok (.getfield 180, 3) := by decide +kernel
theorem dX12_kind_99 : decode cX12_kind 99 = .ok (.ifCond .ne 95, 3) := by decide +kernel
theorem dX12_kind_102 : decode cX12_kind 102 = .ok (.iload_n 1, 1) := by decide +kernel
theorem dX12_kind_103 : decode cX12_kind 103 = .ok (.ifCond .eq 12, 3) := by decide +kernel
theorem dX12_kind_106 : decode cX12_kind 106 = .ok (.aload_n 0, 1) := by decide +kernel
theorem dX12_kind_107 : decode cX12_kind 107 = .ok (.bipush 58, 2) := by decide +kernel
theorem dX12_kind_109 : decode cX12_kind 109 = .ok (.invokevirtual 216, 3) := by decide +kernel
theorem dX12_kind_112 : decode cX12_kind 112 = .ok (.ifCond .ne 82, 3) := by decide +kernel
theorem dX12_kind_115 : decode cX12_kind 115 = .ok (.aload_n 0, 1) := by decide +kernel
theorem dX12_kind_116 : decode cX12_kind 116 = .ok (.bipush 12, 2) := by decide +kernel
theorem dX12_kind_118 : decode cX12_kind 118 = .ok (.aload_n 0, 1) := by decide +kernel
theorem dX12_kind_119 : decode cX12_kind 119 = .ok (.getfield 276, 3) := by decide +kernel
theorem dX12_kind_122 : decode cX12_kind 122 = .ok (.invokevirtual 270, 3) := by decide +kernel
theorem dX12_kind_125 : decode cX12_kind 125 = .ok (.istore_n 2, 1) := by decide +kernel
theorem dX12_kind_126 : decode cX12_kind 126 = .ok (.iconst 0, 1) := by decide +kernel
theorem dX12_kind_127 : decode cX12_kind 127 = .ok (.istore_n 3, 1) := by decide +kernel
theorem dX12_kind_128 : decode cX12_kind 128 = .ok (.iload_n 3, 1) := by decide +kernel
theorem dX12_kind_129 : decode cX12_kind 129 = .ok (.iload_n 1, 1) := by decide +kernel
theorem dX12_kind_130 : decode cX12_kind 130 = .ok (.if_icmp .ge 36, 3) := by decide +kernel
theorem dX12_kind_133 : decode cX12_kind 133 = .ok (.aload_n 0, 1) := by decide +kernel
theorem dX12_kind_134 : decode cX12_kind 134 = .ok (.getfield 136, 3) := by decide +kernel
theorem dX12_kind_137 : decode cX12_kind 137 = .ok (.bipush 6, 2) := by decide +kernel
theorem dX12_kind_139 : decode cX12_kind 139 = .ok (.aload_n 0, 1) := by decide +kernel
theorem dX12_kind_140 : decode cX12_kind 140 = .ok (.getfield 284, 3) := by decide +kernel
theorem dX12_kind_143 : decode cX12_kind 143 = .ok (.imul, 1) := by decide +kernel
theorem dX12_kind_144 : decode cX12_kind 144 = .ok (.iload_n 3, 1) := by decide +kernel
theorem dX12_kind_145 : decode cX12_kind 145 = .ok (.iadd, 1) := by decide +kernel
theorem dX12_kind_146 : decode cX12_kind 146 = .ok (.iaload, 1) := by decide +kernel
theorem dX12_kind_147 : decode cX12_kind 147 = .ok (.iload_n 2, 1) := by decide +kernel
theorem dX12_kind_148 : decode cX12_kind 148 = .ok (.if_icmp .ne 12, 3) := by decide +kernel
theorem dX12_kind_151 : decode cX12_kind 151 = .ok (.aload_n 0, 1) := by decide +kernel
theorem dX12_kind_152 : decode cX12_kind 152 = .ok (.iconst 3, 1) := by decide +kernel
theorem dX12_kind_153 : decode cX12_kind 153 = .ok (.aload_n 0, 1) := by decide +kernel
theorem dX12_kind_154 : decode cX12_kind 154 = .ok (.getfield 201, 3) := by decide +kernel
theorem dX12_kind_157 : decode cX12_kind 157 = .ok (.invokevirtual 220, 3) := by decide +kernel
theorem dX12_kind_160 : decode cX12_kind 160 = .ok (.iinc 3 1, 3) := by decide +kernel
theorem dX12_kind_163 : decode cX12_kind 163 = .ok (.goto (-35), 3) := by decide +kernel
theorem dX12_kind_166 : decode cX12_kind 166 = .ok (.aload_n 0, 1) := by decide +kernel
theorem dX12_kind_167 : decode cX12_kind 167 = .ok (.getfield 180, 3) := by decide +kernel
theorem dX12_kind_170 : decode cX12_kind 170 = .ok (.ifCond .ne 21, 3) := by decide +kernel
theorem dX12_kind_173 : decode cX12_kind 173 = .ok (.aload_n 0, 1) := by decide +kernel
theorem dX12_kind_174 : decode cX12_kind 174 = .ok (.getfield 136, 3) := by decide +kernel
theorem dX12_kind_177 : decode cX12_kind 177 = .ok (.bipush 6, 2) := by decide +kernel
theorem dX12_kind_179 : decode cX12_kind 179 = .ok (.aload_n 0, 1) := by decide +kernel
theorem dX12_kind_180 : decode cX12_kind 180 = .ok (.getfield 284, 3) := by decide +kernel
theorem dX12_kind_183 : decode cX12_kind 183 = .ok (.imul, 1) := by decide +kernel
theorem dX12_kind_184 : decode cX12_kind 184 = .ok (.iload_n 1, 1) := by decide +kernel
theorem dX12_kind_185 : decode cX12_kind 185 = .ok (.iadd, 1) := by decide +kernel
theorem dX12_kind_186 : decode cX12_kind 186 = .ok (.iload_n 2, 1) := by decide +kernel
theorem dX12_kind_187 : decode cX12_kind 187 = .ok (.iastore, 1) := by decide +kernel
theorem dX12_kind_188 : decode cX12_kind 188 = .ok (.iinc 1 1, 3) := by decide +kernel
theorem dX12_kind_191 : decode cX12_kind 191 = .ok (.goto (-96), 3) := by decide +kernel
theorem dX12_kind_194 : decode cX12_kind 194 = .ok (.aload_n 0, 1) := by decide +kernel
theorem dX12_kind_195 : decode cX12_kind 195 = .ok (.getfield 133, 3) := by decide +kernel
theorem dX12_kind_198 : decode cX12_kind 198 = .ok (.aload_n 0, 1) := by decide +kernel
theorem dX12_kind_199 : decode cX12_kind 199 = .ok (.getfield 284, 3) := by decide +kernel
theorem dX12_kind_202 : decode cX12_kind 202 = .ok (.iload_n 1, 1) := by decide +kernel
theorem dX12_kind_203 : decode cX12_kind 203 = .ok (.iastore, 1) := by decide +kernel
theorem dX12_kind_204 : decode cX12_kind 204 = .ok (.aload_n 0, 1) := by decide +kernel
theorem dX12_kind_205 : decode cX12_kind 205 = .ok (.getfield 180, 3) := by decide +kernel
theorem dX12_kind_208 : decode cX12_kind 208 = .ok (.ifCond .ne 9, 3) := by decide +kernel
theorem dX12_kind_211 : decode cX12_kind 211 = .ok (.aload_n 0, 1) := by decide +kernel
theorem dX12_kind_212 : decode cX12_kind 212 = .ok (.bipush 58, 2) := by decide +kernel
theorem dX12_kind_214 : decode cX12_kind 214 = .ok (.invokevirtual 287, 3) := by decide +kernel
theorem dX12_kind_217 : decode cX12_kind 217 = .ok (.iconst 0, 1) := by decide +kernel
theorem dX12_kind_218 : decode cX12_kind 218 = .ok (.istore_n 1, 1) := by decide +kernel
theorem dX12_kind_219 : decode cX12_kind 219 = .ok (.aload_n 0, 1) := by decide +kernel
theorem dX12_kind_220 : decode cX12_kind 220 = .ok (.getfield 180, 3) := by decide +kernel
theorem dX12_kind_223 : decode cX12_kind 223 = .ok (.ifCond .ne 93, 3) := by decide +kernel
theorem dX12_kind_226 : decode cX12_kind 226 = .ok (.iload_n 1, 1) := by decide +kernel
theorem dX12_kind_227 : decode cX12_kind 227 = .ok (.ifCond .eq 12, 3) := by decide +kernel
theorem dX12_kind_230 : decode cX12_kind 230 = .ok (.aload_n 0, 1) := by decide +kernel
theorem dX12_kind_231 : decode cX12_kind 231 = .ok (.bipush 59, 2) := by decide +kernel
theorem dX12_kind_233 : decode cX12_kind 233 = .ok (.invokevirtual 216, 3) := by decide +kernel
theorem dX12_kind_236 : decode cX12_kind 236 = .ok (.ifCond .ne 80, 3) := by decide +kernel
theorem dX12_kind_239 : decode cX12_kind 239 = .ok (.aload_n 0, 1) := by decide +kernel
theorem dX12_kind_240 : decode cX12_kind 240 = .ok (.bipush 18, 2) := by decide +kernel
theorem dX12_kind_242 : decode cX12_kind 242 = .ok (.aload_n 0, 1) := by decide +kernel
theorem dX12_kind_243 : decode cX12_kind 243 = .ok (.getfield 279, 3) := by decide +kernel
theorem dX12_kind_246 : decode cX12_kind 246 = .ok (.invokevirtual 270, 3) := by decide +kernel
theorem dX12_kind_249 : decode cX12_kind 249 = .ok (.istore_n 2, 1) := by decide +kernel
theorem dX12_kind_250 : decode cX12_kind 250 = .ok (.iconst 0, 1) := by decide +kernel
theorem dX12_kind_251 : decode cX12_kind 251 = .ok (.istore_n 3, 1) := by decide +kernel
theorem dX12_kind_252 : decode cX12_kind 252 = .ok (.iload_n 3, 1) := by decide +kernel
theorem dX12_kind_253 : decode cX12_kind 253 = .ok (.iload_n 1, 1) := by decide +kernel
theorem dX12_kind_254 : decode cX12_kind 254 = .ok (.if_icmp .ge 35, 3) := by decide +kernel
theorem dX12_kind_257 : decode cX12_kind 257 = .ok (.aload_n 0, 1) := by decide +kernel
theorem dX12_kind_258 : decode cX12_kind 258 = .ok (.getfield 142, 3) := by decide +kernel
theorem dX12_kind_261 : decode cX12_kind 261 = .ok (.iconst 5, 1) := by decide +kernel
theorem dX12_kind_262 : decode cX12_kind 262 = .ok (.aload_n 0, 1) := by decide +kernel
theorem dX12_kind_263 : decode cX12_kind 263 = .ok (.getfield 284, 3) := by decide +kernel
theorem dX12_kind_266 : decode cX12_kind 266 = .ok (.imul, 1) := by decide +kernel
theorem dX12_kind_267 : decode cX12_kind 267 = .ok (.iload_n 3, 1) := by decide +kernel
theorem dX12_kind_268 : decode cX12_kind 268 = .ok (.iadd, 1) := by decide +kernel
theorem dX12_kind_269 : decode cX12_kind 269 = .ok (.iaload, 1) := by decide +kernel
theorem dX12_kind_270 : decode cX12_kind 270 = .ok (.iload_n 2, 1) := by decide +kernel
theorem dX12_kind_271 : decode cX12_kind 271 = .ok (.if_icmp .ne 12, 3) := by decide +kernel
theorem dX12_kind_274 : decode cX12_kind 274 = .ok (.aload_n 0, 1) := by decide +kernel
theorem dX12_kind_275 : decode cX12_kind 275 = .ok (.iconst 3, 1) := by decide +kernel
theorem dX12_kind_276 : decode cX12_kind 276 = .ok (.aload_n 0, 1) := by decide +kernel
theorem dX12_kind_277 : decode cX12_kind 277 = .ok (.getfield 201, 3) := by decide +kernel
theorem dX12_kind_280 : decode cX12_kind 280 = .ok (.invokevirtual 220, 3) := by decide +kernel
theorem dX12_kind_283 : decode cX12_kind 283 = .ok (.iinc 3 1, 3) := by decide +kernel
theorem dX12_kind_286 : decode cX12_kind 286 = .ok (.goto (-34), 3) := by decide +kernel
theorem dX12_kind_289 : decode cX12_kind 289 = .ok (.aload_n 0, 1) := by decide +kernel
theorem dX12_kind_290 : decode cX12_kind 290 = .ok (.getfield 180, 3) := by decide +kernel
theorem dX12_kind_293 : decode cX12_kind 293 = .ok (.ifCond .ne 20, 3) := by decide +kernel
theorem dX12_kind_296 : decode cX12_kind 296 = .ok (.aload_n 0, 1) := by decide +kernel
theorem dX12_kind_297 : decode cX12_kind 297 = .ok (.getfield 142, 3) := by decide +kernel
theorem dX12_kind_300 : decode cX12_kind 300 = .ok (.iconst 5, 1) := by decide +kernel
theorem dX12_kind_301 : decode cX12_kind 301 = .ok (.aload_n 0, 1) := by decide +kernel
theorem dX12_kind_302 : decode cX12_kind 302 = .ok (.getfield 284, 3) := by decide +kernel
theorem dX12_kind_305 : decode cX12_kind 305 = .ok (.imul, 1) := by decide +kernel
theorem dX12_kind_306 : decode cX12_kind 306 = .ok (.iload_n 1, 1) := by decide +kernel
theorem dX12_kind_307 : decode cX12_kind 307 = .ok (.iadd, 1) := by decide +kernel
theorem dX12_kind_308 : decode cX12_kind 308 = .ok (.iload_n 2, 1) := by decide +kernel
theorem dX12_kind_309 : decode cX12_kind 309 = .ok (.iastore, 1) := by decide +kernel
theorem dX12_kind_310 : decode cX12_kind 310 = .ok (.iinc 1 1, 3) := by decide +kernel
theorem dX12_kind_313 : decode cX12_kind 313 = .ok (.goto (-94), 3) := by decide +kernel
theorem dX12_kind_316 : decode cX12_kind 316 = .ok (.aload_n 0, 1) := by decide +kernel
theorem dX12_kind_317 : decode cX12_kind 317 = .ok (.getfield 139, 3) := by decide +kernel
theorem dX12_kind_320 : decode cX12_kind 320 = .ok (.aload_n 0, 1) := by decide +kernel
theorem dX12_kind_321 : decode cX12_kind 321 = .ok (.getfield 284, 3) := by decide +kernel
theorem dX12_kind_324 : decode cX12_kind 324 = .ok (.iload_n 1, 1) := by decide +kernel
theorem dX12_kind_325 : decode cX12_kind 325 = .ok (.iastore, 1) := by decide +kernel
theorem dX12_kind_326 : decode cX12_kind 326 = .ok (.aload_n 0, 1) := by decide +kernel
theorem dX12_kind_327 : decode cX12_kind 327 = .ok (.dup, 1) := by decide +kernel
theorem dX12_kind_328 : decode cX12_kind 328 = .ok (.getfield 284, 3) := by decide +kernel
theorem dX12_kind_331 : decode cX12_kind 331 = .ok (.iconst 1, 1) := by decide +kernel
theorem dX12_kind_332 : decode cX12_kind 332 = .ok (.iadd, 1) := by decide +kernel
theorem dX12_kind_333 : decode cX12_kind 333 = .ok (.putfield 284, 3) := by decide +kernel
theorem dX12_kind_336 : decode cX12_kind 336 = .ok (.return_, 1) := by decide +kernel
abbrev M_X12_kind : aM := (yX12_kind.cls, cX12_kind, 4, none, [], yX12_kind.name == "<init>")
abbrev J_X12_kind (l : Launch) (E : aE) (n0 m0 : Nat) := GG (fun (_ : Unit) => .inl none) l E M_X12_kind 5 114 n0 m0
theorem b_X12_kind {l : Launch} {E : aE} (hl : l.stackTraces = false) (n0 m0 : Nat) (x1 : Nat) (h0 : aH) : J_X12_kind l E n0 m0 0 [(0, .ref (e_z E + x1))] [] h0 (m_X12_kind x1 h0) := by
  unfold m_X12_kind
  refine g_aload_n (pc := 0) dX12_kind_0 0 rfl ?_
  refine g_bipush (pc := 1) dX12_kind_1 cb_23 ?_
  refine g_aload_n (pc := 3) dX12_kind_3 0 rfl ?_
  refine g_geti (pc := 4) cl12 (Nat.le_of_ble_eq_true rfl) fk1594 (fun _ _ _ => rfl) dX12_kind_4 (fun x2 => ?_)
  refine g_gS (fun hs => ?_)
  refine g_bRv (pc := 7) (c_V cl12 hs (p_X12_newName hl x1 (23 : Int32) x2 h0) y_X12_newName tw1849 dX12_kind_7 rfl (st := []) rfl (Nat.le_of_ble_eq_true rfl) (Nat.le_of_ble_eq_true rfl) (Nat.le_of_ble_eq_true rfl)) (fun _ h1 => ?_)
  refine g_aload_n (pc := 10) dX12_kind_10 0 rfl ?_
  refine g_geti (pc := 11) cl12 (Nat.le_of_ble_eq_true rfl) fk1584 (fun _ _ _ => rfl) dX12_kind_11 (fun x3 => ?_)
  refine g_join (fun k => ∀ (h2 : aH), J_X12_kind l E n0 m0 34 [(0, .ref (e_z E + x1))] [] h2 (k h2)) (fun h2 => ?_) (fun k34 hk34 => ?_)
  · refine g_aload_n (pc := 34) dX12_kind_34 0 rfl ?_
    refine g_geti (pc := 35) cl12 (Nat.le_of_ble_eq_true rfl) fk1584 (fun _ _ _ => rfl) dX12_kind_35 (fun x4 => ?_)
    refine g_join (fun k => ∀ (h3 : aH), J_X12_kind l E n0 m0 58 [(0, .ref (e_z E + x1))] [] h3 (k h3)) (fun h3 => ?_) (fun k58 hk58 => ?_)
    · refine g_aload_n (pc := 58) dX12_kind_58 0 rfl ?_
      refine g_geti (pc := 59) cl12 (Nat.le_of_ble_eq_true rfl) fk1584 (fun _ _ _ => rfl) dX12_kind_59 (fun x5 => ?_)
      refine g_join (fun k => ∀ (h4 : aH), J_X12_kind l E n0 m0 80 [(0, .ref (e_z E + x1))] [] h4 (k h4)) (fun h4 => ?_) (fun k80 hk80 => ?_)
      · refine g_aload_n (pc := 80) dX12_kind_80 0 rfl ?_
        refine g_geti (pc := 81) cl12 (Nat.le_of_ble_eq_true rfl) fk1584 (fun _ _ _ => rfl) dX12_kind_81 (fun x6 => ?_)
        refine g_join (fun k => ∀ (h5 : aH), J_X12_kind l E n0 m0 93 [(0, .ref (e_z E + x1))] [] h5 (k h5)) (fun h5 => ?_) (fun k93 hk93 => ?_)
        · refine g_iconst (pc := 93) dX12_kind_93 ci_0 ?_
          refine g_istore_n (pc := 94) (lv' := [(1, .int (0 : Int32)), (0, .ref (e_z E + x1))]) dX12_kind_94 (Nat.le_of_ble_eq_true rfl) rfl ?_
          refine g_join (fun k => ∀ (x7 : Int32) (h6 : aH), J_X12_kind l E n0 m0 194 [(0, .ref (e_z E + x1)), (1, .int x7)] [] h6 (k x7 h6)) (fun x7 h6 => ?_) (fun k194 hk194 => ?_)
          · refine g_aload_n (pc := 194) dX12_kind_194 0 rfl ?_
            refine g_getr (pc := 195) cl12 (Nat.le_of_ble_eq_true rfl) fk1610 (fun _ _ _ => rfl) dX12_kind_195 (fun x8 => ?_)
            refine g_aload_n (pc := 198) dX12_kind_198 0 rfl ?_
            refine g_geti (pc := 199) cl12 (Nat.le_of_ble_eq_true rfl) fk1594 (fun _ _ _ => rfl) dX12_kind_199 (fun x9 => ?_)
            refine g_iload_n (pc := 202) dX12_kind_202 1 rfl ?_
            refine g_iast (pc := 203) dX12_kind_203 (fun h7 => ?_)
            refine g_aload_n (pc := 204) dX12_kind_204 0 rfl ?_
            refine g_geti (pc := 205) cl12 (Nat.le_of_ble_eq_true rfl) fk1584 (fun _ _ _ => rfl) dX12_kind_205 (fun x10 => ?_)
            refine g_join (fun k => ∀ (h8 : aH), J_X12_kind l E n0 m0 217 [(0, .ref (e_z E + x1))] [] h8 (k h8)) (fun h8 => ?_) (fun k217 hk217 => ?_)
            · refine g_iconst (pc := 217) dX12_kind_217 ci_0 ?_
              refine g_istore_n (pc := 218) (lv' := [(1, .int (0 : Int32)), (0, .ref (e_z E + x1))]) dX12_kind_218 (Nat.le_of_ble_eq_true rfl) rfl ?_
              refine g_join (fun k => ∀ (x11 : Int32) (h9 : aH), J_X12_kind l E n0 m0 316 [(0, .ref (e_z E + x1)), (1, .int x11)] [] h9 (k x11 h9)) (fun x11 h9 => ?_) (fun k316 hk316 => ?_)
              · refine g_aload_n (pc := 316) dX12_kind_316 0 rfl ?_
                refine g_getr (pc := 317) cl12 (Nat.le_of_ble_eq_true rfl) fk1612 (fun _ _ _ => rfl) dX12_kind_317 (fun x12 => ?_)
                refine g_aload_n (pc := 320) dX12_kind_320 0 rfl ?_
                refine g_geti (pc := 321) cl12 (Nat.le_of_ble_eq_true rfl) fk1594 (fun _ _ _ => rfl) dX12_kind_321 (fun x13 => ?_)
                refine g_iload_n (pc := 324) dX12_kind_324 1 rfl ?_
                refine g_iast (pc := 325) dX12_kind_325 (fun h10 => ?_)
                refine g_aload_n (pc := 326) dX12_kind_326 0 rfl ?_
                refine g_dup (pc := 327) rfl dX12_kind_327 ?_
                refine g_geti (pc := 328) cl12 (Nat.le_of_ble_eq_true rfl) fk1594 (fun _ _ _ => rfl) dX12_kind_328 (fun x14 => ?_)
                refine g_iconst (pc := 331) dX12_kind_331 ci_1 ?_
                refine g_iadd (pc := 332) dX12_kind_332 ?_
                refine g_puti (pc := 333) cl12 (Nat.le_of_ble_eq_true rfl) (Or.inl ⟨rfl, fk1594⟩) (fun _ _ _ => rfl) (fun _ => ⟨rfl, rfl⟩) dX12_kind_333 (fun h11 => ?_)
                exact g_ret (pc := 336) rfl isRet_v dX12_kind_336 rfl
              refine g_lv [1, 0] rfl ?_
              refine g_loop1 (F := (m_X12_kind_L219 x1 k316)) (fun x15 => [(0, .ref (e_z E + x1)), (1, .int x15)]) (fun r219 hr219 x15 h12 => ?_) _ _ _
              unfold m_X12_kind_L219
              refine g_aload_n (pc := 219) dX12_kind_219 0 rfl ?_
              refine g_geti (pc := 220) cl12 (Nat.le_of_ble_eq_true rfl) fk1584 (fun _ _ _ => rfl) dX12_kind_220 (fun x16 => ?_)
              refine g_ifne (pc := 223) (tgt := 316) dX12_kind_223 rfl ?_ ?_
              · refine g_iload_n (pc := 226) dX12_kind_226 1 rfl ?_
                refine g_join (fun k => ∀ (h13 : aH), J_X12_kind l E n0 m0 239 [(0, .ref (e_z E + x1)), (1, .int x15)] [] h13 (k h13)) (fun h13 => ?_) (fun k239 hk239 => ?_)
                · refine g_aload_n (pc := 239) dX12_kind_239 0 rfl ?_
                  refine g_bipush (pc := 240) dX12_kind_240 cb_18 ?_
                  refine g_aload_n (pc := 242) dX12_kind_242 0 rfl ?_
                  refine g_geti (pc := 243) cl12 (Nat.le_of_ble_eq_true rfl) fk1593 (fun _ _ _ => rfl) dX12_kind_243 (fun x17 => ?_)
                  refine g_gS (fun hs => ?_)
                  refine g_bRi (pc := 246) (c_V cl12 hs (p_X12_named hl x1 (18 : Int32) x17 h13) y_X12_named tw1873 dX12_kind_246 rfl (st := []) rfl (Nat.le_of_ble_eq_true rfl) (Nat.le_of_ble_eq_true rfl) (Nat.le_of_ble_eq_true rfl)) (fun x18 h14 => ?_)
                  refine g_istore_n (pc := 249) (lv' := [(2, .int x18), (0, .ref (e_z E + x1)), (1, .int x15)]) dX12_kind_249 (Nat.le_of_ble_eq_true rfl) rfl ?_
                  refine g_iconst (pc := 250) dX12_kind_250 ci_0 ?_
                  refine g_istore_n (pc := 251) (lv' := [(3, .int (0 : Int32)), (2, .int x18), (0, .ref (e_z E + x1)), (1, .int x15)]) dX12_kind_251 (Nat.le_of_ble_eq_true rfl) rfl ?_
                  refine g_join (fun k => ∀ (h15 : aH), J_X12_kind l E n0 m0 289 [(0, .ref (e_z E + x1)), (1, .int x15), (2, .int x18)] [] h15 (k h15)) (fun h15 => ?_) (fun k289 hk289 => ?_)
                  · refine g_aload_n (pc := 289) dX12_kind_289 0 rfl ?_
                    refine g_geti (pc := 290) cl12 (Nat.le_of_ble_eq_true rfl) fk1584 (fun _ _ _ => rfl) dX12_kind_290 (fun x19 => ?_)
                    refine g_join (fun k => ∀ (x20 : Int32) (h16 : aH), J_X12_kind l E n0 m0 313 [(0, .ref (e_z E + x1)), (1, .int x20)] [] h16 (k x20 h16)) (fun x20 h16 => ?_) (fun k313 hk313 => ?_)
                    · refine g_goto (pc := 313) (tgt := 219) dX12_kind_313 rfl ?_
                      exact hr219 x20 h16
                    refine g_ifne (pc := 293) (tgt := 313) dX12_kind_293 rfl ?_ ?_
                    · refine g_aload_n (pc := 296) dX12_kind_296 0 rfl ?_
                      refine g_getr (pc := 297) cl12 (Nat.le_of_ble_eq_true rfl) fk1613 (fun _ _ _ => rfl) dX12_kind_297 (fun x21 => ?_)
                      refine g_iconst (pc := 300) dX12_kind_300 ci_5 ?_
                      refine g_aload_n (pc := 301) dX12_kind_301 0 rfl ?_
                      refine g_geti (pc := 302) cl12 (Nat.le_of_ble_eq_true rfl) fk1594 (fun _ _ _ => rfl) dX12_kind_302 (fun x22 => ?_)
                      refine g_imul (pc := 305) dX12_kind_305 ?_
                      refine g_iload_n (pc := 306) dX12_kind_306 1 rfl ?_
                      refine g_iadd (pc := 307) dX12_kind_307 ?_
                      refine g_iload_n (pc := 308) dX12_kind_308 2 rfl ?_
                      refine g_iast (pc := 309) dX12_kind_309 (fun h17 => ?_)
                      refine g_iincN (pc := 310) dX12_kind_310 1 rfl ci_1 (Nat.le_of_ble_eq_true rfl) (fun x23 => ?_)
                      refine g_lvr (lv' := [(1, .int x23), (0, .ref (e_z E + x1)), (2, .int x18)]) rfl ?_
                      refine g_lv [1, 0] rfl ?_
                      exact hk313 x23 h17
                    · refine g_lv [0, 1] rfl ?_
                      exact hk313 x15 h15
                  refine g_lv [2, 3, 1, 0] rfl ?_
                  refine g_loop1 (F := (m_X12_kind_L252 x1 x15 x18 k289)) (fun x24 => [(0, .ref (e_z E + x1)), (1, .int x15), (2, .int x18), (3, .int x24)]) (fun r252 hr252 x24 h18 => ?_) _ _ _
                  unfold m_X12_kind_L252
                  refine g_iload_n (pc := 252) dX12_kind_252 3 rfl ?_
                  refine g_iload_n (pc := 253) dX12_kind_253 1 rfl ?_
                  refine g_icmpge (pc := 254) (tgt := 289) dX12_kind_254 rfl ?_ ?_
                  · refine g_aload_n (pc := 257) dX12_kind_257 0 rfl ?_
                    refine g_getr (pc := 258) cl12 (Nat.le_of_ble_eq_true rfl) fk1613 (fun _ _ _ => rfl) dX12_kind_258 (fun x25 => ?_)
                    refine g_iconst (pc := 261) dX12_kind_261 ci_5 ?_
                    refine g_aload_n (pc := 262) dX12_kind_262 0 rfl ?_
                    refine g_geti (pc := 263) cl12 (Nat.le_of_ble_eq_true rfl) fk1594 (fun _ _ _ => rfl) dX12_kind_263 (fun x26 => ?_)
                    refine g_imul (pc := 266) dX12_kind_266 ?_
                    refine g_iload_n (pc := 267) dX12_kind_267 3 rfl ?_
                    refine g_iadd (pc := 268) dX12_kind_268 ?_
                    refine g_iald (pc := 269) dX12_kind_269 (fun x27 => ?_)
                    refine g_iload_n (pc := 270) dX12_kind_270 2 rfl ?_
                    refine g_join (fun k => ∀ (h19 : aH), J_X12_kind l E n0 m0 283 [(0, .ref (e_z E + x1)), (1, .int x15), (2, .int x18), (3, .int x24)] [] h19 (k h19)) (fun h19 => ?_) (fun k283 hk283 => ?_)
                    · refine g_iincN (pc := 283) dX12_kind_283 3 rfl ci_1 (Nat.le_of_ble_eq_true rfl) (fun x28 => ?_)
                      refine g_lvr (lv' := [(3, .int x28), (0, .ref (e_z E + x1)), (1, .int x15), (2, .int x18)]) rfl ?_
                      refine g_goto (pc := 286) (tgt := 252) dX12_kind_286 rfl ?_
                      refine g_lv [1, 2, 3, 0] rfl ?_
                      exact hr252 x28 h19
                    refine g_icmpne (pc := 271) (tgt := 283) dX12_kind_271 rfl ?_ ?_
                    · refine g_aload_n (pc := 274) dX12_kind_274 0 rfl ?_
                      refine g_iconst (pc := 275) dX12_kind_275 ci_3 ?_
                      refine g_aload_n (pc := 276) dX12_kind_276 0 rfl ?_
                      refine g_geti (pc := 277) cl12 (Nat.le_of_ble_eq_true rfl) fk1588 (fun _ _ _ => rfl) dX12_kind_277 (fun x29 => ?_)
                      refine g_gS (fun hs => ?_)
                      refine g_bRv (pc := 280) (c_V cl12 hs (p_X12_fault hl x1 (3 : Int32) x29 h18) y_X12_fault tw1814 dX12_kind_280 rfl (st := []) rfl (Nat.le_of_ble_eq_true rfl) (Nat.le_of_ble_eq_true rfl) (Nat.le_of_ble_eq_true rfl)) (fun _ h20 => ?_)
                      exact hk283 h20
                    · exact hk283 h18
                  · refine g_lv [0, 1, 2] rfl ?_
                    exact hk289 h18
                refine g_ifeq (pc := 227) (tgt := 239) dX12_kind_227 rfl ?_ ?_
                · exact hk239 h12
                · refine g_aload_n (pc := 230) dX12_kind_230 0 rfl ?_
                  refine g_bipush (pc := 231) dX12_kind_231 cb_59 ?_
                  refine g_gS (fun hs => ?_)
                  refine g_bRi (pc := 233) (c_V cl12 hs (p_X12_isNext hl x1 (59 : Int32) h12) y_X12_isNext tw1836 dX12_kind_233 rfl (st := []) rfl (Nat.le_of_ble_eq_true rfl) (Nat.le_of_ble_eq_true rfl) (Nat.le_of_ble_eq_true rfl)) (fun x30 h21 => ?_)
                  refine g_ifne (pc := 236) (tgt := 316) dX12_kind_236 rfl ?_ ?_
                  · exact hk239 h21
                  · exact hk316 x15 h21
              · exact hk316 x15 h12
            refine g_ifne (pc := 208) (tgt := 217) dX12_kind_208 rfl ?_ ?_
            · refine g_aload_n (pc := 211) dX12_kind_211 0 rfl ?_
              refine g_bipush (pc := 212) dX12_kind_212 cb_58 ?_
              refine g_gS (fun hs => ?_)
              refine g_bRv (pc := 214) (c_V cl12 hs (p_X12_sign hl x1 (58 : Int32) h7) y_X12_sign tw1832 dX12_kind_214 rfl (st := []) rfl (Nat.le_of_ble_eq_true rfl) (Nat.le_of_ble_eq_true rfl) (Nat.le_of_ble_eq_true rfl)) (fun _ h22 => ?_)
              refine g_lv [0] rfl ?_
              exact hk217 h22
            · refine g_lv [0] rfl ?_
              exact hk217 h7
          refine g_lv [1, 0] rfl ?_
          refine g_loop1 (F := (m_X12_kind_L95 x1 k194)) (fun x31 => [(0, .ref (e_z E + x1)), (1, .int x31)]) (fun r95 hr95 x31 h23 => ?_) _ _ _
          unfold m_X12_kind_L95
          refine g_aload_n (pc := 95) dX12_kind_95 0 rfl ?_
          refine g_geti (pc := 96) cl12 (Nat.le_of_ble_eq_true rfl) fk1584 (fun _ _ _ => rfl) dX12_kind_96 (fun x32 => ?_)
          refine g_ifne (pc := 99) (tgt := 194) dX12_kind_99 rfl ?_ ?_
          · refine g_iload_n (pc := 102) dX12_kind_102 1 rfl ?_
            refine g_join (fun k => ∀ (h24 : aH), J_X12_kind l E n0 m0 115 [(0, .ref (e_z E + x1)), (1, .int x31)] [] h24 (k h24)) (fun h24 => ?_) (fun k115 hk115 => ?_)
            · refine g_aload_n (pc := 115) dX12_kind_115 0 rfl ?_
              refine g_bipush (pc := 116) dX12_kind_116 cb_12 ?_
              refine g_aload_n (pc := 118) dX12_kind_118 0 rfl ?_
              refine g_geti (pc := 119) cl12 (Nat.le_of_ble_eq_true rfl) fk1592 (fun _ _ _ => rfl) dX12_kind_119 (fun x33 => ?_)
              refine g_gS (fun hs => ?_)
              refine g_bRi (pc := 122) (c_V cl12 hs (p_X12_named hl x1 (12 : Int32) x33 h24) y_X12_named tw1873 dX12_kind_122 rfl (st := []) rfl (Nat.le_of_ble_eq_true rfl) (Nat.le_of_ble_eq_true rfl) (Nat.le_of_ble_eq_true rfl)) (fun x34 h25 => ?_)
              refine g_istore_n (pc := 125) (lv' := [(2, .int x34), (0, .ref (e_z E + x1)), (1, .int x31)]) dX12_kind_125 (Nat.le_of_ble_eq_true rfl) rfl ?_
              refine g_iconst (pc := 126) dX12_kind_126 ci_0 ?_
              refine g_istore_n (pc := 127) (lv' := [(3, .int (0 : Int32)), (2, .int x34), (0, .ref (e_z E + x1)), (1, .int x31)]) dX12_kind_127 (Nat.le_of_ble_eq_true rfl) rfl ?_
              refine g_join (fun k => ∀ (h26 : aH), J_X12_kind l E n0 m0 166 [(0, .ref (e_z E + x1)), (1, .int x31), (2, .int x34)] [] h26 (k h26)) (fun h26 => ?_) (fun k166 hk166 => ?_)
              · refine g_aload_n (pc := 166) dX12_kind_166 0 rfl ?_
                refine g_geti (pc := 167) cl12 (Nat.le_of_ble_eq_true rfl) fk1584 (fun _ _ _ => rfl) dX12_kind_167 (fun x35 => ?_)
                refine g_join (fun k => ∀ (x36 : Int32) (h27 : aH), J_X12_kind l E n0 m0 191 [(0, .ref (e_z E + x1)), (1, .int x36)] [] h27 (k x36 h27)) (fun x36 h27 => ?_) (fun k191 hk191 => ?_)
                · refine g_goto (pc := 191) (tgt := 95) dX12_kind_191 rfl ?_
                  exact hr95 x36 h27
                refine g_ifne (pc := 170) (tgt := 191) dX12_kind_170 rfl ?_ ?_
                · refine g_aload_n (pc := 173) dX12_kind_173 0 rfl ?_
                  refine g_getr (pc := 174) cl12 (Nat.le_of_ble_eq_true rfl) fk1611 (fun _ _ _ => rfl) dX12_kind_174 (fun x37 => ?_)
                  refine g_bipush (pc := 177) dX12_kind_177 cb_6 ?_
                  refine g_aload_n (pc := 179) dX12_kind_179 0 rfl ?_
                  refine g_geti (pc := 180) cl12 (Nat.le_of_ble_eq_true rfl) fk1594 (fun _ _ _ => rfl) dX12_kind_180 (fun x38 => ?_)
                  refine g_imul (pc := 183) dX12_kind_183 ?_
                  refine g_iload_n (pc := 184) dX12_kind_184 1 rfl ?_
                  refine g_iadd (pc := 185) dX12_kind_185 ?_
                  refine g_iload_n (pc := 186) dX12_kind_186 2 rfl ?_
                  refine g_iast (pc := 187) dX12_kind_187 (fun h28 => ?_)
                  refine g_iincN (pc := 188) dX12_kind_188 1 rfl ci_1 (Nat.le_of_ble_eq_true rfl) (fun x39 => ?_)
                  refine g_lvr (lv' := [(1, .int x39), (0, .ref (e_z E + x1)), (2, .int x34)]) rfl ?_
                  refine g_lv [1, 0] rfl ?_
                  exact hk191 x39 h28
                · refine g_lv [0, 1] rfl ?_
                  exact hk191 x31 h26
              refine g_lv [2, 3, 1, 0] rfl ?_
              refine g_loop1 (F := (m_X12_kind_L128 x1 x31 x34 k166)) (fun x40 => [(0, .ref (e_z E + x1)), (1, .int x31), (2, .int x34), (3, .int x40)]) (fun r128 hr128 x40 h29 => ?_) _ _ _
              unfold m_X12_kind_L128
              refine g_iload_n (pc := 128) dX12_kind_128 3 rfl ?_
              refine g_iload_n (pc := 129) dX12_kind_129 1 rfl ?_
              refine g_icmpge (pc := 130) (tgt := 166) dX12_kind_130 rfl ?_ ?_
              · refine g_aload_n (pc := 133) dX12_kind_133 0 rfl ?_
                refine g_getr (pc := 134) cl12 (Nat.le_of_ble_eq_true rfl) fk1611 (fun _ _ _ => rfl) dX12_kind_134 (fun x41 => ?_)
                refine g_bipush (pc := 137) dX12_kind_137 cb_6 ?_
                refine g_aload_n (pc := 139) dX12_kind_139 0 rfl ?_
                refine g_geti (pc := 140) cl12 (Nat.le_of_ble_eq_true rfl) fk1594 (fun _ _ _ => rfl) dX12_kind_140 (fun x42 => ?_)
                refine g_imul (pc := 143) dX12_kind_143 ?_
                refine g_iload_n (pc := 144) dX12_kind_144 3 rfl ?_
                refine g_iadd (pc := 145) dX12_kind_145 ?_
                refine g_iald (pc := 146) dX12_kind_146 (fun x43 => ?_)
                refine g_iload_n (pc := 147) dX12_kind_147 2 rfl ?_
                refine g_join (fun k => ∀ (h30 : aH), J_X12_kind l E n0 m0 160 [(0, .ref (e_z E + x1)), (1, .int x31), (2, .int x34), (3, .int x40)] [] h30 (k h30)) (fun h30 => ?_) (fun k160 hk160 => ?_)
                · refine g_iincN (pc := 160) dX12_kind_160 3 rfl ci_1 (Nat.le_of_ble_eq_true rfl) (fun x44 => ?_)
                  refine g_lvr (lv' := [(3, .int x44), (0, .ref (e_z E + x1)), (1, .int x31), (2, .int x34)]) rfl ?_
                  refine g_goto (pc := 163) (tgt := 128) dX12_kind_163 rfl ?_
                  refine g_lv [1, 2, 3, 0] rfl ?_
                  exact hr128 x44 h30
                refine g_icmpne (pc := 148) (tgt := 160) dX12_kind_148 rfl ?_ ?_
                · refine g_aload_n (pc := 151) dX12_kind_151 0 rfl ?_
                  refine g_iconst (pc := 152) dX12_kind_152 ci_3 ?_
                  refine g_aload_n (pc := 153) dX12_kind_153 0 rfl ?_
                  refine g_geti (pc := 154) cl12 (Nat.le_of_ble_eq_true rfl) fk1588 (fun _ _ _ => rfl) dX12_kind_154 (fun x45 => ?_)
                  refine g_gS (fun hs => ?_)
                  refine g_bRv (pc := 157) (c_V cl12 hs (p_X12_fault hl x1 (3 : Int32) x45 h29) y_X12_fault tw1814 dX12_kind_157 rfl (st := []) rfl (Nat.le_of_ble_eq_true rfl) (Nat.le_of_ble_eq_true rfl) (Nat.le_of_ble_eq_true rfl)) (fun _ h31 => ?_)
                  exact hk160 h31
                · exact hk160 h29
              · refine g_lv [0, 1, 2] rfl ?_
                exact hk166 h29
            refine g_ifeq (pc := 103) (tgt := 115) dX12_kind_103 rfl ?_ ?_
            · exact hk115 h23
            · refine g_aload_n (pc := 106) dX12_kind_106 0 rfl ?_
              refine g_bipush (pc := 107) dX12_kind_107 cb_58 ?_
              refine g_gS (fun hs => ?_)
              refine g_bRi (pc := 109) (c_V cl12 hs (p_X12_isNext hl x1 (58 : Int32) h23) y_X12_isNext tw1836 dX12_kind_109 rfl (st := []) rfl (Nat.le_of_ble_eq_true rfl) (Nat.le_of_ble_eq_true rfl) (Nat.le_of_ble_eq_true rfl)) (fun x46 h32 => ?_)
              refine g_ifne (pc := 112) (tgt := 194) dX12_kind_112 rfl ?_ ?_
              · exact hk115 h32
              · exact hk194 x31 h32
          · exact hk194 x31 h23
        refine g_ifne (pc := 84) (tgt := 93) dX12_kind_84 rfl ?_ ?_
        · refine g_aload_n (pc := 87) dX12_kind_87 0 rfl ?_
          refine g_bipush (pc := 88) dX12_kind_88 cb_58 ?_
          refine g_gS (fun hs => ?_)
          refine g_bRv (pc := 90) (c_V cl12 hs (p_X12_sign hl x1 (58 : Int32) h4) y_X12_sign tw1832 dX12_kind_90 rfl (st := []) rfl (Nat.le_of_ble_eq_true rfl) (Nat.le_of_ble_eq_true rfl) (Nat.le_of_ble_eq_true rfl)) (fun _ h33 => ?_)
          exact hk93 h33
        · exact hk93 h4
      refine g_ifne (pc := 62) (tgt := 80) dX12_kind_62 rfl ?_ ?_
      · refine g_aload_n (pc := 65) dX12_kind_65 0 rfl ?_
        refine g_getr (pc := 66) cl12 (Nat.le_of_ble_eq_true rfl) fk1609 (fun _ _ _ => rfl) dX12_kind_66 (fun x47 => ?_)
        refine g_aload_n (pc := 69) dX12_kind_69 0 rfl ?_
        refine g_geti (pc := 70) cl12 (Nat.le_of_ble_eq_true rfl) fk1594 (fun _ _ _ => rfl) dX12_kind_70 (fun x48 => ?_)
        refine g_aload_n (pc := 73) dX12_kind_73 0 rfl ?_
        refine g_iconst (pc := 74) dX12_kind_74 ci_1 ?_
        refine g_iconst (pc := 75) dX12_kind_75 ci_5 ?_
        refine g_gS (fun hs => ?_)
        refine g_bRi (pc := 76) (c_V cl12 hs (p_X12_number hl x1 (1 : Int32) (5 : Int32) h3) y_X12_number tw1818 dX12_kind_76 rfl (st := [.int x48, .ref (e_z E + x47)]) rfl (Nat.le_of_ble_eq_true rfl) (Nat.le_of_ble_eq_true rfl) (Nat.le_of_ble_eq_true rfl)) (fun x49 h34 => ?_)
        refine g_iast (pc := 79) dX12_kind_79 (fun h35 => ?_)
        exact hk80 h35
      · exact hk80 h3
    refine g_ifne (pc := 38) (tgt := 58) dX12_kind_38 rfl ?_ ?_
    · refine g_aload_n (pc := 41) dX12_kind_41 0 rfl ?_
      refine g_getr (pc := 42) cl12 (Nat.le_of_ble_eq_true rfl) fk1608 (fun _ _ _ => rfl) dX12_kind_42 (fun x50 => ?_)
      refine g_aload_n (pc := 45) dX12_kind_45 0 rfl ?_
      refine g_geti (pc := 46) cl12 (Nat.le_of_ble_eq_true rfl) fk1594 (fun _ _ _ => rfl) dX12_kind_46 (fun x51 => ?_)
      refine g_aload_n (pc := 49) dX12_kind_49 0 rfl ?_
      refine g_iconst (pc := 50) dX12_kind_50 ci_0 ?_
      refine g_sipush (pc := 51) dX12_kind_51 cs_240 ?_
      refine g_gS (fun hs => ?_)
      refine g_bRi (pc := 54) (c_V cl12 hs (p_X12_number hl x1 (0 : Int32) (240 : Int32) h2) y_X12_number tw1818 dX12_kind_54 rfl (st := [.int x51, .ref (e_z E + x50)]) rfl (Nat.le_of_ble_eq_true rfl) (Nat.le_of_ble_eq_true rfl) (Nat.le_of_ble_eq_true rfl)) (fun x52 h36 => ?_)
      refine g_iast (pc := 57) dX12_kind_57 (fun h37 => ?_)
      exact hk58 h37
    · exact hk58 h2
  refine g_ifne (pc := 14) (tgt := 34) dX12_kind_14 rfl ?_ ?_
  · refine g_aload_n (pc := 17) dX12_kind_17 0 rfl ?_
    refine g_getr (pc := 18) cl12 (Nat.le_of_ble_eq_true rfl) fk1607 (fun _ _ _ => rfl) dX12_kind_18 (fun x53 => ?_)
    refine g_aload_n (pc := 21) dX12_kind_21 0 rfl ?_
    refine g_geti (pc := 22) cl12 (Nat.le_of_ble_eq_true rfl) fk1594 (fun _ _ _ => rfl) dX12_kind_22 (fun x54 => ?_)
    refine g_aload_n (pc := 25) dX12_kind_25 0 rfl ?_
    refine g_iconst (pc := 26) dX12_kind_26 ci_1 ?_
    refine g_sipush (pc := 27) dX12_kind_27 cs_999 ?_
    refine g_gS (fun hs => ?_)
    refine g_bRi (pc := 30) (c_V cl12 hs (p_X12_number hl x1 (1 : Int32) (999 : Int32) h1) y_X12_number tw1818 dX12_kind_30 rfl (st := [.int x54, .ref (e_z E + x53)]) rfl (Nat.le_of_ble_eq_true rfl) (Nat.le_of_ble_eq_true rfl) (Nat.le_of_ble_eq_true rfl)) (fun x55 h38 => ?_)
    refine g_iast (pc := 33) dX12_kind_33 (fun h39 => ?_)
    exact hk34 h39
  · exact hk34 h1
theorem p_X12_kind {l : Launch} {E : aE} (hl : l.stackTraces = false) (x1 : Nat) (h0 : aH) : MO (fun (_ : Unit) => .inl none) l E yX12_kind (.code yX12_kind cX12_kind 4 none) 5 114 [.ref (e_z E + x1)] h0 (m_X12_kind x1 h0) := g_met hl (by decide +kernel) (Nat.le_of_ble_eq_true rfl) (b_X12_kind hl _ _ x1 h0)
theorem dX12_semicolon_0 : decode cX12_semicolon 0 = .ok (.aload_n 0, 1) := by decide +kernel
theorem dX12_semicolon_1 : decode cX12_semicolon 1 = .ok (.getfield 180, 3) := by decide +kernel
theorem dX12_semicolon_4 : decode cX12_semicolon 4 = .ok (.ifCond .ne 9, 3) := by decide +kernel
theorem dX12_semicolon_7 : decode cX12_semicolon 7 = .ok (.aload_n 0, 1) := by decide +kernel
theorem dX12_semicolon_8 : decode cX12_semicolon 8 = .ok (.bipush 59, 2) := by decide +kernel
theorem dX12_semicolon_10 : decode cX12_semicolon 10 = .ok (.invokevirtual 287, 3) := by decide +kernel
theorem dX12_semicolon_13 : decode cX12_semicolon 13 = .ok (.return_, 1) := by decide +kernel
abbrev M_X12_semicolon : aM := (yX12_semicolon.cls, cX12_semicolon, 1, none, [], yX12_semicolon.name == "<init>")
abbrev J_X12_semicolon (l : Launch) (E : aE) (n0 m0 : Nat) := GG (fun (_ : Unit) => .inl none) l E M_X12_semicolon 3 62 n0 m0
theorem b_X12_semicolon {l : Launch} {E : aE} (hl : l.stackTraces = false) (n0 m0 : Nat) (x1 : Nat) (h0 : aH) : J_X12_semicolon l E n0 m0 0 [(0, .ref (e_z E + x1))] [] h0 (m_X12_semicolon x1 h0) := by
  unfold m_X12_semicolon
  refine g_aload_n (pc := 0) dX12_semicolon_0 0 rfl ?_
  refine g_geti (pc := 1) cl12 (Nat.le_of_ble_eq_true rfl) fk1584 (fun _ _ _ => rfl) dX12_semicolon_1 (fun x2 => ?_)
  refine g_join (fun k => ∀ (h1 : aH), J_X12_semicolon l E n0 m0 13 [] [] h1 (k h1)) (fun h1 => ?_) (fun k13 hk13 => ?_)
  · exact g_ret (pc := 13) rfl isRet_v dX12_semicolon_13 rfl
  refine g_ifne (pc := 4) (tgt := 13) dX12_semicolon_4 rfl ?_ ?_
  · refine g_aload_n (pc := 7) dX12_semicolon_7 0 rfl ?_
    refine g_bipush (pc := 8) dX12_semicolon_8 cb_59 ?_
    refine g_gS (fun hs => ?_)
    refine g_bRv (pc := 10) (c_V cl12 hs (p_X12_sign hl x1 (59 : Int32) h0) y_X12_sign tw1832 dX12_semicolon_10 rfl (st := []) rfl (Nat.le_of_ble_eq_true rfl) (Nat.le_of_ble_eq_true rfl) (Nat.le_of_ble_eq_true rfl)) (fun _ h2 => ?_)
    refine g_lv [] rfl ?_
    exact hk13 h2
  · refine g_lv [] rfl ?_
    exact hk13 h0
theorem p_X12_semicolon {l : Launch} {E : aE} (hl : l.stackTraces = false) (x1 : Nat) (h0 : aH) : MO (fun (_ : Unit) => .inl none) l E yX12_semicolon (.code yX12_semicolon cX12_semicolon 1 none) 3 62 [.ref (e_z E + x1)] h0 (m_X12_semicolon x1 h0) := g_met hl (by decide +kernel) (Nat.le_of_ble_eq_true rfl) (b_X12_semicolon hl _ _ x1 h0)
theorem dX12_readsText_0 : decode cX12_readsText 0 = .ok (.aload_n 0, 1) := by decide +kernel
theorem dX12_readsText_1 : decode cX12_readsText 1 = .ok (.iconst 0, 1) := by decide +kernel
theorem dX12_readsText_2 : decode cX12_readsText 2 = .ok (.putfield 187, 3) := by decide +kernel
theorem dX12_readsText_5 : decode cX12_readsText 5 = .ok (.aload_n 0, 1) := by decide +kernel
theorem dX12_readsText_6 : decode cX12_readsText 6 = .ok (.iconst 0, 1) := by decide +kernel
theorem dX12_readsText_7 : decode cX12_readsText 7 = .ok (.putfield 180, 3) := by decide +kernel
theorem dX12_readsText_10 : decode cX12_readsText 10 = .ok (.aload_n 0, 1) := by decide +kernel
theorem dX12_readsText_11 : decode cX12_readsText 11 = .ok (.iconst 0, 1) := by decide +kernel
theorem dX12_readsText_12 : decode cX12_readsText 12 = .ok (.putfield 256, 3) := by decide +kernel
theorem dX12_readsText_15 : decode cX12_readsText 15 = .ok (.aload_n 0, 1) := by decide +kernel
theorem dX12_readsText_16 : decode cX12_readsText 16 = .ok (.iconst 0, 1) := by decide +kernel
theorem dX12_readsText_17 : decode cX12_readsText 17 = .ok (.putfield 273, 3) := by decide +kernel
theorem dX12_readsText_20 : decode cX12_readsText 20 = .ok (.aload_n 0, 1) := by decide +kernel
theorem dX12_readsText_21 : decode cX12_readsText 21 = .ok (.iconst 0, 1) := by decide +kernel
theorem dX12_readsText_22 : decode cX12_readsText 22 = .ok (.putfield 276, 3) := by decide +kernel
theorem dX12_readsText_25 : decode cX12_readsText 25 = .ok (.aload_n 0, 1) := by decide +kernel
theorem dX12_readsText_26 : decode cX12_readsText 26 = .ok (.iconst 0, 1) := by decide +kernel
theorem dX12_readsText_27 : decode cX12_readsText 27 = .ok (.putfield 279, 3) := by decide +kernel
theorem dX12_readsText_30 : decode cX12_readsText 30 = .ok (.aload_n 0, 1) := by decide +kernel
theorem dX12_readsText_31 : decode cX12_readsText 31 = .ok (.iconst 0, 1) := by decide +kernel
theorem dX12_readsText_32 : decode cX12_readsText 32 = .ok (.putfield 284, 3) := by decide +kernel
theorem dX12_readsText_35 : decode cX12_readsText 35 = .ok (.iconst 0, 1) := by decide +kernel
theorem dX12_readsText_36 : decode cX12_readsText 36 = .ok (.istore_n 1, 1) := by decide +kernel
theorem dX12_readsText_37 : decode cX12_readsText 37 = .ok (.iload_n 1, 1) := by decide +kernel
theorem dX12_readsText_38 : decode cX12_readsText 38 = .ok (.sipush 144, 3) := by decide +kernel
theorem dX12_readsText_41 : decode cX12_readsText 41 = .ok (.if_icmp .ge 23, 3) := by decide +kernel
theorem dX12_readsText_44 : decode cX12_readsText 44 = .ok (.aload_n 0, 1) := by decide +kernel
theorem dX12_readsText_45 : decode cX12_readsText 45 = .ok (.getfield 97, 3) := by decide +kernel
theorem dX12_readsText_48 : decode cX12_readsText 48 = .ok (.iload_n 1, 1) := by decide +kernel
theorem dX12_readsText_49 : decode cX12_readsText 49 = .ok (.iconst 0, 1) := by decide +kernel
theorem dX12_readsText_50 : decode cX12_readsText 50 = .ok (.iastore, 1) := by decide +kernel
theorem dX12_readsText_51 : decode cX12_readsText 51 = .ok (.aload_n 0, 1) := by decide +kernel
theorem dX12_readsText_52 : decode cX12_readsText 52 = .ok (.getfield 100, 3) := by decide +kernel
theorem dX12_readsText_55 : decode cX12_readsText 55 = .ok (.iload_n 1, 1) := by decide +kernel
theorem dX12_readsText_56 : decode cX12_readsText 56 = .ok (.iconst 0, 1) := by decide +kernel
theorem dX12_readsText_57 : decode cX12_readsText 57 = .ok (.bastore, 1) := by decide +kernel
theorem dX12_readsText_58 : decode cX12_readsText 58 = .ok (.iinc 1 1, 3) := by decide +kernel
theorem dX12_readsText_61 : decode cX12_readsText 61 = .ok (.goto (-24), 3) := by decide +kernel
theorem dX12_readsText_64 : decode cX12_readsText 64 = .ok (.aload_n 0, 1) := by decide +kernel
theorem dX12_readsText_65 : decode cX12_readsText 65 = .ok (.invokevirtual 198, 3) := by decide +kernel
theorem dX12_readsText_68 : decode cX12_readsText 68 = .ok (.aload_n 0, 1) := by decide +kernel
theorem dX12_readsText_69 : decode cX12_readsText 69 = .ok (.ldc2_w 291, 3) := by decide +kernel
theorem dX12_readsText_72 : decode cX12_readsText 72 = .ok (.invokevirtual 252, 3) := by decide +kernel
theorem dX12_readsText_75 : decode cX12_readsText 75 = .ok (.ifCond .ne 12, 3) := by decide +kernel
theorem dX12_readsText_78 : decode cX12_readsText 78 = .ok (.aload_n 0, 1) := by decide +kernel
theorem dX12_readsText_79 : decode cX12_readsText 79 = .ok (.iconst 1, 1) := by decide +kernel
theorem dX12_readsText_80 : decode cX12_readsText 80 = .ok (.aload_n 0, 1) := by decide +kernel
theorem dX12_readsText_81 : decode cX12_readsText 81 = .ok (.getfield 187, 3) := by decide +kernel
theorem dX12_readsText_84 : decode cX12_readsText 84 = .ok (.invokevirtual 220, 3) := by decide +kernel
theorem dX12_readsText_87 : decode cX12_readsText 87 = .ok (.iconst 0, 1) := by decide +kernel
theorem dX12_readsText_88 : decode cX12_readsText 88 = .ok (.istore_n 1, 1) := by decide +kernel
theorem dX12_readsText_89 : decode cX12_readsText 89 = .ok (.iload_n 1, 1) := by decide +kernel
theorem dX12_readsText_90 : decode cX12_readsText 90 = .ok (.iconst 4, 1) := by decide +kernel
theorem dX12_readsText_91 : decode cX12_readsText 91 = .ok (.if_icmp .ge 88, 3) := by decide +kernel
theorem dX12_readsText_94 : decode cX12_readsText 94 = .ok (.aload_n 0, 1) := by decide +kernel
theorem dX12_readsText_95 : decode cX12_readsText 95 = .ok (.getfield 180, 3) := by decide +kernel
theorem dX12_readsText_98 : decode cX12_readsText 98 = .ok (.ifCond .ne 81, 3) := by decide +kernel
theorem dX12_readsText_101 : decode cX12_readsText 101 = .ok (.aload_n 0, 1) := by decide +kernel
theorem dX12_readsText_102 : decode cX12_readsText 102 = .ok (.getfield 85, 3) := by decide +kernel
theorem dX12_readsText_105 : decode cX12_readsText 105 = .ok (.iload_n 1, 1) := by decide +kernel
theorem dX12_readsText_106 : decode cX12_readsText 106 = .ok (.aload_n 0, 1) := by decide +kernel
theorem dX12_readsText_107 : decode cX12_readsText 107 = .ok (.iload_n 1, 1) := by decide +kernel
theorem dX12_readsText_108 : decode cX12_readsText 108 = .ok (.iconst 3, 1) := by decide +kernel
theorem dX12_readsText_109 : decode cX12_readsText 109 = .ok (.if_icmp .ne 7, 3) := by decide +kernel
theorem dX12_readsText_112 : decode cX12_readsText 112 = .ok (.iconst 1, 1) := by decide +kernel
theorem dX12_readsText_113 : decode cX12_readsText 113 = .ok (.goto 4, 3) := by decide +kernel
theorem dX12_readsText_116 : decode cX12_readsText 116 = .ok (.iconst 0, 1) := by decide +kernel
theorem dX12_readsText_117 : decode cX12_readsText 117 = .ok (.iload_n 1, 1) := by decide +kernel
theorem dX12_readsText_118 : decode cX12_readsText 118 = .ok (.iconst 2, 1) := by decide +kernel
theorem dX12_readsText_119 : decode cX12_readsText 119 = .ok (.if_icmp .ge 8, 3) := by decide +kernel
theorem dX12_readsText_122 : decode cX12_readsText 122 = .ok (.bipush 23, 2) := by decide +kernel
theorem dX12_readsText_124 : decode cX12_readsText 124 = .ok (.goto 16, 3) := by decide +kernel
theorem dX12_readsText_127 : decode cX12_readsText 127 = .ok (.iload_n 1, 1) := by decide +kernel
theorem dX12_readsText_128 : decode cX12_readsText 128 = .ok (.iconst 2, 1) := by decide +kernel
theorem dX12_readsText_129 : decode cX12_readsText 129 = .ok (.if_icmp .ne 8, 3) := by decide +kernel
theorem dX12_readsText_132 : decode cX12_readsText 132 = .ok (.bipush 30, 2) := by decide +kernel
theorem dX12_readsText_134 : decode cX12_readsText 134 = .ok (.goto 6, 3) := by decide +kernel
theorem dX12_readsText_137 : decode cX12_readsText 137 = .ok (.sipush 999, 3) := by decide +kernel
theorem dX12_readsText_140 : decode cX12_readsText 140 = .ok (.invokevirtual 262, 3) := by decide +kernel
theorem dX12_readsText_143 : decode cX12_readsText 143 = .ok (.iastore, 1) := by decide +kernel
theorem dX12_readsText_144 : decode cX12_readsText 144 = .ok (.iload_n 1, 1) := by decide +kernel
theorem dX12_readsText_145 : decode cX12_readsText 145 = .ok (.iconst 1, 1) := by decide +kernel
theorem dX12_readsText_146 : decode cX12_readsText 146 = .ok (.if_icmp .ne 27, 3) := by decide +kernel
theorem dX12_readsText_149 : decode cX12_readsText 149 = .ok (.aload_n 0, 1) := by decide +kernel
theorem dX12_readsText_150 : decode cX12_readsText 150 = .ok (.getfield 85, 3) := by decide +kernel
theorem dX12_readsText_153 : decode cX12_readsText 153 = .ok (.iconst 1, 1) := by decide +kernel
theorem dX12_readsText_154 : decode cX12_readsText 154 = .ok (.iaload, 1) := by decide +kernel
theorem dX12_readsText_155 : decode cX12_readsText 155 = .ok (.aload_n 0, 1) := by decide +kernel
theorem dX12_readsText_156 : decode cX12_readsText 156 = .ok (.getfield 85, 3) := by decide +kernel
theorem dX12_readsText_159 : decode cX12_readsText 159 = .ok (.iconst 0, 1) := by decide +kernel
theorem dX12_readsText_160 : decode cX12_readsText 160 = .ok (.iaload, 1) := by decide +kernel
theorem dX12_readsText_161 : decode cX12_readsText 161 = .ok (.if_icmp .ne 12, 3) := by decide +kernel
theorem dX12_readsText_164 : decode cX12_readsText 164 = .ok (.aload_n 0, 1) := by decide +kernel
theorem dX12_readsText_165 : decode cX12_readsText 165 = .ok (.iconst 2, 1) := by decide +kernel
theorem dX12_readsText_166 : decode cX12_readsText 166 = .ok (.aload_n 0, 1) := by decide +kernel
theorem dX12_readsText_167 : decode cX12_readsText 167 = .ok (.getfield 224, 3) := by decide +kernel
theorem dX12_readsText_170 : decode cX12_readsText 170 = .ok (.invokevirtual 220, 3) := by decide +kernel
theorem dX12_readsText_173 : decode cX12_readsText 173 = .ok (.iinc 1 1, 3) := by decide +kernel
theorem dX12_readsText_176 : decode cX12_readsText 176 = .ok (.goto (-87), 3) := by decide +kernel
theorem dX12_readsText_179 : decode cX12_readsText 179 = .ok (.aload_n 0, 1) := by decide +kernel
theorem dX12_readsText_180 : decode cX12_readsText 180 = .ok (.invokevirtual 293, 3) := by decide +kernel
theorem dX12_readsText_183 : decode cX12_readsText 183 = .ok (.aload_n 0, 1) := by decide +kernel
theorem dX12_readsText_184 : decode cX12_readsText 184 = .ok (.ldc2_w 296, 3) := by decide +kernel
theorem dX12_readsText_187 : decode cX12_readsText 187 = .ok (.aload_n 0, 1) := by decide +kernel
theorem dX12_readsText_188 : decode cX12_readsText 188 = .ok (.getfield 256, 3) := by decide +kernel
theorem dX12_readsText_191 : decode cX12_readsText 191 = .ok (.bipush 12, 2) := by decide +kernel
theorem dX12_readsText_193 : decode cX12_readsText 193 = .ok (.invokevirtual 298, 3) := by decide +kernel
theorem dX12_readsText_196 : decode cX12_readsText 196 = .ok (.ifCond .eq 14, 3) := by decide +kernel
theorem dX12_readsText_199 : decode cX12_readsText 199 = .ok (.aload_n 0, 1) := by decide +kernel
theorem dX12_readsText_200 : decode cX12_readsText 200 = .ok (.invokevirtual 302, 3) := by decide +kernel
theorem dX12_readsText_203 : decode cX12_readsText 203 = .ok (.aload_n 0, 1) := by decide +kernel
theorem dX12_readsText_204 : decode cX12_readsText 204 = .ok (.invokevirtual 293, 3) := by decide +kernel
theorem dX12_readsText_207 : decode cX12_readsText 207 = .ok (.goto (-24), 3) := by decide +kernel
theorem dX12_readsText_210 : decode cX12_readsText 210 = .ok (.aload_n 0, 1) := by decide +kernel
theorem dX12_readsText_211 : decode cX12_readsText 211 = .ok (.ldc2_w 305, 3) := by decide +kernel
theorem dX12_readsText_214 : decode cX12_readsText 214 = .ok (.aload_n 0, 1) := by decide +kernel
theorem dX12_readsText_215 : decode cX12_readsText 215 = .ok (.getfield 273, 3) := by decide +kernel
theorem dX12_readsText_218 : decode cX12_readsText 218 = .ok (.bipush 24, 2) := by decide +kernel
theorem dX12_readsText_220 : decode cX12_readsText 220 = .ok (.invokevirtual 298, 3) := by decide +kernel
theorem dX12_readsText_223 : decode cX12_readsText 223 = .ok (.ifCond .eq 14, 3) := by decide +kernel
theorem dX12_readsText_226 : decode cX12_readsText 226 = .ok (.aload_n 0, 1) := by decide +kernel
theorem dX12_readsText_227 : decode cX12_readsText 227 = .ok (.invokevirtual 307, 3) := by decide +kernel
theorem dX12_readsText_230 : decode cX12_readsText 230 = .ok (.aload_n 0, 1) := by decide +kernel
theorem dX12_readsText_231 : decode cX12_readsText 231 = .ok (.invokevirtual 293, 3) := by decide +kernel
theorem dX12_readsText_234 : decode cX12_readsText 234 = .ok (.goto (-24), 3) := by decide +kernel
theorem dX12_readsText_237 : decode cX12_readsText 237 = .ok (.aload_n 0, 1) := by decide +kernel
theorem dX12_readsText_238 : decode cX12_readsText 238 = .ok (.ldc2_w 310, 3) := by decide +kernel
theorem dX12_readsText_241 : decode cX12_readsText 241 = .ok (.aload_n 0, 1) := by decide +kernel
theorem dX12_readsText_242 : decode cX12_readsText 242 = .ok (.getfield 276, 3) := by decide +kernel
theorem dX12_readsText_245 : decode cX12_readsText 245 = .ok (.bipush 6, 2) := by decide +kernel
theorem dX12_readsText_247 : decode cX12_readsText 247 = .ok (.invokevirtual 298, 3) := by decide +kernel
theorem dX12_readsText_250 : decode cX12_readsText 250 = .ok (.ifCond .eq 14, 3) := by decide +kernel
theorem dX12_readsText_253 : decode cX12_readsText 253 = .ok (.aload_n 0, 1) := by decide +kernel
theorem dX12_readsText_254 : decode cX12_readsText 254 = .ok (.invokevirtual 312, 3) := by decide +kernel
theorem dX12_readsText_257 : decode cX12_readsText 257 = .ok (.aload_n 0, 1) := by decide +kernel
theorem dX12_readsText_258 : decode cX12_readsText 258 = .ok (.invokevirtual 293, 3) := by decide +kernel
theorem dX12_readsText_261 : decode cX12_readsText 261 = .ok (.goto (-24), 3) := by decide +kernel
theorem dX12_readsText_264 : decode cX12_readsText 264 = .ok (.aload_n 0, 1) := by decide +kernel
theorem dX12_readsText_265 : decode cX12_readsText 265 = .ok (.ldc2_w 315, 3) := by decide +kernel
theorem dX12_readsText_268 : decode cX12_readsText 268 = .ok (.aload_n 0, 1) := by decide +kernel
theorem dX12_readsText_269 : decode cX12_readsText 269 = .ok (.getfield 279, 3) := by decide +kernel
theorem dX12_readsText_272 : decode cX12_readsText 272 = .ok (.iconst 5, 1) := by decide +kernel
theorem dX12_readsText_273 : decode cX12_readsText 273 = .ok (.invokevirtual 298, 3) := by decide +kernel
theorem dX12_readsText_276 : decode cX12_readsText 276 = .ok (.ifCond .eq 14, 3) := by decide +kernel
theorem dX12_readsText_279 : decode cX12_readsText 279 = .ok (.aload_n 0, 1) := by decide +kernel
theorem dX12_readsText_280 : decode cX12_readsText 280 = .ok (.invokevirtual 317, 3) := by decide +kernel
theorem dX12_readsText_283 : decode cX12_readsText 283 = .ok (.aload_n 0, 1) := by decide +kernel
theorem dX12_readsText_284 : decode cX12_readsText 284 = .ok (.invokevirtual 293, 3) := by decide +kernel
theorem dX12_readsText_287 : decode cX12_readsText 287 = .ok (.goto (-23), 3) := by decide +kernel
theorem dX12_readsText_290 : decode cX12_readsText 290 = .ok (.aload_n 0, 1) := by decide +kernel
theorem dX12_readsText_291 : decode cX12_readsText 291 = .ok (.ldc2_w 320, 3) := by decide +kernel
theorem dX12_readsText_294 : decode cX12_readsText 294 = .ok (.aload_n 0, 1) := by decide +kernel
theorem dX12_readsText_295 : decode cX12_readsText 295 = .ok (.getfield 284, 3) := by decide +kernel
theorem dX12_readsText_298 : decode cX12_readsText 298 = .ok (.bipush 6, 2) := by decide +kernel
theorem dX12_readsText_300 : decode cX12_readsText 300 = .ok (.invokevirtual 298, 3) := by decide +kernel
theorem dX12_readsText_303 : decode cX12_readsText 303 = .ok (.ifCond .eq 14, 3) := by decide +kernel
theorem dX12_readsText_306 : decode cX12_readsText 306 = .ok (.aload_n 0, 1) := by decide +kernel
theorem dX12_readsText_307 : decode cX12_readsText 307 = .ok (.invokevirtual 322, 3) := by decide +kernel
theorem dX12_readsText_310 : decode cX12_readsText 310 = .ok (.aload_n 0, 1) := by decide +kernel
theorem dX12_readsText_311 : decode cX12_readsText 311 = .ok (.invokevirtual 293, 3) := by decide +kernel
theorem dX12_readsText_314 : decode cX12_readsText 314 = .ok (.goto (-24), 3) := by decide +kernel
theorem dX12_readsText_317 : decode cX12_readsText 317 = .ok (.aload_n 0, 1) := by decide +kernel
theorem dX12_readsText_318 : decode cX12_readsText 318 = .ok (.getfield 180, 3) := by decide +kernel
theorem dX12_readsText_321 : decode cX12_readsText 321 = .ok (.ifCond .ne 27, 3) := by decide +kernel
theorem dX12_readsText_324 : decode cX12_readsText 324 = .ok (.aload_n 0, 1) := by decide +kernel
theorem dX12_readsText_325 : decode cX12_readsText 325 = .ok (.invokevirtual 198, 3) := by decide +kernel
theorem dX12_readsText_328 : decode cX12_readsText 328 = .ok (.aload_n 0, 1) := by decide +kernel
theorem dX12_readsText_329 : decode cX12_readsText 329 = .ok (.getfield 187, 3) := by decide +kernel
theorem dX12_readsText_332 : decode cX12_readsText 332 = .ok (.aload_n 0, 1) := by decide +kernel
theorem dX12_readsText_333 : decode cX12_readsText 333 = .ok (.getfield 169, 3) := by decide +kernel
theorem dX12_readsText_336 : decode cX12_readsText 336 = .ok (.if_icmp .ge 12, 3) := by decide +kernel
theorem dX12_readsText_339 : decode cX12_readsText 339 = .ok (.aload_n 0, 1) := by decide +kernel
theorem dX12_readsText_340 : decode cX12_readsText 340 = .ok (.iconst 1, 1) := by decide +kernel
theorem dX12_readsText_341 : decode cX12_readsText 341 = .ok (.aload_n 0, 1) := by decide +kernel
theorem dX12_readsText_342 : decode cX12_readsText 342 = .ok (.getfield 187, 3) := by decide +kernel
theorem dX12_readsText_345 : decode cX12_readsText 345 = .ok (.invokevirtual 220, 3) := by decide +kernel
theorem dX12_readsText_348 : decode cX12_readsText 348 = .ok (.return_, 1) := by decide +kernel
abbrev M_X12_readsText : aM := (yX12_readsText.cls, cX12_readsText, 2, none, [], yX12_readsText.name == "<init>")
abbrev J_X12_readsText (l : Launch) (E : aE) (n0 m0 : Nat) := GG (fun (_ : Unit) => .inl none) l E M_X12_readsText 6 137 n0 m0
theorem b_X12_readsText {l : Launch} {E : aE} (hl : l.stackTraces = false) (n0 m0 : Nat) (x1 : Nat) (h0 : aH) : J_X12_readsText l E n0 m0 0 [(0, .ref (e_z E + x1))] [] h0 (m_X12_readsText x1 h0) := by
  unfold m_X12_readsText
  refine g_aload_n (pc := 0) dX12_readsText_0 0 rfl ?_
  refine g_iconst (pc := 1) dX12_readsText_1 ci_0 ?_
  refine g_puti (pc := 2) cl12 (Nat.le_of_ble_eq_true rfl) (Or.inl ⟨rfl, fk1581⟩) (fun _ _ _ => rfl) (fun _ => ⟨rfl, rfl⟩) dX12_readsText_2 (fun h1 => ?_)
  refine g_aload_n (pc := 5) dX12_readsText_5 0 rfl ?_
  refine g_iconst (pc := 6) dX12_readsText_6 ci_0 ?_
  refine g_putz (pc := 7) cl12 (Nat.le_of_ble_eq_true rfl) (Or.inl ⟨rfl, fk1584⟩) (fun _ _ _ => rfl) ⟨⟨rfl, rfl⟩, rfl, rfl⟩ dX12_readsText_7 (fun h2 => ?_)
  refine g_aload_n (pc := 10) dX12_readsText_10 0 rfl ?_
  refine g_iconst (pc := 11) dX12_readsText_11 ci_0 ?_
  refine g_puti (pc := 12) cl12 (Nat.le_of_ble_eq_true rfl) (Or.inl ⟨rfl, fk1590⟩) (fun _ _ _ => rfl) (fun _ => ⟨rfl, rfl⟩) dX12_readsText_12 (fun h3 => ?_)
  refine g_aload_n (pc := 15) dX12_readsText_15 0 rfl ?_
  refine g_iconst (pc := 16) dX12_readsText_16 ci_0 ?_
  refine g_puti (pc := 17) cl12 (Nat.le_of_ble_eq_true rfl) (Or.inl ⟨rfl, fk1591⟩) (fun _ _ _ => rfl) (fun _ => ⟨rfl, rfl⟩) dX12_readsText_17 (fun h4 => ?_)
  refine g_aload_n (pc := 20) dX12_readsText_20 0 rfl ?_
  refine g_iconst (pc := 21) dX12_readsText_21 ci_0 ?_
  refine g_puti (pc := 22) cl12 (Nat.le_of_ble_eq_true rfl) (Or.inl ⟨rfl, fk1592⟩) (fun _ _ _ => rfl) (fun _ => ⟨rfl, rfl⟩) dX12_readsText_22 (fun h5 => ?_)
  refine g_aload_n (pc := 25) dX12_readsText_25 0 rfl ?_
  refine g_iconst (pc := 26) dX12_readsText_26 ci_0 ?_
  refine g_puti (pc := 27) cl12 (Nat.le_of_ble_eq_true rfl) (Or.inl ⟨rfl, fk1593⟩) (fun _ _ _ => rfl) (fun _ => ⟨rfl, rfl⟩) dX12_readsText_27 (fun h6 => ?_)
  refine g_aload_n (pc := 30) dX12_readsText_30 0 rfl ?_
  refine g_iconst (pc := 31) dX12_readsText_31 ci_0 ?_
  refine g_puti (pc := 32) cl12 (Nat.le_of_ble_eq_true rfl) (Or.inl ⟨rfl, fk1594⟩) (fun _ _ _ => rfl) (fun _ => ⟨rfl, rfl⟩) dX12_readsText_32 (fun h7 => ?_)
  refine g_iconst (pc := 35) dX12_readsText_35 ci_0 ?_
  refine g_istore_n (pc := 36) (lv' := [(1, .int (0 : Int32)), (0, .ref (e_z E + x1))]) dX12_readsText_36 (Nat.le_of_ble_eq_true rfl) rfl ?_
  refine g_join (fun k => ∀ (h8 : aH), J_X12_readsText l E n0 m0 64 [(0, .ref (e_z E + x1))] [] h8 (k h8)) (fun h8 => ?_) (fun k64 hk64 => ?_)
  · refine g_aload_n (pc := 64) dX12_readsText_64 0 rfl ?_
    refine g_gS (fun hs => ?_)
    refine g_bRv (pc := 65) (c_V cl12 hs (p_X12_blanks hl x1 h8) y_X12_blanks tw1793 dX12_readsText_65 rfl (st := []) rfl (Nat.le_of_ble_eq_true rfl) (Nat.le_of_ble_eq_true rfl) (Nat.le_of_ble_eq_true rfl)) (fun _ h9 => ?_)
    refine g_aload_n (pc := 68) dX12_readsText_68 0 rfl ?_
    refine g_ldc2 (pc := 69) tw1797 dX12_readsText_69 ?_
    refine g_gS (fun hs => ?_)
    refine g_bRi (pc := 72) (c_V cl12 hs (p_X12_says hl x1 (7622660 : Int64) h9) y_X12_says tw1798 dX12_readsText_72 rfl (st := []) rfl (Nat.le_of_ble_eq_true rfl) (Nat.le_of_ble_eq_true rfl) (Nat.le_of_ble_eq_true rfl)) (fun x2 h10 => ?_)
    refine g_join (fun k => ∀ (h11 : aH), J_X12_readsText l E n0 m0 87 [(0, .ref (e_z E + x1))] [] h11 (k h11)) (fun h11 => ?_) (fun k87 hk87 => ?_)
    · refine g_iconst (pc := 87) dX12_readsText_87 ci_0 ?_
      refine g_istore_n (pc := 88) (lv' := [(1, .int (0 : Int32)), (0, .ref (e_z E + x1))]) dX12_readsText_88 (Nat.le_of_ble_eq_true rfl) rfl ?_
      refine g_join (fun k => ∀ (h12 : aH), J_X12_readsText l E n0 m0 179 [(0, .ref (e_z E + x1))] [] h12 (k h12)) (fun h12 => ?_) (fun k179 hk179 => ?_)
      · refine g_aload_n (pc := 179) dX12_readsText_179 0 rfl ?_
        refine g_gS (fun hs => ?_)
        refine g_bRv (pc := 180) (c_V cl12 hs (p_X12_semicolon hl x1 h12) y_X12_semicolon tw1828 dX12_readsText_180 rfl (st := []) rfl (Nat.le_of_ble_eq_true rfl) (Nat.le_of_ble_eq_true rfl) (Nat.le_of_ble_eq_true rfl)) (fun _ h13 => ?_)
        refine g_join (fun k => ∀ (h14 : aH), J_X12_readsText l E n0 m0 210 [(0, .ref (e_z E + x1))] [] h14 (k h14)) (fun h14 => ?_) (fun k210 hk210 => ?_)
        · refine g_join (fun k => ∀ (h15 : aH), J_X12_readsText l E n0 m0 237 [(0, .ref (e_z E + x1))] [] h15 (k h15)) (fun h15 => ?_) (fun k237 hk237 => ?_)
          · refine g_join (fun k => ∀ (h16 : aH), J_X12_readsText l E n0 m0 264 [(0, .ref (e_z E + x1))] [] h16 (k h16)) (fun h16 => ?_) (fun k264 hk264 => ?_)
            · refine g_join (fun k => ∀ (h17 : aH), J_X12_readsText l E n0 m0 290 [(0, .ref (e_z E + x1))] [] h17 (k h17)) (fun h17 => ?_) (fun k290 hk290 => ?_)
              · refine g_join (fun k => ∀ (h18 : aH), J_X12_readsText l E n0 m0 317 [(0, .ref (e_z E + x1))] [] h18 (k h18)) (fun h18 => ?_) (fun k317 hk317 => ?_)
                · refine g_aload_n (pc := 317) dX12_readsText_317 0 rfl ?_
                  refine g_geti (pc := 318) cl12 (Nat.le_of_ble_eq_true rfl) fk1584 (fun _ _ _ => rfl) dX12_readsText_318 (fun x3 => ?_)
                  refine g_join (fun k => ∀ (h19 : aH), J_X12_readsText l E n0 m0 348 [] [] h19 (k h19)) (fun h19 => ?_) (fun k348 hk348 => ?_)
                  · exact g_ret (pc := 348) rfl isRet_v dX12_readsText_348 rfl
                  refine g_ifne (pc := 321) (tgt := 348) dX12_readsText_321 rfl ?_ ?_
                  · refine g_aload_n (pc := 324) dX12_readsText_324 0 rfl ?_
                    refine g_gS (fun hs => ?_)
                    refine g_bRv (pc := 325) (c_V cl12 hs (p_X12_blanks hl x1 h18) y_X12_blanks tw1793 dX12_readsText_325 rfl (st := []) rfl (Nat.le_of_ble_eq_true rfl) (Nat.le_of_ble_eq_true rfl) (Nat.le_of_ble_eq_true rfl)) (fun _ h20 => ?_)
                    refine g_aload_n (pc := 328) dX12_readsText_328 0 rfl ?_
                    refine g_geti (pc := 329) cl12 (Nat.le_of_ble_eq_true rfl) fk1581 (fun _ _ _ => rfl) dX12_readsText_329 (fun x4 => ?_)
                    refine g_aload_n (pc := 332) dX12_readsText_332 0 rfl ?_
                    refine g_geti (pc := 333) cl12 (Nat.le_of_ble_eq_true rfl) fk1580 (fun _ _ _ => rfl) dX12_readsText_333 (fun x5 => ?_)
                    refine g_icmpge (pc := 336) (tgt := 348) dX12_readsText_336 rfl ?_ ?_
                    · refine g_aload_n (pc := 339) dX12_readsText_339 0 rfl ?_
                      refine g_iconst (pc := 340) dX12_readsText_340 ci_1 ?_
                      refine g_aload_n (pc := 341) dX12_readsText_341 0 rfl ?_
                      refine g_geti (pc := 342) cl12 (Nat.le_of_ble_eq_true rfl) fk1581 (fun _ _ _ => rfl) dX12_readsText_342 (fun x6 => ?_)
                      refine g_gS (fun hs => ?_)
                      refine g_bRv (pc := 345) (c_V cl12 hs (p_X12_fault hl x1 (1 : Int32) x6 h20) y_X12_fault tw1814 dX12_readsText_345 rfl (st := []) rfl (Nat.le_of_ble_eq_true rfl) (Nat.le_of_ble_eq_true rfl) (Nat.le_of_ble_eq_true rfl)) (fun _ h21 => ?_)
                      refine g_lv [] rfl ?_
                      exact hk348 h21
                    · refine g_lv [] rfl ?_
                      exact hk348 h20
                  · refine g_lv [] rfl ?_
                    exact hk348 h18
                refine g_loop0 (F := (m_X12_readsText_L290 x1 k317)) ([(0, .ref (e_z E + x1))]) (fun r290 hr290 h22 => ?_) _ _
                unfold m_X12_readsText_L290
                refine g_aload_n (pc := 290) dX12_readsText_290 0 rfl ?_
                refine g_ldc2 (pc := 291) tw1888 dX12_readsText_291 ?_
                refine g_aload_n (pc := 294) dX12_readsText_294 0 rfl ?_
                refine g_geti (pc := 295) cl12 (Nat.le_of_ble_eq_true rfl) fk1594 (fun _ _ _ => rfl) dX12_readsText_295 (fun x7 => ?_)
                refine g_bipush (pc := 298) dX12_readsText_298 cb_6 ?_
                refine g_gS (fun hs => ?_)
                refine g_bRi (pc := 300) (c_V cl12 hs (p_X12_begins hl x1 (223456 : Int64) x7 (6 : Int32) h22) y_X12_begins tw1841 dX12_readsText_300 rfl (st := []) rfl (Nat.le_of_ble_eq_true rfl) (Nat.le_of_ble_eq_true rfl) (Nat.le_of_ble_eq_true rfl)) (fun x8 h23 => ?_)
                refine g_ifeq (pc := 303) (tgt := 317) dX12_readsText_303 rfl ?_ ?_
                · exact hk317 h23
                · refine g_aload_n (pc := 306) dX12_readsText_306 0 rfl ?_
                  refine g_gS (fun hs => ?_)
                  refine g_bRv (pc := 307) (c_V cl12 hs (p_X12_kind hl x1 h23) y_X12_kind tw1889 dX12_readsText_307 rfl (st := []) rfl (Nat.le_of_ble_eq_true rfl) (Nat.le_of_ble_eq_true rfl) (Nat.le_of_ble_eq_true rfl)) (fun _ h24 => ?_)
                  refine g_aload_n (pc := 310) dX12_readsText_310 0 rfl ?_
                  refine g_gS (fun hs => ?_)
                  refine g_bRv (pc := 311) (c_V cl12 hs (p_X12_semicolon hl x1 h24) y_X12_semicolon tw1828 dX12_readsText_311 rfl (st := []) rfl (Nat.le_of_ble_eq_true rfl) (Nat.le_of_ble_eq_true rfl) (Nat.le_of_ble_eq_true rfl)) (fun _ h25 => ?_)
                  refine g_goto (pc := 314) (tgt := 290) dX12_readsText_314 rfl ?_
                  exact hr290 h25
              refine g_loop0 (F := (m_X12_readsText_L264 x1 k290)) ([(0, .ref (e_z E + x1))]) (fun r264 hr264 h26 => ?_) _ _
              unfold m_X12_readsText_L264
              refine g_aload_n (pc := 264) dX12_readsText_264 0 rfl ?_
              refine g_ldc2 (pc := 265) tw1882 dX12_readsText_265 ?_
              refine g_aload_n (pc := 268) dX12_readsText_268 0 rfl ?_
              refine g_geti (pc := 269) cl12 (Nat.le_of_ble_eq_true rfl) fk1593 (fun _ _ _ => rfl) dX12_readsText_269 (fun x9 => ?_)
              refine g_iconst (pc := 272) dX12_readsText_272 ci_5 ?_
              refine g_gS (fun hs => ?_)
              refine g_bRi (pc := 273) (c_V cl12 hs (p_X12_begins hl x1 (79329434 : Int64) x9 (5 : Int32) h26) y_X12_begins tw1841 dX12_readsText_273 rfl (st := []) rfl (Nat.le_of_ble_eq_true rfl) (Nat.le_of_ble_eq_true rfl) (Nat.le_of_ble_eq_true rfl)) (fun x10 h27 => ?_)
              refine g_ifeq (pc := 276) (tgt := 290) dX12_readsText_276 rfl ?_ ?_
              · exact hk290 h27
              · refine g_aload_n (pc := 279) dX12_readsText_279 0 rfl ?_
                refine g_gS (fun hs => ?_)
                refine g_bRv (pc := 280) (c_V cl12 hs (p_X12_engine hl x1 h27) y_X12_engine tw1883 dX12_readsText_280 rfl (st := []) rfl (Nat.le_of_ble_eq_true rfl) (Nat.le_of_ble_eq_true rfl) (Nat.le_of_ble_eq_true rfl)) (fun _ h28 => ?_)
                refine g_aload_n (pc := 283) dX12_readsText_283 0 rfl ?_
                refine g_gS (fun hs => ?_)
                refine g_bRv (pc := 284) (c_V cl12 hs (p_X12_semicolon hl x1 h28) y_X12_semicolon tw1828 dX12_readsText_284 rfl (st := []) rfl (Nat.le_of_ble_eq_true rfl) (Nat.le_of_ble_eq_true rfl) (Nat.le_of_ble_eq_true rfl)) (fun _ h29 => ?_)
                refine g_goto (pc := 287) (tgt := 264) dX12_readsText_287 rfl ?_
                exact hr264 h29
            refine g_loop0 (F := (m_X12_readsText_L237 x1 k264)) ([(0, .ref (e_z E + x1))]) (fun r237 hr237 h30 => ?_) _ _
            unfold m_X12_readsText_L237
            refine g_aload_n (pc := 237) dX12_readsText_237 0 rfl ?_
            refine g_ldc2 (pc := 238) tw1877 dX12_readsText_238 ?_
            refine g_aload_n (pc := 241) dX12_readsText_241 0 rfl ?_
            refine g_geti (pc := 242) cl12 (Nat.le_of_ble_eq_true rfl) fk1592 (fun _ _ _ => rfl) dX12_readsText_242 (fun x11 => ?_)
            refine g_bipush (pc := 245) dX12_readsText_245 cb_6 ?_
            refine g_gS (fun hs => ?_)
            refine g_bRi (pc := 247) (c_V cl12 hs (p_X12_begins hl x1 (8527995 : Int64) x11 (6 : Int32) h30) y_X12_begins tw1841 dX12_readsText_247 rfl (st := []) rfl (Nat.le_of_ble_eq_true rfl) (Nat.le_of_ble_eq_true rfl) (Nat.le_of_ble_eq_true rfl)) (fun x12 h31 => ?_)
            refine g_ifeq (pc := 250) (tgt := 264) dX12_readsText_250 rfl ?_ ?_
            · exact hk264 h31
            · refine g_aload_n (pc := 253) dX12_readsText_253 0 rfl ?_
              refine g_gS (fun hs => ?_)
              refine g_bRv (pc := 254) (c_V cl12 hs (p_X12_pager hl x1 h31) y_X12_pager tw1878 dX12_readsText_254 rfl (st := []) rfl (Nat.le_of_ble_eq_true rfl) (Nat.le_of_ble_eq_true rfl) (Nat.le_of_ble_eq_true rfl)) (fun _ h32 => ?_)
              refine g_aload_n (pc := 257) dX12_readsText_257 0 rfl ?_
              refine g_gS (fun hs => ?_)
              refine g_bRv (pc := 258) (c_V cl12 hs (p_X12_semicolon hl x1 h32) y_X12_semicolon tw1828 dX12_readsText_258 rfl (st := []) rfl (Nat.le_of_ble_eq_true rfl) (Nat.le_of_ble_eq_true rfl) (Nat.le_of_ble_eq_true rfl)) (fun _ h33 => ?_)
              refine g_goto (pc := 261) (tgt := 237) dX12_readsText_261 rfl ?_
              exact hr237 h33
          refine g_loop0 (F := (m_X12_readsText_L210 x1 k237)) ([(0, .ref (e_z E + x1))]) (fun r210 hr210 h34 => ?_) _ _
          unfold m_X12_readsText_L210
          refine g_aload_n (pc := 210) dX12_readsText_210 0 rfl ?_
          refine g_ldc2 (pc := 211) tw1868 dX12_readsText_211 ?_
          refine g_aload_n (pc := 214) dX12_readsText_214 0 rfl ?_
          refine g_geti (pc := 215) cl12 (Nat.le_of_ble_eq_true rfl) fk1591 (fun _ _ _ => rfl) dX12_readsText_215 (fun x13 => ?_)
          refine g_bipush (pc := 218) dX12_readsText_218 cb_24 ?_
          refine g_gS (fun hs => ?_)
          refine g_bRi (pc := 220) (c_V cl12 hs (p_X12_begins hl x1 (10998956 : Int64) x13 (24 : Int32) h34) y_X12_begins tw1841 dX12_readsText_220 rfl (st := []) rfl (Nat.le_of_ble_eq_true rfl) (Nat.le_of_ble_eq_true rfl) (Nat.le_of_ble_eq_true rfl)) (fun x14 h35 => ?_)
          refine g_ifeq (pc := 223) (tgt := 237) dX12_readsText_223 rfl ?_ ?_
          · exact hk237 h35
          · refine g_aload_n (pc := 226) dX12_readsText_226 0 rfl ?_
            refine g_gS (fun hs => ?_)
            refine g_bRv (pc := 227) (c_V cl12 hs (p_X12_trust hl x1 h35) y_X12_trust tw1869 dX12_readsText_227 rfl (st := []) rfl (Nat.le_of_ble_eq_true rfl) (Nat.le_of_ble_eq_true rfl) (Nat.le_of_ble_eq_true rfl)) (fun _ h36 => ?_)
            refine g_aload_n (pc := 230) dX12_readsText_230 0 rfl ?_
            refine g_gS (fun hs => ?_)
            refine g_bRv (pc := 231) (c_V cl12 hs (p_X12_semicolon hl x1 h36) y_X12_semicolon tw1828 dX12_readsText_231 rfl (st := []) rfl (Nat.le_of_ble_eq_true rfl) (Nat.le_of_ble_eq_true rfl) (Nat.le_of_ble_eq_true rfl)) (fun _ h37 => ?_)
            refine g_goto (pc := 234) (tgt := 210) dX12_readsText_234 rfl ?_
            exact hr210 h37
        refine g_loop0 (F := (m_X12_readsText_L183 x1 k210)) ([(0, .ref (e_z E + x1))]) (fun r183 hr183 h38 => ?_) _ _
        unfold m_X12_readsText_L183
        refine g_aload_n (pc := 183) dX12_readsText_183 0 rfl ?_
        refine g_ldc2 (pc := 184) tw1840 dX12_readsText_184 ?_
        refine g_aload_n (pc := 187) dX12_readsText_187 0 rfl ?_
        refine g_geti (pc := 188) cl12 (Nat.le_of_ble_eq_true rfl) fk1590 (fun _ _ _ => rfl) dX12_readsText_188 (fun x15 => ?_)
        refine g_bipush (pc := 191) dX12_readsText_191 cb_12 ?_
        refine g_gS (fun hs => ?_)
        refine g_bRi (pc := 193) (c_V cl12 hs (p_X12_begins hl x1 (232608281 : Int64) x15 (12 : Int32) h38) y_X12_begins tw1841 dX12_readsText_193 rfl (st := []) rfl (Nat.le_of_ble_eq_true rfl) (Nat.le_of_ble_eq_true rfl) (Nat.le_of_ble_eq_true rfl)) (fun x16 h39 => ?_)
        refine g_ifeq (pc := 196) (tgt := 210) dX12_readsText_196 rfl ?_ ?_
        · exact hk210 h39
        · refine g_aload_n (pc := 199) dX12_readsText_199 0 rfl ?_
          refine g_gS (fun hs => ?_)
          refine g_bRv (pc := 200) (c_V cl12 hs (p_X12_person hl x1 h39) y_X12_person tw1845 dX12_readsText_200 rfl (st := []) rfl (Nat.le_of_ble_eq_true rfl) (Nat.le_of_ble_eq_true rfl) (Nat.le_of_ble_eq_true rfl)) (fun _ h40 => ?_)
          refine g_aload_n (pc := 203) dX12_readsText_203 0 rfl ?_
          refine g_gS (fun hs => ?_)
          refine g_bRv (pc := 204) (c_V cl12 hs (p_X12_semicolon hl x1 h40) y_X12_semicolon tw1828 dX12_readsText_204 rfl (st := []) rfl (Nat.le_of_ble_eq_true rfl) (Nat.le_of_ble_eq_true rfl) (Nat.le_of_ble_eq_true rfl)) (fun _ h41 => ?_)
          refine g_goto (pc := 207) (tgt := 183) dX12_readsText_207 rfl ?_
          exact hr183 h41
      refine g_lv [1, 0] rfl ?_
      refine g_loop1 (F := (m_X12_readsText_L89 x1 k179)) (fun x17 => [(0, .ref (e_z E + x1)), (1, .int x17)]) (fun r89 hr89 x17 h42 => ?_) _ _ _
      unfold m_X12_readsText_L89
      refine g_iload_n (pc := 89) dX12_readsText_89 1 rfl ?_
      refine g_iconst (pc := 90) dX12_readsText_90 ci_4 ?_
      refine g_icmpge (pc := 91) (tgt := 179) dX12_readsText_91 rfl ?_ ?_
      · refine g_aload_n (pc := 94) dX12_readsText_94 0 rfl ?_
        refine g_geti (pc := 95) cl12 (Nat.le_of_ble_eq_true rfl) fk1584 (fun _ _ _ => rfl) dX12_readsText_95 (fun x18 => ?_)
        refine g_ifne (pc := 98) (tgt := 179) dX12_readsText_98 rfl ?_ ?_
        · refine g_aload_n (pc := 101) dX12_readsText_101 0 rfl ?_
          refine g_getr (pc := 102) cl12 (Nat.le_of_ble_eq_true rfl) fk1589 (fun _ _ _ => rfl) dX12_readsText_102 (fun x19 => ?_)
          refine g_iload_n (pc := 105) dX12_readsText_105 1 rfl ?_
          refine g_aload_n (pc := 106) dX12_readsText_106 0 rfl ?_
          refine g_iload_n (pc := 107) dX12_readsText_107 1 rfl ?_
          refine g_iconst (pc := 108) dX12_readsText_108 ci_3 ?_
          refine g_join (fun k => ∀ (x20 : Int32) (h43 : aH), J_X12_readsText l E n0 m0 117 [(0, .ref (e_z E + x1)), (1, .int x17)] [.int x20, .ref (e_z E + x1), .int x17, .ref (e_z E + x19)] h43 (k x20 h43)) (fun x20 h43 => ?_) (fun k117 hk117 => ?_)
          · refine g_iload_n (pc := 117) dX12_readsText_117 1 rfl ?_
            refine g_iconst (pc := 118) dX12_readsText_118 ci_2 ?_
            refine g_join (fun k => ∀ (x21 : Int32) (h44 : aH), J_X12_readsText l E n0 m0 140 [(0, .ref (e_z E + x1)), (1, .int x17)] [.int x21, .int x20, .ref (e_z E + x1), .int x17, .ref (e_z E + x19)] h44 (k x21 h44)) (fun x21 h44 => ?_) (fun k140 hk140 => ?_)
            · refine g_gS (fun hs => ?_)
              refine g_bRi (pc := 140) (c_V cl12 hs (p_X12_number hl x1 x20 x21 h44) y_X12_number tw1818 dX12_readsText_140 rfl (st := [.int x17, .ref (e_z E + x19)]) rfl (Nat.le_of_ble_eq_true rfl) (Nat.le_of_ble_eq_true rfl) (Nat.le_of_ble_eq_true rfl)) (fun x22 h45 => ?_)
              refine g_iast (pc := 143) dX12_readsText_143 (fun h46 => ?_)
              refine g_iload_n (pc := 144) dX12_readsText_144 1 rfl ?_
              refine g_iconst (pc := 145) dX12_readsText_145 ci_1 ?_
              refine g_join (fun k => ∀ (h47 : aH), J_X12_readsText l E n0 m0 173 [(0, .ref (e_z E + x1)), (1, .int x17)] [] h47 (k h47)) (fun h47 => ?_) (fun k173 hk173 => ?_)
              · refine g_iincN (pc := 173) dX12_readsText_173 1 rfl ci_1 (Nat.le_of_ble_eq_true rfl) (fun x23 => ?_)
                refine g_lvr (lv' := [(1, .int x23), (0, .ref (e_z E + x1))]) rfl ?_
                refine g_goto (pc := 176) (tgt := 89) dX12_readsText_176 rfl ?_
                refine g_lv [1, 0] rfl ?_
                exact hr89 x23 h47
              refine g_icmpne (pc := 146) (tgt := 173) dX12_readsText_146 rfl ?_ ?_
              · refine g_aload_n (pc := 149) dX12_readsText_149 0 rfl ?_
                refine g_getr (pc := 150) cl12 (Nat.le_of_ble_eq_true rfl) fk1589 (fun _ _ _ => rfl) dX12_readsText_150 (fun x24 => ?_)
                refine g_iconst (pc := 153) dX12_readsText_153 ci_1 ?_
                refine g_iald (pc := 154) dX12_readsText_154 (fun x25 => ?_)
                refine g_aload_n (pc := 155) dX12_readsText_155 0 rfl ?_
                refine g_getr (pc := 156) cl12 (Nat.le_of_ble_eq_true rfl) fk1589 (fun _ _ _ => rfl) dX12_readsText_156 (fun x26 => ?_)
                refine g_iconst (pc := 159) dX12_readsText_159 ci_0 ?_
                refine g_iald (pc := 160) dX12_readsText_160 (fun x27 => ?_)
                refine g_icmpne (pc := 161) (tgt := 173) dX12_readsText_161 rfl ?_ ?_
                · refine g_aload_n (pc := 164) dX12_readsText_164 0 rfl ?_
                  refine g_iconst (pc := 165) dX12_readsText_165 ci_2 ?_
                  refine g_aload_n (pc := 166) dX12_readsText_166 0 rfl ?_
                  refine g_geti (pc := 167) cl12 (Nat.le_of_ble_eq_true rfl) fk1586 (fun _ _ _ => rfl) dX12_readsText_167 (fun x28 => ?_)
                  refine g_gS (fun hs => ?_)
                  refine g_bRv (pc := 170) (c_V cl12 hs (p_X12_fault hl x1 (2 : Int32) x28 h46) y_X12_fault tw1814 dX12_readsText_170 rfl (st := []) rfl (Nat.le_of_ble_eq_true rfl) (Nat.le_of_ble_eq_true rfl) (Nat.le_of_ble_eq_true rfl)) (fun _ h48 => ?_)
                  exact hk173 h48
                · exact hk173 h46
              · exact hk173 h46
            refine g_icmpge (pc := 119) (tgt := 127) dX12_readsText_119 rfl ?_ ?_
            · refine g_bipush (pc := 122) dX12_readsText_122 cb_23 ?_
              refine g_goto (pc := 124) (tgt := 140) dX12_readsText_124 rfl ?_
              exact hk140 (23 : Int32) h43
            · refine g_iload_n (pc := 127) dX12_readsText_127 1 rfl ?_
              refine g_iconst (pc := 128) dX12_readsText_128 ci_2 ?_
              refine g_icmpne (pc := 129) (tgt := 137) dX12_readsText_129 rfl ?_ ?_
              · refine g_bipush (pc := 132) dX12_readsText_132 cb_30 ?_
                refine g_goto (pc := 134) (tgt := 140) dX12_readsText_134 rfl ?_
                exact hk140 (30 : Int32) h43
              · refine g_sipush (pc := 137) dX12_readsText_137 cs_999 ?_
                exact hk140 (999 : Int32) h43
          refine g_icmpne (pc := 109) (tgt := 116) dX12_readsText_109 rfl ?_ ?_
          · refine g_iconst (pc := 112) dX12_readsText_112 ci_1 ?_
            refine g_goto (pc := 113) (tgt := 117) dX12_readsText_113 rfl ?_
            exact hk117 (1 : Int32) h42
          · refine g_iconst (pc := 116) dX12_readsText_116 ci_0 ?_
            exact hk117 (0 : Int32) h42
        · refine g_lv [0] rfl ?_
          exact hk179 h42
      · refine g_lv [0] rfl ?_
        exact hk179 h42
    refine g_ifne (pc := 75) (tgt := 87) dX12_readsText_75 rfl ?_ ?_
    · refine g_aload_n (pc := 78) dX12_readsText_78 0 rfl ?_
      refine g_iconst (pc := 79) dX12_readsText_79 ci_1 ?_
      refine g_aload_n (pc := 80) dX12_readsText_80 0 rfl ?_
      refine g_geti (pc := 81) cl12 (Nat.le_of_ble_eq_true rfl) fk1581 (fun _ _ _ => rfl) dX12_readsText_81 (fun x29 => ?_)
      refine g_gS (fun hs => ?_)
      refine g_bRv (pc := 84) (c_V cl12 hs (p_X12_fault hl x1 (1 : Int32) x29 h10) y_X12_fault tw1814 dX12_readsText_84 rfl (st := []) rfl (Nat.le_of_ble_eq_true rfl) (Nat.le_of_ble_eq_true rfl) (Nat.le_of_ble_eq_true rfl)) (fun _ h49 => ?_)
      exact hk87 h49
    · exact hk87 h10
  refine g_lv [1, 0] rfl ?_
  refine g_loop1 (F := (m_X12_readsText_L37 x1 k64)) (fun x30 => [(0, .ref (e_z E + x1)), (1, .int x30)]) (fun r37 hr37 x30 h50 => ?_) _ _ _
  unfold m_X12_readsText_L37
  refine g_iload_n (pc := 37) dX12_readsText_37 1 rfl ?_
  refine g_sipush (pc := 38) dX12_readsText_38 cs_144 ?_
  refine g_icmpge (pc := 41) (tgt := 64) dX12_readsText_41 rfl ?_ ?_
  · refine g_aload_n (pc := 44) dX12_readsText_44 0 rfl ?_
    refine g_getr (pc := 45) cl12 (Nat.le_of_ble_eq_true rfl) fk1598 (fun _ _ _ => rfl) dX12_readsText_45 (fun x31 => ?_)
    refine g_iload_n (pc := 48) dX12_readsText_48 1 rfl ?_
    refine g_iconst (pc := 49) dX12_readsText_49 ci_0 ?_
    refine g_iast (pc := 50) dX12_readsText_50 (fun h51 => ?_)
    refine g_aload_n (pc := 51) dX12_readsText_51 0 rfl ?_
    refine g_getr (pc := 52) cl12 (Nat.le_of_ble_eq_true rfl) fk1599 (fun _ _ _ => rfl) dX12_readsText_52 (fun x32 => ?_)
    refine g_iload_n (pc := 55) dX12_readsText_55 1 rfl ?_
    refine g_iconst (pc := 56) dX12_readsText_56 ci_0 ?_
    refine g_zast (pc := 57) dX12_readsText_57 (fun h52 => ?_)
    refine g_iincN (pc := 58) dX12_readsText_58 1 rfl ci_1 (Nat.le_of_ble_eq_true rfl) (fun x33 => ?_)
    refine g_lvr (lv' := [(1, .int x33), (0, .ref (e_z E + x1))]) rfl ?_
    refine g_goto (pc := 61) (tgt := 37) dX12_readsText_61 rfl ?_
    refine g_lv [1, 0] rfl ?_
    exact hr37 x33 h52
  · refine g_lv [0] rfl ?_
    exact hk64 h50
theorem p_X12_readsText {l : Launch} {E : aE} (hl : l.stackTraces = false) (x1 : Nat) (h0 : aH) : MO (fun (_ : Unit) => .inl none) l E yX12_readsText (.code yX12_readsText cX12_readsText 2 none) 6 137 [.ref (e_z E + x1)] h0 (m_X12_readsText x1 h0) := g_met hl (by decide +kernel) (Nat.le_of_ble_eq_true rfl) (b_X12_readsText hl _ _ x1 h0)
theorem dX12_load_0 : decode cX12_load 0 = .ok (.aload_n 0, 1) := by decide +kernel
theorem dX12_load_1 : decode cX12_load 1 = .ok (.iconst 0, 1) := by decide +kernel
theorem dX12_load_2 : decode cX12_load 2 = .ok (.putfield 184, 3) := by decide +kernel
theorem dX12_load_5 : decode cX12_load 5 = .ok (.aload_n 0, 1) := by decide +kernel
theorem dX12_load_6 : decode cX12_load 6 = .ok (.iconst (-1), 1) := by decide +kernel
theorem dX12_load_7 : decode cX12_load 7 = .ok (.putfield 81, 3) := by decide +kernel
theorem dX12_load_10 : decode cX12_load 10 = .ok (.aload_n 0, 1) := by decide +kernel
theorem dX12_load_11 : decode cX12_load 11 = .ok (.invokevirtual 340, 3) := by decide +kernel
theorem dX12_load_14 : decode cX12_load 14 = .ok (.aload_n 0, 1) := by decide +kernel
theorem dX12_load_15 : decode cX12_load 15 = .ok (.iconst 0, 1) := by decide +kernel
theorem dX12_load_16 : decode cX12_load 16 = .ok (.putfield 169, 3) := by decide +kernel
theorem dX12_load_19 : decode cX12_load 19 = .ok (.aload_n 0, 1) := by decide +kernel
theorem dX12_load_20 : decode cX12_load 20 = .ok (.aload_n 0, 1) := by decide +kernel
theorem dX12_load_21 : decode cX12_load 21 = .ok (.getfield 180, 3) := by decide +kernel
theorem dX12_load_24 : decode cX12_load 24 = .ok (.ifCond .eq 7, 3) := by decide +kernel
theorem dX12_load_27 : decode cX12_load 27 = .ok (.iconst 1, 1) := by decide +kernel
theorem dX12_load_28 : decode cX12_load 28 = .ok (.goto 4, 3) := by decide +kernel
theorem dX12_load_31 : decode cX12_load 31 = .ok (.iconst 0, 1) := by decide +kernel
theorem dX12_load_32 : decode cX12_load 32 = .ok (.putfield 166, 3) := by decide +kernel
theorem dX12_load_35 : decode cX12_load 35 = .ok (.aload_n 0, 1) := by decide +kernel
theorem dX12_load_36 : decode cX12_load 36 = .ok (.getfield 166, 3) := by decide +kernel
theorem dX12_load_39 : decode cX12_load 39 = .ok (.ifCond .le 5, 3) := by decide +kernel
theorem dX12_load_42 : decode cX12_load 42 = .ok (.iconst 0, 1) := by decide +kernel
theorem dX12_load_43 : decode cX12_load 43 = .ok (.ireturn, 1) := by decide +kernel
theorem dX12_load_44 : decode cX12_load 44 = .ok (.aload_n 0, 1) := by decide +kernel
theorem dX12_load_45 : decode cX12_load 45 = .ok (.invokevirtual 163, 3) := by decide +kernel
theorem dX12_load_48 : decode cX12_load 48 = .ok (.aload_n 0, 1) := by decide +kernel
theorem dX12_load_49 : decode cX12_load 49 = .ok (.getfield 325, 3) := by decide +kernel
theorem dX12_load_52 : decode cX12_load 52 = .ok (.ireturn, 1) := by decide +kernel
abbrev M_X12_load : aM := (yX12_load.cls, cX12_load, 1, (some .int), [], yX12_load.name == "<init>")
abbrev J_X12_load (l : Launch) (E : aE) (n0 m0 : Nat) := GG (fun (v : Int32) => .inl (some (.int v))) l E M_X12_load 7 158 n0 m0
theorem b_X12_load {l : Launch} {E : aE} (hl : l.stackTraces = false) (n0 m0 : Nat) (x1 : Nat) (h0 : aH) : J_X12_load l E n0 m0 0 [(0, .ref (e_z E + x1))] [] h0 (m_X12_load x1 h0) := by
  unfold m_X12_load
  refine g_aload_n (pc := 0) dX12_load_0 0 rfl ?_
  refine g_iconst (pc := 1) dX12_load_1 ci_0 ?_
  refine g_puti (pc := 2) cl12 (Nat.le_of_ble_eq_true rfl) (Or.inl ⟨rfl, fk1582⟩) (fun _ _ _ => rfl) (fun _ => ⟨rfl, rfl⟩) dX12_load_2 (fun h1 => ?_)
  refine g_aload_n (pc := 5) dX12_load_5 0 rfl ?_
  refine g_iconst (pc := 6) dX12_load_6 ci_m1 ?_
  refine g_puti (pc := 7) cl12 (Nat.le_of_ble_eq_true rfl) (Or.inl ⟨rfl, fk1583⟩) (fun _ _ _ => rfl) (fun _ => ⟨rfl, rfl⟩) dX12_load_7 (fun h2 => ?_)
  refine g_aload_n (pc := 10) dX12_load_10 0 rfl ?_
  refine g_gS (fun hs => ?_)
  refine g_bRv (pc := 11) (c_V cl12 hs (p_X12_readsText hl x1 h2) y_X12_readsText tw1789 dX12_load_11 rfl (st := []) rfl (Nat.le_of_ble_eq_true rfl) (Nat.le_of_ble_eq_true rfl) (Nat.le_of_ble_eq_true rfl)) (fun _ h3 => ?_)
  refine g_aload_n (pc := 14) dX12_load_14 0 rfl ?_
  refine g_iconst (pc := 15) dX12_load_15 ci_0 ?_
  refine g_puti (pc := 16) cl12 (Nat.le_of_ble_eq_true rfl) (Or.inl ⟨rfl, fk1580⟩) (fun _ _ _ => rfl) (fun _ => ⟨rfl, rfl⟩) dX12_load_16 (fun h4 => ?_)
  refine g_aload_n (pc := 19) dX12_load_19 0 rfl ?_
  refine g_aload_n (pc := 20) dX12_load_20 0 rfl ?_
  refine g_geti (pc := 21) cl12 (Nat.le_of_ble_eq_true rfl) fk1584 (fun _ _ _ => rfl) dX12_load_21 (fun x2 => ?_)
  refine g_join (fun k => ∀ (x3 : Int32) (h5 : aH), J_X12_load l E n0 m0 32 [(0, .ref (e_z E + x1))] [.int x3, .ref (e_z E + x1)] h5 (k x3 h5)) (fun x3 h5 => ?_) (fun k32 hk32 => ?_)
  · refine g_puti (pc := 32) cl12 (Nat.le_of_ble_eq_true rfl) (Or.inl ⟨rfl, fk1551⟩) (fun _ _ _ => rfl) (fun _ => ⟨rfl, rfl⟩) dX12_load_32 (fun h6 => ?_)
    refine g_aload_n (pc := 35) dX12_load_35 0 rfl ?_
    refine g_geti (pc := 36) cl12 (Nat.le_of_ble_eq_true rfl) fk1551 (fun _ _ _ => rfl) dX12_load_36 (fun x4 => ?_)
    refine g_ifle (pc := 39) (tgt := 44) dX12_load_39 rfl ?_ ?_
    · refine g_aload_n (pc := 44) dX12_load_44 0 rfl ?_
      refine g_gS (fun hs => ?_)
      refine g_bRv (pc := 45) (c_V cl12 hs (p_X12_takesText hl x1 h6) y_X12_takesText tw1547 dX12_load_45 rfl (st := []) rfl (Nat.le_of_ble_eq_true rfl) (Nat.le_of_ble_eq_true rfl) (Nat.le_of_ble_eq_true rfl)) (fun _ h7 => ?_)
      refine g_aload_n (pc := 48) dX12_load_48 0 rfl ?_
      refine g_geti (pc := 49) cl12 (Nat.le_of_ble_eq_true rfl) fk1559 (fun _ _ _ => rfl) dX12_load_49 (fun x5 => ?_)
      exact g_ret (pc := 52) rfl (isRet_i _) dX12_load_52 rfl
    · refine g_iconst (pc := 42) dX12_load_42 ci_0 ?_
      exact g_ret (pc := 43) rfl (isRet_i _) dX12_load_43 rfl
  refine g_ifeq (pc := 24) (tgt := 31) dX12_load_24 rfl ?_ ?_
  · refine g_iconst (pc := 31) dX12_load_31 ci_0 ?_
    exact hk32 (0 : Int32) h4
  · refine g_iconst (pc := 27) dX12_load_27 ci_1 ?_
    refine g_goto (pc := 28) (tgt := 32) dX12_load_28 rfl ?_
    exact hk32 (1 : Int32) h4
theorem p_X12_load {l : Launch} {E : aE} (hl : l.stackTraces = false) (x1 : Nat) (h0 : aH) : MO (fun (v : Int32) => .inl (some (.int v))) l E yX12_load (.code yX12_load cX12_load 1 (some .int)) 7 158 [.ref (e_z E + x1)] h0 (m_X12_load x1 h0) := g_met hl (by decide +kernel) (Nat.le_of_ble_eq_true rfl) (b_X12_load hl _ _ x1 h0)
theorem dX12_errorCode_0 : decode cX12_errorCode 0 = .ok (.aload_n 0, 1) := by decide +kernel
theorem dX12_errorCode_1 : decode cX12_errorCode 1 = .ok (.iconst 0, 1) := by decide +kernel
theorem dX12_errorCode_2 : decode cX12_errorCode 2 = .ok (.putfield 166, 3) := by decide +kernel
theorem dX12_errorCode_5 : decode cX12_errorCode 5 = .ok (.aload_n 0, 1) := by decide +kernel
theorem dX12_errorCode_6 : decode cX12_errorCode 6 = .ok (.getfield 184, 3) := by decide +kernel
theorem dX12_errorCode_9 : decode cX12_errorCode 9 = .ok (.ireturn, 1) := by decide +kernel
abbrev M_X12_errorCode : aM := (yX12_errorCode.cls, cX12_errorCode, 1, (some .int), [], yX12_errorCode.name == "<init>")
abbrev J_X12_errorCode (l : Launch) (E : aE) (n0 m0 : Nat) := GG (fun (v : Int32) => .inl (some (.int v))) l E M_X12_errorCode 0 0 n0 m0
theorem b_X12_errorCode {l : Launch} {E : aE} (hl : l.stackTraces = false) (n0 m0 : Nat) (x1 : Nat) (h0 : aH) : J_X12_errorCode l E n0 m0 0 [(0, .ref (e_z E + x1))] [] h0 (m_X12_errorCode x1 h0) := by
  unfold m_X12_errorCode
  refine g_aload_n (pc := 0) dX12_errorCode_0 0 rfl ?_
  refine g_iconst (pc := 1) dX12_errorCode_1 ci_0 ?_
  refine g_puti (pc := 2) cl12 (Nat.le_of_ble_eq_true rfl) (Or.inl ⟨rfl, fk1551⟩) (fun _ _ _ => rfl) (fun _ => ⟨rfl, rfl⟩) dX12_errorCode_2 (fun h1 => ?_)
  refine g_aload_n (pc := 5) dX12_errorCode_5 0 rfl ?_
  refine g_geti (pc := 6) cl12 (Nat.le_of_ble_eq_true rfl) fk1582 (fun _ _ _ => rfl) dX12_errorCode_6 (fun x2 => ?_)
  exact g_ret (pc := 9) rfl (isRet_i _) dX12_errorCode_9 rfl
theorem p_X12_errorCode {l : Launch} {E : aE} (hl : l.stackTraces = false) (x1 : Nat) (h0 : aH) : MO (fun (v : Int32) => .inl (some (.int v))) l E yX12_errorCode (.code yX12_errorCode cX12_errorCode 1 (some .int)) 0 0 [.ref (e_z E + x1)] h0 (m_X12_errorCode x1 h0) := g_met hl (by decide +kernel) (Nat.le_of_ble_eq_true rfl) (b_X12_errorCode hl _ _ x1 h0)
theorem dX12_errorPosition_0 : decode cX12_errorPosition 0 = .ok (.aload_n 0, 1) := by decide +kernel
theorem dX12_errorPosition_1 : decode cX12_errorPosition 1 = .ok (.iconst 0, 1) := by decide +kernel
theorem dX12_errorPosition_2 : decode cX12_errorPosition 2 = .ok (.putfield 166, 3) := by decide +kernel
theorem dX12_errorPosition_5 : decode cX12_errorPosition 5 = .ok (.aload_n 0, 1) := by decide +kernel
theorem dX12_errorPosition_6 : decode cX12_errorPosition 6 = .ok (.getfield 81, 3) := by decide +kernel
theorem dX12_errorPosition_9 : decode cX12_errorPosition 9 = .ok (.ireturn, 1) := by decide +kernel
abbrev M_X12_errorPosition : aM := (yX12_errorPosition.cls, cX12_errorPosition, 1, (some .int), [], yX12_errorPosition.name == "<init>")
abbrev J_X12_errorPosition (l : Launch) (E : aE) (n0 m0 : Nat) := GG (fun (v : Int32) => .inl (some (.int v))) l E M_X12_errorPosition 0 0 n0 m0
theorem b_X12_errorPosition {l : Launch} {E : aE} (hl : l.stackTraces = false) (n0 m0 : Nat) (x1 : Nat) (h0 : aH) : J_X12_errorPosition l E n0 m0 0 [(0, .ref (e_z E + x1))] [] h0 (m_X12_errorPosition x1 h0) := by
  unfold m_X12_errorPosition
  refine g_aload_n (pc := 0) dX12_errorPosition_0 0 rfl ?_
  refine g_iconst (pc := 1) dX12_errorPosition_1 ci_0 ?_
  refine g_puti (pc := 2) cl12 (Nat.le_of_ble_eq_true rfl) (Or.inl ⟨rfl, fk1551⟩) (fun _ _ _ => rfl) (fun _ => ⟨rfl, rfl⟩) dX12_errorPosition_2 (fun h1 => ?_)
  refine g_aload_n (pc := 5) dX12_errorPosition_5 0 rfl ?_
  refine g_geti (pc := 6) cl12 (Nat.le_of_ble_eq_true rfl) fk1583 (fun _ _ _ => rfl) dX12_errorPosition_6 (fun x2 => ?_)
  exact g_ret (pc := 9) rfl (isRet_i _) dX12_errorPosition_9 rfl
theorem p_X12_errorPosition {l : Launch} {E : aE} (hl : l.stackTraces = false) (x1 : Nat) (h0 : aH) : MO (fun (v : Int32) => .inl (some (.int v))) l E yX12_errorPosition (.code yX12_errorPosition cX12_errorPosition 1 (some .int)) 0 0 [.ref (e_z E + x1)] h0 (m_X12_errorPosition x1 h0) := g_met hl (by decide +kernel) (Nat.le_of_ble_eq_true rfl) (b_X12_errorPosition hl _ _ x1 h0)
