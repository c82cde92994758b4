/-! proofs of methods -/
theorem dX10_addHandOn_0 : decode cX10_addHandOn 0 = .ok (.aload_n 0, 1) := by decide +kernel
theorem dX10_addHandOn_1 : decode cX10_addHandOn 1 = .ok (.getfield 27, 3) := by decide +kernel
theorem dX10_addHandOn_4 : decode cX10_addHandOn 4 = .ok (.iload_n 1, 1) := by decide +kernel
theorem dX10_addHandOn_5 : decode cX10_addHandOn 5 = .ok (.iaload, 1) := by decide +kernel
theorem dX10_addHandOn_6 : decode cX10_addHandOn 6 = .ok (.iconst 3, 1) := by decide +kernel
theorem dX10_addHandOn_7 : decode cX10_addHandOn 7 = .ok (.if_icmp .ge 45, 3) := by decide +kernel
theorem dX10_addHandOn_10 : decode cX10_addHandOn 10 = .ok (.aload_n 0, 1) := by decide +kernel
theorem dX10_addHandOn_11 : decode cX10_addHandOn 11 = .ok (.getfield 30, 3) := by decide +kernel
theorem dX10_addHandOn_14 : decode cX10_addHandOn 14 = .ok (.iload_n 1, 1) := by decide +kernel
theorem dX10_addHandOn_15 : decode cX10_addHandOn 15 = .ok (.iconst 3, 1) := by decide +kernel
theorem dX10_addHandOn_16 : decode cX10_addHandOn 16 = .ok (.imul, 1) := by decide +kernel
theorem dX10_addHandOn_17 : decode cX10_addHandOn 17 = .ok (.aload_n 0, 1) := by decide +kernel
theorem dX10_addHandOn_18 : decode cX10_addHandOn 18 = .ok (.getfield 27, 3) := by decide +kernel
theorem dX10_addHandOn_21 : decode cX10_addHandOn 21 = .ok (.iload_n 1, 1) := by decide +kernel
theorem dX10_addHandOn_22 : decode cX10_addHandOn 22 = .ok (.iaload, 1) := by decide +kernel
theorem dX10_addHandOn_23 : decode cX10_addHandOn 23 = .ok (.iadd, 1) := by decide +kernel
theorem dX10_addHandOn_24 : decode cX10_addHandOn 24 = .ok (.iload_n 2, 1) := by decide +kernel
theorem dX10_addHandOn_25 : decode cX10_addHandOn 25 = .ok (.iastore, 1) := by decide +kernel
theorem dX10_addHandOn_26 : decode cX10_addHandOn 26 = .ok (.aload_n 0, 1) := by decide +kernel
theorem dX10_addHandOn_27 : decode cX10_addHandOn 27 = .ok (.getfield 33, 3) := by decide +kernel
theorem dX10_addHandOn_30 : decode cX10_addHandOn 30 = .ok (.iload_n 1, 1) := by decide +kernel
theorem dX10_addHandOn_31 : decode cX10_addHandOn 31 = .ok (.iconst 3, 1) := by decide +kernel
theorem dX10_addHandOn_32 : decode cX10_addHandOn 32 = .ok (.imul, 1) := by decide +kernel
theorem dX10_addHandOn_33 : decode cX10_addHandOn 33 = .ok (.aload_n 0, 1) := by decide +kernel
theorem dX10_addHandOn_34 : decode cX10_addHandOn 34 = .ok (.getfield 27, 3) := by decide +kernel
theorem dX10_addHandOn_37 : decode cX10_addHandOn 37 = .ok (.iload_n 1, 1) := by decide +kernel
theorem dX10_addHandOn_38 : decode cX10_addHandOn 38 = .ok (.iaload, 1) := by decide +kernel
theorem dX10_addHandOn_39 : decode cX10_addHandOn 39 = .ok (.iadd, 1) := by decide +kernel
theorem dX10_addHandOn_40 : decode cX10_addHandOn 40 = .ok (.iload_n 3, 1) := by decide +kernel
theorem dX10_addHandOn_41 : decode cX10_addHandOn 41 = .ok (.iastore, 1) := by decide +kernel
theorem dX10_addHandOn_42 : decode cX10_addHandOn 42 = .ok (.aload_n 0, 1) := by decide +kernel
theorem dX10_addHandOn_43 : decode cX10_addHandOn 43 = .ok (.getfield 27, 3) := by decide +kernel
theorem dX10_addHandOn_46 : decode cX10_addHandOn 46 = .ok (.iload_n 1, 1) := by decide +kernel
theorem dX10_addHandOn_47 : decode cX10_addHandOn 47 = .ok (.dup2, 1) := by decide +kernel
theorem dX10_addHandOn_48 : decode cX10_addHandOn 48 = .ok (.iaload, 1) := by decide +kernel
theorem dX10_addHandOn_49 : decode cX10_addHandOn 49 = .ok (.iconst 1, 1) := by decide +kernel
theorem dX10_addHandOn_50 : decode cX10_addHandOn 50 = .ok (.iadd, 1) := by decide +kernel
theorem dX10_addHandOn_51 : decode cX10_addHandOn 51 = .ok (.iastore, 1) := by decide +kernel
theorem dX10_addHandOn_52 : decode cX10_addHandOn 52 = .ok (.return_, 1) := by decide +kernel
abbrev M_X10_addHandOn : aM := (yX10_addHandOn.cls, cX10_addHandOn, 4, none, [], yX10_addHandOn.name == "<init>")
abbrev J_X10_addHandOn (l : Launch) (E : aE) (n0 m0 : Nat) := GG (fun (_ : Unit) => .inl none) l E M_X10_addHandOn 0 0 n0 m0
theorem b_X10_addHandOn {l : Launch} {E : aE} (hl : l.stackTraces = false) (n0 m0 : Nat) (x1 : Nat) (x2 : Int32) (x3 : Int32) (x4 : Int32) (h0 : aH) : J_X10_addHandOn l E n0 m0 0 [(0, .ref (e_z E + x1)), (1, .int x2), (2, .int x3), (3, .int x4)] [] h0 (m_X10_addHandOn x1 x2 x3 x4 h0) := by
  unfold m_X10_addHandOn
  refine g_aload_n (pc := 0) dX10_addHandOn_0 0 rfl ?_
  refine g_getr (pc := 1) cl10 (Nat.le_of_ble_eq_true rfl) fk365 (fun _ _ _ => rfl) dX10_addHandOn_1 (fun x5 => ?_)
  refine g_iload_n (pc := 4) dX10_addHandOn_4 1 rfl ?_
  refine g_iald (pc := 5) dX10_addHandOn_5 (fun x6 => ?_)
  refine g_iconst (pc := 6) dX10_addHandOn_6 ci_3 ?_
  refine g_join (fun k => ∀ (h1 : aH), J_X10_addHandOn l E n0 m0 52 [] [] h1 (k h1)) (fun h1 => ?_) (fun k52 hk52 => ?_)
  · exact g_ret (pc := 52) rfl isRet_v dX10_addHandOn_52 rfl
  refine g_icmpge (pc := 7) (tgt := 52) dX10_addHandOn_7 rfl ?_ ?_
  · refine g_aload_n (pc := 10) dX10_addHandOn_10 0 rfl ?_
    refine g_getr (pc := 11) cl10 (Nat.le_of_ble_eq_true rfl) fk368 (fun _ _ _ => rfl) dX10_addHandOn_11 (fun x7 => ?_)
    refine g_iload_n (pc := 14) dX10_addHandOn_14 1 rfl ?_
    refine g_iconst (pc := 15) dX10_addHandOn_15 ci_3 ?_
    refine g_imul (pc := 16) dX10_addHandOn_16 ?_
    refine g_aload_n (pc := 17) dX10_addHandOn_17 0 rfl ?_
    refine g_getr (pc := 18) cl10 (Nat.le_of_ble_eq_true rfl) fk365 (fun _ _ _ => rfl) dX10_addHandOn_18 (fun x8 => ?_)
    refine g_iload_n (pc := 21) dX10_addHandOn_21 1 rfl ?_
    refine g_iald (pc := 22) dX10_addHandOn_22 (fun x9 => ?_)
    refine g_iadd (pc := 23) dX10_addHandOn_23 ?_
    refine g_iload_n (pc := 24) dX10_addHandOn_24 2 rfl ?_
    refine g_iast (pc := 25) dX10_addHandOn_25 (fun h2 => ?_)
    refine g_aload_n (pc := 26) dX10_addHandOn_26 0 rfl ?_
    refine g_getr (pc := 27) cl10 (Nat.le_of_ble_eq_true rfl) fk369 (fun _ _ _ => rfl) dX10_addHandOn_27 (fun x10 => ?_)
    refine g_iload_n (pc := 30) dX10_addHandOn_30 1 rfl ?_
    refine g_iconst (pc := 31) dX10_addHandOn_31 ci_3 ?_
    refine g_imul (pc := 32) dX10_addHandOn_32 ?_
    refine g_aload_n (pc := 33) dX10_addHandOn_33 0 rfl ?_
    refine g_getr (pc := 34) cl10 (Nat.le_of_ble_eq_true rfl) fk365 (fun _ _ _ => rfl) dX10_addHandOn_34 (fun x11 => ?_)
    refine g_iload_n (pc := 37) dX10_addHandOn_37 1 rfl ?_
    refine g_iald (pc := 38) dX10_addHandOn_38 (fun x12 => ?_)
    refine g_iadd (pc := 39) dX10_addHandOn_39 ?_
    refine g_iload_n (pc := 40) dX10_addHandOn_40 3 rfl ?_
    refine g_iast (pc := 41) dX10_addHandOn_41 (fun h3 => ?_)
    refine g_aload_n (pc := 42) dX10_addHandOn_42 0 rfl ?_
    refine g_getr (pc := 43) cl10 (Nat.le_of_ble_eq_true rfl) fk365 (fun _ _ _ => rfl) dX10_addHandOn_43 (fun x13 => ?_)
    refine g_iload_n (pc := 46) dX10_addHandOn_46 1 rfl ?_
    refine g_dup2 (pc := 47) rfl rfl dX10_addHandOn_47 ?_
    refine g_iald (pc := 48) dX10_addHandOn_48 (fun x14 => ?_)
    refine g_iconst (pc := 49) dX10_addHandOn_49 ci_1 ?_
    refine g_iadd (pc := 50) dX10_addHandOn_50 ?_
    refine g_iast (pc := 51) dX10_addHandOn_51 (fun h4 => ?_)
    refine g_lv [] rfl ?_
    exact hk52 h4
  · refine g_lv [] rfl ?_
    exact hk52 h0
theorem p_X10_addHandOn {l : Launch} {E : aE} (hl : l.stackTraces = false) (x1 : Nat) (x2 : Int32) (x3 : Int32) (x4 : Int32) (h0 : aH) : MO (fun (_ : Unit) => .inl none) l E yX10_addHandOn (.code yX10_addHandOn cX10_addHandOn 4 none) 0 0 [.ref (e_z E + x1), .int x2, .int x3, .int x4] h0 (m_X10_addHandOn x1 x2 x3 x4 h0) := g_met hl (by decide +kernel) (Nat.le_of_ble_eq_true rfl) (b_X10_addHandOn hl _ _ x1 x2 x3 x4 h0)
theorem dX10_dropHandOn_0 : decode cX10_dropHandOn 0 = .ok (.aload_n 0, 1) := by decide +kernel
theorem dX10_dropHandOn_1 : decode cX10_dropHandOn 1 = .ok (.getfield 27, 3) := by decide +kernel
theorem dX10_dropHandOn_4 : decode cX10_dropHandOn 4 = .ok (.iload_n 1, 1) := by decide +kernel
theorem dX10_dropHandOn_5 : decode cX10_dropHandOn 5 = .ok (.iconst 0, 1) := by decide +kernel
theorem dX10_dropHandOn_6 : decode cX10_dropHandOn 6 = .ok (.aload_n 0, 1) := by decide +kernel
theorem dX10_dropHandOn_7 : decode cX10_dropHandOn 7 = .ok (.getfield 27, 3) := by decide +kernel
theorem dX10_dropHandOn_10 : decode cX10_dropHandOn 10 = .ok (.iload_n 1, 1) := by decide +kernel
theorem dX10_dropHandOn_11 : decode cX10_dropHandOn 11 = .ok (.iaload, 1) := by decide +kernel
theorem dX10_dropHandOn_12 : decode cX10_dropHandOn 12 = .ok (.iconst 1, 1) := by decide +kernel
theorem dX10_dropHandOn_13 : decode cX10_dropHandOn 13 = .ok (.isub, 1) := by decide +kernel
theorem dX10_dropHandOn_14 : decode cX10_dropHandOn 14 = .ok (.invokestatic 72, 3) := by decide +kernel
theorem dX10_dropHandOn_17 : decode cX10_dropHandOn 17 = .ok (.iastore, 1) := by decide +kernel
theorem dX10_dropHandOn_18 : decode cX10_dropHandOn 18 = .ok (.return_, 1) := by decide +kernel
abbrev M_X10_dropHandOn : aM := (yX10_dropHandOn.cls, cX10_dropHandOn, 2, none, [], yX10_dropHandOn.name == "<init>")
abbrev J_X10_dropHandOn (l : Launch) (E : aE) (n0 m0 : Nat) := GG (fun (_ : Unit) => .inl none) l E M_X10_dropHandOn 1 30 n0 m0
theorem b_X10_dropHandOn {l : Launch} {E : aE} (hl : l.stackTraces = false) (n0 m0 : Nat) (x1 : Nat) (x2 : Int32) (h0 : aH) : J_X10_dropHandOn l E n0 m0 0 [(0, .ref (e_z E + x1)), (1, .int x2)] [] h0 (m_X10_dropHandOn x1 x2 h0) := by
  unfold m_X10_dropHandOn
  refine g_aload_n (pc := 0) dX10_dropHandOn_0 0 rfl ?_
  refine g_getr (pc := 1) cl10 (Nat.le_of_ble_eq_true rfl) fk365 (fun _ _ _ => rfl) dX10_dropHandOn_1 (fun x3 => ?_)
  refine g_iload_n (pc := 4) dX10_dropHandOn_4 1 rfl ?_
  refine g_iconst (pc := 5) dX10_dropHandOn_5 ci_0 ?_
  refine g_aload_n (pc := 6) dX10_dropHandOn_6 0 rfl ?_
  refine g_getr (pc := 7) cl10 (Nat.le_of_ble_eq_true rfl) fk365 (fun _ _ _ => rfl) dX10_dropHandOn_7 (fun x4 => ?_)
  refine g_iload_n (pc := 10) dX10_dropHandOn_10 1 rfl ?_
  refine g_iald (pc := 11) dX10_dropHandOn_11 (fun x5 => ?_)
  refine g_iconst (pc := 12) dX10_dropHandOn_12 ci_1 ?_
  refine g_isub (pc := 13) dX10_dropHandOn_13 ?_
  refine g_mmax (pc := 14) tw851 tw852 tw19 tw853 (Nat.le_of_ble_eq_true rfl) (Nat.le_of_ble_eq_true rfl) dX10_dropHandOn_14 ?_
  refine g_iast (pc := 17) dX10_dropHandOn_17 (fun h1 => ?_)
  exact g_ret (pc := 18) rfl isRet_v dX10_dropHandOn_18 rfl
theorem p_X10_dropHandOn {l : Launch} {E : aE} (hl : l.stackTraces = false) (x1 : Nat) (x2 : Int32) (h0 : aH) : MO (fun (_ : Unit) => .inl none) l E yX10_dropHandOn (.code yX10_dropHandOn cX10_dropHandOn 2 none) 1 30 [.ref (e_z E + x1), .int x2] h0 (m_X10_dropHandOn x1 x2 h0) := g_met hl (by decide +kernel) (Nat.le_of_ble_eq_true rfl) (b_X10_dropHandOn hl _ _ x1 x2 h0)
theorem dX10_dutyUpTo_0 : decode cX10_dutyUpTo 0 = .ok (.iconst 0, 1) := by decide +kernel
theorem dX10_dutyUpTo_1 : decode cX10_dutyUpTo 1 = .ok (.istore_n 3, 1) := by decide +kernel
theorem dX10_dutyUpTo_2 : decode cX10_dutyUpTo 2 = .ok (.aload_n 0, 1) := by decide +kernel
theorem dX10_dutyUpTo_3 : decode cX10_dutyUpTo 3 = .ok (.getfield 56, 3) := by decide +kernel
theorem dX10_dutyUpTo_6 : decode cX10_dutyUpTo 6 = .ok (.istore 4, 2) := by decide +kernel
theorem dX10_dutyUpTo_8 : decode cX10_dutyUpTo 8 = .ok (.iconst 0, 1) := by decide +kernel
theorem dX10_dutyUpTo_9 : decode cX10_dutyUpTo 9 = .ok (.istore 5, 2) := by decide +kernel
theorem dX10_dutyUpTo_11 : decode cX10_dutyUpTo 11 = .ok (.iload 5, 2) := by decide +kernel
theorem dX10_dutyUpTo_13 : decode cX10_dutyUpTo 13 = .ok (.sipush 1440, 3) := by decide +kernel
theorem dX10_dutyUpTo_16 : decode cX10_dutyUpTo 16 = .ok (.if_icmp .ge 102, 3) := by decide +kernel
theorem dX10_dutyUpTo_19 : decode cX10_dutyUpTo 19 = .ok (.iload 4, 2) := by decide +kernel
theorem dX10_dutyUpTo_21 : decode cX10_dutyUpTo 21 = .ok (.iload_n 2, 1) := by decide +kernel
theorem dX10_dutyUpTo_22 : decode cX10_dutyUpTo 22 = .ok (.if_icmp .ge 96, 3) := by decide +kernel
theorem dX10_dutyUpTo_25 : decode cX10_dutyUpTo 25 = .ok (.iload_n 2, 1) := by decide +kernel
theorem dX10_dutyUpTo_26 : decode cX10_dutyUpTo 26 = .ok (.istore 6, 2) := by decide +kernel
theorem dX10_dutyUpTo_28 : decode cX10_dutyUpTo 28 = .ok (.iconst 0, 1) := by decide +kernel
theorem dX10_dutyUpTo_29 : decode cX10_dutyUpTo 29 = .ok (.istore 7, 2) := by decide +kernel
theorem dX10_dutyUpTo_31 : decode cX10_dutyUpTo 31 = .ok (.iconst 0, 1) := by decide +kernel
theorem dX10_dutyUpTo_32 : decode cX10_dutyUpTo 32 = .ok (.istore 8, 2) := by decide +kernel
theorem dX10_dutyUpTo_34 : decode cX10_dutyUpTo 34 = .ok (.iload 8, 2) := by decide +kernel
theorem dX10_dutyUpTo_36 : decode cX10_dutyUpTo 36 = .ok (.aload_n 0, 1) := by decide +kernel
theorem dX10_dutyUpTo_37 : decode cX10_dutyUpTo 37 = .ok (.getfield 52, 3) := by decide +kernel
theorem dX10_dutyUpTo_40 : decode cX10_dutyUpTo 40 = .ok (.getfield 78, 3) := by decide +kernel
theorem dX10_dutyUpTo_43 : decode cX10_dutyUpTo 43 = .ok (.if_icmp .ge 48, 3) := by decide +kernel
theorem dX10_dutyUpTo_46 : decode cX10_dutyUpTo 46 = .ok (.iload 6, 2) := by decide +kernel
theorem dX10_dutyUpTo_48 : decode cX10_dutyUpTo 48 = .ok (.aload_n 0, 1) := by decide +kernel
theorem dX10_dutyUpTo_49 : decode cX10_dutyUpTo 49 = .ok (.iload 8, 2) := by decide +kernel
theorem dX10_dutyUpTo_51 : decode cX10_dutyUpTo 51 = .ok (.iload 4, 2) := by decide +kernel
theorem dX10_dutyUpTo_53 : decode cX10_dutyUpTo 53 = .ok (.invokevirtual 185, 3) := by decide +kernel
theorem dX10_dutyUpTo_56 : decode cX10_dutyUpTo 56 = .ok (.invokestatic 120, 3) := by decide +kernel
theorem dX10_dutyUpTo_59 : decode cX10_dutyUpTo 59 = .ok (.istore 6, 2) := by decide +kernel
theorem dX10_dutyUpTo_61 : decode cX10_dutyUpTo 61 = .ok (.iload 7, 2) := by decide +kernel
theorem dX10_dutyUpTo_63 : decode cX10_dutyUpTo 63 = .ok (.ifCond .ne 15, 3) := by decide +kernel
theorem dX10_dutyUpTo_66 : decode cX10_dutyUpTo 66 = .ok (.aload_n 0, 1) := by decide +kernel
theorem dX10_dutyUpTo_67 : decode cX10_dutyUpTo 67 = .ok (.iload 8, 2) := by decide +kernel
theorem dX10_dutyUpTo_69 : decode cX10_dutyUpTo 69 = .ok (.iload 4, 2) := by decide +kernel
theorem dX10_dutyUpTo_71 : decode cX10_dutyUpTo 71 = .ok (.invokevirtual 188, 3) := by decide +kernel
theorem dX10_dutyUpTo_74 : decode cX10_dutyUpTo 74 = .ok (.iload_n 1, 1) := by decide +kernel
theorem dX10_dutyUpTo_75 : decode cX10_dutyUpTo 75 = .ok (.if_icmp .ne 7, 3) := by decide +kernel
theorem dX10_dutyUpTo_78 : decode cX10_dutyUpTo 78 = .ok (.iconst 1, 1) := by decide +kernel
theorem dX10_dutyUpTo_79 : decode cX10_dutyUpTo 79 = .ok (.goto 4, 3) := by decide +kernel
theorem dX10_dutyUpTo_82 : decode cX10_dutyUpTo 82 = .ok (.iconst 0, 1) := by decide +kernel
theorem dX10_dutyUpTo_83 : decode cX10_dutyUpTo 83 = .ok (.istore 7, 2) := by decide +kernel
theorem dX10_dutyUpTo_85 : decode cX10_dutyUpTo 85 = .ok (.iinc 8 1, 3) := by decide +kernel
theorem dX10_dutyUpTo_88 : decode cX10_dutyUpTo 88 = .ok (.goto (-54), 3) := by decide +kernel
theorem dX10_dutyUpTo_91 : decode cX10_dutyUpTo 91 = .ok (.iload_n 3, 1) := by decide +kernel
theorem dX10_dutyUpTo_92 : decode cX10_dutyUpTo 92 = .ok (.iload 7, 2) := by decide +kernel
theorem dX10_dutyUpTo_94 : decode cX10_dutyUpTo 94 = .ok (.ifCond .eq 11, 3) := by decide +kernel
theorem dX10_dutyUpTo_97 : decode cX10_dutyUpTo 97 = .ok (.iload 6, 2) := by decide +kernel
theorem dX10_dutyUpTo_99 : decode cX10_dutyUpTo 99 = .ok (.iload 4, 2) := by decide +kernel
theorem dX10_dutyUpTo_101 : decode cX10_dutyUpTo 101 = .ok (.isub, 1) := by decide +kernel
theorem dX10_dutyUpTo_102 : decode cX10_dutyUpTo 102 = .ok (.goto 4, 3) := by decide +kernel
theorem dX10_dutyUpTo_105 : decode cX10_dutyUpTo 105 = .ok (.iconst 0, 1) := by decide +kernel
theorem dX10_dutyUpTo_106 : decode cX10_dutyUpTo 106 = .ok (.iadd, 1) := by decide +kernel
theorem dX10_dutyUpTo_107 : decode cX10_dutyUpTo 107 = .ok (.istore_n 3, 1) := by decide +kernel
theorem dX10_dutyUpTo_108 : decode cX10_dutyUpTo 108 = .ok (.iload 6, 2) := by decide +kernel
theorem dX10_dutyUpTo_110 : decode cX10_dutyUpTo 110 = .ok (.istore 4, 2) := by decide +kernel
theorem dX10_dutyUpTo_112 : decode cX10_dutyUpTo 112 = .ok (.iinc 5 1, 3) := by decide +kernel
theorem dX10_dutyUpTo_115 : decode cX10_dutyUpTo 115 = .ok (.goto (-104), 3) := by decide +kernel
theorem dX10_dutyUpTo_118 : decode cX10_dutyUpTo 118 = .ok (.iload_n 3, 1) := by decide +kernel
theorem dX10_dutyUpTo_119 : decode cX10_dutyUpTo 119 = .ok (.ireturn, 1) := by decide +kernel
abbrev M_X10_dutyUpTo : aM := (yX10_dutyUpTo.cls, cX10_dutyUpTo, 9, (some .int), [], yX10_dutyUpTo.name == "<init>")
abbrev J_X10_dutyUpTo (l : Launch) (E : aE) (n0 m0 : Nat) := GG (fun (v : Int32) => .inl (some (.int v))) l E M_X10_dutyUpTo 3 76 n0 m0
theorem b_X10_dutyUpTo {l : Launch} {E : aE} (hl : l.stackTraces = false) (n0 m0 : Nat) (x1 : Nat) (x2 : Int32) (x3 : Int32) (h0 : aH) : J_X10_dutyUpTo l E n0 m0 0 [(0, .ref (e_z E + x1)), (1, .int x2), (2, .int x3)] [] h0 (m_X10_dutyUpTo x1 x2 x3 h0) := by
  unfold m_X10_dutyUpTo
  refine g_iconst (pc := 0) dX10_dutyUpTo_0 ci_0 ?_
  refine g_istore_n (pc := 1) (lv' := [(3, .int (0 : Int32)), (0, .ref (e_z E + x1)), (1, .int x2), (2, .int x3)]) dX10_dutyUpTo_1 (Nat.le_of_ble_eq_true rfl) rfl ?_
  refine g_aload_n (pc := 2) dX10_dutyUpTo_2 1 rfl ?_
  refine g_geti (pc := 3) cl10 (Nat.le_of_ble_eq_true rfl) fk349 (fun _ _ _ => rfl) dX10_dutyUpTo_3 (fun x4 => ?_)
  refine g_istore (pc := 6) (lv' := [(4, .int x4), (3, .int (0 : Int32)), (0, .ref (e_z E + x1)), (1, .int x2), (2, .int x3)]) dX10_dutyUpTo_6 (Nat.le_of_ble_eq_true rfl) rfl ?_
  refine g_iconst (pc := 8) dX10_dutyUpTo_8 ci_0 ?_
  refine g_istore (pc := 9) (lv' := [(5, .int (0 : Int32)), (4, .int x4), (3, .int (0 : Int32)), (0, .ref (e_z E + x1)), (1, .int x2), (2, .int x3)]) dX10_dutyUpTo_9 (Nat.le_of_ble_eq_true rfl) rfl ?_
  refine g_join (fun k => ∀ (x5 : Int32) (h1 : aH), J_X10_dutyUpTo l E n0 m0 118 [(3, .int x5)] [] h1 (k x5 h1)) (fun x5 h1 => ?_) (fun k118 hk118 => ?_)
  · refine g_iload_n (pc := 118) dX10_dutyUpTo_118 0 rfl ?_
    exact g_ret (pc := 119) rfl (isRet_i _) dX10_dutyUpTo_119 rfl
  refine g_lv [3, 4, 5, 2, 1, 0] rfl ?_
  refine g_loop3 (F := (m_X10_dutyUpTo_L11 x1 x2 x3 k118)) (fun x6 x7 x8 => [(0, .ref (e_z E + x1)), (1, .int x2), (2, .int x3), (3, .int x6), (4, .int x7), (5, .int x8)]) (fun r11 hr11 x6 x7 x8 h2 => ?_) _ _ _ _ _
  unfold m_X10_dutyUpTo_L11
  refine g_iload (pc := 11) dX10_dutyUpTo_11 5 rfl ?_
  refine g_sipush (pc := 13) dX10_dutyUpTo_13 cs_1440 ?_
  refine g_icmpge (pc := 16) (tgt := 118) dX10_dutyUpTo_16 rfl ?_ ?_
  · refine g_iload (pc := 19) dX10_dutyUpTo_19 4 rfl ?_
    refine g_iload_n (pc := 21) dX10_dutyUpTo_21 2 rfl ?_
    refine g_icmpge (pc := 22) (tgt := 118) dX10_dutyUpTo_22 rfl ?_ ?_
    · refine g_iload_n (pc := 25) dX10_dutyUpTo_25 2 rfl ?_
      refine g_istore (pc := 26) (lv' := [(6, .int x3), (0, .ref (e_z E + x1)), (1, .int x2), (2, .int x3), (3, .int x6), (4, .int x7), (5, .int x8)]) dX10_dutyUpTo_26 (Nat.le_of_ble_eq_true rfl) rfl ?_
      refine g_iconst (pc := 28) dX10_dutyUpTo_28 ci_0 ?_
      refine g_istore (pc := 29) (lv' := [(7, .int (0 : Int32)), (6, .int x3), (0, .ref (e_z E + x1)), (1, .int x2), (2, .int x3), (3, .int x6), (4, .int x7), (5, .int x8)]) dX10_dutyUpTo_29 (Nat.le_of_ble_eq_true rfl) rfl ?_
      refine g_iconst (pc := 31) dX10_dutyUpTo_31 ci_0 ?_
      refine g_istore (pc := 32) (lv' := [(8, .int (0 : Int32)), (7, .int (0 : Int32)), (6, .int x3), (0, .ref (e_z E + x1)), (1, .int x2), (2, .int x3), (3, .int x6), (4, .int x7), (5, .int x8)]) dX10_dutyUpTo_32 (Nat.le_of_ble_eq_true rfl) rfl ?_
      refine g_join (fun k => ∀ (x9 : Int32) (x10 : Int32) (h3 : aH), J_X10_dutyUpTo l E n0 m0 91 [(0, .ref (e_z E + x1)), (1, .int x2), (2, .int x3), (3, .int x6), (4, .int x7), (5, .int x8), (6, .int x9), (7, .int x10)] [] h3 (k x9 x10 h3)) (fun x9 x10 h3 => ?_) (fun k91 hk91 => ?_)
      · refine g_iload_n (pc := 91) dX10_dutyUpTo_91 3 rfl ?_
        refine g_iload (pc := 92) dX10_dutyUpTo_92 7 rfl ?_
        refine g_join (fun k => ∀ (x11 : Int32) (h4 : aH), J_X10_dutyUpTo l E n0 m0 106 [(0, .ref (e_z E + x1)), (1, .int x2), (2, .int x3), (5, .int x8), (6, .int x9)] [.int x11, .int x6] h4 (k x11 h4)) (fun x11 h4 => ?_) (fun k106 hk106 => ?_)
        · refine g_iadd (pc := 106) dX10_dutyUpTo_106 ?_
          refine g_topi (fun x12 => ?_)
          refine g_istore_n (pc := 107) (lv' := [(3, .int x12), (0, .ref (e_z E + x1)), (1, .int x2), (2, .int x3), (5, .int x8), (6, .int x9)]) dX10_dutyUpTo_107 (Nat.le_of_ble_eq_true rfl) rfl ?_
          refine g_iload (pc := 108) dX10_dutyUpTo_108 5 rfl ?_
          refine g_istore (pc := 110) (lv' := [(4, .int x9), (3, .int x12), (0, .ref (e_z E + x1)), (1, .int x2), (2, .int x3), (5, .int x8), (6, .int x9)]) dX10_dutyUpTo_110 (Nat.le_of_ble_eq_true rfl) rfl ?_
          refine g_iincN (pc := 112) dX10_dutyUpTo_112 5 rfl ci_1 (Nat.le_of_ble_eq_true rfl) (fun x13 => ?_)
          refine g_lvr (lv' := [(5, .int x13), (4, .int x9), (3, .int x12), (0, .ref (e_z E + x1)), (1, .int x2), (2, .int x3), (6, .int x9)]) rfl ?_
          refine g_goto (pc := 115) (tgt := 11) dX10_dutyUpTo_115 rfl ?_
          refine g_lv [3, 4, 5, 2, 1, 0] rfl ?_
          exact hr11 x12 x9 x13 h4
        refine g_ifeq (pc := 94) (tgt := 105) dX10_dutyUpTo_94 rfl ?_ ?_
        · refine g_iconst (pc := 105) dX10_dutyUpTo_105 ci_0 ?_
          refine g_lv [0, 1, 2, 5, 6] rfl ?_
          exact hk106 (0 : Int32) h3
        · refine g_iload (pc := 97) dX10_dutyUpTo_97 6 rfl ?_
          refine g_iload (pc := 99) dX10_dutyUpTo_99 4 rfl ?_
          refine g_isub (pc := 101) dX10_dutyUpTo_101 ?_
          refine g_goto (pc := 102) (tgt := 106) dX10_dutyUpTo_102 rfl ?_
          refine g_lv [0, 1, 2, 5, 6] rfl ?_
          exact hk106 (x9 - x7) h3
      refine g_lv [3, 4, 5, 6, 7, 8, 2, 1, 0] rfl ?_
      refine g_loop3 (F := (m_X10_dutyUpTo_L34 x1 x2 x7 k91)) (fun x14 x15 x16 => [(0, .ref (e_z E + x1)), (1, .int x2), (2, .int x3), (3, .int x6), (4, .int x7), (5, .int x8), (6, .int x14), (7, .int x15), (8, .int x16)]) (fun r34 hr34 x14 x15 x16 h5 => ?_) _ _ _ _ _
      unfold m_X10_dutyUpTo_L34
      refine g_iload (pc := 34) dX10_dutyUpTo_34 8 rfl ?_
      refine g_aload_n (pc := 36) dX10_dutyUpTo_36 0 rfl ?_
      refine g_getr (pc := 37) cl10 (Nat.le_of_ble_eq_true rfl) fk348 (fun _ _ _ => rfl) dX10_dutyUpTo_37 (fun x17 => ?_)
      refine g_geti (pc := 40) cl8 (Nat.le_of_ble_eq_true rfl) fk253 (fun _ _ _ => rfl) dX10_dutyUpTo_40 (fun x18 => ?_)
      refine g_icmpge (pc := 43) (tgt := 91) dX10_dutyUpTo_43 rfl ?_ ?_
      · refine g_iload (pc := 46) dX10_dutyUpTo_46 6 rfl ?_
        refine g_aload_n (pc := 48) dX10_dutyUpTo_48 0 rfl ?_
        refine g_iload (pc := 49) dX10_dutyUpTo_49 8 rfl ?_
        refine g_iload (pc := 51) dX10_dutyUpTo_51 4 rfl ?_
        refine g_gS (fun hs => ?_)
        refine g_bRi (pc := 53) (c_V cl10 hs (p_X10_endAt hl x1 x16 x7 h5) y_X10_endAt tw1098 dX10_dutyUpTo_53 rfl (st := [.int x14]) rfl (Nat.le_of_ble_eq_true rfl) (Nat.le_of_ble_eq_true rfl) (Nat.le_of_ble_eq_true rfl)) (fun x19 h6 => ?_)
        refine g_mmin (pc := 56) tw953 tw651 tw19 tw652 (Nat.le_of_ble_eq_true rfl) (Nat.le_of_ble_eq_true rfl) dX10_dutyUpTo_56 ?_
        refine g_topi (fun x20 => ?_)
        refine g_istore (pc := 59) (lv' := [(6, .int x20), (0, .ref (e_z E + x1)), (1, .int x2), (2, .int x3), (3, .int x6), (4, .int x7), (5, .int x8), (7, .int x15), (8, .int x16)]) dX10_dutyUpTo_59 (Nat.le_of_ble_eq_true rfl) rfl ?_
        refine g_iload (pc := 61) dX10_dutyUpTo_61 7 rfl ?_
        refine g_join (fun k => ∀ (x21 : Int32) (h7 : aH), J_X10_dutyUpTo l E n0 m0 83 [(0, .ref (e_z E + x1)), (1, .int x2), (2, .int x3), (3, .int x6), (4, .int x7), (5, .int x8), (6, .int x20), (8, .int x16)] [.int x21] h7 (k x21 h7)) (fun x21 h7 => ?_) (fun k83 hk83 => ?_)
        · refine g_istore (pc := 83) (lv' := [(7, .int x21), (0, .ref (e_z E + x1)), (1, .int x2), (2, .int x3), (3, .int x6), (4, .int x7), (5, .int x8), (6, .int x20), (8, .int x16)]) dX10_dutyUpTo_83 (Nat.le_of_ble_eq_true rfl) rfl ?_
          refine g_iincN (pc := 85) dX10_dutyUpTo_85 8 rfl ci_1 (Nat.le_of_ble_eq_true rfl) (fun x22 => ?_)
          refine g_lvr (lv' := [(8, .int x22), (7, .int x21), (0, .ref (e_z E + x1)), (1, .int x2), (2, .int x3), (3, .int x6), (4, .int x7), (5, .int x8), (6, .int x20)]) rfl ?_
          refine g_goto (pc := 88) (tgt := 34) dX10_dutyUpTo_88 rfl ?_
          refine g_lv [2, 3, 4, 5, 6, 7, 8, 1, 0] rfl ?_
          exact hr34 x20 x21 x22 h7
        refine g_join (fun k => ∀ (h8 : aH), J_X10_dutyUpTo l E n0 m0 78 [(0, .ref (e_z E + x1)), (1, .int x2), (2, .int x3), (3, .int x6), (4, .int x7), (5, .int x8), (6, .int x20), (8, .int x16)] [] h8 (k h8)) (fun h8 => ?_) (fun k78 hk78 => ?_)
        · refine g_iconst (pc := 78) dX10_dutyUpTo_78 ci_1 ?_
          refine g_goto (pc := 79) (tgt := 83) dX10_dutyUpTo_79 rfl ?_
          exact hk83 (1 : Int32) h8
        refine g_ifne (pc := 63) (tgt := 78) dX10_dutyUpTo_63 rfl ?_ ?_
        · refine g_aload_n (pc := 66) dX10_dutyUpTo_66 1 rfl ?_
          refine g_iload (pc := 67) dX10_dutyUpTo_67 8 rfl ?_
          refine g_iload (pc := 69) dX10_dutyUpTo_69 5 rfl ?_
          refine g_gS (fun hs => ?_)
          refine g_bRi (pc := 71) (c_V cl10 hs (p_X10_holderThen hl x1 x16 x7 h6) y_X10_holderThen tw1099 dX10_dutyUpTo_71 rfl (st := []) rfl (Nat.le_of_ble_eq_true rfl) (Nat.le_of_ble_eq_true rfl) (Nat.le_of_ble_eq_true rfl)) (fun x23 h9 => ?_)
          refine g_iload_n (pc := 74) dX10_dutyUpTo_74 2 rfl ?_
          refine g_icmpne (pc := 75) (tgt := 82) dX10_dutyUpTo_75 rfl ?_ ?_
          · refine g_lv [1, 2, 3, 4, 5, 6, 0, 8] rfl ?_
            exact hk78 h9
          · refine g_iconst (pc := 82) dX10_dutyUpTo_82 ci_0 ?_
            refine g_lv [1, 2, 3, 4, 5, 6, 0, 8] rfl ?_
            exact hk83 (0 : Int32) h9
        · refine g_lv [1, 2, 3, 4, 5, 6, 0, 8] rfl ?_
          exact hk78 h6
      · refine g_lv [0, 1, 2, 3, 4, 5, 6, 7] rfl ?_
        exact hk91 x14 x15 h5
    · refine g_lv [3] rfl ?_
      exact hk118 x6 h2
  · refine g_lv [3] rfl ?_
    exact hk118 x6 h2
theorem p_X10_dutyUpTo {l : Launch} {E : aE} (hl : l.stackTraces = false) (x1 : Nat) (x2 : Int32) (x3 : Int32) (h0 : aH) : MO (fun (v : Int32) => .inl (some (.int v))) l E yX10_dutyUpTo (.code yX10_dutyUpTo cX10_dutyUpTo 9 (some .int)) 3 76 [.ref (e_z E + x1), .int x2, .int x3] h0 (m_X10_dutyUpTo x1 x2 x3 h0) := g_met hl (by decide +kernel) (Nat.le_of_ble_eq_true rfl) (b_X10_dutyUpTo hl _ _ x1 x2 x3 h0)
theorem dX10_growTrustIn_0 : decode cX10_growTrustIn 0 = .ok (.iconst 0, 1) := by decide +kernel
theorem dX10_growTrustIn_1 : decode cX10_growTrustIn 1 = .ok (.istore_n 2, 1) := by decide +kernel
theorem dX10_growTrustIn_2 : decode cX10_growTrustIn 2 = .ok (.iload_n 2, 1) := by decide +kernel
theorem dX10_growTrustIn_3 : decode cX10_growTrustIn 3 = .ok (.bipush 12, 2) := by decide +kernel
theorem dX10_growTrustIn_5 : decode cX10_growTrustIn 5 = .ok (.if_icmp .ge 51, 3) := by decide +kernel
theorem dX10_growTrustIn_8 : decode cX10_growTrustIn 8 = .ok (.iconst 0, 1) := by decide +kernel
theorem dX10_growTrustIn_9 : decode cX10_growTrustIn 9 = .ok (.istore_n 3, 1) := by decide +kernel
theorem dX10_growTrustIn_10 : decode cX10_growTrustIn 10 = .ok (.iload_n 3, 1) := by decide +kernel
theorem dX10_growTrustIn_11 : decode cX10_growTrustIn 11 = .ok (.bipush 12, 2) := by decide +kernel
theorem dX10_growTrustIn_13 : decode cX10_growTrustIn 13 = .ok (.if_icmp .ge 37, 3) := by decide +kernel
theorem dX10_growTrustIn_16 : decode cX10_growTrustIn 16 = .ok (.iload_n 2, 1) := by decide +kernel
theorem dX10_growTrustIn_17 : decode cX10_growTrustIn 17 = .ok (.iload_n 3, 1) := by decide +kernel
theorem dX10_growTrustIn_18 : decode cX10_growTrustIn 18 = .ok (.if_icmp .eq 26, 3) := by decide +kernel
theorem dX10_growTrustIn_21 : decode cX10_growTrustIn 21 = .ok (.iload_n 1, 1) := by decide +kernel
theorem dX10_growTrustIn_22 : decode cX10_growTrustIn 22 = .ok (.iload_n 2, 1) := by decide +kernel
theorem dX10_growTrustIn_23 : decode cX10_growTrustIn 23 = .ok (.invokestatic 179, 3) := by decide +kernel
theorem dX10_growTrustIn_26 : decode cX10_growTrustIn 26 = .ok (.ifCond .eq 18, 3) := by decide +kernel
theorem dX10_growTrustIn_29 : decode cX10_growTrustIn 29 = .ok (.iload_n 1, 1) := by decide +kernel
theorem dX10_growTrustIn_30 : decode cX10_growTrustIn 30 = .ok (.iload_n 3, 1) := by decide +kernel
theorem dX10_growTrustIn_31 : decode cX10_growTrustIn 31 = .ok (.invokestatic 179, 3) := by decide +kernel
theorem dX10_growTrustIn_34 : decode cX10_growTrustIn 34 = .ok (.ifCond .eq 10, 3) := by decide +kernel
theorem dX10_growTrustIn_37 : decode cX10_growTrustIn 37 = .ok (.aload_n 0, 1) := by decide +kernel
theorem dX10_growTrustIn_38 : decode cX10_growTrustIn 38 = .ok (.iload_n 2, 1) := by decide +kernel
theorem dX10_growTrustIn_39 : decode cX10_growTrustIn 39 = .ok (.iload_n 3, 1) := by decide +kernel
theorem dX10_growTrustIn_40 : decode cX10_growTrustIn 40 = .ok (.iconst 1, 1) := by decide +kernel
theorem dX10_growTrustIn_41 : decode cX10_growTrustIn 41 = .ok (.invokevirtual 198, 3) := by decide +kernel
theorem dX10_growTrustIn_44 : decode cX10_growTrustIn 44 = .ok (.iinc 3 1, 3) := by decide +kernel
theorem dX10_growTrustIn_47 : decode cX10_growTrustIn 47 = .ok (.goto (-37), 3) := by decide +kernel
theorem dX10_growTrustIn_50 : decode cX10_growTrustIn 50 = .ok (.iinc 2 1, 3) := by decide +kernel
theorem dX10_growTrustIn_53 : decode cX10_growTrustIn 53 = .ok (.goto (-51), 3) := by decide +kernel
theorem dX10_growTrustIn_56 : decode cX10_growTrustIn 56 = .ok (.return_, 1) := by decide +kernel
abbrev M_X10_growTrustIn : aM := (yX10_growTrustIn.cls, cX10_growTrustIn, 4, none, [], yX10_growTrustIn.name == "<init>")
abbrev J_X10_growTrustIn (l : Launch) (E : aE) (n0 m0 : Nat) := GG (fun (_ : Unit) => .inl none) l E M_X10_growTrustIn 2 45 n0 m0
theorem b_X10_growTrustIn {l : Launch} {E : aE} (hl : l.stackTraces = false) (n0 m0 : Nat) (x1 : Nat) (x2 : Int32) (h0 : aH) : J_X10_growTrustIn l E n0 m0 0 [(0, .ref (e_z E + x1)), (1, .int x2)] [] h0 (m_X10_growTrustIn x1 x2 h0) := by
  unfold m_X10_growTrustIn
  refine g_iconst (pc := 0) dX10_growTrustIn_0 ci_0 ?_
  refine g_istore_n (pc := 1) (lv' := [(2, .int (0 : Int32)), (0, .ref (e_z E + x1)), (1, .int x2)]) dX10_growTrustIn_1 (Nat.le_of_ble_eq_true rfl) rfl ?_
  refine g_join (fun k => ∀ (h1 : aH), J_X10_growTrustIn l E n0 m0 56 [] [] h1 (k h1)) (fun h1 => ?_) (fun k56 hk56 => ?_)
  · exact g_ret (pc := 56) rfl isRet_v dX10_growTrustIn_56 rfl
  refine g_lv [1, 2, 0] rfl ?_
  refine g_loop1 (F := (m_X10_growTrustIn_L2 x1 x2 k56)) (fun x3 => [(0, .ref (e_z E + x1)), (1, .int x2), (2, .int x3)]) (fun r2 hr2 x3 h2 => ?_) _ _ _
  unfold m_X10_growTrustIn_L2
  refine g_iload_n (pc := 2) dX10_growTrustIn_2 2 rfl ?_
  refine g_bipush (pc := 3) dX10_growTrustIn_3 cb_12 ?_
  refine g_icmpge (pc := 5) (tgt := 56) dX10_growTrustIn_5 rfl ?_ ?_
  · refine g_iconst (pc := 8) dX10_growTrustIn_8 ci_0 ?_
    refine g_istore_n (pc := 9) (lv' := [(3, .int (0 : Int32)), (0, .ref (e_z E + x1)), (1, .int x2), (2, .int x3)]) dX10_growTrustIn_9 (Nat.le_of_ble_eq_true rfl) rfl ?_
    refine g_join (fun k => ∀ (h3 : aH), J_X10_growTrustIn l E n0 m0 50 [(0, .ref (e_z E + x1)), (1, .int x2), (2, .int x3)] [] h3 (k h3)) (fun h3 => ?_) (fun k50 hk50 => ?_)
    · refine g_iincN (pc := 50) dX10_growTrustIn_50 2 rfl ci_1 (Nat.le_of_ble_eq_true rfl) (fun x4 => ?_)
      refine g_lvr (lv' := [(2, .int x4), (0, .ref (e_z E + x1)), (1, .int x2)]) rfl ?_
      refine g_goto (pc := 53) (tgt := 2) dX10_growTrustIn_53 rfl ?_
      refine g_lv [1, 2, 0] rfl ?_
      exact hr2 x4 h3
    refine g_lv [1, 2, 3, 0] rfl ?_
    refine g_loop1 (F := (m_X10_growTrustIn_L10 x1 x2 x3 k50)) (fun x5 => [(0, .ref (e_z E + x1)), (1, .int x2), (2, .int x3), (3, .int x5)]) (fun r10 hr10 x5 h4 => ?_) _ _ _
    unfold m_X10_growTrustIn_L10
    refine g_iload_n (pc := 10) dX10_growTrustIn_10 3 rfl ?_
    refine g_bipush (pc := 11) dX10_growTrustIn_11 cb_12 ?_
    refine g_icmpge (pc := 13) (tgt := 50) dX10_growTrustIn_13 rfl ?_ ?_
    · refine g_iload_n (pc := 16) dX10_growTrustIn_16 2 rfl ?_
      refine g_iload_n (pc := 17) dX10_growTrustIn_17 3 rfl ?_
      refine g_join (fun k => ∀ (h5 : aH), J_X10_growTrustIn l E n0 m0 44 [(0, .ref (e_z E + x1)), (1, .int x2), (2, .int x3), (3, .int x5)] [] h5 (k h5)) (fun h5 => ?_) (fun k44 hk44 => ?_)
      · refine g_iincN (pc := 44) dX10_growTrustIn_44 3 rfl ci_1 (Nat.le_of_ble_eq_true rfl) (fun x6 => ?_)
        refine g_lvr (lv' := [(3, .int x6), (0, .ref (e_z E + x1)), (1, .int x2), (2, .int x3)]) rfl ?_
        refine g_goto (pc := 47) (tgt := 10) dX10_growTrustIn_47 rfl ?_
        refine g_lv [1, 2, 3, 0] rfl ?_
        exact hr10 x6 h5
      refine g_icmpeq (pc := 18) (tgt := 44) dX10_growTrustIn_18 rfl ?_ ?_
      · exact hk44 h4
      · refine g_iload_n (pc := 21) dX10_growTrustIn_21 1 rfl ?_
        refine g_iload_n (pc := 22) dX10_growTrustIn_22 2 rfl ?_
        refine g_bRi (pc := 23) (c_SN (p_X11_has hl x2 x3 h4) y_X11_has tw1117 dX10_growTrustIn_23 rfl (st := []) rfl (Nat.le_of_ble_eq_true rfl) (Nat.le_of_ble_eq_true rfl) (Nat.le_of_ble_eq_true rfl)) (fun x7 h6 => ?_)
        refine g_ifeq (pc := 26) (tgt := 44) dX10_growTrustIn_26 rfl ?_ ?_
        · exact hk44 h6
        · refine g_iload_n (pc := 29) dX10_growTrustIn_29 1 rfl ?_
          refine g_iload_n (pc := 30) dX10_growTrustIn_30 3 rfl ?_
          refine g_bRi (pc := 31) (c_SN (p_X11_has hl x2 x5 h6) y_X11_has tw1117 dX10_growTrustIn_31 rfl (st := []) rfl (Nat.le_of_ble_eq_true rfl) (Nat.le_of_ble_eq_true rfl) (Nat.le_of_ble_eq_true rfl)) (fun x8 h7 => ?_)
          refine g_ifeq (pc := 34) (tgt := 44) dX10_growTrustIn_34 rfl ?_ ?_
          · exact hk44 h7
          · refine g_aload_n (pc := 37) dX10_growTrustIn_37 0 rfl ?_
            refine g_iload_n (pc := 38) dX10_growTrustIn_38 2 rfl ?_
            refine g_iload_n (pc := 39) dX10_growTrustIn_39 3 rfl ?_
            refine g_iconst (pc := 40) dX10_growTrustIn_40 ci_1 ?_
            refine g_gS (fun hs => ?_)
            refine g_bRv (pc := 41) (c_V cl10 hs (p_X10_shiftTrust hl x1 x3 x5 (1 : Int32) h7) y_X10_shiftTrust tw1371 dX10_growTrustIn_41 rfl (st := []) rfl (Nat.le_of_ble_eq_true rfl) (Nat.le_of_ble_eq_true rfl) (Nat.le_of_ble_eq_true rfl)) (fun _ h8 => ?_)
            exact hk44 h8
    · refine g_lv [0, 1, 2] rfl ?_
      exact hk50 h4
  · refine g_lv [] rfl ?_
    exact hk56 h2
theorem p_X10_growTrustIn {l : Launch} {E : aE} (hl : l.stackTraces = false) (x1 : Nat) (x2 : Int32) (h0 : aH) : MO (fun (_ : Unit) => .inl none) l E yX10_growTrustIn (.code yX10_growTrustIn cX10_growTrustIn 4 none) 2 45 [.ref (e_z E + x1), .int x2] h0 (m_X10_growTrustIn x1 x2 h0) := g_met hl (by decide +kernel) (Nat.le_of_ble_eq_true rfl) (b_X10_growTrustIn hl _ _ x1 x2 h0)
theorem dX10_advance_0 : decode cX10_advance 0 = .ok (.aload_n 0, 1) := by decide +kernel
theorem dX10_advance_1 : decode cX10_advance 1 = .ok (.getfield 56, 3) := by decide +kernel
theorem dX10_advance_4 : decode cX10_advance 4 = .ok (.iload_n 1, 1) := by decide +kernel
theorem dX10_advance_5 : decode cX10_advance 5 = .ok (.iadd, 1) := by decide +kernel
theorem dX10_advance_6 : decode cX10_advance 6 = .ok (.istore_n 2, 1) := by decide +kernel
theorem dX10_advance_7 : decode cX10_advance 7 = .ok (.iconst 0, 1) := by decide +kernel
theorem dX10_advance_8 : decode cX10_advance 8 = .ok (.istore_n 3, 1) := by decide +kernel
theorem dX10_advance_9 : decode cX10_advance 9 = .ok (.iload_n 3, 1) := by decide +kernel
theorem dX10_advance_10 : decode cX10_advance 10 = .ok (.aload_n 0, 1) := by decide +kernel
theorem dX10_advance_11 : decode cX10_advance 11 = .ok (.getfield 52, 3) := by decide +kernel
theorem dX10_advance_14 : decode cX10_advance 14 = .ok (.getfield 148, 3) := by decide +kernel
theorem dX10_advance_17 : decode cX10_advance 17 = .ok (.if_icmp .ge 21, 3) := by decide +kernel
theorem dX10_advance_20 : decode cX10_advance 20 = .ok (.aload_n 0, 1) := by decide +kernel
theorem dX10_advance_21 : decode cX10_advance 21 = .ok (.getfield 9, 3) := by decide +kernel
theorem dX10_advance_24 : decode cX10_advance 24 = .ok (.iload_n 3, 1) := by decide +kernel
theorem dX10_advance_25 : decode cX10_advance 25 = .ok (.aload_n 0, 1) := by decide +kernel
theorem dX10_advance_26 : decode cX10_advance 26 = .ok (.iload_n 3, 1) := by decide +kernel
theorem dX10_advance_27 : decode cX10_advance 27 = .ok (.iload_n 2, 1) := by decide +kernel
theorem dX10_advance_28 : decode cX10_advance 28 = .ok (.invokevirtual 130, 3) := by decide +kernel
theorem dX10_advance_31 : decode cX10_advance 31 = .ok (.iastore, 1) := by decide +kernel
theorem dX10_advance_32 : decode cX10_advance 32 = .ok (.iinc 3 1, 3) := by decide +kernel
theorem dX10_advance_35 : decode cX10_advance 35 = .ok (.goto (-26), 3) := by decide +kernel
theorem dX10_advance_38 : decode cX10_advance 38 = .ok (.iconst 0, 1) := by decide +kernel
theorem dX10_advance_39 : decode cX10_advance 39 = .ok (.istore_n 3, 1) := by decide +kernel
theorem dX10_advance_40 : decode cX10_advance 40 = .ok (.iload_n 3, 1) := by decide +kernel
theorem dX10_advance_41 : decode cX10_advance 41 = .ok (.aload_n 0, 1) := by decide +kernel
theorem dX10_advance_42 : decode cX10_advance 42 = .ok (.getfield 52, 3) := by decide +kernel
theorem dX10_advance_45 : decode cX10_advance 45 = .ok (.getfield 78, 3) := by decide +kernel
theorem dX10_advance_48 : decode cX10_advance 48 = .ok (.if_icmp .ge 21, 3) := by decide +kernel
theorem dX10_advance_51 : decode cX10_advance 51 = .ok (.aload_n 0, 1) := by decide +kernel
theorem dX10_advance_52 : decode cX10_advance 52 = .ok (.getfield 27, 3) := by decide +kernel
theorem dX10_advance_55 : decode cX10_advance 55 = .ok (.iload_n 3, 1) := by decide +kernel
theorem dX10_advance_56 : decode cX10_advance 56 = .ok (.aload_n 0, 1) := by decide +kernel
theorem dX10_advance_57 : decode cX10_advance 57 = .ok (.iload_n 3, 1) := by decide +kernel
theorem dX10_advance_58 : decode cX10_advance 58 = .ok (.iload_n 2, 1) := by decide +kernel
theorem dX10_advance_59 : decode cX10_advance 59 = .ok (.invokevirtual 160, 3) := by decide +kernel
theorem dX10_advance_62 : decode cX10_advance 62 = .ok (.iastore, 1) := by decide +kernel
theorem dX10_advance_63 : decode cX10_advance 63 = .ok (.iinc 3 1, 3) := by decide +kernel
theorem dX10_advance_66 : decode cX10_advance 66 = .ok (.goto (-26), 3) := by decide +kernel
theorem dX10_advance_69 : decode cX10_advance 69 = .ok (.iconst 0, 1) := by decide +kernel
theorem dX10_advance_70 : decode cX10_advance 70 = .ok (.istore_n 3, 1) := by decide +kernel
theorem dX10_advance_71 : decode cX10_advance 71 = .ok (.iconst 0, 1) := by decide +kernel
theorem dX10_advance_72 : decode cX10_advance 72 = .ok (.istore 4, 2) := by decide +kernel
theorem dX10_advance_74 : decode cX10_advance 74 = .ok (.iload 4, 2) := by decide +kernel
theorem dX10_advance_76 : decode cX10_advance 76 = .ok (.aload_n 0, 1) := by decide +kernel
theorem dX10_advance_77 : decode cX10_advance 77 = .ok (.getfield 52, 3) := by decide +kernel
theorem dX10_advance_80 : decode cX10_advance 80 = .ok (.getfield 94, 3) := by decide +kernel
theorem dX10_advance_83 : decode cX10_advance 83 = .ok (.if_icmp .ge 43, 3) := by decide +kernel
theorem dX10_advance_86 : decode cX10_advance 86 = .ok (.aload_n 0, 1) := by decide +kernel
theorem dX10_advance_87 : decode cX10_advance 87 = .ok (.iload 4, 2) := by decide +kernel
theorem dX10_advance_89 : decode cX10_advance 89 = .ok (.invokevirtual 191, 3) := by decide +kernel
theorem dX10_advance_92 : decode cX10_advance 92 = .ok (.ifCond .eq 28, 3) := by decide +kernel
theorem dX10_advance_95 : decode cX10_advance 95 = .ok (.aload_n 0, 1) := by decide +kernel
theorem dX10_advance_96 : decode cX10_advance 96 = .ok (.getfield 36, 3) := by decide +kernel
theorem dX10_advance_99 : decode cX10_advance 99 = .ok (.iload 4, 2) := by decide +kernel
theorem dX10_advance_101 : decode cX10_advance 101 = .ok (.iaload, 1) := by decide +kernel
theorem dX10_advance_102 : decode cX10_advance 102 = .ok (.iload_n 2, 1) := by decide +kernel
theorem dX10_advance_103 : decode cX10_advance 103 = .ok (.if_icmp .gt 17, 3) := by decide +kernel
theorem dX10_advance_106 : decode cX10_advance 106 = .ok (.aload_n 0, 1) := by decide +kernel
theorem dX10_advance_107 : decode cX10_advance 107 = .ok (.aload_n 0, 1) := by decide +kernel
theorem dX10_advance_108 : decode cX10_advance 108 = .ok (.getfield 39, 3) := by decide +kernel
theorem dX10_advance_111 : decode cX10_advance 111 = .ok (.iload 4, 2) := by decide +kernel
theorem dX10_advance_113 : decode cX10_advance 113 = .ok (.iaload, 1) := by decide +kernel
theorem dX10_advance_114 : decode cX10_advance 114 = .ok (.invokevirtual 194, 3) := by decide +kernel
theorem dX10_advance_117 : decode cX10_advance 117 = .ok (.iinc 3 1, 3) := by decide +kernel
theorem dX10_advance_120 : decode cX10_advance 120 = .ok (.iinc 4 1, 3) := by decide +kernel
theorem dX10_advance_123 : decode cX10_advance 123 = .ok (.goto (-49), 3) := by decide +kernel
theorem dX10_advance_126 : decode cX10_advance 126 = .ok (.aload_n 0, 1) := by decide +kernel
theorem dX10_advance_127 : decode cX10_advance 127 = .ok (.iload_n 2, 1) := by decide +kernel
theorem dX10_advance_128 : decode cX10_advance 128 = .ok (.putfield 56, 3) := by decide +kernel
theorem dX10_advance_131 : decode cX10_advance 131 = .ok (.iload_n 3, 1) := by decide +kernel
theorem dX10_advance_132 : decode cX10_advance 132 = .ok (.ireturn, 1) := by decide +kernel
abbrev M_X10_advance : aM := (yX10_advance.cls, cX10_advance, 5, (some .int), [], yX10_advance.name == "<init>")
abbrev J_X10_advance (l : Launch) (E : aE) (n0 m0 : Nat) := GG (fun (v : Int32) => .inl (some (.int v))) l E M_X10_advance 4 101 n0 m0
theorem b_X10_advance {l : Launch} {E : aE} (hl : l.stackTraces = false) (n0 m0 : Nat) (x1 : Nat) (x2 : Int32) (h0 : aH) : J_X10_advance l E n0 m0 0 [(0, .ref (e_z E + x1)), (1, .int x2)] [] h0 (m_X10_advance x1 x2 h0) := by
  unfold m_X10_advance
  refine g_aload_n (pc := 0) dX10_advance_0 0 rfl ?_
  refine g_geti (pc := 1) cl10 (Nat.le_of_ble_eq_true rfl) fk349 (fun _ _ _ => rfl) dX10_advance_1 (fun x3 => ?_)
  refine g_iload_n (pc := 4) dX10_advance_4 1 rfl ?_
  refine g_iadd (pc := 5) dX10_advance_5 ?_
  refine g_topi (fun x4 => ?_)
  refine g_istore_n (pc := 6) (lv' := [(2, .int x4), (0, .ref (e_z E + x1)), (1, .int x2)]) dX10_advance_6 (Nat.le_of_ble_eq_true rfl) rfl ?_
  refine g_iconst (pc := 7) dX10_advance_7 ci_0 ?_
  refine g_istore_n (pc := 8) (lv' := [(3, .int (0 : Int32)), (2, .int x4), (0, .ref (e_z E + x1)), (1, .int x2)]) dX10_advance_8 (Nat.le_of_ble_eq_true rfl) rfl ?_
  refine g_join (fun k => ∀ (h1 : aH), J_X10_advance l E n0 m0 38 [(0, .ref (e_z E + x1)), (2, .int x4)] [] h1 (k h1)) (fun h1 => ?_) (fun k38 hk38 => ?_)
  · refine g_iconst (pc := 38) dX10_advance_38 ci_0 ?_
    refine g_istore_n (pc := 39) (lv' := [(3, .int (0 : Int32)), (0, .ref (e_z E + x1)), (2, .int x4)]) dX10_advance_39 (Nat.le_of_ble_eq_true rfl) rfl ?_
    refine g_join (fun k => ∀ (h2 : aH), J_X10_advance l E n0 m0 69 [(0, .ref (e_z E + x1)), (2, .int x4)] [] h2 (k h2)) (fun h2 => ?_) (fun k69 hk69 => ?_)
    · refine g_iconst (pc := 69) dX10_advance_69 ci_0 ?_
      refine g_istore_n (pc := 70) (lv' := [(3, .int (0 : Int32)), (0, .ref (e_z E + x1)), (2, .int x4)]) dX10_advance_70 (Nat.le_of_ble_eq_true rfl) rfl ?_
      refine g_iconst (pc := 71) dX10_advance_71 ci_0 ?_
      refine g_istore (pc := 72) (lv' := [(4, .int (0 : Int32)), (3, .int (0 : Int32)), (0, .ref (e_z E + x1)), (2, .int x4)]) dX10_advance_72 (Nat.le_of_ble_eq_true rfl) rfl ?_
      refine g_join (fun k => ∀ (x5 : Int32) (h3 : aH), J_X10_advance l E n0 m0 126 [(0, .ref (e_z E + x1)), (2, .int x4), (3, .int x5)] [] h3 (k x5 h3)) (fun x5 h3 => ?_) (fun k126 hk126 => ?_)
      · refine g_aload_n (pc := 126) dX10_advance_126 0 rfl ?_
        refine g_iload_n (pc := 127) dX10_advance_127 1 rfl ?_
        refine g_puti (pc := 128) cl10 (Nat.le_of_ble_eq_true rfl) (Or.inl ⟨rfl, fk349⟩) (fun _ _ _ => rfl) (fun _ => ⟨rfl, rfl⟩) dX10_advance_128 (fun h4 => ?_)
        refine g_iload_n (pc := 131) dX10_advance_131 2 rfl ?_
        exact g_ret (pc := 132) rfl (isRet_i _) dX10_advance_132 rfl
      refine g_lv [2, 3, 1, 0] rfl ?_
      refine g_loop2 (F := (m_X10_advance_L74 x1 x4 k126)) (fun x6 x7 => [(0, .ref (e_z E + x1)), (2, .int x4), (3, .int x6), (4, .int x7)]) (fun r74 hr74 x6 x7 h5 => ?_) _ _ _ _
      unfold m_X10_advance_L74
      refine g_iload (pc := 74) dX10_advance_74 3 rfl ?_
      refine g_aload_n (pc := 76) dX10_advance_76 0 rfl ?_
      refine g_getr (pc := 77) cl10 (Nat.le_of_ble_eq_true rfl) fk348 (fun _ _ _ => rfl) dX10_advance_77 (fun x8 => ?_)
      refine g_geti (pc := 80) cl8 (Nat.le_of_ble_eq_true rfl) fk261 (fun _ _ _ => rfl) dX10_advance_80 (fun x9 => ?_)
      refine g_icmpge (pc := 83) (tgt := 126) dX10_advance_83 rfl ?_ ?_
      · refine g_aload_n (pc := 86) dX10_advance_86 0 rfl ?_
        refine g_iload (pc := 87) dX10_advance_87 3 rfl ?_
        refine g_gS (fun hs => ?_)
        refine g_bRi (pc := 89) (c_V cl10 hs (p_X10_isEngineOut hl x1 x7 h5) y_X10_isEngineOut tw1366 dX10_advance_89 rfl (st := []) rfl (Nat.le_of_ble_eq_true rfl) (Nat.le_of_ble_eq_true rfl) (Nat.le_of_ble_eq_true rfl)) (fun x10 h6 => ?_)
        refine g_join (fun k => ∀ (x11 : Int32) (h7 : aH), J_X10_advance l E n0 m0 120 [(0, .ref (e_z E + x1)), (2, .int x4), (3, .int x11), (4, .int x7)] [] h7 (k x11 h7)) (fun x11 h7 => ?_) (fun k120 hk120 => ?_)
        · refine g_iincN (pc := 120) dX10_advance_120 3 rfl ci_1 (Nat.le_of_ble_eq_true rfl) (fun x12 => ?_)
          refine g_lvr (lv' := [(4, .int x12), (0, .ref (e_z E + x1)), (2, .int x4), (3, .int x11)]) rfl ?_
          refine g_goto (pc := 123) (tgt := 74) dX10_advance_123 rfl ?_
          refine g_lv [1, 2, 3, 0] rfl ?_
          exact hr74 x11 x12 h7
        refine g_ifeq (pc := 92) (tgt := 120) dX10_advance_92 rfl ?_ ?_
        · exact hk120 x6 h6
        · refine g_aload_n (pc := 95) dX10_advance_95 0 rfl ?_
          refine g_getr (pc := 96) cl10 (Nat.le_of_ble_eq_true rfl) fk370 (fun _ _ _ => rfl) dX10_advance_96 (fun x13 => ?_)
          refine g_iload (pc := 99) dX10_advance_99 3 rfl ?_
          refine g_iald (pc := 101) dX10_advance_101 (fun x14 => ?_)
          refine g_iload_n (pc := 102) dX10_advance_102 1 rfl ?_
          refine g_icmpgt (pc := 103) (tgt := 120) dX10_advance_103 rfl ?_ ?_
          · refine g_aload_n (pc := 106) dX10_advance_106 0 rfl ?_
            refine g_aload_n (pc := 107) dX10_advance_107 0 rfl ?_
            refine g_getr (pc := 108) cl10 (Nat.le_of_ble_eq_true rfl) fk373 (fun _ _ _ => rfl) dX10_advance_108 (fun x15 => ?_)
            refine g_iload (pc := 111) dX10_advance_111 3 rfl ?_
            refine g_iald (pc := 113) dX10_advance_113 (fun x16 => ?_)
            refine g_gS (fun hs => ?_)
            refine g_bRv (pc := 114) (c_V cl10 hs (p_X10_growTrustIn hl x1 x16 h6) y_X10_growTrustIn tw1367 dX10_advance_114 rfl (st := []) rfl (Nat.le_of_ble_eq_true rfl) (Nat.le_of_ble_eq_true rfl) (Nat.le_of_ble_eq_true rfl)) (fun _ h8 => ?_)
            refine g_iincN (pc := 117) dX10_advance_117 2 rfl ci_1 (Nat.le_of_ble_eq_true rfl) (fun x17 => ?_)
            refine g_lvr (lv' := [(3, .int x17), (0, .ref (e_z E + x1)), (2, .int x4), (4, .int x7)]) rfl ?_
            refine g_lv [1, 2, 0, 3] rfl ?_
            exact hk120 x17 h8
          · exact hk120 x6 h6
      · refine g_lv [0, 1, 2] rfl ?_
        exact hk126 x6 h5
    refine g_lv [1, 2, 0] rfl ?_
    refine g_loop1 (F := (m_X10_advance_L40 x1 x4 k69)) (fun x18 => [(0, .ref (e_z E + x1)), (2, .int x4), (3, .int x18)]) (fun r40 hr40 x18 h9 => ?_) _ _ _
    unfold m_X10_advance_L40
    refine g_iload_n (pc := 40) dX10_advance_40 2 rfl ?_
    refine g_aload_n (pc := 41) dX10_advance_41 0 rfl ?_
    refine g_getr (pc := 42) cl10 (Nat.le_of_ble_eq_true rfl) fk348 (fun _ _ _ => rfl) dX10_advance_42 (fun x19 => ?_)
    refine g_geti (pc := 45) cl8 (Nat.le_of_ble_eq_true rfl) fk253 (fun _ _ _ => rfl) dX10_advance_45 (fun x20 => ?_)
    refine g_icmpge (pc := 48) (tgt := 69) dX10_advance_48 rfl ?_ ?_
    · refine g_aload_n (pc := 51) dX10_advance_51 0 rfl ?_
      refine g_getr (pc := 52) cl10 (Nat.le_of_ble_eq_true rfl) fk365 (fun _ _ _ => rfl) dX10_advance_52 (fun x21 => ?_)
      refine g_iload_n (pc := 55) dX10_advance_55 2 rfl ?_
      refine g_aload_n (pc := 56) dX10_advance_56 0 rfl ?_
      refine g_iload_n (pc := 57) dX10_advance_57 2 rfl ?_
      refine g_iload_n (pc := 58) dX10_advance_58 1 rfl ?_
      refine g_gS (fun hs => ?_)
      refine g_bRi (pc := 59) (c_V cl10 hs (p_X10_handOnsAt hl x1 x18 x4 h9) y_X10_handOnsAt tw1058 dX10_advance_59 rfl (st := [.int x18, .ref (e_z E + x21)]) rfl (Nat.le_of_ble_eq_true rfl) (Nat.le_of_ble_eq_true rfl) (Nat.le_of_ble_eq_true rfl)) (fun x22 h10 => ?_)
      refine g_iast (pc := 62) dX10_advance_62 (fun h11 => ?_)
      refine g_iincN (pc := 63) dX10_advance_63 2 rfl ci_1 (Nat.le_of_ble_eq_true rfl) (fun x23 => ?_)
      refine g_lvr (lv' := [(3, .int x23), (0, .ref (e_z E + x1)), (2, .int x4)]) rfl ?_
      refine g_goto (pc := 66) (tgt := 40) dX10_advance_66 rfl ?_
      refine g_lv [1, 2, 0] rfl ?_
      exact hr40 x23 h11
    · refine g_lv [0, 1] rfl ?_
      exact hk69 h9
  refine g_lv [2, 1, 0] rfl ?_
  refine g_loop1 (F := (m_X10_advance_L9 x1 x4 k38)) (fun x24 => [(0, .ref (e_z E + x1)), (2, .int x4), (3, .int x24)]) (fun r9 hr9 x24 h12 => ?_) _ _ _
  unfold m_X10_advance_L9
  refine g_iload_n (pc := 9) dX10_advance_9 2 rfl ?_
  refine g_aload_n (pc := 10) dX10_advance_10 0 rfl ?_
  refine g_getr (pc := 11) cl10 (Nat.le_of_ble_eq_true rfl) fk348 (fun _ _ _ => rfl) dX10_advance_11 (fun x25 => ?_)
  refine g_geti (pc := 14) cl8 (Nat.le_of_ble_eq_true rfl) fk241 (fun _ _ _ => rfl) dX10_advance_14 (fun x26 => ?_)
  refine g_icmpge (pc := 17) (tgt := 38) dX10_advance_17 rfl ?_ ?_
  · refine g_aload_n (pc := 20) dX10_advance_20 0 rfl ?_
    refine g_getr (pc := 21) cl10 (Nat.le_of_ble_eq_true rfl) fk352 (fun _ _ _ => rfl) dX10_advance_21 (fun x27 => ?_)
    refine g_iload_n (pc := 24) dX10_advance_24 2 rfl ?_
    refine g_aload_n (pc := 25) dX10_advance_25 0 rfl ?_
    refine g_iload_n (pc := 26) dX10_advance_26 2 rfl ?_
    refine g_iload_n (pc := 27) dX10_advance_27 1 rfl ?_
    refine g_gS (fun hs => ?_)
    refine g_bRi (pc := 28) (c_V cl10 hs (p_X10_lostAt hl x1 x24 x4 h12) y_X10_lostAt tw970 dX10_advance_28 rfl (st := [.int x24, .ref (e_z E + x27)]) rfl (Nat.le_of_ble_eq_true rfl) (Nat.le_of_ble_eq_true rfl) (Nat.le_of_ble_eq_true rfl)) (fun x28 h13 => ?_)
    refine g_iast (pc := 31) dX10_advance_31 (fun h14 => ?_)
    refine g_iincN (pc := 32) dX10_advance_32 2 rfl ci_1 (Nat.le_of_ble_eq_true rfl) (fun x29 => ?_)
    refine g_lvr (lv' := [(3, .int x29), (0, .ref (e_z E + x1)), (2, .int x4)]) rfl ?_
    refine g_goto (pc := 35) (tgt := 9) dX10_advance_35 rfl ?_
    refine g_lv [1, 2, 0] rfl ?_
    exact hr9 x29 h14
  · refine g_lv [0, 1] rfl ?_
    exact hk38 h12
theorem p_X10_advance {l : Launch} {E : aE} (hl : l.stackTraces = false) (x1 : Nat) (x2 : Int32) (h0 : aH) : MO (fun (v : Int32) => .inl (some (.int v))) l E yX10_advance (.code yX10_advance cX10_advance 5 (some .int)) 4 101 [.ref (e_z E + x1), .int x2] h0 (m_X10_advance x1 x2 h0) := g_met hl (by decide +kernel) (Nat.le_of_ble_eq_true rfl) (b_X10_advance hl _ _ x1 x2 h0)
theorem dX11_init_0 : decode cX11_init 0 = .ok (.aload_n 0, 1) := by decide +kernel
theorem dX11_init_1 : decode cX11_init 1 = .ok (.invokespecial 3, 3) := by decide +kernel
theorem dX11_init_4 : decode cX11_init 4 = .ok (.aload_n 0, 1) := by decide +kernel
theorem dX11_init_5 : decode cX11_init 5 = .ok (.sipush 1200, 3) := by decide +kernel
theorem dX11_init_8 : decode cX11_init 8 = .ok (.newarray .byte, 2) := by decide +kernel
theorem dX11_init_10 : decode cX11_init 10 = .ok (.putfield 9, 3) := by decide +kernel
theorem dX11_init_13 : decode cX11_init 13 = .ok (.aload_n 0, 1) := by decide +kernel
theorem dX11_init_14 : decode cX11_init 14 = .ok (.new 13, 3) := by decide +kernel
theorem dX11_init_17 : decode cX11_init 17 = .ok (.dup, 1) := by decide +kernel
theorem dX11_init_18 : decode cX11_init 18 = .ok (.aload_n 0, 1) := by decide +kernel
theorem dX11_init_19 : decode cX11_init 19 = .ok (.getfield 9, 3) := by decide +kernel
theorem dX11_init_22 : decode cX11_init 22 = .ok (.invokespecial 15, 3) := by decide +kernel
theorem dX11_init_25 : decode cX11_init 25 = .ok (.putfield 18, 3) := by decide +kernel
theorem dX11_init_28 : decode cX11_init 28 = .ok (.aload_n 0, 1) := by decide +kernel
theorem dX11_init_29 : decode cX11_init 29 = .ok (.new 22, 3) := by decide +kernel
theorem dX11_init_32 : decode cX11_init 32 = .ok (.dup, 1) := by decide +kernel
theorem dX11_init_33 : decode cX11_init 33 = .ok (.invokespecial 24, 3) := by decide +kernel
theorem dX11_init_36 : decode cX11_init 36 = .ok (.putfield 25, 3) := by decide +kernel
theorem dX11_init_39 : decode cX11_init 39 = .ok (.aload_n 0, 1) := by decide +kernel
theorem dX11_init_40 : decode cX11_init 40 = .ok (.new 22, 3) := by decide +kernel
theorem dX11_init_43 : decode cX11_init 43 = .ok (.dup, 1) := by decide +kernel
theorem dX11_init_44 : decode cX11_init 44 = .ok (.invokespecial 24, 3) := by decide +kernel
theorem dX11_init_47 : decode cX11_init 47 = .ok (.putfield 29, 3) := by decide +kernel
theorem dX11_init_50 : decode cX11_init 50 = .ok (.aload_n 0, 1) := by decide +kernel
theorem dX11_init_51 : decode cX11_init 51 = .ok (.new 32, 3) := by decide +kernel
theorem dX11_init_54 : decode cX11_init 54 = .ok (.dup, 1) := by decide +kernel
theorem dX11_init_55 : decode cX11_init 55 = .ok (.aload_n 0, 1) := by decide +kernel
theorem dX11_init_56 : decode cX11_init 56 = .ok (.getfield 25, 3) := by decide +kernel
theorem dX11_init_59 : decode cX11_init 59 = .ok (.invokespecial 34, 3) := by decide +kernel
theorem dX11_init_62 : decode cX11_init 62 = .ok (.putfield 37, 3) := by decide +kernel
theorem dX11_init_65 : decode cX11_init 65 = .ok (.aload_n 0, 1) := by decide +kernel
theorem dX11_init_66 : decode cX11_init 66 = .ok (.new 32, 3) := by decide +kernel
theorem dX11_init_69 : decode cX11_init 69 = .ok (.dup, 1) := by decide +kernel
theorem dX11_init_70 : decode cX11_init 70 = .ok (.aload_n 0, 1) := by decide +kernel
theorem dX11_init_71 : decode cX11_init 71 = .ok (.getfield 25, 3) := by decide +kernel
theorem dX11_init_74 : decode cX11_init 74 = .ok (.invokespecial 34, 3) := by decide +kernel
theorem dX11_init_77 : decode cX11_init 77 = .ok (.putfield 41, 3) := by decide +kernel
theorem dX11_init_80 : decode cX11_init 80 = .ok (.aload_n 0, 1) := by decide +kernel
theorem dX11_init_81 : decode cX11_init 81 = .ok (.new 44, 3) := by decide +kernel
theorem dX11_init_84 : decode cX11_init 84 = .ok (.dup, 1) := by decide +kernel
theorem dX11_init_85 : decode cX11_init 85 = .ok (.aload_n 0, 1) := by decide +kernel
theorem dX11_init_86 : decode cX11_init 86 = .ok (.getfield 37, 3) := by decide +kernel
theorem dX11_init_89 : decode cX11_init 89 = .ok (.invokespecial 46, 3) := by decide +kernel
theorem dX11_init_92 : decode cX11_init 92 = .ok (.putfield 49, 3) := by decide +kernel
theorem dX11_init_95 : decode cX11_init 95 = .ok (.aload_n 0, 1) := by decide +kernel
theorem dX11_init_96 : decode cX11_init 96 = .ok (.new 53, 3) := by decide +kernel
theorem dX11_init_99 : decode cX11_init 99 = .ok (.dup, 1) := by decide +kernel
theorem dX11_init_100 : decode cX11_init 100 = .ok (.aload_n 0, 1) := by decide +kernel
theorem dX11_init_101 : decode cX11_init 101 = .ok (.getfield 25, 3) := by decide +kernel
theorem dX11_init_104 : decode cX11_init 104 = .ok (.invokespecial 55, 3) := by decide +kernel
theorem dX11_init_107 : decode cX11_init 107 = .ok (.putfield 56, 3) := by decide +kernel
theorem dX11_init_110 : decode cX11_init 110 = .ok (.aload_n 0, 1) := by decide +kernel
theorem dX11_init_111 : decode cX11_init 111 = .ok (.getfield 25, 3) := by decide +kernel
theorem dX11_init_114 : decode cX11_init 114 = .ok (.getfield 60, 3) := by decide +kernel
theorem dX11_init_117 : decode cX11_init 117 = .ok (.bipush 22, 2) := by decide +kernel
theorem dX11_init_119 : decode cX11_init 119 = .ok (.bipush 6, 2) := by decide +kernel
theorem dX11_init_121 : decode cX11_init 121 = .ok (.iconst 5, 1) := by decide +kernel
theorem dX11_init_122 : decode cX11_init 122 = .ok (.sipush 240, 3) := by decide +kernel
theorem dX11_init_125 : decode cX11_init 125 = .ok (.invokevirtual 64, 3) := by decide +kernel
theorem dX11_init_128 : decode cX11_init 128 = .ok (.return_, 1) := by decide +kernel
abbrev M_X11_init : aM := (yX11_init.cls, cX11_init, 1, none, [], yX11_init.name == "<init>")
abbrev J_X11_init (l : Launch) (E : aE) (n0 m0 : Nat) := GG (fun (_ : Unit) => .inl none) l E M_X11_init 4 93 n0 m0
theorem b_X11_init {l : Launch} {E : aE} (hl : l.stackTraces = false) (n0 m0 : Nat) (x1 : Nat) (h0 : aH) : J_X11_init l E n0 m0 0 [(0, .ref (e_z E + x1))] [] h0 (m_X11_init x1 h0) := by
  unfold m_X11_init
  refine g_aload_n (pc := 0) dX11_init_0 0 rfl ?_
  refine g_objInit (pc := 1) tw34 tw35 tw36 (Nat.le_of_ble_eq_true rfl) (Nat.le_of_ble_eq_true rfl) dX11_init_1 ?_
  refine g_aload_n (pc := 4) dX11_init_4 0 rfl ?_
  refine g_sipush (pc := 5) dX11_init_5 cs_1200 ?_
  refine g_newa (pc := 8) (t := 1) (n := 1200) (x := (1200 : Int32)) at_1 tw79 (by decide +kernel) (Nat.le_of_ble_eq_true rfl) dX11_init_8 (fun x2 h1 => ?_)
  refine g_putr (pc := 10) cl11 (Nat.le_of_ble_eq_true rfl) (Or.inr ⟨rfl, rfl, by decide +kernel, tw490⟩) (fun _ _ _ => rfl) (fun _ => ⟨rfl, rfl⟩) dX11_init_10 (fun h2 => ?_)
  refine g_aload_n (pc := 13) dX11_init_13 0 rfl ?_
  refine g_newo (pc := 14) (c := 9) (n := 11) cl9 tw37 tw38 tw2 dX11_init_14 (fun x3 h3 => ?_)
  refine g_dup (pc := 17) rfl dX11_init_17 ?_
  refine g_aload_n (pc := 18) dX11_init_18 0 rfl ?_
  refine g_getr (pc := 19) cl11 (Nat.le_of_ble_eq_true rfl) fk490 (fun _ _ _ => rfl) dX11_init_19 (fun x4 => ?_)
  refine g_bRv (pc := 22) (c_IN (p_X9_init hl x3 x4 h3) y_X9_init tw39 dX11_init_22 rfl (st := [.ref (e_z E + x3), .ref (e_z E + x1)]) rfl (Nat.le_of_ble_eq_true rfl) (Nat.le_of_ble_eq_true rfl) (Nat.le_of_ble_eq_true rfl)) (fun _ h4 => ?_)
  refine g_putr (pc := 25) cl11 (Nat.le_of_ble_eq_true rfl) (Or.inr ⟨rfl, rfl, by decide +kernel, tw492⟩) (fun _ _ _ => rfl) (fun _ => ⟨rfl, rfl⟩) dX11_init_25 (fun h5 => ?_)
  refine g_aload_n (pc := 28) dX11_init_28 0 rfl ?_
  refine g_newo (pc := 29) (c := 8) (n := 12) cl8 tw80 tw81 tw3 dX11_init_29 (fun x5 h6 => ?_)
  refine g_dup (pc := 32) rfl dX11_init_32 ?_
  refine g_bRv (pc := 33) (c_IN (p_X8_init hl x5 h6) y_X8_init tw82 dX11_init_33 rfl (st := [.ref (e_z E + x5), .ref (e_z E + x1)]) rfl (Nat.le_of_ble_eq_true rfl) (Nat.le_of_ble_eq_true rfl) (Nat.le_of_ble_eq_true rfl)) (fun _ h7 => ?_)
  refine g_putr (pc := 36) cl11 (Nat.le_of_ble_eq_true rfl) (Or.inl ⟨rfl, fk493⟩) (fun _ _ _ => rfl) (fun _ => ⟨rfl, rfl⟩) dX11_init_36 (fun h8 => ?_)
  refine g_aload_n (pc := 39) dX11_init_39 0 rfl ?_
  refine g_newo (pc := 40) (c := 8) (n := 12) cl8 tw80 tw81 tw3 dX11_init_40 (fun x6 h9 => ?_)
  refine g_dup (pc := 43) rfl dX11_init_43 ?_
  refine g_bRv (pc := 44) (c_IN (p_X8_init hl x6 h9) y_X8_init tw82 dX11_init_44 rfl (st := [.ref (e_z E + x6), .ref (e_z E + x1)]) rfl (Nat.le_of_ble_eq_true rfl) (Nat.le_of_ble_eq_true rfl) (Nat.le_of_ble_eq_true rfl)) (fun _ h10 => ?_)
  refine g_putr (pc := 47) cl11 (Nat.le_of_ble_eq_true rfl) (Or.inl ⟨rfl, fk494⟩) (fun _ _ _ => rfl) (fun _ => ⟨rfl, rfl⟩) dX11_init_47 (fun h11 => ?_)
  refine g_aload_n (pc := 50) dX11_init_50 0 rfl ?_
  refine g_newo (pc := 51) (c := 10) (n := 16) cl10 tw301 tw302 tw9 dX11_init_51 (fun x7 h12 => ?_)
  refine g_dup (pc := 54) rfl dX11_init_54 ?_
  refine g_aload_n (pc := 55) dX11_init_55 0 rfl ?_
  refine g_getr (pc := 56) cl11 (Nat.le_of_ble_eq_true rfl) fk493 (fun _ _ _ => rfl) dX11_init_56 (fun x8 => ?_)
  refine g_bRv (pc := 59) (c_IN (p_X10_init hl x7 x8 h12) y_X10_init tw303 dX11_init_59 rfl (st := [.ref (e_z E + x7), .ref (e_z E + x1)]) rfl (Nat.le_of_ble_eq_true rfl) (Nat.le_of_ble_eq_true rfl) (Nat.le_of_ble_eq_true rfl)) (fun _ h13 => ?_)
  refine g_putr (pc := 62) cl11 (Nat.le_of_ble_eq_true rfl) (Or.inr ⟨rfl, rfl, by decide +kernel, tw495⟩) (fun _ _ _ => rfl) (fun _ => ⟨rfl, rfl⟩) dX11_init_62 (fun h14 => ?_)
  refine g_aload_n (pc := 65) dX11_init_65 0 rfl ?_
  refine g_newo (pc := 66) (c := 10) (n := 16) cl10 tw301 tw302 tw9 dX11_init_66 (fun x9 h15 => ?_)
  refine g_dup (pc := 69) rfl dX11_init_69 ?_
  refine g_aload_n (pc := 70) dX11_init_70 0 rfl ?_
  refine g_getr (pc := 71) cl11 (Nat.le_of_ble_eq_true rfl) fk493 (fun _ _ _ => rfl) dX11_init_71 (fun x10 => ?_)
  refine g_bRv (pc := 74) (c_IN (p_X10_init hl x9 x10 h15) y_X10_init tw303 dX11_init_74 rfl (st := [.ref (e_z E + x9), .ref (e_z E + x1)]) rfl (Nat.le_of_ble_eq_true rfl) (Nat.le_of_ble_eq_true rfl) (Nat.le_of_ble_eq_true rfl)) (fun _ h16 => ?_)
  refine g_putr (pc := 77) cl11 (Nat.le_of_ble_eq_true rfl) (Or.inr ⟨rfl, rfl, by decide +kernel, tw496⟩) (fun _ _ _ => rfl) (fun _ => ⟨rfl, rfl⟩) dX11_init_77 (fun h17 => ?_)
  refine g_aload_n (pc := 80) dX11_init_80 0 rfl ?_
  refine g_newo (pc := 81) (c := 4) (n := 11) cl4 tw415 tw416 tw11 dX11_init_81 (fun x11 h18 => ?_)
  refine g_dup (pc := 84) rfl dX11_init_84 ?_
  refine g_aload_n (pc := 85) dX11_init_85 0 rfl ?_
  refine g_getr (pc := 86) cl11 (Nat.le_of_ble_eq_true rfl) fk495 (fun _ _ _ => rfl) dX11_init_86 (fun x12 => ?_)
  refine g_bRv (pc := 89) (c_IN (p_X4_init hl x11 x12 h18) y_X4_init tw417 dX11_init_89 rfl (st := [.ref (e_z E + x11), .ref (e_z E + x1)]) rfl (Nat.le_of_ble_eq_true rfl) (Nat.le_of_ble_eq_true rfl) (Nat.le_of_ble_eq_true rfl)) (fun _ h19 => ?_)
  refine g_putr (pc := 92) cl11 (Nat.le_of_ble_eq_true rfl) (Or.inr ⟨rfl, rfl, by decide +kernel, tw497⟩) (fun _ _ _ => rfl) (fun _ => ⟨rfl, rfl⟩) dX11_init_92 (fun h20 => ?_)
  refine g_aload_n (pc := 95) dX11_init_95 0 rfl ?_
  refine g_newo (pc := 96) (c := 2) (n := 4) cl2 tw460 tw461 tw12 dX11_init_96 (fun x13 h21 => ?_)
  refine g_dup (pc := 99) rfl dX11_init_99 ?_
  refine g_aload_n (pc := 100) dX11_init_100 0 rfl ?_
  refine g_getr (pc := 101) cl11 (Nat.le_of_ble_eq_true rfl) fk493 (fun _ _ _ => rfl) dX11_init_101 (fun x14 => ?_)
  refine g_bRv (pc := 104) (c_IN (p_X2_init hl x13 x14 h21) y_X2_init tw462 dX11_init_104 rfl (st := [.ref (e_z E + x13), .ref (e_z E + x1)]) rfl (Nat.le_of_ble_eq_true rfl) (Nat.le_of_ble_eq_true rfl) (Nat.le_of_ble_eq_true rfl)) (fun _ h22 => ?_)
  refine g_putr (pc := 107) cl11 (Nat.le_of_ble_eq_true rfl) (Or.inr ⟨rfl, rfl, by decide +kernel, tw498⟩) (fun _ _ _ => rfl) (fun _ => ⟨rfl, rfl⟩) dX11_init_107 (fun h23 => ?_)
  refine g_aload_n (pc := 110) dX11_init_110 0 rfl ?_
  refine g_getr (pc := 111) cl11 (Nat.le_of_ble_eq_true rfl) fk493 (fun _ _ _ => rfl) dX11_init_111 (fun x15 => ?_)
  refine g_getr (pc := 114) cl8 (Nat.le_of_ble_eq_true rfl) fk235 (fun _ _ _ => rfl) dX11_init_114 (fun x16 => ?_)
  refine g_bipush (pc := 117) dX11_init_117 cb_22 ?_
  refine g_bipush (pc := 119) dX11_init_119 cb_6 ?_
  refine g_iconst (pc := 121) dX11_init_121 ci_5 ?_
  refine g_sipush (pc := 122) dX11_init_122 cs_240 ?_
  refine g_gS (fun hs => ?_)
  refine g_bRv (pc := 125) (c_VN cl5 hs (p_X5_set hl x16 (22 : Int32) (6 : Int32) (5 : Int32) (240 : Int32) h23) y_X5_set tw486 dX11_init_125 rfl (st := []) rfl (Nat.le_of_ble_eq_true rfl) (Nat.le_of_ble_eq_true rfl) (Nat.le_of_ble_eq_true rfl)) (fun _ h24 => ?_)
  exact g_ret (pc := 128) rfl isRet_v dX11_init_128 rfl
theorem p_X11_init {l : Launch} {E : aE} (hl : l.stackTraces = false) (x1 : Nat) (h0 : aH) : MO (fun (_ : Unit) => .inl none) l E yX11_init (.code yX11_init cX11_init 1 none) 4 93 [.ref (e_z E + x1)] h0 (m_X11_init x1 h0) := g_met hl (by decide +kernel) (Nat.le_of_ble_eq_true rfl) (b_X11_init hl _ _ x1 h0)
theorem dX11_putFourBytes_0 : decode cX11_putFourBytes 0 = .ok (.bipush 24, 2) := by decide +kernel
theorem dX11_putFourBytes_2 : decode cX11_putFourBytes 2 = .ok (.istore_n 2, 1) := by decide +kernel
theorem dX11_putFourBytes_3 : decode cX11_putFourBytes 3 = .ok (.iload_n 2, 1) := by decide +kernel
theorem dX11_putFourBytes_4 : decode cX11_putFourBytes 4 = .ok (.ifCond .lt 42, 3) := by decide +kernel
theorem dX11_putFourBytes_7 : decode cX11_putFourBytes 7 = .ok (.aload_n 0, 1) := by decide +kernel
theorem dX11_putFourBytes_8 : decode cX11_putFourBytes 8 = .ok (.getfield 70, 3) := by decide +kernel
theorem dX11_putFourBytes_11 : decode cX11_putFourBytes 11 = .ok (.sipush 1200, 3) := by decide +kernel
theorem dX11_putFourBytes_14 : decode cX11_putFourBytes 14 = .ok (.if_icmp .ge 26, 3) := by decide +kernel
theorem dX11_putFourBytes_17 : decode cX11_putFourBytes 17 = .ok (.aload_n 0, 1) := by decide +kernel
theorem dX11_putFourBytes_18 : decode cX11_putFourBytes 18 = .ok (.getfield 9, 3) := by decide +kernel
theorem dX11_putFourBytes_21 : decode cX11_putFourBytes 21 = .ok (.aload_n 0, 1) := by decide +kernel
theorem dX11_putFourBytes_22 : decode cX11_putFourBytes 22 = .ok (.getfield 70, 3) := by decide +kernel
theorem dX11_putFourBytes_25 : decode cX11_putFourBytes 25 = .ok (.iload_n 1, 1) := by decide +kernel
theorem dX11_putFourBytes_26 : decode cX11_putFourBytes 26 = .ok (.iload_n 2, 1) := by decide +kernel
theorem dX11_putFourBytes_27 : decode cX11_putFourBytes 27 = .ok (.ishr, 1) := by decide +kernel
theorem dX11_putFourBytes_28 : decode cX11_putFourBytes 28 = .ok (.i2b, 1) := by decide +kernel
theorem dX11_putFourBytes_29 : decode cX11_putFourBytes 29 = .ok (.bastore, 1) := by decide +kernel
theorem dX11_putFourBytes_30 : decode cX11_putFourBytes 30 = .ok (.aload_n 0, 1) := by decide +kernel
theorem dX11_putFourBytes_31 : decode cX11_putFourBytes 31 = .ok (.dup, 1) := by decide +kernel
theorem dX11_putFourBytes_32 : decode cX11_putFourBytes 32 = .ok (.getfield 70, 3) := by decide +kernel
theorem dX11_putFourBytes_35 : decode cX11_putFourBytes 35 = .ok (.iconst 1, 1) := by decide +kernel
theorem dX11_putFourBytes_36 : decode cX11_putFourBytes 36 = .ok (.iadd, 1) := by decide +kernel
theorem dX11_putFourBytes_37 : decode cX11_putFourBytes 37 = .ok (.putfield 70, 3) := by decide +kernel
theorem dX11_putFourBytes_40 : decode cX11_putFourBytes 40 = .ok (.iinc 2 (-8), 3) := by decide +kernel
theorem dX11_putFourBytes_43 : decode cX11_putFourBytes 43 = .ok (.goto (-40), 3) := by decide +kernel
theorem dX11_putFourBytes_46 : decode cX11_putFourBytes 46 = .ok (.return_, 1) := by decide +kernel
abbrev M_X11_putFourBytes : aM := (yX11_putFourBytes.cls, cX11_putFourBytes, 3, none, [], yX11_putFourBytes.name == "<init>")
abbrev J_X11_putFourBytes (l : Launch) (E : aE) (n0 m0 : Nat) := GG (fun (_ : Unit) => .inl none) l E M_X11_putFourBytes 0 0 n0 m0
theorem b_X11_putFourBytes {l : Launch} {E : aE} (hl : l.stackTraces = false) (n0 m0 : Nat) (x1 : Nat) (x2 : Int32) (h0 : aH) : J_X11_putFourBytes l E n0 m0 0 [(0, .ref (e_z E + x1)), (1, .int x2)] [] h0 (m_X11_putFourBytes x1 x2 h0) := by
  unfold m_X11_putFourBytes
  refine g_bipush (pc := 0) dX11_putFourBytes_0 cb_24 ?_
  refine g_istore_n (pc := 2) (lv' := [(2, .int (24 : Int32)), (0, .ref (e_z E + x1)), (1, .int x2)]) dX11_putFourBytes_2 (Nat.le_of_ble_eq_true rfl) rfl ?_
  refine g_join (fun k => ∀ (h1 : aH), J_X11_putFourBytes l E n0 m0 46 [] [] h1 (k h1)) (fun h1 => ?_) (fun k46 hk46 => ?_)
  · exact g_ret (pc := 46) rfl isRet_v dX11_putFourBytes_46 rfl
  refine g_lv [1, 2, 0] rfl ?_
  refine g_loop1 (F := (m_X11_putFourBytes_L3 x1 x2 k46)) (fun x3 => [(0, .ref (e_z E + x1)), (1, .int x2), (2, .int x3)]) (fun r3 hr3 x3 h2 => ?_) _ _ _
  unfold m_X11_putFourBytes_L3
  refine g_iload_n (pc := 3) dX11_putFourBytes_3 2 rfl ?_
  refine g_iflt (pc := 4) (tgt := 46) dX11_putFourBytes_4 rfl ?_ ?_
  · refine g_lv [] rfl ?_
    exact hk46 h2
  · refine g_aload_n (pc := 7) dX11_putFourBytes_7 0 rfl ?_
    refine g_geti (pc := 8) cl11 (Nat.le_of_ble_eq_true rfl) fk491 (fun _ _ _ => rfl) dX11_putFourBytes_8 (fun x4 => ?_)
    refine g_sipush (pc := 11) dX11_putFourBytes_11 cs_1200 ?_
    refine g_join (fun k => ∀ (h3 : aH), J_X11_putFourBytes l E n0 m0 40 [(0, .ref (e_z E + x1)), (1, .int x2), (2, .int x3)] [] h3 (k h3)) (fun h3 => ?_) (fun k40 hk40 => ?_)
    · refine g_iincN (pc := 40) dX11_putFourBytes_40 2 rfl ci_m8 (Nat.le_of_ble_eq_true rfl) (fun x5 => ?_)
      refine g_lvr (lv' := [(2, .int x5), (0, .ref (e_z E + x1)), (1, .int x2)]) rfl ?_
      refine g_goto (pc := 43) (tgt := 3) dX11_putFourBytes_43 rfl ?_
      refine g_lv [1, 2, 0] rfl ?_
      exact hr3 x5 h3
    refine g_icmpge (pc := 14) (tgt := 40) dX11_putFourBytes_14 rfl ?_ ?_
    · refine g_aload_n (pc := 17) dX11_putFourBytes_17 0 rfl ?_
      refine g_getr (pc := 18) cl11 (Nat.le_of_ble_eq_true rfl) fk490 (fun _ _ _ => rfl) dX11_putFourBytes_18 (fun x6 => ?_)
      refine g_aload_n (pc := 21) dX11_putFourBytes_21 0 rfl ?_
      refine g_geti (pc := 22) cl11 (Nat.le_of_ble_eq_true rfl) fk491 (fun _ _ _ => rfl) dX11_putFourBytes_22 (fun x7 => ?_)
      refine g_iload_n (pc := 25) dX11_putFourBytes_25 1 rfl ?_
      refine g_iload_n (pc := 26) dX11_putFourBytes_26 2 rfl ?_
      refine g_ishr (pc := 27) dX11_putFourBytes_27 ?_
      refine g_i2b (pc := 28) dX11_putFourBytes_28 ?_
      refine g_bast (pc := 29) dX11_putFourBytes_29 (fun h4 => ?_)
      refine g_aload_n (pc := 30) dX11_putFourBytes_30 0 rfl ?_
      refine g_dup (pc := 31) rfl dX11_putFourBytes_31 ?_
      refine g_geti (pc := 32) cl11 (Nat.le_of_ble_eq_true rfl) fk491 (fun _ _ _ => rfl) dX11_putFourBytes_32 (fun x8 => ?_)
      refine g_iconst (pc := 35) dX11_putFourBytes_35 ci_1 ?_
      refine g_iadd (pc := 36) dX11_putFourBytes_36 ?_
      refine g_puti (pc := 37) cl11 (Nat.le_of_ble_eq_true rfl) (Or.inl ⟨rfl, fk491⟩) (fun _ _ _ => rfl) (fun _ => ⟨rfl, rfl⟩) dX11_putFourBytes_37 (fun h5 => ?_)
      exact hk40 h5
    · exact hk40 h2
theorem p_X11_putFourBytes {l : Launch} {E : aE} (hl : l.stackTraces = false) (x1 : Nat) (x2 : Int32) (h0 : aH) : MO (fun (_ : Unit) => .inl none) l E yX11_putFourBytes (.code yX11_putFourBytes cX11_putFourBytes 3 none) 0 0 [.ref (e_z E + x1), .int x2] h0 (m_X11_putFourBytes x1 x2 h0) := g_met hl (by decide +kernel) (Nat.le_of_ble_eq_true rfl) (b_X11_putFourBytes hl _ _ x1 x2 h0)
theorem dX11_append_0 : decode cX11_append 0 = .ok (.aload_n 0, 1) := by decide +kernel
theorem dX11_append_1 : decode cX11_append 1 = .ok (.getfield 70, 3) := by decide +kernel
theorem dX11_append_4 : decode cX11_append 4 = .ok (.bipush 20, 2) := by decide +kernel
theorem dX11_append_6 : decode cX11_append 6 = .ok (.iadd, 1) := by decide +kernel
theorem dX11_append_7 : decode cX11_append 7 = .ok (.sipush 1200, 3) := by decide +kernel
theorem dX11_append_10 : decode cX11_append 10 = .ok (.if_icmp .le 13, 3) := by decide +kernel
theorem dX11_append_13 : decode cX11_append 13 = .ok (.new 74, 3) := by decide +kernel
theorem dX11_append_16 : decode cX11_append 16 = .ok (.dup, 1) := by decide +kernel
theorem dX11_append_17 : decode cX11_append 17 = .ok (.ldc 76, 2) := by decide +kernel
theorem dX11_append_19 : decode cX11_append 19 = .ok (.invokespecial 78, 3) := by decide +kernel
theorem dX11_append_22 : decode cX11_append 22 = .ok (.athrow, 1) := by decide +kernel
theorem dX11_append_23 : decode cX11_append 23 = .ok (.aload_n 0, 1) := by decide +kernel
theorem dX11_append_24 : decode cX11_append 24 = .ok (.iload_n 1, 1) := by decide +kernel
theorem dX11_append_25 : decode cX11_append 25 = .ok (.invokevirtual 81, 3) := by decide +kernel
theorem dX11_append_28 : decode cX11_append 28 = .ok (.aload_n 0, 1) := by decide +kernel
theorem dX11_append_29 : decode cX11_append 29 = .ok (.iload_n 2, 1) := by decide +kernel
theorem dX11_append_30 : decode cX11_append 30 = .ok (.invokevirtual 81, 3) := by decide +kernel
theorem dX11_append_33 : decode cX11_append 33 = .ok (.aload_n 0, 1) := by decide +kernel
theorem dX11_append_34 : decode cX11_append 34 = .ok (.iload_n 3, 1) := by decide +kernel
theorem dX11_append_35 : decode cX11_append 35 = .ok (.invokevirtual 81, 3) := by decide +kernel
theorem dX11_append_38 : decode cX11_append 38 = .ok (.aload_n 0, 1) := by decide +kernel
theorem dX11_append_39 : decode cX11_append 39 = .ok (.iload 4, 2) := by decide +kernel
theorem dX11_append_41 : decode cX11_append 41 = .ok (.invokevirtual 81, 3) := by decide +kernel
theorem dX11_append_44 : decode cX11_append 44 = .ok (.aload_n 0, 1) := by decide +kernel
theorem dX11_append_45 : decode cX11_append 45 = .ok (.iload 5, 2) := by decide +kernel
theorem dX11_append_47 : decode cX11_append 47 = .ok (.invokevirtual 81, 3) := by decide +kernel
theorem dX11_append_50 : decode cX11_append 50 = .ok (.aload_n 0, 1) := by decide +kernel
theorem dX11_append_51 : decode cX11_append 51 = .ok (.getfield 70, 3) := by decide +kernel
theorem dX11_append_54 : decode cX11_append 54 = .ok (.ireturn, 1) := by decide +kernel
abbrev M_X11_append : aM := (yX11_append.cls, cX11_append, 6, (some .int), [], yX11_append.name == "<init>")
abbrev J_X11_append (l : Launch) (E : aE) (n0 m0 : Nat) := GG (eT (fun (v : Int32) => some (.int v))) l E M_X11_append 6 90 n0 m0
theorem b_X11_append {l : Launch} {E : aE} (hl : l.stackTraces = false) (n0 m0 : Nat) (x1 : Nat) (x2 : Int32) (x3 : Int32) (x4 : Int32) (x5 : Int32) (x6 : Int32) (h0 : aH) : J_X11_append l E n0 m0 0 [(0, .ref (e_z E + x1)), (1, .int x2), (2, .int x3), (3, .int x4), (4, .int x5), (5, .int x6)] [] h0 (m_X11_append x1 x2 x3 x4 x5 x6 h0) := by
  unfold m_X11_append
  refine g_aload_n (pc := 0) dX11_append_0 0 rfl ?_
  refine g_geti (pc := 1) cl11 (Nat.le_of_ble_eq_true rfl) fk491 (fun _ _ _ => rfl) dX11_append_1 (fun x7 => ?_)
  refine g_bipush (pc := 4) dX11_append_4 cb_20 ?_
  refine g_iadd (pc := 6) dX11_append_6 ?_
  refine g_sipush (pc := 7) dX11_append_7 cs_1200 ?_
  refine g_icmple (pc := 10) (tgt := 23) dX11_append_10 rfl ?_ ?_
  · refine g_aload_n (pc := 23) dX11_append_23 0 rfl ?_
    refine g_iload_n (pc := 24) dX11_append_24 1 rfl ?_
    refine g_gS (fun hs => ?_)
    refine g_bRv (pc := 25) (c_V cl11 hs (p_X11_putFourBytes hl x1 x2 h0) y_X11_putFourBytes tw610 dX11_append_25 rfl (st := []) rfl (Nat.le_of_ble_eq_true rfl) (Nat.le_of_ble_eq_true rfl) (Nat.le_of_ble_eq_true rfl)) (fun _ h1 => ?_)
    refine g_aload_n (pc := 28) dX11_append_28 0 rfl ?_
    refine g_iload_n (pc := 29) dX11_append_29 2 rfl ?_
    refine g_gS (fun hs => ?_)
    refine g_bRv (pc := 30) (c_V cl11 hs (p_X11_putFourBytes hl x1 x3 h1) y_X11_putFourBytes tw610 dX11_append_30 rfl (st := []) rfl (Nat.le_of_ble_eq_true rfl) (Nat.le_of_ble_eq_true rfl) (Nat.le_of_ble_eq_true rfl)) (fun _ h2 => ?_)
    refine g_aload_n (pc := 33) dX11_append_33 0 rfl ?_
    refine g_iload_n (pc := 34) dX11_append_34 3 rfl ?_
    refine g_gS (fun hs => ?_)
    refine g_bRv (pc := 35) (c_V cl11 hs (p_X11_putFourBytes hl x1 x4 h2) y_X11_putFourBytes tw610 dX11_append_35 rfl (st := []) rfl (Nat.le_of_ble_eq_true rfl) (Nat.le_of_ble_eq_true rfl) (Nat.le_of_ble_eq_true rfl)) (fun _ h3 => ?_)
    refine g_aload_n (pc := 38) dX11_append_38 0 rfl ?_
    refine g_iload (pc := 39) dX11_append_39 4 rfl ?_
    refine g_gS (fun hs => ?_)
    refine g_bRv (pc := 41) (c_V cl11 hs (p_X11_putFourBytes hl x1 x5 h3) y_X11_putFourBytes tw610 dX11_append_41 rfl (st := []) rfl (Nat.le_of_ble_eq_true rfl) (Nat.le_of_ble_eq_true rfl) (Nat.le_of_ble_eq_true rfl)) (fun _ h4 => ?_)
    refine g_aload_n (pc := 44) dX11_append_44 0 rfl ?_
    refine g_iload (pc := 45) dX11_append_45 5 rfl ?_
    refine g_gS (fun hs => ?_)
    refine g_bRv (pc := 47) (c_V cl11 hs (p_X11_putFourBytes hl x1 x6 h4) y_X11_putFourBytes tw610 dX11_append_47 rfl (st := []) rfl (Nat.le_of_ble_eq_true rfl) (Nat.le_of_ble_eq_true rfl) (Nat.le_of_ble_eq_true rfl)) (fun _ h5 => ?_)
    refine g_aload_n (pc := 50) dX11_append_50 0 rfl ?_
    refine g_geti (pc := 51) cl11 (Nat.le_of_ble_eq_true rfl) fk491 (fun _ _ _ => rfl) dX11_append_51 (fun x8 => ?_)
    exact g_ret (pc := 54) rfl (isRet_i _) dX11_append_54 rfl
  · exact g_throwE (pc := 13) rfl exf_ISE exn tx_0 ⟨tw542, rfl, rfl⟩ exi_ISE (xw_of exw_ISE ⟨tw585, rfl, rfl⟩) dX11_append_13 dX11_append_16 dX11_append_17 dX11_append_19 dX11_append_22 (Nat.le_of_ble_eq_true rfl) (Nat.le_of_ble_eq_true rfl)
theorem p_X11_append {l : Launch} {E : aE} (hl : l.stackTraces = false) (x1 : Nat) (x2 : Int32) (x3 : Int32) (x4 : Int32) (x5 : Int32) (x6 : Int32) (h0 : aH) : MO (eT (fun (v : Int32) => some (.int v))) l E yX11_append (.code yX11_append cX11_append 6 (some .int)) 6 90 [.ref (e_z E + x1), .int x2, .int x3, .int x4, .int x5, .int x6] h0 (m_X11_append x1 x2 x3 x4 x5 x6 h0) := g_met hl (by decide +kernel) (Nat.le_of_ble_eq_true rfl) (b_X11_append hl _ _ x1 x2 x3 x4 x5 x6 h0)
theorem dX11_truncate_0 : decode cX11_truncate 0 = .ok (.iload_n 1, 1) := by decide +kernel
theorem dX11_truncate_1 : decode cX11_truncate 1 = .ok (.ifCond .lt 11, 3) := by decide +kernel
theorem dX11_truncate_4 : decode cX11_truncate 4 = .ok (.iload_n 1, 1) := by decide +kernel
theorem dX11_truncate_5 : decode cX11_truncate 5 = .ok (.aload_n 0, 1) := by decide +kernel
theorem dX11_truncate_6 : decode cX11_truncate 6 = .ok (.getfield 70, 3) := by decide +kernel
theorem dX11_truncate_9 : decode cX11_truncate 9 = .ok (.if_icmp .le 13, 3) := by decide +kernel
theorem dX11_truncate_12 : decode cX11_truncate 12 = .ok (.new 85, 3) := by decide +kernel
theorem dX11_truncate_15 : decode cX11_truncate 15 = .ok (.dup, 1) := by decide +kernel
theorem dX11_truncate_16 : decode cX11_truncate 16 = .ok (.ldc 87, 2) := by decide +kernel
theorem dX11_truncate_18 : decode cX11_truncate 18 = .ok (.invokespecial 89, 3) := by decide +kernel
theorem dX11_truncate_21 : decode cX11_truncate 21 = .ok (.athrow, 1) := by decide +kernel
theorem dX11_truncate_22 : decode cX11_truncate 22 = .ok (.aload_n 0, 1) := by decide +kernel
theorem dX11_truncate_23 : decode cX11_truncate 23 = .ok (.iload_n 1, 1) := by decide +kernel
theorem dX11_truncate_24 : decode cX11_truncate 24 = .ok (.putfield 70, 3) := by decide +kernel
theorem dX11_truncate_27 : decode cX11_truncate 27 = .ok (.aload_n 0, 1) := by decide +kernel
theorem dX11_truncate_28 : decode cX11_truncate 28 = .ok (.getfield 70, 3) := by decide +kernel
theorem dX11_truncate_31 : decode cX11_truncate 31 = .ok (.ireturn, 1) := by decide +kernel
abbrev M_X11_truncate : aM := (yX11_truncate.cls, cX11_truncate, 2, (some .int), [], yX11_truncate.name == "<init>")
abbrev J_X11_truncate (l : Launch) (E : aE) (n0 m0 : Nat) := GG (eT (fun (v : Int32) => some (.int v))) l E M_X11_truncate 6 90 n0 m0
theorem b_X11_truncate {l : Launch} {E : aE} (hl : l.stackTraces = false) (n0 m0 : Nat) (x1 : Nat) (x2 : Int32) (h0 : aH) : J_X11_truncate l E n0 m0 0 [(0, .ref (e_z E + x1)), (1, .int x2)] [] h0 (m_X11_truncate x1 x2 h0) := by
  unfold m_X11_truncate
  refine g_iload_n (pc := 0) dX11_truncate_0 1 rfl ?_
  refine g_join (fun k => ∀ (h1 : aH), J_X11_truncate l E n0 m0 12 [] [] h1 (k h1)) (fun h1 => ?_) (fun k12 hk12 => ?_)
  · exact g_throwE (pc := 12) rfl exf_IOB exn tx_1 ⟨tw622, rfl, rfl⟩ exi_IOB (xw_of exw_IOB ⟨tw632, rfl, rfl⟩) dX11_truncate_12 dX11_truncate_15 dX11_truncate_16 dX11_truncate_18 dX11_truncate_21 (Nat.le_of_ble_eq_true rfl) (Nat.le_of_ble_eq_true rfl)
  refine g_iflt (pc := 1) (tgt := 12) dX11_truncate_1 rfl ?_ ?_
  · refine g_lv [] rfl ?_
    exact hk12 h0
  · refine g_iload_n (pc := 4) dX11_truncate_4 1 rfl ?_
    refine g_aload_n (pc := 5) dX11_truncate_5 0 rfl ?_
    refine g_geti (pc := 6) cl11 (Nat.le_of_ble_eq_true rfl) fk491 (fun _ _ _ => rfl) dX11_truncate_6 (fun x3 => ?_)
    refine g_icmple (pc := 9) (tgt := 22) dX11_truncate_9 rfl ?_ ?_
    · refine g_aload_n (pc := 22) dX11_truncate_22 0 rfl ?_
      refine g_iload_n (pc := 23) dX11_truncate_23 1 rfl ?_
      refine g_puti (pc := 24) cl11 (Nat.le_of_ble_eq_true rfl) (Or.inl ⟨rfl, fk491⟩) (fun _ _ _ => rfl) (fun _ => ⟨rfl, rfl⟩) dX11_truncate_24 (fun h2 => ?_)
      refine g_aload_n (pc := 27) dX11_truncate_27 0 rfl ?_
      refine g_geti (pc := 28) cl11 (Nat.le_of_ble_eq_true rfl) fk491 (fun _ _ _ => rfl) dX11_truncate_28 (fun x4 => ?_)
      exact g_ret (pc := 31) rfl (isRet_i _) dX11_truncate_31 rfl
    · refine g_lv [] rfl ?_
      exact hk12 h0
theorem p_X11_truncate {l : Launch} {E : aE} (hl : l.stackTraces = false) (x1 : Nat) (x2 : Int32) (h0 : aH) : MO (eT (fun (v : Int32) => some (.int v))) l E yX11_truncate (.code yX11_truncate cX11_truncate 2 (some .int)) 6 90 [.ref (e_z E + x1), .int x2] h0 (m_X11_truncate x1 x2 h0) := g_met hl (by decide +kernel) (Nat.le_of_ble_eq_true rfl) (b_X11_truncate hl _ _ x1 x2 h0)
theorem dX11_load_0 : decode cX11_load 0 = .ok (.aload_n 0, 1) := by decide +kernel
theorem dX11_load_1 : decode cX11_load 1 = .ok (.getfield 18, 3) := by decide +kernel
theorem dX11_load_4 : decode cX11_load 4 = .ok (.aload_n 0, 1) := by decide +kernel
theorem dX11_load_5 : decode cX11_load 5 = .ok (.getfield 70, 3) := by decide +kernel
theorem dX11_load_8 : decode cX11_load 8 = .ok (.aload_n 0, 1) := by decide +kernel
theorem dX11_load_9 : decode cX11_load 9 = .ok (.getfield 29, 3) := by decide +kernel
theorem dX11_load_12 : decode cX11_load 12 = .ok (.invokevirtual 90, 3) := by decide +kernel
theorem dX11_load_15 : decode cX11_load 15 = .ok (.istore_n 1, 1) := by decide +kernel
theorem dX11_load_16 : decode cX11_load 16 = .ok (.aload_n 0, 1) := by decide +kernel
theorem dX11_load_17 : decode cX11_load 17 = .ok (.iconst 0, 1) := by decide +kernel
theorem dX11_load_18 : decode cX11_load 18 = .ok (.putfield 70, 3) := by decide +kernel
theorem dX11_load_21 : decode cX11_load 21 = .ok (.iload_n 1, 1) := by decide +kernel
theorem dX11_load_22 : decode cX11_load 22 = .ok (.ifCond .ne 13, 3) := by decide +kernel
theorem dX11_load_25 : decode cX11_load 25 = .ok (.new 94, 3) := by decide +kernel
theorem dX11_load_28 : decode cX11_load 28 = .ok (.dup, 1) := by decide +kernel
theorem dX11_load_29 : decode cX11_load 29 = .ok (.ldc 96, 2) := by decide +kernel
theorem dX11_load_31 : decode cX11_load 31 = .ok (.invokespecial 98, 3) := by decide +kernel
theorem dX11_load_34 : decode cX11_load 34 = .ok (.athrow, 1) := by decide +kernel
theorem dX11_load_35 : decode cX11_load 35 = .ok (.aload_n 0, 1) := by decide +kernel
theorem dX11_load_36 : decode cX11_load 36 = .ok (.getfield 25, 3) := by decide +kernel
theorem dX11_load_39 : decode cX11_load 39 = .ok (.astore_n 2, 1) := by decide +kernel
theorem dX11_load_40 : decode cX11_load 40 = .ok (.aload_n 0, 1) := by decide +kernel
theorem dX11_load_41 : decode cX11_load 41 = .ok (.aload_n 0, 1) := by decide +kernel
theorem dX11_load_42 : decode cX11_load 42 = .ok (.getfield 29, 3) := by decide +kernel
theorem dX11_load_45 : decode cX11_load 45 = .ok (.putfield 25, 3) := by decide +kernel
theorem dX11_load_48 : decode cX11_load 48 = .ok (.aload_n 0, 1) := by decide +kernel
theorem dX11_load_49 : decode cX11_load 49 = .ok (.aload_n 2, 1) := by decide +kernel
theorem dX11_load_50 : decode cX11_load 50 = .ok (.putfield 29, 3) := by decide +kernel
theorem dX11_load_53 : decode cX11_load 53 = .ok (.aload_n 0, 1) := by decide +kernel
theorem dX11_load_54 : decode cX11_load 54 = .ok (.getfield 37, 3) := by decide +kernel
theorem dX11_load_57 : decode cX11_load 57 = .ok (.aload_n 0, 1) := by decide +kernel
theorem dX11_load_58 : decode cX11_load 58 = .ok (.getfield 25, 3) := by decide +kernel
theorem dX11_load_61 : decode cX11_load 61 = .ok (.invokevirtual 99, 3) := by decide +kernel
theorem dX11_load_64 : decode cX11_load 64 = .ok (.aload_n 0, 1) := by decide +kernel
theorem dX11_load_65 : decode cX11_load 65 = .ok (.getfield 56, 3) := by decide +kernel
theorem dX11_load_68 : decode cX11_load 68 = .ok (.invokevirtual 102, 3) := by decide +kernel
theorem dX11_load_71 : decode cX11_load 71 = .ok (.aload_n 0, 1) := by decide +kernel
theorem dX11_load_72 : decode cX11_load 72 = .ok (.getfield 25, 3) := by decide +kernel
theorem dX11_load_75 : decode cX11_load 75 = .ok (.getfield 105, 3) := by decide +kernel
theorem dX11_load_78 : decode cX11_load 78 = .ok (.ireturn, 1) := by decide +kernel
abbrev M_X11_load : aM := (yX11_load.cls, cX11_load, 3, (some .int), [], yX11_load.name == "<init>")
abbrev J_X11_load (l : Launch) (E : aE) (n0 m0 : Nat) := GG (eT (fun (v : Int32) => some (.int v))) l E M_X11_load 11 312 n0 m0
theorem b_X11_load {l : Launch} {E : aE} (hl : l.stackTraces = false) (n0 m0 : Nat) (x1 : Nat) (h0 : aH) : J_X11_load l E n0 m0 0 [(0, .ref (e_z E + x1))] [] h0 (m_X11_load x1 h0) := by
  unfold m_X11_load
  refine g_aload_n (pc := 0) dX11_load_0 0 rfl ?_
  refine g_getr (pc := 1) cl11 (Nat.le_of_ble_eq_true rfl) fk492 (fun _ _ _ => rfl) dX11_load_1 (fun x2 => ?_)
  refine g_aload_n (pc := 4) dX11_load_4 0 rfl ?_
  refine g_geti (pc := 5) cl11 (Nat.le_of_ble_eq_true rfl) fk491 (fun _ _ _ => rfl) dX11_load_5 (fun x3 => ?_)
  refine g_aload_n (pc := 8) dX11_load_8 0 rfl ?_
  refine g_getr (pc := 9) cl11 (Nat.le_of_ble_eq_true rfl) fk494 (fun _ _ _ => rfl) dX11_load_9 (fun x4 => ?_)
  refine g_gS (fun hs => ?_)
  refine g_bRi (pc := 12) (c_VN cl9 hs (p_X9_reads hl x2 x3 x4 h0) y_X9_reads tw646 dX11_load_12 rfl (st := []) rfl (Nat.le_of_ble_eq_true rfl) (Nat.le_of_ble_eq_true rfl) (Nat.le_of_ble_eq_true rfl)) (fun x5 h1 => ?_)
  refine g_istore_n (pc := 15) (lv' := [(1, .int x5), (0, .ref (e_z E + x1))]) dX11_load_15 (Nat.le_of_ble_eq_true rfl) rfl ?_
  refine g_aload_n (pc := 16) dX11_load_16 1 rfl ?_
  refine g_iconst (pc := 17) dX11_load_17 ci_0 ?_
  refine g_puti (pc := 18) cl11 (Nat.le_of_ble_eq_true rfl) (Or.inl ⟨rfl, fk491⟩) (fun _ _ _ => rfl) (fun _ => ⟨rfl, rfl⟩) dX11_load_18 (fun h2 => ?_)
  refine g_iload_n (pc := 21) dX11_load_21 0 rfl ?_
  refine g_ifne (pc := 22) (tgt := 35) dX11_load_22 rfl ?_ ?_
  · exact g_throwE (pc := 25) rfl exf_IAE exn tx_2 ⟨tw830, rfl, rfl⟩ exi_IAE (xw_of exw_IAE ⟨tw840, rfl, rfl⟩) dX11_load_25 dX11_load_28 dX11_load_29 dX11_load_31 dX11_load_34 (Nat.le_of_ble_eq_true rfl) (Nat.le_of_ble_eq_true rfl)
  · refine g_aload_n (pc := 35) dX11_load_35 1 rfl ?_
    refine g_getr (pc := 36) cl11 (Nat.le_of_ble_eq_true rfl) fk493 (fun _ _ _ => rfl) dX11_load_36 (fun x6 => ?_)
    refine g_astore_n (pc := 39) (lv' := [(2, .ref (e_z E + x6)), (1, .int x5), (0, .ref (e_z E + x1))]) dX11_load_39 (Nat.le_of_ble_eq_true rfl) rfl ?_
    refine g_aload_n (pc := 40) dX11_load_40 2 rfl ?_
    refine g_aload_n (pc := 41) dX11_load_41 2 rfl ?_
    refine g_getr (pc := 42) cl11 (Nat.le_of_ble_eq_true rfl) fk494 (fun _ _ _ => rfl) dX11_load_42 (fun x7 => ?_)
    refine g_putr (pc := 45) cl11 (Nat.le_of_ble_eq_true rfl) (Or.inl ⟨rfl, fk493⟩) (fun _ _ _ => rfl) (fun _ => ⟨rfl, rfl⟩) dX11_load_45 (fun h3 => ?_)
    refine g_aload_n (pc := 48) dX11_load_48 2 rfl ?_
    refine g_aload_n (pc := 49) dX11_load_49 0 rfl ?_
    refine g_putr (pc := 50) cl11 (Nat.le_of_ble_eq_true rfl) (Or.inl ⟨rfl, fk494⟩) (fun _ _ _ => rfl) (fun _ => ⟨rfl, rfl⟩) dX11_load_50 (fun h4 => ?_)
    refine g_aload_n (pc := 53) dX11_load_53 2 rfl ?_
    refine g_getr (pc := 54) cl11 (Nat.le_of_ble_eq_true rfl) fk495 (fun _ _ _ => rfl) dX11_load_54 (fun x8 => ?_)
    refine g_aload_n (pc := 57) dX11_load_57 2 rfl ?_
    refine g_getr (pc := 58) cl11 (Nat.le_of_ble_eq_true rfl) fk493 (fun _ _ _ => rfl) dX11_load_58 (fun x9 => ?_)
    refine g_gS (fun hs => ?_)
    refine g_bRv (pc := 61) (c_VN cl10 hs (p_X10_begin hl x8 x9 h4) y_X10_begin tw846 dX11_load_61 rfl (st := []) rfl (Nat.le_of_ble_eq_true rfl) (Nat.le_of_ble_eq_true rfl) (Nat.le_of_ble_eq_true rfl)) (fun _ h5 => ?_)
    refine g_aload_n (pc := 64) dX11_load_64 2 rfl ?_
    refine g_getr (pc := 65) cl11 (Nat.le_of_ble_eq_true rfl) fk498 (fun _ _ _ => rfl) dX11_load_65 (fun x10 => ?_)
    refine g_gS (fun hs => ?_)
    refine g_bRv (pc := 68) (c_VN cl2 hs (p_X2_clear hl x10 h5) y_X2_clear tw857 dX11_load_68 rfl (st := []) rfl (Nat.le_of_ble_eq_true rfl) (Nat.le_of_ble_eq_true rfl) (Nat.le_of_ble_eq_true rfl)) (fun _ h6 => ?_)
    refine g_aload_n (pc := 71) dX11_load_71 2 rfl ?_
    refine g_getr (pc := 72) cl11 (Nat.le_of_ble_eq_true rfl) fk493 (fun _ _ _ => rfl) dX11_load_72 (fun x11 => ?_)
    refine g_geti (pc := 75) cl8 (Nat.le_of_ble_eq_true rfl) fk240 (fun _ _ _ => rfl) dX11_load_75 (fun x12 => ?_)
    exact g_ret (pc := 78) rfl (isRet_i _) dX11_load_78 rfl
theorem p_X11_load {l : Launch} {E : aE} (hl : l.stackTraces = false) (x1 : Nat) (h0 : aH) : MO (eT (fun (v : Int32) => some (.int v))) l E yX11_load (.code yX11_load cX11_load 3 (some .int)) 11 312 [.ref (e_z E + x1)] h0 (m_X11_load x1 h0) := g_met hl (by decide +kernel) (Nat.le_of_ble_eq_true rfl) (b_X11_load hl _ _ x1 h0)
theorem dX11_errorCode_0 : decode cX11_errorCode 0 = .ok (.aload_n 0, 1) := by decide +kernel
theorem dX11_errorCode_1 : decode cX11_errorCode 1 = .ok (.getfield 18, 3) := by decide +kernel
theorem dX11_errorCode_4 : decode cX11_errorCode 4 = .ok (.getfield 108, 3) := by decide +kernel
theorem dX11_errorCode_7 : decode cX11_errorCode 7 = .ok (.ireturn, 1) := by decide +kernel
abbrev M_X11_errorCode : aM := (yX11_errorCode.cls, cX11_errorCode, 1, (some .int), [], yX11_errorCode.name == "<init>")
abbrev J_X11_errorCode (l : Launch) (E : aE) (n0 m0 : Nat) := GG (fun (v : Int32) => .inl (some (.int v))) l E M_X11_errorCode 0 0 n0 m0
theorem b_X11_errorCode {l : Launch} {E : aE} (hl : l.stackTraces = false) (n0 m0 : Nat) (x1 : Nat) (h0 : aH) : J_X11_errorCode l E n0 m0 0 [(0, .ref (e_z E + x1))] [] h0 (m_X11_errorCode x1 h0) := by
  unfold m_X11_errorCode
  refine g_aload_n (pc := 0) dX11_errorCode_0 0 rfl ?_
  refine g_getr (pc := 1) cl11 (Nat.le_of_ble_eq_true rfl) fk492 (fun _ _ _ => rfl) dX11_errorCode_1 (fun x2 => ?_)
  refine g_geti (pc := 4) cl9 (Nat.le_of_ble_eq_true rfl) fk53 (fun _ _ _ => rfl) dX11_errorCode_4 (fun x3 => ?_)
  exact g_ret (pc := 7) rfl (isRet_i _) dX11_errorCode_7 rfl
theorem p_X11_errorCode {l : Launch} {E : aE} (hl : l.stackTraces = false) (x1 : Nat) (h0 : aH) : MO (fun (v : Int32) => .inl (some (.int v))) l E yX11_errorCode (.code yX11_errorCode cX11_errorCode 1 (some .int)) 0 0 [.ref (e_z E + x1)] h0 (m_X11_errorCode x1 h0) := g_met hl (by decide +kernel) (Nat.le_of_ble_eq_true rfl) (b_X11_errorCode hl _ _ x1 h0)
theorem dX11_errorPosition_0 : decode cX11_errorPosition 0 = .ok (.aload_n 0, 1) := by decide +kernel
theorem dX11_errorPosition_1 : decode cX11_errorPosition 1 = .ok (.getfield 18, 3) := by decide +kernel
theorem dX11_errorPosition_4 : decode cX11_errorPosition 4 = .ok (.getfield 111, 3) := by decide +kernel
theorem dX11_errorPosition_7 : decode cX11_errorPosition 7 = .ok (.ireturn, 1) := by decide +kernel
abbrev M_X11_errorPosition : aM := (yX11_errorPosition.cls, cX11_errorPosition, 1, (some .int), [], yX11_errorPosition.name == "<init>")
abbrev J_X11_errorPosition (l : Launch) (E : aE) (n0 m0 : Nat) := GG (fun (v : Int32) => .inl (some (.int v))) l E M_X11_errorPosition 0 0 n0 m0
theorem b_X11_errorPosition {l : Launch} {E : aE} (hl : l.stackTraces = false) (n0 m0 : Nat) (x1 : Nat) (h0 : aH) : J_X11_errorPosition l E n0 m0 0 [(0, .ref (e_z E + x1))] [] h0 (m_X11_errorPosition x1 h0) := by
  unfold m_X11_errorPosition
  refine g_aload_n (pc := 0) dX11_errorPosition_0 0 rfl ?_
  refine g_getr (pc := 1) cl11 (Nat.le_of_ble_eq_true rfl) fk492 (fun _ _ _ => rfl) dX11_errorPosition_1 (fun x2 => ?_)
  refine g_geti (pc := 4) cl9 (Nat.le_of_ble_eq_true rfl) fk55 (fun _ _ _ => rfl) dX11_errorPosition_4 (fun x3 => ?_)
  exact g_ret (pc := 7) rfl (isRet_i _) dX11_errorPosition_7 rfl
theorem p_X11_errorPosition {l : Launch} {E : aE} (hl : l.stackTraces = false) (x1 : Nat) (h0 : aH) : MO (fun (v : Int32) => .inl (some (.int v))) l E yX11_errorPosition (.code yX11_errorPosition cX11_errorPosition 1 (some .int)) 0 0 [.ref (e_z E + x1)] h0 (m_X11_errorPosition x1 h0) := g_met hl (by decide +kernel) (Nat.le_of_ble_eq_true rfl) (b_X11_errorPosition hl _ _ x1 h0)
theorem dX11_find_0 : decode cX11_find 0 = .ok (.aload_n 0, 1) := by decide +kernel
theorem dX11_find_1 : decode cX11_find 1 = .ok (.getfield 18, 3) := by decide +kernel
theorem dX11_find_4 : decode cX11_find 4 = .ok (.aload_n 0, 1) := by decide +kernel
theorem dX11_find_5 : decode cX11_find 5 = .ok (.getfield 70, 3) := by decide +kernel
theorem dX11_find_8 : decode cX11_find 8 = .ok (.invokevirtual 114, 3) := by decide +kernel
theorem dX11_find_11 : decode cX11_find 11 = .ok (.lstore_n 2, 1) := by decide +kernel
theorem dX11_find_12 : decode cX11_find 12 = .ok (.aload_n 0, 1) := by decide +kernel
theorem dX11_find_13 : decode cX11_find 13 = .ok (.iconst 0, 1) := by decide +kernel
theorem dX11_find_14 : decode cX11_find 14 = .ok (.putfield 70, 3) := by decide +kernel
theorem dX11_find_17 : decode cX11_find 17 = .ok (.iload_n 1, 1) := by decide +kernel
theorem dX11_find_18 : decode cX11_find 18 = .ok (.ifCond .lt 8, 3) := by decide +kernel
theorem dX11_find_21 : decode cX11_find 21 = .ok (.iload_n 1, 1) := by decide +kernel
theorem dX11_find_22 : decode cX11_find 22 = .ok (.iconst 3, 1) := by decide +kernel
theorem dX11_find_23 : decode cX11_find 23 = .ok (.if_icmp .le 13, 3) := by decide +kernel
theorem dX11_find_26 : decode cX11_find 26 = .ok (.new 94, 3) := by decide +kernel
theorem dX11_find_29 : decode cX11_find 29 = .ok (.dup, 1) := by decide +kernel
theorem dX11_find_30 : decode cX11_find 30 = .ok (.ldc 118, 2) := by decide +kernel
theorem dX11_find_32 : decode cX11_find 32 = .ok (.invokespecial 98, 3) := by decide +kernel
theorem dX11_find_35 : decode cX11_find 35 = .ok (.athrow, 1) := by decide +kernel
theorem dX11_find_36 : decode cX11_find 36 = .ok (.lload_n 2, 1) := by decide +kernel
theorem dX11_find_37 : decode cX11_find 37 = .ok (.ldc2_w 120, 3) := by decide +kernel
theorem dX11_find_40 : decode cX11_find 40 = .ok (.lcmp, 1) := by decide +kernel
theorem dX11_find_41 : decode cX11_find 41 = .ok (.ifCond .ne 7, 3) := by decide +kernel
theorem dX11_find_44 : decode cX11_find 44 = .ok (.iconst (-1), 1) := by decide +kernel
theorem dX11_find_45 : decode cX11_find 45 = .ok (.goto 12, 3) := by decide +kernel
theorem dX11_find_48 : decode cX11_find 48 = .ok (.aload_n 0, 1) := by decide +kernel
theorem dX11_find_49 : decode cX11_find 49 = .ok (.getfield 25, 3) := by decide +kernel
theorem dX11_find_52 : decode cX11_find 52 = .ok (.iload_n 1, 1) := by decide +kernel
theorem dX11_find_53 : decode cX11_find 53 = .ok (.lload_n 2, 1) := by decide +kernel
theorem dX11_find_54 : decode cX11_find 54 = .ok (.invokevirtual 122, 3) := by decide +kernel
theorem dX11_find_57 : decode cX11_find 57 = .ok (.istore 4, 2) := by decide +kernel
theorem dX11_find_59 : decode cX11_find 59 = .ok (.iload 4, 2) := by decide +kernel
theorem dX11_find_61 : decode cX11_find 61 = .ok (.iconst (-1), 1) := by decide +kernel
theorem dX11_find_62 : decode cX11_find 62 = .ok (.if_icmp .ne 13, 3) := by decide +kernel
theorem dX11_find_65 : decode cX11_find 65 = .ok (.new 126, 3) := by decide +kernel
theorem dX11_find_68 : decode cX11_find 68 = .ok (.dup, 1) := by decide +kernel
theorem dX11_find_69 : decode cX11_find 69 = .ok (.ldc 128, 2) := by decide +kernel
theorem dX11_find_71 : decode cX11_find 71 = .ok (.invokespecial 130, 3) := by decide +kernel
theorem dX11_find_74 : decode cX11_find 74 = .ok (.athrow, 1) := by decide +kernel
theorem dX11_find_75 : decode cX11_find 75 = .ok (.iload 4, 2) := by decide +kernel
theorem dX11_find_77 : decode cX11_find 77 = .ok (.ireturn, 1) := by decide +kernel
abbrev M_X11_find : aM := (yX11_find.cls, cX11_find, 5, (some .int), [], yX11_find.name == "<init>")
abbrev J_X11_find (l : Launch) (E : aE) (n0 m0 : Nat) := GG (eT (fun (v : Int32) => some (.int v))) l E M_X11_find 6 90 n0 m0
theorem b_X11_find {l : Launch} {E : aE} (hl : l.stackTraces = false) (n0 m0 : Nat) (x1 : Nat) (x2 : Int32) (h0 : aH) : J_X11_find l E n0 m0 0 [(0, .ref (e_z E + x1)), (1, .int x2)] [] h0 (m_X11_find x1 x2 h0) := by
  unfold m_X11_find
  refine g_aload_n (pc := 0) dX11_find_0 0 rfl ?_
  refine g_getr (pc := 1) cl11 (Nat.le_of_ble_eq_true rfl) fk492 (fun _ _ _ => rfl) dX11_find_1 (fun x3 => ?_)
  refine g_aload_n (pc := 4) dX11_find_4 0 rfl ?_
  refine g_geti (pc := 5) cl11 (Nat.le_of_ble_eq_true rfl) fk491 (fun _ _ _ => rfl) dX11_find_5 (fun x4 => ?_)
  refine g_gS (fun hs => ?_)
  refine g_bRl (pc := 8) (c_VN cl9 hs (p_X9_wholeAsName hl x3 x4 h0) y_X9_wholeAsName tw869 dX11_find_8 rfl (st := []) rfl (Nat.le_of_ble_eq_true rfl) (Nat.le_of_ble_eq_true rfl) (Nat.le_of_ble_eq_true rfl)) (fun x5 h1 => ?_)
  refine g_lstore_n (pc := 11) (lv' := [(2, .long x5), (0, .ref (e_z E + x1)), (1, .int x2)]) dX11_find_11 (Nat.le_of_ble_eq_true rfl) rfl ?_
  refine g_aload_n (pc := 12) dX11_find_12 1 rfl ?_
  refine g_iconst (pc := 13) dX11_find_13 ci_0 ?_
  refine g_puti (pc := 14) cl11 (Nat.le_of_ble_eq_true rfl) (Or.inl ⟨rfl, fk491⟩) (fun _ _ _ => rfl) (fun _ => ⟨rfl, rfl⟩) dX11_find_14 (fun h2 => ?_)
  refine g_iload_n (pc := 17) dX11_find_17 2 rfl ?_
  refine g_join (fun k => ∀ (h3 : aH), J_X11_find l E n0 m0 26 [] [] h3 (k h3)) (fun h3 => ?_) (fun k26 hk26 => ?_)
  · exact g_throwE (pc := 26) rfl exf_IAE exn tx_3 ⟨tw830, rfl, rfl⟩ exi_IAE (xw_of exw_IAE ⟨tw840, rfl, rfl⟩) dX11_find_26 dX11_find_29 dX11_find_30 dX11_find_32 dX11_find_35 (Nat.le_of_ble_eq_true rfl) (Nat.le_of_ble_eq_true rfl)
  refine g_iflt (pc := 18) (tgt := 26) dX11_find_18 rfl ?_ ?_
  · refine g_lv [] rfl ?_
    exact hk26 h2
  · refine g_iload_n (pc := 21) dX11_find_21 2 rfl ?_
    refine g_iconst (pc := 22) dX11_find_22 ci_3 ?_
    refine g_icmple (pc := 23) (tgt := 36) dX11_find_23 rfl ?_ ?_
    · refine g_lload_n (pc := 36) dX11_find_36 0 rfl ?_
      refine g_ldc2 (pc := 37) tw874 dX11_find_37 ?_
      refine g_lcmp (pc := 40) dX11_find_40 ?_
      refine g_join (fun k => ∀ (x6 : Int32) (h4 : aH), J_X11_find l E n0 m0 57 [] [.int x6] h4 (k x6 h4)) (fun x6 h4 => ?_) (fun k57 hk57 => ?_)
      · refine g_istore (pc := 57) (lv' := [(4, .int x6)]) dX11_find_57 (Nat.le_of_ble_eq_true rfl) rfl ?_
        refine g_iload (pc := 59) dX11_find_59 0 rfl ?_
        refine g_iconst (pc := 61) dX11_find_61 ci_m1 ?_
        refine g_icmpne (pc := 62) (tgt := 75) dX11_find_62 rfl ?_ ?_
        · exact g_throwX (pc := 65) exd0_NSE exd1_NSE exd2_NSE exd3_NSE rfl exf_NSE exn tx_4 ⟨tw876, rfl, rfl⟩ exi_NSE (xx_of exw_NSE ⟨tw886, rfl, rfl⟩) dX11_find_65 dX11_find_68 dX11_find_69 dX11_find_71 dX11_find_74 (Nat.le_of_ble_eq_true rfl) (Nat.le_of_ble_eq_true rfl)
        · refine g_iload (pc := 75) dX11_find_75 0 rfl ?_
          exact g_ret (pc := 77) rfl (isRet_i _) dX11_find_77 rfl
      refine g_ifne (pc := 41) (tgt := 48) dX11_find_41 rfl ?_ ?_
      · refine g_iconst (pc := 44) dX11_find_44 ci_m1 ?_
        refine g_goto (pc := 45) (tgt := 57) dX11_find_45 rfl ?_
        refine g_lv [] rfl ?_
        exact hk57 (-1 : Int32) h2
      · refine g_aload_n (pc := 48) dX11_find_48 1 rfl ?_
        refine g_getr (pc := 49) cl11 (Nat.le_of_ble_eq_true rfl) fk493 (fun _ _ _ => rfl) dX11_find_49 (fun x7 => ?_)
        refine g_iload_n (pc := 52) dX11_find_52 2 rfl ?_
        refine g_lload_n (pc := 53) dX11_find_53 0 rfl ?_
        refine g_gS (fun hs => ?_)
        refine g_bRi (pc := 54) (c_VN cl8 hs (p_X8_numberOf hl x7 x2 x5 h2) y_X8_numberOf tw875 dX11_find_54 rfl (st := []) rfl (Nat.le_of_ble_eq_true rfl) (Nat.le_of_ble_eq_true rfl) (Nat.le_of_ble_eq_true rfl)) (fun x8 h5 => ?_)
        refine g_lv [] rfl ?_
        exact hk57 x8 h5
    · refine g_lv [] rfl ?_
      exact hk26 h2
theorem p_X11_find {l : Launch} {E : aE} (hl : l.stackTraces = false) (x1 : Nat) (x2 : Int32) (h0 : aH) : MO (eT (fun (v : Int32) => some (.int v))) l E yX11_find (.code yX11_find cX11_find 5 (some .int)) 6 90 [.ref (e_z E + x1), .int x2] h0 (m_X11_find x1 x2 h0) := g_met hl (by decide +kernel) (Nat.le_of_ble_eq_true rfl) (b_X11_find hl _ _ x1 x2 h0)
theorem dX11_count_0 : decode cX11_count 0 = .ok (.iload_n 1, 1) := by decide +kernel
theorem dX11_count_1 : decode cX11_count 1 = .ok (.ifCond .lt 8, 3) := by decide +kernel
theorem dX11_count_4 : decode cX11_count 4 = .ok (.iload_n 1, 1) := by decide +kernel
theorem dX11_count_5 : decode cX11_count 5 = .ok (.iconst 4, 1) := by decide +kernel
theorem dX11_count_6 : decode cX11_count 6 = .ok (.if_icmp .le 13, 3) := by decide +kernel
theorem dX11_count_9 : decode cX11_count 9 = .ok (.new 94, 3) := by decide +kernel
theorem dX11_count_12 : decode cX11_count 12 = .ok (.dup, 1) := by decide +kernel
theorem dX11_count_13 : decode cX11_count 13 = .ok (.ldc 118, 2) := by decide +kernel
theorem dX11_count_15 : decode cX11_count 15 = .ok (.invokespecial 98, 3) := by decide +kernel
theorem dX11_count_18 : decode cX11_count 18 = .ok (.athrow, 1) := by decide +kernel
theorem dX11_count_19 : decode cX11_count 19 = .ok (.iload_n 1, 1) := by decide +kernel
theorem dX11_count_20 : decode cX11_count 20 = .ok (.iconst 4, 1) := by decide +kernel
theorem dX11_count_21 : decode cX11_count 21 = .ok (.if_icmp .ne 16, 3) := by decide +kernel
theorem dX11_count_24 : decode cX11_count 24 = .ok (.aload_n 0, 1) := by decide +kernel
theorem dX11_count_25 : decode cX11_count 25 = .ok (.getfield 37, 3) := by decide +kernel
theorem dX11_count_28 : decode cX11_count 28 = .ok (.getfield 131, 3) := by decide +kernel
theorem dX11_count_31 : decode cX11_count 31 = .ok (.getfield 135, 3) := by decide +kernel
theorem dX11_count_34 : decode cX11_count 34 = .ok (.goto 11, 3) := by decide +kernel
theorem dX11_count_37 : decode cX11_count 37 = .ok (.aload_n 0, 1) := by decide +kernel
theorem dX11_count_38 : decode cX11_count 38 = .ok (.getfield 25, 3) := by decide +kernel
theorem dX11_count_41 : decode cX11_count 41 = .ok (.iload_n 1, 1) := by decide +kernel
theorem dX11_count_42 : decode cX11_count 42 = .ok (.invokevirtual 140, 3) := by decide +kernel
theorem dX11_count_45 : decode cX11_count 45 = .ok (.ireturn, 1) := by decide +kernel
abbrev M_X11_count : aM := (yX11_count.cls, cX11_count, 2, (some .int), [], yX11_count.name == "<init>")
abbrev J_X11_count (l : Launch) (E : aE) (n0 m0 : Nat) := GG (eT (fun (v : Int32) => some (.int v))) l E M_X11_count 6 90 n0 m0
theorem b_X11_count {l : Launch} {E : aE} (hl : l.stackTraces = false) (n0 m0 : Nat) (x1 : Nat) (x2 : Int32) (h0 : aH) : J_X11_count l E n0 m0 0 [(0, .ref (e_z E + x1)), (1, .int x2)] [] h0 (m_X11_count x1 x2 h0) := by
  unfold m_X11_count
  refine g_iload_n (pc := 0) dX11_count_0 1 rfl ?_
  refine g_join (fun k => ∀ (h1 : aH), J_X11_count l E n0 m0 9 [] [] h1 (k h1)) (fun h1 => ?_) (fun k9 hk9 => ?_)
  · exact g_throwE (pc := 9) rfl exf_IAE exn tx_3 ⟨tw830, rfl, rfl⟩ exi_IAE (xw_of exw_IAE ⟨tw840, rfl, rfl⟩) dX11_count_9 dX11_count_12 dX11_count_13 dX11_count_15 dX11_count_18 (Nat.le_of_ble_eq_true rfl) (Nat.le_of_ble_eq_true rfl)
  refine g_iflt (pc := 1) (tgt := 9) dX11_count_1 rfl ?_ ?_
  · refine g_lv [] rfl ?_
    exact hk9 h0
  · refine g_iload_n (pc := 4) dX11_count_4 1 rfl ?_
    refine g_iconst (pc := 5) dX11_count_5 ci_4 ?_
    refine g_icmple (pc := 6) (tgt := 19) dX11_count_6 rfl ?_ ?_
    · refine g_iload_n (pc := 19) dX11_count_19 1 rfl ?_
      refine g_iconst (pc := 20) dX11_count_20 ci_4 ?_
      refine g_join (fun k => ∀ (x3 : Int32) (h2 : aH), J_X11_count l E n0 m0 45 [] [.int x3] h2 (k x3 h2)) (fun x3 h2 => ?_) (fun k45 hk45 => ?_)
      · exact g_ret (pc := 45) rfl (isRet_i _) dX11_count_45 rfl
      refine g_icmpne (pc := 21) (tgt := 37) dX11_count_21 rfl ?_ ?_
      · refine g_aload_n (pc := 24) dX11_count_24 0 rfl ?_
        refine g_getr (pc := 25) cl11 (Nat.le_of_ble_eq_true rfl) fk495 (fun _ _ _ => rfl) dX11_count_25 (fun x4 => ?_)
        refine g_getr (pc := 28) cl10 (Nat.le_of_ble_eq_true rfl) fk379 (fun _ _ _ => rfl) dX11_count_28 (fun x5 => ?_)
        refine g_geti (pc := 31) cl0 (Nat.le_of_ble_eq_true rfl) fk315 (fun _ _ _ => rfl) dX11_count_31 (fun x6 => ?_)
        refine g_goto (pc := 34) (tgt := 45) dX11_count_34 rfl ?_
        refine g_lv [] rfl ?_
        exact hk45 x6 h0
      · refine g_aload_n (pc := 37) dX11_count_37 0 rfl ?_
        refine g_getr (pc := 38) cl11 (Nat.le_of_ble_eq_true rfl) fk493 (fun _ _ _ => rfl) dX11_count_38 (fun x7 => ?_)
        refine g_iload_n (pc := 41) dX11_count_41 1 rfl ?_
        refine g_gS (fun hs => ?_)
        refine g_bRi (pc := 42) (c_VN cl8 hs (p_X8_sizeOf hl x7 x2 h0) y_X8_sizeOf tw899 dX11_count_42 rfl (st := []) rfl (Nat.le_of_ble_eq_true rfl) (Nat.le_of_ble_eq_true rfl) (Nat.le_of_ble_eq_true rfl)) (fun x8 h3 => ?_)
        refine g_lv [] rfl ?_
        exact hk45 x8 h3
    · refine g_lv [] rfl ?_
      exact hk9 h0
theorem p_X11_count {l : Launch} {E : aE} (hl : l.stackTraces = false) (x1 : Nat) (x2 : Int32) (h0 : aH) : MO (eT (fun (v : Int32) => some (.int v))) l E yX11_count (.code yX11_count cX11_count 2 (some .int)) 6 90 [.ref (e_z E + x1), .int x2] h0 (m_X11_count x1 x2 h0) := g_met hl (by decide +kernel) (Nat.le_of_ble_eq_true rfl) (b_X11_count hl _ _ x1 x2 h0)
theorem dX11_time_0 : decode cX11_time 0 = .ok (.aload_n 0, 1) := by decide +kernel
theorem dX11_time_1 : decode cX11_time 1 = .ok (.getfield 37, 3) := by decide +kernel
theorem dX11_time_4 : decode cX11_time 4 = .ok (.getfield 144, 3) := by decide +kernel
theorem dX11_time_7 : decode cX11_time 7 = .ok (.ireturn, 1) := by decide +kernel
abbrev M_X11_time : aM := (yX11_time.cls, cX11_time, 1, (some .int), [], yX11_time.name == "<init>")
abbrev J_X11_time (l : Launch) (E : aE) (n0 m0 : Nat) := GG (fun (v : Int32) => .inl (some (.int v))) l E M_X11_time 0 0 n0 m0
theorem b_X11_time {l : Launch} {E : aE} (hl : l.stackTraces = false) (n0 m0 : Nat) (x1 : Nat) (h0 : aH) : J_X11_time l E n0 m0 0 [(0, .ref (e_z E + x1))] [] h0 (m_X11_time x1 h0) := by
  unfold m_X11_time
  refine g_aload_n (pc := 0) dX11_time_0 0 rfl ?_
  refine g_getr (pc := 1) cl11 (Nat.le_of_ble_eq_true rfl) fk495 (fun _ _ _ => rfl) dX11_time_1 (fun x2 => ?_)
  refine g_geti (pc := 4) cl10 (Nat.le_of_ble_eq_true rfl) fk351 (fun _ _ _ => rfl) dX11_time_4 (fun x3 => ?_)
  exact g_ret (pc := 7) rfl (isRet_i _) dX11_time_7 rfl
theorem p_X11_time {l : Launch} {E : aE} (hl : l.stackTraces = false) (x1 : Nat) (h0 : aH) : MO (fun (v : Int32) => .inl (some (.int v))) l E yX11_time (.code yX11_time cX11_time 1 (some .int)) 0 0 [.ref (e_z E + x1)] h0 (m_X11_time x1 h0) := g_met hl (by decide +kernel) (Nat.le_of_ble_eq_true rfl) (b_X11_time hl _ _ x1 h0)
theorem dX11_nightMinutes_0 : decode cX11_nightMinutes 0 = .ok (.iload_n 1, 1) := by decide +kernel
theorem dX11_nightMinutes_1 : decode cX11_nightMinutes 1 = .ok (.ifCond .lt 15, 3) := by decide +kernel
theorem dX11_nightMinutes_4 : decode cX11_nightMinutes 4 = .ok (.iload_n 2, 1) := by decide +kernel
theorem dX11_nightMinutes_5 : decode cX11_nightMinutes 5 = .ok (.sipush 20160, 3) := by decide +kernel
theorem dX11_nightMinutes_8 : decode cX11_nightMinutes 8 = .ok (.if_icmp .gt 8, 3) := by decide +kernel
theorem dX11_nightMinutes_11 : decode cX11_nightMinutes 11 = .ok (.iload_n 1, 1) := by decide +kernel
theorem dX11_nightMinutes_12 : decode cX11_nightMinutes 12 = .ok (.iload_n 2, 1) := by decide +kernel
theorem dX11_nightMinutes_13 : decode cX11_nightMinutes 13 = .ok (.if_icmp .le 13, 3) := by decide +kernel
theorem dX11_nightMinutes_16 : decode cX11_nightMinutes 16 = .ok (.new 94, 3) := by decide +kernel
theorem dX11_nightMinutes_19 : decode cX11_nightMinutes 19 = .ok (.dup, 1) := by decide +kernel
theorem dX11_nightMinutes_20 : decode cX11_nightMinutes 20 = .ok (.ldc 147, 2) := by decide +kernel
theorem dX11_nightMinutes_22 : decode cX11_nightMinutes 22 = .ok (.invokespecial 98, 3) := by decide +kernel
theorem dX11_nightMinutes_25 : decode cX11_nightMinutes 25 = .ok (.athrow, 1) := by decide +kernel
theorem dX11_nightMinutes_26 : decode cX11_nightMinutes 26 = .ok (.aload_n 0, 1) := by decide +kernel
theorem dX11_nightMinutes_27 : decode cX11_nightMinutes 27 = .ok (.getfield 25, 3) := by decide +kernel
theorem dX11_nightMinutes_30 : decode cX11_nightMinutes 30 = .ok (.getfield 60, 3) := by decide +kernel
theorem dX11_nightMinutes_33 : decode cX11_nightMinutes 33 = .ok (.iload_n 1, 1) := by decide +kernel
theorem dX11_nightMinutes_34 : decode cX11_nightMinutes 34 = .ok (.iload_n 2, 1) := by decide +kernel
theorem dX11_nightMinutes_35 : decode cX11_nightMinutes 35 = .ok (.invokevirtual 149, 3) := by decide +kernel
theorem dX11_nightMinutes_38 : decode cX11_nightMinutes 38 = .ok (.ireturn, 1) := by decide +kernel
abbrev M_X11_nightMinutes : aM := (yX11_nightMinutes.cls, cX11_nightMinutes, 3, (some .int), [], yX11_nightMinutes.name == "<init>")
abbrev J_X11_nightMinutes (l : Launch) (E : aE) (n0 m0 : Nat) := GG (eT (fun (v : Int32) => some (.int v))) l E M_X11_nightMinutes 6 90 n0 m0
theorem b_X11_nightMinutes {l : Launch} {E : aE} (hl : l.stackTraces = false) (n0 m0 : Nat) (x1 : Nat) (x2 : Int32) (x3 : Int32) (h0 : aH) : J_X11_nightMinutes l E n0 m0 0 [(0, .ref (e_z E + x1)), (1, .int x2), (2, .int x3)] [] h0 (m_X11_nightMinutes x1 x2 x3 h0) := by
  unfold m_X11_nightMinutes
  refine g_iload_n (pc := 0) dX11_nightMinutes_0 1 rfl ?_
  refine g_join (fun k => ∀ (h1 : aH), J_X11_nightMinutes l E n0 m0 16 [] [] h1 (k h1)) (fun h1 => ?_) (fun k16 hk16 => ?_)
  · exact g_throwE (pc := 16) rfl exf_IAE exn tx_5 ⟨tw830, rfl, rfl⟩ exi_IAE (xw_of exw_IAE ⟨tw840, rfl, rfl⟩) dX11_nightMinutes_16 dX11_nightMinutes_19 dX11_nightMinutes_20 dX11_nightMinutes_22 dX11_nightMinutes_25 (Nat.le_of_ble_eq_true rfl) (Nat.le_of_ble_eq_true rfl)
  refine g_iflt (pc := 1) (tgt := 16) dX11_nightMinutes_1 rfl ?_ ?_
  · refine g_lv [] rfl ?_
    exact hk16 h0
  · refine g_iload_n (pc := 4) dX11_nightMinutes_4 2 rfl ?_
    refine g_sipush (pc := 5) dX11_nightMinutes_5 cs_20160 ?_
    refine g_icmpgt (pc := 8) (tgt := 16) dX11_nightMinutes_8 rfl ?_ ?_
    · refine g_iload_n (pc := 11) dX11_nightMinutes_11 1 rfl ?_
      refine g_iload_n (pc := 12) dX11_nightMinutes_12 2 rfl ?_
      refine g_icmple (pc := 13) (tgt := 26) dX11_nightMinutes_13 rfl ?_ ?_
      · refine g_aload_n (pc := 26) dX11_nightMinutes_26 0 rfl ?_
        refine g_getr (pc := 27) cl11 (Nat.le_of_ble_eq_true rfl) fk493 (fun _ _ _ => rfl) dX11_nightMinutes_27 (fun x4 => ?_)
        refine g_getr (pc := 30) cl8 (Nat.le_of_ble_eq_true rfl) fk235 (fun _ _ _ => rfl) dX11_nightMinutes_30 (fun x5 => ?_)
        refine g_iload_n (pc := 33) dX11_nightMinutes_33 1 rfl ?_
        refine g_iload_n (pc := 34) dX11_nightMinutes_34 2 rfl ?_
        refine g_gS (fun hs => ?_)
        refine g_bRi (pc := 35) (c_VN cl5 hs (p_X5_minutesIn hl x5 x2 x3 h0) y_X5_minutesIn tw908 dX11_nightMinutes_35 rfl (st := []) rfl (Nat.le_of_ble_eq_true rfl) (Nat.le_of_ble_eq_true rfl) (Nat.le_of_ble_eq_true rfl)) (fun x6 h2 => ?_)
        exact g_ret (pc := 38) rfl (isRet_i _) dX11_nightMinutes_38 rfl
      · refine g_lv [] rfl ?_
        exact hk16 h0
    · refine g_lv [] rfl ?_
      exact hk16 h0
theorem p_X11_nightMinutes {l : Launch} {E : aE} (hl : l.stackTraces = false) (x1 : Nat) (x2 : Int32) (x3 : Int32) (h0 : aH) : MO (eT (fun (v : Int32) => some (.int v))) l E yX11_nightMinutes (.code yX11_nightMinutes cX11_nightMinutes 3 (some .int)) 6 90 [.ref (e_z E + x1), .int x2, .int x3] h0 (m_X11_nightMinutes x1 x2 x3 h0) := g_met hl (by decide +kernel) (Nat.le_of_ble_eq_true rfl) (b_X11_nightMinutes hl _ _ x1 x2 x3 h0)
theorem dX11_needPerson_0 : decode cX11_needPerson 0 = .ok (.iload_n 1, 1) := by decide +kernel
theorem dX11_needPerson_1 : decode cX11_needPerson 1 = .ok (.ifCond .lt 14, 3) := by decide +kernel
theorem dX11_needPerson_4 : decode cX11_needPerson 4 = .ok (.iload_n 1, 1) := by decide +kernel
theorem dX11_needPerson_5 : decode cX11_needPerson 5 = .ok (.aload_n 0, 1) := by decide +kernel
theorem dX11_needPerson_6 : decode cX11_needPerson 6 = .ok (.getfield 25, 3) := by decide +kernel
theorem dX11_needPerson_9 : decode cX11_needPerson 9 = .ok (.getfield 105, 3) := by decide +kernel
theorem dX11_needPerson_12 : decode cX11_needPerson 12 = .ok (.if_icmp .lt 14, 3) := by decide +kernel
theorem dX11_needPerson_15 : decode cX11_needPerson 15 = .ok (.new 85, 3) := by decide +kernel
theorem dX11_needPerson_18 : decode cX11_needPerson 18 = .ok (.dup, 1) := by decide +kernel
theorem dX11_needPerson_19 : decode cX11_needPerson 19 = .ok (.ldc_w 412, 3) := by decide +kernel
theorem dX11_needPerson_22 : decode cX11_needPerson 22 = .ok (.invokespecial 89, 3) := by decide +kernel
theorem dX11_needPerson_25 : decode cX11_needPerson 25 = .ok (.athrow, 1) := by decide +kernel
theorem dX11_needPerson_26 : decode cX11_needPerson 26 = .ok (.return_, 1) := by decide +kernel
abbrev M_X11_needPerson : aM := (yX11_needPerson.cls, cX11_needPerson, 2, none, [], yX11_needPerson.name == "<init>")
abbrev J_X11_needPerson (l : Launch) (E : aE) (n0 m0 : Nat) := GG (eT (fun (_ : Unit) => none)) l E M_X11_needPerson 6 90 n0 m0
theorem b_X11_needPerson {l : Launch} {E : aE} (hl : l.stackTraces = false) (n0 m0 : Nat) (x1 : Nat) (x2 : Int32) (h0 : aH) : J_X11_needPerson l E n0 m0 0 [(0, .ref (e_z E + x1)), (1, .int x2)] [] h0 (m_X11_needPerson x1 x2 h0) := by
  unfold m_X11_needPerson
  refine g_iload_n (pc := 0) dX11_needPerson_0 1 rfl ?_
  refine g_join (fun k => ∀ (h1 : aH), J_X11_needPerson l E n0 m0 15 [] [] h1 (k h1)) (fun h1 => ?_) (fun k15 hk15 => ?_)
  · exact g_throwEW (pc := 15) rfl exf_IOB exn tx_6 ⟨tw622, rfl, rfl⟩ exi_IOB (xw_of exw_IOB ⟨tw632, rfl, rfl⟩) dX11_needPerson_15 dX11_needPerson_18 dX11_needPerson_19 dX11_needPerson_22 dX11_needPerson_25 (Nat.le_of_ble_eq_true rfl) (Nat.le_of_ble_eq_true rfl)
  refine g_iflt (pc := 1) (tgt := 15) dX11_needPerson_1 rfl ?_ ?_
  · refine g_lv [] rfl ?_
    exact hk15 h0
  · refine g_iload_n (pc := 4) dX11_needPerson_4 1 rfl ?_
    refine g_aload_n (pc := 5) dX11_needPerson_5 0 rfl ?_
    refine g_getr (pc := 6) cl11 (Nat.le_of_ble_eq_true rfl) fk493 (fun _ _ _ => rfl) dX11_needPerson_6 (fun x3 => ?_)
    refine g_geti (pc := 9) cl8 (Nat.le_of_ble_eq_true rfl) fk240 (fun _ _ _ => rfl) dX11_needPerson_9 (fun x4 => ?_)
    refine g_icmplt (pc := 12) (tgt := 26) dX11_needPerson_12 rfl ?_ ?_
    · exact g_ret (pc := 26) rfl isRet_v dX11_needPerson_26 rfl
    · refine g_lv [] rfl ?_
      exact hk15 h0
theorem p_X11_needPerson {l : Launch} {E : aE} (hl : l.stackTraces = false) (x1 : Nat) (x2 : Int32) (h0 : aH) : MO (eT (fun (_ : Unit) => none)) l E yX11_needPerson (.code yX11_needPerson cX11_needPerson 2 none) 6 90 [.ref (e_z E + x1), .int x2] h0 (m_X11_needPerson x1 x2 h0) := g_met hl (by decide +kernel) (Nat.le_of_ble_eq_true rfl) (b_X11_needPerson hl _ _ x1 x2 h0)
theorem dX11_outUntil_0 : decode cX11_outUntil 0 = .ok (.aload_n 0, 1) := by decide +kernel
theorem dX11_outUntil_1 : decode cX11_outUntil 1 = .ok (.iload_n 1, 1) := by decide +kernel
theorem dX11_outUntil_2 : decode cX11_outUntil 2 = .ok (.invokevirtual 153, 3) := by decide +kernel
theorem dX11_outUntil_5 : decode cX11_outUntil 5 = .ok (.aload_n 0, 1) := by decide +kernel
theorem dX11_outUntil_6 : decode cX11_outUntil 6 = .ok (.getfield 37, 3) := by decide +kernel
theorem dX11_outUntil_9 : decode cX11_outUntil 9 = .ok (.iload_n 1, 1) := by decide +kernel
theorem dX11_outUntil_10 : decode cX11_outUntil 10 = .ok (.invokevirtual 156, 3) := by decide +kernel
theorem dX11_outUntil_13 : decode cX11_outUntil 13 = .ok (.ifCond .eq 15, 3) := by decide +kernel
theorem dX11_outUntil_16 : decode cX11_outUntil 16 = .ok (.aload_n 0, 1) := by decide +kernel
theorem dX11_outUntil_17 : decode cX11_outUntil 17 = .ok (.getfield 37, 3) := by decide +kernel
theorem dX11_outUntil_20 : decode cX11_outUntil 20 = .ok (.getfield 160, 3) := by decide +kernel
theorem dX11_outUntil_23 : decode cX11_outUntil 23 = .ok (.iload_n 1, 1) := by decide +kernel
theorem dX11_outUntil_24 : decode cX11_outUntil 24 = .ok (.iaload, 1) := by decide +kernel
theorem dX11_outUntil_25 : decode cX11_outUntil 25 = .ok (.goto 4, 3) := by decide +kernel
theorem dX11_outUntil_28 : decode cX11_outUntil 28 = .ok (.iconst (-1), 1) := by decide +kernel
theorem dX11_outUntil_29 : decode cX11_outUntil 29 = .ok (.ireturn, 1) := by decide +kernel
abbrev M_X11_outUntil : aM := (yX11_outUntil.cls, cX11_outUntil, 2, (some .int), [], yX11_outUntil.name == "<init>")
abbrev J_X11_outUntil (l : Launch) (E : aE) (n0 m0 : Nat) := GG (eT (fun (v : Int32) => some (.int v))) l E M_X11_outUntil 7 111 n0 m0
theorem b_X11_outUntil {l : Launch} {E : aE} (hl : l.stackTraces = false) (n0 m0 : Nat) (x1 : Nat) (x2 : Int32) (h0 : aH) : J_X11_outUntil l E n0 m0 0 [(0, .ref (e_z E + x1)), (1, .int x2)] [] h0 (m_X11_outUntil x1 x2 h0) := by
  unfold m_X11_outUntil
  refine g_aload_n (pc := 0) dX11_outUntil_0 0 rfl ?_
  refine g_iload_n (pc := 1) dX11_outUntil_1 1 rfl ?_
  refine g_gS (fun hs => ?_)
  refine g_bXv (pc := 2) rfl (c_V cl11 hs (p_X11_needPerson hl x1 x2 h0) y_X11_needPerson tw925 dX11_outUntil_2 rfl (st := []) rfl (Nat.le_of_ble_eq_true rfl) (Nat.le_of_ble_eq_true rfl) (Nat.le_of_ble_eq_true rfl)) (fun _ h1 => ?_)
  refine g_aload_n (pc := 5) dX11_outUntil_5 0 rfl ?_
  refine g_getr (pc := 6) cl11 (Nat.le_of_ble_eq_true rfl) fk495 (fun _ _ _ => rfl) dX11_outUntil_6 (fun x3 => ?_)
  refine g_iload_n (pc := 9) dX11_outUntil_9 1 rfl ?_
  refine g_gS (fun hs => ?_)
  refine g_bRi (pc := 10) (c_VN cl10 hs (p_X10_isOut hl x3 x2 h1) y_X10_isOut tw930 dX11_outUntil_10 rfl (st := []) rfl (Nat.le_of_ble_eq_true rfl) (Nat.le_of_ble_eq_true rfl) (Nat.le_of_ble_eq_true rfl)) (fun x4 h2 => ?_)
  refine g_join (fun k => ∀ (x5 : Int32) (h3 : aH), J_X11_outUntil l E n0 m0 29 [] [.int x5] h3 (k x5 h3)) (fun x5 h3 => ?_) (fun k29 hk29 => ?_)
  · exact g_ret (pc := 29) rfl (isRet_i _) dX11_outUntil_29 rfl
  refine g_ifeq (pc := 13) (tgt := 28) dX11_outUntil_13 rfl ?_ ?_
  · refine g_iconst (pc := 28) dX11_outUntil_28 ci_m1 ?_
    refine g_lv [] rfl ?_
    exact hk29 (-1 : Int32) h2
  · refine g_aload_n (pc := 16) dX11_outUntil_16 0 rfl ?_
    refine g_getr (pc := 17) cl11 (Nat.le_of_ble_eq_true rfl) fk495 (fun _ _ _ => rfl) dX11_outUntil_17 (fun x6 => ?_)
    refine g_getr (pc := 20) cl10 (Nat.le_of_ble_eq_true rfl) fk355 (fun _ _ _ => rfl) dX11_outUntil_20 (fun x7 => ?_)
    refine g_iload_n (pc := 23) dX11_outUntil_23 1 rfl ?_
    refine g_iald (pc := 24) dX11_outUntil_24 (fun x8 => ?_)
    refine g_goto (pc := 25) (tgt := 29) dX11_outUntil_25 rfl ?_
    refine g_lv [] rfl ?_
    exact hk29 x8 h2
theorem p_X11_outUntil {l : Launch} {E : aE} (hl : l.stackTraces = false) (x1 : Nat) (x2 : Int32) (h0 : aH) : MO (eT (fun (v : Int32) => some (.int v))) l E yX11_outUntil (.code yX11_outUntil cX11_outUntil 2 (some .int)) 7 111 [.ref (e_z E + x1), .int x2] h0 (m_X11_outUntil x1 x2 h0) := g_met hl (by decide +kernel) (Nat.le_of_ble_eq_true rfl) (b_X11_outUntil hl _ _ x1 x2 h0)
theorem dX11_lostSleep_0 : decode cX11_lostSleep 0 = .ok (.aload_n 0, 1) := by decide +kernel
theorem dX11_lostSleep_1 : decode cX11_lostSleep 1 = .ok (.iload_n 1, 1) := by decide +kernel
theorem dX11_lostSleep_2 : decode cX11_lostSleep 2 = .ok (.invokevirtual 153, 3) := by decide +kernel
theorem dX11_lostSleep_5 : decode cX11_lostSleep 5 = .ok (.aload_n 0, 1) := by decide +kernel
theorem dX11_lostSleep_6 : decode cX11_lostSleep 6 = .ok (.getfield 37, 3) := by decide +kernel
theorem dX11_lostSleep_9 : decode cX11_lostSleep 9 = .ok (.getfield 164, 3) := by decide +kernel
theorem dX11_lostSleep_12 : decode cX11_lostSleep 12 = .ok (.iload_n 1, 1) := by decide +kernel
theorem dX11_lostSleep_13 : decode cX11_lostSleep 13 = .ok (.iaload, 1) := by decide +kernel
theorem dX11_lostSleep_14 : decode cX11_lostSleep 14 = .ok (.ireturn, 1) := by decide +kernel
abbrev M_X11_lostSleep : aM := (yX11_lostSleep.cls, cX11_lostSleep, 2, (some .int), [], yX11_lostSleep.name == "<init>")
abbrev J_X11_lostSleep (l : Launch) (E : aE) (n0 m0 : Nat) := GG (eT (fun (v : Int32) => some (.int v))) l E M_X11_lostSleep 7 111 n0 m0
theorem b_X11_lostSleep {l : Launch} {E : aE} (hl : l.stackTraces = false) (n0 m0 : Nat) (x1 : Nat) (x2 : Int32) (h0 : aH) : J_X11_lostSleep l E n0 m0 0 [(0, .ref (e_z E + x1)), (1, .int x2)] [] h0 (m_X11_lostSleep x1 x2 h0) := by
  unfold m_X11_lostSleep
  refine g_aload_n (pc := 0) dX11_lostSleep_0 0 rfl ?_
  refine g_iload_n (pc := 1) dX11_lostSleep_1 1 rfl ?_
  refine g_gS (fun hs => ?_)
  refine g_bXv (pc := 2) rfl (c_V cl11 hs (p_X11_needPerson hl x1 x2 h0) y_X11_needPerson tw925 dX11_lostSleep_2 rfl (st := []) rfl (Nat.le_of_ble_eq_true rfl) (Nat.le_of_ble_eq_true rfl) (Nat.le_of_ble_eq_true rfl)) (fun _ h1 => ?_)
  refine g_aload_n (pc := 5) dX11_lostSleep_5 0 rfl ?_
  refine g_getr (pc := 6) cl11 (Nat.le_of_ble_eq_true rfl) fk495 (fun _ _ _ => rfl) dX11_lostSleep_6 (fun x3 => ?_)
  refine g_getr (pc := 9) cl10 (Nat.le_of_ble_eq_true rfl) fk353 (fun _ _ _ => rfl) dX11_lostSleep_9 (fun x4 => ?_)
  refine g_iload_n (pc := 12) dX11_lostSleep_12 1 rfl ?_
  refine g_iald (pc := 13) dX11_lostSleep_13 (fun x5 => ?_)
  exact g_ret (pc := 14) rfl (isRet_i _) dX11_lostSleep_14 rfl
theorem p_X11_lostSleep {l : Launch} {E : aE} (hl : l.stackTraces = false) (x1 : Nat) (x2 : Int32) (h0 : aH) : MO (eT (fun (v : Int32) => some (.int v))) l E yX11_lostSleep (.code yX11_lostSleep cX11_lostSleep 2 (some .int)) 7 111 [.ref (e_z E + x1), .int x2] h0 (m_X11_lostSleep x1 x2 h0) := g_met hl (by decide +kernel) (Nat.le_of_ble_eq_true rfl) (b_X11_lostSleep hl _ _ x1 x2 h0)
theorem dX11_lostSleepAfter_0 : decode cX11_lostSleepAfter 0 = .ok (.aload_n 0, 1) := by decide +kernel
theorem dX11_lostSleepAfter_1 : decode cX11_lostSleepAfter 1 = .ok (.iload_n 1, 1) := by decide +kernel
theorem dX11_lostSleepAfter_2 : decode cX11_lostSleepAfter 2 = .ok (.invokevirtual 153, 3) := by decide +kernel
theorem dX11_lostSleepAfter_5 : decode cX11_lostSleepAfter 5 = .ok (.iload_n 2, 1) := by decide +kernel
theorem dX11_lostSleepAfter_6 : decode cX11_lostSleepAfter 6 = .ok (.ifCond .lt 10, 3) := by decide +kernel
theorem dX11_lostSleepAfter_9 : decode cX11_lostSleepAfter 9 = .ok (.iload_n 2, 1) := by decide +kernel
theorem dX11_lostSleepAfter_10 : decode cX11_lostSleepAfter 10 = .ok (.sipush 1440, 3) := by decide +kernel
theorem dX11_lostSleepAfter_13 : decode cX11_lostSleepAfter 13 = .ok (.if_icmp .le 13, 3) := by decide +kernel
theorem dX11_lostSleepAfter_16 : decode cX11_lostSleepAfter 16 = .ok (.new 94, 3) := by decide +kernel
theorem dX11_lostSleepAfter_19 : decode cX11_lostSleepAfter 19 = .ok (.dup, 1) := by decide +kernel
theorem dX11_lostSleepAfter_20 : decode cX11_lostSleepAfter 20 = .ok (.ldc 167, 2) := by decide +kernel
theorem dX11_lostSleepAfter_22 : decode cX11_lostSleepAfter 22 = .ok (.invokespecial 98, 3) := by decide +kernel
theorem dX11_lostSleepAfter_25 : decode cX11_lostSleepAfter 25 = .ok (.athrow, 1) := by decide +kernel
theorem dX11_lostSleepAfter_26 : decode cX11_lostSleepAfter 26 = .ok (.aload_n 0, 1) := by decide +kernel
theorem dX11_lostSleepAfter_27 : decode cX11_lostSleepAfter 27 = .ok (.getfield 37, 3) := by decide +kernel
theorem dX11_lostSleepAfter_30 : decode cX11_lostSleepAfter 30 = .ok (.iload_n 1, 1) := by decide +kernel
theorem dX11_lostSleepAfter_31 : decode cX11_lostSleepAfter 31 = .ok (.aload_n 0, 1) := by decide +kernel
theorem dX11_lostSleepAfter_32 : decode cX11_lostSleepAfter 32 = .ok (.getfield 37, 3) := by decide +kernel
theorem dX11_lostSleepAfter_35 : decode cX11_lostSleepAfter 35 = .ok (.getfield 144, 3) := by decide +kernel
theorem dX11_lostSleepAfter_38 : decode cX11_lostSleepAfter 38 = .ok (.iload_n 2, 1) := by decide +kernel
theorem dX11_lostSleepAfter_39 : decode cX11_lostSleepAfter 39 = .ok (.iadd, 1) := by decide +kernel
theorem dX11_lostSleepAfter_40 : decode cX11_lostSleepAfter 40 = .ok (.invokevirtual 169, 3) := by decide +kernel
theorem dX11_lostSleepAfter_43 : decode cX11_lostSleepAfter 43 = .ok (.ireturn, 1) := by decide +kernel
abbrev M_X11_lostSleepAfter : aM := (yX11_lostSleepAfter.cls, cX11_lostSleepAfter, 3, (some .int), [], yX11_lostSleepAfter.name == "<init>")
abbrev J_X11_lostSleepAfter (l : Launch) (E : aE) (n0 m0 : Nat) := GG (eT (fun (v : Int32) => some (.int v))) l E M_X11_lostSleepAfter 7 111 n0 m0
theorem b_X11_lostSleepAfter {l : Launch} {E : aE} (hl : l.stackTraces = false) (n0 m0 : Nat) (x1 : Nat) (x2 : Int32) (x3 : Int32) (h0 : aH) : J_X11_lostSleepAfter l E n0 m0 0 [(0, .ref (e_z E + x1)), (1, .int x2), (2, .int x3)] [] h0 (m_X11_lostSleepAfter x1 x2 x3 h0) := by
  unfold m_X11_lostSleepAfter
  refine g_aload_n (pc := 0) dX11_lostSleepAfter_0 0 rfl ?_
  refine g_iload_n (pc := 1) dX11_lostSleepAfter_1 1 rfl ?_
  refine g_gS (fun hs => ?_)
  refine g_bXv (pc := 2) rfl (c_V cl11 hs (p_X11_needPerson hl x1 x2 h0) y_X11_needPerson tw925 dX11_lostSleepAfter_2 rfl (st := []) rfl (Nat.le_of_ble_eq_true rfl) (Nat.le_of_ble_eq_true rfl) (Nat.le_of_ble_eq_true rfl)) (fun _ h1 => ?_)
  refine g_iload_n (pc := 5) dX11_lostSleepAfter_5 2 rfl ?_
  refine g_join (fun k => ∀ (h2 : aH), J_X11_lostSleepAfter l E n0 m0 16 [] [] h2 (k h2)) (fun h2 => ?_) (fun k16 hk16 => ?_)
  · exact g_throwE (pc := 16) rfl exf_IAE exn tx_7 ⟨tw830, rfl, rfl⟩ exi_IAE (xw_of exw_IAE ⟨tw840, rfl, rfl⟩) dX11_lostSleepAfter_16 dX11_lostSleepAfter_19 dX11_lostSleepAfter_20 dX11_lostSleepAfter_22 dX11_lostSleepAfter_25 (Nat.le_of_ble_eq_true rfl) (Nat.le_of_ble_eq_true rfl)
  refine g_iflt (pc := 6) (tgt := 16) dX11_lostSleepAfter_6 rfl ?_ ?_
  · refine g_lv [] rfl ?_
    exact hk16 h1
  · refine g_iload_n (pc := 9) dX11_lostSleepAfter_9 2 rfl ?_
    refine g_sipush (pc := 10) dX11_lostSleepAfter_10 cs_1440 ?_
    refine g_icmple (pc := 13) (tgt := 26) dX11_lostSleepAfter_13 rfl ?_ ?_
    · refine g_aload_n (pc := 26) dX11_lostSleepAfter_26 0 rfl ?_
      refine g_getr (pc := 27) cl11 (Nat.le_of_ble_eq_true rfl) fk495 (fun _ _ _ => rfl) dX11_lostSleepAfter_27 (fun x4 => ?_)
      refine g_iload_n (pc := 30) dX11_lostSleepAfter_30 1 rfl ?_
      refine g_aload_n (pc := 31) dX11_lostSleepAfter_31 0 rfl ?_
      refine g_getr (pc := 32) cl11 (Nat.le_of_ble_eq_true rfl) fk495 (fun _ _ _ => rfl) dX11_lostSleepAfter_32 (fun x5 => ?_)
      refine g_geti (pc := 35) cl10 (Nat.le_of_ble_eq_true rfl) fk351 (fun _ _ _ => rfl) dX11_lostSleepAfter_35 (fun x6 => ?_)
      refine g_iload_n (pc := 38) dX11_lostSleepAfter_38 2 rfl ?_
      refine g_iadd (pc := 39) dX11_lostSleepAfter_39 ?_
      refine g_gS (fun hs => ?_)
      refine g_bRi (pc := 40) (c_VN cl10 hs (p_X10_lostAt hl x4 x2 (x6 + x3) h1) y_X10_lostAt tw949 dX11_lostSleepAfter_40 rfl (st := []) rfl (Nat.le_of_ble_eq_true rfl) (Nat.le_of_ble_eq_true rfl) (Nat.le_of_ble_eq_true rfl)) (fun x7 h3 => ?_)
      exact g_ret (pc := 43) rfl (isRet_i _) dX11_lostSleepAfter_43 rfl
    · refine g_lv [] rfl ?_
      exact hk16 h1
theorem p_X11_lostSleepAfter {l : Launch} {E : aE} (hl : l.stackTraces = false) (x1 : Nat) (x2 : Int32) (x3 : Int32) (h0 : aH) : MO (eT (fun (v : Int32) => some (.int v))) l E yX11_lostSleepAfter (.code yX11_lostSleepAfter cX11_lostSleepAfter 3 (some .int)) 7 111 [.ref (e_z E + x1), .int x2, .int x3] h0 (m_X11_lostSleepAfter x1 x2 x3 h0) := g_met hl (by decide +kernel) (Nat.le_of_ble_eq_true rfl) (b_X11_lostSleepAfter hl _ _ x1 x2 x3 h0)
theorem dX11_restedAt_0 : decode cX11_restedAt 0 = .ok (.aload_n 0, 1) := by decide +kernel
theorem dX11_restedAt_1 : decode cX11_restedAt 1 = .ok (.iload_n 1, 1) := by decide +kernel
theorem dX11_restedAt_2 : decode cX11_restedAt 2 = .ok (.invokevirtual 153, 3) := by decide +kernel
theorem dX11_restedAt_5 : decode cX11_restedAt 5 = .ok (.aload_n 0, 1) := by decide +kernel
theorem dX11_restedAt_6 : decode cX11_restedAt 6 = .ok (.getfield 37, 3) := by decide +kernel
theorem dX11_restedAt_9 : decode cX11_restedAt 9 = .ok (.iload_n 1, 1) := by decide +kernel
theorem dX11_restedAt_10 : decode cX11_restedAt 10 = .ok (.invokevirtual 172, 3) := by decide +kernel
theorem dX11_restedAt_13 : decode cX11_restedAt 13 = .ok (.istore_n 2, 1) := by decide +kernel
theorem dX11_restedAt_14 : decode cX11_restedAt 14 = .ok (.iload_n 2, 1) := by decide +kernel
theorem dX11_restedAt_15 : decode cX11_restedAt 15 = .ok (.sipush 20160, 3) := by decide +kernel
theorem dX11_restedAt_18 : decode cX11_restedAt 18 = .ok (.if_icmp .le 13, 3) := by decide +kernel
theorem dX11_restedAt_21 : decode cX11_restedAt 21 = .ok (.new 126, 3) := by decide +kernel
theorem dX11_restedAt_24 : decode cX11_restedAt 24 = .ok (.dup, 1) := by decide +kernel
theorem dX11_restedAt_25 : decode cX11_restedAt 25 = .ok (.ldc 175, 2) := by decide +kernel
theorem dX11_restedAt_27 : decode cX11_restedAt 27 = .ok (.invokespecial 130, 3) := by decide +kernel
theorem dX11_restedAt_30 : decode cX11_restedAt 30 = .ok (.athrow, 1) := by decide +kernel
theorem dX11_restedAt_31 : decode cX11_restedAt 31 = .ok (.iload_n 2, 1) := by decide +kernel
theorem dX11_restedAt_32 : decode cX11_restedAt 32 = .ok (.ireturn, 1) := by decide +kernel
abbrev M_X11_restedAt : aM := (yX11_restedAt.cls, cX11_restedAt, 3, (some .int), [], yX11_restedAt.name == "<init>")
abbrev J_X11_restedAt (l : Launch) (E : aE) (n0 m0 : Nat) := GG (eT (fun (v : Int32) => some (.int v))) l E M_X11_restedAt 7 125 n0 m0
theorem b_X11_restedAt {l : Launch} {E : aE} (hl : l.stackTraces = false) (n0 m0 : Nat) (x1 : Nat) (x2 : Int32) (h0 : aH) : J_X11_restedAt l E n0 m0 0 [(0, .ref (e_z E + x1)), (1, .int x2)] [] h0 (m_X11_restedAt x1 x2 h0) := by
  unfold m_X11_restedAt
  refine g_aload_n (pc := 0) dX11_restedAt_0 0 rfl ?_
  refine g_iload_n (pc := 1) dX11_restedAt_1 1 rfl ?_
  refine g_gS (fun hs => ?_)
  refine g_bXv (pc := 2) rfl (c_V cl11 hs (p_X11_needPerson hl x1 x2 h0) y_X11_needPerson tw925 dX11_restedAt_2 rfl (st := []) rfl (Nat.le_of_ble_eq_true rfl) (Nat.le_of_ble_eq_true rfl) (Nat.le_of_ble_eq_true rfl)) (fun _ h1 => ?_)
  refine g_aload_n (pc := 5) dX11_restedAt_5 0 rfl ?_
  refine g_getr (pc := 6) cl11 (Nat.le_of_ble_eq_true rfl) fk495 (fun _ _ _ => rfl) dX11_restedAt_6 (fun x3 => ?_)
  refine g_iload_n (pc := 9) dX11_restedAt_9 1 rfl ?_
  refine g_gS (fun hs => ?_)
  refine g_bRi (pc := 10) (c_VN cl10 hs (p_X10_firstRested hl x3 x2 h1) y_X10_firstRested tw962 dX11_restedAt_10 rfl (st := []) rfl (Nat.le_of_ble_eq_true rfl) (Nat.le_of_ble_eq_true rfl) (Nat.le_of_ble_eq_true rfl)) (fun x4 h2 => ?_)
  refine g_istore_n (pc := 13) (lv' := [(2, .int x4), (0, .ref (e_z E + x1)), (1, .int x2)]) dX11_restedAt_13 (Nat.le_of_ble_eq_true rfl) rfl ?_
  refine g_iload_n (pc := 14) dX11_restedAt_14 0 rfl ?_
  refine g_sipush (pc := 15) dX11_restedAt_15 cs_20160 ?_
  refine g_icmple (pc := 18) (tgt := 31) dX11_restedAt_18 rfl ?_ ?_
  · refine g_iload_n (pc := 31) dX11_restedAt_31 0 rfl ?_
    exact g_ret (pc := 32) rfl (isRet_i _) dX11_restedAt_32 rfl
  · exact g_throwX (pc := 21) exd0_NSE exd1_NSE exd2_NSE exd3_NSE rfl exf_NSE exn tx_8 ⟨tw876, rfl, rfl⟩ exi_NSE (xx_of exw_NSE ⟨tw886, rfl, rfl⟩) dX11_restedAt_21 dX11_restedAt_24 dX11_restedAt_25 dX11_restedAt_27 dX11_restedAt_30 (Nat.le_of_ble_eq_true rfl) (Nat.le_of_ble_eq_true rfl)
theorem p_X11_restedAt {l : Launch} {E : aE} (hl : l.stackTraces = false) (x1 : Nat) (x2 : Int32) (h0 : aH) : MO (eT (fun (v : Int32) => some (.int v))) l E yX11_restedAt (.code yX11_restedAt cX11_restedAt 3 (some .int)) 7 125 [.ref (e_z E + x1), .int x2] h0 (m_X11_restedAt x1 x2 h0) := g_met hl (by decide +kernel) (Nat.le_of_ble_eq_true rfl) (b_X11_restedAt hl _ _ x1 x2 h0)
theorem dX11_arrival_0 : decode cX11_arrival 0 = .ok (.aload_n 0, 1) := by decide +kernel
theorem dX11_arrival_1 : decode cX11_arrival 1 = .ok (.iload_n 1, 1) := by decide +kernel
theorem dX11_arrival_2 : decode cX11_arrival 2 = .ok (.invokevirtual 153, 3) := by decide +kernel
theorem dX11_arrival_5 : decode cX11_arrival 5 = .ok (.aload_n 0, 1) := by decide +kernel
theorem dX11_arrival_6 : decode cX11_arrival 6 = .ok (.getfield 37, 3) := by decide +kernel
theorem dX11_arrival_9 : decode cX11_arrival 9 = .ok (.iload_n 1, 1) := by decide +kernel
theorem dX11_arrival_10 : decode cX11_arrival 10 = .ok (.invokevirtual 177, 3) := by decide +kernel
theorem dX11_arrival_13 : decode cX11_arrival 13 = .ok (.ireturn, 1) := by decide +kernel
abbrev M_X11_arrival : aM := (yX11_arrival.cls, cX11_arrival, 2, (some .int), [], yX11_arrival.name == "<init>")
abbrev J_X11_arrival (l : Launch) (E : aE) (n0 m0 : Nat) := GG (eT (fun (v : Int32) => some (.int v))) l E M_X11_arrival 7 111 n0 m0
theorem b_X11_arrival {l : Launch} {E : aE} (hl : l.stackTraces = false) (n0 m0 : Nat) (x1 : Nat) (x2 : Int32) (h0 : aH) : J_X11_arrival l E n0 m0 0 [(0, .ref (e_z E + x1)), (1, .int x2)] [] h0 (m_X11_arrival x1 x2 h0) := by
  unfold m_X11_arrival
  refine g_aload_n (pc := 0) dX11_arrival_0 0 rfl ?_
  refine g_iload_n (pc := 1) dX11_arrival_1 1 rfl ?_
  refine g_gS (fun hs => ?_)
  refine g_bXv (pc := 2) rfl (c_V cl11 hs (p_X11_needPerson hl x1 x2 h0) y_X11_needPerson tw925 dX11_arrival_2 rfl (st := []) rfl (Nat.le_of_ble_eq_true rfl) (Nat.le_of_ble_eq_true rfl) (Nat.le_of_ble_eq_true rfl)) (fun _ h1 => ?_)
  refine g_aload_n (pc := 5) dX11_arrival_5 0 rfl ?_
  refine g_getr (pc := 6) cl11 (Nat.le_of_ble_eq_true rfl) fk495 (fun _ _ _ => rfl) dX11_arrival_6 (fun x3 => ?_)
  refine g_iload_n (pc := 9) dX11_arrival_9 1 rfl ?_
  refine g_gS (fun hs => ?_)
  refine g_bRi (pc := 10) (c_VN cl10 hs (p_X10_arrivalOf hl x3 x2 h1) y_X10_arrivalOf tw979 dX11_arrival_10 rfl (st := []) rfl (Nat.le_of_ble_eq_true rfl) (Nat.le_of_ble_eq_true rfl) (Nat.le_of_ble_eq_true rfl)) (fun x4 h2 => ?_)
  exact g_ret (pc := 13) rfl (isRet_i _) dX11_arrival_13 rfl
theorem p_X11_arrival {l : Launch} {E : aE} (hl : l.stackTraces = false) (x1 : Nat) (x2 : Int32) (h0 : aH) : MO (eT (fun (v : Int32) => some (.int v))) l E yX11_arrival (.code yX11_arrival cX11_arrival 2 (some .int)) 7 111 [.ref (e_z E + x1), .int x2] h0 (m_X11_arrival x1 x2 h0) := g_met hl (by decide +kernel) (Nat.le_of_ble_eq_true rfl) (b_X11_arrival hl _ _ x1 x2 h0)
theorem dX11_pay_0 : decode cX11_pay 0 = .ok (.aload_n 0, 1) := by decide +kernel
theorem dX11_pay_1 : decode cX11_pay 1 = .ok (.iload_n 1, 1) := by decide +kernel
theorem dX11_pay_2 : decode cX11_pay 2 = .ok (.invokevirtual 153, 3) := by decide +kernel
theorem dX11_pay_5 : decode cX11_pay 5 = .ok (.aload_n 0, 1) := by decide +kernel
theorem dX11_pay_6 : decode cX11_pay 6 = .ok (.getfield 37, 3) := by decide +kernel
theorem dX11_pay_9 : decode cX11_pay 9 = .ok (.getfield 180, 3) := by decide +kernel
theorem dX11_pay_12 : decode cX11_pay 12 = .ok (.iload_n 1, 1) := by decide +kernel
theorem dX11_pay_13 : decode cX11_pay 13 = .ok (.iaload, 1) := by decide +kernel
theorem dX11_pay_14 : decode cX11_pay 14 = .ok (.ireturn, 1) := by decide +kernel
abbrev M_X11_pay : aM := (yX11_pay.cls, cX11_pay, 2, (some .int), [], yX11_pay.name == "<init>")
abbrev J_X11_pay (l : Launch) (E : aE) (n0 m0 : Nat) := GG (eT (fun (v : Int32) => some (.int v))) l E M_X11_pay 7 111 n0 m0
theorem b_X11_pay {l : Launch} {E : aE} (hl : l.stackTraces = false) (n0 m0 : Nat) (x1 : Nat) (x2 : Int32) (h0 : aH) : J_X11_pay l E n0 m0 0 [(0, .ref (e_z E + x1)), (1, .int x2)] [] h0 (m_X11_pay x1 x2 h0) := by
  unfold m_X11_pay
  refine g_aload_n (pc := 0) dX11_pay_0 0 rfl ?_
  refine g_iload_n (pc := 1) dX11_pay_1 1 rfl ?_
  refine g_gS (fun hs => ?_)
  refine g_bXv (pc := 2) rfl (c_V cl11 hs (p_X11_needPerson hl x1 x2 h0) y_X11_needPerson tw925 dX11_pay_2 rfl (st := []) rfl (Nat.le_of_ble_eq_true rfl) (Nat.le_of_ble_eq_true rfl) (Nat.le_of_ble_eq_true rfl)) (fun _ h1 => ?_)
  refine g_aload_n (pc := 5) dX11_pay_5 0 rfl ?_
  refine g_getr (pc := 6) cl11 (Nat.le_of_ble_eq_true rfl) fk495 (fun _ _ _ => rfl) dX11_pay_6 (fun x3 => ?_)
  refine g_getr (pc := 9) cl10 (Nat.le_of_ble_eq_true rfl) fk357 (fun _ _ _ => rfl) dX11_pay_9 (fun x4 => ?_)
  refine g_iload_n (pc := 12) dX11_pay_12 1 rfl ?_
  refine g_iald (pc := 13) dX11_pay_13 (fun x5 => ?_)
  exact g_ret (pc := 14) rfl (isRet_i _) dX11_pay_14 rfl
theorem p_X11_pay {l : Launch} {E : aE} (hl : l.stackTraces = false) (x1 : Nat) (x2 : Int32) (h0 : aH) : MO (eT (fun (v : Int32) => some (.int v))) l E yX11_pay (.code yX11_pay cX11_pay 2 (some .int)) 7 111 [.ref (e_z E + x1), .int x2] h0 (m_X11_pay x1 x2 h0) := g_met hl (by decide +kernel) (Nat.le_of_ble_eq_true rfl) (b_X11_pay hl _ _ x1 x2 h0)
theorem dX11_needTwoPersons_0 : decode cX11_needTwoPersons 0 = .ok (.aload_n 0, 1) := by decide +kernel
theorem dX11_needTwoPersons_1 : decode cX11_needTwoPersons 1 = .ok (.iload_n 1, 1) := by decide +kernel
theorem dX11_needTwoPersons_2 : decode cX11_needTwoPersons 2 = .ok (.invokevirtual 153, 3) := by decide +kernel
theorem dX11_needTwoPersons_5 : decode cX11_needTwoPersons 5 = .ok (.aload_n 0, 1) := by decide +kernel
theorem dX11_needTwoPersons_6 : decode cX11_needTwoPersons 6 = .ok (.iload_n 2, 1) := by decide +kernel
theorem dX11_needTwoPersons_7 : decode cX11_needTwoPersons 7 = .ok (.invokevirtual 153, 3) := by decide +kernel
theorem dX11_needTwoPersons_10 : decode cX11_needTwoPersons 10 = .ok (.iload_n 1, 1) := by decide +kernel
theorem dX11_needTwoPersons_11 : decode cX11_needTwoPersons 11 = .ok (.iload_n 2, 1) := by decide +kernel
theorem dX11_needTwoPersons_12 : decode cX11_needTwoPersons 12 = .ok (.if_icmp .ne 14, 3) := by decide +kernel
theorem dX11_needTwoPersons_15 : decode cX11_needTwoPersons 15 = .ok (.new 94, 3) := by decide +kernel
theorem dX11_needTwoPersons_18 : decode cX11_needTwoPersons 18 = .ok (.dup, 1) := by decide +kernel
theorem dX11_needTwoPersons_19 : decode cX11_needTwoPersons 19 = .ok (.ldc_w 414, 3) := by decide +kernel
theorem dX11_needTwoPersons_22 : decode cX11_needTwoPersons 22 = .ok (.invokespecial 98, 3) := by decide +kernel
theorem dX11_needTwoPersons_25 : decode cX11_needTwoPersons 25 = .ok (.athrow, 1) := by decide +kernel
theorem dX11_needTwoPersons_26 : decode cX11_needTwoPersons 26 = .ok (.return_, 1) := by decide +kernel
abbrev M_X11_needTwoPersons : aM := (yX11_needTwoPersons.cls, cX11_needTwoPersons, 3, none, [], yX11_needTwoPersons.name == "<init>")
abbrev J_X11_needTwoPersons (l : Launch) (E : aE) (n0 m0 : Nat) := GG (eT (fun (_ : Unit) => none)) l E M_X11_needTwoPersons 7 111 n0 m0
theorem b_X11_needTwoPersons {l : Launch} {E : aE} (hl : l.stackTraces = false) (n0 m0 : Nat) (x1 : Nat) (x2 : Int32) (x3 : Int32) (h0 : aH) : J_X11_needTwoPersons l E n0 m0 0 [(0, .ref (e_z E + x1)), (1, .int x2), (2, .int x3)] [] h0 (m_X11_needTwoPersons x1 x2 x3 h0) := by
  unfold m_X11_needTwoPersons
  refine g_aload_n (pc := 0) dX11_needTwoPersons_0 0 rfl ?_
  refine g_iload_n (pc := 1) dX11_needTwoPersons_1 1 rfl ?_
  refine g_gS (fun hs => ?_)
  refine g_bXv (pc := 2) rfl (c_V cl11 hs (p_X11_needPerson hl x1 x2 h0) y_X11_needPerson tw925 dX11_needTwoPersons_2 rfl (st := []) rfl (Nat.le_of_ble_eq_true rfl) (Nat.le_of_ble_eq_true rfl) (Nat.le_of_ble_eq_true rfl)) (fun _ h1 => ?_)
  refine g_aload_n (pc := 5) dX11_needTwoPersons_5 0 rfl ?_
  refine g_iload_n (pc := 6) dX11_needTwoPersons_6 2 rfl ?_
  refine g_gS (fun hs => ?_)
  refine g_bXv (pc := 7) rfl (c_V cl11 hs (p_X11_needPerson hl x1 x3 h1) y_X11_needPerson tw925 dX11_needTwoPersons_7 rfl (st := []) rfl (Nat.le_of_ble_eq_true rfl) (Nat.le_of_ble_eq_true rfl) (Nat.le_of_ble_eq_true rfl)) (fun _ h2 => ?_)
  refine g_iload_n (pc := 10) dX11_needTwoPersons_10 1 rfl ?_
  refine g_iload_n (pc := 11) dX11_needTwoPersons_11 2 rfl ?_
  refine g_icmpne (pc := 12) (tgt := 26) dX11_needTwoPersons_12 rfl ?_ ?_
  · exact g_throwEW (pc := 15) rfl exf_IAE exn tx_9 ⟨tw830, rfl, rfl⟩ exi_IAE (xw_of exw_IAE ⟨tw840, rfl, rfl⟩) dX11_needTwoPersons_15 dX11_needTwoPersons_18 dX11_needTwoPersons_19 dX11_needTwoPersons_22 dX11_needTwoPersons_25 (Nat.le_of_ble_eq_true rfl) (Nat.le_of_ble_eq_true rfl)
  · exact g_ret (pc := 26) rfl isRet_v dX11_needTwoPersons_26 rfl
theorem p_X11_needTwoPersons {l : Launch} {E : aE} (hl : l.stackTraces = false) (x1 : Nat) (x2 : Int32) (x3 : Int32) (h0 : aH) : MO (eT (fun (_ : Unit) => none)) l E yX11_needTwoPersons (.code yX11_needTwoPersons cX11_needTwoPersons 3 none) 7 111 [.ref (e_z E + x1), .int x2, .int x3] h0 (m_X11_needTwoPersons x1 x2 x3 h0) := g_met hl (by decide +kernel) (Nat.le_of_ble_eq_true rfl) (b_X11_needTwoPersons hl _ _ x1 x2 x3 h0)
theorem dX11_trust_0 : decode cX11_trust 0 = .ok (.aload_n 0, 1) := by decide +kernel
theorem dX11_trust_1 : decode cX11_trust 1 = .ok (.iload_n 1, 1) := by decide +kernel
theorem dX11_trust_2 : decode cX11_trust 2 = .ok (.iload_n 2, 1) := by decide +kernel
theorem dX11_trust_3 : decode cX11_trust 3 = .ok (.invokevirtual 183, 3) := by decide +kernel
theorem dX11_trust_6 : decode cX11_trust 6 = .ok (.aload_n 0, 1) := by decide +kernel
theorem dX11_trust_7 : decode cX11_trust 7 = .ok (.getfield 37, 3) := by decide +kernel
theorem dX11_trust_10 : decode cX11_trust 10 = .ok (.getfield 187, 3) := by decide +kernel
theorem dX11_trust_13 : decode cX11_trust 13 = .ok (.iload_n 1, 1) := by decide +kernel
theorem dX11_trust_14 : decode cX11_trust 14 = .ok (.iload_n 2, 1) := by decide +kernel
theorem dX11_trust_15 : decode cX11_trust 15 = .ok (.invokestatic 190, 3) := by decide +kernel
theorem dX11_trust_18 : decode cX11_trust 18 = .ok (.iaload, 1) := by decide +kernel
theorem dX11_trust_19 : decode cX11_trust 19 = .ok (.ireturn, 1) := by decide +kernel
abbrev M_X11_trust : aM := (yX11_trust.cls, cX11_trust, 3, (some .int), [], yX11_trust.name == "<init>")
abbrev J_X11_trust (l : Launch) (E : aE) (n0 m0 : Nat) := GG (eT (fun (v : Int32) => some (.int v))) l E M_X11_trust 8 133 n0 m0
theorem b_X11_trust {l : Launch} {E : aE} (hl : l.stackTraces = false) (n0 m0 : Nat) (x1 : Nat) (x2 : Int32) (x3 : Int32) (h0 : aH) : J_X11_trust l E n0 m0 0 [(0, .ref (e_z E + x1)), (1, .int x2), (2, .int x3)] [] h0 (m_X11_trust x1 x2 x3 h0) := by
  unfold m_X11_trust
  refine g_aload_n (pc := 0) dX11_trust_0 0 rfl ?_
  refine g_iload_n (pc := 1) dX11_trust_1 1 rfl ?_
  refine g_iload_n (pc := 2) dX11_trust_2 2 rfl ?_
  refine g_gS (fun hs => ?_)
  refine g_bXv (pc := 3) rfl (c_V cl11 hs (p_X11_needTwoPersons hl x1 x2 x3 h0) y_X11_needTwoPersons tw1001 dX11_trust_3 rfl (st := []) rfl (Nat.le_of_ble_eq_true rfl) (Nat.le_of_ble_eq_true rfl) (Nat.le_of_ble_eq_true rfl)) (fun _ h1 => ?_)
  refine g_aload_n (pc := 6) dX11_trust_6 0 rfl ?_
  refine g_getr (pc := 7) cl11 (Nat.le_of_ble_eq_true rfl) fk495 (fun _ _ _ => rfl) dX11_trust_7 (fun x4 => ?_)
  refine g_getr (pc := 10) cl10 (Nat.le_of_ble_eq_true rfl) fk362 (fun _ _ _ => rfl) dX11_trust_10 (fun x5 => ?_)
  refine g_iload_n (pc := 13) dX11_trust_13 1 rfl ?_
  refine g_iload_n (pc := 14) dX11_trust_14 2 rfl ?_
  refine g_bRi (pc := 15) (c_S (p_X11_pair hl x2 x3 h1) y_X11_pair tw1006 dX11_trust_15 rfl (st := [.ref (e_z E + x5)]) rfl (Nat.le_of_ble_eq_true rfl) (Nat.le_of_ble_eq_true rfl) (Nat.le_of_ble_eq_true rfl)) (fun x6 h2 => ?_)
  refine g_iald (pc := 18) dX11_trust_18 (fun x7 => ?_)
  exact g_ret (pc := 19) rfl (isRet_i _) dX11_trust_19 rfl
theorem p_X11_trust {l : Launch} {E : aE} (hl : l.stackTraces = false) (x1 : Nat) (x2 : Int32) (x3 : Int32) (h0 : aH) : MO (eT (fun (v : Int32) => some (.int v))) l E yX11_trust (.code yX11_trust cX11_trust 3 (some .int)) 8 133 [.ref (e_z E + x1), .int x2, .int x3] h0 (m_X11_trust x1 x2 x3 h0) := g_met hl (by decide +kernel) (Nat.le_of_ble_eq_true rfl) (b_X11_trust hl _ _ x1 x2 x3 h0)
theorem dX11_trustPath_0 : decode cX11_trustPath 0 = .ok (.aload_n 0, 1) := by decide +kernel
theorem dX11_trustPath_1 : decode cX11_trustPath 1 = .ok (.iload_n 1, 1) := by decide +kernel
theorem dX11_trustPath_2 : decode cX11_trustPath 2 = .ok (.iload_n 2, 1) := by decide +kernel
theorem dX11_trustPath_3 : decode cX11_trustPath 3 = .ok (.invokevirtual 183, 3) := by decide +kernel
theorem dX11_trustPath_6 : decode cX11_trustPath 6 = .ok (.aload_n 0, 1) := by decide +kernel
theorem dX11_trustPath_7 : decode cX11_trustPath 7 = .ok (.getfield 37, 3) := by decide +kernel
theorem dX11_trustPath_10 : decode cX11_trustPath 10 = .ok (.iload_n 1, 1) := by decide +kernel
theorem dX11_trustPath_11 : decode cX11_trustPath 11 = .ok (.iload_n 2, 1) := by decide +kernel
theorem dX11_trustPath_12 : decode cX11_trustPath 12 = .ok (.invokevirtual 193, 3) := by decide +kernel
theorem dX11_trustPath_15 : decode cX11_trustPath 15 = .ok (.ireturn, 1) := by decide +kernel
abbrev M_X11_trustPath : aM := (yX11_trustPath.cls, cX11_trustPath, 3, (some .int), [], yX11_trustPath.name == "<init>")
abbrev J_X11_trustPath (l : Launch) (E : aE) (n0 m0 : Nat) := GG (eT (fun (v : Int32) => some (.int v))) l E M_X11_trustPath 8 133 n0 m0
theorem b_X11_trustPath {l : Launch} {E : aE} (hl : l.stackTraces = false) (n0 m0 : Nat) (x1 : Nat) (x2 : Int32) (x3 : Int32) (h0 : aH) : J_X11_trustPath l E n0 m0 0 [(0, .ref (e_z E + x1)), (1, .int x2), (2, .int x3)] [] h0 (m_X11_trustPath x1 x2 x3 h0) := by
  unfold m_X11_trustPath
  refine g_aload_n (pc := 0) dX11_trustPath_0 0 rfl ?_
  refine g_iload_n (pc := 1) dX11_trustPath_1 1 rfl ?_
  refine g_iload_n (pc := 2) dX11_trustPath_2 2 rfl ?_
  refine g_gS (fun hs => ?_)
  refine g_bXv (pc := 3) rfl (c_V cl11 hs (p_X11_needTwoPersons hl x1 x2 x3 h0) y_X11_needTwoPersons tw1001 dX11_trustPath_3 rfl (st := []) rfl (Nat.le_of_ble_eq_true rfl) (Nat.le_of_ble_eq_true rfl) (Nat.le_of_ble_eq_true rfl)) (fun _ h1 => ?_)
  refine g_aload_n (pc := 6) dX11_trustPath_6 0 rfl ?_
  refine g_getr (pc := 7) cl11 (Nat.le_of_ble_eq_true rfl) fk495 (fun _ _ _ => rfl) dX11_trustPath_7 (fun x4 => ?_)
  refine g_iload_n (pc := 10) dX11_trustPath_10 1 rfl ?_
  refine g_iload_n (pc := 11) dX11_trustPath_11 2 rfl ?_
  refine g_gS (fun hs => ?_)
  refine g_bRi (pc := 12) (c_VN cl10 hs (p_X10_bestRow hl x4 x2 x3 h1) y_X10_bestRow tw1014 dX11_trustPath_12 rfl (st := []) rfl (Nat.le_of_ble_eq_true rfl) (Nat.le_of_ble_eq_true rfl) (Nat.le_of_ble_eq_true rfl)) (fun x5 h2 => ?_)
  exact g_ret (pc := 15) rfl (isRet_i _) dX11_trustPath_15 rfl
theorem p_X11_trustPath {l : Launch} {E : aE} (hl : l.stackTraces = false) (x1 : Nat) (x2 : Int32) (x3 : Int32) (h0 : aH) : MO (eT (fun (v : Int32) => some (.int v))) l E yX11_trustPath (.code yX11_trustPath cX11_trustPath 3 (some .int)) 8 133 [.ref (e_z E + x1), .int x2, .int x3] h0 (m_X11_trustPath x1 x2 x3 h0) := g_met hl (by decide +kernel) (Nat.le_of_ble_eq_true rfl) (b_X11_trustPath hl _ _ x1 x2 x3 h0)
theorem dX11_needPager_0 : decode cX11_needPager 0 = .ok (.iload_n 1, 1) := by decide +kernel
theorem dX11_needPager_1 : decode cX11_needPager 1 = .ok (.ifCond .lt 14, 3) := by decide +kernel
theorem dX11_needPager_4 : decode cX11_needPager 4 = .ok (.iload_n 1, 1) := by decide +kernel
theorem dX11_needPager_5 : decode cX11_needPager 5 = .ok (.aload_n 0, 1) := by decide +kernel
theorem dX11_needPager_6 : decode cX11_needPager 6 = .ok (.getfield 25, 3) := by decide +kernel
theorem dX11_needPager_9 : decode cX11_needPager 9 = .ok (.getfield 343, 3) := by decide +kernel
theorem dX11_needPager_12 : decode cX11_needPager 12 = .ok (.if_icmp .lt 14, 3) := by decide +kernel
theorem dX11_needPager_15 : decode cX11_needPager 15 = .ok (.new 85, 3) := by decide +kernel
theorem dX11_needPager_18 : decode cX11_needPager 18 = .ok (.dup, 1) := by decide +kernel
theorem dX11_needPager_19 : decode cX11_needPager 19 = .ok (.ldc_w 416, 3) := by decide +kernel
theorem dX11_needPager_22 : decode cX11_needPager 22 = .ok (.invokespecial 89, 3) := by decide +kernel
theorem dX11_needPager_25 : decode cX11_needPager 25 = .ok (.athrow, 1) := by decide +kernel
theorem dX11_needPager_26 : decode cX11_needPager 26 = .ok (.return_, 1) := by decide +kernel
abbrev M_X11_needPager : aM := (yX11_needPager.cls, cX11_needPager, 2, none, [], yX11_needPager.name == "<init>")
abbrev J_X11_needPager (l : Launch) (E : aE) (n0 m0 : Nat) := GG (eT (fun (_ : Unit) => none)) l E M_X11_needPager 6 90 n0 m0
theorem b_X11_needPager {l : Launch} {E : aE} (hl : l.stackTraces = false) (n0 m0 : Nat) (x1 : Nat) (x2 : Int32) (h0 : aH) : J_X11_needPager l E n0 m0 0 [(0, .ref (e_z E + x1)), (1, .int x2)] [] h0 (m_X11_needPager x1 x2 h0) := by
  unfold m_X11_needPager
  refine g_iload_n (pc := 0) dX11_needPager_0 1 rfl ?_
  refine g_join (fun k => ∀ (h1 : aH), J_X11_needPager l E n0 m0 15 [] [] h1 (k h1)) (fun h1 => ?_) (fun k15 hk15 => ?_)
  · exact g_throwEW (pc := 15) rfl exf_IOB exn tx_10 ⟨tw622, rfl, rfl⟩ exi_IOB (xw_of exw_IOB ⟨tw632, rfl, rfl⟩) dX11_needPager_15 dX11_needPager_18 dX11_needPager_19 dX11_needPager_22 dX11_needPager_25 (Nat.le_of_ble_eq_true rfl) (Nat.le_of_ble_eq_true rfl)
  refine g_iflt (pc := 1) (tgt := 15) dX11_needPager_1 rfl ?_ ?_
  · refine g_lv [] rfl ?_
    exact hk15 h0
  · refine g_iload_n (pc := 4) dX11_needPager_4 1 rfl ?_
    refine g_aload_n (pc := 5) dX11_needPager_5 0 rfl ?_
    refine g_getr (pc := 6) cl11 (Nat.le_of_ble_eq_true rfl) fk493 (fun _ _ _ => rfl) dX11_needPager_6 (fun x3 => ?_)
    refine g_geti (pc := 9) cl8 (Nat.le_of_ble_eq_true rfl) fk255 (fun _ _ _ => rfl) dX11_needPager_9 (fun x4 => ?_)
    refine g_icmplt (pc := 12) (tgt := 26) dX11_needPager_12 rfl ?_ ?_
    · exact g_ret (pc := 26) rfl isRet_v dX11_needPager_26 rfl
    · refine g_lv [] rfl ?_
      exact hk15 h0
theorem p_X11_needPager {l : Launch} {E : aE} (hl : l.stackTraces = false) (x1 : Nat) (x2 : Int32) (h0 : aH) : MO (eT (fun (_ : Unit) => none)) l E yX11_needPager (.code yX11_needPager cX11_needPager 2 none) 6 90 [.ref (e_z E + x1), .int x2] h0 (m_X11_needPager x1 x2 h0) := g_met hl (by decide +kernel) (Nat.le_of_ble_eq_true rfl) (b_X11_needPager hl _ _ x1 x2 h0)
theorem dX11_chain_0 : decode cX11_chain 0 = .ok (.aload_n 0, 1) := by decide +kernel
theorem dX11_chain_1 : decode cX11_chain 1 = .ok (.iload_n 1, 1) := by decide +kernel
theorem dX11_chain_2 : decode cX11_chain 2 = .ok (.invokevirtual 196, 3) := by decide +kernel
theorem dX11_chain_5 : decode cX11_chain 5 = .ok (.iload_n 2, 1) := by decide +kernel
theorem dX11_chain_6 : decode cX11_chain 6 = .ok (.ifCond .lt 16, 3) := by decide +kernel
theorem dX11_chain_9 : decode cX11_chain 9 = .ok (.iload_n 2, 1) := by decide +kernel
theorem dX11_chain_10 : decode cX11_chain 10 = .ok (.aload_n 0, 1) := by decide +kernel
theorem dX11_chain_11 : decode cX11_chain 11 = .ok (.getfield 37, 3) := by decide +kernel
theorem dX11_chain_14 : decode cX11_chain 14 = .ok (.getfield 199, 3) := by decide +kernel
theorem dX11_chain_17 : decode cX11_chain 17 = .ok (.iload_n 1, 1) := by decide +kernel
theorem dX11_chain_18 : decode cX11_chain 18 = .ok (.iaload, 1) := by decide +kernel
theorem dX11_chain_19 : decode cX11_chain 19 = .ok (.if_icmp .le 13, 3) := by decide +kernel
theorem dX11_chain_22 : decode cX11_chain 22 = .ok (.new 85, 3) := by decide +kernel
theorem dX11_chain_25 : decode cX11_chain 25 = .ok (.dup, 1) := by decide +kernel
theorem dX11_chain_26 : decode cX11_chain 26 = .ok (.ldc 202, 2) := by decide +kernel
theorem dX11_chain_28 : decode cX11_chain 28 = .ok (.invokespecial 89, 3) := by decide +kernel
theorem dX11_chain_31 : decode cX11_chain 31 = .ok (.athrow, 1) := by decide +kernel
theorem dX11_chain_32 : decode cX11_chain 32 = .ok (.aload_n 0, 1) := by decide +kernel
theorem dX11_chain_33 : decode cX11_chain 33 = .ok (.getfield 37, 3) := by decide +kernel
theorem dX11_chain_36 : decode cX11_chain 36 = .ok (.iload_n 1, 1) := by decide +kernel
theorem dX11_chain_37 : decode cX11_chain 37 = .ok (.iload_n 2, 1) := by decide +kernel
theorem dX11_chain_38 : decode cX11_chain 38 = .ok (.invokevirtual 204, 3) := by decide +kernel
theorem dX11_chain_41 : decode cX11_chain 41 = .ok (.ireturn, 1) := by decide +kernel
abbrev M_X11_chain : aM := (yX11_chain.cls, cX11_chain, 3, (some .int), [], yX11_chain.name == "<init>")
abbrev J_X11_chain (l : Launch) (E : aE) (n0 m0 : Nat) := GG (eT (fun (v : Int32) => some (.int v))) l E M_X11_chain 7 111 n0 m0
theorem b_X11_chain {l : Launch} {E : aE} (hl : l.stackTraces = false) (n0 m0 : Nat) (x1 : Nat) (x2 : Int32) (x3 : Int32) (h0 : aH) : J_X11_chain l E n0 m0 0 [(0, .ref (e_z E + x1)), (1, .int x2), (2, .int x3)] [] h0 (m_X11_chain x1 x2 x3 h0) := by
  unfold m_X11_chain
  refine g_aload_n (pc := 0) dX11_chain_0 0 rfl ?_
  refine g_iload_n (pc := 1) dX11_chain_1 1 rfl ?_
  refine g_gS (fun hs => ?_)
  refine g_bXv (pc := 2) rfl (c_V cl11 hs (p_X11_needPager hl x1 x2 h0) y_X11_needPager tw1026 dX11_chain_2 rfl (st := []) rfl (Nat.le_of_ble_eq_true rfl) (Nat.le_of_ble_eq_true rfl) (Nat.le_of_ble_eq_true rfl)) (fun _ h1 => ?_)
  refine g_iload_n (pc := 5) dX11_chain_5 2 rfl ?_
  refine g_join (fun k => ∀ (h2 : aH), J_X11_chain l E n0 m0 22 [] [] h2 (k h2)) (fun h2 => ?_) (fun k22 hk22 => ?_)
  · exact g_throwE (pc := 22) rfl exf_IOB exn tx_11 ⟨tw622, rfl, rfl⟩ exi_IOB (xw_of exw_IOB ⟨tw632, rfl, rfl⟩) dX11_chain_22 dX11_chain_25 dX11_chain_26 dX11_chain_28 dX11_chain_31 (Nat.le_of_ble_eq_true rfl) (Nat.le_of_ble_eq_true rfl)
  refine g_iflt (pc := 6) (tgt := 22) dX11_chain_6 rfl ?_ ?_
  · refine g_lv [] rfl ?_
    exact hk22 h1
  · refine g_iload_n (pc := 9) dX11_chain_9 2 rfl ?_
    refine g_aload_n (pc := 10) dX11_chain_10 0 rfl ?_
    refine g_getr (pc := 11) cl11 (Nat.le_of_ble_eq_true rfl) fk495 (fun _ _ _ => rfl) dX11_chain_11 (fun x4 => ?_)
    refine g_getr (pc := 14) cl10 (Nat.le_of_ble_eq_true rfl) fk367 (fun _ _ _ => rfl) dX11_chain_14 (fun x5 => ?_)
    refine g_iload_n (pc := 17) dX11_chain_17 1 rfl ?_
    refine g_iald (pc := 18) dX11_chain_18 (fun x6 => ?_)
    refine g_icmple (pc := 19) (tgt := 32) dX11_chain_19 rfl ?_ ?_
    · refine g_aload_n (pc := 32) dX11_chain_32 0 rfl ?_
      refine g_getr (pc := 33) cl11 (Nat.le_of_ble_eq_true rfl) fk495 (fun _ _ _ => rfl) dX11_chain_33 (fun x7 => ?_)
      refine g_iload_n (pc := 36) dX11_chain_36 1 rfl ?_
      refine g_iload_n (pc := 37) dX11_chain_37 2 rfl ?_
      refine g_gS (fun hs => ?_)
      refine g_bRi (pc := 38) (c_VN cl10 hs (p_X10_chainPerson hl x7 x2 x3 h1) y_X10_chainPerson tw1032 dX11_chain_38 rfl (st := []) rfl (Nat.le_of_ble_eq_true rfl) (Nat.le_of_ble_eq_true rfl) (Nat.le_of_ble_eq_true rfl)) (fun x8 h3 => ?_)
      exact g_ret (pc := 41) rfl (isRet_i _) dX11_chain_41 rfl
    · refine g_lv [] rfl ?_
      exact hk22 h1
theorem p_X11_chain {l : Launch} {E : aE} (hl : l.stackTraces = false) (x1 : Nat) (x2 : Int32) (x3 : Int32) (h0 : aH) : MO (eT (fun (v : Int32) => some (.int v))) l E yX11_chain (.code yX11_chain cX11_chain 3 (some .int)) 7 111 [.ref (e_z E + x1), .int x2, .int x3] h0 (m_X11_chain x1 x2 x3 h0) := g_met hl (by decide +kernel) (Nat.le_of_ble_eq_true rfl) (b_X11_chain hl _ _ x1 x2 x3 h0)
theorem dX11_handOns_0 : decode cX11_handOns 0 = .ok (.aload_n 0, 1) := by decide +kernel
theorem dX11_handOns_1 : decode cX11_handOns 1 = .ok (.iload_n 1, 1) := by decide +kernel
theorem dX11_handOns_2 : decode cX11_handOns 2 = .ok (.invokevirtual 196, 3) := by decide +kernel
theorem dX11_handOns_5 : decode cX11_handOns 5 = .ok (.aload_n 0, 1) := by decide +kernel
theorem dX11_handOns_6 : decode cX11_handOns 6 = .ok (.getfield 37, 3) := by decide +kernel
theorem dX11_handOns_9 : decode cX11_handOns 9 = .ok (.getfield 199, 3) := by decide +kernel
theorem dX11_handOns_12 : decode cX11_handOns 12 = .ok (.iload_n 1, 1) := by decide +kernel
theorem dX11_handOns_13 : decode cX11_handOns 13 = .ok (.iaload, 1) := by decide +kernel
theorem dX11_handOns_14 : decode cX11_handOns 14 = .ok (.ireturn, 1) := by decide +kernel
abbrev M_X11_handOns : aM := (yX11_handOns.cls, cX11_handOns, 2, (some .int), [], yX11_handOns.name == "<init>")
abbrev J_X11_handOns (l : Launch) (E : aE) (n0 m0 : Nat) := GG (eT (fun (v : Int32) => some (.int v))) l E M_X11_handOns 7 111 n0 m0
theorem b_X11_handOns {l : Launch} {E : aE} (hl : l.stackTraces = false) (n0 m0 : Nat) (x1 : Nat) (x2 : Int32) (h0 : aH) : J_X11_handOns l E n0 m0 0 [(0, .ref (e_z E + x1)), (1, .int x2)] [] h0 (m_X11_handOns x1 x2 h0) := by
  unfold m_X11_handOns
  refine g_aload_n (pc := 0) dX11_handOns_0 0 rfl ?_
  refine g_iload_n (pc := 1) dX11_handOns_1 1 rfl ?_
  refine g_gS (fun hs => ?_)
  refine g_bXv (pc := 2) rfl (c_V cl11 hs (p_X11_needPager hl x1 x2 h0) y_X11_needPager tw1026 dX11_handOns_2 rfl (st := []) rfl (Nat.le_of_ble_eq_true rfl) (Nat.le_of_ble_eq_true rfl) (Nat.le_of_ble_eq_true rfl)) (fun _ h1 => ?_)
  refine g_aload_n (pc := 5) dX11_handOns_5 0 rfl ?_
  refine g_getr (pc := 6) cl11 (Nat.le_of_ble_eq_true rfl) fk495 (fun _ _ _ => rfl) dX11_handOns_6 (fun x3 => ?_)
  refine g_getr (pc := 9) cl10 (Nat.le_of_ble_eq_true rfl) fk367 (fun _ _ _ => rfl) dX11_handOns_9 (fun x4 => ?_)
  refine g_iload_n (pc := 12) dX11_handOns_12 1 rfl ?_
  refine g_iald (pc := 13) dX11_handOns_13 (fun x5 => ?_)
  exact g_ret (pc := 14) rfl (isRet_i _) dX11_handOns_14 rfl
theorem p_X11_handOns {l : Launch} {E : aE} (hl : l.stackTraces = false) (x1 : Nat) (x2 : Int32) (h0 : aH) : MO (eT (fun (v : Int32) => some (.int v))) l E yX11_handOns (.code yX11_handOns cX11_handOns 2 (some .int)) 7 111 [.ref (e_z E + x1), .int x2] h0 (m_X11_handOns x1 x2 h0) := g_met hl (by decide +kernel) (Nat.le_of_ble_eq_true rfl) (b_X11_handOns hl _ _ x1 x2 h0)
theorem dX11_holdingEnd_0 : decode cX11_holdingEnd 0 = .ok (.aload_n 0, 1) := by decide +kernel
theorem dX11_holdingEnd_1 : decode cX11_holdingEnd 1 = .ok (.iload_n 1, 1) := by decide +kernel
theorem dX11_holdingEnd_2 : decode cX11_holdingEnd 2 = .ok (.invokevirtual 196, 3) := by decide +kernel
theorem dX11_holdingEnd_5 : decode cX11_holdingEnd 5 = .ok (.aload_n 0, 1) := by decide +kernel
theorem dX11_holdingEnd_6 : decode cX11_holdingEnd 6 = .ok (.getfield 37, 3) := by decide +kernel
theorem dX11_holdingEnd_9 : decode cX11_holdingEnd 9 = .ok (.iload_n 1, 1) := by decide +kernel
theorem dX11_holdingEnd_10 : decode cX11_holdingEnd 10 = .ok (.aload_n 0, 1) := by decide +kernel
theorem dX11_holdingEnd_11 : decode cX11_holdingEnd 11 = .ok (.getfield 37, 3) := by decide +kernel
theorem dX11_holdingEnd_14 : decode cX11_holdingEnd 14 = .ok (.getfield 144, 3) := by decide +kernel
theorem dX11_holdingEnd_17 : decode cX11_holdingEnd 17 = .ok (.invokevirtual 207, 3) := by decide +kernel
theorem dX11_holdingEnd_20 : decode cX11_holdingEnd 20 = .ok (.ireturn, 1) := by decide +kernel
abbrev M_X11_holdingEnd : aM := (yX11_holdingEnd.cls, cX11_holdingEnd, 2, (some .int), [], yX11_holdingEnd.name == "<init>")
abbrev J_X11_holdingEnd (l : Launch) (E : aE) (n0 m0 : Nat) := GG (eT (fun (v : Int32) => some (.int v))) l E M_X11_holdingEnd 7 111 n0 m0
theorem b_X11_holdingEnd {l : Launch} {E : aE} (hl : l.stackTraces = false) (n0 m0 : Nat) (x1 : Nat) (x2 : Int32) (h0 : aH) : J_X11_holdingEnd l E n0 m0 0 [(0, .ref (e_z E + x1)), (1, .int x2)] [] h0 (m_X11_holdingEnd x1 x2 h0) := by
  unfold m_X11_holdingEnd
  refine g_aload_n (pc := 0) dX11_holdingEnd_0 0 rfl ?_
  refine g_iload_n (pc := 1) dX11_holdingEnd_1 1 rfl ?_
  refine g_gS (fun hs => ?_)
  refine g_bXv (pc := 2) rfl (c_V cl11 hs (p_X11_needPager hl x1 x2 h0) y_X11_needPager tw1026 dX11_holdingEnd_2 rfl (st := []) rfl (Nat.le_of_ble_eq_true rfl) (Nat.le_of_ble_eq_true rfl) (Nat.le_of_ble_eq_true rfl)) (fun _ h1 => ?_)
  refine g_aload_n (pc := 5) dX11_holdingEnd_5 0 rfl ?_
  refine g_getr (pc := 6) cl11 (Nat.le_of_ble_eq_true rfl) fk495 (fun _ _ _ => rfl) dX11_holdingEnd_6 (fun x3 => ?_)
  refine g_iload_n (pc := 9) dX11_holdingEnd_9 1 rfl ?_
  refine g_aload_n (pc := 10) dX11_holdingEnd_10 0 rfl ?_
  refine g_getr (pc := 11) cl11 (Nat.le_of_ble_eq_true rfl) fk495 (fun _ _ _ => rfl) dX11_holdingEnd_11 (fun x4 => ?_)
  refine g_geti (pc := 14) cl10 (Nat.le_of_ble_eq_true rfl) fk351 (fun _ _ _ => rfl) dX11_holdingEnd_14 (fun x5 => ?_)
  refine g_gS (fun hs => ?_)
  refine g_bRi (pc := 17) (c_VN cl10 hs (p_X10_endAt hl x3 x2 x5 h1) y_X10_endAt tw1054 dX11_holdingEnd_17 rfl (st := []) rfl (Nat.le_of_ble_eq_true rfl) (Nat.le_of_ble_eq_true rfl) (Nat.le_of_ble_eq_true rfl)) (fun x6 h2 => ?_)
  exact g_ret (pc := 20) rfl (isRet_i _) dX11_holdingEnd_20 rfl
theorem p_X11_holdingEnd {l : Launch} {E : aE} (hl : l.stackTraces = false) (x1 : Nat) (x2 : Int32) (h0 : aH) : MO (eT (fun (v : Int32) => some (.int v))) l E yX11_holdingEnd (.code yX11_holdingEnd cX11_holdingEnd 2 (some .int)) 7 111 [.ref (e_z E + x1), .int x2] h0 (m_X11_holdingEnd x1 x2 h0) := g_met hl (by decide +kernel) (Nat.le_of_ble_eq_true rfl) (b_X11_holdingEnd hl _ _ x1 x2 h0)
theorem dX11_needPlace_0 : decode cX11_needPlace 0 = .ok (.iload_n 2, 1) := by decide +kernel
theorem dX11_needPlace_1 : decode cX11_needPlace 1 = .ok (.ifCond .lt 19, 3) := by decide +kernel
theorem dX11_needPlace_4 : decode cX11_needPlace 4 = .ok (.iload_n 2, 1) := by decide +kernel
theorem dX11_needPlace_5 : decode cX11_needPlace 5 = .ok (.aload_n 0, 1) := by decide +kernel
theorem dX11_needPlace_6 : decode cX11_needPlace 6 = .ok (.getfield 25, 3) := by decide +kernel
theorem dX11_needPlace_9 : decode cX11_needPlace 9 = .ok (.getfield 418, 3) := by decide +kernel
theorem dX11_needPlace_12 : decode cX11_needPlace 12 = .ok (.iload_n 1, 1) := by decide +kernel
theorem dX11_needPlace_13 : decode cX11_needPlace 13 = .ok (.aaload, 1) := by decide +kernel
theorem dX11_needPlace_14 : decode cX11_needPlace 14 = .ok (.getfield 422, 3) := by decide +kernel
theorem dX11_needPlace_17 : decode cX11_needPlace 17 = .ok (.if_icmp .lt 14, 3) := by decide +kernel
theorem dX11_needPlace_20 : decode cX11_needPlace 20 = .ok (.new 85, 3) := by decide +kernel
theorem dX11_needPlace_23 : decode cX11_needPlace 23 = .ok (.dup, 1) := by decide +kernel
theorem dX11_needPlace_24 : decode cX11_needPlace 24 = .ok (.ldc_w 427, 3) := by decide +kernel
theorem dX11_needPlace_27 : decode cX11_needPlace 27 = .ok (.invokespecial 89, 3) := by decide +kernel
theorem dX11_needPlace_30 : decode cX11_needPlace 30 = .ok (.athrow, 1) := by decide +kernel
theorem dX11_needPlace_31 : decode cX11_needPlace 31 = .ok (.return_, 1) := by decide +kernel
abbrev M_X11_needPlace : aM := (yX11_needPlace.cls, cX11_needPlace, 3, none, [], yX11_needPlace.name == "<init>")
abbrev J_X11_needPlace (l : Launch) (E : aE) (n0 m0 : Nat) := GG (eT (fun (_ : Unit) => none)) l E M_X11_needPlace 6 90 n0 m0
theorem b_X11_needPlace {l : Launch} {E : aE} (hl : l.stackTraces = false) (n0 m0 : Nat) (x1 : Nat) (x2 : Int32) (x3 : Int32) (h0 : aH) : J_X11_needPlace l E n0 m0 0 [(0, .ref (e_z E + x1)), (1, .int x2), (2, .int x3)] [] h0 (m_X11_needPlace x1 x2 x3 h0) := by
  unfold m_X11_needPlace
  refine g_iload_n (pc := 0) dX11_needPlace_0 2 rfl ?_
  refine g_join (fun k => ∀ (h1 : aH), J_X11_needPlace l E n0 m0 20 [] [] h1 (k h1)) (fun h1 => ?_) (fun k20 hk20 => ?_)
  · exact g_throwEW (pc := 20) rfl exf_IOB exn tx_12 ⟨tw622, rfl, rfl⟩ exi_IOB (xw_of exw_IOB ⟨tw632, rfl, rfl⟩) dX11_needPlace_20 dX11_needPlace_23 dX11_needPlace_24 dX11_needPlace_27 dX11_needPlace_30 (Nat.le_of_ble_eq_true rfl) (Nat.le_of_ble_eq_true rfl)
  refine g_iflt (pc := 1) (tgt := 20) dX11_needPlace_1 rfl ?_ ?_
  · refine g_lv [] rfl ?_
    exact hk20 h0
  · refine g_iload_n (pc := 4) dX11_needPlace_4 2 rfl ?_
    refine g_aload_n (pc := 5) dX11_needPlace_5 0 rfl ?_
    refine g_getr (pc := 6) cl11 (Nat.le_of_ble_eq_true rfl) fk493 (fun _ _ _ => rfl) dX11_needPlace_6 (fun x4 => ?_)
    refine g_getr (pc := 9) cl8 (Nat.le_of_ble_eq_true rfl) fk259 (fun _ _ _ => rfl) dX11_needPlace_9 (fun x5 => ?_)
    refine g_iload_n (pc := 12) dX11_needPlace_12 1 rfl ?_
    refine g_aald (pc := 13) (t := 6) (Nat.le_of_ble_eq_true rfl) (Nat.le_of_ble_eq_true rfl) dX11_needPlace_13 (fun x6 => ?_)
    refine g_geti (pc := 14) cl6 (Nat.le_of_ble_eq_true rfl) fk148 (fun _ _ _ => rfl) dX11_needPlace_14 (fun x7 => ?_)
    refine g_icmplt (pc := 17) (tgt := 31) dX11_needPlace_17 rfl ?_ ?_
    · exact g_ret (pc := 31) rfl isRet_v dX11_needPlace_31 rfl
    · refine g_lv [] rfl ?_
      exact hk20 h0
theorem p_X11_needPlace {l : Launch} {E : aE} (hl : l.stackTraces = false) (x1 : Nat) (x2 : Int32) (x3 : Int32) (h0 : aH) : MO (eT (fun (_ : Unit) => none)) l E yX11_needPlace (.code yX11_needPlace cX11_needPlace 3 none) 6 90 [.ref (e_z E + x1), .int x2, .int x3] h0 (m_X11_needPlace x1 x2 x3 h0) := g_met hl (by decide +kernel) (Nat.le_of_ble_eq_true rfl) (b_X11_needPlace hl _ _ x1 x2 x3 h0)
theorem dX11_rotation_0 : decode cX11_rotation 0 = .ok (.aload_n 0, 1) := by decide +kernel
theorem dX11_rotation_1 : decode cX11_rotation 1 = .ok (.iload_n 1, 1) := by decide +kernel
theorem dX11_rotation_2 : decode cX11_rotation 2 = .ok (.invokevirtual 196, 3) := by decide +kernel
theorem dX11_rotation_5 : decode cX11_rotation 5 = .ok (.aload_n 0, 1) := by decide +kernel
theorem dX11_rotation_6 : decode cX11_rotation 6 = .ok (.iload_n 1, 1) := by decide +kernel
theorem dX11_rotation_7 : decode cX11_rotation 7 = .ok (.iload_n 2, 1) := by decide +kernel
theorem dX11_rotation_8 : decode cX11_rotation 8 = .ok (.invokevirtual 210, 3) := by decide +kernel
theorem dX11_rotation_11 : decode cX11_rotation 11 = .ok (.aload_n 0, 1) := by decide +kernel
theorem dX11_rotation_12 : decode cX11_rotation 12 = .ok (.getfield 37, 3) := by decide +kernel
theorem dX11_rotation_15 : decode cX11_rotation 15 = .ok (.getfield 213, 3) := by decide +kernel
theorem dX11_rotation_18 : decode cX11_rotation 18 = .ok (.iload_n 1, 1) := by decide +kernel
theorem dX11_rotation_19 : decode cX11_rotation 19 = .ok (.bipush 8, 2) := by decide +kernel
theorem dX11_rotation_21 : decode cX11_rotation 21 = .ok (.imul, 1) := by decide +kernel
theorem dX11_rotation_22 : decode cX11_rotation 22 = .ok (.iload_n 2, 1) := by decide +kernel
theorem dX11_rotation_23 : decode cX11_rotation 23 = .ok (.iadd, 1) := by decide +kernel
theorem dX11_rotation_24 : decode cX11_rotation 24 = .ok (.iaload, 1) := by decide +kernel
theorem dX11_rotation_25 : decode cX11_rotation 25 = .ok (.ireturn, 1) := by decide +kernel
abbrev M_X11_rotation : aM := (yX11_rotation.cls, cX11_rotation, 3, (some .int), [], yX11_rotation.name == "<init>")
abbrev J_X11_rotation (l : Launch) (E : aE) (n0 m0 : Nat) := GG (eT (fun (v : Int32) => some (.int v))) l E M_X11_rotation 7 112 n0 m0
theorem b_X11_rotation {l : Launch} {E : aE} (hl : l.stackTraces = false) (n0 m0 : Nat) (x1 : Nat) (x2 : Int32) (x3 : Int32) (h0 : aH) : J_X11_rotation l E n0 m0 0 [(0, .ref (e_z E + x1)), (1, .int x2), (2, .int x3)] [] h0 (m_X11_rotation x1 x2 x3 h0) := by
  unfold m_X11_rotation
  refine g_aload_n (pc := 0) dX11_rotation_0 0 rfl ?_
  refine g_iload_n (pc := 1) dX11_rotation_1 1 rfl ?_
  refine g_gS (fun hs => ?_)
  refine g_bXv (pc := 2) rfl (c_V cl11 hs (p_X11_needPager hl x1 x2 h0) y_X11_needPager tw1026 dX11_rotation_2 rfl (st := []) rfl (Nat.le_of_ble_eq_true rfl) (Nat.le_of_ble_eq_true rfl) (Nat.le_of_ble_eq_true rfl)) (fun _ h1 => ?_)
  refine g_aload_n (pc := 5) dX11_rotation_5 0 rfl ?_
  refine g_iload_n (pc := 6) dX11_rotation_6 1 rfl ?_
  refine g_iload_n (pc := 7) dX11_rotation_7 2 rfl ?_
  refine g_gS (fun hs => ?_)
  refine g_bXv (pc := 8) rfl (c_V cl11 hs (p_X11_needPlace hl x1 x2 x3 h1) y_X11_needPlace tw1069 dX11_rotation_8 rfl (st := []) rfl (Nat.le_of_ble_eq_true rfl) (Nat.le_of_ble_eq_true rfl) (Nat.le_of_ble_eq_true rfl)) (fun _ h2 => ?_)
  refine g_aload_n (pc := 11) dX11_rotation_11 0 rfl ?_
  refine g_getr (pc := 12) cl11 (Nat.le_of_ble_eq_true rfl) fk495 (fun _ _ _ => rfl) dX11_rotation_12 (fun x4 => ?_)
  refine g_getr (pc := 15) cl10 (Nat.le_of_ble_eq_true rfl) fk364 (fun _ _ _ => rfl) dX11_rotation_15 (fun x5 => ?_)
  refine g_iload_n (pc := 18) dX11_rotation_18 1 rfl ?_
  refine g_bipush (pc := 19) dX11_rotation_19 cb_8 ?_
  refine g_imul (pc := 21) dX11_rotation_21 ?_
  refine g_iload_n (pc := 22) dX11_rotation_22 2 rfl ?_
  refine g_iadd (pc := 23) dX11_rotation_23 ?_
  refine g_iald (pc := 24) dX11_rotation_24 (fun x6 => ?_)
  exact g_ret (pc := 25) rfl (isRet_i _) dX11_rotation_25 rfl
theorem p_X11_rotation {l : Launch} {E : aE} (hl : l.stackTraces = false) (x1 : Nat) (x2 : Int32) (x3 : Int32) (h0 : aH) : MO (eT (fun (v : Int32) => some (.int v))) l E yX11_rotation (.code yX11_rotation cX11_rotation 3 (some .int)) 7 112 [.ref (e_z E + x1), .int x2, .int x3] h0 (m_X11_rotation x1 x2 x3 h0) := g_met hl (by decide +kernel) (Nat.le_of_ble_eq_true rfl) (b_X11_rotation hl _ _ x1 x2 x3 h0)
theorem dX11_holderAt_0 : decode cX11_holderAt 0 = .ok (.aload_n 0, 1) := by decide +kernel
theorem dX11_holderAt_1 : decode cX11_holderAt 1 = .ok (.iload_n 1, 1) := by decide +kernel
theorem dX11_holderAt_2 : decode cX11_holderAt 2 = .ok (.invokevirtual 196, 3) := by decide +kernel
theorem dX11_holderAt_5 : decode cX11_holderAt 5 = .ok (.iload_n 2, 1) := by decide +kernel
theorem dX11_holderAt_6 : decode cX11_holderAt 6 = .ok (.aload_n 0, 1) := by decide +kernel
theorem dX11_holderAt_7 : decode cX11_holderAt 7 = .ok (.getfield 37, 3) := by decide +kernel
theorem dX11_holderAt_10 : decode cX11_holderAt 10 = .ok (.getfield 144, 3) := by decide +kernel
theorem dX11_holderAt_13 : decode cX11_holderAt 13 = .ok (.if_icmp .lt 10, 3) := by decide +kernel
theorem dX11_holderAt_16 : decode cX11_holderAt 16 = .ok (.iload_n 2, 1) := by decide +kernel
theorem dX11_holderAt_17 : decode cX11_holderAt 17 = .ok (.sipush 20160, 3) := by decide +kernel
theorem dX11_holderAt_20 : decode cX11_holderAt 20 = .ok (.if_icmp .le 13, 3) := by decide +kernel
theorem dX11_holderAt_23 : decode cX11_holderAt 23 = .ok (.new 94, 3) := by decide +kernel
theorem dX11_holderAt_26 : decode cX11_holderAt 26 = .ok (.dup, 1) := by decide +kernel
theorem dX11_holderAt_27 : decode cX11_holderAt 27 = .ok (.ldc 216, 2) := by decide +kernel
theorem dX11_holderAt_29 : decode cX11_holderAt 29 = .ok (.invokespecial 98, 3) := by decide +kernel
theorem dX11_holderAt_32 : decode cX11_holderAt 32 = .ok (.athrow, 1) := by decide +kernel
theorem dX11_holderAt_33 : decode cX11_holderAt 33 = .ok (.aload_n 0, 1) := by decide +kernel
theorem dX11_holderAt_34 : decode cX11_holderAt 34 = .ok (.getfield 37, 3) := by decide +kernel
theorem dX11_holderAt_37 : decode cX11_holderAt 37 = .ok (.iload_n 1, 1) := by decide +kernel
theorem dX11_holderAt_38 : decode cX11_holderAt 38 = .ok (.iload_n 2, 1) := by decide +kernel
theorem dX11_holderAt_39 : decode cX11_holderAt 39 = .ok (.invokevirtual 218, 3) := by decide +kernel
theorem dX11_holderAt_42 : decode cX11_holderAt 42 = .ok (.ireturn, 1) := by decide +kernel
abbrev M_X11_holderAt : aM := (yX11_holderAt.cls, cX11_holderAt, 3, (some .int), [], yX11_holderAt.name == "<init>")
abbrev J_X11_holderAt (l : Launch) (E : aE) (n0 m0 : Nat) := GG (eT (fun (v : Int32) => some (.int v))) l E M_X11_holderAt 7 111 n0 m0
theorem b_X11_holderAt {l : Launch} {E : aE} (hl : l.stackTraces = false) (n0 m0 : Nat) (x1 : Nat) (x2 : Int32) (x3 : Int32) (h0 : aH) : J_X11_holderAt l E n0 m0 0 [(0, .ref (e_z E + x1)), (1, .int x2), (2, .int x3)] [] h0 (m_X11_holderAt x1 x2 x3 h0) := by
  unfold m_X11_holderAt
  refine g_aload_n (pc := 0) dX11_holderAt_0 0 rfl ?_
  refine g_iload_n (pc := 1) dX11_holderAt_1 1 rfl ?_
  refine g_gS (fun hs => ?_)
  refine g_bXv (pc := 2) rfl (c_V cl11 hs (p_X11_needPager hl x1 x2 h0) y_X11_needPager tw1026 dX11_holderAt_2 rfl (st := []) rfl (Nat.le_of_ble_eq_true rfl) (Nat.le_of_ble_eq_true rfl) (Nat.le_of_ble_eq_true rfl)) (fun _ h1 => ?_)
  refine g_iload_n (pc := 5) dX11_holderAt_5 2 rfl ?_
  refine g_aload_n (pc := 6) dX11_holderAt_6 0 rfl ?_
  refine g_getr (pc := 7) cl11 (Nat.le_of_ble_eq_true rfl) fk495 (fun _ _ _ => rfl) dX11_holderAt_7 (fun x4 => ?_)
  refine g_geti (pc := 10) cl10 (Nat.le_of_ble_eq_true rfl) fk351 (fun _ _ _ => rfl) dX11_holderAt_10 (fun x5 => ?_)
  refine g_join (fun k => ∀ (h2 : aH), J_X11_holderAt l E n0 m0 23 [] [] h2 (k h2)) (fun h2 => ?_) (fun k23 hk23 => ?_)
  · exact g_throwE (pc := 23) rfl exf_IAE exn tx_13 ⟨tw830, rfl, rfl⟩ exi_IAE (xw_of exw_IAE ⟨tw840, rfl, rfl⟩) dX11_holderAt_23 dX11_holderAt_26 dX11_holderAt_27 dX11_holderAt_29 dX11_holderAt_32 (Nat.le_of_ble_eq_true rfl) (Nat.le_of_ble_eq_true rfl)
  refine g_icmplt (pc := 13) (tgt := 23) dX11_holderAt_13 rfl ?_ ?_
  · refine g_lv [] rfl ?_
    exact hk23 h1
  · refine g_iload_n (pc := 16) dX11_holderAt_16 2 rfl ?_
    refine g_sipush (pc := 17) dX11_holderAt_17 cs_20160 ?_
    refine g_icmple (pc := 20) (tgt := 33) dX11_holderAt_20 rfl ?_ ?_
    · refine g_aload_n (pc := 33) dX11_holderAt_33 0 rfl ?_
      refine g_getr (pc := 34) cl11 (Nat.le_of_ble_eq_true rfl) fk495 (fun _ _ _ => rfl) dX11_holderAt_34 (fun x6 => ?_)
      refine g_iload_n (pc := 37) dX11_holderAt_37 1 rfl ?_
      refine g_iload_n (pc := 38) dX11_holderAt_38 2 rfl ?_
      refine g_gS (fun hs => ?_)
      refine g_bRi (pc := 39) (c_VN cl10 hs (p_X10_holderThen hl x6 x2 x3 h1) y_X10_holderThen tw1082 dX11_holderAt_39 rfl (st := []) rfl (Nat.le_of_ble_eq_true rfl) (Nat.le_of_ble_eq_true rfl) (Nat.le_of_ble_eq_true rfl)) (fun x7 h3 => ?_)
      exact g_ret (pc := 42) rfl (isRet_i _) dX11_holderAt_42 rfl
    · refine g_lv [] rfl ?_
      exact hk23 h1
theorem p_X11_holderAt {l : Launch} {E : aE} (hl : l.stackTraces = false) (x1 : Nat) (x2 : Int32) (x3 : Int32) (h0 : aH) : MO (eT (fun (v : Int32) => some (.int v))) l E yX11_holderAt (.code yX11_holderAt cX11_holderAt 3 (some .int)) 7 111 [.ref (e_z E + x1), .int x2, .int x3] h0 (m_X11_holderAt x1 x2 x3 h0) := g_met hl (by decide +kernel) (Nat.le_of_ble_eq_true rfl) (b_X11_holderAt hl _ _ x1 x2 x3 h0)
theorem dX11_dutyMinutes_0 : decode cX11_dutyMinutes 0 = .ok (.aload_n 0, 1) := by decide +kernel
theorem dX11_dutyMinutes_1 : decode cX11_dutyMinutes 1 = .ok (.iload_n 1, 1) := by decide +kernel
theorem dX11_dutyMinutes_2 : decode cX11_dutyMinutes 2 = .ok (.invokevirtual 153, 3) := by decide +kernel
theorem dX11_dutyMinutes_5 : decode cX11_dutyMinutes 5 = .ok (.iload_n 2, 1) := by decide +kernel
theorem dX11_dutyMinutes_6 : decode cX11_dutyMinutes 6 = .ok (.iconst 1, 1) := by decide +kernel
theorem dX11_dutyMinutes_7 : decode cX11_dutyMinutes 7 = .ok (.if_icmp .lt 10, 3) := by decide +kernel
theorem dX11_dutyMinutes_10 : decode cX11_dutyMinutes 10 = .ok (.iload_n 2, 1) := by decide +kernel
theorem dX11_dutyMinutes_11 : decode cX11_dutyMinutes 11 = .ok (.sipush 1440, 3) := by decide +kernel
theorem dX11_dutyMinutes_14 : decode cX11_dutyMinutes 14 = .ok (.if_icmp .le 13, 3) := by decide +kernel
theorem dX11_dutyMinutes_17 : decode cX11_dutyMinutes 17 = .ok (.new 94, 3) := by decide +kernel
theorem dX11_dutyMinutes_20 : decode cX11_dutyMinutes 20 = .ok (.dup, 1) := by decide +kernel
theorem dX11_dutyMinutes_21 : decode cX11_dutyMinutes 21 = .ok (.ldc 221, 2) := by decide +kernel
theorem dX11_dutyMinutes_23 : decode cX11_dutyMinutes 23 = .ok (.invokespecial 98, 3) := by decide +kernel
theorem dX11_dutyMinutes_26 : decode cX11_dutyMinutes 26 = .ok (.athrow, 1) := by decide +kernel
theorem dX11_dutyMinutes_27 : decode cX11_dutyMinutes 27 = .ok (.aload_n 0, 1) := by decide +kernel
theorem dX11_dutyMinutes_28 : decode cX11_dutyMinutes 28 = .ok (.getfield 37, 3) := by decide +kernel
theorem dX11_dutyMinutes_31 : decode cX11_dutyMinutes 31 = .ok (.iload_n 1, 1) := by decide +kernel
theorem dX11_dutyMinutes_32 : decode cX11_dutyMinutes 32 = .ok (.aload_n 0, 1) := by decide +kernel
theorem dX11_dutyMinutes_33 : decode cX11_dutyMinutes 33 = .ok (.getfield 37, 3) := by decide +kernel
theorem dX11_dutyMinutes_36 : decode cX11_dutyMinutes 36 = .ok (.getfield 144, 3) := by decide +kernel
theorem dX11_dutyMinutes_39 : decode cX11_dutyMinutes 39 = .ok (.iload_n 2, 1) := by decide +kernel
theorem dX11_dutyMinutes_40 : decode cX11_dutyMinutes 40 = .ok (.iadd, 1) := by decide +kernel
theorem dX11_dutyMinutes_41 : decode cX11_dutyMinutes 41 = .ok (.invokevirtual 223, 3) := by decide +kernel
theorem dX11_dutyMinutes_44 : decode cX11_dutyMinutes 44 = .ok (.ireturn, 1) := by decide +kernel
abbrev M_X11_dutyMinutes : aM := (yX11_dutyMinutes.cls, cX11_dutyMinutes, 3, (some .int), [], yX11_dutyMinutes.name == "<init>")
abbrev J_X11_dutyMinutes (l : Launch) (E : aE) (n0 m0 : Nat) := GG (eT (fun (v : Int32) => some (.int v))) l E M_X11_dutyMinutes 7 111 n0 m0
theorem b_X11_dutyMinutes {l : Launch} {E : aE} (hl : l.stackTraces = false) (n0 m0 : Nat) (x1 : Nat) (x2 : Int32) (x3 : Int32) (h0 : aH) : J_X11_dutyMinutes l E n0 m0 0 [(0, .ref (e_z E + x1)), (1, .int x2), (2, .int x3)] [] h0 (m_X11_dutyMinutes x1 x2 x3 h0) := by
  unfold m_X11_dutyMinutes
  refine g_aload_n (pc := 0) dX11_dutyMinutes_0 0 rfl ?_
  refine g_iload_n (pc := 1) dX11_dutyMinutes_1 1 rfl ?_
  refine g_gS (fun hs => ?_)
  refine g_bXv (pc := 2) rfl (c_V cl11 hs (p_X11_needPerson hl x1 x2 h0) y_X11_needPerson tw925 dX11_dutyMinutes_2 rfl (st := []) rfl (Nat.le_of_ble_eq_true rfl) (Nat.le_of_ble_eq_true rfl) (Nat.le_of_ble_eq_true rfl)) (fun _ h1 => ?_)
  refine g_iload_n (pc := 5) dX11_dutyMinutes_5 2 rfl ?_
  refine g_iconst (pc := 6) dX11_dutyMinutes_6 ci_1 ?_
  refine g_join (fun k => ∀ (h2 : aH), J_X11_dutyMinutes l E n0 m0 17 [] [] h2 (k h2)) (fun h2 => ?_) (fun k17 hk17 => ?_)
  · exact g_throwE (pc := 17) rfl exf_IAE exn tx_14 ⟨tw830, rfl, rfl⟩ exi_IAE (xw_of exw_IAE ⟨tw840, rfl, rfl⟩) dX11_dutyMinutes_17 dX11_dutyMinutes_20 dX11_dutyMinutes_21 dX11_dutyMinutes_23 dX11_dutyMinutes_26 (Nat.le_of_ble_eq_true rfl) (Nat.le_of_ble_eq_true rfl)
  refine g_icmplt (pc := 7) (tgt := 17) dX11_dutyMinutes_7 rfl ?_ ?_
  · refine g_lv [] rfl ?_
    exact hk17 h1
  · refine g_iload_n (pc := 10) dX11_dutyMinutes_10 2 rfl ?_
    refine g_sipush (pc := 11) dX11_dutyMinutes_11 cs_1440 ?_
    refine g_icmple (pc := 14) (tgt := 27) dX11_dutyMinutes_14 rfl ?_ ?_
    · refine g_aload_n (pc := 27) dX11_dutyMinutes_27 0 rfl ?_
      refine g_getr (pc := 28) cl11 (Nat.le_of_ble_eq_true rfl) fk495 (fun _ _ _ => rfl) dX11_dutyMinutes_28 (fun x4 => ?_)
      refine g_iload_n (pc := 31) dX11_dutyMinutes_31 1 rfl ?_
      refine g_aload_n (pc := 32) dX11_dutyMinutes_32 0 rfl ?_
      refine g_getr (pc := 33) cl11 (Nat.le_of_ble_eq_true rfl) fk495 (fun _ _ _ => rfl) dX11_dutyMinutes_33 (fun x5 => ?_)
      refine g_geti (pc := 36) cl10 (Nat.le_of_ble_eq_true rfl) fk351 (fun _ _ _ => rfl) dX11_dutyMinutes_36 (fun x6 => ?_)
      refine g_iload_n (pc := 39) dX11_dutyMinutes_39 2 rfl ?_
      refine g_iadd (pc := 40) dX11_dutyMinutes_40 ?_
      refine g_gS (fun hs => ?_)
      refine g_bRi (pc := 41) (c_VN cl10 hs (p_X10_dutyUpTo hl x4 x2 (x6 + x3) h1) y_X10_dutyUpTo tw1094 dX11_dutyMinutes_41 rfl (st := []) rfl (Nat.le_of_ble_eq_true rfl) (Nat.le_of_ble_eq_true rfl) (Nat.le_of_ble_eq_true rfl)) (fun x7 h3 => ?_)
      exact g_ret (pc := 44) rfl (isRet_i _) dX11_dutyMinutes_44 rfl
    · refine g_lv [] rfl ?_
      exact hk17 h1
theorem p_X11_dutyMinutes {l : Launch} {E : aE} (hl : l.stackTraces = false) (x1 : Nat) (x2 : Int32) (x3 : Int32) (h0 : aH) : MO (eT (fun (v : Int32) => some (.int v))) l E yX11_dutyMinutes (.code yX11_dutyMinutes cX11_dutyMinutes 3 (some .int)) 7 111 [.ref (e_z E + x1), .int x2, .int x3] h0 (m_X11_dutyMinutes x1 x2 x3 h0) := g_met hl (by decide +kernel) (Nat.le_of_ble_eq_true rfl) (b_X11_dutyMinutes hl _ _ x1 x2 x3 h0)
theorem dX11_whyNotHandOn_0 : decode cX11_whyNotHandOn 0 = .ok (.aload_n 0, 1) := by decide +kernel
theorem dX11_whyNotHandOn_1 : decode cX11_whyNotHandOn 1 = .ok (.iload_n 1, 1) := by decide +kernel
theorem dX11_whyNotHandOn_2 : decode cX11_whyNotHandOn 2 = .ok (.invokevirtual 196, 3) := by decide +kernel
theorem dX11_whyNotHandOn_5 : decode cX11_whyNotHandOn 5 = .ok (.aload_n 0, 1) := by decide +kernel
theorem dX11_whyNotHandOn_6 : decode cX11_whyNotHandOn 6 = .ok (.iload_n 2, 1) := by decide +kernel
theorem dX11_whyNotHandOn_7 : decode cX11_whyNotHandOn 7 = .ok (.invokevirtual 153, 3) := by decide +kernel
theorem dX11_whyNotHandOn_10 : decode cX11_whyNotHandOn 10 = .ok (.aload_n 0, 1) := by decide +kernel
theorem dX11_whyNotHandOn_11 : decode cX11_whyNotHandOn 11 = .ok (.getfield 37, 3) := by decide +kernel
theorem dX11_whyNotHandOn_14 : decode cX11_whyNotHandOn 14 = .ok (.iload_n 1, 1) := by decide +kernel
theorem dX11_whyNotHandOn_15 : decode cX11_whyNotHandOn 15 = .ok (.iload_n 2, 1) := by decide +kernel
theorem dX11_whyNotHandOn_16 : decode cX11_whyNotHandOn 16 = .ok (.iload_n 3, 1) := by decide +kernel
theorem dX11_whyNotHandOn_17 : decode cX11_whyNotHandOn 17 = .ok (.invokevirtual 226, 3) := by decide +kernel
theorem dX11_whyNotHandOn_20 : decode cX11_whyNotHandOn 20 = .ok (.ireturn, 1) := by decide +kernel
abbrev M_X11_whyNotHandOn : aM := (yX11_whyNotHandOn.cls, cX11_whyNotHandOn, 4, (some .int), [], yX11_whyNotHandOn.name == "<init>")
abbrev J_X11_whyNotHandOn (l : Launch) (E : aE) (n0 m0 : Nat) := GG (eT (fun (v : Int32) => some (.int v))) l E M_X11_whyNotHandOn 7 121 n0 m0
theorem b_X11_whyNotHandOn {l : Launch} {E : aE} (hl : l.stackTraces = false) (n0 m0 : Nat) (x1 : Nat) (x2 : Int32) (x3 : Int32) (x4 : Int32) (h0 : aH) : J_X11_whyNotHandOn l E n0 m0 0 [(0, .ref (e_z E + x1)), (1, .int x2), (2, .int x3), (3, .int x4)] [] h0 (m_X11_whyNotHandOn x1 x2 x3 x4 h0) := by
  unfold m_X11_whyNotHandOn
  refine g_aload_n (pc := 0) dX11_whyNotHandOn_0 0 rfl ?_
  refine g_iload_n (pc := 1) dX11_whyNotHandOn_1 1 rfl ?_
  refine g_gS (fun hs => ?_)
  refine g_bXv (pc := 2) rfl (c_V cl11 hs (p_X11_needPager hl x1 x2 h0) y_X11_needPager tw1026 dX11_whyNotHandOn_2 rfl (st := []) rfl (Nat.le_of_ble_eq_true rfl) (Nat.le_of_ble_eq_true rfl) (Nat.le_of_ble_eq_true rfl)) (fun _ h1 => ?_)
  refine g_aload_n (pc := 5) dX11_whyNotHandOn_5 0 rfl ?_
  refine g_iload_n (pc := 6) dX11_whyNotHandOn_6 2 rfl ?_
  refine g_gS (fun hs => ?_)
  refine g_bXv (pc := 7) rfl (c_V cl11 hs (p_X11_needPerson hl x1 x3 h1) y_X11_needPerson tw925 dX11_whyNotHandOn_7 rfl (st := []) rfl (Nat.le_of_ble_eq_true rfl) (Nat.le_of_ble_eq_true rfl) (Nat.le_of_ble_eq_true rfl)) (fun _ h2 => ?_)
  refine g_aload_n (pc := 10) dX11_whyNotHandOn_10 0 rfl ?_
  refine g_getr (pc := 11) cl11 (Nat.le_of_ble_eq_true rfl) fk495 (fun _ _ _ => rfl) dX11_whyNotHandOn_11 (fun x5 => ?_)
  refine g_iload_n (pc := 14) dX11_whyNotHandOn_14 1 rfl ?_
  refine g_iload_n (pc := 15) dX11_whyNotHandOn_15 2 rfl ?_
  refine g_iload_n (pc := 16) dX11_whyNotHandOn_16 3 rfl ?_
  refine g_gS (fun hs => ?_)
  refine g_bRi (pc := 17) (c_VN cl10 hs (p_X10_reasonAgainst hl x5 x2 x3 x4 h2) y_X10_reasonAgainst tw1107 dX11_whyNotHandOn_17 rfl (st := []) rfl (Nat.le_of_ble_eq_true rfl) (Nat.le_of_ble_eq_true rfl) (Nat.le_of_ble_eq_true rfl)) (fun x6 h3 => ?_)
  exact g_ret (pc := 20) rfl (isRet_i _) dX11_whyNotHandOn_20 rfl
theorem p_X11_whyNotHandOn {l : Launch} {E : aE} (hl : l.stackTraces = false) (x1 : Nat) (x2 : Int32) (x3 : Int32) (x4 : Int32) (h0 : aH) : MO (eT (fun (v : Int32) => some (.int v))) l E yX11_whyNotHandOn (.code yX11_whyNotHandOn cX11_whyNotHandOn 4 (some .int)) 7 121 [.ref (e_z E + x1), .int x2, .int x3, .int x4] h0 (m_X11_whyNotHandOn x1 x2 x3 x4 h0) := g_met hl (by decide +kernel) (Nat.le_of_ble_eq_true rfl) (b_X11_whyNotHandOn hl _ _ x1 x2 x3 x4 h0)
theorem dX11_steps_0 : decode cX11_steps 0 = .ok (.aload_n 0, 1) := by decide +kernel
theorem dX11_steps_1 : decode cX11_steps 1 = .ok (.iload_n 1, 1) := by decide +kernel
theorem dX11_steps_2 : decode cX11_steps 2 = .ok (.invokevirtual 196, 3) := by decide +kernel
theorem dX11_steps_5 : decode cX11_steps 5 = .ok (.aload_n 0, 1) := by decide +kernel
theorem dX11_steps_6 : decode cX11_steps 6 = .ok (.iload_n 2, 1) := by decide +kernel
theorem dX11_steps_7 : decode cX11_steps 7 = .ok (.invokevirtual 153, 3) := by decide +kernel
theorem dX11_steps_10 : decode cX11_steps 10 = .ok (.aload_n 0, 1) := by decide +kernel
theorem dX11_steps_11 : decode cX11_steps 11 = .ok (.getfield 37, 3) := by decide +kernel
theorem dX11_steps_14 : decode cX11_steps 14 = .ok (.iload_n 1, 1) := by decide +kernel
theorem dX11_steps_15 : decode cX11_steps 15 = .ok (.aload_n 0, 1) := by decide +kernel
theorem dX11_steps_16 : decode cX11_steps 16 = .ok (.getfield 37, 3) := by decide +kernel
theorem dX11_steps_19 : decode cX11_steps 19 = .ok (.getfield 144, 3) := by decide +kernel
theorem dX11_steps_22 : decode cX11_steps 22 = .ok (.invokevirtual 218, 3) := by decide +kernel
theorem dX11_steps_25 : decode cX11_steps 25 = .ok (.iload_n 2, 1) := by decide +kernel
theorem dX11_steps_26 : decode cX11_steps 26 = .ok (.if_icmp .ne 5, 3) := by decide +kernel
theorem dX11_steps_29 : decode cX11_steps 29 = .ok (.iconst 0, 1) := by decide +kernel
theorem dX11_steps_30 : decode cX11_steps 30 = .ok (.ireturn, 1) := by decide +kernel
theorem dX11_steps_31 : decode cX11_steps 31 = .ok (.aload_n 0, 1) := by decide +kernel
theorem dX11_steps_32 : decode cX11_steps 32 = .ok (.getfield 37, 3) := by decide +kernel
theorem dX11_steps_35 : decode cX11_steps 35 = .ok (.iload_n 1, 1) := by decide +kernel
theorem dX11_steps_36 : decode cX11_steps 36 = .ok (.iload_n 2, 1) := by decide +kernel
theorem dX11_steps_37 : decode cX11_steps 37 = .ok (.aload_n 0, 1) := by decide +kernel
theorem dX11_steps_38 : decode cX11_steps 38 = .ok (.getfield 37, 3) := by decide +kernel
theorem dX11_steps_41 : decode cX11_steps 41 = .ok (.iload_n 1, 1) := by decide +kernel
theorem dX11_steps_42 : decode cX11_steps 42 = .ok (.aload_n 0, 1) := by decide +kernel
theorem dX11_steps_43 : decode cX11_steps 43 = .ok (.getfield 37, 3) := by decide +kernel
theorem dX11_steps_46 : decode cX11_steps 46 = .ok (.getfield 144, 3) := by decide +kernel
theorem dX11_steps_49 : decode cX11_steps 49 = .ok (.invokevirtual 207, 3) := by decide +kernel
theorem dX11_steps_52 : decode cX11_steps 52 = .ok (.invokevirtual 226, 3) := by decide +kernel
theorem dX11_steps_55 : decode cX11_steps 55 = .ok (.ifCond .eq 13, 3) := by decide +kernel
theorem dX11_steps_58 : decode cX11_steps 58 = .ok (.new 126, 3) := by decide +kernel
theorem dX11_steps_61 : decode cX11_steps 61 = .ok (.dup, 1) := by decide +kernel
theorem dX11_steps_62 : decode cX11_steps 62 = .ok (.ldc 230, 2) := by decide +kernel
theorem dX11_steps_64 : decode cX11_steps 64 = .ok (.invokespecial 130, 3) := by decide +kernel
theorem dX11_steps_67 : decode cX11_steps 67 = .ok (.athrow, 1) := by decide +kernel
theorem dX11_steps_68 : decode cX11_steps 68 = .ok (.iconst 1, 1) := by decide +kernel
theorem dX11_steps_69 : decode cX11_steps 69 = .ok (.ireturn, 1) := by decide +kernel
abbrev M_X11_steps : aM := (yX11_steps.cls, cX11_steps, 3, (some .int), [], yX11_steps.name == "<init>")
abbrev J_X11_steps (l : Launch) (E : aE) (n0 m0 : Nat) := GG (eT (fun (v : Int32) => some (.int v))) l E M_X11_steps 7 121 n0 m0
theorem b_X11_steps {l : Launch} {E : aE} (hl : l.stackTraces = false) (n0 m0 : Nat) (x1 : Nat) (x2 : Int32) (x3 : Int32) (h0 : aH) : J_X11_steps l E n0 m0 0 [(0, .ref (e_z E + x1)), (1, .int x2), (2, .int x3)] [] h0 (m_X11_steps x1 x2 x3 h0) := by
  unfold m_X11_steps
  refine g_aload_n (pc := 0) dX11_steps_0 0 rfl ?_
  refine g_iload_n (pc := 1) dX11_steps_1 1 rfl ?_
  refine g_gS (fun hs => ?_)
  refine g_bXv (pc := 2) rfl (c_V cl11 hs (p_X11_needPager hl x1 x2 h0) y_X11_needPager tw1026 dX11_steps_2 rfl (st := []) rfl (Nat.le_of_ble_eq_true rfl) (Nat.le_of_ble_eq_true rfl) (Nat.le_of_ble_eq_true rfl)) (fun _ h1 => ?_)
  refine g_aload_n (pc := 5) dX11_steps_5 0 rfl ?_
  refine g_iload_n (pc := 6) dX11_steps_6 2 rfl ?_
  refine g_gS (fun hs => ?_)
  refine g_bXv (pc := 7) rfl (c_V cl11 hs (p_X11_needPerson hl x1 x3 h1) y_X11_needPerson tw925 dX11_steps_7 rfl (st := []) rfl (Nat.le_of_ble_eq_true rfl) (Nat.le_of_ble_eq_true rfl) (Nat.le_of_ble_eq_true rfl)) (fun _ h2 => ?_)
  refine g_aload_n (pc := 10) dX11_steps_10 0 rfl ?_
  refine g_getr (pc := 11) cl11 (Nat.le_of_ble_eq_true rfl) fk495 (fun _ _ _ => rfl) dX11_steps_11 (fun x4 => ?_)
  refine g_iload_n (pc := 14) dX11_steps_14 1 rfl ?_
  refine g_aload_n (pc := 15) dX11_steps_15 0 rfl ?_
  refine g_getr (pc := 16) cl11 (Nat.le_of_ble_eq_true rfl) fk495 (fun _ _ _ => rfl) dX11_steps_16 (fun x5 => ?_)
  refine g_geti (pc := 19) cl10 (Nat.le_of_ble_eq_true rfl) fk351 (fun _ _ _ => rfl) dX11_steps_19 (fun x6 => ?_)
  refine g_gS (fun hs => ?_)
  refine g_bRi (pc := 22) (c_VN cl10 hs (p_X10_holderThen hl x4 x2 x6 h2) y_X10_holderThen tw1082 dX11_steps_22 rfl (st := []) rfl (Nat.le_of_ble_eq_true rfl) (Nat.le_of_ble_eq_true rfl) (Nat.le_of_ble_eq_true rfl)) (fun x7 h3 => ?_)
  refine g_iload_n (pc := 25) dX11_steps_25 2 rfl ?_
  refine g_icmpne (pc := 26) (tgt := 31) dX11_steps_26 rfl ?_ ?_
  · refine g_iconst (pc := 29) dX11_steps_29 ci_0 ?_
    exact g_ret (pc := 30) rfl (isRet_i _) dX11_steps_30 rfl
  · refine g_aload_n (pc := 31) dX11_steps_31 0 rfl ?_
    refine g_getr (pc := 32) cl11 (Nat.le_of_ble_eq_true rfl) fk495 (fun _ _ _ => rfl) dX11_steps_32 (fun x8 => ?_)
    refine g_iload_n (pc := 35) dX11_steps_35 1 rfl ?_
    refine g_iload_n (pc := 36) dX11_steps_36 2 rfl ?_
    refine g_aload_n (pc := 37) dX11_steps_37 0 rfl ?_
    refine g_getr (pc := 38) cl11 (Nat.le_of_ble_eq_true rfl) fk495 (fun _ _ _ => rfl) dX11_steps_38 (fun x9 => ?_)
    refine g_iload_n (pc := 41) dX11_steps_41 1 rfl ?_
    refine g_aload_n (pc := 42) dX11_steps_42 0 rfl ?_
    refine g_getr (pc := 43) cl11 (Nat.le_of_ble_eq_true rfl) fk495 (fun _ _ _ => rfl) dX11_steps_43 (fun x10 => ?_)
    refine g_geti (pc := 46) cl10 (Nat.le_of_ble_eq_true rfl) fk351 (fun _ _ _ => rfl) dX11_steps_46 (fun x11 => ?_)
    refine g_gS (fun hs => ?_)
    refine g_bRi (pc := 49) (c_VN cl10 hs (p_X10_endAt hl x9 x2 x11 h3) y_X10_endAt tw1054 dX11_steps_49 rfl (st := [.int x3, .int x2, .ref (e_z E + x8)]) rfl (Nat.le_of_ble_eq_true rfl) (Nat.le_of_ble_eq_true rfl) (Nat.le_of_ble_eq_true rfl)) (fun x12 h4 => ?_)
    refine g_gS (fun hs => ?_)
    refine g_bRi (pc := 52) (c_VN cl10 hs (p_X10_reasonAgainst hl x8 x2 x3 x12 h4) y_X10_reasonAgainst tw1107 dX11_steps_52 rfl (st := []) rfl (Nat.le_of_ble_eq_true rfl) (Nat.le_of_ble_eq_true rfl) (Nat.le_of_ble_eq_true rfl)) (fun x13 h5 => ?_)
    refine g_ifeq (pc := 55) (tgt := 68) dX11_steps_55 rfl ?_ ?_
    · refine g_iconst (pc := 68) dX11_steps_68 ci_1 ?_
      exact g_ret (pc := 69) rfl (isRet_i _) dX11_steps_69 rfl
    · exact g_throwX (pc := 58) exd0_NSE exd1_NSE exd2_NSE exd3_NSE rfl exf_NSE exn tx_15 ⟨tw876, rfl, rfl⟩ exi_NSE (xx_of exw_NSE ⟨tw886, rfl, rfl⟩) dX11_steps_58 dX11_steps_61 dX11_steps_62 dX11_steps_64 dX11_steps_67 (Nat.le_of_ble_eq_true rfl) (Nat.le_of_ble_eq_true rfl)
theorem p_X11_steps {l : Launch} {E : aE} (hl : l.stackTraces = false) (x1 : Nat) (x2 : Int32) (x3 : Int32) (h0 : aH) : MO (eT (fun (v : Int32) => some (.int v))) l E yX11_steps (.code yX11_steps cX11_steps 3 (some .int)) 7 121 [.ref (e_z E + x1), .int x2, .int x3] h0 (m_X11_steps x1 x2 x3 h0) := g_met hl (by decide +kernel) (Nat.le_of_ble_eq_true rfl) (b_X11_steps hl _ _ x1 x2 x3 h0)
theorem dX11_needEngine_0 : decode cX11_needEngine 0 = .ok (.iload_n 1, 1) := by decide +kernel
theorem dX11_needEngine_1 : decode cX11_needEngine 1 = .ok (.ifCond .lt 14, 3) := by decide +kernel
theorem dX11_needEngine_4 : decode cX11_needEngine 4 = .ok (.iload_n 1, 1) := by decide +kernel
theorem dX11_needEngine_5 : decode cX11_needEngine 5 = .ok (.aload_n 0, 1) := by decide +kernel
theorem dX11_needEngine_6 : decode cX11_needEngine 6 = .ok (.getfield 25, 3) := by decide +kernel
theorem dX11_needEngine_9 : decode cX11_needEngine 9 = .ok (.getfield 429, 3) := by decide +kernel
theorem dX11_needEngine_12 : decode cX11_needEngine 12 = .ok (.if_icmp .lt 14, 3) := by decide +kernel
theorem dX11_needEngine_15 : decode cX11_needEngine 15 = .ok (.new 85, 3) := by decide +kernel
theorem dX11_needEngine_18 : decode cX11_needEngine 18 = .ok (.dup, 1) := by decide +kernel
theorem dX11_needEngine_19 : decode cX11_needEngine 19 = .ok (.ldc_w 432, 3) := by decide +kernel
theorem dX11_needEngine_22 : decode cX11_needEngine 22 = .ok (.invokespecial 89, 3) := by decide +kernel
theorem dX11_needEngine_25 : decode cX11_needEngine 25 = .ok (.athrow, 1) := by decide +kernel
theorem dX11_needEngine_26 : decode cX11_needEngine 26 = .ok (.return_, 1) := by decide +kernel
abbrev M_X11_needEngine : aM := (yX11_needEngine.cls, cX11_needEngine, 2, none, [], yX11_needEngine.name == "<init>")
abbrev J_X11_needEngine (l : Launch) (E : aE) (n0 m0 : Nat) := GG (eT (fun (_ : Unit) => none)) l E M_X11_needEngine 6 90 n0 m0
theorem b_X11_needEngine {l : Launch} {E : aE} (hl : l.stackTraces = false) (n0 m0 : Nat) (x1 : Nat) (x2 : Int32) (h0 : aH) : J_X11_needEngine l E n0 m0 0 [(0, .ref (e_z E + x1)), (1, .int x2)] [] h0 (m_X11_needEngine x1 x2 h0) := by
  unfold m_X11_needEngine
  refine g_iload_n (pc := 0) dX11_needEngine_0 1 rfl ?_
  refine g_join (fun k => ∀ (h1 : aH), J_X11_needEngine l E n0 m0 15 [] [] h1 (k h1)) (fun h1 => ?_) (fun k15 hk15 => ?_)
  · exact g_throwEW (pc := 15) rfl exf_IOB exn tx_16 ⟨tw622, rfl, rfl⟩ exi_IOB (xw_of exw_IOB ⟨tw632, rfl, rfl⟩) dX11_needEngine_15 dX11_needEngine_18 dX11_needEngine_19 dX11_needEngine_22 dX11_needEngine_25 (Nat.le_of_ble_eq_true rfl) (Nat.le_of_ble_eq_true rfl)
  refine g_iflt (pc := 1) (tgt := 15) dX11_needEngine_1 rfl ?_ ?_
  · refine g_lv [] rfl ?_
    exact hk15 h0
  · refine g_iload_n (pc := 4) dX11_needEngine_4 1 rfl ?_
    refine g_aload_n (pc := 5) dX11_needEngine_5 0 rfl ?_
    refine g_getr (pc := 6) cl11 (Nat.le_of_ble_eq_true rfl) fk493 (fun _ _ _ => rfl) dX11_needEngine_6 (fun x3 => ?_)
    refine g_geti (pc := 9) cl8 (Nat.le_of_ble_eq_true rfl) fk263 (fun _ _ _ => rfl) dX11_needEngine_9 (fun x4 => ?_)
    refine g_icmplt (pc := 12) (tgt := 26) dX11_needEngine_12 rfl ?_ ?_
    · exact g_ret (pc := 26) rfl isRet_v dX11_needEngine_26 rfl
    · refine g_lv [] rfl ?_
      exact hk15 h0
theorem p_X11_needEngine {l : Launch} {E : aE} (hl : l.stackTraces = false) (x1 : Nat) (x2 : Int32) (h0 : aH) : MO (eT (fun (_ : Unit) => none)) l E yX11_needEngine (.code yX11_needEngine cX11_needEngine 2 none) 6 90 [.ref (e_z E + x1), .int x2] h0 (m_X11_needEngine x1 x2 h0) := g_met hl (by decide +kernel) (Nat.le_of_ble_eq_true rfl) (b_X11_needEngine hl _ _ x1 x2 h0)
theorem dX11_returnsAt_0 : decode cX11_returnsAt 0 = .ok (.aload_n 0, 1) := by decide +kernel
theorem dX11_returnsAt_1 : decode cX11_returnsAt 1 = .ok (.iload_n 1, 1) := by decide +kernel
theorem dX11_returnsAt_2 : decode cX11_returnsAt 2 = .ok (.invokevirtual 232, 3) := by decide +kernel
theorem dX11_returnsAt_5 : decode cX11_returnsAt 5 = .ok (.aload_n 0, 1) := by decide +kernel
theorem dX11_returnsAt_6 : decode cX11_returnsAt 6 = .ok (.getfield 37, 3) := by decide +kernel
theorem dX11_returnsAt_9 : decode cX11_returnsAt 9 = .ok (.iload_n 1, 1) := by decide +kernel
theorem dX11_returnsAt_10 : decode cX11_returnsAt 10 = .ok (.invokevirtual 235, 3) := by decide +kernel
theorem dX11_returnsAt_13 : decode cX11_returnsAt 13 = .ok (.ifCond .eq 15, 3) := by decide +kernel
theorem dX11_returnsAt_16 : decode cX11_returnsAt 16 = .ok (.aload_n 0, 1) := by decide +kernel
theorem dX11_returnsAt_17 : decode cX11_returnsAt 17 = .ok (.getfield 37, 3) := by decide +kernel
theorem dX11_returnsAt_20 : decode cX11_returnsAt 20 = .ok (.getfield 238, 3) := by decide +kernel
theorem dX11_returnsAt_23 : decode cX11_returnsAt 23 = .ok (.iload_n 1, 1) := by decide +kernel
theorem dX11_returnsAt_24 : decode cX11_returnsAt 24 = .ok (.iaload, 1) := by decide +kernel
theorem dX11_returnsAt_25 : decode cX11_returnsAt 25 = .ok (.goto 4, 3) := by decide +kernel
theorem dX11_returnsAt_28 : decode cX11_returnsAt 28 = .ok (.iconst (-1), 1) := by decide +kernel
theorem dX11_returnsAt_29 : decode cX11_returnsAt 29 = .ok (.ireturn, 1) := by decide +kernel
abbrev M_X11_returnsAt : aM := (yX11_returnsAt.cls, cX11_returnsAt, 2, (some .int), [], yX11_returnsAt.name == "<init>")
abbrev J_X11_returnsAt (l : Launch) (E : aE) (n0 m0 : Nat) := GG (eT (fun (v : Int32) => some (.int v))) l E M_X11_returnsAt 7 111 n0 m0
theorem b_X11_returnsAt {l : Launch} {E : aE} (hl : l.stackTraces = false) (n0 m0 : Nat) (x1 : Nat) (x2 : Int32) (h0 : aH) : J_X11_returnsAt l E n0 m0 0 [(0, .ref (e_z E + x1)), (1, .int x2)] [] h0 (m_X11_returnsAt x1 x2 h0) := by
  unfold m_X11_returnsAt
  refine g_aload_n (pc := 0) dX11_returnsAt_0 0 rfl ?_
  refine g_iload_n (pc := 1) dX11_returnsAt_1 1 rfl ?_
  refine g_gS (fun hs => ?_)
  refine g_bXv (pc := 2) rfl (c_V cl11 hs (p_X11_needEngine hl x1 x2 h0) y_X11_needEngine tw1139 dX11_returnsAt_2 rfl (st := []) rfl (Nat.le_of_ble_eq_true rfl) (Nat.le_of_ble_eq_true rfl) (Nat.le_of_ble_eq_true rfl)) (fun _ h1 => ?_)
  refine g_aload_n (pc := 5) dX11_returnsAt_5 0 rfl ?_
  refine g_getr (pc := 6) cl11 (Nat.le_of_ble_eq_true rfl) fk495 (fun _ _ _ => rfl) dX11_returnsAt_6 (fun x3 => ?_)
  refine g_iload_n (pc := 9) dX11_returnsAt_9 1 rfl ?_
  refine g_gS (fun hs => ?_)
  refine g_bRi (pc := 10) (c_VN cl10 hs (p_X10_isEngineOut hl x3 x2 h1) y_X10_isEngineOut tw1144 dX11_returnsAt_10 rfl (st := []) rfl (Nat.le_of_ble_eq_true rfl) (Nat.le_of_ble_eq_true rfl) (Nat.le_of_ble_eq_true rfl)) (fun x4 h2 => ?_)
  refine g_join (fun k => ∀ (x5 : Int32) (h3 : aH), J_X11_returnsAt l E n0 m0 29 [] [.int x5] h3 (k x5 h3)) (fun x5 h3 => ?_) (fun k29 hk29 => ?_)
  · exact g_ret (pc := 29) rfl (isRet_i _) dX11_returnsAt_29 rfl
  refine g_ifeq (pc := 13) (tgt := 28) dX11_returnsAt_13 rfl ?_ ?_
  · refine g_iconst (pc := 28) dX11_returnsAt_28 ci_m1 ?_
    refine g_lv [] rfl ?_
    exact hk29 (-1 : Int32) h2
  · refine g_aload_n (pc := 16) dX11_returnsAt_16 0 rfl ?_
    refine g_getr (pc := 17) cl11 (Nat.le_of_ble_eq_true rfl) fk495 (fun _ _ _ => rfl) dX11_returnsAt_17 (fun x6 => ?_)
    refine g_getr (pc := 20) cl10 (Nat.le_of_ble_eq_true rfl) fk372 (fun _ _ _ => rfl) dX11_returnsAt_20 (fun x7 => ?_)
    refine g_iload_n (pc := 23) dX11_returnsAt_23 1 rfl ?_
    refine g_iald (pc := 24) dX11_returnsAt_24 (fun x8 => ?_)
    refine g_goto (pc := 25) (tgt := 29) dX11_returnsAt_25 rfl ?_
    refine g_lv [] rfl ?_
    exact hk29 x8 h2
theorem p_X11_returnsAt {l : Launch} {E : aE} (hl : l.stackTraces = false) (x1 : Nat) (x2 : Int32) (h0 : aH) : MO (eT (fun (v : Int32) => some (.int v))) l E yX11_returnsAt (.code yX11_returnsAt cX11_returnsAt 2 (some .int)) 7 111 [.ref (e_z E + x1), .int x2] h0 (m_X11_returnsAt x1 x2 h0) := g_met hl (by decide +kernel) (Nat.le_of_ble_eq_true rfl) (b_X11_returnsAt hl _ _ x1 x2 h0)
theorem dX11_needCall_0 : decode cX11_needCall 0 = .ok (.iload_n 1, 1) := by decide +kernel
theorem dX11_needCall_1 : decode cX11_needCall 1 = .ok (.ifCond .lt 17, 3) := by decide +kernel
theorem dX11_needCall_4 : decode cX11_needCall 4 = .ok (.iload_n 1, 1) := by decide +kernel
theorem dX11_needCall_5 : decode cX11_needCall 5 = .ok (.aload_n 0, 1) := by decide +kernel
theorem dX11_needCall_6 : decode cX11_needCall 6 = .ok (.getfield 37, 3) := by decide +kernel
theorem dX11_needCall_9 : decode cX11_needCall 9 = .ok (.getfield 131, 3) := by decide +kernel
theorem dX11_needCall_12 : decode cX11_needCall 12 = .ok (.getfield 135, 3) := by decide +kernel
theorem dX11_needCall_15 : decode cX11_needCall 15 = .ok (.if_icmp .lt 14, 3) := by decide +kernel
theorem dX11_needCall_18 : decode cX11_needCall 18 = .ok (.new 85, 3) := by decide +kernel
theorem dX11_needCall_21 : decode cX11_needCall 21 = .ok (.dup, 1) := by decide +kernel
theorem dX11_needCall_22 : decode cX11_needCall 22 = .ok (.ldc_w 445, 3) := by decide +kernel
theorem dX11_needCall_25 : decode cX11_needCall 25 = .ok (.invokespecial 89, 3) := by decide +kernel
theorem dX11_needCall_28 : decode cX11_needCall 28 = .ok (.athrow, 1) := by decide +kernel
theorem dX11_needCall_29 : decode cX11_needCall 29 = .ok (.return_, 1) := by decide +kernel
abbrev M_X11_needCall : aM := (yX11_needCall.cls, cX11_needCall, 2, none, [], yX11_needCall.name == "<init>")
abbrev J_X11_needCall (l : Launch) (E : aE) (n0 m0 : Nat) := GG (eT (fun (_ : Unit) => none)) l E M_X11_needCall 6 90 n0 m0
theorem b_X11_needCall {l : Launch} {E : aE} (hl : l.stackTraces = false) (n0 m0 : Nat) (x1 : Nat) (x2 : Int32) (h0 : aH) : J_X11_needCall l E n0 m0 0 [(0, .ref (e_z E + x1)), (1, .int x2)] [] h0 (m_X11_needCall x1 x2 h0) := by
  unfold m_X11_needCall
  refine g_iload_n (pc := 0) dX11_needCall_0 1 rfl ?_
  refine g_join (fun k => ∀ (h1 : aH), J_X11_needCall l E n0 m0 18 [] [] h1 (k h1)) (fun h1 => ?_) (fun k18 hk18 => ?_)
  · exact g_throwEW (pc := 18) rfl exf_IOB exn tx_17 ⟨tw622, rfl, rfl⟩ exi_IOB (xw_of exw_IOB ⟨tw632, rfl, rfl⟩) dX11_needCall_18 dX11_needCall_21 dX11_needCall_22 dX11_needCall_25 dX11_needCall_28 (Nat.le_of_ble_eq_true rfl) (Nat.le_of_ble_eq_true rfl)
  refine g_iflt (pc := 1) (tgt := 18) dX11_needCall_1 rfl ?_ ?_
  · refine g_lv [] rfl ?_
    exact hk18 h0
  · refine g_iload_n (pc := 4) dX11_needCall_4 1 rfl ?_
    refine g_aload_n (pc := 5) dX11_needCall_5 0 rfl ?_
    refine g_getr (pc := 6) cl11 (Nat.le_of_ble_eq_true rfl) fk495 (fun _ _ _ => rfl) dX11_needCall_6 (fun x3 => ?_)
    refine g_getr (pc := 9) cl10 (Nat.le_of_ble_eq_true rfl) fk379 (fun _ _ _ => rfl) dX11_needCall_9 (fun x4 => ?_)
    refine g_geti (pc := 12) cl0 (Nat.le_of_ble_eq_true rfl) fk315 (fun _ _ _ => rfl) dX11_needCall_12 (fun x5 => ?_)
    refine g_icmplt (pc := 15) (tgt := 29) dX11_needCall_15 rfl ?_ ?_
    · exact g_ret (pc := 29) rfl isRet_v dX11_needCall_29 rfl
    · refine g_lv [] rfl ?_
      exact hk18 h0
theorem p_X11_needCall {l : Launch} {E : aE} (hl : l.stackTraces = false) (x1 : Nat) (x2 : Int32) (h0 : aH) : MO (eT (fun (_ : Unit) => none)) l E yX11_needCall (.code yX11_needCall cX11_needCall 2 none) 6 90 [.ref (e_z E + x1), .int x2] h0 (m_X11_needCall x1 x2 h0) := g_met hl (by decide +kernel) (Nat.le_of_ble_eq_true rfl) (b_X11_needCall hl _ _ x1 x2 h0)
theorem dX11_cost_0 : decode cX11_cost 0 = .ok (.aload_n 0, 1) := by decide +kernel
theorem dX11_cost_1 : decode cX11_cost 1 = .ok (.iload_n 1, 1) := by decide +kernel
theorem dX11_cost_2 : decode cX11_cost 2 = .ok (.invokevirtual 241, 3) := by decide +kernel
theorem dX11_cost_5 : decode cX11_cost 5 = .ok (.aload_n 0, 1) := by decide +kernel
theorem dX11_cost_6 : decode cX11_cost 6 = .ok (.getfield 37, 3) := by decide +kernel
theorem dX11_cost_9 : decode cX11_cost 9 = .ok (.getfield 131, 3) := by decide +kernel
theorem dX11_cost_12 : decode cX11_cost 12 = .ok (.getfield 244, 3) := by decide +kernel
theorem dX11_cost_15 : decode cX11_cost 15 = .ok (.iload_n 1, 1) := by decide +kernel
theorem dX11_cost_16 : decode cX11_cost 16 = .ok (.iaload, 1) := by decide +kernel
theorem dX11_cost_17 : decode cX11_cost 17 = .ok (.ireturn, 1) := by decide +kernel
abbrev M_X11_cost : aM := (yX11_cost.cls, cX11_cost, 2, (some .int), [], yX11_cost.name == "<init>")
abbrev J_X11_cost (l : Launch) (E : aE) (n0 m0 : Nat) := GG (eT (fun (v : Int32) => some (.int v))) l E M_X11_cost 7 111 n0 m0
theorem b_X11_cost {l : Launch} {E : aE} (hl : l.stackTraces = false) (n0 m0 : Nat) (x1 : Nat) (x2 : Int32) (h0 : aH) : J_X11_cost l E n0 m0 0 [(0, .ref (e_z E + x1)), (1, .int x2)] [] h0 (m_X11_cost x1 x2 h0) := by
  unfold m_X11_cost
  refine g_aload_n (pc := 0) dX11_cost_0 0 rfl ?_
  refine g_iload_n (pc := 1) dX11_cost_1 1 rfl ?_
  refine g_gS (fun hs => ?_)
  refine g_bXv (pc := 2) rfl (c_V cl11 hs (p_X11_needCall hl x1 x2 h0) y_X11_needCall tw1155 dX11_cost_2 rfl (st := []) rfl (Nat.le_of_ble_eq_true rfl) (Nat.le_of_ble_eq_true rfl) (Nat.le_of_ble_eq_true rfl)) (fun _ h1 => ?_)
  refine g_aload_n (pc := 5) dX11_cost_5 0 rfl ?_
  refine g_getr (pc := 6) cl11 (Nat.le_of_ble_eq_true rfl) fk495 (fun _ _ _ => rfl) dX11_cost_6 (fun x3 => ?_)
  refine g_getr (pc := 9) cl10 (Nat.le_of_ble_eq_true rfl) fk379 (fun _ _ _ => rfl) dX11_cost_9 (fun x4 => ?_)
  refine g_getr (pc := 12) cl0 (Nat.le_of_ble_eq_true rfl) fk317 (fun _ _ _ => rfl) dX11_cost_12 (fun x5 => ?_)
  refine g_iload_n (pc := 15) dX11_cost_15 1 rfl ?_
  refine g_iald (pc := 16) dX11_cost_16 (fun x6 => ?_)
  exact g_ret (pc := 17) rfl (isRet_i _) dX11_cost_17 rfl
theorem p_X11_cost {l : Launch} {E : aE} (hl : l.stackTraces = false) (x1 : Nat) (x2 : Int32) (h0 : aH) : MO (eT (fun (v : Int32) => some (.int v))) l E yX11_cost (.code yX11_cost cX11_cost 2 (some .int)) 7 111 [.ref (e_z E + x1), .int x2] h0 (m_X11_cost x1 x2 h0) := g_met hl (by decide +kernel) (Nat.le_of_ble_eq_true rfl) (b_X11_cost hl _ _ x1 x2 h0)
theorem dX11_isAnswered_0 : decode cX11_isAnswered 0 = .ok (.aload_n 0, 1) := by decide +kernel
theorem dX11_isAnswered_1 : decode cX11_isAnswered 1 = .ok (.iload_n 1, 1) := by decide +kernel
theorem dX11_isAnswered_2 : decode cX11_isAnswered 2 = .ok (.invokevirtual 241, 3) := by decide +kernel
theorem dX11_isAnswered_5 : decode cX11_isAnswered 5 = .ok (.aload_n 0, 1) := by decide +kernel
theorem dX11_isAnswered_6 : decode cX11_isAnswered 6 = .ok (.getfield 37, 3) := by decide +kernel
theorem dX11_isAnswered_9 : decode cX11_isAnswered 9 = .ok (.getfield 131, 3) := by decide +kernel
theorem dX11_isAnswered_12 : decode cX11_isAnswered 12 = .ok (.getfield 247, 3) := by decide +kernel
theorem dX11_isAnswered_15 : decode cX11_isAnswered 15 = .ok (.iload_n 1, 1) := by decide +kernel
theorem dX11_isAnswered_16 : decode cX11_isAnswered 16 = .ok (.invokestatic 250, 3) := by decide +kernel
theorem dX11_isAnswered_19 : decode cX11_isAnswered 19 = .ok (.ireturn, 1) := by decide +kernel
abbrev M_X11_isAnswered : aM := (yX11_isAnswered.cls, cX11_isAnswered, 2, (some .boolean), [], yX11_isAnswered.name == "<init>")
abbrev J_X11_isAnswered (l : Launch) (E : aE) (n0 m0 : Nat) := GG (eT (fun (v : Int32) => some (.int v))) l E M_X11_isAnswered 7 111 n0 m0
theorem b_X11_isAnswered {l : Launch} {E : aE} (hl : l.stackTraces = false) (n0 m0 : Nat) (x1 : Nat) (x2 : Int32) (h0 : aH) : J_X11_isAnswered l E n0 m0 0 [(0, .ref (e_z E + x1)), (1, .int x2)] [] h0 (m_X11_isAnswered x1 x2 h0) := by
  unfold m_X11_isAnswered
  refine g_aload_n (pc := 0) dX11_isAnswered_0 0 rfl ?_
  refine g_iload_n (pc := 1) dX11_isAnswered_1 1 rfl ?_
  refine g_gS (fun hs => ?_)
  refine g_bXv (pc := 2) rfl (c_V cl11 hs (p_X11_needCall hl x1 x2 h0) y_X11_needCall tw1155 dX11_isAnswered_2 rfl (st := []) rfl (Nat.le_of_ble_eq_true rfl) (Nat.le_of_ble_eq_true rfl) (Nat.le_of_ble_eq_true rfl)) (fun _ h1 => ?_)
  refine g_aload_n (pc := 5) dX11_isAnswered_5 0 rfl ?_
  refine g_getr (pc := 6) cl11 (Nat.le_of_ble_eq_true rfl) fk495 (fun _ _ _ => rfl) dX11_isAnswered_6 (fun x3 => ?_)
  refine g_getr (pc := 9) cl10 (Nat.le_of_ble_eq_true rfl) fk379 (fun _ _ _ => rfl) dX11_isAnswered_9 (fun x4 => ?_)
  refine g_geti (pc := 12) cl0 (Nat.le_of_ble_eq_true rfl) fk319 (fun _ _ _ => rfl) dX11_isAnswered_12 (fun x5 => ?_)
  refine g_iload_n (pc := 15) dX11_isAnswered_15 1 rfl ?_
  refine g_bRi (pc := 16) (c_S (p_X11_has hl x5 x2 h1) y_X11_has tw1167 dX11_isAnswered_16 rfl (st := []) rfl (Nat.le_of_ble_eq_true rfl) (Nat.le_of_ble_eq_true rfl) (Nat.le_of_ble_eq_true rfl)) (fun x6 h2 => ?_)
  refine g_zO (fun hz => ?_)
  exact g_ret (pc := 19) rfl (isRet_z hz) dX11_isAnswered_19 rfl
theorem p_X11_isAnswered {l : Launch} {E : aE} (hl : l.stackTraces = false) (x1 : Nat) (x2 : Int32) (h0 : aH) : MO (eT (fun (v : Int32) => some (.int v))) l E yX11_isAnswered (.code yX11_isAnswered cX11_isAnswered 2 (some .boolean)) 7 111 [.ref (e_z E + x1), .int x2] h0 (m_X11_isAnswered x1 x2 h0) := g_met hl (by decide +kernel) (Nat.le_of_ble_eq_true rfl) (b_X11_isAnswered hl _ _ x1 x2 h0)
theorem dX11_came_0 : decode cX11_came 0 = .ok (.aload_n 0, 1) := by decide +kernel
theorem dX11_came_1 : decode cX11_came 1 = .ok (.iload_n 1, 1) := by decide +kernel
theorem dX11_came_2 : decode cX11_came 2 = .ok (.invokevirtual 241, 3) := by decide +kernel
theorem dX11_came_5 : decode cX11_came 5 = .ok (.aload_n 0, 1) := by decide +kernel
theorem dX11_came_6 : decode cX11_came 6 = .ok (.getfield 37, 3) := by decide +kernel
theorem dX11_came_9 : decode cX11_came 9 = .ok (.getfield 131, 3) := by decide +kernel
theorem dX11_came_12 : decode cX11_came 12 = .ok (.getfield 254, 3) := by decide +kernel
theorem dX11_came_15 : decode cX11_came 15 = .ok (.iload_n 1, 1) := by decide +kernel
theorem dX11_came_16 : decode cX11_came 16 = .ok (.iaload, 1) := by decide +kernel
theorem dX11_came_17 : decode cX11_came 17 = .ok (.ireturn, 1) := by decide +kernel
abbrev M_X11_came : aM := (yX11_came.cls, cX11_came, 2, (some .int), [], yX11_came.name == "<init>")
abbrev J_X11_came (l : Launch) (E : aE) (n0 m0 : Nat) := GG (eT (fun (v : Int32) => some (.int v))) l E M_X11_came 7 111 n0 m0
theorem b_X11_came {l : Launch} {E : aE} (hl : l.stackTraces = false) (n0 m0 : Nat) (x1 : Nat) (x2 : Int32) (h0 : aH) : J_X11_came l E n0 m0 0 [(0, .ref (e_z E + x1)), (1, .int x2)] [] h0 (m_X11_came x1 x2 h0) := by
  unfold m_X11_came
  refine g_aload_n (pc := 0) dX11_came_0 0 rfl ?_
  refine g_iload_n (pc := 1) dX11_came_1 1 rfl ?_
  refine g_gS (fun hs => ?_)
  refine g_bXv (pc := 2) rfl (c_V cl11 hs (p_X11_needCall hl x1 x2 h0) y_X11_needCall tw1155 dX11_came_2 rfl (st := []) rfl (Nat.le_of_ble_eq_true rfl) (Nat.le_of_ble_eq_true rfl) (Nat.le_of_ble_eq_true rfl)) (fun _ h1 => ?_)
  refine g_aload_n (pc := 5) dX11_came_5 0 rfl ?_
  refine g_getr (pc := 6) cl11 (Nat.le_of_ble_eq_true rfl) fk495 (fun _ _ _ => rfl) dX11_came_6 (fun x3 => ?_)
  refine g_getr (pc := 9) cl10 (Nat.le_of_ble_eq_true rfl) fk379 (fun _ _ _ => rfl) dX11_came_9 (fun x4 => ?_)
  refine g_getr (pc := 12) cl0 (Nat.le_of_ble_eq_true rfl) fk321 (fun _ _ _ => rfl) dX11_came_12 (fun x5 => ?_)
  refine g_iload_n (pc := 15) dX11_came_15 1 rfl ?_
  refine g_iald (pc := 16) dX11_came_16 (fun x6 => ?_)
  exact g_ret (pc := 17) rfl (isRet_i _) dX11_came_17 rfl
theorem p_X11_came {l : Launch} {E : aE} (hl : l.stackTraces = false) (x1 : Nat) (x2 : Int32) (h0 : aH) : MO (eT (fun (v : Int32) => some (.int v))) l E yX11_came (.code yX11_came cX11_came 2 (some .int)) 7 111 [.ref (e_z E + x1), .int x2] h0 (m_X11_came x1 x2 h0) := g_met hl (by decide +kernel) (Nat.le_of_ble_eq_true rfl) (b_X11_came hl _ _ x1 x2 h0)
theorem dX11_left_0 : decode cX11_left 0 = .ok (.aload_n 0, 1) := by decide +kernel
theorem dX11_left_1 : decode cX11_left 1 = .ok (.iload_n 1, 1) := by decide +kernel
theorem dX11_left_2 : decode cX11_left 2 = .ok (.invokevirtual 241, 3) := by decide +kernel
theorem dX11_left_5 : decode cX11_left 5 = .ok (.aload_n 0, 1) := by decide +kernel
theorem dX11_left_6 : decode cX11_left 6 = .ok (.getfield 37, 3) := by decide +kernel
theorem dX11_left_9 : decode cX11_left 9 = .ok (.getfield 131, 3) := by decide +kernel
theorem dX11_left_12 : decode cX11_left 12 = .ok (.getfield 257, 3) := by decide +kernel
theorem dX11_left_15 : decode cX11_left 15 = .ok (.iload_n 1, 1) := by decide +kernel
theorem dX11_left_16 : decode cX11_left 16 = .ok (.iaload, 1) := by decide +kernel
theorem dX11_left_17 : decode cX11_left 17 = .ok (.ireturn, 1) := by decide +kernel
abbrev M_X11_left : aM := (yX11_left.cls, cX11_left, 2, (some .int), [], yX11_left.name == "<init>")
abbrev J_X11_left (l : Launch) (E : aE) (n0 m0 : Nat) := GG (eT (fun (v : Int32) => some (.int v))) l E M_X11_left 7 111 n0 m0
theorem b_X11_left {l : Launch} {E : aE} (hl : l.stackTraces = false) (n0 m0 : Nat) (x1 : Nat) (x2 : Int32) (h0 : aH) : J_X11_left l E n0 m0 0 [(0, .ref (e_z E + x1)), (1, .int x2)] [] h0 (m_X11_left x1 x2 h0) := by
  unfold m_X11_left
  refine g_aload_n (pc := 0) dX11_left_0 0 rfl ?_
  refine g_iload_n (pc := 1) dX11_left_1 1 rfl ?_
  refine g_gS (fun hs => ?_)
  refine g_bXv (pc := 2) rfl (c_V cl11 hs (p_X11_needCall hl x1 x2 h0) y_X11_needCall tw1155 dX11_left_2 rfl (st := []) rfl (Nat.le_of_ble_eq_true rfl) (Nat.le_of_ble_eq_true rfl) (Nat.le_of_ble_eq_true rfl)) (fun _ h1 => ?_)
  refine g_aload_n (pc := 5) dX11_left_5 0 rfl ?_
  refine g_getr (pc := 6) cl11 (Nat.le_of_ble_eq_true rfl) fk495 (fun _ _ _ => rfl) dX11_left_6 (fun x3 => ?_)
  refine g_getr (pc := 9) cl10 (Nat.le_of_ble_eq_true rfl) fk379 (fun _ _ _ => rfl) dX11_left_9 (fun x4 => ?_)
  refine g_getr (pc := 12) cl0 (Nat.le_of_ble_eq_true rfl) fk323 (fun _ _ _ => rfl) dX11_left_12 (fun x5 => ?_)
  refine g_iload_n (pc := 15) dX11_left_15 1 rfl ?_
  refine g_iald (pc := 16) dX11_left_16 (fun x6 => ?_)
  exact g_ret (pc := 17) rfl (isRet_i _) dX11_left_17 rfl
theorem p_X11_left {l : Launch} {E : aE} (hl : l.stackTraces = false) (x1 : Nat) (x2 : Int32) (h0 : aH) : MO (eT (fun (v : Int32) => some (.int v))) l E yX11_left (.code yX11_left cX11_left 2 (some .int)) 7 111 [.ref (e_z E + x1), .int x2] h0 (m_X11_left x1 x2 h0) := g_met hl (by decide +kernel) (Nat.le_of_ble_eq_true rfl) (b_X11_left hl _ _ x1 x2 h0)
