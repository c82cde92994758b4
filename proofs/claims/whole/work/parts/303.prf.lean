/-! proofs of methods -/
theorem dX9_readsPager_0 : decode cX9_readsPager 0 = .ok (.aload_n 0, 1) := by decide +kernel
theorem dX9_readsPager_1 : decode cX9_readsPager 1 = .ok (.getfield 28, 3) := by decide +kernel
theorem dX9_readsPager_4 : decode cX9_readsPager 4 = .ok (.getfield 202, 3) := by decide +kernel
theorem dX9_readsPager_7 : decode cX9_readsPager 7 = .ok (.bipush 6, 2) := by decide +kernel
theorem dX9_readsPager_9 : decode cX9_readsPager 9 = .ok (.if_icmp .lt 9, 3) := by decide +kernel
theorem dX9_readsPager_12 : decode cX9_readsPager 12 = .ok (.aload_n 0, 1) := by decide +kernel
theorem dX9_readsPager_13 : decode cX9_readsPager 13 = .ok (.iconst 5, 1) := by decide +kernel
theorem dX9_readsPager_14 : decode cX9_readsPager 14 = .ok (.invokevirtual 57, 3) := by decide +kernel
theorem dX9_readsPager_17 : decode cX9_readsPager 17 = .ok (.ireturn, 1) := by decide +kernel
theorem dX9_readsPager_18 : decode cX9_readsPager 18 = .ok (.aload_n 0, 1) := by decide +kernel
theorem dX9_readsPager_19 : decode cX9_readsPager 19 = .ok (.invokevirtual 43, 3) := by decide +kernel
theorem dX9_readsPager_22 : decode cX9_readsPager 22 = .ok (.aload_n 0, 1) := by decide +kernel
theorem dX9_readsPager_23 : decode cX9_readsPager 23 = .ok (.getfield 28, 3) := by decide +kernel
theorem dX9_readsPager_26 : decode cX9_readsPager 26 = .ok (.getfield 205, 3) := by decide +kernel
theorem dX9_readsPager_29 : decode cX9_readsPager 29 = .ok (.aload_n 0, 1) := by decide +kernel
theorem dX9_readsPager_30 : decode cX9_readsPager 30 = .ok (.getfield 28, 3) := by decide +kernel
theorem dX9_readsPager_33 : decode cX9_readsPager 33 = .ok (.getfield 202, 3) := by decide +kernel
theorem dX9_readsPager_36 : decode cX9_readsPager 36 = .ok (.aaload, 1) := by decide +kernel
theorem dX9_readsPager_37 : decode cX9_readsPager 37 = .ok (.astore_n 1, 1) := by decide +kernel
theorem dX9_readsPager_38 : decode cX9_readsPager 38 = .ok (.aload_n 0, 1) := by decide +kernel
theorem dX9_readsPager_39 : decode cX9_readsPager 39 = .ok (.iconst 1, 1) := by decide +kernel
theorem dX9_readsPager_40 : decode cX9_readsPager 40 = .ok (.invokevirtual 162, 3) := by decide +kernel
theorem dX9_readsPager_43 : decode cX9_readsPager 43 = .ok (.ifCond .ne 5, 3) := by decide +kernel
theorem dX9_readsPager_46 : decode cX9_readsPager 46 = .ok (.iconst 0, 1) := by decide +kernel
theorem dX9_readsPager_47 : decode cX9_readsPager 47 = .ok (.ireturn, 1) := by decide +kernel
theorem dX9_readsPager_48 : decode cX9_readsPager 48 = .ok (.aload_n 1, 1) := by decide +kernel
theorem dX9_readsPager_49 : decode cX9_readsPager 49 = .ok (.aload_n 0, 1) := by decide +kernel
theorem dX9_readsPager_50 : decode cX9_readsPager 50 = .ok (.getfield 112, 3) := by decide +kernel
theorem dX9_readsPager_53 : decode cX9_readsPager 53 = .ok (.putfield 209, 3) := by decide +kernel
theorem dX9_readsPager_56 : decode cX9_readsPager 56 = .ok (.aload_n 0, 1) := by decide +kernel
theorem dX9_readsPager_57 : decode cX9_readsPager 57 = .ok (.iconst 0, 1) := by decide +kernel
theorem dX9_readsPager_58 : decode cX9_readsPager 58 = .ok (.bipush 9, 2) := by decide +kernel
theorem dX9_readsPager_60 : decode cX9_readsPager 60 = .ok (.invokevirtual 129, 3) := by decide +kernel
theorem dX9_readsPager_63 : decode cX9_readsPager 63 = .ok (.ifCond .ne 5, 3) := by decide +kernel
theorem dX9_readsPager_66 : decode cX9_readsPager 66 = .ok (.iconst 0, 1) := by decide +kernel
theorem dX9_readsPager_67 : decode cX9_readsPager 67 = .ok (.ireturn, 1) := by decide +kernel
theorem dX9_readsPager_68 : decode cX9_readsPager 68 = .ok (.aload_n 1, 1) := by decide +kernel
theorem dX9_readsPager_69 : decode cX9_readsPager 69 = .ok (.aload_n 0, 1) := by decide +kernel
theorem dX9_readsPager_70 : decode cX9_readsPager 70 = .ok (.getfield 109, 3) := by decide +kernel
theorem dX9_readsPager_73 : decode cX9_readsPager 73 = .ok (.putfield 212, 3) := by decide +kernel
theorem dX9_readsPager_76 : decode cX9_readsPager 76 = .ok (.aload_n 0, 1) := by decide +kernel
theorem dX9_readsPager_77 : decode cX9_readsPager 77 = .ok (.iconst 1, 1) := by decide +kernel
theorem dX9_readsPager_78 : decode cX9_readsPager 78 = .ok (.sipush 168, 3) := by decide +kernel
theorem dX9_readsPager_81 : decode cX9_readsPager 81 = .ok (.invokevirtual 129, 3) := by decide +kernel
theorem dX9_readsPager_84 : decode cX9_readsPager 84 = .ok (.ifCond .ne 5, 3) := by decide +kernel
theorem dX9_readsPager_87 : decode cX9_readsPager 87 = .ok (.iconst 0, 1) := by decide +kernel
theorem dX9_readsPager_88 : decode cX9_readsPager 88 = .ok (.ireturn, 1) := by decide +kernel
theorem dX9_readsPager_89 : decode cX9_readsPager 89 = .ok (.aload_n 1, 1) := by decide +kernel
theorem dX9_readsPager_90 : decode cX9_readsPager 90 = .ok (.bipush 60, 2) := by decide +kernel
theorem dX9_readsPager_92 : decode cX9_readsPager 92 = .ok (.aload_n 0, 1) := by decide +kernel
theorem dX9_readsPager_93 : decode cX9_readsPager 93 = .ok (.getfield 109, 3) := by decide +kernel
theorem dX9_readsPager_96 : decode cX9_readsPager 96 = .ok (.imul, 1) := by decide +kernel
theorem dX9_readsPager_97 : decode cX9_readsPager 97 = .ok (.putfield 215, 3) := by decide +kernel
theorem dX9_readsPager_100 : decode cX9_readsPager 100 = .ok (.aload_n 1, 1) := by decide +kernel
theorem dX9_readsPager_101 : decode cX9_readsPager 101 = .ok (.iconst 0, 1) := by decide +kernel
theorem dX9_readsPager_102 : decode cX9_readsPager 102 = .ok (.putfield 218, 3) := by decide +kernel
theorem dX9_readsPager_105 : decode cX9_readsPager 105 = .ok (.iconst 0, 1) := by decide +kernel
theorem dX9_readsPager_106 : decode cX9_readsPager 106 = .ok (.istore_n 2, 1) := by decide +kernel
theorem dX9_readsPager_107 : decode cX9_readsPager 107 = .ok (.iload_n 2, 1) := by decide +kernel
theorem dX9_readsPager_108 : decode cX9_readsPager 108 = .ok (.sipush 1200, 3) := by decide +kernel
theorem dX9_readsPager_111 : decode cX9_readsPager 111 = .ok (.if_icmp .ge 73, 3) := by decide +kernel
theorem dX9_readsPager_114 : decode cX9_readsPager 114 = .ok (.iload_n 2, 1) := by decide +kernel
theorem dX9_readsPager_115 : decode cX9_readsPager 115 = .ok (.ifCond .eq 11, 3) := by decide +kernel
theorem dX9_readsPager_118 : decode cX9_readsPager 118 = .ok (.aload_n 0, 1) := by decide +kernel
theorem dX9_readsPager_119 : decode cX9_readsPager 119 = .ok (.getfield 50, 3) := by decide +kernel
theorem dX9_readsPager_122 : decode cX9_readsPager 122 = .ok (.iconst 1, 1) := by decide +kernel
theorem dX9_readsPager_123 : decode cX9_readsPager 123 = .ok (.if_icmp .ne 61, 3) := by decide +kernel
theorem dX9_readsPager_126 : decode cX9_readsPager 126 = .ok (.aload_n 0, 1) := by decide +kernel
theorem dX9_readsPager_127 : decode cX9_readsPager 127 = .ok (.iconst 0, 1) := by decide +kernel
theorem dX9_readsPager_128 : decode cX9_readsPager 128 = .ok (.invokevirtual 193, 3) := by decide +kernel
theorem dX9_readsPager_131 : decode cX9_readsPager 131 = .ok (.ifCond .ne 5, 3) := by decide +kernel
theorem dX9_readsPager_134 : decode cX9_readsPager 134 = .ok (.iconst 0, 1) := by decide +kernel
theorem dX9_readsPager_135 : decode cX9_readsPager 135 = .ok (.ireturn, 1) := by decide +kernel
theorem dX9_readsPager_136 : decode cX9_readsPager 136 = .ok (.aload_n 1, 1) := by decide +kernel
theorem dX9_readsPager_137 : decode cX9_readsPager 137 = .ok (.getfield 218, 3) := by decide +kernel
theorem dX9_readsPager_140 : decode cX9_readsPager 140 = .ok (.bipush 8, 2) := by decide +kernel
theorem dX9_readsPager_142 : decode cX9_readsPager 142 = .ok (.if_icmp .lt 13, 3) := by decide +kernel
theorem dX9_readsPager_145 : decode cX9_readsPager 145 = .ok (.aload_n 0, 1) := by decide +kernel
theorem dX9_readsPager_146 : decode cX9_readsPager 146 = .ok (.iconst 5, 1) := by decide +kernel
theorem dX9_readsPager_147 : decode cX9_readsPager 147 = .ok (.aload_n 0, 1) := by decide +kernel
theorem dX9_readsPager_148 : decode cX9_readsPager 148 = .ok (.getfield 91, 3) := by decide +kernel
theorem dX9_readsPager_151 : decode cX9_readsPager 151 = .ok (.invokevirtual 105, 3) := by decide +kernel
theorem dX9_readsPager_154 : decode cX9_readsPager 154 = .ok (.ireturn, 1) := by decide +kernel
theorem dX9_readsPager_155 : decode cX9_readsPager 155 = .ok (.aload_n 1, 1) := by decide +kernel
theorem dX9_readsPager_156 : decode cX9_readsPager 156 = .ok (.getfield 221, 3) := by decide +kernel
theorem dX9_readsPager_159 : decode cX9_readsPager 159 = .ok (.aload_n 1, 1) := by decide +kernel
theorem dX9_readsPager_160 : decode cX9_readsPager 160 = .ok (.getfield 218, 3) := by decide +kernel
theorem dX9_readsPager_163 : decode cX9_readsPager 163 = .ok (.aload_n 0, 1) := by decide +kernel
theorem dX9_readsPager_164 : decode cX9_readsPager 164 = .ok (.getfield 109, 3) := by decide +kernel
theorem dX9_readsPager_167 : decode cX9_readsPager 167 = .ok (.iastore, 1) := by decide +kernel
theorem dX9_readsPager_168 : decode cX9_readsPager 168 = .ok (.aload_n 1, 1) := by decide +kernel
theorem dX9_readsPager_169 : decode cX9_readsPager 169 = .ok (.dup, 1) := by decide +kernel
theorem dX9_readsPager_170 : decode cX9_readsPager 170 = .ok (.getfield 218, 3) := by decide +kernel
theorem dX9_readsPager_173 : decode cX9_readsPager 173 = .ok (.iconst 1, 1) := by decide +kernel
theorem dX9_readsPager_174 : decode cX9_readsPager 174 = .ok (.iadd, 1) := by decide +kernel
theorem dX9_readsPager_175 : decode cX9_readsPager 175 = .ok (.putfield 218, 3) := by decide +kernel
theorem dX9_readsPager_178 : decode cX9_readsPager 178 = .ok (.iinc 2 1, 3) := by decide +kernel
theorem dX9_readsPager_181 : decode cX9_readsPager 181 = .ok (.goto (-74), 3) := by decide +kernel
theorem dX9_readsPager_184 : decode cX9_readsPager 184 = .ok (.aload_n 0, 1) := by decide +kernel
theorem dX9_readsPager_185 : decode cX9_readsPager 185 = .ok (.getfield 28, 3) := by decide +kernel
theorem dX9_readsPager_188 : decode cX9_readsPager 188 = .ok (.dup, 1) := by decide +kernel
theorem dX9_readsPager_189 : decode cX9_readsPager 189 = .ok (.getfield 202, 3) := by decide +kernel
theorem dX9_readsPager_192 : decode cX9_readsPager 192 = .ok (.iconst 1, 1) := by decide +kernel
theorem dX9_readsPager_193 : decode cX9_readsPager 193 = .ok (.iadd, 1) := by decide +kernel
theorem dX9_readsPager_194 : decode cX9_readsPager 194 = .ok (.putfield 202, 3) := by decide +kernel
theorem dX9_readsPager_197 : decode cX9_readsPager 197 = .ok (.iconst 1, 1) := by decide +kernel
theorem dX9_readsPager_198 : decode cX9_readsPager 198 = .ok (.ireturn, 1) := by decide +kernel
abbrev M_X9_readsPager : aM := (yX9_readsPager.cls, cX9_readsPager, 3, (some .boolean), [], yX9_readsPager.name == "<init>")
abbrev J_X9_readsPager (l : Launch) (E : aE) (n0 m0 : Nat) := GG (fun (v : Int32) => .inl (some (.int v))) l E M_X9_readsPager 4 86 n0 m0
theorem b_X9_readsPager {l : Launch} {E : aE} (hl : l.stackTraces = false) (n0 m0 : Nat) (x1 : Nat) (h0 : aH) : J_X9_readsPager l E n0 m0 0 [(0, .ref (e_z E + x1))] [] h0 (m_X9_readsPager x1 h0) := by
  unfold m_X9_readsPager
  refine g_aload_n (pc := 0) dX9_readsPager_0 0 rfl ?_
  refine g_getr (pc := 1) cl9 (Nat.le_of_ble_eq_true rfl) fk45 (fun _ _ _ => rfl) dX9_readsPager_1 (fun x2 => ?_)
  refine g_geti (pc := 4) cl8 (Nat.le_of_ble_eq_true rfl) fk254 (fun _ _ _ => rfl) dX9_readsPager_4 (fun x3 => ?_)
  refine g_bipush (pc := 7) dX9_readsPager_7 cb_6 ?_
  refine g_icmplt (pc := 9) (tgt := 18) dX9_readsPager_9 rfl ?_ ?_
  · refine g_aload_n (pc := 18) dX9_readsPager_18 0 rfl ?_
    refine g_gS (fun hs => ?_)
    refine g_bRv (pc := 19) (c_V cl9 hs (p_X9_take hl x1 h0) y_X9_take tw660 dX9_readsPager_19 rfl (st := []) rfl (Nat.le_of_ble_eq_true rfl) (Nat.le_of_ble_eq_true rfl) (Nat.le_of_ble_eq_true rfl)) (fun _ h1 => ?_)
    refine g_aload_n (pc := 22) dX9_readsPager_22 0 rfl ?_
    refine g_getr (pc := 23) cl9 (Nat.le_of_ble_eq_true rfl) fk45 (fun _ _ _ => rfl) dX9_readsPager_23 (fun x4 => ?_)
    refine g_getr (pc := 26) cl8 (Nat.le_of_ble_eq_true rfl) fk258 (fun _ _ _ => rfl) dX9_readsPager_26 (fun x5 => ?_)
    refine g_aload_n (pc := 29) dX9_readsPager_29 0 rfl ?_
    refine g_getr (pc := 30) cl9 (Nat.le_of_ble_eq_true rfl) fk45 (fun _ _ _ => rfl) dX9_readsPager_30 (fun x6 => ?_)
    refine g_geti (pc := 33) cl8 (Nat.le_of_ble_eq_true rfl) fk254 (fun _ _ _ => rfl) dX9_readsPager_33 (fun x7 => ?_)
    refine g_aald (pc := 36) (t := 6) (Nat.le_of_ble_eq_true rfl) (Nat.le_of_ble_eq_true rfl) dX9_readsPager_36 (fun x8 => ?_)
    refine g_astore_n (pc := 37) (lv' := [(1, .ref (e_z E + x8)), (0, .ref (e_z E + x1))]) dX9_readsPager_37 (Nat.le_of_ble_eq_true rfl) rfl ?_
    refine g_aload_n (pc := 38) dX9_readsPager_38 1 rfl ?_
    refine g_iconst (pc := 39) dX9_readsPager_39 ci_1 ?_
    refine g_gS (fun hs => ?_)
    refine g_bRi (pc := 40) (c_V cl9 hs (p_X9_takesNewName hl x1 (1 : Int32) h1) y_X9_takesNewName tw760 dX9_readsPager_40 rfl (st := []) rfl (Nat.le_of_ble_eq_true rfl) (Nat.le_of_ble_eq_true rfl) (Nat.le_of_ble_eq_true rfl)) (fun x9 h2 => ?_)
    refine g_ifne (pc := 43) (tgt := 48) dX9_readsPager_43 rfl ?_ ?_
    · refine g_iconst (pc := 46) dX9_readsPager_46 ci_0 ?_
      exact g_ret (pc := 47) rfl (isRet_z (Or.inl rfl)) dX9_readsPager_47 rfl
    · refine g_aload_n (pc := 48) dX9_readsPager_48 0 rfl ?_
      refine g_aload_n (pc := 49) dX9_readsPager_49 1 rfl ?_
      refine g_getl (pc := 50) cl9 (Nat.le_of_ble_eq_true rfl) fk51 (fun _ _ _ => rfl) dX9_readsPager_50 (fun x10 => ?_)
      refine g_putl (pc := 53) cl6 (Nat.le_of_ble_eq_true rfl) (Or.inl ⟨rfl, fk141⟩) (fun _ _ _ => rfl) (fun _ => ⟨rfl, rfl⟩) dX9_readsPager_53 (fun h3 => ?_)
      refine g_aload_n (pc := 56) dX9_readsPager_56 1 rfl ?_
      refine g_iconst (pc := 57) dX9_readsPager_57 ci_0 ?_
      refine g_bipush (pc := 58) dX9_readsPager_58 cb_9 ?_
      refine g_gS (fun hs => ?_)
      refine g_bRi (pc := 60) (c_V cl9 hs (p_X9_takesNumber hl x1 (0 : Int32) (9 : Int32) h3) y_X9_takesNumber tw735 dX9_readsPager_60 rfl (st := []) rfl (Nat.le_of_ble_eq_true rfl) (Nat.le_of_ble_eq_true rfl) (Nat.le_of_ble_eq_true rfl)) (fun x11 h4 => ?_)
      refine g_ifne (pc := 63) (tgt := 68) dX9_readsPager_63 rfl ?_ ?_
      · refine g_iconst (pc := 66) dX9_readsPager_66 ci_0 ?_
        exact g_ret (pc := 67) rfl (isRet_z (Or.inl rfl)) dX9_readsPager_67 rfl
      · refine g_aload_n (pc := 68) dX9_readsPager_68 0 rfl ?_
        refine g_aload_n (pc := 69) dX9_readsPager_69 1 rfl ?_
        refine g_geti (pc := 70) cl9 (Nat.le_of_ble_eq_true rfl) fk50 (fun _ _ _ => rfl) dX9_readsPager_70 (fun x12 => ?_)
        refine g_puti (pc := 73) cl6 (Nat.le_of_ble_eq_true rfl) (Or.inl ⟨rfl, fk143⟩) (fun _ _ _ => rfl) (fun _ => ⟨rfl, rfl⟩) dX9_readsPager_73 (fun h5 => ?_)
        refine g_aload_n (pc := 76) dX9_readsPager_76 1 rfl ?_
        refine g_iconst (pc := 77) dX9_readsPager_77 ci_1 ?_
        refine g_sipush (pc := 78) dX9_readsPager_78 cs_168 ?_
        refine g_gS (fun hs => ?_)
        refine g_bRi (pc := 81) (c_V cl9 hs (p_X9_takesNumber hl x1 (1 : Int32) (168 : Int32) h5) y_X9_takesNumber tw735 dX9_readsPager_81 rfl (st := []) rfl (Nat.le_of_ble_eq_true rfl) (Nat.le_of_ble_eq_true rfl) (Nat.le_of_ble_eq_true rfl)) (fun x13 h6 => ?_)
        refine g_ifne (pc := 84) (tgt := 89) dX9_readsPager_84 rfl ?_ ?_
        · refine g_iconst (pc := 87) dX9_readsPager_87 ci_0 ?_
          exact g_ret (pc := 88) rfl (isRet_z (Or.inl rfl)) dX9_readsPager_88 rfl
        · refine g_aload_n (pc := 89) dX9_readsPager_89 0 rfl ?_
          refine g_bipush (pc := 90) dX9_readsPager_90 cb_60 ?_
          refine g_aload_n (pc := 92) dX9_readsPager_92 1 rfl ?_
          refine g_geti (pc := 93) cl9 (Nat.le_of_ble_eq_true rfl) fk50 (fun _ _ _ => rfl) dX9_readsPager_93 (fun x14 => ?_)
          refine g_imul (pc := 96) dX9_readsPager_96 ?_
          refine g_puti (pc := 97) cl6 (Nat.le_of_ble_eq_true rfl) (Or.inl ⟨rfl, fk145⟩) (fun _ _ _ => rfl) (fun _ => ⟨rfl, rfl⟩) dX9_readsPager_97 (fun h7 => ?_)
          refine g_aload_n (pc := 100) dX9_readsPager_100 0 rfl ?_
          refine g_iconst (pc := 101) dX9_readsPager_101 ci_0 ?_
          refine g_puti (pc := 102) cl6 (Nat.le_of_ble_eq_true rfl) (Or.inl ⟨rfl, fk147⟩) (fun _ _ _ => rfl) (fun _ => ⟨rfl, rfl⟩) dX9_readsPager_102 (fun h8 => ?_)
          refine g_iconst (pc := 105) dX9_readsPager_105 ci_0 ?_
          refine g_istore_n (pc := 106) (lv' := [(2, .int (0 : Int32)), (1, .ref (e_z E + x8)), (0, .ref (e_z E + x1))]) dX9_readsPager_106 (Nat.le_of_ble_eq_true rfl) rfl ?_
          refine g_join (fun k => ∀ (h9 : aH), J_X9_readsPager l E n0 m0 184 [(0, .ref (e_z E + x1))] [] h9 (k h9)) (fun h9 => ?_) (fun k184 hk184 => ?_)
          · refine g_aload_n (pc := 184) dX9_readsPager_184 0 rfl ?_
            refine g_getr (pc := 185) cl9 (Nat.le_of_ble_eq_true rfl) fk45 (fun _ _ _ => rfl) dX9_readsPager_185 (fun x15 => ?_)
            refine g_dup (pc := 188) rfl dX9_readsPager_188 ?_
            refine g_geti (pc := 189) cl8 (Nat.le_of_ble_eq_true rfl) fk254 (fun _ _ _ => rfl) dX9_readsPager_189 (fun x16 => ?_)
            refine g_iconst (pc := 192) dX9_readsPager_192 ci_1 ?_
            refine g_iadd (pc := 193) dX9_readsPager_193 ?_
            refine g_puti (pc := 194) cl8 (Nat.le_of_ble_eq_true rfl) (Or.inl ⟨rfl, fk254⟩) (fun _ _ _ => rfl) (fun _ => ⟨rfl, rfl⟩) dX9_readsPager_194 (fun h10 => ?_)
            refine g_iconst (pc := 197) dX9_readsPager_197 ci_1 ?_
            exact g_ret (pc := 198) rfl (isRet_z (Or.inr rfl)) dX9_readsPager_198 rfl
          refine g_join (fun k => ∀ (h11 : aH), J_X9_readsPager l E n0 m0 145 [(0, .ref (e_z E + x1))] [] h11 (k h11)) (fun h11 => ?_) (fun k145 hk145 => ?_)
          · refine g_aload_n (pc := 145) dX9_readsPager_145 0 rfl ?_
            refine g_iconst (pc := 146) dX9_readsPager_146 ci_5 ?_
            refine g_aload_n (pc := 147) dX9_readsPager_147 0 rfl ?_
            refine g_geti (pc := 148) cl9 (Nat.le_of_ble_eq_true rfl) fk49 (fun _ _ _ => rfl) dX9_readsPager_148 (fun x17 => ?_)
            refine g_gS (fun hs => ?_)
            refine g_bRi (pc := 151) (c_V cl9 hs (p_X9_failsAt hl x1 (5 : Int32) x17 h11) y_X9_failsAt tw731 dX9_readsPager_151 rfl (st := []) rfl (Nat.le_of_ble_eq_true rfl) (Nat.le_of_ble_eq_true rfl) (Nat.le_of_ble_eq_true rfl)) (fun x18 h12 => ?_)
            refine g_zO (fun hz => ?_)
            exact g_ret (pc := 154) rfl (isRet_z hz) dX9_readsPager_154 rfl
          refine g_join (fun k => ∀ (h13 : aH), J_X9_readsPager l E n0 m0 134 [] [] h13 (k h13)) (fun h13 => ?_) (fun k134 hk134 => ?_)
          · refine g_iconst (pc := 134) dX9_readsPager_134 ci_0 ?_
            exact g_ret (pc := 135) rfl (isRet_z (Or.inl rfl)) dX9_readsPager_135 rfl
          refine g_lv [2, 1, 0] rfl ?_
          refine g_loop1 (F := (m_X9_readsPager_L107 x1 x8 k184 k145 k134)) (fun x20 => [(0, .ref (e_z E + x1)), (1, .ref (e_z E + x8)), (2, .int x20)]) (fun r107 hr107 x20 h14 => ?_) _ _ _
          unfold m_X9_readsPager_L107
          refine g_iload_n (pc := 107) dX9_readsPager_107 2 rfl ?_
          refine g_sipush (pc := 108) dX9_readsPager_108 cs_1200 ?_
          refine g_icmpge (pc := 111) (tgt := 184) dX9_readsPager_111 rfl ?_ ?_
          · refine g_iload_n (pc := 114) dX9_readsPager_114 2 rfl ?_
            refine g_join (fun k => ∀ (h15 : aH), J_X9_readsPager l E n0 m0 126 [(0, .ref (e_z E + x1)), (1, .ref (e_z E + x8)), (2, .int x20)] [] h15 (k h15)) (fun h15 => ?_) (fun k126 hk126 => ?_)
            · refine g_aload_n (pc := 126) dX9_readsPager_126 0 rfl ?_
              refine g_iconst (pc := 127) dX9_readsPager_127 ci_0 ?_
              refine g_gS (fun hs => ?_)
              refine g_bRi (pc := 128) (c_V cl9 hs (p_X9_takesNameOf hl x1 (0 : Int32) h15) y_X9_takesNameOf tw801 dX9_readsPager_128 rfl (st := []) rfl (Nat.le_of_ble_eq_true rfl) (Nat.le_of_ble_eq_true rfl) (Nat.le_of_ble_eq_true rfl)) (fun x21 h16 => ?_)
              refine g_ifne (pc := 131) (tgt := 136) dX9_readsPager_131 rfl ?_ ?_
              · refine g_lv [] rfl ?_
                exact hk134 h16
              · refine g_aload_n (pc := 136) dX9_readsPager_136 1 rfl ?_
                refine g_geti (pc := 137) cl6 (Nat.le_of_ble_eq_true rfl) fk147 (fun _ _ _ => rfl) dX9_readsPager_137 (fun x22 => ?_)
                refine g_bipush (pc := 140) dX9_readsPager_140 cb_8 ?_
                refine g_icmplt (pc := 142) (tgt := 155) dX9_readsPager_142 rfl ?_ ?_
                · refine g_aload_n (pc := 155) dX9_readsPager_155 1 rfl ?_
                  refine g_getr (pc := 156) cl6 (Nat.le_of_ble_eq_true rfl) fk151 (fun _ _ _ => rfl) dX9_readsPager_156 (fun x23 => ?_)
                  refine g_aload_n (pc := 159) dX9_readsPager_159 1 rfl ?_
                  refine g_geti (pc := 160) cl6 (Nat.le_of_ble_eq_true rfl) fk147 (fun _ _ _ => rfl) dX9_readsPager_160 (fun x24 => ?_)
                  refine g_aload_n (pc := 163) dX9_readsPager_163 0 rfl ?_
                  refine g_geti (pc := 164) cl9 (Nat.le_of_ble_eq_true rfl) fk50 (fun _ _ _ => rfl) dX9_readsPager_164 (fun x25 => ?_)
                  refine g_iast (pc := 167) dX9_readsPager_167 (fun h17 => ?_)
                  refine g_aload_n (pc := 168) dX9_readsPager_168 1 rfl ?_
                  refine g_dup (pc := 169) rfl dX9_readsPager_169 ?_
                  refine g_geti (pc := 170) cl6 (Nat.le_of_ble_eq_true rfl) fk147 (fun _ _ _ => rfl) dX9_readsPager_170 (fun x26 => ?_)
                  refine g_iconst (pc := 173) dX9_readsPager_173 ci_1 ?_
                  refine g_iadd (pc := 174) dX9_readsPager_174 ?_
                  refine g_puti (pc := 175) cl6 (Nat.le_of_ble_eq_true rfl) (Or.inl ⟨rfl, fk147⟩) (fun _ _ _ => rfl) (fun _ => ⟨rfl, rfl⟩) dX9_readsPager_175 (fun h18 => ?_)
                  refine g_iincN (pc := 178) dX9_readsPager_178 2 rfl ci_1 (Nat.le_of_ble_eq_true rfl) (fun x27 => ?_)
                  refine g_lvr (lv' := [(2, .int x27), (0, .ref (e_z E + x1)), (1, .ref (e_z E + x8))]) rfl ?_
                  refine g_goto (pc := 181) (tgt := 107) dX9_readsPager_181 rfl ?_
                  refine g_lv [1, 2, 0] rfl ?_
                  exact hr107 x27 h18
                · refine g_lv [0] rfl ?_
                  exact hk145 h16
            refine g_ifeq (pc := 115) (tgt := 126) dX9_readsPager_115 rfl ?_ ?_
            · exact hk126 h14
            · refine g_aload_n (pc := 118) dX9_readsPager_118 0 rfl ?_
              refine g_geti (pc := 119) cl9 (Nat.le_of_ble_eq_true rfl) fk46 (fun _ _ _ => rfl) dX9_readsPager_119 (fun x28 => ?_)
              refine g_iconst (pc := 122) dX9_readsPager_122 ci_1 ?_
              refine g_icmpne (pc := 123) (tgt := 184) dX9_readsPager_123 rfl ?_ ?_
              · exact hk126 h14
              · refine g_lv [0] rfl ?_
                exact hk184 h14
          · refine g_lv [0] rfl ?_
            exact hk184 h14
  · refine g_aload_n (pc := 12) dX9_readsPager_12 0 rfl ?_
    refine g_iconst (pc := 13) dX9_readsPager_13 ci_5 ?_
    refine g_gS (fun hs => ?_)
    refine g_bRi (pc := 14) (c_V cl9 hs (p_X9_fails hl x1 (5 : Int32) h0) y_X9_fails tw727 dX9_readsPager_14 rfl (st := []) rfl (Nat.le_of_ble_eq_true rfl) (Nat.le_of_ble_eq_true rfl) (Nat.le_of_ble_eq_true rfl)) (fun x29 h19 => ?_)
    refine g_zO (fun hz => ?_)
    exact g_ret (pc := 17) rfl (isRet_z hz) dX9_readsPager_17 rfl
theorem p_X9_readsPager {l : Launch} {E : aE} (hl : l.stackTraces = false) (x1 : Nat) (h0 : aH) : MO (fun (v : Int32) => .inl (some (.int v))) l E yX9_readsPager (.code yX9_readsPager cX9_readsPager 3 (some .boolean)) 4 86 [.ref (e_z E + x1)] h0 (m_X9_readsPager x1 h0) := g_met hl (by decide +kernel) (Nat.le_of_ble_eq_true rfl) (b_X9_readsPager hl _ _ x1 h0)
theorem dX9_readsEngine_0 : decode cX9_readsEngine 0 = .ok (.aload_n 0, 1) := by decide +kernel
theorem dX9_readsEngine_1 : decode cX9_readsEngine 1 = .ok (.getfield 28, 3) := by decide +kernel
theorem dX9_readsEngine_4 : decode cX9_readsEngine 4 = .ok (.getfield 224, 3) := by decide +kernel
theorem dX9_readsEngine_7 : decode cX9_readsEngine 7 = .ok (.iconst 5, 1) := by decide +kernel
theorem dX9_readsEngine_8 : decode cX9_readsEngine 8 = .ok (.if_icmp .lt 9, 3) := by decide +kernel
theorem dX9_readsEngine_11 : decode cX9_readsEngine 11 = .ok (.aload_n 0, 1) := by decide +kernel
theorem dX9_readsEngine_12 : decode cX9_readsEngine 12 = .ok (.iconst 5, 1) := by decide +kernel
theorem dX9_readsEngine_13 : decode cX9_readsEngine 13 = .ok (.invokevirtual 57, 3) := by decide +kernel
theorem dX9_readsEngine_16 : decode cX9_readsEngine 16 = .ok (.ireturn, 1) := by decide +kernel
theorem dX9_readsEngine_17 : decode cX9_readsEngine 17 = .ok (.aload_n 0, 1) := by decide +kernel
theorem dX9_readsEngine_18 : decode cX9_readsEngine 18 = .ok (.invokevirtual 43, 3) := by decide +kernel
theorem dX9_readsEngine_21 : decode cX9_readsEngine 21 = .ok (.aload_n 0, 1) := by decide +kernel
theorem dX9_readsEngine_22 : decode cX9_readsEngine 22 = .ok (.getfield 28, 3) := by decide +kernel
theorem dX9_readsEngine_25 : decode cX9_readsEngine 25 = .ok (.getfield 227, 3) := by decide +kernel
theorem dX9_readsEngine_28 : decode cX9_readsEngine 28 = .ok (.aload_n 0, 1) := by decide +kernel
theorem dX9_readsEngine_29 : decode cX9_readsEngine 29 = .ok (.getfield 28, 3) := by decide +kernel
theorem dX9_readsEngine_32 : decode cX9_readsEngine 32 = .ok (.getfield 224, 3) := by decide +kernel
theorem dX9_readsEngine_35 : decode cX9_readsEngine 35 = .ok (.aaload, 1) := by decide +kernel
theorem dX9_readsEngine_36 : decode cX9_readsEngine 36 = .ok (.astore_n 1, 1) := by decide +kernel
theorem dX9_readsEngine_37 : decode cX9_readsEngine 37 = .ok (.aload_n 0, 1) := by decide +kernel
theorem dX9_readsEngine_38 : decode cX9_readsEngine 38 = .ok (.iconst 2, 1) := by decide +kernel
theorem dX9_readsEngine_39 : decode cX9_readsEngine 39 = .ok (.invokevirtual 162, 3) := by decide +kernel
theorem dX9_readsEngine_42 : decode cX9_readsEngine 42 = .ok (.ifCond .ne 5, 3) := by decide +kernel
theorem dX9_readsEngine_45 : decode cX9_readsEngine 45 = .ok (.iconst 0, 1) := by decide +kernel
theorem dX9_readsEngine_46 : decode cX9_readsEngine 46 = .ok (.ireturn, 1) := by decide +kernel
theorem dX9_readsEngine_47 : decode cX9_readsEngine 47 = .ok (.aload_n 1, 1) := by decide +kernel
theorem dX9_readsEngine_48 : decode cX9_readsEngine 48 = .ok (.aload_n 0, 1) := by decide +kernel
theorem dX9_readsEngine_49 : decode cX9_readsEngine 49 = .ok (.getfield 112, 3) := by decide +kernel
theorem dX9_readsEngine_52 : decode cX9_readsEngine 52 = .ok (.putfield 231, 3) := by decide +kernel
theorem dX9_readsEngine_55 : decode cX9_readsEngine 55 = .ok (.aload_n 0, 1) := by decide +kernel
theorem dX9_readsEngine_56 : decode cX9_readsEngine 56 = .ok (.iconst 0, 1) := by decide +kernel
theorem dX9_readsEngine_57 : decode cX9_readsEngine 57 = .ok (.bipush 120, 2) := by decide +kernel
theorem dX9_readsEngine_59 : decode cX9_readsEngine 59 = .ok (.invokevirtual 129, 3) := by decide +kernel
theorem dX9_readsEngine_62 : decode cX9_readsEngine 62 = .ok (.ifCond .ne 5, 3) := by decide +kernel
theorem dX9_readsEngine_65 : decode cX9_readsEngine 65 = .ok (.iconst 0, 1) := by decide +kernel
theorem dX9_readsEngine_66 : decode cX9_readsEngine 66 = .ok (.ireturn, 1) := by decide +kernel
theorem dX9_readsEngine_67 : decode cX9_readsEngine 67 = .ok (.aload_n 1, 1) := by decide +kernel
theorem dX9_readsEngine_68 : decode cX9_readsEngine 68 = .ok (.aload_n 0, 1) := by decide +kernel
theorem dX9_readsEngine_69 : decode cX9_readsEngine 69 = .ok (.getfield 109, 3) := by decide +kernel
theorem dX9_readsEngine_72 : decode cX9_readsEngine 72 = .ok (.putfield 234, 3) := by decide +kernel
theorem dX9_readsEngine_75 : decode cX9_readsEngine 75 = .ok (.aload_n 1, 1) := by decide +kernel
theorem dX9_readsEngine_76 : decode cX9_readsEngine 76 = .ok (.iconst 0, 1) := by decide +kernel
theorem dX9_readsEngine_77 : decode cX9_readsEngine 77 = .ok (.putfield 237, 3) := by decide +kernel
theorem dX9_readsEngine_80 : decode cX9_readsEngine 80 = .ok (.aload_n 1, 1) := by decide +kernel
theorem dX9_readsEngine_81 : decode cX9_readsEngine 81 = .ok (.getfield 240, 3) := by decide +kernel
theorem dX9_readsEngine_84 : decode cX9_readsEngine 84 = .ok (.iconst 0, 1) := by decide +kernel
theorem dX9_readsEngine_85 : decode cX9_readsEngine 85 = .ok (.invokestatic 242, 3) := by decide +kernel
theorem dX9_readsEngine_88 : decode cX9_readsEngine 88 = .ok (.iconst 0, 1) := by decide +kernel
theorem dX9_readsEngine_89 : decode cX9_readsEngine 89 = .ok (.istore_n 2, 1) := by decide +kernel
theorem dX9_readsEngine_90 : decode cX9_readsEngine 90 = .ok (.iload_n 2, 1) := by decide +kernel
theorem dX9_readsEngine_91 : decode cX9_readsEngine 91 = .ok (.sipush 1200, 3) := by decide +kernel
theorem dX9_readsEngine_94 : decode cX9_readsEngine 94 = .ok (.if_icmp .ge 74, 3) := by decide +kernel
theorem dX9_readsEngine_97 : decode cX9_readsEngine 97 = .ok (.iload_n 2, 1) := by decide +kernel
theorem dX9_readsEngine_98 : decode cX9_readsEngine 98 = .ok (.ifCond .eq 11, 3) := by decide +kernel
theorem dX9_readsEngine_101 : decode cX9_readsEngine 101 = .ok (.aload_n 0, 1) := by decide +kernel
theorem dX9_readsEngine_102 : decode cX9_readsEngine 102 = .ok (.getfield 50, 3) := by decide +kernel
theorem dX9_readsEngine_105 : decode cX9_readsEngine 105 = .ok (.iconst 1, 1) := by decide +kernel
theorem dX9_readsEngine_106 : decode cX9_readsEngine 106 = .ok (.if_icmp .ne 62, 3) := by decide +kernel
theorem dX9_readsEngine_109 : decode cX9_readsEngine 109 = .ok (.aload_n 0, 1) := by decide +kernel
theorem dX9_readsEngine_110 : decode cX9_readsEngine 110 = .ok (.ldc 248, 2) := by decide +kernel
theorem dX9_readsEngine_112 : decode cX9_readsEngine 112 = .ok (.invokevirtual 125, 3) := by decide +kernel
theorem dX9_readsEngine_115 : decode cX9_readsEngine 115 = .ok (.ifCond .eq 8, 3) := by decide +kernel
theorem dX9_readsEngine_118 : decode cX9_readsEngine 118 = .ok (.bipush 16, 2) := by decide +kernel
theorem dX9_readsEngine_120 : decode cX9_readsEngine 120 = .ok (.goto 7, 3) := by decide +kernel
theorem dX9_readsEngine_123 : decode cX9_readsEngine 123 = .ok (.aload_n 0, 1) := by decide +kernel
theorem dX9_readsEngine_124 : decode cX9_readsEngine 124 = .ok (.invokevirtual 176, 3) := by decide +kernel
theorem dX9_readsEngine_127 : decode cX9_readsEngine 127 = .ok (.istore_n 3, 1) := by decide +kernel
theorem dX9_readsEngine_128 : decode cX9_readsEngine 128 = .ok (.iload_n 3, 1) := by decide +kernel
theorem dX9_readsEngine_129 : decode cX9_readsEngine 129 = .ok (.ifCond .ne 9, 3) := by decide +kernel
theorem dX9_readsEngine_132 : decode cX9_readsEngine 132 = .ok (.aload_n 0, 1) := by decide +kernel
theorem dX9_readsEngine_133 : decode cX9_readsEngine 133 = .ok (.iconst 1, 1) := by decide +kernel
theorem dX9_readsEngine_134 : decode cX9_readsEngine 134 = .ok (.invokevirtual 57, 3) := by decide +kernel
theorem dX9_readsEngine_137 : decode cX9_readsEngine 137 = .ok (.ireturn, 1) := by decide +kernel
theorem dX9_readsEngine_138 : decode cX9_readsEngine 138 = .ok (.aload_n 1, 1) := by decide +kernel
theorem dX9_readsEngine_139 : decode cX9_readsEngine 139 = .ok (.getfield 237, 3) := by decide +kernel
theorem dX9_readsEngine_142 : decode cX9_readsEngine 142 = .ok (.bipush 6, 2) := by decide +kernel
theorem dX9_readsEngine_144 : decode cX9_readsEngine 144 = .ok (.if_icmp .lt 9, 3) := by decide +kernel
theorem dX9_readsEngine_147 : decode cX9_readsEngine 147 = .ok (.aload_n 0, 1) := by decide +kernel
theorem dX9_readsEngine_148 : decode cX9_readsEngine 148 = .ok (.iconst 5, 1) := by decide +kernel
theorem dX9_readsEngine_149 : decode cX9_readsEngine 149 = .ok (.invokevirtual 57, 3) := by decide +kernel
theorem dX9_readsEngine_152 : decode cX9_readsEngine 152 = .ok (.ireturn, 1) := by decide +kernel
theorem dX9_readsEngine_153 : decode cX9_readsEngine 153 = .ok (.aload_n 1, 1) := by decide +kernel
theorem dX9_readsEngine_154 : decode cX9_readsEngine 154 = .ok (.iload_n 3, 1) := by decide +kernel
theorem dX9_readsEngine_155 : decode cX9_readsEngine 155 = .ok (.invokevirtual 250, 3) := by decide +kernel
theorem dX9_readsEngine_158 : decode cX9_readsEngine 158 = .ok (.aload_n 0, 1) := by decide +kernel
theorem dX9_readsEngine_159 : decode cX9_readsEngine 159 = .ok (.invokevirtual 43, 3) := by decide +kernel
theorem dX9_readsEngine_162 : decode cX9_readsEngine 162 = .ok (.iinc 2 1, 3) := by decide +kernel
theorem dX9_readsEngine_165 : decode cX9_readsEngine 165 = .ok (.goto (-75), 3) := by decide +kernel
theorem dX9_readsEngine_168 : decode cX9_readsEngine 168 = .ok (.aload_n 0, 1) := by decide +kernel
theorem dX9_readsEngine_169 : decode cX9_readsEngine 169 = .ok (.getfield 28, 3) := by decide +kernel
theorem dX9_readsEngine_172 : decode cX9_readsEngine 172 = .ok (.dup, 1) := by decide +kernel
theorem dX9_readsEngine_173 : decode cX9_readsEngine 173 = .ok (.getfield 224, 3) := by decide +kernel
theorem dX9_readsEngine_176 : decode cX9_readsEngine 176 = .ok (.iconst 1, 1) := by decide +kernel
theorem dX9_readsEngine_177 : decode cX9_readsEngine 177 = .ok (.iadd, 1) := by decide +kernel
theorem dX9_readsEngine_178 : decode cX9_readsEngine 178 = .ok (.putfield 224, 3) := by decide +kernel
theorem dX9_readsEngine_181 : decode cX9_readsEngine 181 = .ok (.iconst 1, 1) := by decide +kernel
theorem dX9_readsEngine_182 : decode cX9_readsEngine 182 = .ok (.ireturn, 1) := by decide +kernel
abbrev M_X9_readsEngine : aM := (yX9_readsEngine.cls, cX9_readsEngine, 4, (some .boolean), [], yX9_readsEngine.name == "<init>")
abbrev J_X9_readsEngine (l : Launch) (E : aE) (n0 m0 : Nat) := GG (fun (v : Int32) => .inl (some (.int v))) l E M_X9_readsEngine 9 263 n0 m0
theorem b_X9_readsEngine {l : Launch} {E : aE} (hl : l.stackTraces = false) (n0 m0 : Nat) (x1 : Nat) (h0 : aH) : J_X9_readsEngine l E n0 m0 0 [(0, .ref (e_z E + x1))] [] h0 (m_X9_readsEngine x1 h0) := by
  unfold m_X9_readsEngine
  refine g_aload_n (pc := 0) dX9_readsEngine_0 0 rfl ?_
  refine g_getr (pc := 1) cl9 (Nat.le_of_ble_eq_true rfl) fk45 (fun _ _ _ => rfl) dX9_readsEngine_1 (fun x2 => ?_)
  refine g_geti (pc := 4) cl8 (Nat.le_of_ble_eq_true rfl) fk262 (fun _ _ _ => rfl) dX9_readsEngine_4 (fun x3 => ?_)
  refine g_iconst (pc := 7) dX9_readsEngine_7 ci_5 ?_
  refine g_icmplt (pc := 8) (tgt := 17) dX9_readsEngine_8 rfl ?_ ?_
  · refine g_aload_n (pc := 17) dX9_readsEngine_17 0 rfl ?_
    refine g_gS (fun hs => ?_)
    refine g_bRv (pc := 18) (c_V cl9 hs (p_X9_take hl x1 h0) y_X9_take tw660 dX9_readsEngine_18 rfl (st := []) rfl (Nat.le_of_ble_eq_true rfl) (Nat.le_of_ble_eq_true rfl) (Nat.le_of_ble_eq_true rfl)) (fun _ h1 => ?_)
    refine g_aload_n (pc := 21) dX9_readsEngine_21 0 rfl ?_
    refine g_getr (pc := 22) cl9 (Nat.le_of_ble_eq_true rfl) fk45 (fun _ _ _ => rfl) dX9_readsEngine_22 (fun x4 => ?_)
    refine g_getr (pc := 25) cl8 (Nat.le_of_ble_eq_true rfl) fk266 (fun _ _ _ => rfl) dX9_readsEngine_25 (fun x5 => ?_)
    refine g_aload_n (pc := 28) dX9_readsEngine_28 0 rfl ?_
    refine g_getr (pc := 29) cl9 (Nat.le_of_ble_eq_true rfl) fk45 (fun _ _ _ => rfl) dX9_readsEngine_29 (fun x6 => ?_)
    refine g_geti (pc := 32) cl8 (Nat.le_of_ble_eq_true rfl) fk262 (fun _ _ _ => rfl) dX9_readsEngine_32 (fun x7 => ?_)
    refine g_aald (pc := 35) (t := 7) (Nat.le_of_ble_eq_true rfl) (Nat.le_of_ble_eq_true rfl) dX9_readsEngine_35 (fun x8 => ?_)
    refine g_astore_n (pc := 36) (lv' := [(1, .ref (e_z E + x8)), (0, .ref (e_z E + x1))]) dX9_readsEngine_36 (Nat.le_of_ble_eq_true rfl) rfl ?_
    refine g_aload_n (pc := 37) dX9_readsEngine_37 1 rfl ?_
    refine g_iconst (pc := 38) dX9_readsEngine_38 ci_2 ?_
    refine g_gS (fun hs => ?_)
    refine g_bRi (pc := 39) (c_V cl9 hs (p_X9_takesNewName hl x1 (2 : Int32) h1) y_X9_takesNewName tw760 dX9_readsEngine_39 rfl (st := []) rfl (Nat.le_of_ble_eq_true rfl) (Nat.le_of_ble_eq_true rfl) (Nat.le_of_ble_eq_true rfl)) (fun x9 h2 => ?_)
    refine g_ifne (pc := 42) (tgt := 47) dX9_readsEngine_42 rfl ?_ ?_
    · refine g_iconst (pc := 45) dX9_readsEngine_45 ci_0 ?_
      exact g_ret (pc := 46) rfl (isRet_z (Or.inl rfl)) dX9_readsEngine_46 rfl
    · refine g_aload_n (pc := 47) dX9_readsEngine_47 0 rfl ?_
      refine g_aload_n (pc := 48) dX9_readsEngine_48 1 rfl ?_
      refine g_getl (pc := 49) cl9 (Nat.le_of_ble_eq_true rfl) fk51 (fun _ _ _ => rfl) dX9_readsEngine_49 (fun x10 => ?_)
      refine g_putl (pc := 52) cl1 (Nat.le_of_ble_eq_true rfl) (Or.inl ⟨rfl, fk169⟩) (fun _ _ _ => rfl) (fun _ => ⟨rfl, rfl⟩) dX9_readsEngine_52 (fun h3 => ?_)
      refine g_aload_n (pc := 55) dX9_readsEngine_55 1 rfl ?_
      refine g_iconst (pc := 56) dX9_readsEngine_56 ci_0 ?_
      refine g_bipush (pc := 57) dX9_readsEngine_57 cb_120 ?_
      refine g_gS (fun hs => ?_)
      refine g_bRi (pc := 59) (c_V cl9 hs (p_X9_takesNumber hl x1 (0 : Int32) (120 : Int32) h3) y_X9_takesNumber tw735 dX9_readsEngine_59 rfl (st := []) rfl (Nat.le_of_ble_eq_true rfl) (Nat.le_of_ble_eq_true rfl) (Nat.le_of_ble_eq_true rfl)) (fun x11 h4 => ?_)
      refine g_ifne (pc := 62) (tgt := 67) dX9_readsEngine_62 rfl ?_ ?_
      · refine g_iconst (pc := 65) dX9_readsEngine_65 ci_0 ?_
        exact g_ret (pc := 66) rfl (isRet_z (Or.inl rfl)) dX9_readsEngine_66 rfl
      · refine g_aload_n (pc := 67) dX9_readsEngine_67 0 rfl ?_
        refine g_aload_n (pc := 68) dX9_readsEngine_68 1 rfl ?_
        refine g_geti (pc := 69) cl9 (Nat.le_of_ble_eq_true rfl) fk50 (fun _ _ _ => rfl) dX9_readsEngine_69 (fun x12 => ?_)
        refine g_puti (pc := 72) cl1 (Nat.le_of_ble_eq_true rfl) (Or.inl ⟨rfl, fk171⟩) (fun _ _ _ => rfl) (fun _ => ⟨rfl, rfl⟩) dX9_readsEngine_72 (fun h5 => ?_)
        refine g_aload_n (pc := 75) dX9_readsEngine_75 0 rfl ?_
        refine g_iconst (pc := 76) dX9_readsEngine_76 ci_0 ?_
        refine g_puti (pc := 77) cl1 (Nat.le_of_ble_eq_true rfl) (Or.inl ⟨rfl, fk174⟩) (fun _ _ _ => rfl) (fun _ => ⟨rfl, rfl⟩) dX9_readsEngine_77 (fun h6 => ?_)
        refine g_aload_n (pc := 80) dX9_readsEngine_80 0 rfl ?_
        refine g_getr (pc := 81) cl1 (Nat.le_of_ble_eq_true rfl) fk180 (fun _ _ _ => rfl) dX9_readsEngine_81 (fun x13 => ?_)
        refine g_iconst (pc := 84) dX9_readsEngine_84 ci_0 ?_
        refine g_bRv (pc := 85) (c_S (p_J7_fill_53178 hl x13 (0 : Int32) h6) y_J7_fill_53178 tw816 dX9_readsEngine_85 rfl (st := []) rfl (Nat.le_of_ble_eq_true rfl) (Nat.le_of_ble_eq_true rfl) (Nat.le_of_ble_eq_true rfl)) (fun _ h7 => ?_)
        refine g_iconst (pc := 88) dX9_readsEngine_88 ci_0 ?_
        refine g_istore_n (pc := 89) (lv' := [(2, .int (0 : Int32)), (1, .ref (e_z E + x8)), (0, .ref (e_z E + x1))]) dX9_readsEngine_89 (Nat.le_of_ble_eq_true rfl) rfl ?_
        refine g_join (fun k => ∀ (h8 : aH), J_X9_readsEngine l E n0 m0 168 [(0, .ref (e_z E + x1))] [] h8 (k h8)) (fun h8 => ?_) (fun k168 hk168 => ?_)
        · refine g_aload_n (pc := 168) dX9_readsEngine_168 0 rfl ?_
          refine g_getr (pc := 169) cl9 (Nat.le_of_ble_eq_true rfl) fk45 (fun _ _ _ => rfl) dX9_readsEngine_169 (fun x14 => ?_)
          refine g_dup (pc := 172) rfl dX9_readsEngine_172 ?_
          refine g_geti (pc := 173) cl8 (Nat.le_of_ble_eq_true rfl) fk262 (fun _ _ _ => rfl) dX9_readsEngine_173 (fun x15 => ?_)
          refine g_iconst (pc := 176) dX9_readsEngine_176 ci_1 ?_
          refine g_iadd (pc := 177) dX9_readsEngine_177 ?_
          refine g_puti (pc := 178) cl8 (Nat.le_of_ble_eq_true rfl) (Or.inl ⟨rfl, fk262⟩) (fun _ _ _ => rfl) (fun _ => ⟨rfl, rfl⟩) dX9_readsEngine_178 (fun h9 => ?_)
          refine g_iconst (pc := 181) dX9_readsEngine_181 ci_1 ?_
          exact g_ret (pc := 182) rfl (isRet_z (Or.inr rfl)) dX9_readsEngine_182 rfl
        refine g_join (fun k => ∀ (h10 : aH), J_X9_readsEngine l E n0 m0 147 [(0, .ref (e_z E + x1))] [] h10 (k h10)) (fun h10 => ?_) (fun k147 hk147 => ?_)
        · refine g_aload_n (pc := 147) dX9_readsEngine_147 0 rfl ?_
          refine g_iconst (pc := 148) dX9_readsEngine_148 ci_5 ?_
          refine g_gS (fun hs => ?_)
          refine g_bRi (pc := 149) (c_V cl9 hs (p_X9_fails hl x1 (5 : Int32) h10) y_X9_fails tw727 dX9_readsEngine_149 rfl (st := []) rfl (Nat.le_of_ble_eq_true rfl) (Nat.le_of_ble_eq_true rfl) (Nat.le_of_ble_eq_true rfl)) (fun x16 h11 => ?_)
          refine g_zO (fun hz => ?_)
          exact g_ret (pc := 152) rfl (isRet_z hz) dX9_readsEngine_152 rfl
        refine g_join (fun k => ∀ (h12 : aH), J_X9_readsEngine l E n0 m0 132 [(0, .ref (e_z E + x1))] [] h12 (k h12)) (fun h12 => ?_) (fun k132 hk132 => ?_)
        · refine g_aload_n (pc := 132) dX9_readsEngine_132 0 rfl ?_
          refine g_iconst (pc := 133) dX9_readsEngine_133 ci_1 ?_
          refine g_gS (fun hs => ?_)
          refine g_bRi (pc := 134) (c_V cl9 hs (p_X9_fails hl x1 (1 : Int32) h12) y_X9_fails tw727 dX9_readsEngine_134 rfl (st := []) rfl (Nat.le_of_ble_eq_true rfl) (Nat.le_of_ble_eq_true rfl) (Nat.le_of_ble_eq_true rfl)) (fun x18 h13 => ?_)
          refine g_zO (fun hz => ?_)
          exact g_ret (pc := 137) rfl (isRet_z hz) dX9_readsEngine_137 rfl
        refine g_lv [2, 1, 0] rfl ?_
        refine g_loop1 (F := (m_X9_readsEngine_L90 x1 x8 k168 k147 k132)) (fun x20 => [(0, .ref (e_z E + x1)), (1, .ref (e_z E + x8)), (2, .int x20)]) (fun r90 hr90 x20 h14 => ?_) _ _ _
        unfold m_X9_readsEngine_L90
        refine g_iload_n (pc := 90) dX9_readsEngine_90 2 rfl ?_
        refine g_sipush (pc := 91) dX9_readsEngine_91 cs_1200 ?_
        refine g_icmpge (pc := 94) (tgt := 168) dX9_readsEngine_94 rfl ?_ ?_
        · refine g_iload_n (pc := 97) dX9_readsEngine_97 2 rfl ?_
          refine g_join (fun k => ∀ (h15 : aH), J_X9_readsEngine l E n0 m0 109 [(0, .ref (e_z E + x1)), (1, .ref (e_z E + x8)), (2, .int x20)] [] h15 (k h15)) (fun h15 => ?_) (fun k109 hk109 => ?_)
          · refine g_aload_n (pc := 109) dX9_readsEngine_109 0 rfl ?_
            refine g_ldcS (pc := 110) (i := 10) (by decide) rfl dX9_readsEngine_110 ?_
            refine g_gS (fun hs => ?_)
            refine g_bRi (pc := 112) (c_V cl9 hs (p_X9_isWord hl x1 10 h15) y_X9_isWord tw675 dX9_readsEngine_112 rfl (st := []) rfl (Nat.le_of_ble_eq_true rfl) (Nat.le_of_ble_eq_true rfl) (Nat.le_of_ble_eq_true rfl)) (fun x21 h16 => ?_)
            refine g_join (fun k => ∀ (x22 : Int32) (h17 : aH), J_X9_readsEngine l E n0 m0 127 [(0, .ref (e_z E + x1)), (1, .ref (e_z E + x8)), (2, .int x20)] [.int x22] h17 (k x22 h17)) (fun x22 h17 => ?_) (fun k127 hk127 => ?_)
            · refine g_istore_n (pc := 127) (lv' := [(3, .int x22), (0, .ref (e_z E + x1)), (1, .ref (e_z E + x8)), (2, .int x20)]) dX9_readsEngine_127 (Nat.le_of_ble_eq_true rfl) rfl ?_
              refine g_iload_n (pc := 128) dX9_readsEngine_128 0 rfl ?_
              refine g_ifne (pc := 129) (tgt := 138) dX9_readsEngine_129 rfl ?_ ?_
              · refine g_lv [1] rfl ?_
                exact hk132 h17
              · refine g_aload_n (pc := 138) dX9_readsEngine_138 2 rfl ?_
                refine g_geti (pc := 139) cl1 (Nat.le_of_ble_eq_true rfl) fk174 (fun _ _ _ => rfl) dX9_readsEngine_139 (fun x23 => ?_)
                refine g_bipush (pc := 142) dX9_readsEngine_142 cb_6 ?_
                refine g_icmplt (pc := 144) (tgt := 153) dX9_readsEngine_144 rfl ?_ ?_
                · refine g_aload_n (pc := 153) dX9_readsEngine_153 2 rfl ?_
                  refine g_iload_n (pc := 154) dX9_readsEngine_154 0 rfl ?_
                  refine g_gS (fun hs => ?_)
                  refine g_bRv (pc := 155) (c_VN cl1 hs (p_X1_addPost hl x8 x22 h17) y_X1_addPost tw818 dX9_readsEngine_155 rfl (st := []) rfl (Nat.le_of_ble_eq_true rfl) (Nat.le_of_ble_eq_true rfl) (Nat.le_of_ble_eq_true rfl)) (fun _ h18 => ?_)
                  refine g_aload_n (pc := 158) dX9_readsEngine_158 1 rfl ?_
                  refine g_gS (fun hs => ?_)
                  refine g_bRv (pc := 159) (c_V cl9 hs (p_X9_take hl x1 h18) y_X9_take tw660 dX9_readsEngine_159 rfl (st := []) rfl (Nat.le_of_ble_eq_true rfl) (Nat.le_of_ble_eq_true rfl) (Nat.le_of_ble_eq_true rfl)) (fun _ h19 => ?_)
                  refine g_iincN (pc := 162) dX9_readsEngine_162 3 rfl ci_1 (Nat.le_of_ble_eq_true rfl) (fun x24 => ?_)
                  refine g_lvr (lv' := [(2, .int x24), (3, .int x22), (0, .ref (e_z E + x1)), (1, .ref (e_z E + x8))]) rfl ?_
                  refine g_goto (pc := 165) (tgt := 90) dX9_readsEngine_165 rfl ?_
                  refine g_lv [2, 3, 0] rfl ?_
                  exact hr90 x24 h19
                · refine g_lv [1] rfl ?_
                  exact hk147 h17
            refine g_ifeq (pc := 115) (tgt := 123) dX9_readsEngine_115 rfl ?_ ?_
            · refine g_aload_n (pc := 123) dX9_readsEngine_123 0 rfl ?_
              refine g_gS (fun hs => ?_)
              refine g_bRi (pc := 124) (c_V cl9 hs (p_X9_skillOfWord hl x1 h16) y_X9_skillOfWord tw785 dX9_readsEngine_124 rfl (st := []) rfl (Nat.le_of_ble_eq_true rfl) (Nat.le_of_ble_eq_true rfl) (Nat.le_of_ble_eq_true rfl)) (fun x25 h20 => ?_)
              exact hk127 x25 h20
            · refine g_bipush (pc := 118) dX9_readsEngine_118 cb_16 ?_
              refine g_goto (pc := 120) (tgt := 127) dX9_readsEngine_120 rfl ?_
              exact hk127 (16 : Int32) h16
          refine g_ifeq (pc := 98) (tgt := 109) dX9_readsEngine_98 rfl ?_ ?_
          · exact hk109 h14
          · refine g_aload_n (pc := 101) dX9_readsEngine_101 0 rfl ?_
            refine g_geti (pc := 102) cl9 (Nat.le_of_ble_eq_true rfl) fk46 (fun _ _ _ => rfl) dX9_readsEngine_102 (fun x26 => ?_)
            refine g_iconst (pc := 105) dX9_readsEngine_105 ci_1 ?_
            refine g_icmpne (pc := 106) (tgt := 168) dX9_readsEngine_106 rfl ?_ ?_
            · exact hk109 h14
            · refine g_lv [0] rfl ?_
              exact hk168 h14
        · refine g_lv [0] rfl ?_
          exact hk168 h14
  · refine g_aload_n (pc := 11) dX9_readsEngine_11 0 rfl ?_
    refine g_iconst (pc := 12) dX9_readsEngine_12 ci_5 ?_
    refine g_gS (fun hs => ?_)
    refine g_bRi (pc := 13) (c_V cl9 hs (p_X9_fails hl x1 (5 : Int32) h0) y_X9_fails tw727 dX9_readsEngine_13 rfl (st := []) rfl (Nat.le_of_ble_eq_true rfl) (Nat.le_of_ble_eq_true rfl) (Nat.le_of_ble_eq_true rfl)) (fun x27 h21 => ?_)
    refine g_zO (fun hz => ?_)
    exact g_ret (pc := 16) rfl (isRet_z hz) dX9_readsEngine_16 rfl
theorem p_X9_readsEngine {l : Launch} {E : aE} (hl : l.stackTraces = false) (x1 : Nat) (h0 : aH) : MO (fun (v : Int32) => .inl (some (.int v))) l E yX9_readsEngine (.code yX9_readsEngine cX9_readsEngine 4 (some .boolean)) 9 263 [.ref (e_z E + x1)] h0 (m_X9_readsEngine x1 h0) := g_met hl (by decide +kernel) (Nat.le_of_ble_eq_true rfl) (b_X9_readsEngine hl _ _ x1 h0)
theorem dX9_readDifferent_0 : decode cX9_readDifferent 0 = .ok (.iconst 0, 1) := by decide +kernel
theorem dX9_readDifferent_1 : decode cX9_readDifferent 1 = .ok (.istore_n 3, 1) := by decide +kernel
theorem dX9_readDifferent_2 : decode cX9_readDifferent 2 = .ok (.iconst 0, 1) := by decide +kernel
theorem dX9_readDifferent_3 : decode cX9_readDifferent 3 = .ok (.istore 4, 2) := by decide +kernel
theorem dX9_readDifferent_5 : decode cX9_readDifferent 5 = .ok (.iload 4, 2) := by decide +kernel
theorem dX9_readDifferent_7 : decode cX9_readDifferent 7 = .ok (.sipush 1200, 3) := by decide +kernel
theorem dX9_readDifferent_10 : decode cX9_readDifferent 10 = .ok (.if_icmp .ge 86, 3) := by decide +kernel
theorem dX9_readDifferent_13 : decode cX9_readDifferent 13 = .ok (.iload 4, 2) := by decide +kernel
theorem dX9_readDifferent_15 : decode cX9_readDifferent 15 = .ok (.ifCond .eq 11, 3) := by decide +kernel
theorem dX9_readDifferent_18 : decode cX9_readDifferent 18 = .ok (.aload_n 0, 1) := by decide +kernel
theorem dX9_readDifferent_19 : decode cX9_readDifferent 19 = .ok (.getfield 50, 3) := by decide +kernel
theorem dX9_readDifferent_22 : decode cX9_readDifferent 22 = .ok (.iconst 1, 1) := by decide +kernel
theorem dX9_readDifferent_23 : decode cX9_readDifferent 23 = .ok (.if_icmp .ne 73, 3) := by decide +kernel
theorem dX9_readDifferent_26 : decode cX9_readDifferent 26 = .ok (.aload_n 0, 1) := by decide +kernel
theorem dX9_readDifferent_27 : decode cX9_readDifferent 27 = .ok (.iload_n 1, 1) := by decide +kernel
theorem dX9_readDifferent_28 : decode cX9_readDifferent 28 = .ok (.invokevirtual 193, 3) := by decide +kernel
theorem dX9_readDifferent_31 : decode cX9_readDifferent 31 = .ok (.ifCond .ne 5, 3) := by decide +kernel
theorem dX9_readDifferent_34 : decode cX9_readDifferent 34 = .ok (.iconst (-1), 1) := by decide +kernel
theorem dX9_readDifferent_35 : decode cX9_readDifferent 35 = .ok (.ireturn, 1) := by decide +kernel
theorem dX9_readDifferent_36 : decode cX9_readDifferent 36 = .ok (.iconst 0, 1) := by decide +kernel
theorem dX9_readDifferent_37 : decode cX9_readDifferent 37 = .ok (.istore 5, 2) := by decide +kernel
theorem dX9_readDifferent_39 : decode cX9_readDifferent 39 = .ok (.iload 5, 2) := by decide +kernel
theorem dX9_readDifferent_41 : decode cX9_readDifferent 41 = .ok (.iload_n 3, 1) := by decide +kernel
theorem dX9_readDifferent_42 : decode cX9_readDifferent 42 = .ok (.if_icmp .ge 32, 3) := by decide +kernel
theorem dX9_readDifferent_45 : decode cX9_readDifferent 45 = .ok (.aload_n 2, 1) := by decide +kernel
theorem dX9_readDifferent_46 : decode cX9_readDifferent 46 = .ok (.iload 5, 2) := by decide +kernel
theorem dX9_readDifferent_48 : decode cX9_readDifferent 48 = .ok (.iaload, 1) := by decide +kernel
theorem dX9_readDifferent_49 : decode cX9_readDifferent 49 = .ok (.aload_n 0, 1) := by decide +kernel
theorem dX9_readDifferent_50 : decode cX9_readDifferent 50 = .ok (.getfield 109, 3) := by decide +kernel
theorem dX9_readDifferent_53 : decode cX9_readDifferent 53 = .ok (.if_icmp .ne 15, 3) := by decide +kernel
theorem dX9_readDifferent_56 : decode cX9_readDifferent 56 = .ok (.aload_n 0, 1) := by decide +kernel
theorem dX9_readDifferent_57 : decode cX9_readDifferent 57 = .ok (.iconst 3, 1) := by decide +kernel
theorem dX9_readDifferent_58 : decode cX9_readDifferent 58 = .ok (.aload_n 0, 1) := by decide +kernel
theorem dX9_readDifferent_59 : decode cX9_readDifferent 59 = .ok (.getfield 91, 3) := by decide +kernel
theorem dX9_readDifferent_62 : decode cX9_readDifferent 62 = .ok (.invokevirtual 105, 3) := by decide +kernel
theorem dX9_readDifferent_65 : decode cX9_readDifferent 65 = .ok (.pop, 1) := by decide +kernel
theorem dX9_readDifferent_66 : decode cX9_readDifferent 66 = .ok (.iconst (-1), 1) := by decide +kernel
theorem dX9_readDifferent_67 : decode cX9_readDifferent 67 = .ok (.ireturn, 1) := by decide +kernel
theorem dX9_readDifferent_68 : decode cX9_readDifferent 68 = .ok (.iinc 5 1, 3) := by decide +kernel
theorem dX9_readDifferent_71 : decode cX9_readDifferent 71 = .ok (.goto (-32), 3) := by decide +kernel
theorem dX9_readDifferent_74 : decode cX9_readDifferent 74 = .ok (.iload_n 3, 1) := by decide +kernel
theorem dX9_readDifferent_75 : decode cX9_readDifferent 75 = .ok (.aload_n 2, 1) := by decide +kernel
theorem dX9_readDifferent_76 : decode cX9_readDifferent 76 = .ok (.arraylength, 1) := by decide +kernel
theorem dX9_readDifferent_77 : decode cX9_readDifferent 77 = .ok (.if_icmp .ge 13, 3) := by decide +kernel
theorem dX9_readDifferent_80 : decode cX9_readDifferent 80 = .ok (.aload_n 2, 1) := by decide +kernel
theorem dX9_readDifferent_81 : decode cX9_readDifferent 81 = .ok (.iload_n 3, 1) := by decide +kernel
theorem dX9_readDifferent_82 : decode cX9_readDifferent 82 = .ok (.aload_n 0, 1) := by decide +kernel
theorem dX9_readDifferent_83 : decode cX9_readDifferent 83 = .ok (.getfield 109, 3) := by decide +kernel
theorem dX9_readDifferent_86 : decode cX9_readDifferent 86 = .ok (.iastore, 1) := by decide +kernel
theorem dX9_readDifferent_87 : decode cX9_readDifferent 87 = .ok (.iinc 3 1, 3) := by decide +kernel
theorem dX9_readDifferent_90 : decode cX9_readDifferent 90 = .ok (.iinc 4 1, 3) := by decide +kernel
theorem dX9_readDifferent_93 : decode cX9_readDifferent 93 = .ok (.goto (-88), 3) := by decide +kernel
theorem dX9_readDifferent_96 : decode cX9_readDifferent 96 = .ok (.iload_n 3, 1) := by decide +kernel
theorem dX9_readDifferent_97 : decode cX9_readDifferent 97 = .ok (.ireturn, 1) := by decide +kernel
abbrev M_X9_readDifferent : aM := (yX9_readDifferent.cls, cX9_readDifferent, 6, (some .int), [], yX9_readDifferent.name == "<init>")
abbrev J_X9_readDifferent (l : Launch) (E : aE) (n0 m0 : Nat) := GG (fun (v : Int32) => .inl (some (.int v))) l E M_X9_readDifferent 4 86 n0 m0
theorem b_X9_readDifferent {l : Launch} {E : aE} (hl : l.stackTraces = false) (n0 m0 : Nat) (x1 : Nat) (x2 : Int32) (x3 : Nat) (h0 : aH) : J_X9_readDifferent l E n0 m0 0 [(0, .ref (e_z E + x1)), (1, .int x2), (2, .ref (e_z E + x3))] [] h0 (m_X9_readDifferent x1 x2 x3 h0) := by
  unfold m_X9_readDifferent
  refine g_iconst (pc := 0) dX9_readDifferent_0 ci_0 ?_
  refine g_istore_n (pc := 1) (lv' := [(3, .int (0 : Int32)), (0, .ref (e_z E + x1)), (1, .int x2), (2, .ref (e_z E + x3))]) dX9_readDifferent_1 (Nat.le_of_ble_eq_true rfl) rfl ?_
  refine g_iconst (pc := 2) dX9_readDifferent_2 ci_0 ?_
  refine g_istore (pc := 3) (lv' := [(4, .int (0 : Int32)), (3, .int (0 : Int32)), (0, .ref (e_z E + x1)), (1, .int x2), (2, .ref (e_z E + x3))]) dX9_readDifferent_3 (Nat.le_of_ble_eq_true rfl) rfl ?_
  refine g_join (fun k => ∀ (x4 : Int32) (h1 : aH), J_X9_readDifferent l E n0 m0 96 [(3, .int x4)] [] h1 (k x4 h1)) (fun x4 h1 => ?_) (fun k96 hk96 => ?_)
  · refine g_iload_n (pc := 96) dX9_readDifferent_96 0 rfl ?_
    exact g_ret (pc := 97) rfl (isRet_i _) dX9_readDifferent_97 rfl
  refine g_join (fun k => ∀ (h2 : aH), J_X9_readDifferent l E n0 m0 56 [(0, .ref (e_z E + x1))] [] h2 (k h2)) (fun h2 => ?_) (fun k56 hk56 => ?_)
  · refine g_aload_n (pc := 56) dX9_readDifferent_56 0 rfl ?_
    refine g_iconst (pc := 57) dX9_readDifferent_57 ci_3 ?_
    refine g_aload_n (pc := 58) dX9_readDifferent_58 0 rfl ?_
    refine g_geti (pc := 59) cl9 (Nat.le_of_ble_eq_true rfl) fk49 (fun _ _ _ => rfl) dX9_readDifferent_59 (fun x5 => ?_)
    refine g_gS (fun hs => ?_)
    refine g_bRi (pc := 62) (c_V cl9 hs (p_X9_failsAt hl x1 (3 : Int32) x5 h2) y_X9_failsAt tw731 dX9_readDifferent_62 rfl (st := []) rfl (Nat.le_of_ble_eq_true rfl) (Nat.le_of_ble_eq_true rfl) (Nat.le_of_ble_eq_true rfl)) (fun x6 h3 => ?_)
    refine g_pop (pc := 65) rfl dX9_readDifferent_65 ?_
    refine g_iconst (pc := 66) dX9_readDifferent_66 ci_m1 ?_
    exact g_ret (pc := 67) rfl (isRet_i _) dX9_readDifferent_67 rfl
  refine g_join (fun k => ∀ (h4 : aH), J_X9_readDifferent l E n0 m0 34 [] [] h4 (k h4)) (fun h4 => ?_) (fun k34 hk34 => ?_)
  · refine g_iconst (pc := 34) dX9_readDifferent_34 ci_m1 ?_
    exact g_ret (pc := 35) rfl (isRet_i _) dX9_readDifferent_35 rfl
  refine g_lv [2, 3, 4, 1, 0] rfl ?_
  refine g_loop2 (F := (m_X9_readDifferent_L5 x1 x2 x3 k96 k56 k34)) (fun x7 x8 => [(0, .ref (e_z E + x1)), (1, .int x2), (2, .ref (e_z E + x3)), (3, .int x7), (4, .int x8)]) (fun r5 hr5 x7 x8 h5 => ?_) _ _ _ _
  unfold m_X9_readDifferent_L5
  refine g_iload (pc := 5) dX9_readDifferent_5 4 rfl ?_
  refine g_sipush (pc := 7) dX9_readDifferent_7 cs_1200 ?_
  refine g_icmpge (pc := 10) (tgt := 96) dX9_readDifferent_10 rfl ?_ ?_
  · refine g_iload (pc := 13) dX9_readDifferent_13 4 rfl ?_
    refine g_join (fun k => ∀ (h6 : aH), J_X9_readDifferent l E n0 m0 26 [(0, .ref (e_z E + x1)), (1, .int x2), (2, .ref (e_z E + x3)), (3, .int x7), (4, .int x8)] [] h6 (k h6)) (fun h6 => ?_) (fun k26 hk26 => ?_)
    · refine g_aload_n (pc := 26) dX9_readDifferent_26 0 rfl ?_
      refine g_iload_n (pc := 27) dX9_readDifferent_27 1 rfl ?_
      refine g_gS (fun hs => ?_)
      refine g_bRi (pc := 28) (c_V cl9 hs (p_X9_takesNameOf hl x1 x2 h6) y_X9_takesNameOf tw801 dX9_readDifferent_28 rfl (st := []) rfl (Nat.le_of_ble_eq_true rfl) (Nat.le_of_ble_eq_true rfl) (Nat.le_of_ble_eq_true rfl)) (fun x9 h7 => ?_)
      refine g_ifne (pc := 31) (tgt := 36) dX9_readDifferent_31 rfl ?_ ?_
      · refine g_lv [] rfl ?_
        exact hk34 h7
      · refine g_iconst (pc := 36) dX9_readDifferent_36 ci_0 ?_
        refine g_istore (pc := 37) (lv' := [(5, .int (0 : Int32)), (0, .ref (e_z E + x1)), (1, .int x2), (2, .ref (e_z E + x3)), (3, .int x7), (4, .int x8)]) dX9_readDifferent_37 (Nat.le_of_ble_eq_true rfl) rfl ?_
        refine g_join (fun k => ∀ (h8 : aH), J_X9_readDifferent l E n0 m0 74 [(0, .ref (e_z E + x1)), (1, .int x2), (2, .ref (e_z E + x3)), (3, .int x7), (4, .int x8)] [] h8 (k h8)) (fun h8 => ?_) (fun k74 hk74 => ?_)
        · refine g_iload_n (pc := 74) dX9_readDifferent_74 3 rfl ?_
          refine g_aload_n (pc := 75) dX9_readDifferent_75 2 rfl ?_
          refine g_alen (pc := 76) dX9_readDifferent_76 (fun x10 => ?_)
          refine g_join (fun k => ∀ (x11 : Int32) (h9 : aH), J_X9_readDifferent l E n0 m0 90 [(0, .ref (e_z E + x1)), (1, .int x2), (2, .ref (e_z E + x3)), (3, .int x11), (4, .int x8)] [] h9 (k x11 h9)) (fun x11 h9 => ?_) (fun k90 hk90 => ?_)
          · refine g_iincN (pc := 90) dX9_readDifferent_90 4 rfl ci_1 (Nat.le_of_ble_eq_true rfl) (fun x12 => ?_)
            refine g_lvr (lv' := [(4, .int x12), (0, .ref (e_z E + x1)), (1, .int x2), (2, .ref (e_z E + x3)), (3, .int x11)]) rfl ?_
            refine g_goto (pc := 93) (tgt := 5) dX9_readDifferent_93 rfl ?_
            refine g_lv [1, 2, 3, 4, 0] rfl ?_
            exact hr5 x11 x12 h9
          refine g_icmpge (pc := 77) (tgt := 90) dX9_readDifferent_77 rfl ?_ ?_
          · refine g_aload_n (pc := 80) dX9_readDifferent_80 2 rfl ?_
            refine g_iload_n (pc := 81) dX9_readDifferent_81 3 rfl ?_
            refine g_aload_n (pc := 82) dX9_readDifferent_82 0 rfl ?_
            refine g_geti (pc := 83) cl9 (Nat.le_of_ble_eq_true rfl) fk50 (fun _ _ _ => rfl) dX9_readDifferent_83 (fun x13 => ?_)
            refine g_iast (pc := 86) dX9_readDifferent_86 (fun h10 => ?_)
            refine g_iincN (pc := 87) dX9_readDifferent_87 3 rfl ci_1 (Nat.le_of_ble_eq_true rfl) (fun x14 => ?_)
            refine g_lvr (lv' := [(3, .int x14), (0, .ref (e_z E + x1)), (1, .int x2), (2, .ref (e_z E + x3)), (4, .int x8)]) rfl ?_
            refine g_lv [1, 2, 3, 0, 4] rfl ?_
            exact hk90 x14 h10
          · exact hk90 x7 h8
        refine g_lv [1, 2, 3, 4, 5, 0] rfl ?_
        refine g_loop1 (F := (m_X9_readDifferent_L39 x1 x3 k56 x7 k74)) (fun x15 => [(0, .ref (e_z E + x1)), (1, .int x2), (2, .ref (e_z E + x3)), (3, .int x7), (4, .int x8), (5, .int x15)]) (fun r39 hr39 x15 h11 => ?_) _ _ _
        unfold m_X9_readDifferent_L39
        refine g_iload (pc := 39) dX9_readDifferent_39 5 rfl ?_
        refine g_iload_n (pc := 41) dX9_readDifferent_41 3 rfl ?_
        refine g_icmpge (pc := 42) (tgt := 74) dX9_readDifferent_42 rfl ?_ ?_
        · refine g_aload_n (pc := 45) dX9_readDifferent_45 2 rfl ?_
          refine g_iload (pc := 46) dX9_readDifferent_46 5 rfl ?_
          refine g_iald (pc := 48) dX9_readDifferent_48 (fun x16 => ?_)
          refine g_aload_n (pc := 49) dX9_readDifferent_49 0 rfl ?_
          refine g_geti (pc := 50) cl9 (Nat.le_of_ble_eq_true rfl) fk50 (fun _ _ _ => rfl) dX9_readDifferent_50 (fun x17 => ?_)
          refine g_icmpne (pc := 53) (tgt := 68) dX9_readDifferent_53 rfl ?_ ?_
          · refine g_lv [0] rfl ?_
            exact hk56 h11
          · refine g_iincN (pc := 68) dX9_readDifferent_68 5 rfl ci_1 (Nat.le_of_ble_eq_true rfl) (fun x18 => ?_)
            refine g_lvr (lv' := [(5, .int x18), (0, .ref (e_z E + x1)), (1, .int x2), (2, .ref (e_z E + x3)), (3, .int x7), (4, .int x8)]) rfl ?_
            refine g_goto (pc := 71) (tgt := 39) dX9_readDifferent_71 rfl ?_
            refine g_lv [1, 2, 3, 4, 5, 0] rfl ?_
            exact hr39 x18 h11
        · refine g_lv [0, 1, 2, 3, 4] rfl ?_
          exact hk74 h11
    refine g_ifeq (pc := 15) (tgt := 26) dX9_readDifferent_15 rfl ?_ ?_
    · exact hk26 h5
    · refine g_aload_n (pc := 18) dX9_readDifferent_18 0 rfl ?_
      refine g_geti (pc := 19) cl9 (Nat.le_of_ble_eq_true rfl) fk46 (fun _ _ _ => rfl) dX9_readDifferent_19 (fun x19 => ?_)
      refine g_iconst (pc := 22) dX9_readDifferent_22 ci_1 ?_
      refine g_icmpne (pc := 23) (tgt := 96) dX9_readDifferent_23 rfl ?_ ?_
      · exact hk26 h5
      · refine g_lv [3] rfl ?_
        exact hk96 x7 h5
  · refine g_lv [3] rfl ?_
    exact hk96 x7 h5
theorem p_X9_readDifferent {l : Launch} {E : aE} (hl : l.stackTraces = false) (x1 : Nat) (x2 : Int32) (x3 : Nat) (h0 : aH) : MO (fun (v : Int32) => .inl (some (.int v))) l E yX9_readDifferent (.code yX9_readDifferent cX9_readDifferent 6 (some .int)) 4 86 [.ref (e_z E + x1), .int x2, .ref (e_z E + x3)] h0 (m_X9_readDifferent x1 x2 x3 h0) := g_met hl (by decide +kernel) (Nat.le_of_ble_eq_true rfl) (b_X9_readDifferent hl _ _ x1 x2 x3 h0)
theorem dX9_readsKind_0 : decode cX9_readsKind 0 = .ok (.aload_n 0, 1) := by decide +kernel
theorem dX9_readsKind_1 : decode cX9_readsKind 1 = .ok (.getfield 28, 3) := by decide +kernel
theorem dX9_readsKind_4 : decode cX9_readsKind 4 = .ok (.getfield 254, 3) := by decide +kernel
theorem dX9_readsKind_7 : decode cX9_readsKind 7 = .ok (.bipush 6, 2) := by decide +kernel
theorem dX9_readsKind_9 : decode cX9_readsKind 9 = .ok (.if_icmp .lt 9, 3) := by decide +kernel
theorem dX9_readsKind_12 : decode cX9_readsKind 12 = .ok (.aload_n 0, 1) := by decide +kernel
theorem dX9_readsKind_13 : decode cX9_readsKind 13 = .ok (.iconst 5, 1) := by decide +kernel
theorem dX9_readsKind_14 : decode cX9_readsKind 14 = .ok (.invokevirtual 57, 3) := by decide +kernel
theorem dX9_readsKind_17 : decode cX9_readsKind 17 = .ok (.ireturn, 1) := by decide +kernel
theorem dX9_readsKind_18 : decode cX9_readsKind 18 = .ok (.aload_n 0, 1) := by decide +kernel
theorem dX9_readsKind_19 : decode cX9_readsKind 19 = .ok (.invokevirtual 43, 3) := by decide +kernel
theorem dX9_readsKind_22 : decode cX9_readsKind 22 = .ok (.aload_n 0, 1) := by decide +kernel
theorem dX9_readsKind_23 : decode cX9_readsKind 23 = .ok (.getfield 28, 3) := by decide +kernel
theorem dX9_readsKind_26 : decode cX9_readsKind 26 = .ok (.getfield 257, 3) := by decide +kernel
theorem dX9_readsKind_29 : decode cX9_readsKind 29 = .ok (.aload_n 0, 1) := by decide +kernel
theorem dX9_readsKind_30 : decode cX9_readsKind 30 = .ok (.getfield 28, 3) := by decide +kernel
theorem dX9_readsKind_33 : decode cX9_readsKind 33 = .ok (.getfield 254, 3) := by decide +kernel
theorem dX9_readsKind_36 : decode cX9_readsKind 36 = .ok (.aaload, 1) := by decide +kernel
theorem dX9_readsKind_37 : decode cX9_readsKind 37 = .ok (.astore_n 1, 1) := by decide +kernel
theorem dX9_readsKind_38 : decode cX9_readsKind 38 = .ok (.aload_n 0, 1) := by decide +kernel
theorem dX9_readsKind_39 : decode cX9_readsKind 39 = .ok (.iconst 3, 1) := by decide +kernel
theorem dX9_readsKind_40 : decode cX9_readsKind 40 = .ok (.invokevirtual 162, 3) := by decide +kernel
theorem dX9_readsKind_43 : decode cX9_readsKind 43 = .ok (.ifCond .ne 5, 3) := by decide +kernel
theorem dX9_readsKind_46 : decode cX9_readsKind 46 = .ok (.iconst 0, 1) := by decide +kernel
theorem dX9_readsKind_47 : decode cX9_readsKind 47 = .ok (.ireturn, 1) := by decide +kernel
theorem dX9_readsKind_48 : decode cX9_readsKind 48 = .ok (.aload_n 1, 1) := by decide +kernel
theorem dX9_readsKind_49 : decode cX9_readsKind 49 = .ok (.aload_n 0, 1) := by decide +kernel
theorem dX9_readsKind_50 : decode cX9_readsKind 50 = .ok (.getfield 112, 3) := by decide +kernel
theorem dX9_readsKind_53 : decode cX9_readsKind 53 = .ok (.putfield 261, 3) := by decide +kernel
theorem dX9_readsKind_56 : decode cX9_readsKind 56 = .ok (.aload_n 0, 1) := by decide +kernel
theorem dX9_readsKind_57 : decode cX9_readsKind 57 = .ok (.iconst 1, 1) := by decide +kernel
theorem dX9_readsKind_58 : decode cX9_readsKind 58 = .ok (.sipush 999, 3) := by decide +kernel
theorem dX9_readsKind_61 : decode cX9_readsKind 61 = .ok (.invokevirtual 129, 3) := by decide +kernel
theorem dX9_readsKind_64 : decode cX9_readsKind 64 = .ok (.ifCond .ne 5, 3) := by decide +kernel
theorem dX9_readsKind_67 : decode cX9_readsKind 67 = .ok (.iconst 0, 1) := by decide +kernel
theorem dX9_readsKind_68 : decode cX9_readsKind 68 = .ok (.ireturn, 1) := by decide +kernel
theorem dX9_readsKind_69 : decode cX9_readsKind 69 = .ok (.aload_n 1, 1) := by decide +kernel
theorem dX9_readsKind_70 : decode cX9_readsKind 70 = .ok (.aload_n 0, 1) := by decide +kernel
theorem dX9_readsKind_71 : decode cX9_readsKind 71 = .ok (.getfield 109, 3) := by decide +kernel
theorem dX9_readsKind_74 : decode cX9_readsKind 74 = .ok (.putfield 264, 3) := by decide +kernel
theorem dX9_readsKind_77 : decode cX9_readsKind 77 = .ok (.aload_n 0, 1) := by decide +kernel
theorem dX9_readsKind_78 : decode cX9_readsKind 78 = .ok (.iconst 0, 1) := by decide +kernel
theorem dX9_readsKind_79 : decode cX9_readsKind 79 = .ok (.sipush 240, 3) := by decide +kernel
theorem dX9_readsKind_82 : decode cX9_readsKind 82 = .ok (.invokevirtual 129, 3) := by decide +kernel
theorem dX9_readsKind_85 : decode cX9_readsKind 85 = .ok (.ifCond .ne 5, 3) := by decide +kernel
theorem dX9_readsKind_88 : decode cX9_readsKind 88 = .ok (.iconst 0, 1) := by decide +kernel
theorem dX9_readsKind_89 : decode cX9_readsKind 89 = .ok (.ireturn, 1) := by decide +kernel
theorem dX9_readsKind_90 : decode cX9_readsKind 90 = .ok (.aload_n 1, 1) := by decide +kernel
theorem dX9_readsKind_91 : decode cX9_readsKind 91 = .ok (.aload_n 0, 1) := by decide +kernel
theorem dX9_readsKind_92 : decode cX9_readsKind 92 = .ok (.getfield 109, 3) := by decide +kernel
theorem dX9_readsKind_95 : decode cX9_readsKind 95 = .ok (.putfield 267, 3) := by decide +kernel
theorem dX9_readsKind_98 : decode cX9_readsKind 98 = .ok (.aload_n 0, 1) := by decide +kernel
theorem dX9_readsKind_99 : decode cX9_readsKind 99 = .ok (.iconst 1, 1) := by decide +kernel
theorem dX9_readsKind_100 : decode cX9_readsKind 100 = .ok (.iconst 5, 1) := by decide +kernel
theorem dX9_readsKind_101 : decode cX9_readsKind 101 = .ok (.invokevirtual 129, 3) := by decide +kernel
theorem dX9_readsKind_104 : decode cX9_readsKind 104 = .ok (.ifCond .ne 5, 3) := by decide +kernel
theorem dX9_readsKind_107 : decode cX9_readsKind 107 = .ok (.iconst 0, 1) := by decide +kernel
theorem dX9_readsKind_108 : decode cX9_readsKind 108 = .ok (.ireturn, 1) := by decide +kernel
theorem dX9_readsKind_109 : decode cX9_readsKind 109 = .ok (.aload_n 1, 1) := by decide +kernel
theorem dX9_readsKind_110 : decode cX9_readsKind 110 = .ok (.aload_n 0, 1) := by decide +kernel
theorem dX9_readsKind_111 : decode cX9_readsKind 111 = .ok (.getfield 109, 3) := by decide +kernel
theorem dX9_readsKind_114 : decode cX9_readsKind 114 = .ok (.putfield 270, 3) := by decide +kernel
theorem dX9_readsKind_117 : decode cX9_readsKind 117 = .ok (.aload_n 0, 1) := by decide +kernel
theorem dX9_readsKind_118 : decode cX9_readsKind 118 = .ok (.iconst 4, 1) := by decide +kernel
theorem dX9_readsKind_119 : decode cX9_readsKind 119 = .ok (.invokevirtual 76, 3) := by decide +kernel
theorem dX9_readsKind_122 : decode cX9_readsKind 122 = .ok (.ifCond .ne 5, 3) := by decide +kernel
theorem dX9_readsKind_125 : decode cX9_readsKind 125 = .ok (.iconst 0, 1) := by decide +kernel
theorem dX9_readsKind_126 : decode cX9_readsKind 126 = .ok (.ireturn, 1) := by decide +kernel
theorem dX9_readsKind_127 : decode cX9_readsKind 127 = .ok (.aload_n 1, 1) := by decide +kernel
theorem dX9_readsKind_128 : decode cX9_readsKind 128 = .ok (.aload_n 0, 1) := by decide +kernel
theorem dX9_readsKind_129 : decode cX9_readsKind 129 = .ok (.iconst 1, 1) := by decide +kernel
theorem dX9_readsKind_130 : decode cX9_readsKind 130 = .ok (.aload_n 1, 1) := by decide +kernel
theorem dX9_readsKind_131 : decode cX9_readsKind 131 = .ok (.getfield 273, 3) := by decide +kernel
theorem dX9_readsKind_134 : decode cX9_readsKind 134 = .ok (.invokevirtual 276, 3) := by decide +kernel
theorem dX9_readsKind_137 : decode cX9_readsKind 137 = .ok (.putfield 280, 3) := by decide +kernel
theorem dX9_readsKind_140 : decode cX9_readsKind 140 = .ok (.aload_n 1, 1) := by decide +kernel
theorem dX9_readsKind_141 : decode cX9_readsKind 141 = .ok (.getfield 280, 3) := by decide +kernel
theorem dX9_readsKind_144 : decode cX9_readsKind 144 = .ok (.iconst (-1), 1) := by decide +kernel
theorem dX9_readsKind_145 : decode cX9_readsKind 145 = .ok (.if_icmp .eq 11, 3) := by decide +kernel
theorem dX9_readsKind_148 : decode cX9_readsKind 148 = .ok (.aload_n 0, 1) := by decide +kernel
theorem dX9_readsKind_149 : decode cX9_readsKind 149 = .ok (.iconst 4, 1) := by decide +kernel
theorem dX9_readsKind_150 : decode cX9_readsKind 150 = .ok (.invokevirtual 76, 3) := by decide +kernel
theorem dX9_readsKind_153 : decode cX9_readsKind 153 = .ok (.ifCond .ne 5, 3) := by decide +kernel
theorem dX9_readsKind_156 : decode cX9_readsKind 156 = .ok (.iconst 0, 1) := by decide +kernel
theorem dX9_readsKind_157 : decode cX9_readsKind 157 = .ok (.ireturn, 1) := by decide +kernel
theorem dX9_readsKind_158 : decode cX9_readsKind 158 = .ok (.aload_n 1, 1) := by decide +kernel
theorem dX9_readsKind_159 : decode cX9_readsKind 159 = .ok (.aload_n 0, 1) := by decide +kernel
theorem dX9_readsKind_160 : decode cX9_readsKind 160 = .ok (.iconst 2, 1) := by decide +kernel
theorem dX9_readsKind_161 : decode cX9_readsKind 161 = .ok (.aload_n 1, 1) := by decide +kernel
theorem dX9_readsKind_162 : decode cX9_readsKind 162 = .ok (.getfield 282, 3) := by decide +kernel
theorem dX9_readsKind_165 : decode cX9_readsKind 165 = .ok (.invokevirtual 276, 3) := by decide +kernel
theorem dX9_readsKind_168 : decode cX9_readsKind 168 = .ok (.putfield 285, 3) := by decide +kernel
theorem dX9_readsKind_171 : decode cX9_readsKind 171 = .ok (.aload_n 1, 1) := by decide +kernel
theorem dX9_readsKind_172 : decode cX9_readsKind 172 = .ok (.getfield 285, 3) := by decide +kernel
theorem dX9_readsKind_175 : decode cX9_readsKind 175 = .ok (.iconst (-1), 1) := by decide +kernel
theorem dX9_readsKind_176 : decode cX9_readsKind 176 = .ok (.if_icmp .ne 5, 3) := by decide +kernel
theorem dX9_readsKind_179 : decode cX9_readsKind 179 = .ok (.iconst 0, 1) := by decide +kernel
theorem dX9_readsKind_180 : decode cX9_readsKind 180 = .ok (.ireturn, 1) := by decide +kernel
theorem dX9_readsKind_181 : decode cX9_readsKind 181 = .ok (.aload_n 0, 1) := by decide +kernel
theorem dX9_readsKind_182 : decode cX9_readsKind 182 = .ok (.getfield 28, 3) := by decide +kernel
theorem dX9_readsKind_185 : decode cX9_readsKind 185 = .ok (.dup, 1) := by decide +kernel
theorem dX9_readsKind_186 : decode cX9_readsKind 186 = .ok (.getfield 254, 3) := by decide +kernel
theorem dX9_readsKind_189 : decode cX9_readsKind 189 = .ok (.iconst 1, 1) := by decide +kernel
theorem dX9_readsKind_190 : decode cX9_readsKind 190 = .ok (.iadd, 1) := by decide +kernel
theorem dX9_readsKind_191 : decode cX9_readsKind 191 = .ok (.putfield 254, 3) := by decide +kernel
theorem dX9_readsKind_194 : decode cX9_readsKind 194 = .ok (.iconst 1, 1) := by decide +kernel
theorem dX9_readsKind_195 : decode cX9_readsKind 195 = .ok (.ireturn, 1) := by decide +kernel
abbrev M_X9_readsKind : aM := (yX9_readsKind.cls, cX9_readsKind, 2, (some .boolean), [], yX9_readsKind.name == "<init>")
abbrev J_X9_readsKind (l : Launch) (E : aE) (n0 m0 : Nat) := GG (fun (v : Int32) => .inl (some (.int v))) l E M_X9_readsKind 5 111 n0 m0
theorem b_X9_readsKind {l : Launch} {E : aE} (hl : l.stackTraces = false) (n0 m0 : Nat) (x1 : Nat) (h0 : aH) : J_X9_readsKind l E n0 m0 0 [(0, .ref (e_z E + x1))] [] h0 (m_X9_readsKind x1 h0) := by
  unfold m_X9_readsKind
  refine g_aload_n (pc := 0) dX9_readsKind_0 0 rfl ?_
  refine g_getr (pc := 1) cl9 (Nat.le_of_ble_eq_true rfl) fk45 (fun _ _ _ => rfl) dX9_readsKind_1 (fun x2 => ?_)
  refine g_geti (pc := 4) cl8 (Nat.le_of_ble_eq_true rfl) fk269 (fun _ _ _ => rfl) dX9_readsKind_4 (fun x3 => ?_)
  refine g_bipush (pc := 7) dX9_readsKind_7 cb_6 ?_
  refine g_icmplt (pc := 9) (tgt := 18) dX9_readsKind_9 rfl ?_ ?_
  · refine g_aload_n (pc := 18) dX9_readsKind_18 0 rfl ?_
    refine g_gS (fun hs => ?_)
    refine g_bRv (pc := 19) (c_V cl9 hs (p_X9_take hl x1 h0) y_X9_take tw660 dX9_readsKind_19 rfl (st := []) rfl (Nat.le_of_ble_eq_true rfl) (Nat.le_of_ble_eq_true rfl) (Nat.le_of_ble_eq_true rfl)) (fun _ h1 => ?_)
    refine g_aload_n (pc := 22) dX9_readsKind_22 0 rfl ?_
    refine g_getr (pc := 23) cl9 (Nat.le_of_ble_eq_true rfl) fk45 (fun _ _ _ => rfl) dX9_readsKind_23 (fun x4 => ?_)
    refine g_getr (pc := 26) cl8 (Nat.le_of_ble_eq_true rfl) fk272 (fun _ _ _ => rfl) dX9_readsKind_26 (fun x5 => ?_)
    refine g_aload_n (pc := 29) dX9_readsKind_29 0 rfl ?_
    refine g_getr (pc := 30) cl9 (Nat.le_of_ble_eq_true rfl) fk45 (fun _ _ _ => rfl) dX9_readsKind_30 (fun x6 => ?_)
    refine g_geti (pc := 33) cl8 (Nat.le_of_ble_eq_true rfl) fk269 (fun _ _ _ => rfl) dX9_readsKind_33 (fun x7 => ?_)
    refine g_aald (pc := 36) (t := 8) (Nat.le_of_ble_eq_true rfl) (Nat.le_of_ble_eq_true rfl) dX9_readsKind_36 (fun x8 => ?_)
    refine g_astore_n (pc := 37) (lv' := [(1, .ref (e_z E + x8)), (0, .ref (e_z E + x1))]) dX9_readsKind_37 (Nat.le_of_ble_eq_true rfl) rfl ?_
    refine g_aload_n (pc := 38) dX9_readsKind_38 1 rfl ?_
    refine g_iconst (pc := 39) dX9_readsKind_39 ci_3 ?_
    refine g_gS (fun hs => ?_)
    refine g_bRi (pc := 40) (c_V cl9 hs (p_X9_takesNewName hl x1 (3 : Int32) h1) y_X9_takesNewName tw760 dX9_readsKind_40 rfl (st := []) rfl (Nat.le_of_ble_eq_true rfl) (Nat.le_of_ble_eq_true rfl) (Nat.le_of_ble_eq_true rfl)) (fun x9 h2 => ?_)
    refine g_ifne (pc := 43) (tgt := 48) dX9_readsKind_43 rfl ?_ ?_
    · refine g_iconst (pc := 46) dX9_readsKind_46 ci_0 ?_
      exact g_ret (pc := 47) rfl (isRet_z (Or.inl rfl)) dX9_readsKind_47 rfl
    · refine g_aload_n (pc := 48) dX9_readsKind_48 0 rfl ?_
      refine g_aload_n (pc := 49) dX9_readsKind_49 1 rfl ?_
      refine g_getl (pc := 50) cl9 (Nat.le_of_ble_eq_true rfl) fk51 (fun _ _ _ => rfl) dX9_readsKind_50 (fun x10 => ?_)
      refine g_putl (pc := 53) cl3 (Nat.le_of_ble_eq_true rfl) (Or.inl ⟨rfl, fk198⟩) (fun _ _ _ => rfl) (fun _ => ⟨rfl, rfl⟩) dX9_readsKind_53 (fun h3 => ?_)
      refine g_aload_n (pc := 56) dX9_readsKind_56 1 rfl ?_
      refine g_iconst (pc := 57) dX9_readsKind_57 ci_1 ?_
      refine g_sipush (pc := 58) dX9_readsKind_58 cs_999 ?_
      refine g_gS (fun hs => ?_)
      refine g_bRi (pc := 61) (c_V cl9 hs (p_X9_takesNumber hl x1 (1 : Int32) (999 : Int32) h3) y_X9_takesNumber tw735 dX9_readsKind_61 rfl (st := []) rfl (Nat.le_of_ble_eq_true rfl) (Nat.le_of_ble_eq_true rfl) (Nat.le_of_ble_eq_true rfl)) (fun x11 h4 => ?_)
      refine g_ifne (pc := 64) (tgt := 69) dX9_readsKind_64 rfl ?_ ?_
      · refine g_iconst (pc := 67) dX9_readsKind_67 ci_0 ?_
        exact g_ret (pc := 68) rfl (isRet_z (Or.inl rfl)) dX9_readsKind_68 rfl
      · refine g_aload_n (pc := 69) dX9_readsKind_69 0 rfl ?_
        refine g_aload_n (pc := 70) dX9_readsKind_70 1 rfl ?_
        refine g_geti (pc := 71) cl9 (Nat.le_of_ble_eq_true rfl) fk50 (fun _ _ _ => rfl) dX9_readsKind_71 (fun x12 => ?_)
        refine g_puti (pc := 74) cl3 (Nat.le_of_ble_eq_true rfl) (Or.inl ⟨rfl, fk200⟩) (fun _ _ _ => rfl) (fun _ => ⟨rfl, rfl⟩) dX9_readsKind_74 (fun h5 => ?_)
        refine g_aload_n (pc := 77) dX9_readsKind_77 1 rfl ?_
        refine g_iconst (pc := 78) dX9_readsKind_78 ci_0 ?_
        refine g_sipush (pc := 79) dX9_readsKind_79 cs_240 ?_
        refine g_gS (fun hs => ?_)
        refine g_bRi (pc := 82) (c_V cl9 hs (p_X9_takesNumber hl x1 (0 : Int32) (240 : Int32) h5) y_X9_takesNumber tw735 dX9_readsKind_82 rfl (st := []) rfl (Nat.le_of_ble_eq_true rfl) (Nat.le_of_ble_eq_true rfl) (Nat.le_of_ble_eq_true rfl)) (fun x13 h6 => ?_)
        refine g_ifne (pc := 85) (tgt := 90) dX9_readsKind_85 rfl ?_ ?_
        · refine g_iconst (pc := 88) dX9_readsKind_88 ci_0 ?_
          exact g_ret (pc := 89) rfl (isRet_z (Or.inl rfl)) dX9_readsKind_89 rfl
        · refine g_aload_n (pc := 90) dX9_readsKind_90 0 rfl ?_
          refine g_aload_n (pc := 91) dX9_readsKind_91 1 rfl ?_
          refine g_geti (pc := 92) cl9 (Nat.le_of_ble_eq_true rfl) fk50 (fun _ _ _ => rfl) dX9_readsKind_92 (fun x14 => ?_)
          refine g_puti (pc := 95) cl3 (Nat.le_of_ble_eq_true rfl) (Or.inl ⟨rfl, fk202⟩) (fun _ _ _ => rfl) (fun _ => ⟨rfl, rfl⟩) dX9_readsKind_95 (fun h7 => ?_)
          refine g_aload_n (pc := 98) dX9_readsKind_98 1 rfl ?_
          refine g_iconst (pc := 99) dX9_readsKind_99 ci_1 ?_
          refine g_iconst (pc := 100) dX9_readsKind_100 ci_5 ?_
          refine g_gS (fun hs => ?_)
          refine g_bRi (pc := 101) (c_V cl9 hs (p_X9_takesNumber hl x1 (1 : Int32) (5 : Int32) h7) y_X9_takesNumber tw735 dX9_readsKind_101 rfl (st := []) rfl (Nat.le_of_ble_eq_true rfl) (Nat.le_of_ble_eq_true rfl) (Nat.le_of_ble_eq_true rfl)) (fun x15 h8 => ?_)
          refine g_ifne (pc := 104) (tgt := 109) dX9_readsKind_104 rfl ?_ ?_
          · refine g_iconst (pc := 107) dX9_readsKind_107 ci_0 ?_
            exact g_ret (pc := 108) rfl (isRet_z (Or.inl rfl)) dX9_readsKind_108 rfl
          · refine g_aload_n (pc := 109) dX9_readsKind_109 0 rfl ?_
            refine g_aload_n (pc := 110) dX9_readsKind_110 1 rfl ?_
            refine g_geti (pc := 111) cl9 (Nat.le_of_ble_eq_true rfl) fk50 (fun _ _ _ => rfl) dX9_readsKind_111 (fun x16 => ?_)
            refine g_puti (pc := 114) cl3 (Nat.le_of_ble_eq_true rfl) (Or.inl ⟨rfl, fk204⟩) (fun _ _ _ => rfl) (fun _ => ⟨rfl, rfl⟩) dX9_readsKind_114 (fun h9 => ?_)
            refine g_aload_n (pc := 117) dX9_readsKind_117 1 rfl ?_
            refine g_iconst (pc := 118) dX9_readsKind_118 ci_4 ?_
            refine g_gS (fun hs => ?_)
            refine g_bRi (pc := 119) (c_V cl9 hs (p_X9_takesSymbol hl x1 (4 : Int32) h9) y_X9_takesSymbol tw740 dX9_readsKind_119 rfl (st := []) rfl (Nat.le_of_ble_eq_true rfl) (Nat.le_of_ble_eq_true rfl) (Nat.le_of_ble_eq_true rfl)) (fun x17 h10 => ?_)
            refine g_ifne (pc := 122) (tgt := 127) dX9_readsKind_122 rfl ?_ ?_
            · refine g_iconst (pc := 125) dX9_readsKind_125 ci_0 ?_
              exact g_ret (pc := 126) rfl (isRet_z (Or.inl rfl)) dX9_readsKind_126 rfl
            · refine g_aload_n (pc := 127) dX9_readsKind_127 0 rfl ?_
              refine g_aload_n (pc := 128) dX9_readsKind_128 1 rfl ?_
              refine g_iconst (pc := 129) dX9_readsKind_129 ci_1 ?_
              refine g_aload_n (pc := 130) dX9_readsKind_130 0 rfl ?_
              refine g_getr (pc := 131) cl3 (Nat.le_of_ble_eq_true rfl) fk209 (fun _ _ _ => rfl) dX9_readsKind_131 (fun x18 => ?_)
              refine g_gS (fun hs => ?_)
              refine g_bRi (pc := 134) (c_V cl9 hs (p_X9_readDifferent hl x1 (1 : Int32) x18 h10) y_X9_readDifferent tw826 dX9_readsKind_134 rfl (st := [.ref (e_z E + x8)]) rfl (Nat.le_of_ble_eq_true rfl) (Nat.le_of_ble_eq_true rfl) (Nat.le_of_ble_eq_true rfl)) (fun x19 h11 => ?_)
              refine g_puti (pc := 137) cl3 (Nat.le_of_ble_eq_true rfl) (Or.inl ⟨rfl, fk206⟩) (fun _ _ _ => rfl) (fun _ => ⟨rfl, rfl⟩) dX9_readsKind_137 (fun h12 => ?_)
              refine g_aload_n (pc := 140) dX9_readsKind_140 0 rfl ?_
              refine g_geti (pc := 141) cl3 (Nat.le_of_ble_eq_true rfl) fk206 (fun _ _ _ => rfl) dX9_readsKind_141 (fun x20 => ?_)
              refine g_iconst (pc := 144) dX9_readsKind_144 ci_m1 ?_
              refine g_join (fun k => ∀ (h13 : aH), J_X9_readsKind l E n0 m0 156 [] [] h13 (k h13)) (fun h13 => ?_) (fun k156 hk156 => ?_)
              · refine g_iconst (pc := 156) dX9_readsKind_156 ci_0 ?_
                exact g_ret (pc := 157) rfl (isRet_z (Or.inl rfl)) dX9_readsKind_157 rfl
              refine g_icmpeq (pc := 145) (tgt := 156) dX9_readsKind_145 rfl ?_ ?_
              · refine g_lv [] rfl ?_
                exact hk156 h12
              · refine g_aload_n (pc := 148) dX9_readsKind_148 1 rfl ?_
                refine g_iconst (pc := 149) dX9_readsKind_149 ci_4 ?_
                refine g_gS (fun hs => ?_)
                refine g_bRi (pc := 150) (c_V cl9 hs (p_X9_takesSymbol hl x1 (4 : Int32) h12) y_X9_takesSymbol tw740 dX9_readsKind_150 rfl (st := []) rfl (Nat.le_of_ble_eq_true rfl) (Nat.le_of_ble_eq_true rfl) (Nat.le_of_ble_eq_true rfl)) (fun x21 h14 => ?_)
                refine g_ifne (pc := 153) (tgt := 158) dX9_readsKind_153 rfl ?_ ?_
                · refine g_lv [] rfl ?_
                  exact hk156 h14
                · refine g_aload_n (pc := 158) dX9_readsKind_158 0 rfl ?_
                  refine g_aload_n (pc := 159) dX9_readsKind_159 1 rfl ?_
                  refine g_iconst (pc := 160) dX9_readsKind_160 ci_2 ?_
                  refine g_aload_n (pc := 161) dX9_readsKind_161 0 rfl ?_
                  refine g_getr (pc := 162) cl3 (Nat.le_of_ble_eq_true rfl) fk215 (fun _ _ _ => rfl) dX9_readsKind_162 (fun x22 => ?_)
                  refine g_gS (fun hs => ?_)
                  refine g_bRi (pc := 165) (c_V cl9 hs (p_X9_readDifferent hl x1 (2 : Int32) x22 h14) y_X9_readDifferent tw826 dX9_readsKind_165 rfl (st := [.ref (e_z E + x8)]) rfl (Nat.le_of_ble_eq_true rfl) (Nat.le_of_ble_eq_true rfl) (Nat.le_of_ble_eq_true rfl)) (fun x23 h15 => ?_)
                  refine g_puti (pc := 168) cl3 (Nat.le_of_ble_eq_true rfl) (Or.inl ⟨rfl, fk211⟩) (fun _ _ _ => rfl) (fun _ => ⟨rfl, rfl⟩) dX9_readsKind_168 (fun h16 => ?_)
                  refine g_aload_n (pc := 171) dX9_readsKind_171 0 rfl ?_
                  refine g_geti (pc := 172) cl3 (Nat.le_of_ble_eq_true rfl) fk211 (fun _ _ _ => rfl) dX9_readsKind_172 (fun x24 => ?_)
                  refine g_iconst (pc := 175) dX9_readsKind_175 ci_m1 ?_
                  refine g_icmpne (pc := 176) (tgt := 181) dX9_readsKind_176 rfl ?_ ?_
                  · refine g_iconst (pc := 179) dX9_readsKind_179 ci_0 ?_
                    exact g_ret (pc := 180) rfl (isRet_z (Or.inl rfl)) dX9_readsKind_180 rfl
                  · refine g_aload_n (pc := 181) dX9_readsKind_181 1 rfl ?_
                    refine g_getr (pc := 182) cl9 (Nat.le_of_ble_eq_true rfl) fk45 (fun _ _ _ => rfl) dX9_readsKind_182 (fun x25 => ?_)
                    refine g_dup (pc := 185) rfl dX9_readsKind_185 ?_
                    refine g_geti (pc := 186) cl8 (Nat.le_of_ble_eq_true rfl) fk269 (fun _ _ _ => rfl) dX9_readsKind_186 (fun x26 => ?_)
                    refine g_iconst (pc := 189) dX9_readsKind_189 ci_1 ?_
                    refine g_iadd (pc := 190) dX9_readsKind_190 ?_
                    refine g_puti (pc := 191) cl8 (Nat.le_of_ble_eq_true rfl) (Or.inl ⟨rfl, fk269⟩) (fun _ _ _ => rfl) (fun _ => ⟨rfl, rfl⟩) dX9_readsKind_191 (fun h17 => ?_)
                    refine g_iconst (pc := 194) dX9_readsKind_194 ci_1 ?_
                    exact g_ret (pc := 195) rfl (isRet_z (Or.inr rfl)) dX9_readsKind_195 rfl
  · refine g_aload_n (pc := 12) dX9_readsKind_12 0 rfl ?_
    refine g_iconst (pc := 13) dX9_readsKind_13 ci_5 ?_
    refine g_gS (fun hs => ?_)
    refine g_bRi (pc := 14) (c_V cl9 hs (p_X9_fails hl x1 (5 : Int32) h0) y_X9_fails tw727 dX9_readsKind_14 rfl (st := []) rfl (Nat.le_of_ble_eq_true rfl) (Nat.le_of_ble_eq_true rfl) (Nat.le_of_ble_eq_true rfl)) (fun x27 h18 => ?_)
    refine g_zO (fun hz => ?_)
    exact g_ret (pc := 17) rfl (isRet_z hz) dX9_readsKind_17 rfl
theorem p_X9_readsKind {l : Launch} {E : aE} (hl : l.stackTraces = false) (x1 : Nat) (h0 : aH) : MO (fun (v : Int32) => .inl (some (.int v))) l E yX9_readsKind (.code yX9_readsKind cX9_readsKind 2 (some .boolean)) 5 111 [.ref (e_z E + x1)] h0 (m_X9_readsKind x1 h0) := g_met hl (by decide +kernel) (Nat.le_of_ble_eq_true rfl) (b_X9_readsKind hl _ _ x1 h0)
theorem dX9_reads_0 : decode cX9_reads 0 = .ok (.aload_n 0, 1) := by decide +kernel
theorem dX9_reads_1 : decode cX9_reads 1 = .ok (.iload_n 1, 1) := by decide +kernel
theorem dX9_reads_2 : decode cX9_reads 2 = .ok (.aload_n 0, 1) := by decide +kernel
theorem dX9_reads_3 : decode cX9_reads 3 = .ok (.getfield 15, 3) := by decide +kernel
theorem dX9_reads_6 : decode cX9_reads 6 = .ok (.arraylength, 1) := by decide +kernel
theorem dX9_reads_7 : decode cX9_reads 7 = .ok (.invokestatic 19, 3) := by decide +kernel
theorem dX9_reads_10 : decode cX9_reads 10 = .ok (.putfield 25, 3) := by decide +kernel
theorem dX9_reads_13 : decode cX9_reads 13 = .ok (.aload_n 0, 1) := by decide +kernel
theorem dX9_reads_14 : decode cX9_reads 14 = .ok (.aload_n 2, 1) := by decide +kernel
theorem dX9_reads_15 : decode cX9_reads 15 = .ok (.putfield 28, 3) := by decide +kernel
theorem dX9_reads_18 : decode cX9_reads 18 = .ok (.aload_n 0, 1) := by decide +kernel
theorem dX9_reads_19 : decode cX9_reads 19 = .ok (.iconst 0, 1) := by decide +kernel
theorem dX9_reads_20 : decode cX9_reads 20 = .ok (.putfield 32, 3) := by decide +kernel
theorem dX9_reads_23 : decode cX9_reads 23 = .ok (.aload_n 0, 1) := by decide +kernel
theorem dX9_reads_24 : decode cX9_reads 24 = .ok (.iconst 0, 1) := by decide +kernel
theorem dX9_reads_25 : decode cX9_reads 25 = .ok (.putfield 35, 3) := by decide +kernel
theorem dX9_reads_28 : decode cX9_reads 28 = .ok (.aload_n 0, 1) := by decide +kernel
theorem dX9_reads_29 : decode cX9_reads 29 = .ok (.iconst (-1), 1) := by decide +kernel
theorem dX9_reads_30 : decode cX9_reads 30 = .ok (.putfield 9, 3) := by decide +kernel
theorem dX9_reads_33 : decode cX9_reads 33 = .ok (.aload_n 2, 1) := by decide +kernel
theorem dX9_reads_34 : decode cX9_reads 34 = .ok (.invokevirtual 38, 3) := by decide +kernel
theorem dX9_reads_37 : decode cX9_reads 37 = .ok (.aload_n 0, 1) := by decide +kernel
theorem dX9_reads_38 : decode cX9_reads 38 = .ok (.invokevirtual 43, 3) := by decide +kernel
theorem dX9_reads_41 : decode cX9_reads 41 = .ok (.aload_n 0, 1) := by decide +kernel
theorem dX9_reads_42 : decode cX9_reads 42 = .ok (.invokevirtual 46, 3) := by decide +kernel
theorem dX9_reads_45 : decode cX9_reads 45 = .ok (.ifCond .ne 5, 3) := by decide +kernel
theorem dX9_reads_48 : decode cX9_reads 48 = .ok (.iconst 0, 1) := by decide +kernel
theorem dX9_reads_49 : decode cX9_reads 49 = .ok (.ireturn, 1) := by decide +kernel
theorem dX9_reads_50 : decode cX9_reads 50 = .ok (.iconst 0, 1) := by decide +kernel
theorem dX9_reads_51 : decode cX9_reads 51 = .ok (.istore_n 3, 1) := by decide +kernel
theorem dX9_reads_52 : decode cX9_reads 52 = .ok (.iconst 0, 1) := by decide +kernel
theorem dX9_reads_53 : decode cX9_reads 53 = .ok (.istore 4, 2) := by decide +kernel
theorem dX9_reads_55 : decode cX9_reads 55 = .ok (.iload 4, 2) := by decide +kernel
theorem dX9_reads_57 : decode cX9_reads 57 = .ok (.sipush 1200, 3) := by decide +kernel
theorem dX9_reads_60 : decode cX9_reads 60 = .ok (.if_icmp .ge 131, 3) := by decide +kernel
theorem dX9_reads_63 : decode cX9_reads 63 = .ok (.aload_n 0, 1) := by decide +kernel
theorem dX9_reads_64 : decode cX9_reads 64 = .ok (.getfield 50, 3) := by decide +kernel
theorem dX9_reads_67 : decode cX9_reads 67 = .ok (.iconst 5, 1) := by decide +kernel
theorem dX9_reads_68 : decode cX9_reads 68 = .ok (.if_icmp .eq 123, 3) := by decide +kernel
theorem dX9_reads_71 : decode cX9_reads 71 = .ok (.aload_n 0, 1) := by decide +kernel
theorem dX9_reads_72 : decode cX9_reads 72 = .ok (.invokevirtual 53, 3) := by decide +kernel
theorem dX9_reads_75 : decode cX9_reads 75 = .ok (.istore 5, 2) := by decide +kernel
theorem dX9_reads_77 : decode cX9_reads 77 = .ok (.iload 5, 2) := by decide +kernel
theorem dX9_reads_79 : decode cX9_reads 79 = .ok (.iload_n 3, 1) := by decide +kernel
theorem dX9_reads_80 : decode cX9_reads 80 = .ok (.if_icmp .ge 9, 3) := by decide +kernel
theorem dX9_reads_83 : decode cX9_reads 83 = .ok (.aload_n 0, 1) := by decide +kernel
theorem dX9_reads_84 : decode cX9_reads 84 = .ok (.iconst 1, 1) := by decide +kernel
theorem dX9_reads_85 : decode cX9_reads 85 = .ok (.invokevirtual 57, 3) := by decide +kernel
theorem dX9_reads_88 : decode cX9_reads 88 = .ok (.ireturn, 1) := by decide +kernel
theorem dX9_reads_89 : decode cX9_reads 89 = .ok (.iload 5, 2) := by decide +kernel
theorem dX9_reads_91 : decode cX9_reads 91 = .ok (.istore_n 3, 1) := by decide +kernel
theorem dX9_reads_92 : decode cX9_reads 92 = .ok (.iconst 0, 1) := by decide +kernel
theorem dX9_reads_93 : decode cX9_reads 93 = .ok (.istore 6, 2) := by decide +kernel
theorem dX9_reads_95 : decode cX9_reads 95 = .ok (.iload_n 3, 1) := by decide +kernel
theorem dX9_reads_96 : decode cX9_reads 96 = .ok (.tableswitch 68 0 3 #[32, 41, 50, 59], 32) := by decide +kernel
theorem dX9_reads_128 : decode cX9_reads 128 = .ok (.aload_n 0, 1) := by decide +kernel
theorem dX9_reads_129 : decode cX9_reads 129 = .ok (.invokevirtual 61, 3) := by decide +kernel
theorem dX9_reads_132 : decode cX9_reads 132 = .ok (.istore 6, 2) := by decide +kernel
theorem dX9_reads_134 : decode cX9_reads 134 = .ok (.goto 36, 3) := by decide +kernel
theorem dX9_reads_137 : decode cX9_reads 137 = .ok (.aload_n 0, 1) := by decide +kernel
theorem dX9_reads_138 : decode cX9_reads 138 = .ok (.invokevirtual 64, 3) := by decide +kernel
theorem dX9_reads_141 : decode cX9_reads 141 = .ok (.istore 6, 2) := by decide +kernel
theorem dX9_reads_143 : decode cX9_reads 143 = .ok (.goto 27, 3) := by decide +kernel
theorem dX9_reads_146 : decode cX9_reads 146 = .ok (.aload_n 0, 1) := by decide +kernel
theorem dX9_reads_147 : decode cX9_reads 147 = .ok (.invokevirtual 67, 3) := by decide +kernel
theorem dX9_reads_150 : decode cX9_reads 150 = .ok (.istore 6, 2) := by decide +kernel
theorem dX9_reads_152 : decode cX9_reads 152 = .ok (.goto 18, 3) := by decide +kernel
theorem dX9_reads_155 : decode cX9_reads 155 = .ok (.aload_n 0, 1) := by decide +kernel
theorem dX9_reads_156 : decode cX9_reads 156 = .ok (.invokevirtual 70, 3) := by decide +kernel
theorem dX9_reads_159 : decode cX9_reads 159 = .ok (.istore 6, 2) := by decide +kernel
theorem dX9_reads_161 : decode cX9_reads 161 = .ok (.goto 9, 3) := by decide +kernel
theorem dX9_reads_164 : decode cX9_reads 164 = .ok (.aload_n 0, 1) := by decide +kernel
theorem dX9_reads_165 : decode cX9_reads 165 = .ok (.invokevirtual 73, 3) := by decide +kernel
theorem dX9_reads_168 : decode cX9_reads 168 = .ok (.istore 6, 2) := by decide +kernel
theorem dX9_reads_170 : decode cX9_reads 170 = .ok (.iload 6, 2) := by decide +kernel
theorem dX9_reads_172 : decode cX9_reads 172 = .ok (.ifCond .eq 11, 3) := by decide +kernel
theorem dX9_reads_175 : decode cX9_reads 175 = .ok (.aload_n 0, 1) := by decide +kernel
theorem dX9_reads_176 : decode cX9_reads 176 = .ok (.iconst 3, 1) := by decide +kernel
theorem dX9_reads_177 : decode cX9_reads 177 = .ok (.invokevirtual 76, 3) := by decide +kernel
theorem dX9_reads_180 : decode cX9_reads 180 = .ok (.ifCond .ne 5, 3) := by decide +kernel
theorem dX9_reads_183 : decode cX9_reads 183 = .ok (.iconst 0, 1) := by decide +kernel
theorem dX9_reads_184 : decode cX9_reads 184 = .ok (.ireturn, 1) := by decide +kernel
theorem dX9_reads_185 : decode cX9_reads 185 = .ok (.iinc 4 1, 3) := by decide +kernel
theorem dX9_reads_188 : decode cX9_reads 188 = .ok (.goto (-133), 3) := by decide +kernel
theorem dX9_reads_191 : decode cX9_reads 191 = .ok (.iconst 1, 1) := by decide +kernel
theorem dX9_reads_192 : decode cX9_reads 192 = .ok (.ireturn, 1) := by decide +kernel
abbrev M_X9_reads : aM := (yX9_reads.cls, cX9_reads, 7, (some .boolean), [], yX9_reads.name == "<init>")
abbrev J_X9_reads (l : Launch) (E : aE) (n0 m0 : Nat) := GG (fun (v : Int32) => .inl (some (.int v))) l E M_X9_reads 10 286 n0 m0
theorem b_X9_reads {l : Launch} {E : aE} (hl : l.stackTraces = false) (n0 m0 : Nat) (x1 : Nat) (x2 : Int32) (x3 : Nat) (h0 : aH) : J_X9_reads l E n0 m0 0 [(0, .ref (e_z E + x1)), (1, .int x2), (2, .ref (e_z E + x3))] [] h0 (m_X9_reads x1 x2 x3 h0) := by
  unfold m_X9_reads
  refine g_aload_n (pc := 0) dX9_reads_0 0 rfl ?_
  refine g_iload_n (pc := 1) dX9_reads_1 1 rfl ?_
  refine g_aload_n (pc := 2) dX9_reads_2 0 rfl ?_
  refine g_getr (pc := 3) cl9 (Nat.le_of_ble_eq_true rfl) fk43 (fun _ _ _ => rfl) dX9_reads_3 (fun x4 => ?_)
  refine g_alen (pc := 6) dX9_reads_6 (fun x5 => ?_)
  refine g_mmin (pc := 7) tw650 tw651 tw19 tw652 (Nat.le_of_ble_eq_true rfl) (Nat.le_of_ble_eq_true rfl) dX9_reads_7 ?_
  refine g_puti (pc := 10) cl9 (Nat.le_of_ble_eq_true rfl) (Or.inl ⟨rfl, fk44⟩) (fun _ _ _ => rfl) (fun _ => ⟨rfl, rfl⟩) dX9_reads_10 (fun h1 => ?_)
  refine g_aload_n (pc := 13) dX9_reads_13 0 rfl ?_
  refine g_aload_n (pc := 14) dX9_reads_14 2 rfl ?_
  refine g_putr (pc := 15) cl9 (Nat.le_of_ble_eq_true rfl) (Or.inl ⟨rfl, fk45⟩) (fun _ _ _ => rfl) (fun _ => ⟨rfl, rfl⟩) dX9_reads_15 (fun h2 => ?_)
  refine g_aload_n (pc := 18) dX9_reads_18 0 rfl ?_
  refine g_iconst (pc := 19) dX9_reads_19 ci_0 ?_
  refine g_puti (pc := 20) cl9 (Nat.le_of_ble_eq_true rfl) (Or.inl ⟨rfl, fk48⟩) (fun _ _ _ => rfl) (fun _ => ⟨rfl, rfl⟩) dX9_reads_20 (fun h3 => ?_)
  refine g_aload_n (pc := 23) dX9_reads_23 0 rfl ?_
  refine g_iconst (pc := 24) dX9_reads_24 ci_0 ?_
  refine g_puti (pc := 25) cl9 (Nat.le_of_ble_eq_true rfl) (Or.inl ⟨rfl, fk52⟩) (fun _ _ _ => rfl) (fun _ => ⟨rfl, rfl⟩) dX9_reads_25 (fun h4 => ?_)
  refine g_aload_n (pc := 28) dX9_reads_28 0 rfl ?_
  refine g_iconst (pc := 29) dX9_reads_29 ci_m1 ?_
  refine g_puti (pc := 30) cl9 (Nat.le_of_ble_eq_true rfl) (Or.inl ⟨rfl, fk54⟩) (fun _ _ _ => rfl) (fun _ => ⟨rfl, rfl⟩) dX9_reads_30 (fun h5 => ?_)
  refine g_aload_n (pc := 33) dX9_reads_33 2 rfl ?_
  refine g_gS (fun hs => ?_)
  refine g_bRv (pc := 34) (c_VN cl8 hs (p_X8_clear hl x3 h5) y_X8_clear tw653 dX9_reads_34 rfl (st := []) rfl (Nat.le_of_ble_eq_true rfl) (Nat.le_of_ble_eq_true rfl) (Nat.le_of_ble_eq_true rfl)) (fun _ h6 => ?_)
  refine g_aload_n (pc := 37) dX9_reads_37 0 rfl ?_
  refine g_gS (fun hs => ?_)
  refine g_bRv (pc := 38) (c_V cl9 hs (p_X9_take hl x1 h6) y_X9_take tw660 dX9_reads_38 rfl (st := []) rfl (Nat.le_of_ble_eq_true rfl) (Nat.le_of_ble_eq_true rfl) (Nat.le_of_ble_eq_true rfl)) (fun _ h7 => ?_)
  refine g_aload_n (pc := 41) dX9_reads_41 0 rfl ?_
  refine g_gS (fun hs => ?_)
  refine g_bRi (pc := 42) (c_V cl9 hs (p_X9_readsNight hl x1 h7) y_X9_readsNight tw670 dX9_reads_42 rfl (st := []) rfl (Nat.le_of_ble_eq_true rfl) (Nat.le_of_ble_eq_true rfl) (Nat.le_of_ble_eq_true rfl)) (fun x6 h8 => ?_)
  refine g_ifne (pc := 45) (tgt := 50) dX9_reads_45 rfl ?_ ?_
  · refine g_iconst (pc := 48) dX9_reads_48 ci_0 ?_
    exact g_ret (pc := 49) rfl (isRet_z (Or.inl rfl)) dX9_reads_49 rfl
  · refine g_iconst (pc := 50) dX9_reads_50 ci_0 ?_
    refine g_istore_n (pc := 51) (lv' := [(3, .int (0 : Int32)), (0, .ref (e_z E + x1)), (1, .int x2), (2, .ref (e_z E + x3))]) dX9_reads_51 (Nat.le_of_ble_eq_true rfl) rfl ?_
    refine g_iconst (pc := 52) dX9_reads_52 ci_0 ?_
    refine g_istore (pc := 53) (lv' := [(4, .int (0 : Int32)), (3, .int (0 : Int32)), (0, .ref (e_z E + x1)), (1, .int x2), (2, .ref (e_z E + x3))]) dX9_reads_53 (Nat.le_of_ble_eq_true rfl) rfl ?_
    refine g_join (fun k => ∀ (h9 : aH), J_X9_reads l E n0 m0 191 [] [] h9 (k h9)) (fun h9 => ?_) (fun k191 hk191 => ?_)
    · refine g_iconst (pc := 191) dX9_reads_191 ci_1 ?_
      exact g_ret (pc := 192) rfl (isRet_z (Or.inr rfl)) dX9_reads_192 rfl
    refine g_join (fun k => ∀ (h10 : aH), J_X9_reads l E n0 m0 183 [] [] h10 (k h10)) (fun h10 => ?_) (fun k183 hk183 => ?_)
    · refine g_iconst (pc := 183) dX9_reads_183 ci_0 ?_
      exact g_ret (pc := 184) rfl (isRet_z (Or.inl rfl)) dX9_reads_184 rfl
    refine g_join (fun k => ∀ (h11 : aH), J_X9_reads l E n0 m0 83 [(0, .ref (e_z E + x1))] [] h11 (k h11)) (fun h11 => ?_) (fun k83 hk83 => ?_)
    · refine g_aload_n (pc := 83) dX9_reads_83 0 rfl ?_
      refine g_iconst (pc := 84) dX9_reads_84 ci_1 ?_
      refine g_gS (fun hs => ?_)
      refine g_bRi (pc := 85) (c_V cl9 hs (p_X9_fails hl x1 (1 : Int32) h11) y_X9_fails tw727 dX9_reads_85 rfl (st := []) rfl (Nat.le_of_ble_eq_true rfl) (Nat.le_of_ble_eq_true rfl) (Nat.le_of_ble_eq_true rfl)) (fun x7 h12 => ?_)
      refine g_zO (fun hz => ?_)
      exact g_ret (pc := 88) rfl (isRet_z hz) dX9_reads_88 rfl
    refine g_lv [2, 1, 0] rfl ?_
    refine g_loop2 (F := (m_X9_reads_L55 x1 k191 k183 k83)) (fun x9 x10 => [(0, .ref (e_z E + x1)), (3, .int x9), (4, .int x10)]) (fun r55 hr55 x9 x10 h13 => ?_) _ _ _ _
    unfold m_X9_reads_L55
    refine g_iload (pc := 55) dX9_reads_55 2 rfl ?_
    refine g_sipush (pc := 57) dX9_reads_57 cs_1200 ?_
    refine g_icmpge (pc := 60) (tgt := 191) dX9_reads_60 rfl ?_ ?_
    · refine g_aload_n (pc := 63) dX9_reads_63 0 rfl ?_
      refine g_geti (pc := 64) cl9 (Nat.le_of_ble_eq_true rfl) fk46 (fun _ _ _ => rfl) dX9_reads_64 (fun x11 => ?_)
      refine g_iconst (pc := 67) dX9_reads_67 ci_5 ?_
      refine g_icmpeq (pc := 68) (tgt := 191) dX9_reads_68 rfl ?_ ?_
      · refine g_lv [] rfl ?_
        exact hk191 h13
      · refine g_aload_n (pc := 71) dX9_reads_71 0 rfl ?_
        refine g_gS (fun hs => ?_)
        refine g_bRi (pc := 72) (c_V cl9 hs (p_X9_sectionOfWord hl x1 h13) y_X9_sectionOfWord tw744 dX9_reads_72 rfl (st := []) rfl (Nat.le_of_ble_eq_true rfl) (Nat.le_of_ble_eq_true rfl) (Nat.le_of_ble_eq_true rfl)) (fun x12 h14 => ?_)
        refine g_istore (pc := 75) (lv' := [(5, .int x12), (0, .ref (e_z E + x1)), (3, .int x9), (4, .int x10)]) dX9_reads_75 (Nat.le_of_ble_eq_true rfl) rfl ?_
        refine g_iload (pc := 77) dX9_reads_77 0 rfl ?_
        refine g_iload_n (pc := 79) dX9_reads_79 2 rfl ?_
        refine g_icmpge (pc := 80) (tgt := 89) dX9_reads_80 rfl ?_ ?_
        · refine g_lv [1] rfl ?_
          exact hk83 h14
        · refine g_iload (pc := 89) dX9_reads_89 0 rfl ?_
          refine g_istore_n (pc := 91) (lv' := [(3, .int x12), (5, .int x12), (0, .ref (e_z E + x1)), (4, .int x10)]) dX9_reads_91 (Nat.le_of_ble_eq_true rfl) rfl ?_
          refine g_iconst (pc := 92) dX9_reads_92 ci_0 ?_
          refine g_istore (pc := 93) (lv' := [(6, .int (0 : Int32)), (3, .int x12), (5, .int x12), (0, .ref (e_z E + x1)), (4, .int x10)]) dX9_reads_93 (Nat.le_of_ble_eq_true rfl) rfl ?_
          refine g_iload_n (pc := 95) dX9_reads_95 1 rfl ?_
          refine g_join (fun k => ∀ (x13 : Int32) (h15 : aH), J_X9_reads l E n0 m0 170 [(0, .ref (e_z E + x1)), (3, .int x12), (4, .int x10), (6, .int x13)] [] h15 (k x13 h15)) (fun x13 h15 => ?_) (fun k170 hk170 => ?_)
          · refine g_iload (pc := 170) dX9_reads_170 3 rfl ?_
            refine g_ifeq (pc := 172) (tgt := 183) dX9_reads_172 rfl ?_ ?_
            · refine g_lv [] rfl ?_
              exact hk183 h15
            · refine g_aload_n (pc := 175) dX9_reads_175 0 rfl ?_
              refine g_iconst (pc := 176) dX9_reads_176 ci_3 ?_
              refine g_gS (fun hs => ?_)
              refine g_bRi (pc := 177) (c_V cl9 hs (p_X9_takesSymbol hl x1 (3 : Int32) h15) y_X9_takesSymbol tw740 dX9_reads_177 rfl (st := []) rfl (Nat.le_of_ble_eq_true rfl) (Nat.le_of_ble_eq_true rfl) (Nat.le_of_ble_eq_true rfl)) (fun x14 h16 => ?_)
              refine g_ifne (pc := 180) (tgt := 185) dX9_reads_180 rfl ?_ ?_
              · refine g_lv [] rfl ?_
                exact hk183 h16
              · refine g_iincN (pc := 185) dX9_reads_185 2 rfl ci_1 (Nat.le_of_ble_eq_true rfl) (fun x15 => ?_)
                refine g_lvr (lv' := [(4, .int x15), (0, .ref (e_z E + x1)), (3, .int x12), (6, .int x13)]) rfl ?_
                refine g_goto (pc := 188) (tgt := 55) dX9_reads_188 rfl ?_
                refine g_lv [1, 2, 0] rfl ?_
                exact hr55 x12 x15 h16
          refine g_swI (fun e0 => ?_) (fun e0 => ?_)
          · refine g_swIn (pc := 96) (tgt := 128) (off := 32) dX9_reads_96 (by omega) (by omega) (by rw [e0]; rfl) rfl ?_
            refine g_aload_n (pc := 128) dX9_reads_128 3 rfl ?_
            refine g_gS (fun hs => ?_)
            refine g_bRi (pc := 129) (c_V cl9 hs (p_X9_readsPerson hl x1 h14) y_X9_readsPerson tw756 dX9_reads_129 rfl (st := []) rfl (Nat.le_of_ble_eq_true rfl) (Nat.le_of_ble_eq_true rfl) (Nat.le_of_ble_eq_true rfl)) (fun x16 h17 => ?_)
            refine g_istore (pc := 132) (lv' := [(6, .int x16), (3, .int x12), (5, .int x12), (0, .ref (e_z E + x1)), (4, .int x10)]) dX9_reads_132 (Nat.le_of_ble_eq_true rfl) rfl ?_
            refine g_goto (pc := 134) (tgt := 170) dX9_reads_134 rfl ?_
            refine g_lv [3, 1, 4, 0] rfl ?_
            exact hk170 x16 h17
          refine g_swI (fun e1 => ?_) (fun e1 => ?_)
          · refine g_swIn (pc := 96) (tgt := 137) (off := 41) dX9_reads_96 (by omega) (by omega) (by rw [e1]; rfl) rfl ?_
            refine g_aload_n (pc := 137) dX9_reads_137 3 rfl ?_
            refine g_gS (fun hs => ?_)
            refine g_bRi (pc := 138) (c_V cl9 hs (p_X9_readsTrust hl x1 h14) y_X9_readsTrust tw797 dX9_reads_138 rfl (st := []) rfl (Nat.le_of_ble_eq_true rfl) (Nat.le_of_ble_eq_true rfl) (Nat.le_of_ble_eq_true rfl)) (fun x17 h18 => ?_)
            refine g_istore (pc := 141) (lv' := [(6, .int x17), (3, .int x12), (5, .int x12), (0, .ref (e_z E + x1)), (4, .int x10)]) dX9_reads_141 (Nat.le_of_ble_eq_true rfl) rfl ?_
            refine g_goto (pc := 143) (tgt := 170) dX9_reads_143 rfl ?_
            refine g_lv [3, 1, 4, 0] rfl ?_
            exact hk170 x17 h18
          refine g_swI (fun e2 => ?_) (fun e2 => ?_)
          · refine g_swIn (pc := 96) (tgt := 146) (off := 50) dX9_reads_96 (by omega) (by omega) (by rw [e2]; rfl) rfl ?_
            refine g_aload_n (pc := 146) dX9_reads_146 3 rfl ?_
            refine g_gS (fun hs => ?_)
            refine g_bRi (pc := 147) (c_V cl9 hs (p_X9_readsPager hl x1 h14) y_X9_readsPager tw808 dX9_reads_147 rfl (st := []) rfl (Nat.le_of_ble_eq_true rfl) (Nat.le_of_ble_eq_true rfl) (Nat.le_of_ble_eq_true rfl)) (fun x18 h19 => ?_)
            refine g_istore (pc := 150) (lv' := [(6, .int x18), (3, .int x12), (5, .int x12), (0, .ref (e_z E + x1)), (4, .int x10)]) dX9_reads_150 (Nat.le_of_ble_eq_true rfl) rfl ?_
            refine g_goto (pc := 152) (tgt := 170) dX9_reads_152 rfl ?_
            refine g_lv [3, 1, 4, 0] rfl ?_
            exact hk170 x18 h19
          refine g_swI (fun e3 => ?_) (fun e3 => ?_)
          · refine g_swIn (pc := 96) (tgt := 155) (off := 59) dX9_reads_96 (by omega) (by omega) (by rw [e3]; rfl) rfl ?_
            refine g_aload_n (pc := 155) dX9_reads_155 3 rfl ?_
            refine g_gS (fun hs => ?_)
            refine g_bRi (pc := 156) (c_V cl9 hs (p_X9_readsEngine hl x1 h14) y_X9_readsEngine tw812 dX9_reads_156 rfl (st := []) rfl (Nat.le_of_ble_eq_true rfl) (Nat.le_of_ble_eq_true rfl) (Nat.le_of_ble_eq_true rfl)) (fun x19 h20 => ?_)
            refine g_istore (pc := 159) (lv' := [(6, .int x19), (3, .int x12), (5, .int x12), (0, .ref (e_z E + x1)), (4, .int x10)]) dX9_reads_159 (Nat.le_of_ble_eq_true rfl) rfl ?_
            refine g_goto (pc := 161) (tgt := 170) dX9_reads_161 rfl ?_
            refine g_lv [3, 1, 4, 0] rfl ?_
            exact hk170 x19 h20
          refine g_swOut (pc := 96) (tgt := 164) dX9_reads_96 (by omega) rfl ?_
          refine g_aload_n (pc := 164) dX9_reads_164 3 rfl ?_
          refine g_gS (fun hs => ?_)
          refine g_bRi (pc := 165) (c_V cl9 hs (p_X9_readsKind hl x1 h14) y_X9_readsKind tw822 dX9_reads_165 rfl (st := []) rfl (Nat.le_of_ble_eq_true rfl) (Nat.le_of_ble_eq_true rfl) (Nat.le_of_ble_eq_true rfl)) (fun x20 h21 => ?_)
          refine g_istore (pc := 168) (lv' := [(6, .int x20), (3, .int x12), (5, .int x12), (0, .ref (e_z E + x1)), (4, .int x10)]) dX9_reads_168 (Nat.le_of_ble_eq_true rfl) rfl ?_
          refine g_lv [3, 1, 4, 0] rfl ?_
          exact hk170 x20 h21
    · refine g_lv [] rfl ?_
      exact hk191 h13
theorem p_X9_reads {l : Launch} {E : aE} (hl : l.stackTraces = false) (x1 : Nat) (x2 : Int32) (x3 : Nat) (h0 : aH) : MO (fun (v : Int32) => .inl (some (.int v))) l E yX9_reads (.code yX9_reads cX9_reads 7 (some .boolean)) 10 286 [.ref (e_z E + x1), .int x2, .ref (e_z E + x3)] h0 (m_X9_reads x1 x2 x3 h0) := g_met hl (by decide +kernel) (Nat.le_of_ble_eq_true rfl) (b_X9_reads hl _ _ x1 x2 x3 h0)
theorem dX9_wholeAsName_0 : decode cX9_wholeAsName 0 = .ok (.iconst 0, 1) := by decide +kernel
theorem dX9_wholeAsName_1 : decode cX9_wholeAsName 1 = .ok (.istore_n 2, 1) := by decide +kernel
theorem dX9_wholeAsName_2 : decode cX9_wholeAsName 2 = .ok (.iload_n 2, 1) := by decide +kernel
theorem dX9_wholeAsName_3 : decode cX9_wholeAsName 3 = .ok (.iload_n 1, 1) := by decide +kernel
theorem dX9_wholeAsName_4 : decode cX9_wholeAsName 4 = .ok (.if_icmp .ge 34, 3) := by decide +kernel
theorem dX9_wholeAsName_7 : decode cX9_wholeAsName 7 = .ok (.iload_n 2, 1) := by decide +kernel
theorem dX9_wholeAsName_8 : decode cX9_wholeAsName 8 = .ok (.aload_n 0, 1) := by decide +kernel
theorem dX9_wholeAsName_9 : decode cX9_wholeAsName 9 = .ok (.getfield 15, 3) := by decide +kernel
theorem dX9_wholeAsName_12 : decode cX9_wholeAsName 12 = .ok (.arraylength, 1) := by decide +kernel
theorem dX9_wholeAsName_13 : decode cX9_wholeAsName 13 = .ok (.if_icmp .ge 15, 3) := by decide +kernel
theorem dX9_wholeAsName_16 : decode cX9_wholeAsName 16 = .ok (.aload_n 0, 1) := by decide +kernel
theorem dX9_wholeAsName_17 : decode cX9_wholeAsName 17 = .ok (.getfield 15, 3) := by decide +kernel
theorem dX9_wholeAsName_20 : decode cX9_wholeAsName 20 = .ok (.iload_n 2, 1) := by decide +kernel
theorem dX9_wholeAsName_21 : decode cX9_wholeAsName 21 = .ok (.baload, 1) := by decide +kernel
theorem dX9_wholeAsName_22 : decode cX9_wholeAsName 22 = .ok (.invokestatic 79, 3) := by decide +kernel
theorem dX9_wholeAsName_25 : decode cX9_wholeAsName 25 = .ok (.ifCond .ne 7, 3) := by decide +kernel
theorem dX9_wholeAsName_28 : decode cX9_wholeAsName 28 = .ok (.ldc2_w 82, 3) := by decide +kernel
theorem dX9_wholeAsName_31 : decode cX9_wholeAsName 31 = .ok (.lreturn, 1) := by decide +kernel
theorem dX9_wholeAsName_32 : decode cX9_wholeAsName 32 = .ok (.iinc 2 1, 3) := by decide +kernel
theorem dX9_wholeAsName_35 : decode cX9_wholeAsName 35 = .ok (.goto (-33), 3) := by decide +kernel
theorem dX9_wholeAsName_38 : decode cX9_wholeAsName 38 = .ok (.iload_n 1, 1) := by decide +kernel
theorem dX9_wholeAsName_39 : decode cX9_wholeAsName 39 = .ok (.ifCond .ne 9, 3) := by decide +kernel
theorem dX9_wholeAsName_42 : decode cX9_wholeAsName 42 = .ok (.ldc2_w 82, 3) := by decide +kernel
theorem dX9_wholeAsName_45 : decode cX9_wholeAsName 45 = .ok (.goto 9, 3) := by decide +kernel
theorem dX9_wholeAsName_48 : decode cX9_wholeAsName 48 = .ok (.aload_n 0, 1) := by decide +kernel
theorem dX9_wholeAsName_49 : decode cX9_wholeAsName 49 = .ok (.iconst 0, 1) := by decide +kernel
theorem dX9_wholeAsName_50 : decode cX9_wholeAsName 50 = .ok (.iload_n 1, 1) := by decide +kernel
theorem dX9_wholeAsName_51 : decode cX9_wholeAsName 51 = .ok (.invokevirtual 84, 3) := by decide +kernel
theorem dX9_wholeAsName_54 : decode cX9_wholeAsName 54 = .ok (.lreturn, 1) := by decide +kernel
abbrev M_X9_wholeAsName : aM := (yX9_wholeAsName.cls, cX9_wholeAsName, 3, (some .long), [], yX9_wholeAsName.name == "<init>")
abbrev J_X9_wholeAsName (l : Launch) (E : aE) (n0 m0 : Nat) := GG (fun (v : Int64) => .inl (some (.long v))) l E M_X9_wholeAsName 1 25 n0 m0
theorem b_X9_wholeAsName {l : Launch} {E : aE} (hl : l.stackTraces = false) (n0 m0 : Nat) (x1 : Nat) (x2 : Int32) (h0 : aH) : J_X9_wholeAsName l E n0 m0 0 [(0, .ref (e_z E + x1)), (1, .int x2)] [] h0 (m_X9_wholeAsName x1 x2 h0) := by
  unfold m_X9_wholeAsName
  refine g_iconst (pc := 0) dX9_wholeAsName_0 ci_0 ?_
  refine g_istore_n (pc := 1) (lv' := [(2, .int (0 : Int32)), (0, .ref (e_z E + x1)), (1, .int x2)]) dX9_wholeAsName_1 (Nat.le_of_ble_eq_true rfl) rfl ?_
  refine g_join (fun k => ∀ (h1 : aH), J_X9_wholeAsName l E n0 m0 38 [(0, .ref (e_z E + x1)), (1, .int x2)] [] h1 (k h1)) (fun h1 => ?_) (fun k38 hk38 => ?_)
  · refine g_iload_n (pc := 38) dX9_wholeAsName_38 1 rfl ?_
    refine g_join (fun k => ∀ (x3 : Int64) (h2 : aH), J_X9_wholeAsName l E n0 m0 54 [] [.long x3] h2 (k x3 h2)) (fun x3 h2 => ?_) (fun k54 hk54 => ?_)
    · exact g_ret (pc := 54) rfl (isRet_l _) dX9_wholeAsName_54 rfl
    refine g_ifne (pc := 39) (tgt := 48) dX9_wholeAsName_39 rfl ?_ ?_
    · refine g_ldc2 (pc := 42) tw772 dX9_wholeAsName_42 ?_
      refine g_goto (pc := 45) (tgt := 54) dX9_wholeAsName_45 rfl ?_
      refine g_lv [] rfl ?_
      exact hk54 (-1 : Int64) h1
    · refine g_aload_n (pc := 48) dX9_wholeAsName_48 0 rfl ?_
      refine g_iconst (pc := 49) dX9_wholeAsName_49 ci_0 ?_
      refine g_iload_n (pc := 50) dX9_wholeAsName_50 1 rfl ?_
      refine g_gS (fun hs => ?_)
      refine g_bRl (pc := 51) (c_V cl9 hs (p_X9_nameIn hl x1 (0 : Int32) x2 h1) y_X9_nameIn tw768 dX9_wholeAsName_51 rfl (st := []) rfl (Nat.le_of_ble_eq_true rfl) (Nat.le_of_ble_eq_true rfl) (Nat.le_of_ble_eq_true rfl)) (fun x4 h3 => ?_)
      refine g_lv [] rfl ?_
      exact hk54 x4 h3
  refine g_join (fun k => ∀ (h4 : aH), J_X9_wholeAsName l E n0 m0 28 [] [] h4 (k h4)) (fun h4 => ?_) (fun k28 hk28 => ?_)
  · refine g_ldc2 (pc := 28) tw772 dX9_wholeAsName_28 ?_
    exact g_ret (pc := 31) rfl (isRet_l _) dX9_wholeAsName_31 rfl
  refine g_lv [1, 2, 0] rfl ?_
  refine g_loop1 (F := (m_X9_wholeAsName_L2 x1 x2 k38 k28)) (fun x5 => [(0, .ref (e_z E + x1)), (1, .int x2), (2, .int x5)]) (fun r2 hr2 x5 h5 => ?_) _ _ _
  unfold m_X9_wholeAsName_L2
  refine g_iload_n (pc := 2) dX9_wholeAsName_2 2 rfl ?_
  refine g_iload_n (pc := 3) dX9_wholeAsName_3 1 rfl ?_
  refine g_icmpge (pc := 4) (tgt := 38) dX9_wholeAsName_4 rfl ?_ ?_
  · refine g_iload_n (pc := 7) dX9_wholeAsName_7 2 rfl ?_
    refine g_aload_n (pc := 8) dX9_wholeAsName_8 0 rfl ?_
    refine g_getr (pc := 9) cl9 (Nat.le_of_ble_eq_true rfl) fk43 (fun _ _ _ => rfl) dX9_wholeAsName_9 (fun x6 => ?_)
    refine g_alen (pc := 12) dX9_wholeAsName_12 (fun x7 => ?_)
    refine g_icmpge (pc := 13) (tgt := 28) dX9_wholeAsName_13 rfl ?_ ?_
    · refine g_aload_n (pc := 16) dX9_wholeAsName_16 0 rfl ?_
      refine g_getr (pc := 17) cl9 (Nat.le_of_ble_eq_true rfl) fk43 (fun _ _ _ => rfl) dX9_wholeAsName_17 (fun x8 => ?_)
      refine g_iload_n (pc := 20) dX9_wholeAsName_20 2 rfl ?_
      refine g_bald (pc := 21) dX9_wholeAsName_21 (fun x9 => ?_)
      refine g_bRi (pc := 22) (c_S (p_X9_isLetter hl x9 h5) y_X9_isLetter tw664 dX9_wholeAsName_22 rfl (st := []) rfl (Nat.le_of_ble_eq_true rfl) (Nat.le_of_ble_eq_true rfl) (Nat.le_of_ble_eq_true rfl)) (fun x10 h6 => ?_)
      refine g_ifne (pc := 25) (tgt := 32) dX9_wholeAsName_25 rfl ?_ ?_
      · refine g_lv [] rfl ?_
        exact hk28 h6
      · refine g_iincN (pc := 32) dX9_wholeAsName_32 2 rfl ci_1 (Nat.le_of_ble_eq_true rfl) (fun x11 => ?_)
        refine g_lvr (lv' := [(2, .int x11), (0, .ref (e_z E + x1)), (1, .int x2)]) rfl ?_
        refine g_goto (pc := 35) (tgt := 2) dX9_wholeAsName_35 rfl ?_
        refine g_lv [1, 2, 0] rfl ?_
        exact hr2 x11 h6
    · refine g_lv [] rfl ?_
      exact hk28 h5
  · refine g_lv [0, 1] rfl ?_
    exact hk38 h5
theorem p_X9_wholeAsName {l : Launch} {E : aE} (hl : l.stackTraces = false) (x1 : Nat) (x2 : Int32) (h0 : aH) : MO (fun (v : Int64) => .inl (some (.long v))) l E yX9_wholeAsName (.code yX9_wholeAsName cX9_wholeAsName 3 (some .long)) 1 25 [.ref (e_z E + x1), .int x2] h0 (m_X9_wholeAsName x1 x2 h0) := g_met hl (by decide +kernel) (Nat.le_of_ble_eq_true rfl) (b_X9_wholeAsName hl _ _ x1 x2 h0)
theorem dX10_begin_0 : decode cX10_begin 0 = .ok (.aload_n 0, 1) := by decide +kernel
theorem dX10_begin_1 : decode cX10_begin 1 = .ok (.aload_n 1, 1) := by decide +kernel
theorem dX10_begin_2 : decode cX10_begin 2 = .ok (.putfield 52, 3) := by decide +kernel
theorem dX10_begin_5 : decode cX10_begin 5 = .ok (.aload_n 0, 1) := by decide +kernel
theorem dX10_begin_6 : decode cX10_begin 6 = .ok (.iconst 0, 1) := by decide +kernel
theorem dX10_begin_7 : decode cX10_begin 7 = .ok (.putfield 56, 3) := by decide +kernel
theorem dX10_begin_10 : decode cX10_begin 10 = .ok (.aload_n 0, 1) := by decide +kernel
theorem dX10_begin_11 : decode cX10_begin 11 = .ok (.getfield 9, 3) := by decide +kernel
theorem dX10_begin_14 : decode cX10_begin 14 = .ok (.iconst 0, 1) := by decide +kernel
theorem dX10_begin_15 : decode cX10_begin 15 = .ok (.invokestatic 60, 3) := by decide +kernel
theorem dX10_begin_18 : decode cX10_begin 18 = .ok (.aload_n 0, 1) := by decide +kernel
theorem dX10_begin_19 : decode cX10_begin 19 = .ok (.getfield 15, 3) := by decide +kernel
theorem dX10_begin_22 : decode cX10_begin 22 = .ok (.iconst 0, 1) := by decide +kernel
theorem dX10_begin_23 : decode cX10_begin 23 = .ok (.invokestatic 60, 3) := by decide +kernel
theorem dX10_begin_26 : decode cX10_begin 26 = .ok (.aload_n 0, 1) := by decide +kernel
theorem dX10_begin_27 : decode cX10_begin 27 = .ok (.getfield 18, 3) := by decide +kernel
theorem dX10_begin_30 : decode cX10_begin 30 = .ok (.iconst 0, 1) := by decide +kernel
theorem dX10_begin_31 : decode cX10_begin 31 = .ok (.invokestatic 60, 3) := by decide +kernel
theorem dX10_begin_34 : decode cX10_begin 34 = .ok (.aload_n 0, 1) := by decide +kernel
theorem dX10_begin_35 : decode cX10_begin 35 = .ok (.iconst 0, 1) := by decide +kernel
theorem dX10_begin_36 : decode cX10_begin 36 = .ok (.putfield 66, 3) := by decide +kernel
theorem dX10_begin_39 : decode cX10_begin 39 = .ok (.iconst 0, 1) := by decide +kernel
theorem dX10_begin_40 : decode cX10_begin 40 = .ok (.istore_n 2, 1) := by decide +kernel
theorem dX10_begin_41 : decode cX10_begin 41 = .ok (.iload_n 2, 1) := by decide +kernel
theorem dX10_begin_42 : decode cX10_begin 42 = .ok (.aload_n 0, 1) := by decide +kernel
theorem dX10_begin_43 : decode cX10_begin 43 = .ok (.getfield 21, 3) := by decide +kernel
theorem dX10_begin_46 : decode cX10_begin 46 = .ok (.arraylength, 1) := by decide +kernel
theorem dX10_begin_47 : decode cX10_begin 47 = .ok (.if_icmp .ge 28, 3) := by decide +kernel
theorem dX10_begin_50 : decode cX10_begin 50 = .ok (.aload_n 0, 1) := by decide +kernel
theorem dX10_begin_51 : decode cX10_begin 51 = .ok (.getfield 21, 3) := by decide +kernel
theorem dX10_begin_54 : decode cX10_begin 54 = .ok (.iload_n 2, 1) := by decide +kernel
theorem dX10_begin_55 : decode cX10_begin 55 = .ok (.iconst 0, 1) := by decide +kernel
theorem dX10_begin_56 : decode cX10_begin 56 = .ok (.aload_n 0, 1) := by decide +kernel
theorem dX10_begin_57 : decode cX10_begin 57 = .ok (.getfield 52, 3) := by decide +kernel
theorem dX10_begin_60 : decode cX10_begin 60 = .ok (.getfield 69, 3) := by decide +kernel
theorem dX10_begin_63 : decode cX10_begin 63 = .ok (.iload_n 2, 1) := by decide +kernel
theorem dX10_begin_64 : decode cX10_begin 64 = .ok (.iaload, 1) := by decide +kernel
theorem dX10_begin_65 : decode cX10_begin 65 = .ok (.invokestatic 72, 3) := by decide +kernel
theorem dX10_begin_68 : decode cX10_begin 68 = .ok (.iastore, 1) := by decide +kernel
theorem dX10_begin_69 : decode cX10_begin 69 = .ok (.iinc 2 1, 3) := by decide +kernel
theorem dX10_begin_72 : decode cX10_begin 72 = .ok (.goto (-31), 3) := by decide +kernel
theorem dX10_begin_75 : decode cX10_begin 75 = .ok (.iconst 0, 1) := by decide +kernel
theorem dX10_begin_76 : decode cX10_begin 76 = .ok (.istore_n 2, 1) := by decide +kernel
theorem dX10_begin_77 : decode cX10_begin 77 = .ok (.iload_n 2, 1) := by decide +kernel
theorem dX10_begin_78 : decode cX10_begin 78 = .ok (.aload_n 0, 1) := by decide +kernel
theorem dX10_begin_79 : decode cX10_begin 79 = .ok (.getfield 52, 3) := by decide +kernel
theorem dX10_begin_82 : decode cX10_begin 82 = .ok (.getfield 78, 3) := by decide +kernel
theorem dX10_begin_85 : decode cX10_begin 85 = .ok (.if_icmp .ge 35, 3) := by decide +kernel
theorem dX10_begin_88 : decode cX10_begin 88 = .ok (.aload_n 0, 1) := by decide +kernel
theorem dX10_begin_89 : decode cX10_begin 89 = .ok (.getfield 52, 3) := by decide +kernel
theorem dX10_begin_92 : decode cX10_begin 92 = .ok (.getfield 81, 3) := by decide +kernel
theorem dX10_begin_95 : decode cX10_begin 95 = .ok (.iload_n 2, 1) := by decide +kernel
theorem dX10_begin_96 : decode cX10_begin 96 = .ok (.aaload, 1) := by decide +kernel
theorem dX10_begin_97 : decode cX10_begin 97 = .ok (.getfield 85, 3) := by decide +kernel
theorem dX10_begin_100 : decode cX10_begin 100 = .ok (.iconst 0, 1) := by decide +kernel
theorem dX10_begin_101 : decode cX10_begin 101 = .ok (.aload_n 0, 1) := by decide +kernel
theorem dX10_begin_102 : decode cX10_begin 102 = .ok (.getfield 24, 3) := by decide +kernel
theorem dX10_begin_105 : decode cX10_begin 105 = .ok (.iload_n 2, 1) := by decide +kernel
theorem dX10_begin_106 : decode cX10_begin 106 = .ok (.bipush 8, 2) := by decide +kernel
theorem dX10_begin_108 : decode cX10_begin 108 = .ok (.imul, 1) := by decide +kernel
theorem dX10_begin_109 : decode cX10_begin 109 = .ok (.bipush 8, 2) := by decide +kernel
theorem dX10_begin_111 : decode cX10_begin 111 = .ok (.invokestatic 88, 3) := by decide +kernel
theorem dX10_begin_114 : decode cX10_begin 114 = .ok (.iinc 2 1, 3) := by decide +kernel
theorem dX10_begin_117 : decode cX10_begin 117 = .ok (.goto (-40), 3) := by decide +kernel
theorem dX10_begin_120 : decode cX10_begin 120 = .ok (.aload_n 0, 1) := by decide +kernel
theorem dX10_begin_121 : decode cX10_begin 121 = .ok (.getfield 27, 3) := by decide +kernel
theorem dX10_begin_124 : decode cX10_begin 124 = .ok (.iconst 0, 1) := by decide +kernel
theorem dX10_begin_125 : decode cX10_begin 125 = .ok (.invokestatic 60, 3) := by decide +kernel
theorem dX10_begin_128 : decode cX10_begin 128 = .ok (.aload_n 0, 1) := by decide +kernel
theorem dX10_begin_129 : decode cX10_begin 129 = .ok (.getfield 36, 3) := by decide +kernel
theorem dX10_begin_132 : decode cX10_begin 132 = .ok (.iconst 0, 1) := by decide +kernel
theorem dX10_begin_133 : decode cX10_begin 133 = .ok (.invokestatic 60, 3) := by decide +kernel
theorem dX10_begin_136 : decode cX10_begin 136 = .ok (.aload_n 0, 1) := by decide +kernel
theorem dX10_begin_137 : decode cX10_begin 137 = .ok (.iconst 1, 1) := by decide +kernel
theorem dX10_begin_138 : decode cX10_begin 138 = .ok (.aload_n 0, 1) := by decide +kernel
theorem dX10_begin_139 : decode cX10_begin 139 = .ok (.getfield 52, 3) := by decide +kernel
theorem dX10_begin_142 : decode cX10_begin 142 = .ok (.getfield 94, 3) := by decide +kernel
theorem dX10_begin_145 : decode cX10_begin 145 = .ok (.ishl, 1) := by decide +kernel
theorem dX10_begin_146 : decode cX10_begin 146 = .ok (.iconst 1, 1) := by decide +kernel
theorem dX10_begin_147 : decode cX10_begin 147 = .ok (.isub, 1) := by decide +kernel
theorem dX10_begin_148 : decode cX10_begin 148 = .ok (.putfield 97, 3) := by decide +kernel
theorem dX10_begin_151 : decode cX10_begin 151 = .ok (.aload_n 0, 1) := by decide +kernel
theorem dX10_begin_152 : decode cX10_begin 152 = .ok (.getfield 45, 3) := by decide +kernel
theorem dX10_begin_155 : decode cX10_begin 155 = .ok (.iconst 0, 1) := by decide +kernel
theorem dX10_begin_156 : decode cX10_begin 156 = .ok (.putfield 100, 3) := by decide +kernel
theorem dX10_begin_159 : decode cX10_begin 159 = .ok (.return_, 1) := by decide +kernel
abbrev M_X10_begin : aM := (yX10_begin.cls, cX10_begin, 3, none, [], yX10_begin.name == "<init>")
abbrev J_X10_begin (l : Launch) (E : aE) (n0 m0 : Nat) := GG (fun (_ : Unit) => .inl none) l E M_X10_begin 1 30 n0 m0
theorem b_X10_begin {l : Launch} {E : aE} (hl : l.stackTraces = false) (n0 m0 : Nat) (x1 : Nat) (x2 : Nat) (h0 : aH) : J_X10_begin l E n0 m0 0 [(0, .ref (e_z E + x1)), (1, .ref (e_z E + x2))] [] h0 (m_X10_begin x1 x2 h0) := by
  unfold m_X10_begin
  refine g_aload_n (pc := 0) dX10_begin_0 0 rfl ?_
  refine g_aload_n (pc := 1) dX10_begin_1 1 rfl ?_
  refine g_putr (pc := 2) cl10 (Nat.le_of_ble_eq_true rfl) (Or.inl ⟨rfl, fk348⟩) (fun _ _ _ => rfl) (fun _ => ⟨rfl, rfl⟩) dX10_begin_2 (fun h1 => ?_)
  refine g_aload_n (pc := 5) dX10_begin_5 0 rfl ?_
  refine g_iconst (pc := 6) dX10_begin_6 ci_0 ?_
  refine g_puti (pc := 7) cl10 (Nat.le_of_ble_eq_true rfl) (Or.inl ⟨rfl, fk349⟩) (fun _ _ _ => rfl) (fun _ => ⟨rfl, rfl⟩) dX10_begin_7 (fun h2 => ?_)
  refine g_aload_n (pc := 10) dX10_begin_10 0 rfl ?_
  refine g_getr (pc := 11) cl10 (Nat.le_of_ble_eq_true rfl) fk352 (fun _ _ _ => rfl) dX10_begin_11 (fun x3 => ?_)
  refine g_iconst (pc := 14) dX10_begin_14 ci_0 ?_
  refine g_bRv (pc := 15) (c_S (p_J7_fill_53178 hl x3 (0 : Int32) h2) y_J7_fill_53178 tw850 dX10_begin_15 rfl (st := []) rfl (Nat.le_of_ble_eq_true rfl) (Nat.le_of_ble_eq_true rfl) (Nat.le_of_ble_eq_true rfl)) (fun _ h3 => ?_)
  refine g_aload_n (pc := 18) dX10_begin_18 0 rfl ?_
  refine g_getr (pc := 19) cl10 (Nat.le_of_ble_eq_true rfl) fk354 (fun _ _ _ => rfl) dX10_begin_19 (fun x4 => ?_)
  refine g_iconst (pc := 22) dX10_begin_22 ci_0 ?_
  refine g_bRv (pc := 23) (c_S (p_J7_fill_53178 hl x4 (0 : Int32) h3) y_J7_fill_53178 tw850 dX10_begin_23 rfl (st := []) rfl (Nat.le_of_ble_eq_true rfl) (Nat.le_of_ble_eq_true rfl) (Nat.le_of_ble_eq_true rfl)) (fun _ h4 => ?_)
  refine g_aload_n (pc := 26) dX10_begin_26 0 rfl ?_
  refine g_getr (pc := 27) cl10 (Nat.le_of_ble_eq_true rfl) fk356 (fun _ _ _ => rfl) dX10_begin_27 (fun x5 => ?_)
  refine g_iconst (pc := 30) dX10_begin_30 ci_0 ?_
  refine g_bRv (pc := 31) (c_S (p_J7_fill_53178 hl x5 (0 : Int32) h4) y_J7_fill_53178 tw850 dX10_begin_31 rfl (st := []) rfl (Nat.le_of_ble_eq_true rfl) (Nat.le_of_ble_eq_true rfl) (Nat.le_of_ble_eq_true rfl)) (fun _ h5 => ?_)
  refine g_aload_n (pc := 34) dX10_begin_34 0 rfl ?_
  refine g_iconst (pc := 35) dX10_begin_35 ci_0 ?_
  refine g_puti (pc := 36) cl10 (Nat.le_of_ble_eq_true rfl) (Or.inl ⟨rfl, fk358⟩) (fun _ _ _ => rfl) (fun _ => ⟨rfl, rfl⟩) dX10_begin_36 (fun h6 => ?_)
  refine g_iconst (pc := 39) dX10_begin_39 ci_0 ?_
  refine g_istore_n (pc := 40) (lv' := [(2, .int (0 : Int32)), (0, .ref (e_z E + x1)), (1, .ref (e_z E + x2))]) dX10_begin_40 (Nat.le_of_ble_eq_true rfl) rfl ?_
  refine g_join (fun k => ∀ (h7 : aH), J_X10_begin l E n0 m0 75 [(0, .ref (e_z E + x1))] [] h7 (k h7)) (fun h7 => ?_) (fun k75 hk75 => ?_)
  · refine g_iconst (pc := 75) dX10_begin_75 ci_0 ?_
    refine g_istore_n (pc := 76) (lv' := [(2, .int (0 : Int32)), (0, .ref (e_z E + x1))]) dX10_begin_76 (Nat.le_of_ble_eq_true rfl) rfl ?_
    refine g_join (fun k => ∀ (h8 : aH), J_X10_begin l E n0 m0 120 [(0, .ref (e_z E + x1))] [] h8 (k h8)) (fun h8 => ?_) (fun k120 hk120 => ?_)
    · refine g_aload_n (pc := 120) dX10_begin_120 0 rfl ?_
      refine g_getr (pc := 121) cl10 (Nat.le_of_ble_eq_true rfl) fk365 (fun _ _ _ => rfl) dX10_begin_121 (fun x6 => ?_)
      refine g_iconst (pc := 124) dX10_begin_124 ci_0 ?_
      refine g_bRv (pc := 125) (c_S (p_J7_fill_53178 hl x6 (0 : Int32) h8) y_J7_fill_53178 tw850 dX10_begin_125 rfl (st := []) rfl (Nat.le_of_ble_eq_true rfl) (Nat.le_of_ble_eq_true rfl) (Nat.le_of_ble_eq_true rfl)) (fun _ h9 => ?_)
      refine g_aload_n (pc := 128) dX10_begin_128 0 rfl ?_
      refine g_getr (pc := 129) cl10 (Nat.le_of_ble_eq_true rfl) fk370 (fun _ _ _ => rfl) dX10_begin_129 (fun x7 => ?_)
      refine g_iconst (pc := 132) dX10_begin_132 ci_0 ?_
      refine g_bRv (pc := 133) (c_S (p_J7_fill_53178 hl x7 (0 : Int32) h9) y_J7_fill_53178 tw850 dX10_begin_133 rfl (st := []) rfl (Nat.le_of_ble_eq_true rfl) (Nat.le_of_ble_eq_true rfl) (Nat.le_of_ble_eq_true rfl)) (fun _ h10 => ?_)
      refine g_aload_n (pc := 136) dX10_begin_136 0 rfl ?_
      refine g_iconst (pc := 137) dX10_begin_137 ci_1 ?_
      refine g_aload_n (pc := 138) dX10_begin_138 0 rfl ?_
      refine g_getr (pc := 139) cl10 (Nat.le_of_ble_eq_true rfl) fk348 (fun _ _ _ => rfl) dX10_begin_139 (fun x8 => ?_)
      refine g_geti (pc := 142) cl8 (Nat.le_of_ble_eq_true rfl) fk261 (fun _ _ _ => rfl) dX10_begin_142 (fun x9 => ?_)
      refine g_ishl (pc := 145) dX10_begin_145 ?_
      refine g_iconst (pc := 146) dX10_begin_146 ci_1 ?_
      refine g_isub (pc := 147) dX10_begin_147 ?_
      refine g_puti (pc := 148) cl10 (Nat.le_of_ble_eq_true rfl) (Or.inl ⟨rfl, fk375⟩) (fun _ _ _ => rfl) (fun _ => ⟨rfl, rfl⟩) dX10_begin_148 (fun h11 => ?_)
      refine g_aload_n (pc := 151) dX10_begin_151 0 rfl ?_
      refine g_getr (pc := 152) cl10 (Nat.le_of_ble_eq_true rfl) fk378 (fun _ _ _ => rfl) dX10_begin_152 (fun x10 => ?_)
      refine g_iconst (pc := 155) dX10_begin_155 ci_0 ?_
      refine g_puti (pc := 156) cl0 (Nat.le_of_ble_eq_true rfl) (Or.inl ⟨rfl, fk314⟩) (fun _ _ _ => rfl) (fun _ => ⟨rfl, rfl⟩) dX10_begin_156 (fun h12 => ?_)
      exact g_ret (pc := 159) rfl isRet_v dX10_begin_159 rfl
    refine g_lv [1, 0] rfl ?_
    refine g_loop1 (F := (m_X10_begin_L77 x1 k120)) (fun x11 => [(0, .ref (e_z E + x1)), (2, .int x11)]) (fun r77 hr77 x11 h13 => ?_) _ _ _
    unfold m_X10_begin_L77
    refine g_iload_n (pc := 77) dX10_begin_77 1 rfl ?_
    refine g_aload_n (pc := 78) dX10_begin_78 0 rfl ?_
    refine g_getr (pc := 79) cl10 (Nat.le_of_ble_eq_true rfl) fk348 (fun _ _ _ => rfl) dX10_begin_79 (fun x12 => ?_)
    refine g_geti (pc := 82) cl8 (Nat.le_of_ble_eq_true rfl) fk253 (fun _ _ _ => rfl) dX10_begin_82 (fun x13 => ?_)
    refine g_icmpge (pc := 85) (tgt := 120) dX10_begin_85 rfl ?_ ?_
    · refine g_aload_n (pc := 88) dX10_begin_88 0 rfl ?_
      refine g_getr (pc := 89) cl10 (Nat.le_of_ble_eq_true rfl) fk348 (fun _ _ _ => rfl) dX10_begin_89 (fun x14 => ?_)
      refine g_getr (pc := 92) cl8 (Nat.le_of_ble_eq_true rfl) fk257 (fun _ _ _ => rfl) dX10_begin_92 (fun x15 => ?_)
      refine g_iload_n (pc := 95) dX10_begin_95 1 rfl ?_
      refine g_aald (pc := 96) (t := 6) (Nat.le_of_ble_eq_true rfl) (Nat.le_of_ble_eq_true rfl) dX10_begin_96 (fun x16 => ?_)
      refine g_getr (pc := 97) cl6 (Nat.le_of_ble_eq_true rfl) fk150 (fun _ _ _ => rfl) dX10_begin_97 (fun x17 => ?_)
      refine g_iconst (pc := 100) dX10_begin_100 ci_0 ?_
      refine g_aload_n (pc := 101) dX10_begin_101 0 rfl ?_
      refine g_getr (pc := 102) cl10 (Nat.le_of_ble_eq_true rfl) fk363 (fun _ _ _ => rfl) dX10_begin_102 (fun x18 => ?_)
      refine g_iload_n (pc := 105) dX10_begin_105 1 rfl ?_
      refine g_bipush (pc := 106) dX10_begin_106 cb_8 ?_
      refine g_imul (pc := 108) dX10_begin_108 ?_
      refine g_bipush (pc := 109) dX10_begin_109 cb_8 ?_
      refine g_acp (pc := 111) tw854 tw856 tw855 tw26 (Nat.le_of_ble_eq_true rfl) (Nat.le_of_ble_eq_true rfl) dX10_begin_111 (fun h14 => ?_)
      refine g_iincN (pc := 114) dX10_begin_114 1 rfl ci_1 (Nat.le_of_ble_eq_true rfl) (fun x19 => ?_)
      refine g_lvr (lv' := [(2, .int x19), (0, .ref (e_z E + x1))]) rfl ?_
      refine g_goto (pc := 117) (tgt := 77) dX10_begin_117 rfl ?_
      refine g_lv [1, 0] rfl ?_
      exact hr77 x19 h14
    · refine g_lv [0] rfl ?_
      exact hk120 h13
  refine g_lv [1, 0] rfl ?_
  refine g_loop1 (F := (m_X10_begin_L41 x1 k75)) (fun x20 => [(0, .ref (e_z E + x1)), (2, .int x20)]) (fun r41 hr41 x20 h15 => ?_) _ _ _
  unfold m_X10_begin_L41
  refine g_iload_n (pc := 41) dX10_begin_41 1 rfl ?_
  refine g_aload_n (pc := 42) dX10_begin_42 0 rfl ?_
  refine g_getr (pc := 43) cl10 (Nat.le_of_ble_eq_true rfl) fk361 (fun _ _ _ => rfl) dX10_begin_43 (fun x21 => ?_)
  refine g_alen (pc := 46) dX10_begin_46 (fun x22 => ?_)
  refine g_icmpge (pc := 47) (tgt := 75) dX10_begin_47 rfl ?_ ?_
  · refine g_aload_n (pc := 50) dX10_begin_50 0 rfl ?_
    refine g_getr (pc := 51) cl10 (Nat.le_of_ble_eq_true rfl) fk361 (fun _ _ _ => rfl) dX10_begin_51 (fun x23 => ?_)
    refine g_iload_n (pc := 54) dX10_begin_54 1 rfl ?_
    refine g_iconst (pc := 55) dX10_begin_55 ci_0 ?_
    refine g_aload_n (pc := 56) dX10_begin_56 0 rfl ?_
    refine g_getr (pc := 57) cl10 (Nat.le_of_ble_eq_true rfl) fk348 (fun _ _ _ => rfl) dX10_begin_57 (fun x24 => ?_)
    refine g_getr (pc := 60) cl8 (Nat.le_of_ble_eq_true rfl) fk250 (fun _ _ _ => rfl) dX10_begin_60 (fun x25 => ?_)
    refine g_iload_n (pc := 63) dX10_begin_63 1 rfl ?_
    refine g_iald (pc := 64) dX10_begin_64 (fun x26 => ?_)
    refine g_mmax (pc := 65) tw851 tw852 tw19 tw853 (Nat.le_of_ble_eq_true rfl) (Nat.le_of_ble_eq_true rfl) dX10_begin_65 ?_
    refine g_iast (pc := 68) dX10_begin_68 (fun h16 => ?_)
    refine g_iincN (pc := 69) dX10_begin_69 1 rfl ci_1 (Nat.le_of_ble_eq_true rfl) (fun x27 => ?_)
    refine g_lvr (lv' := [(2, .int x27), (0, .ref (e_z E + x1))]) rfl ?_
    refine g_goto (pc := 72) (tgt := 41) dX10_begin_72 rfl ?_
    refine g_lv [1, 0] rfl ?_
    exact hr41 x27 h16
  · refine g_lv [0] rfl ?_
    exact hk75 h15
theorem p_X10_begin {l : Launch} {E : aE} (hl : l.stackTraces = false) (x1 : Nat) (x2 : Nat) (h0 : aH) : MO (fun (_ : Unit) => .inl none) l E yX10_begin (.code yX10_begin cX10_begin 3 none) 1 30 [.ref (e_z E + x1), .ref (e_z E + x2)] h0 (m_X10_begin x1 x2 h0) := g_met hl (by decide +kernel) (Nat.le_of_ble_eq_true rfl) (b_X10_begin hl _ _ x1 x2 h0)
theorem dX10_lostAt_0 : decode cX10_lostAt 0 = .ok (.aload_n 0, 1) := by decide +kernel
theorem dX10_lostAt_1 : decode cX10_lostAt 1 = .ok (.getfield 15, 3) := by decide +kernel
theorem dX10_lostAt_4 : decode cX10_lostAt 4 = .ok (.iload_n 1, 1) := by decide +kernel
theorem dX10_lostAt_5 : decode cX10_lostAt 5 = .ok (.iaload, 1) := by decide +kernel
theorem dX10_lostAt_6 : decode cX10_lostAt 6 = .ok (.aload_n 0, 1) := by decide +kernel
theorem dX10_lostAt_7 : decode cX10_lostAt 7 = .ok (.getfield 56, 3) := by decide +kernel
theorem dX10_lostAt_10 : decode cX10_lostAt 10 = .ok (.invokestatic 72, 3) := by decide +kernel
theorem dX10_lostAt_13 : decode cX10_lostAt 13 = .ok (.iload_n 2, 1) := by decide +kernel
theorem dX10_lostAt_14 : decode cX10_lostAt 14 = .ok (.invokestatic 120, 3) := by decide +kernel
theorem dX10_lostAt_17 : decode cX10_lostAt 17 = .ok (.istore_n 3, 1) := by decide +kernel
theorem dX10_lostAt_18 : decode cX10_lostAt 18 = .ok (.aload_n 0, 1) := by decide +kernel
theorem dX10_lostAt_19 : decode cX10_lostAt 19 = .ok (.getfield 52, 3) := by decide +kernel
theorem dX10_lostAt_22 : decode cX10_lostAt 22 = .ok (.getfield 111, 3) := by decide +kernel
theorem dX10_lostAt_25 : decode cX10_lostAt 25 = .ok (.aload_n 0, 1) := by decide +kernel
theorem dX10_lostAt_26 : decode cX10_lostAt 26 = .ok (.getfield 56, 3) := by decide +kernel
theorem dX10_lostAt_29 : decode cX10_lostAt 29 = .ok (.iload_n 3, 1) := by decide +kernel
theorem dX10_lostAt_30 : decode cX10_lostAt 30 = .ok (.invokevirtual 123, 3) := by decide +kernel
theorem dX10_lostAt_33 : decode cX10_lostAt 33 = .ok (.istore 4, 2) := by decide +kernel
theorem dX10_lostAt_35 : decode cX10_lostAt 35 = .ok (.aload_n 0, 1) := by decide +kernel
theorem dX10_lostAt_36 : decode cX10_lostAt 36 = .ok (.getfield 52, 3) := by decide +kernel
theorem dX10_lostAt_39 : decode cX10_lostAt 39 = .ok (.getfield 111, 3) := by decide +kernel
theorem dX10_lostAt_42 : decode cX10_lostAt 42 = .ok (.iload_n 3, 1) := by decide +kernel
theorem dX10_lostAt_43 : decode cX10_lostAt 43 = .ok (.iload_n 2, 1) := by decide +kernel
theorem dX10_lostAt_44 : decode cX10_lostAt 44 = .ok (.invokevirtual 123, 3) := by decide +kernel
theorem dX10_lostAt_47 : decode cX10_lostAt 47 = .ok (.istore 5, 2) := by decide +kernel
theorem dX10_lostAt_49 : decode cX10_lostAt 49 = .ok (.iconst 0, 1) := by decide +kernel
theorem dX10_lostAt_50 : decode cX10_lostAt 50 = .ok (.aload_n 0, 1) := by decide +kernel
theorem dX10_lostAt_51 : decode cX10_lostAt 51 = .ok (.getfield 9, 3) := by decide +kernel
theorem dX10_lostAt_54 : decode cX10_lostAt 54 = .ok (.iload_n 1, 1) := by decide +kernel
theorem dX10_lostAt_55 : decode cX10_lostAt 55 = .ok (.iaload, 1) := by decide +kernel
theorem dX10_lostAt_56 : decode cX10_lostAt 56 = .ok (.iload 4, 2) := by decide +kernel
theorem dX10_lostAt_58 : decode cX10_lostAt 58 = .ok (.iadd, 1) := by decide +kernel
theorem dX10_lostAt_59 : decode cX10_lostAt 59 = .ok (.iload 5, 2) := by decide +kernel
theorem dX10_lostAt_61 : decode cX10_lostAt 61 = .ok (.isub, 1) := by decide +kernel
theorem dX10_lostAt_62 : decode cX10_lostAt 62 = .ok (.invokestatic 72, 3) := by decide +kernel
theorem dX10_lostAt_65 : decode cX10_lostAt 65 = .ok (.ireturn, 1) := by decide +kernel
abbrev M_X10_lostAt : aM := (yX10_lostAt.cls, cX10_lostAt, 6, (some .int), [], yX10_lostAt.name == "<init>")
abbrev J_X10_lostAt (l : Launch) (E : aE) (n0 m0 : Nat) := GG (fun (v : Int32) => .inl (some (.int v))) l E M_X10_lostAt 3 76 n0 m0
theorem b_X10_lostAt {l : Launch} {E : aE} (hl : l.stackTraces = false) (n0 m0 : Nat) (x1 : Nat) (x2 : Int32) (x3 : Int32) (h0 : aH) : J_X10_lostAt l E n0 m0 0 [(0, .ref (e_z E + x1)), (1, .int x2), (2, .int x3)] [] h0 (m_X10_lostAt x1 x2 x3 h0) := by
  unfold m_X10_lostAt
  refine g_aload_n (pc := 0) dX10_lostAt_0 0 rfl ?_
  refine g_getr (pc := 1) cl10 (Nat.le_of_ble_eq_true rfl) fk354 (fun _ _ _ => rfl) dX10_lostAt_1 (fun x4 => ?_)
  refine g_iload_n (pc := 4) dX10_lostAt_4 1 rfl ?_
  refine g_iald (pc := 5) dX10_lostAt_5 (fun x5 => ?_)
  refine g_aload_n (pc := 6) dX10_lostAt_6 0 rfl ?_
  refine g_geti (pc := 7) cl10 (Nat.le_of_ble_eq_true rfl) fk349 (fun _ _ _ => rfl) dX10_lostAt_7 (fun x6 => ?_)
  refine g_mmax (pc := 10) tw851 tw852 tw19 tw853 (Nat.le_of_ble_eq_true rfl) (Nat.le_of_ble_eq_true rfl) dX10_lostAt_10 ?_
  refine g_iload_n (pc := 13) dX10_lostAt_13 2 rfl ?_
  refine g_mmin (pc := 14) tw953 tw651 tw19 tw652 (Nat.le_of_ble_eq_true rfl) (Nat.le_of_ble_eq_true rfl) dX10_lostAt_14 ?_
  refine g_topi (fun x7 => ?_)
  refine g_istore_n (pc := 17) (lv' := [(3, .int x7), (0, .ref (e_z E + x1)), (1, .int x2), (2, .int x3)]) dX10_lostAt_17 (Nat.le_of_ble_eq_true rfl) rfl ?_
  refine g_aload_n (pc := 18) dX10_lostAt_18 1 rfl ?_
  refine g_getr (pc := 19) cl10 (Nat.le_of_ble_eq_true rfl) fk348 (fun _ _ _ => rfl) dX10_lostAt_19 (fun x8 => ?_)
  refine g_getr (pc := 22) cl8 (Nat.le_of_ble_eq_true rfl) fk236 (fun _ _ _ => rfl) dX10_lostAt_22 (fun x9 => ?_)
  refine g_aload_n (pc := 25) dX10_lostAt_25 1 rfl ?_
  refine g_geti (pc := 26) cl10 (Nat.le_of_ble_eq_true rfl) fk349 (fun _ _ _ => rfl) dX10_lostAt_26 (fun x10 => ?_)
  refine g_iload_n (pc := 29) dX10_lostAt_29 0 rfl ?_
  refine g_gS (fun hs => ?_)
  refine g_bRi (pc := 30) (c_VN cl5 hs (p_X5_minutesIn hl x9 x10 x7 h0) y_X5_minutesIn tw954 dX10_lostAt_30 rfl (st := []) rfl (Nat.le_of_ble_eq_true rfl) (Nat.le_of_ble_eq_true rfl) (Nat.le_of_ble_eq_true rfl)) (fun x11 h1 => ?_)
  refine g_istore (pc := 33) (lv' := [(4, .int x11), (3, .int x7), (0, .ref (e_z E + x1)), (1, .int x2), (2, .int x3)]) dX10_lostAt_33 (Nat.le_of_ble_eq_true rfl) rfl ?_
  refine g_aload_n (pc := 35) dX10_lostAt_35 2 rfl ?_
  refine g_getr (pc := 36) cl10 (Nat.le_of_ble_eq_true rfl) fk348 (fun _ _ _ => rfl) dX10_lostAt_36 (fun x12 => ?_)
  refine g_getr (pc := 39) cl8 (Nat.le_of_ble_eq_true rfl) fk236 (fun _ _ _ => rfl) dX10_lostAt_39 (fun x13 => ?_)
  refine g_iload_n (pc := 42) dX10_lostAt_42 1 rfl ?_
  refine g_iload_n (pc := 43) dX10_lostAt_43 4 rfl ?_
  refine g_gS (fun hs => ?_)
  refine g_bRi (pc := 44) (c_VN cl5 hs (p_X5_minutesIn hl x13 x7 x3 h1) y_X5_minutesIn tw954 dX10_lostAt_44 rfl (st := []) rfl (Nat.le_of_ble_eq_true rfl) (Nat.le_of_ble_eq_true rfl) (Nat.le_of_ble_eq_true rfl)) (fun x14 h2 => ?_)
  refine g_istore (pc := 47) (lv' := [(5, .int x14), (4, .int x11), (3, .int x7), (0, .ref (e_z E + x1)), (1, .int x2), (2, .int x3)]) dX10_lostAt_47 (Nat.le_of_ble_eq_true rfl) rfl ?_
  refine g_iconst (pc := 49) dX10_lostAt_49 ci_0 ?_
  refine g_aload_n (pc := 50) dX10_lostAt_50 3 rfl ?_
  refine g_getr (pc := 51) cl10 (Nat.le_of_ble_eq_true rfl) fk352 (fun _ _ _ => rfl) dX10_lostAt_51 (fun x15 => ?_)
  refine g_iload_n (pc := 54) dX10_lostAt_54 4 rfl ?_
  refine g_iald (pc := 55) dX10_lostAt_55 (fun x16 => ?_)
  refine g_iload (pc := 56) dX10_lostAt_56 1 rfl ?_
  refine g_iadd (pc := 58) dX10_lostAt_58 ?_
  refine g_iload (pc := 59) dX10_lostAt_59 0 rfl ?_
  refine g_isub (pc := 61) dX10_lostAt_61 ?_
  refine g_mmax (pc := 62) tw851 tw852 tw19 tw853 (Nat.le_of_ble_eq_true rfl) (Nat.le_of_ble_eq_true rfl) dX10_lostAt_62 ?_
  exact g_ret (pc := 65) rfl (isRet_i _) dX10_lostAt_65 rfl
theorem p_X10_lostAt {l : Launch} {E : aE} (hl : l.stackTraces = false) (x1 : Nat) (x2 : Int32) (x3 : Int32) (h0 : aH) : MO (fun (v : Int32) => .inl (some (.int v))) l E yX10_lostAt (.code yX10_lostAt cX10_lostAt 6 (some .int)) 3 76 [.ref (e_z E + x1), .int x2, .int x3] h0 (m_X10_lostAt x1 x2 x3 h0) := g_met hl (by decide +kernel) (Nat.le_of_ble_eq_true rfl) (b_X10_lostAt hl _ _ x1 x2 x3 h0)
theorem dX10_firstRested_0 : decode cX10_firstRested 0 = .ok (.aload_n 0, 1) := by decide +kernel
theorem dX10_firstRested_1 : decode cX10_firstRested 1 = .ok (.iload_n 1, 1) := by decide +kernel
theorem dX10_firstRested_2 : decode cX10_firstRested 2 = .ok (.invokevirtual 126, 3) := by decide +kernel
theorem dX10_firstRested_5 : decode cX10_firstRested 5 = .ok (.ifCond .ne 8, 3) := by decide +kernel
theorem dX10_firstRested_8 : decode cX10_firstRested 8 = .ok (.aload_n 0, 1) := by decide +kernel
theorem dX10_firstRested_9 : decode cX10_firstRested 9 = .ok (.getfield 56, 3) := by decide +kernel
theorem dX10_firstRested_12 : decode cX10_firstRested 12 = .ok (.ireturn, 1) := by decide +kernel
theorem dX10_firstRested_13 : decode cX10_firstRested 13 = .ok (.aload_n 0, 1) := by decide +kernel
theorem dX10_firstRested_14 : decode cX10_firstRested 14 = .ok (.getfield 56, 3) := by decide +kernel
theorem dX10_firstRested_17 : decode cX10_firstRested 17 = .ok (.istore_n 2, 1) := by decide +kernel
theorem dX10_firstRested_18 : decode cX10_firstRested 18 = .ok (.sipush 16384, 3) := by decide +kernel
theorem dX10_firstRested_21 : decode cX10_firstRested 21 = .ok (.istore_n 3, 1) := by decide +kernel
theorem dX10_firstRested_22 : decode cX10_firstRested 22 = .ok (.iload_n 3, 1) := by decide +kernel
theorem dX10_firstRested_23 : decode cX10_firstRested 23 = .ok (.ifCond .le 46, 3) := by decide +kernel
theorem dX10_firstRested_26 : decode cX10_firstRested 26 = .ok (.iload_n 2, 1) := by decide +kernel
theorem dX10_firstRested_27 : decode cX10_firstRested 27 = .ok (.iload_n 3, 1) := by decide +kernel
theorem dX10_firstRested_28 : decode cX10_firstRested 28 = .ok (.iadd, 1) := by decide +kernel
theorem dX10_firstRested_29 : decode cX10_firstRested 29 = .ok (.istore 4, 2) := by decide +kernel
theorem dX10_firstRested_31 : decode cX10_firstRested 31 = .ok (.iload 4, 2) := by decide +kernel
theorem dX10_firstRested_33 : decode cX10_firstRested 33 = .ok (.sipush 20160, 3) := by decide +kernel
theorem dX10_firstRested_36 : decode cX10_firstRested 36 = .ok (.if_icmp .gt 26, 3) := by decide +kernel
theorem dX10_firstRested_39 : decode cX10_firstRested 39 = .ok (.aload_n 0, 1) := by decide +kernel
theorem dX10_firstRested_40 : decode cX10_firstRested 40 = .ok (.iload_n 1, 1) := by decide +kernel
theorem dX10_firstRested_41 : decode cX10_firstRested 41 = .ok (.iload 4, 2) := by decide +kernel
theorem dX10_firstRested_43 : decode cX10_firstRested 43 = .ok (.invokevirtual 130, 3) := by decide +kernel
theorem dX10_firstRested_46 : decode cX10_firstRested 46 = .ok (.aload_n 0, 1) := by decide +kernel
theorem dX10_firstRested_47 : decode cX10_firstRested 47 = .ok (.getfield 52, 3) := by decide +kernel
theorem dX10_firstRested_50 : decode cX10_firstRested 50 = .ok (.getfield 111, 3) := by decide +kernel
theorem dX10_firstRested_53 : decode cX10_firstRested 53 = .ok (.getfield 115, 3) := by decide +kernel
theorem dX10_firstRested_56 : decode cX10_firstRested 56 = .ok (.if_icmp .lt 6, 3) := by decide +kernel
theorem dX10_firstRested_59 : decode cX10_firstRested 59 = .ok (.iload 4, 2) := by decide +kernel
theorem dX10_firstRested_61 : decode cX10_firstRested 61 = .ok (.istore_n 2, 1) := by decide +kernel
theorem dX10_firstRested_62 : decode cX10_firstRested 62 = .ok (.iload_n 3, 1) := by decide +kernel
theorem dX10_firstRested_63 : decode cX10_firstRested 63 = .ok (.iconst 2, 1) := by decide +kernel
theorem dX10_firstRested_64 : decode cX10_firstRested 64 = .ok (.idiv, 1) := by decide +kernel
theorem dX10_firstRested_65 : decode cX10_firstRested 65 = .ok (.istore_n 3, 1) := by decide +kernel
theorem dX10_firstRested_66 : decode cX10_firstRested 66 = .ok (.goto (-44), 3) := by decide +kernel
theorem dX10_firstRested_69 : decode cX10_firstRested 69 = .ok (.iload_n 2, 1) := by decide +kernel
theorem dX10_firstRested_70 : decode cX10_firstRested 70 = .ok (.iconst 1, 1) := by decide +kernel
theorem dX10_firstRested_71 : decode cX10_firstRested 71 = .ok (.iadd, 1) := by decide +kernel
theorem dX10_firstRested_72 : decode cX10_firstRested 72 = .ok (.ireturn, 1) := by decide +kernel
abbrev M_X10_firstRested : aM := (yX10_firstRested.cls, cX10_firstRested, 5, (some .int), [], yX10_firstRested.name == "<init>")
abbrev J_X10_firstRested (l : Launch) (E : aE) (n0 m0 : Nat) := GG (fun (v : Int32) => .inl (some (.int v))) l E M_X10_firstRested 4 101 n0 m0
theorem b_X10_firstRested {l : Launch} {E : aE} (hl : l.stackTraces = false) (n0 m0 : Nat) (x1 : Nat) (x2 : Int32) (h0 : aH) : J_X10_firstRested l E n0 m0 0 [(0, .ref (e_z E + x1)), (1, .int x2)] [] h0 (m_X10_firstRested x1 x2 h0) := by
  unfold m_X10_firstRested
  refine g_aload_n (pc := 0) dX10_firstRested_0 0 rfl ?_
  refine g_iload_n (pc := 1) dX10_firstRested_1 1 rfl ?_
  refine g_gS (fun hs => ?_)
  refine g_bRi (pc := 2) (c_V cl10 hs (p_X10_isTired hl x1 x2 h0) y_X10_isTired tw966 dX10_firstRested_2 rfl (st := []) rfl (Nat.le_of_ble_eq_true rfl) (Nat.le_of_ble_eq_true rfl) (Nat.le_of_ble_eq_true rfl)) (fun x3 h1 => ?_)
  refine g_ifne (pc := 5) (tgt := 13) dX10_firstRested_5 rfl ?_ ?_
  · refine g_aload_n (pc := 8) dX10_firstRested_8 0 rfl ?_
    refine g_geti (pc := 9) cl10 (Nat.le_of_ble_eq_true rfl) fk349 (fun _ _ _ => rfl) dX10_firstRested_9 (fun x4 => ?_)
    exact g_ret (pc := 12) rfl (isRet_i _) dX10_firstRested_12 rfl
  · refine g_aload_n (pc := 13) dX10_firstRested_13 0 rfl ?_
    refine g_geti (pc := 14) cl10 (Nat.le_of_ble_eq_true rfl) fk349 (fun _ _ _ => rfl) dX10_firstRested_14 (fun x5 => ?_)
    refine g_istore_n (pc := 17) (lv' := [(2, .int x5), (0, .ref (e_z E + x1)), (1, .int x2)]) dX10_firstRested_17 (Nat.le_of_ble_eq_true rfl) rfl ?_
    refine g_sipush (pc := 18) dX10_firstRested_18 cs_16384 ?_
    refine g_istore_n (pc := 21) (lv' := [(3, .int (16384 : Int32)), (2, .int x5), (0, .ref (e_z E + x1)), (1, .int x2)]) dX10_firstRested_21 (Nat.le_of_ble_eq_true rfl) rfl ?_
    refine g_join (fun k => ∀ (x6 : Int32) (h2 : aH), J_X10_firstRested l E n0 m0 69 [(2, .int x6)] [] h2 (k x6 h2)) (fun x6 h2 => ?_) (fun k69 hk69 => ?_)
    · refine g_iload_n (pc := 69) dX10_firstRested_69 0 rfl ?_
      refine g_iconst (pc := 70) dX10_firstRested_70 ci_1 ?_
      refine g_iadd (pc := 71) dX10_firstRested_71 ?_
      exact g_ret (pc := 72) rfl (isRet_i _) dX10_firstRested_72 rfl
    refine g_lv [2, 3, 1, 0] rfl ?_
    refine g_loop2 (F := (m_X10_firstRested_L22 x1 x2 k69)) (fun x7 x8 => [(0, .ref (e_z E + x1)), (1, .int x2), (2, .int x7), (3, .int x8)]) (fun r22 hr22 x7 x8 h3 => ?_) _ _ _ _
    unfold m_X10_firstRested_L22
    refine g_iload_n (pc := 22) dX10_firstRested_22 3 rfl ?_
    refine g_ifle (pc := 23) (tgt := 69) dX10_firstRested_23 rfl ?_ ?_
    · refine g_lv [2] rfl ?_
      exact hk69 x7 h3
    · refine g_iload_n (pc := 26) dX10_firstRested_26 2 rfl ?_
      refine g_iload_n (pc := 27) dX10_firstRested_27 3 rfl ?_
      refine g_iadd (pc := 28) dX10_firstRested_28 ?_
      refine g_topi (fun x9 => ?_)
      refine g_istore (pc := 29) (lv' := [(4, .int x9), (0, .ref (e_z E + x1)), (1, .int x2), (2, .int x7), (3, .int x8)]) dX10_firstRested_29 (Nat.le_of_ble_eq_true rfl) rfl ?_
      refine g_iload (pc := 31) dX10_firstRested_31 0 rfl ?_
      refine g_sipush (pc := 33) dX10_firstRested_33 cs_20160 ?_
      refine g_join (fun k => ∀ (x10 : Int32) (h4 : aH), J_X10_firstRested l E n0 m0 62 [(0, .ref (e_z E + x1)), (1, .int x2), (2, .int x10), (3, .int x8)] [] h4 (k x10 h4)) (fun x10 h4 => ?_) (fun k62 hk62 => ?_)
      · refine g_iload_n (pc := 62) dX10_firstRested_62 3 rfl ?_
        refine g_iconst (pc := 63) dX10_firstRested_63 ci_2 ?_
        refine g_idiv (pc := 64) dX10_firstRested_64 (fun x11 => ?_)
        refine g_istore_n (pc := 65) (lv' := [(3, .int x11), (0, .ref (e_z E + x1)), (1, .int x2), (2, .int x10)]) dX10_firstRested_65 (Nat.le_of_ble_eq_true rfl) rfl ?_
        refine g_goto (pc := 66) (tgt := 22) dX10_firstRested_66 rfl ?_
        refine g_lv [1, 2, 3, 0] rfl ?_
        exact hr22 x10 x11 h4
      refine g_icmpgt (pc := 36) (tgt := 62) dX10_firstRested_36 rfl ?_ ?_
      · refine g_aload_n (pc := 39) dX10_firstRested_39 1 rfl ?_
        refine g_iload_n (pc := 40) dX10_firstRested_40 2 rfl ?_
        refine g_iload (pc := 41) dX10_firstRested_41 0 rfl ?_
        refine g_gS (fun hs => ?_)
        refine g_bRi (pc := 43) (c_V cl10 hs (p_X10_lostAt hl x1 x2 x9 h3) y_X10_lostAt tw970 dX10_firstRested_43 rfl (st := []) rfl (Nat.le_of_ble_eq_true rfl) (Nat.le_of_ble_eq_true rfl) (Nat.le_of_ble_eq_true rfl)) (fun x12 h5 => ?_)
        refine g_aload_n (pc := 46) dX10_firstRested_46 1 rfl ?_
        refine g_getr (pc := 47) cl10 (Nat.le_of_ble_eq_true rfl) fk348 (fun _ _ _ => rfl) dX10_firstRested_47 (fun x13 => ?_)
        refine g_getr (pc := 50) cl8 (Nat.le_of_ble_eq_true rfl) fk236 (fun _ _ _ => rfl) dX10_firstRested_50 (fun x14 => ?_)
        refine g_geti (pc := 53) cl5 (Nat.le_of_ble_eq_true rfl) fk97 (fun _ _ _ => rfl) dX10_firstRested_53 (fun x15 => ?_)
        refine g_icmplt (pc := 56) (tgt := 62) dX10_firstRested_56 rfl ?_ ?_
        · refine g_lv [1, 2, 3, 4] rfl ?_
          exact hk62 x7 h5
        · refine g_iload (pc := 59) dX10_firstRested_59 0 rfl ?_
          refine g_istore_n (pc := 61) (lv' := [(2, .int x9), (4, .int x9), (0, .ref (e_z E + x1)), (1, .int x2), (3, .int x8)]) dX10_firstRested_61 (Nat.le_of_ble_eq_true rfl) rfl ?_
          refine g_lv [2, 3, 0, 4] rfl ?_
          exact hk62 x9 h5
      · refine g_lv [1, 2, 3, 4] rfl ?_
        exact hk62 x7 h3
theorem p_X10_firstRested {l : Launch} {E : aE} (hl : l.stackTraces = false) (x1 : Nat) (x2 : Int32) (h0 : aH) : MO (fun (v : Int32) => .inl (some (.int v))) l E yX10_firstRested (.code yX10_firstRested cX10_firstRested 5 (some .int)) 4 101 [.ref (e_z E + x1), .int x2] h0 (m_X10_firstRested x1 x2 h0) := g_met hl (by decide +kernel) (Nat.le_of_ble_eq_true rfl) (b_X10_firstRested hl _ _ x1 x2 h0)
theorem dX10_bestRow_0 : decode cX10_bestRow 0 = .ok (.iconst 0, 1) := by decide +kernel
theorem dX10_bestRow_1 : decode cX10_bestRow 1 = .ok (.istore_n 3, 1) := by decide +kernel
theorem dX10_bestRow_2 : decode cX10_bestRow 2 = .ok (.iload_n 3, 1) := by decide +kernel
theorem dX10_bestRow_3 : decode cX10_bestRow 3 = .ok (.aload_n 0, 1) := by decide +kernel
theorem dX10_bestRow_4 : decode cX10_bestRow 4 = .ok (.getfield 52, 3) := by decide +kernel
theorem dX10_bestRow_7 : decode cX10_bestRow 7 = .ok (.getfield 148, 3) := by decide +kernel
theorem dX10_bestRow_10 : decode cX10_bestRow 10 = .ok (.if_icmp .ge 35, 3) := by decide +kernel
theorem dX10_bestRow_13 : decode cX10_bestRow 13 = .ok (.aload_n 0, 1) := by decide +kernel
theorem dX10_bestRow_14 : decode cX10_bestRow 14 = .ok (.getfield 49, 3) := by decide +kernel
theorem dX10_bestRow_17 : decode cX10_bestRow 17 = .ok (.iload_n 3, 1) := by decide +kernel
theorem dX10_bestRow_18 : decode cX10_bestRow 18 = .ok (.iload_n 3, 1) := by decide +kernel
theorem dX10_bestRow_19 : decode cX10_bestRow 19 = .ok (.iload_n 1, 1) := by decide +kernel
theorem dX10_bestRow_20 : decode cX10_bestRow 20 = .ok (.if_icmp .ne 8, 3) := by decide +kernel
theorem dX10_bestRow_23 : decode cX10_bestRow 23 = .ok (.bipush 9, 2) := by decide +kernel
theorem dX10_bestRow_25 : decode cX10_bestRow 25 = .ok (.goto 13, 3) := by decide +kernel
theorem dX10_bestRow_28 : decode cX10_bestRow 28 = .ok (.aload_n 0, 1) := by decide +kernel
theorem dX10_bestRow_29 : decode cX10_bestRow 29 = .ok (.getfield 21, 3) := by decide +kernel
theorem dX10_bestRow_32 : decode cX10_bestRow 32 = .ok (.iload_n 1, 1) := by decide +kernel
theorem dX10_bestRow_33 : decode cX10_bestRow 33 = .ok (.iload_n 3, 1) := by decide +kernel
theorem dX10_bestRow_34 : decode cX10_bestRow 34 = .ok (.invokestatic 151, 3) := by decide +kernel
theorem dX10_bestRow_37 : decode cX10_bestRow 37 = .ok (.iaload, 1) := by decide +kernel
theorem dX10_bestRow_38 : decode cX10_bestRow 38 = .ok (.iastore, 1) := by decide +kernel
theorem dX10_bestRow_39 : decode cX10_bestRow 39 = .ok (.iinc 3 1, 3) := by decide +kernel
theorem dX10_bestRow_42 : decode cX10_bestRow 42 = .ok (.goto (-40), 3) := by decide +kernel
theorem dX10_bestRow_45 : decode cX10_bestRow 45 = .ok (.iconst 0, 1) := by decide +kernel
theorem dX10_bestRow_46 : decode cX10_bestRow 46 = .ok (.istore_n 3, 1) := by decide +kernel
theorem dX10_bestRow_47 : decode cX10_bestRow 47 = .ok (.iload_n 3, 1) := by decide +kernel
theorem dX10_bestRow_48 : decode cX10_bestRow 48 = .ok (.aload_n 0, 1) := by decide +kernel
theorem dX10_bestRow_49 : decode cX10_bestRow 49 = .ok (.getfield 52, 3) := by decide +kernel
theorem dX10_bestRow_52 : decode cX10_bestRow 52 = .ok (.getfield 148, 3) := by decide +kernel
theorem dX10_bestRow_55 : decode cX10_bestRow 55 = .ok (.if_icmp .ge 105, 3) := by decide +kernel
theorem dX10_bestRow_58 : decode cX10_bestRow 58 = .ok (.iconst 0, 1) := by decide +kernel
theorem dX10_bestRow_59 : decode cX10_bestRow 59 = .ok (.istore 4, 2) := by decide +kernel
theorem dX10_bestRow_61 : decode cX10_bestRow 61 = .ok (.iload 4, 2) := by decide +kernel
theorem dX10_bestRow_63 : decode cX10_bestRow 63 = .ok (.aload_n 0, 1) := by decide +kernel
theorem dX10_bestRow_64 : decode cX10_bestRow 64 = .ok (.getfield 52, 3) := by decide +kernel
theorem dX10_bestRow_67 : decode cX10_bestRow 67 = .ok (.getfield 148, 3) := by decide +kernel
theorem dX10_bestRow_70 : decode cX10_bestRow 70 = .ok (.if_icmp .ge 84, 3) := by decide +kernel
theorem dX10_bestRow_73 : decode cX10_bestRow 73 = .ok (.iconst 0, 1) := by decide +kernel
theorem dX10_bestRow_74 : decode cX10_bestRow 74 = .ok (.istore 5, 2) := by decide +kernel
theorem dX10_bestRow_76 : decode cX10_bestRow 76 = .ok (.iload 5, 2) := by decide +kernel
theorem dX10_bestRow_78 : decode cX10_bestRow 78 = .ok (.aload_n 0, 1) := by decide +kernel
theorem dX10_bestRow_79 : decode cX10_bestRow 79 = .ok (.getfield 52, 3) := by decide +kernel
theorem dX10_bestRow_82 : decode cX10_bestRow 82 = .ok (.getfield 148, 3) := by decide +kernel
theorem dX10_bestRow_85 : decode cX10_bestRow 85 = .ok (.if_icmp .ge 63, 3) := by decide +kernel
theorem dX10_bestRow_88 : decode cX10_bestRow 88 = .ok (.iload 4, 2) := by decide +kernel
theorem dX10_bestRow_90 : decode cX10_bestRow 90 = .ok (.iload 5, 2) := by decide +kernel
theorem dX10_bestRow_92 : decode cX10_bestRow 92 = .ok (.if_icmp .ne 7, 3) := by decide +kernel
theorem dX10_bestRow_95 : decode cX10_bestRow 95 = .ok (.iconst 0, 1) := by decide +kernel
theorem dX10_bestRow_96 : decode cX10_bestRow 96 = .ok (.goto 25, 3) := by decide +kernel
theorem dX10_bestRow_99 : decode cX10_bestRow 99 = .ok (.aload_n 0, 1) := by decide +kernel
theorem dX10_bestRow_100 : decode cX10_bestRow 100 = .ok (.getfield 49, 3) := by decide +kernel
theorem dX10_bestRow_103 : decode cX10_bestRow 103 = .ok (.iload 4, 2) := by decide +kernel
theorem dX10_bestRow_105 : decode cX10_bestRow 105 = .ok (.iaload, 1) := by decide +kernel
theorem dX10_bestRow_106 : decode cX10_bestRow 106 = .ok (.aload_n 0, 1) := by decide +kernel
theorem dX10_bestRow_107 : decode cX10_bestRow 107 = .ok (.getfield 21, 3) := by decide +kernel
theorem dX10_bestRow_110 : decode cX10_bestRow 110 = .ok (.iload 4, 2) := by decide +kernel
theorem dX10_bestRow_112 : decode cX10_bestRow 112 = .ok (.iload 5, 2) := by decide +kernel
theorem dX10_bestRow_114 : decode cX10_bestRow 114 = .ok (.invokestatic 151, 3) := by decide +kernel
theorem dX10_bestRow_117 : decode cX10_bestRow 117 = .ok (.iaload, 1) := by decide +kernel
theorem dX10_bestRow_118 : decode cX10_bestRow 118 = .ok (.invokestatic 120, 3) := by decide +kernel
theorem dX10_bestRow_121 : decode cX10_bestRow 121 = .ok (.istore 6, 2) := by decide +kernel
theorem dX10_bestRow_123 : decode cX10_bestRow 123 = .ok (.aload_n 0, 1) := by decide +kernel
theorem dX10_bestRow_124 : decode cX10_bestRow 124 = .ok (.getfield 49, 3) := by decide +kernel
theorem dX10_bestRow_127 : decode cX10_bestRow 127 = .ok (.iload 5, 2) := by decide +kernel
theorem dX10_bestRow_129 : decode cX10_bestRow 129 = .ok (.aload_n 0, 1) := by decide +kernel
theorem dX10_bestRow_130 : decode cX10_bestRow 130 = .ok (.getfield 49, 3) := by decide +kernel
theorem dX10_bestRow_133 : decode cX10_bestRow 133 = .ok (.iload 5, 2) := by decide +kernel
theorem dX10_bestRow_135 : decode cX10_bestRow 135 = .ok (.iaload, 1) := by decide +kernel
theorem dX10_bestRow_136 : decode cX10_bestRow 136 = .ok (.iload 6, 2) := by decide +kernel
theorem dX10_bestRow_138 : decode cX10_bestRow 138 = .ok (.invokestatic 72, 3) := by decide +kernel
theorem dX10_bestRow_141 : decode cX10_bestRow 141 = .ok (.iastore, 1) := by decide +kernel
theorem dX10_bestRow_142 : decode cX10_bestRow 142 = .ok (.iinc 5 1, 3) := by decide +kernel
theorem dX10_bestRow_145 : decode cX10_bestRow 145 = .ok (.goto (-69), 3) := by decide +kernel
theorem dX10_bestRow_148 : decode cX10_bestRow 148 = .ok (.iinc 4 1, 3) := by decide +kernel
theorem dX10_bestRow_151 : decode cX10_bestRow 151 = .ok (.goto (-90), 3) := by decide +kernel
theorem dX10_bestRow_154 : decode cX10_bestRow 154 = .ok (.iinc 3 1, 3) := by decide +kernel
theorem dX10_bestRow_157 : decode cX10_bestRow 157 = .ok (.goto (-110), 3) := by decide +kernel
theorem dX10_bestRow_160 : decode cX10_bestRow 160 = .ok (.aload_n 0, 1) := by decide +kernel
theorem dX10_bestRow_161 : decode cX10_bestRow 161 = .ok (.getfield 49, 3) := by decide +kernel
theorem dX10_bestRow_164 : decode cX10_bestRow 164 = .ok (.iload_n 2, 1) := by decide +kernel
theorem dX10_bestRow_165 : decode cX10_bestRow 165 = .ok (.iaload, 1) := by decide +kernel
theorem dX10_bestRow_166 : decode cX10_bestRow 166 = .ok (.ireturn, 1) := by decide +kernel
abbrev M_X10_bestRow : aM := (yX10_bestRow.cls, cX10_bestRow, 7, (some .int), [], yX10_bestRow.name == "<init>")
abbrev J_X10_bestRow (l : Launch) (E : aE) (n0 m0 : Nat) := GG (fun (v : Int32) => .inl (some (.int v))) l E M_X10_bestRow 1 30 n0 m0
theorem b_X10_bestRow {l : Launch} {E : aE} (hl : l.stackTraces = false) (n0 m0 : Nat) (x1 : Nat) (x2 : Int32) (x3 : Int32) (h0 : aH) : J_X10_bestRow l E n0 m0 0 [(0, .ref (e_z E + x1)), (1, .int x2), (2, .int x3)] [] h0 (m_X10_bestRow x1 x2 x3 h0) := by
  unfold m_X10_bestRow
  refine g_iconst (pc := 0) dX10_bestRow_0 ci_0 ?_
  refine g_istore_n (pc := 1) (lv' := [(3, .int (0 : Int32)), (0, .ref (e_z E + x1)), (1, .int x2), (2, .int x3)]) dX10_bestRow_1 (Nat.le_of_ble_eq_true rfl) rfl ?_
  refine g_join (fun k => ∀ (h1 : aH), J_X10_bestRow l E n0 m0 45 [(0, .ref (e_z E + x1)), (2, .int x3)] [] h1 (k h1)) (fun h1 => ?_) (fun k45 hk45 => ?_)
  · refine g_iconst (pc := 45) dX10_bestRow_45 ci_0 ?_
    refine g_istore_n (pc := 46) (lv' := [(3, .int (0 : Int32)), (0, .ref (e_z E + x1)), (2, .int x3)]) dX10_bestRow_46 (Nat.le_of_ble_eq_true rfl) rfl ?_
    refine g_join (fun k => ∀ (h2 : aH), J_X10_bestRow l E n0 m0 160 [(0, .ref (e_z E + x1)), (2, .int x3)] [] h2 (k h2)) (fun h2 => ?_) (fun k160 hk160 => ?_)
    · refine g_aload_n (pc := 160) dX10_bestRow_160 0 rfl ?_
      refine g_getr (pc := 161) cl10 (Nat.le_of_ble_eq_true rfl) fk381 (fun _ _ _ => rfl) dX10_bestRow_161 (fun x4 => ?_)
      refine g_iload_n (pc := 164) dX10_bestRow_164 1 rfl ?_
      refine g_iald (pc := 165) dX10_bestRow_165 (fun x5 => ?_)
      exact g_ret (pc := 166) rfl (isRet_i _) dX10_bestRow_166 rfl
    refine g_lv [1, 2, 0] rfl ?_
    refine g_loop1 (F := (m_X10_bestRow_L47 x1 k160)) (fun x6 => [(0, .ref (e_z E + x1)), (2, .int x3), (3, .int x6)]) (fun r47 hr47 x6 h3 => ?_) _ _ _
    unfold m_X10_bestRow_L47
    refine g_iload_n (pc := 47) dX10_bestRow_47 2 rfl ?_
    refine g_aload_n (pc := 48) dX10_bestRow_48 0 rfl ?_
    refine g_getr (pc := 49) cl10 (Nat.le_of_ble_eq_true rfl) fk348 (fun _ _ _ => rfl) dX10_bestRow_49 (fun x7 => ?_)
    refine g_geti (pc := 52) cl8 (Nat.le_of_ble_eq_true rfl) fk241 (fun _ _ _ => rfl) dX10_bestRow_52 (fun x8 => ?_)
    refine g_icmpge (pc := 55) (tgt := 160) dX10_bestRow_55 rfl ?_ ?_
    · refine g_iconst (pc := 58) dX10_bestRow_58 ci_0 ?_
      refine g_istore (pc := 59) (lv' := [(4, .int (0 : Int32)), (0, .ref (e_z E + x1)), (2, .int x3), (3, .int x6)]) dX10_bestRow_59 (Nat.le_of_ble_eq_true rfl) rfl ?_
      refine g_join (fun k => ∀ (h4 : aH), J_X10_bestRow l E n0 m0 154 [(0, .ref (e_z E + x1)), (2, .int x3), (3, .int x6)] [] h4 (k h4)) (fun h4 => ?_) (fun k154 hk154 => ?_)
      · refine g_iincN (pc := 154) dX10_bestRow_154 2 rfl ci_1 (Nat.le_of_ble_eq_true rfl) (fun x9 => ?_)
        refine g_lvr (lv' := [(3, .int x9), (0, .ref (e_z E + x1)), (2, .int x3)]) rfl ?_
        refine g_goto (pc := 157) (tgt := 47) dX10_bestRow_157 rfl ?_
        refine g_lv [1, 2, 0] rfl ?_
        exact hr47 x9 h4
      refine g_lv [1, 2, 3, 0] rfl ?_
      refine g_loop1 (F := (m_X10_bestRow_L61 x1 k154)) (fun x10 => [(0, .ref (e_z E + x1)), (2, .int x3), (3, .int x6), (4, .int x10)]) (fun r61 hr61 x10 h5 => ?_) _ _ _
      unfold m_X10_bestRow_L61
      refine g_iload (pc := 61) dX10_bestRow_61 3 rfl ?_
      refine g_aload_n (pc := 63) dX10_bestRow_63 0 rfl ?_
      refine g_getr (pc := 64) cl10 (Nat.le_of_ble_eq_true rfl) fk348 (fun _ _ _ => rfl) dX10_bestRow_64 (fun x11 => ?_)
      refine g_geti (pc := 67) cl8 (Nat.le_of_ble_eq_true rfl) fk241 (fun _ _ _ => rfl) dX10_bestRow_67 (fun x12 => ?_)
      refine g_icmpge (pc := 70) (tgt := 154) dX10_bestRow_70 rfl ?_ ?_
      · refine g_iconst (pc := 73) dX10_bestRow_73 ci_0 ?_
        refine g_istore (pc := 74) (lv' := [(5, .int (0 : Int32)), (0, .ref (e_z E + x1)), (2, .int x3), (3, .int x6), (4, .int x10)]) dX10_bestRow_74 (Nat.le_of_ble_eq_true rfl) rfl ?_
        refine g_join (fun k => ∀ (h6 : aH), J_X10_bestRow l E n0 m0 148 [(0, .ref (e_z E + x1)), (2, .int x3), (3, .int x6), (4, .int x10)] [] h6 (k h6)) (fun h6 => ?_) (fun k148 hk148 => ?_)
        · refine g_iincN (pc := 148) dX10_bestRow_148 3 rfl ci_1 (Nat.le_of_ble_eq_true rfl) (fun x13 => ?_)
          refine g_lvr (lv' := [(4, .int x13), (0, .ref (e_z E + x1)), (2, .int x3), (3, .int x6)]) rfl ?_
          refine g_goto (pc := 151) (tgt := 61) dX10_bestRow_151 rfl ?_
          refine g_lv [1, 2, 3, 0] rfl ?_
          exact hr61 x13 h6
        refine g_lv [1, 2, 3, 4, 0] rfl ?_
        refine g_loop1 (F := (m_X10_bestRow_L76 x1 x10 k148)) (fun x14 => [(0, .ref (e_z E + x1)), (2, .int x3), (3, .int x6), (4, .int x10), (5, .int x14)]) (fun r76 hr76 x14 h7 => ?_) _ _ _
        unfold m_X10_bestRow_L76
        refine g_iload (pc := 76) dX10_bestRow_76 4 rfl ?_
        refine g_aload_n (pc := 78) dX10_bestRow_78 0 rfl ?_
        refine g_getr (pc := 79) cl10 (Nat.le_of_ble_eq_true rfl) fk348 (fun _ _ _ => rfl) dX10_bestRow_79 (fun x15 => ?_)
        refine g_geti (pc := 82) cl8 (Nat.le_of_ble_eq_true rfl) fk241 (fun _ _ _ => rfl) dX10_bestRow_82 (fun x16 => ?_)
        refine g_icmpge (pc := 85) (tgt := 148) dX10_bestRow_85 rfl ?_ ?_
        · refine g_iload (pc := 88) dX10_bestRow_88 3 rfl ?_
          refine g_iload (pc := 90) dX10_bestRow_90 4 rfl ?_
          refine g_join (fun k => ∀ (x17 : Int32) (h8 : aH), J_X10_bestRow l E n0 m0 121 [(0, .ref (e_z E + x1)), (2, .int x3), (3, .int x6), (4, .int x10), (5, .int x14)] [.int x17] h8 (k x17 h8)) (fun x17 h8 => ?_) (fun k121 hk121 => ?_)
          · refine g_istore (pc := 121) (lv' := [(6, .int x17), (0, .ref (e_z E + x1)), (2, .int x3), (3, .int x6), (4, .int x10), (5, .int x14)]) dX10_bestRow_121 (Nat.le_of_ble_eq_true rfl) rfl ?_
            refine g_aload_n (pc := 123) dX10_bestRow_123 1 rfl ?_
            refine g_getr (pc := 124) cl10 (Nat.le_of_ble_eq_true rfl) fk381 (fun _ _ _ => rfl) dX10_bestRow_124 (fun x18 => ?_)
            refine g_iload (pc := 127) dX10_bestRow_127 5 rfl ?_
            refine g_aload_n (pc := 129) dX10_bestRow_129 1 rfl ?_
            refine g_getr (pc := 130) cl10 (Nat.le_of_ble_eq_true rfl) fk381 (fun _ _ _ => rfl) dX10_bestRow_130 (fun x19 => ?_)
            refine g_iload (pc := 133) dX10_bestRow_133 5 rfl ?_
            refine g_iald (pc := 135) dX10_bestRow_135 (fun x20 => ?_)
            refine g_iload (pc := 136) dX10_bestRow_136 0 rfl ?_
            refine g_mmax (pc := 138) tw851 tw852 tw19 tw853 (Nat.le_of_ble_eq_true rfl) (Nat.le_of_ble_eq_true rfl) dX10_bestRow_138 ?_
            refine g_iast (pc := 141) dX10_bestRow_141 (fun h9 => ?_)
            refine g_iincN (pc := 142) dX10_bestRow_142 5 rfl ci_1 (Nat.le_of_ble_eq_true rfl) (fun x21 => ?_)
            refine g_lvr (lv' := [(5, .int x21), (6, .int x17), (0, .ref (e_z E + x1)), (2, .int x3), (3, .int x6), (4, .int x10)]) rfl ?_
            refine g_goto (pc := 145) (tgt := 76) dX10_bestRow_145 rfl ?_
            refine g_lv [2, 3, 4, 5, 0] rfl ?_
            exact hr76 x21 h9
          refine g_icmpne (pc := 92) (tgt := 99) dX10_bestRow_92 rfl ?_ ?_
          · refine g_iconst (pc := 95) dX10_bestRow_95 ci_0 ?_
            refine g_goto (pc := 96) (tgt := 121) dX10_bestRow_96 rfl ?_
            exact hk121 (0 : Int32) h7
          · refine g_aload_n (pc := 99) dX10_bestRow_99 0 rfl ?_
            refine g_getr (pc := 100) cl10 (Nat.le_of_ble_eq_true rfl) fk381 (fun _ _ _ => rfl) dX10_bestRow_100 (fun x22 => ?_)
            refine g_iload (pc := 103) dX10_bestRow_103 3 rfl ?_
            refine g_iald (pc := 105) dX10_bestRow_105 (fun x23 => ?_)
            refine g_aload_n (pc := 106) dX10_bestRow_106 0 rfl ?_
            refine g_getr (pc := 107) cl10 (Nat.le_of_ble_eq_true rfl) fk361 (fun _ _ _ => rfl) dX10_bestRow_107 (fun x24 => ?_)
            refine g_iload (pc := 110) dX10_bestRow_110 3 rfl ?_
            refine g_iload (pc := 112) dX10_bestRow_112 4 rfl ?_
            refine g_bRi (pc := 114) (c_SN (p_X11_pair hl x10 x14 h7) y_X11_pair tw1018 dX10_bestRow_114 rfl (st := [.ref (e_z E + x24), .int x23]) rfl (Nat.le_of_ble_eq_true rfl) (Nat.le_of_ble_eq_true rfl) (Nat.le_of_ble_eq_true rfl)) (fun x25 h10 => ?_)
            refine g_iald (pc := 117) dX10_bestRow_117 (fun x26 => ?_)
            refine g_mmin (pc := 118) tw953 tw651 tw19 tw652 (Nat.le_of_ble_eq_true rfl) (Nat.le_of_ble_eq_true rfl) dX10_bestRow_118 ?_
            exact hk121 (iMin x23 x26) h10
        · refine g_lv [0, 1, 2, 3] rfl ?_
          exact hk148 h7
      · refine g_lv [0, 1, 2] rfl ?_
        exact hk154 h5
    · refine g_lv [0, 1] rfl ?_
      exact hk160 h3
  refine g_lv [1, 2, 3, 0] rfl ?_
  refine g_loop1 (F := (m_X10_bestRow_L2 x1 x2 k45)) (fun x27 => [(0, .ref (e_z E + x1)), (1, .int x2), (2, .int x3), (3, .int x27)]) (fun r2 hr2 x27 h11 => ?_) _ _ _
  unfold m_X10_bestRow_L2
  refine g_iload_n (pc := 2) dX10_bestRow_2 3 rfl ?_
  refine g_aload_n (pc := 3) dX10_bestRow_3 0 rfl ?_
  refine g_getr (pc := 4) cl10 (Nat.le_of_ble_eq_true rfl) fk348 (fun _ _ _ => rfl) dX10_bestRow_4 (fun x28 => ?_)
  refine g_geti (pc := 7) cl8 (Nat.le_of_ble_eq_true rfl) fk241 (fun _ _ _ => rfl) dX10_bestRow_7 (fun x29 => ?_)
  refine g_icmpge (pc := 10) (tgt := 45) dX10_bestRow_10 rfl ?_ ?_
  · refine g_aload_n (pc := 13) dX10_bestRow_13 0 rfl ?_
    refine g_getr (pc := 14) cl10 (Nat.le_of_ble_eq_true rfl) fk381 (fun _ _ _ => rfl) dX10_bestRow_14 (fun x30 => ?_)
    refine g_iload_n (pc := 17) dX10_bestRow_17 3 rfl ?_
    refine g_iload_n (pc := 18) dX10_bestRow_18 3 rfl ?_
    refine g_iload_n (pc := 19) dX10_bestRow_19 1 rfl ?_
    refine g_join (fun k => ∀ (x31 : Int32) (h12 : aH), J_X10_bestRow l E n0 m0 38 [(0, .ref (e_z E + x1)), (1, .int x2), (2, .int x3), (3, .int x27)] [.int x31, .int x27, .ref (e_z E + x30)] h12 (k x31 h12)) (fun x31 h12 => ?_) (fun k38 hk38 => ?_)
    · refine g_iast (pc := 38) dX10_bestRow_38 (fun h13 => ?_)
      refine g_iincN (pc := 39) dX10_bestRow_39 3 rfl ci_1 (Nat.le_of_ble_eq_true rfl) (fun x32 => ?_)
      refine g_lvr (lv' := [(3, .int x32), (0, .ref (e_z E + x1)), (1, .int x2), (2, .int x3)]) rfl ?_
      refine g_goto (pc := 42) (tgt := 2) dX10_bestRow_42 rfl ?_
      refine g_lv [1, 2, 3, 0] rfl ?_
      exact hr2 x32 h13
    refine g_icmpne (pc := 20) (tgt := 28) dX10_bestRow_20 rfl ?_ ?_
    · refine g_bipush (pc := 23) dX10_bestRow_23 cb_9 ?_
      refine g_goto (pc := 25) (tgt := 38) dX10_bestRow_25 rfl ?_
      exact hk38 (9 : Int32) h11
    · refine g_aload_n (pc := 28) dX10_bestRow_28 0 rfl ?_
      refine g_getr (pc := 29) cl10 (Nat.le_of_ble_eq_true rfl) fk361 (fun _ _ _ => rfl) dX10_bestRow_29 (fun x33 => ?_)
      refine g_iload_n (pc := 32) dX10_bestRow_32 1 rfl ?_
      refine g_iload_n (pc := 33) dX10_bestRow_33 3 rfl ?_
      refine g_bRi (pc := 34) (c_SN (p_X11_pair hl x2 x27 h11) y_X11_pair tw1018 dX10_bestRow_34 rfl (st := [.ref (e_z E + x33), .int x27, .ref (e_z E + x30)]) rfl (Nat.le_of_ble_eq_true rfl) (Nat.le_of_ble_eq_true rfl) (Nat.le_of_ble_eq_true rfl)) (fun x34 h14 => ?_)
      refine g_iald (pc := 37) dX10_bestRow_37 (fun x35 => ?_)
      exact hk38 x35 h14
  · refine g_lv [0, 2] rfl ?_
    exact hk45 h11
theorem p_X10_bestRow {l : Launch} {E : aE} (hl : l.stackTraces = false) (x1 : Nat) (x2 : Int32) (x3 : Int32) (h0 : aH) : MO (fun (v : Int32) => .inl (some (.int v))) l E yX10_bestRow (.code yX10_bestRow cX10_bestRow 7 (some .int)) 1 30 [.ref (e_z E + x1), .int x2, .int x3] h0 (m_X10_bestRow x1 x2 x3 h0) := g_met hl (by decide +kernel) (Nat.le_of_ble_eq_true rfl) (b_X10_bestRow hl _ _ x1 x2 x3 h0)
theorem dX10_endAt_0 : decode cX10_endAt 0 = .ok (.aload_n 0, 1) := by decide +kernel
theorem dX10_endAt_1 : decode cX10_endAt 1 = .ok (.iload_n 1, 1) := by decide +kernel
theorem dX10_endAt_2 : decode cX10_endAt 2 = .ok (.iload_n 2, 1) := by decide +kernel
theorem dX10_endAt_3 : decode cX10_endAt 3 = .ok (.invokevirtual 160, 3) := by decide +kernel
theorem dX10_endAt_6 : decode cX10_endAt 6 = .ok (.istore_n 3, 1) := by decide +kernel
theorem dX10_endAt_7 : decode cX10_endAt 7 = .ok (.iload_n 3, 1) := by decide +kernel
theorem dX10_endAt_8 : decode cX10_endAt 8 = .ok (.ifCond .le 16, 3) := by decide +kernel
theorem dX10_endAt_11 : decode cX10_endAt 11 = .ok (.aload_n 0, 1) := by decide +kernel
theorem dX10_endAt_12 : decode cX10_endAt 12 = .ok (.getfield 33, 3) := by decide +kernel
theorem dX10_endAt_15 : decode cX10_endAt 15 = .ok (.iload_n 1, 1) := by decide +kernel
theorem dX10_endAt_16 : decode cX10_endAt 16 = .ok (.iconst 3, 1) := by decide +kernel
theorem dX10_endAt_17 : decode cX10_endAt 17 = .ok (.imul, 1) := by decide +kernel
theorem dX10_endAt_18 : decode cX10_endAt 18 = .ok (.iload_n 3, 1) := by decide +kernel
theorem dX10_endAt_19 : decode cX10_endAt 19 = .ok (.iadd, 1) := by decide +kernel
theorem dX10_endAt_20 : decode cX10_endAt 20 = .ok (.iconst 1, 1) := by decide +kernel
theorem dX10_endAt_21 : decode cX10_endAt 21 = .ok (.isub, 1) := by decide +kernel
theorem dX10_endAt_22 : decode cX10_endAt 22 = .ok (.iaload, 1) := by decide +kernel
theorem dX10_endAt_23 : decode cX10_endAt 23 = .ok (.ireturn, 1) := by decide +kernel
theorem dX10_endAt_24 : decode cX10_endAt 24 = .ok (.iconst 1, 1) := by decide +kernel
theorem dX10_endAt_25 : decode cX10_endAt 25 = .ok (.aload_n 0, 1) := by decide +kernel
theorem dX10_endAt_26 : decode cX10_endAt 26 = .ok (.getfield 52, 3) := by decide +kernel
theorem dX10_endAt_29 : decode cX10_endAt 29 = .ok (.getfield 81, 3) := by decide +kernel
theorem dX10_endAt_32 : decode cX10_endAt 32 = .ok (.iload_n 1, 1) := by decide +kernel
theorem dX10_endAt_33 : decode cX10_endAt 33 = .ok (.aaload, 1) := by decide +kernel
theorem dX10_endAt_34 : decode cX10_endAt 34 = .ok (.getfield 154, 3) := by decide +kernel
theorem dX10_endAt_37 : decode cX10_endAt 37 = .ok (.invokestatic 72, 3) := by decide +kernel
theorem dX10_endAt_40 : decode cX10_endAt 40 = .ok (.istore 4, 2) := by decide +kernel
theorem dX10_endAt_42 : decode cX10_endAt 42 = .ok (.iload_n 2, 1) := by decide +kernel
theorem dX10_endAt_43 : decode cX10_endAt 43 = .ok (.iload 4, 2) := by decide +kernel
theorem dX10_endAt_45 : decode cX10_endAt 45 = .ok (.idiv, 1) := by decide +kernel
theorem dX10_endAt_46 : decode cX10_endAt 46 = .ok (.iconst 1, 1) := by decide +kernel
theorem dX10_endAt_47 : decode cX10_endAt 47 = .ok (.iadd, 1) := by decide +kernel
theorem dX10_endAt_48 : decode cX10_endAt 48 = .ok (.iload 4, 2) := by decide +kernel
theorem dX10_endAt_50 : decode cX10_endAt 50 = .ok (.imul, 1) := by decide +kernel
theorem dX10_endAt_51 : decode cX10_endAt 51 = .ok (.ireturn, 1) := by decide +kernel
abbrev M_X10_endAt : aM := (yX10_endAt.cls, cX10_endAt, 5, (some .int), [], yX10_endAt.name == "<init>")
abbrev J_X10_endAt (l : Launch) (E : aE) (n0 m0 : Nat) := GG (fun (v : Int32) => .inl (some (.int v))) l E M_X10_endAt 1 30 n0 m0
theorem b_X10_endAt {l : Launch} {E : aE} (hl : l.stackTraces = false) (n0 m0 : Nat) (x1 : Nat) (x2 : Int32) (x3 : Int32) (h0 : aH) : J_X10_endAt l E n0 m0 0 [(0, .ref (e_z E + x1)), (1, .int x2), (2, .int x3)] [] h0 (m_X10_endAt x1 x2 x3 h0) := by
  unfold m_X10_endAt
  refine g_aload_n (pc := 0) dX10_endAt_0 0 rfl ?_
  refine g_iload_n (pc := 1) dX10_endAt_1 1 rfl ?_
  refine g_iload_n (pc := 2) dX10_endAt_2 2 rfl ?_
  refine g_gS (fun hs => ?_)
  refine g_bRi (pc := 3) (c_V cl10 hs (p_X10_handOnsAt hl x1 x2 x3 h0) y_X10_handOnsAt tw1058 dX10_endAt_3 rfl (st := []) rfl (Nat.le_of_ble_eq_true rfl) (Nat.le_of_ble_eq_true rfl) (Nat.le_of_ble_eq_true rfl)) (fun x4 h1 => ?_)
  refine g_istore_n (pc := 6) (lv' := [(3, .int x4), (0, .ref (e_z E + x1)), (1, .int x2), (2, .int x3)]) dX10_endAt_6 (Nat.le_of_ble_eq_true rfl) rfl ?_
  refine g_iload_n (pc := 7) dX10_endAt_7 0 rfl ?_
  refine g_ifle (pc := 8) (tgt := 24) dX10_endAt_8 rfl ?_ ?_
  · refine g_iconst (pc := 24) dX10_endAt_24 ci_1 ?_
    refine g_aload_n (pc := 25) dX10_endAt_25 1 rfl ?_
    refine g_getr (pc := 26) cl10 (Nat.le_of_ble_eq_true rfl) fk348 (fun _ _ _ => rfl) dX10_endAt_26 (fun x5 => ?_)
    refine g_getr (pc := 29) cl8 (Nat.le_of_ble_eq_true rfl) fk257 (fun _ _ _ => rfl) dX10_endAt_29 (fun x6 => ?_)
    refine g_iload_n (pc := 32) dX10_endAt_32 2 rfl ?_
    refine g_aald (pc := 33) (t := 6) (Nat.le_of_ble_eq_true rfl) (Nat.le_of_ble_eq_true rfl) dX10_endAt_33 (fun x7 => ?_)
    refine g_geti (pc := 34) cl6 (Nat.le_of_ble_eq_true rfl) fk144 (fun _ _ _ => rfl) dX10_endAt_34 (fun x8 => ?_)
    refine g_mmax (pc := 37) tw851 tw852 tw19 tw853 (Nat.le_of_ble_eq_true rfl) (Nat.le_of_ble_eq_true rfl) dX10_endAt_37 ?_
    refine g_topi (fun x9 => ?_)
    refine g_istore (pc := 40) (lv' := [(4, .int x9), (3, .int x4), (0, .ref (e_z E + x1)), (1, .int x2), (2, .int x3)]) dX10_endAt_40 (Nat.le_of_ble_eq_true rfl) rfl ?_
    refine g_iload_n (pc := 42) dX10_endAt_42 4 rfl ?_
    refine g_iload (pc := 43) dX10_endAt_43 0 rfl ?_
    refine g_idiv (pc := 45) dX10_endAt_45 (fun x10 => ?_)
    refine g_iconst (pc := 46) dX10_endAt_46 ci_1 ?_
    refine g_iadd (pc := 47) dX10_endAt_47 ?_
    refine g_iload (pc := 48) dX10_endAt_48 0 rfl ?_
    refine g_imul (pc := 50) dX10_endAt_50 ?_
    exact g_ret (pc := 51) rfl (isRet_i _) dX10_endAt_51 rfl
  · refine g_aload_n (pc := 11) dX10_endAt_11 1 rfl ?_
    refine g_getr (pc := 12) cl10 (Nat.le_of_ble_eq_true rfl) fk369 (fun _ _ _ => rfl) dX10_endAt_12 (fun x11 => ?_)
    refine g_iload_n (pc := 15) dX10_endAt_15 2 rfl ?_
    refine g_iconst (pc := 16) dX10_endAt_16 ci_3 ?_
    refine g_imul (pc := 17) dX10_endAt_17 ?_
    refine g_iload_n (pc := 18) dX10_endAt_18 0 rfl ?_
    refine g_iadd (pc := 19) dX10_endAt_19 ?_
    refine g_iconst (pc := 20) dX10_endAt_20 ci_1 ?_
    refine g_isub (pc := 21) dX10_endAt_21 ?_
    refine g_iald (pc := 22) dX10_endAt_22 (fun x12 => ?_)
    exact g_ret (pc := 23) rfl (isRet_i _) dX10_endAt_23 rfl
theorem p_X10_endAt {l : Launch} {E : aE} (hl : l.stackTraces = false) (x1 : Nat) (x2 : Int32) (x3 : Int32) (h0 : aH) : MO (fun (v : Int32) => .inl (some (.int v))) l E yX10_endAt (.code yX10_endAt cX10_endAt 5 (some .int)) 1 30 [.ref (e_z E + x1), .int x2, .int x3] h0 (m_X10_endAt x1 x2 x3 h0) := g_met hl (by decide +kernel) (Nat.le_of_ble_eq_true rfl) (b_X10_endAt hl _ _ x1 x2 x3 h0)
theorem dX10_isInChain_0 : decode cX10_isInChain 0 = .ok (.iconst 0, 1) := by decide +kernel
theorem dX10_isInChain_1 : decode cX10_isInChain 1 = .ok (.istore_n 3, 1) := by decide +kernel
theorem dX10_isInChain_2 : decode cX10_isInChain 2 = .ok (.iload_n 3, 1) := by decide +kernel
theorem dX10_isInChain_3 : decode cX10_isInChain 3 = .ok (.aload_n 0, 1) := by decide +kernel
theorem dX10_isInChain_4 : decode cX10_isInChain 4 = .ok (.getfield 27, 3) := by decide +kernel
theorem dX10_isInChain_7 : decode cX10_isInChain 7 = .ok (.iload_n 1, 1) := by decide +kernel
theorem dX10_isInChain_8 : decode cX10_isInChain 8 = .ok (.iaload, 1) := by decide +kernel
theorem dX10_isInChain_9 : decode cX10_isInChain 9 = .ok (.if_icmp .gt 21, 3) := by decide +kernel
theorem dX10_isInChain_12 : decode cX10_isInChain 12 = .ok (.aload_n 0, 1) := by decide +kernel
theorem dX10_isInChain_13 : decode cX10_isInChain 13 = .ok (.iload_n 1, 1) := by decide +kernel
theorem dX10_isInChain_14 : decode cX10_isInChain 14 = .ok (.iload_n 3, 1) := by decide +kernel
theorem dX10_isInChain_15 : decode cX10_isInChain 15 = .ok (.invokevirtual 166, 3) := by decide +kernel
theorem dX10_isInChain_18 : decode cX10_isInChain 18 = .ok (.iload_n 2, 1) := by decide +kernel
theorem dX10_isInChain_19 : decode cX10_isInChain 19 = .ok (.if_icmp .ne 5, 3) := by decide +kernel
theorem dX10_isInChain_22 : decode cX10_isInChain 22 = .ok (.iconst 1, 1) := by decide +kernel
theorem dX10_isInChain_23 : decode cX10_isInChain 23 = .ok (.ireturn, 1) := by decide +kernel
theorem dX10_isInChain_24 : decode cX10_isInChain 24 = .ok (.iinc 3 1, 3) := by decide +kernel
theorem dX10_isInChain_27 : decode cX10_isInChain 27 = .ok (.goto (-25), 3) := by decide +kernel
theorem dX10_isInChain_30 : decode cX10_isInChain 30 = .ok (.iconst 0, 1) := by decide +kernel
theorem dX10_isInChain_31 : decode cX10_isInChain 31 = .ok (.ireturn, 1) := by decide +kernel
abbrev M_X10_isInChain : aM := (yX10_isInChain.cls, cX10_isInChain, 4, (some .boolean), [], yX10_isInChain.name == "<init>")
abbrev J_X10_isInChain (l : Launch) (E : aE) (n0 m0 : Nat) := GG (fun (v : Int32) => .inl (some (.int v))) l E M_X10_isInChain 3 75 n0 m0
theorem b_X10_isInChain {l : Launch} {E : aE} (hl : l.stackTraces = false) (n0 m0 : Nat) (x1 : Nat) (x2 : Int32) (x3 : Int32) (h0 : aH) : J_X10_isInChain l E n0 m0 0 [(0, .ref (e_z E + x1)), (1, .int x2), (2, .int x3)] [] h0 (m_X10_isInChain x1 x2 x3 h0) := by
  unfold m_X10_isInChain
  refine g_iconst (pc := 0) dX10_isInChain_0 ci_0 ?_
  refine g_istore_n (pc := 1) (lv' := [(3, .int (0 : Int32)), (0, .ref (e_z E + x1)), (1, .int x2), (2, .int x3)]) dX10_isInChain_1 (Nat.le_of_ble_eq_true rfl) rfl ?_
  refine g_join (fun k => ∀ (h1 : aH), J_X10_isInChain l E n0 m0 30 [] [] h1 (k h1)) (fun h1 => ?_) (fun k30 hk30 => ?_)
  · refine g_iconst (pc := 30) dX10_isInChain_30 ci_0 ?_
    exact g_ret (pc := 31) rfl (isRet_z (Or.inl rfl)) dX10_isInChain_31 rfl
  refine g_join (fun k => ∀ (h2 : aH), J_X10_isInChain l E n0 m0 22 [] [] h2 (k h2)) (fun h2 => ?_) (fun k22 hk22 => ?_)
  · refine g_iconst (pc := 22) dX10_isInChain_22 ci_1 ?_
    exact g_ret (pc := 23) rfl (isRet_z (Or.inr rfl)) dX10_isInChain_23 rfl
  refine g_lv [1, 2, 3, 0] rfl ?_
  refine g_loop1 (F := (m_X10_isInChain_L2 x1 x2 x3 k30 k22)) (fun x4 => [(0, .ref (e_z E + x1)), (1, .int x2), (2, .int x3), (3, .int x4)]) (fun r2 hr2 x4 h3 => ?_) _ _ _
  unfold m_X10_isInChain_L2
  refine g_iload_n (pc := 2) dX10_isInChain_2 3 rfl ?_
  refine g_aload_n (pc := 3) dX10_isInChain_3 0 rfl ?_
  refine g_getr (pc := 4) cl10 (Nat.le_of_ble_eq_true rfl) fk365 (fun _ _ _ => rfl) dX10_isInChain_4 (fun x5 => ?_)
  refine g_iload_n (pc := 7) dX10_isInChain_7 1 rfl ?_
  refine g_iald (pc := 8) dX10_isInChain_8 (fun x6 => ?_)
  refine g_icmpgt (pc := 9) (tgt := 30) dX10_isInChain_9 rfl ?_ ?_
  · refine g_aload_n (pc := 12) dX10_isInChain_12 0 rfl ?_
    refine g_iload_n (pc := 13) dX10_isInChain_13 1 rfl ?_
    refine g_iload_n (pc := 14) dX10_isInChain_14 3 rfl ?_
    refine g_gS (fun hs => ?_)
    refine g_bRi (pc := 15) (c_V cl10 hs (p_X10_chainPerson hl x1 x2 x4 h3) y_X10_chainPerson tw1111 dX10_isInChain_15 rfl (st := []) rfl (Nat.le_of_ble_eq_true rfl) (Nat.le_of_ble_eq_true rfl) (Nat.le_of_ble_eq_true rfl)) (fun x7 h4 => ?_)
    refine g_iload_n (pc := 18) dX10_isInChain_18 2 rfl ?_
    refine g_icmpne (pc := 19) (tgt := 24) dX10_isInChain_19 rfl ?_ ?_
    · refine g_lv [] rfl ?_
      exact hk22 h4
    · refine g_iincN (pc := 24) dX10_isInChain_24 3 rfl ci_1 (Nat.le_of_ble_eq_true rfl) (fun x8 => ?_)
      refine g_lvr (lv' := [(3, .int x8), (0, .ref (e_z E + x1)), (1, .int x2), (2, .int x3)]) rfl ?_
      refine g_goto (pc := 27) (tgt := 2) dX10_isInChain_27 rfl ?_
      refine g_lv [1, 2, 3, 0] rfl ?_
      exact hr2 x8 h4
  · refine g_lv [] rfl ?_
    exact hk30 h3
theorem p_X10_isInChain {l : Launch} {E : aE} (hl : l.stackTraces = false) (x1 : Nat) (x2 : Int32) (x3 : Int32) (h0 : aH) : MO (fun (v : Int32) => .inl (some (.int v))) l E yX10_isInChain (.code yX10_isInChain cX10_isInChain 4 (some .boolean)) 3 75 [.ref (e_z E + x1), .int x2, .int x3] h0 (m_X10_isInChain x1 x2 x3 h0) := g_met hl (by decide +kernel) (Nat.le_of_ble_eq_true rfl) (b_X10_isInChain hl _ _ x1 x2 x3 h0)
theorem dX10_isTrustedByChain_0 : decode cX10_isTrustedByChain 0 = .ok (.iconst 0, 1) := by decide +kernel
theorem dX10_isTrustedByChain_1 : decode cX10_isTrustedByChain 1 = .ok (.istore_n 3, 1) := by decide +kernel
theorem dX10_isTrustedByChain_2 : decode cX10_isTrustedByChain 2 = .ok (.iload_n 3, 1) := by decide +kernel
theorem dX10_isTrustedByChain_3 : decode cX10_isTrustedByChain 3 = .ok (.aload_n 0, 1) := by decide +kernel
theorem dX10_isTrustedByChain_4 : decode cX10_isTrustedByChain 4 = .ok (.getfield 27, 3) := by decide +kernel
theorem dX10_isTrustedByChain_7 : decode cX10_isTrustedByChain 7 = .ok (.iload_n 1, 1) := by decide +kernel
theorem dX10_isTrustedByChain_8 : decode cX10_isTrustedByChain 8 = .ok (.iaload, 1) := by decide +kernel
theorem dX10_isTrustedByChain_9 : decode cX10_isTrustedByChain 9 = .ok (.if_icmp .gt 41, 3) := by decide +kernel
theorem dX10_isTrustedByChain_12 : decode cX10_isTrustedByChain 12 = .ok (.aload_n 0, 1) := by decide +kernel
theorem dX10_isTrustedByChain_13 : decode cX10_isTrustedByChain 13 = .ok (.getfield 21, 3) := by decide +kernel
theorem dX10_isTrustedByChain_16 : decode cX10_isTrustedByChain 16 = .ok (.aload_n 0, 1) := by decide +kernel
theorem dX10_isTrustedByChain_17 : decode cX10_isTrustedByChain 17 = .ok (.iload_n 1, 1) := by decide +kernel
theorem dX10_isTrustedByChain_18 : decode cX10_isTrustedByChain 18 = .ok (.iload_n 3, 1) := by decide +kernel
theorem dX10_isTrustedByChain_19 : decode cX10_isTrustedByChain 19 = .ok (.invokevirtual 166, 3) := by decide +kernel
theorem dX10_isTrustedByChain_22 : decode cX10_isTrustedByChain 22 = .ok (.iload_n 2, 1) := by decide +kernel
theorem dX10_isTrustedByChain_23 : decode cX10_isTrustedByChain 23 = .ok (.invokestatic 151, 3) := by decide +kernel
theorem dX10_isTrustedByChain_26 : decode cX10_isTrustedByChain 26 = .ok (.iaload, 1) := by decide +kernel
theorem dX10_isTrustedByChain_27 : decode cX10_isTrustedByChain 27 = .ok (.aload_n 0, 1) := by decide +kernel
theorem dX10_isTrustedByChain_28 : decode cX10_isTrustedByChain 28 = .ok (.getfield 52, 3) := by decide +kernel
theorem dX10_isTrustedByChain_31 : decode cX10_isTrustedByChain 31 = .ok (.getfield 81, 3) := by decide +kernel
theorem dX10_isTrustedByChain_34 : decode cX10_isTrustedByChain 34 = .ok (.iload_n 1, 1) := by decide +kernel
theorem dX10_isTrustedByChain_35 : decode cX10_isTrustedByChain 35 = .ok (.aaload, 1) := by decide +kernel
theorem dX10_isTrustedByChain_36 : decode cX10_isTrustedByChain 36 = .ok (.getfield 169, 3) := by decide +kernel
theorem dX10_isTrustedByChain_39 : decode cX10_isTrustedByChain 39 = .ok (.if_icmp .ge 5, 3) := by decide +kernel
theorem dX10_isTrustedByChain_42 : decode cX10_isTrustedByChain 42 = .ok (.iconst 0, 1) := by decide +kernel
theorem dX10_isTrustedByChain_43 : decode cX10_isTrustedByChain 43 = .ok (.ireturn, 1) := by decide +kernel
theorem dX10_isTrustedByChain_44 : decode cX10_isTrustedByChain 44 = .ok (.iinc 3 1, 3) := by decide +kernel
theorem dX10_isTrustedByChain_47 : decode cX10_isTrustedByChain 47 = .ok (.goto (-45), 3) := by decide +kernel
theorem dX10_isTrustedByChain_50 : decode cX10_isTrustedByChain 50 = .ok (.iconst 1, 1) := by decide +kernel
theorem dX10_isTrustedByChain_51 : decode cX10_isTrustedByChain 51 = .ok (.ireturn, 1) := by decide +kernel
abbrev M_X10_isTrustedByChain : aM := (yX10_isTrustedByChain.cls, cX10_isTrustedByChain, 4, (some .boolean), [], yX10_isTrustedByChain.name == "<init>")
abbrev J_X10_isTrustedByChain (l : Launch) (E : aE) (n0 m0 : Nat) := GG (fun (v : Int32) => .inl (some (.int v))) l E M_X10_isTrustedByChain 3 75 n0 m0
theorem b_X10_isTrustedByChain {l : Launch} {E : aE} (hl : l.stackTraces = false) (n0 m0 : Nat) (x1 : Nat) (x2 : Int32) (x3 : Int32) (h0 : aH) : J_X10_isTrustedByChain l E n0 m0 0 [(0, .ref (e_z E + x1)), (1, .int x2), (2, .int x3)] [] h0 (m_X10_isTrustedByChain x1 x2 x3 h0) := by
  unfold m_X10_isTrustedByChain
  refine g_iconst (pc := 0) dX10_isTrustedByChain_0 ci_0 ?_
  refine g_istore_n (pc := 1) (lv' := [(3, .int (0 : Int32)), (0, .ref (e_z E + x1)), (1, .int x2), (2, .int x3)]) dX10_isTrustedByChain_1 (Nat.le_of_ble_eq_true rfl) rfl ?_
  refine g_join (fun k => ∀ (h1 : aH), J_X10_isTrustedByChain l E n0 m0 50 [] [] h1 (k h1)) (fun h1 => ?_) (fun k50 hk50 => ?_)
  · refine g_iconst (pc := 50) dX10_isTrustedByChain_50 ci_1 ?_
    exact g_ret (pc := 51) rfl (isRet_z (Or.inr rfl)) dX10_isTrustedByChain_51 rfl
  refine g_join (fun k => ∀ (h2 : aH), J_X10_isTrustedByChain l E n0 m0 42 [] [] h2 (k h2)) (fun h2 => ?_) (fun k42 hk42 => ?_)
  · refine g_iconst (pc := 42) dX10_isTrustedByChain_42 ci_0 ?_
    exact g_ret (pc := 43) rfl (isRet_z (Or.inl rfl)) dX10_isTrustedByChain_43 rfl
  refine g_lv [1, 2, 3, 0] rfl ?_
  refine g_loop1 (F := (m_X10_isTrustedByChain_L2 x1 x2 x3 k50 k42)) (fun x4 => [(0, .ref (e_z E + x1)), (1, .int x2), (2, .int x3), (3, .int x4)]) (fun r2 hr2 x4 h3 => ?_) _ _ _
  unfold m_X10_isTrustedByChain_L2
  refine g_iload_n (pc := 2) dX10_isTrustedByChain_2 3 rfl ?_
  refine g_aload_n (pc := 3) dX10_isTrustedByChain_3 0 rfl ?_
  refine g_getr (pc := 4) cl10 (Nat.le_of_ble_eq_true rfl) fk365 (fun _ _ _ => rfl) dX10_isTrustedByChain_4 (fun x5 => ?_)
  refine g_iload_n (pc := 7) dX10_isTrustedByChain_7 1 rfl ?_
  refine g_iald (pc := 8) dX10_isTrustedByChain_8 (fun x6 => ?_)
  refine g_icmpgt (pc := 9) (tgt := 50) dX10_isTrustedByChain_9 rfl ?_ ?_
  · refine g_aload_n (pc := 12) dX10_isTrustedByChain_12 0 rfl ?_
    refine g_getr (pc := 13) cl10 (Nat.le_of_ble_eq_true rfl) fk361 (fun _ _ _ => rfl) dX10_isTrustedByChain_13 (fun x7 => ?_)
    refine g_aload_n (pc := 16) dX10_isTrustedByChain_16 0 rfl ?_
    refine g_iload_n (pc := 17) dX10_isTrustedByChain_17 1 rfl ?_
    refine g_iload_n (pc := 18) dX10_isTrustedByChain_18 3 rfl ?_
    refine g_gS (fun hs => ?_)
    refine g_bRi (pc := 19) (c_V cl10 hs (p_X10_chainPerson hl x1 x2 x4 h3) y_X10_chainPerson tw1111 dX10_isTrustedByChain_19 rfl (st := [.ref (e_z E + x7)]) rfl (Nat.le_of_ble_eq_true rfl) (Nat.le_of_ble_eq_true rfl) (Nat.le_of_ble_eq_true rfl)) (fun x8 h4 => ?_)
    refine g_iload_n (pc := 22) dX10_isTrustedByChain_22 2 rfl ?_
    refine g_bRi (pc := 23) (c_SN (p_X11_pair hl x8 x3 h4) y_X11_pair tw1018 dX10_isTrustedByChain_23 rfl (st := [.ref (e_z E + x7)]) rfl (Nat.le_of_ble_eq_true rfl) (Nat.le_of_ble_eq_true rfl) (Nat.le_of_ble_eq_true rfl)) (fun x9 h5 => ?_)
    refine g_iald (pc := 26) dX10_isTrustedByChain_26 (fun x10 => ?_)
    refine g_aload_n (pc := 27) dX10_isTrustedByChain_27 0 rfl ?_
    refine g_getr (pc := 28) cl10 (Nat.le_of_ble_eq_true rfl) fk348 (fun _ _ _ => rfl) dX10_isTrustedByChain_28 (fun x11 => ?_)
    refine g_getr (pc := 31) cl8 (Nat.le_of_ble_eq_true rfl) fk257 (fun _ _ _ => rfl) dX10_isTrustedByChain_31 (fun x12 => ?_)
    refine g_iload_n (pc := 34) dX10_isTrustedByChain_34 1 rfl ?_
    refine g_aald (pc := 35) (t := 6) (Nat.le_of_ble_eq_true rfl) (Nat.le_of_ble_eq_true rfl) dX10_isTrustedByChain_35 (fun x13 => ?_)
    refine g_geti (pc := 36) cl6 (Nat.le_of_ble_eq_true rfl) fk142 (fun _ _ _ => rfl) dX10_isTrustedByChain_36 (fun x14 => ?_)
    refine g_icmpge (pc := 39) (tgt := 44) dX10_isTrustedByChain_39 rfl ?_ ?_
    · refine g_lv [] rfl ?_
      exact hk42 h5
    · refine g_iincN (pc := 44) dX10_isTrustedByChain_44 3 rfl ci_1 (Nat.le_of_ble_eq_true rfl) (fun x15 => ?_)
      refine g_lvr (lv' := [(3, .int x15), (0, .ref (e_z E + x1)), (1, .int x2), (2, .int x3)]) rfl ?_
      refine g_goto (pc := 47) (tgt := 2) dX10_isTrustedByChain_47 rfl ?_
      refine g_lv [1, 2, 3, 0] rfl ?_
      exact hr2 x15 h5
  · refine g_lv [] rfl ?_
    exact hk50 h3
theorem p_X10_isTrustedByChain {l : Launch} {E : aE} (hl : l.stackTraces = false) (x1 : Nat) (x2 : Int32) (x3 : Int32) (h0 : aH) : MO (fun (v : Int32) => .inl (some (.int v))) l E yX10_isTrustedByChain (.code yX10_isTrustedByChain cX10_isTrustedByChain 4 (some .boolean)) 3 75 [.ref (e_z E + x1), .int x2, .int x3] h0 (m_X10_isTrustedByChain x1 x2 x3 h0) := g_met hl (by decide +kernel) (Nat.le_of_ble_eq_true rfl) (b_X10_isTrustedByChain hl _ _ x1 x2 x3 h0)
theorem dX10_reasonAgainst_0 : decode cX10_reasonAgainst 0 = .ok (.aload_n 0, 1) := by decide +kernel
theorem dX10_reasonAgainst_1 : decode cX10_reasonAgainst 1 = .ok (.aload_n 0, 1) := by decide +kernel
theorem dX10_reasonAgainst_2 : decode cX10_reasonAgainst 2 = .ok (.iload_n 1, 1) := by decide +kernel
theorem dX10_reasonAgainst_3 : decode cX10_reasonAgainst 3 = .ok (.aload_n 0, 1) := by decide +kernel
theorem dX10_reasonAgainst_4 : decode cX10_reasonAgainst 4 = .ok (.getfield 27, 3) := by decide +kernel
theorem dX10_reasonAgainst_7 : decode cX10_reasonAgainst 7 = .ok (.iload_n 1, 1) := by decide +kernel
theorem dX10_reasonAgainst_8 : decode cX10_reasonAgainst 8 = .ok (.iaload, 1) := by decide +kernel
theorem dX10_reasonAgainst_9 : decode cX10_reasonAgainst 9 = .ok (.invokevirtual 166, 3) := by decide +kernel
theorem dX10_reasonAgainst_12 : decode cX10_reasonAgainst 12 = .ok (.invokevirtual 172, 3) := by decide +kernel
theorem dX10_reasonAgainst_15 : decode cX10_reasonAgainst 15 = .ok (.ifCond .eq 5, 3) := by decide +kernel
theorem dX10_reasonAgainst_18 : decode cX10_reasonAgainst 18 = .ok (.iconst 1, 1) := by decide +kernel
theorem dX10_reasonAgainst_19 : decode cX10_reasonAgainst 19 = .ok (.ireturn, 1) := by decide +kernel
theorem dX10_reasonAgainst_20 : decode cX10_reasonAgainst 20 = .ok (.aload_n 0, 1) := by decide +kernel
theorem dX10_reasonAgainst_21 : decode cX10_reasonAgainst 21 = .ok (.iload_n 1, 1) := by decide +kernel
theorem dX10_reasonAgainst_22 : decode cX10_reasonAgainst 22 = .ok (.iload_n 2, 1) := by decide +kernel
theorem dX10_reasonAgainst_23 : decode cX10_reasonAgainst 23 = .ok (.invokevirtual 175, 3) := by decide +kernel
theorem dX10_reasonAgainst_26 : decode cX10_reasonAgainst 26 = .ok (.ifCond .eq 5, 3) := by decide +kernel
theorem dX10_reasonAgainst_29 : decode cX10_reasonAgainst 29 = .ok (.iconst 2, 1) := by decide +kernel
theorem dX10_reasonAgainst_30 : decode cX10_reasonAgainst 30 = .ok (.ireturn, 1) := by decide +kernel
theorem dX10_reasonAgainst_31 : decode cX10_reasonAgainst 31 = .ok (.aload_n 0, 1) := by decide +kernel
theorem dX10_reasonAgainst_32 : decode cX10_reasonAgainst 32 = .ok (.getfield 66, 3) := by decide +kernel
theorem dX10_reasonAgainst_35 : decode cX10_reasonAgainst 35 = .ok (.iload_n 2, 1) := by decide +kernel
theorem dX10_reasonAgainst_36 : decode cX10_reasonAgainst 36 = .ok (.invokestatic 179, 3) := by decide +kernel
theorem dX10_reasonAgainst_39 : decode cX10_reasonAgainst 39 = .ok (.ifCond .eq 5, 3) := by decide +kernel
theorem dX10_reasonAgainst_42 : decode cX10_reasonAgainst 42 = .ok (.iconst 3, 1) := by decide +kernel
theorem dX10_reasonAgainst_43 : decode cX10_reasonAgainst 43 = .ok (.ireturn, 1) := by decide +kernel
theorem dX10_reasonAgainst_44 : decode cX10_reasonAgainst 44 = .ok (.aload_n 0, 1) := by decide +kernel
theorem dX10_reasonAgainst_45 : decode cX10_reasonAgainst 45 = .ok (.iload_n 2, 1) := by decide +kernel
theorem dX10_reasonAgainst_46 : decode cX10_reasonAgainst 46 = .ok (.invokevirtual 172, 3) := by decide +kernel
theorem dX10_reasonAgainst_49 : decode cX10_reasonAgainst 49 = .ok (.ifCond .eq 5, 3) := by decide +kernel
theorem dX10_reasonAgainst_52 : decode cX10_reasonAgainst 52 = .ok (.iconst 4, 1) := by decide +kernel
theorem dX10_reasonAgainst_53 : decode cX10_reasonAgainst 53 = .ok (.ireturn, 1) := by decide +kernel
theorem dX10_reasonAgainst_54 : decode cX10_reasonAgainst 54 = .ok (.aload_n 0, 1) := by decide +kernel
theorem dX10_reasonAgainst_55 : decode cX10_reasonAgainst 55 = .ok (.iload_n 2, 1) := by decide +kernel
theorem dX10_reasonAgainst_56 : decode cX10_reasonAgainst 56 = .ok (.invokevirtual 126, 3) := by decide +kernel
theorem dX10_reasonAgainst_59 : decode cX10_reasonAgainst 59 = .ok (.ifCond .eq 5, 3) := by decide +kernel
theorem dX10_reasonAgainst_62 : decode cX10_reasonAgainst 62 = .ok (.iconst 5, 1) := by decide +kernel
theorem dX10_reasonAgainst_63 : decode cX10_reasonAgainst 63 = .ok (.ireturn, 1) := by decide +kernel
theorem dX10_reasonAgainst_64 : decode cX10_reasonAgainst 64 = .ok (.aload_n 0, 1) := by decide +kernel
theorem dX10_reasonAgainst_65 : decode cX10_reasonAgainst 65 = .ok (.iload_n 1, 1) := by decide +kernel
theorem dX10_reasonAgainst_66 : decode cX10_reasonAgainst 66 = .ok (.iload_n 2, 1) := by decide +kernel
theorem dX10_reasonAgainst_67 : decode cX10_reasonAgainst 67 = .ok (.invokevirtual 182, 3) := by decide +kernel
theorem dX10_reasonAgainst_70 : decode cX10_reasonAgainst 70 = .ok (.ifCond .ne 6, 3) := by decide +kernel
theorem dX10_reasonAgainst_73 : decode cX10_reasonAgainst 73 = .ok (.bipush 6, 2) := by decide +kernel
theorem dX10_reasonAgainst_75 : decode cX10_reasonAgainst 75 = .ok (.ireturn, 1) := by decide +kernel
theorem dX10_reasonAgainst_76 : decode cX10_reasonAgainst 76 = .ok (.aload_n 0, 1) := by decide +kernel
theorem dX10_reasonAgainst_77 : decode cX10_reasonAgainst 77 = .ok (.getfield 27, 3) := by decide +kernel
theorem dX10_reasonAgainst_80 : decode cX10_reasonAgainst 80 = .ok (.iload_n 1, 1) := by decide +kernel
theorem dX10_reasonAgainst_81 : decode cX10_reasonAgainst 81 = .ok (.iaload, 1) := by decide +kernel
theorem dX10_reasonAgainst_82 : decode cX10_reasonAgainst 82 = .ok (.iconst 3, 1) := by decide +kernel
theorem dX10_reasonAgainst_83 : decode cX10_reasonAgainst 83 = .ok (.if_icmp .lt 6, 3) := by decide +kernel
theorem dX10_reasonAgainst_86 : decode cX10_reasonAgainst 86 = .ok (.bipush 7, 2) := by decide +kernel
theorem dX10_reasonAgainst_88 : decode cX10_reasonAgainst 88 = .ok (.ireturn, 1) := by decide +kernel
theorem dX10_reasonAgainst_89 : decode cX10_reasonAgainst 89 = .ok (.iload_n 3, 1) := by decide +kernel
theorem dX10_reasonAgainst_90 : decode cX10_reasonAgainst 90 = .ok (.aload_n 0, 1) := by decide +kernel
theorem dX10_reasonAgainst_91 : decode cX10_reasonAgainst 91 = .ok (.getfield 56, 3) := by decide +kernel
theorem dX10_reasonAgainst_94 : decode cX10_reasonAgainst 94 = .ok (.if_icmp .le 16, 3) := by decide +kernel
theorem dX10_reasonAgainst_97 : decode cX10_reasonAgainst 97 = .ok (.iload_n 3, 1) := by decide +kernel
theorem dX10_reasonAgainst_98 : decode cX10_reasonAgainst 98 = .ok (.aload_n 0, 1) := by decide +kernel
theorem dX10_reasonAgainst_99 : decode cX10_reasonAgainst 99 = .ok (.iload_n 1, 1) := by decide +kernel
theorem dX10_reasonAgainst_100 : decode cX10_reasonAgainst 100 = .ok (.aload_n 0, 1) := by decide +kernel
theorem dX10_reasonAgainst_101 : decode cX10_reasonAgainst 101 = .ok (.getfield 56, 3) := by decide +kernel
theorem dX10_reasonAgainst_104 : decode cX10_reasonAgainst 104 = .ok (.invokevirtual 185, 3) := by decide +kernel
theorem dX10_reasonAgainst_107 : decode cX10_reasonAgainst 107 = .ok (.if_icmp .le 8, 3) := by decide +kernel
theorem dX10_reasonAgainst_110 : decode cX10_reasonAgainst 110 = .ok (.bipush 8, 2) := by decide +kernel
theorem dX10_reasonAgainst_112 : decode cX10_reasonAgainst 112 = .ok (.goto 4, 3) := by decide +kernel
theorem dX10_reasonAgainst_115 : decode cX10_reasonAgainst 115 = .ok (.iconst 0, 1) := by decide +kernel
theorem dX10_reasonAgainst_116 : decode cX10_reasonAgainst 116 = .ok (.ireturn, 1) := by decide +kernel
abbrev M_X10_reasonAgainst : aM := (yX10_reasonAgainst.cls, cX10_reasonAgainst, 4, (some .int), [], yX10_reasonAgainst.name == "<init>")
abbrev J_X10_reasonAgainst (l : Launch) (E : aE) (n0 m0 : Nat) := GG (fun (v : Int32) => .inl (some (.int v))) l E M_X10_reasonAgainst 4 98 n0 m0
theorem b_X10_reasonAgainst {l : Launch} {E : aE} (hl : l.stackTraces = false) (n0 m0 : Nat) (x1 : Nat) (x2 : Int32) (x3 : Int32) (x4 : Int32) (h0 : aH) : J_X10_reasonAgainst l E n0 m0 0 [(0, .ref (e_z E + x1)), (1, .int x2), (2, .int x3), (3, .int x4)] [] h0 (m_X10_reasonAgainst x1 x2 x3 x4 h0) := by
  unfold m_X10_reasonAgainst
  refine g_aload_n (pc := 0) dX10_reasonAgainst_0 0 rfl ?_
  refine g_aload_n (pc := 1) dX10_reasonAgainst_1 0 rfl ?_
  refine g_iload_n (pc := 2) dX10_reasonAgainst_2 1 rfl ?_
  refine g_aload_n (pc := 3) dX10_reasonAgainst_3 0 rfl ?_
  refine g_getr (pc := 4) cl10 (Nat.le_of_ble_eq_true rfl) fk365 (fun _ _ _ => rfl) dX10_reasonAgainst_4 (fun x5 => ?_)
  refine g_iload_n (pc := 7) dX10_reasonAgainst_7 1 rfl ?_
  refine g_iald (pc := 8) dX10_reasonAgainst_8 (fun x6 => ?_)
  refine g_gS (fun hs => ?_)
  refine g_bRi (pc := 9) (c_V cl10 hs (p_X10_chainPerson hl x1 x2 x6 h0) y_X10_chainPerson tw1111 dX10_reasonAgainst_9 rfl (st := [.ref (e_z E + x1)]) rfl (Nat.le_of_ble_eq_true rfl) (Nat.le_of_ble_eq_true rfl) (Nat.le_of_ble_eq_true rfl)) (fun x7 h1 => ?_)
  refine g_gS (fun hs => ?_)
  refine g_bRi (pc := 12) (c_V cl10 hs (p_X10_isOut hl x1 x7 h1) y_X10_isOut tw1112 dX10_reasonAgainst_12 rfl (st := []) rfl (Nat.le_of_ble_eq_true rfl) (Nat.le_of_ble_eq_true rfl) (Nat.le_of_ble_eq_true rfl)) (fun x8 h2 => ?_)
  refine g_ifeq (pc := 15) (tgt := 20) dX10_reasonAgainst_15 rfl ?_ ?_
  · refine g_aload_n (pc := 20) dX10_reasonAgainst_20 0 rfl ?_
    refine g_iload_n (pc := 21) dX10_reasonAgainst_21 1 rfl ?_
    refine g_iload_n (pc := 22) dX10_reasonAgainst_22 2 rfl ?_
    refine g_gS (fun hs => ?_)
    refine g_bRi (pc := 23) (c_V cl10 hs (p_X10_isInChain hl x1 x2 x3 h2) y_X10_isInChain tw1113 dX10_reasonAgainst_23 rfl (st := []) rfl (Nat.le_of_ble_eq_true rfl) (Nat.le_of_ble_eq_true rfl) (Nat.le_of_ble_eq_true rfl)) (fun x9 h3 => ?_)
    refine g_ifeq (pc := 26) (tgt := 31) dX10_reasonAgainst_26 rfl ?_ ?_
    · refine g_aload_n (pc := 31) dX10_reasonAgainst_31 0 rfl ?_
      refine g_geti (pc := 32) cl10 (Nat.le_of_ble_eq_true rfl) fk358 (fun _ _ _ => rfl) dX10_reasonAgainst_32 (fun x10 => ?_)
      refine g_iload_n (pc := 35) dX10_reasonAgainst_35 2 rfl ?_
      refine g_bRi (pc := 36) (c_SN (p_X11_has hl x10 x3 h3) y_X11_has tw1117 dX10_reasonAgainst_36 rfl (st := []) rfl (Nat.le_of_ble_eq_true rfl) (Nat.le_of_ble_eq_true rfl) (Nat.le_of_ble_eq_true rfl)) (fun x11 h4 => ?_)
      refine g_ifeq (pc := 39) (tgt := 44) dX10_reasonAgainst_39 rfl ?_ ?_
      · refine g_aload_n (pc := 44) dX10_reasonAgainst_44 0 rfl ?_
        refine g_iload_n (pc := 45) dX10_reasonAgainst_45 2 rfl ?_
        refine g_gS (fun hs => ?_)
        refine g_bRi (pc := 46) (c_V cl10 hs (p_X10_isOut hl x1 x3 h4) y_X10_isOut tw1112 dX10_reasonAgainst_46 rfl (st := []) rfl (Nat.le_of_ble_eq_true rfl) (Nat.le_of_ble_eq_true rfl) (Nat.le_of_ble_eq_true rfl)) (fun x12 h5 => ?_)
        refine g_ifeq (pc := 49) (tgt := 54) dX10_reasonAgainst_49 rfl ?_ ?_
        · refine g_aload_n (pc := 54) dX10_reasonAgainst_54 0 rfl ?_
          refine g_iload_n (pc := 55) dX10_reasonAgainst_55 2 rfl ?_
          refine g_gS (fun hs => ?_)
          refine g_bRi (pc := 56) (c_V cl10 hs (p_X10_isTired hl x1 x3 h5) y_X10_isTired tw966 dX10_reasonAgainst_56 rfl (st := []) rfl (Nat.le_of_ble_eq_true rfl) (Nat.le_of_ble_eq_true rfl) (Nat.le_of_ble_eq_true rfl)) (fun x13 h6 => ?_)
          refine g_ifeq (pc := 59) (tgt := 64) dX10_reasonAgainst_59 rfl ?_ ?_
          · refine g_aload_n (pc := 64) dX10_reasonAgainst_64 0 rfl ?_
            refine g_iload_n (pc := 65) dX10_reasonAgainst_65 1 rfl ?_
            refine g_iload_n (pc := 66) dX10_reasonAgainst_66 2 rfl ?_
            refine g_gS (fun hs => ?_)
            refine g_bRi (pc := 67) (c_V cl10 hs (p_X10_isTrustedByChain hl x1 x2 x3 h6) y_X10_isTrustedByChain tw1120 dX10_reasonAgainst_67 rfl (st := []) rfl (Nat.le_of_ble_eq_true rfl) (Nat.le_of_ble_eq_true rfl) (Nat.le_of_ble_eq_true rfl)) (fun x14 h7 => ?_)
            refine g_ifne (pc := 70) (tgt := 76) dX10_reasonAgainst_70 rfl ?_ ?_
            · refine g_bipush (pc := 73) dX10_reasonAgainst_73 cb_6 ?_
              exact g_ret (pc := 75) rfl (isRet_i _) dX10_reasonAgainst_75 rfl
            · refine g_aload_n (pc := 76) dX10_reasonAgainst_76 0 rfl ?_
              refine g_getr (pc := 77) cl10 (Nat.le_of_ble_eq_true rfl) fk365 (fun _ _ _ => rfl) dX10_reasonAgainst_77 (fun x15 => ?_)
              refine g_iload_n (pc := 80) dX10_reasonAgainst_80 1 rfl ?_
              refine g_iald (pc := 81) dX10_reasonAgainst_81 (fun x16 => ?_)
              refine g_iconst (pc := 82) dX10_reasonAgainst_82 ci_3 ?_
              refine g_icmplt (pc := 83) (tgt := 89) dX10_reasonAgainst_83 rfl ?_ ?_
              · refine g_iload_n (pc := 89) dX10_reasonAgainst_89 3 rfl ?_
                refine g_aload_n (pc := 90) dX10_reasonAgainst_90 0 rfl ?_
                refine g_geti (pc := 91) cl10 (Nat.le_of_ble_eq_true rfl) fk349 (fun _ _ _ => rfl) dX10_reasonAgainst_91 (fun x17 => ?_)
                refine g_join (fun k => ∀ (x18 : Int32) (h8 : aH), J_X10_reasonAgainst l E n0 m0 116 [] [.int x18] h8 (k x18 h8)) (fun x18 h8 => ?_) (fun k116 hk116 => ?_)
                · exact g_ret (pc := 116) rfl (isRet_i _) dX10_reasonAgainst_116 rfl
                refine g_join (fun k => ∀ (h9 : aH), J_X10_reasonAgainst l E n0 m0 110 [] [] h9 (k h9)) (fun h9 => ?_) (fun k110 hk110 => ?_)
                · refine g_bipush (pc := 110) dX10_reasonAgainst_110 cb_8 ?_
                  refine g_goto (pc := 112) (tgt := 116) dX10_reasonAgainst_112 rfl ?_
                  exact hk116 (8 : Int32) h9
                refine g_icmple (pc := 94) (tgt := 110) dX10_reasonAgainst_94 rfl ?_ ?_
                · refine g_lv [] rfl ?_
                  exact hk110 h7
                · refine g_iload_n (pc := 97) dX10_reasonAgainst_97 3 rfl ?_
                  refine g_aload_n (pc := 98) dX10_reasonAgainst_98 0 rfl ?_
                  refine g_iload_n (pc := 99) dX10_reasonAgainst_99 1 rfl ?_
                  refine g_aload_n (pc := 100) dX10_reasonAgainst_100 0 rfl ?_
                  refine g_geti (pc := 101) cl10 (Nat.le_of_ble_eq_true rfl) fk349 (fun _ _ _ => rfl) dX10_reasonAgainst_101 (fun x19 => ?_)
                  refine g_gS (fun hs => ?_)
                  refine g_bRi (pc := 104) (c_V cl10 hs (p_X10_endAt hl x1 x2 x19 h7) y_X10_endAt tw1098 dX10_reasonAgainst_104 rfl (st := [.int x4]) rfl (Nat.le_of_ble_eq_true rfl) (Nat.le_of_ble_eq_true rfl) (Nat.le_of_ble_eq_true rfl)) (fun x20 h10 => ?_)
                  refine g_icmple (pc := 107) (tgt := 115) dX10_reasonAgainst_107 rfl ?_ ?_
                  · refine g_iconst (pc := 115) dX10_reasonAgainst_115 ci_0 ?_
                    refine g_lv [] rfl ?_
                    exact hk116 (0 : Int32) h10
                  · refine g_lv [] rfl ?_
                    exact hk110 h10
              · refine g_bipush (pc := 86) dX10_reasonAgainst_86 cb_7 ?_
                exact g_ret (pc := 88) rfl (isRet_i _) dX10_reasonAgainst_88 rfl
          · refine g_iconst (pc := 62) dX10_reasonAgainst_62 ci_5 ?_
            exact g_ret (pc := 63) rfl (isRet_i _) dX10_reasonAgainst_63 rfl
        · refine g_iconst (pc := 52) dX10_reasonAgainst_52 ci_4 ?_
          exact g_ret (pc := 53) rfl (isRet_i _) dX10_reasonAgainst_53 rfl
      · refine g_iconst (pc := 42) dX10_reasonAgainst_42 ci_3 ?_
        exact g_ret (pc := 43) rfl (isRet_i _) dX10_reasonAgainst_43 rfl
    · refine g_iconst (pc := 29) dX10_reasonAgainst_29 ci_2 ?_
      exact g_ret (pc := 30) rfl (isRet_i _) dX10_reasonAgainst_30 rfl
  · refine g_iconst (pc := 18) dX10_reasonAgainst_18 ci_1 ?_
    exact g_ret (pc := 19) rfl (isRet_i _) dX10_reasonAgainst_19 rfl
theorem p_X10_reasonAgainst {l : Launch} {E : aE} (hl : l.stackTraces = false) (x1 : Nat) (x2 : Int32) (x3 : Int32) (x4 : Int32) (h0 : aH) : MO (fun (v : Int32) => .inl (some (.int v))) l E yX10_reasonAgainst (.code yX10_reasonAgainst cX10_reasonAgainst 4 (some .int)) 4 98 [.ref (e_z E + x1), .int x2, .int x3, .int x4] h0 (m_X10_reasonAgainst x1 x2 x3 x4 h0) := g_met hl (by decide +kernel) (Nat.le_of_ble_eq_true rfl) (b_X10_reasonAgainst hl _ _ x1 x2 x3 x4 h0)
