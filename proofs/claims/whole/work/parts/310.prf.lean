/-! proofs of methods -/
theorem dX12_crewOf_0 : decode cX12_crewOf 0 = .ok (.iconst 0, 1) := by decide +kernel
theorem dX12_crewOf_1 : decode cX12_crewOf 1 = .ok (.istore_n 3, 1) := by decide +kernel
theorem dX12_crewOf_2 : decode cX12_crewOf 2 = .ok (.aload_n 0, 1) := by decide +kernel
theorem dX12_crewOf_3 : decode cX12_crewOf 3 = .ok (.getfield 157, 3) := by decide +kernel
theorem dX12_crewOf_6 : decode cX12_crewOf 6 = .ok (.iconst 0, 1) := by decide +kernel
theorem dX12_crewOf_7 : decode cX12_crewOf 7 = .ok (.iconst 1, 1) := by decide +kernel
theorem dX12_crewOf_8 : decode cX12_crewOf 8 = .ok (.bastore, 1) := by decide +kernel
theorem dX12_crewOf_9 : decode cX12_crewOf 9 = .ok (.iconst 1, 1) := by decide +kernel
theorem dX12_crewOf_10 : decode cX12_crewOf 10 = .ok (.istore 4, 2) := by decide +kernel
theorem dX12_crewOf_12 : decode cX12_crewOf 12 = .ok (.iload 4, 2) := by decide +kernel
theorem dX12_crewOf_14 : decode cX12_crewOf 14 = .ok (.sipush 4096, 3) := by decide +kernel
theorem dX12_crewOf_17 : decode cX12_crewOf 17 = .ok (.if_icmp .ge 223, 3) := by decide +kernel
theorem dX12_crewOf_20 : decode cX12_crewOf 20 = .ok (.aload_n 0, 1) := by decide +kernel
theorem dX12_crewOf_21 : decode cX12_crewOf 21 = .ok (.getfield 157, 3) := by decide +kernel
theorem dX12_crewOf_24 : decode cX12_crewOf 24 = .ok (.iload 4, 2) := by decide +kernel
theorem dX12_crewOf_26 : decode cX12_crewOf 26 = .ok (.iconst 0, 1) := by decide +kernel
theorem dX12_crewOf_27 : decode cX12_crewOf 27 = .ok (.bastore, 1) := by decide +kernel
theorem dX12_crewOf_28 : decode cX12_crewOf 28 = .ok (.iload 4, 2) := by decide +kernel
theorem dX12_crewOf_30 : decode cX12_crewOf 30 = .ok (.iload_n 2, 1) := by decide +kernel
theorem dX12_crewOf_31 : decode cX12_crewOf 31 = .ok (.iand, 1) := by decide +kernel
theorem dX12_crewOf_32 : decode cX12_crewOf 32 = .ok (.iload 4, 2) := by decide +kernel
theorem dX12_crewOf_34 : decode cX12_crewOf 34 = .ok (.if_icmp .ne 11, 3) := by decide +kernel
theorem dX12_crewOf_37 : decode cX12_crewOf 37 = .ok (.iload 4, 2) := by decide +kernel
theorem dX12_crewOf_39 : decode cX12_crewOf 39 = .ok (.invokestatic 415, 3) := by decide +kernel
theorem dX12_crewOf_42 : decode cX12_crewOf 42 = .ok (.goto 5, 3) := by decide +kernel
theorem dX12_crewOf_45 : decode cX12_crewOf 45 = .ok (.bipush 99, 2) := by decide +kernel
theorem dX12_crewOf_47 : decode cX12_crewOf 47 = .ok (.istore 5, 2) := by decide +kernel
theorem dX12_crewOf_49 : decode cX12_crewOf 49 = .ok (.iconst 0, 1) := by decide +kernel
theorem dX12_crewOf_50 : decode cX12_crewOf 50 = .ok (.istore 6, 2) := by decide +kernel
theorem dX12_crewOf_52 : decode cX12_crewOf 52 = .ok (.iload 6, 2) := by decide +kernel
theorem dX12_crewOf_54 : decode cX12_crewOf 54 = .ok (.aload_n 0, 1) := by decide +kernel
theorem dX12_crewOf_55 : decode cX12_crewOf 55 = .ok (.getfield 325, 3) := by decide +kernel
theorem dX12_crewOf_58 : decode cX12_crewOf 58 = .ok (.if_icmp .ge 74, 3) := by decide +kernel
theorem dX12_crewOf_61 : decode cX12_crewOf 61 = .ok (.iload 5, 2) := by decide +kernel
theorem dX12_crewOf_63 : decode cX12_crewOf 63 = .ok (.aload_n 0, 1) := by decide +kernel
theorem dX12_crewOf_64 : decode cX12_crewOf 64 = .ok (.getfield 51, 3) := by decide +kernel
theorem dX12_crewOf_67 : decode cX12_crewOf 67 = .ok (.iload_n 1, 1) := by decide +kernel
theorem dX12_crewOf_68 : decode cX12_crewOf 68 = .ok (.iaload, 1) := by decide +kernel
theorem dX12_crewOf_69 : decode cX12_crewOf 69 = .ok (.if_icmp .gt 63, 3) := by decide +kernel
theorem dX12_crewOf_72 : decode cX12_crewOf 72 = .ok (.aload_n 0, 1) := by decide +kernel
theorem dX12_crewOf_73 : decode cX12_crewOf 73 = .ok (.getfield 157, 3) := by decide +kernel
theorem dX12_crewOf_76 : decode cX12_crewOf 76 = .ok (.iload 4, 2) := by decide +kernel
theorem dX12_crewOf_78 : decode cX12_crewOf 78 = .ok (.dup2, 1) := by decide +kernel
theorem dX12_crewOf_79 : decode cX12_crewOf 79 = .ok (.baload, 1) := by decide +kernel
theorem dX12_crewOf_80 : decode cX12_crewOf 80 = .ok (.iload 4, 2) := by decide +kernel
theorem dX12_crewOf_82 : decode cX12_crewOf 82 = .ok (.iload 6, 2) := by decide +kernel
theorem dX12_crewOf_84 : decode cX12_crewOf 84 = .ok (.ishr, 1) := by decide +kernel
theorem dX12_crewOf_85 : decode cX12_crewOf 85 = .ok (.iconst 1, 1) := by decide +kernel
theorem dX12_crewOf_86 : decode cX12_crewOf 86 = .ok (.iand, 1) := by decide +kernel
theorem dX12_crewOf_87 : decode cX12_crewOf 87 = .ok (.ifCond .eq 36, 3) := by decide +kernel
theorem dX12_crewOf_90 : decode cX12_crewOf 90 = .ok (.aload_n 0, 1) := by decide +kernel
theorem dX12_crewOf_91 : decode cX12_crewOf 91 = .ok (.getfield 157, 3) := by decide +kernel
theorem dX12_crewOf_94 : decode cX12_crewOf 94 = .ok (.iload 4, 2) := by decide +kernel
theorem dX12_crewOf_96 : decode cX12_crewOf 96 = .ok (.iconst 1, 1) := by decide +kernel
theorem dX12_crewOf_97 : decode cX12_crewOf 97 = .ok (.iload 6, 2) := by decide +kernel
theorem dX12_crewOf_99 : decode cX12_crewOf 99 = .ok (.ishl, 1) := by decide +kernel
theorem dX12_crewOf_100 : decode cX12_crewOf 100 = .ok (.ixor, 1) := by decide +kernel
theorem dX12_crewOf_101 : decode cX12_crewOf 101 = .ok (.baload, 1) := by decide +kernel
theorem dX12_crewOf_102 : decode cX12_crewOf 102 = .ok (.ifCond .eq 21, 3) := by decide +kernel
theorem dX12_crewOf_105 : decode cX12_crewOf 105 = .ok (.aload_n 0, 1) := by decide +kernel
theorem dX12_crewOf_106 : decode cX12_crewOf 106 = .ok (.iload 6, 2) := by decide +kernel
theorem dX12_crewOf_108 : decode cX12_crewOf 108 = .ok (.iload_n 1, 1) := by decide +kernel
theorem dX12_crewOf_109 : decode cX12_crewOf 109 = .ok (.iload 5, 2) := by decide +kernel
theorem dX12_crewOf_111 : decode cX12_crewOf 111 = .ok (.iconst 1, 1) := by decide +kernel
theorem dX12_crewOf_112 : decode cX12_crewOf 112 = .ok (.isub, 1) := by decide +kernel
theorem dX12_crewOf_113 : decode cX12_crewOf 113 = .ok (.invokevirtual 418, 3) := by decide +kernel
theorem dX12_crewOf_116 : decode cX12_crewOf 116 = .ok (.ifCond .eq 7, 3) := by decide +kernel
theorem dX12_crewOf_119 : decode cX12_crewOf 119 = .ok (.iconst 1, 1) := by decide +kernel
theorem dX12_crewOf_120 : decode cX12_crewOf 120 = .ok (.goto 4, 3) := by decide +kernel
theorem dX12_crewOf_123 : decode cX12_crewOf 123 = .ok (.iconst 0, 1) := by decide +kernel
theorem dX12_crewOf_124 : decode cX12_crewOf 124 = .ok (.ior, 1) := by decide +kernel
theorem dX12_crewOf_125 : decode cX12_crewOf 125 = .ok (.bastore, 1) := by decide +kernel
theorem dX12_crewOf_126 : decode cX12_crewOf 126 = .ok (.iinc 6 1, 3) := by decide +kernel
theorem dX12_crewOf_129 : decode cX12_crewOf 129 = .ok (.goto (-77), 3) := by decide +kernel
theorem dX12_crewOf_132 : decode cX12_crewOf 132 = .ok (.aload_n 0, 1) := by decide +kernel
theorem dX12_crewOf_133 : decode cX12_crewOf 133 = .ok (.getfield 157, 3) := by decide +kernel
theorem dX12_crewOf_136 : decode cX12_crewOf 136 = .ok (.iload 4, 2) := by decide +kernel
theorem dX12_crewOf_138 : decode cX12_crewOf 138 = .ok (.baload, 1) := by decide +kernel
theorem dX12_crewOf_139 : decode cX12_crewOf 139 = .ok (.ifCond .eq 95, 3) := by decide +kernel
theorem dX12_crewOf_142 : decode cX12_crewOf 142 = .ok (.iload 5, 2) := by decide +kernel
theorem dX12_crewOf_144 : decode cX12_crewOf 144 = .ok (.aload_n 0, 1) := by decide +kernel
theorem dX12_crewOf_145 : decode cX12_crewOf 145 = .ok (.getfield 51, 3) := by decide +kernel
theorem dX12_crewOf_148 : decode cX12_crewOf 148 = .ok (.iload_n 1, 1) := by decide +kernel
theorem dX12_crewOf_149 : decode cX12_crewOf 149 = .ok (.iaload, 1) := by decide +kernel
theorem dX12_crewOf_150 : decode cX12_crewOf 150 = .ok (.if_icmp .ne 84, 3) := by decide +kernel
theorem dX12_crewOf_153 : decode cX12_crewOf 153 = .ok (.iload 4, 2) := by decide +kernel
theorem dX12_crewOf_155 : decode cX12_crewOf 155 = .ok (.iload_n 3, 1) := by decide +kernel
theorem dX12_crewOf_156 : decode cX12_crewOf 156 = .ok (.ixor, 1) := by decide +kernel
theorem dX12_crewOf_157 : decode cX12_crewOf 157 = .ok (.istore 6, 2) := by decide +kernel
theorem dX12_crewOf_159 : decode cX12_crewOf 159 = .ok (.iload 4, 2) := by decide +kernel
theorem dX12_crewOf_161 : decode cX12_crewOf 161 = .ok (.iload 6, 2) := by decide +kernel
theorem dX12_crewOf_163 : decode cX12_crewOf 163 = .ok (.iand, 1) := by decide +kernel
theorem dX12_crewOf_164 : decode cX12_crewOf 164 = .ok (.iload 6, 2) := by decide +kernel
theorem dX12_crewOf_166 : decode cX12_crewOf 166 = .ok (.ineg, 1) := by decide +kernel
theorem dX12_crewOf_167 : decode cX12_crewOf 167 = .ok (.iand, 1) := by decide +kernel
theorem dX12_crewOf_168 : decode cX12_crewOf 168 = .ok (.ifCond .eq 7, 3) := by decide +kernel
theorem dX12_crewOf_171 : decode cX12_crewOf 171 = .ok (.iconst 1, 1) := by decide +kernel
theorem dX12_crewOf_172 : decode cX12_crewOf 172 = .ok (.goto 4, 3) := by decide +kernel
theorem dX12_crewOf_175 : decode cX12_crewOf 175 = .ok (.iconst 0, 1) := by decide +kernel
theorem dX12_crewOf_176 : decode cX12_crewOf 176 = .ok (.istore 7, 2) := by decide +kernel
theorem dX12_crewOf_178 : decode cX12_crewOf 178 = .ok (.iload_n 3, 1) := by decide +kernel
theorem dX12_crewOf_179 : decode cX12_crewOf 179 = .ok (.ifCond .eq 36, 3) := by decide +kernel
theorem dX12_crewOf_182 : decode cX12_crewOf 182 = .ok (.aload_n 0, 1) := by decide +kernel
theorem dX12_crewOf_183 : decode cX12_crewOf 183 = .ok (.iload 4, 2) := by decide +kernel
theorem dX12_crewOf_185 : decode cX12_crewOf 185 = .ok (.invokevirtual 422, 3) := by decide +kernel
theorem dX12_crewOf_188 : decode cX12_crewOf 188 = .ok (.aload_n 0, 1) := by decide +kernel
theorem dX12_crewOf_189 : decode cX12_crewOf 189 = .ok (.iload_n 3, 1) := by decide +kernel
theorem dX12_crewOf_190 : decode cX12_crewOf 190 = .ok (.invokevirtual 422, 3) := by decide +kernel
theorem dX12_crewOf_193 : decode cX12_crewOf 193 = .ok (.if_icmp .lt 22, 3) := by decide +kernel
theorem dX12_crewOf_196 : decode cX12_crewOf 196 = .ok (.aload_n 0, 1) := by decide +kernel
theorem dX12_crewOf_197 : decode cX12_crewOf 197 = .ok (.iload 4, 2) := by decide +kernel
theorem dX12_crewOf_199 : decode cX12_crewOf 199 = .ok (.invokevirtual 422, 3) := by decide +kernel
theorem dX12_crewOf_202 : decode cX12_crewOf 202 = .ok (.aload_n 0, 1) := by decide +kernel
theorem dX12_crewOf_203 : decode cX12_crewOf 203 = .ok (.iload_n 3, 1) := by decide +kernel
theorem dX12_crewOf_204 : decode cX12_crewOf 204 = .ok (.invokevirtual 422, 3) := by decide +kernel
theorem dX12_crewOf_207 : decode cX12_crewOf 207 = .ok (.if_icmp .ne 12, 3) := by decide +kernel
theorem dX12_crewOf_210 : decode cX12_crewOf 210 = .ok (.iload 7, 2) := by decide +kernel
theorem dX12_crewOf_212 : decode cX12_crewOf 212 = .ok (.ifCond .eq 7, 3) := by decide +kernel
theorem dX12_crewOf_215 : decode cX12_crewOf 215 = .ok (.iconst 1, 1) := by decide +kernel
theorem dX12_crewOf_216 : decode cX12_crewOf 216 = .ok (.goto 4, 3) := by decide +kernel
theorem dX12_crewOf_219 : decode cX12_crewOf 219 = .ok (.iconst 0, 1) := by decide +kernel
theorem dX12_crewOf_220 : decode cX12_crewOf 220 = .ok (.istore 8, 2) := by decide +kernel
theorem dX12_crewOf_222 : decode cX12_crewOf 222 = .ok (.iload 8, 2) := by decide +kernel
theorem dX12_crewOf_224 : decode cX12_crewOf 224 = .ok (.ifCond .eq 8, 3) := by decide +kernel
theorem dX12_crewOf_227 : decode cX12_crewOf 227 = .ok (.iload 4, 2) := by decide +kernel
theorem dX12_crewOf_229 : decode cX12_crewOf 229 = .ok (.goto 4, 3) := by decide +kernel
theorem dX12_crewOf_232 : decode cX12_crewOf 232 = .ok (.iload_n 3, 1) := by decide +kernel
theorem dX12_crewOf_233 : decode cX12_crewOf 233 = .ok (.istore_n 3, 1) := by decide +kernel
theorem dX12_crewOf_234 : decode cX12_crewOf 234 = .ok (.iinc 4 1, 3) := by decide +kernel
theorem dX12_crewOf_237 : decode cX12_crewOf 237 = .ok (.goto (-225), 3) := by decide +kernel
theorem dX12_crewOf_240 : decode cX12_crewOf 240 = .ok (.iload_n 3, 1) := by decide +kernel
theorem dX12_crewOf_241 : decode cX12_crewOf 241 = .ok (.ireturn, 1) := by decide +kernel
abbrev M_X12_crewOf : aM := (yX12_crewOf.cls, cX12_crewOf, 9, (some .int), [], yX12_crewOf.name == "<init>")
abbrev J_X12_crewOf (l : Launch) (E : aE) (n0 m0 : Nat) := GG (fun (v : Int32) => .inl (some (.int v))) l E M_X12_crewOf 3 67 n0 m0
theorem b_X12_crewOf {l : Launch} {E : aE} (hl : l.stackTraces = false) (n0 m0 : Nat) (x1 : Nat) (x2 : Int32) (x3 : Int32) (h0 : aH) : J_X12_crewOf l E n0 m0 0 [(0, .ref (e_z E + x1)), (1, .int x2), (2, .int x3)] [] h0 (m_X12_crewOf x1 x2 x3 h0) := by
  unfold m_X12_crewOf
  refine g_iconst (pc := 0) dX12_crewOf_0 ci_0 ?_
  refine g_istore_n (pc := 1) (lv' := [(3, .int (0 : Int32)), (0, .ref (e_z E + x1)), (1, .int x2), (2, .int x3)]) dX12_crewOf_1 (Nat.le_of_ble_eq_true rfl) rfl ?_
  refine g_aload_n (pc := 2) dX12_crewOf_2 1 rfl ?_
  refine g_getr (pc := 3) cl12 (Nat.le_of_ble_eq_true rfl) fk1620 (fun _ _ _ => rfl) dX12_crewOf_3 (fun x4 => ?_)
  refine g_iconst (pc := 6) dX12_crewOf_6 ci_0 ?_
  refine g_iconst (pc := 7) dX12_crewOf_7 ci_1 ?_
  refine g_zast (pc := 8) dX12_crewOf_8 (fun h1 => ?_)
  refine g_iconst (pc := 9) dX12_crewOf_9 ci_1 ?_
  refine g_istore (pc := 10) (lv' := [(4, .int (1 : Int32)), (3, .int (0 : Int32)), (0, .ref (e_z E + x1)), (1, .int x2), (2, .int x3)]) dX12_crewOf_10 (Nat.le_of_ble_eq_true rfl) rfl ?_
  refine g_join (fun k => ∀ (x5 : Int32) (h2 : aH), J_X12_crewOf l E n0 m0 240 [(3, .int x5)] [] h2 (k x5 h2)) (fun x5 h2 => ?_) (fun k240 hk240 => ?_)
  · refine g_iload_n (pc := 240) dX12_crewOf_240 0 rfl ?_
    exact g_ret (pc := 241) rfl (isRet_i _) dX12_crewOf_241 rfl
  refine g_lv [2, 3, 4, 1, 0] rfl ?_
  refine g_loop2 (F := (m_X12_crewOf_L12 x1 x2 x3 k240)) (fun x6 x7 => [(0, .ref (e_z E + x1)), (1, .int x2), (2, .int x3), (3, .int x6), (4, .int x7)]) (fun r12 hr12 x6 x7 h3 => ?_) _ _ _ _
  unfold m_X12_crewOf_L12
  refine g_iload (pc := 12) dX12_crewOf_12 4 rfl ?_
  refine g_sipush (pc := 14) dX12_crewOf_14 cs_4096 ?_
  refine g_icmpge (pc := 17) (tgt := 240) dX12_crewOf_17 rfl ?_ ?_
  · refine g_aload_n (pc := 20) dX12_crewOf_20 0 rfl ?_
    refine g_getr (pc := 21) cl12 (Nat.le_of_ble_eq_true rfl) fk1620 (fun _ _ _ => rfl) dX12_crewOf_21 (fun x8 => ?_)
    refine g_iload (pc := 24) dX12_crewOf_24 4 rfl ?_
    refine g_iconst (pc := 26) dX12_crewOf_26 ci_0 ?_
    refine g_zast (pc := 27) dX12_crewOf_27 (fun h4 => ?_)
    refine g_iload (pc := 28) dX12_crewOf_28 4 rfl ?_
    refine g_iload_n (pc := 30) dX12_crewOf_30 2 rfl ?_
    refine g_iand (pc := 31) dX12_crewOf_31 ?_
    refine g_iload (pc := 32) dX12_crewOf_32 4 rfl ?_
    refine g_join (fun k => ∀ (x9 : Int32) (h5 : aH), J_X12_crewOf l E n0 m0 47 [(0, .ref (e_z E + x1)), (1, .int x2), (2, .int x3), (3, .int x6), (4, .int x7)] [.int x9] h5 (k x9 h5)) (fun x9 h5 => ?_) (fun k47 hk47 => ?_)
    · refine g_istore (pc := 47) (lv' := [(5, .int x9), (0, .ref (e_z E + x1)), (1, .int x2), (2, .int x3), (3, .int x6), (4, .int x7)]) dX12_crewOf_47 (Nat.le_of_ble_eq_true rfl) rfl ?_
      refine g_iconst (pc := 49) dX12_crewOf_49 ci_0 ?_
      refine g_istore (pc := 50) (lv' := [(6, .int (0 : Int32)), (5, .int x9), (0, .ref (e_z E + x1)), (1, .int x2), (2, .int x3), (3, .int x6), (4, .int x7)]) dX12_crewOf_50 (Nat.le_of_ble_eq_true rfl) rfl ?_
      refine g_join (fun k => ∀ (h6 : aH), J_X12_crewOf l E n0 m0 132 [(0, .ref (e_z E + x1)), (1, .int x2), (2, .int x3), (3, .int x6), (4, .int x7), (5, .int x9)] [] h6 (k h6)) (fun h6 => ?_) (fun k132 hk132 => ?_)
      · refine g_aload_n (pc := 132) dX12_crewOf_132 0 rfl ?_
        refine g_getr (pc := 133) cl12 (Nat.le_of_ble_eq_true rfl) fk1620 (fun _ _ _ => rfl) dX12_crewOf_133 (fun x10 => ?_)
        refine g_iload (pc := 136) dX12_crewOf_136 4 rfl ?_
        refine g_zald (pc := 138) dX12_crewOf_138 (fun x11 => ?_)
        refine g_join (fun k => ∀ (x12 : Int32) (h7 : aH), J_X12_crewOf l E n0 m0 234 [(0, .ref (e_z E + x1)), (1, .int x2), (2, .int x3), (3, .int x12), (4, .int x7)] [] h7 (k x12 h7)) (fun x12 h7 => ?_) (fun k234 hk234 => ?_)
        · refine g_iincN (pc := 234) dX12_crewOf_234 4 rfl ci_1 (Nat.le_of_ble_eq_true rfl) (fun x13 => ?_)
          refine g_lvr (lv' := [(4, .int x13), (0, .ref (e_z E + x1)), (1, .int x2), (2, .int x3), (3, .int x12)]) rfl ?_
          refine g_goto (pc := 237) (tgt := 12) dX12_crewOf_237 rfl ?_
          refine g_lv [1, 2, 3, 4, 0] rfl ?_
          exact hr12 x12 x13 h7
        refine g_ifeq (pc := 139) (tgt := 234) dX12_crewOf_139 rfl ?_ ?_
        · refine g_lv [0, 1, 2, 3, 4] rfl ?_
          exact hk234 x6 h6
        · refine g_iload (pc := 142) dX12_crewOf_142 5 rfl ?_
          refine g_aload_n (pc := 144) dX12_crewOf_144 0 rfl ?_
          refine g_getr (pc := 145) cl12 (Nat.le_of_ble_eq_true rfl) fk1570 (fun _ _ _ => rfl) dX12_crewOf_145 (fun x14 => ?_)
          refine g_iload_n (pc := 148) dX12_crewOf_148 1 rfl ?_
          refine g_iald (pc := 149) dX12_crewOf_149 (fun x15 => ?_)
          refine g_icmpne (pc := 150) (tgt := 234) dX12_crewOf_150 rfl ?_ ?_
          · refine g_iload (pc := 153) dX12_crewOf_153 4 rfl ?_
            refine g_iload_n (pc := 155) dX12_crewOf_155 3 rfl ?_
            refine g_ixor (pc := 156) dX12_crewOf_156 ?_
            refine g_topi (fun x16 => ?_)
            refine g_istore (pc := 157) (lv' := [(6, .int x16), (0, .ref (e_z E + x1)), (1, .int x2), (2, .int x3), (3, .int x6), (4, .int x7), (5, .int x9)]) dX12_crewOf_157 (Nat.le_of_ble_eq_true rfl) rfl ?_
            refine g_iload (pc := 159) dX12_crewOf_159 5 rfl ?_
            refine g_iload (pc := 161) dX12_crewOf_161 0 rfl ?_
            refine g_iand (pc := 163) dX12_crewOf_163 ?_
            refine g_iload (pc := 164) dX12_crewOf_164 0 rfl ?_
            refine g_ineg (pc := 166) dX12_crewOf_166 ?_
            refine g_iand (pc := 167) dX12_crewOf_167 ?_
            refine g_join (fun k => ∀ (x17 : Int32) (h8 : aH), J_X12_crewOf l E n0 m0 176 [(0, .ref (e_z E + x1)), (1, .int x2), (2, .int x3), (3, .int x6), (4, .int x7)] [.int x17] h8 (k x17 h8)) (fun x17 h8 => ?_) (fun k176 hk176 => ?_)
            · refine g_istore (pc := 176) (lv' := [(7, .int x17), (0, .ref (e_z E + x1)), (1, .int x2), (2, .int x3), (3, .int x6), (4, .int x7)]) dX12_crewOf_176 (Nat.le_of_ble_eq_true rfl) rfl ?_
              refine g_iload_n (pc := 178) dX12_crewOf_178 4 rfl ?_
              refine g_join (fun k => ∀ (x18 : Int32) (h9 : aH), J_X12_crewOf l E n0 m0 220 [(0, .ref (e_z E + x1)), (1, .int x2), (2, .int x3), (3, .int x6), (4, .int x7)] [.int x18] h9 (k x18 h9)) (fun x18 h9 => ?_) (fun k220 hk220 => ?_)
              · refine g_istore (pc := 220) (lv' := [(8, .int x18), (0, .ref (e_z E + x1)), (1, .int x2), (2, .int x3), (3, .int x6), (4, .int x7)]) dX12_crewOf_220 (Nat.le_of_ble_eq_true rfl) rfl ?_
                refine g_iload (pc := 222) dX12_crewOf_222 0 rfl ?_
                refine g_join (fun k => ∀ (x19 : Int32) (h10 : aH), J_X12_crewOf l E n0 m0 233 [(0, .ref (e_z E + x1)), (1, .int x2), (2, .int x3), (4, .int x7)] [.int x19] h10 (k x19 h10)) (fun x19 h10 => ?_) (fun k233 hk233 => ?_)
                · refine g_istore_n (pc := 233) (lv' := [(3, .int x19), (0, .ref (e_z E + x1)), (1, .int x2), (2, .int x3), (4, .int x7)]) dX12_crewOf_233 (Nat.le_of_ble_eq_true rfl) rfl ?_
                  refine g_lv [1, 2, 3, 0, 4] rfl ?_
                  exact hk234 x19 h10
                refine g_ifeq (pc := 224) (tgt := 232) dX12_crewOf_224 rfl ?_ ?_
                · refine g_iload_n (pc := 232) dX12_crewOf_232 4 rfl ?_
                  refine g_lv [1, 2, 3, 5] rfl ?_
                  exact hk233 x6 h9
                · refine g_iload (pc := 227) dX12_crewOf_227 5 rfl ?_
                  refine g_goto (pc := 229) (tgt := 233) dX12_crewOf_229 rfl ?_
                  refine g_lv [1, 2, 3, 5] rfl ?_
                  exact hk233 x7 h9
              refine g_join (fun k => ∀ (h11 : aH), J_X12_crewOf l E n0 m0 215 [(0, .ref (e_z E + x1)), (1, .int x2), (2, .int x3), (3, .int x6), (4, .int x7)] [] h11 (k h11)) (fun h11 => ?_) (fun k215 hk215 => ?_)
              · refine g_iconst (pc := 215) dX12_crewOf_215 ci_1 ?_
                refine g_goto (pc := 216) (tgt := 220) dX12_crewOf_216 rfl ?_
                exact hk220 (1 : Int32) h11
              refine g_ifeq (pc := 179) (tgt := 215) dX12_crewOf_179 rfl ?_ ?_
              · refine g_lv [1, 2, 3, 4, 5] rfl ?_
                exact hk215 h8
              · refine g_aload_n (pc := 182) dX12_crewOf_182 1 rfl ?_
                refine g_iload (pc := 183) dX12_crewOf_183 5 rfl ?_
                refine g_gS (fun hs => ?_)
                refine g_bRi (pc := 185) (c_V cl12 hs (p_X12_latest hl x1 x7 h8) y_X12_latest tw2108 dX12_crewOf_185 rfl (st := []) rfl (Nat.le_of_ble_eq_true rfl) (Nat.le_of_ble_eq_true rfl) (Nat.le_of_ble_eq_true rfl)) (fun x20 h12 => ?_)
                refine g_aload_n (pc := 188) dX12_crewOf_188 1 rfl ?_
                refine g_iload_n (pc := 189) dX12_crewOf_189 4 rfl ?_
                refine g_gS (fun hs => ?_)
                refine g_bRi (pc := 190) (c_V cl12 hs (p_X12_latest hl x1 x6 h12) y_X12_latest tw2108 dX12_crewOf_190 rfl (st := [.int x20]) rfl (Nat.le_of_ble_eq_true rfl) (Nat.le_of_ble_eq_true rfl) (Nat.le_of_ble_eq_true rfl)) (fun x21 h13 => ?_)
                refine g_icmplt (pc := 193) (tgt := 215) dX12_crewOf_193 rfl ?_ ?_
                · refine g_lv [1, 2, 3, 4, 5] rfl ?_
                  exact hk215 h13
                · refine g_aload_n (pc := 196) dX12_crewOf_196 1 rfl ?_
                  refine g_iload (pc := 197) dX12_crewOf_197 5 rfl ?_
                  refine g_gS (fun hs => ?_)
                  refine g_bRi (pc := 199) (c_V cl12 hs (p_X12_latest hl x1 x7 h13) y_X12_latest tw2108 dX12_crewOf_199 rfl (st := []) rfl (Nat.le_of_ble_eq_true rfl) (Nat.le_of_ble_eq_true rfl) (Nat.le_of_ble_eq_true rfl)) (fun x22 h14 => ?_)
                  refine g_aload_n (pc := 202) dX12_crewOf_202 1 rfl ?_
                  refine g_iload_n (pc := 203) dX12_crewOf_203 4 rfl ?_
                  refine g_gS (fun hs => ?_)
                  refine g_bRi (pc := 204) (c_V cl12 hs (p_X12_latest hl x1 x6 h14) y_X12_latest tw2108 dX12_crewOf_204 rfl (st := [.int x22]) rfl (Nat.le_of_ble_eq_true rfl) (Nat.le_of_ble_eq_true rfl) (Nat.le_of_ble_eq_true rfl)) (fun x23 h15 => ?_)
                  refine g_join (fun k => ∀ (h16 : aH), J_X12_crewOf l E n0 m0 219 [(0, .ref (e_z E + x1)), (1, .int x2), (2, .int x3), (3, .int x6), (4, .int x7)] [] h16 (k h16)) (fun h16 => ?_) (fun k219 hk219 => ?_)
                  · refine g_iconst (pc := 219) dX12_crewOf_219 ci_0 ?_
                    exact hk220 (0 : Int32) h16
                  refine g_icmpne (pc := 207) (tgt := 219) dX12_crewOf_207 rfl ?_ ?_
                  · refine g_iload (pc := 210) dX12_crewOf_210 0 rfl ?_
                    refine g_ifeq (pc := 212) (tgt := 219) dX12_crewOf_212 rfl ?_ ?_
                    · refine g_lv [1, 2, 3, 4, 5] rfl ?_
                      exact hk219 h15
                    · refine g_lv [1, 2, 3, 4, 5] rfl ?_
                      exact hk215 h15
                  · refine g_lv [1, 2, 3, 4, 5] rfl ?_
                    exact hk219 h15
            refine g_ifeq (pc := 168) (tgt := 175) dX12_crewOf_168 rfl ?_ ?_
            · refine g_iconst (pc := 175) dX12_crewOf_175 ci_0 ?_
              refine g_lv [1, 2, 3, 4, 5] rfl ?_
              exact hk176 (0 : Int32) h6
            · refine g_iconst (pc := 171) dX12_crewOf_171 ci_1 ?_
              refine g_goto (pc := 172) (tgt := 176) dX12_crewOf_172 rfl ?_
              refine g_lv [1, 2, 3, 4, 5] rfl ?_
              exact hk176 (1 : Int32) h6
          · refine g_lv [0, 1, 2, 3, 4] rfl ?_
            exact hk234 x6 h6
      refine g_lv [2, 3, 4, 5, 6, 1, 0] rfl ?_
      refine g_loop1 (F := (m_X12_crewOf_L52 x1 x2 x7 x9 k132)) (fun x24 => [(0, .ref (e_z E + x1)), (1, .int x2), (2, .int x3), (3, .int x6), (4, .int x7), (5, .int x9), (6, .int x24)]) (fun r52 hr52 x24 h17 => ?_) _ _ _
      unfold m_X12_crewOf_L52
      refine g_iload (pc := 52) dX12_crewOf_52 6 rfl ?_
      refine g_aload_n (pc := 54) dX12_crewOf_54 0 rfl ?_
      refine g_geti (pc := 55) cl12 (Nat.le_of_ble_eq_true rfl) fk1559 (fun _ _ _ => rfl) dX12_crewOf_55 (fun x25 => ?_)
      refine g_icmpge (pc := 58) (tgt := 132) dX12_crewOf_58 rfl ?_ ?_
      · refine g_iload (pc := 61) dX12_crewOf_61 5 rfl ?_
        refine g_aload_n (pc := 63) dX12_crewOf_63 0 rfl ?_
        refine g_getr (pc := 64) cl12 (Nat.le_of_ble_eq_true rfl) fk1570 (fun _ _ _ => rfl) dX12_crewOf_64 (fun x26 => ?_)
        refine g_iload_n (pc := 67) dX12_crewOf_67 1 rfl ?_
        refine g_iald (pc := 68) dX12_crewOf_68 (fun x27 => ?_)
        refine g_icmpgt (pc := 69) (tgt := 132) dX12_crewOf_69 rfl ?_ ?_
        · refine g_aload_n (pc := 72) dX12_crewOf_72 0 rfl ?_
          refine g_getr (pc := 73) cl12 (Nat.le_of_ble_eq_true rfl) fk1620 (fun _ _ _ => rfl) dX12_crewOf_73 (fun x28 => ?_)
          refine g_iload (pc := 76) dX12_crewOf_76 4 rfl ?_
          refine g_dup2 (pc := 78) rfl rfl dX12_crewOf_78 ?_
          refine g_zald (pc := 79) dX12_crewOf_79 (fun x29 => ?_)
          refine g_iload (pc := 80) dX12_crewOf_80 4 rfl ?_
          refine g_iload (pc := 82) dX12_crewOf_82 6 rfl ?_
          refine g_ishr (pc := 84) dX12_crewOf_84 ?_
          refine g_iconst (pc := 85) dX12_crewOf_85 ci_1 ?_
          refine g_iand (pc := 86) dX12_crewOf_86 ?_
          refine g_join (fun k => ∀ (x30 : Int32) (h18 : aH), J_X12_crewOf l E n0 m0 124 [(0, .ref (e_z E + x1)), (1, .int x2), (2, .int x3), (3, .int x6), (4, .int x7), (5, .int x9), (6, .int x24)] [.int x30, .int x29, .int x7, .ref (e_z E + x28)] h18 (k x30 h18)) (fun x30 h18 => ?_) (fun k124 hk124 => ?_)
          · refine g_ior (pc := 124) dX12_crewOf_124 ?_
            refine g_zast (pc := 125) dX12_crewOf_125 (fun h19 => ?_)
            refine g_iincN (pc := 126) dX12_crewOf_126 6 rfl ci_1 (Nat.le_of_ble_eq_true rfl) (fun x31 => ?_)
            refine g_lvr (lv' := [(6, .int x31), (0, .ref (e_z E + x1)), (1, .int x2), (2, .int x3), (3, .int x6), (4, .int x7), (5, .int x9)]) rfl ?_
            refine g_goto (pc := 129) (tgt := 52) dX12_crewOf_129 rfl ?_
            refine g_lv [1, 2, 3, 4, 5, 6, 0] rfl ?_
            exact hr52 x31 h19
          refine g_join (fun k => ∀ (h20 : aH), J_X12_crewOf l E n0 m0 123 [(0, .ref (e_z E + x1)), (1, .int x2), (2, .int x3), (3, .int x6), (4, .int x7), (5, .int x9), (6, .int x24)] [.int x29, .int x7, .ref (e_z E + x28)] h20 (k h20)) (fun h20 => ?_) (fun k123 hk123 => ?_)
          · refine g_iconst (pc := 123) dX12_crewOf_123 ci_0 ?_
            exact hk124 (0 : Int32) h20
          refine g_ifeq (pc := 87) (tgt := 123) dX12_crewOf_87 rfl ?_ ?_
          · exact hk123 h17
          · refine g_aload_n (pc := 90) dX12_crewOf_90 0 rfl ?_
            refine g_getr (pc := 91) cl12 (Nat.le_of_ble_eq_true rfl) fk1620 (fun _ _ _ => rfl) dX12_crewOf_91 (fun x32 => ?_)
            refine g_iload (pc := 94) dX12_crewOf_94 4 rfl ?_
            refine g_iconst (pc := 96) dX12_crewOf_96 ci_1 ?_
            refine g_iload (pc := 97) dX12_crewOf_97 6 rfl ?_
            refine g_ishl (pc := 99) dX12_crewOf_99 ?_
            refine g_ixor (pc := 100) dX12_crewOf_100 ?_
            refine g_zald (pc := 101) dX12_crewOf_101 (fun x33 => ?_)
            refine g_ifeq (pc := 102) (tgt := 123) dX12_crewOf_102 rfl ?_ ?_
            · exact hk123 h17
            · refine g_aload_n (pc := 105) dX12_crewOf_105 0 rfl ?_
              refine g_iload (pc := 106) dX12_crewOf_106 6 rfl ?_
              refine g_iload_n (pc := 108) dX12_crewOf_108 1 rfl ?_
              refine g_iload (pc := 109) dX12_crewOf_109 5 rfl ?_
              refine g_iconst (pc := 111) dX12_crewOf_111 ci_1 ?_
              refine g_isub (pc := 112) dX12_crewOf_112 ?_
              refine g_gS (fun hs => ?_)
              refine g_bRi (pc := 113) (c_V cl12 hs (p_X12_fits hl x1 x24 x2 (x9 - (1 : Int32)) h17) y_X12_fits tw2104 dX12_crewOf_113 rfl (st := [.int x29, .int x7, .ref (e_z E + x28)]) rfl (Nat.le_of_ble_eq_true rfl) (Nat.le_of_ble_eq_true rfl) (Nat.le_of_ble_eq_true rfl)) (fun x34 h21 => ?_)
              refine g_ifeq (pc := 116) (tgt := 123) dX12_crewOf_116 rfl ?_ ?_
              · exact hk123 h21
              · refine g_iconst (pc := 119) dX12_crewOf_119 ci_1 ?_
                refine g_goto (pc := 120) (tgt := 124) dX12_crewOf_120 rfl ?_
                exact hk124 (1 : Int32) h21
        · refine g_lv [0, 1, 2, 3, 4, 5] rfl ?_
          exact hk132 h17
      · refine g_lv [0, 1, 2, 3, 4, 5] rfl ?_
        exact hk132 h17
    refine g_icmpne (pc := 34) (tgt := 45) dX12_crewOf_34 rfl ?_ ?_
    · refine g_iload (pc := 37) dX12_crewOf_37 4 rfl ?_
      refine g_bRi (pc := 39) (c_S (p_X12_many hl x7 h4) y_X12_many tw2101 dX12_crewOf_39 rfl (st := []) rfl (Nat.le_of_ble_eq_true rfl) (Nat.le_of_ble_eq_true rfl) (Nat.le_of_ble_eq_true rfl)) (fun x35 h22 => ?_)
      refine g_goto (pc := 42) (tgt := 47) dX12_crewOf_42 rfl ?_
      exact hk47 x35 h22
    · refine g_bipush (pc := 45) dX12_crewOf_45 cb_99 ?_
      exact hk47 (99 : Int32) h4
  · refine g_lv [3] rfl ?_
    exact hk240 x6 h3
theorem p_X12_crewOf {l : Launch} {E : aE} (hl : l.stackTraces = false) (x1 : Nat) (x2 : Int32) (x3 : Int32) (h0 : aH) : MO (fun (v : Int32) => .inl (some (.int v))) l E yX12_crewOf (.code yX12_crewOf cX12_crewOf 9 (some .int)) 3 67 [.ref (e_z E + x1), .int x2, .int x3] h0 (m_X12_crewOf x1 x2 x3 h0) := g_met hl (by decide +kernel) (Nat.le_of_ble_eq_true rfl) (b_X12_crewOf hl _ _ x1 x2 x3 h0)
theorem dX12_isEngineOut_0 : decode cX12_isEngineOut 0 = .ok (.aload_n 0, 1) := by decide +kernel
theorem dX12_isEngineOut_1 : decode cX12_isEngineOut 1 = .ok (.getfield 7, 3) := by decide +kernel
theorem dX12_isEngineOut_4 : decode cX12_isEngineOut 4 = .ok (.sipush 284, 3) := by decide +kernel
theorem dX12_isEngineOut_7 : decode cX12_isEngineOut 7 = .ok (.iconst 3, 1) := by decide +kernel
theorem dX12_isEngineOut_8 : decode cX12_isEngineOut 8 = .ok (.iload_n 1, 1) := by decide +kernel
theorem dX12_isEngineOut_9 : decode cX12_isEngineOut 9 = .ok (.imul, 1) := by decide +kernel
theorem dX12_isEngineOut_10 : decode cX12_isEngineOut 10 = .ok (.iadd, 1) := by decide +kernel
theorem dX12_isEngineOut_11 : decode cX12_isEngineOut 11 = .ok (.iconst 0, 1) := by decide +kernel
theorem dX12_isEngineOut_12 : decode cX12_isEngineOut 12 = .ok (.iadd, 1) := by decide +kernel
theorem dX12_isEngineOut_13 : decode cX12_isEngineOut 13 = .ok (.iaload, 1) := by decide +kernel
theorem dX12_isEngineOut_14 : decode cX12_isEngineOut 14 = .ok (.aload_n 0, 1) := by decide +kernel
theorem dX12_isEngineOut_15 : decode cX12_isEngineOut 15 = .ok (.getfield 7, 3) := by decide +kernel
theorem dX12_isEngineOut_18 : decode cX12_isEngineOut 18 = .ok (.iconst 0, 1) := by decide +kernel
theorem dX12_isEngineOut_19 : decode cX12_isEngineOut 19 = .ok (.iaload, 1) := by decide +kernel
theorem dX12_isEngineOut_20 : decode cX12_isEngineOut 20 = .ok (.if_icmp .le 7, 3) := by decide +kernel
theorem dX12_isEngineOut_23 : decode cX12_isEngineOut 23 = .ok (.iconst 1, 1) := by decide +kernel
theorem dX12_isEngineOut_24 : decode cX12_isEngineOut 24 = .ok (.goto 4, 3) := by decide +kernel
theorem dX12_isEngineOut_27 : decode cX12_isEngineOut 27 = .ok (.iconst 0, 1) := by decide +kernel
theorem dX12_isEngineOut_28 : decode cX12_isEngineOut 28 = .ok (.ireturn, 1) := by decide +kernel
abbrev M_X12_isEngineOut : aM := (yX12_isEngineOut.cls, cX12_isEngineOut, 2, (some .boolean), [], yX12_isEngineOut.name == "<init>")
abbrev J_X12_isEngineOut (l : Launch) (E : aE) (n0 m0 : Nat) := GG (fun (v : Int32) => .inl (some (.int v))) l E M_X12_isEngineOut 0 0 n0 m0
theorem b_X12_isEngineOut {l : Launch} {E : aE} (hl : l.stackTraces = false) (n0 m0 : Nat) (x1 : Nat) (x2 : Int32) (h0 : aH) : J_X12_isEngineOut l E n0 m0 0 [(0, .ref (e_z E + x1)), (1, .int x2)] [] h0 (m_X12_isEngineOut x1 x2 h0) := by
  unfold m_X12_isEngineOut
  refine g_aload_n (pc := 0) dX12_isEngineOut_0 0 rfl ?_
  refine g_getr (pc := 1) cl12 (Nat.le_of_ble_eq_true rfl) fk1552 (fun _ _ _ => rfl) dX12_isEngineOut_1 (fun x3 => ?_)
  refine g_sipush (pc := 4) dX12_isEngineOut_4 cs_284 ?_
  refine g_iconst (pc := 7) dX12_isEngineOut_7 ci_3 ?_
  refine g_iload_n (pc := 8) dX12_isEngineOut_8 1 rfl ?_
  refine g_imul (pc := 9) dX12_isEngineOut_9 ?_
  refine g_iadd (pc := 10) dX12_isEngineOut_10 ?_
  refine g_iconst (pc := 11) dX12_isEngineOut_11 ci_0 ?_
  refine g_iadd (pc := 12) dX12_isEngineOut_12 ?_
  refine g_iald (pc := 13) dX12_isEngineOut_13 (fun x4 => ?_)
  refine g_aload_n (pc := 14) dX12_isEngineOut_14 0 rfl ?_
  refine g_getr (pc := 15) cl12 (Nat.le_of_ble_eq_true rfl) fk1552 (fun _ _ _ => rfl) dX12_isEngineOut_15 (fun x5 => ?_)
  refine g_iconst (pc := 18) dX12_isEngineOut_18 ci_0 ?_
  refine g_iald (pc := 19) dX12_isEngineOut_19 (fun x6 => ?_)
  refine g_join (fun k => ∀ (x7 : Int32) (h1 : aH), J_X12_isEngineOut l E n0 m0 28 [] [.int x7] h1 (k x7 h1)) (fun x7 h1 => ?_) (fun k28 hk28 => ?_)
  · refine g_zO (fun hz => ?_)
    exact g_ret (pc := 28) rfl (isRet_z hz) dX12_isEngineOut_28 rfl
  refine g_icmple (pc := 20) (tgt := 27) dX12_isEngineOut_20 rfl ?_ ?_
  · refine g_iconst (pc := 27) dX12_isEngineOut_27 ci_0 ?_
    refine g_lv [] rfl ?_
    exact hk28 (0 : Int32) h0
  · refine g_iconst (pc := 23) dX12_isEngineOut_23 ci_1 ?_
    refine g_goto (pc := 24) (tgt := 28) dX12_isEngineOut_24 rfl ?_
    refine g_lv [] rfl ?_
    exact hk28 (1 : Int32) h0
theorem p_X12_isEngineOut {l : Launch} {E : aE} (hl : l.stackTraces = false) (x1 : Nat) (x2 : Int32) (h0 : aH) : MO (fun (v : Int32) => .inl (some (.int v))) l E yX12_isEngineOut (.code yX12_isEngineOut cX12_isEngineOut 2 (some .boolean)) 0 0 [.ref (e_z E + x1), .int x2] h0 (m_X12_isEngineOut x1 x2 h0) := g_met hl (by decide +kernel) (Nat.le_of_ble_eq_true rfl) (b_X12_isEngineOut hl _ _ x1 x2 h0)
theorem dX12_isRested_0 : decode cX12_isRested 0 = .ok (.aload_n 0, 1) := by decide +kernel
theorem dX12_isRested_1 : decode cX12_isRested 1 = .ok (.getfield 7, 3) := by decide +kernel
theorem dX12_isRested_4 : decode cX12_isRested 4 = .ok (.sipush 284, 3) := by decide +kernel
theorem dX12_isRested_7 : decode cX12_isRested 7 = .ok (.iconst 3, 1) := by decide +kernel
theorem dX12_isRested_8 : decode cX12_isRested 8 = .ok (.iload_n 1, 1) := by decide +kernel
theorem dX12_isRested_9 : decode cX12_isRested 9 = .ok (.imul, 1) := by decide +kernel
theorem dX12_isRested_10 : decode cX12_isRested 10 = .ok (.iadd, 1) := by decide +kernel
theorem dX12_isRested_11 : decode cX12_isRested 11 = .ok (.iconst 1, 1) := by decide +kernel
theorem dX12_isRested_12 : decode cX12_isRested 12 = .ok (.iadd, 1) := by decide +kernel
theorem dX12_isRested_13 : decode cX12_isRested 13 = .ok (.iaload, 1) := by decide +kernel
theorem dX12_isRested_14 : decode cX12_isRested 14 = .ok (.ifCond .eq 7, 3) := by decide +kernel
theorem dX12_isRested_17 : decode cX12_isRested 17 = .ok (.iconst 1, 1) := by decide +kernel
theorem dX12_isRested_18 : decode cX12_isRested 18 = .ok (.goto 4, 3) := by decide +kernel
theorem dX12_isRested_21 : decode cX12_isRested 21 = .ok (.iconst 0, 1) := by decide +kernel
theorem dX12_isRested_22 : decode cX12_isRested 22 = .ok (.ireturn, 1) := by decide +kernel
abbrev M_X12_isRested : aM := (yX12_isRested.cls, cX12_isRested, 2, (some .boolean), [], yX12_isRested.name == "<init>")
abbrev J_X12_isRested (l : Launch) (E : aE) (n0 m0 : Nat) := GG (fun (v : Int32) => .inl (some (.int v))) l E M_X12_isRested 0 0 n0 m0
theorem b_X12_isRested {l : Launch} {E : aE} (hl : l.stackTraces = false) (n0 m0 : Nat) (x1 : Nat) (x2 : Int32) (h0 : aH) : J_X12_isRested l E n0 m0 0 [(0, .ref (e_z E + x1)), (1, .int x2)] [] h0 (m_X12_isRested x1 x2 h0) := by
  unfold m_X12_isRested
  refine g_aload_n (pc := 0) dX12_isRested_0 0 rfl ?_
  refine g_getr (pc := 1) cl12 (Nat.le_of_ble_eq_true rfl) fk1552 (fun _ _ _ => rfl) dX12_isRested_1 (fun x3 => ?_)
  refine g_sipush (pc := 4) dX12_isRested_4 cs_284 ?_
  refine g_iconst (pc := 7) dX12_isRested_7 ci_3 ?_
  refine g_iload_n (pc := 8) dX12_isRested_8 1 rfl ?_
  refine g_imul (pc := 9) dX12_isRested_9 ?_
  refine g_iadd (pc := 10) dX12_isRested_10 ?_
  refine g_iconst (pc := 11) dX12_isRested_11 ci_1 ?_
  refine g_iadd (pc := 12) dX12_isRested_12 ?_
  refine g_iald (pc := 13) dX12_isRested_13 (fun x4 => ?_)
  refine g_join (fun k => ∀ (x5 : Int32) (h1 : aH), J_X12_isRested l E n0 m0 22 [] [.int x5] h1 (k x5 h1)) (fun x5 h1 => ?_) (fun k22 hk22 => ?_)
  · refine g_zO (fun hz => ?_)
    exact g_ret (pc := 22) rfl (isRet_z hz) dX12_isRested_22 rfl
  refine g_ifeq (pc := 14) (tgt := 21) dX12_isRested_14 rfl ?_ ?_
  · refine g_iconst (pc := 21) dX12_isRested_21 ci_0 ?_
    refine g_lv [] rfl ?_
    exact hk22 (0 : Int32) h0
  · refine g_iconst (pc := 17) dX12_isRested_17 ci_1 ?_
    refine g_goto (pc := 18) (tgt := 22) dX12_isRested_18 rfl ?_
    refine g_lv [] rfl ?_
    exact hk22 (1 : Int32) h0
theorem p_X12_isRested {l : Launch} {E : aE} (hl : l.stackTraces = false) (x1 : Nat) (x2 : Int32) (h0 : aH) : MO (fun (v : Int32) => .inl (some (.int v))) l E yX12_isRested (.code yX12_isRested cX12_isRested 2 (some .boolean)) 0 0 [.ref (e_z E + x1), .int x2] h0 (m_X12_isRested x1 x2 h0) := g_met hl (by decide +kernel) (Nat.le_of_ble_eq_true rfl) (b_X12_isRested hl _ _ x1 x2 h0)
theorem dX12_plans_0 : decode cX12_plans 0 = .ok (.aload_n 0, 1) := by decide +kernel
theorem dX12_plans_1 : decode cX12_plans 1 = .ok (.iconst 0, 1) := by decide +kernel
theorem dX12_plans_2 : decode cX12_plans 2 = .ok (.putfield 425, 3) := by decide +kernel
theorem dX12_plans_5 : decode cX12_plans 5 = .ok (.iconst 0, 1) := by decide +kernel
theorem dX12_plans_6 : decode cX12_plans 6 = .ok (.istore_n 2, 1) := by decide +kernel
theorem dX12_plans_7 : decode cX12_plans 7 = .ok (.iload_n 2, 1) := by decide +kernel
theorem dX12_plans_8 : decode cX12_plans 8 = .ok (.aload_n 0, 1) := by decide +kernel
theorem dX12_plans_9 : decode cX12_plans 9 = .ok (.getfield 325, 3) := by decide +kernel
theorem dX12_plans_12 : decode cX12_plans 12 = .ok (.if_icmp .ge 34, 3) := by decide +kernel
theorem dX12_plans_15 : decode cX12_plans 15 = .ok (.aload_n 0, 1) := by decide +kernel
theorem dX12_plans_16 : decode cX12_plans 16 = .ok (.dup, 1) := by decide +kernel
theorem dX12_plans_17 : decode cX12_plans 17 = .ok (.getfield 425, 3) := by decide +kernel
theorem dX12_plans_20 : decode cX12_plans 20 = .ok (.aload_n 0, 1) := by decide +kernel
theorem dX12_plans_21 : decode cX12_plans 21 = .ok (.iload_n 1, 1) := by decide +kernel
theorem dX12_plans_22 : decode cX12_plans 22 = .ok (.iload_n 2, 1) := by decide +kernel
theorem dX12_plans_23 : decode cX12_plans 23 = .ok (.invokevirtual 428, 3) := by decide +kernel
theorem dX12_plans_26 : decode cX12_plans 26 = .ok (.ifCond .ne 9, 3) := by decide +kernel
theorem dX12_plans_29 : decode cX12_plans 29 = .ok (.iconst 1, 1) := by decide +kernel
theorem dX12_plans_30 : decode cX12_plans 30 = .ok (.iload_n 2, 1) := by decide +kernel
theorem dX12_plans_31 : decode cX12_plans 31 = .ok (.ishl, 1) := by decide +kernel
theorem dX12_plans_32 : decode cX12_plans 32 = .ok (.goto 4, 3) := by decide +kernel
theorem dX12_plans_35 : decode cX12_plans 35 = .ok (.iconst 0, 1) := by decide +kernel
theorem dX12_plans_36 : decode cX12_plans 36 = .ok (.ior, 1) := by decide +kernel
theorem dX12_plans_37 : decode cX12_plans 37 = .ok (.putfield 425, 3) := by decide +kernel
theorem dX12_plans_40 : decode cX12_plans 40 = .ok (.iinc 2 1, 3) := by decide +kernel
theorem dX12_plans_43 : decode cX12_plans 43 = .ok (.goto (-36), 3) := by decide +kernel
theorem dX12_plans_46 : decode cX12_plans 46 = .ok (.aload_n 0, 1) := by decide +kernel
theorem dX12_plans_47 : decode cX12_plans 47 = .ok (.iconst 0, 1) := by decide +kernel
theorem dX12_plans_48 : decode cX12_plans 48 = .ok (.putfield 431, 3) := by decide +kernel
theorem dX12_plans_51 : decode cX12_plans 51 = .ok (.aload_n 0, 1) := by decide +kernel
theorem dX12_plans_52 : decode cX12_plans 52 = .ok (.getfield 425, 3) := by decide +kernel
theorem dX12_plans_55 : decode cX12_plans 55 = .ok (.istore_n 2, 1) := by decide +kernel
theorem dX12_plans_56 : decode cX12_plans 56 = .ok (.iconst 0, 1) := by decide +kernel
theorem dX12_plans_57 : decode cX12_plans 57 = .ok (.istore_n 3, 1) := by decide +kernel
theorem dX12_plans_58 : decode cX12_plans 58 = .ok (.iload_n 3, 1) := by decide +kernel
theorem dX12_plans_59 : decode cX12_plans 59 = .ok (.aload_n 0, 1) := by decide +kernel
theorem dX12_plans_60 : decode cX12_plans 60 = .ok (.getfield 72, 3) := by decide +kernel
theorem dX12_plans_63 : decode cX12_plans 63 = .ok (.iload_n 1, 1) := by decide +kernel
theorem dX12_plans_64 : decode cX12_plans 64 = .ok (.iaload, 1) := by decide +kernel
theorem dX12_plans_65 : decode cX12_plans 65 = .ok (.if_icmp .ge 159, 3) := by decide +kernel
theorem dX12_plans_68 : decode cX12_plans 68 = .ok (.aload_n 0, 1) := by decide +kernel
theorem dX12_plans_69 : decode cX12_plans 69 = .ok (.getfield 75, 3) := by decide +kernel
theorem dX12_plans_72 : decode cX12_plans 72 = .ok (.iconst 5, 1) := by decide +kernel
theorem dX12_plans_73 : decode cX12_plans 73 = .ok (.iload_n 1, 1) := by decide +kernel
theorem dX12_plans_74 : decode cX12_plans 74 = .ok (.imul, 1) := by decide +kernel
theorem dX12_plans_75 : decode cX12_plans 75 = .ok (.iload_n 3, 1) := by decide +kernel
theorem dX12_plans_76 : decode cX12_plans 76 = .ok (.iadd, 1) := by decide +kernel
theorem dX12_plans_77 : decode cX12_plans 77 = .ok (.iaload, 1) := by decide +kernel
theorem dX12_plans_78 : decode cX12_plans 78 = .ok (.istore 4, 2) := by decide +kernel
theorem dX12_plans_80 : decode cX12_plans 80 = .ok (.aload_n 0, 1) := by decide +kernel
theorem dX12_plans_81 : decode cX12_plans 81 = .ok (.getfield 151, 3) := by decide +kernel
theorem dX12_plans_84 : decode cX12_plans 84 = .ok (.iload_n 3, 1) := by decide +kernel
theorem dX12_plans_85 : decode cX12_plans 85 = .ok (.iload_n 2, 1) := by decide +kernel
theorem dX12_plans_86 : decode cX12_plans 86 = .ok (.iastore, 1) := by decide +kernel
theorem dX12_plans_87 : decode cX12_plans 87 = .ok (.aload_n 0, 1) := by decide +kernel
theorem dX12_plans_88 : decode cX12_plans 88 = .ok (.getfield 145, 3) := by decide +kernel
theorem dX12_plans_91 : decode cX12_plans 91 = .ok (.iload_n 3, 1) := by decide +kernel
theorem dX12_plans_92 : decode cX12_plans 92 = .ok (.aload_n 0, 1) := by decide +kernel
theorem dX12_plans_93 : decode cX12_plans 93 = .ok (.iload 4, 2) := by decide +kernel
theorem dX12_plans_95 : decode cX12_plans 95 = .ok (.invokevirtual 434, 3) := by decide +kernel
theorem dX12_plans_98 : decode cX12_plans 98 = .ok (.ifCond .ne 12, 3) := by decide +kernel
theorem dX12_plans_101 : decode cX12_plans 101 = .ok (.aload_n 0, 1) := by decide +kernel
theorem dX12_plans_102 : decode cX12_plans 102 = .ok (.iload 4, 2) := by decide +kernel
theorem dX12_plans_104 : decode cX12_plans 104 = .ok (.invokevirtual 437, 3) := by decide +kernel
theorem dX12_plans_107 : decode cX12_plans 107 = .ok (.ifCond .eq 7, 3) := by decide +kernel
theorem dX12_plans_110 : decode cX12_plans 110 = .ok (.iconst 0, 1) := by decide +kernel
theorem dX12_plans_111 : decode cX12_plans 111 = .ok (.goto 10, 3) := by decide +kernel
theorem dX12_plans_114 : decode cX12_plans 114 = .ok (.aload_n 0, 1) := by decide +kernel
theorem dX12_plans_115 : decode cX12_plans 115 = .ok (.iload 4, 2) := by decide +kernel
theorem dX12_plans_117 : decode cX12_plans 117 = .ok (.iload_n 2, 1) := by decide +kernel
theorem dX12_plans_118 : decode cX12_plans 118 = .ok (.invokevirtual 440, 3) := by decide +kernel
theorem dX12_plans_121 : decode cX12_plans 121 = .ok (.iastore, 1) := by decide +kernel
theorem dX12_plans_122 : decode cX12_plans 122 = .ok (.aload_n 0, 1) := by decide +kernel
theorem dX12_plans_123 : decode cX12_plans 123 = .ok (.getfield 148, 3) := by decide +kernel
theorem dX12_plans_126 : decode cX12_plans 126 = .ok (.iload_n 3, 1) := by decide +kernel
theorem dX12_plans_127 : decode cX12_plans 127 = .ok (.aload_n 0, 1) := by decide +kernel
theorem dX12_plans_128 : decode cX12_plans 128 = .ok (.iload 4, 2) := by decide +kernel
theorem dX12_plans_130 : decode cX12_plans 130 = .ok (.invokevirtual 434, 3) := by decide +kernel
theorem dX12_plans_133 : decode cX12_plans 133 = .ok (.ifCond .eq 7, 3) := by decide +kernel
theorem dX12_plans_136 : decode cX12_plans 136 = .ok (.iconst 1, 1) := by decide +kernel
theorem dX12_plans_137 : decode cX12_plans 137 = .ok (.goto 30, 3) := by decide +kernel
theorem dX12_plans_140 : decode cX12_plans 140 = .ok (.aload_n 0, 1) := by decide +kernel
theorem dX12_plans_141 : decode cX12_plans 141 = .ok (.iload 4, 2) := by decide +kernel
theorem dX12_plans_143 : decode cX12_plans 143 = .ok (.invokevirtual 437, 3) := by decide +kernel
theorem dX12_plans_146 : decode cX12_plans 146 = .ok (.ifCond .eq 7, 3) := by decide +kernel
theorem dX12_plans_149 : decode cX12_plans 149 = .ok (.iconst 2, 1) := by decide +kernel
theorem dX12_plans_150 : decode cX12_plans 150 = .ok (.goto 17, 3) := by decide +kernel
theorem dX12_plans_153 : decode cX12_plans 153 = .ok (.aload_n 0, 1) := by decide +kernel
theorem dX12_plans_154 : decode cX12_plans 154 = .ok (.getfield 145, 3) := by decide +kernel
theorem dX12_plans_157 : decode cX12_plans 157 = .ok (.iload_n 3, 1) := by decide +kernel
theorem dX12_plans_158 : decode cX12_plans 158 = .ok (.iaload, 1) := by decide +kernel
theorem dX12_plans_159 : decode cX12_plans 159 = .ok (.ifCond .ne 7, 3) := by decide +kernel
theorem dX12_plans_162 : decode cX12_plans 162 = .ok (.iconst 3, 1) := by decide +kernel
theorem dX12_plans_163 : decode cX12_plans 163 = .ok (.goto 4, 3) := by decide +kernel
theorem dX12_plans_166 : decode cX12_plans 166 = .ok (.iconst 0, 1) := by decide +kernel
theorem dX12_plans_167 : decode cX12_plans 167 = .ok (.iastore, 1) := by decide +kernel
theorem dX12_plans_168 : decode cX12_plans 168 = .ok (.aload_n 0, 1) := by decide +kernel
theorem dX12_plans_169 : decode cX12_plans 169 = .ok (.getfield 154, 3) := by decide +kernel
theorem dX12_plans_172 : decode cX12_plans 172 = .ok (.iload_n 3, 1) := by decide +kernel
theorem dX12_plans_173 : decode cX12_plans 173 = .ok (.aload_n 0, 1) := by decide +kernel
theorem dX12_plans_174 : decode cX12_plans 174 = .ok (.aload_n 0, 1) := by decide +kernel
theorem dX12_plans_175 : decode cX12_plans 175 = .ok (.getfield 145, 3) := by decide +kernel
theorem dX12_plans_178 : decode cX12_plans 178 = .ok (.iload_n 3, 1) := by decide +kernel
theorem dX12_plans_179 : decode cX12_plans 179 = .ok (.iaload, 1) := by decide +kernel
theorem dX12_plans_180 : decode cX12_plans 180 = .ok (.invokevirtual 422, 3) := by decide +kernel
theorem dX12_plans_183 : decode cX12_plans 183 = .ok (.iastore, 1) := by decide +kernel
theorem dX12_plans_184 : decode cX12_plans 184 = .ok (.iload_n 2, 1) := by decide +kernel
theorem dX12_plans_185 : decode cX12_plans 185 = .ok (.aload_n 0, 1) := by decide +kernel
theorem dX12_plans_186 : decode cX12_plans 186 = .ok (.getfield 145, 3) := by decide +kernel
theorem dX12_plans_189 : decode cX12_plans 189 = .ok (.iload_n 3, 1) := by decide +kernel
theorem dX12_plans_190 : decode cX12_plans 190 = .ok (.iaload, 1) := by decide +kernel
theorem dX12_plans_191 : decode cX12_plans 191 = .ok (.iconst (-1), 1) := by decide +kernel
theorem dX12_plans_192 : decode cX12_plans 192 = .ok (.ixor, 1) := by decide +kernel
theorem dX12_plans_193 : decode cX12_plans 193 = .ok (.iand, 1) := by decide +kernel
theorem dX12_plans_194 : decode cX12_plans 194 = .ok (.istore_n 2, 1) := by decide +kernel
theorem dX12_plans_195 : decode cX12_plans 195 = .ok (.aload_n 0, 1) := by decide +kernel
theorem dX12_plans_196 : decode cX12_plans 196 = .ok (.dup, 1) := by decide +kernel
theorem dX12_plans_197 : decode cX12_plans 197 = .ok (.getfield 431, 3) := by decide +kernel
theorem dX12_plans_200 : decode cX12_plans 200 = .ok (.aload_n 0, 1) := by decide +kernel
theorem dX12_plans_201 : decode cX12_plans 201 = .ok (.getfield 145, 3) := by decide +kernel
theorem dX12_plans_204 : decode cX12_plans 204 = .ok (.iload_n 3, 1) := by decide +kernel
theorem dX12_plans_205 : decode cX12_plans 205 = .ok (.iaload, 1) := by decide +kernel
theorem dX12_plans_206 : decode cX12_plans 206 = .ok (.ifCond .eq 7, 3) := by decide +kernel
theorem dX12_plans_209 : decode cX12_plans 209 = .ok (.iconst 1, 1) := by decide +kernel
theorem dX12_plans_210 : decode cX12_plans 210 = .ok (.goto 4, 3) := by decide +kernel
theorem dX12_plans_213 : decode cX12_plans 213 = .ok (.iconst 0, 1) := by decide +kernel
theorem dX12_plans_214 : decode cX12_plans 214 = .ok (.iadd, 1) := by decide +kernel
theorem dX12_plans_215 : decode cX12_plans 215 = .ok (.putfield 431, 3) := by decide +kernel
theorem dX12_plans_218 : decode cX12_plans 218 = .ok (.iinc 3 1, 3) := by decide +kernel
theorem dX12_plans_221 : decode cX12_plans 221 = .ok (.goto (-163), 3) := by decide +kernel
theorem dX12_plans_224 : decode cX12_plans 224 = .ok (.return_, 1) := by decide +kernel
abbrev M_X12_plans : aM := (yX12_plans.cls, cX12_plans, 5, none, [], yX12_plans.name == "<init>")
abbrev J_X12_plans (l : Launch) (E : aE) (n0 m0 : Nat) := GG (fun (_ : Unit) => .inl none) l E M_X12_plans 5 111 n0 m0
theorem b_X12_plans {l : Launch} {E : aE} (hl : l.stackTraces = false) (n0 m0 : Nat) (x1 : Nat) (x2 : Int32) (h0 : aH) : J_X12_plans l E n0 m0 0 [(0, .ref (e_z E + x1)), (1, .int x2)] [] h0 (m_X12_plans x1 x2 h0) := by
  unfold m_X12_plans
  refine g_aload_n (pc := 0) dX12_plans_0 0 rfl ?_
  refine g_iconst (pc := 1) dX12_plans_1 ci_0 ?_
  refine g_puti (pc := 2) cl12 (Nat.le_of_ble_eq_true rfl) (Or.inl ⟨rfl, fk1614⟩) (fun _ _ _ => rfl) (fun _ => ⟨rfl, rfl⟩) dX12_plans_2 (fun h1 => ?_)
  refine g_iconst (pc := 5) dX12_plans_5 ci_0 ?_
  refine g_istore_n (pc := 6) (lv' := [(2, .int (0 : Int32)), (0, .ref (e_z E + x1)), (1, .int x2)]) dX12_plans_6 (Nat.le_of_ble_eq_true rfl) rfl ?_
  refine g_join (fun k => ∀ (h2 : aH), J_X12_plans l E n0 m0 46 [(0, .ref (e_z E + x1)), (1, .int x2)] [] h2 (k h2)) (fun h2 => ?_) (fun k46 hk46 => ?_)
  · refine g_aload_n (pc := 46) dX12_plans_46 0 rfl ?_
    refine g_iconst (pc := 47) dX12_plans_47 ci_0 ?_
    refine g_puti (pc := 48) cl12 (Nat.le_of_ble_eq_true rfl) (Or.inl ⟨rfl, fk1619⟩) (fun _ _ _ => rfl) (fun _ => ⟨rfl, rfl⟩) dX12_plans_48 (fun h3 => ?_)
    refine g_aload_n (pc := 51) dX12_plans_51 0 rfl ?_
    refine g_geti (pc := 52) cl12 (Nat.le_of_ble_eq_true rfl) fk1614 (fun _ _ _ => rfl) dX12_plans_52 (fun x3 => ?_)
    refine g_istore_n (pc := 55) (lv' := [(2, .int x3), (0, .ref (e_z E + x1)), (1, .int x2)]) dX12_plans_55 (Nat.le_of_ble_eq_true rfl) rfl ?_
    refine g_iconst (pc := 56) dX12_plans_56 ci_0 ?_
    refine g_istore_n (pc := 57) (lv' := [(3, .int (0 : Int32)), (2, .int x3), (0, .ref (e_z E + x1)), (1, .int x2)]) dX12_plans_57 (Nat.le_of_ble_eq_true rfl) rfl ?_
    refine g_join (fun k => ∀ (h4 : aH), J_X12_plans l E n0 m0 224 [] [] h4 (k h4)) (fun h4 => ?_) (fun k224 hk224 => ?_)
    · exact g_ret (pc := 224) rfl isRet_v dX12_plans_224 rfl
    refine g_lv [2, 3, 1, 0] rfl ?_
    refine g_loop2 (F := (m_X12_plans_L58 x1 x2 k224)) (fun x4 x5 => [(0, .ref (e_z E + x1)), (1, .int x2), (2, .int x4), (3, .int x5)]) (fun r58 hr58 x4 x5 h5 => ?_) _ _ _ _
    unfold m_X12_plans_L58
    refine g_iload_n (pc := 58) dX12_plans_58 3 rfl ?_
    refine g_aload_n (pc := 59) dX12_plans_59 0 rfl ?_
    refine g_getr (pc := 60) cl12 (Nat.le_of_ble_eq_true rfl) fk1577 (fun _ _ _ => rfl) dX12_plans_60 (fun x6 => ?_)
    refine g_iload_n (pc := 63) dX12_plans_63 1 rfl ?_
    refine g_iald (pc := 64) dX12_plans_64 (fun x7 => ?_)
    refine g_icmpge (pc := 65) (tgt := 224) dX12_plans_65 rfl ?_ ?_
    · refine g_aload_n (pc := 68) dX12_plans_68 0 rfl ?_
      refine g_getr (pc := 69) cl12 (Nat.le_of_ble_eq_true rfl) fk1578 (fun _ _ _ => rfl) dX12_plans_69 (fun x8 => ?_)
      refine g_iconst (pc := 72) dX12_plans_72 ci_5 ?_
      refine g_iload_n (pc := 73) dX12_plans_73 1 rfl ?_
      refine g_imul (pc := 74) dX12_plans_74 ?_
      refine g_iload_n (pc := 75) dX12_plans_75 3 rfl ?_
      refine g_iadd (pc := 76) dX12_plans_76 ?_
      refine g_iald (pc := 77) dX12_plans_77 (fun x9 => ?_)
      refine g_istore (pc := 78) (lv' := [(4, .int x9), (0, .ref (e_z E + x1)), (1, .int x2), (2, .int x4), (3, .int x5)]) dX12_plans_78 (Nat.le_of_ble_eq_true rfl) rfl ?_
      refine g_aload_n (pc := 80) dX12_plans_80 1 rfl ?_
      refine g_getr (pc := 81) cl12 (Nat.le_of_ble_eq_true rfl) fk1617 (fun _ _ _ => rfl) dX12_plans_81 (fun x10 => ?_)
      refine g_iload_n (pc := 84) dX12_plans_84 4 rfl ?_
      refine g_iload_n (pc := 85) dX12_plans_85 3 rfl ?_
      refine g_iast (pc := 86) dX12_plans_86 (fun h6 => ?_)
      refine g_aload_n (pc := 87) dX12_plans_87 1 rfl ?_
      refine g_getr (pc := 88) cl12 (Nat.le_of_ble_eq_true rfl) fk1615 (fun _ _ _ => rfl) dX12_plans_88 (fun x11 => ?_)
      refine g_iload_n (pc := 91) dX12_plans_91 4 rfl ?_
      refine g_aload_n (pc := 92) dX12_plans_92 1 rfl ?_
      refine g_iload (pc := 93) dX12_plans_93 0 rfl ?_
      refine g_gS (fun hs => ?_)
      refine g_bRi (pc := 95) (c_V cl12 hs (p_X12_isRested hl x1 x9 h6) y_X12_isRested tw2089 dX12_plans_95 rfl (st := [.int x5, .ref (e_z E + x11)]) rfl (Nat.le_of_ble_eq_true rfl) (Nat.le_of_ble_eq_true rfl) (Nat.le_of_ble_eq_true rfl)) (fun x12 h7 => ?_)
      refine g_join (fun k => ∀ (x13 : Int32) (h8 : aH), J_X12_plans l E n0 m0 121 [(0, .ref (e_z E + x1)), (1, .int x2), (2, .int x4), (3, .int x5), (4, .int x9)] [.int x13, .int x5, .ref (e_z E + x11)] h8 (k x13 h8)) (fun x13 h8 => ?_) (fun k121 hk121 => ?_)
      · refine g_iast (pc := 121) dX12_plans_121 (fun h9 => ?_)
        refine g_aload_n (pc := 122) dX12_plans_122 0 rfl ?_
        refine g_getr (pc := 123) cl12 (Nat.le_of_ble_eq_true rfl) fk1616 (fun _ _ _ => rfl) dX12_plans_123 (fun x14 => ?_)
        refine g_iload_n (pc := 126) dX12_plans_126 3 rfl ?_
        refine g_aload_n (pc := 127) dX12_plans_127 0 rfl ?_
        refine g_iload (pc := 128) dX12_plans_128 4 rfl ?_
        refine g_gS (fun hs => ?_)
        refine g_bRi (pc := 130) (c_V cl12 hs (p_X12_isRested hl x1 x9 h9) y_X12_isRested tw2089 dX12_plans_130 rfl (st := [.int x5, .ref (e_z E + x14)]) rfl (Nat.le_of_ble_eq_true rfl) (Nat.le_of_ble_eq_true rfl) (Nat.le_of_ble_eq_true rfl)) (fun x15 h10 => ?_)
        refine g_join (fun k => ∀ (x16 : Int32) (h11 : aH), J_X12_plans l E n0 m0 167 [(0, .ref (e_z E + x1)), (1, .int x2), (2, .int x4), (3, .int x5)] [.int x16, .int x5, .ref (e_z E + x14)] h11 (k x16 h11)) (fun x16 h11 => ?_) (fun k167 hk167 => ?_)
        · refine g_iast (pc := 167) dX12_plans_167 (fun h12 => ?_)
          refine g_aload_n (pc := 168) dX12_plans_168 0 rfl ?_
          refine g_getr (pc := 169) cl12 (Nat.le_of_ble_eq_true rfl) fk1618 (fun _ _ _ => rfl) dX12_plans_169 (fun x17 => ?_)
          refine g_iload_n (pc := 172) dX12_plans_172 3 rfl ?_
          refine g_aload_n (pc := 173) dX12_plans_173 0 rfl ?_
          refine g_aload_n (pc := 174) dX12_plans_174 0 rfl ?_
          refine g_getr (pc := 175) cl12 (Nat.le_of_ble_eq_true rfl) fk1615 (fun _ _ _ => rfl) dX12_plans_175 (fun x18 => ?_)
          refine g_iload_n (pc := 178) dX12_plans_178 3 rfl ?_
          refine g_iald (pc := 179) dX12_plans_179 (fun x19 => ?_)
          refine g_gS (fun hs => ?_)
          refine g_bRi (pc := 180) (c_V cl12 hs (p_X12_latest hl x1 x19 h12) y_X12_latest tw2108 dX12_plans_180 rfl (st := [.int x5, .ref (e_z E + x17)]) rfl (Nat.le_of_ble_eq_true rfl) (Nat.le_of_ble_eq_true rfl) (Nat.le_of_ble_eq_true rfl)) (fun x20 h13 => ?_)
          refine g_iast (pc := 183) dX12_plans_183 (fun h14 => ?_)
          refine g_iload_n (pc := 184) dX12_plans_184 2 rfl ?_
          refine g_aload_n (pc := 185) dX12_plans_185 0 rfl ?_
          refine g_getr (pc := 186) cl12 (Nat.le_of_ble_eq_true rfl) fk1615 (fun _ _ _ => rfl) dX12_plans_186 (fun x21 => ?_)
          refine g_iload_n (pc := 189) dX12_plans_189 3 rfl ?_
          refine g_iald (pc := 190) dX12_plans_190 (fun x22 => ?_)
          refine g_iconst (pc := 191) dX12_plans_191 ci_m1 ?_
          refine g_ixor (pc := 192) dX12_plans_192 ?_
          refine g_iand (pc := 193) dX12_plans_193 ?_
          refine g_topi (fun x23 => ?_)
          refine g_istore_n (pc := 194) (lv' := [(2, .int x23), (0, .ref (e_z E + x1)), (1, .int x2), (3, .int x5)]) dX12_plans_194 (Nat.le_of_ble_eq_true rfl) rfl ?_
          refine g_aload_n (pc := 195) dX12_plans_195 1 rfl ?_
          refine g_dup (pc := 196) rfl dX12_plans_196 ?_
          refine g_geti (pc := 197) cl12 (Nat.le_of_ble_eq_true rfl) fk1619 (fun _ _ _ => rfl) dX12_plans_197 (fun x24 => ?_)
          refine g_aload_n (pc := 200) dX12_plans_200 1 rfl ?_
          refine g_getr (pc := 201) cl12 (Nat.le_of_ble_eq_true rfl) fk1615 (fun _ _ _ => rfl) dX12_plans_201 (fun x25 => ?_)
          refine g_iload_n (pc := 204) dX12_plans_204 3 rfl ?_
          refine g_iald (pc := 205) dX12_plans_205 (fun x26 => ?_)
          refine g_join (fun k => ∀ (x27 : Int32) (h15 : aH), J_X12_plans l E n0 m0 214 [(0, .ref (e_z E + x1)), (1, .int x2), (2, .int x23), (3, .int x5)] [.int x27, .int x24, .ref (e_z E + x1)] h15 (k x27 h15)) (fun x27 h15 => ?_) (fun k214 hk214 => ?_)
          · refine g_iadd (pc := 214) dX12_plans_214 ?_
            refine g_puti (pc := 215) cl12 (Nat.le_of_ble_eq_true rfl) (Or.inl ⟨rfl, fk1619⟩) (fun _ _ _ => rfl) (fun _ => ⟨rfl, rfl⟩) dX12_plans_215 (fun h16 => ?_)
            refine g_iincN (pc := 218) dX12_plans_218 3 rfl ci_1 (Nat.le_of_ble_eq_true rfl) (fun x28 => ?_)
            refine g_lvr (lv' := [(3, .int x28), (0, .ref (e_z E + x1)), (1, .int x2), (2, .int x23)]) rfl ?_
            refine g_goto (pc := 221) (tgt := 58) dX12_plans_221 rfl ?_
            refine g_lv [1, 2, 3, 0] rfl ?_
            exact hr58 x23 x28 h16
          refine g_ifeq (pc := 206) (tgt := 213) dX12_plans_206 rfl ?_ ?_
          · refine g_iconst (pc := 213) dX12_plans_213 ci_0 ?_
            refine g_lv [1, 2, 0, 3] rfl ?_
            exact hk214 (0 : Int32) h14
          · refine g_iconst (pc := 209) dX12_plans_209 ci_1 ?_
            refine g_goto (pc := 210) (tgt := 214) dX12_plans_210 rfl ?_
            refine g_lv [1, 2, 0, 3] rfl ?_
            exact hk214 (1 : Int32) h14
        refine g_ifeq (pc := 133) (tgt := 140) dX12_plans_133 rfl ?_ ?_
        · refine g_aload_n (pc := 140) dX12_plans_140 0 rfl ?_
          refine g_iload (pc := 141) dX12_plans_141 4 rfl ?_
          refine g_gS (fun hs => ?_)
          refine g_bRi (pc := 143) (c_V cl12 hs (p_X12_isEngineOut hl x1 x9 h10) y_X12_isEngineOut tw2093 dX12_plans_143 rfl (st := [.int x5, .ref (e_z E + x14)]) rfl (Nat.le_of_ble_eq_true rfl) (Nat.le_of_ble_eq_true rfl) (Nat.le_of_ble_eq_true rfl)) (fun x29 h17 => ?_)
          refine g_ifeq (pc := 146) (tgt := 153) dX12_plans_146 rfl ?_ ?_
          · refine g_aload_n (pc := 153) dX12_plans_153 0 rfl ?_
            refine g_getr (pc := 154) cl12 (Nat.le_of_ble_eq_true rfl) fk1615 (fun _ _ _ => rfl) dX12_plans_154 (fun x30 => ?_)
            refine g_iload_n (pc := 157) dX12_plans_157 3 rfl ?_
            refine g_iald (pc := 158) dX12_plans_158 (fun x31 => ?_)
            refine g_ifne (pc := 159) (tgt := 166) dX12_plans_159 rfl ?_ ?_
            · refine g_iconst (pc := 162) dX12_plans_162 ci_3 ?_
              refine g_goto (pc := 163) (tgt := 167) dX12_plans_163 rfl ?_
              refine g_lv [0, 1, 2, 3] rfl ?_
              exact hk167 (3 : Int32) h17
            · refine g_iconst (pc := 166) dX12_plans_166 ci_0 ?_
              refine g_lv [0, 1, 2, 3] rfl ?_
              exact hk167 (0 : Int32) h17
          · refine g_iconst (pc := 149) dX12_plans_149 ci_2 ?_
            refine g_goto (pc := 150) (tgt := 167) dX12_plans_150 rfl ?_
            refine g_lv [0, 1, 2, 3] rfl ?_
            exact hk167 (2 : Int32) h17
        · refine g_iconst (pc := 136) dX12_plans_136 ci_1 ?_
          refine g_goto (pc := 137) (tgt := 167) dX12_plans_137 rfl ?_
          refine g_lv [0, 1, 2, 3] rfl ?_
          exact hk167 (1 : Int32) h10
      refine g_join (fun k => ∀ (h18 : aH), J_X12_plans l E n0 m0 110 [(0, .ref (e_z E + x1)), (1, .int x2), (2, .int x4), (3, .int x5), (4, .int x9)] [.int x5, .ref (e_z E + x11)] h18 (k h18)) (fun h18 => ?_) (fun k110 hk110 => ?_)
      · refine g_iconst (pc := 110) dX12_plans_110 ci_0 ?_
        refine g_goto (pc := 111) (tgt := 121) dX12_plans_111 rfl ?_
        exact hk121 (0 : Int32) h18
      refine g_ifne (pc := 98) (tgt := 110) dX12_plans_98 rfl ?_ ?_
      · refine g_aload_n (pc := 101) dX12_plans_101 1 rfl ?_
        refine g_iload (pc := 102) dX12_plans_102 0 rfl ?_
        refine g_gS (fun hs => ?_)
        refine g_bRi (pc := 104) (c_V cl12 hs (p_X12_isEngineOut hl x1 x9 h7) y_X12_isEngineOut tw2093 dX12_plans_104 rfl (st := [.int x5, .ref (e_z E + x11)]) rfl (Nat.le_of_ble_eq_true rfl) (Nat.le_of_ble_eq_true rfl) (Nat.le_of_ble_eq_true rfl)) (fun x32 h19 => ?_)
        refine g_ifeq (pc := 107) (tgt := 114) dX12_plans_107 rfl ?_ ?_
        · refine g_aload_n (pc := 114) dX12_plans_114 1 rfl ?_
          refine g_iload (pc := 115) dX12_plans_115 0 rfl ?_
          refine g_iload_n (pc := 117) dX12_plans_117 3 rfl ?_
          refine g_gS (fun hs => ?_)
          refine g_bRi (pc := 118) (c_V cl12 hs (p_X12_crewOf hl x1 x9 x4 h19) y_X12_crewOf tw2097 dX12_plans_118 rfl (st := [.int x5, .ref (e_z E + x11)]) rfl (Nat.le_of_ble_eq_true rfl) (Nat.le_of_ble_eq_true rfl) (Nat.le_of_ble_eq_true rfl)) (fun x33 h20 => ?_)
          refine g_lv [1, 2, 3, 4, 0] rfl ?_
          exact hk121 x33 h20
        · refine g_lv [1, 2, 3, 4, 0] rfl ?_
          exact hk110 h19
      · refine g_lv [1, 2, 3, 4, 0] rfl ?_
        exact hk110 h7
    · refine g_lv [] rfl ?_
      exact hk224 h5
  refine g_lv [1, 2, 0] rfl ?_
  refine g_loop1 (F := (m_X12_plans_L7 x1 x2 k46)) (fun x34 => [(0, .ref (e_z E + x1)), (1, .int x2), (2, .int x34)]) (fun r7 hr7 x34 h21 => ?_) _ _ _
  unfold m_X12_plans_L7
  refine g_iload_n (pc := 7) dX12_plans_7 2 rfl ?_
  refine g_aload_n (pc := 8) dX12_plans_8 0 rfl ?_
  refine g_geti (pc := 9) cl12 (Nat.le_of_ble_eq_true rfl) fk1559 (fun _ _ _ => rfl) dX12_plans_9 (fun x35 => ?_)
  refine g_icmpge (pc := 12) (tgt := 46) dX12_plans_12 rfl ?_ ?_
  · refine g_aload_n (pc := 15) dX12_plans_15 0 rfl ?_
    refine g_dup (pc := 16) rfl dX12_plans_16 ?_
    refine g_geti (pc := 17) cl12 (Nat.le_of_ble_eq_true rfl) fk1614 (fun _ _ _ => rfl) dX12_plans_17 (fun x36 => ?_)
    refine g_aload_n (pc := 20) dX12_plans_20 0 rfl ?_
    refine g_iload_n (pc := 21) dX12_plans_21 1 rfl ?_
    refine g_iload_n (pc := 22) dX12_plans_22 2 rfl ?_
    refine g_gS (fun hs => ?_)
    refine g_bRi (pc := 23) (c_V cl12 hs (p_X12_absent hl x1 x2 x34 h21) y_X12_absent tw2073 dX12_plans_23 rfl (st := [.int x36, .ref (e_z E + x1)]) rfl (Nat.le_of_ble_eq_true rfl) (Nat.le_of_ble_eq_true rfl) (Nat.le_of_ble_eq_true rfl)) (fun x37 h22 => ?_)
    refine g_join (fun k => ∀ (x38 : Int32) (h23 : aH), J_X12_plans l E n0 m0 36 [(0, .ref (e_z E + x1)), (1, .int x2), (2, .int x34)] [.int x38, .int x36, .ref (e_z E + x1)] h23 (k x38 h23)) (fun x38 h23 => ?_) (fun k36 hk36 => ?_)
    · refine g_ior (pc := 36) dX12_plans_36 ?_
      refine g_puti (pc := 37) cl12 (Nat.le_of_ble_eq_true rfl) (Or.inl ⟨rfl, fk1614⟩) (fun _ _ _ => rfl) (fun _ => ⟨rfl, rfl⟩) dX12_plans_37 (fun h24 => ?_)
      refine g_iincN (pc := 40) dX12_plans_40 2 rfl ci_1 (Nat.le_of_ble_eq_true rfl) (fun x39 => ?_)
      refine g_lvr (lv' := [(2, .int x39), (0, .ref (e_z E + x1)), (1, .int x2)]) rfl ?_
      refine g_goto (pc := 43) (tgt := 7) dX12_plans_43 rfl ?_
      refine g_lv [1, 2, 0] rfl ?_
      exact hr7 x39 h24
    refine g_ifne (pc := 26) (tgt := 35) dX12_plans_26 rfl ?_ ?_
    · refine g_iconst (pc := 29) dX12_plans_29 ci_1 ?_
      refine g_iload_n (pc := 30) dX12_plans_30 2 rfl ?_
      refine g_ishl (pc := 31) dX12_plans_31 ?_
      refine g_goto (pc := 32) (tgt := 36) dX12_plans_32 rfl ?_
      exact hk36 ((1 : Int32) <<< (x34 &&& 31)) h22
    · refine g_iconst (pc := 35) dX12_plans_35 ci_0 ?_
      exact hk36 (0 : Int32) h22
  · refine g_lv [0, 1] rfl ?_
    exact hk46 h21
theorem p_X12_plans {l : Launch} {E : aE} (hl : l.stackTraces = false) (x1 : Nat) (x2 : Int32) (h0 : aH) : MO (fun (_ : Unit) => .inl none) l E yX12_plans (.code yX12_plans cX12_plans 5 none) 5 111 [.ref (e_z E + x1), .int x2] h0 (m_X12_plans x1 x2 h0) := g_met hl (by decide +kernel) (Nat.le_of_ble_eq_true rfl) (b_X12_plans hl _ _ x1 x2 h0)
theorem dX12_isKind_0 : decode cX12_isKind 0 = .ok (.iload_n 1, 1) := by decide +kernel
theorem dX12_isKind_1 : decode cX12_isKind 1 = .ok (.i2l, 1) := by decide +kernel
theorem dX12_isKind_2 : decode cX12_isKind 2 = .ok (.lconst 0, 1) := by decide +kernel
theorem dX12_isKind_3 : decode cX12_isKind 3 = .ok (.aload_n 0, 1) := by decide +kernel
theorem dX12_isKind_4 : decode cX12_isKind 4 = .ok (.getfield 334, 3) := by decide +kernel
theorem dX12_isKind_7 : decode cX12_isKind 7 = .ok (.iconst 1, 1) := by decide +kernel
theorem dX12_isKind_8 : decode cX12_isKind 8 = .ok (.isub, 1) := by decide +kernel
theorem dX12_isKind_9 : decode cX12_isKind 9 = .ok (.i2l, 1) := by decide +kernel
theorem dX12_isKind_10 : decode cX12_isKind 10 = .ok (.invokestatic 176, 3) := by decide +kernel
theorem dX12_isKind_13 : decode cX12_isKind 13 = .ok (.ireturn, 1) := by decide +kernel
abbrev M_X12_isKind : aM := (yX12_isKind.cls, cX12_isKind, 2, (some .boolean), [], yX12_isKind.name == "<init>")
abbrev J_X12_isKind (l : Launch) (E : aE) (n0 m0 : Nat) := GG (fun (v : Int32) => .inl (some (.int v))) l E M_X12_isKind 1 25 n0 m0
theorem b_X12_isKind {l : Launch} {E : aE} (hl : l.stackTraces = false) (n0 m0 : Nat) (x1 : Nat) (x2 : Int32) (h0 : aH) : J_X12_isKind l E n0 m0 0 [(0, .ref (e_z E + x1)), (1, .int x2)] [] h0 (m_X12_isKind x1 x2 h0) := by
  unfold m_X12_isKind
  refine g_iload_n (pc := 0) dX12_isKind_0 1 rfl ?_
  refine g_i2l (pc := 1) dX12_isKind_1 ?_
  refine g_lconst (pc := 2) dX12_isKind_2 cl_0 ?_
  refine g_aload_n (pc := 3) dX12_isKind_3 0 rfl ?_
  refine g_geti (pc := 4) cl12 (Nat.le_of_ble_eq_true rfl) fk1562 (fun _ _ _ => rfl) dX12_isKind_4 (fun x3 => ?_)
  refine g_iconst (pc := 7) dX12_isKind_7 ci_1 ?_
  refine g_isub (pc := 8) dX12_isKind_8 ?_
  refine g_i2l (pc := 9) dX12_isKind_9 ?_
  refine g_bRi (pc := 10) (c_S (p_X12_in hl (x2.toInt64) (0 : Int64) ((x3 - (1 : Int32)).toInt64) h0) y_X12_in tw1782 dX12_isKind_10 rfl (st := []) rfl (Nat.le_of_ble_eq_true rfl) (Nat.le_of_ble_eq_true rfl) (Nat.le_of_ble_eq_true rfl)) (fun x4 h1 => ?_)
  refine g_zO (fun hz => ?_)
  exact g_ret (pc := 13) rfl (isRet_z hz) dX12_isKind_13 rfl
theorem p_X12_isKind {l : Launch} {E : aE} (hl : l.stackTraces = false) (x1 : Nat) (x2 : Int32) (h0 : aH) : MO (fun (v : Int32) => .inl (some (.int v))) l E yX12_isKind (.code yX12_isKind cX12_isKind 2 (some .boolean)) 1 25 [.ref (e_z E + x1), .int x2] h0 (m_X12_isKind x1 x2 h0) := g_met hl (by decide +kernel) (Nat.le_of_ble_eq_true rfl) (b_X12_isKind hl _ _ x1 x2 h0)
theorem dX12_isEngine_0 : decode cX12_isEngine 0 = .ok (.aload_n 0, 1) := by decide +kernel
theorem dX12_isEngine_1 : decode cX12_isEngine 1 = .ok (.iload_n 1, 1) := by decide +kernel
theorem dX12_isEngine_2 : decode cX12_isEngine 2 = .ok (.invokevirtual 443, 3) := by decide +kernel
theorem dX12_isEngine_5 : decode cX12_isEngine 5 = .ok (.ifCond .eq 25, 3) := by decide +kernel
theorem dX12_isEngine_8 : decode cX12_isEngine 8 = .ok (.iload_n 2, 1) := by decide +kernel
theorem dX12_isEngine_9 : decode cX12_isEngine 9 = .ok (.i2l, 1) := by decide +kernel
theorem dX12_isEngine_10 : decode cX12_isEngine 10 = .ok (.lconst 0, 1) := by decide +kernel
theorem dX12_isEngine_11 : decode cX12_isEngine 11 = .ok (.aload_n 0, 1) := by decide +kernel
theorem dX12_isEngine_12 : decode cX12_isEngine 12 = .ok (.getfield 72, 3) := by decide +kernel
theorem dX12_isEngine_15 : decode cX12_isEngine 15 = .ok (.iload_n 1, 1) := by decide +kernel
theorem dX12_isEngine_16 : decode cX12_isEngine 16 = .ok (.iaload, 1) := by decide +kernel
theorem dX12_isEngine_17 : decode cX12_isEngine 17 = .ok (.iconst 1, 1) := by decide +kernel
theorem dX12_isEngine_18 : decode cX12_isEngine 18 = .ok (.isub, 1) := by decide +kernel
theorem dX12_isEngine_19 : decode cX12_isEngine 19 = .ok (.i2l, 1) := by decide +kernel
theorem dX12_isEngine_20 : decode cX12_isEngine 20 = .ok (.invokestatic 176, 3) := by decide +kernel
theorem dX12_isEngine_23 : decode cX12_isEngine 23 = .ok (.ifCond .eq 7, 3) := by decide +kernel
theorem dX12_isEngine_26 : decode cX12_isEngine 26 = .ok (.iconst 1, 1) := by decide +kernel
theorem dX12_isEngine_27 : decode cX12_isEngine 27 = .ok (.goto 4, 3) := by decide +kernel
theorem dX12_isEngine_30 : decode cX12_isEngine 30 = .ok (.iconst 0, 1) := by decide +kernel
theorem dX12_isEngine_31 : decode cX12_isEngine 31 = .ok (.ireturn, 1) := by decide +kernel
abbrev M_X12_isEngine : aM := (yX12_isEngine.cls, cX12_isEngine, 3, (some .boolean), [], yX12_isEngine.name == "<init>")
abbrev J_X12_isEngine (l : Launch) (E : aE) (n0 m0 : Nat) := GG (fun (v : Int32) => .inl (some (.int v))) l E M_X12_isEngine 2 46 n0 m0
theorem b_X12_isEngine {l : Launch} {E : aE} (hl : l.stackTraces = false) (n0 m0 : Nat) (x1 : Nat) (x2 : Int32) (x3 : Int32) (h0 : aH) : J_X12_isEngine l E n0 m0 0 [(0, .ref (e_z E + x1)), (1, .int x2), (2, .int x3)] [] h0 (m_X12_isEngine x1 x2 x3 h0) := by
  unfold m_X12_isEngine
  refine g_aload_n (pc := 0) dX12_isEngine_0 0 rfl ?_
  refine g_iload_n (pc := 1) dX12_isEngine_1 1 rfl ?_
  refine g_gS (fun hs => ?_)
  refine g_bRi (pc := 2) (c_V cl12 hs (p_X12_isKind hl x1 x2 h0) y_X12_isKind tw2069 dX12_isEngine_2 rfl (st := []) rfl (Nat.le_of_ble_eq_true rfl) (Nat.le_of_ble_eq_true rfl) (Nat.le_of_ble_eq_true rfl)) (fun x4 h1 => ?_)
  refine g_join (fun k => ∀ (x5 : Int32) (h2 : aH), J_X12_isEngine l E n0 m0 31 [] [.int x5] h2 (k x5 h2)) (fun x5 h2 => ?_) (fun k31 hk31 => ?_)
  · refine g_zO (fun hz => ?_)
    exact g_ret (pc := 31) rfl (isRet_z hz) dX12_isEngine_31 rfl
  refine g_join (fun k => ∀ (h3 : aH), J_X12_isEngine l E n0 m0 30 [] [] h3 (k h3)) (fun h3 => ?_) (fun k30 hk30 => ?_)
  · refine g_iconst (pc := 30) dX12_isEngine_30 ci_0 ?_
    exact hk31 (0 : Int32) h3
  refine g_ifeq (pc := 5) (tgt := 30) dX12_isEngine_5 rfl ?_ ?_
  · refine g_lv [] rfl ?_
    exact hk30 h1
  · refine g_iload_n (pc := 8) dX12_isEngine_8 2 rfl ?_
    refine g_i2l (pc := 9) dX12_isEngine_9 ?_
    refine g_lconst (pc := 10) dX12_isEngine_10 cl_0 ?_
    refine g_aload_n (pc := 11) dX12_isEngine_11 0 rfl ?_
    refine g_getr (pc := 12) cl12 (Nat.le_of_ble_eq_true rfl) fk1577 (fun _ _ _ => rfl) dX12_isEngine_12 (fun x7 => ?_)
    refine g_iload_n (pc := 15) dX12_isEngine_15 1 rfl ?_
    refine g_iald (pc := 16) dX12_isEngine_16 (fun x8 => ?_)
    refine g_iconst (pc := 17) dX12_isEngine_17 ci_1 ?_
    refine g_isub (pc := 18) dX12_isEngine_18 ?_
    refine g_i2l (pc := 19) dX12_isEngine_19 ?_
    refine g_bRi (pc := 20) (c_S (p_X12_in hl (x3.toInt64) (0 : Int64) ((x8 - (1 : Int32)).toInt64) h1) y_X12_in tw1782 dX12_isEngine_20 rfl (st := []) rfl (Nat.le_of_ble_eq_true rfl) (Nat.le_of_ble_eq_true rfl) (Nat.le_of_ble_eq_true rfl)) (fun x9 h4 => ?_)
    refine g_ifeq (pc := 23) (tgt := 30) dX12_isEngine_23 rfl ?_ ?_
    · refine g_lv [] rfl ?_
      exact hk30 h4
    · refine g_iconst (pc := 26) dX12_isEngine_26 ci_1 ?_
      refine g_goto (pc := 27) (tgt := 31) dX12_isEngine_27 rfl ?_
      refine g_lv [] rfl ?_
      exact hk31 (1 : Int32) h4
theorem p_X12_isEngine {l : Launch} {E : aE} (hl : l.stackTraces = false) (x1 : Nat) (x2 : Int32) (x3 : Int32) (h0 : aH) : MO (fun (v : Int32) => .inl (some (.int v))) l E yX12_isEngine (.code yX12_isEngine cX12_isEngine 3 (some .boolean)) 2 46 [.ref (e_z E + x1), .int x2, .int x3] h0 (m_X12_isEngine x1 x2 x3 h0) := g_met hl (by decide +kernel) (Nat.le_of_ble_eq_true rfl) (b_X12_isEngine hl _ _ x1 x2 x3 h0)
theorem dX12_answers_0 : decode cX12_answers 0 = .ok (.aload_n 0, 1) := by decide +kernel
theorem dX12_answers_1 : decode cX12_answers 1 = .ok (.iload_n 1, 1) := by decide +kernel
theorem dX12_answers_2 : decode cX12_answers 2 = .ok (.invokevirtual 446, 3) := by decide +kernel
theorem dX12_answers_5 : decode cX12_answers 5 = .ok (.aload_n 0, 1) := by decide +kernel
theorem dX12_answers_6 : decode cX12_answers 6 = .ok (.getfield 431, 3) := by decide +kernel
theorem dX12_answers_9 : decode cX12_answers 9 = .ok (.aload_n 0, 1) := by decide +kernel
theorem dX12_answers_10 : decode cX12_answers 10 = .ok (.getfield 63, 3) := by decide +kernel
theorem dX12_answers_13 : decode cX12_answers 13 = .ok (.iload_n 1, 1) := by decide +kernel
theorem dX12_answers_14 : decode cX12_answers 14 = .ok (.iaload, 1) := by decide +kernel
theorem dX12_answers_15 : decode cX12_answers 15 = .ok (.if_icmp .lt 7, 3) := by decide +kernel
theorem dX12_answers_18 : decode cX12_answers 18 = .ok (.iconst 1, 1) := by decide +kernel
theorem dX12_answers_19 : decode cX12_answers 19 = .ok (.goto 4, 3) := by decide +kernel
theorem dX12_answers_22 : decode cX12_answers 22 = .ok (.iconst 0, 1) := by decide +kernel
theorem dX12_answers_23 : decode cX12_answers 23 = .ok (.ireturn, 1) := by decide +kernel
abbrev M_X12_answers : aM := (yX12_answers.cls, cX12_answers, 2, (some .boolean), [], yX12_answers.name == "<init>")
abbrev J_X12_answers (l : Launch) (E : aE) (n0 m0 : Nat) := GG (fun (v : Int32) => .inl (some (.int v))) l E M_X12_answers 6 135 n0 m0
theorem b_X12_answers {l : Launch} {E : aE} (hl : l.stackTraces = false) (n0 m0 : Nat) (x1 : Nat) (x2 : Int32) (h0 : aH) : J_X12_answers l E n0 m0 0 [(0, .ref (e_z E + x1)), (1, .int x2)] [] h0 (m_X12_answers x1 x2 h0) := by
  unfold m_X12_answers
  refine g_aload_n (pc := 0) dX12_answers_0 0 rfl ?_
  refine g_iload_n (pc := 1) dX12_answers_1 1 rfl ?_
  refine g_gS (fun hs => ?_)
  refine g_bRv (pc := 2) (c_V cl12 hs (p_X12_plans hl x1 x2 h0) y_X12_plans tw2085 dX12_answers_2 rfl (st := []) rfl (Nat.le_of_ble_eq_true rfl) (Nat.le_of_ble_eq_true rfl) (Nat.le_of_ble_eq_true rfl)) (fun _ h1 => ?_)
  refine g_aload_n (pc := 5) dX12_answers_5 0 rfl ?_
  refine g_geti (pc := 6) cl12 (Nat.le_of_ble_eq_true rfl) fk1619 (fun _ _ _ => rfl) dX12_answers_6 (fun x3 => ?_)
  refine g_aload_n (pc := 9) dX12_answers_9 0 rfl ?_
  refine g_getr (pc := 10) cl12 (Nat.le_of_ble_eq_true rfl) fk1574 (fun _ _ _ => rfl) dX12_answers_10 (fun x4 => ?_)
  refine g_iload_n (pc := 13) dX12_answers_13 1 rfl ?_
  refine g_iald (pc := 14) dX12_answers_14 (fun x5 => ?_)
  refine g_join (fun k => ∀ (x6 : Int32) (h2 : aH), J_X12_answers l E n0 m0 23 [] [.int x6] h2 (k x6 h2)) (fun x6 h2 => ?_) (fun k23 hk23 => ?_)
  · refine g_zO (fun hz => ?_)
    exact g_ret (pc := 23) rfl (isRet_z hz) dX12_answers_23 rfl
  refine g_icmplt (pc := 15) (tgt := 22) dX12_answers_15 rfl ?_ ?_
  · refine g_iconst (pc := 22) dX12_answers_22 ci_0 ?_
    refine g_lv [] rfl ?_
    exact hk23 (0 : Int32) h1
  · refine g_iconst (pc := 18) dX12_answers_18 ci_1 ?_
    refine g_goto (pc := 19) (tgt := 23) dX12_answers_19 rfl ?_
    refine g_lv [] rfl ?_
    exact hk23 (1 : Int32) h1
theorem p_X12_answers {l : Launch} {E : aE} (hl : l.stackTraces = false) (x1 : Nat) (x2 : Int32) (h0 : aH) : MO (fun (v : Int32) => .inl (some (.int v))) l E yX12_answers (.code yX12_answers cX12_answers 2 (some .boolean)) 6 135 [.ref (e_z E + x1), .int x2] h0 (m_X12_answers x1 x2 h0) := g_met hl (by decide +kernel) (Nat.le_of_ble_eq_true rfl) (b_X12_answers hl _ _ x1 x2 h0)
theorem dX12_whyAbsent_0 : decode cX12_whyAbsent 0 = .ok (.aload_n 0, 1) := by decide +kernel
theorem dX12_whyAbsent_1 : decode cX12_whyAbsent 1 = .ok (.aload_n 0, 1) := by decide +kernel
theorem dX12_whyAbsent_2 : decode cX12_whyAbsent 2 = .ok (.iload_n 1, 1) := by decide +kernel
theorem dX12_whyAbsent_3 : decode cX12_whyAbsent 3 = .ok (.invokevirtual 443, 3) := by decide +kernel
theorem dX12_whyAbsent_6 : decode cX12_whyAbsent 6 = .ok (.ifCond .eq 15, 3) := by decide +kernel
theorem dX12_whyAbsent_9 : decode cX12_whyAbsent 9 = .ok (.aload_n 0, 1) := by decide +kernel
theorem dX12_whyAbsent_10 : decode cX12_whyAbsent 10 = .ok (.iload_n 2, 1) := by decide +kernel
theorem dX12_whyAbsent_11 : decode cX12_whyAbsent 11 = .ok (.invokevirtual 353, 3) := by decide +kernel
theorem dX12_whyAbsent_14 : decode cX12_whyAbsent 14 = .ok (.ifCond .eq 7, 3) := by decide +kernel
theorem dX12_whyAbsent_17 : decode cX12_whyAbsent 17 = .ok (.iconst 0, 1) := by decide +kernel
theorem dX12_whyAbsent_18 : decode cX12_whyAbsent 18 = .ok (.goto 4, 3) := by decide +kernel
theorem dX12_whyAbsent_21 : decode cX12_whyAbsent 21 = .ok (.iconst 1, 1) := by decide +kernel
theorem dX12_whyAbsent_22 : decode cX12_whyAbsent 22 = .ok (.putfield 166, 3) := by decide +kernel
theorem dX12_whyAbsent_25 : decode cX12_whyAbsent 25 = .ok (.aload_n 0, 1) := by decide +kernel
theorem dX12_whyAbsent_26 : decode cX12_whyAbsent 26 = .ok (.getfield 166, 3) := by decide +kernel
theorem dX12_whyAbsent_29 : decode cX12_whyAbsent 29 = .ok (.ifCond .le 7, 3) := by decide +kernel
theorem dX12_whyAbsent_32 : decode cX12_whyAbsent 32 = .ok (.iconst 0, 1) := by decide +kernel
theorem dX12_whyAbsent_33 : decode cX12_whyAbsent 33 = .ok (.goto 9, 3) := by decide +kernel
theorem dX12_whyAbsent_36 : decode cX12_whyAbsent 36 = .ok (.aload_n 0, 1) := by decide +kernel
theorem dX12_whyAbsent_37 : decode cX12_whyAbsent 37 = .ok (.iload_n 1, 1) := by decide +kernel
theorem dX12_whyAbsent_38 : decode cX12_whyAbsent 38 = .ok (.iload_n 2, 1) := by decide +kernel
theorem dX12_whyAbsent_39 : decode cX12_whyAbsent 39 = .ok (.invokevirtual 428, 3) := by decide +kernel
theorem dX12_whyAbsent_42 : decode cX12_whyAbsent 42 = .ok (.ireturn, 1) := by decide +kernel
abbrev M_X12_whyAbsent : aM := (yX12_whyAbsent.cls, cX12_whyAbsent, 3, (some .int), [], yX12_whyAbsent.name == "<init>")
abbrev J_X12_whyAbsent (l : Launch) (E : aE) (n0 m0 : Nat) := GG (fun (v : Int32) => .inl (some (.int v))) l E M_X12_whyAbsent 5 111 n0 m0
theorem b_X12_whyAbsent {l : Launch} {E : aE} (hl : l.stackTraces = false) (n0 m0 : Nat) (x1 : Nat) (x2 : Int32) (x3 : Int32) (h0 : aH) : J_X12_whyAbsent l E n0 m0 0 [(0, .ref (e_z E + x1)), (1, .int x2), (2, .int x3)] [] h0 (m_X12_whyAbsent x1 x2 x3 h0) := by
  unfold m_X12_whyAbsent
  refine g_aload_n (pc := 0) dX12_whyAbsent_0 0 rfl ?_
  refine g_aload_n (pc := 1) dX12_whyAbsent_1 0 rfl ?_
  refine g_iload_n (pc := 2) dX12_whyAbsent_2 1 rfl ?_
  refine g_gS (fun hs => ?_)
  refine g_bRi (pc := 3) (c_V cl12 hs (p_X12_isKind hl x1 x2 h0) y_X12_isKind tw2069 dX12_whyAbsent_3 rfl (st := [.ref (e_z E + x1)]) rfl (Nat.le_of_ble_eq_true rfl) (Nat.le_of_ble_eq_true rfl) (Nat.le_of_ble_eq_true rfl)) (fun x4 h1 => ?_)
  refine g_join (fun k => ∀ (x5 : Int32) (h2 : aH), J_X12_whyAbsent l E n0 m0 22 [(0, .ref (e_z E + x1)), (1, .int x2), (2, .int x3)] [.int x5, .ref (e_z E + x1)] h2 (k x5 h2)) (fun x5 h2 => ?_) (fun k22 hk22 => ?_)
  · refine g_puti (pc := 22) cl12 (Nat.le_of_ble_eq_true rfl) (Or.inl ⟨rfl, fk1551⟩) (fun _ _ _ => rfl) (fun _ => ⟨rfl, rfl⟩) dX12_whyAbsent_22 (fun h3 => ?_)
    refine g_aload_n (pc := 25) dX12_whyAbsent_25 0 rfl ?_
    refine g_geti (pc := 26) cl12 (Nat.le_of_ble_eq_true rfl) fk1551 (fun _ _ _ => rfl) dX12_whyAbsent_26 (fun x6 => ?_)
    refine g_join (fun k => ∀ (x7 : Int32) (h4 : aH), J_X12_whyAbsent l E n0 m0 42 [] [.int x7] h4 (k x7 h4)) (fun x7 h4 => ?_) (fun k42 hk42 => ?_)
    · exact g_ret (pc := 42) rfl (isRet_i _) dX12_whyAbsent_42 rfl
    refine g_ifle (pc := 29) (tgt := 36) dX12_whyAbsent_29 rfl ?_ ?_
    · refine g_aload_n (pc := 36) dX12_whyAbsent_36 0 rfl ?_
      refine g_iload_n (pc := 37) dX12_whyAbsent_37 1 rfl ?_
      refine g_iload_n (pc := 38) dX12_whyAbsent_38 2 rfl ?_
      refine g_gS (fun hs => ?_)
      refine g_bRi (pc := 39) (c_V cl12 hs (p_X12_absent hl x1 x2 x3 h3) y_X12_absent tw2073 dX12_whyAbsent_39 rfl (st := []) rfl (Nat.le_of_ble_eq_true rfl) (Nat.le_of_ble_eq_true rfl) (Nat.le_of_ble_eq_true rfl)) (fun x8 h5 => ?_)
      refine g_lv [] rfl ?_
      exact hk42 x8 h5
    · refine g_iconst (pc := 32) dX12_whyAbsent_32 ci_0 ?_
      refine g_goto (pc := 33) (tgt := 42) dX12_whyAbsent_33 rfl ?_
      refine g_lv [] rfl ?_
      exact hk42 (0 : Int32) h3
  refine g_join (fun k => ∀ (h6 : aH), J_X12_whyAbsent l E n0 m0 21 [(0, .ref (e_z E + x1)), (1, .int x2), (2, .int x3)] [.ref (e_z E + x1)] h6 (k h6)) (fun h6 => ?_) (fun k21 hk21 => ?_)
  · refine g_iconst (pc := 21) dX12_whyAbsent_21 ci_1 ?_
    exact hk22 (1 : Int32) h6
  refine g_ifeq (pc := 6) (tgt := 21) dX12_whyAbsent_6 rfl ?_ ?_
  · exact hk21 h1
  · refine g_aload_n (pc := 9) dX12_whyAbsent_9 0 rfl ?_
    refine g_iload_n (pc := 10) dX12_whyAbsent_10 2 rfl ?_
    refine g_gS (fun hs => ?_)
    refine g_bRi (pc := 11) (c_V cl12 hs (p_X12_isPerson hl x1 x3 h1) y_X12_isPerson tw1927 dX12_whyAbsent_11 rfl (st := [.ref (e_z E + x1)]) rfl (Nat.le_of_ble_eq_true rfl) (Nat.le_of_ble_eq_true rfl) (Nat.le_of_ble_eq_true rfl)) (fun x9 h7 => ?_)
    refine g_ifeq (pc := 14) (tgt := 21) dX12_whyAbsent_14 rfl ?_ ?_
    · exact hk21 h7
    · refine g_iconst (pc := 17) dX12_whyAbsent_17 ci_0 ?_
      refine g_goto (pc := 18) (tgt := 22) dX12_whyAbsent_18 rfl ?_
      exact hk22 (0 : Int32) h7
theorem p_X12_whyAbsent {l : Launch} {E : aE} (hl : l.stackTraces = false) (x1 : Nat) (x2 : Int32) (x3 : Int32) (h0 : aH) : MO (fun (v : Int32) => .inl (some (.int v))) l E yX12_whyAbsent (.code yX12_whyAbsent cX12_whyAbsent 3 (some .int)) 5 111 [.ref (e_z E + x1), .int x2, .int x3] h0 (m_X12_whyAbsent x1 x2 x3 h0) := g_met hl (by decide +kernel) (Nat.le_of_ble_eq_true rfl) (b_X12_whyAbsent hl _ _ x1 x2 x3 h0)
theorem dX12_whyStays_0 : decode cX12_whyStays 0 = .ok (.aload_n 0, 1) := by decide +kernel
theorem dX12_whyStays_1 : decode cX12_whyStays 1 = .ok (.aload_n 0, 1) := by decide +kernel
theorem dX12_whyStays_2 : decode cX12_whyStays 2 = .ok (.iload_n 1, 1) := by decide +kernel
theorem dX12_whyStays_3 : decode cX12_whyStays 3 = .ok (.iload_n 2, 1) := by decide +kernel
theorem dX12_whyStays_4 : decode cX12_whyStays 4 = .ok (.invokevirtual 449, 3) := by decide +kernel
theorem dX12_whyStays_7 : decode cX12_whyStays 7 = .ok (.ifCond .eq 7, 3) := by decide +kernel
theorem dX12_whyStays_10 : decode cX12_whyStays 10 = .ok (.iconst 0, 1) := by decide +kernel
theorem dX12_whyStays_11 : decode cX12_whyStays 11 = .ok (.goto 4, 3) := by decide +kernel
theorem dX12_whyStays_14 : decode cX12_whyStays 14 = .ok (.iconst 1, 1) := by decide +kernel
theorem dX12_whyStays_15 : decode cX12_whyStays 15 = .ok (.putfield 166, 3) := by decide +kernel
theorem dX12_whyStays_18 : decode cX12_whyStays 18 = .ok (.aload_n 0, 1) := by decide +kernel
theorem dX12_whyStays_19 : decode cX12_whyStays 19 = .ok (.getfield 166, 3) := by decide +kernel
theorem dX12_whyStays_22 : decode cX12_whyStays 22 = .ok (.ifCond .le 5, 3) := by decide +kernel
theorem dX12_whyStays_25 : decode cX12_whyStays 25 = .ok (.iconst 0, 1) := by decide +kernel
theorem dX12_whyStays_26 : decode cX12_whyStays 26 = .ok (.ireturn, 1) := by decide +kernel
theorem dX12_whyStays_27 : decode cX12_whyStays 27 = .ok (.aload_n 0, 1) := by decide +kernel
theorem dX12_whyStays_28 : decode cX12_whyStays 28 = .ok (.iload_n 1, 1) := by decide +kernel
theorem dX12_whyStays_29 : decode cX12_whyStays 29 = .ok (.invokevirtual 446, 3) := by decide +kernel
theorem dX12_whyStays_32 : decode cX12_whyStays 32 = .ok (.aload_n 0, 1) := by decide +kernel
theorem dX12_whyStays_33 : decode cX12_whyStays 33 = .ok (.getfield 148, 3) := by decide +kernel
theorem dX12_whyStays_36 : decode cX12_whyStays 36 = .ok (.iload_n 2, 1) := by decide +kernel
theorem dX12_whyStays_37 : decode cX12_whyStays 37 = .ok (.iaload, 1) := by decide +kernel
theorem dX12_whyStays_38 : decode cX12_whyStays 38 = .ok (.ireturn, 1) := by decide +kernel
abbrev M_X12_whyStays : aM := (yX12_whyStays.cls, cX12_whyStays, 3, (some .int), [], yX12_whyStays.name == "<init>")
abbrev J_X12_whyStays (l : Launch) (E : aE) (n0 m0 : Nat) := GG (fun (v : Int32) => .inl (some (.int v))) l E M_X12_whyStays 6 135 n0 m0
theorem b_X12_whyStays {l : Launch} {E : aE} (hl : l.stackTraces = false) (n0 m0 : Nat) (x1 : Nat) (x2 : Int32) (x3 : Int32) (h0 : aH) : J_X12_whyStays l E n0 m0 0 [(0, .ref (e_z E + x1)), (1, .int x2), (2, .int x3)] [] h0 (m_X12_whyStays x1 x2 x3 h0) := by
  unfold m_X12_whyStays
  refine g_aload_n (pc := 0) dX12_whyStays_0 0 rfl ?_
  refine g_aload_n (pc := 1) dX12_whyStays_1 0 rfl ?_
  refine g_iload_n (pc := 2) dX12_whyStays_2 1 rfl ?_
  refine g_iload_n (pc := 3) dX12_whyStays_3 2 rfl ?_
  refine g_gS (fun hs => ?_)
  refine g_bRi (pc := 4) (c_V cl12 hs (p_X12_isEngine hl x1 x2 x3 h0) y_X12_isEngine tw2081 dX12_whyStays_4 rfl (st := [.ref (e_z E + x1)]) rfl (Nat.le_of_ble_eq_true rfl) (Nat.le_of_ble_eq_true rfl) (Nat.le_of_ble_eq_true rfl)) (fun x4 h1 => ?_)
  refine g_join (fun k => ∀ (x5 : Int32) (h2 : aH), J_X12_whyStays l E n0 m0 15 [(0, .ref (e_z E + x1)), (1, .int x2), (2, .int x3)] [.int x5, .ref (e_z E + x1)] h2 (k x5 h2)) (fun x5 h2 => ?_) (fun k15 hk15 => ?_)
  · refine g_puti (pc := 15) cl12 (Nat.le_of_ble_eq_true rfl) (Or.inl ⟨rfl, fk1551⟩) (fun _ _ _ => rfl) (fun _ => ⟨rfl, rfl⟩) dX12_whyStays_15 (fun h3 => ?_)
    refine g_aload_n (pc := 18) dX12_whyStays_18 0 rfl ?_
    refine g_geti (pc := 19) cl12 (Nat.le_of_ble_eq_true rfl) fk1551 (fun _ _ _ => rfl) dX12_whyStays_19 (fun x6 => ?_)
    refine g_ifle (pc := 22) (tgt := 27) dX12_whyStays_22 rfl ?_ ?_
    · refine g_aload_n (pc := 27) dX12_whyStays_27 0 rfl ?_
      refine g_iload_n (pc := 28) dX12_whyStays_28 1 rfl ?_
      refine g_gS (fun hs => ?_)
      refine g_bRv (pc := 29) (c_V cl12 hs (p_X12_plans hl x1 x2 h3) y_X12_plans tw2085 dX12_whyStays_29 rfl (st := []) rfl (Nat.le_of_ble_eq_true rfl) (Nat.le_of_ble_eq_true rfl) (Nat.le_of_ble_eq_true rfl)) (fun _ h4 => ?_)
      refine g_aload_n (pc := 32) dX12_whyStays_32 0 rfl ?_
      refine g_getr (pc := 33) cl12 (Nat.le_of_ble_eq_true rfl) fk1616 (fun _ _ _ => rfl) dX12_whyStays_33 (fun x7 => ?_)
      refine g_iload_n (pc := 36) dX12_whyStays_36 2 rfl ?_
      refine g_iald (pc := 37) dX12_whyStays_37 (fun x8 => ?_)
      exact g_ret (pc := 38) rfl (isRet_i _) dX12_whyStays_38 rfl
    · refine g_iconst (pc := 25) dX12_whyStays_25 ci_0 ?_
      exact g_ret (pc := 26) rfl (isRet_i _) dX12_whyStays_26 rfl
  refine g_ifeq (pc := 7) (tgt := 14) dX12_whyStays_7 rfl ?_ ?_
  · refine g_iconst (pc := 14) dX12_whyStays_14 ci_1 ?_
    exact hk15 (1 : Int32) h1
  · refine g_iconst (pc := 10) dX12_whyStays_10 ci_0 ?_
    refine g_goto (pc := 11) (tgt := 15) dX12_whyStays_11 rfl ?_
    exact hk15 (0 : Int32) h1
theorem p_X12_whyStays {l : Launch} {E : aE} (hl : l.stackTraces = false) (x1 : Nat) (x2 : Int32) (x3 : Int32) (h0 : aH) : MO (fun (v : Int32) => .inl (some (.int v))) l E yX12_whyStays (.code yX12_whyStays cX12_whyStays 3 (some .int)) 6 135 [.ref (e_z E + x1), .int x2, .int x3] h0 (m_X12_whyStays x1 x2 x3 h0) := g_met hl (by decide +kernel) (Nat.le_of_ble_eq_true rfl) (b_X12_whyStays hl _ _ x1 x2 x3 h0)
theorem dX12_departure_0 : decode cX12_departure 0 = .ok (.aload_n 0, 1) := by decide +kernel
theorem dX12_departure_1 : decode cX12_departure 1 = .ok (.aload_n 0, 1) := by decide +kernel
theorem dX12_departure_2 : decode cX12_departure 2 = .ok (.iload_n 1, 1) := by decide +kernel
theorem dX12_departure_3 : decode cX12_departure 3 = .ok (.iload_n 2, 1) := by decide +kernel
theorem dX12_departure_4 : decode cX12_departure 4 = .ok (.invokevirtual 449, 3) := by decide +kernel
theorem dX12_departure_7 : decode cX12_departure 7 = .ok (.ifCond .eq 7, 3) := by decide +kernel
theorem dX12_departure_10 : decode cX12_departure 10 = .ok (.iconst 0, 1) := by decide +kernel
theorem dX12_departure_11 : decode cX12_departure 11 = .ok (.goto 4, 3) := by decide +kernel
theorem dX12_departure_14 : decode cX12_departure 14 = .ok (.iconst 1, 1) := by decide +kernel
theorem dX12_departure_15 : decode cX12_departure 15 = .ok (.putfield 166, 3) := by decide +kernel
theorem dX12_departure_18 : decode cX12_departure 18 = .ok (.aload_n 0, 1) := by decide +kernel
theorem dX12_departure_19 : decode cX12_departure 19 = .ok (.getfield 166, 3) := by decide +kernel
theorem dX12_departure_22 : decode cX12_departure 22 = .ok (.ifCond .le 5, 3) := by decide +kernel
theorem dX12_departure_25 : decode cX12_departure 25 = .ok (.iconst 0, 1) := by decide +kernel
theorem dX12_departure_26 : decode cX12_departure 26 = .ok (.ireturn, 1) := by decide +kernel
theorem dX12_departure_27 : decode cX12_departure 27 = .ok (.aload_n 0, 1) := by decide +kernel
theorem dX12_departure_28 : decode cX12_departure 28 = .ok (.iload_n 1, 1) := by decide +kernel
theorem dX12_departure_29 : decode cX12_departure 29 = .ok (.invokevirtual 446, 3) := by decide +kernel
theorem dX12_departure_32 : decode cX12_departure 32 = .ok (.aload_n 0, 1) := by decide +kernel
theorem dX12_departure_33 : decode cX12_departure 33 = .ok (.aload_n 0, 1) := by decide +kernel
theorem dX12_departure_34 : decode cX12_departure 34 = .ok (.getfield 148, 3) := by decide +kernel
theorem dX12_departure_37 : decode cX12_departure 37 = .ok (.iload_n 2, 1) := by decide +kernel
theorem dX12_departure_38 : decode cX12_departure 38 = .ok (.iaload, 1) := by decide +kernel
theorem dX12_departure_39 : decode cX12_departure 39 = .ok (.ifCond .ne 7, 3) := by decide +kernel
theorem dX12_departure_42 : decode cX12_departure 42 = .ok (.iconst 0, 1) := by decide +kernel
theorem dX12_departure_43 : decode cX12_departure 43 = .ok (.goto 4, 3) := by decide +kernel
theorem dX12_departure_46 : decode cX12_departure 46 = .ok (.iconst 2, 1) := by decide +kernel
theorem dX12_departure_47 : decode cX12_departure 47 = .ok (.putfield 166, 3) := by decide +kernel
theorem dX12_departure_50 : decode cX12_departure 50 = .ok (.aload_n 0, 1) := by decide +kernel
theorem dX12_departure_51 : decode cX12_departure 51 = .ok (.getfield 166, 3) := by decide +kernel
theorem dX12_departure_54 : decode cX12_departure 54 = .ok (.ifCond .le 7, 3) := by decide +kernel
theorem dX12_departure_57 : decode cX12_departure 57 = .ok (.iconst 0, 1) := by decide +kernel
theorem dX12_departure_58 : decode cX12_departure 58 = .ok (.goto 9, 3) := by decide +kernel
theorem dX12_departure_61 : decode cX12_departure 61 = .ok (.aload_n 0, 1) := by decide +kernel
theorem dX12_departure_62 : decode cX12_departure 62 = .ok (.getfield 154, 3) := by decide +kernel
theorem dX12_departure_65 : decode cX12_departure 65 = .ok (.iload_n 2, 1) := by decide +kernel
theorem dX12_departure_66 : decode cX12_departure 66 = .ok (.iaload, 1) := by decide +kernel
theorem dX12_departure_67 : decode cX12_departure 67 = .ok (.ireturn, 1) := by decide +kernel
abbrev M_X12_departure : aM := (yX12_departure.cls, cX12_departure, 3, (some .int), [], yX12_departure.name == "<init>")
abbrev J_X12_departure (l : Launch) (E : aE) (n0 m0 : Nat) := GG (fun (v : Int32) => .inl (some (.int v))) l E M_X12_departure 6 135 n0 m0
theorem b_X12_departure {l : Launch} {E : aE} (hl : l.stackTraces = false) (n0 m0 : Nat) (x1 : Nat) (x2 : Int32) (x3 : Int32) (h0 : aH) : J_X12_departure l E n0 m0 0 [(0, .ref (e_z E + x1)), (1, .int x2), (2, .int x3)] [] h0 (m_X12_departure x1 x2 x3 h0) := by
  unfold m_X12_departure
  refine g_aload_n (pc := 0) dX12_departure_0 0 rfl ?_
  refine g_aload_n (pc := 1) dX12_departure_1 0 rfl ?_
  refine g_iload_n (pc := 2) dX12_departure_2 1 rfl ?_
  refine g_iload_n (pc := 3) dX12_departure_3 2 rfl ?_
  refine g_gS (fun hs => ?_)
  refine g_bRi (pc := 4) (c_V cl12 hs (p_X12_isEngine hl x1 x2 x3 h0) y_X12_isEngine tw2081 dX12_departure_4 rfl (st := [.ref (e_z E + x1)]) rfl (Nat.le_of_ble_eq_true rfl) (Nat.le_of_ble_eq_true rfl) (Nat.le_of_ble_eq_true rfl)) (fun x4 h1 => ?_)
  refine g_join (fun k => ∀ (x5 : Int32) (h2 : aH), J_X12_departure l E n0 m0 15 [(0, .ref (e_z E + x1)), (1, .int x2), (2, .int x3)] [.int x5, .ref (e_z E + x1)] h2 (k x5 h2)) (fun x5 h2 => ?_) (fun k15 hk15 => ?_)
  · refine g_puti (pc := 15) cl12 (Nat.le_of_ble_eq_true rfl) (Or.inl ⟨rfl, fk1551⟩) (fun _ _ _ => rfl) (fun _ => ⟨rfl, rfl⟩) dX12_departure_15 (fun h3 => ?_)
    refine g_aload_n (pc := 18) dX12_departure_18 0 rfl ?_
    refine g_geti (pc := 19) cl12 (Nat.le_of_ble_eq_true rfl) fk1551 (fun _ _ _ => rfl) dX12_departure_19 (fun x6 => ?_)
    refine g_ifle (pc := 22) (tgt := 27) dX12_departure_22 rfl ?_ ?_
    · refine g_aload_n (pc := 27) dX12_departure_27 0 rfl ?_
      refine g_iload_n (pc := 28) dX12_departure_28 1 rfl ?_
      refine g_gS (fun hs => ?_)
      refine g_bRv (pc := 29) (c_V cl12 hs (p_X12_plans hl x1 x2 h3) y_X12_plans tw2085 dX12_departure_29 rfl (st := []) rfl (Nat.le_of_ble_eq_true rfl) (Nat.le_of_ble_eq_true rfl) (Nat.le_of_ble_eq_true rfl)) (fun _ h4 => ?_)
      refine g_aload_n (pc := 32) dX12_departure_32 0 rfl ?_
      refine g_aload_n (pc := 33) dX12_departure_33 0 rfl ?_
      refine g_getr (pc := 34) cl12 (Nat.le_of_ble_eq_true rfl) fk1616 (fun _ _ _ => rfl) dX12_departure_34 (fun x7 => ?_)
      refine g_iload_n (pc := 37) dX12_departure_37 2 rfl ?_
      refine g_iald (pc := 38) dX12_departure_38 (fun x8 => ?_)
      refine g_join (fun k => ∀ (x9 : Int32) (h5 : aH), J_X12_departure l E n0 m0 47 [(0, .ref (e_z E + x1)), (2, .int x3)] [.int x9, .ref (e_z E + x1)] h5 (k x9 h5)) (fun x9 h5 => ?_) (fun k47 hk47 => ?_)
      · refine g_puti (pc := 47) cl12 (Nat.le_of_ble_eq_true rfl) (Or.inl ⟨rfl, fk1551⟩) (fun _ _ _ => rfl) (fun _ => ⟨rfl, rfl⟩) dX12_departure_47 (fun h6 => ?_)
        refine g_aload_n (pc := 50) dX12_departure_50 0 rfl ?_
        refine g_geti (pc := 51) cl12 (Nat.le_of_ble_eq_true rfl) fk1551 (fun _ _ _ => rfl) dX12_departure_51 (fun x10 => ?_)
        refine g_join (fun k => ∀ (x11 : Int32) (h7 : aH), J_X12_departure l E n0 m0 67 [] [.int x11] h7 (k x11 h7)) (fun x11 h7 => ?_) (fun k67 hk67 => ?_)
        · exact g_ret (pc := 67) rfl (isRet_i _) dX12_departure_67 rfl
        refine g_ifle (pc := 54) (tgt := 61) dX12_departure_54 rfl ?_ ?_
        · refine g_aload_n (pc := 61) dX12_departure_61 0 rfl ?_
          refine g_getr (pc := 62) cl12 (Nat.le_of_ble_eq_true rfl) fk1618 (fun _ _ _ => rfl) dX12_departure_62 (fun x12 => ?_)
          refine g_iload_n (pc := 65) dX12_departure_65 1 rfl ?_
          refine g_iald (pc := 66) dX12_departure_66 (fun x13 => ?_)
          refine g_lv [] rfl ?_
          exact hk67 x13 h6
        · refine g_iconst (pc := 57) dX12_departure_57 ci_0 ?_
          refine g_goto (pc := 58) (tgt := 67) dX12_departure_58 rfl ?_
          refine g_lv [] rfl ?_
          exact hk67 (0 : Int32) h6
      refine g_ifne (pc := 39) (tgt := 46) dX12_departure_39 rfl ?_ ?_
      · refine g_iconst (pc := 42) dX12_departure_42 ci_0 ?_
        refine g_goto (pc := 43) (tgt := 47) dX12_departure_43 rfl ?_
        refine g_lv [0, 2] rfl ?_
        exact hk47 (0 : Int32) h4
      · refine g_iconst (pc := 46) dX12_departure_46 ci_2 ?_
        refine g_lv [0, 2] rfl ?_
        exact hk47 (2 : Int32) h4
    · refine g_iconst (pc := 25) dX12_departure_25 ci_0 ?_
      exact g_ret (pc := 26) rfl (isRet_i _) dX12_departure_26 rfl
  refine g_ifeq (pc := 7) (tgt := 14) dX12_departure_7 rfl ?_ ?_
  · refine g_iconst (pc := 14) dX12_departure_14 ci_1 ?_
    exact hk15 (1 : Int32) h1
  · refine g_iconst (pc := 10) dX12_departure_10 ci_0 ?_
    refine g_goto (pc := 11) (tgt := 15) dX12_departure_11 rfl ?_
    exact hk15 (0 : Int32) h1
theorem p_X12_departure {l : Launch} {E : aE} (hl : l.stackTraces = false) (x1 : Nat) (x2 : Int32) (x3 : Int32) (h0 : aH) : MO (fun (v : Int32) => .inl (some (.int v))) l E yX12_departure (.code yX12_departure cX12_departure 3 (some .int)) 6 135 [.ref (e_z E + x1), .int x2, .int x3] h0 (m_X12_departure x1 x2 x3 h0) := g_met hl (by decide +kernel) (Nat.le_of_ble_eq_true rfl) (b_X12_departure hl _ _ x1 x2 x3 h0)
theorem dX12_mans_0 : decode cX12_mans 0 = .ok (.aload_n 0, 1) := by decide +kernel
theorem dX12_mans_1 : decode cX12_mans 1 = .ok (.aload_n 0, 1) := by decide +kernel
theorem dX12_mans_2 : decode cX12_mans 2 = .ok (.iload_n 1, 1) := by decide +kernel
theorem dX12_mans_3 : decode cX12_mans 3 = .ok (.iload_n 2, 1) := by decide +kernel
theorem dX12_mans_4 : decode cX12_mans 4 = .ok (.invokevirtual 449, 3) := by decide +kernel
theorem dX12_mans_7 : decode cX12_mans 7 = .ok (.ifCond .eq 34, 3) := by decide +kernel
theorem dX12_mans_10 : decode cX12_mans 10 = .ok (.iload_n 3, 1) := by decide +kernel
theorem dX12_mans_11 : decode cX12_mans 11 = .ok (.i2l, 1) := by decide +kernel
theorem dX12_mans_12 : decode cX12_mans 12 = .ok (.lconst 0, 1) := by decide +kernel
theorem dX12_mans_13 : decode cX12_mans 13 = .ok (.aload_n 0, 1) := by decide +kernel
theorem dX12_mans_14 : decode cX12_mans 14 = .ok (.getfield 51, 3) := by decide +kernel
theorem dX12_mans_17 : decode cX12_mans 17 = .ok (.aload_n 0, 1) := by decide +kernel
theorem dX12_mans_18 : decode cX12_mans 18 = .ok (.getfield 75, 3) := by decide +kernel
theorem dX12_mans_21 : decode cX12_mans 21 = .ok (.iconst 5, 1) := by decide +kernel
theorem dX12_mans_22 : decode cX12_mans 22 = .ok (.iload_n 1, 1) := by decide +kernel
theorem dX12_mans_23 : decode cX12_mans 23 = .ok (.imul, 1) := by decide +kernel
theorem dX12_mans_24 : decode cX12_mans 24 = .ok (.iload_n 2, 1) := by decide +kernel
theorem dX12_mans_25 : decode cX12_mans 25 = .ok (.iadd, 1) := by decide +kernel
theorem dX12_mans_26 : decode cX12_mans 26 = .ok (.iaload, 1) := by decide +kernel
theorem dX12_mans_27 : decode cX12_mans 27 = .ok (.iaload, 1) := by decide +kernel
theorem dX12_mans_28 : decode cX12_mans 28 = .ok (.iconst 1, 1) := by decide +kernel
theorem dX12_mans_29 : decode cX12_mans 29 = .ok (.isub, 1) := by decide +kernel
theorem dX12_mans_30 : decode cX12_mans 30 = .ok (.i2l, 1) := by decide +kernel
theorem dX12_mans_31 : decode cX12_mans 31 = .ok (.invokestatic 176, 3) := by decide +kernel
theorem dX12_mans_34 : decode cX12_mans 34 = .ok (.ifCond .eq 7, 3) := by decide +kernel
theorem dX12_mans_37 : decode cX12_mans 37 = .ok (.iconst 0, 1) := by decide +kernel
theorem dX12_mans_38 : decode cX12_mans 38 = .ok (.goto 4, 3) := by decide +kernel
theorem dX12_mans_41 : decode cX12_mans 41 = .ok (.iconst 1, 1) := by decide +kernel
theorem dX12_mans_42 : decode cX12_mans 42 = .ok (.putfield 166, 3) := by decide +kernel
theorem dX12_mans_45 : decode cX12_mans 45 = .ok (.aload_n 0, 1) := by decide +kernel
theorem dX12_mans_46 : decode cX12_mans 46 = .ok (.getfield 166, 3) := by decide +kernel
theorem dX12_mans_49 : decode cX12_mans 49 = .ok (.ifCond .le 5, 3) := by decide +kernel
theorem dX12_mans_52 : decode cX12_mans 52 = .ok (.iconst 0, 1) := by decide +kernel
theorem dX12_mans_53 : decode cX12_mans 53 = .ok (.ireturn, 1) := by decide +kernel
theorem dX12_mans_54 : decode cX12_mans 54 = .ok (.aload_n 0, 1) := by decide +kernel
theorem dX12_mans_55 : decode cX12_mans 55 = .ok (.iload_n 1, 1) := by decide +kernel
theorem dX12_mans_56 : decode cX12_mans 56 = .ok (.invokevirtual 446, 3) := by decide +kernel
theorem dX12_mans_59 : decode cX12_mans 59 = .ok (.aload_n 0, 1) := by decide +kernel
theorem dX12_mans_60 : decode cX12_mans 60 = .ok (.aload_n 0, 1) := by decide +kernel
theorem dX12_mans_61 : decode cX12_mans 61 = .ok (.getfield 148, 3) := by decide +kernel
theorem dX12_mans_64 : decode cX12_mans 64 = .ok (.iload_n 2, 1) := by decide +kernel
theorem dX12_mans_65 : decode cX12_mans 65 = .ok (.iaload, 1) := by decide +kernel
theorem dX12_mans_66 : decode cX12_mans 66 = .ok (.ifCond .ne 7, 3) := by decide +kernel
theorem dX12_mans_69 : decode cX12_mans 69 = .ok (.iconst 0, 1) := by decide +kernel
theorem dX12_mans_70 : decode cX12_mans 70 = .ok (.goto 4, 3) := by decide +kernel
theorem dX12_mans_73 : decode cX12_mans 73 = .ok (.iconst 2, 1) := by decide +kernel
theorem dX12_mans_74 : decode cX12_mans 74 = .ok (.putfield 166, 3) := by decide +kernel
theorem dX12_mans_77 : decode cX12_mans 77 = .ok (.aload_n 0, 1) := by decide +kernel
theorem dX12_mans_78 : decode cX12_mans 78 = .ok (.getfield 166, 3) := by decide +kernel
theorem dX12_mans_81 : decode cX12_mans 81 = .ok (.ifCond .le 5, 3) := by decide +kernel
theorem dX12_mans_84 : decode cX12_mans 84 = .ok (.iconst 0, 1) := by decide +kernel
theorem dX12_mans_85 : decode cX12_mans 85 = .ok (.ireturn, 1) := by decide +kernel
theorem dX12_mans_86 : decode cX12_mans 86 = .ok (.aload_n 0, 1) := by decide +kernel
theorem dX12_mans_87 : decode cX12_mans 87 = .ok (.getfield 75, 3) := by decide +kernel
theorem dX12_mans_90 : decode cX12_mans 90 = .ok (.iconst 5, 1) := by decide +kernel
theorem dX12_mans_91 : decode cX12_mans 91 = .ok (.iload_n 1, 1) := by decide +kernel
theorem dX12_mans_92 : decode cX12_mans 92 = .ok (.imul, 1) := by decide +kernel
theorem dX12_mans_93 : decode cX12_mans 93 = .ok (.iload_n 2, 1) := by decide +kernel
theorem dX12_mans_94 : decode cX12_mans 94 = .ok (.iadd, 1) := by decide +kernel
theorem dX12_mans_95 : decode cX12_mans 95 = .ok (.iaload, 1) := by decide +kernel
theorem dX12_mans_96 : decode cX12_mans 96 = .ok (.istore 4, 2) := by decide +kernel
theorem dX12_mans_98 : decode cX12_mans 98 = .ok (.aload_n 0, 1) := by decide +kernel
theorem dX12_mans_99 : decode cX12_mans 99 = .ok (.getfield 145, 3) := by decide +kernel
theorem dX12_mans_102 : decode cX12_mans 102 = .ok (.iload_n 2, 1) := by decide +kernel
theorem dX12_mans_103 : decode cX12_mans 103 = .ok (.iaload, 1) := by decide +kernel
theorem dX12_mans_104 : decode cX12_mans 104 = .ok (.istore 5, 2) := by decide +kernel
theorem dX12_mans_106 : decode cX12_mans 106 = .ok (.aload_n 0, 1) := by decide +kernel
theorem dX12_mans_107 : decode cX12_mans 107 = .ok (.getfield 157, 3) := by decide +kernel
theorem dX12_mans_110 : decode cX12_mans 110 = .ok (.iconst 0, 1) := by decide +kernel
theorem dX12_mans_111 : decode cX12_mans 111 = .ok (.iconst 1, 1) := by decide +kernel
theorem dX12_mans_112 : decode cX12_mans 112 = .ok (.bastore, 1) := by decide +kernel
theorem dX12_mans_113 : decode cX12_mans 113 = .ok (.iconst 1, 1) := by decide +kernel
theorem dX12_mans_114 : decode cX12_mans 114 = .ok (.istore 6, 2) := by decide +kernel
theorem dX12_mans_116 : decode cX12_mans 116 = .ok (.iload 6, 2) := by decide +kernel
theorem dX12_mans_118 : decode cX12_mans 118 = .ok (.sipush 4096, 3) := by decide +kernel
theorem dX12_mans_121 : decode cX12_mans 121 = .ok (.if_icmp .ge 109, 3) := by decide +kernel
theorem dX12_mans_124 : decode cX12_mans 124 = .ok (.aload_n 0, 1) := by decide +kernel
theorem dX12_mans_125 : decode cX12_mans 125 = .ok (.getfield 157, 3) := by decide +kernel
theorem dX12_mans_128 : decode cX12_mans 128 = .ok (.iload 6, 2) := by decide +kernel
theorem dX12_mans_130 : decode cX12_mans 130 = .ok (.iconst 0, 1) := by decide +kernel
theorem dX12_mans_131 : decode cX12_mans 131 = .ok (.bastore, 1) := by decide +kernel
theorem dX12_mans_132 : decode cX12_mans 132 = .ok (.iconst 0, 1) := by decide +kernel
theorem dX12_mans_133 : decode cX12_mans 133 = .ok (.istore 7, 2) := by decide +kernel
theorem dX12_mans_135 : decode cX12_mans 135 = .ok (.iload 7, 2) := by decide +kernel
theorem dX12_mans_137 : decode cX12_mans 137 = .ok (.aload_n 0, 1) := by decide +kernel
theorem dX12_mans_138 : decode cX12_mans 138 = .ok (.getfield 325, 3) := by decide +kernel
theorem dX12_mans_141 : decode cX12_mans 141 = .ok (.if_icmp .ge 83, 3) := by decide +kernel
theorem dX12_mans_144 : decode cX12_mans 144 = .ok (.iload 6, 2) := by decide +kernel
theorem dX12_mans_146 : decode cX12_mans 146 = .ok (.iload 5, 2) := by decide +kernel
theorem dX12_mans_148 : decode cX12_mans 148 = .ok (.iand, 1) := by decide +kernel
theorem dX12_mans_149 : decode cX12_mans 149 = .ok (.iload 6, 2) := by decide +kernel
theorem dX12_mans_151 : decode cX12_mans 151 = .ok (.if_icmp .ne 73, 3) := by decide +kernel
theorem dX12_mans_154 : decode cX12_mans 154 = .ok (.aload_n 0, 1) := by decide +kernel
theorem dX12_mans_155 : decode cX12_mans 155 = .ok (.getfield 157, 3) := by decide +kernel
theorem dX12_mans_158 : decode cX12_mans 158 = .ok (.iload 6, 2) := by decide +kernel
theorem dX12_mans_160 : decode cX12_mans 160 = .ok (.dup2, 1) := by decide +kernel
theorem dX12_mans_161 : decode cX12_mans 161 = .ok (.baload, 1) := by decide +kernel
theorem dX12_mans_162 : decode cX12_mans 162 = .ok (.iload 6, 2) := by decide +kernel
theorem dX12_mans_164 : decode cX12_mans 164 = .ok (.iload 7, 2) := by decide +kernel
theorem dX12_mans_166 : decode cX12_mans 166 = .ok (.ishr, 1) := by decide +kernel
theorem dX12_mans_167 : decode cX12_mans 167 = .ok (.iconst 1, 1) := by decide +kernel
theorem dX12_mans_168 : decode cX12_mans 168 = .ok (.iand, 1) := by decide +kernel
theorem dX12_mans_169 : decode cX12_mans 169 = .ok (.ifCond .eq 46, 3) := by decide +kernel
theorem dX12_mans_172 : decode cX12_mans 172 = .ok (.aload_n 0, 1) := by decide +kernel
theorem dX12_mans_173 : decode cX12_mans 173 = .ok (.getfield 157, 3) := by decide +kernel
theorem dX12_mans_176 : decode cX12_mans 176 = .ok (.iload 6, 2) := by decide +kernel
theorem dX12_mans_178 : decode cX12_mans 178 = .ok (.iconst 1, 1) := by decide +kernel
theorem dX12_mans_179 : decode cX12_mans 179 = .ok (.iload 7, 2) := by decide +kernel
theorem dX12_mans_181 : decode cX12_mans 181 = .ok (.ishl, 1) := by decide +kernel
theorem dX12_mans_182 : decode cX12_mans 182 = .ok (.ixor, 1) := by decide +kernel
theorem dX12_mans_183 : decode cX12_mans 183 = .ok (.baload, 1) := by decide +kernel
theorem dX12_mans_184 : decode cX12_mans 184 = .ok (.ifCond .eq 31, 3) := by decide +kernel
theorem dX12_mans_187 : decode cX12_mans 187 = .ok (.aload_n 0, 1) := by decide +kernel
theorem dX12_mans_188 : decode cX12_mans 188 = .ok (.iload 7, 2) := by decide +kernel
theorem dX12_mans_190 : decode cX12_mans 190 = .ok (.iload 4, 2) := by decide +kernel
theorem dX12_mans_192 : decode cX12_mans 192 = .ok (.aload_n 0, 1) := by decide +kernel
theorem dX12_mans_193 : decode cX12_mans 193 = .ok (.getfield 51, 3) := by decide +kernel
theorem dX12_mans_196 : decode cX12_mans 196 = .ok (.iload 4, 2) := by decide +kernel
theorem dX12_mans_198 : decode cX12_mans 198 = .ok (.iaload, 1) := by decide +kernel
theorem dX12_mans_199 : decode cX12_mans 199 = .ok (.iload 6, 2) := by decide +kernel
theorem dX12_mans_201 : decode cX12_mans 201 = .ok (.invokestatic 415, 3) := by decide +kernel
theorem dX12_mans_204 : decode cX12_mans 204 = .ok (.isub, 1) := by decide +kernel
theorem dX12_mans_205 : decode cX12_mans 205 = .ok (.invokevirtual 418, 3) := by decide +kernel
theorem dX12_mans_208 : decode cX12_mans 208 = .ok (.ifCond .eq 7, 3) := by decide +kernel
theorem dX12_mans_211 : decode cX12_mans 211 = .ok (.iconst 1, 1) := by decide +kernel
theorem dX12_mans_212 : decode cX12_mans 212 = .ok (.goto 4, 3) := by decide +kernel
theorem dX12_mans_215 : decode cX12_mans 215 = .ok (.iconst 0, 1) := by decide +kernel
theorem dX12_mans_216 : decode cX12_mans 216 = .ok (.ior, 1) := by decide +kernel
theorem dX12_mans_217 : decode cX12_mans 217 = .ok (.bastore, 1) := by decide +kernel
theorem dX12_mans_218 : decode cX12_mans 218 = .ok (.iinc 7 1, 3) := by decide +kernel
theorem dX12_mans_221 : decode cX12_mans 221 = .ok (.goto (-86), 3) := by decide +kernel
theorem dX12_mans_224 : decode cX12_mans 224 = .ok (.iinc 6 1, 3) := by decide +kernel
theorem dX12_mans_227 : decode cX12_mans 227 = .ok (.goto (-111), 3) := by decide +kernel
theorem dX12_mans_230 : decode cX12_mans 230 = .ok (.iload 5, 2) := by decide +kernel
theorem dX12_mans_232 : decode cX12_mans 232 = .ok (.istore 6, 2) := by decide +kernel
theorem dX12_mans_234 : decode cX12_mans 234 = .ok (.iconst (-1), 1) := by decide +kernel
theorem dX12_mans_235 : decode cX12_mans 235 = .ok (.istore 7, 2) := by decide +kernel
theorem dX12_mans_237 : decode cX12_mans 237 = .ok (.iconst 0, 1) := by decide +kernel
theorem dX12_mans_238 : decode cX12_mans 238 = .ok (.istore 8, 2) := by decide +kernel
theorem dX12_mans_240 : decode cX12_mans 240 = .ok (.iload 8, 2) := by decide +kernel
theorem dX12_mans_242 : decode cX12_mans 242 = .ok (.iload_n 3, 1) := by decide +kernel
theorem dX12_mans_243 : decode cX12_mans 243 = .ok (.if_icmp .gt 99, 3) := by decide +kernel
theorem dX12_mans_246 : decode cX12_mans 246 = .ok (.iconst (-1), 1) := by decide +kernel
theorem dX12_mans_247 : decode cX12_mans 247 = .ok (.istore 7, 2) := by decide +kernel
theorem dX12_mans_249 : decode cX12_mans 249 = .ok (.aload_n 0, 1) := by decide +kernel
theorem dX12_mans_250 : decode cX12_mans 250 = .ok (.getfield 325, 3) := by decide +kernel
theorem dX12_mans_253 : decode cX12_mans 253 = .ok (.iconst 1, 1) := by decide +kernel
theorem dX12_mans_254 : decode cX12_mans 254 = .ok (.isub, 1) := by decide +kernel
theorem dX12_mans_255 : decode cX12_mans 255 = .ok (.istore 9, 2) := by decide +kernel
theorem dX12_mans_257 : decode cX12_mans 257 = .ok (.iload 9, 2) := by decide +kernel
theorem dX12_mans_259 : decode cX12_mans 259 = .ok (.ifCond .lt 68, 3) := by decide +kernel
theorem dX12_mans_262 : decode cX12_mans 262 = .ok (.iload 6, 2) := by decide +kernel
theorem dX12_mans_264 : decode cX12_mans 264 = .ok (.iload 9, 2) := by decide +kernel
theorem dX12_mans_266 : decode cX12_mans 266 = .ok (.ishr, 1) := by decide +kernel
theorem dX12_mans_267 : decode cX12_mans 267 = .ok (.iconst 1, 1) := by decide +kernel
theorem dX12_mans_268 : decode cX12_mans 268 = .ok (.iand, 1) := by decide +kernel
theorem dX12_mans_269 : decode cX12_mans 269 = .ok (.ifCond .eq 35, 3) := by decide +kernel
theorem dX12_mans_272 : decode cX12_mans 272 = .ok (.aload_n 0, 1) := by decide +kernel
theorem dX12_mans_273 : decode cX12_mans 273 = .ok (.iload 9, 2) := by decide +kernel
theorem dX12_mans_275 : decode cX12_mans 275 = .ok (.iload 4, 2) := by decide +kernel
theorem dX12_mans_277 : decode cX12_mans 277 = .ok (.iload 8, 2) := by decide +kernel
theorem dX12_mans_279 : decode cX12_mans 279 = .ok (.invokevirtual 418, 3) := by decide +kernel
theorem dX12_mans_282 : decode cX12_mans 282 = .ok (.ifCond .eq 22, 3) := by decide +kernel
theorem dX12_mans_285 : decode cX12_mans 285 = .ok (.aload_n 0, 1) := by decide +kernel
theorem dX12_mans_286 : decode cX12_mans 286 = .ok (.getfield 157, 3) := by decide +kernel
theorem dX12_mans_289 : decode cX12_mans 289 = .ok (.iload 6, 2) := by decide +kernel
theorem dX12_mans_291 : decode cX12_mans 291 = .ok (.iconst 1, 1) := by decide +kernel
theorem dX12_mans_292 : decode cX12_mans 292 = .ok (.iload 9, 2) := by decide +kernel
theorem dX12_mans_294 : decode cX12_mans 294 = .ok (.ishl, 1) := by decide +kernel
theorem dX12_mans_295 : decode cX12_mans 295 = .ok (.ixor, 1) := by decide +kernel
theorem dX12_mans_296 : decode cX12_mans 296 = .ok (.baload, 1) := by decide +kernel
theorem dX12_mans_297 : decode cX12_mans 297 = .ok (.ifCond .eq 7, 3) := by decide +kernel
theorem dX12_mans_300 : decode cX12_mans 300 = .ok (.iconst 1, 1) := by decide +kernel
theorem dX12_mans_301 : decode cX12_mans 301 = .ok (.goto 4, 3) := by decide +kernel
theorem dX12_mans_304 : decode cX12_mans 304 = .ok (.iconst 0, 1) := by decide +kernel
theorem dX12_mans_305 : decode cX12_mans 305 = .ok (.istore 10, 2) := by decide +kernel
theorem dX12_mans_307 : decode cX12_mans 307 = .ok (.iload 10, 2) := by decide +kernel
theorem dX12_mans_309 : decode cX12_mans 309 = .ok (.ifCond .eq 8, 3) := by decide +kernel
theorem dX12_mans_312 : decode cX12_mans 312 = .ok (.iload 9, 2) := by decide +kernel
theorem dX12_mans_314 : decode cX12_mans 314 = .ok (.goto 5, 3) := by decide +kernel
theorem dX12_mans_317 : decode cX12_mans 317 = .ok (.iload 7, 2) := by decide +kernel
theorem dX12_mans_319 : decode cX12_mans 319 = .ok (.istore 7, 2) := by decide +kernel
theorem dX12_mans_321 : decode cX12_mans 321 = .ok (.iinc 9 (-1), 3) := by decide +kernel
theorem dX12_mans_324 : decode cX12_mans 324 = .ok (.goto (-67), 3) := by decide +kernel
theorem dX12_mans_327 : decode cX12_mans 327 = .ok (.iload 6, 2) := by decide +kernel
theorem dX12_mans_329 : decode cX12_mans 329 = .ok (.iconst 1, 1) := by decide +kernel
theorem dX12_mans_330 : decode cX12_mans 330 = .ok (.iload 7, 2) := by decide +kernel
theorem dX12_mans_332 : decode cX12_mans 332 = .ok (.ishl, 1) := by decide +kernel
theorem dX12_mans_333 : decode cX12_mans 333 = .ok (.ixor, 1) := by decide +kernel
theorem dX12_mans_334 : decode cX12_mans 334 = .ok (.istore 6, 2) := by decide +kernel
theorem dX12_mans_336 : decode cX12_mans 336 = .ok (.iinc 8 1, 3) := by decide +kernel
theorem dX12_mans_339 : decode cX12_mans 339 = .ok (.goto (-99), 3) := by decide +kernel
theorem dX12_mans_342 : decode cX12_mans 342 = .ok (.iload 7, 2) := by decide +kernel
theorem dX12_mans_344 : decode cX12_mans 344 = .ok (.ireturn, 1) := by decide +kernel
abbrev M_X12_mans : aM := (yX12_mans.cls, cX12_mans, 11, (some .int), [], yX12_mans.name == "<init>")
abbrev J_X12_mans (l : Launch) (E : aE) (n0 m0 : Nat) := GG (fun (v : Int32) => .inl (some (.int v))) l E M_X12_mans 6 135 n0 m0
theorem b_X12_mans {l : Launch} {E : aE} (hl : l.stackTraces = false) (n0 m0 : Nat) (x1 : Nat) (x2 : Int32) (x3 : Int32) (x4 : Int32) (h0 : aH) : J_X12_mans l E n0 m0 0 [(0, .ref (e_z E + x1)), (1, .int x2), (2, .int x3), (3, .int x4)] [] h0 (m_X12_mans x1 x2 x3 x4 h0) := by
  unfold m_X12_mans
  refine g_aload_n (pc := 0) dX12_mans_0 0 rfl ?_
  refine g_aload_n (pc := 1) dX12_mans_1 0 rfl ?_
  refine g_iload_n (pc := 2) dX12_mans_2 1 rfl ?_
  refine g_iload_n (pc := 3) dX12_mans_3 2 rfl ?_
  refine g_gS (fun hs => ?_)
  refine g_bRi (pc := 4) (c_V cl12 hs (p_X12_isEngine hl x1 x2 x3 h0) y_X12_isEngine tw2081 dX12_mans_4 rfl (st := [.ref (e_z E + x1)]) rfl (Nat.le_of_ble_eq_true rfl) (Nat.le_of_ble_eq_true rfl) (Nat.le_of_ble_eq_true rfl)) (fun x5 h1 => ?_)
  refine g_join (fun k => ∀ (x6 : Int32) (h2 : aH), J_X12_mans l E n0 m0 42 [(0, .ref (e_z E + x1)), (1, .int x2), (2, .int x3), (3, .int x4)] [.int x6, .ref (e_z E + x1)] h2 (k x6 h2)) (fun x6 h2 => ?_) (fun k42 hk42 => ?_)
  · refine g_puti (pc := 42) cl12 (Nat.le_of_ble_eq_true rfl) (Or.inl ⟨rfl, fk1551⟩) (fun _ _ _ => rfl) (fun _ => ⟨rfl, rfl⟩) dX12_mans_42 (fun h3 => ?_)
    refine g_aload_n (pc := 45) dX12_mans_45 0 rfl ?_
    refine g_geti (pc := 46) cl12 (Nat.le_of_ble_eq_true rfl) fk1551 (fun _ _ _ => rfl) dX12_mans_46 (fun x7 => ?_)
    refine g_ifle (pc := 49) (tgt := 54) dX12_mans_49 rfl ?_ ?_
    · refine g_aload_n (pc := 54) dX12_mans_54 0 rfl ?_
      refine g_iload_n (pc := 55) dX12_mans_55 1 rfl ?_
      refine g_gS (fun hs => ?_)
      refine g_bRv (pc := 56) (c_V cl12 hs (p_X12_plans hl x1 x2 h3) y_X12_plans tw2085 dX12_mans_56 rfl (st := []) rfl (Nat.le_of_ble_eq_true rfl) (Nat.le_of_ble_eq_true rfl) (Nat.le_of_ble_eq_true rfl)) (fun _ h4 => ?_)
      refine g_aload_n (pc := 59) dX12_mans_59 0 rfl ?_
      refine g_aload_n (pc := 60) dX12_mans_60 0 rfl ?_
      refine g_getr (pc := 61) cl12 (Nat.le_of_ble_eq_true rfl) fk1616 (fun _ _ _ => rfl) dX12_mans_61 (fun x8 => ?_)
      refine g_iload_n (pc := 64) dX12_mans_64 2 rfl ?_
      refine g_iald (pc := 65) dX12_mans_65 (fun x9 => ?_)
      refine g_join (fun k => ∀ (x10 : Int32) (h5 : aH), J_X12_mans l E n0 m0 74 [(0, .ref (e_z E + x1)), (1, .int x2), (2, .int x3), (3, .int x4)] [.int x10, .ref (e_z E + x1)] h5 (k x10 h5)) (fun x10 h5 => ?_) (fun k74 hk74 => ?_)
      · refine g_puti (pc := 74) cl12 (Nat.le_of_ble_eq_true rfl) (Or.inl ⟨rfl, fk1551⟩) (fun _ _ _ => rfl) (fun _ => ⟨rfl, rfl⟩) dX12_mans_74 (fun h6 => ?_)
        refine g_aload_n (pc := 77) dX12_mans_77 0 rfl ?_
        refine g_geti (pc := 78) cl12 (Nat.le_of_ble_eq_true rfl) fk1551 (fun _ _ _ => rfl) dX12_mans_78 (fun x11 => ?_)
        refine g_ifle (pc := 81) (tgt := 86) dX12_mans_81 rfl ?_ ?_
        · refine g_aload_n (pc := 86) dX12_mans_86 0 rfl ?_
          refine g_getr (pc := 87) cl12 (Nat.le_of_ble_eq_true rfl) fk1578 (fun _ _ _ => rfl) dX12_mans_87 (fun x12 => ?_)
          refine g_iconst (pc := 90) dX12_mans_90 ci_5 ?_
          refine g_iload_n (pc := 91) dX12_mans_91 1 rfl ?_
          refine g_imul (pc := 92) dX12_mans_92 ?_
          refine g_iload_n (pc := 93) dX12_mans_93 2 rfl ?_
          refine g_iadd (pc := 94) dX12_mans_94 ?_
          refine g_iald (pc := 95) dX12_mans_95 (fun x13 => ?_)
          refine g_istore (pc := 96) (lv' := [(4, .int x13), (0, .ref (e_z E + x1)), (1, .int x2), (2, .int x3), (3, .int x4)]) dX12_mans_96 (Nat.le_of_ble_eq_true rfl) rfl ?_
          refine g_aload_n (pc := 98) dX12_mans_98 1 rfl ?_
          refine g_getr (pc := 99) cl12 (Nat.le_of_ble_eq_true rfl) fk1615 (fun _ _ _ => rfl) dX12_mans_99 (fun x14 => ?_)
          refine g_iload_n (pc := 102) dX12_mans_102 3 rfl ?_
          refine g_iald (pc := 103) dX12_mans_103 (fun x15 => ?_)
          refine g_istore (pc := 104) (lv' := [(5, .int x15), (4, .int x13), (0, .ref (e_z E + x1)), (1, .int x2), (2, .int x3), (3, .int x4)]) dX12_mans_104 (Nat.le_of_ble_eq_true rfl) rfl ?_
          refine g_aload_n (pc := 106) dX12_mans_106 2 rfl ?_
          refine g_getr (pc := 107) cl12 (Nat.le_of_ble_eq_true rfl) fk1620 (fun _ _ _ => rfl) dX12_mans_107 (fun x16 => ?_)
          refine g_iconst (pc := 110) dX12_mans_110 ci_0 ?_
          refine g_iconst (pc := 111) dX12_mans_111 ci_1 ?_
          refine g_zast (pc := 112) dX12_mans_112 (fun h7 => ?_)
          refine g_iconst (pc := 113) dX12_mans_113 ci_1 ?_
          refine g_istore (pc := 114) (lv' := [(6, .int (1 : Int32)), (5, .int x15), (4, .int x13), (0, .ref (e_z E + x1)), (1, .int x2), (2, .int x3), (3, .int x4)]) dX12_mans_114 (Nat.le_of_ble_eq_true rfl) rfl ?_
          refine g_join (fun k => ∀ (h8 : aH), J_X12_mans l E n0 m0 230 [(0, .ref (e_z E + x1)), (3, .int x4), (4, .int x13), (5, .int x15)] [] h8 (k h8)) (fun h8 => ?_) (fun k230 hk230 => ?_)
          · refine g_iload (pc := 230) dX12_mans_230 3 rfl ?_
            refine g_istore (pc := 232) (lv' := [(6, .int x15), (0, .ref (e_z E + x1)), (3, .int x4), (4, .int x13), (5, .int x15)]) dX12_mans_232 (Nat.le_of_ble_eq_true rfl) rfl ?_
            refine g_iconst (pc := 234) dX12_mans_234 ci_m1 ?_
            refine g_istore (pc := 235) (lv' := [(7, .int (-1 : Int32)), (6, .int x15), (0, .ref (e_z E + x1)), (3, .int x4), (4, .int x13), (5, .int x15)]) dX12_mans_235 (Nat.le_of_ble_eq_true rfl) rfl ?_
            refine g_iconst (pc := 237) dX12_mans_237 ci_0 ?_
            refine g_istore (pc := 238) (lv' := [(8, .int (0 : Int32)), (7, .int (-1 : Int32)), (6, .int x15), (0, .ref (e_z E + x1)), (3, .int x4), (4, .int x13), (5, .int x15)]) dX12_mans_238 (Nat.le_of_ble_eq_true rfl) rfl ?_
            refine g_join (fun k => ∀ (x17 : Int32) (h9 : aH), J_X12_mans l E n0 m0 342 [(7, .int x17)] [] h9 (k x17 h9)) (fun x17 h9 => ?_) (fun k342 hk342 => ?_)
            · refine g_iload (pc := 342) dX12_mans_342 0 rfl ?_
              exact g_ret (pc := 344) rfl (isRet_i _) dX12_mans_344 rfl
            refine g_lv [3, 4, 5, 2, 1, 0] rfl ?_
            refine g_loop3 (F := (m_X12_mans_L240 x1 x4 x13 k342)) (fun x18 x19 x20 => [(0, .ref (e_z E + x1)), (3, .int x4), (4, .int x13), (6, .int x18), (7, .int x19), (8, .int x20)]) (fun r240 hr240 x18 x19 x20 h10 => ?_) _ _ _ _ _
            unfold m_X12_mans_L240
            refine g_iload (pc := 240) dX12_mans_240 5 rfl ?_
            refine g_iload_n (pc := 242) dX12_mans_242 1 rfl ?_
            refine g_icmpgt (pc := 243) (tgt := 342) dX12_mans_243 rfl ?_ ?_
            · refine g_iconst (pc := 246) dX12_mans_246 ci_m1 ?_
              refine g_istore (pc := 247) (lv' := [(7, .int (-1 : Int32)), (0, .ref (e_z E + x1)), (3, .int x4), (4, .int x13), (6, .int x18), (8, .int x20)]) dX12_mans_247 (Nat.le_of_ble_eq_true rfl) rfl ?_
              refine g_aload_n (pc := 249) dX12_mans_249 1 rfl ?_
              refine g_geti (pc := 250) cl12 (Nat.le_of_ble_eq_true rfl) fk1559 (fun _ _ _ => rfl) dX12_mans_250 (fun x21 => ?_)
              refine g_iconst (pc := 253) dX12_mans_253 ci_1 ?_
              refine g_isub (pc := 254) dX12_mans_254 ?_
              refine g_topi (fun x22 => ?_)
              refine g_istore (pc := 255) (lv' := [(9, .int x22), (7, .int (-1 : Int32)), (0, .ref (e_z E + x1)), (3, .int x4), (4, .int x13), (6, .int x18), (8, .int x20)]) dX12_mans_255 (Nat.le_of_ble_eq_true rfl) rfl ?_
              refine g_join (fun k => ∀ (x23 : Int32) (h11 : aH), J_X12_mans l E n0 m0 327 [(0, .ref (e_z E + x1)), (3, .int x4), (4, .int x13), (6, .int x18), (7, .int x23), (8, .int x20)] [] h11 (k x23 h11)) (fun x23 h11 => ?_) (fun k327 hk327 => ?_)
              · refine g_iload (pc := 327) dX12_mans_327 3 rfl ?_
                refine g_iconst (pc := 329) dX12_mans_329 ci_1 ?_
                refine g_iload (pc := 330) dX12_mans_330 4 rfl ?_
                refine g_ishl (pc := 332) dX12_mans_332 ?_
                refine g_ixor (pc := 333) dX12_mans_333 ?_
                refine g_topi (fun x24 => ?_)
                refine g_istore (pc := 334) (lv' := [(6, .int x24), (0, .ref (e_z E + x1)), (3, .int x4), (4, .int x13), (7, .int x23), (8, .int x20)]) dX12_mans_334 (Nat.le_of_ble_eq_true rfl) rfl ?_
                refine g_iincN (pc := 336) dX12_mans_336 5 rfl ci_1 (Nat.le_of_ble_eq_true rfl) (fun x25 => ?_)
                refine g_lvr (lv' := [(8, .int x25), (6, .int x24), (0, .ref (e_z E + x1)), (3, .int x4), (4, .int x13), (7, .int x23)]) rfl ?_
                refine g_goto (pc := 339) (tgt := 240) dX12_mans_339 rfl ?_
                refine g_lv [2, 3, 4, 1, 5, 0] rfl ?_
                exact hr240 x24 x23 x25 h11
              refine g_lv [2, 3, 4, 5, 1, 6, 0] rfl ?_
              refine g_loop2 (F := (m_X12_mans_L257 x1 x13 x18 x20 k327)) (fun x26 x27 => [(0, .ref (e_z E + x1)), (3, .int x4), (4, .int x13), (6, .int x18), (7, .int x26), (8, .int x20), (9, .int x27)]) (fun r257 hr257 x26 x27 h12 => ?_) _ _ _ _
              unfold m_X12_mans_L257
              refine g_iload (pc := 257) dX12_mans_257 6 rfl ?_
              refine g_iflt (pc := 259) (tgt := 327) dX12_mans_259 rfl ?_ ?_
              · refine g_lv [0, 1, 2, 3, 4, 5] rfl ?_
                exact hk327 x26 h12
              · refine g_iload (pc := 262) dX12_mans_262 3 rfl ?_
                refine g_iload (pc := 264) dX12_mans_264 6 rfl ?_
                refine g_ishr (pc := 266) dX12_mans_266 ?_
                refine g_iconst (pc := 267) dX12_mans_267 ci_1 ?_
                refine g_iand (pc := 268) dX12_mans_268 ?_
                refine g_join (fun k => ∀ (x28 : Int32) (h13 : aH), J_X12_mans l E n0 m0 305 [(0, .ref (e_z E + x1)), (3, .int x4), (4, .int x13), (6, .int x18), (7, .int x26), (8, .int x20), (9, .int x27)] [.int x28] h13 (k x28 h13)) (fun x28 h13 => ?_) (fun k305 hk305 => ?_)
                · refine g_istore (pc := 305) (lv' := [(10, .int x28), (0, .ref (e_z E + x1)), (3, .int x4), (4, .int x13), (6, .int x18), (7, .int x26), (8, .int x20), (9, .int x27)]) dX12_mans_305 (Nat.le_of_ble_eq_true rfl) rfl ?_
                  refine g_iload (pc := 307) dX12_mans_307 0 rfl ?_
                  refine g_join (fun k => ∀ (x29 : Int32) (h14 : aH), J_X12_mans l E n0 m0 319 [(0, .ref (e_z E + x1)), (3, .int x4), (4, .int x13), (6, .int x18), (8, .int x20), (9, .int x27)] [.int x29] h14 (k x29 h14)) (fun x29 h14 => ?_) (fun k319 hk319 => ?_)
                  · refine g_istore (pc := 319) (lv' := [(7, .int x29), (0, .ref (e_z E + x1)), (3, .int x4), (4, .int x13), (6, .int x18), (8, .int x20), (9, .int x27)]) dX12_mans_319 (Nat.le_of_ble_eq_true rfl) rfl ?_
                    refine g_iincN (pc := 321) dX12_mans_321 6 rfl ci_m1 (Nat.le_of_ble_eq_true rfl) (fun x30 => ?_)
                    refine g_lvr (lv' := [(9, .int x30), (7, .int x29), (0, .ref (e_z E + x1)), (3, .int x4), (4, .int x13), (6, .int x18), (8, .int x20)]) rfl ?_
                    refine g_goto (pc := 324) (tgt := 257) dX12_mans_324 rfl ?_
                    refine g_lv [2, 3, 4, 5, 1, 6, 0] rfl ?_
                    exact hr257 x29 x30 h14
                  refine g_ifeq (pc := 309) (tgt := 317) dX12_mans_309 rfl ?_ ?_
                  · refine g_iload (pc := 317) dX12_mans_317 5 rfl ?_
                    refine g_lv [1, 2, 3, 4, 6, 7] rfl ?_
                    exact hk319 x26 h13
                  · refine g_iload (pc := 312) dX12_mans_312 7 rfl ?_
                    refine g_goto (pc := 314) (tgt := 319) dX12_mans_314 rfl ?_
                    refine g_lv [1, 2, 3, 4, 6, 7] rfl ?_
                    exact hk319 x27 h13
                refine g_join (fun k => ∀ (h15 : aH), J_X12_mans l E n0 m0 304 [(0, .ref (e_z E + x1)), (3, .int x4), (4, .int x13), (6, .int x18), (7, .int x26), (8, .int x20), (9, .int x27)] [] h15 (k h15)) (fun h15 => ?_) (fun k304 hk304 => ?_)
                · refine g_iconst (pc := 304) dX12_mans_304 ci_0 ?_
                  exact hk305 (0 : Int32) h15
                refine g_ifeq (pc := 269) (tgt := 304) dX12_mans_269 rfl ?_ ?_
                · exact hk304 h12
                · refine g_aload_n (pc := 272) dX12_mans_272 0 rfl ?_
                  refine g_iload (pc := 273) dX12_mans_273 6 rfl ?_
                  refine g_iload (pc := 275) dX12_mans_275 2 rfl ?_
                  refine g_iload (pc := 277) dX12_mans_277 5 rfl ?_
                  refine g_gS (fun hs => ?_)
                  refine g_bRi (pc := 279) (c_V cl12 hs (p_X12_fits hl x1 x27 x13 x20 h12) y_X12_fits tw2104 dX12_mans_279 rfl (st := []) rfl (Nat.le_of_ble_eq_true rfl) (Nat.le_of_ble_eq_true rfl) (Nat.le_of_ble_eq_true rfl)) (fun x31 h16 => ?_)
                  refine g_ifeq (pc := 282) (tgt := 304) dX12_mans_282 rfl ?_ ?_
                  · exact hk304 h16
                  · refine g_aload_n (pc := 285) dX12_mans_285 0 rfl ?_
                    refine g_getr (pc := 286) cl12 (Nat.le_of_ble_eq_true rfl) fk1620 (fun _ _ _ => rfl) dX12_mans_286 (fun x32 => ?_)
                    refine g_iload (pc := 289) dX12_mans_289 3 rfl ?_
                    refine g_iconst (pc := 291) dX12_mans_291 ci_1 ?_
                    refine g_iload (pc := 292) dX12_mans_292 6 rfl ?_
                    refine g_ishl (pc := 294) dX12_mans_294 ?_
                    refine g_ixor (pc := 295) dX12_mans_295 ?_
                    refine g_zald (pc := 296) dX12_mans_296 (fun x33 => ?_)
                    refine g_ifeq (pc := 297) (tgt := 304) dX12_mans_297 rfl ?_ ?_
                    · exact hk304 h16
                    · refine g_iconst (pc := 300) dX12_mans_300 ci_1 ?_
                      refine g_goto (pc := 301) (tgt := 305) dX12_mans_301 rfl ?_
                      exact hk305 (1 : Int32) h16
            · refine g_lv [4] rfl ?_
              exact hk342 x19 h10
          refine g_lv [3, 6, 2, 1, 0] rfl ?_
          refine g_loop1 (F := (m_X12_mans_L116 x1 x13 x15 k230)) (fun x34 => [(0, .ref (e_z E + x1)), (3, .int x4), (4, .int x13), (5, .int x15), (6, .int x34)]) (fun r116 hr116 x34 h17 => ?_) _ _ _
          unfold m_X12_mans_L116
          refine g_iload (pc := 116) dX12_mans_116 4 rfl ?_
          refine g_sipush (pc := 118) dX12_mans_118 cs_4096 ?_
          refine g_icmpge (pc := 121) (tgt := 230) dX12_mans_121 rfl ?_ ?_
          · refine g_aload_n (pc := 124) dX12_mans_124 0 rfl ?_
            refine g_getr (pc := 125) cl12 (Nat.le_of_ble_eq_true rfl) fk1620 (fun _ _ _ => rfl) dX12_mans_125 (fun x35 => ?_)
            refine g_iload (pc := 128) dX12_mans_128 4 rfl ?_
            refine g_iconst (pc := 130) dX12_mans_130 ci_0 ?_
            refine g_zast (pc := 131) dX12_mans_131 (fun h18 => ?_)
            refine g_iconst (pc := 132) dX12_mans_132 ci_0 ?_
            refine g_istore (pc := 133) (lv' := [(7, .int (0 : Int32)), (0, .ref (e_z E + x1)), (3, .int x4), (4, .int x13), (5, .int x15), (6, .int x34)]) dX12_mans_133 (Nat.le_of_ble_eq_true rfl) rfl ?_
            refine g_join (fun k => ∀ (h19 : aH), J_X12_mans l E n0 m0 224 [(0, .ref (e_z E + x1)), (3, .int x4), (4, .int x13), (5, .int x15), (6, .int x34)] [] h19 (k h19)) (fun h19 => ?_) (fun k224 hk224 => ?_)
            · refine g_iincN (pc := 224) dX12_mans_224 4 rfl ci_1 (Nat.le_of_ble_eq_true rfl) (fun x36 => ?_)
              refine g_lvr (lv' := [(6, .int x36), (0, .ref (e_z E + x1)), (3, .int x4), (4, .int x13), (5, .int x15)]) rfl ?_
              refine g_goto (pc := 227) (tgt := 116) dX12_mans_227 rfl ?_
              refine g_lv [1, 2, 3, 4, 0] rfl ?_
              exact hr116 x36 h19
            refine g_lv [1, 2, 3, 4, 5, 0] rfl ?_
            refine g_loop1 (F := (m_X12_mans_L135 x1 x13 x15 x34 k224)) (fun x37 => [(0, .ref (e_z E + x1)), (3, .int x4), (4, .int x13), (5, .int x15), (6, .int x34), (7, .int x37)]) (fun r135 hr135 x37 h20 => ?_) _ _ _
            unfold m_X12_mans_L135
            refine g_iload (pc := 135) dX12_mans_135 5 rfl ?_
            refine g_aload_n (pc := 137) dX12_mans_137 0 rfl ?_
            refine g_geti (pc := 138) cl12 (Nat.le_of_ble_eq_true rfl) fk1559 (fun _ _ _ => rfl) dX12_mans_138 (fun x38 => ?_)
            refine g_icmpge (pc := 141) (tgt := 224) dX12_mans_141 rfl ?_ ?_
            · refine g_iload (pc := 144) dX12_mans_144 4 rfl ?_
              refine g_iload (pc := 146) dX12_mans_146 3 rfl ?_
              refine g_iand (pc := 148) dX12_mans_148 ?_
              refine g_iload (pc := 149) dX12_mans_149 4 rfl ?_
              refine g_icmpne (pc := 151) (tgt := 224) dX12_mans_151 rfl ?_ ?_
              · refine g_aload_n (pc := 154) dX12_mans_154 0 rfl ?_
                refine g_getr (pc := 155) cl12 (Nat.le_of_ble_eq_true rfl) fk1620 (fun _ _ _ => rfl) dX12_mans_155 (fun x39 => ?_)
                refine g_iload (pc := 158) dX12_mans_158 4 rfl ?_
                refine g_dup2 (pc := 160) rfl rfl dX12_mans_160 ?_
                refine g_zald (pc := 161) dX12_mans_161 (fun x40 => ?_)
                refine g_iload (pc := 162) dX12_mans_162 4 rfl ?_
                refine g_iload (pc := 164) dX12_mans_164 5 rfl ?_
                refine g_ishr (pc := 166) dX12_mans_166 ?_
                refine g_iconst (pc := 167) dX12_mans_167 ci_1 ?_
                refine g_iand (pc := 168) dX12_mans_168 ?_
                refine g_join (fun k => ∀ (x41 : Int32) (h21 : aH), J_X12_mans l E n0 m0 216 [(0, .ref (e_z E + x1)), (3, .int x4), (4, .int x13), (5, .int x15), (6, .int x34), (7, .int x37)] [.int x41, .int x40, .int x34, .ref (e_z E + x39)] h21 (k x41 h21)) (fun x41 h21 => ?_) (fun k216 hk216 => ?_)
                · refine g_ior (pc := 216) dX12_mans_216 ?_
                  refine g_zast (pc := 217) dX12_mans_217 (fun h22 => ?_)
                  refine g_iincN (pc := 218) dX12_mans_218 5 rfl ci_1 (Nat.le_of_ble_eq_true rfl) (fun x42 => ?_)
                  refine g_lvr (lv' := [(7, .int x42), (0, .ref (e_z E + x1)), (3, .int x4), (4, .int x13), (5, .int x15), (6, .int x34)]) rfl ?_
                  refine g_goto (pc := 221) (tgt := 135) dX12_mans_221 rfl ?_
                  refine g_lv [1, 2, 3, 4, 5, 0] rfl ?_
                  exact hr135 x42 h22
                refine g_join (fun k => ∀ (h23 : aH), J_X12_mans l E n0 m0 215 [(0, .ref (e_z E + x1)), (3, .int x4), (4, .int x13), (5, .int x15), (6, .int x34), (7, .int x37)] [.int x40, .int x34, .ref (e_z E + x39)] h23 (k h23)) (fun h23 => ?_) (fun k215 hk215 => ?_)
                · refine g_iconst (pc := 215) dX12_mans_215 ci_0 ?_
                  exact hk216 (0 : Int32) h23
                refine g_ifeq (pc := 169) (tgt := 215) dX12_mans_169 rfl ?_ ?_
                · exact hk215 h20
                · refine g_aload_n (pc := 172) dX12_mans_172 0 rfl ?_
                  refine g_getr (pc := 173) cl12 (Nat.le_of_ble_eq_true rfl) fk1620 (fun _ _ _ => rfl) dX12_mans_173 (fun x43 => ?_)
                  refine g_iload (pc := 176) dX12_mans_176 4 rfl ?_
                  refine g_iconst (pc := 178) dX12_mans_178 ci_1 ?_
                  refine g_iload (pc := 179) dX12_mans_179 5 rfl ?_
                  refine g_ishl (pc := 181) dX12_mans_181 ?_
                  refine g_ixor (pc := 182) dX12_mans_182 ?_
                  refine g_zald (pc := 183) dX12_mans_183 (fun x44 => ?_)
                  refine g_ifeq (pc := 184) (tgt := 215) dX12_mans_184 rfl ?_ ?_
                  · exact hk215 h20
                  · refine g_aload_n (pc := 187) dX12_mans_187 0 rfl ?_
                    refine g_iload (pc := 188) dX12_mans_188 5 rfl ?_
                    refine g_iload (pc := 190) dX12_mans_190 2 rfl ?_
                    refine g_aload_n (pc := 192) dX12_mans_192 0 rfl ?_
                    refine g_getr (pc := 193) cl12 (Nat.le_of_ble_eq_true rfl) fk1570 (fun _ _ _ => rfl) dX12_mans_193 (fun x45 => ?_)
                    refine g_iload (pc := 196) dX12_mans_196 2 rfl ?_
                    refine g_iald (pc := 198) dX12_mans_198 (fun x46 => ?_)
                    refine g_iload (pc := 199) dX12_mans_199 4 rfl ?_
                    refine g_bRi (pc := 201) (c_S (p_X12_many hl x34 h20) y_X12_many tw2101 dX12_mans_201 rfl (st := [.int x46, .int x13, .int x37, .ref (e_z E + x1), .int x40, .int x34, .ref (e_z E + x39)]) rfl (Nat.le_of_ble_eq_true rfl) (Nat.le_of_ble_eq_true rfl) (Nat.le_of_ble_eq_true rfl)) (fun x47 h24 => ?_)
                    refine g_isub (pc := 204) dX12_mans_204 ?_
                    refine g_gS (fun hs => ?_)
                    refine g_bRi (pc := 205) (c_V cl12 hs (p_X12_fits hl x1 x37 x13 (x46 - x47) h24) y_X12_fits tw2104 dX12_mans_205 rfl (st := [.int x40, .int x34, .ref (e_z E + x39)]) rfl (Nat.le_of_ble_eq_true rfl) (Nat.le_of_ble_eq_true rfl) (Nat.le_of_ble_eq_true rfl)) (fun x48 h25 => ?_)
                    refine g_ifeq (pc := 208) (tgt := 215) dX12_mans_208 rfl ?_ ?_
                    · exact hk215 h25
                    · refine g_iconst (pc := 211) dX12_mans_211 ci_1 ?_
                      refine g_goto (pc := 212) (tgt := 216) dX12_mans_212 rfl ?_
                      exact hk216 (1 : Int32) h25
              · refine g_lv [0, 1, 2, 3, 4] rfl ?_
                exact hk224 h20
            · refine g_lv [0, 1, 2, 3, 4] rfl ?_
              exact hk224 h20
          · refine g_lv [0, 1, 2, 3] rfl ?_
            exact hk230 h17
        · refine g_iconst (pc := 84) dX12_mans_84 ci_0 ?_
          exact g_ret (pc := 85) rfl (isRet_i _) dX12_mans_85 rfl
      refine g_ifne (pc := 66) (tgt := 73) dX12_mans_66 rfl ?_ ?_
      · refine g_iconst (pc := 69) dX12_mans_69 ci_0 ?_
        refine g_goto (pc := 70) (tgt := 74) dX12_mans_70 rfl ?_
        exact hk74 (0 : Int32) h4
      · refine g_iconst (pc := 73) dX12_mans_73 ci_2 ?_
        exact hk74 (2 : Int32) h4
    · refine g_iconst (pc := 52) dX12_mans_52 ci_0 ?_
      exact g_ret (pc := 53) rfl (isRet_i _) dX12_mans_53 rfl
  refine g_join (fun k => ∀ (h26 : aH), J_X12_mans l E n0 m0 41 [(0, .ref (e_z E + x1)), (1, .int x2), (2, .int x3), (3, .int x4)] [.ref (e_z E + x1)] h26 (k h26)) (fun h26 => ?_) (fun k41 hk41 => ?_)
  · refine g_iconst (pc := 41) dX12_mans_41 ci_1 ?_
    exact hk42 (1 : Int32) h26
  refine g_ifeq (pc := 7) (tgt := 41) dX12_mans_7 rfl ?_ ?_
  · exact hk41 h1
  · refine g_iload_n (pc := 10) dX12_mans_10 3 rfl ?_
    refine g_i2l (pc := 11) dX12_mans_11 ?_
    refine g_lconst (pc := 12) dX12_mans_12 cl_0 ?_
    refine g_aload_n (pc := 13) dX12_mans_13 0 rfl ?_
    refine g_getr (pc := 14) cl12 (Nat.le_of_ble_eq_true rfl) fk1570 (fun _ _ _ => rfl) dX12_mans_14 (fun x49 => ?_)
    refine g_aload_n (pc := 17) dX12_mans_17 0 rfl ?_
    refine g_getr (pc := 18) cl12 (Nat.le_of_ble_eq_true rfl) fk1578 (fun _ _ _ => rfl) dX12_mans_18 (fun x50 => ?_)
    refine g_iconst (pc := 21) dX12_mans_21 ci_5 ?_
    refine g_iload_n (pc := 22) dX12_mans_22 1 rfl ?_
    refine g_imul (pc := 23) dX12_mans_23 ?_
    refine g_iload_n (pc := 24) dX12_mans_24 2 rfl ?_
    refine g_iadd (pc := 25) dX12_mans_25 ?_
    refine g_iald (pc := 26) dX12_mans_26 (fun x51 => ?_)
    refine g_iald (pc := 27) dX12_mans_27 (fun x52 => ?_)
    refine g_iconst (pc := 28) dX12_mans_28 ci_1 ?_
    refine g_isub (pc := 29) dX12_mans_29 ?_
    refine g_i2l (pc := 30) dX12_mans_30 ?_
    refine g_bRi (pc := 31) (c_S (p_X12_in hl (x4.toInt64) (0 : Int64) ((x52 - (1 : Int32)).toInt64) h1) y_X12_in tw1782 dX12_mans_31 rfl (st := [.ref (e_z E + x1)]) rfl (Nat.le_of_ble_eq_true rfl) (Nat.le_of_ble_eq_true rfl) (Nat.le_of_ble_eq_true rfl)) (fun x53 h27 => ?_)
    refine g_ifeq (pc := 34) (tgt := 41) dX12_mans_34 rfl ?_ ?_
    · exact hk41 h27
    · refine g_iconst (pc := 37) dX12_mans_37 ci_0 ?_
      refine g_goto (pc := 38) (tgt := 42) dX12_mans_38 rfl ?_
      exact hk42 (0 : Int32) h27
theorem p_X12_mans {l : Launch} {E : aE} (hl : l.stackTraces = false) (x1 : Nat) (x2 : Int32) (x3 : Int32) (x4 : Int32) (h0 : aH) : MO (fun (v : Int32) => .inl (some (.int v))) l E yX12_mans (.code yX12_mans cX12_mans 11 (some .int)) 6 135 [.ref (e_z E + x1), .int x2, .int x3, .int x4] h0 (m_X12_mans x1 x2 x3 x4 h0) := g_met hl (by decide +kernel) (Nat.le_of_ble_eq_true rfl) (b_X12_mans hl _ _ x1 x2 x3 x4 h0)
theorem dX12_joins_0 : decode cX12_joins 0 = .ok (.sipush 4095, 3) := by decide +kernel
theorem dX12_joins_3 : decode cX12_joins 3 = .ok (.istore 5, 2) := by decide +kernel
theorem dX12_joins_5 : decode cX12_joins 5 = .ok (.iload 5, 2) := by decide +kernel
theorem dX12_joins_7 : decode cX12_joins 7 = .ok (.ifCond .lt 126, 3) := by decide +kernel
theorem dX12_joins_10 : decode cX12_joins 10 = .ok (.aload_n 0, 1) := by decide +kernel
theorem dX12_joins_11 : decode cX12_joins 11 = .ok (.getfield 157, 3) := by decide +kernel
theorem dX12_joins_14 : decode cX12_joins 14 = .ok (.iload 5, 2) := by decide +kernel
theorem dX12_joins_16 : decode cX12_joins 16 = .ok (.aload_n 0, 1) := by decide +kernel
theorem dX12_joins_17 : decode cX12_joins 17 = .ok (.getfield 160, 3) := by decide +kernel
theorem dX12_joins_20 : decode cX12_joins 20 = .ok (.iload 5, 2) := by decide +kernel
theorem dX12_joins_22 : decode cX12_joins 22 = .ok (.baload, 1) := by decide +kernel
theorem dX12_joins_23 : decode cX12_joins 23 = .ok (.ifCond .eq 12, 3) := by decide +kernel
theorem dX12_joins_26 : decode cX12_joins 26 = .ok (.iload 4, 2) := by decide +kernel
theorem dX12_joins_28 : decode cX12_joins 28 = .ok (.ifCond .ne 7, 3) := by decide +kernel
theorem dX12_joins_31 : decode cX12_joins 31 = .ok (.iconst 1, 1) := by decide +kernel
theorem dX12_joins_32 : decode cX12_joins 32 = .ok (.goto 4, 3) := by decide +kernel
theorem dX12_joins_35 : decode cX12_joins 35 = .ok (.iconst 0, 1) := by decide +kernel
theorem dX12_joins_36 : decode cX12_joins 36 = .ok (.bastore, 1) := by decide +kernel
theorem dX12_joins_37 : decode cX12_joins 37 = .ok (.iconst 0, 1) := by decide +kernel
theorem dX12_joins_38 : decode cX12_joins 38 = .ok (.istore 6, 2) := by decide +kernel
theorem dX12_joins_40 : decode cX12_joins 40 = .ok (.iload 6, 2) := by decide +kernel
theorem dX12_joins_42 : decode cX12_joins 42 = .ok (.aload_n 0, 1) := by decide +kernel
theorem dX12_joins_43 : decode cX12_joins 43 = .ok (.getfield 325, 3) := by decide +kernel
theorem dX12_joins_46 : decode cX12_joins 46 = .ok (.if_icmp .ge 81, 3) := by decide +kernel
theorem dX12_joins_49 : decode cX12_joins 49 = .ok (.iload 5, 2) := by decide +kernel
theorem dX12_joins_51 : decode cX12_joins 51 = .ok (.iload 6, 2) := by decide +kernel
theorem dX12_joins_53 : decode cX12_joins 53 = .ok (.ishr, 1) := by decide +kernel
theorem dX12_joins_54 : decode cX12_joins 54 = .ok (.iconst 1, 1) := by decide +kernel
theorem dX12_joins_55 : decode cX12_joins 55 = .ok (.iand, 1) := by decide +kernel
theorem dX12_joins_56 : decode cX12_joins 56 = .ok (.ifCond .eq 27, 3) := by decide +kernel
theorem dX12_joins_59 : decode cX12_joins 59 = .ok (.iload_n 3, 1) := by decide +kernel
theorem dX12_joins_60 : decode cX12_joins 60 = .ok (.iload 6, 2) := by decide +kernel
theorem dX12_joins_62 : decode cX12_joins 62 = .ok (.ishr, 1) := by decide +kernel
theorem dX12_joins_63 : decode cX12_joins 63 = .ok (.iconst 1, 1) := by decide +kernel
theorem dX12_joins_64 : decode cX12_joins 64 = .ok (.iand, 1) := by decide +kernel
theorem dX12_joins_65 : decode cX12_joins 65 = .ok (.ifCond .eq 18, 3) := by decide +kernel
theorem dX12_joins_68 : decode cX12_joins 68 = .ok (.aload_n 0, 1) := by decide +kernel
theorem dX12_joins_69 : decode cX12_joins 69 = .ok (.iload 6, 2) := by decide +kernel
theorem dX12_joins_71 : decode cX12_joins 71 = .ok (.iload_n 1, 1) := by decide +kernel
theorem dX12_joins_72 : decode cX12_joins 72 = .ok (.iload_n 2, 1) := by decide +kernel
theorem dX12_joins_73 : decode cX12_joins 73 = .ok (.invokevirtual 418, 3) := by decide +kernel
theorem dX12_joins_76 : decode cX12_joins 76 = .ok (.ifCond .eq 7, 3) := by decide +kernel
theorem dX12_joins_79 : decode cX12_joins 79 = .ok (.iconst 1, 1) := by decide +kernel
theorem dX12_joins_80 : decode cX12_joins 80 = .ok (.goto 4, 3) := by decide +kernel
theorem dX12_joins_83 : decode cX12_joins 83 = .ok (.iconst 0, 1) := by decide +kernel
theorem dX12_joins_84 : decode cX12_joins 84 = .ok (.istore 7, 2) := by decide +kernel
theorem dX12_joins_86 : decode cX12_joins 86 = .ok (.aload_n 0, 1) := by decide +kernel
theorem dX12_joins_87 : decode cX12_joins 87 = .ok (.getfield 157, 3) := by decide +kernel
theorem dX12_joins_90 : decode cX12_joins 90 = .ok (.iload 5, 2) := by decide +kernel
theorem dX12_joins_92 : decode cX12_joins 92 = .ok (.dup2, 1) := by decide +kernel
theorem dX12_joins_93 : decode cX12_joins 93 = .ok (.baload, 1) := by decide +kernel
theorem dX12_joins_94 : decode cX12_joins 94 = .ok (.iload 7, 2) := by decide +kernel
theorem dX12_joins_96 : decode cX12_joins 96 = .ok (.ifCond .eq 22, 3) := by decide +kernel
theorem dX12_joins_99 : decode cX12_joins 99 = .ok (.aload_n 0, 1) := by decide +kernel
theorem dX12_joins_100 : decode cX12_joins 100 = .ok (.getfield 160, 3) := by decide +kernel
theorem dX12_joins_103 : decode cX12_joins 103 = .ok (.iload 5, 2) := by decide +kernel
theorem dX12_joins_105 : decode cX12_joins 105 = .ok (.iconst 1, 1) := by decide +kernel
theorem dX12_joins_106 : decode cX12_joins 106 = .ok (.iload 6, 2) := by decide +kernel
theorem dX12_joins_108 : decode cX12_joins 108 = .ok (.ishl, 1) := by decide +kernel
theorem dX12_joins_109 : decode cX12_joins 109 = .ok (.ixor, 1) := by decide +kernel
theorem dX12_joins_110 : decode cX12_joins 110 = .ok (.baload, 1) := by decide +kernel
theorem dX12_joins_111 : decode cX12_joins 111 = .ok (.ifCond .eq 7, 3) := by decide +kernel
theorem dX12_joins_114 : decode cX12_joins 114 = .ok (.iconst 1, 1) := by decide +kernel
theorem dX12_joins_115 : decode cX12_joins 115 = .ok (.goto 4, 3) := by decide +kernel
theorem dX12_joins_118 : decode cX12_joins 118 = .ok (.iconst 0, 1) := by decide +kernel
theorem dX12_joins_119 : decode cX12_joins 119 = .ok (.ior, 1) := by decide +kernel
theorem dX12_joins_120 : decode cX12_joins 120 = .ok (.bastore, 1) := by decide +kernel
theorem dX12_joins_121 : decode cX12_joins 121 = .ok (.iinc 6 1, 3) := by decide +kernel
theorem dX12_joins_124 : decode cX12_joins 124 = .ok (.goto (-84), 3) := by decide +kernel
theorem dX12_joins_127 : decode cX12_joins 127 = .ok (.iinc 5 (-1), 3) := by decide +kernel
theorem dX12_joins_130 : decode cX12_joins 130 = .ok (.goto (-125), 3) := by decide +kernel
theorem dX12_joins_133 : decode cX12_joins 133 = .ok (.iconst 0, 1) := by decide +kernel
theorem dX12_joins_134 : decode cX12_joins 134 = .ok (.istore 5, 2) := by decide +kernel
theorem dX12_joins_136 : decode cX12_joins 136 = .ok (.iload 5, 2) := by decide +kernel
theorem dX12_joins_138 : decode cX12_joins 138 = .ok (.sipush 4096, 3) := by decide +kernel
theorem dX12_joins_141 : decode cX12_joins 141 = .ok (.if_icmp .ge 23, 3) := by decide +kernel
theorem dX12_joins_144 : decode cX12_joins 144 = .ok (.aload_n 0, 1) := by decide +kernel
theorem dX12_joins_145 : decode cX12_joins 145 = .ok (.getfield 160, 3) := by decide +kernel
theorem dX12_joins_148 : decode cX12_joins 148 = .ok (.iload 5, 2) := by decide +kernel
theorem dX12_joins_150 : decode cX12_joins 150 = .ok (.aload_n 0, 1) := by decide +kernel
theorem dX12_joins_151 : decode cX12_joins 151 = .ok (.getfield 157, 3) := by decide +kernel
theorem dX12_joins_154 : decode cX12_joins 154 = .ok (.iload 5, 2) := by decide +kernel
theorem dX12_joins_156 : decode cX12_joins 156 = .ok (.baload, 1) := by decide +kernel
theorem dX12_joins_157 : decode cX12_joins 157 = .ok (.bastore, 1) := by decide +kernel
theorem dX12_joins_158 : decode cX12_joins 158 = .ok (.iinc 5 1, 3) := by decide +kernel
theorem dX12_joins_161 : decode cX12_joins 161 = .ok (.goto (-25), 3) := by decide +kernel
theorem dX12_joins_164 : decode cX12_joins 164 = .ok (.return_, 1) := by decide +kernel
abbrev M_X12_joins : aM := (yX12_joins.cls, cX12_joins, 8, none, [], yX12_joins.name == "<init>")
abbrev J_X12_joins (l : Launch) (E : aE) (n0 m0 : Nat) := GG (fun (_ : Unit) => .inl none) l E M_X12_joins 1 24 n0 m0
theorem b_X12_joins {l : Launch} {E : aE} (hl : l.stackTraces = false) (n0 m0 : Nat) (x1 : Nat) (x2 : Int32) (x3 : Int32) (x4 : Int32) (x5 : Int32) (h0 : aH) : J_X12_joins l E n0 m0 0 [(0, .ref (e_z E + x1)), (1, .int x2), (2, .int x3), (3, .int x4), (4, .int x5)] [] h0 (m_X12_joins x1 x2 x3 x4 x5 h0) := by
  unfold m_X12_joins
  refine g_sipush (pc := 0) dX12_joins_0 cs_4095 ?_
  refine g_istore (pc := 3) (lv' := [(5, .int (4095 : Int32)), (0, .ref (e_z E + x1)), (1, .int x2), (2, .int x3), (3, .int x4), (4, .int x5)]) dX12_joins_3 (Nat.le_of_ble_eq_true rfl) rfl ?_
  refine g_join (fun k => ∀ (h1 : aH), J_X12_joins l E n0 m0 133 [(0, .ref (e_z E + x1))] [] h1 (k h1)) (fun h1 => ?_) (fun k133 hk133 => ?_)
  · refine g_iconst (pc := 133) dX12_joins_133 ci_0 ?_
    refine g_istore (pc := 134) (lv' := [(5, .int (0 : Int32)), (0, .ref (e_z E + x1))]) dX12_joins_134 (Nat.le_of_ble_eq_true rfl) rfl ?_
    refine g_join (fun k => ∀ (h2 : aH), J_X12_joins l E n0 m0 164 [] [] h2 (k h2)) (fun h2 => ?_) (fun k164 hk164 => ?_)
    · exact g_ret (pc := 164) rfl isRet_v dX12_joins_164 rfl
    refine g_lv [1, 0] rfl ?_
    refine g_loop1 (F := (m_X12_joins_L136 x1 k164)) (fun x6 => [(0, .ref (e_z E + x1)), (5, .int x6)]) (fun r136 hr136 x6 h3 => ?_) _ _ _
    unfold m_X12_joins_L136
    refine g_iload (pc := 136) dX12_joins_136 1 rfl ?_
    refine g_sipush (pc := 138) dX12_joins_138 cs_4096 ?_
    refine g_icmpge (pc := 141) (tgt := 164) dX12_joins_141 rfl ?_ ?_
    · refine g_aload_n (pc := 144) dX12_joins_144 0 rfl ?_
      refine g_getr (pc := 145) cl12 (Nat.le_of_ble_eq_true rfl) fk1621 (fun _ _ _ => rfl) dX12_joins_145 (fun x7 => ?_)
      refine g_iload (pc := 148) dX12_joins_148 1 rfl ?_
      refine g_aload_n (pc := 150) dX12_joins_150 0 rfl ?_
      refine g_getr (pc := 151) cl12 (Nat.le_of_ble_eq_true rfl) fk1620 (fun _ _ _ => rfl) dX12_joins_151 (fun x8 => ?_)
      refine g_iload (pc := 154) dX12_joins_154 1 rfl ?_
      refine g_zald (pc := 156) dX12_joins_156 (fun x9 => ?_)
      refine g_zast (pc := 157) dX12_joins_157 (fun h4 => ?_)
      refine g_iincN (pc := 158) dX12_joins_158 1 rfl ci_1 (Nat.le_of_ble_eq_true rfl) (fun x10 => ?_)
      refine g_lvr (lv' := [(5, .int x10), (0, .ref (e_z E + x1))]) rfl ?_
      refine g_goto (pc := 161) (tgt := 136) dX12_joins_161 rfl ?_
      refine g_lv [1, 0] rfl ?_
      exact hr136 x10 h4
    · refine g_lv [] rfl ?_
      exact hk164 h3
  refine g_lv [1, 2, 3, 4, 5, 0] rfl ?_
  refine g_loop1 (F := (m_X12_joins_L5 x1 x2 x3 x4 x5 k133)) (fun x11 => [(0, .ref (e_z E + x1)), (1, .int x2), (2, .int x3), (3, .int x4), (4, .int x5), (5, .int x11)]) (fun r5 hr5 x11 h5 => ?_) _ _ _
  unfold m_X12_joins_L5
  refine g_iload (pc := 5) dX12_joins_5 5 rfl ?_
  refine g_iflt (pc := 7) (tgt := 133) dX12_joins_7 rfl ?_ ?_
  · refine g_lv [0] rfl ?_
    exact hk133 h5
  · refine g_aload_n (pc := 10) dX12_joins_10 0 rfl ?_
    refine g_getr (pc := 11) cl12 (Nat.le_of_ble_eq_true rfl) fk1620 (fun _ _ _ => rfl) dX12_joins_11 (fun x12 => ?_)
    refine g_iload (pc := 14) dX12_joins_14 5 rfl ?_
    refine g_aload_n (pc := 16) dX12_joins_16 0 rfl ?_
    refine g_getr (pc := 17) cl12 (Nat.le_of_ble_eq_true rfl) fk1621 (fun _ _ _ => rfl) dX12_joins_17 (fun x13 => ?_)
    refine g_iload (pc := 20) dX12_joins_20 5 rfl ?_
    refine g_zald (pc := 22) dX12_joins_22 (fun x14 => ?_)
    refine g_join (fun k => ∀ (x15 : Int32) (h6 : aH), J_X12_joins l E n0 m0 36 [(0, .ref (e_z E + x1)), (1, .int x2), (2, .int x3), (3, .int x4), (4, .int x5), (5, .int x11)] [.int x15, .int x11, .ref (e_z E + x12)] h6 (k x15 h6)) (fun x15 h6 => ?_) (fun k36 hk36 => ?_)
    · refine g_zast (pc := 36) dX12_joins_36 (fun h7 => ?_)
      refine g_iconst (pc := 37) dX12_joins_37 ci_0 ?_
      refine g_istore (pc := 38) (lv' := [(6, .int (0 : Int32)), (0, .ref (e_z E + x1)), (1, .int x2), (2, .int x3), (3, .int x4), (4, .int x5), (5, .int x11)]) dX12_joins_38 (Nat.le_of_ble_eq_true rfl) rfl ?_
      refine g_join (fun k => ∀ (h8 : aH), J_X12_joins l E n0 m0 127 [(0, .ref (e_z E + x1)), (1, .int x2), (2, .int x3), (3, .int x4), (4, .int x5), (5, .int x11)] [] h8 (k h8)) (fun h8 => ?_) (fun k127 hk127 => ?_)
      · refine g_iincN (pc := 127) dX12_joins_127 5 rfl ci_m1 (Nat.le_of_ble_eq_true rfl) (fun x16 => ?_)
        refine g_lvr (lv' := [(5, .int x16), (0, .ref (e_z E + x1)), (1, .int x2), (2, .int x3), (3, .int x4), (4, .int x5)]) rfl ?_
        refine g_goto (pc := 130) (tgt := 5) dX12_joins_130 rfl ?_
        refine g_lv [1, 2, 3, 4, 5, 0] rfl ?_
        exact hr5 x16 h8
      refine g_lv [1, 2, 3, 4, 5, 6, 0] rfl ?_
      refine g_loop1 (F := (m_X12_joins_L40 x1 x2 x3 x4 x11 k127)) (fun x17 => [(0, .ref (e_z E + x1)), (1, .int x2), (2, .int x3), (3, .int x4), (4, .int x5), (5, .int x11), (6, .int x17)]) (fun r40 hr40 x17 h9 => ?_) _ _ _
      unfold m_X12_joins_L40
      refine g_iload (pc := 40) dX12_joins_40 6 rfl ?_
      refine g_aload_n (pc := 42) dX12_joins_42 0 rfl ?_
      refine g_geti (pc := 43) cl12 (Nat.le_of_ble_eq_true rfl) fk1559 (fun _ _ _ => rfl) dX12_joins_43 (fun x18 => ?_)
      refine g_icmpge (pc := 46) (tgt := 127) dX12_joins_46 rfl ?_ ?_
      · refine g_iload (pc := 49) dX12_joins_49 5 rfl ?_
        refine g_iload (pc := 51) dX12_joins_51 6 rfl ?_
        refine g_ishr (pc := 53) dX12_joins_53 ?_
        refine g_iconst (pc := 54) dX12_joins_54 ci_1 ?_
        refine g_iand (pc := 55) dX12_joins_55 ?_
        refine g_join (fun k => ∀ (x19 : Int32) (h10 : aH), J_X12_joins l E n0 m0 84 [(0, .ref (e_z E + x1)), (1, .int x2), (2, .int x3), (3, .int x4), (4, .int x5), (5, .int x11), (6, .int x17)] [.int x19] h10 (k x19 h10)) (fun x19 h10 => ?_) (fun k84 hk84 => ?_)
        · refine g_istore (pc := 84) (lv' := [(7, .int x19), (0, .ref (e_z E + x1)), (1, .int x2), (2, .int x3), (3, .int x4), (4, .int x5), (5, .int x11), (6, .int x17)]) dX12_joins_84 (Nat.le_of_ble_eq_true rfl) rfl ?_
          refine g_aload_n (pc := 86) dX12_joins_86 1 rfl ?_
          refine g_getr (pc := 87) cl12 (Nat.le_of_ble_eq_true rfl) fk1620 (fun _ _ _ => rfl) dX12_joins_87 (fun x20 => ?_)
          refine g_iload (pc := 90) dX12_joins_90 6 rfl ?_
          refine g_dup2 (pc := 92) rfl rfl dX12_joins_92 ?_
          refine g_zald (pc := 93) dX12_joins_93 (fun x21 => ?_)
          refine g_iload (pc := 94) dX12_joins_94 0 rfl ?_
          refine g_join (fun k => ∀ (x22 : Int32) (h11 : aH), J_X12_joins l E n0 m0 119 [(0, .ref (e_z E + x1)), (1, .int x2), (2, .int x3), (3, .int x4), (4, .int x5), (5, .int x11), (6, .int x17)] [.int x22, .int x21, .int x11, .ref (e_z E + x20)] h11 (k x22 h11)) (fun x22 h11 => ?_) (fun k119 hk119 => ?_)
          · refine g_ior (pc := 119) dX12_joins_119 ?_
            refine g_zast (pc := 120) dX12_joins_120 (fun h12 => ?_)
            refine g_iincN (pc := 121) dX12_joins_121 6 rfl ci_1 (Nat.le_of_ble_eq_true rfl) (fun x23 => ?_)
            refine g_lvr (lv' := [(6, .int x23), (0, .ref (e_z E + x1)), (1, .int x2), (2, .int x3), (3, .int x4), (4, .int x5), (5, .int x11)]) rfl ?_
            refine g_goto (pc := 124) (tgt := 40) dX12_joins_124 rfl ?_
            refine g_lv [1, 2, 3, 4, 5, 6, 0] rfl ?_
            exact hr40 x23 h12
          refine g_join (fun k => ∀ (h13 : aH), J_X12_joins l E n0 m0 118 [(0, .ref (e_z E + x1)), (1, .int x2), (2, .int x3), (3, .int x4), (4, .int x5), (5, .int x11), (6, .int x17)] [.int x21, .int x11, .ref (e_z E + x20)] h13 (k h13)) (fun h13 => ?_) (fun k118 hk118 => ?_)
          · refine g_iconst (pc := 118) dX12_joins_118 ci_0 ?_
            exact hk119 (0 : Int32) h13
          refine g_ifeq (pc := 96) (tgt := 118) dX12_joins_96 rfl ?_ ?_
          · refine g_lv [1, 2, 3, 4, 5, 6, 7] rfl ?_
            exact hk118 h10
          · refine g_aload_n (pc := 99) dX12_joins_99 1 rfl ?_
            refine g_getr (pc := 100) cl12 (Nat.le_of_ble_eq_true rfl) fk1621 (fun _ _ _ => rfl) dX12_joins_100 (fun x24 => ?_)
            refine g_iload (pc := 103) dX12_joins_103 6 rfl ?_
            refine g_iconst (pc := 105) dX12_joins_105 ci_1 ?_
            refine g_iload (pc := 106) dX12_joins_106 7 rfl ?_
            refine g_ishl (pc := 108) dX12_joins_108 ?_
            refine g_ixor (pc := 109) dX12_joins_109 ?_
            refine g_zald (pc := 110) dX12_joins_110 (fun x25 => ?_)
            refine g_ifeq (pc := 111) (tgt := 118) dX12_joins_111 rfl ?_ ?_
            · refine g_lv [1, 2, 3, 4, 5, 6, 7] rfl ?_
              exact hk118 h10
            · refine g_iconst (pc := 114) dX12_joins_114 ci_1 ?_
              refine g_goto (pc := 115) (tgt := 119) dX12_joins_115 rfl ?_
              refine g_lv [1, 2, 3, 4, 5, 6, 7] rfl ?_
              exact hk119 (1 : Int32) h10
        refine g_join (fun k => ∀ (h14 : aH), J_X12_joins l E n0 m0 83 [(0, .ref (e_z E + x1)), (1, .int x2), (2, .int x3), (3, .int x4), (4, .int x5), (5, .int x11), (6, .int x17)] [] h14 (k h14)) (fun h14 => ?_) (fun k83 hk83 => ?_)
        · refine g_iconst (pc := 83) dX12_joins_83 ci_0 ?_
          exact hk84 (0 : Int32) h14
        refine g_ifeq (pc := 56) (tgt := 83) dX12_joins_56 rfl ?_ ?_
        · exact hk83 h9
        · refine g_iload_n (pc := 59) dX12_joins_59 3 rfl ?_
          refine g_iload (pc := 60) dX12_joins_60 6 rfl ?_
          refine g_ishr (pc := 62) dX12_joins_62 ?_
          refine g_iconst (pc := 63) dX12_joins_63 ci_1 ?_
          refine g_iand (pc := 64) dX12_joins_64 ?_
          refine g_ifeq (pc := 65) (tgt := 83) dX12_joins_65 rfl ?_ ?_
          · exact hk83 h9
          · refine g_aload_n (pc := 68) dX12_joins_68 0 rfl ?_
            refine g_iload (pc := 69) dX12_joins_69 6 rfl ?_
            refine g_iload_n (pc := 71) dX12_joins_71 1 rfl ?_
            refine g_iload_n (pc := 72) dX12_joins_72 2 rfl ?_
            refine g_gS (fun hs => ?_)
            refine g_bRi (pc := 73) (c_V cl12 hs (p_X12_fits hl x1 x17 x2 x3 h9) y_X12_fits tw2104 dX12_joins_73 rfl (st := []) rfl (Nat.le_of_ble_eq_true rfl) (Nat.le_of_ble_eq_true rfl) (Nat.le_of_ble_eq_true rfl)) (fun x26 h15 => ?_)
            refine g_ifeq (pc := 76) (tgt := 83) dX12_joins_76 rfl ?_ ?_
            · exact hk83 h15
            · refine g_iconst (pc := 79) dX12_joins_79 ci_1 ?_
              refine g_goto (pc := 80) (tgt := 84) dX12_joins_80 rfl ?_
              exact hk84 (1 : Int32) h15
      · refine g_lv [0, 1, 2, 3, 4, 5] rfl ?_
        exact hk127 h9
    refine g_join (fun k => ∀ (h16 : aH), J_X12_joins l E n0 m0 35 [(0, .ref (e_z E + x1)), (1, .int x2), (2, .int x3), (3, .int x4), (4, .int x5), (5, .int x11)] [.int x11, .ref (e_z E + x12)] h16 (k h16)) (fun h16 => ?_) (fun k35 hk35 => ?_)
    · refine g_iconst (pc := 35) dX12_joins_35 ci_0 ?_
      exact hk36 (0 : Int32) h16
    refine g_ifeq (pc := 23) (tgt := 35) dX12_joins_23 rfl ?_ ?_
    · exact hk35 h5
    · refine g_iload (pc := 26) dX12_joins_26 4 rfl ?_
      refine g_ifne (pc := 28) (tgt := 35) dX12_joins_28 rfl ?_ ?_
      · refine g_iconst (pc := 31) dX12_joins_31 ci_1 ?_
        refine g_goto (pc := 32) (tgt := 36) dX12_joins_32 rfl ?_
        exact hk36 (1 : Int32) h5
      · exact hk35 h5
theorem p_X12_joins {l : Launch} {E : aE} (hl : l.stackTraces = false) (x1 : Nat) (x2 : Int32) (x3 : Int32) (x4 : Int32) (x5 : Int32) (h0 : aH) : MO (fun (_ : Unit) => .inl none) l E yX12_joins (.code yX12_joins cX12_joins 8 none) 1 24 [.ref (e_z E + x1), .int x2, .int x3, .int x4, .int x5] h0 (m_X12_joins x1 x2 x3 x4 x5 h0) := g_met hl (by decide +kernel) (Nat.le_of_ble_eq_true rfl) (b_X12_joins hl _ _ x1 x2 x3 x4 x5 h0)
theorem dX12_begins__0 : decode cX12_begins_ 0 = .ok (.iconst 0, 1) := by decide +kernel
theorem dX12_begins__1 : decode cX12_begins_ 1 = .ok (.istore_n 1, 1) := by decide +kernel
theorem dX12_begins__2 : decode cX12_begins_ 2 = .ok (.iload_n 1, 1) := by decide +kernel
theorem dX12_begins__3 : decode cX12_begins_ 3 = .ok (.sipush 4096, 3) := by decide +kernel
theorem dX12_begins__6 : decode cX12_begins_ 6 = .ok (.if_icmp .ge 24, 3) := by decide +kernel
theorem dX12_begins__9 : decode cX12_begins_ 9 = .ok (.aload_n 0, 1) := by decide +kernel
theorem dX12_begins__10 : decode cX12_begins_ 10 = .ok (.getfield 160, 3) := by decide +kernel
theorem dX12_begins__13 : decode cX12_begins_ 13 = .ok (.iload_n 1, 1) := by decide +kernel
theorem dX12_begins__14 : decode cX12_begins_ 14 = .ok (.iload_n 1, 1) := by decide +kernel
theorem dX12_begins__15 : decode cX12_begins_ 15 = .ok (.ifCond .ne 7, 3) := by decide +kernel
theorem dX12_begins__18 : decode cX12_begins_ 18 = .ok (.iconst 1, 1) := by decide +kernel
theorem dX12_begins__19 : decode cX12_begins_ 19 = .ok (.goto 4, 3) := by decide +kernel
theorem dX12_begins__22 : decode cX12_begins_ 22 = .ok (.iconst 0, 1) := by decide +kernel
theorem dX12_begins__23 : decode cX12_begins_ 23 = .ok (.bastore, 1) := by decide +kernel
theorem dX12_begins__24 : decode cX12_begins_ 24 = .ok (.iinc 1 1, 3) := by decide +kernel
theorem dX12_begins__27 : decode cX12_begins_ 27 = .ok (.goto (-25), 3) := by decide +kernel
theorem dX12_begins__30 : decode cX12_begins_ 30 = .ok (.return_, 1) := by decide +kernel
abbrev M_X12_begins_ : aM := (yX12_begins_.cls, cX12_begins_, 2, none, [], yX12_begins_.name == "<init>")
abbrev J_X12_begins_ (l : Launch) (E : aE) (n0 m0 : Nat) := GG (fun (_ : Unit) => .inl none) l E M_X12_begins_ 0 0 n0 m0
theorem b_X12_begins_ {l : Launch} {E : aE} (hl : l.stackTraces = false) (n0 m0 : Nat) (x1 : Nat) (h0 : aH) : J_X12_begins_ l E n0 m0 0 [(0, .ref (e_z E + x1))] [] h0 (m_X12_begins_ x1 h0) := by
  unfold m_X12_begins_
  refine g_iconst (pc := 0) dX12_begins__0 ci_0 ?_
  refine g_istore_n (pc := 1) (lv' := [(1, .int (0 : Int32)), (0, .ref (e_z E + x1))]) dX12_begins__1 (Nat.le_of_ble_eq_true rfl) rfl ?_
  refine g_join (fun k => ∀ (h1 : aH), J_X12_begins_ l E n0 m0 30 [] [] h1 (k h1)) (fun h1 => ?_) (fun k30 hk30 => ?_)
  · exact g_ret (pc := 30) rfl isRet_v dX12_begins__30 rfl
  refine g_lv [1, 0] rfl ?_
  refine g_loop1 (F := (m_X12_begins__L2 x1 k30)) (fun x2 => [(0, .ref (e_z E + x1)), (1, .int x2)]) (fun r2 hr2 x2 h2 => ?_) _ _ _
  unfold m_X12_begins__L2
  refine g_iload_n (pc := 2) dX12_begins__2 1 rfl ?_
  refine g_sipush (pc := 3) dX12_begins__3 cs_4096 ?_
  refine g_icmpge (pc := 6) (tgt := 30) dX12_begins__6 rfl ?_ ?_
  · refine g_aload_n (pc := 9) dX12_begins__9 0 rfl ?_
    refine g_getr (pc := 10) cl12 (Nat.le_of_ble_eq_true rfl) fk1621 (fun _ _ _ => rfl) dX12_begins__10 (fun x3 => ?_)
    refine g_iload_n (pc := 13) dX12_begins__13 1 rfl ?_
    refine g_iload_n (pc := 14) dX12_begins__14 1 rfl ?_
    refine g_join (fun k => ∀ (x4 : Int32) (h3 : aH), J_X12_begins_ l E n0 m0 23 [(0, .ref (e_z E + x1)), (1, .int x2)] [.int x4, .int x2, .ref (e_z E + x3)] h3 (k x4 h3)) (fun x4 h3 => ?_) (fun k23 hk23 => ?_)
    · refine g_zast (pc := 23) dX12_begins__23 (fun h4 => ?_)
      refine g_iincN (pc := 24) dX12_begins__24 1 rfl ci_1 (Nat.le_of_ble_eq_true rfl) (fun x5 => ?_)
      refine g_lvr (lv' := [(1, .int x5), (0, .ref (e_z E + x1))]) rfl ?_
      refine g_goto (pc := 27) (tgt := 2) dX12_begins__27 rfl ?_
      refine g_lv [1, 0] rfl ?_
      exact hr2 x5 h4
    refine g_ifne (pc := 15) (tgt := 22) dX12_begins__15 rfl ?_ ?_
    · refine g_iconst (pc := 18) dX12_begins__18 ci_1 ?_
      refine g_goto (pc := 19) (tgt := 23) dX12_begins__19 rfl ?_
      exact hk23 (1 : Int32) h2
    · refine g_iconst (pc := 22) dX12_begins__22 ci_0 ?_
      exact hk23 (0 : Int32) h2
  · refine g_lv [] rfl ?_
    exact hk30 h2
theorem p_X12_begins_ {l : Launch} {E : aE} (hl : l.stackTraces = false) (x1 : Nat) (h0 : aH) : MO (fun (_ : Unit) => .inl none) l E yX12_begins_ (.code yX12_begins_ cX12_begins_ 2 none) 0 0 [.ref (e_z E + x1)] h0 (m_X12_begins_ x1 h0) := g_met hl (by decide +kernel) (Nat.le_of_ble_eq_true rfl) (b_X12_begins_ hl _ _ x1 h0)
theorem dX12_manned_0 : decode cX12_manned 0 = .ok (.aload_n 0, 1) := by decide +kernel
theorem dX12_manned_1 : decode cX12_manned 1 = .ok (.aload_n 0, 1) := by decide +kernel
theorem dX12_manned_2 : decode cX12_manned 2 = .ok (.iload_n 1, 1) := by decide +kernel
theorem dX12_manned_3 : decode cX12_manned 3 = .ok (.iload_n 2, 1) := by decide +kernel
theorem dX12_manned_4 : decode cX12_manned 4 = .ok (.invokevirtual 449, 3) := by decide +kernel
theorem dX12_manned_7 : decode cX12_manned 7 = .ok (.ifCond .eq 7, 3) := by decide +kernel
theorem dX12_manned_10 : decode cX12_manned 10 = .ok (.iconst 0, 1) := by decide +kernel
theorem dX12_manned_11 : decode cX12_manned 11 = .ok (.goto 4, 3) := by decide +kernel
theorem dX12_manned_14 : decode cX12_manned 14 = .ok (.iconst 1, 1) := by decide +kernel
theorem dX12_manned_15 : decode cX12_manned 15 = .ok (.putfield 166, 3) := by decide +kernel
theorem dX12_manned_18 : decode cX12_manned 18 = .ok (.aload_n 0, 1) := by decide +kernel
theorem dX12_manned_19 : decode cX12_manned 19 = .ok (.getfield 166, 3) := by decide +kernel
theorem dX12_manned_22 : decode cX12_manned 22 = .ok (.ifCond .le 5, 3) := by decide +kernel
theorem dX12_manned_25 : decode cX12_manned 25 = .ok (.iconst 0, 1) := by decide +kernel
theorem dX12_manned_26 : decode cX12_manned 26 = .ok (.ireturn, 1) := by decide +kernel
theorem dX12_manned_27 : decode cX12_manned 27 = .ok (.aload_n 0, 1) := by decide +kernel
theorem dX12_manned_28 : decode cX12_manned 28 = .ok (.iload_n 1, 1) := by decide +kernel
theorem dX12_manned_29 : decode cX12_manned 29 = .ok (.invokevirtual 446, 3) := by decide +kernel
theorem dX12_manned_32 : decode cX12_manned 32 = .ok (.aload_n 0, 1) := by decide +kernel
theorem dX12_manned_33 : decode cX12_manned 33 = .ok (.getfield 75, 3) := by decide +kernel
theorem dX12_manned_36 : decode cX12_manned 36 = .ok (.iconst 5, 1) := by decide +kernel
theorem dX12_manned_37 : decode cX12_manned 37 = .ok (.iload_n 1, 1) := by decide +kernel
theorem dX12_manned_38 : decode cX12_manned 38 = .ok (.imul, 1) := by decide +kernel
theorem dX12_manned_39 : decode cX12_manned 39 = .ok (.iload_n 2, 1) := by decide +kernel
theorem dX12_manned_40 : decode cX12_manned 40 = .ok (.iadd, 1) := by decide +kernel
theorem dX12_manned_41 : decode cX12_manned 41 = .ok (.iaload, 1) := by decide +kernel
theorem dX12_manned_42 : decode cX12_manned 42 = .ok (.istore_n 3, 1) := by decide +kernel
theorem dX12_manned_43 : decode cX12_manned 43 = .ok (.aload_n 0, 1) := by decide +kernel
theorem dX12_manned_44 : decode cX12_manned 44 = .ok (.getfield 151, 3) := by decide +kernel
theorem dX12_manned_47 : decode cX12_manned 47 = .ok (.iload_n 2, 1) := by decide +kernel
theorem dX12_manned_48 : decode cX12_manned 48 = .ok (.iaload, 1) := by decide +kernel
theorem dX12_manned_49 : decode cX12_manned 49 = .ok (.istore 4, 2) := by decide +kernel
theorem dX12_manned_51 : decode cX12_manned 51 = .ok (.aload_n 0, 1) := by decide +kernel
theorem dX12_manned_52 : decode cX12_manned 52 = .ok (.invokevirtual 452, 3) := by decide +kernel
theorem dX12_manned_55 : decode cX12_manned 55 = .ok (.iconst 0, 1) := by decide +kernel
theorem dX12_manned_56 : decode cX12_manned 56 = .ok (.istore 5, 2) := by decide +kernel
theorem dX12_manned_58 : decode cX12_manned 58 = .ok (.iload 5, 2) := by decide +kernel
theorem dX12_manned_60 : decode cX12_manned 60 = .ok (.aload_n 0, 1) := by decide +kernel
theorem dX12_manned_61 : decode cX12_manned 61 = .ok (.getfield 51, 3) := by decide +kernel
theorem dX12_manned_64 : decode cX12_manned 64 = .ok (.iload_n 3, 1) := by decide +kernel
theorem dX12_manned_65 : decode cX12_manned 65 = .ok (.iaload, 1) := by decide +kernel
theorem dX12_manned_66 : decode cX12_manned 66 = .ok (.if_icmp .ge 19, 3) := by decide +kernel
theorem dX12_manned_69 : decode cX12_manned 69 = .ok (.aload_n 0, 1) := by decide +kernel
theorem dX12_manned_70 : decode cX12_manned 70 = .ok (.iload_n 3, 1) := by decide +kernel
theorem dX12_manned_71 : decode cX12_manned 71 = .ok (.iload 5, 2) := by decide +kernel
theorem dX12_manned_73 : decode cX12_manned 73 = .ok (.iload 4, 2) := by decide +kernel
theorem dX12_manned_75 : decode cX12_manned 75 = .ok (.iconst 0, 1) := by decide +kernel
theorem dX12_manned_76 : decode cX12_manned 76 = .ok (.invokevirtual 454, 3) := by decide +kernel
theorem dX12_manned_79 : decode cX12_manned 79 = .ok (.iinc 5 1, 3) := by decide +kernel
theorem dX12_manned_82 : decode cX12_manned 82 = .ok (.goto (-24), 3) := by decide +kernel
theorem dX12_manned_85 : decode cX12_manned 85 = .ok (.iconst 0, 1) := by decide +kernel
theorem dX12_manned_86 : decode cX12_manned 86 = .ok (.istore 5, 2) := by decide +kernel
theorem dX12_manned_88 : decode cX12_manned 88 = .ok (.iconst 0, 1) := by decide +kernel
theorem dX12_manned_89 : decode cX12_manned 89 = .ok (.istore 6, 2) := by decide +kernel
theorem dX12_manned_91 : decode cX12_manned 91 = .ok (.iload 6, 2) := by decide +kernel
theorem dX12_manned_93 : decode cX12_manned 93 = .ok (.sipush 4096, 3) := by decide +kernel
theorem dX12_manned_96 : decode cX12_manned 96 = .ok (.if_icmp .ge 41, 3) := by decide +kernel
theorem dX12_manned_99 : decode cX12_manned 99 = .ok (.aload_n 0, 1) := by decide +kernel
theorem dX12_manned_100 : decode cX12_manned 100 = .ok (.getfield 160, 3) := by decide +kernel
theorem dX12_manned_103 : decode cX12_manned 103 = .ok (.iload 6, 2) := by decide +kernel
theorem dX12_manned_105 : decode cX12_manned 105 = .ok (.baload, 1) := by decide +kernel
theorem dX12_manned_106 : decode cX12_manned 106 = .ok (.ifCond .eq 21, 3) := by decide +kernel
theorem dX12_manned_109 : decode cX12_manned 109 = .ok (.iload 6, 2) := by decide +kernel
theorem dX12_manned_111 : decode cX12_manned 111 = .ok (.invokestatic 415, 3) := by decide +kernel
theorem dX12_manned_114 : decode cX12_manned 114 = .ok (.iload 5, 2) := by decide +kernel
theorem dX12_manned_116 : decode cX12_manned 116 = .ok (.if_icmp .le 11, 3) := by decide +kernel
theorem dX12_manned_119 : decode cX12_manned 119 = .ok (.iload 6, 2) := by decide +kernel
theorem dX12_manned_121 : decode cX12_manned 121 = .ok (.invokestatic 415, 3) := by decide +kernel
theorem dX12_manned_124 : decode cX12_manned 124 = .ok (.goto 5, 3) := by decide +kernel
theorem dX12_manned_127 : decode cX12_manned 127 = .ok (.iload 5, 2) := by decide +kernel
theorem dX12_manned_129 : decode cX12_manned 129 = .ok (.istore 5, 2) := by decide +kernel
theorem dX12_manned_131 : decode cX12_manned 131 = .ok (.iinc 6 1, 3) := by decide +kernel
theorem dX12_manned_134 : decode cX12_manned 134 = .ok (.goto (-43), 3) := by decide +kernel
theorem dX12_manned_137 : decode cX12_manned 137 = .ok (.iload 5, 2) := by decide +kernel
theorem dX12_manned_139 : decode cX12_manned 139 = .ok (.ireturn, 1) := by decide +kernel
abbrev M_X12_manned : aM := (yX12_manned.cls, cX12_manned, 7, (some .int), [], yX12_manned.name == "<init>")
abbrev J_X12_manned (l : Launch) (E : aE) (n0 m0 : Nat) := GG (fun (v : Int32) => .inl (some (.int v))) l E M_X12_manned 6 135 n0 m0
theorem b_X12_manned {l : Launch} {E : aE} (hl : l.stackTraces = false) (n0 m0 : Nat) (x1 : Nat) (x2 : Int32) (x3 : Int32) (h0 : aH) : J_X12_manned l E n0 m0 0 [(0, .ref (e_z E + x1)), (1, .int x2), (2, .int x3)] [] h0 (m_X12_manned x1 x2 x3 h0) := by
  unfold m_X12_manned
  refine g_aload_n (pc := 0) dX12_manned_0 0 rfl ?_
  refine g_aload_n (pc := 1) dX12_manned_1 0 rfl ?_
  refine g_iload_n (pc := 2) dX12_manned_2 1 rfl ?_
  refine g_iload_n (pc := 3) dX12_manned_3 2 rfl ?_
  refine g_gS (fun hs => ?_)
  refine g_bRi (pc := 4) (c_V cl12 hs (p_X12_isEngine hl x1 x2 x3 h0) y_X12_isEngine tw2081 dX12_manned_4 rfl (st := [.ref (e_z E + x1)]) rfl (Nat.le_of_ble_eq_true rfl) (Nat.le_of_ble_eq_true rfl) (Nat.le_of_ble_eq_true rfl)) (fun x4 h1 => ?_)
  refine g_join (fun k => ∀ (x5 : Int32) (h2 : aH), J_X12_manned l E n0 m0 15 [(0, .ref (e_z E + x1)), (1, .int x2), (2, .int x3)] [.int x5, .ref (e_z E + x1)] h2 (k x5 h2)) (fun x5 h2 => ?_) (fun k15 hk15 => ?_)
  · refine g_puti (pc := 15) cl12 (Nat.le_of_ble_eq_true rfl) (Or.inl ⟨rfl, fk1551⟩) (fun _ _ _ => rfl) (fun _ => ⟨rfl, rfl⟩) dX12_manned_15 (fun h3 => ?_)
    refine g_aload_n (pc := 18) dX12_manned_18 0 rfl ?_
    refine g_geti (pc := 19) cl12 (Nat.le_of_ble_eq_true rfl) fk1551 (fun _ _ _ => rfl) dX12_manned_19 (fun x6 => ?_)
    refine g_ifle (pc := 22) (tgt := 27) dX12_manned_22 rfl ?_ ?_
    · refine g_aload_n (pc := 27) dX12_manned_27 0 rfl ?_
      refine g_iload_n (pc := 28) dX12_manned_28 1 rfl ?_
      refine g_gS (fun hs => ?_)
      refine g_bRv (pc := 29) (c_V cl12 hs (p_X12_plans hl x1 x2 h3) y_X12_plans tw2085 dX12_manned_29 rfl (st := []) rfl (Nat.le_of_ble_eq_true rfl) (Nat.le_of_ble_eq_true rfl) (Nat.le_of_ble_eq_true rfl)) (fun _ h4 => ?_)
      refine g_aload_n (pc := 32) dX12_manned_32 0 rfl ?_
      refine g_getr (pc := 33) cl12 (Nat.le_of_ble_eq_true rfl) fk1578 (fun _ _ _ => rfl) dX12_manned_33 (fun x7 => ?_)
      refine g_iconst (pc := 36) dX12_manned_36 ci_5 ?_
      refine g_iload_n (pc := 37) dX12_manned_37 1 rfl ?_
      refine g_imul (pc := 38) dX12_manned_38 ?_
      refine g_iload_n (pc := 39) dX12_manned_39 2 rfl ?_
      refine g_iadd (pc := 40) dX12_manned_40 ?_
      refine g_iald (pc := 41) dX12_manned_41 (fun x8 => ?_)
      refine g_istore_n (pc := 42) (lv' := [(3, .int x8), (0, .ref (e_z E + x1)), (1, .int x2), (2, .int x3)]) dX12_manned_42 (Nat.le_of_ble_eq_true rfl) rfl ?_
      refine g_aload_n (pc := 43) dX12_manned_43 1 rfl ?_
      refine g_getr (pc := 44) cl12 (Nat.le_of_ble_eq_true rfl) fk1617 (fun _ _ _ => rfl) dX12_manned_44 (fun x9 => ?_)
      refine g_iload_n (pc := 47) dX12_manned_47 3 rfl ?_
      refine g_iald (pc := 48) dX12_manned_48 (fun x10 => ?_)
      refine g_istore (pc := 49) (lv' := [(4, .int x10), (3, .int x8), (0, .ref (e_z E + x1)), (1, .int x2), (2, .int x3)]) dX12_manned_49 (Nat.le_of_ble_eq_true rfl) rfl ?_
      refine g_aload_n (pc := 51) dX12_manned_51 2 rfl ?_
      refine g_gS (fun hs => ?_)
      refine g_bRv (pc := 52) (c_V cl12 hs (p_X12_begins_ hl x1 h4) y_X12_begins_ tw2124 dX12_manned_52 rfl (st := []) rfl (Nat.le_of_ble_eq_true rfl) (Nat.le_of_ble_eq_true rfl) (Nat.le_of_ble_eq_true rfl)) (fun _ h5 => ?_)
      refine g_iconst (pc := 55) dX12_manned_55 ci_0 ?_
      refine g_istore (pc := 56) (lv' := [(5, .int (0 : Int32)), (4, .int x10), (3, .int x8), (0, .ref (e_z E + x1)), (1, .int x2), (2, .int x3)]) dX12_manned_56 (Nat.le_of_ble_eq_true rfl) rfl ?_
      refine g_join (fun k => ∀ (h6 : aH), J_X12_manned l E n0 m0 85 [(0, .ref (e_z E + x1))] [] h6 (k h6)) (fun h6 => ?_) (fun k85 hk85 => ?_)
      · refine g_iconst (pc := 85) dX12_manned_85 ci_0 ?_
        refine g_istore (pc := 86) (lv' := [(5, .int (0 : Int32)), (0, .ref (e_z E + x1))]) dX12_manned_86 (Nat.le_of_ble_eq_true rfl) rfl ?_
        refine g_iconst (pc := 88) dX12_manned_88 ci_0 ?_
        refine g_istore (pc := 89) (lv' := [(6, .int (0 : Int32)), (5, .int (0 : Int32)), (0, .ref (e_z E + x1))]) dX12_manned_89 (Nat.le_of_ble_eq_true rfl) rfl ?_
        refine g_join (fun k => ∀ (x11 : Int32) (h7 : aH), J_X12_manned l E n0 m0 137 [(5, .int x11)] [] h7 (k x11 h7)) (fun x11 h7 => ?_) (fun k137 hk137 => ?_)
        · refine g_iload (pc := 137) dX12_manned_137 0 rfl ?_
          exact g_ret (pc := 139) rfl (isRet_i _) dX12_manned_139 rfl
        refine g_lv [2, 1, 0] rfl ?_
        refine g_loop2 (F := (m_X12_manned_L91 x1 k137)) (fun x12 x13 => [(0, .ref (e_z E + x1)), (5, .int x12), (6, .int x13)]) (fun r91 hr91 x12 x13 h8 => ?_) _ _ _ _
        unfold m_X12_manned_L91
        refine g_iload (pc := 91) dX12_manned_91 2 rfl ?_
        refine g_sipush (pc := 93) dX12_manned_93 cs_4096 ?_
        refine g_icmpge (pc := 96) (tgt := 137) dX12_manned_96 rfl ?_ ?_
        · refine g_aload_n (pc := 99) dX12_manned_99 0 rfl ?_
          refine g_getr (pc := 100) cl12 (Nat.le_of_ble_eq_true rfl) fk1621 (fun _ _ _ => rfl) dX12_manned_100 (fun x14 => ?_)
          refine g_iload (pc := 103) dX12_manned_103 2 rfl ?_
          refine g_zald (pc := 105) dX12_manned_105 (fun x15 => ?_)
          refine g_join (fun k => ∀ (x16 : Int32) (h9 : aH), J_X12_manned l E n0 m0 129 [(0, .ref (e_z E + x1)), (6, .int x13)] [.int x16] h9 (k x16 h9)) (fun x16 h9 => ?_) (fun k129 hk129 => ?_)
          · refine g_istore (pc := 129) (lv' := [(5, .int x16), (0, .ref (e_z E + x1)), (6, .int x13)]) dX12_manned_129 (Nat.le_of_ble_eq_true rfl) rfl ?_
            refine g_iincN (pc := 131) dX12_manned_131 2 rfl ci_1 (Nat.le_of_ble_eq_true rfl) (fun x17 => ?_)
            refine g_lvr (lv' := [(6, .int x17), (5, .int x16), (0, .ref (e_z E + x1))]) rfl ?_
            refine g_goto (pc := 134) (tgt := 91) dX12_manned_134 rfl ?_
            refine g_lv [2, 1, 0] rfl ?_
            exact hr91 x16 x17 h9
          refine g_join (fun k => ∀ (h10 : aH), J_X12_manned l E n0 m0 127 [(0, .ref (e_z E + x1)), (5, .int x12), (6, .int x13)] [] h10 (k h10)) (fun h10 => ?_) (fun k127 hk127 => ?_)
          · refine g_iload (pc := 127) dX12_manned_127 1 rfl ?_
            refine g_lv [0, 2] rfl ?_
            exact hk129 x12 h10
          refine g_ifeq (pc := 106) (tgt := 127) dX12_manned_106 rfl ?_ ?_
          · exact hk127 h8
          · refine g_iload (pc := 109) dX12_manned_109 2 rfl ?_
            refine g_bRi (pc := 111) (c_S (p_X12_many hl x13 h8) y_X12_many tw2101 dX12_manned_111 rfl (st := []) rfl (Nat.le_of_ble_eq_true rfl) (Nat.le_of_ble_eq_true rfl) (Nat.le_of_ble_eq_true rfl)) (fun x18 h11 => ?_)
            refine g_iload (pc := 114) dX12_manned_114 1 rfl ?_
            refine g_icmple (pc := 116) (tgt := 127) dX12_manned_116 rfl ?_ ?_
            · exact hk127 h11
            · refine g_iload (pc := 119) dX12_manned_119 2 rfl ?_
              refine g_bRi (pc := 121) (c_S (p_X12_many hl x13 h11) y_X12_many tw2101 dX12_manned_121 rfl (st := []) rfl (Nat.le_of_ble_eq_true rfl) (Nat.le_of_ble_eq_true rfl) (Nat.le_of_ble_eq_true rfl)) (fun x19 h12 => ?_)
              refine g_goto (pc := 124) (tgt := 129) dX12_manned_124 rfl ?_
              refine g_lv [0, 2] rfl ?_
              exact hk129 x19 h12
        · refine g_lv [1] rfl ?_
          exact hk137 x12 h8
      refine g_lv [3, 2, 1, 0] rfl ?_
      refine g_loop1 (F := (m_X12_manned_L58 x1 x8 x10 k85)) (fun x20 => [(0, .ref (e_z E + x1)), (3, .int x8), (4, .int x10), (5, .int x20)]) (fun r58 hr58 x20 h13 => ?_) _ _ _
      unfold m_X12_manned_L58
      refine g_iload (pc := 58) dX12_manned_58 3 rfl ?_
      refine g_aload_n (pc := 60) dX12_manned_60 0 rfl ?_
      refine g_getr (pc := 61) cl12 (Nat.le_of_ble_eq_true rfl) fk1570 (fun _ _ _ => rfl) dX12_manned_61 (fun x21 => ?_)
      refine g_iload_n (pc := 64) dX12_manned_64 1 rfl ?_
      refine g_iald (pc := 65) dX12_manned_65 (fun x22 => ?_)
      refine g_icmpge (pc := 66) (tgt := 85) dX12_manned_66 rfl ?_ ?_
      · refine g_aload_n (pc := 69) dX12_manned_69 0 rfl ?_
        refine g_iload_n (pc := 70) dX12_manned_70 1 rfl ?_
        refine g_iload (pc := 71) dX12_manned_71 3 rfl ?_
        refine g_iload (pc := 73) dX12_manned_73 2 rfl ?_
        refine g_iconst (pc := 75) dX12_manned_75 ci_0 ?_
        refine g_gS (fun hs => ?_)
        refine g_bRv (pc := 76) (c_V cl12 hs (p_X12_joins hl x1 x8 x20 x10 (0 : Int32) h13) y_X12_joins tw2128 dX12_manned_76 rfl (st := []) rfl (Nat.le_of_ble_eq_true rfl) (Nat.le_of_ble_eq_true rfl) (Nat.le_of_ble_eq_true rfl)) (fun _ h14 => ?_)
        refine g_iincN (pc := 79) dX12_manned_79 3 rfl ci_1 (Nat.le_of_ble_eq_true rfl) (fun x23 => ?_)
        refine g_lvr (lv' := [(5, .int x23), (0, .ref (e_z E + x1)), (3, .int x8), (4, .int x10)]) rfl ?_
        refine g_goto (pc := 82) (tgt := 58) dX12_manned_82 rfl ?_
        refine g_lv [1, 2, 3, 0] rfl ?_
        exact hr58 x23 h14
      · refine g_lv [0] rfl ?_
        exact hk85 h13
    · refine g_iconst (pc := 25) dX12_manned_25 ci_0 ?_
      exact g_ret (pc := 26) rfl (isRet_i _) dX12_manned_26 rfl
  refine g_ifeq (pc := 7) (tgt := 14) dX12_manned_7 rfl ?_ ?_
  · refine g_iconst (pc := 14) dX12_manned_14 ci_1 ?_
    exact hk15 (1 : Int32) h1
  · refine g_iconst (pc := 10) dX12_manned_10 ci_0 ?_
    refine g_goto (pc := 11) (tgt := 15) dX12_manned_11 rfl ?_
    exact hk15 (0 : Int32) h1
theorem p_X12_manned {l : Launch} {E : aE} (hl : l.stackTraces = false) (x1 : Nat) (x2 : Int32) (x3 : Int32) (h0 : aH) : MO (fun (v : Int32) => .inl (some (.int v))) l E yX12_manned (.code yX12_manned cX12_manned 7 (some .int)) 6 135 [.ref (e_z E + x1), .int x2, .int x3] h0 (m_X12_manned x1 x2 x3 h0) := g_met hl (by decide +kernel) (Nat.le_of_ble_eq_true rfl) (b_X12_manned hl _ _ x1 x2 x3 h0)
theorem dX12_wouldAnswer_0 : decode cX12_wouldAnswer 0 = .ok (.aload_n 0, 1) := by decide +kernel
theorem dX12_wouldAnswer_1 : decode cX12_wouldAnswer 1 = .ok (.aload_n 0, 1) := by decide +kernel
theorem dX12_wouldAnswer_2 : decode cX12_wouldAnswer 2 = .ok (.iload_n 1, 1) := by decide +kernel
theorem dX12_wouldAnswer_3 : decode cX12_wouldAnswer 3 = .ok (.invokevirtual 443, 3) := by decide +kernel
theorem dX12_wouldAnswer_6 : decode cX12_wouldAnswer 6 = .ok (.ifCond .eq 7, 3) := by decide +kernel
theorem dX12_wouldAnswer_9 : decode cX12_wouldAnswer 9 = .ok (.iconst 0, 1) := by decide +kernel
theorem dX12_wouldAnswer_10 : decode cX12_wouldAnswer 10 = .ok (.goto 4, 3) := by decide +kernel
theorem dX12_wouldAnswer_13 : decode cX12_wouldAnswer 13 = .ok (.iconst 1, 1) := by decide +kernel
theorem dX12_wouldAnswer_14 : decode cX12_wouldAnswer 14 = .ok (.putfield 166, 3) := by decide +kernel
theorem dX12_wouldAnswer_17 : decode cX12_wouldAnswer 17 = .ok (.aload_n 0, 1) := by decide +kernel
theorem dX12_wouldAnswer_18 : decode cX12_wouldAnswer 18 = .ok (.getfield 166, 3) := by decide +kernel
theorem dX12_wouldAnswer_21 : decode cX12_wouldAnswer 21 = .ok (.ifCond .ne 15, 3) := by decide +kernel
theorem dX12_wouldAnswer_24 : decode cX12_wouldAnswer 24 = .ok (.aload_n 0, 1) := by decide +kernel
theorem dX12_wouldAnswer_25 : decode cX12_wouldAnswer 25 = .ok (.iload_n 1, 1) := by decide +kernel
theorem dX12_wouldAnswer_26 : decode cX12_wouldAnswer 26 = .ok (.invokevirtual 458, 3) := by decide +kernel
theorem dX12_wouldAnswer_29 : decode cX12_wouldAnswer 29 = .ok (.ifCond .eq 7, 3) := by decide +kernel
theorem dX12_wouldAnswer_32 : decode cX12_wouldAnswer 32 = .ok (.iconst 1, 1) := by decide +kernel
theorem dX12_wouldAnswer_33 : decode cX12_wouldAnswer 33 = .ok (.goto 4, 3) := by decide +kernel
theorem dX12_wouldAnswer_36 : decode cX12_wouldAnswer 36 = .ok (.iconst 0, 1) := by decide +kernel
theorem dX12_wouldAnswer_37 : decode cX12_wouldAnswer 37 = .ok (.ireturn, 1) := by decide +kernel
abbrev M_X12_wouldAnswer : aM := (yX12_wouldAnswer.cls, cX12_wouldAnswer, 2, (some .boolean), [], yX12_wouldAnswer.name == "<init>")
abbrev J_X12_wouldAnswer (l : Launch) (E : aE) (n0 m0 : Nat) := GG (fun (v : Int32) => .inl (some (.int v))) l E M_X12_wouldAnswer 7 156 n0 m0
theorem b_X12_wouldAnswer {l : Launch} {E : aE} (hl : l.stackTraces = false) (n0 m0 : Nat) (x1 : Nat) (x2 : Int32) (h0 : aH) : J_X12_wouldAnswer l E n0 m0 0 [(0, .ref (e_z E + x1)), (1, .int x2)] [] h0 (m_X12_wouldAnswer x1 x2 h0) := by
  unfold m_X12_wouldAnswer
  refine g_aload_n (pc := 0) dX12_wouldAnswer_0 0 rfl ?_
  refine g_aload_n (pc := 1) dX12_wouldAnswer_1 0 rfl ?_
  refine g_iload_n (pc := 2) dX12_wouldAnswer_2 1 rfl ?_
  refine g_gS (fun hs => ?_)
  refine g_bRi (pc := 3) (c_V cl12 hs (p_X12_isKind hl x1 x2 h0) y_X12_isKind tw2069 dX12_wouldAnswer_3 rfl (st := [.ref (e_z E + x1)]) rfl (Nat.le_of_ble_eq_true rfl) (Nat.le_of_ble_eq_true rfl) (Nat.le_of_ble_eq_true rfl)) (fun x3 h1 => ?_)
  refine g_join (fun k => ∀ (x4 : Int32) (h2 : aH), J_X12_wouldAnswer l E n0 m0 14 [(0, .ref (e_z E + x1)), (1, .int x2)] [.int x4, .ref (e_z E + x1)] h2 (k x4 h2)) (fun x4 h2 => ?_) (fun k14 hk14 => ?_)
  · refine g_puti (pc := 14) cl12 (Nat.le_of_ble_eq_true rfl) (Or.inl ⟨rfl, fk1551⟩) (fun _ _ _ => rfl) (fun _ => ⟨rfl, rfl⟩) dX12_wouldAnswer_14 (fun h3 => ?_)
    refine g_aload_n (pc := 17) dX12_wouldAnswer_17 0 rfl ?_
    refine g_geti (pc := 18) cl12 (Nat.le_of_ble_eq_true rfl) fk1551 (fun _ _ _ => rfl) dX12_wouldAnswer_18 (fun x5 => ?_)
    refine g_join (fun k => ∀ (x6 : Int32) (h4 : aH), J_X12_wouldAnswer l E n0 m0 37 [] [.int x6] h4 (k x6 h4)) (fun x6 h4 => ?_) (fun k37 hk37 => ?_)
    · refine g_zO (fun hz => ?_)
      exact g_ret (pc := 37) rfl (isRet_z hz) dX12_wouldAnswer_37 rfl
    refine g_join (fun k => ∀ (h5 : aH), J_X12_wouldAnswer l E n0 m0 36 [] [] h5 (k h5)) (fun h5 => ?_) (fun k36 hk36 => ?_)
    · refine g_iconst (pc := 36) dX12_wouldAnswer_36 ci_0 ?_
      exact hk37 (0 : Int32) h5
    refine g_ifne (pc := 21) (tgt := 36) dX12_wouldAnswer_21 rfl ?_ ?_
    · refine g_aload_n (pc := 24) dX12_wouldAnswer_24 0 rfl ?_
      refine g_iload_n (pc := 25) dX12_wouldAnswer_25 1 rfl ?_
      refine g_gS (fun hs => ?_)
      refine g_bRi (pc := 26) (c_V cl12 hs (p_X12_answers hl x1 x2 h3) y_X12_answers tw2136 dX12_wouldAnswer_26 rfl (st := []) rfl (Nat.le_of_ble_eq_true rfl) (Nat.le_of_ble_eq_true rfl) (Nat.le_of_ble_eq_true rfl)) (fun x8 h6 => ?_)
      refine g_ifeq (pc := 29) (tgt := 36) dX12_wouldAnswer_29 rfl ?_ ?_
      · refine g_lv [] rfl ?_
        exact hk36 h6
      · refine g_iconst (pc := 32) dX12_wouldAnswer_32 ci_1 ?_
        refine g_goto (pc := 33) (tgt := 37) dX12_wouldAnswer_33 rfl ?_
        refine g_lv [] rfl ?_
        exact hk37 (1 : Int32) h6
    · refine g_lv [] rfl ?_
      exact hk36 h3
  refine g_ifeq (pc := 6) (tgt := 13) dX12_wouldAnswer_6 rfl ?_ ?_
  · refine g_iconst (pc := 13) dX12_wouldAnswer_13 ci_1 ?_
    exact hk14 (1 : Int32) h1
  · refine g_iconst (pc := 9) dX12_wouldAnswer_9 ci_0 ?_
    refine g_goto (pc := 10) (tgt := 14) dX12_wouldAnswer_10 rfl ?_
    exact hk14 (0 : Int32) h1
theorem p_X12_wouldAnswer {l : Launch} {E : aE} (hl : l.stackTraces = false) (x1 : Nat) (x2 : Int32) (h0 : aH) : MO (fun (v : Int32) => .inl (some (.int v))) l E yX12_wouldAnswer (.code yX12_wouldAnswer cX12_wouldAnswer 2 (some .boolean)) 7 156 [.ref (e_z E + x1), .int x2] h0 (m_X12_wouldAnswer x1 x2 h0) := g_met hl (by decide +kernel) (Nat.le_of_ble_eq_true rfl) (b_X12_wouldAnswer hl _ _ x1 x2 h0)
