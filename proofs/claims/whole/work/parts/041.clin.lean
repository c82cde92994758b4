/-! the fields' words stand in the tables: one comparison each -/
theorem tp1 {i : Nat} {w : Cond} (h : tables_1_1[i]? = some w) : w ∈ lw_tbl := List.mem_append_right _ (show w ∈ tables_1_1 ++ (tables_1_2 ++ (tables_1_3 ++ (tables_1_4 ++ (tables_1_5 ++ (tables_1_6 ++ (tables_1_7 ++ (tables_1_8 ++ (tables_1_9 ++ tables_1_10)))))))) from (List.mem_append_left _ (List.mem_of_getElem? h)))
theorem tp2 {i : Nat} {w : Cond} (h : tables_1_2[i]? = some w) : w ∈ lw_tbl := List.mem_append_right _ (show w ∈ tables_1_1 ++ (tables_1_2 ++ (tables_1_3 ++ (tables_1_4 ++ (tables_1_5 ++ (tables_1_6 ++ (tables_1_7 ++ (tables_1_8 ++ (tables_1_9 ++ tables_1_10)))))))) from (List.mem_append_right _ (List.mem_append_left _ (List.mem_of_getElem? h))))
theorem tp3 {i : Nat} {w : Cond} (h : tables_1_3[i]? = some w) : w ∈ lw_tbl := List.mem_append_right _ (show w ∈ tables_1_1 ++ (tables_1_2 ++ (tables_1_3 ++ (tables_1_4 ++ (tables_1_5 ++ (tables_1_6 ++ (tables_1_7 ++ (tables_1_8 ++ (tables_1_9 ++ tables_1_10)))))))) from (List.mem_append_right _ (List.mem_append_right _ (List.mem_append_left _ (List.mem_of_getElem? h)))))
theorem tp4 {i : Nat} {w : Cond} (h : tables_1_4[i]? = some w) : w ∈ lw_tbl := List.mem_append_right _ (show w ∈ tables_1_1 ++ (tables_1_2 ++ (tables_1_3 ++ (tables_1_4 ++ (tables_1_5 ++ (tables_1_6 ++ (tables_1_7 ++ (tables_1_8 ++ (tables_1_9 ++ tables_1_10)))))))) from (List.mem_append_right _ (List.mem_append_right _ (List.mem_append_right _ (List.mem_append_left _ (List.mem_of_getElem? h))))))
theorem tp5 {i : Nat} {w : Cond} (h : tables_1_5[i]? = some w) : w ∈ lw_tbl := List.mem_append_right _ (show w ∈ tables_1_1 ++ (tables_1_2 ++ (tables_1_3 ++ (tables_1_4 ++ (tables_1_5 ++ (tables_1_6 ++ (tables_1_7 ++ (tables_1_8 ++ (tables_1_9 ++ tables_1_10)))))))) from (List.mem_append_right _ (List.mem_append_right _ (List.mem_append_right _ (List.mem_append_right _ (List.mem_append_left _ (List.mem_of_getElem? h)))))))
theorem tp6 {i : Nat} {w : Cond} (h : tables_1_6[i]? = some w) : w ∈ lw_tbl := List.mem_append_right _ (show w ∈ tables_1_1 ++ (tables_1_2 ++ (tables_1_3 ++ (tables_1_4 ++ (tables_1_5 ++ (tables_1_6 ++ (tables_1_7 ++ (tables_1_8 ++ (tables_1_9 ++ tables_1_10)))))))) from (List.mem_append_right _ (List.mem_append_right _ (List.mem_append_right _ (List.mem_append_right _ (List.mem_append_right _ (List.mem_append_left _ (List.mem_of_getElem? h))))))))
theorem tp7 {i : Nat} {w : Cond} (h : tables_1_7[i]? = some w) : w ∈ lw_tbl := List.mem_append_right _ (show w ∈ tables_1_1 ++ (tables_1_2 ++ (tables_1_3 ++ (tables_1_4 ++ (tables_1_5 ++ (tables_1_6 ++ (tables_1_7 ++ (tables_1_8 ++ (tables_1_9 ++ tables_1_10)))))))) from (List.mem_append_right _ (List.mem_append_right _ (List.mem_append_right _ (List.mem_append_right _ (List.mem_append_right _ (List.mem_append_right _ (List.mem_append_left _ (List.mem_of_getElem? h)))))))))
theorem tp8 {i : Nat} {w : Cond} (h : tables_1_8[i]? = some w) : w ∈ lw_tbl := List.mem_append_right _ (show w ∈ tables_1_1 ++ (tables_1_2 ++ (tables_1_3 ++ (tables_1_4 ++ (tables_1_5 ++ (tables_1_6 ++ (tables_1_7 ++ (tables_1_8 ++ (tables_1_9 ++ tables_1_10)))))))) from (List.mem_append_right _ (List.mem_append_right _ (List.mem_append_right _ (List.mem_append_right _ (List.mem_append_right _ (List.mem_append_right _ (List.mem_append_right _ (List.mem_append_left _ (List.mem_of_getElem? h))))))))))
theorem tp9 {i : Nat} {w : Cond} (h : tables_1_9[i]? = some w) : w ∈ lw_tbl := List.mem_append_right _ (show w ∈ tables_1_1 ++ (tables_1_2 ++ (tables_1_3 ++ (tables_1_4 ++ (tables_1_5 ++ (tables_1_6 ++ (tables_1_7 ++ (tables_1_8 ++ (tables_1_9 ++ tables_1_10)))))))) from (List.mem_append_right _ (List.mem_append_right _ (List.mem_append_right _ (List.mem_append_right _ (List.mem_append_right _ (List.mem_append_right _ (List.mem_append_right _ (List.mem_append_right _ (List.mem_append_left _ (List.mem_of_getElem? h)))))))))))
theorem tp10 {i : Nat} {w : Cond} (h : tables_1_10[i]? = some w) : w ∈ lw_tbl := List.mem_append_right _ (show w ∈ tables_1_1 ++ (tables_1_2 ++ (tables_1_3 ++ (tables_1_4 ++ (tables_1_5 ++ (tables_1_6 ++ (tables_1_7 ++ (tables_1_8 ++ (tables_1_9 ++ tables_1_10)))))))) from (List.mem_append_right _ (List.mem_append_right _ (List.mem_append_right _ (List.mem_append_right _ (List.mem_append_right _ (List.mem_append_right _ (List.mem_append_right _ (List.mem_append_right _ (List.mem_append_right _ (List.mem_of_getElem? h)))))))))))
theorem cin_0 : ∀ k, k < 8 → u_lay RX0 TX0 k ∈ lw_tbl ∧ tb_ok (u_lay RX0 TX0 k) = true := fun k hk => match k, hk with
  | 0, _ => ⟨tp2 (i := 90) (by decide +kernel), by decide +kernel⟩
  | 1, _ => ⟨tp2 (i := 92) (by decide +kernel), by decide +kernel⟩
  | 2, _ => ⟨tp2 (i := 94) (by decide +kernel), by decide +kernel⟩
  | 3, _ => ⟨tp2 (i := 96) (by decide +kernel), by decide +kernel⟩
  | 4, _ => ⟨tp2 (i := 98) (by decide +kernel), by decide +kernel⟩
  | 5, _ => ⟨tp2 (i := 100) (by decide +kernel), by decide +kernel⟩
  | 6, _ => ⟨tp2 (i := 102) (by decide +kernel), by decide +kernel⟩
  | 7, _ => ⟨tp2 (i := 104) (by decide +kernel), by decide +kernel⟩
  | n + 8, h => absurd (show n + 8 < 8 from h) (by omega)
theorem cin_1 : ∀ k, k < 5 → u_lay RX1 TX1 k ∈ lw_tbl ∧ tb_ok (u_lay RX1 TX1 k) = true := fun k hk => match k, hk with
  | 0, _ => ⟨tp1 (i := 181) (by decide +kernel), by decide +kernel⟩
  | 1, _ => ⟨tp1 (i := 183) (by decide +kernel), by decide +kernel⟩
  | 2, _ => ⟨tp1 (i := 185) (by decide +kernel), by decide +kernel⟩
  | 3, _ => ⟨tp1 (i := 187) (by decide +kernel), by decide +kernel⟩
  | 4, _ => ⟨tp1 (i := 189) (by decide +kernel), by decide +kernel⟩
  | n + 5, h => absurd (show n + 5 < 5 from h) (by omega)
theorem cin_2 : ∀ k, k < 4 → u_lay RX2 TX2 k ∈ lw_tbl ∧ tb_ok (u_lay RX2 TX2 k) = true := fun k hk => match k, hk with
  | 0, _ => ⟨tp2 (i := 236) (by decide +kernel), by decide +kernel⟩
  | 1, _ => ⟨tp2 (i := 238) (by decide +kernel), by decide +kernel⟩
  | 2, _ => ⟨tp3 (i := 0) (by decide +kernel), by decide +kernel⟩
  | 3, _ => ⟨tp3 (i := 2) (by decide +kernel), by decide +kernel⟩
  | n + 4, h => absurd (show n + 4 < 4 from h) (by omega)
theorem cin_3 : ∀ k, k < 8 → u_lay RX3 TX3 k ∈ lw_tbl ∧ tb_ok (u_lay RX3 TX3 k) = true := fun k hk => match k, hk with
  | 0, _ => ⟨tp1 (i := 217) (by decide +kernel), by decide +kernel⟩
  | 1, _ => ⟨tp1 (i := 219) (by decide +kernel), by decide +kernel⟩
  | 2, _ => ⟨tp1 (i := 221) (by decide +kernel), by decide +kernel⟩
  | 3, _ => ⟨tp1 (i := 223) (by decide +kernel), by decide +kernel⟩
  | 4, _ => ⟨tp1 (i := 225) (by decide +kernel), by decide +kernel⟩
  | 5, _ => ⟨tp1 (i := 227) (by decide +kernel), by decide +kernel⟩
  | 6, _ => ⟨tp1 (i := 229) (by decide +kernel), by decide +kernel⟩
  | 7, _ => ⟨tp1 (i := 231) (by decide +kernel), by decide +kernel⟩
  | n + 8, h => absurd (show n + 8 < 8 from h) (by omega)
theorem cin_4 : ∀ k, k < 11 → u_lay RX4 TX4 k ∈ lw_tbl ∧ tb_ok (u_lay RX4 TX4 k) = true := fun k hk => match k, hk with
  | 0, _ => ⟨tp2 (i := 197) (by decide +kernel), by decide +kernel⟩
  | 1, _ => ⟨tp2 (i := 199) (by decide +kernel), by decide +kernel⟩
  | 2, _ => ⟨tp2 (i := 201) (by decide +kernel), by decide +kernel⟩
  | 3, _ => ⟨tp2 (i := 203) (by decide +kernel), by decide +kernel⟩
  | 4, _ => ⟨tp2 (i := 205) (by decide +kernel), by decide +kernel⟩
  | 5, _ => ⟨tp2 (i := 207) (by decide +kernel), by decide +kernel⟩
  | 6, _ => ⟨tp2 (i := 209) (by decide +kernel), by decide +kernel⟩
  | 7, _ => ⟨tp2 (i := 211) (by decide +kernel), by decide +kernel⟩
  | 8, _ => ⟨tp2 (i := 213) (by decide +kernel), by decide +kernel⟩
  | 9, _ => ⟨tp2 (i := 215) (by decide +kernel), by decide +kernel⟩
  | 10, _ => ⟨tp2 (i := 217) (by decide +kernel), by decide +kernel⟩
  | n + 11, h => absurd (show n + 11 < 11 from h) (by omega)
theorem cin_5 : ∀ k, k < 4 → u_lay RX5 TX5 k ∈ lw_tbl ∧ tb_ok (u_lay RX5 TX5 k) = true := fun k hk => match k, hk with
  | 0, _ => ⟨tp1 (i := 98) (by decide +kernel), by decide +kernel⟩
  | 1, _ => ⟨tp1 (i := 100) (by decide +kernel), by decide +kernel⟩
  | 2, _ => ⟨tp1 (i := 102) (by decide +kernel), by decide +kernel⟩
  | 3, _ => ⟨tp1 (i := 104) (by decide +kernel), by decide +kernel⟩
  | n + 4, h => absurd (show n + 4 < 4 from h) (by omega)
theorem cin_6 : ∀ k, k < 5 → u_lay RX6 TX6 k ∈ lw_tbl ∧ tb_ok (u_lay RX6 TX6 k) = true := fun k hk => match k, hk with
  | 0, _ => ⟨tp1 (i := 152) (by decide +kernel), by decide +kernel⟩
  | 1, _ => ⟨tp1 (i := 154) (by decide +kernel), by decide +kernel⟩
  | 2, _ => ⟨tp1 (i := 156) (by decide +kernel), by decide +kernel⟩
  | 3, _ => ⟨tp1 (i := 158) (by decide +kernel), by decide +kernel⟩
  | 4, _ => ⟨tp1 (i := 160) (by decide +kernel), by decide +kernel⟩
  | n + 5, h => absurd (show n + 5 < 5 from h) (by omega)
theorem cin_7 : ∀ k, k < 3 → u_lay RX7 TX7 k ∈ lw_tbl ∧ tb_ok (u_lay RX7 TX7 k) = true := fun k hk => match k, hk with
  | 0, _ => ⟨tp1 (i := 127) (by decide +kernel), by decide +kernel⟩
  | 1, _ => ⟨tp1 (i := 129) (by decide +kernel), by decide +kernel⟩
  | 2, _ => ⟨tp1 (i := 131) (by decide +kernel), by decide +kernel⟩
  | n + 3, h => absurd (show n + 3 < 3 from h) (by omega)
theorem cin_8 : ∀ k, k < 12 → u_lay RX8 TX8 k ∈ lw_tbl ∧ tb_ok (u_lay RX8 TX8 k) = true := fun k hk => match k, hk with
  | 0, _ => ⟨tp2 (i := 36) (by decide +kernel), by decide +kernel⟩
  | 1, _ => ⟨tp2 (i := 38) (by decide +kernel), by decide +kernel⟩
  | 2, _ => ⟨tp2 (i := 40) (by decide +kernel), by decide +kernel⟩
  | 3, _ => ⟨tp2 (i := 42) (by decide +kernel), by decide +kernel⟩
  | 4, _ => ⟨tp2 (i := 44) (by decide +kernel), by decide +kernel⟩
  | 5, _ => ⟨tp2 (i := 46) (by decide +kernel), by decide +kernel⟩
  | 6, _ => ⟨tp2 (i := 48) (by decide +kernel), by decide +kernel⟩
  | 7, _ => ⟨tp2 (i := 50) (by decide +kernel), by decide +kernel⟩
  | 8, _ => ⟨tp2 (i := 52) (by decide +kernel), by decide +kernel⟩
  | 9, _ => ⟨tp2 (i := 54) (by decide +kernel), by decide +kernel⟩
  | 10, _ => ⟨tp2 (i := 56) (by decide +kernel), by decide +kernel⟩
  | 11, _ => ⟨tp2 (i := 58) (by decide +kernel), by decide +kernel⟩
  | n + 12, h => absurd (show n + 12 < 12 from h) (by omega)
theorem cin_9 : ∀ k, k < 11 → u_lay RX9 TX9 k ∈ lw_tbl ∧ tb_ok (u_lay RX9 TX9 k) = true := fun k hk => match k, hk with
  | 0, _ => ⟨tp1 (i := 56) (by decide +kernel), by decide +kernel⟩
  | 1, _ => ⟨tp1 (i := 58) (by decide +kernel), by decide +kernel⟩
  | 2, _ => ⟨tp1 (i := 60) (by decide +kernel), by decide +kernel⟩
  | 3, _ => ⟨tp1 (i := 62) (by decide +kernel), by decide +kernel⟩
  | 4, _ => ⟨tp1 (i := 64) (by decide +kernel), by decide +kernel⟩
  | 5, _ => ⟨tp1 (i := 66) (by decide +kernel), by decide +kernel⟩
  | 6, _ => ⟨tp1 (i := 68) (by decide +kernel), by decide +kernel⟩
  | 7, _ => ⟨tp1 (i := 70) (by decide +kernel), by decide +kernel⟩
  | 8, _ => ⟨tp1 (i := 72) (by decide +kernel), by decide +kernel⟩
  | 9, _ => ⟨tp1 (i := 74) (by decide +kernel), by decide +kernel⟩
  | 10, _ => ⟨tp1 (i := 76) (by decide +kernel), by decide +kernel⟩
  | n + 11, h => absurd (show n + 11 < 11 from h) (by omega)
theorem cin_10 : ∀ k, k < 16 → u_lay RX10 TX10 k ∈ lw_tbl ∧ tb_ok (u_lay RX10 TX10 k) = true := fun k hk => match k, hk with
  | 0, _ => ⟨tp2 (i := 142) (by decide +kernel), by decide +kernel⟩
  | 1, _ => ⟨tp2 (i := 144) (by decide +kernel), by decide +kernel⟩
  | 2, _ => ⟨tp2 (i := 146) (by decide +kernel), by decide +kernel⟩
  | 3, _ => ⟨tp2 (i := 148) (by decide +kernel), by decide +kernel⟩
  | 4, _ => ⟨tp2 (i := 150) (by decide +kernel), by decide +kernel⟩
  | 5, _ => ⟨tp2 (i := 152) (by decide +kernel), by decide +kernel⟩
  | 6, _ => ⟨tp2 (i := 154) (by decide +kernel), by decide +kernel⟩
  | 7, _ => ⟨tp2 (i := 156) (by decide +kernel), by decide +kernel⟩
  | 8, _ => ⟨tp2 (i := 158) (by decide +kernel), by decide +kernel⟩
  | 9, _ => ⟨tp2 (i := 160) (by decide +kernel), by decide +kernel⟩
  | 10, _ => ⟨tp2 (i := 162) (by decide +kernel), by decide +kernel⟩
  | 11, _ => ⟨tp2 (i := 164) (by decide +kernel), by decide +kernel⟩
  | 12, _ => ⟨tp2 (i := 166) (by decide +kernel), by decide +kernel⟩
  | 13, _ => ⟨tp2 (i := 168) (by decide +kernel), by decide +kernel⟩
  | 14, _ => ⟨tp2 (i := 170) (by decide +kernel), by decide +kernel⟩
  | 15, _ => ⟨tp2 (i := 172) (by decide +kernel), by decide +kernel⟩
  | n + 16, h => absurd (show n + 16 < 16 from h) (by omega)
theorem cin_11 : ∀ k, k < 9 → u_lay RX11 TX11 k ∈ lw_tbl ∧ tb_ok (u_lay RX11 TX11 k) = true := fun k hk => match k, hk with
  | 0, _ => ⟨tp3 (i := 19) (by decide +kernel), by decide +kernel⟩
  | 1, _ => ⟨tp3 (i := 21) (by decide +kernel), by decide +kernel⟩
  | 2, _ => ⟨tp3 (i := 23) (by decide +kernel), by decide +kernel⟩
  | 3, _ => ⟨tp3 (i := 25) (by decide +kernel), by decide +kernel⟩
  | 4, _ => ⟨tp3 (i := 27) (by decide +kernel), by decide +kernel⟩
  | 5, _ => ⟨tp3 (i := 29) (by decide +kernel), by decide +kernel⟩
  | 6, _ => ⟨tp3 (i := 31) (by decide +kernel), by decide +kernel⟩
  | 7, _ => ⟨tp3 (i := 33) (by decide +kernel), by decide +kernel⟩
  | 8, _ => ⟨tp3 (i := 35) (by decide +kernel), by decide +kernel⟩
  | n + 9, h => absurd (show n + 9 < 9 from h) (by omega)
theorem cin_12 : ∀ k, k < 71 → u_lay RX12 TX12 k ∈ lw_tbl ∧ tb_ok (u_lay RX12 TX12 k) = true := fun k hk => match k, hk with
  | 0, _ => ⟨tp7 (i := 182) (by decide +kernel), by decide +kernel⟩
  | 1, _ => ⟨tp7 (i := 184) (by decide +kernel), by decide +kernel⟩
  | 2, _ => ⟨tp7 (i := 186) (by decide +kernel), by decide +kernel⟩
  | 3, _ => ⟨tp7 (i := 188) (by decide +kernel), by decide +kernel⟩
  | 4, _ => ⟨tp7 (i := 190) (by decide +kernel), by decide +kernel⟩
  | 5, _ => ⟨tp7 (i := 192) (by decide +kernel), by decide +kernel⟩
  | 6, _ => ⟨tp7 (i := 194) (by decide +kernel), by decide +kernel⟩
  | 7, _ => ⟨tp7 (i := 196) (by decide +kernel), by decide +kernel⟩
  | 8, _ => ⟨tp7 (i := 198) (by decide +kernel), by decide +kernel⟩
  | 9, _ => ⟨tp7 (i := 200) (by decide +kernel), by decide +kernel⟩
  | 10, _ => ⟨tp7 (i := 202) (by decide +kernel), by decide +kernel⟩
  | 11, _ => ⟨tp7 (i := 204) (by decide +kernel), by decide +kernel⟩
  | 12, _ => ⟨tp7 (i := 206) (by decide +kernel), by decide +kernel⟩
  | 13, _ => ⟨tp7 (i := 208) (by decide +kernel), by decide +kernel⟩
  | 14, _ => ⟨tp7 (i := 210) (by decide +kernel), by decide +kernel⟩
  | 15, _ => ⟨tp7 (i := 212) (by decide +kernel), by decide +kernel⟩
  | 16, _ => ⟨tp7 (i := 214) (by decide +kernel), by decide +kernel⟩
  | 17, _ => ⟨tp7 (i := 216) (by decide +kernel), by decide +kernel⟩
  | 18, _ => ⟨tp7 (i := 218) (by decide +kernel), by decide +kernel⟩
  | 19, _ => ⟨tp7 (i := 220) (by decide +kernel), by decide +kernel⟩
  | 20, _ => ⟨tp7 (i := 222) (by decide +kernel), by decide +kernel⟩
  | 21, _ => ⟨tp7 (i := 224) (by decide +kernel), by decide +kernel⟩
  | 22, _ => ⟨tp7 (i := 226) (by decide +kernel), by decide +kernel⟩
  | 23, _ => ⟨tp7 (i := 228) (by decide +kernel), by decide +kernel⟩
  | 24, _ => ⟨tp7 (i := 230) (by decide +kernel), by decide +kernel⟩
  | 25, _ => ⟨tp7 (i := 232) (by decide +kernel), by decide +kernel⟩
  | 26, _ => ⟨tp7 (i := 234) (by decide +kernel), by decide +kernel⟩
  | 27, _ => ⟨tp7 (i := 236) (by decide +kernel), by decide +kernel⟩
  | 28, _ => ⟨tp7 (i := 238) (by decide +kernel), by decide +kernel⟩
  | 29, _ => ⟨tp8 (i := 0) (by decide +kernel), by decide +kernel⟩
  | 30, _ => ⟨tp8 (i := 2) (by decide +kernel), by decide +kernel⟩
  | 31, _ => ⟨tp8 (i := 4) (by decide +kernel), by decide +kernel⟩
  | 32, _ => ⟨tp8 (i := 6) (by decide +kernel), by decide +kernel⟩
  | 33, _ => ⟨tp8 (i := 8) (by decide +kernel), by decide +kernel⟩
  | 34, _ => ⟨tp8 (i := 10) (by decide +kernel), by decide +kernel⟩
  | 35, _ => ⟨tp8 (i := 12) (by decide +kernel), by decide +kernel⟩
  | 36, _ => ⟨tp8 (i := 14) (by decide +kernel), by decide +kernel⟩
  | 37, _ => ⟨tp8 (i := 16) (by decide +kernel), by decide +kernel⟩
  | 38, _ => ⟨tp8 (i := 18) (by decide +kernel), by decide +kernel⟩
  | 39, _ => ⟨tp8 (i := 20) (by decide +kernel), by decide +kernel⟩
  | 40, _ => ⟨tp8 (i := 22) (by decide +kernel), by decide +kernel⟩
  | 41, _ => ⟨tp8 (i := 24) (by decide +kernel), by decide +kernel⟩
  | 42, _ => ⟨tp8 (i := 26) (by decide +kernel), by decide +kernel⟩
  | 43, _ => ⟨tp8 (i := 28) (by decide +kernel), by decide +kernel⟩
  | 44, _ => ⟨tp8 (i := 30) (by decide +kernel), by decide +kernel⟩
  | 45, _ => ⟨tp8 (i := 32) (by decide +kernel), by decide +kernel⟩
  | 46, _ => ⟨tp8 (i := 34) (by decide +kernel), by decide +kernel⟩
  | 47, _ => ⟨tp8 (i := 36) (by decide +kernel), by decide +kernel⟩
  | 48, _ => ⟨tp8 (i := 38) (by decide +kernel), by decide +kernel⟩
  | 49, _ => ⟨tp8 (i := 40) (by decide +kernel), by decide +kernel⟩
  | 50, _ => ⟨tp8 (i := 42) (by decide +kernel), by decide +kernel⟩
  | 51, _ => ⟨tp8 (i := 44) (by decide +kernel), by decide +kernel⟩
  | 52, _ => ⟨tp8 (i := 46) (by decide +kernel), by decide +kernel⟩
  | 53, _ => ⟨tp8 (i := 48) (by decide +kernel), by decide +kernel⟩
  | 54, _ => ⟨tp8 (i := 50) (by decide +kernel), by decide +kernel⟩
  | 55, _ => ⟨tp8 (i := 52) (by decide +kernel), by decide +kernel⟩
  | 56, _ => ⟨tp8 (i := 54) (by decide +kernel), by decide +kernel⟩
  | 57, _ => ⟨tp8 (i := 56) (by decide +kernel), by decide +kernel⟩
  | 58, _ => ⟨tp8 (i := 58) (by decide +kernel), by decide +kernel⟩
  | 59, _ => ⟨tp8 (i := 60) (by decide +kernel), by decide +kernel⟩
  | 60, _ => ⟨tp8 (i := 62) (by decide +kernel), by decide +kernel⟩
  | 61, _ => ⟨tp8 (i := 64) (by decide +kernel), by decide +kernel⟩
  | 62, _ => ⟨tp8 (i := 66) (by decide +kernel), by decide +kernel⟩
  | 63, _ => ⟨tp8 (i := 68) (by decide +kernel), by decide +kernel⟩
  | 64, _ => ⟨tp8 (i := 70) (by decide +kernel), by decide +kernel⟩
  | 65, _ => ⟨tp8 (i := 72) (by decide +kernel), by decide +kernel⟩
  | 66, _ => ⟨tp8 (i := 74) (by decide +kernel), by decide +kernel⟩
  | 67, _ => ⟨tp8 (i := 76) (by decide +kernel), by decide +kernel⟩
  | 68, _ => ⟨tp8 (i := 78) (by decide +kernel), by decide +kernel⟩
  | 69, _ => ⟨tp8 (i := 80) (by decide +kernel), by decide +kernel⟩
  | 70, _ => ⟨tp8 (i := 82) (by decide +kernel), by decide +kernel⟩
  | n + 71, h => absurd (show n + 71 < 71 from h) (by omega)
theorem CL_in : ∀ (c : Nat) (r : vw_C), CL[c]? = some r → ∀ w ∈ u_ws r.1 r.2.1 r.2.2, w ∈ lw_tbl ∧ tb_ok w = true := by
  intro c r hc w hw
  obtain ⟨k, hk, rfl⟩ := List.mem_map.mp hw
  replace hk := List.mem_range.mp hk
  match c, hc with
  | 0, hc => cases hc; exact cin_0 k hk
  | 1, hc => cases hc; exact cin_1 k hk
  | 2, hc => cases hc; exact cin_2 k hk
  | 3, hc => cases hc; exact cin_3 k hk
  | 4, hc => cases hc; exact cin_4 k hk
  | 5, hc => cases hc; exact cin_5 k hk
  | 6, hc => cases hc; exact cin_6 k hk
  | 7, hc => cases hc; exact cin_7 k hk
  | 8, hc => cases hc; exact cin_8 k hk
  | 9, hc => cases hc; exact cin_9 k hk
  | 10, hc => cases hc; exact cin_10 k hk
  | 11, hc => cases hc; exact cin_11 k hk
  | 12, hc => cases hc; exact cin_12 k hk
  | n + 13, hc => exact absurd (show (CL[n + 13]? : Option vw_C) = some r from hc) (by simp [CL])
