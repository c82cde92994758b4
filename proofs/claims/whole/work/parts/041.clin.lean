/-! the fields' words stand in the tables: one comparison each -/
theorem tp1 {i : Nat} {w : Cond} (h : tables_1_1[i]? = some w) : w ∈ lw_tbl := List.mem_append_right _ (show w ∈ tables_1_1 ++ (tables_1_2 ++ (tables_1_3 ++ (tables_1_4 ++ (tables_1_5 ++ (tables_1_6 ++ (tables_1_7 ++ (tables_1_8 ++ (tables_1_9 ++ tables_1_10)))))))) from (List.mem_append_left _ (List.mem_of_getElem? h)))
theorem tp2 {i : Nat} {w : Cond} (h : tables_1_2[i]? = some w) : w ∈ lw_tbl := List.mem_append_right _ (show w ∈ tables_1_1 ++ (tables_1_2 ++ (tables_1_3 ++ (tables_1_4 ++ (tables_1_5 ++ (tables_1_6 ++ (tables_1_7 ++ (tables_1_8 ++ (tables_1_9 ++ tables_1_10)))))))) from (List.mem_append_right _ (List.mem_append_left _ (List.mem_of_getElem? h))))
theorem tp3 {i : Nat} {w : Cond} (h : tables_1_3[i]? = some w) : w ∈ lw_tbl := List.mem_append_right _ (show w ∈ tables_1_1 ++ (tables_1_2 ++ (tables_1_3 ++ (tables_1_4 ++ (tables_1_5 ++ (tables_1_6 ++ (tables_1_7 ++ (tables_1_8 ++ (tables_1_9 ++ tables_1_10)))))))) from (List.mem_append_right _ (List.mem_append_right _ (List.mem_append_left _ (List.mem_of_getElem? h)))))
theorem tp4 {i : Nat} {w : Cond} (h : tables_1_4[i]? = some w) : w ∈ lw_tbl := List.mem_append_right _ (show w ∈ tables_1_1 ++ (tables_1_2 ++ (tables_1_3 ++ (tables_1_4 ++ (tables_1_5 ++ (tables_1_6 ++ (tables_1_7 ++ (tables_1_8 ++ (tables_1_9 ++ tables_1_10)))))))) from (List.mem_append_right _ (List.mem_append_right _ (List.mem_append_right _ (List.mem_append_left _ (List.mem_of_getElem? h))))))
theorem tp5 {i : Nat} {w : Cond} (h : tables_1_5[i]? = some w) : w ∈ lw_tbl := List.mem_append_right _ (show w ∈ tables_1_1 ++ (tables_1_2 ++ (tables_1_3 ++ (tables_1_4 ++ (tables_1_5 ++ (tables_1_6 ++ (tables_1_7 ++ (tables_1_8 ++ (tables_1_9 ++ tables_1_10)))))))) from (List.mem_append_right _ (List.mem_append_right _ (List.mem_append_right _ (List.mem_append_right _ (List.mem_append_left _ (List.mem_of_getElem? h)))))))
theorem tp6 {i : Nat} {w : Cond} (h : tables_1_6[i]? = some w) : w ∈ lw_tbl := List.mem_append_right _ (show w ∈ tables_1_1 ++ (tables_1_2 ++ (tables_1_3 ++ (tables_1_4 ++ (tables_1_5 ++ (tables_1_6 ++ (tables_1_7 ++ (tables_1_8 ++ (tables_1_9 ++ tables_1_10)))))))) from (List.mem_append_right _ (List.mem_append_right _ (List.mem_append_right _ (List.mem_append_right _ (List.mem_append_right _ (List.mem_append_left _ (List.mem_of_getElem? h))))))))
theorem tp7 {i : Nat} {w : Cond} (h : tables_1_7[i]? = some w) : w ∈ lw_tbl := List.mem_append_right _ (show w ∈ tables_1_1 ++ (tables_1_2 ++ (tables_1_3 ++ (tables_1_4 ++ (tables_1_5 ++ (tables_1_6 ++ (tables_1_7 ++ (tables_1_8 ++ (tables_1_9 ++ tables_1_10)))))))) from (List.mem_append_right _ (List.mem_append_right _ (List.mem_append_right _ (List.mem_append_right _ (List.mem_append_right _ (List.mem_append_right _ (List.mem_append_left _ (List.mem_of_getElem? h)))))))))
theorem tp8 {i : Nat} {w : Cond} (h : tables_1_8[i]? = some w) : w ∈ lw_tbl := List.mem_append_right _ (show w ∈ tables_1_1 ++ (tables_1_2 ++ (tables_1_3 ++ (tables_1_4 ++ (tables_1_5 ++ (tables_1_6 ++ (tables_1_7 ++ (tables_1_8 ++ (tables_1_9 ++ tables_1_10)))))))) from (List.mem_append_right _ (List.mem_append_right _ (List.mem_append_right _ (List.mem_append_right _ (List.mem_append_right _ (List.mem_append_right _ (List.mem_append_right _ (List.mem_append_left _ (List.mem_of_getElem? h))))))))))
theorem tp9 {i : Nat} {w : Cond} (h : tables_1_9[i]? = some w) : w ∈ lw_tbl := List.mem_append_right _ (show w ∈ tables_1_1 ++ (tables_1_2 ++ (tables_1_3 ++ (tables_1_4 ++ (tables_1_5 ++ (tables_1_6 ++ (tables_1_7 ++ (tables_1_8 ++ (tables_1_9 ++ tables_1_10)))))))) from (List.mem_append_right _ (List.mem_append_right _ (List.mem_append_right _ (List.mem_append_right _ (List.mem_append_right _ (List.mem_append_right _ (List.mem_append_right _ (List.mem_append_right _ (List.mem_append_left _ (List.mem_of_getElem? h)))))))))))
theorem tp10 {i : Nat} {w : Cond} (h : tables_1_10[i]? = some w) : w ∈ lw_tbl := List.mem_append_right _ (show w ∈ tables_1_1 ++ (tables_1_2 ++ (tables_1_3 ++ (tables_1_4 ++ (tables_1_5 ++ (tables_1_6 ++ (tables_1_7 ++ (tables_1_8 ++ (tables_1_9 ++ tables_1_10)))))))) from (List.mem_append_right _ (List.mem_append_right _ (List.mem_append_right _ (List.mem_append_right _ (List.mem_append_right _ (List.mem_append_right _ (List.mem_append_right _ (List.mem_append_right _ (List.mem_append_right _ (List.mem_of_getElem? h)))))))))))
theorem cin_0 : ∀ k, k < 8 → u_lay RX0 TX0 k ∈ lw_tbl ∧ tb_ok (u_lay RX0 TX0 k) = true := fun k hk => match k, hk with
  | 0, _ => ⟨tp2 (i := 90) (by decide +kernel), by decide +kernel⟩
  | 1, _ => ⟨tp2 (i := 92) (by decide +kernel), by decide +kernel⟩
  | 2, _ => ⟨tp2 (i := 94) (by decide +kernel), by decide +kernel⟩
  | 3, _ => ⟨tp2 (i := 96) (by decide +kernel), by decide +kernel⟩
  | 4, _ => ⟨tp2 (i := 98) (by decide +kernel), by decide +kernel⟩
  | 5, _ => ⟨tp2 (i := 100) (by decide +kernel), by decide +kernel⟩
  | 6, _ => ⟨tp2 (i := 102) (by decide +kernel), by decide +kernel⟩
  | 7, _ => ⟨tp2 (i := 104) (by decide +kernel), by decide +kernel⟩
  | n + 8, h => absurd (show n + 8 < 8 from h) (by omega)
theorem cin_1 : ∀ k, k < 5 → u_lay RX1 TX1 k ∈ lw_tbl ∧ tb_ok (u_lay RX1 TX1 k) = true := fun k hk => match k, hk with
  | 0, _ => ⟨tp1 (i := 181) (by decide +kernel), by decide +kernel⟩
  | 1, _ => ⟨tp1 (i := 183) (by decide +kernel), by decide +kernel⟩
  | 2, _ => ⟨tp1 (i := 185) (by decide +kernel), by decide +kernel⟩
  | 3, _ => ⟨tp1 (i := 187) (by decide +kernel), by decide +kernel⟩
  | 4, _ => ⟨tp1 (i := 189) (by decide +kernel), by decide +kernel⟩
  | n + 5, h => absurd (show n + 5 < 5 from h) (by omega)
theorem cin_2 : ∀ k, k < 4 → u_lay RX2 TX2 k ∈ lw_tbl ∧ tb_ok (u_lay RX2 TX2 k) = true := fun k hk => match k, hk with
  | 0, _ => ⟨tp2 (i := 233) (by decide +kernel), by decide +kernel⟩
  | 1, _ => ⟨tp2 (i := 235) (by decide +kernel), by decide +kernel⟩
  | 2, _ => ⟨tp2 (i := 237) (by decide +kernel), by decide +kernel⟩
  | 3, _ => ⟨tp2 (i := 239) (by decide +kernel), by decide +kernel⟩
  | n + 4, h => absurd (show n + 4 < 4 from h) (by omega)
theorem cin_3 : ∀ k, k < 8 → u_lay RX3 TX3 k ∈ lw_tbl ∧ tb_ok (u_lay RX3 TX3 k) = true := fun k hk => match k, hk with
  | 0, _ => ⟨tp1 (i := 217) (by decide +kernel), by decide +kernel⟩
  | 1, _ => ⟨tp1 (i := 219) (by decide +kernel), by decide +kernel⟩
  | 2, _ => ⟨tp1 (i := 221) (by decide +kernel), by decide +kernel⟩
  | 3, _ => ⟨tp1 (i := 223) (by decide +kernel), by decide +kernel⟩
  | 4, _ => ⟨tp1 (i := 225) (by decide +kernel), by decide +kernel⟩
  | 5, _ => ⟨tp1 (i := 227) (by decide +kernel), by decide +kernel⟩
  | 6, _ => ⟨tp1 (i := 229) (by decide +kernel), by decide +kernel⟩
  | 7, _ => ⟨tp1 (i := 231) (by decide +kernel), by decide +kernel⟩
  | n + 8, h => absurd (show n + 8 < 8 from h) (by omega)
theorem cin_4 : ∀ k, k < 11 → u_lay RX4 TX4 k ∈ lw_tbl ∧ tb_ok (u_lay RX4 TX4 k) = true := fun k hk => match k, hk with
  | 0, _ => ⟨tp2 (i := 194) (by decide +kernel), by decide +kernel⟩
  | 1, _ => ⟨tp2 (i := 196) (by decide +kernel), by decide +kernel⟩
  | 2, _ => ⟨tp2 (i := 198) (by decide +kernel), by decide +kernel⟩
  | 3, _ => ⟨tp2 (i := 200) (by decide +kernel), by decide +kernel⟩
  | 4, _ => ⟨tp2 (i := 202) (by decide +kernel), by decide +kernel⟩
  | 5, _ => ⟨tp2 (i := 204) (by decide +kernel), by decide +kernel⟩
  | 6, _ => ⟨tp2 (i := 206) (by decide +kernel), by decide +kernel⟩
  | 7, _ => ⟨tp2 (i := 208) (by decide +kernel), by decide +kernel⟩
  | 8, _ => ⟨tp2 (i := 210) (by decide +kernel), by decide +kernel⟩
  | 9, _ => ⟨tp2 (i := 212) (by decide +kernel), by decide +kernel⟩
  | 10, _ => ⟨tp2 (i := 214) (by decide +kernel), by decide +kernel⟩
  | n + 11, h => absurd (show n + 11 < 11 from h) (by omega)
theorem cin_5 : ∀ k, k < 4 → u_lay RX5 TX5 k ∈ lw_tbl ∧ tb_ok (u_lay RX5 TX5 k) = true := fun k hk => match k, hk with
  | 0, _ => ⟨tp1 (i := 98) (by decide +kernel), by decide +kernel⟩
  | 1, _ => ⟨tp1 (i := 100) (by decide +kernel), by decide +kernel⟩
  | 2, _ => ⟨tp1 (i := 102) (by decide +kernel), by decide +kernel⟩
  | 3, _ => ⟨tp1 (i := 104) (by decide +kernel), by decide +kernel⟩
  | n + 4, h => absurd (show n + 4 < 4 from h) (by omega)
theorem cin_6 : ∀ k, k < 5 → u_lay RX6 TX6 k ∈ lw_tbl ∧ tb_ok (u_lay RX6 TX6 k) = true := fun k hk => match k, hk with
  | 0, _ => ⟨tp1 (i := 152) (by decide +kernel), by decide +kernel⟩
  | 1, _ => ⟨tp1 (i := 154) (by decide +kernel), by decide +kernel⟩
  | 2, _ => ⟨tp1 (i := 156) (by decide +kernel), by decide +kernel⟩
  | 3, _ => ⟨tp1 (i := 158) (by decide +kernel), by decide +kernel⟩
  | 4, _ => ⟨tp1 (i := 160) (by decide +kernel), by decide +kernel⟩
  | n + 5, h => absurd (show n + 5 < 5 from h) (by omega)
theorem cin_7 : ∀ k, k < 3 → u_lay RX7 TX7 k ∈ lw_tbl ∧ tb_ok (u_lay RX7 TX7 k) = true := fun k hk => match k, hk with
  | 0, _ => ⟨tp1 (i := 127) (by decide +kernel), by decide +kernel⟩
  | 1, _ => ⟨tp1 (i := 129) (by decide +kernel), by decide +kernel⟩
  | 2, _ => ⟨tp1 (i := 131) (by decide +kernel), by decide +kernel⟩
  | n + 3, h => absurd (show n + 3 < 3 from h) (by omega)
theorem cin_8 : ∀ k, k < 12 → u_lay RX8 TX8 k ∈ lw_tbl ∧ tb_ok (u_lay RX8 TX8 k) = true := fun k hk => match k, hk with
  | 0, _ => ⟨tp2 (i := 36) (by decide +kernel), by decide +kernel⟩
  | 1, _ => ⟨tp2 (i := 38) (by decide +kernel), by decide +kernel⟩
  | 2, _ => ⟨tp2 (i := 40) (by decide +kernel), by decide +kernel⟩
  | 3, _ => ⟨tp2 (i := 42) (by decide +kernel), by decide +kernel⟩
  | 4, _ => ⟨tp2 (i := 44) (by decide +kernel), by decide +kernel⟩
  | 5, _ => ⟨tp2 (i := 46) (by decide +kernel), by decide +kernel⟩
  | 6, _ => ⟨tp2 (i := 48) (by decide +kernel), by decide +kernel⟩
  | 7, _ => ⟨tp2 (i := 50) (by decide +kernel), by decide +kernel⟩
  | 8, _ => ⟨tp2 (i := 52) (by decide +kernel), by decide +kernel⟩
  | 9, _ => ⟨tp2 (i := 54) (by decide +kernel), by decide +kernel⟩
  | 10, _ => ⟨tp2 (i := 56) (by decide +kernel), by decide +kernel⟩
  | 11, _ => ⟨tp2 (i := 58) (by decide +kernel), by decide +kernel⟩
  | n + 12, h => absurd (show n + 12 < 12 from h) (by omega)
theorem cin_9 : ∀ k, k < 11 → u_lay RX9 TX9 k ∈ lw_tbl ∧ tb_ok (u_lay RX9 TX9 k) = true := fun k hk => match k, hk with
  | 0, _ => ⟨tp1 (i := 56) (by decide +kernel), by decide +kernel⟩
  | 1, _ => ⟨tp1 (i := 58) (by decide +kernel), by decide +kernel⟩
  | 2, _ => ⟨tp1 (i := 60) (by decide +kernel), by decide +kernel⟩
  | 3, _ => ⟨tp1 (i := 62) (by decide +kernel), by decide +kernel⟩
  | 4, _ => ⟨tp1 (i := 64) (by decide +kernel), by decide +kernel⟩
  | 5, _ => ⟨tp1 (i := 66) (by decide +kernel), by decide +kernel⟩
  | 6, _ => ⟨tp1 (i := 68) (by decide +kernel), by decide +kernel⟩
  | 7, _ => ⟨tp1 (i := 70) (by decide +kernel), by decide +kernel⟩
  | 8, _ => ⟨tp1 (i := 72) (by decide +kernel), by decide +kernel⟩
  | 9, _ => ⟨tp1 (i := 74) (by decide +kernel), by decide +kernel⟩
  | 10, _ => ⟨tp1 (i := 76) (by decide +kernel), by decide +kernel⟩
  | n + 11, h => absurd (show n + 11 < 11 from h) (by omega)
theorem cin_10 : ∀ k, k < 15 → u_lay RX10 TX10 k ∈ lw_tbl ∧ tb_ok (u_lay RX10 TX10 k) = true := fun k hk => match k, hk with
  | 0, _ => ⟨tp2 (i := 141) (by decide +kernel), by decide +kernel⟩
  | 1, _ => ⟨tp2 (i := 143) (by decide +kernel), by decide +kernel⟩
  | 2, _ => ⟨tp2 (i := 145) (by decide +kernel), by decide +kernel⟩
  | 3, _ => ⟨tp2 (i := 147) (by decide +kernel), by decide +kernel⟩
  | 4, _ => ⟨tp2 (i := 149) (by decide +kernel), by decide +kernel⟩
  | 5, _ => ⟨tp2 (i := 151) (by decide +kernel), by decide +kernel⟩
  | 6, _ => ⟨tp2 (i := 153) (by decide +kernel), by decide +kernel⟩
  | 7, _ => ⟨tp2 (i := 155) (by decide +kernel), by decide +kernel⟩
  | 8, _ => ⟨tp2 (i := 157) (by decide +kernel), by decide +kernel⟩
  | 9, _ => ⟨tp2 (i := 159) (by decide +kernel), by decide +kernel⟩
  | 10, _ => ⟨tp2 (i := 161) (by decide +kernel), by decide +kernel⟩
  | 11, _ => ⟨tp2 (i := 163) (by decide +kernel), by decide +kernel⟩
  | 12, _ => ⟨tp2 (i := 165) (by decide +kernel), by decide +kernel⟩
  | 13, _ => ⟨tp2 (i := 167) (by decide +kernel), by decide +kernel⟩
  | 14, _ => ⟨tp2 (i := 169) (by decide +kernel), by decide +kernel⟩
  | n + 15, h => absurd (show n + 15 < 15 from h) (by omega)
theorem cin_11 : ∀ k, k < 9 → u_lay RX11 TX11 k ∈ lw_tbl ∧ tb_ok (u_lay RX11 TX11 k) = true := fun k hk => match k, hk with
  | 0, _ => ⟨tp3 (i := 16) (by decide +kernel), by decide +kernel⟩
  | 1, _ => ⟨tp3 (i := 18) (by decide +kernel), by decide +kernel⟩
  | 2, _ => ⟨tp3 (i := 20) (by decide +kernel), by decide +kernel⟩
  | 3, _ => ⟨tp3 (i := 22) (by decide +kernel), by decide +kernel⟩
  | 4, _ => ⟨tp3 (i := 24) (by decide +kernel), by decide +kernel⟩
  | 5, _ => ⟨tp3 (i := 26) (by decide +kernel), by decide +kernel⟩
  | 6, _ => ⟨tp3 (i := 28) (by decide +kernel), by decide +kernel⟩
  | 7, _ => ⟨tp3 (i := 30) (by decide +kernel), by decide +kernel⟩
  | 8, _ => ⟨tp3 (i := 32) (by decide +kernel), by decide +kernel⟩
  | n + 9, h => absurd (show n + 9 < 9 from h) (by omega)
theorem cin_12 : ∀ k, k < 71 → u_lay RX12 TX12 k ∈ lw_tbl ∧ tb_ok (u_lay RX12 TX12 k) = true := fun k hk => match k, hk with
  | 0, _ => ⟨tp7 (i := 179) (by decide +kernel), by decide +kernel⟩
  | 1, _ => ⟨tp7 (i := 181) (by decide +kernel), by decide +kernel⟩
  | 2, _ => ⟨tp7 (i := 183) (by decide +kernel), by decide +kernel⟩
  | 3, _ => ⟨tp7 (i := 185) (by decide +kernel), by decide +kernel⟩
  | 4, _ => ⟨tp7 (i := 187) (by decide +kernel), by decide +kernel⟩
  | 5, _ => ⟨tp7 (i := 189) (by decide +kernel), by decide +kernel⟩
  | 6, _ => ⟨tp7 (i := 191) (by decide +kernel), by decide +kernel⟩
  | 7, _ => ⟨tp7 (i := 193) (by decide +kernel), by decide +kernel⟩
  | 8, _ => ⟨tp7 (i := 195) (by decide +kernel), by decide +kernel⟩
  | 9, _ => ⟨tp7 (i := 197) (by decide +kernel), by decide +kernel⟩
  | 10, _ => ⟨tp7 (i := 199) (by decide +kernel), by decide +kernel⟩
  | 11, _ => ⟨tp7 (i := 201) (by decide +kernel), by decide +kernel⟩
  | 12, _ => ⟨tp7 (i := 203) (by decide +kernel), by decide +kernel⟩
  | 13, _ => ⟨tp7 (i := 205) (by decide +kernel), by decide +kernel⟩
  | 14, _ => ⟨tp7 (i := 207) (by decide +kernel), by decide +kernel⟩
  | 15, _ => ⟨tp7 (i := 209) (by decide +kernel), by decide +kernel⟩
  | 16, _ => ⟨tp7 (i := 211) (by decide +kernel), by decide +kernel⟩
  | 17, _ => ⟨tp7 (i := 213) (by decide +kernel), by decide +kernel⟩
  | 18, _ => ⟨tp7 (i := 215) (by decide +kernel), by decide +kernel⟩
  | 19, _ => ⟨tp7 (i := 217) (by decide +kernel), by decide +kernel⟩
  | 20, _ => ⟨tp7 (i := 219) (by decide +kernel), by decide +kernel⟩
  | 21, _ => ⟨tp7 (i := 221) (by decide +kernel), by decide +kernel⟩
  | 22, _ => ⟨tp7 (i := 223) (by decide +kernel), by decide +kernel⟩
  | 23, _ => ⟨tp7 (i := 225) (by decide +kernel), by decide +kernel⟩
  | 24, _ => ⟨tp7 (i := 227) (by decide +kernel), by decide +kernel⟩
  | 25, _ => ⟨tp7 (i := 229) (by decide +kernel), by decide +kernel⟩
  | 26, _ => ⟨tp7 (i := 231) (by decide +kernel), by decide +kernel⟩
  | 27, _ => ⟨tp7 (i := 233) (by decide +kernel), by decide +kernel⟩
  | 28, _ => ⟨tp7 (i := 235) (by decide +kernel), by decide +kernel⟩
  | 29, _ => ⟨tp7 (i := 237) (by decide +kernel), by decide +kernel⟩
  | 30, _ => ⟨tp7 (i := 239) (by decide +kernel), by decide +kernel⟩
  | 31, _ => ⟨tp8 (i := 1) (by decide +kernel), by decide +kernel⟩
  | 32, _ => ⟨tp8 (i := 3) (by decide +kernel), by decide +kernel⟩
  | 33, _ => ⟨tp8 (i := 5) (by decide +kernel), by decide +kernel⟩
  | 34, _ => ⟨tp8 (i := 7) (by decide +kernel), by decide +kernel⟩
  | 35, _ => ⟨tp8 (i := 9) (by decide +kernel), by decide +kernel⟩
  | 36, _ => ⟨tp8 (i := 11) (by decide +kernel), by decide +kernel⟩
  | 37, _ => ⟨tp8 (i := 13) (by decide +kernel), by decide +kernel⟩
  | 38, _ => ⟨tp8 (i := 15) (by decide +kernel), by decide +kernel⟩
  | 39, _ => ⟨tp8 (i := 17) (by decide +kernel), by decide +kernel⟩
  | 40, _ => ⟨tp8 (i := 19) (by decide +kernel), by decide +kernel⟩
  | 41, _ => ⟨tp8 (i := 21) (by decide +kernel), by decide +kernel⟩
  | 42, _ => ⟨tp8 (i := 23) (by decide +kernel), by decide +kernel⟩
  | 43, _ => ⟨tp8 (i := 25) (by decide +kernel), by decide +kernel⟩
  | 44, _ => ⟨tp8 (i := 27) (by decide +kernel), by decide +kernel⟩
  | 45, _ => ⟨tp8 (i := 29) (by decide +kernel), by decide +kernel⟩
  | 46, _ => ⟨tp8 (i := 31) (by decide +kernel), by decide +kernel⟩
  | 47, _ => ⟨tp8 (i := 33) (by decide +kernel), by decide +kernel⟩
  | 48, _ => ⟨tp8 (i := 35) (by decide +kernel), by decide +kernel⟩
  | 49, _ => ⟨tp8 (i := 37) (by decide +kernel), by decide +kernel⟩
  | 50, _ => ⟨tp8 (i := 39) (by decide +kernel), by decide +kernel⟩
  | 51, _ => ⟨tp8 (i := 41) (by decide +kernel), by decide +kernel⟩
  | 52, _ => ⟨tp8 (i := 43) (by decide +kernel), by decide +kernel⟩
  | 53, _ => ⟨tp8 (i := 45) (by decide +kernel), by decide +kernel⟩
  | 54, _ => ⟨tp8 (i := 47) (by decide +kernel), by decide +kernel⟩
  | 55, _ => ⟨tp8 (i := 49) (by decide +kernel), by decide +kernel⟩
  | 56, _ => ⟨tp8 (i := 51) (by decide +kernel), by decide +kernel⟩
  | 57, _ => ⟨tp8 (i := 53) (by decide +kernel), by decide +kernel⟩
  | 58, _ => ⟨tp8 (i := 55) (by decide +kernel), by decide +kernel⟩
  | 59, _ => ⟨tp8 (i := 57) (by decide +kernel), by decide +kernel⟩
  | 60, _ => ⟨tp8 (i := 59) (by decide +kernel), by decide +kernel⟩
  | 61, _ => ⟨tp8 (i := 61) (by decide +kernel), by decide +kernel⟩
  | 62, _ => ⟨tp8 (i := 63) (by decide +kernel), by decide +kernel⟩
  | 63, _ => ⟨tp8 (i := 65) (by decide +kernel), by decide +kernel⟩
  | 64, _ => ⟨tp8 (i := 67) (by decide +kernel), by decide +kernel⟩
  | 65, _ => ⟨tp8 (i := 69) (by decide +kernel), by decide +kernel⟩
  | 66, _ => ⟨tp8 (i := 71) (by decide +kernel), by decide +kernel⟩
  | 67, _ => ⟨tp8 (i := 73) (by decide +kernel), by decide +kernel⟩
  | 68, _ => ⟨tp8 (i := 75) (by decide +kernel), by decide +kernel⟩
  | 69, _ => ⟨tp8 (i := 77) (by decide +kernel), by decide +kernel⟩
  | 70, _ => ⟨tp8 (i := 79) (by decide +kernel), by decide +kernel⟩
  | n + 71, h => absurd (show n + 71 < 71 from h) (by omega)
theorem CL_in : ∀ (c : Nat) (r : vw_C), CL[c]? = some r → ∀ w ∈ u_ws r.1 r.2.1 r.2.2, w ∈ lw_tbl ∧ tb_ok w = true := by
  intro c r hc w hw
  obtain ⟨k, hk, rfl⟩ := List.mem_map.mp hw
  replace hk := List.mem_range.mp hk
  match c, hc with
  | 0, hc => cases hc; exact cin_0 k hk
  | 1, hc => cases hc; exact cin_1 k hk
  | 2, hc => cases hc; exact cin_2 k hk
  | 3, hc => cases hc; exact cin_3 k hk
  | 4, hc => cases hc; exact cin_4 k hk
  | 5, hc => cases hc; exact cin_5 k hk
  | 6, hc => cases hc; exact cin_6 k hk
  | 7, hc => cases hc; exact cin_7 k hk
  | 8, hc => cases hc; exact cin_8 k hk
  | 9, hc => cases hc; exact cin_9 k hk
  | 10, hc => cases hc; exact cin_10 k hk
  | 11, hc => cases hc; exact cin_11 k hk
  | 12, hc => cases hc; exact cin_12 k hk
  | n + 13, hc => exact absurd (show (CL[n + 13]? : Option vw_C) = some r from hc) (by simp [CL])
