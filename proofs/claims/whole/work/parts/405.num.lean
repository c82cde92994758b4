/-! numbers of 32 bits as numbers -/
theorem li_0 : (0 : Int32) = nI 0 := id rfl
theorem li_1 : (1 : Int32) = nI 1 := id rfl
theorem li_2 : (2 : Int32) = nI 2 := id rfl
theorem li_3 : (3 : Int32) = nI 3 := id rfl
theorem li_4 : (4 : Int32) = nI 4 := id rfl
theorem li_5 : (5 : Int32) = nI 5 := id rfl
theorem li_6 : (6 : Int32) = nI 6 := id rfl
theorem li_7 : (7 : Int32) = nI 7 := id rfl
theorem li_8 : (8 : Int32) = nI 8 := id rfl
theorem li_9 : (9 : Int32) = nI 9 := id rfl
theorem li_10 : (10 : Int32) = nI 10 := id rfl
theorem li_12 : (12 : Int32) = nI 12 := id rfl
theorem li_14 : (14 : Int32) = nI 14 := id rfl
theorem li_15 : (15 : Int32) = nI 15 := id rfl
theorem li_16 : (16 : Int32) = nI 16 := id rfl
theorem li_18 : (18 : Int32) = nI 18 := id rfl
theorem li_19 : (19 : Int32) = nI 19 := id rfl
theorem li_20 : (20 : Int32) = nI 20 := id rfl
theorem li_22 : (22 : Int32) = nI 22 := id rfl
theorem li_23 : (23 : Int32) = nI 23 := id rfl
theorem li_24 : (24 : Int32) = nI 24 := id rfl
theorem li_26 : (26 : Int32) = nI 26 := id rfl
theorem li_29 : (29 : Int32) = nI 29 := id rfl
theorem li_30 : (30 : Int32) = nI 30 := id rfl
theorem li_31 : (31 : Int32) = nI 31 := id rfl
theorem li_32 : (32 : Int32) = nI 32 := id rfl
theorem li_36 : (36 : Int32) = nI 36 := id rfl
theorem li_38 : (38 : Int32) = nI 38 := id rfl
theorem li_48 : (48 : Int32) = nI 48 := id rfl
theorem li_50 : (50 : Int32) = nI 50 := id rfl
theorem li_57 : (57 : Int32) = nI 57 := id rfl
theorem li_58 : (58 : Int32) = nI 58 := id rfl
theorem li_59 : (59 : Int32) = nI 59 := id rfl
theorem li_60 : (60 : Int32) = nI 60 := id rfl
theorem li_63 : (63 : Int32) = nI 63 := id rfl
theorem li_97 : (97 : Int32) = nI 97 := id rfl
theorem li_99 : (99 : Int32) = nI 99 := id rfl
theorem li_120 : (120 : Int32) = nI 120 := id rfl
theorem li_122 : (122 : Int32) = nI 122 := id rfl
theorem li_144 : (144 : Int32) = nI 144 := id rfl
theorem li_168 : (168 : Int32) = nI 168 := id rfl
theorem li_194 : (194 : Int32) = nI 194 := id rfl
theorem li_240 : (240 : Int32) = nI 240 := id rfl
theorem li_255 : (255 : Int32) = nI 255 := id rfl
theorem li_284 : (284 : Int32) = nI 284 := id rfl
theorem li_299 : (299 : Int32) = nI 299 := id rfl
theorem li_603 : (603 : Int32) = nI 603 := id rfl
theorem li_999 : (999 : Int32) = nI 999 := id rfl
theorem li_1200 : (1200 : Int32) = nI 1200 := id rfl
theorem li_1440 : (1440 : Int32) = nI 1440 := id rfl
theorem li_4095 : (4095 : Int32) = nI 4095 := id rfl
theorem li_4096 : (4096 : Int32) = nI 4096 := id rfl
theorem li_6030 : (6030 : Int32) = nI 6030 := id rfl
theorem li_16384 : (16384 : Int32) = nI 16384 := id rfl
theorem li_20160 : (20160 : Int32) = nI 20160 := id rfl
def b2i (b : Bool) : Int32 := nI (if b then 1 else 0)
theorem b2i_t {b : Bool} (h : b = true) : b2i b = nI 1 := by rw [h]; rfl
theorem b2i_f {b : Bool} (h : b = false) : b2i b = nI 0 := by rw [h]; rfl
theorem b2i_le (b : Bool) : (if b then 1 else 0 : Nat) ≤ 1 := by cases b <;> decide
theorem dvI_n {a d : Nat} (ha : a < 2147483648) (h0 : 0 < d) (hd : d < 2147483648) : dvI (nI a) (nI d) = some (nI (a / d)) := by
  rw [dvI, if_neg (nI_ne0 h0 hd), pk_div ha h0 hd]
theorem rmI_n {a d : Nat} (ha : a < 2147483648) (h0 : 0 < d) (hd : d < 2147483648) : rmI (nI a) (nI d) = some (nI (a % d)) := by
  rw [rmI, if_neg (nI_ne0 h0 hd), pk_rem ha h0 hd]
theorem iMax_n {a b : Nat} (ha : a < 2147483648) (hb : b < 2147483648) : iMax (nI a) (nI b) = nI (max a b) := by
  unfold iMax
  by_cases h : a < b
  · rw [if_pos (nI_lt h hb), show max a b = b by omega]
  · rw [if_neg (nI_nlt (by omega) ha), show max a b = a by omega]
theorem iMin_n {a b : Nat} (ha : a < 2147483648) (hb : b < 2147483648) : iMin (nI a) (nI b) = nI (min a b) := by
  unfold iMin
  by_cases h : b < a
  · rw [if_pos (nI_lt h ha), show min a b = b by omega]
  · rw [if_neg (nI_nlt (by omega) hb), show min a b = a by omega]
theorem iMax0_sub {a b : Nat} (ha : a < 1073741824) (hb : b < 1073741824) : iMax (nI 0) (nI a - nI b) = nI (a - b) := by
  by_cases h : a < b
  · rw [iMax, if_neg, show a - b = 0 by omega]
    have h1 : nI a - nI b < 0 := pk_sneg hb h
    intro h2
    rw [fa_lt] at h1 h2
    have e1 : (nI 0).toInt = (0 : Int) := rfl
    have e2 : (0 : Int32).toInt = (0 : Int) := rfl
    omega
  · rw [pk_sub (by omega), iMax_n (by omega) (by omega), show max 0 (a - b) = a - b by omega]
theorem zO_0 : zO (nI 0) = some (nI 0) := if_pos (Or.inl rfl)
theorem zO_1 : zO (nI 1) = some (nI 1) := if_pos (Or.inr rfl)
theorem zO_b (b : Bool) : zO (b2i b) = some (b2i b) := by
  cases b
  · exact zO_0
  · exact zO_1
theorem b2i_0 (b : Bool) : (b2i b = nI 0) ↔ b = false := by
  cases b
  · exact ⟨fun _ => rfl, fun _ => rfl⟩
  · exact ⟨fun h => absurd ((nI_eq (by decide) (by decide)).mp h) (by decide), fun h => absurd h (by decide)⟩
theorem m1_n (n : Nat) : nI (n + 1) + -nI 1 = nI n := pk_m1 n
theorem nI_subadd {a b c : Nat} (h : b ≤ a + c) : nI a - nI b + nI c = nI (a + c - b) := by
  have e : nI (a + c - b) + nI b = nI a + nI c := by rw [nI_add, nI_add]; congr 1; omega
  have e2 : nI (a + c - b) = nI a + nI c - nI b := by rw [← e, Int32.add_sub_cancel]
  rw [e2, Int32.sub_eq_add_neg, Int32.sub_eq_add_neg, Int32.add_assoc, Int32.add_assoc, Int32.add_comm (-nI b)]
/-- a bit -/
theorem bit_n {x j : Nat} (hx : x < 2147483648) (hj : j < 32) : ((nI x >>> (nI j &&& nI 31)) &&& nI 1 = nI 0) ↔ x.testBit j = false := by
  have e : nI x >>> (nI j &&& nI 31) = nI (x / 2 ^ j) := pk_shrN hx _ j (s_l j hj)
  rw [e, show nI 1 = nI (2 ^ 0) from rfl, show nI 0 = (0 : Int32) from rfl, fa_bit (by decide), Nat.testBit_div_two_pow]
  simp
theorem shl1_n {j : Nat} (hj : j < 31) : nI 1 <<< (nI j &&& nI 31) = nI (2 ^ j) := by
  have h : 1 * 2 ^ j < 2 ^ 32 := by
    rw [Nat.one_mul]
    exact Nat.pow_lt_pow_right (by decide) (by omega)
  have e := pk_shlN (n := 1) (nI j &&& nI 31) j (s_l j (by omega)) h
  rw [e, Nat.one_mul]
