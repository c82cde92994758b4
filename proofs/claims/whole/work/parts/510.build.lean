/-! the constructors: what they make, step by step -/
def shT : List (Nat × Nat) := [(0, 0), (21, 9), (2, 1200), (19, 11), (18, 12), (15, 4), (6, 12), (1, 144), (7, 6), (8, 5), (9, 6), (1, 32), (17, 3), (17, 3), (17, 3), (17, 3), (17, 3), (17, 3), (17, 3), (17, 3), (17, 3), (17, 3), (17, 3), (17, 3), (16, 5), (1, 8), (16, 5), (1, 8), (16, 5), (1, 8), (16, 5), (1, 8), (16, 5), (1, 8), (16, 5), (1, 8), (11, 5), (1, 6), (1, 32), (11, 5), (1, 6), (1, 32), (11, 5), (1, 6), (1, 32), (11, 5), (1, 6), (1, 32), (11, 5), (1, 6), (1, 32), (13, 8), (1, 6), (1, 5), (13, 8), (1, 6), (1, 5), (13, 8), (1, 6), (1, 5), (13, 8), (1, 6), (1, 5), (13, 8), (1, 6), (1, 5), (13, 8), (1, 6), (1, 5), (18, 12), (15, 4), (6, 12), (1, 144), (7, 6), (8, 5), (9, 6), (1, 32), (17, 3), (17, 3), (17, 3), (17, 3), (17, 3), (17, 3), (17, 3), (17, 3), (17, 3), (17, 3), (17, 3), (17, 3), (16, 5), (1, 8), (16, 5), (1, 8), (16, 5), (1, 8), (16, 5), (1, 8), (16, 5), (1, 8), (16, 5), (1, 8), (11, 5), (1, 6), (1, 32), (11, 5), (1, 6), (1, 32), (11, 5), (1, 6), (1, 32), (11, 5), (1, 6), (1, 32), (11, 5), (1, 6), (1, 32), (13, 8), (1, 6), (1, 5), (13, 8), (1, 6), (1, 5), (13, 8), (1, 6), (1, 5), (13, 8), (1, 6), (1, 5), (13, 8), (1, 6), (1, 5), (13, 8), (1, 6), (1, 5), (20, 16), (1, 12), (1, 12), (1, 12), (1, 144), (1, 48), (1, 6), (1, 18), (1, 18), (1, 5), (1, 5), (10, 8), (1, 16), (1, 16), (1, 16), (1, 80), (1, 80), (1, 80), (1, 12), (20, 16), (1, 12), (1, 12), (1, 12), (1, 144), (1, 48), (1, 6), (1, 18), (1, 18), (1, 5), (1, 5), (10, 8), (1, 16), (1, 16), (1, 16), (1, 80), (1, 80), (1, 80), (1, 12), (14, 11), (1, 12), (1, 12), (1, 5), (1, 5), (1, 5), (1, 5), (1, 32), (12, 4), (5, 10), (5, 2), (3, 2), (20, 16), (1, 12), (1, 12), (1, 12), (1, 144), (1, 48), (1, 6), (1, 18), (1, 18), (1, 5), (1, 5), (10, 8), (1, 16), (1, 16), (1, 16), (1, 80), (1, 80), (1, 80), (1, 12), (20, 16), (1, 12), (1, 12), (1, 12), (1, 144), (1, 48), (1, 6), (1, 18), (1, 18), (1, 5), (1, 5), (10, 8), (1, 16), (1, 16), (1, 16), (1, 80), (1, 80), (1, 80), (1, 12), (20, 16), (1, 12), (1, 12), (1, 12), (1, 144), (1, 48), (1, 6), (1, 18), (1, 18), (1, 5), (1, 5), (10, 8), (1, 16), (1, 16), (1, 16), (1, 80), (1, 80), (1, 80), (1, 12), (20, 16), (1, 12), (1, 12), (1, 12), (1, 144), (1, 48), (1, 6), (1, 18), (1, 18), (1, 5), (1, 5), (10, 8), (1, 16), (1, 16), (1, 16), (1, 80), (1, 80), (1, 80), (1, 12), (20, 16), (1, 12), (1, 12), (1, 12), (1, 144), (1, 48), (1, 6), (1, 18), (1, 18), (1, 5), (1, 5), (10, 8), (1, 16), (1, 16), (1, 16), (1, 80), (1, 80), (1, 80), (1, 12), (20, 16), (1, 12), (1, 12), (1, 12), (1, 144), (1, 48), (1, 6), (1, 18), (1, 18), (1, 5), (1, 5), (10, 8), (1, 16), (1, 16), (1, 16), (1, 80), (1, 80), (1, 80), (1, 12), (20, 16), (1, 12), (1, 12), (1, 12), (1, 144), (1, 48), (1, 6), (1, 18), (1, 18), (1, 5), (1, 5), (10, 8), (1, 16), (1, 16), (1, 16), (1, 80), (1, 80), (1, 80), (1, 12), (20, 16), (1, 12), (1, 12), (1, 12), (1, 144), (1, 48), (1, 6), (1, 18), (1, 18), (1, 5), (1, 5), (10, 8), (1, 16), (1, 16), (1, 16), (1, 80), (1, 80), (1, 80), (1, 12), (20, 16), (1, 12), (1, 12), (1, 12), (1, 144), (1, 48), (1, 6), (1, 18), (1, 18), (1, 5), (1, 5), (10, 8), (1, 16), (1, 16), (1, 16), (1, 80), (1, 80), (1, 80), (1, 12), (20, 16), (1, 12), (1, 12), (1, 12), (1, 144), (1, 48), (1, 6), (1, 18), (1, 18), (1, 5), (1, 5), (10, 8), (1, 16), (1, 16), (1, 16), (1, 80), (1, 80), (1, 80), (1, 12), (20, 16), (1, 12), (1, 12), (1, 12), (1, 144), (1, 48), (1, 6), (1, 18), (1, 18), (1, 5), (1, 5), (10, 8), (1, 16), (1, 16), (1, 16), (1, 80), (1, 80), (1, 80), (1, 12), (20, 16), (1, 12), (1, 12), (1, 12), (1, 144), (1, 48), (1, 6), (1, 18), (1, 18), (1, 5), (1, 5), (10, 8), (1, 16), (1, 16), (1, 16), (1, 80), (1, 80), (1, 80), (1, 12), (22, 71), (1, 603), (1, 6030), (1, 1206), (1, 603), (3, 2), (1, 4), (4, 29), (1, 12), (1, 12), (1, 6), (1, 6), (1, 6), (1, 5), (1, 5), (1, 30), (1, 6), (1, 6), (1, 6), (1, 6), (1, 36), (1, 6), (1, 30), (1, 1200), (1, 4), (4, 29), (1, 12), (1, 12), (1, 144), (3, 144), (1, 6), (1, 6), (1, 6), (1, 48), (1, 5), (1, 5), (1, 30), (1, 6), (1, 6), (1, 6), (1, 6), (1, 36), (1, 6), (1, 30), (1, 5), (1, 5), (1, 5), (1, 5), (3, 4096), (3, 4096), (4, 1)]
def ptT : List (Nat × Nat × Nat) := [(1, 0, 2), (3, 0, 2), (1, 2, 3), (4, 0, 5), (4, 2, 6), (4, 4, 7), (4, 6, 8), (4, 8, 9), (4, 10, 10), (4, 11, 11), (6, 0, 12), (6, 1, 13), (6, 2, 14), (6, 3, 15), (6, 4, 16), (6, 5, 17), (6, 6, 18), (6, 7, 19), (6, 8, 20), (6, 9, 21), (6, 10, 22), (6, 11, 23), (24, 4, 25), (8, 0, 24), (26, 4, 27), (8, 1, 26), (28, 4, 29), (8, 2, 28), (30, 4, 31), (8, 3, 30), (32, 4, 33), (8, 4, 32), (34, 4, 35), (8, 5, 34), (36, 3, 37), (36, 4, 38), (9, 0, 36), (39, 3, 40), (39, 4, 41), (9, 1, 39), (42, 3, 43), (42, 4, 44), (9, 2, 42), (45, 3, 46), (45, 4, 47), (9, 3, 45), (48, 3, 49), (48, 4, 50), (9, 4, 48), (51, 5, 52), (51, 7, 53), (10, 0, 51), (54, 5, 55), (54, 7, 56), (10, 1, 54), (57, 5, 58), (57, 7, 59), (10, 2, 57), (60, 5, 61), (60, 7, 62), (10, 3, 60), (63, 5, 64), (63, 7, 65), (10, 4, 63), (66, 5, 67), (66, 7, 68), (10, 5, 66), (1, 3, 4), (69, 0, 70), (69, 2, 71), (69, 4, 72), (69, 6, 73), (69, 8, 74), (69, 10, 75), (69, 11, 76), (71, 0, 77), (71, 1, 78), (71, 2, 79), (71, 3, 80), (71, 4, 81), (71, 5, 82), (71, 6, 83), (71, 7, 84), (71, 8, 85), (71, 9, 86), (71, 10, 87), (71, 11, 88), (89, 4, 90), (73, 0, 89), (91, 4, 92), (73, 1, 91), (93, 4, 94), (73, 2, 93), (95, 4, 96), (73, 3, 95), (97, 4, 98), (73, 4, 97), (99, 4, 100), (73, 5, 99), (101, 3, 102), (101, 4, 103), (74, 0, 101), (104, 3, 105), (104, 4, 106), (74, 1, 104), (107, 3, 108), (107, 4, 109), (74, 2, 107), (110, 3, 111), (110, 4, 112), (74, 3, 110), (113, 3, 114), (113, 4, 115), (74, 4, 113), (116, 5, 117), (116, 7, 118), (75, 0, 116), (119, 5, 120), (119, 7, 121), (75, 1, 119), (122, 5, 123), (122, 7, 124), (75, 2, 122), (125, 5, 126), (125, 7, 127), (75, 3, 125), (128, 5, 129), (128, 7, 130), (75, 4, 128), (131, 5, 132), (131, 7, 133), (75, 5, 131), (1, 4, 69), (134, 2, 135), (134, 3, 136), (134, 4, 137), (134, 6, 138), (134, 7, 139), (134, 8, 140), (134, 9, 141), (134, 10, 142), (134, 11, 143), (134, 12, 144), (145, 1, 146), (145, 3, 147), (145, 4, 148), (145, 5, 149), (145, 6, 150), (145, 7, 151), (134, 14, 145), (134, 15, 152), (134, 0, 4), (1, 5, 134), (153, 2, 154), (153, 3, 155), (153, 4, 156), (153, 6, 157), (153, 7, 158), (153, 8, 159), (153, 9, 160), (153, 10, 161), (153, 11, 162), (153, 12, 163), (164, 1, 165), (164, 3, 166), (164, 4, 167), (164, 5, 168), (164, 6, 169), (164, 7, 170), (153, 14, 164), (153, 15, 171), (153, 0, 4), (1, 6, 153), (172, 2, 173), (172, 3, 174), (172, 6, 175), (172, 7, 176), (172, 8, 177), (172, 9, 178), (172, 10, 179), (172, 0, 134), (172, 1, 4), (1, 7, 172), (180, 1, 181), (180, 2, 182), (180, 3, 183), (184, 2, 185), (184, 3, 186), (184, 4, 187), (184, 6, 188), (184, 7, 189), (184, 8, 190), (184, 9, 191), (184, 10, 192), (184, 11, 193), (184, 12, 194), (195, 1, 196), (195, 3, 197), (195, 4, 198), (195, 5, 199), (195, 6, 200), (195, 7, 201), (184, 14, 195), (184, 15, 202), (184, 0, 4), (181, 0, 184), (203, 2, 204), (203, 3, 205), (203, 4, 206), (203, 6, 207), (203, 7, 208), (203, 8, 209), (203, 9, 210), (203, 10, 211), (203, 11, 212), (203, 12, 213), (214, 1, 215), (214, 3, 216), (214, 4, 217), (214, 5, 218), (214, 6, 219), (214, 7, 220), (203, 14, 214), (203, 15, 221), (203, 0, 4), (181, 1, 203), (222, 2, 223), (222, 3, 224), (222, 4, 225), (222, 6, 226), (222, 7, 227), (222, 8, 228), (222, 9, 229), (222, 10, 230), (222, 11, 231), (222, 12, 232), (233, 1, 234), (233, 3, 235), (233, 4, 236), (233, 5, 237), (233, 6, 238), (233, 7, 239), (222, 14, 233), (222, 15, 240), (222, 0, 4), (181, 2, 222), (241, 2, 242), (241, 3, 243), (241, 4, 244), (241, 6, 245), (241, 7, 246), (241, 8, 247), (241, 9, 248), (241, 10, 249), (241, 11, 250), (241, 12, 251), (252, 1, 253), (252, 3, 254), (252, 4, 255), (252, 5, 256), (252, 6, 257), (252, 7, 258), (241, 14, 252), (241, 15, 259), (241, 0, 4), (181, 3, 241), (260, 2, 261), (260, 3, 262), (260, 4, 263), (260, 6, 264), (260, 7, 265), (260, 8, 266), (260, 9, 267), (260, 10, 268), (260, 11, 269), (260, 12, 270), (271, 1, 272), (271, 3, 273), (271, 4, 274), (271, 5, 275), (271, 6, 276), (271, 7, 277), (260, 14, 271), (260, 15, 278), (260, 0, 4), (181, 4, 260), (279, 2, 280), (279, 3, 281), (279, 4, 282), (279, 6, 283), (279, 7, 284), (279, 8, 285), (279, 9, 286), (279, 10, 287), (279, 11, 288), (279, 12, 289), (290, 1, 291), (290, 3, 292), (290, 4, 293), (290, 5, 294), (290, 6, 295), (290, 7, 296), (279, 14, 290), (279, 15, 297), (279, 0, 4), (181, 5, 279), (298, 2, 299), (298, 3, 300), (298, 4, 301), (298, 6, 302), (298, 7, 303), (298, 8, 304), (298, 9, 305), (298, 10, 306), (298, 11, 307), (298, 12, 308), (309, 1, 310), (309, 3, 311), (309, 4, 312), (309, 5, 313), (309, 6, 314), (309, 7, 315), (298, 14, 309), (298, 15, 316), (298, 0, 4), (181, 6, 298), (317, 2, 318), (317, 3, 319), (317, 4, 320), (317, 6, 321), (317, 7, 322), (317, 8, 323), (317, 9, 324), (317, 10, 325), (317, 11, 326), (317, 12, 327), (328, 1, 329), (328, 3, 330), (328, 4, 331), (328, 5, 332), (328, 6, 333), (328, 7, 334), (317, 14, 328), (317, 15, 335), (317, 0, 4), (181, 7, 317), (336, 2, 337), (336, 3, 338), (336, 4, 339), (336, 6, 340), (336, 7, 341), (336, 8, 342), (336, 9, 343), (336, 10, 344), (336, 11, 345), (336, 12, 346), (347, 1, 348), (347, 3, 349), (347, 4, 350), (347, 5, 351), (347, 6, 352), (347, 7, 353), (336, 14, 347), (336, 15, 354), (336, 0, 4), (181, 8, 336), (355, 2, 356), (355, 3, 357), (355, 4, 358), (355, 6, 359), (355, 7, 360), (355, 8, 361), (355, 9, 362), (355, 10, 363), (355, 11, 364), (355, 12, 365), (366, 1, 367), (366, 3, 368), (366, 4, 369), (366, 5, 370), (366, 6, 371), (366, 7, 372), (355, 14, 366), (355, 15, 373), (355, 0, 4), (181, 9, 355), (374, 2, 375), (374, 3, 376), (374, 4, 377), (374, 6, 378), (374, 7, 379), (374, 8, 380), (374, 9, 381), (374, 10, 382), (374, 11, 383), (374, 12, 384), (385, 1, 386), (385, 3, 387), (385, 4, 388), (385, 5, 389), (385, 6, 390), (385, 7, 391), (374, 14, 385), (374, 15, 392), (374, 0, 4), (182, 0, 374), (393, 2, 394), (393, 3, 395), (393, 4, 396), (393, 6, 397), (393, 7, 398), (393, 8, 399), (393, 9, 400), (393, 10, 401), (393, 11, 402), (393, 12, 403), (404, 1, 405), (404, 3, 406), (404, 4, 407), (404, 5, 408), (404, 6, 409), (404, 7, 410), (393, 14, 404), (393, 15, 411), (393, 0, 4), (182, 1, 393), (1, 8, 180), (412, 1, 413), (412, 2, 414), (412, 3, 415), (412, 4, 416), (412, 5, 417), (412, 7, 418), (412, 12, 419), (412, 13, 420), (412, 14, 421), (412, 15, 422), (412, 16, 423), (412, 17, 424), (412, 18, 425), (412, 19, 426), (412, 20, 427), (412, 21, 428), (412, 22, 429), (412, 23, 430), (412, 24, 431), (412, 25, 432), (412, 26, 433), (412, 27, 434), (412, 28, 435), (412, 38, 436), (412, 44, 437), (412, 45, 438), (412, 46, 439), (412, 47, 440), (412, 48, 441), (412, 49, 442), (412, 50, 443), (412, 51, 444), (412, 52, 445), (412, 53, 446), (412, 54, 447), (412, 55, 448), (412, 56, 449), (412, 57, 450), (412, 58, 451), (412, 59, 452), (412, 60, 453), (412, 61, 454), (412, 62, 455), (412, 64, 456), (412, 65, 457), (412, 66, 458), (412, 67, 459), (412, 69, 460), (412, 70, 461)]
def SH (o : Nat) : Nat := (shT[o]?.getD (0, 0)).1
def LN (o : Nat) : Nat := (shT[o]?.getD (0, 0)).2
def RVl : List (Nat × Nat × Nat) → Nat → Nat → Nat
  | [] => fun _ _ => 0
  | q :: l => up2 (RVl l) q.1 q.2.1 q.2.2
def RVp (p : Nat) : Nat → Nat → Nat := RVl (ptT.take p).reverse
def SLn : Nat → Nat
  | 0 => 0
  | n + 1 => SLn n + LN n
/-- the heap behind n cells and p pointers -/
def Bh (n p : Nat) (f : Nat → Nat → Int32) : aH := (n, SLn n, (fun o => if o < n then SH o else 0), (fun o => if o < n then LN o else 0), f, (fun _ _ => 0), RVp p)
def B (n p : Nat) (f : Nat → Nat → Int32) (h : aH) : Prop := h = Bh n p f ∧ (∀ q ∈ ptT.take p, q.1 < n) ∧ ∀ o k, n ≤ o → f o k = 0
theorem rvl_0 {n k : Nat} : ∀ {l : List (Nat × Nat × Nat)}, (∀ q ∈ l, q.1 < n) → RVl l n k = 0
  | [], _ => rfl
  | q :: l, h => by
    show up2 (RVl l) q.1 q.2.1 q.2.2 n k = 0
    have := h q (List.mem_cons_self ..)
    rw [u2n (by omega)]
    exact rvl_0 (fun r hr => h r (List.mem_cons_of_mem _ hr))
section
variable {n p : Nat} {f : Nat → Nat → Int32} {h : aH} {α γ : Type}
theorem B.nx (b : B n p f h) : h_nx h = n := by rw [b.1]; rfl
theorem B.sh (b : B n p f h) {o s l : Nat} (e : shT[o]? = some (s, l)) (ho : o < n) : h_sh h o = s ∧ h_ln h o = l := by
  rw [b.1]
  have e1 : SH o = s := by unfold SH; rw [e]; rfl
  have e2 : LN o = l := by unfold LN; rw [e]; rfl
  exact ⟨(if_pos ho).trans e1, (if_pos ho).trans e2⟩
theorem B.new (b : B n p f h) {t l : Nat} (e : shT[n]? = some (t, l)) : B (n + 1) p f (h_new h t l) := by
  obtain ⟨b1, b2, b3⟩ := b
  have e1 : SH n = t := by unfold SH; rw [e]; rfl
  have e2 : LN n = l := by unfold LN; rw [e]; rfl
  refine ⟨?_, fun q hq => Nat.lt_succ_of_lt (b2 q hq), fun o k ho => b3 o k (by omega)⟩
  rw [b1]
  have q1 : up1 (fun o => if o < n then SH o else 0) n t = fun o => if o < n + 1 then SH o else 0 := funext fun o => by
    unfold up1
    by_cases c : o = n
    · rw [if_pos c, if_pos (by omega), c, e1]
    · rw [if_neg c]
      dsimp only
      by_cases c2 : o < n
      · rw [if_pos c2, if_pos (by omega)]
      · rw [if_neg c2, if_neg (by omega)]
  have q2 : up1 (fun o => if o < n then LN o else 0) n l = fun o => if o < n + 1 then LN o else 0 := funext fun o => by
    unfold up1
    by_cases c : o = n
    · rw [if_pos c, if_pos (by omega), c, e2]
    · rw [if_neg c]
      dsimp only
      by_cases c2 : o < n
      · rw [if_pos c2, if_pos (by omega)]
      · rw [if_neg c2, if_neg (by omega)]
  have q3 : up1 f n (fun _ => 0) = f := funext fun o => by
    unfold up1
    by_cases c : o = n
    · rw [if_pos c, c]; exact funext fun k => (b3 n k (Nat.le_refl _)).symm
    · rw [if_neg c]
  have q4 : up1 (fun (_ _ : Nat) => (0 : Int64)) n (fun _ => 0) = fun (_ _ : Nat) => (0 : Int64) := funext fun o => by
    by_cases c : o = n
    · exact if_pos c
    · exact if_neg c
  have q5 : up1 (RVp p) n (fun _ => 0) = RVp p := funext fun o => by
    unfold up1
    by_cases c : o = n
    · rw [if_pos c, c]; exact funext fun k => (rvl_0 (fun q hq => b2 q (List.mem_reverse.mp hq))).symm
    · rw [if_neg c]
  show (n + 1, SLn n + l, up1 (fun o => if o < n then SH o else 0) n t, up1 (fun o => if o < n then LN o else 0) n l, up1 f n (fun _ => 0), up1 (fun _ _ => (0 : Int64)) n (fun _ => 0), up1 (RVp p) n (fun _ => 0)) = Bh (n + 1) p f
  rw [q1, q2, q3, q4, q5, ← e2]
  rfl
theorem B.sr (b : B n p f h) {o k x : Nat} (e : ptT[p]? = some (o, k, x)) (ho : o < n) : B n (p + 1) f (h_sr h o k x) := by
  obtain ⟨b1, b2, b3⟩ := b
  have tk : ptT.take (p + 1) = ptT.take p ++ [(o, k, x)] := by rw [List.take_succ, e]; rfl
  refine ⟨?_, fun q hq => ?_, b3⟩
  · rw [b1]
    show (n, SLn n, (fun o => if o < n then SH o else 0), (fun o => if o < n then LN o else 0), f, (fun _ _ => (0 : Int64)), up2 (RVp p) o k x) = Bh n (p + 1) f
    have : RVp (p + 1) = up2 (RVp p) o k x := by
      unfold RVp
      rw [tk, List.reverse_append]
      rfl
    rw [← this]
    rfl
  · rw [tk] at hq
    rcases List.mem_append.mp hq with r | r
    · exact b2 q r
    · rw [List.mem_singleton.mp r]; exact ho
theorem B.si (b : B n p f h) {o k : Nat} {x : Int32} (ho : o < n) : B n p (up2 f o k x) (h_si h o k x) := by
  obtain ⟨b1, b2, b3⟩ := b
  refine ⟨by rw [b1]; rfl, b2, fun a j ha => ?_⟩
  rw [u2n (by omega)]; exact b3 a j ha
theorem s_new (b : B n p f h) {m t l : Nat} (e : shT[n]? = some (t, l)) (hm : m = n + 1) {K : Nat → aH → γ} (Z : γ → Prop) (hk : ∀ h', B m p f h' → Z (K n h')) : Z (bN h t l K) := by
  show Z (K (h_nx h) (h_new h t l))
  rw [b.nx]
  exact hk _ (by rw [hm]; exact b.new e)
theorem s_pr (b : B n p f h) {q c o k x s l : Nat} (e1 : shT[o]? = some (s, l)) (es : s = 10 + c) (ho : o < n) (e : ptT[p]? = some (o, k, x)) (hx : x ≠ 0) (hq : q = p + 1) {K : aH → Option γ} (Z : Option γ → Prop) (hk : ∀ h', B n q f h' → Z (K h')) : Z (bO (pr h c o k x) K) := by
  have : pr h c o k x = some (h_sr h o k x) := if_pos ⟨(b.sh e1 ho).1.trans es, hx⟩
  rw [this, bO_v]
  exact hk _ (by rw [hq]; exact b.sr e ho)
theorem s_asr (b : B n p f h) {q t c o i x l l2 s : Nat} (e1 : shT[o]? = some (t, l)) (ho : o < n) (hi : i < l) (hl : l < 1000) (e2 : shT[x]? = some (s, l2)) (es : s = 10 + c) (hx : x < n) (e : ptT[p]? = some (o, i, x)) (hq : q = p + 1) {K : aH → Option γ} (Z : Option γ → Prop) (hk : ∀ h', B n q f h' → Z (K h')) : Z (bO (asr h t c o (nI i) x) K) := by
  obtain ⟨a1, a2⟩ := b.sh e1 ho
  have : asr h t c o (nI i) x = some (h_sr h o i x) := by
    unfold asr
    rw [if_pos ⟨a1, by rw [nI_toInt (by omega)]; omega, by rw [nI_toInt (by omega), a2]; omega, (b.sh e2 hx).1.trans es⟩, nI_clamp (by omega)]
  rw [this, bO_v]
  exact hk _ (by rw [hq]; exact b.sr e ho)
theorem s_gr (b : B n p f h) {c o k x s l : Nat} (e1 : shT[o]? = some (s, l)) (es : s = 10 + c) (ho : o < n) (e : RVp p o k = x) (hx : x ≠ 0) {K : Nat → Option γ} (Z : Option γ → Prop) (hk : Z (K x)) : Z (bO (gr h c o k) K) := by
  have r : h_rv h o k = x := by rw [b.1]; exact e
  have : gr h c o k = some x := by
    unfold gr
    rw [if_pos ⟨(b.sh e1 ho).1.trans es, by rw [r]; exact hx⟩, r]
  rw [this, bO_v]
  exact hk
theorem s_pi (b : B n p f h) {c o k s l : Nat} {x : Int32} (e1 : shT[o]? = some (s, l)) (es : s = 10 + c) (ho : o < n) {K : aH → Option γ} (Z : Option γ → Prop) (hk : ∀ h', B n p (up2 f o k x) h' → Z (K h')) : Z (bO (pi h c o k x) K) := by
  have : pi h c o k x = some (h_si h o k x) := if_pos ((b.sh e1 ho).1.trans es)
  rw [this, bO_v]
  exact hk _ (b.si ho)
theorem s_asi (b : B n p f h) {o i l : Nat} {x : Int32} (e1 : shT[o]? = some (1, l)) (ho : o < n) (hi : i < l) (hl : l < 1000) {K : aH → Option γ} (Z : Option γ → Prop) (hk : ∀ h', B n p (up2 f o i x) h' → Z (K h')) : Z (bO (asi h o (nI i) x) K) := by
  obtain ⟨a1, a2⟩ := b.sh e1 ho
  have : asi h o (nI i) x = some (h_si h o i x) := by
    unfold asi
    rw [if_pos ⟨a1, by rw [nI_toInt (by omega)]; omega, by rw [nI_toInt (by omega), a2]; omega⟩, nI_clamp (by omega)]
  rw [this, bO_v]
  exact hk _ (b.si ho)
theorem s_bR {x : Option (α × aH)} {K0 : α → aH → Prop} (hx : OK x K0) {G : α → aH → Option γ} (Z : Option γ → Prop) (hk : ∀ r h', K0 r h' → Z (G r h')) : Z (bR x G) := by
  obtain ⟨r, h', e, k⟩ := hx
  rw [e, bR_v]
  exact hk r h' k
end
/-- the cells and pointers of a state -/
def XS0 (a p P : Nat) : Prop := shT[a]? = some (20, 16) ∧ shT[a + 1]? = some (1, 12) ∧ ptT[p + 0]? = some (a, 2, a + 1) ∧ shT[a + 2]? = some (1, 12) ∧ ptT[p + 1]? = some (a, 3, a + 2)
def XS1 (a p P : Nat) : Prop := shT[a + 3]? = some (1, 12) ∧ ptT[p + 2]? = some (a, 4, a + 3) ∧ shT[a + 4]? = some (1, 144) ∧ ptT[p + 3]? = some (a, 6, a + 4) ∧ shT[a + 5]? = some (1, 48)
def XS2 (a p P : Nat) : Prop := ptT[p + 4]? = some (a, 7, a + 5) ∧ shT[a + 6]? = some (1, 6) ∧ ptT[p + 5]? = some (a, 8, a + 6) ∧ shT[a + 7]? = some (1, 18) ∧ ptT[p + 6]? = some (a, 9, a + 7)
def XS3 (a p P : Nat) : Prop := shT[a + 8]? = some (1, 18) ∧ ptT[p + 7]? = some (a, 10, a + 8) ∧ shT[a + 9]? = some (1, 5) ∧ ptT[p + 8]? = some (a, 11, a + 9) ∧ shT[a + 10]? = some (1, 5)
def XS4 (a p P : Nat) : Prop := ptT[p + 9]? = some (a, 12, a + 10) ∧ shT[a + 11]? = some (10, 8) ∧ shT[a + 12]? = some (1, 16) ∧ ptT[p + 10]? = some (a + 11, 1, a + 12) ∧ shT[a + 13]? = some (1, 16)
def XS5 (a p P : Nat) : Prop := ptT[p + 11]? = some (a + 11, 3, a + 13) ∧ shT[a + 14]? = some (1, 16) ∧ ptT[p + 12]? = some (a + 11, 4, a + 14) ∧ shT[a + 15]? = some (1, 80) ∧ ptT[p + 13]? = some (a + 11, 5, a + 15)
def XS6 (a p P : Nat) : Prop := shT[a + 16]? = some (1, 80) ∧ ptT[p + 14]? = some (a + 11, 6, a + 16) ∧ shT[a + 17]? = some (1, 80) ∧ ptT[p + 15]? = some (a + 11, 7, a + 17) ∧ ptT[p + 16]? = some (a, 14, a + 11)
def XS7 (a p P : Nat) : Prop := shT[a + 18]? = some (1, 12) ∧ ptT[p + 17]? = some (a, 15, a + 18) ∧ ptT[p + 18]? = some (a, 0, P) ∧ P ≠ 0
def XS (a p P : Nat) : Prop := XS0 a p P ∧ XS1 a p P ∧ XS2 a p P ∧ XS3 a p P ∧ XS4 a p P ∧ XS5 a p P ∧ XS6 a p P ∧ XS7 a p P
section
variable {n p a P : Nat} {f : Nat → Nat → Int32} {h : aH}
theorem i_X0 (X : XS a p P) (b0 : B (a + 12) (p + 10) f h) : OK (m_X0_init (a + 11) h) (fun _ h1 => B (a + 18) (p + 16) f h1) := by
  unfold m_X0_init
  generalize hK : (fun (_ : Unit) (h1 : aH) => B (a + 18) (p + 16) f h1) = K
  refine s_new b0 X.2.2.2.2.1.2.2.1 (m := a + 13) rfl (fun o => OK o K) (fun h1 b1 => ?_)
  refine s_pr b1 X.2.2.2.2.1.2.1 rfl (by omega) X.2.2.2.2.1.2.2.2.1 (by omega) (q := p + 11) rfl (fun o => OK o K) (fun h2 b2 => ?_)
  refine s_new b2 X.2.2.2.2.1.2.2.2.2 (m := a + 14) rfl (fun o => OK o K) (fun h3 b3 => ?_)
  refine s_pr b3 X.2.2.2.2.1.2.1 rfl (by omega) X.2.2.2.2.2.1.1 (by omega) (q := p + 12) rfl (fun o => OK o K) (fun h4 b4 => ?_)
  refine s_new b4 X.2.2.2.2.2.1.2.1 (m := a + 15) rfl (fun o => OK o K) (fun h5 b5 => ?_)
  refine s_pr b5 X.2.2.2.2.1.2.1 rfl (by omega) X.2.2.2.2.2.1.2.2.1 (by omega) (q := p + 13) rfl (fun o => OK o K) (fun h6 b6 => ?_)
  refine s_new b6 X.2.2.2.2.2.1.2.2.2.1 (m := a + 16) rfl (fun o => OK o K) (fun h7 b7 => ?_)
  refine s_pr b7 X.2.2.2.2.1.2.1 rfl (by omega) X.2.2.2.2.2.1.2.2.2.2 (by omega) (q := p + 14) rfl (fun o => OK o K) (fun h8 b8 => ?_)
  refine s_new b8 X.2.2.2.2.2.2.1.1 (m := a + 17) rfl (fun o => OK o K) (fun h9 b9 => ?_)
  refine s_pr b9 X.2.2.2.2.1.2.1 rfl (by omega) X.2.2.2.2.2.2.1.2.1 (by omega) (q := p + 15) rfl (fun o => OK o K) (fun h10 b10 => ?_)
  refine s_new b10 X.2.2.2.2.2.2.1.2.2.1 (m := a + 18) rfl (fun o => OK o K) (fun h11 b11 => ?_)
  refine s_pr b11 X.2.2.2.2.1.2.1 rfl (by omega) X.2.2.2.2.2.2.1.2.2.2.1 (by omega) (q := p + 16) rfl (fun o => OK o K) (fun h12 b12 => ?_)
  rw [← hK]
  exact ok_ret b12
theorem i_X10 (X : XS a p P) (b0 : B (a + 1) p f h) : OK (m_X10_init a P h) (fun _ h1 => B (a + 19) (p + 19) f h1) := by
  unfold m_X10_init
  generalize hK : (fun (_ : Unit) (h1 : aH) => B (a + 19) (p + 19) f h1) = K
  refine s_new b0 X.1.2.1 (m := a + 2) rfl (fun o => OK o K) (fun h1 b1 => ?_)
  refine s_pr b1 X.1.1 rfl (by omega) X.1.2.2.1 (by omega) (q := p + 1) rfl (fun o => OK o K) (fun h2 b2 => ?_)
  refine s_new b2 X.1.2.2.2.1 (m := a + 3) rfl (fun o => OK o K) (fun h3 b3 => ?_)
  refine s_pr b3 X.1.1 rfl (by omega) X.1.2.2.2.2 (by omega) (q := p + 2) rfl (fun o => OK o K) (fun h4 b4 => ?_)
  refine s_new b4 X.2.1.1 (m := a + 4) rfl (fun o => OK o K) (fun h5 b5 => ?_)
  refine s_pr b5 X.1.1 rfl (by omega) X.2.1.2.1 (by omega) (q := p + 3) rfl (fun o => OK o K) (fun h6 b6 => ?_)
  refine s_new b6 X.2.1.2.2.1 (m := a + 5) rfl (fun o => OK o K) (fun h7 b7 => ?_)
  refine s_pr b7 X.1.1 rfl (by omega) X.2.1.2.2.2.1 (by omega) (q := p + 4) rfl (fun o => OK o K) (fun h8 b8 => ?_)
  refine s_new b8 X.2.1.2.2.2.2 (m := a + 6) rfl (fun o => OK o K) (fun h9 b9 => ?_)
  refine s_pr b9 X.1.1 rfl (by omega) X.2.2.1.1 (by omega) (q := p + 5) rfl (fun o => OK o K) (fun h10 b10 => ?_)
  refine s_new b10 X.2.2.1.2.1 (m := a + 7) rfl (fun o => OK o K) (fun h11 b11 => ?_)
  refine s_pr b11 X.1.1 rfl (by omega) X.2.2.1.2.2.1 (by omega) (q := p + 6) rfl (fun o => OK o K) (fun h12 b12 => ?_)
  refine s_new b12 X.2.2.1.2.2.2.1 (m := a + 8) rfl (fun o => OK o K) (fun h13 b13 => ?_)
  refine s_pr b13 X.1.1 rfl (by omega) X.2.2.1.2.2.2.2 (by omega) (q := p + 7) rfl (fun o => OK o K) (fun h14 b14 => ?_)
  refine s_new b14 X.2.2.2.1.1 (m := a + 9) rfl (fun o => OK o K) (fun h15 b15 => ?_)
  refine s_pr b15 X.1.1 rfl (by omega) X.2.2.2.1.2.1 (by omega) (q := p + 8) rfl (fun o => OK o K) (fun h16 b16 => ?_)
  refine s_new b16 X.2.2.2.1.2.2.1 (m := a + 10) rfl (fun o => OK o K) (fun h17 b17 => ?_)
  refine s_pr b17 X.1.1 rfl (by omega) X.2.2.2.1.2.2.2.1 (by omega) (q := p + 9) rfl (fun o => OK o K) (fun h18 b18 => ?_)
  refine s_new b18 X.2.2.2.1.2.2.2.2 (m := a + 11) rfl (fun o => OK o K) (fun h19 b19 => ?_)
  refine s_pr b19 X.1.1 rfl (by omega) X.2.2.2.2.1.1 (by omega) (q := p + 10) rfl (fun o => OK o K) (fun h20 b20 => ?_)
  refine s_new b20 X.2.2.2.2.1.2.1 (m := a + 12) rfl (fun o => OK o K) (fun h21 b21 => ?_)
  refine s_bR (i_X0 X b21) (fun o => OK o K) (fun _ h30 b30 => ?_)
  refine s_pr b30 X.1.1 rfl (by omega) X.2.2.2.2.2.2.1.2.2.2.2 (by omega) (q := p + 17) rfl (fun o => OK o K) (fun h31 b31 => ?_)
  refine s_new b31 X.2.2.2.2.2.2.2.1 (m := a + 19) rfl (fun o => OK o K) (fun h32 b32 => ?_)
  refine s_pr b32 X.1.1 rfl (by omega) X.2.2.2.2.2.2.2.2.1 (by omega) (q := p + 18) rfl (fun o => OK o K) (fun h33 b33 => ?_)
  refine s_pr b33 X.1.1 rfl (by omega) X.2.2.2.2.2.2.2.2.2.1 X.2.2.2.2.2.2.2.2.2.2 (q := p + 19) rfl (fun o => OK o K) (fun h34 b34 => ?_)
  rw [← hK]
  exact ok_ret b34
end
