/-! the constructors: what they make, step by step -/
def shT : List (Nat × Nat) := [(0, 0), (21, 9), (2, 1200), (19, 11), (18, 12), (15, 4), (6, 12), (1, 144), (7, 6), (8, 5), (9, 6), (1, 32), (17, 3), (17, 3), (17, 3), (17, 3), (17, 3), (17, 3), (17, 3), (17, 3), (17, 3), (17, 3), (17, 3), (17, 3), (16, 5), (1, 8), (16, 5), (1, 8), (16, 5), (1, 8), (16, 5), (1, 8), (16, 5), (1, 8), (16, 5), (1, 8), (11, 5), (1, 6), (1, 32), (11, 5), (1, 6), (1, 32), (11, 5), (1, 6), (1, 32), (11, 5), (1, 6), (1, 32), (11, 5), (1, 6), (1, 32), (13, 8), (1, 6), (1, 5), (13, 8), (1, 6), (1, 5), (13, 8), (1, 6), (1, 5), (13, 8), (1, 6), (1, 5), (13, 8), (1, 6), (1, 5), (13, 8), (1, 6), (1, 5), (18, 12), (15, 4), (6, 12), (1, 144), (7, 6), (8, 5), (9, 6), (1, 32), (17, 3), (17, 3), (17, 3), (17, 3), (17, 3), (17, 3), (17, 3), (17, 3), (17, 3), (17, 3), (17, 3), (17, 3), (16, 5), (1, 8), (16, 5), (1, 8), (16, 5), (1, 8), (16, 5), (1, 8), (16, 5), (1, 8), (16, 5), (1, 8), (11, 5), (1, 6), (1, 32), (11, 5), (1, 6), (1, 32), (11, 5), (1, 6), (1, 32), (11, 5), (1, 6), (1, 32), (11, 5), (1, 6), (1, 32), (13, 8), (1, 6), (1, 5), (13, 8), (1, 6), (1, 5), (13, 8), (1, 6), (1, 5), (13, 8), (1, 6), (1, 5), (13, 8), (1, 6), (1, 5), (13, 8), (1, 6), (1, 5), (20, 15), (1, 12), (1, 12), (1, 12), (1, 144), (1, 48), (1, 6), (1, 18), (1, 18), (1, 5), (1, 5), (10, 8), (1, 16), (1, 16), (1, 16), (1, 80), (1, 80), (1, 80), (20, 15), (1, 12), (1, 12), (1, 12), (1, 144), (1, 48), (1, 6), (1, 18), (1, 18), (1, 5), (1, 5), (10, 8), (1, 16), (1, 16), (1, 16), (1, 80), (1, 80), (1, 80), (14, 11), (1, 12), (1, 12), (1, 5), (1, 5), (1, 5), (1, 5), (1, 32), (12, 4), (5, 10), (5, 2), (3, 2), (20, 15), (1, 12), (1, 12), (1, 12), (1, 144), (1, 48), (1, 6), (1, 18), (1, 18), (1, 5), (1, 5), (10, 8), (1, 16), (1, 16), (1, 16), (1, 80), (1, 80), (1, 80), (20, 15), (1, 12), (1, 12), (1, 12), (1, 144), (1, 48), (1, 6), (1, 18), (1, 18), (1, 5), (1, 5), (10, 8), (1, 16), (1, 16), (1, 16), (1, 80), (1, 80), (1, 80), (20, 15), (1, 12), (1, 12), (1, 12), (1, 144), (1, 48), (1, 6), (1, 18), (1, 18), (1, 5), (1, 5), (10, 8), (1, 16), (1, 16), (1, 16), (1, 80), (1, 80), (1, 80), (20, 15), (1, 12), (1, 12), (1, 12), (1, 144), (1, 48), (1, 6), (1, 18), (1, 18), (1, 5), (1, 5), (10, 8), (1, 16), (1, 16), (1, 16), (1, 80), (1, 80), (1, 80), (20, 15), (1, 12), (1, 12), (1, 12), (1, 144), (1, 48), (1, 6), (1, 18), (1, 18), (1, 5), (1, 5), (10, 8), (1, 16), (1, 16), (1, 16), (1, 80), (1, 80), (1, 80), (20, 15), (1, 12), (1, 12), (1, 12), (1, 144), (1, 48), (1, 6), (1, 18), (1, 18), (1, 5), (1, 5), (10, 8), (1, 16), (1, 16), (1, 16), (1, 80), (1, 80), (1, 80), (20, 15), (1, 12), (1, 12), (1, 12), (1, 144), (1, 48), (1, 6), (1, 18), (1, 18), (1, 5), (1, 5), (10, 8), (1, 16), (1, 16), (1, 16), (1, 80), (1, 80), (1, 80), (20, 15), (1, 12), (1, 12), (1, 12), (1, 144), (1, 48), (1, 6), (1, 18), (1, 18), (1, 5), (1, 5), (10, 8), (1, 16), (1, 16), (1, 16), (1, 80), (1, 80), (1, 80), (20, 15), (1, 12), (1, 12), (1, 12), (1, 144), (1, 48), (1, 6), (1, 18), (1, 18), (1, 5), (1, 5), (10, 8), (1, 16), (1, 16), (1, 16), (1, 80), (1, 80), (1, 80), (20, 15), (1, 12), (1, 12), (1, 12), (1, 144), (1, 48), (1, 6), (1, 18), (1, 18), (1, 5), (1, 5), (10, 8), (1, 16), (1, 16), (1, 16), (1, 80), (1, 80), (1, 80), (20, 15), (1, 12), (1, 12), (1, 12), (1, 144), (1, 48), (1, 6), (1, 18), (1, 18), (1, 5), (1, 5), (10, 8), (1, 16), (1, 16), (1, 16), (1, 80), (1, 80), (1, 80), (20, 15), (1, 12), (1, 12), (1, 12), (1, 144), (1, 48), (1, 6), (1, 18), (1, 18), (1, 5), (1, 5), (10, 8), (1, 16), (1, 16), (1, 16), (1, 80), (1, 80), (1, 80), (22, 71), (1, 603), (1, 6030), (1, 1206), (1, 603), (3, 2), (1, 4), (4, 29), (1, 12), (1, 12), (1, 6), (1, 6), (1, 6), (1, 5), (1, 5), (1, 30), (1, 6), (1, 6), (1, 6), (1, 6), (1, 36), (1, 6), (1, 30), (1, 1200), (1, 4), (4, 29), (1, 12), (1, 12), (1, 144), (3, 144), (1, 6), (1, 6), (1, 6), (1, 48), (1, 5), (1, 5), (1, 30), (1, 6), (1, 6), (1, 6), (1, 6), (1, 36), (1, 6), (1, 30), (1, 5), (1, 5), (1, 5), (1, 5), (3, 4096), (3, 4096), (4, 1)]
def ptT : List (Nat × Nat × Nat) := [(1, 0, 2), (3, 0, 2), (1, 2, 3), (4, 0, 5), (4, 2, 6), (4, 4, 7), (4, 6, 8), (4, 8, 9), (4, 10, 10), (4, 11, 11), (6, 0, 12), (6, 1, 13), (6, 2, 14), (6, 3, 15), (6, 4, 16), (6, 5, 17), (6, 6, 18), (6, 7, 19), (6, 8, 20), (6, 9, 21), (6, 10, 22), (6, 11, 23), (24, 4, 25), (8, 0, 24), (26, 4, 27), (8, 1, 26), (28, 4, 29), (8, 2, 28), (30, 4, 31), (8, 3, 30), (32, 4, 33), (8, 4, 32), (34, 4, 35), (8, 5, 34), (36, 3, 37), (36, 4, 38), (9, 0, 36), (39, 3, 40), (39, 4, 41), (9, 1, 39), (42, 3, 43), (42, 4, 44), (9, 2, 42), (45, 3, 46), (45, 4, 47), (9, 3, 45), (48, 3, 49), (48, 4, 50), (9, 4, 48), (51, 5, 52), (51, 7, 53), (10, 0, 51), (54, 5, 55), (54, 7, 56), (10, 1, 54), (57, 5, 58), (57, 7, 59), (10, 2, 57), (60, 5, 61), (60, 7, 62), (10, 3, 60), (63, 5, 64), (63, 7, 65), (10, 4, 63), (66, 5, 67), (66, 7, 68), (10, 5, 66), (1, 3, 4), (69, 0, 70), (69, 2, 71), (69, 4, 72), (69, 6, 73), (69, 8, 74), (69, 10, 75), (69, 11, 76), (71, 0, 77), (71, 1, 78), (71, 2, 79), (71, 3, 80), (71, 4, 81), (71, 5, 82), (71, 6, 83), (71, 7, 84), (71, 8, 85), (71, 9, 86), (71, 10, 87), (71, 11, 88), (89, 4, 90), (73, 0, 89), (91, 4, 92), (73, 1, 91), (93, 4, 94), (73, 2, 93), (95, 4, 96), (73, 3, 95), (97, 4, 98), (73, 4, 97), (99, 4, 100), (73, 5, 99), (101, 3, 102), (101, 4, 103), (74, 0, 101), (104, 3, 105), (104, 4, 106), (74, 1, 104), (107, 3, 108), (107, 4, 109), (74, 2, 107), (110, 3, 111), (110, 4, 112), (74, 3, 110), (113, 3, 114), (113, 4, 115), (74, 4, 113), (116, 5, 117), (116, 7, 118), (75, 0, 116), (119, 5, 120), (119, 7, 121), (75, 1, 119), (122, 5, 123), (122, 7, 124), (75, 2, 122), (125, 5, 126), (125, 7, 127), (75, 3, 125), (128, 5, 129), (128, 7, 130), (75, 4, 128), (131, 5, 132), (131, 7, 133), (75, 5, 131), (1, 4, 69), (134, 2, 135), (134, 3, 136), (134, 4, 137), (134, 6, 138), (134, 7, 139), (134, 8, 140), (134, 9, 141), (134, 10, 142), (134, 11, 143), (134, 12, 144), (145, 1, 146), (145, 3, 147), (145, 4, 148), (145, 5, 149), (145, 6, 150), (145, 7, 151), (134, 14, 145), (134, 0, 4), (1, 5, 134), (152, 2, 153), (152, 3, 154), (152, 4, 155), (152, 6, 156), (152, 7, 157), (152, 8, 158), (152, 9, 159), (152, 10, 160), (152, 11, 161), (152, 12, 162), (163, 1, 164), (163, 3, 165), (163, 4, 166), (163, 5, 167), (163, 6, 168), (163, 7, 169), (152, 14, 163), (152, 0, 4), (1, 6, 152), (170, 2, 171), (170, 3, 172), (170, 6, 173), (170, 7, 174), (170, 8, 175), (170, 9, 176), (170, 10, 177), (170, 0, 134), (170, 1, 4), (1, 7, 170), (178, 1, 179), (178, 2, 180), (178, 3, 181), (182, 2, 183), (182, 3, 184), (182, 4, 185), (182, 6, 186), (182, 7, 187), (182, 8, 188), (182, 9, 189), (182, 10, 190), (182, 11, 191), (182, 12, 192), (193, 1, 194), (193, 3, 195), (193, 4, 196), (193, 5, 197), (193, 6, 198), (193, 7, 199), (182, 14, 193), (182, 0, 4), (179, 0, 182), (200, 2, 201), (200, 3, 202), (200, 4, 203), (200, 6, 204), (200, 7, 205), (200, 8, 206), (200, 9, 207), (200, 10, 208), (200, 11, 209), (200, 12, 210), (211, 1, 212), (211, 3, 213), (211, 4, 214), (211, 5, 215), (211, 6, 216), (211, 7, 217), (200, 14, 211), (200, 0, 4), (179, 1, 200), (218, 2, 219), (218, 3, 220), (218, 4, 221), (218, 6, 222), (218, 7, 223), (218, 8, 224), (218, 9, 225), (218, 10, 226), (218, 11, 227), (218, 12, 228), (229, 1, 230), (229, 3, 231), (229, 4, 232), (229, 5, 233), (229, 6, 234), (229, 7, 235), (218, 14, 229), (218, 0, 4), (179, 2, 218), (236, 2, 237), (236, 3, 238), (236, 4, 239), (236, 6, 240), (236, 7, 241), (236, 8, 242), (236, 9, 243), (236, 10, 244), (236, 11, 245), (236, 12, 246), (247, 1, 248), (247, 3, 249), (247, 4, 250), (247, 5, 251), (247, 6, 252), (247, 7, 253), (236, 14, 247), (236, 0, 4), (179, 3, 236), (254, 2, 255), (254, 3, 256), (254, 4, 257), (254, 6, 258), (254, 7, 259), (254, 8, 260), (254, 9, 261), (254, 10, 262), (254, 11, 263), (254, 12, 264), (265, 1, 266), (265, 3, 267), (265, 4, 268), (265, 5, 269), (265, 6, 270), (265, 7, 271), (254, 14, 265), (254, 0, 4), (179, 4, 254), (272, 2, 273), (272, 3, 274), (272, 4, 275), (272, 6, 276), (272, 7, 277), (272, 8, 278), (272, 9, 279), (272, 10, 280), (272, 11, 281), (272, 12, 282), (283, 1, 284), (283, 3, 285), (283, 4, 286), (283, 5, 287), (283, 6, 288), (283, 7, 289), (272, 14, 283), (272, 0, 4), (179, 5, 272), (290, 2, 291), (290, 3, 292), (290, 4, 293), (290, 6, 294), (290, 7, 295), (290, 8, 296), (290, 9, 297), (290, 10, 298), (290, 11, 299), (290, 12, 300), (301, 1, 302), (301, 3, 303), (301, 4, 304), (301, 5, 305), (301, 6, 306), (301, 7, 307), (290, 14, 301), (290, 0, 4), (179, 6, 290), (308, 2, 309), (308, 3, 310), (308, 4, 311), (308, 6, 312), (308, 7, 313), (308, 8, 314), (308, 9, 315), (308, 10, 316), (308, 11, 317), (308, 12, 318), (319, 1, 320), (319, 3, 321), (319, 4, 322), (319, 5, 323), (319, 6, 324), (319, 7, 325), (308, 14, 319), (308, 0, 4), (179, 7, 308), (326, 2, 327), (326, 3, 328), (326, 4, 329), (326, 6, 330), (326, 7, 331), (326, 8, 332), (326, 9, 333), (326, 10, 334), (326, 11, 335), (326, 12, 336), (337, 1, 338), (337, 3, 339), (337, 4, 340), (337, 5, 341), (337, 6, 342), (337, 7, 343), (326, 14, 337), (326, 0, 4), (179, 8, 326), (344, 2, 345), (344, 3, 346), (344, 4, 347), (344, 6, 348), (344, 7, 349), (344, 8, 350), (344, 9, 351), (344, 10, 352), (344, 11, 353), (344, 12, 354), (355, 1, 356), (355, 3, 357), (355, 4, 358), (355, 5, 359), (355, 6, 360), (355, 7, 361), (344, 14, 355), (344, 0, 4), (179, 9, 344), (362, 2, 363), (362, 3, 364), (362, 4, 365), (362, 6, 366), (362, 7, 367), (362, 8, 368), (362, 9, 369), (362, 10, 370), (362, 11, 371), (362, 12, 372), (373, 1, 374), (373, 3, 375), (373, 4, 376), (373, 5, 377), (373, 6, 378), (373, 7, 379), (362, 14, 373), (362, 0, 4), (180, 0, 362), (380, 2, 381), (380, 3, 382), (380, 4, 383), (380, 6, 384), (380, 7, 385), (380, 8, 386), (380, 9, 387), (380, 10, 388), (380, 11, 389), (380, 12, 390), (391, 1, 392), (391, 3, 393), (391, 4, 394), (391, 5, 395), (391, 6, 396), (391, 7, 397), (380, 14, 391), (380, 0, 4), (180, 1, 380), (1, 8, 178), (398, 1, 399), (398, 2, 400), (398, 3, 401), (398, 4, 402), (398, 5, 403), (398, 7, 404), (398, 12, 405), (398, 13, 406), (398, 14, 407), (398, 15, 408), (398, 16, 409), (398, 17, 410), (398, 18, 411), (398, 19, 412), (398, 20, 413), (398, 21, 414), (398, 22, 415), (398, 23, 416), (398, 24, 417), (398, 25, 418), (398, 26, 419), (398, 27, 420), (398, 28, 421), (398, 38, 422), (398, 44, 423), (398, 45, 424), (398, 46, 425), (398, 47, 426), (398, 48, 427), (398, 49, 428), (398, 50, 429), (398, 51, 430), (398, 52, 431), (398, 53, 432), (398, 54, 433), (398, 55, 434), (398, 56, 435), (398, 57, 436), (398, 58, 437), (398, 59, 438), (398, 60, 439), (398, 61, 440), (398, 62, 441), (398, 64, 442), (398, 65, 443), (398, 66, 444), (398, 67, 445), (398, 69, 446), (398, 70, 447)]
def SH (o : Nat) : Nat := (shT[o]?.getD (0, 0)).1
def LN (o : Nat) : Nat := (shT[o]?.getD (0, 0)).2
def RVl : List (Nat × Nat × Nat) → Nat → Nat → Nat
  | [] => fun _ _ => 0
  | q :: l => up2 (RVl l) q.1 q.2.1 q.2.2
def RVp (p : Nat) : Nat → Nat → Nat := RVl (ptT.take p).reverse
def SLn : Nat → Nat
  | 0 => 0
  | n + 1 => SLn n + LN n
/-- the heap behind n cells and p pointers -/
def Bh (n p : Nat) (f : Nat → Nat → Int32) : aH := (n, SLn n, (fun o => if o < n then SH o else 0), (fun o => if o < n then LN o else 0), f, (fun _ _ => 0), RVp p)
def B (n p : Nat) (f : Nat → Nat → Int32) (h : aH) : Prop := h = Bh n p f ∧ (∀ q ∈ ptT.take p, q.1 < n) ∧ ∀ o k, n ≤ o → f o k = 0
theorem rvl_0 {n k : Nat} : ∀ {l : List (Nat × Nat × Nat)}, (∀ q ∈ l, q.1 < n) → RVl l n k = 0
  | [], _ => rfl
  | q :: l, h => by
    show up2 (RVl l) q.1 q.2.1 q.2.2 n k = 0
    have := h q (List.mem_cons_self ..)
    rw [u2n (by omega)]
    exact rvl_0 (fun r hr => h r (List.mem_cons_of_mem _ hr))
section
variable {n p : Nat} {f : Nat → Nat → Int32} {h : aH} {α γ : Type}
theorem B.nx (b : B n p f h) : h_nx h = n := by rw [b.1]; rfl
theorem B.sh (b : B n p f h) {o s l : Nat} (e : shT[o]? = some (s, l)) (ho : o < n) : h_sh h o = s ∧ h_ln h o = l := by
  rw [b.1]
  have e1 : SH o = s := by unfold SH; rw [e]; rfl
  have e2 : LN o = l := by unfold LN; rw [e]; rfl
  exact ⟨(if_pos ho).trans e1, (if_pos ho).trans e2⟩
theorem B.new (b : B n p f h) {t l : Nat} (e : shT[n]? = some (t, l)) : B (n + 1) p f (h_new h t l) := by
  obtain ⟨b1, b2, b3⟩ := b
  have e1 : SH n = t := by unfold SH; rw [e]; rfl
  have e2 : LN n = l := by unfold LN; rw [e]; rfl
  refine ⟨?_, fun q hq => Nat.lt_succ_of_lt (b2 q hq), fun o k ho => b3 o k (by omega)⟩
  rw [b1]
  have q1 : up1 (fun o => if o < n then SH o else 0) n t = fun o => if o < n + 1 then SH o else 0 := funext fun o => by
    unfold up1
    by_cases c : o = n
    · rw [if_pos c, if_pos (by omega), c, e1]
    · rw [if_neg c]
      dsimp only
      by_cases c2 : o < n
      · rw [if_pos c2, if_pos (by omega)]
      · rw [if_neg c2, if_neg (by omega)]
  have q2 : up1 (fun o => if o < n then LN o else 0) n l = fun o => if o < n + 1 then LN o else 0 := funext fun o => by
    unfold up1
    by_cases c : o = n
    · rw [if_pos c, if_pos (by omega), c, e2]
    · rw [if_neg c]
      dsimp only
      by_cases c2 : o < n
      · rw [if_pos c2, if_pos (by omega)]
      · rw [if_neg c2, if_neg (by omega)]
  have q3 : up1 f n (fun _ => 0) = f := funext fun o => by
    unfold up1
    by_cases c : o = n
    · rw [if_pos c, c]; exact funext fun k => (b3 n k (Nat.le_refl _)).symm
    · rw [if_neg c]
  have q4 : up1 (fun (_ _ : Nat) => (0 : Int64)) n (fun _ => 0) = fun (_ _ : Nat) => (0 : Int64) := funext fun o => by
    by_cases c : o = n
    · exact if_pos c
    · exact if_neg c
  have q5 : up1 (RVp p) n (fun _ => 0) = RVp p := funext fun o => by
    unfold up1
    by_cases c : o = n
    · rw [if_pos c, c]; exact funext fun k => (rvl_0 (fun q hq => b2 q (List.mem_reverse.mp hq))).symm
    · rw [if_neg c]
  show (n + 1, SLn n + l, up1 (fun o => if o < n then SH o else 0) n t, up1 (fun o => if o < n then LN o else 0) n l, up1 f n (fun _ => 0), up1 (fun _ _ => (0 : Int64)) n (fun _ => 0), up1 (RVp p) n (fun _ => 0)) = Bh (n + 1) p f
  rw [q1, q2, q3, q4, q5, ← e2]
  rfl
theorem B.sr (b : B n p f h) {o k x : Nat} (e : ptT[p]? = some (o, k, x)) (ho : o < n) : B n (p + 1) f (h_sr h o k x) := by
  obtain ⟨b1, b2, b3⟩ := b
  have tk : ptT.take (p + 1) = ptT.take p ++ [(o, k, x)] := by rw [List.take_succ, e]; rfl
  refine ⟨?_, fun q hq => ?_, b3⟩
  · rw [b1]
    show (n, SLn n, (fun o => if o < n then SH o else 0), (fun o => if o < n then LN o else 0), f, (fun _ _ => (0 : Int64)), up2 (RVp p) o k x) = Bh n (p + 1) f
    have : RVp (p + 1) = up2 (RVp p) o k x := by
      unfold RVp
      rw [tk, List.reverse_append]
      rfl
    rw [← this]
    rfl
  · rw [tk] at hq
    rcases List.mem_append.mp hq with r | r
    · exact b2 q r
    · rw [List.mem_singleton.mp r]; exact ho
theorem B.si (b : B n p f h) {o k : Nat} {x : Int32} (ho : o < n) : B n p (up2 f o k x) (h_si h o k x) := by
  obtain ⟨b1, b2, b3⟩ := b
  refine ⟨by rw [b1]; rfl, b2, fun a j ha => ?_⟩
  rw [u2n (by omega)]; exact b3 a j ha
theorem s_new (b : B n p f h) {m t l : Nat} (e : shT[n]? = some (t, l)) (hm : m = n + 1) {K : Nat → aH → γ} (Z : γ → Prop) (hk : ∀ h', B m p f h' → Z (K n h')) : Z (bN h t l K) := by
  show Z (K (h_nx h) (h_new h t l))
  rw [b.nx]
  exact hk _ (by rw [hm]; exact b.new e)
theorem s_pr (b : B n p f h) {q c o k x s l : Nat} (e1 : shT[o]? = some (s, l)) (es : s = 10 + c) (ho : o < n) (e : ptT[p]? = some (o, k, x)) (hx : x ≠ 0) (hq : q = p + 1) {K : aH → Option γ} (Z : Option γ → Prop) (hk : ∀ h', B n q f h' → Z (K h')) : Z (bO (pr h c o k x) K) := by
  have : pr h c o k x = some (h_sr h o k x) := if_pos ⟨(b.sh e1 ho).1.trans es, hx⟩
  rw [this, bO_v]
  exact hk _ (by rw [hq]; exact b.sr e ho)
theorem s_asr (b : B n p f h) {q t c o i x l l2 s : Nat} (e1 : shT[o]? = some (t, l)) (ho : o < n) (hi : i < l) (hl : l < 1000) (e2 : shT[x]? = some (s, l2)) (es : s = 10 + c) (hx : x < n) (e : ptT[p]? = some (o, i, x)) (hq : q = p + 1) {K : aH → Option γ} (Z : Option γ → Prop) (hk : ∀ h', B n q f h' → Z (K h')) : Z (bO (asr h t c o (nI i) x) K) := by
  obtain ⟨a1, a2⟩ := b.sh e1 ho
  have : asr h t c o (nI i) x = some (h_sr h o i x) := by
    unfold asr
    rw [if_pos ⟨a1, by rw [nI_toInt (by omega)]; omega, by rw [nI_toInt (by omega), a2]; omega, (b.sh e2 hx).1.trans es⟩, nI_clamp (by omega)]
  rw [this, bO_v]
  exact hk _ (by rw [hq]; exact b.sr e ho)
theorem s_gr (b : B n p f h) {c o k x s l : Nat} (e1 : shT[o]? = some (s, l)) (es : s = 10 + c) (ho : o < n) (e : RVp p o k = x) (hx : x ≠ 0) {K : Nat → Option γ} (Z : Option γ → Prop) (hk : Z (K x)) : Z (bO (gr h c o k) K) := by
  have r : h_rv h o k = x := by rw [b.1]; exact e
  have : gr h c o k = some x := by
    unfold gr
    rw [if_pos ⟨(b.sh e1 ho).1.trans es, by rw [r]; exact hx⟩, r]
  rw [this, bO_v]
  exact hk
theorem s_pi (b : B n p f h) {c o k s l : Nat} {x : Int32} (e1 : shT[o]? = some (s, l)) (es : s = 10 + c) (ho : o < n) {K : aH → Option γ} (Z : Option γ → Prop) (hk : ∀ h', B n p (up2 f o k x) h' → Z (K h')) : Z (bO (pi h c o k x) K) := by
  have : pi h c o k x = some (h_si h o k x) := if_pos ((b.sh e1 ho).1.trans es)
  rw [this, bO_v]
  exact hk _ (b.si ho)
theorem s_asi (b : B n p f h) {o i l : Nat} {x : Int32} (e1 : shT[o]? = some (1, l)) (ho : o < n) (hi : i < l) (hl : l < 1000) {K : aH → Option γ} (Z : Option γ → Prop) (hk : ∀ h', B n p (up2 f o i x) h' → Z (K h')) : Z (bO (asi h o (nI i) x) K) := by
  obtain ⟨a1, a2⟩ := b.sh e1 ho
  have : asi h o (nI i) x = some (h_si h o i x) := by
    unfold asi
    rw [if_pos ⟨a1, by rw [nI_toInt (by omega)]; omega, by rw [nI_toInt (by omega), a2]; omega⟩, nI_clamp (by omega)]
  rw [this, bO_v]
  exact hk _ (b.si ho)
theorem s_bR {x : Option (α × aH)} {K0 : α → aH → Prop} (hx : OK x K0) {G : α → aH → Option γ} (Z : Option γ → Prop) (hk : ∀ r h', K0 r h' → Z (G r h')) : Z (bR x G) := by
  obtain ⟨r, h', e, k⟩ := hx
  rw [e, bR_v]
  exact hk r h' k
end
/-- the cells and pointers of a state -/
def XS0 (a p P : Nat) : Prop := shT[a]? = some (20, 15) ∧ shT[a + 1]? = some (1, 12) ∧ ptT[p + 0]? = some (a, 2, a + 1) ∧ shT[a + 2]? = some (1, 12) ∧ ptT[p + 1]? = some (a, 3, a + 2)
def XS1 (a p P : Nat) : Prop := shT[a + 3]? = some (1, 12) ∧ ptT[p + 2]? = some (a, 4, a + 3) ∧ shT[a + 4]? = some (1, 144) ∧ ptT[p + 3]? = some (a, 6, a + 4) ∧ shT[a + 5]? = some (1, 48)
def XS2 (a p P : Nat) : Prop := ptT[p + 4]? = some (a, 7, a + 5) ∧ shT[a + 6]? = some (1, 6) ∧ ptT[p + 5]? = some (a, 8, a + 6) ∧ shT[a + 7]? = some (1, 18) ∧ ptT[p + 6]? = some (a, 9, a + 7)
def XS3 (a p P : Nat) : Prop := shT[a + 8]? = some (1, 18) ∧ ptT[p + 7]? = some (a, 10, a + 8) ∧ shT[a + 9]? = some (1, 5) ∧ ptT[p + 8]? = some (a, 11, a + 9) ∧ shT[a + 10]? = some (1, 5)
def XS4 (a p P : Nat) : Prop := ptT[p + 9]? = some (a, 12, a + 10) ∧ shT[a + 11]? = some (10, 8) ∧ shT[a + 12]? = some (1, 16) ∧ ptT[p + 10]? = some (a + 11, 1, a + 12) ∧ shT[a + 13]? = some (1, 16)
def XS5 (a p P : Nat) : Prop := ptT[p + 11]? = some (a + 11, 3, a + 13) ∧ shT[a + 14]? = some (1, 16) ∧ ptT[p + 12]? = some (a + 11, 4, a + 14) ∧ shT[a + 15]? = some (1, 80) ∧ ptT[p + 13]? = some (a + 11, 5, a + 15)
def XS6 (a p P : Nat) : Prop := shT[a + 16]? = some (1, 80) ∧ ptT[p + 14]? = some (a + 11, 6, a + 16) ∧ shT[a + 17]? = some (1, 80) ∧ ptT[p + 15]? = some (a + 11, 7, a + 17) ∧ ptT[p + 16]? = some (a, 14, a + 11) ∧ ptT[p + 17]? = some (a, 0, P) ∧ P ≠ 0
def XS (a p P : Nat) : Prop := XS0 a p P ∧ XS1 a p P ∧ XS2 a p P ∧ XS3 a p P ∧ XS4 a p P ∧ XS5 a p P ∧ XS6 a p P
section
variable {n p a P : Nat} {f : Nat → Nat → Int32} {h : aH}
theorem i_X0 (X : XS a p P) (b0 : B (a + 12) (p + 10) f h) : OK (m_X0_init (a + 11) h) (fun _ h1 => B (a + 18) (p + 16) f h1) := by
  unfold m_X0_init
  generalize hK : (fun (_ : Unit) (h1 : aH) => B (a + 18) (p + 16) f h1) = K
  refine s_new b0 X.2.2.2.2.1.2.2.1 (m := a + 13) rfl (fun o => OK o K) (fun h1 b1 => ?_)
  refine s_pr b1 X.2.2.2.2.1.2.1 rfl (by omega) X.2.2.2.2.1.2.2.2.1 (by omega) (q := p + 11) rfl (fun o => OK o K) (fun h2 b2 => ?_)
  refine s_new b2 X.2.2.2.2.1.2.2.2.2 (m := a + 14) rfl (fun o => OK o K) (fun h3 b3 => ?_)
  refine s_pr b3 X.2.2.2.2.1.2.1 rfl (by omega) X.2.2.2.2.2.1.1 (by omega) (q := p + 12) rfl (fun o => OK o K) (fun h4 b4 => ?_)
  refine s_new b4 X.2.2.2.2.2.1.2.1 (m := a + 15) rfl (fun o => OK o K) (fun h5 b5 => ?_)
  refine s_pr b5 X.2.2.2.2.1.2.1 rfl (by omega) X.2.2.2.2.2.1.2.2.1 (by omega) (q := p + 13) rfl (fun o => OK o K) (fun h6 b6 => ?_)
  refine s_new b6 X.2.2.2.2.2.1.2.2.2.1 (m := a + 16) rfl (fun o => OK o K) (fun h7 b7 => ?_)
  refine s_pr b7 X.2.2.2.2.1.2.1 rfl (by omega) X.2.2.2.2.2.1.2.2.2.2 (by omega) (q := p + 14) rfl (fun o => OK o K) (fun h8 b8 => ?_)
  refine s_new b8 X.2.2.2.2.2.2.1 (m := a + 17) rfl (fun o => OK o K) (fun h9 b9 => ?_)
  refine s_pr b9 X.2.2.2.2.1.2.1 rfl (by omega) X.2.2.2.2.2.2.2.1 (by omega) (q := p + 15) rfl (fun o => OK o K) (fun h10 b10 => ?_)
  refine s_new b10 X.2.2.2.2.2.2.2.2.1 (m := a + 18) rfl (fun o => OK o K) (fun h11 b11 => ?_)
  refine s_pr b11 X.2.2.2.2.1.2.1 rfl (by omega) X.2.2.2.2.2.2.2.2.2.1 (by omega) (q := p + 16) rfl (fun o => OK o K) (fun h12 b12 => ?_)
  rw [← hK]
  exact ok_ret b12
theorem i_X10 (X : XS a p P) (b0 : B (a + 1) p f h) : OK (m_X10_init a P h) (fun _ h1 => B (a + 18) (p + 18) f h1) := by
  unfold m_X10_init
  generalize hK : (fun (_ : Unit) (h1 : aH) => B (a + 18) (p + 18) f h1) = K
  refine s_new b0 X.1.2.1 (m := a + 2) rfl (fun o => OK o K) (fun h1 b1 => ?_)
  refine s_pr b1 X.1.1 rfl (by omega) X.1.2.2.1 (by omega) (q := p + 1) rfl (fun o => OK o K) (fun h2 b2 => ?_)
  refine s_new b2 X.1.2.2.2.1 (m := a + 3) rfl (fun o => OK o K) (fun h3 b3 => ?_)
  refine s_pr b3 X.1.1 rfl (by omega) X.1.2.2.2.2 (by omega) (q := p + 2) rfl (fun o => OK o K) (fun h4 b4 => ?_)
  refine s_new b4 X.2.1.1 (m := a + 4) rfl (fun o => OK o K) (fun h5 b5 => ?_)
  refine s_pr b5 X.1.1 rfl (by omega) X.2.1.2.1 (by omega) (q := p + 3) rfl (fun o => OK o K) (fun h6 b6 => ?_)
  refine s_new b6 X.2.1.2.2.1 (m := a + 5) rfl (fun o => OK o K) (fun h7 b7 => ?_)
  refine s_pr b7 X.1.1 rfl (by omega) X.2.1.2.2.2.1 (by omega) (q := p + 4) rfl (fun o => OK o K) (fun h8 b8 => ?_)
  refine s_new b8 X.2.1.2.2.2.2 (m := a + 6) rfl (fun o => OK o K) (fun h9 b9 => ?_)
  refine s_pr b9 X.1.1 rfl (by omega) X.2.2.1.1 (by omega) (q := p + 5) rfl (fun o => OK o K) (fun h10 b10 => ?_)
  refine s_new b10 X.2.2.1.2.1 (m := a + 7) rfl (fun o => OK o K) (fun h11 b11 => ?_)
  refine s_pr b11 X.1.1 rfl (by omega) X.2.2.1.2.2.1 (by omega) (q := p + 6) rfl (fun o => OK o K) (fun h12 b12 => ?_)
  refine s_new b12 X.2.2.1.2.2.2.1 (m := a + 8) rfl (fun o => OK o K) (fun h13 b13 => ?_)
  refine s_pr b13 X.1.1 rfl (by omega) X.2.2.1.2.2.2.2 (by omega) (q := p + 7) rfl (fun o => OK o K) (fun h14 b14 => ?_)
  refine s_new b14 X.2.2.2.1.1 (m := a + 9) rfl (fun o => OK o K) (fun h15 b15 => ?_)
  refine s_pr b15 X.1.1 rfl (by omega) X.2.2.2.1.2.1 (by omega) (q := p + 8) rfl (fun o => OK o K) (fun h16 b16 => ?_)
  refine s_new b16 X.2.2.2.1.2.2.1 (m := a + 10) rfl (fun o => OK o K) (fun h17 b17 => ?_)
  refine s_pr b17 X.1.1 rfl (by omega) X.2.2.2.1.2.2.2.1 (by omega) (q := p + 9) rfl (fun o => OK o K) (fun h18 b18 => ?_)
  refine s_new b18 X.2.2.2.1.2.2.2.2 (m := a + 11) rfl (fun o => OK o K) (fun h19 b19 => ?_)
  refine s_pr b19 X.1.1 rfl (by omega) X.2.2.2.2.1.1 (by omega) (q := p + 10) rfl (fun o => OK o K) (fun h20 b20 => ?_)
  refine s_new b20 X.2.2.2.2.1.2.1 (m := a + 12) rfl (fun o => OK o K) (fun h21 b21 => ?_)
  refine s_bR (i_X0 X b21) (fun o => OK o K) (fun _ h30 b30 => ?_)
  refine s_pr b30 X.1.1 rfl (by omega) X.2.2.2.2.2.2.2.2.2.2.1 (by omega) (q := p + 17) rfl (fun o => OK o K) (fun h31 b31 => ?_)
  refine s_pr b31 X.1.1 rfl (by omega) X.2.2.2.2.2.2.2.2.2.2.2.1 X.2.2.2.2.2.2.2.2.2.2.2.2 (q := p + 18) rfl (fun o => OK o K) (fun h32 b32 => ?_)
  rw [← hK]
  exact ok_ret b32
end
