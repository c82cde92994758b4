/-! where the objects lie, and of what shape they are -/
def shL : List (Nat × Nat × Nat) := [(1, 21, 0), (2, 2, 1200), (3, 19, 0), (4, 18, 0), (5, 15, 0), (6, 6, 12), (7, 1, 144), (8, 7, 6), (9, 8, 5), (10, 9, 6), (11, 1, 32), (12, 17, 0), (13, 17, 0), (14, 17, 0), (15, 17, 0), (16, 17, 0), (17, 17, 0), (18, 17, 0), (19, 17, 0), (20, 17, 0), (21, 17, 0), (22, 17, 0), (23, 17, 0), (24, 16, 0), (25, 1, 8), (26, 16, 0), (27, 1, 8), (28, 16, 0), (29, 1, 8), (30, 16, 0), (31, 1, 8), (32, 16, 0), (33, 1, 8), (34, 16, 0), (35, 1, 8), (36, 11, 0), (37, 1, 6), (38, 1, 32), (39, 11, 0), (40, 1, 6), (41, 1, 32), (42, 11, 0), (43, 1, 6), (44, 1, 32), (45, 11, 0), (46, 1, 6), (47, 1, 32), (48, 11, 0), (49, 1, 6), (50, 1, 32), (51, 13, 0), (52, 1, 6), (53, 1, 5), (54, 13, 0), (55, 1, 6), (56, 1, 5), (57, 13, 0), (58, 1, 6), (59, 1, 5), (60, 13, 0), (61, 1, 6), (62, 1, 5), (63, 13, 0), (64, 1, 6), (65, 1, 5), (66, 13, 0), (67, 1, 6), (68, 1, 5), (69, 18, 0), (70, 15, 0), (71, 6, 12), (72, 1, 144), (73, 7, 6), (74, 8, 5), (75, 9, 6), (76, 1, 32), (77, 17, 0), (78, 17, 0), (79, 17, 0), (80, 17, 0), (81, 17, 0), (82, 17, 0), (83, 17, 0), (84, 17, 0), (85, 17, 0), (86, 17, 0), (87, 17, 0), (88, 17, 0), (89, 16, 0), (90, 1, 8), (91, 16, 0), (92, 1, 8), (93, 16, 0), (94, 1, 8), (95, 16, 0), (96, 1, 8), (97, 16, 0), (98, 1, 8), (99, 16, 0), (100, 1, 8), (101, 11, 0), (102, 1, 6), (103, 1, 32), (104, 11, 0), (105, 1, 6), (106, 1, 32), (107, 11, 0), (108, 1, 6), (109, 1, 32), (110, 11, 0), (111, 1, 6), (112, 1, 32), (113, 11, 0), (114, 1, 6), (115, 1, 32), (116, 13, 0), (117, 1, 6), (118, 1, 5), (119, 13, 0), (120, 1, 6), (121, 1, 5), (122, 13, 0), (123, 1, 6), (124, 1, 5), (125, 13, 0), (126, 1, 6), (127, 1, 5), (128, 13, 0), (129, 1, 6), (130, 1, 5), (131, 13, 0), (132, 1, 6), (133, 1, 5), (134, 20, 0), (135, 1, 12), (136, 1, 12), (137, 1, 12), (138, 1, 144), (139, 1, 48), (140, 1, 6), (141, 1, 18), (142, 1, 18), (143, 1, 5), (144, 1, 5), (145, 10, 0), (146, 1, 16), (147, 1, 16), (148, 1, 16), (149, 1, 80), (150, 1, 80), (151, 1, 80), (152, 20, 0), (153, 1, 12), (154, 1, 12), (155, 1, 12), (156, 1, 144), (157, 1, 48), (158, 1, 6), (159, 1, 18), (160, 1, 18), (161, 1, 5), (162, 1, 5), (163, 10, 0), (164, 1, 16), (165, 1, 16), (166, 1, 16), (167, 1, 80), (168, 1, 80), (169, 1, 80), (170, 14, 0), (171, 1, 12), (172, 1, 12), (173, 1, 5), (174, 1, 5), (175, 1, 5), (176, 1, 5), (177, 1, 32), (178, 12, 0), (179, 5, 10), (180, 5, 2), (181, 3, 2), (182, 20, 0), (183, 1, 12), (184, 1, 12), (185, 1, 12), (186, 1, 144), (187, 1, 48), (188, 1, 6), (189, 1, 18), (190, 1, 18), (191, 1, 5), (192, 1, 5), (193, 10, 0), (194, 1, 16), (195, 1, 16), (196, 1, 16), (197, 1, 80), (198, 1, 80), (199, 1, 80), (200, 20, 0), (201, 1, 12), (202, 1, 12), (203, 1, 12), (204, 1, 144), (205, 1, 48), (206, 1, 6), (207, 1, 18), (208, 1, 18), (209, 1, 5), (210, 1, 5), (211, 10, 0), (212, 1, 16), (213, 1, 16), (214, 1, 16), (215, 1, 80), (216, 1, 80), (217, 1, 80), (218, 20, 0), (219, 1, 12), (220, 1, 12), (221, 1, 12), (222, 1, 144), (223, 1, 48), (224, 1, 6), (225, 1, 18), (226, 1, 18), (227, 1, 5), (228, 1, 5), (229, 10, 0), (230, 1, 16), (231, 1, 16), (232, 1, 16), (233, 1, 80), (234, 1, 80), (235, 1, 80), (236, 20, 0), (237, 1, 12), (238, 1, 12), (239, 1, 12), (240, 1, 144), (241, 1, 48), (242, 1, 6), (243, 1, 18), (244, 1, 18), (245, 1, 5), (246, 1, 5), (247, 10, 0), (248, 1, 16), (249, 1, 16), (250, 1, 16), (251, 1, 80), (252, 1, 80), (253, 1, 80), (254, 20, 0), (255, 1, 12), (256, 1, 12), (257, 1, 12), (258, 1, 144), (259, 1, 48), (260, 1, 6), (261, 1, 18), (262, 1, 18), (263, 1, 5), (264, 1, 5), (265, 10, 0), (266, 1, 16), (267, 1, 16), (268, 1, 16), (269, 1, 80), (270, 1, 80), (271, 1, 80), (272, 20, 0), (273, 1, 12), (274, 1, 12), (275, 1, 12), (276, 1, 144), (277, 1, 48), (278, 1, 6), (279, 1, 18), (280, 1, 18), (281, 1, 5), (282, 1, 5), (283, 10, 0), (284, 1, 16), (285, 1, 16), (286, 1, 16), (287, 1, 80), (288, 1, 80), (289, 1, 80), (290, 20, 0), (291, 1, 12), (292, 1, 12), (293, 1, 12), (294, 1, 144), (295, 1, 48), (296, 1, 6), (297, 1, 18), (298, 1, 18), (299, 1, 5), (300, 1, 5), (301, 10, 0), (302, 1, 16), (303, 1, 16), (304, 1, 16), (305, 1, 80), (306, 1, 80), (307, 1, 80), (308, 20, 0), (309, 1, 12), (310, 1, 12), (311, 1, 12), (312, 1, 144), (313, 1, 48), (314, 1, 6), (315, 1, 18), (316, 1, 18), (317, 1, 5), (318, 1, 5), (319, 10, 0), (320, 1, 16), (321, 1, 16), (322, 1, 16), (323, 1, 80), (324, 1, 80), (325, 1, 80), (326, 20, 0), (327, 1, 12), (328, 1, 12), (329, 1, 12), (330, 1, 144), (331, 1, 48), (332, 1, 6), (333, 1, 18), (334, 1, 18), (335, 1, 5), (336, 1, 5), (337, 10, 0), (338, 1, 16), (339, 1, 16), (340, 1, 16), (341, 1, 80), (342, 1, 80), (343, 1, 80), (344, 20, 0), (345, 1, 12), (346, 1, 12), (347, 1, 12), (348, 1, 144), (349, 1, 48), (350, 1, 6), (351, 1, 18), (352, 1, 18), (353, 1, 5), (354, 1, 5), (355, 10, 0), (356, 1, 16), (357, 1, 16), (358, 1, 16), (359, 1, 80), (360, 1, 80), (361, 1, 80), (362, 20, 0), (363, 1, 12), (364, 1, 12), (365, 1, 12), (366, 1, 144), (367, 1, 48), (368, 1, 6), (369, 1, 18), (370, 1, 18), (371, 1, 5), (372, 1, 5), (373, 10, 0), (374, 1, 16), (375, 1, 16), (376, 1, 16), (377, 1, 80), (378, 1, 80), (379, 1, 80), (380, 20, 0), (381, 1, 12), (382, 1, 12), (383, 1, 12), (384, 1, 144), (385, 1, 48), (386, 1, 6), (387, 1, 18), (388, 1, 18), (389, 1, 5), (390, 1, 5), (391, 10, 0), (392, 1, 16), (393, 1, 16), (394, 1, 16), (395, 1, 80), (396, 1, 80), (397, 1, 80), (398, 22, 0), (399, 1, 603), (400, 1, 6030), (401, 1, 1206), (402, 1, 603), (403, 3, 2), (404, 1, 4), (405, 4, 29), (406, 1, 12), (407, 1, 12), (408, 1, 6), (409, 1, 6), (410, 1, 6), (411, 1, 5), (412, 1, 5), (413, 1, 30), (414, 1, 6), (415, 1, 6), (416, 1, 6), (417, 1, 6), (418, 1, 36), (419, 1, 6), (420, 1, 30), (421, 1, 1200), (422, 1, 4), (423, 4, 29), (424, 1, 12), (425, 1, 12), (426, 1, 144), (427, 3, 144), (428, 1, 6), (429, 1, 6), (430, 1, 6), (431, 1, 48), (432, 1, 5), (433, 1, 5), (434, 1, 30), (435, 1, 6), (436, 1, 6), (437, 1, 6), (438, 1, 6), (439, 1, 36), (440, 1, 6), (441, 1, 30), (442, 1, 5), (443, 1, 5), (444, 1, 5), (445, 1, 5), (446, 3, 4096), (447, 3, 4096), (448, 4, 1)]
def ptL : List (Nat × Nat × Nat) := [(1, 0, 2), (1, 2, 3), (1, 5, 134), (1, 6, 152), (1, 7, 170), (1, 8, 178), (3, 0, 2), (4, 2, 6), (4, 4, 7), (4, 6, 8), (4, 8, 9), (4, 10, 10), (4, 11, 11), (4, 0, 5), (6, 0, 12), (6, 1, 13), (6, 2, 14), (6, 3, 15), (6, 4, 16), (6, 5, 17), (6, 6, 18), (6, 7, 19), (6, 8, 20), (6, 9, 21), (6, 10, 22), (6, 11, 23), (8, 0, 24), (24, 4, 25), (8, 1, 26), (26, 4, 27), (8, 2, 28), (28, 4, 29), (8, 3, 30), (30, 4, 31), (8, 4, 32), (32, 4, 33), (8, 5, 34), (34, 4, 35), (9, 0, 36), (36, 3, 37), (36, 4, 38), (9, 1, 39), (39, 3, 40), (39, 4, 41), (9, 2, 42), (42, 3, 43), (42, 4, 44), (9, 3, 45), (45, 3, 46), (45, 4, 47), (9, 4, 48), (48, 3, 49), (48, 4, 50), (10, 0, 51), (51, 5, 52), (51, 7, 53), (10, 1, 54), (54, 5, 55), (54, 7, 56), (10, 2, 57), (57, 5, 58), (57, 7, 59), (10, 3, 60), (60, 5, 61), (60, 7, 62), (10, 4, 63), (63, 5, 64), (63, 7, 65), (10, 5, 66), (66, 5, 67), (66, 7, 68), (69, 2, 71), (69, 4, 72), (69, 6, 73), (69, 8, 74), (69, 10, 75), (69, 11, 76), (69, 0, 70), (71, 0, 77), (71, 1, 78), (71, 2, 79), (71, 3, 80), (71, 4, 81), (71, 5, 82), (71, 6, 83), (71, 7, 84), (71, 8, 85), (71, 9, 86), (71, 10, 87), (71, 11, 88), (73, 0, 89), (89, 4, 90), (73, 1, 91), (91, 4, 92), (73, 2, 93), (93, 4, 94), (73, 3, 95), (95, 4, 96), (73, 4, 97), (97, 4, 98), (73, 5, 99), (99, 4, 100), (74, 0, 101), (101, 3, 102), (101, 4, 103), (74, 1, 104), (104, 3, 105), (104, 4, 106), (74, 2, 107), (107, 3, 108), (107, 4, 109), (74, 3, 110), (110, 3, 111), (110, 4, 112), (74, 4, 113), (113, 3, 114), (113, 4, 115), (75, 0, 116), (116, 5, 117), (116, 7, 118), (75, 1, 119), (119, 5, 120), (119, 7, 121), (75, 2, 122), (122, 5, 123), (122, 7, 124), (75, 3, 125), (125, 5, 126), (125, 7, 127), (75, 4, 128), (128, 5, 129), (128, 7, 130), (75, 5, 131), (131, 5, 132), (131, 7, 133), (134, 2, 135), (134, 3, 136), (134, 4, 137), (134, 6, 138), (134, 7, 139), (134, 8, 140), (134, 9, 141), (134, 10, 142), (134, 11, 143), (134, 12, 144), (134, 14, 145), (145, 1, 146), (145, 3, 147), (145, 4, 148), (145, 5, 149), (145, 6, 150), (145, 7, 151), (152, 2, 153), (152, 3, 154), (152, 4, 155), (152, 6, 156), (152, 7, 157), (152, 8, 158), (152, 9, 159), (152, 10, 160), (152, 11, 161), (152, 12, 162), (152, 14, 163), (163, 1, 164), (163, 3, 165), (163, 4, 166), (163, 5, 167), (163, 6, 168), (163, 7, 169), (182, 2, 183), (182, 3, 184), (182, 4, 185), (182, 6, 186), (182, 7, 187), (182, 8, 188), (182, 9, 189), (182, 10, 190), (182, 11, 191), (182, 12, 192), (182, 14, 193), (193, 1, 194), (193, 3, 195), (193, 4, 196), (193, 5, 197), (193, 6, 198), (193, 7, 199), (200, 2, 201), (200, 3, 202), (200, 4, 203), (200, 6, 204), (200, 7, 205), (200, 8, 206), (200, 9, 207), (200, 10, 208), (200, 11, 209), (200, 12, 210), (200, 14, 211), (211, 1, 212), (211, 3, 213), (211, 4, 214), (211, 5, 215), (211, 6, 216), (211, 7, 217), (218, 2, 219), (218, 3, 220), (218, 4, 221), (218, 6, 222), (218, 7, 223), (218, 8, 224), (218, 9, 225), (218, 10, 226), (218, 11, 227), (218, 12, 228), (218, 14, 229), (229, 1, 230), (229, 3, 231), (229, 4, 232), (229, 5, 233), (229, 6, 234), (229, 7, 235), (236, 2, 237), (236, 3, 238), (236, 4, 239), (236, 6, 240), (236, 7, 241), (236, 8, 242), (236, 9, 243), (236, 10, 244), (236, 11, 245), (236, 12, 246), (236, 14, 247), (247, 1, 248), (247, 3, 249), (247, 4, 250), (247, 5, 251), (247, 6, 252), (247, 7, 253), (254, 2, 255), (254, 3, 256), (254, 4, 257), (254, 6, 258), (254, 7, 259), (254, 8, 260), (254, 9, 261), (254, 10, 262), (254, 11, 263), (254, 12, 264), (254, 14, 265), (265, 1, 266), (265, 3, 267), (265, 4, 268), (265, 5, 269), (265, 6, 270), (265, 7, 271), (272, 2, 273), (272, 3, 274), (272, 4, 275), (272, 6, 276), (272, 7, 277), (272, 8, 278), (272, 9, 279), (272, 10, 280), (272, 11, 281), (272, 12, 282), (272, 14, 283), (283, 1, 284), (283, 3, 285), (283, 4, 286), (283, 5, 287), (283, 6, 288), (283, 7, 289), (290, 2, 291), (290, 3, 292), (290, 4, 293), (290, 6, 294), (290, 7, 295), (290, 8, 296), (290, 9, 297), (290, 10, 298), (290, 11, 299), (290, 12, 300), (290, 14, 301), (301, 1, 302), (301, 3, 303), (301, 4, 304), (301, 5, 305), (301, 6, 306), (301, 7, 307), (308, 2, 309), (308, 3, 310), (308, 4, 311), (308, 6, 312), (308, 7, 313), (308, 8, 314), (308, 9, 315), (308, 10, 316), (308, 11, 317), (308, 12, 318), (308, 14, 319), (319, 1, 320), (319, 3, 321), (319, 4, 322), (319, 5, 323), (319, 6, 324), (319, 7, 325), (326, 2, 327), (326, 3, 328), (326, 4, 329), (326, 6, 330), (326, 7, 331), (326, 8, 332), (326, 9, 333), (326, 10, 334), (326, 11, 335), (326, 12, 336), (326, 14, 337), (337, 1, 338), (337, 3, 339), (337, 4, 340), (337, 5, 341), (337, 6, 342), (337, 7, 343), (344, 2, 345), (344, 3, 346), (344, 4, 347), (344, 6, 348), (344, 7, 349), (344, 8, 350), (344, 9, 351), (344, 10, 352), (344, 11, 353), (344, 12, 354), (344, 14, 355), (355, 1, 356), (355, 3, 357), (355, 4, 358), (355, 5, 359), (355, 6, 360), (355, 7, 361), (362, 2, 363), (362, 3, 364), (362, 4, 365), (362, 6, 366), (362, 7, 367), (362, 8, 368), (362, 9, 369), (362, 10, 370), (362, 11, 371), (362, 12, 372), (362, 14, 373), (373, 1, 374), (373, 3, 375), (373, 4, 376), (373, 5, 377), (373, 6, 378), (373, 7, 379), (380, 2, 381), (380, 3, 382), (380, 4, 383), (380, 6, 384), (380, 7, 385), (380, 8, 386), (380, 9, 387), (380, 10, 388), (380, 11, 389), (380, 12, 390), (380, 14, 391), (391, 1, 392), (391, 3, 393), (391, 4, 394), (391, 5, 395), (391, 6, 396), (391, 7, 397), (170, 2, 171), (170, 3, 172), (170, 6, 173), (170, 7, 174), (170, 8, 175), (170, 9, 176), (170, 10, 177), (178, 1, 179), (178, 2, 180), (178, 3, 181), (180, 0, 362), (180, 1, 380), (398, 1, 399), (398, 2, 400), (398, 3, 401), (398, 4, 402), (398, 5, 403), (398, 7, 404), (398, 12, 405), (398, 13, 406), (398, 14, 407), (398, 15, 408), (398, 16, 409), (398, 17, 410), (398, 18, 411), (398, 19, 412), (398, 20, 413), (398, 21, 414), (398, 22, 415), (398, 23, 416), (398, 24, 417), (398, 25, 418), (398, 26, 419), (398, 27, 420), (398, 28, 421), (398, 38, 422), (398, 44, 423), (398, 45, 424), (398, 46, 425), (398, 47, 426), (398, 48, 427), (398, 49, 428), (398, 50, 429), (398, 51, 430), (398, 52, 431), (398, 53, 432), (398, 54, 433), (398, 55, 434), (398, 56, 435), (398, 57, 436), (398, 58, 437), (398, 59, 438), (398, 60, 439), (398, 61, 440), (398, 62, 441), (398, 64, 442), (398, 65, 443), (398, 66, 444), (398, 67, 445), (398, 69, 446), (398, 70, 447)]
def stL : List Nat := [134, 152, 182, 200, 218, 236, 254, 272, 290, 308, 326, 344, 362, 380]
def plL : List Nat := [4, 69]
/-- every state of the run behind the constructors: the cells that were made there keep their shapes, and final fields their objects -/
def Sh (h : aH) : Prop := 449 ≤ h_nx h ∧ (∀ q ∈ shL, h_sh h q.1 = q.2.1 ∧ (q.2.1 < 10 → h_ln h q.1 = q.2.2)) ∧ ∀ q ∈ ptL, h_rv h q.1 q.2.1 = q.2.2
theorem u2n {α : Type} {f : Nat → Nat → α} {o k a j : Nat} {x : α} (h : ¬ (a = o ∧ j = k)) : up2 f o k x a j = f a j := if_neg h
theorem u1n {α : Type} {f : Nat → α} {o a : Nat} {x : α} (h : a ≠ o) : up1 f o x a = f a := if_neg h
theorem Sh.si {h : aH} (hS : Sh h) (o k : Nat) (x : Int32) : Sh (h_si h o k x) := hS
theorem Sh.sL {h : aH} (hS : Sh h) (o k : Nat) (x : Int64) : Sh (h_sL h o k x) := hS
theorem Sh.copy {h : aH} (hS : Sh h) (o : Nat) (f : Nat → Int32) : Sh (h_copy h o f) := hS
theorem Sh.exc {h : aH} (hS : Sh h) : Sh (h_exc h) := ⟨Nat.le_succ_of_le hS.1, hS.2⟩
theorem shL_lt : ∀ q ∈ shL, q.1 < 449 := by decide +kernel
theorem ptL_lt : ∀ q ∈ ptL, q.1 < 449 := by decide +kernel
theorem Sh.new {h : aH} (hS : Sh h) (t n : Nat) : Sh (h_new h t n) := by
  refine ⟨Nat.le_succ_of_le hS.1, fun q hq => ?_, fun q hq => ?_⟩
  · have h1 := shL_lt q hq
    have h2 : q.1 ≠ h.1 := fun e => by have h3 : 449 ≤ h.1 := hS.1; omega
    have := hS.2.1 q hq
    exact ⟨(u1n h2).trans this.1, fun hl => (u1n h2).trans (this.2 hl)⟩
  · have h1 := ptL_lt q hq
    have h2 : q.1 ≠ h.1 := fun e => by have h3 : 449 ≤ h.1 := hS.1; omega
    exact (congrFun (u1n h2) q.2.1).trans (hS.2.2 q hq)
theorem Sh.sr {h : aH} (hS : Sh h) (o k x : Nat) (hn : ∀ q ∈ ptL, ¬ (q.1 = o ∧ q.2.1 = k)) : Sh (h_sr h o k x) := ⟨hS.1, hS.2.1, fun q hq => (u2n (hn q hq)).trans (hS.2.2 q hq)⟩
section
variable {h : aH} {c o t n k r : Nat} {x : Int32} {y : Int64} {γ : Type}
theorem gi_ok (hs : h_sh h o = 10 + c) : gi h c o k = some (h_iv h o k) := if_pos hs
theorem gL_ok (hs : h_sh h o = 10 + c) : gL h c o k = some (h_lv h o k) := if_pos hs
theorem gr_ok9 (hs : h_sh h o = 10 + c) (hr : h_rv h o k = r) (h0 : r ≠ 0) : gr h c o k = some r := by rw [gr, if_pos ⟨hs, by rw [hr]; exact h0⟩, hr]
theorem pi_ok (hs : h_sh h o = 10 + c) : pi h c o k x = some (h_si h o k x) := if_pos hs
theorem pz_ok (hs : h_sh h o = 10 + c) (hx : x = 0 ∨ x = 1) : pz h c o k x = some (h_si h o k x) := if_pos ⟨hs, hx⟩
theorem pL_ok (hs : h_sh h o = 10 + c) : pL h c o k y = some (h_sL h o k y) := if_pos hs
theorem pr_ok (hs : h_sh h o = 10 + c) (h0 : r ≠ 0) : pr h c o k r = some (h_sr h o k r) := if_pos ⟨hs, h0⟩
theorem ix_ok {n m : Nat} (hn : n < m) (hb : n < 2147483648) : 0 ≤ (nI n).toInt ∧ (nI n).toInt < m := by rw [nI_toInt hb]; omega
theorem ali_ok {m : Nat} (hs : h_sh h o = t) (hl : h_ln h o = m) (hn : n < m) (hb : n < 2147483648) : ali h t o (nI n) = some (h_iv h o n) := by
  rw [ali, if_pos ⟨hs, hl ▸ ix_ok hn hb⟩, nI_clamp hb]
theorem alL_ok {m : Nat} (hs : h_sh h o = 4) (hl : h_ln h o = m) (hn : n < m) (hb : n < 2147483648) : alL h o (nI n) = some (h_lv h o n) := by
  rw [alL, if_pos ⟨hs, hl ▸ ix_ok hn hb⟩, nI_clamp hb]
theorem alr_ok {m : Nat} (hs : h_sh h o = t) (hl : h_ln h o = m) (hn : n < m) (hb : n < 2147483648) (hr : h_rv h o n = r) (h0 : r ≠ 0) : alr h t o (nI n) = some r := by
  have e : (nI n).toNatClampNeg = n := nI_clamp hb
  rw [alr, e, hr, if_pos ⟨hs, (hl ▸ ix_ok hn hb).1, (hl ▸ ix_ok hn hb).2, h0⟩]
theorem asi_ok {m : Nat} (hs : h_sh h o = 1) (hl : h_ln h o = m) (hn : n < m) (hb : n < 2147483648) : asi h o (nI n) x = some (h_si h o n x) := by
  rw [asi, if_pos ⟨hs, hl ▸ ix_ok hn hb⟩, nI_clamp hb]
theorem asb_ok {m : Nat} (hs : h_sh h o = 2) (hl : h_ln h o = m) (hn : n < m) (hb : n < 2147483648) : asb h o (nI n) x = some (h_si h o n x.toInt8.toInt32) := by
  rw [asb, if_pos ⟨hs, hl ▸ ix_ok hn hb⟩, nI_clamp hb]
theorem asz_ok {m : Nat} (hs : h_sh h o = 3) (hl : h_ln h o = m) (hn : n < m) (hb : n < 2147483648) (hx : x = 0 ∨ x = 1) : asz h o (nI n) x = some (h_si h o n x) := by
  have e : (nI n).toNatClampNeg = n := nI_clamp hb
  rw [asz, e, if_pos ⟨hs, (hl ▸ ix_ok hn hb).1, (hl ▸ ix_ok hn hb).2, hx⟩]
theorem asL_ok {m : Nat} (hs : h_sh h o = 4) (hl : h_ln h o = m) (hn : n < m) (hb : n < 2147483648) : asL h o (nI n) y = some (h_sL h o n y) := by
  rw [asL, if_pos ⟨hs, hl ▸ ix_ok hn hb⟩, nI_clamp hb]
theorem asr_ok {m : Nat} (hs : h_sh h o = t) (hl : h_ln h o = m) (hn : n < m) (hb : n < 2147483648) (hx : h_sh h r = 10 + c) : asr h t c o (nI n) r = some (h_sr h o n r) := by
  have e : (nI n).toNatClampNeg = n := nI_clamp hb
  rw [asr, e, if_pos ⟨hs, (hl ▸ ix_ok hn hb).1, (hl ▸ ix_ok hn hb).2, hx⟩]
theorem aln_ok {m : Nat} (hs : h_sh h o = t) (h1 : 1 ≤ t) (h2 : t < 10) (hl : h_ln h o = m) : aln h o = some (nI m) := by rw [aln, hs, if_pos ⟨h1, h2⟩, hl]
theorem gS_ok {z : Option γ} (hs : h_sh h o = 10 + c) : gS h c o z = z := if_pos hs
theorem aJ_v {κ γ : Type} (k : κ) (f : κ → γ) : aJ k f = f k := id rfl
theorem aLet_v {β γ : Type} (v : β) (f : β → γ) : aLet v f = f v := id rfl
theorem bO_v {β γ : Type} (v : β) (f : β → Option γ) : bO (some v) f = f v := id rfl
theorem bR_v {β γ : Type} (v : β) (h1 : aH) (f : β → aH → Option γ) : bR (some (v, h1)) f = f v h1 := id rfl
theorem bX_l {β γ : Type} (v : β) (h1 : aH) (f : β → aH → Option ((γ ⊕ String) × aH)) : bX (some (.inl v, h1)) f = f v h1 := id rfl
theorem bX_r {β γ : Type} (X : String) (h1 : aH) (f : β → aH → Option ((γ ⊕ String) × aH)) : bX (some (.inr X, h1)) f = some (.inr X, h1) := id rfl
theorem bC_l {β γ : Type} (v : β) (h1 : aH) (f : β → aH → Option γ) (g : String → aH → Option γ) : bC (some (.inl v, h1)) f g = f v h1 := id rfl
theorem bC_r {β γ : Type} (X : String) (h1 : aH) (f : β → aH → Option γ) (g : String → aH → Option γ) : bC (some (.inr X, h1)) f g = g X h1 := id rfl
theorem gT_ok {z : Option γ} {i : Nat} (hi : i < 11) : gT i z = z := if_pos hi
end
theorem s_cSm : ∀ a ∈ stL, (a, 20, 0) ∈ shL := by decide +kernel
theorem s_cS {h : aH} {a : Nat} (hS : Sh h) (ha : a ∈ stL) : h_sh h (a) = 10 + 10 := (hS.2.1 _ (s_cSm _ ha)).1
theorem s_cS_gi {h : aH} {a : Nat} (hS : Sh h) (ha : a ∈ stL) (k : Nat) : gi h 10 (a) k = some (h_iv h (a) k) := gi_ok (s_cS hS ha)
theorem s_cS_gL {h : aH} {a : Nat} (hS : Sh h) (ha : a ∈ stL) (k : Nat) : gL h 10 (a) k = some (h_lv h (a) k) := gL_ok (s_cS hS ha)
theorem s_cS_pi {h : aH} {a : Nat} (hS : Sh h) (ha : a ∈ stL) (k : Nat) (x : Int32) : pi h 10 (a) k x = some (h_si h (a) k x) := pi_ok (s_cS hS ha)
theorem s_cS_pL {h : aH} {a : Nat} (hS : Sh h) (ha : a ∈ stL) (k : Nat) (x : Int64) : pL h 10 (a) k x = some (h_sL h (a) k x) := pL_ok (s_cS hS ha)
theorem s_cS_gS {h : aH} {a : Nat} (hS : Sh h) (ha : a ∈ stL) {γ : Type} (z : Option γ) : gS h 10 (a) z = z := gS_ok (s_cS hS ha)
theorem s_clostm : ∀ a ∈ stL, (a + 1, 1, 12) ∈ shL := by decide +kernel
theorem s_clost {h : aH} {a : Nat} (hS : Sh h) (ha : a ∈ stL) : h_sh h (a + 1) = 1 ∧ h_ln h (a + 1) = 12 := ⟨(hS.2.1 _ (s_clostm _ ha)).1, (hS.2.1 _ (s_clostm _ ha)).2 (show (1 : Nat) < 10 by decide)⟩
theorem s_clost_al {h : aH} {a : Nat} (hS : Sh h) (ha : a ∈ stL) {n : Nat} (hn : n < 12) : ali h 1 (a + 1) (nI n) = some (h_iv h (a + 1) n) := ali_ok (s_clost hS ha).1 (s_clost hS ha).2 hn (by omega)
theorem s_clost_as {h : aH} {a : Nat} (hS : Sh h) (ha : a ∈ stL) {n : Nat} (x : Int32) (hn : n < 12) : asi h (a + 1) (nI n) x = some (h_si h (a + 1) n x) := asi_ok (s_clost hS ha).1 (s_clost hS ha).2 hn (by omega)
theorem s_clost_ln {h : aH} {a : Nat} (hS : Sh h) (ha : a ∈ stL) : aln h (a + 1) = some (nI 12) := aln_ok (s_clost hS ha).1 (by decide) (by decide) (s_clost hS ha).2
theorem s_coutm : ∀ a ∈ stL, (a + 2, 1, 12) ∈ shL := by decide +kernel
theorem s_cout {h : aH} {a : Nat} (hS : Sh h) (ha : a ∈ stL) : h_sh h (a + 2) = 1 ∧ h_ln h (a + 2) = 12 := ⟨(hS.2.1 _ (s_coutm _ ha)).1, (hS.2.1 _ (s_coutm _ ha)).2 (show (1 : Nat) < 10 by decide)⟩
theorem s_cout_al {h : aH} {a : Nat} (hS : Sh h) (ha : a ∈ stL) {n : Nat} (hn : n < 12) : ali h 1 (a + 2) (nI n) = some (h_iv h (a + 2) n) := ali_ok (s_cout hS ha).1 (s_cout hS ha).2 hn (by omega)
theorem s_cout_as {h : aH} {a : Nat} (hS : Sh h) (ha : a ∈ stL) {n : Nat} (x : Int32) (hn : n < 12) : asi h (a + 2) (nI n) x = some (h_si h (a + 2) n x) := asi_ok (s_cout hS ha).1 (s_cout hS ha).2 hn (by omega)
theorem s_cout_ln {h : aH} {a : Nat} (hS : Sh h) (ha : a ∈ stL) : aln h (a + 2) = some (nI 12) := aln_ok (s_cout hS ha).1 (by decide) (by decide) (s_cout hS ha).2
theorem s_cpaidm : ∀ a ∈ stL, (a + 3, 1, 12) ∈ shL := by decide +kernel
theorem s_cpaid {h : aH} {a : Nat} (hS : Sh h) (ha : a ∈ stL) : h_sh h (a + 3) = 1 ∧ h_ln h (a + 3) = 12 := ⟨(hS.2.1 _ (s_cpaidm _ ha)).1, (hS.2.1 _ (s_cpaidm _ ha)).2 (show (1 : Nat) < 10 by decide)⟩
theorem s_cpaid_al {h : aH} {a : Nat} (hS : Sh h) (ha : a ∈ stL) {n : Nat} (hn : n < 12) : ali h 1 (a + 3) (nI n) = some (h_iv h (a + 3) n) := ali_ok (s_cpaid hS ha).1 (s_cpaid hS ha).2 hn (by omega)
theorem s_cpaid_as {h : aH} {a : Nat} (hS : Sh h) (ha : a ∈ stL) {n : Nat} (x : Int32) (hn : n < 12) : asi h (a + 3) (nI n) x = some (h_si h (a + 3) n x) := asi_ok (s_cpaid hS ha).1 (s_cpaid hS ha).2 hn (by omega)
theorem s_cpaid_ln {h : aH} {a : Nat} (hS : Sh h) (ha : a ∈ stL) : aln h (a + 3) = some (nI 12) := aln_ok (s_cpaid hS ha).1 (by decide) (by decide) (s_cpaid hS ha).2
theorem s_ctrustm : ∀ a ∈ stL, (a + 4, 1, 144) ∈ shL := by decide +kernel
theorem s_ctrust {h : aH} {a : Nat} (hS : Sh h) (ha : a ∈ stL) : h_sh h (a + 4) = 1 ∧ h_ln h (a + 4) = 144 := ⟨(hS.2.1 _ (s_ctrustm _ ha)).1, (hS.2.1 _ (s_ctrustm _ ha)).2 (show (1 : Nat) < 10 by decide)⟩
theorem s_ctrust_al {h : aH} {a : Nat} (hS : Sh h) (ha : a ∈ stL) {n : Nat} (hn : n < 144) : ali h 1 (a + 4) (nI n) = some (h_iv h (a + 4) n) := ali_ok (s_ctrust hS ha).1 (s_ctrust hS ha).2 hn (by omega)
theorem s_ctrust_as {h : aH} {a : Nat} (hS : Sh h) (ha : a ∈ stL) {n : Nat} (x : Int32) (hn : n < 144) : asi h (a + 4) (nI n) x = some (h_si h (a + 4) n x) := asi_ok (s_ctrust hS ha).1 (s_ctrust hS ha).2 hn (by omega)
theorem s_ctrust_ln {h : aH} {a : Nat} (hS : Sh h) (ha : a ∈ stL) : aln h (a + 4) = some (nI 144) := aln_ok (s_ctrust hS ha).1 (by decide) (by decide) (s_ctrust hS ha).2
theorem s_crotm : ∀ a ∈ stL, (a + 5, 1, 48) ∈ shL := by decide +kernel
theorem s_crot {h : aH} {a : Nat} (hS : Sh h) (ha : a ∈ stL) : h_sh h (a + 5) = 1 ∧ h_ln h (a + 5) = 48 := ⟨(hS.2.1 _ (s_crotm _ ha)).1, (hS.2.1 _ (s_crotm _ ha)).2 (show (1 : Nat) < 10 by decide)⟩
theorem s_crot_al {h : aH} {a : Nat} (hS : Sh h) (ha : a ∈ stL) {n : Nat} (hn : n < 48) : ali h 1 (a + 5) (nI n) = some (h_iv h (a + 5) n) := ali_ok (s_crot hS ha).1 (s_crot hS ha).2 hn (by omega)
theorem s_crot_as {h : aH} {a : Nat} (hS : Sh h) (ha : a ∈ stL) {n : Nat} (x : Int32) (hn : n < 48) : asi h (a + 5) (nI n) x = some (h_si h (a + 5) n x) := asi_ok (s_crot hS ha).1 (s_crot hS ha).2 hn (by omega)
theorem s_crot_ln {h : aH} {a : Nat} (hS : Sh h) (ha : a ∈ stL) : aln h (a + 5) = some (nI 48) := aln_ok (s_crot hS ha).1 (by decide) (by decide) (s_crot hS ha).2
theorem s_chandsm : ∀ a ∈ stL, (a + 6, 1, 6) ∈ shL := by decide +kernel
theorem s_chands {h : aH} {a : Nat} (hS : Sh h) (ha : a ∈ stL) : h_sh h (a + 6) = 1 ∧ h_ln h (a + 6) = 6 := ⟨(hS.2.1 _ (s_chandsm _ ha)).1, (hS.2.1 _ (s_chandsm _ ha)).2 (show (1 : Nat) < 10 by decide)⟩
theorem s_chands_al {h : aH} {a : Nat} (hS : Sh h) (ha : a ∈ stL) {n : Nat} (hn : n < 6) : ali h 1 (a + 6) (nI n) = some (h_iv h (a + 6) n) := ali_ok (s_chands hS ha).1 (s_chands hS ha).2 hn (by omega)
theorem s_chands_as {h : aH} {a : Nat} (hS : Sh h) (ha : a ∈ stL) {n : Nat} (x : Int32) (hn : n < 6) : asi h (a + 6) (nI n) x = some (h_si h (a + 6) n x) := asi_ok (s_chands hS ha).1 (s_chands hS ha).2 hn (by omega)
theorem s_chands_ln {h : aH} {a : Nat} (hS : Sh h) (ha : a ∈ stL) : aln h (a + 6) = some (nI 6) := aln_ok (s_chands hS ha).1 (by decide) (by decide) (s_chands hS ha).2
theorem s_ctom : ∀ a ∈ stL, (a + 7, 1, 18) ∈ shL := by decide +kernel
theorem s_cto {h : aH} {a : Nat} (hS : Sh h) (ha : a ∈ stL) : h_sh h (a + 7) = 1 ∧ h_ln h (a + 7) = 18 := ⟨(hS.2.1 _ (s_ctom _ ha)).1, (hS.2.1 _ (s_ctom _ ha)).2 (show (1 : Nat) < 10 by decide)⟩
theorem s_cto_al {h : aH} {a : Nat} (hS : Sh h) (ha : a ∈ stL) {n : Nat} (hn : n < 18) : ali h 1 (a + 7) (nI n) = some (h_iv h (a + 7) n) := ali_ok (s_cto hS ha).1 (s_cto hS ha).2 hn (by omega)
theorem s_cto_as {h : aH} {a : Nat} (hS : Sh h) (ha : a ∈ stL) {n : Nat} (x : Int32) (hn : n < 18) : asi h (a + 7) (nI n) x = some (h_si h (a + 7) n x) := asi_ok (s_cto hS ha).1 (s_cto hS ha).2 hn (by omega)
theorem s_cto_ln {h : aH} {a : Nat} (hS : Sh h) (ha : a ∈ stL) : aln h (a + 7) = some (nI 18) := aln_ok (s_cto hS ha).1 (by decide) (by decide) (s_cto hS ha).2
theorem s_cendsm : ∀ a ∈ stL, (a + 8, 1, 18) ∈ shL := by decide +kernel
theorem s_cends {h : aH} {a : Nat} (hS : Sh h) (ha : a ∈ stL) : h_sh h (a + 8) = 1 ∧ h_ln h (a + 8) = 18 := ⟨(hS.2.1 _ (s_cendsm _ ha)).1, (hS.2.1 _ (s_cendsm _ ha)).2 (show (1 : Nat) < 10 by decide)⟩
theorem s_cends_al {h : aH} {a : Nat} (hS : Sh h) (ha : a ∈ stL) {n : Nat} (hn : n < 18) : ali h 1 (a + 8) (nI n) = some (h_iv h (a + 8) n) := ali_ok (s_cends hS ha).1 (s_cends hS ha).2 hn (by omega)
theorem s_cends_as {h : aH} {a : Nat} (hS : Sh h) (ha : a ∈ stL) {n : Nat} (x : Int32) (hn : n < 18) : asi h (a + 8) (nI n) x = some (h_si h (a + 8) n x) := asi_ok (s_cends hS ha).1 (s_cends hS ha).2 hn (by omega)
theorem s_cends_ln {h : aH} {a : Nat} (hS : Sh h) (ha : a ∈ stL) : aln h (a + 8) = some (nI 18) := aln_ok (s_cends hS ha).1 (by decide) (by decide) (s_cends hS ha).2
theorem s_cretm : ∀ a ∈ stL, (a + 9, 1, 5) ∈ shL := by decide +kernel
theorem s_cret {h : aH} {a : Nat} (hS : Sh h) (ha : a ∈ stL) : h_sh h (a + 9) = 1 ∧ h_ln h (a + 9) = 5 := ⟨(hS.2.1 _ (s_cretm _ ha)).1, (hS.2.1 _ (s_cretm _ ha)).2 (show (1 : Nat) < 10 by decide)⟩
theorem s_cret_al {h : aH} {a : Nat} (hS : Sh h) (ha : a ∈ stL) {n : Nat} (hn : n < 5) : ali h 1 (a + 9) (nI n) = some (h_iv h (a + 9) n) := ali_ok (s_cret hS ha).1 (s_cret hS ha).2 hn (by omega)
theorem s_cret_as {h : aH} {a : Nat} (hS : Sh h) (ha : a ∈ stL) {n : Nat} (x : Int32) (hn : n < 5) : asi h (a + 9) (nI n) x = some (h_si h (a + 9) n x) := asi_ok (s_cret hS ha).1 (s_cret hS ha).2 hn (by omega)
theorem s_cret_ln {h : aH} {a : Nat} (hS : Sh h) (ha : a ∈ stL) : aln h (a + 9) = some (nI 5) := aln_ok (s_cret hS ha).1 (by decide) (by decide) (s_cret hS ha).2
theorem s_ccrewm : ∀ a ∈ stL, (a + 10, 1, 5) ∈ shL := by decide +kernel
theorem s_ccrew {h : aH} {a : Nat} (hS : Sh h) (ha : a ∈ stL) : h_sh h (a + 10) = 1 ∧ h_ln h (a + 10) = 5 := ⟨(hS.2.1 _ (s_ccrewm _ ha)).1, (hS.2.1 _ (s_ccrewm _ ha)).2 (show (1 : Nat) < 10 by decide)⟩
theorem s_ccrew_al {h : aH} {a : Nat} (hS : Sh h) (ha : a ∈ stL) {n : Nat} (hn : n < 5) : ali h 1 (a + 10) (nI n) = some (h_iv h (a + 10) n) := ali_ok (s_ccrew hS ha).1 (s_ccrew hS ha).2 hn (by omega)
theorem s_ccrew_as {h : aH} {a : Nat} (hS : Sh h) (ha : a ∈ stL) {n : Nat} (x : Int32) (hn : n < 5) : asi h (a + 10) (nI n) x = some (h_si h (a + 10) n x) := asi_ok (s_ccrew hS ha).1 (s_ccrew hS ha).2 hn (by omega)
theorem s_ccrew_ln {h : aH} {a : Nat} (hS : Sh h) (ha : a ∈ stL) : aln h (a + 10) = some (nI 5) := aln_ok (s_ccrew hS ha).1 (by decide) (by decide) (s_ccrew hS ha).2
theorem s_cLm : ∀ a ∈ stL, (a + 11, 10, 0) ∈ shL := by decide +kernel
theorem s_cL {h : aH} {a : Nat} (hS : Sh h) (ha : a ∈ stL) : h_sh h (a + 11) = 10 + 0 := (hS.2.1 _ (s_cLm _ ha)).1
theorem s_cL_gi {h : aH} {a : Nat} (hS : Sh h) (ha : a ∈ stL) (k : Nat) : gi h 0 (a + 11) k = some (h_iv h (a + 11) k) := gi_ok (s_cL hS ha)
theorem s_cL_gL {h : aH} {a : Nat} (hS : Sh h) (ha : a ∈ stL) (k : Nat) : gL h 0 (a + 11) k = some (h_lv h (a + 11) k) := gL_ok (s_cL hS ha)
theorem s_cL_pi {h : aH} {a : Nat} (hS : Sh h) (ha : a ∈ stL) (k : Nat) (x : Int32) : pi h 0 (a + 11) k x = some (h_si h (a + 11) k x) := pi_ok (s_cL hS ha)
theorem s_cL_pL {h : aH} {a : Nat} (hS : Sh h) (ha : a ∈ stL) (k : Nat) (x : Int64) : pL h 0 (a + 11) k x = some (h_sL h (a + 11) k x) := pL_ok (s_cL hS ha)
theorem s_cL_gS {h : aH} {a : Nat} (hS : Sh h) (ha : a ∈ stL) {γ : Type} (z : Option γ) : gS h 0 (a + 11) z = z := gS_ok (s_cL hS ha)
theorem s_clcostsm : ∀ a ∈ stL, (a + 12, 1, 16) ∈ shL := by decide +kernel
theorem s_clcosts {h : aH} {a : Nat} (hS : Sh h) (ha : a ∈ stL) : h_sh h (a + 12) = 1 ∧ h_ln h (a + 12) = 16 := ⟨(hS.2.1 _ (s_clcostsm _ ha)).1, (hS.2.1 _ (s_clcostsm _ ha)).2 (show (1 : Nat) < 10 by decide)⟩
theorem s_clcosts_al {h : aH} {a : Nat} (hS : Sh h) (ha : a ∈ stL) {n : Nat} (hn : n < 16) : ali h 1 (a + 12) (nI n) = some (h_iv h (a + 12) n) := ali_ok (s_clcosts hS ha).1 (s_clcosts hS ha).2 hn (by omega)
theorem s_clcosts_as {h : aH} {a : Nat} (hS : Sh h) (ha : a ∈ stL) {n : Nat} (x : Int32) (hn : n < 16) : asi h (a + 12) (nI n) x = some (h_si h (a + 12) n x) := asi_ok (s_clcosts hS ha).1 (s_clcosts hS ha).2 hn (by omega)
theorem s_clcosts_ln {h : aH} {a : Nat} (hS : Sh h) (ha : a ∈ stL) : aln h (a + 12) = some (nI 16) := aln_ok (s_clcosts hS ha).1 (by decide) (by decide) (s_clcosts hS ha).2
theorem s_clcomersm : ∀ a ∈ stL, (a + 13, 1, 16) ∈ shL := by decide +kernel
theorem s_clcomers {h : aH} {a : Nat} (hS : Sh h) (ha : a ∈ stL) : h_sh h (a + 13) = 1 ∧ h_ln h (a + 13) = 16 := ⟨(hS.2.1 _ (s_clcomersm _ ha)).1, (hS.2.1 _ (s_clcomersm _ ha)).2 (show (1 : Nat) < 10 by decide)⟩
theorem s_clcomers_al {h : aH} {a : Nat} (hS : Sh h) (ha : a ∈ stL) {n : Nat} (hn : n < 16) : ali h 1 (a + 13) (nI n) = some (h_iv h (a + 13) n) := ali_ok (s_clcomers hS ha).1 (s_clcomers hS ha).2 hn (by omega)
theorem s_clcomers_as {h : aH} {a : Nat} (hS : Sh h) (ha : a ∈ stL) {n : Nat} (x : Int32) (hn : n < 16) : asi h (a + 13) (nI n) x = some (h_si h (a + 13) n x) := asi_ok (s_clcomers hS ha).1 (s_clcomers hS ha).2 hn (by omega)
theorem s_clcomers_ln {h : aH} {a : Nat} (hS : Sh h) (ha : a ∈ stL) : aln h (a + 13) = some (nI 16) := aln_ok (s_clcomers hS ha).1 (by decide) (by decide) (s_clcomers hS ha).2
theorem s_clleaversm : ∀ a ∈ stL, (a + 14, 1, 16) ∈ shL := by decide +kernel
theorem s_clleavers {h : aH} {a : Nat} (hS : Sh h) (ha : a ∈ stL) : h_sh h (a + 14) = 1 ∧ h_ln h (a + 14) = 16 := ⟨(hS.2.1 _ (s_clleaversm _ ha)).1, (hS.2.1 _ (s_clleaversm _ ha)).2 (show (1 : Nat) < 10 by decide)⟩
theorem s_clleavers_al {h : aH} {a : Nat} (hS : Sh h) (ha : a ∈ stL) {n : Nat} (hn : n < 16) : ali h 1 (a + 14) (nI n) = some (h_iv h (a + 14) n) := ali_ok (s_clleavers hS ha).1 (s_clleavers hS ha).2 hn (by omega)
theorem s_clleavers_as {h : aH} {a : Nat} (hS : Sh h) (ha : a ∈ stL) {n : Nat} (x : Int32) (hn : n < 16) : asi h (a + 14) (nI n) x = some (h_si h (a + 14) n x) := asi_ok (s_clleavers hS ha).1 (s_clleavers hS ha).2 hn (by omega)
theorem s_clleavers_ln {h : aH} {a : Nat} (hS : Sh h) (ha : a ∈ stL) : aln h (a + 14) = some (nI 16) := aln_ok (s_clleavers hS ha).1 (by decide) (by decide) (s_clleavers hS ha).2
theorem s_clengsm : ∀ a ∈ stL, (a + 15, 1, 80) ∈ shL := by decide +kernel
theorem s_clengs {h : aH} {a : Nat} (hS : Sh h) (ha : a ∈ stL) : h_sh h (a + 15) = 1 ∧ h_ln h (a + 15) = 80 := ⟨(hS.2.1 _ (s_clengsm _ ha)).1, (hS.2.1 _ (s_clengsm _ ha)).2 (show (1 : Nat) < 10 by decide)⟩
theorem s_clengs_al {h : aH} {a : Nat} (hS : Sh h) (ha : a ∈ stL) {n : Nat} (hn : n < 80) : ali h 1 (a + 15) (nI n) = some (h_iv h (a + 15) n) := ali_ok (s_clengs hS ha).1 (s_clengs hS ha).2 hn (by omega)
theorem s_clengs_as {h : aH} {a : Nat} (hS : Sh h) (ha : a ∈ stL) {n : Nat} (x : Int32) (hn : n < 80) : asi h (a + 15) (nI n) x = some (h_si h (a + 15) n x) := asi_ok (s_clengs hS ha).1 (s_clengs hS ha).2 hn (by omega)
theorem s_clengs_ln {h : aH} {a : Nat} (hS : Sh h) (ha : a ∈ stL) : aln h (a + 15) = some (nI 80) := aln_ok (s_clengs hS ha).1 (by decide) (by decide) (s_clengs hS ha).2
theorem s_cltimesm : ∀ a ∈ stL, (a + 16, 1, 80) ∈ shL := by decide +kernel
theorem s_cltimes {h : aH} {a : Nat} (hS : Sh h) (ha : a ∈ stL) : h_sh h (a + 16) = 1 ∧ h_ln h (a + 16) = 80 := ⟨(hS.2.1 _ (s_cltimesm _ ha)).1, (hS.2.1 _ (s_cltimesm _ ha)).2 (show (1 : Nat) < 10 by decide)⟩
theorem s_cltimes_al {h : aH} {a : Nat} (hS : Sh h) (ha : a ∈ stL) {n : Nat} (hn : n < 80) : ali h 1 (a + 16) (nI n) = some (h_iv h (a + 16) n) := ali_ok (s_cltimes hS ha).1 (s_cltimes hS ha).2 hn (by omega)
theorem s_cltimes_as {h : aH} {a : Nat} (hS : Sh h) (ha : a ∈ stL) {n : Nat} (x : Int32) (hn : n < 80) : asi h (a + 16) (nI n) x = some (h_si h (a + 16) n x) := asi_ok (s_cltimes hS ha).1 (s_cltimes hS ha).2 hn (by omega)
theorem s_cltimes_ln {h : aH} {a : Nat} (hS : Sh h) (ha : a ∈ stL) : aln h (a + 16) = some (nI 80) := aln_ok (s_cltimes hS ha).1 (by decide) (by decide) (s_cltimes hS ha).2
theorem s_clcrewsm : ∀ a ∈ stL, (a + 17, 1, 80) ∈ shL := by decide +kernel
theorem s_clcrews {h : aH} {a : Nat} (hS : Sh h) (ha : a ∈ stL) : h_sh h (a + 17) = 1 ∧ h_ln h (a + 17) = 80 := ⟨(hS.2.1 _ (s_clcrewsm _ ha)).1, (hS.2.1 _ (s_clcrewsm _ ha)).2 (show (1 : Nat) < 10 by decide)⟩
theorem s_clcrews_al {h : aH} {a : Nat} (hS : Sh h) (ha : a ∈ stL) {n : Nat} (hn : n < 80) : ali h 1 (a + 17) (nI n) = some (h_iv h (a + 17) n) := ali_ok (s_clcrews hS ha).1 (s_clcrews hS ha).2 hn (by omega)
theorem s_clcrews_as {h : aH} {a : Nat} (hS : Sh h) (ha : a ∈ stL) {n : Nat} (x : Int32) (hn : n < 80) : asi h (a + 17) (nI n) x = some (h_si h (a + 17) n x) := asi_ok (s_clcrews hS ha).1 (s_clcrews hS ha).2 hn (by omega)
theorem s_clcrews_ln {h : aH} {a : Nat} (hS : Sh h) (ha : a ∈ stL) : aln h (a + 17) = some (nI 80) := aln_ok (s_clcrews hS ha).1 (by decide) (by decide) (s_clcrews hS ha).2
theorem s_plostm : ∀ a ∈ stL, (a, 2, a + 1) ∈ ptL ∧ a + 1 ≠ 0 := by decide +kernel
theorem s_plost {h : aH} {a : Nat} (hS : Sh h) (ha : a ∈ stL) : gr h 10 (a) 2 = some (a + 1) := gr_ok9 (s_cS hS ha) (hS.2.2 _ (s_plostm _ ha).1) (s_plostm _ ha).2
theorem s_poutm : ∀ a ∈ stL, (a, 3, a + 2) ∈ ptL ∧ a + 2 ≠ 0 := by decide +kernel
theorem s_pout {h : aH} {a : Nat} (hS : Sh h) (ha : a ∈ stL) : gr h 10 (a) 3 = some (a + 2) := gr_ok9 (s_cS hS ha) (hS.2.2 _ (s_poutm _ ha).1) (s_poutm _ ha).2
theorem s_ppaidm : ∀ a ∈ stL, (a, 4, a + 3) ∈ ptL ∧ a + 3 ≠ 0 := by decide +kernel
theorem s_ppaid {h : aH} {a : Nat} (hS : Sh h) (ha : a ∈ stL) : gr h 10 (a) 4 = some (a + 3) := gr_ok9 (s_cS hS ha) (hS.2.2 _ (s_ppaidm _ ha).1) (s_ppaidm _ ha).2
theorem s_ptrustm : ∀ a ∈ stL, (a, 6, a + 4) ∈ ptL ∧ a + 4 ≠ 0 := by decide +kernel
theorem s_ptrust {h : aH} {a : Nat} (hS : Sh h) (ha : a ∈ stL) : gr h 10 (a) 6 = some (a + 4) := gr_ok9 (s_cS hS ha) (hS.2.2 _ (s_ptrustm _ ha).1) (s_ptrustm _ ha).2
theorem s_protm : ∀ a ∈ stL, (a, 7, a + 5) ∈ ptL ∧ a + 5 ≠ 0 := by decide +kernel
theorem s_prot {h : aH} {a : Nat} (hS : Sh h) (ha : a ∈ stL) : gr h 10 (a) 7 = some (a + 5) := gr_ok9 (s_cS hS ha) (hS.2.2 _ (s_protm _ ha).1) (s_protm _ ha).2
theorem s_phandsm : ∀ a ∈ stL, (a, 8, a + 6) ∈ ptL ∧ a + 6 ≠ 0 := by decide +kernel
theorem s_phands {h : aH} {a : Nat} (hS : Sh h) (ha : a ∈ stL) : gr h 10 (a) 8 = some (a + 6) := gr_ok9 (s_cS hS ha) (hS.2.2 _ (s_phandsm _ ha).1) (s_phandsm _ ha).2
theorem s_ptom : ∀ a ∈ stL, (a, 9, a + 7) ∈ ptL ∧ a + 7 ≠ 0 := by decide +kernel
theorem s_pto {h : aH} {a : Nat} (hS : Sh h) (ha : a ∈ stL) : gr h 10 (a) 9 = some (a + 7) := gr_ok9 (s_cS hS ha) (hS.2.2 _ (s_ptom _ ha).1) (s_ptom _ ha).2
theorem s_pendsm : ∀ a ∈ stL, (a, 10, a + 8) ∈ ptL ∧ a + 8 ≠ 0 := by decide +kernel
theorem s_pends {h : aH} {a : Nat} (hS : Sh h) (ha : a ∈ stL) : gr h 10 (a) 10 = some (a + 8) := gr_ok9 (s_cS hS ha) (hS.2.2 _ (s_pendsm _ ha).1) (s_pendsm _ ha).2
theorem s_pretm : ∀ a ∈ stL, (a, 11, a + 9) ∈ ptL ∧ a + 9 ≠ 0 := by decide +kernel
theorem s_pret {h : aH} {a : Nat} (hS : Sh h) (ha : a ∈ stL) : gr h 10 (a) 11 = some (a + 9) := gr_ok9 (s_cS hS ha) (hS.2.2 _ (s_pretm _ ha).1) (s_pretm _ ha).2
theorem s_pcrewm : ∀ a ∈ stL, (a, 12, a + 10) ∈ ptL ∧ a + 10 ≠ 0 := by decide +kernel
theorem s_pcrew {h : aH} {a : Nat} (hS : Sh h) (ha : a ∈ stL) : gr h 10 (a) 12 = some (a + 10) := gr_ok9 (s_cS hS ha) (hS.2.2 _ (s_pcrewm _ ha).1) (s_pcrewm _ ha).2
theorem s_plogm : ∀ a ∈ stL, (a, 14, a + 11) ∈ ptL ∧ a + 11 ≠ 0 := by decide +kernel
theorem s_plog {h : aH} {a : Nat} (hS : Sh h) (ha : a ∈ stL) : gr h 10 (a) 14 = some (a + 11) := gr_ok9 (s_cS hS ha) (hS.2.2 _ (s_plogm _ ha).1) (s_plogm _ ha).2
theorem s_plcostsm : ∀ a ∈ stL, (a + 11, 1, a + 12) ∈ ptL ∧ a + 12 ≠ 0 := by decide +kernel
theorem s_plcosts {h : aH} {a : Nat} (hS : Sh h) (ha : a ∈ stL) : gr h 0 (a + 11) 1 = some (a + 12) := gr_ok9 (s_cL hS ha) (hS.2.2 _ (s_plcostsm _ ha).1) (s_plcostsm _ ha).2
theorem s_plcomersm : ∀ a ∈ stL, (a + 11, 3, a + 13) ∈ ptL ∧ a + 13 ≠ 0 := by decide +kernel
theorem s_plcomers {h : aH} {a : Nat} (hS : Sh h) (ha : a ∈ stL) : gr h 0 (a + 11) 3 = some (a + 13) := gr_ok9 (s_cL hS ha) (hS.2.2 _ (s_plcomersm _ ha).1) (s_plcomersm _ ha).2
theorem s_plleaversm : ∀ a ∈ stL, (a + 11, 4, a + 14) ∈ ptL ∧ a + 14 ≠ 0 := by decide +kernel
theorem s_plleavers {h : aH} {a : Nat} (hS : Sh h) (ha : a ∈ stL) : gr h 0 (a + 11) 4 = some (a + 14) := gr_ok9 (s_cL hS ha) (hS.2.2 _ (s_plleaversm _ ha).1) (s_plleaversm _ ha).2
theorem s_plengsm : ∀ a ∈ stL, (a + 11, 5, a + 15) ∈ ptL ∧ a + 15 ≠ 0 := by decide +kernel
theorem s_plengs {h : aH} {a : Nat} (hS : Sh h) (ha : a ∈ stL) : gr h 0 (a + 11) 5 = some (a + 15) := gr_ok9 (s_cL hS ha) (hS.2.2 _ (s_plengsm _ ha).1) (s_plengsm _ ha).2
theorem s_pltimesm : ∀ a ∈ stL, (a + 11, 6, a + 16) ∈ ptL ∧ a + 16 ≠ 0 := by decide +kernel
theorem s_pltimes {h : aH} {a : Nat} (hS : Sh h) (ha : a ∈ stL) : gr h 0 (a + 11) 6 = some (a + 16) := gr_ok9 (s_cL hS ha) (hS.2.2 _ (s_pltimesm _ ha).1) (s_pltimesm _ ha).2
theorem s_plcrewsm : ∀ a ∈ stL, (a + 11, 7, a + 17) ∈ ptL ∧ a + 17 ≠ 0 := by decide +kernel
theorem s_plcrews {h : aH} {a : Nat} (hS : Sh h) (ha : a ∈ stL) : gr h 0 (a + 11) 7 = some (a + 17) := gr_ok9 (s_cL hS ha) (hS.2.2 _ (s_plcrewsm _ ha).1) (s_plcrewsm _ ha).2
theorem p_cPm : ∀ P ∈ plL, (P, 18, 0) ∈ shL := by decide +kernel
theorem p_cP {h : aH} {P : Nat} (hS : Sh h) (ha : P ∈ plL) : h_sh h (P) = 10 + 8 := (hS.2.1 _ (p_cPm _ ha)).1
theorem p_cP_gi {h : aH} {P : Nat} (hS : Sh h) (ha : P ∈ plL) (k : Nat) : gi h 8 (P) k = some (h_iv h (P) k) := gi_ok (p_cP hS ha)
theorem p_cP_gL {h : aH} {P : Nat} (hS : Sh h) (ha : P ∈ plL) (k : Nat) : gL h 8 (P) k = some (h_lv h (P) k) := gL_ok (p_cP hS ha)
theorem p_cP_pi {h : aH} {P : Nat} (hS : Sh h) (ha : P ∈ plL) (k : Nat) (x : Int32) : pi h 8 (P) k x = some (h_si h (P) k x) := pi_ok (p_cP hS ha)
theorem p_cP_pL {h : aH} {P : Nat} (hS : Sh h) (ha : P ∈ plL) (k : Nat) (x : Int64) : pL h 8 (P) k x = some (h_sL h (P) k x) := pL_ok (p_cP hS ha)
theorem p_cP_gS {h : aH} {P : Nat} (hS : Sh h) (ha : P ∈ plL) {γ : Type} (z : Option γ) : gS h 8 (P) z = z := gS_ok (p_cP hS ha)
theorem p_cNm : ∀ P ∈ plL, (P + 1, 15, 0) ∈ shL := by decide +kernel
theorem p_cN {h : aH} {P : Nat} (hS : Sh h) (ha : P ∈ plL) : h_sh h (P + 1) = 10 + 5 := (hS.2.1 _ (p_cNm _ ha)).1
theorem p_cN_gi {h : aH} {P : Nat} (hS : Sh h) (ha : P ∈ plL) (k : Nat) : gi h 5 (P + 1) k = some (h_iv h (P + 1) k) := gi_ok (p_cN hS ha)
theorem p_cN_gL {h : aH} {P : Nat} (hS : Sh h) (ha : P ∈ plL) (k : Nat) : gL h 5 (P + 1) k = some (h_lv h (P + 1) k) := gL_ok (p_cN hS ha)
theorem p_cN_pi {h : aH} {P : Nat} (hS : Sh h) (ha : P ∈ plL) (k : Nat) (x : Int32) : pi h 5 (P + 1) k x = some (h_si h (P + 1) k x) := pi_ok (p_cN hS ha)
theorem p_cN_pL {h : aH} {P : Nat} (hS : Sh h) (ha : P ∈ plL) (k : Nat) (x : Int64) : pL h 5 (P + 1) k x = some (h_sL h (P + 1) k x) := pL_ok (p_cN hS ha)
theorem p_cN_gS {h : aH} {P : Nat} (hS : Sh h) (ha : P ∈ plL) {γ : Type} (z : Option γ) : gS h 5 (P + 1) z = z := gS_ok (p_cN hS ha)
theorem p_cpsm : ∀ P ∈ plL, (P + 2, 6, 12) ∈ shL := by decide +kernel
theorem p_cps {h : aH} {P : Nat} (hS : Sh h) (ha : P ∈ plL) : h_sh h (P + 2) = 6 ∧ h_ln h (P + 2) = 12 := ⟨(hS.2.1 _ (p_cpsm _ ha)).1, (hS.2.1 _ (p_cpsm _ ha)).2 (show (6 : Nat) < 10 by decide)⟩
theorem p_cps_ln {h : aH} {P : Nat} (hS : Sh h) (ha : P ∈ plL) : aln h (P + 2) = some (nI 12) := aln_ok (p_cps hS ha).1 (by decide) (by decide) (p_cps hS ha).2
theorem p_ctrm : ∀ P ∈ plL, (P + 3, 1, 144) ∈ shL := by decide +kernel
theorem p_ctr {h : aH} {P : Nat} (hS : Sh h) (ha : P ∈ plL) : h_sh h (P + 3) = 1 ∧ h_ln h (P + 3) = 144 := ⟨(hS.2.1 _ (p_ctrm _ ha)).1, (hS.2.1 _ (p_ctrm _ ha)).2 (show (1 : Nat) < 10 by decide)⟩
theorem p_ctr_al {h : aH} {P : Nat} (hS : Sh h) (ha : P ∈ plL) {n : Nat} (hn : n < 144) : ali h 1 (P + 3) (nI n) = some (h_iv h (P + 3) n) := ali_ok (p_ctr hS ha).1 (p_ctr hS ha).2 hn (by omega)
theorem p_ctr_as {h : aH} {P : Nat} (hS : Sh h) (ha : P ∈ plL) {n : Nat} (x : Int32) (hn : n < 144) : asi h (P + 3) (nI n) x = some (h_si h (P + 3) n x) := asi_ok (p_ctr hS ha).1 (p_ctr hS ha).2 hn (by omega)
theorem p_ctr_ln {h : aH} {P : Nat} (hS : Sh h) (ha : P ∈ plL) : aln h (P + 3) = some (nI 144) := aln_ok (p_ctr hS ha).1 (by decide) (by decide) (p_ctr hS ha).2
theorem p_cgsm : ∀ P ∈ plL, (P + 4, 7, 6) ∈ shL := by decide +kernel
theorem p_cgs {h : aH} {P : Nat} (hS : Sh h) (ha : P ∈ plL) : h_sh h (P + 4) = 7 ∧ h_ln h (P + 4) = 6 := ⟨(hS.2.1 _ (p_cgsm _ ha)).1, (hS.2.1 _ (p_cgsm _ ha)).2 (show (7 : Nat) < 10 by decide)⟩
theorem p_cgs_ln {h : aH} {P : Nat} (hS : Sh h) (ha : P ∈ plL) : aln h (P + 4) = some (nI 6) := aln_ok (p_cgs hS ha).1 (by decide) (by decide) (p_cgs hS ha).2
theorem p_cesm : ∀ P ∈ plL, (P + 5, 8, 5) ∈ shL := by decide +kernel
theorem p_ces {h : aH} {P : Nat} (hS : Sh h) (ha : P ∈ plL) : h_sh h (P + 5) = 8 ∧ h_ln h (P + 5) = 5 := ⟨(hS.2.1 _ (p_cesm _ ha)).1, (hS.2.1 _ (p_cesm _ ha)).2 (show (8 : Nat) < 10 by decide)⟩
theorem p_ces_ln {h : aH} {P : Nat} (hS : Sh h) (ha : P ∈ plL) : aln h (P + 5) = some (nI 5) := aln_ok (p_ces hS ha).1 (by decide) (by decide) (p_ces hS ha).2
theorem p_cksm : ∀ P ∈ plL, (P + 6, 9, 6) ∈ shL := by decide +kernel
theorem p_cks {h : aH} {P : Nat} (hS : Sh h) (ha : P ∈ plL) : h_sh h (P + 6) = 9 ∧ h_ln h (P + 6) = 6 := ⟨(hS.2.1 _ (p_cksm _ ha)).1, (hS.2.1 _ (p_cksm _ ha)).2 (show (9 : Nat) < 10 by decide)⟩
theorem p_cks_ln {h : aH} {P : Nat} (hS : Sh h) (ha : P ∈ plL) : aln h (P + 6) = some (nI 6) := aln_ok (p_cks hS ha).1 (by decide) (by decide) (p_cks hS ha).2
theorem p_cablem : ∀ P ∈ plL, (P + 7, 1, 32) ∈ shL := by decide +kernel
theorem p_cable {h : aH} {P : Nat} (hS : Sh h) (ha : P ∈ plL) : h_sh h (P + 7) = 1 ∧ h_ln h (P + 7) = 32 := ⟨(hS.2.1 _ (p_cablem _ ha)).1, (hS.2.1 _ (p_cablem _ ha)).2 (show (1 : Nat) < 10 by decide)⟩
theorem p_cable_al {h : aH} {P : Nat} (hS : Sh h) (ha : P ∈ plL) {n : Nat} (hn : n < 32) : ali h 1 (P + 7) (nI n) = some (h_iv h (P + 7) n) := ali_ok (p_cable hS ha).1 (p_cable hS ha).2 hn (by omega)
theorem p_cable_as {h : aH} {P : Nat} (hS : Sh h) (ha : P ∈ plL) {n : Nat} (x : Int32) (hn : n < 32) : asi h (P + 7) (nI n) x = some (h_si h (P + 7) n x) := asi_ok (p_cable hS ha).1 (p_cable hS ha).2 hn (by omega)
theorem p_cable_ln {h : aH} {P : Nat} (hS : Sh h) (ha : P ∈ plL) : aln h (P + 7) = some (nI 32) := aln_ok (p_cable hS ha).1 (by decide) (by decide) (p_cable hS ha).2
theorem p_pNm : ∀ P ∈ plL, (P, 0, P + 1) ∈ ptL ∧ P + 1 ≠ 0 := by decide +kernel
theorem p_pN {h : aH} {P : Nat} (hS : Sh h) (ha : P ∈ plL) : gr h 8 (P) 0 = some (P + 1) := gr_ok9 (p_cP hS ha) (hS.2.2 _ (p_pNm _ ha).1) (p_pNm _ ha).2
theorem p_ppsm : ∀ P ∈ plL, (P, 2, P + 2) ∈ ptL ∧ P + 2 ≠ 0 := by decide +kernel
theorem p_pps {h : aH} {P : Nat} (hS : Sh h) (ha : P ∈ plL) : gr h 8 (P) 2 = some (P + 2) := gr_ok9 (p_cP hS ha) (hS.2.2 _ (p_ppsm _ ha).1) (p_ppsm _ ha).2
theorem p_ptrm : ∀ P ∈ plL, (P, 4, P + 3) ∈ ptL ∧ P + 3 ≠ 0 := by decide +kernel
theorem p_ptr {h : aH} {P : Nat} (hS : Sh h) (ha : P ∈ plL) : gr h 8 (P) 4 = some (P + 3) := gr_ok9 (p_cP hS ha) (hS.2.2 _ (p_ptrm _ ha).1) (p_ptrm _ ha).2
theorem p_pgsm : ∀ P ∈ plL, (P, 6, P + 4) ∈ ptL ∧ P + 4 ≠ 0 := by decide +kernel
theorem p_pgs {h : aH} {P : Nat} (hS : Sh h) (ha : P ∈ plL) : gr h 8 (P) 6 = some (P + 4) := gr_ok9 (p_cP hS ha) (hS.2.2 _ (p_pgsm _ ha).1) (p_pgsm _ ha).2
theorem p_pesm : ∀ P ∈ plL, (P, 8, P + 5) ∈ ptL ∧ P + 5 ≠ 0 := by decide +kernel
theorem p_pes {h : aH} {P : Nat} (hS : Sh h) (ha : P ∈ plL) : gr h 8 (P) 8 = some (P + 5) := gr_ok9 (p_cP hS ha) (hS.2.2 _ (p_pesm _ ha).1) (p_pesm _ ha).2
theorem p_pksm : ∀ P ∈ plL, (P, 10, P + 6) ∈ ptL ∧ P + 6 ≠ 0 := by decide +kernel
theorem p_pks {h : aH} {P : Nat} (hS : Sh h) (ha : P ∈ plL) : gr h 8 (P) 10 = some (P + 6) := gr_ok9 (p_cP hS ha) (hS.2.2 _ (p_pksm _ ha).1) (p_pksm _ ha).2
theorem p_pablem : ∀ P ∈ plL, (P, 11, P + 7) ∈ ptL ∧ P + 7 ≠ 0 := by decide +kernel
theorem p_pable {h : aH} {P : Nat} (hS : Sh h) (ha : P ∈ plL) : gr h 8 (P) 11 = some (P + 7) := gr_ok9 (p_cP hS ha) (hS.2.2 _ (p_pablem _ ha).1) (p_pablem _ ha).2
theorem p_epm : ∀ P ∈ plL, ∀ i, i < 12 → (P + 2, i, P + 8 + 1 * i) ∈ ptL ∧ (P + 8 + 1 * i, 17, 0) ∈ shL ∧ P + 8 + 1 * i ≠ 0 := by decide +kernel
theorem p_ep_al {h : aH} {P : Nat} (hS : Sh h) (ha : P ∈ plL) {i : Nat} (hi : i < 12) : alr h 6 (P + 2) (nI i) = some (P + 8 + 1 * i) := alr_ok (p_cps hS ha).1 (p_cps hS ha).2 hi (by omega) (hS.2.2 _ (p_epm P ha i hi).1) (p_epm P ha i hi).2.2
theorem p_ep {h : aH} {P : Nat} (hS : Sh h) (ha : P ∈ plL) {i : Nat} (hi : i < 12) : h_sh h (P + 8 + 1 * i) = 10 + 7 := (hS.2.1 _ (p_epm P ha i hi).2.1).1
theorem p_ep_gi {h : aH} {P : Nat} (hS : Sh h) (ha : P ∈ plL) {i : Nat} (hi : i < 12) (k : Nat) : gi h 7 (P + 8 + 1 * i) k = some (h_iv h (P + 8 + 1 * i) k) := gi_ok (p_ep hS ha hi)
theorem p_ep_gL {h : aH} {P : Nat} (hS : Sh h) (ha : P ∈ plL) {i : Nat} (hi : i < 12) (k : Nat) : gL h 7 (P + 8 + 1 * i) k = some (h_lv h (P + 8 + 1 * i) k) := gL_ok (p_ep hS ha hi)
theorem p_ep_pi {h : aH} {P : Nat} (hS : Sh h) (ha : P ∈ plL) {i : Nat} (hi : i < 12) (k : Nat) (x : Int32) : pi h 7 (P + 8 + 1 * i) k x = some (h_si h (P + 8 + 1 * i) k x) := pi_ok (p_ep hS ha hi)
theorem p_ep_pL {h : aH} {P : Nat} (hS : Sh h) (ha : P ∈ plL) {i : Nat} (hi : i < 12) (k : Nat) (x : Int64) : pL h 7 (P + 8 + 1 * i) k x = some (h_sL h (P + 8 + 1 * i) k x) := pL_ok (p_ep hS ha hi)
theorem p_ep_gS {h : aH} {P : Nat} (hS : Sh h) (ha : P ∈ plL) {i : Nat} (hi : i < 12) {γ : Type} (z : Option γ) : gS h 7 (P + 8 + 1 * i) z = z := gS_ok (p_ep hS ha hi)
theorem p_egm : ∀ P ∈ plL, ∀ i, i < 6 → (P + 4, i, P + 20 + 2 * i) ∈ ptL ∧ (P + 20 + 2 * i, 16, 0) ∈ shL ∧ P + 20 + 2 * i ≠ 0 := by decide +kernel
theorem p_eg_al {h : aH} {P : Nat} (hS : Sh h) (ha : P ∈ plL) {i : Nat} (hi : i < 6) : alr h 7 (P + 4) (nI i) = some (P + 20 + 2 * i) := alr_ok (p_cgs hS ha).1 (p_cgs hS ha).2 hi (by omega) (hS.2.2 _ (p_egm P ha i hi).1) (p_egm P ha i hi).2.2
theorem p_eg {h : aH} {P : Nat} (hS : Sh h) (ha : P ∈ plL) {i : Nat} (hi : i < 6) : h_sh h (P + 20 + 2 * i) = 10 + 6 := (hS.2.1 _ (p_egm P ha i hi).2.1).1
theorem p_eg_gi {h : aH} {P : Nat} (hS : Sh h) (ha : P ∈ plL) {i : Nat} (hi : i < 6) (k : Nat) : gi h 6 (P + 20 + 2 * i) k = some (h_iv h (P + 20 + 2 * i) k) := gi_ok (p_eg hS ha hi)
theorem p_eg_gL {h : aH} {P : Nat} (hS : Sh h) (ha : P ∈ plL) {i : Nat} (hi : i < 6) (k : Nat) : gL h 6 (P + 20 + 2 * i) k = some (h_lv h (P + 20 + 2 * i) k) := gL_ok (p_eg hS ha hi)
theorem p_eg_pi {h : aH} {P : Nat} (hS : Sh h) (ha : P ∈ plL) {i : Nat} (hi : i < 6) (k : Nat) (x : Int32) : pi h 6 (P + 20 + 2 * i) k x = some (h_si h (P + 20 + 2 * i) k x) := pi_ok (p_eg hS ha hi)
theorem p_eg_pL {h : aH} {P : Nat} (hS : Sh h) (ha : P ∈ plL) {i : Nat} (hi : i < 6) (k : Nat) (x : Int64) : pL h 6 (P + 20 + 2 * i) k x = some (h_sL h (P + 20 + 2 * i) k x) := pL_ok (p_eg hS ha hi)
theorem p_eg_gS {h : aH} {P : Nat} (hS : Sh h) (ha : P ∈ plL) {i : Nat} (hi : i < 6) {γ : Type} (z : Option γ) : gS h 6 (P + 20 + 2 * i) z = z := gS_ok (p_eg hS ha hi)
theorem p_egrm : ∀ P ∈ plL, ∀ i, i < 6 → (P + 20 + 2 * i, 4, P + 21 + 2 * i) ∈ ptL ∧ (P + 21 + 2 * i, 1, 8) ∈ shL ∧ P + 21 + 2 * i ≠ 0 := by decide +kernel
theorem p_egr_p {h : aH} {P : Nat} (hS : Sh h) (ha : P ∈ plL) {i : Nat} (hi : i < 6) : gr h 6 (P + 20 + 2 * i) 4 = some (P + 21 + 2 * i) := gr_ok9 (p_eg hS ha hi) (hS.2.2 _ (p_egrm P ha i hi).1) (p_egrm P ha i hi).2.2
theorem p_egr {h : aH} {P : Nat} (hS : Sh h) (ha : P ∈ plL) {i : Nat} (hi : i < 6) : h_sh h (P + 21 + 2 * i) = 1 ∧ h_ln h (P + 21 + 2 * i) = 8 := ⟨(hS.2.1 _ (p_egrm P ha i hi).2.1).1, (hS.2.1 _ (p_egrm P ha i hi).2.1).2 (show (1 : Nat) < 10 by decide)⟩
theorem p_egr_al {h : aH} {P : Nat} (hS : Sh h) (ha : P ∈ plL) {i : Nat} (hi : i < 6) {n : Nat} (hn : n < 8) : ali h 1 (P + 21 + 2 * i) (nI n) = some (h_iv h (P + 21 + 2 * i) n) := ali_ok (p_egr hS ha hi).1 (p_egr hS ha hi).2 hn (by omega)
theorem p_egr_as {h : aH} {P : Nat} (hS : Sh h) (ha : P ∈ plL) {i : Nat} (hi : i < 6) {n : Nat} (x : Int32) (hn : n < 8) : asi h (P + 21 + 2 * i) (nI n) x = some (h_si h (P + 21 + 2 * i) n x) := asi_ok (p_egr hS ha hi).1 (p_egr hS ha hi).2 hn (by omega)
theorem p_egr_ln {h : aH} {P : Nat} (hS : Sh h) (ha : P ∈ plL) {i : Nat} (hi : i < 6) : aln h (P + 21 + 2 * i) = some (nI 8) := aln_ok (p_egr hS ha hi).1 (by decide) (by decide) (p_egr hS ha hi).2
theorem p_eem : ∀ P ∈ plL, ∀ i, i < 5 → (P + 5, i, P + 32 + 3 * i) ∈ ptL ∧ (P + 32 + 3 * i, 11, 0) ∈ shL ∧ P + 32 + 3 * i ≠ 0 := by decide +kernel
theorem p_ee_al {h : aH} {P : Nat} (hS : Sh h) (ha : P ∈ plL) {i : Nat} (hi : i < 5) : alr h 8 (P + 5) (nI i) = some (P + 32 + 3 * i) := alr_ok (p_ces hS ha).1 (p_ces hS ha).2 hi (by omega) (hS.2.2 _ (p_eem P ha i hi).1) (p_eem P ha i hi).2.2
theorem p_ee {h : aH} {P : Nat} (hS : Sh h) (ha : P ∈ plL) {i : Nat} (hi : i < 5) : h_sh h (P + 32 + 3 * i) = 10 + 1 := (hS.2.1 _ (p_eem P ha i hi).2.1).1
theorem p_ee_gi {h : aH} {P : Nat} (hS : Sh h) (ha : P ∈ plL) {i : Nat} (hi : i < 5) (k : Nat) : gi h 1 (P + 32 + 3 * i) k = some (h_iv h (P + 32 + 3 * i) k) := gi_ok (p_ee hS ha hi)
theorem p_ee_gL {h : aH} {P : Nat} (hS : Sh h) (ha : P ∈ plL) {i : Nat} (hi : i < 5) (k : Nat) : gL h 1 (P + 32 + 3 * i) k = some (h_lv h (P + 32 + 3 * i) k) := gL_ok (p_ee hS ha hi)
theorem p_ee_pi {h : aH} {P : Nat} (hS : Sh h) (ha : P ∈ plL) {i : Nat} (hi : i < 5) (k : Nat) (x : Int32) : pi h 1 (P + 32 + 3 * i) k x = some (h_si h (P + 32 + 3 * i) k x) := pi_ok (p_ee hS ha hi)
theorem p_ee_pL {h : aH} {P : Nat} (hS : Sh h) (ha : P ∈ plL) {i : Nat} (hi : i < 5) (k : Nat) (x : Int64) : pL h 1 (P + 32 + 3 * i) k x = some (h_sL h (P + 32 + 3 * i) k x) := pL_ok (p_ee hS ha hi)
theorem p_ee_gS {h : aH} {P : Nat} (hS : Sh h) (ha : P ∈ plL) {i : Nat} (hi : i < 5) {γ : Type} (z : Option γ) : gS h 1 (P + 32 + 3 * i) z = z := gS_ok (p_ee hS ha hi)
theorem p_eesm : ∀ P ∈ plL, ∀ i, i < 5 → (P + 32 + 3 * i, 3, P + 33 + 3 * i) ∈ ptL ∧ (P + 33 + 3 * i, 1, 6) ∈ shL ∧ P + 33 + 3 * i ≠ 0 := by decide +kernel
theorem p_ees_p {h : aH} {P : Nat} (hS : Sh h) (ha : P ∈ plL) {i : Nat} (hi : i < 5) : gr h 1 (P + 32 + 3 * i) 3 = some (P + 33 + 3 * i) := gr_ok9 (p_ee hS ha hi) (hS.2.2 _ (p_eesm P ha i hi).1) (p_eesm P ha i hi).2.2
theorem p_ees {h : aH} {P : Nat} (hS : Sh h) (ha : P ∈ plL) {i : Nat} (hi : i < 5) : h_sh h (P + 33 + 3 * i) = 1 ∧ h_ln h (P + 33 + 3 * i) = 6 := ⟨(hS.2.1 _ (p_eesm P ha i hi).2.1).1, (hS.2.1 _ (p_eesm P ha i hi).2.1).2 (show (1 : Nat) < 10 by decide)⟩
theorem p_ees_al {h : aH} {P : Nat} (hS : Sh h) (ha : P ∈ plL) {i : Nat} (hi : i < 5) {n : Nat} (hn : n < 6) : ali h 1 (P + 33 + 3 * i) (nI n) = some (h_iv h (P + 33 + 3 * i) n) := ali_ok (p_ees hS ha hi).1 (p_ees hS ha hi).2 hn (by omega)
theorem p_ees_as {h : aH} {P : Nat} (hS : Sh h) (ha : P ∈ plL) {i : Nat} (hi : i < 5) {n : Nat} (x : Int32) (hn : n < 6) : asi h (P + 33 + 3 * i) (nI n) x = some (h_si h (P + 33 + 3 * i) n x) := asi_ok (p_ees hS ha hi).1 (p_ees hS ha hi).2 hn (by omega)
theorem p_ees_ln {h : aH} {P : Nat} (hS : Sh h) (ha : P ∈ plL) {i : Nat} (hi : i < 5) : aln h (P + 33 + 3 * i) = some (nI 6) := aln_ok (p_ees hS ha hi).1 (by decide) (by decide) (p_ees hS ha hi).2
theorem p_eedm : ∀ P ∈ plL, ∀ i, i < 5 → (P + 32 + 3 * i, 4, P + 34 + 3 * i) ∈ ptL ∧ (P + 34 + 3 * i, 1, 32) ∈ shL ∧ P + 34 + 3 * i ≠ 0 := by decide +kernel
theorem p_eed_p {h : aH} {P : Nat} (hS : Sh h) (ha : P ∈ plL) {i : Nat} (hi : i < 5) : gr h 1 (P + 32 + 3 * i) 4 = some (P + 34 + 3 * i) := gr_ok9 (p_ee hS ha hi) (hS.2.2 _ (p_eedm P ha i hi).1) (p_eedm P ha i hi).2.2
theorem p_eed {h : aH} {P : Nat} (hS : Sh h) (ha : P ∈ plL) {i : Nat} (hi : i < 5) : h_sh h (P + 34 + 3 * i) = 1 ∧ h_ln h (P + 34 + 3 * i) = 32 := ⟨(hS.2.1 _ (p_eedm P ha i hi).2.1).1, (hS.2.1 _ (p_eedm P ha i hi).2.1).2 (show (1 : Nat) < 10 by decide)⟩
theorem p_eed_al {h : aH} {P : Nat} (hS : Sh h) (ha : P ∈ plL) {i : Nat} (hi : i < 5) {n : Nat} (hn : n < 32) : ali h 1 (P + 34 + 3 * i) (nI n) = some (h_iv h (P + 34 + 3 * i) n) := ali_ok (p_eed hS ha hi).1 (p_eed hS ha hi).2 hn (by omega)
theorem p_eed_as {h : aH} {P : Nat} (hS : Sh h) (ha : P ∈ plL) {i : Nat} (hi : i < 5) {n : Nat} (x : Int32) (hn : n < 32) : asi h (P + 34 + 3 * i) (nI n) x = some (h_si h (P + 34 + 3 * i) n x) := asi_ok (p_eed hS ha hi).1 (p_eed hS ha hi).2 hn (by omega)
theorem p_eed_ln {h : aH} {P : Nat} (hS : Sh h) (ha : P ∈ plL) {i : Nat} (hi : i < 5) : aln h (P + 34 + 3 * i) = some (nI 32) := aln_ok (p_eed hS ha hi).1 (by decide) (by decide) (p_eed hS ha hi).2
theorem p_ekm : ∀ P ∈ plL, ∀ i, i < 6 → (P + 6, i, P + 47 + 3 * i) ∈ ptL ∧ (P + 47 + 3 * i, 13, 0) ∈ shL ∧ P + 47 + 3 * i ≠ 0 := by decide +kernel
theorem p_ek_al {h : aH} {P : Nat} (hS : Sh h) (ha : P ∈ plL) {i : Nat} (hi : i < 6) : alr h 9 (P + 6) (nI i) = some (P + 47 + 3 * i) := alr_ok (p_cks hS ha).1 (p_cks hS ha).2 hi (by omega) (hS.2.2 _ (p_ekm P ha i hi).1) (p_ekm P ha i hi).2.2
theorem p_ek {h : aH} {P : Nat} (hS : Sh h) (ha : P ∈ plL) {i : Nat} (hi : i < 6) : h_sh h (P + 47 + 3 * i) = 10 + 3 := (hS.2.1 _ (p_ekm P ha i hi).2.1).1
theorem p_ek_gi {h : aH} {P : Nat} (hS : Sh h) (ha : P ∈ plL) {i : Nat} (hi : i < 6) (k : Nat) : gi h 3 (P + 47 + 3 * i) k = some (h_iv h (P + 47 + 3 * i) k) := gi_ok (p_ek hS ha hi)
theorem p_ek_gL {h : aH} {P : Nat} (hS : Sh h) (ha : P ∈ plL) {i : Nat} (hi : i < 6) (k : Nat) : gL h 3 (P + 47 + 3 * i) k = some (h_lv h (P + 47 + 3 * i) k) := gL_ok (p_ek hS ha hi)
theorem p_ek_pi {h : aH} {P : Nat} (hS : Sh h) (ha : P ∈ plL) {i : Nat} (hi : i < 6) (k : Nat) (x : Int32) : pi h 3 (P + 47 + 3 * i) k x = some (h_si h (P + 47 + 3 * i) k x) := pi_ok (p_ek hS ha hi)
theorem p_ek_pL {h : aH} {P : Nat} (hS : Sh h) (ha : P ∈ plL) {i : Nat} (hi : i < 6) (k : Nat) (x : Int64) : pL h 3 (P + 47 + 3 * i) k x = some (h_sL h (P + 47 + 3 * i) k x) := pL_ok (p_ek hS ha hi)
theorem p_ek_gS {h : aH} {P : Nat} (hS : Sh h) (ha : P ∈ plL) {i : Nat} (hi : i < 6) {γ : Type} (z : Option γ) : gS h 3 (P + 47 + 3 * i) z = z := gS_ok (p_ek hS ha hi)
theorem p_ekgm : ∀ P ∈ plL, ∀ i, i < 6 → (P + 47 + 3 * i, 5, P + 48 + 3 * i) ∈ ptL ∧ (P + 48 + 3 * i, 1, 6) ∈ shL ∧ P + 48 + 3 * i ≠ 0 := by decide +kernel
theorem p_ekg_p {h : aH} {P : Nat} (hS : Sh h) (ha : P ∈ plL) {i : Nat} (hi : i < 6) : gr h 3 (P + 47 + 3 * i) 5 = some (P + 48 + 3 * i) := gr_ok9 (p_ek hS ha hi) (hS.2.2 _ (p_ekgm P ha i hi).1) (p_ekgm P ha i hi).2.2
theorem p_ekg {h : aH} {P : Nat} (hS : Sh h) (ha : P ∈ plL) {i : Nat} (hi : i < 6) : h_sh h (P + 48 + 3 * i) = 1 ∧ h_ln h (P + 48 + 3 * i) = 6 := ⟨(hS.2.1 _ (p_ekgm P ha i hi).2.1).1, (hS.2.1 _ (p_ekgm P ha i hi).2.1).2 (show (1 : Nat) < 10 by decide)⟩
theorem p_ekg_al {h : aH} {P : Nat} (hS : Sh h) (ha : P ∈ plL) {i : Nat} (hi : i < 6) {n : Nat} (hn : n < 6) : ali h 1 (P + 48 + 3 * i) (nI n) = some (h_iv h (P + 48 + 3 * i) n) := ali_ok (p_ekg hS ha hi).1 (p_ekg hS ha hi).2 hn (by omega)
theorem p_ekg_as {h : aH} {P : Nat} (hS : Sh h) (ha : P ∈ plL) {i : Nat} (hi : i < 6) {n : Nat} (x : Int32) (hn : n < 6) : asi h (P + 48 + 3 * i) (nI n) x = some (h_si h (P + 48 + 3 * i) n x) := asi_ok (p_ekg hS ha hi).1 (p_ekg hS ha hi).2 hn (by omega)
theorem p_ekg_ln {h : aH} {P : Nat} (hS : Sh h) (ha : P ∈ plL) {i : Nat} (hi : i < 6) : aln h (P + 48 + 3 * i) = some (nI 6) := aln_ok (p_ekg hS ha hi).1 (by decide) (by decide) (p_ekg hS ha hi).2
theorem p_ekem : ∀ P ∈ plL, ∀ i, i < 6 → (P + 47 + 3 * i, 7, P + 49 + 3 * i) ∈ ptL ∧ (P + 49 + 3 * i, 1, 5) ∈ shL ∧ P + 49 + 3 * i ≠ 0 := by decide +kernel
theorem p_eke_p {h : aH} {P : Nat} (hS : Sh h) (ha : P ∈ plL) {i : Nat} (hi : i < 6) : gr h 3 (P + 47 + 3 * i) 7 = some (P + 49 + 3 * i) := gr_ok9 (p_ek hS ha hi) (hS.2.2 _ (p_ekem P ha i hi).1) (p_ekem P ha i hi).2.2
theorem p_eke {h : aH} {P : Nat} (hS : Sh h) (ha : P ∈ plL) {i : Nat} (hi : i < 6) : h_sh h (P + 49 + 3 * i) = 1 ∧ h_ln h (P + 49 + 3 * i) = 5 := ⟨(hS.2.1 _ (p_ekem P ha i hi).2.1).1, (hS.2.1 _ (p_ekem P ha i hi).2.1).2 (show (1 : Nat) < 10 by decide)⟩
theorem p_eke_al {h : aH} {P : Nat} (hS : Sh h) (ha : P ∈ plL) {i : Nat} (hi : i < 6) {n : Nat} (hn : n < 5) : ali h 1 (P + 49 + 3 * i) (nI n) = some (h_iv h (P + 49 + 3 * i) n) := ali_ok (p_eke hS ha hi).1 (p_eke hS ha hi).2 hn (by omega)
theorem p_eke_as {h : aH} {P : Nat} (hS : Sh h) (ha : P ∈ plL) {i : Nat} (hi : i < 6) {n : Nat} (x : Int32) (hn : n < 5) : asi h (P + 49 + 3 * i) (nI n) x = some (h_si h (P + 49 + 3 * i) n x) := asi_ok (p_eke hS ha hi).1 (p_eke hS ha hi).2 hn (by omega)
theorem p_eke_ln {h : aH} {P : Nat} (hS : Sh h) (ha : P ∈ plL) {i : Nat} (hi : i < 6) : aln h (P + 49 + 3 * i) = some (nI 5) := aln_ok (p_eke hS ha hi).1 (by decide) (by decide) (p_eke hS ha hi).2
theorem r_cMm : (398, 22, 0) ∈ shL := List.mem_of_getElem? (i := 397) rfl
theorem r_cM {h : aH} (hS : Sh h) : h_sh h (398) = 10 + 12 := (hS.2.1 _ r_cMm).1
theorem r_cM_gi {h : aH} (hS : Sh h) (k : Nat) : gi h 12 (398) k = some (h_iv h (398) k) := gi_ok (r_cM hS)
theorem r_cM_gL {h : aH} (hS : Sh h) (k : Nat) : gL h 12 (398) k = some (h_lv h (398) k) := gL_ok (r_cM hS)
theorem r_cM_pi {h : aH} (hS : Sh h) (k : Nat) (x : Int32) : pi h 12 (398) k x = some (h_si h (398) k x) := pi_ok (r_cM hS)
theorem r_cM_pL {h : aH} (hS : Sh h) (k : Nat) (x : Int64) : pL h 12 (398) k x = some (h_sL h (398) k x) := pL_ok (r_cM hS)
theorem r_cM_gS {h : aH} (hS : Sh h) {γ : Type} (z : Option γ) : gS h 12 (398) z = z := gS_ok (r_cM hS)
theorem r_c399m : (399, 1, 603) ∈ shL := List.mem_of_getElem? (i := 398) rfl
theorem r_c399 {h : aH} (hS : Sh h) : h_sh h (399) = 1 ∧ h_ln h (399) = 603 := ⟨(hS.2.1 _ r_c399m).1, (hS.2.1 _ r_c399m).2 (show (1 : Nat) < 10 by decide)⟩
theorem r_c399_al {h : aH} (hS : Sh h) {n : Nat} (hn : n < 603) : ali h 1 (399) (nI n) = some (h_iv h (399) n) := ali_ok (r_c399 hS).1 (r_c399 hS).2 hn (by omega)
theorem r_c399_as {h : aH} (hS : Sh h) {n : Nat} (x : Int32) (hn : n < 603) : asi h (399) (nI n) x = some (h_si h (399) n x) := asi_ok (r_c399 hS).1 (r_c399 hS).2 hn (by omega)
theorem r_c399_ln {h : aH} (hS : Sh h) : aln h (399) = some (nI 603) := aln_ok (r_c399 hS).1 (by decide) (by decide) (r_c399 hS).2
theorem r_c400m : (400, 1, 6030) ∈ shL := List.mem_of_getElem? (i := 399) rfl
theorem r_c400 {h : aH} (hS : Sh h) : h_sh h (400) = 1 ∧ h_ln h (400) = 6030 := ⟨(hS.2.1 _ r_c400m).1, (hS.2.1 _ r_c400m).2 (show (1 : Nat) < 10 by decide)⟩
theorem r_c400_al {h : aH} (hS : Sh h) {n : Nat} (hn : n < 6030) : ali h 1 (400) (nI n) = some (h_iv h (400) n) := ali_ok (r_c400 hS).1 (r_c400 hS).2 hn (by omega)
theorem r_c400_as {h : aH} (hS : Sh h) {n : Nat} (x : Int32) (hn : n < 6030) : asi h (400) (nI n) x = some (h_si h (400) n x) := asi_ok (r_c400 hS).1 (r_c400 hS).2 hn (by omega)
theorem r_c400_ln {h : aH} (hS : Sh h) : aln h (400) = some (nI 6030) := aln_ok (r_c400 hS).1 (by decide) (by decide) (r_c400 hS).2
theorem r_c401m : (401, 1, 1206) ∈ shL := List.mem_of_getElem? (i := 400) rfl
theorem r_c401 {h : aH} (hS : Sh h) : h_sh h (401) = 1 ∧ h_ln h (401) = 1206 := ⟨(hS.2.1 _ r_c401m).1, (hS.2.1 _ r_c401m).2 (show (1 : Nat) < 10 by decide)⟩
theorem r_c401_al {h : aH} (hS : Sh h) {n : Nat} (hn : n < 1206) : ali h 1 (401) (nI n) = some (h_iv h (401) n) := ali_ok (r_c401 hS).1 (r_c401 hS).2 hn (by omega)
theorem r_c401_as {h : aH} (hS : Sh h) {n : Nat} (x : Int32) (hn : n < 1206) : asi h (401) (nI n) x = some (h_si h (401) n x) := asi_ok (r_c401 hS).1 (r_c401 hS).2 hn (by omega)
theorem r_c401_ln {h : aH} (hS : Sh h) : aln h (401) = some (nI 1206) := aln_ok (r_c401 hS).1 (by decide) (by decide) (r_c401 hS).2
theorem r_c402m : (402, 1, 603) ∈ shL := List.mem_of_getElem? (i := 401) rfl
theorem r_c402 {h : aH} (hS : Sh h) : h_sh h (402) = 1 ∧ h_ln h (402) = 603 := ⟨(hS.2.1 _ r_c402m).1, (hS.2.1 _ r_c402m).2 (show (1 : Nat) < 10 by decide)⟩
theorem r_c402_al {h : aH} (hS : Sh h) {n : Nat} (hn : n < 603) : ali h 1 (402) (nI n) = some (h_iv h (402) n) := ali_ok (r_c402 hS).1 (r_c402 hS).2 hn (by omega)
theorem r_c402_as {h : aH} (hS : Sh h) {n : Nat} (x : Int32) (hn : n < 603) : asi h (402) (nI n) x = some (h_si h (402) n x) := asi_ok (r_c402 hS).1 (r_c402 hS).2 hn (by omega)
theorem r_c402_ln {h : aH} (hS : Sh h) : aln h (402) = some (nI 603) := aln_ok (r_c402 hS).1 (by decide) (by decide) (r_c402 hS).2
theorem r_c403m : (403, 3, 2) ∈ shL := List.mem_of_getElem? (i := 402) rfl
theorem r_c403 {h : aH} (hS : Sh h) : h_sh h (403) = 3 ∧ h_ln h (403) = 2 := ⟨(hS.2.1 _ r_c403m).1, (hS.2.1 _ r_c403m).2 (show (3 : Nat) < 10 by decide)⟩
theorem r_c403_al {h : aH} (hS : Sh h) {n : Nat} (hn : n < 2) : ali h 3 (403) (nI n) = some (h_iv h (403) n) := ali_ok (r_c403 hS).1 (r_c403 hS).2 hn (by omega)
theorem r_c403_as {h : aH} (hS : Sh h) {n : Nat} {x : Int32} (hn : n < 2) (hx : x = 0 ∨ x = 1) : asz h (403) (nI n) x = some (h_si h (403) n x) := asz_ok (r_c403 hS).1 (r_c403 hS).2 hn (by omega) hx
theorem r_c403_ln {h : aH} (hS : Sh h) : aln h (403) = some (nI 2) := aln_ok (r_c403 hS).1 (by decide) (by decide) (r_c403 hS).2
theorem r_c404m : (404, 1, 4) ∈ shL := List.mem_of_getElem? (i := 403) rfl
theorem r_c404 {h : aH} (hS : Sh h) : h_sh h (404) = 1 ∧ h_ln h (404) = 4 := ⟨(hS.2.1 _ r_c404m).1, (hS.2.1 _ r_c404m).2 (show (1 : Nat) < 10 by decide)⟩
theorem r_c404_al {h : aH} (hS : Sh h) {n : Nat} (hn : n < 4) : ali h 1 (404) (nI n) = some (h_iv h (404) n) := ali_ok (r_c404 hS).1 (r_c404 hS).2 hn (by omega)
theorem r_c404_as {h : aH} (hS : Sh h) {n : Nat} (x : Int32) (hn : n < 4) : asi h (404) (nI n) x = some (h_si h (404) n x) := asi_ok (r_c404 hS).1 (r_c404 hS).2 hn (by omega)
theorem r_c404_ln {h : aH} (hS : Sh h) : aln h (404) = some (nI 4) := aln_ok (r_c404 hS).1 (by decide) (by decide) (r_c404 hS).2
theorem r_c405m : (405, 4, 29) ∈ shL := List.mem_of_getElem? (i := 404) rfl
theorem r_c405 {h : aH} (hS : Sh h) : h_sh h (405) = 4 ∧ h_ln h (405) = 29 := ⟨(hS.2.1 _ r_c405m).1, (hS.2.1 _ r_c405m).2 (show (4 : Nat) < 10 by decide)⟩
theorem r_c405_al {h : aH} (hS : Sh h) {n : Nat} (hn : n < 29) : alL h (405) (nI n) = some (h_lv h (405) n) := alL_ok (r_c405 hS).1 (r_c405 hS).2 hn (by omega)
theorem r_c405_as {h : aH} (hS : Sh h) {n : Nat} (x : Int64) (hn : n < 29) : asL h (405) (nI n) x = some (h_sL h (405) n x) := asL_ok (r_c405 hS).1 (r_c405 hS).2 hn (by omega)
theorem r_c405_ln {h : aH} (hS : Sh h) : aln h (405) = some (nI 29) := aln_ok (r_c405 hS).1 (by decide) (by decide) (r_c405 hS).2
theorem r_c406m : (406, 1, 12) ∈ shL := List.mem_of_getElem? (i := 405) rfl
theorem r_c406 {h : aH} (hS : Sh h) : h_sh h (406) = 1 ∧ h_ln h (406) = 12 := ⟨(hS.2.1 _ r_c406m).1, (hS.2.1 _ r_c406m).2 (show (1 : Nat) < 10 by decide)⟩
theorem r_c406_al {h : aH} (hS : Sh h) {n : Nat} (hn : n < 12) : ali h 1 (406) (nI n) = some (h_iv h (406) n) := ali_ok (r_c406 hS).1 (r_c406 hS).2 hn (by omega)
theorem r_c406_as {h : aH} (hS : Sh h) {n : Nat} (x : Int32) (hn : n < 12) : asi h (406) (nI n) x = some (h_si h (406) n x) := asi_ok (r_c406 hS).1 (r_c406 hS).2 hn (by omega)
theorem r_c406_ln {h : aH} (hS : Sh h) : aln h (406) = some (nI 12) := aln_ok (r_c406 hS).1 (by decide) (by decide) (r_c406 hS).2
theorem r_c407m : (407, 1, 12) ∈ shL := List.mem_of_getElem? (i := 406) rfl
theorem r_c407 {h : aH} (hS : Sh h) : h_sh h (407) = 1 ∧ h_ln h (407) = 12 := ⟨(hS.2.1 _ r_c407m).1, (hS.2.1 _ r_c407m).2 (show (1 : Nat) < 10 by decide)⟩
theorem r_c407_al {h : aH} (hS : Sh h) {n : Nat} (hn : n < 12) : ali h 1 (407) (nI n) = some (h_iv h (407) n) := ali_ok (r_c407 hS).1 (r_c407 hS).2 hn (by omega)
theorem r_c407_as {h : aH} (hS : Sh h) {n : Nat} (x : Int32) (hn : n < 12) : asi h (407) (nI n) x = some (h_si h (407) n x) := asi_ok (r_c407 hS).1 (r_c407 hS).2 hn (by omega)
theorem r_c407_ln {h : aH} (hS : Sh h) : aln h (407) = some (nI 12) := aln_ok (r_c407 hS).1 (by decide) (by decide) (r_c407 hS).2
theorem r_c408m : (408, 1, 6) ∈ shL := List.mem_of_getElem? (i := 407) rfl
theorem r_c408 {h : aH} (hS : Sh h) : h_sh h (408) = 1 ∧ h_ln h (408) = 6 := ⟨(hS.2.1 _ r_c408m).1, (hS.2.1 _ r_c408m).2 (show (1 : Nat) < 10 by decide)⟩
theorem r_c408_al {h : aH} (hS : Sh h) {n : Nat} (hn : n < 6) : ali h 1 (408) (nI n) = some (h_iv h (408) n) := ali_ok (r_c408 hS).1 (r_c408 hS).2 hn (by omega)
theorem r_c408_as {h : aH} (hS : Sh h) {n : Nat} (x : Int32) (hn : n < 6) : asi h (408) (nI n) x = some (h_si h (408) n x) := asi_ok (r_c408 hS).1 (r_c408 hS).2 hn (by omega)
theorem r_c408_ln {h : aH} (hS : Sh h) : aln h (408) = some (nI 6) := aln_ok (r_c408 hS).1 (by decide) (by decide) (r_c408 hS).2
theorem r_c409m : (409, 1, 6) ∈ shL := List.mem_of_getElem? (i := 408) rfl
theorem r_c409 {h : aH} (hS : Sh h) : h_sh h (409) = 1 ∧ h_ln h (409) = 6 := ⟨(hS.2.1 _ r_c409m).1, (hS.2.1 _ r_c409m).2 (show (1 : Nat) < 10 by decide)⟩
theorem r_c409_al {h : aH} (hS : Sh h) {n : Nat} (hn : n < 6) : ali h 1 (409) (nI n) = some (h_iv h (409) n) := ali_ok (r_c409 hS).1 (r_c409 hS).2 hn (by omega)
theorem r_c409_as {h : aH} (hS : Sh h) {n : Nat} (x : Int32) (hn : n < 6) : asi h (409) (nI n) x = some (h_si h (409) n x) := asi_ok (r_c409 hS).1 (r_c409 hS).2 hn (by omega)
theorem r_c409_ln {h : aH} (hS : Sh h) : aln h (409) = some (nI 6) := aln_ok (r_c409 hS).1 (by decide) (by decide) (r_c409 hS).2
theorem r_c410m : (410, 1, 6) ∈ shL := List.mem_of_getElem? (i := 409) rfl
theorem r_c410 {h : aH} (hS : Sh h) : h_sh h (410) = 1 ∧ h_ln h (410) = 6 := ⟨(hS.2.1 _ r_c410m).1, (hS.2.1 _ r_c410m).2 (show (1 : Nat) < 10 by decide)⟩
theorem r_c410_al {h : aH} (hS : Sh h) {n : Nat} (hn : n < 6) : ali h 1 (410) (nI n) = some (h_iv h (410) n) := ali_ok (r_c410 hS).1 (r_c410 hS).2 hn (by omega)
theorem r_c410_as {h : aH} (hS : Sh h) {n : Nat} (x : Int32) (hn : n < 6) : asi h (410) (nI n) x = some (h_si h (410) n x) := asi_ok (r_c410 hS).1 (r_c410 hS).2 hn (by omega)
theorem r_c410_ln {h : aH} (hS : Sh h) : aln h (410) = some (nI 6) := aln_ok (r_c410 hS).1 (by decide) (by decide) (r_c410 hS).2
theorem r_c411m : (411, 1, 5) ∈ shL := List.mem_of_getElem? (i := 410) rfl
theorem r_c411 {h : aH} (hS : Sh h) : h_sh h (411) = 1 ∧ h_ln h (411) = 5 := ⟨(hS.2.1 _ r_c411m).1, (hS.2.1 _ r_c411m).2 (show (1 : Nat) < 10 by decide)⟩
theorem r_c411_al {h : aH} (hS : Sh h) {n : Nat} (hn : n < 5) : ali h 1 (411) (nI n) = some (h_iv h (411) n) := ali_ok (r_c411 hS).1 (r_c411 hS).2 hn (by omega)
theorem r_c411_as {h : aH} (hS : Sh h) {n : Nat} (x : Int32) (hn : n < 5) : asi h (411) (nI n) x = some (h_si h (411) n x) := asi_ok (r_c411 hS).1 (r_c411 hS).2 hn (by omega)
theorem r_c411_ln {h : aH} (hS : Sh h) : aln h (411) = some (nI 5) := aln_ok (r_c411 hS).1 (by decide) (by decide) (r_c411 hS).2
theorem r_c412m : (412, 1, 5) ∈ shL := List.mem_of_getElem? (i := 411) rfl
theorem r_c412 {h : aH} (hS : Sh h) : h_sh h (412) = 1 ∧ h_ln h (412) = 5 := ⟨(hS.2.1 _ r_c412m).1, (hS.2.1 _ r_c412m).2 (show (1 : Nat) < 10 by decide)⟩
theorem r_c412_al {h : aH} (hS : Sh h) {n : Nat} (hn : n < 5) : ali h 1 (412) (nI n) = some (h_iv h (412) n) := ali_ok (r_c412 hS).1 (r_c412 hS).2 hn (by omega)
theorem r_c412_as {h : aH} (hS : Sh h) {n : Nat} (x : Int32) (hn : n < 5) : asi h (412) (nI n) x = some (h_si h (412) n x) := asi_ok (r_c412 hS).1 (r_c412 hS).2 hn (by omega)
theorem r_c412_ln {h : aH} (hS : Sh h) : aln h (412) = some (nI 5) := aln_ok (r_c412 hS).1 (by decide) (by decide) (r_c412 hS).2
theorem r_c413m : (413, 1, 30) ∈ shL := List.mem_of_getElem? (i := 412) rfl
theorem r_c413 {h : aH} (hS : Sh h) : h_sh h (413) = 1 ∧ h_ln h (413) = 30 := ⟨(hS.2.1 _ r_c413m).1, (hS.2.1 _ r_c413m).2 (show (1 : Nat) < 10 by decide)⟩
theorem r_c413_al {h : aH} (hS : Sh h) {n : Nat} (hn : n < 30) : ali h 1 (413) (nI n) = some (h_iv h (413) n) := ali_ok (r_c413 hS).1 (r_c413 hS).2 hn (by omega)
theorem r_c413_as {h : aH} (hS : Sh h) {n : Nat} (x : Int32) (hn : n < 30) : asi h (413) (nI n) x = some (h_si h (413) n x) := asi_ok (r_c413 hS).1 (r_c413 hS).2 hn (by omega)
theorem r_c413_ln {h : aH} (hS : Sh h) : aln h (413) = some (nI 30) := aln_ok (r_c413 hS).1 (by decide) (by decide) (r_c413 hS).2
theorem r_c414m : (414, 1, 6) ∈ shL := List.mem_of_getElem? (i := 413) rfl
theorem r_c414 {h : aH} (hS : Sh h) : h_sh h (414) = 1 ∧ h_ln h (414) = 6 := ⟨(hS.2.1 _ r_c414m).1, (hS.2.1 _ r_c414m).2 (show (1 : Nat) < 10 by decide)⟩
theorem r_c414_al {h : aH} (hS : Sh h) {n : Nat} (hn : n < 6) : ali h 1 (414) (nI n) = some (h_iv h (414) n) := ali_ok (r_c414 hS).1 (r_c414 hS).2 hn (by omega)
theorem r_c414_as {h : aH} (hS : Sh h) {n : Nat} (x : Int32) (hn : n < 6) : asi h (414) (nI n) x = some (h_si h (414) n x) := asi_ok (r_c414 hS).1 (r_c414 hS).2 hn (by omega)
theorem r_c414_ln {h : aH} (hS : Sh h) : aln h (414) = some (nI 6) := aln_ok (r_c414 hS).1 (by decide) (by decide) (r_c414 hS).2
theorem r_c415m : (415, 1, 6) ∈ shL := List.mem_of_getElem? (i := 414) rfl
theorem r_c415 {h : aH} (hS : Sh h) : h_sh h (415) = 1 ∧ h_ln h (415) = 6 := ⟨(hS.2.1 _ r_c415m).1, (hS.2.1 _ r_c415m).2 (show (1 : Nat) < 10 by decide)⟩
theorem r_c415_al {h : aH} (hS : Sh h) {n : Nat} (hn : n < 6) : ali h 1 (415) (nI n) = some (h_iv h (415) n) := ali_ok (r_c415 hS).1 (r_c415 hS).2 hn (by omega)
theorem r_c415_as {h : aH} (hS : Sh h) {n : Nat} (x : Int32) (hn : n < 6) : asi h (415) (nI n) x = some (h_si h (415) n x) := asi_ok (r_c415 hS).1 (r_c415 hS).2 hn (by omega)
theorem r_c415_ln {h : aH} (hS : Sh h) : aln h (415) = some (nI 6) := aln_ok (r_c415 hS).1 (by decide) (by decide) (r_c415 hS).2
theorem r_c416m : (416, 1, 6) ∈ shL := List.mem_of_getElem? (i := 415) rfl
theorem r_c416 {h : aH} (hS : Sh h) : h_sh h (416) = 1 ∧ h_ln h (416) = 6 := ⟨(hS.2.1 _ r_c416m).1, (hS.2.1 _ r_c416m).2 (show (1 : Nat) < 10 by decide)⟩
theorem r_c416_al {h : aH} (hS : Sh h) {n : Nat} (hn : n < 6) : ali h 1 (416) (nI n) = some (h_iv h (416) n) := ali_ok (r_c416 hS).1 (r_c416 hS).2 hn (by omega)
theorem r_c416_as {h : aH} (hS : Sh h) {n : Nat} (x : Int32) (hn : n < 6) : asi h (416) (nI n) x = some (h_si h (416) n x) := asi_ok (r_c416 hS).1 (r_c416 hS).2 hn (by omega)
theorem r_c416_ln {h : aH} (hS : Sh h) : aln h (416) = some (nI 6) := aln_ok (r_c416 hS).1 (by decide) (by decide) (r_c416 hS).2
theorem r_c417m : (417, 1, 6) ∈ shL := List.mem_of_getElem? (i := 416) rfl
theorem r_c417 {h : aH} (hS : Sh h) : h_sh h (417) = 1 ∧ h_ln h (417) = 6 := ⟨(hS.2.1 _ r_c417m).1, (hS.2.1 _ r_c417m).2 (show (1 : Nat) < 10 by decide)⟩
theorem r_c417_al {h : aH} (hS : Sh h) {n : Nat} (hn : n < 6) : ali h 1 (417) (nI n) = some (h_iv h (417) n) := ali_ok (r_c417 hS).1 (r_c417 hS).2 hn (by omega)
theorem r_c417_as {h : aH} (hS : Sh h) {n : Nat} (x : Int32) (hn : n < 6) : asi h (417) (nI n) x = some (h_si h (417) n x) := asi_ok (r_c417 hS).1 (r_c417 hS).2 hn (by omega)
theorem r_c417_ln {h : aH} (hS : Sh h) : aln h (417) = some (nI 6) := aln_ok (r_c417 hS).1 (by decide) (by decide) (r_c417 hS).2
theorem r_c418m : (418, 1, 36) ∈ shL := List.mem_of_getElem? (i := 417) rfl
theorem r_c418 {h : aH} (hS : Sh h) : h_sh h (418) = 1 ∧ h_ln h (418) = 36 := ⟨(hS.2.1 _ r_c418m).1, (hS.2.1 _ r_c418m).2 (show (1 : Nat) < 10 by decide)⟩
theorem r_c418_al {h : aH} (hS : Sh h) {n : Nat} (hn : n < 36) : ali h 1 (418) (nI n) = some (h_iv h (418) n) := ali_ok (r_c418 hS).1 (r_c418 hS).2 hn (by omega)
theorem r_c418_as {h : aH} (hS : Sh h) {n : Nat} (x : Int32) (hn : n < 36) : asi h (418) (nI n) x = some (h_si h (418) n x) := asi_ok (r_c418 hS).1 (r_c418 hS).2 hn (by omega)
theorem r_c418_ln {h : aH} (hS : Sh h) : aln h (418) = some (nI 36) := aln_ok (r_c418 hS).1 (by decide) (by decide) (r_c418 hS).2
theorem r_c419m : (419, 1, 6) ∈ shL := List.mem_of_getElem? (i := 418) rfl
theorem r_c419 {h : aH} (hS : Sh h) : h_sh h (419) = 1 ∧ h_ln h (419) = 6 := ⟨(hS.2.1 _ r_c419m).1, (hS.2.1 _ r_c419m).2 (show (1 : Nat) < 10 by decide)⟩
theorem r_c419_al {h : aH} (hS : Sh h) {n : Nat} (hn : n < 6) : ali h 1 (419) (nI n) = some (h_iv h (419) n) := ali_ok (r_c419 hS).1 (r_c419 hS).2 hn (by omega)
theorem r_c419_as {h : aH} (hS : Sh h) {n : Nat} (x : Int32) (hn : n < 6) : asi h (419) (nI n) x = some (h_si h (419) n x) := asi_ok (r_c419 hS).1 (r_c419 hS).2 hn (by omega)
theorem r_c419_ln {h : aH} (hS : Sh h) : aln h (419) = some (nI 6) := aln_ok (r_c419 hS).1 (by decide) (by decide) (r_c419 hS).2
theorem r_c420m : (420, 1, 30) ∈ shL := List.mem_of_getElem? (i := 419) rfl
theorem r_c420 {h : aH} (hS : Sh h) : h_sh h (420) = 1 ∧ h_ln h (420) = 30 := ⟨(hS.2.1 _ r_c420m).1, (hS.2.1 _ r_c420m).2 (show (1 : Nat) < 10 by decide)⟩
theorem r_c420_al {h : aH} (hS : Sh h) {n : Nat} (hn : n < 30) : ali h 1 (420) (nI n) = some (h_iv h (420) n) := ali_ok (r_c420 hS).1 (r_c420 hS).2 hn (by omega)
theorem r_c420_as {h : aH} (hS : Sh h) {n : Nat} (x : Int32) (hn : n < 30) : asi h (420) (nI n) x = some (h_si h (420) n x) := asi_ok (r_c420 hS).1 (r_c420 hS).2 hn (by omega)
theorem r_c420_ln {h : aH} (hS : Sh h) : aln h (420) = some (nI 30) := aln_ok (r_c420 hS).1 (by decide) (by decide) (r_c420 hS).2
theorem r_c421m : (421, 1, 1200) ∈ shL := List.mem_of_getElem? (i := 420) rfl
theorem r_c421 {h : aH} (hS : Sh h) : h_sh h (421) = 1 ∧ h_ln h (421) = 1200 := ⟨(hS.2.1 _ r_c421m).1, (hS.2.1 _ r_c421m).2 (show (1 : Nat) < 10 by decide)⟩
theorem r_c421_al {h : aH} (hS : Sh h) {n : Nat} (hn : n < 1200) : ali h 1 (421) (nI n) = some (h_iv h (421) n) := ali_ok (r_c421 hS).1 (r_c421 hS).2 hn (by omega)
theorem r_c421_as {h : aH} (hS : Sh h) {n : Nat} (x : Int32) (hn : n < 1200) : asi h (421) (nI n) x = some (h_si h (421) n x) := asi_ok (r_c421 hS).1 (r_c421 hS).2 hn (by omega)
theorem r_c421_ln {h : aH} (hS : Sh h) : aln h (421) = some (nI 1200) := aln_ok (r_c421 hS).1 (by decide) (by decide) (r_c421 hS).2
theorem r_c422m : (422, 1, 4) ∈ shL := List.mem_of_getElem? (i := 421) rfl
theorem r_c422 {h : aH} (hS : Sh h) : h_sh h (422) = 1 ∧ h_ln h (422) = 4 := ⟨(hS.2.1 _ r_c422m).1, (hS.2.1 _ r_c422m).2 (show (1 : Nat) < 10 by decide)⟩
theorem r_c422_al {h : aH} (hS : Sh h) {n : Nat} (hn : n < 4) : ali h 1 (422) (nI n) = some (h_iv h (422) n) := ali_ok (r_c422 hS).1 (r_c422 hS).2 hn (by omega)
theorem r_c422_as {h : aH} (hS : Sh h) {n : Nat} (x : Int32) (hn : n < 4) : asi h (422) (nI n) x = some (h_si h (422) n x) := asi_ok (r_c422 hS).1 (r_c422 hS).2 hn (by omega)
theorem r_c422_ln {h : aH} (hS : Sh h) : aln h (422) = some (nI 4) := aln_ok (r_c422 hS).1 (by decide) (by decide) (r_c422 hS).2
theorem r_c423m : (423, 4, 29) ∈ shL := List.mem_of_getElem? (i := 422) rfl
theorem r_c423 {h : aH} (hS : Sh h) : h_sh h (423) = 4 ∧ h_ln h (423) = 29 := ⟨(hS.2.1 _ r_c423m).1, (hS.2.1 _ r_c423m).2 (show (4 : Nat) < 10 by decide)⟩
theorem r_c423_al {h : aH} (hS : Sh h) {n : Nat} (hn : n < 29) : alL h (423) (nI n) = some (h_lv h (423) n) := alL_ok (r_c423 hS).1 (r_c423 hS).2 hn (by omega)
theorem r_c423_as {h : aH} (hS : Sh h) {n : Nat} (x : Int64) (hn : n < 29) : asL h (423) (nI n) x = some (h_sL h (423) n x) := asL_ok (r_c423 hS).1 (r_c423 hS).2 hn (by omega)
theorem r_c423_ln {h : aH} (hS : Sh h) : aln h (423) = some (nI 29) := aln_ok (r_c423 hS).1 (by decide) (by decide) (r_c423 hS).2
theorem r_c424m : (424, 1, 12) ∈ shL := List.mem_of_getElem? (i := 423) rfl
theorem r_c424 {h : aH} (hS : Sh h) : h_sh h (424) = 1 ∧ h_ln h (424) = 12 := ⟨(hS.2.1 _ r_c424m).1, (hS.2.1 _ r_c424m).2 (show (1 : Nat) < 10 by decide)⟩
theorem r_c424_al {h : aH} (hS : Sh h) {n : Nat} (hn : n < 12) : ali h 1 (424) (nI n) = some (h_iv h (424) n) := ali_ok (r_c424 hS).1 (r_c424 hS).2 hn (by omega)
theorem r_c424_as {h : aH} (hS : Sh h) {n : Nat} (x : Int32) (hn : n < 12) : asi h (424) (nI n) x = some (h_si h (424) n x) := asi_ok (r_c424 hS).1 (r_c424 hS).2 hn (by omega)
theorem r_c424_ln {h : aH} (hS : Sh h) : aln h (424) = some (nI 12) := aln_ok (r_c424 hS).1 (by decide) (by decide) (r_c424 hS).2
theorem r_c425m : (425, 1, 12) ∈ shL := List.mem_of_getElem? (i := 424) rfl
theorem r_c425 {h : aH} (hS : Sh h) : h_sh h (425) = 1 ∧ h_ln h (425) = 12 := ⟨(hS.2.1 _ r_c425m).1, (hS.2.1 _ r_c425m).2 (show (1 : Nat) < 10 by decide)⟩
theorem r_c425_al {h : aH} (hS : Sh h) {n : Nat} (hn : n < 12) : ali h 1 (425) (nI n) = some (h_iv h (425) n) := ali_ok (r_c425 hS).1 (r_c425 hS).2 hn (by omega)
theorem r_c425_as {h : aH} (hS : Sh h) {n : Nat} (x : Int32) (hn : n < 12) : asi h (425) (nI n) x = some (h_si h (425) n x) := asi_ok (r_c425 hS).1 (r_c425 hS).2 hn (by omega)
theorem r_c425_ln {h : aH} (hS : Sh h) : aln h (425) = some (nI 12) := aln_ok (r_c425 hS).1 (by decide) (by decide) (r_c425 hS).2
theorem r_c426m : (426, 1, 144) ∈ shL := List.mem_of_getElem? (i := 425) rfl
theorem r_c426 {h : aH} (hS : Sh h) : h_sh h (426) = 1 ∧ h_ln h (426) = 144 := ⟨(hS.2.1 _ r_c426m).1, (hS.2.1 _ r_c426m).2 (show (1 : Nat) < 10 by decide)⟩
theorem r_c426_al {h : aH} (hS : Sh h) {n : Nat} (hn : n < 144) : ali h 1 (426) (nI n) = some (h_iv h (426) n) := ali_ok (r_c426 hS).1 (r_c426 hS).2 hn (by omega)
theorem r_c426_as {h : aH} (hS : Sh h) {n : Nat} (x : Int32) (hn : n < 144) : asi h (426) (nI n) x = some (h_si h (426) n x) := asi_ok (r_c426 hS).1 (r_c426 hS).2 hn (by omega)
theorem r_c426_ln {h : aH} (hS : Sh h) : aln h (426) = some (nI 144) := aln_ok (r_c426 hS).1 (by decide) (by decide) (r_c426 hS).2
theorem r_c427m : (427, 3, 144) ∈ shL := List.mem_of_getElem? (i := 426) rfl
theorem r_c427 {h : aH} (hS : Sh h) : h_sh h (427) = 3 ∧ h_ln h (427) = 144 := ⟨(hS.2.1 _ r_c427m).1, (hS.2.1 _ r_c427m).2 (show (3 : Nat) < 10 by decide)⟩
theorem r_c427_al {h : aH} (hS : Sh h) {n : Nat} (hn : n < 144) : ali h 3 (427) (nI n) = some (h_iv h (427) n) := ali_ok (r_c427 hS).1 (r_c427 hS).2 hn (by omega)
theorem r_c427_as {h : aH} (hS : Sh h) {n : Nat} {x : Int32} (hn : n < 144) (hx : x = 0 ∨ x = 1) : asz h (427) (nI n) x = some (h_si h (427) n x) := asz_ok (r_c427 hS).1 (r_c427 hS).2 hn (by omega) hx
theorem r_c427_ln {h : aH} (hS : Sh h) : aln h (427) = some (nI 144) := aln_ok (r_c427 hS).1 (by decide) (by decide) (r_c427 hS).2
theorem r_c428m : (428, 1, 6) ∈ shL := List.mem_of_getElem? (i := 427) rfl
theorem r_c428 {h : aH} (hS : Sh h) : h_sh h (428) = 1 ∧ h_ln h (428) = 6 := ⟨(hS.2.1 _ r_c428m).1, (hS.2.1 _ r_c428m).2 (show (1 : Nat) < 10 by decide)⟩
theorem r_c428_al {h : aH} (hS : Sh h) {n : Nat} (hn : n < 6) : ali h 1 (428) (nI n) = some (h_iv h (428) n) := ali_ok (r_c428 hS).1 (r_c428 hS).2 hn (by omega)
theorem r_c428_as {h : aH} (hS : Sh h) {n : Nat} (x : Int32) (hn : n < 6) : asi h (428) (nI n) x = some (h_si h (428) n x) := asi_ok (r_c428 hS).1 (r_c428 hS).2 hn (by omega)
theorem r_c428_ln {h : aH} (hS : Sh h) : aln h (428) = some (nI 6) := aln_ok (r_c428 hS).1 (by decide) (by decide) (r_c428 hS).2
theorem r_c429m : (429, 1, 6) ∈ shL := List.mem_of_getElem? (i := 428) rfl
theorem r_c429 {h : aH} (hS : Sh h) : h_sh h (429) = 1 ∧ h_ln h (429) = 6 := ⟨(hS.2.1 _ r_c429m).1, (hS.2.1 _ r_c429m).2 (show (1 : Nat) < 10 by decide)⟩
theorem r_c429_al {h : aH} (hS : Sh h) {n : Nat} (hn : n < 6) : ali h 1 (429) (nI n) = some (h_iv h (429) n) := ali_ok (r_c429 hS).1 (r_c429 hS).2 hn (by omega)
theorem r_c429_as {h : aH} (hS : Sh h) {n : Nat} (x : Int32) (hn : n < 6) : asi h (429) (nI n) x = some (h_si h (429) n x) := asi_ok (r_c429 hS).1 (r_c429 hS).2 hn (by omega)
theorem r_c429_ln {h : aH} (hS : Sh h) : aln h (429) = some (nI 6) := aln_ok (r_c429 hS).1 (by decide) (by decide) (r_c429 hS).2
theorem r_c430m : (430, 1, 6) ∈ shL := List.mem_of_getElem? (i := 429) rfl
theorem r_c430 {h : aH} (hS : Sh h) : h_sh h (430) = 1 ∧ h_ln h (430) = 6 := ⟨(hS.2.1 _ r_c430m).1, (hS.2.1 _ r_c430m).2 (show (1 : Nat) < 10 by decide)⟩
theorem r_c430_al {h : aH} (hS : Sh h) {n : Nat} (hn : n < 6) : ali h 1 (430) (nI n) = some (h_iv h (430) n) := ali_ok (r_c430 hS).1 (r_c430 hS).2 hn (by omega)
theorem r_c430_as {h : aH} (hS : Sh h) {n : Nat} (x : Int32) (hn : n < 6) : asi h (430) (nI n) x = some (h_si h (430) n x) := asi_ok (r_c430 hS).1 (r_c430 hS).2 hn (by omega)
theorem r_c430_ln {h : aH} (hS : Sh h) : aln h (430) = some (nI 6) := aln_ok (r_c430 hS).1 (by decide) (by decide) (r_c430 hS).2
theorem r_c431m : (431, 1, 48) ∈ shL := List.mem_of_getElem? (i := 430) rfl
theorem r_c431 {h : aH} (hS : Sh h) : h_sh h (431) = 1 ∧ h_ln h (431) = 48 := ⟨(hS.2.1 _ r_c431m).1, (hS.2.1 _ r_c431m).2 (show (1 : Nat) < 10 by decide)⟩
theorem r_c431_al {h : aH} (hS : Sh h) {n : Nat} (hn : n < 48) : ali h 1 (431) (nI n) = some (h_iv h (431) n) := ali_ok (r_c431 hS).1 (r_c431 hS).2 hn (by omega)
theorem r_c431_as {h : aH} (hS : Sh h) {n : Nat} (x : Int32) (hn : n < 48) : asi h (431) (nI n) x = some (h_si h (431) n x) := asi_ok (r_c431 hS).1 (r_c431 hS).2 hn (by omega)
theorem r_c431_ln {h : aH} (hS : Sh h) : aln h (431) = some (nI 48) := aln_ok (r_c431 hS).1 (by decide) (by decide) (r_c431 hS).2
theorem r_c432m : (432, 1, 5) ∈ shL := List.mem_of_getElem? (i := 431) rfl
theorem r_c432 {h : aH} (hS : Sh h) : h_sh h (432) = 1 ∧ h_ln h (432) = 5 := ⟨(hS.2.1 _ r_c432m).1, (hS.2.1 _ r_c432m).2 (show (1 : Nat) < 10 by decide)⟩
theorem r_c432_al {h : aH} (hS : Sh h) {n : Nat} (hn : n < 5) : ali h 1 (432) (nI n) = some (h_iv h (432) n) := ali_ok (r_c432 hS).1 (r_c432 hS).2 hn (by omega)
theorem r_c432_as {h : aH} (hS : Sh h) {n : Nat} (x : Int32) (hn : n < 5) : asi h (432) (nI n) x = some (h_si h (432) n x) := asi_ok (r_c432 hS).1 (r_c432 hS).2 hn (by omega)
theorem r_c432_ln {h : aH} (hS : Sh h) : aln h (432) = some (nI 5) := aln_ok (r_c432 hS).1 (by decide) (by decide) (r_c432 hS).2
theorem r_c433m : (433, 1, 5) ∈ shL := List.mem_of_getElem? (i := 432) rfl
theorem r_c433 {h : aH} (hS : Sh h) : h_sh h (433) = 1 ∧ h_ln h (433) = 5 := ⟨(hS.2.1 _ r_c433m).1, (hS.2.1 _ r_c433m).2 (show (1 : Nat) < 10 by decide)⟩
theorem r_c433_al {h : aH} (hS : Sh h) {n : Nat} (hn : n < 5) : ali h 1 (433) (nI n) = some (h_iv h (433) n) := ali_ok (r_c433 hS).1 (r_c433 hS).2 hn (by omega)
theorem r_c433_as {h : aH} (hS : Sh h) {n : Nat} (x : Int32) (hn : n < 5) : asi h (433) (nI n) x = some (h_si h (433) n x) := asi_ok (r_c433 hS).1 (r_c433 hS).2 hn (by omega)
theorem r_c433_ln {h : aH} (hS : Sh h) : aln h (433) = some (nI 5) := aln_ok (r_c433 hS).1 (by decide) (by decide) (r_c433 hS).2
theorem r_c434m : (434, 1, 30) ∈ shL := List.mem_of_getElem? (i := 433) rfl
theorem r_c434 {h : aH} (hS : Sh h) : h_sh h (434) = 1 ∧ h_ln h (434) = 30 := ⟨(hS.2.1 _ r_c434m).1, (hS.2.1 _ r_c434m).2 (show (1 : Nat) < 10 by decide)⟩
theorem r_c434_al {h : aH} (hS : Sh h) {n : Nat} (hn : n < 30) : ali h 1 (434) (nI n) = some (h_iv h (434) n) := ali_ok (r_c434 hS).1 (r_c434 hS).2 hn (by omega)
theorem r_c434_as {h : aH} (hS : Sh h) {n : Nat} (x : Int32) (hn : n < 30) : asi h (434) (nI n) x = some (h_si h (434) n x) := asi_ok (r_c434 hS).1 (r_c434 hS).2 hn (by omega)
theorem r_c434_ln {h : aH} (hS : Sh h) : aln h (434) = some (nI 30) := aln_ok (r_c434 hS).1 (by decide) (by decide) (r_c434 hS).2
theorem r_c435m : (435, 1, 6) ∈ shL := List.mem_of_getElem? (i := 434) rfl
theorem r_c435 {h : aH} (hS : Sh h) : h_sh h (435) = 1 ∧ h_ln h (435) = 6 := ⟨(hS.2.1 _ r_c435m).1, (hS.2.1 _ r_c435m).2 (show (1 : Nat) < 10 by decide)⟩
theorem r_c435_al {h : aH} (hS : Sh h) {n : Nat} (hn : n < 6) : ali h 1 (435) (nI n) = some (h_iv h (435) n) := ali_ok (r_c435 hS).1 (r_c435 hS).2 hn (by omega)
theorem r_c435_as {h : aH} (hS : Sh h) {n : Nat} (x : Int32) (hn : n < 6) : asi h (435) (nI n) x = some (h_si h (435) n x) := asi_ok (r_c435 hS).1 (r_c435 hS).2 hn (by omega)
theorem r_c435_ln {h : aH} (hS : Sh h) : aln h (435) = some (nI 6) := aln_ok (r_c435 hS).1 (by decide) (by decide) (r_c435 hS).2
theorem r_c436m : (436, 1, 6) ∈ shL := List.mem_of_getElem? (i := 435) rfl
theorem r_c436 {h : aH} (hS : Sh h) : h_sh h (436) = 1 ∧ h_ln h (436) = 6 := ⟨(hS.2.1 _ r_c436m).1, (hS.2.1 _ r_c436m).2 (show (1 : Nat) < 10 by decide)⟩
theorem r_c436_al {h : aH} (hS : Sh h) {n : Nat} (hn : n < 6) : ali h 1 (436) (nI n) = some (h_iv h (436) n) := ali_ok (r_c436 hS).1 (r_c436 hS).2 hn (by omega)
theorem r_c436_as {h : aH} (hS : Sh h) {n : Nat} (x : Int32) (hn : n < 6) : asi h (436) (nI n) x = some (h_si h (436) n x) := asi_ok (r_c436 hS).1 (r_c436 hS).2 hn (by omega)
theorem r_c436_ln {h : aH} (hS : Sh h) : aln h (436) = some (nI 6) := aln_ok (r_c436 hS).1 (by decide) (by decide) (r_c436 hS).2
theorem r_c437m : (437, 1, 6) ∈ shL := List.mem_of_getElem? (i := 436) rfl
theorem r_c437 {h : aH} (hS : Sh h) : h_sh h (437) = 1 ∧ h_ln h (437) = 6 := ⟨(hS.2.1 _ r_c437m).1, (hS.2.1 _ r_c437m).2 (show (1 : Nat) < 10 by decide)⟩
theorem r_c437_al {h : aH} (hS : Sh h) {n : Nat} (hn : n < 6) : ali h 1 (437) (nI n) = some (h_iv h (437) n) := ali_ok (r_c437 hS).1 (r_c437 hS).2 hn (by omega)
theorem r_c437_as {h : aH} (hS : Sh h) {n : Nat} (x : Int32) (hn : n < 6) : asi h (437) (nI n) x = some (h_si h (437) n x) := asi_ok (r_c437 hS).1 (r_c437 hS).2 hn (by omega)
theorem r_c437_ln {h : aH} (hS : Sh h) : aln h (437) = some (nI 6) := aln_ok (r_c437 hS).1 (by decide) (by decide) (r_c437 hS).2
theorem r_c438m : (438, 1, 6) ∈ shL := List.mem_of_getElem? (i := 437) rfl
theorem r_c438 {h : aH} (hS : Sh h) : h_sh h (438) = 1 ∧ h_ln h (438) = 6 := ⟨(hS.2.1 _ r_c438m).1, (hS.2.1 _ r_c438m).2 (show (1 : Nat) < 10 by decide)⟩
theorem r_c438_al {h : aH} (hS : Sh h) {n : Nat} (hn : n < 6) : ali h 1 (438) (nI n) = some (h_iv h (438) n) := ali_ok (r_c438 hS).1 (r_c438 hS).2 hn (by omega)
theorem r_c438_as {h : aH} (hS : Sh h) {n : Nat} (x : Int32) (hn : n < 6) : asi h (438) (nI n) x = some (h_si h (438) n x) := asi_ok (r_c438 hS).1 (r_c438 hS).2 hn (by omega)
theorem r_c438_ln {h : aH} (hS : Sh h) : aln h (438) = some (nI 6) := aln_ok (r_c438 hS).1 (by decide) (by decide) (r_c438 hS).2
theorem r_c439m : (439, 1, 36) ∈ shL := List.mem_of_getElem? (i := 438) rfl
theorem r_c439 {h : aH} (hS : Sh h) : h_sh h (439) = 1 ∧ h_ln h (439) = 36 := ⟨(hS.2.1 _ r_c439m).1, (hS.2.1 _ r_c439m).2 (show (1 : Nat) < 10 by decide)⟩
theorem r_c439_al {h : aH} (hS : Sh h) {n : Nat} (hn : n < 36) : ali h 1 (439) (nI n) = some (h_iv h (439) n) := ali_ok (r_c439 hS).1 (r_c439 hS).2 hn (by omega)
theorem r_c439_as {h : aH} (hS : Sh h) {n : Nat} (x : Int32) (hn : n < 36) : asi h (439) (nI n) x = some (h_si h (439) n x) := asi_ok (r_c439 hS).1 (r_c439 hS).2 hn (by omega)
theorem r_c439_ln {h : aH} (hS : Sh h) : aln h (439) = some (nI 36) := aln_ok (r_c439 hS).1 (by decide) (by decide) (r_c439 hS).2
theorem r_c440m : (440, 1, 6) ∈ shL := List.mem_of_getElem? (i := 439) rfl
theorem r_c440 {h : aH} (hS : Sh h) : h_sh h (440) = 1 ∧ h_ln h (440) = 6 := ⟨(hS.2.1 _ r_c440m).1, (hS.2.1 _ r_c440m).2 (show (1 : Nat) < 10 by decide)⟩
theorem r_c440_al {h : aH} (hS : Sh h) {n : Nat} (hn : n < 6) : ali h 1 (440) (nI n) = some (h_iv h (440) n) := ali_ok (r_c440 hS).1 (r_c440 hS).2 hn (by omega)
theorem r_c440_as {h : aH} (hS : Sh h) {n : Nat} (x : Int32) (hn : n < 6) : asi h (440) (nI n) x = some (h_si h (440) n x) := asi_ok (r_c440 hS).1 (r_c440 hS).2 hn (by omega)
theorem r_c440_ln {h : aH} (hS : Sh h) : aln h (440) = some (nI 6) := aln_ok (r_c440 hS).1 (by decide) (by decide) (r_c440 hS).2
theorem r_c441m : (441, 1, 30) ∈ shL := List.mem_of_getElem? (i := 440) rfl
theorem r_c441 {h : aH} (hS : Sh h) : h_sh h (441) = 1 ∧ h_ln h (441) = 30 := ⟨(hS.2.1 _ r_c441m).1, (hS.2.1 _ r_c441m).2 (show (1 : Nat) < 10 by decide)⟩
theorem r_c441_al {h : aH} (hS : Sh h) {n : Nat} (hn : n < 30) : ali h 1 (441) (nI n) = some (h_iv h (441) n) := ali_ok (r_c441 hS).1 (r_c441 hS).2 hn (by omega)
theorem r_c441_as {h : aH} (hS : Sh h) {n : Nat} (x : Int32) (hn : n < 30) : asi h (441) (nI n) x = some (h_si h (441) n x) := asi_ok (r_c441 hS).1 (r_c441 hS).2 hn (by omega)
theorem r_c441_ln {h : aH} (hS : Sh h) : aln h (441) = some (nI 30) := aln_ok (r_c441 hS).1 (by decide) (by decide) (r_c441 hS).2
theorem r_c442m : (442, 1, 5) ∈ shL := List.mem_of_getElem? (i := 441) rfl
theorem r_c442 {h : aH} (hS : Sh h) : h_sh h (442) = 1 ∧ h_ln h (442) = 5 := ⟨(hS.2.1 _ r_c442m).1, (hS.2.1 _ r_c442m).2 (show (1 : Nat) < 10 by decide)⟩
theorem r_c442_al {h : aH} (hS : Sh h) {n : Nat} (hn : n < 5) : ali h 1 (442) (nI n) = some (h_iv h (442) n) := ali_ok (r_c442 hS).1 (r_c442 hS).2 hn (by omega)
theorem r_c442_as {h : aH} (hS : Sh h) {n : Nat} (x : Int32) (hn : n < 5) : asi h (442) (nI n) x = some (h_si h (442) n x) := asi_ok (r_c442 hS).1 (r_c442 hS).2 hn (by omega)
theorem r_c442_ln {h : aH} (hS : Sh h) : aln h (442) = some (nI 5) := aln_ok (r_c442 hS).1 (by decide) (by decide) (r_c442 hS).2
theorem r_c443m : (443, 1, 5) ∈ shL := List.mem_of_getElem? (i := 442) rfl
theorem r_c443 {h : aH} (hS : Sh h) : h_sh h (443) = 1 ∧ h_ln h (443) = 5 := ⟨(hS.2.1 _ r_c443m).1, (hS.2.1 _ r_c443m).2 (show (1 : Nat) < 10 by decide)⟩
theorem r_c443_al {h : aH} (hS : Sh h) {n : Nat} (hn : n < 5) : ali h 1 (443) (nI n) = some (h_iv h (443) n) := ali_ok (r_c443 hS).1 (r_c443 hS).2 hn (by omega)
theorem r_c443_as {h : aH} (hS : Sh h) {n : Nat} (x : Int32) (hn : n < 5) : asi h (443) (nI n) x = some (h_si h (443) n x) := asi_ok (r_c443 hS).1 (r_c443 hS).2 hn (by omega)
theorem r_c443_ln {h : aH} (hS : Sh h) : aln h (443) = some (nI 5) := aln_ok (r_c443 hS).1 (by decide) (by decide) (r_c443 hS).2
theorem r_c444m : (444, 1, 5) ∈ shL := List.mem_of_getElem? (i := 443) rfl
theorem r_c444 {h : aH} (hS : Sh h) : h_sh h (444) = 1 ∧ h_ln h (444) = 5 := ⟨(hS.2.1 _ r_c444m).1, (hS.2.1 _ r_c444m).2 (show (1 : Nat) < 10 by decide)⟩
theorem r_c444_al {h : aH} (hS : Sh h) {n : Nat} (hn : n < 5) : ali h 1 (444) (nI n) = some (h_iv h (444) n) := ali_ok (r_c444 hS).1 (r_c444 hS).2 hn (by omega)
theorem r_c444_as {h : aH} (hS : Sh h) {n : Nat} (x : Int32) (hn : n < 5) : asi h (444) (nI n) x = some (h_si h (444) n x) := asi_ok (r_c444 hS).1 (r_c444 hS).2 hn (by omega)
theorem r_c444_ln {h : aH} (hS : Sh h) : aln h (444) = some (nI 5) := aln_ok (r_c444 hS).1 (by decide) (by decide) (r_c444 hS).2
theorem r_c445m : (445, 1, 5) ∈ shL := List.mem_of_getElem? (i := 444) rfl
theorem r_c445 {h : aH} (hS : Sh h) : h_sh h (445) = 1 ∧ h_ln h (445) = 5 := ⟨(hS.2.1 _ r_c445m).1, (hS.2.1 _ r_c445m).2 (show (1 : Nat) < 10 by decide)⟩
theorem r_c445_al {h : aH} (hS : Sh h) {n : Nat} (hn : n < 5) : ali h 1 (445) (nI n) = some (h_iv h (445) n) := ali_ok (r_c445 hS).1 (r_c445 hS).2 hn (by omega)
theorem r_c445_as {h : aH} (hS : Sh h) {n : Nat} (x : Int32) (hn : n < 5) : asi h (445) (nI n) x = some (h_si h (445) n x) := asi_ok (r_c445 hS).1 (r_c445 hS).2 hn (by omega)
theorem r_c445_ln {h : aH} (hS : Sh h) : aln h (445) = some (nI 5) := aln_ok (r_c445 hS).1 (by decide) (by decide) (r_c445 hS).2
theorem r_c446m : (446, 3, 4096) ∈ shL := List.mem_of_getElem? (i := 445) rfl
theorem r_c446 {h : aH} (hS : Sh h) : h_sh h (446) = 3 ∧ h_ln h (446) = 4096 := ⟨(hS.2.1 _ r_c446m).1, (hS.2.1 _ r_c446m).2 (show (3 : Nat) < 10 by decide)⟩
theorem r_c446_al {h : aH} (hS : Sh h) {n : Nat} (hn : n < 4096) : ali h 3 (446) (nI n) = some (h_iv h (446) n) := ali_ok (r_c446 hS).1 (r_c446 hS).2 hn (by omega)
theorem r_c446_as {h : aH} (hS : Sh h) {n : Nat} {x : Int32} (hn : n < 4096) (hx : x = 0 ∨ x = 1) : asz h (446) (nI n) x = some (h_si h (446) n x) := asz_ok (r_c446 hS).1 (r_c446 hS).2 hn (by omega) hx
theorem r_c446_ln {h : aH} (hS : Sh h) : aln h (446) = some (nI 4096) := aln_ok (r_c446 hS).1 (by decide) (by decide) (r_c446 hS).2
theorem r_c447m : (447, 3, 4096) ∈ shL := List.mem_of_getElem? (i := 446) rfl
theorem r_c447 {h : aH} (hS : Sh h) : h_sh h (447) = 3 ∧ h_ln h (447) = 4096 := ⟨(hS.2.1 _ r_c447m).1, (hS.2.1 _ r_c447m).2 (show (3 : Nat) < 10 by decide)⟩
theorem r_c447_al {h : aH} (hS : Sh h) {n : Nat} (hn : n < 4096) : ali h 3 (447) (nI n) = some (h_iv h (447) n) := ali_ok (r_c447 hS).1 (r_c447 hS).2 hn (by omega)
theorem r_c447_as {h : aH} (hS : Sh h) {n : Nat} {x : Int32} (hn : n < 4096) (hx : x = 0 ∨ x = 1) : asz h (447) (nI n) x = some (h_si h (447) n x) := asz_ok (r_c447 hS).1 (r_c447 hS).2 hn (by omega) hx
theorem r_c447_ln {h : aH} (hS : Sh h) : aln h (447) = some (nI 4096) := aln_ok (r_c447 hS).1 (by decide) (by decide) (r_c447 hS).2
theorem r_p399m : (398, 1, 399) ∈ ptL := List.mem_of_getElem? (i := 385) rfl
theorem r_p399 {h : aH} (hS : Sh h) : gr h 12 (398) 1 = some (399) := gr_ok9 (r_cM hS) (hS.2.2 _ r_p399m) (by decide)
theorem r_p400m : (398, 2, 400) ∈ ptL := List.mem_of_getElem? (i := 386) rfl
theorem r_p400 {h : aH} (hS : Sh h) : gr h 12 (398) 2 = some (400) := gr_ok9 (r_cM hS) (hS.2.2 _ r_p400m) (by decide)
theorem r_p401m : (398, 3, 401) ∈ ptL := List.mem_of_getElem? (i := 387) rfl
theorem r_p401 {h : aH} (hS : Sh h) : gr h 12 (398) 3 = some (401) := gr_ok9 (r_cM hS) (hS.2.2 _ r_p401m) (by decide)
theorem r_p402m : (398, 4, 402) ∈ ptL := List.mem_of_getElem? (i := 388) rfl
theorem r_p402 {h : aH} (hS : Sh h) : gr h 12 (398) 4 = some (402) := gr_ok9 (r_cM hS) (hS.2.2 _ r_p402m) (by decide)
theorem r_p403m : (398, 5, 403) ∈ ptL := List.mem_of_getElem? (i := 389) rfl
theorem r_p403 {h : aH} (hS : Sh h) : gr h 12 (398) 5 = some (403) := gr_ok9 (r_cM hS) (hS.2.2 _ r_p403m) (by decide)
theorem r_p404m : (398, 7, 404) ∈ ptL := List.mem_of_getElem? (i := 390) rfl
theorem r_p404 {h : aH} (hS : Sh h) : gr h 12 (398) 7 = some (404) := gr_ok9 (r_cM hS) (hS.2.2 _ r_p404m) (by decide)
theorem r_p405m : (398, 12, 405) ∈ ptL := List.mem_of_getElem? (i := 391) rfl
theorem r_p405 {h : aH} (hS : Sh h) : gr h 12 (398) 12 = some (405) := gr_ok9 (r_cM hS) (hS.2.2 _ r_p405m) (by decide)
theorem r_p406m : (398, 13, 406) ∈ ptL := List.mem_of_getElem? (i := 392) rfl
theorem r_p406 {h : aH} (hS : Sh h) : gr h 12 (398) 13 = some (406) := gr_ok9 (r_cM hS) (hS.2.2 _ r_p406m) (by decide)
theorem r_p407m : (398, 14, 407) ∈ ptL := List.mem_of_getElem? (i := 393) rfl
theorem r_p407 {h : aH} (hS : Sh h) : gr h 12 (398) 14 = some (407) := gr_ok9 (r_cM hS) (hS.2.2 _ r_p407m) (by decide)
theorem r_p408m : (398, 15, 408) ∈ ptL := List.mem_of_getElem? (i := 394) rfl
theorem r_p408 {h : aH} (hS : Sh h) : gr h 12 (398) 15 = some (408) := gr_ok9 (r_cM hS) (hS.2.2 _ r_p408m) (by decide)
theorem r_p409m : (398, 16, 409) ∈ ptL := List.mem_of_getElem? (i := 395) rfl
theorem r_p409 {h : aH} (hS : Sh h) : gr h 12 (398) 16 = some (409) := gr_ok9 (r_cM hS) (hS.2.2 _ r_p409m) (by decide)
theorem r_p410m : (398, 17, 410) ∈ ptL := List.mem_of_getElem? (i := 396) rfl
theorem r_p410 {h : aH} (hS : Sh h) : gr h 12 (398) 17 = some (410) := gr_ok9 (r_cM hS) (hS.2.2 _ r_p410m) (by decide)
theorem r_p411m : (398, 18, 411) ∈ ptL := List.mem_of_getElem? (i := 397) rfl
theorem r_p411 {h : aH} (hS : Sh h) : gr h 12 (398) 18 = some (411) := gr_ok9 (r_cM hS) (hS.2.2 _ r_p411m) (by decide)
theorem r_p412m : (398, 19, 412) ∈ ptL := List.mem_of_getElem? (i := 398) rfl
theorem r_p412 {h : aH} (hS : Sh h) : gr h 12 (398) 19 = some (412) := gr_ok9 (r_cM hS) (hS.2.2 _ r_p412m) (by decide)
theorem r_p413m : (398, 20, 413) ∈ ptL := List.mem_of_getElem? (i := 399) rfl
theorem r_p413 {h : aH} (hS : Sh h) : gr h 12 (398) 20 = some (413) := gr_ok9 (r_cM hS) (hS.2.2 _ r_p413m) (by decide)
theorem r_p414m : (398, 21, 414) ∈ ptL := List.mem_of_getElem? (i := 400) rfl
theorem r_p414 {h : aH} (hS : Sh h) : gr h 12 (398) 21 = some (414) := gr_ok9 (r_cM hS) (hS.2.2 _ r_p414m) (by decide)
theorem r_p415m : (398, 22, 415) ∈ ptL := List.mem_of_getElem? (i := 401) rfl
theorem r_p415 {h : aH} (hS : Sh h) : gr h 12 (398) 22 = some (415) := gr_ok9 (r_cM hS) (hS.2.2 _ r_p415m) (by decide)
theorem r_p416m : (398, 23, 416) ∈ ptL := List.mem_of_getElem? (i := 402) rfl
theorem r_p416 {h : aH} (hS : Sh h) : gr h 12 (398) 23 = some (416) := gr_ok9 (r_cM hS) (hS.2.2 _ r_p416m) (by decide)
theorem r_p417m : (398, 24, 417) ∈ ptL := List.mem_of_getElem? (i := 403) rfl
theorem r_p417 {h : aH} (hS : Sh h) : gr h 12 (398) 24 = some (417) := gr_ok9 (r_cM hS) (hS.2.2 _ r_p417m) (by decide)
theorem r_p418m : (398, 25, 418) ∈ ptL := List.mem_of_getElem? (i := 404) rfl
theorem r_p418 {h : aH} (hS : Sh h) : gr h 12 (398) 25 = some (418) := gr_ok9 (r_cM hS) (hS.2.2 _ r_p418m) (by decide)
theorem r_p419m : (398, 26, 419) ∈ ptL := List.mem_of_getElem? (i := 405) rfl
theorem r_p419 {h : aH} (hS : Sh h) : gr h 12 (398) 26 = some (419) := gr_ok9 (r_cM hS) (hS.2.2 _ r_p419m) (by decide)
theorem r_p420m : (398, 27, 420) ∈ ptL := List.mem_of_getElem? (i := 406) rfl
theorem r_p420 {h : aH} (hS : Sh h) : gr h 12 (398) 27 = some (420) := gr_ok9 (r_cM hS) (hS.2.2 _ r_p420m) (by decide)
theorem r_p421m : (398, 28, 421) ∈ ptL := List.mem_of_getElem? (i := 407) rfl
theorem r_p421 {h : aH} (hS : Sh h) : gr h 12 (398) 28 = some (421) := gr_ok9 (r_cM hS) (hS.2.2 _ r_p421m) (by decide)
theorem r_p422m : (398, 38, 422) ∈ ptL := List.mem_of_getElem? (i := 408) rfl
theorem r_p422 {h : aH} (hS : Sh h) : gr h 12 (398) 38 = some (422) := gr_ok9 (r_cM hS) (hS.2.2 _ r_p422m) (by decide)
theorem r_p423m : (398, 44, 423) ∈ ptL := List.mem_of_getElem? (i := 409) rfl
theorem r_p423 {h : aH} (hS : Sh h) : gr h 12 (398) 44 = some (423) := gr_ok9 (r_cM hS) (hS.2.2 _ r_p423m) (by decide)
theorem r_p424m : (398, 45, 424) ∈ ptL := List.mem_of_getElem? (i := 410) rfl
theorem r_p424 {h : aH} (hS : Sh h) : gr h 12 (398) 45 = some (424) := gr_ok9 (r_cM hS) (hS.2.2 _ r_p424m) (by decide)
theorem r_p425m : (398, 46, 425) ∈ ptL := List.mem_of_getElem? (i := 411) rfl
theorem r_p425 {h : aH} (hS : Sh h) : gr h 12 (398) 46 = some (425) := gr_ok9 (r_cM hS) (hS.2.2 _ r_p425m) (by decide)
theorem r_p426m : (398, 47, 426) ∈ ptL := List.mem_of_getElem? (i := 412) rfl
theorem r_p426 {h : aH} (hS : Sh h) : gr h 12 (398) 47 = some (426) := gr_ok9 (r_cM hS) (hS.2.2 _ r_p426m) (by decide)
theorem r_p427m : (398, 48, 427) ∈ ptL := List.mem_of_getElem? (i := 413) rfl
theorem r_p427 {h : aH} (hS : Sh h) : gr h 12 (398) 48 = some (427) := gr_ok9 (r_cM hS) (hS.2.2 _ r_p427m) (by decide)
theorem r_p428m : (398, 49, 428) ∈ ptL := List.mem_of_getElem? (i := 414) rfl
theorem r_p428 {h : aH} (hS : Sh h) : gr h 12 (398) 49 = some (428) := gr_ok9 (r_cM hS) (hS.2.2 _ r_p428m) (by decide)
theorem r_p429m : (398, 50, 429) ∈ ptL := List.mem_of_getElem? (i := 415) rfl
theorem r_p429 {h : aH} (hS : Sh h) : gr h 12 (398) 50 = some (429) := gr_ok9 (r_cM hS) (hS.2.2 _ r_p429m) (by decide)
theorem r_p430m : (398, 51, 430) ∈ ptL := List.mem_of_getElem? (i := 416) rfl
theorem r_p430 {h : aH} (hS : Sh h) : gr h 12 (398) 51 = some (430) := gr_ok9 (r_cM hS) (hS.2.2 _ r_p430m) (by decide)
theorem r_p431m : (398, 52, 431) ∈ ptL := List.mem_of_getElem? (i := 417) rfl
theorem r_p431 {h : aH} (hS : Sh h) : gr h 12 (398) 52 = some (431) := gr_ok9 (r_cM hS) (hS.2.2 _ r_p431m) (by decide)
theorem r_p432m : (398, 53, 432) ∈ ptL := List.mem_of_getElem? (i := 418) rfl
theorem r_p432 {h : aH} (hS : Sh h) : gr h 12 (398) 53 = some (432) := gr_ok9 (r_cM hS) (hS.2.2 _ r_p432m) (by decide)
theorem r_p433m : (398, 54, 433) ∈ ptL := List.mem_of_getElem? (i := 419) rfl
theorem r_p433 {h : aH} (hS : Sh h) : gr h 12 (398) 54 = some (433) := gr_ok9 (r_cM hS) (hS.2.2 _ r_p433m) (by decide)
theorem r_p434m : (398, 55, 434) ∈ ptL := List.mem_of_getElem? (i := 420) rfl
theorem r_p434 {h : aH} (hS : Sh h) : gr h 12 (398) 55 = some (434) := gr_ok9 (r_cM hS) (hS.2.2 _ r_p434m) (by decide)
theorem r_p435m : (398, 56, 435) ∈ ptL := List.mem_of_getElem? (i := 421) rfl
theorem r_p435 {h : aH} (hS : Sh h) : gr h 12 (398) 56 = some (435) := gr_ok9 (r_cM hS) (hS.2.2 _ r_p435m) (by decide)
theorem r_p436m : (398, 57, 436) ∈ ptL := List.mem_of_getElem? (i := 422) rfl
theorem r_p436 {h : aH} (hS : Sh h) : gr h 12 (398) 57 = some (436) := gr_ok9 (r_cM hS) (hS.2.2 _ r_p436m) (by decide)
theorem r_p437m : (398, 58, 437) ∈ ptL := List.mem_of_getElem? (i := 423) rfl
theorem r_p437 {h : aH} (hS : Sh h) : gr h 12 (398) 58 = some (437) := gr_ok9 (r_cM hS) (hS.2.2 _ r_p437m) (by decide)
theorem r_p438m : (398, 59, 438) ∈ ptL := List.mem_of_getElem? (i := 424) rfl
theorem r_p438 {h : aH} (hS : Sh h) : gr h 12 (398) 59 = some (438) := gr_ok9 (r_cM hS) (hS.2.2 _ r_p438m) (by decide)
theorem r_p439m : (398, 60, 439) ∈ ptL := List.mem_of_getElem? (i := 425) rfl
theorem r_p439 {h : aH} (hS : Sh h) : gr h 12 (398) 60 = some (439) := gr_ok9 (r_cM hS) (hS.2.2 _ r_p439m) (by decide)
theorem r_p440m : (398, 61, 440) ∈ ptL := List.mem_of_getElem? (i := 426) rfl
theorem r_p440 {h : aH} (hS : Sh h) : gr h 12 (398) 61 = some (440) := gr_ok9 (r_cM hS) (hS.2.2 _ r_p440m) (by decide)
theorem r_p441m : (398, 62, 441) ∈ ptL := List.mem_of_getElem? (i := 427) rfl
theorem r_p441 {h : aH} (hS : Sh h) : gr h 12 (398) 62 = some (441) := gr_ok9 (r_cM hS) (hS.2.2 _ r_p441m) (by decide)
theorem r_p442m : (398, 64, 442) ∈ ptL := List.mem_of_getElem? (i := 428) rfl
theorem r_p442 {h : aH} (hS : Sh h) : gr h 12 (398) 64 = some (442) := gr_ok9 (r_cM hS) (hS.2.2 _ r_p442m) (by decide)
theorem r_p443m : (398, 65, 443) ∈ ptL := List.mem_of_getElem? (i := 429) rfl
theorem r_p443 {h : aH} (hS : Sh h) : gr h 12 (398) 65 = some (443) := gr_ok9 (r_cM hS) (hS.2.2 _ r_p443m) (by decide)
theorem r_p444m : (398, 66, 444) ∈ ptL := List.mem_of_getElem? (i := 430) rfl
theorem r_p444 {h : aH} (hS : Sh h) : gr h 12 (398) 66 = some (444) := gr_ok9 (r_cM hS) (hS.2.2 _ r_p444m) (by decide)
theorem r_p445m : (398, 67, 445) ∈ ptL := List.mem_of_getElem? (i := 431) rfl
theorem r_p445 {h : aH} (hS : Sh h) : gr h 12 (398) 67 = some (445) := gr_ok9 (r_cM hS) (hS.2.2 _ r_p445m) (by decide)
theorem r_p446m : (398, 69, 446) ∈ ptL := List.mem_of_getElem? (i := 432) rfl
theorem r_p446 {h : aH} (hS : Sh h) : gr h 12 (398) 69 = some (446) := gr_ok9 (r_cM hS) (hS.2.2 _ r_p446m) (by decide)
theorem r_p447m : (398, 70, 447) ∈ ptL := List.mem_of_getElem? (i := 433) rfl
theorem r_p447 {h : aH} (hS : Sh h) : gr h 12 (398) 70 = some (447) := gr_ok9 (r_cM hS) (hS.2.2 _ r_p447m) (by decide)
theorem c_cXm : (1, 21, 0) ∈ shL := List.mem_of_getElem? (i := 0) rfl
theorem c_cX {h : aH} (hS : Sh h) : h_sh h (1) = 10 + 11 := (hS.2.1 _ c_cXm).1
theorem c_cX_gi {h : aH} (hS : Sh h) (k : Nat) : gi h 11 (1) k = some (h_iv h (1) k) := gi_ok (c_cX hS)
theorem c_cX_gL {h : aH} (hS : Sh h) (k : Nat) : gL h 11 (1) k = some (h_lv h (1) k) := gL_ok (c_cX hS)
theorem c_cX_pi {h : aH} (hS : Sh h) (k : Nat) (x : Int32) : pi h 11 (1) k x = some (h_si h (1) k x) := pi_ok (c_cX hS)
theorem c_cX_pL {h : aH} (hS : Sh h) (k : Nat) (x : Int64) : pL h 11 (1) k x = some (h_sL h (1) k x) := pL_ok (c_cX hS)
theorem c_cX_gS {h : aH} (hS : Sh h) {γ : Type} (z : Option γ) : gS h 11 (1) z = z := gS_ok (c_cX hS)
theorem c_ctxtm : (2, 2, 1200) ∈ shL := List.mem_of_getElem? (i := 1) rfl
theorem c_ctxt {h : aH} (hS : Sh h) : h_sh h (2) = 2 ∧ h_ln h (2) = 1200 := ⟨(hS.2.1 _ c_ctxtm).1, (hS.2.1 _ c_ctxtm).2 (show (2 : Nat) < 10 by decide)⟩
theorem c_ctxt_al {h : aH} (hS : Sh h) {n : Nat} (hn : n < 1200) : ali h 2 (2) (nI n) = some (h_iv h (2) n) := ali_ok (c_ctxt hS).1 (c_ctxt hS).2 hn (by omega)
theorem c_ctxt_as {h : aH} (hS : Sh h) {n : Nat} (x : Int32) (hn : n < 1200) : asb h (2) (nI n) x = some (h_si h (2) n x.toInt8.toInt32) := asb_ok (c_ctxt hS).1 (c_ctxt hS).2 hn (by omega)
theorem c_ctxt_ln {h : aH} (hS : Sh h) : aln h (2) = some (nI 1200) := aln_ok (c_ctxt hS).1 (by decide) (by decide) (c_ctxt hS).2
theorem c_cRm : (3, 19, 0) ∈ shL := List.mem_of_getElem? (i := 2) rfl
theorem c_cR {h : aH} (hS : Sh h) : h_sh h (3) = 10 + 9 := (hS.2.1 _ c_cRm).1
theorem c_cR_gi {h : aH} (hS : Sh h) (k : Nat) : gi h 9 (3) k = some (h_iv h (3) k) := gi_ok (c_cR hS)
theorem c_cR_gL {h : aH} (hS : Sh h) (k : Nat) : gL h 9 (3) k = some (h_lv h (3) k) := gL_ok (c_cR hS)
theorem c_cR_pi {h : aH} (hS : Sh h) (k : Nat) (x : Int32) : pi h 9 (3) k x = some (h_si h (3) k x) := pi_ok (c_cR hS)
theorem c_cR_pL {h : aH} (hS : Sh h) (k : Nat) (x : Int64) : pL h 9 (3) k x = some (h_sL h (3) k x) := pL_ok (c_cR hS)
theorem c_cR_gS {h : aH} (hS : Sh h) {γ : Type} (z : Option γ) : gS h 9 (3) z = z := gS_ok (c_cR hS)
theorem c_cUm : (170, 14, 0) ∈ shL := List.mem_of_getElem? (i := 169) rfl
theorem c_cU {h : aH} (hS : Sh h) : h_sh h (170) = 10 + 4 := (hS.2.1 _ c_cUm).1
theorem c_cU_gi {h : aH} (hS : Sh h) (k : Nat) : gi h 4 (170) k = some (h_iv h (170) k) := gi_ok (c_cU hS)
theorem c_cU_gL {h : aH} (hS : Sh h) (k : Nat) : gL h 4 (170) k = some (h_lv h (170) k) := gL_ok (c_cU hS)
theorem c_cU_pi {h : aH} (hS : Sh h) (k : Nat) (x : Int32) : pi h 4 (170) k x = some (h_si h (170) k x) := pi_ok (c_cU hS)
theorem c_cU_pL {h : aH} (hS : Sh h) (k : Nat) (x : Int64) : pL h 4 (170) k x = some (h_sL h (170) k x) := pL_ok (c_cU hS)
theorem c_cU_gS {h : aH} (hS : Sh h) {γ : Type} (z : Option γ) : gS h 4 (170) z = z := gS_ok (c_cU hS)
theorem c_cu0m : (171, 1, 12) ∈ shL := List.mem_of_getElem? (i := 170) rfl
theorem c_cu0 {h : aH} (hS : Sh h) : h_sh h (171) = 1 ∧ h_ln h (171) = 12 := ⟨(hS.2.1 _ c_cu0m).1, (hS.2.1 _ c_cu0m).2 (show (1 : Nat) < 10 by decide)⟩
theorem c_cu0_al {h : aH} (hS : Sh h) {n : Nat} (hn : n < 12) : ali h 1 (171) (nI n) = some (h_iv h (171) n) := ali_ok (c_cu0 hS).1 (c_cu0 hS).2 hn (by omega)
theorem c_cu0_as {h : aH} (hS : Sh h) {n : Nat} (x : Int32) (hn : n < 12) : asi h (171) (nI n) x = some (h_si h (171) n x) := asi_ok (c_cu0 hS).1 (c_cu0 hS).2 hn (by omega)
theorem c_cu0_ln {h : aH} (hS : Sh h) : aln h (171) = some (nI 12) := aln_ok (c_cu0 hS).1 (by decide) (by decide) (c_cu0 hS).2
theorem c_cu1m : (172, 1, 12) ∈ shL := List.mem_of_getElem? (i := 171) rfl
theorem c_cu1 {h : aH} (hS : Sh h) : h_sh h (172) = 1 ∧ h_ln h (172) = 12 := ⟨(hS.2.1 _ c_cu1m).1, (hS.2.1 _ c_cu1m).2 (show (1 : Nat) < 10 by decide)⟩
theorem c_cu1_al {h : aH} (hS : Sh h) {n : Nat} (hn : n < 12) : ali h 1 (172) (nI n) = some (h_iv h (172) n) := ali_ok (c_cu1 hS).1 (c_cu1 hS).2 hn (by omega)
theorem c_cu1_as {h : aH} (hS : Sh h) {n : Nat} (x : Int32) (hn : n < 12) : asi h (172) (nI n) x = some (h_si h (172) n x) := asi_ok (c_cu1 hS).1 (c_cu1 hS).2 hn (by omega)
theorem c_cu1_ln {h : aH} (hS : Sh h) : aln h (172) = some (nI 12) := aln_ok (c_cu1 hS).1 (by decide) (by decide) (c_cu1 hS).2
theorem c_cu2m : (173, 1, 5) ∈ shL := List.mem_of_getElem? (i := 172) rfl
theorem c_cu2 {h : aH} (hS : Sh h) : h_sh h (173) = 1 ∧ h_ln h (173) = 5 := ⟨(hS.2.1 _ c_cu2m).1, (hS.2.1 _ c_cu2m).2 (show (1 : Nat) < 10 by decide)⟩
theorem c_cu2_al {h : aH} (hS : Sh h) {n : Nat} (hn : n < 5) : ali h 1 (173) (nI n) = some (h_iv h (173) n) := ali_ok (c_cu2 hS).1 (c_cu2 hS).2 hn (by omega)
theorem c_cu2_as {h : aH} (hS : Sh h) {n : Nat} (x : Int32) (hn : n < 5) : asi h (173) (nI n) x = some (h_si h (173) n x) := asi_ok (c_cu2 hS).1 (c_cu2 hS).2 hn (by omega)
theorem c_cu2_ln {h : aH} (hS : Sh h) : aln h (173) = some (nI 5) := aln_ok (c_cu2 hS).1 (by decide) (by decide) (c_cu2 hS).2
theorem c_cu3m : (174, 1, 5) ∈ shL := List.mem_of_getElem? (i := 173) rfl
theorem c_cu3 {h : aH} (hS : Sh h) : h_sh h (174) = 1 ∧ h_ln h (174) = 5 := ⟨(hS.2.1 _ c_cu3m).1, (hS.2.1 _ c_cu3m).2 (show (1 : Nat) < 10 by decide)⟩
theorem c_cu3_al {h : aH} (hS : Sh h) {n : Nat} (hn : n < 5) : ali h 1 (174) (nI n) = some (h_iv h (174) n) := ali_ok (c_cu3 hS).1 (c_cu3 hS).2 hn (by omega)
theorem c_cu3_as {h : aH} (hS : Sh h) {n : Nat} (x : Int32) (hn : n < 5) : asi h (174) (nI n) x = some (h_si h (174) n x) := asi_ok (c_cu3 hS).1 (c_cu3 hS).2 hn (by omega)
theorem c_cu3_ln {h : aH} (hS : Sh h) : aln h (174) = some (nI 5) := aln_ok (c_cu3 hS).1 (by decide) (by decide) (c_cu3 hS).2
theorem c_cu4m : (175, 1, 5) ∈ shL := List.mem_of_getElem? (i := 174) rfl
theorem c_cu4 {h : aH} (hS : Sh h) : h_sh h (175) = 1 ∧ h_ln h (175) = 5 := ⟨(hS.2.1 _ c_cu4m).1, (hS.2.1 _ c_cu4m).2 (show (1 : Nat) < 10 by decide)⟩
theorem c_cu4_al {h : aH} (hS : Sh h) {n : Nat} (hn : n < 5) : ali h 1 (175) (nI n) = some (h_iv h (175) n) := ali_ok (c_cu4 hS).1 (c_cu4 hS).2 hn (by omega)
theorem c_cu4_as {h : aH} (hS : Sh h) {n : Nat} (x : Int32) (hn : n < 5) : asi h (175) (nI n) x = some (h_si h (175) n x) := asi_ok (c_cu4 hS).1 (c_cu4 hS).2 hn (by omega)
theorem c_cu4_ln {h : aH} (hS : Sh h) : aln h (175) = some (nI 5) := aln_ok (c_cu4 hS).1 (by decide) (by decide) (c_cu4 hS).2
theorem c_cu5m : (176, 1, 5) ∈ shL := List.mem_of_getElem? (i := 175) rfl
theorem c_cu5 {h : aH} (hS : Sh h) : h_sh h (176) = 1 ∧ h_ln h (176) = 5 := ⟨(hS.2.1 _ c_cu5m).1, (hS.2.1 _ c_cu5m).2 (show (1 : Nat) < 10 by decide)⟩
theorem c_cu5_al {h : aH} (hS : Sh h) {n : Nat} (hn : n < 5) : ali h 1 (176) (nI n) = some (h_iv h (176) n) := ali_ok (c_cu5 hS).1 (c_cu5 hS).2 hn (by omega)
theorem c_cu5_as {h : aH} (hS : Sh h) {n : Nat} (x : Int32) (hn : n < 5) : asi h (176) (nI n) x = some (h_si h (176) n x) := asi_ok (c_cu5 hS).1 (c_cu5 hS).2 hn (by omega)
theorem c_cu5_ln {h : aH} (hS : Sh h) : aln h (176) = some (nI 5) := aln_ok (c_cu5 hS).1 (by decide) (by decide) (c_cu5 hS).2
theorem c_cu6m : (177, 1, 32) ∈ shL := List.mem_of_getElem? (i := 176) rfl
theorem c_cu6 {h : aH} (hS : Sh h) : h_sh h (177) = 1 ∧ h_ln h (177) = 32 := ⟨(hS.2.1 _ c_cu6m).1, (hS.2.1 _ c_cu6m).2 (show (1 : Nat) < 10 by decide)⟩
theorem c_cu6_al {h : aH} (hS : Sh h) {n : Nat} (hn : n < 32) : ali h 1 (177) (nI n) = some (h_iv h (177) n) := ali_ok (c_cu6 hS).1 (c_cu6 hS).2 hn (by omega)
theorem c_cu6_as {h : aH} (hS : Sh h) {n : Nat} (x : Int32) (hn : n < 32) : asi h (177) (nI n) x = some (h_si h (177) n x) := asi_ok (c_cu6 hS).1 (c_cu6 hS).2 hn (by omega)
theorem c_cu6_ln {h : aH} (hS : Sh h) : aln h (177) = some (nI 32) := aln_ok (c_cu6 hS).1 (by decide) (by decide) (c_cu6 hS).2
theorem c_cHm : (178, 12, 0) ∈ shL := List.mem_of_getElem? (i := 177) rfl
theorem c_cH {h : aH} (hS : Sh h) : h_sh h (178) = 10 + 2 := (hS.2.1 _ c_cHm).1
theorem c_cH_gi {h : aH} (hS : Sh h) (k : Nat) : gi h 2 (178) k = some (h_iv h (178) k) := gi_ok (c_cH hS)
theorem c_cH_gL {h : aH} (hS : Sh h) (k : Nat) : gL h 2 (178) k = some (h_lv h (178) k) := gL_ok (c_cH hS)
theorem c_cH_pi {h : aH} (hS : Sh h) (k : Nat) (x : Int32) : pi h 2 (178) k x = some (h_si h (178) k x) := pi_ok (c_cH hS)
theorem c_cH_pL {h : aH} (hS : Sh h) (k : Nat) (x : Int64) : pL h 2 (178) k x = some (h_sL h (178) k x) := pL_ok (c_cH hS)
theorem c_cH_gS {h : aH} (hS : Sh h) {γ : Type} (z : Option γ) : gS h 2 (178) z = z := gS_ok (c_cH hS)
theorem c_ckeptm : (179, 5, 10) ∈ shL := List.mem_of_getElem? (i := 178) rfl
theorem c_ckept {h : aH} (hS : Sh h) : h_sh h (179) = 5 ∧ h_ln h (179) = 10 := ⟨(hS.2.1 _ c_ckeptm).1, (hS.2.1 _ c_ckeptm).2 (show (5 : Nat) < 10 by decide)⟩
theorem c_ckept_ln {h : aH} (hS : Sh h) : aln h (179) = some (nI 10) := aln_ok (c_ckept hS).1 (by decide) (by decide) (c_ckept hS).2
theorem c_cslotsm : (180, 5, 2) ∈ shL := List.mem_of_getElem? (i := 179) rfl
theorem c_cslots {h : aH} (hS : Sh h) : h_sh h (180) = 5 ∧ h_ln h (180) = 2 := ⟨(hS.2.1 _ c_cslotsm).1, (hS.2.1 _ c_cslotsm).2 (show (5 : Nat) < 10 by decide)⟩
theorem c_cslots_ln {h : aH} (hS : Sh h) : aln h (180) = some (nI 2) := aln_ok (c_cslots hS).1 (by decide) (by decide) (c_cslots hS).2
theorem c_cfillm : (181, 3, 2) ∈ shL := List.mem_of_getElem? (i := 180) rfl
theorem c_cfill {h : aH} (hS : Sh h) : h_sh h (181) = 3 ∧ h_ln h (181) = 2 := ⟨(hS.2.1 _ c_cfillm).1, (hS.2.1 _ c_cfillm).2 (show (3 : Nat) < 10 by decide)⟩
theorem c_cfill_al {h : aH} (hS : Sh h) {n : Nat} (hn : n < 2) : ali h 3 (181) (nI n) = some (h_iv h (181) n) := ali_ok (c_cfill hS).1 (c_cfill hS).2 hn (by omega)
theorem c_cfill_as {h : aH} (hS : Sh h) {n : Nat} {x : Int32} (hn : n < 2) (hx : x = 0 ∨ x = 1) : asz h (181) (nI n) x = some (h_si h (181) n x) := asz_ok (c_cfill hS).1 (c_cfill hS).2 hn (by omega) hx
theorem c_cfill_ln {h : aH} (hS : Sh h) : aln h (181) = some (nI 2) := aln_ok (c_cfill hS).1 (by decide) (by decide) (c_cfill hS).2
theorem c_com : (448, 4, 1) ∈ shL := List.mem_of_getElem? (i := 447) rfl
theorem c_co {h : aH} (hS : Sh h) : h_sh h (448) = 4 ∧ h_ln h (448) = 1 := ⟨(hS.2.1 _ c_com).1, (hS.2.1 _ c_com).2 (show (4 : Nat) < 10 by decide)⟩
theorem c_co_al {h : aH} (hS : Sh h) {n : Nat} (hn : n < 1) : alL h (448) (nI n) = some (h_lv h (448) n) := alL_ok (c_co hS).1 (c_co hS).2 hn (by omega)
theorem c_co_as {h : aH} (hS : Sh h) {n : Nat} (x : Int64) (hn : n < 1) : asL h (448) (nI n) x = some (h_sL h (448) n x) := asL_ok (c_co hS).1 (c_co hS).2 hn (by omega)
theorem c_co_ln {h : aH} (hS : Sh h) : aln h (448) = some (nI 1) := aln_ok (c_co hS).1 (by decide) (by decide) (c_co hS).2
theorem c_ptxtm : (1, 0, 2) ∈ ptL := List.mem_of_getElem? (i := 0) rfl
theorem c_ptxt {h : aH} (hS : Sh h) : gr h 11 (1) 0 = some (2) := gr_ok9 (c_cX hS) (hS.2.2 _ c_ptxtm) (by decide)
theorem c_prdm : (1, 2, 3) ∈ ptL := List.mem_of_getElem? (i := 1) rfl
theorem c_prd {h : aH} (hS : Sh h) : gr h 11 (1) 2 = some (3) := gr_ok9 (c_cX hS) (hS.2.2 _ c_prdm) (by decide)
theorem c_pstm : (1, 5, 134) ∈ ptL := List.mem_of_getElem? (i := 2) rfl
theorem c_pst {h : aH} (hS : Sh h) : gr h 11 (1) 5 = some (134) := gr_ok9 (c_cX hS) (hS.2.2 _ c_pstm) (by decide)
theorem c_pdrm : (1, 6, 152) ∈ ptL := List.mem_of_getElem? (i := 3) rfl
theorem c_pdr {h : aH} (hS : Sh h) : gr h 11 (1) 6 = some (152) := gr_ok9 (c_cX hS) (hS.2.2 _ c_pdrm) (by decide)
theorem c_pmum : (1, 7, 170) ∈ ptL := List.mem_of_getElem? (i := 4) rfl
theorem c_pmu {h : aH} (hS : Sh h) : gr h 11 (1) 7 = some (170) := gr_ok9 (c_cX hS) (hS.2.2 _ c_pmum) (by decide)
theorem c_phim : (1, 8, 178) ∈ ptL := List.mem_of_getElem? (i := 5) rfl
theorem c_phi {h : aH} (hS : Sh h) : gr h 11 (1) 8 = some (178) := gr_ok9 (c_cX hS) (hS.2.2 _ c_phim) (by decide)
theorem c_prtxtm : (3, 0, 2) ∈ ptL := List.mem_of_getElem? (i := 6) rfl
theorem c_prtxt {h : aH} (hS : Sh h) : gr h 9 (3) 0 = some (2) := gr_ok9 (c_cR hS) (hS.2.2 _ c_prtxtm) (by decide)
theorem c_pu0m : (170, 2, 171) ∈ ptL := List.mem_of_getElem? (i := 373) rfl
theorem c_pu0 {h : aH} (hS : Sh h) : gr h 4 (170) 2 = some (171) := gr_ok9 (c_cU hS) (hS.2.2 _ c_pu0m) (by decide)
theorem c_pu1m : (170, 3, 172) ∈ ptL := List.mem_of_getElem? (i := 374) rfl
theorem c_pu1 {h : aH} (hS : Sh h) : gr h 4 (170) 3 = some (172) := gr_ok9 (c_cU hS) (hS.2.2 _ c_pu1m) (by decide)
theorem c_pu2m : (170, 6, 173) ∈ ptL := List.mem_of_getElem? (i := 375) rfl
theorem c_pu2 {h : aH} (hS : Sh h) : gr h 4 (170) 6 = some (173) := gr_ok9 (c_cU hS) (hS.2.2 _ c_pu2m) (by decide)
theorem c_pu3m : (170, 7, 174) ∈ ptL := List.mem_of_getElem? (i := 376) rfl
theorem c_pu3 {h : aH} (hS : Sh h) : gr h 4 (170) 7 = some (174) := gr_ok9 (c_cU hS) (hS.2.2 _ c_pu3m) (by decide)
theorem c_pu4m : (170, 8, 175) ∈ ptL := List.mem_of_getElem? (i := 377) rfl
theorem c_pu4 {h : aH} (hS : Sh h) : gr h 4 (170) 8 = some (175) := gr_ok9 (c_cU hS) (hS.2.2 _ c_pu4m) (by decide)
theorem c_pu5m : (170, 9, 176) ∈ ptL := List.mem_of_getElem? (i := 378) rfl
theorem c_pu5 {h : aH} (hS : Sh h) : gr h 4 (170) 9 = some (176) := gr_ok9 (c_cU hS) (hS.2.2 _ c_pu5m) (by decide)
theorem c_pu6m : (170, 10, 177) ∈ ptL := List.mem_of_getElem? (i := 379) rfl
theorem c_pu6 {h : aH} (hS : Sh h) : gr h 4 (170) 10 = some (177) := gr_ok9 (c_cU hS) (hS.2.2 _ c_pu6m) (by decide)
theorem c_pkeptm : (178, 1, 179) ∈ ptL := List.mem_of_getElem? (i := 380) rfl
theorem c_pkept {h : aH} (hS : Sh h) : gr h 2 (178) 1 = some (179) := gr_ok9 (c_cH hS) (hS.2.2 _ c_pkeptm) (by decide)
theorem c_pslotsm : (178, 2, 180) ∈ ptL := List.mem_of_getElem? (i := 381) rfl
theorem c_pslots {h : aH} (hS : Sh h) : gr h 2 (178) 2 = some (180) := gr_ok9 (c_cH hS) (hS.2.2 _ c_pslotsm) (by decide)
theorem c_pfillm : (178, 3, 181) ∈ ptL := List.mem_of_getElem? (i := 382) rfl
theorem c_pfill {h : aH} (hS : Sh h) : gr h 2 (178) 3 = some (181) := gr_ok9 (c_cH hS) (hS.2.2 _ c_pfillm) (by decide)
