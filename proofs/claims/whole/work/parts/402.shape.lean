/-! where the objects lie, and of what shape they are -/
def shL : List (Nat × Nat × Nat) := [(1, 21, 0), (2, 2, 1200), (3, 19, 0), (4, 18, 0), (5, 15, 0), (6, 6, 12), (7, 1, 144), (8, 7, 6), (9, 8, 5), (10, 9, 6), (11, 1, 32), (12, 17, 0), (13, 17, 0), (14, 17, 0), (15, 17, 0), (16, 17, 0), (17, 17, 0), (18, 17, 0), (19, 17, 0), (20, 17, 0), (21, 17, 0), (22, 17, 0), (23, 17, 0), (24, 16, 0), (25, 1, 8), (26, 16, 0), (27, 1, 8), (28, 16, 0), (29, 1, 8), (30, 16, 0), (31, 1, 8), (32, 16, 0), (33, 1, 8), (34, 16, 0), (35, 1, 8), (36, 11, 0), (37, 1, 6), (38, 1, 32), (39, 11, 0), (40, 1, 6), (41, 1, 32), (42, 11, 0), (43, 1, 6), (44, 1, 32), (45, 11, 0), (46, 1, 6), (47, 1, 32), (48, 11, 0), (49, 1, 6), (50, 1, 32), (51, 13, 0), (52, 1, 6), (53, 1, 5), (54, 13, 0), (55, 1, 6), (56, 1, 5), (57, 13, 0), (58, 1, 6), (59, 1, 5), (60, 13, 0), (61, 1, 6), (62, 1, 5), (63, 13, 0), (64, 1, 6), (65, 1, 5), (66, 13, 0), (67, 1, 6), (68, 1, 5), (69, 18, 0), (70, 15, 0), (71, 6, 12), (72, 1, 144), (73, 7, 6), (74, 8, 5), (75, 9, 6), (76, 1, 32), (77, 17, 0), (78, 17, 0), (79, 17, 0), (80, 17, 0), (81, 17, 0), (82, 17, 0), (83, 17, 0), (84, 17, 0), (85, 17, 0), (86, 17, 0), (87, 17, 0), (88, 17, 0), (89, 16, 0), (90, 1, 8), (91, 16, 0), (92, 1, 8), (93, 16, 0), (94, 1, 8), (95, 16, 0), (96, 1, 8), (97, 16, 0), (98, 1, 8), (99, 16, 0), (100, 1, 8), (101, 11, 0), (102, 1, 6), (103, 1, 32), (104, 11, 0), (105, 1, 6), (106, 1, 32), (107, 11, 0), (108, 1, 6), (109, 1, 32), (110, 11, 0), (111, 1, 6), (112, 1, 32), (113, 11, 0), (114, 1, 6), (115, 1, 32), (116, 13, 0), (117, 1, 6), (118, 1, 5), (119, 13, 0), (120, 1, 6), (121, 1, 5), (122, 13, 0), (123, 1, 6), (124, 1, 5), (125, 13, 0), (126, 1, 6), (127, 1, 5), (128, 13, 0), (129, 1, 6), (130, 1, 5), (131, 13, 0), (132, 1, 6), (133, 1, 5), (134, 20, 0), (135, 1, 12), (136, 1, 12), (137, 1, 12), (138, 1, 144), (139, 1, 48), (140, 1, 6), (141, 1, 18), (142, 1, 18), (143, 1, 5), (144, 1, 5), (145, 10, 0), (146, 1, 16), (147, 1, 16), (148, 1, 16), (149, 1, 80), (150, 1, 80), (151, 1, 80), (152, 1, 12), (153, 20, 0), (154, 1, 12), (155, 1, 12), (156, 1, 12), (157, 1, 144), (158, 1, 48), (159, 1, 6), (160, 1, 18), (161, 1, 18), (162, 1, 5), (163, 1, 5), (164, 10, 0), (165, 1, 16), (166, 1, 16), (167, 1, 16), (168, 1, 80), (169, 1, 80), (170, 1, 80), (171, 1, 12), (172, 14, 0), (173, 1, 12), (174, 1, 12), (175, 1, 5), (176, 1, 5), (177, 1, 5), (178, 1, 5), (179, 1, 32), (180, 12, 0), (181, 5, 10), (182, 5, 2), (183, 3, 2), (184, 20, 0), (185, 1, 12), (186, 1, 12), (187, 1, 12), (188, 1, 144), (189, 1, 48), (190, 1, 6), (191, 1, 18), (192, 1, 18), (193, 1, 5), (194, 1, 5), (195, 10, 0), (196, 1, 16), (197, 1, 16), (198, 1, 16), (199, 1, 80), (200, 1, 80), (201, 1, 80), (202, 1, 12), (203, 20, 0), (204, 1, 12), (205, 1, 12), (206, 1, 12), (207, 1, 144), (208, 1, 48), (209, 1, 6), (210, 1, 18), (211, 1, 18), (212, 1, 5), (213, 1, 5), (214, 10, 0), (215, 1, 16), (216, 1, 16), (217, 1, 16), (218, 1, 80), (219, 1, 80), (220, 1, 80), (221, 1, 12), (222, 20, 0), (223, 1, 12), (224, 1, 12), (225, 1, 12), (226, 1, 144), (227, 1, 48), (228, 1, 6), (229, 1, 18), (230, 1, 18), (231, 1, 5), (232, 1, 5), (233, 10, 0), (234, 1, 16), (235, 1, 16), (236, 1, 16), (237, 1, 80), (238, 1, 80), (239, 1, 80), (240, 1, 12), (241, 20, 0), (242, 1, 12), (243, 1, 12), (244, 1, 12), (245, 1, 144), (246, 1, 48), (247, 1, 6), (248, 1, 18), (249, 1, 18), (250, 1, 5), (251, 1, 5), (252, 10, 0), (253, 1, 16), (254, 1, 16), (255, 1, 16), (256, 1, 80), (257, 1, 80), (258, 1, 80), (259, 1, 12), (260, 20, 0), (261, 1, 12), (262, 1, 12), (263, 1, 12), (264, 1, 144), (265, 1, 48), (266, 1, 6), (267, 1, 18), (268, 1, 18), (269, 1, 5), (270, 1, 5), (271, 10, 0), (272, 1, 16), (273, 1, 16), (274, 1, 16), (275, 1, 80), (276, 1, 80), (277, 1, 80), (278, 1, 12), (279, 20, 0), (280, 1, 12), (281, 1, 12), (282, 1, 12), (283, 1, 144), (284, 1, 48), (285, 1, 6), (286, 1, 18), (287, 1, 18), (288, 1, 5), (289, 1, 5), (290, 10, 0), (291, 1, 16), (292, 1, 16), (293, 1, 16), (294, 1, 80), (295, 1, 80), (296, 1, 80), (297, 1, 12), (298, 20, 0), (299, 1, 12), (300, 1, 12), (301, 1, 12), (302, 1, 144), (303, 1, 48), (304, 1, 6), (305, 1, 18), (306, 1, 18), (307, 1, 5), (308, 1, 5), (309, 10, 0), (310, 1, 16), (311, 1, 16), (312, 1, 16), (313, 1, 80), (314, 1, 80), (315, 1, 80), (316, 1, 12), (317, 20, 0), (318, 1, 12), (319, 1, 12), (320, 1, 12), (321, 1, 144), (322, 1, 48), (323, 1, 6), (324, 1, 18), (325, 1, 18), (326, 1, 5), (327, 1, 5), (328, 10, 0), (329, 1, 16), (330, 1, 16), (331, 1, 16), (332, 1, 80), (333, 1, 80), (334, 1, 80), (335, 1, 12), (336, 20, 0), (337, 1, 12), (338, 1, 12), (339, 1, 12), (340, 1, 144), (341, 1, 48), (342, 1, 6), (343, 1, 18), (344, 1, 18), (345, 1, 5), (346, 1, 5), (347, 10, 0), (348, 1, 16), (349, 1, 16), (350, 1, 16), (351, 1, 80), (352, 1, 80), (353, 1, 80), (354, 1, 12), (355, 20, 0), (356, 1, 12), (357, 1, 12), (358, 1, 12), (359, 1, 144), (360, 1, 48), (361, 1, 6), (362, 1, 18), (363, 1, 18), (364, 1, 5), (365, 1, 5), (366, 10, 0), (367, 1, 16), (368, 1, 16), (369, 1, 16), (370, 1, 80), (371, 1, 80), (372, 1, 80), (373, 1, 12), (374, 20, 0), (375, 1, 12), (376, 1, 12), (377, 1, 12), (378, 1, 144), (379, 1, 48), (380, 1, 6), (381, 1, 18), (382, 1, 18), (383, 1, 5), (384, 1, 5), (385, 10, 0), (386, 1, 16), (387, 1, 16), (388, 1, 16), (389, 1, 80), (390, 1, 80), (391, 1, 80), (392, 1, 12), (393, 20, 0), (394, 1, 12), (395, 1, 12), (396, 1, 12), (397, 1, 144), (398, 1, 48), (399, 1, 6), (400, 1, 18), (401, 1, 18), (402, 1, 5), (403, 1, 5), (404, 10, 0), (405, 1, 16), (406, 1, 16), (407, 1, 16), (408, 1, 80), (409, 1, 80), (410, 1, 80), (411, 1, 12), (412, 22, 0), (413, 1, 603), (414, 1, 6030), (415, 1, 1206), (416, 1, 603), (417, 3, 2), (418, 1, 4), (419, 4, 29), (420, 1, 12), (421, 1, 12), (422, 1, 6), (423, 1, 6), (424, 1, 6), (425, 1, 5), (426, 1, 5), (427, 1, 30), (428, 1, 6), (429, 1, 6), (430, 1, 6), (431, 1, 6), (432, 1, 36), (433, 1, 6), (434, 1, 30), (435, 1, 1200), (436, 1, 4), (437, 4, 29), (438, 1, 12), (439, 1, 12), (440, 1, 144), (441, 3, 144), (442, 1, 6), (443, 1, 6), (444, 1, 6), (445, 1, 48), (446, 1, 5), (447, 1, 5), (448, 1, 30), (449, 1, 6), (450, 1, 6), (451, 1, 6), (452, 1, 6), (453, 1, 36), (454, 1, 6), (455, 1, 30), (456, 1, 5), (457, 1, 5), (458, 1, 5), (459, 1, 5), (460, 3, 4096), (461, 3, 4096), (462, 4, 1)]
def ptL : List (Nat × Nat × Nat) := [(1, 0, 2), (1, 2, 3), (1, 5, 134), (1, 6, 153), (1, 7, 172), (1, 8, 180), (3, 0, 2), (4, 2, 6), (4, 4, 7), (4, 6, 8), (4, 8, 9), (4, 10, 10), (4, 11, 11), (4, 0, 5), (6, 0, 12), (6, 1, 13), (6, 2, 14), (6, 3, 15), (6, 4, 16), (6, 5, 17), (6, 6, 18), (6, 7, 19), (6, 8, 20), (6, 9, 21), (6, 10, 22), (6, 11, 23), (8, 0, 24), (24, 4, 25), (8, 1, 26), (26, 4, 27), (8, 2, 28), (28, 4, 29), (8, 3, 30), (30, 4, 31), (8, 4, 32), (32, 4, 33), (8, 5, 34), (34, 4, 35), (9, 0, 36), (36, 3, 37), (36, 4, 38), (9, 1, 39), (39, 3, 40), (39, 4, 41), (9, 2, 42), (42, 3, 43), (42, 4, 44), (9, 3, 45), (45, 3, 46), (45, 4, 47), (9, 4, 48), (48, 3, 49), (48, 4, 50), (10, 0, 51), (51, 5, 52), (51, 7, 53), (10, 1, 54), (54, 5, 55), (54, 7, 56), (10, 2, 57), (57, 5, 58), (57, 7, 59), (10, 3, 60), (60, 5, 61), (60, 7, 62), (10, 4, 63), (63, 5, 64), (63, 7, 65), (10, 5, 66), (66, 5, 67), (66, 7, 68), (69, 2, 71), (69, 4, 72), (69, 6, 73), (69, 8, 74), (69, 10, 75), (69, 11, 76), (69, 0, 70), (71, 0, 77), (71, 1, 78), (71, 2, 79), (71, 3, 80), (71, 4, 81), (71, 5, 82), (71, 6, 83), (71, 7, 84), (71, 8, 85), (71, 9, 86), (71, 10, 87), (71, 11, 88), (73, 0, 89), (89, 4, 90), (73, 1, 91), (91, 4, 92), (73, 2, 93), (93, 4, 94), (73, 3, 95), (95, 4, 96), (73, 4, 97), (97, 4, 98), (73, 5, 99), (99, 4, 100), (74, 0, 101), (101, 3, 102), (101, 4, 103), (74, 1, 104), (104, 3, 105), (104, 4, 106), (74, 2, 107), (107, 3, 108), (107, 4, 109), (74, 3, 110), (110, 3, 111), (110, 4, 112), (74, 4, 113), (113, 3, 114), (113, 4, 115), (75, 0, 116), (116, 5, 117), (116, 7, 118), (75, 1, 119), (119, 5, 120), (119, 7, 121), (75, 2, 122), (122, 5, 123), (122, 7, 124), (75, 3, 125), (125, 5, 126), (125, 7, 127), (75, 4, 128), (128, 5, 129), (128, 7, 130), (75, 5, 131), (131, 5, 132), (131, 7, 133), (134, 2, 135), (134, 3, 136), (134, 4, 137), (134, 6, 138), (134, 7, 139), (134, 8, 140), (134, 9, 141), (134, 10, 142), (134, 11, 143), (134, 12, 144), (134, 14, 145), (145, 1, 146), (145, 3, 147), (145, 4, 148), (145, 5, 149), (145, 6, 150), (145, 7, 151), (134, 15, 152), (153, 2, 154), (153, 3, 155), (153, 4, 156), (153, 6, 157), (153, 7, 158), (153, 8, 159), (153, 9, 160), (153, 10, 161), (153, 11, 162), (153, 12, 163), (153, 14, 164), (164, 1, 165), (164, 3, 166), (164, 4, 167), (164, 5, 168), (164, 6, 169), (164, 7, 170), (153, 15, 171), (184, 2, 185), (184, 3, 186), (184, 4, 187), (184, 6, 188), (184, 7, 189), (184, 8, 190), (184, 9, 191), (184, 10, 192), (184, 11, 193), (184, 12, 194), (184, 14, 195), (195, 1, 196), (195, 3, 197), (195, 4, 198), (195, 5, 199), (195, 6, 200), (195, 7, 201), (184, 15, 202), (203, 2, 204), (203, 3, 205), (203, 4, 206), (203, 6, 207), (203, 7, 208), (203, 8, 209), (203, 9, 210), (203, 10, 211), (203, 11, 212), (203, 12, 213), (203, 14, 214), (214, 1, 215), (214, 3, 216), (214, 4, 217), (214, 5, 218), (214, 6, 219), (214, 7, 220), (203, 15, 221), (222, 2, 223), (222, 3, 224), (222, 4, 225), (222, 6, 226), (222, 7, 227), (222, 8, 228), (222, 9, 229), (222, 10, 230), (222, 11, 231), (222, 12, 232), (222, 14, 233), (233, 1, 234), (233, 3, 235), (233, 4, 236), (233, 5, 237), (233, 6, 238), (233, 7, 239), (222, 15, 240), (241, 2, 242), (241, 3, 243), (241, 4, 244), (241, 6, 245), (241, 7, 246), (241, 8, 247), (241, 9, 248), (241, 10, 249), (241, 11, 250), (241, 12, 251), (241, 14, 252), (252, 1, 253), (252, 3, 254), (252, 4, 255), (252, 5, 256), (252, 6, 257), (252, 7, 258), (241, 15, 259), (260, 2, 261), (260, 3, 262), (260, 4, 263), (260, 6, 264), (260, 7, 265), (260, 8, 266), (260, 9, 267), (260, 10, 268), (260, 11, 269), (260, 12, 270), (260, 14, 271), (271, 1, 272), (271, 3, 273), (271, 4, 274), (271, 5, 275), (271, 6, 276), (271, 7, 277), (260, 15, 278), (279, 2, 280), (279, 3, 281), (279, 4, 282), (279, 6, 283), (279, 7, 284), (279, 8, 285), (279, 9, 286), (279, 10, 287), (279, 11, 288), (279, 12, 289), (279, 14, 290), (290, 1, 291), (290, 3, 292), (290, 4, 293), (290, 5, 294), (290, 6, 295), (290, 7, 296), (279, 15, 297), (298, 2, 299), (298, 3, 300), (298, 4, 301), (298, 6, 302), (298, 7, 303), (298, 8, 304), (298, 9, 305), (298, 10, 306), (298, 11, 307), (298, 12, 308), (298, 14, 309), (309, 1, 310), (309, 3, 311), (309, 4, 312), (309, 5, 313), (309, 6, 314), (309, 7, 315), (298, 15, 316), (317, 2, 318), (317, 3, 319), (317, 4, 320), (317, 6, 321), (317, 7, 322), (317, 8, 323), (317, 9, 324), (317, 10, 325), (317, 11, 326), (317, 12, 327), (317, 14, 328), (328, 1, 329), (328, 3, 330), (328, 4, 331), (328, 5, 332), (328, 6, 333), (328, 7, 334), (317, 15, 335), (336, 2, 337), (336, 3, 338), (336, 4, 339), (336, 6, 340), (336, 7, 341), (336, 8, 342), (336, 9, 343), (336, 10, 344), (336, 11, 345), (336, 12, 346), (336, 14, 347), (347, 1, 348), (347, 3, 349), (347, 4, 350), (347, 5, 351), (347, 6, 352), (347, 7, 353), (336, 15, 354), (355, 2, 356), (355, 3, 357), (355, 4, 358), (355, 6, 359), (355, 7, 360), (355, 8, 361), (355, 9, 362), (355, 10, 363), (355, 11, 364), (355, 12, 365), (355, 14, 366), (366, 1, 367), (366, 3, 368), (366, 4, 369), (366, 5, 370), (366, 6, 371), (366, 7, 372), (355, 15, 373), (374, 2, 375), (374, 3, 376), (374, 4, 377), (374, 6, 378), (374, 7, 379), (374, 8, 380), (374, 9, 381), (374, 10, 382), (374, 11, 383), (374, 12, 384), (374, 14, 385), (385, 1, 386), (385, 3, 387), (385, 4, 388), (385, 5, 389), (385, 6, 390), (385, 7, 391), (374, 15, 392), (393, 2, 394), (393, 3, 395), (393, 4, 396), (393, 6, 397), (393, 7, 398), (393, 8, 399), (393, 9, 400), (393, 10, 401), (393, 11, 402), (393, 12, 403), (393, 14, 404), (404, 1, 405), (404, 3, 406), (404, 4, 407), (404, 5, 408), (404, 6, 409), (404, 7, 410), (393, 15, 411), (172, 2, 173), (172, 3, 174), (172, 6, 175), (172, 7, 176), (172, 8, 177), (172, 9, 178), (172, 10, 179), (180, 1, 181), (180, 2, 182), (180, 3, 183), (182, 0, 374), (182, 1, 393), (412, 1, 413), (412, 2, 414), (412, 3, 415), (412, 4, 416), (412, 5, 417), (412, 7, 418), (412, 12, 419), (412, 13, 420), (412, 14, 421), (412, 15, 422), (412, 16, 423), (412, 17, 424), (412, 18, 425), (412, 19, 426), (412, 20, 427), (412, 21, 428), (412, 22, 429), (412, 23, 430), (412, 24, 431), (412, 25, 432), (412, 26, 433), (412, 27, 434), (412, 28, 435), (412, 38, 436), (412, 44, 437), (412, 45, 438), (412, 46, 439), (412, 47, 440), (412, 48, 441), (412, 49, 442), (412, 50, 443), (412, 51, 444), (412, 52, 445), (412, 53, 446), (412, 54, 447), (412, 55, 448), (412, 56, 449), (412, 57, 450), (412, 58, 451), (412, 59, 452), (412, 60, 453), (412, 61, 454), (412, 62, 455), (412, 64, 456), (412, 65, 457), (412, 66, 458), (412, 67, 459), (412, 69, 460), (412, 70, 461)]
def stL : List Nat := [134, 153, 184, 203, 222, 241, 260, 279, 298, 317, 336, 355, 374, 393]
def plL : List Nat := [4, 69]
/-- every state of the run behind the constructors: the cells that were made there keep their shapes, and final fields their objects -/
def Sh (h : aH) : Prop := 463 ≤ h_nx h ∧ (∀ q ∈ shL, h_sh h q.1 = q.2.1 ∧ (q.2.1 < 10 → h_ln h q.1 = q.2.2)) ∧ ∀ q ∈ ptL, h_rv h q.1 q.2.1 = q.2.2
theorem u2n {α : Type} {f : Nat → Nat → α} {o k a j : Nat} {x : α} (h : ¬ (a = o ∧ j = k)) : up2 f o k x a j = f a j := if_neg h
theorem u1n {α : Type} {f : Nat → α} {o a : Nat} {x : α} (h : a ≠ o) : up1 f o x a = f a := if_neg h
theorem Sh.si {h : aH} (hS : Sh h) (o k : Nat) (x : Int32) : Sh (h_si h o k x) := hS
theorem Sh.sL {h : aH} (hS : Sh h) (o k : Nat) (x : Int64) : Sh (h_sL h o k x) := hS
theorem Sh.copy {h : aH} (hS : Sh h) (o : Nat) (f : Nat → Int32) : Sh (h_copy h o f) := hS
theorem Sh.exc {h : aH} (hS : Sh h) : Sh (h_exc h) := ⟨Nat.le_succ_of_le hS.1, hS.2⟩
theorem shL_lt : ∀ q ∈ shL, q.1 < 463 := by decide +kernel
theorem ptL_lt : ∀ q ∈ ptL, q.1 < 463 := by decide +kernel
theorem Sh.new {h : aH} (hS : Sh h) (t n : Nat) : Sh (h_new h t n) := by
  refine ⟨Nat.le_succ_of_le hS.1, fun q hq => ?_, fun q hq => ?_⟩
  · have h1 := shL_lt q hq
    have h2 : q.1 ≠ h.1 := fun e => by have h3 : 463 ≤ h.1 := hS.1; omega
    have := hS.2.1 q hq
    exact ⟨(u1n h2).trans this.1, fun hl => (u1n h2).trans (this.2 hl)⟩
  · have h1 := ptL_lt q hq
    have h2 : q.1 ≠ h.1 := fun e => by have h3 : 463 ≤ h.1 := hS.1; omega
    exact (congrFun (u1n h2) q.2.1).trans (hS.2.2 q hq)
theorem Sh.sr {h : aH} (hS : Sh h) (o k x : Nat) (hn : ∀ q ∈ ptL, ¬ (q.1 = o ∧ q.2.1 = k)) : Sh (h_sr h o k x) := ⟨hS.1, hS.2.1, fun q hq => (u2n (hn q hq)).trans (hS.2.2 q hq)⟩
section
variable {h : aH} {c o t n k r : Nat} {x : Int32} {y : Int64} {γ : Type}
theorem gi_ok (hs : h_sh h o = 10 + c) : gi h c o k = some (h_iv h o k) := if_pos hs
theorem gL_ok (hs : h_sh h o = 10 + c) : gL h c o k = some (h_lv h o k) := if_pos hs
theorem gr_ok9 (hs : h_sh h o = 10 + c) (hr : h_rv h o k = r) (h0 : r ≠ 0) : gr h c o k = some r := by rw [gr, if_pos ⟨hs, by rw [hr]; exact h0⟩, hr]
theorem pi_ok (hs : h_sh h o = 10 + c) : pi h c o k x = some (h_si h o k x) := if_pos hs
theorem pz_ok (hs : h_sh h o = 10 + c) (hx : x = 0 ∨ x = 1) : pz h c o k x = some (h_si h o k x) := if_pos ⟨hs, hx⟩
theorem pL_ok (hs : h_sh h o = 10 + c) : pL h c o k y = some (h_sL h o k y) := if_pos hs
theorem pr_ok (hs : h_sh h o = 10 + c) (h0 : r ≠ 0) : pr h c o k r = some (h_sr h o k r) := if_pos ⟨hs, h0⟩
theorem ix_ok {n m : Nat} (hn : n < m) (hb : n < 2147483648) : 0 ≤ (nI n).toInt ∧ (nI n).toInt < m := by rw [nI_toInt hb]; omega
theorem ali_ok {m : Nat} (hs : h_sh h o = t) (hl : h_ln h o = m) (hn : n < m) (hb : n < 2147483648) : ali h t o (nI n) = some (h_iv h o n) := by
  rw [ali, if_pos ⟨hs, hl ▸ ix_ok hn hb⟩, nI_clamp hb]
theorem alL_ok {m : Nat} (hs : h_sh h o = 4) (hl : h_ln h o = m) (hn : n < m) (hb : n < 2147483648) : alL h o (nI n) = some (h_lv h o n) := by
  rw [alL, if_pos ⟨hs, hl ▸ ix_ok hn hb⟩, nI_clamp hb]
theorem alr_ok {m : Nat} (hs : h_sh h o = t) (hl : h_ln h o = m) (hn : n < m) (hb : n < 2147483648) (hr : h_rv h o n = r) (h0 : r ≠ 0) : alr h t o (nI n) = some r := by
  have e : (nI n).toNatClampNeg = n := nI_clamp hb
  rw [alr, e, hr, if_pos ⟨hs, (hl ▸ ix_ok hn hb).1, (hl ▸ ix_ok hn hb).2, h0⟩]
theorem asi_ok {m : Nat} (hs : h_sh h o = 1) (hl : h_ln h o = m) (hn : n < m) (hb : n < 2147483648) : asi h o (nI n) x = some (h_si h o n x) := by
  rw [asi, if_pos ⟨hs, hl ▸ ix_ok hn hb⟩, nI_clamp hb]
theorem asb_ok {m : Nat} (hs : h_sh h o = 2) (hl : h_ln h o = m) (hn : n < m) (hb : n < 2147483648) : asb h o (nI n) x = some (h_si h o n x.toInt8.toInt32) := by
  rw [asb, if_pos ⟨hs, hl ▸ ix_ok hn hb⟩, nI_clamp hb]
theorem asz_ok {m : Nat} (hs : h_sh h o = 3) (hl : h_ln h o = m) (hn : n < m) (hb : n < 2147483648) (hx : x = 0 ∨ x = 1) : asz h o (nI n) x = some (h_si h o n x) := by
  have e : (nI n).toNatClampNeg = n := nI_clamp hb
  rw [asz, e, if_pos ⟨hs, (hl ▸ ix_ok hn hb).1, (hl ▸ ix_ok hn hb).2, hx⟩]
theorem asL_ok {m : Nat} (hs : h_sh h o = 4) (hl : h_ln h o = m) (hn : n < m) (hb : n < 2147483648) : asL h o (nI n) y = some (h_sL h o n y) := by
  rw [asL, if_pos ⟨hs, hl ▸ ix_ok hn hb⟩, nI_clamp hb]
theorem asr_ok {m : Nat} (hs : h_sh h o = t) (hl : h_ln h o = m) (hn : n < m) (hb : n < 2147483648) (hx : h_sh h r = 10 + c) : asr h t c o (nI n) r = some (h_sr h o n r) := by
  have e : (nI n).toNatClampNeg = n := nI_clamp hb
  rw [asr, e, if_pos ⟨hs, (hl ▸ ix_ok hn hb).1, (hl ▸ ix_ok hn hb).2, hx⟩]
theorem aln_ok {m : Nat} (hs : h_sh h o = t) (h1 : 1 ≤ t) (h2 : t < 10) (hl : h_ln h o = m) : aln h o = some (nI m) := by rw [aln, hs, if_pos ⟨h1, h2⟩, hl]
theorem gS_ok {z : Option γ} (hs : h_sh h o = 10 + c) : gS h c o z = z := if_pos hs
theorem aJ_v {κ γ : Type} (k : κ) (f : κ → γ) : aJ k f = f k := id rfl
theorem aLet_v {β γ : Type} (v : β) (f : β → γ) : aLet v f = f v := id rfl
theorem bO_v {β γ : Type} (v : β) (f : β → Option γ) : bO (some v) f = f v := id rfl
theorem bR_v {β γ : Type} (v : β) (h1 : aH) (f : β → aH → Option γ) : bR (some (v, h1)) f = f v h1 := id rfl
theorem bX_l {β γ : Type} (v : β) (h1 : aH) (f : β → aH → Option ((γ ⊕ String) × aH)) : bX (some (.inl v, h1)) f = f v h1 := id rfl
theorem bX_r {β γ : Type} (X : String) (h1 : aH) (f : β → aH → Option ((γ ⊕ String) × aH)) : bX (some (.inr X, h1)) f = some (.inr X, h1) := id rfl
theorem bC_l {β γ : Type} (v : β) (h1 : aH) (f : β → aH → Option γ) (g : String → aH → Option γ) : bC (some (.inl v, h1)) f g = f v h1 := id rfl
theorem bC_r {β γ : Type} (X : String) (h1 : aH) (f : β → aH → Option γ) (g : String → aH → Option γ) : bC (some (.inr X, h1)) f g = g X h1 := id rfl
theorem gT_ok {z : Option γ} {i : Nat} (hi : i < 11) : gT i z = z := if_pos hi
end
theorem s_cSm : ∀ a ∈ stL, (a, 20, 0) ∈ shL := by decide +kernel
theorem s_cS {h : aH} {a : Nat} (hS : Sh h) (ha : a ∈ stL) : h_sh h (a) = 10 + 10 := (hS.2.1 _ (s_cSm _ ha)).1
theorem s_cS_gi {h : aH} {a : Nat} (hS : Sh h) (ha : a ∈ stL) (k : Nat) : gi h 10 (a) k = some (h_iv h (a) k) := gi_ok (s_cS hS ha)
theorem s_cS_gL {h : aH} {a : Nat} (hS : Sh h) (ha : a ∈ stL) (k : Nat) : gL h 10 (a) k = some (h_lv h (a) k) := gL_ok (s_cS hS ha)
theorem s_cS_pi {h : aH} {a : Nat} (hS : Sh h) (ha : a ∈ stL) (k : Nat) (x : Int32) : pi h 10 (a) k x = some (h_si h (a) k x) := pi_ok (s_cS hS ha)
theorem s_cS_pL {h : aH} {a : Nat} (hS : Sh h) (ha : a ∈ stL) (k : Nat) (x : Int64) : pL h 10 (a) k x = some (h_sL h (a) k x) := pL_ok (s_cS hS ha)
theorem s_cS_gS {h : aH} {a : Nat} (hS : Sh h) (ha : a ∈ stL) {γ : Type} (z : Option γ) : gS h 10 (a) z = z := gS_ok (s_cS hS ha)
theorem s_clostm : ∀ a ∈ stL, (a + 1, 1, 12) ∈ shL := by decide +kernel
theorem s_clost {h : aH} {a : Nat} (hS : Sh h) (ha : a ∈ stL) : h_sh h (a + 1) = 1 ∧ h_ln h (a + 1) = 12 := ⟨(hS.2.1 _ (s_clostm _ ha)).1, (hS.2.1 _ (s_clostm _ ha)).2 (show (1 : Nat) < 10 by decide)⟩
theorem s_clost_al {h : aH} {a : Nat} (hS : Sh h) (ha : a ∈ stL) {n : Nat} (hn : n < 12) : ali h 1 (a + 1) (nI n) = some (h_iv h (a + 1) n) := ali_ok (s_clost hS ha).1 (s_clost hS ha).2 hn (by omega)
theorem s_clost_as {h : aH} {a : Nat} (hS : Sh h) (ha : a ∈ stL) {n : Nat} (x : Int32) (hn : n < 12) : asi h (a + 1) (nI n) x = some (h_si h (a + 1) n x) := asi_ok (s_clost hS ha).1 (s_clost hS ha).2 hn (by omega)
theorem s_clost_ln {h : aH} {a : Nat} (hS : Sh h) (ha : a ∈ stL) : aln h (a + 1) = some (nI 12) := aln_ok (s_clost hS ha).1 (by decide) (by decide) (s_clost hS ha).2
theorem s_coutm : ∀ a ∈ stL, (a + 2, 1, 12) ∈ shL := by decide +kernel
theorem s_cout {h : aH} {a : Nat} (hS : Sh h) (ha : a ∈ stL) : h_sh h (a + 2) = 1 ∧ h_ln h (a + 2) = 12 := ⟨(hS.2.1 _ (s_coutm _ ha)).1, (hS.2.1 _ (s_coutm _ ha)).2 (show (1 : Nat) < 10 by decide)⟩
theorem s_cout_al {h : aH} {a : Nat} (hS : Sh h) (ha : a ∈ stL) {n : Nat} (hn : n < 12) : ali h 1 (a + 2) (nI n) = some (h_iv h (a + 2) n) := ali_ok (s_cout hS ha).1 (s_cout hS ha).2 hn (by omega)
theorem s_cout_as {h : aH} {a : Nat} (hS : Sh h) (ha : a ∈ stL) {n : Nat} (x : Int32) (hn : n < 12) : asi h (a + 2) (nI n) x = some (h_si h (a + 2) n x) := asi_ok (s_cout hS ha).1 (s_cout hS ha).2 hn (by omega)
theorem s_cout_ln {h : aH} {a : Nat} (hS : Sh h) (ha : a ∈ stL) : aln h (a + 2) = some (nI 12) := aln_ok (s_cout hS ha).1 (by decide) (by decide) (s_cout hS ha).2
theorem s_cpaidm : ∀ a ∈ stL, (a + 3, 1, 12) ∈ shL := by decide +kernel
theorem s_cpaid {h : aH} {a : Nat} (hS : Sh h) (ha : a ∈ stL) : h_sh h (a + 3) = 1 ∧ h_ln h (a + 3) = 12 := ⟨(hS.2.1 _ (s_cpaidm _ ha)).1, (hS.2.1 _ (s_cpaidm _ ha)).2 (show (1 : Nat) < 10 by decide)⟩
theorem s_cpaid_al {h : aH} {a : Nat} (hS : Sh h) (ha : a ∈ stL) {n : Nat} (hn : n < 12) : ali h 1 (a + 3) (nI n) = some (h_iv h (a + 3) n) := ali_ok (s_cpaid hS ha).1 (s_cpaid hS ha).2 hn (by omega)
theorem s_cpaid_as {h : aH} {a : Nat} (hS : Sh h) (ha : a ∈ stL) {n : Nat} (x : Int32) (hn : n < 12) : asi h (a + 3) (nI n) x = some (h_si h (a + 3) n x) := asi_ok (s_cpaid hS ha).1 (s_cpaid hS ha).2 hn (by omega)
theorem s_cpaid_ln {h : aH} {a : Nat} (hS : Sh h) (ha : a ∈ stL) : aln h (a + 3) = some (nI 12) := aln_ok (s_cpaid hS ha).1 (by decide) (by decide) (s_cpaid hS ha).2
theorem s_ctrustm : ∀ a ∈ stL, (a + 4, 1, 144) ∈ shL := by decide +kernel
theorem s_ctrust {h : aH} {a : Nat} (hS : Sh h) (ha : a ∈ stL) : h_sh h (a + 4) = 1 ∧ h_ln h (a + 4) = 144 := ⟨(hS.2.1 _ (s_ctrustm _ ha)).1, (hS.2.1 _ (s_ctrustm _ ha)).2 (show (1 : Nat) < 10 by decide)⟩
theorem s_ctrust_al {h : aH} {a : Nat} (hS : Sh h) (ha : a ∈ stL) {n : Nat} (hn : n < 144) : ali h 1 (a + 4) (nI n) = some (h_iv h (a + 4) n) := ali_ok (s_ctrust hS ha).1 (s_ctrust hS ha).2 hn (by omega)
theorem s_ctrust_as {h : aH} {a : Nat} (hS : Sh h) (ha : a ∈ stL) {n : Nat} (x : Int32) (hn : n < 144) : asi h (a + 4) (nI n) x = some (h_si h (a + 4) n x) := asi_ok (s_ctrust hS ha).1 (s_ctrust hS ha).2 hn (by omega)
theorem s_ctrust_ln {h : aH} {a : Nat} (hS : Sh h) (ha : a ∈ stL) : aln h (a + 4) = some (nI 144) := aln_ok (s_ctrust hS ha).1 (by decide) (by decide) (s_ctrust hS ha).2
theorem s_crotm : ∀ a ∈ stL, (a + 5, 1, 48) ∈ shL := by decide +kernel
theorem s_crot {h : aH} {a : Nat} (hS : Sh h) (ha : a ∈ stL) : h_sh h (a + 5) = 1 ∧ h_ln h (a + 5) = 48 := ⟨(hS.2.1 _ (s_crotm _ ha)).1, (hS.2.1 _ (s_crotm _ ha)).2 (show (1 : Nat) < 10 by decide)⟩
theorem s_crot_al {h : aH} {a : Nat} (hS : Sh h) (ha : a ∈ stL) {n : Nat} (hn : n < 48) : ali h 1 (a + 5) (nI n) = some (h_iv h (a + 5) n) := ali_ok (s_crot hS ha).1 (s_crot hS ha).2 hn (by omega)
theorem s_crot_as {h : aH} {a : Nat} (hS : Sh h) (ha : a ∈ stL) {n : Nat} (x : Int32) (hn : n < 48) : asi h (a + 5) (nI n) x = some (h_si h (a + 5) n x) := asi_ok (s_crot hS ha).1 (s_crot hS ha).2 hn (by omega)
theorem s_crot_ln {h : aH} {a : Nat} (hS : Sh h) (ha : a ∈ stL) : aln h (a + 5) = some (nI 48) := aln_ok (s_crot hS ha).1 (by decide) (by decide) (s_crot hS ha).2
theorem s_chandsm : ∀ a ∈ stL, (a + 6, 1, 6) ∈ shL := by decide +kernel
theorem s_chands {h : aH} {a : Nat} (hS : Sh h) (ha : a ∈ stL) : h_sh h (a + 6) = 1 ∧ h_ln h (a + 6) = 6 := ⟨(hS.2.1 _ (s_chandsm _ ha)).1, (hS.2.1 _ (s_chandsm _ ha)).2 (show (1 : Nat) < 10 by decide)⟩
theorem s_chands_al {h : aH} {a : Nat} (hS : Sh h) (ha : a ∈ stL) {n : Nat} (hn : n < 6) : ali h 1 (a + 6) (nI n) = some (h_iv h (a + 6) n) := ali_ok (s_chands hS ha).1 (s_chands hS ha).2 hn (by omega)
theorem s_chands_as {h : aH} {a : Nat} (hS : Sh h) (ha : a ∈ stL) {n : Nat} (x : Int32) (hn : n < 6) : asi h (a + 6) (nI n) x = some (h_si h (a + 6) n x) := asi_ok (s_chands hS ha).1 (s_chands hS ha).2 hn (by omega)
theorem s_chands_ln {h : aH} {a : Nat} (hS : Sh h) (ha : a ∈ stL) : aln h (a + 6) = some (nI 6) := aln_ok (s_chands hS ha).1 (by decide) (by decide) (s_chands hS ha).2
theorem s_ctom : ∀ a ∈ stL, (a + 7, 1, 18) ∈ shL := by decide +kernel
theorem s_cto {h : aH} {a : Nat} (hS : Sh h) (ha : a ∈ stL) : h_sh h (a + 7) = 1 ∧ h_ln h (a + 7) = 18 := ⟨(hS.2.1 _ (s_ctom _ ha)).1, (hS.2.1 _ (s_ctom _ ha)).2 (show (1 : Nat) < 10 by decide)⟩
theorem s_cto_al {h : aH} {a : Nat} (hS : Sh h) (ha : a ∈ stL) {n : Nat} (hn : n < 18) : ali h 1 (a + 7) (nI n) = some (h_iv h (a + 7) n) := ali_ok (s_cto hS ha).1 (s_cto hS ha).2 hn (by omega)
theorem s_cto_as {h : aH} {a : Nat} (hS : Sh h) (ha : a ∈ stL) {n : Nat} (x : Int32) (hn : n < 18) : asi h (a + 7) (nI n) x = some (h_si h (a + 7) n x) := asi_ok (s_cto hS ha).1 (s_cto hS ha).2 hn (by omega)
theorem s_cto_ln {h : aH} {a : Nat} (hS : Sh h) (ha : a ∈ stL) : aln h (a + 7) = some (nI 18) := aln_ok (s_cto hS ha).1 (by decide) (by decide) (s_cto hS ha).2
theorem s_cendsm : ∀ a ∈ stL, (a + 8, 1, 18) ∈ shL := by decide +kernel
theorem s_cends {h : aH} {a : Nat} (hS : Sh h) (ha : a ∈ stL) : h_sh h (a + 8) = 1 ∧ h_ln h (a + 8) = 18 := ⟨(hS.2.1 _ (s_cendsm _ ha)).1, (hS.2.1 _ (s_cendsm _ ha)).2 (show (1 : Nat) < 10 by decide)⟩
theorem s_cends_al {h : aH} {a : Nat} (hS : Sh h) (ha : a ∈ stL) {n : Nat} (hn : n < 18) : ali h 1 (a + 8) (nI n) = some (h_iv h (a + 8) n) := ali_ok (s_cends hS ha).1 (s_cends hS ha).2 hn (by omega)
theorem s_cends_as {h : aH} {a : Nat} (hS : Sh h) (ha : a ∈ stL) {n : Nat} (x : Int32) (hn : n < 18) : asi h (a + 8) (nI n) x = some (h_si h (a + 8) n x) := asi_ok (s_cends hS ha).1 (s_cends hS ha).2 hn (by omega)
theorem s_cends_ln {h : aH} {a : Nat} (hS : Sh h) (ha : a ∈ stL) : aln h (a + 8) = some (nI 18) := aln_ok (s_cends hS ha).1 (by decide) (by decide) (s_cends hS ha).2
theorem s_cretm : ∀ a ∈ stL, (a + 9, 1, 5) ∈ shL := by decide +kernel
theorem s_cret {h : aH} {a : Nat} (hS : Sh h) (ha : a ∈ stL) : h_sh h (a + 9) = 1 ∧ h_ln h (a + 9) = 5 := ⟨(hS.2.1 _ (s_cretm _ ha)).1, (hS.2.1 _ (s_cretm _ ha)).2 (show (1 : Nat) < 10 by decide)⟩
theorem s_cret_al {h : aH} {a : Nat} (hS : Sh h) (ha : a ∈ stL) {n : Nat} (hn : n < 5) : ali h 1 (a + 9) (nI n) = some (h_iv h (a + 9) n) := ali_ok (s_cret hS ha).1 (s_cret hS ha).2 hn (by omega)
theorem s_cret_as {h : aH} {a : Nat} (hS : Sh h) (ha : a ∈ stL) {n : Nat} (x : Int32) (hn : n < 5) : asi h (a + 9) (nI n) x = some (h_si h (a + 9) n x) := asi_ok (s_cret hS ha).1 (s_cret hS ha).2 hn (by omega)
theorem s_cret_ln {h : aH} {a : Nat} (hS : Sh h) (ha : a ∈ stL) : aln h (a + 9) = some (nI 5) := aln_ok (s_cret hS ha).1 (by decide) (by decide) (s_cret hS ha).2
theorem s_ccrewm : ∀ a ∈ stL, (a + 10, 1, 5) ∈ shL := by decide +kernel
theorem s_ccrew {h : aH} {a : Nat} (hS : Sh h) (ha : a ∈ stL) : h_sh h (a + 10) = 1 ∧ h_ln h (a + 10) = 5 := ⟨(hS.2.1 _ (s_ccrewm _ ha)).1, (hS.2.1 _ (s_ccrewm _ ha)).2 (show (1 : Nat) < 10 by decide)⟩
theorem s_ccrew_al {h : aH} {a : Nat} (hS : Sh h) (ha : a ∈ stL) {n : Nat} (hn : n < 5) : ali h 1 (a + 10) (nI n) = some (h_iv h (a + 10) n) := ali_ok (s_ccrew hS ha).1 (s_ccrew hS ha).2 hn (by omega)
theorem s_ccrew_as {h : aH} {a : Nat} (hS : Sh h) (ha : a ∈ stL) {n : Nat} (x : Int32) (hn : n < 5) : asi h (a + 10) (nI n) x = some (h_si h (a + 10) n x) := asi_ok (s_ccrew hS ha).1 (s_ccrew hS ha).2 hn (by omega)
theorem s_ccrew_ln {h : aH} {a : Nat} (hS : Sh h) (ha : a ∈ stL) : aln h (a + 10) = some (nI 5) := aln_ok (s_ccrew hS ha).1 (by decide) (by decide) (s_ccrew hS ha).2
theorem s_cLm : ∀ a ∈ stL, (a + 11, 10, 0) ∈ shL := by decide +kernel
theorem s_cL {h : aH} {a : Nat} (hS : Sh h) (ha : a ∈ stL) : h_sh h (a + 11) = 10 + 0 := (hS.2.1 _ (s_cLm _ ha)).1
theorem s_cL_gi {h : aH} {a : Nat} (hS : Sh h) (ha : a ∈ stL) (k : Nat) : gi h 0 (a + 11) k = some (h_iv h (a + 11) k) := gi_ok (s_cL hS ha)
theorem s_cL_gL {h : aH} {a : Nat} (hS : Sh h) (ha : a ∈ stL) (k : Nat) : gL h 0 (a + 11) k = some (h_lv h (a + 11) k) := gL_ok (s_cL hS ha)
theorem s_cL_pi {h : aH} {a : Nat} (hS : Sh h) (ha : a ∈ stL) (k : Nat) (x : Int32) : pi h 0 (a + 11) k x = some (h_si h (a + 11) k x) := pi_ok (s_cL hS ha)
theorem s_cL_pL {h : aH} {a : Nat} (hS : Sh h) (ha : a ∈ stL) (k : Nat) (x : Int64) : pL h 0 (a + 11) k x = some (h_sL h (a + 11) k x) := pL_ok (s_cL hS ha)
theorem s_cL_gS {h : aH} {a : Nat} (hS : Sh h) (ha : a ∈ stL) {γ : Type} (z : Option γ) : gS h 0 (a + 11) z = z := gS_ok (s_cL hS ha)
theorem s_clcostsm : ∀ a ∈ stL, (a + 12, 1, 16) ∈ shL := by decide +kernel
theorem s_clcosts {h : aH} {a : Nat} (hS : Sh h) (ha : a ∈ stL) : h_sh h (a + 12) = 1 ∧ h_ln h (a + 12) = 16 := ⟨(hS.2.1 _ (s_clcostsm _ ha)).1, (hS.2.1 _ (s_clcostsm _ ha)).2 (show (1 : Nat) < 10 by decide)⟩
theorem s_clcosts_al {h : aH} {a : Nat} (hS : Sh h) (ha : a ∈ stL) {n : Nat} (hn : n < 16) : ali h 1 (a + 12) (nI n) = some (h_iv h (a + 12) n) := ali_ok (s_clcosts hS ha).1 (s_clcosts hS ha).2 hn (by omega)
theorem s_clcosts_as {h : aH} {a : Nat} (hS : Sh h) (ha : a ∈ stL) {n : Nat} (x : Int32) (hn : n < 16) : asi h (a + 12) (nI n) x = some (h_si h (a + 12) n x) := asi_ok (s_clcosts hS ha).1 (s_clcosts hS ha).2 hn (by omega)
theorem s_clcosts_ln {h : aH} {a : Nat} (hS : Sh h) (ha : a ∈ stL) : aln h (a + 12) = some (nI 16) := aln_ok (s_clcosts hS ha).1 (by decide) (by decide) (s_clcosts hS ha).2
theorem s_clcomersm : ∀ a ∈ stL, (a + 13, 1, 16) ∈ shL := by decide +kernel
theorem s_clcomers {h : aH} {a : Nat} (hS : Sh h) (ha : a ∈ stL) : h_sh h (a + 13) = 1 ∧ h_ln h (a + 13) = 16 := ⟨(hS.2.1 _ (s_clcomersm _ ha)).1, (hS.2.1 _ (s_clcomersm _ ha)).2 (show (1 : Nat) < 10 by decide)⟩
theorem s_clcomers_al {h : aH} {a : Nat} (hS : Sh h) (ha : a ∈ stL) {n : Nat} (hn : n < 16) : ali h 1 (a + 13) (nI n) = some (h_iv h (a + 13) n) := ali_ok (s_clcomers hS ha).1 (s_clcomers hS ha).2 hn (by omega)
theorem s_clcomers_as {h : aH} {a : Nat} (hS : Sh h) (ha : a ∈ stL) {n : Nat} (x : Int32) (hn : n < 16) : asi h (a + 13) (nI n) x = some (h_si h (a + 13) n x) := asi_ok (s_clcomers hS ha).1 (s_clcomers hS ha).2 hn (by omega)
theorem s_clcomers_ln {h : aH} {a : Nat} (hS : Sh h) (ha : a ∈ stL) : aln h (a + 13) = some (nI 16) := aln_ok (s_clcomers hS ha).1 (by decide) (by decide) (s_clcomers hS ha).2
theorem s_clleaversm : ∀ a ∈ stL, (a + 14, 1, 16) ∈ shL := by decide +kernel
theorem s_clleavers {h : aH} {a : Nat} (hS : Sh h) (ha : a ∈ stL) : h_sh h (a + 14) = 1 ∧ h_ln h (a + 14) = 16 := ⟨(hS.2.1 _ (s_clleaversm _ ha)).1, (hS.2.1 _ (s_clleaversm _ ha)).2 (show (1 : Nat) < 10 by decide)⟩
theorem s_clleavers_al {h : aH} {a : Nat} (hS : Sh h) (ha : a ∈ stL) {n : Nat} (hn : n < 16) : ali h 1 (a + 14) (nI n) = some (h_iv h (a + 14) n) := ali_ok (s_clleavers hS ha).1 (s_clleavers hS ha).2 hn (by omega)
theorem s_clleavers_as {h : aH} {a : Nat} (hS : Sh h) (ha : a ∈ stL) {n : Nat} (x : Int32) (hn : n < 16) : asi h (a + 14) (nI n) x = some (h_si h (a + 14) n x) := asi_ok (s_clleavers hS ha).1 (s_clleavers hS ha).2 hn (by omega)
theorem s_clleavers_ln {h : aH} {a : Nat} (hS : Sh h) (ha : a ∈ stL) : aln h (a + 14) = some (nI 16) := aln_ok (s_clleavers hS ha).1 (by decide) (by decide) (s_clleavers hS ha).2
theorem s_clengsm : ∀ a ∈ stL, (a + 15, 1, 80) ∈ shL := by decide +kernel
theorem s_clengs {h : aH} {a : Nat} (hS : Sh h) (ha : a ∈ stL) : h_sh h (a + 15) = 1 ∧ h_ln h (a + 15) = 80 := ⟨(hS.2.1 _ (s_clengsm _ ha)).1, (hS.2.1 _ (s_clengsm _ ha)).2 (show (1 : Nat) < 10 by decide)⟩
theorem s_clengs_al {h : aH} {a : Nat} (hS : Sh h) (ha : a ∈ stL) {n : Nat} (hn : n < 80) : ali h 1 (a + 15) (nI n) = some (h_iv h (a + 15) n) := ali_ok (s_clengs hS ha).1 (s_clengs hS ha).2 hn (by omega)
theorem s_clengs_as {h : aH} {a : Nat} (hS : Sh h) (ha : a ∈ stL) {n : Nat} (x : Int32) (hn : n < 80) : asi h (a + 15) (nI n) x = some (h_si h (a + 15) n x) := asi_ok (s_clengs hS ha).1 (s_clengs hS ha).2 hn (by omega)
theorem s_clengs_ln {h : aH} {a : Nat} (hS : Sh h) (ha : a ∈ stL) : aln h (a + 15) = some (nI 80) := aln_ok (s_clengs hS ha).1 (by decide) (by decide) (s_clengs hS ha).2
theorem s_cltimesm : ∀ a ∈ stL, (a + 16, 1, 80) ∈ shL := by decide +kernel
theorem s_cltimes {h : aH} {a : Nat} (hS : Sh h) (ha : a ∈ stL) : h_sh h (a + 16) = 1 ∧ h_ln h (a + 16) = 80 := ⟨(hS.2.1 _ (s_cltimesm _ ha)).1, (hS.2.1 _ (s_cltimesm _ ha)).2 (show (1 : Nat) < 10 by decide)⟩
theorem s_cltimes_al {h : aH} {a : Nat} (hS : Sh h) (ha : a ∈ stL) {n : Nat} (hn : n < 80) : ali h 1 (a + 16) (nI n) = some (h_iv h (a + 16) n) := ali_ok (s_cltimes hS ha).1 (s_cltimes hS ha).2 hn (by omega)
theorem s_cltimes_as {h : aH} {a : Nat} (hS : Sh h) (ha : a ∈ stL) {n : Nat} (x : Int32) (hn : n < 80) : asi h (a + 16) (nI n) x = some (h_si h (a + 16) n x) := asi_ok (s_cltimes hS ha).1 (s_cltimes hS ha).2 hn (by omega)
theorem s_cltimes_ln {h : aH} {a : Nat} (hS : Sh h) (ha : a ∈ stL) : aln h (a + 16) = some (nI 80) := aln_ok (s_cltimes hS ha).1 (by decide) (by decide) (s_cltimes hS ha).2
theorem s_clcrewsm : ∀ a ∈ stL, (a + 17, 1, 80) ∈ shL := by decide +kernel
theorem s_clcrews {h : aH} {a : Nat} (hS : Sh h) (ha : a ∈ stL) : h_sh h (a + 17) = 1 ∧ h_ln h (a + 17) = 80 := ⟨(hS.2.1 _ (s_clcrewsm _ ha)).1, (hS.2.1 _ (s_clcrewsm _ ha)).2 (show (1 : Nat) < 10 by decide)⟩
theorem s_clcrews_al {h : aH} {a : Nat} (hS : Sh h) (ha : a ∈ stL) {n : Nat} (hn : n < 80) : ali h 1 (a + 17) (nI n) = some (h_iv h (a + 17) n) := ali_ok (s_clcrews hS ha).1 (s_clcrews hS ha).2 hn (by omega)
theorem s_clcrews_as {h : aH} {a : Nat} (hS : Sh h) (ha : a ∈ stL) {n : Nat} (x : Int32) (hn : n < 80) : asi h (a + 17) (nI n) x = some (h_si h (a + 17) n x) := asi_ok (s_clcrews hS ha).1 (s_clcrews hS ha).2 hn (by omega)
theorem s_clcrews_ln {h : aH} {a : Nat} (hS : Sh h) (ha : a ∈ stL) : aln h (a + 17) = some (nI 80) := aln_ok (s_clcrews hS ha).1 (by decide) (by decide) (s_clcrews hS ha).2
theorem s_cbestm : ∀ a ∈ stL, (a + 18, 1, 12) ∈ shL := by decide +kernel
theorem s_cbest {h : aH} {a : Nat} (hS : Sh h) (ha : a ∈ stL) : h_sh h (a + 18) = 1 ∧ h_ln h (a + 18) = 12 := ⟨(hS.2.1 _ (s_cbestm _ ha)).1, (hS.2.1 _ (s_cbestm _ ha)).2 (show (1 : Nat) < 10 by decide)⟩
theorem s_cbest_al {h : aH} {a : Nat} (hS : Sh h) (ha : a ∈ stL) {n : Nat} (hn : n < 12) : ali h 1 (a + 18) (nI n) = some (h_iv h (a + 18) n) := ali_ok (s_cbest hS ha).1 (s_cbest hS ha).2 hn (by omega)
theorem s_cbest_as {h : aH} {a : Nat} (hS : Sh h) (ha : a ∈ stL) {n : Nat} (x : Int32) (hn : n < 12) : asi h (a + 18) (nI n) x = some (h_si h (a + 18) n x) := asi_ok (s_cbest hS ha).1 (s_cbest hS ha).2 hn (by omega)
theorem s_cbest_ln {h : aH} {a : Nat} (hS : Sh h) (ha : a ∈ stL) : aln h (a + 18) = some (nI 12) := aln_ok (s_cbest hS ha).1 (by decide) (by decide) (s_cbest hS ha).2
theorem s_plostm : ∀ a ∈ stL, (a, 2, a + 1) ∈ ptL ∧ a + 1 ≠ 0 := by decide +kernel
theorem s_plost {h : aH} {a : Nat} (hS : Sh h) (ha : a ∈ stL) : gr h 10 (a) 2 = some (a + 1) := gr_ok9 (s_cS hS ha) (hS.2.2 _ (s_plostm _ ha).1) (s_plostm _ ha).2
theorem s_poutm : ∀ a ∈ stL, (a, 3, a + 2) ∈ ptL ∧ a + 2 ≠ 0 := by decide +kernel
theorem s_pout {h : aH} {a : Nat} (hS : Sh h) (ha : a ∈ stL) : gr h 10 (a) 3 = some (a + 2) := gr_ok9 (s_cS hS ha) (hS.2.2 _ (s_poutm _ ha).1) (s_poutm _ ha).2
theorem s_ppaidm : ∀ a ∈ stL, (a, 4, a + 3) ∈ ptL ∧ a + 3 ≠ 0 := by decide +kernel
theorem s_ppaid {h : aH} {a : Nat} (hS : Sh h) (ha : a ∈ stL) : gr h 10 (a) 4 = some (a + 3) := gr_ok9 (s_cS hS ha) (hS.2.2 _ (s_ppaidm _ ha).1) (s_ppaidm _ ha).2
theorem s_ptrustm : ∀ a ∈ stL, (a, 6, a + 4) ∈ ptL ∧ a + 4 ≠ 0 := by decide +kernel
theorem s_ptrust {h : aH} {a : Nat} (hS : Sh h) (ha : a ∈ stL) : gr h 10 (a) 6 = some (a + 4) := gr_ok9 (s_cS hS ha) (hS.2.2 _ (s_ptrustm _ ha).1) (s_ptrustm _ ha).2
theorem s_protm : ∀ a ∈ stL, (a, 7, a + 5) ∈ ptL ∧ a + 5 ≠ 0 := by decide +kernel
theorem s_prot {h : aH} {a : Nat} (hS : Sh h) (ha : a ∈ stL) : gr h 10 (a) 7 = some (a + 5) := gr_ok9 (s_cS hS ha) (hS.2.2 _ (s_protm _ ha).1) (s_protm _ ha).2
theorem s_phandsm : ∀ a ∈ stL, (a, 8, a + 6) ∈ ptL ∧ a + 6 ≠ 0 := by decide +kernel
theorem s_phands {h : aH} {a : Nat} (hS : Sh h) (ha : a ∈ stL) : gr h 10 (a) 8 = some (a + 6) := gr_ok9 (s_cS hS ha) (hS.2.2 _ (s_phandsm _ ha).1) (s_phandsm _ ha).2
theorem s_ptom : ∀ a ∈ stL, (a, 9, a + 7) ∈ ptL ∧ a + 7 ≠ 0 := by decide +kernel
theorem s_pto {h : aH} {a : Nat} (hS : Sh h) (ha : a ∈ stL) : gr h 10 (a) 9 = some (a + 7) := gr_ok9 (s_cS hS ha) (hS.2.2 _ (s_ptom _ ha).1) (s_ptom _ ha).2
theorem s_pendsm : ∀ a ∈ stL, (a, 10, a + 8) ∈ ptL ∧ a + 8 ≠ 0 := by decide +kernel
theorem s_pends {h : aH} {a : Nat} (hS : Sh h) (ha : a ∈ stL) : gr h 10 (a) 10 = some (a + 8) := gr_ok9 (s_cS hS ha) (hS.2.2 _ (s_pendsm _ ha).1) (s_pendsm _ ha).2
theorem s_pretm : ∀ a ∈ stL, (a, 11, a + 9) ∈ ptL ∧ a + 9 ≠ 0 := by decide +kernel
theorem s_pret {h : aH} {a : Nat} (hS : Sh h) (ha : a ∈ stL) : gr h 10 (a) 11 = some (a + 9) := gr_ok9 (s_cS hS ha) (hS.2.2 _ (s_pretm _ ha).1) (s_pretm _ ha).2
theorem s_pcrewm : ∀ a ∈ stL, (a, 12, a + 10) ∈ ptL ∧ a + 10 ≠ 0 := by decide +kernel
theorem s_pcrew {h : aH} {a : Nat} (hS : Sh h) (ha : a ∈ stL) : gr h 10 (a) 12 = some (a + 10) := gr_ok9 (s_cS hS ha) (hS.2.2 _ (s_pcrewm _ ha).1) (s_pcrewm _ ha).2
theorem s_plogm : ∀ a ∈ stL, (a, 14, a + 11) ∈ ptL ∧ a + 11 ≠ 0 := by decide +kernel
theorem s_plog {h : aH} {a : Nat} (hS : Sh h) (ha : a ∈ stL) : gr h 10 (a) 14 = some (a + 11) := gr_ok9 (s_cS hS ha) (hS.2.2 _ (s_plogm _ ha).1) (s_plogm _ ha).2
theorem s_plcostsm : ∀ a ∈ stL, (a + 11, 1, a + 12) ∈ ptL ∧ a + 12 ≠ 0 := by decide +kernel
theorem s_plcosts {h : aH} {a : Nat} (hS : Sh h) (ha : a ∈ stL) : gr h 0 (a + 11) 1 = some (a + 12) := gr_ok9 (s_cL hS ha) (hS.2.2 _ (s_plcostsm _ ha).1) (s_plcostsm _ ha).2
theorem s_plcomersm : ∀ a ∈ stL, (a + 11, 3, a + 13) ∈ ptL ∧ a + 13 ≠ 0 := by decide +kernel
theorem s_plcomers {h : aH} {a : Nat} (hS : Sh h) (ha : a ∈ stL) : gr h 0 (a + 11) 3 = some (a + 13) := gr_ok9 (s_cL hS ha) (hS.2.2 _ (s_plcomersm _ ha).1) (s_plcomersm _ ha).2
theorem s_plleaversm : ∀ a ∈ stL, (a + 11, 4, a + 14) ∈ ptL ∧ a + 14 ≠ 0 := by decide +kernel
theorem s_plleavers {h : aH} {a : Nat} (hS : Sh h) (ha : a ∈ stL) : gr h 0 (a + 11) 4 = some (a + 14) := gr_ok9 (s_cL hS ha) (hS.2.2 _ (s_plleaversm _ ha).1) (s_plleaversm _ ha).2
theorem s_plengsm : ∀ a ∈ stL, (a + 11, 5, a + 15) ∈ ptL ∧ a + 15 ≠ 0 := by decide +kernel
theorem s_plengs {h : aH} {a : Nat} (hS : Sh h) (ha : a ∈ stL) : gr h 0 (a + 11) 5 = some (a + 15) := gr_ok9 (s_cL hS ha) (hS.2.2 _ (s_plengsm _ ha).1) (s_plengsm _ ha).2
theorem s_pltimesm : ∀ a ∈ stL, (a + 11, 6, a + 16) ∈ ptL ∧ a + 16 ≠ 0 := by decide +kernel
theorem s_pltimes {h : aH} {a : Nat} (hS : Sh h) (ha : a ∈ stL) : gr h 0 (a + 11) 6 = some (a + 16) := gr_ok9 (s_cL hS ha) (hS.2.2 _ (s_pltimesm _ ha).1) (s_pltimesm _ ha).2
theorem s_plcrewsm : ∀ a ∈ stL, (a + 11, 7, a + 17) ∈ ptL ∧ a + 17 ≠ 0 := by decide +kernel
theorem s_plcrews {h : aH} {a : Nat} (hS : Sh h) (ha : a ∈ stL) : gr h 0 (a + 11) 7 = some (a + 17) := gr_ok9 (s_cL hS ha) (hS.2.2 _ (s_plcrewsm _ ha).1) (s_plcrewsm _ ha).2
theorem s_pbestm : ∀ a ∈ stL, (a, 15, a + 18) ∈ ptL ∧ a + 18 ≠ 0 := by decide +kernel
theorem s_pbest {h : aH} {a : Nat} (hS : Sh h) (ha : a ∈ stL) : gr h 10 (a) 15 = some (a + 18) := gr_ok9 (s_cS hS ha) (hS.2.2 _ (s_pbestm _ ha).1) (s_pbestm _ ha).2
theorem p_cPm : ∀ P ∈ plL, (P, 18, 0) ∈ shL := by decide +kernel
theorem p_cP {h : aH} {P : Nat} (hS : Sh h) (ha : P ∈ plL) : h_sh h (P) = 10 + 8 := (hS.2.1 _ (p_cPm _ ha)).1
theorem p_cP_gi {h : aH} {P : Nat} (hS : Sh h) (ha : P ∈ plL) (k : Nat) : gi h 8 (P) k = some (h_iv h (P) k) := gi_ok (p_cP hS ha)
theorem p_cP_gL {h : aH} {P : Nat} (hS : Sh h) (ha : P ∈ plL) (k : Nat) : gL h 8 (P) k = some (h_lv h (P) k) := gL_ok (p_cP hS ha)
theorem p_cP_pi {h : aH} {P : Nat} (hS : Sh h) (ha : P ∈ plL) (k : Nat) (x : Int32) : pi h 8 (P) k x = some (h_si h (P) k x) := pi_ok (p_cP hS ha)
theorem p_cP_pL {h : aH} {P : Nat} (hS : Sh h) (ha : P ∈ plL) (k : Nat) (x : Int64) : pL h 8 (P) k x = some (h_sL h (P) k x) := pL_ok (p_cP hS ha)
theorem p_cP_gS {h : aH} {P : Nat} (hS : Sh h) (ha : P ∈ plL) {γ : Type} (z : Option γ) : gS h 8 (P) z = z := gS_ok (p_cP hS ha)
theorem p_cNm : ∀ P ∈ plL, (P + 1, 15, 0) ∈ shL := by decide +kernel
theorem p_cN {h : aH} {P : Nat} (hS : Sh h) (ha : P ∈ plL) : h_sh h (P + 1) = 10 + 5 := (hS.2.1 _ (p_cNm _ ha)).1
theorem p_cN_gi {h : aH} {P : Nat} (hS : Sh h) (ha : P ∈ plL) (k : Nat) : gi h 5 (P + 1) k = some (h_iv h (P + 1) k) := gi_ok (p_cN hS ha)
theorem p_cN_gL {h : aH} {P : Nat} (hS : Sh h) (ha : P ∈ plL) (k : Nat) : gL h 5 (P + 1) k = some (h_lv h (P + 1) k) := gL_ok (p_cN hS ha)
theorem p_cN_pi {h : aH} {P : Nat} (hS : Sh h) (ha : P ∈ plL) (k : Nat) (x : Int32) : pi h 5 (P + 1) k x = some (h_si h (P + 1) k x) := pi_ok (p_cN hS ha)
theorem p_cN_pL {h : aH} {P : Nat} (hS : Sh h) (ha : P ∈ plL) (k : Nat) (x : Int64) : pL h 5 (P + 1) k x = some (h_sL h (P + 1) k x) := pL_ok (p_cN hS ha)
theorem p_cN_gS {h : aH} {P : Nat} (hS : Sh h) (ha : P ∈ plL) {γ : Type} (z : Option γ) : gS h 5 (P + 1) z = z := gS_ok (p_cN hS ha)
theorem p_cpsm : ∀ P ∈ plL, (P + 2, 6, 12) ∈ shL := by decide +kernel
theorem p_cps {h : aH} {P : Nat} (hS : Sh h) (ha : P ∈ plL) : h_sh h (P + 2) = 6 ∧ h_ln h (P + 2) = 12 := ⟨(hS.2.1 _ (p_cpsm _ ha)).1, (hS.2.1 _ (p_cpsm _ ha)).2 (show (6 : Nat) < 10 by decide)⟩
theorem p_cps_ln {h : aH} {P : Nat} (hS : Sh h) (ha : P ∈ plL) : aln h (P + 2) = some (nI 12) := aln_ok (p_cps hS ha).1 (by decide) (by decide) (p_cps hS ha).2
theorem p_ctrm : ∀ P ∈ plL, (P + 3, 1, 144) ∈ shL := by decide +kernel
theorem p_ctr {h : aH} {P : Nat} (hS : Sh h) (ha : P ∈ plL) : h_sh h (P + 3) = 1 ∧ h_ln h (P + 3) = 144 := ⟨(hS.2.1 _ (p_ctrm _ ha)).1, (hS.2.1 _ (p_ctrm _ ha)).2 (show (1 : Nat) < 10 by decide)⟩
theorem p_ctr_al {h : aH} {P : Nat} (hS : Sh h) (ha : P ∈ plL) {n : Nat} (hn : n < 144) : ali h 1 (P + 3) (nI n) = some (h_iv h (P + 3) n) := ali_ok (p_ctr hS ha).1 (p_ctr hS ha).2 hn (by omega)
theorem p_ctr_as {h : aH} {P : Nat} (hS : Sh h) (ha : P ∈ plL) {n : Nat} (x : Int32) (hn : n < 144) : asi h (P + 3) (nI n) x = some (h_si h (P + 3) n x) := asi_ok (p_ctr hS ha).1 (p_ctr hS ha).2 hn (by omega)
theorem p_ctr_ln {h : aH} {P : Nat} (hS : Sh h) (ha : P ∈ plL) : aln h (P + 3) = some (nI 144) := aln_ok (p_ctr hS ha).1 (by decide) (by decide) (p_ctr hS ha).2
theorem p_cgsm : ∀ P ∈ plL, (P + 4, 7, 6) ∈ shL := by decide +kernel
theorem p_cgs {h : aH} {P : Nat} (hS : Sh h) (ha : P ∈ plL) : h_sh h (P + 4) = 7 ∧ h_ln h (P + 4) = 6 := ⟨(hS.2.1 _ (p_cgsm _ ha)).1, (hS.2.1 _ (p_cgsm _ ha)).2 (show (7 : Nat) < 10 by decide)⟩
theorem p_cgs_ln {h : aH} {P : Nat} (hS : Sh h) (ha : P ∈ plL) : aln h (P + 4) = some (nI 6) := aln_ok (p_cgs hS ha).1 (by decide) (by decide) (p_cgs hS ha).2
theorem p_cesm : ∀ P ∈ plL, (P + 5, 8, 5) ∈ shL := by decide +kernel
theorem p_ces {h : aH} {P : Nat} (hS : Sh h) (ha : P ∈ plL) : h_sh h (P + 5) = 8 ∧ h_ln h (P + 5) = 5 := ⟨(hS.2.1 _ (p_cesm _ ha)).1, (hS.2.1 _ (p_cesm _ ha)).2 (show (8 : Nat) < 10 by decide)⟩
theorem p_ces_ln {h : aH} {P : Nat} (hS : Sh h) (ha : P ∈ plL) : aln h (P + 5) = some (nI 5) := aln_ok (p_ces hS ha).1 (by decide) (by decide) (p_ces hS ha).2
theorem p_cksm : ∀ P ∈ plL, (P + 6, 9, 6) ∈ shL := by decide +kernel
theorem p_cks {h : aH} {P : Nat} (hS : Sh h) (ha : P ∈ plL) : h_sh h (P + 6) = 9 ∧ h_ln h (P + 6) = 6 := ⟨(hS.2.1 _ (p_cksm _ ha)).1, (hS.2.1 _ (p_cksm _ ha)).2 (show (9 : Nat) < 10 by decide)⟩
theorem p_cks_ln {h : aH} {P : Nat} (hS : Sh h) (ha : P ∈ plL) : aln h (P + 6) = some (nI 6) := aln_ok (p_cks hS ha).1 (by decide) (by decide) (p_cks hS ha).2
theorem p_cablem : ∀ P ∈ plL, (P + 7, 1, 32) ∈ shL := by decide +kernel
theorem p_cable {h : aH} {P : Nat} (hS : Sh h) (ha : P ∈ plL) : h_sh h (P + 7) = 1 ∧ h_ln h (P + 7) = 32 := ⟨(hS.2.1 _ (p_cablem _ ha)).1, (hS.2.1 _ (p_cablem _ ha)).2 (show (1 : Nat) < 10 by decide)⟩
theorem p_cable_al {h : aH} {P : Nat} (hS : Sh h) (ha : P ∈ plL) {n : Nat} (hn : n < 32) : ali h 1 (P + 7) (nI n) = some (h_iv h (P + 7) n) := ali_ok (p_cable hS ha).1 (p_cable hS ha).2 hn (by omega)
theorem p_cable_as {h : aH} {P : Nat} (hS : Sh h) (ha : P ∈ plL) {n : Nat} (x : Int32) (hn : n < 32) : asi h (P + 7) (nI n) x = some (h_si h (P + 7) n x) := asi_ok (p_cable hS ha).1 (p_cable hS ha).2 hn (by omega)
theorem p_cable_ln {h : aH} {P : Nat} (hS : Sh h) (ha : P ∈ plL) : aln h (P + 7) = some (nI 32) := aln_ok (p_cable hS ha).1 (by decide) (by decide) (p_cable hS ha).2
theorem p_pNm : ∀ P ∈ plL, (P, 0, P + 1) ∈ ptL ∧ P + 1 ≠ 0 := by decide +kernel
theorem p_pN {h : aH} {P : Nat} (hS : Sh h) (ha : P ∈ plL) : gr h 8 (P) 0 = some (P + 1) := gr_ok9 (p_cP hS ha) (hS.2.2 _ (p_pNm _ ha).1) (p_pNm _ ha).2
theorem p_ppsm : ∀ P ∈ plL, (P, 2, P + 2) ∈ ptL ∧ P + 2 ≠ 0 := by decide +kernel
theorem p_pps {h : aH} {P : Nat} (hS : Sh h) (ha : P ∈ plL) : gr h 8 (P) 2 = some (P + 2) := gr_ok9 (p_cP hS ha) (hS.2.2 _ (p_ppsm _ ha).1) (p_ppsm _ ha).2
theorem p_ptrm : ∀ P ∈ plL, (P, 4, P + 3) ∈ ptL ∧ P + 3 ≠ 0 := by decide +kernel
theorem p_ptr {h : aH} {P : Nat} (hS : Sh h) (ha : P ∈ plL) : gr h 8 (P) 4 = some (P + 3) := gr_ok9 (p_cP hS ha) (hS.2.2 _ (p_ptrm _ ha).1) (p_ptrm _ ha).2
theorem p_pgsm : ∀ P ∈ plL, (P, 6, P + 4) ∈ ptL ∧ P + 4 ≠ 0 := by decide +kernel
theorem p_pgs {h : aH} {P : Nat} (hS : Sh h) (ha : P ∈ plL) : gr h 8 (P) 6 = some (P + 4) := gr_ok9 (p_cP hS ha) (hS.2.2 _ (p_pgsm _ ha).1) (p_pgsm _ ha).2
theorem p_pesm : ∀ P ∈ plL, (P, 8, P + 5) ∈ ptL ∧ P + 5 ≠ 0 := by decide +kernel
theorem p_pes {h : aH} {P : Nat} (hS : Sh h) (ha : P ∈ plL) : gr h 8 (P) 8 = some (P + 5) := gr_ok9 (p_cP hS ha) (hS.2.2 _ (p_pesm _ ha).1) (p_pesm _ ha).2
theorem p_pksm : ∀ P ∈ plL, (P, 10, P + 6) ∈ ptL ∧ P + 6 ≠ 0 := by decide +kernel
theorem p_pks {h : aH} {P : Nat} (hS : Sh h) (ha : P ∈ plL) : gr h 8 (P) 10 = some (P + 6) := gr_ok9 (p_cP hS ha) (hS.2.2 _ (p_pksm _ ha).1) (p_pksm _ ha).2
theorem p_pablem : ∀ P ∈ plL, (P, 11, P + 7) ∈ ptL ∧ P + 7 ≠ 0 := by decide +kernel
theorem p_pable {h : aH} {P : Nat} (hS : Sh h) (ha : P ∈ plL) : gr h 8 (P) 11 = some (P + 7) := gr_ok9 (p_cP hS ha) (hS.2.2 _ (p_pablem _ ha).1) (p_pablem _ ha).2
theorem p_epm : ∀ P ∈ plL, ∀ i, i < 12 → (P + 2, i, P + 8 + 1 * i) ∈ ptL ∧ (P + 8 + 1 * i, 17, 0) ∈ shL ∧ P + 8 + 1 * i ≠ 0 := by decide +kernel
theorem p_ep_al {h : aH} {P : Nat} (hS : Sh h) (ha : P ∈ plL) {i : Nat} (hi : i < 12) : alr h 6 (P + 2) (nI i) = some (P + 8 + 1 * i) := alr_ok (p_cps hS ha).1 (p_cps hS ha).2 hi (by omega) (hS.2.2 _ (p_epm P ha i hi).1) (p_epm P ha i hi).2.2
theorem p_ep {h : aH} {P : Nat} (hS : Sh h) (ha : P ∈ plL) {i : Nat} (hi : i < 12) : h_sh h (P + 8 + 1 * i) = 10 + 7 := (hS.2.1 _ (p_epm P ha i hi).2.1).1
theorem p_ep_gi {h : aH} {P : Nat} (hS : Sh h) (ha : P ∈ plL) {i : Nat} (hi : i < 12) (k : Nat) : gi h 7 (P + 8 + 1 * i) k = some (h_iv h (P + 8 + 1 * i) k) := gi_ok (p_ep hS ha hi)
theorem p_ep_gL {h : aH} {P : Nat} (hS : Sh h) (ha : P ∈ plL) {i : Nat} (hi : i < 12) (k : Nat) : gL h 7 (P + 8 + 1 * i) k = some (h_lv h (P + 8 + 1 * i) k) := gL_ok (p_ep hS ha hi)
theorem p_ep_pi {h : aH} {P : Nat} (hS : Sh h) (ha : P ∈ plL) {i : Nat} (hi : i < 12) (k : Nat) (x : Int32) : pi h 7 (P + 8 + 1 * i) k x = some (h_si h (P + 8 + 1 * i) k x) := pi_ok (p_ep hS ha hi)
theorem p_ep_pL {h : aH} {P : Nat} (hS : Sh h) (ha : P ∈ plL) {i : Nat} (hi : i < 12) (k : Nat) (x : Int64) : pL h 7 (P + 8 + 1 * i) k x = some (h_sL h (P + 8 + 1 * i) k x) := pL_ok (p_ep hS ha hi)
theorem p_ep_gS {h : aH} {P : Nat} (hS : Sh h) (ha : P ∈ plL) {i : Nat} (hi : i < 12) {γ : Type} (z : Option γ) : gS h 7 (P + 8 + 1 * i) z = z := gS_ok (p_ep hS ha hi)
theorem p_egm : ∀ P ∈ plL, ∀ i, i < 6 → (P + 4, i, P + 20 + 2 * i) ∈ ptL ∧ (P + 20 + 2 * i, 16, 0) ∈ shL ∧ P + 20 + 2 * i ≠ 0 := by decide +kernel
theorem p_eg_al {h : aH} {P : Nat} (hS : Sh h) (ha : P ∈ plL) {i : Nat} (hi : i < 6) : alr h 7 (P + 4) (nI i) = some (P + 20 + 2 * i) := alr_ok (p_cgs hS ha).1 (p_cgs hS ha).2 hi (by omega) (hS.2.2 _ (p_egm P ha i hi).1) (p_egm P ha i hi).2.2
theorem p_eg {h : aH} {P : Nat} (hS : Sh h) (ha : P ∈ plL) {i : Nat} (hi : i < 6) : h_sh h (P + 20 + 2 * i) = 10 + 6 := (hS.2.1 _ (p_egm P ha i hi).2.1).1
theorem p_eg_gi {h : aH} {P : Nat} (hS : Sh h) (ha : P ∈ plL) {i : Nat} (hi : i < 6) (k : Nat) : gi h 6 (P + 20 + 2 * i) k = some (h_iv h (P + 20 + 2 * i) k) := gi_ok (p_eg hS ha hi)
theorem p_eg_gL {h : aH} {P : Nat} (hS : Sh h) (ha : P ∈ plL) {i : Nat} (hi : i < 6) (k : Nat) : gL h 6 (P + 20 + 2 * i) k = some (h_lv h (P + 20 + 2 * i) k) := gL_ok (p_eg hS ha hi)
theorem p_eg_pi {h : aH} {P : Nat} (hS : Sh h) (ha : P ∈ plL) {i : Nat} (hi : i < 6) (k : Nat) (x : Int32) : pi h 6 (P + 20 + 2 * i) k x = some (h_si h (P + 20 + 2 * i) k x) := pi_ok (p_eg hS ha hi)
theorem p_eg_pL {h : aH} {P : Nat} (hS : Sh h) (ha : P ∈ plL) {i : Nat} (hi : i < 6) (k : Nat) (x : Int64) : pL h 6 (P + 20 + 2 * i) k x = some (h_sL h (P + 20 + 2 * i) k x) := pL_ok (p_eg hS ha hi)
theorem p_eg_gS {h : aH} {P : Nat} (hS : Sh h) (ha : P ∈ plL) {i : Nat} (hi : i < 6) {γ : Type} (z : Option γ) : gS h 6 (P + 20 + 2 * i) z = z := gS_ok (p_eg hS ha hi)
theorem p_egrm : ∀ P ∈ plL, ∀ i, i < 6 → (P + 20 + 2 * i, 4, P + 21 + 2 * i) ∈ ptL ∧ (P + 21 + 2 * i, 1, 8) ∈ shL ∧ P + 21 + 2 * i ≠ 0 := by decide +kernel
theorem p_egr_p {h : aH} {P : Nat} (hS : Sh h) (ha : P ∈ plL) {i : Nat} (hi : i < 6) : gr h 6 (P + 20 + 2 * i) 4 = some (P + 21 + 2 * i) := gr_ok9 (p_eg hS ha hi) (hS.2.2 _ (p_egrm P ha i hi).1) (p_egrm P ha i hi).2.2
theorem p_egr {h : aH} {P : Nat} (hS : Sh h) (ha : P ∈ plL) {i : Nat} (hi : i < 6) : h_sh h (P + 21 + 2 * i) = 1 ∧ h_ln h (P + 21 + 2 * i) = 8 := ⟨(hS.2.1 _ (p_egrm P ha i hi).2.1).1, (hS.2.1 _ (p_egrm P ha i hi).2.1).2 (show (1 : Nat) < 10 by decide)⟩
theorem p_egr_al {h : aH} {P : Nat} (hS : Sh h) (ha : P ∈ plL) {i : Nat} (hi : i < 6) {n : Nat} (hn : n < 8) : ali h 1 (P + 21 + 2 * i) (nI n) = some (h_iv h (P + 21 + 2 * i) n) := ali_ok (p_egr hS ha hi).1 (p_egr hS ha hi).2 hn (by omega)
theorem p_egr_as {h : aH} {P : Nat} (hS : Sh h) (ha : P ∈ plL) {i : Nat} (hi : i < 6) {n : Nat} (x : Int32) (hn : n < 8) : asi h (P + 21 + 2 * i) (nI n) x = some (h_si h (P + 21 + 2 * i) n x) := asi_ok (p_egr hS ha hi).1 (p_egr hS ha hi).2 hn (by omega)
theorem p_egr_ln {h : aH} {P : Nat} (hS : Sh h) (ha : P ∈ plL) {i : Nat} (hi : i < 6) : aln h (P + 21 + 2 * i) = some (nI 8) := aln_ok (p_egr hS ha hi).1 (by decide) (by decide) (p_egr hS ha hi).2
theorem p_eem : ∀ P ∈ plL, ∀ i, i < 5 → (P + 5, i, P + 32 + 3 * i) ∈ ptL ∧ (P + 32 + 3 * i, 11, 0) ∈ shL ∧ P + 32 + 3 * i ≠ 0 := by decide +kernel
theorem p_ee_al {h : aH} {P : Nat} (hS : Sh h) (ha : P ∈ plL) {i : Nat} (hi : i < 5) : alr h 8 (P + 5) (nI i) = some (P + 32 + 3 * i) := alr_ok (p_ces hS ha).1 (p_ces hS ha).2 hi (by omega) (hS.2.2 _ (p_eem P ha i hi).1) (p_eem P ha i hi).2.2
theorem p_ee {h : aH} {P : Nat} (hS : Sh h) (ha : P ∈ plL) {i : Nat} (hi : i < 5) : h_sh h (P + 32 + 3 * i) = 10 + 1 := (hS.2.1 _ (p_eem P ha i hi).2.1).1
theorem p_ee_gi {h : aH} {P : Nat} (hS : Sh h) (ha : P ∈ plL) {i : Nat} (hi : i < 5) (k : Nat) : gi h 1 (P + 32 + 3 * i) k = some (h_iv h (P + 32 + 3 * i) k) := gi_ok (p_ee hS ha hi)
theorem p_ee_gL {h : aH} {P : Nat} (hS : Sh h) (ha : P ∈ plL) {i : Nat} (hi : i < 5) (k : Nat) : gL h 1 (P + 32 + 3 * i) k = some (h_lv h (P + 32 + 3 * i) k) := gL_ok (p_ee hS ha hi)
theorem p_ee_pi {h : aH} {P : Nat} (hS : Sh h) (ha : P ∈ plL) {i : Nat} (hi : i < 5) (k : Nat) (x : Int32) : pi h 1 (P + 32 + 3 * i) k x = some (h_si h (P + 32 + 3 * i) k x) := pi_ok (p_ee hS ha hi)
theorem p_ee_pL {h : aH} {P : Nat} (hS : Sh h) (ha : P ∈ plL) {i : Nat} (hi : i < 5) (k : Nat) (x : Int64) : pL h 1 (P + 32 + 3 * i) k x = some (h_sL h (P + 32 + 3 * i) k x) := pL_ok (p_ee hS ha hi)
theorem p_ee_gS {h : aH} {P : Nat} (hS : Sh h) (ha : P ∈ plL) {i : Nat} (hi : i < 5) {γ : Type} (z : Option γ) : gS h 1 (P + 32 + 3 * i) z = z := gS_ok (p_ee hS ha hi)
theorem p_eesm : ∀ P ∈ plL, ∀ i, i < 5 → (P + 32 + 3 * i, 3, P + 33 + 3 * i) ∈ ptL ∧ (P + 33 + 3 * i, 1, 6) ∈ shL ∧ P + 33 + 3 * i ≠ 0 := by decide +kernel
theorem p_ees_p {h : aH} {P : Nat} (hS : Sh h) (ha : P ∈ plL) {i : Nat} (hi : i < 5) : gr h 1 (P + 32 + 3 * i) 3 = some (P + 33 + 3 * i) := gr_ok9 (p_ee hS ha hi) (hS.2.2 _ (p_eesm P ha i hi).1) (p_eesm P ha i hi).2.2
theorem p_ees {h : aH} {P : Nat} (hS : Sh h) (ha : P ∈ plL) {i : Nat} (hi : i < 5) : h_sh h (P + 33 + 3 * i) = 1 ∧ h_ln h (P + 33 + 3 * i) = 6 := ⟨(hS.2.1 _ (p_eesm P ha i hi).2.1).1, (hS.2.1 _ (p_eesm P ha i hi).2.1).2 (show (1 : Nat) < 10 by decide)⟩
theorem p_ees_al {h : aH} {P : Nat} (hS : Sh h) (ha : P ∈ plL) {i : Nat} (hi : i < 5) {n : Nat} (hn : n < 6) : ali h 1 (P + 33 + 3 * i) (nI n) = some (h_iv h (P + 33 + 3 * i) n) := ali_ok (p_ees hS ha hi).1 (p_ees hS ha hi).2 hn (by omega)
theorem p_ees_as {h : aH} {P : Nat} (hS : Sh h) (ha : P ∈ plL) {i : Nat} (hi : i < 5) {n : Nat} (x : Int32) (hn : n < 6) : asi h (P + 33 + 3 * i) (nI n) x = some (h_si h (P + 33 + 3 * i) n x) := asi_ok (p_ees hS ha hi).1 (p_ees hS ha hi).2 hn (by omega)
theorem p_ees_ln {h : aH} {P : Nat} (hS : Sh h) (ha : P ∈ plL) {i : Nat} (hi : i < 5) : aln h (P + 33 + 3 * i) = some (nI 6) := aln_ok (p_ees hS ha hi).1 (by decide) (by decide) (p_ees hS ha hi).2
theorem p_eedm : ∀ P ∈ plL, ∀ i, i < 5 → (P + 32 + 3 * i, 4, P + 34 + 3 * i) ∈ ptL ∧ (P + 34 + 3 * i, 1, 32) ∈ shL ∧ P + 34 + 3 * i ≠ 0 := by decide +kernel
theorem p_eed_p {h : aH} {P : Nat} (hS : Sh h) (ha : P ∈ plL) {i : Nat} (hi : i < 5) : gr h 1 (P + 32 + 3 * i) 4 = some (P + 34 + 3 * i) := gr_ok9 (p_ee hS ha hi) (hS.2.2 _ (p_eedm P ha i hi).1) (p_eedm P ha i hi).2.2
theorem p_eed {h : aH} {P : Nat} (hS : Sh h) (ha : P ∈ plL) {i : Nat} (hi : i < 5) : h_sh h (P + 34 + 3 * i) = 1 ∧ h_ln h (P + 34 + 3 * i) = 32 := ⟨(hS.2.1 _ (p_eedm P ha i hi).2.1).1, (hS.2.1 _ (p_eedm P ha i hi).2.1).2 (show (1 : Nat) < 10 by decide)⟩
theorem p_eed_al {h : aH} {P : Nat} (hS : Sh h) (ha : P ∈ plL) {i : Nat} (hi : i < 5) {n : Nat} (hn : n < 32) : ali h 1 (P + 34 + 3 * i) (nI n) = some (h_iv h (P + 34 + 3 * i) n) := ali_ok (p_eed hS ha hi).1 (p_eed hS ha hi).2 hn (by omega)
theorem p_eed_as {h : aH} {P : Nat} (hS : Sh h) (ha : P ∈ plL) {i : Nat} (hi : i < 5) {n : Nat} (x : Int32) (hn : n < 32) : asi h (P + 34 + 3 * i) (nI n) x = some (h_si h (P + 34 + 3 * i) n x) := asi_ok (p_eed hS ha hi).1 (p_eed hS ha hi).2 hn (by omega)
theorem p_eed_ln {h : aH} {P : Nat} (hS : Sh h) (ha : P ∈ plL) {i : Nat} (hi : i < 5) : aln h (P + 34 + 3 * i) = some (nI 32) := aln_ok (p_eed hS ha hi).1 (by decide) (by decide) (p_eed hS ha hi).2
theorem p_ekm : ∀ P ∈ plL, ∀ i, i < 6 → (P + 6, i, P + 47 + 3 * i) ∈ ptL ∧ (P + 47 + 3 * i, 13, 0) ∈ shL ∧ P + 47 + 3 * i ≠ 0 := by decide +kernel
theorem p_ek_al {h : aH} {P : Nat} (hS : Sh h) (ha : P ∈ plL) {i : Nat} (hi : i < 6) : alr h 9 (P + 6) (nI i) = some (P + 47 + 3 * i) := alr_ok (p_cks hS ha).1 (p_cks hS ha).2 hi (by omega) (hS.2.2 _ (p_ekm P ha i hi).1) (p_ekm P ha i hi).2.2
theorem p_ek {h : aH} {P : Nat} (hS : Sh h) (ha : P ∈ plL) {i : Nat} (hi : i < 6) : h_sh h (P + 47 + 3 * i) = 10 + 3 := (hS.2.1 _ (p_ekm P ha i hi).2.1).1
theorem p_ek_gi {h : aH} {P : Nat} (hS : Sh h) (ha : P ∈ plL) {i : Nat} (hi : i < 6) (k : Nat) : gi h 3 (P + 47 + 3 * i) k = some (h_iv h (P + 47 + 3 * i) k) := gi_ok (p_ek hS ha hi)
theorem p_ek_gL {h : aH} {P : Nat} (hS : Sh h) (ha : P ∈ plL) {i : Nat} (hi : i < 6) (k : Nat) : gL h 3 (P + 47 + 3 * i) k = some (h_lv h (P + 47 + 3 * i) k) := gL_ok (p_ek hS ha hi)
theorem p_ek_pi {h : aH} {P : Nat} (hS : Sh h) (ha : P ∈ plL) {i : Nat} (hi : i < 6) (k : Nat) (x : Int32) : pi h 3 (P + 47 + 3 * i) k x = some (h_si h (P + 47 + 3 * i) k x) := pi_ok (p_ek hS ha hi)
theorem p_ek_pL {h : aH} {P : Nat} (hS : Sh h) (ha : P ∈ plL) {i : Nat} (hi : i < 6) (k : Nat) (x : Int64) : pL h 3 (P + 47 + 3 * i) k x = some (h_sL h (P + 47 + 3 * i) k x) := pL_ok (p_ek hS ha hi)
theorem p_ek_gS {h : aH} {P : Nat} (hS : Sh h) (ha : P ∈ plL) {i : Nat} (hi : i < 6) {γ : Type} (z : Option γ) : gS h 3 (P + 47 + 3 * i) z = z := gS_ok (p_ek hS ha hi)
theorem p_ekgm : ∀ P ∈ plL, ∀ i, i < 6 → (P + 47 + 3 * i, 5, P + 48 + 3 * i) ∈ ptL ∧ (P + 48 + 3 * i, 1, 6) ∈ shL ∧ P + 48 + 3 * i ≠ 0 := by decide +kernel
theorem p_ekg_p {h : aH} {P : Nat} (hS : Sh h) (ha : P ∈ plL) {i : Nat} (hi : i < 6) : gr h 3 (P + 47 + 3 * i) 5 = some (P + 48 + 3 * i) := gr_ok9 (p_ek hS ha hi) (hS.2.2 _ (p_ekgm P ha i hi).1) (p_ekgm P ha i hi).2.2
theorem p_ekg {h : aH} {P : Nat} (hS : Sh h) (ha : P ∈ plL) {i : Nat} (hi : i < 6) : h_sh h (P + 48 + 3 * i) = 1 ∧ h_ln h (P + 48 + 3 * i) = 6 := ⟨(hS.2.1 _ (p_ekgm P ha i hi).2.1).1, (hS.2.1 _ (p_ekgm P ha i hi).2.1).2 (show (1 : Nat) < 10 by decide)⟩
theorem p_ekg_al {h : aH} {P : Nat} (hS : Sh h) (ha : P ∈ plL) {i : Nat} (hi : i < 6) {n : Nat} (hn : n < 6) : ali h 1 (P + 48 + 3 * i) (nI n) = some (h_iv h (P + 48 + 3 * i) n) := ali_ok (p_ekg hS ha hi).1 (p_ekg hS ha hi).2 hn (by omega)
theorem p_ekg_as {h : aH} {P : Nat} (hS : Sh h) (ha : P ∈ plL) {i : Nat} (hi : i < 6) {n : Nat} (x : Int32) (hn : n < 6) : asi h (P + 48 + 3 * i) (nI n) x = some (h_si h (P + 48 + 3 * i) n x) := asi_ok (p_ekg hS ha hi).1 (p_ekg hS ha hi).2 hn (by omega)
theorem p_ekg_ln {h : aH} {P : Nat} (hS : Sh h) (ha : P ∈ plL) {i : Nat} (hi : i < 6) : aln h (P + 48 + 3 * i) = some (nI 6) := aln_ok (p_ekg hS ha hi).1 (by decide) (by decide) (p_ekg hS ha hi).2
theorem p_ekem : ∀ P ∈ plL, ∀ i, i < 6 → (P + 47 + 3 * i, 7, P + 49 + 3 * i) ∈ ptL ∧ (P + 49 + 3 * i, 1, 5) ∈ shL ∧ P + 49 + 3 * i ≠ 0 := by decide +kernel
theorem p_eke_p {h : aH} {P : Nat} (hS : Sh h) (ha : P ∈ plL) {i : Nat} (hi : i < 6) : gr h 3 (P + 47 + 3 * i) 7 = some (P + 49 + 3 * i) := gr_ok9 (p_ek hS ha hi) (hS.2.2 _ (p_ekem P ha i hi).1) (p_ekem P ha i hi).2.2
theorem p_eke {h : aH} {P : Nat} (hS : Sh h) (ha : P ∈ plL) {i : Nat} (hi : i < 6) : h_sh h (P + 49 + 3 * i) = 1 ∧ h_ln h (P + 49 + 3 * i) = 5 := ⟨(hS.2.1 _ (p_ekem P ha i hi).2.1).1, (hS.2.1 _ (p_ekem P ha i hi).2.1).2 (show (1 : Nat) < 10 by decide)⟩
theorem p_eke_al {h : aH} {P : Nat} (hS : Sh h) (ha : P ∈ plL) {i : Nat} (hi : i < 6) {n : Nat} (hn : n < 5) : ali h 1 (P + 49 + 3 * i) (nI n) = some (h_iv h (P + 49 + 3 * i) n) := ali_ok (p_eke hS ha hi).1 (p_eke hS ha hi).2 hn (by omega)
theorem p_eke_as {h : aH} {P : Nat} (hS : Sh h) (ha : P ∈ plL) {i : Nat} (hi : i < 6) {n : Nat} (x : Int32) (hn : n < 5) : asi h (P + 49 + 3 * i) (nI n) x = some (h_si h (P + 49 + 3 * i) n x) := asi_ok (p_eke hS ha hi).1 (p_eke hS ha hi).2 hn (by omega)
theorem p_eke_ln {h : aH} {P : Nat} (hS : Sh h) (ha : P ∈ plL) {i : Nat} (hi : i < 6) : aln h (P + 49 + 3 * i) = some (nI 5) := aln_ok (p_eke hS ha hi).1 (by decide) (by decide) (p_eke hS ha hi).2
theorem r_cMm : (412, 22, 0) ∈ shL := List.mem_of_getElem? (i := 411) rfl
theorem r_cM {h : aH} (hS : Sh h) : h_sh h (412) = 10 + 12 := (hS.2.1 _ r_cMm).1
theorem r_cM_gi {h : aH} (hS : Sh h) (k : Nat) : gi h 12 (412) k = some (h_iv h (412) k) := gi_ok (r_cM hS)
theorem r_cM_gL {h : aH} (hS : Sh h) (k : Nat) : gL h 12 (412) k = some (h_lv h (412) k) := gL_ok (r_cM hS)
theorem r_cM_pi {h : aH} (hS : Sh h) (k : Nat) (x : Int32) : pi h 12 (412) k x = some (h_si h (412) k x) := pi_ok (r_cM hS)
theorem r_cM_pL {h : aH} (hS : Sh h) (k : Nat) (x : Int64) : pL h 12 (412) k x = some (h_sL h (412) k x) := pL_ok (r_cM hS)
theorem r_cM_gS {h : aH} (hS : Sh h) {γ : Type} (z : Option γ) : gS h 12 (412) z = z := gS_ok (r_cM hS)
theorem r_c413m : (413, 1, 603) ∈ shL := List.mem_of_getElem? (i := 412) rfl
theorem r_c413 {h : aH} (hS : Sh h) : h_sh h (413) = 1 ∧ h_ln h (413) = 603 := ⟨(hS.2.1 _ r_c413m).1, (hS.2.1 _ r_c413m).2 (show (1 : Nat) < 10 by decide)⟩
theorem r_c413_al {h : aH} (hS : Sh h) {n : Nat} (hn : n < 603) : ali h 1 (413) (nI n) = some (h_iv h (413) n) := ali_ok (r_c413 hS).1 (r_c413 hS).2 hn (by omega)
theorem r_c413_as {h : aH} (hS : Sh h) {n : Nat} (x : Int32) (hn : n < 603) : asi h (413) (nI n) x = some (h_si h (413) n x) := asi_ok (r_c413 hS).1 (r_c413 hS).2 hn (by omega)
theorem r_c413_ln {h : aH} (hS : Sh h) : aln h (413) = some (nI 603) := aln_ok (r_c413 hS).1 (by decide) (by decide) (r_c413 hS).2
theorem r_c414m : (414, 1, 6030) ∈ shL := List.mem_of_getElem? (i := 413) rfl
theorem r_c414 {h : aH} (hS : Sh h) : h_sh h (414) = 1 ∧ h_ln h (414) = 6030 := ⟨(hS.2.1 _ r_c414m).1, (hS.2.1 _ r_c414m).2 (show (1 : Nat) < 10 by decide)⟩
theorem r_c414_al {h : aH} (hS : Sh h) {n : Nat} (hn : n < 6030) : ali h 1 (414) (nI n) = some (h_iv h (414) n) := ali_ok (r_c414 hS).1 (r_c414 hS).2 hn (by omega)
theorem r_c414_as {h : aH} (hS : Sh h) {n : Nat} (x : Int32) (hn : n < 6030) : asi h (414) (nI n) x = some (h_si h (414) n x) := asi_ok (r_c414 hS).1 (r_c414 hS).2 hn (by omega)
theorem r_c414_ln {h : aH} (hS : Sh h) : aln h (414) = some (nI 6030) := aln_ok (r_c414 hS).1 (by decide) (by decide) (r_c414 hS).2
theorem r_c415m : (415, 1, 1206) ∈ shL := List.mem_of_getElem? (i := 414) rfl
theorem r_c415 {h : aH} (hS : Sh h) : h_sh h (415) = 1 ∧ h_ln h (415) = 1206 := ⟨(hS.2.1 _ r_c415m).1, (hS.2.1 _ r_c415m).2 (show (1 : Nat) < 10 by decide)⟩
theorem r_c415_al {h : aH} (hS : Sh h) {n : Nat} (hn : n < 1206) : ali h 1 (415) (nI n) = some (h_iv h (415) n) := ali_ok (r_c415 hS).1 (r_c415 hS).2 hn (by omega)
theorem r_c415_as {h : aH} (hS : Sh h) {n : Nat} (x : Int32) (hn : n < 1206) : asi h (415) (nI n) x = some (h_si h (415) n x) := asi_ok (r_c415 hS).1 (r_c415 hS).2 hn (by omega)
theorem r_c415_ln {h : aH} (hS : Sh h) : aln h (415) = some (nI 1206) := aln_ok (r_c415 hS).1 (by decide) (by decide) (r_c415 hS).2
theorem r_c416m : (416, 1, 603) ∈ shL := List.mem_of_getElem? (i := 415) rfl
theorem r_c416 {h : aH} (hS : Sh h) : h_sh h (416) = 1 ∧ h_ln h (416) = 603 := ⟨(hS.2.1 _ r_c416m).1, (hS.2.1 _ r_c416m).2 (show (1 : Nat) < 10 by decide)⟩
theorem r_c416_al {h : aH} (hS : Sh h) {n : Nat} (hn : n < 603) : ali h 1 (416) (nI n) = some (h_iv h (416) n) := ali_ok (r_c416 hS).1 (r_c416 hS).2 hn (by omega)
theorem r_c416_as {h : aH} (hS : Sh h) {n : Nat} (x : Int32) (hn : n < 603) : asi h (416) (nI n) x = some (h_si h (416) n x) := asi_ok (r_c416 hS).1 (r_c416 hS).2 hn (by omega)
theorem r_c416_ln {h : aH} (hS : Sh h) : aln h (416) = some (nI 603) := aln_ok (r_c416 hS).1 (by decide) (by decide) (r_c416 hS).2
theorem r_c417m : (417, 3, 2) ∈ shL := List.mem_of_getElem? (i := 416) rfl
theorem r_c417 {h : aH} (hS : Sh h) : h_sh h (417) = 3 ∧ h_ln h (417) = 2 := ⟨(hS.2.1 _ r_c417m).1, (hS.2.1 _ r_c417m).2 (show (3 : Nat) < 10 by decide)⟩
theorem r_c417_al {h : aH} (hS : Sh h) {n : Nat} (hn : n < 2) : ali h 3 (417) (nI n) = some (h_iv h (417) n) := ali_ok (r_c417 hS).1 (r_c417 hS).2 hn (by omega)
theorem r_c417_as {h : aH} (hS : Sh h) {n : Nat} {x : Int32} (hn : n < 2) (hx : x = 0 ∨ x = 1) : asz h (417) (nI n) x = some (h_si h (417) n x) := asz_ok (r_c417 hS).1 (r_c417 hS).2 hn (by omega) hx
theorem r_c417_ln {h : aH} (hS : Sh h) : aln h (417) = some (nI 2) := aln_ok (r_c417 hS).1 (by decide) (by decide) (r_c417 hS).2
theorem r_c418m : (418, 1, 4) ∈ shL := List.mem_of_getElem? (i := 417) rfl
theorem r_c418 {h : aH} (hS : Sh h) : h_sh h (418) = 1 ∧ h_ln h (418) = 4 := ⟨(hS.2.1 _ r_c418m).1, (hS.2.1 _ r_c418m).2 (show (1 : Nat) < 10 by decide)⟩
theorem r_c418_al {h : aH} (hS : Sh h) {n : Nat} (hn : n < 4) : ali h 1 (418) (nI n) = some (h_iv h (418) n) := ali_ok (r_c418 hS).1 (r_c418 hS).2 hn (by omega)
theorem r_c418_as {h : aH} (hS : Sh h) {n : Nat} (x : Int32) (hn : n < 4) : asi h (418) (nI n) x = some (h_si h (418) n x) := asi_ok (r_c418 hS).1 (r_c418 hS).2 hn (by omega)
theorem r_c418_ln {h : aH} (hS : Sh h) : aln h (418) = some (nI 4) := aln_ok (r_c418 hS).1 (by decide) (by decide) (r_c418 hS).2
theorem r_c419m : (419, 4, 29) ∈ shL := List.mem_of_getElem? (i := 418) rfl
theorem r_c419 {h : aH} (hS : Sh h) : h_sh h (419) = 4 ∧ h_ln h (419) = 29 := ⟨(hS.2.1 _ r_c419m).1, (hS.2.1 _ r_c419m).2 (show (4 : Nat) < 10 by decide)⟩
theorem r_c419_al {h : aH} (hS : Sh h) {n : Nat} (hn : n < 29) : alL h (419) (nI n) = some (h_lv h (419) n) := alL_ok (r_c419 hS).1 (r_c419 hS).2 hn (by omega)
theorem r_c419_as {h : aH} (hS : Sh h) {n : Nat} (x : Int64) (hn : n < 29) : asL h (419) (nI n) x = some (h_sL h (419) n x) := asL_ok (r_c419 hS).1 (r_c419 hS).2 hn (by omega)
theorem r_c419_ln {h : aH} (hS : Sh h) : aln h (419) = some (nI 29) := aln_ok (r_c419 hS).1 (by decide) (by decide) (r_c419 hS).2
theorem r_c420m : (420, 1, 12) ∈ shL := List.mem_of_getElem? (i := 419) rfl
theorem r_c420 {h : aH} (hS : Sh h) : h_sh h (420) = 1 ∧ h_ln h (420) = 12 := ⟨(hS.2.1 _ r_c420m).1, (hS.2.1 _ r_c420m).2 (show (1 : Nat) < 10 by decide)⟩
theorem r_c420_al {h : aH} (hS : Sh h) {n : Nat} (hn : n < 12) : ali h 1 (420) (nI n) = some (h_iv h (420) n) := ali_ok (r_c420 hS).1 (r_c420 hS).2 hn (by omega)
theorem r_c420_as {h : aH} (hS : Sh h) {n : Nat} (x : Int32) (hn : n < 12) : asi h (420) (nI n) x = some (h_si h (420) n x) := asi_ok (r_c420 hS).1 (r_c420 hS).2 hn (by omega)
theorem r_c420_ln {h : aH} (hS : Sh h) : aln h (420) = some (nI 12) := aln_ok (r_c420 hS).1 (by decide) (by decide) (r_c420 hS).2
theorem r_c421m : (421, 1, 12) ∈ shL := List.mem_of_getElem? (i := 420) rfl
theorem r_c421 {h : aH} (hS : Sh h) : h_sh h (421) = 1 ∧ h_ln h (421) = 12 := ⟨(hS.2.1 _ r_c421m).1, (hS.2.1 _ r_c421m).2 (show (1 : Nat) < 10 by decide)⟩
theorem r_c421_al {h : aH} (hS : Sh h) {n : Nat} (hn : n < 12) : ali h 1 (421) (nI n) = some (h_iv h (421) n) := ali_ok (r_c421 hS).1 (r_c421 hS).2 hn (by omega)
theorem r_c421_as {h : aH} (hS : Sh h) {n : Nat} (x : Int32) (hn : n < 12) : asi h (421) (nI n) x = some (h_si h (421) n x) := asi_ok (r_c421 hS).1 (r_c421 hS).2 hn (by omega)
theorem r_c421_ln {h : aH} (hS : Sh h) : aln h (421) = some (nI 12) := aln_ok (r_c421 hS).1 (by decide) (by decide) (r_c421 hS).2
theorem r_c422m : (422, 1, 6) ∈ shL := List.mem_of_getElem? (i := 421) rfl
theorem r_c422 {h : aH} (hS : Sh h) : h_sh h (422) = 1 ∧ h_ln h (422) = 6 := ⟨(hS.2.1 _ r_c422m).1, (hS.2.1 _ r_c422m).2 (show (1 : Nat) < 10 by decide)⟩
theorem r_c422_al {h : aH} (hS : Sh h) {n : Nat} (hn : n < 6) : ali h 1 (422) (nI n) = some (h_iv h (422) n) := ali_ok (r_c422 hS).1 (r_c422 hS).2 hn (by omega)
theorem r_c422_as {h : aH} (hS : Sh h) {n : Nat} (x : Int32) (hn : n < 6) : asi h (422) (nI n) x = some (h_si h (422) n x) := asi_ok (r_c422 hS).1 (r_c422 hS).2 hn (by omega)
theorem r_c422_ln {h : aH} (hS : Sh h) : aln h (422) = some (nI 6) := aln_ok (r_c422 hS).1 (by decide) (by decide) (r_c422 hS).2
theorem r_c423m : (423, 1, 6) ∈ shL := List.mem_of_getElem? (i := 422) rfl
theorem r_c423 {h : aH} (hS : Sh h) : h_sh h (423) = 1 ∧ h_ln h (423) = 6 := ⟨(hS.2.1 _ r_c423m).1, (hS.2.1 _ r_c423m).2 (show (1 : Nat) < 10 by decide)⟩
theorem r_c423_al {h : aH} (hS : Sh h) {n : Nat} (hn : n < 6) : ali h 1 (423) (nI n) = some (h_iv h (423) n) := ali_ok (r_c423 hS).1 (r_c423 hS).2 hn (by omega)
theorem r_c423_as {h : aH} (hS : Sh h) {n : Nat} (x : Int32) (hn : n < 6) : asi h (423) (nI n) x = some (h_si h (423) n x) := asi_ok (r_c423 hS).1 (r_c423 hS).2 hn (by omega)
theorem r_c423_ln {h : aH} (hS : Sh h) : aln h (423) = some (nI 6) := aln_ok (r_c423 hS).1 (by decide) (by decide) (r_c423 hS).2
theorem r_c424m : (424, 1, 6) ∈ shL := List.mem_of_getElem? (i := 423) rfl
theorem r_c424 {h : aH} (hS : Sh h) : h_sh h (424) = 1 ∧ h_ln h (424) = 6 := ⟨(hS.2.1 _ r_c424m).1, (hS.2.1 _ r_c424m).2 (show (1 : Nat) < 10 by decide)⟩
theorem r_c424_al {h : aH} (hS : Sh h) {n : Nat} (hn : n < 6) : ali h 1 (424) (nI n) = some (h_iv h (424) n) := ali_ok (r_c424 hS).1 (r_c424 hS).2 hn (by omega)
theorem r_c424_as {h : aH} (hS : Sh h) {n : Nat} (x : Int32) (hn : n < 6) : asi h (424) (nI n) x = some (h_si h (424) n x) := asi_ok (r_c424 hS).1 (r_c424 hS).2 hn (by omega)
theorem r_c424_ln {h : aH} (hS : Sh h) : aln h (424) = some (nI 6) := aln_ok (r_c424 hS).1 (by decide) (by decide) (r_c424 hS).2
theorem r_c425m : (425, 1, 5) ∈ shL := List.mem_of_getElem? (i := 424) rfl
theorem r_c425 {h : aH} (hS : Sh h) : h_sh h (425) = 1 ∧ h_ln h (425) = 5 := ⟨(hS.2.1 _ r_c425m).1, (hS.2.1 _ r_c425m).2 (show (1 : Nat) < 10 by decide)⟩
theorem r_c425_al {h : aH} (hS : Sh h) {n : Nat} (hn : n < 5) : ali h 1 (425) (nI n) = some (h_iv h (425) n) := ali_ok (r_c425 hS).1 (r_c425 hS).2 hn (by omega)
theorem r_c425_as {h : aH} (hS : Sh h) {n : Nat} (x : Int32) (hn : n < 5) : asi h (425) (nI n) x = some (h_si h (425) n x) := asi_ok (r_c425 hS).1 (r_c425 hS).2 hn (by omega)
theorem r_c425_ln {h : aH} (hS : Sh h) : aln h (425) = some (nI 5) := aln_ok (r_c425 hS).1 (by decide) (by decide) (r_c425 hS).2
theorem r_c426m : (426, 1, 5) ∈ shL := List.mem_of_getElem? (i := 425) rfl
theorem r_c426 {h : aH} (hS : Sh h) : h_sh h (426) = 1 ∧ h_ln h (426) = 5 := ⟨(hS.2.1 _ r_c426m).1, (hS.2.1 _ r_c426m).2 (show (1 : Nat) < 10 by decide)⟩
theorem r_c426_al {h : aH} (hS : Sh h) {n : Nat} (hn : n < 5) : ali h 1 (426) (nI n) = some (h_iv h (426) n) := ali_ok (r_c426 hS).1 (r_c426 hS).2 hn (by omega)
theorem r_c426_as {h : aH} (hS : Sh h) {n : Nat} (x : Int32) (hn : n < 5) : asi h (426) (nI n) x = some (h_si h (426) n x) := asi_ok (r_c426 hS).1 (r_c426 hS).2 hn (by omega)
theorem r_c426_ln {h : aH} (hS : Sh h) : aln h (426) = some (nI 5) := aln_ok (r_c426 hS).1 (by decide) (by decide) (r_c426 hS).2
theorem r_c427m : (427, 1, 30) ∈ shL := List.mem_of_getElem? (i := 426) rfl
theorem r_c427 {h : aH} (hS : Sh h) : h_sh h (427) = 1 ∧ h_ln h (427) = 30 := ⟨(hS.2.1 _ r_c427m).1, (hS.2.1 _ r_c427m).2 (show (1 : Nat) < 10 by decide)⟩
theorem r_c427_al {h : aH} (hS : Sh h) {n : Nat} (hn : n < 30) : ali h 1 (427) (nI n) = some (h_iv h (427) n) := ali_ok (r_c427 hS).1 (r_c427 hS).2 hn (by omega)
theorem r_c427_as {h : aH} (hS : Sh h) {n : Nat} (x : Int32) (hn : n < 30) : asi h (427) (nI n) x = some (h_si h (427) n x) := asi_ok (r_c427 hS).1 (r_c427 hS).2 hn (by omega)
theorem r_c427_ln {h : aH} (hS : Sh h) : aln h (427) = some (nI 30) := aln_ok (r_c427 hS).1 (by decide) (by decide) (r_c427 hS).2
theorem r_c428m : (428, 1, 6) ∈ shL := List.mem_of_getElem? (i := 427) rfl
theorem r_c428 {h : aH} (hS : Sh h) : h_sh h (428) = 1 ∧ h_ln h (428) = 6 := ⟨(hS.2.1 _ r_c428m).1, (hS.2.1 _ r_c428m).2 (show (1 : Nat) < 10 by decide)⟩
theorem r_c428_al {h : aH} (hS : Sh h) {n : Nat} (hn : n < 6) : ali h 1 (428) (nI n) = some (h_iv h (428) n) := ali_ok (r_c428 hS).1 (r_c428 hS).2 hn (by omega)
theorem r_c428_as {h : aH} (hS : Sh h) {n : Nat} (x : Int32) (hn : n < 6) : asi h (428) (nI n) x = some (h_si h (428) n x) := asi_ok (r_c428 hS).1 (r_c428 hS).2 hn (by omega)
theorem r_c428_ln {h : aH} (hS : Sh h) : aln h (428) = some (nI 6) := aln_ok (r_c428 hS).1 (by decide) (by decide) (r_c428 hS).2
theorem r_c429m : (429, 1, 6) ∈ shL := List.mem_of_getElem? (i := 428) rfl
theorem r_c429 {h : aH} (hS : Sh h) : h_sh h (429) = 1 ∧ h_ln h (429) = 6 := ⟨(hS.2.1 _ r_c429m).1, (hS.2.1 _ r_c429m).2 (show (1 : Nat) < 10 by decide)⟩
theorem r_c429_al {h : aH} (hS : Sh h) {n : Nat} (hn : n < 6) : ali h 1 (429) (nI n) = some (h_iv h (429) n) := ali_ok (r_c429 hS).1 (r_c429 hS).2 hn (by omega)
theorem r_c429_as {h : aH} (hS : Sh h) {n : Nat} (x : Int32) (hn : n < 6) : asi h (429) (nI n) x = some (h_si h (429) n x) := asi_ok (r_c429 hS).1 (r_c429 hS).2 hn (by omega)
theorem r_c429_ln {h : aH} (hS : Sh h) : aln h (429) = some (nI 6) := aln_ok (r_c429 hS).1 (by decide) (by decide) (r_c429 hS).2
theorem r_c430m : (430, 1, 6) ∈ shL := List.mem_of_getElem? (i := 429) rfl
theorem r_c430 {h : aH} (hS : Sh h) : h_sh h (430) = 1 ∧ h_ln h (430) = 6 := ⟨(hS.2.1 _ r_c430m).1, (hS.2.1 _ r_c430m).2 (show (1 : Nat) < 10 by decide)⟩
theorem r_c430_al {h : aH} (hS : Sh h) {n : Nat} (hn : n < 6) : ali h 1 (430) (nI n) = some (h_iv h (430) n) := ali_ok (r_c430 hS).1 (r_c430 hS).2 hn (by omega)
theorem r_c430_as {h : aH} (hS : Sh h) {n : Nat} (x : Int32) (hn : n < 6) : asi h (430) (nI n) x = some (h_si h (430) n x) := asi_ok (r_c430 hS).1 (r_c430 hS).2 hn (by omega)
theorem r_c430_ln {h : aH} (hS : Sh h) : aln h (430) = some (nI 6) := aln_ok (r_c430 hS).1 (by decide) (by decide) (r_c430 hS).2
theorem r_c431m : (431, 1, 6) ∈ shL := List.mem_of_getElem? (i := 430) rfl
theorem r_c431 {h : aH} (hS : Sh h) : h_sh h (431) = 1 ∧ h_ln h (431) = 6 := ⟨(hS.2.1 _ r_c431m).1, (hS.2.1 _ r_c431m).2 (show (1 : Nat) < 10 by decide)⟩
theorem r_c431_al {h : aH} (hS : Sh h) {n : Nat} (hn : n < 6) : ali h 1 (431) (nI n) = some (h_iv h (431) n) := ali_ok (r_c431 hS).1 (r_c431 hS).2 hn (by omega)
theorem r_c431_as {h : aH} (hS : Sh h) {n : Nat} (x : Int32) (hn : n < 6) : asi h (431) (nI n) x = some (h_si h (431) n x) := asi_ok (r_c431 hS).1 (r_c431 hS).2 hn (by omega)
theorem r_c431_ln {h : aH} (hS : Sh h) : aln h (431) = some (nI 6) := aln_ok (r_c431 hS).1 (by decide) (by decide) (r_c431 hS).2
theorem r_c432m : (432, 1, 36) ∈ shL := List.mem_of_getElem? (i := 431) rfl
theorem r_c432 {h : aH} (hS : Sh h) : h_sh h (432) = 1 ∧ h_ln h (432) = 36 := ⟨(hS.2.1 _ r_c432m).1, (hS.2.1 _ r_c432m).2 (show (1 : Nat) < 10 by decide)⟩
theorem r_c432_al {h : aH} (hS : Sh h) {n : Nat} (hn : n < 36) : ali h 1 (432) (nI n) = some (h_iv h (432) n) := ali_ok (r_c432 hS).1 (r_c432 hS).2 hn (by omega)
theorem r_c432_as {h : aH} (hS : Sh h) {n : Nat} (x : Int32) (hn : n < 36) : asi h (432) (nI n) x = some (h_si h (432) n x) := asi_ok (r_c432 hS).1 (r_c432 hS).2 hn (by omega)
theorem r_c432_ln {h : aH} (hS : Sh h) : aln h (432) = some (nI 36) := aln_ok (r_c432 hS).1 (by decide) (by decide) (r_c432 hS).2
theorem r_c433m : (433, 1, 6) ∈ shL := List.mem_of_getElem? (i := 432) rfl
theorem r_c433 {h : aH} (hS : Sh h) : h_sh h (433) = 1 ∧ h_ln h (433) = 6 := ⟨(hS.2.1 _ r_c433m).1, (hS.2.1 _ r_c433m).2 (show (1 : Nat) < 10 by decide)⟩
theorem r_c433_al {h : aH} (hS : Sh h) {n : Nat} (hn : n < 6) : ali h 1 (433) (nI n) = some (h_iv h (433) n) := ali_ok (r_c433 hS).1 (r_c433 hS).2 hn (by omega)
theorem r_c433_as {h : aH} (hS : Sh h) {n : Nat} (x : Int32) (hn : n < 6) : asi h (433) (nI n) x = some (h_si h (433) n x) := asi_ok (r_c433 hS).1 (r_c433 hS).2 hn (by omega)
theorem r_c433_ln {h : aH} (hS : Sh h) : aln h (433) = some (nI 6) := aln_ok (r_c433 hS).1 (by decide) (by decide) (r_c433 hS).2
theorem r_c434m : (434, 1, 30) ∈ shL := List.mem_of_getElem? (i := 433) rfl
theorem r_c434 {h : aH} (hS : Sh h) : h_sh h (434) = 1 ∧ h_ln h (434) = 30 := ⟨(hS.2.1 _ r_c434m).1, (hS.2.1 _ r_c434m).2 (show (1 : Nat) < 10 by decide)⟩
theorem r_c434_al {h : aH} (hS : Sh h) {n : Nat} (hn : n < 30) : ali h 1 (434) (nI n) = some (h_iv h (434) n) := ali_ok (r_c434 hS).1 (r_c434 hS).2 hn (by omega)
theorem r_c434_as {h : aH} (hS : Sh h) {n : Nat} (x : Int32) (hn : n < 30) : asi h (434) (nI n) x = some (h_si h (434) n x) := asi_ok (r_c434 hS).1 (r_c434 hS).2 hn (by omega)
theorem r_c434_ln {h : aH} (hS : Sh h) : aln h (434) = some (nI 30) := aln_ok (r_c434 hS).1 (by decide) (by decide) (r_c434 hS).2
theorem r_c435m : (435, 1, 1200) ∈ shL := List.mem_of_getElem? (i := 434) rfl
theorem r_c435 {h : aH} (hS : Sh h) : h_sh h (435) = 1 ∧ h_ln h (435) = 1200 := ⟨(hS.2.1 _ r_c435m).1, (hS.2.1 _ r_c435m).2 (show (1 : Nat) < 10 by decide)⟩
theorem r_c435_al {h : aH} (hS : Sh h) {n : Nat} (hn : n < 1200) : ali h 1 (435) (nI n) = some (h_iv h (435) n) := ali_ok (r_c435 hS).1 (r_c435 hS).2 hn (by omega)
theorem r_c435_as {h : aH} (hS : Sh h) {n : Nat} (x : Int32) (hn : n < 1200) : asi h (435) (nI n) x = some (h_si h (435) n x) := asi_ok (r_c435 hS).1 (r_c435 hS).2 hn (by omega)
theorem r_c435_ln {h : aH} (hS : Sh h) : aln h (435) = some (nI 1200) := aln_ok (r_c435 hS).1 (by decide) (by decide) (r_c435 hS).2
theorem r_c436m : (436, 1, 4) ∈ shL := List.mem_of_getElem? (i := 435) rfl
theorem r_c436 {h : aH} (hS : Sh h) : h_sh h (436) = 1 ∧ h_ln h (436) = 4 := ⟨(hS.2.1 _ r_c436m).1, (hS.2.1 _ r_c436m).2 (show (1 : Nat) < 10 by decide)⟩
theorem r_c436_al {h : aH} (hS : Sh h) {n : Nat} (hn : n < 4) : ali h 1 (436) (nI n) = some (h_iv h (436) n) := ali_ok (r_c436 hS).1 (r_c436 hS).2 hn (by omega)
theorem r_c436_as {h : aH} (hS : Sh h) {n : Nat} (x : Int32) (hn : n < 4) : asi h (436) (nI n) x = some (h_si h (436) n x) := asi_ok (r_c436 hS).1 (r_c436 hS).2 hn (by omega)
theorem r_c436_ln {h : aH} (hS : Sh h) : aln h (436) = some (nI 4) := aln_ok (r_c436 hS).1 (by decide) (by decide) (r_c436 hS).2
theorem r_c437m : (437, 4, 29) ∈ shL := List.mem_of_getElem? (i := 436) rfl
theorem r_c437 {h : aH} (hS : Sh h) : h_sh h (437) = 4 ∧ h_ln h (437) = 29 := ⟨(hS.2.1 _ r_c437m).1, (hS.2.1 _ r_c437m).2 (show (4 : Nat) < 10 by decide)⟩
theorem r_c437_al {h : aH} (hS : Sh h) {n : Nat} (hn : n < 29) : alL h (437) (nI n) = some (h_lv h (437) n) := alL_ok (r_c437 hS).1 (r_c437 hS).2 hn (by omega)
theorem r_c437_as {h : aH} (hS : Sh h) {n : Nat} (x : Int64) (hn : n < 29) : asL h (437) (nI n) x = some (h_sL h (437) n x) := asL_ok (r_c437 hS).1 (r_c437 hS).2 hn (by omega)
theorem r_c437_ln {h : aH} (hS : Sh h) : aln h (437) = some (nI 29) := aln_ok (r_c437 hS).1 (by decide) (by decide) (r_c437 hS).2
theorem r_c438m : (438, 1, 12) ∈ shL := List.mem_of_getElem? (i := 437) rfl
theorem r_c438 {h : aH} (hS : Sh h) : h_sh h (438) = 1 ∧ h_ln h (438) = 12 := ⟨(hS.2.1 _ r_c438m).1, (hS.2.1 _ r_c438m).2 (show (1 : Nat) < 10 by decide)⟩
theorem r_c438_al {h : aH} (hS : Sh h) {n : Nat} (hn : n < 12) : ali h 1 (438) (nI n) = some (h_iv h (438) n) := ali_ok (r_c438 hS).1 (r_c438 hS).2 hn (by omega)
theorem r_c438_as {h : aH} (hS : Sh h) {n : Nat} (x : Int32) (hn : n < 12) : asi h (438) (nI n) x = some (h_si h (438) n x) := asi_ok (r_c438 hS).1 (r_c438 hS).2 hn (by omega)
theorem r_c438_ln {h : aH} (hS : Sh h) : aln h (438) = some (nI 12) := aln_ok (r_c438 hS).1 (by decide) (by decide) (r_c438 hS).2
theorem r_c439m : (439, 1, 12) ∈ shL := List.mem_of_getElem? (i := 438) rfl
theorem r_c439 {h : aH} (hS : Sh h) : h_sh h (439) = 1 ∧ h_ln h (439) = 12 := ⟨(hS.2.1 _ r_c439m).1, (hS.2.1 _ r_c439m).2 (show (1 : Nat) < 10 by decide)⟩
theorem r_c439_al {h : aH} (hS : Sh h) {n : Nat} (hn : n < 12) : ali h 1 (439) (nI n) = some (h_iv h (439) n) := ali_ok (r_c439 hS).1 (r_c439 hS).2 hn (by omega)
theorem r_c439_as {h : aH} (hS : Sh h) {n : Nat} (x : Int32) (hn : n < 12) : asi h (439) (nI n) x = some (h_si h (439) n x) := asi_ok (r_c439 hS).1 (r_c439 hS).2 hn (by omega)
theorem r_c439_ln {h : aH} (hS : Sh h) : aln h (439) = some (nI 12) := aln_ok (r_c439 hS).1 (by decide) (by decide) (r_c439 hS).2
theorem r_c440m : (440, 1, 144) ∈ shL := List.mem_of_getElem? (i := 439) rfl
theorem r_c440 {h : aH} (hS : Sh h) : h_sh h (440) = 1 ∧ h_ln h (440) = 144 := ⟨(hS.2.1 _ r_c440m).1, (hS.2.1 _ r_c440m).2 (show (1 : Nat) < 10 by decide)⟩
theorem r_c440_al {h : aH} (hS : Sh h) {n : Nat} (hn : n < 144) : ali h 1 (440) (nI n) = some (h_iv h (440) n) := ali_ok (r_c440 hS).1 (r_c440 hS).2 hn (by omega)
theorem r_c440_as {h : aH} (hS : Sh h) {n : Nat} (x : Int32) (hn : n < 144) : asi h (440) (nI n) x = some (h_si h (440) n x) := asi_ok (r_c440 hS).1 (r_c440 hS).2 hn (by omega)
theorem r_c440_ln {h : aH} (hS : Sh h) : aln h (440) = some (nI 144) := aln_ok (r_c440 hS).1 (by decide) (by decide) (r_c440 hS).2
theorem r_c441m : (441, 3, 144) ∈ shL := List.mem_of_getElem? (i := 440) rfl
theorem r_c441 {h : aH} (hS : Sh h) : h_sh h (441) = 3 ∧ h_ln h (441) = 144 := ⟨(hS.2.1 _ r_c441m).1, (hS.2.1 _ r_c441m).2 (show (3 : Nat) < 10 by decide)⟩
theorem r_c441_al {h : aH} (hS : Sh h) {n : Nat} (hn : n < 144) : ali h 3 (441) (nI n) = some (h_iv h (441) n) := ali_ok (r_c441 hS).1 (r_c441 hS).2 hn (by omega)
theorem r_c441_as {h : aH} (hS : Sh h) {n : Nat} {x : Int32} (hn : n < 144) (hx : x = 0 ∨ x = 1) : asz h (441) (nI n) x = some (h_si h (441) n x) := asz_ok (r_c441 hS).1 (r_c441 hS).2 hn (by omega) hx
theorem r_c441_ln {h : aH} (hS : Sh h) : aln h (441) = some (nI 144) := aln_ok (r_c441 hS).1 (by decide) (by decide) (r_c441 hS).2
theorem r_c442m : (442, 1, 6) ∈ shL := List.mem_of_getElem? (i := 441) rfl
theorem r_c442 {h : aH} (hS : Sh h) : h_sh h (442) = 1 ∧ h_ln h (442) = 6 := ⟨(hS.2.1 _ r_c442m).1, (hS.2.1 _ r_c442m).2 (show (1 : Nat) < 10 by decide)⟩
theorem r_c442_al {h : aH} (hS : Sh h) {n : Nat} (hn : n < 6) : ali h 1 (442) (nI n) = some (h_iv h (442) n) := ali_ok (r_c442 hS).1 (r_c442 hS).2 hn (by omega)
theorem r_c442_as {h : aH} (hS : Sh h) {n : Nat} (x : Int32) (hn : n < 6) : asi h (442) (nI n) x = some (h_si h (442) n x) := asi_ok (r_c442 hS).1 (r_c442 hS).2 hn (by omega)
theorem r_c442_ln {h : aH} (hS : Sh h) : aln h (442) = some (nI 6) := aln_ok (r_c442 hS).1 (by decide) (by decide) (r_c442 hS).2
theorem r_c443m : (443, 1, 6) ∈ shL := List.mem_of_getElem? (i := 442) rfl
theorem r_c443 {h : aH} (hS : Sh h) : h_sh h (443) = 1 ∧ h_ln h (443) = 6 := ⟨(hS.2.1 _ r_c443m).1, (hS.2.1 _ r_c443m).2 (show (1 : Nat) < 10 by decide)⟩
theorem r_c443_al {h : aH} (hS : Sh h) {n : Nat} (hn : n < 6) : ali h 1 (443) (nI n) = some (h_iv h (443) n) := ali_ok (r_c443 hS).1 (r_c443 hS).2 hn (by omega)
theorem r_c443_as {h : aH} (hS : Sh h) {n : Nat} (x : Int32) (hn : n < 6) : asi h (443) (nI n) x = some (h_si h (443) n x) := asi_ok (r_c443 hS).1 (r_c443 hS).2 hn (by omega)
theorem r_c443_ln {h : aH} (hS : Sh h) : aln h (443) = some (nI 6) := aln_ok (r_c443 hS).1 (by decide) (by decide) (r_c443 hS).2
theorem r_c444m : (444, 1, 6) ∈ shL := List.mem_of_getElem? (i := 443) rfl
theorem r_c444 {h : aH} (hS : Sh h) : h_sh h (444) = 1 ∧ h_ln h (444) = 6 := ⟨(hS.2.1 _ r_c444m).1, (hS.2.1 _ r_c444m).2 (show (1 : Nat) < 10 by decide)⟩
theorem r_c444_al {h : aH} (hS : Sh h) {n : Nat} (hn : n < 6) : ali h 1 (444) (nI n) = some (h_iv h (444) n) := ali_ok (r_c444 hS).1 (r_c444 hS).2 hn (by omega)
theorem r_c444_as {h : aH} (hS : Sh h) {n : Nat} (x : Int32) (hn : n < 6) : asi h (444) (nI n) x = some (h_si h (444) n x) := asi_ok (r_c444 hS).1 (r_c444 hS).2 hn (by omega)
theorem r_c444_ln {h : aH} (hS : Sh h) : aln h (444) = some (nI 6) := aln_ok (r_c444 hS).1 (by decide) (by decide) (r_c444 hS).2
theorem r_c445m : (445, 1, 48) ∈ shL := List.mem_of_getElem? (i := 444) rfl
theorem r_c445 {h : aH} (hS : Sh h) : h_sh h (445) = 1 ∧ h_ln h (445) = 48 := ⟨(hS.2.1 _ r_c445m).1, (hS.2.1 _ r_c445m).2 (show (1 : Nat) < 10 by decide)⟩
theorem r_c445_al {h : aH} (hS : Sh h) {n : Nat} (hn : n < 48) : ali h 1 (445) (nI n) = some (h_iv h (445) n) := ali_ok (r_c445 hS).1 (r_c445 hS).2 hn (by omega)
theorem r_c445_as {h : aH} (hS : Sh h) {n : Nat} (x : Int32) (hn : n < 48) : asi h (445) (nI n) x = some (h_si h (445) n x) := asi_ok (r_c445 hS).1 (r_c445 hS).2 hn (by omega)
theorem r_c445_ln {h : aH} (hS : Sh h) : aln h (445) = some (nI 48) := aln_ok (r_c445 hS).1 (by decide) (by decide) (r_c445 hS).2
theorem r_c446m : (446, 1, 5) ∈ shL := List.mem_of_getElem? (i := 445) rfl
theorem r_c446 {h : aH} (hS : Sh h) : h_sh h (446) = 1 ∧ h_ln h (446) = 5 := ⟨(hS.2.1 _ r_c446m).1, (hS.2.1 _ r_c446m).2 (show (1 : Nat) < 10 by decide)⟩
theorem r_c446_al {h : aH} (hS : Sh h) {n : Nat} (hn : n < 5) : ali h 1 (446) (nI n) = some (h_iv h (446) n) := ali_ok (r_c446 hS).1 (r_c446 hS).2 hn (by omega)
theorem r_c446_as {h : aH} (hS : Sh h) {n : Nat} (x : Int32) (hn : n < 5) : asi h (446) (nI n) x = some (h_si h (446) n x) := asi_ok (r_c446 hS).1 (r_c446 hS).2 hn (by omega)
theorem r_c446_ln {h : aH} (hS : Sh h) : aln h (446) = some (nI 5) := aln_ok (r_c446 hS).1 (by decide) (by decide) (r_c446 hS).2
theorem r_c447m : (447, 1, 5) ∈ shL := List.mem_of_getElem? (i := 446) rfl
theorem r_c447 {h : aH} (hS : Sh h) : h_sh h (447) = 1 ∧ h_ln h (447) = 5 := ⟨(hS.2.1 _ r_c447m).1, (hS.2.1 _ r_c447m).2 (show (1 : Nat) < 10 by decide)⟩
theorem r_c447_al {h : aH} (hS : Sh h) {n : Nat} (hn : n < 5) : ali h 1 (447) (nI n) = some (h_iv h (447) n) := ali_ok (r_c447 hS).1 (r_c447 hS).2 hn (by omega)
theorem r_c447_as {h : aH} (hS : Sh h) {n : Nat} (x : Int32) (hn : n < 5) : asi h (447) (nI n) x = some (h_si h (447) n x) := asi_ok (r_c447 hS).1 (r_c447 hS).2 hn (by omega)
theorem r_c447_ln {h : aH} (hS : Sh h) : aln h (447) = some (nI 5) := aln_ok (r_c447 hS).1 (by decide) (by decide) (r_c447 hS).2
theorem r_c448m : (448, 1, 30) ∈ shL := List.mem_of_getElem? (i := 447) rfl
theorem r_c448 {h : aH} (hS : Sh h) : h_sh h (448) = 1 ∧ h_ln h (448) = 30 := ⟨(hS.2.1 _ r_c448m).1, (hS.2.1 _ r_c448m).2 (show (1 : Nat) < 10 by decide)⟩
theorem r_c448_al {h : aH} (hS : Sh h) {n : Nat} (hn : n < 30) : ali h 1 (448) (nI n) = some (h_iv h (448) n) := ali_ok (r_c448 hS).1 (r_c448 hS).2 hn (by omega)
theorem r_c448_as {h : aH} (hS : Sh h) {n : Nat} (x : Int32) (hn : n < 30) : asi h (448) (nI n) x = some (h_si h (448) n x) := asi_ok (r_c448 hS).1 (r_c448 hS).2 hn (by omega)
theorem r_c448_ln {h : aH} (hS : Sh h) : aln h (448) = some (nI 30) := aln_ok (r_c448 hS).1 (by decide) (by decide) (r_c448 hS).2
theorem r_c449m : (449, 1, 6) ∈ shL := List.mem_of_getElem? (i := 448) rfl
theorem r_c449 {h : aH} (hS : Sh h) : h_sh h (449) = 1 ∧ h_ln h (449) = 6 := ⟨(hS.2.1 _ r_c449m).1, (hS.2.1 _ r_c449m).2 (show (1 : Nat) < 10 by decide)⟩
theorem r_c449_al {h : aH} (hS : Sh h) {n : Nat} (hn : n < 6) : ali h 1 (449) (nI n) = some (h_iv h (449) n) := ali_ok (r_c449 hS).1 (r_c449 hS).2 hn (by omega)
theorem r_c449_as {h : aH} (hS : Sh h) {n : Nat} (x : Int32) (hn : n < 6) : asi h (449) (nI n) x = some (h_si h (449) n x) := asi_ok (r_c449 hS).1 (r_c449 hS).2 hn (by omega)
theorem r_c449_ln {h : aH} (hS : Sh h) : aln h (449) = some (nI 6) := aln_ok (r_c449 hS).1 (by decide) (by decide) (r_c449 hS).2
theorem r_c450m : (450, 1, 6) ∈ shL := List.mem_of_getElem? (i := 449) rfl
theorem r_c450 {h : aH} (hS : Sh h) : h_sh h (450) = 1 ∧ h_ln h (450) = 6 := ⟨(hS.2.1 _ r_c450m).1, (hS.2.1 _ r_c450m).2 (show (1 : Nat) < 10 by decide)⟩
theorem r_c450_al {h : aH} (hS : Sh h) {n : Nat} (hn : n < 6) : ali h 1 (450) (nI n) = some (h_iv h (450) n) := ali_ok (r_c450 hS).1 (r_c450 hS).2 hn (by omega)
theorem r_c450_as {h : aH} (hS : Sh h) {n : Nat} (x : Int32) (hn : n < 6) : asi h (450) (nI n) x = some (h_si h (450) n x) := asi_ok (r_c450 hS).1 (r_c450 hS).2 hn (by omega)
theorem r_c450_ln {h : aH} (hS : Sh h) : aln h (450) = some (nI 6) := aln_ok (r_c450 hS).1 (by decide) (by decide) (r_c450 hS).2
theorem r_c451m : (451, 1, 6) ∈ shL := List.mem_of_getElem? (i := 450) rfl
theorem r_c451 {h : aH} (hS : Sh h) : h_sh h (451) = 1 ∧ h_ln h (451) = 6 := ⟨(hS.2.1 _ r_c451m).1, (hS.2.1 _ r_c451m).2 (show (1 : Nat) < 10 by decide)⟩
theorem r_c451_al {h : aH} (hS : Sh h) {n : Nat} (hn : n < 6) : ali h 1 (451) (nI n) = some (h_iv h (451) n) := ali_ok (r_c451 hS).1 (r_c451 hS).2 hn (by omega)
theorem r_c451_as {h : aH} (hS : Sh h) {n : Nat} (x : Int32) (hn : n < 6) : asi h (451) (nI n) x = some (h_si h (451) n x) := asi_ok (r_c451 hS).1 (r_c451 hS).2 hn (by omega)
theorem r_c451_ln {h : aH} (hS : Sh h) : aln h (451) = some (nI 6) := aln_ok (r_c451 hS).1 (by decide) (by decide) (r_c451 hS).2
theorem r_c452m : (452, 1, 6) ∈ shL := List.mem_of_getElem? (i := 451) rfl
theorem r_c452 {h : aH} (hS : Sh h) : h_sh h (452) = 1 ∧ h_ln h (452) = 6 := ⟨(hS.2.1 _ r_c452m).1, (hS.2.1 _ r_c452m).2 (show (1 : Nat) < 10 by decide)⟩
theorem r_c452_al {h : aH} (hS : Sh h) {n : Nat} (hn : n < 6) : ali h 1 (452) (nI n) = some (h_iv h (452) n) := ali_ok (r_c452 hS).1 (r_c452 hS).2 hn (by omega)
theorem r_c452_as {h : aH} (hS : Sh h) {n : Nat} (x : Int32) (hn : n < 6) : asi h (452) (nI n) x = some (h_si h (452) n x) := asi_ok (r_c452 hS).1 (r_c452 hS).2 hn (by omega)
theorem r_c452_ln {h : aH} (hS : Sh h) : aln h (452) = some (nI 6) := aln_ok (r_c452 hS).1 (by decide) (by decide) (r_c452 hS).2
theorem r_c453m : (453, 1, 36) ∈ shL := List.mem_of_getElem? (i := 452) rfl
theorem r_c453 {h : aH} (hS : Sh h) : h_sh h (453) = 1 ∧ h_ln h (453) = 36 := ⟨(hS.2.1 _ r_c453m).1, (hS.2.1 _ r_c453m).2 (show (1 : Nat) < 10 by decide)⟩
theorem r_c453_al {h : aH} (hS : Sh h) {n : Nat} (hn : n < 36) : ali h 1 (453) (nI n) = some (h_iv h (453) n) := ali_ok (r_c453 hS).1 (r_c453 hS).2 hn (by omega)
theorem r_c453_as {h : aH} (hS : Sh h) {n : Nat} (x : Int32) (hn : n < 36) : asi h (453) (nI n) x = some (h_si h (453) n x) := asi_ok (r_c453 hS).1 (r_c453 hS).2 hn (by omega)
theorem r_c453_ln {h : aH} (hS : Sh h) : aln h (453) = some (nI 36) := aln_ok (r_c453 hS).1 (by decide) (by decide) (r_c453 hS).2
theorem r_c454m : (454, 1, 6) ∈ shL := List.mem_of_getElem? (i := 453) rfl
theorem r_c454 {h : aH} (hS : Sh h) : h_sh h (454) = 1 ∧ h_ln h (454) = 6 := ⟨(hS.2.1 _ r_c454m).1, (hS.2.1 _ r_c454m).2 (show (1 : Nat) < 10 by decide)⟩
theorem r_c454_al {h : aH} (hS : Sh h) {n : Nat} (hn : n < 6) : ali h 1 (454) (nI n) = some (h_iv h (454) n) := ali_ok (r_c454 hS).1 (r_c454 hS).2 hn (by omega)
theorem r_c454_as {h : aH} (hS : Sh h) {n : Nat} (x : Int32) (hn : n < 6) : asi h (454) (nI n) x = some (h_si h (454) n x) := asi_ok (r_c454 hS).1 (r_c454 hS).2 hn (by omega)
theorem r_c454_ln {h : aH} (hS : Sh h) : aln h (454) = some (nI 6) := aln_ok (r_c454 hS).1 (by decide) (by decide) (r_c454 hS).2
theorem r_c455m : (455, 1, 30) ∈ shL := List.mem_of_getElem? (i := 454) rfl
theorem r_c455 {h : aH} (hS : Sh h) : h_sh h (455) = 1 ∧ h_ln h (455) = 30 := ⟨(hS.2.1 _ r_c455m).1, (hS.2.1 _ r_c455m).2 (show (1 : Nat) < 10 by decide)⟩
theorem r_c455_al {h : aH} (hS : Sh h) {n : Nat} (hn : n < 30) : ali h 1 (455) (nI n) = some (h_iv h (455) n) := ali_ok (r_c455 hS).1 (r_c455 hS).2 hn (by omega)
theorem r_c455_as {h : aH} (hS : Sh h) {n : Nat} (x : Int32) (hn : n < 30) : asi h (455) (nI n) x = some (h_si h (455) n x) := asi_ok (r_c455 hS).1 (r_c455 hS).2 hn (by omega)
theorem r_c455_ln {h : aH} (hS : Sh h) : aln h (455) = some (nI 30) := aln_ok (r_c455 hS).1 (by decide) (by decide) (r_c455 hS).2
theorem r_c456m : (456, 1, 5) ∈ shL := List.mem_of_getElem? (i := 455) rfl
theorem r_c456 {h : aH} (hS : Sh h) : h_sh h (456) = 1 ∧ h_ln h (456) = 5 := ⟨(hS.2.1 _ r_c456m).1, (hS.2.1 _ r_c456m).2 (show (1 : Nat) < 10 by decide)⟩
theorem r_c456_al {h : aH} (hS : Sh h) {n : Nat} (hn : n < 5) : ali h 1 (456) (nI n) = some (h_iv h (456) n) := ali_ok (r_c456 hS).1 (r_c456 hS).2 hn (by omega)
theorem r_c456_as {h : aH} (hS : Sh h) {n : Nat} (x : Int32) (hn : n < 5) : asi h (456) (nI n) x = some (h_si h (456) n x) := asi_ok (r_c456 hS).1 (r_c456 hS).2 hn (by omega)
theorem r_c456_ln {h : aH} (hS : Sh h) : aln h (456) = some (nI 5) := aln_ok (r_c456 hS).1 (by decide) (by decide) (r_c456 hS).2
theorem r_c457m : (457, 1, 5) ∈ shL := List.mem_of_getElem? (i := 456) rfl
theorem r_c457 {h : aH} (hS : Sh h) : h_sh h (457) = 1 ∧ h_ln h (457) = 5 := ⟨(hS.2.1 _ r_c457m).1, (hS.2.1 _ r_c457m).2 (show (1 : Nat) < 10 by decide)⟩
theorem r_c457_al {h : aH} (hS : Sh h) {n : Nat} (hn : n < 5) : ali h 1 (457) (nI n) = some (h_iv h (457) n) := ali_ok (r_c457 hS).1 (r_c457 hS).2 hn (by omega)
theorem r_c457_as {h : aH} (hS : Sh h) {n : Nat} (x : Int32) (hn : n < 5) : asi h (457) (nI n) x = some (h_si h (457) n x) := asi_ok (r_c457 hS).1 (r_c457 hS).2 hn (by omega)
theorem r_c457_ln {h : aH} (hS : Sh h) : aln h (457) = some (nI 5) := aln_ok (r_c457 hS).1 (by decide) (by decide) (r_c457 hS).2
theorem r_c458m : (458, 1, 5) ∈ shL := List.mem_of_getElem? (i := 457) rfl
theorem r_c458 {h : aH} (hS : Sh h) : h_sh h (458) = 1 ∧ h_ln h (458) = 5 := ⟨(hS.2.1 _ r_c458m).1, (hS.2.1 _ r_c458m).2 (show (1 : Nat) < 10 by decide)⟩
theorem r_c458_al {h : aH} (hS : Sh h) {n : Nat} (hn : n < 5) : ali h 1 (458) (nI n) = some (h_iv h (458) n) := ali_ok (r_c458 hS).1 (r_c458 hS).2 hn (by omega)
theorem r_c458_as {h : aH} (hS : Sh h) {n : Nat} (x : Int32) (hn : n < 5) : asi h (458) (nI n) x = some (h_si h (458) n x) := asi_ok (r_c458 hS).1 (r_c458 hS).2 hn (by omega)
theorem r_c458_ln {h : aH} (hS : Sh h) : aln h (458) = some (nI 5) := aln_ok (r_c458 hS).1 (by decide) (by decide) (r_c458 hS).2
theorem r_c459m : (459, 1, 5) ∈ shL := List.mem_of_getElem? (i := 458) rfl
theorem r_c459 {h : aH} (hS : Sh h) : h_sh h (459) = 1 ∧ h_ln h (459) = 5 := ⟨(hS.2.1 _ r_c459m).1, (hS.2.1 _ r_c459m).2 (show (1 : Nat) < 10 by decide)⟩
theorem r_c459_al {h : aH} (hS : Sh h) {n : Nat} (hn : n < 5) : ali h 1 (459) (nI n) = some (h_iv h (459) n) := ali_ok (r_c459 hS).1 (r_c459 hS).2 hn (by omega)
theorem r_c459_as {h : aH} (hS : Sh h) {n : Nat} (x : Int32) (hn : n < 5) : asi h (459) (nI n) x = some (h_si h (459) n x) := asi_ok (r_c459 hS).1 (r_c459 hS).2 hn (by omega)
theorem r_c459_ln {h : aH} (hS : Sh h) : aln h (459) = some (nI 5) := aln_ok (r_c459 hS).1 (by decide) (by decide) (r_c459 hS).2
theorem r_c460m : (460, 3, 4096) ∈ shL := List.mem_of_getElem? (i := 459) rfl
theorem r_c460 {h : aH} (hS : Sh h) : h_sh h (460) = 3 ∧ h_ln h (460) = 4096 := ⟨(hS.2.1 _ r_c460m).1, (hS.2.1 _ r_c460m).2 (show (3 : Nat) < 10 by decide)⟩
theorem r_c460_al {h : aH} (hS : Sh h) {n : Nat} (hn : n < 4096) : ali h 3 (460) (nI n) = some (h_iv h (460) n) := ali_ok (r_c460 hS).1 (r_c460 hS).2 hn (by omega)
theorem r_c460_as {h : aH} (hS : Sh h) {n : Nat} {x : Int32} (hn : n < 4096) (hx : x = 0 ∨ x = 1) : asz h (460) (nI n) x = some (h_si h (460) n x) := asz_ok (r_c460 hS).1 (r_c460 hS).2 hn (by omega) hx
theorem r_c460_ln {h : aH} (hS : Sh h) : aln h (460) = some (nI 4096) := aln_ok (r_c460 hS).1 (by decide) (by decide) (r_c460 hS).2
theorem r_c461m : (461, 3, 4096) ∈ shL := List.mem_of_getElem? (i := 460) rfl
theorem r_c461 {h : aH} (hS : Sh h) : h_sh h (461) = 3 ∧ h_ln h (461) = 4096 := ⟨(hS.2.1 _ r_c461m).1, (hS.2.1 _ r_c461m).2 (show (3 : Nat) < 10 by decide)⟩
theorem r_c461_al {h : aH} (hS : Sh h) {n : Nat} (hn : n < 4096) : ali h 3 (461) (nI n) = some (h_iv h (461) n) := ali_ok (r_c461 hS).1 (r_c461 hS).2 hn (by omega)
theorem r_c461_as {h : aH} (hS : Sh h) {n : Nat} {x : Int32} (hn : n < 4096) (hx : x = 0 ∨ x = 1) : asz h (461) (nI n) x = some (h_si h (461) n x) := asz_ok (r_c461 hS).1 (r_c461 hS).2 hn (by omega) hx
theorem r_c461_ln {h : aH} (hS : Sh h) : aln h (461) = some (nI 4096) := aln_ok (r_c461 hS).1 (by decide) (by decide) (r_c461 hS).2
theorem r_p413m : (412, 1, 413) ∈ ptL := List.mem_of_getElem? (i := 399) rfl
theorem r_p413 {h : aH} (hS : Sh h) : gr h 12 (412) 1 = some (413) := gr_ok9 (r_cM hS) (hS.2.2 _ r_p413m) (by decide)
theorem r_p414m : (412, 2, 414) ∈ ptL := List.mem_of_getElem? (i := 400) rfl
theorem r_p414 {h : aH} (hS : Sh h) : gr h 12 (412) 2 = some (414) := gr_ok9 (r_cM hS) (hS.2.2 _ r_p414m) (by decide)
theorem r_p415m : (412, 3, 415) ∈ ptL := List.mem_of_getElem? (i := 401) rfl
theorem r_p415 {h : aH} (hS : Sh h) : gr h 12 (412) 3 = some (415) := gr_ok9 (r_cM hS) (hS.2.2 _ r_p415m) (by decide)
theorem r_p416m : (412, 4, 416) ∈ ptL := List.mem_of_getElem? (i := 402) rfl
theorem r_p416 {h : aH} (hS : Sh h) : gr h 12 (412) 4 = some (416) := gr_ok9 (r_cM hS) (hS.2.2 _ r_p416m) (by decide)
theorem r_p417m : (412, 5, 417) ∈ ptL := List.mem_of_getElem? (i := 403) rfl
theorem r_p417 {h : aH} (hS : Sh h) : gr h 12 (412) 5 = some (417) := gr_ok9 (r_cM hS) (hS.2.2 _ r_p417m) (by decide)
theorem r_p418m : (412, 7, 418) ∈ ptL := List.mem_of_getElem? (i := 404) rfl
theorem r_p418 {h : aH} (hS : Sh h) : gr h 12 (412) 7 = some (418) := gr_ok9 (r_cM hS) (hS.2.2 _ r_p418m) (by decide)
theorem r_p419m : (412, 12, 419) ∈ ptL := List.mem_of_getElem? (i := 405) rfl
theorem r_p419 {h : aH} (hS : Sh h) : gr h 12 (412) 12 = some (419) := gr_ok9 (r_cM hS) (hS.2.2 _ r_p419m) (by decide)
theorem r_p420m : (412, 13, 420) ∈ ptL := List.mem_of_getElem? (i := 406) rfl
theorem r_p420 {h : aH} (hS : Sh h) : gr h 12 (412) 13 = some (420) := gr_ok9 (r_cM hS) (hS.2.2 _ r_p420m) (by decide)
theorem r_p421m : (412, 14, 421) ∈ ptL := List.mem_of_getElem? (i := 407) rfl
theorem r_p421 {h : aH} (hS : Sh h) : gr h 12 (412) 14 = some (421) := gr_ok9 (r_cM hS) (hS.2.2 _ r_p421m) (by decide)
theorem r_p422m : (412, 15, 422) ∈ ptL := List.mem_of_getElem? (i := 408) rfl
theorem r_p422 {h : aH} (hS : Sh h) : gr h 12 (412) 15 = some (422) := gr_ok9 (r_cM hS) (hS.2.2 _ r_p422m) (by decide)
theorem r_p423m : (412, 16, 423) ∈ ptL := List.mem_of_getElem? (i := 409) rfl
theorem r_p423 {h : aH} (hS : Sh h) : gr h 12 (412) 16 = some (423) := gr_ok9 (r_cM hS) (hS.2.2 _ r_p423m) (by decide)
theorem r_p424m : (412, 17, 424) ∈ ptL := List.mem_of_getElem? (i := 410) rfl
theorem r_p424 {h : aH} (hS : Sh h) : gr h 12 (412) 17 = some (424) := gr_ok9 (r_cM hS) (hS.2.2 _ r_p424m) (by decide)
theorem r_p425m : (412, 18, 425) ∈ ptL := List.mem_of_getElem? (i := 411) rfl
theorem r_p425 {h : aH} (hS : Sh h) : gr h 12 (412) 18 = some (425) := gr_ok9 (r_cM hS) (hS.2.2 _ r_p425m) (by decide)
theorem r_p426m : (412, 19, 426) ∈ ptL := List.mem_of_getElem? (i := 412) rfl
theorem r_p426 {h : aH} (hS : Sh h) : gr h 12 (412) 19 = some (426) := gr_ok9 (r_cM hS) (hS.2.2 _ r_p426m) (by decide)
theorem r_p427m : (412, 20, 427) ∈ ptL := List.mem_of_getElem? (i := 413) rfl
theorem r_p427 {h : aH} (hS : Sh h) : gr h 12 (412) 20 = some (427) := gr_ok9 (r_cM hS) (hS.2.2 _ r_p427m) (by decide)
theorem r_p428m : (412, 21, 428) ∈ ptL := List.mem_of_getElem? (i := 414) rfl
theorem r_p428 {h : aH} (hS : Sh h) : gr h 12 (412) 21 = some (428) := gr_ok9 (r_cM hS) (hS.2.2 _ r_p428m) (by decide)
theorem r_p429m : (412, 22, 429) ∈ ptL := List.mem_of_getElem? (i := 415) rfl
theorem r_p429 {h : aH} (hS : Sh h) : gr h 12 (412) 22 = some (429) := gr_ok9 (r_cM hS) (hS.2.2 _ r_p429m) (by decide)
theorem r_p430m : (412, 23, 430) ∈ ptL := List.mem_of_getElem? (i := 416) rfl
theorem r_p430 {h : aH} (hS : Sh h) : gr h 12 (412) 23 = some (430) := gr_ok9 (r_cM hS) (hS.2.2 _ r_p430m) (by decide)
theorem r_p431m : (412, 24, 431) ∈ ptL := List.mem_of_getElem? (i := 417) rfl
theorem r_p431 {h : aH} (hS : Sh h) : gr h 12 (412) 24 = some (431) := gr_ok9 (r_cM hS) (hS.2.2 _ r_p431m) (by decide)
theorem r_p432m : (412, 25, 432) ∈ ptL := List.mem_of_getElem? (i := 418) rfl
theorem r_p432 {h : aH} (hS : Sh h) : gr h 12 (412) 25 = some (432) := gr_ok9 (r_cM hS) (hS.2.2 _ r_p432m) (by decide)
theorem r_p433m : (412, 26, 433) ∈ ptL := List.mem_of_getElem? (i := 419) rfl
theorem r_p433 {h : aH} (hS : Sh h) : gr h 12 (412) 26 = some (433) := gr_ok9 (r_cM hS) (hS.2.2 _ r_p433m) (by decide)
theorem r_p434m : (412, 27, 434) ∈ ptL := List.mem_of_getElem? (i := 420) rfl
theorem r_p434 {h : aH} (hS : Sh h) : gr h 12 (412) 27 = some (434) := gr_ok9 (r_cM hS) (hS.2.2 _ r_p434m) (by decide)
theorem r_p435m : (412, 28, 435) ∈ ptL := List.mem_of_getElem? (i := 421) rfl
theorem r_p435 {h : aH} (hS : Sh h) : gr h 12 (412) 28 = some (435) := gr_ok9 (r_cM hS) (hS.2.2 _ r_p435m) (by decide)
theorem r_p436m : (412, 38, 436) ∈ ptL := List.mem_of_getElem? (i := 422) rfl
theorem r_p436 {h : aH} (hS : Sh h) : gr h 12 (412) 38 = some (436) := gr_ok9 (r_cM hS) (hS.2.2 _ r_p436m) (by decide)
theorem r_p437m : (412, 44, 437) ∈ ptL := List.mem_of_getElem? (i := 423) rfl
theorem r_p437 {h : aH} (hS : Sh h) : gr h 12 (412) 44 = some (437) := gr_ok9 (r_cM hS) (hS.2.2 _ r_p437m) (by decide)
theorem r_p438m : (412, 45, 438) ∈ ptL := List.mem_of_getElem? (i := 424) rfl
theorem r_p438 {h : aH} (hS : Sh h) : gr h 12 (412) 45 = some (438) := gr_ok9 (r_cM hS) (hS.2.2 _ r_p438m) (by decide)
theorem r_p439m : (412, 46, 439) ∈ ptL := List.mem_of_getElem? (i := 425) rfl
theorem r_p439 {h : aH} (hS : Sh h) : gr h 12 (412) 46 = some (439) := gr_ok9 (r_cM hS) (hS.2.2 _ r_p439m) (by decide)
theorem r_p440m : (412, 47, 440) ∈ ptL := List.mem_of_getElem? (i := 426) rfl
theorem r_p440 {h : aH} (hS : Sh h) : gr h 12 (412) 47 = some (440) := gr_ok9 (r_cM hS) (hS.2.2 _ r_p440m) (by decide)
theorem r_p441m : (412, 48, 441) ∈ ptL := List.mem_of_getElem? (i := 427) rfl
theorem r_p441 {h : aH} (hS : Sh h) : gr h 12 (412) 48 = some (441) := gr_ok9 (r_cM hS) (hS.2.2 _ r_p441m) (by decide)
theorem r_p442m : (412, 49, 442) ∈ ptL := List.mem_of_getElem? (i := 428) rfl
theorem r_p442 {h : aH} (hS : Sh h) : gr h 12 (412) 49 = some (442) := gr_ok9 (r_cM hS) (hS.2.2 _ r_p442m) (by decide)
theorem r_p443m : (412, 50, 443) ∈ ptL := List.mem_of_getElem? (i := 429) rfl
theorem r_p443 {h : aH} (hS : Sh h) : gr h 12 (412) 50 = some (443) := gr_ok9 (r_cM hS) (hS.2.2 _ r_p443m) (by decide)
theorem r_p444m : (412, 51, 444) ∈ ptL := List.mem_of_getElem? (i := 430) rfl
theorem r_p444 {h : aH} (hS : Sh h) : gr h 12 (412) 51 = some (444) := gr_ok9 (r_cM hS) (hS.2.2 _ r_p444m) (by decide)
theorem r_p445m : (412, 52, 445) ∈ ptL := List.mem_of_getElem? (i := 431) rfl
theorem r_p445 {h : aH} (hS : Sh h) : gr h 12 (412) 52 = some (445) := gr_ok9 (r_cM hS) (hS.2.2 _ r_p445m) (by decide)
theorem r_p446m : (412, 53, 446) ∈ ptL := List.mem_of_getElem? (i := 432) rfl
theorem r_p446 {h : aH} (hS : Sh h) : gr h 12 (412) 53 = some (446) := gr_ok9 (r_cM hS) (hS.2.2 _ r_p446m) (by decide)
theorem r_p447m : (412, 54, 447) ∈ ptL := List.mem_of_getElem? (i := 433) rfl
theorem r_p447 {h : aH} (hS : Sh h) : gr h 12 (412) 54 = some (447) := gr_ok9 (r_cM hS) (hS.2.2 _ r_p447m) (by decide)
theorem r_p448m : (412, 55, 448) ∈ ptL := List.mem_of_getElem? (i := 434) rfl
theorem r_p448 {h : aH} (hS : Sh h) : gr h 12 (412) 55 = some (448) := gr_ok9 (r_cM hS) (hS.2.2 _ r_p448m) (by decide)
theorem r_p449m : (412, 56, 449) ∈ ptL := List.mem_of_getElem? (i := 435) rfl
theorem r_p449 {h : aH} (hS : Sh h) : gr h 12 (412) 56 = some (449) := gr_ok9 (r_cM hS) (hS.2.2 _ r_p449m) (by decide)
theorem r_p450m : (412, 57, 450) ∈ ptL := List.mem_of_getElem? (i := 436) rfl
theorem r_p450 {h : aH} (hS : Sh h) : gr h 12 (412) 57 = some (450) := gr_ok9 (r_cM hS) (hS.2.2 _ r_p450m) (by decide)
theorem r_p451m : (412, 58, 451) ∈ ptL := List.mem_of_getElem? (i := 437) rfl
theorem r_p451 {h : aH} (hS : Sh h) : gr h 12 (412) 58 = some (451) := gr_ok9 (r_cM hS) (hS.2.2 _ r_p451m) (by decide)
theorem r_p452m : (412, 59, 452) ∈ ptL := List.mem_of_getElem? (i := 438) rfl
theorem r_p452 {h : aH} (hS : Sh h) : gr h 12 (412) 59 = some (452) := gr_ok9 (r_cM hS) (hS.2.2 _ r_p452m) (by decide)
theorem r_p453m : (412, 60, 453) ∈ ptL := List.mem_of_getElem? (i := 439) rfl
theorem r_p453 {h : aH} (hS : Sh h) : gr h 12 (412) 60 = some (453) := gr_ok9 (r_cM hS) (hS.2.2 _ r_p453m) (by decide)
theorem r_p454m : (412, 61, 454) ∈ ptL := List.mem_of_getElem? (i := 440) rfl
theorem r_p454 {h : aH} (hS : Sh h) : gr h 12 (412) 61 = some (454) := gr_ok9 (r_cM hS) (hS.2.2 _ r_p454m) (by decide)
theorem r_p455m : (412, 62, 455) ∈ ptL := List.mem_of_getElem? (i := 441) rfl
theorem r_p455 {h : aH} (hS : Sh h) : gr h 12 (412) 62 = some (455) := gr_ok9 (r_cM hS) (hS.2.2 _ r_p455m) (by decide)
theorem r_p456m : (412, 64, 456) ∈ ptL := List.mem_of_getElem? (i := 442) rfl
theorem r_p456 {h : aH} (hS : Sh h) : gr h 12 (412) 64 = some (456) := gr_ok9 (r_cM hS) (hS.2.2 _ r_p456m) (by decide)
theorem r_p457m : (412, 65, 457) ∈ ptL := List.mem_of_getElem? (i := 443) rfl
theorem r_p457 {h : aH} (hS : Sh h) : gr h 12 (412) 65 = some (457) := gr_ok9 (r_cM hS) (hS.2.2 _ r_p457m) (by decide)
theorem r_p458m : (412, 66, 458) ∈ ptL := List.mem_of_getElem? (i := 444) rfl
theorem r_p458 {h : aH} (hS : Sh h) : gr h 12 (412) 66 = some (458) := gr_ok9 (r_cM hS) (hS.2.2 _ r_p458m) (by decide)
theorem r_p459m : (412, 67, 459) ∈ ptL := List.mem_of_getElem? (i := 445) rfl
theorem r_p459 {h : aH} (hS : Sh h) : gr h 12 (412) 67 = some (459) := gr_ok9 (r_cM hS) (hS.2.2 _ r_p459m) (by decide)
theorem r_p460m : (412, 69, 460) ∈ ptL := List.mem_of_getElem? (i := 446) rfl
theorem r_p460 {h : aH} (hS : Sh h) : gr h 12 (412) 69 = some (460) := gr_ok9 (r_cM hS) (hS.2.2 _ r_p460m) (by decide)
theorem r_p461m : (412, 70, 461) ∈ ptL := List.mem_of_getElem? (i := 447) rfl
theorem r_p461 {h : aH} (hS : Sh h) : gr h 12 (412) 70 = some (461) := gr_ok9 (r_cM hS) (hS.2.2 _ r_p461m) (by decide)
theorem c_cXm : (1, 21, 0) ∈ shL := List.mem_of_getElem? (i := 0) rfl
theorem c_cX {h : aH} (hS : Sh h) : h_sh h (1) = 10 + 11 := (hS.2.1 _ c_cXm).1
theorem c_cX_gi {h : aH} (hS : Sh h) (k : Nat) : gi h 11 (1) k = some (h_iv h (1) k) := gi_ok (c_cX hS)
theorem c_cX_gL {h : aH} (hS : Sh h) (k : Nat) : gL h 11 (1) k = some (h_lv h (1) k) := gL_ok (c_cX hS)
theorem c_cX_pi {h : aH} (hS : Sh h) (k : Nat) (x : Int32) : pi h 11 (1) k x = some (h_si h (1) k x) := pi_ok (c_cX hS)
theorem c_cX_pL {h : aH} (hS : Sh h) (k : Nat) (x : Int64) : pL h 11 (1) k x = some (h_sL h (1) k x) := pL_ok (c_cX hS)
theorem c_cX_gS {h : aH} (hS : Sh h) {γ : Type} (z : Option γ) : gS h 11 (1) z = z := gS_ok (c_cX hS)
theorem c_ctxtm : (2, 2, 1200) ∈ shL := List.mem_of_getElem? (i := 1) rfl
theorem c_ctxt {h : aH} (hS : Sh h) : h_sh h (2) = 2 ∧ h_ln h (2) = 1200 := ⟨(hS.2.1 _ c_ctxtm).1, (hS.2.1 _ c_ctxtm).2 (show (2 : Nat) < 10 by decide)⟩
theorem c_ctxt_al {h : aH} (hS : Sh h) {n : Nat} (hn : n < 1200) : ali h 2 (2) (nI n) = some (h_iv h (2) n) := ali_ok (c_ctxt hS).1 (c_ctxt hS).2 hn (by omega)
theorem c_ctxt_as {h : aH} (hS : Sh h) {n : Nat} (x : Int32) (hn : n < 1200) : asb h (2) (nI n) x = some (h_si h (2) n x.toInt8.toInt32) := asb_ok (c_ctxt hS).1 (c_ctxt hS).2 hn (by omega)
theorem c_ctxt_ln {h : aH} (hS : Sh h) : aln h (2) = some (nI 1200) := aln_ok (c_ctxt hS).1 (by decide) (by decide) (c_ctxt hS).2
theorem c_cRm : (3, 19, 0) ∈ shL := List.mem_of_getElem? (i := 2) rfl
theorem c_cR {h : aH} (hS : Sh h) : h_sh h (3) = 10 + 9 := (hS.2.1 _ c_cRm).1
theorem c_cR_gi {h : aH} (hS : Sh h) (k : Nat) : gi h 9 (3) k = some (h_iv h (3) k) := gi_ok (c_cR hS)
theorem c_cR_gL {h : aH} (hS : Sh h) (k : Nat) : gL h 9 (3) k = some (h_lv h (3) k) := gL_ok (c_cR hS)
theorem c_cR_pi {h : aH} (hS : Sh h) (k : Nat) (x : Int32) : pi h 9 (3) k x = some (h_si h (3) k x) := pi_ok (c_cR hS)
theorem c_cR_pL {h : aH} (hS : Sh h) (k : Nat) (x : Int64) : pL h 9 (3) k x = some (h_sL h (3) k x) := pL_ok (c_cR hS)
theorem c_cR_gS {h : aH} (hS : Sh h) {γ : Type} (z : Option γ) : gS h 9 (3) z = z := gS_ok (c_cR hS)
theorem c_cUm : (172, 14, 0) ∈ shL := List.mem_of_getElem? (i := 171) rfl
theorem c_cU {h : aH} (hS : Sh h) : h_sh h (172) = 10 + 4 := (hS.2.1 _ c_cUm).1
theorem c_cU_gi {h : aH} (hS : Sh h) (k : Nat) : gi h 4 (172) k = some (h_iv h (172) k) := gi_ok (c_cU hS)
theorem c_cU_gL {h : aH} (hS : Sh h) (k : Nat) : gL h 4 (172) k = some (h_lv h (172) k) := gL_ok (c_cU hS)
theorem c_cU_pi {h : aH} (hS : Sh h) (k : Nat) (x : Int32) : pi h 4 (172) k x = some (h_si h (172) k x) := pi_ok (c_cU hS)
theorem c_cU_pL {h : aH} (hS : Sh h) (k : Nat) (x : Int64) : pL h 4 (172) k x = some (h_sL h (172) k x) := pL_ok (c_cU hS)
theorem c_cU_gS {h : aH} (hS : Sh h) {γ : Type} (z : Option γ) : gS h 4 (172) z = z := gS_ok (c_cU hS)
theorem c_cu0m : (173, 1, 12) ∈ shL := List.mem_of_getElem? (i := 172) rfl
theorem c_cu0 {h : aH} (hS : Sh h) : h_sh h (173) = 1 ∧ h_ln h (173) = 12 := ⟨(hS.2.1 _ c_cu0m).1, (hS.2.1 _ c_cu0m).2 (show (1 : Nat) < 10 by decide)⟩
theorem c_cu0_al {h : aH} (hS : Sh h) {n : Nat} (hn : n < 12) : ali h 1 (173) (nI n) = some (h_iv h (173) n) := ali_ok (c_cu0 hS).1 (c_cu0 hS).2 hn (by omega)
theorem c_cu0_as {h : aH} (hS : Sh h) {n : Nat} (x : Int32) (hn : n < 12) : asi h (173) (nI n) x = some (h_si h (173) n x) := asi_ok (c_cu0 hS).1 (c_cu0 hS).2 hn (by omega)
theorem c_cu0_ln {h : aH} (hS : Sh h) : aln h (173) = some (nI 12) := aln_ok (c_cu0 hS).1 (by decide) (by decide) (c_cu0 hS).2
theorem c_cu1m : (174, 1, 12) ∈ shL := List.mem_of_getElem? (i := 173) rfl
theorem c_cu1 {h : aH} (hS : Sh h) : h_sh h (174) = 1 ∧ h_ln h (174) = 12 := ⟨(hS.2.1 _ c_cu1m).1, (hS.2.1 _ c_cu1m).2 (show (1 : Nat) < 10 by decide)⟩
theorem c_cu1_al {h : aH} (hS : Sh h) {n : Nat} (hn : n < 12) : ali h 1 (174) (nI n) = some (h_iv h (174) n) := ali_ok (c_cu1 hS).1 (c_cu1 hS).2 hn (by omega)
theorem c_cu1_as {h : aH} (hS : Sh h) {n : Nat} (x : Int32) (hn : n < 12) : asi h (174) (nI n) x = some (h_si h (174) n x) := asi_ok (c_cu1 hS).1 (c_cu1 hS).2 hn (by omega)
theorem c_cu1_ln {h : aH} (hS : Sh h) : aln h (174) = some (nI 12) := aln_ok (c_cu1 hS).1 (by decide) (by decide) (c_cu1 hS).2
theorem c_cu2m : (175, 1, 5) ∈ shL := List.mem_of_getElem? (i := 174) rfl
theorem c_cu2 {h : aH} (hS : Sh h) : h_sh h (175) = 1 ∧ h_ln h (175) = 5 := ⟨(hS.2.1 _ c_cu2m).1, (hS.2.1 _ c_cu2m).2 (show (1 : Nat) < 10 by decide)⟩
theorem c_cu2_al {h : aH} (hS : Sh h) {n : Nat} (hn : n < 5) : ali h 1 (175) (nI n) = some (h_iv h (175) n) := ali_ok (c_cu2 hS).1 (c_cu2 hS).2 hn (by omega)
theorem c_cu2_as {h : aH} (hS : Sh h) {n : Nat} (x : Int32) (hn : n < 5) : asi h (175) (nI n) x = some (h_si h (175) n x) := asi_ok (c_cu2 hS).1 (c_cu2 hS).2 hn (by omega)
theorem c_cu2_ln {h : aH} (hS : Sh h) : aln h (175) = some (nI 5) := aln_ok (c_cu2 hS).1 (by decide) (by decide) (c_cu2 hS).2
theorem c_cu3m : (176, 1, 5) ∈ shL := List.mem_of_getElem? (i := 175) rfl
theorem c_cu3 {h : aH} (hS : Sh h) : h_sh h (176) = 1 ∧ h_ln h (176) = 5 := ⟨(hS.2.1 _ c_cu3m).1, (hS.2.1 _ c_cu3m).2 (show (1 : Nat) < 10 by decide)⟩
theorem c_cu3_al {h : aH} (hS : Sh h) {n : Nat} (hn : n < 5) : ali h 1 (176) (nI n) = some (h_iv h (176) n) := ali_ok (c_cu3 hS).1 (c_cu3 hS).2 hn (by omega)
theorem c_cu3_as {h : aH} (hS : Sh h) {n : Nat} (x : Int32) (hn : n < 5) : asi h (176) (nI n) x = some (h_si h (176) n x) := asi_ok (c_cu3 hS).1 (c_cu3 hS).2 hn (by omega)
theorem c_cu3_ln {h : aH} (hS : Sh h) : aln h (176) = some (nI 5) := aln_ok (c_cu3 hS).1 (by decide) (by decide) (c_cu3 hS).2
theorem c_cu4m : (177, 1, 5) ∈ shL := List.mem_of_getElem? (i := 176) rfl
theorem c_cu4 {h : aH} (hS : Sh h) : h_sh h (177) = 1 ∧ h_ln h (177) = 5 := ⟨(hS.2.1 _ c_cu4m).1, (hS.2.1 _ c_cu4m).2 (show (1 : Nat) < 10 by decide)⟩
theorem c_cu4_al {h : aH} (hS : Sh h) {n : Nat} (hn : n < 5) : ali h 1 (177) (nI n) = some (h_iv h (177) n) := ali_ok (c_cu4 hS).1 (c_cu4 hS).2 hn (by omega)
theorem c_cu4_as {h : aH} (hS : Sh h) {n : Nat} (x : Int32) (hn : n < 5) : asi h (177) (nI n) x = some (h_si h (177) n x) := asi_ok (c_cu4 hS).1 (c_cu4 hS).2 hn (by omega)
theorem c_cu4_ln {h : aH} (hS : Sh h) : aln h (177) = some (nI 5) := aln_ok (c_cu4 hS).1 (by decide) (by decide) (c_cu4 hS).2
theorem c_cu5m : (178, 1, 5) ∈ shL := List.mem_of_getElem? (i := 177) rfl
theorem c_cu5 {h : aH} (hS : Sh h) : h_sh h (178) = 1 ∧ h_ln h (178) = 5 := ⟨(hS.2.1 _ c_cu5m).1, (hS.2.1 _ c_cu5m).2 (show (1 : Nat) < 10 by decide)⟩
theorem c_cu5_al {h : aH} (hS : Sh h) {n : Nat} (hn : n < 5) : ali h 1 (178) (nI n) = some (h_iv h (178) n) := ali_ok (c_cu5 hS).1 (c_cu5 hS).2 hn (by omega)
theorem c_cu5_as {h : aH} (hS : Sh h) {n : Nat} (x : Int32) (hn : n < 5) : asi h (178) (nI n) x = some (h_si h (178) n x) := asi_ok (c_cu5 hS).1 (c_cu5 hS).2 hn (by omega)
theorem c_cu5_ln {h : aH} (hS : Sh h) : aln h (178) = some (nI 5) := aln_ok (c_cu5 hS).1 (by decide) (by decide) (c_cu5 hS).2
theorem c_cu6m : (179, 1, 32) ∈ shL := List.mem_of_getElem? (i := 178) rfl
theorem c_cu6 {h : aH} (hS : Sh h) : h_sh h (179) = 1 ∧ h_ln h (179) = 32 := ⟨(hS.2.1 _ c_cu6m).1, (hS.2.1 _ c_cu6m).2 (show (1 : Nat) < 10 by decide)⟩
theorem c_cu6_al {h : aH} (hS : Sh h) {n : Nat} (hn : n < 32) : ali h 1 (179) (nI n) = some (h_iv h (179) n) := ali_ok (c_cu6 hS).1 (c_cu6 hS).2 hn (by omega)
theorem c_cu6_as {h : aH} (hS : Sh h) {n : Nat} (x : Int32) (hn : n < 32) : asi h (179) (nI n) x = some (h_si h (179) n x) := asi_ok (c_cu6 hS).1 (c_cu6 hS).2 hn (by omega)
theorem c_cu6_ln {h : aH} (hS : Sh h) : aln h (179) = some (nI 32) := aln_ok (c_cu6 hS).1 (by decide) (by decide) (c_cu6 hS).2
theorem c_cHm : (180, 12, 0) ∈ shL := List.mem_of_getElem? (i := 179) rfl
theorem c_cH {h : aH} (hS : Sh h) : h_sh h (180) = 10 + 2 := (hS.2.1 _ c_cHm).1
theorem c_cH_gi {h : aH} (hS : Sh h) (k : Nat) : gi h 2 (180) k = some (h_iv h (180) k) := gi_ok (c_cH hS)
theorem c_cH_gL {h : aH} (hS : Sh h) (k : Nat) : gL h 2 (180) k = some (h_lv h (180) k) := gL_ok (c_cH hS)
theorem c_cH_pi {h : aH} (hS : Sh h) (k : Nat) (x : Int32) : pi h 2 (180) k x = some (h_si h (180) k x) := pi_ok (c_cH hS)
theorem c_cH_pL {h : aH} (hS : Sh h) (k : Nat) (x : Int64) : pL h 2 (180) k x = some (h_sL h (180) k x) := pL_ok (c_cH hS)
theorem c_cH_gS {h : aH} (hS : Sh h) {γ : Type} (z : Option γ) : gS h 2 (180) z = z := gS_ok (c_cH hS)
theorem c_ckeptm : (181, 5, 10) ∈ shL := List.mem_of_getElem? (i := 180) rfl
theorem c_ckept {h : aH} (hS : Sh h) : h_sh h (181) = 5 ∧ h_ln h (181) = 10 := ⟨(hS.2.1 _ c_ckeptm).1, (hS.2.1 _ c_ckeptm).2 (show (5 : Nat) < 10 by decide)⟩
theorem c_ckept_ln {h : aH} (hS : Sh h) : aln h (181) = some (nI 10) := aln_ok (c_ckept hS).1 (by decide) (by decide) (c_ckept hS).2
theorem c_cslotsm : (182, 5, 2) ∈ shL := List.mem_of_getElem? (i := 181) rfl
theorem c_cslots {h : aH} (hS : Sh h) : h_sh h (182) = 5 ∧ h_ln h (182) = 2 := ⟨(hS.2.1 _ c_cslotsm).1, (hS.2.1 _ c_cslotsm).2 (show (5 : Nat) < 10 by decide)⟩
theorem c_cslots_ln {h : aH} (hS : Sh h) : aln h (182) = some (nI 2) := aln_ok (c_cslots hS).1 (by decide) (by decide) (c_cslots hS).2
theorem c_cfillm : (183, 3, 2) ∈ shL := List.mem_of_getElem? (i := 182) rfl
theorem c_cfill {h : aH} (hS : Sh h) : h_sh h (183) = 3 ∧ h_ln h (183) = 2 := ⟨(hS.2.1 _ c_cfillm).1, (hS.2.1 _ c_cfillm).2 (show (3 : Nat) < 10 by decide)⟩
theorem c_cfill_al {h : aH} (hS : Sh h) {n : Nat} (hn : n < 2) : ali h 3 (183) (nI n) = some (h_iv h (183) n) := ali_ok (c_cfill hS).1 (c_cfill hS).2 hn (by omega)
theorem c_cfill_as {h : aH} (hS : Sh h) {n : Nat} {x : Int32} (hn : n < 2) (hx : x = 0 ∨ x = 1) : asz h (183) (nI n) x = some (h_si h (183) n x) := asz_ok (c_cfill hS).1 (c_cfill hS).2 hn (by omega) hx
theorem c_cfill_ln {h : aH} (hS : Sh h) : aln h (183) = some (nI 2) := aln_ok (c_cfill hS).1 (by decide) (by decide) (c_cfill hS).2
theorem c_com : (462, 4, 1) ∈ shL := List.mem_of_getElem? (i := 461) rfl
theorem c_co {h : aH} (hS : Sh h) : h_sh h (462) = 4 ∧ h_ln h (462) = 1 := ⟨(hS.2.1 _ c_com).1, (hS.2.1 _ c_com).2 (show (4 : Nat) < 10 by decide)⟩
theorem c_co_al {h : aH} (hS : Sh h) {n : Nat} (hn : n < 1) : alL h (462) (nI n) = some (h_lv h (462) n) := alL_ok (c_co hS).1 (c_co hS).2 hn (by omega)
theorem c_co_as {h : aH} (hS : Sh h) {n : Nat} (x : Int64) (hn : n < 1) : asL h (462) (nI n) x = some (h_sL h (462) n x) := asL_ok (c_co hS).1 (c_co hS).2 hn (by omega)
theorem c_co_ln {h : aH} (hS : Sh h) : aln h (462) = some (nI 1) := aln_ok (c_co hS).1 (by decide) (by decide) (c_co hS).2
theorem c_ptxtm : (1, 0, 2) ∈ ptL := List.mem_of_getElem? (i := 0) rfl
theorem c_ptxt {h : aH} (hS : Sh h) : gr h 11 (1) 0 = some (2) := gr_ok9 (c_cX hS) (hS.2.2 _ c_ptxtm) (by decide)
theorem c_prdm : (1, 2, 3) ∈ ptL := List.mem_of_getElem? (i := 1) rfl
theorem c_prd {h : aH} (hS : Sh h) : gr h 11 (1) 2 = some (3) := gr_ok9 (c_cX hS) (hS.2.2 _ c_prdm) (by decide)
theorem c_pstm : (1, 5, 134) ∈ ptL := List.mem_of_getElem? (i := 2) rfl
theorem c_pst {h : aH} (hS : Sh h) : gr h 11 (1) 5 = some (134) := gr_ok9 (c_cX hS) (hS.2.2 _ c_pstm) (by decide)
theorem c_pdrm : (1, 6, 153) ∈ ptL := List.mem_of_getElem? (i := 3) rfl
theorem c_pdr {h : aH} (hS : Sh h) : gr h 11 (1) 6 = some (153) := gr_ok9 (c_cX hS) (hS.2.2 _ c_pdrm) (by decide)
theorem c_pmum : (1, 7, 172) ∈ ptL := List.mem_of_getElem? (i := 4) rfl
theorem c_pmu {h : aH} (hS : Sh h) : gr h 11 (1) 7 = some (172) := gr_ok9 (c_cX hS) (hS.2.2 _ c_pmum) (by decide)
theorem c_phim : (1, 8, 180) ∈ ptL := List.mem_of_getElem? (i := 5) rfl
theorem c_phi {h : aH} (hS : Sh h) : gr h 11 (1) 8 = some (180) := gr_ok9 (c_cX hS) (hS.2.2 _ c_phim) (by decide)
theorem c_prtxtm : (3, 0, 2) ∈ ptL := List.mem_of_getElem? (i := 6) rfl
theorem c_prtxt {h : aH} (hS : Sh h) : gr h 9 (3) 0 = some (2) := gr_ok9 (c_cR hS) (hS.2.2 _ c_prtxtm) (by decide)
theorem c_pu0m : (172, 2, 173) ∈ ptL := List.mem_of_getElem? (i := 387) rfl
theorem c_pu0 {h : aH} (hS : Sh h) : gr h 4 (172) 2 = some (173) := gr_ok9 (c_cU hS) (hS.2.2 _ c_pu0m) (by decide)
theorem c_pu1m : (172, 3, 174) ∈ ptL := List.mem_of_getElem? (i := 388) rfl
theorem c_pu1 {h : aH} (hS : Sh h) : gr h 4 (172) 3 = some (174) := gr_ok9 (c_cU hS) (hS.2.2 _ c_pu1m) (by decide)
theorem c_pu2m : (172, 6, 175) ∈ ptL := List.mem_of_getElem? (i := 389) rfl
theorem c_pu2 {h : aH} (hS : Sh h) : gr h 4 (172) 6 = some (175) := gr_ok9 (c_cU hS) (hS.2.2 _ c_pu2m) (by decide)
theorem c_pu3m : (172, 7, 176) ∈ ptL := List.mem_of_getElem? (i := 390) rfl
theorem c_pu3 {h : aH} (hS : Sh h) : gr h 4 (172) 7 = some (176) := gr_ok9 (c_cU hS) (hS.2.2 _ c_pu3m) (by decide)
theorem c_pu4m : (172, 8, 177) ∈ ptL := List.mem_of_getElem? (i := 391) rfl
theorem c_pu4 {h : aH} (hS : Sh h) : gr h 4 (172) 8 = some (177) := gr_ok9 (c_cU hS) (hS.2.2 _ c_pu4m) (by decide)
theorem c_pu5m : (172, 9, 178) ∈ ptL := List.mem_of_getElem? (i := 392) rfl
theorem c_pu5 {h : aH} (hS : Sh h) : gr h 4 (172) 9 = some (178) := gr_ok9 (c_cU hS) (hS.2.2 _ c_pu5m) (by decide)
theorem c_pu6m : (172, 10, 179) ∈ ptL := List.mem_of_getElem? (i := 393) rfl
theorem c_pu6 {h : aH} (hS : Sh h) : gr h 4 (172) 10 = some (179) := gr_ok9 (c_cU hS) (hS.2.2 _ c_pu6m) (by decide)
theorem c_pkeptm : (180, 1, 181) ∈ ptL := List.mem_of_getElem? (i := 394) rfl
theorem c_pkept {h : aH} (hS : Sh h) : gr h 2 (180) 1 = some (181) := gr_ok9 (c_cH hS) (hS.2.2 _ c_pkeptm) (by decide)
theorem c_pslotsm : (180, 2, 182) ∈ ptL := List.mem_of_getElem? (i := 395) rfl
theorem c_pslots {h : aH} (hS : Sh h) : gr h 2 (180) 2 = some (182) := gr_ok9 (c_cH hS) (hS.2.2 _ c_pslotsm) (by decide)
theorem c_pfillm : (180, 3, 183) ∈ ptL := List.mem_of_getElem? (i := 396) rfl
theorem c_pfill {h : aH} (hS : Sh h) : gr h 2 (180) 3 = some (183) := gr_ok9 (c_cH hS) (hS.2.2 _ c_pfillm) (by decide)
