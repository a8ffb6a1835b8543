def refT0 : List (Int × Int × Int) := [(0, 0, 1), (0, 1, 110), (0, 2, 10), (0, 3, 113), (0, 4, 146), (0, 5, 147), (0, 6, 148), (0, 7, 152), (1, 0, 2), (2, 0, 3), (1, 1, 4), (4, 0, 5), (1, 2, 6), (6, 0, 7), (1, 3, 8), (8, 0, 9), (10, 0, 11), (10, 1, 44), (10, 2, 77), (17, 0, 18), (17, 1, 19), (17, 2, 20), (17, 3, 21), (17, 4, 22), (17, 5, 23), (11, 0, 12), (11, 1, 13), (11, 2, 14), (11, 3, 15), (15, 0, 16), (11, 4, 17), (13, 0, 24), (13, 1, 25), (13, 2, 26), (13, 3, 27), (13, 4, 28), (13, 5, 29), (13, 6, 30), (13, 7, 31), (13, 8, 32)]
def refT1 : List (Int × Int × Int) := [(13, 9, 33), (13, 10, 34), (13, 11, 35), (14, 0, 36), (36, 0, 37), (14, 1, 38), (38, 0, 39), (14, 2, 40), (40, 0, 41), (14, 3, 42), (42, 0, 43), (50, 0, 51), (50, 1, 52), (50, 2, 53), (50, 3, 54), (50, 4, 55), (50, 5, 56), (44, 0, 45), (44, 1, 46), (44, 2, 47), (44, 3, 48), (48, 0, 49), (44, 4, 50), (46, 0, 57), (46, 1, 58), (46, 2, 59), (46, 3, 60), (46, 4, 61), (46, 5, 62), (46, 6, 63), (46, 7, 64), (46, 8, 65), (46, 9, 66), (46, 10, 67), (46, 11, 68), (47, 0, 69), (69, 0, 70), (47, 1, 71), (71, 0, 72), (47, 2, 73)]
def refT2 : List (Int × Int × Int) := [(73, 0, 74), (47, 3, 75), (75, 0, 76), (83, 0, 84), (83, 1, 85), (83, 2, 86), (83, 3, 87), (83, 4, 88), (83, 5, 89), (77, 0, 78), (77, 1, 79), (77, 2, 80), (77, 3, 81), (81, 0, 82), (77, 4, 83), (79, 0, 90), (79, 1, 91), (79, 2, 92), (79, 3, 93), (79, 4, 94), (79, 5, 95), (79, 6, 96), (79, 7, 97), (79, 8, 98), (79, 9, 99), (79, 10, 100), (79, 11, 101), (80, 0, 102), (102, 0, 103), (80, 1, 104), (104, 0, 105), (80, 2, 106), (106, 0, 107), (80, 3, 108), (108, 0, 109), (119, 0, 120), (119, 1, 121), (119, 2, 122), (119, 3, 123), (119, 4, 124)]
def refT3 : List (Int × Int × Int) := [(119, 5, 125), (113, 0, 114), (113, 1, 115), (113, 2, 116), (113, 3, 117), (117, 0, 118), (113, 4, 119), (115, 0, 126), (115, 1, 127), (115, 2, 128), (115, 3, 129), (115, 4, 130), (115, 5, 131), (115, 6, 132), (115, 7, 133), (115, 8, 134), (115, 9, 135), (115, 10, 136), (115, 11, 137), (116, 0, 138), (138, 0, 139), (116, 1, 140), (140, 0, 141), (116, 2, 142), (142, 0, 143), (116, 3, 144), (144, 0, 145), (168, 0, 169), (168, 1, 170), (168, 2, 171), (168, 3, 172), (168, 4, 173), (168, 5, 174), (162, 0, 163), (162, 1, 164), (162, 2, 165), (162, 3, 166), (166, 0, 167), (164, 0, 175), (164, 1, 176)]
def refT4 : List (Int × Int × Int) := [(164, 2, 177), (164, 3, 178), (164, 4, 179), (164, 5, 180), (164, 6, 181), (164, 7, 182), (164, 8, 183), (164, 9, 184), (164, 10, 185), (164, 11, 186), (165, 0, 187), (187, 0, 188), (165, 1, 189), (189, 0, 190), (165, 2, 191), (191, 0, 192), (165, 3, 193), (193, 0, 194), (201, 0, 202), (201, 1, 203), (201, 2, 204), (201, 3, 205), (201, 4, 206), (201, 5, 207), (195, 0, 196), (195, 1, 197), (195, 2, 198), (195, 3, 199), (199, 0, 200), (197, 0, 208), (197, 1, 209), (197, 2, 210), (197, 3, 211), (197, 4, 212), (197, 5, 213), (197, 6, 214), (197, 7, 215), (197, 8, 216), (197, 9, 217), (197, 10, 218)]
def refT5 : List (Int × Int × Int) := [(197, 11, 219), (198, 0, 220), (220, 0, 221), (198, 1, 222), (222, 0, 223), (198, 2, 224), (224, 0, 225), (198, 3, 226), (226, 0, 227), (110, 0, 111), (110, 1, 112), (112, 0, 437899442), (112, 1, 408538606), (112, 2, 7657651), (112, 3, 21015731), (112, 4, 3657363), (112, 5, 89), (112, 6, 14849171), (112, 7, 3417476), (112, 8, 238804), (112, 9, 17484389), (112, 10, 653965459), (112, 11, 12748366), (112, 12, 409189), (112, 13, 198277), (112, 14, 595572), (112, 15, 16441), (112, 16, 762030), (112, 17, 409031), (112, 18, 624435), (112, 19, 12009203), (112, 20, 409072), (112, 21, 5572), (112, 22, 643568), (148, 0, 149), (148, 1, 150), (155, 0, 156), (155, 1, 157), (155, 2, 158), (155, 3, 159)]
def refT6 : List (Int × Int × Int) := [(152, 0, 153), (152, 1, 154), (152, 2, 155), (152, 4, 160), (152, 5, 161), (228, 0, 229), (228, 1, 230), (228, 2, 231), (228, 3, 232), (228, 4, 233), (228, 5, 234), (235, 4, 236), (235, 5, 237), (235, 6, 238), (235, 7, 239), (235, 20, 240), (235, 21, 241), (235, 22, 242), (235, 26, 243), (235, 28, 244), (235, 29, 245), (235, 30, 246), (235, 31, 247), (235, 33, 248), (235, 34, 249), (235, 35, 250), (235, 36, 251), (235, 37, 252), (235, 38, 253), (235, 39, 254), (235, 40, 255), (235, 41, 256), (235, 43, 257)]
def refT : List (Int × Int × Int) := refT0 ++ (refT1 ++ (refT2 ++ (refT3 ++ (refT4 ++ (refT5 ++ (refT6))))))
def shT0 : List (Int × Nat × Int) := [(0, 10, 17), (1, 20, 4), (2, 8, 4), (3, 19, 60), (4, 8, 4), (5, 19, 60), (6, 8, 4), (7, 19, 60), (8, 8, 4), (9, 19, 60), (10, 21, 3), (11, 6, 10), (12, 19, 4), (13, 22, 12), (14, 23, 4), (15, 9, 2), (16, 18, 12), (17, 0, 9), (18, 16, 30), (19, 16, 30), (20, 16, 30), (21, 16, 30), (22, 16, 30), (23, 16, 3), (24, 2, 7), (25, 2, 7), (26, 2, 7), (27, 2, 7), (28, 2, 7), (29, 2, 7), (30, 2, 7), (31, 2, 7), (32, 2, 7), (33, 2, 7), (34, 2, 7), (35, 2, 7), (36, 1, 7), (37, 16, 12), (38, 1, 7), (39, 16, 12)]
def shT1 : List (Int × Nat × Int) := [(40, 1, 7), (41, 16, 12), (42, 1, 7), (43, 16, 12), (44, 6, 10), (45, 19, 4), (46, 22, 12), (47, 23, 4), (48, 9, 2), (49, 18, 12), (50, 0, 9), (51, 16, 30), (52, 16, 30), (53, 16, 30), (54, 16, 30), (55, 16, 30), (56, 16, 3), (57, 2, 7), (58, 2, 7), (59, 2, 7), (60, 2, 7), (61, 2, 7), (62, 2, 7), (63, 2, 7), (64, 2, 7), (65, 2, 7), (66, 2, 7), (67, 2, 7), (68, 2, 7), (69, 1, 7), (70, 16, 12), (71, 1, 7), (72, 16, 12), (73, 1, 7), (74, 16, 12), (75, 1, 7), (76, 16, 12), (77, 6, 10), (78, 19, 4), (79, 22, 12)]
def shT2 : List (Int × Nat × Int) := [(80, 23, 4), (81, 9, 2), (82, 18, 12), (83, 0, 9), (84, 16, 30), (85, 16, 30), (86, 16, 30), (87, 16, 30), (88, 16, 30), (89, 16, 3), (90, 2, 7), (91, 2, 7), (92, 2, 7), (93, 2, 7), (94, 2, 7), (95, 2, 7), (96, 2, 7), (97, 2, 7), (98, 2, 7), (99, 2, 7), (100, 2, 7), (101, 2, 7), (102, 1, 7), (103, 16, 12), (104, 1, 7), (105, 16, 12), (106, 1, 7), (107, 16, 12), (108, 1, 7), (109, 16, 12), (110, 5, 11), (111, 17, 900), (112, 19, 23), (113, 6, 10), (114, 19, 4), (115, 22, 12), (116, 23, 4), (117, 9, 2), (118, 18, 12), (119, 0, 9)]
def shT3 : List (Int × Nat × Int) := [(120, 16, 30), (121, 16, 30), (122, 16, 30), (123, 16, 30), (124, 16, 30), (125, 16, 3), (126, 2, 7), (127, 2, 7), (128, 2, 7), (129, 2, 7), (130, 2, 7), (131, 2, 7), (132, 2, 7), (133, 2, 7), (134, 2, 7), (135, 2, 7), (136, 2, 7), (137, 2, 7), (138, 1, 7), (139, 16, 12), (140, 1, 7), (141, 16, 12), (142, 1, 7), (143, 16, 12), (144, 1, 7), (145, 16, 12), (146, 3, 8), (147, 3, 8), (148, 7, 6), (149, 16, 12), (150, 16, 12), (151, 19, 16), (152, 4, 7), (153, 16, 4), (154, 16, 4), (155, 24, 4), (156, 16, 12), (157, 16, 12), (158, 16, 12), (159, 16, 12)]
def shT4 : List (Int × Nat × Int) := [(160, 16, 4), (161, 16, 4), (162, 6, 10), (163, 19, 4), (164, 22, 12), (165, 23, 4), (166, 9, 2), (167, 18, 12), (168, 0, 9), (169, 16, 30), (170, 16, 30), (171, 16, 30), (172, 16, 30), (173, 16, 30), (174, 16, 3), (175, 2, 7), (176, 2, 7), (177, 2, 7), (178, 2, 7), (179, 2, 7), (180, 2, 7), (181, 2, 7), (182, 2, 7), (183, 2, 7), (184, 2, 7), (185, 2, 7), (186, 2, 7), (187, 1, 7), (188, 16, 12), (189, 1, 7), (190, 16, 12), (191, 1, 7), (192, 16, 12), (193, 1, 7), (194, 16, 12), (195, 6, 10), (196, 19, 4), (197, 22, 12), (198, 23, 4), (199, 9, 2)]
def shT5 : List (Int × Nat × Int) := [(200, 18, 12), (201, 0, 9), (202, 16, 30), (203, 16, 30), (204, 16, 30), (205, 16, 30), (206, 16, 30), (207, 16, 3), (208, 2, 7), (209, 2, 7), (210, 2, 7), (211, 2, 7), (212, 2, 7), (213, 2, 7), (214, 2, 7), (215, 2, 7), (216, 2, 7), (217, 2, 7), (218, 2, 7), (219, 2, 7), (220, 1, 7), (221, 16, 12), (222, 1, 7), (223, 16, 12), (224, 1, 7), (225, 16, 12), (226, 1, 7), (227, 16, 12), (228, 0, 9), (229, 16, 30), (230, 16, 30), (231, 16, 30), (232, 16, 30), (233, 16, 30), (234, 16, 3), (235, 11, 52), (236, 16, 4), (237, 16, 4), (238, 19, 240), (239, 17, 900)]
def shT6 : List (Int × Nat × Int) := [(240, 16, 2050), (241, 16, 128), (242, 19, 100), (243, 16, 13), (244, 19, 4096), (245, 16, 4096), (246, 16, 4096), (247, 16, 12), (248, 18, 4096), (249, 19, 4096), (250, 19, 73728), (251, 16, 4), (252, 16, 4), (253, 16, 4), (254, 16, 48), (255, 16, 4), (256, 16, 4), (257, 16, 4)]
def shT : List (Int × Nat × Int) := shT0 ++ (shT1 ++ (shT2 ++ (shT3 ++ (shT4 ++ (shT5 ++ (shT6))))))
/-- the references (and the kept words) that never change -/
def RRef (m : Int → Int → Int) : Prop := ∀ q ∈ refT, m q.1 q.2.1 = q.2.2
/-- every object is there, of its kind and length -/
def Shp (h : AM) : Prop := 258 ≤ mnx h ∧ ∀ q ∈ shT, h.2.1 q.1 = (q.2.1, q.2.2)
theorem Shp_EV {d k pc : Nat} {L st : List AV} {h h' : AM} {r : AV} (he : EV d k pc L st h = some (r, h')) (hs : Shp h) : Shp h' := by
  obtain ⟨n, hn⟩ := EV_iff.mp he
  have h1 := ex_shape n _ _ _ _ _ _ _ _ hn
  have h2 := (ex_mono n _ _ _ _ _ _ _ _ hn).1
  refine ⟨by have := hs.1; omega, fun q hq => ?_⟩
  have : ∀ q ∈ shT, q.1 < 258 := by decide +kernel
  rw [h1 q.1 (by have := this q hq; have := hs.1; omega)]
  exact hs.2 q hq
theorem Shp_K {h : AM} (hs : Shp h) {a : Int} {c : Nat} {n : Int} (hq : (a, c, n) ∈ shT) : isK h a c ∧ mln h a = n := by
  have h1 := hs.2 _ hq
  have : ∀ q ∈ shT, 0 ≤ q.1 ∧ q.1 < 258 := by decide +kernel
  have h2 := this _ hq
  dsimp only at h1 h2
  exact ⟨⟨h2.1, by have := hs.1; omega, by unfold mkn; rw [h1]⟩, by unfold mln; rw [h1]⟩
theorem kn_0 {h : AM} (hs : Shp h) : isK h 0 10 := (Shp_K (n := 17) hs (by decide +kernel)).1
theorem kn_1 {h : AM} (hs : Shp h) : isK h 1 20 := (Shp_K (n := 4) hs (by decide +kernel)).1
theorem ln_1 {h : AM} (hs : Shp h) : mln h 1 = 4 := (Shp_K (c := 20) hs (by decide +kernel)).2
theorem kn_2 {h : AM} (hs : Shp h) : isK h 2 8 := (Shp_K (n := 4) hs (by decide +kernel)).1
theorem kn_3 {h : AM} (hs : Shp h) : isK h 3 19 := (Shp_K (n := 60) hs (by decide +kernel)).1
theorem ln_3 {h : AM} (hs : Shp h) : mln h 3 = 60 := (Shp_K (c := 19) hs (by decide +kernel)).2
theorem kn_4 {h : AM} (hs : Shp h) : isK h 4 8 := (Shp_K (n := 4) hs (by decide +kernel)).1
theorem kn_5 {h : AM} (hs : Shp h) : isK h 5 19 := (Shp_K (n := 60) hs (by decide +kernel)).1
theorem ln_5 {h : AM} (hs : Shp h) : mln h 5 = 60 := (Shp_K (c := 19) hs (by decide +kernel)).2
theorem kn_6 {h : AM} (hs : Shp h) : isK h 6 8 := (Shp_K (n := 4) hs (by decide +kernel)).1
theorem kn_7 {h : AM} (hs : Shp h) : isK h 7 19 := (Shp_K (n := 60) hs (by decide +kernel)).1
theorem ln_7 {h : AM} (hs : Shp h) : mln h 7 = 60 := (Shp_K (c := 19) hs (by decide +kernel)).2
theorem kn_8 {h : AM} (hs : Shp h) : isK h 8 8 := (Shp_K (n := 4) hs (by decide +kernel)).1
theorem kn_9 {h : AM} (hs : Shp h) : isK h 9 19 := (Shp_K (n := 60) hs (by decide +kernel)).1
theorem ln_9 {h : AM} (hs : Shp h) : mln h 9 = 60 := (Shp_K (c := 19) hs (by decide +kernel)).2
theorem kn_10 {h : AM} (hs : Shp h) : isK h 10 21 := (Shp_K (n := 3) hs (by decide +kernel)).1
theorem ln_10 {h : AM} (hs : Shp h) : mln h 10 = 3 := (Shp_K (c := 21) hs (by decide +kernel)).2
theorem kn_110 {h : AM} (hs : Shp h) : isK h 110 5 := (Shp_K (n := 11) hs (by decide +kernel)).1
theorem kn_111 {h : AM} (hs : Shp h) : isK h 111 17 := (Shp_K (n := 900) hs (by decide +kernel)).1
theorem ln_111 {h : AM} (hs : Shp h) : mln h 111 = 900 := (Shp_K (c := 17) hs (by decide +kernel)).2
theorem kn_112 {h : AM} (hs : Shp h) : isK h 112 19 := (Shp_K (n := 23) hs (by decide +kernel)).1
theorem ln_112 {h : AM} (hs : Shp h) : mln h 112 = 23 := (Shp_K (c := 19) hs (by decide +kernel)).2
theorem kn_146 {h : AM} (hs : Shp h) : isK h 146 3 := (Shp_K (n := 8) hs (by decide +kernel)).1
theorem kn_147 {h : AM} (hs : Shp h) : isK h 147 3 := (Shp_K (n := 8) hs (by decide +kernel)).1
theorem kn_148 {h : AM} (hs : Shp h) : isK h 148 7 := (Shp_K (n := 6) hs (by decide +kernel)).1
theorem kn_149 {h : AM} (hs : Shp h) : isK h 149 16 := (Shp_K (n := 12) hs (by decide +kernel)).1
theorem ln_149 {h : AM} (hs : Shp h) : mln h 149 = 12 := (Shp_K (c := 16) hs (by decide +kernel)).2
theorem kn_150 {h : AM} (hs : Shp h) : isK h 150 16 := (Shp_K (n := 12) hs (by decide +kernel)).1
theorem ln_150 {h : AM} (hs : Shp h) : mln h 150 = 12 := (Shp_K (c := 16) hs (by decide +kernel)).2
theorem kn_151 {h : AM} (hs : Shp h) : isK h 151 19 := (Shp_K (n := 16) hs (by decide +kernel)).1
theorem ln_151 {h : AM} (hs : Shp h) : mln h 151 = 16 := (Shp_K (c := 19) hs (by decide +kernel)).2
theorem kn_152 {h : AM} (hs : Shp h) : isK h 152 4 := (Shp_K (n := 7) hs (by decide +kernel)).1
theorem kn_153 {h : AM} (hs : Shp h) : isK h 153 16 := (Shp_K (n := 4) hs (by decide +kernel)).1
theorem ln_153 {h : AM} (hs : Shp h) : mln h 153 = 4 := (Shp_K (c := 16) hs (by decide +kernel)).2
theorem kn_154 {h : AM} (hs : Shp h) : isK h 154 16 := (Shp_K (n := 4) hs (by decide +kernel)).1
theorem ln_154 {h : AM} (hs : Shp h) : mln h 154 = 4 := (Shp_K (c := 16) hs (by decide +kernel)).2
theorem kn_155 {h : AM} (hs : Shp h) : isK h 155 24 := (Shp_K (n := 4) hs (by decide +kernel)).1
theorem ln_155 {h : AM} (hs : Shp h) : mln h 155 = 4 := (Shp_K (c := 24) hs (by decide +kernel)).2
theorem kn_160 {h : AM} (hs : Shp h) : isK h 160 16 := (Shp_K (n := 4) hs (by decide +kernel)).1
theorem ln_160 {h : AM} (hs : Shp h) : mln h 160 = 4 := (Shp_K (c := 16) hs (by decide +kernel)).2
theorem kn_161 {h : AM} (hs : Shp h) : isK h 161 16 := (Shp_K (n := 4) hs (by decide +kernel)).1
theorem ln_161 {h : AM} (hs : Shp h) : mln h 161 = 4 := (Shp_K (c := 16) hs (by decide +kernel)).2
theorem kn_235 {h : AM} (hs : Shp h) : isK h 235 11 := (Shp_K (n := 52) hs (by decide +kernel)).1
theorem kn_236 {h : AM} (hs : Shp h) : isK h 236 16 := (Shp_K (n := 4) hs (by decide +kernel)).1
theorem ln_236 {h : AM} (hs : Shp h) : mln h 236 = 4 := (Shp_K (c := 16) hs (by decide +kernel)).2
theorem kn_237 {h : AM} (hs : Shp h) : isK h 237 16 := (Shp_K (n := 4) hs (by decide +kernel)).1
theorem ln_237 {h : AM} (hs : Shp h) : mln h 237 = 4 := (Shp_K (c := 16) hs (by decide +kernel)).2
theorem kn_238 {h : AM} (hs : Shp h) : isK h 238 19 := (Shp_K (n := 240) hs (by decide +kernel)).1
theorem ln_238 {h : AM} (hs : Shp h) : mln h 238 = 240 := (Shp_K (c := 19) hs (by decide +kernel)).2
theorem kn_239 {h : AM} (hs : Shp h) : isK h 239 17 := (Shp_K (n := 900) hs (by decide +kernel)).1
theorem ln_239 {h : AM} (hs : Shp h) : mln h 239 = 900 := (Shp_K (c := 17) hs (by decide +kernel)).2
theorem kn_240 {h : AM} (hs : Shp h) : isK h 240 16 := (Shp_K (n := 2050) hs (by decide +kernel)).1
theorem ln_240 {h : AM} (hs : Shp h) : mln h 240 = 2050 := (Shp_K (c := 16) hs (by decide +kernel)).2
theorem kn_241 {h : AM} (hs : Shp h) : isK h 241 16 := (Shp_K (n := 128) hs (by decide +kernel)).1
theorem ln_241 {h : AM} (hs : Shp h) : mln h 241 = 128 := (Shp_K (c := 16) hs (by decide +kernel)).2
theorem kn_242 {h : AM} (hs : Shp h) : isK h 242 19 := (Shp_K (n := 100) hs (by decide +kernel)).1
theorem ln_242 {h : AM} (hs : Shp h) : mln h 242 = 100 := (Shp_K (c := 19) hs (by decide +kernel)).2
theorem kn_243 {h : AM} (hs : Shp h) : isK h 243 16 := (Shp_K (n := 13) hs (by decide +kernel)).1
theorem ln_243 {h : AM} (hs : Shp h) : mln h 243 = 13 := (Shp_K (c := 16) hs (by decide +kernel)).2
theorem kn_244 {h : AM} (hs : Shp h) : isK h 244 19 := (Shp_K (n := 4096) hs (by decide +kernel)).1
theorem ln_244 {h : AM} (hs : Shp h) : mln h 244 = 4096 := (Shp_K (c := 19) hs (by decide +kernel)).2
theorem kn_245 {h : AM} (hs : Shp h) : isK h 245 16 := (Shp_K (n := 4096) hs (by decide +kernel)).1
theorem ln_245 {h : AM} (hs : Shp h) : mln h 245 = 4096 := (Shp_K (c := 16) hs (by decide +kernel)).2
theorem kn_246 {h : AM} (hs : Shp h) : isK h 246 16 := (Shp_K (n := 4096) hs (by decide +kernel)).1
theorem ln_246 {h : AM} (hs : Shp h) : mln h 246 = 4096 := (Shp_K (c := 16) hs (by decide +kernel)).2
theorem kn_247 {h : AM} (hs : Shp h) : isK h 247 16 := (Shp_K (n := 12) hs (by decide +kernel)).1
theorem ln_247 {h : AM} (hs : Shp h) : mln h 247 = 12 := (Shp_K (c := 16) hs (by decide +kernel)).2
theorem kn_248 {h : AM} (hs : Shp h) : isK h 248 18 := (Shp_K (n := 4096) hs (by decide +kernel)).1
theorem ln_248 {h : AM} (hs : Shp h) : mln h 248 = 4096 := (Shp_K (c := 18) hs (by decide +kernel)).2
theorem kn_249 {h : AM} (hs : Shp h) : isK h 249 19 := (Shp_K (n := 4096) hs (by decide +kernel)).1
theorem ln_249 {h : AM} (hs : Shp h) : mln h 249 = 4096 := (Shp_K (c := 19) hs (by decide +kernel)).2
theorem kn_250 {h : AM} (hs : Shp h) : isK h 250 19 := (Shp_K (n := 73728) hs (by decide +kernel)).1
theorem ln_250 {h : AM} (hs : Shp h) : mln h 250 = 73728 := (Shp_K (c := 19) hs (by decide +kernel)).2
theorem kn_251 {h : AM} (hs : Shp h) : isK h 251 16 := (Shp_K (n := 4) hs (by decide +kernel)).1
theorem ln_251 {h : AM} (hs : Shp h) : mln h 251 = 4 := (Shp_K (c := 16) hs (by decide +kernel)).2
theorem kn_252 {h : AM} (hs : Shp h) : isK h 252 16 := (Shp_K (n := 4) hs (by decide +kernel)).1
theorem ln_252 {h : AM} (hs : Shp h) : mln h 252 = 4 := (Shp_K (c := 16) hs (by decide +kernel)).2
theorem kn_253 {h : AM} (hs : Shp h) : isK h 253 16 := (Shp_K (n := 4) hs (by decide +kernel)).1
theorem ln_253 {h : AM} (hs : Shp h) : mln h 253 = 4 := (Shp_K (c := 16) hs (by decide +kernel)).2
theorem kn_254 {h : AM} (hs : Shp h) : isK h 254 16 := (Shp_K (n := 48) hs (by decide +kernel)).1
theorem ln_254 {h : AM} (hs : Shp h) : mln h 254 = 48 := (Shp_K (c := 16) hs (by decide +kernel)).2
theorem kn_255 {h : AM} (hs : Shp h) : isK h 255 16 := (Shp_K (n := 4) hs (by decide +kernel)).1
theorem ln_255 {h : AM} (hs : Shp h) : mln h 255 = 4 := (Shp_K (c := 16) hs (by decide +kernel)).2
theorem kn_256 {h : AM} (hs : Shp h) : isK h 256 16 := (Shp_K (n := 4) hs (by decide +kernel)).1
theorem ln_256 {h : AM} (hs : Shp h) : mln h 256 = 4 := (Shp_K (c := 16) hs (by decide +kernel)).2
theorem kn_257 {h : AM} (hs : Shp h) : isK h 257 16 := (Shp_K (n := 4) hs (by decide +kernel)).1
theorem ln_257 {h : AM} (hs : Shp h) : mln h 257 = 4 := (Shp_K (c := 16) hs (by decide +kernel)).2
theorem rf_0_0 {m : Int → Int → Int} (hr : RRef m) : m 0 0 = 1 := hr (0, 0, 1) (by decide +kernel)
theorem rf_0_1 {m : Int → Int → Int} (hr : RRef m) : m 0 1 = 110 := hr (0, 1, 110) (by decide +kernel)
theorem rf_0_2 {m : Int → Int → Int} (hr : RRef m) : m 0 2 = 10 := hr (0, 2, 10) (by decide +kernel)
theorem rf_0_3 {m : Int → Int → Int} (hr : RRef m) : m 0 3 = 113 := hr (0, 3, 113) (by decide +kernel)
theorem rf_0_4 {m : Int → Int → Int} (hr : RRef m) : m 0 4 = 146 := hr (0, 4, 146) (by decide +kernel)
theorem rf_0_5 {m : Int → Int → Int} (hr : RRef m) : m 0 5 = 147 := hr (0, 5, 147) (by decide +kernel)
theorem rf_0_6 {m : Int → Int → Int} (hr : RRef m) : m 0 6 = 148 := hr (0, 6, 148) (by decide +kernel)
theorem rf_0_7 {m : Int → Int → Int} (hr : RRef m) : m 0 7 = 152 := hr (0, 7, 152) (by decide +kernel)
theorem rf_110_0 {m : Int → Int → Int} (hr : RRef m) : m 110 0 = 111 := hr (110, 0, 111) (by decide +kernel)
theorem rf_110_1 {m : Int → Int → Int} (hr : RRef m) : m 110 1 = 112 := hr (110, 1, 112) (by decide +kernel)
theorem rf_148_0 {m : Int → Int → Int} (hr : RRef m) : m 148 0 = 149 := hr (148, 0, 149) (by decide +kernel)
theorem rf_148_1 {m : Int → Int → Int} (hr : RRef m) : m 148 1 = 150 := hr (148, 1, 150) (by decide +kernel)
theorem rf_152_0 {m : Int → Int → Int} (hr : RRef m) : m 152 0 = 153 := hr (152, 0, 153) (by decide +kernel)
theorem rf_152_1 {m : Int → Int → Int} (hr : RRef m) : m 152 1 = 154 := hr (152, 1, 154) (by decide +kernel)
theorem rf_152_2 {m : Int → Int → Int} (hr : RRef m) : m 152 2 = 155 := hr (152, 2, 155) (by decide +kernel)
theorem rf_152_4 {m : Int → Int → Int} (hr : RRef m) : m 152 4 = 160 := hr (152, 4, 160) (by decide +kernel)
theorem rf_152_5 {m : Int → Int → Int} (hr : RRef m) : m 152 5 = 161 := hr (152, 5, 161) (by decide +kernel)
theorem rf_235_4 {m : Int → Int → Int} (hr : RRef m) : m 235 4 = 236 := hr (235, 4, 236) (by decide +kernel)
theorem rf_235_5 {m : Int → Int → Int} (hr : RRef m) : m 235 5 = 237 := hr (235, 5, 237) (by decide +kernel)
theorem rf_235_6 {m : Int → Int → Int} (hr : RRef m) : m 235 6 = 238 := hr (235, 6, 238) (by decide +kernel)
theorem rf_235_7 {m : Int → Int → Int} (hr : RRef m) : m 235 7 = 239 := hr (235, 7, 239) (by decide +kernel)
theorem rf_235_20 {m : Int → Int → Int} (hr : RRef m) : m 235 20 = 240 := hr (235, 20, 240) (by decide +kernel)
theorem rf_235_21 {m : Int → Int → Int} (hr : RRef m) : m 235 21 = 241 := hr (235, 21, 241) (by decide +kernel)
theorem rf_235_22 {m : Int → Int → Int} (hr : RRef m) : m 235 22 = 242 := hr (235, 22, 242) (by decide +kernel)
theorem rf_235_26 {m : Int → Int → Int} (hr : RRef m) : m 235 26 = 243 := hr (235, 26, 243) (by decide +kernel)
theorem rf_235_28 {m : Int → Int → Int} (hr : RRef m) : m 235 28 = 244 := hr (235, 28, 244) (by decide +kernel)
theorem rf_235_29 {m : Int → Int → Int} (hr : RRef m) : m 235 29 = 245 := hr (235, 29, 245) (by decide +kernel)
theorem rf_235_30 {m : Int → Int → Int} (hr : RRef m) : m 235 30 = 246 := hr (235, 30, 246) (by decide +kernel)
theorem rf_235_31 {m : Int → Int → Int} (hr : RRef m) : m 235 31 = 247 := hr (235, 31, 247) (by decide +kernel)
theorem rf_235_33 {m : Int → Int → Int} (hr : RRef m) : m 235 33 = 248 := hr (235, 33, 248) (by decide +kernel)
theorem rf_235_34 {m : Int → Int → Int} (hr : RRef m) : m 235 34 = 249 := hr (235, 34, 249) (by decide +kernel)
theorem rf_235_35 {m : Int → Int → Int} (hr : RRef m) : m 235 35 = 250 := hr (235, 35, 250) (by decide +kernel)
theorem rf_235_36 {m : Int → Int → Int} (hr : RRef m) : m 235 36 = 251 := hr (235, 36, 251) (by decide +kernel)
theorem rf_235_37 {m : Int → Int → Int} (hr : RRef m) : m 235 37 = 252 := hr (235, 37, 252) (by decide +kernel)
theorem rf_235_38 {m : Int → Int → Int} (hr : RRef m) : m 235 38 = 253 := hr (235, 38, 253) (by decide +kernel)
theorem rf_235_39 {m : Int → Int → Int} (hr : RRef m) : m 235 39 = 254 := hr (235, 39, 254) (by decide +kernel)
theorem rf_235_40 {m : Int → Int → Int} (hr : RRef m) : m 235 40 = 255 := hr (235, 40, 255) (by decide +kernel)
theorem rf_235_41 {m : Int → Int → Int} (hr : RRef m) : m 235 41 = 256 := hr (235, 41, 256) (by decide +kernel)
theorem rf_235_43 {m : Int → Int → Int} (hr : RRef m) : m 235 43 = 257 := hr (235, 43, 257) (by decide +kernel)
def S6 : List Int := [11, 44, 77, 113, 162, 195]
theorem s6_t1 : ∀ s ∈ S6, (s, 0, s + 1) ∈ refT ∧ (s, 1, s + 2) ∈ refT ∧ (s, 2, s + 3) ∈ refT ∧ (s, 3, s + 4) ∈ refT ∧ (s + 4, 0, s + 5) ∈ refT := by decide +kernel
theorem s6_t2 : ∀ s ∈ S6, ∀ l, l < 12 → (s + 2, ((l : Nat) : Int), s + 13 + ((l : Nat) : Int)) ∈ refT := by decide +kernel
theorem s6_t3 : ∀ s ∈ S6, ∀ k, k < 4 → (s + 3, ((k : Nat) : Int), s + 25 + 2 * ((k : Nat) : Int)) ∈ refT ∧ (s + 25 + 2 * ((k : Nat) : Int), 0, s + 26 + 2 * ((k : Nat) : Int)) ∈ refT := by decide +kernel
theorem s6_h1 : ∀ s ∈ S6, (s, 6, 10) ∈ shT ∧ (s + 1, 19, 4) ∈ shT ∧ (s + 2, 22, 12) ∈ shT ∧ (s + 3, 23, 4) ∈ shT ∧ (s + 4, 9, 2) ∈ shT ∧ (s + 5, 18, 12) ∈ shT := by decide +kernel
theorem s6_h2 : ∀ s ∈ S6, ∀ l, l < 12 → (s + 13 + ((l : Nat) : Int), 2, 7) ∈ shT := by decide +kernel
theorem s6_h3 : ∀ s ∈ S6, ∀ k, k < 4 → (s + 25 + 2 * ((k : Nat) : Int), 1, 7) ∈ shT ∧ (s + 26 + 2 * ((k : Nat) : Int), 16, 12) ∈ shT := by decide +kernel
theorem s6_ref {m : Int → Int → Int} (hr : RRef m) {s : Int} (hs : s ∈ S6) : (m s 0 = s + 1 ∧ m s 1 = s + 2 ∧ m s 2 = s + 3 ∧ m s 3 = s + 4 ∧ m (s + 4) 0 = s + 5) ∧ (∀ l, 0 ≤ l → l < 12 → m (s + 2) l = s + 13 + l) ∧ (∀ k, 0 ≤ k → k < 4 → m (s + 3) k = s + 25 + 2 * k ∧ m (s + 25 + 2 * k) 0 = s + 26 + 2 * k) := by
  obtain ⟨a1, a2, a3, a4, a5⟩ := s6_t1 s hs
  have b := s6_t2 s hs
  have c := s6_t3 s hs
  refine ⟨⟨hr _ a1, hr _ a2, hr _ a3, hr _ a4, hr _ a5⟩, fun l h0 h1 => ?_, fun k h0 h1 => ?_⟩
  · have := hr _ (b l.toNat (by omega))
    dsimp only at this
    rwa [Int.toNat_of_nonneg h0] at this
  · have := c k.toNat (by omega)
    rw [Int.toNat_of_nonneg h0] at this
    exact ⟨hr _ this.1, hr _ this.2⟩
theorem s6_K {h : AM} (hp : Shp h) {s : Int} (hs : s ∈ S6) : (isK h s 6 ∧ isK h (s + 1) 19 ∧ mln h (s + 1) = 4 ∧ isK h (s + 2) 22 ∧ mln h (s + 2) = 12 ∧ isK h (s + 3) 23 ∧ mln h (s + 3) = 4 ∧ isK h (s + 4) 9 ∧ isK h (s + 5) 18 ∧ mln h (s + 5) = 12) ∧ (∀ l, 0 ≤ l → l < 12 → isK h (s + 13 + l) 2) ∧ (∀ k, 0 ≤ k → k < 4 → isK h (s + 25 + 2 * k) 1 ∧ isK h (s + 26 + 2 * k) 16 ∧ mln h (s + 26 + 2 * k) = 12) := by
  obtain ⟨a1, a2, a3, a4, a5, a6⟩ := s6_h1 s hs
  have b := s6_h2 s hs
  have c := s6_h3 s hs
  refine ⟨⟨(Shp_K hp a1).1, (Shp_K hp a2).1, (Shp_K hp a2).2, (Shp_K hp a3).1, (Shp_K hp a3).2, (Shp_K hp a4).1, (Shp_K hp a4).2, (Shp_K hp a5).1, (Shp_K hp a6).1, (Shp_K hp a6).2⟩, fun l h0 h1 => ?_, fun k h0 h1 => ?_⟩
  · have := b l.toNat (by omega)
    rw [Int.toNat_of_nonneg h0] at this
    exact (Shp_K hp this).1
  · have := c k.toNat (by omega)
    rw [Int.toNat_of_nonneg h0] at this
    exact ⟨(Shp_K hp this.1).1, (Shp_K hp this.2).1, (Shp_K hp this.2).2⟩
