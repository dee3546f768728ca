/-! what each place may hold -/
def RG0 : List (List (Int × Int) × (Int × Int) × Int) := [([(1, 1), (26, 26), (151, 151), (153, 153), (156, 156), (157, 157), (164, 164), (179, 179), (5, 180), ((-2147483648), 2147483647), (0, 6), (0, 100000)], ((-2147483648), 2147483647), 0),
  ([(2, 2), (5, 180), ((-2147483648), 2147483647), ((-2147483648), 2147483647), ((-2147483648), 2147483647)], ((-2147483648), 2147483647), 0),
  ([(3, 3), (4, 4), (0, 1600), (0, 1600), ((-2147483648), 2147483647), (0, 1600), ((-2147483648), 2147483647), ((-2147483648), 2147483647)], ((-2147483648), 2147483647), 0),
  ([], ((-128), 127), 0),
  ([], ((-2147483648), 2147483647), 0),
  ([(0, 6), (6, 6), (7, 7), ((-2147483648), 2147483647), (0, 10), (8, 8), (9, 9), (10, 10), ((-2147483648), 2147483647), (0, 1), (11, 11), ((-2147483648), 2147483647), (12, 12), (13, 13), ((-2147483648), 2147483647), ((-2147483648), 2147483647), ((-1), 999), (20, 20), (24, 24), (25, 25)], ((-2147483648), 2147483647), 0),
  ([], ((-2147483648), 2147483647), 0),
  ([], ((-2147483648), 2147483647), 0),
  ([], ((-2147483648), 2147483647), 0),
  ([], (0, 5), 0),
  ([], (0, 23), 0),
  ([], (0, 5), 0),
  ([], ((-2147483648), 2147483647), 0),
  ([(14, 14), (15, 15), (16, 16), (17, 17), (18, 18), (19, 19)], ((-2147483648), 2147483647), 0),
  ([], ((-2147483648), 2147483647), 0),
  ([], ((-2147483648), 2147483647), 0),
  ([], ((-2147483648), 2147483647), 0),
  ([], ((-2147483648), 2147483647), 0),
  ([], ((-2147483648), 2147483647), 0),
  ([], ((-2147483648), 2147483647), 0)]
def RG1 : List (List (Int × Int) × (Int × Int) × Int) := [([(21, 21), (22, 22), (23, 23), (0, 280), (0, 30), (0, 32)], ((-2147483648), 2147483647), 0),
  ([], ((-2147483648), 2147483647), 0),
  ([], ((-2147483648), 2147483647), 0),
  ([], ((-2147483648), 2147483647), 0),
  ([], ((-2147483648), 2147483647), 0),
  ([], ((-2147483648), 2147483647), 0),
  ([(27, 27), (0, 40), (0, 40)], ((-2147483648), 2147483647), 0),
  ([], (28, 148), 0),
  ([(29, 29), (30, 30), ((-2147483648), 2147483647), (0, 24), ((-2147483648), 2147483647), (0, 999)], ((-2147483648), 2147483647), 0),
  ([], ((-1), 5), 0),
  ([], ((-2147483648), 2147483647), 0),
  ([(32, 32), (33, 33), ((-2147483648), 2147483647), (0, 24), ((-2147483648), 2147483647), (0, 999)], ((-2147483648), 2147483647), 0),
  ([], ((-1), 5), 0),
  ([], ((-2147483648), 2147483647), 0),
  ([(35, 35), (36, 36), ((-2147483648), 2147483647), (0, 24), ((-2147483648), 2147483647), (0, 999)], ((-2147483648), 2147483647), 0),
  ([], ((-1), 5), 0),
  ([], ((-2147483648), 2147483647), 0),
  ([(38, 38), (39, 39), ((-2147483648), 2147483647), (0, 24), ((-2147483648), 2147483647), (0, 999)], ((-2147483648), 2147483647), 0),
  ([], ((-1), 5), 0),
  ([], ((-2147483648), 2147483647), 0)]
def RG2 : List (List (Int × Int) × (Int × Int) × Int) := [([(41, 41), (42, 42), ((-2147483648), 2147483647), (0, 24), ((-2147483648), 2147483647), (0, 999)], ((-2147483648), 2147483647), 0),
  ([], ((-1), 5), 0),
  ([], ((-2147483648), 2147483647), 0),
  ([(44, 44), (45, 45), ((-2147483648), 2147483647), (0, 24), ((-2147483648), 2147483647), (0, 999)], ((-2147483648), 2147483647), 0),
  ([], ((-1), 5), 0),
  ([], ((-2147483648), 2147483647), 0),
  ([(47, 47), (48, 48), ((-2147483648), 2147483647), (0, 24), ((-2147483648), 2147483647), (0, 999)], ((-2147483648), 2147483647), 0),
  ([], ((-1), 5), 0),
  ([], ((-2147483648), 2147483647), 0),
  ([(50, 50), (51, 51), ((-2147483648), 2147483647), (0, 24), ((-2147483648), 2147483647), (0, 999)], ((-2147483648), 2147483647), 0),
  ([], ((-1), 5), 0),
  ([], ((-2147483648), 2147483647), 0),
  ([(53, 53), (54, 54), ((-2147483648), 2147483647), (0, 24), ((-2147483648), 2147483647), (0, 999)], ((-2147483648), 2147483647), 0),
  ([], ((-1), 5), 0),
  ([], ((-2147483648), 2147483647), 0),
  ([(56, 56), (57, 57), ((-2147483648), 2147483647), (0, 24), ((-2147483648), 2147483647), (0, 999)], ((-2147483648), 2147483647), 0),
  ([], ((-1), 5), 0),
  ([], ((-2147483648), 2147483647), 0),
  ([(59, 59), (60, 60), ((-2147483648), 2147483647), (0, 24), ((-2147483648), 2147483647), (0, 999)], ((-2147483648), 2147483647), 0),
  ([], ((-1), 5), 0)]
def RG3 : List (List (Int × Int) × (Int × Int) × Int) := [([], ((-2147483648), 2147483647), 0),
  ([(62, 62), (63, 63), ((-2147483648), 2147483647), (0, 24), ((-2147483648), 2147483647), (0, 999)], ((-2147483648), 2147483647), 0),
  ([], ((-1), 5), 0),
  ([], ((-2147483648), 2147483647), 0),
  ([(65, 65), (66, 66), ((-2147483648), 2147483647), (0, 24), ((-2147483648), 2147483647), (0, 999)], ((-2147483648), 2147483647), 0),
  ([], ((-1), 5), 0),
  ([], ((-2147483648), 2147483647), 0),
  ([(68, 68), (69, 69), ((-2147483648), 2147483647), (0, 24), ((-2147483648), 2147483647), (0, 999)], ((-2147483648), 2147483647), 0),
  ([], ((-1), 5), 0),
  ([], ((-2147483648), 2147483647), 0),
  ([(71, 71), (72, 72), ((-2147483648), 2147483647), (0, 24), ((-2147483648), 2147483647), (0, 999)], ((-2147483648), 2147483647), 0),
  ([], ((-1), 5), 0),
  ([], ((-2147483648), 2147483647), 0),
  ([(74, 74), (75, 75), ((-2147483648), 2147483647), (0, 24), ((-2147483648), 2147483647), (0, 999)], ((-2147483648), 2147483647), 0),
  ([], ((-1), 5), 0),
  ([], ((-2147483648), 2147483647), 0),
  ([(77, 77), (78, 78), ((-2147483648), 2147483647), (0, 24), ((-2147483648), 2147483647), (0, 999)], ((-2147483648), 2147483647), 0),
  ([], ((-1), 5), 0),
  ([], ((-2147483648), 2147483647), 0),
  ([(80, 80), (81, 81), ((-2147483648), 2147483647), (0, 24), ((-2147483648), 2147483647), (0, 999)], ((-2147483648), 2147483647), 0)]
def RG4 : List (List (Int × Int) × (Int × Int) × Int) := [([], ((-1), 5), 0),
  ([], ((-2147483648), 2147483647), 0),
  ([(83, 83), (84, 84), ((-2147483648), 2147483647), (0, 24), ((-2147483648), 2147483647), (0, 999)], ((-2147483648), 2147483647), 0),
  ([], ((-1), 5), 0),
  ([], ((-2147483648), 2147483647), 0),
  ([(86, 86), (87, 87), ((-2147483648), 2147483647), (0, 24), ((-2147483648), 2147483647), (0, 999)], ((-2147483648), 2147483647), 0),
  ([], ((-1), 5), 0),
  ([], ((-2147483648), 2147483647), 0),
  ([(89, 89), (90, 90), ((-2147483648), 2147483647), (0, 24), ((-2147483648), 2147483647), (0, 999)], ((-2147483648), 2147483647), 0),
  ([], ((-1), 5), 0),
  ([], ((-2147483648), 2147483647), 0),
  ([(92, 92), (93, 93), ((-2147483648), 2147483647), (0, 24), ((-2147483648), 2147483647), (0, 999)], ((-2147483648), 2147483647), 0),
  ([], ((-1), 5), 0),
  ([], ((-2147483648), 2147483647), 0),
  ([(95, 95), (96, 96), ((-2147483648), 2147483647), (0, 24), ((-2147483648), 2147483647), (0, 999)], ((-2147483648), 2147483647), 0),
  ([], ((-1), 5), 0),
  ([], ((-2147483648), 2147483647), 0),
  ([(98, 98), (99, 99), ((-2147483648), 2147483647), (0, 24), ((-2147483648), 2147483647), (0, 999)], ((-2147483648), 2147483647), 0),
  ([], ((-1), 5), 0),
  ([], ((-2147483648), 2147483647), 0)]
def RG5 : List (List (Int × Int) × (Int × Int) × Int) := [([(101, 101), (102, 102), ((-2147483648), 2147483647), (0, 24), ((-2147483648), 2147483647), (0, 999)], ((-2147483648), 2147483647), 0),
  ([], ((-1), 5), 0),
  ([], ((-2147483648), 2147483647), 0),
  ([(104, 104), (105, 105), ((-2147483648), 2147483647), (0, 24), ((-2147483648), 2147483647), (0, 999)], ((-2147483648), 2147483647), 0),
  ([], ((-1), 5), 0),
  ([], ((-2147483648), 2147483647), 0),
  ([(107, 107), (108, 108), ((-2147483648), 2147483647), (0, 24), ((-2147483648), 2147483647), (0, 999)], ((-2147483648), 2147483647), 0),
  ([], ((-1), 5), 0),
  ([], ((-2147483648), 2147483647), 0),
  ([(110, 110), (111, 111), ((-2147483648), 2147483647), (0, 24), ((-2147483648), 2147483647), (0, 999)], ((-2147483648), 2147483647), 0),
  ([], ((-1), 5), 0),
  ([], ((-2147483648), 2147483647), 0),
  ([(113, 113), (114, 114), ((-2147483648), 2147483647), (0, 24), ((-2147483648), 2147483647), (0, 999)], ((-2147483648), 2147483647), 0),
  ([], ((-1), 5), 0),
  ([], ((-2147483648), 2147483647), 0),
  ([(116, 116), (117, 117), ((-2147483648), 2147483647), (0, 24), ((-2147483648), 2147483647), (0, 999)], ((-2147483648), 2147483647), 0),
  ([], ((-1), 5), 0),
  ([], ((-2147483648), 2147483647), 0),
  ([(119, 119), (120, 120), ((-2147483648), 2147483647), (0, 24), ((-2147483648), 2147483647), (0, 999)], ((-2147483648), 2147483647), 0),
  ([], ((-1), 5), 0)]
def RG6 : List (List (Int × Int) × (Int × Int) × Int) := [([], ((-2147483648), 2147483647), 0),
  ([(122, 122), (123, 123), ((-2147483648), 2147483647), (0, 24), ((-2147483648), 2147483647), (0, 999)], ((-2147483648), 2147483647), 0),
  ([], ((-1), 5), 0),
  ([], ((-2147483648), 2147483647), 0),
  ([(125, 125), (126, 126), ((-2147483648), 2147483647), (0, 24), ((-2147483648), 2147483647), (0, 999)], ((-2147483648), 2147483647), 0),
  ([], ((-1), 5), 0),
  ([], ((-2147483648), 2147483647), 0),
  ([(128, 128), (129, 129), ((-2147483648), 2147483647), (0, 24), ((-2147483648), 2147483647), (0, 999)], ((-2147483648), 2147483647), 0),
  ([], ((-1), 5), 0),
  ([], ((-2147483648), 2147483647), 0),
  ([(131, 131), (132, 132), ((-2147483648), 2147483647), (0, 24), ((-2147483648), 2147483647), (0, 999)], ((-2147483648), 2147483647), 0),
  ([], ((-1), 5), 0),
  ([], ((-2147483648), 2147483647), 0),
  ([(134, 134), (135, 135), ((-2147483648), 2147483647), (0, 24), ((-2147483648), 2147483647), (0, 999)], ((-2147483648), 2147483647), 0),
  ([], ((-1), 5), 0),
  ([], ((-2147483648), 2147483647), 0),
  ([(137, 137), (138, 138), ((-2147483648), 2147483647), (0, 24), ((-2147483648), 2147483647), (0, 999)], ((-2147483648), 2147483647), 0),
  ([], ((-1), 5), 0),
  ([], ((-2147483648), 2147483647), 0),
  ([(140, 140), (141, 141), ((-2147483648), 2147483647), (0, 24), ((-2147483648), 2147483647), (0, 999)], ((-2147483648), 2147483647), 0)]
def RG7 : List (List (Int × Int) × (Int × Int) × Int) := [([], ((-1), 5), 0),
  ([], ((-2147483648), 2147483647), 0),
  ([(143, 143), (144, 144), ((-2147483648), 2147483647), (0, 24), ((-2147483648), 2147483647), (0, 999)], ((-2147483648), 2147483647), 0),
  ([], ((-1), 5), 0),
  ([], ((-2147483648), 2147483647), 0),
  ([(146, 146), (147, 147), ((-2147483648), 2147483647), (0, 24), ((-2147483648), 2147483647), (0, 999)], ((-2147483648), 2147483647), 0),
  ([], ((-1), 5), 0),
  ([], ((-2147483648), 2147483647), 0),
  ([(149, 149), (150, 150), ((-2147483648), 2147483647), (0, 24), ((-2147483648), 2147483647), (0, 999)], ((-2147483648), 2147483647), 0),
  ([], ((-1), 5), 0),
  ([], ((-2147483648), 2147483647), 0),
  ([(152, 152)], ((-2147483648), 2147483647), 0),
  ([], ((-2147483648), 2147483647), 0),
  ([(154, 154), (155, 155), ((-2147483648), 2147483647), (0, 24), ((-2147483648), 2147483647), (0, 999)], ((-2147483648), 2147483647), 0),
  ([], ((-1), 5), 0),
  ([], ((-2147483648), 2147483647), 0),
  ([(201, 201), (204, 204), (207, 207)], ((-2147483648), 2147483647), 0),
  ([(158, 158), (160, 160), (161, 161), (162, 162), (163, 163)], ((-2147483648), 2147483647), 0),
  ([(159, 159), (0, 6)], ((-2147483648), 2147483647), 0),
  ([], (0, 5), 0)]
def RG8 : List (List (Int × Int) × (Int × Int) × Int) := [([], ((-1), 5), 0),
  ([], ((-2147483648), 2147483647), 0),
  ([], (0, 5), 0),
  ([], (0, 5), 0),
  ([(165, 165), (167, 167), (168, 168), (169, 169), (170, 170), (171, 171), (172, 172), ((-2147483648), 2147483647), (0, 30)], ((-2147483648), 2147483647), 0),
  ([(166, 166), (0, 6)], ((-2147483648), 2147483647), 0),
  ([], (0, 5), 0),
  ([], (0, 5), 0),
  ([], (0, 5), 0),
  ([], ((-2147483648), 2147483647), 0),
  ([], ((-2147483648), 2147483647), 0),
  ([], ((-2147483648), 2147483647), 0),
  ([(173, 173), (174, 174), (175, 175), (176, 176), (177, 177), (178, 178)], ((-2147483648), 2147483647), 0),
  ([], ((-2147483648), 2147483647), 0),
  ([], ((-2147483648), 2147483647), 0),
  ([], ((-2147483648), 2147483647), 0),
  ([], ((-2147483648), 2147483647), 0),
  ([], ((-2147483648), 2147483647), 0),
  ([], ((-2147483648), 2147483647), 0),
  ([], (0, 5), 0)]
def RG9 : List (List (Int × Int) × (Int × Int) × Int) := [([(0, 6), (181, 181), (182, 182), ((-2147483648), 2147483647), (0, 10), (183, 183), (184, 184), (185, 185), ((-2147483648), 2147483647), (0, 1), (186, 186), ((-2147483648), 2147483647), (187, 187), (188, 188), ((-2147483648), 2147483647), ((-2147483648), 2147483647), ((-1), 999), (195, 195), (199, 199), (200, 200)], ((-2147483648), 2147483647), 0),
  ([], ((-2147483648), 2147483647), 0),
  ([], ((-2147483648), 2147483647), 0),
  ([], ((-2147483648), 2147483647), 0),
  ([], (0, 5), 0),
  ([], (0, 23), 0),
  ([], (0, 5), 0),
  ([], ((-2147483648), 2147483647), 0),
  ([(189, 189), (190, 190), (191, 191), (192, 192), (193, 193), (194, 194)], ((-2147483648), 2147483647), 0),
  ([], ((-2147483648), 2147483647), 0),
  ([], ((-2147483648), 2147483647), 0),
  ([], ((-2147483648), 2147483647), 0),
  ([], ((-2147483648), 2147483647), 0),
  ([], ((-2147483648), 2147483647), 0),
  ([], ((-2147483648), 2147483647), 0),
  ([(196, 196), (197, 197), (198, 198), (0, 280), (0, 30), (0, 32)], ((-2147483648), 2147483647), 0),
  ([], ((-2147483648), 2147483647), 0),
  ([], ((-2147483648), 2147483647), 0),
  ([], ((-2147483648), 2147483647), 0),
  ([], ((-2147483648), 2147483647), 0)]
def RG10 : List (List (Int × Int) × (Int × Int) × Int) := [([], ((-2147483648), 2147483647), 0),
  ([(202, 202), (203, 203), ((-2147483648), 2147483647), (0, 24), ((-2147483648), 2147483647), (0, 999)], ((-2147483648), 2147483647), 0),
  ([], ((-1), 5), 0),
  ([], ((-2147483648), 2147483647), 0),
  ([(205, 205), (206, 206), ((-2147483648), 2147483647), (0, 24), ((-2147483648), 2147483647), (0, 999)], ((-2147483648), 2147483647), 0),
  ([], ((-1), 5), 0),
  ([], ((-2147483648), 2147483647), 0),
  ([(208, 208), (209, 209), ((-2147483648), 2147483647), (0, 24), ((-2147483648), 2147483647), (0, 999)], ((-2147483648), 2147483647), 0),
  ([], ((-1), 5), 0),
  ([], ((-2147483648), 2147483647), 0),
  ([(211, 211), (212, 212), (0, 1600), (0, 1600), ((-2147483648), 2147483647), ((-2147483648), 2147483647), (0, 1600), (0, 1600), ((-2147483648), 2147483647), ((-2147483648), 2147483647), ((-2147483648), 2147483647), (213, 213), (214, 214), (215, 215), (216, 216), (217, 217), (218, 218), (219, 219), (220, 220), (221, 221), (222, 222), (223, 223), (224, 224), (225, 225), (226, 226), (227, 227), (228, 228), (229, 229), (230, 230), (231, 231), (232, 232), (233, 233), (234, 234), (235, 235), (236, 236), (237, 237), (238, 238), (239, 239), (240, 240), (241, 241), (0, 1), (0, 1), (0, 1120), (0, 7), (0, 90), (0, 30), (0, 5), (242, 242), (243, 243), (244, 244), (0, 40), (0, 40), (245, 245), (246, 246), (0, 7), (247, 247), (248, 248), (249, 249), (250, 250), (251, 251), (252, 252), (253, 253), (254, 254), (0, 30), (0, 100000), ((-2147483648), 2147483647), (255, 255), (256, 256)], ((-2147483648), 2147483647), 0),
  ([], ((-128), 127), 0),
  ([], ((-128), 127), 0),
  ([], (0, 6), 0),
  ([], (0, 10), 0),
  ([], ((-2147483648), 2147483647), 0),
  ([], (0, 60), 0),
  ([], (0, 999), 0),
  ([], ((-2147483648), 2147483647), 0),
  ([], ((-2147483648), 2147483647), 0)]
def RG11 : List (List (Int × Int) × (Int × Int) × Int) := [([], ((-2147483648), 2147483647), 0),
  ([], ((-2147483648), 2147483647), 0),
  ([], (0, 5), 0),
  ([], (0, 5), 0),
  ([], ((-2147483648), 2147483647), 0),
  ([], ((-2147483648), 2147483647), 0),
  ([], ((-2147483648), 2147483647), 0),
  ([], ((-2147483648), 2147483647), 0),
  ([], ((-2147483648), 2147483647), 0),
  ([], (0, 1120), 0),
  ([], (0, 1120), 0),
  ([], (0, 1), 0),
  ([], (0, 1), 0),
  ([], (0, 1), 0),
  ([], (0, 1), 0),
  ([], ((-2147483648), 2147483647), 0),
  ([], ((-2147483648), 2147483647), 0),
  ([], ((-2147483648), 2147483647), 0),
  ([], ((-2147483648), 2147483647), 0),
  ([], (0, 8), 0)]
def RG12 : List (List (Int × Int) × (Int × Int) × Int) := [([], ((-2147483648), 2147483647), 0),
  ([], ((-2147483648), 2147483647), 0),
  ([(0, 5), (0, 5), (0, 5), (0, 5), (0, 5), (0, 5), ((-2147483648), 2147483647), ((-2147483648), 2147483647), ((-2147483648), 2147483647), ((-2147483648), 2147483647), ((-2147483648), 2147483647), ((-2147483648), 2147483647), ((-2147483648), 2147483647), ((-2147483648), 2147483647), ((-2147483648), 2147483647), (0, 999)], ((-2147483648), 2147483647), 16),
  ([], ((-2147483648), 2147483647), 0),
  ([(0, 5), (0, 5), (0, 5), (0, 5), (0, 5), (0, 5), ((-2147483648), 2147483647), ((-2147483648), 2147483647), ((-2147483648), 2147483647), ((-2147483648), 2147483647), ((-2147483648), 2147483647), ((-2147483648), 2147483647), ((-2147483648), 2147483647), ((-2147483648), 2147483647), ((-2147483648), 2147483647), (0, 999)], ((-2147483648), 2147483647), 16),
  ([(0, 5), (0, 5), (0, 5), (0, 5), (0, 5), (0, 5), ((-2147483648), 2147483647), ((-2147483648), 2147483647), ((-2147483648), 2147483647), ((-2147483648), 2147483647), ((-2147483648), 2147483647), ((-2147483648), 2147483647), ((-2147483648), 2147483647), ((-2147483648), 2147483647), ((-2147483648), 2147483647), (0, 999)], ((-2147483648), 2147483647), 16),
  ([], (0, 5), 0),
  ([], ((-1), 5), 0),
  ([], (0, 5), 0),
  ([], (0, 5), 0),
  ([], ((-2147483648), 2147483647), 0),
  ([], ((-2147483648), 2147483647), 0),
  ([], ((-2147483648), 2147483647), 0),
  ([], ((-2147483648), 2147483647), 0),
  ([], ((-2147483648), 2147483647), 0),
  ([(0, 5), (0, 5), (0, 5), (0, 5), (0, 5), (0, 5), ((-2147483648), 2147483647), ((-2147483648), 2147483647), ((-2147483648), 2147483647), ((-2147483648), 2147483647), ((-2147483648), 2147483647), ((-2147483648), 2147483647), ((-2147483648), 2147483647), ((-2147483648), 2147483647), ((-2147483648), 2147483647), (0, 999)], ((-2147483648), 2147483647), 16),
  ([], (0, 1), 0)]
def RGL : List (List (Int × Int) × (Int × Int) × Int) := RG0 ++ (RG1 ++ (RG2 ++ (RG3 ++ (RG4 ++ (RG5 ++ (RG6 ++ (RG7 ++ (RG8 ++ (RG9 ++ (RG10 ++ (RG11 ++ (RG12))))))))))))
def rg (k j : Int) : Int × Int := (RGL.getD k.toNat ([], (-2147483648, 2147483647), 0)).1.getD (if (RGL.getD k.toNat ([], (-2147483648, 2147483647), 0)).2.2 = 0 then j else j % (RGL.getD k.toNat ([], (-2147483648, 2147483647), 0)).2.2).toNat (RGL.getD k.toNat ([], (-2147483648, 2147483647), 0)).2.1
/-- a scene's cell -/
def Sc (s : Int) : Prop := (28 ≤ s ∧ s ≤ 148 ∧ s % 3 = 1) ∨ s = 153 ∨ s = 201 ∨ s = 204 ∨ s = 207
def Iv (M : MM) : Prop := (∀ k j, (rg k j).1 ≤ M.1 k j ∧ M.1 k j ≤ (rg k j).2) ∧ ∀ i, Sc (M.1 27 i)
def Fr (P : Int → Int → Prop) (M M' : MM) : Prop := ∀ a b, ¬ P a b → M'.1 a b = M.1 a b
theorem Iv.at {M : MM} (h : Iv M) (k j : Int) {lo hi : Int} (hr : rg k j = (lo, hi)) : lo ≤ M.1 k j ∧ M.1 k j ≤ hi := by
  have := h.1 k j
  rw [hr] at this
  exact this
theorem Iv.put {M : MM} (h : Iv M) {k j v lo hi : Int} (hr : rg k j = (lo, hi)) (h1 : lo ≤ v) (h2 : v ≤ hi) (h3 : k ≠ 27 ∨ Sc v) : Iv (up M k j v) := by
  refine ⟨fun a b => ?_, fun i => ?_⟩
  · unfold up
    dsimp only
    split
    · rename_i e
      rw [e.1, e.2, hr]
      exact ⟨h1, h2⟩
    · exact h.1 a b
  · unfold up
    dsimp only
    split
    · rename_i e
      rcases h3 with h3 | h3
      · exact absurd e.1.symm h3
      · exact h3
    · exact h.2 i
theorem Fr.rf {P : Int → Int → Prop} {M : MM} : Fr P M M := fun _ _ _ => rfl
theorem Fr.put {P : Int → Int → Prop} {M0 M M' : MM} {k j v : Int} (h : Fr P M0 M) (e : M' = up M k j v) (hp : P k j) : Fr P M0 M' := by
  intro a b hab
  rw [e, up_ne (fun q => hab (by rw [q.1, q.2]; exact hp))]
  exact h a b hab
theorem Fr.l {P : Int → Int → Prop} {M0 M M' : MM} (h : Fr P M0 M) (e : M'.1 = M.1) : Fr P M0 M' := fun a b hab => by rw [e]; exact h a b hab
theorem Fr.trans {P P' : Int → Int → Prop} {M0 M M' : MM} (h : Fr P M0 M) (h' : Fr P' M M') (hs : ∀ a b, P' a b → P a b) : Fr P M0 M' := fun a b hab => (h' a b (fun q => hab (hs a b q))).trans (h a b hab)
section JI
variable {X : CT} {B N ce sl L : Nat} {cc : ByteArray} {own : String} {pc : Nat} {lv lv' : List (Nat × Value)} {st : List Value} {M : MM}
theorem j_name (hI : Iv M) {k j lo hi : Int} (hr : rg k j = (lo, hi)) (kk : ∀ v : Int, v = M.1 k j → lo ≤ v → v ≤ hi → J X B N ce sl pc lv (iv v :: st) M) : J X B N ce sl pc lv (iv (M.1 k j) :: st) M := kk _ rfl (hI.at k j hr).1 (hI.at k j hr).2
theorem j_up (hI : Iv M) {k j e lo hi : Int} (hr : rg k j = (lo, hi)) (h1 : lo ≤ e) (h2 : e ≤ hi) (h3 : k ≠ 27 ∨ Sc e) (kk : ∀ (M' : MM) (w : Int), w = e → M' = up M k j w → Iv M' → M'.1 k j = w → J X B N ce sl pc lv st M') : J X B N ce sl pc lv st (up M k j e) := kk _ e rfl rfl (hI.put hr h1 h2 h3) up_eq
/-- a store that breaks the ranges for a while -/
theorem j_upR {k j e : Int} (kk : ∀ (M' : MM) (w : Int), w = e → M' = up M k j w → M'.1 k j = w → J X B N ce sl pc lv st M') : J X B N ce sl pc lv st (up M k j e) := kk _ e rfl rfl up_eq
theorem j_upL (hI : Iv M) {k j : Int} {v : Int64} (kk : ∀ (M' : MM), M'.1 = M.1 → Iv M' → J X B N ce sl pc lv st M') : J X B N ce sl pc lv st (upL M k j v) := kk _ rfl hI
end JI
theorem kp_up {M M' : MM} {k j w a b v : Int} (e : M' = up M k j w) (h : ¬ (a = k ∧ b = j)) (hv : M.1 a b = v) : M'.1 a b = v := by rw [e, up_ne h, hv]
theorem kp_l {M M' : MM} {a b v : Int} (e : M'.1 = M.1) (hv : M.1 a b = v) : M'.1 a b = v := by rw [e, hv]
theorem kp_fr {P : Int → Int → Prop} {M M' : MM} {a b v : Int} (h : Fr P M M') (hp : ¬ P a b) (hv : M.1 a b = v) : M'.1 a b = v := by rw [h a b hp, hv]
theorem norm_f {a z : Int} (h : z = (Int32.ofInt a).toInt) : (-2147483648 ≤ a ∧ a ≤ 2147483647) → z = a := fun g => by rw [h, i32_int g]
theorem nb {z : Int} (h : z = 0 ∨ z = 1) : narrow .boolean (iv z) = iv z := by rcases h with h | h <;> subst h <;> rfl
def SCL : List Int := [28, 31, 34, 37, 40, 43, 46, 49, 52, 55, 58, 61, 64, 67, 70, 73, 76, 79, 82, 85, 88, 91, 94, 97, 100, 103, 106, 109, 112, 115, 118, 121, 124, 127, 130, 133, 136, 139, 142, 145, 148, 153, 201, 204, 207]
theorem sc_in {s : Int} (h : Sc s) : s ∈ SCL := by
  rcases h with ⟨h1, h2, h3⟩ | h | h | h | h
  · obtain ⟨i, hi, e⟩ : ∃ i : Nat, i < 41 ∧ s = 28 + 3 * (i : Int) := ⟨((s - 28) / 3).toNat, by omega, by omega⟩
    subst e
    exact (by decide +kernel : ∀ i : Nat, i < 41 → (28 + 3 * (i : Int)) ∈ SCL) i hi
  all_goals (subst h; decide +kernel)
theorem sc_b {s : Int} (h : Sc s) : (28 ≤ s ∧ s ≤ 148) ∨ s = 153 ∨ (201 ≤ s ∧ s ≤ 207) := by rcases h with ⟨h1, h2, h3⟩ | h | h | h | h <;> omega
theorem sc_k0 {s : Int} (h : Sc s) : kd s = .inl 8 := (by decide +kernel : ∀ s ∈ SCL, kd s = .inl 8) s (sc_in h)
theorem sc_k1 {s : Int} (h : Sc s) : kd (s + 1) = .inr (0, 6) := (by decide +kernel : ∀ s ∈ SCL, kd (s + 1) = .inr (0, 6)) s (sc_in h)
theorem sc_k2 {s : Int} (h : Sc s) : kd (s + 2) = .inr (0, 6) := (by decide +kernel : ∀ s ∈ SCL, kd (s + 2) = .inr (0, 6)) s (sc_in h)
theorem sc_r0 {s : Int} (h : Sc s) : rg s 0 = (s + 1, s + 1) := (by decide +kernel : ∀ s ∈ SCL, rg s 0 = (s + 1, s + 1)) s (sc_in h)
theorem sc_r1 {s : Int} (h : Sc s) : rg s 1 = (s + 2, s + 2) := (by decide +kernel : ∀ s ∈ SCL, rg s 1 = (s + 2, s + 2)) s (sc_in h)
theorem sc_r2 {s : Int} (h : Sc s) : rg s 2 = (-2147483648, 2147483647) := (by decide +kernel : ∀ s ∈ SCL, rg s 2 = (-2147483648, 2147483647)) s (sc_in h)
theorem sc_r3 {s : Int} (h : Sc s) : rg s 3 = (0, 24) := (by decide +kernel : ∀ s ∈ SCL, rg s 3 = (0, 24)) s (sc_in h)
theorem sc_r4 {s : Int} (h : Sc s) : rg s 4 = (-2147483648, 2147483647) := (by decide +kernel : ∀ s ∈ SCL, rg s 4 = (-2147483648, 2147483647)) s (sc_in h)
theorem sc_r5 {s : Int} (h : Sc s) : rg s 5 = (0, 999) := (by decide +kernel : ∀ s ∈ SCL, rg s 5 = (0, 999)) s (sc_in h)
theorem rg_u {k j lo hi : Int} (h : RGL.getD k.toNat ([], (-2147483648, 2147483647), 0) = ([], (lo, hi), 0)) : rg k j = (lo, hi) := by
  unfold rg
  rw [h]
  rfl
theorem sc_w {s : Int} (h : Sc s) (j : Int) : rg (s + 1) j = (-1, 5) := rg_u ((by decide +kernel : ∀ s ∈ SCL, RGL.getD (s + 1).toNat ([], (-2147483648, 2147483647), 0) = ([], (-1, 5), 0)) s (sc_in h))
theorem sc_n {s : Int} (h : Sc s) (j : Int) : rg (s + 2) j = (-2147483648, 2147483647) := rg_u ((by decide +kernel : ∀ s ∈ SCL, RGL.getD (s + 2).toNat ([], (-2147483648, 2147483647), 0) = ([], (-2147483648, 2147483647), 0)) s (sc_in h))
theorem sc_f0 {M : MM} {s : Int} (hI : Iv M) (h : Sc s) : M.1 s 0 = s + 1 := by have := hI.at s 0 (sc_r0 h); omega
theorem sc_f1 {M : MM} {s : Int} (hI : Iv M) (h : Sc s) : M.1 s 1 = s + 2 := by have := hI.at s 1 (sc_r1 h); omega
theorem kq_0 {q : Int} (h : q = 5 ∨ q = 180) : kd (q + 0) = .inl 6 := by rcases h with h | h <;> subst h <;> decide +kernel
theorem kq_1 {q : Int} (h : q = 5 ∨ q = 180) : kd (q + 1) = .inr (3, 6) := by rcases h with h | h <;> subst h <;> decide +kernel
theorem kq_2 {q : Int} (h : q = 5 ∨ q = 180) : kd (q + 2) = .inr (0, 6) := by rcases h with h | h <;> subst h <;> decide +kernel
theorem kq_3 {q : Int} (h : q = 5 ∨ q = 180) : kd (q + 3) = .inr (3, 10) := by rcases h with h | h <;> subst h <;> decide +kernel
theorem kq_4 {q : Int} (h : q = 5 ∨ q = 180) : kd (q + 4) = .inr (0, 10) := by rcases h with h | h <;> subst h <;> decide +kernel
theorem kq_5 {q : Int} (h : q = 5 ∨ q = 180) : kd (q + 5) = .inr (0, 10) := by rcases h with h | h <;> subst h <;> decide +kernel
theorem kq_6 {q : Int} (h : q = 5 ∨ q = 180) : kd (q + 6) = .inr (0, 6) := by rcases h with h | h <;> subst h <;> decide +kernel
theorem kq_7 {q : Int} (h : q = 5 ∨ q = 180) : kd (q + 7) = .inr (0, 6) := by rcases h with h | h <;> subst h <;> decide +kernel
theorem kq_8 {q : Int} (h : q = 5 ∨ q = 180) : kd (q + 8) = .inr (5, 6) := by rcases h with h | h <;> subst h <;> decide +kernel
theorem kq_9 {q : Int} (h : q = 5 ∨ q = 180) : kd (q + 9) = .inr (0, 6) := by rcases h with h | h <;> subst h <;> decide +kernel
theorem kq_10 {q : Int} (h : q = 5 ∨ q = 180) : kd (q + 10) = .inr (0, 6) := by rcases h with h | h <;> subst h <;> decide +kernel
theorem kq_11 {q : Int} (h : q = 5 ∨ q = 180) : kd (q + 11) = .inr (0, 6) := by rcases h with h | h <;> subst h <;> decide +kernel
theorem kq_12 {q : Int} (h : q = 5 ∨ q = 180) : kd (q + 12) = .inr (0, 6) := by rcases h with h | h <;> subst h <;> decide +kernel
theorem kq_13 {q : Int} (h : q = 5 ∨ q = 180) : kd (q + 13) = .inr (0, 6) := by rcases h with h | h <;> subst h <;> decide +kernel
theorem kq_14 {q : Int} (h : q = 5 ∨ q = 180) : kd (q + 14) = .inr (0, 6) := by rcases h with h | h <;> subst h <;> decide +kernel
theorem kq_15 {q : Int} (h : q = 5 ∨ q = 180) : kd (q + 15) = .inl 2 := by rcases h with h | h <;> subst h <;> decide +kernel
theorem kq_16 {q : Int} (h : q = 5 ∨ q = 180) : kd (q + 16) = .inr (0, 280) := by rcases h with h | h <;> subst h <;> decide +kernel
theorem kq_17 {q : Int} (h : q = 5 ∨ q = 180) : kd (q + 17) = .inr (0, 32) := by rcases h with h | h <;> subst h <;> decide +kernel
theorem kq_18 {q : Int} (h : q = 5 ∨ q = 180) : kd (q + 18) = .inr (0, 22) := by rcases h with h | h <;> subst h <;> decide +kernel
theorem kq_19 {q : Int} (h : q = 5 ∨ q = 180) : kd (q + 19) = .inr (0, 6) := by rcases h with h | h <;> subst h <;> decide +kernel
theorem kq_20 {q : Int} (h : q = 5 ∨ q = 180) : kd (q + 20) = .inr (0, 24) := by rcases h with h | h <;> subst h <;> decide +kernel
theorem kq {q : Int} (h : q = 5 ∨ q = 180) : kd q = .inl 6 := by rcases h with h | h <;> subst h <;> decide +kernel
theorem rq_0 {q : Int} (h : q = 5 ∨ q = 180) : rg q 0 = (0, 6) := by rcases h with h | h <;> subst h <;> decide +kernel
theorem fq_1 {M : MM} {q : Int} (hI : Iv M) (h : q = 5 ∨ q = 180) : M.1 q 1 = q + 1 := by
  rcases h with h | h <;> subst h
  · have := hI.at 5 1 (lo := 6) (hi := 6) (by decide +kernel); omega
  · have := hI.at 180 1 (lo := 181) (hi := 181) (by decide +kernel); omega
theorem fq_2 {M : MM} {q : Int} (hI : Iv M) (h : q = 5 ∨ q = 180) : M.1 q 2 = q + 2 := by
  rcases h with h | h <;> subst h
  · have := hI.at 5 2 (lo := 7) (hi := 7) (by decide +kernel); omega
  · have := hI.at 180 2 (lo := 182) (hi := 182) (by decide +kernel); omega
theorem rq_3 {q : Int} (h : q = 5 ∨ q = 180) : rg q 3 = ((-2147483648), 2147483647) := by rcases h with h | h <;> subst h <;> decide +kernel
theorem rq_4 {q : Int} (h : q = 5 ∨ q = 180) : rg q 4 = (0, 10) := by rcases h with h | h <;> subst h <;> decide +kernel
theorem fq_5 {M : MM} {q : Int} (hI : Iv M) (h : q = 5 ∨ q = 180) : M.1 q 5 = q + 3 := by
  rcases h with h | h <;> subst h
  · have := hI.at 5 5 (lo := 8) (hi := 8) (by decide +kernel); omega
  · have := hI.at 180 5 (lo := 183) (hi := 183) (by decide +kernel); omega
theorem fq_6 {M : MM} {q : Int} (hI : Iv M) (h : q = 5 ∨ q = 180) : M.1 q 6 = q + 4 := by
  rcases h with h | h <;> subst h
  · have := hI.at 5 6 (lo := 9) (hi := 9) (by decide +kernel); omega
  · have := hI.at 180 6 (lo := 184) (hi := 184) (by decide +kernel); omega
theorem fq_7 {M : MM} {q : Int} (hI : Iv M) (h : q = 5 ∨ q = 180) : M.1 q 7 = q + 5 := by
  rcases h with h | h <;> subst h
  · have := hI.at 5 7 (lo := 10) (hi := 10) (by decide +kernel); omega
  · have := hI.at 180 7 (lo := 185) (hi := 185) (by decide +kernel); omega
theorem rq_8 {q : Int} (h : q = 5 ∨ q = 180) : rg q 8 = ((-2147483648), 2147483647) := by rcases h with h | h <;> subst h <;> decide +kernel
theorem rq_9 {q : Int} (h : q = 5 ∨ q = 180) : rg q 9 = (0, 1) := by rcases h with h | h <;> subst h <;> decide +kernel
theorem fq_10 {M : MM} {q : Int} (hI : Iv M) (h : q = 5 ∨ q = 180) : M.1 q 10 = q + 6 := by
  rcases h with h | h <;> subst h
  · have := hI.at 5 10 (lo := 11) (hi := 11) (by decide +kernel); omega
  · have := hI.at 180 10 (lo := 186) (hi := 186) (by decide +kernel); omega
theorem rq_11 {q : Int} (h : q = 5 ∨ q = 180) : rg q 11 = ((-2147483648), 2147483647) := by rcases h with h | h <;> subst h <;> decide +kernel
theorem fq_12 {M : MM} {q : Int} (hI : Iv M) (h : q = 5 ∨ q = 180) : M.1 q 12 = q + 7 := by
  rcases h with h | h <;> subst h
  · have := hI.at 5 12 (lo := 12) (hi := 12) (by decide +kernel); omega
  · have := hI.at 180 12 (lo := 187) (hi := 187) (by decide +kernel); omega
theorem fq_13 {M : MM} {q : Int} (hI : Iv M) (h : q = 5 ∨ q = 180) : M.1 q 13 = q + 8 := by
  rcases h with h | h <;> subst h
  · have := hI.at 5 13 (lo := 13) (hi := 13) (by decide +kernel); omega
  · have := hI.at 180 13 (lo := 188) (hi := 188) (by decide +kernel); omega
theorem rq_14 {q : Int} (h : q = 5 ∨ q = 180) : rg q 14 = ((-2147483648), 2147483647) := by rcases h with h | h <;> subst h <;> decide +kernel
theorem rq_15 {q : Int} (h : q = 5 ∨ q = 180) : rg q 15 = ((-2147483648), 2147483647) := by rcases h with h | h <;> subst h <;> decide +kernel
theorem rq_16 {q : Int} (h : q = 5 ∨ q = 180) : rg q 16 = ((-1), 999) := by rcases h with h | h <;> subst h <;> decide +kernel
theorem fq_17 {M : MM} {q : Int} (hI : Iv M) (h : q = 5 ∨ q = 180) : M.1 q 17 = q + 15 := by
  rcases h with h | h <;> subst h
  · have := hI.at 5 17 (lo := 20) (hi := 20) (by decide +kernel); omega
  · have := hI.at 180 17 (lo := 195) (hi := 195) (by decide +kernel); omega
theorem fq_18 {M : MM} {q : Int} (hI : Iv M) (h : q = 5 ∨ q = 180) : M.1 q 18 = q + 19 := by
  rcases h with h | h <;> subst h
  · have := hI.at 5 18 (lo := 24) (hi := 24) (by decide +kernel); omega
  · have := hI.at 180 18 (lo := 199) (hi := 199) (by decide +kernel); omega
theorem fq_19 {M : MM} {q : Int} (hI : Iv M) (h : q = 5 ∨ q = 180) : M.1 q 19 = q + 20 := by
  rcases h with h | h <;> subst h
  · have := hI.at 5 19 (lo := 25) (hi := 25) (by decide +kernel); omega
  · have := hI.at 180 19 (lo := 200) (hi := 200) (by decide +kernel); omega
theorem aq_1 {q : Int} (h : q = 5 ∨ q = 180) (j : Int) : rg (q + 1) j = ((-2147483648), 2147483647) := by rcases h with h | h <;> subst h <;> exact rg_u (by decide +kernel)
theorem aq_2 {q : Int} (h : q = 5 ∨ q = 180) (j : Int) : rg (q + 2) j = ((-2147483648), 2147483647) := by rcases h with h | h <;> subst h <;> exact rg_u (by decide +kernel)
theorem aq_3 {q : Int} (h : q = 5 ∨ q = 180) (j : Int) : rg (q + 3) j = ((-2147483648), 2147483647) := by rcases h with h | h <;> subst h <;> exact rg_u (by decide +kernel)
theorem aq_4 {q : Int} (h : q = 5 ∨ q = 180) (j : Int) : rg (q + 4) j = (0, 5) := by rcases h with h | h <;> subst h <;> exact rg_u (by decide +kernel)
theorem aq_5 {q : Int} (h : q = 5 ∨ q = 180) (j : Int) : rg (q + 5) j = (0, 23) := by rcases h with h | h <;> subst h <;> exact rg_u (by decide +kernel)
theorem aq_6 {q : Int} (h : q = 5 ∨ q = 180) (j : Int) : rg (q + 6) j = (0, 5) := by rcases h with h | h <;> subst h <;> exact rg_u (by decide +kernel)
theorem aq_7 {q : Int} (h : q = 5 ∨ q = 180) (j : Int) : rg (q + 7) j = ((-2147483648), 2147483647) := by rcases h with h | h <;> subst h <;> exact rg_u (by decide +kernel)
theorem aq_9 {q : Int} (h : q = 5 ∨ q = 180) (j : Int) : rg (q + 9) j = ((-2147483648), 2147483647) := by rcases h with h | h <;> subst h <;> exact rg_u (by decide +kernel)
theorem aq_10 {q : Int} (h : q = 5 ∨ q = 180) (j : Int) : rg (q + 10) j = ((-2147483648), 2147483647) := by rcases h with h | h <;> subst h <;> exact rg_u (by decide +kernel)
theorem aq_11 {q : Int} (h : q = 5 ∨ q = 180) (j : Int) : rg (q + 11) j = ((-2147483648), 2147483647) := by rcases h with h | h <;> subst h <;> exact rg_u (by decide +kernel)
theorem aq_12 {q : Int} (h : q = 5 ∨ q = 180) (j : Int) : rg (q + 12) j = ((-2147483648), 2147483647) := by rcases h with h | h <;> subst h <;> exact rg_u (by decide +kernel)
theorem aq_13 {q : Int} (h : q = 5 ∨ q = 180) (j : Int) : rg (q + 13) j = ((-2147483648), 2147483647) := by rcases h with h | h <;> subst h <;> exact rg_u (by decide +kernel)
theorem aq_14 {q : Int} (h : q = 5 ∨ q = 180) (j : Int) : rg (q + 14) j = ((-2147483648), 2147483647) := by rcases h with h | h <;> subst h <;> exact rg_u (by decide +kernel)
theorem aq_16 {q : Int} (h : q = 5 ∨ q = 180) (j : Int) : rg (q + 16) j = ((-2147483648), 2147483647) := by rcases h with h | h <;> subst h <;> exact rg_u (by decide +kernel)
theorem aq_17 {q : Int} (h : q = 5 ∨ q = 180) (j : Int) : rg (q + 17) j = ((-2147483648), 2147483647) := by rcases h with h | h <;> subst h <;> exact rg_u (by decide +kernel)
theorem aq_18 {q : Int} (h : q = 5 ∨ q = 180) (j : Int) : rg (q + 18) j = ((-2147483648), 2147483647) := by rcases h with h | h <;> subst h <;> exact rg_u (by decide +kernel)
theorem aq_19 {q : Int} (h : q = 5 ∨ q = 180) (j : Int) : rg (q + 19) j = ((-2147483648), 2147483647) := by rcases h with h | h <;> subst h <;> exact rg_u (by decide +kernel)
theorem aq_20 {q : Int} (h : q = 5 ∨ q = 180) (j : Int) : rg (q + 20) j = ((-2147483648), 2147483647) := by rcases h with h | h <;> subst h <;> exact rg_u (by decide +kernel)
theorem fr_0 {M : MM} {q : Int} (hI : Iv M) (h : q = 5 ∨ q = 180) : M.1 (q + 15) 0 = q + 16 := by
  rcases h with h | h <;> subst h
  · have := hI.at (5 + 15) 0 (lo := 21) (hi := 21) (by decide +kernel); omega
  · have := hI.at (180 + 15) 0 (lo := 196) (hi := 196) (by decide +kernel); omega
theorem fr_1 {M : MM} {q : Int} (hI : Iv M) (h : q = 5 ∨ q = 180) : M.1 (q + 15) 1 = q + 17 := by
  rcases h with h | h <;> subst h
  · have := hI.at (5 + 15) 1 (lo := 22) (hi := 22) (by decide +kernel); omega
  · have := hI.at (180 + 15) 1 (lo := 197) (hi := 197) (by decide +kernel); omega
theorem fr_2 {M : MM} {q : Int} (hI : Iv M) (h : q = 5 ∨ q = 180) : M.1 (q + 15) 2 = q + 18 := by
  rcases h with h | h <;> subst h
  · have := hI.at (5 + 15) 2 (lo := 23) (hi := 23) (by decide +kernel); omega
  · have := hI.at (180 + 15) 2 (lo := 198) (hi := 198) (by decide +kernel); omega
theorem rr_3 {q : Int} (h : q = 5 ∨ q = 180) : rg (q + 15) 3 = (0, 280) := by rcases h with h | h <;> subst h <;> decide +kernel
theorem rr_4 {q : Int} (h : q = 5 ∨ q = 180) : rg (q + 15) 4 = (0, 30) := by rcases h with h | h <;> subst h <;> decide +kernel
theorem rr_5 {q : Int} (h : q = 5 ∨ q = 180) : rg (q + 15) 5 = (0, 32) := by rcases h with h | h <;> subst h <;> decide +kernel
theorem kw {q i : Int} (h : q = 5 ∨ q = 180) (h0 : 0 ≤ i) (h1 : i < 6) : kd (q + 9 + i) = .inr (0, 6) := by
  have h2 : i = 0 ∨ i = 1 ∨ i = 2 ∨ i = 3 ∨ i = 4 ∨ i = 5 := by omega
  rcases h with h | h <;> subst h <;> rcases h2 with h | h | h | h | h | h <;> subst h <;> decide +kernel
theorem aw {q i : Int} (h : q = 5 ∨ q = 180) (h0 : 0 ≤ i) (h1 : i < 6) (j : Int) : rg (q + 9 + i) j = (-2147483648, 2147483647) := by
  have h2 : i = 0 ∨ i = 1 ∨ i = 2 ∨ i = 3 ∨ i = 4 ∨ i = 5 := by omega
  rcases h with h | h <;> subst h <;> rcases h2 with h | h | h | h | h | h <;> subst h <;> exact rg_u (by decide +kernel)
theorem fw {M : MM} {q i : Int} (hI : Iv M) (h : q = 5 ∨ q = 180) (h0 : 0 ≤ i) (h1 : i < 6) : M.1 (q + 8) i = q + 9 + i := by
  have e : rg (q + 8) i = (q + 9 + i, q + 9 + i) := by
    have h2 : i = 0 ∨ i = 1 ∨ i = 2 ∨ i = 3 ∨ i = 4 ∨ i = 5 := by omega
    rcases h with h | h <;> subst h <;> rcases h2 with h | h | h | h | h | h <;> subst h <;> decide +kernel
  have := hI.at (q + 8) i e
  omega
theorem kt {i : Int} (h0 : 0 ≤ i) (h1 : i < 6) : kd (173 + i) = .inr (0, 6) := by
  have h2 : i = 0 ∨ i = 1 ∨ i = 2 ∨ i = 3 ∨ i = 4 ∨ i = 5 := by omega
  rcases h2 with h | h | h | h | h | h <;> subst h <;> decide +kernel
theorem at_ {i : Int} (h0 : 0 ≤ i) (h1 : i < 6) (j : Int) : rg (173 + i) j = (-2147483648, 2147483647) := by
  have h2 : i = 0 ∨ i = 1 ∨ i = 2 ∨ i = 3 ∨ i = 4 ∨ i = 5 := by omega
  rcases h2 with h | h | h | h | h | h <;> subst h <;> exact rg_u (by decide +kernel)
theorem ftl {M : MM} {i : Int} (hI : Iv M) (h0 : 0 ≤ i) (h1 : i < 6) : M.1 172 i = 173 + i := by
  have e : rg 172 i = (173 + i, 173 + i) := by
    have h2 : i = 0 ∨ i = 1 ∨ i = 2 ∨ i = 3 ∨ i = 4 ∨ i = 5 := by omega
    rcases h2 with h | h | h | h | h | h <;> subst h <;> decide +kernel
  have := hI.at 172 i e
  omega
theorem fbx {M : MM} {i : Int} (hI : Iv M) (h0 : 0 ≤ i) (h1 : i < 3) : M.1 156 i = 201 + 3 * i := by
  have e : rg 156 i = (201 + 3 * i, 201 + 3 * i) := by
    have h2 : i = 0 ∨ i = 1 ∨ i = 2 := by omega
    rcases h2 with h | h | h <;> subst h <;> decide +kernel
  have := hI.at 156 i e
  omega
theorem bx_sc {M : MM} {i : Int} (hI : Iv M) (h0 : 0 ≤ i) (h1 : i < 3) : Sc (M.1 156 i) := by
  rw [fbx hI h0 h1]
  unfold Sc
  omega
section JS
variable {X : CT} {B N ce sl L : Nat} {cc : ByteArray} {own : String} {pc : Nat} {lv lv' : List (Nat × Value)} {st : List Value} {M : MM}
theorem j_aald4n (hX : Cx X B L cc own) {k i : Int} {n : Nat} (h0 : 0 ≤ k) (hN : k < N) (hk : kd k = .inr (4, n)) (hi0 : 0 ≤ i) (hi1 : i < n) (hn : (n : Int) ≤ 2147483647) (hs : Sc (M.1 k i)) (d : decode cc pc = .ok (.aaload, 1)) (kk : ∀ z : Int, z = M.1 k i → Sc z → J X B N ce sl (pc + 1) lv (rv B z :: st) M) : J X B N ce sl pc lv (iv i :: rv B k :: st) M := j_aald4 hX h0 hN hk hi0 hi1 hn rfl (by have := sc_b hs; omega) d (kk _ rfl hs)
end JS
theorem ko_0 {o : Int} (h : o = 158 ∨ o = 165) : kd o = .inl 4 := by rcases h with h | h <;> subst h <;> decide +kernel
theorem ko_1 {o : Int} (h : o = 158 ∨ o = 165) : kd (o + 1) = .inr (0, 6) := by rcases h with h | h <;> subst h <;> decide +kernel
theorem rgo_1 {o : Int} (h : o = 158 ∨ o = 165) : rg o 1 = (0, 6) := by rcases h with h | h <;> subst h <;> decide +kernel
theorem rgo_a {o : Int} (h : o = 158 ∨ o = 165) (j : Int) : rg (o + 1) j = (0, 5) := by rcases h with h | h <;> subst h <;> exact rg_u (by decide +kernel)
theorem fo_0 {M : MM} {o : Int} (hI : Iv M) (h : o = 158 ∨ o = 165) : M.1 o 0 = o + 1 := by
  rcases h with h | h <;> subst h
  · have := hI.at 158 0 (lo := 159) (hi := 159) (by decide +kernel); omega
  · have := hI.at 165 0 (lo := 166) (hi := 166) (by decide +kernel); omega
theorem kpp {p : Int} (h : p = 161 ∨ p = 171) : kd p = .inr (0, 6) := by rcases h with h | h <;> subst h <;> decide +kernel
theorem rgp_a {p : Int} (h : p = 161 ∨ p = 171) (j : Int) : rg p j = (-2147483648, 2147483647) := by rcases h with h | h <;> subst h <;> exact rg_u (by decide +kernel)
/-- a number that has been read is none below zero -/
def KNo (M : MM) : Prop := M.1 2 4 = 2 → 0 ≤ M.1 2 6
theorem KN_up {M M' : MM} {k j w : Int} (h : KNo M) (e : M' = up M k j w) (hk : ¬ (k = 2 ∧ (j = 4 ∨ j = 6))) : KNo M' := by
  intro h4
  rw [e, up_ne (fun q => hk ⟨q.1.symm, Or.inl q.2.symm⟩)] at h4
  rw [e, up_ne (fun q => hk ⟨q.1.symm, Or.inr q.2.symm⟩)]
  exact h h4
theorem KN_l {M M' : MM} (h : KNo M) (e : M'.1 = M.1) : KNo M' := by intro h4; rw [e] at h4 ⊢; exact h h4
theorem KN_fr {P : Int → Int → Prop} {M M' : MM} (h : KNo M) (hG : Fr P M M') (h4 : ¬ P 2 4) (h6 : ¬ P 2 6) : KNo M' := by intro e4; rw [hG _ _ h4] at e4; rw [hG _ _ h6]; exact h e4
theorem tmod_p {a b z : Int} (h : z = a.tmod b) (ha : 0 ≤ a) (hb : 0 < b) : 0 ≤ z ∧ z < b ∧ z ≤ a := by
  subst h
  have h1 := Int.tmod_lt_of_pos a hb
  have h2 := Int.tmod_nonneg b ha
  refine ⟨h2, h1, ?_⟩
  rw [Int.tmod_eq_emod_of_nonneg ha] at *
  rcases Int.lt_or_le a b with q | q
  · rw [Int.emod_eq_of_lt ha q]; exact Int.le_refl _
  · omega
def rgA (k : Int) : Int × Int := rg 242 k
