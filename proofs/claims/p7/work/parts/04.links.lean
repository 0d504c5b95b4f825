/-! links of the pools: class, index, what, places of the words (chunk, index) -/
def zT (k : Nat) : List Cond := match k with
  | 0 => k2_sels lw_privs
  | 1 => tables_1_1
  | 2 => tables_1_2
  | 3 => tables_1_3
  | 4 => tables_1_4
  | 5 => tables_1_5
  | 6 => tables_1_6
  | 7 => tables_1_7
  | 8 => tables_1_8
  | _ => []
def zLF : List (Nat × Nat × Nat × Nat × Nat × Nat) := [(5, 9, 5, 0, 1, 95), (4, 30, 5, 0, 1, 96), (4, 24, 5, 1, 1, 97), (11, 105, 5, 1, 1, 98), (5, 39, 5, 1, 1, 99), (11, 136, 5, 2, 1, 100), (5, 48, 5, 2, 1, 101), (11, 116, 5, 3, 1, 102), (5, 51, 5, 3, 1, 103), (10, 46, 5, 4, 1, 104), (0, 33, 5, 4, 1, 105), (7, 62, 5, 4, 1, 106), (5, 70, 5, 4, 1, 107), (5, 67, 5, 5, 1, 108), (0, 36, 5, 6, 1, 109), (10, 52, 5, 6, 1, 110), (7, 66, 5, 6, 1, 111), (5, 82, 5, 6, 1, 112), (10, 95, 5, 7, 1, 113), (5, 88, 5, 7, 1, 114), (5, 45, 5, 8, 1, 115), (5, 42, 5, 9, 1, 116), (5, 19, 5, 10, 1, 117), (9, 52, 9, 0, 1, 150), (10, 76, 9, 0, 1, 151), (11, 365, 9, 0, 1, 152), (9, 56, 9, 1, 1, 153), (10, 86, 9, 1, 1, 154), (11, 368, 9, 1, 1, 155), (9, 59, 9, 2, 1, 156), (4, 33, 9, 2, 1, 157), (10, 89, 9, 2, 1, 158), (1, 69, 9, 2, 1, 159), (11, 282, 9, 2, 1, 160), (9, 62, 9, 3, 1, 161), (2, 39, 9, 3, 1, 162), (10, 120, 9, 3, 1, 163), (11, 311, 9, 3, 1, 164), (9, 65, 9, 4, 1, 165), (10, 132, 9, 4, 1, 166), (1, 92, 9, 4, 1, 167), (9, 68, 9, 5, 1, 168), (10, 151, 9, 5, 1, 169), (9, 71, 9, 6, 1, 170), (10, 160, 9, 6, 1, 171), (9, 9, 9, 7, 1, 172), (10, 106, 9, 7, 1, 173), (11, 330, 9, 7, 1, 174), (9, 15, 9, 8, 1, 175), (10, 110, 9, 8, 1, 176), (11, 150, 9, 8, 1, 177), (9, 19, 9, 9, 1, 178), (10, 114, 9, 9, 1, 179), (4, 71, 9, 9, 1, 180), (11, 153, 9, 9, 1, 181), (1, 84, 9, 9, 1, 182), (9, 22, 9, 10, 1, 183), (10, 117, 9, 10, 1, 184), (11, 156, 9, 10, 1, 185), (1, 116, 9, 10, 1, 186), (9, 25, 9, 11, 1, 187), (10, 123, 9, 11, 1, 188), (9, 28, 9, 12, 1, 189), (1, 40, 9, 12, 1, 190), (10, 126, 9, 12, 1, 191), (9, 31, 9, 13, 1, 192), (10, 129, 9, 13, 1, 193), (11, 188, 9, 13, 1, 194), (9, 34, 9, 14, 1, 195), (10, 145, 9, 14, 1, 196), (1, 95, 9, 14, 1, 197), (9, 37, 9, 15, 1, 198), (10, 142, 9, 15, 1, 199), (1, 98, 9, 15, 1, 200), (9, 40, 9, 16, 1, 201), (10, 148, 9, 16, 1, 202), (1, 101, 9, 16, 1, 203), (9, 43, 9, 17, 1, 204), (10, 157, 9, 17, 1, 205), (9, 46, 9, 18, 1, 206), (10, 166, 9, 18, 1, 207), (9, 49, 9, 19, 1, 208), (10, 169, 9, 19, 1, 209), (10, 12, 10, 0, 2, 19), (11, 119, 10, 0, 2, 20), (10, 25, 10, 1, 2, 21), (11, 133, 10, 1, 2, 22), (10, 18, 10, 2, 2, 23), (0, 15, 0, 0, 2, 37), (11, 308, 0, 0, 2, 38), (0, 9, 0, 1, 2, 39), (6, 19, 6, 0, 2, 51), (7, 69, 6, 0, 2, 52), (11, 351, 6, 0, 2, 53), (6, 23, 6, 1, 2, 54), (6, 9, 6, 2, 2, 55), (6, 15, 6, 3, 2, 56), (7, 12, 7, 0, 2, 75), (11, 347, 7, 0, 2, 76), (7, 18, 7, 1, 2, 77), (1, 30, 1, 0, 2, 89), (2, 22, 1, 0, 2, 90), (11, 159, 1, 0, 2, 91), (4, 74, 1, 0, 2, 92), (1, 34, 1, 1, 2, 93), (0, 61, 1, 1, 2, 94), (4, 78, 1, 1, 2, 95), (11, 354, 1, 1, 2, 96), (1, 37, 1, 2, 2, 97), (4, 81, 1, 2, 2, 98), (11, 208, 1, 2, 2, 99), (1, 9, 1, 3, 2, 100), (11, 177, 1, 3, 2, 101), (1, 15, 1, 4, 2, 102), (11, 199, 1, 4, 2, 103), (1, 18, 1, 5, 2, 104), (11, 202, 1, 5, 2, 105), (1, 21, 1, 6, 2, 106), (1, 24, 1, 7, 2, 107), (1, 27, 1, 8, 2, 108), (8, 18, 8, 0, 2, 137), (11, 239, 8, 0, 2, 138), (8, 22, 8, 1, 2, 139), (8, 11, 8, 2, 2, 140), (11, 362, 3, 0, 2, 161), (3, 10, 3, 1, 2, 162), (11, 359, 3, 1, 2, 163), (3, 19, 3, 2, 2, 164), (11, 360, 3, 2, 2, 165), (3, 26, 3, 3, 2, 166), (11, 361, 3, 3, 2, 167), (4, 45, 4, 0, 2, 183), (11, 299, 4, 0, 2, 184), (4, 9, 4, 1, 2, 185), (11, 302, 4, 1, 2, 186), (4, 42, 4, 2, 2, 187), (4, 15, 4, 3, 2, 188), (4, 18, 4, 4, 2, 189), (4, 21, 4, 5, 2, 190), (2, 16, 2, 0, 2, 210), (11, 317, 2, 0, 2, 211), (2, 19, 2, 1, 2, 212), (11, 320, 2, 1, 2, 213), (2, 9, 2, 2, 2, 214), (11, 12, 11, 0, 2, 222), (11, 19, 11, 1, 2, 223), (11, 28, 11, 2, 2, 224), (11, 35, 11, 3, 2, 225), (11, 42, 11, 4, 2, 226), (11, 49, 11, 5, 2, 227), (11, 56, 11, 6, 2, 228), (11, 60, 11, 7, 2, 229), (11, 66, 11, 8, 2, 230), (11, 72, 11, 9, 2, 231), (11, 80, 11, 10, 2, 232), (11, 87, 11, 11, 2, 233), (11, 91, 11, 12, 2, 234), (11, 95, 11, 13, 2, 235), (11, 327, 11, 14, 2, 236), (11, 98, 11, 15, 2, 237), (11, 102, 11, 16, 2, 238), (12, 81, 12, 0, 6, 52), (12, 7, 12, 1, 6, 53), (12, 85, 12, 2, 6, 54), (12, 96, 12, 3, 6, 55), (12, 104, 12, 4, 6, 56), (12, 98, 12, 5, 6, 57), (12, 101, 12, 6, 6, 58), (12, 107, 12, 7, 6, 59), (12, 124, 12, 8, 6, 60), (12, 117, 12, 9, 6, 61), (12, 142, 12, 10, 6, 62), (12, 145, 12, 11, 6, 63), (12, 120, 12, 12, 6, 64), (12, 155, 12, 13, 6, 65), (12, 13, 12, 14, 6, 66), (12, 16, 12, 15, 6, 67), (12, 19, 12, 16, 6, 68), (12, 22, 12, 17, 6, 69), (12, 25, 12, 18, 6, 70), (12, 28, 12, 19, 6, 71), (12, 32, 12, 20, 6, 72), (12, 35, 12, 21, 6, 73), (12, 38, 12, 22, 6, 74), (12, 232, 12, 23, 6, 75), (12, 186, 12, 24, 6, 76), (12, 42, 12, 25, 6, 77), (12, 45, 12, 26, 6, 78), (12, 48, 12, 27, 6, 79), (12, 51, 12, 28, 6, 80), (12, 54, 12, 29, 6, 81), (12, 57, 12, 30, 6, 82), (12, 60, 12, 31, 6, 83), (12, 63, 12, 32, 6, 84), (12, 66, 12, 33, 6, 85), (12, 345, 12, 34, 6, 86), (12, 351, 12, 35, 6, 87), (12, 360, 12, 36, 6, 88), (12, 363, 12, 37, 6, 89), (12, 369, 12, 38, 6, 90), (12, 373, 12, 39, 6, 91), (12, 376, 12, 40, 6, 92), (12, 69, 12, 41, 6, 93), (12, 72, 12, 42, 6, 94), (12, 75, 12, 43, 6, 95), (12, 385, 12, 44, 6, 96), (12, 78, 12, 45, 6, 97), (12, 394, 12, 46, 6, 98), (12, 410, 12, 47, 6, 99), (12, 413, 12, 48, 6, 100), (12, 400, 12, 49, 6, 101)]
def zLV : List (Nat × Nat × Nat × Nat × Nat × Nat × Nat × Nat × Nat) := [(16, 25, 14, 3, 34, 3, 35, 3, 36), (11, 108, 15, 3, 38, 3, 39, 3, 40), (16, 30, 16, 3, 42, 3, 43, 3, 44), (16, 35, 17, 3, 46, 3, 47, 3, 48), (11, 112, 18, 3, 50, 3, 51, 3, 52), (10, 22, 19, 3, 54, 3, 55, 3, 56), (10, 29, 20, 3, 58, 3, 59, 3, 60), (5, 54, 21, 3, 62, 3, 63, 3, 64), (5, 79, 26, 3, 78, 3, 80, 0, 0), (5, 92, 27, 3, 82, 3, 84, 0, 1), (10, 35, 29, 3, 89, 3, 90, 3, 91), (10, 39, 30, 3, 93, 3, 95, 0, 2), (10, 49, 31, 3, 97, 3, 98, 3, 99), (10, 55, 32, 3, 101, 3, 103, 0, 3), (10, 79, 21, 3, 105, 3, 63, 3, 64), (10, 82, 33, 3, 106, 3, 107, 3, 108), (5, 96, 31, 3, 110, 3, 98, 3, 99), (10, 58, 34, 3, 111, 3, 113, 0, 4), (10, 92, 35, 3, 115, 3, 117, 0, 5), (10, 172, 36, 3, 119, 3, 120, 3, 121), (9, 86, 37, 3, 123, 3, 124, 3, 125), (9, 90, 38, 3, 127, 3, 128, 3, 129), (10, 99, 39, 3, 131, 3, 133, 0, 6), (10, 103, 40, 3, 135, 3, 136, 3, 137), (10, 61, 41, 3, 139, 3, 141, 0, 7), (10, 64, 42, 3, 143, 3, 145, 0, 8), (10, 135, 43, 3, 147, 3, 148, 3, 149), (5, 102, 38, 3, 151, 3, 128, 3, 129), (10, 139, 44, 3, 152, 3, 153, 3, 154), (10, 67, 45, 3, 156, 3, 158, 0, 9), (10, 70, 46, 3, 160, 3, 162, 0, 10), (10, 154, 47, 3, 164, 3, 165, 3, 166), (10, 73, 48, 3, 168, 3, 170, 0, 11), (10, 163, 49, 3, 172, 3, 173, 3, 174), (10, 42, 50, 3, 176, 3, 177, 3, 178), (5, 99, 51, 3, 180, 3, 181, 3, 182), (11, 120, 52, 3, 184, 3, 185, 3, 186), (11, 124, 53, 3, 191, 3, 192, 3, 193), (11, 127, 54, 3, 196, 3, 197, 3, 198), (11, 130, 55, 3, 200, 3, 201, 3, 202), (16, 40, 56, 3, 204, 3, 205, 3, 206), (16, 59, 57, 3, 208, 3, 209, 3, 210), (11, 191, 58, 3, 212, 3, 214, 0, 12), (11, 139, 59, 3, 216, 3, 218, 0, 13), (16, 64, 60, 3, 220, 3, 221, 3, 222), (11, 172, 61, 3, 224, 3, 226, 0, 14), (11, 205, 62, 3, 228, 3, 229, 3, 230), (1, 138, 63, 3, 232, 3, 233, 3, 234), (16, 68, 66, 4, 5, 4, 6, 4, 7), (11, 211, 67, 4, 9, 4, 10, 4, 11), (16, 72, 68, 4, 13, 4, 14, 4, 15), (11, 214, 69, 4, 17, 4, 18, 4, 19), (11, 217, 70, 4, 21, 4, 22, 4, 23), (8, 25, 71, 4, 25, 4, 26, 4, 27), (1, 51, 72, 4, 29, 4, 30, 4, 31), (16, 77, 73, 4, 33, 4, 34, 4, 35), (11, 224, 75, 4, 40, 4, 41, 4, 42), (11, 227, 76, 4, 44, 4, 45, 4, 46), (1, 55, 77, 4, 48, 4, 49, 4, 50), (9, 93, 47, 4, 52, 3, 165, 3, 166), (1, 59, 79, 4, 56, 4, 57, 4, 58), (1, 72, 82, 4, 66, 4, 67, 4, 68), (1, 76, 85, 4, 76, 4, 78, 0, 15), (1, 80, 86, 4, 80, 4, 82, 0, 16), (16, 81, 87, 4, 85, 4, 86, 4, 87), (11, 231, 88, 4, 89, 4, 90, 4, 91), (1, 88, 89, 4, 93, 4, 94, 4, 95), (1, 104, 90, 4, 97, 4, 99, 0, 17), (1, 112, 91, 4, 101, 4, 102, 4, 103), (1, 124, 92, 4, 106, 4, 108, 0, 18), (1, 127, 93, 4, 110, 4, 111, 4, 112), (1, 131, 94, 4, 114, 4, 116, 0, 19), (1, 135, 95, 4, 118, 4, 119, 4, 120), (16, 86, 96, 4, 122, 4, 123, 4, 124), (11, 235, 97, 4, 126, 4, 127, 4, 128), (16, 90, 98, 4, 130, 4, 131, 4, 132), (11, 245, 100, 4, 137, 4, 139, 0, 20), (11, 266, 71, 4, 141, 4, 26, 4, 27), (11, 179, 101, 4, 142, 4, 143, 4, 144), (1, 150, 62, 4, 146, 3, 229, 3, 230), (16, 94, 102, 4, 147, 4, 148, 4, 149), (16, 98, 103, 4, 151, 4, 152, 4, 153), (11, 249, 104, 4, 155, 4, 157, 0, 21), (11, 371, 105, 4, 159, 4, 160, 4, 161), (11, 252, 106, 4, 163, 4, 165, 0, 22), (16, 102, 107, 4, 168, 4, 169, 4, 170), (11, 256, 108, 4, 172, 4, 174, 0, 23), (11, 259, 109, 4, 176, 4, 178, 0, 24), (16, 106, 110, 4, 180, 4, 181, 4, 182), (11, 262, 111, 4, 184, 4, 186, 0, 25), (11, 276, 72, 4, 188, 4, 30, 4, 31), (11, 196, 63, 4, 189, 3, 233, 3, 234), (16, 110, 112, 4, 190, 4, 191, 4, 192), (16, 114, 113, 4, 194, 4, 195, 4, 196), (11, 268, 89, 4, 198, 4, 94, 4, 95), (16, 118, 114, 4, 199, 4, 200, 4, 201), (16, 122, 115, 4, 203, 4, 204, 4, 205), (16, 126, 116, 4, 207, 4, 208, 4, 209), (16, 130, 117, 4, 211, 4, 212, 4, 213), (11, 279, 77, 4, 216, 4, 49, 4, 50), (11, 285, 82, 4, 217, 4, 67, 4, 68), (16, 134, 118, 4, 219, 4, 220, 4, 221), (11, 291, 119, 4, 223, 4, 224, 4, 225), (11, 295, 120, 4, 228, 4, 229, 4, 230), (4, 48, 121, 4, 232, 4, 234, 0, 26), (4, 52, 69, 5, 0, 4, 18, 4, 19), (4, 55, 123, 5, 1, 5, 3, 0, 27), (4, 84, 79, 5, 5, 4, 57, 4, 58), (4, 88, 124, 5, 6, 5, 7, 5, 8), (1, 108, 125, 5, 10, 5, 11, 5, 12), (4, 91, 126, 5, 14, 5, 16, 0, 28), (4, 95, 67, 5, 18, 4, 10, 4, 11), (4, 59, 127, 5, 19, 5, 21, 0, 29), (16, 138, 128, 5, 23, 5, 24, 5, 25), (16, 142, 129, 5, 27, 5, 28, 5, 29), (11, 305, 130, 5, 31, 5, 32, 5, 33), (0, 19, 20, 5, 35, 3, 59, 3, 60), (0, 25, 29, 5, 36, 3, 90, 3, 91), (0, 29, 131, 5, 37, 5, 39, 0, 30), (0, 39, 31, 5, 41, 3, 98, 3, 99), (0, 43, 21, 5, 42, 3, 63, 3, 64), (0, 46, 43, 5, 43, 3, 148, 3, 149), (0, 50, 33, 5, 44, 3, 107, 3, 108), (0, 66, 63, 5, 48, 3, 233, 3, 234), (0, 58, 50, 5, 50, 3, 177, 3, 178), (16, 146, 133, 5, 51, 5, 52, 5, 53), (11, 314, 134, 5, 55, 5, 56, 5, 57), (2, 27, 135, 5, 59, 5, 61, 0, 31), (2, 31, 89, 5, 64, 4, 94, 4, 95), (2, 35, 136, 5, 65, 5, 67, 0, 32), (2, 44, 75, 5, 69, 4, 41, 4, 42), (2, 48, 76, 5, 70, 4, 45, 4, 46), (16, 150, 137, 5, 71, 5, 72, 5, 73), (16, 154, 138, 5, 75, 5, 76, 5, 77), (16, 158, 139, 5, 79, 5, 80, 5, 81), (16, 162, 140, 5, 83, 5, 84, 5, 85), (16, 166, 141, 5, 87, 5, 88, 5, 89), (11, 323, 93, 5, 91, 4, 111, 4, 112), (16, 170, 142, 5, 92, 5, 93, 5, 94), (11, 334, 143, 5, 96, 5, 98, 0, 33), (11, 338, 144, 5, 100, 5, 102, 0, 34), (11, 341, 145, 5, 104, 5, 106, 0, 35), (16, 174, 146, 5, 108, 5, 109, 5, 110), (16, 178, 147, 5, 112, 5, 113, 5, 114), (11, 344, 148, 5, 116, 5, 117, 5, 118), (7, 22, 54, 5, 120, 3, 197, 3, 198), (7, 25, 20, 5, 121, 3, 59, 3, 60), (7, 31, 149, 5, 122, 5, 124, 0, 36), (7, 43, 150, 5, 126, 5, 128, 0, 37), (7, 56, 151, 5, 130, 5, 132, 0, 38), (7, 59, 51, 5, 134, 3, 181, 3, 182), (7, 39, 31, 5, 135, 3, 98, 3, 99), (7, 49, 21, 5, 136, 3, 63, 3, 64), (7, 72, 50, 5, 137, 3, 177, 3, 178), (7, 46, 152, 5, 138, 5, 139, 5, 140), (7, 52, 153, 5, 142, 5, 143, 5, 144), (7, 75, 154, 5, 146, 5, 148, 0, 39), (7, 79, 43, 5, 150, 3, 148, 3, 149), (7, 35, 29, 5, 151, 3, 90, 3, 91), (11, 348, 155, 5, 152, 5, 153, 5, 154), (16, 182, 156, 5, 157, 5, 158, 5, 159), (11, 355, 157, 5, 161, 5, 162, 5, 163), (6, 32, 158, 5, 165, 5, 167, 0, 40), (6, 36, 63, 5, 169, 3, 233, 3, 234), (6, 42, 125, 5, 170, 5, 11, 5, 12), (16, 186, 160, 5, 176, 5, 177, 5, 178), (16, 190, 161, 5, 180, 5, 181, 5, 182), (16, 194, 162, 5, 184, 5, 185, 5, 186), (11, 162, 91, 5, 188, 4, 102, 4, 103), (16, 7, 163, 5, 193, 5, 194, 5, 195), (16, 15, 164, 6, 25, 6, 26, 6, 27), (11, 182, 165, 6, 30, 6, 31, 6, 32), (11, 185, 166, 6, 34, 6, 35, 6, 36), (16, 18, 167, 6, 41, 6, 42, 6, 43), (16, 53, 169, 6, 203, 6, 204, 6, 205), (16, 29, 170, 6, 207, 6, 208, 6, 209), (12, 88, 171, 6, 211, 6, 213, 0, 42), (16, 34, 172, 6, 215, 6, 216, 6, 217), (16, 39, 173, 6, 219, 6, 220, 6, 221), (12, 226, 174, 6, 223, 6, 225, 0, 43), (12, 168, 175, 6, 227, 6, 229, 0, 44), (12, 162, 176, 6, 231, 6, 233, 0, 45), (12, 127, 179, 7, 1, 7, 3, 0, 46), (12, 229, 180, 7, 7, 7, 9, 0, 47), (12, 199, 181, 7, 11, 7, 13, 0, 48), (12, 202, 184, 7, 21, 7, 23, 0, 49), (12, 148, 185, 7, 25, 7, 27, 0, 50), (12, 180, 186, 7, 29, 7, 31, 0, 51), (12, 158, 187, 7, 33, 7, 35, 0, 52), (12, 205, 189, 7, 40, 7, 42, 0, 53), (12, 190, 190, 7, 44, 7, 46, 0, 54), (12, 172, 191, 7, 48, 7, 50, 0, 55), (12, 183, 193, 7, 55, 7, 57, 0, 56), (12, 208, 194, 7, 59, 7, 61, 0, 57), (12, 193, 195, 7, 63, 7, 65, 0, 58), (12, 211, 196, 7, 67, 7, 69, 0, 59), (12, 196, 197, 7, 71, 7, 73, 0, 60), (12, 214, 198, 7, 75, 7, 77, 0, 61), (12, 217, 199, 7, 79, 7, 81, 0, 62), (12, 220, 200, 7, 83, 7, 85, 0, 63), (12, 223, 201, 7, 87, 7, 89, 0, 64), (12, 165, 202, 7, 91, 7, 93, 0, 65), (16, 43, 203, 7, 95, 7, 96, 7, 97), (16, 49, 204, 7, 99, 7, 100, 7, 101), (12, 235, 205, 7, 103, 7, 105, 0, 66), (12, 238, 206, 7, 107, 7, 109, 0, 67), (12, 241, 207, 7, 111, 7, 113, 0, 68), (12, 244, 208, 7, 115, 7, 117, 0, 69), (16, 52, 209, 7, 119, 7, 120, 7, 121), (12, 260, 210, 7, 123, 7, 125, 0, 70), (12, 263, 211, 7, 127, 7, 129, 0, 71), (12, 257, 212, 7, 131, 7, 133, 0, 72), (12, 247, 213, 7, 135, 7, 137, 0, 73), (16, 58, 216, 7, 145, 7, 146, 7, 147), (12, 266, 217, 7, 149, 7, 151, 0, 74), (16, 63, 218, 7, 153, 7, 154, 7, 155), (12, 269, 219, 7, 157, 7, 159, 0, 75), (16, 67, 220, 7, 161, 7, 162, 7, 163), (16, 71, 221, 7, 165, 7, 166, 7, 167), (16, 89, 222, 7, 169, 7, 170, 7, 171), (16, 76, 223, 7, 173, 7, 174, 7, 175), (12, 305, 224, 7, 177, 7, 179, 0, 76), (12, 308, 225, 7, 181, 7, 183, 0, 77), (16, 80, 226, 7, 185, 7, 186, 7, 187), (12, 311, 227, 7, 189, 7, 191, 0, 78), (12, 273, 228, 7, 193, 7, 195, 0, 79), (12, 276, 229, 7, 197, 7, 199, 0, 80), (12, 282, 232, 7, 207, 7, 209, 0, 81), (12, 285, 233, 7, 211, 7, 213, 0, 82), (16, 85, 234, 7, 215, 7, 216, 7, 217), (12, 314, 235, 7, 219, 7, 221, 0, 83), (12, 302, 236, 7, 223, 7, 225, 0, 84), (12, 292, 237, 7, 227, 7, 229, 0, 85), (12, 298, 239, 7, 234, 7, 236, 0, 86), (12, 289, 240, 7, 238, 8, 0, 0, 87), (16, 93, 241, 8, 2, 8, 3, 8, 4), (12, 326, 243, 8, 9, 8, 11, 0, 88), (12, 317, 244, 8, 13, 8, 15, 0, 89), (12, 320, 245, 8, 17, 8, 19, 0, 90), (16, 97, 246, 8, 21, 8, 22, 8, 23), (16, 101, 247, 8, 25, 8, 26, 8, 27), (12, 329, 248, 8, 29, 8, 31, 0, 91), (12, 332, 249, 8, 33, 8, 35, 0, 92), (16, 105, 250, 8, 37, 8, 38, 8, 39), (12, 336, 251, 8, 41, 8, 43, 0, 93), (16, 109, 252, 8, 45, 8, 46, 8, 47), (16, 113, 253, 8, 49, 8, 50, 8, 51), (16, 117, 254, 8, 53, 8, 54, 8, 55), (16, 121, 255, 8, 57, 8, 58, 8, 59), (16, 125, 256, 8, 61, 8, 62, 8, 63), (16, 129, 257, 8, 65, 8, 66, 8, 67), (16, 133, 258, 8, 69, 8, 70, 8, 71), (12, 339, 259, 8, 73, 8, 75, 0, 94), (16, 165, 260, 8, 77, 8, 78, 8, 79), (16, 169, 261, 8, 81, 8, 82, 8, 83), (16, 137, 262, 8, 85, 8, 86, 8, 87), (12, 348, 263, 8, 89, 8, 91, 0, 95), (12, 354, 264, 8, 93, 8, 95, 0, 96), (12, 342, 265, 8, 97, 8, 99, 0, 97), (12, 357, 266, 8, 101, 8, 103, 0, 98), (16, 141, 267, 8, 105, 8, 106, 8, 107), (16, 145, 268, 8, 109, 8, 110, 8, 111), (12, 366, 269, 8, 113, 8, 115, 0, 99), (16, 149, 270, 8, 117, 8, 118, 8, 119), (12, 382, 271, 8, 121, 8, 123, 0, 100), (12, 379, 272, 8, 125, 8, 127, 0, 101), (16, 153, 273, 8, 130, 8, 131, 8, 132), (16, 157, 274, 8, 134, 8, 135, 8, 136), (16, 161, 275, 8, 138, 8, 139, 8, 140), (16, 173, 276, 8, 142, 8, 143, 8, 144), (12, 388, 277, 8, 146, 8, 148, 0, 102), (12, 391, 278, 8, 150, 8, 152, 0, 103), (16, 177, 279, 8, 154, 8, 155, 8, 156), (16, 181, 280, 8, 158, 8, 159, 8, 160), (12, 428, 281, 8, 162, 8, 164, 0, 104), (12, 397, 282, 8, 166, 8, 168, 0, 105), (12, 407, 283, 8, 170, 8, 172, 0, 106), (12, 416, 284, 8, 174, 8, 176, 0, 107), (12, 419, 285, 8, 178, 8, 180, 0, 108), (12, 403, 286, 8, 182, 8, 184, 0, 109), (12, 422, 287, 8, 186, 8, 188, 0, 110), (12, 425, 288, 8, 190, 8, 192, 0, 111), (16, 185, 289, 8, 194, 8, 195, 8, 196), (12, 431, 290, 8, 198, 8, 200, 0, 112), (12, 434, 291, 8, 202, 8, 204, 0, 113), (16, 189, 292, 8, 206, 8, 207, 8, 208), (16, 193, 293, 8, 210, 8, 211, 8, 212), (16, 197, 294, 8, 214, 8, 215, 8, 216)]
def zLS : List (Nat × Nat × Nat × Nat × Nat × Nat × Nat) := [(5, 15, 2, 1, 40, 1, 41), (5, 35, 3, 1, 92, 1, 93), (5, 63, 23, 3, 69, 3, 70), (5, 73, 24, 3, 72, 3, 73), (5, 76, 25, 3, 75, 3, 76), (5, 85, 28, 3, 86, 3, 87), (1, 141, 64, 3, 236, 3, 237), (11, 221, 74, 4, 37, 4, 38), (1, 63, 80, 4, 60, 4, 61), (15, 13, 81, 4, 63, 4, 64), (9, 101, 83, 4, 70, 4, 71), (11, 242, 99, 4, 134, 4, 135), (11, 272, 65, 4, 167, 4, 3), (4, 63, 122, 4, 236, 4, 237), (0, 54, 132, 5, 45, 5, 46), (6, 46, 64, 5, 171, 3, 237), (6, 56, 159, 5, 173, 5, 174), (12, 110, 177, 6, 235, 6, 236), (12, 114, 178, 6, 238, 6, 239), (12, 138, 182, 7, 15, 7, 16), (12, 134, 183, 7, 18, 7, 19), (12, 151, 188, 7, 37, 7, 38), (12, 176, 192, 7, 52, 7, 53), (12, 251, 214, 7, 139, 7, 140), (12, 254, 215, 7, 142, 7, 143), (12, 279, 230, 7, 201, 7, 202), (12, 92, 231, 7, 204, 7, 205), (12, 295, 238, 7, 231, 7, 232), (12, 323, 242, 8, 6, 8, 7)]
def zLSN : List (Nat × Nat × Nat × Nat × Nat × Nat × Nat) := [(1, 146, 65, 4, 2, 4, 3), (4, 38, 74, 4, 227, 4, 38), (4, 67, 65, 4, 239, 4, 3), (0, 70, 65, 5, 49, 4, 3), (6, 52, 65, 5, 172, 4, 3)]
def zLP : List (Nat × Nat × Nat × Nat × Nat × Nat × Nat) := [(16, 21, 0, 1, 28, 1, 29), (11, 25, 5, 2, 13, 2, 14), (11, 34, 6, 2, 33, 2, 34), (11, 48, 8, 2, 69, 2, 70), (11, 65, 10, 2, 130, 2, 131), (16, 24, 168, 6, 48, 6, 49)]
def zLPN : List (Nat × Nat × Nat × Nat × Nat × Nat × Nat) := [(11, 11, 1, 1, 36, 1, 37), (11, 18, 4, 1, 146, 1, 147), (10, 11, 4, 2, 18, 1, 147), (11, 41, 7, 2, 47, 2, 48), (7, 11, 7, 2, 74, 2, 48), (11, 55, 9, 2, 85, 2, 86), (8, 17, 9, 2, 136, 2, 86), (11, 76, 11, 2, 151, 2, 152), (3, 9, 4, 2, 156, 1, 147), (3, 18, 9, 2, 158, 2, 86), (3, 25, 7, 2, 160, 2, 48), (11, 79, 12, 2, 179, 2, 180), (11, 86, 13, 2, 206, 2, 207)]
def zLM : List (Nat × Nat × Nat × Nat × Nat) := [(5, 57, 3, 3, 66), (9, 97, 4, 4, 53), (9, 80, 2, 4, 73), (1, 119, 3, 4, 105), (11, 166, 4, 4, 215), (11, 288, 3, 4, 218)]
def zLC : List (Nat × Nat × Int × Nat × Nat) := [(13, 265, 1431655765, 3, 239), (13, 266, 858993459, 4, 0), (13, 267, 252645135, 4, 1), (1, 87, 1000000, 4, 84), (2, 15, 1103515245, 5, 63), (12, 372, 1103515245, 8, 129)]
def zLJ : List (Nat × Nat × Int × Nat × Nat) := [(12, 130, 27, 7, 5), (12, 132, 96, 7, 6)]
def zLN : List (Nat × Nat × Nat × Nat × Nat × Nat × Nat × Nat × Nat) := [(16, 8, 11, 1, 26, 1, 27, 1, 1), (11, 9, 5, 1, 34, 1, 35, 1, 2), (11, 16, 9, 1, 144, 1, 145, 1, 7), (11, 23, 10, 2, 11, 2, 12, 1, 8), (10, 9, 9, 2, 17, 1, 145, 1, 7), (11, 32, 0, 2, 31, 2, 32, 1, 9), (11, 39, 6, 2, 45, 2, 46, 1, 10), (11, 46, 7, 2, 67, 2, 68, 1, 11), (7, 9, 6, 2, 73, 2, 46, 1, 10), (11, 53, 1, 2, 83, 2, 84, 1, 12), (11, 63, 8, 2, 128, 2, 129, 1, 13), (8, 9, 1, 2, 134, 2, 84, 1, 12), (11, 70, 3, 2, 148, 2, 150, 1, 14), (3, 7, 9, 2, 155, 1, 145, 1, 7), (3, 16, 1, 2, 157, 2, 84, 1, 12), (3, 23, 6, 2, 159, 2, 46, 1, 10), (11, 77, 4, 2, 177, 2, 178, 1, 15), (11, 84, 2, 2, 204, 2, 205, 1, 16), (16, 22, 12, 6, 46, 6, 47, 1, 17)]
def zLA : List (Nat × Nat × Nat × Nat × Nat) := [(11, 53, 1, 2, 83), (8, 9, 1, 2, 134), (11, 70, 3, 2, 148), (3, 16, 1, 2, 157)]
def zLY : List (Nat × Nat × Nat × Nat) := [(9, 74, 3, 188), (1, 45, 3, 195), (6, 26, 5, 156)]
def zLO : List (Nat × Nat × Nat × Nat) := [(11, 3, 1, 31), (5, 3, 1, 39), (9, 3, 1, 149), (10, 3, 2, 16), (0, 3, 2, 36), (6, 3, 2, 50), (7, 3, 2, 72), (1, 3, 2, 88), (8, 3, 2, 133), (3, 1, 2, 154), (4, 3, 2, 182), (2, 3, 2, 209), (12, 1, 6, 51)]
def zIni : List (Nat × Nat) := [(1, 9), (1, 12), (1, 16), (1, 14), (1, 15), (1, 2), (1, 10), (1, 11), (1, 13), (1, 7), (1, 8), (1, 1), (1, 17), (1, 24), (1, 18), (1, 25), (1, 0)]
def zLay0 : List (Nat × Nat) := [(2, 40), (2, 42)]
def zLay1 : List (Nat × Nat) := [(2, 109), (2, 111), (2, 113), (2, 115), (2, 117), (2, 119), (2, 121), (2, 123), (2, 125)]
def zLay2 : List (Nat × Nat) := [(2, 215), (2, 217), (2, 219)]
def zLay3 : List (Nat × Nat) := [(2, 168), (2, 170), (2, 172), (2, 174)]
def zLay4 : List (Nat × Nat) := [(2, 191), (2, 193), (2, 195), (2, 197), (2, 199), (2, 201)]
def zLay5 : List (Nat × Nat) := [(1, 118), (1, 120), (1, 122), (1, 124), (1, 126), (1, 128), (1, 130), (1, 132), (1, 134), (1, 136), (1, 138)]
def zLay6 : List (Nat × Nat) := [(2, 57), (2, 59), (2, 61), (2, 63)]
def zLay7 : List (Nat × Nat) := [(2, 78), (2, 80)]
def zLay8 : List (Nat × Nat) := [(2, 141), (2, 143), (2, 145)]
def zLay9 : List (Nat × Nat) := [(1, 210), (1, 212), (1, 214), (1, 216), (1, 218), (1, 220), (1, 222), (1, 224), (1, 226), (1, 228), (1, 230), (1, 232), (1, 234), (1, 236), (1, 238), (2, 0), (2, 2), (2, 4), (2, 6), (2, 8)]
def zLay10 : List (Nat × Nat) := [(2, 24), (2, 26), (2, 28)]
def zLay11 : List (Nat × Nat) := [(2, 239), (3, 1), (3, 3), (3, 5), (3, 7), (3, 9), (3, 11), (3, 13), (3, 15), (3, 17), (3, 19), (3, 21), (3, 23), (3, 25), (3, 27), (3, 29), (3, 31)]
def zLay12 : List (Nat × Nat) := [(6, 102), (6, 104), (6, 106), (6, 108), (6, 110), (6, 112), (6, 114), (6, 116), (6, 118), (6, 120), (6, 122), (6, 124), (6, 126), (6, 128), (6, 130), (6, 132), (6, 134), (6, 136), (6, 138), (6, 140), (6, 142), (6, 144), (6, 146), (6, 148), (6, 150), (6, 152), (6, 154), (6, 156), (6, 158), (6, 160), (6, 162), (6, 164), (6, 166), (6, 168), (6, 170), (6, 172), (6, 174), (6, 176), (6, 178), (6, 180), (6, 182), (6, 184), (6, 186), (6, 188), (6, 190), (6, 192), (6, 194), (6, 196), (6, 198), (6, 200)]
def zTu (k : Nat) : Nat → List Cond
  | 0 => zT k
  | j + 1 => (zTu k j).drop 16
def zTq (k i : Nat) : Option Cond := (zTu k (i / 16))[i % 16]?
theorem zTum {k j : Nat} {w : Cond} (h : w ∈ zTu k j) : w ∈ zT k := by
  induction j with
  | zero => exact h
  | succ j ih => exact ih (List.mem_of_mem_drop h)
theorem zT_mem {k i : Nat} {w : Cond} (h : zTq k i = some w) : w ∈ lw_tbl := by
  have h1 : w ∈ zT k := zTum (List.mem_of_getElem? h)
  clear h
  unfold lw_tbl tables_1
  unfold zT at h1
  split at h1 <;> first | exact absurd h1 List.not_mem_nil | (simp only [List.mem_append]; simp only [h1, true_or, or_true])
def zGW : List Cond := lw_tbl.filter goodWord
theorem zGW_in {w : Cond} (h1 : w ∈ lw_tbl) (h2 : goodWord w = true) : w ∈ zGW := List.mem_filter.mpr ⟨h1, h2⟩
theorem zGW_good {ws : List Cond} (h : ∀ w ∈ ws, w ∈ zGW) : GoodIn zGW ws := fun w hw => ⟨h w hw, good_of_word (List.mem_filter.mp (h w hw)).2⟩
theorem zAt {k i : Nat} {w : Cond} (h : zTq k i = some w) (h2 : goodWord w = true) : w ∈ zGW := zGW_in (zT_mem h) h2
abbrev zMt : Type := MethodName × ByteArray × Nat × Option FieldType × Nat × Nat × Nat × Nat
/-- behind the last one: the law -/
def zMM : List (List zMt) := [zM0, zM1, zM2, zM3, zM4, zM5, zM6, zM7]
def zm (mi : Nat) : zMt := (zMM.getD (mi / 40) []).getD (mi % 40) (x, code, 7, ret, 16, 1, 0, 0)
def zmY (mi : Nat) : MethodName := (zm mi).1
def zmCode (mi : Nat) : ByteArray := (zm mi).2.1
def zmMax (mi : Nat) : Nat := (zm mi).2.2.1
def zmRet (mi : Nat) : Option FieldType := (zm mi).2.2.2.1
def zmC (mi : Nat) : Nat := (zm mi).2.2.2.2.1
def zmN (mi : Nat) : Nat := (zm mi).2.2.2.2.2.1
def zOw (k : Nat) : String := zOwn.getD k ""
theorem zMap {α β : Type} {l : List α} {f g : α → β} (h : l.map f = l.map g) : ∀ a ∈ l, f a = g a := List.map_inj_left.mp h
set_option maxRecDepth 100000 in
theorem zM0_at : zM0.map (fun r => zTq r.2.2.2.2.2.2.1 r.2.2.2.2.2.2.2) = zM0.map (fun r => some (Cond.code r.1 r.2.1 r.2.2.1 r.2.2.2.1)) := rfl
set_option maxRecDepth 100000 in
theorem zLF_at : zLF.map (fun r => zTq r.2.2.2.2.1 r.2.2.2.2.2) = zLF.map (fun r => match vwCl[r.2.2.1]? with | some q => some (Cond.fieldLink (zOw r.1) r.2.1 (q.2.1 r.2.2.2.1).1 (q.2.1 r.2.2.2.1).2.1 (q.2.1 r.2.2.2.1).2.2.1) | none => none) := rfl
set_option maxRecDepth 100000 in
theorem zM1_at : zM1.map (fun r => zTq r.2.2.2.2.2.2.1 r.2.2.2.2.2.2.2) = zM1.map (fun r => some (Cond.code r.1 r.2.1 r.2.2.1 r.2.2.2.1)) := rfl
set_option maxRecDepth 100000 in
theorem zM2_at : zM2.map (fun r => zTq r.2.2.2.2.2.2.1 r.2.2.2.2.2.2.2) = zM2.map (fun r => some (Cond.code r.1 r.2.1 r.2.2.1 r.2.2.2.1)) := rfl
set_option maxRecDepth 100000 in
theorem zM3_at : zM3.map (fun r => zTq r.2.2.2.2.2.2.1 r.2.2.2.2.2.2.2) = zM3.map (fun r => some (Cond.code r.1 r.2.1 r.2.2.1 r.2.2.2.1)) := rfl
set_option maxRecDepth 100000 in
theorem zM4_at : zM4.map (fun r => zTq r.2.2.2.2.2.2.1 r.2.2.2.2.2.2.2) = zM4.map (fun r => some (Cond.code r.1 r.2.1 r.2.2.1 r.2.2.2.1)) := rfl
set_option maxRecDepth 100000 in
theorem zM5_at : zM5.map (fun r => zTq r.2.2.2.2.2.2.1 r.2.2.2.2.2.2.2) = zM5.map (fun r => some (Cond.code r.1 r.2.1 r.2.2.1 r.2.2.2.1)) := rfl
set_option maxRecDepth 100000 in
theorem zM6_at : zM6.map (fun r => zTq r.2.2.2.2.2.2.1 r.2.2.2.2.2.2.2) = zM6.map (fun r => some (Cond.code r.1 r.2.1 r.2.2.1 r.2.2.2.1)) := rfl
set_option maxRecDepth 100000 in
theorem zM7_at : zM7.map (fun r => zTq r.2.2.2.2.2.2.1 r.2.2.2.2.2.2.2) = zM7.map (fun r => some (Cond.code r.1 r.2.1 r.2.2.1 r.2.2.2.1)) := rfl
theorem zMs_at : ∀ r ∈ zMs, zTq r.2.2.2.2.2.2.1 r.2.2.2.2.2.2.2 = some (Cond.code r.1 r.2.1 r.2.2.1 r.2.2.2.1) := by
  apply zMap
  simp only [zMs, List.map_append, zM0_at, zM1_at, zM2_at, zM3_at, zM4_at, zM5_at, zM6_at, zM7_at]
def zMpar (r : zMt) : Bool := decide ((parseMethodDescriptor r.1.desc).map (fun d => d.parameters.length) = some r.2.2.2.2.2.1) && (Nat.ble r.2.2.1 20 && Nat.blt r.2.2.2.2.1 17)
def zDs : List (String × Nat) := [("()V", 0), ("()[J", 0), ("(JI)J", 2), ("(LEchoVale$Reader;)V", 1), ("(IIIII)I", 5), ("(I)V", 1), ("(I)Z", 1), ("()I", 0), ("()Z", 0), ("(II)I", 2), ("(J)I", 1), ("(II)Z", 2), ("(J)Z", 1), ("(LEchoVale$Valley;)I", 1), ("(LEchoVale$Valley;)V", 1), ("(III)I", 3), ("(I)I", 1), ("(LEchoVale$Course;)V", 1), ("(LEchoVale$Valley;III)I", 4), ("(LEchoVale$Valley;IIII)I", 5), ("([IIII)V", 4), ("(III)V", 3), ("(LEchoVale$Valley;III)V", 4), ("(LEchoVale$Valley;I)I", 2), ("(LEchoVale$Valley;I)V", 2), ("(LEchoVale$Valley;II)V", 3), ("(II[I)I", 3), ("(IIII)V", 4), ("(LEchoVale$Course;)Z", 1), ("(II)V", 2), ("(LEchoVale$Reader;LEchoVale$Valley;)Z", 2), ("(LEchoVale$Valley;LEchoVale$Course;)I", 2), ("(LEchoVale$Valley;I)Z", 2), ("(LEchoVale$Valley;II)Z", 3), ("(LEchoVale$Valley;LEchoVale$Course;III)Z", 5), ("(LEchoVale$Course;I)Z", 2), ("(LEchoVale$Valley;LEchoVale$Course;)Z", 2), ("(LEchoVale$Valley;LEchoVale$Course;I)Z", 3), ("(LEchoVale$Course;III)Z", 4), ("(LEchoVale$Valley;LEchoVale$Course;II)I", 4), ("(LEchoVale$Valley;LEchoVale$Course;)V", 2), ("(J)V", 1), ("(LEchoVale$Valley;)Z", 1), ("(LEchoVale$Sentence;)V", 1), ("(LEchoVale$Course;II)Z", 3), ("(III)Z", 3), ("(I)J", 1), ("(IIIIII)J", 6), ("([JIIJ)I", 4), ("(IIII)I", 4)]
theorem zDs_ok : ∀ d ∈ zDs, (parseMethodDescriptor d.1).map (fun d => d.parameters.length) = some d.2 := by decide +kernel
def zMpa (r : zMt) : Bool := Nat.ble r.2.2.1 20 && Nat.blt r.2.2.2.2.1 17
theorem zMp_in {l : List zMt} {J : List Nat} (h : J.map (fun j => zDs[j]?) = l.map (fun r => some (r.1.desc, r.2.2.2.2.2.1))) (h2 : l.all zMpa = true) : l.all zMpar = true := by
  rw [List.all_eq_true] at h2 ⊢
  intro r hr
  have h1 := List.mem_map_of_mem (f := fun r : zMt => some (r.1.desc, r.2.2.2.2.2.1)) hr
  rw [← h] at h1
  obtain ⟨j, _, e⟩ := List.mem_map.mp h1
  have h3 := zDs_ok _ (List.mem_of_getElem? e)
  unfold zMpar
  rw [Bool.and_eq_true]
  exact ⟨decide_eq_true h3, h2 r hr⟩
set_option maxRecDepth 100000 in
theorem zM0_par : zM0.all zMpar = true := zMp_in (J := [0, 0, 1, 2, 0, 3, 3, 0, 3, 0, 0, 0, 0, 0, 4, 5, 6, 7, 8, 0, 5, 0, 9, 6, 6, 6, 0, 10, 6, 8, 8, 6, 8, 11, 8, 8, 12, 10, 10, 7]) rfl (by decide +kernel)
set_option maxRecDepth 100000 in
theorem zM1_par : zM1.all zMpar = true := zMp_in (J := [6, 8, 8, 13, 11, 8, 8, 6, 8, 6, 6, 6, 14, 14, 0, 0, 7, 15, 6, 6, 9, 6, 9, 9, 16, 11, 9, 9, 11, 6, 17, 17, 17, 15, 6, 8, 18, 9, 9, 19]) rfl (by decide +kernel)
set_option maxRecDepth 100000 in
theorem zM2_par : zM2.all zMpar = true := zMp_in (J := [20, 21, 15, 9, 16, 22, 5, 16, 23, 24, 25, 16, 22, 26, 27, 15, 7, 28, 9, 6, 15, 16, 15, 15, 6, 7, 29, 9, 5, 6, 4, 27, 9, 16, 9, 15, 15, 9, 7, 30]) rfl (by decide +kernel)
set_option maxRecDepth 100000 in
theorem zM3_par : zM3.all zMpar = true := zMp_in (J := [31, 32, 33, 34, 32, 6, 35, 5, 16, 7, 36, 37, 38, 9, 39, 16, 40, 16, 15, 16, 9, 9, 16, 41, 5, 5, 16, 7, 42, 32, 32, 32, 6, 21, 42, 43, 16, 35, 44, 45]) rfl (by decide +kernel)
set_option maxRecDepth 100000 in
theorem zM4_par : zM4.all zMpar = true := zMp_in (J := [6, 6, 16, 9, 9, 9, 16, 9, 0, 7, 4, 5, 6, 7, 5, 7, 0, 6, 6, 16, 8, 6, 46, 47, 8, 6, 11, 11, 45, 8, 6, 8, 48, 8, 8, 8, 8, 8, 8, 8]) rfl (by decide +kernel)
set_option maxRecDepth 100000 in
theorem zM5_par : zM5.all zMpar = true := zMp_in (J := [8, 8, 6, 7, 9, 6, 7, 16, 16, 9, 6, 16, 9, 9, 11, 16, 9, 6, 15, 15, 9, 9, 7, 11, 6, 0, 15, 15, 9, 16, 9, 16, 16, 27, 16, 16, 5, 5, 9, 21]) rfl (by decide +kernel)
set_option maxRecDepth 100000 in
theorem zM6_par : zM6.all zMpar = true := zMp_in (J := [9, 9, 6, 15, 0, 0, 15, 15, 7, 29, 9, 11, 4, 9, 16, 9, 15, 15, 9, 15, 9, 9, 7, 8, 21, 21, 8, 16, 7, 8, 9, 9, 16, 16, 15, 16, 16, 5, 5, 16]) rfl (by decide +kernel)
set_option maxRecDepth 100000 in
theorem zM7_par : zM7.all zMpar = true := zMp_in (J := [7, 8, 8, 8, 8, 8, 49, 6, 6, 16, 11, 6, 6, 6, 16]) rfl (by decide +kernel)
theorem zMs_par : zMs.all zMpar = true := by
  simp only [zMs, List.all_append, zM0_par, zM1_par, zM2_par, zM3_par, zM4_par, zM5_par, zM6_par, zM7_par, Bool.and_self]
set_option maxRecDepth 100000 in
theorem zMs_cls : ∀ r ∈ zMs, r.1.cls = zOw r.2.2.2.2.1 := zMap (l := zMs) (f := fun r => r.1.cls) (g := fun r => zOw r.2.2.2.2.1) rfl
theorem zMs_len : zMs.length = 295 := by decide +kernel
theorem zM0_len : zM0.length = 40 := by decide +kernel
theorem zM1_len : zM1.length = 40 := by decide +kernel
theorem zM2_len : zM2.length = 40 := by decide +kernel
theorem zM3_len : zM3.length = 40 := by decide +kernel
theorem zM4_len : zM4.length = 40 := by decide +kernel
theorem zM5_len : zM5.length = 40 := by decide +kernel
theorem zM6_len : zM6.length = 40 := by decide +kernel
theorem zM7_len : zM7.length = 15 := by decide +kernel
theorem zm_in {mi : Nat} (h : mi < zMs.length) : zm mi ∈ zMs := by
  rw [zMs_len] at h
  have key : ∀ (l : List zMt), (∀ x ∈ l, x ∈ zMs) → mi % 40 < l.length → l.getD (mi % 40) (x, code, 7, ret, 16, 1, 0, 0) ∈ zMs := by
    intro l hl hn
    rw [List.getD_eq_getElem?_getD, List.getElem?_eq_getElem hn]
    exact hl _ (List.getElem_mem hn)
  have hc : mi / 40 = 0 ∨ mi / 40 = 1 ∨ mi / 40 = 2 ∨ mi / 40 = 3 ∨ mi / 40 = 4 ∨ mi / 40 = 5 ∨ mi / 40 = 6 ∨ mi / 40 = 7 := by omega
  unfold zm
  rcases hc with e | e | e | e | e | e | e | e
  · rw [e]
    exact key zM0 (fun x hx => by simp only [zMs, List.mem_append, hx, true_or, or_true]) (by rw [zM0_len]; omega)
  · rw [e]
    exact key zM1 (fun x hx => by simp only [zMs, List.mem_append, hx, true_or, or_true]) (by rw [zM1_len]; omega)
  · rw [e]
    exact key zM2 (fun x hx => by simp only [zMs, List.mem_append, hx, true_or, or_true]) (by rw [zM2_len]; omega)
  · rw [e]
    exact key zM3 (fun x hx => by simp only [zMs, List.mem_append, hx, true_or, or_true]) (by rw [zM3_len]; omega)
  · rw [e]
    exact key zM4 (fun x hx => by simp only [zMs, List.mem_append, hx, true_or, or_true]) (by rw [zM4_len]; omega)
  · rw [e]
    exact key zM5 (fun x hx => by simp only [zMs, List.mem_append, hx, true_or, or_true]) (by rw [zM5_len]; omega)
  · rw [e]
    exact key zM6 (fun x hx => by simp only [zMs, List.mem_append, hx, true_or, or_true]) (by rw [zM6_len]; omega)
  · rw [e]
    exact key zM7 (fun x hx => by simp only [zMs, List.mem_append, hx, true_or, or_true]) (by rw [zM7_len]; omega)
theorem zOw_plain : (List.range 17).all (fun k => (plainName (zOw k) || Nat.beq k 14) && decide (zOw k ≠ "java/lang/invoke/MethodHandle") && decide (zOw k ≠ "java/lang/invoke/VarHandle")) = true := by decide +kernel
theorem zm_code {mi : Nat} (h : mi < zMs.length) : Cond.code (zmY mi) (zmCode mi) (zmMax mi) (zmRet mi) ∈ zGW := zAt (zMs_at _ (zm_in h)) rfl
theorem zm_par {mi : Nat} (h : mi < zMs.length) : (parseMethodDescriptor (zmY mi).desc).map (fun d => d.parameters.length) = some (zmN mi) ∧ zmMax mi ≤ 20 ∧ zmC mi < 17 := by
  have h1 := List.all_eq_true.mp zMs_par _ (zm_in h)
  simp only [zMpar, Bool.and_eq_true, decide_eq_true_eq] at h1
  exact ⟨h1.1, Nat.le_of_ble_eq_true h1.2.1, Nat.le_of_ble_eq_true h1.2.2⟩
theorem zm_cls {mi : Nat} (h : mi < zMs.length) : (zmY mi).cls = zOw (zmC mi) := zMs_cls _ (zm_in h)
theorem zm_plain {mi : Nat} (h : mi < zMs.length) (h14 : ¬ zmC mi = 14) : plainName (zmY mi).cls = true ∧ (zmY mi).cls ≠ "java/lang/invoke/MethodHandle" ∧ (zmY mi).cls ≠ "java/lang/invoke/VarHandle" := by
  rw [zm_cls h]
  have h1 := List.all_eq_true.mp zOw_plain (zmC mi) (List.mem_range.mpr (zm_par h).2.2)
  simp only [Bool.and_eq_true, Bool.or_eq_true, decide_eq_true_eq] at h1
  exact ⟨h1.1.1.resolve_right (fun e => h14 (Nat.eq_of_beq_eq_true e)), h1.1.2, h1.2⟩
set_option maxRecDepth 100000 in
theorem zIni_at : zIni.map (fun r => zTq r.1 r.2) = (List.range 17).map (fun k => some (Cond.initialized (zOw k))) := rfl
theorem zIni_in {k : Nat} (h : k < 17) : Cond.initialized (zOw k) ∈ zGW := by
  have h0 : some (Cond.initialized (zOw k)) ∈ (List.range 17).map (fun k => some (Cond.initialized (zOw k))) := List.mem_map.mpr ⟨k, List.mem_range.mpr h, rfl⟩
  rw [← zIni_at] at h0
  obtain ⟨r, -, hr⟩ := List.mem_map.mp h0
  exact zAt hr rfl
theorem zm_ini {mi : Nat} (h : mi < zMs.length) : Cond.initialized (zmY mi).cls ∈ zGW := by
  rw [zm_cls h]
  exact zIni_in (zm_par h).2.2
set_option maxRecDepth 100000 in
theorem zLV_at : zLV.map (fun r => (zTq r.2.2.2.1 r.2.2.2.2.1, zTq r.2.2.2.2.2.1 r.2.2.2.2.2.2.1, zTq r.2.2.2.2.2.2.2.1 r.2.2.2.2.2.2.2.2)) = zLV.map (fun r => (some (Cond.methodLink (zOw r.1) r.2.1 (zmY r.2.2.1)), some (Cond.instanceMethod (zmY r.2.2.1)), some (Cond.selects (zmY r.2.2.1).cls (zmY r.2.2.1) (zmY r.2.2.1)))) := rfl
set_option maxRecDepth 100000 in
theorem zLS_at : zLS.map (fun r => (zTq r.2.2.2.1 r.2.2.2.2.1, zTq r.2.2.2.2.2.1 r.2.2.2.2.2.2)) = zLS.map (fun r => (some (Cond.methodLink (zOw r.1) r.2.1 (zmY r.2.2.1)), some (Cond.static (zmY r.2.2.1)))) := rfl
set_option maxRecDepth 100000 in
theorem zLSN_at : zLSN.map (fun r => (zTq r.2.2.2.1 r.2.2.2.2.1, zTq r.2.2.2.2.2.1 r.2.2.2.2.2.2)) = zLSN.map (fun r => (some (Cond.methodLinkNest (zOw r.1) r.2.1 (zmY r.2.2.1) "EchoVale"), some (Cond.static (zmY r.2.2.1)))) := rfl
set_option maxRecDepth 100000 in
theorem zLP_at : zLP.map (fun r => (zTq r.2.2.2.1 r.2.2.2.2.1, zTq r.2.2.2.2.2.1 r.2.2.2.2.2.2, (zmY r.2.2.1).name, zmRet r.2.2.1)) = zLP.map (fun r => (some (Cond.methodLink (zOw r.1) r.2.1 (zmY r.2.2.1)), some (Cond.instanceMethod (zmY r.2.2.1)), "<init>", none)) := rfl
set_option maxRecDepth 100000 in
theorem zLPN_at : zLPN.map (fun r => (zTq r.2.2.2.1 r.2.2.2.2.1, zTq r.2.2.2.2.2.1 r.2.2.2.2.2.2, (zmY r.2.2.1).name, zmRet r.2.2.1)) = zLPN.map (fun r => (some (Cond.methodLinkNest (zOw r.1) r.2.1 (zmY r.2.2.1) "EchoVale"), some (Cond.instanceMethod (zmY r.2.2.1)), "<init>", none)) := rfl
set_option maxRecDepth 100000 in
theorem zLC_at : zLC.map (fun r => zTq r.2.2.2.1 r.2.2.2.2) = zLC.map (fun r => some (Cond.constant (zOw r.1) r.2.1 (Int32.ofInt r.2.2.1))) := rfl
set_option maxRecDepth 100000 in
theorem zLJ_at : zLJ.map (fun r => zTq r.2.2.2.1 r.2.2.2.2) = zLJ.map (fun r => some (Cond.constantLong (zOw r.1) r.2.1 (Int64.ofInt r.2.2.1))) := rfl
theorem zLC_r : zLC.all (fun r => decide (-2147483648 ≤ r.2.2.1) && decide (r.2.2.1 < 2147483648)) = true := by decide +kernel
theorem zLJ_r : zLJ.all (fun r => decide (-9223372036854775808 ≤ r.2.2.1) && decide (r.2.2.1 < 9223372036854775808)) = true := by decide +kernel
def zNf (ci : Nat) : Nat := match vwCl[ci]? with
  | some q => q.2.2
  | none => 0
def zTX (ci : Nat) : u_T := match vwCl[ci]? with
  | some q => q.2.1
  | none => fun _ => ("", "", "", false)
set_option maxRecDepth 100000 in
theorem zLN_at : zLN.map (fun r => (zTq r.2.2.2.1 r.2.2.2.2.1, zTq r.2.2.2.2.2.1 r.2.2.2.2.2.2.1, zTq r.2.2.2.2.2.2.2.1 r.2.2.2.2.2.2.2.2)) = zLN.map (fun r => (some (Cond.classLink (zOw r.1) r.2.1 (zOw r.2.2.1)), some (Cond.instantiable (zOw r.2.2.1) (zNf r.2.2.1)), some (Cond.initialized (zOw r.2.2.1)))) := rfl
set_option maxRecDepth 100000 in
theorem zLA_at : zLA.map (fun r => zTq r.2.2.2.1 r.2.2.2.2) = zLA.map (fun r => some (Cond.classLink (zOw r.1) r.2.1 (zOw r.2.2.1))) := rfl
set_option maxRecDepth 100000 in
theorem zLY_at : zLY.map (fun r => zTq r.2.2.1 r.2.2.2) = zLY.map (fun r => some (Cond.methodLink (zOw r.1) r.2.1 arraycopyName)) := rfl
set_option maxRecDepth 100000 in
theorem zLO_at : zLO.map (fun r => zTq r.2.2.1 r.2.2.2) = zLO.map (fun r => some (Cond.methodLink (zOw r.1) r.2.1 Lib.objectInit)) := rfl
theorem zL_lt : (zLF.all (fun r => Nat.blt r.2.2.2.1 (zNf r.2.2.1) && Nat.blt r.2.2.1 13) && zLV.all (fun r => Nat.blt r.2.2.1 295) && zLS.all (fun r => Nat.blt r.2.2.1 295) && zLSN.all (fun r => Nat.blt r.2.2.1 295) && zLP.all (fun r => Nat.blt r.2.2.1 295) && zLPN.all (fun r => Nat.blt r.2.2.1 295) && zLN.all (fun r => Nat.blt r.2.2.1 13) && zLA.all (fun r => Nat.beq r.2.2.1 1 || Nat.beq r.2.2.1 3)) = true := by decide +kernel
theorem zp_nat : Cond.native arraycopyName ∈ zGW := zAt (show zTq (([3, 190] : List Nat).getD 0 0) (([3, 190] : List Nat).getD 1 0) = _ from rfl) rfl
theorem zp_stat : Cond.static arraycopyName ∈ zGW := zAt (show zTq (([3, 189] : List Nat).getD 0 0) (([3, 189] : List Nat).getD 1 0) = _ from rfl) rfl
theorem zp_isys : Cond.initialized "java/lang/System" ∈ zGW := zAt (show zTq (([1, 19] : List Nat).getD 0 0) (([1, 19] : List Nat).getD 1 0) = _ from rfl) rfl
theorem zp_obi : Cond.instanceMethod Lib.objectInit ∈ zGW := zAt (show zTq (([1, 32] : List Nat).getD 0 0) (([1, 32] : List Nat).getD 1 0) = _ from rfl) rfl
theorem zp_obc : Cond.code Lib.objectInit ⟨#[0xb1]⟩ 1 none ∈ zGW := zAt (show zTq (([1, 33] : List Nat).getD 0 0) (([1, 33] : List Nat).getD 1 0) = _ from rfl) rfl
theorem zp_aI : Cond.arrayClass .int ∈ zGW := zAt (show zTq (([1, 141] : List Nat).getD 0 0) (([1, 141] : List Nat).getD 1 0) = _ from rfl) rfl
theorem zp_aJ : Cond.arrayClass .long ∈ zGW := zAt (show zTq (([1, 142] : List Nat).getD 0 0) (([1, 142] : List Nat).getD 1 0) = _ from rfl) rfl
theorem zp_aZ : Cond.arrayClass .boolean ∈ zGW := zAt (show zTq (([2, 66] : List Nat).getD 0 0) (([2, 66] : List Nat).getD 1 0) = _ from rfl) rfl
theorem zp_oC : Cond.arrayOver (.object "EchoVale$Course") ∈ lw_tbl := zT_mem (show zTq (([2, 135] : List Nat).getD 0 0) (([2, 135] : List Nat).getD 1 0) = _ from rfl)
theorem zp_oM : Cond.arrayOver (.object "EchoVale$Image") ∈ lw_tbl := zT_mem (show zTq (([2, 149] : List Nat).getD 0 0) (([2, 149] : List Nat).getD 1 0) = _ from rfl)
def zLays : List (List (Nat × Nat)) := [zLay0, zLay1, zLay2, zLay3, zLay4, zLay5, zLay6, zLay7, zLay8, zLay9, zLay10, zLay11, zLay12]
set_option maxRecDepth 100000 in
theorem zLays_at : zLays.map (fun l => l.map (fun r => zTq r.1 r.2)) = (List.range 13).map (fun ci => (List.range (zNf ci)).map (fun k => some (u_lay (zOw ci) (zTX ci) k))) := rfl
theorem zLay_good (C : String) (T : u_T) (k : Nat) : goodWord (u_lay C T k) = true := by
  unfold u_lay
  split <;> rfl
theorem zCl_in {ci : Nat} (h : ci < 13) : ∀ w ∈ u_ws (zOw ci) (zTX ci) (zNf ci), w ∈ zGW := by
  intro w hw
  obtain ⟨k, hk, rfl⟩ := List.mem_map.mp hw
  have h0 : (List.range (zNf ci)).map (fun k => some (u_lay (zOw ci) (zTX ci) k)) ∈ (List.range 13).map (fun ci => (List.range (zNf ci)).map (fun k => some (u_lay (zOw ci) (zTX ci) k))) := List.mem_map.mpr ⟨ci, List.mem_range.mpr h, rfl⟩
  rw [← zLays_at] at h0
  obtain ⟨l, -, hl⟩ := List.mem_map.mp h0
  have h1 : some (u_lay (zOw ci) (zTX ci) k) ∈ (List.range (zNf ci)).map (fun k => some (u_lay (zOw ci) (zTX ci) k)) := List.mem_map.mpr ⟨k, hk, rfl⟩
  rw [← hl] at h1
  obtain ⟨r, -, hr⟩ := List.mem_map.mp h1
  exact zAt hr (zLay_good _ _ _)
theorem zCl_at {ci : Nat} (h : ci < 13) : vwCl[ci]? = some (zOw ci, zTX ci, zNf ci) := by
  match ci, h with
  | 0, _ => rfl | 1, _ => rfl | 2, _ => rfl | 3, _ => rfl | 4, _ => rfl | 5, _ => rfl | 6, _ => rfl | 7, _ => rfl | 8, _ => rfl | 9, _ => rfl | 10, _ => rfl | 11, _ => rfl | 12, _ => rfl
theorem zCl_nm {ci : Nat} (h : ci < 13) : ∀ a, a < zNf ci → ∀ b, b < zNf ci → a ≠ b → (zTX ci a).2.1 ≠ (zTX ci b).2.1 := by
  match ci, h with
  | 0, _ => exact nmX0 | 1, _ => exact nmX1 | 2, _ => exact nmX2 | 3, _ => exact nmX3 | 4, _ => exact nmX4 | 5, _ => exact nmX5 | 6, _ => exact nmX6 | 7, _ => exact nmX7 | 8, _ => exact nmX8 | 9, _ => exact nmX9 | 10, _ => exact nmX10 | 11, _ => exact nmX11 | 12, _ => exact nmX12
theorem zCl_ty {ci : Nat} (h : ci < 13) : ∀ k, k < zNf ci → parseFieldDescriptor (zTX ci k).2.2.1 = some (zTy ci k) := by
  match ci, h with
  | 0, _ => exact tyX0_ok | 1, _ => exact tyX1_ok | 2, _ => exact tyX2_ok | 3, _ => exact tyX3_ok | 4, _ => exact tyX4_ok | 5, _ => exact tyX5_ok | 6, _ => exact tyX6_ok | 7, _ => exact tyX7_ok | 8, _ => exact tyX8_ok | 9, _ => exact tyX9_ok | 10, _ => exact tyX10_ok | 11, _ => exact tyX11_ok | 12, _ => exact tyX12_ok
theorem zp_mabss : Cond.static Lib.Math.abs.name ∈ zGW := zAt (show zTq (([4, 74] : List Nat).getD 0 0) (([4, 74] : List Nat).getD 1 0) = _ from rfl) rfl
theorem zp_mabsc : Cond.code Lib.Math.abs.name Lib.Math.abs.code 1 (some .int) ∈ zGW := zAt (show zTq (([4, 75] : List Nat).getD 0 0) (([4, 75] : List Nat).getD 1 0) = _ from rfl) rfl
theorem zp_mmins : Cond.static Lib.Math.min.name ∈ zGW := zAt (show zTq (([3, 67] : List Nat).getD 0 0) (([3, 67] : List Nat).getD 1 0) = _ from rfl) rfl
theorem zp_mminc : Cond.code Lib.Math.min.name Lib.Math.min.code 2 (some .int) ∈ zGW := zAt (show zTq (([3, 68] : List Nat).getD 0 0) (([3, 68] : List Nat).getD 1 0) = _ from rfl) rfl
theorem zp_mmaxs : Cond.static Lib.Math.max.name ∈ zGW := zAt (show zTq (([4, 54] : List Nat).getD 0 0) (([4, 54] : List Nat).getD 1 0) = _ from rfl) rfl
theorem zp_mmaxc : Cond.code Lib.Math.max.name Lib.Math.max.code 2 (some .int) ∈ zGW := zAt (show zTq (([4, 55] : List Nat).getD 0 0) (([4, 55] : List Nat).getD 1 0) = _ from rfl) rfl
theorem zp_mini : Cond.initialized "java/lang/Math" ∈ zGW := zAt (show zTq (([1, 18] : List Nat).getD 0 0) (([1, 18] : List Nat).getD 1 0) = _ from rfl) rfl
def zMn (k : Nat) : MethodName := match k with
  | 2 => Lib.Math.abs.name
  | 3 => Lib.Math.min.name
  | _ => Lib.Math.max.name
set_option maxRecDepth 100000 in
theorem zLM_at : zLM.map (fun r => zTq r.2.2.2.1 r.2.2.2.2) = zLM.map (fun r => some (Cond.methodLink (zOw r.1) r.2.1 (zMn r.2.2.1))) := rfl
theorem zMs_nl : zMs.all (fun r => !Nat.beq r.2.2.2.2.1 16) = true := by decide +kernel
theorem zm_notlaw {mi : Nat} (h : mi < zMs.length) : ¬ zmC mi = 16 := by
  intro q
  have h1 := List.all_eq_true.mp zMs_nl _ (zm_in h)
  have q : (zm mi).2.2.2.2.1 = 16 := q
  rw [q] at h1
  cases h1

