/-! the shape once both objects are made -/
def S0 (L : Nat) : aS := [(200, L, []), (200, 4, []), (201, 0, []), (201, 0, []), (201, 0, []), (202, 3, []), (202, 5, []), (202, 3, []), (10, 12, [some 9, some 10, some 19, some 25, some 26, some 27, some 31, some 34, some 37, some 38]), (104, 8, [some 40, some 42, some 44, some 46, some 48, some 50, some 52, some 54]), (4, 4, [some 11, some 13]), (7, 5, [some 12]), (101, 300, []), (3, 13, [none, none, none, none, none, some 14, some 15, some 16, some 17, some 18]), (103, 4, []), (100, 4, []), (100, 4, []), (103, 4, []), (103, 4, []), (3, 13, [none, none, none, none, none, some 20, some 21, some 22, some 23, some 24]), (103, 4, []), (100, 4, []), (100, 4, []), (103, 4, []), (103, 4, []), (105, 2, [some 56, some 62]), (8, 3, []), (1, 8, [none, none, none, some 28, some 29, some 30]), (100, 832, []), (100, 832, []), (103, 832, []), (5, 6, [none, none, none, some 32, some 33]), (103, 72, []), (100, 72, []), (5, 6, [none, none, none, some 35, some 36]), (103, 72, []), (100, 72, []), (2, 7, []), (0, 6, [some 39]), (100, 16, []), (6, 3, [some 41]), (100, 40, []), (6, 3, [some 43]), (100, 40, []), (6, 3, [some 45]), (100, 40, []), (6, 3, [some 47]), (100, 40, []), (6, 3, [some 49]), (100, 40, []), (6, 3, [some 51]), (100, 40, []), (6, 3, [some 53]), (100, 40, []), (6, 3, [some 55]), (100, 40, []), (3, 13, [none, none, none, none, none, some 57, some 58, some 59, some 60, some 61]), (103, 4, []), (100, 4, []), (100, 4, []), (103, 4, []), (103, 4, []), (3, 13, [none, none, none, none, none, some 63, some 64, some 65, some 66, some 67]), (103, 4, []), (100, 4, []), (100, 4, []), (103, 4, []), (103, 4, []), (11, 37, [none, none, some 69, some 70, some 71, some 72, some 73, none, some 74, none, none, none, none, none, none, none, none, none, some 75, some 76, none, some 77, some 78, some 79, some 80, some 81, some 82, some 83, some 84, none, some 85, none, some 86, some 87, some 88, some 89]), (100, 8, []), (100, 8, []), (100, 320, []), (100, 194, []), (100, 194, []), (100, 300, []), (102, 224, []), (100, 42, []), (100, 21, []), (100, 24, []), (100, 26, []), (100, 26, []), (100, 2, []), (100, 2, []), (100, 2, []), (100, 2, []), (100, 12, []), (100, 8, []), (102, 2, []), (100, 388, []), (100, 16, [])]
theorem kS0 (L : Nat) : aK (S0 L) 0 = 200 := rfl
theorem lS0 (L : Nat) : aL (S0 L) 0 = L := rfl
theorem kS1 (L : Nat) : aK (S0 L) 1 = 200 := rfl
theorem lS1 (L : Nat) : aL (S0 L) 1 = 4 := rfl
theorem kS2 (L : Nat) : aK (S0 L) 2 = 201 := rfl
theorem lS2 (L : Nat) : aL (S0 L) 2 = 0 := rfl
theorem kS3 (L : Nat) : aK (S0 L) 3 = 201 := rfl
theorem lS3 (L : Nat) : aL (S0 L) 3 = 0 := rfl
theorem kS4 (L : Nat) : aK (S0 L) 4 = 201 := rfl
theorem lS4 (L : Nat) : aL (S0 L) 4 = 0 := rfl
theorem kS5 (L : Nat) : aK (S0 L) 5 = 202 := rfl
theorem lS5 (L : Nat) : aL (S0 L) 5 = 3 := rfl
theorem kS6 (L : Nat) : aK (S0 L) 6 = 202 := rfl
theorem lS6 (L : Nat) : aL (S0 L) 6 = 5 := rfl
theorem kS7 (L : Nat) : aK (S0 L) 7 = 202 := rfl
theorem lS7 (L : Nat) : aL (S0 L) 7 = 3 := rfl
theorem kS8 (L : Nat) : aK (S0 L) 8 = 10 := rfl
theorem fS8_0 (L : Nat) : aF (S0 L) 8 0 = some 9 := rfl
theorem fS8_1 (L : Nat) : aF (S0 L) 8 1 = some 10 := rfl
theorem fS8_2 (L : Nat) : aF (S0 L) 8 2 = some 19 := rfl
theorem fS8_3 (L : Nat) : aF (S0 L) 8 3 = some 25 := rfl
theorem fS8_4 (L : Nat) : aF (S0 L) 8 4 = some 26 := rfl
theorem fS8_5 (L : Nat) : aF (S0 L) 8 5 = some 27 := rfl
theorem fS8_6 (L : Nat) : aF (S0 L) 8 6 = some 31 := rfl
theorem fS8_7 (L : Nat) : aF (S0 L) 8 7 = some 34 := rfl
theorem fS8_8 (L : Nat) : aF (S0 L) 8 8 = some 37 := rfl
theorem fS8_9 (L : Nat) : aF (S0 L) 8 9 = some 38 := rfl
theorem kS9 (L : Nat) : aK (S0 L) 9 = 104 := rfl
theorem lS9 (L : Nat) : aL (S0 L) 9 = 8 := rfl
theorem fS9_0 (L : Nat) : aF (S0 L) 9 0 = some 40 := rfl
theorem fS9_1 (L : Nat) : aF (S0 L) 9 1 = some 42 := rfl
theorem fS9_2 (L : Nat) : aF (S0 L) 9 2 = some 44 := rfl
theorem fS9_3 (L : Nat) : aF (S0 L) 9 3 = some 46 := rfl
theorem fS9_4 (L : Nat) : aF (S0 L) 9 4 = some 48 := rfl
theorem fS9_5 (L : Nat) : aF (S0 L) 9 5 = some 50 := rfl
theorem fS9_6 (L : Nat) : aF (S0 L) 9 6 = some 52 := rfl
theorem fS9_7 (L : Nat) : aF (S0 L) 9 7 = some 54 := rfl
theorem kS10 (L : Nat) : aK (S0 L) 10 = 4 := rfl
theorem fS10_0 (L : Nat) : aF (S0 L) 10 0 = some 11 := rfl
theorem fS10_1 (L : Nat) : aF (S0 L) 10 1 = some 13 := rfl
theorem kS11 (L : Nat) : aK (S0 L) 11 = 7 := rfl
theorem fS11_0 (L : Nat) : aF (S0 L) 11 0 = some 12 := rfl
theorem kS12 (L : Nat) : aK (S0 L) 12 = 101 := rfl
theorem lS12 (L : Nat) : aL (S0 L) 12 = 300 := rfl
theorem kS13 (L : Nat) : aK (S0 L) 13 = 3 := rfl
theorem fS13_5 (L : Nat) : aF (S0 L) 13 5 = some 14 := rfl
theorem fS13_6 (L : Nat) : aF (S0 L) 13 6 = some 15 := rfl
theorem fS13_7 (L : Nat) : aF (S0 L) 13 7 = some 16 := rfl
theorem fS13_8 (L : Nat) : aF (S0 L) 13 8 = some 17 := rfl
theorem fS13_9 (L : Nat) : aF (S0 L) 13 9 = some 18 := rfl
theorem kS14 (L : Nat) : aK (S0 L) 14 = 103 := rfl
theorem lS14 (L : Nat) : aL (S0 L) 14 = 4 := rfl
theorem kS15 (L : Nat) : aK (S0 L) 15 = 100 := rfl
theorem lS15 (L : Nat) : aL (S0 L) 15 = 4 := rfl
theorem kS16 (L : Nat) : aK (S0 L) 16 = 100 := rfl
theorem lS16 (L : Nat) : aL (S0 L) 16 = 4 := rfl
theorem kS17 (L : Nat) : aK (S0 L) 17 = 103 := rfl
theorem lS17 (L : Nat) : aL (S0 L) 17 = 4 := rfl
theorem kS18 (L : Nat) : aK (S0 L) 18 = 103 := rfl
theorem lS18 (L : Nat) : aL (S0 L) 18 = 4 := rfl
theorem kS19 (L : Nat) : aK (S0 L) 19 = 3 := rfl
theorem fS19_5 (L : Nat) : aF (S0 L) 19 5 = some 20 := rfl
theorem fS19_6 (L : Nat) : aF (S0 L) 19 6 = some 21 := rfl
theorem fS19_7 (L : Nat) : aF (S0 L) 19 7 = some 22 := rfl
theorem fS19_8 (L : Nat) : aF (S0 L) 19 8 = some 23 := rfl
theorem fS19_9 (L : Nat) : aF (S0 L) 19 9 = some 24 := rfl
theorem kS20 (L : Nat) : aK (S0 L) 20 = 103 := rfl
theorem lS20 (L : Nat) : aL (S0 L) 20 = 4 := rfl
theorem kS21 (L : Nat) : aK (S0 L) 21 = 100 := rfl
theorem lS21 (L : Nat) : aL (S0 L) 21 = 4 := rfl
theorem kS22 (L : Nat) : aK (S0 L) 22 = 100 := rfl
theorem lS22 (L : Nat) : aL (S0 L) 22 = 4 := rfl
theorem kS23 (L : Nat) : aK (S0 L) 23 = 103 := rfl
theorem lS23 (L : Nat) : aL (S0 L) 23 = 4 := rfl
theorem kS24 (L : Nat) : aK (S0 L) 24 = 103 := rfl
theorem lS24 (L : Nat) : aL (S0 L) 24 = 4 := rfl
theorem kS25 (L : Nat) : aK (S0 L) 25 = 105 := rfl
theorem lS25 (L : Nat) : aL (S0 L) 25 = 2 := rfl
theorem fS25_0 (L : Nat) : aF (S0 L) 25 0 = some 56 := rfl
theorem fS25_1 (L : Nat) : aF (S0 L) 25 1 = some 62 := rfl
theorem kS26 (L : Nat) : aK (S0 L) 26 = 8 := rfl
theorem kS27 (L : Nat) : aK (S0 L) 27 = 1 := rfl
theorem fS27_3 (L : Nat) : aF (S0 L) 27 3 = some 28 := rfl
theorem fS27_4 (L : Nat) : aF (S0 L) 27 4 = some 29 := rfl
theorem fS27_5 (L : Nat) : aF (S0 L) 27 5 = some 30 := rfl
theorem kS28 (L : Nat) : aK (S0 L) 28 = 100 := rfl
theorem lS28 (L : Nat) : aL (S0 L) 28 = 832 := rfl
theorem kS29 (L : Nat) : aK (S0 L) 29 = 100 := rfl
theorem lS29 (L : Nat) : aL (S0 L) 29 = 832 := rfl
theorem kS30 (L : Nat) : aK (S0 L) 30 = 103 := rfl
theorem lS30 (L : Nat) : aL (S0 L) 30 = 832 := rfl
theorem kS31 (L : Nat) : aK (S0 L) 31 = 5 := rfl
theorem fS31_3 (L : Nat) : aF (S0 L) 31 3 = some 32 := rfl
theorem fS31_4 (L : Nat) : aF (S0 L) 31 4 = some 33 := rfl
theorem kS32 (L : Nat) : aK (S0 L) 32 = 103 := rfl
theorem lS32 (L : Nat) : aL (S0 L) 32 = 72 := rfl
theorem kS33 (L : Nat) : aK (S0 L) 33 = 100 := rfl
theorem lS33 (L : Nat) : aL (S0 L) 33 = 72 := rfl
theorem kS34 (L : Nat) : aK (S0 L) 34 = 5 := rfl
theorem fS34_3 (L : Nat) : aF (S0 L) 34 3 = some 35 := rfl
theorem fS34_4 (L : Nat) : aF (S0 L) 34 4 = some 36 := rfl
theorem kS35 (L : Nat) : aK (S0 L) 35 = 103 := rfl
theorem lS35 (L : Nat) : aL (S0 L) 35 = 72 := rfl
theorem kS36 (L : Nat) : aK (S0 L) 36 = 100 := rfl
theorem lS36 (L : Nat) : aL (S0 L) 36 = 72 := rfl
theorem kS37 (L : Nat) : aK (S0 L) 37 = 2 := rfl
theorem kS38 (L : Nat) : aK (S0 L) 38 = 0 := rfl
theorem fS38_0 (L : Nat) : aF (S0 L) 38 0 = some 39 := rfl
theorem kS39 (L : Nat) : aK (S0 L) 39 = 100 := rfl
theorem lS39 (L : Nat) : aL (S0 L) 39 = 16 := rfl
theorem kS40 (L : Nat) : aK (S0 L) 40 = 6 := rfl
theorem fS40_0 (L : Nat) : aF (S0 L) 40 0 = some 41 := rfl
theorem kS41 (L : Nat) : aK (S0 L) 41 = 100 := rfl
theorem lS41 (L : Nat) : aL (S0 L) 41 = 40 := rfl
theorem kS42 (L : Nat) : aK (S0 L) 42 = 6 := rfl
theorem fS42_0 (L : Nat) : aF (S0 L) 42 0 = some 43 := rfl
theorem kS43 (L : Nat) : aK (S0 L) 43 = 100 := rfl
theorem lS43 (L : Nat) : aL (S0 L) 43 = 40 := rfl
theorem kS44 (L : Nat) : aK (S0 L) 44 = 6 := rfl
theorem fS44_0 (L : Nat) : aF (S0 L) 44 0 = some 45 := rfl
theorem kS45 (L : Nat) : aK (S0 L) 45 = 100 := rfl
theorem lS45 (L : Nat) : aL (S0 L) 45 = 40 := rfl
theorem kS46 (L : Nat) : aK (S0 L) 46 = 6 := rfl
theorem fS46_0 (L : Nat) : aF (S0 L) 46 0 = some 47 := rfl
theorem kS47 (L : Nat) : aK (S0 L) 47 = 100 := rfl
theorem lS47 (L : Nat) : aL (S0 L) 47 = 40 := rfl
theorem kS48 (L : Nat) : aK (S0 L) 48 = 6 := rfl
theorem fS48_0 (L : Nat) : aF (S0 L) 48 0 = some 49 := rfl
theorem kS49 (L : Nat) : aK (S0 L) 49 = 100 := rfl
theorem lS49 (L : Nat) : aL (S0 L) 49 = 40 := rfl
theorem kS50 (L : Nat) : aK (S0 L) 50 = 6 := rfl
theorem fS50_0 (L : Nat) : aF (S0 L) 50 0 = some 51 := rfl
theorem kS51 (L : Nat) : aK (S0 L) 51 = 100 := rfl
theorem lS51 (L : Nat) : aL (S0 L) 51 = 40 := rfl
theorem kS52 (L : Nat) : aK (S0 L) 52 = 6 := rfl
theorem fS52_0 (L : Nat) : aF (S0 L) 52 0 = some 53 := rfl
theorem kS53 (L : Nat) : aK (S0 L) 53 = 100 := rfl
theorem lS53 (L : Nat) : aL (S0 L) 53 = 40 := rfl
theorem kS54 (L : Nat) : aK (S0 L) 54 = 6 := rfl
theorem fS54_0 (L : Nat) : aF (S0 L) 54 0 = some 55 := rfl
theorem kS55 (L : Nat) : aK (S0 L) 55 = 100 := rfl
theorem lS55 (L : Nat) : aL (S0 L) 55 = 40 := rfl
theorem kS56 (L : Nat) : aK (S0 L) 56 = 3 := rfl
theorem fS56_5 (L : Nat) : aF (S0 L) 56 5 = some 57 := rfl
theorem fS56_6 (L : Nat) : aF (S0 L) 56 6 = some 58 := rfl
theorem fS56_7 (L : Nat) : aF (S0 L) 56 7 = some 59 := rfl
theorem fS56_8 (L : Nat) : aF (S0 L) 56 8 = some 60 := rfl
theorem fS56_9 (L : Nat) : aF (S0 L) 56 9 = some 61 := rfl
theorem kS57 (L : Nat) : aK (S0 L) 57 = 103 := rfl
theorem lS57 (L : Nat) : aL (S0 L) 57 = 4 := rfl
theorem kS58 (L : Nat) : aK (S0 L) 58 = 100 := rfl
theorem lS58 (L : Nat) : aL (S0 L) 58 = 4 := rfl
theorem kS59 (L : Nat) : aK (S0 L) 59 = 100 := rfl
theorem lS59 (L : Nat) : aL (S0 L) 59 = 4 := rfl
theorem kS60 (L : Nat) : aK (S0 L) 60 = 103 := rfl
theorem lS60 (L : Nat) : aL (S0 L) 60 = 4 := rfl
theorem kS61 (L : Nat) : aK (S0 L) 61 = 103 := rfl
theorem lS61 (L : Nat) : aL (S0 L) 61 = 4 := rfl
theorem kS62 (L : Nat) : aK (S0 L) 62 = 3 := rfl
theorem fS62_5 (L : Nat) : aF (S0 L) 62 5 = some 63 := rfl
theorem fS62_6 (L : Nat) : aF (S0 L) 62 6 = some 64 := rfl
theorem fS62_7 (L : Nat) : aF (S0 L) 62 7 = some 65 := rfl
theorem fS62_8 (L : Nat) : aF (S0 L) 62 8 = some 66 := rfl
theorem fS62_9 (L : Nat) : aF (S0 L) 62 9 = some 67 := rfl
theorem kS63 (L : Nat) : aK (S0 L) 63 = 103 := rfl
theorem lS63 (L : Nat) : aL (S0 L) 63 = 4 := rfl
theorem kS64 (L : Nat) : aK (S0 L) 64 = 100 := rfl
theorem lS64 (L : Nat) : aL (S0 L) 64 = 4 := rfl
theorem kS65 (L : Nat) : aK (S0 L) 65 = 100 := rfl
theorem lS65 (L : Nat) : aL (S0 L) 65 = 4 := rfl
theorem kS66 (L : Nat) : aK (S0 L) 66 = 103 := rfl
theorem lS66 (L : Nat) : aL (S0 L) 66 = 4 := rfl
theorem kS67 (L : Nat) : aK (S0 L) 67 = 103 := rfl
theorem lS67 (L : Nat) : aL (S0 L) 67 = 4 := rfl
theorem kS68 (L : Nat) : aK (S0 L) 68 = 11 := rfl
theorem fS68_2 (L : Nat) : aF (S0 L) 68 2 = some 69 := rfl
theorem fS68_3 (L : Nat) : aF (S0 L) 68 3 = some 70 := rfl
theorem fS68_4 (L : Nat) : aF (S0 L) 68 4 = some 71 := rfl
theorem fS68_5 (L : Nat) : aF (S0 L) 68 5 = some 72 := rfl
theorem fS68_6 (L : Nat) : aF (S0 L) 68 6 = some 73 := rfl
theorem fS68_8 (L : Nat) : aF (S0 L) 68 8 = some 74 := rfl
theorem fS68_18 (L : Nat) : aF (S0 L) 68 18 = some 75 := rfl
theorem fS68_19 (L : Nat) : aF (S0 L) 68 19 = some 76 := rfl
theorem fS68_21 (L : Nat) : aF (S0 L) 68 21 = some 77 := rfl
theorem fS68_22 (L : Nat) : aF (S0 L) 68 22 = some 78 := rfl
theorem fS68_23 (L : Nat) : aF (S0 L) 68 23 = some 79 := rfl
theorem fS68_24 (L : Nat) : aF (S0 L) 68 24 = some 80 := rfl
theorem fS68_25 (L : Nat) : aF (S0 L) 68 25 = some 81 := rfl
theorem fS68_26 (L : Nat) : aF (S0 L) 68 26 = some 82 := rfl
theorem fS68_27 (L : Nat) : aF (S0 L) 68 27 = some 83 := rfl
theorem fS68_28 (L : Nat) : aF (S0 L) 68 28 = some 84 := rfl
theorem fS68_30 (L : Nat) : aF (S0 L) 68 30 = some 85 := rfl
theorem fS68_32 (L : Nat) : aF (S0 L) 68 32 = some 86 := rfl
theorem fS68_33 (L : Nat) : aF (S0 L) 68 33 = some 87 := rfl
theorem fS68_34 (L : Nat) : aF (S0 L) 68 34 = some 88 := rfl
theorem fS68_35 (L : Nat) : aF (S0 L) 68 35 = some 89 := rfl
theorem kS69 (L : Nat) : aK (S0 L) 69 = 100 := rfl
theorem lS69 (L : Nat) : aL (S0 L) 69 = 8 := rfl
theorem kS70 (L : Nat) : aK (S0 L) 70 = 100 := rfl
theorem lS70 (L : Nat) : aL (S0 L) 70 = 8 := rfl
theorem kS71 (L : Nat) : aK (S0 L) 71 = 100 := rfl
theorem lS71 (L : Nat) : aL (S0 L) 71 = 320 := rfl
theorem kS72 (L : Nat) : aK (S0 L) 72 = 100 := rfl
theorem lS72 (L : Nat) : aL (S0 L) 72 = 194 := rfl
theorem kS73 (L : Nat) : aK (S0 L) 73 = 100 := rfl
theorem lS73 (L : Nat) : aL (S0 L) 73 = 194 := rfl
theorem kS74 (L : Nat) : aK (S0 L) 74 = 100 := rfl
theorem lS74 (L : Nat) : aL (S0 L) 74 = 300 := rfl
theorem kS75 (L : Nat) : aK (S0 L) 75 = 102 := rfl
theorem lS75 (L : Nat) : aL (S0 L) 75 = 224 := rfl
theorem kS76 (L : Nat) : aK (S0 L) 76 = 100 := rfl
theorem lS76 (L : Nat) : aL (S0 L) 76 = 42 := rfl
theorem kS77 (L : Nat) : aK (S0 L) 77 = 100 := rfl
theorem lS77 (L : Nat) : aL (S0 L) 77 = 21 := rfl
theorem kS78 (L : Nat) : aK (S0 L) 78 = 100 := rfl
theorem lS78 (L : Nat) : aL (S0 L) 78 = 24 := rfl
theorem kS79 (L : Nat) : aK (S0 L) 79 = 100 := rfl
theorem lS79 (L : Nat) : aL (S0 L) 79 = 26 := rfl
theorem kS80 (L : Nat) : aK (S0 L) 80 = 100 := rfl
theorem lS80 (L : Nat) : aL (S0 L) 80 = 26 := rfl
theorem kS81 (L : Nat) : aK (S0 L) 81 = 100 := rfl
theorem lS81 (L : Nat) : aL (S0 L) 81 = 2 := rfl
theorem kS82 (L : Nat) : aK (S0 L) 82 = 100 := rfl
theorem lS82 (L : Nat) : aL (S0 L) 82 = 2 := rfl
theorem kS83 (L : Nat) : aK (S0 L) 83 = 100 := rfl
theorem lS83 (L : Nat) : aL (S0 L) 83 = 2 := rfl
theorem kS84 (L : Nat) : aK (S0 L) 84 = 100 := rfl
theorem lS84 (L : Nat) : aL (S0 L) 84 = 2 := rfl
theorem kS85 (L : Nat) : aK (S0 L) 85 = 100 := rfl
theorem lS85 (L : Nat) : aL (S0 L) 85 = 12 := rfl
theorem kS86 (L : Nat) : aK (S0 L) 86 = 100 := rfl
theorem lS86 (L : Nat) : aL (S0 L) 86 = 8 := rfl
theorem kS87 (L : Nat) : aK (S0 L) 87 = 102 := rfl
theorem lS87 (L : Nat) : aL (S0 L) 87 = 2 := rfl
theorem kS88 (L : Nat) : aK (S0 L) 88 = 100 := rfl
theorem lS88 (L : Nat) : aL (S0 L) 88 = 388 := rfl
theorem kS89 (L : Nat) : aK (S0 L) 89 = 100 := rfl
theorem lS89 (L : Nat) : aL (S0 L) 89 = 16 := rfl
theorem S0_len (L : Nat) : (S0 L).length = 90 := rfl
