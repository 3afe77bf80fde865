/-! where all lies: 0 HailClub, 217 the reference -/
def lyT : List (Nat × Nat) := [(110, 0), (108, 0), (1, 700), (106, 0), (3, 7), (2, 64), (2, 4), (3, 12), (0, 12), (0, 12), (2, 12), (4, 24), (5, 16), (0, 12), (7, 6), (3, 12), (3, 12), (3, 12), (3, 12), (3, 12), (3, 12), (106, 0), (3, 7), (2, 64), (2, 4), (3, 12), (0, 12), (0, 12), (2, 12), (4, 24), (5, 16), (0, 12), (7, 6), (3, 12), (3, 12), (3, 12), (3, 12), (3, 12), (3, 12), (104, 0), (2, 700), (3, 40), (104, 0), (2, 700), (3, 40), (105, 0), (2, 5), (109, 0), (2, 701), (2, 701), (3, 701), (3, 18), (103, 0), (6, 8), (106, 0), (3, 7), (2, 64), (2, 4), (3, 12), (0, 12), (0, 12), (2, 12), (4, 24), (5, 16), (0, 12), (7, 6), (3, 12), (3, 12), (3, 12), (3, 12), (3, 12), (3, 12), (106, 0), (3, 7), (2, 64), (2, 4), (3, 12), (0, 12), (0, 12), (2, 12), (4, 24), (5, 16), (0, 12), (7, 6), (3, 12), (3, 12), (3, 12), (3, 12), (3, 12), (3, 12), (106, 0), (3, 7), (2, 64), (2, 4), (3, 12), (0, 12), (0, 12), (2, 12), (4, 24), (5, 16), (0, 12), (7, 6), (3, 12), (3, 12), (3, 12), (3, 12), (3, 12), (3, 12), (106, 0), (3, 7), (2, 64), (2, 4), (3, 12), (0, 12), (0, 12), (2, 12), (4, 24), (5, 16), (0, 12), (7, 6), (3, 12), (3, 12), (3, 12), (3, 12), (3, 12), (3, 12), (106, 0), (3, 7), (2, 64), (2, 4), (3, 12), (0, 12), (0, 12), (2, 12), (4, 24), (5, 16), (0, 12), (7, 6), (3, 12), (3, 12), (3, 12), (3, 12), (3, 12), (3, 12), (106, 0), (3, 7), (2, 64), (2, 4), (3, 12), (0, 12), (0, 12), (2, 12), (4, 24), (5, 16), (0, 12), (7, 6), (3, 12), (3, 12), (3, 12), (3, 12), (3, 12), (3, 12), (106, 0), (3, 7), (2, 64), (2, 4), (3, 12), (0, 12), (0, 12), (2, 12), (4, 24), (5, 16), (0, 12), (7, 6), (3, 12), (3, 12), (3, 12), (3, 12), (3, 12), (3, 12), (106, 0), (3, 7), (2, 64), (2, 4), (3, 12), (0, 12), (0, 12), (2, 12), (4, 24), (5, 16), (0, 12), (7, 6), (3, 12), (3, 12), (3, 12), (3, 12), (3, 12), (3, 12), (100, 0), (3, 24), (3, 24), (101, 0), (3, 11), (7, 6), (3, 12), (3, 12), (3, 12), (3, 12), (3, 12), (3, 12), (0, 12), (0, 12), (3, 12), (3, 12), (3, 12), (3, 12), (3, 12), (111, 0), (3, 210), (3, 1680), (3, 24), (2, 294), (2, 128), (2, 8), (2, 6), (3, 1400), (2, 1400), (2, 700), (3, 700), (3, 4), (3, 12), (3, 12), (3, 12), (0, 12), (3, 72), (3, 12), (3, 11), (0, 12)]
def lyF : List (Nat × Nat × Nat) := [(0, 0, 1), (0, 1, 3), (0, 2, 21), (0, 3, 39), (0, 4, 42), (0, 5, 45), (0, 6, 52), (0, 7, 198), (0, 8, 201), (1, 0, 2), (3, 0, 4), (3, 1, 5), (3, 2, 6), (3, 3, 7), (3, 4, 8), (3, 5, 9), (3, 6, 10), (3, 7, 11), (3, 8, 12), (3, 9, 13), (3, 10, 14), (14, 0, 15), (14, 1, 16), (14, 2, 17), (14, 3, 18), (14, 4, 19), (14, 5, 20), (21, 0, 22), (21, 1, 23), (21, 2, 24), (21, 3, 25), (21, 4, 26), (21, 5, 27), (21, 6, 28), (21, 7, 29), (21, 8, 30), (21, 9, 31), (21, 10, 32), (32, 0, 33), (32, 1, 34), (32, 2, 35), (32, 3, 36), (32, 4, 37), (32, 5, 38), (39, 0, 40), (39, 1, 41), (42, 0, 43), (42, 1, 44), (45, 0, 47), (45, 1, 21), (45, 2, 42), (45, 3, 46), (47, 0, 48), (47, 1, 49), (47, 2, 50), (47, 4, 51), (47, 5, 1), (52, 0, 53), (53, 0, 54), (53, 1, 72), (53, 2, 90), (53, 3, 108), (53, 4, 126), (53, 5, 144), (53, 6, 162), (53, 7, 180), (54, 0, 55), (54, 1, 56), (54, 2, 57), (54, 3, 58), (54, 4, 59), (54, 5, 60), (54, 6, 61), (54, 7, 62), (54, 8, 63), (54, 9, 64), (54, 10, 65), (65, 0, 66), (65, 1, 67), (65, 2, 68), (65, 3, 69), (65, 4, 70), (65, 5, 71), (72, 0, 73), (72, 1, 74), (72, 2, 75), (72, 3, 76), (72, 4, 77), (72, 5, 78), (72, 6, 79), (72, 7, 80), (72, 8, 81), (72, 9, 82), (72, 10, 83), (83, 0, 84), (83, 1, 85), (83, 2, 86), (83, 3, 87), (83, 4, 88), (83, 5, 89), (90, 0, 91), (90, 1, 92), (90, 2, 93), (90, 3, 94), (90, 4, 95), (90, 5, 96), (90, 6, 97), (90, 7, 98), (90, 8, 99), (90, 9, 100), (90, 10, 101), (101, 0, 102), (101, 1, 103), (101, 2, 104), (101, 3, 105), (101, 4, 106), (101, 5, 107), (108, 0, 109), (108, 1, 110), (108, 2, 111), (108, 3, 112), (108, 4, 113), (108, 5, 114), (108, 6, 115), (108, 7, 116), (108, 8, 117), (108, 9, 118), (108, 10, 119), (119, 0, 120), (119, 1, 121), (119, 2, 122), (119, 3, 123), (119, 4, 124), (119, 5, 125), (126, 0, 127), (126, 1, 128), (126, 2, 129), (126, 3, 130), (126, 4, 131), (126, 5, 132), (126, 6, 133), (126, 7, 134), (126, 8, 135), (126, 9, 136), (126, 10, 137), (137, 0, 138), (137, 1, 139), (137, 2, 140), (137, 3, 141), (137, 4, 142), (137, 5, 143), (144, 0, 145), (144, 1, 146), (144, 2, 147), (144, 3, 148), (144, 4, 149), (144, 5, 150), (144, 6, 151), (144, 7, 152), (144, 8, 153), (144, 9, 154), (144, 10, 155), (155, 0, 156), (155, 1, 157), (155, 2, 158), (155, 3, 159), (155, 4, 160), (155, 5, 161), (162, 0, 163), (162, 1, 164), (162, 2, 165), (162, 3, 166), (162, 4, 167), (162, 5, 168), (162, 6, 169), (162, 7, 170), (162, 8, 171), (162, 9, 172), (162, 10, 173), (173, 0, 174), (173, 1, 175), (173, 2, 176), (173, 3, 177), (173, 4, 178), (173, 5, 179), (180, 0, 181), (180, 1, 182), (180, 2, 183), (180, 3, 184), (180, 4, 185), (180, 5, 186), (180, 6, 187), (180, 7, 188), (180, 8, 189), (180, 9, 190), (180, 10, 191), (191, 0, 192), (191, 1, 193), (191, 2, 194), (191, 3, 195), (191, 4, 196), (191, 5, 197), (198, 0, 3), (198, 1, 39), (198, 2, 199), (198, 3, 200), (201, 0, 3), (201, 1, 198), (201, 2, 202), (201, 3, 203), (201, 4, 210), (201, 5, 211), (201, 6, 212), (201, 7, 213), (201, 8, 214), (201, 9, 215), (201, 10, 216), (203, 0, 204), (203, 1, 205), (203, 2, 206), (203, 3, 207), (203, 4, 208), (203, 5, 209), (217, 0, 218), (217, 1, 219), (217, 3, 220), (217, 4, 221), (217, 5, 222), (217, 6, 223), (217, 7, 224), (217, 8, 225), (217, 9, 226), (217, 19, 227), (217, 33, 228), (217, 34, 229), (217, 36, 230), (217, 37, 231), (217, 38, 232), (217, 39, 233), (217, 40, 234), (217, 41, 235), (217, 42, 236), (217, 43, 237)]
def LY (Λ : hc_L) : Prop := 238 ≤ Λ.1 ∧ (∀ (k : Nat) (q : Nat × Nat), lyT[k]? = some q → Λ.2.1 k = q) ∧ ∀ (i k j r : Nat), lyF[i]? = some (k, j, r) → Λ.2.2 k j = some r
theorem LY.lt {Λ : hc_L} (h : LY Λ) {k : Nat} (hk : k < 238) : k < Λ.1 := Nat.lt_of_lt_of_le hk h.1
theorem ly0 {Λ : hc_L} (h : LY Λ) : Λ.2.1 0 = (110, 0) := h.2.1 0 _ rfl
theorem ly1 {Λ : hc_L} (h : LY Λ) : Λ.2.1 1 = (108, 0) := h.2.1 1 _ rfl
theorem ly2 {Λ : hc_L} (h : LY Λ) : Λ.2.1 2 = (1, 700) := h.2.1 2 _ rfl
theorem ly3 {Λ : hc_L} (h : LY Λ) : Λ.2.1 3 = (106, 0) := h.2.1 3 _ rfl
theorem ly4 {Λ : hc_L} (h : LY Λ) : Λ.2.1 4 = (3, 7) := h.2.1 4 _ rfl
theorem ly5 {Λ : hc_L} (h : LY Λ) : Λ.2.1 5 = (2, 64) := h.2.1 5 _ rfl
theorem ly6 {Λ : hc_L} (h : LY Λ) : Λ.2.1 6 = (2, 4) := h.2.1 6 _ rfl
theorem ly7 {Λ : hc_L} (h : LY Λ) : Λ.2.1 7 = (3, 12) := h.2.1 7 _ rfl
theorem ly8 {Λ : hc_L} (h : LY Λ) : Λ.2.1 8 = (0, 12) := h.2.1 8 _ rfl
theorem ly9 {Λ : hc_L} (h : LY Λ) : Λ.2.1 9 = (0, 12) := h.2.1 9 _ rfl
theorem ly10 {Λ : hc_L} (h : LY Λ) : Λ.2.1 10 = (2, 12) := h.2.1 10 _ rfl
theorem ly11 {Λ : hc_L} (h : LY Λ) : Λ.2.1 11 = (4, 24) := h.2.1 11 _ rfl
theorem ly12 {Λ : hc_L} (h : LY Λ) : Λ.2.1 12 = (5, 16) := h.2.1 12 _ rfl
theorem ly13 {Λ : hc_L} (h : LY Λ) : Λ.2.1 13 = (0, 12) := h.2.1 13 _ rfl
theorem ly14 {Λ : hc_L} (h : LY Λ) : Λ.2.1 14 = (7, 6) := h.2.1 14 _ rfl
theorem ly15 {Λ : hc_L} (h : LY Λ) : Λ.2.1 15 = (3, 12) := h.2.1 15 _ rfl
theorem ly16 {Λ : hc_L} (h : LY Λ) : Λ.2.1 16 = (3, 12) := h.2.1 16 _ rfl
theorem ly17 {Λ : hc_L} (h : LY Λ) : Λ.2.1 17 = (3, 12) := h.2.1 17 _ rfl
theorem ly18 {Λ : hc_L} (h : LY Λ) : Λ.2.1 18 = (3, 12) := h.2.1 18 _ rfl
theorem ly19 {Λ : hc_L} (h : LY Λ) : Λ.2.1 19 = (3, 12) := h.2.1 19 _ rfl
theorem ly20 {Λ : hc_L} (h : LY Λ) : Λ.2.1 20 = (3, 12) := h.2.1 20 _ rfl
theorem ly21 {Λ : hc_L} (h : LY Λ) : Λ.2.1 21 = (106, 0) := h.2.1 21 _ rfl
theorem ly22 {Λ : hc_L} (h : LY Λ) : Λ.2.1 22 = (3, 7) := h.2.1 22 _ rfl
theorem ly23 {Λ : hc_L} (h : LY Λ) : Λ.2.1 23 = (2, 64) := h.2.1 23 _ rfl
theorem ly24 {Λ : hc_L} (h : LY Λ) : Λ.2.1 24 = (2, 4) := h.2.1 24 _ rfl
theorem ly25 {Λ : hc_L} (h : LY Λ) : Λ.2.1 25 = (3, 12) := h.2.1 25 _ rfl
theorem ly26 {Λ : hc_L} (h : LY Λ) : Λ.2.1 26 = (0, 12) := h.2.1 26 _ rfl
theorem ly27 {Λ : hc_L} (h : LY Λ) : Λ.2.1 27 = (0, 12) := h.2.1 27 _ rfl
theorem ly28 {Λ : hc_L} (h : LY Λ) : Λ.2.1 28 = (2, 12) := h.2.1 28 _ rfl
theorem ly29 {Λ : hc_L} (h : LY Λ) : Λ.2.1 29 = (4, 24) := h.2.1 29 _ rfl
theorem ly30 {Λ : hc_L} (h : LY Λ) : Λ.2.1 30 = (5, 16) := h.2.1 30 _ rfl
theorem ly31 {Λ : hc_L} (h : LY Λ) : Λ.2.1 31 = (0, 12) := h.2.1 31 _ rfl
theorem ly32 {Λ : hc_L} (h : LY Λ) : Λ.2.1 32 = (7, 6) := h.2.1 32 _ rfl
theorem ly33 {Λ : hc_L} (h : LY Λ) : Λ.2.1 33 = (3, 12) := h.2.1 33 _ rfl
theorem ly34 {Λ : hc_L} (h : LY Λ) : Λ.2.1 34 = (3, 12) := h.2.1 34 _ rfl
theorem ly35 {Λ : hc_L} (h : LY Λ) : Λ.2.1 35 = (3, 12) := h.2.1 35 _ rfl
theorem ly36 {Λ : hc_L} (h : LY Λ) : Λ.2.1 36 = (3, 12) := h.2.1 36 _ rfl
theorem ly37 {Λ : hc_L} (h : LY Λ) : Λ.2.1 37 = (3, 12) := h.2.1 37 _ rfl
theorem ly38 {Λ : hc_L} (h : LY Λ) : Λ.2.1 38 = (3, 12) := h.2.1 38 _ rfl
theorem ly39 {Λ : hc_L} (h : LY Λ) : Λ.2.1 39 = (104, 0) := h.2.1 39 _ rfl
theorem ly40 {Λ : hc_L} (h : LY Λ) : Λ.2.1 40 = (2, 700) := h.2.1 40 _ rfl
theorem ly41 {Λ : hc_L} (h : LY Λ) : Λ.2.1 41 = (3, 40) := h.2.1 41 _ rfl
theorem ly42 {Λ : hc_L} (h : LY Λ) : Λ.2.1 42 = (104, 0) := h.2.1 42 _ rfl
theorem ly43 {Λ : hc_L} (h : LY Λ) : Λ.2.1 43 = (2, 700) := h.2.1 43 _ rfl
theorem ly44 {Λ : hc_L} (h : LY Λ) : Λ.2.1 44 = (3, 40) := h.2.1 44 _ rfl
theorem ly45 {Λ : hc_L} (h : LY Λ) : Λ.2.1 45 = (105, 0) := h.2.1 45 _ rfl
theorem ly46 {Λ : hc_L} (h : LY Λ) : Λ.2.1 46 = (2, 5) := h.2.1 46 _ rfl
theorem ly47 {Λ : hc_L} (h : LY Λ) : Λ.2.1 47 = (109, 0) := h.2.1 47 _ rfl
theorem ly48 {Λ : hc_L} (h : LY Λ) : Λ.2.1 48 = (2, 701) := h.2.1 48 _ rfl
theorem ly49 {Λ : hc_L} (h : LY Λ) : Λ.2.1 49 = (2, 701) := h.2.1 49 _ rfl
theorem ly50 {Λ : hc_L} (h : LY Λ) : Λ.2.1 50 = (3, 701) := h.2.1 50 _ rfl
theorem ly51 {Λ : hc_L} (h : LY Λ) : Λ.2.1 51 = (3, 18) := h.2.1 51 _ rfl
theorem ly52 {Λ : hc_L} (h : LY Λ) : Λ.2.1 52 = (103, 0) := h.2.1 52 _ rfl
theorem ly53 {Λ : hc_L} (h : LY Λ) : Λ.2.1 53 = (6, 8) := h.2.1 53 _ rfl
theorem ly54 {Λ : hc_L} (h : LY Λ) : Λ.2.1 54 = (106, 0) := h.2.1 54 _ rfl
theorem ly55 {Λ : hc_L} (h : LY Λ) : Λ.2.1 55 = (3, 7) := h.2.1 55 _ rfl
theorem ly56 {Λ : hc_L} (h : LY Λ) : Λ.2.1 56 = (2, 64) := h.2.1 56 _ rfl
theorem ly57 {Λ : hc_L} (h : LY Λ) : Λ.2.1 57 = (2, 4) := h.2.1 57 _ rfl
theorem ly58 {Λ : hc_L} (h : LY Λ) : Λ.2.1 58 = (3, 12) := h.2.1 58 _ rfl
theorem ly59 {Λ : hc_L} (h : LY Λ) : Λ.2.1 59 = (0, 12) := h.2.1 59 _ rfl
theorem ly60 {Λ : hc_L} (h : LY Λ) : Λ.2.1 60 = (0, 12) := h.2.1 60 _ rfl
theorem ly61 {Λ : hc_L} (h : LY Λ) : Λ.2.1 61 = (2, 12) := h.2.1 61 _ rfl
theorem ly62 {Λ : hc_L} (h : LY Λ) : Λ.2.1 62 = (4, 24) := h.2.1 62 _ rfl
theorem ly63 {Λ : hc_L} (h : LY Λ) : Λ.2.1 63 = (5, 16) := h.2.1 63 _ rfl
theorem ly64 {Λ : hc_L} (h : LY Λ) : Λ.2.1 64 = (0, 12) := h.2.1 64 _ rfl
theorem ly65 {Λ : hc_L} (h : LY Λ) : Λ.2.1 65 = (7, 6) := h.2.1 65 _ rfl
theorem ly66 {Λ : hc_L} (h : LY Λ) : Λ.2.1 66 = (3, 12) := h.2.1 66 _ rfl
theorem ly67 {Λ : hc_L} (h : LY Λ) : Λ.2.1 67 = (3, 12) := h.2.1 67 _ rfl
theorem ly68 {Λ : hc_L} (h : LY Λ) : Λ.2.1 68 = (3, 12) := h.2.1 68 _ rfl
theorem ly69 {Λ : hc_L} (h : LY Λ) : Λ.2.1 69 = (3, 12) := h.2.1 69 _ rfl
theorem ly70 {Λ : hc_L} (h : LY Λ) : Λ.2.1 70 = (3, 12) := h.2.1 70 _ rfl
theorem ly71 {Λ : hc_L} (h : LY Λ) : Λ.2.1 71 = (3, 12) := h.2.1 71 _ rfl
theorem ly72 {Λ : hc_L} (h : LY Λ) : Λ.2.1 72 = (106, 0) := h.2.1 72 _ rfl
theorem ly73 {Λ : hc_L} (h : LY Λ) : Λ.2.1 73 = (3, 7) := h.2.1 73 _ rfl
theorem ly74 {Λ : hc_L} (h : LY Λ) : Λ.2.1 74 = (2, 64) := h.2.1 74 _ rfl
theorem ly75 {Λ : hc_L} (h : LY Λ) : Λ.2.1 75 = (2, 4) := h.2.1 75 _ rfl
theorem ly76 {Λ : hc_L} (h : LY Λ) : Λ.2.1 76 = (3, 12) := h.2.1 76 _ rfl
theorem ly77 {Λ : hc_L} (h : LY Λ) : Λ.2.1 77 = (0, 12) := h.2.1 77 _ rfl
theorem ly78 {Λ : hc_L} (h : LY Λ) : Λ.2.1 78 = (0, 12) := h.2.1 78 _ rfl
theorem ly79 {Λ : hc_L} (h : LY Λ) : Λ.2.1 79 = (2, 12) := h.2.1 79 _ rfl
theorem ly80 {Λ : hc_L} (h : LY Λ) : Λ.2.1 80 = (4, 24) := h.2.1 80 _ rfl
theorem ly81 {Λ : hc_L} (h : LY Λ) : Λ.2.1 81 = (5, 16) := h.2.1 81 _ rfl
theorem ly82 {Λ : hc_L} (h : LY Λ) : Λ.2.1 82 = (0, 12) := h.2.1 82 _ rfl
theorem ly83 {Λ : hc_L} (h : LY Λ) : Λ.2.1 83 = (7, 6) := h.2.1 83 _ rfl
theorem ly84 {Λ : hc_L} (h : LY Λ) : Λ.2.1 84 = (3, 12) := h.2.1 84 _ rfl
theorem ly85 {Λ : hc_L} (h : LY Λ) : Λ.2.1 85 = (3, 12) := h.2.1 85 _ rfl
theorem ly86 {Λ : hc_L} (h : LY Λ) : Λ.2.1 86 = (3, 12) := h.2.1 86 _ rfl
theorem ly87 {Λ : hc_L} (h : LY Λ) : Λ.2.1 87 = (3, 12) := h.2.1 87 _ rfl
theorem ly88 {Λ : hc_L} (h : LY Λ) : Λ.2.1 88 = (3, 12) := h.2.1 88 _ rfl
theorem ly89 {Λ : hc_L} (h : LY Λ) : Λ.2.1 89 = (3, 12) := h.2.1 89 _ rfl
theorem ly90 {Λ : hc_L} (h : LY Λ) : Λ.2.1 90 = (106, 0) := h.2.1 90 _ rfl
theorem ly91 {Λ : hc_L} (h : LY Λ) : Λ.2.1 91 = (3, 7) := h.2.1 91 _ rfl
theorem ly92 {Λ : hc_L} (h : LY Λ) : Λ.2.1 92 = (2, 64) := h.2.1 92 _ rfl
theorem ly93 {Λ : hc_L} (h : LY Λ) : Λ.2.1 93 = (2, 4) := h.2.1 93 _ rfl
theorem ly94 {Λ : hc_L} (h : LY Λ) : Λ.2.1 94 = (3, 12) := h.2.1 94 _ rfl
theorem ly95 {Λ : hc_L} (h : LY Λ) : Λ.2.1 95 = (0, 12) := h.2.1 95 _ rfl
theorem ly96 {Λ : hc_L} (h : LY Λ) : Λ.2.1 96 = (0, 12) := h.2.1 96 _ rfl
theorem ly97 {Λ : hc_L} (h : LY Λ) : Λ.2.1 97 = (2, 12) := h.2.1 97 _ rfl
theorem ly98 {Λ : hc_L} (h : LY Λ) : Λ.2.1 98 = (4, 24) := h.2.1 98 _ rfl
theorem ly99 {Λ : hc_L} (h : LY Λ) : Λ.2.1 99 = (5, 16) := h.2.1 99 _ rfl
theorem ly100 {Λ : hc_L} (h : LY Λ) : Λ.2.1 100 = (0, 12) := h.2.1 100 _ rfl
theorem ly101 {Λ : hc_L} (h : LY Λ) : Λ.2.1 101 = (7, 6) := h.2.1 101 _ rfl
theorem ly102 {Λ : hc_L} (h : LY Λ) : Λ.2.1 102 = (3, 12) := h.2.1 102 _ rfl
theorem ly103 {Λ : hc_L} (h : LY Λ) : Λ.2.1 103 = (3, 12) := h.2.1 103 _ rfl
theorem ly104 {Λ : hc_L} (h : LY Λ) : Λ.2.1 104 = (3, 12) := h.2.1 104 _ rfl
theorem ly105 {Λ : hc_L} (h : LY Λ) : Λ.2.1 105 = (3, 12) := h.2.1 105 _ rfl
theorem ly106 {Λ : hc_L} (h : LY Λ) : Λ.2.1 106 = (3, 12) := h.2.1 106 _ rfl
theorem ly107 {Λ : hc_L} (h : LY Λ) : Λ.2.1 107 = (3, 12) := h.2.1 107 _ rfl
theorem ly108 {Λ : hc_L} (h : LY Λ) : Λ.2.1 108 = (106, 0) := h.2.1 108 _ rfl
theorem ly109 {Λ : hc_L} (h : LY Λ) : Λ.2.1 109 = (3, 7) := h.2.1 109 _ rfl
theorem ly110 {Λ : hc_L} (h : LY Λ) : Λ.2.1 110 = (2, 64) := h.2.1 110 _ rfl
theorem ly111 {Λ : hc_L} (h : LY Λ) : Λ.2.1 111 = (2, 4) := h.2.1 111 _ rfl
theorem ly112 {Λ : hc_L} (h : LY Λ) : Λ.2.1 112 = (3, 12) := h.2.1 112 _ rfl
theorem ly113 {Λ : hc_L} (h : LY Λ) : Λ.2.1 113 = (0, 12) := h.2.1 113 _ rfl
theorem ly114 {Λ : hc_L} (h : LY Λ) : Λ.2.1 114 = (0, 12) := h.2.1 114 _ rfl
theorem ly115 {Λ : hc_L} (h : LY Λ) : Λ.2.1 115 = (2, 12) := h.2.1 115 _ rfl
theorem ly116 {Λ : hc_L} (h : LY Λ) : Λ.2.1 116 = (4, 24) := h.2.1 116 _ rfl
theorem ly117 {Λ : hc_L} (h : LY Λ) : Λ.2.1 117 = (5, 16) := h.2.1 117 _ rfl
theorem ly118 {Λ : hc_L} (h : LY Λ) : Λ.2.1 118 = (0, 12) := h.2.1 118 _ rfl
theorem ly119 {Λ : hc_L} (h : LY Λ) : Λ.2.1 119 = (7, 6) := h.2.1 119 _ rfl
theorem ly120 {Λ : hc_L} (h : LY Λ) : Λ.2.1 120 = (3, 12) := h.2.1 120 _ rfl
theorem ly121 {Λ : hc_L} (h : LY Λ) : Λ.2.1 121 = (3, 12) := h.2.1 121 _ rfl
theorem ly122 {Λ : hc_L} (h : LY Λ) : Λ.2.1 122 = (3, 12) := h.2.1 122 _ rfl
theorem ly123 {Λ : hc_L} (h : LY Λ) : Λ.2.1 123 = (3, 12) := h.2.1 123 _ rfl
theorem ly124 {Λ : hc_L} (h : LY Λ) : Λ.2.1 124 = (3, 12) := h.2.1 124 _ rfl
theorem ly125 {Λ : hc_L} (h : LY Λ) : Λ.2.1 125 = (3, 12) := h.2.1 125 _ rfl
theorem ly126 {Λ : hc_L} (h : LY Λ) : Λ.2.1 126 = (106, 0) := h.2.1 126 _ rfl
theorem ly127 {Λ : hc_L} (h : LY Λ) : Λ.2.1 127 = (3, 7) := h.2.1 127 _ rfl
theorem ly128 {Λ : hc_L} (h : LY Λ) : Λ.2.1 128 = (2, 64) := h.2.1 128 _ rfl
theorem ly129 {Λ : hc_L} (h : LY Λ) : Λ.2.1 129 = (2, 4) := h.2.1 129 _ rfl
theorem ly130 {Λ : hc_L} (h : LY Λ) : Λ.2.1 130 = (3, 12) := h.2.1 130 _ rfl
theorem ly131 {Λ : hc_L} (h : LY Λ) : Λ.2.1 131 = (0, 12) := h.2.1 131 _ rfl
theorem ly132 {Λ : hc_L} (h : LY Λ) : Λ.2.1 132 = (0, 12) := h.2.1 132 _ rfl
theorem ly133 {Λ : hc_L} (h : LY Λ) : Λ.2.1 133 = (2, 12) := h.2.1 133 _ rfl
theorem ly134 {Λ : hc_L} (h : LY Λ) : Λ.2.1 134 = (4, 24) := h.2.1 134 _ rfl
theorem ly135 {Λ : hc_L} (h : LY Λ) : Λ.2.1 135 = (5, 16) := h.2.1 135 _ rfl
theorem ly136 {Λ : hc_L} (h : LY Λ) : Λ.2.1 136 = (0, 12) := h.2.1 136 _ rfl
theorem ly137 {Λ : hc_L} (h : LY Λ) : Λ.2.1 137 = (7, 6) := h.2.1 137 _ rfl
theorem ly138 {Λ : hc_L} (h : LY Λ) : Λ.2.1 138 = (3, 12) := h.2.1 138 _ rfl
theorem ly139 {Λ : hc_L} (h : LY Λ) : Λ.2.1 139 = (3, 12) := h.2.1 139 _ rfl
theorem ly140 {Λ : hc_L} (h : LY Λ) : Λ.2.1 140 = (3, 12) := h.2.1 140 _ rfl
theorem ly141 {Λ : hc_L} (h : LY Λ) : Λ.2.1 141 = (3, 12) := h.2.1 141 _ rfl
theorem ly142 {Λ : hc_L} (h : LY Λ) : Λ.2.1 142 = (3, 12) := h.2.1 142 _ rfl
theorem ly143 {Λ : hc_L} (h : LY Λ) : Λ.2.1 143 = (3, 12) := h.2.1 143 _ rfl
theorem ly144 {Λ : hc_L} (h : LY Λ) : Λ.2.1 144 = (106, 0) := h.2.1 144 _ rfl
theorem ly145 {Λ : hc_L} (h : LY Λ) : Λ.2.1 145 = (3, 7) := h.2.1 145 _ rfl
theorem ly146 {Λ : hc_L} (h : LY Λ) : Λ.2.1 146 = (2, 64) := h.2.1 146 _ rfl
theorem ly147 {Λ : hc_L} (h : LY Λ) : Λ.2.1 147 = (2, 4) := h.2.1 147 _ rfl
theorem ly148 {Λ : hc_L} (h : LY Λ) : Λ.2.1 148 = (3, 12) := h.2.1 148 _ rfl
theorem ly149 {Λ : hc_L} (h : LY Λ) : Λ.2.1 149 = (0, 12) := h.2.1 149 _ rfl
theorem ly150 {Λ : hc_L} (h : LY Λ) : Λ.2.1 150 = (0, 12) := h.2.1 150 _ rfl
theorem ly151 {Λ : hc_L} (h : LY Λ) : Λ.2.1 151 = (2, 12) := h.2.1 151 _ rfl
theorem ly152 {Λ : hc_L} (h : LY Λ) : Λ.2.1 152 = (4, 24) := h.2.1 152 _ rfl
theorem ly153 {Λ : hc_L} (h : LY Λ) : Λ.2.1 153 = (5, 16) := h.2.1 153 _ rfl
theorem ly154 {Λ : hc_L} (h : LY Λ) : Λ.2.1 154 = (0, 12) := h.2.1 154 _ rfl
theorem ly155 {Λ : hc_L} (h : LY Λ) : Λ.2.1 155 = (7, 6) := h.2.1 155 _ rfl
theorem ly156 {Λ : hc_L} (h : LY Λ) : Λ.2.1 156 = (3, 12) := h.2.1 156 _ rfl
theorem ly157 {Λ : hc_L} (h : LY Λ) : Λ.2.1 157 = (3, 12) := h.2.1 157 _ rfl
theorem ly158 {Λ : hc_L} (h : LY Λ) : Λ.2.1 158 = (3, 12) := h.2.1 158 _ rfl
theorem ly159 {Λ : hc_L} (h : LY Λ) : Λ.2.1 159 = (3, 12) := h.2.1 159 _ rfl
theorem ly160 {Λ : hc_L} (h : LY Λ) : Λ.2.1 160 = (3, 12) := h.2.1 160 _ rfl
theorem ly161 {Λ : hc_L} (h : LY Λ) : Λ.2.1 161 = (3, 12) := h.2.1 161 _ rfl
theorem ly162 {Λ : hc_L} (h : LY Λ) : Λ.2.1 162 = (106, 0) := h.2.1 162 _ rfl
theorem ly163 {Λ : hc_L} (h : LY Λ) : Λ.2.1 163 = (3, 7) := h.2.1 163 _ rfl
theorem ly164 {Λ : hc_L} (h : LY Λ) : Λ.2.1 164 = (2, 64) := h.2.1 164 _ rfl
theorem ly165 {Λ : hc_L} (h : LY Λ) : Λ.2.1 165 = (2, 4) := h.2.1 165 _ rfl
theorem ly166 {Λ : hc_L} (h : LY Λ) : Λ.2.1 166 = (3, 12) := h.2.1 166 _ rfl
theorem ly167 {Λ : hc_L} (h : LY Λ) : Λ.2.1 167 = (0, 12) := h.2.1 167 _ rfl
theorem ly168 {Λ : hc_L} (h : LY Λ) : Λ.2.1 168 = (0, 12) := h.2.1 168 _ rfl
theorem ly169 {Λ : hc_L} (h : LY Λ) : Λ.2.1 169 = (2, 12) := h.2.1 169 _ rfl
theorem ly170 {Λ : hc_L} (h : LY Λ) : Λ.2.1 170 = (4, 24) := h.2.1 170 _ rfl
theorem ly171 {Λ : hc_L} (h : LY Λ) : Λ.2.1 171 = (5, 16) := h.2.1 171 _ rfl
theorem ly172 {Λ : hc_L} (h : LY Λ) : Λ.2.1 172 = (0, 12) := h.2.1 172 _ rfl
theorem ly173 {Λ : hc_L} (h : LY Λ) : Λ.2.1 173 = (7, 6) := h.2.1 173 _ rfl
theorem ly174 {Λ : hc_L} (h : LY Λ) : Λ.2.1 174 = (3, 12) := h.2.1 174 _ rfl
theorem ly175 {Λ : hc_L} (h : LY Λ) : Λ.2.1 175 = (3, 12) := h.2.1 175 _ rfl
theorem ly176 {Λ : hc_L} (h : LY Λ) : Λ.2.1 176 = (3, 12) := h.2.1 176 _ rfl
theorem ly177 {Λ : hc_L} (h : LY Λ) : Λ.2.1 177 = (3, 12) := h.2.1 177 _ rfl
theorem ly178 {Λ : hc_L} (h : LY Λ) : Λ.2.1 178 = (3, 12) := h.2.1 178 _ rfl
theorem ly179 {Λ : hc_L} (h : LY Λ) : Λ.2.1 179 = (3, 12) := h.2.1 179 _ rfl
theorem ly180 {Λ : hc_L} (h : LY Λ) : Λ.2.1 180 = (106, 0) := h.2.1 180 _ rfl
theorem ly181 {Λ : hc_L} (h : LY Λ) : Λ.2.1 181 = (3, 7) := h.2.1 181 _ rfl
theorem ly182 {Λ : hc_L} (h : LY Λ) : Λ.2.1 182 = (2, 64) := h.2.1 182 _ rfl
theorem ly183 {Λ : hc_L} (h : LY Λ) : Λ.2.1 183 = (2, 4) := h.2.1 183 _ rfl
theorem ly184 {Λ : hc_L} (h : LY Λ) : Λ.2.1 184 = (3, 12) := h.2.1 184 _ rfl
theorem ly185 {Λ : hc_L} (h : LY Λ) : Λ.2.1 185 = (0, 12) := h.2.1 185 _ rfl
theorem ly186 {Λ : hc_L} (h : LY Λ) : Λ.2.1 186 = (0, 12) := h.2.1 186 _ rfl
theorem ly187 {Λ : hc_L} (h : LY Λ) : Λ.2.1 187 = (2, 12) := h.2.1 187 _ rfl
theorem ly188 {Λ : hc_L} (h : LY Λ) : Λ.2.1 188 = (4, 24) := h.2.1 188 _ rfl
theorem ly189 {Λ : hc_L} (h : LY Λ) : Λ.2.1 189 = (5, 16) := h.2.1 189 _ rfl
theorem ly190 {Λ : hc_L} (h : LY Λ) : Λ.2.1 190 = (0, 12) := h.2.1 190 _ rfl
theorem ly191 {Λ : hc_L} (h : LY Λ) : Λ.2.1 191 = (7, 6) := h.2.1 191 _ rfl
theorem ly192 {Λ : hc_L} (h : LY Λ) : Λ.2.1 192 = (3, 12) := h.2.1 192 _ rfl
theorem ly193 {Λ : hc_L} (h : LY Λ) : Λ.2.1 193 = (3, 12) := h.2.1 193 _ rfl
theorem ly194 {Λ : hc_L} (h : LY Λ) : Λ.2.1 194 = (3, 12) := h.2.1 194 _ rfl
theorem ly195 {Λ : hc_L} (h : LY Λ) : Λ.2.1 195 = (3, 12) := h.2.1 195 _ rfl
theorem ly196 {Λ : hc_L} (h : LY Λ) : Λ.2.1 196 = (3, 12) := h.2.1 196 _ rfl
theorem ly197 {Λ : hc_L} (h : LY Λ) : Λ.2.1 197 = (3, 12) := h.2.1 197 _ rfl
theorem ly198 {Λ : hc_L} (h : LY Λ) : Λ.2.1 198 = (100, 0) := h.2.1 198 _ rfl
theorem ly199 {Λ : hc_L} (h : LY Λ) : Λ.2.1 199 = (3, 24) := h.2.1 199 _ rfl
theorem ly200 {Λ : hc_L} (h : LY Λ) : Λ.2.1 200 = (3, 24) := h.2.1 200 _ rfl
theorem ly201 {Λ : hc_L} (h : LY Λ) : Λ.2.1 201 = (101, 0) := h.2.1 201 _ rfl
theorem ly202 {Λ : hc_L} (h : LY Λ) : Λ.2.1 202 = (3, 11) := h.2.1 202 _ rfl
theorem ly203 {Λ : hc_L} (h : LY Λ) : Λ.2.1 203 = (7, 6) := h.2.1 203 _ rfl
theorem ly204 {Λ : hc_L} (h : LY Λ) : Λ.2.1 204 = (3, 12) := h.2.1 204 _ rfl
theorem ly205 {Λ : hc_L} (h : LY Λ) : Λ.2.1 205 = (3, 12) := h.2.1 205 _ rfl
theorem ly206 {Λ : hc_L} (h : LY Λ) : Λ.2.1 206 = (3, 12) := h.2.1 206 _ rfl
theorem ly207 {Λ : hc_L} (h : LY Λ) : Λ.2.1 207 = (3, 12) := h.2.1 207 _ rfl
theorem ly208 {Λ : hc_L} (h : LY Λ) : Λ.2.1 208 = (3, 12) := h.2.1 208 _ rfl
theorem ly209 {Λ : hc_L} (h : LY Λ) : Λ.2.1 209 = (3, 12) := h.2.1 209 _ rfl
theorem ly210 {Λ : hc_L} (h : LY Λ) : Λ.2.1 210 = (0, 12) := h.2.1 210 _ rfl
theorem ly211 {Λ : hc_L} (h : LY Λ) : Λ.2.1 211 = (0, 12) := h.2.1 211 _ rfl
theorem ly212 {Λ : hc_L} (h : LY Λ) : Λ.2.1 212 = (3, 12) := h.2.1 212 _ rfl
theorem ly213 {Λ : hc_L} (h : LY Λ) : Λ.2.1 213 = (3, 12) := h.2.1 213 _ rfl
theorem ly214 {Λ : hc_L} (h : LY Λ) : Λ.2.1 214 = (3, 12) := h.2.1 214 _ rfl
theorem ly215 {Λ : hc_L} (h : LY Λ) : Λ.2.1 215 = (3, 12) := h.2.1 215 _ rfl
theorem ly216 {Λ : hc_L} (h : LY Λ) : Λ.2.1 216 = (3, 12) := h.2.1 216 _ rfl
theorem ly217 {Λ : hc_L} (h : LY Λ) : Λ.2.1 217 = (111, 0) := h.2.1 217 _ rfl
theorem ly218 {Λ : hc_L} (h : LY Λ) : Λ.2.1 218 = (3, 210) := h.2.1 218 _ rfl
theorem ly219 {Λ : hc_L} (h : LY Λ) : Λ.2.1 219 = (3, 1680) := h.2.1 219 _ rfl
theorem ly220 {Λ : hc_L} (h : LY Λ) : Λ.2.1 220 = (3, 24) := h.2.1 220 _ rfl
theorem ly221 {Λ : hc_L} (h : LY Λ) : Λ.2.1 221 = (2, 294) := h.2.1 221 _ rfl
theorem ly222 {Λ : hc_L} (h : LY Λ) : Λ.2.1 222 = (2, 128) := h.2.1 222 _ rfl
theorem ly223 {Λ : hc_L} (h : LY Λ) : Λ.2.1 223 = (2, 8) := h.2.1 223 _ rfl
theorem ly224 {Λ : hc_L} (h : LY Λ) : Λ.2.1 224 = (2, 6) := h.2.1 224 _ rfl
theorem ly225 {Λ : hc_L} (h : LY Λ) : Λ.2.1 225 = (3, 1400) := h.2.1 225 _ rfl
theorem ly226 {Λ : hc_L} (h : LY Λ) : Λ.2.1 226 = (2, 1400) := h.2.1 226 _ rfl
theorem ly227 {Λ : hc_L} (h : LY Λ) : Λ.2.1 227 = (2, 700) := h.2.1 227 _ rfl
theorem ly228 {Λ : hc_L} (h : LY Λ) : Λ.2.1 228 = (3, 700) := h.2.1 228 _ rfl
theorem ly229 {Λ : hc_L} (h : LY Λ) : Λ.2.1 229 = (3, 4) := h.2.1 229 _ rfl
theorem ly230 {Λ : hc_L} (h : LY Λ) : Λ.2.1 230 = (3, 12) := h.2.1 230 _ rfl
theorem ly231 {Λ : hc_L} (h : LY Λ) : Λ.2.1 231 = (3, 12) := h.2.1 231 _ rfl
theorem ly232 {Λ : hc_L} (h : LY Λ) : Λ.2.1 232 = (3, 12) := h.2.1 232 _ rfl
theorem ly233 {Λ : hc_L} (h : LY Λ) : Λ.2.1 233 = (0, 12) := h.2.1 233 _ rfl
theorem ly234 {Λ : hc_L} (h : LY Λ) : Λ.2.1 234 = (3, 72) := h.2.1 234 _ rfl
theorem ly235 {Λ : hc_L} (h : LY Λ) : Λ.2.1 235 = (3, 12) := h.2.1 235 _ rfl
theorem ly236 {Λ : hc_L} (h : LY Λ) : Λ.2.1 236 = (3, 11) := h.2.1 236 _ rfl
theorem ly237 {Λ : hc_L} (h : LY Λ) : Λ.2.1 237 = (0, 12) := h.2.1 237 _ rfl
theorem lf0_0 {Λ : hc_L} (h : LY Λ) : Λ.2.2 0 0 = some 1 := h.2.2 0 0 0 1 rfl
theorem lf0_1 {Λ : hc_L} (h : LY Λ) : Λ.2.2 0 1 = some 3 := h.2.2 1 0 1 3 rfl
theorem lf0_2 {Λ : hc_L} (h : LY Λ) : Λ.2.2 0 2 = some 21 := h.2.2 2 0 2 21 rfl
theorem lf0_3 {Λ : hc_L} (h : LY Λ) : Λ.2.2 0 3 = some 39 := h.2.2 3 0 3 39 rfl
theorem lf0_4 {Λ : hc_L} (h : LY Λ) : Λ.2.2 0 4 = some 42 := h.2.2 4 0 4 42 rfl
theorem lf0_5 {Λ : hc_L} (h : LY Λ) : Λ.2.2 0 5 = some 45 := h.2.2 5 0 5 45 rfl
theorem lf0_6 {Λ : hc_L} (h : LY Λ) : Λ.2.2 0 6 = some 52 := h.2.2 6 0 6 52 rfl
theorem lf0_7 {Λ : hc_L} (h : LY Λ) : Λ.2.2 0 7 = some 198 := h.2.2 7 0 7 198 rfl
theorem lf0_8 {Λ : hc_L} (h : LY Λ) : Λ.2.2 0 8 = some 201 := h.2.2 8 0 8 201 rfl
theorem lf1_0 {Λ : hc_L} (h : LY Λ) : Λ.2.2 1 0 = some 2 := h.2.2 9 1 0 2 rfl
theorem lf3_0 {Λ : hc_L} (h : LY Λ) : Λ.2.2 3 0 = some 4 := h.2.2 10 3 0 4 rfl
theorem lf3_1 {Λ : hc_L} (h : LY Λ) : Λ.2.2 3 1 = some 5 := h.2.2 11 3 1 5 rfl
theorem lf3_2 {Λ : hc_L} (h : LY Λ) : Λ.2.2 3 2 = some 6 := h.2.2 12 3 2 6 rfl
theorem lf3_3 {Λ : hc_L} (h : LY Λ) : Λ.2.2 3 3 = some 7 := h.2.2 13 3 3 7 rfl
theorem lf3_4 {Λ : hc_L} (h : LY Λ) : Λ.2.2 3 4 = some 8 := h.2.2 14 3 4 8 rfl
theorem lf3_5 {Λ : hc_L} (h : LY Λ) : Λ.2.2 3 5 = some 9 := h.2.2 15 3 5 9 rfl
theorem lf3_6 {Λ : hc_L} (h : LY Λ) : Λ.2.2 3 6 = some 10 := h.2.2 16 3 6 10 rfl
theorem lf3_7 {Λ : hc_L} (h : LY Λ) : Λ.2.2 3 7 = some 11 := h.2.2 17 3 7 11 rfl
theorem lf3_8 {Λ : hc_L} (h : LY Λ) : Λ.2.2 3 8 = some 12 := h.2.2 18 3 8 12 rfl
theorem lf3_9 {Λ : hc_L} (h : LY Λ) : Λ.2.2 3 9 = some 13 := h.2.2 19 3 9 13 rfl
theorem lf3_10 {Λ : hc_L} (h : LY Λ) : Λ.2.2 3 10 = some 14 := h.2.2 20 3 10 14 rfl
theorem lf14_0 {Λ : hc_L} (h : LY Λ) : Λ.2.2 14 0 = some 15 := h.2.2 21 14 0 15 rfl
theorem lf14_1 {Λ : hc_L} (h : LY Λ) : Λ.2.2 14 1 = some 16 := h.2.2 22 14 1 16 rfl
theorem lf14_2 {Λ : hc_L} (h : LY Λ) : Λ.2.2 14 2 = some 17 := h.2.2 23 14 2 17 rfl
theorem lf14_3 {Λ : hc_L} (h : LY Λ) : Λ.2.2 14 3 = some 18 := h.2.2 24 14 3 18 rfl
theorem lf14_4 {Λ : hc_L} (h : LY Λ) : Λ.2.2 14 4 = some 19 := h.2.2 25 14 4 19 rfl
theorem lf14_5 {Λ : hc_L} (h : LY Λ) : Λ.2.2 14 5 = some 20 := h.2.2 26 14 5 20 rfl
theorem lf21_0 {Λ : hc_L} (h : LY Λ) : Λ.2.2 21 0 = some 22 := h.2.2 27 21 0 22 rfl
theorem lf21_1 {Λ : hc_L} (h : LY Λ) : Λ.2.2 21 1 = some 23 := h.2.2 28 21 1 23 rfl
theorem lf21_2 {Λ : hc_L} (h : LY Λ) : Λ.2.2 21 2 = some 24 := h.2.2 29 21 2 24 rfl
theorem lf21_3 {Λ : hc_L} (h : LY Λ) : Λ.2.2 21 3 = some 25 := h.2.2 30 21 3 25 rfl
theorem lf21_4 {Λ : hc_L} (h : LY Λ) : Λ.2.2 21 4 = some 26 := h.2.2 31 21 4 26 rfl
theorem lf21_5 {Λ : hc_L} (h : LY Λ) : Λ.2.2 21 5 = some 27 := h.2.2 32 21 5 27 rfl
theorem lf21_6 {Λ : hc_L} (h : LY Λ) : Λ.2.2 21 6 = some 28 := h.2.2 33 21 6 28 rfl
theorem lf21_7 {Λ : hc_L} (h : LY Λ) : Λ.2.2 21 7 = some 29 := h.2.2 34 21 7 29 rfl
theorem lf21_8 {Λ : hc_L} (h : LY Λ) : Λ.2.2 21 8 = some 30 := h.2.2 35 21 8 30 rfl
theorem lf21_9 {Λ : hc_L} (h : LY Λ) : Λ.2.2 21 9 = some 31 := h.2.2 36 21 9 31 rfl
theorem lf21_10 {Λ : hc_L} (h : LY Λ) : Λ.2.2 21 10 = some 32 := h.2.2 37 21 10 32 rfl
theorem lf32_0 {Λ : hc_L} (h : LY Λ) : Λ.2.2 32 0 = some 33 := h.2.2 38 32 0 33 rfl
theorem lf32_1 {Λ : hc_L} (h : LY Λ) : Λ.2.2 32 1 = some 34 := h.2.2 39 32 1 34 rfl
theorem lf32_2 {Λ : hc_L} (h : LY Λ) : Λ.2.2 32 2 = some 35 := h.2.2 40 32 2 35 rfl
theorem lf32_3 {Λ : hc_L} (h : LY Λ) : Λ.2.2 32 3 = some 36 := h.2.2 41 32 3 36 rfl
theorem lf32_4 {Λ : hc_L} (h : LY Λ) : Λ.2.2 32 4 = some 37 := h.2.2 42 32 4 37 rfl
theorem lf32_5 {Λ : hc_L} (h : LY Λ) : Λ.2.2 32 5 = some 38 := h.2.2 43 32 5 38 rfl
theorem lf39_0 {Λ : hc_L} (h : LY Λ) : Λ.2.2 39 0 = some 40 := h.2.2 44 39 0 40 rfl
theorem lf39_1 {Λ : hc_L} (h : LY Λ) : Λ.2.2 39 1 = some 41 := h.2.2 45 39 1 41 rfl
theorem lf42_0 {Λ : hc_L} (h : LY Λ) : Λ.2.2 42 0 = some 43 := h.2.2 46 42 0 43 rfl
theorem lf42_1 {Λ : hc_L} (h : LY Λ) : Λ.2.2 42 1 = some 44 := h.2.2 47 42 1 44 rfl
theorem lf45_0 {Λ : hc_L} (h : LY Λ) : Λ.2.2 45 0 = some 47 := h.2.2 48 45 0 47 rfl
theorem lf45_1 {Λ : hc_L} (h : LY Λ) : Λ.2.2 45 1 = some 21 := h.2.2 49 45 1 21 rfl
theorem lf45_2 {Λ : hc_L} (h : LY Λ) : Λ.2.2 45 2 = some 42 := h.2.2 50 45 2 42 rfl
theorem lf45_3 {Λ : hc_L} (h : LY Λ) : Λ.2.2 45 3 = some 46 := h.2.2 51 45 3 46 rfl
theorem lf47_0 {Λ : hc_L} (h : LY Λ) : Λ.2.2 47 0 = some 48 := h.2.2 52 47 0 48 rfl
theorem lf47_1 {Λ : hc_L} (h : LY Λ) : Λ.2.2 47 1 = some 49 := h.2.2 53 47 1 49 rfl
theorem lf47_2 {Λ : hc_L} (h : LY Λ) : Λ.2.2 47 2 = some 50 := h.2.2 54 47 2 50 rfl
theorem lf47_4 {Λ : hc_L} (h : LY Λ) : Λ.2.2 47 4 = some 51 := h.2.2 55 47 4 51 rfl
theorem lf47_5 {Λ : hc_L} (h : LY Λ) : Λ.2.2 47 5 = some 1 := h.2.2 56 47 5 1 rfl
theorem lf52_0 {Λ : hc_L} (h : LY Λ) : Λ.2.2 52 0 = some 53 := h.2.2 57 52 0 53 rfl
theorem lf53_0 {Λ : hc_L} (h : LY Λ) : Λ.2.2 53 0 = some 54 := h.2.2 58 53 0 54 rfl
theorem lf53_1 {Λ : hc_L} (h : LY Λ) : Λ.2.2 53 1 = some 72 := h.2.2 59 53 1 72 rfl
theorem lf53_2 {Λ : hc_L} (h : LY Λ) : Λ.2.2 53 2 = some 90 := h.2.2 60 53 2 90 rfl
theorem lf53_3 {Λ : hc_L} (h : LY Λ) : Λ.2.2 53 3 = some 108 := h.2.2 61 53 3 108 rfl
theorem lf53_4 {Λ : hc_L} (h : LY Λ) : Λ.2.2 53 4 = some 126 := h.2.2 62 53 4 126 rfl
theorem lf53_5 {Λ : hc_L} (h : LY Λ) : Λ.2.2 53 5 = some 144 := h.2.2 63 53 5 144 rfl
theorem lf53_6 {Λ : hc_L} (h : LY Λ) : Λ.2.2 53 6 = some 162 := h.2.2 64 53 6 162 rfl
theorem lf53_7 {Λ : hc_L} (h : LY Λ) : Λ.2.2 53 7 = some 180 := h.2.2 65 53 7 180 rfl
theorem lf54_0 {Λ : hc_L} (h : LY Λ) : Λ.2.2 54 0 = some 55 := h.2.2 66 54 0 55 rfl
theorem lf54_1 {Λ : hc_L} (h : LY Λ) : Λ.2.2 54 1 = some 56 := h.2.2 67 54 1 56 rfl
theorem lf54_2 {Λ : hc_L} (h : LY Λ) : Λ.2.2 54 2 = some 57 := h.2.2 68 54 2 57 rfl
theorem lf54_3 {Λ : hc_L} (h : LY Λ) : Λ.2.2 54 3 = some 58 := h.2.2 69 54 3 58 rfl
theorem lf54_4 {Λ : hc_L} (h : LY Λ) : Λ.2.2 54 4 = some 59 := h.2.2 70 54 4 59 rfl
theorem lf54_5 {Λ : hc_L} (h : LY Λ) : Λ.2.2 54 5 = some 60 := h.2.2 71 54 5 60 rfl
theorem lf54_6 {Λ : hc_L} (h : LY Λ) : Λ.2.2 54 6 = some 61 := h.2.2 72 54 6 61 rfl
theorem lf54_7 {Λ : hc_L} (h : LY Λ) : Λ.2.2 54 7 = some 62 := h.2.2 73 54 7 62 rfl
theorem lf54_8 {Λ : hc_L} (h : LY Λ) : Λ.2.2 54 8 = some 63 := h.2.2 74 54 8 63 rfl
theorem lf54_9 {Λ : hc_L} (h : LY Λ) : Λ.2.2 54 9 = some 64 := h.2.2 75 54 9 64 rfl
theorem lf54_10 {Λ : hc_L} (h : LY Λ) : Λ.2.2 54 10 = some 65 := h.2.2 76 54 10 65 rfl
theorem lf65_0 {Λ : hc_L} (h : LY Λ) : Λ.2.2 65 0 = some 66 := h.2.2 77 65 0 66 rfl
theorem lf65_1 {Λ : hc_L} (h : LY Λ) : Λ.2.2 65 1 = some 67 := h.2.2 78 65 1 67 rfl
theorem lf65_2 {Λ : hc_L} (h : LY Λ) : Λ.2.2 65 2 = some 68 := h.2.2 79 65 2 68 rfl
theorem lf65_3 {Λ : hc_L} (h : LY Λ) : Λ.2.2 65 3 = some 69 := h.2.2 80 65 3 69 rfl
theorem lf65_4 {Λ : hc_L} (h : LY Λ) : Λ.2.2 65 4 = some 70 := h.2.2 81 65 4 70 rfl
theorem lf65_5 {Λ : hc_L} (h : LY Λ) : Λ.2.2 65 5 = some 71 := h.2.2 82 65 5 71 rfl
theorem lf72_0 {Λ : hc_L} (h : LY Λ) : Λ.2.2 72 0 = some 73 := h.2.2 83 72 0 73 rfl
theorem lf72_1 {Λ : hc_L} (h : LY Λ) : Λ.2.2 72 1 = some 74 := h.2.2 84 72 1 74 rfl
theorem lf72_2 {Λ : hc_L} (h : LY Λ) : Λ.2.2 72 2 = some 75 := h.2.2 85 72 2 75 rfl
theorem lf72_3 {Λ : hc_L} (h : LY Λ) : Λ.2.2 72 3 = some 76 := h.2.2 86 72 3 76 rfl
theorem lf72_4 {Λ : hc_L} (h : LY Λ) : Λ.2.2 72 4 = some 77 := h.2.2 87 72 4 77 rfl
theorem lf72_5 {Λ : hc_L} (h : LY Λ) : Λ.2.2 72 5 = some 78 := h.2.2 88 72 5 78 rfl
theorem lf72_6 {Λ : hc_L} (h : LY Λ) : Λ.2.2 72 6 = some 79 := h.2.2 89 72 6 79 rfl
theorem lf72_7 {Λ : hc_L} (h : LY Λ) : Λ.2.2 72 7 = some 80 := h.2.2 90 72 7 80 rfl
theorem lf72_8 {Λ : hc_L} (h : LY Λ) : Λ.2.2 72 8 = some 81 := h.2.2 91 72 8 81 rfl
theorem lf72_9 {Λ : hc_L} (h : LY Λ) : Λ.2.2 72 9 = some 82 := h.2.2 92 72 9 82 rfl
theorem lf72_10 {Λ : hc_L} (h : LY Λ) : Λ.2.2 72 10 = some 83 := h.2.2 93 72 10 83 rfl
theorem lf83_0 {Λ : hc_L} (h : LY Λ) : Λ.2.2 83 0 = some 84 := h.2.2 94 83 0 84 rfl
theorem lf83_1 {Λ : hc_L} (h : LY Λ) : Λ.2.2 83 1 = some 85 := h.2.2 95 83 1 85 rfl
theorem lf83_2 {Λ : hc_L} (h : LY Λ) : Λ.2.2 83 2 = some 86 := h.2.2 96 83 2 86 rfl
theorem lf83_3 {Λ : hc_L} (h : LY Λ) : Λ.2.2 83 3 = some 87 := h.2.2 97 83 3 87 rfl
theorem lf83_4 {Λ : hc_L} (h : LY Λ) : Λ.2.2 83 4 = some 88 := h.2.2 98 83 4 88 rfl
theorem lf83_5 {Λ : hc_L} (h : LY Λ) : Λ.2.2 83 5 = some 89 := h.2.2 99 83 5 89 rfl
theorem lf90_0 {Λ : hc_L} (h : LY Λ) : Λ.2.2 90 0 = some 91 := h.2.2 100 90 0 91 rfl
theorem lf90_1 {Λ : hc_L} (h : LY Λ) : Λ.2.2 90 1 = some 92 := h.2.2 101 90 1 92 rfl
theorem lf90_2 {Λ : hc_L} (h : LY Λ) : Λ.2.2 90 2 = some 93 := h.2.2 102 90 2 93 rfl
theorem lf90_3 {Λ : hc_L} (h : LY Λ) : Λ.2.2 90 3 = some 94 := h.2.2 103 90 3 94 rfl
theorem lf90_4 {Λ : hc_L} (h : LY Λ) : Λ.2.2 90 4 = some 95 := h.2.2 104 90 4 95 rfl
theorem lf90_5 {Λ : hc_L} (h : LY Λ) : Λ.2.2 90 5 = some 96 := h.2.2 105 90 5 96 rfl
theorem lf90_6 {Λ : hc_L} (h : LY Λ) : Λ.2.2 90 6 = some 97 := h.2.2 106 90 6 97 rfl
theorem lf90_7 {Λ : hc_L} (h : LY Λ) : Λ.2.2 90 7 = some 98 := h.2.2 107 90 7 98 rfl
theorem lf90_8 {Λ : hc_L} (h : LY Λ) : Λ.2.2 90 8 = some 99 := h.2.2 108 90 8 99 rfl
theorem lf90_9 {Λ : hc_L} (h : LY Λ) : Λ.2.2 90 9 = some 100 := h.2.2 109 90 9 100 rfl
theorem lf90_10 {Λ : hc_L} (h : LY Λ) : Λ.2.2 90 10 = some 101 := h.2.2 110 90 10 101 rfl
theorem lf101_0 {Λ : hc_L} (h : LY Λ) : Λ.2.2 101 0 = some 102 := h.2.2 111 101 0 102 rfl
theorem lf101_1 {Λ : hc_L} (h : LY Λ) : Λ.2.2 101 1 = some 103 := h.2.2 112 101 1 103 rfl
theorem lf101_2 {Λ : hc_L} (h : LY Λ) : Λ.2.2 101 2 = some 104 := h.2.2 113 101 2 104 rfl
theorem lf101_3 {Λ : hc_L} (h : LY Λ) : Λ.2.2 101 3 = some 105 := h.2.2 114 101 3 105 rfl
theorem lf101_4 {Λ : hc_L} (h : LY Λ) : Λ.2.2 101 4 = some 106 := h.2.2 115 101 4 106 rfl
theorem lf101_5 {Λ : hc_L} (h : LY Λ) : Λ.2.2 101 5 = some 107 := h.2.2 116 101 5 107 rfl
theorem lf108_0 {Λ : hc_L} (h : LY Λ) : Λ.2.2 108 0 = some 109 := h.2.2 117 108 0 109 rfl
theorem lf108_1 {Λ : hc_L} (h : LY Λ) : Λ.2.2 108 1 = some 110 := h.2.2 118 108 1 110 rfl
theorem lf108_2 {Λ : hc_L} (h : LY Λ) : Λ.2.2 108 2 = some 111 := h.2.2 119 108 2 111 rfl
theorem lf108_3 {Λ : hc_L} (h : LY Λ) : Λ.2.2 108 3 = some 112 := h.2.2 120 108 3 112 rfl
theorem lf108_4 {Λ : hc_L} (h : LY Λ) : Λ.2.2 108 4 = some 113 := h.2.2 121 108 4 113 rfl
theorem lf108_5 {Λ : hc_L} (h : LY Λ) : Λ.2.2 108 5 = some 114 := h.2.2 122 108 5 114 rfl
theorem lf108_6 {Λ : hc_L} (h : LY Λ) : Λ.2.2 108 6 = some 115 := h.2.2 123 108 6 115 rfl
theorem lf108_7 {Λ : hc_L} (h : LY Λ) : Λ.2.2 108 7 = some 116 := h.2.2 124 108 7 116 rfl
theorem lf108_8 {Λ : hc_L} (h : LY Λ) : Λ.2.2 108 8 = some 117 := h.2.2 125 108 8 117 rfl
theorem lf108_9 {Λ : hc_L} (h : LY Λ) : Λ.2.2 108 9 = some 118 := h.2.2 126 108 9 118 rfl
theorem lf108_10 {Λ : hc_L} (h : LY Λ) : Λ.2.2 108 10 = some 119 := h.2.2 127 108 10 119 rfl
theorem lf119_0 {Λ : hc_L} (h : LY Λ) : Λ.2.2 119 0 = some 120 := h.2.2 128 119 0 120 rfl
theorem lf119_1 {Λ : hc_L} (h : LY Λ) : Λ.2.2 119 1 = some 121 := h.2.2 129 119 1 121 rfl
theorem lf119_2 {Λ : hc_L} (h : LY Λ) : Λ.2.2 119 2 = some 122 := h.2.2 130 119 2 122 rfl
theorem lf119_3 {Λ : hc_L} (h : LY Λ) : Λ.2.2 119 3 = some 123 := h.2.2 131 119 3 123 rfl
theorem lf119_4 {Λ : hc_L} (h : LY Λ) : Λ.2.2 119 4 = some 124 := h.2.2 132 119 4 124 rfl
theorem lf119_5 {Λ : hc_L} (h : LY Λ) : Λ.2.2 119 5 = some 125 := h.2.2 133 119 5 125 rfl
theorem lf126_0 {Λ : hc_L} (h : LY Λ) : Λ.2.2 126 0 = some 127 := h.2.2 134 126 0 127 rfl
theorem lf126_1 {Λ : hc_L} (h : LY Λ) : Λ.2.2 126 1 = some 128 := h.2.2 135 126 1 128 rfl
theorem lf126_2 {Λ : hc_L} (h : LY Λ) : Λ.2.2 126 2 = some 129 := h.2.2 136 126 2 129 rfl
theorem lf126_3 {Λ : hc_L} (h : LY Λ) : Λ.2.2 126 3 = some 130 := h.2.2 137 126 3 130 rfl
theorem lf126_4 {Λ : hc_L} (h : LY Λ) : Λ.2.2 126 4 = some 131 := h.2.2 138 126 4 131 rfl
theorem lf126_5 {Λ : hc_L} (h : LY Λ) : Λ.2.2 126 5 = some 132 := h.2.2 139 126 5 132 rfl
theorem lf126_6 {Λ : hc_L} (h : LY Λ) : Λ.2.2 126 6 = some 133 := h.2.2 140 126 6 133 rfl
theorem lf126_7 {Λ : hc_L} (h : LY Λ) : Λ.2.2 126 7 = some 134 := h.2.2 141 126 7 134 rfl
theorem lf126_8 {Λ : hc_L} (h : LY Λ) : Λ.2.2 126 8 = some 135 := h.2.2 142 126 8 135 rfl
theorem lf126_9 {Λ : hc_L} (h : LY Λ) : Λ.2.2 126 9 = some 136 := h.2.2 143 126 9 136 rfl
theorem lf126_10 {Λ : hc_L} (h : LY Λ) : Λ.2.2 126 10 = some 137 := h.2.2 144 126 10 137 rfl
theorem lf137_0 {Λ : hc_L} (h : LY Λ) : Λ.2.2 137 0 = some 138 := h.2.2 145 137 0 138 rfl
theorem lf137_1 {Λ : hc_L} (h : LY Λ) : Λ.2.2 137 1 = some 139 := h.2.2 146 137 1 139 rfl
theorem lf137_2 {Λ : hc_L} (h : LY Λ) : Λ.2.2 137 2 = some 140 := h.2.2 147 137 2 140 rfl
theorem lf137_3 {Λ : hc_L} (h : LY Λ) : Λ.2.2 137 3 = some 141 := h.2.2 148 137 3 141 rfl
theorem lf137_4 {Λ : hc_L} (h : LY Λ) : Λ.2.2 137 4 = some 142 := h.2.2 149 137 4 142 rfl
theorem lf137_5 {Λ : hc_L} (h : LY Λ) : Λ.2.2 137 5 = some 143 := h.2.2 150 137 5 143 rfl
theorem lf144_0 {Λ : hc_L} (h : LY Λ) : Λ.2.2 144 0 = some 145 := h.2.2 151 144 0 145 rfl
theorem lf144_1 {Λ : hc_L} (h : LY Λ) : Λ.2.2 144 1 = some 146 := h.2.2 152 144 1 146 rfl
theorem lf144_2 {Λ : hc_L} (h : LY Λ) : Λ.2.2 144 2 = some 147 := h.2.2 153 144 2 147 rfl
theorem lf144_3 {Λ : hc_L} (h : LY Λ) : Λ.2.2 144 3 = some 148 := h.2.2 154 144 3 148 rfl
theorem lf144_4 {Λ : hc_L} (h : LY Λ) : Λ.2.2 144 4 = some 149 := h.2.2 155 144 4 149 rfl
theorem lf144_5 {Λ : hc_L} (h : LY Λ) : Λ.2.2 144 5 = some 150 := h.2.2 156 144 5 150 rfl
theorem lf144_6 {Λ : hc_L} (h : LY Λ) : Λ.2.2 144 6 = some 151 := h.2.2 157 144 6 151 rfl
theorem lf144_7 {Λ : hc_L} (h : LY Λ) : Λ.2.2 144 7 = some 152 := h.2.2 158 144 7 152 rfl
theorem lf144_8 {Λ : hc_L} (h : LY Λ) : Λ.2.2 144 8 = some 153 := h.2.2 159 144 8 153 rfl
theorem lf144_9 {Λ : hc_L} (h : LY Λ) : Λ.2.2 144 9 = some 154 := h.2.2 160 144 9 154 rfl
theorem lf144_10 {Λ : hc_L} (h : LY Λ) : Λ.2.2 144 10 = some 155 := h.2.2 161 144 10 155 rfl
theorem lf155_0 {Λ : hc_L} (h : LY Λ) : Λ.2.2 155 0 = some 156 := h.2.2 162 155 0 156 rfl
theorem lf155_1 {Λ : hc_L} (h : LY Λ) : Λ.2.2 155 1 = some 157 := h.2.2 163 155 1 157 rfl
theorem lf155_2 {Λ : hc_L} (h : LY Λ) : Λ.2.2 155 2 = some 158 := h.2.2 164 155 2 158 rfl
theorem lf155_3 {Λ : hc_L} (h : LY Λ) : Λ.2.2 155 3 = some 159 := h.2.2 165 155 3 159 rfl
theorem lf155_4 {Λ : hc_L} (h : LY Λ) : Λ.2.2 155 4 = some 160 := h.2.2 166 155 4 160 rfl
theorem lf155_5 {Λ : hc_L} (h : LY Λ) : Λ.2.2 155 5 = some 161 := h.2.2 167 155 5 161 rfl
theorem lf162_0 {Λ : hc_L} (h : LY Λ) : Λ.2.2 162 0 = some 163 := h.2.2 168 162 0 163 rfl
theorem lf162_1 {Λ : hc_L} (h : LY Λ) : Λ.2.2 162 1 = some 164 := h.2.2 169 162 1 164 rfl
theorem lf162_2 {Λ : hc_L} (h : LY Λ) : Λ.2.2 162 2 = some 165 := h.2.2 170 162 2 165 rfl
theorem lf162_3 {Λ : hc_L} (h : LY Λ) : Λ.2.2 162 3 = some 166 := h.2.2 171 162 3 166 rfl
theorem lf162_4 {Λ : hc_L} (h : LY Λ) : Λ.2.2 162 4 = some 167 := h.2.2 172 162 4 167 rfl
theorem lf162_5 {Λ : hc_L} (h : LY Λ) : Λ.2.2 162 5 = some 168 := h.2.2 173 162 5 168 rfl
theorem lf162_6 {Λ : hc_L} (h : LY Λ) : Λ.2.2 162 6 = some 169 := h.2.2 174 162 6 169 rfl
theorem lf162_7 {Λ : hc_L} (h : LY Λ) : Λ.2.2 162 7 = some 170 := h.2.2 175 162 7 170 rfl
theorem lf162_8 {Λ : hc_L} (h : LY Λ) : Λ.2.2 162 8 = some 171 := h.2.2 176 162 8 171 rfl
theorem lf162_9 {Λ : hc_L} (h : LY Λ) : Λ.2.2 162 9 = some 172 := h.2.2 177 162 9 172 rfl
theorem lf162_10 {Λ : hc_L} (h : LY Λ) : Λ.2.2 162 10 = some 173 := h.2.2 178 162 10 173 rfl
theorem lf173_0 {Λ : hc_L} (h : LY Λ) : Λ.2.2 173 0 = some 174 := h.2.2 179 173 0 174 rfl
theorem lf173_1 {Λ : hc_L} (h : LY Λ) : Λ.2.2 173 1 = some 175 := h.2.2 180 173 1 175 rfl
theorem lf173_2 {Λ : hc_L} (h : LY Λ) : Λ.2.2 173 2 = some 176 := h.2.2 181 173 2 176 rfl
theorem lf173_3 {Λ : hc_L} (h : LY Λ) : Λ.2.2 173 3 = some 177 := h.2.2 182 173 3 177 rfl
theorem lf173_4 {Λ : hc_L} (h : LY Λ) : Λ.2.2 173 4 = some 178 := h.2.2 183 173 4 178 rfl
theorem lf173_5 {Λ : hc_L} (h : LY Λ) : Λ.2.2 173 5 = some 179 := h.2.2 184 173 5 179 rfl
theorem lf180_0 {Λ : hc_L} (h : LY Λ) : Λ.2.2 180 0 = some 181 := h.2.2 185 180 0 181 rfl
theorem lf180_1 {Λ : hc_L} (h : LY Λ) : Λ.2.2 180 1 = some 182 := h.2.2 186 180 1 182 rfl
theorem lf180_2 {Λ : hc_L} (h : LY Λ) : Λ.2.2 180 2 = some 183 := h.2.2 187 180 2 183 rfl
theorem lf180_3 {Λ : hc_L} (h : LY Λ) : Λ.2.2 180 3 = some 184 := h.2.2 188 180 3 184 rfl
theorem lf180_4 {Λ : hc_L} (h : LY Λ) : Λ.2.2 180 4 = some 185 := h.2.2 189 180 4 185 rfl
theorem lf180_5 {Λ : hc_L} (h : LY Λ) : Λ.2.2 180 5 = some 186 := h.2.2 190 180 5 186 rfl
theorem lf180_6 {Λ : hc_L} (h : LY Λ) : Λ.2.2 180 6 = some 187 := h.2.2 191 180 6 187 rfl
theorem lf180_7 {Λ : hc_L} (h : LY Λ) : Λ.2.2 180 7 = some 188 := h.2.2 192 180 7 188 rfl
theorem lf180_8 {Λ : hc_L} (h : LY Λ) : Λ.2.2 180 8 = some 189 := h.2.2 193 180 8 189 rfl
theorem lf180_9 {Λ : hc_L} (h : LY Λ) : Λ.2.2 180 9 = some 190 := h.2.2 194 180 9 190 rfl
theorem lf180_10 {Λ : hc_L} (h : LY Λ) : Λ.2.2 180 10 = some 191 := h.2.2 195 180 10 191 rfl
theorem lf191_0 {Λ : hc_L} (h : LY Λ) : Λ.2.2 191 0 = some 192 := h.2.2 196 191 0 192 rfl
theorem lf191_1 {Λ : hc_L} (h : LY Λ) : Λ.2.2 191 1 = some 193 := h.2.2 197 191 1 193 rfl
theorem lf191_2 {Λ : hc_L} (h : LY Λ) : Λ.2.2 191 2 = some 194 := h.2.2 198 191 2 194 rfl
theorem lf191_3 {Λ : hc_L} (h : LY Λ) : Λ.2.2 191 3 = some 195 := h.2.2 199 191 3 195 rfl
theorem lf191_4 {Λ : hc_L} (h : LY Λ) : Λ.2.2 191 4 = some 196 := h.2.2 200 191 4 196 rfl
theorem lf191_5 {Λ : hc_L} (h : LY Λ) : Λ.2.2 191 5 = some 197 := h.2.2 201 191 5 197 rfl
theorem lf198_0 {Λ : hc_L} (h : LY Λ) : Λ.2.2 198 0 = some 3 := h.2.2 202 198 0 3 rfl
theorem lf198_1 {Λ : hc_L} (h : LY Λ) : Λ.2.2 198 1 = some 39 := h.2.2 203 198 1 39 rfl
theorem lf198_2 {Λ : hc_L} (h : LY Λ) : Λ.2.2 198 2 = some 199 := h.2.2 204 198 2 199 rfl
theorem lf198_3 {Λ : hc_L} (h : LY Λ) : Λ.2.2 198 3 = some 200 := h.2.2 205 198 3 200 rfl
theorem lf201_0 {Λ : hc_L} (h : LY Λ) : Λ.2.2 201 0 = some 3 := h.2.2 206 201 0 3 rfl
theorem lf201_1 {Λ : hc_L} (h : LY Λ) : Λ.2.2 201 1 = some 198 := h.2.2 207 201 1 198 rfl
theorem lf201_2 {Λ : hc_L} (h : LY Λ) : Λ.2.2 201 2 = some 202 := h.2.2 208 201 2 202 rfl
theorem lf201_3 {Λ : hc_L} (h : LY Λ) : Λ.2.2 201 3 = some 203 := h.2.2 209 201 3 203 rfl
theorem lf201_4 {Λ : hc_L} (h : LY Λ) : Λ.2.2 201 4 = some 210 := h.2.2 210 201 4 210 rfl
theorem lf201_5 {Λ : hc_L} (h : LY Λ) : Λ.2.2 201 5 = some 211 := h.2.2 211 201 5 211 rfl
theorem lf201_6 {Λ : hc_L} (h : LY Λ) : Λ.2.2 201 6 = some 212 := h.2.2 212 201 6 212 rfl
theorem lf201_7 {Λ : hc_L} (h : LY Λ) : Λ.2.2 201 7 = some 213 := h.2.2 213 201 7 213 rfl
theorem lf201_8 {Λ : hc_L} (h : LY Λ) : Λ.2.2 201 8 = some 214 := h.2.2 214 201 8 214 rfl
theorem lf201_9 {Λ : hc_L} (h : LY Λ) : Λ.2.2 201 9 = some 215 := h.2.2 215 201 9 215 rfl
theorem lf201_10 {Λ : hc_L} (h : LY Λ) : Λ.2.2 201 10 = some 216 := h.2.2 216 201 10 216 rfl
theorem lf203_0 {Λ : hc_L} (h : LY Λ) : Λ.2.2 203 0 = some 204 := h.2.2 217 203 0 204 rfl
theorem lf203_1 {Λ : hc_L} (h : LY Λ) : Λ.2.2 203 1 = some 205 := h.2.2 218 203 1 205 rfl
theorem lf203_2 {Λ : hc_L} (h : LY Λ) : Λ.2.2 203 2 = some 206 := h.2.2 219 203 2 206 rfl
theorem lf203_3 {Λ : hc_L} (h : LY Λ) : Λ.2.2 203 3 = some 207 := h.2.2 220 203 3 207 rfl
theorem lf203_4 {Λ : hc_L} (h : LY Λ) : Λ.2.2 203 4 = some 208 := h.2.2 221 203 4 208 rfl
theorem lf203_5 {Λ : hc_L} (h : LY Λ) : Λ.2.2 203 5 = some 209 := h.2.2 222 203 5 209 rfl
theorem lf217_0 {Λ : hc_L} (h : LY Λ) : Λ.2.2 217 0 = some 218 := h.2.2 223 217 0 218 rfl
theorem lf217_1 {Λ : hc_L} (h : LY Λ) : Λ.2.2 217 1 = some 219 := h.2.2 224 217 1 219 rfl
theorem lf217_3 {Λ : hc_L} (h : LY Λ) : Λ.2.2 217 3 = some 220 := h.2.2 225 217 3 220 rfl
theorem lf217_4 {Λ : hc_L} (h : LY Λ) : Λ.2.2 217 4 = some 221 := h.2.2 226 217 4 221 rfl
theorem lf217_5 {Λ : hc_L} (h : LY Λ) : Λ.2.2 217 5 = some 222 := h.2.2 227 217 5 222 rfl
theorem lf217_6 {Λ : hc_L} (h : LY Λ) : Λ.2.2 217 6 = some 223 := h.2.2 228 217 6 223 rfl
theorem lf217_7 {Λ : hc_L} (h : LY Λ) : Λ.2.2 217 7 = some 224 := h.2.2 229 217 7 224 rfl
theorem lf217_8 {Λ : hc_L} (h : LY Λ) : Λ.2.2 217 8 = some 225 := h.2.2 230 217 8 225 rfl
theorem lf217_9 {Λ : hc_L} (h : LY Λ) : Λ.2.2 217 9 = some 226 := h.2.2 231 217 9 226 rfl
theorem lf217_19 {Λ : hc_L} (h : LY Λ) : Λ.2.2 217 19 = some 227 := h.2.2 232 217 19 227 rfl
theorem lf217_33 {Λ : hc_L} (h : LY Λ) : Λ.2.2 217 33 = some 228 := h.2.2 233 217 33 228 rfl
theorem lf217_34 {Λ : hc_L} (h : LY Λ) : Λ.2.2 217 34 = some 229 := h.2.2 234 217 34 229 rfl
theorem lf217_36 {Λ : hc_L} (h : LY Λ) : Λ.2.2 217 36 = some 230 := h.2.2 235 217 36 230 rfl
theorem lf217_37 {Λ : hc_L} (h : LY Λ) : Λ.2.2 217 37 = some 231 := h.2.2 236 217 37 231 rfl
theorem lf217_38 {Λ : hc_L} (h : LY Λ) : Λ.2.2 217 38 = some 232 := h.2.2 237 217 38 232 rfl
theorem lf217_39 {Λ : hc_L} (h : LY Λ) : Λ.2.2 217 39 = some 233 := h.2.2 238 217 39 233 rfl
theorem lf217_40 {Λ : hc_L} (h : LY Λ) : Λ.2.2 217 40 = some 234 := h.2.2 239 217 40 234 rfl
theorem lf217_41 {Λ : hc_L} (h : LY Λ) : Λ.2.2 217 41 = some 235 := h.2.2 240 217 41 235 rfl
theorem lf217_42 {Λ : hc_L} (h : LY Λ) : Λ.2.2 217 42 = some 236 := h.2.2 241 217 42 236 rfl
theorem lf217_43 {Λ : hc_L} (h : LY Λ) : Λ.2.2 217 43 = some 237 := h.2.2 242 217 43 237 rfl
theorem LY.st3 {Λ : hc_L} (h : LY Λ) : StL Λ 3 := ⟨Nat.le_trans (m := 238) (by decide) h.1, ly3 h, ly4 h, ly5 h, ly6 h, ly7 h, ly8 h, ly9 h, ly10 h, ly11 h, ly12 h, ly13 h, ly14 h, (fun i hi => by
    rcases (show i = 0 ∨ i = 1 ∨ i = 2 ∨ i = 3 ∨ i = 4 ∨ i = 5 by omega) with rfl | rfl | rfl | rfl | rfl | rfl
    · exact ly15 h
    · exact ly16 h
    · exact ly17 h
    · exact ly18 h
    · exact ly19 h
    · exact ly20 h),
  (fun i hi => by
    rcases (show i = 0 ∨ i = 1 ∨ i = 2 ∨ i = 3 ∨ i = 4 ∨ i = 5 ∨ i = 6 ∨ i = 7 ∨ i = 8 ∨ i = 9 ∨ i = 10 by omega) with rfl | rfl | rfl | rfl | rfl | rfl | rfl | rfl | rfl | rfl | rfl
    · exact lf3_0 h
    · exact lf3_1 h
    · exact lf3_2 h
    · exact lf3_3 h
    · exact lf3_4 h
    · exact lf3_5 h
    · exact lf3_6 h
    · exact lf3_7 h
    · exact lf3_8 h
    · exact lf3_9 h
    · exact lf3_10 h), (fun i hi => by
    rcases (show i = 0 ∨ i = 1 ∨ i = 2 ∨ i = 3 ∨ i = 4 ∨ i = 5 by omega) with rfl | rfl | rfl | rfl | rfl | rfl
    · exact lf14_0 h
    · exact lf14_1 h
    · exact lf14_2 h
    · exact lf14_3 h
    · exact lf14_4 h
    · exact lf14_5 h)⟩
theorem LY.st21 {Λ : hc_L} (h : LY Λ) : StL Λ 21 := ⟨Nat.le_trans (m := 238) (by decide) h.1, ly21 h, ly22 h, ly23 h, ly24 h, ly25 h, ly26 h, ly27 h, ly28 h, ly29 h, ly30 h, ly31 h, ly32 h, (fun i hi => by
    rcases (show i = 0 ∨ i = 1 ∨ i = 2 ∨ i = 3 ∨ i = 4 ∨ i = 5 by omega) with rfl | rfl | rfl | rfl | rfl | rfl
    · exact ly33 h
    · exact ly34 h
    · exact ly35 h
    · exact ly36 h
    · exact ly37 h
    · exact ly38 h),
  (fun i hi => by
    rcases (show i = 0 ∨ i = 1 ∨ i = 2 ∨ i = 3 ∨ i = 4 ∨ i = 5 ∨ i = 6 ∨ i = 7 ∨ i = 8 ∨ i = 9 ∨ i = 10 by omega) with rfl | rfl | rfl | rfl | rfl | rfl | rfl | rfl | rfl | rfl | rfl
    · exact lf21_0 h
    · exact lf21_1 h
    · exact lf21_2 h
    · exact lf21_3 h
    · exact lf21_4 h
    · exact lf21_5 h
    · exact lf21_6 h
    · exact lf21_7 h
    · exact lf21_8 h
    · exact lf21_9 h
    · exact lf21_10 h), (fun i hi => by
    rcases (show i = 0 ∨ i = 1 ∨ i = 2 ∨ i = 3 ∨ i = 4 ∨ i = 5 by omega) with rfl | rfl | rfl | rfl | rfl | rfl
    · exact lf32_0 h
    · exact lf32_1 h
    · exact lf32_2 h
    · exact lf32_3 h
    · exact lf32_4 h
    · exact lf32_5 h)⟩
theorem LY.st54 {Λ : hc_L} (h : LY Λ) : StL Λ 54 := ⟨Nat.le_trans (m := 238) (by decide) h.1, ly54 h, ly55 h, ly56 h, ly57 h, ly58 h, ly59 h, ly60 h, ly61 h, ly62 h, ly63 h, ly64 h, ly65 h, (fun i hi => by
    rcases (show i = 0 ∨ i = 1 ∨ i = 2 ∨ i = 3 ∨ i = 4 ∨ i = 5 by omega) with rfl | rfl | rfl | rfl | rfl | rfl
    · exact ly66 h
    · exact ly67 h
    · exact ly68 h
    · exact ly69 h
    · exact ly70 h
    · exact ly71 h),
  (fun i hi => by
    rcases (show i = 0 ∨ i = 1 ∨ i = 2 ∨ i = 3 ∨ i = 4 ∨ i = 5 ∨ i = 6 ∨ i = 7 ∨ i = 8 ∨ i = 9 ∨ i = 10 by omega) with rfl | rfl | rfl | rfl | rfl | rfl | rfl | rfl | rfl | rfl | rfl
    · exact lf54_0 h
    · exact lf54_1 h
    · exact lf54_2 h
    · exact lf54_3 h
    · exact lf54_4 h
    · exact lf54_5 h
    · exact lf54_6 h
    · exact lf54_7 h
    · exact lf54_8 h
    · exact lf54_9 h
    · exact lf54_10 h), (fun i hi => by
    rcases (show i = 0 ∨ i = 1 ∨ i = 2 ∨ i = 3 ∨ i = 4 ∨ i = 5 by omega) with rfl | rfl | rfl | rfl | rfl | rfl
    · exact lf65_0 h
    · exact lf65_1 h
    · exact lf65_2 h
    · exact lf65_3 h
    · exact lf65_4 h
    · exact lf65_5 h)⟩
theorem LY.st72 {Λ : hc_L} (h : LY Λ) : StL Λ 72 := ⟨Nat.le_trans (m := 238) (by decide) h.1, ly72 h, ly73 h, ly74 h, ly75 h, ly76 h, ly77 h, ly78 h, ly79 h, ly80 h, ly81 h, ly82 h, ly83 h, (fun i hi => by
    rcases (show i = 0 ∨ i = 1 ∨ i = 2 ∨ i = 3 ∨ i = 4 ∨ i = 5 by omega) with rfl | rfl | rfl | rfl | rfl | rfl
    · exact ly84 h
    · exact ly85 h
    · exact ly86 h
    · exact ly87 h
    · exact ly88 h
    · exact ly89 h),
  (fun i hi => by
    rcases (show i = 0 ∨ i = 1 ∨ i = 2 ∨ i = 3 ∨ i = 4 ∨ i = 5 ∨ i = 6 ∨ i = 7 ∨ i = 8 ∨ i = 9 ∨ i = 10 by omega) with rfl | rfl | rfl | rfl | rfl | rfl | rfl | rfl | rfl | rfl | rfl
    · exact lf72_0 h
    · exact lf72_1 h
    · exact lf72_2 h
    · exact lf72_3 h
    · exact lf72_4 h
    · exact lf72_5 h
    · exact lf72_6 h
    · exact lf72_7 h
    · exact lf72_8 h
    · exact lf72_9 h
    · exact lf72_10 h), (fun i hi => by
    rcases (show i = 0 ∨ i = 1 ∨ i = 2 ∨ i = 3 ∨ i = 4 ∨ i = 5 by omega) with rfl | rfl | rfl | rfl | rfl | rfl
    · exact lf83_0 h
    · exact lf83_1 h
    · exact lf83_2 h
    · exact lf83_3 h
    · exact lf83_4 h
    · exact lf83_5 h)⟩
theorem LY.st90 {Λ : hc_L} (h : LY Λ) : StL Λ 90 := ⟨Nat.le_trans (m := 238) (by decide) h.1, ly90 h, ly91 h, ly92 h, ly93 h, ly94 h, ly95 h, ly96 h, ly97 h, ly98 h, ly99 h, ly100 h, ly101 h, (fun i hi => by
    rcases (show i = 0 ∨ i = 1 ∨ i = 2 ∨ i = 3 ∨ i = 4 ∨ i = 5 by omega) with rfl | rfl | rfl | rfl | rfl | rfl
    · exact ly102 h
    · exact ly103 h
    · exact ly104 h
    · exact ly105 h
    · exact ly106 h
    · exact ly107 h),
  (fun i hi => by
    rcases (show i = 0 ∨ i = 1 ∨ i = 2 ∨ i = 3 ∨ i = 4 ∨ i = 5 ∨ i = 6 ∨ i = 7 ∨ i = 8 ∨ i = 9 ∨ i = 10 by omega) with rfl | rfl | rfl | rfl | rfl | rfl | rfl | rfl | rfl | rfl | rfl
    · exact lf90_0 h
    · exact lf90_1 h
    · exact lf90_2 h
    · exact lf90_3 h
    · exact lf90_4 h
    · exact lf90_5 h
    · exact lf90_6 h
    · exact lf90_7 h
    · exact lf90_8 h
    · exact lf90_9 h
    · exact lf90_10 h), (fun i hi => by
    rcases (show i = 0 ∨ i = 1 ∨ i = 2 ∨ i = 3 ∨ i = 4 ∨ i = 5 by omega) with rfl | rfl | rfl | rfl | rfl | rfl
    · exact lf101_0 h
    · exact lf101_1 h
    · exact lf101_2 h
    · exact lf101_3 h
    · exact lf101_4 h
    · exact lf101_5 h)⟩
theorem LY.st108 {Λ : hc_L} (h : LY Λ) : StL Λ 108 := ⟨Nat.le_trans (m := 238) (by decide) h.1, ly108 h, ly109 h, ly110 h, ly111 h, ly112 h, ly113 h, ly114 h, ly115 h, ly116 h, ly117 h, ly118 h, ly119 h, (fun i hi => by
    rcases (show i = 0 ∨ i = 1 ∨ i = 2 ∨ i = 3 ∨ i = 4 ∨ i = 5 by omega) with rfl | rfl | rfl | rfl | rfl | rfl
    · exact ly120 h
    · exact ly121 h
    · exact ly122 h
    · exact ly123 h
    · exact ly124 h
    · exact ly125 h),
  (fun i hi => by
    rcases (show i = 0 ∨ i = 1 ∨ i = 2 ∨ i = 3 ∨ i = 4 ∨ i = 5 ∨ i = 6 ∨ i = 7 ∨ i = 8 ∨ i = 9 ∨ i = 10 by omega) with rfl | rfl | rfl | rfl | rfl | rfl | rfl | rfl | rfl | rfl | rfl
    · exact lf108_0 h
    · exact lf108_1 h
    · exact lf108_2 h
    · exact lf108_3 h
    · exact lf108_4 h
    · exact lf108_5 h
    · exact lf108_6 h
    · exact lf108_7 h
    · exact lf108_8 h
    · exact lf108_9 h
    · exact lf108_10 h), (fun i hi => by
    rcases (show i = 0 ∨ i = 1 ∨ i = 2 ∨ i = 3 ∨ i = 4 ∨ i = 5 by omega) with rfl | rfl | rfl | rfl | rfl | rfl
    · exact lf119_0 h
    · exact lf119_1 h
    · exact lf119_2 h
    · exact lf119_3 h
    · exact lf119_4 h
    · exact lf119_5 h)⟩
theorem LY.st126 {Λ : hc_L} (h : LY Λ) : StL Λ 126 := ⟨Nat.le_trans (m := 238) (by decide) h.1, ly126 h, ly127 h, ly128 h, ly129 h, ly130 h, ly131 h, ly132 h, ly133 h, ly134 h, ly135 h, ly136 h, ly137 h, (fun i hi => by
    rcases (show i = 0 ∨ i = 1 ∨ i = 2 ∨ i = 3 ∨ i = 4 ∨ i = 5 by omega) with rfl | rfl | rfl | rfl | rfl | rfl
    · exact ly138 h
    · exact ly139 h
    · exact ly140 h
    · exact ly141 h
    · exact ly142 h
    · exact ly143 h),
  (fun i hi => by
    rcases (show i = 0 ∨ i = 1 ∨ i = 2 ∨ i = 3 ∨ i = 4 ∨ i = 5 ∨ i = 6 ∨ i = 7 ∨ i = 8 ∨ i = 9 ∨ i = 10 by omega) with rfl | rfl | rfl | rfl | rfl | rfl | rfl | rfl | rfl | rfl | rfl
    · exact lf126_0 h
    · exact lf126_1 h
    · exact lf126_2 h
    · exact lf126_3 h
    · exact lf126_4 h
    · exact lf126_5 h
    · exact lf126_6 h
    · exact lf126_7 h
    · exact lf126_8 h
    · exact lf126_9 h
    · exact lf126_10 h), (fun i hi => by
    rcases (show i = 0 ∨ i = 1 ∨ i = 2 ∨ i = 3 ∨ i = 4 ∨ i = 5 by omega) with rfl | rfl | rfl | rfl | rfl | rfl
    · exact lf137_0 h
    · exact lf137_1 h
    · exact lf137_2 h
    · exact lf137_3 h
    · exact lf137_4 h
    · exact lf137_5 h)⟩
theorem LY.st144 {Λ : hc_L} (h : LY Λ) : StL Λ 144 := ⟨Nat.le_trans (m := 238) (by decide) h.1, ly144 h, ly145 h, ly146 h, ly147 h, ly148 h, ly149 h, ly150 h, ly151 h, ly152 h, ly153 h, ly154 h, ly155 h, (fun i hi => by
    rcases (show i = 0 ∨ i = 1 ∨ i = 2 ∨ i = 3 ∨ i = 4 ∨ i = 5 by omega) with rfl | rfl | rfl | rfl | rfl | rfl
    · exact ly156 h
    · exact ly157 h
    · exact ly158 h
    · exact ly159 h
    · exact ly160 h
    · exact ly161 h),
  (fun i hi => by
    rcases (show i = 0 ∨ i = 1 ∨ i = 2 ∨ i = 3 ∨ i = 4 ∨ i = 5 ∨ i = 6 ∨ i = 7 ∨ i = 8 ∨ i = 9 ∨ i = 10 by omega) with rfl | rfl | rfl | rfl | rfl | rfl | rfl | rfl | rfl | rfl | rfl
    · exact lf144_0 h
    · exact lf144_1 h
    · exact lf144_2 h
    · exact lf144_3 h
    · exact lf144_4 h
    · exact lf144_5 h
    · exact lf144_6 h
    · exact lf144_7 h
    · exact lf144_8 h
    · exact lf144_9 h
    · exact lf144_10 h), (fun i hi => by
    rcases (show i = 0 ∨ i = 1 ∨ i = 2 ∨ i = 3 ∨ i = 4 ∨ i = 5 by omega) with rfl | rfl | rfl | rfl | rfl | rfl
    · exact lf155_0 h
    · exact lf155_1 h
    · exact lf155_2 h
    · exact lf155_3 h
    · exact lf155_4 h
    · exact lf155_5 h)⟩
theorem LY.st162 {Λ : hc_L} (h : LY Λ) : StL Λ 162 := ⟨Nat.le_trans (m := 238) (by decide) h.1, ly162 h, ly163 h, ly164 h, ly165 h, ly166 h, ly167 h, ly168 h, ly169 h, ly170 h, ly171 h, ly172 h, ly173 h, (fun i hi => by
    rcases (show i = 0 ∨ i = 1 ∨ i = 2 ∨ i = 3 ∨ i = 4 ∨ i = 5 by omega) with rfl | rfl | rfl | rfl | rfl | rfl
    · exact ly174 h
    · exact ly175 h
    · exact ly176 h
    · exact ly177 h
    · exact ly178 h
    · exact ly179 h),
  (fun i hi => by
    rcases (show i = 0 ∨ i = 1 ∨ i = 2 ∨ i = 3 ∨ i = 4 ∨ i = 5 ∨ i = 6 ∨ i = 7 ∨ i = 8 ∨ i = 9 ∨ i = 10 by omega) with rfl | rfl | rfl | rfl | rfl | rfl | rfl | rfl | rfl | rfl | rfl
    · exact lf162_0 h
    · exact lf162_1 h
    · exact lf162_2 h
    · exact lf162_3 h
    · exact lf162_4 h
    · exact lf162_5 h
    · exact lf162_6 h
    · exact lf162_7 h
    · exact lf162_8 h
    · exact lf162_9 h
    · exact lf162_10 h), (fun i hi => by
    rcases (show i = 0 ∨ i = 1 ∨ i = 2 ∨ i = 3 ∨ i = 4 ∨ i = 5 by omega) with rfl | rfl | rfl | rfl | rfl | rfl
    · exact lf173_0 h
    · exact lf173_1 h
    · exact lf173_2 h
    · exact lf173_3 h
    · exact lf173_4 h
    · exact lf173_5 h)⟩
theorem LY.st180 {Λ : hc_L} (h : LY Λ) : StL Λ 180 := ⟨Nat.le_trans (m := 238) (by decide) h.1, ly180 h, ly181 h, ly182 h, ly183 h, ly184 h, ly185 h, ly186 h, ly187 h, ly188 h, ly189 h, ly190 h, ly191 h, (fun i hi => by
    rcases (show i = 0 ∨ i = 1 ∨ i = 2 ∨ i = 3 ∨ i = 4 ∨ i = 5 by omega) with rfl | rfl | rfl | rfl | rfl | rfl
    · exact ly192 h
    · exact ly193 h
    · exact ly194 h
    · exact ly195 h
    · exact ly196 h
    · exact ly197 h),
  (fun i hi => by
    rcases (show i = 0 ∨ i = 1 ∨ i = 2 ∨ i = 3 ∨ i = 4 ∨ i = 5 ∨ i = 6 ∨ i = 7 ∨ i = 8 ∨ i = 9 ∨ i = 10 by omega) with rfl | rfl | rfl | rfl | rfl | rfl | rfl | rfl | rfl | rfl | rfl
    · exact lf180_0 h
    · exact lf180_1 h
    · exact lf180_2 h
    · exact lf180_3 h
    · exact lf180_4 h
    · exact lf180_5 h
    · exact lf180_6 h
    · exact lf180_7 h
    · exact lf180_8 h
    · exact lf180_9 h
    · exact lf180_10 h), (fun i hi => by
    rcases (show i = 0 ∨ i = 1 ∨ i = 2 ∨ i = 3 ∨ i = 4 ∨ i = 5 by omega) with rfl | rfl | rfl | rfl | rfl | rfl
    · exact lf191_0 h
    · exact lf191_1 h
    · exact lf191_2 h
    · exact lf191_3 h
    · exact lf191_4 h
    · exact lf191_5 h)⟩
theorem LY.lw39 {Λ : hc_L} (h : LY Λ) : LwL Λ 39 := ⟨Nat.le_trans (m := 238) (by decide) h.1, ly39 h, ly40 h, ly41 h, lf39_0 h, lf39_1 h⟩
theorem LY.lw42 {Λ : hc_L} (h : LY Λ) : LwL Λ 42 := ⟨Nat.le_trans (m := 238) (by decide) h.1, ly42 h, ly43 h, ly44 h, lf42_0 h, lf42_1 h⟩
theorem LY.tp {Λ : hc_L} (h : LY Λ) : TpL Λ 1 := ⟨Nat.le_trans (m := 238) (by decide) h.1, ly1 h, ly2 h, lf1_0 h⟩
theorem LY.tk {Λ : hc_L} (h : LY Λ) : TkL Λ 47 1 := ⟨Nat.le_trans (m := 238) (by decide) h.1, ly47 h, ly48 h, ly49 h, ly50 h, ly51 h, lf47_0 h, lf47_1 h, lf47_2 h, lf47_4 h, lf47_5 h, Or.inl (by decide)⟩
theorem LY.hs {Λ : hc_L} (h : LY Λ) : HsL Λ 52 := ⟨Nat.le_trans (m := 238) (by decide) h.1, ly52 h, ly53 h, lf52_0 h, (fun i hi => by
    rcases (show i = 0 ∨ i = 1 ∨ i = 2 ∨ i = 3 ∨ i = 4 ∨ i = 5 ∨ i = 6 ∨ i = 7 by omega) with rfl | rfl | rfl | rfl | rfl | rfl | rfl | rfl
    · exact lf53_0 h
    · exact lf53_1 h
    · exact lf53_2 h
    · exact lf53_3 h
    · exact lf53_4 h
    · exact lf53_5 h
    · exact lf53_6 h
    · exact lf53_7 h)⟩
theorem LY.as {Λ : hc_L} (h : LY Λ) : AsL Λ 198 3 39 := ⟨Nat.le_trans (m := 238) (by decide) h.1, ly198 h, ly199 h, ly200 h, lf198_0 h, lf198_1 h, lf198_2 h, lf198_3 h, fun k hk => by omega, fun k hk => by omega, by decide, by decide⟩
theorem LY.en {Λ : hc_L} (h : LY Λ) : EnL Λ 201 3 198 := ⟨Nat.le_trans (m := 238) (by decide) h.1, ly201 h, ly202 h, ly203 h, (fun i hi => by
    rcases (show i = 0 ∨ i = 1 ∨ i = 2 ∨ i = 3 ∨ i = 4 ∨ i = 5 by omega) with rfl | rfl | rfl | rfl | rfl | rfl
    · exact ly204 h
    · exact ly205 h
    · exact ly206 h
    · exact ly207 h
    · exact ly208 h
    · exact ly209 h), ly210 h, ly211 h, (fun i hi => by
    rcases (show i = 0 ∨ i = 1 ∨ i = 2 ∨ i = 3 ∨ i = 4 by omega) with rfl | rfl | rfl | rfl | rfl
    · exact ly212 h
    · exact ly213 h
    · exact ly214 h
    · exact ly215 h
    · exact ly216 h), lf201_0 h, lf201_1 h, lf201_2 h, lf201_3 h, lf201_4 h, lf201_5 h, (fun i hi => by
    rcases (show i = 0 ∨ i = 1 ∨ i = 2 ∨ i = 3 ∨ i = 4 by omega) with rfl | rfl | rfl | rfl | rfl
    · exact lf201_6 h
    · exact lf201_7 h
    · exact lf201_8 h
    · exact lf201_9 h
    · exact lf201_10 h), (fun i hi => by
    rcases (show i = 0 ∨ i = 1 ∨ i = 2 ∨ i = 3 ∨ i = 4 ∨ i = 5 by omega) with rfl | rfl | rfl | rfl | rfl | rfl
    · exact lf203_0 h
    · exact lf203_1 h
    · exact lf203_2 h
    · exact lf203_3 h
    · exact lf203_4 h
    · exact lf203_5 h), fun k j hk hj => by omega⟩
theorem lyT_len : lyT.length = 238 := by decide +kernel
/-- no field, no storm lies there -/
theorem LY.nf {Λ : hc_L} (h : LY Λ) {r : Nat} (hr : Λ.2.1 r = (102, 0) ∨ Λ.2.1 r = (107, 0)) : 238 ≤ r := by
  rcases Nat.lt_or_ge r 238 with z | z
  · exfalso
    have hl : r < lyT.length := by rw [lyT_len]; exact z
    have e := h.2.1 r _ (List.getElem?_eq_getElem hl)
    have hall : ∀ q ∈ lyT, q.1 ≠ 102 ∧ q.1 ≠ 107 := by decide +kernel
    have := hall _ (List.getElem_mem hl)
    rcases hr with hr | hr
    · rw [hr] at e; rw [← e] at this; exact this.1 rfl
    · rw [hr] at e; rw [← e] at this; exact this.2 rfl
  · exact z
/-! what stays: all cells that were there, but those that J names -/
def Fr (J : Nat → Prop) (Λ : hc_L) (I : hc_I) (L : hc_J) (R : hc_R) (Λ' : hc_L) (I' : hc_I) (L' : hc_J) (R' : hc_R) : Prop :=
  (Λ.1 ≤ Λ'.1 ∧ ∀ z, z < Λ.1 → Λ'.2.1 z = Λ.2.1 z ∧ Λ'.2.2 z = Λ.2.2 z) ∧ (∀ z, z < Λ.1 → ¬ J z → I' z = I z) ∧ (∀ z, z < Λ.1 → ¬ J z → L' z = L z) ∧ ∀ z, z < Λ.1 → ¬ J z → R' z = R z
theorem Fr.rf {J : Nat → Prop} {Λ : hc_L} {I : hc_I} {L : hc_J} {R : hc_R} : Fr J Λ I L R Λ I L R := ⟨⟨Nat.le_refl _, fun _ _ => ⟨rfl, rfl⟩⟩, fun _ _ _ => rfl, fun _ _ _ => rfl, fun _ _ _ => rfl⟩
theorem Fr.trans {J : Nat → Prop} {Λ Λ1 Λ2 : hc_L} {I I1 I2 : hc_I} {L L1 L2 : hc_J} {R R1 R2 : hc_R} (h : Fr J Λ I L R Λ1 I1 L1 R1) (k : Fr J Λ1 I1 L1 R1 Λ2 I2 L2 R2) : Fr J Λ I L R Λ2 I2 L2 R2 := by
  have hl := h.1.1
  exact ⟨⟨Nat.le_trans hl k.1.1, fun z hz => ⟨((k.1.2 z (Nat.lt_of_lt_of_le hz hl)).1).trans (h.1.2 z hz).1, ((k.1.2 z (Nat.lt_of_lt_of_le hz hl)).2).trans (h.1.2 z hz).2⟩⟩, fun z hz hj => (k.2.1 z (Nat.lt_of_lt_of_le hz hl) hj).trans (h.2.1 z hz hj), fun z hz hj => (k.2.2.1 z (Nat.lt_of_lt_of_le hz hl) hj).trans (h.2.2.1 z hz hj), fun z hz hj => (k.2.2.2 z (Nat.lt_of_lt_of_le hz hl) hj).trans (h.2.2.2 z hz hj)⟩
theorem Fr.mono {J J' : Nat → Prop} {Λ Λ1 : hc_L} {I I1 : hc_I} {L L1 : hc_J} {R R1 : hc_R} (h : Fr J Λ I L R Λ1 I1 L1 R1) (hj : ∀ z, z < Λ.1 → J z → J' z) : Fr J' Λ I L R Λ1 I1 L1 R1 := ⟨h.1, fun z hz q => h.2.1 z hz (fun c => q (hj z hz c)), fun z hz q => h.2.2.1 z hz (fun c => q (hj z hz c)), fun z hz q => h.2.2.2 z hz (fun c => q (hj z hz c))⟩
/-- what a written row's post says, as a frame -/
theorem Fr.of {J JI JL JR : Nat → Prop} {Λ : hc_L} {I I' : hc_I} {L L' : hc_J} {R R' : hc_R} (hI : ∀ z, ¬ JI z → I' z = I z) (hL : ∀ z, ¬ JL z → L' z = L z) (hR : ∀ z, ¬ JR z → R' z = R z) (j1 : ∀ z, JI z → J z) (j2 : ∀ z, JL z → J z) (j3 : ∀ z, JR z → J z) : Fr J Λ I L R Λ I' L' R' := ⟨⟨Nat.le_refl _, fun _ _ => ⟨rfl, rfl⟩⟩, fun z _ q => hI z (fun c => q (j1 z c)), fun z _ q => hL z (fun c => q (j2 z c)), fun z _ q => hR z (fun c => q (j3 z c))⟩
theorem Fr.ofI {J : Nat → Prop} {Λ : hc_L} {I I' : hc_I} {L : hc_J} {R : hc_R} (hI : ∀ z, ¬ J z → I' z = I z) : Fr J Λ I L R Λ I' L R := ⟨⟨Nat.le_refl _, fun _ _ => ⟨rfl, rfl⟩⟩, fun z _ q => hI z q, fun _ _ _ => rfl, fun _ _ _ => rfl⟩
theorem Fr.ofL {J : Nat → Prop} {Λ : hc_L} {I : hc_I} {L L' : hc_J} {R : hc_R} (hL : ∀ z, ¬ J z → L' z = L z) : Fr J Λ I L R Λ I L' R := ⟨⟨Nat.le_refl _, fun _ _ => ⟨rfl, rfl⟩⟩, fun _ _ _ => rfl, fun z _ q => hL z q, fun _ _ _ => rfl⟩
theorem LY.fr {J : Nat → Prop} {Λ Λ' : hc_L} {I I' : hc_I} {L L' : hc_J} {R R' : hc_R} (h : LY Λ) (f : Fr J Λ I L R Λ' I' L' R') : LY Λ' := by
  refine ⟨Nat.le_trans h.1 f.1.1, fun k q hq => ?_, fun i k j r hr => ?_⟩
  · have hk : k < 238 := by
      rcases Nat.lt_or_ge k 238 with z | z
      · exact z
      · rw [List.getElem?_eq_none (by rw [lyT_len]; exact z)] at hq; cases hq
    rw [(f.1.2 k (h.lt hk)).1]
    exact h.2.1 k q hq
  · have hk : k < 238 := by
      have hall : ∀ q ∈ lyF, q.1 < 238 := by decide +kernel
      exact hall _ (List.mem_of_getElem? hr)
    rw [(f.1.2 k (h.lt hk)).2]
    exact h.2.2 i k j r hr
theorem FdAt.fr {J : Nat → Prop} {Λ Λ' : hc_L} {I I' : hc_I} {L L' : hc_J} {R R' : hc_R} {r : Nat} {g : Nat → Nat} (h : FdAt Λ I r g) (f : Fr J Λ I L R Λ' I' L' R') (hj : ¬ J r) : FdAt Λ' I' r g := ⟨Nat.lt_of_lt_of_le h.1 f.1.1, by rw [(f.1.2 r h.1).1]; exact h.2.1, fun a ha => by rw [f.2.1 r h.1 hj]; exact h.2.2 a ha⟩
theorem SdAt.fr {J : Nat → Prop} {Λ Λ' : hc_L} {I I' : hc_I} {L L' : hc_J} {R R' : hc_R} {r : Nat} {g : Nat → Nat} (h : SdAt Λ I r g) (f : Fr J Λ I L R Λ' I' L' R') (hj : ¬ J r) : SdAt Λ' I' r g := ⟨Nat.lt_of_lt_of_le h.1 f.1.1, by rw [(f.1.2 r h.1).1]; exact h.2.1, fun a ha => by rw [f.2.1 r h.1 hj]; exact h.2.2 a ha⟩
/-- the club at s stays when nothing of it is named -/
theorem St.fr {J : Nat → Prop} {Λ Λ' : hc_L} {I I' : hc_I} {L L' : hc_J} {R R' : hc_R} {s : Nat} {A : AS} (h : St Λ I L R s A) (hy : LY Λ) (hy' : StL Λ' s) (f : Fr J Λ I L R Λ' I' L' R') (hj : ∀ z, J z → z < 238 ∧ ¬ (s ≤ z ∧ z < s + 18)) : St Λ' I' L' R' s A := by
  have hs : ∀ k, k < 18 → I' (s + k) = I (s + k) ∧ L' (s + k) = L (s + k) ∧ R' (s + k) = R (s + k) := fun k hk => by
    have hlt := h.l.lt k hk
    have hn : ¬ J (s + k) := fun c => (hj _ c).2 ⟨by omega, by omega⟩
    exact ⟨f.2.1 _ hlt hn, f.2.2.1 _ hlt hn, f.2.2.2 _ hlt hn⟩
  have hI : ∀ k, k < 18 → I' (s + k) = I (s + k) := fun k hk => (hs k hk).1
  have hL : ∀ k, k < 18 → L' (s + k) = L (s + k) := fun k hk => (hs k hk).2.1
  have hR : ∀ k, k < 18 → R' (s + k) = R (s + k) := fun k hk => (hs k hk).2.2
  have hI0 : I' s = I s := hI 0 (by decide)
  have hO : ∀ r, (Λ.2.1 r = (102, 0) ∨ Λ.2.1 r = (107, 0)) → ¬ J r := fun r hr c => by
    have := hy.nf hr
    have := (hj r c).1
    omega
  refine ⟨hy', h.w, by rw [hI0]; exact h.2.2.1, fun k hk => by rw [hL 1 (by decide)]; exact h.ru hk, fun c hc => by rw [hI 2 (by decide)]; exact h.hz hc, fun c hc => by rw [hI 3 (by decide)]; exact h.so hc, fun k hk => by rw [hL 4 (by decide), hI 5 (by decide), hI 6 (by decide), hI 7 (by decide)]; exact ⟨h.nm hk, h.th hk, h.lv hk, h.ys hk⟩, fun i hi => ?_, fun i hi => ?_, fun i q hi hq => ?_, fun i q hi hq => ?_, fun m hm => by rw [hI 10 (by decide), hI 6 (by decide), hI 7 (by decide)]; exact h.ets hm, fun w m hw hm => by rw [show s + 12 + w = s + (12 + w) by omega, hL (12 + w) (by omega), show s + (12 + w) = s + 12 + w by omega]; exact h.er hw hm⟩
  · obtain ⟨r, hr, hf⟩ := h.fd hi
    exact ⟨r, by rw [hR 8 (by decide)]; exact hr, hf.fr f (hO r (Or.inl hf.2.1))⟩
  · obtain ⟨r, hr, hf⟩ := h.sd hi
    exact ⟨r, by rw [hR 9 (by decide)]; exact hr, hf.fr f (hO r (Or.inr hf.2.1))⟩
  · rw [hR 8 (by decide)] at hq
    obtain ⟨a, b⟩ := h.rf hi hq
    exact ⟨Nat.lt_of_lt_of_le a f.1.1, by rw [(f.1.2 q a).1]; exact b⟩
  · rw [hR 9 (by decide)] at hq
    obtain ⟨a, b⟩ := h.rs hi hq
    exact ⟨Nat.lt_of_lt_of_le a f.1.1, by rw [(f.1.2 q a).1]; exact b⟩
theorem LwAt.fr {J : Nat → Prop} {Λ Λ' : hc_L} {I I' : hc_I} {L L' : hc_J} {R R' : hc_R} {l : Nat} {P : LwP} (h : LwAt Λ I l P) (hy' : LwL Λ' l) (f : Fr J Λ I L R Λ' I' L' R') (hj : ¬ J l ∧ ¬ J (l + 1)) : LwAt Λ' I' l P := by
  have h3 := h.1.1
  exact ⟨hy', by rw [f.2.1 l (by omega) hj.1]; exact h.2.1, fun i hi => by rw [f.2.1 (l + 1) (by omega) hj.2]; exact h.2.2 i hi⟩
