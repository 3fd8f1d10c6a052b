section FACTS
def M3I : List (List Int32) := [[], [], [], [], [0], [1], [2], [3], [4], [5], [6], [7], [8], [9], [10], [11], [], [0, 0, 0, 0, 0, 0, 0, (-1), (-1)], [0, 0, 0, 0, 109], [100, 100, 100], [], [], [], [], [], [0, 0, 0, 0, 0, 0, 0, (-1), (-1)], [0, 0, 0, 0, 109], [100, 100, 100], [], [], [], [], [], [0, 0, 0, 0, 0, 0, 0, (-1), (-1)], [0, 0, 0, 0, 109], [100, 100, 100], [], [], [], [], [], [0, 0, 0, 0, 0, 0, 0, (-1), (-1)], [0, 0, 0, 0, 109], [100, 100, 100], [], [], [], [], [], [], [20, 20, 20, 20, 20, 20], [], [], [1000, 1000, 1000, 1000], [], [], [0], [1], [2], [3], [4], [5], [6], [7], [8], [9], [10], [11], [], [0, 0, 0, 0, 0, 0, 0, (-1), (-1)], [0, 0, 0, 0, 109], [100, 100, 100], [], [], [], [], [], [0, 0, 0, 0, 0, 0, 0, (-1), (-1)], [0, 0, 0, 0, 109], [100, 100, 100], [], [], [], [], [], [0, 0, 0, 0, 0, 0, 0, (-1), (-1)], [0, 0, 0, 0, 109], [100, 100, 100], [], [], [], [], [], [0, 0, 0, 0, 0, 0, 0, (-1), (-1)], [0, 0, 0, 0, 109], [100, 100, 100], [], [], [], [], [], [], [20, 20, 20, 20, 20, 20], [], [], [1000, 1000, 1000, 1000], [], [], [], [], [], [], [], [], [0, 0, 0, 0, 0, 0, 0, (-1), (-1)], [0, 0, 0, 0, 109], [100, 100, 100], [], [], [], [], [], [0, 0, 0, 0, 0, 0, 0, (-1), (-1)], [0, 0, 0, 0, 109], [100, 100, 100], [], [], [], [], [], [0, 0, 0, 0, 0, 0, 0, (-1), (-1)], [0, 0, 0, 0, 109], [100, 100, 100], [], [], [], [], [], [0, 0, 0, 0, 0, 0, 0, (-1), (-1)], [0, 0, 0, 0, 109], [100, 100, 100], [], [], [], [], [], [], [], [], [], [0], [], [0, (-1), 0, 0, (-1), 0, 0, 0, 0, 0, 0, 0, 0, 0, 0, 109], [100, 100, 100], [(-1), (-1), (-1), (-1)], [0], [0, (-1), 0, 0, (-1), 0, 0, 0, 0, 0, 0, 0, 0, 0, 0, 109], [100, 100, 100], [(-1), (-1), (-1), (-1)], [0], [0, (-1), 0, 0, (-1), 0, 0, 0, 0, 0, 0, 0, 0, 0, 0, 109], [100, 100, 100], [(-1), (-1), (-1), (-1)], [0], [0, (-1), 0, 0, (-1), 0, 0, 0, 0, 0, 0, 0, 0, 0, 0, 109], [100, 100, 100], [(-1), (-1), (-1), (-1)], [0], [20, 20, 20, 20, 20, 20], [], [1000, 1000, 1000, 1000], [], [], [], []]
def M3L : List (List Int64) := [[], [], [], [], [], [], [], [], [], [], [], [], [], [], [], [], [], [], [], [], [], [], [], [], [], [], [], [], [], [], [], [], [], [], [], [], [], [], [], [], [], [], [], [], [], [], [], [], [], [], [], [], [], [], [], [], [], [], [], [], [], [], [], [], [], [], [], [], [], [], [], [], [], [], [], [], [], [], [], [], [], [], [], [], [], [], [], [], [], [], [], [], [], [], [], [], [], [], [], [], [], [], [], [], [], [], [], [], [], [], [], [], [], [], [], [], [], [], [], [], [], [], [], [], [], [], [], [], [], [], [], [], [], [], [], [], [], [], [], [], [], [], [], [], [], [], [], [], [], [], [], [], [], [], [], [], [], [], [], [], [], [], [], [], [], [], [], [], [], [], [], [], [], [], []]
def M3R : List (List Nat) := [[], [2, 54, 106, 109, 146], [3, 16, 49, 52], [4, 5, 6, 7, 8, 9, 10, 11, 12, 13, 14, 15], [], [], [], [], [], [], [], [], [], [], [], [], [17, 25, 33, 41], [18, 24], [19, 20], [], [21, 22, 23], [], [], [], [], [26, 32], [27, 28], [], [29, 30, 31], [], [], [], [], [34, 40], [35, 36], [], [37, 38, 39], [], [], [], [], [42, 48], [43, 44], [], [45, 46, 47], [], [], [], [], [50, 51], [], [], [53], [], [55, 68, 101, 104], [56, 57, 58, 59, 60, 61, 62, 63, 64, 65, 66, 67], [], [], [], [], [], [], [], [], [], [], [], [], [69, 77, 85, 93], [70, 76], [71, 72], [], [73, 74, 75], [], [], [], [], [78, 84], [79, 80], [], [81, 82, 83], [], [], [], [], [86, 92], [87, 88], [], [89, 90, 91], [], [], [], [], [94, 100], [95, 96], [], [97, 98, 99], [], [], [], [], [102, 103], [], [], [105], [], [107, 108], [], [], [110, 111, 112, 113], [], [], [], [114, 122, 130, 138], [115, 121], [116, 117], [], [118, 119, 120], [], [], [], [], [123, 129], [124, 125], [], [126, 127, 128], [], [], [], [], [131, 137], [132, 133], [], [134, 135, 136], [], [], [], [], [139, 145], [140, 141], [], [142, 143, 144], [], [], [], [], [2, 147, 148], [], [], [0, 150, 151, 168, 169, 170, 171, 172, 0, 0, 0, 0, 0, 0, 0, 0, 0, 0, 0, 0, 1000000000000], [0, 1000000000020], [152, 156, 160, 164], [0, 0, 0, 0, 0, 0, 153, 154, 155], [], [], [0, 1000000000020], [0, 0, 0, 0, 0, 0, 157, 158, 159], [], [], [0, 1000000000020], [0, 0, 0, 0, 0, 0, 161, 162, 163], [], [], [0, 1000000000020], [0, 0, 0, 0, 0, 0, 165, 166, 167], [], [], [0, 1000000000020], [], [], [], [], [], [], []]
def M3D : List (List UInt64) := [[], [], [], [], [], [], [], [], [], [], [], [], [], [], [], [], [], [], [], [], [], [], [], [], [], [], [], [], [], [], [], [], [], [], [], [], [], [], [], [], [], [], [], [], [], [], [], [], [], [], [], [], [], [], [], [], [], [], [], [], [], [], [], [], [], [], [], [], [], [], [], [], [], [], [], [], [], [], [], [], [], [], [], [], [], [], [], [], [], [], [], [], [], [], [], [], [], [], [], [], [], [], [], [], [], [], [], [], [], [], [], [], [], [], [], [], [], [], [], [], [], [], [], [], [], [], [], [], [], [], [], [], [], [], [], [], [], [], [], [], [], [], [], [], [], [], [], [], [], [], [], [], [], [], [], [], [], [], [], [], [], [], [], [], [], [], [], [], [], [], [], [], [], [], []]
def M3K : List Nat := [0, 16, 14, 36, 8, 8, 8, 8, 8, 8, 8, 8, 8, 8, 8, 8, 34, 7, 6, 30, 35, 9, 9, 9, 30, 7, 6, 30, 35, 9, 9, 9, 30, 7, 6, 30, 35, 9, 9, 9, 30, 7, 6, 30, 35, 9, 9, 9, 30, 10, 30, 30, 11, 30, 14, 36, 8, 8, 8, 8, 8, 8, 8, 8, 8, 8, 8, 8, 34, 7, 6, 30, 35, 9, 9, 9, 30, 7, 6, 30, 35, 9, 9, 9, 30, 7, 6, 30, 35, 9, 9, 9, 30, 7, 6, 30, 35, 9, 9, 9, 30, 10, 30, 30, 11, 30, 12, 30, 31, 13, 31, 31, 30, 34, 7, 6, 30, 35, 9, 9, 9, 30, 7, 6, 30, 35, 9, 9, 9, 30, 7, 6, 30, 35, 9, 9, 9, 30, 7, 6, 30, 35, 9, 9, 9, 30, 15, 30, 30, 19, 5, 37, 17, 30, 30, 5, 17, 30, 30, 5, 17, 30, 30, 5, 17, 30, 30, 5, 30, 30, 30, 30, 31, 38, 39]
def M3Z : List Nat := [0, 0, 0, 12, 0, 0, 0, 0, 0, 0, 0, 0, 0, 0, 0, 0, 4, 0, 0, 3, 3, 0, 0, 0, 4, 0, 0, 3, 3, 0, 0, 0, 4, 0, 0, 3, 3, 0, 0, 0, 4, 0, 0, 3, 3, 0, 0, 0, 4, 0, 6, 6, 0, 4, 0, 12, 0, 0, 0, 0, 0, 0, 0, 0, 0, 0, 0, 0, 4, 0, 0, 3, 3, 0, 0, 0, 4, 0, 0, 3, 3, 0, 0, 0, 4, 0, 0, 3, 3, 0, 0, 0, 4, 0, 0, 3, 3, 0, 0, 0, 4, 0, 6, 6, 0, 4, 0, 4096, 512, 0, 30, 2, 2, 4, 0, 0, 3, 3, 0, 0, 0, 4, 0, 0, 3, 3, 0, 0, 0, 4, 0, 0, 3, 3, 0, 0, 0, 4, 0, 0, 3, 3, 0, 0, 0, 4, 0, 4, 4, 0, 0, 4, 0, 3, 4, 0, 0, 3, 4, 0, 0, 3, 4, 0, 0, 3, 4, 0, 6, 6, 4, 2, 2, 1, 1]
theorem qf_0 : ¬ (((0 : Int32) + (1 : Int32)) < 0 ∨ 8 ≤ (((0 : Int32) + (1 : Int32))).toNatClampNeg) := by decide
theorem qf_1 : (((0 : Int32) + (1 : Int32))).toNatClampNeg = 1 := by decide
theorem qf_2 : ¬ (((0 : Int32) + (2 : Int32)) < 0 ∨ 8 ≤ (((0 : Int32) + (2 : Int32))).toNatClampNeg) := by decide
theorem qf_3 : (((0 : Int32) + (2 : Int32))).toNatClampNeg = 2 := by decide
theorem qf_4 : ¬ (((0 : Int32) + (3 : Int32)) < 0 ∨ 8 ≤ (((0 : Int32) + (3 : Int32))).toNatClampNeg) := by decide
theorem qf_5 : (((0 : Int32) + (3 : Int32))).toNatClampNeg = 3 := by decide
theorem qf_6 : ¬ (((0 : Int32) + (4 : Int32)) < 0 ∨ 8 ≤ (((0 : Int32) + (4 : Int32))).toNatClampNeg) := by decide
theorem qf_7 : (((0 : Int32) + (4 : Int32))).toNatClampNeg = 4 := by decide
theorem qf_8 : ¬ (((0 : Int32) + (5 : Int32)) < 0 ∨ 8 ≤ (((0 : Int32) + (5 : Int32))).toNatClampNeg) := by decide
theorem qf_9 : (((0 : Int32) + (5 : Int32))).toNatClampNeg = 5 := by decide
theorem qf_10 : ¬ (((0 : Int32) + (6 : Int32)) < 0 ∨ 8 ≤ (((0 : Int32) + (6 : Int32))).toNatClampNeg) := by decide
theorem qf_11 : (((0 : Int32) + (6 : Int32))).toNatClampNeg = 6 := by decide
theorem qf_12 : ¬ (((0 : Int32) + (7 : Int32)) < 0 ∨ 8 ≤ (((0 : Int32) + (7 : Int32))).toNatClampNeg) := by decide
theorem qf_13 : (((0 : Int32) + (7 : Int32))).toNatClampNeg = 7 := by decide
theorem ql_K_1 {i : List (List Int32)} {l : List (List Int64)} {r : List (List Nat)} {d : List (List UInt64)} {zz : List Nat} {n : Nat} : gK (i, l, r, d, M3K, zz, n) 1 = 16 := by
  show nt 0 M3K 1 = 16
  decide +kernel
theorem qf_14 : (((0 : Int32) = (0 : Int32)) ∨ ((0 : Int32) = (1 : Int32))) := by decide
theorem qf_15 : ((0 : Int32) = (0 : Int32)) := by decide
theorem qf_16 : ("java/lang/IllegalArgumentException" = "java/lang/IllegalArgumentException") := by decide
theorem ql_K_149 {i : List (List Int32)} {l : List (List Int64)} {r : List (List Nat)} {d : List (List UInt64)} {zz : List Nat} {n : Nat} : gK (i, l, r, d, M3K, zz, n) 149 = 19 := by
  show nt 0 M3K 149 = 19
  decide +kernel
theorem qf_17 : ¬ ((1 : Int32) ≤ (0 : Int32)) := by decide
theorem qf_18 : (((1 : Int32) = (0 : Int32)) ∨ ((1 : Int32) = (1 : Int32))) := by decide
theorem qf_19 : ¬ ((1 : Int32) = (0 : Int32)) := by decide
theorem qf_20 : ((1 : Int32) = (1 : Int32)) := by decide
theorem qf_21 : ((0 : Int32) + (Int32.ofInt ((8 : Int)))) = (8 : Int32) := by decide
theorem qf_22 : ((8 : Int32) = (8 : Int32)) := by decide
theorem ql_R_1_0 {i : List (List Int32)} {l : List (List Int64)} {d : List (List UInt64)} {kk : List Nat} {zz : List Nat} {n : Nat} : gR (i, l, M3R, d, kk, zz, n) 1 0 = 2 := by
  show nt 0 (nt [] M3R 1) 0 = 2
  decide +kernel
theorem ql_K_2 {i : List (List Int32)} {l : List (List Int64)} {r : List (List Nat)} {d : List (List UInt64)} {zz : List Nat} {n : Nat} : gK (i, l, r, d, M3K, zz, n) 2 = 14 := by
  show nt 0 M3K 2 = 14
  decide +kernel
theorem ql_I_2_4 {l : List (List Int64)} {r : List (List Nat)} {d : List (List UInt64)} {kk : List Nat} {zz : List Nat} {n : Nat} : gI (M3I, l, r, d, kk, zz, n) 2 4 = (0 : Int32) := by
  show nt 0 (nt [] M3I 2) 4 = (0 : Int32)
  decide +kernel
theorem ql_R_2_0 {i : List (List Int32)} {l : List (List Int64)} {d : List (List UInt64)} {kk : List Nat} {zz : List Nat} {n : Nat} : gR (i, l, M3R, d, kk, zz, n) 2 0 = 3 := by
  show nt 0 (nt [] M3R 2) 0 = 3
  decide +kernel
theorem ql_K_3 {i : List (List Int32)} {l : List (List Int64)} {r : List (List Nat)} {d : List (List UInt64)} {zz : List Nat} {n : Nat} : gK (i, l, r, d, M3K, zz, n) 3 = 36 := by
  show nt 0 M3K 3 = 36
  decide +kernel
theorem ql_Z_3 {i : List (List Int32)} {l : List (List Int64)} {r : List (List Nat)} {d : List (List UInt64)} {kk : List Nat} {n : Nat} : gZ (i, l, r, d, kk, M3Z, n) 3 = 12 := by
  show nt 0 M3Z 3 = 12
  decide +kernel
theorem qf_23 : Int32.ofNat 12 = (12 : Int32) := by decide
theorem qf_24 : ((0 : Int32) < (12 : Int32)) := by decide
theorem ql_R_1_2 {i : List (List Int32)} {l : List (List Int64)} {d : List (List UInt64)} {kk : List Nat} {zz : List Nat} {n : Nat} : gR (i, l, M3R, d, kk, zz, n) 1 2 = 106 := by
  show nt 0 (nt [] M3R 1) 2 = 106
  decide +kernel
theorem ql_K_106 {i : List (List Int32)} {l : List (List Int64)} {r : List (List Nat)} {d : List (List UInt64)} {zz : List Nat} {n : Nat} : gK (i, l, r, d, M3K, zz, n) 106 = 12 := by
  show nt 0 M3K 106 = 12
  decide +kernel
theorem ql_I_106_2 {l : List (List Int64)} {r : List (List Nat)} {d : List (List UInt64)} {kk : List Nat} {zz : List Nat} {n : Nat} : gI (M3I, l, r, d, kk, zz, n) 106 2 = (0 : Int32) := by
  show nt 0 (nt [] M3I 106) 2 = (0 : Int32)
  decide +kernel
theorem qf_25 : ((0 : Int32) * (8 : Int32)) = (0 : Int32) := by decide
theorem qf_26 : ¬ ((512 : Int32) ≤ (0 : Int32)) := by decide
theorem qf_27 : ((0 : Int32) + (1 : Int32)) = (1 : Int32) := by decide
theorem qf_28 : ¬ ((0 : Int32) < (0 : Int32)) := by decide
theorem ql_R_106_0 {i : List (List Int32)} {l : List (List Int64)} {d : List (List UInt64)} {kk : List Nat} {zz : List Nat} {n : Nat} : gR (i, l, M3R, d, kk, zz, n) 106 0 = 107 := by
  show nt 0 (nt [] M3R 106) 0 = 107
  decide +kernel
theorem ql_K_107 {i : List (List Int32)} {l : List (List Int64)} {r : List (List Nat)} {d : List (List UInt64)} {zz : List Nat} {n : Nat} : gK (i, l, r, d, M3K, zz, n) 107 = 30 := by
  show nt 0 M3K 107 = 30
  decide +kernel
theorem ql_Z_107 {i : List (List Int32)} {l : List (List Int64)} {r : List (List Nat)} {d : List (List UInt64)} {kk : List Nat} {n : Nat} : gZ (i, l, r, d, kk, M3Z, n) 107 = 4096 := by
  show nt 0 M3Z 107 = 4096
  decide +kernel
theorem qf_29 : Int32.ofNat 4096 = (4096 : Int32) := by decide
theorem qf_30 : ¬ ((4096 : Int32) ≤ (0 : Int32)) := by decide
theorem qf_31 : ¬ ((0 : Int32) < 0 ∨ 4096 ≤ ((0 : Int32)).toNatClampNeg) := by decide
theorem qf_32 : ((0 : Int32)).toNatClampNeg = 0 := by decide
theorem qf_33 : ¬ ((1 : Int32) < (0 : Int32)) := by decide
theorem qf_34 : ¬ ((4096 : Int32) ≤ (1 : Int32)) := by decide
theorem qf_35 : ¬ ((1 : Int32) < 0 ∨ 4096 ≤ ((1 : Int32)).toNatClampNeg) := by decide
theorem qf_36 : ((1 : Int32)).toNatClampNeg = 1 := by decide
theorem qf_37 : ((1 : Int32) + (1 : Int32)) = (2 : Int32) := by decide
theorem qf_38 : ¬ ((2 : Int32) < (0 : Int32)) := by decide
theorem qf_39 : ¬ ((4096 : Int32) ≤ (2 : Int32)) := by decide
theorem qf_40 : ¬ ((2 : Int32) < 0 ∨ 4096 ≤ ((2 : Int32)).toNatClampNeg) := by decide
theorem qf_41 : ((2 : Int32)).toNatClampNeg = 2 := by decide
theorem qf_42 : ((2 : Int32) + (1 : Int32)) = (3 : Int32) := by decide
theorem qf_43 : ¬ ((3 : Int32) < (0 : Int32)) := by decide
theorem qf_44 : ¬ ((4096 : Int32) ≤ (3 : Int32)) := by decide
theorem qf_45 : ¬ ((3 : Int32) < 0 ∨ 4096 ≤ ((3 : Int32)).toNatClampNeg) := by decide
theorem qf_46 : ((3 : Int32)).toNatClampNeg = 3 := by decide
theorem qf_47 : ((3 : Int32) + (1 : Int32)) = (4 : Int32) := by decide
theorem qf_48 : ¬ ((4 : Int32) < (0 : Int32)) := by decide
theorem qf_49 : ¬ ((4096 : Int32) ≤ (4 : Int32)) := by decide
theorem qf_50 : ¬ ((4 : Int32) < 0 ∨ 4096 ≤ ((4 : Int32)).toNatClampNeg) := by decide
theorem qf_51 : ((4 : Int32)).toNatClampNeg = 4 := by decide
theorem qf_52 : ((4 : Int32) + (1 : Int32)) = (5 : Int32) := by decide
theorem qf_53 : ¬ ((5 : Int32) < (0 : Int32)) := by decide
theorem qf_54 : ¬ ((4096 : Int32) ≤ (5 : Int32)) := by decide
theorem qf_55 : ¬ ((5 : Int32) < 0 ∨ 4096 ≤ ((5 : Int32)).toNatClampNeg) := by decide
theorem qf_56 : ((5 : Int32)).toNatClampNeg = 5 := by decide
theorem qf_57 : ((5 : Int32) + (1 : Int32)) = (6 : Int32) := by decide
theorem qf_58 : ¬ ((6 : Int32) < (0 : Int32)) := by decide
theorem qf_59 : ¬ ((4096 : Int32) ≤ (6 : Int32)) := by decide
theorem qf_60 : ¬ ((6 : Int32) < 0 ∨ 4096 ≤ ((6 : Int32)).toNatClampNeg) := by decide
theorem qf_61 : ((6 : Int32)).toNatClampNeg = 6 := by decide
theorem qf_62 : ((6 : Int32) + (1 : Int32)) = (7 : Int32) := by decide
theorem qf_63 : ¬ ((7 : Int32) < (0 : Int32)) := by decide
theorem qf_64 : ¬ ((4096 : Int32) ≤ (7 : Int32)) := by decide
theorem qf_65 : ¬ ((7 : Int32) < 0 ∨ 4096 ≤ ((7 : Int32)).toNatClampNeg) := by decide
theorem qf_66 : ((7 : Int32)).toNatClampNeg = 7 := by decide
theorem qf_67 : ((7 : Int32) + (1 : Int32)) = (8 : Int32) := by decide
theorem qf_68 : ¬ ((0 : Int32) < 0 ∨ 12 ≤ ((0 : Int32)).toNatClampNeg) := by decide
theorem ql_R_3_0 {i : List (List Int32)} {l : List (List Int64)} {d : List (List UInt64)} {kk : List Nat} {zz : List Nat} {n : Nat} : gR (i, l, M3R, d, kk, zz, n) 3 0 = 4 := by
  show nt 0 (nt [] M3R 3) 0 = 4
  decide +kernel
theorem ql_K_4 {i : List (List Int32)} {l : List (List Int64)} {r : List (List Nat)} {d : List (List UInt64)} {zz : List Nat} {n : Nat} : gK (i, l, r, d, M3K, zz, n) 4 = 8 := by
  show nt 0 M3K 4 = 8
  decide +kernel
theorem qf_69 : ((1 : Int32) - (1 : Int32)) = (0 : Int32) := by decide
theorem qf_70 : ((0 : Int32)).toInt64 = (0 : Int64) := by decide
theorem ql_K_173 {i : List (List Int32)} {l : List (List Int64)} {r : List (List Nat)} {d : List (List UInt64)} {zz : List Nat} {n : Nat} : gK (i, l, r, d, M3K, zz, n) 173 = 38 := by
  show nt 0 M3K 173 = 38
  decide +kernel
theorem ql_Z_173 {i : List (List Int32)} {l : List (List Int64)} {r : List (List Nat)} {d : List (List UInt64)} {kk : List Nat} {n : Nat} : gZ (i, l, r, d, kk, M3Z, n) 173 = 1 := by
  show nt 0 M3Z 173 = 1
  decide +kernel
theorem qf_71 : ¬ ((0 : Int32) < 0 ∨ 1 ≤ ((0 : Int32)).toNatClampNeg) := by decide
theorem ql_R_149_1 {i : List (List Int32)} {l : List (List Int64)} {d : List (List UInt64)} {kk : List Nat} {zz : List Nat} {n : Nat} : gR (i, l, M3R, d, kk, zz, n) 149 1 = 150 := by
  show nt 0 (nt [] M3R 149) 1 = 150
  decide +kernel
theorem ql_K_150 {i : List (List Int32)} {l : List (List Int64)} {r : List (List Nat)} {d : List (List UInt64)} {zz : List Nat} {n : Nat} : gK (i, l, r, d, M3K, zz, n) 150 = 5 := by
  show nt 0 M3K 150 = 5
  decide +kernel
theorem ql_I_150_2 {l : List (List Int64)} {r : List (List Nat)} {d : List (List UInt64)} {kk : List Nat} {zz : List Nat} {n : Nat} : gI (M3I, l, r, d, kk, zz, n) 150 2 = (0 : Int32) := by
  show nt 0 (nt [] M3I 150) 2 = (0 : Int32)
  decide +kernel
theorem qf_72 : ¬ ((0 : Int32) = (12 : Int32)) := by decide
theorem qf_73 : ((0 : Int32) ≤ (0 : Int32)) := by decide
theorem qf_74 : 174 + 1 < KB := by decide
theorem ql_I_150_0 {l : List (List Int64)} {r : List (List Nat)} {d : List (List UInt64)} {kk : List Nat} {zz : List Nat} {n : Nat} : gI (M3I, l, r, d, kk, zz, n) 150 0 = (0 : Int32) := by
  show nt 0 (nt [] M3I 150) 0 = (0 : Int32)
  decide +kernel
theorem ql_R_150_1 {i : List (List Int32)} {l : List (List Int64)} {d : List (List UInt64)} {kk : List Nat} {zz : List Nat} {n : Nat} : gR (i, l, M3R, d, kk, zz, n) 150 1 = (KB + 20) := by
  show nt 0 (nt [] M3R 150) 1 = (KB + 20)
  decide +kernel
theorem qf_75 : ((KB + 20) = (KB + 20)) := by decide
theorem qf_76 : ((((KB + 20) < (KB + 0)) ∧ ((KB + 20) < (KB + 0))) ∨ ((KB + 20) = (KB + 20))) := by decide
theorem qf_77 : (if ((10 : Int32) < (1 : Int32)) then (1 : Int32) else (10 : Int32)) = (10 : Int32) := by decide
theorem qf_78 : ((10 : Int32) = (10 : Int32)) := by decide
theorem qf_79 : 175 + 1 < KB := by decide
theorem qf_80 : ¬ ((0 : Int32) < 0 ∨ 10 ≤ ((0 : Int32)).toNatClampNeg) := by decide
theorem ql_I_149_16 {l : List (List Int64)} {r : List (List Nat)} {d : List (List UInt64)} {kk : List Nat} {zz : List Nat} {n : Nat} : gI (M3I, l, r, d, kk, zz, n) 149 16 = (0 : Int32) := by
  show nt 0 (nt [] M3I 149) 16 = (0 : Int32)
  decide +kernel
theorem qf_81 : (lg_cmp (0 : Int64) (0 : Int64)) = (0 : Int32) := by decide
theorem qf_82 : ¬ ((16 : Int32) = (8 : Int32)) := by decide
theorem qf_83 : ((16 : Int32) = (16 : Int32)) := by decide
theorem qf_84 : ¬ ((32 : Int32) = (8 : Int32)) := by decide
theorem qf_85 : ¬ ((32 : Int32) = (16 : Int32)) := by decide
theorem qf_86 : ((32 : Int32) = (32 : Int32)) := by decide
theorem qf_87 : (0 = 0) := by decide
theorem qf_88 : ("java/lang/IndexOutOfBoundsException" = "java/lang/IndexOutOfBoundsException") := by decide
theorem qf_89 : ((0 : Int32) - (1 : Int32)) = (-1 : Int32) := by decide
theorem qf_90 : (0 : Int32).toInt = 0 := by decide
theorem qf_91 : (-1 : Int32).toInt = -1 := by decide
theorem ql_R_2_1 {i : List (List Int32)} {l : List (List Int64)} {d : List (List UInt64)} {kk : List Nat} {zz : List Nat} {n : Nat} : gR (i, l, M3R, d, kk, zz, n) 2 1 = 16 := by
  show nt 0 (nt [] M3R 2) 1 = 16
  decide +kernel
theorem ql_K_16 {i : List (List Int32)} {l : List (List Int64)} {r : List (List Nat)} {d : List (List UInt64)} {zz : List Nat} {n : Nat} : gK (i, l, r, d, M3K, zz, n) 16 = 34 := by
  show nt 0 M3K 16 = 34
  decide +kernel
theorem ql_Z_16 {i : List (List Int32)} {l : List (List Int64)} {r : List (List Nat)} {d : List (List UInt64)} {kk : List Nat} {n : Nat} : gZ (i, l, r, d, kk, M3Z, n) 16 = 4 := by
  show nt 0 M3Z 16 = 4
  decide +kernel
theorem qf_92 : Int32.ofNat 4 = (4 : Int32) := by decide
theorem qf_93 : (3 : Int32).toInt = 3 := by decide
theorem qf_94 : (4 : Int32).toInt = 4 := by decide
theorem qf_95 : (1 : Int32).toInt = 1 := by decide
theorem qf_96 : (2 : Int32).toInt = 2 := by decide
theorem qf_97 : ¬ ((0 : Int32) < 0 ∨ 4 ≤ ((0 : Int32)).toNatClampNeg) := by decide
theorem ql_R_16_0 {i : List (List Int32)} {l : List (List Int64)} {d : List (List UInt64)} {kk : List Nat} {zz : List Nat} {n : Nat} : gR (i, l, M3R, d, kk, zz, n) 16 0 = 17 := by
  show nt 0 (nt [] M3R 16) 0 = 17
  decide +kernel
theorem qf_98 : ¬ (17 = 0) := by decide
theorem qf_99 : ¬ ((1 : Int32) < 0 ∨ 4 ≤ ((1 : Int32)).toNatClampNeg) := by decide
theorem ql_R_16_1 {i : List (List Int32)} {l : List (List Int64)} {d : List (List UInt64)} {kk : List Nat} {zz : List Nat} {n : Nat} : gR (i, l, M3R, d, kk, zz, n) 16 1 = 25 := by
  show nt 0 (nt [] M3R 16) 1 = 25
  decide +kernel
theorem qf_100 : ¬ (25 = 0) := by decide
theorem qf_101 : ¬ ((3 : Int32) < (1 : Int32)) := by decide
theorem qf_102 : ¬ ((2 : Int32) < 0 ∨ 4 ≤ ((2 : Int32)).toNatClampNeg) := by decide
theorem ql_R_16_2 {i : List (List Int32)} {l : List (List Int64)} {d : List (List UInt64)} {kk : List Nat} {zz : List Nat} {n : Nat} : gR (i, l, M3R, d, kk, zz, n) 16 2 = 33 := by
  show nt 0 (nt [] M3R 16) 2 = 33
  decide +kernel
theorem qf_103 : ¬ (33 = 0) := by decide
theorem qf_104 : ¬ ((3 : Int32) < (2 : Int32)) := by decide
theorem qf_105 : ¬ ((3 : Int32) < 0 ∨ 4 ≤ ((3 : Int32)).toNatClampNeg) := by decide
theorem ql_R_16_3 {i : List (List Int32)} {l : List (List Int64)} {d : List (List UInt64)} {kk : List Nat} {zz : List Nat} {n : Nat} : gR (i, l, M3R, d, kk, zz, n) 16 3 = 41 := by
  show nt 0 (nt [] M3R 16) 3 = 41
  decide +kernel
theorem qf_106 : ¬ (41 = 0) := by decide
theorem qf_107 : ¬ ((3 : Int32) < (3 : Int32)) := by decide
theorem ql_K_17 {i : List (List Int32)} {l : List (List Int64)} {r : List (List Nat)} {d : List (List UInt64)} {zz : List Nat} {n : Nat} : gK (i, l, r, d, M3K, zz, n) 17 = 7 := by
  show nt 0 M3K 17 = 7
  decide +kernel
theorem ql_R_17_2 {i : List (List Int32)} {l : List (List Int64)} {d : List (List UInt64)} {kk : List Nat} {zz : List Nat} {n : Nat} : gR (i, l, M3R, d, kk, zz, n) 17 2 = 0 := by
  show nt 0 (nt [] M3R 17) 2 = 0
  decide +kernel
theorem qf_108 : ¬ ("java/lang/UnsupportedOperationException" = "java/lang/IndexOutOfBoundsException") := by decide
theorem qf_109 : ("java/lang/UnsupportedOperationException" = "java/lang/UnsupportedOperationException") := by decide
theorem ql_R_149_2 {i : List (List Int32)} {l : List (List Int64)} {d : List (List UInt64)} {kk : List Nat} {zz : List Nat} {n : Nat} : gR (i, l, M3R, d, kk, zz, n) 149 2 = 151 := by
  show nt 0 (nt [] M3R 149) 2 = 151
  decide +kernel
theorem ql_K_151 {i : List (List Int32)} {l : List (List Int64)} {r : List (List Nat)} {d : List (List UInt64)} {zz : List Nat} {n : Nat} : gK (i, l, r, d, M3K, zz, n) 151 = 37 := by
  show nt 0 M3K 151 = 37
  decide +kernel
theorem ql_Z_151 {i : List (List Int32)} {l : List (List Int64)} {r : List (List Nat)} {d : List (List UInt64)} {kk : List Nat} {n : Nat} : gZ (i, l, r, d, kk, M3Z, n) 151 = 4 := by
  show nt 0 M3Z 151 = 4
  decide +kernel
theorem ql_R_151_0 {i : List (List Int32)} {l : List (List Int64)} {d : List (List UInt64)} {kk : List Nat} {zz : List Nat} {n : Nat} : gR (i, l, M3R, d, kk, zz, n) 151 0 = 152 := by
  show nt 0 (nt [] M3R 151) 0 = 152
  decide +kernel
theorem ql_K_152 {i : List (List Int32)} {l : List (List Int64)} {r : List (List Nat)} {d : List (List UInt64)} {zz : List Nat} {n : Nat} : gK (i, l, r, d, M3K, zz, n) 152 = 17 := by
  show nt 0 M3K 152 = 17
  decide +kernel
theorem ql_R_152_0 {i : List (List Int32)} {l : List (List Int64)} {d : List (List UInt64)} {kk : List Nat} {zz : List Nat} {n : Nat} : gR (i, l, M3R, d, kk, zz, n) 152 0 = 0 := by
  show nt 0 (nt [] M3R 152) 0 = 0
  decide +kernel
theorem qf_110 : ¬ ((2 : Int32) ≤ (0 : Int32)) := by decide
theorem qf_111 : ((2 : Int32) = (2 : Int32)) := by decide
theorem qf_112 : ¬ ((2 : Int32) = (0 : Int32)) := by decide
theorem ql_K_25 {i : List (List Int32)} {l : List (List Int64)} {r : List (List Nat)} {d : List (List UInt64)} {zz : List Nat} {n : Nat} : gK (i, l, r, d, M3K, zz, n) 25 = 7 := by
  show nt 0 M3K 25 = 7
  decide +kernel
theorem ql_R_25_2 {i : List (List Int32)} {l : List (List Int64)} {d : List (List UInt64)} {kk : List Nat} {zz : List Nat} {n : Nat} : gR (i, l, M3R, d, kk, zz, n) 25 2 = 0 := by
  show nt 0 (nt [] M3R 25) 2 = 0
  decide +kernel
theorem ql_R_151_1 {i : List (List Int32)} {l : List (List Int64)} {d : List (List UInt64)} {kk : List Nat} {zz : List Nat} {n : Nat} : gR (i, l, M3R, d, kk, zz, n) 151 1 = 156 := by
  show nt 0 (nt [] M3R 151) 1 = 156
  decide +kernel
theorem ql_K_156 {i : List (List Int32)} {l : List (List Int64)} {r : List (List Nat)} {d : List (List UInt64)} {zz : List Nat} {n : Nat} : gK (i, l, r, d, M3K, zz, n) 156 = 17 := by
  show nt 0 M3K 156 = 17
  decide +kernel
theorem ql_R_156_0 {i : List (List Int32)} {l : List (List Int64)} {d : List (List UInt64)} {kk : List Nat} {zz : List Nat} {n : Nat} : gR (i, l, M3R, d, kk, zz, n) 156 0 = 0 := by
  show nt 0 (nt [] M3R 156) 0 = 0
  decide +kernel
theorem ql_K_33 {i : List (List Int32)} {l : List (List Int64)} {r : List (List Nat)} {d : List (List UInt64)} {zz : List Nat} {n : Nat} : gK (i, l, r, d, M3K, zz, n) 33 = 7 := by
  show nt 0 M3K 33 = 7
  decide +kernel
theorem ql_R_33_2 {i : List (List Int32)} {l : List (List Int64)} {d : List (List UInt64)} {kk : List Nat} {zz : List Nat} {n : Nat} : gR (i, l, M3R, d, kk, zz, n) 33 2 = 0 := by
  show nt 0 (nt [] M3R 33) 2 = 0
  decide +kernel
theorem ql_R_151_2 {i : List (List Int32)} {l : List (List Int64)} {d : List (List UInt64)} {kk : List Nat} {zz : List Nat} {n : Nat} : gR (i, l, M3R, d, kk, zz, n) 151 2 = 160 := by
  show nt 0 (nt [] M3R 151) 2 = 160
  decide +kernel
theorem ql_K_160 {i : List (List Int32)} {l : List (List Int64)} {r : List (List Nat)} {d : List (List UInt64)} {zz : List Nat} {n : Nat} : gK (i, l, r, d, M3K, zz, n) 160 = 17 := by
  show nt 0 M3K 160 = 17
  decide +kernel
theorem ql_R_160_0 {i : List (List Int32)} {l : List (List Int64)} {d : List (List UInt64)} {kk : List Nat} {zz : List Nat} {n : Nat} : gR (i, l, M3R, d, kk, zz, n) 160 0 = 0 := by
  show nt 0 (nt [] M3R 160) 0 = 0
  decide +kernel
theorem ql_K_41 {i : List (List Int32)} {l : List (List Int64)} {r : List (List Nat)} {d : List (List UInt64)} {zz : List Nat} {n : Nat} : gK (i, l, r, d, M3K, zz, n) 41 = 7 := by
  show nt 0 M3K 41 = 7
  decide +kernel
theorem ql_R_41_2 {i : List (List Int32)} {l : List (List Int64)} {d : List (List UInt64)} {kk : List Nat} {zz : List Nat} {n : Nat} : gR (i, l, M3R, d, kk, zz, n) 41 2 = 0 := by
  show nt 0 (nt [] M3R 41) 2 = 0
  decide +kernel
theorem ql_R_151_3 {i : List (List Int32)} {l : List (List Int64)} {d : List (List UInt64)} {kk : List Nat} {zz : List Nat} {n : Nat} : gR (i, l, M3R, d, kk, zz, n) 151 3 = 164 := by
  show nt 0 (nt [] M3R 151) 3 = 164
  decide +kernel
theorem ql_K_164 {i : List (List Int32)} {l : List (List Int64)} {r : List (List Nat)} {d : List (List UInt64)} {zz : List Nat} {n : Nat} : gK (i, l, r, d, M3K, zz, n) 164 = 17 := by
  show nt 0 M3K 164 = 17
  decide +kernel
theorem ql_R_164_0 {i : List (List Int32)} {l : List (List Int64)} {d : List (List UInt64)} {kk : List Nat} {zz : List Nat} {n : Nat} : gR (i, l, M3R, d, kk, zz, n) 164 0 = 0 := by
  show nt 0 (nt [] M3R 164) 0 = 0
  decide +kernel
theorem ql_I_17_5 {l : List (List Int64)} {r : List (List Nat)} {d : List (List UInt64)} {kk : List Nat} {zz : List Nat} {n : Nat} : gI (M3I, l, r, d, kk, zz, n) 17 5 = (0 : Int32) := by
  show nt 0 (nt [] M3I 17) 5 = (0 : Int32)
  decide +kernel
theorem ql_I_152_13 {l : List (List Int64)} {r : List (List Nat)} {d : List (List UInt64)} {kk : List Nat} {zz : List Nat} {n : Nat} : gI (M3I, l, r, d, kk, zz, n) 152 13 = (0 : Int32) := by
  show nt 0 (nt [] M3I 152) 13 = (0 : Int32)
  decide +kernel
theorem ql_I_25_5 {l : List (List Int64)} {r : List (List Nat)} {d : List (List UInt64)} {kk : List Nat} {zz : List Nat} {n : Nat} : gI (M3I, l, r, d, kk, zz, n) 25 5 = (0 : Int32) := by
  show nt 0 (nt [] M3I 25) 5 = (0 : Int32)
  decide +kernel
theorem ql_I_156_13 {l : List (List Int64)} {r : List (List Nat)} {d : List (List UInt64)} {kk : List Nat} {zz : List Nat} {n : Nat} : gI (M3I, l, r, d, kk, zz, n) 156 13 = (0 : Int32) := by
  show nt 0 (nt [] M3I 156) 13 = (0 : Int32)
  decide +kernel
theorem ql_I_33_5 {l : List (List Int64)} {r : List (List Nat)} {d : List (List UInt64)} {kk : List Nat} {zz : List Nat} {n : Nat} : gI (M3I, l, r, d, kk, zz, n) 33 5 = (0 : Int32) := by
  show nt 0 (nt [] M3I 33) 5 = (0 : Int32)
  decide +kernel
theorem ql_I_160_13 {l : List (List Int64)} {r : List (List Nat)} {d : List (List UInt64)} {kk : List Nat} {zz : List Nat} {n : Nat} : gI (M3I, l, r, d, kk, zz, n) 160 13 = (0 : Int32) := by
  show nt 0 (nt [] M3I 160) 13 = (0 : Int32)
  decide +kernel
theorem ql_I_41_5 {l : List (List Int64)} {r : List (List Nat)} {d : List (List UInt64)} {kk : List Nat} {zz : List Nat} {n : Nat} : gI (M3I, l, r, d, kk, zz, n) 41 5 = (0 : Int32) := by
  show nt 0 (nt [] M3I 41) 5 = (0 : Int32)
  decide +kernel
theorem ql_I_164_13 {l : List (List Int64)} {r : List (List Nat)} {d : List (List UInt64)} {kk : List Nat} {zz : List Nat} {n : Nat} : gI (M3I, l, r, d, kk, zz, n) 164 13 = (0 : Int32) := by
  show nt 0 (nt [] M3I 164) 13 = (0 : Int32)
  decide +kernel
theorem qf_113 : ¬ ("java/lang/IllegalArgumentException" = "java/lang/IndexOutOfBoundsException") := by decide
theorem ql_I_17_4 {l : List (List Int64)} {r : List (List Nat)} {d : List (List UInt64)} {kk : List Nat} {zz : List Nat} {n : Nat} : gI (M3I, l, r, d, kk, zz, n) 17 4 = (0 : Int32) := by
  show nt 0 (nt [] M3I 17) 4 = (0 : Int32)
  decide +kernel
theorem ql_I_152_2 {l : List (List Int64)} {r : List (List Nat)} {d : List (List UInt64)} {kk : List Nat} {zz : List Nat} {n : Nat} : gI (M3I, l, r, d, kk, zz, n) 152 2 = (0 : Int32) := by
  show nt 0 (nt [] M3I 152) 2 = (0 : Int32)
  decide +kernel
theorem ql_I_25_4 {l : List (List Int64)} {r : List (List Nat)} {d : List (List UInt64)} {kk : List Nat} {zz : List Nat} {n : Nat} : gI (M3I, l, r, d, kk, zz, n) 25 4 = (0 : Int32) := by
  show nt 0 (nt [] M3I 25) 4 = (0 : Int32)
  decide +kernel
theorem ql_I_156_2 {l : List (List Int64)} {r : List (List Nat)} {d : List (List UInt64)} {kk : List Nat} {zz : List Nat} {n : Nat} : gI (M3I, l, r, d, kk, zz, n) 156 2 = (0 : Int32) := by
  show nt 0 (nt [] M3I 156) 2 = (0 : Int32)
  decide +kernel
theorem ql_I_33_4 {l : List (List Int64)} {r : List (List Nat)} {d : List (List UInt64)} {kk : List Nat} {zz : List Nat} {n : Nat} : gI (M3I, l, r, d, kk, zz, n) 33 4 = (0 : Int32) := by
  show nt 0 (nt [] M3I 33) 4 = (0 : Int32)
  decide +kernel
theorem ql_I_160_2 {l : List (List Int64)} {r : List (List Nat)} {d : List (List UInt64)} {kk : List Nat} {zz : List Nat} {n : Nat} : gI (M3I, l, r, d, kk, zz, n) 160 2 = (0 : Int32) := by
  show nt 0 (nt [] M3I 160) 2 = (0 : Int32)
  decide +kernel
theorem ql_I_41_4 {l : List (List Int64)} {r : List (List Nat)} {d : List (List UInt64)} {kk : List Nat} {zz : List Nat} {n : Nat} : gI (M3I, l, r, d, kk, zz, n) 41 4 = (0 : Int32) := by
  show nt 0 (nt [] M3I 41) 4 = (0 : Int32)
  decide +kernel
theorem ql_I_164_2 {l : List (List Int64)} {r : List (List Nat)} {d : List (List UInt64)} {kk : List Nat} {zz : List Nat} {n : Nat} : gI (M3I, l, r, d, kk, zz, n) 164 2 = (0 : Int32) := by
  show nt 0 (nt [] M3I 164) 2 = (0 : Int32)
  decide +kernel
theorem qf_114 : ¬ ("java/lang/UnsupportedOperationException" = "java/lang/IllegalArgumentException") := by decide
theorem qf_115 : ¬ ((3 : Int32) ≤ (0 : Int32)) := by decide
theorem qf_116 : ((3 : Int32) = (3 : Int32)) := by decide
theorem qf_117 : ¬ ((3 : Int32) = (0 : Int32)) := by decide
theorem ql_I_17_8 {l : List (List Int64)} {r : List (List Nat)} {d : List (List UInt64)} {kk : List Nat} {zz : List Nat} {n : Nat} : gI (M3I, l, r, d, kk, zz, n) 17 8 = (-1 : Int32) := by
  show nt 0 (nt [] M3I 17) 8 = (-1 : Int32)
  decide +kernel
theorem qf_118 : ((-1 : Int32) = (-1 : Int32)) := by decide
theorem ql_L_152_12 {i : List (List Int32)} {r : List (List Nat)} {d : List (List UInt64)} {kk : List Nat} {zz : List Nat} {n : Nat} : gL (i, M3L, r, d, kk, zz, n) 152 12 = (0 : Int64) := by
  show nt 0 (nt [] M3L 152) 12 = (0 : Int64)
  decide +kernel
theorem ql_I_25_8 {l : List (List Int64)} {r : List (List Nat)} {d : List (List UInt64)} {kk : List Nat} {zz : List Nat} {n : Nat} : gI (M3I, l, r, d, kk, zz, n) 25 8 = (-1 : Int32) := by
  show nt 0 (nt [] M3I 25) 8 = (-1 : Int32)
  decide +kernel
theorem ql_L_156_12 {i : List (List Int32)} {r : List (List Nat)} {d : List (List UInt64)} {kk : List Nat} {zz : List Nat} {n : Nat} : gL (i, M3L, r, d, kk, zz, n) 156 12 = (0 : Int64) := by
  show nt 0 (nt [] M3L 156) 12 = (0 : Int64)
  decide +kernel
theorem ql_I_33_8 {l : List (List Int64)} {r : List (List Nat)} {d : List (List UInt64)} {kk : List Nat} {zz : List Nat} {n : Nat} : gI (M3I, l, r, d, kk, zz, n) 33 8 = (-1 : Int32) := by
  show nt 0 (nt [] M3I 33) 8 = (-1 : Int32)
  decide +kernel
theorem ql_L_160_12 {i : List (List Int32)} {r : List (List Nat)} {d : List (List UInt64)} {kk : List Nat} {zz : List Nat} {n : Nat} : gL (i, M3L, r, d, kk, zz, n) 160 12 = (0 : Int64) := by
  show nt 0 (nt [] M3L 160) 12 = (0 : Int64)
  decide +kernel
theorem ql_I_41_8 {l : List (List Int64)} {r : List (List Nat)} {d : List (List UInt64)} {kk : List Nat} {zz : List Nat} {n : Nat} : gI (M3I, l, r, d, kk, zz, n) 41 8 = (-1 : Int32) := by
  show nt 0 (nt [] M3I 41) 8 = (-1 : Int32)
  decide +kernel
theorem ql_L_164_12 {i : List (List Int32)} {r : List (List Nat)} {d : List (List UInt64)} {kk : List Nat} {zz : List Nat} {n : Nat} : gL (i, M3L, r, d, kk, zz, n) 164 12 = (0 : Int64) := by
  show nt 0 (nt [] M3L 164) 12 = (0 : Int64)
  decide +kernel
theorem qf_119 : ¬ ("java/util/NoSuchElementException" = "java/lang/IndexOutOfBoundsException") := by decide
theorem qf_120 : ("java/util/NoSuchElementException" = "java/util/NoSuchElementException") := by decide
theorem ql_R_17_0 {i : List (List Int32)} {l : List (List Int64)} {d : List (List UInt64)} {kk : List Nat} {zz : List Nat} {n : Nat} : gR (i, l, M3R, d, kk, zz, n) 17 0 = 18 := by
  show nt 0 (nt [] M3R 17) 0 = 18
  decide +kernel
theorem ql_K_18 {i : List (List Int32)} {l : List (List Int64)} {r : List (List Nat)} {d : List (List UInt64)} {zz : List Nat} {n : Nat} : gK (i, l, r, d, M3K, zz, n) 18 = 6 := by
  show nt 0 M3K 18 = 6
  decide +kernel
theorem ql_I_18_3 {l : List (List Int64)} {r : List (List Nat)} {d : List (List UInt64)} {kk : List Nat} {zz : List Nat} {n : Nat} : gI (M3I, l, r, d, kk, zz, n) 18 3 = (0 : Int32) := by
  show nt 0 (nt [] M3I 18) 3 = (0 : Int32)
  decide +kernel
theorem ql_I_152_5 {l : List (List Int64)} {r : List (List Nat)} {d : List (List UInt64)} {kk : List Nat} {zz : List Nat} {n : Nat} : gI (M3I, l, r, d, kk, zz, n) 152 5 = (0 : Int32) := by
  show nt 0 (nt [] M3I 152) 5 = (0 : Int32)
  decide +kernel
theorem ql_R_25_0 {i : List (List Int32)} {l : List (List Int64)} {d : List (List UInt64)} {kk : List Nat} {zz : List Nat} {n : Nat} : gR (i, l, M3R, d, kk, zz, n) 25 0 = 26 := by
  show nt 0 (nt [] M3R 25) 0 = 26
  decide +kernel
theorem ql_K_26 {i : List (List Int32)} {l : List (List Int64)} {r : List (List Nat)} {d : List (List UInt64)} {zz : List Nat} {n : Nat} : gK (i, l, r, d, M3K, zz, n) 26 = 6 := by
  show nt 0 M3K 26 = 6
  decide +kernel
theorem ql_I_26_3 {l : List (List Int64)} {r : List (List Nat)} {d : List (List UInt64)} {kk : List Nat} {zz : List Nat} {n : Nat} : gI (M3I, l, r, d, kk, zz, n) 26 3 = (0 : Int32) := by
  show nt 0 (nt [] M3I 26) 3 = (0 : Int32)
  decide +kernel
theorem ql_I_156_5 {l : List (List Int64)} {r : List (List Nat)} {d : List (List UInt64)} {kk : List Nat} {zz : List Nat} {n : Nat} : gI (M3I, l, r, d, kk, zz, n) 156 5 = (0 : Int32) := by
  show nt 0 (nt [] M3I 156) 5 = (0 : Int32)
  decide +kernel
theorem ql_R_33_0 {i : List (List Int32)} {l : List (List Int64)} {d : List (List UInt64)} {kk : List Nat} {zz : List Nat} {n : Nat} : gR (i, l, M3R, d, kk, zz, n) 33 0 = 34 := by
  show nt 0 (nt [] M3R 33) 0 = 34
  decide +kernel
theorem ql_K_34 {i : List (List Int32)} {l : List (List Int64)} {r : List (List Nat)} {d : List (List UInt64)} {zz : List Nat} {n : Nat} : gK (i, l, r, d, M3K, zz, n) 34 = 6 := by
  show nt 0 M3K 34 = 6
  decide +kernel
theorem ql_I_34_3 {l : List (List Int64)} {r : List (List Nat)} {d : List (List UInt64)} {kk : List Nat} {zz : List Nat} {n : Nat} : gI (M3I, l, r, d, kk, zz, n) 34 3 = (0 : Int32) := by
  show nt 0 (nt [] M3I 34) 3 = (0 : Int32)
  decide +kernel
theorem ql_I_160_5 {l : List (List Int64)} {r : List (List Nat)} {d : List (List UInt64)} {kk : List Nat} {zz : List Nat} {n : Nat} : gI (M3I, l, r, d, kk, zz, n) 160 5 = (0 : Int32) := by
  show nt 0 (nt [] M3I 160) 5 = (0 : Int32)
  decide +kernel
theorem ql_R_41_0 {i : List (List Int32)} {l : List (List Int64)} {d : List (List UInt64)} {kk : List Nat} {zz : List Nat} {n : Nat} : gR (i, l, M3R, d, kk, zz, n) 41 0 = 42 := by
  show nt 0 (nt [] M3R 41) 0 = 42
  decide +kernel
theorem ql_K_42 {i : List (List Int32)} {l : List (List Int64)} {r : List (List Nat)} {d : List (List UInt64)} {zz : List Nat} {n : Nat} : gK (i, l, r, d, M3K, zz, n) 42 = 6 := by
  show nt 0 M3K 42 = 6
  decide +kernel
theorem ql_I_42_3 {l : List (List Int64)} {r : List (List Nat)} {d : List (List UInt64)} {kk : List Nat} {zz : List Nat} {n : Nat} : gI (M3I, l, r, d, kk, zz, n) 42 3 = (0 : Int32) := by
  show nt 0 (nt [] M3I 42) 3 = (0 : Int32)
  decide +kernel
theorem ql_I_164_5 {l : List (List Int64)} {r : List (List Nat)} {d : List (List UInt64)} {kk : List Nat} {zz : List Nat} {n : Nat} : gI (M3I, l, r, d, kk, zz, n) 164 5 = (0 : Int32) := by
  show nt 0 (nt [] M3I 164) 5 = (0 : Int32)
  decide +kernel
theorem ql_R_18_0 {i : List (List Int32)} {l : List (List Int64)} {d : List (List UInt64)} {kk : List Nat} {zz : List Nat} {n : Nat} : gR (i, l, M3R, d, kk, zz, n) 18 0 = 19 := by
  show nt 0 (nt [] M3R 18) 0 = 19
  decide +kernel
theorem ql_K_19 {i : List (List Int32)} {l : List (List Int64)} {r : List (List Nat)} {d : List (List UInt64)} {zz : List Nat} {n : Nat} : gK (i, l, r, d, M3K, zz, n) 19 = 30 := by
  show nt 0 M3K 19 = 30
  decide +kernel
theorem ql_Z_19 {i : List (List Int32)} {l : List (List Int64)} {r : List (List Nat)} {d : List (List UInt64)} {kk : List Nat} {n : Nat} : gZ (i, l, r, d, kk, M3Z, n) 19 = 3 := by
  show nt 0 M3Z 19 = 3
  decide +kernel
theorem qf_121 : Int32.ofNat 3 = (3 : Int32) := by decide
theorem qf_122 : ¬ ((0 : Int32) < 0 ∨ 3 ≤ ((0 : Int32)).toNatClampNeg) := by decide
theorem ql_I_19_0 {l : List (List Int64)} {r : List (List Nat)} {d : List (List UInt64)} {kk : List Nat} {zz : List Nat} {n : Nat} : gI (M3I, l, r, d, kk, zz, n) 19 0 = (100 : Int32) := by
  show nt 0 (nt [] M3I 19) 0 = (100 : Int32)
  decide +kernel
theorem qf_123 : ((100 : Int32)).toInt64 = (100 : Int64) := by decide
theorem ql_R_152_6 {i : List (List Int32)} {l : List (List Int64)} {d : List (List UInt64)} {kk : List Nat} {zz : List Nat} {n : Nat} : gR (i, l, M3R, d, kk, zz, n) 152 6 = 153 := by
  show nt 0 (nt [] M3R 152) 6 = 153
  decide +kernel
theorem ql_K_153 {i : List (List Int32)} {l : List (List Int64)} {r : List (List Nat)} {d : List (List UInt64)} {zz : List Nat} {n : Nat} : gK (i, l, r, d, M3K, zz, n) 153 = 30 := by
  show nt 0 M3K 153 = 30
  decide +kernel
theorem ql_Z_153 {i : List (List Int32)} {l : List (List Int64)} {r : List (List Nat)} {d : List (List UInt64)} {kk : List Nat} {n : Nat} : gZ (i, l, r, d, kk, M3Z, n) 153 = 3 := by
  show nt 0 M3Z 153 = 3
  decide +kernel
theorem ql_I_153_0 {l : List (List Int64)} {r : List (List Nat)} {d : List (List UInt64)} {kk : List Nat} {zz : List Nat} {n : Nat} : gI (M3I, l, r, d, kk, zz, n) 153 0 = (100 : Int32) := by
  show nt 0 (nt [] M3I 153) 0 = (100 : Int32)
  decide +kernel
theorem qf_124 : (lg_cmp (100 : Int64) (100 : Int64)) = (0 : Int32) := by decide
theorem qf_125 : ¬ ((1 : Int32) < 0 ∨ 3 ≤ ((1 : Int32)).toNatClampNeg) := by decide
theorem ql_I_19_1 {l : List (List Int64)} {r : List (List Nat)} {d : List (List UInt64)} {kk : List Nat} {zz : List Nat} {n : Nat} : gI (M3I, l, r, d, kk, zz, n) 19 1 = (100 : Int32) := by
  show nt 0 (nt [] M3I 19) 1 = (100 : Int32)
  decide +kernel
theorem qf_126 : ¬ ((2 : Int32) < (1 : Int32)) := by decide
theorem ql_I_153_1 {l : List (List Int64)} {r : List (List Nat)} {d : List (List UInt64)} {kk : List Nat} {zz : List Nat} {n : Nat} : gI (M3I, l, r, d, kk, zz, n) 153 1 = (100 : Int32) := by
  show nt 0 (nt [] M3I 153) 1 = (100 : Int32)
  decide +kernel
theorem qf_127 : ¬ ((2 : Int32) < 0 ∨ 3 ≤ ((2 : Int32)).toNatClampNeg) := by decide
theorem ql_I_19_2 {l : List (List Int64)} {r : List (List Nat)} {d : List (List UInt64)} {kk : List Nat} {zz : List Nat} {n : Nat} : gI (M3I, l, r, d, kk, zz, n) 19 2 = (100 : Int32) := by
  show nt 0 (nt [] M3I 19) 2 = (100 : Int32)
  decide +kernel
theorem qf_128 : ¬ ((2 : Int32) < (2 : Int32)) := by decide
theorem ql_I_153_2 {l : List (List Int64)} {r : List (List Nat)} {d : List (List UInt64)} {kk : List Nat} {zz : List Nat} {n : Nat} : gI (M3I, l, r, d, kk, zz, n) 153 2 = (100 : Int32) := by
  show nt 0 (nt [] M3I 153) 2 = (100 : Int32)
  decide +kernel
theorem ql_R_26_0 {i : List (List Int32)} {l : List (List Int64)} {d : List (List UInt64)} {kk : List Nat} {zz : List Nat} {n : Nat} : gR (i, l, M3R, d, kk, zz, n) 26 0 = 27 := by
  show nt 0 (nt [] M3R 26) 0 = 27
  decide +kernel
theorem ql_K_27 {i : List (List Int32)} {l : List (List Int64)} {r : List (List Nat)} {d : List (List UInt64)} {zz : List Nat} {n : Nat} : gK (i, l, r, d, M3K, zz, n) 27 = 30 := by
  show nt 0 M3K 27 = 30
  decide +kernel
theorem ql_Z_27 {i : List (List Int32)} {l : List (List Int64)} {r : List (List Nat)} {d : List (List UInt64)} {kk : List Nat} {n : Nat} : gZ (i, l, r, d, kk, M3Z, n) 27 = 3 := by
  show nt 0 M3Z 27 = 3
  decide +kernel
theorem ql_I_27_0 {l : List (List Int64)} {r : List (List Nat)} {d : List (List UInt64)} {kk : List Nat} {zz : List Nat} {n : Nat} : gI (M3I, l, r, d, kk, zz, n) 27 0 = (100 : Int32) := by
  show nt 0 (nt [] M3I 27) 0 = (100 : Int32)
  decide +kernel
theorem ql_R_156_6 {i : List (List Int32)} {l : List (List Int64)} {d : List (List UInt64)} {kk : List Nat} {zz : List Nat} {n : Nat} : gR (i, l, M3R, d, kk, zz, n) 156 6 = 157 := by
  show nt 0 (nt [] M3R 156) 6 = 157
  decide +kernel
theorem ql_K_157 {i : List (List Int32)} {l : List (List Int64)} {r : List (List Nat)} {d : List (List UInt64)} {zz : List Nat} {n : Nat} : gK (i, l, r, d, M3K, zz, n) 157 = 30 := by
  show nt 0 M3K 157 = 30
  decide +kernel
theorem ql_Z_157 {i : List (List Int32)} {l : List (List Int64)} {r : List (List Nat)} {d : List (List UInt64)} {kk : List Nat} {n : Nat} : gZ (i, l, r, d, kk, M3Z, n) 157 = 3 := by
  show nt 0 M3Z 157 = 3
  decide +kernel
theorem ql_I_157_0 {l : List (List Int64)} {r : List (List Nat)} {d : List (List UInt64)} {kk : List Nat} {zz : List Nat} {n : Nat} : gI (M3I, l, r, d, kk, zz, n) 157 0 = (100 : Int32) := by
  show nt 0 (nt [] M3I 157) 0 = (100 : Int32)
  decide +kernel
theorem ql_I_27_1 {l : List (List Int64)} {r : List (List Nat)} {d : List (List UInt64)} {kk : List Nat} {zz : List Nat} {n : Nat} : gI (M3I, l, r, d, kk, zz, n) 27 1 = (100 : Int32) := by
  show nt 0 (nt [] M3I 27) 1 = (100 : Int32)
  decide +kernel
theorem ql_I_157_1 {l : List (List Int64)} {r : List (List Nat)} {d : List (List UInt64)} {kk : List Nat} {zz : List Nat} {n : Nat} : gI (M3I, l, r, d, kk, zz, n) 157 1 = (100 : Int32) := by
  show nt 0 (nt [] M3I 157) 1 = (100 : Int32)
  decide +kernel
theorem ql_I_27_2 {l : List (List Int64)} {r : List (List Nat)} {d : List (List UInt64)} {kk : List Nat} {zz : List Nat} {n : Nat} : gI (M3I, l, r, d, kk, zz, n) 27 2 = (100 : Int32) := by
  show nt 0 (nt [] M3I 27) 2 = (100 : Int32)
  decide +kernel
theorem ql_I_157_2 {l : List (List Int64)} {r : List (List Nat)} {d : List (List UInt64)} {kk : List Nat} {zz : List Nat} {n : Nat} : gI (M3I, l, r, d, kk, zz, n) 157 2 = (100 : Int32) := by
  show nt 0 (nt [] M3I 157) 2 = (100 : Int32)
  decide +kernel
theorem ql_R_34_0 {i : List (List Int32)} {l : List (List Int64)} {d : List (List UInt64)} {kk : List Nat} {zz : List Nat} {n : Nat} : gR (i, l, M3R, d, kk, zz, n) 34 0 = 35 := by
  show nt 0 (nt [] M3R 34) 0 = 35
  decide +kernel
theorem ql_K_35 {i : List (List Int32)} {l : List (List Int64)} {r : List (List Nat)} {d : List (List UInt64)} {zz : List Nat} {n : Nat} : gK (i, l, r, d, M3K, zz, n) 35 = 30 := by
  show nt 0 M3K 35 = 30
  decide +kernel
theorem ql_Z_35 {i : List (List Int32)} {l : List (List Int64)} {r : List (List Nat)} {d : List (List UInt64)} {kk : List Nat} {n : Nat} : gZ (i, l, r, d, kk, M3Z, n) 35 = 3 := by
  show nt 0 M3Z 35 = 3
  decide +kernel
theorem ql_I_35_0 {l : List (List Int64)} {r : List (List Nat)} {d : List (List UInt64)} {kk : List Nat} {zz : List Nat} {n : Nat} : gI (M3I, l, r, d, kk, zz, n) 35 0 = (100 : Int32) := by
  show nt 0 (nt [] M3I 35) 0 = (100 : Int32)
  decide +kernel
theorem ql_R_160_6 {i : List (List Int32)} {l : List (List Int64)} {d : List (List UInt64)} {kk : List Nat} {zz : List Nat} {n : Nat} : gR (i, l, M3R, d, kk, zz, n) 160 6 = 161 := by
  show nt 0 (nt [] M3R 160) 6 = 161
  decide +kernel
theorem ql_K_161 {i : List (List Int32)} {l : List (List Int64)} {r : List (List Nat)} {d : List (List UInt64)} {zz : List Nat} {n : Nat} : gK (i, l, r, d, M3K, zz, n) 161 = 30 := by
  show nt 0 M3K 161 = 30
  decide +kernel
theorem ql_Z_161 {i : List (List Int32)} {l : List (List Int64)} {r : List (List Nat)} {d : List (List UInt64)} {kk : List Nat} {n : Nat} : gZ (i, l, r, d, kk, M3Z, n) 161 = 3 := by
  show nt 0 M3Z 161 = 3
  decide +kernel
theorem ql_I_161_0 {l : List (List Int64)} {r : List (List Nat)} {d : List (List UInt64)} {kk : List Nat} {zz : List Nat} {n : Nat} : gI (M3I, l, r, d, kk, zz, n) 161 0 = (100 : Int32) := by
  show nt 0 (nt [] M3I 161) 0 = (100 : Int32)
  decide +kernel
theorem ql_I_35_1 {l : List (List Int64)} {r : List (List Nat)} {d : List (List UInt64)} {kk : List Nat} {zz : List Nat} {n : Nat} : gI (M3I, l, r, d, kk, zz, n) 35 1 = (100 : Int32) := by
  show nt 0 (nt [] M3I 35) 1 = (100 : Int32)
  decide +kernel
theorem ql_I_161_1 {l : List (List Int64)} {r : List (List Nat)} {d : List (List UInt64)} {kk : List Nat} {zz : List Nat} {n : Nat} : gI (M3I, l, r, d, kk, zz, n) 161 1 = (100 : Int32) := by
  show nt 0 (nt [] M3I 161) 1 = (100 : Int32)
  decide +kernel
theorem ql_I_35_2 {l : List (List Int64)} {r : List (List Nat)} {d : List (List UInt64)} {kk : List Nat} {zz : List Nat} {n : Nat} : gI (M3I, l, r, d, kk, zz, n) 35 2 = (100 : Int32) := by
  show nt 0 (nt [] M3I 35) 2 = (100 : Int32)
  decide +kernel
theorem ql_I_161_2 {l : List (List Int64)} {r : List (List Nat)} {d : List (List UInt64)} {kk : List Nat} {zz : List Nat} {n : Nat} : gI (M3I, l, r, d, kk, zz, n) 161 2 = (100 : Int32) := by
  show nt 0 (nt [] M3I 161) 2 = (100 : Int32)
  decide +kernel
theorem ql_R_42_0 {i : List (List Int32)} {l : List (List Int64)} {d : List (List UInt64)} {kk : List Nat} {zz : List Nat} {n : Nat} : gR (i, l, M3R, d, kk, zz, n) 42 0 = 43 := by
  show nt 0 (nt [] M3R 42) 0 = 43
  decide +kernel
theorem ql_K_43 {i : List (List Int32)} {l : List (List Int64)} {r : List (List Nat)} {d : List (List UInt64)} {zz : List Nat} {n : Nat} : gK (i, l, r, d, M3K, zz, n) 43 = 30 := by
  show nt 0 M3K 43 = 30
  decide +kernel
theorem ql_Z_43 {i : List (List Int32)} {l : List (List Int64)} {r : List (List Nat)} {d : List (List UInt64)} {kk : List Nat} {n : Nat} : gZ (i, l, r, d, kk, M3Z, n) 43 = 3 := by
  show nt 0 M3Z 43 = 3
  decide +kernel
theorem ql_I_43_0 {l : List (List Int64)} {r : List (List Nat)} {d : List (List UInt64)} {kk : List Nat} {zz : List Nat} {n : Nat} : gI (M3I, l, r, d, kk, zz, n) 43 0 = (100 : Int32) := by
  show nt 0 (nt [] M3I 43) 0 = (100 : Int32)
  decide +kernel
theorem ql_R_164_6 {i : List (List Int32)} {l : List (List Int64)} {d : List (List UInt64)} {kk : List Nat} {zz : List Nat} {n : Nat} : gR (i, l, M3R, d, kk, zz, n) 164 6 = 165 := by
  show nt 0 (nt [] M3R 164) 6 = 165
  decide +kernel
theorem ql_K_165 {i : List (List Int32)} {l : List (List Int64)} {r : List (List Nat)} {d : List (List UInt64)} {zz : List Nat} {n : Nat} : gK (i, l, r, d, M3K, zz, n) 165 = 30 := by
  show nt 0 M3K 165 = 30
  decide +kernel
theorem ql_Z_165 {i : List (List Int32)} {l : List (List Int64)} {r : List (List Nat)} {d : List (List UInt64)} {kk : List Nat} {n : Nat} : gZ (i, l, r, d, kk, M3Z, n) 165 = 3 := by
  show nt 0 M3Z 165 = 3
  decide +kernel
theorem ql_I_165_0 {l : List (List Int64)} {r : List (List Nat)} {d : List (List UInt64)} {kk : List Nat} {zz : List Nat} {n : Nat} : gI (M3I, l, r, d, kk, zz, n) 165 0 = (100 : Int32) := by
  show nt 0 (nt [] M3I 165) 0 = (100 : Int32)
  decide +kernel
theorem ql_I_43_1 {l : List (List Int64)} {r : List (List Nat)} {d : List (List UInt64)} {kk : List Nat} {zz : List Nat} {n : Nat} : gI (M3I, l, r, d, kk, zz, n) 43 1 = (100 : Int32) := by
  show nt 0 (nt [] M3I 43) 1 = (100 : Int32)
  decide +kernel
theorem ql_I_165_1 {l : List (List Int64)} {r : List (List Nat)} {d : List (List UInt64)} {kk : List Nat} {zz : List Nat} {n : Nat} : gI (M3I, l, r, d, kk, zz, n) 165 1 = (100 : Int32) := by
  show nt 0 (nt [] M3I 165) 1 = (100 : Int32)
  decide +kernel
theorem ql_I_43_2 {l : List (List Int64)} {r : List (List Nat)} {d : List (List UInt64)} {kk : List Nat} {zz : List Nat} {n : Nat} : gI (M3I, l, r, d, kk, zz, n) 43 2 = (100 : Int32) := by
  show nt 0 (nt [] M3I 43) 2 = (100 : Int32)
  decide +kernel
theorem ql_I_165_2 {l : List (List Int64)} {r : List (List Nat)} {d : List (List UInt64)} {kk : List Nat} {zz : List Nat} {n : Nat} : gI (M3I, l, r, d, kk, zz, n) 165 2 = (100 : Int32) := by
  show nt 0 (nt [] M3I 165) 2 = (100 : Int32)
  decide +kernel
theorem ql_I_18_4 {l : List (List Int64)} {r : List (List Nat)} {d : List (List UInt64)} {kk : List Nat} {zz : List Nat} {n : Nat} : gI (M3I, l, r, d, kk, zz, n) 18 4 = (109 : Int32) := by
  show nt 0 (nt [] M3I 18) 4 = (109 : Int32)
  decide +kernel
theorem qf_129 : ((((((((108 : Int32)).toUInt32).toUInt16).toUInt32).toInt32 = (108 : Int32)) ∧ ((0 : Int32) ≤ (108 : Int32))) ∧ ((108 : Int32) ≤ (65535 : Int32))) := by decide
theorem qf_130 : ((((((((109 : Int32)).toUInt32).toUInt16).toUInt32).toInt32 = (109 : Int32)) ∧ ((0 : Int32) ≤ (109 : Int32))) ∧ ((109 : Int32) ≤ (65535 : Int32))) := by decide
theorem qf_131 : ((109 : Int32)).toInt64 = (109 : Int64) := by decide
theorem qf_132 : (((KB + 0) ≤ (KB + 1)) ∧ ((KB + 1) < (KB + 3))) := by decide
theorem qf_133 : ¬ (KB + 1) < KB := by decide
theorem qf_134 : (KB + 1) + 10 = (KB + 11) := by decide
theorem qf_135 : (((KB + 10) ≤ (KB + 11)) ∧ ((KB + 11) < (KB + 13))) := by decide
theorem qf_136 : ¬ (KB + 11) < KB := by decide
theorem qf_137 : kLen.getD ((KB + 11) - (KB + 10)) 0 = 3 := by decide
theorem qf_138 : ((((0 : Int32)).toInt8).toInt32 = (0 : Int32)) := by decide
theorem qf_139 : ((3 : Int32) >>> ((0 : Int32) &&& (31 : Int32))) = (3 : Int32) := by decide
theorem qf_140 : ¬ ((108 : Int32) < (0 : Int32)) := by decide
theorem qf_141 : ¬ ((255 : Int32) < (108 : Int32)) := by decide
theorem qf_142 : (if ((0 : Int32) < (0 : Int32)) then (0 : Int32) else (0 : Int32)) = (0 : Int32) := by decide
theorem qf_143 : (if ((3 : Int32) < (3 : Int32)) then (3 : Int32) else (3 : Int32)) = (3 : Int32) := by decide
theorem qf_144 : ((0 : Int32) < (3 : Int32)) := by decide
theorem qf_145 : (((108 : Int32)).toInt8).toInt32 = (108 : Int32) := by decide
theorem qf_146 : (kByt.getD ((KB + 11) - (KB + 10)) []).getD 0 0 = (108 : Int32) := by decide
theorem qf_147 : ((108 : Int32) = (108 : Int32)) := by decide
theorem ql_I_152_15 {l : List (List Int64)} {r : List (List Nat)} {d : List (List UInt64)} {kk : List Nat} {zz : List Nat} {n : Nat} : gI (M3I, l, r, d, kk, zz, n) 152 15 = (109 : Int32) := by
  show nt 0 (nt [] M3I 152) 15 = (109 : Int32)
  decide +kernel
theorem qf_148 : (lg_cmp (109 : Int64) (109 : Int64)) = (0 : Int32) := by decide
theorem qf_149 : ¬ ((109 : Int32) < (0 : Int32)) := by decide
theorem qf_150 : ¬ ((255 : Int32) < (109 : Int32)) := by decide
theorem qf_151 : (((109 : Int32)).toInt8).toInt32 = (109 : Int32) := by decide
theorem qf_152 : ¬ ((108 : Int32) = (109 : Int32)) := by decide
theorem qf_153 : ((0 : Int32) + (Int32.ofInt ((1 : Int)))) = (1 : Int32) := by decide
theorem qf_154 : ¬ ((3 : Int32) ≤ (1 : Int32)) := by decide
theorem qf_155 : (kByt.getD ((KB + 11) - (KB + 10)) []).getD 1 0 = (109 : Int32) := by decide
theorem qf_156 : ((109 : Int32) = (109 : Int32)) := by decide
theorem qf_157 : ((0 : Int32) ≤ (1 : Int32)) := by decide
theorem qf_158 : ((((((((114 : Int32)).toUInt32).toUInt16).toUInt32).toInt32 = (114 : Int32)) ∧ ((0 : Int32) ≤ (114 : Int32))) ∧ ((114 : Int32) ≤ (65535 : Int32))) := by decide
theorem qf_159 : ¬ ((114 : Int32) < (0 : Int32)) := by decide
theorem qf_160 : ¬ ((255 : Int32) < (114 : Int32)) := by decide
theorem qf_161 : (((114 : Int32)).toInt8).toInt32 = (114 : Int32) := by decide
theorem qf_162 : ¬ ((108 : Int32) = (114 : Int32)) := by decide
theorem qf_163 : ¬ ((109 : Int32) = (114 : Int32)) := by decide
theorem qf_164 : ((1 : Int32) + (Int32.ofInt ((1 : Int)))) = (2 : Int32) := by decide
theorem qf_165 : ¬ ((3 : Int32) ≤ (2 : Int32)) := by decide
theorem qf_166 : (kByt.getD ((KB + 11) - (KB + 10)) []).getD 2 0 = (114 : Int32) := by decide
theorem qf_167 : ((114 : Int32) = (114 : Int32)) := by decide
theorem qf_168 : ((0 : Int32) ≤ (2 : Int32)) := by decide
theorem qf_169 : (108 : Int32).toInt = 108 := by decide
theorem qf_170 : (109 : Int32).toInt = 109 := by decide
theorem qf_171 : (114 : Int32).toInt = 114 := by decide
theorem qf_172 : (65535 : Int32).toInt = 65535 := by decide
theorem qf_173 : ¬ ((0 : Int32) ≤ (-1 : Int32)) := by decide
theorem qf_174 : 0 ≤ (108 : Int32).toInt ∧ (108 : Int32).toInt ≤ 127 := by decide
theorem qf_175 : 0 ≤ (109 : Int32).toInt ∧ (109 : Int32).toInt ≤ 127 := by decide
theorem qf_176 : 0 ≤ (114 : Int32).toInt ∧ (114 : Int32).toInt ≤ 127 := by decide
theorem qf_177 : ((2 : Int32) + (Int32.ofInt ((1 : Int)))) = (3 : Int32) := by decide
theorem qf_178 : ((3 : Int32) ≤ (3 : Int32)) := by decide
theorem ql_I_26_4 {l : List (List Int64)} {r : List (List Nat)} {d : List (List UInt64)} {kk : List Nat} {zz : List Nat} {n : Nat} : gI (M3I, l, r, d, kk, zz, n) 26 4 = (109 : Int32) := by
  show nt 0 (nt [] M3I 26) 4 = (109 : Int32)
  decide +kernel
theorem ql_I_156_15 {l : List (List Int64)} {r : List (List Nat)} {d : List (List UInt64)} {kk : List Nat} {zz : List Nat} {n : Nat} : gI (M3I, l, r, d, kk, zz, n) 156 15 = (109 : Int32) := by
  show nt 0 (nt [] M3I 156) 15 = (109 : Int32)
  decide +kernel
theorem ql_I_34_4 {l : List (List Int64)} {r : List (List Nat)} {d : List (List UInt64)} {kk : List Nat} {zz : List Nat} {n : Nat} : gI (M3I, l, r, d, kk, zz, n) 34 4 = (109 : Int32) := by
  show nt 0 (nt [] M3I 34) 4 = (109 : Int32)
  decide +kernel
theorem ql_I_160_15 {l : List (List Int64)} {r : List (List Nat)} {d : List (List UInt64)} {kk : List Nat} {zz : List Nat} {n : Nat} : gI (M3I, l, r, d, kk, zz, n) 160 15 = (109 : Int32) := by
  show nt 0 (nt [] M3I 160) 15 = (109 : Int32)
  decide +kernel
theorem ql_I_42_4 {l : List (List Int64)} {r : List (List Nat)} {d : List (List UInt64)} {kk : List Nat} {zz : List Nat} {n : Nat} : gI (M3I, l, r, d, kk, zz, n) 42 4 = (109 : Int32) := by
  show nt 0 (nt [] M3I 42) 4 = (109 : Int32)
  decide +kernel
theorem ql_I_164_15 {l : List (List Int64)} {r : List (List Nat)} {d : List (List UInt64)} {kk : List Nat} {zz : List Nat} {n : Nat} : gI (M3I, l, r, d, kk, zz, n) 164 15 = (109 : Int32) := by
  show nt 0 (nt [] M3I 164) 15 = (109 : Int32)
  decide +kernel
theorem ql_I_2_5 {l : List (List Int64)} {r : List (List Nat)} {d : List (List UInt64)} {kk : List Nat} {zz : List Nat} {n : Nat} : gI (M3I, l, r, d, kk, zz, n) 2 5 = (0 : Int32) := by
  show nt 0 (nt [] M3I 2) 5 = (0 : Int32)
  decide +kernel
theorem ql_I_149_8 {l : List (List Int64)} {r : List (List Nat)} {d : List (List UInt64)} {kk : List Nat} {zz : List Nat} {n : Nat} : gI (M3I, l, r, d, kk, zz, n) 149 8 = (0 : Int32) := by
  show nt 0 (nt [] M3I 149) 8 = (0 : Int32)
  decide +kernel
theorem qf_179 : ¬ ((109 : Int32) = (108 : Int32)) := by decide
theorem qf_180 : (((KB + 0) ≤ (KB + 2)) ∧ ((KB + 2) < (KB + 3))) := by decide
theorem qf_181 : ¬ (KB + 2) < KB := by decide
theorem qf_182 : (KB + 2) + 10 = (KB + 12) := by decide
theorem qf_183 : (((KB + 10) ≤ (KB + 12)) ∧ ((KB + 12) < (KB + 13))) := by decide
theorem qf_184 : ¬ (KB + 12) < KB := by decide
theorem qf_185 : kLen.getD ((KB + 12) - (KB + 10)) 0 = 3 := by decide
theorem qf_186 : ¬ ((101 : Int32) < (0 : Int32)) := by decide
theorem qf_187 : ¬ ((255 : Int32) < (101 : Int32)) := by decide
theorem qf_188 : (((101 : Int32)).toInt8).toInt32 = (101 : Int32) := by decide
theorem qf_189 : (kByt.getD ((KB + 12) - (KB + 10)) []).getD 0 0 = (101 : Int32) := by decide
theorem qf_190 : ((101 : Int32) = (101 : Int32)) := by decide
theorem ql_I_18_2 {l : List (List Int64)} {r : List (List Nat)} {d : List (List UInt64)} {kk : List Nat} {zz : List Nat} {n : Nat} : gI (M3I, l, r, d, kk, zz, n) 18 2 = (0 : Int32) := by
  show nt 0 (nt [] M3I 18) 2 = (0 : Int32)
  decide +kernel
theorem ql_R_18_1 {i : List (List Int32)} {l : List (List Int64)} {d : List (List UInt64)} {kk : List Nat} {zz : List Nat} {n : Nat} : gR (i, l, M3R, d, kk, zz, n) 18 1 = 20 := by
  show nt 0 (nt [] M3R 18) 1 = 20
  decide +kernel
theorem ql_K_20 {i : List (List Int32)} {l : List (List Int64)} {r : List (List Nat)} {d : List (List UInt64)} {zz : List Nat} {n : Nat} : gK (i, l, r, d, M3K, zz, n) 20 = 35 := by
  show nt 0 M3K 20 = 35
  decide +kernel
theorem ql_Z_20 {i : List (List Int32)} {l : List (List Int64)} {r : List (List Nat)} {d : List (List UInt64)} {kk : List Nat} {n : Nat} : gZ (i, l, r, d, kk, M3Z, n) 20 = 3 := by
  show nt 0 M3Z 20 = 3
  decide +kernel
theorem ql_R_20_0 {i : List (List Int32)} {l : List (List Int64)} {d : List (List UInt64)} {kk : List Nat} {zz : List Nat} {n : Nat} : gR (i, l, M3R, d, kk, zz, n) 20 0 = 21 := by
  show nt 0 (nt [] M3R 20) 0 = 21
  decide +kernel
theorem ql_K_21 {i : List (List Int32)} {l : List (List Int64)} {r : List (List Nat)} {d : List (List UInt64)} {zz : List Nat} {n : Nat} : gK (i, l, r, d, M3K, zz, n) 21 = 9 := by
  show nt 0 M3K 21 = 9
  decide +kernel
theorem qf_191 : ((((((((101 : Int32)).toUInt32).toUInt16).toUInt32).toInt32 = (101 : Int32)) ∧ ((0 : Int32) ≤ (101 : Int32))) ∧ ((101 : Int32) ≤ (65535 : Int32))) := by decide
theorem qf_192 : ((1 : Int32)).toInt64 = (1 : Int64) := by decide
theorem ql_R_152_8 {i : List (List Int32)} {l : List (List Int64)} {d : List (List UInt64)} {kk : List Nat} {zz : List Nat} {n : Nat} : gR (i, l, M3R, d, kk, zz, n) 152 8 = 155 := by
  show nt 0 (nt [] M3R 152) 8 = 155
  decide +kernel
theorem ql_K_155 {i : List (List Int32)} {l : List (List Int64)} {r : List (List Nat)} {d : List (List UInt64)} {zz : List Nat} {n : Nat} : gK (i, l, r, d, M3K, zz, n) 155 = 5 := by
  show nt 0 M3K 155 = 5
  decide +kernel
theorem ql_I_155_2 {l : List (List Int64)} {r : List (List Nat)} {d : List (List UInt64)} {kk : List Nat} {zz : List Nat} {n : Nat} : gI (M3I, l, r, d, kk, zz, n) 155 2 = (0 : Int32) := by
  show nt 0 (nt [] M3I 155) 2 = (0 : Int32)
  decide +kernel
theorem qf_193 : ¬ ((0 : Int32) = (3 : Int32)) := by decide
theorem ql_I_155_0 {l : List (List Int64)} {r : List (List Nat)} {d : List (List UInt64)} {kk : List Nat} {zz : List Nat} {n : Nat} : gI (M3I, l, r, d, kk, zz, n) 155 0 = (0 : Int32) := by
  show nt 0 (nt [] M3I 155) 0 = (0 : Int32)
  decide +kernel
theorem ql_R_155_1 {i : List (List Int32)} {l : List (List Int64)} {d : List (List UInt64)} {kk : List Nat} {zz : List Nat} {n : Nat} : gR (i, l, M3R, d, kk, zz, n) 155 1 = (KB + 20) := by
  show nt 0 (nt [] M3R 155) 1 = (KB + 20)
  decide +kernel
theorem qf_194 : ¬ 30 = 18 := by decide
theorem qf_195 : (lg_cmp (1 : Int64) (1 : Int64)) = (0 : Int32) := by decide
theorem qf_196 : ¬ ((101 : Int32) = (114 : Int32)) := by decide
theorem qf_197 : (kByt.getD ((KB + 12) - (KB + 10)) []).getD 1 0 = (114 : Int32) := by decide
theorem qf_198 : ¬ ((99 : Int32) < (0 : Int32)) := by decide
theorem qf_199 : ¬ ((255 : Int32) < (99 : Int32)) := by decide
theorem qf_200 : (((99 : Int32)).toInt8).toInt32 = (99 : Int32) := by decide
theorem qf_201 : ¬ ((101 : Int32) = (99 : Int32)) := by decide
theorem qf_202 : ¬ ((114 : Int32) = (99 : Int32)) := by decide
theorem qf_203 : (kByt.getD ((KB + 12) - (KB + 10)) []).getD 2 0 = (99 : Int32) := by decide
theorem qf_204 : ((99 : Int32) = (99 : Int32)) := by decide
theorem qf_205 : ((((((((99 : Int32)).toUInt32).toUInt16).toUInt32).toInt32 = (99 : Int32)) ∧ ((0 : Int32) ≤ (99 : Int32))) ∧ ((99 : Int32) ≤ (65535 : Int32))) := by decide
theorem qf_206 : (99 : Int32).toInt = 99 := by decide
theorem qf_207 : (101 : Int32).toInt = 101 := by decide
theorem qf_208 : ((-1 : Int32) < (0 : Int32)) := by decide
theorem qf_209 : 0 ≤ (101 : Int32).toInt ∧ (101 : Int32).toInt ≤ 127 := by decide
theorem qf_210 : 0 ≤ (99 : Int32).toInt ∧ (99 : Int32).toInt ≤ 127 := by decide
theorem ql_I_26_2 {l : List (List Int64)} {r : List (List Nat)} {d : List (List UInt64)} {kk : List Nat} {zz : List Nat} {n : Nat} : gI (M3I, l, r, d, kk, zz, n) 26 2 = (0 : Int32) := by
  show nt 0 (nt [] M3I 26) 2 = (0 : Int32)
  decide +kernel
theorem ql_R_26_1 {i : List (List Int32)} {l : List (List Int64)} {d : List (List UInt64)} {kk : List Nat} {zz : List Nat} {n : Nat} : gR (i, l, M3R, d, kk, zz, n) 26 1 = 28 := by
  show nt 0 (nt [] M3R 26) 1 = 28
  decide +kernel
theorem ql_K_28 {i : List (List Int32)} {l : List (List Int64)} {r : List (List Nat)} {d : List (List UInt64)} {zz : List Nat} {n : Nat} : gK (i, l, r, d, M3K, zz, n) 28 = 35 := by
  show nt 0 M3K 28 = 35
  decide +kernel
theorem ql_Z_28 {i : List (List Int32)} {l : List (List Int64)} {r : List (List Nat)} {d : List (List UInt64)} {kk : List Nat} {n : Nat} : gZ (i, l, r, d, kk, M3Z, n) 28 = 3 := by
  show nt 0 M3Z 28 = 3
  decide +kernel
theorem ql_R_28_0 {i : List (List Int32)} {l : List (List Int64)} {d : List (List UInt64)} {kk : List Nat} {zz : List Nat} {n : Nat} : gR (i, l, M3R, d, kk, zz, n) 28 0 = 29 := by
  show nt 0 (nt [] M3R 28) 0 = 29
  decide +kernel
theorem ql_K_29 {i : List (List Int32)} {l : List (List Int64)} {r : List (List Nat)} {d : List (List UInt64)} {zz : List Nat} {n : Nat} : gK (i, l, r, d, M3K, zz, n) 29 = 9 := by
  show nt 0 M3K 29 = 9
  decide +kernel
theorem ql_R_156_8 {i : List (List Int32)} {l : List (List Int64)} {d : List (List UInt64)} {kk : List Nat} {zz : List Nat} {n : Nat} : gR (i, l, M3R, d, kk, zz, n) 156 8 = 159 := by
  show nt 0 (nt [] M3R 156) 8 = 159
  decide +kernel
theorem ql_K_159 {i : List (List Int32)} {l : List (List Int64)} {r : List (List Nat)} {d : List (List UInt64)} {zz : List Nat} {n : Nat} : gK (i, l, r, d, M3K, zz, n) 159 = 5 := by
  show nt 0 M3K 159 = 5
  decide +kernel
theorem ql_I_159_2 {l : List (List Int64)} {r : List (List Nat)} {d : List (List UInt64)} {kk : List Nat} {zz : List Nat} {n : Nat} : gI (M3I, l, r, d, kk, zz, n) 159 2 = (0 : Int32) := by
  show nt 0 (nt [] M3I 159) 2 = (0 : Int32)
  decide +kernel
theorem ql_I_159_0 {l : List (List Int64)} {r : List (List Nat)} {d : List (List UInt64)} {kk : List Nat} {zz : List Nat} {n : Nat} : gI (M3I, l, r, d, kk, zz, n) 159 0 = (0 : Int32) := by
  show nt 0 (nt [] M3I 159) 0 = (0 : Int32)
  decide +kernel
theorem ql_R_159_1 {i : List (List Int32)} {l : List (List Int64)} {d : List (List UInt64)} {kk : List Nat} {zz : List Nat} {n : Nat} : gR (i, l, M3R, d, kk, zz, n) 159 1 = (KB + 20) := by
  show nt 0 (nt [] M3R 159) 1 = (KB + 20)
  decide +kernel
theorem ql_I_34_2 {l : List (List Int64)} {r : List (List Nat)} {d : List (List UInt64)} {kk : List Nat} {zz : List Nat} {n : Nat} : gI (M3I, l, r, d, kk, zz, n) 34 2 = (0 : Int32) := by
  show nt 0 (nt [] M3I 34) 2 = (0 : Int32)
  decide +kernel
theorem ql_R_34_1 {i : List (List Int32)} {l : List (List Int64)} {d : List (List UInt64)} {kk : List Nat} {zz : List Nat} {n : Nat} : gR (i, l, M3R, d, kk, zz, n) 34 1 = 36 := by
  show nt 0 (nt [] M3R 34) 1 = 36
  decide +kernel
theorem ql_K_36 {i : List (List Int32)} {l : List (List Int64)} {r : List (List Nat)} {d : List (List UInt64)} {zz : List Nat} {n : Nat} : gK (i, l, r, d, M3K, zz, n) 36 = 35 := by
  show nt 0 M3K 36 = 35
  decide +kernel
theorem ql_Z_36 {i : List (List Int32)} {l : List (List Int64)} {r : List (List Nat)} {d : List (List UInt64)} {kk : List Nat} {n : Nat} : gZ (i, l, r, d, kk, M3Z, n) 36 = 3 := by
  show nt 0 M3Z 36 = 3
  decide +kernel
theorem ql_R_36_0 {i : List (List Int32)} {l : List (List Int64)} {d : List (List UInt64)} {kk : List Nat} {zz : List Nat} {n : Nat} : gR (i, l, M3R, d, kk, zz, n) 36 0 = 37 := by
  show nt 0 (nt [] M3R 36) 0 = 37
  decide +kernel
theorem ql_K_37 {i : List (List Int32)} {l : List (List Int64)} {r : List (List Nat)} {d : List (List UInt64)} {zz : List Nat} {n : Nat} : gK (i, l, r, d, M3K, zz, n) 37 = 9 := by
  show nt 0 M3K 37 = 9
  decide +kernel
theorem ql_R_160_8 {i : List (List Int32)} {l : List (List Int64)} {d : List (List UInt64)} {kk : List Nat} {zz : List Nat} {n : Nat} : gR (i, l, M3R, d, kk, zz, n) 160 8 = 163 := by
  show nt 0 (nt [] M3R 160) 8 = 163
  decide +kernel
theorem ql_K_163 {i : List (List Int32)} {l : List (List Int64)} {r : List (List Nat)} {d : List (List UInt64)} {zz : List Nat} {n : Nat} : gK (i, l, r, d, M3K, zz, n) 163 = 5 := by
  show nt 0 M3K 163 = 5
  decide +kernel
theorem ql_I_163_2 {l : List (List Int64)} {r : List (List Nat)} {d : List (List UInt64)} {kk : List Nat} {zz : List Nat} {n : Nat} : gI (M3I, l, r, d, kk, zz, n) 163 2 = (0 : Int32) := by
  show nt 0 (nt [] M3I 163) 2 = (0 : Int32)
  decide +kernel
theorem ql_I_163_0 {l : List (List Int64)} {r : List (List Nat)} {d : List (List UInt64)} {kk : List Nat} {zz : List Nat} {n : Nat} : gI (M3I, l, r, d, kk, zz, n) 163 0 = (0 : Int32) := by
  show nt 0 (nt [] M3I 163) 0 = (0 : Int32)
  decide +kernel
theorem ql_R_163_1 {i : List (List Int32)} {l : List (List Int64)} {d : List (List UInt64)} {kk : List Nat} {zz : List Nat} {n : Nat} : gR (i, l, M3R, d, kk, zz, n) 163 1 = (KB + 20) := by
  show nt 0 (nt [] M3R 163) 1 = (KB + 20)
  decide +kernel
theorem ql_I_42_2 {l : List (List Int64)} {r : List (List Nat)} {d : List (List UInt64)} {kk : List Nat} {zz : List Nat} {n : Nat} : gI (M3I, l, r, d, kk, zz, n) 42 2 = (0 : Int32) := by
  show nt 0 (nt [] M3I 42) 2 = (0 : Int32)
  decide +kernel
theorem ql_R_42_1 {i : List (List Int32)} {l : List (List Int64)} {d : List (List UInt64)} {kk : List Nat} {zz : List Nat} {n : Nat} : gR (i, l, M3R, d, kk, zz, n) 42 1 = 44 := by
  show nt 0 (nt [] M3R 42) 1 = 44
  decide +kernel
theorem ql_K_44 {i : List (List Int32)} {l : List (List Int64)} {r : List (List Nat)} {d : List (List UInt64)} {zz : List Nat} {n : Nat} : gK (i, l, r, d, M3K, zz, n) 44 = 35 := by
  show nt 0 M3K 44 = 35
  decide +kernel
theorem ql_Z_44 {i : List (List Int32)} {l : List (List Int64)} {r : List (List Nat)} {d : List (List UInt64)} {kk : List Nat} {n : Nat} : gZ (i, l, r, d, kk, M3Z, n) 44 = 3 := by
  show nt 0 M3Z 44 = 3
  decide +kernel
theorem ql_R_44_0 {i : List (List Int32)} {l : List (List Int64)} {d : List (List UInt64)} {kk : List Nat} {zz : List Nat} {n : Nat} : gR (i, l, M3R, d, kk, zz, n) 44 0 = 45 := by
  show nt 0 (nt [] M3R 44) 0 = 45
  decide +kernel
theorem ql_K_45 {i : List (List Int32)} {l : List (List Int64)} {r : List (List Nat)} {d : List (List UInt64)} {zz : List Nat} {n : Nat} : gK (i, l, r, d, M3K, zz, n) 45 = 9 := by
  show nt 0 M3K 45 = 9
  decide +kernel
theorem ql_R_164_8 {i : List (List Int32)} {l : List (List Int64)} {d : List (List UInt64)} {kk : List Nat} {zz : List Nat} {n : Nat} : gR (i, l, M3R, d, kk, zz, n) 164 8 = 167 := by
  show nt 0 (nt [] M3R 164) 8 = 167
  decide +kernel
theorem ql_K_167 {i : List (List Int32)} {l : List (List Int64)} {r : List (List Nat)} {d : List (List UInt64)} {zz : List Nat} {n : Nat} : gK (i, l, r, d, M3K, zz, n) 167 = 5 := by
  show nt 0 M3K 167 = 5
  decide +kernel
theorem ql_I_167_2 {l : List (List Int64)} {r : List (List Nat)} {d : List (List UInt64)} {kk : List Nat} {zz : List Nat} {n : Nat} : gI (M3I, l, r, d, kk, zz, n) 167 2 = (0 : Int32) := by
  show nt 0 (nt [] M3I 167) 2 = (0 : Int32)
  decide +kernel
theorem ql_I_167_0 {l : List (List Int64)} {r : List (List Nat)} {d : List (List UInt64)} {kk : List Nat} {zz : List Nat} {n : Nat} : gI (M3I, l, r, d, kk, zz, n) 167 0 = (0 : Int32) := by
  show nt 0 (nt [] M3I 167) 0 = (0 : Int32)
  decide +kernel
theorem ql_R_167_1 {i : List (List Int32)} {l : List (List Int64)} {d : List (List UInt64)} {kk : List Nat} {zz : List Nat} {n : Nat} : gR (i, l, M3R, d, kk, zz, n) 167 1 = (KB + 20) := by
  show nt 0 (nt [] M3R 167) 1 = (KB + 20)
  decide +kernel
theorem ql_I_2_8 {l : List (List Int64)} {r : List (List Nat)} {d : List (List UInt64)} {kk : List Nat} {zz : List Nat} {n : Nat} : gI (M3I, l, r, d, kk, zz, n) 2 8 = (0 : Int32) := by
  show nt 0 (nt [] M3I 2) 8 = (0 : Int32)
  decide +kernel
theorem ql_I_2_7 {l : List (List Int64)} {r : List (List Nat)} {d : List (List UInt64)} {kk : List Nat} {zz : List Nat} {n : Nat} : gI (M3I, l, r, d, kk, zz, n) 2 7 = (0 : Int32) := by
  show nt 0 (nt [] M3I 2) 7 = (0 : Int32)
  decide +kernel
theorem ql_I_50_0 {l : List (List Int64)} {r : List (List Nat)} {d : List (List UInt64)} {kk : List Nat} {zz : List Nat} {n : Nat} : gI (M3I, l, r, d, kk, zz, n) 50 0 = (20 : Int32) := by
  show nt 0 (nt [] M3I 50) 0 = (20 : Int32)
  decide +kernel
theorem ql_I_50_1 {l : List (List Int64)} {r : List (List Nat)} {d : List (List UInt64)} {kk : List Nat} {zz : List Nat} {n : Nat} : gI (M3I, l, r, d, kk, zz, n) 50 1 = (20 : Int32) := by
  show nt 0 (nt [] M3I 50) 1 = (20 : Int32)
  decide +kernel
theorem ql_I_50_2 {l : List (List Int64)} {r : List (List Nat)} {d : List (List UInt64)} {kk : List Nat} {zz : List Nat} {n : Nat} : gI (M3I, l, r, d, kk, zz, n) 50 2 = (20 : Int32) := by
  show nt 0 (nt [] M3I 50) 2 = (20 : Int32)
  decide +kernel
theorem ql_I_50_3 {l : List (List Int64)} {r : List (List Nat)} {d : List (List UInt64)} {kk : List Nat} {zz : List Nat} {n : Nat} : gI (M3I, l, r, d, kk, zz, n) 50 3 = (20 : Int32) := by
  show nt 0 (nt [] M3I 50) 3 = (20 : Int32)
  decide +kernel
theorem ql_I_50_4 {l : List (List Int64)} {r : List (List Nat)} {d : List (List UInt64)} {kk : List Nat} {zz : List Nat} {n : Nat} : gI (M3I, l, r, d, kk, zz, n) 50 4 = (20 : Int32) := by
  show nt 0 (nt [] M3I 50) 4 = (20 : Int32)
  decide +kernel
theorem ql_I_50_5 {l : List (List Int64)} {r : List (List Nat)} {d : List (List UInt64)} {kk : List Nat} {zz : List Nat} {n : Nat} : gI (M3I, l, r, d, kk, zz, n) 50 5 = (20 : Int32) := by
  show nt 0 (nt [] M3I 50) 5 = (20 : Int32)
  decide +kernel
theorem ql_I_149_11 {l : List (List Int64)} {r : List (List Nat)} {d : List (List UInt64)} {kk : List Nat} {zz : List Nat} {n : Nat} : gI (M3I, l, r, d, kk, zz, n) 149 11 = (0 : Int32) := by
  show nt 0 (nt [] M3I 149) 11 = (0 : Int32)
  decide +kernel
theorem ql_I_149_0 {l : List (List Int64)} {r : List (List Nat)} {d : List (List UInt64)} {kk : List Nat} {zz : List Nat} {n : Nat} : gI (M3I, l, r, d, kk, zz, n) 149 0 = (0 : Int32) := by
  show nt 0 (nt [] M3I 149) 0 = (0 : Int32)
  decide +kernel
theorem ql_I_149_9 {l : List (List Int64)} {r : List (List Nat)} {d : List (List UInt64)} {kk : List Nat} {zz : List Nat} {n : Nat} : gI (M3I, l, r, d, kk, zz, n) 149 9 = (0 : Int32) := by
  show nt 0 (nt [] M3I 149) 9 = (0 : Int32)
  decide +kernel
theorem ql_I_168_0 {l : List (List Int64)} {r : List (List Nat)} {d : List (List UInt64)} {kk : List Nat} {zz : List Nat} {n : Nat} : gI (M3I, l, r, d, kk, zz, n) 168 0 = (20 : Int32) := by
  show nt 0 (nt [] M3I 168) 0 = (20 : Int32)
  decide +kernel
theorem ql_I_168_1 {l : List (List Int64)} {r : List (List Nat)} {d : List (List UInt64)} {kk : List Nat} {zz : List Nat} {n : Nat} : gI (M3I, l, r, d, kk, zz, n) 168 1 = (20 : Int32) := by
  show nt 0 (nt [] M3I 168) 1 = (20 : Int32)
  decide +kernel
theorem ql_I_168_2 {l : List (List Int64)} {r : List (List Nat)} {d : List (List UInt64)} {kk : List Nat} {zz : List Nat} {n : Nat} : gI (M3I, l, r, d, kk, zz, n) 168 2 = (20 : Int32) := by
  show nt 0 (nt [] M3I 168) 2 = (20 : Int32)
  decide +kernel
theorem ql_I_168_3 {l : List (List Int64)} {r : List (List Nat)} {d : List (List UInt64)} {kk : List Nat} {zz : List Nat} {n : Nat} : gI (M3I, l, r, d, kk, zz, n) 168 3 = (20 : Int32) := by
  show nt 0 (nt [] M3I 168) 3 = (20 : Int32)
  decide +kernel
theorem ql_I_168_4 {l : List (List Int64)} {r : List (List Nat)} {d : List (List UInt64)} {kk : List Nat} {zz : List Nat} {n : Nat} : gI (M3I, l, r, d, kk, zz, n) 168 4 = (20 : Int32) := by
  show nt 0 (nt [] M3I 168) 4 = (20 : Int32)
  decide +kernel
theorem ql_I_168_5 {l : List (List Int64)} {r : List (List Nat)} {d : List (List UInt64)} {kk : List Nat} {zz : List Nat} {n : Nat} : gI (M3I, l, r, d, kk, zz, n) 168 5 = (20 : Int32) := by
  show nt 0 (nt [] M3I 168) 5 = (20 : Int32)
  decide +kernel
theorem ql_I_2_11 {l : List (List Int64)} {r : List (List Nat)} {d : List (List UInt64)} {kk : List Nat} {zz : List Nat} {n : Nat} : gI (M3I, l, r, d, kk, zz, n) 2 11 = (0 : Int32) := by
  show nt 0 (nt [] M3I 2) 11 = (0 : Int32)
  decide +kernel
theorem ql_I_149_10 {l : List (List Int64)} {r : List (List Nat)} {d : List (List UInt64)} {kk : List Nat} {zz : List Nat} {n : Nat} : gI (M3I, l, r, d, kk, zz, n) 149 10 = (0 : Int32) := by
  show nt 0 (nt [] M3I 149) 10 = (0 : Int32)
  decide +kernel
theorem qf_211 : ((118 : Int32) = (118 : Int32)) := by decide
theorem ql_I_2_9 {l : List (List Int64)} {r : List (List Nat)} {d : List (List UInt64)} {kk : List Nat} {zz : List Nat} {n : Nat} : gI (M3I, l, r, d, kk, zz, n) 2 9 = (0 : Int32) := by
  show nt 0 (nt [] M3I 2) 9 = (0 : Int32)
  decide +kernel
theorem ql_I_149_12 {l : List (List Int64)} {r : List (List Nat)} {d : List (List UInt64)} {kk : List Nat} {zz : List Nat} {n : Nat} : gI (M3I, l, r, d, kk, zz, n) 149 12 = (0 : Int32) := by
  show nt 0 (nt [] M3I 149) 12 = (0 : Int32)
  decide +kernel
theorem qf_212 : ¬ ((98 : Int32) = (118 : Int32)) := by decide
theorem ql_I_2_10 {l : List (List Int64)} {r : List (List Nat)} {d : List (List UInt64)} {kk : List Nat} {zz : List Nat} {n : Nat} : gI (M3I, l, r, d, kk, zz, n) 2 10 = (0 : Int32) := by
  show nt 0 (nt [] M3I 2) 10 = (0 : Int32)
  decide +kernel
theorem qf_213 : ((98 : Int32) = (98 : Int32)) := by decide
theorem ql_I_149_13 {l : List (List Int64)} {r : List (List Nat)} {d : List (List UInt64)} {kk : List Nat} {zz : List Nat} {n : Nat} : gI (M3I, l, r, d, kk, zz, n) 149 13 = (0 : Int32) := by
  show nt 0 (nt [] M3I 149) 13 = (0 : Int32)
  decide +kernel
theorem ql_R_2_2 {i : List (List Int32)} {l : List (List Int64)} {d : List (List UInt64)} {kk : List Nat} {zz : List Nat} {n : Nat} : gR (i, l, M3R, d, kk, zz, n) 2 2 = 49 := by
  show nt 0 (nt [] M3R 2) 2 = 49
  decide +kernel
theorem ql_K_49 {i : List (List Int32)} {l : List (List Int64)} {r : List (List Nat)} {d : List (List UInt64)} {zz : List Nat} {n : Nat} : gK (i, l, r, d, M3K, zz, n) 49 = 10 := by
  show nt 0 M3K 49 = 10
  decide +kernel
theorem ql_R_49_0 {i : List (List Int32)} {l : List (List Int64)} {d : List (List UInt64)} {kk : List Nat} {zz : List Nat} {n : Nat} : gR (i, l, M3R, d, kk, zz, n) 49 0 = 50 := by
  show nt 0 (nt [] M3R 49) 0 = 50
  decide +kernel
theorem ql_K_50 {i : List (List Int32)} {l : List (List Int64)} {r : List (List Nat)} {d : List (List UInt64)} {zz : List Nat} {n : Nat} : gK (i, l, r, d, M3K, zz, n) 50 = 30 := by
  show nt 0 M3K 50 = 30
  decide +kernel
theorem ql_Z_50 {i : List (List Int32)} {l : List (List Int64)} {r : List (List Nat)} {d : List (List UInt64)} {kk : List Nat} {n : Nat} : gZ (i, l, r, d, kk, M3Z, n) 50 = 6 := by
  show nt 0 M3Z 50 = 6
  decide +kernel
theorem qf_214 : Int32.ofNat 6 = (6 : Int32) := by decide
theorem qf_215 : ¬ ((6 : Int32) ≤ (0 : Int32)) := by decide
theorem qf_216 : ¬ ((0 : Int32) < 0 ∨ 6 ≤ ((0 : Int32)).toNatClampNeg) := by decide
theorem qf_217 : ((0 : Int32) + (20 : Int32)) = (20 : Int32) := by decide
theorem qf_218 : ¬ ((6 : Int32) ≤ (1 : Int32)) := by decide
theorem qf_219 : ¬ ((1 : Int32) < 0 ∨ 6 ≤ ((1 : Int32)).toNatClampNeg) := by decide
theorem qf_220 : ((20 : Int32) + (20 : Int32)) = (40 : Int32) := by decide
theorem qf_221 : ¬ ((6 : Int32) ≤ (2 : Int32)) := by decide
theorem qf_222 : ¬ ((2 : Int32) < 0 ∨ 6 ≤ ((2 : Int32)).toNatClampNeg) := by decide
theorem qf_223 : ((40 : Int32) + (20 : Int32)) = (60 : Int32) := by decide
theorem qf_224 : ¬ ((6 : Int32) ≤ (3 : Int32)) := by decide
theorem qf_225 : ¬ ((3 : Int32) < 0 ∨ 6 ≤ ((3 : Int32)).toNatClampNeg) := by decide
theorem qf_226 : ((60 : Int32) + (20 : Int32)) = (80 : Int32) := by decide
theorem qf_227 : ((3 : Int32) + (Int32.ofInt ((1 : Int)))) = (4 : Int32) := by decide
theorem qf_228 : ¬ ((6 : Int32) ≤ (4 : Int32)) := by decide
theorem qf_229 : ¬ ((4 : Int32) < 0 ∨ 6 ≤ ((4 : Int32)).toNatClampNeg) := by decide
theorem qf_230 : ((80 : Int32) + (20 : Int32)) = (100 : Int32) := by decide
theorem qf_231 : ((4 : Int32) + (Int32.ofInt ((1 : Int)))) = (5 : Int32) := by decide
theorem qf_232 : ¬ ((6 : Int32) ≤ (5 : Int32)) := by decide
theorem qf_233 : ¬ ((5 : Int32) < 0 ∨ 6 ≤ ((5 : Int32)).toNatClampNeg) := by decide
theorem qf_234 : ((100 : Int32) + (20 : Int32)) = (120 : Int32) := by decide
theorem qf_235 : ((5 : Int32) + (Int32.ofInt ((1 : Int)))) = (6 : Int32) := by decide
theorem qf_236 : ((6 : Int32) ≤ (6 : Int32)) := by decide
theorem qf_237 : ((120 : Int32)).toInt64 = (120 : Int64) := by decide
theorem qf_238 : ¬ ((-1 : Int32) < (-1 : Int32)) := by decide
theorem qf_239 : ¬ ((5 : Int32) < (-1 : Int32)) := by decide
theorem ql_R_149_3 {i : List (List Int32)} {l : List (List Int64)} {d : List (List UInt64)} {kk : List Nat} {zz : List Nat} {n : Nat} : gR (i, l, M3R, d, kk, zz, n) 149 3 = 168 := by
  show nt 0 (nt [] M3R 149) 3 = 168
  decide +kernel
theorem ql_K_168 {i : List (List Int32)} {l : List (List Int64)} {r : List (List Nat)} {d : List (List UInt64)} {zz : List Nat} {n : Nat} : gK (i, l, r, d, M3K, zz, n) 168 = 30 := by
  show nt 0 M3K 168 = 30
  decide +kernel
theorem ql_Z_168 {i : List (List Int32)} {l : List (List Int64)} {r : List (List Nat)} {d : List (List UInt64)} {kk : List Nat} {n : Nat} : gZ (i, l, r, d, kk, M3Z, n) 168 = 6 := by
  show nt 0 M3Z 168 = 6
  decide +kernel
theorem qf_240 : (lg_cmp (120 : Int64) (120 : Int64)) = (0 : Int32) := by decide
theorem qf_241 : (5 : Int32).toInt = 5 := by decide
theorem qf_242 : ((0 : Int32) + (0 : Int32)) = (0 : Int32) := by decide
theorem qf_243 : (6 : Int32).toInt = 6 := by decide
theorem qf_244 : ((20 : Int32)).toInt64 = (20 : Int64) := by decide
theorem qf_245 : ¬ ((0 : Int32) < (-1 : Int32)) := by decide
theorem qf_246 : ¬ ((0 : Int32) = (-1 : Int32)) := by decide
theorem qf_247 : ¬ ((0 : Int32) = (1 : Int32)) := by decide
theorem qf_248 : ((20 : Int32) + (0 : Int32)) = (20 : Int32) := by decide
theorem qf_249 : ¬ ((0 : Int32) = (2 : Int32)) := by decide
theorem qf_250 : ¬ ((0 : Int32) = (4 : Int32)) := by decide
theorem qf_251 : ¬ ((0 : Int32) = (5 : Int32)) := by decide
theorem qf_252 : (lg_cmp (20 : Int64) (20 : Int64)) = (0 : Int32) := by decide
theorem qf_253 : ¬ ((1 : Int32) < (-1 : Int32)) := by decide
theorem qf_254 : ¬ ((5 : Int32) < (1 : Int32)) := by decide
theorem qf_255 : ¬ ((1 : Int32) = (-1 : Int32)) := by decide
theorem qf_256 : ¬ ((1 : Int32) = (2 : Int32)) := by decide
theorem qf_257 : ¬ ((1 : Int32) = (3 : Int32)) := by decide
theorem qf_258 : ¬ ((1 : Int32) = (4 : Int32)) := by decide
theorem qf_259 : ¬ ((1 : Int32) = (5 : Int32)) := by decide
theorem qf_260 : ¬ ((2 : Int32) < (-1 : Int32)) := by decide
theorem qf_261 : ¬ ((5 : Int32) < (2 : Int32)) := by decide
theorem qf_262 : ¬ ((2 : Int32) = (-1 : Int32)) := by decide
theorem qf_263 : ¬ ((2 : Int32) = (1 : Int32)) := by decide
theorem qf_264 : ¬ ((2 : Int32) = (3 : Int32)) := by decide
theorem qf_265 : ¬ ((2 : Int32) = (4 : Int32)) := by decide
theorem qf_266 : ¬ ((2 : Int32) = (5 : Int32)) := by decide
theorem qf_267 : ¬ ((3 : Int32) < (-1 : Int32)) := by decide
theorem qf_268 : ¬ ((5 : Int32) < (3 : Int32)) := by decide
theorem qf_269 : ¬ ((3 : Int32) = (-1 : Int32)) := by decide
theorem qf_270 : ¬ ((3 : Int32) = (1 : Int32)) := by decide
theorem qf_271 : ¬ ((3 : Int32) = (2 : Int32)) := by decide
theorem qf_272 : ¬ ((3 : Int32) = (4 : Int32)) := by decide
theorem qf_273 : ¬ ((3 : Int32) = (5 : Int32)) := by decide
theorem qf_274 : ¬ ((4 : Int32) < (-1 : Int32)) := by decide
theorem qf_275 : ¬ ((5 : Int32) < (4 : Int32)) := by decide
theorem qf_276 : ¬ ((4 : Int32) = (-1 : Int32)) := by decide
theorem qf_277 : ¬ ((4 : Int32) = (0 : Int32)) := by decide
theorem qf_278 : ¬ ((4 : Int32) = (1 : Int32)) := by decide
theorem qf_279 : ¬ ((4 : Int32) = (2 : Int32)) := by decide
theorem qf_280 : ¬ ((4 : Int32) = (3 : Int32)) := by decide
theorem qf_281 : ((4 : Int32) = (4 : Int32)) := by decide
theorem qf_282 : ¬ ((4 : Int32) = (5 : Int32)) := by decide
theorem qf_283 : ¬ ((5 : Int32) < (5 : Int32)) := by decide
theorem qf_284 : ¬ ((5 : Int32) = (-1 : Int32)) := by decide
theorem qf_285 : ¬ ((5 : Int32) = (0 : Int32)) := by decide
theorem qf_286 : ¬ ((5 : Int32) = (1 : Int32)) := by decide
theorem qf_287 : ¬ ((5 : Int32) = (2 : Int32)) := by decide
theorem qf_288 : ¬ ((5 : Int32) = (3 : Int32)) := by decide
theorem qf_289 : ¬ ((5 : Int32) = (4 : Int32)) := by decide
theorem qf_290 : ((5 : Int32) = (5 : Int32)) := by decide
theorem ql_R_49_1 {i : List (List Int32)} {l : List (List Int64)} {d : List (List UInt64)} {kk : List Nat} {zz : List Nat} {n : Nat} : gR (i, l, M3R, d, kk, zz, n) 49 1 = 51 := by
  show nt 0 (nt [] M3R 49) 1 = 51
  decide +kernel
theorem ql_K_51 {i : List (List Int32)} {l : List (List Int64)} {r : List (List Nat)} {d : List (List UInt64)} {zz : List Nat} {n : Nat} : gK (i, l, r, d, M3K, zz, n) 51 = 30 := by
  show nt 0 M3K 51 = 30
  decide +kernel
theorem ql_Z_51 {i : List (List Int32)} {l : List (List Int64)} {r : List (List Nat)} {d : List (List UInt64)} {kk : List Nat} {n : Nat} : gZ (i, l, r, d, kk, M3Z, n) 51 = 6 := by
  show nt 0 M3Z 51 = 6
  decide +kernel
theorem ql_I_51_0 {l : List (List Int64)} {r : List (List Nat)} {d : List (List UInt64)} {kk : List Nat} {zz : List Nat} {n : Nat} : gI (M3I, l, r, d, kk, zz, n) 51 0 = (0 : Int32) := by
  show nt 0 (nt [] M3I 51) 0 = (0 : Int32)
  decide +kernel
theorem ql_R_149_4 {i : List (List Int32)} {l : List (List Int64)} {d : List (List UInt64)} {kk : List Nat} {zz : List Nat} {n : Nat} : gR (i, l, M3R, d, kk, zz, n) 149 4 = 169 := by
  show nt 0 (nt [] M3R 149) 4 = 169
  decide +kernel
theorem ql_K_169 {i : List (List Int32)} {l : List (List Int64)} {r : List (List Nat)} {d : List (List UInt64)} {zz : List Nat} {n : Nat} : gK (i, l, r, d, M3K, zz, n) 169 = 30 := by
  show nt 0 M3K 169 = 30
  decide +kernel
theorem ql_Z_169 {i : List (List Int32)} {l : List (List Int64)} {r : List (List Nat)} {d : List (List UInt64)} {kk : List Nat} {n : Nat} : gZ (i, l, r, d, kk, M3Z, n) 169 = 6 := by
  show nt 0 M3Z 169 = 6
  decide +kernel
theorem ql_I_169_0 {l : List (List Int64)} {r : List (List Nat)} {d : List (List UInt64)} {kk : List Nat} {zz : List Nat} {n : Nat} : gI (M3I, l, r, d, kk, zz, n) 169 0 = (0 : Int32) := by
  show nt 0 (nt [] M3I 169) 0 = (0 : Int32)
  decide +kernel
theorem ql_I_51_1 {l : List (List Int64)} {r : List (List Nat)} {d : List (List UInt64)} {kk : List Nat} {zz : List Nat} {n : Nat} : gI (M3I, l, r, d, kk, zz, n) 51 1 = (0 : Int32) := by
  show nt 0 (nt [] M3I 51) 1 = (0 : Int32)
  decide +kernel
theorem ql_I_169_1 {l : List (List Int64)} {r : List (List Nat)} {d : List (List UInt64)} {kk : List Nat} {zz : List Nat} {n : Nat} : gI (M3I, l, r, d, kk, zz, n) 169 1 = (0 : Int32) := by
  show nt 0 (nt [] M3I 169) 1 = (0 : Int32)
  decide +kernel
theorem ql_I_51_2 {l : List (List Int64)} {r : List (List Nat)} {d : List (List UInt64)} {kk : List Nat} {zz : List Nat} {n : Nat} : gI (M3I, l, r, d, kk, zz, n) 51 2 = (0 : Int32) := by
  show nt 0 (nt [] M3I 51) 2 = (0 : Int32)
  decide +kernel
theorem ql_I_169_2 {l : List (List Int64)} {r : List (List Nat)} {d : List (List UInt64)} {kk : List Nat} {zz : List Nat} {n : Nat} : gI (M3I, l, r, d, kk, zz, n) 169 2 = (0 : Int32) := by
  show nt 0 (nt [] M3I 169) 2 = (0 : Int32)
  decide +kernel
theorem ql_I_51_3 {l : List (List Int64)} {r : List (List Nat)} {d : List (List UInt64)} {kk : List Nat} {zz : List Nat} {n : Nat} : gI (M3I, l, r, d, kk, zz, n) 51 3 = (0 : Int32) := by
  show nt 0 (nt [] M3I 51) 3 = (0 : Int32)
  decide +kernel
theorem ql_I_169_3 {l : List (List Int64)} {r : List (List Nat)} {d : List (List UInt64)} {kk : List Nat} {zz : List Nat} {n : Nat} : gI (M3I, l, r, d, kk, zz, n) 169 3 = (0 : Int32) := by
  show nt 0 (nt [] M3I 169) 3 = (0 : Int32)
  decide +kernel
theorem ql_I_51_4 {l : List (List Int64)} {r : List (List Nat)} {d : List (List UInt64)} {kk : List Nat} {zz : List Nat} {n : Nat} : gI (M3I, l, r, d, kk, zz, n) 51 4 = (0 : Int32) := by
  show nt 0 (nt [] M3I 51) 4 = (0 : Int32)
  decide +kernel
theorem ql_I_169_4 {l : List (List Int64)} {r : List (List Nat)} {d : List (List UInt64)} {kk : List Nat} {zz : List Nat} {n : Nat} : gI (M3I, l, r, d, kk, zz, n) 169 4 = (0 : Int32) := by
  show nt 0 (nt [] M3I 169) 4 = (0 : Int32)
  decide +kernel
theorem ql_I_51_5 {l : List (List Int64)} {r : List (List Nat)} {d : List (List UInt64)} {kk : List Nat} {zz : List Nat} {n : Nat} : gI (M3I, l, r, d, kk, zz, n) 51 5 = (0 : Int32) := by
  show nt 0 (nt [] M3I 51) 5 = (0 : Int32)
  decide +kernel
theorem ql_I_169_5 {l : List (List Int64)} {r : List (List Nat)} {d : List (List UInt64)} {kk : List Nat} {zz : List Nat} {n : Nat} : gI (M3I, l, r, d, kk, zz, n) 169 5 = (0 : Int32) := by
  show nt 0 (nt [] M3I 169) 5 = (0 : Int32)
  decide +kernel
theorem ql_R_2_3 {i : List (List Int32)} {l : List (List Int64)} {d : List (List UInt64)} {kk : List Nat} {zz : List Nat} {n : Nat} : gR (i, l, M3R, d, kk, zz, n) 2 3 = 52 := by
  show nt 0 (nt [] M3R 2) 3 = 52
  decide +kernel
theorem ql_K_52 {i : List (List Int32)} {l : List (List Int64)} {r : List (List Nat)} {d : List (List UInt64)} {zz : List Nat} {n : Nat} : gK (i, l, r, d, M3K, zz, n) 52 = 11 := by
  show nt 0 M3K 52 = 11
  decide +kernel
theorem ql_R_52_0 {i : List (List Int32)} {l : List (List Int64)} {d : List (List UInt64)} {kk : List Nat} {zz : List Nat} {n : Nat} : gR (i, l, M3R, d, kk, zz, n) 52 0 = 53 := by
  show nt 0 (nt [] M3R 52) 0 = 53
  decide +kernel
theorem ql_K_53 {i : List (List Int32)} {l : List (List Int64)} {r : List (List Nat)} {d : List (List UInt64)} {zz : List Nat} {n : Nat} : gK (i, l, r, d, M3K, zz, n) 53 = 30 := by
  show nt 0 M3K 53 = 30
  decide +kernel
theorem ql_Z_53 {i : List (List Int32)} {l : List (List Int64)} {r : List (List Nat)} {d : List (List UInt64)} {kk : List Nat} {n : Nat} : gZ (i, l, r, d, kk, M3Z, n) 53 = 4 := by
  show nt 0 M3Z 53 = 4
  decide +kernel
theorem ql_I_53_0 {l : List (List Int64)} {r : List (List Nat)} {d : List (List UInt64)} {kk : List Nat} {zz : List Nat} {n : Nat} : gI (M3I, l, r, d, kk, zz, n) 53 0 = (1000 : Int32) := by
  show nt 0 (nt [] M3I 53) 0 = (1000 : Int32)
  decide +kernel
theorem qf_291 : ((1000 : Int32)).toInt64 = (1000 : Int64) := by decide
theorem ql_R_149_5 {i : List (List Int32)} {l : List (List Int64)} {d : List (List UInt64)} {kk : List Nat} {zz : List Nat} {n : Nat} : gR (i, l, M3R, d, kk, zz, n) 149 5 = 170 := by
  show nt 0 (nt [] M3R 149) 5 = 170
  decide +kernel
theorem ql_K_170 {i : List (List Int32)} {l : List (List Int64)} {r : List (List Nat)} {d : List (List UInt64)} {zz : List Nat} {n : Nat} : gK (i, l, r, d, M3K, zz, n) 170 = 30 := by
  show nt 0 M3K 170 = 30
  decide +kernel
theorem ql_Z_170 {i : List (List Int32)} {l : List (List Int64)} {r : List (List Nat)} {d : List (List UInt64)} {kk : List Nat} {n : Nat} : gZ (i, l, r, d, kk, M3Z, n) 170 = 4 := by
  show nt 0 M3Z 170 = 4
  decide +kernel
theorem ql_I_170_0 {l : List (List Int64)} {r : List (List Nat)} {d : List (List UInt64)} {kk : List Nat} {zz : List Nat} {n : Nat} : gI (M3I, l, r, d, kk, zz, n) 170 0 = (1000 : Int32) := by
  show nt 0 (nt [] M3I 170) 0 = (1000 : Int32)
  decide +kernel
theorem qf_292 : (lg_cmp (1000 : Int64) (1000 : Int64)) = (0 : Int32) := by decide
theorem ql_I_53_1 {l : List (List Int64)} {r : List (List Nat)} {d : List (List UInt64)} {kk : List Nat} {zz : List Nat} {n : Nat} : gI (M3I, l, r, d, kk, zz, n) 53 1 = (1000 : Int32) := by
  show nt 0 (nt [] M3I 53) 1 = (1000 : Int32)
  decide +kernel
theorem ql_I_170_1 {l : List (List Int64)} {r : List (List Nat)} {d : List (List UInt64)} {kk : List Nat} {zz : List Nat} {n : Nat} : gI (M3I, l, r, d, kk, zz, n) 170 1 = (1000 : Int32) := by
  show nt 0 (nt [] M3I 170) 1 = (1000 : Int32)
  decide +kernel
theorem ql_I_53_2 {l : List (List Int64)} {r : List (List Nat)} {d : List (List UInt64)} {kk : List Nat} {zz : List Nat} {n : Nat} : gI (M3I, l, r, d, kk, zz, n) 53 2 = (1000 : Int32) := by
  show nt 0 (nt [] M3I 53) 2 = (1000 : Int32)
  decide +kernel
theorem ql_I_170_2 {l : List (List Int64)} {r : List (List Nat)} {d : List (List UInt64)} {kk : List Nat} {zz : List Nat} {n : Nat} : gI (M3I, l, r, d, kk, zz, n) 170 2 = (1000 : Int32) := by
  show nt 0 (nt [] M3I 170) 2 = (1000 : Int32)
  decide +kernel
theorem ql_I_53_3 {l : List (List Int64)} {r : List (List Nat)} {d : List (List UInt64)} {kk : List Nat} {zz : List Nat} {n : Nat} : gI (M3I, l, r, d, kk, zz, n) 53 3 = (1000 : Int32) := by
  show nt 0 (nt [] M3I 53) 3 = (1000 : Int32)
  decide +kernel
theorem ql_I_170_3 {l : List (List Int64)} {r : List (List Nat)} {d : List (List UInt64)} {kk : List Nat} {zz : List Nat} {n : Nat} : gI (M3I, l, r, d, kk, zz, n) 170 3 = (1000 : Int32) := by
  show nt 0 (nt [] M3I 170) 3 = (1000 : Int32)
  decide +kernel
theorem ql_I_52_1 {l : List (List Int64)} {r : List (List Nat)} {d : List (List UInt64)} {kk : List Nat} {zz : List Nat} {n : Nat} : gI (M3I, l, r, d, kk, zz, n) 52 1 = (0 : Int32) := by
  show nt 0 (nt [] M3I 52) 1 = (0 : Int32)
  decide +kernel
theorem ql_I_149_14 {l : List (List Int64)} {r : List (List Nat)} {d : List (List UInt64)} {kk : List Nat} {zz : List Nat} {n : Nat} : gI (M3I, l, r, d, kk, zz, n) 149 14 = (0 : Int32) := by
  show nt 0 (nt [] M3I 149) 14 = (0 : Int32)
  decide +kernel
theorem qf_293 : ((10 : Int32)).toInt64 = (10 : Int64) := by decide
theorem qf_294 : (10 : Int32).toInt = 10 := by decide
theorem qf_295 : (30 : Int32).toInt = 30 := by decide
theorem qf_296 : (lg_cmp (10 : Int64) (10 : Int64)) = (0 : Int32) := by decide
theorem qf_297 : ((lg_cmp ((10 : Int32)).toInt64 (10 : Int64)) = (0 : Int32)) := by decide
theorem qf_298 : ¬ ((4 : Int32) ≤ (0 : Int32)) := by decide
theorem qf_299 : ¬ ((4 : Int32) ≤ (1 : Int32)) := by decide
theorem qf_300 : ¬ ((4 : Int32) ≤ (2 : Int32)) := by decide
theorem qf_301 : ¬ ((4 : Int32) ≤ (3 : Int32)) := by decide
theorem qf_302 : ((4 : Int32) ≤ (4 : Int32)) := by decide
theorem qf_303 : ((0 : Int32) < (30 : Int32)) := by decide
theorem ql_R_1_3 {i : List (List Int32)} {l : List (List Int64)} {d : List (List UInt64)} {kk : List Nat} {zz : List Nat} {n : Nat} : gR (i, l, M3R, d, kk, zz, n) 1 3 = 109 := by
  show nt 0 (nt [] M3R 1) 3 = 109
  decide +kernel
theorem ql_K_109 {i : List (List Int32)} {l : List (List Int64)} {r : List (List Nat)} {d : List (List UInt64)} {zz : List Nat} {n : Nat} : gK (i, l, r, d, M3K, zz, n) 109 = 13 := by
  show nt 0 M3K 109 = 13
  decide +kernel
theorem ql_I_109_4 {l : List (List Int64)} {r : List (List Nat)} {d : List (List UInt64)} {kk : List Nat} {zz : List Nat} {n : Nat} : gI (M3I, l, r, d, kk, zz, n) 109 4 = (0 : Int32) := by
  show nt 0 (nt [] M3I 109) 4 = (0 : Int32)
  decide +kernel
theorem ql_R_109_0 {i : List (List Int32)} {l : List (List Int64)} {d : List (List UInt64)} {kk : List Nat} {zz : List Nat} {n : Nat} : gR (i, l, M3R, d, kk, zz, n) 109 0 = 110 := by
  show nt 0 (nt [] M3R 109) 0 = 110
  decide +kernel
theorem ql_K_110 {i : List (List Int32)} {l : List (List Int64)} {r : List (List Nat)} {d : List (List UInt64)} {zz : List Nat} {n : Nat} : gK (i, l, r, d, M3K, zz, n) 110 = 31 := by
  show nt 0 M3K 110 = 31
  decide +kernel
theorem ql_Z_110 {i : List (List Int32)} {l : List (List Int64)} {r : List (List Nat)} {d : List (List UInt64)} {kk : List Nat} {n : Nat} : gZ (i, l, r, d, kk, M3Z, n) 110 = 30 := by
  show nt 0 M3Z 110 = 30
  decide +kernel
theorem qf_304 : Int32.ofNat 30 = (30 : Int32) := by decide
theorem qf_305 : ¬ ((30 : Int32) ≤ (0 : Int32)) := by decide
theorem qf_306 : ¬ ((0 : Int32) < 0 ∨ 30 ≤ ((0 : Int32)).toNatClampNeg) := by decide
theorem ql_R_149_20 {i : List (List Int32)} {l : List (List Int64)} {d : List (List UInt64)} {kk : List Nat} {zz : List Nat} {n : Nat} : gR (i, l, M3R, d, kk, zz, n) 149 20 = (KB + 0) := by
  show nt 0 (nt [] M3R 149) 20 = (KB + 0)
  decide +kernel
theorem qf_307 : (((KB + 0) ≤ (KB + 0)) ∧ ((KB + 0) < (KB + 3))) := by decide
theorem qf_308 : ¬ (KB + 0) < KB := by decide
theorem qf_309 : (KB + 0) + 10 = (KB + 10) := by decide
theorem qf_310 : (((KB + 10) ≤ (KB + 10)) ∧ ((KB + 10) < (KB + 13))) := by decide
theorem qf_311 : ¬ (KB + 10) < KB := by decide
theorem qf_312 : kLen.getD ((KB + 10) - (KB + 10)) 0 = 0 := by decide
theorem qf_313 : Int32.ofNat 0 = (0 : Int32) := by decide
theorem qf_314 : ((0 : Int32) >>> ((0 : Int32) &&& (31 : Int32))) = (0 : Int32) := by decide
theorem qf_315 : ¬ ((0 : Int32) = (30 : Int32)) := by decide
theorem qf_316 : ¬ ((KB + 0) = 0) := by decide
theorem qf_317 : 176 < KB := by decide
theorem qf_318 : Int32.ofNat 16 = (16 : Int32) := by decide
theorem qf_319 : ((16 : Int32) >>> ((0 : Int32) &&& (31 : Int32))) = (16 : Int32) := by decide
theorem qf_320 : ((0 : Int32) - (16 : Int32)) = (-16 : Int32) := by decide
theorem qf_321 : ((-16 : Int32) ≤ (0 : Int32)) := by decide
theorem qf_322 : ((0 : Int32) <<< ((0 : Int32) &&& (31 : Int32))) = (0 : Int32) := by decide
theorem qf_323 : ¬ ((0 : Int32) < 0 ∨ 16 ≤ ((0 : Int32)).toNatClampNeg) := by decide
theorem qf_324 : ((1 : Int32) - (16 : Int32)) = (-15 : Int32) := by decide
theorem qf_325 : ((-15 : Int32) ≤ (0 : Int32)) := by decide
theorem qf_326 : ((0 : Int32) ≤ (16 : Int32)) := by decide
theorem qf_327 : ((16 : Int32) < (1073741823 : Int32)) := by decide
theorem qf_328 : ((16 : Int32) <<< ((1 : Int32) &&& (31 : Int32))) = (32 : Int32) := by decide
theorem qf_329 : 176 + 1 < KB := by decide
theorem qf_330 : 177 < KB := by decide
theorem qf_331 : Int32.ofNat 32 = (32 : Int32) := by decide
theorem qf_332 : ((32 : Int32) >>> ((1 : Int32) &&& (31 : Int32))) = (16 : Int32) := by decide
theorem qf_333 : ((16 : Int32) ||| (0 : Int32)) = (16 : Int32) := by decide
theorem qf_334 : ¬ ((16 : Int32) < (0 : Int32)) := by decide
theorem qf_335 : ((16 : Int32) - (0 : Int32)) = (16 : Int32) := by decide
theorem qf_336 : ((0 : Int32) < (16 : Int32)) := by decide
theorem qf_337 : ((0 : Int32) <<< ((1 : Int32) &&& (31 : Int32))) = (0 : Int32) := by decide
theorem qf_338 : ¬ ((0 : Int32) < 0 ∨ 32 ≤ ((0 : Int32)).toNatClampNeg) := by decide
theorem qf_339 : ¬ ((1 : Int32) < 0 ∨ 32 ≤ ((1 : Int32)).toNatClampNeg) := by decide
theorem qf_340 : 177 + 1 < KB := by decide
theorem qf_341 : ((1 : Int32) <<< ((1 : Int32) &&& (31 : Int32))) = (2 : Int32) := by decide
theorem qf_342 : ¬ ((2 : Int32) = (32 : Int32)) := by decide
theorem qf_343 : ((2 : Int32) - (0 : Int32)) = (2 : Int32) := by decide
theorem qf_344 : 178 + 1 < KB := by decide
theorem qf_345 : ((32 : Int32) - (0 : Int32)) = (32 : Int32) := by decide
theorem qf_346 : (if ((2 : Int32) < (32 : Int32)) then (2 : Int32) else (32 : Int32)) = (2 : Int32) := by decide
theorem qf_347 : ¬ ((1 : Int32) < 0 ∨ 2 ≤ ((1 : Int32)).toNatClampNeg) := by decide
theorem qf_348 : 178 < KB := by decide
theorem qf_349 : 179 < KB := by decide
theorem qf_350 : Int32.ofNat 2 = (2 : Int32) := by decide
theorem qf_351 : ((((1 : Int32)).toInt8).toInt32 = (1 : Int32)) := by decide
theorem qf_352 : ((2 : Int32) >>> ((1 : Int32) &&& (31 : Int32))) = (1 : Int32) := by decide
theorem qf_353 : ¬ ((1 : Int32) = (16 : Int32)) := by decide
theorem qf_354 : ((1 : Int32) - (0 : Int32)) = (1 : Int32) := by decide
theorem qf_355 : (if ((1 : Int32) < (16 : Int32)) then (1 : Int32) else (16 : Int32)) = (1 : Int32) := by decide
theorem qf_356 : Int32.ofNat 1 = (1 : Int32) := by decide
theorem qf_357 : ((1 : Int32) >>> ((0 : Int32) &&& (31 : Int32))) = (1 : Int32) := by decide
theorem ql_R_109_1 {i : List (List Int32)} {l : List (List Int64)} {d : List (List UInt64)} {kk : List Nat} {zz : List Nat} {n : Nat} : gR (i, l, M3R, d, kk, zz, n) 109 1 = 111 := by
  show nt 0 (nt [] M3R 109) 1 = 111
  decide +kernel
theorem ql_K_111 {i : List (List Int32)} {l : List (List Int64)} {r : List (List Nat)} {d : List (List UInt64)} {zz : List Nat} {n : Nat} : gK (i, l, r, d, M3K, zz, n) 111 = 31 := by
  show nt 0 M3K 111 = 31
  decide +kernel
theorem ql_Z_111 {i : List (List Int32)} {l : List (List Int64)} {r : List (List Nat)} {d : List (List UInt64)} {kk : List Nat} {n : Nat} : gZ (i, l, r, d, kk, M3Z, n) 111 = 2 := by
  show nt 0 M3Z 111 = 2
  decide +kernel
theorem ql_R_109_2 {i : List (List Int32)} {l : List (List Int64)} {d : List (List UInt64)} {kk : List Nat} {zz : List Nat} {n : Nat} : gR (i, l, M3R, d, kk, zz, n) 109 2 = 112 := by
  show nt 0 (nt [] M3R 109) 2 = 112
  decide +kernel
theorem ql_K_112 {i : List (List Int32)} {l : List (List Int64)} {r : List (List Nat)} {d : List (List UInt64)} {zz : List Nat} {n : Nat} : gK (i, l, r, d, M3K, zz, n) 112 = 30 := by
  show nt 0 M3K 112 = 30
  decide +kernel
theorem ql_Z_112 {i : List (List Int32)} {l : List (List Int64)} {r : List (List Nat)} {d : List (List UInt64)} {kk : List Nat} {n : Nat} : gZ (i, l, r, d, kk, M3Z, n) 112 = 2 := by
  show nt 0 M3Z 112 = 2
  decide +kernel
theorem qf_358 : ¬ ((0 : Int32) < 0 ∨ 2 ≤ ((0 : Int32)).toNatClampNeg) := by decide
theorem qf_359 : ((((((((116 : Int32)).toUInt32).toUInt16).toUInt32).toInt32 = (116 : Int32)) ∧ ((0 : Int32) ≤ (116 : Int32))) ∧ ((116 : Int32) ≤ (65535 : Int32))) := by decide
theorem ql_R_149_7 {i : List (List Int32)} {l : List (List Int64)} {d : List (List UInt64)} {kk : List Nat} {zz : List Nat} {n : Nat} : gR (i, l, M3R, d, kk, zz, n) 149 7 = 172 := by
  show nt 0 (nt [] M3R 149) 7 = 172
  decide +kernel
theorem ql_K_172 {i : List (List Int32)} {l : List (List Int64)} {r : List (List Nat)} {d : List (List UInt64)} {zz : List Nat} {n : Nat} : gK (i, l, r, d, M3K, zz, n) 172 = 31 := by
  show nt 0 M3K 172 = 31
  decide +kernel
theorem ql_Z_172 {i : List (List Int32)} {l : List (List Int64)} {r : List (List Nat)} {d : List (List UInt64)} {kk : List Nat} {n : Nat} : gZ (i, l, r, d, kk, M3Z, n) 172 = 2 := by
  show nt 0 M3Z 172 = 2
  decide +kernel
theorem ql_R_149_6 {i : List (List Int32)} {l : List (List Int64)} {d : List (List UInt64)} {kk : List Nat} {zz : List Nat} {n : Nat} : gR (i, l, M3R, d, kk, zz, n) 149 6 = 171 := by
  show nt 0 (nt [] M3R 149) 6 = 171
  decide +kernel
theorem ql_K_171 {i : List (List Int32)} {l : List (List Int64)} {r : List (List Nat)} {d : List (List UInt64)} {zz : List Nat} {n : Nat} : gK (i, l, r, d, M3K, zz, n) 171 = 30 := by
  show nt 0 M3K 171 = 30
  decide +kernel
theorem ql_Z_171 {i : List (List Int32)} {l : List (List Int64)} {r : List (List Nat)} {d : List (List UInt64)} {kk : List Nat} {n : Nat} : gZ (i, l, r, d, kk, M3Z, n) 171 = 2 := by
  show nt 0 M3Z 171 = 2
  decide +kernel
theorem qf_360 : ((((((((45 : Int32)).toUInt32).toUInt16).toUInt32).toInt32 = (45 : Int32)) ∧ ((0 : Int32) ≤ (45 : Int32))) ∧ ((45 : Int32) ≤ (65535 : Int32))) := by decide
theorem qf_361 : ((45 : Int32) = (45 : Int32)) := by decide
theorem ql_I_149_17 {l : List (List Int64)} {r : List (List Nat)} {d : List (List UInt64)} {kk : List Nat} {zz : List Nat} {n : Nat} : gI (M3I, l, r, d, kk, zz, n) 149 17 = (0 : Int32) := by
  show nt 0 (nt [] M3I 149) 17 = (0 : Int32)
  decide +kernel
theorem qf_362 : ((((((((0 : Int32)).toUInt32).toUInt16).toUInt32).toInt32 = (0 : Int32)) ∧ ((0 : Int32) ≤ (0 : Int32))) ∧ ((0 : Int32) ≤ (65535 : Int32))) := by decide
theorem ql_I_109_5 {l : List (List Int64)} {r : List (List Nat)} {d : List (List UInt64)} {kk : List Nat} {zz : List Nat} {n : Nat} : gI (M3I, l, r, d, kk, zz, n) 109 5 = (0 : Int32) := by
  show nt 0 (nt [] M3I 109) 5 = (0 : Int32)
  decide +kernel
theorem qf_363 : ((31 : Int64) * (7 : Int64)) = (217 : Int64) := by decide
theorem ql_L_17_3 {i : List (List Int32)} {r : List (List Nat)} {d : List (List UInt64)} {kk : List Nat} {zz : List Nat} {n : Nat} : gL (i, M3L, r, d, kk, zz, n) 17 3 = (0 : Int64) := by
  show nt 0 (nt [] M3L 17) 3 = (0 : Int64)
  decide +kernel
theorem qf_364 : ((217 : Int64) + (0 : Int64)) = (217 : Int64) := by decide
theorem qf_365 : ((31 : Int64) * (217 : Int64)) = (6727 : Int64) := by decide
theorem ql_L_25_3 {i : List (List Int32)} {r : List (List Nat)} {d : List (List UInt64)} {kk : List Nat} {zz : List Nat} {n : Nat} : gL (i, M3L, r, d, kk, zz, n) 25 3 = (0 : Int64) := by
  show nt 0 (nt [] M3L 25) 3 = (0 : Int64)
  decide +kernel
theorem qf_366 : ((6727 : Int64) + (0 : Int64)) = (6727 : Int64) := by decide
theorem qf_367 : ((31 : Int64) * (6727 : Int64)) = (208537 : Int64) := by decide
theorem ql_L_33_3 {i : List (List Int32)} {r : List (List Nat)} {d : List (List UInt64)} {kk : List Nat} {zz : List Nat} {n : Nat} : gL (i, M3L, r, d, kk, zz, n) 33 3 = (0 : Int64) := by
  show nt 0 (nt [] M3L 33) 3 = (0 : Int64)
  decide +kernel
theorem qf_368 : ((208537 : Int64) + (0 : Int64)) = (208537 : Int64) := by decide
theorem qf_369 : ((31 : Int64) * (208537 : Int64)) = (6464647 : Int64) := by decide
theorem ql_L_41_3 {i : List (List Int32)} {r : List (List Nat)} {d : List (List UInt64)} {kk : List Nat} {zz : List Nat} {n : Nat} : gL (i, M3L, r, d, kk, zz, n) 41 3 = (0 : Int64) := by
  show nt 0 (nt [] M3L 41) 3 = (0 : Int64)
  decide +kernel
theorem qf_370 : ((6464647 : Int64) + (0 : Int64)) = (6464647 : Int64) := by decide
theorem qf_371 : ((31 : Int64) * (6464647 : Int64)) = (200404057 : Int64) := by decide
theorem qf_372 : ((200404057 : Int64) + (0 : Int64)) = (200404057 : Int64) := by decide
theorem qf_373 : ((31 : Int64) * (200404057 : Int64)) = (6212525767 : Int64) := by decide
theorem qf_374 : ((6212525767 : Int64) + (0 : Int64)) = (6212525767 : Int64) := by decide
theorem qf_375 : ((31 : Int64) * (6212525767 : Int64)) = (192588298777 : Int64) := by decide
theorem qf_376 : ((192588298777 : Int64) + (0 : Int64)) = (192588298777 : Int64) := by decide
theorem qf_377 : ((31 : Int64) * (192588298777 : Int64)) = (5970237262087 : Int64) := by decide
theorem qf_378 : ((5970237262087 : Int64) + (0 : Int64)) = (5970237262087 : Int64) := by decide
theorem qf_379 : ((31 : Int64) * (5970237262087 : Int64)) = (185077355124697 : Int64) := by decide
theorem qf_380 : ((185077355124697 : Int64) + (120 : Int64)) = (185077355124817 : Int64) := by decide
theorem qf_381 : ((31 : Int64) * (185077355124817 : Int64)) = (5737398008869327 : Int64) := by decide
theorem qf_382 : ((5737398008869327 : Int64) + (0 : Int64)) = (5737398008869327 : Int64) := by decide
theorem qf_383 : (lg_cmp (5737398008869327 : Int64) (5737398008869327 : Int64)) = (0 : Int32) := by decide
theorem ql_I_1_5 {l : List (List Int64)} {r : List (List Nat)} {d : List (List UInt64)} {kk : List Nat} {zz : List Nat} {n : Nat} : gI (M3I, l, r, d, kk, zz, n) 1 5 = (0 : Int32) := by
  show nt 0 (nt [] M3I 1) 5 = (0 : Int32)
  decide +kernel
theorem ql_R_1_1 {i : List (List Int32)} {l : List (List Int64)} {d : List (List UInt64)} {kk : List Nat} {zz : List Nat} {n : Nat} : gR (i, l, M3R, d, kk, zz, n) 1 1 = 54 := by
  show nt 0 (nt [] M3R 1) 1 = 54
  decide +kernel
theorem ql_K_54 {i : List (List Int32)} {l : List (List Int64)} {r : List (List Nat)} {d : List (List UInt64)} {zz : List Nat} {n : Nat} : gK (i, l, r, d, M3K, zz, n) 54 = 14 := by
  show nt 0 M3K 54 = 14
  decide +kernel
theorem ql_R_54_1 {i : List (List Int32)} {l : List (List Int64)} {d : List (List UInt64)} {kk : List Nat} {zz : List Nat} {n : Nat} : gR (i, l, M3R, d, kk, zz, n) 54 1 = 68 := by
  show nt 0 (nt [] M3R 54) 1 = 68
  decide +kernel
theorem ql_K_68 {i : List (List Int32)} {l : List (List Int64)} {r : List (List Nat)} {d : List (List UInt64)} {zz : List Nat} {n : Nat} : gK (i, l, r, d, M3K, zz, n) 68 = 34 := by
  show nt 0 M3K 68 = 34
  decide +kernel
theorem ql_Z_68 {i : List (List Int32)} {l : List (List Int64)} {r : List (List Nat)} {d : List (List UInt64)} {kk : List Nat} {n : Nat} : gZ (i, l, r, d, kk, M3Z, n) 68 = 4 := by
  show nt 0 M3Z 68 = 4
  decide +kernel
theorem ql_R_68_0 {i : List (List Int32)} {l : List (List Int64)} {d : List (List UInt64)} {kk : List Nat} {zz : List Nat} {n : Nat} : gR (i, l, M3R, d, kk, zz, n) 68 0 = 69 := by
  show nt 0 (nt [] M3R 68) 0 = 69
  decide +kernel
theorem ql_K_69 {i : List (List Int32)} {l : List (List Int64)} {r : List (List Nat)} {d : List (List UInt64)} {zz : List Nat} {n : Nat} : gK (i, l, r, d, M3K, zz, n) 69 = 7 := by
  show nt 0 M3K 69 = 7
  decide +kernel
theorem ql_L_69_3 {i : List (List Int32)} {r : List (List Nat)} {d : List (List UInt64)} {kk : List Nat} {zz : List Nat} {n : Nat} : gL (i, M3L, r, d, kk, zz, n) 69 3 = (0 : Int64) := by
  show nt 0 (nt [] M3L 69) 3 = (0 : Int64)
  decide +kernel
theorem ql_R_68_1 {i : List (List Int32)} {l : List (List Int64)} {d : List (List UInt64)} {kk : List Nat} {zz : List Nat} {n : Nat} : gR (i, l, M3R, d, kk, zz, n) 68 1 = 77 := by
  show nt 0 (nt [] M3R 68) 1 = 77
  decide +kernel
theorem ql_K_77 {i : List (List Int32)} {l : List (List Int64)} {r : List (List Nat)} {d : List (List UInt64)} {zz : List Nat} {n : Nat} : gK (i, l, r, d, M3K, zz, n) 77 = 7 := by
  show nt 0 M3K 77 = 7
  decide +kernel
theorem ql_L_77_3 {i : List (List Int32)} {r : List (List Nat)} {d : List (List UInt64)} {kk : List Nat} {zz : List Nat} {n : Nat} : gL (i, M3L, r, d, kk, zz, n) 77 3 = (0 : Int64) := by
  show nt 0 (nt [] M3L 77) 3 = (0 : Int64)
  decide +kernel
theorem ql_R_68_2 {i : List (List Int32)} {l : List (List Int64)} {d : List (List UInt64)} {kk : List Nat} {zz : List Nat} {n : Nat} : gR (i, l, M3R, d, kk, zz, n) 68 2 = 85 := by
  show nt 0 (nt [] M3R 68) 2 = 85
  decide +kernel
theorem ql_K_85 {i : List (List Int32)} {l : List (List Int64)} {r : List (List Nat)} {d : List (List UInt64)} {zz : List Nat} {n : Nat} : gK (i, l, r, d, M3K, zz, n) 85 = 7 := by
  show nt 0 M3K 85 = 7
  decide +kernel
theorem ql_L_85_3 {i : List (List Int32)} {r : List (List Nat)} {d : List (List UInt64)} {kk : List Nat} {zz : List Nat} {n : Nat} : gL (i, M3L, r, d, kk, zz, n) 85 3 = (0 : Int64) := by
  show nt 0 (nt [] M3L 85) 3 = (0 : Int64)
  decide +kernel
theorem ql_R_68_3 {i : List (List Int32)} {l : List (List Int64)} {d : List (List UInt64)} {kk : List Nat} {zz : List Nat} {n : Nat} : gR (i, l, M3R, d, kk, zz, n) 68 3 = 93 := by
  show nt 0 (nt [] M3R 68) 3 = 93
  decide +kernel
theorem ql_K_93 {i : List (List Int32)} {l : List (List Int64)} {r : List (List Nat)} {d : List (List UInt64)} {zz : List Nat} {n : Nat} : gK (i, l, r, d, M3K, zz, n) 93 = 7 := by
  show nt 0 M3K 93 = 7
  decide +kernel
theorem ql_L_93_3 {i : List (List Int32)} {r : List (List Nat)} {d : List (List UInt64)} {kk : List Nat} {zz : List Nat} {n : Nat} : gL (i, M3L, r, d, kk, zz, n) 93 3 = (0 : Int64) := by
  show nt 0 (nt [] M3L 93) 3 = (0 : Int64)
  decide +kernel
theorem ql_I_54_7 {l : List (List Int64)} {r : List (List Nat)} {d : List (List UInt64)} {kk : List Nat} {zz : List Nat} {n : Nat} : gI (M3I, l, r, d, kk, zz, n) 54 7 = (0 : Int32) := by
  show nt 0 (nt [] M3I 54) 7 = (0 : Int32)
  decide +kernel
theorem ql_I_54_8 {l : List (List Int64)} {r : List (List Nat)} {d : List (List UInt64)} {kk : List Nat} {zz : List Nat} {n : Nat} : gI (M3I, l, r, d, kk, zz, n) 54 8 = (0 : Int32) := by
  show nt 0 (nt [] M3I 54) 8 = (0 : Int32)
  decide +kernel
theorem ql_I_54_9 {l : List (List Int64)} {r : List (List Nat)} {d : List (List UInt64)} {kk : List Nat} {zz : List Nat} {n : Nat} : gI (M3I, l, r, d, kk, zz, n) 54 9 = (0 : Int32) := by
  show nt 0 (nt [] M3I 54) 9 = (0 : Int32)
  decide +kernel
theorem ql_I_54_10 {l : List (List Int64)} {r : List (List Nat)} {d : List (List UInt64)} {kk : List Nat} {zz : List Nat} {n : Nat} : gI (M3I, l, r, d, kk, zz, n) 54 10 = (0 : Int32) := by
  show nt 0 (nt [] M3I 54) 10 = (0 : Int32)
  decide +kernel
theorem ql_R_54_2 {i : List (List Int32)} {l : List (List Int64)} {d : List (List UInt64)} {kk : List Nat} {zz : List Nat} {n : Nat} : gR (i, l, M3R, d, kk, zz, n) 54 2 = 101 := by
  show nt 0 (nt [] M3R 54) 2 = 101
  decide +kernel
theorem ql_K_101 {i : List (List Int32)} {l : List (List Int64)} {r : List (List Nat)} {d : List (List UInt64)} {zz : List Nat} {n : Nat} : gK (i, l, r, d, M3K, zz, n) 101 = 10 := by
  show nt 0 M3K 101 = 10
  decide +kernel
theorem ql_R_101_0 {i : List (List Int32)} {l : List (List Int64)} {d : List (List UInt64)} {kk : List Nat} {zz : List Nat} {n : Nat} : gR (i, l, M3R, d, kk, zz, n) 101 0 = 102 := by
  show nt 0 (nt [] M3R 101) 0 = 102
  decide +kernel
theorem ql_K_102 {i : List (List Int32)} {l : List (List Int64)} {r : List (List Nat)} {d : List (List UInt64)} {zz : List Nat} {n : Nat} : gK (i, l, r, d, M3K, zz, n) 102 = 30 := by
  show nt 0 M3K 102 = 30
  decide +kernel
theorem ql_Z_102 {i : List (List Int32)} {l : List (List Int64)} {r : List (List Nat)} {d : List (List UInt64)} {kk : List Nat} {n : Nat} : gZ (i, l, r, d, kk, M3Z, n) 102 = 6 := by
  show nt 0 M3Z 102 = 6
  decide +kernel
theorem ql_I_102_0 {l : List (List Int64)} {r : List (List Nat)} {d : List (List UInt64)} {kk : List Nat} {zz : List Nat} {n : Nat} : gI (M3I, l, r, d, kk, zz, n) 102 0 = (20 : Int32) := by
  show nt 0 (nt [] M3I 102) 0 = (20 : Int32)
  decide +kernel
theorem ql_I_102_1 {l : List (List Int64)} {r : List (List Nat)} {d : List (List UInt64)} {kk : List Nat} {zz : List Nat} {n : Nat} : gI (M3I, l, r, d, kk, zz, n) 102 1 = (20 : Int32) := by
  show nt 0 (nt [] M3I 102) 1 = (20 : Int32)
  decide +kernel
theorem ql_I_102_2 {l : List (List Int64)} {r : List (List Nat)} {d : List (List UInt64)} {kk : List Nat} {zz : List Nat} {n : Nat} : gI (M3I, l, r, d, kk, zz, n) 102 2 = (20 : Int32) := by
  show nt 0 (nt [] M3I 102) 2 = (20 : Int32)
  decide +kernel
theorem ql_I_102_3 {l : List (List Int64)} {r : List (List Nat)} {d : List (List UInt64)} {kk : List Nat} {zz : List Nat} {n : Nat} : gI (M3I, l, r, d, kk, zz, n) 102 3 = (20 : Int32) := by
  show nt 0 (nt [] M3I 102) 3 = (20 : Int32)
  decide +kernel
theorem ql_I_102_4 {l : List (List Int64)} {r : List (List Nat)} {d : List (List UInt64)} {kk : List Nat} {zz : List Nat} {n : Nat} : gI (M3I, l, r, d, kk, zz, n) 102 4 = (20 : Int32) := by
  show nt 0 (nt [] M3I 102) 4 = (20 : Int32)
  decide +kernel
theorem ql_I_102_5 {l : List (List Int64)} {r : List (List Nat)} {d : List (List UInt64)} {kk : List Nat} {zz : List Nat} {n : Nat} : gI (M3I, l, r, d, kk, zz, n) 102 5 = (20 : Int32) := by
  show nt 0 (nt [] M3I 102) 5 = (20 : Int32)
  decide +kernel
theorem ql_R_54_3 {i : List (List Int32)} {l : List (List Int64)} {d : List (List UInt64)} {kk : List Nat} {zz : List Nat} {n : Nat} : gR (i, l, M3R, d, kk, zz, n) 54 3 = 104 := by
  show nt 0 (nt [] M3R 54) 3 = 104
  decide +kernel
theorem ql_K_104 {i : List (List Int32)} {l : List (List Int64)} {r : List (List Nat)} {d : List (List UInt64)} {zz : List Nat} {n : Nat} : gK (i, l, r, d, M3K, zz, n) 104 = 11 := by
  show nt 0 M3K 104 = 11
  decide +kernel
theorem ql_I_104_1 {l : List (List Int64)} {r : List (List Nat)} {d : List (List UInt64)} {kk : List Nat} {zz : List Nat} {n : Nat} : gI (M3I, l, r, d, kk, zz, n) 104 1 = (0 : Int32) := by
  show nt 0 (nt [] M3I 104) 1 = (0 : Int32)
  decide +kernel
theorem qf_384 : ("java/lang/ArithmeticException" = "java/lang/ArithmeticException") := by decide
theorem qf_385 : ¬ ((20 : Int32) < (0 : Int32)) := by decide
theorem qf_386 : ((20 : Int32) ≤ (40 : Int32)) := by decide
theorem qf_387 : (¬ ((60000000 : Int64) = (0 : Int64))) := by decide
theorem qf_388 : ((0 : Int64) - (((0 : Int64) / (60000000 : Int64)) * (60000000 : Int64))) = (0 : Int64) := by decide
theorem qf_389 : (lg_cmp (0 : Int64) (30000000 : Int64)) = (-1 : Int32) := by decide
theorem qf_390 : (if ((2000 : Int32) < (0 : Int32)) then (2000 : Int32) else (0 : Int32)) = (0 : Int32) := by decide
theorem ql_L_2_12 {i : List (List Int32)} {r : List (List Nat)} {d : List (List UInt64)} {kk : List Nat} {zz : List Nat} {n : Nat} : gL (i, M3L, r, d, kk, zz, n) 2 12 = (0 : Int64) := by
  show nt 0 (nt [] M3L 2) 12 = (0 : Int64)
  decide +kernel
theorem qf_391 : ((0 : Int64) + (0 : Int64)) = (0 : Int64) := by decide
theorem ql_I_52_2 {l : List (List Int64)} {r : List (List Nat)} {d : List (List UInt64)} {kk : List Nat} {zz : List Nat} {n : Nat} : gI (M3I, l, r, d, kk, zz, n) 52 2 = (0 : Int32) := by
  show nt 0 (nt [] M3I 52) 2 = (0 : Int32)
  decide +kernel
theorem qf_392 : ((0 : Int32) < (2 : Int32)) := by decide
theorem qf_393 : (¬ ((100 : Int32) = (0 : Int32))) := by decide
theorem qf_394 : ((0 : Int32) < (6 : Int32)) := by decide
theorem qf_395 : ((1000 : Int32) = (1000 : Int32)) := by decide
theorem qf_396 : ((0 : Int32) < (100 : Int32)) := by decide
theorem qf_397 : ((1 : Int32) < (6 : Int32)) := by decide
theorem qf_398 : ((2 : Int32) < (6 : Int32)) := by decide
theorem qf_399 : ((3 : Int32) < (6 : Int32)) := by decide
theorem qf_400 : ((4 : Int32) < (6 : Int32)) := by decide
theorem qf_401 : ((5 : Int32) < (6 : Int32)) := by decide
theorem qf_402 : (¬ ((360000 : Int32) = (0 : Int32))) := by decide
theorem qf_403 : (¬ ((4 : Int32) = (0 : Int32))) := by decide
theorem qf_404 : ((0 : Int32) - (((0 : Int32) / (4 : Int32)) * (4 : Int32))) = (0 : Int32) := by decide
theorem qf_405 : ((0 : Int32) ^^^ (4 : Int32)) = (4 : Int32) := by decide
theorem qf_406 : ((0 : Int32) ≤ (4 : Int32)) := by decide
theorem qf_407 : ((0 : Int32) / (100 : Int32)) = (0 : Int32) := by decide
theorem qf_408 : ((0 : Int32) ≤ (1000 : Int32)) := by decide
theorem qf_409 : (if ((0 : Int32) < (2000 : Int32)) then (0 : Int32) else (2000 : Int32)) = (0 : Int32) := by decide
theorem ql_L_149_18 {i : List (List Int32)} {r : List (List Nat)} {d : List (List UInt64)} {kk : List Nat} {zz : List Nat} {n : Nat} : gL (i, M3L, r, d, kk, zz, n) 149 18 = (0 : Int64) := by
  show nt 0 (nt [] M3L 149) 18 = (0 : Int64)
  decide +kernel
theorem ql_L_149_19 {i : List (List Int32)} {r : List (List Nat)} {d : List (List UInt64)} {kk : List Nat} {zz : List Nat} {n : Nat} : gL (i, M3L, r, d, kk, zz, n) 149 19 = (0 : Int64) := by
  show nt 0 (nt [] M3L 149) 19 = (0 : Int64)
  decide +kernel
theorem qf_410 : ((0 : Int32) ||| (0 : Int32)) = (0 : Int32) := by decide
theorem qf_411 : ¬ ((100 : Int32) ≤ (0 : Int32)) := by decide
theorem qf_412 : (¬ ((100 : Int64) = (0 : Int64))) := by decide
theorem qf_413 : ((0 : Int64) / (100 : Int64)) = (0 : Int64) := by decide
theorem qf_414 : (lg_cmp (0 : Int64) (1000 : Int64)) = (-1 : Int32) := by decide
theorem qf_415 : ((-1 : Int32) ≤ (0 : Int32)) := by decide
theorem qf_416 : Int32.ofNat 8 = (8 : Int32) := by decide
theorem qf_417 : ((8 : Int32) - (8 : Int32)) = (0 : Int32) := by decide
theorem qf_418 : ¬ ((0 : Int32) < 0 ∨ 8 ≤ ((0 : Int32)).toNatClampNeg) := by decide
theorem qf_419 : ((0 : Int32) < (8 : Int32)) := by decide
end FACTS
