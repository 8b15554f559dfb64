def fp_scL_law_33 : List Nat := 172 :: []
def fp_scL_law_32 : List Nat := 96 :: 46 :: 182 :: 0 :: 178 :: 87 :: 167 :: 0 :: 39 :: 43 :: 182 :: 0 :: 179 :: 87 :: 44 :: 182 :: 0 :: 182 :: 87 :: 167 :: 0 :: 26 :: 43 :: 42 :: 29 :: 4 :: 96 :: 46 :: 182 :: 0 :: 183 :: 44 :: 42 :: 29 :: 4 :: 96 :: 46 :: 182 :: 0 :: 186 :: 159 :: 0 :: 5 :: 3 :: 172 :: 132 :: 3 :: 7 :: 167 :: 250 :: 54 :: 4 :: fp_scL_law_33
def fp_scL_law_31 : List Nat := 46 :: 42 :: 29 :: 6 :: 96 :: 46 :: 42 :: 29 :: 7 :: 96 :: 46 :: 182 :: 0 :: 175 :: 87 :: 44 :: 42 :: 29 :: 4 :: 96 :: 46 :: 42 :: 29 :: 5 :: 96 :: 46 :: 42 :: 29 :: 6 :: 96 :: 46 :: 42 :: 29 :: 7 :: fp_scL_law_32
def fp_scL_law_30 : List Nat := 46 :: 182 :: 0 :: 171 :: 87 :: 44 :: 42 :: 29 :: 4 :: 96 :: 46 :: 42 :: 29 :: 5 :: 96 :: 46 :: 42 :: 29 :: 6 :: 96 :: 46 :: 182 :: 0 :: 174 :: 87 :: 167 :: 0 :: 92 :: 43 :: 42 :: 29 :: 4 :: 96 :: 46 :: 42 :: 29 :: 5 :: 96 :: fp_scL_law_31
def fp_scL_law_29 : List Nat := 29 :: 4 :: 96 :: 46 :: 42 :: 29 :: 5 :: 96 :: 46 :: 42 :: 29 :: 6 :: 96 :: 46 :: 182 :: 0 :: 170 :: 87 :: 167 :: 0 :: 135 :: 43 :: 42 :: 29 :: 4 :: 96 :: 46 :: 42 :: 29 :: 5 :: 96 :: 46 :: 42 :: 29 :: 6 :: 96 :: fp_scL_law_30
def fp_scL_law_28 : List Nat := 46 :: 182 :: 0 :: 163 :: 87 :: 44 :: 42 :: 29 :: 4 :: 96 :: 46 :: 182 :: 0 :: 166 :: 87 :: 167 :: 0 :: 178 :: 43 :: 42 :: 29 :: 4 :: 96 :: 46 :: 42 :: 29 :: 5 :: 96 :: 46 :: 42 :: 29 :: 6 :: 96 :: 46 :: 182 :: 0 :: 167 :: 87 :: 44 :: 42 :: fp_scL_law_29
def fp_scL_law_27 : List Nat := 87 :: 44 :: 42 :: 29 :: 4 :: 96 :: 46 :: 182 :: 0 :: 158 :: 87 :: 167 :: 0 :: 224 :: 43 :: 42 :: 29 :: 4 :: 96 :: 46 :: 182 :: 0 :: 159 :: 87 :: 44 :: 42 :: 29 :: 4 :: 96 :: 46 :: 182 :: 0 :: 162 :: 87 :: 167 :: 0 :: 201 :: 43 :: 42 :: 29 :: 4 :: 96 :: fp_scL_law_28
def fp_scL_law_26 : List Nat := 42 :: 29 :: 4 :: 96 :: 46 :: 182 :: 0 :: 150 :: 87 :: 167 :: 1 :: 14 :: 43 :: 42 :: 29 :: 4 :: 96 :: 46 :: 182 :: 0 :: 151 :: 87 :: 44 :: 42 :: 29 :: 4 :: 96 :: 46 :: 182 :: 0 :: 154 :: 87 :: 167 :: 0 :: 247 :: 43 :: 42 :: 29 :: 4 :: 96 :: 46 :: 182 :: 0 :: 155 :: fp_scL_law_27
def fp_scL_law_25 : List Nat := 96 :: 46 :: 42 :: 29 :: 5 :: 96 :: 46 :: 182 :: 0 :: 143 :: 87 :: 44 :: 42 :: 29 :: 4 :: 96 :: 46 :: 42 :: 29 :: 5 :: 96 :: 46 :: 182 :: 0 :: 146 :: 87 :: 167 :: 1 :: 37 :: 43 :: 42 :: 29 :: 4 :: 96 :: 46 :: 182 :: 0 :: 147 :: 87 :: 44 :: fp_scL_law_26
def fp_scL_law_24 : List Nat := 46 :: 182 :: 0 :: 134 :: 87 :: 167 :: 1 :: 106 :: 43 :: 42 :: 29 :: 4 :: 96 :: 46 :: 182 :: 0 :: 135 :: 87 :: 44 :: 42 :: 29 :: 4 :: 96 :: 46 :: 182 :: 0 :: 138 :: 87 :: 167 :: 1 :: 83 :: 43 :: 182 :: 0 :: 139 :: 87 :: 44 :: 182 :: 0 :: 142 :: 87 :: 167 :: 1 :: 70 :: 43 :: 42 :: 29 :: 4 :: fp_scL_law_25
def fp_scL_law_23 : List Nat := 182 :: 0 :: 130 :: 87 :: 44 :: 42 :: 29 :: 4 :: 96 :: 46 :: 42 :: 29 :: 5 :: 96 :: 46 :: 42 :: 29 :: 6 :: 96 :: 46 :: 42 :: 29 :: 7 :: 96 :: 46 :: 42 :: 29 :: 8 :: 96 :: 46 :: 42 :: 29 :: 16 :: 6 :: 96 :: fp_scL_law_24
def fp_scL_law_22 : List Nat := 167 :: 1 :: 181 :: 43 :: 42 :: 29 :: 4 :: 96 :: 46 :: 42 :: 29 :: 5 :: 96 :: 46 :: 42 :: 29 :: 6 :: 96 :: 46 :: 42 :: 29 :: 7 :: 96 :: 46 :: 42 :: 29 :: 8 :: 96 :: 46 :: 42 :: 29 :: 16 :: 6 :: 96 :: 46 :: fp_scL_law_23
def fp_scL_law_21 : List Nat := 4 :: 96 :: 46 :: 42 :: 29 :: 5 :: 96 :: 46 :: 42 :: 29 :: 6 :: 96 :: 46 :: 182 :: 0 :: 125 :: 88 :: 167 :: 1 :: 204 :: 43 :: 42 :: 29 :: 4 :: 96 :: 46 :: 182 :: 0 :: 126 :: 87 :: 44 :: 42 :: 29 :: 4 :: 96 :: 46 :: 182 :: 0 :: 129 :: 87 :: fp_scL_law_22
def fp_scL_law_20 : List Nat := 4 :: 96 :: 46 :: 42 :: 29 :: 5 :: 96 :: 46 :: 182 :: 0 :: 120 :: 87 :: 167 :: 1 :: 247 :: 43 :: 42 :: 29 :: 4 :: 96 :: 46 :: 42 :: 29 :: 5 :: 96 :: 46 :: 42 :: 29 :: 6 :: 96 :: 46 :: 182 :: 0 :: 121 :: 88 :: 44 :: 42 :: 29 :: fp_scL_law_21
def fp_scL_law_19 : List Nat := 5 :: 96 :: 46 :: 42 :: 29 :: 6 :: 96 :: 46 :: 42 :: 29 :: 7 :: 96 :: 46 :: 182 :: 0 :: 116 :: 87 :: 167 :: 2 :: 24 :: 43 :: 42 :: 29 :: 4 :: 96 :: 46 :: 42 :: 29 :: 5 :: 96 :: 46 :: 182 :: 0 :: 117 :: 87 :: 44 :: 42 :: 29 :: fp_scL_law_20
def fp_scL_law_18 : List Nat := 167 :: 2 :: 77 :: 43 :: 42 :: 29 :: 4 :: 96 :: 46 :: 42 :: 29 :: 5 :: 96 :: 46 :: 42 :: 29 :: 6 :: 96 :: 46 :: 42 :: 29 :: 7 :: 96 :: 46 :: 182 :: 0 :: 113 :: 87 :: 44 :: 42 :: 29 :: 4 :: 96 :: 46 :: 42 :: 29 :: fp_scL_law_19
def fp_scL_law_17 : List Nat := 6 :: 96 :: 46 :: 182 :: 0 :: 108 :: 87 :: 167 :: 2 :: 110 :: 43 :: 42 :: 29 :: 4 :: 96 :: 46 :: 42 :: 29 :: 5 :: 96 :: 46 :: 182 :: 0 :: 109 :: 87 :: 44 :: 42 :: 29 :: 4 :: 96 :: 46 :: 42 :: 29 :: 5 :: 96 :: 46 :: 182 :: 0 :: 112 :: 87 :: fp_scL_law_18
def fp_scL_law_16 : List Nat := 167 :: 2 :: 153 :: 43 :: 42 :: 29 :: 4 :: 96 :: 46 :: 42 :: 29 :: 5 :: 96 :: 46 :: 42 :: 29 :: 6 :: 96 :: 46 :: 182 :: 0 :: 105 :: 87 :: 44 :: 42 :: 29 :: 4 :: 96 :: 46 :: 42 :: 29 :: 5 :: 96 :: 46 :: 42 :: 29 :: fp_scL_law_17
def fp_scL_law_15 : List Nat := 4 :: 96 :: 46 :: 182 :: 0 :: 100 :: 87 :: 167 :: 2 :: 186 :: 43 :: 42 :: 29 :: 4 :: 96 :: 46 :: 42 :: 29 :: 5 :: 96 :: 46 :: 182 :: 0 :: 101 :: 87 :: 44 :: 42 :: 29 :: 4 :: 96 :: 46 :: 42 :: 29 :: 5 :: 96 :: 46 :: 182 :: 0 :: 104 :: 87 :: fp_scL_law_16
def fp_scL_law_14 : List Nat := 44 :: 42 :: 29 :: 4 :: 96 :: 46 :: 42 :: 29 :: 5 :: 96 :: 46 :: 182 :: 0 :: 92 :: 87 :: 167 :: 2 :: 222 :: 43 :: 182 :: 0 :: 93 :: 87 :: 44 :: 182 :: 0 :: 96 :: 87 :: 167 :: 2 :: 209 :: 43 :: 42 :: 29 :: 4 :: 96 :: 46 :: 182 :: 0 :: 97 :: 87 :: 44 :: 42 :: 29 :: fp_scL_law_15
def fp_scL_law_13 : List Nat := 5 :: 96 :: 46 :: 182 :: 0 :: 85 :: 87 :: 44 :: 42 :: 29 :: 4 :: 96 :: 46 :: 42 :: 29 :: 5 :: 96 :: 46 :: 182 :: 0 :: 88 :: 87 :: 167 :: 2 :: 255 :: 43 :: 42 :: 29 :: 4 :: 96 :: 46 :: 42 :: 29 :: 5 :: 96 :: 46 :: 182 :: 0 :: 89 :: 87 :: fp_scL_law_14
def fp_scL_law_12 : List Nat := 29 :: 4 :: 96 :: 46 :: 182 :: 0 :: 80 :: 87 :: 167 :: 3 :: 55 :: 43 :: 42 :: 29 :: 4 :: 96 :: 46 :: 182 :: 0 :: 81 :: 87 :: 44 :: 42 :: 29 :: 4 :: 96 :: 46 :: 182 :: 0 :: 84 :: 87 :: 167 :: 3 :: 32 :: 43 :: 42 :: 29 :: 4 :: 96 :: 46 :: 42 :: 29 :: fp_scL_law_13
def fp_scL_law_11 : List Nat := 29 :: 4 :: 96 :: 46 :: 42 :: 29 :: 5 :: 96 :: 46 :: 42 :: 29 :: 6 :: 96 :: 46 :: 42 :: 29 :: 7 :: 96 :: 46 :: 182 :: 0 :: 76 :: 87 :: 167 :: 3 :: 78 :: 43 :: 42 :: 29 :: 4 :: 96 :: 46 :: 182 :: 0 :: 77 :: 87 :: 44 :: 42 :: fp_scL_law_12
def fp_scL_law_10 : List Nat := 29 :: 6 :: 96 :: 46 :: 182 :: 0 :: 71 :: 87 :: 167 :: 3 :: 131 :: 43 :: 42 :: 29 :: 4 :: 96 :: 46 :: 42 :: 29 :: 5 :: 96 :: 46 :: 42 :: 29 :: 6 :: 96 :: 46 :: 42 :: 29 :: 7 :: 96 :: 46 :: 182 :: 0 :: 72 :: 87 :: 44 :: 42 :: fp_scL_law_11
def fp_scL_law_9 : List Nat := 87 :: 167 :: 3 :: 174 :: 43 :: 42 :: 29 :: 4 :: 96 :: 46 :: 42 :: 29 :: 5 :: 96 :: 46 :: 42 :: 29 :: 6 :: 96 :: 46 :: 182 :: 0 :: 68 :: 87 :: 44 :: 42 :: 29 :: 4 :: 96 :: 46 :: 42 :: 29 :: 5 :: 96 :: 46 :: 42 :: fp_scL_law_10
def fp_scL_law_8 : List Nat := 29 :: 6 :: 96 :: 46 :: 182 :: 0 :: 63 :: 87 :: 167 :: 3 :: 207 :: 43 :: 42 :: 29 :: 4 :: 96 :: 46 :: 42 :: 29 :: 5 :: 96 :: 46 :: 182 :: 0 :: 64 :: 87 :: 44 :: 42 :: 29 :: 4 :: 96 :: 46 :: 42 :: 29 :: 5 :: 96 :: 46 :: 182 :: 0 :: 67 :: fp_scL_law_9
def fp_scL_law_7 : List Nat := 87 :: 167 :: 3 :: 250 :: 43 :: 42 :: 29 :: 4 :: 96 :: 46 :: 42 :: 29 :: 5 :: 96 :: 46 :: 42 :: 29 :: 6 :: 96 :: 46 :: 182 :: 0 :: 59 :: 87 :: 44 :: 42 :: 29 :: 4 :: 96 :: 46 :: 42 :: 29 :: 5 :: 96 :: 46 :: 42 :: fp_scL_law_8
def fp_scL_law_6 : List Nat := 43 :: 42 :: 29 :: 4 :: 96 :: 46 :: 182 :: 0 :: 51 :: 87 :: 44 :: 42 :: 29 :: 4 :: 96 :: 46 :: 182 :: 0 :: 54 :: 87 :: 167 :: 4 :: 17 :: 43 :: 42 :: 29 :: 4 :: 96 :: 46 :: 182 :: 0 :: 55 :: 87 :: 44 :: 42 :: 29 :: 4 :: 96 :: 46 :: 182 :: 0 :: 58 :: fp_scL_law_7
def fp_scL_law_5 : List Nat := 87 :: 44 :: 42 :: 29 :: 4 :: 96 :: 46 :: 42 :: 29 :: 5 :: 96 :: 46 :: 182 :: 0 :: 46 :: 87 :: 167 :: 4 :: 63 :: 43 :: 42 :: 29 :: 4 :: 96 :: 46 :: 182 :: 0 :: 47 :: 87 :: 44 :: 42 :: 29 :: 4 :: 96 :: 46 :: 182 :: 0 :: 50 :: 87 :: 167 :: 4 :: 40 :: fp_scL_law_6
def fp_scL_law_4 : List Nat := 29 :: 5 :: 96 :: 46 :: 182 :: 0 :: 39 :: 87 :: 44 :: 42 :: 29 :: 4 :: 96 :: 46 :: 42 :: 29 :: 5 :: 96 :: 46 :: 182 :: 0 :: 42 :: 87 :: 167 :: 4 :: 96 :: 43 :: 42 :: 29 :: 4 :: 96 :: 46 :: 42 :: 29 :: 5 :: 96 :: 46 :: 182 :: 0 :: 43 :: fp_scL_law_5
def fp_scL_law_3 : List Nat := 29 :: 4 :: 96 :: 46 :: 42 :: 29 :: 5 :: 96 :: 46 :: 182 :: 0 :: 34 :: 87 :: 44 :: 42 :: 29 :: 4 :: 96 :: 46 :: 42 :: 29 :: 5 :: 96 :: 46 :: 182 :: 0 :: 38 :: 87 :: 167 :: 4 :: 129 :: 43 :: 42 :: 29 :: 4 :: 96 :: 46 :: 42 :: fp_scL_law_4
def fp_scL_law_2 : List Nat := 42 :: 29 :: 4 :: 96 :: 46 :: 182 :: 0 :: 20 :: 87 :: 44 :: 42 :: 29 :: 4 :: 96 :: 46 :: 182 :: 0 :: 24 :: 87 :: 167 :: 4 :: 188 :: 43 :: 182 :: 0 :: 25 :: 87 :: 44 :: 182 :: 0 :: 29 :: 87 :: 167 :: 4 :: 175 :: 43 :: 182 :: 0 :: 30 :: 87 :: 44 :: 182 :: 0 :: 33 :: 87 :: 167 :: 4 :: 162 :: 43 :: 42 :: fp_scL_law_3
def fp_scL_law_1 : List Nat := 29 :: 5 :: 96 :: 46 :: 133 :: 20 :: 0 :: 13 :: 127 :: 129 :: 182 :: 0 :: 15 :: 87 :: 44 :: 42 :: 29 :: 4 :: 96 :: 46 :: 133 :: 16 :: 32 :: 121 :: 42 :: 29 :: 5 :: 96 :: 46 :: 133 :: 20 :: 0 :: 13 :: 127 :: 129 :: 182 :: 0 :: 19 :: 87 :: 167 :: 4 :: 211 :: 43 :: fp_scL_law_2
def fp_scL_law_0 : List Nat := 187 :: 0 :: 7 :: 89 :: 183 :: 0 :: 9 :: 76 :: 187 :: 0 :: 10 :: 89 :: 183 :: 0 :: 12 :: 77 :: 3 :: 62 :: 29 :: 42 :: 190 :: 16 :: 7 :: 100 :: 163 :: 5 :: 199 :: 42 :: 29 :: 46 :: 16 :: 63 :: 126 :: 170 :: 0 :: 0 :: 0 :: 0 :: 5 :: 184 :: 0 :: 0 :: 0 :: 0 :: 0 :: 0 :: 0 :: 40 :: 0 :: 0 :: 0 :: 179 :: 0 :: 0 :: 0 :: 232 :: 0 :: 0 :: 0 :: 255 :: 0 :: 0 :: 1 :: 12 :: 0 :: 0 :: 1 :: 25 :: 0 :: 0 :: 1 :: 58 :: 0 :: 0 :: 1 :: 91 :: 0 :: 0 :: 1 :: 124 :: 0 :: 0 :: 1 :: 147 :: 0 :: 0 :: 1 :: 170 :: 0 :: 0 :: 1 :: 193 :: 0 :: 0 :: 1 :: 236 :: 0 :: 0 :: 2 :: 13 :: 0 :: 0 :: 2 :: 56 :: 0 :: 0 :: 2 :: 109 :: 0 :: 0 :: 2 :: 132 :: 0 :: 0 :: 2 :: 155 :: 0 :: 0 :: 2 :: 188 :: 0 :: 0 :: 2 :: 221 :: 0 :: 0 :: 2 :: 234 :: 0 :: 0 :: 3 :: 1 :: 0 :: 0 :: 3 :: 34 :: 0 :: 0 :: 3 :: 77 :: 0 :: 0 :: 3 :: 110 :: 0 :: 0 :: 3 :: 163 :: 0 :: 0 :: 3 :: 196 :: 0 :: 0 :: 3 :: 239 :: 0 :: 0 :: 4 :: 6 :: 0 :: 0 :: 4 :: 81 :: 0 :: 0 :: 4 :: 104 :: 0 :: 0 :: 4 :: 117 :: 0 :: 0 :: 4 :: 150 :: 0 :: 0 :: 4 :: 173 :: 0 :: 0 :: 4 :: 196 :: 0 :: 0 :: 4 :: 219 :: 0 :: 0 :: 4 :: 242 :: 0 :: 0 :: 5 :: 9 :: 0 :: 0 :: 5 :: 52 :: 0 :: 0 :: 5 :: 95 :: 0 :: 0 :: 5 :: 148 :: 0 :: 0 :: 5 :: 161 :: 43 :: 42 :: 29 :: 4 :: 96 :: 46 :: 133 :: 16 :: 32 :: 121 :: 42 :: fp_scL_law_1
theorem fp_bcL_law : bA cL_law 0 fp_scL_law_0 := show cL_law.data.toList.map UInt8.toNat = fp_scL_law_0 from by decide +kernel
theorem fp_hdL_law_0 : (((((decode cL_law 0 = .ok (.new 7, 3) ∧ decode cL_law 3 = .ok (.dup, 1)) ∧ (decode cL_law 4 = .ok (.invokespecial 9, 3) ∧ decode cL_law 7 = .ok (.astore_n 1, 1))) ∧ ((decode cL_law 8 = .ok (.new 10, 3) ∧ decode cL_law 11 = .ok (.dup, 1)) ∧ (decode cL_law 12 = .ok (.invokespecial 12, 3) ∧ decode cL_law 15 = .ok (.astore_n 2, 1)))) ∧ (((decode cL_law 16 = .ok (.iconst 0, 1) ∧ decode cL_law 17 = .ok (.istore_n 3, 1)) ∧ (decode cL_law 18 = .ok (.iload_n 3, 1) ∧ decode cL_law 19 = .ok (.aload_n 0, 1))) ∧ ((decode cL_law 20 = .ok (.arraylength, 1) ∧ decode cL_law 21 = .ok (.bipush 7, 2)) ∧ (decode cL_law 23 = .ok (.isub, 1) ∧ decode cL_law 24 = .ok (.if_icmp .gt 1479, 3))))) ∧ ((((decode cL_law 27 = .ok (.aload_n 0, 1) ∧ decode cL_law 28 = .ok (.iload_n 3, 1)) ∧ (decode cL_law 29 = .ok (.iaload, 1) ∧ decode cL_law 30 = .ok (.bipush 63, 2))) ∧ ((decode cL_law 32 = .ok (.iand, 1) ∧ decode cL_law 33 = .ok (.tableswitch 1464 0 40 #[179, 232, 255, 268, 281, 314, 347, 380, 403, 426, 449, 492, 525, 568, 621, 644, 667, 700, 733, 746, 769, 802, 845, 878, 931, 964, 1007, 1030, 1105, 1128, 1141, 1174, 1197, 1220, 1243, 1266, 1289, 1332, 1375, 1428, 1441], 179)) ∧ (decode cL_law 212 = .ok (.aload_n 1, 1) ∧ decode cL_law 213 = .ok (.aload_n 0, 1)))) ∧ (((decode cL_law 214 = .ok (.iload_n 3, 1) ∧ decode cL_law 215 = .ok (.iconst 1, 1)) ∧ (decode cL_law 216 = .ok (.iadd, 1) ∧ decode cL_law 217 = .ok (.iaload, 1))) ∧ ((decode cL_law 218 = .ok (.i2l, 1) ∧ decode cL_law 219 = .ok (.bipush 32, 2)) ∧ (decode cL_law 221 = .ok (.lshl, 1) ∧ decode cL_law 222 = .ok (.aload_n 0, 1)))))) ∧ bA cL_law 223 fp_scL_law_1 :=
  have q0 := fp_o187 (v := 7) fp_bcL_law rfl
  have q1 := fp_o89 q0.2
  have q2 := fp_o183 (v := 9) q1.2 rfl
  have q3 := fp_o76 q2.2
  have q4 := fp_o187 (v := 10) q3.2 rfl
  have q5 := fp_o89 q4.2
  have q6 := fp_o183 (v := 12) q5.2 rfl
  have q7 := fp_o77 q6.2
  have q8 := fp_o3 q7.2
  have q9 := fp_o62 q8.2
  have q10 := fp_o29 q9.2
  have q11 := fp_o42 q10.2
  have q12 := fp_o190 q11.2
  have q13 := fp_o16 (v := 7) q12.2 rfl
  have q14 := fp_o100 q13.2
  have q15 := fp_o163 (v := 1479) q14.2 rfl
  have q16 := fp_o42 q15.2
  have q17 := fp_o29 q16.2
  have q18 := fp_o46 q17.2
  have q19 := fp_o16 (v := 63) q18.2 rfl
  have q20 := fp_o126 q19.2
  have q21 : decode cL_law 33 = .ok (.tableswitch 1464 0 40 #[179, 232, 255, 268, 281, 314, 347, 380, 403, 426, 449, 492, 525, 568, 621, 644, 667, 700, 733, 746, 769, 802, 845, 878, 931, 964, 1007, 1030, 1105, 1128, 1141, 1174, 1197, 1220, 1243, 1266, 1289, 1332, 1375, 1428, 1441], 179) ∧ bA cL_law 212 (43 :: 42 :: 29 :: 4 :: 96 :: 46 :: 133 :: 16 :: 32 :: 121 :: 42 :: fp_scL_law_1) := ⟨fp_dk (by decide +kernel), bA_skip 179 q20.2⟩
  have q22 := fp_o43 q21.2
  have q23 := fp_o42 q22.2
  have q24 := fp_o29 q23.2
  have q25 := fp_o4 q24.2
  have q26 := fp_o96 q25.2
  have q27 := fp_o46 q26.2
  have q28 := fp_o133 q27.2
  have q29 := fp_o16 (v := 32) q28.2 rfl
  have q30 := fp_o121 q29.2
  have q31 := fp_o42 q30.2
  ⟨⟨⟨⟨⟨⟨q0.1, q1.1⟩, ⟨q2.1, q3.1⟩⟩, ⟨⟨q4.1, q5.1⟩, ⟨q6.1, q7.1⟩⟩⟩, ⟨⟨⟨q8.1, q9.1⟩, ⟨q10.1, q11.1⟩⟩, ⟨⟨q12.1, q13.1⟩, ⟨q14.1, q15.1⟩⟩⟩⟩, ⟨⟨⟨⟨q16.1, q17.1⟩, ⟨q18.1, q19.1⟩⟩, ⟨⟨q20.1, q21.1⟩, ⟨q22.1, q23.1⟩⟩⟩, ⟨⟨⟨q24.1, q25.1⟩, ⟨q26.1, q27.1⟩⟩, ⟨⟨q28.1, q29.1⟩, ⟨q30.1, q31.1⟩⟩⟩⟩⟩, q31.2⟩
theorem dL_law_0 : decode cL_law 0 = .ok (.new 7, 3) := fp_hdL_law_0.1.1.1.1.1.1
theorem dL_law_3 : decode cL_law 3 = .ok (.dup, 1) := fp_hdL_law_0.1.1.1.1.1.2
theorem dL_law_4 : decode cL_law 4 = .ok (.invokespecial 9, 3) := fp_hdL_law_0.1.1.1.1.2.1
theorem dL_law_7 : decode cL_law 7 = .ok (.astore_n 1, 1) := fp_hdL_law_0.1.1.1.1.2.2
theorem dL_law_8 : decode cL_law 8 = .ok (.new 10, 3) := fp_hdL_law_0.1.1.1.2.1.1
theorem dL_law_11 : decode cL_law 11 = .ok (.dup, 1) := fp_hdL_law_0.1.1.1.2.1.2
theorem dL_law_12 : decode cL_law 12 = .ok (.invokespecial 12, 3) := fp_hdL_law_0.1.1.1.2.2.1
theorem dL_law_15 : decode cL_law 15 = .ok (.astore_n 2, 1) := fp_hdL_law_0.1.1.1.2.2.2
theorem dL_law_16 : decode cL_law 16 = .ok (.iconst 0, 1) := fp_hdL_law_0.1.1.2.1.1.1
theorem dL_law_17 : decode cL_law 17 = .ok (.istore_n 3, 1) := fp_hdL_law_0.1.1.2.1.1.2
theorem dL_law_18 : decode cL_law 18 = .ok (.iload_n 3, 1) := fp_hdL_law_0.1.1.2.1.2.1
theorem dL_law_19 : decode cL_law 19 = .ok (.aload_n 0, 1) := fp_hdL_law_0.1.1.2.1.2.2
theorem dL_law_20 : decode cL_law 20 = .ok (.arraylength, 1) := fp_hdL_law_0.1.1.2.2.1.1
theorem dL_law_21 : decode cL_law 21 = .ok (.bipush 7, 2) := fp_hdL_law_0.1.1.2.2.1.2
theorem dL_law_23 : decode cL_law 23 = .ok (.isub, 1) := fp_hdL_law_0.1.1.2.2.2.1
theorem dL_law_24 : decode cL_law 24 = .ok (.if_icmp .gt 1479, 3) := fp_hdL_law_0.1.1.2.2.2.2
theorem dL_law_27 : decode cL_law 27 = .ok (.aload_n 0, 1) := fp_hdL_law_0.1.2.1.1.1.1
theorem dL_law_28 : decode cL_law 28 = .ok (.iload_n 3, 1) := fp_hdL_law_0.1.2.1.1.1.2
theorem dL_law_29 : decode cL_law 29 = .ok (.iaload, 1) := fp_hdL_law_0.1.2.1.1.2.1
theorem dL_law_30 : decode cL_law 30 = .ok (.bipush 63, 2) := fp_hdL_law_0.1.2.1.1.2.2
theorem dL_law_32 : decode cL_law 32 = .ok (.iand, 1) := fp_hdL_law_0.1.2.1.2.1.1
theorem dL_law_33 : decode cL_law 33 = .ok (.tableswitch 1464 0 40 #[179, 232, 255, 268, 281, 314, 347, 380, 403, 426, 449, 492, 525, 568, 621, 644, 667, 700, 733, 746, 769, 802, 845, 878, 931, 964, 1007, 1030, 1105, 1128, 1141, 1174, 1197, 1220, 1243, 1266, 1289, 1332, 1375, 1428, 1441], 179) := fp_hdL_law_0.1.2.1.2.1.2
theorem dL_law_212 : decode cL_law 212 = .ok (.aload_n 1, 1) := fp_hdL_law_0.1.2.1.2.2.1
theorem dL_law_213 : decode cL_law 213 = .ok (.aload_n 0, 1) := fp_hdL_law_0.1.2.1.2.2.2
theorem dL_law_214 : decode cL_law 214 = .ok (.iload_n 3, 1) := fp_hdL_law_0.1.2.2.1.1.1
theorem dL_law_215 : decode cL_law 215 = .ok (.iconst 1, 1) := fp_hdL_law_0.1.2.2.1.1.2
theorem dL_law_216 : decode cL_law 216 = .ok (.iadd, 1) := fp_hdL_law_0.1.2.2.1.2.1
theorem dL_law_217 : decode cL_law 217 = .ok (.iaload, 1) := fp_hdL_law_0.1.2.2.1.2.2
theorem dL_law_218 : decode cL_law 218 = .ok (.i2l, 1) := fp_hdL_law_0.1.2.2.2.1.1
theorem dL_law_219 : decode cL_law 219 = .ok (.bipush 32, 2) := fp_hdL_law_0.1.2.2.2.1.2
theorem dL_law_221 : decode cL_law 221 = .ok (.lshl, 1) := fp_hdL_law_0.1.2.2.2.2.1
theorem dL_law_222 : decode cL_law 222 = .ok (.aload_n 0, 1) := fp_hdL_law_0.1.2.2.2.2.2
theorem fp_hdL_law_223 : (((((decode cL_law 223 = .ok (.iload_n 3, 1) ∧ decode cL_law 224 = .ok (.iconst 2, 1)) ∧ (decode cL_law 225 = .ok (.iadd, 1) ∧ decode cL_law 226 = .ok (.iaload, 1))) ∧ ((decode cL_law 227 = .ok (.i2l, 1) ∧ decode cL_law 228 = .ok (.ldc2_w 13, 3)) ∧ (decode cL_law 231 = .ok (.land, 1) ∧ decode cL_law 232 = .ok (.lor, 1)))) ∧ (((decode cL_law 233 = .ok (.invokevirtual 15, 3) ∧ decode cL_law 236 = .ok (.pop, 1)) ∧ (decode cL_law 237 = .ok (.aload_n 2, 1) ∧ decode cL_law 238 = .ok (.aload_n 0, 1))) ∧ ((decode cL_law 239 = .ok (.iload_n 3, 1) ∧ decode cL_law 240 = .ok (.iconst 1, 1)) ∧ (decode cL_law 241 = .ok (.iadd, 1) ∧ decode cL_law 242 = .ok (.iaload, 1))))) ∧ ((((decode cL_law 243 = .ok (.i2l, 1) ∧ decode cL_law 244 = .ok (.bipush 32, 2)) ∧ (decode cL_law 246 = .ok (.lshl, 1) ∧ decode cL_law 247 = .ok (.aload_n 0, 1))) ∧ ((decode cL_law 248 = .ok (.iload_n 3, 1) ∧ decode cL_law 249 = .ok (.iconst 2, 1)) ∧ (decode cL_law 250 = .ok (.iadd, 1) ∧ decode cL_law 251 = .ok (.iaload, 1)))) ∧ (((decode cL_law 252 = .ok (.i2l, 1) ∧ decode cL_law 253 = .ok (.ldc2_w 13, 3)) ∧ (decode cL_law 256 = .ok (.land, 1) ∧ decode cL_law 257 = .ok (.lor, 1))) ∧ ((decode cL_law 258 = .ok (.invokevirtual 19, 3) ∧ decode cL_law 261 = .ok (.pop, 1)) ∧ (decode cL_law 262 = .ok (.goto 1235, 3) ∧ decode cL_law 265 = .ok (.aload_n 1, 1)))))) ∧ bA cL_law 266 fp_scL_law_2 :=
  have q0 := fp_o29 fp_hdL_law_0.2
  have q1 := fp_o5 q0.2
  have q2 := fp_o96 q1.2
  have q3 := fp_o46 q2.2
  have q4 := fp_o133 q3.2
  have q5 := fp_o20 (v := 13) q4.2 rfl
  have q6 := fp_o127 q5.2
  have q7 := fp_o129 q6.2
  have q8 := fp_o182 (v := 15) q7.2 rfl
  have q9 := fp_o87 q8.2
  have q10 := fp_o44 q9.2
  have q11 := fp_o42 q10.2
  have q12 := fp_o29 q11.2
  have q13 := fp_o4 q12.2
  have q14 := fp_o96 q13.2
  have q15 := fp_o46 q14.2
  have q16 := fp_o133 q15.2
  have q17 := fp_o16 (v := 32) q16.2 rfl
  have q18 := fp_o121 q17.2
  have q19 := fp_o42 q18.2
  have q20 := fp_o29 q19.2
  have q21 := fp_o5 q20.2
  have q22 := fp_o96 q21.2
  have q23 := fp_o46 q22.2
  have q24 := fp_o133 q23.2
  have q25 := fp_o20 (v := 13) q24.2 rfl
  have q26 := fp_o127 q25.2
  have q27 := fp_o129 q26.2
  have q28 := fp_o182 (v := 19) q27.2 rfl
  have q29 := fp_o87 q28.2
  have q30 := fp_o167 (v := 1235) q29.2 rfl
  have q31 := fp_o43 q30.2
  ⟨⟨⟨⟨⟨⟨q0.1, q1.1⟩, ⟨q2.1, q3.1⟩⟩, ⟨⟨q4.1, q5.1⟩, ⟨q6.1, q7.1⟩⟩⟩, ⟨⟨⟨q8.1, q9.1⟩, ⟨q10.1, q11.1⟩⟩, ⟨⟨q12.1, q13.1⟩, ⟨q14.1, q15.1⟩⟩⟩⟩, ⟨⟨⟨⟨q16.1, q17.1⟩, ⟨q18.1, q19.1⟩⟩, ⟨⟨q20.1, q21.1⟩, ⟨q22.1, q23.1⟩⟩⟩, ⟨⟨⟨q24.1, q25.1⟩, ⟨q26.1, q27.1⟩⟩, ⟨⟨q28.1, q29.1⟩, ⟨q30.1, q31.1⟩⟩⟩⟩⟩, q31.2⟩
theorem dL_law_223 : decode cL_law 223 = .ok (.iload_n 3, 1) := fp_hdL_law_223.1.1.1.1.1.1
theorem dL_law_224 : decode cL_law 224 = .ok (.iconst 2, 1) := fp_hdL_law_223.1.1.1.1.1.2
theorem dL_law_225 : decode cL_law 225 = .ok (.iadd, 1) := fp_hdL_law_223.1.1.1.1.2.1
theorem dL_law_226 : decode cL_law 226 = .ok (.iaload, 1) := fp_hdL_law_223.1.1.1.1.2.2
theorem dL_law_227 : decode cL_law 227 = .ok (.i2l, 1) := fp_hdL_law_223.1.1.1.2.1.1
theorem dL_law_228 : decode cL_law 228 = .ok (.ldc2_w 13, 3) := fp_hdL_law_223.1.1.1.2.1.2
theorem dL_law_231 : decode cL_law 231 = .ok (.land, 1) := fp_hdL_law_223.1.1.1.2.2.1
theorem dL_law_232 : decode cL_law 232 = .ok (.lor, 1) := fp_hdL_law_223.1.1.1.2.2.2
theorem dL_law_233 : decode cL_law 233 = .ok (.invokevirtual 15, 3) := fp_hdL_law_223.1.1.2.1.1.1
theorem dL_law_236 : decode cL_law 236 = .ok (.pop, 1) := fp_hdL_law_223.1.1.2.1.1.2
theorem dL_law_237 : decode cL_law 237 = .ok (.aload_n 2, 1) := fp_hdL_law_223.1.1.2.1.2.1
theorem dL_law_238 : decode cL_law 238 = .ok (.aload_n 0, 1) := fp_hdL_law_223.1.1.2.1.2.2
theorem dL_law_239 : decode cL_law 239 = .ok (.iload_n 3, 1) := fp_hdL_law_223.1.1.2.2.1.1
theorem dL_law_240 : decode cL_law 240 = .ok (.iconst 1, 1) := fp_hdL_law_223.1.1.2.2.1.2
theorem dL_law_241 : decode cL_law 241 = .ok (.iadd, 1) := fp_hdL_law_223.1.1.2.2.2.1
theorem dL_law_242 : decode cL_law 242 = .ok (.iaload, 1) := fp_hdL_law_223.1.1.2.2.2.2
theorem dL_law_243 : decode cL_law 243 = .ok (.i2l, 1) := fp_hdL_law_223.1.2.1.1.1.1
theorem dL_law_244 : decode cL_law 244 = .ok (.bipush 32, 2) := fp_hdL_law_223.1.2.1.1.1.2
theorem dL_law_246 : decode cL_law 246 = .ok (.lshl, 1) := fp_hdL_law_223.1.2.1.1.2.1
theorem dL_law_247 : decode cL_law 247 = .ok (.aload_n 0, 1) := fp_hdL_law_223.1.2.1.1.2.2
theorem dL_law_248 : decode cL_law 248 = .ok (.iload_n 3, 1) := fp_hdL_law_223.1.2.1.2.1.1
theorem dL_law_249 : decode cL_law 249 = .ok (.iconst 2, 1) := fp_hdL_law_223.1.2.1.2.1.2
theorem dL_law_250 : decode cL_law 250 = .ok (.iadd, 1) := fp_hdL_law_223.1.2.1.2.2.1
theorem dL_law_251 : decode cL_law 251 = .ok (.iaload, 1) := fp_hdL_law_223.1.2.1.2.2.2
theorem dL_law_252 : decode cL_law 252 = .ok (.i2l, 1) := fp_hdL_law_223.1.2.2.1.1.1
theorem dL_law_253 : decode cL_law 253 = .ok (.ldc2_w 13, 3) := fp_hdL_law_223.1.2.2.1.1.2
theorem dL_law_256 : decode cL_law 256 = .ok (.land, 1) := fp_hdL_law_223.1.2.2.1.2.1
theorem dL_law_257 : decode cL_law 257 = .ok (.lor, 1) := fp_hdL_law_223.1.2.2.1.2.2
theorem dL_law_258 : decode cL_law 258 = .ok (.invokevirtual 19, 3) := fp_hdL_law_223.1.2.2.2.1.1
theorem dL_law_261 : decode cL_law 261 = .ok (.pop, 1) := fp_hdL_law_223.1.2.2.2.1.2
theorem dL_law_262 : decode cL_law 262 = .ok (.goto 1235, 3) := fp_hdL_law_223.1.2.2.2.2.1
theorem dL_law_265 : decode cL_law 265 = .ok (.aload_n 1, 1) := fp_hdL_law_223.1.2.2.2.2.2
theorem fp_hdL_law_266 : (((((decode cL_law 266 = .ok (.aload_n 0, 1) ∧ decode cL_law 267 = .ok (.iload_n 3, 1)) ∧ (decode cL_law 268 = .ok (.iconst 1, 1) ∧ decode cL_law 269 = .ok (.iadd, 1))) ∧ ((decode cL_law 270 = .ok (.iaload, 1) ∧ decode cL_law 271 = .ok (.invokevirtual 20, 3)) ∧ (decode cL_law 274 = .ok (.pop, 1) ∧ decode cL_law 275 = .ok (.aload_n 2, 1)))) ∧ (((decode cL_law 276 = .ok (.aload_n 0, 1) ∧ decode cL_law 277 = .ok (.iload_n 3, 1)) ∧ (decode cL_law 278 = .ok (.iconst 1, 1) ∧ decode cL_law 279 = .ok (.iadd, 1))) ∧ ((decode cL_law 280 = .ok (.iaload, 1) ∧ decode cL_law 281 = .ok (.invokevirtual 24, 3)) ∧ (decode cL_law 284 = .ok (.pop, 1) ∧ decode cL_law 285 = .ok (.goto 1212, 3))))) ∧ ((((decode cL_law 288 = .ok (.aload_n 1, 1) ∧ decode cL_law 289 = .ok (.invokevirtual 25, 3)) ∧ (decode cL_law 292 = .ok (.pop, 1) ∧ decode cL_law 293 = .ok (.aload_n 2, 1))) ∧ ((decode cL_law 294 = .ok (.invokevirtual 29, 3) ∧ decode cL_law 297 = .ok (.pop, 1)) ∧ (decode cL_law 298 = .ok (.goto 1199, 3) ∧ decode cL_law 301 = .ok (.aload_n 1, 1)))) ∧ (((decode cL_law 302 = .ok (.invokevirtual 30, 3) ∧ decode cL_law 305 = .ok (.pop, 1)) ∧ (decode cL_law 306 = .ok (.aload_n 2, 1) ∧ decode cL_law 307 = .ok (.invokevirtual 33, 3))) ∧ ((decode cL_law 310 = .ok (.pop, 1) ∧ decode cL_law 311 = .ok (.goto 1186, 3)) ∧ (decode cL_law 314 = .ok (.aload_n 1, 1) ∧ decode cL_law 315 = .ok (.aload_n 0, 1)))))) ∧ bA cL_law 316 fp_scL_law_3 :=
  have q0 := fp_o42 fp_hdL_law_223.2
  have q1 := fp_o29 q0.2
  have q2 := fp_o4 q1.2
  have q3 := fp_o96 q2.2
  have q4 := fp_o46 q3.2
  have q5 := fp_o182 (v := 20) q4.2 rfl
  have q6 := fp_o87 q5.2
  have q7 := fp_o44 q6.2
  have q8 := fp_o42 q7.2
  have q9 := fp_o29 q8.2
  have q10 := fp_o4 q9.2
  have q11 := fp_o96 q10.2
  have q12 := fp_o46 q11.2
  have q13 := fp_o182 (v := 24) q12.2 rfl
  have q14 := fp_o87 q13.2
  have q15 := fp_o167 (v := 1212) q14.2 rfl
  have q16 := fp_o43 q15.2
  have q17 := fp_o182 (v := 25) q16.2 rfl
  have q18 := fp_o87 q17.2
  have q19 := fp_o44 q18.2
  have q20 := fp_o182 (v := 29) q19.2 rfl
  have q21 := fp_o87 q20.2
  have q22 := fp_o167 (v := 1199) q21.2 rfl
  have q23 := fp_o43 q22.2
  have q24 := fp_o182 (v := 30) q23.2 rfl
  have q25 := fp_o87 q24.2
  have q26 := fp_o44 q25.2
  have q27 := fp_o182 (v := 33) q26.2 rfl
  have q28 := fp_o87 q27.2
  have q29 := fp_o167 (v := 1186) q28.2 rfl
  have q30 := fp_o43 q29.2
  have q31 := fp_o42 q30.2
  ⟨⟨⟨⟨⟨⟨q0.1, q1.1⟩, ⟨q2.1, q3.1⟩⟩, ⟨⟨q4.1, q5.1⟩, ⟨q6.1, q7.1⟩⟩⟩, ⟨⟨⟨q8.1, q9.1⟩, ⟨q10.1, q11.1⟩⟩, ⟨⟨q12.1, q13.1⟩, ⟨q14.1, q15.1⟩⟩⟩⟩, ⟨⟨⟨⟨q16.1, q17.1⟩, ⟨q18.1, q19.1⟩⟩, ⟨⟨q20.1, q21.1⟩, ⟨q22.1, q23.1⟩⟩⟩, ⟨⟨⟨q24.1, q25.1⟩, ⟨q26.1, q27.1⟩⟩, ⟨⟨q28.1, q29.1⟩, ⟨q30.1, q31.1⟩⟩⟩⟩⟩, q31.2⟩
theorem dL_law_266 : decode cL_law 266 = .ok (.aload_n 0, 1) := fp_hdL_law_266.1.1.1.1.1.1
theorem dL_law_267 : decode cL_law 267 = .ok (.iload_n 3, 1) := fp_hdL_law_266.1.1.1.1.1.2
theorem dL_law_268 : decode cL_law 268 = .ok (.iconst 1, 1) := fp_hdL_law_266.1.1.1.1.2.1
theorem dL_law_269 : decode cL_law 269 = .ok (.iadd, 1) := fp_hdL_law_266.1.1.1.1.2.2
theorem dL_law_270 : decode cL_law 270 = .ok (.iaload, 1) := fp_hdL_law_266.1.1.1.2.1.1
theorem dL_law_271 : decode cL_law 271 = .ok (.invokevirtual 20, 3) := fp_hdL_law_266.1.1.1.2.1.2
theorem dL_law_274 : decode cL_law 274 = .ok (.pop, 1) := fp_hdL_law_266.1.1.1.2.2.1
theorem dL_law_275 : decode cL_law 275 = .ok (.aload_n 2, 1) := fp_hdL_law_266.1.1.1.2.2.2
theorem dL_law_276 : decode cL_law 276 = .ok (.aload_n 0, 1) := fp_hdL_law_266.1.1.2.1.1.1
theorem dL_law_277 : decode cL_law 277 = .ok (.iload_n 3, 1) := fp_hdL_law_266.1.1.2.1.1.2
theorem dL_law_278 : decode cL_law 278 = .ok (.iconst 1, 1) := fp_hdL_law_266.1.1.2.1.2.1
theorem dL_law_279 : decode cL_law 279 = .ok (.iadd, 1) := fp_hdL_law_266.1.1.2.1.2.2
theorem dL_law_280 : decode cL_law 280 = .ok (.iaload, 1) := fp_hdL_law_266.1.1.2.2.1.1
theorem dL_law_281 : decode cL_law 281 = .ok (.invokevirtual 24, 3) := fp_hdL_law_266.1.1.2.2.1.2
theorem dL_law_284 : decode cL_law 284 = .ok (.pop, 1) := fp_hdL_law_266.1.1.2.2.2.1
theorem dL_law_285 : decode cL_law 285 = .ok (.goto 1212, 3) := fp_hdL_law_266.1.1.2.2.2.2
theorem dL_law_288 : decode cL_law 288 = .ok (.aload_n 1, 1) := fp_hdL_law_266.1.2.1.1.1.1
theorem dL_law_289 : decode cL_law 289 = .ok (.invokevirtual 25, 3) := fp_hdL_law_266.1.2.1.1.1.2
theorem dL_law_292 : decode cL_law 292 = .ok (.pop, 1) := fp_hdL_law_266.1.2.1.1.2.1
theorem dL_law_293 : decode cL_law 293 = .ok (.aload_n 2, 1) := fp_hdL_law_266.1.2.1.1.2.2
theorem dL_law_294 : decode cL_law 294 = .ok (.invokevirtual 29, 3) := fp_hdL_law_266.1.2.1.2.1.1
theorem dL_law_297 : decode cL_law 297 = .ok (.pop, 1) := fp_hdL_law_266.1.2.1.2.1.2
theorem dL_law_298 : decode cL_law 298 = .ok (.goto 1199, 3) := fp_hdL_law_266.1.2.1.2.2.1
theorem dL_law_301 : decode cL_law 301 = .ok (.aload_n 1, 1) := fp_hdL_law_266.1.2.1.2.2.2
theorem dL_law_302 : decode cL_law 302 = .ok (.invokevirtual 30, 3) := fp_hdL_law_266.1.2.2.1.1.1
theorem dL_law_305 : decode cL_law 305 = .ok (.pop, 1) := fp_hdL_law_266.1.2.2.1.1.2
theorem dL_law_306 : decode cL_law 306 = .ok (.aload_n 2, 1) := fp_hdL_law_266.1.2.2.1.2.1
theorem dL_law_307 : decode cL_law 307 = .ok (.invokevirtual 33, 3) := fp_hdL_law_266.1.2.2.1.2.2
theorem dL_law_310 : decode cL_law 310 = .ok (.pop, 1) := fp_hdL_law_266.1.2.2.2.1.1
theorem dL_law_311 : decode cL_law 311 = .ok (.goto 1186, 3) := fp_hdL_law_266.1.2.2.2.1.2
theorem dL_law_314 : decode cL_law 314 = .ok (.aload_n 1, 1) := fp_hdL_law_266.1.2.2.2.2.1
theorem dL_law_315 : decode cL_law 315 = .ok (.aload_n 0, 1) := fp_hdL_law_266.1.2.2.2.2.2
theorem fp_hdL_law_316 : (((((decode cL_law 316 = .ok (.iload_n 3, 1) ∧ decode cL_law 317 = .ok (.iconst 1, 1)) ∧ (decode cL_law 318 = .ok (.iadd, 1) ∧ decode cL_law 319 = .ok (.iaload, 1))) ∧ ((decode cL_law 320 = .ok (.aload_n 0, 1) ∧ decode cL_law 321 = .ok (.iload_n 3, 1)) ∧ (decode cL_law 322 = .ok (.iconst 2, 1) ∧ decode cL_law 323 = .ok (.iadd, 1)))) ∧ (((decode cL_law 324 = .ok (.iaload, 1) ∧ decode cL_law 325 = .ok (.invokevirtual 34, 3)) ∧ (decode cL_law 328 = .ok (.pop, 1) ∧ decode cL_law 329 = .ok (.aload_n 2, 1))) ∧ ((decode cL_law 330 = .ok (.aload_n 0, 1) ∧ decode cL_law 331 = .ok (.iload_n 3, 1)) ∧ (decode cL_law 332 = .ok (.iconst 1, 1) ∧ decode cL_law 333 = .ok (.iadd, 1))))) ∧ ((((decode cL_law 334 = .ok (.iaload, 1) ∧ decode cL_law 335 = .ok (.aload_n 0, 1)) ∧ (decode cL_law 336 = .ok (.iload_n 3, 1) ∧ decode cL_law 337 = .ok (.iconst 2, 1))) ∧ ((decode cL_law 338 = .ok (.iadd, 1) ∧ decode cL_law 339 = .ok (.iaload, 1)) ∧ (decode cL_law 340 = .ok (.invokevirtual 38, 3) ∧ decode cL_law 343 = .ok (.pop, 1)))) ∧ (((decode cL_law 344 = .ok (.goto 1153, 3) ∧ decode cL_law 347 = .ok (.aload_n 1, 1)) ∧ (decode cL_law 348 = .ok (.aload_n 0, 1) ∧ decode cL_law 349 = .ok (.iload_n 3, 1))) ∧ ((decode cL_law 350 = .ok (.iconst 1, 1) ∧ decode cL_law 351 = .ok (.iadd, 1)) ∧ (decode cL_law 352 = .ok (.iaload, 1) ∧ decode cL_law 353 = .ok (.aload_n 0, 1)))))) ∧ bA cL_law 354 fp_scL_law_4 :=
  have q0 := fp_o29 fp_hdL_law_266.2
  have q1 := fp_o4 q0.2
  have q2 := fp_o96 q1.2
  have q3 := fp_o46 q2.2
  have q4 := fp_o42 q3.2
  have q5 := fp_o29 q4.2
  have q6 := fp_o5 q5.2
  have q7 := fp_o96 q6.2
  have q8 := fp_o46 q7.2
  have q9 := fp_o182 (v := 34) q8.2 rfl
  have q10 := fp_o87 q9.2
  have q11 := fp_o44 q10.2
  have q12 := fp_o42 q11.2
  have q13 := fp_o29 q12.2
  have q14 := fp_o4 q13.2
  have q15 := fp_o96 q14.2
  have q16 := fp_o46 q15.2
  have q17 := fp_o42 q16.2
  have q18 := fp_o29 q17.2
  have q19 := fp_o5 q18.2
  have q20 := fp_o96 q19.2
  have q21 := fp_o46 q20.2
  have q22 := fp_o182 (v := 38) q21.2 rfl
  have q23 := fp_o87 q22.2
  have q24 := fp_o167 (v := 1153) q23.2 rfl
  have q25 := fp_o43 q24.2
  have q26 := fp_o42 q25.2
  have q27 := fp_o29 q26.2
  have q28 := fp_o4 q27.2
  have q29 := fp_o96 q28.2
  have q30 := fp_o46 q29.2
  have q31 := fp_o42 q30.2
  ⟨⟨⟨⟨⟨⟨q0.1, q1.1⟩, ⟨q2.1, q3.1⟩⟩, ⟨⟨q4.1, q5.1⟩, ⟨q6.1, q7.1⟩⟩⟩, ⟨⟨⟨q8.1, q9.1⟩, ⟨q10.1, q11.1⟩⟩, ⟨⟨q12.1, q13.1⟩, ⟨q14.1, q15.1⟩⟩⟩⟩, ⟨⟨⟨⟨q16.1, q17.1⟩, ⟨q18.1, q19.1⟩⟩, ⟨⟨q20.1, q21.1⟩, ⟨q22.1, q23.1⟩⟩⟩, ⟨⟨⟨q24.1, q25.1⟩, ⟨q26.1, q27.1⟩⟩, ⟨⟨q28.1, q29.1⟩, ⟨q30.1, q31.1⟩⟩⟩⟩⟩, q31.2⟩
theorem dL_law_316 : decode cL_law 316 = .ok (.iload_n 3, 1) := fp_hdL_law_316.1.1.1.1.1.1
theorem dL_law_317 : decode cL_law 317 = .ok (.iconst 1, 1) := fp_hdL_law_316.1.1.1.1.1.2
theorem dL_law_318 : decode cL_law 318 = .ok (.iadd, 1) := fp_hdL_law_316.1.1.1.1.2.1
theorem dL_law_319 : decode cL_law 319 = .ok (.iaload, 1) := fp_hdL_law_316.1.1.1.1.2.2
theorem dL_law_320 : decode cL_law 320 = .ok (.aload_n 0, 1) := fp_hdL_law_316.1.1.1.2.1.1
theorem dL_law_321 : decode cL_law 321 = .ok (.iload_n 3, 1) := fp_hdL_law_316.1.1.1.2.1.2
theorem dL_law_322 : decode cL_law 322 = .ok (.iconst 2, 1) := fp_hdL_law_316.1.1.1.2.2.1
theorem dL_law_323 : decode cL_law 323 = .ok (.iadd, 1) := fp_hdL_law_316.1.1.1.2.2.2
theorem dL_law_324 : decode cL_law 324 = .ok (.iaload, 1) := fp_hdL_law_316.1.1.2.1.1.1
theorem dL_law_325 : decode cL_law 325 = .ok (.invokevirtual 34, 3) := fp_hdL_law_316.1.1.2.1.1.2
theorem dL_law_328 : decode cL_law 328 = .ok (.pop, 1) := fp_hdL_law_316.1.1.2.1.2.1
theorem dL_law_329 : decode cL_law 329 = .ok (.aload_n 2, 1) := fp_hdL_law_316.1.1.2.1.2.2
theorem dL_law_330 : decode cL_law 330 = .ok (.aload_n 0, 1) := fp_hdL_law_316.1.1.2.2.1.1
theorem dL_law_331 : decode cL_law 331 = .ok (.iload_n 3, 1) := fp_hdL_law_316.1.1.2.2.1.2
theorem dL_law_332 : decode cL_law 332 = .ok (.iconst 1, 1) := fp_hdL_law_316.1.1.2.2.2.1
theorem dL_law_333 : decode cL_law 333 = .ok (.iadd, 1) := fp_hdL_law_316.1.1.2.2.2.2
theorem dL_law_334 : decode cL_law 334 = .ok (.iaload, 1) := fp_hdL_law_316.1.2.1.1.1.1
theorem dL_law_335 : decode cL_law 335 = .ok (.aload_n 0, 1) := fp_hdL_law_316.1.2.1.1.1.2
theorem dL_law_336 : decode cL_law 336 = .ok (.iload_n 3, 1) := fp_hdL_law_316.1.2.1.1.2.1
theorem dL_law_337 : decode cL_law 337 = .ok (.iconst 2, 1) := fp_hdL_law_316.1.2.1.1.2.2
theorem dL_law_338 : decode cL_law 338 = .ok (.iadd, 1) := fp_hdL_law_316.1.2.1.2.1.1
theorem dL_law_339 : decode cL_law 339 = .ok (.iaload, 1) := fp_hdL_law_316.1.2.1.2.1.2
theorem dL_law_340 : decode cL_law 340 = .ok (.invokevirtual 38, 3) := fp_hdL_law_316.1.2.1.2.2.1
theorem dL_law_343 : decode cL_law 343 = .ok (.pop, 1) := fp_hdL_law_316.1.2.1.2.2.2
theorem dL_law_344 : decode cL_law 344 = .ok (.goto 1153, 3) := fp_hdL_law_316.1.2.2.1.1.1
theorem dL_law_347 : decode cL_law 347 = .ok (.aload_n 1, 1) := fp_hdL_law_316.1.2.2.1.1.2
theorem dL_law_348 : decode cL_law 348 = .ok (.aload_n 0, 1) := fp_hdL_law_316.1.2.2.1.2.1
theorem dL_law_349 : decode cL_law 349 = .ok (.iload_n 3, 1) := fp_hdL_law_316.1.2.2.1.2.2
theorem dL_law_350 : decode cL_law 350 = .ok (.iconst 1, 1) := fp_hdL_law_316.1.2.2.2.1.1
theorem dL_law_351 : decode cL_law 351 = .ok (.iadd, 1) := fp_hdL_law_316.1.2.2.2.1.2
theorem dL_law_352 : decode cL_law 352 = .ok (.iaload, 1) := fp_hdL_law_316.1.2.2.2.2.1
theorem dL_law_353 : decode cL_law 353 = .ok (.aload_n 0, 1) := fp_hdL_law_316.1.2.2.2.2.2
theorem fp_hdL_law_354 : (((((decode cL_law 354 = .ok (.iload_n 3, 1) ∧ decode cL_law 355 = .ok (.iconst 2, 1)) ∧ (decode cL_law 356 = .ok (.iadd, 1) ∧ decode cL_law 357 = .ok (.iaload, 1))) ∧ ((decode cL_law 358 = .ok (.invokevirtual 39, 3) ∧ decode cL_law 361 = .ok (.pop, 1)) ∧ (decode cL_law 362 = .ok (.aload_n 2, 1) ∧ decode cL_law 363 = .ok (.aload_n 0, 1)))) ∧ (((decode cL_law 364 = .ok (.iload_n 3, 1) ∧ decode cL_law 365 = .ok (.iconst 1, 1)) ∧ (decode cL_law 366 = .ok (.iadd, 1) ∧ decode cL_law 367 = .ok (.iaload, 1))) ∧ ((decode cL_law 368 = .ok (.aload_n 0, 1) ∧ decode cL_law 369 = .ok (.iload_n 3, 1)) ∧ (decode cL_law 370 = .ok (.iconst 2, 1) ∧ decode cL_law 371 = .ok (.iadd, 1))))) ∧ ((((decode cL_law 372 = .ok (.iaload, 1) ∧ decode cL_law 373 = .ok (.invokevirtual 42, 3)) ∧ (decode cL_law 376 = .ok (.pop, 1) ∧ decode cL_law 377 = .ok (.goto 1120, 3))) ∧ ((decode cL_law 380 = .ok (.aload_n 1, 1) ∧ decode cL_law 381 = .ok (.aload_n 0, 1)) ∧ (decode cL_law 382 = .ok (.iload_n 3, 1) ∧ decode cL_law 383 = .ok (.iconst 1, 1)))) ∧ (((decode cL_law 384 = .ok (.iadd, 1) ∧ decode cL_law 385 = .ok (.iaload, 1)) ∧ (decode cL_law 386 = .ok (.aload_n 0, 1) ∧ decode cL_law 387 = .ok (.iload_n 3, 1))) ∧ ((decode cL_law 388 = .ok (.iconst 2, 1) ∧ decode cL_law 389 = .ok (.iadd, 1)) ∧ (decode cL_law 390 = .ok (.iaload, 1) ∧ decode cL_law 391 = .ok (.invokevirtual 43, 3)))))) ∧ bA cL_law 394 fp_scL_law_5 :=
  have q0 := fp_o29 fp_hdL_law_316.2
  have q1 := fp_o5 q0.2
  have q2 := fp_o96 q1.2
  have q3 := fp_o46 q2.2
  have q4 := fp_o182 (v := 39) q3.2 rfl
  have q5 := fp_o87 q4.2
  have q6 := fp_o44 q5.2
  have q7 := fp_o42 q6.2
  have q8 := fp_o29 q7.2
  have q9 := fp_o4 q8.2
  have q10 := fp_o96 q9.2
  have q11 := fp_o46 q10.2
  have q12 := fp_o42 q11.2
  have q13 := fp_o29 q12.2
  have q14 := fp_o5 q13.2
  have q15 := fp_o96 q14.2
  have q16 := fp_o46 q15.2
  have q17 := fp_o182 (v := 42) q16.2 rfl
  have q18 := fp_o87 q17.2
  have q19 := fp_o167 (v := 1120) q18.2 rfl
  have q20 := fp_o43 q19.2
  have q21 := fp_o42 q20.2
  have q22 := fp_o29 q21.2
  have q23 := fp_o4 q22.2
  have q24 := fp_o96 q23.2
  have q25 := fp_o46 q24.2
  have q26 := fp_o42 q25.2
  have q27 := fp_o29 q26.2
  have q28 := fp_o5 q27.2
  have q29 := fp_o96 q28.2
  have q30 := fp_o46 q29.2
  have q31 := fp_o182 (v := 43) q30.2 rfl
  ⟨⟨⟨⟨⟨⟨q0.1, q1.1⟩, ⟨q2.1, q3.1⟩⟩, ⟨⟨q4.1, q5.1⟩, ⟨q6.1, q7.1⟩⟩⟩, ⟨⟨⟨q8.1, q9.1⟩, ⟨q10.1, q11.1⟩⟩, ⟨⟨q12.1, q13.1⟩, ⟨q14.1, q15.1⟩⟩⟩⟩, ⟨⟨⟨⟨q16.1, q17.1⟩, ⟨q18.1, q19.1⟩⟩, ⟨⟨q20.1, q21.1⟩, ⟨q22.1, q23.1⟩⟩⟩, ⟨⟨⟨q24.1, q25.1⟩, ⟨q26.1, q27.1⟩⟩, ⟨⟨q28.1, q29.1⟩, ⟨q30.1, q31.1⟩⟩⟩⟩⟩, q31.2⟩
theorem dL_law_354 : decode cL_law 354 = .ok (.iload_n 3, 1) := fp_hdL_law_354.1.1.1.1.1.1
theorem dL_law_355 : decode cL_law 355 = .ok (.iconst 2, 1) := fp_hdL_law_354.1.1.1.1.1.2
theorem dL_law_356 : decode cL_law 356 = .ok (.iadd, 1) := fp_hdL_law_354.1.1.1.1.2.1
theorem dL_law_357 : decode cL_law 357 = .ok (.iaload, 1) := fp_hdL_law_354.1.1.1.1.2.2
theorem dL_law_358 : decode cL_law 358 = .ok (.invokevirtual 39, 3) := fp_hdL_law_354.1.1.1.2.1.1
theorem dL_law_361 : decode cL_law 361 = .ok (.pop, 1) := fp_hdL_law_354.1.1.1.2.1.2
theorem dL_law_362 : decode cL_law 362 = .ok (.aload_n 2, 1) := fp_hdL_law_354.1.1.1.2.2.1
theorem dL_law_363 : decode cL_law 363 = .ok (.aload_n 0, 1) := fp_hdL_law_354.1.1.1.2.2.2
theorem dL_law_364 : decode cL_law 364 = .ok (.iload_n 3, 1) := fp_hdL_law_354.1.1.2.1.1.1
theorem dL_law_365 : decode cL_law 365 = .ok (.iconst 1, 1) := fp_hdL_law_354.1.1.2.1.1.2
theorem dL_law_366 : decode cL_law 366 = .ok (.iadd, 1) := fp_hdL_law_354.1.1.2.1.2.1
theorem dL_law_367 : decode cL_law 367 = .ok (.iaload, 1) := fp_hdL_law_354.1.1.2.1.2.2
theorem dL_law_368 : decode cL_law 368 = .ok (.aload_n 0, 1) := fp_hdL_law_354.1.1.2.2.1.1
theorem dL_law_369 : decode cL_law 369 = .ok (.iload_n 3, 1) := fp_hdL_law_354.1.1.2.2.1.2
theorem dL_law_370 : decode cL_law 370 = .ok (.iconst 2, 1) := fp_hdL_law_354.1.1.2.2.2.1
theorem dL_law_371 : decode cL_law 371 = .ok (.iadd, 1) := fp_hdL_law_354.1.1.2.2.2.2
theorem dL_law_372 : decode cL_law 372 = .ok (.iaload, 1) := fp_hdL_law_354.1.2.1.1.1.1
theorem dL_law_373 : decode cL_law 373 = .ok (.invokevirtual 42, 3) := fp_hdL_law_354.1.2.1.1.1.2
theorem dL_law_376 : decode cL_law 376 = .ok (.pop, 1) := fp_hdL_law_354.1.2.1.1.2.1
theorem dL_law_377 : decode cL_law 377 = .ok (.goto 1120, 3) := fp_hdL_law_354.1.2.1.1.2.2
theorem dL_law_380 : decode cL_law 380 = .ok (.aload_n 1, 1) := fp_hdL_law_354.1.2.1.2.1.1
theorem dL_law_381 : decode cL_law 381 = .ok (.aload_n 0, 1) := fp_hdL_law_354.1.2.1.2.1.2
theorem dL_law_382 : decode cL_law 382 = .ok (.iload_n 3, 1) := fp_hdL_law_354.1.2.1.2.2.1
theorem dL_law_383 : decode cL_law 383 = .ok (.iconst 1, 1) := fp_hdL_law_354.1.2.1.2.2.2
theorem dL_law_384 : decode cL_law 384 = .ok (.iadd, 1) := fp_hdL_law_354.1.2.2.1.1.1
theorem dL_law_385 : decode cL_law 385 = .ok (.iaload, 1) := fp_hdL_law_354.1.2.2.1.1.2
theorem dL_law_386 : decode cL_law 386 = .ok (.aload_n 0, 1) := fp_hdL_law_354.1.2.2.1.2.1
theorem dL_law_387 : decode cL_law 387 = .ok (.iload_n 3, 1) := fp_hdL_law_354.1.2.2.1.2.2
theorem dL_law_388 : decode cL_law 388 = .ok (.iconst 2, 1) := fp_hdL_law_354.1.2.2.2.1.1
theorem dL_law_389 : decode cL_law 389 = .ok (.iadd, 1) := fp_hdL_law_354.1.2.2.2.1.2
theorem dL_law_390 : decode cL_law 390 = .ok (.iaload, 1) := fp_hdL_law_354.1.2.2.2.2.1
theorem dL_law_391 : decode cL_law 391 = .ok (.invokevirtual 43, 3) := fp_hdL_law_354.1.2.2.2.2.2
theorem fp_hdL_law_394 : (((((decode cL_law 394 = .ok (.pop, 1) ∧ decode cL_law 395 = .ok (.aload_n 2, 1)) ∧ (decode cL_law 396 = .ok (.aload_n 0, 1) ∧ decode cL_law 397 = .ok (.iload_n 3, 1))) ∧ ((decode cL_law 398 = .ok (.iconst 1, 1) ∧ decode cL_law 399 = .ok (.iadd, 1)) ∧ (decode cL_law 400 = .ok (.iaload, 1) ∧ decode cL_law 401 = .ok (.aload_n 0, 1)))) ∧ (((decode cL_law 402 = .ok (.iload_n 3, 1) ∧ decode cL_law 403 = .ok (.iconst 2, 1)) ∧ (decode cL_law 404 = .ok (.iadd, 1) ∧ decode cL_law 405 = .ok (.iaload, 1))) ∧ ((decode cL_law 406 = .ok (.invokevirtual 46, 3) ∧ decode cL_law 409 = .ok (.pop, 1)) ∧ (decode cL_law 410 = .ok (.goto 1087, 3) ∧ decode cL_law 413 = .ok (.aload_n 1, 1))))) ∧ ((((decode cL_law 414 = .ok (.aload_n 0, 1) ∧ decode cL_law 415 = .ok (.iload_n 3, 1)) ∧ (decode cL_law 416 = .ok (.iconst 1, 1) ∧ decode cL_law 417 = .ok (.iadd, 1))) ∧ ((decode cL_law 418 = .ok (.iaload, 1) ∧ decode cL_law 419 = .ok (.invokevirtual 47, 3)) ∧ (decode cL_law 422 = .ok (.pop, 1) ∧ decode cL_law 423 = .ok (.aload_n 2, 1)))) ∧ (((decode cL_law 424 = .ok (.aload_n 0, 1) ∧ decode cL_law 425 = .ok (.iload_n 3, 1)) ∧ (decode cL_law 426 = .ok (.iconst 1, 1) ∧ decode cL_law 427 = .ok (.iadd, 1))) ∧ ((decode cL_law 428 = .ok (.iaload, 1) ∧ decode cL_law 429 = .ok (.invokevirtual 50, 3)) ∧ (decode cL_law 432 = .ok (.pop, 1) ∧ decode cL_law 433 = .ok (.goto 1064, 3)))))) ∧ bA cL_law 436 fp_scL_law_6 :=
  have q0 := fp_o87 fp_hdL_law_354.2
  have q1 := fp_o44 q0.2
  have q2 := fp_o42 q1.2
  have q3 := fp_o29 q2.2
  have q4 := fp_o4 q3.2
  have q5 := fp_o96 q4.2
  have q6 := fp_o46 q5.2
  have q7 := fp_o42 q6.2
  have q8 := fp_o29 q7.2
  have q9 := fp_o5 q8.2
  have q10 := fp_o96 q9.2
  have q11 := fp_o46 q10.2
  have q12 := fp_o182 (v := 46) q11.2 rfl
  have q13 := fp_o87 q12.2
  have q14 := fp_o167 (v := 1087) q13.2 rfl
  have q15 := fp_o43 q14.2
  have q16 := fp_o42 q15.2
  have q17 := fp_o29 q16.2
  have q18 := fp_o4 q17.2
  have q19 := fp_o96 q18.2
  have q20 := fp_o46 q19.2
  have q21 := fp_o182 (v := 47) q20.2 rfl
  have q22 := fp_o87 q21.2
  have q23 := fp_o44 q22.2
  have q24 := fp_o42 q23.2
  have q25 := fp_o29 q24.2
  have q26 := fp_o4 q25.2
  have q27 := fp_o96 q26.2
  have q28 := fp_o46 q27.2
  have q29 := fp_o182 (v := 50) q28.2 rfl
  have q30 := fp_o87 q29.2
  have q31 := fp_o167 (v := 1064) q30.2 rfl
  ⟨⟨⟨⟨⟨⟨q0.1, q1.1⟩, ⟨q2.1, q3.1⟩⟩, ⟨⟨q4.1, q5.1⟩, ⟨q6.1, q7.1⟩⟩⟩, ⟨⟨⟨q8.1, q9.1⟩, ⟨q10.1, q11.1⟩⟩, ⟨⟨q12.1, q13.1⟩, ⟨q14.1, q15.1⟩⟩⟩⟩, ⟨⟨⟨⟨q16.1, q17.1⟩, ⟨q18.1, q19.1⟩⟩, ⟨⟨q20.1, q21.1⟩, ⟨q22.1, q23.1⟩⟩⟩, ⟨⟨⟨q24.1, q25.1⟩, ⟨q26.1, q27.1⟩⟩, ⟨⟨q28.1, q29.1⟩, ⟨q30.1, q31.1⟩⟩⟩⟩⟩, q31.2⟩
theorem dL_law_394 : decode cL_law 394 = .ok (.pop, 1) := fp_hdL_law_394.1.1.1.1.1.1
theorem dL_law_395 : decode cL_law 395 = .ok (.aload_n 2, 1) := fp_hdL_law_394.1.1.1.1.1.2
theorem dL_law_396 : decode cL_law 396 = .ok (.aload_n 0, 1) := fp_hdL_law_394.1.1.1.1.2.1
theorem dL_law_397 : decode cL_law 397 = .ok (.iload_n 3, 1) := fp_hdL_law_394.1.1.1.1.2.2
theorem dL_law_398 : decode cL_law 398 = .ok (.iconst 1, 1) := fp_hdL_law_394.1.1.1.2.1.1
theorem dL_law_399 : decode cL_law 399 = .ok (.iadd, 1) := fp_hdL_law_394.1.1.1.2.1.2
theorem dL_law_400 : decode cL_law 400 = .ok (.iaload, 1) := fp_hdL_law_394.1.1.1.2.2.1
theorem dL_law_401 : decode cL_law 401 = .ok (.aload_n 0, 1) := fp_hdL_law_394.1.1.1.2.2.2
theorem dL_law_402 : decode cL_law 402 = .ok (.iload_n 3, 1) := fp_hdL_law_394.1.1.2.1.1.1
theorem dL_law_403 : decode cL_law 403 = .ok (.iconst 2, 1) := fp_hdL_law_394.1.1.2.1.1.2
theorem dL_law_404 : decode cL_law 404 = .ok (.iadd, 1) := fp_hdL_law_394.1.1.2.1.2.1
theorem dL_law_405 : decode cL_law 405 = .ok (.iaload, 1) := fp_hdL_law_394.1.1.2.1.2.2
theorem dL_law_406 : decode cL_law 406 = .ok (.invokevirtual 46, 3) := fp_hdL_law_394.1.1.2.2.1.1
theorem dL_law_409 : decode cL_law 409 = .ok (.pop, 1) := fp_hdL_law_394.1.1.2.2.1.2
theorem dL_law_410 : decode cL_law 410 = .ok (.goto 1087, 3) := fp_hdL_law_394.1.1.2.2.2.1
theorem dL_law_413 : decode cL_law 413 = .ok (.aload_n 1, 1) := fp_hdL_law_394.1.1.2.2.2.2
theorem dL_law_414 : decode cL_law 414 = .ok (.aload_n 0, 1) := fp_hdL_law_394.1.2.1.1.1.1
theorem dL_law_415 : decode cL_law 415 = .ok (.iload_n 3, 1) := fp_hdL_law_394.1.2.1.1.1.2
theorem dL_law_416 : decode cL_law 416 = .ok (.iconst 1, 1) := fp_hdL_law_394.1.2.1.1.2.1
theorem dL_law_417 : decode cL_law 417 = .ok (.iadd, 1) := fp_hdL_law_394.1.2.1.1.2.2
theorem dL_law_418 : decode cL_law 418 = .ok (.iaload, 1) := fp_hdL_law_394.1.2.1.2.1.1
theorem dL_law_419 : decode cL_law 419 = .ok (.invokevirtual 47, 3) := fp_hdL_law_394.1.2.1.2.1.2
theorem dL_law_422 : decode cL_law 422 = .ok (.pop, 1) := fp_hdL_law_394.1.2.1.2.2.1
theorem dL_law_423 : decode cL_law 423 = .ok (.aload_n 2, 1) := fp_hdL_law_394.1.2.1.2.2.2
theorem dL_law_424 : decode cL_law 424 = .ok (.aload_n 0, 1) := fp_hdL_law_394.1.2.2.1.1.1
theorem dL_law_425 : decode cL_law 425 = .ok (.iload_n 3, 1) := fp_hdL_law_394.1.2.2.1.1.2
theorem dL_law_426 : decode cL_law 426 = .ok (.iconst 1, 1) := fp_hdL_law_394.1.2.2.1.2.1
theorem dL_law_427 : decode cL_law 427 = .ok (.iadd, 1) := fp_hdL_law_394.1.2.2.1.2.2
theorem dL_law_428 : decode cL_law 428 = .ok (.iaload, 1) := fp_hdL_law_394.1.2.2.2.1.1
theorem dL_law_429 : decode cL_law 429 = .ok (.invokevirtual 50, 3) := fp_hdL_law_394.1.2.2.2.1.2
theorem dL_law_432 : decode cL_law 432 = .ok (.pop, 1) := fp_hdL_law_394.1.2.2.2.2.1
theorem dL_law_433 : decode cL_law 433 = .ok (.goto 1064, 3) := fp_hdL_law_394.1.2.2.2.2.2
theorem fp_hdL_law_436 : (((((decode cL_law 436 = .ok (.aload_n 1, 1) ∧ decode cL_law 437 = .ok (.aload_n 0, 1)) ∧ (decode cL_law 438 = .ok (.iload_n 3, 1) ∧ decode cL_law 439 = .ok (.iconst 1, 1))) ∧ ((decode cL_law 440 = .ok (.iadd, 1) ∧ decode cL_law 441 = .ok (.iaload, 1)) ∧ (decode cL_law 442 = .ok (.invokevirtual 51, 3) ∧ decode cL_law 445 = .ok (.pop, 1)))) ∧ (((decode cL_law 446 = .ok (.aload_n 2, 1) ∧ decode cL_law 447 = .ok (.aload_n 0, 1)) ∧ (decode cL_law 448 = .ok (.iload_n 3, 1) ∧ decode cL_law 449 = .ok (.iconst 1, 1))) ∧ ((decode cL_law 450 = .ok (.iadd, 1) ∧ decode cL_law 451 = .ok (.iaload, 1)) ∧ (decode cL_law 452 = .ok (.invokevirtual 54, 3) ∧ decode cL_law 455 = .ok (.pop, 1))))) ∧ ((((decode cL_law 456 = .ok (.goto 1041, 3) ∧ decode cL_law 459 = .ok (.aload_n 1, 1)) ∧ (decode cL_law 460 = .ok (.aload_n 0, 1) ∧ decode cL_law 461 = .ok (.iload_n 3, 1))) ∧ ((decode cL_law 462 = .ok (.iconst 1, 1) ∧ decode cL_law 463 = .ok (.iadd, 1)) ∧ (decode cL_law 464 = .ok (.iaload, 1) ∧ decode cL_law 465 = .ok (.invokevirtual 55, 3)))) ∧ (((decode cL_law 468 = .ok (.pop, 1) ∧ decode cL_law 469 = .ok (.aload_n 2, 1)) ∧ (decode cL_law 470 = .ok (.aload_n 0, 1) ∧ decode cL_law 471 = .ok (.iload_n 3, 1))) ∧ ((decode cL_law 472 = .ok (.iconst 1, 1) ∧ decode cL_law 473 = .ok (.iadd, 1)) ∧ (decode cL_law 474 = .ok (.iaload, 1) ∧ decode cL_law 475 = .ok (.invokevirtual 58, 3)))))) ∧ bA cL_law 478 fp_scL_law_7 :=
  have q0 := fp_o43 fp_hdL_law_394.2
  have q1 := fp_o42 q0.2
  have q2 := fp_o29 q1.2
  have q3 := fp_o4 q2.2
  have q4 := fp_o96 q3.2
  have q5 := fp_o46 q4.2
  have q6 := fp_o182 (v := 51) q5.2 rfl
  have q7 := fp_o87 q6.2
  have q8 := fp_o44 q7.2
  have q9 := fp_o42 q8.2
  have q10 := fp_o29 q9.2
  have q11 := fp_o4 q10.2
  have q12 := fp_o96 q11.2
  have q13 := fp_o46 q12.2
  have q14 := fp_o182 (v := 54) q13.2 rfl
  have q15 := fp_o87 q14.2
  have q16 := fp_o167 (v := 1041) q15.2 rfl
  have q17 := fp_o43 q16.2
  have q18 := fp_o42 q17.2
  have q19 := fp_o29 q18.2
  have q20 := fp_o4 q19.2
  have q21 := fp_o96 q20.2
  have q22 := fp_o46 q21.2
  have q23 := fp_o182 (v := 55) q22.2 rfl
  have q24 := fp_o87 q23.2
  have q25 := fp_o44 q24.2
  have q26 := fp_o42 q25.2
  have q27 := fp_o29 q26.2
  have q28 := fp_o4 q27.2
  have q29 := fp_o96 q28.2
  have q30 := fp_o46 q29.2
  have q31 := fp_o182 (v := 58) q30.2 rfl
  ⟨⟨⟨⟨⟨⟨q0.1, q1.1⟩, ⟨q2.1, q3.1⟩⟩, ⟨⟨q4.1, q5.1⟩, ⟨q6.1, q7.1⟩⟩⟩, ⟨⟨⟨q8.1, q9.1⟩, ⟨q10.1, q11.1⟩⟩, ⟨⟨q12.1, q13.1⟩, ⟨q14.1, q15.1⟩⟩⟩⟩, ⟨⟨⟨⟨q16.1, q17.1⟩, ⟨q18.1, q19.1⟩⟩, ⟨⟨q20.1, q21.1⟩, ⟨q22.1, q23.1⟩⟩⟩, ⟨⟨⟨q24.1, q25.1⟩, ⟨q26.1, q27.1⟩⟩, ⟨⟨q28.1, q29.1⟩, ⟨q30.1, q31.1⟩⟩⟩⟩⟩, q31.2⟩
theorem dL_law_436 : decode cL_law 436 = .ok (.aload_n 1, 1) := fp_hdL_law_436.1.1.1.1.1.1
theorem dL_law_437 : decode cL_law 437 = .ok (.aload_n 0, 1) := fp_hdL_law_436.1.1.1.1.1.2
theorem dL_law_438 : decode cL_law 438 = .ok (.iload_n 3, 1) := fp_hdL_law_436.1.1.1.1.2.1
theorem dL_law_439 : decode cL_law 439 = .ok (.iconst 1, 1) := fp_hdL_law_436.1.1.1.1.2.2
theorem dL_law_440 : decode cL_law 440 = .ok (.iadd, 1) := fp_hdL_law_436.1.1.1.2.1.1
theorem dL_law_441 : decode cL_law 441 = .ok (.iaload, 1) := fp_hdL_law_436.1.1.1.2.1.2
theorem dL_law_442 : decode cL_law 442 = .ok (.invokevirtual 51, 3) := fp_hdL_law_436.1.1.1.2.2.1
theorem dL_law_445 : decode cL_law 445 = .ok (.pop, 1) := fp_hdL_law_436.1.1.1.2.2.2
theorem dL_law_446 : decode cL_law 446 = .ok (.aload_n 2, 1) := fp_hdL_law_436.1.1.2.1.1.1
theorem dL_law_447 : decode cL_law 447 = .ok (.aload_n 0, 1) := fp_hdL_law_436.1.1.2.1.1.2
theorem dL_law_448 : decode cL_law 448 = .ok (.iload_n 3, 1) := fp_hdL_law_436.1.1.2.1.2.1
theorem dL_law_449 : decode cL_law 449 = .ok (.iconst 1, 1) := fp_hdL_law_436.1.1.2.1.2.2
theorem dL_law_450 : decode cL_law 450 = .ok (.iadd, 1) := fp_hdL_law_436.1.1.2.2.1.1
theorem dL_law_451 : decode cL_law 451 = .ok (.iaload, 1) := fp_hdL_law_436.1.1.2.2.1.2
theorem dL_law_452 : decode cL_law 452 = .ok (.invokevirtual 54, 3) := fp_hdL_law_436.1.1.2.2.2.1
theorem dL_law_455 : decode cL_law 455 = .ok (.pop, 1) := fp_hdL_law_436.1.1.2.2.2.2
theorem dL_law_456 : decode cL_law 456 = .ok (.goto 1041, 3) := fp_hdL_law_436.1.2.1.1.1.1
theorem dL_law_459 : decode cL_law 459 = .ok (.aload_n 1, 1) := fp_hdL_law_436.1.2.1.1.1.2
theorem dL_law_460 : decode cL_law 460 = .ok (.aload_n 0, 1) := fp_hdL_law_436.1.2.1.1.2.1
theorem dL_law_461 : decode cL_law 461 = .ok (.iload_n 3, 1) := fp_hdL_law_436.1.2.1.1.2.2
theorem dL_law_462 : decode cL_law 462 = .ok (.iconst 1, 1) := fp_hdL_law_436.1.2.1.2.1.1
theorem dL_law_463 : decode cL_law 463 = .ok (.iadd, 1) := fp_hdL_law_436.1.2.1.2.1.2
theorem dL_law_464 : decode cL_law 464 = .ok (.iaload, 1) := fp_hdL_law_436.1.2.1.2.2.1
theorem dL_law_465 : decode cL_law 465 = .ok (.invokevirtual 55, 3) := fp_hdL_law_436.1.2.1.2.2.2
theorem dL_law_468 : decode cL_law 468 = .ok (.pop, 1) := fp_hdL_law_436.1.2.2.1.1.1
theorem dL_law_469 : decode cL_law 469 = .ok (.aload_n 2, 1) := fp_hdL_law_436.1.2.2.1.1.2
theorem dL_law_470 : decode cL_law 470 = .ok (.aload_n 0, 1) := fp_hdL_law_436.1.2.2.1.2.1
theorem dL_law_471 : decode cL_law 471 = .ok (.iload_n 3, 1) := fp_hdL_law_436.1.2.2.1.2.2
theorem dL_law_472 : decode cL_law 472 = .ok (.iconst 1, 1) := fp_hdL_law_436.1.2.2.2.1.1
theorem dL_law_473 : decode cL_law 473 = .ok (.iadd, 1) := fp_hdL_law_436.1.2.2.2.1.2
theorem dL_law_474 : decode cL_law 474 = .ok (.iaload, 1) := fp_hdL_law_436.1.2.2.2.2.1
theorem dL_law_475 : decode cL_law 475 = .ok (.invokevirtual 58, 3) := fp_hdL_law_436.1.2.2.2.2.2
theorem fp_hdL_law_478 : (((((decode cL_law 478 = .ok (.pop, 1) ∧ decode cL_law 479 = .ok (.goto 1018, 3)) ∧ (decode cL_law 482 = .ok (.aload_n 1, 1) ∧ decode cL_law 483 = .ok (.aload_n 0, 1))) ∧ ((decode cL_law 484 = .ok (.iload_n 3, 1) ∧ decode cL_law 485 = .ok (.iconst 1, 1)) ∧ (decode cL_law 486 = .ok (.iadd, 1) ∧ decode cL_law 487 = .ok (.iaload, 1)))) ∧ (((decode cL_law 488 = .ok (.aload_n 0, 1) ∧ decode cL_law 489 = .ok (.iload_n 3, 1)) ∧ (decode cL_law 490 = .ok (.iconst 2, 1) ∧ decode cL_law 491 = .ok (.iadd, 1))) ∧ ((decode cL_law 492 = .ok (.iaload, 1) ∧ decode cL_law 493 = .ok (.aload_n 0, 1)) ∧ (decode cL_law 494 = .ok (.iload_n 3, 1) ∧ decode cL_law 495 = .ok (.iconst 3, 1))))) ∧ ((((decode cL_law 496 = .ok (.iadd, 1) ∧ decode cL_law 497 = .ok (.iaload, 1)) ∧ (decode cL_law 498 = .ok (.invokevirtual 59, 3) ∧ decode cL_law 501 = .ok (.pop, 1))) ∧ ((decode cL_law 502 = .ok (.aload_n 2, 1) ∧ decode cL_law 503 = .ok (.aload_n 0, 1)) ∧ (decode cL_law 504 = .ok (.iload_n 3, 1) ∧ decode cL_law 505 = .ok (.iconst 1, 1)))) ∧ (((decode cL_law 506 = .ok (.iadd, 1) ∧ decode cL_law 507 = .ok (.iaload, 1)) ∧ (decode cL_law 508 = .ok (.aload_n 0, 1) ∧ decode cL_law 509 = .ok (.iload_n 3, 1))) ∧ ((decode cL_law 510 = .ok (.iconst 2, 1) ∧ decode cL_law 511 = .ok (.iadd, 1)) ∧ (decode cL_law 512 = .ok (.iaload, 1) ∧ decode cL_law 513 = .ok (.aload_n 0, 1)))))) ∧ bA cL_law 514 fp_scL_law_8 :=
  have q0 := fp_o87 fp_hdL_law_436.2
  have q1 := fp_o167 (v := 1018) q0.2 rfl
  have q2 := fp_o43 q1.2
  have q3 := fp_o42 q2.2
  have q4 := fp_o29 q3.2
  have q5 := fp_o4 q4.2
  have q6 := fp_o96 q5.2
  have q7 := fp_o46 q6.2
  have q8 := fp_o42 q7.2
  have q9 := fp_o29 q8.2
  have q10 := fp_o5 q9.2
  have q11 := fp_o96 q10.2
  have q12 := fp_o46 q11.2
  have q13 := fp_o42 q12.2
  have q14 := fp_o29 q13.2
  have q15 := fp_o6 q14.2
  have q16 := fp_o96 q15.2
  have q17 := fp_o46 q16.2
  have q18 := fp_o182 (v := 59) q17.2 rfl
  have q19 := fp_o87 q18.2
  have q20 := fp_o44 q19.2
  have q21 := fp_o42 q20.2
  have q22 := fp_o29 q21.2
  have q23 := fp_o4 q22.2
  have q24 := fp_o96 q23.2
  have q25 := fp_o46 q24.2
  have q26 := fp_o42 q25.2
  have q27 := fp_o29 q26.2
  have q28 := fp_o5 q27.2
  have q29 := fp_o96 q28.2
  have q30 := fp_o46 q29.2
  have q31 := fp_o42 q30.2
  ⟨⟨⟨⟨⟨⟨q0.1, q1.1⟩, ⟨q2.1, q3.1⟩⟩, ⟨⟨q4.1, q5.1⟩, ⟨q6.1, q7.1⟩⟩⟩, ⟨⟨⟨q8.1, q9.1⟩, ⟨q10.1, q11.1⟩⟩, ⟨⟨q12.1, q13.1⟩, ⟨q14.1, q15.1⟩⟩⟩⟩, ⟨⟨⟨⟨q16.1, q17.1⟩, ⟨q18.1, q19.1⟩⟩, ⟨⟨q20.1, q21.1⟩, ⟨q22.1, q23.1⟩⟩⟩, ⟨⟨⟨q24.1, q25.1⟩, ⟨q26.1, q27.1⟩⟩, ⟨⟨q28.1, q29.1⟩, ⟨q30.1, q31.1⟩⟩⟩⟩⟩, q31.2⟩
theorem dL_law_478 : decode cL_law 478 = .ok (.pop, 1) := fp_hdL_law_478.1.1.1.1.1.1
theorem dL_law_479 : decode cL_law 479 = .ok (.goto 1018, 3) := fp_hdL_law_478.1.1.1.1.1.2
theorem dL_law_482 : decode cL_law 482 = .ok (.aload_n 1, 1) := fp_hdL_law_478.1.1.1.1.2.1
theorem dL_law_483 : decode cL_law 483 = .ok (.aload_n 0, 1) := fp_hdL_law_478.1.1.1.1.2.2
theorem dL_law_484 : decode cL_law 484 = .ok (.iload_n 3, 1) := fp_hdL_law_478.1.1.1.2.1.1
theorem dL_law_485 : decode cL_law 485 = .ok (.iconst 1, 1) := fp_hdL_law_478.1.1.1.2.1.2
theorem dL_law_486 : decode cL_law 486 = .ok (.iadd, 1) := fp_hdL_law_478.1.1.1.2.2.1
theorem dL_law_487 : decode cL_law 487 = .ok (.iaload, 1) := fp_hdL_law_478.1.1.1.2.2.2
theorem dL_law_488 : decode cL_law 488 = .ok (.aload_n 0, 1) := fp_hdL_law_478.1.1.2.1.1.1
theorem dL_law_489 : decode cL_law 489 = .ok (.iload_n 3, 1) := fp_hdL_law_478.1.1.2.1.1.2
theorem dL_law_490 : decode cL_law 490 = .ok (.iconst 2, 1) := fp_hdL_law_478.1.1.2.1.2.1
theorem dL_law_491 : decode cL_law 491 = .ok (.iadd, 1) := fp_hdL_law_478.1.1.2.1.2.2
theorem dL_law_492 : decode cL_law 492 = .ok (.iaload, 1) := fp_hdL_law_478.1.1.2.2.1.1
theorem dL_law_493 : decode cL_law 493 = .ok (.aload_n 0, 1) := fp_hdL_law_478.1.1.2.2.1.2
theorem dL_law_494 : decode cL_law 494 = .ok (.iload_n 3, 1) := fp_hdL_law_478.1.1.2.2.2.1
theorem dL_law_495 : decode cL_law 495 = .ok (.iconst 3, 1) := fp_hdL_law_478.1.1.2.2.2.2
theorem dL_law_496 : decode cL_law 496 = .ok (.iadd, 1) := fp_hdL_law_478.1.2.1.1.1.1
theorem dL_law_497 : decode cL_law 497 = .ok (.iaload, 1) := fp_hdL_law_478.1.2.1.1.1.2
theorem dL_law_498 : decode cL_law 498 = .ok (.invokevirtual 59, 3) := fp_hdL_law_478.1.2.1.1.2.1
theorem dL_law_501 : decode cL_law 501 = .ok (.pop, 1) := fp_hdL_law_478.1.2.1.1.2.2
theorem dL_law_502 : decode cL_law 502 = .ok (.aload_n 2, 1) := fp_hdL_law_478.1.2.1.2.1.1
theorem dL_law_503 : decode cL_law 503 = .ok (.aload_n 0, 1) := fp_hdL_law_478.1.2.1.2.1.2
theorem dL_law_504 : decode cL_law 504 = .ok (.iload_n 3, 1) := fp_hdL_law_478.1.2.1.2.2.1
theorem dL_law_505 : decode cL_law 505 = .ok (.iconst 1, 1) := fp_hdL_law_478.1.2.1.2.2.2
theorem dL_law_506 : decode cL_law 506 = .ok (.iadd, 1) := fp_hdL_law_478.1.2.2.1.1.1
theorem dL_law_507 : decode cL_law 507 = .ok (.iaload, 1) := fp_hdL_law_478.1.2.2.1.1.2
theorem dL_law_508 : decode cL_law 508 = .ok (.aload_n 0, 1) := fp_hdL_law_478.1.2.2.1.2.1
theorem dL_law_509 : decode cL_law 509 = .ok (.iload_n 3, 1) := fp_hdL_law_478.1.2.2.1.2.2
theorem dL_law_510 : decode cL_law 510 = .ok (.iconst 2, 1) := fp_hdL_law_478.1.2.2.2.1.1
theorem dL_law_511 : decode cL_law 511 = .ok (.iadd, 1) := fp_hdL_law_478.1.2.2.2.1.2
theorem dL_law_512 : decode cL_law 512 = .ok (.iaload, 1) := fp_hdL_law_478.1.2.2.2.2.1
theorem dL_law_513 : decode cL_law 513 = .ok (.aload_n 0, 1) := fp_hdL_law_478.1.2.2.2.2.2
theorem fp_hdL_law_514 : (((((decode cL_law 514 = .ok (.iload_n 3, 1) ∧ decode cL_law 515 = .ok (.iconst 3, 1)) ∧ (decode cL_law 516 = .ok (.iadd, 1) ∧ decode cL_law 517 = .ok (.iaload, 1))) ∧ ((decode cL_law 518 = .ok (.invokevirtual 63, 3) ∧ decode cL_law 521 = .ok (.pop, 1)) ∧ (decode cL_law 522 = .ok (.goto 975, 3) ∧ decode cL_law 525 = .ok (.aload_n 1, 1)))) ∧ (((decode cL_law 526 = .ok (.aload_n 0, 1) ∧ decode cL_law 527 = .ok (.iload_n 3, 1)) ∧ (decode cL_law 528 = .ok (.iconst 1, 1) ∧ decode cL_law 529 = .ok (.iadd, 1))) ∧ ((decode cL_law 530 = .ok (.iaload, 1) ∧ decode cL_law 531 = .ok (.aload_n 0, 1)) ∧ (decode cL_law 532 = .ok (.iload_n 3, 1) ∧ decode cL_law 533 = .ok (.iconst 2, 1))))) ∧ ((((decode cL_law 534 = .ok (.iadd, 1) ∧ decode cL_law 535 = .ok (.iaload, 1)) ∧ (decode cL_law 536 = .ok (.invokevirtual 64, 3) ∧ decode cL_law 539 = .ok (.pop, 1))) ∧ ((decode cL_law 540 = .ok (.aload_n 2, 1) ∧ decode cL_law 541 = .ok (.aload_n 0, 1)) ∧ (decode cL_law 542 = .ok (.iload_n 3, 1) ∧ decode cL_law 543 = .ok (.iconst 1, 1)))) ∧ (((decode cL_law 544 = .ok (.iadd, 1) ∧ decode cL_law 545 = .ok (.iaload, 1)) ∧ (decode cL_law 546 = .ok (.aload_n 0, 1) ∧ decode cL_law 547 = .ok (.iload_n 3, 1))) ∧ ((decode cL_law 548 = .ok (.iconst 2, 1) ∧ decode cL_law 549 = .ok (.iadd, 1)) ∧ (decode cL_law 550 = .ok (.iaload, 1) ∧ decode cL_law 551 = .ok (.invokevirtual 67, 3)))))) ∧ bA cL_law 554 fp_scL_law_9 :=
  have q0 := fp_o29 fp_hdL_law_478.2
  have q1 := fp_o6 q0.2
  have q2 := fp_o96 q1.2
  have q3 := fp_o46 q2.2
  have q4 := fp_o182 (v := 63) q3.2 rfl
  have q5 := fp_o87 q4.2
  have q6 := fp_o167 (v := 975) q5.2 rfl
  have q7 := fp_o43 q6.2
  have q8 := fp_o42 q7.2
  have q9 := fp_o29 q8.2
  have q10 := fp_o4 q9.2
  have q11 := fp_o96 q10.2
  have q12 := fp_o46 q11.2
  have q13 := fp_o42 q12.2
  have q14 := fp_o29 q13.2
  have q15 := fp_o5 q14.2
  have q16 := fp_o96 q15.2
  have q17 := fp_o46 q16.2
  have q18 := fp_o182 (v := 64) q17.2 rfl
  have q19 := fp_o87 q18.2
  have q20 := fp_o44 q19.2
  have q21 := fp_o42 q20.2
  have q22 := fp_o29 q21.2
  have q23 := fp_o4 q22.2
  have q24 := fp_o96 q23.2
  have q25 := fp_o46 q24.2
  have q26 := fp_o42 q25.2
  have q27 := fp_o29 q26.2
  have q28 := fp_o5 q27.2
  have q29 := fp_o96 q28.2
  have q30 := fp_o46 q29.2
  have q31 := fp_o182 (v := 67) q30.2 rfl
  ⟨⟨⟨⟨⟨⟨q0.1, q1.1⟩, ⟨q2.1, q3.1⟩⟩, ⟨⟨q4.1, q5.1⟩, ⟨q6.1, q7.1⟩⟩⟩, ⟨⟨⟨q8.1, q9.1⟩, ⟨q10.1, q11.1⟩⟩, ⟨⟨q12.1, q13.1⟩, ⟨q14.1, q15.1⟩⟩⟩⟩, ⟨⟨⟨⟨q16.1, q17.1⟩, ⟨q18.1, q19.1⟩⟩, ⟨⟨q20.1, q21.1⟩, ⟨q22.1, q23.1⟩⟩⟩, ⟨⟨⟨q24.1, q25.1⟩, ⟨q26.1, q27.1⟩⟩, ⟨⟨q28.1, q29.1⟩, ⟨q30.1, q31.1⟩⟩⟩⟩⟩, q31.2⟩
theorem dL_law_514 : decode cL_law 514 = .ok (.iload_n 3, 1) := fp_hdL_law_514.1.1.1.1.1.1
theorem dL_law_515 : decode cL_law 515 = .ok (.iconst 3, 1) := fp_hdL_law_514.1.1.1.1.1.2
theorem dL_law_516 : decode cL_law 516 = .ok (.iadd, 1) := fp_hdL_law_514.1.1.1.1.2.1
theorem dL_law_517 : decode cL_law 517 = .ok (.iaload, 1) := fp_hdL_law_514.1.1.1.1.2.2
theorem dL_law_518 : decode cL_law 518 = .ok (.invokevirtual 63, 3) := fp_hdL_law_514.1.1.1.2.1.1
theorem dL_law_521 : decode cL_law 521 = .ok (.pop, 1) := fp_hdL_law_514.1.1.1.2.1.2
theorem dL_law_522 : decode cL_law 522 = .ok (.goto 975, 3) := fp_hdL_law_514.1.1.1.2.2.1
theorem dL_law_525 : decode cL_law 525 = .ok (.aload_n 1, 1) := fp_hdL_law_514.1.1.1.2.2.2
theorem dL_law_526 : decode cL_law 526 = .ok (.aload_n 0, 1) := fp_hdL_law_514.1.1.2.1.1.1
theorem dL_law_527 : decode cL_law 527 = .ok (.iload_n 3, 1) := fp_hdL_law_514.1.1.2.1.1.2
theorem dL_law_528 : decode cL_law 528 = .ok (.iconst 1, 1) := fp_hdL_law_514.1.1.2.1.2.1
theorem dL_law_529 : decode cL_law 529 = .ok (.iadd, 1) := fp_hdL_law_514.1.1.2.1.2.2
theorem dL_law_530 : decode cL_law 530 = .ok (.iaload, 1) := fp_hdL_law_514.1.1.2.2.1.1
theorem dL_law_531 : decode cL_law 531 = .ok (.aload_n 0, 1) := fp_hdL_law_514.1.1.2.2.1.2
theorem dL_law_532 : decode cL_law 532 = .ok (.iload_n 3, 1) := fp_hdL_law_514.1.1.2.2.2.1
theorem dL_law_533 : decode cL_law 533 = .ok (.iconst 2, 1) := fp_hdL_law_514.1.1.2.2.2.2
theorem dL_law_534 : decode cL_law 534 = .ok (.iadd, 1) := fp_hdL_law_514.1.2.1.1.1.1
theorem dL_law_535 : decode cL_law 535 = .ok (.iaload, 1) := fp_hdL_law_514.1.2.1.1.1.2
theorem dL_law_536 : decode cL_law 536 = .ok (.invokevirtual 64, 3) := fp_hdL_law_514.1.2.1.1.2.1
theorem dL_law_539 : decode cL_law 539 = .ok (.pop, 1) := fp_hdL_law_514.1.2.1.1.2.2
theorem dL_law_540 : decode cL_law 540 = .ok (.aload_n 2, 1) := fp_hdL_law_514.1.2.1.2.1.1
theorem dL_law_541 : decode cL_law 541 = .ok (.aload_n 0, 1) := fp_hdL_law_514.1.2.1.2.1.2
theorem dL_law_542 : decode cL_law 542 = .ok (.iload_n 3, 1) := fp_hdL_law_514.1.2.1.2.2.1
theorem dL_law_543 : decode cL_law 543 = .ok (.iconst 1, 1) := fp_hdL_law_514.1.2.1.2.2.2
theorem dL_law_544 : decode cL_law 544 = .ok (.iadd, 1) := fp_hdL_law_514.1.2.2.1.1.1
theorem dL_law_545 : decode cL_law 545 = .ok (.iaload, 1) := fp_hdL_law_514.1.2.2.1.1.2
theorem dL_law_546 : decode cL_law 546 = .ok (.aload_n 0, 1) := fp_hdL_law_514.1.2.2.1.2.1
theorem dL_law_547 : decode cL_law 547 = .ok (.iload_n 3, 1) := fp_hdL_law_514.1.2.2.1.2.2
theorem dL_law_548 : decode cL_law 548 = .ok (.iconst 2, 1) := fp_hdL_law_514.1.2.2.2.1.1
theorem dL_law_549 : decode cL_law 549 = .ok (.iadd, 1) := fp_hdL_law_514.1.2.2.2.1.2
theorem dL_law_550 : decode cL_law 550 = .ok (.iaload, 1) := fp_hdL_law_514.1.2.2.2.2.1
theorem dL_law_551 : decode cL_law 551 = .ok (.invokevirtual 67, 3) := fp_hdL_law_514.1.2.2.2.2.2
theorem fp_hdL_law_554 : (((((decode cL_law 554 = .ok (.pop, 1) ∧ decode cL_law 555 = .ok (.goto 942, 3)) ∧ (decode cL_law 558 = .ok (.aload_n 1, 1) ∧ decode cL_law 559 = .ok (.aload_n 0, 1))) ∧ ((decode cL_law 560 = .ok (.iload_n 3, 1) ∧ decode cL_law 561 = .ok (.iconst 1, 1)) ∧ (decode cL_law 562 = .ok (.iadd, 1) ∧ decode cL_law 563 = .ok (.iaload, 1)))) ∧ (((decode cL_law 564 = .ok (.aload_n 0, 1) ∧ decode cL_law 565 = .ok (.iload_n 3, 1)) ∧ (decode cL_law 566 = .ok (.iconst 2, 1) ∧ decode cL_law 567 = .ok (.iadd, 1))) ∧ ((decode cL_law 568 = .ok (.iaload, 1) ∧ decode cL_law 569 = .ok (.aload_n 0, 1)) ∧ (decode cL_law 570 = .ok (.iload_n 3, 1) ∧ decode cL_law 571 = .ok (.iconst 3, 1))))) ∧ ((((decode cL_law 572 = .ok (.iadd, 1) ∧ decode cL_law 573 = .ok (.iaload, 1)) ∧ (decode cL_law 574 = .ok (.invokevirtual 68, 3) ∧ decode cL_law 577 = .ok (.pop, 1))) ∧ ((decode cL_law 578 = .ok (.aload_n 2, 1) ∧ decode cL_law 579 = .ok (.aload_n 0, 1)) ∧ (decode cL_law 580 = .ok (.iload_n 3, 1) ∧ decode cL_law 581 = .ok (.iconst 1, 1)))) ∧ (((decode cL_law 582 = .ok (.iadd, 1) ∧ decode cL_law 583 = .ok (.iaload, 1)) ∧ (decode cL_law 584 = .ok (.aload_n 0, 1) ∧ decode cL_law 585 = .ok (.iload_n 3, 1))) ∧ ((decode cL_law 586 = .ok (.iconst 2, 1) ∧ decode cL_law 587 = .ok (.iadd, 1)) ∧ (decode cL_law 588 = .ok (.iaload, 1) ∧ decode cL_law 589 = .ok (.aload_n 0, 1)))))) ∧ bA cL_law 590 fp_scL_law_10 :=
  have q0 := fp_o87 fp_hdL_law_514.2
  have q1 := fp_o167 (v := 942) q0.2 rfl
  have q2 := fp_o43 q1.2
  have q3 := fp_o42 q2.2
  have q4 := fp_o29 q3.2
  have q5 := fp_o4 q4.2
  have q6 := fp_o96 q5.2
  have q7 := fp_o46 q6.2
  have q8 := fp_o42 q7.2
  have q9 := fp_o29 q8.2
  have q10 := fp_o5 q9.2
  have q11 := fp_o96 q10.2
  have q12 := fp_o46 q11.2
  have q13 := fp_o42 q12.2
  have q14 := fp_o29 q13.2
  have q15 := fp_o6 q14.2
  have q16 := fp_o96 q15.2
  have q17 := fp_o46 q16.2
  have q18 := fp_o182 (v := 68) q17.2 rfl
  have q19 := fp_o87 q18.2
  have q20 := fp_o44 q19.2
  have q21 := fp_o42 q20.2
  have q22 := fp_o29 q21.2
  have q23 := fp_o4 q22.2
  have q24 := fp_o96 q23.2
  have q25 := fp_o46 q24.2
  have q26 := fp_o42 q25.2
  have q27 := fp_o29 q26.2
  have q28 := fp_o5 q27.2
  have q29 := fp_o96 q28.2
  have q30 := fp_o46 q29.2
  have q31 := fp_o42 q30.2
  ⟨⟨⟨⟨⟨⟨q0.1, q1.1⟩, ⟨q2.1, q3.1⟩⟩, ⟨⟨q4.1, q5.1⟩, ⟨q6.1, q7.1⟩⟩⟩, ⟨⟨⟨q8.1, q9.1⟩, ⟨q10.1, q11.1⟩⟩, ⟨⟨q12.1, q13.1⟩, ⟨q14.1, q15.1⟩⟩⟩⟩, ⟨⟨⟨⟨q16.1, q17.1⟩, ⟨q18.1, q19.1⟩⟩, ⟨⟨q20.1, q21.1⟩, ⟨q22.1, q23.1⟩⟩⟩, ⟨⟨⟨q24.1, q25.1⟩, ⟨q26.1, q27.1⟩⟩, ⟨⟨q28.1, q29.1⟩, ⟨q30.1, q31.1⟩⟩⟩⟩⟩, q31.2⟩
theorem dL_law_554 : decode cL_law 554 = .ok (.pop, 1) := fp_hdL_law_554.1.1.1.1.1.1
theorem dL_law_555 : decode cL_law 555 = .ok (.goto 942, 3) := fp_hdL_law_554.1.1.1.1.1.2
theorem dL_law_558 : decode cL_law 558 = .ok (.aload_n 1, 1) := fp_hdL_law_554.1.1.1.1.2.1
theorem dL_law_559 : decode cL_law 559 = .ok (.aload_n 0, 1) := fp_hdL_law_554.1.1.1.1.2.2
theorem dL_law_560 : decode cL_law 560 = .ok (.iload_n 3, 1) := fp_hdL_law_554.1.1.1.2.1.1
theorem dL_law_561 : decode cL_law 561 = .ok (.iconst 1, 1) := fp_hdL_law_554.1.1.1.2.1.2
theorem dL_law_562 : decode cL_law 562 = .ok (.iadd, 1) := fp_hdL_law_554.1.1.1.2.2.1
theorem dL_law_563 : decode cL_law 563 = .ok (.iaload, 1) := fp_hdL_law_554.1.1.1.2.2.2
theorem dL_law_564 : decode cL_law 564 = .ok (.aload_n 0, 1) := fp_hdL_law_554.1.1.2.1.1.1
theorem dL_law_565 : decode cL_law 565 = .ok (.iload_n 3, 1) := fp_hdL_law_554.1.1.2.1.1.2
theorem dL_law_566 : decode cL_law 566 = .ok (.iconst 2, 1) := fp_hdL_law_554.1.1.2.1.2.1
theorem dL_law_567 : decode cL_law 567 = .ok (.iadd, 1) := fp_hdL_law_554.1.1.2.1.2.2
theorem dL_law_568 : decode cL_law 568 = .ok (.iaload, 1) := fp_hdL_law_554.1.1.2.2.1.1
theorem dL_law_569 : decode cL_law 569 = .ok (.aload_n 0, 1) := fp_hdL_law_554.1.1.2.2.1.2
theorem dL_law_570 : decode cL_law 570 = .ok (.iload_n 3, 1) := fp_hdL_law_554.1.1.2.2.2.1
theorem dL_law_571 : decode cL_law 571 = .ok (.iconst 3, 1) := fp_hdL_law_554.1.1.2.2.2.2
theorem dL_law_572 : decode cL_law 572 = .ok (.iadd, 1) := fp_hdL_law_554.1.2.1.1.1.1
theorem dL_law_573 : decode cL_law 573 = .ok (.iaload, 1) := fp_hdL_law_554.1.2.1.1.1.2
theorem dL_law_574 : decode cL_law 574 = .ok (.invokevirtual 68, 3) := fp_hdL_law_554.1.2.1.1.2.1
theorem dL_law_577 : decode cL_law 577 = .ok (.pop, 1) := fp_hdL_law_554.1.2.1.1.2.2
theorem dL_law_578 : decode cL_law 578 = .ok (.aload_n 2, 1) := fp_hdL_law_554.1.2.1.2.1.1
theorem dL_law_579 : decode cL_law 579 = .ok (.aload_n 0, 1) := fp_hdL_law_554.1.2.1.2.1.2
theorem dL_law_580 : decode cL_law 580 = .ok (.iload_n 3, 1) := fp_hdL_law_554.1.2.1.2.2.1
theorem dL_law_581 : decode cL_law 581 = .ok (.iconst 1, 1) := fp_hdL_law_554.1.2.1.2.2.2
theorem dL_law_582 : decode cL_law 582 = .ok (.iadd, 1) := fp_hdL_law_554.1.2.2.1.1.1
theorem dL_law_583 : decode cL_law 583 = .ok (.iaload, 1) := fp_hdL_law_554.1.2.2.1.1.2
theorem dL_law_584 : decode cL_law 584 = .ok (.aload_n 0, 1) := fp_hdL_law_554.1.2.2.1.2.1
theorem dL_law_585 : decode cL_law 585 = .ok (.iload_n 3, 1) := fp_hdL_law_554.1.2.2.1.2.2
theorem dL_law_586 : decode cL_law 586 = .ok (.iconst 2, 1) := fp_hdL_law_554.1.2.2.2.1.1
theorem dL_law_587 : decode cL_law 587 = .ok (.iadd, 1) := fp_hdL_law_554.1.2.2.2.1.2
theorem dL_law_588 : decode cL_law 588 = .ok (.iaload, 1) := fp_hdL_law_554.1.2.2.2.2.1
theorem dL_law_589 : decode cL_law 589 = .ok (.aload_n 0, 1) := fp_hdL_law_554.1.2.2.2.2.2
theorem fp_hdL_law_590 : (((((decode cL_law 590 = .ok (.iload_n 3, 1) ∧ decode cL_law 591 = .ok (.iconst 3, 1)) ∧ (decode cL_law 592 = .ok (.iadd, 1) ∧ decode cL_law 593 = .ok (.iaload, 1))) ∧ ((decode cL_law 594 = .ok (.invokevirtual 71, 3) ∧ decode cL_law 597 = .ok (.pop, 1)) ∧ (decode cL_law 598 = .ok (.goto 899, 3) ∧ decode cL_law 601 = .ok (.aload_n 1, 1)))) ∧ (((decode cL_law 602 = .ok (.aload_n 0, 1) ∧ decode cL_law 603 = .ok (.iload_n 3, 1)) ∧ (decode cL_law 604 = .ok (.iconst 1, 1) ∧ decode cL_law 605 = .ok (.iadd, 1))) ∧ ((decode cL_law 606 = .ok (.iaload, 1) ∧ decode cL_law 607 = .ok (.aload_n 0, 1)) ∧ (decode cL_law 608 = .ok (.iload_n 3, 1) ∧ decode cL_law 609 = .ok (.iconst 2, 1))))) ∧ ((((decode cL_law 610 = .ok (.iadd, 1) ∧ decode cL_law 611 = .ok (.iaload, 1)) ∧ (decode cL_law 612 = .ok (.aload_n 0, 1) ∧ decode cL_law 613 = .ok (.iload_n 3, 1))) ∧ ((decode cL_law 614 = .ok (.iconst 3, 1) ∧ decode cL_law 615 = .ok (.iadd, 1)) ∧ (decode cL_law 616 = .ok (.iaload, 1) ∧ decode cL_law 617 = .ok (.aload_n 0, 1)))) ∧ (((decode cL_law 618 = .ok (.iload_n 3, 1) ∧ decode cL_law 619 = .ok (.iconst 4, 1)) ∧ (decode cL_law 620 = .ok (.iadd, 1) ∧ decode cL_law 621 = .ok (.iaload, 1))) ∧ ((decode cL_law 622 = .ok (.invokevirtual 72, 3) ∧ decode cL_law 625 = .ok (.pop, 1)) ∧ (decode cL_law 626 = .ok (.aload_n 2, 1) ∧ decode cL_law 627 = .ok (.aload_n 0, 1)))))) ∧ bA cL_law 628 fp_scL_law_11 :=
  have q0 := fp_o29 fp_hdL_law_554.2
  have q1 := fp_o6 q0.2
  have q2 := fp_o96 q1.2
  have q3 := fp_o46 q2.2
  have q4 := fp_o182 (v := 71) q3.2 rfl
  have q5 := fp_o87 q4.2
  have q6 := fp_o167 (v := 899) q5.2 rfl
  have q7 := fp_o43 q6.2
  have q8 := fp_o42 q7.2
  have q9 := fp_o29 q8.2
  have q10 := fp_o4 q9.2
  have q11 := fp_o96 q10.2
  have q12 := fp_o46 q11.2
  have q13 := fp_o42 q12.2
  have q14 := fp_o29 q13.2
  have q15 := fp_o5 q14.2
  have q16 := fp_o96 q15.2
  have q17 := fp_o46 q16.2
  have q18 := fp_o42 q17.2
  have q19 := fp_o29 q18.2
  have q20 := fp_o6 q19.2
  have q21 := fp_o96 q20.2
  have q22 := fp_o46 q21.2
  have q23 := fp_o42 q22.2
  have q24 := fp_o29 q23.2
  have q25 := fp_o7 q24.2
  have q26 := fp_o96 q25.2
  have q27 := fp_o46 q26.2
  have q28 := fp_o182 (v := 72) q27.2 rfl
  have q29 := fp_o87 q28.2
  have q30 := fp_o44 q29.2
  have q31 := fp_o42 q30.2
  ⟨⟨⟨⟨⟨⟨q0.1, q1.1⟩, ⟨q2.1, q3.1⟩⟩, ⟨⟨q4.1, q5.1⟩, ⟨q6.1, q7.1⟩⟩⟩, ⟨⟨⟨q8.1, q9.1⟩, ⟨q10.1, q11.1⟩⟩, ⟨⟨q12.1, q13.1⟩, ⟨q14.1, q15.1⟩⟩⟩⟩, ⟨⟨⟨⟨q16.1, q17.1⟩, ⟨q18.1, q19.1⟩⟩, ⟨⟨q20.1, q21.1⟩, ⟨q22.1, q23.1⟩⟩⟩, ⟨⟨⟨q24.1, q25.1⟩, ⟨q26.1, q27.1⟩⟩, ⟨⟨q28.1, q29.1⟩, ⟨q30.1, q31.1⟩⟩⟩⟩⟩, q31.2⟩
theorem dL_law_590 : decode cL_law 590 = .ok (.iload_n 3, 1) := fp_hdL_law_590.1.1.1.1.1.1
theorem dL_law_591 : decode cL_law 591 = .ok (.iconst 3, 1) := fp_hdL_law_590.1.1.1.1.1.2
theorem dL_law_592 : decode cL_law 592 = .ok (.iadd, 1) := fp_hdL_law_590.1.1.1.1.2.1
theorem dL_law_593 : decode cL_law 593 = .ok (.iaload, 1) := fp_hdL_law_590.1.1.1.1.2.2
theorem dL_law_594 : decode cL_law 594 = .ok (.invokevirtual 71, 3) := fp_hdL_law_590.1.1.1.2.1.1
theorem dL_law_597 : decode cL_law 597 = .ok (.pop, 1) := fp_hdL_law_590.1.1.1.2.1.2
theorem dL_law_598 : decode cL_law 598 = .ok (.goto 899, 3) := fp_hdL_law_590.1.1.1.2.2.1
theorem dL_law_601 : decode cL_law 601 = .ok (.aload_n 1, 1) := fp_hdL_law_590.1.1.1.2.2.2
theorem dL_law_602 : decode cL_law 602 = .ok (.aload_n 0, 1) := fp_hdL_law_590.1.1.2.1.1.1
theorem dL_law_603 : decode cL_law 603 = .ok (.iload_n 3, 1) := fp_hdL_law_590.1.1.2.1.1.2
theorem dL_law_604 : decode cL_law 604 = .ok (.iconst 1, 1) := fp_hdL_law_590.1.1.2.1.2.1
theorem dL_law_605 : decode cL_law 605 = .ok (.iadd, 1) := fp_hdL_law_590.1.1.2.1.2.2
theorem dL_law_606 : decode cL_law 606 = .ok (.iaload, 1) := fp_hdL_law_590.1.1.2.2.1.1
theorem dL_law_607 : decode cL_law 607 = .ok (.aload_n 0, 1) := fp_hdL_law_590.1.1.2.2.1.2
theorem dL_law_608 : decode cL_law 608 = .ok (.iload_n 3, 1) := fp_hdL_law_590.1.1.2.2.2.1
theorem dL_law_609 : decode cL_law 609 = .ok (.iconst 2, 1) := fp_hdL_law_590.1.1.2.2.2.2
theorem dL_law_610 : decode cL_law 610 = .ok (.iadd, 1) := fp_hdL_law_590.1.2.1.1.1.1
theorem dL_law_611 : decode cL_law 611 = .ok (.iaload, 1) := fp_hdL_law_590.1.2.1.1.1.2
theorem dL_law_612 : decode cL_law 612 = .ok (.aload_n 0, 1) := fp_hdL_law_590.1.2.1.1.2.1
theorem dL_law_613 : decode cL_law 613 = .ok (.iload_n 3, 1) := fp_hdL_law_590.1.2.1.1.2.2
theorem dL_law_614 : decode cL_law 614 = .ok (.iconst 3, 1) := fp_hdL_law_590.1.2.1.2.1.1
theorem dL_law_615 : decode cL_law 615 = .ok (.iadd, 1) := fp_hdL_law_590.1.2.1.2.1.2
theorem dL_law_616 : decode cL_law 616 = .ok (.iaload, 1) := fp_hdL_law_590.1.2.1.2.2.1
theorem dL_law_617 : decode cL_law 617 = .ok (.aload_n 0, 1) := fp_hdL_law_590.1.2.1.2.2.2
theorem dL_law_618 : decode cL_law 618 = .ok (.iload_n 3, 1) := fp_hdL_law_590.1.2.2.1.1.1
theorem dL_law_619 : decode cL_law 619 = .ok (.iconst 4, 1) := fp_hdL_law_590.1.2.2.1.1.2
theorem dL_law_620 : decode cL_law 620 = .ok (.iadd, 1) := fp_hdL_law_590.1.2.2.1.2.1
theorem dL_law_621 : decode cL_law 621 = .ok (.iaload, 1) := fp_hdL_law_590.1.2.2.1.2.2
theorem dL_law_622 : decode cL_law 622 = .ok (.invokevirtual 72, 3) := fp_hdL_law_590.1.2.2.2.1.1
theorem dL_law_625 : decode cL_law 625 = .ok (.pop, 1) := fp_hdL_law_590.1.2.2.2.1.2
theorem dL_law_626 : decode cL_law 626 = .ok (.aload_n 2, 1) := fp_hdL_law_590.1.2.2.2.2.1
theorem dL_law_627 : decode cL_law 627 = .ok (.aload_n 0, 1) := fp_hdL_law_590.1.2.2.2.2.2
theorem fp_hdL_law_628 : (((((decode cL_law 628 = .ok (.iload_n 3, 1) ∧ decode cL_law 629 = .ok (.iconst 1, 1)) ∧ (decode cL_law 630 = .ok (.iadd, 1) ∧ decode cL_law 631 = .ok (.iaload, 1))) ∧ ((decode cL_law 632 = .ok (.aload_n 0, 1) ∧ decode cL_law 633 = .ok (.iload_n 3, 1)) ∧ (decode cL_law 634 = .ok (.iconst 2, 1) ∧ decode cL_law 635 = .ok (.iadd, 1)))) ∧ (((decode cL_law 636 = .ok (.iaload, 1) ∧ decode cL_law 637 = .ok (.aload_n 0, 1)) ∧ (decode cL_law 638 = .ok (.iload_n 3, 1) ∧ decode cL_law 639 = .ok (.iconst 3, 1))) ∧ ((decode cL_law 640 = .ok (.iadd, 1) ∧ decode cL_law 641 = .ok (.iaload, 1)) ∧ (decode cL_law 642 = .ok (.aload_n 0, 1) ∧ decode cL_law 643 = .ok (.iload_n 3, 1))))) ∧ ((((decode cL_law 644 = .ok (.iconst 4, 1) ∧ decode cL_law 645 = .ok (.iadd, 1)) ∧ (decode cL_law 646 = .ok (.iaload, 1) ∧ decode cL_law 647 = .ok (.invokevirtual 76, 3))) ∧ ((decode cL_law 650 = .ok (.pop, 1) ∧ decode cL_law 651 = .ok (.goto 846, 3)) ∧ (decode cL_law 654 = .ok (.aload_n 1, 1) ∧ decode cL_law 655 = .ok (.aload_n 0, 1)))) ∧ (((decode cL_law 656 = .ok (.iload_n 3, 1) ∧ decode cL_law 657 = .ok (.iconst 1, 1)) ∧ (decode cL_law 658 = .ok (.iadd, 1) ∧ decode cL_law 659 = .ok (.iaload, 1))) ∧ ((decode cL_law 660 = .ok (.invokevirtual 77, 3) ∧ decode cL_law 663 = .ok (.pop, 1)) ∧ (decode cL_law 664 = .ok (.aload_n 2, 1) ∧ decode cL_law 665 = .ok (.aload_n 0, 1)))))) ∧ bA cL_law 666 fp_scL_law_12 :=
  have q0 := fp_o29 fp_hdL_law_590.2
  have q1 := fp_o4 q0.2
  have q2 := fp_o96 q1.2
  have q3 := fp_o46 q2.2
  have q4 := fp_o42 q3.2
  have q5 := fp_o29 q4.2
  have q6 := fp_o5 q5.2
  have q7 := fp_o96 q6.2
  have q8 := fp_o46 q7.2
  have q9 := fp_o42 q8.2
  have q10 := fp_o29 q9.2
  have q11 := fp_o6 q10.2
  have q12 := fp_o96 q11.2
  have q13 := fp_o46 q12.2
  have q14 := fp_o42 q13.2
  have q15 := fp_o29 q14.2
  have q16 := fp_o7 q15.2
  have q17 := fp_o96 q16.2
  have q18 := fp_o46 q17.2
  have q19 := fp_o182 (v := 76) q18.2 rfl
  have q20 := fp_o87 q19.2
  have q21 := fp_o167 (v := 846) q20.2 rfl
  have q22 := fp_o43 q21.2
  have q23 := fp_o42 q22.2
  have q24 := fp_o29 q23.2
  have q25 := fp_o4 q24.2
  have q26 := fp_o96 q25.2
  have q27 := fp_o46 q26.2
  have q28 := fp_o182 (v := 77) q27.2 rfl
  have q29 := fp_o87 q28.2
  have q30 := fp_o44 q29.2
  have q31 := fp_o42 q30.2
  ⟨⟨⟨⟨⟨⟨q0.1, q1.1⟩, ⟨q2.1, q3.1⟩⟩, ⟨⟨q4.1, q5.1⟩, ⟨q6.1, q7.1⟩⟩⟩, ⟨⟨⟨q8.1, q9.1⟩, ⟨q10.1, q11.1⟩⟩, ⟨⟨q12.1, q13.1⟩, ⟨q14.1, q15.1⟩⟩⟩⟩, ⟨⟨⟨⟨q16.1, q17.1⟩, ⟨q18.1, q19.1⟩⟩, ⟨⟨q20.1, q21.1⟩, ⟨q22.1, q23.1⟩⟩⟩, ⟨⟨⟨q24.1, q25.1⟩, ⟨q26.1, q27.1⟩⟩, ⟨⟨q28.1, q29.1⟩, ⟨q30.1, q31.1⟩⟩⟩⟩⟩, q31.2⟩
theorem dL_law_628 : decode cL_law 628 = .ok (.iload_n 3, 1) := fp_hdL_law_628.1.1.1.1.1.1
theorem dL_law_629 : decode cL_law 629 = .ok (.iconst 1, 1) := fp_hdL_law_628.1.1.1.1.1.2
theorem dL_law_630 : decode cL_law 630 = .ok (.iadd, 1) := fp_hdL_law_628.1.1.1.1.2.1
theorem dL_law_631 : decode cL_law 631 = .ok (.iaload, 1) := fp_hdL_law_628.1.1.1.1.2.2
theorem dL_law_632 : decode cL_law 632 = .ok (.aload_n 0, 1) := fp_hdL_law_628.1.1.1.2.1.1
theorem dL_law_633 : decode cL_law 633 = .ok (.iload_n 3, 1) := fp_hdL_law_628.1.1.1.2.1.2
theorem dL_law_634 : decode cL_law 634 = .ok (.iconst 2, 1) := fp_hdL_law_628.1.1.1.2.2.1
theorem dL_law_635 : decode cL_law 635 = .ok (.iadd, 1) := fp_hdL_law_628.1.1.1.2.2.2
theorem dL_law_636 : decode cL_law 636 = .ok (.iaload, 1) := fp_hdL_law_628.1.1.2.1.1.1
theorem dL_law_637 : decode cL_law 637 = .ok (.aload_n 0, 1) := fp_hdL_law_628.1.1.2.1.1.2
theorem dL_law_638 : decode cL_law 638 = .ok (.iload_n 3, 1) := fp_hdL_law_628.1.1.2.1.2.1
theorem dL_law_639 : decode cL_law 639 = .ok (.iconst 3, 1) := fp_hdL_law_628.1.1.2.1.2.2
theorem dL_law_640 : decode cL_law 640 = .ok (.iadd, 1) := fp_hdL_law_628.1.1.2.2.1.1
theorem dL_law_641 : decode cL_law 641 = .ok (.iaload, 1) := fp_hdL_law_628.1.1.2.2.1.2
theorem dL_law_642 : decode cL_law 642 = .ok (.aload_n 0, 1) := fp_hdL_law_628.1.1.2.2.2.1
theorem dL_law_643 : decode cL_law 643 = .ok (.iload_n 3, 1) := fp_hdL_law_628.1.1.2.2.2.2
theorem dL_law_644 : decode cL_law 644 = .ok (.iconst 4, 1) := fp_hdL_law_628.1.2.1.1.1.1
theorem dL_law_645 : decode cL_law 645 = .ok (.iadd, 1) := fp_hdL_law_628.1.2.1.1.1.2
theorem dL_law_646 : decode cL_law 646 = .ok (.iaload, 1) := fp_hdL_law_628.1.2.1.1.2.1
theorem dL_law_647 : decode cL_law 647 = .ok (.invokevirtual 76, 3) := fp_hdL_law_628.1.2.1.1.2.2
theorem dL_law_650 : decode cL_law 650 = .ok (.pop, 1) := fp_hdL_law_628.1.2.1.2.1.1
theorem dL_law_651 : decode cL_law 651 = .ok (.goto 846, 3) := fp_hdL_law_628.1.2.1.2.1.2
theorem dL_law_654 : decode cL_law 654 = .ok (.aload_n 1, 1) := fp_hdL_law_628.1.2.1.2.2.1
theorem dL_law_655 : decode cL_law 655 = .ok (.aload_n 0, 1) := fp_hdL_law_628.1.2.1.2.2.2
theorem dL_law_656 : decode cL_law 656 = .ok (.iload_n 3, 1) := fp_hdL_law_628.1.2.2.1.1.1
theorem dL_law_657 : decode cL_law 657 = .ok (.iconst 1, 1) := fp_hdL_law_628.1.2.2.1.1.2
theorem dL_law_658 : decode cL_law 658 = .ok (.iadd, 1) := fp_hdL_law_628.1.2.2.1.2.1
theorem dL_law_659 : decode cL_law 659 = .ok (.iaload, 1) := fp_hdL_law_628.1.2.2.1.2.2
theorem dL_law_660 : decode cL_law 660 = .ok (.invokevirtual 77, 3) := fp_hdL_law_628.1.2.2.2.1.1
theorem dL_law_663 : decode cL_law 663 = .ok (.pop, 1) := fp_hdL_law_628.1.2.2.2.1.2
theorem dL_law_664 : decode cL_law 664 = .ok (.aload_n 2, 1) := fp_hdL_law_628.1.2.2.2.2.1
theorem dL_law_665 : decode cL_law 665 = .ok (.aload_n 0, 1) := fp_hdL_law_628.1.2.2.2.2.2
theorem fp_hdL_law_666 : (((((decode cL_law 666 = .ok (.iload_n 3, 1) ∧ decode cL_law 667 = .ok (.iconst 1, 1)) ∧ (decode cL_law 668 = .ok (.iadd, 1) ∧ decode cL_law 669 = .ok (.iaload, 1))) ∧ ((decode cL_law 670 = .ok (.invokevirtual 80, 3) ∧ decode cL_law 673 = .ok (.pop, 1)) ∧ (decode cL_law 674 = .ok (.goto 823, 3) ∧ decode cL_law 677 = .ok (.aload_n 1, 1)))) ∧ (((decode cL_law 678 = .ok (.aload_n 0, 1) ∧ decode cL_law 679 = .ok (.iload_n 3, 1)) ∧ (decode cL_law 680 = .ok (.iconst 1, 1) ∧ decode cL_law 681 = .ok (.iadd, 1))) ∧ ((decode cL_law 682 = .ok (.iaload, 1) ∧ decode cL_law 683 = .ok (.invokevirtual 81, 3)) ∧ (decode cL_law 686 = .ok (.pop, 1) ∧ decode cL_law 687 = .ok (.aload_n 2, 1))))) ∧ ((((decode cL_law 688 = .ok (.aload_n 0, 1) ∧ decode cL_law 689 = .ok (.iload_n 3, 1)) ∧ (decode cL_law 690 = .ok (.iconst 1, 1) ∧ decode cL_law 691 = .ok (.iadd, 1))) ∧ ((decode cL_law 692 = .ok (.iaload, 1) ∧ decode cL_law 693 = .ok (.invokevirtual 84, 3)) ∧ (decode cL_law 696 = .ok (.pop, 1) ∧ decode cL_law 697 = .ok (.goto 800, 3)))) ∧ (((decode cL_law 700 = .ok (.aload_n 1, 1) ∧ decode cL_law 701 = .ok (.aload_n 0, 1)) ∧ (decode cL_law 702 = .ok (.iload_n 3, 1) ∧ decode cL_law 703 = .ok (.iconst 1, 1))) ∧ ((decode cL_law 704 = .ok (.iadd, 1) ∧ decode cL_law 705 = .ok (.iaload, 1)) ∧ (decode cL_law 706 = .ok (.aload_n 0, 1) ∧ decode cL_law 707 = .ok (.iload_n 3, 1)))))) ∧ bA cL_law 708 fp_scL_law_13 :=
  have q0 := fp_o29 fp_hdL_law_628.2
  have q1 := fp_o4 q0.2
  have q2 := fp_o96 q1.2
  have q3 := fp_o46 q2.2
  have q4 := fp_o182 (v := 80) q3.2 rfl
  have q5 := fp_o87 q4.2
  have q6 := fp_o167 (v := 823) q5.2 rfl
  have q7 := fp_o43 q6.2
  have q8 := fp_o42 q7.2
  have q9 := fp_o29 q8.2
  have q10 := fp_o4 q9.2
  have q11 := fp_o96 q10.2
  have q12 := fp_o46 q11.2
  have q13 := fp_o182 (v := 81) q12.2 rfl
  have q14 := fp_o87 q13.2
  have q15 := fp_o44 q14.2
  have q16 := fp_o42 q15.2
  have q17 := fp_o29 q16.2
  have q18 := fp_o4 q17.2
  have q19 := fp_o96 q18.2
  have q20 := fp_o46 q19.2
  have q21 := fp_o182 (v := 84) q20.2 rfl
  have q22 := fp_o87 q21.2
  have q23 := fp_o167 (v := 800) q22.2 rfl
  have q24 := fp_o43 q23.2
  have q25 := fp_o42 q24.2
  have q26 := fp_o29 q25.2
  have q27 := fp_o4 q26.2
  have q28 := fp_o96 q27.2
  have q29 := fp_o46 q28.2
  have q30 := fp_o42 q29.2
  have q31 := fp_o29 q30.2
  ⟨⟨⟨⟨⟨⟨q0.1, q1.1⟩, ⟨q2.1, q3.1⟩⟩, ⟨⟨q4.1, q5.1⟩, ⟨q6.1, q7.1⟩⟩⟩, ⟨⟨⟨q8.1, q9.1⟩, ⟨q10.1, q11.1⟩⟩, ⟨⟨q12.1, q13.1⟩, ⟨q14.1, q15.1⟩⟩⟩⟩, ⟨⟨⟨⟨q16.1, q17.1⟩, ⟨q18.1, q19.1⟩⟩, ⟨⟨q20.1, q21.1⟩, ⟨q22.1, q23.1⟩⟩⟩, ⟨⟨⟨q24.1, q25.1⟩, ⟨q26.1, q27.1⟩⟩, ⟨⟨q28.1, q29.1⟩, ⟨q30.1, q31.1⟩⟩⟩⟩⟩, q31.2⟩
theorem dL_law_666 : decode cL_law 666 = .ok (.iload_n 3, 1) := fp_hdL_law_666.1.1.1.1.1.1
theorem dL_law_667 : decode cL_law 667 = .ok (.iconst 1, 1) := fp_hdL_law_666.1.1.1.1.1.2
theorem dL_law_668 : decode cL_law 668 = .ok (.iadd, 1) := fp_hdL_law_666.1.1.1.1.2.1
theorem dL_law_669 : decode cL_law 669 = .ok (.iaload, 1) := fp_hdL_law_666.1.1.1.1.2.2
theorem dL_law_670 : decode cL_law 670 = .ok (.invokevirtual 80, 3) := fp_hdL_law_666.1.1.1.2.1.1
theorem dL_law_673 : decode cL_law 673 = .ok (.pop, 1) := fp_hdL_law_666.1.1.1.2.1.2
theorem dL_law_674 : decode cL_law 674 = .ok (.goto 823, 3) := fp_hdL_law_666.1.1.1.2.2.1
theorem dL_law_677 : decode cL_law 677 = .ok (.aload_n 1, 1) := fp_hdL_law_666.1.1.1.2.2.2
theorem dL_law_678 : decode cL_law 678 = .ok (.aload_n 0, 1) := fp_hdL_law_666.1.1.2.1.1.1
theorem dL_law_679 : decode cL_law 679 = .ok (.iload_n 3, 1) := fp_hdL_law_666.1.1.2.1.1.2
theorem dL_law_680 : decode cL_law 680 = .ok (.iconst 1, 1) := fp_hdL_law_666.1.1.2.1.2.1
theorem dL_law_681 : decode cL_law 681 = .ok (.iadd, 1) := fp_hdL_law_666.1.1.2.1.2.2
theorem dL_law_682 : decode cL_law 682 = .ok (.iaload, 1) := fp_hdL_law_666.1.1.2.2.1.1
theorem dL_law_683 : decode cL_law 683 = .ok (.invokevirtual 81, 3) := fp_hdL_law_666.1.1.2.2.1.2
theorem dL_law_686 : decode cL_law 686 = .ok (.pop, 1) := fp_hdL_law_666.1.1.2.2.2.1
theorem dL_law_687 : decode cL_law 687 = .ok (.aload_n 2, 1) := fp_hdL_law_666.1.1.2.2.2.2
theorem dL_law_688 : decode cL_law 688 = .ok (.aload_n 0, 1) := fp_hdL_law_666.1.2.1.1.1.1
theorem dL_law_689 : decode cL_law 689 = .ok (.iload_n 3, 1) := fp_hdL_law_666.1.2.1.1.1.2
theorem dL_law_690 : decode cL_law 690 = .ok (.iconst 1, 1) := fp_hdL_law_666.1.2.1.1.2.1
theorem dL_law_691 : decode cL_law 691 = .ok (.iadd, 1) := fp_hdL_law_666.1.2.1.1.2.2
theorem dL_law_692 : decode cL_law 692 = .ok (.iaload, 1) := fp_hdL_law_666.1.2.1.2.1.1
theorem dL_law_693 : decode cL_law 693 = .ok (.invokevirtual 84, 3) := fp_hdL_law_666.1.2.1.2.1.2
theorem dL_law_696 : decode cL_law 696 = .ok (.pop, 1) := fp_hdL_law_666.1.2.1.2.2.1
theorem dL_law_697 : decode cL_law 697 = .ok (.goto 800, 3) := fp_hdL_law_666.1.2.1.2.2.2
theorem dL_law_700 : decode cL_law 700 = .ok (.aload_n 1, 1) := fp_hdL_law_666.1.2.2.1.1.1
theorem dL_law_701 : decode cL_law 701 = .ok (.aload_n 0, 1) := fp_hdL_law_666.1.2.2.1.1.2
theorem dL_law_702 : decode cL_law 702 = .ok (.iload_n 3, 1) := fp_hdL_law_666.1.2.2.1.2.1
theorem dL_law_703 : decode cL_law 703 = .ok (.iconst 1, 1) := fp_hdL_law_666.1.2.2.1.2.2
theorem dL_law_704 : decode cL_law 704 = .ok (.iadd, 1) := fp_hdL_law_666.1.2.2.2.1.1
theorem dL_law_705 : decode cL_law 705 = .ok (.iaload, 1) := fp_hdL_law_666.1.2.2.2.1.2
theorem dL_law_706 : decode cL_law 706 = .ok (.aload_n 0, 1) := fp_hdL_law_666.1.2.2.2.2.1
theorem dL_law_707 : decode cL_law 707 = .ok (.iload_n 3, 1) := fp_hdL_law_666.1.2.2.2.2.2
theorem fp_hdL_law_708 : (((((decode cL_law 708 = .ok (.iconst 2, 1) ∧ decode cL_law 709 = .ok (.iadd, 1)) ∧ (decode cL_law 710 = .ok (.iaload, 1) ∧ decode cL_law 711 = .ok (.invokevirtual 85, 3))) ∧ ((decode cL_law 714 = .ok (.pop, 1) ∧ decode cL_law 715 = .ok (.aload_n 2, 1)) ∧ (decode cL_law 716 = .ok (.aload_n 0, 1) ∧ decode cL_law 717 = .ok (.iload_n 3, 1)))) ∧ (((decode cL_law 718 = .ok (.iconst 1, 1) ∧ decode cL_law 719 = .ok (.iadd, 1)) ∧ (decode cL_law 720 = .ok (.iaload, 1) ∧ decode cL_law 721 = .ok (.aload_n 0, 1))) ∧ ((decode cL_law 722 = .ok (.iload_n 3, 1) ∧ decode cL_law 723 = .ok (.iconst 2, 1)) ∧ (decode cL_law 724 = .ok (.iadd, 1) ∧ decode cL_law 725 = .ok (.iaload, 1))))) ∧ ((((decode cL_law 726 = .ok (.invokevirtual 88, 3) ∧ decode cL_law 729 = .ok (.pop, 1)) ∧ (decode cL_law 730 = .ok (.goto 767, 3) ∧ decode cL_law 733 = .ok (.aload_n 1, 1))) ∧ ((decode cL_law 734 = .ok (.aload_n 0, 1) ∧ decode cL_law 735 = .ok (.iload_n 3, 1)) ∧ (decode cL_law 736 = .ok (.iconst 1, 1) ∧ decode cL_law 737 = .ok (.iadd, 1)))) ∧ (((decode cL_law 738 = .ok (.iaload, 1) ∧ decode cL_law 739 = .ok (.aload_n 0, 1)) ∧ (decode cL_law 740 = .ok (.iload_n 3, 1) ∧ decode cL_law 741 = .ok (.iconst 2, 1))) ∧ ((decode cL_law 742 = .ok (.iadd, 1) ∧ decode cL_law 743 = .ok (.iaload, 1)) ∧ (decode cL_law 744 = .ok (.invokevirtual 89, 3) ∧ decode cL_law 747 = .ok (.pop, 1)))))) ∧ bA cL_law 748 fp_scL_law_14 :=
  have q0 := fp_o5 fp_hdL_law_666.2
  have q1 := fp_o96 q0.2
  have q2 := fp_o46 q1.2
  have q3 := fp_o182 (v := 85) q2.2 rfl
  have q4 := fp_o87 q3.2
  have q5 := fp_o44 q4.2
  have q6 := fp_o42 q5.2
  have q7 := fp_o29 q6.2
  have q8 := fp_o4 q7.2
  have q9 := fp_o96 q8.2
  have q10 := fp_o46 q9.2
  have q11 := fp_o42 q10.2
  have q12 := fp_o29 q11.2
  have q13 := fp_o5 q12.2
  have q14 := fp_o96 q13.2
  have q15 := fp_o46 q14.2
  have q16 := fp_o182 (v := 88) q15.2 rfl
  have q17 := fp_o87 q16.2
  have q18 := fp_o167 (v := 767) q17.2 rfl
  have q19 := fp_o43 q18.2
  have q20 := fp_o42 q19.2
  have q21 := fp_o29 q20.2
  have q22 := fp_o4 q21.2
  have q23 := fp_o96 q22.2
  have q24 := fp_o46 q23.2
  have q25 := fp_o42 q24.2
  have q26 := fp_o29 q25.2
  have q27 := fp_o5 q26.2
  have q28 := fp_o96 q27.2
  have q29 := fp_o46 q28.2
  have q30 := fp_o182 (v := 89) q29.2 rfl
  have q31 := fp_o87 q30.2
  ⟨⟨⟨⟨⟨⟨q0.1, q1.1⟩, ⟨q2.1, q3.1⟩⟩, ⟨⟨q4.1, q5.1⟩, ⟨q6.1, q7.1⟩⟩⟩, ⟨⟨⟨q8.1, q9.1⟩, ⟨q10.1, q11.1⟩⟩, ⟨⟨q12.1, q13.1⟩, ⟨q14.1, q15.1⟩⟩⟩⟩, ⟨⟨⟨⟨q16.1, q17.1⟩, ⟨q18.1, q19.1⟩⟩, ⟨⟨q20.1, q21.1⟩, ⟨q22.1, q23.1⟩⟩⟩, ⟨⟨⟨q24.1, q25.1⟩, ⟨q26.1, q27.1⟩⟩, ⟨⟨q28.1, q29.1⟩, ⟨q30.1, q31.1⟩⟩⟩⟩⟩, q31.2⟩
theorem dL_law_708 : decode cL_law 708 = .ok (.iconst 2, 1) := fp_hdL_law_708.1.1.1.1.1.1
theorem dL_law_709 : decode cL_law 709 = .ok (.iadd, 1) := fp_hdL_law_708.1.1.1.1.1.2
theorem dL_law_710 : decode cL_law 710 = .ok (.iaload, 1) := fp_hdL_law_708.1.1.1.1.2.1
theorem dL_law_711 : decode cL_law 711 = .ok (.invokevirtual 85, 3) := fp_hdL_law_708.1.1.1.1.2.2
theorem dL_law_714 : decode cL_law 714 = .ok (.pop, 1) := fp_hdL_law_708.1.1.1.2.1.1
theorem dL_law_715 : decode cL_law 715 = .ok (.aload_n 2, 1) := fp_hdL_law_708.1.1.1.2.1.2
theorem dL_law_716 : decode cL_law 716 = .ok (.aload_n 0, 1) := fp_hdL_law_708.1.1.1.2.2.1
theorem dL_law_717 : decode cL_law 717 = .ok (.iload_n 3, 1) := fp_hdL_law_708.1.1.1.2.2.2
theorem dL_law_718 : decode cL_law 718 = .ok (.iconst 1, 1) := fp_hdL_law_708.1.1.2.1.1.1
theorem dL_law_719 : decode cL_law 719 = .ok (.iadd, 1) := fp_hdL_law_708.1.1.2.1.1.2
theorem dL_law_720 : decode cL_law 720 = .ok (.iaload, 1) := fp_hdL_law_708.1.1.2.1.2.1
theorem dL_law_721 : decode cL_law 721 = .ok (.aload_n 0, 1) := fp_hdL_law_708.1.1.2.1.2.2
theorem dL_law_722 : decode cL_law 722 = .ok (.iload_n 3, 1) := fp_hdL_law_708.1.1.2.2.1.1
theorem dL_law_723 : decode cL_law 723 = .ok (.iconst 2, 1) := fp_hdL_law_708.1.1.2.2.1.2
theorem dL_law_724 : decode cL_law 724 = .ok (.iadd, 1) := fp_hdL_law_708.1.1.2.2.2.1
theorem dL_law_725 : decode cL_law 725 = .ok (.iaload, 1) := fp_hdL_law_708.1.1.2.2.2.2
theorem dL_law_726 : decode cL_law 726 = .ok (.invokevirtual 88, 3) := fp_hdL_law_708.1.2.1.1.1.1
theorem dL_law_729 : decode cL_law 729 = .ok (.pop, 1) := fp_hdL_law_708.1.2.1.1.1.2
theorem dL_law_730 : decode cL_law 730 = .ok (.goto 767, 3) := fp_hdL_law_708.1.2.1.1.2.1
theorem dL_law_733 : decode cL_law 733 = .ok (.aload_n 1, 1) := fp_hdL_law_708.1.2.1.1.2.2
theorem dL_law_734 : decode cL_law 734 = .ok (.aload_n 0, 1) := fp_hdL_law_708.1.2.1.2.1.1
theorem dL_law_735 : decode cL_law 735 = .ok (.iload_n 3, 1) := fp_hdL_law_708.1.2.1.2.1.2
theorem dL_law_736 : decode cL_law 736 = .ok (.iconst 1, 1) := fp_hdL_law_708.1.2.1.2.2.1
theorem dL_law_737 : decode cL_law 737 = .ok (.iadd, 1) := fp_hdL_law_708.1.2.1.2.2.2
theorem dL_law_738 : decode cL_law 738 = .ok (.iaload, 1) := fp_hdL_law_708.1.2.2.1.1.1
theorem dL_law_739 : decode cL_law 739 = .ok (.aload_n 0, 1) := fp_hdL_law_708.1.2.2.1.1.2
theorem dL_law_740 : decode cL_law 740 = .ok (.iload_n 3, 1) := fp_hdL_law_708.1.2.2.1.2.1
theorem dL_law_741 : decode cL_law 741 = .ok (.iconst 2, 1) := fp_hdL_law_708.1.2.2.1.2.2
theorem dL_law_742 : decode cL_law 742 = .ok (.iadd, 1) := fp_hdL_law_708.1.2.2.2.1.1
theorem dL_law_743 : decode cL_law 743 = .ok (.iaload, 1) := fp_hdL_law_708.1.2.2.2.1.2
theorem dL_law_744 : decode cL_law 744 = .ok (.invokevirtual 89, 3) := fp_hdL_law_708.1.2.2.2.2.1
theorem dL_law_747 : decode cL_law 747 = .ok (.pop, 1) := fp_hdL_law_708.1.2.2.2.2.2
theorem fp_hdL_law_748 : (((((decode cL_law 748 = .ok (.aload_n 2, 1) ∧ decode cL_law 749 = .ok (.aload_n 0, 1)) ∧ (decode cL_law 750 = .ok (.iload_n 3, 1) ∧ decode cL_law 751 = .ok (.iconst 1, 1))) ∧ ((decode cL_law 752 = .ok (.iadd, 1) ∧ decode cL_law 753 = .ok (.iaload, 1)) ∧ (decode cL_law 754 = .ok (.aload_n 0, 1) ∧ decode cL_law 755 = .ok (.iload_n 3, 1)))) ∧ (((decode cL_law 756 = .ok (.iconst 2, 1) ∧ decode cL_law 757 = .ok (.iadd, 1)) ∧ (decode cL_law 758 = .ok (.iaload, 1) ∧ decode cL_law 759 = .ok (.invokevirtual 92, 3))) ∧ ((decode cL_law 762 = .ok (.pop, 1) ∧ decode cL_law 763 = .ok (.goto 734, 3)) ∧ (decode cL_law 766 = .ok (.aload_n 1, 1) ∧ decode cL_law 767 = .ok (.invokevirtual 93, 3))))) ∧ ((((decode cL_law 770 = .ok (.pop, 1) ∧ decode cL_law 771 = .ok (.aload_n 2, 1)) ∧ (decode cL_law 772 = .ok (.invokevirtual 96, 3) ∧ decode cL_law 775 = .ok (.pop, 1))) ∧ ((decode cL_law 776 = .ok (.goto 721, 3) ∧ decode cL_law 779 = .ok (.aload_n 1, 1)) ∧ (decode cL_law 780 = .ok (.aload_n 0, 1) ∧ decode cL_law 781 = .ok (.iload_n 3, 1)))) ∧ (((decode cL_law 782 = .ok (.iconst 1, 1) ∧ decode cL_law 783 = .ok (.iadd, 1)) ∧ (decode cL_law 784 = .ok (.iaload, 1) ∧ decode cL_law 785 = .ok (.invokevirtual 97, 3))) ∧ ((decode cL_law 788 = .ok (.pop, 1) ∧ decode cL_law 789 = .ok (.aload_n 2, 1)) ∧ (decode cL_law 790 = .ok (.aload_n 0, 1) ∧ decode cL_law 791 = .ok (.iload_n 3, 1)))))) ∧ bA cL_law 792 fp_scL_law_15 :=
  have q0 := fp_o44 fp_hdL_law_708.2
  have q1 := fp_o42 q0.2
  have q2 := fp_o29 q1.2
  have q3 := fp_o4 q2.2
  have q4 := fp_o96 q3.2
  have q5 := fp_o46 q4.2
  have q6 := fp_o42 q5.2
  have q7 := fp_o29 q6.2
  have q8 := fp_o5 q7.2
  have q9 := fp_o96 q8.2
  have q10 := fp_o46 q9.2
  have q11 := fp_o182 (v := 92) q10.2 rfl
  have q12 := fp_o87 q11.2
  have q13 := fp_o167 (v := 734) q12.2 rfl
  have q14 := fp_o43 q13.2
  have q15 := fp_o182 (v := 93) q14.2 rfl
  have q16 := fp_o87 q15.2
  have q17 := fp_o44 q16.2
  have q18 := fp_o182 (v := 96) q17.2 rfl
  have q19 := fp_o87 q18.2
  have q20 := fp_o167 (v := 721) q19.2 rfl
  have q21 := fp_o43 q20.2
  have q22 := fp_o42 q21.2
  have q23 := fp_o29 q22.2
  have q24 := fp_o4 q23.2
  have q25 := fp_o96 q24.2
  have q26 := fp_o46 q25.2
  have q27 := fp_o182 (v := 97) q26.2 rfl
  have q28 := fp_o87 q27.2
  have q29 := fp_o44 q28.2
  have q30 := fp_o42 q29.2
  have q31 := fp_o29 q30.2
  ⟨⟨⟨⟨⟨⟨q0.1, q1.1⟩, ⟨q2.1, q3.1⟩⟩, ⟨⟨q4.1, q5.1⟩, ⟨q6.1, q7.1⟩⟩⟩, ⟨⟨⟨q8.1, q9.1⟩, ⟨q10.1, q11.1⟩⟩, ⟨⟨q12.1, q13.1⟩, ⟨q14.1, q15.1⟩⟩⟩⟩, ⟨⟨⟨⟨q16.1, q17.1⟩, ⟨q18.1, q19.1⟩⟩, ⟨⟨q20.1, q21.1⟩, ⟨q22.1, q23.1⟩⟩⟩, ⟨⟨⟨q24.1, q25.1⟩, ⟨q26.1, q27.1⟩⟩, ⟨⟨q28.1, q29.1⟩, ⟨q30.1, q31.1⟩⟩⟩⟩⟩, q31.2⟩
theorem dL_law_748 : decode cL_law 748 = .ok (.aload_n 2, 1) := fp_hdL_law_748.1.1.1.1.1.1
theorem dL_law_749 : decode cL_law 749 = .ok (.aload_n 0, 1) := fp_hdL_law_748.1.1.1.1.1.2
theorem dL_law_750 : decode cL_law 750 = .ok (.iload_n 3, 1) := fp_hdL_law_748.1.1.1.1.2.1
theorem dL_law_751 : decode cL_law 751 = .ok (.iconst 1, 1) := fp_hdL_law_748.1.1.1.1.2.2
theorem dL_law_752 : decode cL_law 752 = .ok (.iadd, 1) := fp_hdL_law_748.1.1.1.2.1.1
theorem dL_law_753 : decode cL_law 753 = .ok (.iaload, 1) := fp_hdL_law_748.1.1.1.2.1.2
theorem dL_law_754 : decode cL_law 754 = .ok (.aload_n 0, 1) := fp_hdL_law_748.1.1.1.2.2.1
theorem dL_law_755 : decode cL_law 755 = .ok (.iload_n 3, 1) := fp_hdL_law_748.1.1.1.2.2.2
theorem dL_law_756 : decode cL_law 756 = .ok (.iconst 2, 1) := fp_hdL_law_748.1.1.2.1.1.1
theorem dL_law_757 : decode cL_law 757 = .ok (.iadd, 1) := fp_hdL_law_748.1.1.2.1.1.2
theorem dL_law_758 : decode cL_law 758 = .ok (.iaload, 1) := fp_hdL_law_748.1.1.2.1.2.1
theorem dL_law_759 : decode cL_law 759 = .ok (.invokevirtual 92, 3) := fp_hdL_law_748.1.1.2.1.2.2
theorem dL_law_762 : decode cL_law 762 = .ok (.pop, 1) := fp_hdL_law_748.1.1.2.2.1.1
theorem dL_law_763 : decode cL_law 763 = .ok (.goto 734, 3) := fp_hdL_law_748.1.1.2.2.1.2
theorem dL_law_766 : decode cL_law 766 = .ok (.aload_n 1, 1) := fp_hdL_law_748.1.1.2.2.2.1
theorem dL_law_767 : decode cL_law 767 = .ok (.invokevirtual 93, 3) := fp_hdL_law_748.1.1.2.2.2.2
theorem dL_law_770 : decode cL_law 770 = .ok (.pop, 1) := fp_hdL_law_748.1.2.1.1.1.1
theorem dL_law_771 : decode cL_law 771 = .ok (.aload_n 2, 1) := fp_hdL_law_748.1.2.1.1.1.2
theorem dL_law_772 : decode cL_law 772 = .ok (.invokevirtual 96, 3) := fp_hdL_law_748.1.2.1.1.2.1
theorem dL_law_775 : decode cL_law 775 = .ok (.pop, 1) := fp_hdL_law_748.1.2.1.1.2.2
theorem dL_law_776 : decode cL_law 776 = .ok (.goto 721, 3) := fp_hdL_law_748.1.2.1.2.1.1
theorem dL_law_779 : decode cL_law 779 = .ok (.aload_n 1, 1) := fp_hdL_law_748.1.2.1.2.1.2
theorem dL_law_780 : decode cL_law 780 = .ok (.aload_n 0, 1) := fp_hdL_law_748.1.2.1.2.2.1
theorem dL_law_781 : decode cL_law 781 = .ok (.iload_n 3, 1) := fp_hdL_law_748.1.2.1.2.2.2
theorem dL_law_782 : decode cL_law 782 = .ok (.iconst 1, 1) := fp_hdL_law_748.1.2.2.1.1.1
theorem dL_law_783 : decode cL_law 783 = .ok (.iadd, 1) := fp_hdL_law_748.1.2.2.1.1.2
theorem dL_law_784 : decode cL_law 784 = .ok (.iaload, 1) := fp_hdL_law_748.1.2.2.1.2.1
theorem dL_law_785 : decode cL_law 785 = .ok (.invokevirtual 97, 3) := fp_hdL_law_748.1.2.2.1.2.2
theorem dL_law_788 : decode cL_law 788 = .ok (.pop, 1) := fp_hdL_law_748.1.2.2.2.1.1
theorem dL_law_789 : decode cL_law 789 = .ok (.aload_n 2, 1) := fp_hdL_law_748.1.2.2.2.1.2
theorem dL_law_790 : decode cL_law 790 = .ok (.aload_n 0, 1) := fp_hdL_law_748.1.2.2.2.2.1
theorem dL_law_791 : decode cL_law 791 = .ok (.iload_n 3, 1) := fp_hdL_law_748.1.2.2.2.2.2
theorem fp_hdL_law_792 : (((((decode cL_law 792 = .ok (.iconst 1, 1) ∧ decode cL_law 793 = .ok (.iadd, 1)) ∧ (decode cL_law 794 = .ok (.iaload, 1) ∧ decode cL_law 795 = .ok (.invokevirtual 100, 3))) ∧ ((decode cL_law 798 = .ok (.pop, 1) ∧ decode cL_law 799 = .ok (.goto 698, 3)) ∧ (decode cL_law 802 = .ok (.aload_n 1, 1) ∧ decode cL_law 803 = .ok (.aload_n 0, 1)))) ∧ (((decode cL_law 804 = .ok (.iload_n 3, 1) ∧ decode cL_law 805 = .ok (.iconst 1, 1)) ∧ (decode cL_law 806 = .ok (.iadd, 1) ∧ decode cL_law 807 = .ok (.iaload, 1))) ∧ ((decode cL_law 808 = .ok (.aload_n 0, 1) ∧ decode cL_law 809 = .ok (.iload_n 3, 1)) ∧ (decode cL_law 810 = .ok (.iconst 2, 1) ∧ decode cL_law 811 = .ok (.iadd, 1))))) ∧ ((((decode cL_law 812 = .ok (.iaload, 1) ∧ decode cL_law 813 = .ok (.invokevirtual 101, 3)) ∧ (decode cL_law 816 = .ok (.pop, 1) ∧ decode cL_law 817 = .ok (.aload_n 2, 1))) ∧ ((decode cL_law 818 = .ok (.aload_n 0, 1) ∧ decode cL_law 819 = .ok (.iload_n 3, 1)) ∧ (decode cL_law 820 = .ok (.iconst 1, 1) ∧ decode cL_law 821 = .ok (.iadd, 1)))) ∧ (((decode cL_law 822 = .ok (.iaload, 1) ∧ decode cL_law 823 = .ok (.aload_n 0, 1)) ∧ (decode cL_law 824 = .ok (.iload_n 3, 1) ∧ decode cL_law 825 = .ok (.iconst 2, 1))) ∧ ((decode cL_law 826 = .ok (.iadd, 1) ∧ decode cL_law 827 = .ok (.iaload, 1)) ∧ (decode cL_law 828 = .ok (.invokevirtual 104, 3) ∧ decode cL_law 831 = .ok (.pop, 1)))))) ∧ bA cL_law 832 fp_scL_law_16 :=
  have q0 := fp_o4 fp_hdL_law_748.2
  have q1 := fp_o96 q0.2
  have q2 := fp_o46 q1.2
  have q3 := fp_o182 (v := 100) q2.2 rfl
  have q4 := fp_o87 q3.2
  have q5 := fp_o167 (v := 698) q4.2 rfl
  have q6 := fp_o43 q5.2
  have q7 := fp_o42 q6.2
  have q8 := fp_o29 q7.2
  have q9 := fp_o4 q8.2
  have q10 := fp_o96 q9.2
  have q11 := fp_o46 q10.2
  have q12 := fp_o42 q11.2
  have q13 := fp_o29 q12.2
  have q14 := fp_o5 q13.2
  have q15 := fp_o96 q14.2
  have q16 := fp_o46 q15.2
  have q17 := fp_o182 (v := 101) q16.2 rfl
  have q18 := fp_o87 q17.2
  have q19 := fp_o44 q18.2
  have q20 := fp_o42 q19.2
  have q21 := fp_o29 q20.2
  have q22 := fp_o4 q21.2
  have q23 := fp_o96 q22.2
  have q24 := fp_o46 q23.2
  have q25 := fp_o42 q24.2
  have q26 := fp_o29 q25.2
  have q27 := fp_o5 q26.2
  have q28 := fp_o96 q27.2
  have q29 := fp_o46 q28.2
  have q30 := fp_o182 (v := 104) q29.2 rfl
  have q31 := fp_o87 q30.2
  ⟨⟨⟨⟨⟨⟨q0.1, q1.1⟩, ⟨q2.1, q3.1⟩⟩, ⟨⟨q4.1, q5.1⟩, ⟨q6.1, q7.1⟩⟩⟩, ⟨⟨⟨q8.1, q9.1⟩, ⟨q10.1, q11.1⟩⟩, ⟨⟨q12.1, q13.1⟩, ⟨q14.1, q15.1⟩⟩⟩⟩, ⟨⟨⟨⟨q16.1, q17.1⟩, ⟨q18.1, q19.1⟩⟩, ⟨⟨q20.1, q21.1⟩, ⟨q22.1, q23.1⟩⟩⟩, ⟨⟨⟨q24.1, q25.1⟩, ⟨q26.1, q27.1⟩⟩, ⟨⟨q28.1, q29.1⟩, ⟨q30.1, q31.1⟩⟩⟩⟩⟩, q31.2⟩
theorem dL_law_792 : decode cL_law 792 = .ok (.iconst 1, 1) := fp_hdL_law_792.1.1.1.1.1.1
theorem dL_law_793 : decode cL_law 793 = .ok (.iadd, 1) := fp_hdL_law_792.1.1.1.1.1.2
theorem dL_law_794 : decode cL_law 794 = .ok (.iaload, 1) := fp_hdL_law_792.1.1.1.1.2.1
theorem dL_law_795 : decode cL_law 795 = .ok (.invokevirtual 100, 3) := fp_hdL_law_792.1.1.1.1.2.2
theorem dL_law_798 : decode cL_law 798 = .ok (.pop, 1) := fp_hdL_law_792.1.1.1.2.1.1
theorem dL_law_799 : decode cL_law 799 = .ok (.goto 698, 3) := fp_hdL_law_792.1.1.1.2.1.2
theorem dL_law_802 : decode cL_law 802 = .ok (.aload_n 1, 1) := fp_hdL_law_792.1.1.1.2.2.1
theorem dL_law_803 : decode cL_law 803 = .ok (.aload_n 0, 1) := fp_hdL_law_792.1.1.1.2.2.2
theorem dL_law_804 : decode cL_law 804 = .ok (.iload_n 3, 1) := fp_hdL_law_792.1.1.2.1.1.1
theorem dL_law_805 : decode cL_law 805 = .ok (.iconst 1, 1) := fp_hdL_law_792.1.1.2.1.1.2
theorem dL_law_806 : decode cL_law 806 = .ok (.iadd, 1) := fp_hdL_law_792.1.1.2.1.2.1
theorem dL_law_807 : decode cL_law 807 = .ok (.iaload, 1) := fp_hdL_law_792.1.1.2.1.2.2
theorem dL_law_808 : decode cL_law 808 = .ok (.aload_n 0, 1) := fp_hdL_law_792.1.1.2.2.1.1
theorem dL_law_809 : decode cL_law 809 = .ok (.iload_n 3, 1) := fp_hdL_law_792.1.1.2.2.1.2
theorem dL_law_810 : decode cL_law 810 = .ok (.iconst 2, 1) := fp_hdL_law_792.1.1.2.2.2.1
theorem dL_law_811 : decode cL_law 811 = .ok (.iadd, 1) := fp_hdL_law_792.1.1.2.2.2.2
theorem dL_law_812 : decode cL_law 812 = .ok (.iaload, 1) := fp_hdL_law_792.1.2.1.1.1.1
theorem dL_law_813 : decode cL_law 813 = .ok (.invokevirtual 101, 3) := fp_hdL_law_792.1.2.1.1.1.2
theorem dL_law_816 : decode cL_law 816 = .ok (.pop, 1) := fp_hdL_law_792.1.2.1.1.2.1
theorem dL_law_817 : decode cL_law 817 = .ok (.aload_n 2, 1) := fp_hdL_law_792.1.2.1.1.2.2
theorem dL_law_818 : decode cL_law 818 = .ok (.aload_n 0, 1) := fp_hdL_law_792.1.2.1.2.1.1
theorem dL_law_819 : decode cL_law 819 = .ok (.iload_n 3, 1) := fp_hdL_law_792.1.2.1.2.1.2
theorem dL_law_820 : decode cL_law 820 = .ok (.iconst 1, 1) := fp_hdL_law_792.1.2.1.2.2.1
theorem dL_law_821 : decode cL_law 821 = .ok (.iadd, 1) := fp_hdL_law_792.1.2.1.2.2.2
theorem dL_law_822 : decode cL_law 822 = .ok (.iaload, 1) := fp_hdL_law_792.1.2.2.1.1.1
theorem dL_law_823 : decode cL_law 823 = .ok (.aload_n 0, 1) := fp_hdL_law_792.1.2.2.1.1.2
theorem dL_law_824 : decode cL_law 824 = .ok (.iload_n 3, 1) := fp_hdL_law_792.1.2.2.1.2.1
theorem dL_law_825 : decode cL_law 825 = .ok (.iconst 2, 1) := fp_hdL_law_792.1.2.2.1.2.2
theorem dL_law_826 : decode cL_law 826 = .ok (.iadd, 1) := fp_hdL_law_792.1.2.2.2.1.1
theorem dL_law_827 : decode cL_law 827 = .ok (.iaload, 1) := fp_hdL_law_792.1.2.2.2.1.2
theorem dL_law_828 : decode cL_law 828 = .ok (.invokevirtual 104, 3) := fp_hdL_law_792.1.2.2.2.2.1
theorem dL_law_831 : decode cL_law 831 = .ok (.pop, 1) := fp_hdL_law_792.1.2.2.2.2.2
theorem fp_hdL_law_832 : (((((decode cL_law 832 = .ok (.goto 665, 3) ∧ decode cL_law 835 = .ok (.aload_n 1, 1)) ∧ (decode cL_law 836 = .ok (.aload_n 0, 1) ∧ decode cL_law 837 = .ok (.iload_n 3, 1))) ∧ ((decode cL_law 838 = .ok (.iconst 1, 1) ∧ decode cL_law 839 = .ok (.iadd, 1)) ∧ (decode cL_law 840 = .ok (.iaload, 1) ∧ decode cL_law 841 = .ok (.aload_n 0, 1)))) ∧ (((decode cL_law 842 = .ok (.iload_n 3, 1) ∧ decode cL_law 843 = .ok (.iconst 2, 1)) ∧ (decode cL_law 844 = .ok (.iadd, 1) ∧ decode cL_law 845 = .ok (.iaload, 1))) ∧ ((decode cL_law 846 = .ok (.aload_n 0, 1) ∧ decode cL_law 847 = .ok (.iload_n 3, 1)) ∧ (decode cL_law 848 = .ok (.iconst 3, 1) ∧ decode cL_law 849 = .ok (.iadd, 1))))) ∧ ((((decode cL_law 850 = .ok (.iaload, 1) ∧ decode cL_law 851 = .ok (.invokevirtual 105, 3)) ∧ (decode cL_law 854 = .ok (.pop, 1) ∧ decode cL_law 855 = .ok (.aload_n 2, 1))) ∧ ((decode cL_law 856 = .ok (.aload_n 0, 1) ∧ decode cL_law 857 = .ok (.iload_n 3, 1)) ∧ (decode cL_law 858 = .ok (.iconst 1, 1) ∧ decode cL_law 859 = .ok (.iadd, 1)))) ∧ (((decode cL_law 860 = .ok (.iaload, 1) ∧ decode cL_law 861 = .ok (.aload_n 0, 1)) ∧ (decode cL_law 862 = .ok (.iload_n 3, 1) ∧ decode cL_law 863 = .ok (.iconst 2, 1))) ∧ ((decode cL_law 864 = .ok (.iadd, 1) ∧ decode cL_law 865 = .ok (.iaload, 1)) ∧ (decode cL_law 866 = .ok (.aload_n 0, 1) ∧ decode cL_law 867 = .ok (.iload_n 3, 1)))))) ∧ bA cL_law 868 fp_scL_law_17 :=
  have q0 := fp_o167 (v := 665) fp_hdL_law_792.2 rfl
  have q1 := fp_o43 q0.2
  have q2 := fp_o42 q1.2
  have q3 := fp_o29 q2.2
  have q4 := fp_o4 q3.2
  have q5 := fp_o96 q4.2
  have q6 := fp_o46 q5.2
  have q7 := fp_o42 q6.2
  have q8 := fp_o29 q7.2
  have q9 := fp_o5 q8.2
  have q10 := fp_o96 q9.2
  have q11 := fp_o46 q10.2
  have q12 := fp_o42 q11.2
  have q13 := fp_o29 q12.2
  have q14 := fp_o6 q13.2
  have q15 := fp_o96 q14.2
  have q16 := fp_o46 q15.2
  have q17 := fp_o182 (v := 105) q16.2 rfl
  have q18 := fp_o87 q17.2
  have q19 := fp_o44 q18.2
  have q20 := fp_o42 q19.2
  have q21 := fp_o29 q20.2
  have q22 := fp_o4 q21.2
  have q23 := fp_o96 q22.2
  have q24 := fp_o46 q23.2
  have q25 := fp_o42 q24.2
  have q26 := fp_o29 q25.2
  have q27 := fp_o5 q26.2
  have q28 := fp_o96 q27.2
  have q29 := fp_o46 q28.2
  have q30 := fp_o42 q29.2
  have q31 := fp_o29 q30.2
  ⟨⟨⟨⟨⟨⟨q0.1, q1.1⟩, ⟨q2.1, q3.1⟩⟩, ⟨⟨q4.1, q5.1⟩, ⟨q6.1, q7.1⟩⟩⟩, ⟨⟨⟨q8.1, q9.1⟩, ⟨q10.1, q11.1⟩⟩, ⟨⟨q12.1, q13.1⟩, ⟨q14.1, q15.1⟩⟩⟩⟩, ⟨⟨⟨⟨q16.1, q17.1⟩, ⟨q18.1, q19.1⟩⟩, ⟨⟨q20.1, q21.1⟩, ⟨q22.1, q23.1⟩⟩⟩, ⟨⟨⟨q24.1, q25.1⟩, ⟨q26.1, q27.1⟩⟩, ⟨⟨q28.1, q29.1⟩, ⟨q30.1, q31.1⟩⟩⟩⟩⟩, q31.2⟩
theorem dL_law_832 : decode cL_law 832 = .ok (.goto 665, 3) := fp_hdL_law_832.1.1.1.1.1.1
theorem dL_law_835 : decode cL_law 835 = .ok (.aload_n 1, 1) := fp_hdL_law_832.1.1.1.1.1.2
theorem dL_law_836 : decode cL_law 836 = .ok (.aload_n 0, 1) := fp_hdL_law_832.1.1.1.1.2.1
theorem dL_law_837 : decode cL_law 837 = .ok (.iload_n 3, 1) := fp_hdL_law_832.1.1.1.1.2.2
theorem dL_law_838 : decode cL_law 838 = .ok (.iconst 1, 1) := fp_hdL_law_832.1.1.1.2.1.1
theorem dL_law_839 : decode cL_law 839 = .ok (.iadd, 1) := fp_hdL_law_832.1.1.1.2.1.2
theorem dL_law_840 : decode cL_law 840 = .ok (.iaload, 1) := fp_hdL_law_832.1.1.1.2.2.1
theorem dL_law_841 : decode cL_law 841 = .ok (.aload_n 0, 1) := fp_hdL_law_832.1.1.1.2.2.2
theorem dL_law_842 : decode cL_law 842 = .ok (.iload_n 3, 1) := fp_hdL_law_832.1.1.2.1.1.1
theorem dL_law_843 : decode cL_law 843 = .ok (.iconst 2, 1) := fp_hdL_law_832.1.1.2.1.1.2
theorem dL_law_844 : decode cL_law 844 = .ok (.iadd, 1) := fp_hdL_law_832.1.1.2.1.2.1
theorem dL_law_845 : decode cL_law 845 = .ok (.iaload, 1) := fp_hdL_law_832.1.1.2.1.2.2
theorem dL_law_846 : decode cL_law 846 = .ok (.aload_n 0, 1) := fp_hdL_law_832.1.1.2.2.1.1
theorem dL_law_847 : decode cL_law 847 = .ok (.iload_n 3, 1) := fp_hdL_law_832.1.1.2.2.1.2
theorem dL_law_848 : decode cL_law 848 = .ok (.iconst 3, 1) := fp_hdL_law_832.1.1.2.2.2.1
theorem dL_law_849 : decode cL_law 849 = .ok (.iadd, 1) := fp_hdL_law_832.1.1.2.2.2.2
theorem dL_law_850 : decode cL_law 850 = .ok (.iaload, 1) := fp_hdL_law_832.1.2.1.1.1.1
theorem dL_law_851 : decode cL_law 851 = .ok (.invokevirtual 105, 3) := fp_hdL_law_832.1.2.1.1.1.2
theorem dL_law_854 : decode cL_law 854 = .ok (.pop, 1) := fp_hdL_law_832.1.2.1.1.2.1
theorem dL_law_855 : decode cL_law 855 = .ok (.aload_n 2, 1) := fp_hdL_law_832.1.2.1.1.2.2
theorem dL_law_856 : decode cL_law 856 = .ok (.aload_n 0, 1) := fp_hdL_law_832.1.2.1.2.1.1
theorem dL_law_857 : decode cL_law 857 = .ok (.iload_n 3, 1) := fp_hdL_law_832.1.2.1.2.1.2
theorem dL_law_858 : decode cL_law 858 = .ok (.iconst 1, 1) := fp_hdL_law_832.1.2.1.2.2.1
theorem dL_law_859 : decode cL_law 859 = .ok (.iadd, 1) := fp_hdL_law_832.1.2.1.2.2.2
theorem dL_law_860 : decode cL_law 860 = .ok (.iaload, 1) := fp_hdL_law_832.1.2.2.1.1.1
theorem dL_law_861 : decode cL_law 861 = .ok (.aload_n 0, 1) := fp_hdL_law_832.1.2.2.1.1.2
theorem dL_law_862 : decode cL_law 862 = .ok (.iload_n 3, 1) := fp_hdL_law_832.1.2.2.1.2.1
theorem dL_law_863 : decode cL_law 863 = .ok (.iconst 2, 1) := fp_hdL_law_832.1.2.2.1.2.2
theorem dL_law_864 : decode cL_law 864 = .ok (.iadd, 1) := fp_hdL_law_832.1.2.2.2.1.1
theorem dL_law_865 : decode cL_law 865 = .ok (.iaload, 1) := fp_hdL_law_832.1.2.2.2.1.2
theorem dL_law_866 : decode cL_law 866 = .ok (.aload_n 0, 1) := fp_hdL_law_832.1.2.2.2.2.1
theorem dL_law_867 : decode cL_law 867 = .ok (.iload_n 3, 1) := fp_hdL_law_832.1.2.2.2.2.2
theorem fp_hdL_law_868 : (((((decode cL_law 868 = .ok (.iconst 3, 1) ∧ decode cL_law 869 = .ok (.iadd, 1)) ∧ (decode cL_law 870 = .ok (.iaload, 1) ∧ decode cL_law 871 = .ok (.invokevirtual 108, 3))) ∧ ((decode cL_law 874 = .ok (.pop, 1) ∧ decode cL_law 875 = .ok (.goto 622, 3)) ∧ (decode cL_law 878 = .ok (.aload_n 1, 1) ∧ decode cL_law 879 = .ok (.aload_n 0, 1)))) ∧ (((decode cL_law 880 = .ok (.iload_n 3, 1) ∧ decode cL_law 881 = .ok (.iconst 1, 1)) ∧ (decode cL_law 882 = .ok (.iadd, 1) ∧ decode cL_law 883 = .ok (.iaload, 1))) ∧ ((decode cL_law 884 = .ok (.aload_n 0, 1) ∧ decode cL_law 885 = .ok (.iload_n 3, 1)) ∧ (decode cL_law 886 = .ok (.iconst 2, 1) ∧ decode cL_law 887 = .ok (.iadd, 1))))) ∧ ((((decode cL_law 888 = .ok (.iaload, 1) ∧ decode cL_law 889 = .ok (.invokevirtual 109, 3)) ∧ (decode cL_law 892 = .ok (.pop, 1) ∧ decode cL_law 893 = .ok (.aload_n 2, 1))) ∧ ((decode cL_law 894 = .ok (.aload_n 0, 1) ∧ decode cL_law 895 = .ok (.iload_n 3, 1)) ∧ (decode cL_law 896 = .ok (.iconst 1, 1) ∧ decode cL_law 897 = .ok (.iadd, 1)))) ∧ (((decode cL_law 898 = .ok (.iaload, 1) ∧ decode cL_law 899 = .ok (.aload_n 0, 1)) ∧ (decode cL_law 900 = .ok (.iload_n 3, 1) ∧ decode cL_law 901 = .ok (.iconst 2, 1))) ∧ ((decode cL_law 902 = .ok (.iadd, 1) ∧ decode cL_law 903 = .ok (.iaload, 1)) ∧ (decode cL_law 904 = .ok (.invokevirtual 112, 3) ∧ decode cL_law 907 = .ok (.pop, 1)))))) ∧ bA cL_law 908 fp_scL_law_18 :=
  have q0 := fp_o6 fp_hdL_law_832.2
  have q1 := fp_o96 q0.2
  have q2 := fp_o46 q1.2
  have q3 := fp_o182 (v := 108) q2.2 rfl
  have q4 := fp_o87 q3.2
  have q5 := fp_o167 (v := 622) q4.2 rfl
  have q6 := fp_o43 q5.2
  have q7 := fp_o42 q6.2
  have q8 := fp_o29 q7.2
  have q9 := fp_o4 q8.2
  have q10 := fp_o96 q9.2
  have q11 := fp_o46 q10.2
  have q12 := fp_o42 q11.2
  have q13 := fp_o29 q12.2
  have q14 := fp_o5 q13.2
  have q15 := fp_o96 q14.2
  have q16 := fp_o46 q15.2
  have q17 := fp_o182 (v := 109) q16.2 rfl
  have q18 := fp_o87 q17.2
  have q19 := fp_o44 q18.2
  have q20 := fp_o42 q19.2
  have q21 := fp_o29 q20.2
  have q22 := fp_o4 q21.2
  have q23 := fp_o96 q22.2
  have q24 := fp_o46 q23.2
  have q25 := fp_o42 q24.2
  have q26 := fp_o29 q25.2
  have q27 := fp_o5 q26.2
  have q28 := fp_o96 q27.2
  have q29 := fp_o46 q28.2
  have q30 := fp_o182 (v := 112) q29.2 rfl
  have q31 := fp_o87 q30.2
  ⟨⟨⟨⟨⟨⟨q0.1, q1.1⟩, ⟨q2.1, q3.1⟩⟩, ⟨⟨q4.1, q5.1⟩, ⟨q6.1, q7.1⟩⟩⟩, ⟨⟨⟨q8.1, q9.1⟩, ⟨q10.1, q11.1⟩⟩, ⟨⟨q12.1, q13.1⟩, ⟨q14.1, q15.1⟩⟩⟩⟩, ⟨⟨⟨⟨q16.1, q17.1⟩, ⟨q18.1, q19.1⟩⟩, ⟨⟨q20.1, q21.1⟩, ⟨q22.1, q23.1⟩⟩⟩, ⟨⟨⟨q24.1, q25.1⟩, ⟨q26.1, q27.1⟩⟩, ⟨⟨q28.1, q29.1⟩, ⟨q30.1, q31.1⟩⟩⟩⟩⟩, q31.2⟩
theorem dL_law_868 : decode cL_law 868 = .ok (.iconst 3, 1) := fp_hdL_law_868.1.1.1.1.1.1
theorem dL_law_869 : decode cL_law 869 = .ok (.iadd, 1) := fp_hdL_law_868.1.1.1.1.1.2
theorem dL_law_870 : decode cL_law 870 = .ok (.iaload, 1) := fp_hdL_law_868.1.1.1.1.2.1
theorem dL_law_871 : decode cL_law 871 = .ok (.invokevirtual 108, 3) := fp_hdL_law_868.1.1.1.1.2.2
theorem dL_law_874 : decode cL_law 874 = .ok (.pop, 1) := fp_hdL_law_868.1.1.1.2.1.1
theorem dL_law_875 : decode cL_law 875 = .ok (.goto 622, 3) := fp_hdL_law_868.1.1.1.2.1.2
theorem dL_law_878 : decode cL_law 878 = .ok (.aload_n 1, 1) := fp_hdL_law_868.1.1.1.2.2.1
theorem dL_law_879 : decode cL_law 879 = .ok (.aload_n 0, 1) := fp_hdL_law_868.1.1.1.2.2.2
theorem dL_law_880 : decode cL_law 880 = .ok (.iload_n 3, 1) := fp_hdL_law_868.1.1.2.1.1.1
theorem dL_law_881 : decode cL_law 881 = .ok (.iconst 1, 1) := fp_hdL_law_868.1.1.2.1.1.2
theorem dL_law_882 : decode cL_law 882 = .ok (.iadd, 1) := fp_hdL_law_868.1.1.2.1.2.1
theorem dL_law_883 : decode cL_law 883 = .ok (.iaload, 1) := fp_hdL_law_868.1.1.2.1.2.2
theorem dL_law_884 : decode cL_law 884 = .ok (.aload_n 0, 1) := fp_hdL_law_868.1.1.2.2.1.1
theorem dL_law_885 : decode cL_law 885 = .ok (.iload_n 3, 1) := fp_hdL_law_868.1.1.2.2.1.2
theorem dL_law_886 : decode cL_law 886 = .ok (.iconst 2, 1) := fp_hdL_law_868.1.1.2.2.2.1
theorem dL_law_887 : decode cL_law 887 = .ok (.iadd, 1) := fp_hdL_law_868.1.1.2.2.2.2
theorem dL_law_888 : decode cL_law 888 = .ok (.iaload, 1) := fp_hdL_law_868.1.2.1.1.1.1
theorem dL_law_889 : decode cL_law 889 = .ok (.invokevirtual 109, 3) := fp_hdL_law_868.1.2.1.1.1.2
theorem dL_law_892 : decode cL_law 892 = .ok (.pop, 1) := fp_hdL_law_868.1.2.1.1.2.1
theorem dL_law_893 : decode cL_law 893 = .ok (.aload_n 2, 1) := fp_hdL_law_868.1.2.1.1.2.2
theorem dL_law_894 : decode cL_law 894 = .ok (.aload_n 0, 1) := fp_hdL_law_868.1.2.1.2.1.1
theorem dL_law_895 : decode cL_law 895 = .ok (.iload_n 3, 1) := fp_hdL_law_868.1.2.1.2.1.2
theorem dL_law_896 : decode cL_law 896 = .ok (.iconst 1, 1) := fp_hdL_law_868.1.2.1.2.2.1
theorem dL_law_897 : decode cL_law 897 = .ok (.iadd, 1) := fp_hdL_law_868.1.2.1.2.2.2
theorem dL_law_898 : decode cL_law 898 = .ok (.iaload, 1) := fp_hdL_law_868.1.2.2.1.1.1
theorem dL_law_899 : decode cL_law 899 = .ok (.aload_n 0, 1) := fp_hdL_law_868.1.2.2.1.1.2
theorem dL_law_900 : decode cL_law 900 = .ok (.iload_n 3, 1) := fp_hdL_law_868.1.2.2.1.2.1
theorem dL_law_901 : decode cL_law 901 = .ok (.iconst 2, 1) := fp_hdL_law_868.1.2.2.1.2.2
theorem dL_law_902 : decode cL_law 902 = .ok (.iadd, 1) := fp_hdL_law_868.1.2.2.2.1.1
theorem dL_law_903 : decode cL_law 903 = .ok (.iaload, 1) := fp_hdL_law_868.1.2.2.2.1.2
theorem dL_law_904 : decode cL_law 904 = .ok (.invokevirtual 112, 3) := fp_hdL_law_868.1.2.2.2.2.1
theorem dL_law_907 : decode cL_law 907 = .ok (.pop, 1) := fp_hdL_law_868.1.2.2.2.2.2
theorem fp_hdL_law_908 : (((((decode cL_law 908 = .ok (.goto 589, 3) ∧ decode cL_law 911 = .ok (.aload_n 1, 1)) ∧ (decode cL_law 912 = .ok (.aload_n 0, 1) ∧ decode cL_law 913 = .ok (.iload_n 3, 1))) ∧ ((decode cL_law 914 = .ok (.iconst 1, 1) ∧ decode cL_law 915 = .ok (.iadd, 1)) ∧ (decode cL_law 916 = .ok (.iaload, 1) ∧ decode cL_law 917 = .ok (.aload_n 0, 1)))) ∧ (((decode cL_law 918 = .ok (.iload_n 3, 1) ∧ decode cL_law 919 = .ok (.iconst 2, 1)) ∧ (decode cL_law 920 = .ok (.iadd, 1) ∧ decode cL_law 921 = .ok (.iaload, 1))) ∧ ((decode cL_law 922 = .ok (.aload_n 0, 1) ∧ decode cL_law 923 = .ok (.iload_n 3, 1)) ∧ (decode cL_law 924 = .ok (.iconst 3, 1) ∧ decode cL_law 925 = .ok (.iadd, 1))))) ∧ ((((decode cL_law 926 = .ok (.iaload, 1) ∧ decode cL_law 927 = .ok (.aload_n 0, 1)) ∧ (decode cL_law 928 = .ok (.iload_n 3, 1) ∧ decode cL_law 929 = .ok (.iconst 4, 1))) ∧ ((decode cL_law 930 = .ok (.iadd, 1) ∧ decode cL_law 931 = .ok (.iaload, 1)) ∧ (decode cL_law 932 = .ok (.invokevirtual 113, 3) ∧ decode cL_law 935 = .ok (.pop, 1)))) ∧ (((decode cL_law 936 = .ok (.aload_n 2, 1) ∧ decode cL_law 937 = .ok (.aload_n 0, 1)) ∧ (decode cL_law 938 = .ok (.iload_n 3, 1) ∧ decode cL_law 939 = .ok (.iconst 1, 1))) ∧ ((decode cL_law 940 = .ok (.iadd, 1) ∧ decode cL_law 941 = .ok (.iaload, 1)) ∧ (decode cL_law 942 = .ok (.aload_n 0, 1) ∧ decode cL_law 943 = .ok (.iload_n 3, 1)))))) ∧ bA cL_law 944 fp_scL_law_19 :=
  have q0 := fp_o167 (v := 589) fp_hdL_law_868.2 rfl
  have q1 := fp_o43 q0.2
  have q2 := fp_o42 q1.2
  have q3 := fp_o29 q2.2
  have q4 := fp_o4 q3.2
  have q5 := fp_o96 q4.2
  have q6 := fp_o46 q5.2
  have q7 := fp_o42 q6.2
  have q8 := fp_o29 q7.2
  have q9 := fp_o5 q8.2
  have q10 := fp_o96 q9.2
  have q11 := fp_o46 q10.2
  have q12 := fp_o42 q11.2
  have q13 := fp_o29 q12.2
  have q14 := fp_o6 q13.2
  have q15 := fp_o96 q14.2
  have q16 := fp_o46 q15.2
  have q17 := fp_o42 q16.2
  have q18 := fp_o29 q17.2
  have q19 := fp_o7 q18.2
  have q20 := fp_o96 q19.2
  have q21 := fp_o46 q20.2
  have q22 := fp_o182 (v := 113) q21.2 rfl
  have q23 := fp_o87 q22.2
  have q24 := fp_o44 q23.2
  have q25 := fp_o42 q24.2
  have q26 := fp_o29 q25.2
  have q27 := fp_o4 q26.2
  have q28 := fp_o96 q27.2
  have q29 := fp_o46 q28.2
  have q30 := fp_o42 q29.2
  have q31 := fp_o29 q30.2
  ⟨⟨⟨⟨⟨⟨q0.1, q1.1⟩, ⟨q2.1, q3.1⟩⟩, ⟨⟨q4.1, q5.1⟩, ⟨q6.1, q7.1⟩⟩⟩, ⟨⟨⟨q8.1, q9.1⟩, ⟨q10.1, q11.1⟩⟩, ⟨⟨q12.1, q13.1⟩, ⟨q14.1, q15.1⟩⟩⟩⟩, ⟨⟨⟨⟨q16.1, q17.1⟩, ⟨q18.1, q19.1⟩⟩, ⟨⟨q20.1, q21.1⟩, ⟨q22.1, q23.1⟩⟩⟩, ⟨⟨⟨q24.1, q25.1⟩, ⟨q26.1, q27.1⟩⟩, ⟨⟨q28.1, q29.1⟩, ⟨q30.1, q31.1⟩⟩⟩⟩⟩, q31.2⟩
theorem dL_law_908 : decode cL_law 908 = .ok (.goto 589, 3) := fp_hdL_law_908.1.1.1.1.1.1
theorem dL_law_911 : decode cL_law 911 = .ok (.aload_n 1, 1) := fp_hdL_law_908.1.1.1.1.1.2
theorem dL_law_912 : decode cL_law 912 = .ok (.aload_n 0, 1) := fp_hdL_law_908.1.1.1.1.2.1
theorem dL_law_913 : decode cL_law 913 = .ok (.iload_n 3, 1) := fp_hdL_law_908.1.1.1.1.2.2
theorem dL_law_914 : decode cL_law 914 = .ok (.iconst 1, 1) := fp_hdL_law_908.1.1.1.2.1.1
theorem dL_law_915 : decode cL_law 915 = .ok (.iadd, 1) := fp_hdL_law_908.1.1.1.2.1.2
theorem dL_law_916 : decode cL_law 916 = .ok (.iaload, 1) := fp_hdL_law_908.1.1.1.2.2.1
theorem dL_law_917 : decode cL_law 917 = .ok (.aload_n 0, 1) := fp_hdL_law_908.1.1.1.2.2.2
theorem dL_law_918 : decode cL_law 918 = .ok (.iload_n 3, 1) := fp_hdL_law_908.1.1.2.1.1.1
theorem dL_law_919 : decode cL_law 919 = .ok (.iconst 2, 1) := fp_hdL_law_908.1.1.2.1.1.2
theorem dL_law_920 : decode cL_law 920 = .ok (.iadd, 1) := fp_hdL_law_908.1.1.2.1.2.1
theorem dL_law_921 : decode cL_law 921 = .ok (.iaload, 1) := fp_hdL_law_908.1.1.2.1.2.2
theorem dL_law_922 : decode cL_law 922 = .ok (.aload_n 0, 1) := fp_hdL_law_908.1.1.2.2.1.1
theorem dL_law_923 : decode cL_law 923 = .ok (.iload_n 3, 1) := fp_hdL_law_908.1.1.2.2.1.2
theorem dL_law_924 : decode cL_law 924 = .ok (.iconst 3, 1) := fp_hdL_law_908.1.1.2.2.2.1
theorem dL_law_925 : decode cL_law 925 = .ok (.iadd, 1) := fp_hdL_law_908.1.1.2.2.2.2
theorem dL_law_926 : decode cL_law 926 = .ok (.iaload, 1) := fp_hdL_law_908.1.2.1.1.1.1
theorem dL_law_927 : decode cL_law 927 = .ok (.aload_n 0, 1) := fp_hdL_law_908.1.2.1.1.1.2
theorem dL_law_928 : decode cL_law 928 = .ok (.iload_n 3, 1) := fp_hdL_law_908.1.2.1.1.2.1
theorem dL_law_929 : decode cL_law 929 = .ok (.iconst 4, 1) := fp_hdL_law_908.1.2.1.1.2.2
theorem dL_law_930 : decode cL_law 930 = .ok (.iadd, 1) := fp_hdL_law_908.1.2.1.2.1.1
theorem dL_law_931 : decode cL_law 931 = .ok (.iaload, 1) := fp_hdL_law_908.1.2.1.2.1.2
theorem dL_law_932 : decode cL_law 932 = .ok (.invokevirtual 113, 3) := fp_hdL_law_908.1.2.1.2.2.1
theorem dL_law_935 : decode cL_law 935 = .ok (.pop, 1) := fp_hdL_law_908.1.2.1.2.2.2
theorem dL_law_936 : decode cL_law 936 = .ok (.aload_n 2, 1) := fp_hdL_law_908.1.2.2.1.1.1
theorem dL_law_937 : decode cL_law 937 = .ok (.aload_n 0, 1) := fp_hdL_law_908.1.2.2.1.1.2
theorem dL_law_938 : decode cL_law 938 = .ok (.iload_n 3, 1) := fp_hdL_law_908.1.2.2.1.2.1
theorem dL_law_939 : decode cL_law 939 = .ok (.iconst 1, 1) := fp_hdL_law_908.1.2.2.1.2.2
theorem dL_law_940 : decode cL_law 940 = .ok (.iadd, 1) := fp_hdL_law_908.1.2.2.2.1.1
theorem dL_law_941 : decode cL_law 941 = .ok (.iaload, 1) := fp_hdL_law_908.1.2.2.2.1.2
theorem dL_law_942 : decode cL_law 942 = .ok (.aload_n 0, 1) := fp_hdL_law_908.1.2.2.2.2.1
theorem dL_law_943 : decode cL_law 943 = .ok (.iload_n 3, 1) := fp_hdL_law_908.1.2.2.2.2.2
theorem fp_hdL_law_944 : (((((decode cL_law 944 = .ok (.iconst 2, 1) ∧ decode cL_law 945 = .ok (.iadd, 1)) ∧ (decode cL_law 946 = .ok (.iaload, 1) ∧ decode cL_law 947 = .ok (.aload_n 0, 1))) ∧ ((decode cL_law 948 = .ok (.iload_n 3, 1) ∧ decode cL_law 949 = .ok (.iconst 3, 1)) ∧ (decode cL_law 950 = .ok (.iadd, 1) ∧ decode cL_law 951 = .ok (.iaload, 1)))) ∧ (((decode cL_law 952 = .ok (.aload_n 0, 1) ∧ decode cL_law 953 = .ok (.iload_n 3, 1)) ∧ (decode cL_law 954 = .ok (.iconst 4, 1) ∧ decode cL_law 955 = .ok (.iadd, 1))) ∧ ((decode cL_law 956 = .ok (.iaload, 1) ∧ decode cL_law 957 = .ok (.invokevirtual 116, 3)) ∧ (decode cL_law 960 = .ok (.pop, 1) ∧ decode cL_law 961 = .ok (.goto 536, 3))))) ∧ ((((decode cL_law 964 = .ok (.aload_n 1, 1) ∧ decode cL_law 965 = .ok (.aload_n 0, 1)) ∧ (decode cL_law 966 = .ok (.iload_n 3, 1) ∧ decode cL_law 967 = .ok (.iconst 1, 1))) ∧ ((decode cL_law 968 = .ok (.iadd, 1) ∧ decode cL_law 969 = .ok (.iaload, 1)) ∧ (decode cL_law 970 = .ok (.aload_n 0, 1) ∧ decode cL_law 971 = .ok (.iload_n 3, 1)))) ∧ (((decode cL_law 972 = .ok (.iconst 2, 1) ∧ decode cL_law 973 = .ok (.iadd, 1)) ∧ (decode cL_law 974 = .ok (.iaload, 1) ∧ decode cL_law 975 = .ok (.invokevirtual 117, 3))) ∧ ((decode cL_law 978 = .ok (.pop, 1) ∧ decode cL_law 979 = .ok (.aload_n 2, 1)) ∧ (decode cL_law 980 = .ok (.aload_n 0, 1) ∧ decode cL_law 981 = .ok (.iload_n 3, 1)))))) ∧ bA cL_law 982 fp_scL_law_20 :=
  have q0 := fp_o5 fp_hdL_law_908.2
  have q1 := fp_o96 q0.2
  have q2 := fp_o46 q1.2
  have q3 := fp_o42 q2.2
  have q4 := fp_o29 q3.2
  have q5 := fp_o6 q4.2
  have q6 := fp_o96 q5.2
  have q7 := fp_o46 q6.2
  have q8 := fp_o42 q7.2
  have q9 := fp_o29 q8.2
  have q10 := fp_o7 q9.2
  have q11 := fp_o96 q10.2
  have q12 := fp_o46 q11.2
  have q13 := fp_o182 (v := 116) q12.2 rfl
  have q14 := fp_o87 q13.2
  have q15 := fp_o167 (v := 536) q14.2 rfl
  have q16 := fp_o43 q15.2
  have q17 := fp_o42 q16.2
  have q18 := fp_o29 q17.2
  have q19 := fp_o4 q18.2
  have q20 := fp_o96 q19.2
  have q21 := fp_o46 q20.2
  have q22 := fp_o42 q21.2
  have q23 := fp_o29 q22.2
  have q24 := fp_o5 q23.2
  have q25 := fp_o96 q24.2
  have q26 := fp_o46 q25.2
  have q27 := fp_o182 (v := 117) q26.2 rfl
  have q28 := fp_o87 q27.2
  have q29 := fp_o44 q28.2
  have q30 := fp_o42 q29.2
  have q31 := fp_o29 q30.2
  ⟨⟨⟨⟨⟨⟨q0.1, q1.1⟩, ⟨q2.1, q3.1⟩⟩, ⟨⟨q4.1, q5.1⟩, ⟨q6.1, q7.1⟩⟩⟩, ⟨⟨⟨q8.1, q9.1⟩, ⟨q10.1, q11.1⟩⟩, ⟨⟨q12.1, q13.1⟩, ⟨q14.1, q15.1⟩⟩⟩⟩, ⟨⟨⟨⟨q16.1, q17.1⟩, ⟨q18.1, q19.1⟩⟩, ⟨⟨q20.1, q21.1⟩, ⟨q22.1, q23.1⟩⟩⟩, ⟨⟨⟨q24.1, q25.1⟩, ⟨q26.1, q27.1⟩⟩, ⟨⟨q28.1, q29.1⟩, ⟨q30.1, q31.1⟩⟩⟩⟩⟩, q31.2⟩
theorem dL_law_944 : decode cL_law 944 = .ok (.iconst 2, 1) := fp_hdL_law_944.1.1.1.1.1.1
theorem dL_law_945 : decode cL_law 945 = .ok (.iadd, 1) := fp_hdL_law_944.1.1.1.1.1.2
theorem dL_law_946 : decode cL_law 946 = .ok (.iaload, 1) := fp_hdL_law_944.1.1.1.1.2.1
theorem dL_law_947 : decode cL_law 947 = .ok (.aload_n 0, 1) := fp_hdL_law_944.1.1.1.1.2.2
theorem dL_law_948 : decode cL_law 948 = .ok (.iload_n 3, 1) := fp_hdL_law_944.1.1.1.2.1.1
theorem dL_law_949 : decode cL_law 949 = .ok (.iconst 3, 1) := fp_hdL_law_944.1.1.1.2.1.2
theorem dL_law_950 : decode cL_law 950 = .ok (.iadd, 1) := fp_hdL_law_944.1.1.1.2.2.1
theorem dL_law_951 : decode cL_law 951 = .ok (.iaload, 1) := fp_hdL_law_944.1.1.1.2.2.2
theorem dL_law_952 : decode cL_law 952 = .ok (.aload_n 0, 1) := fp_hdL_law_944.1.1.2.1.1.1
theorem dL_law_953 : decode cL_law 953 = .ok (.iload_n 3, 1) := fp_hdL_law_944.1.1.2.1.1.2
theorem dL_law_954 : decode cL_law 954 = .ok (.iconst 4, 1) := fp_hdL_law_944.1.1.2.1.2.1
theorem dL_law_955 : decode cL_law 955 = .ok (.iadd, 1) := fp_hdL_law_944.1.1.2.1.2.2
theorem dL_law_956 : decode cL_law 956 = .ok (.iaload, 1) := fp_hdL_law_944.1.1.2.2.1.1
theorem dL_law_957 : decode cL_law 957 = .ok (.invokevirtual 116, 3) := fp_hdL_law_944.1.1.2.2.1.2
theorem dL_law_960 : decode cL_law 960 = .ok (.pop, 1) := fp_hdL_law_944.1.1.2.2.2.1
theorem dL_law_961 : decode cL_law 961 = .ok (.goto 536, 3) := fp_hdL_law_944.1.1.2.2.2.2
theorem dL_law_964 : decode cL_law 964 = .ok (.aload_n 1, 1) := fp_hdL_law_944.1.2.1.1.1.1
theorem dL_law_965 : decode cL_law 965 = .ok (.aload_n 0, 1) := fp_hdL_law_944.1.2.1.1.1.2
theorem dL_law_966 : decode cL_law 966 = .ok (.iload_n 3, 1) := fp_hdL_law_944.1.2.1.1.2.1
theorem dL_law_967 : decode cL_law 967 = .ok (.iconst 1, 1) := fp_hdL_law_944.1.2.1.1.2.2
theorem dL_law_968 : decode cL_law 968 = .ok (.iadd, 1) := fp_hdL_law_944.1.2.1.2.1.1
theorem dL_law_969 : decode cL_law 969 = .ok (.iaload, 1) := fp_hdL_law_944.1.2.1.2.1.2
theorem dL_law_970 : decode cL_law 970 = .ok (.aload_n 0, 1) := fp_hdL_law_944.1.2.1.2.2.1
theorem dL_law_971 : decode cL_law 971 = .ok (.iload_n 3, 1) := fp_hdL_law_944.1.2.1.2.2.2
theorem dL_law_972 : decode cL_law 972 = .ok (.iconst 2, 1) := fp_hdL_law_944.1.2.2.1.1.1
theorem dL_law_973 : decode cL_law 973 = .ok (.iadd, 1) := fp_hdL_law_944.1.2.2.1.1.2
theorem dL_law_974 : decode cL_law 974 = .ok (.iaload, 1) := fp_hdL_law_944.1.2.2.1.2.1
theorem dL_law_975 : decode cL_law 975 = .ok (.invokevirtual 117, 3) := fp_hdL_law_944.1.2.2.1.2.2
theorem dL_law_978 : decode cL_law 978 = .ok (.pop, 1) := fp_hdL_law_944.1.2.2.2.1.1
theorem dL_law_979 : decode cL_law 979 = .ok (.aload_n 2, 1) := fp_hdL_law_944.1.2.2.2.1.2
theorem dL_law_980 : decode cL_law 980 = .ok (.aload_n 0, 1) := fp_hdL_law_944.1.2.2.2.2.1
theorem dL_law_981 : decode cL_law 981 = .ok (.iload_n 3, 1) := fp_hdL_law_944.1.2.2.2.2.2
theorem fp_hdL_law_982 : (((((decode cL_law 982 = .ok (.iconst 1, 1) ∧ decode cL_law 983 = .ok (.iadd, 1)) ∧ (decode cL_law 984 = .ok (.iaload, 1) ∧ decode cL_law 985 = .ok (.aload_n 0, 1))) ∧ ((decode cL_law 986 = .ok (.iload_n 3, 1) ∧ decode cL_law 987 = .ok (.iconst 2, 1)) ∧ (decode cL_law 988 = .ok (.iadd, 1) ∧ decode cL_law 989 = .ok (.iaload, 1)))) ∧ (((decode cL_law 990 = .ok (.invokevirtual 120, 3) ∧ decode cL_law 993 = .ok (.pop, 1)) ∧ (decode cL_law 994 = .ok (.goto 503, 3) ∧ decode cL_law 997 = .ok (.aload_n 1, 1))) ∧ ((decode cL_law 998 = .ok (.aload_n 0, 1) ∧ decode cL_law 999 = .ok (.iload_n 3, 1)) ∧ (decode cL_law 1000 = .ok (.iconst 1, 1) ∧ decode cL_law 1001 = .ok (.iadd, 1))))) ∧ ((((decode cL_law 1002 = .ok (.iaload, 1) ∧ decode cL_law 1003 = .ok (.aload_n 0, 1)) ∧ (decode cL_law 1004 = .ok (.iload_n 3, 1) ∧ decode cL_law 1005 = .ok (.iconst 2, 1))) ∧ ((decode cL_law 1006 = .ok (.iadd, 1) ∧ decode cL_law 1007 = .ok (.iaload, 1)) ∧ (decode cL_law 1008 = .ok (.aload_n 0, 1) ∧ decode cL_law 1009 = .ok (.iload_n 3, 1)))) ∧ (((decode cL_law 1010 = .ok (.iconst 3, 1) ∧ decode cL_law 1011 = .ok (.iadd, 1)) ∧ (decode cL_law 1012 = .ok (.iaload, 1) ∧ decode cL_law 1013 = .ok (.invokevirtual 121, 3))) ∧ ((decode cL_law 1016 = .ok (.pop2, 1) ∧ decode cL_law 1017 = .ok (.aload_n 2, 1)) ∧ (decode cL_law 1018 = .ok (.aload_n 0, 1) ∧ decode cL_law 1019 = .ok (.iload_n 3, 1)))))) ∧ bA cL_law 1020 fp_scL_law_21 :=
  have q0 := fp_o4 fp_hdL_law_944.2
  have q1 := fp_o96 q0.2
  have q2 := fp_o46 q1.2
  have q3 := fp_o42 q2.2
  have q4 := fp_o29 q3.2
  have q5 := fp_o5 q4.2
  have q6 := fp_o96 q5.2
  have q7 := fp_o46 q6.2
  have q8 := fp_o182 (v := 120) q7.2 rfl
  have q9 := fp_o87 q8.2
  have q10 := fp_o167 (v := 503) q9.2 rfl
  have q11 := fp_o43 q10.2
  have q12 := fp_o42 q11.2
  have q13 := fp_o29 q12.2
  have q14 := fp_o4 q13.2
  have q15 := fp_o96 q14.2
  have q16 := fp_o46 q15.2
  have q17 := fp_o42 q16.2
  have q18 := fp_o29 q17.2
  have q19 := fp_o5 q18.2
  have q20 := fp_o96 q19.2
  have q21 := fp_o46 q20.2
  have q22 := fp_o42 q21.2
  have q23 := fp_o29 q22.2
  have q24 := fp_o6 q23.2
  have q25 := fp_o96 q24.2
  have q26 := fp_o46 q25.2
  have q27 := fp_o182 (v := 121) q26.2 rfl
  have q28 := fp_o88 q27.2
  have q29 := fp_o44 q28.2
  have q30 := fp_o42 q29.2
  have q31 := fp_o29 q30.2
  ⟨⟨⟨⟨⟨⟨q0.1, q1.1⟩, ⟨q2.1, q3.1⟩⟩, ⟨⟨q4.1, q5.1⟩, ⟨q6.1, q7.1⟩⟩⟩, ⟨⟨⟨q8.1, q9.1⟩, ⟨q10.1, q11.1⟩⟩, ⟨⟨q12.1, q13.1⟩, ⟨q14.1, q15.1⟩⟩⟩⟩, ⟨⟨⟨⟨q16.1, q17.1⟩, ⟨q18.1, q19.1⟩⟩, ⟨⟨q20.1, q21.1⟩, ⟨q22.1, q23.1⟩⟩⟩, ⟨⟨⟨q24.1, q25.1⟩, ⟨q26.1, q27.1⟩⟩, ⟨⟨q28.1, q29.1⟩, ⟨q30.1, q31.1⟩⟩⟩⟩⟩, q31.2⟩
theorem dL_law_982 : decode cL_law 982 = .ok (.iconst 1, 1) := fp_hdL_law_982.1.1.1.1.1.1
theorem dL_law_983 : decode cL_law 983 = .ok (.iadd, 1) := fp_hdL_law_982.1.1.1.1.1.2
theorem dL_law_984 : decode cL_law 984 = .ok (.iaload, 1) := fp_hdL_law_982.1.1.1.1.2.1
theorem dL_law_985 : decode cL_law 985 = .ok (.aload_n 0, 1) := fp_hdL_law_982.1.1.1.1.2.2
theorem dL_law_986 : decode cL_law 986 = .ok (.iload_n 3, 1) := fp_hdL_law_982.1.1.1.2.1.1
theorem dL_law_987 : decode cL_law 987 = .ok (.iconst 2, 1) := fp_hdL_law_982.1.1.1.2.1.2
theorem dL_law_988 : decode cL_law 988 = .ok (.iadd, 1) := fp_hdL_law_982.1.1.1.2.2.1
theorem dL_law_989 : decode cL_law 989 = .ok (.iaload, 1) := fp_hdL_law_982.1.1.1.2.2.2
theorem dL_law_990 : decode cL_law 990 = .ok (.invokevirtual 120, 3) := fp_hdL_law_982.1.1.2.1.1.1
theorem dL_law_993 : decode cL_law 993 = .ok (.pop, 1) := fp_hdL_law_982.1.1.2.1.1.2
theorem dL_law_994 : decode cL_law 994 = .ok (.goto 503, 3) := fp_hdL_law_982.1.1.2.1.2.1
theorem dL_law_997 : decode cL_law 997 = .ok (.aload_n 1, 1) := fp_hdL_law_982.1.1.2.1.2.2
theorem dL_law_998 : decode cL_law 998 = .ok (.aload_n 0, 1) := fp_hdL_law_982.1.1.2.2.1.1
theorem dL_law_999 : decode cL_law 999 = .ok (.iload_n 3, 1) := fp_hdL_law_982.1.1.2.2.1.2
theorem dL_law_1000 : decode cL_law 1000 = .ok (.iconst 1, 1) := fp_hdL_law_982.1.1.2.2.2.1
theorem dL_law_1001 : decode cL_law 1001 = .ok (.iadd, 1) := fp_hdL_law_982.1.1.2.2.2.2
theorem dL_law_1002 : decode cL_law 1002 = .ok (.iaload, 1) := fp_hdL_law_982.1.2.1.1.1.1
theorem dL_law_1003 : decode cL_law 1003 = .ok (.aload_n 0, 1) := fp_hdL_law_982.1.2.1.1.1.2
theorem dL_law_1004 : decode cL_law 1004 = .ok (.iload_n 3, 1) := fp_hdL_law_982.1.2.1.1.2.1
theorem dL_law_1005 : decode cL_law 1005 = .ok (.iconst 2, 1) := fp_hdL_law_982.1.2.1.1.2.2
theorem dL_law_1006 : decode cL_law 1006 = .ok (.iadd, 1) := fp_hdL_law_982.1.2.1.2.1.1
theorem dL_law_1007 : decode cL_law 1007 = .ok (.iaload, 1) := fp_hdL_law_982.1.2.1.2.1.2
theorem dL_law_1008 : decode cL_law 1008 = .ok (.aload_n 0, 1) := fp_hdL_law_982.1.2.1.2.2.1
theorem dL_law_1009 : decode cL_law 1009 = .ok (.iload_n 3, 1) := fp_hdL_law_982.1.2.1.2.2.2
theorem dL_law_1010 : decode cL_law 1010 = .ok (.iconst 3, 1) := fp_hdL_law_982.1.2.2.1.1.1
theorem dL_law_1011 : decode cL_law 1011 = .ok (.iadd, 1) := fp_hdL_law_982.1.2.2.1.1.2
theorem dL_law_1012 : decode cL_law 1012 = .ok (.iaload, 1) := fp_hdL_law_982.1.2.2.1.2.1
theorem dL_law_1013 : decode cL_law 1013 = .ok (.invokevirtual 121, 3) := fp_hdL_law_982.1.2.2.1.2.2
theorem dL_law_1016 : decode cL_law 1016 = .ok (.pop2, 1) := fp_hdL_law_982.1.2.2.2.1.1
theorem dL_law_1017 : decode cL_law 1017 = .ok (.aload_n 2, 1) := fp_hdL_law_982.1.2.2.2.1.2
theorem dL_law_1018 : decode cL_law 1018 = .ok (.aload_n 0, 1) := fp_hdL_law_982.1.2.2.2.2.1
theorem dL_law_1019 : decode cL_law 1019 = .ok (.iload_n 3, 1) := fp_hdL_law_982.1.2.2.2.2.2
theorem fp_hdL_law_1020 : (((((decode cL_law 1020 = .ok (.iconst 1, 1) ∧ decode cL_law 1021 = .ok (.iadd, 1)) ∧ (decode cL_law 1022 = .ok (.iaload, 1) ∧ decode cL_law 1023 = .ok (.aload_n 0, 1))) ∧ ((decode cL_law 1024 = .ok (.iload_n 3, 1) ∧ decode cL_law 1025 = .ok (.iconst 2, 1)) ∧ (decode cL_law 1026 = .ok (.iadd, 1) ∧ decode cL_law 1027 = .ok (.iaload, 1)))) ∧ (((decode cL_law 1028 = .ok (.aload_n 0, 1) ∧ decode cL_law 1029 = .ok (.iload_n 3, 1)) ∧ (decode cL_law 1030 = .ok (.iconst 3, 1) ∧ decode cL_law 1031 = .ok (.iadd, 1))) ∧ ((decode cL_law 1032 = .ok (.iaload, 1) ∧ decode cL_law 1033 = .ok (.invokevirtual 125, 3)) ∧ (decode cL_law 1036 = .ok (.pop2, 1) ∧ decode cL_law 1037 = .ok (.goto 460, 3))))) ∧ ((((decode cL_law 1040 = .ok (.aload_n 1, 1) ∧ decode cL_law 1041 = .ok (.aload_n 0, 1)) ∧ (decode cL_law 1042 = .ok (.iload_n 3, 1) ∧ decode cL_law 1043 = .ok (.iconst 1, 1))) ∧ ((decode cL_law 1044 = .ok (.iadd, 1) ∧ decode cL_law 1045 = .ok (.iaload, 1)) ∧ (decode cL_law 1046 = .ok (.invokevirtual 126, 3) ∧ decode cL_law 1049 = .ok (.pop, 1)))) ∧ (((decode cL_law 1050 = .ok (.aload_n 2, 1) ∧ decode cL_law 1051 = .ok (.aload_n 0, 1)) ∧ (decode cL_law 1052 = .ok (.iload_n 3, 1) ∧ decode cL_law 1053 = .ok (.iconst 1, 1))) ∧ ((decode cL_law 1054 = .ok (.iadd, 1) ∧ decode cL_law 1055 = .ok (.iaload, 1)) ∧ (decode cL_law 1056 = .ok (.invokevirtual 129, 3) ∧ decode cL_law 1059 = .ok (.pop, 1)))))) ∧ bA cL_law 1060 fp_scL_law_22 :=
  have q0 := fp_o4 fp_hdL_law_982.2
  have q1 := fp_o96 q0.2
  have q2 := fp_o46 q1.2
  have q3 := fp_o42 q2.2
  have q4 := fp_o29 q3.2
  have q5 := fp_o5 q4.2
  have q6 := fp_o96 q5.2
  have q7 := fp_o46 q6.2
  have q8 := fp_o42 q7.2
  have q9 := fp_o29 q8.2
  have q10 := fp_o6 q9.2
  have q11 := fp_o96 q10.2
  have q12 := fp_o46 q11.2
  have q13 := fp_o182 (v := 125) q12.2 rfl
  have q14 := fp_o88 q13.2
  have q15 := fp_o167 (v := 460) q14.2 rfl
  have q16 := fp_o43 q15.2
  have q17 := fp_o42 q16.2
  have q18 := fp_o29 q17.2
  have q19 := fp_o4 q18.2
  have q20 := fp_o96 q19.2
  have q21 := fp_o46 q20.2
  have q22 := fp_o182 (v := 126) q21.2 rfl
  have q23 := fp_o87 q22.2
  have q24 := fp_o44 q23.2
  have q25 := fp_o42 q24.2
  have q26 := fp_o29 q25.2
  have q27 := fp_o4 q26.2
  have q28 := fp_o96 q27.2
  have q29 := fp_o46 q28.2
  have q30 := fp_o182 (v := 129) q29.2 rfl
  have q31 := fp_o87 q30.2
  ⟨⟨⟨⟨⟨⟨q0.1, q1.1⟩, ⟨q2.1, q3.1⟩⟩, ⟨⟨q4.1, q5.1⟩, ⟨q6.1, q7.1⟩⟩⟩, ⟨⟨⟨q8.1, q9.1⟩, ⟨q10.1, q11.1⟩⟩, ⟨⟨q12.1, q13.1⟩, ⟨q14.1, q15.1⟩⟩⟩⟩, ⟨⟨⟨⟨q16.1, q17.1⟩, ⟨q18.1, q19.1⟩⟩, ⟨⟨q20.1, q21.1⟩, ⟨q22.1, q23.1⟩⟩⟩, ⟨⟨⟨q24.1, q25.1⟩, ⟨q26.1, q27.1⟩⟩, ⟨⟨q28.1, q29.1⟩, ⟨q30.1, q31.1⟩⟩⟩⟩⟩, q31.2⟩
theorem dL_law_1020 : decode cL_law 1020 = .ok (.iconst 1, 1) := fp_hdL_law_1020.1.1.1.1.1.1
theorem dL_law_1021 : decode cL_law 1021 = .ok (.iadd, 1) := fp_hdL_law_1020.1.1.1.1.1.2
theorem dL_law_1022 : decode cL_law 1022 = .ok (.iaload, 1) := fp_hdL_law_1020.1.1.1.1.2.1
theorem dL_law_1023 : decode cL_law 1023 = .ok (.aload_n 0, 1) := fp_hdL_law_1020.1.1.1.1.2.2
theorem dL_law_1024 : decode cL_law 1024 = .ok (.iload_n 3, 1) := fp_hdL_law_1020.1.1.1.2.1.1
theorem dL_law_1025 : decode cL_law 1025 = .ok (.iconst 2, 1) := fp_hdL_law_1020.1.1.1.2.1.2
theorem dL_law_1026 : decode cL_law 1026 = .ok (.iadd, 1) := fp_hdL_law_1020.1.1.1.2.2.1
theorem dL_law_1027 : decode cL_law 1027 = .ok (.iaload, 1) := fp_hdL_law_1020.1.1.1.2.2.2
theorem dL_law_1028 : decode cL_law 1028 = .ok (.aload_n 0, 1) := fp_hdL_law_1020.1.1.2.1.1.1
theorem dL_law_1029 : decode cL_law 1029 = .ok (.iload_n 3, 1) := fp_hdL_law_1020.1.1.2.1.1.2
theorem dL_law_1030 : decode cL_law 1030 = .ok (.iconst 3, 1) := fp_hdL_law_1020.1.1.2.1.2.1
theorem dL_law_1031 : decode cL_law 1031 = .ok (.iadd, 1) := fp_hdL_law_1020.1.1.2.1.2.2
theorem dL_law_1032 : decode cL_law 1032 = .ok (.iaload, 1) := fp_hdL_law_1020.1.1.2.2.1.1
theorem dL_law_1033 : decode cL_law 1033 = .ok (.invokevirtual 125, 3) := fp_hdL_law_1020.1.1.2.2.1.2
theorem dL_law_1036 : decode cL_law 1036 = .ok (.pop2, 1) := fp_hdL_law_1020.1.1.2.2.2.1
theorem dL_law_1037 : decode cL_law 1037 = .ok (.goto 460, 3) := fp_hdL_law_1020.1.1.2.2.2.2
theorem dL_law_1040 : decode cL_law 1040 = .ok (.aload_n 1, 1) := fp_hdL_law_1020.1.2.1.1.1.1
theorem dL_law_1041 : decode cL_law 1041 = .ok (.aload_n 0, 1) := fp_hdL_law_1020.1.2.1.1.1.2
theorem dL_law_1042 : decode cL_law 1042 = .ok (.iload_n 3, 1) := fp_hdL_law_1020.1.2.1.1.2.1
theorem dL_law_1043 : decode cL_law 1043 = .ok (.iconst 1, 1) := fp_hdL_law_1020.1.2.1.1.2.2
theorem dL_law_1044 : decode cL_law 1044 = .ok (.iadd, 1) := fp_hdL_law_1020.1.2.1.2.1.1
theorem dL_law_1045 : decode cL_law 1045 = .ok (.iaload, 1) := fp_hdL_law_1020.1.2.1.2.1.2
theorem dL_law_1046 : decode cL_law 1046 = .ok (.invokevirtual 126, 3) := fp_hdL_law_1020.1.2.1.2.2.1
theorem dL_law_1049 : decode cL_law 1049 = .ok (.pop, 1) := fp_hdL_law_1020.1.2.1.2.2.2
theorem dL_law_1050 : decode cL_law 1050 = .ok (.aload_n 2, 1) := fp_hdL_law_1020.1.2.2.1.1.1
theorem dL_law_1051 : decode cL_law 1051 = .ok (.aload_n 0, 1) := fp_hdL_law_1020.1.2.2.1.1.2
theorem dL_law_1052 : decode cL_law 1052 = .ok (.iload_n 3, 1) := fp_hdL_law_1020.1.2.2.1.2.1
theorem dL_law_1053 : decode cL_law 1053 = .ok (.iconst 1, 1) := fp_hdL_law_1020.1.2.2.1.2.2
theorem dL_law_1054 : decode cL_law 1054 = .ok (.iadd, 1) := fp_hdL_law_1020.1.2.2.2.1.1
theorem dL_law_1055 : decode cL_law 1055 = .ok (.iaload, 1) := fp_hdL_law_1020.1.2.2.2.1.2
theorem dL_law_1056 : decode cL_law 1056 = .ok (.invokevirtual 129, 3) := fp_hdL_law_1020.1.2.2.2.2.1
theorem dL_law_1059 : decode cL_law 1059 = .ok (.pop, 1) := fp_hdL_law_1020.1.2.2.2.2.2
theorem fp_hdL_law_1060 : (((((decode cL_law 1060 = .ok (.goto 437, 3) ∧ decode cL_law 1063 = .ok (.aload_n 1, 1)) ∧ (decode cL_law 1064 = .ok (.aload_n 0, 1) ∧ decode cL_law 1065 = .ok (.iload_n 3, 1))) ∧ ((decode cL_law 1066 = .ok (.iconst 1, 1) ∧ decode cL_law 1067 = .ok (.iadd, 1)) ∧ (decode cL_law 1068 = .ok (.iaload, 1) ∧ decode cL_law 1069 = .ok (.aload_n 0, 1)))) ∧ (((decode cL_law 1070 = .ok (.iload_n 3, 1) ∧ decode cL_law 1071 = .ok (.iconst 2, 1)) ∧ (decode cL_law 1072 = .ok (.iadd, 1) ∧ decode cL_law 1073 = .ok (.iaload, 1))) ∧ ((decode cL_law 1074 = .ok (.aload_n 0, 1) ∧ decode cL_law 1075 = .ok (.iload_n 3, 1)) ∧ (decode cL_law 1076 = .ok (.iconst 3, 1) ∧ decode cL_law 1077 = .ok (.iadd, 1))))) ∧ ((((decode cL_law 1078 = .ok (.iaload, 1) ∧ decode cL_law 1079 = .ok (.aload_n 0, 1)) ∧ (decode cL_law 1080 = .ok (.iload_n 3, 1) ∧ decode cL_law 1081 = .ok (.iconst 4, 1))) ∧ ((decode cL_law 1082 = .ok (.iadd, 1) ∧ decode cL_law 1083 = .ok (.iaload, 1)) ∧ (decode cL_law 1084 = .ok (.aload_n 0, 1) ∧ decode cL_law 1085 = .ok (.iload_n 3, 1)))) ∧ (((decode cL_law 1086 = .ok (.iconst 5, 1) ∧ decode cL_law 1087 = .ok (.iadd, 1)) ∧ (decode cL_law 1088 = .ok (.iaload, 1) ∧ decode cL_law 1089 = .ok (.aload_n 0, 1))) ∧ ((decode cL_law 1090 = .ok (.iload_n 3, 1) ∧ decode cL_law 1091 = .ok (.bipush 6, 2)) ∧ (decode cL_law 1093 = .ok (.iadd, 1) ∧ decode cL_law 1094 = .ok (.iaload, 1)))))) ∧ bA cL_law 1095 fp_scL_law_23 :=
  have q0 := fp_o167 (v := 437) fp_hdL_law_1020.2 rfl
  have q1 := fp_o43 q0.2
  have q2 := fp_o42 q1.2
  have q3 := fp_o29 q2.2
  have q4 := fp_o4 q3.2
  have q5 := fp_o96 q4.2
  have q6 := fp_o46 q5.2
  have q7 := fp_o42 q6.2
  have q8 := fp_o29 q7.2
  have q9 := fp_o5 q8.2
  have q10 := fp_o96 q9.2
  have q11 := fp_o46 q10.2
  have q12 := fp_o42 q11.2
  have q13 := fp_o29 q12.2
  have q14 := fp_o6 q13.2
  have q15 := fp_o96 q14.2
  have q16 := fp_o46 q15.2
  have q17 := fp_o42 q16.2
  have q18 := fp_o29 q17.2
  have q19 := fp_o7 q18.2
  have q20 := fp_o96 q19.2
  have q21 := fp_o46 q20.2
  have q22 := fp_o42 q21.2
  have q23 := fp_o29 q22.2
  have q24 := fp_o8 q23.2
  have q25 := fp_o96 q24.2
  have q26 := fp_o46 q25.2
  have q27 := fp_o42 q26.2
  have q28 := fp_o29 q27.2
  have q29 := fp_o16 (v := 6) q28.2 rfl
  have q30 := fp_o96 q29.2
  have q31 := fp_o46 q30.2
  ⟨⟨⟨⟨⟨⟨q0.1, q1.1⟩, ⟨q2.1, q3.1⟩⟩, ⟨⟨q4.1, q5.1⟩, ⟨q6.1, q7.1⟩⟩⟩, ⟨⟨⟨q8.1, q9.1⟩, ⟨q10.1, q11.1⟩⟩, ⟨⟨q12.1, q13.1⟩, ⟨q14.1, q15.1⟩⟩⟩⟩, ⟨⟨⟨⟨q16.1, q17.1⟩, ⟨q18.1, q19.1⟩⟩, ⟨⟨q20.1, q21.1⟩, ⟨q22.1, q23.1⟩⟩⟩, ⟨⟨⟨q24.1, q25.1⟩, ⟨q26.1, q27.1⟩⟩, ⟨⟨q28.1, q29.1⟩, ⟨q30.1, q31.1⟩⟩⟩⟩⟩, q31.2⟩
theorem dL_law_1060 : decode cL_law 1060 = .ok (.goto 437, 3) := fp_hdL_law_1060.1.1.1.1.1.1
theorem dL_law_1063 : decode cL_law 1063 = .ok (.aload_n 1, 1) := fp_hdL_law_1060.1.1.1.1.1.2
theorem dL_law_1064 : decode cL_law 1064 = .ok (.aload_n 0, 1) := fp_hdL_law_1060.1.1.1.1.2.1
theorem dL_law_1065 : decode cL_law 1065 = .ok (.iload_n 3, 1) := fp_hdL_law_1060.1.1.1.1.2.2
theorem dL_law_1066 : decode cL_law 1066 = .ok (.iconst 1, 1) := fp_hdL_law_1060.1.1.1.2.1.1
theorem dL_law_1067 : decode cL_law 1067 = .ok (.iadd, 1) := fp_hdL_law_1060.1.1.1.2.1.2
theorem dL_law_1068 : decode cL_law 1068 = .ok (.iaload, 1) := fp_hdL_law_1060.1.1.1.2.2.1
theorem dL_law_1069 : decode cL_law 1069 = .ok (.aload_n 0, 1) := fp_hdL_law_1060.1.1.1.2.2.2
theorem dL_law_1070 : decode cL_law 1070 = .ok (.iload_n 3, 1) := fp_hdL_law_1060.1.1.2.1.1.1
theorem dL_law_1071 : decode cL_law 1071 = .ok (.iconst 2, 1) := fp_hdL_law_1060.1.1.2.1.1.2
theorem dL_law_1072 : decode cL_law 1072 = .ok (.iadd, 1) := fp_hdL_law_1060.1.1.2.1.2.1
theorem dL_law_1073 : decode cL_law 1073 = .ok (.iaload, 1) := fp_hdL_law_1060.1.1.2.1.2.2
theorem dL_law_1074 : decode cL_law 1074 = .ok (.aload_n 0, 1) := fp_hdL_law_1060.1.1.2.2.1.1
theorem dL_law_1075 : decode cL_law 1075 = .ok (.iload_n 3, 1) := fp_hdL_law_1060.1.1.2.2.1.2
theorem dL_law_1076 : decode cL_law 1076 = .ok (.iconst 3, 1) := fp_hdL_law_1060.1.1.2.2.2.1
theorem dL_law_1077 : decode cL_law 1077 = .ok (.iadd, 1) := fp_hdL_law_1060.1.1.2.2.2.2
theorem dL_law_1078 : decode cL_law 1078 = .ok (.iaload, 1) := fp_hdL_law_1060.1.2.1.1.1.1
theorem dL_law_1079 : decode cL_law 1079 = .ok (.aload_n 0, 1) := fp_hdL_law_1060.1.2.1.1.1.2
theorem dL_law_1080 : decode cL_law 1080 = .ok (.iload_n 3, 1) := fp_hdL_law_1060.1.2.1.1.2.1
theorem dL_law_1081 : decode cL_law 1081 = .ok (.iconst 4, 1) := fp_hdL_law_1060.1.2.1.1.2.2
theorem dL_law_1082 : decode cL_law 1082 = .ok (.iadd, 1) := fp_hdL_law_1060.1.2.1.2.1.1
theorem dL_law_1083 : decode cL_law 1083 = .ok (.iaload, 1) := fp_hdL_law_1060.1.2.1.2.1.2
theorem dL_law_1084 : decode cL_law 1084 = .ok (.aload_n 0, 1) := fp_hdL_law_1060.1.2.1.2.2.1
theorem dL_law_1085 : decode cL_law 1085 = .ok (.iload_n 3, 1) := fp_hdL_law_1060.1.2.1.2.2.2
theorem dL_law_1086 : decode cL_law 1086 = .ok (.iconst 5, 1) := fp_hdL_law_1060.1.2.2.1.1.1
theorem dL_law_1087 : decode cL_law 1087 = .ok (.iadd, 1) := fp_hdL_law_1060.1.2.2.1.1.2
theorem dL_law_1088 : decode cL_law 1088 = .ok (.iaload, 1) := fp_hdL_law_1060.1.2.2.1.2.1
theorem dL_law_1089 : decode cL_law 1089 = .ok (.aload_n 0, 1) := fp_hdL_law_1060.1.2.2.1.2.2
theorem dL_law_1090 : decode cL_law 1090 = .ok (.iload_n 3, 1) := fp_hdL_law_1060.1.2.2.2.1.1
theorem dL_law_1091 : decode cL_law 1091 = .ok (.bipush 6, 2) := fp_hdL_law_1060.1.2.2.2.1.2
theorem dL_law_1093 : decode cL_law 1093 = .ok (.iadd, 1) := fp_hdL_law_1060.1.2.2.2.2.1
theorem dL_law_1094 : decode cL_law 1094 = .ok (.iaload, 1) := fp_hdL_law_1060.1.2.2.2.2.2
theorem fp_hdL_law_1095 : (((((decode cL_law 1095 = .ok (.invokevirtual 130, 3) ∧ decode cL_law 1098 = .ok (.pop, 1)) ∧ (decode cL_law 1099 = .ok (.aload_n 2, 1) ∧ decode cL_law 1100 = .ok (.aload_n 0, 1))) ∧ ((decode cL_law 1101 = .ok (.iload_n 3, 1) ∧ decode cL_law 1102 = .ok (.iconst 1, 1)) ∧ (decode cL_law 1103 = .ok (.iadd, 1) ∧ decode cL_law 1104 = .ok (.iaload, 1)))) ∧ (((decode cL_law 1105 = .ok (.aload_n 0, 1) ∧ decode cL_law 1106 = .ok (.iload_n 3, 1)) ∧ (decode cL_law 1107 = .ok (.iconst 2, 1) ∧ decode cL_law 1108 = .ok (.iadd, 1))) ∧ ((decode cL_law 1109 = .ok (.iaload, 1) ∧ decode cL_law 1110 = .ok (.aload_n 0, 1)) ∧ (decode cL_law 1111 = .ok (.iload_n 3, 1) ∧ decode cL_law 1112 = .ok (.iconst 3, 1))))) ∧ ((((decode cL_law 1113 = .ok (.iadd, 1) ∧ decode cL_law 1114 = .ok (.iaload, 1)) ∧ (decode cL_law 1115 = .ok (.aload_n 0, 1) ∧ decode cL_law 1116 = .ok (.iload_n 3, 1))) ∧ ((decode cL_law 1117 = .ok (.iconst 4, 1) ∧ decode cL_law 1118 = .ok (.iadd, 1)) ∧ (decode cL_law 1119 = .ok (.iaload, 1) ∧ decode cL_law 1120 = .ok (.aload_n 0, 1)))) ∧ (((decode cL_law 1121 = .ok (.iload_n 3, 1) ∧ decode cL_law 1122 = .ok (.iconst 5, 1)) ∧ (decode cL_law 1123 = .ok (.iadd, 1) ∧ decode cL_law 1124 = .ok (.iaload, 1))) ∧ ((decode cL_law 1125 = .ok (.aload_n 0, 1) ∧ decode cL_law 1126 = .ok (.iload_n 3, 1)) ∧ (decode cL_law 1127 = .ok (.bipush 6, 2) ∧ decode cL_law 1129 = .ok (.iadd, 1)))))) ∧ bA cL_law 1130 fp_scL_law_24 :=
  have q0 := fp_o182 (v := 130) fp_hdL_law_1060.2 rfl
  have q1 := fp_o87 q0.2
  have q2 := fp_o44 q1.2
  have q3 := fp_o42 q2.2
  have q4 := fp_o29 q3.2
  have q5 := fp_o4 q4.2
  have q6 := fp_o96 q5.2
  have q7 := fp_o46 q6.2
  have q8 := fp_o42 q7.2
  have q9 := fp_o29 q8.2
  have q10 := fp_o5 q9.2
  have q11 := fp_o96 q10.2
  have q12 := fp_o46 q11.2
  have q13 := fp_o42 q12.2
  have q14 := fp_o29 q13.2
  have q15 := fp_o6 q14.2
  have q16 := fp_o96 q15.2
  have q17 := fp_o46 q16.2
  have q18 := fp_o42 q17.2
  have q19 := fp_o29 q18.2
  have q20 := fp_o7 q19.2
  have q21 := fp_o96 q20.2
  have q22 := fp_o46 q21.2
  have q23 := fp_o42 q22.2
  have q24 := fp_o29 q23.2
  have q25 := fp_o8 q24.2
  have q26 := fp_o96 q25.2
  have q27 := fp_o46 q26.2
  have q28 := fp_o42 q27.2
  have q29 := fp_o29 q28.2
  have q30 := fp_o16 (v := 6) q29.2 rfl
  have q31 := fp_o96 q30.2
  ⟨⟨⟨⟨⟨⟨q0.1, q1.1⟩, ⟨q2.1, q3.1⟩⟩, ⟨⟨q4.1, q5.1⟩, ⟨q6.1, q7.1⟩⟩⟩, ⟨⟨⟨q8.1, q9.1⟩, ⟨q10.1, q11.1⟩⟩, ⟨⟨q12.1, q13.1⟩, ⟨q14.1, q15.1⟩⟩⟩⟩, ⟨⟨⟨⟨q16.1, q17.1⟩, ⟨q18.1, q19.1⟩⟩, ⟨⟨q20.1, q21.1⟩, ⟨q22.1, q23.1⟩⟩⟩, ⟨⟨⟨q24.1, q25.1⟩, ⟨q26.1, q27.1⟩⟩, ⟨⟨q28.1, q29.1⟩, ⟨q30.1, q31.1⟩⟩⟩⟩⟩, q31.2⟩
theorem dL_law_1095 : decode cL_law 1095 = .ok (.invokevirtual 130, 3) := fp_hdL_law_1095.1.1.1.1.1.1
theorem dL_law_1098 : decode cL_law 1098 = .ok (.pop, 1) := fp_hdL_law_1095.1.1.1.1.1.2
theorem dL_law_1099 : decode cL_law 1099 = .ok (.aload_n 2, 1) := fp_hdL_law_1095.1.1.1.1.2.1
theorem dL_law_1100 : decode cL_law 1100 = .ok (.aload_n 0, 1) := fp_hdL_law_1095.1.1.1.1.2.2
theorem dL_law_1101 : decode cL_law 1101 = .ok (.iload_n 3, 1) := fp_hdL_law_1095.1.1.1.2.1.1
theorem dL_law_1102 : decode cL_law 1102 = .ok (.iconst 1, 1) := fp_hdL_law_1095.1.1.1.2.1.2
theorem dL_law_1103 : decode cL_law 1103 = .ok (.iadd, 1) := fp_hdL_law_1095.1.1.1.2.2.1
theorem dL_law_1104 : decode cL_law 1104 = .ok (.iaload, 1) := fp_hdL_law_1095.1.1.1.2.2.2
theorem dL_law_1105 : decode cL_law 1105 = .ok (.aload_n 0, 1) := fp_hdL_law_1095.1.1.2.1.1.1
theorem dL_law_1106 : decode cL_law 1106 = .ok (.iload_n 3, 1) := fp_hdL_law_1095.1.1.2.1.1.2
theorem dL_law_1107 : decode cL_law 1107 = .ok (.iconst 2, 1) := fp_hdL_law_1095.1.1.2.1.2.1
theorem dL_law_1108 : decode cL_law 1108 = .ok (.iadd, 1) := fp_hdL_law_1095.1.1.2.1.2.2
theorem dL_law_1109 : decode cL_law 1109 = .ok (.iaload, 1) := fp_hdL_law_1095.1.1.2.2.1.1
theorem dL_law_1110 : decode cL_law 1110 = .ok (.aload_n 0, 1) := fp_hdL_law_1095.1.1.2.2.1.2
theorem dL_law_1111 : decode cL_law 1111 = .ok (.iload_n 3, 1) := fp_hdL_law_1095.1.1.2.2.2.1
theorem dL_law_1112 : decode cL_law 1112 = .ok (.iconst 3, 1) := fp_hdL_law_1095.1.1.2.2.2.2
theorem dL_law_1113 : decode cL_law 1113 = .ok (.iadd, 1) := fp_hdL_law_1095.1.2.1.1.1.1
theorem dL_law_1114 : decode cL_law 1114 = .ok (.iaload, 1) := fp_hdL_law_1095.1.2.1.1.1.2
theorem dL_law_1115 : decode cL_law 1115 = .ok (.aload_n 0, 1) := fp_hdL_law_1095.1.2.1.1.2.1
theorem dL_law_1116 : decode cL_law 1116 = .ok (.iload_n 3, 1) := fp_hdL_law_1095.1.2.1.1.2.2
theorem dL_law_1117 : decode cL_law 1117 = .ok (.iconst 4, 1) := fp_hdL_law_1095.1.2.1.2.1.1
theorem dL_law_1118 : decode cL_law 1118 = .ok (.iadd, 1) := fp_hdL_law_1095.1.2.1.2.1.2
theorem dL_law_1119 : decode cL_law 1119 = .ok (.iaload, 1) := fp_hdL_law_1095.1.2.1.2.2.1
theorem dL_law_1120 : decode cL_law 1120 = .ok (.aload_n 0, 1) := fp_hdL_law_1095.1.2.1.2.2.2
theorem dL_law_1121 : decode cL_law 1121 = .ok (.iload_n 3, 1) := fp_hdL_law_1095.1.2.2.1.1.1
theorem dL_law_1122 : decode cL_law 1122 = .ok (.iconst 5, 1) := fp_hdL_law_1095.1.2.2.1.1.2
theorem dL_law_1123 : decode cL_law 1123 = .ok (.iadd, 1) := fp_hdL_law_1095.1.2.2.1.2.1
theorem dL_law_1124 : decode cL_law 1124 = .ok (.iaload, 1) := fp_hdL_law_1095.1.2.2.1.2.2
theorem dL_law_1125 : decode cL_law 1125 = .ok (.aload_n 0, 1) := fp_hdL_law_1095.1.2.2.2.1.1
theorem dL_law_1126 : decode cL_law 1126 = .ok (.iload_n 3, 1) := fp_hdL_law_1095.1.2.2.2.1.2
theorem dL_law_1127 : decode cL_law 1127 = .ok (.bipush 6, 2) := fp_hdL_law_1095.1.2.2.2.2.1
theorem dL_law_1129 : decode cL_law 1129 = .ok (.iadd, 1) := fp_hdL_law_1095.1.2.2.2.2.2
theorem fp_hdL_law_1130 : (((((decode cL_law 1130 = .ok (.iaload, 1) ∧ decode cL_law 1131 = .ok (.invokevirtual 134, 3)) ∧ (decode cL_law 1134 = .ok (.pop, 1) ∧ decode cL_law 1135 = .ok (.goto 362, 3))) ∧ ((decode cL_law 1138 = .ok (.aload_n 1, 1) ∧ decode cL_law 1139 = .ok (.aload_n 0, 1)) ∧ (decode cL_law 1140 = .ok (.iload_n 3, 1) ∧ decode cL_law 1141 = .ok (.iconst 1, 1)))) ∧ (((decode cL_law 1142 = .ok (.iadd, 1) ∧ decode cL_law 1143 = .ok (.iaload, 1)) ∧ (decode cL_law 1144 = .ok (.invokevirtual 135, 3) ∧ decode cL_law 1147 = .ok (.pop, 1))) ∧ ((decode cL_law 1148 = .ok (.aload_n 2, 1) ∧ decode cL_law 1149 = .ok (.aload_n 0, 1)) ∧ (decode cL_law 1150 = .ok (.iload_n 3, 1) ∧ decode cL_law 1151 = .ok (.iconst 1, 1))))) ∧ ((((decode cL_law 1152 = .ok (.iadd, 1) ∧ decode cL_law 1153 = .ok (.iaload, 1)) ∧ (decode cL_law 1154 = .ok (.invokevirtual 138, 3) ∧ decode cL_law 1157 = .ok (.pop, 1))) ∧ ((decode cL_law 1158 = .ok (.goto 339, 3) ∧ decode cL_law 1161 = .ok (.aload_n 1, 1)) ∧ (decode cL_law 1162 = .ok (.invokevirtual 139, 3) ∧ decode cL_law 1165 = .ok (.pop, 1)))) ∧ (((decode cL_law 1166 = .ok (.aload_n 2, 1) ∧ decode cL_law 1167 = .ok (.invokevirtual 142, 3)) ∧ (decode cL_law 1170 = .ok (.pop, 1) ∧ decode cL_law 1171 = .ok (.goto 326, 3))) ∧ ((decode cL_law 1174 = .ok (.aload_n 1, 1) ∧ decode cL_law 1175 = .ok (.aload_n 0, 1)) ∧ (decode cL_law 1176 = .ok (.iload_n 3, 1) ∧ decode cL_law 1177 = .ok (.iconst 1, 1)))))) ∧ bA cL_law 1178 fp_scL_law_25 :=
  have q0 := fp_o46 fp_hdL_law_1095.2
  have q1 := fp_o182 (v := 134) q0.2 rfl
  have q2 := fp_o87 q1.2
  have q3 := fp_o167 (v := 362) q2.2 rfl
  have q4 := fp_o43 q3.2
  have q5 := fp_o42 q4.2
  have q6 := fp_o29 q5.2
  have q7 := fp_o4 q6.2
  have q8 := fp_o96 q7.2
  have q9 := fp_o46 q8.2
  have q10 := fp_o182 (v := 135) q9.2 rfl
  have q11 := fp_o87 q10.2
  have q12 := fp_o44 q11.2
  have q13 := fp_o42 q12.2
  have q14 := fp_o29 q13.2
  have q15 := fp_o4 q14.2
  have q16 := fp_o96 q15.2
  have q17 := fp_o46 q16.2
  have q18 := fp_o182 (v := 138) q17.2 rfl
  have q19 := fp_o87 q18.2
  have q20 := fp_o167 (v := 339) q19.2 rfl
  have q21 := fp_o43 q20.2
  have q22 := fp_o182 (v := 139) q21.2 rfl
  have q23 := fp_o87 q22.2
  have q24 := fp_o44 q23.2
  have q25 := fp_o182 (v := 142) q24.2 rfl
  have q26 := fp_o87 q25.2
  have q27 := fp_o167 (v := 326) q26.2 rfl
  have q28 := fp_o43 q27.2
  have q29 := fp_o42 q28.2
  have q30 := fp_o29 q29.2
  have q31 := fp_o4 q30.2
  ⟨⟨⟨⟨⟨⟨q0.1, q1.1⟩, ⟨q2.1, q3.1⟩⟩, ⟨⟨q4.1, q5.1⟩, ⟨q6.1, q7.1⟩⟩⟩, ⟨⟨⟨q8.1, q9.1⟩, ⟨q10.1, q11.1⟩⟩, ⟨⟨q12.1, q13.1⟩, ⟨q14.1, q15.1⟩⟩⟩⟩, ⟨⟨⟨⟨q16.1, q17.1⟩, ⟨q18.1, q19.1⟩⟩, ⟨⟨q20.1, q21.1⟩, ⟨q22.1, q23.1⟩⟩⟩, ⟨⟨⟨q24.1, q25.1⟩, ⟨q26.1, q27.1⟩⟩, ⟨⟨q28.1, q29.1⟩, ⟨q30.1, q31.1⟩⟩⟩⟩⟩, q31.2⟩
theorem dL_law_1130 : decode cL_law 1130 = .ok (.iaload, 1) := fp_hdL_law_1130.1.1.1.1.1.1
theorem dL_law_1131 : decode cL_law 1131 = .ok (.invokevirtual 134, 3) := fp_hdL_law_1130.1.1.1.1.1.2
theorem dL_law_1134 : decode cL_law 1134 = .ok (.pop, 1) := fp_hdL_law_1130.1.1.1.1.2.1
theorem dL_law_1135 : decode cL_law 1135 = .ok (.goto 362, 3) := fp_hdL_law_1130.1.1.1.1.2.2
theorem dL_law_1138 : decode cL_law 1138 = .ok (.aload_n 1, 1) := fp_hdL_law_1130.1.1.1.2.1.1
theorem dL_law_1139 : decode cL_law 1139 = .ok (.aload_n 0, 1) := fp_hdL_law_1130.1.1.1.2.1.2
theorem dL_law_1140 : decode cL_law 1140 = .ok (.iload_n 3, 1) := fp_hdL_law_1130.1.1.1.2.2.1
theorem dL_law_1141 : decode cL_law 1141 = .ok (.iconst 1, 1) := fp_hdL_law_1130.1.1.1.2.2.2
theorem dL_law_1142 : decode cL_law 1142 = .ok (.iadd, 1) := fp_hdL_law_1130.1.1.2.1.1.1
theorem dL_law_1143 : decode cL_law 1143 = .ok (.iaload, 1) := fp_hdL_law_1130.1.1.2.1.1.2
theorem dL_law_1144 : decode cL_law 1144 = .ok (.invokevirtual 135, 3) := fp_hdL_law_1130.1.1.2.1.2.1
theorem dL_law_1147 : decode cL_law 1147 = .ok (.pop, 1) := fp_hdL_law_1130.1.1.2.1.2.2
theorem dL_law_1148 : decode cL_law 1148 = .ok (.aload_n 2, 1) := fp_hdL_law_1130.1.1.2.2.1.1
theorem dL_law_1149 : decode cL_law 1149 = .ok (.aload_n 0, 1) := fp_hdL_law_1130.1.1.2.2.1.2
theorem dL_law_1150 : decode cL_law 1150 = .ok (.iload_n 3, 1) := fp_hdL_law_1130.1.1.2.2.2.1
theorem dL_law_1151 : decode cL_law 1151 = .ok (.iconst 1, 1) := fp_hdL_law_1130.1.1.2.2.2.2
theorem dL_law_1152 : decode cL_law 1152 = .ok (.iadd, 1) := fp_hdL_law_1130.1.2.1.1.1.1
theorem dL_law_1153 : decode cL_law 1153 = .ok (.iaload, 1) := fp_hdL_law_1130.1.2.1.1.1.2
theorem dL_law_1154 : decode cL_law 1154 = .ok (.invokevirtual 138, 3) := fp_hdL_law_1130.1.2.1.1.2.1
theorem dL_law_1157 : decode cL_law 1157 = .ok (.pop, 1) := fp_hdL_law_1130.1.2.1.1.2.2
theorem dL_law_1158 : decode cL_law 1158 = .ok (.goto 339, 3) := fp_hdL_law_1130.1.2.1.2.1.1
theorem dL_law_1161 : decode cL_law 1161 = .ok (.aload_n 1, 1) := fp_hdL_law_1130.1.2.1.2.1.2
theorem dL_law_1162 : decode cL_law 1162 = .ok (.invokevirtual 139, 3) := fp_hdL_law_1130.1.2.1.2.2.1
theorem dL_law_1165 : decode cL_law 1165 = .ok (.pop, 1) := fp_hdL_law_1130.1.2.1.2.2.2
theorem dL_law_1166 : decode cL_law 1166 = .ok (.aload_n 2, 1) := fp_hdL_law_1130.1.2.2.1.1.1
theorem dL_law_1167 : decode cL_law 1167 = .ok (.invokevirtual 142, 3) := fp_hdL_law_1130.1.2.2.1.1.2
theorem dL_law_1170 : decode cL_law 1170 = .ok (.pop, 1) := fp_hdL_law_1130.1.2.2.1.2.1
theorem dL_law_1171 : decode cL_law 1171 = .ok (.goto 326, 3) := fp_hdL_law_1130.1.2.2.1.2.2
theorem dL_law_1174 : decode cL_law 1174 = .ok (.aload_n 1, 1) := fp_hdL_law_1130.1.2.2.2.1.1
theorem dL_law_1175 : decode cL_law 1175 = .ok (.aload_n 0, 1) := fp_hdL_law_1130.1.2.2.2.1.2
theorem dL_law_1176 : decode cL_law 1176 = .ok (.iload_n 3, 1) := fp_hdL_law_1130.1.2.2.2.2.1
theorem dL_law_1177 : decode cL_law 1177 = .ok (.iconst 1, 1) := fp_hdL_law_1130.1.2.2.2.2.2
theorem fp_hdL_law_1178 : (((((decode cL_law 1178 = .ok (.iadd, 1) ∧ decode cL_law 1179 = .ok (.iaload, 1)) ∧ (decode cL_law 1180 = .ok (.aload_n 0, 1) ∧ decode cL_law 1181 = .ok (.iload_n 3, 1))) ∧ ((decode cL_law 1182 = .ok (.iconst 2, 1) ∧ decode cL_law 1183 = .ok (.iadd, 1)) ∧ (decode cL_law 1184 = .ok (.iaload, 1) ∧ decode cL_law 1185 = .ok (.invokevirtual 143, 3)))) ∧ (((decode cL_law 1188 = .ok (.pop, 1) ∧ decode cL_law 1189 = .ok (.aload_n 2, 1)) ∧ (decode cL_law 1190 = .ok (.aload_n 0, 1) ∧ decode cL_law 1191 = .ok (.iload_n 3, 1))) ∧ ((decode cL_law 1192 = .ok (.iconst 1, 1) ∧ decode cL_law 1193 = .ok (.iadd, 1)) ∧ (decode cL_law 1194 = .ok (.iaload, 1) ∧ decode cL_law 1195 = .ok (.aload_n 0, 1))))) ∧ ((((decode cL_law 1196 = .ok (.iload_n 3, 1) ∧ decode cL_law 1197 = .ok (.iconst 2, 1)) ∧ (decode cL_law 1198 = .ok (.iadd, 1) ∧ decode cL_law 1199 = .ok (.iaload, 1))) ∧ ((decode cL_law 1200 = .ok (.invokevirtual 146, 3) ∧ decode cL_law 1203 = .ok (.pop, 1)) ∧ (decode cL_law 1204 = .ok (.goto 293, 3) ∧ decode cL_law 1207 = .ok (.aload_n 1, 1)))) ∧ (((decode cL_law 1208 = .ok (.aload_n 0, 1) ∧ decode cL_law 1209 = .ok (.iload_n 3, 1)) ∧ (decode cL_law 1210 = .ok (.iconst 1, 1) ∧ decode cL_law 1211 = .ok (.iadd, 1))) ∧ ((decode cL_law 1212 = .ok (.iaload, 1) ∧ decode cL_law 1213 = .ok (.invokevirtual 147, 3)) ∧ (decode cL_law 1216 = .ok (.pop, 1) ∧ decode cL_law 1217 = .ok (.aload_n 2, 1)))))) ∧ bA cL_law 1218 fp_scL_law_26 :=
  have q0 := fp_o96 fp_hdL_law_1130.2
  have q1 := fp_o46 q0.2
  have q2 := fp_o42 q1.2
  have q3 := fp_o29 q2.2
  have q4 := fp_o5 q3.2
  have q5 := fp_o96 q4.2
  have q6 := fp_o46 q5.2
  have q7 := fp_o182 (v := 143) q6.2 rfl
  have q8 := fp_o87 q7.2
  have q9 := fp_o44 q8.2
  have q10 := fp_o42 q9.2
  have q11 := fp_o29 q10.2
  have q12 := fp_o4 q11.2
  have q13 := fp_o96 q12.2
  have q14 := fp_o46 q13.2
  have q15 := fp_o42 q14.2
  have q16 := fp_o29 q15.2
  have q17 := fp_o5 q16.2
  have q18 := fp_o96 q17.2
  have q19 := fp_o46 q18.2
  have q20 := fp_o182 (v := 146) q19.2 rfl
  have q21 := fp_o87 q20.2
  have q22 := fp_o167 (v := 293) q21.2 rfl
  have q23 := fp_o43 q22.2
  have q24 := fp_o42 q23.2
  have q25 := fp_o29 q24.2
  have q26 := fp_o4 q25.2
  have q27 := fp_o96 q26.2
  have q28 := fp_o46 q27.2
  have q29 := fp_o182 (v := 147) q28.2 rfl
  have q30 := fp_o87 q29.2
  have q31 := fp_o44 q30.2
  ⟨⟨⟨⟨⟨⟨q0.1, q1.1⟩, ⟨q2.1, q3.1⟩⟩, ⟨⟨q4.1, q5.1⟩, ⟨q6.1, q7.1⟩⟩⟩, ⟨⟨⟨q8.1, q9.1⟩, ⟨q10.1, q11.1⟩⟩, ⟨⟨q12.1, q13.1⟩, ⟨q14.1, q15.1⟩⟩⟩⟩, ⟨⟨⟨⟨q16.1, q17.1⟩, ⟨q18.1, q19.1⟩⟩, ⟨⟨q20.1, q21.1⟩, ⟨q22.1, q23.1⟩⟩⟩, ⟨⟨⟨q24.1, q25.1⟩, ⟨q26.1, q27.1⟩⟩, ⟨⟨q28.1, q29.1⟩, ⟨q30.1, q31.1⟩⟩⟩⟩⟩, q31.2⟩
theorem dL_law_1178 : decode cL_law 1178 = .ok (.iadd, 1) := fp_hdL_law_1178.1.1.1.1.1.1
theorem dL_law_1179 : decode cL_law 1179 = .ok (.iaload, 1) := fp_hdL_law_1178.1.1.1.1.1.2
theorem dL_law_1180 : decode cL_law 1180 = .ok (.aload_n 0, 1) := fp_hdL_law_1178.1.1.1.1.2.1
theorem dL_law_1181 : decode cL_law 1181 = .ok (.iload_n 3, 1) := fp_hdL_law_1178.1.1.1.1.2.2
theorem dL_law_1182 : decode cL_law 1182 = .ok (.iconst 2, 1) := fp_hdL_law_1178.1.1.1.2.1.1
theorem dL_law_1183 : decode cL_law 1183 = .ok (.iadd, 1) := fp_hdL_law_1178.1.1.1.2.1.2
theorem dL_law_1184 : decode cL_law 1184 = .ok (.iaload, 1) := fp_hdL_law_1178.1.1.1.2.2.1
theorem dL_law_1185 : decode cL_law 1185 = .ok (.invokevirtual 143, 3) := fp_hdL_law_1178.1.1.1.2.2.2
theorem dL_law_1188 : decode cL_law 1188 = .ok (.pop, 1) := fp_hdL_law_1178.1.1.2.1.1.1
theorem dL_law_1189 : decode cL_law 1189 = .ok (.aload_n 2, 1) := fp_hdL_law_1178.1.1.2.1.1.2
theorem dL_law_1190 : decode cL_law 1190 = .ok (.aload_n 0, 1) := fp_hdL_law_1178.1.1.2.1.2.1
theorem dL_law_1191 : decode cL_law 1191 = .ok (.iload_n 3, 1) := fp_hdL_law_1178.1.1.2.1.2.2
theorem dL_law_1192 : decode cL_law 1192 = .ok (.iconst 1, 1) := fp_hdL_law_1178.1.1.2.2.1.1
theorem dL_law_1193 : decode cL_law 1193 = .ok (.iadd, 1) := fp_hdL_law_1178.1.1.2.2.1.2
theorem dL_law_1194 : decode cL_law 1194 = .ok (.iaload, 1) := fp_hdL_law_1178.1.1.2.2.2.1
theorem dL_law_1195 : decode cL_law 1195 = .ok (.aload_n 0, 1) := fp_hdL_law_1178.1.1.2.2.2.2
theorem dL_law_1196 : decode cL_law 1196 = .ok (.iload_n 3, 1) := fp_hdL_law_1178.1.2.1.1.1.1
theorem dL_law_1197 : decode cL_law 1197 = .ok (.iconst 2, 1) := fp_hdL_law_1178.1.2.1.1.1.2
theorem dL_law_1198 : decode cL_law 1198 = .ok (.iadd, 1) := fp_hdL_law_1178.1.2.1.1.2.1
theorem dL_law_1199 : decode cL_law 1199 = .ok (.iaload, 1) := fp_hdL_law_1178.1.2.1.1.2.2
theorem dL_law_1200 : decode cL_law 1200 = .ok (.invokevirtual 146, 3) := fp_hdL_law_1178.1.2.1.2.1.1
theorem dL_law_1203 : decode cL_law 1203 = .ok (.pop, 1) := fp_hdL_law_1178.1.2.1.2.1.2
theorem dL_law_1204 : decode cL_law 1204 = .ok (.goto 293, 3) := fp_hdL_law_1178.1.2.1.2.2.1
theorem dL_law_1207 : decode cL_law 1207 = .ok (.aload_n 1, 1) := fp_hdL_law_1178.1.2.1.2.2.2
theorem dL_law_1208 : decode cL_law 1208 = .ok (.aload_n 0, 1) := fp_hdL_law_1178.1.2.2.1.1.1
theorem dL_law_1209 : decode cL_law 1209 = .ok (.iload_n 3, 1) := fp_hdL_law_1178.1.2.2.1.1.2
theorem dL_law_1210 : decode cL_law 1210 = .ok (.iconst 1, 1) := fp_hdL_law_1178.1.2.2.1.2.1
theorem dL_law_1211 : decode cL_law 1211 = .ok (.iadd, 1) := fp_hdL_law_1178.1.2.2.1.2.2
theorem dL_law_1212 : decode cL_law 1212 = .ok (.iaload, 1) := fp_hdL_law_1178.1.2.2.2.1.1
theorem dL_law_1213 : decode cL_law 1213 = .ok (.invokevirtual 147, 3) := fp_hdL_law_1178.1.2.2.2.1.2
theorem dL_law_1216 : decode cL_law 1216 = .ok (.pop, 1) := fp_hdL_law_1178.1.2.2.2.2.1
theorem dL_law_1217 : decode cL_law 1217 = .ok (.aload_n 2, 1) := fp_hdL_law_1178.1.2.2.2.2.2
theorem fp_hdL_law_1218 : (((((decode cL_law 1218 = .ok (.aload_n 0, 1) ∧ decode cL_law 1219 = .ok (.iload_n 3, 1)) ∧ (decode cL_law 1220 = .ok (.iconst 1, 1) ∧ decode cL_law 1221 = .ok (.iadd, 1))) ∧ ((decode cL_law 1222 = .ok (.iaload, 1) ∧ decode cL_law 1223 = .ok (.invokevirtual 150, 3)) ∧ (decode cL_law 1226 = .ok (.pop, 1) ∧ decode cL_law 1227 = .ok (.goto 270, 3)))) ∧ (((decode cL_law 1230 = .ok (.aload_n 1, 1) ∧ decode cL_law 1231 = .ok (.aload_n 0, 1)) ∧ (decode cL_law 1232 = .ok (.iload_n 3, 1) ∧ decode cL_law 1233 = .ok (.iconst 1, 1))) ∧ ((decode cL_law 1234 = .ok (.iadd, 1) ∧ decode cL_law 1235 = .ok (.iaload, 1)) ∧ (decode cL_law 1236 = .ok (.invokevirtual 151, 3) ∧ decode cL_law 1239 = .ok (.pop, 1))))) ∧ ((((decode cL_law 1240 = .ok (.aload_n 2, 1) ∧ decode cL_law 1241 = .ok (.aload_n 0, 1)) ∧ (decode cL_law 1242 = .ok (.iload_n 3, 1) ∧ decode cL_law 1243 = .ok (.iconst 1, 1))) ∧ ((decode cL_law 1244 = .ok (.iadd, 1) ∧ decode cL_law 1245 = .ok (.iaload, 1)) ∧ (decode cL_law 1246 = .ok (.invokevirtual 154, 3) ∧ decode cL_law 1249 = .ok (.pop, 1)))) ∧ (((decode cL_law 1250 = .ok (.goto 247, 3) ∧ decode cL_law 1253 = .ok (.aload_n 1, 1)) ∧ (decode cL_law 1254 = .ok (.aload_n 0, 1) ∧ decode cL_law 1255 = .ok (.iload_n 3, 1))) ∧ ((decode cL_law 1256 = .ok (.iconst 1, 1) ∧ decode cL_law 1257 = .ok (.iadd, 1)) ∧ (decode cL_law 1258 = .ok (.iaload, 1) ∧ decode cL_law 1259 = .ok (.invokevirtual 155, 3)))))) ∧ bA cL_law 1262 fp_scL_law_27 :=
  have q0 := fp_o42 fp_hdL_law_1178.2
  have q1 := fp_o29 q0.2
  have q2 := fp_o4 q1.2
  have q3 := fp_o96 q2.2
  have q4 := fp_o46 q3.2
  have q5 := fp_o182 (v := 150) q4.2 rfl
  have q6 := fp_o87 q5.2
  have q7 := fp_o167 (v := 270) q6.2 rfl
  have q8 := fp_o43 q7.2
  have q9 := fp_o42 q8.2
  have q10 := fp_o29 q9.2
  have q11 := fp_o4 q10.2
  have q12 := fp_o96 q11.2
  have q13 := fp_o46 q12.2
  have q14 := fp_o182 (v := 151) q13.2 rfl
  have q15 := fp_o87 q14.2
  have q16 := fp_o44 q15.2
  have q17 := fp_o42 q16.2
  have q18 := fp_o29 q17.2
  have q19 := fp_o4 q18.2
  have q20 := fp_o96 q19.2
  have q21 := fp_o46 q20.2
  have q22 := fp_o182 (v := 154) q21.2 rfl
  have q23 := fp_o87 q22.2
  have q24 := fp_o167 (v := 247) q23.2 rfl
  have q25 := fp_o43 q24.2
  have q26 := fp_o42 q25.2
  have q27 := fp_o29 q26.2
  have q28 := fp_o4 q27.2
  have q29 := fp_o96 q28.2
  have q30 := fp_o46 q29.2
  have q31 := fp_o182 (v := 155) q30.2 rfl
  ⟨⟨⟨⟨⟨⟨q0.1, q1.1⟩, ⟨q2.1, q3.1⟩⟩, ⟨⟨q4.1, q5.1⟩, ⟨q6.1, q7.1⟩⟩⟩, ⟨⟨⟨q8.1, q9.1⟩, ⟨q10.1, q11.1⟩⟩, ⟨⟨q12.1, q13.1⟩, ⟨q14.1, q15.1⟩⟩⟩⟩, ⟨⟨⟨⟨q16.1, q17.1⟩, ⟨q18.1, q19.1⟩⟩, ⟨⟨q20.1, q21.1⟩, ⟨q22.1, q23.1⟩⟩⟩, ⟨⟨⟨q24.1, q25.1⟩, ⟨q26.1, q27.1⟩⟩, ⟨⟨q28.1, q29.1⟩, ⟨q30.1, q31.1⟩⟩⟩⟩⟩, q31.2⟩
theorem dL_law_1218 : decode cL_law 1218 = .ok (.aload_n 0, 1) := fp_hdL_law_1218.1.1.1.1.1.1
theorem dL_law_1219 : decode cL_law 1219 = .ok (.iload_n 3, 1) := fp_hdL_law_1218.1.1.1.1.1.2
theorem dL_law_1220 : decode cL_law 1220 = .ok (.iconst 1, 1) := fp_hdL_law_1218.1.1.1.1.2.1
theorem dL_law_1221 : decode cL_law 1221 = .ok (.iadd, 1) := fp_hdL_law_1218.1.1.1.1.2.2
theorem dL_law_1222 : decode cL_law 1222 = .ok (.iaload, 1) := fp_hdL_law_1218.1.1.1.2.1.1
theorem dL_law_1223 : decode cL_law 1223 = .ok (.invokevirtual 150, 3) := fp_hdL_law_1218.1.1.1.2.1.2
theorem dL_law_1226 : decode cL_law 1226 = .ok (.pop, 1) := fp_hdL_law_1218.1.1.1.2.2.1
theorem dL_law_1227 : decode cL_law 1227 = .ok (.goto 270, 3) := fp_hdL_law_1218.1.1.1.2.2.2
theorem dL_law_1230 : decode cL_law 1230 = .ok (.aload_n 1, 1) := fp_hdL_law_1218.1.1.2.1.1.1
theorem dL_law_1231 : decode cL_law 1231 = .ok (.aload_n 0, 1) := fp_hdL_law_1218.1.1.2.1.1.2
theorem dL_law_1232 : decode cL_law 1232 = .ok (.iload_n 3, 1) := fp_hdL_law_1218.1.1.2.1.2.1
theorem dL_law_1233 : decode cL_law 1233 = .ok (.iconst 1, 1) := fp_hdL_law_1218.1.1.2.1.2.2
theorem dL_law_1234 : decode cL_law 1234 = .ok (.iadd, 1) := fp_hdL_law_1218.1.1.2.2.1.1
theorem dL_law_1235 : decode cL_law 1235 = .ok (.iaload, 1) := fp_hdL_law_1218.1.1.2.2.1.2
theorem dL_law_1236 : decode cL_law 1236 = .ok (.invokevirtual 151, 3) := fp_hdL_law_1218.1.1.2.2.2.1
theorem dL_law_1239 : decode cL_law 1239 = .ok (.pop, 1) := fp_hdL_law_1218.1.1.2.2.2.2
theorem dL_law_1240 : decode cL_law 1240 = .ok (.aload_n 2, 1) := fp_hdL_law_1218.1.2.1.1.1.1
theorem dL_law_1241 : decode cL_law 1241 = .ok (.aload_n 0, 1) := fp_hdL_law_1218.1.2.1.1.1.2
theorem dL_law_1242 : decode cL_law 1242 = .ok (.iload_n 3, 1) := fp_hdL_law_1218.1.2.1.1.2.1
theorem dL_law_1243 : decode cL_law 1243 = .ok (.iconst 1, 1) := fp_hdL_law_1218.1.2.1.1.2.2
theorem dL_law_1244 : decode cL_law 1244 = .ok (.iadd, 1) := fp_hdL_law_1218.1.2.1.2.1.1
theorem dL_law_1245 : decode cL_law 1245 = .ok (.iaload, 1) := fp_hdL_law_1218.1.2.1.2.1.2
theorem dL_law_1246 : decode cL_law 1246 = .ok (.invokevirtual 154, 3) := fp_hdL_law_1218.1.2.1.2.2.1
theorem dL_law_1249 : decode cL_law 1249 = .ok (.pop, 1) := fp_hdL_law_1218.1.2.1.2.2.2
theorem dL_law_1250 : decode cL_law 1250 = .ok (.goto 247, 3) := fp_hdL_law_1218.1.2.2.1.1.1
theorem dL_law_1253 : decode cL_law 1253 = .ok (.aload_n 1, 1) := fp_hdL_law_1218.1.2.2.1.1.2
theorem dL_law_1254 : decode cL_law 1254 = .ok (.aload_n 0, 1) := fp_hdL_law_1218.1.2.2.1.2.1
theorem dL_law_1255 : decode cL_law 1255 = .ok (.iload_n 3, 1) := fp_hdL_law_1218.1.2.2.1.2.2
theorem dL_law_1256 : decode cL_law 1256 = .ok (.iconst 1, 1) := fp_hdL_law_1218.1.2.2.2.1.1
theorem dL_law_1257 : decode cL_law 1257 = .ok (.iadd, 1) := fp_hdL_law_1218.1.2.2.2.1.2
theorem dL_law_1258 : decode cL_law 1258 = .ok (.iaload, 1) := fp_hdL_law_1218.1.2.2.2.2.1
theorem dL_law_1259 : decode cL_law 1259 = .ok (.invokevirtual 155, 3) := fp_hdL_law_1218.1.2.2.2.2.2
theorem fp_hdL_law_1262 : (((((decode cL_law 1262 = .ok (.pop, 1) ∧ decode cL_law 1263 = .ok (.aload_n 2, 1)) ∧ (decode cL_law 1264 = .ok (.aload_n 0, 1) ∧ decode cL_law 1265 = .ok (.iload_n 3, 1))) ∧ ((decode cL_law 1266 = .ok (.iconst 1, 1) ∧ decode cL_law 1267 = .ok (.iadd, 1)) ∧ (decode cL_law 1268 = .ok (.iaload, 1) ∧ decode cL_law 1269 = .ok (.invokevirtual 158, 3)))) ∧ (((decode cL_law 1272 = .ok (.pop, 1) ∧ decode cL_law 1273 = .ok (.goto 224, 3)) ∧ (decode cL_law 1276 = .ok (.aload_n 1, 1) ∧ decode cL_law 1277 = .ok (.aload_n 0, 1))) ∧ ((decode cL_law 1278 = .ok (.iload_n 3, 1) ∧ decode cL_law 1279 = .ok (.iconst 1, 1)) ∧ (decode cL_law 1280 = .ok (.iadd, 1) ∧ decode cL_law 1281 = .ok (.iaload, 1))))) ∧ ((((decode cL_law 1282 = .ok (.invokevirtual 159, 3) ∧ decode cL_law 1285 = .ok (.pop, 1)) ∧ (decode cL_law 1286 = .ok (.aload_n 2, 1) ∧ decode cL_law 1287 = .ok (.aload_n 0, 1))) ∧ ((decode cL_law 1288 = .ok (.iload_n 3, 1) ∧ decode cL_law 1289 = .ok (.iconst 1, 1)) ∧ (decode cL_law 1290 = .ok (.iadd, 1) ∧ decode cL_law 1291 = .ok (.iaload, 1)))) ∧ (((decode cL_law 1292 = .ok (.invokevirtual 162, 3) ∧ decode cL_law 1295 = .ok (.pop, 1)) ∧ (decode cL_law 1296 = .ok (.goto 201, 3) ∧ decode cL_law 1299 = .ok (.aload_n 1, 1))) ∧ ((decode cL_law 1300 = .ok (.aload_n 0, 1) ∧ decode cL_law 1301 = .ok (.iload_n 3, 1)) ∧ (decode cL_law 1302 = .ok (.iconst 1, 1) ∧ decode cL_law 1303 = .ok (.iadd, 1)))))) ∧ bA cL_law 1304 fp_scL_law_28 :=
  have q0 := fp_o87 fp_hdL_law_1218.2
  have q1 := fp_o44 q0.2
  have q2 := fp_o42 q1.2
  have q3 := fp_o29 q2.2
  have q4 := fp_o4 q3.2
  have q5 := fp_o96 q4.2
  have q6 := fp_o46 q5.2
  have q7 := fp_o182 (v := 158) q6.2 rfl
  have q8 := fp_o87 q7.2
  have q9 := fp_o167 (v := 224) q8.2 rfl
  have q10 := fp_o43 q9.2
  have q11 := fp_o42 q10.2
  have q12 := fp_o29 q11.2
  have q13 := fp_o4 q12.2
  have q14 := fp_o96 q13.2
  have q15 := fp_o46 q14.2
  have q16 := fp_o182 (v := 159) q15.2 rfl
  have q17 := fp_o87 q16.2
  have q18 := fp_o44 q17.2
  have q19 := fp_o42 q18.2
  have q20 := fp_o29 q19.2
  have q21 := fp_o4 q20.2
  have q22 := fp_o96 q21.2
  have q23 := fp_o46 q22.2
  have q24 := fp_o182 (v := 162) q23.2 rfl
  have q25 := fp_o87 q24.2
  have q26 := fp_o167 (v := 201) q25.2 rfl
  have q27 := fp_o43 q26.2
  have q28 := fp_o42 q27.2
  have q29 := fp_o29 q28.2
  have q30 := fp_o4 q29.2
  have q31 := fp_o96 q30.2
  ⟨⟨⟨⟨⟨⟨q0.1, q1.1⟩, ⟨q2.1, q3.1⟩⟩, ⟨⟨q4.1, q5.1⟩, ⟨q6.1, q7.1⟩⟩⟩, ⟨⟨⟨q8.1, q9.1⟩, ⟨q10.1, q11.1⟩⟩, ⟨⟨q12.1, q13.1⟩, ⟨q14.1, q15.1⟩⟩⟩⟩, ⟨⟨⟨⟨q16.1, q17.1⟩, ⟨q18.1, q19.1⟩⟩, ⟨⟨q20.1, q21.1⟩, ⟨q22.1, q23.1⟩⟩⟩, ⟨⟨⟨q24.1, q25.1⟩, ⟨q26.1, q27.1⟩⟩, ⟨⟨q28.1, q29.1⟩, ⟨q30.1, q31.1⟩⟩⟩⟩⟩, q31.2⟩
theorem dL_law_1262 : decode cL_law 1262 = .ok (.pop, 1) := fp_hdL_law_1262.1.1.1.1.1.1
theorem dL_law_1263 : decode cL_law 1263 = .ok (.aload_n 2, 1) := fp_hdL_law_1262.1.1.1.1.1.2
theorem dL_law_1264 : decode cL_law 1264 = .ok (.aload_n 0, 1) := fp_hdL_law_1262.1.1.1.1.2.1
theorem dL_law_1265 : decode cL_law 1265 = .ok (.iload_n 3, 1) := fp_hdL_law_1262.1.1.1.1.2.2
theorem dL_law_1266 : decode cL_law 1266 = .ok (.iconst 1, 1) := fp_hdL_law_1262.1.1.1.2.1.1
theorem dL_law_1267 : decode cL_law 1267 = .ok (.iadd, 1) := fp_hdL_law_1262.1.1.1.2.1.2
theorem dL_law_1268 : decode cL_law 1268 = .ok (.iaload, 1) := fp_hdL_law_1262.1.1.1.2.2.1
theorem dL_law_1269 : decode cL_law 1269 = .ok (.invokevirtual 158, 3) := fp_hdL_law_1262.1.1.1.2.2.2
theorem dL_law_1272 : decode cL_law 1272 = .ok (.pop, 1) := fp_hdL_law_1262.1.1.2.1.1.1
theorem dL_law_1273 : decode cL_law 1273 = .ok (.goto 224, 3) := fp_hdL_law_1262.1.1.2.1.1.2
theorem dL_law_1276 : decode cL_law 1276 = .ok (.aload_n 1, 1) := fp_hdL_law_1262.1.1.2.1.2.1
theorem dL_law_1277 : decode cL_law 1277 = .ok (.aload_n 0, 1) := fp_hdL_law_1262.1.1.2.1.2.2
theorem dL_law_1278 : decode cL_law 1278 = .ok (.iload_n 3, 1) := fp_hdL_law_1262.1.1.2.2.1.1
theorem dL_law_1279 : decode cL_law 1279 = .ok (.iconst 1, 1) := fp_hdL_law_1262.1.1.2.2.1.2
theorem dL_law_1280 : decode cL_law 1280 = .ok (.iadd, 1) := fp_hdL_law_1262.1.1.2.2.2.1
theorem dL_law_1281 : decode cL_law 1281 = .ok (.iaload, 1) := fp_hdL_law_1262.1.1.2.2.2.2
theorem dL_law_1282 : decode cL_law 1282 = .ok (.invokevirtual 159, 3) := fp_hdL_law_1262.1.2.1.1.1.1
theorem dL_law_1285 : decode cL_law 1285 = .ok (.pop, 1) := fp_hdL_law_1262.1.2.1.1.1.2
theorem dL_law_1286 : decode cL_law 1286 = .ok (.aload_n 2, 1) := fp_hdL_law_1262.1.2.1.1.2.1
theorem dL_law_1287 : decode cL_law 1287 = .ok (.aload_n 0, 1) := fp_hdL_law_1262.1.2.1.1.2.2
theorem dL_law_1288 : decode cL_law 1288 = .ok (.iload_n 3, 1) := fp_hdL_law_1262.1.2.1.2.1.1
theorem dL_law_1289 : decode cL_law 1289 = .ok (.iconst 1, 1) := fp_hdL_law_1262.1.2.1.2.1.2
theorem dL_law_1290 : decode cL_law 1290 = .ok (.iadd, 1) := fp_hdL_law_1262.1.2.1.2.2.1
theorem dL_law_1291 : decode cL_law 1291 = .ok (.iaload, 1) := fp_hdL_law_1262.1.2.1.2.2.2
theorem dL_law_1292 : decode cL_law 1292 = .ok (.invokevirtual 162, 3) := fp_hdL_law_1262.1.2.2.1.1.1
theorem dL_law_1295 : decode cL_law 1295 = .ok (.pop, 1) := fp_hdL_law_1262.1.2.2.1.1.2
theorem dL_law_1296 : decode cL_law 1296 = .ok (.goto 201, 3) := fp_hdL_law_1262.1.2.2.1.2.1
theorem dL_law_1299 : decode cL_law 1299 = .ok (.aload_n 1, 1) := fp_hdL_law_1262.1.2.2.1.2.2
theorem dL_law_1300 : decode cL_law 1300 = .ok (.aload_n 0, 1) := fp_hdL_law_1262.1.2.2.2.1.1
theorem dL_law_1301 : decode cL_law 1301 = .ok (.iload_n 3, 1) := fp_hdL_law_1262.1.2.2.2.1.2
theorem dL_law_1302 : decode cL_law 1302 = .ok (.iconst 1, 1) := fp_hdL_law_1262.1.2.2.2.2.1
theorem dL_law_1303 : decode cL_law 1303 = .ok (.iadd, 1) := fp_hdL_law_1262.1.2.2.2.2.2
theorem fp_hdL_law_1304 : (((((decode cL_law 1304 = .ok (.iaload, 1) ∧ decode cL_law 1305 = .ok (.invokevirtual 163, 3)) ∧ (decode cL_law 1308 = .ok (.pop, 1) ∧ decode cL_law 1309 = .ok (.aload_n 2, 1))) ∧ ((decode cL_law 1310 = .ok (.aload_n 0, 1) ∧ decode cL_law 1311 = .ok (.iload_n 3, 1)) ∧ (decode cL_law 1312 = .ok (.iconst 1, 1) ∧ decode cL_law 1313 = .ok (.iadd, 1)))) ∧ (((decode cL_law 1314 = .ok (.iaload, 1) ∧ decode cL_law 1315 = .ok (.invokevirtual 166, 3)) ∧ (decode cL_law 1318 = .ok (.pop, 1) ∧ decode cL_law 1319 = .ok (.goto 178, 3))) ∧ ((decode cL_law 1322 = .ok (.aload_n 1, 1) ∧ decode cL_law 1323 = .ok (.aload_n 0, 1)) ∧ (decode cL_law 1324 = .ok (.iload_n 3, 1) ∧ decode cL_law 1325 = .ok (.iconst 1, 1))))) ∧ ((((decode cL_law 1326 = .ok (.iadd, 1) ∧ decode cL_law 1327 = .ok (.iaload, 1)) ∧ (decode cL_law 1328 = .ok (.aload_n 0, 1) ∧ decode cL_law 1329 = .ok (.iload_n 3, 1))) ∧ ((decode cL_law 1330 = .ok (.iconst 2, 1) ∧ decode cL_law 1331 = .ok (.iadd, 1)) ∧ (decode cL_law 1332 = .ok (.iaload, 1) ∧ decode cL_law 1333 = .ok (.aload_n 0, 1)))) ∧ (((decode cL_law 1334 = .ok (.iload_n 3, 1) ∧ decode cL_law 1335 = .ok (.iconst 3, 1)) ∧ (decode cL_law 1336 = .ok (.iadd, 1) ∧ decode cL_law 1337 = .ok (.iaload, 1))) ∧ ((decode cL_law 1338 = .ok (.invokevirtual 167, 3) ∧ decode cL_law 1341 = .ok (.pop, 1)) ∧ (decode cL_law 1342 = .ok (.aload_n 2, 1) ∧ decode cL_law 1343 = .ok (.aload_n 0, 1)))))) ∧ bA cL_law 1344 fp_scL_law_29 :=
  have q0 := fp_o46 fp_hdL_law_1262.2
  have q1 := fp_o182 (v := 163) q0.2 rfl
  have q2 := fp_o87 q1.2
  have q3 := fp_o44 q2.2
  have q4 := fp_o42 q3.2
  have q5 := fp_o29 q4.2
  have q6 := fp_o4 q5.2
  have q7 := fp_o96 q6.2
  have q8 := fp_o46 q7.2
  have q9 := fp_o182 (v := 166) q8.2 rfl
  have q10 := fp_o87 q9.2
  have q11 := fp_o167 (v := 178) q10.2 rfl
  have q12 := fp_o43 q11.2
  have q13 := fp_o42 q12.2
  have q14 := fp_o29 q13.2
  have q15 := fp_o4 q14.2
  have q16 := fp_o96 q15.2
  have q17 := fp_o46 q16.2
  have q18 := fp_o42 q17.2
  have q19 := fp_o29 q18.2
  have q20 := fp_o5 q19.2
  have q21 := fp_o96 q20.2
  have q22 := fp_o46 q21.2
  have q23 := fp_o42 q22.2
  have q24 := fp_o29 q23.2
  have q25 := fp_o6 q24.2
  have q26 := fp_o96 q25.2
  have q27 := fp_o46 q26.2
  have q28 := fp_o182 (v := 167) q27.2 rfl
  have q29 := fp_o87 q28.2
  have q30 := fp_o44 q29.2
  have q31 := fp_o42 q30.2
  ⟨⟨⟨⟨⟨⟨q0.1, q1.1⟩, ⟨q2.1, q3.1⟩⟩, ⟨⟨q4.1, q5.1⟩, ⟨q6.1, q7.1⟩⟩⟩, ⟨⟨⟨q8.1, q9.1⟩, ⟨q10.1, q11.1⟩⟩, ⟨⟨q12.1, q13.1⟩, ⟨q14.1, q15.1⟩⟩⟩⟩, ⟨⟨⟨⟨q16.1, q17.1⟩, ⟨q18.1, q19.1⟩⟩, ⟨⟨q20.1, q21.1⟩, ⟨q22.1, q23.1⟩⟩⟩, ⟨⟨⟨q24.1, q25.1⟩, ⟨q26.1, q27.1⟩⟩, ⟨⟨q28.1, q29.1⟩, ⟨q30.1, q31.1⟩⟩⟩⟩⟩, q31.2⟩
theorem dL_law_1304 : decode cL_law 1304 = .ok (.iaload, 1) := fp_hdL_law_1304.1.1.1.1.1.1
theorem dL_law_1305 : decode cL_law 1305 = .ok (.invokevirtual 163, 3) := fp_hdL_law_1304.1.1.1.1.1.2
theorem dL_law_1308 : decode cL_law 1308 = .ok (.pop, 1) := fp_hdL_law_1304.1.1.1.1.2.1
theorem dL_law_1309 : decode cL_law 1309 = .ok (.aload_n 2, 1) := fp_hdL_law_1304.1.1.1.1.2.2
theorem dL_law_1310 : decode cL_law 1310 = .ok (.aload_n 0, 1) := fp_hdL_law_1304.1.1.1.2.1.1
theorem dL_law_1311 : decode cL_law 1311 = .ok (.iload_n 3, 1) := fp_hdL_law_1304.1.1.1.2.1.2
theorem dL_law_1312 : decode cL_law 1312 = .ok (.iconst 1, 1) := fp_hdL_law_1304.1.1.1.2.2.1
theorem dL_law_1313 : decode cL_law 1313 = .ok (.iadd, 1) := fp_hdL_law_1304.1.1.1.2.2.2
theorem dL_law_1314 : decode cL_law 1314 = .ok (.iaload, 1) := fp_hdL_law_1304.1.1.2.1.1.1
theorem dL_law_1315 : decode cL_law 1315 = .ok (.invokevirtual 166, 3) := fp_hdL_law_1304.1.1.2.1.1.2
theorem dL_law_1318 : decode cL_law 1318 = .ok (.pop, 1) := fp_hdL_law_1304.1.1.2.1.2.1
theorem dL_law_1319 : decode cL_law 1319 = .ok (.goto 178, 3) := fp_hdL_law_1304.1.1.2.1.2.2
theorem dL_law_1322 : decode cL_law 1322 = .ok (.aload_n 1, 1) := fp_hdL_law_1304.1.1.2.2.1.1
theorem dL_law_1323 : decode cL_law 1323 = .ok (.aload_n 0, 1) := fp_hdL_law_1304.1.1.2.2.1.2
theorem dL_law_1324 : decode cL_law 1324 = .ok (.iload_n 3, 1) := fp_hdL_law_1304.1.1.2.2.2.1
theorem dL_law_1325 : decode cL_law 1325 = .ok (.iconst 1, 1) := fp_hdL_law_1304.1.1.2.2.2.2
theorem dL_law_1326 : decode cL_law 1326 = .ok (.iadd, 1) := fp_hdL_law_1304.1.2.1.1.1.1
theorem dL_law_1327 : decode cL_law 1327 = .ok (.iaload, 1) := fp_hdL_law_1304.1.2.1.1.1.2
theorem dL_law_1328 : decode cL_law 1328 = .ok (.aload_n 0, 1) := fp_hdL_law_1304.1.2.1.1.2.1
theorem dL_law_1329 : decode cL_law 1329 = .ok (.iload_n 3, 1) := fp_hdL_law_1304.1.2.1.1.2.2
theorem dL_law_1330 : decode cL_law 1330 = .ok (.iconst 2, 1) := fp_hdL_law_1304.1.2.1.2.1.1
theorem dL_law_1331 : decode cL_law 1331 = .ok (.iadd, 1) := fp_hdL_law_1304.1.2.1.2.1.2
theorem dL_law_1332 : decode cL_law 1332 = .ok (.iaload, 1) := fp_hdL_law_1304.1.2.1.2.2.1
theorem dL_law_1333 : decode cL_law 1333 = .ok (.aload_n 0, 1) := fp_hdL_law_1304.1.2.1.2.2.2
theorem dL_law_1334 : decode cL_law 1334 = .ok (.iload_n 3, 1) := fp_hdL_law_1304.1.2.2.1.1.1
theorem dL_law_1335 : decode cL_law 1335 = .ok (.iconst 3, 1) := fp_hdL_law_1304.1.2.2.1.1.2
theorem dL_law_1336 : decode cL_law 1336 = .ok (.iadd, 1) := fp_hdL_law_1304.1.2.2.1.2.1
theorem dL_law_1337 : decode cL_law 1337 = .ok (.iaload, 1) := fp_hdL_law_1304.1.2.2.1.2.2
theorem dL_law_1338 : decode cL_law 1338 = .ok (.invokevirtual 167, 3) := fp_hdL_law_1304.1.2.2.2.1.1
theorem dL_law_1341 : decode cL_law 1341 = .ok (.pop, 1) := fp_hdL_law_1304.1.2.2.2.1.2
theorem dL_law_1342 : decode cL_law 1342 = .ok (.aload_n 2, 1) := fp_hdL_law_1304.1.2.2.2.2.1
theorem dL_law_1343 : decode cL_law 1343 = .ok (.aload_n 0, 1) := fp_hdL_law_1304.1.2.2.2.2.2
theorem fp_hdL_law_1344 : (((((decode cL_law 1344 = .ok (.iload_n 3, 1) ∧ decode cL_law 1345 = .ok (.iconst 1, 1)) ∧ (decode cL_law 1346 = .ok (.iadd, 1) ∧ decode cL_law 1347 = .ok (.iaload, 1))) ∧ ((decode cL_law 1348 = .ok (.aload_n 0, 1) ∧ decode cL_law 1349 = .ok (.iload_n 3, 1)) ∧ (decode cL_law 1350 = .ok (.iconst 2, 1) ∧ decode cL_law 1351 = .ok (.iadd, 1)))) ∧ (((decode cL_law 1352 = .ok (.iaload, 1) ∧ decode cL_law 1353 = .ok (.aload_n 0, 1)) ∧ (decode cL_law 1354 = .ok (.iload_n 3, 1) ∧ decode cL_law 1355 = .ok (.iconst 3, 1))) ∧ ((decode cL_law 1356 = .ok (.iadd, 1) ∧ decode cL_law 1357 = .ok (.iaload, 1)) ∧ (decode cL_law 1358 = .ok (.invokevirtual 170, 3) ∧ decode cL_law 1361 = .ok (.pop, 1))))) ∧ ((((decode cL_law 1362 = .ok (.goto 135, 3) ∧ decode cL_law 1365 = .ok (.aload_n 1, 1)) ∧ (decode cL_law 1366 = .ok (.aload_n 0, 1) ∧ decode cL_law 1367 = .ok (.iload_n 3, 1))) ∧ ((decode cL_law 1368 = .ok (.iconst 1, 1) ∧ decode cL_law 1369 = .ok (.iadd, 1)) ∧ (decode cL_law 1370 = .ok (.iaload, 1) ∧ decode cL_law 1371 = .ok (.aload_n 0, 1)))) ∧ (((decode cL_law 1372 = .ok (.iload_n 3, 1) ∧ decode cL_law 1373 = .ok (.iconst 2, 1)) ∧ (decode cL_law 1374 = .ok (.iadd, 1) ∧ decode cL_law 1375 = .ok (.iaload, 1))) ∧ ((decode cL_law 1376 = .ok (.aload_n 0, 1) ∧ decode cL_law 1377 = .ok (.iload_n 3, 1)) ∧ (decode cL_law 1378 = .ok (.iconst 3, 1) ∧ decode cL_law 1379 = .ok (.iadd, 1)))))) ∧ bA cL_law 1380 fp_scL_law_30 :=
  have q0 := fp_o29 fp_hdL_law_1304.2
  have q1 := fp_o4 q0.2
  have q2 := fp_o96 q1.2
  have q3 := fp_o46 q2.2
  have q4 := fp_o42 q3.2
  have q5 := fp_o29 q4.2
  have q6 := fp_o5 q5.2
  have q7 := fp_o96 q6.2
  have q8 := fp_o46 q7.2
  have q9 := fp_o42 q8.2
  have q10 := fp_o29 q9.2
  have q11 := fp_o6 q10.2
  have q12 := fp_o96 q11.2
  have q13 := fp_o46 q12.2
  have q14 := fp_o182 (v := 170) q13.2 rfl
  have q15 := fp_o87 q14.2
  have q16 := fp_o167 (v := 135) q15.2 rfl
  have q17 := fp_o43 q16.2
  have q18 := fp_o42 q17.2
  have q19 := fp_o29 q18.2
  have q20 := fp_o4 q19.2
  have q21 := fp_o96 q20.2
  have q22 := fp_o46 q21.2
  have q23 := fp_o42 q22.2
  have q24 := fp_o29 q23.2
  have q25 := fp_o5 q24.2
  have q26 := fp_o96 q25.2
  have q27 := fp_o46 q26.2
  have q28 := fp_o42 q27.2
  have q29 := fp_o29 q28.2
  have q30 := fp_o6 q29.2
  have q31 := fp_o96 q30.2
  ⟨⟨⟨⟨⟨⟨q0.1, q1.1⟩, ⟨q2.1, q3.1⟩⟩, ⟨⟨q4.1, q5.1⟩, ⟨q6.1, q7.1⟩⟩⟩, ⟨⟨⟨q8.1, q9.1⟩, ⟨q10.1, q11.1⟩⟩, ⟨⟨q12.1, q13.1⟩, ⟨q14.1, q15.1⟩⟩⟩⟩, ⟨⟨⟨⟨q16.1, q17.1⟩, ⟨q18.1, q19.1⟩⟩, ⟨⟨q20.1, q21.1⟩, ⟨q22.1, q23.1⟩⟩⟩, ⟨⟨⟨q24.1, q25.1⟩, ⟨q26.1, q27.1⟩⟩, ⟨⟨q28.1, q29.1⟩, ⟨q30.1, q31.1⟩⟩⟩⟩⟩, q31.2⟩
theorem dL_law_1344 : decode cL_law 1344 = .ok (.iload_n 3, 1) := fp_hdL_law_1344.1.1.1.1.1.1
theorem dL_law_1345 : decode cL_law 1345 = .ok (.iconst 1, 1) := fp_hdL_law_1344.1.1.1.1.1.2
theorem dL_law_1346 : decode cL_law 1346 = .ok (.iadd, 1) := fp_hdL_law_1344.1.1.1.1.2.1
theorem dL_law_1347 : decode cL_law 1347 = .ok (.iaload, 1) := fp_hdL_law_1344.1.1.1.1.2.2
theorem dL_law_1348 : decode cL_law 1348 = .ok (.aload_n 0, 1) := fp_hdL_law_1344.1.1.1.2.1.1
theorem dL_law_1349 : decode cL_law 1349 = .ok (.iload_n 3, 1) := fp_hdL_law_1344.1.1.1.2.1.2
theorem dL_law_1350 : decode cL_law 1350 = .ok (.iconst 2, 1) := fp_hdL_law_1344.1.1.1.2.2.1
theorem dL_law_1351 : decode cL_law 1351 = .ok (.iadd, 1) := fp_hdL_law_1344.1.1.1.2.2.2
theorem dL_law_1352 : decode cL_law 1352 = .ok (.iaload, 1) := fp_hdL_law_1344.1.1.2.1.1.1
theorem dL_law_1353 : decode cL_law 1353 = .ok (.aload_n 0, 1) := fp_hdL_law_1344.1.1.2.1.1.2
theorem dL_law_1354 : decode cL_law 1354 = .ok (.iload_n 3, 1) := fp_hdL_law_1344.1.1.2.1.2.1
theorem dL_law_1355 : decode cL_law 1355 = .ok (.iconst 3, 1) := fp_hdL_law_1344.1.1.2.1.2.2
theorem dL_law_1356 : decode cL_law 1356 = .ok (.iadd, 1) := fp_hdL_law_1344.1.1.2.2.1.1
theorem dL_law_1357 : decode cL_law 1357 = .ok (.iaload, 1) := fp_hdL_law_1344.1.1.2.2.1.2
theorem dL_law_1358 : decode cL_law 1358 = .ok (.invokevirtual 170, 3) := fp_hdL_law_1344.1.1.2.2.2.1
theorem dL_law_1361 : decode cL_law 1361 = .ok (.pop, 1) := fp_hdL_law_1344.1.1.2.2.2.2
theorem dL_law_1362 : decode cL_law 1362 = .ok (.goto 135, 3) := fp_hdL_law_1344.1.2.1.1.1.1
theorem dL_law_1365 : decode cL_law 1365 = .ok (.aload_n 1, 1) := fp_hdL_law_1344.1.2.1.1.1.2
theorem dL_law_1366 : decode cL_law 1366 = .ok (.aload_n 0, 1) := fp_hdL_law_1344.1.2.1.1.2.1
theorem dL_law_1367 : decode cL_law 1367 = .ok (.iload_n 3, 1) := fp_hdL_law_1344.1.2.1.1.2.2
theorem dL_law_1368 : decode cL_law 1368 = .ok (.iconst 1, 1) := fp_hdL_law_1344.1.2.1.2.1.1
theorem dL_law_1369 : decode cL_law 1369 = .ok (.iadd, 1) := fp_hdL_law_1344.1.2.1.2.1.2
theorem dL_law_1370 : decode cL_law 1370 = .ok (.iaload, 1) := fp_hdL_law_1344.1.2.1.2.2.1
theorem dL_law_1371 : decode cL_law 1371 = .ok (.aload_n 0, 1) := fp_hdL_law_1344.1.2.1.2.2.2
theorem dL_law_1372 : decode cL_law 1372 = .ok (.iload_n 3, 1) := fp_hdL_law_1344.1.2.2.1.1.1
theorem dL_law_1373 : decode cL_law 1373 = .ok (.iconst 2, 1) := fp_hdL_law_1344.1.2.2.1.1.2
theorem dL_law_1374 : decode cL_law 1374 = .ok (.iadd, 1) := fp_hdL_law_1344.1.2.2.1.2.1
theorem dL_law_1375 : decode cL_law 1375 = .ok (.iaload, 1) := fp_hdL_law_1344.1.2.2.1.2.2
theorem dL_law_1376 : decode cL_law 1376 = .ok (.aload_n 0, 1) := fp_hdL_law_1344.1.2.2.2.1.1
theorem dL_law_1377 : decode cL_law 1377 = .ok (.iload_n 3, 1) := fp_hdL_law_1344.1.2.2.2.1.2
theorem dL_law_1378 : decode cL_law 1378 = .ok (.iconst 3, 1) := fp_hdL_law_1344.1.2.2.2.2.1
theorem dL_law_1379 : decode cL_law 1379 = .ok (.iadd, 1) := fp_hdL_law_1344.1.2.2.2.2.2
theorem fp_hdL_law_1380 : (((((decode cL_law 1380 = .ok (.iaload, 1) ∧ decode cL_law 1381 = .ok (.invokevirtual 171, 3)) ∧ (decode cL_law 1384 = .ok (.pop, 1) ∧ decode cL_law 1385 = .ok (.aload_n 2, 1))) ∧ ((decode cL_law 1386 = .ok (.aload_n 0, 1) ∧ decode cL_law 1387 = .ok (.iload_n 3, 1)) ∧ (decode cL_law 1388 = .ok (.iconst 1, 1) ∧ decode cL_law 1389 = .ok (.iadd, 1)))) ∧ (((decode cL_law 1390 = .ok (.iaload, 1) ∧ decode cL_law 1391 = .ok (.aload_n 0, 1)) ∧ (decode cL_law 1392 = .ok (.iload_n 3, 1) ∧ decode cL_law 1393 = .ok (.iconst 2, 1))) ∧ ((decode cL_law 1394 = .ok (.iadd, 1) ∧ decode cL_law 1395 = .ok (.iaload, 1)) ∧ (decode cL_law 1396 = .ok (.aload_n 0, 1) ∧ decode cL_law 1397 = .ok (.iload_n 3, 1))))) ∧ ((((decode cL_law 1398 = .ok (.iconst 3, 1) ∧ decode cL_law 1399 = .ok (.iadd, 1)) ∧ (decode cL_law 1400 = .ok (.iaload, 1) ∧ decode cL_law 1401 = .ok (.invokevirtual 174, 3))) ∧ ((decode cL_law 1404 = .ok (.pop, 1) ∧ decode cL_law 1405 = .ok (.goto 92, 3)) ∧ (decode cL_law 1408 = .ok (.aload_n 1, 1) ∧ decode cL_law 1409 = .ok (.aload_n 0, 1)))) ∧ (((decode cL_law 1410 = .ok (.iload_n 3, 1) ∧ decode cL_law 1411 = .ok (.iconst 1, 1)) ∧ (decode cL_law 1412 = .ok (.iadd, 1) ∧ decode cL_law 1413 = .ok (.iaload, 1))) ∧ ((decode cL_law 1414 = .ok (.aload_n 0, 1) ∧ decode cL_law 1415 = .ok (.iload_n 3, 1)) ∧ (decode cL_law 1416 = .ok (.iconst 2, 1) ∧ decode cL_law 1417 = .ok (.iadd, 1)))))) ∧ bA cL_law 1418 fp_scL_law_31 :=
  have q0 := fp_o46 fp_hdL_law_1344.2
  have q1 := fp_o182 (v := 171) q0.2 rfl
  have q2 := fp_o87 q1.2
  have q3 := fp_o44 q2.2
  have q4 := fp_o42 q3.2
  have q5 := fp_o29 q4.2
  have q6 := fp_o4 q5.2
  have q7 := fp_o96 q6.2
  have q8 := fp_o46 q7.2
  have q9 := fp_o42 q8.2
  have q10 := fp_o29 q9.2
  have q11 := fp_o5 q10.2
  have q12 := fp_o96 q11.2
  have q13 := fp_o46 q12.2
  have q14 := fp_o42 q13.2
  have q15 := fp_o29 q14.2
  have q16 := fp_o6 q15.2
  have q17 := fp_o96 q16.2
  have q18 := fp_o46 q17.2
  have q19 := fp_o182 (v := 174) q18.2 rfl
  have q20 := fp_o87 q19.2
  have q21 := fp_o167 (v := 92) q20.2 rfl
  have q22 := fp_o43 q21.2
  have q23 := fp_o42 q22.2
  have q24 := fp_o29 q23.2
  have q25 := fp_o4 q24.2
  have q26 := fp_o96 q25.2
  have q27 := fp_o46 q26.2
  have q28 := fp_o42 q27.2
  have q29 := fp_o29 q28.2
  have q30 := fp_o5 q29.2
  have q31 := fp_o96 q30.2
  ⟨⟨⟨⟨⟨⟨q0.1, q1.1⟩, ⟨q2.1, q3.1⟩⟩, ⟨⟨q4.1, q5.1⟩, ⟨q6.1, q7.1⟩⟩⟩, ⟨⟨⟨q8.1, q9.1⟩, ⟨q10.1, q11.1⟩⟩, ⟨⟨q12.1, q13.1⟩, ⟨q14.1, q15.1⟩⟩⟩⟩, ⟨⟨⟨⟨q16.1, q17.1⟩, ⟨q18.1, q19.1⟩⟩, ⟨⟨q20.1, q21.1⟩, ⟨q22.1, q23.1⟩⟩⟩, ⟨⟨⟨q24.1, q25.1⟩, ⟨q26.1, q27.1⟩⟩, ⟨⟨q28.1, q29.1⟩, ⟨q30.1, q31.1⟩⟩⟩⟩⟩, q31.2⟩
theorem dL_law_1380 : decode cL_law 1380 = .ok (.iaload, 1) := fp_hdL_law_1380.1.1.1.1.1.1
theorem dL_law_1381 : decode cL_law 1381 = .ok (.invokevirtual 171, 3) := fp_hdL_law_1380.1.1.1.1.1.2
theorem dL_law_1384 : decode cL_law 1384 = .ok (.pop, 1) := fp_hdL_law_1380.1.1.1.1.2.1
theorem dL_law_1385 : decode cL_law 1385 = .ok (.aload_n 2, 1) := fp_hdL_law_1380.1.1.1.1.2.2
theorem dL_law_1386 : decode cL_law 1386 = .ok (.aload_n 0, 1) := fp_hdL_law_1380.1.1.1.2.1.1
theorem dL_law_1387 : decode cL_law 1387 = .ok (.iload_n 3, 1) := fp_hdL_law_1380.1.1.1.2.1.2
theorem dL_law_1388 : decode cL_law 1388 = .ok (.iconst 1, 1) := fp_hdL_law_1380.1.1.1.2.2.1
theorem dL_law_1389 : decode cL_law 1389 = .ok (.iadd, 1) := fp_hdL_law_1380.1.1.1.2.2.2
theorem dL_law_1390 : decode cL_law 1390 = .ok (.iaload, 1) := fp_hdL_law_1380.1.1.2.1.1.1
theorem dL_law_1391 : decode cL_law 1391 = .ok (.aload_n 0, 1) := fp_hdL_law_1380.1.1.2.1.1.2
theorem dL_law_1392 : decode cL_law 1392 = .ok (.iload_n 3, 1) := fp_hdL_law_1380.1.1.2.1.2.1
theorem dL_law_1393 : decode cL_law 1393 = .ok (.iconst 2, 1) := fp_hdL_law_1380.1.1.2.1.2.2
theorem dL_law_1394 : decode cL_law 1394 = .ok (.iadd, 1) := fp_hdL_law_1380.1.1.2.2.1.1
theorem dL_law_1395 : decode cL_law 1395 = .ok (.iaload, 1) := fp_hdL_law_1380.1.1.2.2.1.2
theorem dL_law_1396 : decode cL_law 1396 = .ok (.aload_n 0, 1) := fp_hdL_law_1380.1.1.2.2.2.1
theorem dL_law_1397 : decode cL_law 1397 = .ok (.iload_n 3, 1) := fp_hdL_law_1380.1.1.2.2.2.2
theorem dL_law_1398 : decode cL_law 1398 = .ok (.iconst 3, 1) := fp_hdL_law_1380.1.2.1.1.1.1
theorem dL_law_1399 : decode cL_law 1399 = .ok (.iadd, 1) := fp_hdL_law_1380.1.2.1.1.1.2
theorem dL_law_1400 : decode cL_law 1400 = .ok (.iaload, 1) := fp_hdL_law_1380.1.2.1.1.2.1
theorem dL_law_1401 : decode cL_law 1401 = .ok (.invokevirtual 174, 3) := fp_hdL_law_1380.1.2.1.1.2.2
theorem dL_law_1404 : decode cL_law 1404 = .ok (.pop, 1) := fp_hdL_law_1380.1.2.1.2.1.1
theorem dL_law_1405 : decode cL_law 1405 = .ok (.goto 92, 3) := fp_hdL_law_1380.1.2.1.2.1.2
theorem dL_law_1408 : decode cL_law 1408 = .ok (.aload_n 1, 1) := fp_hdL_law_1380.1.2.1.2.2.1
theorem dL_law_1409 : decode cL_law 1409 = .ok (.aload_n 0, 1) := fp_hdL_law_1380.1.2.1.2.2.2
theorem dL_law_1410 : decode cL_law 1410 = .ok (.iload_n 3, 1) := fp_hdL_law_1380.1.2.2.1.1.1
theorem dL_law_1411 : decode cL_law 1411 = .ok (.iconst 1, 1) := fp_hdL_law_1380.1.2.2.1.1.2
theorem dL_law_1412 : decode cL_law 1412 = .ok (.iadd, 1) := fp_hdL_law_1380.1.2.2.1.2.1
theorem dL_law_1413 : decode cL_law 1413 = .ok (.iaload, 1) := fp_hdL_law_1380.1.2.2.1.2.2
theorem dL_law_1414 : decode cL_law 1414 = .ok (.aload_n 0, 1) := fp_hdL_law_1380.1.2.2.2.1.1
theorem dL_law_1415 : decode cL_law 1415 = .ok (.iload_n 3, 1) := fp_hdL_law_1380.1.2.2.2.1.2
theorem dL_law_1416 : decode cL_law 1416 = .ok (.iconst 2, 1) := fp_hdL_law_1380.1.2.2.2.2.1
theorem dL_law_1417 : decode cL_law 1417 = .ok (.iadd, 1) := fp_hdL_law_1380.1.2.2.2.2.2
theorem fp_hdL_law_1418 : (((((decode cL_law 1418 = .ok (.iaload, 1) ∧ decode cL_law 1419 = .ok (.aload_n 0, 1)) ∧ (decode cL_law 1420 = .ok (.iload_n 3, 1) ∧ decode cL_law 1421 = .ok (.iconst 3, 1))) ∧ ((decode cL_law 1422 = .ok (.iadd, 1) ∧ decode cL_law 1423 = .ok (.iaload, 1)) ∧ (decode cL_law 1424 = .ok (.aload_n 0, 1) ∧ decode cL_law 1425 = .ok (.iload_n 3, 1)))) ∧ (((decode cL_law 1426 = .ok (.iconst 4, 1) ∧ decode cL_law 1427 = .ok (.iadd, 1)) ∧ (decode cL_law 1428 = .ok (.iaload, 1) ∧ decode cL_law 1429 = .ok (.invokevirtual 175, 3))) ∧ ((decode cL_law 1432 = .ok (.pop, 1) ∧ decode cL_law 1433 = .ok (.aload_n 2, 1)) ∧ (decode cL_law 1434 = .ok (.aload_n 0, 1) ∧ decode cL_law 1435 = .ok (.iload_n 3, 1))))) ∧ ((((decode cL_law 1436 = .ok (.iconst 1, 1) ∧ decode cL_law 1437 = .ok (.iadd, 1)) ∧ (decode cL_law 1438 = .ok (.iaload, 1) ∧ decode cL_law 1439 = .ok (.aload_n 0, 1))) ∧ ((decode cL_law 1440 = .ok (.iload_n 3, 1) ∧ decode cL_law 1441 = .ok (.iconst 2, 1)) ∧ (decode cL_law 1442 = .ok (.iadd, 1) ∧ decode cL_law 1443 = .ok (.iaload, 1)))) ∧ (((decode cL_law 1444 = .ok (.aload_n 0, 1) ∧ decode cL_law 1445 = .ok (.iload_n 3, 1)) ∧ (decode cL_law 1446 = .ok (.iconst 3, 1) ∧ decode cL_law 1447 = .ok (.iadd, 1))) ∧ ((decode cL_law 1448 = .ok (.iaload, 1) ∧ decode cL_law 1449 = .ok (.aload_n 0, 1)) ∧ (decode cL_law 1450 = .ok (.iload_n 3, 1) ∧ decode cL_law 1451 = .ok (.iconst 4, 1)))))) ∧ bA cL_law 1452 fp_scL_law_32 :=
  have q0 := fp_o46 fp_hdL_law_1380.2
  have q1 := fp_o42 q0.2
  have q2 := fp_o29 q1.2
  have q3 := fp_o6 q2.2
  have q4 := fp_o96 q3.2
  have q5 := fp_o46 q4.2
  have q6 := fp_o42 q5.2
  have q7 := fp_o29 q6.2
  have q8 := fp_o7 q7.2
  have q9 := fp_o96 q8.2
  have q10 := fp_o46 q9.2
  have q11 := fp_o182 (v := 175) q10.2 rfl
  have q12 := fp_o87 q11.2
  have q13 := fp_o44 q12.2
  have q14 := fp_o42 q13.2
  have q15 := fp_o29 q14.2
  have q16 := fp_o4 q15.2
  have q17 := fp_o96 q16.2
  have q18 := fp_o46 q17.2
  have q19 := fp_o42 q18.2
  have q20 := fp_o29 q19.2
  have q21 := fp_o5 q20.2
  have q22 := fp_o96 q21.2
  have q23 := fp_o46 q22.2
  have q24 := fp_o42 q23.2
  have q25 := fp_o29 q24.2
  have q26 := fp_o6 q25.2
  have q27 := fp_o96 q26.2
  have q28 := fp_o46 q27.2
  have q29 := fp_o42 q28.2
  have q30 := fp_o29 q29.2
  have q31 := fp_o7 q30.2
  ⟨⟨⟨⟨⟨⟨q0.1, q1.1⟩, ⟨q2.1, q3.1⟩⟩, ⟨⟨q4.1, q5.1⟩, ⟨q6.1, q7.1⟩⟩⟩, ⟨⟨⟨q8.1, q9.1⟩, ⟨q10.1, q11.1⟩⟩, ⟨⟨q12.1, q13.1⟩, ⟨q14.1, q15.1⟩⟩⟩⟩, ⟨⟨⟨⟨q16.1, q17.1⟩, ⟨q18.1, q19.1⟩⟩, ⟨⟨q20.1, q21.1⟩, ⟨q22.1, q23.1⟩⟩⟩, ⟨⟨⟨q24.1, q25.1⟩, ⟨q26.1, q27.1⟩⟩, ⟨⟨q28.1, q29.1⟩, ⟨q30.1, q31.1⟩⟩⟩⟩⟩, q31.2⟩
theorem dL_law_1418 : decode cL_law 1418 = .ok (.iaload, 1) := fp_hdL_law_1418.1.1.1.1.1.1
theorem dL_law_1419 : decode cL_law 1419 = .ok (.aload_n 0, 1) := fp_hdL_law_1418.1.1.1.1.1.2
theorem dL_law_1420 : decode cL_law 1420 = .ok (.iload_n 3, 1) := fp_hdL_law_1418.1.1.1.1.2.1
theorem dL_law_1421 : decode cL_law 1421 = .ok (.iconst 3, 1) := fp_hdL_law_1418.1.1.1.1.2.2
theorem dL_law_1422 : decode cL_law 1422 = .ok (.iadd, 1) := fp_hdL_law_1418.1.1.1.2.1.1
theorem dL_law_1423 : decode cL_law 1423 = .ok (.iaload, 1) := fp_hdL_law_1418.1.1.1.2.1.2
theorem dL_law_1424 : decode cL_law 1424 = .ok (.aload_n 0, 1) := fp_hdL_law_1418.1.1.1.2.2.1
theorem dL_law_1425 : decode cL_law 1425 = .ok (.iload_n 3, 1) := fp_hdL_law_1418.1.1.1.2.2.2
theorem dL_law_1426 : decode cL_law 1426 = .ok (.iconst 4, 1) := fp_hdL_law_1418.1.1.2.1.1.1
theorem dL_law_1427 : decode cL_law 1427 = .ok (.iadd, 1) := fp_hdL_law_1418.1.1.2.1.1.2
theorem dL_law_1428 : decode cL_law 1428 = .ok (.iaload, 1) := fp_hdL_law_1418.1.1.2.1.2.1
theorem dL_law_1429 : decode cL_law 1429 = .ok (.invokevirtual 175, 3) := fp_hdL_law_1418.1.1.2.1.2.2
theorem dL_law_1432 : decode cL_law 1432 = .ok (.pop, 1) := fp_hdL_law_1418.1.1.2.2.1.1
theorem dL_law_1433 : decode cL_law 1433 = .ok (.aload_n 2, 1) := fp_hdL_law_1418.1.1.2.2.1.2
theorem dL_law_1434 : decode cL_law 1434 = .ok (.aload_n 0, 1) := fp_hdL_law_1418.1.1.2.2.2.1
theorem dL_law_1435 : decode cL_law 1435 = .ok (.iload_n 3, 1) := fp_hdL_law_1418.1.1.2.2.2.2
theorem dL_law_1436 : decode cL_law 1436 = .ok (.iconst 1, 1) := fp_hdL_law_1418.1.2.1.1.1.1
theorem dL_law_1437 : decode cL_law 1437 = .ok (.iadd, 1) := fp_hdL_law_1418.1.2.1.1.1.2
theorem dL_law_1438 : decode cL_law 1438 = .ok (.iaload, 1) := fp_hdL_law_1418.1.2.1.1.2.1
theorem dL_law_1439 : decode cL_law 1439 = .ok (.aload_n 0, 1) := fp_hdL_law_1418.1.2.1.1.2.2
theorem dL_law_1440 : decode cL_law 1440 = .ok (.iload_n 3, 1) := fp_hdL_law_1418.1.2.1.2.1.1
theorem dL_law_1441 : decode cL_law 1441 = .ok (.iconst 2, 1) := fp_hdL_law_1418.1.2.1.2.1.2
theorem dL_law_1442 : decode cL_law 1442 = .ok (.iadd, 1) := fp_hdL_law_1418.1.2.1.2.2.1
theorem dL_law_1443 : decode cL_law 1443 = .ok (.iaload, 1) := fp_hdL_law_1418.1.2.1.2.2.2
theorem dL_law_1444 : decode cL_law 1444 = .ok (.aload_n 0, 1) := fp_hdL_law_1418.1.2.2.1.1.1
theorem dL_law_1445 : decode cL_law 1445 = .ok (.iload_n 3, 1) := fp_hdL_law_1418.1.2.2.1.1.2
theorem dL_law_1446 : decode cL_law 1446 = .ok (.iconst 3, 1) := fp_hdL_law_1418.1.2.2.1.2.1
theorem dL_law_1447 : decode cL_law 1447 = .ok (.iadd, 1) := fp_hdL_law_1418.1.2.2.1.2.2
theorem dL_law_1448 : decode cL_law 1448 = .ok (.iaload, 1) := fp_hdL_law_1418.1.2.2.2.1.1
theorem dL_law_1449 : decode cL_law 1449 = .ok (.aload_n 0, 1) := fp_hdL_law_1418.1.2.2.2.1.2
theorem dL_law_1450 : decode cL_law 1450 = .ok (.iload_n 3, 1) := fp_hdL_law_1418.1.2.2.2.2.1
theorem dL_law_1451 : decode cL_law 1451 = .ok (.iconst 4, 1) := fp_hdL_law_1418.1.2.2.2.2.2
theorem fp_hdL_law_1452 : (((((decode cL_law 1452 = .ok (.iadd, 1) ∧ decode cL_law 1453 = .ok (.iaload, 1)) ∧ (decode cL_law 1454 = .ok (.invokevirtual 178, 3) ∧ decode cL_law 1457 = .ok (.pop, 1))) ∧ ((decode cL_law 1458 = .ok (.goto 39, 3) ∧ decode cL_law 1461 = .ok (.aload_n 1, 1)) ∧ (decode cL_law 1462 = .ok (.invokevirtual 179, 3) ∧ decode cL_law 1465 = .ok (.pop, 1)))) ∧ (((decode cL_law 1466 = .ok (.aload_n 2, 1) ∧ decode cL_law 1467 = .ok (.invokevirtual 182, 3)) ∧ (decode cL_law 1470 = .ok (.pop, 1) ∧ decode cL_law 1471 = .ok (.goto 26, 3))) ∧ ((decode cL_law 1474 = .ok (.aload_n 1, 1) ∧ decode cL_law 1475 = .ok (.aload_n 0, 1)) ∧ (decode cL_law 1476 = .ok (.iload_n 3, 1) ∧ decode cL_law 1477 = .ok (.iconst 1, 1))))) ∧ ((((decode cL_law 1478 = .ok (.iadd, 1) ∧ decode cL_law 1479 = .ok (.iaload, 1)) ∧ (decode cL_law 1480 = .ok (.invokevirtual 183, 3) ∧ decode cL_law 1483 = .ok (.aload_n 2, 1))) ∧ ((decode cL_law 1484 = .ok (.aload_n 0, 1) ∧ decode cL_law 1485 = .ok (.iload_n 3, 1)) ∧ (decode cL_law 1486 = .ok (.iconst 1, 1) ∧ decode cL_law 1487 = .ok (.iadd, 1)))) ∧ (((decode cL_law 1488 = .ok (.iaload, 1) ∧ decode cL_law 1489 = .ok (.invokevirtual 186, 3)) ∧ (decode cL_law 1492 = .ok (.if_icmp .eq 5, 3) ∧ decode cL_law 1495 = .ok (.iconst 0, 1))) ∧ ((decode cL_law 1496 = .ok (.ireturn, 1) ∧ decode cL_law 1497 = .ok (.iinc 3 7, 3)) ∧ (decode cL_law 1500 = .ok (.goto (-1482), 3) ∧ decode cL_law 1503 = .ok (.iconst 1, 1)))))) ∧ bA cL_law 1504 fp_scL_law_33 :=
  have q0 := fp_o96 fp_hdL_law_1418.2
  have q1 := fp_o46 q0.2
  have q2 := fp_o182 (v := 178) q1.2 rfl
  have q3 := fp_o87 q2.2
  have q4 := fp_o167 (v := 39) q3.2 rfl
  have q5 := fp_o43 q4.2
  have q6 := fp_o182 (v := 179) q5.2 rfl
  have q7 := fp_o87 q6.2
  have q8 := fp_o44 q7.2
  have q9 := fp_o182 (v := 182) q8.2 rfl
  have q10 := fp_o87 q9.2
  have q11 := fp_o167 (v := 26) q10.2 rfl
  have q12 := fp_o43 q11.2
  have q13 := fp_o42 q12.2
  have q14 := fp_o29 q13.2
  have q15 := fp_o4 q14.2
  have q16 := fp_o96 q15.2
  have q17 := fp_o46 q16.2
  have q18 := fp_o182 (v := 183) q17.2 rfl
  have q19 := fp_o44 q18.2
  have q20 := fp_o42 q19.2
  have q21 := fp_o29 q20.2
  have q22 := fp_o4 q21.2
  have q23 := fp_o96 q22.2
  have q24 := fp_o46 q23.2
  have q25 := fp_o182 (v := 186) q24.2 rfl
  have q26 := fp_o159 (v := 5) q25.2 rfl
  have q27 := fp_o3 q26.2
  have q28 := fp_o172 q27.2
  have q29 := fp_o132 (v := 7) q28.2 rfl
  have q30 := fp_o167 (v := (-1482)) q29.2 rfl
  have q31 := fp_o4 q30.2
  ⟨⟨⟨⟨⟨⟨q0.1, q1.1⟩, ⟨q2.1, q3.1⟩⟩, ⟨⟨q4.1, q5.1⟩, ⟨q6.1, q7.1⟩⟩⟩, ⟨⟨⟨q8.1, q9.1⟩, ⟨q10.1, q11.1⟩⟩, ⟨⟨q12.1, q13.1⟩, ⟨q14.1, q15.1⟩⟩⟩⟩, ⟨⟨⟨⟨q16.1, q17.1⟩, ⟨q18.1, q19.1⟩⟩, ⟨⟨q20.1, q21.1⟩, ⟨q22.1, q23.1⟩⟩⟩, ⟨⟨⟨q24.1, q25.1⟩, ⟨q26.1, q27.1⟩⟩, ⟨⟨q28.1, q29.1⟩, ⟨q30.1, q31.1⟩⟩⟩⟩⟩, q31.2⟩
theorem dL_law_1452 : decode cL_law 1452 = .ok (.iadd, 1) := fp_hdL_law_1452.1.1.1.1.1.1
theorem dL_law_1453 : decode cL_law 1453 = .ok (.iaload, 1) := fp_hdL_law_1452.1.1.1.1.1.2
theorem dL_law_1454 : decode cL_law 1454 = .ok (.invokevirtual 178, 3) := fp_hdL_law_1452.1.1.1.1.2.1
theorem dL_law_1457 : decode cL_law 1457 = .ok (.pop, 1) := fp_hdL_law_1452.1.1.1.1.2.2
theorem dL_law_1458 : decode cL_law 1458 = .ok (.goto 39, 3) := fp_hdL_law_1452.1.1.1.2.1.1
theorem dL_law_1461 : decode cL_law 1461 = .ok (.aload_n 1, 1) := fp_hdL_law_1452.1.1.1.2.1.2
theorem dL_law_1462 : decode cL_law 1462 = .ok (.invokevirtual 179, 3) := fp_hdL_law_1452.1.1.1.2.2.1
theorem dL_law_1465 : decode cL_law 1465 = .ok (.pop, 1) := fp_hdL_law_1452.1.1.1.2.2.2
theorem dL_law_1466 : decode cL_law 1466 = .ok (.aload_n 2, 1) := fp_hdL_law_1452.1.1.2.1.1.1
theorem dL_law_1467 : decode cL_law 1467 = .ok (.invokevirtual 182, 3) := fp_hdL_law_1452.1.1.2.1.1.2
theorem dL_law_1470 : decode cL_law 1470 = .ok (.pop, 1) := fp_hdL_law_1452.1.1.2.1.2.1
theorem dL_law_1471 : decode cL_law 1471 = .ok (.goto 26, 3) := fp_hdL_law_1452.1.1.2.1.2.2
theorem dL_law_1474 : decode cL_law 1474 = .ok (.aload_n 1, 1) := fp_hdL_law_1452.1.1.2.2.1.1
theorem dL_law_1475 : decode cL_law 1475 = .ok (.aload_n 0, 1) := fp_hdL_law_1452.1.1.2.2.1.2
theorem dL_law_1476 : decode cL_law 1476 = .ok (.iload_n 3, 1) := fp_hdL_law_1452.1.1.2.2.2.1
theorem dL_law_1477 : decode cL_law 1477 = .ok (.iconst 1, 1) := fp_hdL_law_1452.1.1.2.2.2.2
theorem dL_law_1478 : decode cL_law 1478 = .ok (.iadd, 1) := fp_hdL_law_1452.1.2.1.1.1.1
theorem dL_law_1479 : decode cL_law 1479 = .ok (.iaload, 1) := fp_hdL_law_1452.1.2.1.1.1.2
theorem dL_law_1480 : decode cL_law 1480 = .ok (.invokevirtual 183, 3) := fp_hdL_law_1452.1.2.1.1.2.1
theorem dL_law_1483 : decode cL_law 1483 = .ok (.aload_n 2, 1) := fp_hdL_law_1452.1.2.1.1.2.2
theorem dL_law_1484 : decode cL_law 1484 = .ok (.aload_n 0, 1) := fp_hdL_law_1452.1.2.1.2.1.1
theorem dL_law_1485 : decode cL_law 1485 = .ok (.iload_n 3, 1) := fp_hdL_law_1452.1.2.1.2.1.2
theorem dL_law_1486 : decode cL_law 1486 = .ok (.iconst 1, 1) := fp_hdL_law_1452.1.2.1.2.2.1
theorem dL_law_1487 : decode cL_law 1487 = .ok (.iadd, 1) := fp_hdL_law_1452.1.2.1.2.2.2
theorem dL_law_1488 : decode cL_law 1488 = .ok (.iaload, 1) := fp_hdL_law_1452.1.2.2.1.1.1
theorem dL_law_1489 : decode cL_law 1489 = .ok (.invokevirtual 186, 3) := fp_hdL_law_1452.1.2.2.1.1.2
theorem dL_law_1492 : decode cL_law 1492 = .ok (.if_icmp .eq 5, 3) := fp_hdL_law_1452.1.2.2.1.2.1
theorem dL_law_1495 : decode cL_law 1495 = .ok (.iconst 0, 1) := fp_hdL_law_1452.1.2.2.1.2.2
theorem dL_law_1496 : decode cL_law 1496 = .ok (.ireturn, 1) := fp_hdL_law_1452.1.2.2.2.1.1
theorem dL_law_1497 : decode cL_law 1497 = .ok (.iinc 3 7, 3) := fp_hdL_law_1452.1.2.2.2.1.2
theorem dL_law_1500 : decode cL_law 1500 = .ok (.goto (-1482), 3) := fp_hdL_law_1452.1.2.2.2.2.1
theorem dL_law_1503 : decode cL_law 1503 = .ok (.iconst 1, 1) := fp_hdL_law_1452.1.2.2.2.2.2
theorem fp_hdL_law_1504 : decode cL_law 1504 = .ok (.ireturn, 1) ∧ bA cL_law 1505 [] :=
  have q0 := fp_o172 fp_hdL_law_1452.2
  ⟨q0.1, q0.2⟩
theorem dL_law_1504 : decode cL_law 1504 = .ok (.ireturn, 1) := fp_hdL_law_1504.1
