-- joined by tools/merge.py: 17.ids, 18.more, 20.leaf, 21.arr, 22.places, 23.places, 24.places, 25.page, 26.crep, 27.rel
section
/-! BY PROGRAM (tools/mkids.py): which cells are what -/
def fp_plL : List Nat := [7, 22, 41, 46, 51, 56, 61, 66, 71, 76, 81, 86, 91, 96, 101, 106, 111, 116, 144, 157]
def fp_ispl (k : Nat) : Prop := k ∈ fp_plL
theorem pl_lay {k : Nat} (h : fp_ispl k) : fp_lay k = (0, 5) := (by decide +kernel : ∀ k ∈ fp_plL, fp_lay k = (0, 5)) k h
theorem pl_lt {k : Nat} (h : fp_ispl k) : k < 203 := (by decide +kernel : ∀ k ∈ fp_plL, k < 203) k h
theorem pl_r0 {k : Nat} (h : fp_ispl k) : fp_ref k 0 = (k + 1) + 1 := (by decide +kernel : ∀ k ∈ fp_plL, fp_ref k 0 = (k + 1) + 1) k h
theorem pl_a0 {k : Nat} (h : fp_ispl k) : fp_lay (k + 1) = (1, 10) := (by decide +kernel : ∀ k ∈ fp_plL, fp_lay (k + 1) = (1, 10)) k h
theorem pl_r1 {k : Nat} (h : fp_ispl k) : fp_ref k 1 = (k + 2) + 1 := (by decide +kernel : ∀ k ∈ fp_plL, fp_ref k 1 = (k + 2) + 1) k h
theorem pl_a1 {k : Nat} (h : fp_ispl k) : fp_lay (k + 2) = (1, 10) := (by decide +kernel : ∀ k ∈ fp_plL, fp_lay (k + 2) = (1, 10)) k h
theorem pl_r2 {k : Nat} (h : fp_ispl k) : fp_ref k 2 = (k + 3) + 1 := (by decide +kernel : ∀ k ∈ fp_plL, fp_ref k 2 = (k + 3) + 1) k h
theorem pl_a2 {k : Nat} (h : fp_ispl k) : fp_lay (k + 3) = (1, 3) := (by decide +kernel : ∀ k ∈ fp_plL, fp_lay (k + 3) = (1, 3)) k h
theorem pl_r3 {k : Nat} (h : fp_ispl k) : fp_ref k 3 = (k + 4) + 1 := (by decide +kernel : ∀ k ∈ fp_plL, fp_ref k 3 = (k + 4) + 1) k h
theorem pl_a3 {k : Nat} (h : fp_ispl k) : fp_lay (k + 4) = (1, 24) := (by decide +kernel : ∀ k ∈ fp_plL, fp_lay (k + 4) = (1, 24)) k h
theorem pl7 : fp_ispl 7 := by unfold fp_ispl; decide
theorem pl22 : fp_ispl 22 := by unfold fp_ispl; decide
theorem pl41 : fp_ispl 41 := by unfold fp_ispl; decide
theorem pl46 : fp_ispl 46 := by unfold fp_ispl; decide
theorem pl51 : fp_ispl 51 := by unfold fp_ispl; decide
theorem pl56 : fp_ispl 56 := by unfold fp_ispl; decide
theorem pl61 : fp_ispl 61 := by unfold fp_ispl; decide
theorem pl66 : fp_ispl 66 := by unfold fp_ispl; decide
theorem pl71 : fp_ispl 71 := by unfold fp_ispl; decide
theorem pl76 : fp_ispl 76 := by unfold fp_ispl; decide
theorem pl81 : fp_ispl 81 := by unfold fp_ispl; decide
theorem pl86 : fp_ispl 86 := by unfold fp_ispl; decide
theorem pl91 : fp_ispl 91 := by unfold fp_ispl; decide
theorem pl96 : fp_ispl 96 := by unfold fp_ispl; decide
theorem pl101 : fp_ispl 101 := by unfold fp_ispl; decide
theorem pl106 : fp_ispl 106 := by unfold fp_ispl; decide
theorem pl111 : fp_ispl 111 := by unfold fp_ispl; decide
theorem pl116 : fp_ispl 116 := by unfold fp_ispl; decide
theorem pl144 : fp_ispl 144 := by unfold fp_ispl; decide
theorem pl157 : fp_ispl 157 := by unfold fp_ispl; decide
def fp_gdL : List Nat := [3, 18]
def fp_isgd (k : Nat) : Prop := k ∈ fp_gdL
theorem gd_lay {k : Nat} (h : fp_isgd k) : fp_lay k = (0, 1) := (by decide +kernel : ∀ k ∈ fp_gdL, fp_lay k = (0, 1)) k h
theorem gd_lt {k : Nat} (h : fp_isgd k) : k < 203 := (by decide +kernel : ∀ k ∈ fp_gdL, k < 203) k h
theorem gd_r3 {k : Nat} (h : fp_isgd k) : fp_ref k 3 = (k + 1) + 1 := (by decide +kernel : ∀ k ∈ fp_gdL, fp_ref k 3 = (k + 1) + 1) k h
theorem gd_a3 {k : Nat} (h : fp_isgd k) : fp_lay (k + 1) = (1, 11) := (by decide +kernel : ∀ k ∈ fp_gdL, fp_lay (k + 1) = (1, 11)) k h
theorem gd_r4 {k : Nat} (h : fp_isgd k) : fp_ref k 4 = (k + 2) + 1 := (by decide +kernel : ∀ k ∈ fp_gdL, fp_ref k 4 = (k + 2) + 1) k h
theorem gd_a4 {k : Nat} (h : fp_isgd k) : fp_lay (k + 2) = (1, 44) := (by decide +kernel : ∀ k ∈ fp_gdL, fp_lay (k + 2) = (1, 44)) k h
theorem gd_r5 {k : Nat} (h : fp_isgd k) : fp_ref k 5 = (k + 3) + 1 := (by decide +kernel : ∀ k ∈ fp_gdL, fp_ref k 5 = (k + 3) + 1) k h
theorem gd_a5 {k : Nat} (h : fp_isgd k) : fp_lay (k + 3) = (1, 3) := (by decide +kernel : ∀ k ∈ fp_gdL, fp_lay (k + 3) = (1, 3)) k h
theorem gd3 : fp_isgd 3 := by unfold fp_isgd; decide
theorem gd18 : fp_isgd 18 := by unfold fp_isgd; decide
def fp_vsL : List Nat := [12, 27, 149, 162]
def fp_isvs (k : Nat) : Prop := k ∈ fp_vsL
theorem vs_lay {k : Nat} (h : fp_isvs k) : fp_lay k = (0, 10) := (by decide +kernel : ∀ k ∈ fp_vsL, fp_lay k = (0, 10)) k h
theorem vs_lt {k : Nat} (h : fp_isvs k) : k < 203 := (by decide +kernel : ∀ k ∈ fp_vsL, k < 203) k h
theorem vs_r1 {k : Nat} (h : fp_isvs k) : fp_ref k 1 = (k + 1) + 1 := (by decide +kernel : ∀ k ∈ fp_vsL, fp_ref k 1 = (k + 1) + 1) k h
theorem vs_a1 {k : Nat} (h : fp_isvs k) : fp_lay (k + 1) = (1, 12) := (by decide +kernel : ∀ k ∈ fp_vsL, fp_lay (k + 1) = (1, 12)) k h
theorem vs_r2 {k : Nat} (h : fp_isvs k) : fp_ref k 2 = (k + 2) + 1 := (by decide +kernel : ∀ k ∈ fp_vsL, fp_ref k 2 = (k + 2) + 1) k h
theorem vs_a2 {k : Nat} (h : fp_isvs k) : fp_lay (k + 2) = (1, 12) := (by decide +kernel : ∀ k ∈ fp_vsL, fp_lay (k + 2) = (1, 12)) k h
theorem vs_r3 {k : Nat} (h : fp_isvs k) : fp_ref k 3 = (k + 3) + 1 := (by decide +kernel : ∀ k ∈ fp_vsL, fp_ref k 3 = (k + 3) + 1) k h
theorem vs_a3 {k : Nat} (h : fp_isvs k) : fp_lay (k + 3) = (1, 12) := (by decide +kernel : ∀ k ∈ fp_vsL, fp_lay (k + 3) = (1, 12)) k h
theorem vs_r4 {k : Nat} (h : fp_isvs k) : fp_ref k 4 = (k + 4) + 1 := (by decide +kernel : ∀ k ∈ fp_vsL, fp_ref k 4 = (k + 4) + 1) k h
theorem vs_a4 {k : Nat} (h : fp_isvs k) : fp_lay (k + 4) = (1, 12) := (by decide +kernel : ∀ k ∈ fp_vsL, fp_lay (k + 4) = (1, 12)) k h
theorem vs12 : fp_isvs 12 := by unfold fp_isvs; decide
theorem vs27 : fp_isvs 27 := by unfold fp_isvs; decide
theorem vs149 : fp_isvs 149 := by unfold fp_isvs; decide
theorem vs162 : fp_isvs 162 := by unfold fp_isvs; decide
def fp_ntL : List Nat := [32, 154, 167]
def fp_isnt (k : Nat) : Prop := k ∈ fp_ntL
theorem nt_lay {k : Nat} (h : fp_isnt k) : fp_lay k = (0, 3) := (by decide +kernel : ∀ k ∈ fp_ntL, fp_lay k = (0, 3)) k h
theorem nt_lt {k : Nat} (h : fp_isnt k) : k < 203 := (by decide +kernel : ∀ k ∈ fp_ntL, k < 203) k h
theorem nt_r1 {k : Nat} (h : fp_isnt k) : fp_ref k 1 = (k + 1) + 1 := (by decide +kernel : ∀ k ∈ fp_ntL, fp_ref k 1 = (k + 1) + 1) k h
theorem nt_a1 {k : Nat} (h : fp_isnt k) : fp_lay (k + 1) = (1, 8) := (by decide +kernel : ∀ k ∈ fp_ntL, fp_lay (k + 1) = (1, 8)) k h
theorem nt32 : fp_isnt 32 := by unfold fp_isnt; decide
theorem nt154 : fp_isnt 154 := by unfold fp_isnt; decide
theorem nt167 : fp_isnt 167 := by unfold fp_isnt; decide
def fp_shL : List Nat := [169, 171, 173, 175]
def fp_issh (k : Nat) : Prop := k ∈ fp_shL
theorem sh_lay {k : Nat} (h : fp_issh k) : fp_lay k = (0, 9) := (by decide +kernel : ∀ k ∈ fp_shL, fp_lay k = (0, 9)) k h
theorem sh_lt {k : Nat} (h : fp_issh k) : k < 203 := (by decide +kernel : ∀ k ∈ fp_shL, k < 203) k h
theorem sh_r2 {k : Nat} (h : fp_issh k) : fp_ref k 2 = (k + 1) + 1 := (by decide +kernel : ∀ k ∈ fp_shL, fp_ref k 2 = (k + 1) + 1) k h
theorem sh_a2 {k : Nat} (h : fp_issh k) : fp_lay (k + 1) = (1, 40) := (by decide +kernel : ∀ k ∈ fp_shL, fp_lay (k + 1) = (1, 40)) k h
theorem sh169 : fp_issh 169 := by unfold fp_issh; decide
theorem sh171 : fp_issh 171 := by unfold fp_issh; decide
theorem sh173 : fp_issh 173 := by unfold fp_issh; decide
theorem sh175 : fp_issh 175 := by unfold fp_issh; decide
def fp_imL : List Nat := [143, 156]
def fp_isim (k : Nat) : Prop := k ∈ fp_imL
theorem im_lay {k : Nat} (h : fp_isim k) : fp_lay k = (0, 2) := (by decide +kernel : ∀ k ∈ fp_imL, fp_lay k = (0, 2)) k h
theorem im_lt {k : Nat} (h : fp_isim k) : k < 203 := (by decide +kernel : ∀ k ∈ fp_imL, k < 203) k h
theorem im_r1 {k : Nat} (h : fp_isim k) : fp_ref k 1 = (k + 1) + 1 := (by decide +kernel : ∀ k ∈ fp_imL, fp_ref k 1 = (k + 1) + 1) k h
theorem im_o1 {k : Nat} (h : fp_isim k) : fp_ispl (k + 1) := (by decide +kernel : ∀ k ∈ fp_imL, k + 1 ∈ fp_plL) k h
theorem im_r2 {k : Nat} (h : fp_isim k) : fp_ref k 2 = (k + 6) + 1 := (by decide +kernel : ∀ k ∈ fp_imL, fp_ref k 2 = (k + 6) + 1) k h
theorem im_o2 {k : Nat} (h : fp_isim k) : fp_isvs (k + 6) := (by decide +kernel : ∀ k ∈ fp_imL, k + 6 ∈ fp_vsL) k h
theorem im_r3 {k : Nat} (h : fp_isim k) : fp_ref k 3 = (k + 11) + 1 := (by decide +kernel : ∀ k ∈ fp_imL, fp_ref k 3 = (k + 11) + 1) k h
theorem im_o3 {k : Nat} (h : fp_isim k) : fp_isnt (k + 11) := (by decide +kernel : ∀ k ∈ fp_imL, k + 11 ∈ fp_ntL) k h
theorem im143 : fp_isim 143 := by unfold fp_isim; decide
theorem im156 : fp_isim 156 := by unfold fp_isim; decide
theorem stg_r {z : Int} (h0 : 0 ≤ z) (h1 : z < 13) : fp_ref 35 z.toNat = (41 + 5 * z.toNat) + 1 := (by decide +kernel : ∀ i, i < 13 → fp_ref 35 i = (41 + 5 * i) + 1) z.toNat (by omega)
theorem stg_o {z : Int} (h0 : 0 ≤ z) (h1 : z < 13) : fp_ispl (41 + 5 * z.toNat) := (by decide +kernel : ∀ i, i < 13 → 41 + 5 * i ∈ fp_plL) z.toNat (by omega)
theorem trk_r {z : Int} (h0 : 0 ≤ z) (h1 : z < 3) : fp_ref 36 z.toNat = (106 + 5 * z.toNat) + 1 := (by decide +kernel : ∀ i, i < 3 → fp_ref 36 i = (106 + 5 * i) + 1) z.toNat (by omega)
theorem trk_o {z : Int} (h0 : 0 ≤ z) (h1 : z < 3) : fp_ispl (106 + 5 * z.toNat) := (by decide +kernel : ∀ i, i < 3 → 106 + 5 * i ∈ fp_plL) z.toNat (by omega)
theorem img_r {z : Int} (h0 : 0 ≤ z) (h1 : z < 2) : fp_ref 141 z.toNat = (143 + 13 * z.toNat) + 1 := (by decide +kernel : ∀ i, i < 2 → fp_ref 141 i = (143 + 13 * i) + 1) z.toNat (by omega)
theorem img_o {z : Int} (h0 : 0 ≤ z) (h1 : z < 2) : fp_isim (143 + 13 * z.toNat) := (by decide +kernel : ∀ i, i < 2 → 143 + 13 * i ∈ fp_imL) z.toNat (by omega)
theorem shs_r {z : Int} (h0 : 0 ≤ z) (h1 : z < 4) : fp_ref 142 z.toNat = (169 + 2 * z.toNat) + 1 := (by decide +kernel : ∀ i, i < 4 → fp_ref 142 i = (169 + 2 * i) + 1) z.toNat (by omega)
theorem shs_o {z : Int} (h0 : 0 ≤ z) (h1 : z < 4) : fp_issh (169 + 2 * z.toNat) := (by decide +kernel : ∀ i, i < 4 → 169 + 2 * i ∈ fp_shL) z.toNat (by omega)
theorem drw_r {z : Int} (h0 : 0 ≤ z) (h1 : z < 7) : fp_ref 124 z.toNat = (125 + z.toNat) + 1 := (by decide +kernel : ∀ i, i < 7 → fp_ref 124 i = (125 + i) + 1) z.toNat (by omega)
theorem drw_a {z : Int} (h0 : 0 ≤ z) (h1 : z < 7) : fp_lay (125 + z.toNat) = (1, 8) := (by decide +kernel : ∀ i, i < 7 → fp_lay (125 + i) = (1, 8)) z.toNat (by omega)
end
section
/-! BY PROGRAM (tools/mkmore.py): the layout, cell by cell; calls whose answer and memory are told outright -/
theorem L_0 : fp_lay 0 = (0, 11) := by decide +kernel
theorem L_1 : fp_lay 1 = (2, 480) := by decide +kernel
theorem L_2 : fp_lay 2 = (0, 6) := by decide +kernel
theorem L_3 : fp_lay 3 = (0, 1) := by decide +kernel
theorem L_4 : fp_lay 4 = (1, 11) := by decide +kernel
theorem L_5 : fp_lay 5 = (1, 44) := by decide +kernel
theorem L_6 : fp_lay 6 = (1, 3) := by decide +kernel
theorem L_7 : fp_lay 7 = (0, 5) := by decide +kernel
theorem L_8 : fp_lay 8 = (1, 10) := by decide +kernel
theorem L_9 : fp_lay 9 = (1, 10) := by decide +kernel
theorem L_10 : fp_lay 10 = (1, 3) := by decide +kernel
theorem L_11 : fp_lay 11 = (1, 24) := by decide +kernel
theorem L_12 : fp_lay 12 = (0, 10) := by decide +kernel
theorem L_13 : fp_lay 13 = (1, 12) := by decide +kernel
theorem L_14 : fp_lay 14 = (1, 12) := by decide +kernel
theorem L_15 : fp_lay 15 = (1, 12) := by decide +kernel
theorem L_16 : fp_lay 16 = (1, 12) := by decide +kernel
theorem L_17 : fp_lay 17 = (2, 0) := by decide +kernel
theorem L_18 : fp_lay 18 = (0, 1) := by decide +kernel
theorem L_19 : fp_lay 19 = (1, 11) := by decide +kernel
theorem L_20 : fp_lay 20 = (1, 44) := by decide +kernel
theorem L_21 : fp_lay 21 = (1, 3) := by decide +kernel
theorem L_22 : fp_lay 22 = (0, 5) := by decide +kernel
theorem L_23 : fp_lay 23 = (1, 10) := by decide +kernel
theorem L_24 : fp_lay 24 = (1, 10) := by decide +kernel
theorem L_25 : fp_lay 25 = (1, 3) := by decide +kernel
theorem L_26 : fp_lay 26 = (1, 24) := by decide +kernel
theorem L_27 : fp_lay 27 = (0, 10) := by decide +kernel
theorem L_28 : fp_lay 28 = (1, 12) := by decide +kernel
theorem L_29 : fp_lay 29 = (1, 12) := by decide +kernel
theorem L_30 : fp_lay 30 = (1, 12) := by decide +kernel
theorem L_31 : fp_lay 31 = (1, 12) := by decide +kernel
theorem L_32 : fp_lay 32 = (0, 3) := by decide +kernel
theorem L_33 : fp_lay 33 = (1, 8) := by decide +kernel
theorem L_34 : fp_lay 34 = (0, 8) := by decide +kernel
theorem L_35 : fp_lay 35 = (5, 13) := by decide +kernel
theorem L_36 : fp_lay 36 = (5, 3) := by decide +kernel
theorem L_37 : fp_lay 37 = (3, 3) := by decide +kernel
theorem L_38 : fp_lay 38 = (1, 12) := by decide +kernel
theorem L_39 : fp_lay 39 = (1, 12) := by decide +kernel
theorem L_40 : fp_lay 40 = (4, 10) := by decide +kernel
theorem L_41 : fp_lay 41 = (0, 5) := by decide +kernel
theorem L_42 : fp_lay 42 = (1, 10) := by decide +kernel
theorem L_43 : fp_lay 43 = (1, 10) := by decide +kernel
theorem L_44 : fp_lay 44 = (1, 3) := by decide +kernel
theorem L_45 : fp_lay 45 = (1, 24) := by decide +kernel
theorem L_46 : fp_lay 46 = (0, 5) := by decide +kernel
theorem L_47 : fp_lay 47 = (1, 10) := by decide +kernel
theorem L_48 : fp_lay 48 = (1, 10) := by decide +kernel
theorem L_49 : fp_lay 49 = (1, 3) := by decide +kernel
theorem L_50 : fp_lay 50 = (1, 24) := by decide +kernel
theorem L_51 : fp_lay 51 = (0, 5) := by decide +kernel
theorem L_52 : fp_lay 52 = (1, 10) := by decide +kernel
theorem L_53 : fp_lay 53 = (1, 10) := by decide +kernel
theorem L_54 : fp_lay 54 = (1, 3) := by decide +kernel
theorem L_55 : fp_lay 55 = (1, 24) := by decide +kernel
theorem L_56 : fp_lay 56 = (0, 5) := by decide +kernel
theorem L_57 : fp_lay 57 = (1, 10) := by decide +kernel
theorem L_58 : fp_lay 58 = (1, 10) := by decide +kernel
theorem L_59 : fp_lay 59 = (1, 3) := by decide +kernel
theorem L_60 : fp_lay 60 = (1, 24) := by decide +kernel
theorem L_61 : fp_lay 61 = (0, 5) := by decide +kernel
theorem L_62 : fp_lay 62 = (1, 10) := by decide +kernel
theorem L_63 : fp_lay 63 = (1, 10) := by decide +kernel
theorem L_64 : fp_lay 64 = (1, 3) := by decide +kernel
theorem L_65 : fp_lay 65 = (1, 24) := by decide +kernel
theorem L_66 : fp_lay 66 = (0, 5) := by decide +kernel
theorem L_67 : fp_lay 67 = (1, 10) := by decide +kernel
theorem L_68 : fp_lay 68 = (1, 10) := by decide +kernel
theorem L_69 : fp_lay 69 = (1, 3) := by decide +kernel
theorem L_70 : fp_lay 70 = (1, 24) := by decide +kernel
theorem L_71 : fp_lay 71 = (0, 5) := by decide +kernel
theorem L_72 : fp_lay 72 = (1, 10) := by decide +kernel
theorem L_73 : fp_lay 73 = (1, 10) := by decide +kernel
theorem L_74 : fp_lay 74 = (1, 3) := by decide +kernel
theorem L_75 : fp_lay 75 = (1, 24) := by decide +kernel
theorem L_76 : fp_lay 76 = (0, 5) := by decide +kernel
theorem L_77 : fp_lay 77 = (1, 10) := by decide +kernel
theorem L_78 : fp_lay 78 = (1, 10) := by decide +kernel
theorem L_79 : fp_lay 79 = (1, 3) := by decide +kernel
theorem L_80 : fp_lay 80 = (1, 24) := by decide +kernel
theorem L_81 : fp_lay 81 = (0, 5) := by decide +kernel
theorem L_82 : fp_lay 82 = (1, 10) := by decide +kernel
theorem L_83 : fp_lay 83 = (1, 10) := by decide +kernel
theorem L_84 : fp_lay 84 = (1, 3) := by decide +kernel
theorem L_85 : fp_lay 85 = (1, 24) := by decide +kernel
theorem L_86 : fp_lay 86 = (0, 5) := by decide +kernel
theorem L_87 : fp_lay 87 = (1, 10) := by decide +kernel
theorem L_88 : fp_lay 88 = (1, 10) := by decide +kernel
theorem L_89 : fp_lay 89 = (1, 3) := by decide +kernel
theorem L_90 : fp_lay 90 = (1, 24) := by decide +kernel
theorem L_91 : fp_lay 91 = (0, 5) := by decide +kernel
theorem L_92 : fp_lay 92 = (1, 10) := by decide +kernel
theorem L_93 : fp_lay 93 = (1, 10) := by decide +kernel
theorem L_94 : fp_lay 94 = (1, 3) := by decide +kernel
theorem L_95 : fp_lay 95 = (1, 24) := by decide +kernel
theorem L_96 : fp_lay 96 = (0, 5) := by decide +kernel
theorem L_97 : fp_lay 97 = (1, 10) := by decide +kernel
theorem L_98 : fp_lay 98 = (1, 10) := by decide +kernel
theorem L_99 : fp_lay 99 = (1, 3) := by decide +kernel
theorem L_100 : fp_lay 100 = (1, 24) := by decide +kernel
theorem L_101 : fp_lay 101 = (0, 5) := by decide +kernel
theorem L_102 : fp_lay 102 = (1, 10) := by decide +kernel
theorem L_103 : fp_lay 103 = (1, 10) := by decide +kernel
theorem L_104 : fp_lay 104 = (1, 3) := by decide +kernel
theorem L_105 : fp_lay 105 = (1, 24) := by decide +kernel
theorem L_106 : fp_lay 106 = (0, 5) := by decide +kernel
theorem L_107 : fp_lay 107 = (1, 10) := by decide +kernel
theorem L_108 : fp_lay 108 = (1, 10) := by decide +kernel
theorem L_109 : fp_lay 109 = (1, 3) := by decide +kernel
theorem L_110 : fp_lay 110 = (1, 24) := by decide +kernel
theorem L_111 : fp_lay 111 = (0, 5) := by decide +kernel
theorem L_112 : fp_lay 112 = (1, 10) := by decide +kernel
theorem L_113 : fp_lay 113 = (1, 10) := by decide +kernel
theorem L_114 : fp_lay 114 = (1, 3) := by decide +kernel
theorem L_115 : fp_lay 115 = (1, 24) := by decide +kernel
theorem L_116 : fp_lay 116 = (0, 5) := by decide +kernel
theorem L_117 : fp_lay 117 = (1, 10) := by decide +kernel
theorem L_118 : fp_lay 118 = (1, 10) := by decide +kernel
theorem L_119 : fp_lay 119 = (1, 3) := by decide +kernel
theorem L_120 : fp_lay 120 = (1, 24) := by decide +kernel
theorem L_121 : fp_lay 121 = (0, 0) := by decide +kernel
theorem L_122 : fp_lay 122 = (1, 2) := by decide +kernel
theorem L_123 : fp_lay 123 = (1, 2) := by decide +kernel
theorem L_124 : fp_lay 124 = (8, 7) := by decide +kernel
theorem L_125 : fp_lay 125 = (1, 8) := by decide +kernel
theorem L_126 : fp_lay 126 = (1, 8) := by decide +kernel
theorem L_127 : fp_lay 127 = (1, 8) := by decide +kernel
theorem L_128 : fp_lay 128 = (1, 8) := by decide +kernel
theorem L_129 : fp_lay 129 = (1, 8) := by decide +kernel
theorem L_130 : fp_lay 130 = (1, 8) := by decide +kernel
theorem L_131 : fp_lay 131 = (1, 8) := by decide +kernel
theorem L_132 : fp_lay 132 = (1, 7) := by decide +kernel
theorem L_133 : fp_lay 133 = (0, 4) := by decide +kernel
theorem L_134 : fp_lay 134 = (1, 8) := by decide +kernel
theorem L_135 : fp_lay 135 = (1, 8) := by decide +kernel
theorem L_136 : fp_lay 136 = (0, 7) := by decide +kernel
theorem L_137 : fp_lay 137 = (1, 4) := by decide +kernel
theorem L_138 : fp_lay 138 = (1, 4) := by decide +kernel
theorem L_139 : fp_lay 139 = (1, 4) := by decide +kernel
theorem L_140 : fp_lay 140 = (1, 4) := by decide +kernel
theorem L_141 : fp_lay 141 = (6, 2) := by decide +kernel
theorem L_142 : fp_lay 142 = (7, 4) := by decide +kernel
theorem L_143 : fp_lay 143 = (0, 2) := by decide +kernel
theorem L_144 : fp_lay 144 = (0, 5) := by decide +kernel
theorem L_145 : fp_lay 145 = (1, 10) := by decide +kernel
theorem L_146 : fp_lay 146 = (1, 10) := by decide +kernel
theorem L_147 : fp_lay 147 = (1, 3) := by decide +kernel
theorem L_148 : fp_lay 148 = (1, 24) := by decide +kernel
theorem L_149 : fp_lay 149 = (0, 10) := by decide +kernel
theorem L_150 : fp_lay 150 = (1, 12) := by decide +kernel
theorem L_151 : fp_lay 151 = (1, 12) := by decide +kernel
theorem L_152 : fp_lay 152 = (1, 12) := by decide +kernel
theorem L_153 : fp_lay 153 = (1, 12) := by decide +kernel
theorem L_154 : fp_lay 154 = (0, 3) := by decide +kernel
theorem L_155 : fp_lay 155 = (1, 8) := by decide +kernel
theorem L_156 : fp_lay 156 = (0, 2) := by decide +kernel
theorem L_157 : fp_lay 157 = (0, 5) := by decide +kernel
theorem L_158 : fp_lay 158 = (1, 10) := by decide +kernel
theorem L_159 : fp_lay 159 = (1, 10) := by decide +kernel
theorem L_160 : fp_lay 160 = (1, 3) := by decide +kernel
theorem L_161 : fp_lay 161 = (1, 24) := by decide +kernel
theorem L_162 : fp_lay 162 = (0, 10) := by decide +kernel
theorem L_163 : fp_lay 163 = (1, 12) := by decide +kernel
theorem L_164 : fp_lay 164 = (1, 12) := by decide +kernel
theorem L_165 : fp_lay 165 = (1, 12) := by decide +kernel
theorem L_166 : fp_lay 166 = (1, 12) := by decide +kernel
theorem L_167 : fp_lay 167 = (0, 3) := by decide +kernel
theorem L_168 : fp_lay 168 = (1, 8) := by decide +kernel
theorem L_169 : fp_lay 169 = (0, 9) := by decide +kernel
theorem L_170 : fp_lay 170 = (1, 40) := by decide +kernel
theorem L_171 : fp_lay 171 = (0, 9) := by decide +kernel
theorem L_172 : fp_lay 172 = (1, 40) := by decide +kernel
theorem L_173 : fp_lay 173 = (0, 9) := by decide +kernel
theorem L_174 : fp_lay 174 = (1, 40) := by decide +kernel
theorem L_175 : fp_lay 175 = (0, 9) := by decide +kernel
theorem L_176 : fp_lay 176 = (1, 40) := by decide +kernel
theorem L_177 : fp_lay 177 = (0, 12) := by decide +kernel
theorem L_178 : fp_lay 178 = (1, 600) := by decide +kernel
theorem L_179 : fp_lay 179 = (1, 11) := by decide +kernel
theorem L_180 : fp_lay 180 = (1, 44) := by decide +kernel
theorem L_181 : fp_lay 181 = (1, 3) := by decide +kernel
theorem L_182 : fp_lay 182 = (1, 120) := by decide +kernel
theorem L_183 : fp_lay 183 = (1, 10) := by decide +kernel
theorem L_184 : fp_lay 184 = (1, 40) := by decide +kernel
theorem L_185 : fp_lay 185 = (1, 3) := by decide +kernel
theorem L_186 : fp_lay 186 = (1, 480) := by decide +kernel
theorem L_187 : fp_lay 187 = (1, 9) := by decide +kernel
theorem L_188 : fp_lay 188 = (1, 42) := by decide +kernel
theorem L_189 : fp_lay 189 = (1, 560) := by decide +kernel
theorem L_190 : fp_lay 190 = (1, 12) := by decide +kernel
theorem L_191 : fp_lay 191 = (1, 12) := by decide +kernel
theorem L_192 : fp_lay 192 = (4, 10) := by decide +kernel
theorem L_193 : fp_lay 193 = (1, 729) := by decide +kernel
theorem L_194 : fp_lay 194 = (1, 8) := by decide +kernel
theorem L_195 : fp_lay 195 = (1, 8) := by decide +kernel
theorem L_196 : fp_lay 196 = (1, 4) := by decide +kernel
theorem L_197 : fp_lay 197 = (1, 4) := by decide +kernel
theorem L_198 : fp_lay 198 = (1, 4) := by decide +kernel
theorem L_199 : fp_lay 199 = (3, 2) := by decide +kernel
theorem L_200 : fp_lay 200 = (1, 4) := by decide +kernel
theorem L_201 : fp_lay 201 = (1, 4) := by decide +kernel
theorem L_202 : fp_lay 202 = (1, 160) := by decide +kernel
theorem rf_0_0 : fp_ref 0 0 = 1 + 1 := by decide +kernel
theorem rf_0_2 : fp_ref 0 2 = 2 + 1 := by decide +kernel
theorem rf_0_3 : fp_ref 0 3 = 18 + 1 := by decide +kernel
theorem rf_0_4 : fp_ref 0 4 = 22 + 1 := by decide +kernel
theorem rf_0_5 : fp_ref 0 5 = 27 + 1 := by decide +kernel
theorem rf_0_6 : fp_ref 0 6 = 32 + 1 := by decide +kernel
theorem rf_0_7 : fp_ref 0 7 = 34 + 1 := by decide +kernel
theorem rf_0_8 : fp_ref 0 8 = 121 + 1 := by decide +kernel
theorem rf_0_9 : fp_ref 0 9 = 133 + 1 := by decide +kernel
theorem rf_0_10 : fp_ref 0 10 = 136 + 1 := by decide +kernel
theorem rf_0_11 : fp_ref 0 11 = 141 + 1 := by decide +kernel
theorem rf_0_12 : fp_ref 0 12 = 142 + 1 := by decide +kernel
theorem rf_2_0 : fp_ref 2 0 = 3 + 1 := by decide +kernel
theorem rf_2_1 : fp_ref 2 1 = 7 + 1 := by decide +kernel
theorem rf_2_2 : fp_ref 2 2 = 12 + 1 := by decide +kernel
theorem rf_34_0 : fp_ref 34 0 = 35 + 1 := by decide +kernel
theorem rf_34_1 : fp_ref 34 1 = 36 + 1 := by decide +kernel
theorem rf_34_2 : fp_ref 34 2 = 37 + 1 := by decide +kernel
theorem rf_34_4 : fp_ref 34 4 = 38 + 1 := by decide +kernel
theorem rf_34_5 : fp_ref 34 5 = 39 + 1 := by decide +kernel
theorem rf_34_6 : fp_ref 34 6 = 40 + 1 := by decide +kernel
theorem rf_121_2 : fp_ref 121 2 = 122 + 1 := by decide +kernel
theorem rf_121_3 : fp_ref 121 3 = 123 + 1 := by decide +kernel
theorem rf_121_4 : fp_ref 121 4 = 124 + 1 := by decide +kernel
theorem rf_121_5 : fp_ref 121 5 = 132 + 1 := by decide +kernel
theorem rf_133_2 : fp_ref 133 2 = 134 + 1 := by decide +kernel
theorem rf_133_4 : fp_ref 133 4 = 135 + 1 := by decide +kernel
theorem rf_136_0 : fp_ref 136 0 = 137 + 1 := by decide +kernel
theorem rf_136_1 : fp_ref 136 1 = 138 + 1 := by decide +kernel
theorem rf_136_2 : fp_ref 136 2 = 139 + 1 := by decide +kernel
theorem rf_136_3 : fp_ref 136 3 = 140 + 1 := by decide +kernel
theorem rf_177_0 : fp_ref 177 0 = 178 + 1 := by decide +kernel
theorem rf_177_1 : fp_ref 177 1 = 179 + 1 := by decide +kernel
theorem rf_177_2 : fp_ref 177 2 = 180 + 1 := by decide +kernel
theorem rf_177_3 : fp_ref 177 3 = 181 + 1 := by decide +kernel
theorem rf_177_7 : fp_ref 177 7 = 182 + 1 := by decide +kernel
theorem rf_177_8 : fp_ref 177 8 = 183 + 1 := by decide +kernel
theorem rf_177_9 : fp_ref 177 9 = 184 + 1 := by decide +kernel
theorem rf_177_10 : fp_ref 177 10 = 185 + 1 := by decide +kernel
theorem rf_177_18 : fp_ref 177 18 = 186 + 1 := by decide +kernel
theorem rf_177_27 : fp_ref 177 27 = 187 + 1 := by decide +kernel
theorem rf_177_28 : fp_ref 177 28 = 188 + 1 := by decide +kernel
theorem rf_177_29 : fp_ref 177 29 = 189 + 1 := by decide +kernel
theorem rf_177_30 : fp_ref 177 30 = 190 + 1 := by decide +kernel
theorem rf_177_31 : fp_ref 177 31 = 191 + 1 := by decide +kernel
theorem rf_177_32 : fp_ref 177 32 = 192 + 1 := by decide +kernel
theorem rf_177_34 : fp_ref 177 34 = 193 + 1 := by decide +kernel
theorem rf_177_35 : fp_ref 177 35 = 194 + 1 := by decide +kernel
theorem rf_177_36 : fp_ref 177 36 = 195 + 1 := by decide +kernel
theorem rf_177_37 : fp_ref 177 37 = 196 + 1 := by decide +kernel
theorem rf_177_38 : fp_ref 177 38 = 197 + 1 := by decide +kernel
theorem rf_177_39 : fp_ref 177 39 = 198 + 1 := by decide +kernel
theorem rf_177_40 : fp_ref 177 40 = 199 + 1 := by decide +kernel
theorem rf_177_41 : fp_ref 177 41 = 200 + 1 := by decide +kernel
theorem rf_177_42 : fp_ref 177 42 = 201 + 1 := by decide +kernel
theorem rf_177_43 : fp_ref 177 43 = 202 + 1 := by decide +kernel
theorem rf_2_5 : fp_ref 2 5 = 0 := by decide +kernel
def qE (f : Int) (N : fp_Mem) : fp_Q := qI fun z M => z = f ∧ M = N
def qJE (f : Int) (N : fp_Mem) : fp_Q := qJ fun z M => z = f ∧ M = N
def qW (N : fp_Mem) : fp_Q := qV fun M => M = N
def qRE (G : fp_WG) (f : Nat) (N : fp_Mem) : fp_Q := qR G fun z M => z = f ∧ M = N
section MOR
variable {l : Launch} {G : fp_WG} {d : Nat} {Y : fp_MR} {pc pc' : Nat} {LL LL' : List (Option Value)} {st : List Value} {M N : fp_Mem} {Q : fp_Q} {idx c j k len na d' : Nat} {ty : FieldType} {fin : Bool} {z x f : Int} {g : Nat} {Z : fp_MR} {As st0 : List Value}
theorem S.callVe (hd : decode Y.2.1 pc = .ok (.invokevirtual idx, 3)) (hp : pc + 3 = pc') (hc : fp_CV Y.1.cls idx Z na c) (ok : fp_Ok l G d' Z (rV G k :: As) M (qE f N)) (hna : As.length = na) (hk : fp_lay k = (0, c)) (hdd : d' + 1 ≤ d) (hst0 : st0 = As.reverse ++ rV G k :: st) (hst : (st.map fun v => v.category).sum ≤ 8) (kk : fp_S l G d Y pc' LL (iV f :: st) N Q) : fp_S l G d Y pc LL st0 M Q := by
  refine S.callVi hd hp hc ok hna hk hdd hst0 hst ?_
  rintro z M' ⟨rfl, rfl⟩
  exact kk
theorem S.callVw (hd : decode Y.2.1 pc = .ok (.invokevirtual idx, 3)) (hp : pc + 3 = pc') (hc : fp_CV Y.1.cls idx Z na c) (ok : fp_Ok l G d' Z (rV G k :: As) M (qW N)) (hna : As.length = na) (hk : fp_lay k = (0, c)) (hdd : d' + 1 ≤ d) (hst0 : st0 = As.reverse ++ rV G k :: st) (hst : (st.map fun v => v.category).sum ≤ 8) (kk : fp_S l G d Y pc' LL (st) N Q) : fp_S l G d Y pc LL st0 M Q := by
  refine S.callVv hd hp hc ok hna hk hdd hst0 hst ?_
  rintro M' rfl
  exact kk
theorem S.callVje (hd : decode Y.2.1 pc = .ok (.invokevirtual idx, 3)) (hp : pc + 3 = pc') (hc : fp_CV Y.1.cls idx Z na c) (ok : fp_Ok l G d' Z (rV G k :: As) M (qJE f N)) (hna : As.length = na) (hk : fp_lay k = (0, c)) (hdd : d' + 1 ≤ d) (hst0 : st0 = As.reverse ++ rV G k :: st) (hst : (st.map fun v => v.category).sum ≤ 8) (kk : fp_S l G d Y pc' LL (jV f :: st) N Q) : fp_S l G d Y pc LL st0 M Q := by
  refine S.callVj hd hp hc ok hna hk hdd hst0 hst ?_
  rintro z M' ⟨rfl, rfl⟩
  exact kk
theorem S.callVre (hd : decode Y.2.1 pc = .ok (.invokevirtual idx, 3)) (hp : pc + 3 = pc') (hc : fp_CV Y.1.cls idx Z na c) (ok : fp_Ok l G d' Z (rV G k :: As) M (qRE G g N)) (hna : As.length = na) (hk : fp_lay k = (0, c)) (hdd : d' + 1 ≤ d) (hst0 : st0 = As.reverse ++ rV G k :: st) (hst : (st.map fun v => v.category).sum ≤ 8) (kk : fp_S l G d Y pc' LL (rV G g :: st) N Q) : fp_S l G d Y pc LL st0 M Q := by
  refine S.callVr hd hp hc ok hna hk hdd hst0 hst ?_
  rintro z M' ⟨rfl, rfl⟩
  exact kk
theorem S.callSe (hd : decode Y.2.1 pc = .ok (.invokestatic idx, 3)) (hp : pc + 3 = pc') (hc : fp_CS Y.1.cls idx Z na) (ok : fp_Ok l G d' Z As M (qE f N)) (hna : As.length = na) (hdd : d' + 1 ≤ d) (hst0 : st0 = As.reverse ++ st) (hst : (st.map fun v => v.category).sum ≤ 8) (kk : fp_S l G d Y pc' LL (iV f :: st) N Q) : fp_S l G d Y pc LL st0 M Q := by
  refine S.callSi hd hp hc ok hna hdd hst0 hst ?_
  rintro z M' ⟨rfl, rfl⟩
  exact kk
theorem S.callSw (hd : decode Y.2.1 pc = .ok (.invokestatic idx, 3)) (hp : pc + 3 = pc') (hc : fp_CS Y.1.cls idx Z na) (ok : fp_Ok l G d' Z As M (qW N)) (hna : As.length = na) (hdd : d' + 1 ≤ d) (hst0 : st0 = As.reverse ++ st) (hst : (st.map fun v => v.category).sum ≤ 8) (kk : fp_S l G d Y pc' LL (st) N Q) : fp_S l G d Y pc LL st0 M Q := by
  refine S.callSv hd hp hc ok hna hdd hst0 hst ?_
  rintro M' rfl
  exact kk
theorem S.callSje (hd : decode Y.2.1 pc = .ok (.invokestatic idx, 3)) (hp : pc + 3 = pc') (hc : fp_CS Y.1.cls idx Z na) (ok : fp_Ok l G d' Z As M (qJE f N)) (hna : As.length = na) (hdd : d' + 1 ≤ d) (hst0 : st0 = As.reverse ++ st) (hst : (st.map fun v => v.category).sum ≤ 8) (kk : fp_S l G d Y pc' LL (jV f :: st) N Q) : fp_S l G d Y pc LL st0 M Q := by
  refine S.callSj hd hp hc ok hna hdd hst0 hst ?_
  rintro z M' ⟨rfl, rfl⟩
  exact kk
theorem S.callSNe (hd : decode Y.2.1 pc = .ok (.invokestatic idx, 3)) (hp : pc + 3 = pc') (hc : fp_CSN Y.1.cls idx Z na) (ok : fp_Ok l G d' Z As M (qE f N)) (hna : As.length = na) (hdd : d' + 1 ≤ d) (hst0 : st0 = As.reverse ++ st) (hst : (st.map fun v => v.category).sum ≤ 8) (kk : fp_S l G d Y pc' LL (iV f :: st) N Q) : fp_S l G d Y pc LL st0 M Q := by
  refine S.callSNi hd hp hc ok hna hdd hst0 hst ?_
  rintro z M' ⟨rfl, rfl⟩
  exact kk
theorem S.ldc2 {w : Int64} {v : Int} (hd : decode Y.2.1 pc = .ok (.ldc2_w idx, 3)) (hp : pc + 3 = pc') (hc : Cond.constantLong Y.1.cls idx w ∈ lw_tbl) (hw : w = Int64.ofInt v) (kk : fp_S l G d Y pc' LL (jV v :: st) M Q) : fp_S l G d Y pc LL st M Q := by
  subst hp
  subst hw
  intro p e s m args below meth c H locs ls C hR hL hl
  exact lv_ldc2 C.1 C.2.1 C.2.2.2.1 (fp_word C.2.2.2.2.2.2.2.1 C.2.2.2.2.2.2.2.2 hc rfl) hd (kk p e s m args below meth c H locs ls C hR hL hl)
end MOR
/-! bits -/
theorem fp_shl1 {t : Int} (h0 : 0 ≤ t) (h1 : t < 31) : Int32.ofInt 1 <<< (Int32.ofInt t &&& 31) = Int32.ofInt (2 ^ t.toNat) := by
  have h : ∀ n : Nat, n < 31 → Int32.ofInt 1 <<< (Int32.ofInt (n : Int) &&& 31) = Int32.ofInt (2 ^ n) := by decide +kernel
  have := h t.toNat (by omega)
  rwa [Int.toNat_of_nonneg h0] at this
def fp_or (a b : Int) : Int := ((a.toNat ||| b.toNat : Nat) : Int)
def fp_and (a b : Int) : Int := ((a.toNat &&& b.toNat : Nat) : Int)
theorem fp_ofn {a : Int} (h : 0 ≤ a) : Int32.ofInt a = Int32.ofNat a.toNat := by
  rw [← Int32.ofInt_eq_ofNat, Int.toNat_of_nonneg h]
theorem fp_ior {a b : Int} (ha : 0 ≤ a) (hb : 0 ≤ b) : Int32.ofInt a ||| Int32.ofInt b = Int32.ofInt (fp_or a b) := by
  unfold fp_or
  rw [fp_ofn ha, fp_ofn hb, Int32.ofInt_eq_ofNat]
  apply Int32.toBitVec.inj
  simp
theorem fp_iand {a b : Int} (ha : 0 ≤ a) (hb : 0 ≤ b) : Int32.ofInt a &&& Int32.ofInt b = Int32.ofInt (fp_and a b) := by
  unfold fp_and
  rw [fp_ofn ha, fp_ofn hb, Int32.ofInt_eq_ofNat]
  apply Int32.toBitVec.inj
  simp
theorem fp_or_nn (a b : Int) : 0 ≤ fp_or a b := Int.natCast_nonneg _
theorem fp_and_nn (a b : Int) : 0 ≤ fp_and a b := Int.natCast_nonneg _
theorem fp_or_lt {a b : Int} {n : Nat} (ha : a < 2 ^ n) (hb : b < 2 ^ n) : fp_or a b < 2 ^ n := by
  unfold fp_or
  have h1 : a.toNat < 2 ^ n := by
    have : (0 : Int) < 2 ^ n := Int.pow_pos (by decide)
    have h3 : ((2 ^ n : Nat) : Int) = 2 ^ n := by simp
    omega
  have h2 : b.toNat < 2 ^ n := by
    have : (0 : Int) < 2 ^ n := Int.pow_pos (by decide)
    have h3 : ((2 ^ n : Nat) : Int) = 2 ^ n := by simp
    omega
  have h3 := Nat.or_lt_two_pow h1 h2
  have h4 : ((2 ^ n : Nat) : Int) = 2 ^ n := by simp
  omega
theorem fp_shr {a b : Int} (ha : 0 ≤ a) (ha2 : a ≤ 2147483647) (hb : 0 ≤ b) (hb2 : b < 31) : Int32.ofInt a >>> (Int32.ofInt b &&& 31) = Int32.ofInt (a / 2 ^ b.toNat) := by
  have h : ∀ n : Nat, n < 31 → ((Int32.ofInt (n : Int) &&& 31).toBitVec.smod 32).toNat = n := by decide +kernel
  have hs := h b.toNat (by omega)
  rw [Int.toNat_of_nonneg hb] at hs
  have hp : (1 : Int) ≤ 2 ^ b.toNat := by have := Int.pow_pos (n := 2) (m := b.toNat) (by decide); omega
  have hq : 0 ≤ a / 2 ^ b.toNat := Int.ediv_nonneg ha (by omega)
  have hq2 : a / 2 ^ b.toNat ≤ a := Int.ediv_le_self _ ha
  rw [← Int32.toInt_inj, pk_shr _ _ b.toNat hs, fp_toInt ⟨by omega, by omega⟩, fp_toInt ⟨by omega, by omega⟩, Int.shiftRight_eq_div_pow]
  simp
theorem fp_and1 {a : Int} (ha : 0 ≤ a) : Int32.ofInt a &&& Int32.ofInt 1 = Int32.ofInt (a % 2) := by
  rw [fp_iand ha (by decide)]
  congr 1
  unfold fp_and
  have : ((1 : Int).toNat) = 1 := rfl
  rw [this, Nat.and_one_is_mod]
  omega
/-! reading what was written -/
theorem fp_upf_at (f : Nat → Int) (i : Nat) (z : Int) : fp_upf f i z i = z := by simp [fp_upf]
theorem fp_upf_ne {f : Nat → Int} {i j : Nat} {z : Int} (h : j ≠ i) : fp_upf f i z j = f j := by simp [fp_upf, h]
theorem fp_upM_at (M : fp_Mem) (k : Nat) (f : Nat → Int) : fp_upM M k f k = f := by simp [fp_upM]
theorem fp_upM_ne {M : fp_Mem} {a k : Nat} {f : Nat → Int} (h : a ≠ k) : fp_upM M k f a = M a := by simp [fp_upM, h]
theorem fp_upM_self (M : fp_Mem) (k : Nat) : fp_upM M k (M k) = M := by
  funext a
  unfold fp_upM
  split <;> simp_all
theorem fp_upM_upM (M : fp_Mem) (k : Nat) (f g : Nat → Int) : fp_upM (fp_upM M k f) k g = fp_upM M k g := by
  funext a
  unfold fp_upM
  split <;> rfl
end
section
/-! THE CLASS'S LEAVES: Goods, givenSpot, isOne, isWithin -/
/-- the place of the least, of several the first, among 0 .. n -/
def fp_am (w : Int → Int) : Nat → Int
  | 0 => 0
  | n + 1 => if w ((n : Int) + 1) < w (fp_am w n) then (n : Int) + 1 else fp_am w n
theorem fp_am_succ {w : Int → Int} {i : Int} (h : 1 ≤ i) : fp_am w i.toNat = if w i < w (fp_am w (i - 1).toNat) then i else fp_am w (i - 1).toNat := by
  obtain ⟨n, rfl⟩ : ∃ n : Nat, i = (n : Int) + 1 := ⟨(i - 1).toNat, by omega⟩
  have e1 : ((n : Int) + 1).toNat = n + 1 := by omega
  have e2 : ((n : Int) + 1 - 1).toNat = n := by omega
  rw [e1, e2]
  rfl
theorem fp_am_le (w : Int → Int) : ∀ n : Nat, 0 ≤ fp_am w n ∧ fp_am w n ≤ n
  | 0 => by unfold fp_am; omega
  | n + 1 => by
    have h := fp_am_le w n
    unfold fp_am
    split <;> omega
/-- what place a line of that kind gives, of n that lie there -/
def fp_giv (kind : Int) (w : Int → Int) (n : Int) : Int := if kind = 0 then 0 else if kind = 1 then n - 1 else fp_am w (n - 1).toNat
theorem fp_giv_in {kind n : Int} {w : Int → Int} (h : 1 ≤ n) : 0 ≤ fp_giv kind w n ∧ fp_giv kind w n < n := by
  unfold fp_giv
  have := fp_am_le w (n - 1).toNat
  split
  · omega
  · split <;> omega
section LEAF
variable {l : Launch} {G : fp_WG} {M : fp_Mem}
theorem ok_X11_isOne {p : Int} (hp : fp_rng p := by first | assumption | (unfold fp_rng; omega)) : fp_Ok l G 0 kX11_isOne [iV p] M (qE (if 0 ≤ p ∧ p < 4 then 1 else 0) M) := by
  refine fp_Ok.of (r := 0) rfl (Nat.le_of_ble_eq_true rfl) rfl ?_
  refine S.iload_n dX11_isOne_0 rfl rfl rfl ?_
  refine S.if_lt (tgt := 13) dX11_isOne_1 (by decide) rfl hp (fun h1 => ?_) (fun h1 => ?_)
  · refine S.iconst dX11_isOne_13 rfl ?_
    refine S.zret dX11_isOne_14 rfl (by first | exact Or.inl rfl | exact Or.inr rfl | omega) ?_
    refine ⟨?_, rfl⟩
    first | rw [if_pos ⟨by omega, by omega⟩] | rw [if_neg (by omega)]
  · refine S.iload_n dX11_isOne_4 rfl rfl rfl ?_
    refine S.iconst dX11_isOne_5 rfl ?_
    refine S.icmp_ge (tgt := 13) dX11_isOne_6 (by decide) rfl hp (by unfold fp_rng; omega) (fun h6 => ?_) (fun h6 => ?_)
    · refine S.iconst dX11_isOne_13 rfl ?_
      refine S.zret dX11_isOne_14 rfl (by first | exact Or.inl rfl | exact Or.inr rfl | omega) ?_
      refine ⟨?_, rfl⟩
      first | rw [if_pos ⟨by omega, by omega⟩] | rw [if_neg (by omega)]
    · refine S.iconst dX11_isOne_9 rfl ?_
      refine S.goto (pc' := 14) dX11_isOne_10 (by decide) ?_
      refine S.zret dX11_isOne_14 rfl (by first | exact Or.inl rfl | exact Or.inr rfl | omega) ?_
      refine ⟨?_, rfl⟩
      first | rw [if_pos ⟨by omega, by omega⟩] | rw [if_neg (by omega)]
theorem ok_X11_isWithin {n g : Int} (hn : fp_rng n := by first | assumption | (unfold fp_rng; omega)) (hg : fp_rng g := by first | assumption | (unfold fp_rng; omega)) : fp_Ok l G 0 kX11_isWithin [iV n, iV g] M (qE (if 0 ≤ n ∧ n ≤ g then 1 else 0) M) := by
  refine fp_Ok.of (r := 0) rfl (Nat.le_of_ble_eq_true rfl) rfl ?_
  refine S.iload_n dX11_isWithin_0 rfl rfl rfl ?_
  refine S.if_lt (tgt := 13) dX11_isWithin_1 (by decide) rfl hn (fun h1 => ?_) (fun h1 => ?_)
  · refine S.iconst dX11_isWithin_13 rfl ?_
    refine S.zret dX11_isWithin_14 rfl (by first | exact Or.inl rfl | exact Or.inr rfl | omega) ?_
    refine ⟨?_, rfl⟩
    first | rw [if_pos ⟨by omega, by omega⟩] | rw [if_neg (by omega)]
  · refine S.iload_n dX11_isWithin_4 rfl rfl rfl ?_
    refine S.iload_n dX11_isWithin_5 rfl rfl rfl ?_
    refine S.icmp_gt (tgt := 13) dX11_isWithin_6 (by decide) rfl hn hg (fun h6 => ?_) (fun h6 => ?_)
    · refine S.iconst dX11_isWithin_13 rfl ?_
      refine S.zret dX11_isWithin_14 rfl (by first | exact Or.inl rfl | exact Or.inr rfl | omega) ?_
      refine ⟨?_, rfl⟩
      first | rw [if_pos ⟨by omega, by omega⟩] | rw [if_neg (by omega)]
    · refine S.iconst dX11_isWithin_9 rfl ?_
      refine S.goto (pc' := 14) dX11_isWithin_10 (by decide) ?_
      refine S.zret dX11_isWithin_14 rfl (by first | exact Or.inl rfl | exact Or.inr rfl | omega) ?_
      refine ⟨?_, rfl⟩
      first | rw [if_pos ⟨by omega, by omega⟩] | rw [if_neg (by omega)]
theorem ok_X1_hasThing {k : Nat} {t : Int} (hk : fp_isgd k) (ht : fp_rng t := by first | assumption | (unfold fp_rng; omega)) (hm : fp_rng (M k 0) := by first | assumption | (unfold fp_rng; omega)) : fp_Ok l G 0 kX1_hasThing [rV G k, iV t] M (qE (if 0 ≤ t ∧ t < M k 0 then 1 else 0) M) := by
  refine fp_Ok.of (r := 0) rfl (Nat.le_of_ble_eq_true rfl) rfl ?_
  refine S.iload_n dX1_hasThing_0 rfl rfl rfl ?_
  refine S.if_lt (tgt := 16) dX1_hasThing_1 (by decide) rfl ht (fun h1 => ?_) (fun h1 => ?_)
  · refine S.iconst dX1_hasThing_16 rfl ?_
    refine S.zret dX1_hasThing_17 rfl (by first | exact Or.inl rfl | exact Or.inr rfl | omega) ?_
    refine ⟨?_, rfl⟩
    first | rw [if_pos ⟨by omega, by omega⟩] | rw [if_neg (by omega)]
  · refine S.iload_n dX1_hasThing_4 rfl rfl rfl ?_
    refine S.aload_n dX1_hasThing_5 rfl rfl rfl ?_
    refine S.getI dX1_hasThing_6 rfl fX1_25 (gd_lay hk) ?_
    refine S.icmp_ge (tgt := 16) dX1_hasThing_9 (by decide) rfl ht hm (fun h9 => ?_) (fun h9 => ?_)
    · refine S.iconst dX1_hasThing_16 rfl ?_
      refine S.zret dX1_hasThing_17 rfl (by first | exact Or.inl rfl | exact Or.inr rfl | omega) ?_
      refine ⟨?_, rfl⟩
      first | rw [if_pos ⟨by omega, by omega⟩] | rw [if_neg (by omega)]
    · refine S.iconst dX1_hasThing_12 rfl ?_
      refine S.goto (pc' := 17) dX1_hasThing_13 (by decide) ?_
      refine S.zret dX1_hasThing_17 rfl (by first | exact Or.inl rfl | exact Or.inr rfl | omega) ?_
      refine ⟨?_, rfl⟩
      first | rw [if_pos ⟨by omega, by omega⟩] | rw [if_neg (by omega)]
theorem ok_X1_hasLine {k : Nat} {t : Int} (hk : fp_isgd k) (ht : fp_rng t := by first | assumption | (unfold fp_rng; omega)) (hm : fp_rng (M k 1) := by first | assumption | (unfold fp_rng; omega)) : fp_Ok l G 0 kX1_hasLine [rV G k, iV t] M (qE (if 0 ≤ t ∧ t < M k 1 then 1 else 0) M) := by
  refine fp_Ok.of (r := 0) rfl (Nat.le_of_ble_eq_true rfl) rfl ?_
  refine S.iload_n dX1_hasLine_0 rfl rfl rfl ?_
  refine S.if_lt (tgt := 16) dX1_hasLine_1 (by decide) rfl ht (fun h1 => ?_) (fun h1 => ?_)
  · refine S.iconst dX1_hasLine_16 rfl ?_
    refine S.zret dX1_hasLine_17 rfl (by first | exact Or.inl rfl | exact Or.inr rfl | omega) ?_
    refine ⟨?_, rfl⟩
    first | rw [if_pos ⟨by omega, by omega⟩] | rw [if_neg (by omega)]
  · refine S.iload_n dX1_hasLine_4 rfl rfl rfl ?_
    refine S.aload_n dX1_hasLine_5 rfl rfl rfl ?_
    refine S.getI dX1_hasLine_6 rfl fX1_28 (gd_lay hk) ?_
    refine S.icmp_ge (tgt := 16) dX1_hasLine_9 (by decide) rfl ht hm (fun h9 => ?_) (fun h9 => ?_)
    · refine S.iconst dX1_hasLine_16 rfl ?_
      refine S.zret dX1_hasLine_17 rfl (by first | exact Or.inl rfl | exact Or.inr rfl | omega) ?_
      refine ⟨?_, rfl⟩
      first | rw [if_pos ⟨by omega, by omega⟩] | rw [if_neg (by omega)]
    · refine S.iconst dX1_hasLine_12 rfl ?_
      refine S.goto (pc' := 17) dX1_hasLine_13 (by decide) ?_
      refine S.zret dX1_hasLine_17 rfl (by first | exact Or.inl rfl | exact Or.inr rfl | omega) ?_
      refine ⟨?_, rfl⟩
      first | rw [if_pos ⟨by omega, by omega⟩] | rw [if_neg (by omega)]
theorem ok_X1_valueTo {k : Nat} {p t : Int} (hk : fp_isgd k) (hp : 0 ≤ p ∧ p < 4 := by first | assumption | omega) (ht : 0 ≤ t ∧ t ≤ 10 := by first | assumption | omega) : fp_Ok l G 0 kX1_valueTo [rV G k, iV p, iV t] M (qE (M (k + 2) (t * 4 + p).toNat) M) := by
  refine fp_Ok.of (r := 0) rfl (Nat.le_of_ble_eq_true rfl) rfl ?_
  refine S.aload_n dX1_valueTo_0 rfl rfl rfl ?_
  refine S.getR dX1_valueTo_1 rfl fX1_19 (gd_lay hk) (gd_r4 hk) ?_
  refine S.iload_n dX1_valueTo_4 rfl rfl rfl ?_
  refine S.iconst dX1_valueTo_5 rfl ?_
  refine S.imul dX1_valueTo_6 rfl ?_
  refine S.iload_n dX1_valueTo_7 rfl rfl rfl ?_
  refine S.iadd dX1_valueTo_8 rfl ?_
  refine S.iald dX1_valueTo_9 rfl (gd_a4 hk) (by omega) (by omega) ?_
  refine S.iret dX1_valueTo_10 rfl ?_
  exact ⟨rfl, rfl⟩
theorem gs_loop {kg kr len : Nat} {kind fr lie : Int} (hg : fp_isgd kg) (hr : fp_lay kr = (1, len)) (h1 : 0 ≤ fr) (h2 : fr + lie ≤ len) (hl : lie ≤ 100)
    (hrow : ∀ i : Int, 0 ≤ i → i < lie → 0 ≤ M kr (fr + i).toNat ∧ M kr (fr + i).toNat ≤ 10) (hw : ∀ i : Int, 0 ≤ i → i < 11 → 0 ≤ M (kg + 1) i.toNat ∧ M (kg + 1) i.toNat ≤ 100) : ∀ (n : Nat) (i b : Int), (lie - i).toNat < n → 1 ≤ i → i ≤ lie → b = fp_am (fun i => M (kg + 1) (M kr (fr + i).toNat).toNat) (i - 1).toNat →
    fp_S l G 0 kX11_givenSpot 22 [some (rV G kg), some (iV kind), some (rV G kr), some (iV fr), some (iV lie), some (iV b), some (iV i)] [] M (qE (fp_am (fun i => M (kg + 1) (M kr (fr + i).toNat).toNat) (lie - 1).toNat) M) := by
  intro n
  induction n with
  | zero => intro i b h; omega
  | succ n ih =>
    intro i b h hi1 hi2 hb
    have hbb := fp_am_le (fun i => M (kg + 1) (M kr (fr + i).toNat).toNat) (i - 1).toNat
    rw [← hb] at hbb
    refine S.iload dX11_givenSpot_22 rfl rfl ?_
    refine S.iload dX11_givenSpot_24 rfl rfl ?_
    refine S.icmp_ge (tgt := 64) dX11_givenSpot_26 (by decide) rfl (by unfold fp_rng; omega) (by unfold fp_rng; omega) (fun h26 => ?_) (fun h26 => ?_)
    · refine S.iload dX11_givenSpot_64 rfl rfl ?_
      refine S.iret dX11_givenSpot_66 rfl ?_
      refine ⟨?_, rfl⟩
      rw [hb, show lie = i by omega]
    · have r1 := hrow i (by omega) (by omega)
      have r2 := hrow b (by omega) (by omega)
      have w1 := hw _ r1.1 (by omega)
      have w2 := hw _ r2.1 (by omega)
      have es := fp_am_succ (w := fun i => M (kg + 1) (M kr (fr + i).toNat).toNat) hi1
      refine S.aload_n dX11_givenSpot_29 rfl rfl rfl ?_
      refine S.getR dX11_givenSpot_30 rfl fX11_134 (gd_lay hg) (gd_r3 hg) ?_
      refine S.aload_n dX11_givenSpot_33 rfl rfl rfl ?_
      refine S.iload_n dX11_givenSpot_34 rfl rfl rfl ?_
      refine S.iload dX11_givenSpot_35 rfl rfl ?_
      refine S.iadd dX11_givenSpot_37 rfl ?_
      refine S.iald dX11_givenSpot_38 rfl hr (by omega) (by omega) ?_
      refine S.iald dX11_givenSpot_39 rfl (gd_a3 hg) (by omega) (by omega) ?_
      refine S.aload_n dX11_givenSpot_40 rfl rfl rfl ?_
      refine S.getR dX11_givenSpot_41 rfl fX11_134 (gd_lay hg) (gd_r3 hg) ?_
      refine S.aload_n dX11_givenSpot_44 rfl rfl rfl ?_
      refine S.iload_n dX11_givenSpot_45 rfl rfl rfl ?_
      refine S.iload dX11_givenSpot_46 rfl rfl ?_
      refine S.iadd dX11_givenSpot_48 rfl ?_
      refine S.iald dX11_givenSpot_49 rfl hr (by omega) (by omega) ?_
      refine S.iald dX11_givenSpot_50 rfl (gd_a3 hg) (by omega) (by omega) ?_
      refine S.icmp_ge (tgt := 58) dX11_givenSpot_51 (by decide) rfl (by unfold fp_rng; omega) (by unfold fp_rng; omega) (fun h51 => ?_) (fun h51 => ?_)
      · refine S.iinc (LL' := [_, _, _, _, _, _, _]) dX11_givenSpot_58 rfl (by decide) rfl rfl rfl ?_
        refine S.goto (pc' := 22) dX11_givenSpot_61 (by decide) ?_
        refine ih _ _ (by omega) (by omega) (by omega) ?_
        rw [show i + 1 - 1 = i by omega, es, ← hb]
        first | rw [if_pos (by omega)] | rw [if_neg (by omega)]
      · refine S.iload dX11_givenSpot_54 rfl rfl ?_
        refine S.istore (LL' := [_, _, _, _, _, _, _]) dX11_givenSpot_56 rfl (by decide) rfl rfl ?_
        refine S.iinc (LL' := [_, _, _, _, _, _, _]) dX11_givenSpot_58 rfl (by decide) rfl rfl rfl ?_
        refine S.goto (pc' := 22) dX11_givenSpot_61 (by decide) ?_
        refine ih _ _ (by omega) (by omega) (by omega) ?_
        rw [show i + 1 - 1 = i by omega, es, ← hb]
        first | rw [if_pos (by omega)] | rw [if_neg (by omega)]
theorem ok_X11_givenSpot {kg kr len : Nat} {kind fr lie : Int} (hg : fp_isgd kg) (hr : fp_lay kr = (1, len)) (hk : fp_rng kind := by first | assumption | (unfold fp_rng; omega)) (h1 : 0 ≤ fr := by omega) (h2 : fr + lie ≤ len := by omega) (hl : lie ≤ 100 := by omega) (hl1 : 1 ≤ lie := by omega)
    (hrow : ∀ i : Int, 0 ≤ i → i < lie → 0 ≤ M kr (fr + i).toNat ∧ M kr (fr + i).toNat ≤ 10 := by assumption) (hw : ∀ i : Int, 0 ≤ i → i < 11 → 0 ≤ M (kg + 1) i.toNat ∧ M (kg + 1) i.toNat ≤ 100 := by assumption) : fp_Ok l G 0 kX11_givenSpot [rV G kg, iV kind, rV G kr, iV fr, iV lie] M (qE (fp_giv kind (fun i => M (kg + 1) (M kr (fr + i).toNat).toNat) lie) M) := by
  refine fp_Ok.of (r := 2) rfl (Nat.le_of_ble_eq_true rfl) rfl ?_
  unfold fp_giv
  refine S.iload_n dX11_givenSpot_0 rfl rfl rfl ?_
  refine S.if_ne (tgt := 6) dX11_givenSpot_1 (by decide) rfl hk (fun h1_ => ?_) (fun h1_ => ?_)
  · refine S.iload_n dX11_givenSpot_6 rfl rfl rfl ?_
    refine S.iconst dX11_givenSpot_7 rfl ?_
    refine S.icmp_ne (tgt := 16) dX11_givenSpot_8 (by decide) rfl hk (by unfold fp_rng; omega) (fun h8 => ?_) (fun h8 => ?_)
    · refine S.iconst dX11_givenSpot_16 rfl ?_
      refine S.istore (LL' := [_, _, _, _, _, _, _]) dX11_givenSpot_17 rfl (by decide) rfl rfl ?_
      refine S.iconst dX11_givenSpot_19 rfl ?_
      refine S.istore (LL' := [_, _, _, _, _, _, _]) dX11_givenSpot_20 rfl (by decide) rfl rfl ?_
      rw [if_neg h1_, if_neg h8]
      exact gs_loop hg hr h1 h2 hl hrow hw (lie.toNat + 1) 1 0 (by omega) (by omega) (by omega) rfl
    · refine S.iload dX11_givenSpot_11 rfl rfl ?_
      refine S.iconst dX11_givenSpot_13 rfl ?_
      refine S.isub dX11_givenSpot_14 rfl ?_
      refine S.iret dX11_givenSpot_15 rfl ?_
      exact ⟨by rw [if_neg h1_, if_pos h8], rfl⟩
  · refine S.iconst dX11_givenSpot_4 rfl ?_
    refine S.iret dX11_givenSpot_5 rfl ?_
    exact ⟨by rw [if_pos h1_], rfl⟩
end LEAF
end
section
/-! Arrays.fill; searches and sums -/
/-- the first of i, i + 1 .. (n of them) at which f is t -/
def fp_find (f : Int → Int) (t : Int) : Nat → Int → Int
  | 0, _ => -4
  | n + 1, i => if f i = t then i else fp_find f t n (i + 1)
def fp_sum (f : Int → Int) : Nat → Int
  | 0 => 0
  | n + 1 => fp_sum f n + f n
/-- bits of those whose w is p -/
def fp_hb (w : Int → Int) (p : Int) : Nat → Int
  | 0 => 0
  | n + 1 => if w n = p then fp_or (fp_hb w p n) (2 ^ n) else fp_hb w p n
theorem fp_hb_lt (w : Int → Int) (p : Int) : ∀ n : Nat, 0 ≤ fp_hb w p n ∧ fp_hb w p n < 2 ^ n
  | 0 => by unfold fp_hb; decide
  | n + 1 => by
    have h := fp_hb_lt w p n
    have h2 : (2 : Int) ^ (n + 1) = 2 * 2 ^ n := by rw [Int.pow_succ]; omega
    have h3 : (0 : Int) < 2 ^ n := Int.pow_pos (by decide)
    unfold fp_hb
    split
    · exact ⟨fp_or_nn _ _, fp_or_lt (by omega) (by omega)⟩
    · omega
theorem fp_hb_succ {w : Int → Int} {p i : Int} (h : 0 ≤ i) : fp_hb w p (i + 1).toNat = if w i = p then fp_or (fp_hb w p i.toNat) (2 ^ i.toNat) else fp_hb w p i.toNat := by
  have e1 : (i + 1).toNat = i.toNat + 1 := by omega
  rw [e1]
  show (if w ((i.toNat : Nat) : Int) = p then _ else _) = _
  rw [Int.toNat_of_nonneg h]
theorem fp_sum_succ {f : Int → Int} {i : Int} (h : 0 ≤ i) : fp_sum f (i + 1).toNat = fp_sum f i.toNat + f i := by
  have e1 : (i + 1).toNat = i.toNat + 1 := by omega
  rw [e1]
  show fp_sum f i.toNat + f ((i.toNat : Nat) : Int) = _
  rw [Int.toNat_of_nonneg h]
theorem fp_pow_le {i : Int} {n : Nat} (h : i.toNat ≤ n) : (1 : Int) ≤ 2 ^ i.toNat ∧ (2 : Int) ^ i.toNat ≤ 2 ^ n := by
  have h1 : (0 : Int) < 2 ^ i.toNat := Int.pow_pos (by decide)
  refine ⟨by omega, ?_⟩
  have h2 := Nat.pow_le_pow_right (n := 2) (by decide) h
  exact_mod_cast h2
theorem fp_up_same (M : fp_Mem) (k i : Nat) (f : Nat → Int) (z : Int) : fp_up (fp_upM M k f) k i z = fp_upM M k (fp_upf f i z) := by
  unfold fp_up
  rw [fp_upM_at, fp_upM_upM]
theorem fp_up_at (M : fp_Mem) (k i : Nat) (z : Int) : fp_up M k i z k = fp_upf (M k) i z := fp_upM_at _ _ _
theorem fp_up_ne {M : fp_Mem} {a k i : Nat} {z : Int} (h : a ≠ k) : fp_up M k i z a = M a := fp_upM_ne h
section ARR
variable {l : Launch} {G : fp_WG} {M : fp_Mem}
theorem fill_loop {a len : Nat} {v : Int} (ha : fp_lay a = (1, len)) (hp : 0 < len) (hv : len ≤ 1000) : ∀ (n : Nat) (i : Int) (N : fp_Mem), ((len : Int) - i).toNat < n → 0 ≤ i → i ≤ len → N = fp_upM M a (fun j => if (j : Int) < i then v else M a j) →
    fp_S l G 0 kJ7_fill_53178 5 [some (rV G a), some (iV v), some (iV i), some (iV (len : Int))] [] N (qW (fp_upM M a (fun j => if (j : Int) < len then v else M a j))) := by
  intro n
  induction n with
  | zero => intro i N h; omega
  | succ n ih =>
    intro i N h h0 h1 hN
    refine S.iload_n dJ7_fill_53178_5 rfl rfl rfl ?_
    refine S.iload_n dJ7_fill_53178_6 rfl rfl rfl ?_
    refine S.icmp_ge (tgt := 20) dJ7_fill_53178_7 (by decide) rfl (by unfold fp_rng; omega) (by unfold fp_rng; omega) (fun h7 => ?_) (fun h7 => ?_)
    · refine S.vret dJ7_fill_53178_20 rfl ?_
      show N = _
      rw [hN, show i = (len : Int) by omega]
    · refine S.aload_n dJ7_fill_53178_10 rfl rfl rfl ?_
      refine S.iload_n dJ7_fill_53178_11 rfl rfl rfl ?_
      refine S.iload_n dJ7_fill_53178_12 rfl rfl rfl ?_
      refine S.iast dJ7_fill_53178_13 rfl ha (by omega) (by omega) ?_
      refine S.iinc (LL' := [_, _, _, _]) dJ7_fill_53178_14 rfl (by decide) rfl rfl rfl ?_
      refine S.goto (pc' := 5) dJ7_fill_53178_17 (by decide) ?_
      refine ih _ _ (by omega) (by omega) (by omega) ?_
      rw [hN, fp_up_same]
      refine congrArg (fp_upM M a) (funext fun j => ?_)
      unfold fp_upf
      by_cases hj : j = i.toNat
      · rw [if_pos hj, if_pos (by omega)]
      · rw [if_neg hj]
        dsimp only
        by_cases hj2 : (j : Int) < i
        · rw [if_pos hj2, if_pos (by omega)]
        · rw [if_neg hj2, if_neg (by omega)]
theorem ok_J7_fill_53178 {a len : Nat} {v : Int} (ha : fp_lay a = (1, len)) (hp : 0 < len := by decide) (hv : len ≤ 1000 := by decide) : fp_Ok l G 0 kJ7_fill_53178 [rV G a, iV v] M (qW (fp_upM M a (fun j => if (j : Int) < len then v else M a j))) := by
  refine fp_Ok.of (r := 2) rfl (Nat.le_of_ble_eq_true rfl) rfl ?_
  refine S.iconst dJ7_fill_53178_0 rfl ?_
  refine S.istore_n (LL' := [_, _, _, _]) dJ7_fill_53178_1 rfl (by decide) rfl rfl rfl ?_
  refine S.aload_n dJ7_fill_53178_2 rfl rfl rfl ?_
  refine S.alen dJ7_fill_53178_3 rfl ha (by decide) rfl (by first | assumption | decide) ?_
  refine S.istore_n (LL' := [_, _, _, _]) dJ7_fill_53178_4 rfl (by decide) rfl rfl rfl ?_
  refine fill_loop ha hp hv (len + 1) 0 M (by omega) (by omega) (by omega) ?_
  rw [show (fun j : Nat => if (j : Int) < 0 then v else M a j) = M a from funext fun j => by rw [if_neg (by omega)], fp_upM_self]
end ARR
end
section
/-! PLACES, outright: rows k + 1 (where), k + 2 (putBy), k + 3 (size), k + 4 (lying) -/
def fp_spl (M : fp_Mem) (k : Nat) (W P S L : Nat → Int) : fp_Mem := fun a => if a = k + 1 then W else if a = k + 2 then P else if a = k + 3 then S else if a = k + 4 then L else M a
theorem fp_spl1 {M : fp_Mem} {k : Nat} {W P S L : Nat → Int} : fp_spl M k W P S L (k + 1) = W := by simp [fp_spl]
theorem fp_spl2 {M : fp_Mem} {k : Nat} {W P S L : Nat → Int} : fp_spl M k W P S L (k + 2) = P := by simp [fp_spl]
theorem fp_spl3 {M : fp_Mem} {k : Nat} {W P S L : Nat → Int} : fp_spl M k W P S L (k + 3) = S := by simp [fp_spl]
theorem fp_spl4 {M : fp_Mem} {k : Nat} {W P S L : Nat → Int} : fp_spl M k W P S L (k + 4) = L := by simp [fp_spl]
theorem fp_splo {M : fp_Mem} {k a : Nat} {W P S L : Nat → Int} (h : a < k + 1 ∨ k + 4 < a) : fp_spl M k W P S L a = M a := by
  unfold fp_spl
  rw [if_neg (by omega), if_neg (by omega), if_neg (by omega), if_neg (by omega)]
/-- what the line gives: its place, the thing -/
def pl_sel (M : fp_Mem) (kg k : Nat) (l : Int) : Int := fp_giv (M (kg + 3) l.toNat) (fun i => M (kg + 1) (M (k + 4) (l * 8 + i).toNat).toNat) (M (k + 3) l.toNat)
def pl_gives (M : fp_Mem) (kg k : Nat) (l : Int) : Int := if M (k + 3) l.toNat = 0 then -4 else M (k + 4) (l * 8 + pl_sel M kg k l).toNat
/-- the memory behind giveTo, where something lies there -/
def pl_give (M : fp_Mem) (kg k : Nat) (p l : Int) : fp_Mem := fp_spl M k
  (fp_upf (M (k + 1)) (pl_gives M kg k l).toNat p) (fp_upf (M (k + 2)) (pl_gives M kg k l).toNat (-4)) (fp_upf (M (k + 3)) l.toNat (M (k + 3) l.toNat - 1))
  (fun j => if l * 8 + pl_sel M kg k l ≤ j ∧ (j : Int) < l * 8 + (M (k + 3) l.toNat - 1) then M (k + 4) (j + 1) else M (k + 4) j)
/-- the memory behind insert, where there is room -/
def pl_ins (M : fp_Mem) (k : Nat) (t l s : Int) : fp_Mem := fp_spl M k
  (fp_upf (M (k + 1)) t.toNat (10 + l)) (fp_upf (M (k + 2)) t.toNat (M (k + 1) t.toNat)) (fp_upf (M (k + 3)) l.toNat (M (k + 3) l.toNat + 1))
  (fun j => if (j : Int) = l * 8 + s then t else if l * 8 + s < j ∧ (j : Int) ≤ l * 8 + M (k + 3) l.toNat then M (k + 4) (j - 1) else M (k + 4) j)
/-- numbers in bounds -/
def pl_ok (M : fp_Mem) (k : Nat) : Prop := (∀ t : Int, 0 ≤ t → t < 10 → -4 ≤ M (k + 1) t.toNat ∧ M (k + 1) t.toNat ≤ 12) ∧ (∀ l : Int, 0 ≤ l → l < 3 → 0 ≤ M (k + 3) l.toNat ∧ M (k + 3) l.toNat ≤ 8) ∧ ∀ i : Int, 0 ≤ i → i < 24 → 0 ≤ M (k + 4) i.toNat ∧ M (k + 4) i.toNat ≤ 9
def gd_ok (M : fp_Mem) (k : Nat) : Prop := (0 ≤ M k 0 ∧ M k 0 ≤ 10) ∧ (0 ≤ M k 1 ∧ M k 1 ≤ 3) ∧ (0 ≤ M k 2 ∧ M k 2 ≤ 10) ∧ (∀ i : Int, 0 ≤ i → i < 11 → 0 ≤ M (k + 1) i.toNat ∧ M (k + 1) i.toNat ≤ 100) ∧ (∀ i : Int, 0 ≤ i → i < 44 → 0 ≤ M (k + 2) i.toNat ∧ M (k + 2) i.toNat ≤ 20) ∧ ∀ l : Int, 0 ≤ l → l < 3 → 0 ≤ M (k + 3) l.toNat ∧ M (k + 3) l.toNat ≤ 2
section PLC
variable {l : Launch} {G : fp_WG} {M : fp_Mem}
theorem held_loop {k : Nat} {p : Int} (hk : fp_ispl k) (ho : pl_ok M k) (hp : fp_rng p) : ∀ (n : Nat) (t : Int), (10 - t).toNat < n → 0 ≤ t → t ≤ 10 →
    fp_S l G 0 kX5_heldBy 4 [some (rV G k), some (iV p), some (iV (fp_hb (fun t => M (k + 1) t.toNat) p t.toNat)), some (iV t)] [] M (qE (fp_hb (fun t => M (k + 1) t.toNat) p 10) M) := by
  intro n
  induction n with
  | zero => intro t h; omega
  | succ n ih =>
    intro t h h0 h1
    have hb := fp_hb_lt (fun t => M (k + 1) t.toNat) p t.toNat
    have es := fp_hb_succ (w := fun t => M (k + 1) t.toNat) (p := p) h0
    refine S.iload_n dX5_heldBy_4 rfl rfl rfl ?_
    refine S.bipush dX5_heldBy_5 rfl (by decide) ?_
    refine S.icmp_ge (tgt := 32) dX5_heldBy_7 (by decide) rfl (by unfold fp_rng; omega) (by unfold fp_rng; omega) (fun h7 => ?_) (fun h7 => ?_)
    · refine S.iload_n dX5_heldBy_32 rfl rfl rfl ?_
      refine S.iret dX5_heldBy_33 rfl ?_
      exact ⟨by rw [show t = 10 by omega]; rfl, rfl⟩
    · have hw := ho.1 t (by omega) (by omega)
      refine S.aload_n dX5_heldBy_10 rfl rfl rfl ?_
      refine S.getR dX5_heldBy_11 rfl fX5_9 (pl_lay hk) (pl_r0 hk) ?_
      refine S.iload_n dX5_heldBy_14 rfl rfl rfl ?_
      refine S.iald dX5_heldBy_15 rfl (pl_a0 hk) (by omega) (by omega) ?_
      refine S.iload_n dX5_heldBy_16 rfl rfl rfl ?_
      refine S.icmp_ne (tgt := 26) dX5_heldBy_17 (by decide) rfl (by unfold fp_rng; omega) hp (fun h17 => ?_) (fun h17 => ?_)
      · refine S.iinc (LL' := [_, _, _, _]) dX5_heldBy_26 rfl (by decide) rfl rfl rfl ?_
        refine S.goto (pc' := 4) dX5_heldBy_29 (by decide) ?_
        first | (rw [if_neg h17] at es; rw [← es]; exact ih _ (by omega) (by omega) (by omega)) | (rw [if_pos h17] at es; rw [← es]; exact ih _ (by omega) (by omega) (by omega))
      · refine S.iload_n dX5_heldBy_20 rfl rfl rfl ?_
        refine S.iconst dX5_heldBy_21 rfl ?_
        refine S.iload_n dX5_heldBy_22 rfl rfl rfl ?_
        refine S.ishl dX5_heldBy_23 rfl (fp_shl1 (by omega) (by omega)) ?_
        refine S.ior dX5_heldBy_24 rfl (fp_ior hb.1 (by have := fp_pow_le (i := t) (n := 10) (by omega); omega)) ?_
        refine S.istore_n (LL' := [_, _, _, _]) dX5_heldBy_25 rfl (by decide) rfl rfl rfl ?_
        refine S.iinc (LL' := [_, _, _, _]) dX5_heldBy_26 rfl (by decide) rfl rfl rfl ?_
        refine S.goto (pc' := 4) dX5_heldBy_29 (by decide) ?_
        first | (rw [if_neg h17] at es; rw [← es]; exact ih _ (by omega) (by omega) (by omega)) | (rw [if_pos h17] at es; rw [← es]; exact ih _ (by omega) (by omega) (by omega))
theorem ok_X5_heldBy {k : Nat} {p : Int} (hk : fp_ispl k) (ho : pl_ok M k := by assumption) (hp : fp_rng p := by first | assumption | (unfold fp_rng; omega)) : fp_Ok l G 0 kX5_heldBy [rV G k, iV p] M (qE (fp_hb (fun t => M (k + 1) t.toNat) p 10) M) := by
  refine fp_Ok.of (r := 2) rfl (Nat.le_of_ble_eq_true rfl) rfl ?_
  refine S.iconst dX5_heldBy_0 rfl ?_
  refine S.istore_n (LL' := [_, _, _, _]) dX5_heldBy_1 rfl (by decide) rfl rfl rfl ?_
  refine S.iconst dX5_heldBy_2 rfl ?_
  refine S.istore_n (LL' := [_, _, _, _]) dX5_heldBy_3 rfl (by decide) rfl rfl rfl ?_
  exact held_loop hk ho hp 11 0 (by omega) (by omega) (by omega)
theorem least_loop {k : Nat} {p : Int} (hk : fp_ispl k) (ho : pl_ok M k) (hp : fp_rng p) : ∀ (n : Nat) (t : Int), (10 - t).toNat = n → 0 ≤ t → t ≤ 10 →
    fp_S l G 0 kX5_leastHeldBy 2 [some (rV G k), some (iV p), some (iV t)] [] M (qE (fp_find (fun t => M (k + 1) t.toNat) p n t) M) := by
  intro n
  induction n with
  | zero =>
    intro t h h0 h1
    refine S.iload_n dX5_leastHeldBy_2 rfl rfl rfl ?_
    refine S.bipush dX5_leastHeldBy_3 rfl (by decide) ?_
    refine S.icmp_ge (tgt := 26) dX5_leastHeldBy_5 (by decide) rfl (by unfold fp_rng; omega) (by unfold fp_rng; omega) (fun h5 => ?_) (fun h5 => ?_)
    · refine S.bipush dX5_leastHeldBy_26 rfl (by decide) ?_
      refine S.iret dX5_leastHeldBy_28 rfl ?_
      exact ⟨rfl, rfl⟩
    · exfalso; omega
  | succ n ih =>
    intro t h h0 h1
    unfold fp_find
    refine S.iload_n dX5_leastHeldBy_2 rfl rfl rfl ?_
    refine S.bipush dX5_leastHeldBy_3 rfl (by decide) ?_
    refine S.icmp_ge (tgt := 26) dX5_leastHeldBy_5 (by decide) rfl (by unfold fp_rng; omega) (by unfold fp_rng; omega) (fun h5 => ?_) (fun h5 => ?_)
    · refine S.bipush dX5_leastHeldBy_26 rfl (by decide) ?_
      refine S.iret dX5_leastHeldBy_28 rfl ?_
      exfalso; omega
    · have hw := ho.1 t (by omega) (by omega)
      refine S.aload_n dX5_leastHeldBy_8 rfl rfl rfl ?_
      refine S.getR dX5_leastHeldBy_9 rfl fX5_9 (pl_lay hk) (pl_r0 hk) ?_
      refine S.iload_n dX5_leastHeldBy_12 rfl rfl rfl ?_
      refine S.iald dX5_leastHeldBy_13 rfl (pl_a0 hk) (by omega) (by omega) ?_
      refine S.iload_n dX5_leastHeldBy_14 rfl rfl rfl ?_
      refine S.icmp_ne (tgt := 20) dX5_leastHeldBy_15 (by decide) rfl (by unfold fp_rng; omega) hp (fun h15 => ?_) (fun h15 => ?_)
      · refine S.iinc (LL' := [_, _, _]) dX5_leastHeldBy_20 rfl (by decide) rfl rfl rfl ?_
        refine S.goto (pc' := 2) dX5_leastHeldBy_23 (by decide) ?_
        rw [if_neg h15]
        exact ih _ (by omega) (by omega) (by omega)
      · refine S.iload_n dX5_leastHeldBy_18 rfl rfl rfl ?_
        refine S.iret dX5_leastHeldBy_19 rfl ?_
        exact ⟨by rw [if_pos h15], rfl⟩
theorem ok_X5_leastHeldBy {k : Nat} {p : Int} (hk : fp_ispl k) (ho : pl_ok M k := by assumption) (hp : fp_rng p := by first | assumption | (unfold fp_rng; omega)) : fp_Ok l G 0 kX5_leastHeldBy [rV G k, iV p] M (qE (fp_find (fun t => M (k + 1) t.toNat) p 10 0) M) := by
  refine fp_Ok.of (r := 1) rfl (Nat.le_of_ble_eq_true rfl) rfl ?_
  refine S.iconst dX5_leastHeldBy_0 rfl ?_
  refine S.istore_n (LL' := [_, _, _]) dX5_leastHeldBy_1 rfl (by decide) rfl rfl rfl ?_
  exact least_loop hk ho hp 10 0 (by omega) (by omega) (by omega)
theorem worth_loop {k kg : Nat} {p : Int} (hk : fp_ispl k) (hg : fp_isgd kg) (ho : pl_ok M k) (hgo : gd_ok M kg) (hp : 0 ≤ p ∧ p < 4) : ∀ (n : Nat) (t : Int), (M kg 0 - t).toNat < n → 0 ≤ t → t ≤ M kg 0 →
    fp_S l G 1 kX5_worthTo 5 [some (rV G k), some (rV G kg), some (iV p), some (iV (fp_sum (fun t => if M (k + 1) t.toNat = p then M (kg + 2) (t * 4 + p).toNat else 0) t.toNat)), some (iV t)] [] M (qE (fp_sum (fun t => if M (k + 1) t.toNat = p then M (kg + 2) (t * 4 + p).toNat else 0) (M kg 0).toNat) M) := by
  intro n
  induction n with
  | zero => intro t h; omega
  | succ n ih =>
    intro t h h0 h1
    have es := fp_sum_succ (f := fun t => if M (k + 1) t.toNat = p then M (kg + 2) (t * 4 + p).toNat else 0) h0
    have hm := hgo.1
    refine S.iload dX5_worthTo_5 rfl rfl ?_
    refine S.aload_n dX5_worthTo_7 rfl rfl rfl ?_
    refine S.getI dX5_worthTo_8 rfl fX5_36 (gd_lay hg) ?_
    refine S.icmp_ge (tgt := 41) dX5_worthTo_11 (by decide) rfl (by unfold fp_rng; omega) (by unfold fp_rng; omega) (fun h11 => ?_) (fun h11 => ?_)
    · refine S.iload_n dX5_worthTo_41 rfl rfl rfl ?_
      refine S.iret dX5_worthTo_42 rfl ?_
      exact ⟨by rw [show t = M kg 0 by omega], rfl⟩
    · have hw := ho.1 t (by omega) (by omega)
      refine S.aload_n dX5_worthTo_14 rfl rfl rfl ?_
      refine S.getR dX5_worthTo_15 rfl fX5_9 (pl_lay hk) (pl_r0 hk) ?_
      refine S.iload dX5_worthTo_18 rfl rfl ?_
      refine S.iald dX5_worthTo_20 rfl (pl_a0 hk) (by omega) (by omega) ?_
      refine S.iload_n dX5_worthTo_21 rfl rfl rfl ?_
      refine S.icmp_ne (tgt := 35) dX5_worthTo_22 (by decide) rfl (by unfold fp_rng; omega) (by unfold fp_rng; omega) (fun h22 => ?_) (fun h22 => ?_)
      · refine S.iinc (LL' := [_, _, _, _, _]) dX5_worthTo_35 rfl (by decide) rfl rfl rfl ?_
        refine S.goto (pc' := 5) dX5_worthTo_38 (by decide) ?_
        first | (rw [if_neg h22] at es; rw [Int.add_zero] at es; rw [← es]; exact ih _ (by omega) (by omega) (by omega)) | (rw [if_pos h22] at es; rw [← es]; exact ih _ (by omega) (by omega) (by omega))
      · refine S.iload_n dX5_worthTo_25 rfl rfl rfl ?_
        refine S.aload_n dX5_worthTo_26 rfl rfl rfl ?_
        refine S.iload_n dX5_worthTo_27 rfl rfl rfl ?_
        refine S.iload dX5_worthTo_28 rfl rfl ?_
        refine S.callVe dX5_worthTo_30 rfl cX5_42 (ok_X1_valueTo hg) rfl (gd_lay hg) (by decide) rfl (Nat.le_of_ble_eq_true rfl) ?_
        refine S.iadd dX5_worthTo_33 rfl ?_
        refine S.istore_n (LL' := [_, _, _, _, _]) dX5_worthTo_34 rfl (by decide) rfl rfl rfl ?_
        refine S.iinc (LL' := [_, _, _, _, _]) dX5_worthTo_35 rfl (by decide) rfl rfl rfl ?_
        refine S.goto (pc' := 5) dX5_worthTo_38 (by decide) ?_
        first | (rw [if_neg h22] at es; rw [Int.add_zero] at es; rw [← es]; exact ih _ (by omega) (by omega) (by omega)) | (rw [if_pos h22] at es; rw [← es]; exact ih _ (by omega) (by omega) (by omega))
theorem ok_X5_worthTo {k kg : Nat} {p : Int} (hk : fp_ispl k) (hg : fp_isgd kg) (ho : pl_ok M k := by assumption) (hgo : gd_ok M kg := by assumption) (hp : 0 ≤ p ∧ p < 4 := by first | assumption | omega) : fp_Ok l G 1 kX5_worthTo [rV G k, rV G kg, iV p] M (qE (fp_sum (fun t => if M (k + 1) t.toNat = p then M (kg + 2) (t * 4 + p).toNat else 0) (M kg 0).toNat) M) := by
  have hm := hgo.1
  refine fp_Ok.of (r := 2) rfl (Nat.le_of_ble_eq_true rfl) rfl ?_
  refine S.iconst dX5_worthTo_0 rfl ?_
  refine S.istore_n (LL' := [_, _, _, _, _]) dX5_worthTo_1 rfl (by decide) rfl rfl rfl ?_
  refine S.iconst dX5_worthTo_2 rfl ?_
  refine S.istore (LL' := [_, _, _, _, _]) dX5_worthTo_3 rfl (by decide) rfl rfl ?_
  exact worth_loop hk hg ho hgo hp ((M kg 0).toNat + 1) 0 (by omega) (by omega) (by omega)
end PLC
end
section
/-! PLACES: spotOf, gives, giveTo, insert, append, clear, copyFrom -/
section PLD
variable {l : Launch} {G : fp_WG} {M : fp_Mem}
theorem spot_loop {k : Nat} {t x : Int} (hk : fp_ispl k) (ho : pl_ok M k) (ht : fp_rng t) (hx : 0 ≤ x ∧ x < 3) : ∀ (n : Nat) (i : Int), (M (k + 3) x.toNat - i).toNat = n → 0 ≤ i → i ≤ M (k + 3) x.toNat →
    fp_S l G 0 kX5_spotOf 24 [some (rV G k), some (iV t), some (iV x), some (iV i)] [] M (qE (fp_find (fun i => M (k + 4) (x * 8 + i).toNat) t n i) M) := by
  intro n
  have hs := ho.2.1 x hx.1 hx.2
  induction n with
  | zero =>
    intro i h h0 h1
    refine S.iload_n dX5_spotOf_24 rfl rfl rfl ?_
    refine S.aload_n dX5_spotOf_25 rfl rfl rfl ?_
    refine S.getR dX5_spotOf_26 rfl fX5_18 (pl_lay hk) (pl_r2 hk) ?_
    refine S.iload_n dX5_spotOf_29 rfl rfl rfl ?_
    refine S.iald dX5_spotOf_30 rfl (pl_a2 hk) (by omega) (by omega) ?_
    refine S.icmp_ge (tgt := 57) dX5_spotOf_31 (by decide) rfl (by unfold fp_rng; omega) (by unfold fp_rng; omega) (fun h31 => ?_) (fun h31 => ?_)
    · refine S.bipush dX5_spotOf_57 rfl (by decide) ?_
      refine S.iret dX5_spotOf_59 rfl ?_
      exact ⟨rfl, rfl⟩
    · exfalso; omega
  | succ n ih =>
    intro i h h0 h1
    unfold fp_find
    refine S.iload_n dX5_spotOf_24 rfl rfl rfl ?_
    refine S.aload_n dX5_spotOf_25 rfl rfl rfl ?_
    refine S.getR dX5_spotOf_26 rfl fX5_18 (pl_lay hk) (pl_r2 hk) ?_
    refine S.iload_n dX5_spotOf_29 rfl rfl rfl ?_
    refine S.iald dX5_spotOf_30 rfl (pl_a2 hk) (by omega) (by omega) ?_
    refine S.icmp_ge (tgt := 57) dX5_spotOf_31 (by decide) rfl (by unfold fp_rng; omega) (by unfold fp_rng; omega) (fun h31 => ?_) (fun h31 => ?_)
    · refine S.bipush dX5_spotOf_57 rfl (by decide) ?_
      refine S.iret dX5_spotOf_59 rfl ?_
      exfalso; omega
    · have hw := ho.2.2 (x * 8 + i) (by omega) (by omega)
      refine S.aload_n dX5_spotOf_34 rfl rfl rfl ?_
      refine S.getR dX5_spotOf_35 rfl fX5_21 (pl_lay hk) (pl_r3 hk) ?_
      refine S.iload_n dX5_spotOf_38 rfl rfl rfl ?_
      refine S.bipush dX5_spotOf_39 rfl (by decide) ?_
      refine S.imul dX5_spotOf_41 rfl ?_
      refine S.iload_n dX5_spotOf_42 rfl rfl rfl ?_
      refine S.iadd dX5_spotOf_43 rfl ?_
      refine S.iald dX5_spotOf_44 rfl (pl_a3 hk) (by omega) (by omega) ?_
      refine S.iload_n dX5_spotOf_45 rfl rfl rfl ?_
      refine S.icmp_ne (tgt := 51) dX5_spotOf_46 (by decide) rfl (by unfold fp_rng; omega) ht (fun h46 => ?_) (fun h46 => ?_)
      · refine S.iinc (LL' := [_, _, _, _]) dX5_spotOf_51 rfl (by decide) rfl rfl rfl ?_
        refine S.goto (pc' := 24) dX5_spotOf_54 (by decide) ?_
        rw [if_neg h46]
        exact ih _ (by omega) (by omega) (by omega)
      · refine S.iload_n dX5_spotOf_49 rfl rfl rfl ?_
        refine S.iret dX5_spotOf_50 rfl ?_
        exact ⟨by rw [if_pos h46], rfl⟩
def pl_spot (M : fp_Mem) (k : Nat) (t : Int) : Int := if 0 ≤ M (k + 1) t.toNat - 10 ∧ M (k + 1) t.toNat - 10 < 3 then fp_find (fun i => M (k + 4) ((M (k + 1) t.toNat - 10) * 8 + i).toNat) t (M (k + 3) (M (k + 1) t.toNat - 10).toNat).toNat 0 else -4
theorem ok_X5_spotOf {k : Nat} {t : Int} (hk : fp_ispl k) (ho : pl_ok M k := by assumption) (ht : 0 ≤ t ∧ t < 10 := by first | assumption | omega) : fp_Ok l G 0 kX5_spotOf [rV G k, iV t] M (qE (pl_spot M k t) M) := by
  have hw := ho.1 t ht.1 ht.2
  unfold pl_spot
  refine fp_Ok.of (r := 2) rfl (Nat.le_of_ble_eq_true rfl) rfl ?_
  refine S.aload_n dX5_spotOf_0 rfl rfl rfl ?_
  refine S.getR dX5_spotOf_1 rfl fX5_9 (pl_lay hk) (pl_r0 hk) ?_
  refine S.iload_n dX5_spotOf_4 rfl rfl rfl ?_
  refine S.iald dX5_spotOf_5 rfl (pl_a0 hk) (by omega) (by omega) ?_
  refine S.bipush dX5_spotOf_6 rfl (by decide) ?_
  refine S.isub dX5_spotOf_8 rfl ?_
  refine S.istore_n (LL' := [_, _, _, _]) dX5_spotOf_9 rfl (by decide) rfl rfl rfl ?_
  refine S.iload_n dX5_spotOf_10 rfl rfl rfl ?_
  refine S.if_lt (tgt := 19) dX5_spotOf_11 (by decide) rfl (by unfold fp_rng; omega) (fun h11 => ?_) (fun h11 => ?_)
  · refine S.bipush dX5_spotOf_19 rfl (by decide) ?_
    refine S.iret dX5_spotOf_21 rfl ?_
    exact ⟨by rw [if_neg (by omega)], rfl⟩
  · refine S.iload_n dX5_spotOf_14 rfl rfl rfl ?_
    refine S.iconst dX5_spotOf_15 rfl ?_
    refine S.icmp_lt (tgt := 22) dX5_spotOf_16 (by decide) rfl (by unfold fp_rng; omega) (by unfold fp_rng; omega) (fun h16 => ?_) (fun h16 => ?_)
    · refine S.iconst dX5_spotOf_22 rfl ?_
      refine S.istore_n (LL' := [_, _, _, _]) dX5_spotOf_23 rfl (by decide) rfl rfl rfl ?_
      rw [if_pos ⟨by omega, by omega⟩]
      have hs := ho.2.1 (M (k + 1) t.toNat - 10) (by omega) (by omega)
      exact spot_loop hk ho (by unfold fp_rng; omega) ⟨by omega, by omega⟩ _ 0 (by omega) (by omega) (by omega)
    · refine S.bipush dX5_spotOf_19 rfl (by decide) ?_
      refine S.iret dX5_spotOf_21 rfl ?_
      exact ⟨by rw [if_neg (by omega)], rfl⟩
theorem pl_row {k : Nat} {x : Int} (ho : pl_ok M k) (hx : 0 ≤ x ∧ x < 3) : ∀ i : Int, 0 ≤ i → i < M (k + 3) x.toNat → 0 ≤ M (k + 4) (x * 8 + i).toNat ∧ M (k + 4) (x * 8 + i).toNat ≤ 10 := by
  intro i h0 h1
  have hs := ho.2.1 x hx.1 hx.2
  have := ho.2.2 (x * 8 + i) (by omega) (by omega)
  omega
theorem ok_X5_gives {k kg : Nat} {x : Int} (hk : fp_ispl k) (hg : fp_isgd kg) (ho : pl_ok M k := by assumption) (hgo : gd_ok M kg := by assumption) (hx : 0 ≤ x ∧ x < 3 := by first | assumption | omega) : fp_Ok l G 1 kX5_gives [rV G k, rV G kg, iV x] M (qE (pl_gives M kg k x) M) := by
  have hs := ho.2.1 x hx.1 hx.2
  have hkd := hgo.2.2.2.2.2 x hx.1 hx.2
  have hrow := pl_row ho hx
  have hw := hgo.2.2.2.1
  unfold pl_gives
  refine fp_Ok.of (r := 0) rfl (Nat.le_of_ble_eq_true rfl) rfl ?_
  refine S.aload_n dX5_gives_0 rfl rfl rfl ?_
  refine S.getR dX5_gives_1 rfl fX5_18 (pl_lay hk) (pl_r2 hk) ?_
  refine S.iload_n dX5_gives_4 rfl rfl rfl ?_
  refine S.iald dX5_gives_5 rfl (pl_a2 hk) (by omega) (by omega) ?_
  refine S.if_ne (tgt := 12) dX5_gives_6 (by decide) rfl (by unfold fp_rng; omega) (fun h6 => ?_) (fun h6 => ?_)
  · refine S.aload_n dX5_gives_12 rfl rfl rfl ?_
    refine S.getR dX5_gives_13 rfl fX5_21 (pl_lay hk) (pl_r3 hk) ?_
    refine S.iload_n dX5_gives_16 rfl rfl rfl ?_
    refine S.bipush dX5_gives_17 rfl (by decide) ?_
    refine S.imul dX5_gives_19 rfl ?_
    refine S.aload_n dX5_gives_20 rfl rfl rfl ?_
    refine S.aload_n dX5_gives_21 rfl rfl rfl ?_
    refine S.getR dX5_gives_22 rfl fX5_46 (gd_lay hg) (gd_r5 hg) ?_
    refine S.iload_n dX5_gives_25 rfl rfl rfl ?_
    refine S.iald dX5_gives_26 rfl (gd_a5 hg) (by omega) (by omega) ?_
    refine S.aload_n dX5_gives_27 rfl rfl rfl ?_
    refine S.getR dX5_gives_28 rfl fX5_21 (pl_lay hk) (pl_r3 hk) ?_
    refine S.iload_n dX5_gives_31 rfl rfl rfl ?_
    refine S.bipush dX5_gives_32 rfl (by decide) ?_
    refine S.imul dX5_gives_34 rfl ?_
    refine S.aload_n dX5_gives_35 rfl rfl rfl ?_
    refine S.getR dX5_gives_36 rfl fX5_18 (pl_lay hk) (pl_r2 hk) ?_
    refine S.iload_n dX5_gives_39 rfl rfl rfl ?_
    refine S.iald dX5_gives_40 rfl (pl_a2 hk) (by omega) (by omega) ?_
    refine S.callSNe dX5_gives_41 rfl cX5_49 (ok_X11_givenSpot hg (pl_a3 hk)) rfl (by decide) rfl (Nat.le_of_ble_eq_true rfl) ?_
    refine S.iadd dX5_gives_44 rfl ?_
    have hsel : 0 ≤ pl_sel M kg k x ∧ pl_sel M kg k x < M (k + 3) x.toNat := fp_giv_in (by omega)
    refine S.iald dX5_gives_45 rfl (pl_a3 hk) (by show 0 ≤ x * 8 + pl_sel M kg k x; omega) (by show x * 8 + pl_sel M kg k x < 24; omega) ?_
    refine S.iret dX5_gives_46 rfl ?_
    exact ⟨by rw [if_neg h6]; rfl, rfl⟩
  · refine S.bipush dX5_gives_9 rfl (by decide) ?_
    refine S.iret dX5_gives_11 rfl ?_
    exact ⟨by rw [if_pos h6], rfl⟩
theorem give_loop {k kg : Nat} {p x s : Int} (hk : fp_ispl k) (hg : fp_isgd kg) (ho : pl_ok M k) (hx : 0 ≤ x ∧ x < 3) (hs0 : 0 ≤ s) (hs1 : s < M (k + 3) x.toNat) (hp : fp_rng p) (ht : 0 ≤ M (k + 4) (x * 8 + s).toNat ∧ M (k + 4) (x * 8 + s).toNat ≤ 9) (L1 : Nat → Int) (hL1 : L1 = fun j : Nat => if x * 8 + s ≤ j ∧ (j : Int) < x * 8 + (M (k + 3) x.toNat - 1) then M (k + 4) (j + 1) else M (k + 4) j) : ∀ (n : Nat) (i : Int) (N : fp_Mem), (M (k + 3) x.toNat - i).toNat < n → s ≤ i → i ≤ M (k + 3) x.toNat - 1 → N = fp_upM (fp_up M (k + 3) x.toNat (M (k + 3) x.toNat - 1)) (k + 4) (fun j : Nat => if x * 8 + s ≤ j ∧ (j : Int) < x * 8 + i then M (k + 4) (j + 1) else M (k + 4) j) →
    fp_S l G 1 kX5_giveTo 68 [some (rV G k), some (rV G kg), some (iV p), some (iV x), some (iV (x * 8)), some (iV s), some (iV (M (k + 4) (x * 8 + s).toNat)), some (iV i)] [] N (qE (M (k + 4) (x * 8 + s).toNat) (fp_spl M k (fp_upf (M (k + 1)) (M (k + 4) (x * 8 + s).toNat).toNat p) (fp_upf (M (k + 2)) (M (k + 4) (x * 8 + s).toNat).toNat (-4)) (fp_upf (M (k + 3)) x.toNat (M (k + 3) x.toNat - 1)) L1)) := by
  intro n
  have hsz := ho.2.1 x hx.1 hx.2
  induction n with
  | zero => intro i N h; omega
  | succ n ih =>
    intro i N h h0 h1 hN
    have e3 : N (k + 3) x.toNat = M (k + 3) x.toNat - 1 := by rw [hN, fp_upM_ne (by omega), fp_up_at, fp_upf_at]
    have e4 : N (k + 4) = fun j : Nat => if x * 8 + s ≤ j ∧ (j : Int) < x * 8 + i then M (k + 4) (j + 1) else M (k + 4) j := by rw [hN, fp_upM_at]
    have e1 : N (k + 1) = M (k + 1) := by rw [hN, fp_upM_ne (by omega), fp_up_ne (by omega)]
    have e2 : N (k + 2) = M (k + 2) := by rw [hN, fp_upM_ne (by omega), fp_up_ne (by omega)]
    refine S.iload dX5_giveTo_68 rfl rfl ?_
    refine S.aload_n dX5_giveTo_70 rfl rfl rfl ?_
    refine S.getR dX5_giveTo_71 rfl fX5_18 (pl_lay hk) (pl_r2 hk) ?_
    refine S.iload_n dX5_giveTo_74 rfl rfl rfl ?_
    refine S.iald dX5_giveTo_75 rfl (pl_a2 hk) (by omega) (by omega) ?_
    refine S.icmp_ge (tgt := 107) dX5_giveTo_76 (by decide) rfl (by unfold fp_rng; omega) (by unfold fp_rng; omega) (fun h76 => ?_) (fun h76 => ?_)
    · refine S.aload_n dX5_giveTo_107 rfl rfl rfl ?_
      refine S.getR dX5_giveTo_108 rfl fX5_9 (pl_lay hk) (pl_r0 hk) ?_
      refine S.iload dX5_giveTo_111 rfl rfl ?_
      refine S.iload_n dX5_giveTo_113 rfl rfl rfl ?_
      refine S.iast dX5_giveTo_114 rfl (pl_a0 hk) (by omega) (by omega) ?_
      refine S.aload_n dX5_giveTo_115 rfl rfl rfl ?_
      refine S.getR dX5_giveTo_116 rfl fX5_15 (pl_lay hk) (pl_r1 hk) ?_
      refine S.iload dX5_giveTo_119 rfl rfl ?_
      refine S.bipush dX5_giveTo_121 rfl (by decide) ?_
      refine S.iast dX5_giveTo_123 rfl (pl_a1 hk) (by omega) (by omega) ?_
      refine S.iload dX5_giveTo_124 rfl rfl ?_
      refine S.iret dX5_giveTo_126 rfl ?_
      refine ⟨rfl, ?_⟩
      funext a
      unfold fp_spl
      by_cases a2 : a = k + 2
      · subst a2; rw [fp_up_at, if_neg (by omega), if_pos rfl, fp_up_ne (by omega), e2]
      · rw [fp_up_ne a2]
        by_cases a1 : a = k + 1
        · subst a1; rw [fp_up_at, if_pos rfl, e1]
        · rw [fp_up_ne a1, if_neg a1, if_neg a2, hN]
          by_cases a4 : a = k + 4
          · subst a4; rw [fp_upM_at, if_neg (by omega), if_pos rfl, hL1, show i = M (k + 3) x.toNat - 1 by omega]
          · rw [fp_upM_ne a4]
            by_cases a3 : a = k + 3
            · subst a3; rw [fp_up_at, if_pos rfl]
            · rw [fp_up_ne a3, if_neg a3, if_neg a4]
    · refine S.aload_n dX5_giveTo_79 rfl rfl rfl ?_
      refine S.getR dX5_giveTo_80 rfl fX5_21 (pl_lay hk) (pl_r3 hk) ?_
      refine S.iload dX5_giveTo_83 rfl rfl ?_
      refine S.iload dX5_giveTo_85 rfl rfl ?_
      refine S.iadd dX5_giveTo_87 rfl ?_
      refine S.aload_n dX5_giveTo_88 rfl rfl rfl ?_
      refine S.getR dX5_giveTo_89 rfl fX5_21 (pl_lay hk) (pl_r3 hk) ?_
      refine S.iload dX5_giveTo_92 rfl rfl ?_
      refine S.iload dX5_giveTo_94 rfl rfl ?_
      refine S.iadd dX5_giveTo_96 rfl ?_
      refine S.iconst dX5_giveTo_97 rfl ?_
      refine S.iadd dX5_giveTo_98 rfl ?_
      refine S.iald dX5_giveTo_99 rfl (pl_a3 hk) (by omega) (by omega) ?_
      refine S.iast dX5_giveTo_100 rfl (pl_a3 hk) (by omega) (by omega) ?_
      refine S.iinc (LL' := [_, _, _, _, _, _, _, _]) dX5_giveTo_101 rfl (by decide) rfl rfl rfl ?_
      refine S.goto (pc' := 68) dX5_giveTo_104 (by decide) ?_
      refine ih _ _ (by omega) (by omega) (by omega) ?_
      rw [hN, fp_up_same]
      refine congrArg (fp_upM _ (k + 4)) (funext fun j => ?_)
      rw [fp_upM_at]
      dsimp only [fp_upf]
      (repeat' split) <;> first | rfl | (exfalso; omega) | (congr 1; omega)
theorem ok_X5_giveTo {k kg : Nat} {p x : Int} (hk : fp_ispl k) (hg : fp_isgd kg) (ho : pl_ok M k := by assumption) (hgo : gd_ok M kg := by assumption) (hp : fp_rng p := by first | assumption | (unfold fp_rng; omega)) (hx : 0 ≤ x ∧ x < 3 := by first | assumption | omega) : fp_Ok l G 1 kX5_giveTo [rV G k, rV G kg, iV p, iV x] M (qE (pl_gives M kg k x) (if M (k + 3) x.toNat = 0 then M else pl_give M kg k p x)) := by
  have hs := ho.2.1 x hx.1 hx.2
  have hkd := hgo.2.2.2.2.2 x hx.1 hx.2
  have hrow := pl_row ho hx
  have hw := hgo.2.2.2.1
  refine fp_Ok.of (r := 4) rfl (Nat.le_of_ble_eq_true rfl) rfl ?_
  refine S.aload_n dX5_giveTo_0 rfl rfl rfl ?_
  refine S.getR dX5_giveTo_1 rfl fX5_18 (pl_lay hk) (pl_r2 hk) ?_
  refine S.iload_n dX5_giveTo_4 rfl rfl rfl ?_
  refine S.iald dX5_giveTo_5 rfl (pl_a2 hk) (by omega) (by omega) ?_
  refine S.if_ne (tgt := 12) dX5_giveTo_6 (by decide) rfl (by unfold fp_rng; omega) (fun h6 => ?_) (fun h6 => ?_)
  · refine S.iload_n dX5_giveTo_12 rfl rfl rfl ?_
    refine S.bipush dX5_giveTo_13 rfl (by decide) ?_
    refine S.imul dX5_giveTo_15 rfl ?_
    refine S.istore (LL' := [_, _, _, _, _, _, _, _]) dX5_giveTo_16 rfl (by decide) rfl rfl ?_
    refine S.aload_n dX5_giveTo_18 rfl rfl rfl ?_
    refine S.aload_n dX5_giveTo_19 rfl rfl rfl ?_
    refine S.getR dX5_giveTo_20 rfl fX5_46 (gd_lay hg) (gd_r5 hg) ?_
    refine S.iload_n dX5_giveTo_23 rfl rfl rfl ?_
    refine S.iald dX5_giveTo_24 rfl (gd_a5 hg) (by omega) (by omega) ?_
    refine S.aload_n dX5_giveTo_25 rfl rfl rfl ?_
    refine S.getR dX5_giveTo_26 rfl fX5_21 (pl_lay hk) (pl_r3 hk) ?_
    refine S.iload dX5_giveTo_29 rfl rfl ?_
    refine S.aload_n dX5_giveTo_31 rfl rfl rfl ?_
    refine S.getR dX5_giveTo_32 rfl fX5_18 (pl_lay hk) (pl_r2 hk) ?_
    refine S.iload_n dX5_giveTo_35 rfl rfl rfl ?_
    refine S.iald dX5_giveTo_36 rfl (pl_a2 hk) (by omega) (by omega) ?_
    refine S.callSNe dX5_giveTo_37 rfl cX5_49 (ok_X11_givenSpot hg (pl_a3 hk)) rfl (by decide) rfl (Nat.le_of_ble_eq_true rfl) ?_
    refine S.istore (LL' := [_, _, _, _, _, _, _, _]) dX5_giveTo_40 rfl (by decide) rfl rfl ?_
    have hsel : 0 ≤ pl_sel M kg k x ∧ pl_sel M kg k x < M (k + 3) x.toNat := fp_giv_in (by omega)
    refine S.aload_n dX5_giveTo_42 rfl rfl rfl ?_
    refine S.getR dX5_giveTo_43 rfl fX5_21 (pl_lay hk) (pl_r3 hk) ?_
    refine S.iload dX5_giveTo_46 rfl rfl ?_
    refine S.iload dX5_giveTo_48 rfl rfl ?_
    refine S.iadd dX5_giveTo_50 rfl ?_
    refine S.iald dX5_giveTo_51 rfl (pl_a3 hk) (by show 0 ≤ x * 8 + pl_sel M kg k x; omega) (by show x * 8 + pl_sel M kg k x < 24; omega) ?_
    refine S.istore (LL' := [_, _, _, _, _, _, _, _]) dX5_giveTo_52 rfl (by decide) rfl rfl ?_
    refine S.aload_n dX5_giveTo_54 rfl rfl rfl ?_
    refine S.getR dX5_giveTo_55 rfl fX5_18 (pl_lay hk) (pl_r2 hk) ?_
    refine S.iload_n dX5_giveTo_58 rfl rfl rfl ?_
    refine S.dup2 dX5_giveTo_59 rfl rfl rfl ?_
    refine S.iald dX5_giveTo_60 rfl (pl_a2 hk) (by omega) (by omega) ?_
    refine S.iconst dX5_giveTo_61 rfl ?_
    refine S.isub dX5_giveTo_62 rfl ?_
    refine S.iast dX5_giveTo_63 rfl (pl_a2 hk) (by omega) (by omega) ?_
    refine S.iload dX5_giveTo_64 rfl rfl ?_
    refine S.istore (LL' := [_, _, _, _, _, _, _, _]) dX5_giveTo_66 rfl (by decide) rfl rfl ?_
    have hr2 := ho.2.2 (x * 8 + pl_sel M kg k x) (by omega) (by omega)
    have eg : pl_gives M kg k x = M (k + 4) (x * 8 + pl_sel M kg k x).toNat := by unfold pl_gives; rw [if_neg h6]
    rw [if_neg h6]
    unfold pl_give
    rw [eg]
    refine give_loop (s := pl_sel M kg k x) hk hg ho hx hsel.1 hsel.2 hp hr2 _ rfl ((M (k + 3) x.toNat).toNat + 1) (pl_sel M kg k x) _ (by omega) (by omega) (by omega) ?_
    funext a
    by_cases a4 : a = k + 4
    · subst a4
      rw [fp_upM_at, fp_up_ne (by omega)]
      funext j
      rw [if_neg (by omega)]
    · rw [fp_upM_ne a4]
  · refine S.bipush dX5_giveTo_9 rfl (by decide) ?_
    refine S.iret dX5_giveTo_11 rfl ?_
    exact ⟨by unfold pl_gives; rw [if_pos h6], by rw [if_pos h6]⟩
end PLD
end
section
/-! PLACES: insert, append, clear, copyFrom -/
section PLE
variable {l : Launch} {G : fp_WG} {M : fp_Mem}
theorem ins_loop {k : Nat} {t x s : Int} (hk : fp_ispl k) (ho : pl_ok M k) (hx : 0 ≤ x ∧ x < 3) (hs0 : 0 ≤ s) (hs1 : s ≤ M (k + 3) x.toNat) (hr : M (k + 3) x.toNat < 8) (ht : 0 ≤ t ∧ t < 10) : ∀ (n : Nat) (i : Int) (N : fp_Mem), (i - s).toNat < n → s ≤ i → i ≤ M (k + 3) x.toNat → N = fp_upM M (k + 4) (fun j : Nat => if x * 8 + i < j ∧ (j : Int) ≤ x * 8 + M (k + 3) x.toNat then M (k + 4) (j - 1) else M (k + 4) j) →
    fp_S l G 0 kX5_insert 27 [some (rV G k), some (iV t), some (iV x), some (iV s), some (iV (x * 8)), some (iV i)] [] N (qE 1 (pl_ins M k t x s)) := by
  intro n
  have hsz := ho.2.1 x hx.1 hx.2
  induction n with
  | zero => intro i N h; omega
  | succ n ih =>
    intro i N h h0 h1 hN
    have e1 : N (k + 1) = M (k + 1) := by rw [hN, fp_upM_ne (by omega)]
    have e2 : N (k + 2) = M (k + 2) := by rw [hN, fp_upM_ne (by omega)]
    have e3 : N (k + 3) = M (k + 3) := by rw [hN, fp_upM_ne (by omega)]
    have e4 : N (k + 4) = fun j : Nat => if x * 8 + i < j ∧ (j : Int) ≤ x * 8 + M (k + 3) x.toNat then M (k + 4) (j - 1) else M (k + 4) j := by rw [hN, fp_upM_at]
    refine S.iload dX5_insert_27 rfl rfl ?_
    refine S.iload_n dX5_insert_29 rfl rfl rfl ?_
    refine S.icmp_le (tgt := 61) dX5_insert_30 (by decide) rfl (by unfold fp_rng; omega) (by unfold fp_rng; omega) (fun h30 => ?_) (fun h30 => ?_)
    · refine S.aload_n dX5_insert_61 rfl rfl rfl ?_
      refine S.getR dX5_insert_62 rfl fX5_21 (pl_lay hk) (pl_r3 hk) ?_
      refine S.iload dX5_insert_65 rfl rfl ?_
      refine S.iload_n dX5_insert_67 rfl rfl rfl ?_
      refine S.iadd dX5_insert_68 rfl ?_
      refine S.iload_n dX5_insert_69 rfl rfl rfl ?_
      refine S.iast dX5_insert_70 rfl (pl_a3 hk) (by omega) (by omega) ?_
      refine S.aload_n dX5_insert_71 rfl rfl rfl ?_
      refine S.getR dX5_insert_72 rfl fX5_18 (pl_lay hk) (pl_r2 hk) ?_
      refine S.iload_n dX5_insert_75 rfl rfl rfl ?_
      refine S.dup2 dX5_insert_76 rfl rfl rfl ?_
      refine S.iald dX5_insert_77 rfl (pl_a2 hk) (by omega) (by omega) ?_
      refine S.iconst dX5_insert_78 rfl ?_
      refine S.iadd dX5_insert_79 rfl ?_
      refine S.iast dX5_insert_80 rfl (pl_a2 hk) (by omega) (by omega) ?_
      refine S.aload_n dX5_insert_81 rfl rfl rfl ?_
      refine S.getR dX5_insert_82 rfl fX5_15 (pl_lay hk) (pl_r1 hk) ?_
      refine S.iload_n dX5_insert_85 rfl rfl rfl ?_
      refine S.aload_n dX5_insert_86 rfl rfl rfl ?_
      refine S.getR dX5_insert_87 rfl fX5_9 (pl_lay hk) (pl_r0 hk) ?_
      refine S.iload_n dX5_insert_90 rfl rfl rfl ?_
      refine S.iald dX5_insert_91 rfl (pl_a0 hk) (by omega) (by omega) ?_
      refine S.iast dX5_insert_92 rfl (pl_a1 hk) (by omega) (by omega) ?_
      refine S.aload_n dX5_insert_93 rfl rfl rfl ?_
      refine S.getR dX5_insert_94 rfl fX5_9 (pl_lay hk) (pl_r0 hk) ?_
      refine S.iload_n dX5_insert_97 rfl rfl rfl ?_
      refine S.bipush dX5_insert_98 rfl (by decide) ?_
      refine S.iload_n dX5_insert_100 rfl rfl rfl ?_
      refine S.iadd dX5_insert_101 rfl ?_
      refine S.iast dX5_insert_102 rfl (pl_a0 hk) (by omega) (by omega) ?_
      refine S.iconst dX5_insert_103 rfl ?_
      refine S.zret dX5_insert_104 rfl (by first | exact Or.inl rfl | exact Or.inr rfl | omega) ?_
      refine ⟨rfl, ?_⟩
      funext a
      unfold pl_ins fp_spl
      by_cases a1 : a = k + 1
      · subst a1; rw [fp_up_at, if_pos rfl, fp_up_ne (by omega), fp_up_ne (by omega), fp_up_ne (by omega), e1]
      · rw [fp_up_ne a1, if_neg a1]
        by_cases a2 : a = k + 2
        · subst a2; rw [fp_up_at, if_pos rfl, fp_up_ne (by omega), fp_up_ne (by omega), fp_up_ne (by omega), fp_up_ne (by omega), e1, e2]
        · rw [fp_up_ne a2, if_neg a2]
          by_cases a3 : a = k + 3
          · subst a3; rw [fp_up_at, if_pos rfl, fp_up_ne (by omega), e3]
          · rw [fp_up_ne a3, if_neg a3]
            by_cases a4 : a = k + 4
            · subst a4; rw [fp_up_at, if_pos rfl, e4]; funext j; dsimp only [fp_upf]; (repeat' split) <;> first | rfl | (exfalso; omega) | (congr 1; omega)
            · rw [fp_up_ne a4, if_neg a4, hN, fp_upM_ne a4]
    · refine S.aload_n dX5_insert_33 rfl rfl rfl ?_
      refine S.getR dX5_insert_34 rfl fX5_21 (pl_lay hk) (pl_r3 hk) ?_
      refine S.iload dX5_insert_37 rfl rfl ?_
      refine S.iload dX5_insert_39 rfl rfl ?_
      refine S.iadd dX5_insert_41 rfl ?_
      refine S.aload_n dX5_insert_42 rfl rfl rfl ?_
      refine S.getR dX5_insert_43 rfl fX5_21 (pl_lay hk) (pl_r3 hk) ?_
      refine S.iload dX5_insert_46 rfl rfl ?_
      refine S.iload dX5_insert_48 rfl rfl ?_
      refine S.iadd dX5_insert_50 rfl ?_
      refine S.iconst dX5_insert_51 rfl ?_
      refine S.isub dX5_insert_52 rfl ?_
      refine S.iald dX5_insert_53 rfl (pl_a3 hk) (by omega) (by omega) ?_
      refine S.iast dX5_insert_54 rfl (pl_a3 hk) (by omega) (by omega) ?_
      refine S.iinc (LL' := [_, _, _, _, _, _]) dX5_insert_55 rfl (by decide) rfl rfl rfl ?_
      refine S.goto (pc' := 27) dX5_insert_58 (by decide) ?_
      refine ih _ _ (by omega) (by omega) (by omega) ?_
      rw [hN, fp_up_same]
      refine congrArg (fp_upM _ (k + 4)) (funext fun j => ?_)
      rw [fp_upM_at]
      dsimp only [fp_upf]
      (repeat' split) <;> first | rfl | (exfalso; omega) | (congr 1; omega)
theorem ok_X5_insert {k : Nat} {t x s : Int} (hk : fp_ispl k) (ho : pl_ok M k := by assumption) (ht : 0 ≤ t ∧ t < 10 := by first | assumption | omega) (hx : 0 ≤ x ∧ x < 3 := by first | assumption | omega) (hs0 : 0 ≤ s := by omega) (hs1 : s ≤ M (k + 3) x.toNat := by omega) : fp_Ok l G 0 kX5_insert [rV G k, iV t, iV x, iV s] M (qE (if 8 ≤ M (k + 3) x.toNat then 0 else 1) (if 8 ≤ M (k + 3) x.toNat then M else pl_ins M k t x s)) := by
  have hsz := ho.2.1 x hx.1 hx.2
  refine fp_Ok.of (r := 2) rfl (Nat.le_of_ble_eq_true rfl) rfl ?_
  refine S.aload_n dX5_insert_0 rfl rfl rfl ?_
  refine S.getR dX5_insert_1 rfl fX5_18 (pl_lay hk) (pl_r2 hk) ?_
  refine S.iload_n dX5_insert_4 rfl rfl rfl ?_
  refine S.iald dX5_insert_5 rfl (pl_a2 hk) (by omega) (by omega) ?_
  refine S.bipush dX5_insert_6 rfl (by decide) ?_
  refine S.icmp_lt (tgt := 13) dX5_insert_8 (by decide) rfl (by unfold fp_rng; omega) (by unfold fp_rng; omega) (fun h8 => ?_) (fun h8 => ?_)
  · refine S.iload_n dX5_insert_13 rfl rfl rfl ?_
    refine S.bipush dX5_insert_14 rfl (by decide) ?_
    refine S.imul dX5_insert_16 rfl ?_
    refine S.istore (LL' := [_, _, _, _, _, _]) dX5_insert_17 rfl (by decide) rfl rfl ?_
    refine S.aload_n dX5_insert_19 rfl rfl rfl ?_
    refine S.getR dX5_insert_20 rfl fX5_18 (pl_lay hk) (pl_r2 hk) ?_
    refine S.iload_n dX5_insert_23 rfl rfl rfl ?_
    refine S.iald dX5_insert_24 rfl (pl_a2 hk) (by omega) (by omega) ?_
    refine S.istore (LL' := [_, _, _, _, _, _]) dX5_insert_25 rfl (by decide) rfl rfl ?_
    rw [if_neg (by omega), if_neg (by omega)]
    refine ins_loop hk ho hx hs0 hs1 (by omega) ht ((M (k + 3) x.toNat).toNat + 1) (M (k + 3) x.toNat) M (by omega) (by omega) (by omega) ?_
    rw [show (fun j : Nat => if x * 8 + M (k + 3) x.toNat < j ∧ (j : Int) ≤ x * 8 + M (k + 3) x.toNat then M (k + 4) (j - 1) else M (k + 4) j) = M (k + 4) from funext fun j => by rw [if_neg (by omega)], fp_upM_self]
  · refine S.iconst dX5_insert_11 rfl ?_
    refine S.zret dX5_insert_12 rfl (by first | exact Or.inl rfl | exact Or.inr rfl | omega) ?_
    exact ⟨by rw [if_pos (by omega)], by rw [if_pos (by omega)]⟩
/-- whether p can put t into x -/
def pl_can (M : fp_Mem) (k : Nat) (p t x : Int) : Prop := M (k + 1) t.toNat = p ∧ M (k + 3) x.toNat < 8
theorem ok_X5_append {k : Nat} {p t x : Int} (hk : fp_ispl k) (ho : pl_ok M k := by assumption) (hp : fp_rng p := by first | assumption | (unfold fp_rng; omega)) (ht : 0 ≤ t ∧ t < 10 := by first | assumption | omega) (hx : 0 ≤ x ∧ x < 3 := by first | assumption | omega) : fp_Ok l G 1 kX5_append [rV G k, iV p, iV t, iV x] M (qE (if M (k + 1) t.toNat = p ∧ M (k + 3) x.toNat < 8 then 1 else 0) (if M (k + 1) t.toNat = p ∧ M (k + 3) x.toNat < 8 then pl_ins M k t x (M (k + 3) x.toNat) else M)) := by
  have hsz := ho.2.1 x hx.1 hx.2
  have hw := ho.1 t ht.1 ht.2
  refine fp_Ok.of (r := 0) rfl (Nat.le_of_ble_eq_true rfl) rfl ?_
  by_cases h8 : 8 ≤ M (k + 3) x.toNat
  · refine S.aload_n dX5_append_0 rfl rfl rfl ?_
    refine S.getR dX5_append_1 rfl fX5_9 (pl_lay hk) (pl_r0 hk) ?_
    refine S.iload_n dX5_append_4 rfl rfl rfl ?_
    refine S.iald dX5_append_5 rfl (pl_a0 hk) (by omega) (by omega) ?_
    refine S.iload_n dX5_append_6 rfl rfl rfl ?_
    refine S.icmp_ne (tgt := 29) dX5_append_7 (by decide) rfl (by unfold fp_rng; omega) hp (fun h7 => ?_) (fun h7 => ?_)
    · refine S.iconst dX5_append_29 rfl ?_
      refine S.zret dX5_append_30 rfl (by first | exact Or.inl rfl | exact Or.inr rfl | omega) ?_
      exact ⟨by first | (exfalso; omega) | rw [if_neg (by omega)], by first | (exfalso; omega) | rw [if_neg (by omega)]⟩
    · refine S.aload_n dX5_append_10 rfl rfl rfl ?_
      refine S.iload_n dX5_append_11 rfl rfl rfl ?_
      refine S.iload_n dX5_append_12 rfl rfl rfl ?_
      refine S.aload_n dX5_append_13 rfl rfl rfl ?_
      refine S.getR dX5_append_14 rfl fX5_18 (pl_lay hk) (pl_r2 hk) ?_
      refine S.iload_n dX5_append_17 rfl rfl rfl ?_
      refine S.iald dX5_append_18 rfl (pl_a2 hk) (by omega) (by omega) ?_
      refine S.callVe dX5_append_19 rfl cX5_53 (ok_X5_insert hk) rfl (pl_lay hk) (by decide) rfl (Nat.le_of_ble_eq_true rfl) ?_
      rw [if_pos h8, if_pos h8]
      refine S.if_eq (tgt := 29) dX5_append_22 (by decide) rfl (by unfold fp_rng; omega) (fun h22 => ?_) (fun h22 => ?_)
      · refine S.iconst dX5_append_29 rfl ?_
        refine S.zret dX5_append_30 rfl (by first | exact Or.inl rfl | exact Or.inr rfl | omega) ?_
        exact ⟨by first | (exfalso; omega) | rw [if_neg (by omega)], by first | (exfalso; omega) | rw [if_neg (by omega)]⟩
      · refine S.iconst dX5_append_25 rfl ?_
        refine S.goto (pc' := 30) dX5_append_26 (by decide) ?_
        refine S.zret dX5_append_30 rfl (by first | exact Or.inl rfl | exact Or.inr rfl | omega) ?_
        exact ⟨by first | (exfalso; omega) | rw [if_neg (by omega)], by first | (exfalso; omega) | rw [if_neg (by omega)]⟩
  · refine S.aload_n dX5_append_0 rfl rfl rfl ?_
    refine S.getR dX5_append_1 rfl fX5_9 (pl_lay hk) (pl_r0 hk) ?_
    refine S.iload_n dX5_append_4 rfl rfl rfl ?_
    refine S.iald dX5_append_5 rfl (pl_a0 hk) (by omega) (by omega) ?_
    refine S.iload_n dX5_append_6 rfl rfl rfl ?_
    refine S.icmp_ne (tgt := 29) dX5_append_7 (by decide) rfl (by unfold fp_rng; omega) hp (fun h7 => ?_) (fun h7 => ?_)
    · refine S.iconst dX5_append_29 rfl ?_
      refine S.zret dX5_append_30 rfl (by first | exact Or.inl rfl | exact Or.inr rfl | omega) ?_
      exact ⟨by first | (exfalso; omega) | rw [if_neg (by omega)] | rw [if_pos ⟨by omega, by omega⟩], by first | (exfalso; omega) | rw [if_neg (by omega)] | rw [if_pos ⟨by omega, by omega⟩]⟩
    · refine S.aload_n dX5_append_10 rfl rfl rfl ?_
      refine S.iload_n dX5_append_11 rfl rfl rfl ?_
      refine S.iload_n dX5_append_12 rfl rfl rfl ?_
      refine S.aload_n dX5_append_13 rfl rfl rfl ?_
      refine S.getR dX5_append_14 rfl fX5_18 (pl_lay hk) (pl_r2 hk) ?_
      refine S.iload_n dX5_append_17 rfl rfl rfl ?_
      refine S.iald dX5_append_18 rfl (pl_a2 hk) (by omega) (by omega) ?_
      refine S.callVe dX5_append_19 rfl cX5_53 (ok_X5_insert hk) rfl (pl_lay hk) (by decide) rfl (Nat.le_of_ble_eq_true rfl) ?_
      rw [if_neg h8, if_neg h8]
      refine S.if_eq (tgt := 29) dX5_append_22 (by decide) rfl (by unfold fp_rng; omega) (fun h22 => ?_) (fun h22 => ?_)
      · refine S.iconst dX5_append_29 rfl ?_
        refine S.zret dX5_append_30 rfl (by first | exact Or.inl rfl | exact Or.inr rfl | omega) ?_
        exact ⟨by first | (exfalso; omega) | rw [if_neg (by omega)] | rw [if_pos ⟨by omega, by omega⟩], by first | (exfalso; omega) | rw [if_neg (by omega)] | rw [if_pos ⟨by omega, by omega⟩]⟩
      · refine S.iconst dX5_append_25 rfl ?_
        refine S.goto (pc' := 30) dX5_append_26 (by decide) ?_
        refine S.zret dX5_append_30 rfl (by first | exact Or.inl rfl | exact Or.inr rfl | omega) ?_
        exact ⟨by first | (exfalso; omega) | rw [if_neg (by omega)] | rw [if_pos ⟨by omega, by omega⟩], by first | (exfalso; omega) | rw [if_neg (by omega)] | rw [if_pos ⟨by omega, by omega⟩]⟩
theorem ok_X5_clear {k : Nat} (hk : fp_ispl k) : fp_Ok l G 1 kX5_clear [rV G k] M (qW (fp_spl M k (fun j => if (j : Int) < 10 then -4 else M (k + 1) j) (fun j => if (j : Int) < 10 then -4 else M (k + 2) j) (fun j => if (j : Int) < 3 then 0 else M (k + 3) j) (M (k + 4)))) := by
  refine fp_Ok.of (r := 0) rfl (Nat.le_of_ble_eq_true rfl) rfl ?_
  refine S.aload_n dX5_clear_0 rfl rfl rfl ?_
  refine S.getR dX5_clear_1 rfl fX5_9 (pl_lay hk) (pl_r0 hk) ?_
  refine S.bipush dX5_clear_4 rfl (by decide) ?_
  refine S.callSw dX5_clear_6 rfl cX5_24 (ok_J7_fill_53178 (pl_a0 hk)) rfl (by decide) rfl (Nat.le_of_ble_eq_true rfl) ?_
  refine S.aload_n dX5_clear_9 rfl rfl rfl ?_
  refine S.getR dX5_clear_10 rfl fX5_15 (pl_lay hk) (pl_r1 hk) ?_
  refine S.bipush dX5_clear_13 rfl (by decide) ?_
  refine S.callSw dX5_clear_15 rfl cX5_24 (ok_J7_fill_53178 (pl_a1 hk)) rfl (by decide) rfl (Nat.le_of_ble_eq_true rfl) ?_
  refine S.aload_n dX5_clear_18 rfl rfl rfl ?_
  refine S.getR dX5_clear_19 rfl fX5_18 (pl_lay hk) (pl_r2 hk) ?_
  refine S.iconst dX5_clear_22 rfl ?_
  refine S.callSw dX5_clear_23 rfl cX5_24 (ok_J7_fill_53178 (pl_a2 hk)) rfl (by decide) rfl (Nat.le_of_ble_eq_true rfl) ?_
  refine S.vret dX5_clear_26 rfl ?_
  show _ = _
  funext a
  unfold fp_spl
  by_cases a3 : a = k + 3
  · subst a3; rw [fp_upM_at, if_neg (by omega), if_neg (by omega), if_pos rfl, fp_upM_ne (by omega), fp_upM_ne (by omega)]; rfl
  · rw [fp_upM_ne a3]
    by_cases a2 : a = k + 2
    · subst a2; rw [fp_upM_at, if_neg (by omega), if_pos rfl, fp_upM_ne (by omega)]; rfl
    · rw [fp_upM_ne a2]
      by_cases a1 : a = k + 1
      · subst a1; rw [fp_upM_at, if_pos rfl]; rfl
      · rw [fp_upM_ne a1, if_neg a1, if_neg a2, if_neg a3]
        by_cases a4 : a = k + 4
        · subst a4; rw [if_pos rfl]
        · rw [if_neg a4]
theorem ok_X5_copyFrom {k k2 : Nat} (hk : fp_ispl k) (hk2 : fp_ispl k2) (hne : k2 + 4 < k + 1 ∨ k + 4 < k2 + 1) : fp_Ok l G 1 kX5_copyFrom [rV G k, rV G k2] M (qW (fp_spl M k (fun j => if j < 10 then M (k2 + 1) j else M (k + 1) j) (fun j => if j < 10 then M (k2 + 2) j else M (k + 2) j) (fun j => if j < 3 then M (k2 + 3) j else M (k + 3) j) (fun j => if j < 24 then M (k2 + 4) j else M (k + 4) j))) := by
  refine fp_Ok.of (r := 0) rfl (Nat.le_of_ble_eq_true rfl) rfl ?_
  refine S.aload_n dX5_copyFrom_0 rfl rfl rfl ?_
  refine S.getR dX5_copyFrom_1 rfl fX5_9 (pl_lay hk2) (pl_r0 hk2) ?_
  refine S.iconst dX5_copyFrom_4 rfl ?_
  refine S.aload_n dX5_copyFrom_5 rfl rfl rfl ?_
  refine S.getR dX5_copyFrom_6 rfl fX5_9 (pl_lay hk) (pl_r0 hk) ?_
  refine S.iconst dX5_copyFrom_9 rfl ?_
  refine S.aload_n dX5_copyFrom_10 rfl rfl rfl ?_
  refine S.getR dX5_copyFrom_11 rfl fX5_9 (pl_lay hk) (pl_r0 hk) ?_
  refine S.alen dX5_copyFrom_14 rfl (pl_a0 hk) (by decide) rfl (by first | assumption | decide) ?_
  refine S.copyi dX5_copyFrom_15 rfl aX5_30 (pl_a0 hk2) (pl_a0 hk) (by decide) (by decide) (by omega) (by omega) (by omega) (by omega) (by omega) (by decide) (Nat.le_of_ble_eq_true rfl) ?_
  refine S.aload_n dX5_copyFrom_18 rfl rfl rfl ?_
  refine S.getR dX5_copyFrom_19 rfl fX5_15 (pl_lay hk2) (pl_r1 hk2) ?_
  refine S.iconst dX5_copyFrom_22 rfl ?_
  refine S.aload_n dX5_copyFrom_23 rfl rfl rfl ?_
  refine S.getR dX5_copyFrom_24 rfl fX5_15 (pl_lay hk) (pl_r1 hk) ?_
  refine S.iconst dX5_copyFrom_27 rfl ?_
  refine S.aload_n dX5_copyFrom_28 rfl rfl rfl ?_
  refine S.getR dX5_copyFrom_29 rfl fX5_15 (pl_lay hk) (pl_r1 hk) ?_
  refine S.alen dX5_copyFrom_32 rfl (pl_a1 hk) (by decide) rfl (by first | assumption | decide) ?_
  refine S.copyi dX5_copyFrom_33 rfl aX5_30 (pl_a1 hk2) (pl_a1 hk) (by decide) (by decide) (by omega) (by omega) (by omega) (by omega) (by omega) (by decide) (Nat.le_of_ble_eq_true rfl) ?_
  refine S.aload_n dX5_copyFrom_36 rfl rfl rfl ?_
  refine S.getR dX5_copyFrom_37 rfl fX5_18 (pl_lay hk2) (pl_r2 hk2) ?_
  refine S.iconst dX5_copyFrom_40 rfl ?_
  refine S.aload_n dX5_copyFrom_41 rfl rfl rfl ?_
  refine S.getR dX5_copyFrom_42 rfl fX5_18 (pl_lay hk) (pl_r2 hk) ?_
  refine S.iconst dX5_copyFrom_45 rfl ?_
  refine S.aload_n dX5_copyFrom_46 rfl rfl rfl ?_
  refine S.getR dX5_copyFrom_47 rfl fX5_18 (pl_lay hk) (pl_r2 hk) ?_
  refine S.alen dX5_copyFrom_50 rfl (pl_a2 hk) (by decide) rfl (by first | assumption | decide) ?_
  refine S.copyi dX5_copyFrom_51 rfl aX5_30 (pl_a2 hk2) (pl_a2 hk) (by decide) (by decide) (by omega) (by omega) (by omega) (by omega) (by omega) (by decide) (Nat.le_of_ble_eq_true rfl) ?_
  refine S.aload_n dX5_copyFrom_54 rfl rfl rfl ?_
  refine S.getR dX5_copyFrom_55 rfl fX5_21 (pl_lay hk2) (pl_r3 hk2) ?_
  refine S.iconst dX5_copyFrom_58 rfl ?_
  refine S.aload_n dX5_copyFrom_59 rfl rfl rfl ?_
  refine S.getR dX5_copyFrom_60 rfl fX5_21 (pl_lay hk) (pl_r3 hk) ?_
  refine S.iconst dX5_copyFrom_63 rfl ?_
  refine S.aload_n dX5_copyFrom_64 rfl rfl rfl ?_
  refine S.getR dX5_copyFrom_65 rfl fX5_21 (pl_lay hk) (pl_r3 hk) ?_
  refine S.alen dX5_copyFrom_68 rfl (pl_a3 hk) (by decide) rfl (by first | assumption | decide) ?_
  refine S.copyi dX5_copyFrom_69 rfl aX5_30 (pl_a3 hk2) (pl_a3 hk) (by decide) (by decide) (by omega) (by omega) (by omega) (by omega) (by omega) (by decide) (Nat.le_of_ble_eq_true rfl) ?_
  refine S.vret dX5_copyFrom_72 rfl ?_
  show _ = _
  funext a
  unfold fp_spl
  by_cases a4 : a = k + 4
  · subst a4
    rw [fp_upM_at, if_neg (by omega), if_neg (by omega), if_neg (by omega), if_pos rfl]
    simp only [fp_upM_ne (show k2 + 4 ≠ k + 3 by omega), fp_upM_ne (show k2 + 4 ≠ k + 2 by omega), fp_upM_ne (show k2 + 4 ≠ k + 1 by omega), fp_upM_ne (show k + 4 ≠ k + 3 by omega), fp_upM_ne (show k + 4 ≠ k + 2 by omega), fp_upM_ne (show k + 4 ≠ k + 1 by omega)]
    funext j
    simp [va_cpy]
  · rw [fp_upM_ne a4]
    by_cases a3 : a = k + 3
    · subst a3
      rw [fp_upM_at, if_neg (by omega), if_neg (by omega), if_pos rfl]
      simp only [fp_upM_ne (show k2 + 3 ≠ k + 2 by omega), fp_upM_ne (show k2 + 3 ≠ k + 1 by omega), fp_upM_ne (show k + 3 ≠ k + 2 by omega), fp_upM_ne (show k + 3 ≠ k + 1 by omega)]
      funext j
      simp [va_cpy]
    · rw [fp_upM_ne a3]
      by_cases a2 : a = k + 2
      · subst a2
        rw [fp_upM_at, if_neg (by omega), if_pos rfl]
        simp only [fp_upM_ne (show k2 + 2 ≠ k + 1 by omega), fp_upM_ne (show k + 2 ≠ k + 1 by omega)]
        funext j
        simp [va_cpy]
      · rw [fp_upM_ne a2]
        by_cases a1 : a = k + 1
        · subst a1
          rw [fp_upM_at, if_pos rfl]
          funext j
          simp [va_cpy]
        · rw [fp_upM_ne a1, if_neg a1, if_neg a2, if_neg a3, if_neg a4]
end PLE
end
section
/-! THE BANK IN WORDS OF ITS OWN: a page is (where things are, who put them in, the lines as lists); goods are (things, lines, chance, weights, values, kinds) -/
abbrev aPg : Type := (Int → Int) × (Int → Int) × (Int → List Int)
abbrev aGd : Type := Int × Int × Int × (Int → Int) × (Int → Int → Int) × (Int → Int)
def fp_ui {α : Type} (f : Int → α) (i : Int) (v : α) : Int → α := fun j => if j = i then v else f j
theorem fp_ui_at {α : Type} (f : Int → α) (i : Int) (v : α) : fp_ui f i v i = v := by simp [fp_ui]
theorem fp_ui_ne {α : Type} {f : Int → α} {i j : Int} {v : α} (h : j ≠ i) : fp_ui f i v j = f j := by simp [fp_ui, h]
def aSel (g : aGd) (L : List Int) (kind : Int) : Int := fp_giv kind (fun i => g.2.2.2.1 (L.getD i.toNat 0)) L.length
def aGv (g : aGd) (pg : aPg) (x : Int) : Int := if pg.2.2 x = [] then -4 else (pg.2.2 x).getD (aSel g (pg.2.2 x) (g.2.2.2.2.2 x)).toNat 0
def aDraw (g : aGd) (pg : aPg) (p x : Int) : aPg := if pg.2.2 x = [] then pg else (fp_ui pg.1 (aGv g pg x) p, pg.2.1, fp_ui pg.2.2 x ((pg.2.2 x).eraseIdx (aSel g (pg.2.2 x) (g.2.2.2.2.2 x)).toNat))
def aIns (pg : aPg) (t x : Int) (s : Nat) : aPg := (fp_ui pg.1 t (10 + x), fp_ui pg.2.1 t (pg.1 t), fp_ui pg.2.2 x ((pg.2.2 x).insertIdx s t))
/-- goods in bounds -/
def gOk (g : aGd) : Prop := (0 ≤ g.1 ∧ g.1 ≤ 10) ∧ (0 ≤ g.2.1 ∧ g.2.1 ≤ 3) ∧ (0 ≤ g.2.2.1 ∧ g.2.2.1 ≤ 10) ∧ (∀ t, 0 ≤ t → t < g.1 → 0 ≤ g.2.2.2.1 t ∧ g.2.2.2.1 t ≤ 9) ∧ (∀ t p, 0 ≤ t → t < g.1 → 0 ≤ p → p < 4 → 0 ≤ g.2.2.2.2.1 t p ∧ g.2.2.2.2.1 t p ≤ 20) ∧ ∀ x, 0 ≤ x → x < g.2.1 → 0 ≤ g.2.2.2.2.2 x ∧ g.2.2.2.2.2 x ≤ 2
/-- a page that can be: who is where -/
def pgOk (g : aGd) (pg : aPg) : Prop :=
  (∀ t, 0 ≤ t → t < g.1 → (0 ≤ pg.1 t ∧ pg.1 t ≤ 3) ∨ (10 ≤ pg.1 t ∧ pg.1 t < 10 + g.2.1)) ∧
  (∀ x, 0 ≤ x → x < 3 → (pg.2.2 x).length ≤ 8 ∧ (pg.2.2 x).Nodup ∧ (g.2.1 ≤ x → pg.2.2 x = []) ∧ ∀ t, t ∈ pg.2.2 x → 0 ≤ t ∧ t < g.1 ∧ pg.1 t = 10 + x) ∧
  (∀ t, 0 ≤ t → t < g.1 → 10 ≤ pg.1 t → t ∈ pg.2.2 (pg.1 t - 10) ∧ True)
theorem fp_eraD (L : List Int) (s i : Nat) : (L.eraseIdx s).getD i 0 = if i < s then L.getD i 0 else L.getD (i + 1) 0 := by
  rw [List.getD_eq_getElem?_getD, List.getElem?_eraseIdx, List.getD_eq_getElem?_getD, List.getD_eq_getElem?_getD]
  split <;> rfl
theorem fp_insD (t : Int) : ∀ (L : List Int) (s i : Nat), s ≤ L.length → (L.insertIdx s t).getD i 0 = if i < s then L.getD i 0 else if i = s then t else L.getD (i - 1) 0
  | L, 0, i, _ => by
    rw [List.insertIdx_zero]
    cases i with
    | zero => simp
    | succ i => simp
  | [], s + 1, i, h => by simp at h
  | a :: L, s + 1, i, h => by
    rw [List.insertIdx_succ_cons]
    cases i with
    | zero => simp
    | succ i =>
      have ih := fp_insD t L s i (by simpa using h)
      simp only [List.getD_cons_succ]
      rw [ih]
      by_cases h1 : i < s
      · rw [if_pos h1, if_pos (show i + 1 < s + 1 by omega)]
      · rw [if_neg h1, if_neg (show ¬ i + 1 < s + 1 by omega)]
        by_cases h2 : i = s
        · rw [if_pos h2, if_pos (show i + 1 = s + 1 by omega)]
        · rw [if_neg h2, if_neg (show ¬ i + 1 = s + 1 by omega)]
          obtain ⟨j, rfl⟩ : ∃ j, i = j + 1 := ⟨i - 1, by omega⟩
          simp
theorem fp_insN {t : Int} : ∀ (L : List Int) (s : Nat), L.Nodup → t ∉ L → s ≤ L.length → (L.insertIdx s t).Nodup
  | L, 0, h, ht, _ => by rw [List.insertIdx_zero]; exact List.nodup_cons.mpr ⟨ht, h⟩
  | [], s + 1, _, _, h => by simp at h
  | a :: L, s + 1, h, ht, hs => by
    rw [List.insertIdx_succ_cons]
    have h1 := List.nodup_cons.mp h
    have hs' : s ≤ L.length := by simpa using hs
    refine List.nodup_cons.mpr ⟨fun hm => ?_, fp_insN L s h1.2 (fun q => ht (List.mem_cons_of_mem _ q)) hs'⟩
    rcases (List.mem_insertIdx hs').mp hm with rfl | q
    · exact ht List.mem_cons_self
    · exact h1.1 q
theorem fp_getD_mem {L : List Int} {i : Nat} (h : i < L.length) : L.getD i 0 ∈ L := by
  rw [List.getD_eq_getElem?_getD, List.getElem?_eq_getElem h]
  exact List.getElem_mem h
theorem fp_mem_era {L : List Int} {s : Nat} {t : Int} (hn : L.Nodup) (hs : s < L.length) : t ∈ L.eraseIdx s ↔ t ∈ L ∧ t ≠ L.getD s 0 := by
  have e : L.getD s 0 = L[s] := by rw [List.getD_eq_getElem?_getD, List.getElem?_eq_getElem hs]; rfl
  rw [e, List.mem_eraseIdx_iff_getElem]
  have hp := List.pairwise_iff_getElem.mp hn
  constructor
  · rintro ⟨i, hi, hne, rfl⟩
    refine ⟨List.getElem_mem hi, fun q => ?_⟩
    rcases Nat.lt_or_gt_of_ne hne with h | h
    · exact hp i s hi hs h q
    · exact hp s i hs hi h q.symm
  · rintro ⟨hm, hne⟩
    obtain ⟨i, hi, rfl⟩ := List.getElem_of_mem hm
    exact ⟨i, hi, fun q => hne (by subst q; rfl), rfl⟩
theorem fp_am_congr {w v : Int → Int} : ∀ n : Nat, (∀ i, 0 ≤ i → i ≤ (n : Int) → w i = v i) → fp_am w n = fp_am v n
  | 0, _ => rfl
  | n + 1, h => by
    have ih := fp_am_congr n (fun i h0 h1 => h i h0 (by omega))
    have hb := fp_am_le v n
    unfold fp_am
    rw [ih, h _ (by omega) (by omega), h (fp_am v n) hb.1 (by omega)]
theorem fp_giv_congr {kind n : Int} {w v : Int → Int} (h1 : 1 ≤ n) (h : ∀ i, 0 ≤ i → i < n → w i = v i) : fp_giv kind w n = fp_giv kind v n := by
  unfold fp_giv
  rw [fp_am_congr (n - 1).toNat (fun i h0 h1 => h i h0 (by omega))]
theorem aSel_in {g : aGd} {L : List Int} {kind : Int} (h : L ≠ []) : 0 ≤ aSel g L kind ∧ aSel g L kind < L.length := by
  have : 0 < L.length := List.length_pos_iff.mpr h
  exact fp_giv_in (by omega)
theorem aGv_mem {g : aGd} {pg : aPg} {x : Int} (h : pg.2.2 x ≠ []) : aGv g pg x ∈ pg.2.2 x := by
  unfold aGv
  rw [if_neg h]
  have := aSel_in (g := g) (kind := g.2.2.2.2.2 x) h
  exact fp_getD_mem (by omega)
theorem aDraw_ok {g : aGd} {pg : aPg} {p x : Int} (hg : gOk g) (h : pgOk g pg) (hp : 0 ≤ p ∧ p < 4) (hx : 0 ≤ x ∧ x < g.2.1) : pgOk g (aDraw g pg p x) := by
  unfold aDraw
  split
  · exact h
  rename_i hne
  have hx3 : x < 3 := by have := hg.2.1.2; omega
  obtain ⟨h1, h2, h3⟩ := h
  obtain ⟨l1, l2, l3, l4⟩ := h2 x hx.1 hx3
  have hm := aGv_mem (g := g) hne
  have ht := l4 _ hm
  have hs := aSel_in (g := g) (kind := g.2.2.2.2.2 x) hne
  have eg : aGv g pg x = (pg.2.2 x).getD (aSel g (pg.2.2 x) (g.2.2.2.2.2 x)).toNat 0 := by unfold aGv; rw [if_neg hne]
  refine ⟨fun t h0 hl => ?_, fun y hy0 hy3 => ?_, fun t h0 hl h10 => ?_⟩
  · by_cases e : t = aGv g pg x
    · subst e; left; show 0 ≤ fp_ui _ _ _ _ ∧ fp_ui _ _ _ _ ≤ 3; rw [fp_ui_at]; omega
    · show (0 ≤ fp_ui _ _ _ _ ∧ fp_ui _ _ _ _ ≤ 3) ∨ _
      simp only [fp_ui_ne e]; exact h1 t h0 hl
  · by_cases e : y = x
    · subst e
      show List.length (fp_ui pg.2.2 y _ y) ≤ 8 ∧ List.Nodup (fp_ui pg.2.2 y _ y) ∧ (_ → fp_ui pg.2.2 y _ y = []) ∧ ∀ t9, t9 ∈ fp_ui pg.2.2 y _ y → 0 ≤ t9 ∧ t9 < g.1 ∧ fp_ui pg.1 _ _ t9 = 10 + y
      rw [fp_ui_at]
      refine ⟨Nat.le_trans (List.length_eraseIdx_le _ _) l1, l2.sublist (List.eraseIdx_sublist _ _), fun q => absurd (l3 q) hne, fun t hm2 => ?_⟩
      rw [fp_mem_era l2 (by omega), ← eg] at hm2
      have := l4 t hm2.1
      rw [fp_ui_ne hm2.2]
      exact this
    · show List.length (fp_ui pg.2.2 x _ y) ≤ 8 ∧ List.Nodup (fp_ui pg.2.2 x _ y) ∧ (_ → fp_ui pg.2.2 x _ y = []) ∧ ∀ t9, t9 ∈ fp_ui pg.2.2 x _ y → 0 ≤ t9 ∧ t9 < g.1 ∧ fp_ui pg.1 _ _ t9 = 10 + y
      rw [fp_ui_ne e]
      obtain ⟨k1, k2, k3, k4⟩ := h2 y hy0 hy3
      refine ⟨k1, k2, k3, fun t hm2 => ?_⟩
      have := k4 t hm2
      rw [fp_ui_ne (fun q => by subst q; omega)]
      exact this
  · have hne2 : t ≠ aGv g pg x := by
      rintro rfl
      have : fp_ui pg.1 (aGv g pg x) p (aGv g pg x) = p := fp_ui_at _ _ _
      have h10' : 10 ≤ fp_ui pg.1 (aGv g pg x) p (aGv g pg x) := h10
      omega
    have e1 : fp_ui pg.1 (aGv g pg x) p t = pg.1 t := fp_ui_ne hne2
    have h10' : 10 ≤ fp_ui pg.1 (aGv g pg x) p t := h10
    rw [e1] at h10'
    have h4 := h3 t h0 hl h10'
    refine ⟨?_, h4.2⟩
    show t ∈ fp_ui pg.2.2 x _ (fp_ui pg.1 (aGv g pg x) p t - 10)
    rw [e1]
    by_cases e2 : pg.1 t - 10 = x
    · rw [e2, fp_ui_at, fp_mem_era l2 (by omega), ← eg]
      exact ⟨e2 ▸ h4.1, hne2⟩
    · rw [fp_ui_ne e2]; exact h4.1
theorem aIns_ok {g : aGd} {pg : aPg} {t x : Int} {s : Nat} (hg : gOk g) (h : pgOk g pg) (ht : 0 ≤ t ∧ t < g.1) (hh : 0 ≤ pg.1 t ∧ pg.1 t ≤ 3) (hx : 0 ≤ x ∧ x < g.2.1) (hl : (pg.2.2 x).length < 8) (hs : s ≤ (pg.2.2 x).length) : pgOk g (aIns pg t x s) := by
  have hx3 : x < 3 := by have := hg.2.1.2; omega
  obtain ⟨h1, h2, h3⟩ := h
  obtain ⟨l1, l2, l3, l4⟩ := h2 x hx.1 hx3
  have hnm : ∀ y, 0 ≤ y → y < 3 → t ∉ pg.2.2 y := fun y hy0 hy3 hm => by
    have := (h2 y hy0 hy3).2.2.2 t hm
    omega
  refine ⟨fun u h0 hl => ?_, fun y hy0 hy3 => ?_, fun u h0 hl h10 => ?_⟩
  · by_cases e : u = t
    · subst e; right; show 10 ≤ fp_ui _ _ _ _ ∧ fp_ui _ _ _ _ < 10 + g.2.1; rw [fp_ui_at]; omega
    · show (0 ≤ fp_ui _ _ _ _ ∧ fp_ui _ _ _ _ ≤ 3) ∨ (10 ≤ fp_ui _ _ _ _ ∧ fp_ui _ _ _ _ < 10 + g.2.1)
      simp only [fp_ui_ne e]; exact h1 u h0 hl
  · by_cases e : y = x
    · subst e
      show List.length (fp_ui pg.2.2 y _ y) ≤ 8 ∧ List.Nodup (fp_ui pg.2.2 y _ y) ∧ (_ → fp_ui pg.2.2 y _ y = []) ∧ ∀ t9, t9 ∈ fp_ui pg.2.2 y _ y → 0 ≤ t9 ∧ t9 < g.1 ∧ fp_ui pg.1 _ _ t9 = 10 + y
      rw [fp_ui_at]
      refine ⟨by rw [List.length_insertIdx_of_le_length hs]; omega, fp_insN _ _ l2 (hnm y hy0 hy3) hs, fun q => by omega, fun u hm2 => ?_⟩
      rcases (List.mem_insertIdx hs).mp hm2 with rfl | q
      · rw [fp_ui_at]; omega
      · have := l4 u q
        rw [fp_ui_ne (show u ≠ t from fun e => hnm y hy0 hy3 (by rw [← e]; exact q))]
        exact this
    · show List.length (fp_ui pg.2.2 x _ y) ≤ 8 ∧ List.Nodup (fp_ui pg.2.2 x _ y) ∧ (_ → fp_ui pg.2.2 x _ y = []) ∧ ∀ t9, t9 ∈ fp_ui pg.2.2 x _ y → 0 ≤ t9 ∧ t9 < g.1 ∧ fp_ui pg.1 _ _ t9 = 10 + y
      rw [fp_ui_ne e]
      obtain ⟨k1, k2, k3, k4⟩ := h2 y hy0 hy3
      refine ⟨k1, k2, k3, fun u hm2 => ?_⟩
      have := k4 u hm2
      rw [fp_ui_ne (show u ≠ t from fun e => hnm y hy0 hy3 (by rw [← e]; exact hm2))]
      exact this
  · by_cases e : u = t
    · subst e
      show u ∈ fp_ui pg.2.2 x _ (fp_ui pg.1 u (10 + x) u - 10) ∧ True
      rw [fp_ui_at, show 10 + x - 10 = x by omega, fp_ui_at]
      exact ⟨(List.mem_insertIdx hs).mpr (Or.inl rfl), trivial⟩
    · have e1 : fp_ui pg.1 t (10 + x) u = pg.1 u := fp_ui_ne e
      have h10' : 10 ≤ fp_ui pg.1 t (10 + x) u := h10
      rw [e1] at h10'
      have h4 := h3 u h0 hl h10'
      show u ∈ fp_ui pg.2.2 x _ (fp_ui pg.1 t (10 + x) u - 10) ∧ True
      rw [e1]
      refine ⟨?_, h4.2⟩
      by_cases e2 : pg.1 u - 10 = x
      · rw [e2, fp_ui_at]; exact (List.mem_insertIdx hs).mpr (Or.inr (e2 ▸ h4.1))
      · rw [fp_ui_ne e2]; exact h4.1
end
section
/-! HOW THE CLASS HOLDS THEM: goods at cell k, a page at cell k -/
def gdIs (M : fp_Mem) (k : Nat) (g : aGd) : Prop := M k 0 = g.1 ∧ M k 1 = g.2.1 ∧ M k 2 = g.2.2.1 ∧ (∀ t, 0 ≤ t → t < g.1 → M (k + 1) t.toNat = g.2.2.2.1 t) ∧ M (k + 1) 10 = 0 ∧ (∀ t p, 0 ≤ t → t < g.1 → 0 ≤ p → p < 4 → M (k + 2) (t * 4 + p).toNat = g.2.2.2.2.1 t p) ∧ (∀ p : Int, 0 ≤ p → p < 4 → M (k + 2) (40 + p).toNat = 0) ∧ (∀ x, 0 ≤ x → x < g.2.1 → M (k + 3) x.toNat = g.2.2.2.2.2 x) ∧ gd_ok M k
def clIs (M : fp_Mem) (k : Nat) (g : aGd) (pg : aPg) : Prop := (∀ t, 0 ≤ t → t < g.1 → M (k + 1) t.toNat = pg.1 t) ∧ (∀ t, g.1 ≤ t → t < 10 → M (k + 1) t.toNat = -4) ∧ (∀ t, 0 ≤ t → t < g.1 → M (k + 2) t.toNat = if pg.1 t < 10 then -4 else pg.2.1 t) ∧
  (∀ x, 0 ≤ x → x < 3 → M (k + 3) x.toNat = (pg.2.2 x).length ∧ ∀ i : Int, 0 ≤ i → i < (pg.2.2 x).length → M (k + 4) (x * 8 + i).toNat = (pg.2.2 x).getD i.toNat 0) ∧ pl_ok M k
/-- the rows of a page alone differ -/
def frP (M N : fp_Mem) (k : Nat) : Prop := ∀ a, (a < k + 1 ∨ k + 4 < a) → N a = M a
theorem gdIs.kept {M N : fp_Mem} {k : Nat} {g : aGd} (h : gdIs M k g) (e : ∀ a, k ≤ a → a ≤ k + 3 → N a = M a) : gdIs N k g := by
  unfold gdIs gd_ok at *
  rw [e k (by omega) (by omega), e (k + 1) (by omega) (by omega), e (k + 2) (by omega) (by omega), e (k + 3) (by omega) (by omega)]
  exact h
theorem clIs.kept {M N : fp_Mem} {k : Nat} {g : aGd} {pg : aPg} (h : clIs M k g pg) (e : ∀ a, k + 1 ≤ a → a ≤ k + 4 → N a = M a) : clIs N k g pg := by
  unfold clIs pl_ok at *
  rw [e (k + 1) (by omega) (by omega), e (k + 2) (by omega) (by omega), e (k + 3) (by omega) (by omega), e (k + 4) (by omega) (by omega)]
  exact h
theorem pl_gd {k kg : Nat} (hk : fp_ispl k) (hg : fp_isgd kg) : kg + 3 < k + 1 ∨ k + 4 < kg := by
  have h : ∀ k ∈ fp_plL, ∀ kg ∈ fp_gdL, kg + 3 < k + 1 ∨ k + 4 < kg := by decide +kernel
  exact h k hk kg hg
theorem pl_vs {k kv : Nat} (hk : fp_ispl k) (hv : fp_isvs kv) : kv + 4 < k + 1 ∨ k + 4 < kv := by
  have h : ∀ k ∈ fp_plL, ∀ kv ∈ fp_vsL, kv + 4 < k + 1 ∨ k + 4 < kv := by decide +kernel
  exact h k hk kv hv
theorem pl_pl {k k2 : Nat} (hk : fp_ispl k) (hk2 : fp_ispl k2) (hne : k ≠ k2) : k2 + 4 < k + 1 ∨ k + 4 < k2 + 1 := by
  have h : ∀ k ∈ fp_plL, ∀ k2 ∈ fp_plL, k ≠ k2 → k2 + 4 < k + 1 ∨ k + 4 < k2 + 1 := by decide +kernel
  exact h k hk k2 hk2 hne
section CRP
variable {M : fp_Mem} {k kg : Nat} {g : aGd} {pg : aPg}
/-- a page's line, read -/
theorem clIs.line (h : clIs M k g pg) (hP : pgOk g pg) {x : Int} (hx : 0 ≤ x ∧ x < g.2.1) (hg : gOk g) : M (k + 3) x.toNat = (pg.2.2 x).length ∧ (∀ i : Int, 0 ≤ i → i < (pg.2.2 x).length → M (k + 4) (x * 8 + i).toNat = (pg.2.2 x).getD i.toNat 0 ∧ 0 ≤ (pg.2.2 x).getD i.toNat 0 ∧ (pg.2.2 x).getD i.toNat 0 < g.1) ∧ (pg.2.2 x).length ≤ 8 := by
  have hx3 : x < 3 := by have := hg.2.1.2; omega
  obtain ⟨h1, h2⟩ := h.2.2.2.1 x hx.1 hx3
  obtain ⟨l1, l2, l3, l4⟩ := hP.2.1 x hx.1 hx3
  refine ⟨h1, fun i h0 hl => ⟨h2 i h0 hl, ?_⟩, l1⟩
  have := l4 _ (fp_getD_mem (L := pg.2.2 x) (i := i.toNat) (by omega))
  exact ⟨this.1, this.2.1⟩
theorem cl_sel (h : clIs M k g pg) (hd : gdIs M kg g) (hP : pgOk g pg) (hg : gOk g) {x : Int} (hx : 0 ≤ x ∧ x < g.2.1) (hne : pg.2.2 x ≠ []) : pl_sel M kg k x = aSel g (pg.2.2 x) (g.2.2.2.2.2 x) := by
  obtain ⟨h1, h2, h3⟩ := h.line hP hx hg
  have hlen : 0 < (pg.2.2 x).length := List.length_pos_iff.mpr hne
  unfold pl_sel aSel
  rw [h1, hd.2.2.2.2.2.2.2.1 x hx.1 hx.2]
  refine fp_giv_congr (by omega) (fun i h0 hl => ?_)
  obtain ⟨e1, e2, e3⟩ := h2 i h0 hl
  rw [e1]
  exact hd.2.2.2.1 _ e2 e3
theorem cl_gives (h : clIs M k g pg) (hd : gdIs M kg g) (hP : pgOk g pg) (hg : gOk g) {x : Int} (hx : 0 ≤ x ∧ x < g.2.1) : pl_gives M kg k x = aGv g pg x := by
  obtain ⟨h1, h2, h3⟩ := h.line hP hx hg
  unfold pl_gives aGv
  rw [h1]
  by_cases hne : pg.2.2 x = []
  · rw [if_pos (by rw [hne]; rfl), if_pos hne]
  · have hlen : 0 < (pg.2.2 x).length := List.length_pos_iff.mpr hne
    rw [if_neg (by omega), if_neg hne, cl_sel h hd hP hg hx hne]
    have hs := aSel_in (g := g) (kind := g.2.2.2.2.2 x) hne
    exact (h2 _ hs.1 hs.2).1
theorem cl_draw (h : clIs M k g pg) (hd : gdIs M kg g) (hP : pgOk g pg) (hg : gOk g) {p x : Int} (hp : 0 ≤ p ∧ p < 4) (hx : 0 ≤ x ∧ x < g.2.1) : clIs (if M (k + 3) x.toNat = 0 then M else pl_give M kg k p x) k g (aDraw g pg p x) := by
  have hx3 : x < 3 := by have := hg.2.1.2; omega
  obtain ⟨h1, h2, h3⟩ := h.line hP hx hg
  unfold aDraw
  by_cases hne : pg.2.2 x = []
  · rw [if_pos (by rw [h1, hne]; rfl), if_pos hne]; exact h
  have hlen : 0 < (pg.2.2 x).length := List.length_pos_iff.mpr hne
  rw [if_neg (by omega), if_neg hne]
  have es := cl_sel h hd hP hg hx hne
  have eg := cl_gives h hd hP hg hx
  have hs := aSel_in (g := g) (kind := g.2.2.2.2.2 x) hne
  have hm := aGv_mem (g := g) hne
  have ht := (hP.2.1 x hx.1 hx3).2.2.2 _ hm
  have hgn := hg.1
  unfold pl_give
  rw [es, eg, h1]
  obtain ⟨c1, c2, c3, c4, o1, o2, o3⟩ := h
  refine ⟨fun t t0 t1 => ?_, fun t t0 t1 => ?_, fun t t0 t1 => ?_, fun y y0 y3 => ?_, ?_⟩
  · rw [fp_spl1]
    show fp_upf _ _ _ _ = fp_ui _ _ _ _
    unfold fp_upf fp_ui
    by_cases e : t = aGv g pg x
    · rw [if_pos (by rw [e]), if_pos e]
    · rw [if_neg (by omega), if_neg e]; exact c1 t t0 t1
  · rw [fp_spl1, fp_upf_ne (by omega)]; exact c2 t t0 t1
  · rw [fp_spl2]
    show _ = if fp_ui pg.1 (aGv g pg x) p t < 10 then -4 else pg.2.1 t
    unfold fp_upf fp_ui
    by_cases e : t = aGv g pg x
    · rw [if_pos (by rw [e]), if_pos e, if_pos (by omega)]
    · rw [if_neg (by omega), if_neg e]; exact c3 t t0 t1
  · rw [fp_spl3, fp_spl4]
    show _ = (List.length (fp_ui pg.2.2 x _ y) : Int) ∧ ∀ i : Int, 0 ≤ i → i < (List.length (fp_ui pg.2.2 x _ y) : Int) → _ = List.getD (fp_ui pg.2.2 x _ y) i.toNat 0
    have hl8 := (hP.2.1 y y0 y3).1
    by_cases e : y = x
    · subst e
      rw [fp_ui_at, fp_upf_at, List.length_eraseIdx_of_lt (by omega)]
      refine ⟨by omega, fun i i0 i1 => ?_⟩
      try dsimp only
      rw [fp_eraD]
      by_cases hi : i < aSel g (pg.2.2 y) (g.2.2.2.2.2 y)
      · rw [if_neg (by omega), if_pos (by omega)]
        exact (h2 i i0 (by omega)).1
      · rw [if_pos (by omega), if_neg (by omega)]
        have := (h2 (i + 1) (by omega) (by omega)).1
        rw [show (y * 8 + (i + 1)).toNat = (y * 8 + i).toNat + 1 by omega, show (i + 1).toNat = i.toNat + 1 by omega] at this
        exact this
    · rw [fp_ui_ne e, fp_upf_ne (by omega)]
      obtain ⟨q1, q2⟩ := c4 y y0 y3
      refine ⟨q1, fun i i0 i1 => ?_⟩
      try dsimp only
      rw [if_neg (by omega)]
      exact q2 i i0 i1
  · refine ⟨fun t t0 t1 => ?_, fun y y0 y1 => ?_, fun i i0 i1 => ?_⟩
    · rw [fp_spl1]; unfold fp_upf; split
      · omega
      · exact o1 t t0 t1
    · rw [fp_spl3]; unfold fp_upf; split
      · omega
      · exact o2 y y0 y1
    · rw [fp_spl4]; split
      · have := o3 (i + 1) (by omega) (by omega)
        rw [show (i + 1).toNat = i.toNat + 1 by omega] at this
        exact this
      · exact o3 i i0 i1
theorem cl_ins (h : clIs M k g pg) (hP : pgOk g pg) (hg : gOk g) {t x : Int} {s : Nat} (ht : 0 ≤ t ∧ t < g.1) (hh : 0 ≤ pg.1 t ∧ pg.1 t ≤ 3) (hx : 0 ≤ x ∧ x < g.2.1) (hl : (pg.2.2 x).length < 8) (hs : s ≤ (pg.2.2 x).length) : clIs (pl_ins M k t x s) k g (aIns pg t x s) := by
  have hx3 : x < 3 := by have := hg.2.1.2; omega
  obtain ⟨h1, h2, h3⟩ := h.line hP hx hg
  have hgn := hg.1
  unfold pl_ins
  rw [h1]
  obtain ⟨c1, c2, c3, c4, o1, o2, o3⟩ := h
  refine ⟨fun u t0 t1 => ?_, fun u t0 t1 => ?_, fun u t0 t1 => ?_, fun y y0 y3 => ?_, ?_⟩
  · rw [fp_spl1]
    show fp_upf _ _ _ _ = fp_ui _ _ _ _
    unfold fp_upf fp_ui
    by_cases e : u = t
    · rw [if_pos (by rw [e]), if_pos e]
    · rw [if_neg (by omega), if_neg e]; exact c1 u t0 t1
  · rw [fp_spl1, fp_upf_ne (by omega)]; exact c2 u t0 t1
  · rw [fp_spl2]
    show _ = if fp_ui pg.1 t (10 + x) u < 10 then -4 else fp_ui pg.2.1 t (pg.1 t) u
    unfold fp_upf fp_ui
    by_cases e : u = t
    · rw [if_pos (by rw [e]), if_pos e, if_neg (by omega), if_pos e]; exact c1 t ht.1 ht.2
    · rw [if_neg (by omega), if_neg e, if_neg e]; exact c3 u t0 t1
  · rw [fp_spl3, fp_spl4]
    show _ = (List.length (fp_ui pg.2.2 x _ y) : Int) ∧ ∀ i : Int, 0 ≤ i → i < (List.length (fp_ui pg.2.2 x _ y) : Int) → _ = List.getD (fp_ui pg.2.2 x _ y) i.toNat 0
    have hl8 := (hP.2.1 y y0 y3).1
    by_cases e : y = x
    · subst e
      rw [fp_ui_at, fp_upf_at, List.length_insertIdx_of_le_length hs]
      refine ⟨by omega, fun i i0 i1 => ?_⟩
      try dsimp only
      rw [fp_insD _ _ _ _ hs]
      by_cases hi : i < s
      · rw [if_neg (by omega), if_neg (by omega), if_pos (by omega)]
        exact (h2 i i0 (by omega)).1
      · by_cases hi2 : i = s
        · rw [if_pos (by omega), if_neg (by omega), if_pos (by omega)]
        · rw [if_neg (by omega), if_pos (by omega), if_neg (by omega), if_neg (by omega)]
          have := (h2 (i - 1) (by omega) (by omega)).1
          rw [show (y * 8 + (i - 1)).toNat = (y * 8 + i).toNat - 1 by omega, show (i - 1).toNat = i.toNat - 1 by omega] at this
          exact this
    · rw [fp_ui_ne e, fp_upf_ne (by omega)]
      obtain ⟨q1, q2⟩ := c4 y y0 y3
      refine ⟨q1, fun i i0 i1 => ?_⟩
      try dsimp only
      rw [if_neg (by omega), if_neg (by omega)]
      exact q2 i i0 i1
  · refine ⟨fun u t0 t1 => ?_, fun y y0 y1 => ?_, fun i i0 i1 => ?_⟩
    · rw [fp_spl1]; unfold fp_upf; split
      · omega
      · exact o1 u t0 t1
    · rw [fp_spl3]; unfold fp_upf; split
      · omega
      · exact o2 y y0 y1
    · rw [fp_spl4]; split
      · omega
      · split
        · have := o3 (i - 1) (by omega) (by omega)
          rw [show (i - 1).toNat = i.toNat - 1 by omega] at this
          exact this
        · exact o3 i i0 i1
end CRP
end
section
/-! PLACES in the bank's own words; VISITS -/
theorem fp_Okg.weaken {l : Launch} {G : fp_WG} {d n mc ms : Nat} {Y : fp_MR} {a : List Value} {M : fp_Mem} {Q Q' : fp_Q} (h : fp_Okg l G d n mc ms Y a M Q) (hq : ∀ r M', Q r M' → Q' r M') : fp_Okg l G d n mc ms Y a M Q' := by
  intro p e h1 h2 h3 s m args below h4 h5 h6 h7
  obtain ⟨k, o, a1, a2, a3, ⟨r, M', e1, e2, e3⟩, L⟩ := h p e h1 h2 h3 s m args below h4 h5 h6 h7
  exact ⟨k, o, a1, a2, a3, ⟨r, M', e1, hq r M' e2, e3⟩, L⟩
theorem fp_Ok.weaken {l : Launch} {G : fp_WG} {d : Nat} {Y : fp_MR} {a : List Value} {M : fp_Mem} {Q Q' : fp_Q} (h : fp_Ok l G d Y a M Q) (hq : ∀ r M', Q r M' → Q' r M') : fp_Ok l G d Y a M Q' := fp_Okg.weaken h (fun r X ⟨M', e, q⟩ => ⟨M', e, hq r M' q⟩)
theorem fp_Ok.toI {l : Launch} {G : fp_WG} {d : Nat} {Y : fp_MR} {a : List Value} {M N : fp_Mem} {f : Int} {P : Int → fp_Mem → Prop} (h : fp_Ok l G d Y a M (qE f N)) (hq : P f N) : fp_Ok l G d Y a M (qI P) := h.weaken (fun r M' ⟨z, e, e1, e2⟩ => ⟨z, e, by subst e1; subst e2; exact hq⟩)
theorem fp_Ok.toV {l : Launch} {G : fp_WG} {d : Nat} {Y : fp_MR} {a : List Value} {M N : fp_Mem} {P : fp_Mem → Prop} (h : fp_Ok l G d Y a M (qW N)) (hq : P N) : fp_Ok l G d Y a M (qV P) := h.weaken (fun r M' ⟨e, e2⟩ => ⟨e, by rw [show M' = N from e2]; exact hq⟩)
def aApp (pg : aPg) (p t x : Int) : Int × aPg := if pg.1 t = p ∧ (pg.2.2 x).length < 8 then (1, aIns pg t x (pg.2.2 x).length) else (0, pg)
abbrev aVt : Type := Int × Int × Int × Int
def aHap (g : aGd) (pg : aPg) (v : aVt) : Int × aPg := if v.2.2.2 = -4 then (if pg.2.2 v.2.2.1 = [] then 0 else 1, aDraw g pg v.2.1 v.2.2.1) else aApp pg v.2.1 v.2.2.2 v.2.2.1
def aV0 : aVt := (0, 0, 0, -4)
def aHapI (g : aGd) (pg : aPg) (vs : List aVt) (i : Int) : Int × aPg := if 0 ≤ i ∧ i < vs.length then aHap g pg (vs.getD i.toNat aV0) else (0, pg)
def vOk (g : aGd) (v : aVt) : Prop := (0 ≤ v.1 ∧ v.1 ≤ 99) ∧ (0 ≤ v.2.1 ∧ v.2.1 < 4) ∧ (0 ≤ v.2.2.1 ∧ v.2.2.1 < g.2.1) ∧ (v.2.2.2 = -4 ∨ (0 ≤ v.2.2.2 ∧ v.2.2.2 < g.1))
def vsOk (g : aGd) (vs : List aVt) : Prop := ∀ v ∈ vs, vOk g v
def vsIs (M : fp_Mem) (k : Nat) (vs : List aVt) : Prop := M k 0 = vs.length ∧ vs.length ≤ 12 ∧ ∀ i : Int, 0 ≤ i → i < vs.length → M (k + 1) i.toNat = (vs.getD i.toNat aV0).1 ∧ M (k + 2) i.toNat = (vs.getD i.toNat aV0).2.1 ∧ M (k + 3) i.toNat = (vs.getD i.toNat aV0).2.2.1 ∧ M (k + 4) i.toNat = (vs.getD i.toNat aV0).2.2.2
theorem vsIs.kept {M N : fp_Mem} {k : Nat} {vs : List aVt} (h : vsIs M k vs) (e : ∀ a, k ≤ a → a ≤ k + 4 → N a = M a) : vsIs N k vs := by
  unfold vsIs at *
  rw [e k (by omega) (by omega), e (k + 1) (by omega) (by omega), e (k + 2) (by omega) (by omega), e (k + 3) (by omega) (by omega), e (k + 4) (by omega) (by omega)]
  exact h
theorem vsOk.at {g : aGd} {vs : List aVt} (h : vsOk g vs) {i : Int} (h0 : 0 ≤ i) (h1 : i < vs.length) : vOk g (vs.getD i.toNat aV0) := by
  apply h
  rw [List.getD_eq_getElem?_getD, List.getElem?_eq_getElem (by omega)]
  exact List.getElem_mem _
theorem aApp_ok {g : aGd} {pg : aPg} {p t x : Int} (hg : gOk g) (h : pgOk g pg) (hp : 0 ≤ p ∧ p < 4) (ht : 0 ≤ t ∧ t < g.1) (hx : 0 ≤ x ∧ x < g.2.1) : pgOk g (aApp pg p t x).2 := by
  unfold aApp
  split
  · rename_i hc
    exact aIns_ok hg h ht ⟨by omega, by omega⟩ hx hc.2 (Nat.le_refl _)
  · exact h
theorem aHap_ok {g : aGd} {pg : aPg} {v : aVt} (hg : gOk g) (h : pgOk g pg) (hv : vOk g v) : pgOk g (aHap g pg v).2 := by
  unfold aHap
  split
  · exact aDraw_ok hg h hv.2.1 hv.2.2.1
  · rename_i hne
    exact aApp_ok hg h hv.2.1 (by have := hv.2.2.2; omega) hv.2.2.1
theorem aHapI_ok {g : aGd} {pg : aPg} {vs : List aVt} {i : Int} (hg : gOk g) (h : pgOk g pg) (hv : vsOk g vs) : pgOk g (aHapI g pg vs i).2 := by
  unfold aHapI
  split
  · rename_i hi
    exact aHap_ok hg h (hv.at hi.1 hi.2)
  · exact h
theorem aHap_01 (g : aGd) (pg : aPg) (v : aVt) : (aHap g pg v).1 = 0 ∨ (aHap g pg v).1 = 1 := by
  unfold aHap aApp
  split
  · show (if _ then (0 : Int) else 1) = 0 ∨ (if _ then (0 : Int) else 1) = 1
    split <;> simp
  · split <;> simp
theorem aHapI_01 (g : aGd) (pg : aPg) (vs : List aVt) (i : Int) : (aHapI g pg vs i).1 = 0 ∨ (aHapI g pg vs i).1 = 1 := by
  unfold aHapI
  split
  · exact aHap_01 _ _ _
  · simp
theorem frP.refl (M : fp_Mem) (k : Nat) : frP M M k := fun _ _ => rfl
theorem frP.trans {M N O : fp_Mem} {k : Nat} (h1 : frP M N k) (h2 : frP N O k) : frP M O k := fun a h => (h2 a h).trans (h1 a h)
theorem frP.gd {M N : fp_Mem} {k kg : Nat} {g : aGd} (h : frP M N k) (hk : fp_ispl k) (hkg : fp_isgd kg) (hd : gdIs M kg g) : gdIs N kg g := hd.kept (fun a h0 h1 => h a (by have := pl_gd hk hkg; omega))
theorem frP.vs {M N : fp_Mem} {k kv : Nat} {vs : List aVt} (h : frP M N k) (hk : fp_ispl k) (hkv : fp_isvs kv) (hd : vsIs M kv vs) : vsIs N kv vs := hd.kept (fun a h0 h1 => h a (by have := pl_vs hk hkv; omega))
theorem frP.cl {M N : fp_Mem} {k k2 : Nat} {g : aGd} {pg : aPg} (h : frP M N k) (hk : fp_ispl k) (hk2 : fp_ispl k2) (hne : k ≠ k2) (hd : clIs M k2 g pg) : clIs N k2 g pg := hd.kept (fun a h0 h1 => h a (by have := pl_pl hk hk2 hne; omega))
section RLP
variable {l : Launch} {G : fp_WG} {M : fp_Mem} {k kg kv : Nat} {g : aGd} {pg : aPg} {vs : List aVt}
theorem rk_X5_gives {x : Int} (hk : fp_ispl k) (hkg : fp_isgd kg) (hc : clIs M k g pg := by assumption) (hd : gdIs M kg g := by assumption) (hP : pgOk g pg := by assumption) (hg : gOk g := by assumption) (hx : 0 ≤ x ∧ x < g.2.1 := by first | assumption | omega) : fp_Ok l G 1 kX5_gives [rV G k, rV G kg, iV x] M (qE (aGv g pg x) M) := by
  rw [← cl_gives hc hd hP hg hx]
  exact ok_X5_gives hk hkg hc.2.2.2.2 hd.2.2.2.2.2.2.2.2 ⟨hx.1, by have := hg.2.1.2; omega⟩
theorem rk_X5_giveTo {p x : Int} (hk : fp_ispl k) (hkg : fp_isgd kg) (hc : clIs M k g pg := by assumption) (hd : gdIs M kg g := by assumption) (hP : pgOk g pg := by assumption) (hg : gOk g := by assumption) (hp : 0 ≤ p ∧ p < 4 := by first | assumption | omega) (hx : 0 ≤ x ∧ x < g.2.1 := by first | assumption | omega) : fp_Ok l G 1 kX5_giveTo [rV G k, rV G kg, iV p, iV x] M (qI fun z N => z = aGv g pg x ∧ clIs N k g (aDraw g pg p x) ∧ frP M N k) := by
  refine (ok_X5_giveTo hk hkg hc.2.2.2.2 hd.2.2.2.2.2.2.2.2 (by unfold fp_rng; omega) ⟨hx.1, by have := hg.2.1.2; omega⟩).toI ⟨cl_gives hc hd hP hg hx, cl_draw hc hd hP hg hp hx, fun a ha => ?_⟩
  split
  · rfl
  · unfold pl_give; exact fp_splo ha
theorem rk_X5_append {p t x : Int} (hk : fp_ispl k) (hc : clIs M k g pg := by assumption) (hP : pgOk g pg := by assumption) (hg : gOk g := by assumption) (hp : 0 ≤ p ∧ p < 4 := by first | assumption | omega) (ht : 0 ≤ t ∧ t < g.1 := by first | assumption | omega) (hx : 0 ≤ x ∧ x < g.2.1 := by first | assumption | omega) : fp_Ok l G 1 kX5_append [rV G k, iV p, iV t, iV x] M (qI fun z N => z = (aApp pg p t x).1 ∧ clIs N k g (aApp pg p t x).2 ∧ frP M N k) := by
  have hg1 := hg.1.2
  have hg2 := hg.2.1.2
  refine (ok_X5_append hk hc.2.2.2.2 (by unfold fp_rng; omega) ⟨ht.1, by omega⟩ ⟨hx.1, by omega⟩).toI ?_
  obtain ⟨h1, h2, h3⟩ := hc.line hP hx hg
  rw [hc.1 t ht.1 ht.2, h1]
  unfold aApp
  by_cases hcn : pg.1 t = p ∧ (pg.2.2 x).length < 8
  · have hcz : pg.1 t = p ∧ ((pg.2.2 x).length : Int) < 8 := ⟨hcn.1, by omega⟩
    simp only [if_pos hcz, if_pos hcn]
    exact ⟨trivial, cl_ins hc hP hg ht ⟨by omega, by omega⟩ hx hcn.2 (Nat.le_refl _), fun a ha => by unfold pl_ins; exact fp_splo ha⟩
  · have hcz : ¬ (pg.1 t = p ∧ ((pg.2.2 x).length : Int) < 8) := by omega
    simp only [if_neg hcz, if_neg hcn]
    exact ⟨trivial, hc, frP.refl _ _⟩
theorem rk_X5_insert {t x s : Int} (hk : fp_ispl k) (hc : clIs M k g pg := by assumption) (hP : pgOk g pg := by assumption) (hg : gOk g := by assumption) (ht : 0 ≤ t ∧ t < g.1 := by first | assumption | omega) (hh : 0 ≤ pg.1 t ∧ pg.1 t ≤ 3 := by first | assumption | omega) (hx : 0 ≤ x ∧ x < g.2.1 := by first | assumption | omega) (hs : 0 ≤ s ∧ s ≤ (pg.2.2 x).length := by first | assumption | omega) : fp_Ok l G 0 kX5_insert [rV G k, iV t, iV x, iV s] M (qI fun z N => z = (if 8 ≤ (pg.2.2 x).length then 0 else 1) ∧ clIs N k g (if 8 ≤ (pg.2.2 x).length then pg else aIns pg t x s.toNat) ∧ frP M N k) := by
  have hg1 := hg.1.2
  have hg2 := hg.2.1.2
  obtain ⟨h1, h2, h3⟩ := hc.line hP hx hg
  refine (ok_X5_insert hk hc.2.2.2.2 ⟨ht.1, by omega⟩ ⟨hx.1, by omega⟩ hs.1 (by rw [h1]; exact hs.2)).toI ?_
  rw [h1]
  by_cases hcn : 8 ≤ (pg.2.2 x).length
  · have hcz : 8 ≤ ((pg.2.2 x).length : Int) := by omega
    simp only [if_pos hcz, if_pos hcn]
    exact ⟨trivial, hc, frP.refl _ _⟩
  · have hcz : ¬ 8 ≤ ((pg.2.2 x).length : Int) := by omega
    simp only [if_neg hcz, if_neg hcn]
    have := cl_ins (s := s.toNat) hc hP hg ht hh hx (by omega) (by omega)
    rw [Int.toNat_of_nonneg hs.1] at this
    exact ⟨trivial, this, fun a ha => by unfold pl_ins; exact fp_splo ha⟩
theorem ok_X10_has {i : Int} (hv : fp_isvs kv) (hi : fp_rng i := by first | assumption | (unfold fp_rng; omega)) (hm : fp_rng (M kv 0) := by first | assumption | (unfold fp_rng; omega)) : fp_Ok l G 0 kX10_has [rV G kv, iV i] M (qE (if 0 ≤ i ∧ i < M kv 0 then 1 else 0) M) := by
  refine fp_Ok.of (r := 0) rfl (Nat.le_of_ble_eq_true rfl) rfl ?_
  refine S.iload_n dX10_has_0 rfl rfl rfl ?_
  refine S.if_lt (tgt := 16) dX10_has_1 (by decide) rfl hi (fun h1 => ?_) (fun h1 => ?_)
  · refine S.iconst dX10_has_16 rfl ?_
    refine S.zret dX10_has_17 rfl (by first | exact Or.inl rfl | exact Or.inr rfl | omega) ?_
    refine ⟨?_, rfl⟩
    first | rw [if_pos ⟨by omega, by omega⟩] | rw [if_neg (by omega)]
  · refine S.iload_n dX10_has_4 rfl rfl rfl ?_
    refine S.aload_n dX10_has_5 rfl rfl rfl ?_
    refine S.getI dX10_has_6 rfl fX10_24 (vs_lay hv) ?_
    refine S.icmp_ge (tgt := 16) dX10_has_9 (by decide) rfl hi hm (fun h9 => ?_) (fun h9 => ?_)
    · refine S.iconst dX10_has_16 rfl ?_
      refine S.zret dX10_has_17 rfl (by first | exact Or.inl rfl | exact Or.inr rfl | omega) ?_
      refine ⟨?_, rfl⟩
      first | rw [if_pos ⟨by omega, by omega⟩] | rw [if_neg (by omega)]
    · refine S.iconst dX10_has_12 rfl ?_
      refine S.goto (pc' := 17) dX10_has_13 (by decide) ?_
      refine S.zret dX10_has_17 rfl (by first | exact Or.inl rfl | exact Or.inr rfl | omega) ?_
      refine ⟨?_, rfl⟩
      first | rw [if_pos ⟨by omega, by omega⟩] | rw [if_neg (by omega)]
theorem ok_X10_isDraw {i : Int} (hv : fp_isvs kv) (hi : 0 ≤ i ∧ i < 12 := by first | assumption | omega) (hm : fp_rng (M (kv + 4) i.toNat) := by first | assumption | (unfold fp_rng; omega)) : fp_Ok l G 0 kX10_isDraw [rV G kv, iV i] M (qE (if M (kv + 4) i.toNat = -4 then 1 else 0) M) := by
  refine fp_Ok.of (r := 0) rfl (Nat.le_of_ble_eq_true rfl) rfl ?_
  refine S.aload_n dX10_isDraw_0 rfl rfl rfl ?_
  refine S.getR dX10_isDraw_1 rfl fX10_21 (vs_lay hv) (vs_r4 hv) ?_
  refine S.iload_n dX10_isDraw_4 rfl rfl rfl ?_
  refine S.iald dX10_isDraw_5 rfl (vs_a4 hv) (by omega) (by omega) ?_
  refine S.bipush dX10_isDraw_6 rfl (by decide) ?_
  refine S.icmp_ne (tgt := 15) dX10_isDraw_8 (by decide) rfl hm (by unfold fp_rng; omega) (fun h8 => ?_) (fun h8 => ?_)
  · refine S.iconst dX10_isDraw_15 rfl ?_
    refine S.zret dX10_isDraw_16 rfl (by first | exact Or.inl rfl | exact Or.inr rfl | omega) ?_
    refine ⟨?_, rfl⟩
    first | rw [if_pos (by omega)] | rw [if_neg (by omega)]
  · refine S.iconst dX10_isDraw_11 rfl ?_
    refine S.goto (pc' := 16) dX10_isDraw_12 (by decide) ?_
    refine S.zret dX10_isDraw_16 rfl (by first | exact Or.inl rfl | exact Or.inr rfl | omega) ?_
    refine ⟨?_, rfl⟩
    first | rw [if_pos (by omega)] | rw [if_neg (by omega)]
theorem vsIs.at (h : vsIs M kv vs) (ho : vsOk g vs) (hg : gOk g) {i : Int} (h0 : 0 ≤ i) (h1 : i < vs.length) : (0 ≤ M (kv + 1) i.toNat ∧ M (kv + 1) i.toNat ≤ 99) ∧ (0 ≤ M (kv + 2) i.toNat ∧ M (kv + 2) i.toNat < 4) ∧ (0 ≤ M (kv + 3) i.toNat ∧ M (kv + 3) i.toNat < g.2.1) ∧ (M (kv + 4) i.toNat = -4 ∨ (0 ≤ M (kv + 4) i.toNat ∧ M (kv + 4) i.toNat < g.1)) := by
  obtain ⟨e1, e2, e3, e4⟩ := h.2.2 i h0 h1
  have := ho.at h0 h1
  rw [e1, e2, e3, e4]
  exact this
theorem rk_X10_happens {i : Int} (hkv : fp_isvs kv) (hkg : fp_isgd kg) (hk : fp_ispl k) (hv : vsIs M kv vs := by assumption) (hd : gdIs M kg g := by assumption) (hc : clIs M k g pg := by assumption) (hP : pgOk g pg := by assumption) (hg : gOk g := by assumption) (hvo : vsOk g vs := by assumption) (hi : 0 ≤ i ∧ i ≤ 12 := by first | assumption | omega) : fp_Ok l G 2 kX10_happens [rV G kv, rV G kg, rV G k, iV i] M (qI fun z N => z = (aHapI g pg vs i).1 ∧ clIs N k g (aHapI g pg vs i).2 ∧ frP M N k) := by
  have hg1 := hg.1.2
  have hg2 := hg.2.1.2
  have hl := hv.1
  have hl2 := hv.2.1
  refine fp_Ok.of (r := 0) rfl (Nat.le_of_ble_eq_true rfl) rfl ?_
  unfold aHapI
  by_cases hin : 0 ≤ i ∧ i < vs.length
  · rw [if_pos hin]
    have hb := hv.at hvo hg hin.1 hin.2
    obtain ⟨e1, e2, e3, e4⟩ := hv.2.2 i hin.1 hin.2
    unfold aHap
    by_cases hdr : M (kv + 4) i.toNat = -4
    · rw [if_pos (by rw [← e4]; exact hdr), ← e2, ← e3]
      refine S.aload_n dX10_happens_0 rfl rfl rfl ?_
      refine S.iload_n dX10_happens_1 rfl rfl rfl ?_
      refine S.callVe dX10_happens_2 rfl cX10_42 (ok_X10_has hkv) rfl (vs_lay hkv) (by decide) rfl (Nat.le_of_ble_eq_true rfl) ?_
      rw [if_pos ⟨by omega, by omega⟩]
      refine S.if_ne (tgt := 10) dX10_happens_5 (by decide) rfl (by unfold fp_rng; omega) (fun h5 => ?_) (fun h5 => ?_)
      · refine S.aload_n dX10_happens_10 rfl rfl rfl ?_
        refine S.iload_n dX10_happens_11 rfl rfl rfl ?_
        refine S.callVe dX10_happens_12 rfl cX10_34 (ok_X10_isDraw hkv) rfl (vs_lay hkv) (by decide) rfl (Nat.le_of_ble_eq_true rfl) ?_
        rw [if_pos hdr]
        refine S.if_eq (tgt := 46) dX10_happens_15 (by decide) rfl (by unfold fp_rng; omega) (fun h15 => ?_) (fun h15 => ?_)
        · exfalso; omega
        · refine S.aload_n dX10_happens_18 rfl rfl rfl ?_
          refine S.aload_n dX10_happens_19 rfl rfl rfl ?_
          refine S.aload_n dX10_happens_20 rfl rfl rfl ?_
          refine S.getR dX10_happens_21 rfl fX10_15 (vs_lay hkv) (vs_r2 hkv) ?_
          refine S.iload_n dX10_happens_24 rfl rfl rfl ?_
          refine S.iald dX10_happens_25 rfl (vs_a2 hkv) (by omega) (by omega) ?_
          refine S.aload_n dX10_happens_26 rfl rfl rfl ?_
          refine S.getR dX10_happens_27 rfl fX10_18 (vs_lay hkv) (vs_r3 hkv) ?_
          refine S.iload_n dX10_happens_30 rfl rfl rfl ?_
          refine S.iald dX10_happens_31 rfl (vs_a3 hkv) (by omega) (by omega) ?_
          refine S.callVi dX10_happens_32 rfl cX10_45 (rk_X5_giveTo hk hkg) rfl (pl_lay hk) (by decide) rfl (Nat.le_of_ble_eq_true rfl) (fun z32 M32 q32 => ?_)
          obtain ⟨rfl, c32, f32⟩ := q32
          have hgv : pg.2.2 (M (kv + 3) i.toNat) = [] ∨ (0 ≤ aGv g pg (M (kv + 3) i.toNat) ∧ aGv g pg (M (kv + 3) i.toNat) < g.1) := by
            by_cases q : pg.2.2 (M (kv + 3) i.toNat) = []
            · exact Or.inl q
            · have := (hP.2.1 _ hb.2.2.1.1 (by omega)).2.2.2 _ (aGv_mem (g := g) q)
              exact Or.inr ⟨this.1, this.2.1⟩
          have hgv2 : pg.2.2 (M (kv + 3) i.toNat) = [] → aGv g pg (M (kv + 3) i.toNat) = -4 := fun q => by unfold aGv; rw [if_pos q]
          refine S.bipush dX10_happens_35 rfl (by decide) ?_
          refine S.icmp_eq (tgt := 44) dX10_happens_37 (by decide) rfl (by unfold fp_rng; rcases hgv with q | q; (have := hgv2 q; omega); omega) (by unfold fp_rng; omega) (fun h37 => ?_) (fun h37 => ?_)
          · refine S.iconst dX10_happens_44 rfl ?_
            refine S.zret dX10_happens_45 rfl (by first | exact Or.inl rfl | exact Or.inr rfl | omega) ?_
            first | (exfalso; omega) | (refine ⟨?_, c32, f32⟩; show _ = if _ then (0 : Int) else 1; first | (rw [if_neg (fun q => by have := hgv2 q; omega)]; done) | (rw [if_pos (by rcases hgv with q | q; exact q; exfalso; omega)]; done))
          · refine S.iconst dX10_happens_40 rfl ?_
            refine S.goto (pc' := 45) dX10_happens_41 (by decide) ?_
            refine S.zret dX10_happens_45 rfl (by first | exact Or.inl rfl | exact Or.inr rfl | omega) ?_
            first | (exfalso; omega) | (refine ⟨?_, c32, f32⟩; show _ = if _ then (0 : Int) else 1; first | (rw [if_neg (fun q => by have := hgv2 q; omega)]; done) | (rw [if_pos (by rcases hgv with q | q; exact q; exfalso; omega)]; done))
      · refine S.iconst dX10_happens_8 rfl ?_
        refine S.zret dX10_happens_9 rfl (by first | exact Or.inl rfl | exact Or.inr rfl | omega) ?_
        first | (exfalso; omega) | (refine ⟨?_, c32, f32⟩; show _ = if _ then (0 : Int) else 1; first | (rw [if_neg (fun q => by have := hgv2 q; omega)]; done) | (rw [if_pos (by rcases hgv with q | q; exact q; exfalso; omega)]; done))
    · rw [if_neg (by rw [← e4]; exact hdr), ← e2, ← e3, ← e4]
      refine S.aload_n dX10_happens_0 rfl rfl rfl ?_
      refine S.iload_n dX10_happens_1 rfl rfl rfl ?_
      refine S.callVe dX10_happens_2 rfl cX10_42 (ok_X10_has hkv) rfl (vs_lay hkv) (by decide) rfl (Nat.le_of_ble_eq_true rfl) ?_
      rw [if_pos ⟨by omega, by omega⟩]
      refine S.if_ne (tgt := 10) dX10_happens_5 (by decide) rfl (by unfold fp_rng; omega) (fun h5 => ?_) (fun h5 => ?_)
      · refine S.aload_n dX10_happens_10 rfl rfl rfl ?_
        refine S.iload_n dX10_happens_11 rfl rfl rfl ?_
        refine S.callVe dX10_happens_12 rfl cX10_34 (ok_X10_isDraw hkv) rfl (vs_lay hkv) (by decide) rfl (Nat.le_of_ble_eq_true rfl) ?_
        rw [if_neg hdr]
        refine S.if_eq (tgt := 46) dX10_happens_15 (by decide) rfl (by unfold fp_rng; omega) (fun h15 => ?_) (fun h15 => ?_)
        · refine S.aload_n dX10_happens_46 rfl rfl rfl ?_
          refine S.aload_n dX10_happens_47 rfl rfl rfl ?_
          refine S.getR dX10_happens_48 rfl fX10_15 (vs_lay hkv) (vs_r2 hkv) ?_
          refine S.iload_n dX10_happens_51 rfl rfl rfl ?_
          refine S.iald dX10_happens_52 rfl (vs_a2 hkv) (by omega) (by omega) ?_
          refine S.aload_n dX10_happens_53 rfl rfl rfl ?_
          refine S.getR dX10_happens_54 rfl fX10_21 (vs_lay hkv) (vs_r4 hkv) ?_
          refine S.iload_n dX10_happens_57 rfl rfl rfl ?_
          refine S.iald dX10_happens_58 rfl (vs_a4 hkv) (by omega) (by omega) ?_
          refine S.aload_n dX10_happens_59 rfl rfl rfl ?_
          refine S.getR dX10_happens_60 rfl fX10_18 (vs_lay hkv) (vs_r3 hkv) ?_
          refine S.iload_n dX10_happens_63 rfl rfl rfl ?_
          refine S.iald dX10_happens_64 rfl (vs_a3 hkv) (by omega) (by omega) ?_
          refine S.callVi dX10_happens_65 rfl cX10_51 (rk_X5_append hk) rfl (pl_lay hk) (by decide) rfl (Nat.le_of_ble_eq_true rfl) (fun z65 M65 q65 => ?_)
          refine S.zret dX10_happens_68 rfl (by rw [q65.1]; unfold aApp; split <;> simp) ?_
          first | (exfalso; omega) | exact q65
        · exfalso; omega
      · refine S.iconst dX10_happens_8 rfl ?_
        refine S.zret dX10_happens_9 rfl (by first | exact Or.inl rfl | exact Or.inr rfl | omega) ?_
        first | (exfalso; omega) | exact q65
  · rw [if_neg hin]
    refine S.aload_n dX10_happens_0 rfl rfl rfl ?_
    refine S.iload_n dX10_happens_1 rfl rfl rfl ?_
    refine S.callVe dX10_happens_2 rfl cX10_42 (ok_X10_has hkv) rfl (vs_lay hkv) (by decide) rfl (Nat.le_of_ble_eq_true rfl) ?_
    rw [if_neg (by omega)]
    refine S.if_ne (tgt := 10) dX10_happens_5 (by decide) rfl (by unfold fp_rng; omega) (fun h5 => ?_) (fun h5 => ?_)
    · exfalso; omega
    · refine S.iconst dX10_happens_8 rfl ?_
      refine S.zret dX10_happens_9 rfl (by first | exact Or.inl rfl | exact Or.inr rfl | omega) ?_
      exact ⟨rfl, hc, frP.refl _ _⟩
end RLP
end
