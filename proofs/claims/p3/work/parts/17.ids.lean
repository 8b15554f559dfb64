/-! BY PROGRAM (tools/mkids.py): which cells are what -/
def fp_plL : List Nat := [7, 22, 41, 46, 51, 56, 61, 66, 71, 76, 81, 86, 91, 96, 101, 106, 111, 116, 144, 157]
def fp_ispl (k : Nat) : Prop := k ∈ fp_plL
theorem pl_lay {k : Nat} (h : fp_ispl k) : fp_lay k = (0, 5) := (by decide +kernel : ∀ k ∈ fp_plL, fp_lay k = (0, 5)) k h
theorem pl_lt {k : Nat} (h : fp_ispl k) : k < 203 := (by decide +kernel : ∀ k ∈ fp_plL, k < 203) k h
theorem pl_r0 {k : Nat} (h : fp_ispl k) : fp_ref k 0 = (k + 1) + 1 := (by decide +kernel : ∀ k ∈ fp_plL, fp_ref k 0 = (k + 1) + 1) k h
theorem pl_a0 {k : Nat} (h : fp_ispl k) : fp_lay (k + 1) = (1, 10) := (by decide +kernel : ∀ k ∈ fp_plL, fp_lay (k + 1) = (1, 10)) k h
theorem pl_r1 {k : Nat} (h : fp_ispl k) : fp_ref k 1 = (k + 2) + 1 := (by decide +kernel : ∀ k ∈ fp_plL, fp_ref k 1 = (k + 2) + 1) k h
theorem pl_a1 {k : Nat} (h : fp_ispl k) : fp_lay (k + 2) = (1, 10) := (by decide +kernel : ∀ k ∈ fp_plL, fp_lay (k + 2) = (1, 10)) k h
theorem pl_r2 {k : Nat} (h : fp_ispl k) : fp_ref k 2 = (k + 3) + 1 := (by decide +kernel : ∀ k ∈ fp_plL, fp_ref k 2 = (k + 3) + 1) k h
theorem pl_a2 {k : Nat} (h : fp_ispl k) : fp_lay (k + 3) = (1, 3) := (by decide +kernel : ∀ k ∈ fp_plL, fp_lay (k + 3) = (1, 3)) k h
theorem pl_r3 {k : Nat} (h : fp_ispl k) : fp_ref k 3 = (k + 4) + 1 := (by decide +kernel : ∀ k ∈ fp_plL, fp_ref k 3 = (k + 4) + 1) k h
theorem pl_a3 {k : Nat} (h : fp_ispl k) : fp_lay (k + 4) = (1, 24) := (by decide +kernel : ∀ k ∈ fp_plL, fp_lay (k + 4) = (1, 24)) k h
theorem pl7 : fp_ispl 7 := by unfold fp_ispl; decide
theorem pl22 : fp_ispl 22 := by unfold fp_ispl; decide
theorem pl41 : fp_ispl 41 := by unfold fp_ispl; decide
theorem pl46 : fp_ispl 46 := by unfold fp_ispl; decide
theorem pl51 : fp_ispl 51 := by unfold fp_ispl; decide
theorem pl56 : fp_ispl 56 := by unfold fp_ispl; decide
theorem pl61 : fp_ispl 61 := by unfold fp_ispl; decide
theorem pl66 : fp_ispl 66 := by unfold fp_ispl; decide
theorem pl71 : fp_ispl 71 := by unfold fp_ispl; decide
theorem pl76 : fp_ispl 76 := by unfold fp_ispl; decide
theorem pl81 : fp_ispl 81 := by unfold fp_ispl; decide
theorem pl86 : fp_ispl 86 := by unfold fp_ispl; decide
theorem pl91 : fp_ispl 91 := by unfold fp_ispl; decide
theorem pl96 : fp_ispl 96 := by unfold fp_ispl; decide
theorem pl101 : fp_ispl 101 := by unfold fp_ispl; decide
theorem pl106 : fp_ispl 106 := by unfold fp_ispl; decide
theorem pl111 : fp_ispl 111 := by unfold fp_ispl; decide
theorem pl116 : fp_ispl 116 := by unfold fp_ispl; decide
theorem pl144 : fp_ispl 144 := by unfold fp_ispl; decide
theorem pl157 : fp_ispl 157 := by unfold fp_ispl; decide
def fp_gdL : List Nat := [3, 18]
def fp_isgd (k : Nat) : Prop := k ∈ fp_gdL
theorem gd_lay {k : Nat} (h : fp_isgd k) : fp_lay k = (0, 1) := (by decide +kernel : ∀ k ∈ fp_gdL, fp_lay k = (0, 1)) k h
theorem gd_lt {k : Nat} (h : fp_isgd k) : k < 203 := (by decide +kernel : ∀ k ∈ fp_gdL, k < 203) k h
theorem gd_r3 {k : Nat} (h : fp_isgd k) : fp_ref k 3 = (k + 1) + 1 := (by decide +kernel : ∀ k ∈ fp_gdL, fp_ref k 3 = (k + 1) + 1) k h
theorem gd_a3 {k : Nat} (h : fp_isgd k) : fp_lay (k + 1) = (1, 11) := (by decide +kernel : ∀ k ∈ fp_gdL, fp_lay (k + 1) = (1, 11)) k h
theorem gd_r4 {k : Nat} (h : fp_isgd k) : fp_ref k 4 = (k + 2) + 1 := (by decide +kernel : ∀ k ∈ fp_gdL, fp_ref k 4 = (k + 2) + 1) k h
theorem gd_a4 {k : Nat} (h : fp_isgd k) : fp_lay (k + 2) = (1, 44) := (by decide +kernel : ∀ k ∈ fp_gdL, fp_lay (k + 2) = (1, 44)) k h
theorem gd_r5 {k : Nat} (h : fp_isgd k) : fp_ref k 5 = (k + 3) + 1 := (by decide +kernel : ∀ k ∈ fp_gdL, fp_ref k 5 = (k + 3) + 1) k h
theorem gd_a5 {k : Nat} (h : fp_isgd k) : fp_lay (k + 3) = (1, 3) := (by decide +kernel : ∀ k ∈ fp_gdL, fp_lay (k + 3) = (1, 3)) k h
theorem gd3 : fp_isgd 3 := by unfold fp_isgd; decide
theorem gd18 : fp_isgd 18 := by unfold fp_isgd; decide
def fp_vsL : List Nat := [12, 27, 149, 162]
def fp_isvs (k : Nat) : Prop := k ∈ fp_vsL
theorem vs_lay {k : Nat} (h : fp_isvs k) : fp_lay k = (0, 10) := (by decide +kernel : ∀ k ∈ fp_vsL, fp_lay k = (0, 10)) k h
theorem vs_lt {k : Nat} (h : fp_isvs k) : k < 203 := (by decide +kernel : ∀ k ∈ fp_vsL, k < 203) k h
theorem vs_r1 {k : Nat} (h : fp_isvs k) : fp_ref k 1 = (k + 1) + 1 := (by decide +kernel : ∀ k ∈ fp_vsL, fp_ref k 1 = (k + 1) + 1) k h
theorem vs_a1 {k : Nat} (h : fp_isvs k) : fp_lay (k + 1) = (1, 12) := (by decide +kernel : ∀ k ∈ fp_vsL, fp_lay (k + 1) = (1, 12)) k h
theorem vs_r2 {k : Nat} (h : fp_isvs k) : fp_ref k 2 = (k + 2) + 1 := (by decide +kernel : ∀ k ∈ fp_vsL, fp_ref k 2 = (k + 2) + 1) k h
theorem vs_a2 {k : Nat} (h : fp_isvs k) : fp_lay (k + 2) = (1, 12) := (by decide +kernel : ∀ k ∈ fp_vsL, fp_lay (k + 2) = (1, 12)) k h
theorem vs_r3 {k : Nat} (h : fp_isvs k) : fp_ref k 3 = (k + 3) + 1 := (by decide +kernel : ∀ k ∈ fp_vsL, fp_ref k 3 = (k + 3) + 1) k h
theorem vs_a3 {k : Nat} (h : fp_isvs k) : fp_lay (k + 3) = (1, 12) := (by decide +kernel : ∀ k ∈ fp_vsL, fp_lay (k + 3) = (1, 12)) k h
theorem vs_r4 {k : Nat} (h : fp_isvs k) : fp_ref k 4 = (k + 4) + 1 := (by decide +kernel : ∀ k ∈ fp_vsL, fp_ref k 4 = (k + 4) + 1) k h
theorem vs_a4 {k : Nat} (h : fp_isvs k) : fp_lay (k + 4) = (1, 12) := (by decide +kernel : ∀ k ∈ fp_vsL, fp_lay (k + 4) = (1, 12)) k h
theorem vs12 : fp_isvs 12 := by unfold fp_isvs; decide
theorem vs27 : fp_isvs 27 := by unfold fp_isvs; decide
theorem vs149 : fp_isvs 149 := by unfold fp_isvs; decide
theorem vs162 : fp_isvs 162 := by unfold fp_isvs; decide
def fp_ntL : List Nat := [32, 154, 167]
def fp_isnt (k : Nat) : Prop := k ∈ fp_ntL
theorem nt_lay {k : Nat} (h : fp_isnt k) : fp_lay k = (0, 3) := (by decide +kernel : ∀ k ∈ fp_ntL, fp_lay k = (0, 3)) k h
theorem nt_lt {k : Nat} (h : fp_isnt k) : k < 203 := (by decide +kernel : ∀ k ∈ fp_ntL, k < 203) k h
theorem nt_r1 {k : Nat} (h : fp_isnt k) : fp_ref k 1 = (k + 1) + 1 := (by decide +kernel : ∀ k ∈ fp_ntL, fp_ref k 1 = (k + 1) + 1) k h
theorem nt_a1 {k : Nat} (h : fp_isnt k) : fp_lay (k + 1) = (1, 8) := (by decide +kernel : ∀ k ∈ fp_ntL, fp_lay (k + 1) = (1, 8)) k h
theorem nt32 : fp_isnt 32 := by unfold fp_isnt; decide
theorem nt154 : fp_isnt 154 := by unfold fp_isnt; decide
theorem nt167 : fp_isnt 167 := by unfold fp_isnt; decide
def fp_shL : List Nat := [169, 171, 173, 175]
def fp_issh (k : Nat) : Prop := k ∈ fp_shL
theorem sh_lay {k : Nat} (h : fp_issh k) : fp_lay k = (0, 9) := (by decide +kernel : ∀ k ∈ fp_shL, fp_lay k = (0, 9)) k h
theorem sh_lt {k : Nat} (h : fp_issh k) : k < 203 := (by decide +kernel : ∀ k ∈ fp_shL, k < 203) k h
theorem sh_r2 {k : Nat} (h : fp_issh k) : fp_ref k 2 = (k + 1) + 1 := (by decide +kernel : ∀ k ∈ fp_shL, fp_ref k 2 = (k + 1) + 1) k h
theorem sh_a2 {k : Nat} (h : fp_issh k) : fp_lay (k + 1) = (1, 40) := (by decide +kernel : ∀ k ∈ fp_shL, fp_lay (k + 1) = (1, 40)) k h
theorem sh169 : fp_issh 169 := by unfold fp_issh; decide
theorem sh171 : fp_issh 171 := by unfold fp_issh; decide
theorem sh173 : fp_issh 173 := by unfold fp_issh; decide
theorem sh175 : fp_issh 175 := by unfold fp_issh; decide
def fp_imL : List Nat := [143, 156]
def fp_isim (k : Nat) : Prop := k ∈ fp_imL
theorem im_lay {k : Nat} (h : fp_isim k) : fp_lay k = (0, 2) := (by decide +kernel : ∀ k ∈ fp_imL, fp_lay k = (0, 2)) k h
theorem im_lt {k : Nat} (h : fp_isim k) : k < 203 := (by decide +kernel : ∀ k ∈ fp_imL, k < 203) k h
theorem im_r1 {k : Nat} (h : fp_isim k) : fp_ref k 1 = (k + 1) + 1 := (by decide +kernel : ∀ k ∈ fp_imL, fp_ref k 1 = (k + 1) + 1) k h
theorem im_o1 {k : Nat} (h : fp_isim k) : fp_ispl (k + 1) := (by decide +kernel : ∀ k ∈ fp_imL, k + 1 ∈ fp_plL) k h
theorem im_r2 {k : Nat} (h : fp_isim k) : fp_ref k 2 = (k + 6) + 1 := (by decide +kernel : ∀ k ∈ fp_imL, fp_ref k 2 = (k + 6) + 1) k h
theorem im_o2 {k : Nat} (h : fp_isim k) : fp_isvs (k + 6) := (by decide +kernel : ∀ k ∈ fp_imL, k + 6 ∈ fp_vsL) k h
theorem im_r3 {k : Nat} (h : fp_isim k) : fp_ref k 3 = (k + 11) + 1 := (by decide +kernel : ∀ k ∈ fp_imL, fp_ref k 3 = (k + 11) + 1) k h
theorem im_o3 {k : Nat} (h : fp_isim k) : fp_isnt (k + 11) := (by decide +kernel : ∀ k ∈ fp_imL, k + 11 ∈ fp_ntL) k h
theorem im143 : fp_isim 143 := by unfold fp_isim; decide
theorem im156 : fp_isim 156 := by unfold fp_isim; decide
theorem stg_r {z : Int} (h0 : 0 ≤ z) (h1 : z < 13) : fp_ref 35 z.toNat = (41 + 5 * z.toNat) + 1 := (by decide +kernel : ∀ i, i < 13 → fp_ref 35 i = (41 + 5 * i) + 1) z.toNat (by omega)
theorem stg_o {z : Int} (h0 : 0 ≤ z) (h1 : z < 13) : fp_ispl (41 + 5 * z.toNat) := (by decide +kernel : ∀ i, i < 13 → 41 + 5 * i ∈ fp_plL) z.toNat (by omega)
theorem trk_r {z : Int} (h0 : 0 ≤ z) (h1 : z < 3) : fp_ref 36 z.toNat = (106 + 5 * z.toNat) + 1 := (by decide +kernel : ∀ i, i < 3 → fp_ref 36 i = (106 + 5 * i) + 1) z.toNat (by omega)
theorem trk_o {z : Int} (h0 : 0 ≤ z) (h1 : z < 3) : fp_ispl (106 + 5 * z.toNat) := (by decide +kernel : ∀ i, i < 3 → 106 + 5 * i ∈ fp_plL) z.toNat (by omega)
theorem img_r {z : Int} (h0 : 0 ≤ z) (h1 : z < 2) : fp_ref 141 z.toNat = (143 + 13 * z.toNat) + 1 := (by decide +kernel : ∀ i, i < 2 → fp_ref 141 i = (143 + 13 * i) + 1) z.toNat (by omega)
theorem img_o {z : Int} (h0 : 0 ≤ z) (h1 : z < 2) : fp_isim (143 + 13 * z.toNat) := (by decide +kernel : ∀ i, i < 2 → 143 + 13 * i ∈ fp_imL) z.toNat (by omega)
theorem shs_r {z : Int} (h0 : 0 ≤ z) (h1 : z < 4) : fp_ref 142 z.toNat = (169 + 2 * z.toNat) + 1 := (by decide +kernel : ∀ i, i < 4 → fp_ref 142 i = (169 + 2 * i) + 1) z.toNat (by omega)
theorem shs_o {z : Int} (h0 : 0 ≤ z) (h1 : z < 4) : fp_issh (169 + 2 * z.toNat) := (by decide +kernel : ∀ i, i < 4 → 169 + 2 * i ∈ fp_shL) z.toNat (by omega)
theorem drw_r {z : Int} (h0 : 0 ≤ z) (h1 : z < 7) : fp_ref 124 z.toNat = (125 + z.toNat) + 1 := (by decide +kernel : ∀ i, i < 7 → fp_ref 124 i = (125 + i) + 1) z.toNat (by omega)
theorem drw_a {z : Int} (h0 : 0 ≤ z) (h1 : z < 7) : fp_lay (125 + z.toNat) = (1, 8) := (by decide +kernel : ∀ i, i < 7 → fp_lay (125 + i) = (1, 8)) z.toNat (by omega)
