/-! BY PROGRAM (tools/mkmore.py): the layout, cell by cell; calls whose answer and memory are told outright -/
theorem L_0 : fp_lay 0 = (0, 11) := by decide +kernel
theorem L_1 : fp_lay 1 = (2, 480) := by decide +kernel
theorem L_2 : fp_lay 2 = (0, 6) := by decide +kernel
theorem L_3 : fp_lay 3 = (0, 1) := by decide +kernel
theorem L_4 : fp_lay 4 = (1, 11) := by decide +kernel
theorem L_5 : fp_lay 5 = (1, 44) := by decide +kernel
theorem L_6 : fp_lay 6 = (1, 3) := by decide +kernel
theorem L_7 : fp_lay 7 = (0, 5) := by decide +kernel
theorem L_8 : fp_lay 8 = (1, 10) := by decide +kernel
theorem L_9 : fp_lay 9 = (1, 10) := by decide +kernel
theorem L_10 : fp_lay 10 = (1, 3) := by decide +kernel
theorem L_11 : fp_lay 11 = (1, 24) := by decide +kernel
theorem L_12 : fp_lay 12 = (0, 10) := by decide +kernel
theorem L_13 : fp_lay 13 = (1, 12) := by decide +kernel
theorem L_14 : fp_lay 14 = (1, 12) := by decide +kernel
theorem L_15 : fp_lay 15 = (1, 12) := by decide +kernel
theorem L_16 : fp_lay 16 = (1, 12) := by decide +kernel
theorem L_17 : fp_lay 17 = (2, 0) := by decide +kernel
theorem L_18 : fp_lay 18 = (0, 1) := by decide +kernel
theorem L_19 : fp_lay 19 = (1, 11) := by decide +kernel
theorem L_20 : fp_lay 20 = (1, 44) := by decide +kernel
theorem L_21 : fp_lay 21 = (1, 3) := by decide +kernel
theorem L_22 : fp_lay 22 = (0, 5) := by decide +kernel
theorem L_23 : fp_lay 23 = (1, 10) := by decide +kernel
theorem L_24 : fp_lay 24 = (1, 10) := by decide +kernel
theorem L_25 : fp_lay 25 = (1, 3) := by decide +kernel
theorem L_26 : fp_lay 26 = (1, 24) := by decide +kernel
theorem L_27 : fp_lay 27 = (0, 10) := by decide +kernel
theorem L_28 : fp_lay 28 = (1, 12) := by decide +kernel
theorem L_29 : fp_lay 29 = (1, 12) := by decide +kernel
theorem L_30 : fp_lay 30 = (1, 12) := by decide +kernel
theorem L_31 : fp_lay 31 = (1, 12) := by decide +kernel
theorem L_32 : fp_lay 32 = (0, 3) := by decide +kernel
theorem L_33 : fp_lay 33 = (1, 8) := by decide +kernel
theorem L_34 : fp_lay 34 = (0, 8) := by decide +kernel
theorem L_35 : fp_lay 35 = (5, 13) := by decide +kernel
theorem L_36 : fp_lay 36 = (5, 3) := by decide +kernel
theorem L_37 : fp_lay 37 = (3, 3) := by decide +kernel
theorem L_38 : fp_lay 38 = (1, 12) := by decide +kernel
theorem L_39 : fp_lay 39 = (1, 12) := by decide +kernel
theorem L_40 : fp_lay 40 = (4, 10) := by decide +kernel
theorem L_41 : fp_lay 41 = (0, 5) := by decide +kernel
theorem L_42 : fp_lay 42 = (1, 10) := by decide +kernel
theorem L_43 : fp_lay 43 = (1, 10) := by decide +kernel
theorem L_44 : fp_lay 44 = (1, 3) := by decide +kernel
theorem L_45 : fp_lay 45 = (1, 24) := by decide +kernel
theorem L_46 : fp_lay 46 = (0, 5) := by decide +kernel
theorem L_47 : fp_lay 47 = (1, 10) := by decide +kernel
theorem L_48 : fp_lay 48 = (1, 10) := by decide +kernel
theorem L_49 : fp_lay 49 = (1, 3) := by decide +kernel
theorem L_50 : fp_lay 50 = (1, 24) := by decide +kernel
theorem L_51 : fp_lay 51 = (0, 5) := by decide +kernel
theorem L_52 : fp_lay 52 = (1, 10) := by decide +kernel
theorem L_53 : fp_lay 53 = (1, 10) := by decide +kernel
theorem L_54 : fp_lay 54 = (1, 3) := by decide +kernel
theorem L_55 : fp_lay 55 = (1, 24) := by decide +kernel
theorem L_56 : fp_lay 56 = (0, 5) := by decide +kernel
theorem L_57 : fp_lay 57 = (1, 10) := by decide +kernel
theorem L_58 : fp_lay 58 = (1, 10) := by decide +kernel
theorem L_59 : fp_lay 59 = (1, 3) := by decide +kernel
theorem L_60 : fp_lay 60 = (1, 24) := by decide +kernel
theorem L_61 : fp_lay 61 = (0, 5) := by decide +kernel
theorem L_62 : fp_lay 62 = (1, 10) := by decide +kernel
theorem L_63 : fp_lay 63 = (1, 10) := by decide +kernel
theorem L_64 : fp_lay 64 = (1, 3) := by decide +kernel
theorem L_65 : fp_lay 65 = (1, 24) := by decide +kernel
theorem L_66 : fp_lay 66 = (0, 5) := by decide +kernel
theorem L_67 : fp_lay 67 = (1, 10) := by decide +kernel
theorem L_68 : fp_lay 68 = (1, 10) := by decide +kernel
theorem L_69 : fp_lay 69 = (1, 3) := by decide +kernel
theorem L_70 : fp_lay 70 = (1, 24) := by decide +kernel
theorem L_71 : fp_lay 71 = (0, 5) := by decide +kernel
theorem L_72 : fp_lay 72 = (1, 10) := by decide +kernel
theorem L_73 : fp_lay 73 = (1, 10) := by decide +kernel
theorem L_74 : fp_lay 74 = (1, 3) := by decide +kernel
theorem L_75 : fp_lay 75 = (1, 24) := by decide +kernel
theorem L_76 : fp_lay 76 = (0, 5) := by decide +kernel
theorem L_77 : fp_lay 77 = (1, 10) := by decide +kernel
theorem L_78 : fp_lay 78 = (1, 10) := by decide +kernel
theorem L_79 : fp_lay 79 = (1, 3) := by decide +kernel
theorem L_80 : fp_lay 80 = (1, 24) := by decide +kernel
theorem L_81 : fp_lay 81 = (0, 5) := by decide +kernel
theorem L_82 : fp_lay 82 = (1, 10) := by decide +kernel
theorem L_83 : fp_lay 83 = (1, 10) := by decide +kernel
theorem L_84 : fp_lay 84 = (1, 3) := by decide +kernel
theorem L_85 : fp_lay 85 = (1, 24) := by decide +kernel
theorem L_86 : fp_lay 86 = (0, 5) := by decide +kernel
theorem L_87 : fp_lay 87 = (1, 10) := by decide +kernel
theorem L_88 : fp_lay 88 = (1, 10) := by decide +kernel
theorem L_89 : fp_lay 89 = (1, 3) := by decide +kernel
theorem L_90 : fp_lay 90 = (1, 24) := by decide +kernel
theorem L_91 : fp_lay 91 = (0, 5) := by decide +kernel
theorem L_92 : fp_lay 92 = (1, 10) := by decide +kernel
theorem L_93 : fp_lay 93 = (1, 10) := by decide +kernel
theorem L_94 : fp_lay 94 = (1, 3) := by decide +kernel
theorem L_95 : fp_lay 95 = (1, 24) := by decide +kernel
theorem L_96 : fp_lay 96 = (0, 5) := by decide +kernel
theorem L_97 : fp_lay 97 = (1, 10) := by decide +kernel
theorem L_98 : fp_lay 98 = (1, 10) := by decide +kernel
theorem L_99 : fp_lay 99 = (1, 3) := by decide +kernel
theorem L_100 : fp_lay 100 = (1, 24) := by decide +kernel
theorem L_101 : fp_lay 101 = (0, 5) := by decide +kernel
theorem L_102 : fp_lay 102 = (1, 10) := by decide +kernel
theorem L_103 : fp_lay 103 = (1, 10) := by decide +kernel
theorem L_104 : fp_lay 104 = (1, 3) := by decide +kernel
theorem L_105 : fp_lay 105 = (1, 24) := by decide +kernel
theorem L_106 : fp_lay 106 = (0, 5) := by decide +kernel
theorem L_107 : fp_lay 107 = (1, 10) := by decide +kernel
theorem L_108 : fp_lay 108 = (1, 10) := by decide +kernel
theorem L_109 : fp_lay 109 = (1, 3) := by decide +kernel
theorem L_110 : fp_lay 110 = (1, 24) := by decide +kernel
theorem L_111 : fp_lay 111 = (0, 5) := by decide +kernel
theorem L_112 : fp_lay 112 = (1, 10) := by decide +kernel
theorem L_113 : fp_lay 113 = (1, 10) := by decide +kernel
theorem L_114 : fp_lay 114 = (1, 3) := by decide +kernel
theorem L_115 : fp_lay 115 = (1, 24) := by decide +kernel
theorem L_116 : fp_lay 116 = (0, 5) := by decide +kernel
theorem L_117 : fp_lay 117 = (1, 10) := by decide +kernel
theorem L_118 : fp_lay 118 = (1, 10) := by decide +kernel
theorem L_119 : fp_lay 119 = (1, 3) := by decide +kernel
theorem L_120 : fp_lay 120 = (1, 24) := by decide +kernel
theorem L_121 : fp_lay 121 = (0, 0) := by decide +kernel
theorem L_122 : fp_lay 122 = (1, 2) := by decide +kernel
theorem L_123 : fp_lay 123 = (1, 2) := by decide +kernel
theorem L_124 : fp_lay 124 = (8, 7) := by decide +kernel
theorem L_125 : fp_lay 125 = (1, 8) := by decide +kernel
theorem L_126 : fp_lay 126 = (1, 8) := by decide +kernel
theorem L_127 : fp_lay 127 = (1, 8) := by decide +kernel
theorem L_128 : fp_lay 128 = (1, 8) := by decide +kernel
theorem L_129 : fp_lay 129 = (1, 8) := by decide +kernel
theorem L_130 : fp_lay 130 = (1, 8) := by decide +kernel
theorem L_131 : fp_lay 131 = (1, 8) := by decide +kernel
theorem L_132 : fp_lay 132 = (1, 7) := by decide +kernel
theorem L_133 : fp_lay 133 = (0, 4) := by decide +kernel
theorem L_134 : fp_lay 134 = (1, 8) := by decide +kernel
theorem L_135 : fp_lay 135 = (1, 8) := by decide +kernel
theorem L_136 : fp_lay 136 = (0, 7) := by decide +kernel
theorem L_137 : fp_lay 137 = (1, 4) := by decide +kernel
theorem L_138 : fp_lay 138 = (1, 4) := by decide +kernel
theorem L_139 : fp_lay 139 = (1, 4) := by decide +kernel
theorem L_140 : fp_lay 140 = (1, 4) := by decide +kernel
theorem L_141 : fp_lay 141 = (6, 2) := by decide +kernel
theorem L_142 : fp_lay 142 = (7, 4) := by decide +kernel
theorem L_143 : fp_lay 143 = (0, 2) := by decide +kernel
theorem L_144 : fp_lay 144 = (0, 5) := by decide +kernel
theorem L_145 : fp_lay 145 = (1, 10) := by decide +kernel
theorem L_146 : fp_lay 146 = (1, 10) := by decide +kernel
theorem L_147 : fp_lay 147 = (1, 3) := by decide +kernel
theorem L_148 : fp_lay 148 = (1, 24) := by decide +kernel
theorem L_149 : fp_lay 149 = (0, 10) := by decide +kernel
theorem L_150 : fp_lay 150 = (1, 12) := by decide +kernel
theorem L_151 : fp_lay 151 = (1, 12) := by decide +kernel
theorem L_152 : fp_lay 152 = (1, 12) := by decide +kernel
theorem L_153 : fp_lay 153 = (1, 12) := by decide +kernel
theorem L_154 : fp_lay 154 = (0, 3) := by decide +kernel
theorem L_155 : fp_lay 155 = (1, 8) := by decide +kernel
theorem L_156 : fp_lay 156 = (0, 2) := by decide +kernel
theorem L_157 : fp_lay 157 = (0, 5) := by decide +kernel
theorem L_158 : fp_lay 158 = (1, 10) := by decide +kernel
theorem L_159 : fp_lay 159 = (1, 10) := by decide +kernel
theorem L_160 : fp_lay 160 = (1, 3) := by decide +kernel
theorem L_161 : fp_lay 161 = (1, 24) := by decide +kernel
theorem L_162 : fp_lay 162 = (0, 10) := by decide +kernel
theorem L_163 : fp_lay 163 = (1, 12) := by decide +kernel
theorem L_164 : fp_lay 164 = (1, 12) := by decide +kernel
theorem L_165 : fp_lay 165 = (1, 12) := by decide +kernel
theorem L_166 : fp_lay 166 = (1, 12) := by decide +kernel
theorem L_167 : fp_lay 167 = (0, 3) := by decide +kernel
theorem L_168 : fp_lay 168 = (1, 8) := by decide +kernel
theorem L_169 : fp_lay 169 = (0, 9) := by decide +kernel
theorem L_170 : fp_lay 170 = (1, 40) := by decide +kernel
theorem L_171 : fp_lay 171 = (0, 9) := by decide +kernel
theorem L_172 : fp_lay 172 = (1, 40) := by decide +kernel
theorem L_173 : fp_lay 173 = (0, 9) := by decide +kernel
theorem L_174 : fp_lay 174 = (1, 40) := by decide +kernel
theorem L_175 : fp_lay 175 = (0, 9) := by decide +kernel
theorem L_176 : fp_lay 176 = (1, 40) := by decide +kernel
theorem L_177 : fp_lay 177 = (0, 12) := by decide +kernel
theorem L_178 : fp_lay 178 = (1, 600) := by decide +kernel
theorem L_179 : fp_lay 179 = (1, 11) := by decide +kernel
theorem L_180 : fp_lay 180 = (1, 44) := by decide +kernel
theorem L_181 : fp_lay 181 = (1, 3) := by decide +kernel
theorem L_182 : fp_lay 182 = (1, 120) := by decide +kernel
theorem L_183 : fp_lay 183 = (1, 10) := by decide +kernel
theorem L_184 : fp_lay 184 = (1, 40) := by decide +kernel
theorem L_185 : fp_lay 185 = (1, 3) := by decide +kernel
theorem L_186 : fp_lay 186 = (1, 480) := by decide +kernel
theorem L_187 : fp_lay 187 = (1, 9) := by decide +kernel
theorem L_188 : fp_lay 188 = (1, 42) := by decide +kernel
theorem L_189 : fp_lay 189 = (1, 560) := by decide +kernel
theorem L_190 : fp_lay 190 = (1, 12) := by decide +kernel
theorem L_191 : fp_lay 191 = (1, 12) := by decide +kernel
theorem L_192 : fp_lay 192 = (4, 10) := by decide +kernel
theorem L_193 : fp_lay 193 = (1, 729) := by decide +kernel
theorem L_194 : fp_lay 194 = (1, 8) := by decide +kernel
theorem L_195 : fp_lay 195 = (1, 8) := by decide +kernel
theorem L_196 : fp_lay 196 = (1, 4) := by decide +kernel
theorem L_197 : fp_lay 197 = (1, 4) := by decide +kernel
theorem L_198 : fp_lay 198 = (1, 4) := by decide +kernel
theorem L_199 : fp_lay 199 = (3, 2) := by decide +kernel
theorem L_200 : fp_lay 200 = (1, 4) := by decide +kernel
theorem L_201 : fp_lay 201 = (1, 4) := by decide +kernel
theorem L_202 : fp_lay 202 = (1, 160) := by decide +kernel
theorem rf_0_0 : fp_ref 0 0 = 1 + 1 := by decide +kernel
theorem rf_0_2 : fp_ref 0 2 = 2 + 1 := by decide +kernel
theorem rf_0_3 : fp_ref 0 3 = 18 + 1 := by decide +kernel
theorem rf_0_4 : fp_ref 0 4 = 22 + 1 := by decide +kernel
theorem rf_0_5 : fp_ref 0 5 = 27 + 1 := by decide +kernel
theorem rf_0_6 : fp_ref 0 6 = 32 + 1 := by decide +kernel
theorem rf_0_7 : fp_ref 0 7 = 34 + 1 := by decide +kernel
theorem rf_0_8 : fp_ref 0 8 = 121 + 1 := by decide +kernel
theorem rf_0_9 : fp_ref 0 9 = 133 + 1 := by decide +kernel
theorem rf_0_10 : fp_ref 0 10 = 136 + 1 := by decide +kernel
theorem rf_0_11 : fp_ref 0 11 = 141 + 1 := by decide +kernel
theorem rf_0_12 : fp_ref 0 12 = 142 + 1 := by decide +kernel
theorem rf_2_0 : fp_ref 2 0 = 3 + 1 := by decide +kernel
theorem rf_2_1 : fp_ref 2 1 = 7 + 1 := by decide +kernel
theorem rf_2_2 : fp_ref 2 2 = 12 + 1 := by decide +kernel
theorem rf_34_0 : fp_ref 34 0 = 35 + 1 := by decide +kernel
theorem rf_34_1 : fp_ref 34 1 = 36 + 1 := by decide +kernel
theorem rf_34_2 : fp_ref 34 2 = 37 + 1 := by decide +kernel
theorem rf_34_4 : fp_ref 34 4 = 38 + 1 := by decide +kernel
theorem rf_34_5 : fp_ref 34 5 = 39 + 1 := by decide +kernel
theorem rf_34_6 : fp_ref 34 6 = 40 + 1 := by decide +kernel
theorem rf_121_2 : fp_ref 121 2 = 122 + 1 := by decide +kernel
theorem rf_121_3 : fp_ref 121 3 = 123 + 1 := by decide +kernel
theorem rf_121_4 : fp_ref 121 4 = 124 + 1 := by decide +kernel
theorem rf_121_5 : fp_ref 121 5 = 132 + 1 := by decide +kernel
theorem rf_133_2 : fp_ref 133 2 = 134 + 1 := by decide +kernel
theorem rf_133_4 : fp_ref 133 4 = 135 + 1 := by decide +kernel
theorem rf_136_0 : fp_ref 136 0 = 137 + 1 := by decide +kernel
theorem rf_136_1 : fp_ref 136 1 = 138 + 1 := by decide +kernel
theorem rf_136_2 : fp_ref 136 2 = 139 + 1 := by decide +kernel
theorem rf_136_3 : fp_ref 136 3 = 140 + 1 := by decide +kernel
theorem rf_177_0 : fp_ref 177 0 = 178 + 1 := by decide +kernel
theorem rf_177_1 : fp_ref 177 1 = 179 + 1 := by decide +kernel
theorem rf_177_2 : fp_ref 177 2 = 180 + 1 := by decide +kernel
theorem rf_177_3 : fp_ref 177 3 = 181 + 1 := by decide +kernel
theorem rf_177_7 : fp_ref 177 7 = 182 + 1 := by decide +kernel
theorem rf_177_8 : fp_ref 177 8 = 183 + 1 := by decide +kernel
theorem rf_177_9 : fp_ref 177 9 = 184 + 1 := by decide +kernel
theorem rf_177_10 : fp_ref 177 10 = 185 + 1 := by decide +kernel
theorem rf_177_18 : fp_ref 177 18 = 186 + 1 := by decide +kernel
theorem rf_177_27 : fp_ref 177 27 = 187 + 1 := by decide +kernel
theorem rf_177_28 : fp_ref 177 28 = 188 + 1 := by decide +kernel
theorem rf_177_29 : fp_ref 177 29 = 189 + 1 := by decide +kernel
theorem rf_177_30 : fp_ref 177 30 = 190 + 1 := by decide +kernel
theorem rf_177_31 : fp_ref 177 31 = 191 + 1 := by decide +kernel
theorem rf_177_32 : fp_ref 177 32 = 192 + 1 := by decide +kernel
theorem rf_177_34 : fp_ref 177 34 = 193 + 1 := by decide +kernel
theorem rf_177_35 : fp_ref 177 35 = 194 + 1 := by decide +kernel
theorem rf_177_36 : fp_ref 177 36 = 195 + 1 := by decide +kernel
theorem rf_177_37 : fp_ref 177 37 = 196 + 1 := by decide +kernel
theorem rf_177_38 : fp_ref 177 38 = 197 + 1 := by decide +kernel
theorem rf_177_39 : fp_ref 177 39 = 198 + 1 := by decide +kernel
theorem rf_177_40 : fp_ref 177 40 = 199 + 1 := by decide +kernel
theorem rf_177_41 : fp_ref 177 41 = 200 + 1 := by decide +kernel
theorem rf_177_42 : fp_ref 177 42 = 201 + 1 := by decide +kernel
theorem rf_177_43 : fp_ref 177 43 = 202 + 1 := by decide +kernel
theorem rf_2_5 : fp_ref 2 5 = 0 := by decide +kernel
def qE (f : Int) (N : fp_Mem) : fp_Q := qI fun z M => z = f ∧ M = N
def qJE (f : Int) (N : fp_Mem) : fp_Q := qJ fun z M => z = f ∧ M = N
def qW (N : fp_Mem) : fp_Q := qV fun M => M = N
def qRE (G : fp_WG) (f : Nat) (N : fp_Mem) : fp_Q := qR G fun z M => z = f ∧ M = N
section MOR
variable {l : Launch} {G : fp_WG} {d : Nat} {Y : fp_MR} {pc pc' : Nat} {LL LL' : List (Option Value)} {st : List Value} {M N : fp_Mem} {Q : fp_Q} {idx c j k len na d' : Nat} {ty : FieldType} {fin : Bool} {z x f : Int} {g : Nat} {Z : fp_MR} {As st0 : List Value}
theorem S.callVe (hd : decode Y.2.1 pc = .ok (.invokevirtual idx, 3)) (hp : pc + 3 = pc') (hc : fp_CV Y.1.cls idx Z na c) (ok : fp_Ok l G d' Z (rV G k :: As) M (qE f N)) (hna : As.length = na) (hk : fp_lay k = (0, c)) (hdd : d' + 1 ≤ d) (hst0 : st0 = As.reverse ++ rV G k :: st) (hst : (st.map fun v => v.category).sum ≤ 8) (kk : fp_S l G d Y pc' LL (iV f :: st) N Q) : fp_S l G d Y pc LL st0 M Q := by
  refine S.callVi hd hp hc ok hna hk hdd hst0 hst ?_
  rintro z M' ⟨rfl, rfl⟩
  exact kk
theorem S.callVw (hd : decode Y.2.1 pc = .ok (.invokevirtual idx, 3)) (hp : pc + 3 = pc') (hc : fp_CV Y.1.cls idx Z na c) (ok : fp_Ok l G d' Z (rV G k :: As) M (qW N)) (hna : As.length = na) (hk : fp_lay k = (0, c)) (hdd : d' + 1 ≤ d) (hst0 : st0 = As.reverse ++ rV G k :: st) (hst : (st.map fun v => v.category).sum ≤ 8) (kk : fp_S l G d Y pc' LL (st) N Q) : fp_S l G d Y pc LL st0 M Q := by
  refine S.callVv hd hp hc ok hna hk hdd hst0 hst ?_
  rintro M' rfl
  exact kk
theorem S.callVje (hd : decode Y.2.1 pc = .ok (.invokevirtual idx, 3)) (hp : pc + 3 = pc') (hc : fp_CV Y.1.cls idx Z na c) (ok : fp_Ok l G d' Z (rV G k :: As) M (qJE f N)) (hna : As.length = na) (hk : fp_lay k = (0, c)) (hdd : d' + 1 ≤ d) (hst0 : st0 = As.reverse ++ rV G k :: st) (hst : (st.map fun v => v.category).sum ≤ 8) (kk : fp_S l G d Y pc' LL (jV f :: st) N Q) : fp_S l G d Y pc LL st0 M Q := by
  refine S.callVj hd hp hc ok hna hk hdd hst0 hst ?_
  rintro z M' ⟨rfl, rfl⟩
  exact kk
theorem S.callVre (hd : decode Y.2.1 pc = .ok (.invokevirtual idx, 3)) (hp : pc + 3 = pc') (hc : fp_CV Y.1.cls idx Z na c) (ok : fp_Ok l G d' Z (rV G k :: As) M (qRE G g N)) (hna : As.length = na) (hk : fp_lay k = (0, c)) (hdd : d' + 1 ≤ d) (hst0 : st0 = As.reverse ++ rV G k :: st) (hst : (st.map fun v => v.category).sum ≤ 8) (kk : fp_S l G d Y pc' LL (rV G g :: st) N Q) : fp_S l G d Y pc LL st0 M Q := by
  refine S.callVr hd hp hc ok hna hk hdd hst0 hst ?_
  rintro z M' ⟨rfl, rfl⟩
  exact kk
theorem S.callSe (hd : decode Y.2.1 pc = .ok (.invokestatic idx, 3)) (hp : pc + 3 = pc') (hc : fp_CS Y.1.cls idx Z na) (ok : fp_Ok l G d' Z As M (qE f N)) (hna : As.length = na) (hdd : d' + 1 ≤ d) (hst0 : st0 = As.reverse ++ st) (hst : (st.map fun v => v.category).sum ≤ 8) (kk : fp_S l G d Y pc' LL (iV f :: st) N Q) : fp_S l G d Y pc LL st0 M Q := by
  refine S.callSi hd hp hc ok hna hdd hst0 hst ?_
  rintro z M' ⟨rfl, rfl⟩
  exact kk
theorem S.callSw (hd : decode Y.2.1 pc = .ok (.invokestatic idx, 3)) (hp : pc + 3 = pc') (hc : fp_CS Y.1.cls idx Z na) (ok : fp_Ok l G d' Z As M (qW N)) (hna : As.length = na) (hdd : d' + 1 ≤ d) (hst0 : st0 = As.reverse ++ st) (hst : (st.map fun v => v.category).sum ≤ 8) (kk : fp_S l G d Y pc' LL (st) N Q) : fp_S l G d Y pc LL st0 M Q := by
  refine S.callSv hd hp hc ok hna hdd hst0 hst ?_
  rintro M' rfl
  exact kk
theorem S.callSje (hd : decode Y.2.1 pc = .ok (.invokestatic idx, 3)) (hp : pc + 3 = pc') (hc : fp_CS Y.1.cls idx Z na) (ok : fp_Ok l G d' Z As M (qJE f N)) (hna : As.length = na) (hdd : d' + 1 ≤ d) (hst0 : st0 = As.reverse ++ st) (hst : (st.map fun v => v.category).sum ≤ 8) (kk : fp_S l G d Y pc' LL (jV f :: st) N Q) : fp_S l G d Y pc LL st0 M Q := by
  refine S.callSj hd hp hc ok hna hdd hst0 hst ?_
  rintro z M' ⟨rfl, rfl⟩
  exact kk
theorem S.callSNe (hd : decode Y.2.1 pc = .ok (.invokestatic idx, 3)) (hp : pc + 3 = pc') (hc : fp_CSN Y.1.cls idx Z na) (ok : fp_Ok l G d' Z As M (qE f N)) (hna : As.length = na) (hdd : d' + 1 ≤ d) (hst0 : st0 = As.reverse ++ st) (hst : (st.map fun v => v.category).sum ≤ 8) (kk : fp_S l G d Y pc' LL (iV f :: st) N Q) : fp_S l G d Y pc LL st0 M Q := by
  refine S.callSNi hd hp hc ok hna hdd hst0 hst ?_
  rintro z M' ⟨rfl, rfl⟩
  exact kk
theorem S.ldc2 {w : Int64} {v : Int} (hd : decode Y.2.1 pc = .ok (.ldc2_w idx, 3)) (hp : pc + 3 = pc') (hc : Cond.constantLong Y.1.cls idx w ∈ lw_tbl) (hw : w = Int64.ofInt v) (kk : fp_S l G d Y pc' LL (jV v :: st) M Q) : fp_S l G d Y pc LL st M Q := by
  subst hp
  subst hw
  intro p e s m args below meth c H locs ls C hR hL hl
  exact lv_ldc2 C.1 C.2.1 C.2.2.2.1 (fp_word C.2.2.2.2.2.2.2.1 C.2.2.2.2.2.2.2.2 hc rfl) hd (kk p e s m args below meth c H locs ls C hR hL hl)
end MOR
/-! bits -/
theorem fp_shl1 {t : Int} (h0 : 0 ≤ t) (h1 : t < 31) : Int32.ofInt 1 <<< (Int32.ofInt t &&& 31) = Int32.ofInt (2 ^ t.toNat) := by
  have h : ∀ n : Nat, n < 31 → Int32.ofInt 1 <<< (Int32.ofInt (n : Int) &&& 31) = Int32.ofInt (2 ^ n) := by decide +kernel
  have := h t.toNat (by omega)
  rwa [Int.toNat_of_nonneg h0] at this
def fp_or (a b : Int) : Int := ((a.toNat ||| b.toNat : Nat) : Int)
def fp_and (a b : Int) : Int := ((a.toNat &&& b.toNat : Nat) : Int)
theorem fp_ofn {a : Int} (h : 0 ≤ a) : Int32.ofInt a = Int32.ofNat a.toNat := by
  rw [← Int32.ofInt_eq_ofNat, Int.toNat_of_nonneg h]
theorem fp_ior {a b : Int} (ha : 0 ≤ a) (hb : 0 ≤ b) : Int32.ofInt a ||| Int32.ofInt b = Int32.ofInt (fp_or a b) := by
  unfold fp_or
  rw [fp_ofn ha, fp_ofn hb, Int32.ofInt_eq_ofNat]
  apply Int32.toBitVec.inj
  simp
theorem fp_iand {a b : Int} (ha : 0 ≤ a) (hb : 0 ≤ b) : Int32.ofInt a &&& Int32.ofInt b = Int32.ofInt (fp_and a b) := by
  unfold fp_and
  rw [fp_ofn ha, fp_ofn hb, Int32.ofInt_eq_ofNat]
  apply Int32.toBitVec.inj
  simp
theorem fp_or_nn (a b : Int) : 0 ≤ fp_or a b := Int.natCast_nonneg _
theorem fp_and_nn (a b : Int) : 0 ≤ fp_and a b := Int.natCast_nonneg _
theorem fp_or_lt {a b : Int} {n : Nat} (ha : a < 2 ^ n) (hb : b < 2 ^ n) : fp_or a b < 2 ^ n := by
  unfold fp_or
  have h1 : a.toNat < 2 ^ n := by
    have : (0 : Int) < 2 ^ n := Int.pow_pos (by decide)
    have h3 : ((2 ^ n : Nat) : Int) = 2 ^ n := by simp
    omega
  have h2 : b.toNat < 2 ^ n := by
    have : (0 : Int) < 2 ^ n := Int.pow_pos (by decide)
    have h3 : ((2 ^ n : Nat) : Int) = 2 ^ n := by simp
    omega
  have h3 := Nat.or_lt_two_pow h1 h2
  have h4 : ((2 ^ n : Nat) : Int) = 2 ^ n := by simp
  omega
theorem fp_shr {a b : Int} (ha : 0 ≤ a) (ha2 : a ≤ 2147483647) (hb : 0 ≤ b) (hb2 : b < 31) : Int32.ofInt a >>> (Int32.ofInt b &&& 31) = Int32.ofInt (a / 2 ^ b.toNat) := by
  have h : ∀ n : Nat, n < 31 → ((Int32.ofInt (n : Int) &&& 31).toBitVec.smod 32).toNat = n := by decide +kernel
  have hs := h b.toNat (by omega)
  rw [Int.toNat_of_nonneg hb] at hs
  have hp : (1 : Int) ≤ 2 ^ b.toNat := by have := Int.pow_pos (n := 2) (m := b.toNat) (by decide); omega
  have hq : 0 ≤ a / 2 ^ b.toNat := Int.ediv_nonneg ha (by omega)
  have hq2 : a / 2 ^ b.toNat ≤ a := Int.ediv_le_self _ ha
  rw [← Int32.toInt_inj, pk_shr _ _ b.toNat hs, fp_toInt ⟨by omega, by omega⟩, fp_toInt ⟨by omega, by omega⟩, Int.shiftRight_eq_div_pow]
  simp
theorem fp_and1 {a : Int} (ha : 0 ≤ a) : Int32.ofInt a &&& Int32.ofInt 1 = Int32.ofInt (a % 2) := by
  rw [fp_iand ha (by decide)]
  congr 1
  unfold fp_and
  have : ((1 : Int).toNat) = 1 := rfl
  rw [this, Nat.and_one_is_mod]
  omega
/-! reading what was written -/
theorem fp_upf_at (f : Nat → Int) (i : Nat) (z : Int) : fp_upf f i z i = z := by simp [fp_upf]
theorem fp_upf_ne {f : Nat → Int} {i j : Nat} {z : Int} (h : j ≠ i) : fp_upf f i z j = f j := by simp [fp_upf, h]
theorem fp_upM_at (M : fp_Mem) (k : Nat) (f : Nat → Int) : fp_upM M k f k = f := by simp [fp_upM]
theorem fp_upM_ne {M : fp_Mem} {a k : Nat} {f : Nat → Int} (h : a ≠ k) : fp_upM M k f a = M a := by simp [fp_upM, h]
theorem fp_upM_self (M : fp_Mem) (k : Nat) : fp_upM M k (M k) = M := by
  funext a
  unfold fp_upM
  split <;> simp_all
theorem fp_upM_upM (M : fp_Mem) (k : Nat) (f g : Nat → Int) : fp_upM (fp_upM M k f) k g = fp_upM M k g := by
  funext a
  unfold fp_upM
  split <;> rfl
