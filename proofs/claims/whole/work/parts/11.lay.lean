/-! WHERE CELLS STAND; truth as a number -/
/-- from cell b on the cells are as the pattern has them -/
def zAt (pat : List (Nat × Nat)) (b : Nat) : Prop := ∀ (i : Nat) (e : Nat × Nat), pat[i]? = some e → zl (b + i) = e
theorem zAt.at {pat : List (Nat × Nat)} {b : Nat} (h : zAt pat b) (i : Nat) {e : Nat × Nat} (he : pat[i]? = some e) : zl (b + i) = e := h i e he
theorem zAt.of {pat : List (Nat × Nat)} {b : Nat} (h : (List.range pat.length).all (fun i => pat[i]? == some (zl (b + i))) = true) : zAt pat b := by
  intro i e he
  have hi : i < pat.length := (List.getElem?_eq_some_iff.mp he).1
  have := List.all_eq_true.mp h i (List.mem_range.mpr hi)
  have := eq_of_beq this
  rw [he] at this
  exact (Option.some.inj this).symm
/-- a block within a block -/
theorem zAt.sub {pat pat2 : List (Nat × Nat)} {b : Nat} (h : zAt pat b) (k : Nat) (hp : (pat.drop k).take pat2.length = pat2) : zAt pat2 (b + k) := by
  intro i e he
  have hi : i < pat2.length := (List.getElem?_eq_some_iff.mp he).1
  have e1 : pat[k + i]? = some e := by
    rw [← hp, List.getElem?_take, if_pos hi, List.getElem?_drop] at he
    exact he
  have := h (k + i) e e1
  rwa [show b + (k + i) = b + k + i by omega] at this
noncomputable def zb (P : Prop) : Int := @ite _ P (Classical.propDecidable P) 1 0
theorem zb_t {P : Prop} (h : P) : zb P = 1 := by unfold zb; exact if_pos h
theorem zb_f {P : Prop} (h : ¬ P) : zb P = 0 := by unfold zb; exact if_neg h
theorem zb_01 {P : Prop} : zb P = 0 ∨ zb P = 1 := by
  rcases Classical.em P with h | h
  · exact Or.inr (zb_t h)
  · exact Or.inl (zb_f h)
theorem zb_0 {P : Prop} : zb P = 0 ↔ ¬ P := ⟨fun e h => (by rw [zb_t h] at e; cases e), zb_f⟩
theorem zb_1 {P : Prop} : zb P = 1 ↔ P := ⟨fun e => Classical.byContradiction fun h => (by rw [zb_f h] at e; cases e), zb_t⟩
theorem zb_n {P : Prop} : zb P ≠ 0 ↔ P := ⟨fun e => Classical.byContradiction fun h => e (zb_f h), fun h => by rw [zb_t h]; decide⟩
theorem zb_c {P Q : Prop} (h : P ↔ Q) : zb P = zb Q := by rw [propext h]
theorem zb_in {P : Prop} : 0 ≤ zb P ∧ zb P ≤ 1 := by
  rcases zb_01 (P := P) with h | h <;> rw [h] <;> decide
theorem zb_r {P : Prop} {μ ν : zM} (h : P) (e : ν = μ) : (some (zI 1) : Option zAV) = some (zI (zb P)) ∧ ν = μ := ⟨by rw [zb_t h], e⟩
theorem zb_r0 {P : Prop} {μ ν : zM} (h : ¬ P) (e : ν = μ) : (some (zI 0) : Option zAV) = some (zI (zb P)) ∧ ν = μ := ⟨by rw [zb_f h], e⟩
abbrev zp0 : List (Nat × Nat) := [(0, 10), (6, 1), (20, 36), (22, 6), (20, 36), (20, 36), (20, 36), (20, 36), (20, 36), (20, 36), (20, 36), (22, 6), (20, 6), (20, 6), (20, 6), (20, 6), (20, 6), (20, 6), (22, 6), (20, 6), (20, 6), (20, 6), (20, 6), (20, 6), (20, 6), (22, 8), (20, 6), (20, 6), (20, 6), (20, 6), (20, 6), (20, 6), (20, 6), (20, 6), (20, 40), (20, 40), (22, 6), (20, 6), (20, 6), (20, 6), (20, 6), (20, 6), (20, 6), (1, 6), (21, 36), (20, 36), (20, 6)]
abbrev zp1 : List (Nat × Nat) := [(1, 6), (21, 36), (20, 36), (20, 6)]
abbrev zp2 : List (Nat × Nat) := [(2, 4), (1, 6), (21, 36), (20, 36), (20, 6), (5, 7), (20, 5), (20, 5), (20, 5), (20, 5), (20, 5), (20, 5), (9, 6), (20, 8), (20, 8), (20, 8), (20, 8), (20, 8), (7, 4), (20, 4), (20, 4), (21, 4)]
abbrev zp4 : List (Nat × Nat) := [(4, 15), (20, 5), (20, 5), (22, 5), (20, 40), (20, 40), (20, 40), (20, 40), (20, 40), (22, 5), (20, 40), (20, 40), (20, 40), (20, 40), (20, 40), (0, 10), (6, 1), (20, 36), (22, 6), (20, 36), (20, 36), (20, 36), (20, 36), (20, 36), (20, 36), (20, 36), (22, 6), (20, 6), (20, 6), (20, 6), (20, 6), (20, 6), (20, 6), (22, 6), (20, 6), (20, 6), (20, 6), (20, 6), (20, 6), (20, 6), (22, 8), (20, 6), (20, 6), (20, 6), (20, 6), (20, 6), (20, 6), (20, 6), (20, 6), (20, 40), (20, 40), (22, 6), (20, 6), (20, 6), (20, 6), (20, 6), (20, 6), (20, 6), (1, 6), (21, 36), (20, 36), (20, 6), (20, 5), (20, 5), (20, 5), (5, 7), (20, 5), (20, 5), (20, 5), (20, 5), (20, 5), (20, 5), (9, 6), (20, 8), (20, 8), (20, 8), (20, 8), (20, 8)]
abbrev zp5 : List (Nat × Nat) := [(5, 7), (20, 5), (20, 5), (20, 5), (20, 5), (20, 5), (20, 5)]
abbrev zp6 : List (Nat × Nat) := [(6, 1), (20, 36)]
abbrev zp7 : List (Nat × Nat) := [(7, 4), (20, 4), (20, 4), (21, 4)]
abbrev zp9 : List (Nat × Nat) := [(9, 6), (20, 8), (20, 8), (20, 8), (20, 8), (20, 8)]
theorem zl_0 : zl 0 = (11, 13) := by decide +kernel
theorem zl_1 : zl 1 = (2, 4) := by decide +kernel
theorem zl_2 : zl 2 = (1, 6) := by decide +kernel
theorem zl_3 : zl 3 = (21, 36) := by decide +kernel
theorem zl_4 : zl 4 = (20, 36) := by decide +kernel
theorem zl_5 : zl 5 = (20, 6) := by decide +kernel
theorem zl_6 : zl 6 = (5, 7) := by decide +kernel
theorem zl_7 : zl 7 = (20, 5) := by decide +kernel
theorem zl_8 : zl 8 = (20, 5) := by decide +kernel
theorem zl_9 : zl 9 = (20, 5) := by decide +kernel
theorem zl_10 : zl 10 = (20, 5) := by decide +kernel
theorem zl_11 : zl 11 = (20, 5) := by decide +kernel
theorem zl_12 : zl 12 = (20, 5) := by decide +kernel
theorem zl_13 : zl 13 = (9, 6) := by decide +kernel
theorem zl_14 : zl 14 = (20, 8) := by decide +kernel
theorem zl_15 : zl 15 = (20, 8) := by decide +kernel
theorem zl_16 : zl 16 = (20, 8) := by decide +kernel
theorem zl_17 : zl 17 = (20, 8) := by decide +kernel
theorem zl_18 : zl 18 = (20, 8) := by decide +kernel
theorem zl_19 : zl 19 = (7, 4) := by decide +kernel
theorem zl_20 : zl 20 = (20, 4) := by decide +kernel
theorem zl_21 : zl 21 = (20, 4) := by decide +kernel
theorem zl_22 : zl 22 = (21, 4) := by decide +kernel
theorem zl_23 : zl 23 = (2, 4) := by decide +kernel
theorem zl_24 : zl 24 = (1, 6) := by decide +kernel
theorem zl_25 : zl 25 = (21, 36) := by decide +kernel
theorem zl_26 : zl 26 = (20, 36) := by decide +kernel
theorem zl_27 : zl 27 = (20, 6) := by decide +kernel
theorem zl_28 : zl 28 = (5, 7) := by decide +kernel
theorem zl_29 : zl 29 = (20, 5) := by decide +kernel
theorem zl_30 : zl 30 = (20, 5) := by decide +kernel
theorem zl_31 : zl 31 = (20, 5) := by decide +kernel
theorem zl_32 : zl 32 = (20, 5) := by decide +kernel
theorem zl_33 : zl 33 = (20, 5) := by decide +kernel
theorem zl_34 : zl 34 = (20, 5) := by decide +kernel
theorem zl_35 : zl 35 = (9, 6) := by decide +kernel
theorem zl_36 : zl 36 = (20, 8) := by decide +kernel
theorem zl_37 : zl 37 = (20, 8) := by decide +kernel
theorem zl_38 : zl 38 = (20, 8) := by decide +kernel
theorem zl_39 : zl 39 = (20, 8) := by decide +kernel
theorem zl_40 : zl 40 = (20, 8) := by decide +kernel
theorem zl_41 : zl 41 = (7, 4) := by decide +kernel
theorem zl_42 : zl 42 = (20, 4) := by decide +kernel
theorem zl_43 : zl 43 = (20, 4) := by decide +kernel
theorem zl_44 : zl 44 = (21, 4) := by decide +kernel
theorem zl_45 : zl 45 = (23, 2) := by decide +kernel
theorem zl_46 : zl 46 = (21, 2) := by decide +kernel
theorem zl_47 : zl 47 = (10, 6) := by decide +kernel
theorem zl_48 : zl 48 = (20, 60) := by decide +kernel
theorem zl_49 : zl 49 = (22, 60) := by decide +kernel
theorem zl_50 : zl 50 = (20, 5) := by decide +kernel
theorem zl_51 : zl 51 = (20, 5) := by decide +kernel
theorem zl_52 : zl 52 = (20, 5) := by decide +kernel
theorem zl_53 : zl 53 = (20, 5) := by decide +kernel
theorem zl_54 : zl 54 = (20, 5) := by decide +kernel
theorem zl_55 : zl 55 = (20, 5) := by decide +kernel
theorem zl_56 : zl 56 = (20, 5) := by decide +kernel
theorem zl_57 : zl 57 = (20, 5) := by decide +kernel
theorem zl_58 : zl 58 = (20, 5) := by decide +kernel
theorem zl_59 : zl 59 = (20, 5) := by decide +kernel
theorem zl_60 : zl 60 = (20, 5) := by decide +kernel
theorem zl_61 : zl 61 = (20, 5) := by decide +kernel
theorem zl_62 : zl 62 = (20, 5) := by decide +kernel
theorem zl_63 : zl 63 = (20, 5) := by decide +kernel
theorem zl_64 : zl 64 = (20, 5) := by decide +kernel
theorem zl_65 : zl 65 = (20, 5) := by decide +kernel
theorem zl_66 : zl 66 = (20, 5) := by decide +kernel
theorem zl_67 : zl 67 = (20, 5) := by decide +kernel
theorem zl_68 : zl 68 = (20, 5) := by decide +kernel
theorem zl_69 : zl 69 = (20, 5) := by decide +kernel
theorem zl_70 : zl 70 = (20, 5) := by decide +kernel
theorem zl_71 : zl 71 = (20, 5) := by decide +kernel
theorem zl_72 : zl 72 = (20, 5) := by decide +kernel
theorem zl_73 : zl 73 = (20, 5) := by decide +kernel
theorem zl_74 : zl 74 = (20, 5) := by decide +kernel
theorem zl_75 : zl 75 = (20, 5) := by decide +kernel
theorem zl_76 : zl 76 = (20, 5) := by decide +kernel
theorem zl_77 : zl 77 = (20, 5) := by decide +kernel
theorem zl_78 : zl 78 = (20, 5) := by decide +kernel
theorem zl_79 : zl 79 = (20, 5) := by decide +kernel
theorem zl_80 : zl 80 = (20, 5) := by decide +kernel
theorem zl_81 : zl 81 = (20, 5) := by decide +kernel
theorem zl_82 : zl 82 = (20, 5) := by decide +kernel
theorem zl_83 : zl 83 = (20, 5) := by decide +kernel
theorem zl_84 : zl 84 = (20, 5) := by decide +kernel
theorem zl_85 : zl 85 = (20, 5) := by decide +kernel
theorem zl_86 : zl 86 = (20, 5) := by decide +kernel
theorem zl_87 : zl 87 = (20, 5) := by decide +kernel
theorem zl_88 : zl 88 = (20, 5) := by decide +kernel
theorem zl_89 : zl 89 = (20, 5) := by decide +kernel
theorem zl_90 : zl 90 = (20, 5) := by decide +kernel
theorem zl_91 : zl 91 = (20, 5) := by decide +kernel
theorem zl_92 : zl 92 = (20, 5) := by decide +kernel
theorem zl_93 : zl 93 = (20, 5) := by decide +kernel
theorem zl_94 : zl 94 = (20, 5) := by decide +kernel
theorem zl_95 : zl 95 = (20, 5) := by decide +kernel
theorem zl_96 : zl 96 = (20, 5) := by decide +kernel
theorem zl_97 : zl 97 = (20, 5) := by decide +kernel
theorem zl_98 : zl 98 = (20, 5) := by decide +kernel
theorem zl_99 : zl 99 = (20, 5) := by decide +kernel
theorem zl_100 : zl 100 = (20, 5) := by decide +kernel
theorem zl_101 : zl 101 = (20, 5) := by decide +kernel
theorem zl_102 : zl 102 = (20, 5) := by decide +kernel
theorem zl_103 : zl 103 = (20, 5) := by decide +kernel
theorem zl_104 : zl 104 = (20, 5) := by decide +kernel
theorem zl_105 : zl 105 = (20, 5) := by decide +kernel
theorem zl_106 : zl 106 = (20, 5) := by decide +kernel
theorem zl_107 : zl 107 = (20, 5) := by decide +kernel
theorem zl_108 : zl 108 = (20, 5) := by decide +kernel
theorem zl_109 : zl 109 = (20, 5) := by decide +kernel
theorem zl_110 : zl 110 = (20, 300) := by decide +kernel
theorem zl_111 : zl 111 = (4, 15) := by decide +kernel
theorem zl_112 : zl 112 = (20, 5) := by decide +kernel
theorem zl_113 : zl 113 = (20, 5) := by decide +kernel
theorem zl_114 : zl 114 = (22, 5) := by decide +kernel
theorem zl_115 : zl 115 = (20, 40) := by decide +kernel
theorem zl_116 : zl 116 = (20, 40) := by decide +kernel
theorem zl_117 : zl 117 = (20, 40) := by decide +kernel
theorem zl_118 : zl 118 = (20, 40) := by decide +kernel
theorem zl_119 : zl 119 = (20, 40) := by decide +kernel
theorem zl_120 : zl 120 = (22, 5) := by decide +kernel
theorem zl_121 : zl 121 = (20, 40) := by decide +kernel
theorem zl_122 : zl 122 = (20, 40) := by decide +kernel
theorem zl_123 : zl 123 = (20, 40) := by decide +kernel
theorem zl_124 : zl 124 = (20, 40) := by decide +kernel
theorem zl_125 : zl 125 = (20, 40) := by decide +kernel
theorem zl_126 : zl 126 = (0, 10) := by decide +kernel
theorem zl_127 : zl 127 = (6, 1) := by decide +kernel
theorem zl_128 : zl 128 = (20, 36) := by decide +kernel
theorem zl_129 : zl 129 = (22, 6) := by decide +kernel
theorem zl_130 : zl 130 = (20, 36) := by decide +kernel
theorem zl_131 : zl 131 = (20, 36) := by decide +kernel
theorem zl_132 : zl 132 = (20, 36) := by decide +kernel
theorem zl_133 : zl 133 = (20, 36) := by decide +kernel
theorem zl_134 : zl 134 = (20, 36) := by decide +kernel
theorem zl_135 : zl 135 = (20, 36) := by decide +kernel
theorem zl_136 : zl 136 = (20, 36) := by decide +kernel
theorem zl_137 : zl 137 = (22, 6) := by decide +kernel
theorem zl_138 : zl 138 = (20, 6) := by decide +kernel
theorem zl_139 : zl 139 = (20, 6) := by decide +kernel
theorem zl_140 : zl 140 = (20, 6) := by decide +kernel
theorem zl_141 : zl 141 = (20, 6) := by decide +kernel
theorem zl_142 : zl 142 = (20, 6) := by decide +kernel
theorem zl_143 : zl 143 = (20, 6) := by decide +kernel
theorem zl_144 : zl 144 = (22, 6) := by decide +kernel
theorem zl_145 : zl 145 = (20, 6) := by decide +kernel
theorem zl_146 : zl 146 = (20, 6) := by decide +kernel
theorem zl_147 : zl 147 = (20, 6) := by decide +kernel
theorem zl_148 : zl 148 = (20, 6) := by decide +kernel
theorem zl_149 : zl 149 = (20, 6) := by decide +kernel
theorem zl_150 : zl 150 = (20, 6) := by decide +kernel
theorem zl_151 : zl 151 = (22, 8) := by decide +kernel
theorem zl_152 : zl 152 = (20, 6) := by decide +kernel
theorem zl_153 : zl 153 = (20, 6) := by decide +kernel
theorem zl_154 : zl 154 = (20, 6) := by decide +kernel
theorem zl_155 : zl 155 = (20, 6) := by decide +kernel
theorem zl_156 : zl 156 = (20, 6) := by decide +kernel
theorem zl_157 : zl 157 = (20, 6) := by decide +kernel
theorem zl_158 : zl 158 = (20, 6) := by decide +kernel
theorem zl_159 : zl 159 = (20, 6) := by decide +kernel
theorem zl_160 : zl 160 = (20, 40) := by decide +kernel
theorem zl_161 : zl 161 = (20, 40) := by decide +kernel
theorem zl_162 : zl 162 = (22, 6) := by decide +kernel
theorem zl_163 : zl 163 = (20, 6) := by decide +kernel
theorem zl_164 : zl 164 = (20, 6) := by decide +kernel
theorem zl_165 : zl 165 = (20, 6) := by decide +kernel
theorem zl_166 : zl 166 = (20, 6) := by decide +kernel
theorem zl_167 : zl 167 = (20, 6) := by decide +kernel
theorem zl_168 : zl 168 = (20, 6) := by decide +kernel
theorem zl_169 : zl 169 = (1, 6) := by decide +kernel
theorem zl_170 : zl 170 = (21, 36) := by decide +kernel
theorem zl_171 : zl 171 = (20, 36) := by decide +kernel
theorem zl_172 : zl 172 = (20, 6) := by decide +kernel
theorem zl_173 : zl 173 = (20, 5) := by decide +kernel
theorem zl_174 : zl 174 = (20, 5) := by decide +kernel
theorem zl_175 : zl 175 = (20, 5) := by decide +kernel
theorem zl_176 : zl 176 = (5, 7) := by decide +kernel
theorem zl_177 : zl 177 = (20, 5) := by decide +kernel
theorem zl_178 : zl 178 = (20, 5) := by decide +kernel
theorem zl_179 : zl 179 = (20, 5) := by decide +kernel
theorem zl_180 : zl 180 = (20, 5) := by decide +kernel
theorem zl_181 : zl 181 = (20, 5) := by decide +kernel
theorem zl_182 : zl 182 = (20, 5) := by decide +kernel
theorem zl_183 : zl 183 = (9, 6) := by decide +kernel
theorem zl_184 : zl 184 = (20, 8) := by decide +kernel
theorem zl_185 : zl 185 = (20, 8) := by decide +kernel
theorem zl_186 : zl 186 = (20, 8) := by decide +kernel
theorem zl_187 : zl 187 = (20, 8) := by decide +kernel
theorem zl_188 : zl 188 = (20, 8) := by decide +kernel
theorem zl_189 : zl 189 = (8, 7) := by decide +kernel
theorem zl_190 : zl 190 = (20, 5) := by decide +kernel
theorem zl_191 : zl 191 = (20, 5) := by decide +kernel
theorem zl_192 : zl 192 = (2, 4) := by decide +kernel
theorem zl_193 : zl 193 = (1, 6) := by decide +kernel
theorem zl_194 : zl 194 = (21, 36) := by decide +kernel
theorem zl_195 : zl 195 = (20, 36) := by decide +kernel
theorem zl_196 : zl 196 = (20, 6) := by decide +kernel
theorem zl_197 : zl 197 = (5, 7) := by decide +kernel
theorem zl_198 : zl 198 = (20, 5) := by decide +kernel
theorem zl_199 : zl 199 = (20, 5) := by decide +kernel
theorem zl_200 : zl 200 = (20, 5) := by decide +kernel
theorem zl_201 : zl 201 = (20, 5) := by decide +kernel
theorem zl_202 : zl 202 = (20, 5) := by decide +kernel
theorem zl_203 : zl 203 = (20, 5) := by decide +kernel
theorem zl_204 : zl 204 = (9, 6) := by decide +kernel
theorem zl_205 : zl 205 = (20, 8) := by decide +kernel
theorem zl_206 : zl 206 = (20, 8) := by decide +kernel
theorem zl_207 : zl 207 = (20, 8) := by decide +kernel
theorem zl_208 : zl 208 = (20, 8) := by decide +kernel
theorem zl_209 : zl 209 = (20, 8) := by decide +kernel
theorem zl_210 : zl 210 = (7, 4) := by decide +kernel
theorem zl_211 : zl 211 = (20, 4) := by decide +kernel
theorem zl_212 : zl 212 = (20, 4) := by decide +kernel
theorem zl_213 : zl 213 = (21, 4) := by decide +kernel
theorem zl_214 : zl 214 = (4, 15) := by decide +kernel
theorem zl_215 : zl 215 = (20, 5) := by decide +kernel
theorem zl_216 : zl 216 = (20, 5) := by decide +kernel
theorem zl_217 : zl 217 = (22, 5) := by decide +kernel
theorem zl_218 : zl 218 = (20, 40) := by decide +kernel
theorem zl_219 : zl 219 = (20, 40) := by decide +kernel
theorem zl_220 : zl 220 = (20, 40) := by decide +kernel
theorem zl_221 : zl 221 = (20, 40) := by decide +kernel
theorem zl_222 : zl 222 = (20, 40) := by decide +kernel
theorem zl_223 : zl 223 = (22, 5) := by decide +kernel
theorem zl_224 : zl 224 = (20, 40) := by decide +kernel
theorem zl_225 : zl 225 = (20, 40) := by decide +kernel
theorem zl_226 : zl 226 = (20, 40) := by decide +kernel
theorem zl_227 : zl 227 = (20, 40) := by decide +kernel
theorem zl_228 : zl 228 = (20, 40) := by decide +kernel
theorem zl_229 : zl 229 = (0, 10) := by decide +kernel
theorem zl_230 : zl 230 = (6, 1) := by decide +kernel
theorem zl_231 : zl 231 = (20, 36) := by decide +kernel
theorem zl_232 : zl 232 = (22, 6) := by decide +kernel
theorem zl_233 : zl 233 = (20, 36) := by decide +kernel
theorem zl_234 : zl 234 = (20, 36) := by decide +kernel
theorem zl_235 : zl 235 = (20, 36) := by decide +kernel
theorem zl_236 : zl 236 = (20, 36) := by decide +kernel
theorem zl_237 : zl 237 = (20, 36) := by decide +kernel
theorem zl_238 : zl 238 = (20, 36) := by decide +kernel
theorem zl_239 : zl 239 = (20, 36) := by decide +kernel
theorem zl_240 : zl 240 = (22, 6) := by decide +kernel
theorem zl_241 : zl 241 = (20, 6) := by decide +kernel
theorem zl_242 : zl 242 = (20, 6) := by decide +kernel
theorem zl_243 : zl 243 = (20, 6) := by decide +kernel
theorem zl_244 : zl 244 = (20, 6) := by decide +kernel
theorem zl_245 : zl 245 = (20, 6) := by decide +kernel
theorem zl_246 : zl 246 = (20, 6) := by decide +kernel
theorem zl_247 : zl 247 = (22, 6) := by decide +kernel
theorem zl_248 : zl 248 = (20, 6) := by decide +kernel
theorem zl_249 : zl 249 = (20, 6) := by decide +kernel
theorem zl_250 : zl 250 = (20, 6) := by decide +kernel
theorem zl_251 : zl 251 = (20, 6) := by decide +kernel
theorem zl_252 : zl 252 = (20, 6) := by decide +kernel
theorem zl_253 : zl 253 = (20, 6) := by decide +kernel
theorem zl_254 : zl 254 = (22, 8) := by decide +kernel
theorem zl_255 : zl 255 = (20, 6) := by decide +kernel
theorem zl_256 : zl 256 = (20, 6) := by decide +kernel
theorem zl_257 : zl 257 = (20, 6) := by decide +kernel
theorem zl_258 : zl 258 = (20, 6) := by decide +kernel
theorem zl_259 : zl 259 = (20, 6) := by decide +kernel
theorem zl_260 : zl 260 = (20, 6) := by decide +kernel
theorem zl_261 : zl 261 = (20, 6) := by decide +kernel
theorem zl_262 : zl 262 = (20, 6) := by decide +kernel
theorem zl_263 : zl 263 = (20, 40) := by decide +kernel
theorem zl_264 : zl 264 = (20, 40) := by decide +kernel
theorem zl_265 : zl 265 = (22, 6) := by decide +kernel
theorem zl_266 : zl 266 = (20, 6) := by decide +kernel
theorem zl_267 : zl 267 = (20, 6) := by decide +kernel
theorem zl_268 : zl 268 = (20, 6) := by decide +kernel
theorem zl_269 : zl 269 = (20, 6) := by decide +kernel
theorem zl_270 : zl 270 = (20, 6) := by decide +kernel
theorem zl_271 : zl 271 = (20, 6) := by decide +kernel
theorem zl_272 : zl 272 = (1, 6) := by decide +kernel
theorem zl_273 : zl 273 = (21, 36) := by decide +kernel
theorem zl_274 : zl 274 = (20, 36) := by decide +kernel
theorem zl_275 : zl 275 = (20, 6) := by decide +kernel
theorem zl_276 : zl 276 = (20, 5) := by decide +kernel
theorem zl_277 : zl 277 = (20, 5) := by decide +kernel
theorem zl_278 : zl 278 = (20, 5) := by decide +kernel
theorem zl_279 : zl 279 = (5, 7) := by decide +kernel
theorem zl_280 : zl 280 = (20, 5) := by decide +kernel
theorem zl_281 : zl 281 = (20, 5) := by decide +kernel
theorem zl_282 : zl 282 = (20, 5) := by decide +kernel
theorem zl_283 : zl 283 = (20, 5) := by decide +kernel
theorem zl_284 : zl 284 = (20, 5) := by decide +kernel
theorem zl_285 : zl 285 = (20, 5) := by decide +kernel
theorem zl_286 : zl 286 = (9, 6) := by decide +kernel
theorem zl_287 : zl 287 = (20, 8) := by decide +kernel
theorem zl_288 : zl 288 = (20, 8) := by decide +kernel
theorem zl_289 : zl 289 = (20, 8) := by decide +kernel
theorem zl_290 : zl 290 = (20, 8) := by decide +kernel
theorem zl_291 : zl 291 = (20, 8) := by decide +kernel
theorem zl_292 : zl 292 = (3, 8) := by decide +kernel
theorem zl_293 : zl 293 = (0, 10) := by decide +kernel
theorem zl_294 : zl 294 = (6, 1) := by decide +kernel
theorem zl_295 : zl 295 = (20, 36) := by decide +kernel
theorem zl_296 : zl 296 = (22, 6) := by decide +kernel
theorem zl_297 : zl 297 = (20, 36) := by decide +kernel
theorem zl_298 : zl 298 = (20, 36) := by decide +kernel
theorem zl_299 : zl 299 = (20, 36) := by decide +kernel
theorem zl_300 : zl 300 = (20, 36) := by decide +kernel
theorem zl_301 : zl 301 = (20, 36) := by decide +kernel
theorem zl_302 : zl 302 = (20, 36) := by decide +kernel
theorem zl_303 : zl 303 = (20, 36) := by decide +kernel
theorem zl_304 : zl 304 = (22, 6) := by decide +kernel
theorem zl_305 : zl 305 = (20, 6) := by decide +kernel
theorem zl_306 : zl 306 = (20, 6) := by decide +kernel
theorem zl_307 : zl 307 = (20, 6) := by decide +kernel
theorem zl_308 : zl 308 = (20, 6) := by decide +kernel
theorem zl_309 : zl 309 = (20, 6) := by decide +kernel
theorem zl_310 : zl 310 = (20, 6) := by decide +kernel
theorem zl_311 : zl 311 = (22, 6) := by decide +kernel
theorem zl_312 : zl 312 = (20, 6) := by decide +kernel
theorem zl_313 : zl 313 = (20, 6) := by decide +kernel
theorem zl_314 : zl 314 = (20, 6) := by decide +kernel
theorem zl_315 : zl 315 = (20, 6) := by decide +kernel
theorem zl_316 : zl 316 = (20, 6) := by decide +kernel
theorem zl_317 : zl 317 = (20, 6) := by decide +kernel
theorem zl_318 : zl 318 = (22, 8) := by decide +kernel
theorem zl_319 : zl 319 = (20, 6) := by decide +kernel
theorem zl_320 : zl 320 = (20, 6) := by decide +kernel
theorem zl_321 : zl 321 = (20, 6) := by decide +kernel
theorem zl_322 : zl 322 = (20, 6) := by decide +kernel
theorem zl_323 : zl 323 = (20, 6) := by decide +kernel
theorem zl_324 : zl 324 = (20, 6) := by decide +kernel
theorem zl_325 : zl 325 = (20, 6) := by decide +kernel
theorem zl_326 : zl 326 = (20, 6) := by decide +kernel
theorem zl_327 : zl 327 = (20, 40) := by decide +kernel
theorem zl_328 : zl 328 = (20, 40) := by decide +kernel
theorem zl_329 : zl 329 = (22, 6) := by decide +kernel
theorem zl_330 : zl 330 = (20, 6) := by decide +kernel
theorem zl_331 : zl 331 = (20, 6) := by decide +kernel
theorem zl_332 : zl 332 = (20, 6) := by decide +kernel
theorem zl_333 : zl 333 = (20, 6) := by decide +kernel
theorem zl_334 : zl 334 = (20, 6) := by decide +kernel
theorem zl_335 : zl 335 = (20, 6) := by decide +kernel
theorem zl_336 : zl 336 = (1, 6) := by decide +kernel
theorem zl_337 : zl 337 = (21, 36) := by decide +kernel
theorem zl_338 : zl 338 = (20, 36) := by decide +kernel
theorem zl_339 : zl 339 = (20, 6) := by decide +kernel
theorem zl_340 : zl 340 = (6, 1) := by decide +kernel
theorem zl_341 : zl 341 = (20, 36) := by decide +kernel
theorem zl_342 : zl 342 = (20, 36) := by decide +kernel
theorem zl_343 : zl 343 = (21, 36) := by decide +kernel
theorem zl_344 : zl 344 = (20, 36) := by decide +kernel
theorem zl_345 : zl 345 = (6, 1) := by decide +kernel
theorem zl_346 : zl 346 = (20, 36) := by decide +kernel
theorem zl_347 : zl 347 = (20, 36) := by decide +kernel
theorem zl_348 : zl 348 = (20, 3) := by decide +kernel
theorem zl_349 : zl 349 = (2, 4) := by decide +kernel
theorem zl_350 : zl 350 = (1, 6) := by decide +kernel
theorem zl_351 : zl 351 = (21, 36) := by decide +kernel
theorem zl_352 : zl 352 = (20, 36) := by decide +kernel
theorem zl_353 : zl 353 = (20, 6) := by decide +kernel
theorem zl_354 : zl 354 = (5, 7) := by decide +kernel
theorem zl_355 : zl 355 = (20, 5) := by decide +kernel
theorem zl_356 : zl 356 = (20, 5) := by decide +kernel
theorem zl_357 : zl 357 = (20, 5) := by decide +kernel
theorem zl_358 : zl 358 = (20, 5) := by decide +kernel
theorem zl_359 : zl 359 = (20, 5) := by decide +kernel
theorem zl_360 : zl 360 = (20, 5) := by decide +kernel
theorem zl_361 : zl 361 = (9, 6) := by decide +kernel
theorem zl_362 : zl 362 = (20, 8) := by decide +kernel
theorem zl_363 : zl 363 = (20, 8) := by decide +kernel
theorem zl_364 : zl 364 = (20, 8) := by decide +kernel
theorem zl_365 : zl 365 = (20, 8) := by decide +kernel
theorem zl_366 : zl 366 = (20, 8) := by decide +kernel
theorem zl_367 : zl 367 = (7, 4) := by decide +kernel
theorem zl_368 : zl 368 = (20, 4) := by decide +kernel
theorem zl_369 : zl 369 = (20, 4) := by decide +kernel
theorem zl_370 : zl 370 = (21, 4) := by decide +kernel
theorem zl_371 : zl 371 = (2, 4) := by decide +kernel
theorem zl_372 : zl 372 = (1, 6) := by decide +kernel
theorem zl_373 : zl 373 = (21, 36) := by decide +kernel
theorem zl_374 : zl 374 = (20, 36) := by decide +kernel
theorem zl_375 : zl 375 = (20, 6) := by decide +kernel
theorem zl_376 : zl 376 = (5, 7) := by decide +kernel
theorem zl_377 : zl 377 = (20, 5) := by decide +kernel
theorem zl_378 : zl 378 = (20, 5) := by decide +kernel
theorem zl_379 : zl 379 = (20, 5) := by decide +kernel
theorem zl_380 : zl 380 = (20, 5) := by decide +kernel
theorem zl_381 : zl 381 = (20, 5) := by decide +kernel
theorem zl_382 : zl 382 = (20, 5) := by decide +kernel
theorem zl_383 : zl 383 = (9, 6) := by decide +kernel
theorem zl_384 : zl 384 = (20, 8) := by decide +kernel
theorem zl_385 : zl 385 = (20, 8) := by decide +kernel
theorem zl_386 : zl 386 = (20, 8) := by decide +kernel
theorem zl_387 : zl 387 = (20, 8) := by decide +kernel
theorem zl_388 : zl 388 = (20, 8) := by decide +kernel
theorem zl_389 : zl 389 = (7, 4) := by decide +kernel
theorem zl_390 : zl 390 = (20, 4) := by decide +kernel
theorem zl_391 : zl 391 = (20, 4) := by decide +kernel
theorem zl_392 : zl 392 = (21, 4) := by decide +kernel
theorem zl_393 : zl 393 = (12, 42) := by decide +kernel
theorem zl_394 : zl 394 = (20, 172) := by decide +kernel
theorem zl_395 : zl 395 = (20, 344) := by decide +kernel
theorem zl_396 : zl 396 = (21, 2) := by decide +kernel
theorem zl_397 : zl 397 = (20, 172) := by decide +kernel
theorem zl_398 : zl 398 = (20, 3) := by decide +kernel
theorem zl_399 : zl 399 = (20, 300) := by decide +kernel
theorem zl_400 : zl 400 = (20, 300) := by decide +kernel
theorem zl_401 : zl 401 = (20, 1500) := by decide +kernel
theorem zl_402 : zl 402 = (20, 1296) := by decide +kernel
theorem zl_403 : zl 403 = (20, 5) := by decide +kernel
theorem zl_404 : zl 404 = (20, 5) := by decide +kernel
theorem zl_405 : zl 405 = (20, 5) := by decide +kernel
theorem zl_406 : zl 406 = (20, 5) := by decide +kernel
theorem zl_407 : zl 407 = (20, 200) := by decide +kernel
theorem zl_408 : zl 408 = (20, 5) := by decide +kernel
theorem zl_409 : zl 409 = (20, 200) := by decide +kernel
theorem zl_410 : zl 410 = (20, 200) := by decide +kernel
theorem zl_411 : zl 411 = (20, 220) := by decide +kernel
theorem zl_412 : zl 412 = (20, 220) := by decide +kernel
theorem zl_413 : zl 413 = (20, 220) := by decide +kernel
theorem zl_414 : zl 414 = (20, 220) := by decide +kernel
theorem zl_415 : zl 415 = (20, 36) := by decide +kernel
theorem zl_416 : zl 416 = (20, 36) := by decide +kernel
theorem zl_417 : zl 417 = (20, 5) := by decide +kernel
theorem zl_418 : zl 418 = (20, 5) := by decide +kernel
theorem zl_419 : zl 419 = (20, 5) := by decide +kernel
theorem zq0_126 : zAt zp0 126 := zAt.of (by decide +kernel)
theorem zq0_229 : zAt zp0 229 := zAt.of (by decide +kernel)
theorem zq0_293 : zAt zp0 293 := zAt.of (by decide +kernel)
theorem zq1_2 : zAt zp1 2 := zAt.of (by decide +kernel)
theorem zq1_24 : zAt zp1 24 := zAt.of (by decide +kernel)
theorem zq1_169 : zAt zp1 169 := zAt.of (by decide +kernel)
theorem zq1_193 : zAt zp1 193 := zAt.of (by decide +kernel)
theorem zq1_272 : zAt zp1 272 := zAt.of (by decide +kernel)
theorem zq1_336 : zAt zp1 336 := zAt.of (by decide +kernel)
theorem zq1_350 : zAt zp1 350 := zAt.of (by decide +kernel)
theorem zq1_372 : zAt zp1 372 := zAt.of (by decide +kernel)
theorem zq2_1 : zAt zp2 1 := zAt.of (by decide +kernel)
theorem zq2_23 : zAt zp2 23 := zAt.of (by decide +kernel)
theorem zq2_192 : zAt zp2 192 := zAt.of (by decide +kernel)
theorem zq2_349 : zAt zp2 349 := zAt.of (by decide +kernel)
theorem zq2_371 : zAt zp2 371 := zAt.of (by decide +kernel)
theorem zq4_111 : zAt zp4 111 := zAt.of (by decide +kernel)
theorem zq4_214 : zAt zp4 214 := zAt.of (by decide +kernel)
theorem zq5_6 : zAt zp5 6 := zAt.of (by decide +kernel)
theorem zq5_28 : zAt zp5 28 := zAt.of (by decide +kernel)
theorem zq5_176 : zAt zp5 176 := zAt.of (by decide +kernel)
theorem zq5_197 : zAt zp5 197 := zAt.of (by decide +kernel)
theorem zq5_279 : zAt zp5 279 := zAt.of (by decide +kernel)
theorem zq5_354 : zAt zp5 354 := zAt.of (by decide +kernel)
theorem zq5_376 : zAt zp5 376 := zAt.of (by decide +kernel)
theorem zq6_127 : zAt zp6 127 := zAt.of (by decide +kernel)
theorem zq6_230 : zAt zp6 230 := zAt.of (by decide +kernel)
theorem zq6_294 : zAt zp6 294 := zAt.of (by decide +kernel)
theorem zq6_340 : zAt zp6 340 := zAt.of (by decide +kernel)
theorem zq6_345 : zAt zp6 345 := zAt.of (by decide +kernel)
theorem zq7_19 : zAt zp7 19 := zAt.of (by decide +kernel)
theorem zq7_41 : zAt zp7 41 := zAt.of (by decide +kernel)
theorem zq7_210 : zAt zp7 210 := zAt.of (by decide +kernel)
theorem zq7_367 : zAt zp7 367 := zAt.of (by decide +kernel)
theorem zq7_389 : zAt zp7 389 := zAt.of (by decide +kernel)
theorem zq9_13 : zAt zp9 13 := zAt.of (by decide +kernel)
theorem zq9_35 : zAt zp9 35 := zAt.of (by decide +kernel)
theorem zq9_183 : zAt zp9 183 := zAt.of (by decide +kernel)
theorem zq9_204 : zAt zp9 204 := zAt.of (by decide +kernel)
theorem zq9_286 : zAt zp9 286 := zAt.of (by decide +kernel)
theorem zq9_361 : zAt zp9 361 := zAt.of (by decide +kernel)
theorem zq9_383 : zAt zp9 383 := zAt.of (by decide +kernel)
theorem p_0_9 : zPl 0 9 (.object "OneRoom$Floor") := ⟨_, rfl, by decide +kernel, by decide +kernel⟩
theorem p_1_3 : zPl 1 3 .int := ⟨_, rfl, by decide +kernel, by decide +kernel⟩
theorem p_1_4 : zPl 1 4 .int := ⟨_, rfl, by decide +kernel, by decide +kernel⟩
theorem p_1_5 : zPl 1 5 .int := ⟨_, rfl, by decide +kernel, by decide +kernel⟩
theorem p_3_0 : zPl 3 0 .int := ⟨_, rfl, by decide +kernel, by decide +kernel⟩
theorem p_3_1 : zPl 3 1 .int := ⟨_, rfl, by decide +kernel, by decide +kernel⟩
theorem p_3_2 : zPl 3 2 .int := ⟨_, rfl, by decide +kernel, by decide +kernel⟩
theorem p_4_8 : zPl 4 8 (.object "OneRoom$People") := ⟨_, rfl, by decide +kernel, by decide +kernel⟩
theorem p_4_9 : zPl 4 9 (.object "OneRoom$Sounds") := ⟨_, rfl, by decide +kernel, by decide +kernel⟩
theorem p_4_10 : zPl 4 10 .int := ⟨_, rfl, by decide +kernel, by decide +kernel⟩
theorem p_4_11 : zPl 4 11 .int := ⟨_, rfl, by decide +kernel, by decide +kernel⟩
theorem p_4_12 : zPl 4 12 .int := ⟨_, rfl, by decide +kernel, by decide +kernel⟩
theorem p_4_13 : zPl 4 13 .int := ⟨_, rfl, by decide +kernel, by decide +kernel⟩
theorem p_4_14 : zPl 4 14 .int := ⟨_, rfl, by decide +kernel, by decide +kernel⟩
theorem p_5_6 : zPl 5 6 .int := ⟨_, rfl, by decide +kernel, by decide +kernel⟩
theorem p_7_3 : zPl 7 3 .int := ⟨_, rfl, by decide +kernel, by decide +kernel⟩
theorem p_8_1 : zPl 8 1 .int := ⟨_, rfl, by decide +kernel, by decide +kernel⟩
theorem p_8_2 : zPl 8 2 .int := ⟨_, rfl, by decide +kernel, by decide +kernel⟩
theorem p_8_3 : zPl 8 3 .boolean := ⟨_, rfl, by decide +kernel, by decide +kernel⟩
theorem p_9_5 : zPl 9 5 .int := ⟨_, rfl, by decide +kernel, by decide +kernel⟩
theorem p_10_0 : zPl 10 0 .int := ⟨_, rfl, by decide +kernel, by decide +kernel⟩
theorem p_10_1 : zPl 10 1 .int := ⟨_, rfl, by decide +kernel, by decide +kernel⟩
theorem p_10_5 : zPl 10 5 .int := ⟨_, rfl, by decide +kernel, by decide +kernel⟩
theorem p_11_11 : zPl 11 11 .int := ⟨_, rfl, by decide +kernel, by decide +kernel⟩
theorem p_11_12 : zPl 11 12 .int := ⟨_, rfl, by decide +kernel, by decide +kernel⟩
theorem p_12_5 : zPl 12 5 .int := ⟨_, rfl, by decide +kernel, by decide +kernel⟩
theorem p_12_6 : zPl 12 6 .int := ⟨_, rfl, by decide +kernel, by decide +kernel⟩
theorem p_12_7 : zPl 12 7 .boolean := ⟨_, rfl, by decide +kernel, by decide +kernel⟩
theorem p_12_9 : zPl 12 9 .int := ⟨_, rfl, by decide +kernel, by decide +kernel⟩
theorem p_12_10 : zPl 12 10 .int := ⟨_, rfl, by decide +kernel, by decide +kernel⟩
theorem p_12_11 : zPl 12 11 .int := ⟨_, rfl, by decide +kernel, by decide +kernel⟩
theorem p_12_12 : zPl 12 12 .int := ⟨_, rfl, by decide +kernel, by decide +kernel⟩
theorem p_12_13 : zPl 12 13 .int := ⟨_, rfl, by decide +kernel, by decide +kernel⟩
theorem p_12_16 : zPl 12 16 .int := ⟨_, rfl, by decide +kernel, by decide +kernel⟩
theorem p_12_18 : zPl 12 18 .int := ⟨_, rfl, by decide +kernel, by decide +kernel⟩
theorem p_12_31 : zPl 12 31 .int := ⟨_, rfl, by decide +kernel, by decide +kernel⟩
theorem p_12_32 : zPl 12 32 .int := ⟨_, rfl, by decide +kernel, by decide +kernel⟩
theorem p_12_33 : zPl 12 33 .int := ⟨_, rfl, by decide +kernel, by decide +kernel⟩
theorem p_12_39 : zPl 12 39 .int := ⟨_, rfl, by decide +kernel, by decide +kernel⟩
theorem p_12_40 : zPl 12 40 .int := ⟨_, rfl, by decide +kernel, by decide +kernel⟩
theorem p_12_41 : zPl 12 41 .boolean := ⟨_, rfl, by decide +kernel, by decide +kernel⟩
