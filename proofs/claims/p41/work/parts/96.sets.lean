/-! The law lets a guard set off. -/
theorem d294_0 : decode (m_code 294) 0 = .ok (.iconst 0, 1) := by decide +kernel
theorem d294_1 : decode (m_code 294) 1 = .ok (.istore_n 3, 1) := by decide +kernel
theorem d294_2 : decode (m_code 294) 2 = .ok (.iload_n 3, 1) := by decide +kernel
theorem d294_3 : decode (m_code 294) 3 = .ok (.iconst 4, 1) := by decide +kernel
theorem d294_4 : decode (m_code 294) 4 = .ok (.if_icmp .ge 51, 3) := by decide +kernel
theorem d294_7 : decode (m_code 294) 7 = .ok (.aload_n 2, 1) := by decide +kernel
theorem d294_8 : decode (m_code 294) 8 = .ok (.iconst 4, 1) := by decide +kernel
theorem d294_9 : decode (m_code 294) 9 = .ok (.iload_n 3, 1) := by decide +kernel
theorem d294_10 : decode (m_code 294) 10 = .ok (.imul, 1) := by decide +kernel
theorem d294_11 : decode (m_code 294) 11 = .ok (.iaload, 1) := by decide +kernel
theorem d294_12 : decode (m_code 294) 12 = .ok (.iload_n 0, 1) := by decide +kernel
theorem d294_13 : decode (m_code 294) 13 = .ok (.if_icmp .ne 14, 3) := by decide +kernel
theorem d294_16 : decode (m_code 294) 16 = .ok (.aload_n 2, 1) := by decide +kernel
theorem d294_17 : decode (m_code 294) 17 = .ok (.iconst 4, 1) := by decide +kernel
theorem d294_18 : decode (m_code 294) 18 = .ok (.iload_n 3, 1) := by decide +kernel
theorem d294_19 : decode (m_code 294) 19 = .ok (.imul, 1) := by decide +kernel
theorem d294_20 : decode (m_code 294) 20 = .ok (.iconst 1, 1) := by decide +kernel
theorem d294_21 : decode (m_code 294) 21 = .ok (.iadd, 1) := by decide +kernel
theorem d294_22 : decode (m_code 294) 22 = .ok (.iaload, 1) := by decide +kernel
theorem d294_23 : decode (m_code 294) 23 = .ok (.iload_n 1, 1) := by decide +kernel
theorem d294_24 : decode (m_code 294) 24 = .ok (.if_icmp .eq 23, 3) := by decide +kernel
theorem d294_27 : decode (m_code 294) 27 = .ok (.aload_n 2, 1) := by decide +kernel
theorem d294_28 : decode (m_code 294) 28 = .ok (.iconst 4, 1) := by decide +kernel
theorem d294_29 : decode (m_code 294) 29 = .ok (.iload_n 3, 1) := by decide +kernel
theorem d294_30 : decode (m_code 294) 30 = .ok (.imul, 1) := by decide +kernel
theorem d294_31 : decode (m_code 294) 31 = .ok (.iaload, 1) := by decide +kernel
theorem d294_32 : decode (m_code 294) 32 = .ok (.iload_n 1, 1) := by decide +kernel
theorem d294_33 : decode (m_code 294) 33 = .ok (.if_icmp .ne 16, 3) := by decide +kernel
theorem d294_36 : decode (m_code 294) 36 = .ok (.aload_n 2, 1) := by decide +kernel
theorem d294_37 : decode (m_code 294) 37 = .ok (.iconst 4, 1) := by decide +kernel
theorem d294_38 : decode (m_code 294) 38 = .ok (.iload_n 3, 1) := by decide +kernel
theorem d294_39 : decode (m_code 294) 39 = .ok (.imul, 1) := by decide +kernel
theorem d294_40 : decode (m_code 294) 40 = .ok (.iconst 1, 1) := by decide +kernel
theorem d294_41 : decode (m_code 294) 41 = .ok (.iadd, 1) := by decide +kernel
theorem d294_42 : decode (m_code 294) 42 = .ok (.iaload, 1) := by decide +kernel
theorem d294_43 : decode (m_code 294) 43 = .ok (.iload_n 0, 1) := by decide +kernel
theorem d294_44 : decode (m_code 294) 44 = .ok (.if_icmp .ne 5, 3) := by decide +kernel
theorem d294_47 : decode (m_code 294) 47 = .ok (.iload_n 3, 1) := by decide +kernel
theorem d294_48 : decode (m_code 294) 48 = .ok (.ireturn, 1) := by decide +kernel
theorem d294_49 : decode (m_code 294) 49 = .ok (.iinc 3 1, 3) := by decide +kernel
theorem d294_52 : decode (m_code 294) 52 = .ok (.goto (-50), 3) := by decide +kernel
theorem d294_55 : decode (m_code 294) 55 = .ok (.iconst (-1), 1) := by decide +kernel
theorem d294_56 : decode (m_code 294) 56 = .ok (.ireturn, 1) := by decide +kernel
theorem d297_0 : decode (m_code 297) 0 = .ok (.bipush 10, 2) := by decide +kernel
theorem d297_2 : decode (m_code 297) 2 = .ok (.iload_n 0, 1) := by decide +kernel
theorem d297_3 : decode (m_code 297) 3 = .ok (.imul, 1) := by decide +kernel
theorem d297_4 : decode (m_code 297) 4 = .ok (.istore 5, 2) := by decide +kernel
theorem d297_6 : decode (m_code 297) 6 = .ok (.aload_n 3, 1) := by decide +kernel
theorem d297_7 : decode (m_code 297) 7 = .ok (.iload 5, 2) := by decide +kernel
theorem d297_9 : decode (m_code 297) 9 = .ok (.iaload, 1) := by decide +kernel
theorem d297_10 : decode (m_code 297) 10 = .ok (.ifCond .ge 4, 3) := by decide +kernel
theorem d297_13 : decode (m_code 297) 13 = .ok (.return_, 1) := by decide +kernel
theorem d297_14 : decode (m_code 297) 14 = .ok (.aload_n 3, 1) := by decide +kernel
theorem d297_15 : decode (m_code 297) 15 = .ok (.iload 5, 2) := by decide +kernel
theorem d297_17 : decode (m_code 297) 17 = .ok (.iconst 3, 1) := by decide +kernel
theorem d297_18 : decode (m_code 297) 18 = .ok (.iadd, 1) := by decide +kernel
theorem d297_19 : decode (m_code 297) 19 = .ok (.iaload, 1) := by decide +kernel
theorem d297_20 : decode (m_code 297) 20 = .ok (.ifCond .le 14, 3) := by decide +kernel
theorem d297_23 : decode (m_code 297) 23 = .ok (.aload_n 3, 1) := by decide +kernel
theorem d297_24 : decode (m_code 297) 24 = .ok (.iload 5, 2) := by decide +kernel
theorem d297_26 : decode (m_code 297) 26 = .ok (.iconst 3, 1) := by decide +kernel
theorem d297_27 : decode (m_code 297) 27 = .ok (.iadd, 1) := by decide +kernel
theorem d297_28 : decode (m_code 297) 28 = .ok (.dup2, 1) := by decide +kernel
theorem d297_29 : decode (m_code 297) 29 = .ok (.iaload, 1) := by decide +kernel
theorem d297_30 : decode (m_code 297) 30 = .ok (.iconst 1, 1) := by decide +kernel
theorem d297_31 : decode (m_code 297) 31 = .ok (.isub, 1) := by decide +kernel
theorem d297_32 : decode (m_code 297) 32 = .ok (.iastore, 1) := by decide +kernel
theorem d297_33 : decode (m_code 297) 33 = .ok (.return_, 1) := by decide +kernel
theorem d297_34 : decode (m_code 297) 34 = .ok (.aload_n 3, 1) := by decide +kernel
theorem d297_35 : decode (m_code 297) 35 = .ok (.iload 5, 2) := by decide +kernel
theorem d297_37 : decode (m_code 297) 37 = .ok (.iconst 5, 1) := by decide +kernel
theorem d297_38 : decode (m_code 297) 38 = .ok (.iadd, 1) := by decide +kernel
theorem d297_39 : decode (m_code 297) 39 = .ok (.iaload, 1) := by decide +kernel
theorem d297_40 : decode (m_code 297) 40 = .ok (.ifCond .ne 4, 3) := by decide +kernel
theorem d297_43 : decode (m_code 297) 43 = .ok (.return_, 1) := by decide +kernel
theorem d297_44 : decode (m_code 297) 44 = .ok (.aload_n 3, 1) := by decide +kernel
theorem d297_45 : decode (m_code 297) 45 = .ok (.iload 5, 2) := by decide +kernel
theorem d297_47 : decode (m_code 297) 47 = .ok (.iaload, 1) := by decide +kernel
theorem d297_48 : decode (m_code 297) 48 = .ok (.aload 4, 2) := by decide +kernel
theorem d297_50 : decode (m_code 297) 50 = .ok (.bipush 8, 2) := by decide +kernel
theorem d297_52 : decode (m_code 297) 52 = .ok (.iload_n 0, 1) := by decide +kernel
theorem d297_53 : decode (m_code 297) 53 = .ok (.imul, 1) := by decide +kernel
theorem d297_54 : decode (m_code 297) 54 = .ok (.iaload, 1) := by decide +kernel
theorem d297_55 : decode (m_code 297) 55 = .ok (.bipush 100, 2) := by decide +kernel
theorem d297_57 : decode (m_code 297) 57 = .ok (.idiv, 1) := by decide +kernel
theorem d297_58 : decode (m_code 297) 58 = .ok (.aload_n 2, 1) := by decide +kernel
theorem d297_59 : decode (m_code 297) 59 = .ok (.invokestatic 10, 3) := by decide +kernel
theorem d297_62 : decode (m_code 297) 62 = .ok (.istore 6, 2) := by decide +kernel
theorem d297_64 : decode (m_code 297) 64 = .ok (.iload 6, 2) := by decide +kernel
theorem d297_66 : decode (m_code 297) 66 = .ok (.ifCond .lt 35, 3) := by decide +kernel
theorem d297_69 : decode (m_code 297) 69 = .ok (.aload_n 2, 1) := by decide +kernel
theorem d297_70 : decode (m_code 297) 70 = .ok (.iconst 4, 1) := by decide +kernel
theorem d297_71 : decode (m_code 297) 71 = .ok (.iload 6, 2) := by decide +kernel
theorem d297_73 : decode (m_code 297) 73 = .ok (.imul, 1) := by decide +kernel
theorem d297_74 : decode (m_code 297) 74 = .ok (.iconst 3, 1) := by decide +kernel
theorem d297_75 : decode (m_code 297) 75 = .ok (.iadd, 1) := by decide +kernel
theorem d297_76 : decode (m_code 297) 76 = .ok (.iaload, 1) := by decide +kernel
theorem d297_77 : decode (m_code 297) 77 = .ok (.ifCond .lt 43, 3) := by decide +kernel
theorem d297_80 : decode (m_code 297) 80 = .ok (.aload_n 3, 1) := by decide +kernel
theorem d297_81 : decode (m_code 297) 81 = .ok (.iload 5, 2) := by decide +kernel
theorem d297_83 : decode (m_code 297) 83 = .ok (.bipush 6, 2) := by decide +kernel
theorem d297_85 : decode (m_code 297) 85 = .ok (.iadd, 1) := by decide +kernel
theorem d297_86 : decode (m_code 297) 86 = .ok (.iaload, 1) := by decide +kernel
theorem d297_87 : decode (m_code 297) 87 = .ok (.aload_n 2, 1) := by decide +kernel
theorem d297_88 : decode (m_code 297) 88 = .ok (.iconst 4, 1) := by decide +kernel
theorem d297_89 : decode (m_code 297) 89 = .ok (.iload 6, 2) := by decide +kernel
theorem d297_91 : decode (m_code 297) 91 = .ok (.imul, 1) := by decide +kernel
theorem d297_92 : decode (m_code 297) 92 = .ok (.iconst 3, 1) := by decide +kernel
theorem d297_93 : decode (m_code 297) 93 = .ok (.iadd, 1) := by decide +kernel
theorem d297_94 : decode (m_code 297) 94 = .ok (.iaload, 1) := by decide +kernel
theorem d297_95 : decode (m_code 297) 95 = .ok (.ishr, 1) := by decide +kernel
theorem d297_96 : decode (m_code 297) 96 = .ok (.iconst 1, 1) := by decide +kernel
theorem d297_97 : decode (m_code 297) 97 = .ok (.iand, 1) := by decide +kernel
theorem d297_98 : decode (m_code 297) 98 = .ok (.ifCond .ne 22, 3) := by decide +kernel
theorem d297_101 : decode (m_code 297) 101 = .ok (.aload_n 3, 1) := by decide +kernel
theorem d297_102 : decode (m_code 297) 102 = .ok (.iload 5, 2) := by decide +kernel
theorem d297_104 : decode (m_code 297) 104 = .ok (.iconst 5, 1) := by decide +kernel
theorem d297_105 : decode (m_code 297) 105 = .ok (.iadd, 1) := by decide +kernel
theorem d297_106 : decode (m_code 297) 106 = .ok (.iconst 0, 1) := by decide +kernel
theorem d297_107 : decode (m_code 297) 107 = .ok (.iastore, 1) := by decide +kernel
theorem d297_108 : decode (m_code 297) 108 = .ok (.aload_n 3, 1) := by decide +kernel
theorem d297_109 : decode (m_code 297) 109 = .ok (.iload 5, 2) := by decide +kernel
theorem d297_111 : decode (m_code 297) 111 = .ok (.bipush 7, 2) := by decide +kernel
theorem d297_113 : decode (m_code 297) 113 = .ok (.iadd, 1) := by decide +kernel
theorem d297_114 : decode (m_code 297) 114 = .ok (.dup2, 1) := by decide +kernel
theorem d297_115 : decode (m_code 297) 115 = .ok (.iaload, 1) := by decide +kernel
theorem d297_116 : decode (m_code 297) 116 = .ok (.iconst 1, 1) := by decide +kernel
theorem d297_117 : decode (m_code 297) 117 = .ok (.iadd, 1) := by decide +kernel
theorem d297_118 : decode (m_code 297) 118 = .ok (.iastore, 1) := by decide +kernel
theorem d297_119 : decode (m_code 297) 119 = .ok (.return_, 1) := by decide +kernel
theorem d297_120 : decode (m_code 297) 120 = .ok (.aload_n 3, 1) := by decide +kernel
theorem d297_121 : decode (m_code 297) 121 = .ok (.iload 5, 2) := by decide +kernel
theorem d297_123 : decode (m_code 297) 123 = .ok (.iconst (-1), 1) := by decide +kernel
theorem d297_124 : decode (m_code 297) 124 = .ok (.iastore, 1) := by decide +kernel
theorem d297_125 : decode (m_code 297) 125 = .ok (.aload_n 3, 1) := by decide +kernel
theorem d297_126 : decode (m_code 297) 126 = .ok (.iload 5, 2) := by decide +kernel
theorem d297_128 : decode (m_code 297) 128 = .ok (.iconst 1, 1) := by decide +kernel
theorem d297_129 : decode (m_code 297) 129 = .ok (.iadd, 1) := by decide +kernel
theorem d297_130 : decode (m_code 297) 130 = .ok (.aload 4, 2) := by decide +kernel
theorem d297_132 : decode (m_code 297) 132 = .ok (.bipush 8, 2) := by decide +kernel
theorem d297_134 : decode (m_code 297) 134 = .ok (.iload_n 0, 1) := by decide +kernel
theorem d297_135 : decode (m_code 297) 135 = .ok (.imul, 1) := by decide +kernel
theorem d297_136 : decode (m_code 297) 136 = .ok (.iaload, 1) := by decide +kernel
theorem d297_137 : decode (m_code 297) 137 = .ok (.bipush 100, 2) := by decide +kernel
theorem d297_139 : decode (m_code 297) 139 = .ok (.idiv, 1) := by decide +kernel
theorem d297_140 : decode (m_code 297) 140 = .ok (.iastore, 1) := by decide +kernel
theorem d297_141 : decode (m_code 297) 141 = .ok (.aload_n 3, 1) := by decide +kernel
theorem d297_142 : decode (m_code 297) 142 = .ok (.iload 5, 2) := by decide +kernel
theorem d297_144 : decode (m_code 297) 144 = .ok (.iconst 2, 1) := by decide +kernel
theorem d297_145 : decode (m_code 297) 145 = .ok (.iadd, 1) := by decide +kernel
theorem d297_146 : decode (m_code 297) 146 = .ok (.aload_n 2, 1) := by decide +kernel
theorem d297_147 : decode (m_code 297) 147 = .ok (.iconst 4, 1) := by decide +kernel
theorem d297_148 : decode (m_code 297) 148 = .ok (.iload 6, 2) := by decide +kernel
theorem d297_150 : decode (m_code 297) 150 = .ok (.imul, 1) := by decide +kernel
theorem d297_151 : decode (m_code 297) 151 = .ok (.iconst 2, 1) := by decide +kernel
theorem d297_152 : decode (m_code 297) 152 = .ok (.iadd, 1) := by decide +kernel
theorem d297_153 : decode (m_code 297) 153 = .ok (.iaload, 1) := by decide +kernel
theorem d297_154 : decode (m_code 297) 154 = .ok (.iastore, 1) := by decide +kernel
theorem d297_155 : decode (m_code 297) 155 = .ok (.aload_n 3, 1) := by decide +kernel
theorem d297_156 : decode (m_code 297) 156 = .ok (.iload 5, 2) := by decide +kernel
theorem d297_158 : decode (m_code 297) 158 = .ok (.iconst 4, 1) := by decide +kernel
theorem d297_159 : decode (m_code 297) 159 = .ok (.iadd, 1) := by decide +kernel
theorem d297_160 : decode (m_code 297) 160 = .ok (.aload 4, 2) := by decide +kernel
theorem d297_162 : decode (m_code 297) 162 = .ok (.bipush 8, 2) := by decide +kernel
theorem d297_164 : decode (m_code 297) 164 = .ok (.iload_n 0, 1) := by decide +kernel
theorem d297_165 : decode (m_code 297) 165 = .ok (.imul, 1) := by decide +kernel
theorem d297_166 : decode (m_code 297) 166 = .ok (.iaload, 1) := by decide +kernel
theorem d297_167 : decode (m_code 297) 167 = .ok (.bipush 100, 2) := by decide +kernel
theorem d297_169 : decode (m_code 297) 169 = .ok (.irem, 1) := by decide +kernel
theorem d297_170 : decode (m_code 297) 170 = .ok (.iastore, 1) := by decide +kernel
theorem d297_171 : decode (m_code 297) 171 = .ok (.iconst 1, 1) := by decide +kernel
theorem d297_172 : decode (m_code 297) 172 = .ok (.istore 7, 2) := by decide +kernel
theorem d297_174 : decode (m_code 297) 174 = .ok (.iload 7, 2) := by decide +kernel
theorem d297_176 : decode (m_code 297) 176 = .ok (.aload_n 3, 1) := by decide +kernel
theorem d297_177 : decode (m_code 297) 177 = .ok (.iload 5, 2) := by decide +kernel
theorem d297_179 : decode (m_code 297) 179 = .ok (.iconst 5, 1) := by decide +kernel
theorem d297_180 : decode (m_code 297) 180 = .ok (.iadd, 1) := by decide +kernel
theorem d297_181 : decode (m_code 297) 181 = .ok (.iaload, 1) := by decide +kernel
theorem d297_182 : decode (m_code 297) 182 = .ok (.if_icmp .ge 31, 3) := by decide +kernel
theorem d297_185 : decode (m_code 297) 185 = .ok (.aload 4, 2) := by decide +kernel
theorem d297_187 : decode (m_code 297) 187 = .ok (.bipush 8, 2) := by decide +kernel
theorem d297_189 : decode (m_code 297) 189 = .ok (.iload_n 0, 1) := by decide +kernel
theorem d297_190 : decode (m_code 297) 190 = .ok (.imul, 1) := by decide +kernel
theorem d297_191 : decode (m_code 297) 191 = .ok (.iload 7, 2) := by decide +kernel
theorem d297_193 : decode (m_code 297) 193 = .ok (.iadd, 1) := by decide +kernel
theorem d297_194 : decode (m_code 297) 194 = .ok (.iconst 1, 1) := by decide +kernel
theorem d297_195 : decode (m_code 297) 195 = .ok (.isub, 1) := by decide +kernel
theorem d297_196 : decode (m_code 297) 196 = .ok (.aload 4, 2) := by decide +kernel
theorem d297_198 : decode (m_code 297) 198 = .ok (.bipush 8, 2) := by decide +kernel
theorem d297_200 : decode (m_code 297) 200 = .ok (.iload_n 0, 1) := by decide +kernel
theorem d297_201 : decode (m_code 297) 201 = .ok (.imul, 1) := by decide +kernel
theorem d297_202 : decode (m_code 297) 202 = .ok (.iload 7, 2) := by decide +kernel
theorem d297_204 : decode (m_code 297) 204 = .ok (.iadd, 1) := by decide +kernel
theorem d297_205 : decode (m_code 297) 205 = .ok (.iaload, 1) := by decide +kernel
theorem d297_206 : decode (m_code 297) 206 = .ok (.iastore, 1) := by decide +kernel
theorem d297_207 : decode (m_code 297) 207 = .ok (.iinc 7 1, 3) := by decide +kernel
theorem d297_210 : decode (m_code 297) 210 = .ok (.goto (-36), 3) := by decide +kernel
theorem d297_213 : decode (m_code 297) 213 = .ok (.aload_n 3, 1) := by decide +kernel
theorem d297_214 : decode (m_code 297) 214 = .ok (.iload 5, 2) := by decide +kernel
theorem d297_216 : decode (m_code 297) 216 = .ok (.iconst 5, 1) := by decide +kernel
theorem d297_217 : decode (m_code 297) 217 = .ok (.iadd, 1) := by decide +kernel
theorem d297_218 : decode (m_code 297) 218 = .ok (.dup2, 1) := by decide +kernel
theorem d297_219 : decode (m_code 297) 219 = .ok (.iaload, 1) := by decide +kernel
theorem d297_220 : decode (m_code 297) 220 = .ok (.iconst 1, 1) := by decide +kernel
theorem d297_221 : decode (m_code 297) 221 = .ok (.isub, 1) := by decide +kernel
theorem d297_222 : decode (m_code 297) 222 = .ok (.iastore, 1) := by decide +kernel
theorem d297_223 : decode (m_code 297) 223 = .ok (.aload_n 1, 1) := by decide +kernel
theorem d297_224 : decode (m_code 297) 224 = .ok (.iconst 2, 1) := by decide +kernel
theorem d297_225 : decode (m_code 297) 225 = .ok (.dup2, 1) := by decide +kernel
theorem d297_226 : decode (m_code 297) 226 = .ok (.iaload, 1) := by decide +kernel
theorem d297_227 : decode (m_code 297) 227 = .ok (.iconst 1, 1) := by decide +kernel
theorem d297_228 : decode (m_code 297) 228 = .ok (.iadd, 1) := by decide +kernel
theorem d297_229 : decode (m_code 297) 229 = .ok (.iastore, 1) := by decide +kernel
theorem d297_230 : decode (m_code 297) 230 = .ok (.return_, 1) := by decide +kernel
theorem stM_ne {S : Nat → Nat → Int32} {o o2 i : Nat} {f : Nat → Int32} (h : o2 ≠ o) : stM S o f o2 i = S o2 i := by
  unfold stM
  rw [if_neg h]
theorem stM_eq {S : Nat → Nat → Int32} {o i : Nat} {f : Nat → Int32} : stM S o f o i = f i := by
  unfold stM
  rw [if_pos rfl]
/-- m orders from b on, the first k - 1 places already moved down -/
def SHk (f : Nat → Int32) (b k : Nat) : Nat → Int32 := fun i => if b ≤ i ∧ i + 1 < b + k then f (i + 1) else f i
theorem SHk_1 (f : Nat → Int32) (b : Nat) : SHk f b 1 = f := by
  funext i
  unfold SHk
  rw [if_neg (by omega)]
theorem SHk_s (f : Nat → Int32) {b k : Nat} (hk : 1 ≤ k) : upd (SHk f b k) (b + k - 1) (f (b + k)) = SHk f b (k + 1) := by
  funext i
  unfold upd SHk
  by_cases h : i = b + k - 1
  · rw [if_pos h, if_pos (by omega)]
    exact congrArg f (by omega)
  · rw [if_neg h]
    by_cases h2 : b ≤ i ∧ i + 1 < b + k
    · rw [if_pos h2, if_pos (by omega)]
    · rw [if_neg h2, if_neg (by omega)]
theorem SHk_at (f : Nat → Int32) (b k : Nat) : SHk f b k (b + k) = f (b + k) := by
  unfold SHk
  rw [if_neg (by omega)]
theorem stM_self (S : Nat → Nat → Int32) (o : Nat) : stM S o (S o) = S := by
  funext p i
  unfold stM
  split
  next h => rw [h]
  next => rfl
theorem stM_put (S : Nat → Nat → Int32) (o i : Nat) (f : Nat → Int32) (v : Int32) : updM (stM S o f) o i v = stM S o (upd f i v) := by
  funext p k
  unfold updM stM
  by_cases h : p = o
  · subst h
    simp only [if_true]
  · simp only [if_neg h]
/-- the door between two rooms of the ring -/
def D5 (a c : Nat) : Int32 := if (a + 1) % 4 = c then nI a else if (c + 1) % 4 = a then nI c else -1
theorem D5_y {a c d : Nat} (ha : a < 4) (hc : c < 4) (h : d < 4 ∧ ((d = a ∧ (d + 1) % 4 = c) ∨ (d = c ∧ (d + 1) % 4 = a))) : D5 a c = nI d := by
  unfold D5
  obtain ⟨h0, ⟨h1, h2⟩ | ⟨h1, h2⟩⟩ := h
  · rw [if_pos (by omega), h1]
  · rw [if_neg (by omega), if_pos (by omega), h1]
theorem D5_n {a c : Nat} (ha : a < 4) (hc : c < 4) (h : ∀ k, k < 4 → ¬ ((k = a ∧ (k + 1) % 4 = c) ∨ (k = c ∧ (k + 1) % 4 = a))) : D5 a c = -1 := by
  unfold D5
  have h1 := h a ha
  have h2 := h c hc
  rw [if_neg (by omega), if_neg (by omega)]
theorem k_door_l {X : mX} {h : mH} {S : Nat → Nat → Int32} (hL : La h S) {a c : Nat} (ha : a < 4) (hc : c < 4) (hd : ∀ d, d < 4 → S 2 (4 * d) = nI d ∧ S 2 (4 * d + 1) = nI ((d + 1) % 4)) : ∀ (n d : Nat), 4 - d = n → d ≤ 4 → (∀ k, k < d → ¬ ((k = a ∧ (k + 1) % 4 = c) ∨ (k = c ∧ (k + 1) % 4 = a))) → m_wp X 294 2 [some (.int (nI a)), some (.int (nI c)), some (.ref 315), some (.int (nI d))] [] h (fun w h1 => w = some (.int (D5 a c)) ∧ h1 = h) := by
  intro n
  induction n using Nat.strongRecOn with
  | ind n ih =>
    intro d hn hd4 hno
    subst hn
    refine wp_iload_n d294_2 rfl ?_
    refine wp_iconst d294_3 (v := nI 4) (by decide) ?_
    refine wp_icmp_ge d294_4 (tgt := 55) (by decide) (fun hc4 => ?_) (fun hc4 => ?_)
    · have hc4 : 4 ≤ d := (nI_leI (by omega) (by omega)).mp hc4
      refine wp_iconst d294_55 (v := (-1 : Int32)) (by decide) ?_
      refine wp_iret d294_56 (by decide +kernel) ?_
      exact ⟨congrArg (fun z => some (Value.int z)) (D5_n ha hc (fun k hk => hno k (by omega))).symm, rfl⟩
    · have hc4 : ¬ (4 ≤ d) := fun z => hc4 ((nI_leI (by omega) (by omega)).mpr z)
      refine wp_aload_n d294_7 rfl ?_
      refine wp_iconst d294_8 (v := nI 4) (by decide) ?_
      refine wp_iload_n d294_9 rfl ?_
      refine wp_imulv d294_10 (v := nI (4 * d)) (nI_mul _ _) ?_
      refine wp_iald d294_11 (la_2 hL) (nI_in (by omega) (by decide)) (v := nI d) ((congrArg (S 2) (nI_nat (by omega))).trans (hd d (by omega)).1) ?_
      refine wp_iload_n d294_12 rfl ?_
      refine wp_icmp_ne d294_13 (tgt := 27) (by decide) (fun hc13 => ?_) (fun hc13 => ?_)
      · have hc13 : ¬ (d = a) := fun z => hc13 ((nI_eq (by omega) (by omega)).mpr z)
        refine wp_aload_n d294_27 rfl ?_
        refine wp_iconst d294_28 (v := nI 4) (by decide) ?_
        refine wp_iload_n d294_29 rfl ?_
        refine wp_imulv d294_30 (v := nI (4 * d)) (nI_mul _ _) ?_
        refine wp_iald d294_31 (la_2 hL) (nI_in (by omega) (by decide)) (v := nI d) ((congrArg (S 2) (nI_nat (by omega))).trans (hd d (by omega)).1) ?_
        refine wp_iload_n d294_32 rfl ?_
        refine wp_icmp_ne d294_33 (tgt := 49) (by decide) (fun hc33 => ?_) (fun hc33 => ?_)
        · have hc33 : ¬ (d = c) := fun z => hc33 ((nI_eq (by omega) (by omega)).mpr z)
          refine wp_iinc d294_49 rfl (v := nI (d + 1)) (nI_add _ 1) (Nat.le_of_ble_eq_true rfl) rfl ?_
          refine wp_goto d294_52 (tgt := 2) (by decide) ?_
          exact ih (4 - (d + 1)) (by omega) (d + 1) rfl (by omega) (fun k hk => by rcases Nat.lt_succ_iff_lt_or_eq.mp hk with q | q; exact hno k q; subst q; omega)
        · have hc33 : d = c := (nI_eq (by omega) (by omega)).mp hc33
          refine wp_aload_n d294_36 rfl ?_
          refine wp_iconst d294_37 (v := nI 4) (by decide) ?_
          refine wp_iload_n d294_38 rfl ?_
          refine wp_imulv d294_39 (v := nI (4 * d)) (nI_mul _ _) ?_
          refine wp_iconst d294_40 (v := nI 1) (by decide) ?_
          refine wp_iaddv d294_41 (v := nI (4 * d + 1)) (nI_add _ _) ?_
          refine wp_iald d294_42 (la_2 hL) (nI_in (by omega) (by decide)) (v := nI ((d + 1) % 4)) ((congrArg (S 2) (nI_nat (by omega))).trans (hd d (by omega)).2) ?_
          refine wp_iload_n d294_43 rfl ?_
          refine wp_icmp_ne d294_44 (tgt := 49) (by decide) (fun hc44 => ?_) (fun hc44 => ?_)
          · have hc44 : ¬ ((d + 1) % 4 = a) := fun z => hc44 ((nI_eq (by omega) (by omega)).mpr z)
            refine wp_iinc d294_49 rfl (v := nI (d + 1)) (nI_add _ 1) (Nat.le_of_ble_eq_true rfl) rfl ?_
            refine wp_goto d294_52 (tgt := 2) (by decide) ?_
            exact ih (4 - (d + 1)) (by omega) (d + 1) rfl (by omega) (fun k hk => by rcases Nat.lt_succ_iff_lt_or_eq.mp hk with q | q; exact hno k q; subst q; omega)
          · have hc44 : (d + 1) % 4 = a := (nI_eq (by omega) (by omega)).mp hc44
            refine wp_iload_n d294_47 rfl ?_
            refine wp_iret d294_48 (by decide +kernel) ?_
            exact ⟨congrArg (fun z => some (Value.int z)) (D5_y ha hc (by omega)).symm, rfl⟩
      · have hc13 : d = a := (nI_eq (by omega) (by omega)).mp hc13
        refine wp_aload_n d294_16 rfl ?_
        refine wp_iconst d294_17 (v := nI 4) (by decide) ?_
        refine wp_iload_n d294_18 rfl ?_
        refine wp_imulv d294_19 (v := nI (4 * d)) (nI_mul _ _) ?_
        refine wp_iconst d294_20 (v := nI 1) (by decide) ?_
        refine wp_iaddv d294_21 (v := nI (4 * d + 1)) (nI_add _ _) ?_
        refine wp_iald d294_22 (la_2 hL) (nI_in (by omega) (by decide)) (v := nI ((d + 1) % 4)) ((congrArg (S 2) (nI_nat (by omega))).trans (hd d (by omega)).2) ?_
        refine wp_iload_n d294_23 rfl ?_
        refine wp_icmp_eq d294_24 (tgt := 47) (by decide) (fun hc24 => ?_) (fun hc24 => ?_)
        · have hc24 : (d + 1) % 4 = c := (nI_eq (by omega) (by omega)).mp hc24
          refine wp_iload_n d294_47 rfl ?_
          refine wp_iret d294_48 (by decide +kernel) ?_
          exact ⟨congrArg (fun z => some (Value.int z)) (D5_y ha hc (by omega)).symm, rfl⟩
        · have hc24 : ¬ ((d + 1) % 4 = c) := fun z => hc24 ((nI_eq (by omega) (by omega)).mpr z)
          refine wp_aload_n d294_27 rfl ?_
          refine wp_iconst d294_28 (v := nI 4) (by decide) ?_
          refine wp_iload_n d294_29 rfl ?_
          refine wp_imulv d294_30 (v := nI (4 * d)) (nI_mul _ _) ?_
          refine wp_iald d294_31 (la_2 hL) (nI_in (by omega) (by decide)) (v := nI d) ((congrArg (S 2) (nI_nat (by omega))).trans (hd d (by omega)).1) ?_
          refine wp_iload_n d294_32 rfl ?_
          refine wp_icmp_ne d294_33 (tgt := 49) (by decide) (fun hc33 => ?_) (fun hc33 => ?_)
          · have hc33 : ¬ (d = c) := fun z => hc33 ((nI_eq (by omega) (by omega)).mpr z)
            refine wp_iinc d294_49 rfl (v := nI (d + 1)) (nI_add _ 1) (Nat.le_of_ble_eq_true rfl) rfl ?_
            refine wp_goto d294_52 (tgt := 2) (by decide) ?_
            exact ih (4 - (d + 1)) (by omega) (d + 1) rfl (by omega) (fun k hk => by rcases Nat.lt_succ_iff_lt_or_eq.mp hk with q | q; exact hno k q; subst q; omega)
          · have hc33 : d = c := (nI_eq (by omega) (by omega)).mp hc33
            refine wp_aload_n d294_36 rfl ?_
            refine wp_iconst d294_37 (v := nI 4) (by decide) ?_
            refine wp_iload_n d294_38 rfl ?_
            refine wp_imulv d294_39 (v := nI (4 * d)) (nI_mul _ _) ?_
            refine wp_iconst d294_40 (v := nI 1) (by decide) ?_
            refine wp_iaddv d294_41 (v := nI (4 * d + 1)) (nI_add _ _) ?_
            refine wp_iald d294_42 (la_2 hL) (nI_in (by omega) (by decide)) (v := nI ((d + 1) % 4)) ((congrArg (S 2) (nI_nat (by omega))).trans (hd d (by omega)).2) ?_
            refine wp_iload_n d294_43 rfl ?_
            refine wp_icmp_ne d294_44 (tgt := 49) (by decide) (fun hc44 => ?_) (fun hc44 => ?_)
            · have hc44 : ¬ ((d + 1) % 4 = a) := fun z => hc44 ((nI_eq (by omega) (by omega)).mpr z)
              refine wp_iinc d294_49 rfl (v := nI (d + 1)) (nI_add _ 1) (Nat.le_of_ble_eq_true rfl) rfl ?_
              refine wp_goto d294_52 (tgt := 2) (by decide) ?_
              exact ih (4 - (d + 1)) (by omega) (d + 1) rfl (by omega) (fun k hk => by rcases Nat.lt_succ_iff_lt_or_eq.mp hk with q | q; exact hno k q; subst q; omega)
            · have hc44 : (d + 1) % 4 = a := (nI_eq (by omega) (by omega)).mp hc44
              refine wp_iload_n d294_47 rfl ?_
              refine wp_iret d294_48 (by decide +kernel) ?_
              exact ⟨congrArg (fun z => some (Value.int z)) (D5_y ha hc (by omega)).symm, rfl⟩
theorem k_door {X : mX} {h : mH} {S : Nat → Nat → Int32} (hL : La h S) {a c : Nat} (ha : a < 4) (hc : c < 4) (hd : ∀ d, d < 4 → S 2 (4 * d) = nI d ∧ S 2 (4 * d + 1) = nI ((d + 1) % 4)) : Tells X 294 [.int (nI a), .int (nI c), .ref 315] h (D5 a c) := by
  refine wp_iconst d294_0 (v := nI 0) (by decide) ?_
  refine wp_istore_n d294_1 (Nat.le_of_ble_eq_true rfl) rfl ?_
  exact k_door_l hL ha hc hd 4 0 rfl (by omega) (fun k hk => by omega)
theorem k_shl {X : mX} {S : Nat → Nat → Int32} {h0 : mH} {g m : Nat} {dv : Int32} {Q : Option Value → mH → Prop} (hg : g < 2) (hm : S 3 (10 * g + 5) = nI m) (hm8 : m ≤ 8) : ∀ (d k : Nat) (h : mH), m - k = d → 1 ≤ k → k ≤ m → La h (stM S 4 (SHk (S 4) (8 * g) k)) → Frm h0 h 313 8 →
    (∀ h1, La h1 (stM S 4 (SHk (S 4) (8 * g) m)) → Frm h0 h1 313 8 → m_wp X 297 213 [some (.int (nI g)), some (.ref 313), some (.ref 315), some (.ref 316), some (.ref 317), some (.int (nI (10 * g))), some (.int (dv)), some (.int (nI m))] [] h1 Q) → m_wp X 297 174 [some (.int (nI g)), some (.ref 313), some (.ref 315), some (.ref 316), some (.ref 317), some (.int (nI (10 * g))), some (.int (dv)), some (.int (nI k))] [] h Q := by
  intro d
  induction d using Nat.strongRecOn with
  | ind d ih =>
    intro k h hd hk1 hkm hL hF K
    subst hd
    by_cases hkm : k < m
    · refine wp_iload d297_174 rfl ?_
      refine wp_aload_n d297_176 rfl ?_
      refine wp_iload d297_177 rfl ?_
      refine wp_iconst d297_179 (v := nI 5) (by decide) ?_
      refine wp_iaddv d297_180 (v := nI (10 * g + 5)) (nI_add _ _) ?_
      refine wp_iald d297_181 (la_3 hL) (nI_in (by omega) (by decide)) (v := nI m) ((congrArg ((stM S 4 (SHk (S 4) (8 * g) k)) 3) (nI_nat (by omega))).trans ((stM_ne (by omega)).trans hm)) ?_
      refine wp_icmp_ge d297_182 (tgt := 213) (by decide) (fun hq9 => absurd hq9 (fun z => absurd hkm (Nat.not_lt.mpr ((nI_leI (by omega) (by omega)).mp z)))) (fun _ => ?_)
      refine wp_aload d297_185 rfl ?_
      refine wp_bipush d297_187 (v := nI 8) (by decide) ?_
      refine wp_iload_n d297_189 rfl ?_
      refine wp_imulv d297_190 (v := nI (8 * g)) (nI_mul _ _) ?_
      refine wp_iload d297_191 rfl ?_
      refine wp_iaddv d297_193 (v := nI (8 * g + k)) (nI_add _ _) ?_
      refine wp_iconst d297_194 (v := nI 1) (by decide) ?_
      refine wp_isubv d297_195 (v := nI (8 * g + k - 1)) (nI_sub (by omega) (by omega)) ?_
      refine wp_aload d297_196 rfl ?_
      refine wp_bipush d297_198 (v := nI 8) (by decide) ?_
      refine wp_iload_n d297_200 rfl ?_
      refine wp_imulv d297_201 (v := nI (8 * g)) (nI_mul _ _) ?_
      refine wp_iload d297_202 rfl ?_
      refine wp_iaddv d297_204 (v := nI (8 * g + k)) (nI_add _ _) ?_
      refine wp_iald d297_205 (la_4 hL) (nI_in (by omega) (by decide)) (v := S 4 (8 * g + k)) ((congrArg ((stM S 4 (SHk (S 4) (8 * g) k)) 4) (nI_nat (by omega))).trans (stM_eq.trans (SHk_at _ _ _))) ?_
      refine wp_iast d297_206 (la_4 hL) (nI_in (by omega) (by decide)) ?_
      refine l_step (o := 4) (i := 8 * g + k - 1) (v := S 4 (8 * g + k)) hL hF (by decide) (by rw [nI_nat (by omega)]; rfl) (fun h hL hF => ?_)
      rw [stM_put, SHk_s _ hk1] at hL
      refine wp_iinc d297_207 rfl (v := nI (k + 1)) (nI_add _ 1) (Nat.le_of_ble_eq_true rfl) rfl ?_
      refine wp_goto d297_210 (tgt := 174) (by decide) ?_
      exact ih (m - (k + 1)) (by omega) (k + 1) h rfl (by omega) (by omega) hL hF K
    · have e : k = m := by omega
      subst e
      refine wp_iload d297_174 rfl ?_
      refine wp_aload_n d297_176 rfl ?_
      refine wp_iload d297_177 rfl ?_
      refine wp_iconst d297_179 (v := nI 5) (by decide) ?_
      refine wp_iaddv d297_180 (v := nI (10 * g + 5)) (nI_add _ _) ?_
      refine wp_iald d297_181 (la_3 hL) (nI_in (by omega) (by decide)) (v := nI k) ((congrArg ((stM S 4 (SHk (S 4) (8 * g) k)) 3) (nI_nat (by omega))).trans ((stM_ne (by omega)).trans hm)) ?_
      refine wp_icmp_ge d297_182 (tgt := 213) (by decide) (fun _ => ?_) (fun hq9 => absurd (Int32.le_refl _) hq9)
      exact K h hL hF
theorem k_sets_w {X : mX} {h : mH} {S : Nat → Nat → Int32} (hL : La h S) {g : Nat} (hg : g < 2) (hw : S 3 (10 * g) = -1) : DoesL X 297 [.int (nI g), .ref 313, .ref 315, .ref 316, .ref 317] h S none := by
  have hF : Frm h h 313 8 := Frm.rf
  refine wp_bipush d297_0 (v := nI 10) (by decide) ?_
  refine wp_iload_n d297_2 rfl ?_
  refine wp_imulv d297_3 (v := nI (10 * g)) (nI_mul _ _) ?_
  refine wp_istore d297_4 (Nat.le_of_ble_eq_true rfl) rfl ?_
  refine wp_aload_n d297_6 rfl ?_
  refine wp_iload d297_7 rfl ?_
  refine wp_iald d297_9 (la_3 hL) (nI_in (by omega) (by decide)) (v := (-1 : Int32)) ((congrArg (S 3) (nI_nat (by omega))).trans hw) ?_
  refine wp_if_ge d297_10 (tgt := 14) (by decide) (fun hq9 => absurd hq9 (by decide)) (fun _ => ?_)
  refine wp_vret d297_13 (by decide +kernel) ?_
  exact ⟨rfl, hL, hF⟩
theorem k_sets_s {X : mX} {h : mH} {S : Nat → Nat → Int32} (hL : La h S) {g : Nat} (hg : g < 2) {r s : Nat} (hr0 : S 3 (10 * g) = nI r) (hr : r < 4) (hs0 : S 3 (10 * g + 3) = nI s) (hs : s < 100) (hsp : 0 < s) : DoesL X 297 [.int (nI g), .ref 313, .ref 315, .ref 316, .ref 317] h ((updM S 3 (10 * g + 3) (nI (s - 1)))) none := by
  have hF : Frm h h 313 8 := Frm.rf
  refine wp_bipush d297_0 (v := nI 10) (by decide) ?_
  refine wp_iload_n d297_2 rfl ?_
  refine wp_imulv d297_3 (v := nI (10 * g)) (nI_mul _ _) ?_
  refine wp_istore d297_4 (Nat.le_of_ble_eq_true rfl) rfl ?_
  refine wp_aload_n d297_6 rfl ?_
  refine wp_iload d297_7 rfl ?_
  refine wp_iald d297_9 (la_3 hL) (nI_in (by omega) (by decide)) (v := nI r) ((congrArg (S 3) (nI_nat (by omega))).trans hr0) ?_
  refine wp_if_ge d297_10 (tgt := 14) (by decide) (fun _ => ?_) (fun hq9 => absurd (nI_pos' (by omega)) hq9)
  refine wp_aload_n d297_14 rfl ?_
  refine wp_iload d297_15 rfl ?_
  refine wp_iconst d297_17 (v := nI 3) (by decide) ?_
  refine wp_iaddv d297_18 (v := nI (10 * g + 3)) (nI_add _ _) ?_
  refine wp_iald d297_19 (la_3 hL) (nI_in (by omega) (by decide)) (v := nI s) ((congrArg (S 3) (nI_nat (by omega))).trans hs0) ?_
  refine wp_if_le d297_20 (tgt := 34) (by decide) (fun hq9 => absurd hq9 (fun z => absurd ((nI_leI (b := 0) (by omega) (by omega)).mp z) (by omega))) (fun _ => ?_)
  refine wp_aload_n d297_23 rfl ?_
  refine wp_iload d297_24 rfl ?_
  refine wp_iconst d297_26 (v := nI 3) (by decide) ?_
  refine wp_iaddv d297_27 (v := nI (10 * g + 3)) (nI_add _ _) ?_
  refine wp_dup2 d297_28 rfl rfl ?_
  refine wp_iald d297_29 (la_3 hL) (nI_in (by omega) (by decide)) (v := nI s) ((congrArg (S 3) (nI_nat (by omega))).trans hs0) ?_
  refine wp_iconst d297_30 (v := nI 1) (by decide) ?_
  refine wp_isubv d297_31 (v := nI (s - 1)) (nI_sub (by omega) (by omega)) ?_
  refine wp_iast d297_32 (la_3 hL) (nI_in (by omega) (by decide)) ?_
  refine l_step (o := 3) (i := 10 * g + 3) (v := nI (s - 1)) hL hF (by decide) (by rw [nI_nat (by omega)]; rfl) (fun h hL hF => ?_)
  refine wp_vret d297_33 (by decide +kernel) ?_
  exact ⟨rfl, hL, hF⟩
theorem k_sets_n {X : mX} {h : mH} {S : Nat → Nat → Int32} (hL : La h S) {g : Nat} (hg : g < 2) {r s m : Nat} (hr0 : S 3 (10 * g) = nI r) (hr : r < 4) (hs0 : S 3 (10 * g + 3) = nI s) (hsz : s = 0) (hm : S 3 (10 * g + 5) = nI m) (hmz : m = 0) : DoesL X 297 [.int (nI g), .ref 313, .ref 315, .ref 316, .ref 317] h S none := by
  have hF : Frm h h 313 8 := Frm.rf
  refine wp_bipush d297_0 (v := nI 10) (by decide) ?_
  refine wp_iload_n d297_2 rfl ?_
  refine wp_imulv d297_3 (v := nI (10 * g)) (nI_mul _ _) ?_
  refine wp_istore d297_4 (Nat.le_of_ble_eq_true rfl) rfl ?_
  refine wp_aload_n d297_6 rfl ?_
  refine wp_iload d297_7 rfl ?_
  refine wp_iald d297_9 (la_3 hL) (nI_in (by omega) (by decide)) (v := nI r) ((congrArg (S 3) (nI_nat (by omega))).trans hr0) ?_
  refine wp_if_ge d297_10 (tgt := 14) (by decide) (fun _ => ?_) (fun hq9 => absurd (nI_pos' (by omega)) hq9)
  refine wp_aload_n d297_14 rfl ?_
  refine wp_iload d297_15 rfl ?_
  refine wp_iconst d297_17 (v := nI 3) (by decide) ?_
  refine wp_iaddv d297_18 (v := nI (10 * g + 3)) (nI_add _ _) ?_
  refine wp_iald d297_19 (la_3 hL) (nI_in (by omega) (by decide)) (v := nI s) ((congrArg (S 3) (nI_nat (by omega))).trans hs0) ?_
  refine wp_if_le d297_20 (tgt := 34) (by decide) (fun _ => ?_) (fun hq9 => absurd (by rw [hsz]; decide) hq9)
  refine wp_aload_n d297_34 rfl ?_
  refine wp_iload d297_35 rfl ?_
  refine wp_iconst d297_37 (v := nI 5) (by decide) ?_
  refine wp_iaddv d297_38 (v := nI (10 * g + 5)) (nI_add _ _) ?_
  refine wp_iald d297_39 (la_3 hL) (nI_in (by omega) (by decide)) (v := nI m) ((congrArg (S 3) (nI_nat (by omega))).trans hm) ?_
  refine wp_if_ne d297_40 (tgt := 44) (by decide) (fun hq9 => absurd (by rw [hmz]; rfl) hq9) (fun _ => ?_)
  refine wp_vret d297_43 (by decide +kernel) ?_
  exact ⟨rfl, hL, hF⟩
theorem k_sets_h1 {X : mX} {h : mH} {S : Nat → Nat → Int32} (hL : La h S) {g : Nat} (hg : g < 2) {r s m t s2 : Nat} (hr0 : S 3 (10 * g) = nI r) (hr : r < 4) (hs0 : S 3 (10 * g + 3) = nI s) (hsz : s = 0) (hm : S 3 (10 * g + 5) = nI m) (hm0 : 0 < m) (hm8 : m ≤ 8) (ho : S 4 (8 * g) = nI (100 * t + s2)) (ht : t < 4) (hs2 : s2 < 100) (hd : ∀ d, d < 4 → S 2 (4 * d) = nI d ∧ S 2 (4 * d + 1) = nI ((d + 1) % 4)) (hdb : D5 r t = -1) : DoesL X 297 [.int (nI g), .ref 313, .ref 315, .ref 316, .ref 317] h ((updM (updM S 3 (10 * g + 5) (nI 0)) 3 (10 * g + 7) (((S 3 (10 * g + 7)) + (nI 1))))) none := by
  have hF : Frm h h 313 8 := Frm.rf
  refine wp_bipush d297_0 (v := nI 10) (by decide) ?_
  refine wp_iload_n d297_2 rfl ?_
  refine wp_imulv d297_3 (v := nI (10 * g)) (nI_mul _ _) ?_
  refine wp_istore d297_4 (Nat.le_of_ble_eq_true rfl) rfl ?_
  refine wp_aload_n d297_6 rfl ?_
  refine wp_iload d297_7 rfl ?_
  refine wp_iald d297_9 (la_3 hL) (nI_in (by omega) (by decide)) (v := nI r) ((congrArg (S 3) (nI_nat (by omega))).trans hr0) ?_
  refine wp_if_ge d297_10 (tgt := 14) (by decide) (fun _ => ?_) (fun hq9 => absurd (nI_pos' (by omega)) hq9)
  refine wp_aload_n d297_14 rfl ?_
  refine wp_iload d297_15 rfl ?_
  refine wp_iconst d297_17 (v := nI 3) (by decide) ?_
  refine wp_iaddv d297_18 (v := nI (10 * g + 3)) (nI_add _ _) ?_
  refine wp_iald d297_19 (la_3 hL) (nI_in (by omega) (by decide)) (v := nI s) ((congrArg (S 3) (nI_nat (by omega))).trans hs0) ?_
  refine wp_if_le d297_20 (tgt := 34) (by decide) (fun _ => ?_) (fun hq9 => absurd (by rw [hsz]; decide) hq9)
  refine wp_aload_n d297_34 rfl ?_
  refine wp_iload d297_35 rfl ?_
  refine wp_iconst d297_37 (v := nI 5) (by decide) ?_
  refine wp_iaddv d297_38 (v := nI (10 * g + 5)) (nI_add _ _) ?_
  refine wp_iald d297_39 (la_3 hL) (nI_in (by omega) (by decide)) (v := nI m) ((congrArg (S 3) (nI_nat (by omega))).trans hm) ?_
  refine wp_if_ne d297_40 (tgt := 44) (by decide) (fun _ => ?_) (fun hq9 => absurd hq9 (nI_nz0 hm0 (by omega)))
  refine wp_aload_n d297_44 rfl ?_
  refine wp_iload d297_45 rfl ?_
  refine wp_iald d297_47 (la_3 hL) (nI_in (by omega) (by decide)) (v := nI r) ((congrArg (S 3) (nI_nat (by omega))).trans hr0) ?_
  refine wp_aload d297_48 rfl ?_
  refine wp_bipush d297_50 (v := nI 8) (by decide) ?_
  refine wp_iload_n d297_52 rfl ?_
  refine wp_imulv d297_53 (v := nI (8 * g)) (nI_mul _ _) ?_
  refine wp_iald d297_54 (la_4 hL) (nI_in (by omega) (by decide)) (v := nI ((100 * t + s2))) ((congrArg (S 4) (nI_nat (by omega))).trans ho) ?_
  refine wp_bipush d297_55 (v := nI 100) (by decide) ?_
  refine wp_idivv d297_57 (v := nI t) (by decide) ((nI_div (by omega) (by omega)).trans (congrArg nI (by omega))) ?_
  refine wp_aload_n d297_58 rfl ?_
  refine wp_invsT (e := 10) (j2 := 294) (n := 3) d297_59 (by decide +kernel) (by decide +kernel) rfl rfl rfl (Nat.le_of_ble_eq_true rfl) (Nat.le_of_ble_eq_true rfl) rfl rfl (Nat.le_of_ble_eq_true rfl) (by decide +kernel) (tells_to hdb (k_door hL hr ht hd)) ?_
  refine wp_istore d297_62 (Nat.le_of_ble_eq_true rfl) rfl ?_
  refine wp_iload d297_64 rfl ?_
  refine wp_if_lt d297_66 (tgt := 101) (by decide) (fun _ => ?_) (fun hq9 => absurd (by decide) hq9)
  refine wp_aload_n d297_101 rfl ?_
  refine wp_iload d297_102 rfl ?_
  refine wp_iconst d297_104 (v := nI 5) (by decide) ?_
  refine wp_iaddv d297_105 (v := nI (10 * g + 5)) (nI_add _ _) ?_
  refine wp_iconst d297_106 (v := nI 0) (by decide) ?_
  refine wp_iast d297_107 (la_3 hL) (nI_in (by omega) (by decide)) ?_
  refine l_step (o := 3) (i := 10 * g + 5) (v := nI 0) hL hF (by decide) (by rw [nI_nat (by omega)]; rfl) (fun h hL hF => ?_)
  refine wp_aload_n d297_108 rfl ?_
  refine wp_iload d297_109 rfl ?_
  refine wp_bipush d297_111 (v := nI 7) (by decide) ?_
  refine wp_iaddv d297_113 (v := nI (10 * g + 7)) (nI_add _ _) ?_
  refine wp_dup2 d297_114 rfl rfl ?_
  refine wp_iald d297_115 (la_3 hL) (nI_in (by omega) (by decide)) (v := S 3 (10 * g + 7)) ((congrArg ((updM S 3 (10 * g + 5) (nI 0)) 3) (nI_nat (by omega))).trans ((updM_diff (by omega)).trans rfl)) ?_
  refine wp_iconst d297_116 (v := nI 1) (by decide) ?_
  refine wp_iadd d297_117 ?_
  refine wp_iast d297_118 (la_3 hL) (nI_in (by omega) (by decide)) ?_
  refine l_step (o := 3) (i := 10 * g + 7) (v := ((S 3 (10 * g + 7)) + (nI 1))) hL hF (by decide) (by rw [nI_nat (by omega)]; rfl) (fun h hL hF => ?_)
  refine wp_vret d297_119 (by decide +kernel) ?_
  exact ⟨rfl, hL, hF⟩
theorem k_sets_h2 {X : mX} {h : mH} {S : Nat → Nat → Int32} (hL : La h S) {g : Nat} (hg : g < 2) {r s m t s2 : Nat} (hr0 : S 3 (10 * g) = nI r) (hr : r < 4) (hs0 : S 3 (10 * g + 3) = nI s) (hsz : s = 0) (hm : S 3 (10 * g + 5) = nI m) (hm0 : 0 < m) (hm8 : m ≤ 8) (ho : S 4 (8 * g) = nI (100 * t + s2)) (ht : t < 4) (hs2 : s2 < 100) (hd : ∀ d, d < 4 → S 2 (4 * d) = nI d ∧ S 2 (4 * d + 1) = nI ((d + 1) % 4)) {d : Nat} (hdb : D5 r t = nI d) (hd4 : d < 4) {kk : Nat} (hkk : S 2 (4 * d + 3) = nI kk) (hk2 : kk < 32) (hbit : (((S 3 (10 * g + 6)) >>> (nI kk &&& 31)) &&& nI 1) = 0) : DoesL X 297 [.int (nI g), .ref 313, .ref 315, .ref 316, .ref 317] h ((updM (updM S 3 (10 * g + 5) (nI 0)) 3 (10 * g + 7) (((S 3 (10 * g + 7)) + (nI 1))))) none := by
  have hF : Frm h h 313 8 := Frm.rf
  refine wp_bipush d297_0 (v := nI 10) (by decide) ?_
  refine wp_iload_n d297_2 rfl ?_
  refine wp_imulv d297_3 (v := nI (10 * g)) (nI_mul _ _) ?_
  refine wp_istore d297_4 (Nat.le_of_ble_eq_true rfl) rfl ?_
  refine wp_aload_n d297_6 rfl ?_
  refine wp_iload d297_7 rfl ?_
  refine wp_iald d297_9 (la_3 hL) (nI_in (by omega) (by decide)) (v := nI r) ((congrArg (S 3) (nI_nat (by omega))).trans hr0) ?_
  refine wp_if_ge d297_10 (tgt := 14) (by decide) (fun _ => ?_) (fun hq9 => absurd (nI_pos' (by omega)) hq9)
  refine wp_aload_n d297_14 rfl ?_
  refine wp_iload d297_15 rfl ?_
  refine wp_iconst d297_17 (v := nI 3) (by decide) ?_
  refine wp_iaddv d297_18 (v := nI (10 * g + 3)) (nI_add _ _) ?_
  refine wp_iald d297_19 (la_3 hL) (nI_in (by omega) (by decide)) (v := nI s) ((congrArg (S 3) (nI_nat (by omega))).trans hs0) ?_
  refine wp_if_le d297_20 (tgt := 34) (by decide) (fun _ => ?_) (fun hq9 => absurd (by rw [hsz]; decide) hq9)
  refine wp_aload_n d297_34 rfl ?_
  refine wp_iload d297_35 rfl ?_
  refine wp_iconst d297_37 (v := nI 5) (by decide) ?_
  refine wp_iaddv d297_38 (v := nI (10 * g + 5)) (nI_add _ _) ?_
  refine wp_iald d297_39 (la_3 hL) (nI_in (by omega) (by decide)) (v := nI m) ((congrArg (S 3) (nI_nat (by omega))).trans hm) ?_
  refine wp_if_ne d297_40 (tgt := 44) (by decide) (fun _ => ?_) (fun hq9 => absurd hq9 (nI_nz0 hm0 (by omega)))
  refine wp_aload_n d297_44 rfl ?_
  refine wp_iload d297_45 rfl ?_
  refine wp_iald d297_47 (la_3 hL) (nI_in (by omega) (by decide)) (v := nI r) ((congrArg (S 3) (nI_nat (by omega))).trans hr0) ?_
  refine wp_aload d297_48 rfl ?_
  refine wp_bipush d297_50 (v := nI 8) (by decide) ?_
  refine wp_iload_n d297_52 rfl ?_
  refine wp_imulv d297_53 (v := nI (8 * g)) (nI_mul _ _) ?_
  refine wp_iald d297_54 (la_4 hL) (nI_in (by omega) (by decide)) (v := nI ((100 * t + s2))) ((congrArg (S 4) (nI_nat (by omega))).trans ho) ?_
  refine wp_bipush d297_55 (v := nI 100) (by decide) ?_
  refine wp_idivv d297_57 (v := nI t) (by decide) ((nI_div (by omega) (by omega)).trans (congrArg nI (by omega))) ?_
  refine wp_aload_n d297_58 rfl ?_
  refine wp_invsT (e := 10) (j2 := 294) (n := 3) d297_59 (by decide +kernel) (by decide +kernel) rfl rfl rfl (Nat.le_of_ble_eq_true rfl) (Nat.le_of_ble_eq_true rfl) rfl rfl (Nat.le_of_ble_eq_true rfl) (by decide +kernel) (tells_to hdb (k_door hL hr ht hd)) ?_
  refine wp_istore d297_62 (Nat.le_of_ble_eq_true rfl) rfl ?_
  refine wp_iload d297_64 rfl ?_
  refine wp_if_lt d297_66 (tgt := 101) (by decide) (fun hq9 => absurd hq9 (Int32.not_lt.mpr (nI_pos' (by omega)))) (fun _ => ?_)
  refine wp_aload_n d297_69 rfl ?_
  refine wp_iconst d297_70 (v := nI 4) (by decide) ?_
  refine wp_iload d297_71 rfl ?_
  refine wp_imulv d297_73 (v := nI (4 * d)) (nI_mul _ _) ?_
  refine wp_iconst d297_74 (v := nI 3) (by decide) ?_
  refine wp_iaddv d297_75 (v := nI (4 * d + 3)) (nI_add _ _) ?_
  refine wp_iald d297_76 (la_2 hL) (nI_in (by omega) (by decide)) (v := nI kk) ((congrArg (S 2) (nI_nat (by omega))).trans hkk) ?_
  refine wp_if_lt d297_77 (tgt := 120) (by decide) (fun hq9 => absurd hq9 (Int32.not_lt.mpr (nI_pos' (by omega)))) (fun _ => ?_)
  refine wp_aload_n d297_80 rfl ?_
  refine wp_iload d297_81 rfl ?_
  refine wp_bipush d297_83 (v := nI 6) (by decide) ?_
  refine wp_iaddv d297_85 (v := nI (10 * g + 6)) (nI_add _ _) ?_
  refine wp_iald d297_86 (la_3 hL) (nI_in (by omega) (by decide)) (v := S 3 (10 * g + 6)) ((congrArg (S 3) (nI_nat (by omega))).trans rfl) ?_
  refine wp_aload_n d297_87 rfl ?_
  refine wp_iconst d297_88 (v := nI 4) (by decide) ?_
  refine wp_iload d297_89 rfl ?_
  refine wp_imulv d297_91 (v := nI (4 * d)) (nI_mul _ _) ?_
  refine wp_iconst d297_92 (v := nI 3) (by decide) ?_
  refine wp_iaddv d297_93 (v := nI (4 * d + 3)) (nI_add _ _) ?_
  refine wp_iald d297_94 (la_2 hL) (nI_in (by omega) (by decide)) (v := nI kk) ((congrArg (S 2) (nI_nat (by omega))).trans hkk) ?_
  refine wp_ishr d297_95 ?_
  refine wp_iconst d297_96 (v := nI 1) (by decide) ?_
  refine wp_iand d297_97 ?_
  refine wp_if_ne d297_98 (tgt := 120) (by decide) (fun hc98 => ?_) (fun hc98 => ?_)
  · exact absurd hbit hc98
  · refine wp_aload_n d297_101 rfl ?_
    refine wp_iload d297_102 rfl ?_
    refine wp_iconst d297_104 (v := nI 5) (by decide) ?_
    refine wp_iaddv d297_105 (v := nI (10 * g + 5)) (nI_add _ _) ?_
    refine wp_iconst d297_106 (v := nI 0) (by decide) ?_
    refine wp_iast d297_107 (la_3 hL) (nI_in (by omega) (by decide)) ?_
    refine l_step (o := 3) (i := 10 * g + 5) (v := nI 0) hL hF (by decide) (by rw [nI_nat (by omega)]; rfl) (fun h hL hF => ?_)
    refine wp_aload_n d297_108 rfl ?_
    refine wp_iload d297_109 rfl ?_
    refine wp_bipush d297_111 (v := nI 7) (by decide) ?_
    refine wp_iaddv d297_113 (v := nI (10 * g + 7)) (nI_add _ _) ?_
    refine wp_dup2 d297_114 rfl rfl ?_
    refine wp_iald d297_115 (la_3 hL) (nI_in (by omega) (by decide)) (v := S 3 (10 * g + 7)) ((congrArg ((updM S 3 (10 * g + 5) (nI 0)) 3) (nI_nat (by omega))).trans ((updM_diff (by omega)).trans rfl)) ?_
    refine wp_iconst d297_116 (v := nI 1) (by decide) ?_
    refine wp_iadd d297_117 ?_
    refine wp_iast d297_118 (la_3 hL) (nI_in (by omega) (by decide)) ?_
    refine l_step (o := 3) (i := 10 * g + 7) (v := ((S 3 (10 * g + 7)) + (nI 1))) hL hF (by decide) (by rw [nI_nat (by omega)]; rfl) (fun h hL hF => ?_)
    refine wp_vret d297_119 (by decide +kernel) ?_
    exact ⟨rfl, hL, hF⟩
theorem k_sets_g1 {X : mX} {h : mH} {S : Nat → Nat → Int32} (hL : La h S) {g : Nat} (hg : g < 2) {r s m t s2 : Nat} (hr0 : S 3 (10 * g) = nI r) (hr : r < 4) (hs0 : S 3 (10 * g + 3) = nI s) (hsz : s = 0) (hm : S 3 (10 * g + 5) = nI m) (hm0 : 0 < m) (hm8 : m ≤ 8) (ho : S 4 (8 * g) = nI (100 * t + s2)) (ht : t < 4) (hs2 : s2 < 100) (hd : ∀ d, d < 4 → S 2 (4 * d) = nI d ∧ S 2 (4 * d + 1) = nI ((d + 1) % 4)) {d : Nat} (hdb : D5 r t = nI d) (hd4 : d < 4) (hkk : S 2 (4 * d + 3) = -1) : DoesL X 297 [.int (nI g), .ref 313, .ref 315, .ref 316, .ref 317] h ((updM (updM (stM (updM (updM (updM (updM S 3 (10 * g) ((-1 : Int32))) 3 (10 * g + 1) (nI t)) 3 (10 * g + 2) (S 2 (4 * d + 2))) 3 (10 * g + 4) (nI s2)) 4 (SHk ((updM (updM (updM (updM S 3 (10 * g) ((-1 : Int32))) 3 (10 * g + 1) (nI t)) 3 (10 * g + 2) (S 2 (4 * d + 2))) 3 (10 * g + 4) (nI s2)) 4) (8 * g) m)) 3 (10 * g + 5) (nI (m - 1))) 0 (2) (((S 0 2) + (nI 1))))) none := by
  have hF : Frm h h 313 8 := Frm.rf
  refine wp_bipush d297_0 (v := nI 10) (by decide) ?_
  refine wp_iload_n d297_2 rfl ?_
  refine wp_imulv d297_3 (v := nI (10 * g)) (nI_mul _ _) ?_
  refine wp_istore d297_4 (Nat.le_of_ble_eq_true rfl) rfl ?_
  refine wp_aload_n d297_6 rfl ?_
  refine wp_iload d297_7 rfl ?_
  refine wp_iald d297_9 (la_3 hL) (nI_in (by omega) (by decide)) (v := nI r) ((congrArg (S 3) (nI_nat (by omega))).trans hr0) ?_
  refine wp_if_ge d297_10 (tgt := 14) (by decide) (fun _ => ?_) (fun hq9 => absurd (nI_pos' (by omega)) hq9)
  refine wp_aload_n d297_14 rfl ?_
  refine wp_iload d297_15 rfl ?_
  refine wp_iconst d297_17 (v := nI 3) (by decide) ?_
  refine wp_iaddv d297_18 (v := nI (10 * g + 3)) (nI_add _ _) ?_
  refine wp_iald d297_19 (la_3 hL) (nI_in (by omega) (by decide)) (v := nI s) ((congrArg (S 3) (nI_nat (by omega))).trans hs0) ?_
  refine wp_if_le d297_20 (tgt := 34) (by decide) (fun _ => ?_) (fun hq9 => absurd (by rw [hsz]; decide) hq9)
  refine wp_aload_n d297_34 rfl ?_
  refine wp_iload d297_35 rfl ?_
  refine wp_iconst d297_37 (v := nI 5) (by decide) ?_
  refine wp_iaddv d297_38 (v := nI (10 * g + 5)) (nI_add _ _) ?_
  refine wp_iald d297_39 (la_3 hL) (nI_in (by omega) (by decide)) (v := nI m) ((congrArg (S 3) (nI_nat (by omega))).trans hm) ?_
  refine wp_if_ne d297_40 (tgt := 44) (by decide) (fun _ => ?_) (fun hq9 => absurd hq9 (nI_nz0 hm0 (by omega)))
  refine wp_aload_n d297_44 rfl ?_
  refine wp_iload d297_45 rfl ?_
  refine wp_iald d297_47 (la_3 hL) (nI_in (by omega) (by decide)) (v := nI r) ((congrArg (S 3) (nI_nat (by omega))).trans hr0) ?_
  refine wp_aload d297_48 rfl ?_
  refine wp_bipush d297_50 (v := nI 8) (by decide) ?_
  refine wp_iload_n d297_52 rfl ?_
  refine wp_imulv d297_53 (v := nI (8 * g)) (nI_mul _ _) ?_
  refine wp_iald d297_54 (la_4 hL) (nI_in (by omega) (by decide)) (v := nI ((100 * t + s2))) ((congrArg (S 4) (nI_nat (by omega))).trans ho) ?_
  refine wp_bipush d297_55 (v := nI 100) (by decide) ?_
  refine wp_idivv d297_57 (v := nI t) (by decide) ((nI_div (by omega) (by omega)).trans (congrArg nI (by omega))) ?_
  refine wp_aload_n d297_58 rfl ?_
  refine wp_invsT (e := 10) (j2 := 294) (n := 3) d297_59 (by decide +kernel) (by decide +kernel) rfl rfl rfl (Nat.le_of_ble_eq_true rfl) (Nat.le_of_ble_eq_true rfl) rfl rfl (Nat.le_of_ble_eq_true rfl) (by decide +kernel) (tells_to hdb (k_door hL hr ht hd)) ?_
  refine wp_istore d297_62 (Nat.le_of_ble_eq_true rfl) rfl ?_
  refine wp_iload d297_64 rfl ?_
  refine wp_if_lt d297_66 (tgt := 101) (by decide) (fun hq9 => absurd hq9 (Int32.not_lt.mpr (nI_pos' (by omega)))) (fun _ => ?_)
  refine wp_aload_n d297_69 rfl ?_
  refine wp_iconst d297_70 (v := nI 4) (by decide) ?_
  refine wp_iload d297_71 rfl ?_
  refine wp_imulv d297_73 (v := nI (4 * d)) (nI_mul _ _) ?_
  refine wp_iconst d297_74 (v := nI 3) (by decide) ?_
  refine wp_iaddv d297_75 (v := nI (4 * d + 3)) (nI_add _ _) ?_
  refine wp_iald d297_76 (la_2 hL) (nI_in (by omega) (by decide)) (v := (-1 : Int32)) ((congrArg (S 2) (nI_nat (by omega))).trans hkk) ?_
  refine wp_if_lt d297_77 (tgt := 120) (by decide) (fun _ => ?_) (fun hq9 => absurd (by decide) hq9)
  refine wp_aload_n d297_120 rfl ?_
  refine wp_iload d297_121 rfl ?_
  refine wp_iconst d297_123 (v := (-1 : Int32)) (by decide) ?_
  refine wp_iast d297_124 (la_3 hL) (nI_in (by omega) (by decide)) ?_
  refine l_step (o := 3) (i := 10 * g) (v := (-1 : Int32)) hL hF (by decide) (by rw [nI_nat (by omega)]; rfl) (fun h hL hF => ?_)
  refine wp_aload_n d297_125 rfl ?_
  refine wp_iload d297_126 rfl ?_
  refine wp_iconst d297_128 (v := nI 1) (by decide) ?_
  refine wp_iaddv d297_129 (v := nI (10 * g + 1)) (nI_add _ _) ?_
  refine wp_aload d297_130 rfl ?_
  refine wp_bipush d297_132 (v := nI 8) (by decide) ?_
  refine wp_iload_n d297_134 rfl ?_
  refine wp_imulv d297_135 (v := nI (8 * g)) (nI_mul _ _) ?_
  refine wp_iald d297_136 (la_4 hL) (nI_in (by omega) (by decide)) (v := nI ((100 * t + s2))) ((congrArg ((updM S 3 (10 * g) ((-1 : Int32))) 4) (nI_nat (by omega))).trans ((updM_diff (by omega)).trans ho)) ?_
  refine wp_bipush d297_137 (v := nI 100) (by decide) ?_
  refine wp_idivv d297_139 (v := nI t) (by decide) ((nI_div (by omega) (by omega)).trans (congrArg nI (by omega))) ?_
  refine wp_iast d297_140 (la_3 hL) (nI_in (by omega) (by decide)) ?_
  refine l_step (o := 3) (i := 10 * g + 1) (v := nI t) hL hF (by decide) (by rw [nI_nat (by omega)]; rfl) (fun h hL hF => ?_)
  refine wp_aload_n d297_141 rfl ?_
  refine wp_iload d297_142 rfl ?_
  refine wp_iconst d297_144 (v := nI 2) (by decide) ?_
  refine wp_iaddv d297_145 (v := nI (10 * g + 2)) (nI_add _ _) ?_
  refine wp_aload_n d297_146 rfl ?_
  refine wp_iconst d297_147 (v := nI 4) (by decide) ?_
  refine wp_iload d297_148 rfl ?_
  refine wp_imulv d297_150 (v := nI (4 * d)) (nI_mul _ _) ?_
  refine wp_iconst d297_151 (v := nI 2) (by decide) ?_
  refine wp_iaddv d297_152 (v := nI (4 * d + 2)) (nI_add _ _) ?_
  refine wp_iald d297_153 (la_2 hL) (nI_in (by omega) (by decide)) (v := S 2 (4 * d + 2)) ((congrArg ((updM (updM S 3 (10 * g) ((-1 : Int32))) 3 (10 * g + 1) (nI t)) 2) (nI_nat (by omega))).trans ((updM_diff (by omega)).trans ((updM_diff (by omega)).trans rfl))) ?_
  refine wp_iast d297_154 (la_3 hL) (nI_in (by omega) (by decide)) ?_
  refine l_step (o := 3) (i := 10 * g + 2) (v := S 2 (4 * d + 2)) hL hF (by decide) (by rw [nI_nat (by omega)]; rfl) (fun h hL hF => ?_)
  refine wp_aload_n d297_155 rfl ?_
  refine wp_iload d297_156 rfl ?_
  refine wp_iconst d297_158 (v := nI 4) (by decide) ?_
  refine wp_iaddv d297_159 (v := nI (10 * g + 4)) (nI_add _ _) ?_
  refine wp_aload d297_160 rfl ?_
  refine wp_bipush d297_162 (v := nI 8) (by decide) ?_
  refine wp_iload_n d297_164 rfl ?_
  refine wp_imulv d297_165 (v := nI (8 * g)) (nI_mul _ _) ?_
  refine wp_iald d297_166 (la_4 hL) (nI_in (by omega) (by decide)) (v := nI ((100 * t + s2))) ((congrArg ((updM (updM (updM S 3 (10 * g) ((-1 : Int32))) 3 (10 * g + 1) (nI t)) 3 (10 * g + 2) (S 2 (4 * d + 2))) 4) (nI_nat (by omega))).trans ((updM_diff (by omega)).trans ((updM_diff (by omega)).trans ((updM_diff (by omega)).trans ho)))) ?_
  refine wp_bipush d297_167 (v := nI 100) (by decide) ?_
  refine wp_iremv d297_169 (v := nI s2) (by decide) ((nI_rem (by omega) (by omega)).trans (congrArg nI (by omega))) ?_
  refine wp_iast d297_170 (la_3 hL) (nI_in (by omega) (by decide)) ?_
  refine l_step (o := 3) (i := 10 * g + 4) (v := nI s2) hL hF (by decide) (by rw [nI_nat (by omega)]; rfl) (fun h hL hF => ?_)
  refine wp_iconst d297_171 (v := nI 1) (by decide) ?_
  refine wp_istore d297_172 (Nat.le_of_ble_eq_true rfl) rfl ?_
  have hL9 : La h (stM (updM (updM (updM (updM S 3 (10 * g) ((-1 : Int32))) 3 (10 * g + 1) (nI t)) 3 (10 * g + 2) (S 2 (4 * d + 2))) 3 (10 * g + 4) (nI s2)) 4 (SHk ((updM (updM (updM (updM S 3 (10 * g) ((-1 : Int32))) 3 (10 * g + 1) (nI t)) 3 (10 * g + 2) (S 2 (4 * d + 2))) 3 (10 * g + 4) (nI s2)) 4) (8 * g) 1)) := by rw [SHk_1, stM_self]; exact hL
  refine k_shl (S := (updM (updM (updM (updM S 3 (10 * g) ((-1 : Int32))) 3 (10 * g + 1) (nI t)) 3 (10 * g + 2) (S 2 (4 * d + 2))) 3 (10 * g + 4) (nI s2))) hg (((updM_diff (by omega)).trans ((updM_diff (by omega)).trans ((updM_diff (by omega)).trans ((updM_diff (by omega)).trans hm))))) hm8 (m - 1) 1 h rfl (Nat.le_refl _) hm0 hL9 hF (fun h hL hF => ?_)
  refine wp_aload_n d297_213 rfl ?_
  refine wp_iload d297_214 rfl ?_
  refine wp_iconst d297_216 (v := nI 5) (by decide) ?_
  refine wp_iaddv d297_217 (v := nI (10 * g + 5)) (nI_add _ _) ?_
  refine wp_dup2 d297_218 rfl rfl ?_
  refine wp_iald d297_219 (la_3 hL) (nI_in (by omega) (by decide)) (v := nI m) ((congrArg ((stM (updM (updM (updM (updM S 3 (10 * g) ((-1 : Int32))) 3 (10 * g + 1) (nI t)) 3 (10 * g + 2) (S 2 (4 * d + 2))) 3 (10 * g + 4) (nI s2)) 4 (SHk ((updM (updM (updM (updM S 3 (10 * g) ((-1 : Int32))) 3 (10 * g + 1) (nI t)) 3 (10 * g + 2) (S 2 (4 * d + 2))) 3 (10 * g + 4) (nI s2)) 4) (8 * g) m)) 3) (nI_nat (by omega))).trans ((stM_ne (by omega)).trans ((updM_diff (by omega)).trans ((updM_diff (by omega)).trans ((updM_diff (by omega)).trans ((updM_diff (by omega)).trans hm)))))) ?_
  refine wp_iconst d297_220 (v := nI 1) (by decide) ?_
  refine wp_isubv d297_221 (v := nI (m - 1)) (nI_sub (by omega) (by omega)) ?_
  refine wp_iast d297_222 (la_3 hL) (nI_in (by omega) (by decide)) ?_
  refine l_step (o := 3) (i := 10 * g + 5) (v := nI (m - 1)) hL hF (by decide) (by rw [nI_nat (by omega)]; rfl) (fun h hL hF => ?_)
  refine wp_aload_n d297_223 rfl ?_
  refine wp_iconst d297_224 (v := nI 2) (by decide) ?_
  refine wp_dup2 d297_225 rfl rfl ?_
  refine wp_iald d297_226 (la_0 hL) (nI_in (by omega) (by decide)) (v := S 0 2) ((congrArg ((updM (stM (updM (updM (updM (updM S 3 (10 * g) ((-1 : Int32))) 3 (10 * g + 1) (nI t)) 3 (10 * g + 2) (S 2 (4 * d + 2))) 3 (10 * g + 4) (nI s2)) 4 (SHk ((updM (updM (updM (updM S 3 (10 * g) ((-1 : Int32))) 3 (10 * g + 1) (nI t)) 3 (10 * g + 2) (S 2 (4 * d + 2))) 3 (10 * g + 4) (nI s2)) 4) (8 * g) m)) 3 (10 * g + 5) (nI (m - 1))) 0) (nI_nat (by omega))).trans ((updM_diff (by omega)).trans ((stM_ne (by omega)).trans ((updM_diff (by omega)).trans ((updM_diff (by omega)).trans ((updM_diff (by omega)).trans ((updM_diff (by omega)).trans rfl))))))) ?_
  refine wp_iconst d297_227 (v := nI 1) (by decide) ?_
  refine wp_iadd d297_228 ?_
  refine wp_iast d297_229 (la_0 hL) (nI_in (by omega) (by decide)) ?_
  refine l_step (o := 0) (i := 2) (v := ((S 0 2) + (nI 1))) hL hF (by decide) (by rw [nI_nat (by omega)]; rfl) (fun h hL hF => ?_)
  refine wp_vret d297_230 (by decide +kernel) ?_
  exact ⟨rfl, hL, hF⟩
theorem k_sets_g2 {X : mX} {h : mH} {S : Nat → Nat → Int32} (hL : La h S) {g : Nat} (hg : g < 2) {r s m t s2 : Nat} (hr0 : S 3 (10 * g) = nI r) (hr : r < 4) (hs0 : S 3 (10 * g + 3) = nI s) (hsz : s = 0) (hm : S 3 (10 * g + 5) = nI m) (hm0 : 0 < m) (hm8 : m ≤ 8) (ho : S 4 (8 * g) = nI (100 * t + s2)) (ht : t < 4) (hs2 : s2 < 100) (hd : ∀ d, d < 4 → S 2 (4 * d) = nI d ∧ S 2 (4 * d + 1) = nI ((d + 1) % 4)) {d : Nat} (hdb : D5 r t = nI d) (hd4 : d < 4) {kk : Nat} (hkk : S 2 (4 * d + 3) = nI kk) (hk2 : kk < 32) (hbit : ¬ (((S 3 (10 * g + 6)) >>> (nI kk &&& 31)) &&& nI 1) = 0) : DoesL X 297 [.int (nI g), .ref 313, .ref 315, .ref 316, .ref 317] h ((updM (updM (stM (updM (updM (updM (updM S 3 (10 * g) ((-1 : Int32))) 3 (10 * g + 1) (nI t)) 3 (10 * g + 2) (S 2 (4 * d + 2))) 3 (10 * g + 4) (nI s2)) 4 (SHk ((updM (updM (updM (updM S 3 (10 * g) ((-1 : Int32))) 3 (10 * g + 1) (nI t)) 3 (10 * g + 2) (S 2 (4 * d + 2))) 3 (10 * g + 4) (nI s2)) 4) (8 * g) m)) 3 (10 * g + 5) (nI (m - 1))) 0 (2) (((S 0 2) + (nI 1))))) none := by
  have hF : Frm h h 313 8 := Frm.rf
  refine wp_bipush d297_0 (v := nI 10) (by decide) ?_
  refine wp_iload_n d297_2 rfl ?_
  refine wp_imulv d297_3 (v := nI (10 * g)) (nI_mul _ _) ?_
  refine wp_istore d297_4 (Nat.le_of_ble_eq_true rfl) rfl ?_
  refine wp_aload_n d297_6 rfl ?_
  refine wp_iload d297_7 rfl ?_
  refine wp_iald d297_9 (la_3 hL) (nI_in (by omega) (by decide)) (v := nI r) ((congrArg (S 3) (nI_nat (by omega))).trans hr0) ?_
  refine wp_if_ge d297_10 (tgt := 14) (by decide) (fun _ => ?_) (fun hq9 => absurd (nI_pos' (by omega)) hq9)
  refine wp_aload_n d297_14 rfl ?_
  refine wp_iload d297_15 rfl ?_
  refine wp_iconst d297_17 (v := nI 3) (by decide) ?_
  refine wp_iaddv d297_18 (v := nI (10 * g + 3)) (nI_add _ _) ?_
  refine wp_iald d297_19 (la_3 hL) (nI_in (by omega) (by decide)) (v := nI s) ((congrArg (S 3) (nI_nat (by omega))).trans hs0) ?_
  refine wp_if_le d297_20 (tgt := 34) (by decide) (fun _ => ?_) (fun hq9 => absurd (by rw [hsz]; decide) hq9)
  refine wp_aload_n d297_34 rfl ?_
  refine wp_iload d297_35 rfl ?_
  refine wp_iconst d297_37 (v := nI 5) (by decide) ?_
  refine wp_iaddv d297_38 (v := nI (10 * g + 5)) (nI_add _ _) ?_
  refine wp_iald d297_39 (la_3 hL) (nI_in (by omega) (by decide)) (v := nI m) ((congrArg (S 3) (nI_nat (by omega))).trans hm) ?_
  refine wp_if_ne d297_40 (tgt := 44) (by decide) (fun _ => ?_) (fun hq9 => absurd hq9 (nI_nz0 hm0 (by omega)))
  refine wp_aload_n d297_44 rfl ?_
  refine wp_iload d297_45 rfl ?_
  refine wp_iald d297_47 (la_3 hL) (nI_in (by omega) (by decide)) (v := nI r) ((congrArg (S 3) (nI_nat (by omega))).trans hr0) ?_
  refine wp_aload d297_48 rfl ?_
  refine wp_bipush d297_50 (v := nI 8) (by decide) ?_
  refine wp_iload_n d297_52 rfl ?_
  refine wp_imulv d297_53 (v := nI (8 * g)) (nI_mul _ _) ?_
  refine wp_iald d297_54 (la_4 hL) (nI_in (by omega) (by decide)) (v := nI ((100 * t + s2))) ((congrArg (S 4) (nI_nat (by omega))).trans ho) ?_
  refine wp_bipush d297_55 (v := nI 100) (by decide) ?_
  refine wp_idivv d297_57 (v := nI t) (by decide) ((nI_div (by omega) (by omega)).trans (congrArg nI (by omega))) ?_
  refine wp_aload_n d297_58 rfl ?_
  refine wp_invsT (e := 10) (j2 := 294) (n := 3) d297_59 (by decide +kernel) (by decide +kernel) rfl rfl rfl (Nat.le_of_ble_eq_true rfl) (Nat.le_of_ble_eq_true rfl) rfl rfl (Nat.le_of_ble_eq_true rfl) (by decide +kernel) (tells_to hdb (k_door hL hr ht hd)) ?_
  refine wp_istore d297_62 (Nat.le_of_ble_eq_true rfl) rfl ?_
  refine wp_iload d297_64 rfl ?_
  refine wp_if_lt d297_66 (tgt := 101) (by decide) (fun hq9 => absurd hq9 (Int32.not_lt.mpr (nI_pos' (by omega)))) (fun _ => ?_)
  refine wp_aload_n d297_69 rfl ?_
  refine wp_iconst d297_70 (v := nI 4) (by decide) ?_
  refine wp_iload d297_71 rfl ?_
  refine wp_imulv d297_73 (v := nI (4 * d)) (nI_mul _ _) ?_
  refine wp_iconst d297_74 (v := nI 3) (by decide) ?_
  refine wp_iaddv d297_75 (v := nI (4 * d + 3)) (nI_add _ _) ?_
  refine wp_iald d297_76 (la_2 hL) (nI_in (by omega) (by decide)) (v := nI kk) ((congrArg (S 2) (nI_nat (by omega))).trans hkk) ?_
  refine wp_if_lt d297_77 (tgt := 120) (by decide) (fun hq9 => absurd hq9 (Int32.not_lt.mpr (nI_pos' (by omega)))) (fun _ => ?_)
  refine wp_aload_n d297_80 rfl ?_
  refine wp_iload d297_81 rfl ?_
  refine wp_bipush d297_83 (v := nI 6) (by decide) ?_
  refine wp_iaddv d297_85 (v := nI (10 * g + 6)) (nI_add _ _) ?_
  refine wp_iald d297_86 (la_3 hL) (nI_in (by omega) (by decide)) (v := S 3 (10 * g + 6)) ((congrArg (S 3) (nI_nat (by omega))).trans rfl) ?_
  refine wp_aload_n d297_87 rfl ?_
  refine wp_iconst d297_88 (v := nI 4) (by decide) ?_
  refine wp_iload d297_89 rfl ?_
  refine wp_imulv d297_91 (v := nI (4 * d)) (nI_mul _ _) ?_
  refine wp_iconst d297_92 (v := nI 3) (by decide) ?_
  refine wp_iaddv d297_93 (v := nI (4 * d + 3)) (nI_add _ _) ?_
  refine wp_iald d297_94 (la_2 hL) (nI_in (by omega) (by decide)) (v := nI kk) ((congrArg (S 2) (nI_nat (by omega))).trans hkk) ?_
  refine wp_ishr d297_95 ?_
  refine wp_iconst d297_96 (v := nI 1) (by decide) ?_
  refine wp_iand d297_97 ?_
  refine wp_if_ne d297_98 (tgt := 120) (by decide) (fun hc98 => ?_) (fun hc98 => ?_)
  · refine wp_aload_n d297_120 rfl ?_
    refine wp_iload d297_121 rfl ?_
    refine wp_iconst d297_123 (v := (-1 : Int32)) (by decide) ?_
    refine wp_iast d297_124 (la_3 hL) (nI_in (by omega) (by decide)) ?_
    refine l_step (o := 3) (i := 10 * g) (v := (-1 : Int32)) hL hF (by decide) (by rw [nI_nat (by omega)]; rfl) (fun h hL hF => ?_)
    refine wp_aload_n d297_125 rfl ?_
    refine wp_iload d297_126 rfl ?_
    refine wp_iconst d297_128 (v := nI 1) (by decide) ?_
    refine wp_iaddv d297_129 (v := nI (10 * g + 1)) (nI_add _ _) ?_
    refine wp_aload d297_130 rfl ?_
    refine wp_bipush d297_132 (v := nI 8) (by decide) ?_
    refine wp_iload_n d297_134 rfl ?_
    refine wp_imulv d297_135 (v := nI (8 * g)) (nI_mul _ _) ?_
    refine wp_iald d297_136 (la_4 hL) (nI_in (by omega) (by decide)) (v := nI ((100 * t + s2))) ((congrArg ((updM S 3 (10 * g) ((-1 : Int32))) 4) (nI_nat (by omega))).trans ((updM_diff (by omega)).trans ho)) ?_
    refine wp_bipush d297_137 (v := nI 100) (by decide) ?_
    refine wp_idivv d297_139 (v := nI t) (by decide) ((nI_div (by omega) (by omega)).trans (congrArg nI (by omega))) ?_
    refine wp_iast d297_140 (la_3 hL) (nI_in (by omega) (by decide)) ?_
    refine l_step (o := 3) (i := 10 * g + 1) (v := nI t) hL hF (by decide) (by rw [nI_nat (by omega)]; rfl) (fun h hL hF => ?_)
    refine wp_aload_n d297_141 rfl ?_
    refine wp_iload d297_142 rfl ?_
    refine wp_iconst d297_144 (v := nI 2) (by decide) ?_
    refine wp_iaddv d297_145 (v := nI (10 * g + 2)) (nI_add _ _) ?_
    refine wp_aload_n d297_146 rfl ?_
    refine wp_iconst d297_147 (v := nI 4) (by decide) ?_
    refine wp_iload d297_148 rfl ?_
    refine wp_imulv d297_150 (v := nI (4 * d)) (nI_mul _ _) ?_
    refine wp_iconst d297_151 (v := nI 2) (by decide) ?_
    refine wp_iaddv d297_152 (v := nI (4 * d + 2)) (nI_add _ _) ?_
    refine wp_iald d297_153 (la_2 hL) (nI_in (by omega) (by decide)) (v := S 2 (4 * d + 2)) ((congrArg ((updM (updM S 3 (10 * g) ((-1 : Int32))) 3 (10 * g + 1) (nI t)) 2) (nI_nat (by omega))).trans ((updM_diff (by omega)).trans ((updM_diff (by omega)).trans rfl))) ?_
    refine wp_iast d297_154 (la_3 hL) (nI_in (by omega) (by decide)) ?_
    refine l_step (o := 3) (i := 10 * g + 2) (v := S 2 (4 * d + 2)) hL hF (by decide) (by rw [nI_nat (by omega)]; rfl) (fun h hL hF => ?_)
    refine wp_aload_n d297_155 rfl ?_
    refine wp_iload d297_156 rfl ?_
    refine wp_iconst d297_158 (v := nI 4) (by decide) ?_
    refine wp_iaddv d297_159 (v := nI (10 * g + 4)) (nI_add _ _) ?_
    refine wp_aload d297_160 rfl ?_
    refine wp_bipush d297_162 (v := nI 8) (by decide) ?_
    refine wp_iload_n d297_164 rfl ?_
    refine wp_imulv d297_165 (v := nI (8 * g)) (nI_mul _ _) ?_
    refine wp_iald d297_166 (la_4 hL) (nI_in (by omega) (by decide)) (v := nI ((100 * t + s2))) ((congrArg ((updM (updM (updM S 3 (10 * g) ((-1 : Int32))) 3 (10 * g + 1) (nI t)) 3 (10 * g + 2) (S 2 (4 * d + 2))) 4) (nI_nat (by omega))).trans ((updM_diff (by omega)).trans ((updM_diff (by omega)).trans ((updM_diff (by omega)).trans ho)))) ?_
    refine wp_bipush d297_167 (v := nI 100) (by decide) ?_
    refine wp_iremv d297_169 (v := nI s2) (by decide) ((nI_rem (by omega) (by omega)).trans (congrArg nI (by omega))) ?_
    refine wp_iast d297_170 (la_3 hL) (nI_in (by omega) (by decide)) ?_
    refine l_step (o := 3) (i := 10 * g + 4) (v := nI s2) hL hF (by decide) (by rw [nI_nat (by omega)]; rfl) (fun h hL hF => ?_)
    refine wp_iconst d297_171 (v := nI 1) (by decide) ?_
    refine wp_istore d297_172 (Nat.le_of_ble_eq_true rfl) rfl ?_
    have hL9 : La h (stM (updM (updM (updM (updM S 3 (10 * g) ((-1 : Int32))) 3 (10 * g + 1) (nI t)) 3 (10 * g + 2) (S 2 (4 * d + 2))) 3 (10 * g + 4) (nI s2)) 4 (SHk ((updM (updM (updM (updM S 3 (10 * g) ((-1 : Int32))) 3 (10 * g + 1) (nI t)) 3 (10 * g + 2) (S 2 (4 * d + 2))) 3 (10 * g + 4) (nI s2)) 4) (8 * g) 1)) := by rw [SHk_1, stM_self]; exact hL
    refine k_shl (S := (updM (updM (updM (updM S 3 (10 * g) ((-1 : Int32))) 3 (10 * g + 1) (nI t)) 3 (10 * g + 2) (S 2 (4 * d + 2))) 3 (10 * g + 4) (nI s2))) hg (((updM_diff (by omega)).trans ((updM_diff (by omega)).trans ((updM_diff (by omega)).trans ((updM_diff (by omega)).trans hm))))) hm8 (m - 1) 1 h rfl (Nat.le_refl _) hm0 hL9 hF (fun h hL hF => ?_)
    refine wp_aload_n d297_213 rfl ?_
    refine wp_iload d297_214 rfl ?_
    refine wp_iconst d297_216 (v := nI 5) (by decide) ?_
    refine wp_iaddv d297_217 (v := nI (10 * g + 5)) (nI_add _ _) ?_
    refine wp_dup2 d297_218 rfl rfl ?_
    refine wp_iald d297_219 (la_3 hL) (nI_in (by omega) (by decide)) (v := nI m) ((congrArg ((stM (updM (updM (updM (updM S 3 (10 * g) ((-1 : Int32))) 3 (10 * g + 1) (nI t)) 3 (10 * g + 2) (S 2 (4 * d + 2))) 3 (10 * g + 4) (nI s2)) 4 (SHk ((updM (updM (updM (updM S 3 (10 * g) ((-1 : Int32))) 3 (10 * g + 1) (nI t)) 3 (10 * g + 2) (S 2 (4 * d + 2))) 3 (10 * g + 4) (nI s2)) 4) (8 * g) m)) 3) (nI_nat (by omega))).trans ((stM_ne (by omega)).trans ((updM_diff (by omega)).trans ((updM_diff (by omega)).trans ((updM_diff (by omega)).trans ((updM_diff (by omega)).trans hm)))))) ?_
    refine wp_iconst d297_220 (v := nI 1) (by decide) ?_
    refine wp_isubv d297_221 (v := nI (m - 1)) (nI_sub (by omega) (by omega)) ?_
    refine wp_iast d297_222 (la_3 hL) (nI_in (by omega) (by decide)) ?_
    refine l_step (o := 3) (i := 10 * g + 5) (v := nI (m - 1)) hL hF (by decide) (by rw [nI_nat (by omega)]; rfl) (fun h hL hF => ?_)
    refine wp_aload_n d297_223 rfl ?_
    refine wp_iconst d297_224 (v := nI 2) (by decide) ?_
    refine wp_dup2 d297_225 rfl rfl ?_
    refine wp_iald d297_226 (la_0 hL) (nI_in (by omega) (by decide)) (v := S 0 2) ((congrArg ((updM (stM (updM (updM (updM (updM S 3 (10 * g) ((-1 : Int32))) 3 (10 * g + 1) (nI t)) 3 (10 * g + 2) (S 2 (4 * d + 2))) 3 (10 * g + 4) (nI s2)) 4 (SHk ((updM (updM (updM (updM S 3 (10 * g) ((-1 : Int32))) 3 (10 * g + 1) (nI t)) 3 (10 * g + 2) (S 2 (4 * d + 2))) 3 (10 * g + 4) (nI s2)) 4) (8 * g) m)) 3 (10 * g + 5) (nI (m - 1))) 0) (nI_nat (by omega))).trans ((updM_diff (by omega)).trans ((stM_ne (by omega)).trans ((updM_diff (by omega)).trans ((updM_diff (by omega)).trans ((updM_diff (by omega)).trans ((updM_diff (by omega)).trans rfl))))))) ?_
    refine wp_iconst d297_227 (v := nI 1) (by decide) ?_
    refine wp_iadd d297_228 ?_
    refine wp_iast d297_229 (la_0 hL) (nI_in (by omega) (by decide)) ?_
    refine l_step (o := 0) (i := 2) (v := ((S 0 2) + (nI 1))) hL hF (by decide) (by rw [nI_nat (by omega)]; rfl) (fun h hL hF => ?_)
    refine wp_vret d297_230 (by decide +kernel) ?_
    exact ⟨rfl, hL, hF⟩
  · exact absurd hc98 hbit
