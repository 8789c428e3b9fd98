/-! The reference lets a guard set off. -/
theorem d257_0 : decode (m_code 257) 0 = .ok (.aload_n 0, 1) := by decide +kernel
theorem d257_1 : decode (m_code 257) 1 = .ok (.iload_n 1, 1) := by decide +kernel
theorem d257_2 : decode (m_code 257) 2 = .ok (.iconst 0, 1) := by decide +kernel
theorem d257_3 : decode (m_code 257) 3 = .ok (.invokevirtual 81, 3) := by decide +kernel
theorem d257_6 : decode (m_code 257) 6 = .ok (.istore_n 2, 1) := by decide +kernel
theorem d257_7 : decode (m_code 257) 7 = .ok (.aload_n 0, 1) := by decide +kernel
theorem d257_8 : decode (m_code 257) 8 = .ok (.getfield 7, 3) := by decide +kernel
theorem d257_11 : decode (m_code 257) 11 = .ok (.sipush 232, 3) := by decide +kernel
theorem d257_14 : decode (m_code 257) 14 = .ok (.bipush 24, 2) := by decide +kernel
theorem d257_16 : decode (m_code 257) 16 = .ok (.iload_n 1, 1) := by decide +kernel
theorem d257_17 : decode (m_code 257) 17 = .ok (.imul, 1) := by decide +kernel
theorem d257_18 : decode (m_code 257) 18 = .ok (.iadd, 1) := by decide +kernel
theorem d257_19 : decode (m_code 257) 19 = .ok (.iaload, 1) := by decide +kernel
theorem d257_20 : decode (m_code 257) 20 = .ok (.istore_n 3, 1) := by decide +kernel
theorem d257_21 : decode (m_code 257) 21 = .ok (.aload_n 0, 1) := by decide +kernel
theorem d257_22 : decode (m_code 257) 22 = .ok (.getfield 7, 3) := by decide +kernel
theorem d257_25 : decode (m_code 257) 25 = .ok (.sipush 232, 3) := by decide +kernel
theorem d257_28 : decode (m_code 257) 28 = .ok (.bipush 24, 2) := by decide +kernel
theorem d257_30 : decode (m_code 257) 30 = .ok (.iload_n 1, 1) := by decide +kernel
theorem d257_31 : decode (m_code 257) 31 = .ok (.imul, 1) := by decide +kernel
theorem d257_32 : decode (m_code 257) 32 = .ok (.iadd, 1) := by decide +kernel
theorem d257_33 : decode (m_code 257) 33 = .ok (.iconst 1, 1) := by decide +kernel
theorem d257_34 : decode (m_code 257) 34 = .ok (.iadd, 1) := by decide +kernel
theorem d257_35 : decode (m_code 257) 35 = .ok (.iaload, 1) := by decide +kernel
theorem d257_36 : decode (m_code 257) 36 = .ok (.istore 4, 2) := by decide +kernel
theorem d257_38 : decode (m_code 257) 38 = .ok (.aload_n 0, 1) := by decide +kernel
theorem d257_39 : decode (m_code 257) 39 = .ok (.iload_n 2, 1) := by decide +kernel
theorem d257_40 : decode (m_code 257) 40 = .ok (.iload_n 3, 1) := by decide +kernel
theorem d257_41 : decode (m_code 257) 41 = .ok (.invokevirtual 60, 3) := by decide +kernel
theorem d257_44 : decode (m_code 257) 44 = .ok (.istore 5, 2) := by decide +kernel
theorem d257_46 : decode (m_code 257) 46 = .ok (.iload 5, 2) := by decide +kernel
theorem d257_48 : decode (m_code 257) 48 = .ok (.bipush (-5), 2) := by decide +kernel
theorem d257_50 : decode (m_code 257) 50 = .ok (.if_icmp .eq 13, 3) := by decide +kernel
theorem d257_53 : decode (m_code 257) 53 = .ok (.aload_n 0, 1) := by decide +kernel
theorem d257_54 : decode (m_code 257) 54 = .ok (.iload_n 1, 1) := by decide +kernel
theorem d257_55 : decode (m_code 257) 55 = .ok (.iload 5, 2) := by decide +kernel
theorem d257_57 : decode (m_code 257) 57 = .ok (.invokevirtual 128, 3) := by decide +kernel
theorem d257_60 : decode (m_code 257) 60 = .ok (.ifCond .ne 27, 3) := by decide +kernel
theorem d257_63 : decode (m_code 257) 63 = .ok (.aload_n 0, 1) := by decide +kernel
theorem d257_64 : decode (m_code 257) 64 = .ok (.iload_n 1, 1) := by decide +kernel
theorem d257_65 : decode (m_code 257) 65 = .ok (.iconst 5, 1) := by decide +kernel
theorem d257_66 : decode (m_code 257) 66 = .ok (.iconst 0, 1) := by decide +kernel
theorem d257_67 : decode (m_code 257) 67 = .ok (.invokevirtual 87, 3) := by decide +kernel
theorem d257_70 : decode (m_code 257) 70 = .ok (.aload_n 0, 1) := by decide +kernel
theorem d257_71 : decode (m_code 257) 71 = .ok (.iload_n 1, 1) := by decide +kernel
theorem d257_72 : decode (m_code 257) 72 = .ok (.bipush 7, 2) := by decide +kernel
theorem d257_74 : decode (m_code 257) 74 = .ok (.aload_n 0, 1) := by decide +kernel
theorem d257_75 : decode (m_code 257) 75 = .ok (.iload_n 1, 1) := by decide +kernel
theorem d257_76 : decode (m_code 257) 76 = .ok (.bipush 7, 2) := by decide +kernel
theorem d257_78 : decode (m_code 257) 78 = .ok (.invokevirtual 81, 3) := by decide +kernel
theorem d257_81 : decode (m_code 257) 81 = .ok (.iconst 1, 1) := by decide +kernel
theorem d257_82 : decode (m_code 257) 82 = .ok (.iadd, 1) := by decide +kernel
theorem d257_83 : decode (m_code 257) 83 = .ok (.invokevirtual 87, 3) := by decide +kernel
theorem d257_86 : decode (m_code 257) 86 = .ok (.return_, 1) := by decide +kernel
theorem d257_87 : decode (m_code 257) 87 = .ok (.iconst 0, 1) := by decide +kernel
theorem d257_88 : decode (m_code 257) 88 = .ok (.istore 6, 2) := by decide +kernel
theorem d257_90 : decode (m_code 257) 90 = .ok (.iload 6, 2) := by decide +kernel
theorem d257_92 : decode (m_code 257) 92 = .ok (.bipush 22, 2) := by decide +kernel
theorem d257_94 : decode (m_code 257) 94 = .ok (.if_icmp .ge 43, 3) := by decide +kernel
theorem d257_97 : decode (m_code 257) 97 = .ok (.aload_n 0, 1) := by decide +kernel
theorem d257_98 : decode (m_code 257) 98 = .ok (.getfield 7, 3) := by decide +kernel
theorem d257_101 : decode (m_code 257) 101 = .ok (.sipush 232, 3) := by decide +kernel
theorem d257_104 : decode (m_code 257) 104 = .ok (.bipush 24, 2) := by decide +kernel
theorem d257_106 : decode (m_code 257) 106 = .ok (.iload_n 1, 1) := by decide +kernel
theorem d257_107 : decode (m_code 257) 107 = .ok (.imul, 1) := by decide +kernel
theorem d257_108 : decode (m_code 257) 108 = .ok (.iadd, 1) := by decide +kernel
theorem d257_109 : decode (m_code 257) 109 = .ok (.iload 6, 2) := by decide +kernel
theorem d257_111 : decode (m_code 257) 111 = .ok (.iadd, 1) := by decide +kernel
theorem d257_112 : decode (m_code 257) 112 = .ok (.aload_n 0, 1) := by decide +kernel
theorem d257_113 : decode (m_code 257) 113 = .ok (.getfield 7, 3) := by decide +kernel
theorem d257_116 : decode (m_code 257) 116 = .ok (.sipush 232, 3) := by decide +kernel
theorem d257_119 : decode (m_code 257) 119 = .ok (.bipush 24, 2) := by decide +kernel
theorem d257_121 : decode (m_code 257) 121 = .ok (.iload_n 1, 1) := by decide +kernel
theorem d257_122 : decode (m_code 257) 122 = .ok (.imul, 1) := by decide +kernel
theorem d257_123 : decode (m_code 257) 123 = .ok (.iadd, 1) := by decide +kernel
theorem d257_124 : decode (m_code 257) 124 = .ok (.iload 6, 2) := by decide +kernel
theorem d257_126 : decode (m_code 257) 126 = .ok (.iadd, 1) := by decide +kernel
theorem d257_127 : decode (m_code 257) 127 = .ok (.iconst 2, 1) := by decide +kernel
theorem d257_128 : decode (m_code 257) 128 = .ok (.iadd, 1) := by decide +kernel
theorem d257_129 : decode (m_code 257) 129 = .ok (.iaload, 1) := by decide +kernel
theorem d257_130 : decode (m_code 257) 130 = .ok (.iastore, 1) := by decide +kernel
theorem d257_131 : decode (m_code 257) 131 = .ok (.iinc 6 1, 3) := by decide +kernel
theorem d257_134 : decode (m_code 257) 134 = .ok (.goto (-44), 3) := by decide +kernel
theorem d257_137 : decode (m_code 257) 137 = .ok (.aload_n 0, 1) := by decide +kernel
theorem d257_138 : decode (m_code 257) 138 = .ok (.iload_n 1, 1) := by decide +kernel
theorem d257_139 : decode (m_code 257) 139 = .ok (.iconst 5, 1) := by decide +kernel
theorem d257_140 : decode (m_code 257) 140 = .ok (.aload_n 0, 1) := by decide +kernel
theorem d257_141 : decode (m_code 257) 141 = .ok (.iload_n 1, 1) := by decide +kernel
theorem d257_142 : decode (m_code 257) 142 = .ok (.iconst 5, 1) := by decide +kernel
theorem d257_143 : decode (m_code 257) 143 = .ok (.invokevirtual 81, 3) := by decide +kernel
theorem d257_146 : decode (m_code 257) 146 = .ok (.iconst 1, 1) := by decide +kernel
theorem d257_147 : decode (m_code 257) 147 = .ok (.isub, 1) := by decide +kernel
theorem d257_148 : decode (m_code 257) 148 = .ok (.invokevirtual 87, 3) := by decide +kernel
theorem d257_151 : decode (m_code 257) 151 = .ok (.aload_n 0, 1) := by decide +kernel
theorem d257_152 : decode (m_code 257) 152 = .ok (.getfield 7, 3) := by decide +kernel
theorem d257_155 : decode (m_code 257) 155 = .ok (.sipush 1298, 3) := by decide +kernel
theorem d257_158 : decode (m_code 257) 158 = .ok (.iconst 4, 1) := by decide +kernel
theorem d257_159 : decode (m_code 257) 159 = .ok (.aload_n 0, 1) := by decide +kernel
theorem d257_160 : decode (m_code 257) 160 = .ok (.getfield 7, 3) := by decide +kernel
theorem d257_163 : decode (m_code 257) 163 = .ok (.iconst 0, 1) := by decide +kernel
theorem d257_164 : decode (m_code 257) 164 = .ok (.iaload, 1) := by decide +kernel
theorem d257_165 : decode (m_code 257) 165 = .ok (.imul, 1) := by decide +kernel
theorem d257_166 : decode (m_code 257) 166 = .ok (.iadd, 1) := by decide +kernel
theorem d257_167 : decode (m_code 257) 167 = .ok (.iload_n 1, 1) := by decide +kernel
theorem d257_168 : decode (m_code 257) 168 = .ok (.iadd, 1) := by decide +kernel
theorem d257_169 : decode (m_code 257) 169 = .ok (.sipush 1000, 3) := by decide +kernel
theorem d257_172 : decode (m_code 257) 172 = .ok (.iload_n 2, 1) := by decide +kernel
theorem d257_173 : decode (m_code 257) 173 = .ok (.imul, 1) := by decide +kernel
theorem d257_174 : decode (m_code 257) 174 = .ok (.aload_n 0, 1) := by decide +kernel
theorem d257_175 : decode (m_code 257) 175 = .ok (.iload_n 1, 1) := by decide +kernel
theorem d257_176 : decode (m_code 257) 176 = .ok (.bipush 9, 2) := by decide +kernel
theorem d257_178 : decode (m_code 257) 178 = .ok (.invokevirtual 81, 3) := by decide +kernel
theorem d257_181 : decode (m_code 257) 181 = .ok (.iadd, 1) := by decide +kernel
theorem d257_182 : decode (m_code 257) 182 = .ok (.iconst 1, 1) := by decide +kernel
theorem d257_183 : decode (m_code 257) 183 = .ok (.iadd, 1) := by decide +kernel
theorem d257_184 : decode (m_code 257) 184 = .ok (.iastore, 1) := by decide +kernel
theorem d257_185 : decode (m_code 257) 185 = .ok (.aload_n 0, 1) := by decide +kernel
theorem d257_186 : decode (m_code 257) 186 = .ok (.iload_n 1, 1) := by decide +kernel
theorem d257_187 : decode (m_code 257) 187 = .ok (.iconst 0, 1) := by decide +kernel
theorem d257_188 : decode (m_code 257) 188 = .ok (.bipush (-5), 2) := by decide +kernel
theorem d257_190 : decode (m_code 257) 190 = .ok (.invokevirtual 87, 3) := by decide +kernel
theorem d257_193 : decode (m_code 257) 193 = .ok (.aload_n 0, 1) := by decide +kernel
theorem d257_194 : decode (m_code 257) 194 = .ok (.iload_n 1, 1) := by decide +kernel
theorem d257_195 : decode (m_code 257) 195 = .ok (.iconst 1, 1) := by decide +kernel
theorem d257_196 : decode (m_code 257) 196 = .ok (.iload_n 3, 1) := by decide +kernel
theorem d257_197 : decode (m_code 257) 197 = .ok (.invokevirtual 87, 3) := by decide +kernel
theorem d257_200 : decode (m_code 257) 200 = .ok (.aload_n 0, 1) := by decide +kernel
theorem d257_201 : decode (m_code 257) 201 = .ok (.iload_n 1, 1) := by decide +kernel
theorem d257_202 : decode (m_code 257) 202 = .ok (.iconst 2, 1) := by decide +kernel
theorem d257_203 : decode (m_code 257) 203 = .ok (.aload_n 0, 1) := by decide +kernel
theorem d257_204 : decode (m_code 257) 204 = .ok (.iload 5, 2) := by decide +kernel
theorem d257_206 : decode (m_code 257) 206 = .ok (.iconst 2, 1) := by decide +kernel
theorem d257_207 : decode (m_code 257) 207 = .ok (.invokevirtual 53, 3) := by decide +kernel
theorem d257_210 : decode (m_code 257) 210 = .ok (.invokevirtual 87, 3) := by decide +kernel
theorem d257_213 : decode (m_code 257) 213 = .ok (.aload_n 0, 1) := by decide +kernel
theorem d257_214 : decode (m_code 257) 214 = .ok (.iload_n 1, 1) := by decide +kernel
theorem d257_215 : decode (m_code 257) 215 = .ok (.iconst 4, 1) := by decide +kernel
theorem d257_216 : decode (m_code 257) 216 = .ok (.iload 4, 2) := by decide +kernel
theorem d257_218 : decode (m_code 257) 218 = .ok (.invokevirtual 87, 3) := by decide +kernel
theorem d257_221 : decode (m_code 257) 221 = .ok (.aload_n 0, 1) := by decide +kernel
theorem d257_222 : decode (m_code 257) 222 = .ok (.getfield 7, 3) := by decide +kernel
theorem d257_225 : decode (m_code 257) 225 = .ok (.bipush 92, 2) := by decide +kernel
theorem d257_227 : decode (m_code 257) 227 = .ok (.iconst 5, 1) := by decide +kernel
theorem d257_228 : decode (m_code 257) 228 = .ok (.iload 5, 2) := by decide +kernel
theorem d257_230 : decode (m_code 257) 230 = .ok (.imul, 1) := by decide +kernel
theorem d257_231 : decode (m_code 257) 231 = .ok (.iadd, 1) := by decide +kernel
theorem d257_232 : decode (m_code 257) 232 = .ok (.iconst 4, 1) := by decide +kernel
theorem d257_233 : decode (m_code 257) 233 = .ok (.iadd, 1) := by decide +kernel
theorem d257_234 : decode (m_code 257) 234 = .ok (.dup2, 1) := by decide +kernel
theorem d257_235 : decode (m_code 257) 235 = .ok (.iaload, 1) := by decide +kernel
theorem d257_236 : decode (m_code 257) 236 = .ok (.iconst 1, 1) := by decide +kernel
theorem d257_237 : decode (m_code 257) 237 = .ok (.iadd, 1) := by decide +kernel
theorem d257_238 : decode (m_code 257) 238 = .ok (.iastore, 1) := by decide +kernel
theorem d257_239 : decode (m_code 257) 239 = .ok (.return_, 1) := by decide +kernel
theorem F_db_cases (f : Nat → Int32) (x y : Int32) (n : Nat) : F_db f x y n = -5 ∨ ∃ d, d < n ∧ F_db f x y n = nI d := by
  induction n with
  | zero => exact Or.inl rfl
  | succ n ih =>
    unfold F_db
    split
    · exact Or.inr ⟨n, Nat.lt_succ_self n, rfl⟩
    · rcases ih with h | ⟨d, h1, h2⟩
      · exact Or.inl h
      · exact Or.inr ⟨d, Nat.lt_succ_of_lt h1, h2⟩
/-- the orders of a guard, k numbers moved down by two -/
def F_sh (σ : Nat → Int32) (g : Nat) : Nat → (Nat → Int32)
  | 0 => σ
  | k + 1 => upd (F_sh σ g k) (232 + 24 * g + k) (F_sh σ g k (232 + 24 * g + k + 2))
theorem F_sh_at (σ : Nat → Int32) (g k i : Nat) : F_sh σ g k i = if 232 + 24 * g ≤ i ∧ i < 232 + 24 * g + k then σ (i + 2) else σ i := by
  induction k generalizing i with
  | zero => rw [if_neg (by omega)]; rfl
  | succ k ih =>
    unfold F_sh upd
    split
    next h => subst h; rw [ih, if_neg (by omega), if_pos (by omega)]
    next h =>
      rw [ih]
      split
      next h2 => rw [if_pos (by omega)]
      next h2 => rw [if_neg (by omega)]
theorem F_sh_lo {σ : Nat → Int32} {g k i : Nat} (h : i < 232 + 24 * g ∨ 232 + 24 * g + k ≤ i) : F_sh σ g k i = σ i := by rw [F_sh_at, if_neg (by omega)]
abbrev G_halt (σ : Nat → Int32) (g : Nat) : Nat → Int32 := G_set (G_set σ g 5 (nI 0)) g 7 (σ (192 + 10 * g + 7) + nI 1)
/-- a guard sets off from the room r through the door d -/
def G_go (σ : Nat → Int32) (g d r m sn mi : Nat) (room stay : Int32) : Nat → Int32 :=
  upd (G_set (G_set (G_set (G_set (upd (G_set (F_sh σ g 22) g 5 (nI (m - 1))) (1298 + 4 * mi + g) (nI (1000 * r + sn + 1))) g 0 (-5)) g 1 room) g 2 (σ (92 + 5 * d + 2))) g 4 stay) (92 + 5 * d + 4) (σ (92 + 5 * d + 4) + nI 1)
abbrev F_may (σ : Nat → Int32) (g d : Nat) : Prop := σ (92 + 5 * d + 3) < 0 ∨ F_bit (σ (192 + 10 * g + 6)) (σ (92 + 5 * d + 3))
def F_so (σ : Nat → Int32) (g nD r m sn mi : Nat) : Nat → Int32 :=
  if F_db σ (nI r) (σ (232 + 24 * g)) nD = -5 ∨ ¬ F_may σ g (F_db σ (nI r) (σ (232 + 24 * g)) nD).toNatClampNeg then G_halt σ g
  else G_go σ g (F_db σ (nI r) (σ (232 + 24 * g)) nD).toNatClampNeg r m sn mi (σ (232 + 24 * g)) (σ (232 + 24 * g + 1))
theorem c_setsOff_l {X : mX}  {h0 : mH} {R : Nat → Nat → Int32} {σ : Nat → Int32} {g : Nat} (hg : g < 4) {l2 l3 l4 l5 : Option Value} {Q : Option Value → mH → Prop} : ∀ (d : Nat) (k : Nat) (h : mH), 22 - k = d → k ≤ 22 → Ms h R (F_sh σ g k) → Frm h0 h 313 8 → (∀ h1, Ms h1 R (F_sh σ g 22) → Frm h0 h1 313 8 → ∀ v, m_wp X 257 137 [some (.ref 313), some (.int (nI g)), l2, l3, l4, l5, some (.int v)] [] h1 Q) → m_wp X 257 90 [some (.ref 313), some (.int (nI g)), l2, l3, l4, l5, some (.int (nI k))] [] h Q := by
  intro d
  induction d using Nat.strongRecOn with
  | ind d ih =>
    intro k h hd hk hR hF K
    refine wp_iload d257_90 rfl ?_
    refine wp_bipush d257_92 (v := nI 22) (by decide) ?_
    refine wp_icmp_ge d257_94 (tgt := 137) (by decide) (fun hc94 => ?_) (fun hc94 => ?_)
    · have hc94 : 22 ≤ k := (nI_leI (by omega) (by omega)).mp hc94
      rw [show k = 22 by omega] at hR
      exact K h hR hF _
    · have hc94 : ¬ (22 ≤ k) := fun z => hc94 ((nI_leI (by omega) (by omega)).mpr z)
      refine wp_aload_n d257_97 rfl ?_
      refine wp_getf (e := 7) (ci := 12) (k := 0) (nest := false) d257_98 (by decide +kernel) (md_0 hR) rfl ?_
      refine wp_sipush d257_101 (v := nI 232) (by decide) ?_
      refine wp_bipush d257_104 (v := nI 24) (by decide) ?_
      refine wp_iload_n d257_106 rfl ?_
      refine wp_imulv d257_107 (v := nI (24 * g)) (nI_mul _ _) ?_
      refine wp_iaddv d257_108 (v := nI (232 + 24 * g)) (nI_add _ _) ?_
      refine wp_iload d257_109 rfl ?_
      refine wp_iaddv d257_111 (v := nI (232 + 24 * g + k)) (nI_add _ _) ?_
      refine wp_aload_n d257_112 rfl ?_
      refine wp_getf (e := 7) (ci := 12) (k := 0) (nest := false) d257_113 (by decide +kernel) (md_0 hR) rfl ?_
      refine wp_sipush d257_116 (v := nI 232) (by decide) ?_
      refine wp_bipush d257_119 (v := nI 24) (by decide) ?_
      refine wp_iload_n d257_121 rfl ?_
      refine wp_imulv d257_122 (v := nI (24 * g)) (nI_mul _ _) ?_
      refine wp_iaddv d257_123 (v := nI (232 + 24 * g)) (nI_add _ _) ?_
      refine wp_iload d257_124 rfl ?_
      refine wp_iaddv d257_126 (v := nI (232 + 24 * g + k)) (nI_add _ _) ?_
      refine wp_iconst d257_127 (v := nI 2) (by decide) ?_
      refine wp_iaddv d257_128 (v := nI (232 + 24 * g + k + 2)) (nI_add _ _) ?_
      refine wp_iald d257_129 (md_1 hR) (nI_in (by omega) (by decide)) (v := ((F_sh σ g k)) (232 + 24 * g + k + 2)) ((congrArg ((F_sh σ g k)) (nI_nat (by omega))).trans rfl) ?_
      refine wp_stS d257_130 hR hF (k := 232 + 24 * g + k) (by omega) (fun h hR hF => ?_)
      refine wp_iinc d257_131 rfl (v := nI (k + 1)) (nI_add _ 1) (Nat.le_of_ble_eq_true rfl) rfl ?_
      refine wp_goto d257_134 (tgt := 90) (by decide) ?_
      exact ih (22 - (k + 1)) (by omega) (k + 1) h rfl (by omega) hR hF K
theorem c_setsOff {X : mX} {h : mH} {R : Nat → Nat → Int32} {σ : Nat → Int32} (hR : Ms h R σ) {g r m sn mi : Nat} (hg : g < 4) (ha : σ (192 + 10 * g + 0) = nI r) (hr : r < 12) (hm : σ (192 + 10 * g + 5) = nI m) (hm0 : 0 < m) (hm12 : m ≤ 12) (hs : σ (192 + 10 * g + 9) = nI sn) (hsn : sn < 1000) (hmi : σ 0 = nI mi) (hmi2 : mi < 720) {nD : Nat} (hn : σ 3 = nI nD) (hD : nD ≤ 20) : Does X 257 [.ref 313, .int (nI g)] h (R) (F_so σ g nD r m sn mi) none := by
  have hF : Frm h h 313 8 := Frm.rf
  refine wp_aload_n d257_0 rfl ?_
  refine wp_iload_n d257_1 rfl ?_
  refine wp_iconst d257_2 (v := nI 0) (by decide) ?_
  refine wp_invvT (e := 81) (j2 := 227) (n := 2) d257_3 (by decide +kernel) (by decide +kernel) rfl rfl rfl (md_0 hR) (by decide +kernel) (Nat.le_of_ble_eq_true rfl) rfl rfl (Nat.le_of_ble_eq_true rfl) (by decide +kernel) (tells_eq (c_guardPart hR (r := g) (p := 0) (by omega) (by omega)) ha) ?_
  refine wp_istore_n d257_6 (Nat.le_of_ble_eq_true rfl) rfl ?_
  refine wp_aload_n d257_7 rfl ?_
  refine wp_getf (e := 7) (ci := 12) (k := 0) (nest := false) d257_8 (by decide +kernel) (md_0 hR) rfl ?_
  refine wp_sipush d257_11 (v := nI 232) (by decide) ?_
  refine wp_bipush d257_14 (v := nI 24) (by decide) ?_
  refine wp_iload_n d257_16 rfl ?_
  refine wp_imulv d257_17 (v := nI (24 * g)) (nI_mul _ _) ?_
  refine wp_iaddv d257_18 (v := nI (232 + 24 * g)) (nI_add _ _) ?_
  refine wp_iald d257_19 (md_1 hR) (nI_in (by omega) (by decide)) (v := σ (232 + 24 * g)) ((congrArg σ (nI_nat (by omega))).trans rfl) ?_
  refine wp_istore_n d257_20 (Nat.le_of_ble_eq_true rfl) rfl ?_
  refine wp_aload_n d257_21 rfl ?_
  refine wp_getf (e := 7) (ci := 12) (k := 0) (nest := false) d257_22 (by decide +kernel) (md_0 hR) rfl ?_
  refine wp_sipush d257_25 (v := nI 232) (by decide) ?_
  refine wp_bipush d257_28 (v := nI 24) (by decide) ?_
  refine wp_iload_n d257_30 rfl ?_
  refine wp_imulv d257_31 (v := nI (24 * g)) (nI_mul _ _) ?_
  refine wp_iaddv d257_32 (v := nI (232 + 24 * g)) (nI_add _ _) ?_
  refine wp_iconst d257_33 (v := nI 1) (by decide) ?_
  refine wp_iaddv d257_34 (v := nI (232 + 24 * g + 1)) (nI_add _ _) ?_
  refine wp_iald d257_35 (md_1 hR) (nI_in (by omega) (by decide)) (v := σ (232 + 24 * g + 1)) ((congrArg σ (nI_nat (by omega))).trans rfl) ?_
  refine wp_istore d257_36 (Nat.le_of_ble_eq_true rfl) rfl ?_
  refine wp_aload_n d257_38 rfl ?_
  refine wp_iload_n d257_39 rfl ?_
  refine wp_iload_n d257_40 rfl ?_
  refine wp_invvT (e := 60) (j2 := 216) (n := 2) d257_41 (by decide +kernel) (by decide +kernel) rfl rfl rfl (md_0 hR) (by decide +kernel) (Nat.le_of_ble_eq_true rfl) rfl rfl (Nat.le_of_ble_eq_true rfl) (by decide +kernel) (c_doorBetween hR hn hD (nI r) (σ (232 + 24 * g))) ?_
  refine wp_istore d257_44 (Nat.le_of_ble_eq_true rfl) rfl ?_
  refine wp_iload d257_46 rfl ?_
  refine wp_bipush d257_48 (v := (-5 : Int32)) (by decide) ?_
  refine wp_icmp_eq d257_50 (tgt := 63) (by decide) (fun hc50 => ?_) (fun hc50 => ?_)
  · refine wp_aload_n d257_63 rfl ?_
    refine wp_iload_n d257_64 rfl ?_
    refine wp_iconst d257_65 (v := nI 5) (by decide) ?_
    refine wp_iconst d257_66 (v := nI 0) (by decide) ?_
    refine wp_invvD (e := 87) (j2 := 230) (n := 3) d257_67 (by decide +kernel) (by decide +kernel) rfl rfl rfl (md_0 hR) (by decide +kernel) (Nat.le_of_ble_eq_true rfl) rfl rfl (Nat.le_of_ble_eq_true rfl) (by decide +kernel) (c_setGuard hR (g := g) (p := 5) (by omega) (by omega) (nI 0)) hF ?_
    intro h hR hF
    refine wp_aload_n d257_70 rfl ?_
    refine wp_iload_n d257_71 rfl ?_
    refine wp_bipush d257_72 (v := nI 7) (by decide) ?_
    refine wp_aload_n d257_74 rfl ?_
    refine wp_iload_n d257_75 rfl ?_
    refine wp_bipush d257_76 (v := nI 7) (by decide) ?_
    refine wp_invvT (e := 81) (j2 := 227) (n := 2) d257_78 (by decide +kernel) (by decide +kernel) rfl rfl rfl (md_0 hR) (by decide +kernel) (Nat.le_of_ble_eq_true rfl) rfl rfl (Nat.le_of_ble_eq_true rfl) (by decide +kernel) (tells_eq (c_guardPart hR (r := g) (p := 7) (by omega) (by omega)) ((upd_ne (by omega)).trans rfl)) ?_
    refine wp_iconst d257_81 (v := nI 1) (by decide) ?_
    refine wp_iadd d257_82 ?_
    refine wp_invvD (e := 87) (j2 := 230) (n := 3) d257_83 (by decide +kernel) (by decide +kernel) rfl rfl rfl (md_0 hR) (by decide +kernel) (Nat.le_of_ble_eq_true rfl) rfl rfl (Nat.le_of_ble_eq_true rfl) (by decide +kernel) (c_setGuard hR (g := g) (p := 7) (by omega) (by omega) (((σ (192 + 10 * g + 7)) + (nI 1)))) hF ?_
    intro h hR hF
    refine wp_vret d257_86 (by decide +kernel) ?_
    refine ⟨rfl, ?_, hF⟩
    unfold F_so
    rw [if_pos (Or.inl hc50)]
    exact hR
  · obtain ⟨dd, hdd, hde⟩ := (F_db_cases _ _ _ _).resolve_left hc50
    rw [hde] at hc50 ⊢
    refine wp_aload_n d257_53 rfl ?_
    refine wp_iload_n d257_54 rfl ?_
    refine wp_iload d257_55 rfl ?_
    refine wp_invvT (e := 128) (j2 := 258) (n := 2) d257_57 (by decide +kernel) (by decide +kernel) rfl rfl rfl (md_0 hR) (by decide +kernel) (Nat.le_of_ble_eq_true rfl) rfl rfl (Nat.le_of_ble_eq_true rfl) (by decide +kernel) (c_mayPass hR (g := g) (d := dd) (by omega) (by omega)) ?_
    refine wp_ifb_ne d257_60 (tgt := 87) (by decide) (fun hc60 => ?_) (fun hc60 => ?_)
    · refine wp_iconst d257_87 (v := nI 0) (by decide) ?_
      refine wp_istore d257_88 (Nat.le_of_ble_eq_true rfl) rfl ?_
      refine c_setsOff_l (σ := σ) hg _ 0 h rfl (by omega) hR hF ?_
      intro h hR hF v6
      refine wp_aload_n d257_137 rfl ?_
      refine wp_iload_n d257_138 rfl ?_
      refine wp_iconst d257_139 (v := nI 5) (by decide) ?_
      refine wp_aload_n d257_140 rfl ?_
      refine wp_iload_n d257_141 rfl ?_
      refine wp_iconst d257_142 (v := nI 5) (by decide) ?_
      refine wp_invvT (e := 81) (j2 := 227) (n := 2) d257_143 (by decide +kernel) (by decide +kernel) rfl rfl rfl (md_0 hR) (by decide +kernel) (Nat.le_of_ble_eq_true rfl) rfl rfl (Nat.le_of_ble_eq_true rfl) (by decide +kernel) (tells_eq (c_guardPart hR (r := g) (p := 5) (by omega) (by omega)) ((F_sh_lo (by omega)).trans hm)) ?_
      refine wp_iconst d257_146 (v := nI 1) (by decide) ?_
      refine wp_isubv d257_147 (v := nI (m - 1)) (nI_sub (by omega) (by omega)) ?_
      refine wp_invvD (e := 87) (j2 := 230) (n := 3) d257_148 (by decide +kernel) (by decide +kernel) rfl rfl rfl (md_0 hR) (by decide +kernel) (Nat.le_of_ble_eq_true rfl) rfl rfl (Nat.le_of_ble_eq_true rfl) (by decide +kernel) (c_setGuard hR (g := g) (p := 5) (by omega) (by omega) (nI (m - 1))) hF ?_
      intro h hR hF
      refine wp_aload_n d257_151 rfl ?_
      refine wp_getf (e := 7) (ci := 12) (k := 0) (nest := false) d257_152 (by decide +kernel) (md_0 hR) rfl ?_
      refine wp_sipush d257_155 (v := nI 1298) (by decide) ?_
      refine wp_iconst d257_158 (v := nI 4) (by decide) ?_
      refine wp_aload_n d257_159 rfl ?_
      refine wp_getf (e := 7) (ci := 12) (k := 0) (nest := false) d257_160 (by decide +kernel) (md_0 hR) rfl ?_
      refine wp_iconst d257_163 (v := nI 0) (by decide) ?_
      refine wp_iald d257_164 (md_1 hR) (nI_in (by omega) (by decide)) (v := nI mi) ((congrArg ((G_set (F_sh σ g 22) g 5 (nI (m - 1)))) (nI_nat (by omega))).trans ((upd_ne (by omega)).trans ((F_sh_lo (by omega)).trans hmi))) ?_
      refine wp_imulv d257_165 (v := nI (4 * mi)) (nI_mul _ _) ?_
      refine wp_iaddv d257_166 (v := nI (1298 + 4 * mi)) (nI_add _ _) ?_
      refine wp_iload_n d257_167 rfl ?_
      refine wp_iaddv d257_168 (v := nI (1298 + 4 * mi + g)) (nI_add _ _) ?_
      refine wp_sipush d257_169 (v := nI 1000) (by decide) ?_
      refine wp_iload_n d257_172 rfl ?_
      refine wp_imulv d257_173 (v := nI (1000 * r)) (nI_mul _ _) ?_
      refine wp_aload_n d257_174 rfl ?_
      refine wp_iload_n d257_175 rfl ?_
      refine wp_bipush d257_176 (v := nI 9) (by decide) ?_
      refine wp_invvT (e := 81) (j2 := 227) (n := 2) d257_178 (by decide +kernel) (by decide +kernel) rfl rfl rfl (md_0 hR) (by decide +kernel) (Nat.le_of_ble_eq_true rfl) rfl rfl (Nat.le_of_ble_eq_true rfl) (by decide +kernel) (tells_eq (c_guardPart hR (r := g) (p := 9) (by omega) (by omega)) ((upd_ne (by omega)).trans ((F_sh_lo (by omega)).trans hs))) ?_
      refine wp_iaddv d257_181 (v := nI (1000 * r + sn)) (nI_add _ _) ?_
      refine wp_iconst d257_182 (v := nI 1) (by decide) ?_
      refine wp_iaddv d257_183 (v := nI (1000 * r + sn + 1)) (nI_add _ _) ?_
      refine wp_stS d257_184 hR hF (k := 1298 + 4 * mi + g) (by omega) (fun h hR hF => ?_)
      refine wp_aload_n d257_185 rfl ?_
      refine wp_iload_n d257_186 rfl ?_
      refine wp_iconst d257_187 (v := nI 0) (by decide) ?_
      refine wp_bipush d257_188 (v := (-5 : Int32)) (by decide) ?_
      refine wp_invvD (e := 87) (j2 := 230) (n := 3) d257_190 (by decide +kernel) (by decide +kernel) rfl rfl rfl (md_0 hR) (by decide +kernel) (Nat.le_of_ble_eq_true rfl) rfl rfl (Nat.le_of_ble_eq_true rfl) (by decide +kernel) (c_setGuard hR (g := g) (p := 0) (by omega) (by omega) ((-5 : Int32))) hF ?_
      intro h hR hF
      refine wp_aload_n d257_193 rfl ?_
      refine wp_iload_n d257_194 rfl ?_
      refine wp_iconst d257_195 (v := nI 1) (by decide) ?_
      refine wp_iload_n d257_196 rfl ?_
      refine wp_invvD (e := 87) (j2 := 230) (n := 3) d257_197 (by decide +kernel) (by decide +kernel) rfl rfl rfl (md_0 hR) (by decide +kernel) (Nat.le_of_ble_eq_true rfl) rfl rfl (Nat.le_of_ble_eq_true rfl) (by decide +kernel) (c_setGuard hR (g := g) (p := 1) (by omega) (by omega) (σ (232 + 24 * g))) hF ?_
      intro h hR hF
      refine wp_aload_n d257_200 rfl ?_
      refine wp_iload_n d257_201 rfl ?_
      refine wp_iconst d257_202 (v := nI 2) (by decide) ?_
      refine wp_aload_n d257_203 rfl ?_
      refine wp_iload d257_204 rfl ?_
      refine wp_iconst d257_206 (v := nI 2) (by decide) ?_
      refine wp_invvT (e := 53) (j2 := 217) (n := 2) d257_207 (by decide +kernel) (by decide +kernel) rfl rfl rfl (md_0 hR) (by decide +kernel) (Nat.le_of_ble_eq_true rfl) rfl rfl (Nat.le_of_ble_eq_true rfl) (by decide +kernel) (tells_eq (c_doorPart hR (r := dd) (p := 2) (by omega) (by omega)) ((upd_ne (by omega)).trans ((upd_ne (by omega)).trans ((upd_ne (by omega)).trans ((upd_ne (by omega)).trans ((F_sh_lo (by omega)).trans rfl)))))) ?_
      refine wp_invvD (e := 87) (j2 := 230) (n := 3) d257_210 (by decide +kernel) (by decide +kernel) rfl rfl rfl (md_0 hR) (by decide +kernel) (Nat.le_of_ble_eq_true rfl) rfl rfl (Nat.le_of_ble_eq_true rfl) (by decide +kernel) (c_setGuard hR (g := g) (p := 2) (by omega) (by omega) (σ (92 + 5 * dd + 2))) hF ?_
      intro h hR hF
      refine wp_aload_n d257_213 rfl ?_
      refine wp_iload_n d257_214 rfl ?_
      refine wp_iconst d257_215 (v := nI 4) (by decide) ?_
      refine wp_iload d257_216 rfl ?_
      refine wp_invvD (e := 87) (j2 := 230) (n := 3) d257_218 (by decide +kernel) (by decide +kernel) rfl rfl rfl (md_0 hR) (by decide +kernel) (Nat.le_of_ble_eq_true rfl) rfl rfl (Nat.le_of_ble_eq_true rfl) (by decide +kernel) (c_setGuard hR (g := g) (p := 4) (by omega) (by omega) (σ (232 + 24 * g + 1))) hF ?_
      intro h hR hF
      refine wp_aload_n d257_221 rfl ?_
      refine wp_getf (e := 7) (ci := 12) (k := 0) (nest := false) d257_222 (by decide +kernel) (md_0 hR) rfl ?_
      refine wp_bipush d257_225 (v := nI 92) (by decide) ?_
      refine wp_iconst d257_227 (v := nI 5) (by decide) ?_
      refine wp_iload d257_228 rfl ?_
      refine wp_imulv d257_230 (v := nI (5 * dd)) (nI_mul _ _) ?_
      refine wp_iaddv d257_231 (v := nI (92 + 5 * dd)) (nI_add _ _) ?_
      refine wp_iconst d257_232 (v := nI 4) (by decide) ?_
      refine wp_iaddv d257_233 (v := nI (92 + 5 * dd + 4)) (nI_add _ _) ?_
      refine wp_dup2 d257_234 rfl rfl ?_
      refine wp_iald d257_235 (md_1 hR) (nI_in (by omega) (by decide)) (v := σ (92 + 5 * dd + 4)) ((congrArg ((G_set (G_set (G_set (G_set (upd (G_set (F_sh σ g 22) g 5 (nI (m - 1))) (1298 + 4 * mi + g) (nI (1000 * r + sn + 1))) g 0 ((-5 : Int32))) g 1 (σ (232 + 24 * g))) g 2 (σ (92 + 5 * dd + 2))) g 4 (σ (232 + 24 * g + 1)))) (nI_nat (by omega))).trans ((upd_ne (by omega)).trans ((upd_ne (by omega)).trans ((upd_ne (by omega)).trans ((upd_ne (by omega)).trans ((upd_ne (by omega)).trans ((upd_ne (by omega)).trans ((F_sh_lo (by omega)).trans rfl)))))))) ?_
      refine wp_iconst d257_236 (v := nI 1) (by decide) ?_
      refine wp_iadd d257_237 ?_
      refine wp_stS d257_238 hR hF (k := 92 + 5 * dd + 4) (by omega) (fun h hR hF => ?_)
      refine wp_vret d257_239 (by decide +kernel) ?_
      refine ⟨rfl, ?_, hF⟩
      unfold F_so
      rw [hde, if_neg (by rw [nI_nat (by omega)]; exact fun z => z.elim (fun z => hc50 z) (fun z => z hc60)), nI_nat (by omega)]
      exact hR
    · refine wp_aload_n d257_63 rfl ?_
      refine wp_iload_n d257_64 rfl ?_
      refine wp_iconst d257_65 (v := nI 5) (by decide) ?_
      refine wp_iconst d257_66 (v := nI 0) (by decide) ?_
      refine wp_invvD (e := 87) (j2 := 230) (n := 3) d257_67 (by decide +kernel) (by decide +kernel) rfl rfl rfl (md_0 hR) (by decide +kernel) (Nat.le_of_ble_eq_true rfl) rfl rfl (Nat.le_of_ble_eq_true rfl) (by decide +kernel) (c_setGuard hR (g := g) (p := 5) (by omega) (by omega) (nI 0)) hF ?_
      intro h hR hF
      refine wp_aload_n d257_70 rfl ?_
      refine wp_iload_n d257_71 rfl ?_
      refine wp_bipush d257_72 (v := nI 7) (by decide) ?_
      refine wp_aload_n d257_74 rfl ?_
      refine wp_iload_n d257_75 rfl ?_
      refine wp_bipush d257_76 (v := nI 7) (by decide) ?_
      refine wp_invvT (e := 81) (j2 := 227) (n := 2) d257_78 (by decide +kernel) (by decide +kernel) rfl rfl rfl (md_0 hR) (by decide +kernel) (Nat.le_of_ble_eq_true rfl) rfl rfl (Nat.le_of_ble_eq_true rfl) (by decide +kernel) (tells_eq (c_guardPart hR (r := g) (p := 7) (by omega) (by omega)) ((upd_ne (by omega)).trans rfl)) ?_
      refine wp_iconst d257_81 (v := nI 1) (by decide) ?_
      refine wp_iadd d257_82 ?_
      refine wp_invvD (e := 87) (j2 := 230) (n := 3) d257_83 (by decide +kernel) (by decide +kernel) rfl rfl rfl (md_0 hR) (by decide +kernel) (Nat.le_of_ble_eq_true rfl) rfl rfl (Nat.le_of_ble_eq_true rfl) (by decide +kernel) (c_setGuard hR (g := g) (p := 7) (by omega) (by omega) (((σ (192 + 10 * g + 7)) + (nI 1)))) hF ?_
      intro h hR hF
      refine wp_vret d257_86 (by decide +kernel) ?_
      refine ⟨rfl, ?_, hF⟩
      unfold F_so
      rw [hde, nI_nat (by omega), if_pos (Or.inr hc60)]
      exact hR
