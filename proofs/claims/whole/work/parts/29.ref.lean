/-! The reference: undo, keep, restore, texts, the next night. -/
theorem d263_0 : decode (m_code 263) 0 = .ok (.aload_n 0, 1) := by decide +kernel
theorem d263_1 : decode (m_code 263) 1 = .ok (.invokevirtual 159, 3) := by decide +kernel
theorem d263_4 : decode (m_code 263) 4 = .ok (.ifCond .le 6, 3) := by decide +kernel
theorem d263_7 : decode (m_code 263) 7 = .ok (.bipush (-4), 2) := by decide +kernel
theorem d263_9 : decode (m_code 263) 9 = .ok (.ireturn, 1) := by decide +kernel
theorem d263_10 : decode (m_code 263) 10 = .ok (.aload_n 0, 1) := by decide +kernel
theorem d263_11 : decode (m_code 263) 11 = .ok (.invokevirtual 50, 3) := by decide +kernel
theorem d263_14 : decode (m_code 263) 14 = .ok (.aload_n 0, 1) := by decide +kernel
theorem d263_15 : decode (m_code 263) 15 = .ok (.getfield 7, 3) := by decide +kernel
theorem d263_18 : decode (m_code 263) 18 = .ok (.iconst 0, 1) := by decide +kernel
theorem d263_19 : decode (m_code 263) 19 = .ok (.iconst 0, 1) := by decide +kernel
theorem d263_20 : decode (m_code 263) 20 = .ok (.iastore, 1) := by decide +kernel
theorem d263_21 : decode (m_code 263) 21 = .ok (.aload_n 0, 1) := by decide +kernel
theorem d263_22 : decode (m_code 263) 22 = .ok (.getfield 7, 3) := by decide +kernel
theorem d263_25 : decode (m_code 263) 25 = .ok (.iconst 5, 1) := by decide +kernel
theorem d263_26 : decode (m_code 263) 26 = .ok (.iconst 0, 1) := by decide +kernel
theorem d263_27 : decode (m_code 263) 27 = .ok (.iastore, 1) := by decide +kernel
theorem d263_28 : decode (m_code 263) 28 = .ok (.aload_n 0, 1) := by decide +kernel
theorem d263_29 : decode (m_code 263) 29 = .ok (.getfield 7, 3) := by decide +kernel
theorem d263_32 : decode (m_code 263) 32 = .ok (.bipush 6, 2) := by decide +kernel
theorem d263_34 : decode (m_code 263) 34 = .ok (.iconst 0, 1) := by decide +kernel
theorem d263_35 : decode (m_code 263) 35 = .ok (.iastore, 1) := by decide +kernel
theorem d263_36 : decode (m_code 263) 36 = .ok (.aload_n 0, 1) := by decide +kernel
theorem d263_37 : decode (m_code 263) 37 = .ok (.getfield 7, 3) := by decide +kernel
theorem d263_40 : decode (m_code 263) 40 = .ok (.bipush 7, 2) := by decide +kernel
theorem d263_42 : decode (m_code 263) 42 = .ok (.iconst 0, 1) := by decide +kernel
theorem d263_43 : decode (m_code 263) 43 = .ok (.iastore, 1) := by decide +kernel
theorem d263_44 : decode (m_code 263) 44 = .ok (.iconst 0, 1) := by decide +kernel
theorem d263_45 : decode (m_code 263) 45 = .ok (.istore_n 1, 1) := by decide +kernel
theorem d263_46 : decode (m_code 263) 46 = .ok (.iload_n 1, 1) := by decide +kernel
theorem d263_47 : decode (m_code 263) 47 = .ok (.bipush 6, 2) := by decide +kernel
theorem d263_49 : decode (m_code 263) 49 = .ok (.if_icmp .ge 19, 3) := by decide +kernel
theorem d263_52 : decode (m_code 263) 52 = .ok (.aload_n 0, 1) := by decide +kernel
theorem d263_53 : decode (m_code 263) 53 = .ok (.getfield 7, 3) := by decide +kernel
theorem d263_56 : decode (m_code 263) 56 = .ok (.bipush 8, 2) := by decide +kernel
theorem d263_58 : decode (m_code 263) 58 = .ok (.iload_n 1, 1) := by decide +kernel
theorem d263_59 : decode (m_code 263) 59 = .ok (.iadd, 1) := by decide +kernel
theorem d263_60 : decode (m_code 263) 60 = .ok (.iconst 0, 1) := by decide +kernel
theorem d263_61 : decode (m_code 263) 61 = .ok (.iastore, 1) := by decide +kernel
theorem d263_62 : decode (m_code 263) 62 = .ok (.iinc 1 1, 3) := by decide +kernel
theorem d263_65 : decode (m_code 263) 65 = .ok (.goto (-19), 3) := by decide +kernel
theorem d263_68 : decode (m_code 263) 68 = .ok (.iconst 0, 1) := by decide +kernel
theorem d263_69 : decode (m_code 263) 69 = .ok (.istore_n 1, 1) := by decide +kernel
theorem d263_70 : decode (m_code 263) 70 = .ok (.iload_n 1, 1) := by decide +kernel
theorem d263_71 : decode (m_code 263) 71 = .ok (.aload_n 0, 1) := by decide +kernel
theorem d263_72 : decode (m_code 263) 72 = .ok (.getfield 7, 3) := by decide +kernel
theorem d263_75 : decode (m_code 263) 75 = .ok (.iconst 2, 1) := by decide +kernel
theorem d263_76 : decode (m_code 263) 76 = .ok (.iaload, 1) := by decide +kernel
theorem d263_77 : decode (m_code 263) 77 = .ok (.if_icmp .ge 37, 3) := by decide +kernel
theorem d263_80 : decode (m_code 263) 80 = .ok (.iconst 2, 1) := by decide +kernel
theorem d263_81 : decode (m_code 263) 81 = .ok (.istore_n 2, 1) := by decide +kernel
theorem d263_82 : decode (m_code 263) 82 = .ok (.iload_n 2, 1) := by decide +kernel
theorem d263_83 : decode (m_code 263) 83 = .ok (.iconst 5, 1) := by decide +kernel
theorem d263_84 : decode (m_code 263) 84 = .ok (.if_icmp .gt 24, 3) := by decide +kernel
theorem d263_87 : decode (m_code 263) 87 = .ok (.aload_n 0, 1) := by decide +kernel
theorem d263_88 : decode (m_code 263) 88 = .ok (.getfield 7, 3) := by decide +kernel
theorem d263_91 : decode (m_code 263) 91 = .ok (.bipush 20, 2) := by decide +kernel
theorem d263_93 : decode (m_code 263) 93 = .ok (.bipush 6, 2) := by decide +kernel
theorem d263_95 : decode (m_code 263) 95 = .ok (.iload_n 1, 1) := by decide +kernel
theorem d263_96 : decode (m_code 263) 96 = .ok (.imul, 1) := by decide +kernel
theorem d263_97 : decode (m_code 263) 97 = .ok (.iadd, 1) := by decide +kernel
theorem d263_98 : decode (m_code 263) 98 = .ok (.iload_n 2, 1) := by decide +kernel
theorem d263_99 : decode (m_code 263) 99 = .ok (.iadd, 1) := by decide +kernel
theorem d263_100 : decode (m_code 263) 100 = .ok (.iconst 0, 1) := by decide +kernel
theorem d263_101 : decode (m_code 263) 101 = .ok (.iastore, 1) := by decide +kernel
theorem d263_102 : decode (m_code 263) 102 = .ok (.iinc 2 1, 3) := by decide +kernel
theorem d263_105 : decode (m_code 263) 105 = .ok (.goto (-23), 3) := by decide +kernel
theorem d263_108 : decode (m_code 263) 108 = .ok (.iinc 1 1, 3) := by decide +kernel
theorem d263_111 : decode (m_code 263) 111 = .ok (.goto (-41), 3) := by decide +kernel
theorem d263_114 : decode (m_code 263) 114 = .ok (.iconst 0, 1) := by decide +kernel
theorem d263_115 : decode (m_code 263) 115 = .ok (.istore_n 1, 1) := by decide +kernel
theorem d263_116 : decode (m_code 263) 116 = .ok (.iload_n 1, 1) := by decide +kernel
theorem d263_117 : decode (m_code 263) 117 = .ok (.aload_n 0, 1) := by decide +kernel
theorem d263_118 : decode (m_code 263) 118 = .ok (.getfield 7, 3) := by decide +kernel
theorem d263_121 : decode (m_code 263) 121 = .ok (.iconst 4, 1) := by decide +kernel
theorem d263_122 : decode (m_code 263) 122 = .ok (.iaload, 1) := by decide +kernel
theorem d263_123 : decode (m_code 263) 123 = .ok (.if_icmp .ge 38, 3) := by decide +kernel
theorem d263_126 : decode (m_code 263) 126 = .ok (.iconst 0, 1) := by decide +kernel
theorem d263_127 : decode (m_code 263) 127 = .ok (.istore_n 2, 1) := by decide +kernel
theorem d263_128 : decode (m_code 263) 128 = .ok (.iload_n 2, 1) := by decide +kernel
theorem d263_129 : decode (m_code 263) 129 = .ok (.bipush 10, 2) := by decide +kernel
theorem d263_131 : decode (m_code 263) 131 = .ok (.if_icmp .ge 16, 3) := by decide +kernel
theorem d263_134 : decode (m_code 263) 134 = .ok (.aload_n 0, 1) := by decide +kernel
theorem d263_135 : decode (m_code 263) 135 = .ok (.iload_n 1, 1) := by decide +kernel
theorem d263_136 : decode (m_code 263) 136 = .ok (.iload_n 2, 1) := by decide +kernel
theorem d263_137 : decode (m_code 263) 137 = .ok (.iconst 0, 1) := by decide +kernel
theorem d263_138 : decode (m_code 263) 138 = .ok (.invokevirtual 87, 3) := by decide +kernel
theorem d263_141 : decode (m_code 263) 141 = .ok (.iinc 2 1, 3) := by decide +kernel
theorem d263_144 : decode (m_code 263) 144 = .ok (.goto (-16), 3) := by decide +kernel
theorem d263_147 : decode (m_code 263) 147 = .ok (.aload_n 0, 1) := by decide +kernel
theorem d263_148 : decode (m_code 263) 148 = .ok (.iload_n 1, 1) := by decide +kernel
theorem d263_149 : decode (m_code 263) 149 = .ok (.iconst 1, 1) := by decide +kernel
theorem d263_150 : decode (m_code 263) 150 = .ok (.bipush (-5), 2) := by decide +kernel
theorem d263_152 : decode (m_code 263) 152 = .ok (.invokevirtual 87, 3) := by decide +kernel
theorem d263_155 : decode (m_code 263) 155 = .ok (.iinc 1 1, 3) := by decide +kernel
theorem d263_158 : decode (m_code 263) 158 = .ok (.goto (-42), 3) := by decide +kernel
theorem d263_161 : decode (m_code 263) 161 = .ok (.sipush 578, 3) := by decide +kernel
theorem d263_164 : decode (m_code 263) 164 = .ok (.istore_n 1, 1) := by decide +kernel
theorem d263_165 : decode (m_code 263) 165 = .ok (.iload_n 1, 1) := by decide +kernel
theorem d263_166 : decode (m_code 263) 166 = .ok (.sipush 4178, 3) := by decide +kernel
theorem d263_169 : decode (m_code 263) 169 = .ok (.if_icmp .ge 16, 3) := by decide +kernel
theorem d263_172 : decode (m_code 263) 172 = .ok (.aload_n 0, 1) := by decide +kernel
theorem d263_173 : decode (m_code 263) 173 = .ok (.getfield 7, 3) := by decide +kernel
theorem d263_176 : decode (m_code 263) 176 = .ok (.iload_n 1, 1) := by decide +kernel
theorem d263_177 : decode (m_code 263) 177 = .ok (.iconst 0, 1) := by decide +kernel
theorem d263_178 : decode (m_code 263) 178 = .ok (.iastore, 1) := by decide +kernel
theorem d263_179 : decode (m_code 263) 179 = .ok (.iinc 1 1, 3) := by decide +kernel
theorem d263_182 : decode (m_code 263) 182 = .ok (.goto (-17), 3) := by decide +kernel
theorem d263_185 : decode (m_code 263) 185 = .ok (.aload_n 0, 1) := by decide +kernel
theorem d263_186 : decode (m_code 263) 186 = .ok (.getfield 7, 3) := by decide +kernel
theorem d263_189 : decode (m_code 263) 189 = .ok (.iconst 1, 1) := by decide +kernel
theorem d263_190 : decode (m_code 263) 190 = .ok (.dup2, 1) := by decide +kernel
theorem d263_191 : decode (m_code 263) 191 = .ok (.iaload, 1) := by decide +kernel
theorem d263_192 : decode (m_code 263) 192 = .ok (.iconst 1, 1) := by decide +kernel
theorem d263_193 : decode (m_code 263) 193 = .ok (.iadd, 1) := by decide +kernel
theorem d263_194 : decode (m_code 263) 194 = .ok (.iastore, 1) := by decide +kernel
theorem d263_195 : decode (m_code 263) 195 = .ok (.aload_n 0, 1) := by decide +kernel
theorem d263_196 : decode (m_code 263) 196 = .ok (.getfield 7, 3) := by decide +kernel
theorem d263_199 : decode (m_code 263) 199 = .ok (.iconst 1, 1) := by decide +kernel
theorem d263_200 : decode (m_code 263) 200 = .ok (.iaload, 1) := by decide +kernel
theorem d263_201 : decode (m_code 263) 201 = .ok (.ireturn, 1) := by decide +kernel
theorem d265_0 : decode (m_code 265) 0 = .ok (.aload_n 0, 1) := by decide +kernel
theorem d265_1 : decode (m_code 265) 1 = .ok (.getfield 162, 3) := by decide +kernel
theorem d265_4 : decode (m_code 265) 4 = .ok (.bipush 60, 2) := by decide +kernel
theorem d265_6 : decode (m_code 265) 6 = .ok (.if_icmp .ne 6, 3) := by decide +kernel
theorem d265_9 : decode (m_code 265) 9 = .ok (.bipush (-3), 2) := by decide +kernel
theorem d265_11 : decode (m_code 265) 11 = .ok (.ireturn, 1) := by decide +kernel
theorem d265_12 : decode (m_code 265) 12 = .ok (.aload_n 0, 1) := by decide +kernel
theorem d265_13 : decode (m_code 265) 13 = .ok (.getfield 22, 3) := by decide +kernel
theorem d265_16 : decode (m_code 265) 16 = .ok (.aload_n 0, 1) := by decide +kernel
theorem d265_17 : decode (m_code 265) 17 = .ok (.getfield 162, 3) := by decide +kernel
theorem d265_20 : decode (m_code 265) 20 = .ok (.iload_n 1, 1) := by decide +kernel
theorem d265_21 : decode (m_code 265) 21 = .ok (.iastore, 1) := by decide +kernel
theorem d265_22 : decode (m_code 265) 22 = .ok (.aload_n 0, 1) := by decide +kernel
theorem d265_23 : decode (m_code 265) 23 = .ok (.dup, 1) := by decide +kernel
theorem d265_24 : decode (m_code 265) 24 = .ok (.getfield 162, 3) := by decide +kernel
theorem d265_27 : decode (m_code 265) 27 = .ok (.iconst 1, 1) := by decide +kernel
theorem d265_28 : decode (m_code 265) 28 = .ok (.iadd, 1) := by decide +kernel
theorem d265_29 : decode (m_code 265) 29 = .ok (.putfield 162, 3) := by decide +kernel
theorem d265_32 : decode (m_code 265) 32 = .ok (.aload_n 0, 1) := by decide +kernel
theorem d265_33 : decode (m_code 265) 33 = .ok (.getfield 162, 3) := by decide +kernel
theorem d265_36 : decode (m_code 265) 36 = .ok (.ireturn, 1) := by decide +kernel
theorem d266_0 : decode (m_code 266) 0 = .ok (.aload_n 0, 1) := by decide +kernel
theorem d266_1 : decode (m_code 266) 1 = .ok (.getfield 162, 3) := by decide +kernel
theorem d266_4 : decode (m_code 266) 4 = .ok (.istore_n 1, 1) := by decide +kernel
theorem d266_5 : decode (m_code 266) 5 = .ok (.aload_n 0, 1) := by decide +kernel
theorem d266_6 : decode (m_code 266) 6 = .ok (.iconst 0, 1) := by decide +kernel
theorem d266_7 : decode (m_code 266) 7 = .ok (.putfield 162, 3) := by decide +kernel
theorem d266_10 : decode (m_code 266) 10 = .ok (.iload_n 1, 1) := by decide +kernel
theorem d266_11 : decode (m_code 266) 11 = .ok (.ireturn, 1) := by decide +kernel
theorem d273_10 : decode (m_code 273) 10 = .ok (.aload_n 0, 1) := by decide +kernel
theorem d273_11 : decode (m_code 273) 11 = .ok (.dup, 1) := by decide +kernel
theorem d273_12 : decode (m_code 273) 12 = .ok (.getfield 31, 3) := by decide +kernel
theorem d273_15 : decode (m_code 273) 15 = .ok (.iconst 1, 1) := by decide +kernel
theorem d273_16 : decode (m_code 273) 16 = .ok (.isub, 1) := by decide +kernel
theorem d273_17 : decode (m_code 273) 17 = .ok (.putfield 31, 3) := by decide +kernel
theorem d273_20 : decode (m_code 273) 20 = .ok (.aload_n 0, 1) := by decide +kernel
theorem d273_21 : decode (m_code 273) 21 = .ok (.getfield 19, 3) := by decide +kernel
theorem d273_24 : decode (m_code 273) 24 = .ok (.aload_n 0, 1) := by decide +kernel
theorem d273_25 : decode (m_code 273) 25 = .ok (.getfield 31, 3) := by decide +kernel
theorem d273_28 : decode (m_code 273) 28 = .ok (.sipush 4178, 3) := by decide +kernel
theorem d273_31 : decode (m_code 273) 31 = .ok (.imul, 1) := by decide +kernel
theorem d273_32 : decode (m_code 273) 32 = .ok (.aload_n 0, 1) := by decide +kernel
theorem d273_33 : decode (m_code 273) 33 = .ok (.getfield 7, 3) := by decide +kernel
theorem d273_36 : decode (m_code 273) 36 = .ok (.iconst 0, 1) := by decide +kernel
theorem d273_37 : decode (m_code 273) 37 = .ok (.invokestatic 35, 3) := by decide +kernel
theorem d273_40 : decode (m_code 273) 40 = .ok (.aload_n 0, 1) := by decide +kernel
theorem d273_41 : decode (m_code 273) 41 = .ok (.getfield 31, 3) := by decide +kernel
theorem d273_44 : decode (m_code 273) 44 = .ok (.ireturn, 1) := by decide +kernel
theorem d274_0 : decode (m_code 274) 0 = .ok (.aload_n 0, 1) := by decide +kernel
theorem d274_1 : decode (m_code 274) 1 = .ok (.getfield 7, 3) := by decide +kernel
theorem d274_4 : decode (m_code 274) 4 = .ok (.iconst 0, 1) := by decide +kernel
theorem d274_5 : decode (m_code 274) 5 = .ok (.aload_n 0, 1) := by decide +kernel
theorem d274_6 : decode (m_code 274) 6 = .ok (.getfield 16, 3) := by decide +kernel
theorem d274_9 : decode (m_code 274) 9 = .ok (.iconst 0, 1) := by decide +kernel
theorem d274_10 : decode (m_code 274) 10 = .ok (.invokestatic 35, 3) := by decide +kernel
theorem d274_13 : decode (m_code 274) 13 = .ok (.aload_n 0, 1) := by decide +kernel
theorem d274_14 : decode (m_code 274) 14 = .ok (.iconst 1, 1) := by decide +kernel
theorem d274_15 : decode (m_code 274) 15 = .ok (.putfield 183, 3) := by decide +kernel
theorem d274_18 : decode (m_code 274) 18 = .ok (.aload_n 0, 1) := by decide +kernel
theorem d274_19 : decode (m_code 274) 19 = .ok (.getfield 7, 3) := by decide +kernel
theorem d274_22 : decode (m_code 274) 22 = .ok (.iconst 0, 1) := by decide +kernel
theorem d274_23 : decode (m_code 274) 23 = .ok (.iaload, 1) := by decide +kernel
theorem d274_24 : decode (m_code 274) 24 = .ok (.ireturn, 1) := by decide +kernel
theorem d275_0 : decode (m_code 275) 0 = .ok (.aload_n 0, 1) := by decide +kernel
theorem d275_1 : decode (m_code 275) 1 = .ok (.getfield 183, 3) := by decide +kernel
theorem d275_4 : decode (m_code 275) 4 = .ok (.ifCond .ne 6, 3) := by decide +kernel
theorem d275_7 : decode (m_code 275) 7 = .ok (.bipush (-5), 2) := by decide +kernel
theorem d275_9 : decode (m_code 275) 9 = .ok (.ireturn, 1) := by decide +kernel
theorem d275_10 : decode (m_code 275) 10 = .ok (.aload_n 0, 1) := by decide +kernel
theorem d275_11 : decode (m_code 275) 11 = .ok (.invokevirtual 50, 3) := by decide +kernel
theorem d275_14 : decode (m_code 275) 14 = .ok (.aload_n 0, 1) := by decide +kernel
theorem d275_15 : decode (m_code 275) 15 = .ok (.getfield 16, 3) := by decide +kernel
theorem d275_18 : decode (m_code 275) 18 = .ok (.iconst 0, 1) := by decide +kernel
theorem d275_19 : decode (m_code 275) 19 = .ok (.aload_n 0, 1) := by decide +kernel
theorem d275_20 : decode (m_code 275) 20 = .ok (.getfield 7, 3) := by decide +kernel
theorem d275_23 : decode (m_code 275) 23 = .ok (.iconst 0, 1) := by decide +kernel
theorem d275_24 : decode (m_code 275) 24 = .ok (.invokestatic 35, 3) := by decide +kernel
theorem d275_27 : decode (m_code 275) 27 = .ok (.aload_n 0, 1) := by decide +kernel
theorem d275_28 : decode (m_code 275) 28 = .ok (.getfield 7, 3) := by decide +kernel
theorem d275_31 : decode (m_code 275) 31 = .ok (.iconst 0, 1) := by decide +kernel
theorem d275_32 : decode (m_code 275) 32 = .ok (.iaload, 1) := by decide +kernel
theorem d275_33 : decode (m_code 275) 33 = .ok (.ireturn, 1) := by decide +kernel
theorem r_undo {X : mX} {h : mH} {R : Nat → Nat → Int32} {σ : Nat → Int32} (hR : Ms h R σ) {mi nR nD nG nW nA n : Nat} (hC : Cn σ mi nR nD nG nW nA) (hn : R 0 5 = nI n) (hn4 : n ≤ 4) (hz : 0 < n) : Does X 273 [.ref 313] h (updM R 0 5 (nI (n - 1))) (va_cpy (R 4) σ ((n - 1) * 4178) 0 4178) (some (.int (nI (n - 1)))) := by
  obtain ⟨⟨h0, hmi⟩, ⟨h2, hR1, hR12⟩, ⟨h3, hD⟩, ⟨h4, hG⟩, ⟨h5, hW⟩, ⟨h6, hA⟩⟩ := hC
  have hF : Frm h h 313 8 := Frm.rf
  refine wp_aload_n d273_0 rfl ?_
  refine wp_getf (e := 31) (ci := 12) (k := 5) (nest := false) (v := .int (nI n)) d273_1 (by decide +kernel) (md_0 hR) (by rw [← hn]; rfl) ?_
  refine wp_if_ne d273_4 (tgt := 10) (by decide) (fun _ => ?_) (fun hq9 => absurd hq9 (nI_ne0 hz (by omega)))
  refine wp_aload_n d273_10 rfl ?_
  refine wp_dup d273_11 rfl ?_
  refine wp_getf (e := 31) (ci := 12) (k := 5) (nest := false) (v := .int (nI n)) d273_12 (by decide +kernel) (md_0 hR) (by rw [← hn]; rfl) ?_
  refine wp_iconst d273_15 (v := nI 1) (by decide) ?_
  refine wp_isubv d273_16 (v := nI (n - 1)) (nI_sub (by omega) (by omega)) ?_
  refine wp_putf (e := 31) (ci := 12) (k := 5) (nest := false) d273_17 (by decide +kernel) (md_0 hR) (Nat.le_of_ble_eq_true rfl) rfl (Or.inl (by decide +kernel)) ?_
  have hF := hF.trans (Frm.set (o := 0) (cl := .inr (12, ([.ref 314, .ref 315, .ref 316, .int (R 0 3), .ref 317, .int (R 0 5), .ref 318, .int (R 0 7), .ref 319, .ref 320, .int (R 0 10)] : List Value).set 5 (.int (nI (n - 1))))) (by decide) : Frm _ _ 313 8)
  have hR := md_put0 (k := 5) (v := nI (n - 1)) hR (by decide)
  refine wp_aload_n d273_20 rfl ?_
  refine wp_getf (e := 19) (ci := 12) (k := 4) (nest := false) d273_21 (by decide +kernel) (md_0 hR) rfl ?_
  refine wp_aload_n d273_24 rfl ?_
  refine wp_getf (e := 31) (ci := 12) (k := 5) (nest := false) (v := .int (nI (n - 1))) d273_25 (by decide +kernel) (md_0 hR) rfl ?_
  refine wp_sipush d273_28 (v := nI 4178) (by decide) ?_
  refine wp_imulv d273_31 (v := nI ((n - 1) * 4178)) (nI_mul _ _) ?_
  refine wp_aload_n d273_32 rfl ?_
  refine wp_getf (e := 7) (ci := 12) (k := 0) (nest := false) d273_33 (by decide +kernel) (md_0 hR) rfl ?_
  refine wp_iconst d273_36 (v := nI 0) (by decide) ?_
  refine wp_invs (e := 35) (j2 := 213) (n := 4) d273_37 (by decide +kernel) (by decide +kernel) rfl rfl rfl (Nat.le_of_ble_eq_true rfl) (Nat.le_of_ble_eq_true rfl) rfl rfl (Nat.le_of_ble_eq_true rfl) (by decide +kernel) (c_copy (f := (n - 1) * 4178) (t := 0) (md_4 hR) (md_1 hR) (by decide) (by omega) (by omega) (by decide) (by decide)) ?_
  rintro _ _ ⟨rfl, rfl⟩
  have hF := hF.trans (Frm.set (o := 1) (cl := .inl (false, 4178, (va_cpy ((updM R 0 5 (nI (n - 1))) 4) σ ((n - 1) * 4178) (0) 4178))) (by decide) : Frm _ _ 313 8)
  have hR := md_putS (f := (va_cpy ((updM R 0 5 (nI (n - 1))) 4) σ ((n - 1) * 4178) (0) 4178)) hR
  refine wp_aload_n d273_40 rfl ?_
  refine wp_getf (e := 31) (ci := 12) (k := 5) (nest := false) (v := .int (nI (n - 1))) d273_41 (by decide +kernel) (md_0 hR) rfl ?_
  refine wp_iret d273_44 (by decide +kernel) ?_
  exact ⟨rfl, hR, hF⟩
theorem r_keep {X : mX} {h : mH} {R : Nat → Nat → Int32} {σ : Nat → Int32} (hR : Ms h R σ) {mi nR nD nG nW nA n : Nat} (hC : Cn σ mi nR nD nG nW nA) (hn : R 0 5 = nI n) (hn4 : n ≤ 4)  : Does X 274 [.ref 313] h (updM (stM R 3 (va_cpy σ (R 3) 0 0 4178)) 0 3 (nI 1)) (σ) (some (.int (nI mi))) := by
  obtain ⟨⟨h0, hmi⟩, ⟨h2, hR1, hR12⟩, ⟨h3, hD⟩, ⟨h4, hG⟩, ⟨h5, hW⟩, ⟨h6, hA⟩⟩ := hC
  have hF : Frm h h 313 8 := Frm.rf
  refine wp_aload_n d274_0 rfl ?_
  refine wp_getf (e := 7) (ci := 12) (k := 0) (nest := false) d274_1 (by decide +kernel) (md_0 hR) rfl ?_
  refine wp_iconst d274_4 (v := nI 0) (by decide) ?_
  refine wp_aload_n d274_5 rfl ?_
  refine wp_getf (e := 16) (ci := 12) (k := 2) (nest := false) d274_6 (by decide +kernel) (md_0 hR) rfl ?_
  refine wp_iconst d274_9 (v := nI 0) (by decide) ?_
  refine wp_invs (e := 35) (j2 := 213) (n := 4) d274_10 (by decide +kernel) (by decide +kernel) rfl rfl rfl (Nat.le_of_ble_eq_true rfl) (Nat.le_of_ble_eq_true rfl) rfl rfl (Nat.le_of_ble_eq_true rfl) (by decide +kernel) (c_copy (f := 0) (t := 0) (md_1 hR) (md_3 hR) (by decide) (by omega) (by omega) (by decide) (by decide)) ?_
  rintro _ _ ⟨rfl, rfl⟩
  have hF := hF.trans (Frm.set (o := 3) (cl := .inl (false, 4178, (va_cpy σ (R 3) (0) (0) 4178))) (by decide) : Frm _ _ 313 8)
  have hR := md_putA (o := 3) (n := 4178) (f := (va_cpy σ (R 3) (0) (0) 4178)) hR (by decide) rfl rfl
  refine wp_aload_n d274_13 rfl ?_
  refine wp_iconst d274_14 (v := nI 1) (by decide) ?_
  refine wp_putf (e := 183) (ci := 12) (k := 3) (nest := false) d274_15 (by decide +kernel) (md_0 hR) (Nat.le_of_ble_eq_true rfl) rfl (Or.inl (by decide +kernel)) ?_
  have hF := hF.trans (Frm.set (o := 0) (cl := .inr (12, ([.ref 314, .ref 315, .ref 316, .int ((stM R 3 (va_cpy σ (R 3) (0) (0) 4178)) 0 3), .ref 317, .int ((stM R 3 (va_cpy σ (R 3) (0) (0) 4178)) 0 5), .ref 318, .int ((stM R 3 (va_cpy σ (R 3) (0) (0) 4178)) 0 7), .ref 319, .ref 320, .int ((stM R 3 (va_cpy σ (R 3) (0) (0) 4178)) 0 10)] : List Value).set 3 (.int (nI 1)))) (by decide) : Frm _ _ 313 8)
  have hR := md_put0 (k := 3) (v := nI 1) hR (by decide)
  refine wp_aload_n d274_18 rfl ?_
  refine wp_getf (e := 7) (ci := 12) (k := 0) (nest := false) d274_19 (by decide +kernel) (md_0 hR) rfl ?_
  refine wp_iconst d274_22 (v := nI 0) (by decide) ?_
  refine wp_iald d274_23 (md_1 hR) (nI_in (by omega) (by decide)) (v := nI mi) ((congrArg σ (nI_nat (by omega))).trans h0) ?_
  refine wp_iret d274_24 (by decide +kernel) ?_
  exact ⟨rfl, hR, hF⟩
theorem r_restore_1 {X : mX} {h : mH} {R : Nat → Nat → Int32} {σ : Nat → Int32} (hR : Ms h R σ) {mi nR nD nG nW nA n : Nat} (hC : Cn σ mi nR nD nG nW nA) (hn : R 0 5 = nI n) (hn4 : n ≤ 4) (hz : R 0 3 = 0) : Tells X 275 [.ref 313] h (-5) := by
  obtain ⟨⟨h0, hmi⟩, ⟨h2, hR1, hR12⟩, ⟨h3, hD⟩, ⟨h4, hG⟩, ⟨h5, hW⟩, ⟨h6, hA⟩⟩ := hC
  refine wp_aload_n d275_0 rfl ?_
  refine wp_getf (e := 183) (ci := 12) (k := 3) (nest := false) d275_1 (by decide +kernel) (md_0 hR) rfl ?_
  refine wp_if_ne d275_4 (tgt := 10) (by decide) (fun hq9 => absurd hz hq9) (fun _ => ?_)
  refine wp_bipush d275_7 (v := (-5 : Int32)) (by decide) ?_
  refine wp_iret d275_9 (by decide +kernel) ?_
  exact ⟨rfl, rfl⟩
theorem F_rec_o (R : Nat → Nat → Int32) (σ : Nat → Int32) (n o : Nat) (h0 : o ≠ 0) (h4 : o ≠ 4) : F_rec R σ n o = R o := by
  unfold F_rec
  split <;> (unfold stM updM; rw [if_neg h4, if_neg h0])
theorem r_restore {X : mX} {h : mH} {R : Nat → Nat → Int32} {σ : Nat → Int32} (hR : Ms h R σ) {mi nR nD nG nW nA n : Nat} (hC : Cn σ mi nR nD nG nW nA) (hn : R 0 5 = nI n) (hn4 : n ≤ 4) (hz : ¬ R 0 3 = 0) : Does X 275 [.ref 313] h (F_rec R σ n) (va_cpy (R 3) σ 0 0 4178) (some (.int (R 3 0))) := by
  obtain ⟨⟨h0, hmi⟩, ⟨h2, hR1, hR12⟩, ⟨h3, hD⟩, ⟨h4, hG⟩, ⟨h5, hW⟩, ⟨h6, hA⟩⟩ := hC
  have hF : Frm h h 313 8 := Frm.rf
  refine wp_aload_n d275_0 rfl ?_
  refine wp_getf (e := 183) (ci := 12) (k := 3) (nest := false) d275_1 (by decide +kernel) (md_0 hR) rfl ?_
  refine wp_if_ne d275_4 (tgt := 10) (by decide) (fun _ => ?_) (fun hq9 => absurd hq9 hz)
  refine wp_aload_n d275_10 rfl ?_
  refine wp_invvD (e := 50) (j2 := 212) (n := 0) d275_11 (by decide +kernel) (by decide +kernel) rfl rfl rfl (md_0 hR) (by decide +kernel) (Nat.le_of_ble_eq_true rfl) rfl rfl (Nat.le_of_ble_eq_true rfl) (by decide +kernel) (c_record hR hn hn4) hF ?_
  intro h hR hF
  refine wp_aload_n d275_14 rfl ?_
  refine wp_getf (e := 16) (ci := 12) (k := 2) (nest := false) d275_15 (by decide +kernel) (md_0 hR) rfl ?_
  refine wp_iconst d275_18 (v := nI 0) (by decide) ?_
  refine wp_aload_n d275_19 rfl ?_
  refine wp_getf (e := 7) (ci := 12) (k := 0) (nest := false) d275_20 (by decide +kernel) (md_0 hR) rfl ?_
  refine wp_iconst d275_23 (v := nI 0) (by decide) ?_
  refine wp_invs (e := 35) (j2 := 213) (n := 4) d275_24 (by decide +kernel) (by decide +kernel) rfl rfl rfl (Nat.le_of_ble_eq_true rfl) (Nat.le_of_ble_eq_true rfl) rfl rfl (Nat.le_of_ble_eq_true rfl) (by decide +kernel) (c_copy (f := 0) (t := 0) (md_3 hR) (md_1 hR) (by decide) (by omega) (by omega) (by decide) (by decide)) ?_
  rintro _ _ ⟨rfl, rfl⟩
  have hF := hF.trans (Frm.set (o := 1) (cl := .inl (false, 4178, (va_cpy ((F_rec R σ n) 3) σ (0) (0) 4178))) (by decide) : Frm _ _ 313 8)
  have hR := md_putS (f := (va_cpy ((F_rec R σ n) 3) σ (0) (0) 4178)) hR
  refine wp_aload_n d275_27 rfl ?_
  refine wp_getf (e := 7) (ci := 12) (k := 0) (nest := false) d275_28 (by decide +kernel) (md_0 hR) rfl ?_
  refine wp_iconst d275_31 (v := nI 0) (by decide) ?_
  refine wp_iald d275_32 (md_1 hR) (nI_in (by omega) (by decide)) (v := ((va_cpy ((F_rec R σ n) 3) σ (0) (0) 4178)) 0) ((congrArg ((va_cpy ((F_rec R σ n) 3) σ (0) (0) 4178)) (nI_nat (by omega))).trans rfl) ?_
  refine wp_iret d275_33 (by decide +kernel) ?_
  refine ⟨?_, ?_, hF⟩
  · rw [F_rec_o R σ n 3 (by decide) (by decide)]; rfl
  · have e := F_rec_o R σ n 3 (by decide) (by decide)
    rw [← e]
    exact hR
theorem r_type_1 {X : mX} {h : mH} {R : Nat → Nat → Int32} {σ : Nat → Int32} (hR : Ms h R σ) {tl : Nat} (ht : R 0 7 = nI tl) (htl : tl ≤ 60) {x : Int32} (hf : tl = 60) : Tells X 265 [.ref 313, .int (x)] h (-3) := by
  refine wp_aload_n d265_0 rfl ?_
  refine wp_getf (e := 162) (ci := 12) (k := 7) (nest := false) (v := .int (nI tl)) d265_1 (by decide +kernel) (md_0 hR) (by rw [← ht]; rfl) ?_
  refine wp_bipush d265_4 (v := nI 60) (by decide) ?_
  refine wp_icmp_ne d265_6 (tgt := 12) (by decide) (fun hq9 => absurd (by rw [hf] : nI tl = nI 60) hq9) (fun _ => ?_)
  refine wp_bipush d265_9 (v := (-3 : Int32)) (by decide) ?_
  refine wp_iret d265_11 (by decide +kernel) ?_
  exact ⟨rfl, rfl⟩
theorem r_type {X : mX} {h : mH} {R : Nat → Nat → Int32} {σ : Nat → Int32} (hR : Ms h R σ) {tl : Nat} (ht : R 0 7 = nI tl) (htl : tl ≤ 60) {x : Int32} (hf : ¬ tl = 60) : Does X 265 [.ref 313, .int (x)] h (updM (stM R 5 (upd (R 5) tl x)) 0 7 (nI (tl + 1))) (σ) (some (.int (nI (tl + 1)))) := by
  have hF : Frm h h 313 8 := Frm.rf
  refine wp_aload_n d265_0 rfl ?_
  refine wp_getf (e := 162) (ci := 12) (k := 7) (nest := false) (v := .int (nI tl)) d265_1 (by decide +kernel) (md_0 hR) (by rw [← ht]; rfl) ?_
  refine wp_bipush d265_4 (v := nI 60) (by decide) ?_
  refine wp_icmp_ne d265_6 (tgt := 12) (by decide) (fun _ => ?_) (fun hq9 => absurd hq9 (fun q => hf ((nI_eq (by omega) (by omega)).mp q)))
  refine wp_aload_n d265_12 rfl ?_
  refine wp_getf (e := 22) (ci := 12) (k := 6) (nest := false) d265_13 (by decide +kernel) (md_0 hR) rfl ?_
  refine wp_aload_n d265_16 rfl ?_
  refine wp_getf (e := 162) (ci := 12) (k := 7) (nest := false) (v := .int (nI tl)) d265_17 (by decide +kernel) (md_0 hR) (by rw [← ht]; rfl) ?_
  refine wp_iload_n d265_20 rfl ?_
  refine wp_iast d265_21 (md_5 hR) (nI_in (by omega) (by decide)) ?_
  rw [nI_nat (by omega)]
  have hF := hF.trans (Frm.set (o := 5) (cl := .inl (false, 60, upd (R 5) (tl) (x))) (by decide) : Frm _ _ 313 8)
  have hR := md_putA (o := 5) (n := 60) (f := upd (R 5) (tl) (x)) hR (by decide) rfl rfl
  refine wp_aload_n d265_22 rfl ?_
  refine wp_dup d265_23 rfl ?_
  refine wp_getf (e := 162) (ci := 12) (k := 7) (nest := false) (v := .int (nI tl)) d265_24 (by decide +kernel) (md_0 hR) (by rw [← ht]; rfl) ?_
  refine wp_iconst d265_27 (v := nI 1) (by decide) ?_
  refine wp_iaddv d265_28 (v := nI (tl + 1)) (nI_add _ _) ?_
  refine wp_putf (e := 162) (ci := 12) (k := 7) (nest := false) d265_29 (by decide +kernel) (md_0 hR) (Nat.le_of_ble_eq_true rfl) rfl (Or.inl (by decide +kernel)) ?_
  have hF := hF.trans (Frm.set (o := 0) (cl := .inr (12, ([.ref 314, .ref 315, .ref 316, .int ((stM R 5 (upd (R 5) (tl) (x))) 0 3), .ref 317, .int ((stM R 5 (upd (R 5) (tl) (x))) 0 5), .ref 318, .int ((stM R 5 (upd (R 5) (tl) (x))) 0 7), .ref 319, .ref 320, .int ((stM R 5 (upd (R 5) (tl) (x))) 0 10)] : List Value).set 7 (.int (nI (tl + 1))))) (by decide) : Frm _ _ 313 8)
  have hR := md_put0 (k := 7) (v := nI (tl + 1)) hR (by decide)
  refine wp_aload_n d265_32 rfl ?_
  refine wp_getf (e := 162) (ci := 12) (k := 7) (nest := false) (v := .int (nI (tl + 1))) d265_33 (by decide +kernel) (md_0 hR) rfl ?_
  refine wp_iret d265_36 (by decide +kernel) ?_
  exact ⟨rfl, hR, hF⟩
theorem r_clearText {X : mX} {h : mH} {R : Nat → Nat → Int32} {σ : Nat → Int32} (hR : Ms h R σ) {tl : Nat} (ht : R 0 7 = nI tl) (htl : tl ≤ 60)  : Does X 266 [.ref 313] h (updM R 0 7 (nI 0)) (σ) (some (.int (nI tl))) := by
  have hF : Frm h h 313 8 := Frm.rf
  refine wp_aload_n d266_0 rfl ?_
  refine wp_getf (e := 162) (ci := 12) (k := 7) (nest := false) (v := .int (nI tl)) d266_1 (by decide +kernel) (md_0 hR) (by rw [← ht]; rfl) ?_
  refine wp_istore_n d266_4 (Nat.le_of_ble_eq_true rfl) rfl ?_
  refine wp_aload_n d266_5 rfl ?_
  refine wp_iconst d266_6 (v := nI 0) (by decide) ?_
  refine wp_putf (e := 162) (ci := 12) (k := 7) (nest := false) d266_7 (by decide +kernel) (md_0 hR) (Nat.le_of_ble_eq_true rfl) rfl (Or.inl (by decide +kernel)) ?_
  have hF := hF.trans (Frm.set (o := 0) (cl := .inr (12, ([.ref 314, .ref 315, .ref 316, .int (R 0 3), .ref 317, .int (R 0 5), .ref 318, .int (R 0 7), .ref 319, .ref 320, .int (R 0 10)] : List Value).set 7 (.int (nI 0)))) (by decide) : Frm _ _ 313 8)
  have hR := md_put0 (k := 7) (v := nI 0) hR (by decide)
  refine wp_iload_n d266_10 rfl ?_
  refine wp_iret d266_11 (by decide +kernel) ?_
  exact ⟨rfl, hR, hF⟩
def F_nr (σ : Nat → Int32) : Nat → (Nat → Int32)
  | 0 => σ
  | r + 1 => G_clr (F_nr σ r) (20 + 6 * r + 2) 4
def F_ng (σ : Nat → Int32) : Nat → (Nat → Int32)
  | 0 => σ
  | g + 1 => G_set (G_clr (F_ng σ g) (192 + 10 * g) 10) g 1 (-5)
theorem F_nr_ne {σ : Nat → Int32} {k i : Nat} (hk : k ≤ 12) (h : i < 20 ∨ 92 ≤ i) : F_nr σ k i = σ i := by
  induction k with
  | zero => rfl
  | succ k ih => rw [F_nr, G_clr_ne (by omega), ih (by omega)]
theorem F_ng_ne {σ : Nat → Int32} {k i : Nat} (hk : k ≤ 4) (h : i < 192 ∨ 232 ≤ i) : F_ng σ k i = σ i := by
  induction k with
  | zero => rfl
  | succ k ih =>
    simp only [F_ng, G_set]
    rw [upd_ne (by omega), G_clr_ne (by omega), ih (by omega)]
abbrev G_n0 (σ : Nat → Int32) : Nat → Int32 := upd (upd (upd (upd σ 0 (nI 0)) 5 (nI 0)) 6 (nI 0)) 7 (nI 0)
theorem night_1 {σ : Nat → Int32} {nR nG : Nat} (hR : nR ≤ 12) (hG : nG ≤ 4) : G_clr (F_ng (F_nr (G_clr (G_n0 σ) 8 6) nR) nG) 578 3600 1 = σ 1 := by
  rw [G_clr_ne (by omega), F_ng_ne (by omega) (by omega), F_nr_ne (by omega) (by omega), G_clr_ne (by omega)]
  unfold G_n0
  rw [upd_ne (by omega), upd_ne (by omega), upd_ne (by omega), upd_ne (by omega)]
def R_night (σ : Nat → Int32) (nR nG : Nat) : Nat → Int32 := upd (G_clr (F_ng (F_nr (G_clr (G_n0 σ) 8 6) nR) nG) 578 3600) 1 (σ 1 + nI 1)
theorem r_night_z {X : mX}  {h0 : mH} {R : Nat → Nat → Int32} {σ : Nat → Int32} {l2 : Option Value} {Q : Option Value → mH → Prop} : ∀ (d : Nat) (k : Nat) (h : mH), 6 - k = d → k ≤ 6 → Ms h R (G_clr σ (8) k) → Frm h0 h 313 8 → (∀ h1, Ms h1 R (G_clr σ (8) 6) → Frm h0 h1 313 8 → ∀ v, m_wp X 263 68 [some (.ref 313), some (.int v), l2] [] h1 Q) → m_wp X 263 46 [some (.ref 313), some (.int (nI k)), l2] [] h Q := by
  intro d
  induction d using Nat.strongRecOn with
  | ind d ih =>
    intro k h hd hk hR hF K
    refine wp_iload_n d263_46 rfl ?_
    refine wp_bipush d263_47 (v := nI 6) (by decide) ?_
    refine wp_icmp_ge d263_49 (tgt := 68) (by decide) (fun hc49 => ?_) (fun hc49 => ?_)
    · have hc49 : 6 ≤ k := (nI_leI (by omega) (by omega)).mp hc49
      rw [show k = 6 by omega] at hR
      exact K h hR hF _
    · have hc49 : ¬ (6 ≤ k) := fun z => hc49 ((nI_leI (by omega) (by omega)).mpr z)
      refine wp_aload_n d263_52 rfl ?_
      refine wp_getf (e := 7) (ci := 12) (k := 0) (nest := false) d263_53 (by decide +kernel) (md_0 hR) rfl ?_
      refine wp_bipush d263_56 (v := nI 8) (by decide) ?_
      refine wp_iload_n d263_58 rfl ?_
      refine wp_iaddv d263_59 (v := nI (8 + k)) (nI_add _ _) ?_
      refine wp_iconst d263_60 (v := nI 0) (by decide) ?_
      refine wp_stS d263_61 hR hF (k := 8 + k) (by omega) (fun h hR hF => ?_)
      refine wp_iinc d263_62 rfl (v := nI (k + 1)) (nI_add _ 1) (Nat.le_of_ble_eq_true rfl) rfl ?_
      refine wp_goto d263_65 (tgt := 46) (by decide) ?_
      exact ih (6 - (k + 1)) (by omega) (k + 1) h rfl (by omega) hR hF K
theorem r_night_p {X : mX}  {h0 : mH} {R : Nat → Nat → Int32} {σ : Nat → Int32} {r : Nat} (hr : r < 12) {Q : Option Value → mH → Prop} : ∀ (d : Nat) (k : Nat) (h : mH), 4 - k = d → k ≤ 4 → Ms h R (G_clr σ (20 + 6 * r + 2) k) → Frm h0 h 313 8 → (∀ h1, Ms h1 R (G_clr σ (20 + 6 * r + 2) 4) → Frm h0 h1 313 8 → ∀ v, m_wp X 263 108 [some (.ref 313), some (.int (nI r)), some (.int v)] [] h1 Q) → m_wp X 263 82 [some (.ref 313), some (.int (nI r)), some (.int (nI (2 + k)))] [] h Q := by
  intro d
  induction d using Nat.strongRecOn with
  | ind d ih =>
    intro k h hd hk hR hF K
    refine wp_iload_n d263_82 rfl ?_
    refine wp_iconst d263_83 (v := nI 5) (by decide) ?_
    refine wp_icmp_gt d263_84 (tgt := 108) (by decide) (fun hc84 => ?_) (fun hc84 => ?_)
    · have hc84 : 5 < 2 + k := (nI_ltI (by omega) (by omega)).mp hc84
      rw [show k = 4 by omega] at hR
      exact K h hR hF _
    · have hc84 : ¬ (5 < 2 + k) := fun z => hc84 ((nI_ltI (by omega) (by omega)).mpr z)
      refine wp_aload_n d263_87 rfl ?_
      refine wp_getf (e := 7) (ci := 12) (k := 0) (nest := false) d263_88 (by decide +kernel) (md_0 hR) rfl ?_
      refine wp_bipush d263_91 (v := nI 20) (by decide) ?_
      refine wp_bipush d263_93 (v := nI 6) (by decide) ?_
      refine wp_iload_n d263_95 rfl ?_
      refine wp_imulv d263_96 (v := nI (6 * r)) (nI_mul _ _) ?_
      refine wp_iaddv d263_97 (v := nI (20 + 6 * r)) (nI_add _ _) ?_
      refine wp_iload_n d263_98 rfl ?_
      refine wp_iaddv d263_99 (v := nI (20 + 6 * r + (2 + k))) (nI_add _ _) ?_
      refine wp_iconst d263_100 (v := nI 0) (by decide) ?_
      refine wp_stS d263_101 hR hF (k := 20 + 6 * r + (2 + k)) (by omega) (fun h hR hF => ?_)
      refine wp_iinc d263_102 rfl (v := nI (2 + k + 1)) (nI_add _ 1) (Nat.le_of_ble_eq_true rfl) rfl ?_
      refine wp_goto d263_105 (tgt := 82) (by decide) ?_
      exact ih (4 - (k + 1)) (by omega) (k + 1) h rfl (by omega) (by rw [show 20 + 6 * r + (2 + k) = 20 + 6 * r + 2 + k by omega] at hR; exact hR) hF K
theorem r_night_r {X : mX}  {h0 : mH} {R : Nat → Nat → Int32} {σ : Nat → Int32} {nR : Nat} (hr : nR ≤ 12) (h2 : σ 2 = nI nR) {Q : Option Value → mH → Prop} : ∀ (d : Nat) (k : Nat) (h : mH) (l2 : Option Value), nR - k = d → k ≤ nR → Ms h R (F_nr σ k) → Frm h0 h 313 8 → (∀ h1, Ms h1 R (F_nr σ nR) → Frm h0 h1 313 8 → ∀ v l2, m_wp X 263 114 [some (.ref 313), some (.int v), l2] [] h1 Q) → m_wp X 263 70 [some (.ref 313), some (.int (nI k)), l2] [] h Q := by
  intro d
  induction d using Nat.strongRecOn with
  | ind d ih =>
    intro k h l2 hd hk hR hF K
    refine wp_iload_n d263_70 rfl ?_
    refine wp_aload_n d263_71 rfl ?_
    refine wp_getf (e := 7) (ci := 12) (k := 0) (nest := false) d263_72 (by decide +kernel) (md_0 hR) rfl ?_
    refine wp_iconst d263_75 (v := nI 2) (by decide) ?_
    refine wp_iald d263_76 (md_1 hR) (nI_in (by omega) (by decide)) (v := nI nR) ((congrArg ((F_nr σ k)) (nI_nat (by omega))).trans ((F_nr_ne (by omega) (by omega)).trans h2)) ?_
    refine wp_icmp_ge d263_77 (tgt := 114) (by decide) (fun hc77 => ?_) (fun hc77 => ?_)
    · have hc77 : nR ≤ k := (nI_leI (by omega) (by omega)).mp hc77
      rw [show k = nR by omega] at hR
      exact K h hR hF _ _
    · have hc77 : ¬ (nR ≤ k) := fun z => hc77 ((nI_leI (by omega) (by omega)).mpr z)
      refine wp_iconst d263_80 (v := nI 2) (by decide) ?_
      refine wp_istore_n d263_81 (Nat.le_of_ble_eq_true rfl) rfl ?_
      refine r_night_p (σ := F_nr σ k) (r := k) (by omega) _ 0 h rfl (by omega) hR hF ?_
      intro h hR hF v2
      refine wp_iinc d263_108 rfl (v := nI (k + 1)) (nI_add _ 1) (Nat.le_of_ble_eq_true rfl) rfl ?_
      refine wp_goto d263_111 (tgt := 70) (by decide) ?_
      exact ih (nR - (k + 1)) (by omega) (k + 1) h _ rfl (by omega) hR hF K
theorem r_night_q {X : mX}  {h0 : mH} {R : Nat → Nat → Int32} {σ : Nat → Int32} {g : Nat} (hg : g < 4) {Q : Option Value → mH → Prop} : ∀ (d : Nat) (k : Nat) (h : mH), 10 - k = d → k ≤ 10 → Ms h R (G_clr σ (192 + 10 * g) k) → Frm h0 h 313 8 → (∀ h1, Ms h1 R (G_clr σ (192 + 10 * g) 10) → Frm h0 h1 313 8 → ∀ v, m_wp X 263 147 [some (.ref 313), some (.int (nI g)), some (.int v)] [] h1 Q) → m_wp X 263 128 [some (.ref 313), some (.int (nI g)), some (.int (nI k))] [] h Q := by
  intro d
  induction d using Nat.strongRecOn with
  | ind d ih =>
    intro k h hd hk hR hF K
    refine wp_iload_n d263_128 rfl ?_
    refine wp_bipush d263_129 (v := nI 10) (by decide) ?_
    refine wp_icmp_ge d263_131 (tgt := 147) (by decide) (fun hc131 => ?_) (fun hc131 => ?_)
    · have hc131 : 10 ≤ k := (nI_leI (by omega) (by omega)).mp hc131
      rw [show k = 10 by omega] at hR
      exact K h hR hF _
    · have hc131 : ¬ (10 ≤ k) := fun z => hc131 ((nI_leI (by omega) (by omega)).mpr z)
      refine wp_aload_n d263_134 rfl ?_
      refine wp_iload_n d263_135 rfl ?_
      refine wp_iload_n d263_136 rfl ?_
      refine wp_iconst d263_137 (v := nI 0) (by decide) ?_
      refine wp_invvD (e := 87) (j2 := 230) (n := 3) d263_138 (by decide +kernel) (by decide +kernel) rfl rfl rfl (md_0 hR) (by decide +kernel) (Nat.le_of_ble_eq_true rfl) rfl rfl (Nat.le_of_ble_eq_true rfl) (by decide +kernel) (c_setGuard hR (g := g) (p := k) (by omega) (by omega) (nI 0)) hF ?_
      intro h hR hF
      refine wp_iinc d263_141 rfl (v := nI (k + 1)) (nI_add _ 1) (Nat.le_of_ble_eq_true rfl) rfl ?_
      refine wp_goto d263_144 (tgt := 128) (by decide) ?_
      exact ih (10 - (k + 1)) (by omega) (k + 1) h rfl (by omega) hR hF K
theorem r_night_g {X : mX}  {h0 : mH} {R : Nat → Nat → Int32} {σ : Nat → Int32} {nG : Nat} (hG : nG ≤ 4) (h4 : σ 4 = nI nG) {Q : Option Value → mH → Prop} : ∀ (d : Nat) (k : Nat) (h : mH) (l2 : Option Value), nG - k = d → k ≤ nG → Ms h R (F_ng σ k) → Frm h0 h 313 8 → (∀ h1, Ms h1 R (F_ng σ nG) → Frm h0 h1 313 8 → ∀ v l2, m_wp X 263 161 [some (.ref 313), some (.int v), l2] [] h1 Q) → m_wp X 263 116 [some (.ref 313), some (.int (nI k)), l2] [] h Q := by
  intro d
  induction d using Nat.strongRecOn with
  | ind d ih =>
    intro k h l2 hd hk hR hF K
    refine wp_iload_n d263_116 rfl ?_
    refine wp_aload_n d263_117 rfl ?_
    refine wp_getf (e := 7) (ci := 12) (k := 0) (nest := false) d263_118 (by decide +kernel) (md_0 hR) rfl ?_
    refine wp_iconst d263_121 (v := nI 4) (by decide) ?_
    refine wp_iald d263_122 (md_1 hR) (nI_in (by omega) (by decide)) (v := nI nG) ((congrArg ((F_ng σ k)) (nI_nat (by omega))).trans ((F_ng_ne (by omega) (by omega)).trans h4)) ?_
    refine wp_icmp_ge d263_123 (tgt := 161) (by decide) (fun hc123 => ?_) (fun hc123 => ?_)
    · have hc123 : nG ≤ k := (nI_leI (by omega) (by omega)).mp hc123
      rw [show k = nG by omega] at hR
      exact K h hR hF _ _
    · have hc123 : ¬ (nG ≤ k) := fun z => hc123 ((nI_leI (by omega) (by omega)).mpr z)
      refine wp_iconst d263_126 (v := nI 0) (by decide) ?_
      refine wp_istore_n d263_127 (Nat.le_of_ble_eq_true rfl) rfl ?_
      refine r_night_q (σ := F_ng σ k) (g := k) (by omega) _ 0 h rfl (by omega) hR hF ?_
      intro h hR hF v2
      refine wp_aload_n d263_147 rfl ?_
      refine wp_iload_n d263_148 rfl ?_
      refine wp_iconst d263_149 (v := nI 1) (by decide) ?_
      refine wp_bipush d263_150 (v := (-5 : Int32)) (by decide) ?_
      refine wp_invvD (e := 87) (j2 := 230) (n := 3) d263_152 (by decide +kernel) (by decide +kernel) rfl rfl rfl (md_0 hR) (by decide +kernel) (Nat.le_of_ble_eq_true rfl) rfl rfl (Nat.le_of_ble_eq_true rfl) (by decide +kernel) (c_setGuard hR (g := k) (p := 1) (by omega) (by omega) ((-5 : Int32))) hF ?_
      intro h hR hF
      refine wp_iinc d263_155 rfl (v := nI (k + 1)) (nI_add _ 1) (Nat.le_of_ble_eq_true rfl) rfl ?_
      refine wp_goto d263_158 (tgt := 116) (by decide) ?_
      exact ih (nG - (k + 1)) (by omega) (k + 1) h _ rfl (by omega) hR hF K
theorem r_night_t {X : mX}  {h0 : mH} {R : Nat → Nat → Int32} {σ : Nat → Int32} {l2 : Option Value} {Q : Option Value → mH → Prop} : ∀ (d : Nat) (k : Nat) (h : mH), 3600 - k = d → k ≤ 3600 → Ms h R (G_clr σ 578 k) → Frm h0 h 313 8 → (∀ h1, Ms h1 R (G_clr σ 578 3600) → Frm h0 h1 313 8 → ∀ v, m_wp X 263 185 [some (.ref 313), some (.int v), l2] [] h1 Q) → m_wp X 263 165 [some (.ref 313), some (.int (nI (578 + k))), l2] [] h Q := by
  intro d
  induction d using Nat.strongRecOn with
  | ind d ih =>
    intro k h hd hk hR hF K
    refine wp_iload_n d263_165 rfl ?_
    refine wp_sipush d263_166 (v := nI 4178) (by decide) ?_
    refine wp_icmp_ge d263_169 (tgt := 185) (by decide) (fun hc169 => ?_) (fun hc169 => ?_)
    · have hc169 : 4178 ≤ 578 + k := (nI_leI (by omega) (by omega)).mp hc169
      rw [show k = 3600 by omega] at hR
      exact K h hR hF _
    · have hc169 : ¬ (4178 ≤ 578 + k) := fun z => hc169 ((nI_leI (by omega) (by omega)).mpr z)
      refine wp_aload_n d263_172 rfl ?_
      refine wp_getf (e := 7) (ci := 12) (k := 0) (nest := false) d263_173 (by decide +kernel) (md_0 hR) rfl ?_
      refine wp_iload_n d263_176 rfl ?_
      refine wp_iconst d263_177 (v := nI 0) (by decide) ?_
      refine wp_stS d263_178 hR hF (k := 578 + k) (by omega) (fun h hR hF => ?_)
      refine wp_iinc d263_179 rfl (v := nI (578 + k + 1)) (nI_add _ 1) (Nat.le_of_ble_eq_true rfl) rfl ?_
      refine wp_goto d263_182 (tgt := 165) (by decide) ?_
      exact ih (3600 - (k + 1)) (by omega) (k + 1) h rfl (by omega) hR hF K
theorem r_night_1 {X : mX} {h : mH} {R : Nat → Nat → Int32} {σ : Nat → Int32} (hR : Ms h R σ) {mi nR nD nG nW nA n : Nat} (hC : Cn σ mi nR nD nG nW nA) (hn : R 0 5 = nI n) (hn4 : n ≤ 4) (hk : 0 < F_ko σ nG) : Tells X 263 [.ref 313] h (-4) := by
  obtain ⟨⟨h0, hmi⟩, ⟨h2, hR1, hR12⟩, ⟨h3, hD⟩, ⟨h4, hG⟩, ⟨h5, hW⟩, ⟨h6, hA⟩⟩ := hC
  refine wp_aload_n d263_0 rfl ?_
  refine wp_invvT (e := 159) (j2 := 264) (n := 0) d263_1 (by decide +kernel) (by decide +kernel) rfl rfl rfl (md_0 hR) (by decide +kernel) (Nat.le_of_ble_eq_true rfl) rfl rfl (Nat.le_of_ble_eq_true rfl) (by decide +kernel) (c_keysOut hR h4 hG) ?_
  refine wp_if_le d263_4 (tgt := 10) (by decide) (fun hq9 => absurd hq9 (fun z => absurd (Int32.not_le.mpr hk) (fun y => y z))) (fun _ => ?_)
  refine wp_bipush d263_7 (v := (-4 : Int32)) (by decide) ?_
  refine wp_iret d263_9 (by decide +kernel) ?_
  exact ⟨rfl, rfl⟩
theorem r_night {X : mX} {h : mH} {R : Nat → Nat → Int32} {σ : Nat → Int32} (hR : Ms h R σ) {mi nR nD nG nW nA n : Nat} (hC : Cn σ mi nR nD nG nW nA) (hn : R 0 5 = nI n) (hn4 : n ≤ 4) (hk : ¬ 0 < F_ko σ nG) : Does X 263 [.ref 313] h (F_rec R σ n) (R_night σ nR nG) (some (.int (σ 1 + nI 1))) := by
  obtain ⟨⟨h0, hmi⟩, ⟨h2, hR1, hR12⟩, ⟨h3, hD⟩, ⟨h4, hG⟩, ⟨h5, hW⟩, ⟨h6, hA⟩⟩ := hC
  have hF : Frm h h 313 8 := Frm.rf
  refine wp_aload_n d263_0 rfl ?_
  refine wp_invvT (e := 159) (j2 := 264) (n := 0) d263_1 (by decide +kernel) (by decide +kernel) rfl rfl rfl (md_0 hR) (by decide +kernel) (Nat.le_of_ble_eq_true rfl) rfl rfl (Nat.le_of_ble_eq_true rfl) (by decide +kernel) (c_keysOut hR h4 hG) ?_
  refine wp_if_le d263_4 (tgt := 10) (by decide) (fun _ => ?_) (fun hq9 => absurd (Int32.not_lt.mp hk) hq9)
  refine wp_aload_n d263_10 rfl ?_
  refine wp_invvD (e := 50) (j2 := 212) (n := 0) d263_11 (by decide +kernel) (by decide +kernel) rfl rfl rfl (md_0 hR) (by decide +kernel) (Nat.le_of_ble_eq_true rfl) rfl rfl (Nat.le_of_ble_eq_true rfl) (by decide +kernel) (c_record hR hn hn4) hF ?_
  intro h hR hF
  refine wp_aload_n d263_14 rfl ?_
  refine wp_getf (e := 7) (ci := 12) (k := 0) (nest := false) d263_15 (by decide +kernel) (md_0 hR) rfl ?_
  refine wp_iconst d263_18 (v := nI 0) (by decide) ?_
  refine wp_iconst d263_19 (v := nI 0) (by decide) ?_
  refine wp_stS d263_20 hR hF (k := 0) (by omega) (fun h hR hF => ?_)
  refine wp_aload_n d263_21 rfl ?_
  refine wp_getf (e := 7) (ci := 12) (k := 0) (nest := false) d263_22 (by decide +kernel) (md_0 hR) rfl ?_
  refine wp_iconst d263_25 (v := nI 5) (by decide) ?_
  refine wp_iconst d263_26 (v := nI 0) (by decide) ?_
  refine wp_stS d263_27 hR hF (k := 5) (by omega) (fun h hR hF => ?_)
  refine wp_aload_n d263_28 rfl ?_
  refine wp_getf (e := 7) (ci := 12) (k := 0) (nest := false) d263_29 (by decide +kernel) (md_0 hR) rfl ?_
  refine wp_bipush d263_32 (v := nI 6) (by decide) ?_
  refine wp_iconst d263_34 (v := nI 0) (by decide) ?_
  refine wp_stS d263_35 hR hF (k := 6) (by omega) (fun h hR hF => ?_)
  refine wp_aload_n d263_36 rfl ?_
  refine wp_getf (e := 7) (ci := 12) (k := 0) (nest := false) d263_37 (by decide +kernel) (md_0 hR) rfl ?_
  refine wp_bipush d263_40 (v := nI 7) (by decide) ?_
  refine wp_iconst d263_42 (v := nI 0) (by decide) ?_
  refine wp_stS d263_43 hR hF (k := 7) (by omega) (fun h hR hF => ?_)
  refine wp_iconst d263_44 (v := nI 0) (by decide) ?_
  refine wp_istore_n d263_45 (Nat.le_of_ble_eq_true rfl) rfl ?_
  refine r_night_z (σ := G_n0 σ) _ 0 h rfl (by omega) hR hF ?_
  intro h hR hF v1
  refine wp_iconst d263_68 (v := nI 0) (by decide) ?_
  refine wp_istore_n d263_69 (Nat.le_of_ble_eq_true rfl) rfl ?_
  refine r_night_r (σ := G_clr (G_n0 σ) 8 6) hR12 (by rw [G_clr_ne (by omega)]; unfold G_n0; rw [upd_ne (by omega), upd_ne (by omega), upd_ne (by omega), upd_ne (by omega)]; exact h2) _ 0 h _ rfl (by omega) hR hF ?_
  intro h hR hF v1 l2
  refine wp_iconst d263_114 (v := nI 0) (by decide) ?_
  refine wp_istore_n d263_115 (Nat.le_of_ble_eq_true rfl) rfl ?_
  refine r_night_g (σ := F_nr (G_clr (G_n0 σ) 8 6) nR) hG (by rw [F_nr_ne (by omega) (by omega), G_clr_ne (by omega)]; unfold G_n0; rw [upd_ne (by omega), upd_ne (by omega), upd_ne (by omega), upd_ne (by omega)]; exact h4) _ 0 h _ rfl (by omega) hR hF ?_
  intro h hR hF v1 l2
  refine wp_sipush d263_161 (v := nI 578) (by decide) ?_
  refine wp_istore_n d263_164 (Nat.le_of_ble_eq_true rfl) rfl ?_
  refine r_night_t (σ := F_ng (F_nr (G_clr (G_n0 σ) 8 6) nR) nG) _ 0 h rfl (by omega) hR hF ?_
  intro h hR hF v1
  refine wp_aload_n d263_185 rfl ?_
  refine wp_getf (e := 7) (ci := 12) (k := 0) (nest := false) d263_186 (by decide +kernel) (md_0 hR) rfl ?_
  refine wp_iconst d263_189 (v := nI 1) (by decide) ?_
  refine wp_dup2 d263_190 rfl rfl ?_
  refine wp_iald d263_191 (md_1 hR) (nI_in (by omega) (by decide)) (v := σ 1) ((congrArg ((G_clr (F_ng (F_nr (G_clr (G_n0 σ) 8 6) nR) nG) 578 3600)) (nI_nat (by omega))).trans ((night_1 hR12 hG).trans rfl)) ?_
  refine wp_iconst d263_192 (v := nI 1) (by decide) ?_
  refine wp_iadd d263_193 ?_
  refine wp_stS d263_194 hR hF (k := 1) (by omega) (fun h hR hF => ?_)
  refine wp_aload_n d263_195 rfl ?_
  refine wp_getf (e := 7) (ci := 12) (k := 0) (nest := false) d263_196 (by decide +kernel) (md_0 hR) rfl ?_
  refine wp_iconst d263_199 (v := nI 1) (by decide) ?_
  refine wp_iald d263_200 (md_1 hR) (nI_in (by omega) (by decide)) (v := ((σ 1) + (nI 1))) ((congrArg ((upd (G_clr (F_ng (F_nr (G_clr (G_n0 σ) 8 6) nR) nG) 578 3600) (1) (((σ 1) + (nI 1))))) (nI_nat (by omega))).trans upd_eq) ?_
  refine wp_iret d263_201 (by decide +kernel) ?_
  exact ⟨rfl, hR, hF⟩
