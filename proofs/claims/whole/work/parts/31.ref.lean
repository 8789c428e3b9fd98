/-! The reference tells of rooms, zones and counts. -/
theorem d276_0 : decode (m_code 276) 0 = .ok (.aload_n 0, 1) := by decide +kernel
theorem d276_1 : decode (m_code 276) 1 = .ok (.iload_n 1, 1) := by decide +kernel
theorem d276_2 : decode (m_code 276) 2 = .ok (.invokevirtual 57, 3) := by decide +kernel
theorem d276_5 : decode (m_code 276) 5 = .ok (.ifCond .ne 5, 3) := by decide +kernel
theorem d276_8 : decode (m_code 276) 8 = .ok (.iconst (-1), 1) := by decide +kernel
theorem d276_9 : decode (m_code 276) 9 = .ok (.ireturn, 1) := by decide +kernel
theorem d276_10 : decode (m_code 276) 10 = .ok (.iconst 0, 1) := by decide +kernel
theorem d276_11 : decode (m_code 276) 11 = .ok (.istore_n 3, 1) := by decide +kernel
theorem d276_12 : decode (m_code 276) 12 = .ok (.iconst 0, 1) := by decide +kernel
theorem d276_13 : decode (m_code 276) 13 = .ok (.istore 4, 2) := by decide +kernel
theorem d276_62 : decode (m_code 276) 62 = .ok (.iconst 0, 1) := by decide +kernel
theorem d276_63 : decode (m_code 276) 63 = .ok (.istore 4, 2) := by decide +kernel
theorem d276_65 : decode (m_code 276) 65 = .ok (.iconst 0, 1) := by decide +kernel
theorem d276_66 : decode (m_code 276) 66 = .ok (.istore 5, 2) := by decide +kernel
theorem d276_119 : decode (m_code 276) 119 = .ok (.iload_n 2, 1) := by decide +kernel
theorem d276_120 : decode (m_code 276) 120 = .ok (.tableswitch 70 0 8 #[52, 52, 52, 52, 52, 52, 59, 65, 67], 52) := by decide +kernel
theorem d276_172 : decode (m_code 276) 172 = .ok (.aload_n 0, 1) := by decide +kernel
theorem d276_173 : decode (m_code 276) 173 = .ok (.iload_n 1, 1) := by decide +kernel
theorem d276_174 : decode (m_code 276) 174 = .ok (.iload_n 2, 1) := by decide +kernel
theorem d276_175 : decode (m_code 276) 175 = .ok (.invokevirtual 63, 3) := by decide +kernel
theorem d276_178 : decode (m_code 276) 178 = .ok (.ireturn, 1) := by decide +kernel
theorem d276_179 : decode (m_code 276) 179 = .ok (.aload_n 0, 1) := by decide +kernel
theorem d276_180 : decode (m_code 276) 180 = .ok (.iload_n 1, 1) := by decide +kernel
theorem d276_181 : decode (m_code 276) 181 = .ok (.invokevirtual 119, 3) := by decide +kernel
theorem d276_184 : decode (m_code 276) 184 = .ok (.ireturn, 1) := by decide +kernel
theorem d276_185 : decode (m_code 276) 185 = .ok (.iload_n 3, 1) := by decide +kernel
theorem d276_186 : decode (m_code 276) 186 = .ok (.ireturn, 1) := by decide +kernel
theorem d276_187 : decode (m_code 276) 187 = .ok (.iload 4, 2) := by decide +kernel
theorem d276_189 : decode (m_code 276) 189 = .ok (.ireturn, 1) := by decide +kernel
theorem d276_190 : decode (m_code 276) 190 = .ok (.bipush (-2), 2) := by decide +kernel
theorem d276_192 : decode (m_code 276) 192 = .ok (.ireturn, 1) := by decide +kernel
theorem d279_0 : decode (m_code 279) 0 = .ok (.iload_n 1, 1) := by decide +kernel
theorem d279_1 : decode (m_code 279) 1 = .ok (.invokestatic 43, 3) := by decide +kernel
theorem d279_4 : decode (m_code 279) 4 = .ok (.ifCond .ne 5, 3) := by decide +kernel
theorem d279_7 : decode (m_code 279) 7 = .ok (.iconst (-1), 1) := by decide +kernel
theorem d279_8 : decode (m_code 279) 8 = .ok (.ireturn, 1) := by decide +kernel
theorem d279_9 : decode (m_code 279) 9 = .ok (.iconst 0, 1) := by decide +kernel
theorem d279_10 : decode (m_code 279) 10 = .ok (.istore_n 3, 1) := by decide +kernel
theorem d279_11 : decode (m_code 279) 11 = .ok (.iconst 0, 1) := by decide +kernel
theorem d279_12 : decode (m_code 279) 12 = .ok (.istore 4, 2) := by decide +kernel
theorem d279_14 : decode (m_code 279) 14 = .ok (.iconst 0, 1) := by decide +kernel
theorem d279_15 : decode (m_code 279) 15 = .ok (.istore 5, 2) := by decide +kernel
theorem d279_85 : decode (m_code 279) 85 = .ok (.iload_n 2, 1) := by decide +kernel
theorem d279_86 : decode (m_code 279) 86 = .ok (.tableswitch 85 0 4 #[34, 44, 54, 56, 59], 34) := by decide +kernel
theorem d279_120 : decode (m_code 279) 120 = .ok (.aload_n 0, 1) := by decide +kernel
theorem d279_121 : decode (m_code 279) 121 = .ok (.getfield 7, 3) := by decide +kernel
theorem d279_124 : decode (m_code 279) 124 = .ok (.bipush 8, 2) := by decide +kernel
theorem d279_126 : decode (m_code 279) 126 = .ok (.iload_n 1, 1) := by decide +kernel
theorem d279_127 : decode (m_code 279) 127 = .ok (.iadd, 1) := by decide +kernel
theorem d279_128 : decode (m_code 279) 128 = .ok (.iaload, 1) := by decide +kernel
theorem d279_129 : decode (m_code 279) 129 = .ok (.ireturn, 1) := by decide +kernel
theorem d279_130 : decode (m_code 279) 130 = .ok (.aload_n 0, 1) := by decide +kernel
theorem d279_131 : decode (m_code 279) 131 = .ok (.getfield 7, 3) := by decide +kernel
theorem d279_134 : decode (m_code 279) 134 = .ok (.bipush 14, 2) := by decide +kernel
theorem d279_136 : decode (m_code 279) 136 = .ok (.iload_n 1, 1) := by decide +kernel
theorem d279_137 : decode (m_code 279) 137 = .ok (.iadd, 1) := by decide +kernel
theorem d279_138 : decode (m_code 279) 138 = .ok (.iaload, 1) := by decide +kernel
theorem d279_139 : decode (m_code 279) 139 = .ok (.ireturn, 1) := by decide +kernel
theorem d279_140 : decode (m_code 279) 140 = .ok (.iload_n 3, 1) := by decide +kernel
theorem d279_141 : decode (m_code 279) 141 = .ok (.ireturn, 1) := by decide +kernel
theorem d279_142 : decode (m_code 279) 142 = .ok (.iload 4, 2) := by decide +kernel
theorem d279_144 : decode (m_code 279) 144 = .ok (.ireturn, 1) := by decide +kernel
theorem d279_145 : decode (m_code 279) 145 = .ok (.aload_n 0, 1) := by decide +kernel
theorem d279_146 : decode (m_code 279) 146 = .ok (.getfield 7, 3) := by decide +kernel
theorem d279_149 : decode (m_code 279) 149 = .ok (.bipush 8, 2) := by decide +kernel
theorem d279_151 : decode (m_code 279) 151 = .ok (.iload_n 1, 1) := by decide +kernel
theorem d279_152 : decode (m_code 279) 152 = .ok (.iadd, 1) := by decide +kernel
theorem d279_153 : decode (m_code 279) 153 = .ok (.iaload, 1) := by decide +kernel
theorem d279_154 : decode (m_code 279) 154 = .ok (.ifCond .ne 15, 3) := by decide +kernel
theorem d279_157 : decode (m_code 279) 157 = .ok (.aload_n 0, 1) := by decide +kernel
theorem d279_158 : decode (m_code 279) 158 = .ok (.iload_n 1, 1) := by decide +kernel
theorem d279_159 : decode (m_code 279) 159 = .ok (.invokevirtual 74, 3) := by decide +kernel
theorem d279_162 : decode (m_code 279) 162 = .ok (.ifCond .ne 7, 3) := by decide +kernel
theorem d279_165 : decode (m_code 279) 165 = .ok (.iconst 1, 1) := by decide +kernel
theorem d279_166 : decode (m_code 279) 166 = .ok (.goto 4, 3) := by decide +kernel
theorem d279_169 : decode (m_code 279) 169 = .ok (.iconst 0, 1) := by decide +kernel
theorem d279_170 : decode (m_code 279) 170 = .ok (.ireturn, 1) := by decide +kernel
theorem d279_171 : decode (m_code 279) 171 = .ok (.bipush (-2), 2) := by decide +kernel
theorem d279_173 : decode (m_code 279) 173 = .ok (.ireturn, 1) := by decide +kernel
theorem d290_0 : decode (m_code 290) 0 = .ok (.iconst 0, 1) := by decide +kernel
theorem d290_1 : decode (m_code 290) 1 = .ok (.istore_n 2, 1) := by decide +kernel
theorem d290_2 : decode (m_code 290) 2 = .ok (.iconst 0, 1) := by decide +kernel
theorem d290_3 : decode (m_code 290) 3 = .ok (.istore_n 3, 1) := by decide +kernel
theorem d290_38 : decode (m_code 290) 38 = .ok (.iconst 0, 1) := by decide +kernel
theorem d290_39 : decode (m_code 290) 39 = .ok (.istore_n 3, 1) := by decide +kernel
theorem d290_40 : decode (m_code 290) 40 = .ok (.iconst 0, 1) := by decide +kernel
theorem d290_41 : decode (m_code 290) 41 = .ok (.istore 4, 2) := by decide +kernel
theorem d290_81 : decode (m_code 290) 81 = .ok (.iconst 0, 1) := by decide +kernel
theorem d290_82 : decode (m_code 290) 82 = .ok (.istore 4, 2) := by decide +kernel
theorem d290_84 : decode (m_code 290) 84 = .ok (.iconst 0, 1) := by decide +kernel
theorem d290_85 : decode (m_code 290) 85 = .ok (.istore 5, 2) := by decide +kernel
theorem d290_117 : decode (m_code 290) 117 = .ok (.iload_n 1, 1) := by decide +kernel
theorem d290_118 : decode (m_code 290) 118 = .ok (.tableswitch 135 0 15 #[78, 78, 78, 78, 78, 78, 87, 89, 97, 99, 107, 112, 117, 122, 125, 130], 78) := by decide +kernel
theorem d290_196 : decode (m_code 290) 196 = .ok (.aload_n 0, 1) := by decide +kernel
theorem d290_197 : decode (m_code 290) 197 = .ok (.getfield 7, 3) := by decide +kernel
theorem d290_200 : decode (m_code 290) 200 = .ok (.iconst 0, 1) := by decide +kernel
theorem d290_201 : decode (m_code 290) 201 = .ok (.iload_n 1, 1) := by decide +kernel
theorem d290_202 : decode (m_code 290) 202 = .ok (.iadd, 1) := by decide +kernel
theorem d290_203 : decode (m_code 290) 203 = .ok (.iaload, 1) := by decide +kernel
theorem d290_204 : decode (m_code 290) 204 = .ok (.ireturn, 1) := by decide +kernel
theorem d290_205 : decode (m_code 290) 205 = .ok (.iload_n 2, 1) := by decide +kernel
theorem d290_206 : decode (m_code 290) 206 = .ok (.ireturn, 1) := by decide +kernel
theorem d290_207 : decode (m_code 290) 207 = .ok (.aload_n 0, 1) := by decide +kernel
theorem d290_208 : decode (m_code 290) 208 = .ok (.getfield 7, 3) := by decide +kernel
theorem d290_211 : decode (m_code 290) 211 = .ok (.bipush 6, 2) := by decide +kernel
theorem d290_213 : decode (m_code 290) 213 = .ok (.iaload, 1) := by decide +kernel
theorem d290_214 : decode (m_code 290) 214 = .ok (.ireturn, 1) := by decide +kernel
theorem d290_215 : decode (m_code 290) 215 = .ok (.iload_n 3, 1) := by decide +kernel
theorem d290_216 : decode (m_code 290) 216 = .ok (.ireturn, 1) := by decide +kernel
theorem d290_217 : decode (m_code 290) 217 = .ok (.aload_n 0, 1) := by decide +kernel
theorem d290_218 : decode (m_code 290) 218 = .ok (.getfield 7, 3) := by decide +kernel
theorem d290_221 : decode (m_code 290) 221 = .ok (.bipush 7, 2) := by decide +kernel
theorem d290_223 : decode (m_code 290) 223 = .ok (.iaload, 1) := by decide +kernel
theorem d290_224 : decode (m_code 290) 224 = .ok (.ireturn, 1) := by decide +kernel
theorem d290_225 : decode (m_code 290) 225 = .ok (.aload_n 0, 1) := by decide +kernel
theorem d290_226 : decode (m_code 290) 226 = .ok (.invokevirtual 77, 3) := by decide +kernel
theorem d290_229 : decode (m_code 290) 229 = .ok (.ireturn, 1) := by decide +kernel
theorem d290_230 : decode (m_code 290) 230 = .ok (.aload_n 0, 1) := by decide +kernel
theorem d290_231 : decode (m_code 290) 231 = .ok (.invokevirtual 159, 3) := by decide +kernel
theorem d290_234 : decode (m_code 290) 234 = .ok (.ireturn, 1) := by decide +kernel
theorem d290_235 : decode (m_code 290) 235 = .ok (.aload_n 0, 1) := by decide +kernel
theorem d290_236 : decode (m_code 290) 236 = .ok (.invokevirtual 189, 3) := by decide +kernel
theorem d290_239 : decode (m_code 290) 239 = .ok (.ireturn, 1) := by decide +kernel
theorem d290_240 : decode (m_code 290) 240 = .ok (.iload 4, 2) := by decide +kernel
theorem d290_242 : decode (m_code 290) 242 = .ok (.ireturn, 1) := by decide +kernel
theorem d290_243 : decode (m_code 290) 243 = .ok (.aload_n 0, 1) := by decide +kernel
theorem d290_244 : decode (m_code 290) 244 = .ok (.getfield 31, 3) := by decide +kernel
theorem d290_247 : decode (m_code 290) 247 = .ok (.ireturn, 1) := by decide +kernel
theorem d290_248 : decode (m_code 290) 248 = .ok (.aload_n 0, 1) := by decide +kernel
theorem d290_249 : decode (m_code 290) 249 = .ok (.getfield 162, 3) := by decide +kernel
theorem d290_252 : decode (m_code 290) 252 = .ok (.ireturn, 1) := by decide +kernel
theorem d290_253 : decode (m_code 290) 253 = .ok (.bipush (-2), 2) := by decide +kernel
theorem d290_255 : decode (m_code 290) 255 = .ok (.ireturn, 1) := by decide +kernel
theorem d291_0 : decode (m_code 291) 0 = .ok (.iconst 0, 1) := by decide +kernel
theorem d291_1 : decode (m_code 291) 1 = .ok (.istore_n 1, 1) := by decide +kernel
theorem d291_2 : decode (m_code 291) 2 = .ok (.iconst 0, 1) := by decide +kernel
theorem d291_3 : decode (m_code 291) 3 = .ok (.istore_n 2, 1) := by decide +kernel
theorem d291_43 : decode (m_code 291) 43 = .ok (.iload_n 1, 1) := by decide +kernel
theorem d291_44 : decode (m_code 291) 44 = .ok (.ireturn, 1) := by decide +kernel
theorem r_room_1 {X : mX} {h : mH} {R : Nat → Nat → Int32} {σ : Nat → Int32} (hR : Ms h R σ) {mi nR nD nG nW nA n : Nat} (hC : Cn σ mi nR nD nG nW nA) (hn : R 0 5 = nI n) (hn4 : n ≤ 4) {x v : Int32} (hx : ¬ (nI 0 ≤ x ∧ x < nI nR)) : Tells X 276 [.ref 313, .int (x), .int (v)] h (-1) := by
  obtain ⟨⟨h0, hmi⟩, ⟨h2, hR1, hR12⟩, ⟨h3, hD⟩, ⟨h4, hG⟩, ⟨h5, hW⟩, ⟨h6, hA⟩⟩ := hC
  refine wp_aload_n d276_0 rfl ?_
  refine wp_iload_n d276_1 rfl ?_
  refine wp_invvT (e := 57) (j2 := 215) (n := 1) d276_2 (by decide +kernel) (by decide +kernel) rfl rfl rfl (md_0 hR) (by decide +kernel) (Nat.le_of_ble_eq_true rfl) rfl rfl (Nat.le_of_ble_eq_true rfl) (by decide +kernel) (c_isRoom hR (n := nR) h2 (by omega) (x)) ?_
  refine wp_ifb_ne d276_5 (tgt := 10) (by decide) (fun hq9 => absurd hq9 hx) (fun _ => ?_)
  refine wp_iconst d276_8 (v := (-1 : Int32)) (by decide) ?_
  refine wp_iret d276_9 (by decide +kernel) ?_
  exact ⟨rfl, rfl⟩
theorem r_room_2 {X : mX} {h : mH} {R : Nat → Nat → Int32} {σ : Nat → Int32} (hR : Ms h R σ) {mi nR nD nG nW nA n : Nat} (hC : Cn σ mi nR nD nG nW nA) (hn : R 0 5 = nI n) (hn4 : n ≤ 4) {r : Nat} (hr : r < nR) {v : Int32} (hx : v.toInt < 0 ∨ 8 < v.toInt) : Tells X 276 [.ref 313, .int (nI r), .int (v)] h (-2) := by
  obtain ⟨⟨h0, hmi⟩, ⟨h2, hR1, hR12⟩, ⟨h3, hD⟩, ⟨h4, hG⟩, ⟨h5, hW⟩, ⟨h6, hA⟩⟩ := hC
  refine wp_aload_n d276_0 rfl ?_
  refine wp_iload_n d276_1 rfl ?_
  refine wp_invvT (e := 57) (j2 := 215) (n := 1) d276_2 (by decide +kernel) (by decide +kernel) rfl rfl rfl (md_0 hR) (by decide +kernel) (Nat.le_of_ble_eq_true rfl) rfl rfl (Nat.le_of_ble_eq_true rfl) (by decide +kernel) (c_isRoom hR (n := nR) h2 (by omega) (nI r)) ?_
  refine wp_ifb_ne d276_5 (tgt := 10) (by decide) (fun _ => ?_) (fun hq9 => absurd (⟨nI_le (by omega) (by omega), nI_lt (by omega) (by omega)⟩ : nI 0 ≤ nI r ∧ nI r < nI nR) hq9)
  refine wp_iconst d276_10 (v := nI 0) (by decide) ?_
  refine wp_istore_n d276_11 (Nat.le_of_ble_eq_true rfl) rfl ?_
  refine wp_iconst d276_12 (v := nI 0) (by decide) ?_
  refine wp_istore d276_13 (Nat.le_of_ble_eq_true rfl) rfl ?_
  refine r_room_l1 hR h5 hW _ 0 0 rfl (Nat.zero_le _) rfl ?_
  intro v9 a ha
  refine wp_iconst d276_62 (v := nI 0) (by decide) ?_
  refine wp_istore d276_63 (Nat.le_of_ble_eq_true rfl) rfl ?_
  refine wp_iconst d276_65 (v := nI 0) (by decide) ?_
  refine wp_istore d276_66 (Nat.le_of_ble_eq_true rfl) rfl ?_
  refine r_room_l2 hR h6 hA _ 0 0 rfl (Nat.zero_le _) rfl ?_
  intro v8 b2 hb
  refine wp_iload_n d276_119 rfl ?_
  refine wp_tswOut d276_120 hx (tgt := 190) (by decide) ?_
  refine wp_bipush d276_190 (v := (-2 : Int32)) (by decide) ?_
  refine wp_iret d276_192 (by decide +kernel) ?_
  exact ⟨rfl, rfl⟩
theorem r_room_v0 {X : mX} {h : mH} {R : Nat → Nat → Int32} {σ : Nat → Int32} (hR : Ms h R σ) {mi nR nD nG nW nA n : Nat} (hC : Cn σ mi nR nD nG nW nA) (hn : R 0 5 = nI n) (hn4 : n ≤ 4) {r : Nat} (hr : r < nR) : Tells X 276 [.ref 313, .int (nI r), .int (nI 0)] h (σ (20 + 6 * r + 0)) := by
  obtain ⟨⟨h0, hmi⟩, ⟨h2, hR1, hR12⟩, ⟨h3, hD⟩, ⟨h4, hG⟩, ⟨h5, hW⟩, ⟨h6, hA⟩⟩ := hC
  refine wp_aload_n d276_0 rfl ?_
  refine wp_iload_n d276_1 rfl ?_
  refine wp_invvT (e := 57) (j2 := 215) (n := 1) d276_2 (by decide +kernel) (by decide +kernel) rfl rfl rfl (md_0 hR) (by decide +kernel) (Nat.le_of_ble_eq_true rfl) rfl rfl (Nat.le_of_ble_eq_true rfl) (by decide +kernel) (c_isRoom hR (n := nR) h2 (by omega) (nI r)) ?_
  refine wp_ifb_ne d276_5 (tgt := 10) (by decide) (fun _ => ?_) (fun hq9 => absurd (⟨nI_le (by omega) (by omega), nI_lt (by omega) (by omega)⟩ : nI 0 ≤ nI r ∧ nI r < nI nR) hq9)
  refine wp_iconst d276_10 (v := nI 0) (by decide) ?_
  refine wp_istore_n d276_11 (Nat.le_of_ble_eq_true rfl) rfl ?_
  refine wp_iconst d276_12 (v := nI 0) (by decide) ?_
  refine wp_istore d276_13 (Nat.le_of_ble_eq_true rfl) rfl ?_
  refine r_room_l1 hR h5 hW _ 0 0 rfl (Nat.zero_le _) rfl ?_
  intro v9 a ha
  refine wp_iconst d276_62 (v := nI 0) (by decide) ?_
  refine wp_istore d276_63 (Nat.le_of_ble_eq_true rfl) rfl ?_
  refine wp_iconst d276_65 (v := nI 0) (by decide) ?_
  refine wp_istore d276_66 (Nat.le_of_ble_eq_true rfl) rfl ?_
  refine r_room_l2 hR h6 hA _ 0 0 rfl (Nat.zero_le _) rfl ?_
  intro v8 b2 hb
  refine wp_iload_n d276_119 rfl ?_
  refine wp_tswIn d276_120 (by decide) (by decide) (off := 52) (by decide) (tgt := 172) (by decide) ?_
  refine wp_aload_n d276_172 rfl ?_
  refine wp_iload_n d276_173 rfl ?_
  refine wp_iload_n d276_174 rfl ?_
  refine wp_invvT (e := 63) (j2 := 219) (n := 2) d276_175 (by decide +kernel) (by decide +kernel) rfl rfl rfl (md_0 hR) (by decide +kernel) (Nat.le_of_ble_eq_true rfl) rfl rfl (Nat.le_of_ble_eq_true rfl) (by decide +kernel) (c_roomPart hR (r := r) (p := 0) (by omega) (by omega)) ?_
  refine wp_iret d276_178 (by decide +kernel) ?_
  exact ⟨rfl, rfl⟩
theorem r_room_v1 {X : mX} {h : mH} {R : Nat → Nat → Int32} {σ : Nat → Int32} (hR : Ms h R σ) {mi nR nD nG nW nA n : Nat} (hC : Cn σ mi nR nD nG nW nA) (hn : R 0 5 = nI n) (hn4 : n ≤ 4) {r : Nat} (hr : r < nR) : Tells X 276 [.ref 313, .int (nI r), .int (nI 1)] h (σ (20 + 6 * r + 1)) := by
  obtain ⟨⟨h0, hmi⟩, ⟨h2, hR1, hR12⟩, ⟨h3, hD⟩, ⟨h4, hG⟩, ⟨h5, hW⟩, ⟨h6, hA⟩⟩ := hC
  refine wp_aload_n d276_0 rfl ?_
  refine wp_iload_n d276_1 rfl ?_
  refine wp_invvT (e := 57) (j2 := 215) (n := 1) d276_2 (by decide +kernel) (by decide +kernel) rfl rfl rfl (md_0 hR) (by decide +kernel) (Nat.le_of_ble_eq_true rfl) rfl rfl (Nat.le_of_ble_eq_true rfl) (by decide +kernel) (c_isRoom hR (n := nR) h2 (by omega) (nI r)) ?_
  refine wp_ifb_ne d276_5 (tgt := 10) (by decide) (fun _ => ?_) (fun hq9 => absurd (⟨nI_le (by omega) (by omega), nI_lt (by omega) (by omega)⟩ : nI 0 ≤ nI r ∧ nI r < nI nR) hq9)
  refine wp_iconst d276_10 (v := nI 0) (by decide) ?_
  refine wp_istore_n d276_11 (Nat.le_of_ble_eq_true rfl) rfl ?_
  refine wp_iconst d276_12 (v := nI 0) (by decide) ?_
  refine wp_istore d276_13 (Nat.le_of_ble_eq_true rfl) rfl ?_
  refine r_room_l1 hR h5 hW _ 0 0 rfl (Nat.zero_le _) rfl ?_
  intro v9 a ha
  refine wp_iconst d276_62 (v := nI 0) (by decide) ?_
  refine wp_istore d276_63 (Nat.le_of_ble_eq_true rfl) rfl ?_
  refine wp_iconst d276_65 (v := nI 0) (by decide) ?_
  refine wp_istore d276_66 (Nat.le_of_ble_eq_true rfl) rfl ?_
  refine r_room_l2 hR h6 hA _ 0 0 rfl (Nat.zero_le _) rfl ?_
  intro v8 b2 hb
  refine wp_iload_n d276_119 rfl ?_
  refine wp_tswIn d276_120 (by decide) (by decide) (off := 52) (by decide) (tgt := 172) (by decide) ?_
  refine wp_aload_n d276_172 rfl ?_
  refine wp_iload_n d276_173 rfl ?_
  refine wp_iload_n d276_174 rfl ?_
  refine wp_invvT (e := 63) (j2 := 219) (n := 2) d276_175 (by decide +kernel) (by decide +kernel) rfl rfl rfl (md_0 hR) (by decide +kernel) (Nat.le_of_ble_eq_true rfl) rfl rfl (Nat.le_of_ble_eq_true rfl) (by decide +kernel) (c_roomPart hR (r := r) (p := 1) (by omega) (by omega)) ?_
  refine wp_iret d276_178 (by decide +kernel) ?_
  exact ⟨rfl, rfl⟩
theorem r_room_v2 {X : mX} {h : mH} {R : Nat → Nat → Int32} {σ : Nat → Int32} (hR : Ms h R σ) {mi nR nD nG nW nA n : Nat} (hC : Cn σ mi nR nD nG nW nA) (hn : R 0 5 = nI n) (hn4 : n ≤ 4) {r : Nat} (hr : r < nR) : Tells X 276 [.ref 313, .int (nI r), .int (nI 2)] h (σ (20 + 6 * r + 2)) := by
  obtain ⟨⟨h0, hmi⟩, ⟨h2, hR1, hR12⟩, ⟨h3, hD⟩, ⟨h4, hG⟩, ⟨h5, hW⟩, ⟨h6, hA⟩⟩ := hC
  refine wp_aload_n d276_0 rfl ?_
  refine wp_iload_n d276_1 rfl ?_
  refine wp_invvT (e := 57) (j2 := 215) (n := 1) d276_2 (by decide +kernel) (by decide +kernel) rfl rfl rfl (md_0 hR) (by decide +kernel) (Nat.le_of_ble_eq_true rfl) rfl rfl (Nat.le_of_ble_eq_true rfl) (by decide +kernel) (c_isRoom hR (n := nR) h2 (by omega) (nI r)) ?_
  refine wp_ifb_ne d276_5 (tgt := 10) (by decide) (fun _ => ?_) (fun hq9 => absurd (⟨nI_le (by omega) (by omega), nI_lt (by omega) (by omega)⟩ : nI 0 ≤ nI r ∧ nI r < nI nR) hq9)
  refine wp_iconst d276_10 (v := nI 0) (by decide) ?_
  refine wp_istore_n d276_11 (Nat.le_of_ble_eq_true rfl) rfl ?_
  refine wp_iconst d276_12 (v := nI 0) (by decide) ?_
  refine wp_istore d276_13 (Nat.le_of_ble_eq_true rfl) rfl ?_
  refine r_room_l1 hR h5 hW _ 0 0 rfl (Nat.zero_le _) rfl ?_
  intro v9 a ha
  refine wp_iconst d276_62 (v := nI 0) (by decide) ?_
  refine wp_istore d276_63 (Nat.le_of_ble_eq_true rfl) rfl ?_
  refine wp_iconst d276_65 (v := nI 0) (by decide) ?_
  refine wp_istore d276_66 (Nat.le_of_ble_eq_true rfl) rfl ?_
  refine r_room_l2 hR h6 hA _ 0 0 rfl (Nat.zero_le _) rfl ?_
  intro v8 b2 hb
  refine wp_iload_n d276_119 rfl ?_
  refine wp_tswIn d276_120 (by decide) (by decide) (off := 52) (by decide) (tgt := 172) (by decide) ?_
  refine wp_aload_n d276_172 rfl ?_
  refine wp_iload_n d276_173 rfl ?_
  refine wp_iload_n d276_174 rfl ?_
  refine wp_invvT (e := 63) (j2 := 219) (n := 2) d276_175 (by decide +kernel) (by decide +kernel) rfl rfl rfl (md_0 hR) (by decide +kernel) (Nat.le_of_ble_eq_true rfl) rfl rfl (Nat.le_of_ble_eq_true rfl) (by decide +kernel) (c_roomPart hR (r := r) (p := 2) (by omega) (by omega)) ?_
  refine wp_iret d276_178 (by decide +kernel) ?_
  exact ⟨rfl, rfl⟩
theorem r_room_v3 {X : mX} {h : mH} {R : Nat → Nat → Int32} {σ : Nat → Int32} (hR : Ms h R σ) {mi nR nD nG nW nA n : Nat} (hC : Cn σ mi nR nD nG nW nA) (hn : R 0 5 = nI n) (hn4 : n ≤ 4) {r : Nat} (hr : r < nR) : Tells X 276 [.ref 313, .int (nI r), .int (nI 3)] h (σ (20 + 6 * r + 3)) := by
  obtain ⟨⟨h0, hmi⟩, ⟨h2, hR1, hR12⟩, ⟨h3, hD⟩, ⟨h4, hG⟩, ⟨h5, hW⟩, ⟨h6, hA⟩⟩ := hC
  refine wp_aload_n d276_0 rfl ?_
  refine wp_iload_n d276_1 rfl ?_
  refine wp_invvT (e := 57) (j2 := 215) (n := 1) d276_2 (by decide +kernel) (by decide +kernel) rfl rfl rfl (md_0 hR) (by decide +kernel) (Nat.le_of_ble_eq_true rfl) rfl rfl (Nat.le_of_ble_eq_true rfl) (by decide +kernel) (c_isRoom hR (n := nR) h2 (by omega) (nI r)) ?_
  refine wp_ifb_ne d276_5 (tgt := 10) (by decide) (fun _ => ?_) (fun hq9 => absurd (⟨nI_le (by omega) (by omega), nI_lt (by omega) (by omega)⟩ : nI 0 ≤ nI r ∧ nI r < nI nR) hq9)
  refine wp_iconst d276_10 (v := nI 0) (by decide) ?_
  refine wp_istore_n d276_11 (Nat.le_of_ble_eq_true rfl) rfl ?_
  refine wp_iconst d276_12 (v := nI 0) (by decide) ?_
  refine wp_istore d276_13 (Nat.le_of_ble_eq_true rfl) rfl ?_
  refine r_room_l1 hR h5 hW _ 0 0 rfl (Nat.zero_le _) rfl ?_
  intro v9 a ha
  refine wp_iconst d276_62 (v := nI 0) (by decide) ?_
  refine wp_istore d276_63 (Nat.le_of_ble_eq_true rfl) rfl ?_
  refine wp_iconst d276_65 (v := nI 0) (by decide) ?_
  refine wp_istore d276_66 (Nat.le_of_ble_eq_true rfl) rfl ?_
  refine r_room_l2 hR h6 hA _ 0 0 rfl (Nat.zero_le _) rfl ?_
  intro v8 b2 hb
  refine wp_iload_n d276_119 rfl ?_
  refine wp_tswIn d276_120 (by decide) (by decide) (off := 52) (by decide) (tgt := 172) (by decide) ?_
  refine wp_aload_n d276_172 rfl ?_
  refine wp_iload_n d276_173 rfl ?_
  refine wp_iload_n d276_174 rfl ?_
  refine wp_invvT (e := 63) (j2 := 219) (n := 2) d276_175 (by decide +kernel) (by decide +kernel) rfl rfl rfl (md_0 hR) (by decide +kernel) (Nat.le_of_ble_eq_true rfl) rfl rfl (Nat.le_of_ble_eq_true rfl) (by decide +kernel) (c_roomPart hR (r := r) (p := 3) (by omega) (by omega)) ?_
  refine wp_iret d276_178 (by decide +kernel) ?_
  exact ⟨rfl, rfl⟩
theorem r_room_v4 {X : mX} {h : mH} {R : Nat → Nat → Int32} {σ : Nat → Int32} (hR : Ms h R σ) {mi nR nD nG nW nA n : Nat} (hC : Cn σ mi nR nD nG nW nA) (hn : R 0 5 = nI n) (hn4 : n ≤ 4) {r : Nat} (hr : r < nR) : Tells X 276 [.ref 313, .int (nI r), .int (nI 4)] h (σ (20 + 6 * r + 4)) := by
  obtain ⟨⟨h0, hmi⟩, ⟨h2, hR1, hR12⟩, ⟨h3, hD⟩, ⟨h4, hG⟩, ⟨h5, hW⟩, ⟨h6, hA⟩⟩ := hC
  refine wp_aload_n d276_0 rfl ?_
  refine wp_iload_n d276_1 rfl ?_
  refine wp_invvT (e := 57) (j2 := 215) (n := 1) d276_2 (by decide +kernel) (by decide +kernel) rfl rfl rfl (md_0 hR) (by decide +kernel) (Nat.le_of_ble_eq_true rfl) rfl rfl (Nat.le_of_ble_eq_true rfl) (by decide +kernel) (c_isRoom hR (n := nR) h2 (by omega) (nI r)) ?_
  refine wp_ifb_ne d276_5 (tgt := 10) (by decide) (fun _ => ?_) (fun hq9 => absurd (⟨nI_le (by omega) (by omega), nI_lt (by omega) (by omega)⟩ : nI 0 ≤ nI r ∧ nI r < nI nR) hq9)
  refine wp_iconst d276_10 (v := nI 0) (by decide) ?_
  refine wp_istore_n d276_11 (Nat.le_of_ble_eq_true rfl) rfl ?_
  refine wp_iconst d276_12 (v := nI 0) (by decide) ?_
  refine wp_istore d276_13 (Nat.le_of_ble_eq_true rfl) rfl ?_
  refine r_room_l1 hR h5 hW _ 0 0 rfl (Nat.zero_le _) rfl ?_
  intro v9 a ha
  refine wp_iconst d276_62 (v := nI 0) (by decide) ?_
  refine wp_istore d276_63 (Nat.le_of_ble_eq_true rfl) rfl ?_
  refine wp_iconst d276_65 (v := nI 0) (by decide) ?_
  refine wp_istore d276_66 (Nat.le_of_ble_eq_true rfl) rfl ?_
  refine r_room_l2 hR h6 hA _ 0 0 rfl (Nat.zero_le _) rfl ?_
  intro v8 b2 hb
  refine wp_iload_n d276_119 rfl ?_
  refine wp_tswIn d276_120 (by decide) (by decide) (off := 52) (by decide) (tgt := 172) (by decide) ?_
  refine wp_aload_n d276_172 rfl ?_
  refine wp_iload_n d276_173 rfl ?_
  refine wp_iload_n d276_174 rfl ?_
  refine wp_invvT (e := 63) (j2 := 219) (n := 2) d276_175 (by decide +kernel) (by decide +kernel) rfl rfl rfl (md_0 hR) (by decide +kernel) (Nat.le_of_ble_eq_true rfl) rfl rfl (Nat.le_of_ble_eq_true rfl) (by decide +kernel) (c_roomPart hR (r := r) (p := 4) (by omega) (by omega)) ?_
  refine wp_iret d276_178 (by decide +kernel) ?_
  exact ⟨rfl, rfl⟩
theorem r_room_v5 {X : mX} {h : mH} {R : Nat → Nat → Int32} {σ : Nat → Int32} (hR : Ms h R σ) {mi nR nD nG nW nA n : Nat} (hC : Cn σ mi nR nD nG nW nA) (hn : R 0 5 = nI n) (hn4 : n ≤ 4) {r : Nat} (hr : r < nR) : Tells X 276 [.ref 313, .int (nI r), .int (nI 5)] h (σ (20 + 6 * r + 5)) := by
  obtain ⟨⟨h0, hmi⟩, ⟨h2, hR1, hR12⟩, ⟨h3, hD⟩, ⟨h4, hG⟩, ⟨h5, hW⟩, ⟨h6, hA⟩⟩ := hC
  refine wp_aload_n d276_0 rfl ?_
  refine wp_iload_n d276_1 rfl ?_
  refine wp_invvT (e := 57) (j2 := 215) (n := 1) d276_2 (by decide +kernel) (by decide +kernel) rfl rfl rfl (md_0 hR) (by decide +kernel) (Nat.le_of_ble_eq_true rfl) rfl rfl (Nat.le_of_ble_eq_true rfl) (by decide +kernel) (c_isRoom hR (n := nR) h2 (by omega) (nI r)) ?_
  refine wp_ifb_ne d276_5 (tgt := 10) (by decide) (fun _ => ?_) (fun hq9 => absurd (⟨nI_le (by omega) (by omega), nI_lt (by omega) (by omega)⟩ : nI 0 ≤ nI r ∧ nI r < nI nR) hq9)
  refine wp_iconst d276_10 (v := nI 0) (by decide) ?_
  refine wp_istore_n d276_11 (Nat.le_of_ble_eq_true rfl) rfl ?_
  refine wp_iconst d276_12 (v := nI 0) (by decide) ?_
  refine wp_istore d276_13 (Nat.le_of_ble_eq_true rfl) rfl ?_
  refine r_room_l1 hR h5 hW _ 0 0 rfl (Nat.zero_le _) rfl ?_
  intro v9 a ha
  refine wp_iconst d276_62 (v := nI 0) (by decide) ?_
  refine wp_istore d276_63 (Nat.le_of_ble_eq_true rfl) rfl ?_
  refine wp_iconst d276_65 (v := nI 0) (by decide) ?_
  refine wp_istore d276_66 (Nat.le_of_ble_eq_true rfl) rfl ?_
  refine r_room_l2 hR h6 hA _ 0 0 rfl (Nat.zero_le _) rfl ?_
  intro v8 b2 hb
  refine wp_iload_n d276_119 rfl ?_
  refine wp_tswIn d276_120 (by decide) (by decide) (off := 52) (by decide) (tgt := 172) (by decide) ?_
  refine wp_aload_n d276_172 rfl ?_
  refine wp_iload_n d276_173 rfl ?_
  refine wp_iload_n d276_174 rfl ?_
  refine wp_invvT (e := 63) (j2 := 219) (n := 2) d276_175 (by decide +kernel) (by decide +kernel) rfl rfl rfl (md_0 hR) (by decide +kernel) (Nat.le_of_ble_eq_true rfl) rfl rfl (Nat.le_of_ble_eq_true rfl) (by decide +kernel) (c_roomPart hR (r := r) (p := 5) (by omega) (by omega)) ?_
  refine wp_iret d276_178 (by decide +kernel) ?_
  exact ⟨rfl, rfl⟩
theorem r_room_v6 {X : mX} {h : mH} {R : Nat → Nat → Int32} {σ : Nat → Int32} (hR : Ms h R σ) {mi nR nD nG nW nA n : Nat} (hC : Cn σ mi nR nD nG nW nA) (hn : R 0 5 = nI n) (hn4 : n ≤ 4) {r : Nat} (hr : r < nR) : Tells X 276 [.ref 313, .int (nI r), .int (nI 6)] h (nI (F_gi σ (nI r) nG)) := by
  obtain ⟨⟨h0, hmi⟩, ⟨h2, hR1, hR12⟩, ⟨h3, hD⟩, ⟨h4, hG⟩, ⟨h5, hW⟩, ⟨h6, hA⟩⟩ := hC
  refine wp_aload_n d276_0 rfl ?_
  refine wp_iload_n d276_1 rfl ?_
  refine wp_invvT (e := 57) (j2 := 215) (n := 1) d276_2 (by decide +kernel) (by decide +kernel) rfl rfl rfl (md_0 hR) (by decide +kernel) (Nat.le_of_ble_eq_true rfl) rfl rfl (Nat.le_of_ble_eq_true rfl) (by decide +kernel) (c_isRoom hR (n := nR) h2 (by omega) (nI r)) ?_
  refine wp_ifb_ne d276_5 (tgt := 10) (by decide) (fun _ => ?_) (fun hq9 => absurd (⟨nI_le (by omega) (by omega), nI_lt (by omega) (by omega)⟩ : nI 0 ≤ nI r ∧ nI r < nI nR) hq9)
  refine wp_iconst d276_10 (v := nI 0) (by decide) ?_
  refine wp_istore_n d276_11 (Nat.le_of_ble_eq_true rfl) rfl ?_
  refine wp_iconst d276_12 (v := nI 0) (by decide) ?_
  refine wp_istore d276_13 (Nat.le_of_ble_eq_true rfl) rfl ?_
  refine r_room_l1 hR h5 hW _ 0 0 rfl (Nat.zero_le _) rfl ?_
  intro v9 a ha
  refine wp_iconst d276_62 (v := nI 0) (by decide) ?_
  refine wp_istore d276_63 (Nat.le_of_ble_eq_true rfl) rfl ?_
  refine wp_iconst d276_65 (v := nI 0) (by decide) ?_
  refine wp_istore d276_66 (Nat.le_of_ble_eq_true rfl) rfl ?_
  refine r_room_l2 hR h6 hA _ 0 0 rfl (Nat.zero_le _) rfl ?_
  intro v8 b2 hb
  refine wp_iload_n d276_119 rfl ?_
  refine wp_tswIn d276_120 (by decide) (by decide) (off := 59) (by decide) (tgt := 179) (by decide) ?_
  refine wp_aload_n d276_179 rfl ?_
  refine wp_iload_n d276_180 rfl ?_
  refine wp_invvT (e := 119) (j2 := 247) (n := 1) d276_181 (by decide +kernel) (by decide +kernel) rfl rfl rfl (md_0 hR) (by decide +kernel) (Nat.le_of_ble_eq_true rfl) rfl rfl (Nat.le_of_ble_eq_true rfl) (by decide +kernel) (c_guardsIn hR h4 hG (nI r)) ?_
  refine wp_iret d276_184 (by decide +kernel) ?_
  exact ⟨rfl, rfl⟩
theorem r_room_v7 {X : mX} {h : mH} {R : Nat → Nat → Int32} {σ : Nat → Int32} (hR : Ms h R σ) {mi nR nD nG nW nA n : Nat} (hC : Cn σ mi nR nD nG nW nA) (hn : R 0 5 = nI n) (hn4 : n ≤ 4) {r : Nat} (hr : r < nR) : Tells X 276 [.ref 313, .int (nI r), .int (nI 7)] h (nI (F_cw σ (nI r) nW)) := by
  obtain ⟨⟨h0, hmi⟩, ⟨h2, hR1, hR12⟩, ⟨h3, hD⟩, ⟨h4, hG⟩, ⟨h5, hW⟩, ⟨h6, hA⟩⟩ := hC
  refine wp_aload_n d276_0 rfl ?_
  refine wp_iload_n d276_1 rfl ?_
  refine wp_invvT (e := 57) (j2 := 215) (n := 1) d276_2 (by decide +kernel) (by decide +kernel) rfl rfl rfl (md_0 hR) (by decide +kernel) (Nat.le_of_ble_eq_true rfl) rfl rfl (Nat.le_of_ble_eq_true rfl) (by decide +kernel) (c_isRoom hR (n := nR) h2 (by omega) (nI r)) ?_
  refine wp_ifb_ne d276_5 (tgt := 10) (by decide) (fun _ => ?_) (fun hq9 => absurd (⟨nI_le (by omega) (by omega), nI_lt (by omega) (by omega)⟩ : nI 0 ≤ nI r ∧ nI r < nI nR) hq9)
  refine wp_iconst d276_10 (v := nI 0) (by decide) ?_
  refine wp_istore_n d276_11 (Nat.le_of_ble_eq_true rfl) rfl ?_
  refine wp_iconst d276_12 (v := nI 0) (by decide) ?_
  refine wp_istore d276_13 (Nat.le_of_ble_eq_true rfl) rfl ?_
  refine r_room_l1 hR h5 hW _ 0 0 rfl (Nat.zero_le _) rfl ?_
  intro v9 a ha
  refine wp_iconst d276_62 (v := nI 0) (by decide) ?_
  refine wp_istore d276_63 (Nat.le_of_ble_eq_true rfl) rfl ?_
  refine wp_iconst d276_65 (v := nI 0) (by decide) ?_
  refine wp_istore d276_66 (Nat.le_of_ble_eq_true rfl) rfl ?_
  refine r_room_l2 hR h6 hA _ 0 0 rfl (Nat.zero_le _) rfl ?_
  intro v8 b2 hb
  refine wp_iload_n d276_119 rfl ?_
  refine wp_tswIn d276_120 (by decide) (by decide) (off := 65) (by decide) (tgt := 185) (by decide) ?_
  refine wp_iload_n d276_185 rfl ?_
  refine wp_iret d276_186 (by decide +kernel) ?_
  exact ⟨by rw [ha], rfl⟩
theorem r_room_v8 {X : mX} {h : mH} {R : Nat → Nat → Int32} {σ : Nat → Int32} (hR : Ms h R σ) {mi nR nD nG nW nA n : Nat} (hC : Cn σ mi nR nD nG nW nA) (hn : R 0 5 = nI n) (hn4 : n ≤ 4) {r : Nat} (hr : r < nR) : Tells X 276 [.ref 313, .int (nI r), .int (nI 8)] h (nI (F_ca σ (nI r) nA)) := by
  obtain ⟨⟨h0, hmi⟩, ⟨h2, hR1, hR12⟩, ⟨h3, hD⟩, ⟨h4, hG⟩, ⟨h5, hW⟩, ⟨h6, hA⟩⟩ := hC
  refine wp_aload_n d276_0 rfl ?_
  refine wp_iload_n d276_1 rfl ?_
  refine wp_invvT (e := 57) (j2 := 215) (n := 1) d276_2 (by decide +kernel) (by decide +kernel) rfl rfl rfl (md_0 hR) (by decide +kernel) (Nat.le_of_ble_eq_true rfl) rfl rfl (Nat.le_of_ble_eq_true rfl) (by decide +kernel) (c_isRoom hR (n := nR) h2 (by omega) (nI r)) ?_
  refine wp_ifb_ne d276_5 (tgt := 10) (by decide) (fun _ => ?_) (fun hq9 => absurd (⟨nI_le (by omega) (by omega), nI_lt (by omega) (by omega)⟩ : nI 0 ≤ nI r ∧ nI r < nI nR) hq9)
  refine wp_iconst d276_10 (v := nI 0) (by decide) ?_
  refine wp_istore_n d276_11 (Nat.le_of_ble_eq_true rfl) rfl ?_
  refine wp_iconst d276_12 (v := nI 0) (by decide) ?_
  refine wp_istore d276_13 (Nat.le_of_ble_eq_true rfl) rfl ?_
  refine r_room_l1 hR h5 hW _ 0 0 rfl (Nat.zero_le _) rfl ?_
  intro v9 a ha
  refine wp_iconst d276_62 (v := nI 0) (by decide) ?_
  refine wp_istore d276_63 (Nat.le_of_ble_eq_true rfl) rfl ?_
  refine wp_iconst d276_65 (v := nI 0) (by decide) ?_
  refine wp_istore d276_66 (Nat.le_of_ble_eq_true rfl) rfl ?_
  refine r_room_l2 hR h6 hA _ 0 0 rfl (Nat.zero_le _) rfl ?_
  intro v8 b2 hb
  refine wp_iload_n d276_119 rfl ?_
  refine wp_tswIn d276_120 (by decide) (by decide) (off := 67) (by decide) (tgt := 187) (by decide) ?_
  refine wp_iload d276_187 rfl ?_
  refine wp_iret d276_189 (by decide +kernel) ?_
  exact ⟨by rw [hb], rfl⟩
theorem r_stays {X : mX} {h : mH} {R : Nat → Nat → Int32} {σ : Nat → Int32} (hR : Ms h R σ) {mi nR nD nG nW nA n : Nat} (hC : Cn σ mi nR nD nG nW nA) (hn : R 0 5 = nI n) (hn4 : n ≤ 4)  : Tells X 291 [.ref 313] h (nI (F_sy σ (4 * mi))) := by
  obtain ⟨⟨h0, hmi⟩, ⟨h2, hR1, hR12⟩, ⟨h3, hD⟩, ⟨h4, hG⟩, ⟨h5, hW⟩, ⟨h6, hA⟩⟩ := hC
  refine wp_iconst d291_0 (v := nI 0) (by decide) ?_
  refine wp_istore_n d291_1 (Nat.le_of_ble_eq_true rfl) rfl ?_
  refine wp_iconst d291_2 (v := nI 0) (by decide) ?_
  refine wp_istore_n d291_3 (Nat.le_of_ble_eq_true rfl) rfl ?_
  refine r_stays_l hR h0 hmi _ 0 0 rfl (Nat.zero_le _) rfl ?_
  intro v9 a ha
  refine wp_iload_n d291_43 rfl ?_
  refine wp_iret d291_44 (by decide +kernel) ?_
  exact ⟨by rw [ha], rfl⟩
theorem r_count_1 {X : mX} {h : mH} {R : Nat → Nat → Int32} {σ : Nat → Int32} (hR : Ms h R σ) {mi nR nD nG nW nA n : Nat} (hC : Cn σ mi nR nD nG nW nA) (hn : R 0 5 = nI n) (hn4 : n ≤ 4) {v : Int32} (hx : v.toInt < 0 ∨ 15 < v.toInt) : Tells X 290 [.ref 313, .int (v)] h (-2) := by
  obtain ⟨⟨h0, hmi⟩, ⟨h2, hR1, hR12⟩, ⟨h3, hD⟩, ⟨h4, hG⟩, ⟨h5, hW⟩, ⟨h6, hA⟩⟩ := hC
  refine wp_iconst d290_0 (v := nI 0) (by decide) ?_
  refine wp_istore_n d290_1 (Nat.le_of_ble_eq_true rfl) rfl ?_
  refine wp_iconst d290_2 (v := nI 0) (by decide) ?_
  refine wp_istore_n d290_3 (Nat.le_of_ble_eq_true rfl) rfl ?_
  refine r_count_l1 hR h5 hW _ 0 0 rfl (Nat.zero_le _) rfl ?_
  intro v9 a ha
  refine wp_iconst d290_38 (v := nI 0) (by decide) ?_
  refine wp_istore_n d290_39 (Nat.le_of_ble_eq_true rfl) rfl ?_
  refine wp_iconst d290_40 (v := nI 0) (by decide) ?_
  refine wp_istore d290_41 (Nat.le_of_ble_eq_true rfl) rfl ?_
  refine r_count_l2 hR h6 hA _ 0 0 rfl (Nat.zero_le _) rfl ?_
  intro v8 b2 hb
  refine wp_iconst d290_81 (v := nI 0) (by decide) ?_
  refine wp_istore d290_82 (Nat.le_of_ble_eq_true rfl) rfl ?_
  refine wp_iconst d290_84 (v := nI 0) (by decide) ?_
  refine wp_istore d290_85 (Nat.le_of_ble_eq_true rfl) rfl ?_
  refine r_count_l3 hR h4 hG _ 0 (nI 0) rfl (Nat.zero_le _) rfl ?_
  intro v7 e he
  refine wp_iload_n d290_117 rfl ?_
  refine wp_tswOut d290_118 hx (tgt := 253) (by decide) ?_
  refine wp_bipush d290_253 (v := (-2 : Int32)) (by decide) ?_
  refine wp_iret d290_255 (by decide +kernel) ?_
  exact ⟨rfl, rfl⟩
theorem r_count_v0 {X : mX} {h : mH} {R : Nat → Nat → Int32} {σ : Nat → Int32} (hR : Ms h R σ) {mi nR nD nG nW nA n : Nat} (hC : Cn σ mi nR nD nG nW nA) (hn : R 0 5 = nI n) (hn4 : n ≤ 4)  : Tells X 290 [.ref 313, .int (nI 0)] h (σ 0) := by
  obtain ⟨⟨h0, hmi⟩, ⟨h2, hR1, hR12⟩, ⟨h3, hD⟩, ⟨h4, hG⟩, ⟨h5, hW⟩, ⟨h6, hA⟩⟩ := hC
  refine wp_iconst d290_0 (v := nI 0) (by decide) ?_
  refine wp_istore_n d290_1 (Nat.le_of_ble_eq_true rfl) rfl ?_
  refine wp_iconst d290_2 (v := nI 0) (by decide) ?_
  refine wp_istore_n d290_3 (Nat.le_of_ble_eq_true rfl) rfl ?_
  refine r_count_l1 hR h5 hW _ 0 0 rfl (Nat.zero_le _) rfl ?_
  intro v9 a ha
  refine wp_iconst d290_38 (v := nI 0) (by decide) ?_
  refine wp_istore_n d290_39 (Nat.le_of_ble_eq_true rfl) rfl ?_
  refine wp_iconst d290_40 (v := nI 0) (by decide) ?_
  refine wp_istore d290_41 (Nat.le_of_ble_eq_true rfl) rfl ?_
  refine r_count_l2 hR h6 hA _ 0 0 rfl (Nat.zero_le _) rfl ?_
  intro v8 b2 hb
  refine wp_iconst d290_81 (v := nI 0) (by decide) ?_
  refine wp_istore d290_82 (Nat.le_of_ble_eq_true rfl) rfl ?_
  refine wp_iconst d290_84 (v := nI 0) (by decide) ?_
  refine wp_istore d290_85 (Nat.le_of_ble_eq_true rfl) rfl ?_
  refine r_count_l3 hR h4 hG _ 0 (nI 0) rfl (Nat.zero_le _) rfl ?_
  intro v7 e he
  refine wp_iload_n d290_117 rfl ?_
  refine wp_tswIn d290_118 (by decide) (by decide) (off := 78) (by decide) (tgt := 196) (by decide) ?_
  refine wp_aload_n d290_196 rfl ?_
  refine wp_getf (e := 7) (ci := 12) (k := 0) (nest := false) d290_197 (by decide +kernel) (md_0 hR) rfl ?_
  refine wp_iconst d290_200 (v := nI 0) (by decide) ?_
  refine wp_iload_n d290_201 rfl ?_
  refine wp_iaddv d290_202 (v := nI 0) (nI_add _ _) ?_
  refine wp_iald d290_203 (md_1 hR) (nI_in (by omega) (by decide)) (v := nI mi) ((congrArg σ (nI_nat (by omega))).trans h0) ?_
  refine wp_iret d290_204 (by decide +kernel) ?_
  exact ⟨by rw [h0], rfl⟩
theorem r_count_v1 {X : mX} {h : mH} {R : Nat → Nat → Int32} {σ : Nat → Int32} (hR : Ms h R σ) {mi nR nD nG nW nA n : Nat} (hC : Cn σ mi nR nD nG nW nA) (hn : R 0 5 = nI n) (hn4 : n ≤ 4)  : Tells X 290 [.ref 313, .int (nI 1)] h (σ 1) := by
  obtain ⟨⟨h0, hmi⟩, ⟨h2, hR1, hR12⟩, ⟨h3, hD⟩, ⟨h4, hG⟩, ⟨h5, hW⟩, ⟨h6, hA⟩⟩ := hC
  refine wp_iconst d290_0 (v := nI 0) (by decide) ?_
  refine wp_istore_n d290_1 (Nat.le_of_ble_eq_true rfl) rfl ?_
  refine wp_iconst d290_2 (v := nI 0) (by decide) ?_
  refine wp_istore_n d290_3 (Nat.le_of_ble_eq_true rfl) rfl ?_
  refine r_count_l1 hR h5 hW _ 0 0 rfl (Nat.zero_le _) rfl ?_
  intro v9 a ha
  refine wp_iconst d290_38 (v := nI 0) (by decide) ?_
  refine wp_istore_n d290_39 (Nat.le_of_ble_eq_true rfl) rfl ?_
  refine wp_iconst d290_40 (v := nI 0) (by decide) ?_
  refine wp_istore d290_41 (Nat.le_of_ble_eq_true rfl) rfl ?_
  refine r_count_l2 hR h6 hA _ 0 0 rfl (Nat.zero_le _) rfl ?_
  intro v8 b2 hb
  refine wp_iconst d290_81 (v := nI 0) (by decide) ?_
  refine wp_istore d290_82 (Nat.le_of_ble_eq_true rfl) rfl ?_
  refine wp_iconst d290_84 (v := nI 0) (by decide) ?_
  refine wp_istore d290_85 (Nat.le_of_ble_eq_true rfl) rfl ?_
  refine r_count_l3 hR h4 hG _ 0 (nI 0) rfl (Nat.zero_le _) rfl ?_
  intro v7 e he
  refine wp_iload_n d290_117 rfl ?_
  refine wp_tswIn d290_118 (by decide) (by decide) (off := 78) (by decide) (tgt := 196) (by decide) ?_
  refine wp_aload_n d290_196 rfl ?_
  refine wp_getf (e := 7) (ci := 12) (k := 0) (nest := false) d290_197 (by decide +kernel) (md_0 hR) rfl ?_
  refine wp_iconst d290_200 (v := nI 0) (by decide) ?_
  refine wp_iload_n d290_201 rfl ?_
  refine wp_iaddv d290_202 (v := nI 1) (nI_add _ _) ?_
  refine wp_iald d290_203 (md_1 hR) (nI_in (by omega) (by decide)) (v := σ 1) ((congrArg σ (nI_nat (by omega))).trans rfl) ?_
  refine wp_iret d290_204 (by decide +kernel) ?_
  exact ⟨rfl, rfl⟩
theorem r_count_v2 {X : mX} {h : mH} {R : Nat → Nat → Int32} {σ : Nat → Int32} (hR : Ms h R σ) {mi nR nD nG nW nA n : Nat} (hC : Cn σ mi nR nD nG nW nA) (hn : R 0 5 = nI n) (hn4 : n ≤ 4)  : Tells X 290 [.ref 313, .int (nI 2)] h (σ 2) := by
  obtain ⟨⟨h0, hmi⟩, ⟨h2, hR1, hR12⟩, ⟨h3, hD⟩, ⟨h4, hG⟩, ⟨h5, hW⟩, ⟨h6, hA⟩⟩ := hC
  refine wp_iconst d290_0 (v := nI 0) (by decide) ?_
  refine wp_istore_n d290_1 (Nat.le_of_ble_eq_true rfl) rfl ?_
  refine wp_iconst d290_2 (v := nI 0) (by decide) ?_
  refine wp_istore_n d290_3 (Nat.le_of_ble_eq_true rfl) rfl ?_
  refine r_count_l1 hR h5 hW _ 0 0 rfl (Nat.zero_le _) rfl ?_
  intro v9 a ha
  refine wp_iconst d290_38 (v := nI 0) (by decide) ?_
  refine wp_istore_n d290_39 (Nat.le_of_ble_eq_true rfl) rfl ?_
  refine wp_iconst d290_40 (v := nI 0) (by decide) ?_
  refine wp_istore d290_41 (Nat.le_of_ble_eq_true rfl) rfl ?_
  refine r_count_l2 hR h6 hA _ 0 0 rfl (Nat.zero_le _) rfl ?_
  intro v8 b2 hb
  refine wp_iconst d290_81 (v := nI 0) (by decide) ?_
  refine wp_istore d290_82 (Nat.le_of_ble_eq_true rfl) rfl ?_
  refine wp_iconst d290_84 (v := nI 0) (by decide) ?_
  refine wp_istore d290_85 (Nat.le_of_ble_eq_true rfl) rfl ?_
  refine r_count_l3 hR h4 hG _ 0 (nI 0) rfl (Nat.zero_le _) rfl ?_
  intro v7 e he
  refine wp_iload_n d290_117 rfl ?_
  refine wp_tswIn d290_118 (by decide) (by decide) (off := 78) (by decide) (tgt := 196) (by decide) ?_
  refine wp_aload_n d290_196 rfl ?_
  refine wp_getf (e := 7) (ci := 12) (k := 0) (nest := false) d290_197 (by decide +kernel) (md_0 hR) rfl ?_
  refine wp_iconst d290_200 (v := nI 0) (by decide) ?_
  refine wp_iload_n d290_201 rfl ?_
  refine wp_iaddv d290_202 (v := nI 2) (nI_add _ _) ?_
  refine wp_iald d290_203 (md_1 hR) (nI_in (by omega) (by decide)) (v := nI nR) ((congrArg σ (nI_nat (by omega))).trans h2) ?_
  refine wp_iret d290_204 (by decide +kernel) ?_
  exact ⟨by rw [h2], rfl⟩
theorem r_count_v3 {X : mX} {h : mH} {R : Nat → Nat → Int32} {σ : Nat → Int32} (hR : Ms h R σ) {mi nR nD nG nW nA n : Nat} (hC : Cn σ mi nR nD nG nW nA) (hn : R 0 5 = nI n) (hn4 : n ≤ 4)  : Tells X 290 [.ref 313, .int (nI 3)] h (σ 3) := by
  obtain ⟨⟨h0, hmi⟩, ⟨h2, hR1, hR12⟩, ⟨h3, hD⟩, ⟨h4, hG⟩, ⟨h5, hW⟩, ⟨h6, hA⟩⟩ := hC
  refine wp_iconst d290_0 (v := nI 0) (by decide) ?_
  refine wp_istore_n d290_1 (Nat.le_of_ble_eq_true rfl) rfl ?_
  refine wp_iconst d290_2 (v := nI 0) (by decide) ?_
  refine wp_istore_n d290_3 (Nat.le_of_ble_eq_true rfl) rfl ?_
  refine r_count_l1 hR h5 hW _ 0 0 rfl (Nat.zero_le _) rfl ?_
  intro v9 a ha
  refine wp_iconst d290_38 (v := nI 0) (by decide) ?_
  refine wp_istore_n d290_39 (Nat.le_of_ble_eq_true rfl) rfl ?_
  refine wp_iconst d290_40 (v := nI 0) (by decide) ?_
  refine wp_istore d290_41 (Nat.le_of_ble_eq_true rfl) rfl ?_
  refine r_count_l2 hR h6 hA _ 0 0 rfl (Nat.zero_le _) rfl ?_
  intro v8 b2 hb
  refine wp_iconst d290_81 (v := nI 0) (by decide) ?_
  refine wp_istore d290_82 (Nat.le_of_ble_eq_true rfl) rfl ?_
  refine wp_iconst d290_84 (v := nI 0) (by decide) ?_
  refine wp_istore d290_85 (Nat.le_of_ble_eq_true rfl) rfl ?_
  refine r_count_l3 hR h4 hG _ 0 (nI 0) rfl (Nat.zero_le _) rfl ?_
  intro v7 e he
  refine wp_iload_n d290_117 rfl ?_
  refine wp_tswIn d290_118 (by decide) (by decide) (off := 78) (by decide) (tgt := 196) (by decide) ?_
  refine wp_aload_n d290_196 rfl ?_
  refine wp_getf (e := 7) (ci := 12) (k := 0) (nest := false) d290_197 (by decide +kernel) (md_0 hR) rfl ?_
  refine wp_iconst d290_200 (v := nI 0) (by decide) ?_
  refine wp_iload_n d290_201 rfl ?_
  refine wp_iaddv d290_202 (v := nI 3) (nI_add _ _) ?_
  refine wp_iald d290_203 (md_1 hR) (nI_in (by omega) (by decide)) (v := nI nD) ((congrArg σ (nI_nat (by omega))).trans h3) ?_
  refine wp_iret d290_204 (by decide +kernel) ?_
  exact ⟨by rw [h3], rfl⟩
theorem r_count_v4 {X : mX} {h : mH} {R : Nat → Nat → Int32} {σ : Nat → Int32} (hR : Ms h R σ) {mi nR nD nG nW nA n : Nat} (hC : Cn σ mi nR nD nG nW nA) (hn : R 0 5 = nI n) (hn4 : n ≤ 4)  : Tells X 290 [.ref 313, .int (nI 4)] h (σ 4) := by
  obtain ⟨⟨h0, hmi⟩, ⟨h2, hR1, hR12⟩, ⟨h3, hD⟩, ⟨h4, hG⟩, ⟨h5, hW⟩, ⟨h6, hA⟩⟩ := hC
  refine wp_iconst d290_0 (v := nI 0) (by decide) ?_
  refine wp_istore_n d290_1 (Nat.le_of_ble_eq_true rfl) rfl ?_
  refine wp_iconst d290_2 (v := nI 0) (by decide) ?_
  refine wp_istore_n d290_3 (Nat.le_of_ble_eq_true rfl) rfl ?_
  refine r_count_l1 hR h5 hW _ 0 0 rfl (Nat.zero_le _) rfl ?_
  intro v9 a ha
  refine wp_iconst d290_38 (v := nI 0) (by decide) ?_
  refine wp_istore_n d290_39 (Nat.le_of_ble_eq_true rfl) rfl ?_
  refine wp_iconst d290_40 (v := nI 0) (by decide) ?_
  refine wp_istore d290_41 (Nat.le_of_ble_eq_true rfl) rfl ?_
  refine r_count_l2 hR h6 hA _ 0 0 rfl (Nat.zero_le _) rfl ?_
  intro v8 b2 hb
  refine wp_iconst d290_81 (v := nI 0) (by decide) ?_
  refine wp_istore d290_82 (Nat.le_of_ble_eq_true rfl) rfl ?_
  refine wp_iconst d290_84 (v := nI 0) (by decide) ?_
  refine wp_istore d290_85 (Nat.le_of_ble_eq_true rfl) rfl ?_
  refine r_count_l3 hR h4 hG _ 0 (nI 0) rfl (Nat.zero_le _) rfl ?_
  intro v7 e he
  refine wp_iload_n d290_117 rfl ?_
  refine wp_tswIn d290_118 (by decide) (by decide) (off := 78) (by decide) (tgt := 196) (by decide) ?_
  refine wp_aload_n d290_196 rfl ?_
  refine wp_getf (e := 7) (ci := 12) (k := 0) (nest := false) d290_197 (by decide +kernel) (md_0 hR) rfl ?_
  refine wp_iconst d290_200 (v := nI 0) (by decide) ?_
  refine wp_iload_n d290_201 rfl ?_
  refine wp_iaddv d290_202 (v := nI 4) (nI_add _ _) ?_
  refine wp_iald d290_203 (md_1 hR) (nI_in (by omega) (by decide)) (v := nI nG) ((congrArg σ (nI_nat (by omega))).trans h4) ?_
  refine wp_iret d290_204 (by decide +kernel) ?_
  exact ⟨by rw [h4], rfl⟩
theorem r_count_v5 {X : mX} {h : mH} {R : Nat → Nat → Int32} {σ : Nat → Int32} (hR : Ms h R σ) {mi nR nD nG nW nA n : Nat} (hC : Cn σ mi nR nD nG nW nA) (hn : R 0 5 = nI n) (hn4 : n ≤ 4)  : Tells X 290 [.ref 313, .int (nI 5)] h (σ 5) := by
  obtain ⟨⟨h0, hmi⟩, ⟨h2, hR1, hR12⟩, ⟨h3, hD⟩, ⟨h4, hG⟩, ⟨h5, hW⟩, ⟨h6, hA⟩⟩ := hC
  refine wp_iconst d290_0 (v := nI 0) (by decide) ?_
  refine wp_istore_n d290_1 (Nat.le_of_ble_eq_true rfl) rfl ?_
  refine wp_iconst d290_2 (v := nI 0) (by decide) ?_
  refine wp_istore_n d290_3 (Nat.le_of_ble_eq_true rfl) rfl ?_
  refine r_count_l1 hR h5 hW _ 0 0 rfl (Nat.zero_le _) rfl ?_
  intro v9 a ha
  refine wp_iconst d290_38 (v := nI 0) (by decide) ?_
  refine wp_istore_n d290_39 (Nat.le_of_ble_eq_true rfl) rfl ?_
  refine wp_iconst d290_40 (v := nI 0) (by decide) ?_
  refine wp_istore d290_41 (Nat.le_of_ble_eq_true rfl) rfl ?_
  refine r_count_l2 hR h6 hA _ 0 0 rfl (Nat.zero_le _) rfl ?_
  intro v8 b2 hb
  refine wp_iconst d290_81 (v := nI 0) (by decide) ?_
  refine wp_istore d290_82 (Nat.le_of_ble_eq_true rfl) rfl ?_
  refine wp_iconst d290_84 (v := nI 0) (by decide) ?_
  refine wp_istore d290_85 (Nat.le_of_ble_eq_true rfl) rfl ?_
  refine r_count_l3 hR h4 hG _ 0 (nI 0) rfl (Nat.zero_le _) rfl ?_
  intro v7 e he
  refine wp_iload_n d290_117 rfl ?_
  refine wp_tswIn d290_118 (by decide) (by decide) (off := 78) (by decide) (tgt := 196) (by decide) ?_
  refine wp_aload_n d290_196 rfl ?_
  refine wp_getf (e := 7) (ci := 12) (k := 0) (nest := false) d290_197 (by decide +kernel) (md_0 hR) rfl ?_
  refine wp_iconst d290_200 (v := nI 0) (by decide) ?_
  refine wp_iload_n d290_201 rfl ?_
  refine wp_iaddv d290_202 (v := nI 5) (nI_add _ _) ?_
  refine wp_iald d290_203 (md_1 hR) (nI_in (by omega) (by decide)) (v := nI nW) ((congrArg σ (nI_nat (by omega))).trans h5) ?_
  refine wp_iret d290_204 (by decide +kernel) ?_
  exact ⟨by rw [h5], rfl⟩
theorem r_count_v6 {X : mX} {h : mH} {R : Nat → Nat → Int32} {σ : Nat → Int32} (hR : Ms h R σ) {mi nR nD nG nW nA n : Nat} (hC : Cn σ mi nR nD nG nW nA) (hn : R 0 5 = nI n) (hn4 : n ≤ 4)  : Tells X 290 [.ref 313, .int (nI 6)] h (nI (F_ct σ nW)) := by
  obtain ⟨⟨h0, hmi⟩, ⟨h2, hR1, hR12⟩, ⟨h3, hD⟩, ⟨h4, hG⟩, ⟨h5, hW⟩, ⟨h6, hA⟩⟩ := hC
  refine wp_iconst d290_0 (v := nI 0) (by decide) ?_
  refine wp_istore_n d290_1 (Nat.le_of_ble_eq_true rfl) rfl ?_
  refine wp_iconst d290_2 (v := nI 0) (by decide) ?_
  refine wp_istore_n d290_3 (Nat.le_of_ble_eq_true rfl) rfl ?_
  refine r_count_l1 hR h5 hW _ 0 0 rfl (Nat.zero_le _) rfl ?_
  intro v9 a ha
  refine wp_iconst d290_38 (v := nI 0) (by decide) ?_
  refine wp_istore_n d290_39 (Nat.le_of_ble_eq_true rfl) rfl ?_
  refine wp_iconst d290_40 (v := nI 0) (by decide) ?_
  refine wp_istore d290_41 (Nat.le_of_ble_eq_true rfl) rfl ?_
  refine r_count_l2 hR h6 hA _ 0 0 rfl (Nat.zero_le _) rfl ?_
  intro v8 b2 hb
  refine wp_iconst d290_81 (v := nI 0) (by decide) ?_
  refine wp_istore d290_82 (Nat.le_of_ble_eq_true rfl) rfl ?_
  refine wp_iconst d290_84 (v := nI 0) (by decide) ?_
  refine wp_istore d290_85 (Nat.le_of_ble_eq_true rfl) rfl ?_
  refine r_count_l3 hR h4 hG _ 0 (nI 0) rfl (Nat.zero_le _) rfl ?_
  intro v7 e he
  refine wp_iload_n d290_117 rfl ?_
  refine wp_tswIn d290_118 (by decide) (by decide) (off := 87) (by decide) (tgt := 205) (by decide) ?_
  refine wp_iload_n d290_205 rfl ?_
  refine wp_iret d290_206 (by decide +kernel) ?_
  exact ⟨by rw [ha], rfl⟩
theorem r_count_v7 {X : mX} {h : mH} {R : Nat → Nat → Int32} {σ : Nat → Int32} (hR : Ms h R σ) {mi nR nD nG nW nA n : Nat} (hC : Cn σ mi nR nD nG nW nA) (hn : R 0 5 = nI n) (hn4 : n ≤ 4)  : Tells X 290 [.ref 313, .int (nI 7)] h (nI nA) := by
  obtain ⟨⟨h0, hmi⟩, ⟨h2, hR1, hR12⟩, ⟨h3, hD⟩, ⟨h4, hG⟩, ⟨h5, hW⟩, ⟨h6, hA⟩⟩ := hC
  refine wp_iconst d290_0 (v := nI 0) (by decide) ?_
  refine wp_istore_n d290_1 (Nat.le_of_ble_eq_true rfl) rfl ?_
  refine wp_iconst d290_2 (v := nI 0) (by decide) ?_
  refine wp_istore_n d290_3 (Nat.le_of_ble_eq_true rfl) rfl ?_
  refine r_count_l1 hR h5 hW _ 0 0 rfl (Nat.zero_le _) rfl ?_
  intro v9 a ha
  refine wp_iconst d290_38 (v := nI 0) (by decide) ?_
  refine wp_istore_n d290_39 (Nat.le_of_ble_eq_true rfl) rfl ?_
  refine wp_iconst d290_40 (v := nI 0) (by decide) ?_
  refine wp_istore d290_41 (Nat.le_of_ble_eq_true rfl) rfl ?_
  refine r_count_l2 hR h6 hA _ 0 0 rfl (Nat.zero_le _) rfl ?_
  intro v8 b2 hb
  refine wp_iconst d290_81 (v := nI 0) (by decide) ?_
  refine wp_istore d290_82 (Nat.le_of_ble_eq_true rfl) rfl ?_
  refine wp_iconst d290_84 (v := nI 0) (by decide) ?_
  refine wp_istore d290_85 (Nat.le_of_ble_eq_true rfl) rfl ?_
  refine r_count_l3 hR h4 hG _ 0 (nI 0) rfl (Nat.zero_le _) rfl ?_
  intro v7 e he
  refine wp_iload_n d290_117 rfl ?_
  refine wp_tswIn d290_118 (by decide) (by decide) (off := 89) (by decide) (tgt := 207) (by decide) ?_
  refine wp_aload_n d290_207 rfl ?_
  refine wp_getf (e := 7) (ci := 12) (k := 0) (nest := false) d290_208 (by decide +kernel) (md_0 hR) rfl ?_
  refine wp_bipush d290_211 (v := nI 6) (by decide) ?_
  refine wp_iald d290_213 (md_1 hR) (nI_in (by omega) (by decide)) (v := nI nA) ((congrArg σ (nI_nat (by omega))).trans h6) ?_
  refine wp_iret d290_214 (by decide +kernel) ?_
  exact ⟨rfl, rfl⟩
theorem r_count_v8 {X : mX} {h : mH} {R : Nat → Nat → Int32} {σ : Nat → Int32} (hR : Ms h R σ) {mi nR nD nG nW nA n : Nat} (hC : Cn σ mi nR nD nG nW nA) (hn : R 0 5 = nI n) (hn4 : n ≤ 4)  : Tells X 290 [.ref 313, .int (nI 8)] h (nI (F_co σ nA)) := by
  obtain ⟨⟨h0, hmi⟩, ⟨h2, hR1, hR12⟩, ⟨h3, hD⟩, ⟨h4, hG⟩, ⟨h5, hW⟩, ⟨h6, hA⟩⟩ := hC
  refine wp_iconst d290_0 (v := nI 0) (by decide) ?_
  refine wp_istore_n d290_1 (Nat.le_of_ble_eq_true rfl) rfl ?_
  refine wp_iconst d290_2 (v := nI 0) (by decide) ?_
  refine wp_istore_n d290_3 (Nat.le_of_ble_eq_true rfl) rfl ?_
  refine r_count_l1 hR h5 hW _ 0 0 rfl (Nat.zero_le _) rfl ?_
  intro v9 a ha
  refine wp_iconst d290_38 (v := nI 0) (by decide) ?_
  refine wp_istore_n d290_39 (Nat.le_of_ble_eq_true rfl) rfl ?_
  refine wp_iconst d290_40 (v := nI 0) (by decide) ?_
  refine wp_istore d290_41 (Nat.le_of_ble_eq_true rfl) rfl ?_
  refine r_count_l2 hR h6 hA _ 0 0 rfl (Nat.zero_le _) rfl ?_
  intro v8 b2 hb
  refine wp_iconst d290_81 (v := nI 0) (by decide) ?_
  refine wp_istore d290_82 (Nat.le_of_ble_eq_true rfl) rfl ?_
  refine wp_iconst d290_84 (v := nI 0) (by decide) ?_
  refine wp_istore d290_85 (Nat.le_of_ble_eq_true rfl) rfl ?_
  refine r_count_l3 hR h4 hG _ 0 (nI 0) rfl (Nat.zero_le _) rfl ?_
  intro v7 e he
  refine wp_iload_n d290_117 rfl ?_
  refine wp_tswIn d290_118 (by decide) (by decide) (off := 97) (by decide) (tgt := 215) (by decide) ?_
  refine wp_iload_n d290_215 rfl ?_
  refine wp_iret d290_216 (by decide +kernel) ?_
  exact ⟨by rw [hb], rfl⟩
theorem r_count_v9 {X : mX} {h : mH} {R : Nat → Nat → Int32} {σ : Nat → Int32} (hR : Ms h R σ) {mi nR nD nG nW nA n : Nat} (hC : Cn σ mi nR nD nG nW nA) (hn : R 0 5 = nI n) (hn4 : n ≤ 4)  : Tells X 290 [.ref 313, .int (nI 9)] h (σ 7) := by
  obtain ⟨⟨h0, hmi⟩, ⟨h2, hR1, hR12⟩, ⟨h3, hD⟩, ⟨h4, hG⟩, ⟨h5, hW⟩, ⟨h6, hA⟩⟩ := hC
  refine wp_iconst d290_0 (v := nI 0) (by decide) ?_
  refine wp_istore_n d290_1 (Nat.le_of_ble_eq_true rfl) rfl ?_
  refine wp_iconst d290_2 (v := nI 0) (by decide) ?_
  refine wp_istore_n d290_3 (Nat.le_of_ble_eq_true rfl) rfl ?_
  refine r_count_l1 hR h5 hW _ 0 0 rfl (Nat.zero_le _) rfl ?_
  intro v9 a ha
  refine wp_iconst d290_38 (v := nI 0) (by decide) ?_
  refine wp_istore_n d290_39 (Nat.le_of_ble_eq_true rfl) rfl ?_
  refine wp_iconst d290_40 (v := nI 0) (by decide) ?_
  refine wp_istore d290_41 (Nat.le_of_ble_eq_true rfl) rfl ?_
  refine r_count_l2 hR h6 hA _ 0 0 rfl (Nat.zero_le _) rfl ?_
  intro v8 b2 hb
  refine wp_iconst d290_81 (v := nI 0) (by decide) ?_
  refine wp_istore d290_82 (Nat.le_of_ble_eq_true rfl) rfl ?_
  refine wp_iconst d290_84 (v := nI 0) (by decide) ?_
  refine wp_istore d290_85 (Nat.le_of_ble_eq_true rfl) rfl ?_
  refine r_count_l3 hR h4 hG _ 0 (nI 0) rfl (Nat.zero_le _) rfl ?_
  intro v7 e he
  refine wp_iload_n d290_117 rfl ?_
  refine wp_tswIn d290_118 (by decide) (by decide) (off := 99) (by decide) (tgt := 217) (by decide) ?_
  refine wp_aload_n d290_217 rfl ?_
  refine wp_getf (e := 7) (ci := 12) (k := 0) (nest := false) d290_218 (by decide +kernel) (md_0 hR) rfl ?_
  refine wp_bipush d290_221 (v := nI 7) (by decide) ?_
  refine wp_iald d290_223 (md_1 hR) (nI_in (by omega) (by decide)) (v := σ 7) ((congrArg σ (nI_nat (by omega))).trans rfl) ?_
  refine wp_iret d290_224 (by decide +kernel) ?_
  exact ⟨rfl, rfl⟩
theorem r_count_v10 {X : mX} {h : mH} {R : Nat → Nat → Int32} {σ : Nat → Int32} (hR : Ms h R σ) {mi nR nD nG nW nA n : Nat} (hC : Cn σ mi nR nD nG nW nA) (hn : R 0 5 = nI n) (hn4 : n ≤ 4)  : Tells X 290 [.ref 313, .int (nI 10)] h (F_oz σ 6) := by
  obtain ⟨⟨h0, hmi⟩, ⟨h2, hR1, hR12⟩, ⟨h3, hD⟩, ⟨h4, hG⟩, ⟨h5, hW⟩, ⟨h6, hA⟩⟩ := hC
  refine wp_iconst d290_0 (v := nI 0) (by decide) ?_
  refine wp_istore_n d290_1 (Nat.le_of_ble_eq_true rfl) rfl ?_
  refine wp_iconst d290_2 (v := nI 0) (by decide) ?_
  refine wp_istore_n d290_3 (Nat.le_of_ble_eq_true rfl) rfl ?_
  refine r_count_l1 hR h5 hW _ 0 0 rfl (Nat.zero_le _) rfl ?_
  intro v9 a ha
  refine wp_iconst d290_38 (v := nI 0) (by decide) ?_
  refine wp_istore_n d290_39 (Nat.le_of_ble_eq_true rfl) rfl ?_
  refine wp_iconst d290_40 (v := nI 0) (by decide) ?_
  refine wp_istore d290_41 (Nat.le_of_ble_eq_true rfl) rfl ?_
  refine r_count_l2 hR h6 hA _ 0 0 rfl (Nat.zero_le _) rfl ?_
  intro v8 b2 hb
  refine wp_iconst d290_81 (v := nI 0) (by decide) ?_
  refine wp_istore d290_82 (Nat.le_of_ble_eq_true rfl) rfl ?_
  refine wp_iconst d290_84 (v := nI 0) (by decide) ?_
  refine wp_istore d290_85 (Nat.le_of_ble_eq_true rfl) rfl ?_
  refine r_count_l3 hR h4 hG _ 0 (nI 0) rfl (Nat.zero_le _) rfl ?_
  intro v7 e he
  refine wp_iload_n d290_117 rfl ?_
  refine wp_tswIn d290_118 (by decide) (by decide) (off := 107) (by decide) (tgt := 225) (by decide) ?_
  refine wp_aload_n d290_225 rfl ?_
  refine wp_invvT (e := 77) (j2 := 225) (n := 0) d290_226 (by decide +kernel) (by decide +kernel) rfl rfl rfl (md_0 hR) (by decide +kernel) (Nat.le_of_ble_eq_true rfl) rfl rfl (Nat.le_of_ble_eq_true rfl) (by decide +kernel) (c_openZones hR) ?_
  refine wp_iret d290_229 (by decide +kernel) ?_
  exact ⟨rfl, rfl⟩
theorem r_count_v11 {X : mX} {h : mH} {R : Nat → Nat → Int32} {σ : Nat → Int32} (hR : Ms h R σ) {mi nR nD nG nW nA n : Nat} (hC : Cn σ mi nR nD nG nW nA) (hn : R 0 5 = nI n) (hn4 : n ≤ 4)  : Tells X 290 [.ref 313, .int (nI 11)] h (F_ko σ nG) := by
  obtain ⟨⟨h0, hmi⟩, ⟨h2, hR1, hR12⟩, ⟨h3, hD⟩, ⟨h4, hG⟩, ⟨h5, hW⟩, ⟨h6, hA⟩⟩ := hC
  refine wp_iconst d290_0 (v := nI 0) (by decide) ?_
  refine wp_istore_n d290_1 (Nat.le_of_ble_eq_true rfl) rfl ?_
  refine wp_iconst d290_2 (v := nI 0) (by decide) ?_
  refine wp_istore_n d290_3 (Nat.le_of_ble_eq_true rfl) rfl ?_
  refine r_count_l1 hR h5 hW _ 0 0 rfl (Nat.zero_le _) rfl ?_
  intro v9 a ha
  refine wp_iconst d290_38 (v := nI 0) (by decide) ?_
  refine wp_istore_n d290_39 (Nat.le_of_ble_eq_true rfl) rfl ?_
  refine wp_iconst d290_40 (v := nI 0) (by decide) ?_
  refine wp_istore d290_41 (Nat.le_of_ble_eq_true rfl) rfl ?_
  refine r_count_l2 hR h6 hA _ 0 0 rfl (Nat.zero_le _) rfl ?_
  intro v8 b2 hb
  refine wp_iconst d290_81 (v := nI 0) (by decide) ?_
  refine wp_istore d290_82 (Nat.le_of_ble_eq_true rfl) rfl ?_
  refine wp_iconst d290_84 (v := nI 0) (by decide) ?_
  refine wp_istore d290_85 (Nat.le_of_ble_eq_true rfl) rfl ?_
  refine r_count_l3 hR h4 hG _ 0 (nI 0) rfl (Nat.zero_le _) rfl ?_
  intro v7 e he
  refine wp_iload_n d290_117 rfl ?_
  refine wp_tswIn d290_118 (by decide) (by decide) (off := 112) (by decide) (tgt := 230) (by decide) ?_
  refine wp_aload_n d290_230 rfl ?_
  refine wp_invvT (e := 159) (j2 := 264) (n := 0) d290_231 (by decide +kernel) (by decide +kernel) rfl rfl rfl (md_0 hR) (by decide +kernel) (Nat.le_of_ble_eq_true rfl) rfl rfl (Nat.le_of_ble_eq_true rfl) (by decide +kernel) (c_keysOut hR h4 hG) ?_
  refine wp_iret d290_234 (by decide +kernel) ?_
  exact ⟨rfl, rfl⟩
theorem r_count_v12 {X : mX} {h : mH} {R : Nat → Nat → Int32} {σ : Nat → Int32} (hR : Ms h R σ) {mi nR nD nG nW nA n : Nat} (hC : Cn σ mi nR nD nG nW nA) (hn : R 0 5 = nI n) (hn4 : n ≤ 4)  : Tells X 290 [.ref 313, .int (nI 12)] h (nI (F_sy σ (4 * mi))) := by
  obtain ⟨⟨h0, hmi⟩, ⟨h2, hR1, hR12⟩, ⟨h3, hD⟩, ⟨h4, hG⟩, ⟨h5, hW⟩, ⟨h6, hA⟩⟩ := hC
  refine wp_iconst d290_0 (v := nI 0) (by decide) ?_
  refine wp_istore_n d290_1 (Nat.le_of_ble_eq_true rfl) rfl ?_
  refine wp_iconst d290_2 (v := nI 0) (by decide) ?_
  refine wp_istore_n d290_3 (Nat.le_of_ble_eq_true rfl) rfl ?_
  refine r_count_l1 hR h5 hW _ 0 0 rfl (Nat.zero_le _) rfl ?_
  intro v9 a ha
  refine wp_iconst d290_38 (v := nI 0) (by decide) ?_
  refine wp_istore_n d290_39 (Nat.le_of_ble_eq_true rfl) rfl ?_
  refine wp_iconst d290_40 (v := nI 0) (by decide) ?_
  refine wp_istore d290_41 (Nat.le_of_ble_eq_true rfl) rfl ?_
  refine r_count_l2 hR h6 hA _ 0 0 rfl (Nat.zero_le _) rfl ?_
  intro v8 b2 hb
  refine wp_iconst d290_81 (v := nI 0) (by decide) ?_
  refine wp_istore d290_82 (Nat.le_of_ble_eq_true rfl) rfl ?_
  refine wp_iconst d290_84 (v := nI 0) (by decide) ?_
  refine wp_istore d290_85 (Nat.le_of_ble_eq_true rfl) rfl ?_
  refine r_count_l3 hR h4 hG _ 0 (nI 0) rfl (Nat.zero_le _) rfl ?_
  intro v7 e he
  refine wp_iload_n d290_117 rfl ?_
  refine wp_tswIn d290_118 (by decide) (by decide) (off := 117) (by decide) (tgt := 235) (by decide) ?_
  refine wp_aload_n d290_235 rfl ?_
  refine wp_invvT (e := 189) (j2 := 291) (n := 0) d290_236 (by decide +kernel) (by decide +kernel) rfl rfl rfl (md_0 hR) (by decide +kernel) (Nat.le_of_ble_eq_true rfl) rfl rfl (Nat.le_of_ble_eq_true rfl) (by decide +kernel) (r_stays hR ⟨⟨h0, hmi⟩, ⟨h2, hR1, hR12⟩, ⟨h3, hD⟩, ⟨h4, hG⟩, ⟨h5, hW⟩, ⟨h6, hA⟩⟩ hn hn4) ?_
  refine wp_iret d290_239 (by decide +kernel) ?_
  exact ⟨rfl, rfl⟩
theorem r_count_v13 {X : mX} {h : mH} {R : Nat → Nat → Int32} {σ : Nat → Int32} (hR : Ms h R σ) {mi nR nD nG nW nA n : Nat} (hC : Cn σ mi nR nD nG nW nA) (hn : R 0 5 = nI n) (hn4 : n ≤ 4)  : Tells X 290 [.ref 313, .int (nI 13)] h (F_ch σ nG) := by
  obtain ⟨⟨h0, hmi⟩, ⟨h2, hR1, hR12⟩, ⟨h3, hD⟩, ⟨h4, hG⟩, ⟨h5, hW⟩, ⟨h6, hA⟩⟩ := hC
  refine wp_iconst d290_0 (v := nI 0) (by decide) ?_
  refine wp_istore_n d290_1 (Nat.le_of_ble_eq_true rfl) rfl ?_
  refine wp_iconst d290_2 (v := nI 0) (by decide) ?_
  refine wp_istore_n d290_3 (Nat.le_of_ble_eq_true rfl) rfl ?_
  refine r_count_l1 hR h5 hW _ 0 0 rfl (Nat.zero_le _) rfl ?_
  intro v9 a ha
  refine wp_iconst d290_38 (v := nI 0) (by decide) ?_
  refine wp_istore_n d290_39 (Nat.le_of_ble_eq_true rfl) rfl ?_
  refine wp_iconst d290_40 (v := nI 0) (by decide) ?_
  refine wp_istore d290_41 (Nat.le_of_ble_eq_true rfl) rfl ?_
  refine r_count_l2 hR h6 hA _ 0 0 rfl (Nat.zero_le _) rfl ?_
  intro v8 b2 hb
  refine wp_iconst d290_81 (v := nI 0) (by decide) ?_
  refine wp_istore d290_82 (Nat.le_of_ble_eq_true rfl) rfl ?_
  refine wp_iconst d290_84 (v := nI 0) (by decide) ?_
  refine wp_istore d290_85 (Nat.le_of_ble_eq_true rfl) rfl ?_
  refine r_count_l3 hR h4 hG _ 0 (nI 0) rfl (Nat.zero_le _) rfl ?_
  intro v7 e he
  refine wp_iload_n d290_117 rfl ?_
  refine wp_tswIn d290_118 (by decide) (by decide) (off := 122) (by decide) (tgt := 240) (by decide) ?_
  refine wp_iload d290_240 rfl ?_
  refine wp_iret d290_242 (by decide +kernel) ?_
  exact ⟨by rw [he], rfl⟩
theorem r_count_v14 {X : mX} {h : mH} {R : Nat → Nat → Int32} {σ : Nat → Int32} (hR : Ms h R σ) {mi nR nD nG nW nA n : Nat} (hC : Cn σ mi nR nD nG nW nA) (hn : R 0 5 = nI n) (hn4 : n ≤ 4)  : Tells X 290 [.ref 313, .int (nI 14)] h (nI n) := by
  obtain ⟨⟨h0, hmi⟩, ⟨h2, hR1, hR12⟩, ⟨h3, hD⟩, ⟨h4, hG⟩, ⟨h5, hW⟩, ⟨h6, hA⟩⟩ := hC
  refine wp_iconst d290_0 (v := nI 0) (by decide) ?_
  refine wp_istore_n d290_1 (Nat.le_of_ble_eq_true rfl) rfl ?_
  refine wp_iconst d290_2 (v := nI 0) (by decide) ?_
  refine wp_istore_n d290_3 (Nat.le_of_ble_eq_true rfl) rfl ?_
  refine r_count_l1 hR h5 hW _ 0 0 rfl (Nat.zero_le _) rfl ?_
  intro v9 a ha
  refine wp_iconst d290_38 (v := nI 0) (by decide) ?_
  refine wp_istore_n d290_39 (Nat.le_of_ble_eq_true rfl) rfl ?_
  refine wp_iconst d290_40 (v := nI 0) (by decide) ?_
  refine wp_istore d290_41 (Nat.le_of_ble_eq_true rfl) rfl ?_
  refine r_count_l2 hR h6 hA _ 0 0 rfl (Nat.zero_le _) rfl ?_
  intro v8 b2 hb
  refine wp_iconst d290_81 (v := nI 0) (by decide) ?_
  refine wp_istore d290_82 (Nat.le_of_ble_eq_true rfl) rfl ?_
  refine wp_iconst d290_84 (v := nI 0) (by decide) ?_
  refine wp_istore d290_85 (Nat.le_of_ble_eq_true rfl) rfl ?_
  refine r_count_l3 hR h4 hG _ 0 (nI 0) rfl (Nat.zero_le _) rfl ?_
  intro v7 e he
  refine wp_iload_n d290_117 rfl ?_
  refine wp_tswIn d290_118 (by decide) (by decide) (off := 125) (by decide) (tgt := 243) (by decide) ?_
  refine wp_aload_n d290_243 rfl ?_
  refine wp_getf (e := 31) (ci := 12) (k := 5) (nest := false) (v := .int (nI n)) d290_244 (by decide +kernel) (md_0 hR) (by rw [← hn]; rfl) ?_
  refine wp_iret d290_247 (by decide +kernel) ?_
  exact ⟨rfl, rfl⟩
theorem r_count_v15 {X : mX} {h : mH} {R : Nat → Nat → Int32} {σ : Nat → Int32} (hR : Ms h R σ) {mi nR nD nG nW nA n : Nat} (hC : Cn σ mi nR nD nG nW nA) (hn : R 0 5 = nI n) (hn4 : n ≤ 4) {tl : Nat} (ht : R 0 7 = nI tl) : Tells X 290 [.ref 313, .int (nI 15)] h (nI tl) := by
  obtain ⟨⟨h0, hmi⟩, ⟨h2, hR1, hR12⟩, ⟨h3, hD⟩, ⟨h4, hG⟩, ⟨h5, hW⟩, ⟨h6, hA⟩⟩ := hC
  refine wp_iconst d290_0 (v := nI 0) (by decide) ?_
  refine wp_istore_n d290_1 (Nat.le_of_ble_eq_true rfl) rfl ?_
  refine wp_iconst d290_2 (v := nI 0) (by decide) ?_
  refine wp_istore_n d290_3 (Nat.le_of_ble_eq_true rfl) rfl ?_
  refine r_count_l1 hR h5 hW _ 0 0 rfl (Nat.zero_le _) rfl ?_
  intro v9 a ha
  refine wp_iconst d290_38 (v := nI 0) (by decide) ?_
  refine wp_istore_n d290_39 (Nat.le_of_ble_eq_true rfl) rfl ?_
  refine wp_iconst d290_40 (v := nI 0) (by decide) ?_
  refine wp_istore d290_41 (Nat.le_of_ble_eq_true rfl) rfl ?_
  refine r_count_l2 hR h6 hA _ 0 0 rfl (Nat.zero_le _) rfl ?_
  intro v8 b2 hb
  refine wp_iconst d290_81 (v := nI 0) (by decide) ?_
  refine wp_istore d290_82 (Nat.le_of_ble_eq_true rfl) rfl ?_
  refine wp_iconst d290_84 (v := nI 0) (by decide) ?_
  refine wp_istore d290_85 (Nat.le_of_ble_eq_true rfl) rfl ?_
  refine r_count_l3 hR h4 hG _ 0 (nI 0) rfl (Nat.zero_le _) rfl ?_
  intro v7 e he
  refine wp_iload_n d290_117 rfl ?_
  refine wp_tswIn d290_118 (by decide) (by decide) (off := 130) (by decide) (tgt := 248) (by decide) ?_
  refine wp_aload_n d290_248 rfl ?_
  refine wp_getf (e := 162) (ci := 12) (k := 7) (nest := false) (v := .int (nI tl)) d290_249 (by decide +kernel) (md_0 hR) (by rw [← ht]; rfl) ?_
  refine wp_iret d290_252 (by decide +kernel) ?_
  exact ⟨rfl, rfl⟩
theorem r_zone_1 {X : mX} {h : mH} {R : Nat → Nat → Int32} {σ : Nat → Int32} (hR : Ms h R σ) {mi nR nD nG nW nA n : Nat} (hC : Cn σ mi nR nD nG nW nA) (hn : R 0 5 = nI n) (hn4 : n ≤ 4) {x v : Int32} (hx : ¬ (nI 0 ≤ x ∧ x ≤ nI 5)) : Tells X 279 [.ref 313, .int (x), .int (v)] h (-1) := by
  obtain ⟨⟨h0, hmi⟩, ⟨h2, hR1, hR12⟩, ⟨h3, hD⟩, ⟨h4, hG⟩, ⟨h5, hW⟩, ⟨h6, hA⟩⟩ := hC
  refine wp_iload_n d279_0 rfl ?_
  refine wp_invsT (e := 43) (j2 := 209) (n := 1) d279_1 (by decide +kernel) (by decide +kernel) rfl rfl rfl (Nat.le_of_ble_eq_true rfl) (Nat.le_of_ble_eq_true rfl) rfl rfl (Nat.le_of_ble_eq_true rfl) (by decide +kernel) (c_isZone (x)) ?_
  refine wp_ifb_ne d279_4 (tgt := 9) (by decide) (fun hq9 => absurd hq9 hx) (fun _ => ?_)
  refine wp_iconst d279_7 (v := (-1 : Int32)) (by decide) ?_
  refine wp_iret d279_8 (by decide +kernel) ?_
  exact ⟨rfl, rfl⟩
theorem r_zone_2 {X : mX} {h : mH} {R : Nat → Nat → Int32} {σ : Nat → Int32} (hR : Ms h R σ) {mi nR nD nG nW nA n : Nat} (hC : Cn σ mi nR nD nG nW nA) (hn : R 0 5 = nI n) (hn4 : n ≤ 4) {z : Nat} (hz : z < 6) {v : Int32} (hx : v.toInt < 0 ∨ 4 < v.toInt) : Tells X 279 [.ref 313, .int (nI z), .int (v)] h (-2) := by
  obtain ⟨⟨h0, hmi⟩, ⟨h2, hR1, hR12⟩, ⟨h3, hD⟩, ⟨h4, hG⟩, ⟨h5, hW⟩, ⟨h6, hA⟩⟩ := hC
  refine wp_iload_n d279_0 rfl ?_
  refine wp_invsT (e := 43) (j2 := 209) (n := 1) d279_1 (by decide +kernel) (by decide +kernel) rfl rfl rfl (Nat.le_of_ble_eq_true rfl) (Nat.le_of_ble_eq_true rfl) rfl rfl (Nat.le_of_ble_eq_true rfl) (by decide +kernel) (c_isZone (nI z)) ?_
  refine wp_ifb_ne d279_4 (tgt := 9) (by decide) (fun _ => ?_) (fun hq9 => absurd (⟨nI_le (by omega) (by omega), nI_le (by omega) (by omega)⟩ : nI 0 ≤ nI z ∧ nI z ≤ nI 5) hq9)
  refine wp_iconst d279_9 (v := nI 0) (by decide) ?_
  refine wp_istore_n d279_10 (Nat.le_of_ble_eq_true rfl) rfl ?_
  refine wp_iconst d279_11 (v := nI 0) (by decide) ?_
  refine wp_istore d279_12 (Nat.le_of_ble_eq_true rfl) rfl ?_
  refine wp_iconst d279_14 (v := nI 0) (by decide) ?_
  refine wp_istore d279_15 (Nat.le_of_ble_eq_true rfl) rfl ?_
  refine r_zone_l hR h2 hR12 h4 hG _ 0 0 0 _ rfl (Nat.zero_le _) rfl rfl ?_
  intro v9 a b2 l6 ha hb
  refine wp_iload_n d279_85 rfl ?_
  refine wp_tswOut d279_86 hx (tgt := 171) (by decide) ?_
  refine wp_bipush d279_171 (v := (-2 : Int32)) (by decide) ?_
  refine wp_iret d279_173 (by decide +kernel) ?_
  exact ⟨rfl, rfl⟩
theorem r_zone_v0 {X : mX} {h : mH} {R : Nat → Nat → Int32} {σ : Nat → Int32} (hR : Ms h R σ) {mi nR nD nG nW nA n : Nat} (hC : Cn σ mi nR nD nG nW nA) (hn : R 0 5 = nI n) (hn4 : n ≤ 4) {z : Nat} (hz : z < 6) : Tells X 279 [.ref 313, .int (nI z), .int (nI 0)] h (σ (8 + z)) := by
  obtain ⟨⟨h0, hmi⟩, ⟨h2, hR1, hR12⟩, ⟨h3, hD⟩, ⟨h4, hG⟩, ⟨h5, hW⟩, ⟨h6, hA⟩⟩ := hC
  refine wp_iload_n d279_0 rfl ?_
  refine wp_invsT (e := 43) (j2 := 209) (n := 1) d279_1 (by decide +kernel) (by decide +kernel) rfl rfl rfl (Nat.le_of_ble_eq_true rfl) (Nat.le_of_ble_eq_true rfl) rfl rfl (Nat.le_of_ble_eq_true rfl) (by decide +kernel) (c_isZone (nI z)) ?_
  refine wp_ifb_ne d279_4 (tgt := 9) (by decide) (fun _ => ?_) (fun hq9 => absurd (⟨nI_le (by omega) (by omega), nI_le (by omega) (by omega)⟩ : nI 0 ≤ nI z ∧ nI z ≤ nI 5) hq9)
  refine wp_iconst d279_9 (v := nI 0) (by decide) ?_
  refine wp_istore_n d279_10 (Nat.le_of_ble_eq_true rfl) rfl ?_
  refine wp_iconst d279_11 (v := nI 0) (by decide) ?_
  refine wp_istore d279_12 (Nat.le_of_ble_eq_true rfl) rfl ?_
  refine wp_iconst d279_14 (v := nI 0) (by decide) ?_
  refine wp_istore d279_15 (Nat.le_of_ble_eq_true rfl) rfl ?_
  refine r_zone_l hR h2 hR12 h4 hG _ 0 0 0 _ rfl (Nat.zero_le _) rfl rfl ?_
  intro v9 a b2 l6 ha hb
  refine wp_iload_n d279_85 rfl ?_
  refine wp_tswIn d279_86 (by decide) (by decide) (off := 34) (by decide) (tgt := 120) (by decide) ?_
  refine wp_aload_n d279_120 rfl ?_
  refine wp_getf (e := 7) (ci := 12) (k := 0) (nest := false) d279_121 (by decide +kernel) (md_0 hR) rfl ?_
  refine wp_bipush d279_124 (v := nI 8) (by decide) ?_
  refine wp_iload_n d279_126 rfl ?_
  refine wp_iaddv d279_127 (v := nI (8 + z)) (nI_add _ _) ?_
  refine wp_iald d279_128 (md_1 hR) (nI_in (by omega) (by decide)) (v := σ (8 + z)) ((congrArg σ (nI_nat (by omega))).trans rfl) ?_
  refine wp_iret d279_129 (by decide +kernel) ?_
  exact ⟨rfl, rfl⟩
theorem r_zone_v1 {X : mX} {h : mH} {R : Nat → Nat → Int32} {σ : Nat → Int32} (hR : Ms h R σ) {mi nR nD nG nW nA n : Nat} (hC : Cn σ mi nR nD nG nW nA) (hn : R 0 5 = nI n) (hn4 : n ≤ 4) {z : Nat} (hz : z < 6) : Tells X 279 [.ref 313, .int (nI z), .int (nI 1)] h (σ (14 + z)) := by
  obtain ⟨⟨h0, hmi⟩, ⟨h2, hR1, hR12⟩, ⟨h3, hD⟩, ⟨h4, hG⟩, ⟨h5, hW⟩, ⟨h6, hA⟩⟩ := hC
  refine wp_iload_n d279_0 rfl ?_
  refine wp_invsT (e := 43) (j2 := 209) (n := 1) d279_1 (by decide +kernel) (by decide +kernel) rfl rfl rfl (Nat.le_of_ble_eq_true rfl) (Nat.le_of_ble_eq_true rfl) rfl rfl (Nat.le_of_ble_eq_true rfl) (by decide +kernel) (c_isZone (nI z)) ?_
  refine wp_ifb_ne d279_4 (tgt := 9) (by decide) (fun _ => ?_) (fun hq9 => absurd (⟨nI_le (by omega) (by omega), nI_le (by omega) (by omega)⟩ : nI 0 ≤ nI z ∧ nI z ≤ nI 5) hq9)
  refine wp_iconst d279_9 (v := nI 0) (by decide) ?_
  refine wp_istore_n d279_10 (Nat.le_of_ble_eq_true rfl) rfl ?_
  refine wp_iconst d279_11 (v := nI 0) (by decide) ?_
  refine wp_istore d279_12 (Nat.le_of_ble_eq_true rfl) rfl ?_
  refine wp_iconst d279_14 (v := nI 0) (by decide) ?_
  refine wp_istore d279_15 (Nat.le_of_ble_eq_true rfl) rfl ?_
  refine r_zone_l hR h2 hR12 h4 hG _ 0 0 0 _ rfl (Nat.zero_le _) rfl rfl ?_
  intro v9 a b2 l6 ha hb
  refine wp_iload_n d279_85 rfl ?_
  refine wp_tswIn d279_86 (by decide) (by decide) (off := 44) (by decide) (tgt := 130) (by decide) ?_
  refine wp_aload_n d279_130 rfl ?_
  refine wp_getf (e := 7) (ci := 12) (k := 0) (nest := false) d279_131 (by decide +kernel) (md_0 hR) rfl ?_
  refine wp_bipush d279_134 (v := nI 14) (by decide) ?_
  refine wp_iload_n d279_136 rfl ?_
  refine wp_iaddv d279_137 (v := nI (14 + z)) (nI_add _ _) ?_
  refine wp_iald d279_138 (md_1 hR) (nI_in (by omega) (by decide)) (v := σ (14 + z)) ((congrArg σ (nI_nat (by omega))).trans rfl) ?_
  refine wp_iret d279_139 (by decide +kernel) ?_
  exact ⟨rfl, rfl⟩
theorem r_zone_v2 {X : mX} {h : mH} {R : Nat → Nat → Int32} {σ : Nat → Int32} (hR : Ms h R σ) {mi nR nD nG nW nA n : Nat} (hC : Cn σ mi nR nD nG nW nA) (hn : R 0 5 = nI n) (hn4 : n ≤ 4) {z : Nat} (hz : z < 6) : Tells X 279 [.ref 313, .int (nI z), .int (nI 2)] h (nI (F_zr σ (nI z) nR)) := by
  obtain ⟨⟨h0, hmi⟩, ⟨h2, hR1, hR12⟩, ⟨h3, hD⟩, ⟨h4, hG⟩, ⟨h5, hW⟩, ⟨h6, hA⟩⟩ := hC
  refine wp_iload_n d279_0 rfl ?_
  refine wp_invsT (e := 43) (j2 := 209) (n := 1) d279_1 (by decide +kernel) (by decide +kernel) rfl rfl rfl (Nat.le_of_ble_eq_true rfl) (Nat.le_of_ble_eq_true rfl) rfl rfl (Nat.le_of_ble_eq_true rfl) (by decide +kernel) (c_isZone (nI z)) ?_
  refine wp_ifb_ne d279_4 (tgt := 9) (by decide) (fun _ => ?_) (fun hq9 => absurd (⟨nI_le (by omega) (by omega), nI_le (by omega) (by omega)⟩ : nI 0 ≤ nI z ∧ nI z ≤ nI 5) hq9)
  refine wp_iconst d279_9 (v := nI 0) (by decide) ?_
  refine wp_istore_n d279_10 (Nat.le_of_ble_eq_true rfl) rfl ?_
  refine wp_iconst d279_11 (v := nI 0) (by decide) ?_
  refine wp_istore d279_12 (Nat.le_of_ble_eq_true rfl) rfl ?_
  refine wp_iconst d279_14 (v := nI 0) (by decide) ?_
  refine wp_istore d279_15 (Nat.le_of_ble_eq_true rfl) rfl ?_
  refine r_zone_l hR h2 hR12 h4 hG _ 0 0 0 _ rfl (Nat.zero_le _) rfl rfl ?_
  intro v9 a b2 l6 ha hb
  refine wp_iload_n d279_85 rfl ?_
  refine wp_tswIn d279_86 (by decide) (by decide) (off := 54) (by decide) (tgt := 140) (by decide) ?_
  refine wp_iload_n d279_140 rfl ?_
  refine wp_iret d279_141 (by decide +kernel) ?_
  exact ⟨by rw [ha], rfl⟩
theorem r_zone_v3 {X : mX} {h : mH} {R : Nat → Nat → Int32} {σ : Nat → Int32} (hR : Ms h R σ) {mi nR nD nG nW nA n : Nat} (hC : Cn σ mi nR nD nG nW nA) (hn : R 0 5 = nI n) (hn4 : n ≤ 4) {z : Nat} (hz : z < 6) : Tells X 279 [.ref 313, .int (nI z), .int (nI 3)] h (nI (F_zg σ (nI z) nG nR)) := by
  obtain ⟨⟨h0, hmi⟩, ⟨h2, hR1, hR12⟩, ⟨h3, hD⟩, ⟨h4, hG⟩, ⟨h5, hW⟩, ⟨h6, hA⟩⟩ := hC
  refine wp_iload_n d279_0 rfl ?_
  refine wp_invsT (e := 43) (j2 := 209) (n := 1) d279_1 (by decide +kernel) (by decide +kernel) rfl rfl rfl (Nat.le_of_ble_eq_true rfl) (Nat.le_of_ble_eq_true rfl) rfl rfl (Nat.le_of_ble_eq_true rfl) (by decide +kernel) (c_isZone (nI z)) ?_
  refine wp_ifb_ne d279_4 (tgt := 9) (by decide) (fun _ => ?_) (fun hq9 => absurd (⟨nI_le (by omega) (by omega), nI_le (by omega) (by omega)⟩ : nI 0 ≤ nI z ∧ nI z ≤ nI 5) hq9)
  refine wp_iconst d279_9 (v := nI 0) (by decide) ?_
  refine wp_istore_n d279_10 (Nat.le_of_ble_eq_true rfl) rfl ?_
  refine wp_iconst d279_11 (v := nI 0) (by decide) ?_
  refine wp_istore d279_12 (Nat.le_of_ble_eq_true rfl) rfl ?_
  refine wp_iconst d279_14 (v := nI 0) (by decide) ?_
  refine wp_istore d279_15 (Nat.le_of_ble_eq_true rfl) rfl ?_
  refine r_zone_l hR h2 hR12 h4 hG _ 0 0 0 _ rfl (Nat.zero_le _) rfl rfl ?_
  intro v9 a b2 l6 ha hb
  refine wp_iload_n d279_85 rfl ?_
  refine wp_tswIn d279_86 (by decide) (by decide) (off := 56) (by decide) (tgt := 142) (by decide) ?_
  refine wp_iload d279_142 rfl ?_
  refine wp_iret d279_144 (by decide +kernel) ?_
  exact ⟨by rw [hb], rfl⟩
theorem r_zone_v4 {X : mX} {h : mH} {R : Nat → Nat → Int32} {σ : Nat → Int32} (hR : Ms h R σ) {mi nR nD nG nW nA n : Nat} (hC : Cn σ mi nR nD nG nW nA) (hn : R 0 5 = nI n) (hn4 : n ≤ 4) {z : Nat} (hz : z < 6) : Tells X 279 [.ref 313, .int (nI z), .int (nI 4)] h (m_b (σ (8 + z) = 0 ∧ ¬ F_bar σ z 6)) := by
  obtain ⟨⟨h0, hmi⟩, ⟨h2, hR1, hR12⟩, ⟨h3, hD⟩, ⟨h4, hG⟩, ⟨h5, hW⟩, ⟨h6, hA⟩⟩ := hC
  refine wp_iload_n d279_0 rfl ?_
  refine wp_invsT (e := 43) (j2 := 209) (n := 1) d279_1 (by decide +kernel) (by decide +kernel) rfl rfl rfl (Nat.le_of_ble_eq_true rfl) (Nat.le_of_ble_eq_true rfl) rfl rfl (Nat.le_of_ble_eq_true rfl) (by decide +kernel) (c_isZone (nI z)) ?_
  refine wp_ifb_ne d279_4 (tgt := 9) (by decide) (fun _ => ?_) (fun hq9 => absurd (⟨nI_le (by omega) (by omega), nI_le (by omega) (by omega)⟩ : nI 0 ≤ nI z ∧ nI z ≤ nI 5) hq9)
  refine wp_iconst d279_9 (v := nI 0) (by decide) ?_
  refine wp_istore_n d279_10 (Nat.le_of_ble_eq_true rfl) rfl ?_
  refine wp_iconst d279_11 (v := nI 0) (by decide) ?_
  refine wp_istore d279_12 (Nat.le_of_ble_eq_true rfl) rfl ?_
  refine wp_iconst d279_14 (v := nI 0) (by decide) ?_
  refine wp_istore d279_15 (Nat.le_of_ble_eq_true rfl) rfl ?_
  refine r_zone_l hR h2 hR12 h4 hG _ 0 0 0 _ rfl (Nat.zero_le _) rfl rfl ?_
  intro v9 a b2 l6 ha hb
  refine wp_iload_n d279_85 rfl ?_
  refine wp_tswIn d279_86 (by decide) (by decide) (off := 59) (by decide) (tgt := 145) (by decide) ?_
  refine wp_aload_n d279_145 rfl ?_
  refine wp_getf (e := 7) (ci := 12) (k := 0) (nest := false) d279_146 (by decide +kernel) (md_0 hR) rfl ?_
  refine wp_bipush d279_149 (v := nI 8) (by decide) ?_
  refine wp_iload_n d279_151 rfl ?_
  refine wp_iaddv d279_152 (v := nI (8 + z)) (nI_add _ _) ?_
  refine wp_iald d279_153 (md_1 hR) (nI_in (by omega) (by decide)) (v := σ (8 + z)) ((congrArg σ (nI_nat (by omega))).trans rfl) ?_
  refine wp_if_ne d279_154 (tgt := 169) (by decide) (fun hc154 => ?_) (fun hc154 => ?_)
  · refine wp_iconst d279_169 (v := nI 0) (by decide) ?_
    refine wp_iret d279_170 (by decide +kernel) ?_
    exact ⟨congrArg (fun z => some (Value.int z)) (m_b_f (fun q => hc154 q.1)).symm, rfl⟩
  · refine wp_aload_n d279_157 rfl ?_
    refine wp_iload_n d279_158 rfl ?_
    refine wp_invvT (e := 74) (j2 := 224) (n := 1) d279_159 (by decide +kernel) (by decide +kernel) rfl rfl rfl (md_0 hR) (by decide +kernel) (Nat.le_of_ble_eq_true rfl) rfl rfl (Nat.le_of_ble_eq_true rfl) (by decide +kernel) (c_isBarred hR (z := z) (by omega)) ?_
    refine wp_ifb_ne d279_162 (tgt := 169) (by decide) (fun hc162 => ?_) (fun hc162 => ?_)
    · refine wp_iconst d279_169 (v := nI 0) (by decide) ?_
      refine wp_iret d279_170 (by decide +kernel) ?_
      exact ⟨congrArg (fun z => some (Value.int z)) (m_b_f (fun q => q.2 hc162)).symm, rfl⟩
    · refine wp_iconst d279_165 (v := nI 1) (by decide) ?_
      refine wp_goto d279_166 (tgt := 170) (by decide) ?_
      refine wp_iret d279_170 (by decide +kernel) ?_
      exact ⟨congrArg (fun z => some (Value.int z)) (m_b_t ⟨hc154, hc162⟩).symm, rfl⟩
