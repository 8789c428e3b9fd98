/-! The reference: the way. -/
theorem d287_0 : decode (m_code 287) 0 = .ok (.aload_n 0, 1) := by decide +kernel
theorem d287_1 : decode (m_code 287) 1 = .ok (.iload_n 1, 1) := by decide +kernel
theorem d287_2 : decode (m_code 287) 2 = .ok (.invokevirtual 94, 3) := by decide +kernel
theorem d287_5 : decode (m_code 287) 5 = .ok (.ifCond .eq 11, 3) := by decide +kernel
theorem d287_8 : decode (m_code 287) 8 = .ok (.aload_n 0, 1) := by decide +kernel
theorem d287_9 : decode (m_code 287) 9 = .ok (.iload_n 2, 1) := by decide +kernel
theorem d287_10 : decode (m_code 287) 10 = .ok (.invokevirtual 57, 3) := by decide +kernel
theorem d287_13 : decode (m_code 287) 13 = .ok (.ifCond .ne 5, 3) := by decide +kernel
theorem d287_16 : decode (m_code 287) 16 = .ok (.iconst (-1), 1) := by decide +kernel
theorem d287_17 : decode (m_code 287) 17 = .ok (.ireturn, 1) := by decide +kernel
theorem d287_18 : decode (m_code 287) 18 = .ok (.aload_n 0, 1) := by decide +kernel
theorem d287_19 : decode (m_code 287) 19 = .ok (.iload_n 1, 1) := by decide +kernel
theorem d287_20 : decode (m_code 287) 20 = .ok (.iconst 0, 1) := by decide +kernel
theorem d287_21 : decode (m_code 287) 21 = .ok (.invokevirtual 81, 3) := by decide +kernel
theorem d287_24 : decode (m_code 287) 24 = .ok (.ifCond .ge 7, 3) := by decide +kernel
theorem d287_27 : decode (m_code 287) 27 = .ok (.iconst 1, 1) := by decide +kernel
theorem d287_28 : decode (m_code 287) 28 = .ok (.goto 4, 3) := by decide +kernel
theorem d287_31 : decode (m_code 287) 31 = .ok (.iconst 0, 1) := by decide +kernel
theorem d287_32 : decode (m_code 287) 32 = .ok (.istore_n 3, 1) := by decide +kernel
theorem d287_33 : decode (m_code 287) 33 = .ok (.iconst 0, 1) := by decide +kernel
theorem d287_34 : decode (m_code 287) 34 = .ok (.istore 4, 2) := by decide +kernel
theorem d287_36 : decode (m_code 287) 36 = .ok (.iload 4, 2) := by decide +kernel
theorem d287_38 : decode (m_code 287) 38 = .ok (.bipush 12, 2) := by decide +kernel
theorem d287_40 : decode (m_code 287) 40 = .ok (.if_icmp .ge 19, 3) := by decide +kernel
theorem d287_43 : decode (m_code 287) 43 = .ok (.aload_n 0, 1) := by decide +kernel
theorem d287_44 : decode (m_code 287) 44 = .ok (.getfield 25, 3) := by decide +kernel
theorem d287_47 : decode (m_code 287) 47 = .ok (.iload 4, 2) := by decide +kernel
theorem d287_49 : decode (m_code 287) 49 = .ok (.sipush 10000, 3) := by decide +kernel
theorem d287_52 : decode (m_code 287) 52 = .ok (.iastore, 1) := by decide +kernel
theorem d287_53 : decode (m_code 287) 53 = .ok (.iinc 4 1, 3) := by decide +kernel
theorem d287_56 : decode (m_code 287) 56 = .ok (.goto (-20), 3) := by decide +kernel
theorem d287_59 : decode (m_code 287) 59 = .ok (.aload_n 0, 1) := by decide +kernel
theorem d287_60 : decode (m_code 287) 60 = .ok (.getfield 25, 3) := by decide +kernel
theorem d287_63 : decode (m_code 287) 63 = .ok (.aload_n 0, 1) := by decide +kernel
theorem d287_64 : decode (m_code 287) 64 = .ok (.iload_n 1, 1) := by decide +kernel
theorem d287_65 : decode (m_code 287) 65 = .ok (.iload_n 3, 1) := by decide +kernel
theorem d287_66 : decode (m_code 287) 66 = .ok (.ifCond .eq 7, 3) := by decide +kernel
theorem d287_69 : decode (m_code 287) 69 = .ok (.iconst 1, 1) := by decide +kernel
theorem d287_70 : decode (m_code 287) 70 = .ok (.goto 4, 3) := by decide +kernel
theorem d287_73 : decode (m_code 287) 73 = .ok (.iconst 0, 1) := by decide +kernel
theorem d287_74 : decode (m_code 287) 74 = .ok (.invokevirtual 81, 3) := by decide +kernel
theorem d287_77 : decode (m_code 287) 77 = .ok (.iload_n 3, 1) := by decide +kernel
theorem d287_78 : decode (m_code 287) 78 = .ok (.ifCond .eq 12, 3) := by decide +kernel
theorem d287_81 : decode (m_code 287) 81 = .ok (.aload_n 0, 1) := by decide +kernel
theorem d287_82 : decode (m_code 287) 82 = .ok (.iload_n 1, 1) := by decide +kernel
theorem d287_83 : decode (m_code 287) 83 = .ok (.iconst 2, 1) := by decide +kernel
theorem d287_84 : decode (m_code 287) 84 = .ok (.invokevirtual 81, 3) := by decide +kernel
theorem d287_87 : decode (m_code 287) 87 = .ok (.goto 4, 3) := by decide +kernel
theorem d287_90 : decode (m_code 287) 90 = .ok (.iconst 0, 1) := by decide +kernel
theorem d287_91 : decode (m_code 287) 91 = .ok (.iastore, 1) := by decide +kernel
theorem d287_92 : decode (m_code 287) 92 = .ok (.iconst 0, 1) := by decide +kernel
theorem d287_93 : decode (m_code 287) 93 = .ok (.istore 4, 2) := by decide +kernel
theorem d287_95 : decode (m_code 287) 95 = .ok (.iload 4, 2) := by decide +kernel
theorem d287_97 : decode (m_code 287) 97 = .ok (.bipush 12, 2) := by decide +kernel
theorem d287_99 : decode (m_code 287) 99 = .ok (.if_icmp .ge 166, 3) := by decide +kernel
theorem d287_102 : decode (m_code 287) 102 = .ok (.iconst 0, 1) := by decide +kernel
theorem d287_103 : decode (m_code 287) 103 = .ok (.istore 5, 2) := by decide +kernel
theorem d287_105 : decode (m_code 287) 105 = .ok (.iload 5, 2) := by decide +kernel
theorem d287_107 : decode (m_code 287) 107 = .ok (.aload_n 0, 1) := by decide +kernel
theorem d287_108 : decode (m_code 287) 108 = .ok (.getfield 7, 3) := by decide +kernel
theorem d287_111 : decode (m_code 287) 111 = .ok (.iconst 3, 1) := by decide +kernel
theorem d287_112 : decode (m_code 287) 112 = .ok (.iaload, 1) := by decide +kernel
theorem d287_113 : decode (m_code 287) 113 = .ok (.if_icmp .ge 146, 3) := by decide +kernel
theorem d287_116 : decode (m_code 287) 116 = .ok (.aload_n 0, 1) := by decide +kernel
theorem d287_117 : decode (m_code 287) 117 = .ok (.iload 5, 2) := by decide +kernel
theorem d287_119 : decode (m_code 287) 119 = .ok (.iconst 0, 1) := by decide +kernel
theorem d287_120 : decode (m_code 287) 120 = .ok (.invokevirtual 53, 3) := by decide +kernel
theorem d287_123 : decode (m_code 287) 123 = .ok (.istore 6, 2) := by decide +kernel
theorem d287_125 : decode (m_code 287) 125 = .ok (.aload_n 0, 1) := by decide +kernel
theorem d287_126 : decode (m_code 287) 126 = .ok (.iload 5, 2) := by decide +kernel
theorem d287_128 : decode (m_code 287) 128 = .ok (.iconst 1, 1) := by decide +kernel
theorem d287_129 : decode (m_code 287) 129 = .ok (.invokevirtual 53, 3) := by decide +kernel
theorem d287_132 : decode (m_code 287) 132 = .ok (.istore 7, 2) := by decide +kernel
theorem d287_134 : decode (m_code 287) 134 = .ok (.aload_n 0, 1) := by decide +kernel
theorem d287_135 : decode (m_code 287) 135 = .ok (.iload_n 1, 1) := by decide +kernel
theorem d287_136 : decode (m_code 287) 136 = .ok (.iload 5, 2) := by decide +kernel
theorem d287_138 : decode (m_code 287) 138 = .ok (.invokevirtual 128, 3) := by decide +kernel
theorem d287_141 : decode (m_code 287) 141 = .ok (.ifCond .eq 13, 3) := by decide +kernel
theorem d287_144 : decode (m_code 287) 144 = .ok (.aload_n 0, 1) := by decide +kernel
theorem d287_145 : decode (m_code 287) 145 = .ok (.iload 5, 2) := by decide +kernel
theorem d287_147 : decode (m_code 287) 147 = .ok (.iconst 2, 1) := by decide +kernel
theorem d287_148 : decode (m_code 287) 148 = .ok (.invokevirtual 53, 3) := by decide +kernel
theorem d287_151 : decode (m_code 287) 151 = .ok (.goto 6, 3) := by decide +kernel
theorem d287_154 : decode (m_code 287) 154 = .ok (.sipush 10000, 3) := by decide +kernel
theorem d287_157 : decode (m_code 287) 157 = .ok (.istore 8, 2) := by decide +kernel
theorem d287_159 : decode (m_code 287) 159 = .ok (.aload_n 0, 1) := by decide +kernel
theorem d287_160 : decode (m_code 287) 160 = .ok (.getfield 25, 3) := by decide +kernel
theorem d287_163 : decode (m_code 287) 163 = .ok (.iload 6, 2) := by decide +kernel
theorem d287_165 : decode (m_code 287) 165 = .ok (.aload_n 0, 1) := by decide +kernel
theorem d287_166 : decode (m_code 287) 166 = .ok (.getfield 25, 3) := by decide +kernel
theorem d287_169 : decode (m_code 287) 169 = .ok (.iload 7, 2) := by decide +kernel
theorem d287_171 : decode (m_code 287) 171 = .ok (.iaload, 1) := by decide +kernel
theorem d287_172 : decode (m_code 287) 172 = .ok (.iload 8, 2) := by decide +kernel
theorem d287_174 : decode (m_code 287) 174 = .ok (.iadd, 1) := by decide +kernel
theorem d287_175 : decode (m_code 287) 175 = .ok (.aload_n 0, 1) := by decide +kernel
theorem d287_176 : decode (m_code 287) 176 = .ok (.getfield 25, 3) := by decide +kernel
theorem d287_179 : decode (m_code 287) 179 = .ok (.iload 6, 2) := by decide +kernel
theorem d287_181 : decode (m_code 287) 181 = .ok (.iaload, 1) := by decide +kernel
theorem d287_182 : decode (m_code 287) 182 = .ok (.if_icmp .ge 16, 3) := by decide +kernel
theorem d287_185 : decode (m_code 287) 185 = .ok (.aload_n 0, 1) := by decide +kernel
theorem d287_186 : decode (m_code 287) 186 = .ok (.getfield 25, 3) := by decide +kernel
theorem d287_189 : decode (m_code 287) 189 = .ok (.iload 7, 2) := by decide +kernel
theorem d287_191 : decode (m_code 287) 191 = .ok (.iaload, 1) := by decide +kernel
theorem d287_192 : decode (m_code 287) 192 = .ok (.iload 8, 2) := by decide +kernel
theorem d287_194 : decode (m_code 287) 194 = .ok (.iadd, 1) := by decide +kernel
theorem d287_195 : decode (m_code 287) 195 = .ok (.goto 10, 3) := by decide +kernel
theorem d287_198 : decode (m_code 287) 198 = .ok (.aload_n 0, 1) := by decide +kernel
theorem d287_199 : decode (m_code 287) 199 = .ok (.getfield 25, 3) := by decide +kernel
theorem d287_202 : decode (m_code 287) 202 = .ok (.iload 6, 2) := by decide +kernel
theorem d287_204 : decode (m_code 287) 204 = .ok (.iaload, 1) := by decide +kernel
theorem d287_205 : decode (m_code 287) 205 = .ok (.iastore, 1) := by decide +kernel
theorem d287_206 : decode (m_code 287) 206 = .ok (.aload_n 0, 1) := by decide +kernel
theorem d287_207 : decode (m_code 287) 207 = .ok (.getfield 25, 3) := by decide +kernel
theorem d287_210 : decode (m_code 287) 210 = .ok (.iload 7, 2) := by decide +kernel
theorem d287_212 : decode (m_code 287) 212 = .ok (.aload_n 0, 1) := by decide +kernel
theorem d287_213 : decode (m_code 287) 213 = .ok (.getfield 25, 3) := by decide +kernel
theorem d287_216 : decode (m_code 287) 216 = .ok (.iload 6, 2) := by decide +kernel
theorem d287_218 : decode (m_code 287) 218 = .ok (.iaload, 1) := by decide +kernel
theorem d287_219 : decode (m_code 287) 219 = .ok (.iload 8, 2) := by decide +kernel
theorem d287_221 : decode (m_code 287) 221 = .ok (.iadd, 1) := by decide +kernel
theorem d287_222 : decode (m_code 287) 222 = .ok (.aload_n 0, 1) := by decide +kernel
theorem d287_223 : decode (m_code 287) 223 = .ok (.getfield 25, 3) := by decide +kernel
theorem d287_226 : decode (m_code 287) 226 = .ok (.iload 7, 2) := by decide +kernel
theorem d287_228 : decode (m_code 287) 228 = .ok (.iaload, 1) := by decide +kernel
theorem d287_229 : decode (m_code 287) 229 = .ok (.if_icmp .ge 16, 3) := by decide +kernel
theorem d287_232 : decode (m_code 287) 232 = .ok (.aload_n 0, 1) := by decide +kernel
theorem d287_233 : decode (m_code 287) 233 = .ok (.getfield 25, 3) := by decide +kernel
theorem d287_236 : decode (m_code 287) 236 = .ok (.iload 6, 2) := by decide +kernel
theorem d287_238 : decode (m_code 287) 238 = .ok (.iaload, 1) := by decide +kernel
theorem d287_239 : decode (m_code 287) 239 = .ok (.iload 8, 2) := by decide +kernel
theorem d287_241 : decode (m_code 287) 241 = .ok (.iadd, 1) := by decide +kernel
theorem d287_242 : decode (m_code 287) 242 = .ok (.goto 10, 3) := by decide +kernel
theorem d287_245 : decode (m_code 287) 245 = .ok (.aload_n 0, 1) := by decide +kernel
theorem d287_246 : decode (m_code 287) 246 = .ok (.getfield 25, 3) := by decide +kernel
theorem d287_249 : decode (m_code 287) 249 = .ok (.iload 7, 2) := by decide +kernel
theorem d287_251 : decode (m_code 287) 251 = .ok (.iaload, 1) := by decide +kernel
theorem d287_252 : decode (m_code 287) 252 = .ok (.iastore, 1) := by decide +kernel
theorem d287_253 : decode (m_code 287) 253 = .ok (.iinc 5 1, 3) := by decide +kernel
theorem d287_256 : decode (m_code 287) 256 = .ok (.goto (-151), 3) := by decide +kernel
theorem d287_259 : decode (m_code 287) 259 = .ok (.iinc 4 1, 3) := by decide +kernel
theorem d287_262 : decode (m_code 287) 262 = .ok (.goto (-167), 3) := by decide +kernel
theorem d287_265 : decode (m_code 287) 265 = .ok (.aload_n 0, 1) := by decide +kernel
theorem d287_266 : decode (m_code 287) 266 = .ok (.getfield 25, 3) := by decide +kernel
theorem d287_269 : decode (m_code 287) 269 = .ok (.iload_n 2, 1) := by decide +kernel
theorem d287_270 : decode (m_code 287) 270 = .ok (.iaload, 1) := by decide +kernel
theorem d287_271 : decode (m_code 287) 271 = .ok (.sipush 10000, 3) := by decide +kernel
theorem d287_274 : decode (m_code 287) 274 = .ok (.if_icmp .ge 12, 3) := by decide +kernel
theorem d287_277 : decode (m_code 287) 277 = .ok (.aload_n 0, 1) := by decide +kernel
theorem d287_278 : decode (m_code 287) 278 = .ok (.getfield 25, 3) := by decide +kernel
theorem d287_281 : decode (m_code 287) 281 = .ok (.iload_n 2, 1) := by decide +kernel
theorem d287_282 : decode (m_code 287) 282 = .ok (.iaload, 1) := by decide +kernel
theorem d287_283 : decode (m_code 287) 283 = .ok (.goto 5, 3) := by decide +kernel
theorem d287_286 : decode (m_code 287) 286 = .ok (.bipush (-5), 2) := by decide +kernel
theorem d287_288 : decode (m_code 287) 288 = .ok (.ireturn, 1) := by decide +kernel
/-- the minutes that a door asks of a guard; far, if the guard may not pass -/
def F_mn (σ : Nat → Int32) (g d : Nat) : Int32 := if σ (92 + 5 * d + 3) < 0 ∨ F_bit (σ (192 + 10 * g + 6)) (σ (92 + 5 * d + 3)) then σ (92 + 5 * d + 2) else nI 10000
def F_wa (f : Nat → Int32) (o p : Nat) (m : Int32) : Nat → Int32 := upd f o (if f p + m < f o then f p + m else f o)
def F_w1 (f : Nat → Int32) (o p : Nat) (m : Int32) : Nat → Int32 := F_wa (F_wa f o p m) p o m
/-- how far the rooms are, after the first d doors of a round -/
def F_wd (σ : Nat → Int32) (g : Nat) (f : Nat → Int32) : Nat → (Nat → Int32)
  | 0 => f
  | d + 1 => F_w1 (F_wd σ g f d) (σ (92 + 5 * d + 0)).toNatClampNeg (σ (92 + 5 * d + 1)).toNatClampNeg (F_mn σ g d)
def F_ww (σ : Nat → Int32) (g nD : Nat) (f : Nat → Int32) : Nat → (Nat → Int32)
  | 0 => f
  | k + 1 => F_wd σ g (F_ww σ g nD f k) nD
def F_fill (f : Nat → Int32) (k : Nat) : Nat → Int32 := fun i => if i < k then nI 10000 else f i
theorem F_fill_0 (f : Nat → Int32) : F_fill f 0 = f := by
  funext i
  unfold F_fill
  rw [if_neg (by omega)]
theorem F_fill_s (f : Nat → Int32) (k : Nat) : upd (F_fill f k) k (nI 10000) = F_fill f (k + 1) := by
  funext i
  unfold F_fill upd
  by_cases h : i = k
  · rw [if_pos h, if_pos (by omega)]
  · rw [if_neg h]
    show (if i < k then nI 10000 else f i) = _
    by_cases h2 : i < k
    · rw [if_pos h2, if_pos (by omega)]
    · rw [if_neg h2, if_neg (by omega)]
theorem mw_6 {h : mH} {R : Nat → Nat → Int32} {σ f : Nat → Int32} (hR : Ms h (stM R 6 f) σ) : m_get h 319 = some (.inl (false, 12, f)) := md_6 hR
theorem r_way_f {X : mX}  {h0 : mH} {R : Nat → Nat → Int32} {σ f : Nat → Int32} {x y wk : Int32} {l5 l6 l7 l8 : Option Value} {Q : Option Value → mH → Prop} : ∀ (d : Nat) (k : Nat) (h : mH), 12 - k = d → k ≤ 12 → Ms h (stM R 6 (F_fill f k)) σ → Frm h0 h 313 8 → (∀ h1, Ms h1 (stM R 6 (F_fill f 12)) σ → Frm h0 h1 313 8 → ∀ v, m_wp X 287 59 [some (.ref 313), some (.int x), some (.int y), some (.int wk), some (.int v), l5, l6, l7, l8] [] h1 Q) → m_wp X 287 36 [some (.ref 313), some (.int (x)), some (.int (y)), some (.int (wk)), some (.int (nI k)), l5, l6, l7, l8] [] h Q := by
  intro d
  induction d using Nat.strongRecOn with
  | ind d ih =>
    intro k h hd hk hR hF K
    refine wp_iload d287_36 rfl ?_
    refine wp_bipush d287_38 (v := nI 12) (by decide) ?_
    refine wp_icmp_ge d287_40 (tgt := 59) (by decide) (fun hc40 => ?_) (fun hc40 => ?_)
    · have hc40 : 12 ≤ k := (nI_leI (by omega) (by omega)).mp hc40
      rw [show k = 12 by omega] at hR
      exact K _ hR hF _
    · have hc40 : ¬ (12 ≤ k) := fun z => hc40 ((nI_leI (by omega) (by omega)).mpr z)
      refine wp_aload_n d287_43 rfl ?_
      refine wp_getf (e := 25) (ci := 12) (k := 8) (nest := false) d287_44 (by decide +kernel) (md_0 hR) rfl ?_
      refine wp_iload d287_47 rfl ?_
      refine wp_sipush d287_49 (v := nI 10000) (by decide) ?_
      refine wp_iast d287_52 (mw_6 hR) (nI_in (by omega) (by decide)) ?_
      rw [nI_nat (by omega)]
      have hF := hF.trans (Frm.set (o := 6) (cl := .inl (false, 12, (upd ((F_fill f k)) (k) (nI 10000)))) (by decide) : Frm _ _ 313 8)
      have hR := md_putA (o := 6) (n := 12) (f := (upd ((F_fill f k)) (k) (nI 10000))) hR (by decide) rfl rfl
      rw [stM_twice] at hR
      refine wp_iinc d287_53 rfl (v := nI (k + 1)) (nI_add _ 1) (Nat.le_of_ble_eq_true rfl) rfl ?_
      refine wp_goto d287_56 (tgt := 36) (by decide) ?_
      rw [F_fill_s] at hR hF ⊢
      exact ih (12 - (k + 1)) (by omega) (k + 1) _ rfl (by omega) hR hF K
theorem r_way_d {X : mX}  {h0 : mH} {R : Nat → Nat → Int32} {σ f0 : Nat → Int32} {nD g : Nat} {y wk l4 : Int32} {Q : Option Value → mH → Prop} (hg : g < 4) (h3 : σ 3 = nI nD) (hD : nD ≤ 20) (hdo : ∀ d, d < nD → ∃ o p, o < 12 ∧ σ (92 + 5 * d + 0) = nI o ∧ p < 12 ∧ σ (92 + 5 * d + 1) = nI p) : ∀ (d : Nat) (k : Nat) (f : Nat → Int32) (h : mH) (l6 l7 l8 : Option Value), nD - k = d → k ≤ nD → f = F_wd σ g f0 k → Ms h (stM R 6 f) σ → Frm h0 h 313 8 → (∀ h1, Ms h1 (stM R 6 (F_wd σ g f0 nD)) σ → Frm h0 h1 313 8 → ∀ v l6 l7 l8, m_wp X 287 259 [some (.ref 313), some (.int (nI g)), some (.int y), some (.int wk), some (.int l4), some (.int v), l6, l7, l8] [] h1 Q) → m_wp X 287 105 [some (.ref 313), some (.int (nI g)), some (.int (y)), some (.int (wk)), some (.int (l4)), some (.int (nI k)), l6, l7, l8] [] h Q := by
  intro d
  induction d using Nat.strongRecOn with
  | ind d ih =>
    intro k f h l6 l7 l8 hd hk hf hR hF K
    refine wp_iload d287_105 rfl ?_
    refine wp_aload_n d287_107 rfl ?_
    refine wp_getf (e := 7) (ci := 12) (k := 0) (nest := false) d287_108 (by decide +kernel) (md_0 hR) rfl ?_
    refine wp_iconst d287_111 (v := nI 3) (by decide) ?_
    refine wp_iald d287_112 (md_1 hR) (nI_in (by omega) (by decide)) (v := nI nD) ((congrArg σ (nI_nat (by omega))).trans h3) ?_
    refine wp_icmp_ge d287_113 (tgt := 259) (by decide) (fun hc113 => ?_) (fun hc113 => ?_)
    · have hc113 : nD ≤ k := (nI_leI (by omega) (by omega)).mp hc113
      exact K _ (by rw [show nD = k by omega, ← hf]; exact hR) hF _ _ _ _
    · have hc113 : ¬ (nD ≤ k) := fun z => hc113 ((nI_leI (by omega) (by omega)).mpr z)
      obtain ⟨o, p, ho12, ho, hp12, hp⟩ := hdo k (by omega)
      refine wp_aload_n d287_116 rfl ?_
      refine wp_iload d287_117 rfl ?_
      refine wp_iconst d287_119 (v := nI 0) (by decide) ?_
      refine wp_invvT (e := 53) (j2 := 217) (n := 2) d287_120 (by decide +kernel) (by decide +kernel) rfl rfl rfl (md_0 hR) (by decide +kernel) (Nat.le_of_ble_eq_true rfl) rfl rfl (Nat.le_of_ble_eq_true rfl) (by decide +kernel) (show Tells X 217 [.ref 313, .int (nI k), .int (nI 0)] h (nI o) from ho ▸ c_doorPart hR (r := k) (p := 0) (by omega) (by omega)) ?_
      refine wp_istore d287_123 (Nat.le_of_ble_eq_true rfl) rfl ?_
      refine wp_aload_n d287_125 rfl ?_
      refine wp_iload d287_126 rfl ?_
      refine wp_iconst d287_128 (v := nI 1) (by decide) ?_
      refine wp_invvT (e := 53) (j2 := 217) (n := 2) d287_129 (by decide +kernel) (by decide +kernel) rfl rfl rfl (md_0 hR) (by decide +kernel) (Nat.le_of_ble_eq_true rfl) rfl rfl (Nat.le_of_ble_eq_true rfl) (by decide +kernel) (show Tells X 217 [.ref 313, .int (nI k), .int (nI 1)] h (nI p) from hp ▸ c_doorPart hR (r := k) (p := 1) (by omega) (by omega)) ?_
      refine wp_istore d287_132 (Nat.le_of_ble_eq_true rfl) rfl ?_
      refine wp_aload_n d287_134 rfl ?_
      refine wp_iload_n d287_135 rfl ?_
      refine wp_iload d287_136 rfl ?_
      refine wp_invvT (e := 128) (j2 := 258) (n := 2) d287_138 (by decide +kernel) (by decide +kernel) rfl rfl rfl (md_0 hR) (by decide +kernel) (Nat.le_of_ble_eq_true rfl) rfl rfl (Nat.le_of_ble_eq_true rfl) (by decide +kernel) (c_mayPass hR (g := g) (d := k) (by omega) (by omega)) ?_
      refine wp_ifb_eq d287_141 (tgt := 154) (by decide) (fun hc141 => ?_) (fun hc141 => ?_)
      · refine wp_sipush d287_154 (v := nI 10000) (by decide) ?_
        refine wp_istore d287_157 (Nat.le_of_ble_eq_true rfl) rfl ?_
        refine wp_aload_n d287_159 rfl ?_
        refine wp_getf (e := 25) (ci := 12) (k := 8) (nest := false) d287_160 (by decide +kernel) (md_0 hR) rfl ?_
        refine wp_iload d287_163 rfl ?_
        refine wp_aload_n d287_165 rfl ?_
        refine wp_getf (e := 25) (ci := 12) (k := 8) (nest := false) d287_166 (by decide +kernel) (md_0 hR) rfl ?_
        refine wp_iload d287_169 rfl ?_
        refine wp_iald d287_171 (mw_6 hR) (nI_in (by omega) (by decide)) (v := (f (p))) (congrArg f (nI_nat (by omega))) ?_
        refine wp_iload d287_172 rfl ?_
        refine wp_iadd d287_174 ?_
        refine wp_aload_n d287_175 rfl ?_
        refine wp_getf (e := 25) (ci := 12) (k := 8) (nest := false) d287_176 (by decide +kernel) (md_0 hR) rfl ?_
        refine wp_iload d287_179 rfl ?_
        refine wp_iald d287_181 (mw_6 hR) (nI_in (by omega) (by decide)) (v := (f (o))) (congrArg f (nI_nat (by omega))) ?_
        refine wp_icmp_ge d287_182 (tgt := 198) (by decide) (fun hc182 => ?_) (fun hc182 => ?_)
        · refine wp_aload_n d287_198 rfl ?_
          refine wp_getf (e := 25) (ci := 12) (k := 8) (nest := false) d287_199 (by decide +kernel) (md_0 hR) rfl ?_
          refine wp_iload d287_202 rfl ?_
          refine wp_iald d287_204 (mw_6 hR) (nI_in (by omega) (by decide)) (v := (f (o))) (congrArg f (nI_nat (by omega))) ?_
          refine wp_iast d287_205 (mw_6 hR) (nI_in (by omega) (by decide)) ?_
          rw [nI_nat (by omega)]
          have hF := hF.trans (Frm.set (o := 6) (cl := .inl (false, 12, (upd f (o) ((f (o)))))) (by decide) : Frm _ _ 313 8)
          have hR := md_putA (o := 6) (n := 12) (f := (upd f (o) ((f (o))))) hR (by decide) rfl rfl
          rw [stM_twice] at hR
          refine wp_aload_n d287_206 rfl ?_
          refine wp_getf (e := 25) (ci := 12) (k := 8) (nest := false) d287_207 (by decide +kernel) (md_0 hR) rfl ?_
          refine wp_iload d287_210 rfl ?_
          refine wp_aload_n d287_212 rfl ?_
          refine wp_getf (e := 25) (ci := 12) (k := 8) (nest := false) d287_213 (by decide +kernel) (md_0 hR) rfl ?_
          refine wp_iload d287_216 rfl ?_
          refine wp_iald d287_218 (mw_6 hR) (nI_in (by omega) (by decide)) (v := (((upd f (o) ((f (o))))) (o))) (congrArg ((upd f (o) ((f (o))))) (nI_nat (by omega))) ?_
          refine wp_iload d287_219 rfl ?_
          refine wp_iadd d287_221 ?_
          refine wp_aload_n d287_222 rfl ?_
          refine wp_getf (e := 25) (ci := 12) (k := 8) (nest := false) d287_223 (by decide +kernel) (md_0 hR) rfl ?_
          refine wp_iload d287_226 rfl ?_
          refine wp_iald d287_228 (mw_6 hR) (nI_in (by omega) (by decide)) (v := (((upd f (o) ((f (o))))) (p))) (congrArg ((upd f (o) ((f (o))))) (nI_nat (by omega))) ?_
          refine wp_icmp_ge d287_229 (tgt := 245) (by decide) (fun hc229 => ?_) (fun hc229 => ?_)
          · refine wp_aload_n d287_245 rfl ?_
            refine wp_getf (e := 25) (ci := 12) (k := 8) (nest := false) d287_246 (by decide +kernel) (md_0 hR) rfl ?_
            refine wp_iload d287_249 rfl ?_
            refine wp_iald d287_251 (mw_6 hR) (nI_in (by omega) (by decide)) (v := (((upd f (o) ((f (o))))) (p))) (congrArg ((upd f (o) ((f (o))))) (nI_nat (by omega))) ?_
            refine wp_iast d287_252 (mw_6 hR) (nI_in (by omega) (by decide)) ?_
            rw [nI_nat (by omega)]
            have hF := hF.trans (Frm.set (o := 6) (cl := .inl (false, 12, (upd ((upd f (o) ((f (o))))) (p) ((((upd f (o) ((f (o))))) (p)))))) (by decide) : Frm _ _ 313 8)
            have hR := md_putA (o := 6) (n := 12) (f := (upd ((upd f (o) ((f (o))))) (p) ((((upd f (o) ((f (o))))) (p))))) hR (by decide) rfl rfl
            rw [stM_twice] at hR
            refine wp_iinc d287_253 rfl (v := nI (k + 1)) (nI_add _ 1) (Nat.le_of_ble_eq_true rfl) rfl ?_
            refine wp_goto d287_256 (tgt := 105) (by decide) ?_
            have hm : F_mn σ g k = nI 10000 := if_neg hc141
            have hw : F_wd σ g f0 (k + 1) = (upd ((upd f (o) ((f (o))))) (p) ((((upd f (o) ((f (o))))) (p)))) := by rw [F_wd, ho, hp, nI_nat (by omega), nI_nat (by omega), hm, ← hf, F_w1, F_wa, F_wa, if_neg (Int32.not_lt.mpr hc182), if_neg (Int32.not_lt.mpr hc229)]
            exact ih (nD - (k + 1)) (by omega) (k + 1) _ _ _ _ _ rfl (by omega) hw.symm hR hF K
          · refine wp_aload_n d287_232 rfl ?_
            refine wp_getf (e := 25) (ci := 12) (k := 8) (nest := false) d287_233 (by decide +kernel) (md_0 hR) rfl ?_
            refine wp_iload d287_236 rfl ?_
            refine wp_iald d287_238 (mw_6 hR) (nI_in (by omega) (by decide)) (v := (((upd f (o) ((f (o))))) (o))) (congrArg ((upd f (o) ((f (o))))) (nI_nat (by omega))) ?_
            refine wp_iload d287_239 rfl ?_
            refine wp_iadd d287_241 ?_
            refine wp_goto d287_242 (tgt := 252) (by decide) ?_
            refine wp_iast d287_252 (mw_6 hR) (nI_in (by omega) (by decide)) ?_
            rw [nI_nat (by omega)]
            have hF := hF.trans (Frm.set (o := 6) (cl := .inl (false, 12, (upd ((upd f (o) ((f (o))))) (p) (((((upd f (o) ((f (o))))) (o)) + (nI 10000)))))) (by decide) : Frm _ _ 313 8)
            have hR := md_putA (o := 6) (n := 12) (f := (upd ((upd f (o) ((f (o))))) (p) (((((upd f (o) ((f (o))))) (o)) + (nI 10000))))) hR (by decide) rfl rfl
            rw [stM_twice] at hR
            refine wp_iinc d287_253 rfl (v := nI (k + 1)) (nI_add _ 1) (Nat.le_of_ble_eq_true rfl) rfl ?_
            refine wp_goto d287_256 (tgt := 105) (by decide) ?_
            have hm : F_mn σ g k = nI 10000 := if_neg hc141
            have hw : F_wd σ g f0 (k + 1) = (upd ((upd f (o) ((f (o))))) (p) (((((upd f (o) ((f (o))))) (o)) + (nI 10000)))) := by rw [F_wd, ho, hp, nI_nat (by omega), nI_nat (by omega), hm, ← hf, F_w1, F_wa, F_wa, if_neg (Int32.not_lt.mpr hc182), if_pos (Int32.not_le.mp hc229)]
            exact ih (nD - (k + 1)) (by omega) (k + 1) _ _ _ _ _ rfl (by omega) hw.symm hR hF K
        · refine wp_aload_n d287_185 rfl ?_
          refine wp_getf (e := 25) (ci := 12) (k := 8) (nest := false) d287_186 (by decide +kernel) (md_0 hR) rfl ?_
          refine wp_iload d287_189 rfl ?_
          refine wp_iald d287_191 (mw_6 hR) (nI_in (by omega) (by decide)) (v := (f (p))) (congrArg f (nI_nat (by omega))) ?_
          refine wp_iload d287_192 rfl ?_
          refine wp_iadd d287_194 ?_
          refine wp_goto d287_195 (tgt := 205) (by decide) ?_
          refine wp_iast d287_205 (mw_6 hR) (nI_in (by omega) (by decide)) ?_
          rw [nI_nat (by omega)]
          have hF := hF.trans (Frm.set (o := 6) (cl := .inl (false, 12, (upd f (o) (((f (p)) + (nI 10000)))))) (by decide) : Frm _ _ 313 8)
          have hR := md_putA (o := 6) (n := 12) (f := (upd f (o) (((f (p)) + (nI 10000))))) hR (by decide) rfl rfl
          rw [stM_twice] at hR
          refine wp_aload_n d287_206 rfl ?_
          refine wp_getf (e := 25) (ci := 12) (k := 8) (nest := false) d287_207 (by decide +kernel) (md_0 hR) rfl ?_
          refine wp_iload d287_210 rfl ?_
          refine wp_aload_n d287_212 rfl ?_
          refine wp_getf (e := 25) (ci := 12) (k := 8) (nest := false) d287_213 (by decide +kernel) (md_0 hR) rfl ?_
          refine wp_iload d287_216 rfl ?_
          refine wp_iald d287_218 (mw_6 hR) (nI_in (by omega) (by decide)) (v := (((upd f (o) (((f (p)) + (nI 10000))))) (o))) (congrArg ((upd f (o) (((f (p)) + (nI 10000))))) (nI_nat (by omega))) ?_
          refine wp_iload d287_219 rfl ?_
          refine wp_iadd d287_221 ?_
          refine wp_aload_n d287_222 rfl ?_
          refine wp_getf (e := 25) (ci := 12) (k := 8) (nest := false) d287_223 (by decide +kernel) (md_0 hR) rfl ?_
          refine wp_iload d287_226 rfl ?_
          refine wp_iald d287_228 (mw_6 hR) (nI_in (by omega) (by decide)) (v := (((upd f (o) (((f (p)) + (nI 10000))))) (p))) (congrArg ((upd f (o) (((f (p)) + (nI 10000))))) (nI_nat (by omega))) ?_
          refine wp_icmp_ge d287_229 (tgt := 245) (by decide) (fun hc229 => ?_) (fun hc229 => ?_)
          · refine wp_aload_n d287_245 rfl ?_
            refine wp_getf (e := 25) (ci := 12) (k := 8) (nest := false) d287_246 (by decide +kernel) (md_0 hR) rfl ?_
            refine wp_iload d287_249 rfl ?_
            refine wp_iald d287_251 (mw_6 hR) (nI_in (by omega) (by decide)) (v := (((upd f (o) (((f (p)) + (nI 10000))))) (p))) (congrArg ((upd f (o) (((f (p)) + (nI 10000))))) (nI_nat (by omega))) ?_
            refine wp_iast d287_252 (mw_6 hR) (nI_in (by omega) (by decide)) ?_
            rw [nI_nat (by omega)]
            have hF := hF.trans (Frm.set (o := 6) (cl := .inl (false, 12, (upd ((upd f (o) (((f (p)) + (nI 10000))))) (p) ((((upd f (o) (((f (p)) + (nI 10000))))) (p)))))) (by decide) : Frm _ _ 313 8)
            have hR := md_putA (o := 6) (n := 12) (f := (upd ((upd f (o) (((f (p)) + (nI 10000))))) (p) ((((upd f (o) (((f (p)) + (nI 10000))))) (p))))) hR (by decide) rfl rfl
            rw [stM_twice] at hR
            refine wp_iinc d287_253 rfl (v := nI (k + 1)) (nI_add _ 1) (Nat.le_of_ble_eq_true rfl) rfl ?_
            refine wp_goto d287_256 (tgt := 105) (by decide) ?_
            have hm : F_mn σ g k = nI 10000 := if_neg hc141
            have hw : F_wd σ g f0 (k + 1) = (upd ((upd f (o) (((f (p)) + (nI 10000))))) (p) ((((upd f (o) (((f (p)) + (nI 10000))))) (p)))) := by rw [F_wd, ho, hp, nI_nat (by omega), nI_nat (by omega), hm, ← hf, F_w1, F_wa, F_wa, if_pos (Int32.not_le.mp hc182), if_neg (Int32.not_lt.mpr hc229)]
            exact ih (nD - (k + 1)) (by omega) (k + 1) _ _ _ _ _ rfl (by omega) hw.symm hR hF K
          · refine wp_aload_n d287_232 rfl ?_
            refine wp_getf (e := 25) (ci := 12) (k := 8) (nest := false) d287_233 (by decide +kernel) (md_0 hR) rfl ?_
            refine wp_iload d287_236 rfl ?_
            refine wp_iald d287_238 (mw_6 hR) (nI_in (by omega) (by decide)) (v := (((upd f (o) (((f (p)) + (nI 10000))))) (o))) (congrArg ((upd f (o) (((f (p)) + (nI 10000))))) (nI_nat (by omega))) ?_
            refine wp_iload d287_239 rfl ?_
            refine wp_iadd d287_241 ?_
            refine wp_goto d287_242 (tgt := 252) (by decide) ?_
            refine wp_iast d287_252 (mw_6 hR) (nI_in (by omega) (by decide)) ?_
            rw [nI_nat (by omega)]
            have hF := hF.trans (Frm.set (o := 6) (cl := .inl (false, 12, (upd ((upd f (o) (((f (p)) + (nI 10000))))) (p) (((((upd f (o) (((f (p)) + (nI 10000))))) (o)) + (nI 10000)))))) (by decide) : Frm _ _ 313 8)
            have hR := md_putA (o := 6) (n := 12) (f := (upd ((upd f (o) (((f (p)) + (nI 10000))))) (p) (((((upd f (o) (((f (p)) + (nI 10000))))) (o)) + (nI 10000))))) hR (by decide) rfl rfl
            rw [stM_twice] at hR
            refine wp_iinc d287_253 rfl (v := nI (k + 1)) (nI_add _ 1) (Nat.le_of_ble_eq_true rfl) rfl ?_
            refine wp_goto d287_256 (tgt := 105) (by decide) ?_
            have hm : F_mn σ g k = nI 10000 := if_neg hc141
            have hw : F_wd σ g f0 (k + 1) = (upd ((upd f (o) (((f (p)) + (nI 10000))))) (p) (((((upd f (o) (((f (p)) + (nI 10000))))) (o)) + (nI 10000)))) := by rw [F_wd, ho, hp, nI_nat (by omega), nI_nat (by omega), hm, ← hf, F_w1, F_wa, F_wa, if_pos (Int32.not_le.mp hc182), if_pos (Int32.not_le.mp hc229)]
            exact ih (nD - (k + 1)) (by omega) (k + 1) _ _ _ _ _ rfl (by omega) hw.symm hR hF K
      · refine wp_aload_n d287_144 rfl ?_
        refine wp_iload d287_145 rfl ?_
        refine wp_iconst d287_147 (v := nI 2) (by decide) ?_
        refine wp_invvT (e := 53) (j2 := 217) (n := 2) d287_148 (by decide +kernel) (by decide +kernel) rfl rfl rfl (md_0 hR) (by decide +kernel) (Nat.le_of_ble_eq_true rfl) rfl rfl (Nat.le_of_ble_eq_true rfl) (by decide +kernel) (c_doorPart hR (r := k) (p := 2) (by omega) (by omega)) ?_
        refine wp_goto d287_151 (tgt := 157) (by decide) ?_
        refine wp_istore d287_157 (Nat.le_of_ble_eq_true rfl) rfl ?_
        refine wp_aload_n d287_159 rfl ?_
        refine wp_getf (e := 25) (ci := 12) (k := 8) (nest := false) d287_160 (by decide +kernel) (md_0 hR) rfl ?_
        refine wp_iload d287_163 rfl ?_
        refine wp_aload_n d287_165 rfl ?_
        refine wp_getf (e := 25) (ci := 12) (k := 8) (nest := false) d287_166 (by decide +kernel) (md_0 hR) rfl ?_
        refine wp_iload d287_169 rfl ?_
        refine wp_iald d287_171 (mw_6 hR) (nI_in (by omega) (by decide)) (v := (f (p))) (congrArg f (nI_nat (by omega))) ?_
        refine wp_iload d287_172 rfl ?_
        refine wp_iadd d287_174 ?_
        refine wp_aload_n d287_175 rfl ?_
        refine wp_getf (e := 25) (ci := 12) (k := 8) (nest := false) d287_176 (by decide +kernel) (md_0 hR) rfl ?_
        refine wp_iload d287_179 rfl ?_
        refine wp_iald d287_181 (mw_6 hR) (nI_in (by omega) (by decide)) (v := (f (o))) (congrArg f (nI_nat (by omega))) ?_
        refine wp_icmp_ge d287_182 (tgt := 198) (by decide) (fun hc182 => ?_) (fun hc182 => ?_)
        · refine wp_aload_n d287_198 rfl ?_
          refine wp_getf (e := 25) (ci := 12) (k := 8) (nest := false) d287_199 (by decide +kernel) (md_0 hR) rfl ?_
          refine wp_iload d287_202 rfl ?_
          refine wp_iald d287_204 (mw_6 hR) (nI_in (by omega) (by decide)) (v := (f (o))) (congrArg f (nI_nat (by omega))) ?_
          refine wp_iast d287_205 (mw_6 hR) (nI_in (by omega) (by decide)) ?_
          rw [nI_nat (by omega)]
          have hF := hF.trans (Frm.set (o := 6) (cl := .inl (false, 12, (upd f (o) ((f (o)))))) (by decide) : Frm _ _ 313 8)
          have hR := md_putA (o := 6) (n := 12) (f := (upd f (o) ((f (o))))) hR (by decide) rfl rfl
          rw [stM_twice] at hR
          refine wp_aload_n d287_206 rfl ?_
          refine wp_getf (e := 25) (ci := 12) (k := 8) (nest := false) d287_207 (by decide +kernel) (md_0 hR) rfl ?_
          refine wp_iload d287_210 rfl ?_
          refine wp_aload_n d287_212 rfl ?_
          refine wp_getf (e := 25) (ci := 12) (k := 8) (nest := false) d287_213 (by decide +kernel) (md_0 hR) rfl ?_
          refine wp_iload d287_216 rfl ?_
          refine wp_iald d287_218 (mw_6 hR) (nI_in (by omega) (by decide)) (v := (((upd f (o) ((f (o))))) (o))) (congrArg ((upd f (o) ((f (o))))) (nI_nat (by omega))) ?_
          refine wp_iload d287_219 rfl ?_
          refine wp_iadd d287_221 ?_
          refine wp_aload_n d287_222 rfl ?_
          refine wp_getf (e := 25) (ci := 12) (k := 8) (nest := false) d287_223 (by decide +kernel) (md_0 hR) rfl ?_
          refine wp_iload d287_226 rfl ?_
          refine wp_iald d287_228 (mw_6 hR) (nI_in (by omega) (by decide)) (v := (((upd f (o) ((f (o))))) (p))) (congrArg ((upd f (o) ((f (o))))) (nI_nat (by omega))) ?_
          refine wp_icmp_ge d287_229 (tgt := 245) (by decide) (fun hc229 => ?_) (fun hc229 => ?_)
          · refine wp_aload_n d287_245 rfl ?_
            refine wp_getf (e := 25) (ci := 12) (k := 8) (nest := false) d287_246 (by decide +kernel) (md_0 hR) rfl ?_
            refine wp_iload d287_249 rfl ?_
            refine wp_iald d287_251 (mw_6 hR) (nI_in (by omega) (by decide)) (v := (((upd f (o) ((f (o))))) (p))) (congrArg ((upd f (o) ((f (o))))) (nI_nat (by omega))) ?_
            refine wp_iast d287_252 (mw_6 hR) (nI_in (by omega) (by decide)) ?_
            rw [nI_nat (by omega)]
            have hF := hF.trans (Frm.set (o := 6) (cl := .inl (false, 12, (upd ((upd f (o) ((f (o))))) (p) ((((upd f (o) ((f (o))))) (p)))))) (by decide) : Frm _ _ 313 8)
            have hR := md_putA (o := 6) (n := 12) (f := (upd ((upd f (o) ((f (o))))) (p) ((((upd f (o) ((f (o))))) (p))))) hR (by decide) rfl rfl
            rw [stM_twice] at hR
            refine wp_iinc d287_253 rfl (v := nI (k + 1)) (nI_add _ 1) (Nat.le_of_ble_eq_true rfl) rfl ?_
            refine wp_goto d287_256 (tgt := 105) (by decide) ?_
            have hm : F_mn σ g k = σ (92 + 5 * k + 2) := if_pos hc141
            have hw : F_wd σ g f0 (k + 1) = (upd ((upd f (o) ((f (o))))) (p) ((((upd f (o) ((f (o))))) (p)))) := by rw [F_wd, ho, hp, nI_nat (by omega), nI_nat (by omega), hm, ← hf, F_w1, F_wa, F_wa, if_neg (Int32.not_lt.mpr hc182), if_neg (Int32.not_lt.mpr hc229)]
            exact ih (nD - (k + 1)) (by omega) (k + 1) _ _ _ _ _ rfl (by omega) hw.symm hR hF K
          · refine wp_aload_n d287_232 rfl ?_
            refine wp_getf (e := 25) (ci := 12) (k := 8) (nest := false) d287_233 (by decide +kernel) (md_0 hR) rfl ?_
            refine wp_iload d287_236 rfl ?_
            refine wp_iald d287_238 (mw_6 hR) (nI_in (by omega) (by decide)) (v := (((upd f (o) ((f (o))))) (o))) (congrArg ((upd f (o) ((f (o))))) (nI_nat (by omega))) ?_
            refine wp_iload d287_239 rfl ?_
            refine wp_iadd d287_241 ?_
            refine wp_goto d287_242 (tgt := 252) (by decide) ?_
            refine wp_iast d287_252 (mw_6 hR) (nI_in (by omega) (by decide)) ?_
            rw [nI_nat (by omega)]
            have hF := hF.trans (Frm.set (o := 6) (cl := .inl (false, 12, (upd ((upd f (o) ((f (o))))) (p) (((((upd f (o) ((f (o))))) (o)) + (σ (92 + 5 * k + 2))))))) (by decide) : Frm _ _ 313 8)
            have hR := md_putA (o := 6) (n := 12) (f := (upd ((upd f (o) ((f (o))))) (p) (((((upd f (o) ((f (o))))) (o)) + (σ (92 + 5 * k + 2)))))) hR (by decide) rfl rfl
            rw [stM_twice] at hR
            refine wp_iinc d287_253 rfl (v := nI (k + 1)) (nI_add _ 1) (Nat.le_of_ble_eq_true rfl) rfl ?_
            refine wp_goto d287_256 (tgt := 105) (by decide) ?_
            have hm : F_mn σ g k = σ (92 + 5 * k + 2) := if_pos hc141
            have hw : F_wd σ g f0 (k + 1) = (upd ((upd f (o) ((f (o))))) (p) (((((upd f (o) ((f (o))))) (o)) + (σ (92 + 5 * k + 2))))) := by rw [F_wd, ho, hp, nI_nat (by omega), nI_nat (by omega), hm, ← hf, F_w1, F_wa, F_wa, if_neg (Int32.not_lt.mpr hc182), if_pos (Int32.not_le.mp hc229)]
            exact ih (nD - (k + 1)) (by omega) (k + 1) _ _ _ _ _ rfl (by omega) hw.symm hR hF K
        · refine wp_aload_n d287_185 rfl ?_
          refine wp_getf (e := 25) (ci := 12) (k := 8) (nest := false) d287_186 (by decide +kernel) (md_0 hR) rfl ?_
          refine wp_iload d287_189 rfl ?_
          refine wp_iald d287_191 (mw_6 hR) (nI_in (by omega) (by decide)) (v := (f (p))) (congrArg f (nI_nat (by omega))) ?_
          refine wp_iload d287_192 rfl ?_
          refine wp_iadd d287_194 ?_
          refine wp_goto d287_195 (tgt := 205) (by decide) ?_
          refine wp_iast d287_205 (mw_6 hR) (nI_in (by omega) (by decide)) ?_
          rw [nI_nat (by omega)]
          have hF := hF.trans (Frm.set (o := 6) (cl := .inl (false, 12, (upd f (o) (((f (p)) + (σ (92 + 5 * k + 2))))))) (by decide) : Frm _ _ 313 8)
          have hR := md_putA (o := 6) (n := 12) (f := (upd f (o) (((f (p)) + (σ (92 + 5 * k + 2)))))) hR (by decide) rfl rfl
          rw [stM_twice] at hR
          refine wp_aload_n d287_206 rfl ?_
          refine wp_getf (e := 25) (ci := 12) (k := 8) (nest := false) d287_207 (by decide +kernel) (md_0 hR) rfl ?_
          refine wp_iload d287_210 rfl ?_
          refine wp_aload_n d287_212 rfl ?_
          refine wp_getf (e := 25) (ci := 12) (k := 8) (nest := false) d287_213 (by decide +kernel) (md_0 hR) rfl ?_
          refine wp_iload d287_216 rfl ?_
          refine wp_iald d287_218 (mw_6 hR) (nI_in (by omega) (by decide)) (v := (((upd f (o) (((f (p)) + (σ (92 + 5 * k + 2)))))) (o))) (congrArg ((upd f (o) (((f (p)) + (σ (92 + 5 * k + 2)))))) (nI_nat (by omega))) ?_
          refine wp_iload d287_219 rfl ?_
          refine wp_iadd d287_221 ?_
          refine wp_aload_n d287_222 rfl ?_
          refine wp_getf (e := 25) (ci := 12) (k := 8) (nest := false) d287_223 (by decide +kernel) (md_0 hR) rfl ?_
          refine wp_iload d287_226 rfl ?_
          refine wp_iald d287_228 (mw_6 hR) (nI_in (by omega) (by decide)) (v := (((upd f (o) (((f (p)) + (σ (92 + 5 * k + 2)))))) (p))) (congrArg ((upd f (o) (((f (p)) + (σ (92 + 5 * k + 2)))))) (nI_nat (by omega))) ?_
          refine wp_icmp_ge d287_229 (tgt := 245) (by decide) (fun hc229 => ?_) (fun hc229 => ?_)
          · refine wp_aload_n d287_245 rfl ?_
            refine wp_getf (e := 25) (ci := 12) (k := 8) (nest := false) d287_246 (by decide +kernel) (md_0 hR) rfl ?_
            refine wp_iload d287_249 rfl ?_
            refine wp_iald d287_251 (mw_6 hR) (nI_in (by omega) (by decide)) (v := (((upd f (o) (((f (p)) + (σ (92 + 5 * k + 2)))))) (p))) (congrArg ((upd f (o) (((f (p)) + (σ (92 + 5 * k + 2)))))) (nI_nat (by omega))) ?_
            refine wp_iast d287_252 (mw_6 hR) (nI_in (by omega) (by decide)) ?_
            rw [nI_nat (by omega)]
            have hF := hF.trans (Frm.set (o := 6) (cl := .inl (false, 12, (upd ((upd f (o) (((f (p)) + (σ (92 + 5 * k + 2)))))) (p) ((((upd f (o) (((f (p)) + (σ (92 + 5 * k + 2)))))) (p)))))) (by decide) : Frm _ _ 313 8)
            have hR := md_putA (o := 6) (n := 12) (f := (upd ((upd f (o) (((f (p)) + (σ (92 + 5 * k + 2)))))) (p) ((((upd f (o) (((f (p)) + (σ (92 + 5 * k + 2)))))) (p))))) hR (by decide) rfl rfl
            rw [stM_twice] at hR
            refine wp_iinc d287_253 rfl (v := nI (k + 1)) (nI_add _ 1) (Nat.le_of_ble_eq_true rfl) rfl ?_
            refine wp_goto d287_256 (tgt := 105) (by decide) ?_
            have hm : F_mn σ g k = σ (92 + 5 * k + 2) := if_pos hc141
            have hw : F_wd σ g f0 (k + 1) = (upd ((upd f (o) (((f (p)) + (σ (92 + 5 * k + 2)))))) (p) ((((upd f (o) (((f (p)) + (σ (92 + 5 * k + 2)))))) (p)))) := by rw [F_wd, ho, hp, nI_nat (by omega), nI_nat (by omega), hm, ← hf, F_w1, F_wa, F_wa, if_pos (Int32.not_le.mp hc182), if_neg (Int32.not_lt.mpr hc229)]
            exact ih (nD - (k + 1)) (by omega) (k + 1) _ _ _ _ _ rfl (by omega) hw.symm hR hF K
          · refine wp_aload_n d287_232 rfl ?_
            refine wp_getf (e := 25) (ci := 12) (k := 8) (nest := false) d287_233 (by decide +kernel) (md_0 hR) rfl ?_
            refine wp_iload d287_236 rfl ?_
            refine wp_iald d287_238 (mw_6 hR) (nI_in (by omega) (by decide)) (v := (((upd f (o) (((f (p)) + (σ (92 + 5 * k + 2)))))) (o))) (congrArg ((upd f (o) (((f (p)) + (σ (92 + 5 * k + 2)))))) (nI_nat (by omega))) ?_
            refine wp_iload d287_239 rfl ?_
            refine wp_iadd d287_241 ?_
            refine wp_goto d287_242 (tgt := 252) (by decide) ?_
            refine wp_iast d287_252 (mw_6 hR) (nI_in (by omega) (by decide)) ?_
            rw [nI_nat (by omega)]
            have hF := hF.trans (Frm.set (o := 6) (cl := .inl (false, 12, (upd ((upd f (o) (((f (p)) + (σ (92 + 5 * k + 2)))))) (p) (((((upd f (o) (((f (p)) + (σ (92 + 5 * k + 2)))))) (o)) + (σ (92 + 5 * k + 2))))))) (by decide) : Frm _ _ 313 8)
            have hR := md_putA (o := 6) (n := 12) (f := (upd ((upd f (o) (((f (p)) + (σ (92 + 5 * k + 2)))))) (p) (((((upd f (o) (((f (p)) + (σ (92 + 5 * k + 2)))))) (o)) + (σ (92 + 5 * k + 2)))))) hR (by decide) rfl rfl
            rw [stM_twice] at hR
            refine wp_iinc d287_253 rfl (v := nI (k + 1)) (nI_add _ 1) (Nat.le_of_ble_eq_true rfl) rfl ?_
            refine wp_goto d287_256 (tgt := 105) (by decide) ?_
            have hm : F_mn σ g k = σ (92 + 5 * k + 2) := if_pos hc141
            have hw : F_wd σ g f0 (k + 1) = (upd ((upd f (o) (((f (p)) + (σ (92 + 5 * k + 2)))))) (p) (((((upd f (o) (((f (p)) + (σ (92 + 5 * k + 2)))))) (o)) + (σ (92 + 5 * k + 2))))) := by rw [F_wd, ho, hp, nI_nat (by omega), nI_nat (by omega), hm, ← hf, F_w1, F_wa, F_wa, if_pos (Int32.not_le.mp hc182), if_pos (Int32.not_le.mp hc229)]
            exact ih (nD - (k + 1)) (by omega) (k + 1) _ _ _ _ _ rfl (by omega) hw.symm hR hF K
theorem r_way_r {X : mX}  {h0 : mH} {R : Nat → Nat → Int32} {σ f : Nat → Int32} {nD g : Nat} {y wk : Int32} {Q : Option Value → mH → Prop} (hg : g < 4) (h3 : σ 3 = nI nD) (hD : nD ≤ 20) (hdo : ∀ d, d < nD → ∃ o p, o < 12 ∧ σ (92 + 5 * d + 0) = nI o ∧ p < 12 ∧ σ (92 + 5 * d + 1) = nI p) : ∀ (d : Nat) (k : Nat) (h : mH) (l5 l6 l7 l8 : Option Value), 12 - k = d → k ≤ 12 → Ms h (stM R 6 (F_ww σ g nD f k)) σ → Frm h0 h 313 8 → (∀ h1, Ms h1 (stM R 6 (F_ww σ g nD f 12)) σ → Frm h0 h1 313 8 → ∀ v l5 l6 l7 l8, m_wp X 287 265 [some (.ref 313), some (.int (nI g)), some (.int y), some (.int wk), some (.int v), l5, l6, l7, l8] [] h1 Q) → m_wp X 287 95 [some (.ref 313), some (.int (nI g)), some (.int (y)), some (.int (wk)), some (.int (nI k)), l5, l6, l7, l8] [] h Q := by
  intro d
  induction d using Nat.strongRecOn with
  | ind d ih =>
    intro k h l5 l6 l7 l8 hd hk hR hF K
    refine wp_iload d287_95 rfl ?_
    refine wp_bipush d287_97 (v := nI 12) (by decide) ?_
    refine wp_icmp_ge d287_99 (tgt := 265) (by decide) (fun hc99 => ?_) (fun hc99 => ?_)
    · have hc99 : 12 ≤ k := (nI_leI (by omega) (by omega)).mp hc99
      rw [show k = 12 by omega] at hR
      exact K h hR hF _ _ _ _ _
    · have hc99 : ¬ (12 ≤ k) := fun z => hc99 ((nI_leI (by omega) (by omega)).mpr z)
      refine wp_iconst d287_102 (v := nI 0) (by decide) ?_
      refine wp_istore d287_103 (Nat.le_of_ble_eq_true rfl) rfl ?_
      refine r_way_d hg h3 hD hdo _ 0 _ h _ _ _ rfl (Nat.zero_le _) rfl hR hF ?_
      intro h hR hF v5 l6 l7 l8
      refine wp_iinc d287_259 rfl (v := nI (k + 1)) (nI_add _ 1) (Nat.le_of_ble_eq_true rfl) rfl ?_
      refine wp_goto d287_262 (tgt := 95) (by decide) ?_
      exact ih (12 - (k + 1)) (by omega) (k + 1) h _ _ _ _ rfl (by omega) hR hF K
theorem r_way_1 {X : mX} {h : mH} {R : Nat → Nat → Int32} {σ : Nat → Int32} (hR : Ms h R σ) {mi nR nD nG nW nA n : Nat} (hC : Cn σ mi nR nD nG nW nA) (hn : R 0 5 = nI n) (hn4 : n ≤ 4) {x y : Int32} (hx : ¬ (nI 0 ≤ x ∧ x < nI nG)) : Tells X 287 [.ref 313, .int (x), .int (y)] h (-1) := by
  obtain ⟨⟨h0, hmi⟩, ⟨h2, hR1, hR12⟩, ⟨h3, hD⟩, ⟨h4, hG⟩, ⟨h5, hW⟩, ⟨h6, hA⟩⟩ := hC
  refine wp_aload_n d287_0 rfl ?_
  refine wp_iload_n d287_1 rfl ?_
  refine wp_invvT (e := 94) (j2 := 232) (n := 1) d287_2 (by decide +kernel) (by decide +kernel) rfl rfl rfl (md_0 hR) (by decide +kernel) (Nat.le_of_ble_eq_true rfl) rfl rfl (Nat.le_of_ble_eq_true rfl) (by decide +kernel) (c_isGuard hR (n := nG) h4 (by omega) (x)) ?_
  refine wp_ifb_eq d287_5 (tgt := 16) (by decide) (fun _ => ?_) (fun hq9 => absurd hq9 hx)
  refine wp_iconst d287_16 (v := (-1 : Int32)) (by decide) ?_
  refine wp_iret d287_17 (by decide +kernel) ?_
  exact ⟨rfl, rfl⟩
theorem r_way_2 {X : mX} {h : mH} {R : Nat → Nat → Int32} {σ : Nat → Int32} (hR : Ms h R σ) {mi nR nD nG nW nA n : Nat} (hC : Cn σ mi nR nD nG nW nA) (hn : R 0 5 = nI n) (hn4 : n ≤ 4) {g : Nat} {y : Int32} (hg : g < nG) (hy : ¬ (nI 0 ≤ y ∧ y < nI nR)) : Tells X 287 [.ref 313, .int (nI g), .int (y)] h (-1) := by
  obtain ⟨⟨h0, hmi⟩, ⟨h2, hR1, hR12⟩, ⟨h3, hD⟩, ⟨h4, hG⟩, ⟨h5, hW⟩, ⟨h6, hA⟩⟩ := hC
  refine wp_aload_n d287_0 rfl ?_
  refine wp_iload_n d287_1 rfl ?_
  refine wp_invvT (e := 94) (j2 := 232) (n := 1) d287_2 (by decide +kernel) (by decide +kernel) rfl rfl rfl (md_0 hR) (by decide +kernel) (Nat.le_of_ble_eq_true rfl) rfl rfl (Nat.le_of_ble_eq_true rfl) (by decide +kernel) (c_isGuard hR (n := nG) h4 (by omega) (nI g)) ?_
  refine wp_ifb_eq d287_5 (tgt := 16) (by decide) (fun hq9 => absurd (⟨nI_le (by omega) (by omega), nI_lt (by omega) (by omega)⟩ : nI 0 ≤ nI g ∧ nI g < nI nG) hq9) (fun _ => ?_)
  refine wp_aload_n d287_8 rfl ?_
  refine wp_iload_n d287_9 rfl ?_
  refine wp_invvT (e := 57) (j2 := 215) (n := 1) d287_10 (by decide +kernel) (by decide +kernel) rfl rfl rfl (md_0 hR) (by decide +kernel) (Nat.le_of_ble_eq_true rfl) rfl rfl (Nat.le_of_ble_eq_true rfl) (by decide +kernel) (c_isRoom hR (n := nR) h2 (by omega) (y)) ?_
  refine wp_ifb_ne d287_13 (tgt := 18) (by decide) (fun hq9 => absurd hq9 hy) (fun _ => ?_)
  refine wp_iconst d287_16 (v := (-1 : Int32)) (by decide) ?_
  refine wp_iret d287_17 (by decide +kernel) ?_
  exact ⟨rfl, rfl⟩
def F_way (f : Nat → Int32) (r : Nat) : Int32 := if f r < nI 10000 then f r else -5
theorem r_way_s {X : mX} {h : mH} {R : Nat → Nat → Int32} {σ : Nat → Int32} (hR : Ms h R σ) {mi nR nD nG nW nA n : Nat} (hC : Cn σ mi nR nD nG nW nA) (hn : R 0 5 = nI n) (hn4 : n ≤ 4) {g r s : Nat} (hg : g < nG) (hr : r < nR) (ha : 0 ≤ σ (192 + 10 * g + 0)) (hs : σ (192 + 10 * g + 0) = nI s) (hs12 : s < 12) (hdo : ∀ d, d < nD → ∃ o p, o < 12 ∧ σ (92 + 5 * d + 0) = nI o ∧ p < 12 ∧ σ (92 + 5 * d + 1) = nI p) : Does X 287 [.ref 313, .int (nI g), .int (nI r)] h (stM R 6 (F_ww σ g nD (upd (F_fill (R 6) 12) (s) (nI 0)) 12)) σ (some (.int (F_way (F_ww σ g nD (upd (F_fill (R 6) 12) (s) (nI 0)) 12) r))) := by
  obtain ⟨⟨h0, hmi⟩, ⟨h2, hR1, hR12⟩, ⟨h3, hD⟩, ⟨h4, hG⟩, ⟨h5, hW⟩, ⟨h6, hA⟩⟩ := hC
  rw [← stM_id R 6] at hR
  have hF : Frm h h 313 8 := Frm.rf
  refine wp_aload_n d287_0 rfl ?_
  refine wp_iload_n d287_1 rfl ?_
  refine wp_invvT (e := 94) (j2 := 232) (n := 1) d287_2 (by decide +kernel) (by decide +kernel) rfl rfl rfl (md_0 hR) (by decide +kernel) (Nat.le_of_ble_eq_true rfl) rfl rfl (Nat.le_of_ble_eq_true rfl) (by decide +kernel) (c_isGuard hR (n := nG) h4 (by omega) (nI g)) ?_
  refine wp_ifb_eq d287_5 (tgt := 16) (by decide) (fun hq9 => absurd (⟨nI_le (by omega) (by omega), nI_lt (by omega) (by omega)⟩ : nI 0 ≤ nI g ∧ nI g < nI nG) hq9) (fun _ => ?_)
  refine wp_aload_n d287_8 rfl ?_
  refine wp_iload_n d287_9 rfl ?_
  refine wp_invvT (e := 57) (j2 := 215) (n := 1) d287_10 (by decide +kernel) (by decide +kernel) rfl rfl rfl (md_0 hR) (by decide +kernel) (Nat.le_of_ble_eq_true rfl) rfl rfl (Nat.le_of_ble_eq_true rfl) (by decide +kernel) (c_isRoom hR (n := nR) h2 (by omega) (nI r)) ?_
  refine wp_ifb_ne d287_13 (tgt := 18) (by decide) (fun _ => ?_) (fun hq9 => absurd (⟨nI_le (by omega) (by omega), nI_lt (by omega) (by omega)⟩ : nI 0 ≤ nI r ∧ nI r < nI nR) hq9)
  refine wp_aload_n d287_18 rfl ?_
  refine wp_iload_n d287_19 rfl ?_
  refine wp_iconst d287_20 (v := nI 0) (by decide) ?_
  refine wp_invvT (e := 81) (j2 := 227) (n := 2) d287_21 (by decide +kernel) (by decide +kernel) rfl rfl rfl (md_0 hR) (by decide +kernel) (Nat.le_of_ble_eq_true rfl) rfl rfl (Nat.le_of_ble_eq_true rfl) (by decide +kernel) (c_guardPart hR (r := g) (p := 0) (by omega) (by omega)) ?_
  refine wp_if_ge d287_24 (tgt := 31) (by decide) (fun _ => ?_) (fun hq9 => absurd ha hq9)
  refine wp_iconst d287_31 (v := nI 0) (by decide) ?_
  refine wp_istore_n d287_32 (Nat.le_of_ble_eq_true rfl) rfl ?_
  refine wp_iconst d287_33 (v := nI 0) (by decide) ?_
  refine wp_istore d287_34 (Nat.le_of_ble_eq_true rfl) rfl ?_
  refine r_way_f _ 0 h rfl (Nat.zero_le _) (by rw [F_fill_0]; exact hR) hF ?_
  intro h hR hF v4
  refine wp_aload_n d287_59 rfl ?_
  refine wp_getf (e := 25) (ci := 12) (k := 8) (nest := false) d287_60 (by decide +kernel) (md_0 hR) rfl ?_
  refine wp_aload_n d287_63 rfl ?_
  refine wp_iload_n d287_64 rfl ?_
  refine wp_iload_n d287_65 rfl ?_
  refine wp_if_eq d287_66 (tgt := 73) (by decide) (fun _ => ?_) (fun hz => absurd hz (by decide))
  refine wp_iconst d287_73 (v := nI 0) (by decide) ?_
  refine wp_invvT (e := 81) (j2 := 227) (n := 2) d287_74 (by decide +kernel) (by decide +kernel) rfl rfl rfl (md_0 hR) (by decide +kernel) (Nat.le_of_ble_eq_true rfl) rfl rfl (Nat.le_of_ble_eq_true rfl) (by decide +kernel) (show Tells X 227 [.ref 313, .int (nI g), .int (nI 0)] h (nI s) from hs ▸ c_guardPart hR (r := g) (p := 0) (by omega) (by omega)) ?_
  refine wp_iload_n d287_77 rfl ?_
  refine wp_if_eq d287_78 (tgt := 90) (by decide) (fun _ => ?_) (fun hz => absurd hz (by decide))
  refine wp_iconst d287_90 (v := nI 0) (by decide) ?_
  refine wp_iast d287_91 (mw_6 hR) (nI_in (by omega) (by decide)) ?_
  rw [nI_nat (by omega)]
  have hF := hF.trans (Frm.set (o := 6) (cl := .inl (false, 12, (upd ((F_fill (R 6) 12)) (s) (nI 0)))) (by decide) : Frm _ _ 313 8)
  have hR := md_putA (o := 6) (n := 12) (f := (upd ((F_fill (R 6) 12)) (s) (nI 0))) hR (by decide) rfl rfl
  rw [stM_twice] at hR
  refine wp_iconst d287_92 (v := nI 0) (by decide) ?_
  refine wp_istore d287_93 (Nat.le_of_ble_eq_true rfl) rfl ?_
  refine r_way_r (g := g) (f := (upd ((F_fill (R 6) 12)) (s) (nI 0))) (by omega) h3 hD hdo _ 0 _ _ _ _ _ rfl (Nat.zero_le _) hR hF ?_
  intro h hR hF v4 l5 l6 l7 l8
  refine wp_aload_n d287_265 rfl ?_
  refine wp_getf (e := 25) (ci := 12) (k := 8) (nest := false) d287_266 (by decide +kernel) (md_0 hR) rfl ?_
  refine wp_iload_n d287_269 rfl ?_
  refine wp_iald d287_270 (mw_6 hR) (nI_in (by omega) (by decide)) (v := (((F_ww σ g nD ((upd ((F_fill (R 6) 12)) (s) (nI 0))) 12)) (r))) (congrArg ((F_ww σ g nD ((upd ((F_fill (R 6) 12)) (s) (nI 0))) 12)) (nI_nat (by omega))) ?_
  refine wp_sipush d287_271 (v := nI 10000) (by decide) ?_
  refine wp_icmp_ge d287_274 (tgt := 286) (by decide) (fun hc274 => ?_) (fun hc274 => ?_)
  · refine wp_bipush d287_286 (v := (-5 : Int32)) (by decide) ?_
    refine wp_iret d287_288 (by decide +kernel) ?_
    exact ⟨by rw [F_way, if_neg (Int32.not_lt.mpr hc274)], hR, hF⟩
  · refine wp_aload_n d287_277 rfl ?_
    refine wp_getf (e := 25) (ci := 12) (k := 8) (nest := false) d287_278 (by decide +kernel) (md_0 hR) rfl ?_
    refine wp_iload_n d287_281 rfl ?_
    refine wp_iald d287_282 (mw_6 hR) (nI_in (by omega) (by decide)) (v := (((F_ww σ g nD ((upd ((F_fill (R 6) 12)) (s) (nI 0))) 12)) (r))) (congrArg ((F_ww σ g nD ((upd ((F_fill (R 6) 12)) (s) (nI 0))) 12)) (nI_nat (by omega))) ?_
    refine wp_goto d287_283 (tgt := 288) (by decide) ?_
    refine wp_iret d287_288 (by decide +kernel) ?_
    exact ⟨by rw [F_way, if_pos (Int32.not_le.mp hc274)], hR, hF⟩
theorem r_way_w {X : mX} {h : mH} {R : Nat → Nat → Int32} {σ : Nat → Int32} (hR : Ms h R σ) {mi nR nD nG nW nA n : Nat} (hC : Cn σ mi nR nD nG nW nA) (hn : R 0 5 = nI n) (hn4 : n ≤ 4) {g r s : Nat} (hg : g < nG) (hr : r < nR) (ha : ¬ 0 ≤ σ (192 + 10 * g + 0)) (hs : σ (192 + 10 * g + 1) = nI s) (hs12 : s < 12) (hdo : ∀ d, d < nD → ∃ o p, o < 12 ∧ σ (92 + 5 * d + 0) = nI o ∧ p < 12 ∧ σ (92 + 5 * d + 1) = nI p) : Does X 287 [.ref 313, .int (nI g), .int (nI r)] h (stM R 6 (F_ww σ g nD (upd (F_fill (R 6) 12) (s) (σ (192 + 10 * g + 2))) 12)) σ (some (.int (F_way (F_ww σ g nD (upd (F_fill (R 6) 12) (s) (σ (192 + 10 * g + 2))) 12) r))) := by
  obtain ⟨⟨h0, hmi⟩, ⟨h2, hR1, hR12⟩, ⟨h3, hD⟩, ⟨h4, hG⟩, ⟨h5, hW⟩, ⟨h6, hA⟩⟩ := hC
  rw [← stM_id R 6] at hR
  have hF : Frm h h 313 8 := Frm.rf
  refine wp_aload_n d287_0 rfl ?_
  refine wp_iload_n d287_1 rfl ?_
  refine wp_invvT (e := 94) (j2 := 232) (n := 1) d287_2 (by decide +kernel) (by decide +kernel) rfl rfl rfl (md_0 hR) (by decide +kernel) (Nat.le_of_ble_eq_true rfl) rfl rfl (Nat.le_of_ble_eq_true rfl) (by decide +kernel) (c_isGuard hR (n := nG) h4 (by omega) (nI g)) ?_
  refine wp_ifb_eq d287_5 (tgt := 16) (by decide) (fun hq9 => absurd (⟨nI_le (by omega) (by omega), nI_lt (by omega) (by omega)⟩ : nI 0 ≤ nI g ∧ nI g < nI nG) hq9) (fun _ => ?_)
  refine wp_aload_n d287_8 rfl ?_
  refine wp_iload_n d287_9 rfl ?_
  refine wp_invvT (e := 57) (j2 := 215) (n := 1) d287_10 (by decide +kernel) (by decide +kernel) rfl rfl rfl (md_0 hR) (by decide +kernel) (Nat.le_of_ble_eq_true rfl) rfl rfl (Nat.le_of_ble_eq_true rfl) (by decide +kernel) (c_isRoom hR (n := nR) h2 (by omega) (nI r)) ?_
  refine wp_ifb_ne d287_13 (tgt := 18) (by decide) (fun _ => ?_) (fun hq9 => absurd (⟨nI_le (by omega) (by omega), nI_lt (by omega) (by omega)⟩ : nI 0 ≤ nI r ∧ nI r < nI nR) hq9)
  refine wp_aload_n d287_18 rfl ?_
  refine wp_iload_n d287_19 rfl ?_
  refine wp_iconst d287_20 (v := nI 0) (by decide) ?_
  refine wp_invvT (e := 81) (j2 := 227) (n := 2) d287_21 (by decide +kernel) (by decide +kernel) rfl rfl rfl (md_0 hR) (by decide +kernel) (Nat.le_of_ble_eq_true rfl) rfl rfl (Nat.le_of_ble_eq_true rfl) (by decide +kernel) (c_guardPart hR (r := g) (p := 0) (by omega) (by omega)) ?_
  refine wp_if_ge d287_24 (tgt := 31) (by decide) (fun hq9 => absurd hq9 ha) (fun _ => ?_)
  refine wp_iconst d287_27 (v := nI 1) (by decide) ?_
  refine wp_goto d287_28 (tgt := 32) (by decide) ?_
  refine wp_istore_n d287_32 (Nat.le_of_ble_eq_true rfl) rfl ?_
  refine wp_iconst d287_33 (v := nI 0) (by decide) ?_
  refine wp_istore d287_34 (Nat.le_of_ble_eq_true rfl) rfl ?_
  refine r_way_f _ 0 h rfl (Nat.zero_le _) (by rw [F_fill_0]; exact hR) hF ?_
  intro h hR hF v4
  refine wp_aload_n d287_59 rfl ?_
  refine wp_getf (e := 25) (ci := 12) (k := 8) (nest := false) d287_60 (by decide +kernel) (md_0 hR) rfl ?_
  refine wp_aload_n d287_63 rfl ?_
  refine wp_iload_n d287_64 rfl ?_
  refine wp_iload_n d287_65 rfl ?_
  refine wp_if_eq d287_66 (tgt := 73) (by decide) (fun hz => absurd hz (by decide)) (fun _ => ?_)
  refine wp_iconst d287_69 (v := nI 1) (by decide) ?_
  refine wp_goto d287_70 (tgt := 74) (by decide) ?_
  refine wp_invvT (e := 81) (j2 := 227) (n := 2) d287_74 (by decide +kernel) (by decide +kernel) rfl rfl rfl (md_0 hR) (by decide +kernel) (Nat.le_of_ble_eq_true rfl) rfl rfl (Nat.le_of_ble_eq_true rfl) (by decide +kernel) (show Tells X 227 [.ref 313, .int (nI g), .int (nI 1)] h (nI s) from hs ▸ c_guardPart hR (r := g) (p := 1) (by omega) (by omega)) ?_
  refine wp_iload_n d287_77 rfl ?_
  refine wp_if_eq d287_78 (tgt := 90) (by decide) (fun hz => absurd hz (by decide)) (fun _ => ?_)
  refine wp_aload_n d287_81 rfl ?_
  refine wp_iload_n d287_82 rfl ?_
  refine wp_iconst d287_83 (v := nI 2) (by decide) ?_
  refine wp_invvT (e := 81) (j2 := 227) (n := 2) d287_84 (by decide +kernel) (by decide +kernel) rfl rfl rfl (md_0 hR) (by decide +kernel) (Nat.le_of_ble_eq_true rfl) rfl rfl (Nat.le_of_ble_eq_true rfl) (by decide +kernel) (c_guardPart hR (r := g) (p := 2) (by omega) (by omega)) ?_
  refine wp_goto d287_87 (tgt := 91) (by decide) ?_
  refine wp_iast d287_91 (mw_6 hR) (nI_in (by omega) (by decide)) ?_
  rw [nI_nat (by omega)]
  have hF := hF.trans (Frm.set (o := 6) (cl := .inl (false, 12, (upd ((F_fill (R 6) 12)) (s) (σ (192 + 10 * g + 2))))) (by decide) : Frm _ _ 313 8)
  have hR := md_putA (o := 6) (n := 12) (f := (upd ((F_fill (R 6) 12)) (s) (σ (192 + 10 * g + 2)))) hR (by decide) rfl rfl
  rw [stM_twice] at hR
  refine wp_iconst d287_92 (v := nI 0) (by decide) ?_
  refine wp_istore d287_93 (Nat.le_of_ble_eq_true rfl) rfl ?_
  refine r_way_r (g := g) (f := (upd ((F_fill (R 6) 12)) (s) (σ (192 + 10 * g + 2)))) (by omega) h3 hD hdo _ 0 _ _ _ _ _ rfl (Nat.zero_le _) hR hF ?_
  intro h hR hF v4 l5 l6 l7 l8
  refine wp_aload_n d287_265 rfl ?_
  refine wp_getf (e := 25) (ci := 12) (k := 8) (nest := false) d287_266 (by decide +kernel) (md_0 hR) rfl ?_
  refine wp_iload_n d287_269 rfl ?_
  refine wp_iald d287_270 (mw_6 hR) (nI_in (by omega) (by decide)) (v := (((F_ww σ g nD ((upd ((F_fill (R 6) 12)) (s) (σ (192 + 10 * g + 2)))) 12)) (r))) (congrArg ((F_ww σ g nD ((upd ((F_fill (R 6) 12)) (s) (σ (192 + 10 * g + 2)))) 12)) (nI_nat (by omega))) ?_
  refine wp_sipush d287_271 (v := nI 10000) (by decide) ?_
  refine wp_icmp_ge d287_274 (tgt := 286) (by decide) (fun hc274 => ?_) (fun hc274 => ?_)
  · refine wp_bipush d287_286 (v := (-5 : Int32)) (by decide) ?_
    refine wp_iret d287_288 (by decide +kernel) ?_
    exact ⟨by rw [F_way, if_neg (Int32.not_lt.mpr hc274)], hR, hF⟩
  · refine wp_aload_n d287_277 rfl ?_
    refine wp_getf (e := 25) (ci := 12) (k := 8) (nest := false) d287_278 (by decide +kernel) (md_0 hR) rfl ?_
    refine wp_iload_n d287_281 rfl ?_
    refine wp_iald d287_282 (mw_6 hR) (nI_in (by omega) (by decide)) (v := (((F_ww σ g nD ((upd ((F_fill (R 6) 12)) (s) (σ (192 + 10 * g + 2)))) 12)) (r))) (congrArg ((F_ww σ g nD ((upd ((F_fill (R 6) 12)) (s) (σ (192 + 10 * g + 2)))) 12)) (nI_nat (by omega))) ?_
    refine wp_goto d287_283 (tgt := 288) (by decide) ?_
    refine wp_iret d287_288 (by decide +kernel) ?_
    exact ⟨by rw [F_way, if_pos (Int32.not_le.mp hc274)], hR, hF⟩
