/-! The reference lets a minute pass. -/
theorem d255_0 : decode (m_code 255) 0 = .ok (.aload_n 0, 1) := by decide +kernel
theorem d255_1 : decode (m_code 255) 1 = .ok (.invokevirtual 138, 3) := by decide +kernel
theorem d255_4 : decode (m_code 255) 4 = .ok (.aload_n 0, 1) := by decide +kernel
theorem d255_5 : decode (m_code 255) 5 = .ok (.invokevirtual 141, 3) := by decide +kernel
theorem d255_8 : decode (m_code 255) 8 = .ok (.aload_n 0, 1) := by decide +kernel
theorem d255_9 : decode (m_code 255) 9 = .ok (.invokevirtual 144, 3) := by decide +kernel
theorem d255_12 : decode (m_code 255) 12 = .ok (.istore_n 1, 1) := by decide +kernel
theorem d255_13 : decode (m_code 255) 13 = .ok (.iconst 0, 1) := by decide +kernel
theorem d255_14 : decode (m_code 255) 14 = .ok (.istore_n 2, 1) := by decide +kernel
theorem d255_15 : decode (m_code 255) 15 = .ok (.iload_n 2, 1) := by decide +kernel
theorem d255_16 : decode (m_code 255) 16 = .ok (.aload_n 0, 1) := by decide +kernel
theorem d255_17 : decode (m_code 255) 17 = .ok (.getfield 7, 3) := by decide +kernel
theorem d255_20 : decode (m_code 255) 20 = .ok (.iconst 2, 1) := by decide +kernel
theorem d255_21 : decode (m_code 255) 21 = .ok (.iaload, 1) := by decide +kernel
theorem d255_22 : decode (m_code 255) 22 = .ok (.if_icmp .ge 58, 3) := by decide +kernel
theorem d255_25 : decode (m_code 255) 25 = .ok (.aload_n 0, 1) := by decide +kernel
theorem d255_26 : decode (m_code 255) 26 = .ok (.iload_n 2, 1) := by decide +kernel
theorem d255_27 : decode (m_code 255) 27 = .ok (.iconst 1, 1) := by decide +kernel
theorem d255_28 : decode (m_code 255) 28 = .ok (.invokevirtual 63, 3) := by decide +kernel
theorem d255_31 : decode (m_code 255) 31 = .ok (.ifCond .le 24, 3) := by decide +kernel
theorem d255_34 : decode (m_code 255) 34 = .ok (.aload_n 0, 1) := by decide +kernel
theorem d255_35 : decode (m_code 255) 35 = .ok (.iload_n 2, 1) := by decide +kernel
theorem d255_36 : decode (m_code 255) 36 = .ok (.iconst 3, 1) := by decide +kernel
theorem d255_37 : decode (m_code 255) 37 = .ok (.invokevirtual 63, 3) := by decide +kernel
theorem d255_40 : decode (m_code 255) 40 = .ok (.aload_n 0, 1) := by decide +kernel
theorem d255_41 : decode (m_code 255) 41 = .ok (.iload_n 2, 1) := by decide +kernel
theorem d255_42 : decode (m_code 255) 42 = .ok (.iconst 1, 1) := by decide +kernel
theorem d255_43 : decode (m_code 255) 43 = .ok (.invokevirtual 63, 3) := by decide +kernel
theorem d255_46 : decode (m_code 255) 46 = .ok (.iconst 1, 1) := by decide +kernel
theorem d255_47 : decode (m_code 255) 47 = .ok (.iadd, 1) := by decide +kernel
theorem d255_48 : decode (m_code 255) 48 = .ok (.if_icmp .ne 7, 3) := by decide +kernel
theorem d255_51 : decode (m_code 255) 51 = .ok (.iconst 1, 1) := by decide +kernel
theorem d255_52 : decode (m_code 255) 52 = .ok (.goto 4, 3) := by decide +kernel
theorem d255_55 : decode (m_code 255) 55 = .ok (.iconst 0, 1) := by decide +kernel
theorem d255_56 : decode (m_code 255) 56 = .ok (.istore_n 3, 1) := by decide +kernel
theorem d255_57 : decode (m_code 255) 57 = .ok (.iload_n 1, 1) := by decide +kernel
theorem d255_58 : decode (m_code 255) 58 = .ok (.iload_n 3, 1) := by decide +kernel
theorem d255_59 : decode (m_code 255) 59 = .ok (.ifCond .eq 12, 3) := by decide +kernel
theorem d255_62 : decode (m_code 255) 62 = .ok (.aload_n 0, 1) := by decide +kernel
theorem d255_63 : decode (m_code 255) 63 = .ok (.iconst 1, 1) := by decide +kernel
theorem d255_64 : decode (m_code 255) 64 = .ok (.iload_n 2, 1) := by decide +kernel
theorem d255_65 : decode (m_code 255) 65 = .ok (.invokevirtual 135, 3) := by decide +kernel
theorem d255_68 : decode (m_code 255) 68 = .ok (.goto 4, 3) := by decide +kernel
theorem d255_71 : decode (m_code 255) 71 = .ok (.iconst 0, 1) := by decide +kernel
theorem d255_72 : decode (m_code 255) 72 = .ok (.iadd, 1) := by decide +kernel
theorem d255_73 : decode (m_code 255) 73 = .ok (.istore_n 1, 1) := by decide +kernel
theorem d255_74 : decode (m_code 255) 74 = .ok (.iinc 2 1, 3) := by decide +kernel
theorem d255_77 : decode (m_code 255) 77 = .ok (.goto (-62), 3) := by decide +kernel
theorem d255_80 : decode (m_code 255) 80 = .ok (.iconst 0, 1) := by decide +kernel
theorem d255_81 : decode (m_code 255) 81 = .ok (.istore_n 2, 1) := by decide +kernel
theorem d255_82 : decode (m_code 255) 82 = .ok (.iload_n 2, 1) := by decide +kernel
theorem d255_83 : decode (m_code 255) 83 = .ok (.aload_n 0, 1) := by decide +kernel
theorem d255_84 : decode (m_code 255) 84 = .ok (.getfield 7, 3) := by decide +kernel
theorem d255_87 : decode (m_code 255) 87 = .ok (.iconst 5, 1) := by decide +kernel
theorem d255_88 : decode (m_code 255) 88 = .ok (.iaload, 1) := by decide +kernel
theorem d255_89 : decode (m_code 255) 89 = .ok (.if_icmp .ge 94, 3) := by decide +kernel
theorem d255_92 : decode (m_code 255) 92 = .ok (.aload_n 0, 1) := by decide +kernel
theorem d255_93 : decode (m_code 255) 93 = .ok (.iload_n 2, 1) := by decide +kernel
theorem d255_94 : decode (m_code 255) 94 = .ok (.iconst 3, 1) := by decide +kernel
theorem d255_95 : decode (m_code 255) 95 = .ok (.invokevirtual 116, 3) := by decide +kernel
theorem d255_98 : decode (m_code 255) 98 = .ok (.iconst 2, 1) := by decide +kernel
theorem d255_99 : decode (m_code 255) 99 = .ok (.if_icmp .eq 78, 3) := by decide +kernel
theorem d255_102 : decode (m_code 255) 102 = .ok (.aload_n 0, 1) := by decide +kernel
theorem d255_103 : decode (m_code 255) 103 = .ok (.iload_n 2, 1) := by decide +kernel
theorem d255_104 : decode (m_code 255) 104 = .ok (.invokevirtual 147, 3) := by decide +kernel
theorem d255_107 : decode (m_code 255) 107 = .ok (.ifCond .eq 7, 3) := by decide +kernel
theorem d255_110 : decode (m_code 255) 110 = .ok (.iconst 1, 1) := by decide +kernel
theorem d255_111 : decode (m_code 255) 111 = .ok (.goto 4, 3) := by decide +kernel
theorem d255_114 : decode (m_code 255) 114 = .ok (.iconst 0, 1) := by decide +kernel
theorem d255_115 : decode (m_code 255) 115 = .ok (.istore_n 3, 1) := by decide +kernel
theorem d255_116 : decode (m_code 255) 116 = .ok (.iload_n 3, 1) := by decide +kernel
theorem d255_117 : decode (m_code 255) 117 = .ok (.iconst 1, 1) := by decide +kernel
theorem d255_118 : decode (m_code 255) 118 = .ok (.if_icmp .ne 44, 3) := by decide +kernel
theorem d255_121 : decode (m_code 255) 121 = .ok (.aload_n 0, 1) := by decide +kernel
theorem d255_122 : decode (m_code 255) 122 = .ok (.iload_n 2, 1) := by decide +kernel
theorem d255_123 : decode (m_code 255) 123 = .ok (.iconst 3, 1) := by decide +kernel
theorem d255_124 : decode (m_code 255) 124 = .ok (.invokevirtual 116, 3) := by decide +kernel
theorem d255_127 : decode (m_code 255) 127 = .ok (.ifCond .ne 35, 3) := by decide +kernel
theorem d255_130 : decode (m_code 255) 130 = .ok (.iload_n 1, 1) := by decide +kernel
theorem d255_131 : decode (m_code 255) 131 = .ok (.aload_n 0, 1) := by decide +kernel
theorem d255_132 : decode (m_code 255) 132 = .ok (.iconst 2, 1) := by decide +kernel
theorem d255_133 : decode (m_code 255) 133 = .ok (.aload_n 0, 1) := by decide +kernel
theorem d255_134 : decode (m_code 255) 134 = .ok (.iload_n 2, 1) := by decide +kernel
theorem d255_135 : decode (m_code 255) 135 = .ok (.iconst 1, 1) := by decide +kernel
theorem d255_136 : decode (m_code 255) 136 = .ok (.invokevirtual 116, 3) := by decide +kernel
theorem d255_139 : decode (m_code 255) 139 = .ok (.invokevirtual 135, 3) := by decide +kernel
theorem d255_142 : decode (m_code 255) 142 = .ok (.iadd, 1) := by decide +kernel
theorem d255_143 : decode (m_code 255) 143 = .ok (.istore_n 1, 1) := by decide +kernel
theorem d255_144 : decode (m_code 255) 144 = .ok (.aload_n 0, 1) := by decide +kernel
theorem d255_145 : decode (m_code 255) 145 = .ok (.getfield 7, 3) := by decide +kernel
theorem d255_148 : decode (m_code 255) 148 = .ok (.sipush 328, 3) := by decide +kernel
theorem d255_151 : decode (m_code 255) 151 = .ok (.iconst 5, 1) := by decide +kernel
theorem d255_152 : decode (m_code 255) 152 = .ok (.iload_n 2, 1) := by decide +kernel
theorem d255_153 : decode (m_code 255) 153 = .ok (.imul, 1) := by decide +kernel
theorem d255_154 : decode (m_code 255) 154 = .ok (.iadd, 1) := by decide +kernel
theorem d255_155 : decode (m_code 255) 155 = .ok (.iconst 4, 1) := by decide +kernel
theorem d255_156 : decode (m_code 255) 156 = .ok (.iadd, 1) := by decide +kernel
theorem d255_157 : decode (m_code 255) 157 = .ok (.dup2, 1) := by decide +kernel
theorem d255_158 : decode (m_code 255) 158 = .ok (.iaload, 1) := by decide +kernel
theorem d255_159 : decode (m_code 255) 159 = .ok (.iconst 1, 1) := by decide +kernel
theorem d255_160 : decode (m_code 255) 160 = .ok (.iadd, 1) := by decide +kernel
theorem d255_161 : decode (m_code 255) 161 = .ok (.iastore, 1) := by decide +kernel
theorem d255_162 : decode (m_code 255) 162 = .ok (.aload_n 0, 1) := by decide +kernel
theorem d255_163 : decode (m_code 255) 163 = .ok (.getfield 7, 3) := by decide +kernel
theorem d255_166 : decode (m_code 255) 166 = .ok (.sipush 328, 3) := by decide +kernel
theorem d255_169 : decode (m_code 255) 169 = .ok (.iconst 5, 1) := by decide +kernel
theorem d255_170 : decode (m_code 255) 170 = .ok (.iload_n 2, 1) := by decide +kernel
theorem d255_171 : decode (m_code 255) 171 = .ok (.imul, 1) := by decide +kernel
theorem d255_172 : decode (m_code 255) 172 = .ok (.iadd, 1) := by decide +kernel
theorem d255_173 : decode (m_code 255) 173 = .ok (.iconst 3, 1) := by decide +kernel
theorem d255_174 : decode (m_code 255) 174 = .ok (.iadd, 1) := by decide +kernel
theorem d255_175 : decode (m_code 255) 175 = .ok (.iload_n 3, 1) := by decide +kernel
theorem d255_176 : decode (m_code 255) 176 = .ok (.iastore, 1) := by decide +kernel
theorem d255_177 : decode (m_code 255) 177 = .ok (.iinc 2 1, 3) := by decide +kernel
theorem d255_180 : decode (m_code 255) 180 = .ok (.goto (-98), 3) := by decide +kernel
theorem d255_183 : decode (m_code 255) 183 = .ok (.aload_n 0, 1) := by decide +kernel
theorem d255_184 : decode (m_code 255) 184 = .ok (.getfield 7, 3) := by decide +kernel
theorem d255_187 : decode (m_code 255) 187 = .ok (.iconst 0, 1) := by decide +kernel
theorem d255_188 : decode (m_code 255) 188 = .ok (.dup2, 1) := by decide +kernel
theorem d255_189 : decode (m_code 255) 189 = .ok (.iaload, 1) := by decide +kernel
theorem d255_190 : decode (m_code 255) 190 = .ok (.iconst 1, 1) := by decide +kernel
theorem d255_191 : decode (m_code 255) 191 = .ok (.iadd, 1) := by decide +kernel
theorem d255_192 : decode (m_code 255) 192 = .ok (.iastore, 1) := by decide +kernel
theorem d255_193 : decode (m_code 255) 193 = .ok (.iload_n 1, 1) := by decide +kernel
theorem d255_194 : decode (m_code 255) 194 = .ok (.ireturn, 1) := by decide +kernel
def F_bd1 (s : Nat → Int32) (r : Nat) : Nat → Int32 :=
  if 0 < s (20 + 6 * r + 1) ∧ s (20 + 6 * r + 3) = s (20 + 6 * r + 1) + nI 1 then F_al s (s 6).toNatClampNeg (nI 1) (nI r) else s
def F_bdc (s : Nat → Int32) (r : Nat) : Nat := if 0 < s (20 + 6 * r + 1) ∧ s (20 + 6 * r + 3) = s (20 + 6 * r + 1) + nI 1 then 1 else 0
def F_bd (s : Nat → Int32) : Nat → (Nat → Int32)
  | 0 => s
  | r + 1 => F_bd1 (F_bd s r) r
def F_bdn (s : Nat → Int32) : Nat → Nat
  | 0 => 0
  | r + 1 => F_bdn s r + F_bdc (F_bd s r) r
/-- a work's look; troubled or not -/
def F_wk1 (s : Nat → Int32) (w : Nat) : Nat → Int32 :=
  if s (328 + 5 * w + 3) = nI 2 then s
  else if F_trb s w = true then
    (if s (328 + 5 * w + 3) = 0 then upd (upd (F_al s (s 6).toNatClampNeg (nI 2) (s (328 + 5 * w + 1))) (328 + 5 * w + 4) (s (328 + 5 * w + 4) + nI 1)) (328 + 5 * w + 3) (nI 1)
     else upd s (328 + 5 * w + 3) (nI 1))
  else upd s (328 + 5 * w + 3) (nI 0)
def F_wkc (s : Nat → Int32) (w : Nat) : Nat := if s (328 + 5 * w + 3) = nI 2 then 0 else if F_trb s w = true then (if s (328 + 5 * w + 3) = 0 then 1 else 0) else 0
def F_wk (s : Nat → Int32) : Nat → (Nat → Int32)
  | 0 => s
  | w + 1 => F_wk1 (F_wk s w) w
def F_wkn (s : Nat → Int32) : Nat → Nat
  | 0 => 0
  | w + 1 => F_wkn s w + F_wkc (F_wk s w) w
/-- what the reference asks of its row as a work is looked at -/
def P_wk (s : Nat → Int32) (w nW : Nat) : Prop :=
  (∃ mi, mi < 720 ∧ s 0 = nI mi) ∧ s 5 = nI nW ∧ (∃ nA, nA ≤ 40 ∧ s 6 = nI nA) ∧ (w < nW → ∃ p z, p < 12 ∧ z < 6 ∧ s (328 + 5 * w + 1) = nI p ∧ s (20 + 6 * p + 0) = nI z)
def P_bd (s : Nat → Int32) (nR : Nat) : Prop := s 2 = nI nR ∧ ∃ nA, nA ≤ 40 ∧ s 6 = nI nA
/-- the state behind the first three steps, before the bounds -/
abbrev F_m3 (σ : Nat → Int32) (nR nD nG mi : Nat) : Nat → Int32 := F_gw (F_watch (F_gb σ nD nG) nR nG mi) nG
abbrev F_m4 (σ : Nat → Int32) (nR nD nG mi : Nat) : Nat → Int32 := F_bd (F_m3 σ nR nD nG mi) nR
def F_min (σ : Nat → Int32) (nR nD nG nW mi : Nat) : Nat → Int32 := upd (F_wk (F_m4 σ nR nD nG mi) nW) 0 (nI (mi + 1))
def F_minn (σ : Nat → Int32) (nR nD nG nW mi : Nat) : Nat := F_gwn (F_watch (F_gb σ nD nG) nR nG mi) nG + F_bdn (F_m3 σ nR nD nG mi) nR + F_wkn (F_m4 σ nR nD nG mi) nW
theorem c_minute_w {X : mX}  {h0 : mH} {R : Nat → Nat → Int32} {σ : Nat → Int32} {nW a0 mi : Nat} (hW : nW ≤ 10) (hP : ∀ k, k ≤ nW → P_wk (F_wk σ k) k nW) (hm0 : ∀ k, k ≤ nW → F_wk σ k 0 = nI mi) : ∀ (d : Nat) (k : Nat) (h : mH) (a : Nat) (l3 : Option Value), nW - k = d → k ≤ nW → Ms h R (F_wk σ k) → Frm h0 h 313 8 → a = a0 + F_wkn σ k → m_wp X 255 82 [some (.ref 313), some (.int (nI a)), some (.int (nI k)), l3] [] h (fun w h1 => w = some (.int (nI (a0 + F_wkn σ nW))) ∧ Ms h1 R (upd (F_wk σ nW) 0 (nI (mi + 1))) ∧ Frm h0 h1 313 8) := by
  intro d
  induction d using Nat.strongRecOn with
  | ind d ih =>
    intro k h a l3 hd hk hR hF ha
    refine wp_iload_n d255_82 rfl ?_
    refine wp_aload_n d255_83 rfl ?_
    refine wp_getf (e := 7) (ci := 12) (k := 0) (nest := false) d255_84 (by decide +kernel) (md_0 hR) rfl ?_
    refine wp_iconst d255_87 (v := nI 5) (by decide) ?_
    refine wp_iald d255_88 (md_1 hR) (nI_in (by omega) (by decide)) (v := nI nW) ((congrArg ((F_wk σ k)) (nI_nat (by omega))).trans (hP k (by omega)).2.1) ?_
    refine wp_icmp_ge d255_89 (tgt := 183) (by decide) (fun hc89 => ?_) (fun hc89 => ?_)
    · have hc89 : nW ≤ k := (nI_leI (by omega) (by omega)).mp hc89
      obtain ⟨mi2, -, hmi3⟩ := (hP k (by omega)).1
      have hmi : F_wk σ k 0 = nI mi := hm0 k (by omega)
      refine wp_aload_n d255_183 rfl ?_
      refine wp_getf (e := 7) (ci := 12) (k := 0) (nest := false) d255_184 (by decide +kernel) (md_0 hR) rfl ?_
      refine wp_iconst d255_187 (v := nI 0) (by decide) ?_
      refine wp_dup2 d255_188 rfl rfl ?_
      refine wp_iald d255_189 (md_1 hR) (nI_in (by omega) (by decide)) (v := nI mi) ((congrArg ((F_wk σ k)) (nI_nat (by omega))).trans hmi) ?_
      refine wp_iconst d255_190 (v := nI 1) (by decide) ?_
      refine wp_iaddv d255_191 (v := nI (mi + 1)) (nI_add _ _) ?_
      refine wp_stS d255_192 hR hF (k := 0) (by omega) (fun h hR hF => ?_)
      refine wp_iload_n d255_193 rfl ?_
      refine wp_iret d255_194 (by decide +kernel) ?_
      exact ⟨by rw [show nW = k by omega, ha], by rw [show nW = k by omega]; exact hR, hF⟩
    · have hc89 : ¬ (nW ≤ k) := fun z => hc89 ((nI_leI (by omega) (by omega)).mpr z)
      obtain ⟨nA, hA40, hA⟩ := (hP k (by omega)).2.2.1
      obtain ⟨p, z, hp, hz, hp2, hz2⟩ := (hP k (by omega)).2.2.2 (by omega)
      refine wp_aload_n d255_92 rfl ?_
      refine wp_iload_n d255_93 rfl ?_
      refine wp_iconst d255_94 (v := nI 3) (by decide) ?_
      refine wp_invvT (e := 116) (j2 := 246) (n := 2) d255_95 (by decide +kernel) (by decide +kernel) rfl rfl rfl (md_0 hR) (by decide +kernel) (Nat.le_of_ble_eq_true rfl) rfl rfl (Nat.le_of_ble_eq_true rfl) (by decide +kernel) (c_workPart hR (r := k) (p := 3) (by omega) (by omega)) ?_
      refine wp_iconst d255_98 (v := nI 2) (by decide) ?_
      refine wp_icmp_eq d255_99 (tgt := 177) (by decide) (fun hc99 => ?_) (fun hc99 => ?_)
      · refine wp_iinc d255_177 rfl (v := nI (k + 1)) (nI_add _ 1) (Nat.le_of_ble_eq_true rfl) rfl ?_
        refine wp_goto d255_180 (tgt := 82) (by decide) ?_
        exact ih (nW - (k + 1)) (by omega) (k + 1) h _ _ rfl (by omega) (by simp only [F_wk, F_wk1]; rw [if_pos hc99]; exact hR) hF (by simp only [F_wkn, F_wkc]; rw [if_pos hc99]; omega)
      · refine wp_aload_n d255_102 rfl ?_
        refine wp_iload_n d255_103 rfl ?_
        refine wp_invvT (e := 147) (j2 := 262) (n := 1) d255_104 (by decide +kernel) (by decide +kernel) rfl rfl rfl (md_0 hR) (by decide +kernel) (Nat.le_of_ble_eq_true rfl) rfl rfl (Nat.le_of_ble_eq_true rfl) (by decide +kernel) (show Tells X 262 _ h (m_b (F_trb (F_wk σ k) k = true)) from c_isTroubled hR (w := k) (by omega) hp2 hp hz2 hz) ?_
        refine wp_ifb_eq d255_107 (tgt := 114) (by decide) (fun hc107 => ?_) (fun hc107 => ?_)
        · refine wp_iconst d255_114 (v := nI 0) (by decide) ?_
          refine wp_istore_n d255_115 (Nat.le_of_ble_eq_true rfl) rfl ?_
          refine wp_iload_n d255_116 rfl ?_
          refine wp_iconst d255_117 (v := nI 1) (by decide) ?_
          refine wp_icmp_ne d255_118 (tgt := 162) (by decide) (fun _ => ?_) (fun hz => absurd hz (by decide))
          refine wp_aload_n d255_162 rfl ?_
          refine wp_getf (e := 7) (ci := 12) (k := 0) (nest := false) d255_163 (by decide +kernel) (md_0 hR) rfl ?_
          refine wp_sipush d255_166 (v := nI 328) (by decide) ?_
          refine wp_iconst d255_169 (v := nI 5) (by decide) ?_
          refine wp_iload_n d255_170 rfl ?_
          refine wp_imulv d255_171 (v := nI (5 * k)) (nI_mul _ _) ?_
          refine wp_iaddv d255_172 (v := nI (328 + 5 * k)) (nI_add _ _) ?_
          refine wp_iconst d255_173 (v := nI 3) (by decide) ?_
          refine wp_iaddv d255_174 (v := nI (328 + 5 * k + 3)) (nI_add _ _) ?_
          refine wp_iload_n d255_175 rfl ?_
          refine wp_stS d255_176 hR hF (k := 328 + 5 * k + 3) (by omega) (fun h hR hF => ?_)
          refine wp_iinc d255_177 rfl (v := nI (k + 1)) (nI_add _ 1) (Nat.le_of_ble_eq_true rfl) rfl ?_
          refine wp_goto d255_180 (tgt := 82) (by decide) ?_
          exact ih (nW - (k + 1)) (by omega) (k + 1) h _ _ rfl (by omega) (by simp only [F_wk, F_wk1]; rw [if_neg hc99, if_neg hc107]; exact hR) hF (by simp only [F_wkn, F_wkc]; rw [if_neg hc99, if_neg hc107]; omega)
        · refine wp_iconst d255_110 (v := nI 1) (by decide) ?_
          refine wp_goto d255_111 (tgt := 115) (by decide) ?_
          refine wp_istore_n d255_115 (Nat.le_of_ble_eq_true rfl) rfl ?_
          refine wp_iload_n d255_116 rfl ?_
          refine wp_iconst d255_117 (v := nI 1) (by decide) ?_
          refine wp_icmp_ne d255_118 (tgt := 162) (by decide) (fun hz => absurd hz (by decide)) (fun _ => ?_)
          refine wp_aload_n d255_121 rfl ?_
          refine wp_iload_n d255_122 rfl ?_
          refine wp_iconst d255_123 (v := nI 3) (by decide) ?_
          refine wp_invvT (e := 116) (j2 := 246) (n := 2) d255_124 (by decide +kernel) (by decide +kernel) rfl rfl rfl (md_0 hR) (by decide +kernel) (Nat.le_of_ble_eq_true rfl) rfl rfl (Nat.le_of_ble_eq_true rfl) (by decide +kernel) (c_workPart hR (r := k) (p := 3) (by omega) (by omega)) ?_
          refine wp_if_ne d255_127 (tgt := 162) (by decide) (fun hc127 => ?_) (fun hc127 => ?_)
          · refine wp_aload_n d255_162 rfl ?_
            refine wp_getf (e := 7) (ci := 12) (k := 0) (nest := false) d255_163 (by decide +kernel) (md_0 hR) rfl ?_
            refine wp_sipush d255_166 (v := nI 328) (by decide) ?_
            refine wp_iconst d255_169 (v := nI 5) (by decide) ?_
            refine wp_iload_n d255_170 rfl ?_
            refine wp_imulv d255_171 (v := nI (5 * k)) (nI_mul _ _) ?_
            refine wp_iaddv d255_172 (v := nI (328 + 5 * k)) (nI_add _ _) ?_
            refine wp_iconst d255_173 (v := nI 3) (by decide) ?_
            refine wp_iaddv d255_174 (v := nI (328 + 5 * k + 3)) (nI_add _ _) ?_
            refine wp_iload_n d255_175 rfl ?_
            refine wp_stS d255_176 hR hF (k := 328 + 5 * k + 3) (by omega) (fun h hR hF => ?_)
            refine wp_iinc d255_177 rfl (v := nI (k + 1)) (nI_add _ 1) (Nat.le_of_ble_eq_true rfl) rfl ?_
            refine wp_goto d255_180 (tgt := 82) (by decide) ?_
            exact ih (nW - (k + 1)) (by omega) (k + 1) h _ _ rfl (by omega) (by simp only [F_wk, F_wk1]; rw [if_neg hc99, if_pos hc107, if_neg hc127]; exact hR) hF (by simp only [F_wkn, F_wkc]; rw [if_neg hc99, if_pos hc107, if_neg hc127]; omega)
          · refine wp_iload_n d255_130 rfl ?_
            refine wp_aload_n d255_131 rfl ?_
            refine wp_iconst d255_132 (v := nI 2) (by decide) ?_
            refine wp_aload_n d255_133 rfl ?_
            refine wp_iload_n d255_134 rfl ?_
            refine wp_iconst d255_135 (v := nI 1) (by decide) ?_
            refine wp_invvT (e := 116) (j2 := 246) (n := 2) d255_136 (by decide +kernel) (by decide +kernel) rfl rfl rfl (md_0 hR) (by decide +kernel) (Nat.le_of_ble_eq_true rfl) rfl rfl (Nat.le_of_ble_eq_true rfl) (by decide +kernel) (tells_eq (c_workPart hR (r := k) (p := 1) (by omega) (by omega)) hp2) ?_
            refine wp_invvDI (e := 135) (j2 := 261) (n := 2) d255_139 (by decide +kernel) (by decide +kernel) rfl rfl rfl (md_0 hR) (by decide +kernel) (Nat.le_of_ble_eq_true rfl) rfl rfl (Nat.le_of_ble_eq_true rfl) (by decide +kernel) (c_alarms hR (nA := nA) hA hA40 (nI 2) (nI p)) hF ?_
            intro h hR hF
            refine wp_iaddv d255_142 (v := nI (a + 1)) (nI_add _ _) ?_
            refine wp_istore_n d255_143 (Nat.le_of_ble_eq_true rfl) rfl ?_
            refine wp_aload_n d255_144 rfl ?_
            refine wp_getf (e := 7) (ci := 12) (k := 0) (nest := false) d255_145 (by decide +kernel) (md_0 hR) rfl ?_
            refine wp_sipush d255_148 (v := nI 328) (by decide) ?_
            refine wp_iconst d255_151 (v := nI 5) (by decide) ?_
            refine wp_iload_n d255_152 rfl ?_
            refine wp_imulv d255_153 (v := nI (5 * k)) (nI_mul _ _) ?_
            refine wp_iaddv d255_154 (v := nI (328 + 5 * k)) (nI_add _ _) ?_
            refine wp_iconst d255_155 (v := nI 4) (by decide) ?_
            refine wp_iaddv d255_156 (v := nI (328 + 5 * k + 4)) (nI_add _ _) ?_
            refine wp_dup2 d255_157 rfl rfl ?_
            refine wp_iald d255_158 (md_1 hR) (nI_in (by omega) (by decide)) (v := ((F_wk σ k)) (328 + 5 * k + 4)) ((congrArg ((F_al (F_wk σ k) nA (nI 2) (nI p))) (nI_nat (by omega))).trans ((F_al_lo (by omega) (by omega) (by omega) hA40).trans rfl)) ?_
            refine wp_iconst d255_159 (v := nI 1) (by decide) ?_
            refine wp_iadd d255_160 ?_
            refine wp_stS d255_161 hR hF (k := 328 + 5 * k + 4) (by omega) (fun h hR hF => ?_)
            refine wp_aload_n d255_162 rfl ?_
            refine wp_getf (e := 7) (ci := 12) (k := 0) (nest := false) d255_163 (by decide +kernel) (md_0 hR) rfl ?_
            refine wp_sipush d255_166 (v := nI 328) (by decide) ?_
            refine wp_iconst d255_169 (v := nI 5) (by decide) ?_
            refine wp_iload_n d255_170 rfl ?_
            refine wp_imulv d255_171 (v := nI (5 * k)) (nI_mul _ _) ?_
            refine wp_iaddv d255_172 (v := nI (328 + 5 * k)) (nI_add _ _) ?_
            refine wp_iconst d255_173 (v := nI 3) (by decide) ?_
            refine wp_iaddv d255_174 (v := nI (328 + 5 * k + 3)) (nI_add _ _) ?_
            refine wp_iload_n d255_175 rfl ?_
            refine wp_stS d255_176 hR hF (k := 328 + 5 * k + 3) (by omega) (fun h hR hF => ?_)
            refine wp_iinc d255_177 rfl (v := nI (k + 1)) (nI_add _ 1) (Nat.le_of_ble_eq_true rfl) rfl ?_
            refine wp_goto d255_180 (tgt := 82) (by decide) ?_
            exact ih (nW - (k + 1)) (by omega) (k + 1) h _ _ rfl (by omega) (by simp only [F_wk, F_wk1]; rw [if_neg hc99, if_pos hc107, if_pos hc127]; rw [hA, hp2, nI_nat (by omega)]; exact hR) hF (by simp only [F_wkn, F_wkc]; rw [if_neg hc99, if_pos hc107, if_pos hc127]; omega)
theorem c_minute_b {X : mX}  {h0 : mH} {R : Nat → Nat → Int32} {σ : Nat → Int32} {nR a0 : Nat} {Q : Option Value → mH → Prop} (hr12 : nR ≤ 12) (hP : ∀ k, k ≤ nR → P_bd (F_bd σ k) nR) : ∀ (d : Nat) (k : Nat) (h : mH) (a : Nat) (l3 : Option Value), nR - k = d → k ≤ nR → Ms h R (F_bd σ k) → Frm h0 h 313 8 → a = a0 + F_bdn σ k → (∀ (h : mH) (a : Nat) (l2 l3 : Option Value), Ms h R (F_bd σ nR) → Frm h0 h 313 8 → a = a0 + F_bdn σ nR → m_wp X 255 80 [some (.ref 313), some (.int (nI a)), l2, l3] [] h Q) → m_wp X 255 15 [some (.ref 313), some (.int (nI a)), some (.int (nI k)), l3] [] h Q := by
  intro d
  induction d using Nat.strongRecOn with
  | ind d ih =>
    intro k h a l3 hd hk hR hF ha K
    refine wp_iload_n d255_15 rfl ?_
    refine wp_aload_n d255_16 rfl ?_
    refine wp_getf (e := 7) (ci := 12) (k := 0) (nest := false) d255_17 (by decide +kernel) (md_0 hR) rfl ?_
    refine wp_iconst d255_20 (v := nI 2) (by decide) ?_
    refine wp_iald d255_21 (md_1 hR) (nI_in (by omega) (by decide)) (v := nI nR) ((congrArg ((F_bd σ k)) (nI_nat (by omega))).trans (hP k (by omega)).1) ?_
    refine wp_icmp_ge d255_22 (tgt := 80) (by decide) (fun hc22 => ?_) (fun hc22 => ?_)
    · have hc22 : nR ≤ k := (nI_leI (by omega) (by omega)).mp hc22
      rw [show k = nR by omega] at hR ha
      exact K h a _ _ hR hF ha
    · have hc22 : ¬ (nR ≤ k) := fun z => hc22 ((nI_leI (by omega) (by omega)).mpr z)
      obtain ⟨nA, hA40, hA⟩ := (hP k (by omega)).2
      refine wp_aload_n d255_25 rfl ?_
      refine wp_iload_n d255_26 rfl ?_
      refine wp_iconst d255_27 (v := nI 1) (by decide) ?_
      refine wp_invvT (e := 63) (j2 := 219) (n := 2) d255_28 (by decide +kernel) (by decide +kernel) rfl rfl rfl (md_0 hR) (by decide +kernel) (Nat.le_of_ble_eq_true rfl) rfl rfl (Nat.le_of_ble_eq_true rfl) (by decide +kernel) (c_roomPart hR (r := k) (p := 1) (by omega) (by omega)) ?_
      refine wp_if_le d255_31 (tgt := 55) (by decide) (fun hc31 => ?_) (fun hc31 => ?_)
      · refine wp_iconst d255_55 (v := nI 0) (by decide) ?_
        refine wp_istore_n d255_56 (Nat.le_of_ble_eq_true rfl) rfl ?_
        refine wp_iload_n d255_57 rfl ?_
        refine wp_iload_n d255_58 rfl ?_
        refine wp_if_eq d255_59 (tgt := 71) (by decide) (fun _ => ?_) (fun hz => absurd hz (by decide))
        refine wp_iconst d255_71 (v := nI 0) (by decide) ?_
        refine wp_iaddv d255_72 (v := nI (a + 0)) (nI_add _ _) ?_
        refine wp_istore_n d255_73 (Nat.le_of_ble_eq_true rfl) rfl ?_
        refine wp_iinc d255_74 rfl (v := nI (k + 1)) (nI_add _ 1) (Nat.le_of_ble_eq_true rfl) rfl ?_
        refine wp_goto d255_77 (tgt := 15) (by decide) ?_
        exact ih (nR - (k + 1)) (by omega) (k + 1) h _ _ rfl (by omega) (by simp only [F_bd, F_bd1]; rw [if_neg (fun q => absurd hc31 (Int32.not_le.mpr q.1))]; exact hR) hF (by simp only [F_bdn, F_bdc]; rw [if_neg (fun q => absurd hc31 (Int32.not_le.mpr q.1))]; omega) K
      · refine wp_aload_n d255_34 rfl ?_
        refine wp_iload_n d255_35 rfl ?_
        refine wp_iconst d255_36 (v := nI 3) (by decide) ?_
        refine wp_invvT (e := 63) (j2 := 219) (n := 2) d255_37 (by decide +kernel) (by decide +kernel) rfl rfl rfl (md_0 hR) (by decide +kernel) (Nat.le_of_ble_eq_true rfl) rfl rfl (Nat.le_of_ble_eq_true rfl) (by decide +kernel) (c_roomPart hR (r := k) (p := 3) (by omega) (by omega)) ?_
        refine wp_aload_n d255_40 rfl ?_
        refine wp_iload_n d255_41 rfl ?_
        refine wp_iconst d255_42 (v := nI 1) (by decide) ?_
        refine wp_invvT (e := 63) (j2 := 219) (n := 2) d255_43 (by decide +kernel) (by decide +kernel) rfl rfl rfl (md_0 hR) (by decide +kernel) (Nat.le_of_ble_eq_true rfl) rfl rfl (Nat.le_of_ble_eq_true rfl) (by decide +kernel) (c_roomPart hR (r := k) (p := 1) (by omega) (by omega)) ?_
        refine wp_iconst d255_46 (v := nI 1) (by decide) ?_
        refine wp_iadd d255_47 ?_
        refine wp_icmp_ne d255_48 (tgt := 55) (by decide) (fun hc48 => ?_) (fun hc48 => ?_)
        · refine wp_iconst d255_55 (v := nI 0) (by decide) ?_
          refine wp_istore_n d255_56 (Nat.le_of_ble_eq_true rfl) rfl ?_
          refine wp_iload_n d255_57 rfl ?_
          refine wp_iload_n d255_58 rfl ?_
          refine wp_if_eq d255_59 (tgt := 71) (by decide) (fun _ => ?_) (fun hz => absurd hz (by decide))
          refine wp_iconst d255_71 (v := nI 0) (by decide) ?_
          refine wp_iaddv d255_72 (v := nI (a + 0)) (nI_add _ _) ?_
          refine wp_istore_n d255_73 (Nat.le_of_ble_eq_true rfl) rfl ?_
          refine wp_iinc d255_74 rfl (v := nI (k + 1)) (nI_add _ 1) (Nat.le_of_ble_eq_true rfl) rfl ?_
          refine wp_goto d255_77 (tgt := 15) (by decide) ?_
          exact ih (nR - (k + 1)) (by omega) (k + 1) h _ _ rfl (by omega) (by simp only [F_bd, F_bd1]; rw [if_neg (fun q => hc48 q.2)]; exact hR) hF (by simp only [F_bdn, F_bdc]; rw [if_neg (fun q => hc48 q.2)]; omega) K
        · refine wp_iconst d255_51 (v := nI 1) (by decide) ?_
          refine wp_goto d255_52 (tgt := 56) (by decide) ?_
          refine wp_istore_n d255_56 (Nat.le_of_ble_eq_true rfl) rfl ?_
          refine wp_iload_n d255_57 rfl ?_
          refine wp_iload_n d255_58 rfl ?_
          refine wp_if_eq d255_59 (tgt := 71) (by decide) (fun hz => absurd hz (by decide)) (fun _ => ?_)
          refine wp_aload_n d255_62 rfl ?_
          refine wp_iconst d255_63 (v := nI 1) (by decide) ?_
          refine wp_iload_n d255_64 rfl ?_
          refine wp_invvDI (e := 135) (j2 := 261) (n := 2) d255_65 (by decide +kernel) (by decide +kernel) rfl rfl rfl (md_0 hR) (by decide +kernel) (Nat.le_of_ble_eq_true rfl) rfl rfl (Nat.le_of_ble_eq_true rfl) (by decide +kernel) (c_alarms hR (nA := nA) hA hA40 (nI 1) (nI k)) hF ?_
          intro h hR hF
          refine wp_goto d255_68 (tgt := 72) (by decide) ?_
          refine wp_iaddv d255_72 (v := nI (a + 1)) (nI_add _ _) ?_
          refine wp_istore_n d255_73 (Nat.le_of_ble_eq_true rfl) rfl ?_
          refine wp_iinc d255_74 rfl (v := nI (k + 1)) (nI_add _ 1) (Nat.le_of_ble_eq_true rfl) rfl ?_
          refine wp_goto d255_77 (tgt := 15) (by decide) ?_
          exact ih (nR - (k + 1)) (by omega) (k + 1) h _ _ rfl (by omega) (by simp only [F_bd, F_bd1]; rw [if_pos ⟨Int32.not_le.mp hc31, hc48⟩]; rw [hA, nI_nat (by omega)]; exact hR) hF (by simp only [F_bdn, F_bdc]; rw [if_pos ⟨Int32.not_le.mp hc31, hc48⟩]; omega) K
theorem c_minute {X : mX} {h : mH} {R : Nat → Nat → Int32} {σ : Nat → Int32} (hR : Ms h R σ) {nR nD nG nW mi : Nat} (h2 : σ 2 = nI nR) (hr12 : nR ≤ 12) (hD : nD ≤ 20) (h4 : σ 4 = nI nG) (hG : nG ≤ 4) (hW : nW ≤ 10) (h0 : σ 0 = nI mi) (hmi2 : mi < 720) (hPb : ∀ k, k ≤ nG → P_gb (F_gb σ nD k) k nD nG) (hPw : ∀ k, k ≤ nG → P_gw (F_gw (F_watch (F_gb σ nD nG) nR nG mi) k) k nG) (hPd : ∀ k, k ≤ nR → P_bd (F_bd (F_m3 σ nR nD nG mi) k) nR) (hPt : ∀ k, k ≤ nW → P_wk (F_wk (F_m4 σ nR nD nG mi) k) k nW) (hPm : ∀ k, k ≤ nW → F_wk (F_m4 σ nR nD nG mi) k 0 = nI mi) : Does X 255 [.ref 313] h (R) (F_min σ nR nD nG nW mi) (some (.int (nI (F_minn σ nR nD nG nW mi)))) := by
  have hF : Frm h h 313 8 := Frm.rf
  refine wp_aload_n d255_0 rfl ?_
  refine wp_invvD (e := 138) (j2 := 256) (n := 0) d255_1 (by decide +kernel) (by decide +kernel) rfl rfl rfl (md_0 hR) (by decide +kernel) (Nat.le_of_ble_eq_true rfl) rfl rfl (Nat.le_of_ble_eq_true rfl) (by decide +kernel) (c_guardsBegin hR hD hG hPb) hF ?_
  intro h hR hF
  refine wp_aload_n d255_4 rfl ?_
  refine wp_invvD (e := 141) (j2 := 259) (n := 0) d255_5 (by decide +kernel) (by decide +kernel) rfl rfl rfl (md_0 hR) (by decide +kernel) (Nat.le_of_ble_eq_true rfl) rfl rfl (Nat.le_of_ble_eq_true rfl) (by decide +kernel) (c_watch hR ((F_gb_lo (by omega)).trans h2) hr12 ((F_gb_lo (by omega)).trans h4) hG ((F_gb_lo (by omega)).trans h0) hmi2) hF ?_
  intro h hR hF
  refine wp_aload_n d255_8 rfl ?_
  refine wp_invvDI (e := 144) (j2 := 260) (n := 0) d255_9 (by decide +kernel) (by decide +kernel) rfl rfl rfl (md_0 hR) (by decide +kernel) (Nat.le_of_ble_eq_true rfl) rfl rfl (Nat.le_of_ble_eq_true rfl) (by decide +kernel) (c_guardsWalk hR hG hPw) hF ?_
  intro h hR hF
  refine wp_istore_n d255_12 (Nat.le_of_ble_eq_true rfl) rfl ?_
  refine wp_iconst d255_13 (v := nI 0) (by decide) ?_
  refine wp_istore_n d255_14 (Nat.le_of_ble_eq_true rfl) rfl ?_
  refine c_minute_b (σ := F_m3 σ nR nD nG mi) hr12 hPd _ 0 h _ _ rfl (by omega) hR hF rfl ?_
  intro h a l2 l3 hR hF ha
  refine wp_iconst d255_80 (v := nI 0) (by decide) ?_
  refine wp_istore_n d255_81 (Nat.le_of_ble_eq_true rfl) rfl ?_
  have hw := c_minute_w (X := X) (σ := F_m4 σ nR nD nG mi) hW hPt hPm _ 0 h a l3 rfl (by omega) hR hF ha
  exact hw
