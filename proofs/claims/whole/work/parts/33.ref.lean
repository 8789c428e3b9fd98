/-! The reference reads the text. -/
theorem d268_0 : decode (m_code 268) 0 = .ok (.iconst 0, 1) := by decide +kernel
theorem d268_1 : decode (m_code 268) 1 = .ok (.istore_n 1, 1) := by decide +kernel
theorem d268_2 : decode (m_code 268) 2 = .ok (.aload_n 0, 1) := by decide +kernel
theorem d268_3 : decode (m_code 268) 3 = .ok (.iconst 0, 1) := by decide +kernel
theorem d268_4 : decode (m_code 268) 4 = .ok (.putfield 171, 3) := by decide +kernel
theorem d268_7 : decode (m_code 268) 7 = .ok (.iconst 0, 1) := by decide +kernel
theorem d268_8 : decode (m_code 268) 8 = .ok (.istore_n 2, 1) := by decide +kernel
theorem d268_9 : decode (m_code 268) 9 = .ok (.iload_n 2, 1) := by decide +kernel
theorem d268_10 : decode (m_code 268) 10 = .ok (.bipush 60, 2) := by decide +kernel
theorem d268_12 : decode (m_code 268) 12 = .ok (.if_icmp .gt 141, 3) := by decide +kernel
theorem d268_15 : decode (m_code 268) 15 = .ok (.aload_n 0, 1) := by decide +kernel
theorem d268_16 : decode (m_code 268) 16 = .ok (.iload_n 1, 1) := by decide +kernel
theorem d268_17 : decode (m_code 268) 17 = .ok (.invokevirtual 174, 3) := by decide +kernel
theorem d268_20 : decode (m_code 268) 20 = .ok (.istore_n 3, 1) := by decide +kernel
theorem d268_21 : decode (m_code 268) 21 = .ok (.iload_n 3, 1) := by decide +kernel
theorem d268_22 : decode (m_code 268) 22 = .ok (.iload_n 1, 1) := by decide +kernel
theorem d268_23 : decode (m_code 268) 23 = .ok (.if_icmp .ne 5, 3) := by decide +kernel
theorem d268_26 : decode (m_code 268) 26 = .ok (.iload_n 1, 1) := by decide +kernel
theorem d268_27 : decode (m_code 268) 27 = .ok (.ireturn, 1) := by decide +kernel
theorem d268_28 : decode (m_code 268) 28 = .ok (.aload_n 0, 1) := by decide +kernel
theorem d268_29 : decode (m_code 268) 29 = .ok (.getfield 28, 3) := by decide +kernel
theorem d268_32 : decode (m_code 268) 32 = .ok (.iconst 2, 1) := by decide +kernel
theorem d268_33 : decode (m_code 268) 33 = .ok (.aload_n 0, 1) := by decide +kernel
theorem d268_34 : decode (m_code 268) 34 = .ok (.getfield 171, 3) := by decide +kernel
theorem d268_37 : decode (m_code 268) 37 = .ok (.imul, 1) := by decide +kernel
theorem d268_38 : decode (m_code 268) 38 = .ok (.aload_n 0, 1) := by decide +kernel
theorem d268_39 : decode (m_code 268) 39 = .ok (.iload_n 1, 1) := by decide +kernel
theorem d268_40 : decode (m_code 268) 40 = .ok (.iload_n 3, 1) := by decide +kernel
theorem d268_41 : decode (m_code 268) 41 = .ok (.invokevirtual 177, 3) := by decide +kernel
theorem d268_44 : decode (m_code 268) 44 = .ok (.iastore, 1) := by decide +kernel
theorem d268_45 : decode (m_code 268) 45 = .ok (.aload_n 0, 1) := by decide +kernel
theorem d268_46 : decode (m_code 268) 46 = .ok (.getfield 28, 3) := by decide +kernel
theorem d268_49 : decode (m_code 268) 49 = .ok (.iconst 2, 1) := by decide +kernel
theorem d268_50 : decode (m_code 268) 50 = .ok (.aload_n 0, 1) := by decide +kernel
theorem d268_51 : decode (m_code 268) 51 = .ok (.getfield 171, 3) := by decide +kernel
theorem d268_54 : decode (m_code 268) 54 = .ok (.imul, 1) := by decide +kernel
theorem d268_55 : decode (m_code 268) 55 = .ok (.iconst 1, 1) := by decide +kernel
theorem d268_56 : decode (m_code 268) 56 = .ok (.iadd, 1) := by decide +kernel
theorem d268_57 : decode (m_code 268) 57 = .ok (.iconst 0, 1) := by decide +kernel
theorem d268_58 : decode (m_code 268) 58 = .ok (.iastore, 1) := by decide +kernel
theorem d268_59 : decode (m_code 268) 59 = .ok (.iload_n 3, 1) := by decide +kernel
theorem d268_60 : decode (m_code 268) 60 = .ok (.istore_n 1, 1) := by decide +kernel
theorem d268_61 : decode (m_code 268) 61 = .ok (.aload_n 0, 1) := by decide +kernel
theorem d268_62 : decode (m_code 268) 62 = .ok (.iload_n 1, 1) := by decide +kernel
theorem d268_63 : decode (m_code 268) 63 = .ok (.invokevirtual 165, 3) := by decide +kernel
theorem d268_66 : decode (m_code 268) 66 = .ok (.bipush 43, 2) := by decide +kernel
theorem d268_68 : decode (m_code 268) 68 = .ok (.if_icmp .ne 43, 3) := by decide +kernel
theorem d268_71 : decode (m_code 268) 71 = .ok (.aload_n 0, 1) := by decide +kernel
theorem d268_72 : decode (m_code 268) 72 = .ok (.iload_n 1, 1) := by decide +kernel
theorem d268_73 : decode (m_code 268) 73 = .ok (.iconst 1, 1) := by decide +kernel
theorem d268_74 : decode (m_code 268) 74 = .ok (.iadd, 1) := by decide +kernel
theorem d268_75 : decode (m_code 268) 75 = .ok (.invokevirtual 174, 3) := by decide +kernel
theorem d268_78 : decode (m_code 268) 78 = .ok (.istore_n 3, 1) := by decide +kernel
theorem d268_79 : decode (m_code 268) 79 = .ok (.iload_n 3, 1) := by decide +kernel
theorem d268_80 : decode (m_code 268) 80 = .ok (.iload_n 1, 1) := by decide +kernel
theorem d268_81 : decode (m_code 268) 81 = .ok (.iconst 1, 1) := by decide +kernel
theorem d268_82 : decode (m_code 268) 82 = .ok (.iadd, 1) := by decide +kernel
theorem d268_83 : decode (m_code 268) 83 = .ok (.if_icmp .ne 5, 3) := by decide +kernel
theorem d268_86 : decode (m_code 268) 86 = .ok (.iload_n 3, 1) := by decide +kernel
theorem d268_87 : decode (m_code 268) 87 = .ok (.ireturn, 1) := by decide +kernel
theorem d268_88 : decode (m_code 268) 88 = .ok (.aload_n 0, 1) := by decide +kernel
theorem d268_89 : decode (m_code 268) 89 = .ok (.getfield 28, 3) := by decide +kernel
theorem d268_92 : decode (m_code 268) 92 = .ok (.iconst 2, 1) := by decide +kernel
theorem d268_93 : decode (m_code 268) 93 = .ok (.aload_n 0, 1) := by decide +kernel
theorem d268_94 : decode (m_code 268) 94 = .ok (.getfield 171, 3) := by decide +kernel
theorem d268_97 : decode (m_code 268) 97 = .ok (.imul, 1) := by decide +kernel
theorem d268_98 : decode (m_code 268) 98 = .ok (.iconst 1, 1) := by decide +kernel
theorem d268_99 : decode (m_code 268) 99 = .ok (.iadd, 1) := by decide +kernel
theorem d268_100 : decode (m_code 268) 100 = .ok (.aload_n 0, 1) := by decide +kernel
theorem d268_101 : decode (m_code 268) 101 = .ok (.iload_n 1, 1) := by decide +kernel
theorem d268_102 : decode (m_code 268) 102 = .ok (.iconst 1, 1) := by decide +kernel
theorem d268_103 : decode (m_code 268) 103 = .ok (.iadd, 1) := by decide +kernel
theorem d268_104 : decode (m_code 268) 104 = .ok (.iload_n 3, 1) := by decide +kernel
theorem d268_105 : decode (m_code 268) 105 = .ok (.invokevirtual 177, 3) := by decide +kernel
theorem d268_108 : decode (m_code 268) 108 = .ok (.iastore, 1) := by decide +kernel
theorem d268_109 : decode (m_code 268) 109 = .ok (.iload_n 3, 1) := by decide +kernel
theorem d268_110 : decode (m_code 268) 110 = .ok (.istore_n 1, 1) := by decide +kernel
theorem d268_111 : decode (m_code 268) 111 = .ok (.aload_n 0, 1) := by decide +kernel
theorem d268_112 : decode (m_code 268) 112 = .ok (.dup, 1) := by decide +kernel
theorem d268_113 : decode (m_code 268) 113 = .ok (.getfield 171, 3) := by decide +kernel
theorem d268_116 : decode (m_code 268) 116 = .ok (.iconst 1, 1) := by decide +kernel
theorem d268_117 : decode (m_code 268) 117 = .ok (.iadd, 1) := by decide +kernel
theorem d268_118 : decode (m_code 268) 118 = .ok (.putfield 171, 3) := by decide +kernel
theorem d268_121 : decode (m_code 268) 121 = .ok (.iload_n 1, 1) := by decide +kernel
theorem d268_122 : decode (m_code 268) 122 = .ok (.aload_n 0, 1) := by decide +kernel
theorem d268_123 : decode (m_code 268) 123 = .ok (.getfield 162, 3) := by decide +kernel
theorem d268_126 : decode (m_code 268) 126 = .ok (.if_icmp .ne 6, 3) := by decide +kernel
theorem d268_129 : decode (m_code 268) 129 = .ok (.bipush (-5), 2) := by decide +kernel
theorem d268_131 : decode (m_code 268) 131 = .ok (.ireturn, 1) := by decide +kernel
theorem d268_132 : decode (m_code 268) 132 = .ok (.aload_n 0, 1) := by decide +kernel
theorem d268_133 : decode (m_code 268) 133 = .ok (.iload_n 1, 1) := by decide +kernel
theorem d268_134 : decode (m_code 268) 134 = .ok (.invokevirtual 165, 3) := by decide +kernel
theorem d268_137 : decode (m_code 268) 137 = .ok (.bipush 44, 2) := by decide +kernel
theorem d268_139 : decode (m_code 268) 139 = .ok (.if_icmp .eq 5, 3) := by decide +kernel
theorem d268_142 : decode (m_code 268) 142 = .ok (.iload_n 1, 1) := by decide +kernel
theorem d268_143 : decode (m_code 268) 143 = .ok (.ireturn, 1) := by decide +kernel
theorem d268_144 : decode (m_code 268) 144 = .ok (.iinc 1 1, 3) := by decide +kernel
theorem d268_147 : decode (m_code 268) 147 = .ok (.iinc 2 1, 3) := by decide +kernel
theorem d268_150 : decode (m_code 268) 150 = .ok (.goto (-141), 3) := by decide +kernel
theorem d268_153 : decode (m_code 268) 153 = .ok (.iload_n 1, 1) := by decide +kernel
theorem d268_154 : decode (m_code 268) 154 = .ok (.ireturn, 1) := by decide +kernel
theorem d269_0 : decode (m_code 269) 0 = .ok (.aload_n 0, 1) := by decide +kernel
theorem d269_1 : decode (m_code 269) 1 = .ok (.iload_n 1, 1) := by decide +kernel
theorem d269_2 : decode (m_code 269) 2 = .ok (.invokevirtual 168, 3) := by decide +kernel
theorem d269_5 : decode (m_code 269) 5 = .ok (.ifCond .ne 5, 3) := by decide +kernel
theorem d269_8 : decode (m_code 269) 8 = .ok (.iload_n 1, 1) := by decide +kernel
theorem d269_9 : decode (m_code 269) 9 = .ok (.ireturn, 1) := by decide +kernel
theorem d269_10 : decode (m_code 269) 10 = .ok (.aload_n 0, 1) := by decide +kernel
theorem d269_11 : decode (m_code 269) 11 = .ok (.iload_n 1, 1) := by decide +kernel
theorem d269_12 : decode (m_code 269) 12 = .ok (.invokevirtual 165, 3) := by decide +kernel
theorem d269_15 : decode (m_code 269) 15 = .ok (.bipush 48, 2) := by decide +kernel
theorem d269_17 : decode (m_code 269) 17 = .ok (.if_icmp .eq 19, 3) := by decide +kernel
theorem d269_20 : decode (m_code 269) 20 = .ok (.aload_n 0, 1) := by decide +kernel
theorem d269_21 : decode (m_code 269) 21 = .ok (.iload_n 1, 1) := by decide +kernel
theorem d269_22 : decode (m_code 269) 22 = .ok (.iconst 1, 1) := by decide +kernel
theorem d269_23 : decode (m_code 269) 23 = .ok (.iadd, 1) := by decide +kernel
theorem d269_24 : decode (m_code 269) 24 = .ok (.invokevirtual 168, 3) := by decide +kernel
theorem d269_27 : decode (m_code 269) 27 = .ok (.ifCond .eq 9, 3) := by decide +kernel
theorem d269_30 : decode (m_code 269) 30 = .ok (.iload_n 1, 1) := by decide +kernel
theorem d269_31 : decode (m_code 269) 31 = .ok (.iconst 2, 1) := by decide +kernel
theorem d269_32 : decode (m_code 269) 32 = .ok (.iadd, 1) := by decide +kernel
theorem d269_33 : decode (m_code 269) 33 = .ok (.goto 6, 3) := by decide +kernel
theorem d269_36 : decode (m_code 269) 36 = .ok (.iload_n 1, 1) := by decide +kernel
theorem d269_37 : decode (m_code 269) 37 = .ok (.iconst 1, 1) := by decide +kernel
theorem d269_38 : decode (m_code 269) 38 = .ok (.iadd, 1) := by decide +kernel
theorem d269_39 : decode (m_code 269) 39 = .ok (.ireturn, 1) := by decide +kernel
theorem d270_0 : decode (m_code 270) 0 = .ok (.aload_n 0, 1) := by decide +kernel
theorem d270_1 : decode (m_code 270) 1 = .ok (.iload_n 1, 1) := by decide +kernel
theorem d270_2 : decode (m_code 270) 2 = .ok (.invokevirtual 165, 3) := by decide +kernel
theorem d270_5 : decode (m_code 270) 5 = .ok (.bipush 48, 2) := by decide +kernel
theorem d270_7 : decode (m_code 270) 7 = .ok (.bipush 57, 2) := by decide +kernel
theorem d270_9 : decode (m_code 270) 9 = .ok (.invokestatic 39, 3) := by decide +kernel
theorem d270_12 : decode (m_code 270) 12 = .ok (.ireturn, 1) := by decide +kernel
theorem d271_0 : decode (m_code 271) 0 = .ok (.iload_n 1, 1) := by decide +kernel
theorem d271_1 : decode (m_code 271) 1 = .ok (.aload_n 0, 1) := by decide +kernel
theorem d271_2 : decode (m_code 271) 2 = .ok (.getfield 162, 3) := by decide +kernel
theorem d271_5 : decode (m_code 271) 5 = .ok (.if_icmp .ge 12, 3) := by decide +kernel
theorem d271_8 : decode (m_code 271) 8 = .ok (.aload_n 0, 1) := by decide +kernel
theorem d271_9 : decode (m_code 271) 9 = .ok (.getfield 22, 3) := by decide +kernel
theorem d271_12 : decode (m_code 271) 12 = .ok (.iload_n 1, 1) := by decide +kernel
theorem d271_13 : decode (m_code 271) 13 = .ok (.iaload, 1) := by decide +kernel
theorem d271_14 : decode (m_code 271) 14 = .ok (.goto 4, 3) := by decide +kernel
theorem d271_17 : decode (m_code 271) 17 = .ok (.iconst (-1), 1) := by decide +kernel
theorem d271_18 : decode (m_code 271) 18 = .ok (.ireturn, 1) := by decide +kernel
theorem d272_0 : decode (m_code 272) 0 = .ok (.iconst 0, 1) := by decide +kernel
theorem d272_1 : decode (m_code 272) 1 = .ok (.istore_n 3, 1) := by decide +kernel
theorem d272_2 : decode (m_code 272) 2 = .ok (.iload_n 1, 1) := by decide +kernel
theorem d272_3 : decode (m_code 272) 3 = .ok (.istore 4, 2) := by decide +kernel
theorem d272_5 : decode (m_code 272) 5 = .ok (.iload 4, 2) := by decide +kernel
theorem d272_7 : decode (m_code 272) 7 = .ok (.iload_n 2, 1) := by decide +kernel
theorem d272_8 : decode (m_code 272) 8 = .ok (.if_icmp .ge 25, 3) := by decide +kernel
theorem d272_11 : decode (m_code 272) 11 = .ok (.bipush 10, 2) := by decide +kernel
theorem d272_13 : decode (m_code 272) 13 = .ok (.iload_n 3, 1) := by decide +kernel
theorem d272_14 : decode (m_code 272) 14 = .ok (.imul, 1) := by decide +kernel
theorem d272_15 : decode (m_code 272) 15 = .ok (.aload_n 0, 1) := by decide +kernel
theorem d272_16 : decode (m_code 272) 16 = .ok (.getfield 22, 3) := by decide +kernel
theorem d272_19 : decode (m_code 272) 19 = .ok (.iload 4, 2) := by decide +kernel
theorem d272_21 : decode (m_code 272) 21 = .ok (.iaload, 1) := by decide +kernel
theorem d272_22 : decode (m_code 272) 22 = .ok (.iadd, 1) := by decide +kernel
theorem d272_23 : decode (m_code 272) 23 = .ok (.bipush 48, 2) := by decide +kernel
theorem d272_25 : decode (m_code 272) 25 = .ok (.isub, 1) := by decide +kernel
theorem d272_26 : decode (m_code 272) 26 = .ok (.istore_n 3, 1) := by decide +kernel
theorem d272_27 : decode (m_code 272) 27 = .ok (.iinc 4 1, 3) := by decide +kernel
theorem d272_30 : decode (m_code 272) 30 = .ok (.goto (-25), 3) := by decide +kernel
theorem d272_33 : decode (m_code 272) 33 = .ok (.iload_n 3, 1) := by decide +kernel
theorem d272_34 : decode (m_code 272) 34 = .ok (.ireturn, 1) := by decide +kernel
/-- the character at a place of the text -/
def F_chr (T : Nat → Int32) (tl p : Nat) : Int32 := if p < tl then T p else -1
abbrev F_dig (T : Nat → Int32) (tl p : Nat) : Prop := nI 48 ≤ F_chr T tl p ∧ F_chr T tl p ≤ nI 57
/-- the place behind a number -/
def F_bh (T : Nat → Int32) (tl p : Nat) : Nat := if F_dig T tl p then (if F_chr T tl p = nI 48 then p + 1 else if F_dig T tl (p + 1) then p + 2 else p + 1) else p
def F_nm (T : Nat → Int32) (p : Nat) : Nat → Int32
  | 0 => nI 0
  | k + 1 => nI 10 * F_nm T p k + T (p + k) - nI 48
theorem F_dig_lt {T : Nat → Int32} {tl p : Nat} (h : F_dig T tl p) : p < tl := by
  apply Classical.byContradiction
  intro z
  have h1 := h.1
  rw [F_chr, if_neg z] at h1
  exact absurd h1 (by decide)
theorem F_bh_b (T : Nat → Int32) (tl p : Nat) : F_bh T tl p = p ∨ (p < F_bh T tl p ∧ F_bh T tl p ≤ tl ∧ F_bh T tl p ≤ p + 2) := by
  unfold F_bh
  split
  next h =>
    have h1 := F_dig_lt h
    split
    · exact Or.inr (by omega)
    · split
      next h2 =>
        have h3 := F_dig_lt h2
        exact Or.inr (by omega)
      · exact Or.inr (by omega)
  · exact Or.inl rfl
abbrev F_told := Int32 × Nat × (Nat → Int32)
def F_r2 (T : Nat → Int32) (tl : Nat) (K : Nat → Nat → (Nat → Int32) → F_told) (q t : Nat) (w : Nat → Int32) : F_told :=
  if q = tl then (-5, t + 1, w) else if F_chr T tl q = nI 44 then K (q + 1) (t + 1) w else (nI q, t + 1, w)
/-- reads the text from a place on: the fault, how many orders were told, and they -/
def F_rt (T : Nat → Int32) (tl : Nat) : Nat → Nat → Nat → (Nat → Int32) → F_told
  | 0, p, t, w => (nI p, t, w)
  | f + 1, p, t, w =>
    if F_bh T tl p = p then (nI p, t, w)
    else if F_chr T tl (F_bh T tl p) = nI 43 then
      (if F_bh T tl (F_bh T tl p + 1) = F_bh T tl p + 1 then (nI (F_bh T tl p + 1), t, upd (upd w (2 * t) (F_nm T p (F_bh T tl p - p))) (2 * t + 1) (nI 0))
       else F_r2 T tl (F_rt T tl f) (F_bh T tl (F_bh T tl p + 1)) t (upd (upd (upd w (2 * t) (F_nm T p (F_bh T tl p - p))) (2 * t + 1) (nI 0)) (2 * t + 1) (F_nm T (F_bh T tl p + 1) (F_bh T tl (F_bh T tl p + 1) - (F_bh T tl p + 1)))))
    else F_r2 T tl (F_rt T tl f) (F_bh T tl p) t (upd (upd w (2 * t) (F_nm T p (F_bh T tl p - p))) (2 * t + 1) (nI 0))
section
variable {T : Nat → Int32} {tl f p t q q2 : Nat} {w : Nat → Int32}
theorem F_rt_1 (h1 : F_bh T tl p = q) (h : q = p) : F_rt T tl (f + 1) p t w = (nI p, t, w) := by
  rw [F_rt, if_pos (h1.trans h)]
theorem F_rt_2 (h1 : F_bh T tl p = q) (h : ¬ q = p) (hc : F_chr T tl q = nI 43) (h2 : F_bh T tl (q + 1) = q2) (hq : q2 = q + 1) : F_rt T tl (f + 1) p t w = (nI q2, t, upd (upd w (2 * t) (F_nm T p (q - p))) (2 * t + 1) (nI 0)) := by
  subst h1
  rw [F_rt, if_neg h, if_pos hc, if_pos (h2.trans hq), hq]
theorem F_rt_3 (h1 : F_bh T tl p = q) (h : ¬ q = p) (hc : F_chr T tl q = nI 43) (h2 : F_bh T tl (q + 1) = q2) (hq : ¬ q2 = q + 1) : F_rt T tl (f + 1) p t w = F_r2 T tl (F_rt T tl f) q2 t (upd (upd (upd w (2 * t) (F_nm T p (q - p))) (2 * t + 1) (nI 0)) (2 * t + 1) (F_nm T (q + 1) (q2 - (q + 1)))) := by
  subst h1
  subst h2
  rw [F_rt, if_neg h, if_pos hc, if_neg hq]
theorem F_rt_4 (h1 : F_bh T tl p = q) (h : ¬ q = p) (hc : ¬ F_chr T tl q = nI 43) : F_rt T tl (f + 1) p t w = F_r2 T tl (F_rt T tl f) q t (upd (upd w (2 * t) (F_nm T p (q - p))) (2 * t + 1) (nI 0)) := by
  subst h1
  rw [F_rt, if_neg h, if_neg hc]
end
/-- the reference's cells as it reads -/
def G_rt (R : Nat → Nat → Int32) (t : Nat) (w : Nat → Int32) : Nat → Nat → Int32 := stM (updM R 0 10 (nI t)) 7 w
theorem G_rt_w (R : Nat → Nat → Int32) (t : Nat) (w w2 : Nat → Int32) : stM (G_rt R t w) 7 w2 = G_rt R t w2 := stM_twice _ 7 w w2
theorem G_rt_t (R : Nat → Nat → Int32) (t t2 : Nat) (w : Nat → Int32) : updM (G_rt R t w) 0 10 (nI t2) = G_rt R t2 w := by
  funext o i
  unfold G_rt updM stM upd
  by_cases h0 : o = 0
  · subst h0
    simp
    split <;> rfl
  · simp [h0]
theorem G_rt_0 (R : Nat → Nat → Int32) (t : Nat) : updM R 0 10 (nI t) = G_rt R t (R 7) := by
  funext o i
  unfold G_rt updM stM upd
  by_cases h0 : o = 7
  · subst h0
    simp
  · simp [h0]
theorem mt_7 {h : mH} {R : Nat → Nat → Int32} {σ w : Nat → Int32} {t : Nat} (hR : Ms h (G_rt R t w) σ) : m_get h 320 = some (.inl (false, 60, w)) := md_7 hR
theorem t_character {X : mX} {h : mH} {R : Nat → Nat → Int32} {σ T : Nat → Int32} {tl : Nat} (hR : Ms h R σ) (hT : R 5 = T) (ht : R 0 7 = nI tl) (htl : tl ≤ 60) {p : Nat} (hp : p < 100) : Tells X 271 [.ref 313, .int (nI p)] h (F_chr T tl p) := by
  refine wp_iload_n d271_0 rfl ?_
  refine wp_aload_n d271_1 rfl ?_
  refine wp_getf (e := 162) (ci := 12) (k := 7) (nest := false) (v := .int (nI tl)) d271_2 (by decide +kernel) (md_0 hR) (by rw [← ht]; rfl) ?_
  refine wp_icmp_ge d271_5 (tgt := 17) (by decide) (fun hc5 => ?_) (fun hc5 => ?_)
  · have hc5 : tl ≤ p := (nI_leI (by omega) (by omega)).mp hc5
    refine wp_iconst d271_17 (v := (-1 : Int32)) (by decide) ?_
    refine wp_iret d271_18 (by decide +kernel) ?_
    exact ⟨by rw [F_chr, if_neg (by omega)], rfl⟩
  · have hc5 : ¬ (tl ≤ p) := fun z => hc5 ((nI_leI (by omega) (by omega)).mpr z)
    refine wp_aload_n d271_8 rfl ?_
    refine wp_getf (e := 22) (ci := 12) (k := 6) (nest := false) d271_9 (by decide +kernel) (md_0 hR) rfl ?_
    refine wp_iload_n d271_12 rfl ?_
    refine wp_iald d271_13 (md_5 hR) (nI_in (by omega) (by decide)) (v := R 5 p) (congrArg (R 5) (nI_nat (by omega))) ?_
    refine wp_goto d271_14 (tgt := 18) (by decide) ?_
    refine wp_iret d271_18 (by decide +kernel) ?_
    exact ⟨by rw [F_chr, if_pos (by omega), hT], rfl⟩
theorem t_isDigit {X : mX} {h : mH} {R : Nat → Nat → Int32} {σ T : Nat → Int32} {tl : Nat} (hR : Ms h R σ) (hT : R 5 = T) (ht : R 0 7 = nI tl) (htl : tl ≤ 60) {p : Nat} (hp : p < 100) : Tells X 270 [.ref 313, .int (nI p)] h (m_b (F_dig T tl p)) := by
  refine wp_aload_n d270_0 rfl ?_
  refine wp_iload_n d270_1 rfl ?_
  refine wp_invvT (e := 165) (j2 := 271) (n := 1) d270_2 (by decide +kernel) (by decide +kernel) rfl rfl rfl (md_0 hR) (by decide +kernel) (Nat.le_of_ble_eq_true rfl) rfl rfl (Nat.le_of_ble_eq_true rfl) (by decide +kernel) (t_character (T := T) (tl := tl) (p := p) hR hT ht htl (by omega)) ?_
  refine wp_bipush d270_5 (v := nI 48) (by decide) ?_
  refine wp_bipush d270_7 (v := nI 57) (by decide) ?_
  refine wp_invsT (e := 39) (j2 := 210) (n := 3) d270_9 (by decide +kernel) (by decide +kernel) rfl rfl rfl (Nat.le_of_ble_eq_true rfl) (Nat.le_of_ble_eq_true rfl) rfl rfl (Nat.le_of_ble_eq_true rfl) (by decide +kernel) (c_within ((F_chr T tl p)) (nI 48) (nI 57)) ?_
  refine wp_zret d270_12 (by decide +kernel) (m_b_01 _) ?_
  exact ⟨rfl, rfl⟩
theorem t_behind {X : mX} {h : mH} {R : Nat → Nat → Int32} {σ T : Nat → Int32} {tl : Nat} (hR : Ms h R σ) (hT : R 5 = T) (ht : R 0 7 = nI tl) (htl : tl ≤ 60) {p : Nat} (hp : p < 99) : Tells X 269 [.ref 313, .int (nI p)] h (nI (F_bh T tl p)) := by
  refine wp_aload_n d269_0 rfl ?_
  refine wp_iload_n d269_1 rfl ?_
  refine wp_invvT (e := 168) (j2 := 270) (n := 1) d269_2 (by decide +kernel) (by decide +kernel) rfl rfl rfl (md_0 hR) (by decide +kernel) (Nat.le_of_ble_eq_true rfl) rfl rfl (Nat.le_of_ble_eq_true rfl) (by decide +kernel) (t_isDigit (T := T) (tl := tl) (p := p) hR hT ht htl (by omega)) ?_
  refine wp_ifb_ne d269_5 (tgt := 10) (by decide) (fun hc5 => ?_) (fun hc5 => ?_)
  · refine wp_aload_n d269_10 rfl ?_
    refine wp_iload_n d269_11 rfl ?_
    refine wp_invvT (e := 165) (j2 := 271) (n := 1) d269_12 (by decide +kernel) (by decide +kernel) rfl rfl rfl (md_0 hR) (by decide +kernel) (Nat.le_of_ble_eq_true rfl) rfl rfl (Nat.le_of_ble_eq_true rfl) (by decide +kernel) (t_character (T := T) (tl := tl) (p := p) hR hT ht htl (by omega)) ?_
    refine wp_bipush d269_15 (v := nI 48) (by decide) ?_
    refine wp_icmp_eq d269_17 (tgt := 36) (by decide) (fun hc17 => ?_) (fun hc17 => ?_)
    · refine wp_iload_n d269_36 rfl ?_
      refine wp_iconst d269_37 (v := nI 1) (by decide) ?_
      refine wp_iaddv d269_38 (v := nI (p + 1)) (nI_add _ _) ?_
      refine wp_iret d269_39 (by decide +kernel) ?_
      exact ⟨by rw [F_bh, if_pos hc5, if_pos hc17], rfl⟩
    · refine wp_aload_n d269_20 rfl ?_
      refine wp_iload_n d269_21 rfl ?_
      refine wp_iconst d269_22 (v := nI 1) (by decide) ?_
      refine wp_iaddv d269_23 (v := nI (p + 1)) (nI_add _ _) ?_
      refine wp_invvT (e := 168) (j2 := 270) (n := 1) d269_24 (by decide +kernel) (by decide +kernel) rfl rfl rfl (md_0 hR) (by decide +kernel) (Nat.le_of_ble_eq_true rfl) rfl rfl (Nat.le_of_ble_eq_true rfl) (by decide +kernel) (t_isDigit (T := T) (tl := tl) (p := p + 1) hR hT ht htl (by omega)) ?_
      refine wp_ifb_eq d269_27 (tgt := 36) (by decide) (fun hc27 => ?_) (fun hc27 => ?_)
      · refine wp_iload_n d269_36 rfl ?_
        refine wp_iconst d269_37 (v := nI 1) (by decide) ?_
        refine wp_iaddv d269_38 (v := nI (p + 1)) (nI_add _ _) ?_
        refine wp_iret d269_39 (by decide +kernel) ?_
        exact ⟨by rw [F_bh, if_pos hc5, if_neg hc17, if_neg hc27], rfl⟩
      · refine wp_iload_n d269_30 rfl ?_
        refine wp_iconst d269_31 (v := nI 2) (by decide) ?_
        refine wp_iaddv d269_32 (v := nI (p + 2)) (nI_add _ _) ?_
        refine wp_goto d269_33 (tgt := 39) (by decide) ?_
        refine wp_iret d269_39 (by decide +kernel) ?_
        exact ⟨by rw [F_bh, if_pos hc5, if_neg hc17, if_pos hc27], rfl⟩
  · refine wp_iload_n d269_8 rfl ?_
    refine wp_iret d269_9 (by decide +kernel) ?_
    exact ⟨by rw [F_bh, if_neg hc5], rfl⟩
theorem t_number_l {X : mX} {h : mH} {R : Nat → Nat → Int32} {σ T : Nat → Int32} (hR : Ms h R σ) (hT : R 5 = T) {p e : Nat} (hpe : p ≤ e) (he : e ≤ 60) : ∀ (d : Nat) (k : Nat) (a : Int32), e - p - k = d → k ≤ e - p → a = F_nm T p k → m_wp X 272 5 [some (.ref 313), some (.int (nI p)), some (.int (nI e)), some (.int (a)), some (.int (nI (p + k)))] [] h (fun w h1 => w = some (.int (F_nm T p (e - p))) ∧ h1 = h) := by
  intro d
  induction d using Nat.strongRecOn with
  | ind d ih =>
    intro k a hd hk ha
    refine wp_iload d272_5 rfl ?_
    refine wp_iload_n d272_7 rfl ?_
    refine wp_icmp_ge d272_8 (tgt := 33) (by decide) (fun hc8 => ?_) (fun hc8 => ?_)
    · have hc8 : e ≤ p + k := (nI_leI (by omega) (by omega)).mp hc8
      refine wp_iload_n d272_33 rfl ?_
      refine wp_iret d272_34 (by decide +kernel) ?_
      exact ⟨by rw [show e - p = k by omega, ha], rfl⟩
    · have hc8 : ¬ (e ≤ p + k) := fun z => hc8 ((nI_leI (by omega) (by omega)).mpr z)
      refine wp_bipush d272_11 (v := nI 10) (by decide) ?_
      refine wp_iload_n d272_13 rfl ?_
      refine wp_imul d272_14 ?_
      refine wp_aload_n d272_15 rfl ?_
      refine wp_getf (e := 22) (ci := 12) (k := 6) (nest := false) d272_16 (by decide +kernel) (md_0 hR) rfl ?_
      refine wp_iload d272_19 rfl ?_
      refine wp_iald d272_21 (md_5 hR) (nI_in (by omega) (by decide)) (v := (T (p + k))) ((congrArg (R 5) (nI_nat (by omega))).trans (congrFun hT _)) ?_
      refine wp_iadd d272_22 ?_
      refine wp_bipush d272_23 (v := nI 48) (by decide) ?_
      refine wp_isub d272_25 ?_
      refine wp_istore_n d272_26 (Nat.le_of_ble_eq_true rfl) rfl ?_
      refine wp_iinc d272_27 rfl (v := nI (p + k + 1)) (nI_add _ 1) (Nat.le_of_ble_eq_true rfl) rfl ?_
      refine wp_goto d272_30 (tgt := 5) (by decide) ?_
      exact ih (e - p - (k + 1)) (by omega) (k + 1) _ rfl (by omega) (by rw [ha, F_nm])
theorem t_number {X : mX} {h : mH} {R : Nat → Nat → Int32} {σ T : Nat → Int32} (hR : Ms h R σ) (hT : R 5 = T) {p e : Nat} (hpe : p ≤ e) (he : e ≤ 60) : Tells X 272 [.ref 313, .int (nI p), .int (nI e)] h (F_nm T p (e - p)) := by
  refine wp_iconst d272_0 (v := nI 0) (by decide) ?_
  refine wp_istore_n d272_1 (Nat.le_of_ble_eq_true rfl) rfl ?_
  refine wp_iload_n d272_2 rfl ?_
  refine wp_istore d272_3 (Nat.le_of_ble_eq_true rfl) rfl ?_
  exact t_number_l hR hT hpe he _ 0 _ rfl (by omega) rfl
theorem t_readText_l {X : mX}   {h0 : mH} {R : Nat → Nat → Int32} {σ T w0 : Nat → Int32} {tl : Nat} (hT : R 5 = T) (ht : R 0 7 = nI tl) (htl : tl ≤ 60) : ∀ (d : Nat) (k p t : Nat) (w : Nat → Int32) (h : mH) (l3 : Option Value), 61 - k = d → k ≤ 61 → p ≤ tl → 2 * t ≤ p → F_rt T tl 61 0 0 w0 = F_rt T tl (61 - k) p t w → Ms h (G_rt R t w) σ → Frm h0 h 313 8 → m_wp X 268 9 [some (.ref 313), some (.int (nI p)), some (.int (nI k)), l3] [] h (fun v h1 => v = some (.int (F_rt T tl 61 0 0 w0).1) ∧ Ms h1 (G_rt R (F_rt T tl 61 0 0 w0).2.1 (F_rt T tl 61 0 0 w0).2.2) σ ∧ Frm h0 h1 313 8) := by
  intro d
  induction d using Nat.strongRecOn with
  | ind d ih =>
    intro k p t w h l3 hd hk hp htp hI hR hF
    refine wp_iload_n d268_9 rfl ?_
    refine wp_bipush d268_10 (v := nI 60) (by decide) ?_
    refine wp_icmp_gt d268_12 (tgt := 153) (by decide) (fun hc12 => ?_) (fun hc12 => ?_)
    · have hc12 : 60 < k := (nI_ltI (by omega) (by omega)).mp hc12
      refine wp_iload_n d268_153 rfl ?_
      refine wp_iret d268_154 (by decide +kernel) ?_
      have hE : F_rt T tl 61 0 0 w0 = (nI p, t, w) := by rw [hI, show 61 - k = 0 by omega, F_rt]
      exact ⟨by rw [hE], by rw [hE]; exact hR, hF⟩
    · have hc12 : ¬ (60 < k) := fun z => hc12 ((nI_ltI (by omega) (by omega)).mpr z)
      refine wp_aload_n d268_15 rfl ?_
      refine wp_iload_n d268_16 rfl ?_
      refine wp_invvT (e := 174) (j2 := 269) (n := 1) d268_17 (by decide +kernel) (by decide +kernel) rfl rfl rfl (md_0 hR) (by decide +kernel) (Nat.le_of_ble_eq_true rfl) rfl rfl (Nat.le_of_ble_eq_true rfl) (by decide +kernel) (t_behind (T := T) (tl := tl) (p := p) hR hT ht htl (by omega)) ?_
      have e_q := F_bh_b T tl p
      generalize hq_q : F_bh T tl p = q at e_q ⊢
      refine wp_istore_n d268_20 (Nat.le_of_ble_eq_true rfl) rfl ?_
      refine wp_iload_n d268_21 rfl ?_
      refine wp_iload_n d268_22 rfl ?_
      refine wp_icmp_ne d268_23 (tgt := 28) (by decide) (fun hc23 => ?_) (fun hc23 => ?_)
      · have hc23 : ¬ (q = p) := fun z => hc23 ((nI_eq (by omega) (by omega)).mpr z)
        refine wp_aload_n d268_28 rfl ?_
        refine wp_getf (e := 28) (ci := 12) (k := 9) (nest := false) d268_29 (by decide +kernel) (md_0 hR) rfl ?_
        refine wp_iconst d268_32 (v := nI 2) (by decide) ?_
        refine wp_aload_n d268_33 rfl ?_
        refine wp_getf (e := 171) (ci := 12) (k := 10) (nest := false) (v := .int (nI t)) d268_34 (by decide +kernel) (md_0 hR) rfl ?_
        refine wp_imulv d268_37 (v := nI (2 * t)) (nI_mul _ _) ?_
        refine wp_aload_n d268_38 rfl ?_
        refine wp_iload_n d268_39 rfl ?_
        refine wp_iload_n d268_40 rfl ?_
        refine wp_invvT (e := 177) (j2 := 272) (n := 2) d268_41 (by decide +kernel) (by decide +kernel) rfl rfl rfl (md_0 hR) (by decide +kernel) (Nat.le_of_ble_eq_true rfl) rfl rfl (Nat.le_of_ble_eq_true rfl) (by decide +kernel) (t_number (T := T) (p := p) (e := q) hR hT (by omega) (by omega)) ?_
        refine wp_iast d268_44 (mt_7 hR) (nI_in (by omega) (by decide)) ?_
        rw [nI_nat (by omega)]
        have hF := hF.trans (Frm.set (o := 7) (cl := .inl (false, 60, (upd w (2 * t) ((F_nm T p (q - p)))))) (by decide) : Frm _ _ 313 8)
        have hR := md_putA (o := 7) (n := 60) (f := (upd w (2 * t) ((F_nm T p (q - p))))) hR (by decide) rfl rfl
        rw [G_rt_w] at hR
        refine wp_aload_n d268_45 rfl ?_
        refine wp_getf (e := 28) (ci := 12) (k := 9) (nest := false) d268_46 (by decide +kernel) (md_0 hR) rfl ?_
        refine wp_iconst d268_49 (v := nI 2) (by decide) ?_
        refine wp_aload_n d268_50 rfl ?_
        refine wp_getf (e := 171) (ci := 12) (k := 10) (nest := false) (v := .int (nI t)) d268_51 (by decide +kernel) (md_0 hR) rfl ?_
        refine wp_imulv d268_54 (v := nI (2 * t)) (nI_mul _ _) ?_
        refine wp_iconst d268_55 (v := nI 1) (by decide) ?_
        refine wp_iaddv d268_56 (v := nI (2 * t + 1)) (nI_add _ _) ?_
        refine wp_iconst d268_57 (v := nI 0) (by decide) ?_
        refine wp_iast d268_58 (mt_7 hR) (nI_in (by omega) (by decide)) ?_
        rw [nI_nat (by omega)]
        have hF := hF.trans (Frm.set (o := 7) (cl := .inl (false, 60, (upd ((upd w (2 * t) ((F_nm T p (q - p))))) (2 * t + 1) (nI 0)))) (by decide) : Frm _ _ 313 8)
        have hR := md_putA (o := 7) (n := 60) (f := (upd ((upd w (2 * t) ((F_nm T p (q - p))))) (2 * t + 1) (nI 0))) hR (by decide) rfl rfl
        rw [G_rt_w] at hR
        refine wp_iload_n d268_59 rfl ?_
        refine wp_istore_n d268_60 (Nat.le_of_ble_eq_true rfl) rfl ?_
        refine wp_aload_n d268_61 rfl ?_
        refine wp_iload_n d268_62 rfl ?_
        refine wp_invvT (e := 165) (j2 := 271) (n := 1) d268_63 (by decide +kernel) (by decide +kernel) rfl rfl rfl (md_0 hR) (by decide +kernel) (Nat.le_of_ble_eq_true rfl) rfl rfl (Nat.le_of_ble_eq_true rfl) (by decide +kernel) (t_character (T := T) (tl := tl) (p := q) hR hT ht htl (by omega)) ?_
        refine wp_bipush d268_66 (v := nI 43) (by decide) ?_
        refine wp_icmp_ne d268_68 (tgt := 111) (by decide) (fun hc68 => ?_) (fun hc68 => ?_)
        · refine wp_aload_n d268_111 rfl ?_
          refine wp_dup d268_112 rfl ?_
          refine wp_getf (e := 171) (ci := 12) (k := 10) (nest := false) (v := .int (nI t)) d268_113 (by decide +kernel) (md_0 hR) rfl ?_
          refine wp_iconst d268_116 (v := nI 1) (by decide) ?_
          refine wp_iaddv d268_117 (v := nI (t + 1)) (nI_add _ _) ?_
          refine wp_putf (e := 171) (ci := 12) (k := 10) (nest := false) d268_118 (by decide +kernel) (md_0 hR) (Nat.le_of_ble_eq_true rfl) rfl (Or.inl (by decide +kernel)) ?_
          have hF := hF.trans (Frm.set (o := 0) (cl := .inr (12, ([.ref 314, .ref 315, .ref 316, .int ((G_rt R (t) ((upd ((upd w (2 * t) ((F_nm T p (q - p))))) (2 * t + 1) (nI 0)))) 0 3), .ref 317, .int ((G_rt R (t) ((upd ((upd w (2 * t) ((F_nm T p (q - p))))) (2 * t + 1) (nI 0)))) 0 5), .ref 318, .int ((G_rt R (t) ((upd ((upd w (2 * t) ((F_nm T p (q - p))))) (2 * t + 1) (nI 0)))) 0 7), .ref 319, .ref 320, .int ((G_rt R (t) ((upd ((upd w (2 * t) ((F_nm T p (q - p))))) (2 * t + 1) (nI 0)))) 0 10)] : List Value).set 10 (.int (nI (t + 1))))) (by decide) : Frm _ _ 313 8)
          have hR := md_put0 (k := 10) (v := nI (t + 1)) hR (by decide)
          rw [G_rt_t] at hR
          refine wp_iload_n d268_121 rfl ?_
          refine wp_aload_n d268_122 rfl ?_
          refine wp_getf (e := 162) (ci := 12) (k := 7) (nest := false) (v := .int (nI tl)) d268_123 (by decide +kernel) (md_0 hR) (by rw [← ht]; rfl) ?_
          refine wp_icmp_ne d268_126 (tgt := 132) (by decide) (fun hc126 => ?_) (fun hc126 => ?_)
          · have hc126 : ¬ (q = tl) := fun z => hc126 ((nI_eq (by omega) (by omega)).mpr z)
            refine wp_aload_n d268_132 rfl ?_
            refine wp_iload_n d268_133 rfl ?_
            refine wp_invvT (e := 165) (j2 := 271) (n := 1) d268_134 (by decide +kernel) (by decide +kernel) rfl rfl rfl (md_0 hR) (by decide +kernel) (Nat.le_of_ble_eq_true rfl) rfl rfl (Nat.le_of_ble_eq_true rfl) (by decide +kernel) (t_character (T := T) (tl := tl) (p := q) hR hT ht htl (by omega)) ?_
            refine wp_bipush d268_137 (v := nI 44) (by decide) ?_
            refine wp_icmp_eq d268_139 (tgt := 144) (by decide) (fun hc139 => ?_) (fun hc139 => ?_)
            · refine wp_iinc d268_144 rfl (v := nI (q + 1)) (nI_add _ 1) (Nat.le_of_ble_eq_true rfl) rfl ?_
              refine wp_iinc d268_147 rfl (v := nI (k + 1)) (nI_add _ 1) (Nat.le_of_ble_eq_true rfl) rfl ?_
              refine wp_goto d268_150 (tgt := 9) (by decide) ?_
              exact ih (61 - (k + 1)) (by omega) (k + 1) _ _ _ _ _ rfl (by omega) (by omega) (by omega) (by rw [hI, show 61 - k = 60 - k + 1 by omega, F_rt_4 hq_q hc23 hc68, F_r2, if_neg hc126, if_pos hc139, show 60 - k = 61 - (k + 1) by omega]) hR hF
            · refine wp_iload_n d268_142 rfl ?_
              refine wp_iret d268_143 (by decide +kernel) ?_
              have hE : F_rt T tl 61 0 0 w0 = (nI q, t + 1, (upd ((upd w (2 * t) ((F_nm T p (q - p))))) (2 * t + 1) (nI 0))) := by rw [hI, show 61 - k = 60 - k + 1 by omega, F_rt_4 hq_q hc23 hc68, F_r2, if_neg hc126, if_neg hc139]
              exact ⟨by rw [hE], by rw [hE]; exact hR, hF⟩
          · have hc126 : q = tl := (nI_eq (by omega) (by omega)).mp hc126
            refine wp_bipush d268_129 (v := (-5 : Int32)) (by decide) ?_
            refine wp_iret d268_131 (by decide +kernel) ?_
            have hE : F_rt T tl 61 0 0 w0 = ((-5 : Int32), t + 1, (upd ((upd w (2 * t) ((F_nm T p (q - p))))) (2 * t + 1) (nI 0))) := by rw [hI, show 61 - k = 60 - k + 1 by omega, F_rt_4 hq_q hc23 hc68, F_r2, if_pos hc126]
            exact ⟨by rw [hE], by rw [hE]; exact hR, hF⟩
        · refine wp_aload_n d268_71 rfl ?_
          refine wp_iload_n d268_72 rfl ?_
          refine wp_iconst d268_73 (v := nI 1) (by decide) ?_
          refine wp_iaddv d268_74 (v := nI (q + 1)) (nI_add _ _) ?_
          refine wp_invvT (e := 174) (j2 := 269) (n := 1) d268_75 (by decide +kernel) (by decide +kernel) rfl rfl rfl (md_0 hR) (by decide +kernel) (Nat.le_of_ble_eq_true rfl) rfl rfl (Nat.le_of_ble_eq_true rfl) (by decide +kernel) (t_behind (T := T) (tl := tl) (p := q + 1) hR hT ht htl (by omega)) ?_
          have e_q2 := F_bh_b T tl (q + 1)
          generalize hq_q2 : F_bh T tl (q + 1) = q2 at e_q2 ⊢
          refine wp_istore_n d268_78 (Nat.le_of_ble_eq_true rfl) rfl ?_
          refine wp_iload_n d268_79 rfl ?_
          refine wp_iload_n d268_80 rfl ?_
          refine wp_iconst d268_81 (v := nI 1) (by decide) ?_
          refine wp_iaddv d268_82 (v := nI (q + 1)) (nI_add _ _) ?_
          refine wp_icmp_ne d268_83 (tgt := 88) (by decide) (fun hc83 => ?_) (fun hc83 => ?_)
          · have hc83 : ¬ (q2 = q + 1) := fun z => hc83 ((nI_eq (by omega) (by omega)).mpr z)
            refine wp_aload_n d268_88 rfl ?_
            refine wp_getf (e := 28) (ci := 12) (k := 9) (nest := false) d268_89 (by decide +kernel) (md_0 hR) rfl ?_
            refine wp_iconst d268_92 (v := nI 2) (by decide) ?_
            refine wp_aload_n d268_93 rfl ?_
            refine wp_getf (e := 171) (ci := 12) (k := 10) (nest := false) (v := .int (nI t)) d268_94 (by decide +kernel) (md_0 hR) rfl ?_
            refine wp_imulv d268_97 (v := nI (2 * t)) (nI_mul _ _) ?_
            refine wp_iconst d268_98 (v := nI 1) (by decide) ?_
            refine wp_iaddv d268_99 (v := nI (2 * t + 1)) (nI_add _ _) ?_
            refine wp_aload_n d268_100 rfl ?_
            refine wp_iload_n d268_101 rfl ?_
            refine wp_iconst d268_102 (v := nI 1) (by decide) ?_
            refine wp_iaddv d268_103 (v := nI (q + 1)) (nI_add _ _) ?_
            refine wp_iload_n d268_104 rfl ?_
            refine wp_invvT (e := 177) (j2 := 272) (n := 2) d268_105 (by decide +kernel) (by decide +kernel) rfl rfl rfl (md_0 hR) (by decide +kernel) (Nat.le_of_ble_eq_true rfl) rfl rfl (Nat.le_of_ble_eq_true rfl) (by decide +kernel) (t_number (T := T) (p := q + 1) (e := q2) hR hT (by omega) (by omega)) ?_
            refine wp_iast d268_108 (mt_7 hR) (nI_in (by omega) (by decide)) ?_
            rw [nI_nat (by omega)]
            have hF := hF.trans (Frm.set (o := 7) (cl := .inl (false, 60, (upd ((upd ((upd w (2 * t) ((F_nm T p (q - p))))) (2 * t + 1) (nI 0))) (2 * t + 1) ((F_nm T (q + 1) (q2 - (q + 1))))))) (by decide) : Frm _ _ 313 8)
            have hR := md_putA (o := 7) (n := 60) (f := (upd ((upd ((upd w (2 * t) ((F_nm T p (q - p))))) (2 * t + 1) (nI 0))) (2 * t + 1) ((F_nm T (q + 1) (q2 - (q + 1)))))) hR (by decide) rfl rfl
            rw [G_rt_w] at hR
            refine wp_iload_n d268_109 rfl ?_
            refine wp_istore_n d268_110 (Nat.le_of_ble_eq_true rfl) rfl ?_
            refine wp_aload_n d268_111 rfl ?_
            refine wp_dup d268_112 rfl ?_
            refine wp_getf (e := 171) (ci := 12) (k := 10) (nest := false) (v := .int (nI t)) d268_113 (by decide +kernel) (md_0 hR) rfl ?_
            refine wp_iconst d268_116 (v := nI 1) (by decide) ?_
            refine wp_iaddv d268_117 (v := nI (t + 1)) (nI_add _ _) ?_
            refine wp_putf (e := 171) (ci := 12) (k := 10) (nest := false) d268_118 (by decide +kernel) (md_0 hR) (Nat.le_of_ble_eq_true rfl) rfl (Or.inl (by decide +kernel)) ?_
            have hF := hF.trans (Frm.set (o := 0) (cl := .inr (12, ([.ref 314, .ref 315, .ref 316, .int ((G_rt R (t) ((upd ((upd ((upd w (2 * t) ((F_nm T p (q - p))))) (2 * t + 1) (nI 0))) (2 * t + 1) ((F_nm T (q + 1) (q2 - (q + 1))))))) 0 3), .ref 317, .int ((G_rt R (t) ((upd ((upd ((upd w (2 * t) ((F_nm T p (q - p))))) (2 * t + 1) (nI 0))) (2 * t + 1) ((F_nm T (q + 1) (q2 - (q + 1))))))) 0 5), .ref 318, .int ((G_rt R (t) ((upd ((upd ((upd w (2 * t) ((F_nm T p (q - p))))) (2 * t + 1) (nI 0))) (2 * t + 1) ((F_nm T (q + 1) (q2 - (q + 1))))))) 0 7), .ref 319, .ref 320, .int ((G_rt R (t) ((upd ((upd ((upd w (2 * t) ((F_nm T p (q - p))))) (2 * t + 1) (nI 0))) (2 * t + 1) ((F_nm T (q + 1) (q2 - (q + 1))))))) 0 10)] : List Value).set 10 (.int (nI (t + 1))))) (by decide) : Frm _ _ 313 8)
            have hR := md_put0 (k := 10) (v := nI (t + 1)) hR (by decide)
            rw [G_rt_t] at hR
            refine wp_iload_n d268_121 rfl ?_
            refine wp_aload_n d268_122 rfl ?_
            refine wp_getf (e := 162) (ci := 12) (k := 7) (nest := false) (v := .int (nI tl)) d268_123 (by decide +kernel) (md_0 hR) (by rw [← ht]; rfl) ?_
            refine wp_icmp_ne d268_126 (tgt := 132) (by decide) (fun hc126 => ?_) (fun hc126 => ?_)
            · have hc126 : ¬ (q2 = tl) := fun z => hc126 ((nI_eq (by omega) (by omega)).mpr z)
              refine wp_aload_n d268_132 rfl ?_
              refine wp_iload_n d268_133 rfl ?_
              refine wp_invvT (e := 165) (j2 := 271) (n := 1) d268_134 (by decide +kernel) (by decide +kernel) rfl rfl rfl (md_0 hR) (by decide +kernel) (Nat.le_of_ble_eq_true rfl) rfl rfl (Nat.le_of_ble_eq_true rfl) (by decide +kernel) (t_character (T := T) (tl := tl) (p := q2) hR hT ht htl (by omega)) ?_
              refine wp_bipush d268_137 (v := nI 44) (by decide) ?_
              refine wp_icmp_eq d268_139 (tgt := 144) (by decide) (fun hc139 => ?_) (fun hc139 => ?_)
              · refine wp_iinc d268_144 rfl (v := nI (q2 + 1)) (nI_add _ 1) (Nat.le_of_ble_eq_true rfl) rfl ?_
                refine wp_iinc d268_147 rfl (v := nI (k + 1)) (nI_add _ 1) (Nat.le_of_ble_eq_true rfl) rfl ?_
                refine wp_goto d268_150 (tgt := 9) (by decide) ?_
                exact ih (61 - (k + 1)) (by omega) (k + 1) _ _ _ _ _ rfl (by omega) (by omega) (by omega) (by rw [hI, show 61 - k = 60 - k + 1 by omega, F_rt_3 hq_q hc23 hc68 hq_q2 hc83, F_r2, if_neg hc126, if_pos hc139, show 60 - k = 61 - (k + 1) by omega]) hR hF
              · refine wp_iload_n d268_142 rfl ?_
                refine wp_iret d268_143 (by decide +kernel) ?_
                have hE : F_rt T tl 61 0 0 w0 = (nI q2, t + 1, (upd ((upd ((upd w (2 * t) ((F_nm T p (q - p))))) (2 * t + 1) (nI 0))) (2 * t + 1) ((F_nm T (q + 1) (q2 - (q + 1)))))) := by rw [hI, show 61 - k = 60 - k + 1 by omega, F_rt_3 hq_q hc23 hc68 hq_q2 hc83, F_r2, if_neg hc126, if_neg hc139]
                exact ⟨by rw [hE], by rw [hE]; exact hR, hF⟩
            · have hc126 : q2 = tl := (nI_eq (by omega) (by omega)).mp hc126
              refine wp_bipush d268_129 (v := (-5 : Int32)) (by decide) ?_
              refine wp_iret d268_131 (by decide +kernel) ?_
              have hE : F_rt T tl 61 0 0 w0 = ((-5 : Int32), t + 1, (upd ((upd ((upd w (2 * t) ((F_nm T p (q - p))))) (2 * t + 1) (nI 0))) (2 * t + 1) ((F_nm T (q + 1) (q2 - (q + 1)))))) := by rw [hI, show 61 - k = 60 - k + 1 by omega, F_rt_3 hq_q hc23 hc68 hq_q2 hc83, F_r2, if_pos hc126]
              exact ⟨by rw [hE], by rw [hE]; exact hR, hF⟩
          · have hc83 : q2 = q + 1 := (nI_eq (by omega) (by omega)).mp hc83
            refine wp_iload_n d268_86 rfl ?_
            refine wp_iret d268_87 (by decide +kernel) ?_
            have hE : F_rt T tl 61 0 0 w0 = (nI q2, t, (upd ((upd w (2 * t) ((F_nm T p (q - p))))) (2 * t + 1) (nI 0))) := by rw [hI, show 61 - k = 60 - k + 1 by omega, F_rt_2 hq_q hc23 hc68 hq_q2 hc83]
            exact ⟨by rw [hE], by rw [hE]; exact hR, hF⟩
      · have hc23 : q = p := (nI_eq (by omega) (by omega)).mp hc23
        refine wp_iload_n d268_26 rfl ?_
        refine wp_iret d268_27 (by decide +kernel) ?_
        have hE : F_rt T tl 61 0 0 w0 = (nI p, t, w) := by rw [hI, show 61 - k = 60 - k + 1 by omega, F_rt_1 hq_q hc23]
        exact ⟨by rw [hE], by rw [hE]; exact hR, hF⟩
theorem t_readText {X : mX} {h : mH} {R : Nat → Nat → Int32} {σ T : Nat → Int32} {tl : Nat} (hR : Ms h R σ) (hT : R 5 = T) (ht : R 0 7 = nI tl) (htl : tl ≤ 60) : m_wp X 268 0 (m_entry 268 [.ref 313]) [] h (fun v h1 => v = some (.int (F_rt T tl 61 0 0 (R 7)).1) ∧ Ms h1 (G_rt R (F_rt T tl 61 0 0 (R 7)).2.1 (F_rt T tl 61 0 0 (R 7)).2.2) σ ∧ Frm h h1 313 8) := by
  have hF : Frm h h 313 8 := Frm.rf
  refine wp_iconst d268_0 (v := nI 0) (by decide) ?_
  refine wp_istore_n d268_1 (Nat.le_of_ble_eq_true rfl) rfl ?_
  refine wp_aload_n d268_2 rfl ?_
  refine wp_iconst d268_3 (v := nI 0) (by decide) ?_
  refine wp_putf (e := 171) (ci := 12) (k := 10) (nest := false) d268_4 (by decide +kernel) (md_0 hR) (Nat.le_of_ble_eq_true rfl) rfl (Or.inl (by decide +kernel)) ?_
  have hF := hF.trans (Frm.set (o := 0) (cl := .inr (12, ([.ref 314, .ref 315, .ref 316, .int (R 0 3), .ref 317, .int (R 0 5), .ref 318, .int (R 0 7), .ref 319, .ref 320, .int (R 0 10)] : List Value).set 10 (.int (nI 0)))) (by decide) : Frm _ _ 313 8)
  have hR := md_put0 (k := 10) (v := nI 0) hR (by decide)
  rw [G_rt_0] at hR
  refine wp_iconst d268_7 (v := nI 0) (by decide) ?_
  refine wp_istore_n d268_8 (Nat.le_of_ble_eq_true rfl) rfl ?_
  exact t_readText_l hT ht htl _ 0 0 0 _ _ _ rfl (by omega) (by omega) (by omega) rfl hR hF
