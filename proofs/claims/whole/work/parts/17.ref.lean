/-! The reference's steps. -/
theorem d230_0 : decode (m_code 230) 0 = .ok (.aload_n 0, 1) := by decide +kernel
theorem d230_1 : decode (m_code 230) 1 = .ok (.getfield 7, 3) := by decide +kernel
theorem d230_4 : decode (m_code 230) 4 = .ok (.sipush 192, 3) := by decide +kernel
theorem d230_7 : decode (m_code 230) 7 = .ok (.bipush 10, 2) := by decide +kernel
theorem d230_9 : decode (m_code 230) 9 = .ok (.iload_n 1, 1) := by decide +kernel
theorem d230_10 : decode (m_code 230) 10 = .ok (.imul, 1) := by decide +kernel
theorem d230_11 : decode (m_code 230) 11 = .ok (.iadd, 1) := by decide +kernel
theorem d230_12 : decode (m_code 230) 12 = .ok (.iload_n 2, 1) := by decide +kernel
theorem d230_13 : decode (m_code 230) 13 = .ok (.iadd, 1) := by decide +kernel
theorem d230_14 : decode (m_code 230) 14 = .ok (.iload_n 3, 1) := by decide +kernel
theorem d230_15 : decode (m_code 230) 15 = .ok (.iastore, 1) := by decide +kernel
theorem d230_16 : decode (m_code 230) 16 = .ok (.return_, 1) := by decide +kernel
theorem d237_0 : decode (m_code 237) 0 = .ok (.aload_n 0, 1) := by decide +kernel
theorem d237_1 : decode (m_code 237) 1 = .ok (.iload_n 1, 1) := by decide +kernel
theorem d237_2 : decode (m_code 237) 2 = .ok (.bipush 6, 2) := by decide +kernel
theorem d237_4 : decode (m_code 237) 4 = .ok (.aload_n 0, 1) := by decide +kernel
theorem d237_5 : decode (m_code 237) 5 = .ok (.iload_n 1, 1) := by decide +kernel
theorem d237_6 : decode (m_code 237) 6 = .ok (.bipush 6, 2) := by decide +kernel
theorem d237_8 : decode (m_code 237) 8 = .ok (.invokevirtual 81, 3) := by decide +kernel
theorem d237_11 : decode (m_code 237) 11 = .ok (.iconst 1, 1) := by decide +kernel
theorem d237_12 : decode (m_code 237) 12 = .ok (.iload_n 2, 1) := by decide +kernel
theorem d237_13 : decode (m_code 237) 13 = .ok (.ishl, 1) := by decide +kernel
theorem d237_14 : decode (m_code 237) 14 = .ok (.ixor, 1) := by decide +kernel
theorem d237_15 : decode (m_code 237) 15 = .ok (.invokevirtual 87, 3) := by decide +kernel
theorem d237_18 : decode (m_code 237) 18 = .ok (.return_, 1) := by decide +kernel
theorem d241_0 : decode (m_code 241) 0 = .ok (.aload_n 0, 1) := by decide +kernel
theorem d241_1 : decode (m_code 241) 1 = .ok (.iload_n 1, 1) := by decide +kernel
theorem d241_2 : decode (m_code 241) 2 = .ok (.iconst 5, 1) := by decide +kernel
theorem d241_3 : decode (m_code 241) 3 = .ok (.invokevirtual 81, 3) := by decide +kernel
theorem d241_6 : decode (m_code 241) 6 = .ok (.istore 4, 2) := by decide +kernel
theorem d241_8 : decode (m_code 241) 8 = .ok (.aload_n 0, 1) := by decide +kernel
theorem d241_9 : decode (m_code 241) 9 = .ok (.getfield 7, 3) := by decide +kernel
theorem d241_12 : decode (m_code 241) 12 = .ok (.sipush 232, 3) := by decide +kernel
theorem d241_15 : decode (m_code 241) 15 = .ok (.bipush 24, 2) := by decide +kernel
theorem d241_17 : decode (m_code 241) 17 = .ok (.iload_n 1, 1) := by decide +kernel
theorem d241_18 : decode (m_code 241) 18 = .ok (.imul, 1) := by decide +kernel
theorem d241_19 : decode (m_code 241) 19 = .ok (.iadd, 1) := by decide +kernel
theorem d241_20 : decode (m_code 241) 20 = .ok (.iconst 2, 1) := by decide +kernel
theorem d241_21 : decode (m_code 241) 21 = .ok (.iload 4, 2) := by decide +kernel
theorem d241_23 : decode (m_code 241) 23 = .ok (.imul, 1) := by decide +kernel
theorem d241_24 : decode (m_code 241) 24 = .ok (.iadd, 1) := by decide +kernel
theorem d241_25 : decode (m_code 241) 25 = .ok (.iload_n 2, 1) := by decide +kernel
theorem d241_26 : decode (m_code 241) 26 = .ok (.iastore, 1) := by decide +kernel
theorem d241_27 : decode (m_code 241) 27 = .ok (.aload_n 0, 1) := by decide +kernel
theorem d241_28 : decode (m_code 241) 28 = .ok (.getfield 7, 3) := by decide +kernel
theorem d241_31 : decode (m_code 241) 31 = .ok (.sipush 232, 3) := by decide +kernel
theorem d241_34 : decode (m_code 241) 34 = .ok (.bipush 24, 2) := by decide +kernel
theorem d241_36 : decode (m_code 241) 36 = .ok (.iload_n 1, 1) := by decide +kernel
theorem d241_37 : decode (m_code 241) 37 = .ok (.imul, 1) := by decide +kernel
theorem d241_38 : decode (m_code 241) 38 = .ok (.iadd, 1) := by decide +kernel
theorem d241_39 : decode (m_code 241) 39 = .ok (.iconst 2, 1) := by decide +kernel
theorem d241_40 : decode (m_code 241) 40 = .ok (.iload 4, 2) := by decide +kernel
theorem d241_42 : decode (m_code 241) 42 = .ok (.imul, 1) := by decide +kernel
theorem d241_43 : decode (m_code 241) 43 = .ok (.iadd, 1) := by decide +kernel
theorem d241_44 : decode (m_code 241) 44 = .ok (.iconst 1, 1) := by decide +kernel
theorem d241_45 : decode (m_code 241) 45 = .ok (.iadd, 1) := by decide +kernel
theorem d241_46 : decode (m_code 241) 46 = .ok (.iload_n 3, 1) := by decide +kernel
theorem d241_47 : decode (m_code 241) 47 = .ok (.iastore, 1) := by decide +kernel
theorem d241_48 : decode (m_code 241) 48 = .ok (.aload_n 0, 1) := by decide +kernel
theorem d241_49 : decode (m_code 241) 49 = .ok (.iload_n 1, 1) := by decide +kernel
theorem d241_50 : decode (m_code 241) 50 = .ok (.iconst 5, 1) := by decide +kernel
theorem d241_51 : decode (m_code 241) 51 = .ok (.iload 4, 2) := by decide +kernel
theorem d241_53 : decode (m_code 241) 53 = .ok (.iconst 1, 1) := by decide +kernel
theorem d241_54 : decode (m_code 241) 54 = .ok (.iadd, 1) := by decide +kernel
theorem d241_55 : decode (m_code 241) 55 = .ok (.invokevirtual 87, 3) := by decide +kernel
theorem d241_58 : decode (m_code 241) 58 = .ok (.return_, 1) := by decide +kernel
theorem d261_0 : decode (m_code 261) 0 = .ok (.aload_n 0, 1) := by decide +kernel
theorem d261_1 : decode (m_code 261) 1 = .ok (.getfield 7, 3) := by decide +kernel
theorem d261_4 : decode (m_code 261) 4 = .ok (.bipush 6, 2) := by decide +kernel
theorem d261_6 : decode (m_code 261) 6 = .ok (.iaload, 1) := by decide +kernel
theorem d261_7 : decode (m_code 261) 7 = .ok (.istore_n 3, 1) := by decide +kernel
theorem d261_8 : decode (m_code 261) 8 = .ok (.iload_n 3, 1) := by decide +kernel
theorem d261_9 : decode (m_code 261) 9 = .ok (.bipush 40, 2) := by decide +kernel
theorem d261_11 : decode (m_code 261) 11 = .ok (.if_icmp .ne 16, 3) := by decide +kernel
theorem d261_14 : decode (m_code 261) 14 = .ok (.aload_n 0, 1) := by decide +kernel
theorem d261_15 : decode (m_code 261) 15 = .ok (.getfield 7, 3) := by decide +kernel
theorem d261_18 : decode (m_code 261) 18 = .ok (.bipush 7, 2) := by decide +kernel
theorem d261_20 : decode (m_code 261) 20 = .ok (.dup2, 1) := by decide +kernel
theorem d261_21 : decode (m_code 261) 21 = .ok (.iaload, 1) := by decide +kernel
theorem d261_22 : decode (m_code 261) 22 = .ok (.iconst 1, 1) := by decide +kernel
theorem d261_23 : decode (m_code 261) 23 = .ok (.iadd, 1) := by decide +kernel
theorem d261_24 : decode (m_code 261) 24 = .ok (.iastore, 1) := by decide +kernel
theorem d261_25 : decode (m_code 261) 25 = .ok (.iconst 1, 1) := by decide +kernel
theorem d261_26 : decode (m_code 261) 26 = .ok (.ireturn, 1) := by decide +kernel
theorem d261_27 : decode (m_code 261) 27 = .ok (.aload_n 0, 1) := by decide +kernel
theorem d261_28 : decode (m_code 261) 28 = .ok (.getfield 7, 3) := by decide +kernel
theorem d261_31 : decode (m_code 261) 31 = .ok (.sipush 378, 3) := by decide +kernel
theorem d261_34 : decode (m_code 261) 34 = .ok (.iconst 5, 1) := by decide +kernel
theorem d261_35 : decode (m_code 261) 35 = .ok (.iload_n 3, 1) := by decide +kernel
theorem d261_36 : decode (m_code 261) 36 = .ok (.imul, 1) := by decide +kernel
theorem d261_37 : decode (m_code 261) 37 = .ok (.iadd, 1) := by decide +kernel
theorem d261_38 : decode (m_code 261) 38 = .ok (.iconst 0, 1) := by decide +kernel
theorem d261_39 : decode (m_code 261) 39 = .ok (.iadd, 1) := by decide +kernel
theorem d261_40 : decode (m_code 261) 40 = .ok (.iload_n 1, 1) := by decide +kernel
theorem d261_41 : decode (m_code 261) 41 = .ok (.iastore, 1) := by decide +kernel
theorem d261_42 : decode (m_code 261) 42 = .ok (.aload_n 0, 1) := by decide +kernel
theorem d261_43 : decode (m_code 261) 43 = .ok (.getfield 7, 3) := by decide +kernel
theorem d261_46 : decode (m_code 261) 46 = .ok (.sipush 378, 3) := by decide +kernel
theorem d261_49 : decode (m_code 261) 49 = .ok (.iconst 5, 1) := by decide +kernel
theorem d261_50 : decode (m_code 261) 50 = .ok (.iload_n 3, 1) := by decide +kernel
theorem d261_51 : decode (m_code 261) 51 = .ok (.imul, 1) := by decide +kernel
theorem d261_52 : decode (m_code 261) 52 = .ok (.iadd, 1) := by decide +kernel
theorem d261_53 : decode (m_code 261) 53 = .ok (.iconst 1, 1) := by decide +kernel
theorem d261_54 : decode (m_code 261) 54 = .ok (.iadd, 1) := by decide +kernel
theorem d261_55 : decode (m_code 261) 55 = .ok (.iload_n 2, 1) := by decide +kernel
theorem d261_56 : decode (m_code 261) 56 = .ok (.iastore, 1) := by decide +kernel
theorem d261_57 : decode (m_code 261) 57 = .ok (.aload_n 0, 1) := by decide +kernel
theorem d261_58 : decode (m_code 261) 58 = .ok (.getfield 7, 3) := by decide +kernel
theorem d261_61 : decode (m_code 261) 61 = .ok (.sipush 378, 3) := by decide +kernel
theorem d261_64 : decode (m_code 261) 64 = .ok (.iconst 5, 1) := by decide +kernel
theorem d261_65 : decode (m_code 261) 65 = .ok (.iload_n 3, 1) := by decide +kernel
theorem d261_66 : decode (m_code 261) 66 = .ok (.imul, 1) := by decide +kernel
theorem d261_67 : decode (m_code 261) 67 = .ok (.iadd, 1) := by decide +kernel
theorem d261_68 : decode (m_code 261) 68 = .ok (.iconst 2, 1) := by decide +kernel
theorem d261_69 : decode (m_code 261) 69 = .ok (.iadd, 1) := by decide +kernel
theorem d261_70 : decode (m_code 261) 70 = .ok (.aload_n 0, 1) := by decide +kernel
theorem d261_71 : decode (m_code 261) 71 = .ok (.getfield 7, 3) := by decide +kernel
theorem d261_74 : decode (m_code 261) 74 = .ok (.iconst 0, 1) := by decide +kernel
theorem d261_75 : decode (m_code 261) 75 = .ok (.iaload, 1) := by decide +kernel
theorem d261_76 : decode (m_code 261) 76 = .ok (.iastore, 1) := by decide +kernel
theorem d261_77 : decode (m_code 261) 77 = .ok (.aload_n 0, 1) := by decide +kernel
theorem d261_78 : decode (m_code 261) 78 = .ok (.getfield 7, 3) := by decide +kernel
theorem d261_81 : decode (m_code 261) 81 = .ok (.sipush 378, 3) := by decide +kernel
theorem d261_84 : decode (m_code 261) 84 = .ok (.iconst 5, 1) := by decide +kernel
theorem d261_85 : decode (m_code 261) 85 = .ok (.iload_n 3, 1) := by decide +kernel
theorem d261_86 : decode (m_code 261) 86 = .ok (.imul, 1) := by decide +kernel
theorem d261_87 : decode (m_code 261) 87 = .ok (.iadd, 1) := by decide +kernel
theorem d261_88 : decode (m_code 261) 88 = .ok (.iconst 3, 1) := by decide +kernel
theorem d261_89 : decode (m_code 261) 89 = .ok (.iadd, 1) := by decide +kernel
theorem d261_90 : decode (m_code 261) 90 = .ok (.bipush (-5), 2) := by decide +kernel
theorem d261_92 : decode (m_code 261) 92 = .ok (.iastore, 1) := by decide +kernel
theorem d261_93 : decode (m_code 261) 93 = .ok (.aload_n 0, 1) := by decide +kernel
theorem d261_94 : decode (m_code 261) 94 = .ok (.getfield 7, 3) := by decide +kernel
theorem d261_97 : decode (m_code 261) 97 = .ok (.sipush 378, 3) := by decide +kernel
theorem d261_100 : decode (m_code 261) 100 = .ok (.iconst 5, 1) := by decide +kernel
theorem d261_101 : decode (m_code 261) 101 = .ok (.iload_n 3, 1) := by decide +kernel
theorem d261_102 : decode (m_code 261) 102 = .ok (.imul, 1) := by decide +kernel
theorem d261_103 : decode (m_code 261) 103 = .ok (.iadd, 1) := by decide +kernel
theorem d261_104 : decode (m_code 261) 104 = .ok (.iconst 4, 1) := by decide +kernel
theorem d261_105 : decode (m_code 261) 105 = .ok (.iadd, 1) := by decide +kernel
theorem d261_106 : decode (m_code 261) 106 = .ok (.bipush (-5), 2) := by decide +kernel
theorem d261_108 : decode (m_code 261) 108 = .ok (.iastore, 1) := by decide +kernel
theorem d261_109 : decode (m_code 261) 109 = .ok (.aload_n 0, 1) := by decide +kernel
theorem d261_110 : decode (m_code 261) 110 = .ok (.getfield 7, 3) := by decide +kernel
theorem d261_113 : decode (m_code 261) 113 = .ok (.bipush 6, 2) := by decide +kernel
theorem d261_115 : decode (m_code 261) 115 = .ok (.dup2, 1) := by decide +kernel
theorem d261_116 : decode (m_code 261) 116 = .ok (.iaload, 1) := by decide +kernel
theorem d261_117 : decode (m_code 261) 117 = .ok (.iconst 1, 1) := by decide +kernel
theorem d261_118 : decode (m_code 261) 118 = .ok (.iadd, 1) := by decide +kernel
theorem d261_119 : decode (m_code 261) 119 = .ok (.iastore, 1) := by decide +kernel
theorem d261_120 : decode (m_code 261) 120 = .ok (.iconst 1, 1) := by decide +kernel
theorem d261_121 : decode (m_code 261) 121 = .ok (.ireturn, 1) := by decide +kernel
theorem upd_ne {f : Nat → Int32} {k i : Nat} {x : Int32} (h : i ≠ k) : upd f k x i = f i := if_neg h
theorem upd_eq {f : Nat → Int32} {k : Nat} {x : Int32} : upd f k x k = x := if_pos rfl
theorem stM_twice (R : Nat → Nat → Int32) (o : Nat) (f g : Nat → Int32) : stM (stM R o f) o g = stM R o g := by
  funext o' k
  unfold stM
  split <;> rfl
theorem wp_stS {X : mX} {j pc : Nat} {L : mL} {st : List Value} {h0 h : mH} {Q : Option Value → mH → Prop} {R : Nat → Nat → Int32} {σ : Nat → Int32} {k : Nat} {x : Int32} (hd : decode (m_code j) pc = .ok (.iastore, 1)) (hR : Ms h R σ) (hF : Frm h0 h 313 8) (hk : k < 4178)
    (K : ∀ h1, Ms h1 R (upd σ k x) → Frm h0 h1 313 8 → m_wp X j (pc + 1) L st h1 Q) : m_wp X j pc L (.int x :: .int (nI k) :: .ref 314 :: st) h Q := by
  refine wp_iast hd (md_1 hR) (nI_in hk (by decide)) ?_
  rw [nI_nat (by omega)]
  refine K _ ?_ (hF.trans (Frm.set (o := 1) (by decide)))
  have h2 := hR.setM (o := 1) (f := upd σ k x) (by decide) rfl
  rw [stM_twice] at h2
  exact h2
/-- a method of the reference that changes its state's row alone -/
abbrev Does (X : mX) (j : Nat) (as : List Value) (h : mH) (R : Nat → Nat → Int32) (σ : Nat → Int32) (v : Option Value) : Prop := m_wp X j 0 (m_entry j as) [] h (fun w h1 => w = v ∧ Ms h1 R σ ∧ Frm h h1 313 8)
section WPD
variable {X : mX} {j pc : Nat} {L : mL} {st rest : List Value} {h0 h : mH} {Q : Option Value → mH → Prop} {R : Nat → Nat → Int32} {σ : Nat → Int32}
theorem wp_invvD {idx e j2 a ci n : Nat} {fs : List Value} {asr as : List Value} {st0 : List Value} (hd : decode (m_code j) pc = .ok (.invokevirtual idx, 3)) (hf : m_findM (m_own j) idx = some (e, 2, j2)) (hn : m_np j2 = n) (ht : st0.take n = asr) (hdr : st0.drop n = .ref a :: rest) (has : asr.reverse = as)
    (hg : m_get h a = some (.inr (ci, fs))) (hc : (m_clsQ ci).1 = (m_y j2).cls ∧ ci < m_cls.length) (h1 : rest.length ≤ 8) (h2 : rest.all m_c1 = true) (h3 : as.all m_c1 = true) (h4 : as.length + 1 ≤ m_nl j2) (h5 : m_fr j2 + 1 ≤ m_fr j)
    (hC : Does X j2 (.ref a :: as) h R σ none) (hF : Frm h0 h 313 8) (K : ∀ h1, Ms h1 R σ → Frm h0 h1 313 8 → m_wp X j (pc + 3) L rest h1 Q) : m_wp X j pc L st0 h Q :=
  wp_invv hd hf hn ht hdr has hg hc h1 h2 h3 h4 h5 hC (fun v h1 hq => by rw [hq.1]; exact K h1 hq.2.1 (hF.trans hq.2.2))
theorem wp_invvDI {idx e j2 a ci n : Nat} {fs : List Value} {asr as : List Value} {st0 : List Value} {x : Int32} (hd : decode (m_code j) pc = .ok (.invokevirtual idx, 3)) (hf : m_findM (m_own j) idx = some (e, 2, j2)) (hn : m_np j2 = n) (ht : st0.take n = asr) (hdr : st0.drop n = .ref a :: rest) (has : asr.reverse = as)
    (hg : m_get h a = some (.inr (ci, fs))) (hc : (m_clsQ ci).1 = (m_y j2).cls ∧ ci < m_cls.length) (h1 : rest.length ≤ 8) (h2 : rest.all m_c1 = true) (h3 : as.all m_c1 = true) (h4 : as.length + 1 ≤ m_nl j2) (h5 : m_fr j2 + 1 ≤ m_fr j)
    (hC : Does X j2 (.ref a :: as) h R σ (some (.int x))) (hF : Frm h0 h 313 8) (K : ∀ h1, Ms h1 R σ → Frm h0 h1 313 8 → m_wp X j (pc + 3) L (.int x :: rest) h1 Q) : m_wp X j pc L st0 h Q :=
  wp_invv hd hf hn ht hdr has hg hc h1 h2 h3 h4 h5 hC (fun v h1 hq => by rw [hq.1]; exact K h1 hq.2.1 (hF.trans hq.2.2))
end WPD
abbrev G_set (σ : Nat → Int32) (g p : Nat) (v : Int32) : Nat → Int32 := upd σ (192 + 10 * g + p) v
abbrev G_turn (σ : Nat → Int32) (g : Nat) (k : Int32) : Nat → Int32 := G_set σ g 6 (σ (192 + 10 * g + 6) ^^^ (nI 1 <<< (k &&& 31)))
def G_put (σ : Nat → Int32) (g m : Nat) (room stay : Int32) : Nat → Int32 := G_set (upd (upd σ (232 + 24 * g + 2 * m) room) (232 + 24 * g + 2 * m + 1) stay) g 5 (nI (m + 1))
def F_al (σ : Nat → Int32) (n : Nat) (cause room : Int32) : Nat → Int32 :=
  if n = 40 then upd σ 7 (σ 7 + nI 1)
  else upd (upd (upd (upd (upd (upd σ (378 + 5 * n + 0) cause) (378 + 5 * n + 1) room) (378 + 5 * n + 2) (σ 0)) (378 + 5 * n + 3) (-5)) (378 + 5 * n + 4) (-5)) 6 (nI (n + 1))
theorem c_setGuard {X : mX} {h : mH} {R : Nat → Nat → Int32} {σ : Nat → Int32} (hR : Ms h R σ) {g p : Nat} (hg : g < 4) (hp : p < 10) (v : Int32) : Does X 230 [.ref 313, .int (nI g), .int (nI p), .int (v)] h (R) (G_set σ g p v) none := by
  have hF : Frm h h 313 8 := Frm.rf
  refine wp_aload_n d230_0 rfl ?_
  refine wp_getf (e := 7) (ci := 12) (k := 0) (nest := false) d230_1 (by decide +kernel) (md_0 hR) rfl ?_
  refine wp_sipush d230_4 (v := nI 192) (by decide) ?_
  refine wp_bipush d230_7 (v := nI 10) (by decide) ?_
  refine wp_iload_n d230_9 rfl ?_
  refine wp_imulv d230_10 (v := nI (10 * g)) (nI_mul _ _) ?_
  refine wp_iaddv d230_11 (v := nI (192 + 10 * g)) (nI_add _ _) ?_
  refine wp_iload_n d230_12 rfl ?_
  refine wp_iaddv d230_13 (v := nI (192 + 10 * g + p)) (nI_add _ _) ?_
  refine wp_iload_n d230_14 rfl ?_
  refine wp_stS d230_15 hR hF (k := 192 + 10 * g + p) (by omega) (fun h hR hF => ?_)
  refine wp_vret d230_16 (by decide +kernel) ?_
  exact ⟨rfl, hR, hF⟩
theorem c_turnKey {X : mX} {h : mH} {R : Nat → Nat → Int32} {σ : Nat → Int32} (hR : Ms h R σ) {g : Nat} (hg : g < 4) (k : Int32) : Does X 237 [.ref 313, .int (nI g), .int (k)] h (R) (G_turn σ g k) none := by
  have hF : Frm h h 313 8 := Frm.rf
  refine wp_aload_n d237_0 rfl ?_
  refine wp_iload_n d237_1 rfl ?_
  refine wp_bipush d237_2 (v := nI 6) (by decide) ?_
  refine wp_aload_n d237_4 rfl ?_
  refine wp_iload_n d237_5 rfl ?_
  refine wp_bipush d237_6 (v := nI 6) (by decide) ?_
  refine wp_invvT (e := 81) (j2 := 227) (n := 2) d237_8 (by decide +kernel) (by decide +kernel) rfl rfl rfl (md_0 hR) (by decide +kernel) (Nat.le_of_ble_eq_true rfl) rfl rfl (Nat.le_of_ble_eq_true rfl) (by decide +kernel) (c_guardPart hR (r := g) (p := 6) (by omega) (by omega)) ?_
  refine wp_iconst d237_11 (v := nI 1) (by decide) ?_
  refine wp_iload_n d237_12 rfl ?_
  refine wp_ishl d237_13 ?_
  refine wp_ixor d237_14 ?_
  refine wp_invvD (e := 87) (j2 := 230) (n := 3) d237_15 (by decide +kernel) (by decide +kernel) rfl rfl rfl (md_0 hR) (by decide +kernel) (Nat.le_of_ble_eq_true rfl) rfl rfl (Nat.le_of_ble_eq_true rfl) (by decide +kernel) (c_setGuard hR (g := g) (p := 6) (by omega) (by omega) (((σ (192 + 10 * g + 6)) ^^^ ((nI 1) <<< (k &&& 31))))) hF ?_
  intro h hR hF
  refine wp_vret d237_18 (by decide +kernel) ?_
  exact ⟨rfl, hR, hF⟩
theorem c_putOrder {X : mX} {h : mH} {R : Nat → Nat → Int32} {σ : Nat → Int32} (hR : Ms h R σ) {g m : Nat} (hg : g < 4) (hm : σ (192 + 10 * g + 5) = nI m) (hm12 : m < 12) (room stay : Int32) : Does X 241 [.ref 313, .int (nI g), .int (room), .int (stay)] h (R) (G_put σ g m room stay) none := by
  have hF : Frm h h 313 8 := Frm.rf
  refine wp_aload_n d241_0 rfl ?_
  refine wp_iload_n d241_1 rfl ?_
  refine wp_iconst d241_2 (v := nI 5) (by decide) ?_
  refine wp_invvT (e := 81) (j2 := 227) (n := 2) d241_3 (by decide +kernel) (by decide +kernel) rfl rfl rfl (md_0 hR) (by decide +kernel) (Nat.le_of_ble_eq_true rfl) rfl rfl (Nat.le_of_ble_eq_true rfl) (by decide +kernel) (tells_eq (c_guardPart hR (r := g) (p := 5) (by omega) (by omega)) hm) ?_
  refine wp_istore d241_6 (Nat.le_of_ble_eq_true rfl) rfl ?_
  refine wp_aload_n d241_8 rfl ?_
  refine wp_getf (e := 7) (ci := 12) (k := 0) (nest := false) d241_9 (by decide +kernel) (md_0 hR) rfl ?_
  refine wp_sipush d241_12 (v := nI 232) (by decide) ?_
  refine wp_bipush d241_15 (v := nI 24) (by decide) ?_
  refine wp_iload_n d241_17 rfl ?_
  refine wp_imulv d241_18 (v := nI (24 * g)) (nI_mul _ _) ?_
  refine wp_iaddv d241_19 (v := nI (232 + 24 * g)) (nI_add _ _) ?_
  refine wp_iconst d241_20 (v := nI 2) (by decide) ?_
  refine wp_iload d241_21 rfl ?_
  refine wp_imulv d241_23 (v := nI (2 * m)) (nI_mul _ _) ?_
  refine wp_iaddv d241_24 (v := nI (232 + 24 * g + 2 * m)) (nI_add _ _) ?_
  refine wp_iload_n d241_25 rfl ?_
  refine wp_stS d241_26 hR hF (k := 232 + 24 * g + 2 * m) (by omega) (fun h hR hF => ?_)
  refine wp_aload_n d241_27 rfl ?_
  refine wp_getf (e := 7) (ci := 12) (k := 0) (nest := false) d241_28 (by decide +kernel) (md_0 hR) rfl ?_
  refine wp_sipush d241_31 (v := nI 232) (by decide) ?_
  refine wp_bipush d241_34 (v := nI 24) (by decide) ?_
  refine wp_iload_n d241_36 rfl ?_
  refine wp_imulv d241_37 (v := nI (24 * g)) (nI_mul _ _) ?_
  refine wp_iaddv d241_38 (v := nI (232 + 24 * g)) (nI_add _ _) ?_
  refine wp_iconst d241_39 (v := nI 2) (by decide) ?_
  refine wp_iload d241_40 rfl ?_
  refine wp_imulv d241_42 (v := nI (2 * m)) (nI_mul _ _) ?_
  refine wp_iaddv d241_43 (v := nI (232 + 24 * g + 2 * m)) (nI_add _ _) ?_
  refine wp_iconst d241_44 (v := nI 1) (by decide) ?_
  refine wp_iaddv d241_45 (v := nI (232 + 24 * g + 2 * m + 1)) (nI_add _ _) ?_
  refine wp_iload_n d241_46 rfl ?_
  refine wp_stS d241_47 hR hF (k := 232 + 24 * g + 2 * m + 1) (by omega) (fun h hR hF => ?_)
  refine wp_aload_n d241_48 rfl ?_
  refine wp_iload_n d241_49 rfl ?_
  refine wp_iconst d241_50 (v := nI 5) (by decide) ?_
  refine wp_iload d241_51 rfl ?_
  refine wp_iconst d241_53 (v := nI 1) (by decide) ?_
  refine wp_iaddv d241_54 (v := nI (m + 1)) (nI_add _ _) ?_
  refine wp_invvD (e := 87) (j2 := 230) (n := 3) d241_55 (by decide +kernel) (by decide +kernel) rfl rfl rfl (md_0 hR) (by decide +kernel) (Nat.le_of_ble_eq_true rfl) rfl rfl (Nat.le_of_ble_eq_true rfl) (by decide +kernel) (c_setGuard hR (g := g) (p := 5) (by omega) (by omega) (nI (m + 1))) hF ?_
  intro h hR hF
  refine wp_vret d241_58 (by decide +kernel) ?_
  exact ⟨rfl, hR, hF⟩
theorem G_put_lo {σ : Nat → Int32} {g m i : Nat} {r s : Int32} (hg : g < 4) (hm : m < 12) (hi : i < 192) : G_put σ g m r s i = σ i := by
  unfold G_put G_set
  rw [upd_ne (by omega), upd_ne (by omega), upd_ne (by omega)]
theorem c_alarms {X : mX} {h : mH} {R : Nat → Nat → Int32} {σ : Nat → Int32} (hR : Ms h R σ) {nA : Nat} (hA : σ 6 = nI nA) (hA40 : nA ≤ 40) (cause room : Int32) : Does X 261 [.ref 313, .int (cause), .int (room)] h (R) (F_al σ nA cause room) (some (.int (nI 1))) := by
  have hF : Frm h h 313 8 := Frm.rf
  refine wp_aload_n d261_0 rfl ?_
  refine wp_getf (e := 7) (ci := 12) (k := 0) (nest := false) d261_1 (by decide +kernel) (md_0 hR) rfl ?_
  refine wp_bipush d261_4 (v := nI 6) (by decide) ?_
  refine wp_iald d261_6 (md_1 hR) (nI_in (by omega) (by decide)) (v := nI nA) ((congrArg σ (nI_nat (by omega))).trans hA) ?_
  refine wp_istore_n d261_7 (Nat.le_of_ble_eq_true rfl) rfl ?_
  refine wp_iload_n d261_8 rfl ?_
  refine wp_bipush d261_9 (v := nI 40) (by decide) ?_
  refine wp_icmp_ne d261_11 (tgt := 27) (by decide) (fun hc11 => ?_) (fun hc11 => ?_)
  · have hc11 : ¬ (nA = 40) := fun z => hc11 ((nI_eq (by omega) (by omega)).mpr z)
    refine wp_aload_n d261_27 rfl ?_
    refine wp_getf (e := 7) (ci := 12) (k := 0) (nest := false) d261_28 (by decide +kernel) (md_0 hR) rfl ?_
    refine wp_sipush d261_31 (v := nI 378) (by decide) ?_
    refine wp_iconst d261_34 (v := nI 5) (by decide) ?_
    refine wp_iload_n d261_35 rfl ?_
    refine wp_imulv d261_36 (v := nI (5 * nA)) (nI_mul _ _) ?_
    refine wp_iaddv d261_37 (v := nI (378 + 5 * nA)) (nI_add _ _) ?_
    refine wp_iconst d261_38 (v := nI 0) (by decide) ?_
    refine wp_iaddv d261_39 (v := nI (378 + 5 * nA + 0)) (nI_add _ _) ?_
    refine wp_iload_n d261_40 rfl ?_
    refine wp_stS d261_41 hR hF (k := 378 + 5 * nA + 0) (by omega) (fun h hR hF => ?_)
    refine wp_aload_n d261_42 rfl ?_
    refine wp_getf (e := 7) (ci := 12) (k := 0) (nest := false) d261_43 (by decide +kernel) (md_0 hR) rfl ?_
    refine wp_sipush d261_46 (v := nI 378) (by decide) ?_
    refine wp_iconst d261_49 (v := nI 5) (by decide) ?_
    refine wp_iload_n d261_50 rfl ?_
    refine wp_imulv d261_51 (v := nI (5 * nA)) (nI_mul _ _) ?_
    refine wp_iaddv d261_52 (v := nI (378 + 5 * nA)) (nI_add _ _) ?_
    refine wp_iconst d261_53 (v := nI 1) (by decide) ?_
    refine wp_iaddv d261_54 (v := nI (378 + 5 * nA + 1)) (nI_add _ _) ?_
    refine wp_iload_n d261_55 rfl ?_
    refine wp_stS d261_56 hR hF (k := 378 + 5 * nA + 1) (by omega) (fun h hR hF => ?_)
    refine wp_aload_n d261_57 rfl ?_
    refine wp_getf (e := 7) (ci := 12) (k := 0) (nest := false) d261_58 (by decide +kernel) (md_0 hR) rfl ?_
    refine wp_sipush d261_61 (v := nI 378) (by decide) ?_
    refine wp_iconst d261_64 (v := nI 5) (by decide) ?_
    refine wp_iload_n d261_65 rfl ?_
    refine wp_imulv d261_66 (v := nI (5 * nA)) (nI_mul _ _) ?_
    refine wp_iaddv d261_67 (v := nI (378 + 5 * nA)) (nI_add _ _) ?_
    refine wp_iconst d261_68 (v := nI 2) (by decide) ?_
    refine wp_iaddv d261_69 (v := nI (378 + 5 * nA + 2)) (nI_add _ _) ?_
    refine wp_aload_n d261_70 rfl ?_
    refine wp_getf (e := 7) (ci := 12) (k := 0) (nest := false) d261_71 (by decide +kernel) (md_0 hR) rfl ?_
    refine wp_iconst d261_74 (v := nI 0) (by decide) ?_
    refine wp_iald d261_75 (md_1 hR) (nI_in (by omega) (by decide)) (v := σ 0) ((congrArg ((upd (upd σ (378 + 5 * nA + 0) (cause)) (378 + 5 * nA + 1) (room))) (nI_nat (by omega))).trans ((upd_ne (by omega)).trans ((upd_ne (by omega)).trans rfl))) ?_
    refine wp_stS d261_76 hR hF (k := 378 + 5 * nA + 2) (by omega) (fun h hR hF => ?_)
    refine wp_aload_n d261_77 rfl ?_
    refine wp_getf (e := 7) (ci := 12) (k := 0) (nest := false) d261_78 (by decide +kernel) (md_0 hR) rfl ?_
    refine wp_sipush d261_81 (v := nI 378) (by decide) ?_
    refine wp_iconst d261_84 (v := nI 5) (by decide) ?_
    refine wp_iload_n d261_85 rfl ?_
    refine wp_imulv d261_86 (v := nI (5 * nA)) (nI_mul _ _) ?_
    refine wp_iaddv d261_87 (v := nI (378 + 5 * nA)) (nI_add _ _) ?_
    refine wp_iconst d261_88 (v := nI 3) (by decide) ?_
    refine wp_iaddv d261_89 (v := nI (378 + 5 * nA + 3)) (nI_add _ _) ?_
    refine wp_bipush d261_90 (v := (-5 : Int32)) (by decide) ?_
    refine wp_stS d261_92 hR hF (k := 378 + 5 * nA + 3) (by omega) (fun h hR hF => ?_)
    refine wp_aload_n d261_93 rfl ?_
    refine wp_getf (e := 7) (ci := 12) (k := 0) (nest := false) d261_94 (by decide +kernel) (md_0 hR) rfl ?_
    refine wp_sipush d261_97 (v := nI 378) (by decide) ?_
    refine wp_iconst d261_100 (v := nI 5) (by decide) ?_
    refine wp_iload_n d261_101 rfl ?_
    refine wp_imulv d261_102 (v := nI (5 * nA)) (nI_mul _ _) ?_
    refine wp_iaddv d261_103 (v := nI (378 + 5 * nA)) (nI_add _ _) ?_
    refine wp_iconst d261_104 (v := nI 4) (by decide) ?_
    refine wp_iaddv d261_105 (v := nI (378 + 5 * nA + 4)) (nI_add _ _) ?_
    refine wp_bipush d261_106 (v := (-5 : Int32)) (by decide) ?_
    refine wp_stS d261_108 hR hF (k := 378 + 5 * nA + 4) (by omega) (fun h hR hF => ?_)
    refine wp_aload_n d261_109 rfl ?_
    refine wp_getf (e := 7) (ci := 12) (k := 0) (nest := false) d261_110 (by decide +kernel) (md_0 hR) rfl ?_
    refine wp_bipush d261_113 (v := nI 6) (by decide) ?_
    refine wp_dup2 d261_115 rfl rfl ?_
    refine wp_iald d261_116 (md_1 hR) (nI_in (by omega) (by decide)) (v := nI nA) ((congrArg ((upd (upd (upd (upd (upd σ (378 + 5 * nA + 0) (cause)) (378 + 5 * nA + 1) (room)) (378 + 5 * nA + 2) (σ 0)) (378 + 5 * nA + 3) ((-5 : Int32))) (378 + 5 * nA + 4) ((-5 : Int32)))) (nI_nat (by omega))).trans ((upd_ne (by omega)).trans ((upd_ne (by omega)).trans ((upd_ne (by omega)).trans ((upd_ne (by omega)).trans ((upd_ne (by omega)).trans hA)))))) ?_
    refine wp_iconst d261_117 (v := nI 1) (by decide) ?_
    refine wp_iaddv d261_118 (v := nI (nA + 1)) (nI_add _ _) ?_
    refine wp_stS d261_119 hR hF (k := 6) (by omega) (fun h hR hF => ?_)
    refine wp_iconst d261_120 (v := nI 1) (by decide) ?_
    refine wp_iret d261_121 (by decide +kernel) ?_
    exact ⟨rfl, by unfold F_al; rw [if_neg hc11]; exact hR, hF⟩
  · have hc11 : nA = 40 := (nI_eq (by omega) (by omega)).mp hc11
    refine wp_aload_n d261_14 rfl ?_
    refine wp_getf (e := 7) (ci := 12) (k := 0) (nest := false) d261_15 (by decide +kernel) (md_0 hR) rfl ?_
    refine wp_bipush d261_18 (v := nI 7) (by decide) ?_
    refine wp_dup2 d261_20 rfl rfl ?_
    refine wp_iald d261_21 (md_1 hR) (nI_in (by omega) (by decide)) (v := σ 7) ((congrArg σ (nI_nat (by omega))).trans rfl) ?_
    refine wp_iconst d261_22 (v := nI 1) (by decide) ?_
    refine wp_iadd d261_23 ?_
    refine wp_stS d261_24 hR hF (k := 7) (by omega) (fun h hR hF => ?_)
    refine wp_iconst d261_25 (v := nI 1) (by decide) ?_
    refine wp_iret d261_26 (by decide +kernel) ?_
    exact ⟨rfl, by unfold F_al; rw [if_pos hc11]; exact hR, hF⟩
