/-! The class: a museum is copied. -/
theorem d19_0 : decode (m_code 19) 0 = .ok (.aload_n 0, 1) := by decide +kernel
theorem d19_1 : decode (m_code 19) 1 = .ok (.getfield 12, 3) := by decide +kernel
theorem d19_4 : decode (m_code 19) 4 = .ok (.aload_n 1, 1) := by decide +kernel
theorem d19_5 : decode (m_code 19) 5 = .ok (.getfield 12, 3) := by decide +kernel
theorem d19_8 : decode (m_code 19) 8 = .ok (.invokevirtual 74, 3) := by decide +kernel
theorem d19_11 : decode (m_code 19) 11 = .ok (.aload_n 0, 1) := by decide +kernel
theorem d19_12 : decode (m_code 19) 12 = .ok (.getfield 21, 3) := by decide +kernel
theorem d19_15 : decode (m_code 19) 15 = .ok (.aload_n 1, 1) := by decide +kernel
theorem d19_16 : decode (m_code 19) 16 = .ok (.getfield 21, 3) := by decide +kernel
theorem d19_19 : decode (m_code 19) 19 = .ok (.invokevirtual 78, 3) := by decide +kernel
theorem d19_22 : decode (m_code 19) 22 = .ok (.aload_n 0, 1) := by decide +kernel
theorem d19_23 : decode (m_code 19) 23 = .ok (.getfield 28, 3) := by decide +kernel
theorem d19_26 : decode (m_code 19) 26 = .ok (.aload_n 1, 1) := by decide +kernel
theorem d19_27 : decode (m_code 19) 27 = .ok (.getfield 28, 3) := by decide +kernel
theorem d19_30 : decode (m_code 19) 30 = .ok (.invokevirtual 81, 3) := by decide +kernel
theorem d19_33 : decode (m_code 19) 33 = .ok (.aload_n 0, 1) := by decide +kernel
theorem d19_34 : decode (m_code 19) 34 = .ok (.getfield 35, 3) := by decide +kernel
theorem d19_37 : decode (m_code 19) 37 = .ok (.aload_n 1, 1) := by decide +kernel
theorem d19_38 : decode (m_code 19) 38 = .ok (.getfield 35, 3) := by decide +kernel
theorem d19_41 : decode (m_code 19) 41 = .ok (.invokevirtual 84, 3) := by decide +kernel
theorem d19_44 : decode (m_code 19) 44 = .ok (.aload_n 0, 1) := by decide +kernel
theorem d19_45 : decode (m_code 19) 45 = .ok (.getfield 42, 3) := by decide +kernel
theorem d19_48 : decode (m_code 19) 48 = .ok (.aload_n 1, 1) := by decide +kernel
theorem d19_49 : decode (m_code 19) 49 = .ok (.getfield 42, 3) := by decide +kernel
theorem d19_52 : decode (m_code 19) 52 = .ok (.invokevirtual 87, 3) := by decide +kernel
theorem d19_55 : decode (m_code 19) 55 = .ok (.aload_n 0, 1) := by decide +kernel
theorem d19_56 : decode (m_code 19) 56 = .ok (.getfield 49, 3) := by decide +kernel
theorem d19_59 : decode (m_code 19) 59 = .ok (.aload_n 1, 1) := by decide +kernel
theorem d19_60 : decode (m_code 19) 60 = .ok (.getfield 49, 3) := by decide +kernel
theorem d19_63 : decode (m_code 19) 63 = .ok (.invokevirtual 90, 3) := by decide +kernel
theorem d19_66 : decode (m_code 19) 66 = .ok (.aload_n 0, 1) := by decide +kernel
theorem d19_67 : decode (m_code 19) 67 = .ok (.getfield 56, 3) := by decide +kernel
theorem d19_70 : decode (m_code 19) 70 = .ok (.aload_n 1, 1) := by decide +kernel
theorem d19_71 : decode (m_code 19) 71 = .ok (.getfield 56, 3) := by decide +kernel
theorem d19_74 : decode (m_code 19) 74 = .ok (.invokevirtual 93, 3) := by decide +kernel
theorem d19_77 : decode (m_code 19) 77 = .ok (.aload_n 0, 1) := by decide +kernel
theorem d19_78 : decode (m_code 19) 78 = .ok (.getfield 63, 3) := by decide +kernel
theorem d19_81 : decode (m_code 19) 81 = .ok (.aload_n 1, 1) := by decide +kernel
theorem d19_82 : decode (m_code 19) 82 = .ok (.getfield 63, 3) := by decide +kernel
theorem d19_85 : decode (m_code 19) 85 = .ok (.aload_n 1, 1) := by decide +kernel
theorem d19_86 : decode (m_code 19) 86 = .ok (.getfield 67, 3) := by decide +kernel
theorem d19_89 : decode (m_code 19) 89 = .ok (.invokevirtual 96, 3) := by decide +kernel
theorem d19_92 : decode (m_code 19) 92 = .ok (.aload_n 0, 1) := by decide +kernel
theorem d19_93 : decode (m_code 19) 93 = .ok (.aload_n 1, 1) := by decide +kernel
theorem d19_94 : decode (m_code 19) 94 = .ok (.getfield 67, 3) := by decide +kernel
theorem d19_97 : decode (m_code 19) 97 = .ok (.putfield 67, 3) := by decide +kernel
theorem d19_100 : decode (m_code 19) 100 = .ok (.aload_n 0, 1) := by decide +kernel
theorem d19_101 : decode (m_code 19) 101 = .ok (.aload_n 1, 1) := by decide +kernel
theorem d19_102 : decode (m_code 19) 102 = .ok (.getfield 71, 3) := by decide +kernel
theorem d19_105 : decode (m_code 19) 105 = .ok (.putfield 71, 3) := by decide +kernel
theorem d19_108 : decode (m_code 19) 108 = .ok (.return_, 1) := by decide +kernel
theorem d27_0 : decode (m_code 27) 0 = .ok (.iload_n 2, 1) := by decide +kernel
theorem d27_1 : decode (m_code 27) 1 = .ok (.iconst 0, 1) := by decide +kernel
theorem d27_2 : decode (m_code 27) 2 = .ok (.invokestatic 22, 3) := by decide +kernel
theorem d27_5 : decode (m_code 27) 5 = .ok (.sipush 720, 3) := by decide +kernel
theorem d27_8 : decode (m_code 27) 8 = .ok (.invokestatic 28, 3) := by decide +kernel
theorem d27_11 : decode (m_code 27) 11 = .ok (.istore_n 3, 1) := by decide +kernel
theorem d27_12 : decode (m_code 27) 12 = .ok (.aload_n 1, 1) := by decide +kernel
theorem d27_13 : decode (m_code 27) 13 = .ok (.getfield 11, 3) := by decide +kernel
theorem d27_16 : decode (m_code 27) 16 = .ok (.iconst 0, 1) := by decide +kernel
theorem d27_17 : decode (m_code 27) 17 = .ok (.aload_n 0, 1) := by decide +kernel
theorem d27_18 : decode (m_code 27) 18 = .ok (.getfield 11, 3) := by decide +kernel
theorem d27_21 : decode (m_code 27) 21 = .ok (.iconst 0, 1) := by decide +kernel
theorem d27_22 : decode (m_code 27) 22 = .ok (.iload_n 3, 1) := by decide +kernel
theorem d27_23 : decode (m_code 27) 23 = .ok (.invokestatic 31, 3) := by decide +kernel
theorem d27_26 : decode (m_code 27) 26 = .ok (.aload_n 1, 1) := by decide +kernel
theorem d27_27 : decode (m_code 27) 27 = .ok (.getfield 18, 3) := by decide +kernel
theorem d27_30 : decode (m_code 27) 30 = .ok (.iconst 4, 1) := by decide +kernel
theorem d27_31 : decode (m_code 27) 31 = .ok (.imul, 1) := by decide +kernel
theorem d27_32 : decode (m_code 27) 32 = .ok (.istore 4, 2) := by decide +kernel
theorem d27_34 : decode (m_code 27) 34 = .ok (.aload_n 0, 1) := by decide +kernel
theorem d27_35 : decode (m_code 27) 35 = .ok (.iload 4, 2) := by decide +kernel
theorem d27_37 : decode (m_code 27) 37 = .ok (.invokevirtual 37, 3) := by decide +kernel
theorem d27_40 : decode (m_code 27) 40 = .ok (.aload_n 1, 1) := by decide +kernel
theorem d27_41 : decode (m_code 27) 41 = .ok (.getfield 15, 3) := by decide +kernel
theorem d27_44 : decode (m_code 27) 44 = .ok (.iconst 0, 1) := by decide +kernel
theorem d27_45 : decode (m_code 27) 45 = .ok (.aload_n 0, 1) := by decide +kernel
theorem d27_46 : decode (m_code 27) 46 = .ok (.getfield 15, 3) := by decide +kernel
theorem d27_49 : decode (m_code 27) 49 = .ok (.iconst 0, 1) := by decide +kernel
theorem d27_50 : decode (m_code 27) 50 = .ok (.iload 4, 2) := by decide +kernel
theorem d27_52 : decode (m_code 27) 52 = .ok (.invokestatic 31, 3) := by decide +kernel
theorem d27_55 : decode (m_code 27) 55 = .ok (.aload_n 0, 1) := by decide +kernel
theorem d27_56 : decode (m_code 27) 56 = .ok (.aload_n 1, 1) := by decide +kernel
theorem d27_57 : decode (m_code 27) 57 = .ok (.getfield 18, 3) := by decide +kernel
theorem d27_60 : decode (m_code 27) 60 = .ok (.putfield 18, 3) := by decide +kernel
theorem d27_63 : decode (m_code 27) 63 = .ok (.return_, 1) := by decide +kernel
theorem MusT.out {h h1 : mH} {B st ln st1 ln1 B2 st2 ln2 c : Nat} {M : Nat → Nat → Int32} {T : Nat → Int32} (a : MusT h B2 st2 ln2 M T c) (g : Grw h h1 B st ln st1 ln1) (hd : B2 + 43 ≤ B ∨ B + 43 ≤ B2) (h1' : st < B2 ∨ B2 + 43 ≤ st) (h2' : st2 < B ∨ B + 43 ≤ st2) (h3' : st2 ≠ st) : MusT h1 B2 st2 ln2 M T c := by
  obtain ⟨a1, ⟨S, a2, a3⟩, a4, a5⟩ := a
  obtain ⟨g1, g2, g3, g4, g5⟩ := g
  refine ⟨fun o ho => ?_, ⟨S, ?_, a3⟩, a4, a5⟩
  · rw [g5 (B2 + o) (m_get_lt (a1 o ho)) (by omega) (by omega)]
    exact a1 o ho
  · rw [g5 st2 (m_get_lt a2) h2' h3']
    exact a2
theorem g_putF {X : mX} {j pc : Nat} {L : mL} {st : List Value} {h0 h : mH} {Q : Option Value → mH → Prop} {B sa ln st0 ln0 B2 sb : Nat} {M M2 : Nat → Nat → Int32} {S f : Nat → Int32} {cl : mC} (hM : Mus h B sa M) (hs : m_get h sa = some (.inl (false, ln, S))) (ho : sa < B ∨ B + 43 ≤ sa) (hG : Grw h0 h B st0 ln0 sa ln) (hW : Mus h B2 sb M2) (ho2 : sa < B2 ∨ B2 + 43 ≤ sa) (hc : Sum.inl (false, ln, f) = cl) (K : ∀ h1, Mus h1 B sa M → m_get h1 sa = some (.inl (false, ln, f)) → Grw h0 h1 B st0 ln0 sa ln → Mus h1 B2 sb M2 → m_wp X j pc L st h1 Q) : m_wp X j pc L st (m_set h sa cl) Q := by
  subst hc
  refine K _ (Reg.out hM (by omega)) (m_get_same hs) ?_ (Reg.out hW (by omega))
  obtain ⟨a1, a2, a3, a4, a5⟩ := hG
  refine ⟨by rw [mg_set_len]; exact a1, by rw [mg_set_len]; exact a2, a3, a4, fun a g1 g2 g3 => ?_⟩
  rw [m_get_ne (by omega)]
  exact a5 a g1 g2 g3
theorem Mus.lt {h : mH} {B st o : Nat} {M : Nat → Nat → Int32} (hM : Mus h B st M) (ho : o < 43) : B + o < h.1.length := m_get_lt (hM o ho)
theorem u_cpL {X : mX} {h : mH} {B st ln c B2 st2 ln2 c2 : Nat} {P M M2 : Nat → Nat → Int32} {T T2 : Nat → Int32} {lv : Nat → Nat → Prop} (hS : MusT h B st ln P T c) (hS2 : MusT h B2 st2 ln2 M2 T2 c2) (hdis : B2 + 43 ≤ B ∨ B + 43 ≤ B2) (hx1 : st < B2 ∨ B2 + 43 ≤ st) (hx2 : st2 < B ∨ B + 43 ≤ st2) (hx3 : st2 ≠ st) (hA : Agr P M M2 lv) {mi : Nat} (hmi : mi ≤ 720) : m_wp X 27 0 (m_entry 27 [.ref (B + 41), .ref (B2 + 41), .int (nI mi)]) [] h (fun w h1 => w = none ∧ ∃ P1 st1 ln1, MusT h1 B st1 ln1 P1 T2 c2 ∧ Grw h h1 B st ln st1 ln1 ∧ Agr P1 M M2 (fun o i => (lv o i ∨ (o = 42 ∧ i < mi)) ∨ (o = 41 ∧ i = 2))) := by
  have hM := hS.1
  have hW := hS2.1
  have hF : Frm h h B 43 := Frm.rf
  have hn : M2 41 2 = nI c2 := hS2.2.2.2.2.2.1
  have hc22' : c2 ≤ 2880 := hS2.2.2.2.2.2.2
  have hS0 : B2 + 42 < h.1.length := hW.lt (o := 42) (by omega)
  refine wp_iload_n d27_0 rfl ?_
  refine wp_iconst d27_1 (v := nI 0) (by decide) ?_
  refine wp_max (e := 22) (j2 := 28) d27_2 (by decide +kernel) (Nat.le_of_ble_eq_true rfl) rfl (by decide +kernel) (v := nI mi) (if_neg (fun z => by have := (nI_ltI (by omega) (by omega)).mp z; omega)) ?_
  refine wp_sipush d27_5 (v := nI 720) (by decide) ?_
  refine wp_min (e := 28) (j2 := 29) d27_8 (by decide +kernel) (Nat.le_of_ble_eq_true rfl) rfl (by decide +kernel) (v := nI mi) (if_neg (fun z => by have := (nI_ltI (by omega) (by omega)).mp z; omega)) ?_
  refine wp_istore_n d27_11 (Nat.le_of_ble_eq_true rfl) rfl ?_
  refine wp_aload_n d27_12 rfl ?_
  refine wp_getf (e := 11) (ci := 9) (k := 0) (nest := false) d27_13 (by decide +kernel) (um_41 (Reg.frm hW hF hdis)) rfl ?_
  refine wp_iconst d27_16 (v := nI 0) (by decide) ?_
  refine wp_aload_n d27_17 rfl ?_
  refine wp_getf (e := 11) (ci := 9) (k := 0) (nest := false) d27_18 (by decide +kernel) (um_41 hM) rfl ?_
  refine wp_iconst d27_21 (v := nI 0) (by decide) ?_
  refine wp_iload_n d27_22 rfl ?_
  refine wp_copy (e := 31) (j2 := 0) (sn := 0) (dn := 0) (nn := mi) d27_23 (by decide +kernel) (um_42 (Reg.frm hW hF hdis)) (um_42 hM) (by decide) (by decide) (Int32.not_lt.mpr (nI_pos' (by omega))) (by decide) (by decide) (nI_nat (by omega)) (by omega) (by omega) (by decide) (by decide) (by decide) ?_
  refine u_stepA (o := 42) (f := va_cpy (M2 42) (P 42) 0 0 (mi)) hM hF (by decide) rfl (fun h hM hF => ?_)
  replace hA := hA.arr 42 (mi)
  have he41 : (stM P 42 (va_cpy (M2 42) (P 42) 0 0 (mi))) 41 2 = P 41 2 := rfl
  generalize (stM P 42 (va_cpy (M2 42) (P 42) 0 0 (mi))) = P at hM hA he41
  refine wp_aload_n d27_26 rfl ?_
  refine wp_getf (e := 18) (ci := 9) (k := 2) (nest := false) (v := .int (nI c2)) d27_27 (by decide +kernel) (um_41 (Reg.frm hW hF hdis)) (congrArg (fun z => some (Value.int z)) hn) ?_
  refine wp_iconst d27_30 (v := nI 4) (by decide) ?_
  refine wp_imulv d27_31 (v := nI (c2 * 4)) (nI_mul _ _) ?_
  refine wp_istore d27_32 (Nat.le_of_ble_eq_true rfl) rfl ?_
  refine wp_aload_n d27_34 rfl ?_
  refine wp_iload d27_35 rfl ?_
  refine wp_invv (e := 37) (j2 := 30) (n := 1) d27_37 (by decide +kernel) (by decide +kernel) rfl rfl rfl (um_41 hM) (by decide +kernel) (Nat.le_of_ble_eq_true rfl) rfl rfl (Nat.le_of_ble_eq_true rfl) (by decide +kernel) (u_provide (hS.fr hM hF he41) (k := c2 * 4) (by omega)) (fun v h hq => ?_)
  obtain ⟨rfl, st1, ln1, hS1, hk1, hG1⟩ := hq
  show m_wp X 27 _ _ [] _ _
  have hG : Grw _ h B st ln st1 ln1 := (Grw.rf.fr hF).tr hG1
  have hS2 := hS2.out hG hdis hx1 hx2 hx3
  obtain ⟨hW, ⟨S2, hs2, hsT2⟩, hst2, hcl2, hln2, hc2, hc22⟩ := id hS2
  obtain ⟨hM, ⟨S, hs, hsT⟩, hst, hcl, hln, hc, hc1⟩ := id hS1
  have hx4 : st1 < B2 ∨ B2 + 43 ≤ st1 := by have := hG.2.2.2.1; have := hS0; omega
  have hF : Frm h h B 43 := Frm.rf
  refine wp_aload_n d27_40 rfl ?_
  refine wp_getf (e := 15) (ci := 9) (k := 1) (nest := false) d27_41 (by decide +kernel) (um_41 (Reg.frm hW hF hdis)) rfl ?_
  refine wp_iconst d27_44 (v := nI 0) (by decide) ?_
  refine wp_aload_n d27_45 rfl ?_
  refine wp_getf (e := 15) (ci := 9) (k := 1) (nest := false) d27_46 (by decide +kernel) (um_41 hM) rfl ?_
  refine wp_iconst d27_49 (v := nI 0) (by decide) ?_
  refine wp_iload d27_50 rfl ?_
  refine wp_copy (e := 31) (j2 := 0) (sn := 0) (dn := 0) (nn := c2 * 4) d27_52 (by decide +kernel) hs2 hs (by decide) (by decide) (Int32.not_lt.mpr (nI_pos' (by omega))) (by decide) (by decide) (nI_nat (by omega)) (by omega) (by omega) (by decide) (by decide) (by decide) ?_
  refine g_putF (f := va_cpy S2 S 0 0 (c2 * 4)) hM hs hst hG hW hx4 rfl (fun h hM hs hG hW => ?_)
  have hF : Frm h h B 43 := Frm.rf
  refine wp_aload_n d27_55 rfl ?_
  refine wp_aload_n d27_56 rfl ?_
  refine wp_getf (e := 18) (ci := 9) (k := 2) (nest := false) (v := .int (nI c2)) d27_57 (by decide +kernel) (um_41 (Reg.frm hW hF hdis)) (congrArg (fun z => some (Value.int z)) hn) ?_
  refine wp_putf (e := 18) (ci := 9) (k := 2) (nest := false) d27_60 (by decide +kernel) (um_41 hM) (Nat.le_of_ble_eq_true rfl) rfl (Or.inl (by decide +kernel)) ?_
  refine u_step (o := 41) (i := 2) (v := nI c2) hM hF (by decide) rfl (fun h hM hF => ?_)
  replace hA := hA.put (o0 := 41) (k := 2) (v := nI c2) hn.symm
  generalize (updM P 41 2 (nI c2)) = P at hM hA
  refine wp_vret d27_63 (by decide +kernel) ?_
  refine ⟨rfl, P, st1, ln1, ⟨hM, ⟨_, (hF.2.2 st1 hst).trans hs, fun i hi => ?_⟩, hst, by omega, hln, ((hA 41 2).1 (Or.inr ⟨rfl, rfl⟩)).trans hn, hc22⟩, hG.fr hF, hA⟩
  rw [sb_cpy0 (by omega)]
  exact hsT2 i hi
/-- the cells of a museum that count -/
def Live (nR nD nG nW nA mi o i : Nat) : Prop := (((((((((((False ∨ ((2 ≤ o ∧ o ≤ 7 ∧ i < nR) ∨ (o = 1 ∧ i = 6))) ∨ ((9 ≤ o ∧ o ≤ 13 ∧ i < nD) ∨ (o = 8 ∧ i = 6))) ∨ ((o = 16 ∧ i < 6) ∨ (o = 15 ∧ i = 1))) ∨ (o = 18 ∧ i < 8)) ∨ ((20 ≤ o ∧ o ≤ 27 ∧ i < nG) ∨ (o = 28 ∧ i < nG * 12) ∨ (o = 19 ∧ i = 9))) ∨ ((30 ≤ o ∧ o ≤ 34 ∧ i < nW) ∨ (o = 29 ∧ i = 5))) ∨ ((36 ≤ o ∧ o ≤ 40 ∧ i < nA) ∨ (o = 35 ∧ (i = 5 ∨ i = 6)))) ∨ (o = 42 ∧ i < mi)) ∨ (o = 41 ∧ i = 2)) ∨ (o = 0 ∧ i = 8)) ∨ (o = 0 ∧ i = 9))
theorem u_copyFrom {X : mX} {h : mH} {B st ln c B2 st2 ln2 c2 : Nat} {P M2 : Nat → Nat → Int32} {T T2 : Nat → Int32} (hS : MusT h B st ln P T c) (hS2 : MusT h B2 st2 ln2 M2 T2 c2) (hdis : B2 + 43 ≤ B ∨ B + 43 ≤ B2) (hx1 : st < B2 ∨ B2 + 43 ≤ st) (hx2 : st2 < B ∨ B + 43 ≤ st2) (hx3 : st2 ≠ st) {nR nD nG nW nA mi : Nat} (hnR : M2 1 6 = nI nR) (hnR2 : nR ≤ 12) (hnD : M2 8 6 = nI nD) (hnD2 : nD ≤ 20) (hnG : M2 19 9 = nI nG) (hnG2 : nG ≤ 4) (hnW : M2 29 5 = nI nW) (hnW2 : nW ≤ 10) (hnA : M2 35 5 = nI nA) (hnA2 : nA ≤ 40) (hmi : M2 0 8 = nI mi) (hmi2 : mi ≤ 720) : m_wp X 19 0 (m_entry 19 [.ref B, .ref B2]) [] h (fun w h1 => w = none ∧ ∃ P1 st1 ln1, MusT h1 B st1 ln1 P1 T2 c2 ∧ Grw h h1 B st ln st1 ln1 ∧ ∀ o i, Live nR nD nG nW nA mi o i → P1 o i = M2 o i) := by
  have hM := hS.1
  have hW := hS2.1
  have hF : Frm h h B 43 := Frm.rf
  have hA : Agr P P M2 (fun _ _ => False) := Agr.rf
  refine wp_aload_n d19_0 rfl ?_
  refine wp_getf (e := 12) (ci := 1) (k := 0) (nest := false) d19_1 (by decide +kernel) (um_0 hM) rfl ?_
  refine wp_aload_n d19_4 rfl ?_
  refine wp_getf (e := 12) (ci := 1) (k := 0) (nest := false) d19_5 (by decide +kernel) (um_0 (Reg.frm hW hF hdis)) rfl ?_
  refine wp_invv (e := 74) (j2 := 20) (n := 1) d19_8 (by decide +kernel) (by decide +kernel) rfl rfl rfl (um_1 hM) (by decide +kernel) (Nat.le_of_ble_eq_true rfl) rfl rfl (Nat.le_of_ble_eq_true rfl) (by decide +kernel) (u_cpR hM (Reg.frm hW hF hdis) hdis hA hnR hnR2) (fun v h hq => ?_)
  obtain ⟨rfl, P, hM, hF2, hA⟩ := hq
  show m_wp X 19 _ _ [] _ _
  replace hF := hF.trans hF2
  refine wp_aload_n d19_11 rfl ?_
  refine wp_getf (e := 21) (ci := 1) (k := 1) (nest := false) d19_12 (by decide +kernel) (um_0 hM) rfl ?_
  refine wp_aload_n d19_15 rfl ?_
  refine wp_getf (e := 21) (ci := 1) (k := 1) (nest := false) d19_16 (by decide +kernel) (um_0 (Reg.frm hW hF hdis)) rfl ?_
  refine wp_invv (e := 78) (j2 := 21) (n := 1) d19_19 (by decide +kernel) (by decide +kernel) rfl rfl rfl (um_8 hM) (by decide +kernel) (Nat.le_of_ble_eq_true rfl) rfl rfl (Nat.le_of_ble_eq_true rfl) (by decide +kernel) (u_cpD hM (Reg.frm hW hF hdis) hdis hA hnD hnD2) (fun v h hq => ?_)
  obtain ⟨rfl, P, hM, hF2, hA⟩ := hq
  show m_wp X 19 _ _ [] _ _
  replace hF := hF.trans hF2
  refine wp_aload_n d19_22 rfl ?_
  refine wp_getf (e := 28) (ci := 1) (k := 2) (nest := false) d19_23 (by decide +kernel) (um_0 hM) rfl ?_
  refine wp_aload_n d19_26 rfl ?_
  refine wp_getf (e := 28) (ci := 1) (k := 2) (nest := false) d19_27 (by decide +kernel) (um_0 (Reg.frm hW hF hdis)) rfl ?_
  refine wp_invv (e := 81) (j2 := 22) (n := 1) d19_30 (by decide +kernel) (by decide +kernel) rfl rfl rfl (um_15 hM) (by decide +kernel) (Nat.le_of_ble_eq_true rfl) rfl rfl (Nat.le_of_ble_eq_true rfl) (by decide +kernel) (u_cpZ hM (Reg.frm hW hF hdis) hdis hA) (fun v h hq => ?_)
  obtain ⟨rfl, P, hM, hF2, hA⟩ := hq
  show m_wp X 19 _ _ [] _ _
  replace hF := hF.trans hF2
  refine wp_aload_n d19_33 rfl ?_
  refine wp_getf (e := 35) (ci := 1) (k := 3) (nest := false) d19_34 (by decide +kernel) (um_0 hM) rfl ?_
  refine wp_aload_n d19_37 rfl ?_
  refine wp_getf (e := 35) (ci := 1) (k := 3) (nest := false) d19_38 (by decide +kernel) (um_0 (Reg.frm hW hF hdis)) rfl ?_
  refine wp_invv (e := 84) (j2 := 23) (n := 1) d19_41 (by decide +kernel) (by decide +kernel) rfl rfl rfl (um_17 hM) (by decide +kernel) (Nat.le_of_ble_eq_true rfl) rfl rfl (Nat.le_of_ble_eq_true rfl) (by decide +kernel) (u_cpK hM (Reg.frm hW hF hdis) hdis hA) (fun v h hq => ?_)
  obtain ⟨rfl, P, hM, hF2, hA⟩ := hq
  show m_wp X 19 _ _ [] _ _
  replace hF := hF.trans hF2
  refine wp_aload_n d19_44 rfl ?_
  refine wp_getf (e := 42) (ci := 1) (k := 4) (nest := false) d19_45 (by decide +kernel) (um_0 hM) rfl ?_
  refine wp_aload_n d19_48 rfl ?_
  refine wp_getf (e := 42) (ci := 1) (k := 4) (nest := false) d19_49 (by decide +kernel) (um_0 (Reg.frm hW hF hdis)) rfl ?_
  refine wp_invv (e := 87) (j2 := 24) (n := 1) d19_52 (by decide +kernel) (by decide +kernel) rfl rfl rfl (um_19 hM) (by decide +kernel) (Nat.le_of_ble_eq_true rfl) rfl rfl (Nat.le_of_ble_eq_true rfl) (by decide +kernel) (u_cpG hM (Reg.frm hW hF hdis) hdis hA hnG hnG2) (fun v h hq => ?_)
  obtain ⟨rfl, P, hM, hF2, hA⟩ := hq
  show m_wp X 19 _ _ [] _ _
  replace hF := hF.trans hF2
  refine wp_aload_n d19_55 rfl ?_
  refine wp_getf (e := 49) (ci := 1) (k := 5) (nest := false) d19_56 (by decide +kernel) (um_0 hM) rfl ?_
  refine wp_aload_n d19_59 rfl ?_
  refine wp_getf (e := 49) (ci := 1) (k := 5) (nest := false) d19_60 (by decide +kernel) (um_0 (Reg.frm hW hF hdis)) rfl ?_
  refine wp_invv (e := 90) (j2 := 25) (n := 1) d19_63 (by decide +kernel) (by decide +kernel) rfl rfl rfl (um_29 hM) (by decide +kernel) (Nat.le_of_ble_eq_true rfl) rfl rfl (Nat.le_of_ble_eq_true rfl) (by decide +kernel) (u_cpW hM (Reg.frm hW hF hdis) hdis hA hnW hnW2) (fun v h hq => ?_)
  obtain ⟨rfl, P, hM, hF2, hA⟩ := hq
  show m_wp X 19 _ _ [] _ _
  replace hF := hF.trans hF2
  refine wp_aload_n d19_66 rfl ?_
  refine wp_getf (e := 56) (ci := 1) (k := 6) (nest := false) d19_67 (by decide +kernel) (um_0 hM) rfl ?_
  refine wp_aload_n d19_70 rfl ?_
  refine wp_getf (e := 56) (ci := 1) (k := 6) (nest := false) d19_71 (by decide +kernel) (um_0 (Reg.frm hW hF hdis)) rfl ?_
  refine wp_invv (e := 93) (j2 := 26) (n := 1) d19_74 (by decide +kernel) (by decide +kernel) rfl rfl rfl (um_35 hM) (by decide +kernel) (Nat.le_of_ble_eq_true rfl) rfl rfl (Nat.le_of_ble_eq_true rfl) (by decide +kernel) (u_cpA hM (Reg.frm hW hF hdis) hdis hA hnA hnA2) (fun v h hq => ?_)
  obtain ⟨rfl, P, hM, hF2, hA⟩ := hq
  show m_wp X 19 _ _ [] _ _
  replace hF := hF.trans hF2
  refine wp_aload_n d19_77 rfl ?_
  refine wp_getf (e := 63) (ci := 1) (k := 7) (nest := false) d19_78 (by decide +kernel) (um_0 hM) rfl ?_
  refine wp_aload_n d19_81 rfl ?_
  refine wp_getf (e := 63) (ci := 1) (k := 7) (nest := false) d19_82 (by decide +kernel) (um_0 (Reg.frm hW hF hdis)) rfl ?_
  refine wp_aload_n d19_85 rfl ?_
  refine wp_getf (e := 67) (ci := 1) (k := 8) (nest := false) (v := .int (nI mi)) d19_86 (by decide +kernel) (um_0 (Reg.frm hW hF hdis)) (congrArg (fun z => some (Value.int z)) hmi) ?_
  refine wp_invv (e := 96) (j2 := 27) (n := 2) d19_89 (by decide +kernel) (by decide +kernel) rfl rfl rfl (um_41 hM) (by decide +kernel) (Nat.le_of_ble_eq_true rfl) rfl rfl (Nat.le_of_ble_eq_true rfl) (by decide +kernel) (u_cpL (hS.fr hM hF ((hA 41 2).2 (by simp))) (hS2.out ((Grw.rf (st := st) (ln := ln)).fr hF) hdis hx1 hx2 hx3) hdis hx1 hx2 hx3 hA hmi2) (fun v h hq => ?_)
  obtain ⟨rfl, P, st1, ln1, hS1, hG1, hA⟩ := hq
  show m_wp X 19 _ _ [] _ _
  have hG : Grw _ _ B st ln st1 ln1 := (Grw.rf.fr hF).tr hG1
  have hM := hS1.1
  replace hW := (hS2.out hG hdis hx1 hx2 hx3).1
  have hF : Frm h h B 43 := Frm.rf
  refine wp_aload_n d19_92 rfl ?_
  refine wp_aload_n d19_93 rfl ?_
  refine wp_getf (e := 67) (ci := 1) (k := 8) (nest := false) (v := .int (nI mi)) d19_94 (by decide +kernel) (um_0 (Reg.frm hW hF hdis)) (congrArg (fun z => some (Value.int z)) hmi) ?_
  refine wp_putf (e := 67) (ci := 1) (k := 8) (nest := false) d19_97 (by decide +kernel) (um_0 hM) (Nat.le_of_ble_eq_true rfl) rfl (Or.inl (by decide +kernel)) ?_
  refine u_step (o := 0) (i := 8) (v := nI mi) hM hF (by decide) rfl (fun h hM hF => ?_)
  replace hA := hA.put (o0 := 0) (k := 8) (v := nI mi) hmi.symm
  have he41 : (updM P 0 8 (nI mi)) 41 2 = P 41 2 := rfl
  replace hS1 := hS1.fr hM hF he41
  replace hG := hG.fr hF
  clear he41
  generalize (updM P 0 8 (nI mi)) = P at hM hA hS1
  replace hW := Reg.frm hW hF hdis
  replace hF : Frm h h B 43 := Frm.rf
  refine wp_aload_n d19_100 rfl ?_
  refine wp_aload_n d19_101 rfl ?_
  refine wp_getf (e := 71) (ci := 1) (k := 9) (nest := false) d19_102 (by decide +kernel) (um_0 (Reg.frm hW hF hdis)) rfl ?_
  refine wp_putf (e := 71) (ci := 1) (k := 9) (nest := false) d19_105 (by decide +kernel) (um_0 hM) (Nat.le_of_ble_eq_true rfl) rfl (Or.inl (by decide +kernel)) ?_
  refine u_step (o := 0) (i := 9) (v := M2 0 9) hM hF (by decide) rfl (fun h hM hF => ?_)
  replace hA := hA.put (o0 := 0) (k := 9) (v := M2 0 9) rfl
  have he41 : (updM P 0 9 (M2 0 9)) 41 2 = P 41 2 := rfl
  replace hS1 := hS1.fr hM hF he41
  replace hG := hG.fr hF
  clear he41
  generalize (updM P 0 9 (M2 0 9)) = P at hM hA hS1
  replace hW := Reg.frm hW hF hdis
  replace hF : Frm h h B 43 := Frm.rf
  refine wp_vret d19_108 (by decide +kernel) ?_
  refine ⟨rfl, P, st1, ln1, hS1, hG, fun o i hl => (hA o i).1 ?_⟩
  unfold Live at hl
  exact hl
