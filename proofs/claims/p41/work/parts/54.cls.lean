/-! The class: stays. -/
theorem d30_0 : decode (m_code 30) 0 = .ok (.iload_n 1, 1) := by decide +kernel
theorem d30_1 : decode (m_code 30) 1 = .ok (.aload_n 0, 1) := by decide +kernel
theorem d30_2 : decode (m_code 30) 2 = .ok (.getfield 15, 3) := by decide +kernel
theorem d30_5 : decode (m_code 30) 5 = .ok (.arraylength, 1) := by decide +kernel
theorem d30_6 : decode (m_code 30) 6 = .ok (.if_icmp .le 27, 3) := by decide +kernel
theorem d30_9 : decode (m_code 30) 9 = .ok (.aload_n 0, 1) := by decide +kernel
theorem d30_10 : decode (m_code 30) 10 = .ok (.aload_n 0, 1) := by decide +kernel
theorem d30_11 : decode (m_code 30) 11 = .ok (.getfield 15, 3) := by decide +kernel
theorem d30_14 : decode (m_code 30) 14 = .ok (.iload_n 1, 1) := by decide +kernel
theorem d30_15 : decode (m_code 30) 15 = .ok (.iconst 2, 1) := by decide +kernel
theorem d30_16 : decode (m_code 30) 16 = .ok (.iload_n 1, 1) := by decide +kernel
theorem d30_17 : decode (m_code 30) 17 = .ok (.imul, 1) := by decide +kernel
theorem d30_18 : decode (m_code 30) 18 = .ok (.sipush 11520, 3) := by decide +kernel
theorem d30_21 : decode (m_code 30) 21 = .ok (.invokestatic 28, 3) := by decide +kernel
theorem d30_24 : decode (m_code 30) 24 = .ok (.invokestatic 22, 3) := by decide +kernel
theorem d30_27 : decode (m_code 30) 27 = .ok (.invokestatic 41, 3) := by decide +kernel
theorem d30_30 : decode (m_code 30) 30 = .ok (.putfield 15, 3) := by decide +kernel
theorem d30_33 : decode (m_code 30) 33 = .ok (.return_, 1) := by decide +kernel
theorem d31_0 : decode (m_code 31) 0 = .ok (.iload_n 1, 1) := by decide +kernel
theorem d31_1 : decode (m_code 31) 1 = .ok (.aload_n 0, 1) := by decide +kernel
theorem d31_2 : decode (m_code 31) 2 = .ok (.arraylength, 1) := by decide +kernel
theorem d31_3 : decode (m_code 31) 3 = .ok (.if_icmp .ne 11, 3) := by decide +kernel
theorem d31_14 : decode (m_code 31) 14 = .ok (.iload_n 1, 1) := by decide +kernel
theorem d31_15 : decode (m_code 31) 15 = .ok (.newarray .int, 2) := by decide +kernel
theorem d31_17 : decode (m_code 31) 17 = .ok (.astore_n 2, 1) := by decide +kernel
theorem d31_18 : decode (m_code 31) 18 = .ok (.aload_n 0, 1) := by decide +kernel
theorem d31_19 : decode (m_code 31) 19 = .ok (.iconst 0, 1) := by decide +kernel
theorem d31_20 : decode (m_code 31) 20 = .ok (.aload_n 2, 1) := by decide +kernel
theorem d31_21 : decode (m_code 31) 21 = .ok (.iconst 0, 1) := by decide +kernel
theorem d31_22 : decode (m_code 31) 22 = .ok (.aload_n 0, 1) := by decide +kernel
theorem d31_23 : decode (m_code 31) 23 = .ok (.arraylength, 1) := by decide +kernel
theorem d31_24 : decode (m_code 31) 24 = .ok (.iload_n 1, 1) := by decide +kernel
theorem d31_25 : decode (m_code 31) 25 = .ok (.invokestatic 304, 3) := by decide +kernel
theorem d31_28 : decode (m_code 31) 28 = .ok (.invokestatic 150, 3) := by decide +kernel
theorem d31_31 : decode (m_code 31) 31 = .ok (.aload_n 2, 1) := by decide +kernel
theorem d31_32 : decode (m_code 31) 32 = .ok (.areturn, 1) := by decide +kernel
theorem d116_0 : decode (m_code 116) 0 = .ok (.aload_n 0, 1) := by decide +kernel
theorem d116_1 : decode (m_code 116) 1 = .ok (.getfield 18, 3) := by decide +kernel
theorem d116_4 : decode (m_code 116) 4 = .ok (.sipush 2880, 3) := by decide +kernel
theorem d116_7 : decode (m_code 116) 7 = .ok (.if_icmp .lt 4, 3) := by decide +kernel
theorem d116_11 : decode (m_code 116) 11 = .ok (.aload_n 0, 1) := by decide +kernel
theorem d116_12 : decode (m_code 116) 12 = .ok (.getfield 18, 3) := by decide +kernel
theorem d116_15 : decode (m_code 116) 15 = .ok (.iconst 4, 1) := by decide +kernel
theorem d116_16 : decode (m_code 116) 16 = .ok (.imul, 1) := by decide +kernel
theorem d116_17 : decode (m_code 116) 17 = .ok (.istore 5, 2) := by decide +kernel
theorem d116_19 : decode (m_code 116) 19 = .ok (.aload_n 0, 1) := by decide +kernel
theorem d116_20 : decode (m_code 116) 20 = .ok (.iload 5, 2) := by decide +kernel
theorem d116_22 : decode (m_code 116) 22 = .ok (.iconst 4, 1) := by decide +kernel
theorem d116_23 : decode (m_code 116) 23 = .ok (.iadd, 1) := by decide +kernel
theorem d116_24 : decode (m_code 116) 24 = .ok (.invokevirtual 37, 3) := by decide +kernel
theorem d116_27 : decode (m_code 116) 27 = .ok (.aload_n 0, 1) := by decide +kernel
theorem d116_28 : decode (m_code 116) 28 = .ok (.getfield 15, 3) := by decide +kernel
theorem d116_31 : decode (m_code 116) 31 = .ok (.iload 5, 2) := by decide +kernel
theorem d116_33 : decode (m_code 116) 33 = .ok (.iload_n 1, 1) := by decide +kernel
theorem d116_34 : decode (m_code 116) 34 = .ok (.iastore, 1) := by decide +kernel
theorem d116_35 : decode (m_code 116) 35 = .ok (.aload_n 0, 1) := by decide +kernel
theorem d116_36 : decode (m_code 116) 36 = .ok (.getfield 15, 3) := by decide +kernel
theorem d116_39 : decode (m_code 116) 39 = .ok (.iload 5, 2) := by decide +kernel
theorem d116_41 : decode (m_code 116) 41 = .ok (.iconst 1, 1) := by decide +kernel
theorem d116_42 : decode (m_code 116) 42 = .ok (.iadd, 1) := by decide +kernel
theorem d116_43 : decode (m_code 116) 43 = .ok (.iload_n 2, 1) := by decide +kernel
theorem d116_44 : decode (m_code 116) 44 = .ok (.iastore, 1) := by decide +kernel
theorem d116_45 : decode (m_code 116) 45 = .ok (.aload_n 0, 1) := by decide +kernel
theorem d116_46 : decode (m_code 116) 46 = .ok (.getfield 15, 3) := by decide +kernel
theorem d116_49 : decode (m_code 116) 49 = .ok (.iload 5, 2) := by decide +kernel
theorem d116_51 : decode (m_code 116) 51 = .ok (.iconst 2, 1) := by decide +kernel
theorem d116_52 : decode (m_code 116) 52 = .ok (.iadd, 1) := by decide +kernel
theorem d116_53 : decode (m_code 116) 53 = .ok (.iload_n 3, 1) := by decide +kernel
theorem d116_54 : decode (m_code 116) 54 = .ok (.iastore, 1) := by decide +kernel
theorem d116_55 : decode (m_code 116) 55 = .ok (.aload_n 0, 1) := by decide +kernel
theorem d116_56 : decode (m_code 116) 56 = .ok (.getfield 15, 3) := by decide +kernel
theorem d116_59 : decode (m_code 116) 59 = .ok (.iload 5, 2) := by decide +kernel
theorem d116_61 : decode (m_code 116) 61 = .ok (.iconst 3, 1) := by decide +kernel
theorem d116_62 : decode (m_code 116) 62 = .ok (.iadd, 1) := by decide +kernel
theorem d116_63 : decode (m_code 116) 63 = .ok (.iload 4, 2) := by decide +kernel
theorem d116_65 : decode (m_code 116) 65 = .ok (.iastore, 1) := by decide +kernel
theorem d116_66 : decode (m_code 116) 66 = .ok (.aload_n 0, 1) := by decide +kernel
theorem d116_67 : decode (m_code 116) 67 = .ok (.dup, 1) := by decide +kernel
theorem d116_68 : decode (m_code 116) 68 = .ok (.getfield 18, 3) := by decide +kernel
theorem d116_71 : decode (m_code 116) 71 = .ok (.iconst 1, 1) := by decide +kernel
theorem d116_72 : decode (m_code 116) 72 = .ok (.iadd, 1) := by decide +kernel
theorem d116_73 : decode (m_code 116) 73 = .ok (.putfield 18, 3) := by decide +kernel
theorem d116_76 : decode (m_code 116) 76 = .ok (.return_, 1) := by decide +kernel
theorem m_get_lt {h : mH} {a : Nat} {c : mC} (h0 : m_get h a = some c) : a < h.1.length := (List.getElem?_eq_some_iff.mp h0).1
theorem m_get_new {h : mH} {a n : Nat} {c : mC} (h0 : a < h.1.length) : m_get (m_new h c n) a = m_get h a := by
  unfold m_get m_new
  exact List.getElem?_append_left h0
theorem m_get_top {h : mH} {n : Nat} {c : mC} : m_get (m_new h c n) h.1.length = some c := by
  unfold m_get m_new
  simp
theorem mg_new_len {h : mH} {n : Nat} {c : mC} : (m_new h c n).1.length = h.1.length + 1 := by simp [m_new]
theorem mg_set_len {h : mH} {a : Nat} {c : mC} : (m_set h a c).1.length = h.1.length := by simp [m_set]
/-- what the growth of a museum's stays may have cost -/
def pot (n : Nat) : Nat := if n < 11520 then 2 * n else 34560
/-- from h to h1 a museum's own cells changed, and its stays, which may lie elsewhere then -/
def Grw (h h1 : mH) (B st ln st1 ln1 : Nat) : Prop := h.1.length ≤ h1.1.length ∧ h1.1.length + h.2 ≤ h1.2 + h.1.length ∧ h1.2 + pot ln ≤ h.2 + pot ln1 ∧ (st1 = st ∨ h.1.length ≤ st1) ∧ ∀ a, a < h.1.length → (a < B ∨ B + 43 ≤ a) → a ≠ st → m_get h1 a = m_get h a
/-- a museum at B with its stays: c of them, told by T -/
def MusT (h : mH) (B st ln : Nat) (M : Nat → Nat → Int32) (T : Nat → Int32) (c : Nat) : Prop := Mus h B st M ∧ (∃ S, m_get h st = some (.inl (false, ln, S)) ∧ ∀ i, i < 4 * c → S i = T i) ∧ (st < B ∨ B + 43 ≤ st) ∧ 4 * c ≤ ln ∧ ln ≤ 11520 ∧ M 41 2 = nI c ∧ c ≤ 2880
theorem Grw.rf {h : mH} {B st ln : Nat} : Grw h h B st ln st ln := ⟨Nat.le_refl _, by omega, Nat.le_refl _, Or.inl rfl, fun _ _ _ _ => rfl⟩
theorem Grw.tr {h h1 h2 : mH} {B st ln st1 ln1 st2 ln2 : Nat} (a : Grw h h1 B st ln st1 ln1) (b : Grw h1 h2 B st1 ln1 st2 ln2) : Grw h h2 B st ln st2 ln2 := by
  obtain ⟨a1, a2, a3, a4, a5⟩ := a
  obtain ⟨b1, b2, b3, b4, b5⟩ := b
  refine ⟨by omega, by omega, by omega, by omega, fun q h1 h2 h3 => ?_⟩
  rw [b5 q (by omega) h2 (by omega), a5 q h1 h2 h3]
theorem Grw.fr {h h1 h2 : mH} {B st ln st1 ln1 : Nat} (a : Grw h h1 B st ln st1 ln1) (b : Frm h1 h2 B 43) : Grw h h2 B st ln st1 ln1 := by
  obtain ⟨a1, a2, a3, a4, a5⟩ := a
  obtain ⟨b1, b2, b3⟩ := b
  refine ⟨by omega, by omega, by omega, a4, fun q h1 h2 h3 => ?_⟩
  rw [b3 q h2, a5 q h1 h2 h3]
theorem MusT.fr {h h1 : mH} {B st ln c : Nat} {M M1 : Nat → Nat → Int32} {T : Nat → Int32} (a : MusT h B st ln M T c) (b : Mus h1 B st M1) (f : Frm h h1 B 43) (e : M1 41 2 = M 41 2) : MusT h1 B st ln M1 T c := by
  obtain ⟨a1, ⟨S, a2, a3⟩, a4, a5, a6, a7, a8⟩ := a
  exact ⟨b, ⟨S, by rw [f.2.2 st a4]; exact a2, a3⟩, a4, a5, a6, e.trans a7, a8⟩
/-- a method that may let the stays grow -/
abbrev DoesG (X : mX) (j : Nat) (as : List Value) (h : mH) (B st ln : Nat) (M1 : Nat → Nat → Int32) (T1 : Nat → Int32) (c1 : Nat) (v : Option Value) : Prop := m_wp X j 0 (m_entry j as) [] h (fun w h1 => w = v ∧ ∃ st1 ln1, MusT h1 B st1 ln1 M1 T1 c1 ∧ Grw h h1 B st ln st1 ln1)
section WPG
variable {X : mX} {j pc : Nat} {L : mL} {rest : List Value} {h0 h : mH} {Q : Option Value → mH → Prop} {B sa ln st0 ln0 c : Nat} {M M1 : Nat → Nat → Int32} {T : Nat → Int32}
theorem wp_invvUG {idx e j2 a ci n : Nat} {fs : List Value} {asr as : List Value} {st0' : List Value} (hd : decode (m_code j) pc = .ok (.invokevirtual idx, 3)) (hf : m_findM (m_own j) idx = some (e, 2, j2)) (hn : m_np j2 = n) (ht : st0'.take n = asr) (hdr : st0'.drop n = .ref a :: rest) (has : asr.reverse = as)
    (hg : m_get h a = some (.inr (ci, fs))) (hc : (m_clsQ ci).1 = (m_y j2).cls ∧ ci < m_cls.length) (h1 : rest.length ≤ 8) (h2 : rest.all m_c1 = true) (h3 : as.all m_c1 = true) (h4 : as.length + 1 ≤ m_nl j2) (h5 : m_fr j2 + 1 + m_nl j2 / 10 ≤ m_fr j)
    (hC : DoesU X j2 (.ref a :: as) h B sa M1 none) (hS : MusT h B sa ln M T c) (hG : Grw h0 h B st0 ln0 sa ln) (hc : M1 41 2 = M 41 2) (K : ∀ h1, MusT h1 B sa ln M1 T c → Grw h0 h1 B st0 ln0 sa ln → m_wp X j (pc + 3) L rest h1 Q) : m_wp X j pc L st0' h Q :=
  wp_invv hd hf hn ht hdr has hg ‹(m_clsQ ci).1 = (m_y j2).cls ∧ ci < m_cls.length› h1 h2 h3 h4 h5 hC (fun v h1 hq => by rw [hq.1]; exact K h1 (hS.fr hq.2.1 hq.2.2 hc) (hG.fr hq.2.2))
theorem wp_invvUIG {idx e j2 a ci n : Nat} {fs : List Value} {asr as : List Value} {st0' : List Value} {x : Int32} (hd : decode (m_code j) pc = .ok (.invokevirtual idx, 3)) (hf : m_findM (m_own j) idx = some (e, 2, j2)) (hn : m_np j2 = n) (ht : st0'.take n = asr) (hdr : st0'.drop n = .ref a :: rest) (has : asr.reverse = as)
    (hg : m_get h a = some (.inr (ci, fs))) (hc : (m_clsQ ci).1 = (m_y j2).cls ∧ ci < m_cls.length) (h1 : rest.length ≤ 8) (h2 : rest.all m_c1 = true) (h3 : as.all m_c1 = true) (h4 : as.length + 1 ≤ m_nl j2) (h5 : m_fr j2 + 1 + m_nl j2 / 10 ≤ m_fr j)
    (hC : DoesU X j2 (.ref a :: as) h B sa M1 (some (.int x))) (hS : MusT h B sa ln M T c) (hG : Grw h0 h B st0 ln0 sa ln) (hc : M1 41 2 = M 41 2) (K : ∀ h1, MusT h1 B sa ln M1 T c → Grw h0 h1 B st0 ln0 sa ln → m_wp X j (pc + 3) L (.int x :: rest) h1 Q) : m_wp X j pc L st0' h Q :=
  wp_invv hd hf hn ht hdr has hg ‹(m_clsQ ci).1 = (m_y j2).cls ∧ ci < m_cls.length› h1 h2 h3 h4 h5 hC (fun v h1 hq => by rw [hq.1]; exact K h1 (hS.fr hq.2.1 hq.2.2 hc) (hG.fr hq.2.2))
theorem wp_invvG {idx e j2 a ci n c1 : Nat} {T1 : Nat → Int32} {fs : List Value} {asr as : List Value} {st0' : List Value} (hd : decode (m_code j) pc = .ok (.invokevirtual idx, 3)) (hf : m_findM (m_own j) idx = some (e, 2, j2)) (hn : m_np j2 = n) (ht : st0'.take n = asr) (hdr : st0'.drop n = .ref a :: rest) (has : asr.reverse = as)
    (hg : m_get h a = some (.inr (ci, fs))) (hc : (m_clsQ ci).1 = (m_y j2).cls ∧ ci < m_cls.length) (h1 : rest.length ≤ 8) (h2 : rest.all m_c1 = true) (h3 : as.all m_c1 = true) (h4 : as.length + 1 ≤ m_nl j2) (h5 : m_fr j2 + 1 + m_nl j2 / 10 ≤ m_fr j)
    (hC : DoesG X j2 (.ref a :: as) h B sa ln M1 T1 c1 none) (hG : Grw h0 h B st0 ln0 sa ln) (K : ∀ h1 sa ln, MusT h1 B sa ln M1 T1 c1 → Grw h0 h1 B st0 ln0 sa ln → m_wp X j (pc + 3) L rest h1 Q) : m_wp X j pc L st0' h Q :=
  wp_invv hd hf hn ht hdr has hg hc h1 h2 h3 h4 h5 hC (fun v h1 hq => by
    obtain ⟨q1, s1, l1, q2, q3⟩ := hq
    rw [q1]
    exact K h1 s1 l1 q2 (hG.tr q3))
end WPG
theorem musC_st {B st st1 o : Nat} {f : Nat → Int32} (ho : o ≠ 41) : musC B st o f = musC B st1 o f := by
  unfold musC
  split <;> first | rfl | exact absurd rfl ho
theorem Mus.restay {h : mH} {B st st1 : Nat} {M : Nat → Nat → Int32} (hM : Mus h B st M) : Mus (m_set h (B + 41) (musC B st1 41 (M 41))) B st1 M := by
  intro o ho
  by_cases e : o = 41
  · subst e
    exact m_get_same (hM 41 ho)
  · rw [m_get_ne (by omega), hM o ho, musC_st e]
/-- a copy of an array, longer than it -/
theorem u_copyOf {X : mX} {h : mH} {a n n2 : Nat} {f : Nat → Int32} (hA : m_get h a = some (.inl (false, n, f))) (hn : n < n2) (hn2 : n2 ≤ 11520) : m_wp X 31 0 (m_entry 31 [.ref a, .int (nI n2)]) [] h (fun w h1 => w = some (.ref h.1.length) ∧ h1 = m_set (m_new h (.inl (false, n2, fun _ => 0)) n2) h.1.length (.inl (false, n2, va_cpy f (fun _ => 0) 0 0 n))) := by
  have hl := m_get_lt hA
  have hA2 := (m_get_new (c := .inl (false, n2, fun _ => 0)) (n := n2) hl).trans hA
  have hB2 := m_get_top (h := h) (c := .inl (false, n2, fun _ => 0)) (n := n2)
  refine wp_iload_n d31_0 rfl ?_
  refine wp_aload_n d31_1 rfl ?_
  refine wp_alen d31_2 hA (v := nI n) rfl ?_
  refine wp_icmp_ne d31_3 (tgt := 14) (by decide) (fun _ => ?_) (fun hq9 => absurd hq9 (fun z => by have := (nI_eq (by omega) (by omega)).mp z; omega))
  refine wp_iload_n d31_14 rfl ?_
  refine wp_newi d31_15 (Int32.not_lt.mpr (nI_pos' (by omega))) (N := n2) (nI_nat (by omega)) (by omega) ?_
  refine wp_astore_n d31_17 (Nat.le_of_ble_eq_true rfl) rfl ?_
  refine wp_aload_n d31_18 rfl ?_
  refine wp_iconst d31_19 (v := nI 0) (by decide) ?_
  refine wp_aload_n d31_20 rfl ?_
  refine wp_iconst d31_21 (v := nI 0) (by decide) ?_
  refine wp_aload_n d31_22 rfl ?_
  refine wp_alen d31_23 hA2 (v := nI n) rfl ?_
  refine wp_iload_n d31_24 rfl ?_
  refine wp_min (e := 304) (j2 := 29) d31_25 (by decide +kernel) (Nat.le_of_ble_eq_true rfl) rfl (by decide +kernel) (v := nI n) (if_neg (fun z => by have := (nI_ltI (by omega) (by omega)).mp z; omega)) ?_
  refine wp_copy (e := 150) (j2 := 0) (sn := 0) (dn := 0) (nn := n) d31_28 (by decide +kernel) hA2 hB2 (by decide) (by decide) (Int32.not_lt.mpr (nI_pos' (by omega))) (by decide) (by decide) (nI_nat (by omega)) (by omega) (by omega) (by decide) (by decide) (by decide) ?_
  refine wp_aload_n d31_31 rfl ?_
  refine wp_aret d31_32 (by decide +kernel) ?_
  exact ⟨rfl, rfl⟩
theorem nI_mxmn {k c : Nat} (hk : k ≤ c) (hc : 2 * c < 2 ^ 31) : (if nI k < (if nI c < nI (2 * k) then nI c else nI (2 * k)) then (if nI c < nI (2 * k) then nI c else nI (2 * k)) else nI k) = nI (max k (min (2 * k) c)) := by
  have e1 : ∀ a b : Nat, a ≤ 2 * c → b ≤ 2 * c → (nI a < nI b ↔ a < b) := fun a b ha hb => nI_ltI (by omega) (by omega)
  have e2 : (if nI c < nI (2 * k) then nI c else nI (2 * k)) = nI (min (2 * k) c) := by
    by_cases q : c < 2 * k
    · rw [if_pos ((e1 _ _ (by omega) (by omega)).mpr q), Nat.min_eq_right (by omega)]
    · rw [if_neg (fun z => q ((e1 _ _ (by omega) (by omega)).mp z)), Nat.min_eq_left (by omega)]
  rw [e2]
  by_cases q : k < min (2 * k) c
  · rw [if_pos ((e1 _ _ (by omega) (by omega)).mpr q), Nat.max_eq_right (by omega)]
  · rw [if_neg (fun z => q ((e1 _ _ (by omega) (by omega)).mp z)), Nat.max_eq_left (by omega)]
theorem u_provide {X : mX} {h : mH} {B st ln c k : Nat} {M : Nat → Nat → Int32} {T : Nat → Int32} (hS : MusT h B st ln M T c) (hk : k ≤ 11520) : m_wp X 30 0 (m_entry 30 [.ref (B + 41), .int (nI k)]) [] h (fun w h1 => w = none ∧ ∃ st1 ln1, MusT h1 B st1 ln1 M T c ∧ k ≤ ln1 ∧ Grw h h1 B st ln st1 ln1) := by
  obtain ⟨hM, ⟨S, hs, hsT⟩, hst, hcl, hln, hc, hc2⟩ := id hS
  refine wp_iload_n d30_0 rfl ?_
  refine wp_aload_n d30_1 rfl ?_
  refine wp_getf (e := 15) (ci := 9) (k := 1) (nest := false) d30_2 (by decide +kernel) (um_41 hM) rfl ?_
  refine wp_alen d30_5 hs (v := nI ln) rfl ?_
  refine wp_icmp_le d30_6 (tgt := 33) (by decide) (fun hc6 => ?_) (fun hc6 => ?_)
  · have hc6 : k ≤ ln := (nI_leI (by omega) (by omega)).mp hc6
    refine wp_vret d30_33 (by decide +kernel) ?_
    exact ⟨rfl, st, ln, hS, by omega, Grw.rf⟩
  · have hc6 : ¬ (k ≤ ln) := fun z => hc6 ((nI_leI (by omega) (by omega)).mpr z)
    refine wp_aload_n d30_9 rfl ?_
    refine wp_aload_n d30_10 rfl ?_
    refine wp_getf (e := 15) (ci := 9) (k := 1) (nest := false) d30_11 (by decide +kernel) (um_41 hM) rfl ?_
    refine wp_iload_n d30_14 rfl ?_
    have hmx := nI_mxmn (c := 11520) hk (by decide)
    refine wp_iconst d30_15 (v := nI 2) (by decide) ?_
    refine wp_iload_n d30_16 rfl ?_
    refine wp_imulv d30_17 (v := nI (2 * k)) (nI_mul _ _) ?_
    refine wp_sipush d30_18 (v := nI 11520) (by decide) ?_
    refine wp_min (e := 28) (j2 := 29) d30_21 (by decide +kernel) (Nat.le_of_ble_eq_true rfl) rfl (by decide +kernel) (v := (if nI 11520 < nI (2 * k) then nI 11520 else nI (2 * k))) rfl ?_
    refine wp_max (e := 22) (j2 := 28) d30_24 (by decide +kernel) (Nat.le_of_ble_eq_true rfl) rfl (by decide +kernel) (v := nI (max k (min (2 * k) 11520))) hmx ?_
    have hN1 : ln < max k (min (2 * k) 11520) := by omega
    have hN2 : max k (min (2 * k) 11520) ≤ 11520 := by omega
    have hN3 : max k (min (2 * k) 11520) < 11520 → 2 * ln < max k (min (2 * k) 11520) := by omega
    have hN4 : k ≤ max k (min (2 * k) 11520) := by omega
    generalize max k (min (2 * k) 11520) = N at hN1 hN2 hN3 hN4
    refine wp_invs (e := 41) (j2 := 31) (n := 2) d30_27 (by decide +kernel) (by decide +kernel) rfl rfl rfl (Nat.le_of_ble_eq_true rfl) (Nat.le_of_ble_eq_true rfl) rfl rfl (Nat.le_of_ble_eq_true rfl) (by decide +kernel) (u_copyOf hs hN1 hN2) (fun v h1 hq => ?_)
    obtain ⟨q1, q2⟩ := hq
    subst q1
    have hsl := m_get_lt hs
    have hM2 : Mus h1 B st M := by
      rw [q2]
      intro o ho
      have hl := m_get_lt (hM o ho)
      rw [m_get_ne (by omega), m_get_new hl]
      exact hM o ho
    have hl1 : h1.1.length = h.1.length + 1 := by rw [q2, mg_set_len, mg_new_len]
    have hl2 : h1.2 = h.2 + N := by rw [q2]; rfl
    have hnew : m_get h1 h.1.length = some (.inl (false, N, va_cpy S (fun _ => 0) 0 0 ln)) := by
      rw [q2]
      exact m_get_same m_get_top
    have hold : ∀ a, a < h.1.length → m_get h1 a = m_get h a := fun a ha => by rw [q2, m_get_ne (by omega), m_get_new ha]
    have hB := m_get_lt (hM 42 (by decide))
    clear q2
    refine wp_putf (e := 15) (ci := 9) (k := 1) (nest := false) d30_30 (by decide +kernel) (um_41 hM2) (Nat.le_of_ble_eq_true rfl) rfl (Or.inl (by decide +kernel)) ?_
    refine wp_vret d30_33 (by decide +kernel) ?_
    refine ⟨rfl, h.1.length, N, ⟨Mus.restay hM2, ⟨_, (m_get_ne (by omega)).trans hnew, fun i hi => ?_⟩, by omega, by omega, hN2, hc, hc2⟩, hN4, ?_⟩
    · rw [pk_cpy_in (by omega) (by omega), Nat.sub_zero, Nat.zero_add]
      exact hsT i hi
    · refine ⟨by rw [mg_set_len]; omega, ?_, ?_, Or.inr (Nat.le_refl _), fun a g1 g2 g3 => ?_⟩
      · rw [mg_set_len]
        show h1.1.length + h.2 ≤ h1.2 + h.1.length
        omega
      · show h1.2 + pot ln ≤ h.2 + pot N
        unfold pot
        rw [if_pos (by omega)]
        split <;> omega
      · rw [m_get_ne (by omega)]
        exact hold a g1
def F_st (T : Nat → Int32) (c : Nat) (x y z w : Int32) : Nat → Int32 := upd (upd (upd (upd T (4 * c) x) (4 * c + 1) y) (4 * c + 2) z) (4 * c + 3) w
theorem g_put {X : mX} {j pc : Nat} {L : mL} {st : List Value} {h0 h : mH} {Q : Option Value → mH → Prop} {B sa ln st0 ln0 : Nat} {M : Nat → Nat → Int32} {S : Nat → Int32} {i : Nat} {v : Int32} {cl : mC} (hM : Mus h B sa M) (hs : m_get h sa = some (.inl (false, ln, S))) (ho : sa < B ∨ B + 43 ≤ sa) (hG : Grw h0 h B st0 ln0 sa ln) (hc : Sum.inl (false, ln, upd S i v) = cl) (K : ∀ h1, Mus h1 B sa M → m_get h1 sa = some (.inl (false, ln, upd S i v)) → Grw h0 h1 B st0 ln0 sa ln → m_wp X j pc L st h1 Q) : m_wp X j pc L st (m_set h sa cl) Q := by
  subst hc
  refine K _ (Reg.out hM (by omega)) (m_get_same hs) ?_
  obtain ⟨a1, a2, a3, a4, a5⟩ := hG
  refine ⟨by rw [mg_set_len]; exact a1, by rw [mg_set_len]; exact a2, a3, a4, fun a g1 g2 g3 => ?_⟩
  rw [m_get_ne (by omega)]
  exact a5 a g1 g2 g3
theorem u_noteStay {X : mX} {h : mH} {B st ln c : Nat} {M : Nat → Nat → Int32} {T : Nat → Int32} (hS : MusT h B st ln M T c) (hc3 : c < 2880) (x y z w : Int32) : DoesG X 116 [.ref (B + 41), .int x, .int y, .int z, .int w] h B st ln (updM M 41 2 (nI (c + 1))) (F_st T c x y z w) (c + 1) none := by
  obtain ⟨hM, -, hst, hcl, hln, hc, hc2⟩ := id hS
  refine wp_aload_n d116_0 rfl ?_
  refine wp_getf (e := 18) (ci := 9) (k := 2) (nest := false) (v := .int (nI c)) d116_1 (by decide +kernel) (um_41 hM) (congrArg (fun z => some (Value.int z)) hc) ?_
  refine wp_sipush d116_4 (v := nI 2880) (by decide) ?_
  refine wp_icmp_lt d116_7 (tgt := 11) (by decide) (fun _ => ?_) (fun hq9 => absurd (nI_lt (by omega) (by omega)) hq9)
  refine wp_aload_n d116_11 rfl ?_
  refine wp_getf (e := 18) (ci := 9) (k := 2) (nest := false) (v := .int (nI c)) d116_12 (by decide +kernel) (um_41 hM) (congrArg (fun z => some (Value.int z)) hc) ?_
  refine wp_iconst d116_15 (v := nI 4) (by decide) ?_
  refine wp_imulv d116_16 (v := nI (c * 4)) (nI_mul _ _) ?_
  refine wp_istore d116_17 (Nat.le_of_ble_eq_true rfl) rfl ?_
  refine wp_aload_n d116_19 rfl ?_
  refine wp_iload d116_20 rfl ?_
  refine wp_iconst d116_22 (v := nI 4) (by decide) ?_
  refine wp_iaddv d116_23 (v := nI (c * 4 + 4)) (nI_add _ _) ?_
  refine wp_invv (e := 37) (j2 := 30) (n := 1) d116_24 (by decide +kernel) (by decide +kernel) rfl rfl rfl (um_41 hM) (by decide +kernel) (Nat.le_of_ble_eq_true rfl) rfl rfl (Nat.le_of_ble_eq_true rfl) (by decide +kernel) (u_provide hS (k := c * 4 + 4) (by omega)) (fun v h hq => ?_)
  obtain ⟨rfl, st, ln, hS, hk, hG⟩ := hq
  obtain ⟨hM, ⟨S, hs, hsT⟩, hst, hcl, hln, hc, hc2⟩ := id hS
  show m_wp X 116 _ _ [] _ _
  refine wp_aload_n d116_27 rfl ?_
  refine wp_getf (e := 15) (ci := 9) (k := 1) (nest := false) d116_28 (by decide +kernel) (um_41 hM) rfl ?_
  refine wp_iload d116_31 rfl ?_
  refine wp_iload_n d116_33 rfl ?_
  refine wp_iast d116_34 hs (nI_in (by omega) (by omega)) ?_
  refine g_put (i := c * 4) (v := x) hM hs hst hG (by rw [nI_nat (by omega)]) (fun h hM hs hG => ?_)
  refine wp_aload_n d116_35 rfl ?_
  refine wp_getf (e := 15) (ci := 9) (k := 1) (nest := false) d116_36 (by decide +kernel) (um_41 hM) rfl ?_
  refine wp_iload d116_39 rfl ?_
  refine wp_iconst d116_41 (v := nI 1) (by decide) ?_
  refine wp_iaddv d116_42 (v := nI (c * 4 + 1)) (nI_add _ _) ?_
  refine wp_iload_n d116_43 rfl ?_
  refine wp_iast d116_44 hs (nI_in (by omega) (by omega)) ?_
  refine g_put (i := c * 4 + 1) (v := y) hM hs hst hG (by rw [nI_nat (by omega)]) (fun h hM hs hG => ?_)
  refine wp_aload_n d116_45 rfl ?_
  refine wp_getf (e := 15) (ci := 9) (k := 1) (nest := false) d116_46 (by decide +kernel) (um_41 hM) rfl ?_
  refine wp_iload d116_49 rfl ?_
  refine wp_iconst d116_51 (v := nI 2) (by decide) ?_
  refine wp_iaddv d116_52 (v := nI (c * 4 + 2)) (nI_add _ _) ?_
  refine wp_iload_n d116_53 rfl ?_
  refine wp_iast d116_54 hs (nI_in (by omega) (by omega)) ?_
  refine g_put (i := c * 4 + 2) (v := z) hM hs hst hG (by rw [nI_nat (by omega)]) (fun h hM hs hG => ?_)
  refine wp_aload_n d116_55 rfl ?_
  refine wp_getf (e := 15) (ci := 9) (k := 1) (nest := false) d116_56 (by decide +kernel) (um_41 hM) rfl ?_
  refine wp_iload d116_59 rfl ?_
  refine wp_iconst d116_61 (v := nI 3) (by decide) ?_
  refine wp_iaddv d116_62 (v := nI (c * 4 + 3)) (nI_add _ _) ?_
  refine wp_iload d116_63 rfl ?_
  refine wp_iast d116_65 hs (nI_in (by omega) (by omega)) ?_
  refine g_put (i := c * 4 + 3) (v := w) hM hs hst hG (by rw [nI_nat (by omega)]) (fun h hM hs hG => ?_)
  refine wp_aload_n d116_66 rfl ?_
  refine wp_dup d116_67 rfl ?_
  refine wp_getf (e := 18) (ci := 9) (k := 2) (nest := false) (v := .int (nI c)) d116_68 (by decide +kernel) (um_41 hM) (congrArg (fun z => some (Value.int z)) hc) ?_
  refine wp_iconst d116_71 (v := nI 1) (by decide) ?_
  refine wp_iaddv d116_72 (v := nI (c + 1)) (nI_add _ _) ?_
  have hF : Frm h h B 43 := Frm.rf
  refine wp_putf (e := 18) (ci := 9) (k := 2) (nest := false) d116_73 (by decide +kernel) (um_41 hM) (Nat.le_of_ble_eq_true rfl) rfl (Or.inl (by decide +kernel)) ?_
  refine u_step (o := 41) (i := 2) (v := nI (c + 1)) hM hF (by decide) rfl (fun h hM hF => ?_)
  refine wp_vret d116_76 (by decide +kernel) ?_
  refine ⟨rfl, st, ln, ⟨hM, ⟨_, (hF.2.2 st hst).trans hs, fun i hi => ?_⟩, hst, by omega, hln, updM_same, by omega⟩, hG.fr hF⟩
  simp only [F_st, upd]
  repeat' split
  all_goals first | rfl | (exact hsT _ (by omega)) | omega
