/-! The reference copies a state. -/
theorem d212_0 : decode (m_code 212) 0 = .ok (.aload_n 0, 1) := by decide +kernel
theorem d212_1 : decode (m_code 212) 1 = .ok (.getfield 31, 3) := by decide +kernel
theorem d212_4 : decode (m_code 212) 4 = .ok (.iconst 4, 1) := by decide +kernel
theorem d212_5 : decode (m_code 212) 5 = .ok (.if_icmp .ne 44, 3) := by decide +kernel
theorem d212_8 : decode (m_code 212) 8 = .ok (.iconst 0, 1) := by decide +kernel
theorem d212_9 : decode (m_code 212) 9 = .ok (.istore_n 1, 1) := by decide +kernel
theorem d212_10 : decode (m_code 212) 10 = .ok (.iload_n 1, 1) := by decide +kernel
theorem d212_11 : decode (m_code 212) 11 = .ok (.sipush 12534, 3) := by decide +kernel
theorem d212_14 : decode (m_code 212) 14 = .ok (.if_icmp .ge 25, 3) := by decide +kernel
theorem d212_17 : decode (m_code 212) 17 = .ok (.aload_n 0, 1) := by decide +kernel
theorem d212_18 : decode (m_code 212) 18 = .ok (.getfield 19, 3) := by decide +kernel
theorem d212_21 : decode (m_code 212) 21 = .ok (.iload_n 1, 1) := by decide +kernel
theorem d212_22 : decode (m_code 212) 22 = .ok (.aload_n 0, 1) := by decide +kernel
theorem d212_23 : decode (m_code 212) 23 = .ok (.getfield 19, 3) := by decide +kernel
theorem d212_26 : decode (m_code 212) 26 = .ok (.iload_n 1, 1) := by decide +kernel
theorem d212_27 : decode (m_code 212) 27 = .ok (.sipush 4178, 3) := by decide +kernel
theorem d212_30 : decode (m_code 212) 30 = .ok (.iadd, 1) := by decide +kernel
theorem d212_31 : decode (m_code 212) 31 = .ok (.iaload, 1) := by decide +kernel
theorem d212_32 : decode (m_code 212) 32 = .ok (.iastore, 1) := by decide +kernel
theorem d212_33 : decode (m_code 212) 33 = .ok (.iinc 1 1, 3) := by decide +kernel
theorem d212_36 : decode (m_code 212) 36 = .ok (.goto (-26), 3) := by decide +kernel
theorem d212_39 : decode (m_code 212) 39 = .ok (.aload_n 0, 1) := by decide +kernel
theorem d212_40 : decode (m_code 212) 40 = .ok (.dup, 1) := by decide +kernel
theorem d212_41 : decode (m_code 212) 41 = .ok (.getfield 31, 3) := by decide +kernel
theorem d212_44 : decode (m_code 212) 44 = .ok (.iconst 1, 1) := by decide +kernel
theorem d212_45 : decode (m_code 212) 45 = .ok (.isub, 1) := by decide +kernel
theorem d212_46 : decode (m_code 212) 46 = .ok (.putfield 31, 3) := by decide +kernel
theorem d212_49 : decode (m_code 212) 49 = .ok (.aload_n 0, 1) := by decide +kernel
theorem d212_50 : decode (m_code 212) 50 = .ok (.getfield 7, 3) := by decide +kernel
theorem d212_53 : decode (m_code 212) 53 = .ok (.iconst 0, 1) := by decide +kernel
theorem d212_54 : decode (m_code 212) 54 = .ok (.aload_n 0, 1) := by decide +kernel
theorem d212_55 : decode (m_code 212) 55 = .ok (.getfield 19, 3) := by decide +kernel
theorem d212_58 : decode (m_code 212) 58 = .ok (.aload_n 0, 1) := by decide +kernel
theorem d212_59 : decode (m_code 212) 59 = .ok (.getfield 31, 3) := by decide +kernel
theorem d212_62 : decode (m_code 212) 62 = .ok (.sipush 4178, 3) := by decide +kernel
theorem d212_65 : decode (m_code 212) 65 = .ok (.imul, 1) := by decide +kernel
theorem d212_66 : decode (m_code 212) 66 = .ok (.invokestatic 35, 3) := by decide +kernel
theorem d212_69 : decode (m_code 212) 69 = .ok (.aload_n 0, 1) := by decide +kernel
theorem d212_70 : decode (m_code 212) 70 = .ok (.dup, 1) := by decide +kernel
theorem d212_71 : decode (m_code 212) 71 = .ok (.getfield 31, 3) := by decide +kernel
theorem d212_74 : decode (m_code 212) 74 = .ok (.iconst 1, 1) := by decide +kernel
theorem d212_75 : decode (m_code 212) 75 = .ok (.iadd, 1) := by decide +kernel
theorem d212_76 : decode (m_code 212) 76 = .ok (.putfield 31, 3) := by decide +kernel
theorem d212_79 : decode (m_code 212) 79 = .ok (.return_, 1) := by decide +kernel
theorem d213_0 : decode (m_code 213) 0 = .ok (.iconst 0, 1) := by decide +kernel
theorem d213_1 : decode (m_code 213) 1 = .ok (.istore 4, 2) := by decide +kernel
theorem d213_3 : decode (m_code 213) 3 = .ok (.iload 4, 2) := by decide +kernel
theorem d213_5 : decode (m_code 213) 5 = .ok (.sipush 4178, 3) := by decide +kernel
theorem d213_8 : decode (m_code 213) 8 = .ok (.if_icmp .ge 21, 3) := by decide +kernel
theorem d213_11 : decode (m_code 213) 11 = .ok (.aload_n 2, 1) := by decide +kernel
theorem d213_12 : decode (m_code 213) 12 = .ok (.iload_n 3, 1) := by decide +kernel
theorem d213_13 : decode (m_code 213) 13 = .ok (.iload 4, 2) := by decide +kernel
theorem d213_15 : decode (m_code 213) 15 = .ok (.iadd, 1) := by decide +kernel
theorem d213_16 : decode (m_code 213) 16 = .ok (.aload_n 0, 1) := by decide +kernel
theorem d213_17 : decode (m_code 213) 17 = .ok (.iload_n 1, 1) := by decide +kernel
theorem d213_18 : decode (m_code 213) 18 = .ok (.iload 4, 2) := by decide +kernel
theorem d213_20 : decode (m_code 213) 20 = .ok (.iadd, 1) := by decide +kernel
theorem d213_21 : decode (m_code 213) 21 = .ok (.iaload, 1) := by decide +kernel
theorem d213_22 : decode (m_code 213) 22 = .ok (.iastore, 1) := by decide +kernel
theorem d213_23 : decode (m_code 213) 23 = .ok (.iinc 4 1, 3) := by decide +kernel
theorem d213_26 : decode (m_code 213) 26 = .ok (.goto (-23), 3) := by decide +kernel
theorem d213_29 : decode (m_code 213) 29 = .ok (.return_, 1) := by decide +kernel
theorem m_set_twice {h : mH} {a : Nat} {c d : mC} : m_set (m_set h a c) a d = m_set h a d := by
  unfold m_set
  simp
theorem m_set_same {h : mH} {a : Nat} {c : mC} (hc : m_get h a = some c) : m_set h a c = h := by
  unfold m_set m_get at *
  have hl := (List.getElem?_eq_some_iff.mp hc).1
  have e := (List.getElem?_eq_some_iff.mp hc).2
  rw [← e, List.set_getElem_self]
theorem va_cpy_0 (f g : Nat → Int32) (s d : Nat) : va_cpy f g s d 0 = g := by
  funext k
  unfold va_cpy
  rw [if_neg (by omega)]
theorem va_cpy_succ (f g : Nat → Int32) (s d n : Nat) : upd (va_cpy f g s d n) (d + n) (f (s + n)) = va_cpy f g s d (n + 1) := by
  funext k
  unfold va_cpy upd
  split
  next h => subst h; rw [if_pos (by omega)]; congr 1; omega
  next h =>
    split
    next h2 => exact if_pos (by omega)
    next h2 => exact if_neg (by omega)
theorem c_copy_l {X : mX} {h : mH}  {a0 a1 n0 n1 f t : Nat} {fr to : Nat → Int32} (hg0 : m_get h a0 = some (.inl (false, n0, fr))) (hg1 : m_get h a1 = some (.inl (false, n1, to))) (hne : a0 ≠ a1) (hf : f + 4178 ≤ n0) (ht : t + 4178 ≤ n1) (hn0 : n0 < 2 ^ 31) (hn1 : n1 < 2 ^ 31) : ∀ (d : Nat) (k : Nat) (h2 : mH), 4178 - k = d → k ≤ 4178 → h2 = m_set h a1 (.inl (false, n1, va_cpy fr to f t k)) → m_wp X 213 3 [some (.ref a0), some (.int (nI f)), some (.ref a1), some (.int (nI t)), some (.int (nI k))] [] h2 (fun w h1 => w = none ∧ h1 = m_set h a1 (.inl (false, n1, va_cpy fr to f t 4178))) := by
  intro d
  induction d using Nat.strongRecOn with
  | ind d ih =>
    intro k h2 hd hk he
    refine wp_iload d213_3 rfl ?_
    refine wp_sipush d213_5 (v := nI 4178) (by decide) ?_
    refine wp_icmp_ge d213_8 (tgt := 29) (by decide) (fun hc8 => ?_) (fun hc8 => ?_)
    · have hc8 : 4178 ≤ k := (nI_leI (by omega) (by omega)).mp hc8
      refine wp_vret d213_29 (by decide +kernel) ?_
      exact ⟨rfl, by rw [he, show k = 4178 by omega]⟩
    · have hc8 : ¬ (4178 ≤ k) := fun z => hc8 ((nI_leI (by omega) (by omega)).mpr z)
      refine wp_aload_n d213_11 rfl ?_
      refine wp_iload_n d213_12 rfl ?_
      refine wp_iload d213_13 rfl ?_
      refine wp_iaddv d213_15 (v := nI (t + k)) (nI_add _ _) ?_
      refine wp_aload_n d213_16 rfl ?_
      refine wp_iload_n d213_17 rfl ?_
      refine wp_iload d213_18 rfl ?_
      refine wp_iaddv d213_20 (v := nI (f + k)) (nI_add _ _) ?_
      refine wp_iald d213_21 (by rw [he, m_get_ne (Ne.symm hne)]; exact hg0) (nI_in (by omega) (by omega)) (v := fr (f + k)) (congrArg fr (nI_nat (by omega))) ?_
      refine wp_iast d213_22 (by rw [he]; exact m_get_same hg1) (nI_in (by omega) (by omega)) ?_
      rw [nI_nat (by omega)]
      refine wp_iinc d213_23 rfl (v := nI (k + 1)) (nI_add _ 1) (Nat.le_of_ble_eq_true rfl) rfl ?_
      refine wp_goto d213_26 (tgt := 3) (by decide) ?_
      exact ih (4178 - (k + 1)) (by omega) (k + 1) _ rfl (by omega) (by rw [he, m_set_twice, va_cpy_succ])
theorem c_copy {X : mX} {h : mH}  {a0 a1 n0 n1 f t : Nat} {fr to : Nat → Int32} (hg0 : m_get h a0 = some (.inl (false, n0, fr))) (hg1 : m_get h a1 = some (.inl (false, n1, to))) (hne : a0 ≠ a1) (hf : f + 4178 ≤ n0) (ht : t + 4178 ≤ n1) (hn0 : n0 < 2 ^ 31) (hn1 : n1 < 2 ^ 31) : m_wp X 213 0 (m_entry 213 [.ref a0, .int (nI f), .ref a1, .int (nI t)]) [] h (fun w h1 => w = none ∧ h1 = m_set h a1 (.inl (false, n1, va_cpy fr to f t 4178))) := by
  refine wp_iconst d213_0 (v := nI 0) (by decide) ?_
  refine wp_istore d213_1 (Nat.le_of_ble_eq_true rfl) rfl ?_
  exact c_copy_l hg0 hg1 hne hf ht hn0 hn1 _ 0 h rfl (by omega) (by rw [va_cpy_0, m_set_same hg1])
/-- the history behind a record: the oldest state goes where four are held -/
def F_hs (H : Nat → Int32) (k : Nat) : Nat → Int32 := fun i => if i < k then H (i + 4178) else H i
theorem F_hs_0 (H : Nat → Int32) : F_hs H 0 = H := by
  funext i
  unfold F_hs
  rw [if_neg (by omega)]
theorem F_hs_succ (H : Nat → Int32) (k : Nat) : upd (F_hs H k) k (F_hs H k (k + 4178)) = F_hs H (k + 1) := by
  funext i
  unfold F_hs upd
  split
  next h => subst h; rw [if_neg (by omega), if_pos (by omega)]
  next h =>
    split
    next h2 => exact if_pos (by omega)
    next h2 => exact if_neg (by omega)
/-- recorded states (n of them), and the present one on top -/
def F_rec (R : Nat → Nat → Int32) (σ : Nat → Int32) (n : Nat) : Nat → Nat → Int32 :=
  if n = 4 then stM (updM R 0 5 (nI 4)) 4 (va_cpy σ (F_hs (R 4) 12534) 0 12534 4178)
  else stM (updM R 0 5 (nI (n + 1))) 4 (va_cpy σ (R 4) 0 (n * 4178) 4178)
theorem md_put0 {h : mH} {R : Nat → Nat → Int32} {σ : Nat → Int32} {k : Nat} {v : Int32} (hR : Ms h R σ) (hk : k = 3 ∨ k = 5 ∨ k = 7 ∨ k = 10) : Ms (m_set h 313 (.inr (12, ([.ref 314, .ref 315, .ref 316, .int (R 0 3), .ref 317, .int (R 0 5), .ref 318, .int (R 0 7), .ref 319, .ref 320, .int (R 0 10)] : List Value).set k (.int v)))) (updM R 0 k v) σ := by
  have h2 := hR.setM (o := 0) (f := upd (R 0) k v) (by decide) rfl
  have e : stM (stM R 1 σ) 0 (upd (R 0) k v) = stM (updM R 0 k v) 1 σ := by
    funext o i
    unfold stM updM
    by_cases h0 : o = 0
    · subst h0
      simp
    · simp [h0]
  rw [e] at h2
  have e2 : (mdlC 0 (upd (R 0) k v)) = .inr (12, ([.ref 314, .ref 315, .ref 316, .int (R 0 3), .ref 317, .int (R 0 5), .ref 318, .int (R 0 7), .ref 319, .ref 320, .int (R 0 10)] : List Value).set k (.int v)) := by
    rcases hk with rfl | rfl | rfl | rfl <;> rfl
  rw [e2] at h2
  exact h2
theorem md_putA {h : mH} {R : Nat → Nat → Int32} {σ : Nat → Int32} {f : Nat → Int32} {o n a : Nat} (hR : Ms h R σ) (ho : o < 8 ∧ 2 ≤ o) (ha : a = 313 + o) (hc : mdlC o f = .inl (false, n, f)) : Ms (m_set h a (.inl (false, n, f))) (stM R o f) σ := by
  subst ha
  have h2 := hR.setM (o := o) (f := f) (by omega) hc
  have e : stM (stM R 1 σ) o f = stM (stM R o f) 1 σ := by
    funext o2 i
    unfold stM
    by_cases h1 : o2 = o
    · subst h1
      rw [if_pos rfl, if_neg (by omega), if_pos rfl]
    · rw [if_neg h1]
      by_cases h3 : o2 = 1
      · rw [if_pos h3, if_pos h3]
      · rw [if_neg h3, if_neg h3, if_neg h1]
  rw [e] at h2
  exact h2
theorem md_putS {h : mH} {R : Nat → Nat → Int32} {σ f : Nat → Int32} (hR : Ms h R σ) : Ms (m_set h 314 (.inl (false, 4178, f))) R f := by
  have h2 := hR.setM (o := 1) (f := f) (by decide) rfl
  rw [stM_twice] at h2
  exact h2
theorem stM_id (R : Nat → Nat → Int32) (o : Nat) : stM R o (R o) = R := by
  funext o2 i
  unfold stM
  split
  next z => rw [z]
  next z => rfl
theorem F_rec_3 (R : Nat → Nat → Int32) (σ : Nat → Int32) {n : Nat} (h : n ≠ 4) : updM (stM R 4 (va_cpy σ (R 4) 0 (n * 4178) 4178)) 0 5 (nI (n + 1)) = F_rec R σ n := by
  unfold F_rec
  rw [if_neg h]
  funext o i
  unfold updM stM
  by_cases h0 : o = 0
  · subst h0; simp
  · by_cases h4 : o = 4
    · subst h4; simp
    · simp [h0, h4]
theorem F_rec_4 (R : Nat → Nat → Int32) (σ : Nat → Int32) : updM (stM (updM (stM R 4 (F_hs (R 4) 12534)) 0 5 (nI 3)) 4 (va_cpy σ (F_hs (R 4) 12534) 0 12534 4178)) 0 5 (nI 4) = F_rec R σ 4 := by
  unfold F_rec
  rw [if_pos rfl]
  funext o i
  unfold updM stM upd
  by_cases h0 : o = 0
  · subst h0
    simp
    split <;> rfl
  · by_cases h4 : o = 4
    · subst h4; simp
    · simp [h0, h4]
theorem c_record3 {X : mX} {h : mH} {R : Nat → Nat → Int32} {σ : Nat → Int32} (hR : Ms h R σ) {n : Nat} (hn : R 0 5 = nI n) (hn4 : n < 4) : Does X 212 [.ref 313] h (F_rec R σ n) (σ) none := by
  have hF : Frm h h 313 8 := Frm.rf
  refine wp_aload_n d212_0 rfl ?_
  refine wp_getf (e := 31) (ci := 12) (k := 5) (nest := false) (v := .int (nI n)) d212_1 (by decide +kernel) (md_0 hR) (by rw [← hn]; rfl) ?_
  refine wp_iconst d212_4 (v := nI 4) (by decide) ?_
  refine wp_icmp_ne d212_5 (tgt := 49) (by decide) (fun _ => ?_) (fun hz => absurd hz (fun z => by have := (nI_eq (by omega) (by omega)).mp z; omega))
  refine wp_aload_n d212_49 rfl ?_
  refine wp_getf (e := 7) (ci := 12) (k := 0) (nest := false) d212_50 (by decide +kernel) (md_0 hR) rfl ?_
  refine wp_iconst d212_53 (v := nI 0) (by decide) ?_
  refine wp_aload_n d212_54 rfl ?_
  refine wp_getf (e := 19) (ci := 12) (k := 4) (nest := false) d212_55 (by decide +kernel) (md_0 hR) rfl ?_
  refine wp_aload_n d212_58 rfl ?_
  refine wp_getf (e := 31) (ci := 12) (k := 5) (nest := false) (v := .int (nI n)) d212_59 (by decide +kernel) (md_0 hR) (by rw [← hn]; rfl) ?_
  refine wp_sipush d212_62 (v := nI 4178) (by decide) ?_
  refine wp_imulv d212_65 (v := nI (n * 4178)) (nI_mul _ _) ?_
  refine wp_invs (e := 35) (j2 := 213) (n := 4) d212_66 (by decide +kernel) (by decide +kernel) rfl rfl rfl (Nat.le_of_ble_eq_true rfl) (Nat.le_of_ble_eq_true rfl) rfl rfl (Nat.le_of_ble_eq_true rfl) (by decide +kernel) (c_copy (f := 0) (t := n * 4178) (md_1 hR) (md_4 hR) (by decide) (by omega) (by omega) (by decide) (by decide)) ?_
  rintro _ _ ⟨rfl, rfl⟩
  have hF := hF.trans (Frm.set (o := 4) (cl := .inl (false, 16712, (va_cpy σ (R 4) (0) (n * 4178) 4178))) (by decide) : Frm _ _ 313 8)
  have hR := md_putA (o := 4) (n := 16712) (f := (va_cpy σ (R 4) (0) (n * 4178) 4178)) hR (by decide) rfl rfl
  refine wp_aload_n d212_69 rfl ?_
  refine wp_dup d212_70 rfl ?_
  refine wp_getf (e := 31) (ci := 12) (k := 5) (nest := false) (v := .int (nI n)) d212_71 (by decide +kernel) (md_0 hR) (by rw [← hn]; rfl) ?_
  refine wp_iconst d212_74 (v := nI 1) (by decide) ?_
  refine wp_iaddv d212_75 (v := nI (n + 1)) (nI_add _ _) ?_
  refine wp_putf (e := 31) (ci := 12) (k := 5) (nest := false) d212_76 (by decide +kernel) (md_0 hR) (Nat.le_of_ble_eq_true rfl) rfl (Or.inl (by decide +kernel)) ?_
  have hF := hF.trans (Frm.set (o := 0) (cl := .inr (12, ([.ref 314, .ref 315, .ref 316, .int ((stM R 4 (va_cpy σ (R 4) (0) (n * 4178) 4178)) 0 3), .ref 317, .int ((stM R 4 (va_cpy σ (R 4) (0) (n * 4178) 4178)) 0 5), .ref 318, .int ((stM R 4 (va_cpy σ (R 4) (0) (n * 4178) 4178)) 0 7), .ref 319, .ref 320, .int ((stM R 4 (va_cpy σ (R 4) (0) (n * 4178) 4178)) 0 10)] : List Value).set 5 (.int (nI (n + 1))))) (by decide) : Frm _ _ 313 8)
  have hR := md_put0 (k := 5) (v := nI (n + 1)) hR (by decide)
  refine wp_vret d212_79 (by decide +kernel) ?_
  exact ⟨rfl, by rw [← F_rec_3 R σ (by omega)]; exact hR, hF⟩
theorem c_record_l {X : mX}  {h0 : mH} {R : Nat → Nat → Int32} {σ : Nat → Int32} {H : Nat → Int32} {Q : Option Value → mH → Prop} : ∀ (d : Nat) (k : Nat) (h : mH), 12534 - k = d → k ≤ 12534 → Ms h (stM R 4 (F_hs H k)) σ → Frm h0 h 313 8 → (∀ h1, Ms h1 (stM R 4 (F_hs H 12534)) σ → Frm h0 h1 313 8 → ∀ v, m_wp X 212 39 [some (.ref 313), some (.int v)] [] h1 Q) → m_wp X 212 10 [some (.ref 313), some (.int (nI k))] [] h Q := by
  intro d
  induction d using Nat.strongRecOn with
  | ind d ih =>
    intro k h hd hk hR hF K
    refine wp_iload_n d212_10 rfl ?_
    refine wp_sipush d212_11 (v := nI 12534) (by decide) ?_
    refine wp_icmp_ge d212_14 (tgt := 39) (by decide) (fun hc14 => ?_) (fun hc14 => ?_)
    · have hc14 : 12534 ≤ k := (nI_leI (by omega) (by omega)).mp hc14
      rw [show k = 12534 by omega] at hR
      exact K _ hR hF _
    · have hc14 : ¬ (12534 ≤ k) := fun z => hc14 ((nI_leI (by omega) (by omega)).mpr z)
      refine wp_aload_n d212_17 rfl ?_
      refine wp_getf (e := 19) (ci := 12) (k := 4) (nest := false) d212_18 (by decide +kernel) (md_0 hR) rfl ?_
      refine wp_iload_n d212_21 rfl ?_
      refine wp_aload_n d212_22 rfl ?_
      refine wp_getf (e := 19) (ci := 12) (k := 4) (nest := false) d212_23 (by decide +kernel) (md_0 hR) rfl ?_
      refine wp_iload_n d212_26 rfl ?_
      refine wp_sipush d212_27 (v := nI 4178) (by decide) ?_
      refine wp_iaddv d212_30 (v := nI (k + 4178)) (nI_add _ _) ?_
      refine wp_iald d212_31 (md_4 hR) (nI_in (by omega) (by decide)) (v := (F_hs H k (k + 4178))) (congrArg (F_hs H k) (nI_nat (by omega))) ?_
      refine wp_iast d212_32 (md_4 hR) (nI_in (by omega) (by decide)) ?_
      rw [nI_nat (by omega)]
      have hF := hF.trans (Frm.set (o := 4) (cl := .inl (false, 16712, upd (F_hs H k) k (F_hs H k (k + 4178)))) (by decide) : Frm _ _ 313 8)
      have hR := md_putA (o := 4) (n := 16712) (f := upd (F_hs H k) k (F_hs H k (k + 4178))) hR (by decide) rfl rfl
      show m_wp X 212 _ _ _ (m_set h (313 + 4) (.inl (false, 16712, upd (F_hs H k) k (F_hs H k (k + 4178))))) _
      rw [stM_twice, F_hs_succ] at hR
      rw [F_hs_succ] at hF ⊢
      refine wp_iinc d212_33 rfl (v := nI (k + 1)) (nI_add _ 1) (Nat.le_of_ble_eq_true rfl) rfl ?_
      refine wp_goto d212_36 (tgt := 10) (by decide) ?_
      exact ih (12534 - (k + 1)) (by omega) (k + 1) _ rfl (by omega) hR hF K
theorem c_record4 {X : mX} {h : mH} {R : Nat → Nat → Int32} {σ : Nat → Int32} (hR : Ms h R σ) (hn : R 0 5 = nI 4) : Does X 212 [.ref 313] h (F_rec R σ 4) (σ) none := by
  have hF : Frm h h 313 8 := Frm.rf
  refine wp_aload_n d212_0 rfl ?_
  refine wp_getf (e := 31) (ci := 12) (k := 5) (nest := false) (v := .int (nI 4)) d212_1 (by decide +kernel) (md_0 hR) (by rw [← hn]; rfl) ?_
  refine wp_iconst d212_4 (v := nI 4) (by decide) ?_
  refine wp_icmp_ne d212_5 (tgt := 49) (by decide) (fun hz => absurd hz (by decide)) (fun _ => ?_)
  refine wp_iconst d212_8 (v := nI 0) (by decide) ?_
  refine wp_istore_n d212_9 (Nat.le_of_ble_eq_true rfl) rfl ?_
  refine c_record_l (σ := σ) (H := R 4) (R := R) _ 0 h rfl (by omega) (by rw [F_hs_0, stM_id]; exact hR) hF ?_
  intro h hR hF v
  refine wp_aload_n d212_39 rfl ?_
  refine wp_dup d212_40 rfl ?_
  refine wp_getf (e := 31) (ci := 12) (k := 5) (nest := false) (v := .int (nI 4)) d212_41 (by decide +kernel) (md_0 hR) (by rw [← hn]; rfl) ?_
  refine wp_iconst d212_44 (v := nI 1) (by decide) ?_
  refine wp_isubv d212_45 (v := nI 3) (by decide) ?_
  refine wp_putf (e := 31) (ci := 12) (k := 5) (nest := false) d212_46 (by decide +kernel) (md_0 hR) (Nat.le_of_ble_eq_true rfl) rfl (Or.inl (by decide +kernel)) ?_
  have hF := hF.trans (Frm.set (o := 0) (cl := .inr (12, ([.ref 314, .ref 315, .ref 316, .int ((stM R 4 (F_hs (R 4) 12534)) 0 3), .ref 317, .int ((stM R 4 (F_hs (R 4) 12534)) 0 5), .ref 318, .int ((stM R 4 (F_hs (R 4) 12534)) 0 7), .ref 319, .ref 320, .int ((stM R 4 (F_hs (R 4) 12534)) 0 10)] : List Value).set 5 (.int (nI 3)))) (by decide) : Frm _ _ 313 8)
  have hR := md_put0 (k := 5) (v := nI 3) hR (by decide)
  refine wp_aload_n d212_49 rfl ?_
  refine wp_getf (e := 7) (ci := 12) (k := 0) (nest := false) d212_50 (by decide +kernel) (md_0 hR) rfl ?_
  refine wp_iconst d212_53 (v := nI 0) (by decide) ?_
  refine wp_aload_n d212_54 rfl ?_
  refine wp_getf (e := 19) (ci := 12) (k := 4) (nest := false) d212_55 (by decide +kernel) (md_0 hR) rfl ?_
  refine wp_aload_n d212_58 rfl ?_
  refine wp_getf (e := 31) (ci := 12) (k := 5) (nest := false) (v := .int (nI 3)) d212_59 (by decide +kernel) (md_0 hR) rfl ?_
  refine wp_sipush d212_62 (v := nI 4178) (by decide) ?_
  refine wp_imulv d212_65 (v := nI 12534) (nI_mul _ _) ?_
  refine wp_invs (e := 35) (j2 := 213) (n := 4) d212_66 (by decide +kernel) (by decide +kernel) rfl rfl rfl (Nat.le_of_ble_eq_true rfl) (Nat.le_of_ble_eq_true rfl) rfl rfl (Nat.le_of_ble_eq_true rfl) (by decide +kernel) (c_copy (f := 0) (t := 12534) (md_1 hR) (md_4 hR) (by decide) (by omega) (by omega) (by decide) (by decide)) ?_
  rintro _ _ ⟨rfl, rfl⟩
  have hF := hF.trans (Frm.set (o := 4) (cl := .inl (false, 16712, (va_cpy σ ((F_hs (R 4) 12534)) (0) (12534) 4178))) (by decide) : Frm _ _ 313 8)
  have hR := md_putA (o := 4) (n := 16712) (f := (va_cpy σ ((F_hs (R 4) 12534)) (0) (12534) 4178)) hR (by decide) rfl rfl
  refine wp_aload_n d212_69 rfl ?_
  refine wp_dup d212_70 rfl ?_
  refine wp_getf (e := 31) (ci := 12) (k := 5) (nest := false) (v := .int (nI 3)) d212_71 (by decide +kernel) (md_0 hR) rfl ?_
  refine wp_iconst d212_74 (v := nI 1) (by decide) ?_
  refine wp_iaddv d212_75 (v := nI 4) (nI_add _ _) ?_
  refine wp_putf (e := 31) (ci := 12) (k := 5) (nest := false) d212_76 (by decide +kernel) (md_0 hR) (Nat.le_of_ble_eq_true rfl) rfl (Or.inl (by decide +kernel)) ?_
  have hF := hF.trans (Frm.set (o := 0) (cl := .inr (12, ([.ref 314, .ref 315, .ref 316, .int ((stM (updM (stM R 4 (F_hs (R 4) 12534)) 0 5 (nI 3)) 4 (va_cpy σ ((F_hs (R 4) 12534)) (0) (12534) 4178)) 0 3), .ref 317, .int ((stM (updM (stM R 4 (F_hs (R 4) 12534)) 0 5 (nI 3)) 4 (va_cpy σ ((F_hs (R 4) 12534)) (0) (12534) 4178)) 0 5), .ref 318, .int ((stM (updM (stM R 4 (F_hs (R 4) 12534)) 0 5 (nI 3)) 4 (va_cpy σ ((F_hs (R 4) 12534)) (0) (12534) 4178)) 0 7), .ref 319, .ref 320, .int ((stM (updM (stM R 4 (F_hs (R 4) 12534)) 0 5 (nI 3)) 4 (va_cpy σ ((F_hs (R 4) 12534)) (0) (12534) 4178)) 0 10)] : List Value).set 5 (.int (nI 4)))) (by decide) : Frm _ _ 313 8)
  have hR := md_put0 (k := 5) (v := nI 4) hR (by decide)
  refine wp_vret d212_79 (by decide +kernel) ?_
  exact ⟨rfl, by rw [← F_rec_4 R σ]; exact hR, hF⟩
