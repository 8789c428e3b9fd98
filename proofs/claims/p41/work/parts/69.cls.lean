/-! The class: the history. -/
theorem d18_0 : decode (m_code 18) 0 = .ok (.aload_n 0, 1) := by decide +kernel
theorem d18_1 : decode (m_code 18) 1 = .ok (.getfield 24, 3) := by decide +kernel
theorem d18_4 : decode (m_code 18) 4 = .ok (.astore_n 2, 1) := by decide +kernel
theorem d18_5 : decode (m_code 18) 5 = .ok (.aload_n 0, 1) := by decide +kernel
theorem d18_6 : decode (m_code 18) 6 = .ok (.aload_n 0, 1) := by decide +kernel
theorem d18_7 : decode (m_code 18) 7 = .ok (.getfield 21, 3) := by decide +kernel
theorem d18_10 : decode (m_code 18) 10 = .ok (.putfield 24, 3) := by decide +kernel
theorem d18_13 : decode (m_code 18) 13 = .ok (.aload_n 0, 1) := by decide +kernel
theorem d18_14 : decode (m_code 18) 14 = .ok (.aload_n 0, 1) := by decide +kernel
theorem d18_15 : decode (m_code 18) 15 = .ok (.getfield 18, 3) := by decide +kernel
theorem d18_18 : decode (m_code 18) 18 = .ok (.putfield 21, 3) := by decide +kernel
theorem d18_21 : decode (m_code 18) 21 = .ok (.aload_n 0, 1) := by decide +kernel
theorem d18_22 : decode (m_code 18) 22 = .ok (.aload_n 0, 1) := by decide +kernel
theorem d18_23 : decode (m_code 18) 23 = .ok (.getfield 12, 3) := by decide +kernel
theorem d18_26 : decode (m_code 18) 26 = .ok (.putfield 18, 3) := by decide +kernel
theorem d18_29 : decode (m_code 18) 29 = .ok (.aload_n 0, 1) := by decide +kernel
theorem d18_30 : decode (m_code 18) 30 = .ok (.aload_n 2, 1) := by decide +kernel
theorem d18_31 : decode (m_code 18) 31 = .ok (.putfield 12, 3) := by decide +kernel
theorem d18_34 : decode (m_code 18) 34 = .ok (.aload_n 0, 1) := by decide +kernel
theorem d18_35 : decode (m_code 18) 35 = .ok (.getfield 12, 3) := by decide +kernel
theorem d18_38 : decode (m_code 18) 38 = .ok (.aload_n 1, 1) := by decide +kernel
theorem d18_39 : decode (m_code 18) 39 = .ok (.invokevirtual 31, 3) := by decide +kernel
theorem d18_42 : decode (m_code 18) 42 = .ok (.aload_n 0, 1) := by decide +kernel
theorem d18_43 : decode (m_code 18) 43 = .ok (.aload_n 0, 1) := by decide +kernel
theorem d18_44 : decode (m_code 18) 44 = .ok (.getfield 27, 3) := by decide +kernel
theorem d18_47 : decode (m_code 18) 47 = .ok (.iconst 1, 1) := by decide +kernel
theorem d18_48 : decode (m_code 18) 48 = .ok (.iadd, 1) := by decide +kernel
theorem d18_49 : decode (m_code 18) 49 = .ok (.iconst 4, 1) := by decide +kernel
theorem d18_50 : decode (m_code 18) 50 = .ok (.invokestatic 35, 3) := by decide +kernel
theorem d18_53 : decode (m_code 18) 53 = .ok (.putfield 27, 3) := by decide +kernel
theorem d18_56 : decode (m_code 18) 56 = .ok (.return_, 1) := by decide +kernel
def Oth2 (h h1 : mH) : Prop := ∀ a, (a = 0 ∨ (310 ≤ a ∧ a < 321)) → m_get h1 a = m_get h a
theorem Oth2.rf {h : mH} : Oth2 h h := fun _ _ => rfl
theorem Oth2.tr {h h1 h2 : mH} (a : Oth2 h h1) (b : Oth2 h1 h2) : Oth2 h h2 := fun q hq => (b q hq).trans (a q hq)
theorem hi_step {X : mX} {j pc : Nat} {L : mL} {st : List Value} {h0 h : mH} {Q : Option Value → mH → Prop} {V : Nat → Mu} {fs fs2 : List Value} {cl : mC} (hW : Wd h V) (hO : Oth2 h0 h) (hH : m_get h 133 = some (.inr (10, fs))) (hc : Sum.inr (10, fs2) = cl) (K : ∀ h1, Wd h1 V → Oth2 h0 h1 → m_get h1 133 = some (.inr (10, fs2)) → m_wp X j pc L st h1 Q) : m_wp X j pc L st (m_set h 133 cl) Q := by
  subst hc
  refine K _ (hW.put (by omega)) (fun a ha => ?_) (m_get_same hH)
  rw [m_get_ne (by omega)]
  exact hO a ha
theorem nI_nz0 {n : Nat} (h0 : 0 < n) (h : n < 2 ^ 31) : ¬ nI n = 0 := fun z => by
  have := (nI_eq (a := n) (b := 0) h (by omega)).mp z
  omega
theorem nI_min4 {n : Nat} (h : n ≤ 4) : (if nI 4 < nI (n + 1) then nI 4 else nI (n + 1)) = nI (min (n + 1) 4) := by
  by_cases z : 4 < n + 1
  · rw [if_pos (nI_lt z (by omega)), Nat.min_eq_right (by omega)]
  · rw [if_neg (fun y => z ((nI_ltI (by omega) (by omega)).mp y)), Nat.min_eq_left (by omega)]
theorem u_record {X : mX} {h : mH} {V : Nat → Mu} {p q r s n : Nat} {σ : Nat → Int32} (hp : 3 ≤ p ∧ p < 7) (hq : 3 ≤ q ∧ q < 7) (hr : 3 ≤ r ∧ r < 7) (hs : 3 ≤ s ∧ s < 7) (hW : Wd h V) (hH : m_get h 133 = some (.inr (10, [.ref (bs p), .ref (bs q), .ref (bs r), .ref (bs s), .int (nI n)]))) (hn4 : n ≤ 4) (hC : CplV (V 0) σ) : m_wp X 18 0 (m_entry 18 [.ref 133, .ref (bs 0)]) [] h (fun w h1 => w = none ∧ ∃ m : Mu, (∀ σ1, CplV (V 0) σ1 → CplV m σ1) ∧ Wd h1 (setV V s m) ∧ Oth2 h h1 ∧ m_get h1 133 = some (.inr (10, [.ref (bs s), .ref (bs p), .ref (bs q), .ref (bs r), .int (nI (min (n + 1) 4))]))) := by
  have hO : Oth2 h h := Oth2.rf
  refine wp_aload_n d18_0 rfl ?_
  refine wp_getf (e := 24) (ci := 10) (k := 3) (nest := false) d18_1 (by decide +kernel) hH rfl ?_
  refine wp_astore_n d18_4 (Nat.le_of_ble_eq_true rfl) rfl ?_
  refine wp_aload_n d18_5 rfl ?_
  refine wp_aload_n d18_6 rfl ?_
  refine wp_getf (e := 21) (ci := 10) (k := 2) (nest := false) d18_7 (by decide +kernel) hH rfl ?_
  refine wp_putf (e := 24) (ci := 10) (k := 3) (nest := false) d18_10 (by decide +kernel) hH (Nat.le_of_ble_eq_true rfl) rfl (Or.inl (by decide +kernel)) ?_
  refine hi_step (fs2 := [.ref (bs p), .ref (bs q), .ref (bs r), .ref (bs r), .int (nI n)]) hW hO hH rfl (fun h hW hO hH => ?_)
  refine wp_aload_n d18_13 rfl ?_
  refine wp_aload_n d18_14 rfl ?_
  refine wp_getf (e := 18) (ci := 10) (k := 1) (nest := false) d18_15 (by decide +kernel) hH rfl ?_
  refine wp_putf (e := 21) (ci := 10) (k := 2) (nest := false) d18_18 (by decide +kernel) hH (Nat.le_of_ble_eq_true rfl) rfl (Or.inl (by decide +kernel)) ?_
  refine hi_step (fs2 := [.ref (bs p), .ref (bs q), .ref (bs q), .ref (bs r), .int (nI n)]) hW hO hH rfl (fun h hW hO hH => ?_)
  refine wp_aload_n d18_21 rfl ?_
  refine wp_aload_n d18_22 rfl ?_
  refine wp_getf (e := 12) (ci := 10) (k := 0) (nest := false) d18_23 (by decide +kernel) hH rfl ?_
  refine wp_putf (e := 18) (ci := 10) (k := 1) (nest := false) d18_26 (by decide +kernel) hH (Nat.le_of_ble_eq_true rfl) rfl (Or.inl (by decide +kernel)) ?_
  refine hi_step (fs2 := [.ref (bs p), .ref (bs p), .ref (bs q), .ref (bs r), .int (nI n)]) hW hO hH rfl (fun h hW hO hH => ?_)
  refine wp_aload_n d18_29 rfl ?_
  refine wp_aload_n d18_30 rfl ?_
  refine wp_putf (e := 12) (ci := 10) (k := 0) (nest := false) d18_31 (by decide +kernel) hH (Nat.le_of_ble_eq_true rfl) rfl (Or.inl (by decide +kernel)) ?_
  refine hi_step (fs2 := [.ref (bs s), .ref (bs p), .ref (bs q), .ref (bs r), .int (nI n)]) hW hO hH rfl (fun h hW hO hH => ?_)
  refine wp_aload_n d18_34 rfl ?_
  refine wp_getf (e := 12) (ci := 10) (k := 0) (nest := false) d18_35 (by decide +kernel) hH rfl ?_
  refine wp_aload_n d18_38 rfl ?_
  obtain ⟨stq, lnq, hSq, -⟩ := hW.one (k := s) (by omega)
  refine wp_invv (e := 31) (j2 := 19) (n := 1) d18_39 (by decide +kernel) (by decide +kernel) rfl rfl rfl (um_0 hSq.1) (by decide +kernel) (Nat.le_of_ble_eq_true rfl) rfl rfl (Nat.le_of_ble_eq_true rfl) (by decide +kernel) (Wd.copy hW (k := s) (j := 0) (by omega) (by omega) (by omega) hC) (fun v h hq => ?_)
  obtain ⟨rfl, m, hW, hO1, hm⟩ := hq
  show m_wp X 18 _ _ [] _ _
  replace hO : Oth2 _ h := fun a ha => (hO1 a (by omega)).trans (hO a ha)
  replace hH := (hO1 133 (by omega)).trans hH
  refine wp_aload_n d18_42 rfl ?_
  refine wp_aload_n d18_43 rfl ?_
  refine wp_getf (e := 27) (ci := 10) (k := 4) (nest := false) d18_44 (by decide +kernel) hH rfl ?_
  refine wp_iconst d18_47 (v := nI 1) (by decide) ?_
  refine wp_iaddv d18_48 (v := nI (n + 1)) (nI_add _ _) ?_
  refine wp_iconst d18_49 (v := nI 4) (by decide) ?_
  refine wp_min (e := 35) (j2 := 29) d18_50 (by decide +kernel) (Nat.le_of_ble_eq_true rfl) rfl (by decide +kernel) (v := nI (min (n + 1) 4)) (nI_min4 hn4) ?_
  refine wp_putf (e := 27) (ci := 10) (k := 4) (nest := false) d18_53 (by decide +kernel) hH (Nat.le_of_ble_eq_true rfl) rfl (Or.inl (by decide +kernel)) ?_
  refine hi_step (fs2 := [.ref (bs s), .ref (bs p), .ref (bs q), .ref (bs r), .int (nI (min (n + 1) 4))]) hW hO hH rfl (fun h hW hO hH => ?_)
  refine wp_vret d18_56 (by decide +kernel) ?_
  exact ⟨rfl, m, hm, hW, hO, hH⟩
