/-! Both tell alike. -/
theorem d147_0 : decode (m_code 147) 0 = .ok (.aload_n 0, 1) := by decide +kernel
theorem d147_1 : decode (m_code 147) 1 = .ok (.getfield 15, 3) := by decide +kernel
theorem d147_4 : decode (m_code 147) 4 = .ok (.ireturn, 1) := by decide +kernel
theorem d161_0 : decode (m_code 161) 0 = .ok (.aload_n 0, 1) := by decide +kernel
theorem d161_1 : decode (m_code 161) 1 = .ok (.getfield 27, 3) := by decide +kernel
theorem d161_4 : decode (m_code 161) 4 = .ok (.ireturn, 1) := by decide +kernel
theorem K_d1.key {M : Nat → Nat → Int32} {σ : Nat → Int32} {nR d : Nat} (h : K_d1 M σ nR d) : (0 ≤ σ (92 + 5 * d + 3) ∧ M 12 d = σ (92 + 5 * d + 3)) ∨ (¬ 0 ≤ σ (92 + 5 * d + 3) ∧ M 12 d = -5) := by
  obtain ⟨-, q, -⟩ := h
  rcases q with ⟨q1, q2⟩ | ⟨k, hk, q1, q2⟩
  · exact Or.inr ⟨by rw [q1]; decide, q2⟩
  · exact Or.inl ⟨by rw [q1]; exact nI_pos' (by omega), q2.trans q1.symm⟩
theorem K_d1.eq {M : Nat → Nat → Int32} {σ : Nat → Int32} {nR d : Nat} (h : K_d1 M σ nR d) : M 9 d = σ (92 + 5 * d + 0) ∧ M 10 d = σ (92 + 5 * d + 1) ∧ M 11 d = σ (92 + 5 * d + 2) ∧ M 13 d = σ (92 + 5 * d + 4) := by
  obtain ⟨⟨a, b, w, h1, h2, h3, h4, h5, h6, h7, h8, h9, h10⟩, -, q⟩ := h
  exact ⟨h6.trans h5.symm, h8.trans h7.symm, h10.trans h9.symm, q.symm⟩
theorem lt6 {x : Int32} : (nI 0 ≤ x ∧ x < nI 6) ↔ (nI 0 ≤ x ∧ x ≤ nI 5) := and_congr Iff.rfl (nI_lt_le (by decide))
theorem lt8 {x : Int32} : (nI 0 ≤ x ∧ x < nI 8) ↔ (nI 0 ≤ x ∧ x ≤ nI 7) := and_congr Iff.rfl (nI_lt_le (by decide))
theorem mem04 {v : Int32} (h : v.toInt < 0 ∨ 4 < v.toInt) : ¬ (nI 0 ≤ v ∧ v ≤ nI 4) := by
  rintro ⟨h1, h2⟩
  rw [Int32.le_iff_toInt_le, nI_int (by decide)] at h1 h2
  omega
theorem K_z.exc {M : Nat → Nat → Int32} {σ : Nat → Int32} {z : Nat} (h : K_z M σ) (hz : z < 6) : M 16 z = σ (14 + z) := by
  obtain ⟨-, h1, -⟩ := h
  obtain ⟨e, -, h2, h3⟩ := h1 z hz
  exact h2.trans h3.symm
theorem K_g1.parts {M : Nat → Nat → Int32} {σ : Nat → Int32} {nR us g : Nat} (h : K_g1 M σ nR us g) (hR : nR ≤ 12) : (0 ≤ σ (192 + 10 * g + 0) ∧ ¬ M 20 g = -5 ∧ M 22 g = -5 ∧ M 23 g = σ (192 + 10 * g + 3)) ∨ (¬ 0 ≤ σ (192 + 10 * g + 0) ∧ M 20 g = -5 ∧ M 22 g = σ (192 + 10 * g + 2) ∧ σ (192 + 10 * g + 3) = nI 0) := by
  obtain ⟨p1, p2, p3, p4⟩ := h
  rcases p4 with ⟨r, s, a1, a2, a3, a4, a5, a6, a7, a8, a9⟩ | ⟨t, l, s, a1, a2, a3, a4, a5, a6, a7, a8, a9, b1, b2, b3⟩
  · exact Or.inl ⟨by rw [a3]; exact nI_pos' (by omega), by rw [a4]; exact nI_ne5 (by omega), a7, a9.trans a8.symm⟩
  · exact Or.inr ⟨by rw [a5]; decide, a6, b1.trans a9.symm, b2⟩
theorem K_g1.ord {M : Nat → Nat → Int32} {σ : Nat → Int32} {nR us g : Nat} (h : K_g1 M σ nR us g) : M 27 g = σ (192 + 10 * g + 5) := by
  obtain ⟨⟨m, h1, h2, h3⟩, -⟩ := h
  exact h3.trans h2.symm
def F_oo (M : Nat → Nat → Int32) (g m : Nat) (w : Int32) : Int32 := if w < nI m then M 28 (g * 12 + w.toNatClampNeg) else -5
theorem u_orderAny {X : mX} {h : mH} {B st : Nat} {M : Nat → Nat → Int32} (hM : Mus h B st M) {n : Nat} (hn : M 19 9 = nI n) (hn2 : n ≤ 4) {g : Nat} (hg : g < n) {m : Nat} (hm : M 27 g = nI m) (hm2 : m ≤ 12) {w : Int32} (hw : ¬ w < 0) : Tells X 112 [.ref (B + 19), .int (nI g), .int (w)] h (F_oo M g m w) := by
  unfold F_oo
  by_cases z : w < nI m
  · obtain ⟨k, hk, rfl⟩ := nI_ofr (by omega) ⟨Int32.not_lt.mp hw, z⟩
    rw [if_pos z, nI_nat (by omega)]
    exact u_orderOf hM hn hn2 hg hm hm2 hk
  · rw [if_neg z]
    exact u_orderOf_2 hM hn hn2 hg hm hm2 hw z
theorem K_o1.val {M : Nat → Nat → Int32} {σ : Nat → Int32} {nR g m k : Nat} (h : K_o1 M σ nR g) (hm : m ≤ 12) (h5 : σ (192 + 10 * g + 5) = nI m) (hk : k < m) : F_oo M g m (nI k) = nI 100 * σ (232 + 24 * g + 2 * k) + σ (232 + 24 * g + 2 * k + 1) := by
  obtain ⟨r, s, h1, h2, h3, h4, h6⟩ := h m hm h5 k hk
  unfold F_oo
  rw [if_pos (nI_lt hk (by omega)), nI_nat (by omega), h6, h3, h4, nI_mul, nI_add]
def F_pa (T : Nat → Int32) (c p : Nat) (x : Int32) : Int32 := if x < nI c then T ((c - 1 - x.toNatClampNeg) * 4 + p) else -5
theorem c_part {T : Nat → Int32} {c p N : Nat} {σ f : Nat → Int32} (hc : c = F_sy σ N) (hN : N ≤ 2880) (hf : ∀ k, k < N → 0 < σ (1298 + k) → f k = T (4 * F_sy σ k + p)) {x : Int32} (hx : ¬ x < 0) : F_pa T c p x = F_s σ f N x := by
  have hle := F_sy_le σ N
  unfold F_pa
  by_cases z : x < nI c
  · obtain ⟨k, hk, rfl⟩ := nI_ofr (by omega) ⟨Int32.not_lt.mp hx, z⟩
    rw [if_pos z, nI_nat (by omega), c_stay hf (by omega) N (Nat.le_refl _) k (by omega), ← hc]
    congr 1
    omega
  · rw [if_neg z]
    obtain ⟨l, hl, rfl⟩ : ∃ l, l < 2 ^ 31 ∧ x = nI l := by
      have h1 := Int32.le_iff_toInt_le.mp (Int32.not_lt.mp hx)
      have h2 := Int32.toInt_lt x
      have h0 : (0 : Int32).toInt = 0 := by decide
      refine ⟨x.toInt.toNat, by omega, ?_⟩
      apply Int32.toInt_inj.mp
      rw [nI_int (by omega)]
      omega
    have : ¬ l < c := fun y => z (nI_lt y (by omega))
    exact (c_stay_no N l (by omega) hl (by omega)).symm
theorem gap_nums {f u : Int32} {mi : Nat} (h1 : ¬ f < 0) (h2 : ¬ u < f) (h3 : u ≤ nI mi) (hmi : mi ≤ 720) : ∃ lo N, lo + N ≤ mi ∧ f = nI lo ∧ u = nI (lo + N) := by
  have e1 := Int32.le_iff_toInt_le.mp (Int32.not_lt.mp h1)
  have e2 := Int32.le_iff_toInt_le.mp (Int32.not_lt.mp h2)
  have e3 := Int32.le_iff_toInt_le.mp h3
  rw [nI_int (by omega)] at e3
  have h0 : (0 : Int32).toInt = 0 := by decide
  refine ⟨f.toInt.toNat, u.toInt.toNat - f.toInt.toNat, by omega, ?_, ?_⟩
  · apply Int32.toInt_inj.mp
    rw [nI_int (by omega)]
    omega
  · apply Int32.toInt_inj.mp
    rw [nI_int (by omega)]
    omega
theorem lt4 {x : Int32} : (nI 0 ≤ x ∧ x < nI 4) ↔ (nI 0 ≤ x ∧ x ≤ nI 3) := and_congr Iff.rfl (nI_lt_le (by decide))
theorem u_hsize {X : mX} {h : mH} {a : Nat} {x y z w : Value} {n : Nat} (hH : m_get h a = some (.inr (10, [x, y, z, w, .int (nI n)]))) : Tells X 161 [.ref a] h (nI n) := by
  refine wp_aload_n d161_0 rfl ?_
  refine wp_getf (e := 27) (ci := 10) (k := 4) (nest := false) d161_1 (by decide +kernel) hH rfl ?_
  refine wp_iret d161_4 (by decide +kernel) ?_
  exact ⟨rfl, rfl⟩
theorem u_tlen {X : mX} {h : mH} {a : Nat} {x y z w : Value} {n : Nat} (hH : m_get h a = some (.inr (11, [x, .int (nI n), y, z, w]))) : Tells X 147 [.ref a] h (nI n) := by
  refine wp_aload_n d147_0 rfl ?_
  refine wp_getf (e := 15) (ci := 11) (k := 1) (nest := false) d147_1 (by decide +kernel) hH rfl ?_
  refine wp_iret d147_4 (by decide +kernel) ?_
  exact ⟨rfl, rfl⟩
