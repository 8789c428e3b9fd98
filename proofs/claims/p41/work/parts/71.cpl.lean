/-! The coupling: what is counted. -/
theorem cnt_c {p q : Nat → Bool} {n : Nat} (h : ∀ k, k < n → p k = q k) : cnt p n = cnt q n := by
  induction n with
  | zero => rfl
  | succ n ih => rw [cnt, cnt, ih (fun k hk => h k (by omega)), h n (by omega)]
theorem F_kq_cnt : ∀ b0 b1 b2 b3 b4 b5 b6 b7 : Bool, F_bc (F_kq (fun k => [b0, b1, b2, b3, b4, b5, b6, b7].getD k false) 8) = nI (cnt (fun k => [b0, b1, b2, b3, b4, b5, b6, b7].getD k false) 8) := by decide +kernel
theorem F_bc_kq (q : Nat → Bool) : F_bc (F_kq q 8) = nI (cnt q 8) := by
  have e : ∀ k, k < 8 → q k = (fun k => [q 0, q 1, q 2, q 3, q 4, q 5, q 6, q 7].getD k false) k := by
    intro k hk
    rcases (show k = 0 ∨ k = 1 ∨ k = 2 ∨ k = 3 ∨ k = 4 ∨ k = 5 ∨ k = 6 ∨ k = 7 by omega) with rfl | rfl | rfl | rfl | rfl | rfl | rfl | rfl <;> rfl
  rw [F_kq_c e, cnt_c e]
  exact F_kq_cnt _ _ _ _ _ _ _ _
theorem F_bc_kb (M : Nat → Nat → Int32) (v : Int32) : F_bc (F_kb M v 8) = nI (cnt (fun k => decide (M 18 k = v)) 8) := by
  rw [F_kq_M, F_bc_kq]
theorem F_bits_c : ∀ b : Fin 256, F_bits (nI b.val) 16 = nI (cnt (fun k => decide (F_bit (nI b.val) (nI k))) 8) := by decide +kernel
theorem F_bc_oz : ∀ b : Fin 64, F_bc (nI b.val) = nI 0 + nI (b.val / 2 ^ 0 % 2) + nI (b.val / 2 ^ 1 % 2) + nI (b.val / 2 ^ 2 % 2) + nI (b.val / 2 ^ 3 % 2) + nI (b.val / 2 ^ 4 % 2) + nI (b.val / 2 ^ 5 % 2) := by decide +kernel
theorem F_bar_b : ∀ e b : Fin 64, (nI e.val &&& nI b.val = 0) ↔ ((((((false || (decide (F_bit (nI e.val) (nI 0)) && decide (nI (b.val / 2 ^ 0 % 2) = nI 1))) || (decide (F_bit (nI e.val) (nI 1)) && decide (nI (b.val / 2 ^ 1 % 2) = nI 1))) || (decide (F_bit (nI e.val) (nI 2)) && decide (nI (b.val / 2 ^ 2 % 2) = nI 1))) || (decide (F_bit (nI e.val) (nI 3)) && decide (nI (b.val / 2 ^ 3 % 2) = nI 1))) || (decide (F_bit (nI e.val) (nI 4)) && decide (nI (b.val / 2 ^ 4 % 2) = nI 1))) || (decide (F_bit (nI e.val) (nI 5)) && decide (nI (b.val / 2 ^ 5 % 2) = nI 1))) = false := by decide +kernel
theorem nI_rng {n : Nat} {x : Int32} (hn : n < 2 ^ 31) (h : ¬ (x.toInt < 0 ∨ (n : Int) - 1 < x.toInt)) : ∃ k, k < n ∧ x = nI k := by
  refine nI_ofr hn ⟨?_, ?_⟩
  · rw [Int32.le_iff_toInt_le, nI_int (by decide)]
    omega
  · rw [Int32.lt_iff_toInt_lt, nI_int hn]
    omega
theorem nI_lt_le {x : Int32} {n : Nat} (hn : n + 1 < 2 ^ 31) : x < nI (n + 1) ↔ x ≤ nI n := by
  rw [Int32.lt_iff_toInt_lt, Int32.le_iff_toInt_le, nI_int hn, nI_int (by omega)]
  omega
section CN
variable {M : Nat → Nat → Int32} {T : Nat → Int32} {c : Nat} {σ : Nat → Int32} {mi nR nD nG nW nA ur us ns wm : Nat}
theorem K_z.count (h : K_z M σ) : F_bc (M 15 1) = F_oz σ 6 := by
  obtain ⟨⟨ob, h1, h2, h3⟩, -⟩ := h
  rw [h2, F_bc_oz ⟨ob, h1⟩]
  show _ = F_oz σ 0 + σ (8 + 0) + σ (8 + 1) + σ (8 + 2) + σ (8 + 3) + σ (8 + 4) + σ (8 + 5)
  rw [h3 0 (by omega), h3 1 (by omega), h3 2 (by omega), h3 3 (by omega), h3 4 (by omega), h3 5 (by omega)]
  rfl
theorem K_z.barred (h : K_z M σ) {z : Nat} (hz : z < 6) : (M 16 z &&& M 15 1) = 0 ↔ F_bar σ z 6 = false := by
  obtain ⟨⟨ob, h1, h2, h3⟩, h4, -⟩ := h
  obtain ⟨e, e1, e2, e3⟩ := h4 z hz
  rw [h2, e2, F_bar_b ⟨e, e1⟩ ⟨ob, h1⟩]
  unfold F_bar F_bar F_bar F_bar F_bar F_bar F_bar
  rw [e3, h3 0 (by omega), h3 1 (by omega), h3 2 (by omega), h3 3 (by omega), h3 4 (by omega), h3 5 (by omega)]
theorem c_gi (h : ∀ g, g < nG → K_g1 M σ nR us g) (x : Int32) : cnt (fun k => decide (M 20 k = x)) nG = F_gi σ x nG := by
  induction nG with
  | zero => rfl
  | succ n ih =>
    rw [cnt, F_gi, ih (fun g hg => h g (by omega)), (h n (by omega)).at'.1]
    by_cases z : M 20 n = x
    · rw [if_pos (decide_eq_true z), if_pos z]
    · rw [if_neg (fun y => z (of_decide_eq_true y)), if_neg z]
theorem c_cw (h : ∀ w, w < nW → K_w1 M σ nR w) (x : Int32) : cnt (fun k => decide (M 31 k = x ∧ ¬ M 33 k = nI 2)) nW = F_cw σ x nW := by
  induction nW with
  | zero => rfl
  | succ n ih =>
    obtain ⟨⟨w0, w1, w2, w3, w4⟩, -⟩ := h n (by omega)
    rw [cnt, F_cw, ih (fun g hg => h g (by omega)), w1, w3]
    by_cases z : M 31 n = x ∧ ¬ M 33 n = nI 2
    · rw [if_pos (decide_eq_true z), if_pos z]
    · rw [if_neg (fun y => z (of_decide_eq_true y)), if_neg z]
theorem c_ct (h : ∀ w, w < nW → K_w1 M σ nR w) : cnt (fun k => decide (M 33 k = nI 1)) nW = F_ct σ nW := by
  induction nW with
  | zero => rfl
  | succ n ih =>
    obtain ⟨⟨w0, w1, w2, w3, w4⟩, -⟩ := h n (by omega)
    rw [cnt, F_ct, ih (fun g hg => h g (by omega)), w3]
    by_cases z : M 33 n = nI 1
    · rw [if_pos (decide_eq_true z), if_pos z]
    · rw [if_neg (fun y => z (of_decide_eq_true y)), if_neg z]
theorem c_ca (h : ∀ a, a < nA → K_a1 M σ a) (x : Int32) : cnt (fun k => decide (M 37 k = x ∧ M 39 k = (-5 : Int32))) nA = F_ca σ x nA := by
  induction nA with
  | zero => rfl
  | succ n ih =>
    obtain ⟨w0, w1, w2, w3, w4⟩ := h n (by omega)
    rw [cnt, F_ca, ih (fun g hg => h g (by omega)), w1, w3]
    by_cases z : M 37 n = x ∧ M 39 n = (-5 : Int32)
    · rw [if_pos (decide_eq_true z), if_pos z]
    · rw [if_neg (fun y => z (of_decide_eq_true y)), if_neg z]
theorem c_co (h : ∀ a, a < nA → K_a1 M σ a) : cnt (fun k => decide (M 39 k = (-5 : Int32))) nA = F_co σ nA := by
  induction nA with
  | zero => rfl
  | succ n ih =>
    obtain ⟨w0, w1, w2, w3, w4⟩ := h n (by omega)
    rw [cnt, F_co, ih (fun g hg => h g (by omega)), w3]
    by_cases z : M 39 n = (-5 : Int32)
    · rw [if_pos (decide_eq_true z), if_pos z]
    · rw [if_neg (fun y => z (of_decide_eq_true y)), if_neg z]
theorem c_zr (h : ∀ r, r < nR → K_r1 M σ ur r) (x : Int32) : cnt (fun k => decide (M 2 k = x)) nR = F_zr σ x nR := by
  induction nR with
  | zero => rfl
  | succ n ih =>
    obtain ⟨⟨w0, -⟩, -⟩ := h n (by omega)
    rw [cnt, F_zr, ih (fun g hg => h g (by omega)), w0]
    by_cases z : M 2 n = x
    · rw [if_pos (decide_eq_true z), if_pos z]
    · rw [if_neg (fun y => z (of_decide_eq_true y)), if_neg z]
theorem c_hu (h : ∀ g, g < nG → K_g1 M σ nR us g) : F_hu M nG = F_ch σ nG := by
  induction nG with
  | zero => rfl
  | succ n ih => rw [F_hu, F_ch, ih (fun g hg => h g (by omega)), (h n (by omega)).2.2.1.1]
/-- one more guard -/
theorem F_zg_s (x : Int32) (n k : Nat) : F_zg σ x (n + 1) k = F_zg σ x n k + cnt (fun r => decide (σ (20 + 6 * r + 0) = x ∧ σ (192 + 10 * n + 0) = nI r)) k := by
  induction k with
  | zero => rfl
  | succ k ih =>
    rw [F_zg, F_zg, ih, cnt, F_gi]
    by_cases z : σ (20 + 6 * k + 0) = x
    · rw [if_pos z, if_pos z]
      by_cases y : σ (192 + 10 * n + 0) = nI k
      · rw [if_pos y, if_pos (decide_eq_true ⟨z, y⟩)]
        omega
      · rw [if_neg y, if_neg (fun q => y (of_decide_eq_true q).2)]
        omega
    · rw [if_neg z, if_neg z, if_neg (fun q => z (of_decide_eq_true q).1)]
      omega
theorem cnt_0 {p : Nat → Bool} {n : Nat} (h : ∀ k, k < n → ¬ p k = true) : cnt p n = 0 := by
  induction n with
  | zero => rfl
  | succ n ih => rw [cnt, ih (fun k hk => h k (by omega)), if_neg (h n (by omega))]
theorem cnt_1 {p : Nat → Bool} {n k0 : Nat} (hk : k0 < n) (h0 : p k0 = true) (h : ∀ k, k < n → k ≠ k0 → ¬ p k = true) : cnt p n = 1 := by
  induction n with
  | zero => omega
  | succ n ih =>
    rw [cnt]
    by_cases e : k0 = n
    · subst e
      rw [if_pos h0, cnt_0 (fun k hk2 => h k (by omega) (by omega))]
    · rw [if_neg (h n (by omega) (by omega)), ih (by omega) (fun k hk2 => h k (by omega))]
theorem c_zg (hR12 : nR ≤ 12) (hr : ∀ r, r < nR → K_r1 M σ ur r) (h : ∀ g, g < nG → K_g1 M σ nR us g) {z : Nat} (hz : z < 6) : cnt (fun k => decide (F_zo M nR (M 20 k) = nI z)) nG = F_zg σ (nI z) nG nR := by
  induction nG with
  | zero =>
    have e : ∀ k, F_zg σ (nI z) 0 k = 0 := by
      intro k
      induction k with
      | zero => rfl
      | succ k ih =>
        rw [F_zg, ih]
        split <;> rfl
    rw [e]
    rfl
  | succ n ih =>
    rw [cnt, F_zg_s, ih (fun g hg => h g (by omega))]
    congr 1
    have hg := h n (by omega)
    rcases hg.room with e | ⟨r, hr1, e⟩
    · rw [if_neg, cnt_0]
      · intro k hk y
        have := (of_decide_eq_true y).2
        rw [hg.at'.1, e] at this
        exact nI_ne5 (by omega) this.symm
      · intro y
        have := of_decide_eq_true y
        rw [e] at this
        unfold F_zo at this
        rw [if_neg (fun q => absurd q.1 (by decide))] at this
        exact nI_ne5 (by omega) this.symm
    · have e2 : F_zo M nR (M 20 n) = σ (20 + 6 * r + 0) := by
        unfold F_zo
        rw [e, if_pos ⟨nI_le (by omega) (by omega), nI_lt hr1 (by omega)⟩, nI_nat (by omega)]
        exact (hr r hr1).1.1.symm
      rw [e2]
      by_cases y : σ (20 + 6 * r + 0) = nI z
      · rw [if_pos (decide_eq_true y)]
        symm
        refine cnt_1 hr1 (decide_eq_true ⟨y, hg.at'.1.trans e⟩) (fun k hk hkr q => ?_)
        have := (of_decide_eq_true q).2
        rw [hg.at'.1, e] at this
        exact hkr ((nI_eq (by omega) (by omega)).mp this).symm
      · rw [if_neg (fun q => y (of_decide_eq_true q)), cnt_0]
        intro k hk q
        obtain ⟨q1, q2⟩ := of_decide_eq_true q
        rw [hg.at'.1, e] at q2
        have := (nI_eq (by omega) (by omega)).mp q2
        subst this
        exact y q1
/-- each key is with one guard, or in the cupboard -/
def F_hs2 (M : Nat → Nat → Int32) (n k : Nat) : Nat := match n with
  | 0 => 0
  | g + 1 => F_hs2 M g k + cnt (fun j => decide (M 18 j = nI g)) k
theorem F_hs2_s (M : Nat → Nat → Int32) (n k : Nat) : F_hs2 M n (k + 1) = F_hs2 M n k + cnt (fun g => decide (M 18 k = nI g)) n := by
  induction n with
  | zero => rfl
  | succ n ih =>
    rw [F_hs2, F_hs2, ih, cnt, cnt]
    omega
theorem F_hs2_k (hk : K_k M σ nG) (hG4 : nG ≤ 4) (k : Nat) (h8 : k ≤ 8) : F_hs2 M nG k + cnt (fun j => decide (M 18 j = (-5 : Int32))) k = k := by
  induction k with
  | zero =>
    have e : ∀ n, F_hs2 M n 0 = 0 := by
      intro n
      induction n with
      | zero => rfl
      | succ n ih => rw [F_hs2, ih]; rfl
    rw [e]
    rfl
  | succ k ih =>
    have ih := ih (by omega)
    rw [F_hs2_s, cnt]
    rcases (hk.1 k (by omega)).1 with e | ⟨g, hg, e⟩
    · rw [if_pos (decide_eq_true e), cnt_0]
      · omega
      · intro g hg z
        have := of_decide_eq_true z
        rw [e] at this
        exact nI_ne5 (by omega) this.symm
    · rw [if_neg, cnt_1 hg (decide_eq_true e)]
      · omega
      · intro g2 hg2 hne z
        have := of_decide_eq_true z
        rw [e] at this
        exact hne ((nI_eq (by omega) (by omega)).mp this).symm
      · intro z
        have := of_decide_eq_true z
        rw [e] at this
        exact nI_ne5 (by omega) this
theorem c_bits (hk : K_k M σ nG) {g : Nat} (hg : g < nG) : F_bits (σ (192 + 10 * g + 6)) 16 = nI (cnt (fun j => decide (M 18 j = nI g)) 8) := by
  obtain ⟨b, hb, hb2⟩ := hk.2.1 g hg
  rw [hb2, F_bits_c ⟨b, hb⟩]
  congr 1
  refine cnt_c (fun k hk8 => ?_)
  have q := (hk.1 k hk8).2 g hg
  rw [hb2] at q
  exact decide_eq_decide.mpr q
theorem c_ko0 (hk : K_k M σ nG) : ∀ n, n ≤ nG → F_ko σ n = nI (F_hs2 M n 8) := by
  intro n
  induction n with
  | zero => intro _; rfl
  | succ n ih =>
    intro hn
    rw [F_ko, ih (by omega), c_bits hk (by omega), F_hs2, nI_add]
theorem c_ko (hk : K_k M σ nG) (hG4 : nG ≤ 4) : nI 8 - F_bc (F_kb M (-5 : Int32) 8) = F_ko σ nG := by
  have q := F_hs2_k hk hG4 8 (Nat.le_refl 8)
  rw [F_bc_kb, c_ko0 hk nG (Nat.le_refl _)]
  rw [nI_sub (by omega) (by omega)]
  congr 1
  omega
theorem c_ho (hk : K_k M σ nG) (hG4 : nG ≤ 4) {k : Nat} (h8 : k < 8) : F_ho σ (nI k) nG = M 18 k := by
  obtain ⟨h1, h2⟩ := hk.1 k h8
  have key : ∀ n, n ≤ nG → F_ho σ (nI k) n = (if ∃ g, g < n ∧ M 18 k = nI g then M 18 k else -5) := by
    intro n
    induction n with
    | zero =>
      intro _
      rw [if_neg (fun ⟨g, hg, _⟩ => by omega)]
      rfl
    | succ n ih =>
      intro hn
      rw [F_ho]
      by_cases z : F_bit (σ (192 + 10 * n + 6)) (nI k)
      · have e := (h2 n (by omega)).mp z
        rw [if_pos z, if_pos ⟨n, by omega, e⟩, e]
      · rw [if_neg z, ih (by omega)]
        by_cases y : ∃ g, g < n ∧ M 18 k = nI g
        · obtain ⟨g, hg, e⟩ := y
          rw [if_pos ⟨g, hg, e⟩, if_pos ⟨g, by omega, e⟩]
        · rw [if_neg y, if_neg]
          rintro ⟨g, hg, e⟩
          by_cases hgn : g = n
          · subst hgn
            exact z ((h2 g (by omega)).mpr e)
          · exact y ⟨g, by omega, e⟩
  rw [key nG (Nat.le_refl _)]
  rcases h1 with e | ⟨g, hg, e⟩
  · split
    · rfl
    · exact e.symm
  · rw [if_pos ⟨g, hg, e⟩]
end CN
