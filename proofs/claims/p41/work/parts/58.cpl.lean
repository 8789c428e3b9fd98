/-! The coupling of a museum's cells with the reference's row. -/
def K_n (M : Nat → Nat → Int32) (σ : Nat → Int32) (mi nR nD nG nW nA : Nat) : Prop := M 0 8 = nI mi ∧ M 0 9 = σ 1 ∧ M 1 6 = nI nR ∧ M 8 6 = nI nD ∧ M 19 9 = nI nG ∧ M 29 5 = nI nW ∧ M 35 5 = nI nA ∧ M 35 6 = σ 7
def K_z (M : Nat → Nat → Int32) (σ : Nat → Int32) : Prop := (∃ ob, ob < 64 ∧ M 15 1 = nI ob ∧ ∀ z, z < 6 → σ (8 + z) = nI (ob / 2 ^ z % 2)) ∧ (∀ z, z < 6 → ∃ e, e < 64 ∧ M 16 z = nI e ∧ σ (14 + z) = nI e) ∧ ∀ z o, z < 6 → o < 6 → (F_bit (σ (14 + z)) (nI o) ↔ F_bit (σ (14 + o)) (nI z))
def K_r1 (M : Nat → Nat → Int32) (σ : Nat → Int32) (ur r : Nat) : Prop := (σ (20 + 6 * r + 0) = M 2 r ∧ σ (20 + 6 * r + 1) = M 3 r ∧ σ (20 + 6 * r + 2) = M 4 r ∧ σ (20 + 6 * r + 3) = M 5 r ∧ σ (20 + 6 * r + 4) = M 6 r ∧ σ (20 + 6 * r + 5) = M 7 r) ∧ (r = 0 → σ (20 + 6 * r + 0) = -5 ∧ σ (20 + 6 * r + 1) = nI 0) ∧ (0 < r → ∃ z, z < 6 ∧ σ (20 + 6 * r + 0) = nI z) ∧ (∃ b, b ≤ 240 ∧ σ (20 + 6 * r + 1) = nI b) ∧ ∃ u, u ≤ ur ∧ σ (20 + 6 * r + 3) = nI u
def K_d1 (M : Nat → Nat → Int32) (σ : Nat → Int32) (nR d : Nat) : Prop := (∃ a b w, a < nR ∧ b < nR ∧ 1 ≤ w ∧ w ≤ 9 ∧ σ (92 + 5 * d + 0) = nI a ∧ M 9 d = nI a ∧ σ (92 + 5 * d + 1) = nI b ∧ M 10 d = nI b ∧ σ (92 + 5 * d + 2) = nI w ∧ M 11 d = nI w) ∧ ((σ (92 + 5 * d + 3) = -1 ∧ M 12 d = -5) ∨ ∃ k, k < 8 ∧ σ (92 + 5 * d + 3) = nI k ∧ M 12 d = nI k) ∧ σ (92 + 5 * d + 4) = M 13 d
def K_u (M : Nat → Nat → Int32) (nD : Nat) : Prop := ∀ d e, d < nD → e < nD → d ≠ e → ¬ ((M 9 d = M 9 e ∧ M 10 d = M 10 e) ∨ (M 9 d = M 10 e ∧ M 10 d = M 9 e))
def K_g1 (M : Nat → Nat → Int32) (σ : Nat → Int32) (nR us g : Nat) : Prop := (∃ m, m ≤ 12 ∧ σ (192 + 10 * g + 5) = nI m ∧ M 27 g = nI m) ∧ (∃ sn, sn ≤ us ∧ σ (192 + 10 * g + 9) = nI sn ∧ M 24 g = nI sn) ∧ (σ (192 + 10 * g + 7) = M 25 g ∧ σ (192 + 10 * g + 8) = M 26 g) ∧
  ((∃ r s, r < nR ∧ s ≤ 99 ∧ σ (192 + 10 * g + 0) = nI r ∧ M 20 g = nI r ∧ σ (192 + 10 * g + 1) = -5 ∧ M 21 g = -5 ∧ M 22 g = -5 ∧ σ (192 + 10 * g + 3) = nI s ∧ M 23 g = nI s) ∨
   ∃ t l s, t < nR ∧ 1 ≤ l ∧ l ≤ 9 ∧ s ≤ 99 ∧ σ (192 + 10 * g + 0) = -5 ∧ M 20 g = -5 ∧ σ (192 + 10 * g + 1) = nI t ∧ M 21 g = nI t ∧ σ (192 + 10 * g + 2) = nI l ∧ M 22 g = nI l ∧ σ (192 + 10 * g + 3) = nI 0 ∧ σ (192 + 10 * g + 4) = nI s ∧ M 23 g = nI s)
def K_o1 (M : Nat → Nat → Int32) (σ : Nat → Int32) (nR g : Nat) : Prop := ∀ m, m ≤ 12 → σ (192 + 10 * g + 5) = nI m → ∀ i, i < m → ∃ r s, r < nR ∧ s ≤ 99 ∧ σ (232 + 24 * g + 2 * i) = nI r ∧ σ (232 + 24 * g + 2 * i + 1) = nI s ∧ M 28 (g * 12 + i) = nI (100 * r + s)
def K_k (M : Nat → Nat → Int32) (σ : Nat → Int32) (nG : Nat) : Prop := (∀ k, k < 8 → (M 18 k = -5 ∨ ∃ g, g < nG ∧ M 18 k = nI g) ∧ ∀ g, g < nG → (F_bit (σ (192 + 10 * g + 6)) (nI k) ↔ M 18 k = nI g)) ∧ (∀ g, g < nG → ∃ b, b < 256 ∧ σ (192 + 10 * g + 6) = nI b) ∧ ∀ g, g < nG → cnt (fun k => decide (M 18 k = nI g)) 8 ≤ 3
def K_w1 (M : Nat → Nat → Int32) (σ : Nat → Int32) (nR w : Nat) : Prop := (σ (328 + 5 * w + 0) = M 30 w ∧ σ (328 + 5 * w + 1) = M 31 w ∧ σ (328 + 5 * w + 2) = M 32 w ∧ σ (328 + 5 * w + 3) = M 33 w ∧ σ (328 + 5 * w + 4) = M 34 w) ∧ (∃ k, k < 3 ∧ σ (328 + 5 * w + 0) = nI k) ∧ (∃ r, 0 < r ∧ r < nR ∧ σ (328 + 5 * w + 1) = nI r) ∧ ∃ s, s < 3 ∧ σ (328 + 5 * w + 3) = nI s
def K_a1 (M : Nat → Nat → Int32) (σ : Nat → Int32) (a : Nat) : Prop := σ (378 + 5 * a + 0) = M 36 a ∧ σ (378 + 5 * a + 1) = M 37 a ∧ σ (378 + 5 * a + 2) = M 38 a ∧ σ (378 + 5 * a + 3) = M 39 a ∧ σ (378 + 5 * a + 4) = M 40 a
def K_m (M : Nat → Nat → Int32) (σ : Nat → Int32) (wm : Nat) : Prop := ∀ m, m < wm → σ (578 + m) = M 42 m
def K_s (σ : Nat → Int32) (T : Nat → Int32) (c ns : Nat) : Prop := c = F_sy σ ns ∧ (∀ k, ns ≤ k → k < 2880 → ¬ 0 < σ (1298 + k)) ∧ ∀ k, k < ns → 0 < σ (1298 + k) → ∃ r s, r < 12 ∧ s < 1000 ∧ σ (1298 + k) = nI (1000 * r + s + 1) ∧ T (4 * F_sy σ k) = nI (k % 4) ∧ T (4 * F_sy σ k + 1) = nI r ∧ T (4 * F_sy σ k + 2) = nI s ∧ T (4 * F_sy σ k + 3) = nI (k / 4)
/-- a museum M with its c stays T is the state that the row σ tells; the last four numbers tell how far a minute has come -/
def Cp (M : Nat → Nat → Int32) (T : Nat → Int32) (c : Nat) (σ : Nat → Int32) (mi nR nD nG nW nA ur us ns wm : Nat) : Prop :=
  Cn σ mi nR nD nG nW nA ∧ K_n M σ mi nR nD nG nW nA ∧ K_z M σ ∧ (∀ r, r < nR → K_r1 M σ ur r) ∧ (∀ d, d < nD → K_d1 M σ nR d) ∧ K_u M nD ∧ (∀ g, g < nG → K_g1 M σ nR us g) ∧ (∀ g, g < nG → K_o1 M σ nR g) ∧ K_k M σ nG ∧ (∀ w, w < nW → K_w1 M σ nR w) ∧ (∀ a, a < nA → K_a1 M σ a) ∧ K_m M σ wm ∧ K_s σ T c ns
abbrev Cpl (M : Nat → Nat → Int32) (T : Nat → Int32) (c : Nat) (σ : Nat → Int32) (mi nR nD nG nW nA : Nat) : Prop := Cp M T c σ mi nR nD nG nW nA mi mi (4 * mi) mi
theorem cnt_cg {p q : Nat → Bool} {n : Nat} (h : ∀ k, k < n → p k = q k) : cnt p n = cnt q n := by
  induction n with
  | zero => rfl
  | succ n ih => rw [cnt, cnt, ih (fun k hk => h k (by omega)), h n (by omega)]
section CPL
variable {M M1 : Nat → Nat → Int32} {T T1 : Nat → Int32} {c c1 : Nat} {σ σ1 : Nat → Int32} {mi nR nD nG nW nA ur us ns wm : Nat}
theorem K_z.cg (h : K_z M σ) (e1 : M1 15 1 = M 15 1) (e2 : ∀ z, z < 6 → M1 16 z = M 16 z) (f : ∀ i, 8 ≤ i → i < 20 → σ1 i = σ i) : K_z M1 σ1 := by
  obtain ⟨⟨ob, h1, h2, h3⟩, h4, h5⟩ := h
  refine ⟨⟨ob, h1, e1.trans h2, fun z hz => ?_⟩, fun z hz => ?_, fun z o hz ho => ?_⟩
  · rw [f _ (by omega) (by omega)]
    exact h3 z hz
  · rw [f _ (by omega) (by omega), e2 z hz]
    exact h4 z hz
  · rw [f _ (by omega) (by omega), f _ (by omega) (by omega)]
    exact h5 z o hz ho
theorem K_r1.cg {r : Nat} (h : K_r1 M σ ur r) (e : ∀ o, 2 ≤ o → o ≤ 7 → M1 o r = M o r) (f : ∀ i, 20 + 6 * r ≤ i → i < 26 + 6 * r → σ1 i = σ i) : K_r1 M1 σ1 ur r := by
  unfold K_r1 at *
  simp (disch := omega) only [e, f]
  exact h
theorem K_d1.cg {d : Nat} (h : K_d1 M σ nR d) (e : ∀ o, 9 ≤ o → o ≤ 13 → M1 o d = M o d) (f : ∀ i, 92 + 5 * d ≤ i → i < 97 + 5 * d → σ1 i = σ i) : K_d1 M1 σ1 nR d := by
  unfold K_d1 at *
  simp (disch := omega) only [e, f]
  exact h
theorem K_u.cg (h : K_u M nD) (e : ∀ o i, 9 ≤ o → o ≤ 10 → i < nD → M1 o i = M o i) : K_u M1 nD := by
  intro d f hd hf
  have := h d f hd hf
  simp (disch := omega) only [e]
  exact this
theorem K_g1.cg {g : Nat} (h : K_g1 M σ nR us g) (e : ∀ o, 20 ≤ o → o ≤ 27 → M1 o g = M o g) (f : ∀ i, 192 + 10 * g ≤ i → i < 202 + 10 * g → i ≠ 192 + 10 * g + 6 → σ1 i = σ i) : K_g1 M1 σ1 nR us g := by
  unfold K_g1 at *
  simp (disch := omega) only [e, f]
  exact h
theorem K_g1.mono {g us2 : Nat} (h : K_g1 M σ nR us g) (hu : us ≤ us2) : K_g1 M σ nR us2 g := by
  obtain ⟨h1, ⟨sn, h2, h3⟩, h4⟩ := h
  exact ⟨h1, ⟨sn, by omega, h3⟩, h4⟩
theorem K_r1.mono {r ur2 : Nat} (h : K_r1 M σ ur r) (hu : ur ≤ ur2) : K_r1 M σ ur2 r := by
  obtain ⟨h1, h2, h3, h4, u, h5, h6⟩ := h
  exact ⟨h1, h2, h3, h4, u, by omega, h6⟩
theorem K_o1.cg {g : Nat} (h : K_o1 M σ nR g) (e : ∀ i, g * 12 ≤ i → i < g * 12 + 12 → M1 28 i = M 28 i) (f : ∀ i, 232 + 24 * g ≤ i → i < 256 + 24 * g → σ1 i = σ i) (f5 : σ1 (192 + 10 * g + 5) = σ (192 + 10 * g + 5)) : K_o1 M1 σ1 nR g := by
  intro m hm h5 i hi
  have := h m hm (f5.symm.trans h5) i hi
  simp (disch := omega) only [e, f]
  exact this
theorem K_k.cg (h : K_k M σ nG) (e : ∀ k, k < 8 → M1 18 k = M 18 k) (f : ∀ g, g < nG → σ1 (192 + 10 * g + 6) = σ (192 + 10 * g + 6)) : K_k M1 σ1 nG := by
  refine ⟨fun k hk => ?_, fun g hg => ?_, fun g hg => ?_⟩
  · obtain ⟨h1, h2⟩ := h.1 k hk
    rw [e k hk]
    exact ⟨h1, fun g hg => by rw [f g hg]; exact h2 g hg⟩
  · rw [f g hg]
    exact h.2.1 g hg
  · rw [cnt_cg (q := fun k => decide (M 18 k = nI g)) (fun k hk => by rw [e k hk])]
    exact h.2.2 g hg
theorem K_w1.cg {w : Nat} (h : K_w1 M σ nR w) (e : ∀ o, 30 ≤ o → o ≤ 34 → M1 o w = M o w) (f : ∀ i, 328 + 5 * w ≤ i → i < 333 + 5 * w → σ1 i = σ i) : K_w1 M1 σ1 nR w := by
  unfold K_w1 at *
  simp (disch := omega) only [e, f]
  exact h
theorem K_a1.cg {a : Nat} (h : K_a1 M σ a) (e : ∀ o, 36 ≤ o → o ≤ 40 → M1 o a = M o a) (f : ∀ i, 378 + 5 * a ≤ i → i < 383 + 5 * a → σ1 i = σ i) : K_a1 M1 σ1 a := by
  unfold K_a1 at *
  simp (disch := omega) only [e, f]
  exact h
theorem K_m.cg (h : K_m M σ wm) (e : ∀ m, m < wm → M1 42 m = M 42 m) (f : ∀ m, m < wm → σ1 (578 + m) = σ (578 + m)) : K_m M1 σ1 wm := fun m hm => by rw [e m hm, f m hm]; exact h m hm
theorem F_sy_cg {k : Nat} (f : ∀ i, i < k → σ1 (1298 + i) = σ (1298 + i)) : F_sy σ1 k = F_sy σ k := by
  induction k with
  | zero => rfl
  | succ k ih => rw [F_sy, F_sy, ih (fun i hi => f i (by omega)), f k (by omega)]
theorem F_sy_le (σ : Nat → Int32) (k : Nat) : F_sy σ k ≤ k := by
  induction k with
  | zero => exact Nat.le_refl 0
  | succ k ih =>
    rw [F_sy]
    split <;> omega
theorem F_sy_mono (σ : Nat → Int32) {k n : Nat} (h : k ≤ n) : F_sy σ k ≤ F_sy σ n := by
  induction h with
  | refl => exact Nat.le_refl _
  | step h ih =>
    rw [F_sy]
    omega
theorem K_s.cg (h : K_s σ T c ns) (f : ∀ i, i < 2880 → σ1 (1298 + i) = σ (1298 + i)) (hn : ns ≤ 2880) : K_s σ1 T c ns := by
  obtain ⟨h1, h2, h3⟩ := h
  refine ⟨h1.trans (F_sy_cg (fun i hi => f i (by omega))).symm, fun k h4 h5 => ?_, fun k h4 h5 => ?_⟩
  · rw [f k h5]
    exact h2 k h4 h5
  · rw [f k (by omega)] at h5 ⊢
    rw [F_sy_cg (fun i hi => f i (by omega))]
    exact h3 k h4 h5
theorem K_s.ext (h : K_s σ T c ns) (hn : ns < 2880) : K_s σ T c (ns + 1) := by
  obtain ⟨h1, h2, h3⟩ := h
  refine ⟨?_, fun k h4 h5 => h2 k (by omega) h5, fun k h4 h5 => ?_⟩
  · rw [F_sy, if_neg (h2 ns (Nat.le_refl _) hn)]
    exact h1
  · by_cases hk : k = ns
    · subst hk
      exact absurd h5 (h2 k (Nat.le_refl _) hn)
    · exact h3 k (by omega) h5
theorem K_s.ext2 (h : K_s σ T c ns) {n2 : Nat} (hn : ns ≤ n2) (hn2 : n2 ≤ 2880) : K_s σ T c n2 := by
  induction hn with
  | refl => exact h
  | step q ih => exact (ih (by omega)).ext (by omega)
/-- one more stay -/
theorem K_s.add (h : K_s σ T c ns) (hn : ns < 2880) {r s : Nat} (hr : r < 12) (hs : s < 1000) (f : ∀ i, i < 2880 → i ≠ ns → σ1 (1298 + i) = σ (1298 + i)) (f2 : σ1 (1298 + ns) = nI (1000 * r + s + 1)) : K_s σ1 (F_st T c (nI (ns % 4)) (nI r) (nI s) (nI (ns / 4))) (c + 1) (ns + 1) := by
  obtain ⟨h1, h2, h3⟩ := h
  have e : ∀ k, k ≤ ns → F_sy σ1 k = F_sy σ k := fun k hk => F_sy_cg (fun i hi => f i (by omega) (by omega))
  have hp : 0 < σ1 (1298 + ns) := by
    rw [f2]
    exact nI_lt (a := 0) (by omega) (by omega)
  refine ⟨?_, fun k h4 h5 => ?_, fun k h4 h5 => ?_⟩
  · rw [F_sy, if_pos hp, e ns (Nat.le_refl _), h1]
  · rw [f k h5 (by omega)]
    exact h2 k (by omega) h5
  · rw [e k (by omega)]
    by_cases hk : k = ns
    · subst hk
      refine ⟨r, s, hr, hs, f2, ?_⟩
      rw [← h1]
      unfold F_st upd
      refine ⟨?_, ?_, ?_, ?_⟩
      · rw [if_neg (by omega), if_neg (by omega), if_neg (by omega), if_pos rfl]
      · rw [if_neg (by omega), if_neg (by omega), if_pos rfl]
      · rw [if_neg (by omega), if_pos rfl]
      · rw [if_pos rfl]
    · rw [f k (by omega) hk] at h5 ⊢
      obtain ⟨r2, s2, q1, q2, q3, q4, q5, q6, q7⟩ := h3 k (by omega) h5
      have hlt : F_sy σ k < c := by
        have q := F_sy_mono σ (show k + 1 ≤ ns by omega)
        rw [F_sy, if_pos h5] at q
        omega
      refine ⟨r2, s2, q1, q2, q3, ?_⟩
      unfold F_st upd
      refine ⟨?_, ?_, ?_, ?_⟩ <;> rw [if_neg (by omega), if_neg (by omega), if_neg (by omega), if_neg (by omega)] <;> assumption
/-- one guard changes -/
theorem Cp.g {g ns1 : Nat} (h : Cp M T c σ mi nR nD nG nW nA ur us ns wm) (hd' : ∀ d, d < nD → K_d1 M1 σ1 nR d) (hu' : ∀ o i, 9 ≤ o → o ≤ 10 → i < nD → M1 o i = M o i) (hg' : K_g1 M1 σ1 nR us g) (ho' : K_o1 M1 σ1 nR g) (hs' : K_s σ1 T1 c1 ns1)
    (e : ∀ o i, o < 9 ∨ (13 < o ∧ o < 20) ∨ (20 ≤ o ∧ o ≤ 27 ∧ i ≠ g) ∨ (o = 28 ∧ (i < g * 12 ∨ g * 12 + 12 ≤ i)) ∨ (28 < o ∧ o ≠ 41) → M1 o i = M o i)
    (f : ∀ i, i < 92 ∨ (192 ≤ i ∧ i < 232 ∧ (i < 192 + 10 * g ∨ 202 + 10 * g ≤ i ∨ i = 192 + 10 * g + 6)) ∨ (232 ≤ i ∧ i < 328 ∧ (i < 232 + 24 * g ∨ 256 + 24 * g ≤ i)) ∨ (328 ≤ i ∧ i < 1298) → σ1 i = σ i) (hw : wm ≤ 720) : Cp M1 T1 c1 σ1 mi nR nD nG nW nA ur us ns1 wm := by
  obtain ⟨q1, q2, q3, q4, q5, q6, q7, q8, q9, q10, q11, q12, q13⟩ := h
  have hq := q1
  obtain ⟨⟨k0, k0'⟩, ⟨k2, k2', k2''⟩, ⟨k3, k3'⟩, ⟨k4, k4'⟩, ⟨k5, k5'⟩, k6, k6'⟩ := hq
  refine ⟨?_, ?_, q3.cg (e _ _ (by omega)) (fun z hz => e _ _ (by omega)) (fun i h1 h2 => f _ (by omega)), fun r hr => (q4 r hr).cg (fun o h1 h2 => e _ _ (by omega)) (fun i h1 h2 => f _ (by omega)), hd', q6.cg hu', fun k hk => ?_, fun k hk => ?_, ?_, fun w hw => (q10 w hw).cg (fun o h1 h2 => e _ _ (by omega)) (fun i h1 h2 => f _ (by omega)), fun a ha => (q11 a ha).cg (fun o h1 h2 => e _ _ (by omega)) (fun i h1 h2 => f _ (by omega)), q12.cg (fun m hm => e _ _ (by omega)) (fun m hm => f _ (by omega)), hs'⟩
  · unfold Cn
    simp (disch := omega) only [f]
    exact q1
  · unfold K_n at *
    simp (disch := omega) only [e, f]
    exact q2
  · by_cases hkg : k = g
    · subst hkg
      exact hg'
    · exact (q7 k hk).cg (fun o h1 h2 => e _ _ (by omega)) (fun i h1 h2 h3 => f _ (by omega))
  · by_cases hkg : k = g
    · subst hkg
      exact ho'
    · exact (q8 k hk).cg (fun i h1 h2 => e _ _ (by omega)) (fun i h1 h2 => f _ (by omega)) (f _ (by omega))
  · exact q9.cg (fun k hk => e _ _ (by omega)) (fun k hk => f _ (by omega))
end CPL
