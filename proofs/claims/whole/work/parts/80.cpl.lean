/-! Ways: the fewest minutes, found in rounds, by walks that come to no room twice. -/
def rx (g : Nat → Nat) (o p m : Nat) : Nat → Nat := fun x => if x = o then min (g o) (g p + m) else g x
def rdd (A B w : Nat → Nat) (ps : Nat → Bool) (g : Nat → Nat) : Nat → (Nat → Nat)
  | 0 => g
  | d + 1 => if ps d = true then rx (rx (rdd A B w ps g d) (A d) (B d) (w d)) (B d) (A d) (w d) else rdd A B w ps g d
def itd (A B w : Nat → Nat) (ps : Nat → Bool) (nD : Nat) (g : Nat → Nat) : Nat → (Nat → Nat)
  | 0 => g
  | k + 1 => rdd A B w ps (itd A B w ps nD g k) nD
def Ed (A B w : Nat → Nat) (ps : Nat → Bool) (nD : Nat) (y x m : Nat) : Prop := ∃ d, d < nD ∧ ps d = true ∧ w d = m ∧ ((A d = y ∧ B d = x) ∨ (B d = y ∧ A d = x))
def Sw (E : Nat → Nat → Nat → Prop) (s x L : Nat) : Prop := ∃ (v d : Nat → Nat) (k : Nat), v 0 = s ∧ d 0 = 0 ∧ (∀ i, i < k → ∃ m, E (v i) (v (i + 1)) m ∧ d (i + 1) = d i + m) ∧ (∀ i j, i ≤ k → j ≤ k → v i = v j → i = j) ∧ v k = x ∧ d k ≤ L ∧ ∀ i, i ≤ k → v i < 12
theorem php (n : Nat) : ∀ (m : Nat) (v : Nat → Nat), (∀ i, i < m → v i < n) → (∀ i j, i < m → j < m → v i = v j → i = j) → m ≤ n := by
  induction n with
  | zero =>
    intro m v h1 h2
    rcases Nat.eq_zero_or_pos m with e | e
    · omega
    · exact absurd (h1 0 e) (Nat.not_lt_zero _)
  | succ n ih =>
    intro m v h1 h2
    by_cases hx : ∃ i, i < m ∧ v i = n
    · obtain ⟨i0, hi0, e⟩ := hx
      have := ih (m - 1) (fun i => if i < i0 then v i else v (i + 1)) (fun i hi => by
        by_cases z : i < i0
        · simp only [if_pos z]
          have := h1 i (by omega)
          have : v i ≠ n := fun y => by have := h2 i i0 (by omega) hi0 (y.trans e.symm); omega
          omega
        · simp only [if_neg z]
          have := h1 (i + 1) (by omega)
          have : v (i + 1) ≠ n := fun y => by have := h2 (i + 1) i0 (by omega) hi0 (y.trans e.symm); omega
          omega) (fun i j hi hj q => by
        by_cases z : i < i0 <;> by_cases y : j < i0
        · simp only [if_pos z, if_pos y] at q
          exact h2 i j (by omega) (by omega) q
        · simp only [if_pos z, if_neg y] at q
          have := h2 i (j + 1) (by omega) (by omega) q
          omega
        · simp only [if_neg z, if_pos y] at q
          have := h2 (i + 1) j (by omega) (by omega) q
          omega
        · simp only [if_neg z, if_neg y] at q
          have := h2 (i + 1) (j + 1) (by omega) (by omega) q
          omega)
      omega
    · have := ih m v (fun i hi => by
        have := h1 i hi
        have : v i ≠ n := fun y => hx ⟨i, hi, y⟩
        omega) h2
      omega
theorem Sw.mono_d {E : Nat → Nat → Nat → Prop} {v d : Nat → Nat} {k : Nat} (h : ∀ i, i < k → ∃ m, E (v i) (v (i + 1)) m ∧ d (i + 1) = d i + m) {i j : Nat} (hij : i ≤ j) (hj : j ≤ k) : d i ≤ d j := by
  induction hij with
  | refl => exact Nat.le_refl _
  | @step j q ih =>
    have := ih (by omega)
    obtain ⟨m, -, e⟩ := h j (by omega)
    show d i ≤ d (j + 1)
    omega
theorem Sw.ext {E : Nat → Nat → Nat → Prop} {s y x L m : Nat} (h : Sw E s y L) (he : E y x m) (hx : x < 12) : Sw E s x (L + m) := by
  obtain ⟨v, d, k, h1, h2, h3, h4, h5, h6, h7⟩ := h
  by_cases z : ∃ i, i ≤ k ∧ v i = x
  · obtain ⟨i, hi, e⟩ := z
    have := Sw.mono_d h3 hi (Nat.le_refl k)
    exact ⟨v, d, i, h1, h2, fun j hj => h3 j (by omega), fun a b ha hb => h4 a b (by omega) (by omega), e, by omega, fun a ha => h7 a (by omega)⟩
  · refine ⟨fun i => if i ≤ k then v i else x, fun i => if i ≤ k then d i else d k + m, k + 1, ?_, ?_, fun i hi => ?_, fun a b ha hb q => ?_, ?_, ?_, fun a ha => ?_⟩
    · simp only [if_pos (Nat.zero_le k)]
      exact h1
    · simp only [if_pos (Nat.zero_le k)]
      exact h2
    · by_cases y2 : i < k
      · obtain ⟨m2, e1, e2⟩ := h3 i y2
        refine ⟨m2, ?_, ?_⟩
        · simp only [if_pos (show i ≤ k by omega), if_pos (show i + 1 ≤ k by omega)]
          exact e1
        · simp only [if_pos (show i ≤ k by omega), if_pos (show i + 1 ≤ k by omega)]
          exact e2
      · have : i = k := by omega
        subst this
        refine ⟨m, ?_, ?_⟩
        · simp only [if_pos (Nat.le_refl i), if_neg (show ¬ i + 1 ≤ i by omega)]
          rw [h5]
          exact he
        · simp only [if_pos (Nat.le_refl i), if_neg (show ¬ i + 1 ≤ i by omega)]
    · by_cases za : a ≤ k <;> by_cases zb : b ≤ k
      · simp only [if_pos za, if_pos zb] at q
        exact h4 a b za zb q
      · simp only [if_pos za, if_neg zb] at q
        exact absurd ⟨a, za, q⟩ z
      · simp only [if_neg za, if_pos zb] at q
        exact absurd ⟨b, zb, q.symm⟩ z
      · omega
    · simp only [if_neg (show ¬ k + 1 ≤ k by omega)]
    · simp only [if_neg (show ¬ k + 1 ≤ k by omega)]
      omega
    · by_cases za : a ≤ k
      · simp only [if_pos za]
        exact h7 a za
      · simp only [if_neg za]
        exact hx
theorem Sw.mono {E : Nat → Nat → Nat → Prop} {s x L L2 : Nat} (h : Sw E s x L) (hL : L ≤ L2) : Sw E s x L2 := by
  obtain ⟨v, d, k, h1, h2, h3, h4, h5, h6, h7⟩ := h
  exact ⟨v, d, k, h1, h2, h3, h4, h5, by omega, h7⟩
section RX
variable {A B w : Nat → Nat} {ps : Nat → Bool} {nD : Nat}
theorem rx_le (g : Nat → Nat) (o p m x : Nat) : rx g o p m x ≤ g x := by
  unfold rx
  by_cases e : x = o
  · rw [if_pos e, e]
    exact Nat.min_le_left _ _
  · rw [if_neg e]
    exact Nat.le_refl _
theorem rdd_le1 (g : Nat → Nat) (d x : Nat) : rdd A B w ps g (d + 1) x ≤ rdd A B w ps g d x := by
  rw [rdd]
  split
  · exact Nat.le_trans (rx_le _ _ _ _ _) (rx_le _ _ _ _ _)
  · exact Nat.le_refl _
theorem rdd_le (g : Nat → Nat) {d e : Nat} (h : d ≤ e) (x : Nat) : rdd A B w ps g e x ≤ rdd A B w ps g d x := by
  induction h with
  | refl => exact Nat.le_refl _
  | step q ih => exact Nat.le_trans (rdd_le1 g _ x) ih
theorem rdd_edge (g : Nat → Nat) {n d : Nat} (hd : d < n) (hp : ps d = true) : rdd A B w ps g n (B d) ≤ g (A d) + w d ∧ rdd A B w ps g n (A d) ≤ g (B d) + w d := by
  have h1 := fun x => rdd_le (A := A) (B := B) (w := w) (ps := ps) g (show d + 1 ≤ n by omega) x
  have h0 := fun x => rdd_le (A := A) (B := B) (w := w) (ps := ps) g (Nat.zero_le d) x
  have e : ∀ x, rdd A B w ps g (d + 1) x = rx (rx (rdd A B w ps g d) (A d) (B d) (w d)) (B d) (A d) (w d) x := fun x => by rw [rdd, if_pos hp]
  have hA : rx (rdd A B w ps g d) (A d) (B d) (w d) (A d) ≤ rdd A B w ps g d (B d) + w d := by
    unfold rx
    rw [if_pos rfl]
    exact Nat.min_le_right _ _
  have hA2 := rx_le (rdd A B w ps g d) (A d) (B d) (w d) (A d)
  have hB : rx (rx (rdd A B w ps g d) (A d) (B d) (w d)) (B d) (A d) (w d) (B d) ≤ rx (rdd A B w ps g d) (A d) (B d) (w d) (A d) + w d := by
    generalize rx (rdd A B w ps g d) (A d) (B d) (w d) = q
    unfold rx
    rw [if_pos rfl]
    exact Nat.min_le_right _ _
  have hA3 := rx_le (rx (rdd A B w ps g d) (A d) (B d) (w d)) (B d) (A d) (w d) (A d)
  have a1 := h1 (B d)
  have a2 := h1 (A d)
  have b1 := h0 (B d)
  have b2 := h0 (A d)
  rw [e] at a1 a2
  have c0 : ∀ x, rdd A B w ps g 0 x = g x := fun _ => rfl
  rw [c0] at b1 b2
  constructor <;> omega
def Low (E : Nat → Nat → Nat → Prop) (s a big : Nat) (g : Nat → Nat) : Prop := ∀ x, x < 12 → g x < big → ∃ L, g x = a + L ∧ Sw E s x L
theorem low_rx {E : Nat → Nat → Nat → Prop} {s a big o p m : Nat} {g : Nat → Nat} (h : Low E s a big g) (ho : o < 12) (hp : p < 12) (he : E p o m) : Low E s a big (rx g o p m) := by
  intro x hx hb
  unfold rx at hb ⊢
  by_cases e : x = o
  · rw [if_pos e] at hb ⊢
    subst e
    by_cases z : g p + m < g x
    · rw [Nat.min_eq_right (by omega)] at hb ⊢
      obtain ⟨L, h1, h2⟩ := h p hp (by omega)
      exact ⟨L + m, by omega, h2.ext he ho⟩
    · rw [Nat.min_eq_left (by omega)] at hb ⊢
      exact h x hx hb
  · rw [if_neg e] at hb ⊢
    exact h x hx hb
theorem low_rdd {s a big : Nat} {g : Nat → Nat} (h : Low (Ed A B w ps nD) s a big g) (hAB : ∀ d, d < nD → A d < 12 ∧ B d < 12) : ∀ n, n ≤ nD → Low (Ed A B w ps nD) s a big (rdd A B w ps g n) := by
  intro n
  induction n with
  | zero => exact fun _ => h
  | succ n ih =>
    intro hn
    have ih := ih (by omega)
    obtain ⟨h1, h2⟩ := hAB n (by omega)
    rw [rdd]
    by_cases z : ps n = true
    · rw [if_pos z]
      exact low_rx (low_rx ih h1 h2 ⟨n, by omega, z, rfl, Or.inr ⟨rfl, rfl⟩⟩) h2 h1 ⟨n, by omega, z, rfl, Or.inl ⟨rfl, rfl⟩⟩
    · rw [if_neg z]
      exact ih
theorem low_itd {s a big : Nat} {g : Nat → Nat} (h : Low (Ed A B w ps nD) s a big g) (hAB : ∀ d, d < nD → A d < 12 ∧ B d < 12) : ∀ k, Low (Ed A B w ps nD) s a big (itd A B w ps nD g k) := by
  intro k
  induction k with
  | zero => exact h
  | succ k ih => exact low_rdd ih hAB nD (Nat.le_refl _)
theorem itd_le (g : Nat → Nat) {i k : Nat} (h : i ≤ k) (x : Nat) : itd A B w ps nD g k x ≤ itd A B w ps nD g i x := by
  induction h with
  | refl => exact Nat.le_refl _
  | step q ih => exact Nat.le_trans (rdd_le _ (Nat.zero_le nD) x) ih
theorem itd_up {s x L a K : Nat} {g : Nat → Nat} (hg : g s = a) (h : Sw (Ed A B w ps nD) s x L) (hK : 11 ≤ K) (hw : ∀ d, d < nD → w d ≤ 9) : ∃ L1, L1 ≤ L ∧ L1 ≤ 99 ∧ itd A B w ps nD g K x ≤ a + L1 := by
  obtain ⟨v, d, k, h1, h2, h3, h4, h5, h6, h7⟩ := h
  have hk : k ≤ 11 := by
    have := php 12 (k + 1) v (fun i hi => h7 i (by omega)) (fun i j hi hj => h4 i j (by omega) (by omega))
    omega
  have key : ∀ i, i ≤ k → itd A B w ps nD g i (v i) ≤ a + d i ∧ d i ≤ 9 * i := by
    intro i
    induction i with
    | zero =>
      intro _
      rw [h1, h2]
      exact ⟨Nat.le_of_eq hg, Nat.le_refl 0⟩
    | succ i ih =>
      intro hi
      obtain ⟨i1, i2⟩ := ih (by omega)
      obtain ⟨m, ⟨e, e1, e2, e3, e4⟩, e5⟩ := h3 i (by omega)
      have hq := rdd_edge (A := A) (B := B) (w := w) (ps := ps) (itd A B w ps nD g i) e1 e2
      have hw9 := hw e e1
      rcases e4 with ⟨y1, y2⟩ | ⟨y1, y2⟩
      · rw [y1, y2, e3] at hq
        refine ⟨?_, by omega⟩
        have := hq.1
        show rdd A B w ps (itd A B w ps nD g i) nD (v (i + 1)) ≤ _
        omega
      · rw [y1, y2, e3] at hq
        refine ⟨?_, by omega⟩
        have := hq.2
        show rdd A B w ps (itd A B w ps nD g i) nD (v (i + 1)) ≤ _
        omega
  obtain ⟨k1, k2⟩ := key k (Nat.le_refl _)
  rw [h5] at k1
  have := itd_le (A := A) (B := B) (w := w) (ps := ps) (nD := nD) g (show k ≤ K by omega) x
  exact ⟨d k, h6, by omega, by omega⟩
theorem Ed_swap {y x m : Nat} : Ed B A w ps nD y x m ↔ Ed A B w ps nD y x m := by
  constructor
  · rintro ⟨d, h1, h2, h3, h4⟩
    exact ⟨d, h1, h2, h3, h4.symm⟩
  · rintro ⟨d, h1, h2, h3, h4⟩
    exact ⟨d, h1, h2, h3, h4.symm⟩
theorem Sw.swap {s x L : Nat} (h : Sw (Ed B A w ps nD) s x L) : Sw (Ed A B w ps nD) s x L := by
  obtain ⟨v, d, k, h1, h2, h3, h4⟩ := h
  refine ⟨v, d, k, h1, h2, fun i hi => ?_, h4⟩
  obtain ⟨m, e1, e2⟩ := h3 i hi
  exact ⟨m, Ed_swap.mp e1, e2⟩
def ini (s a big : Nat) : Nat → Nat := fun x => if x = s then a else big
theorem low_ini {E : Nat → Nat → Nat → Prop} {s a big : Nat} (hs : s < 12) : Low E s a big (ini s a big) := by
  intro x hx hb
  unfold ini at hb ⊢
  by_cases e : x = s
  · rw [if_pos e] at hb ⊢
    exact ⟨0, rfl, fun _ => s, fun _ => 0, 0, rfl, rfl, fun i hi => by omega, fun i j hi hj _ => by omega, e.symm, Nat.le_refl 0, fun _ _ => hs⟩
  · rw [if_neg e] at hb
    omega
/-- the class's rounds and the reference's tell the same -/
theorem way_nat {s a t : Nat} (hs : s < 12) (ha : a ≤ 9) (ht : t < 12) (hAB : ∀ d, d < nD → A d < 12 ∧ B d < 12) (hw : ∀ d, d < nD → w d ≤ 9) :
    (itd B A w ps nD (ini s 0 1000) 11 t < 1000 ∧ itd A B w ps nD (ini s a 10000) 12 t = a + itd B A w ps nD (ini s 0 1000) 11 t ∧ itd A B w ps nD (ini s a 10000) 12 t < 10000) ∨ (¬ itd B A w ps nD (ini s 0 1000) 11 t < 1000 ∧ ¬ itd A B w ps nD (ini s a 10000) 12 t < 10000) := by
  have hAB' : ∀ d, d < nD → B d < 12 ∧ A d < 12 := fun d hd => ⟨(hAB d hd).2, (hAB d hd).1⟩
  have gs : ∀ b big, ini s b big s = b := fun b big => if_pos rfl
  have lowC := low_itd (low_ini (E := Ed B A w ps nD) (a := 0) (big := 1000) hs) hAB' 11
  have lowR := low_itd (low_ini (E := Ed A B w ps nD) (a := a) (big := 10000) hs) hAB 12
  by_cases hc : itd B A w ps nD (ini s 0 1000) 11 t < 1000
  · left
    obtain ⟨L, c1, c2⟩ := lowC t ht hc
    obtain ⟨L1, d1, d2, d3⟩ := itd_up (g := ini s a 10000) (gs a 10000) c2.swap (show 11 ≤ 12 by omega) hw
    obtain ⟨L2, e1, e2⟩ := lowR t ht (by omega)
    obtain ⟨L3, f1, f2, f3⟩ := itd_up (A := B) (B := A) (g := ini s 0 1000) (gs 0 1000) e2.swap (show 11 ≤ 11 by omega) hw
    exact ⟨hc, by omega, by omega⟩
  · right
    refine ⟨hc, fun hr => hc ?_⟩
    obtain ⟨L2, e1, e2⟩ := lowR t ht hr
    obtain ⟨L3, f1, f2, f3⟩ := itd_up (A := B) (B := A) (g := ini s 0 1000) (gs 0 1000) e2.swap (show 11 ≤ 11 by omega) hw
    omega
end RX
