/-! The coupling: ways. -/
abbrev D_A (σ : Nat → Int32) (d : Nat) : Nat := (σ (92 + 5 * d + 0)).toNatClampNeg
abbrev D_B (σ : Nat → Int32) (d : Nat) : Nat := (σ (92 + 5 * d + 1)).toNatClampNeg
abbrev D_w (σ : Nat → Int32) (d : Nat) : Nat := (σ (92 + 5 * d + 2)).toNatClampNeg
def D_p (σ : Nat → Int32) (g d : Nat) : Bool := decide (F_may σ g d)
theorem D_p_t {σ : Nat → Int32} {g d : Nat} (h : F_may σ g d) : D_p σ g d = true := decide_eq_true h
theorem D_p_f {σ : Nat → Int32} {g d : Nat} (h : ¬ F_may σ g d) : ¬ D_p σ g d = true := fun y => h (of_decide_eq_true y)
theorem min_if {a b : Nat} (ha : a < 2 ^ 31) (hb : b < 2 ^ 31) : (if nI b < nI a then nI b else nI a) = nI (min a b) := by
  by_cases z : b < a
  · rw [if_pos (nI_lt z ha), Nat.min_eq_right (by omega)]
  · rw [if_neg (fun y => z ((nI_ltI hb ha).mp y)), Nat.min_eq_left (by omega)]
section WY
variable {M : Nat → Nat → Int32} {σ : Nat → Int32} {nR nD nG g : Nat}
theorem K_dn (hd : ∀ d, d < nD → K_d1 M σ nR d) (hR : nR ≤ 12) {d : Nat} (h : d < nD) : D_A σ d < 12 ∧ D_B σ d < 12 ∧ D_w σ d ≤ 9 ∧ (M 9 d).toNatClampNeg = D_A σ d ∧ (M 10 d).toNatClampNeg = D_B σ d ∧ M 11 d = nI (D_w σ d) ∧ σ (92 + 5 * d + 2) = nI (D_w σ d) := by
  obtain ⟨⟨a, b, w, h1, h2, h3, h4, h5, h6, h7, h8, h9, h10⟩, -⟩ := hd d h
  simp only [D_A, D_B, D_w]
  rw [h5, h7, h9, h6, h8, h10, nI_nat (by omega), nI_nat (by omega), nI_nat (by omega)]
  exact ⟨by omega, by omega, by omega, rfl, rfl, rfl, rfl⟩
theorem wa_link {f : Nat → Int32} {q : Nat → Nat} {o p m : Nat} (h : ∀ x, x < 12 → f x = nI (q x) ∧ q x ≤ 10000) (ho : o < 12) (hp : p < 12) (hm : m ≤ 10000) : ∀ x, x < 12 → F_wa f o p (nI m) x = nI (rx q o p m x) ∧ rx q o p m x ≤ 10000 := by
  intro x hx
  have h1 := rx_le q o p m x
  have h2 := h x hx
  refine ⟨?_, by omega⟩
  unfold F_wa rx
  by_cases e : x = o
  · subst e
    have h3 := h p hp
    rw [upd_eq, if_pos rfl, h2.1, h3.1, nI_add]
    exact min_if (by omega) (by omega)
  · rw [upd_ne e, if_neg e]
    exact h2.1
theorem wd_link {f : Nat → Int32} {q : Nat → Nat} (hd : ∀ d, d < nD → K_d1 M σ nR d) (hR : nR ≤ 12) (h : ∀ x, x < 12 → f x = nI (q x) ∧ q x ≤ 10000) : ∀ n, n ≤ nD → ∀ x, x < 12 → F_wd σ g f n x = nI (rdd (D_A σ) (D_B σ) (D_w σ) (D_p σ g) q n x) ∧ rdd (D_A σ) (D_B σ) (D_w σ) (D_p σ g) q n x ≤ 10000 := by
  intro n
  induction n with
  | zero => exact fun _ => h
  | succ n ih =>
    intro hn
    have ih := ih (by omega)
    obtain ⟨k1, k2, k3, k4, k5, k6, k7⟩ := K_dn hd hR (show n < nD by omega)
    intro x hx
    rw [F_wd, rdd]
    by_cases z : F_may σ g n
    · rw [if_pos (D_p_t z), F_mn, if_pos z, k7]
      exact wa_link (wa_link ih k1 k2 (by omega)) k2 k1 (by omega) x hx
    · rw [if_neg (D_p_f z), F_mn, if_neg z]
      have a1 := wa_link ih k1 k2 (m := 10000) (by omega)
      have a2 := wa_link a1 k2 k1 (m := 10000) (by omega) x hx
      refine ⟨a2.1.trans (congrArg nI ?_), (ih x hx).2⟩
      have r1 : ∀ y, y < 12 → rx (rdd (D_A σ) (D_B σ) (D_w σ) (D_p σ g) q n) (D_A σ n) (D_B σ n) 10000 y = rdd (D_A σ) (D_B σ) (D_w σ) (D_p σ g) q n y := fun y hy => by
        unfold rx
        split
        next e =>
          have := (ih y hy).2
          rw [e] at this ⊢
          exact Nat.min_eq_left (by omega)
        next => rfl
      have r2 : ∀ (q2 : Nat → Nat), (∀ y, y < 12 → q2 y ≤ 10000) → ∀ o p y, o < 12 → rx q2 o p 10000 y = q2 y := fun q2 hq o p y ho => by
        unfold rx
        split
        next e =>
          rw [e]
          exact Nat.min_eq_left (by have := hq o ho; omega)
        next => rfl
      rw [r2 _ (fun y hy => (a1 y hy).2) _ _ _ k2]
      exact r1 x hx
theorem ww_link {f : Nat → Int32} {q : Nat → Nat} (hd : ∀ d, d < nD → K_d1 M σ nR d) (hR : nR ≤ 12) (h : ∀ x, x < 12 → f x = nI (q x) ∧ q x ≤ 10000) : ∀ k, ∀ x, x < 12 → F_ww σ g nD f k x = nI (itd (D_A σ) (D_B σ) (D_w σ) (D_p σ g) nD q k x) ∧ itd (D_A σ) (D_B σ) (D_w σ) (D_p σ g) nD q k x ≤ 10000 := by
  intro k
  induction k with
  | zero => exact h
  | succ k ih => exact wd_link hd hR ih nD (Nat.le_refl _)
theorem sr_link {P : Nat → Nat → Int32} {q : Nat → Nat} {o p m : Nat} (h : ∀ x, x < 12 → P 14 x = nI (q x) ∧ q x ≤ 1000) (ho : o < 12) (hp : p < 12) (hm : m ≤ 9) : ∀ x, x < 12 → F_sr P o (P 14 p + nI m) 14 x = nI (rx q o p m x) ∧ rx q o p m x ≤ 1000 := by
  intro x hx
  have h1 := rx_le q o p m x
  have h2 := h x hx
  have h3 := h p hp
  have h4 := h o ho
  refine ⟨?_, by omega⟩
  have e0 := min_if (a := q o) (b := q p + m) (by omega) (by omega)
  rw [h3.1, nI_add]
  unfold F_sr rx
  rw [h4.1]
  by_cases z : nI (q p + m) < nI (q o)
  · rw [if_pos z] at e0 ⊢
    by_cases e : x = o
    · subst e
      rw [updM_same, if_pos rfl]
      exact e0
    · rw [updM_diff (by omega), if_neg e]
      exact h2.1
  · rw [if_neg z] at e0 ⊢
    by_cases e : x = o
    · subst e
      rw [if_pos rfl, h2.1]
      exact e0
    · rw [if_neg e]
      exact h2.1
theorem rd_link {P : Nat → Nat → Int32} {q : Nat → Nat} (hd : ∀ d, d < nD → K_d1 M σ nR d) (hk : K_k M σ nG) (hg : g < nG) (hR : nR ≤ 12) (eP : ∀ o i, o ≠ 14 → P o i = M o i) (h : ∀ x, x < 12 → P 14 x = nI (q x) ∧ q x ≤ 1000) : ∀ n, n ≤ nD → ∀ x, x < 12 → F_rd P (F_kb M (nI g) 8) n 14 x = nI (rdd (D_B σ) (D_A σ) (D_w σ) (D_p σ g) q n x) ∧ rdd (D_B σ) (D_A σ) (D_w σ) (D_p σ g) q n x ≤ 1000 := by
  intro n
  induction n with
  | zero => exact fun _ => h
  | succ n ih =>
    intro hn
    have ih := ih (by omega)
    obtain ⟨k1, k2, k3, k4, k5, k6, k7⟩ := K_dn hd hR (show n < nD by omega)
    have km := K_may hd hk hg (show n < nD by omega)
    intro x hx
    rw [F_rd, rdd, eP 12 n (by omega), eP 9 n (by omega), eP 10 n (by omega), eP 11 n (by omega), k4, k5, k6]
    by_cases z : F_may σ g n
    · rw [if_pos (km.mpr z), if_pos (D_p_t z), F_rl]
      exact sr_link (sr_link ih k2 k1 k3) k1 k2 k3 x hx
    · rw [if_neg (fun y => z (km.mp y)), if_neg (D_p_f z)]
      exact ih x hx
theorem rr_link {P : Nat → Nat → Int32} {q : Nat → Nat} (hd : ∀ d, d < nD → K_d1 M σ nR d) (hk : K_k M σ nG) (hg : g < nG) (hR : nR ≤ 12) (eP : ∀ o i, o ≠ 14 → P o i = M o i) (h : ∀ x, x < 12 → P 14 x = nI (q x) ∧ q x ≤ 1000) : ∀ k, ∀ x, x < 12 → F_rr P (F_kb M (nI g) 8) nD k 14 x = nI (itd (D_B σ) (D_A σ) (D_w σ) (D_p σ g) nD q k x) ∧ itd (D_B σ) (D_A σ) (D_w σ) (D_p σ g) nD q k x ≤ 1000 := by
  intro k
  induction k with
  | zero => exact h
  | succ k ih => exact rd_link hd hk hg hR (fun o i ho => (F_rr_o ho).trans (eP o i ho)) ih nD (Nat.le_refl _)
/-- the class's answer, from a room on, with the minutes ahead -/
theorem way_eq {f : Nat → Int32} {s a t : Nat} (hd : ∀ d, d < nD → K_d1 M σ nR d) (hk : K_k M σ nG) (hg : g < nG) (hR : nR ≤ 12) (hs : s < 12) (ha : a ≤ 9) (ht : t < 12) : F_mt (nI a) (if F_fm M s (F_kb M (nI g) 8) nD 14 t < nI 1000 then F_fm M s (F_kb M (nI g) 8) nD 14 t else (-5 : Int32)) = F_way (F_ww σ g nD (upd (F_fill f 12) s (nI a)) 12) t := by
  have c := rr_link (P := F_sr (stM M 14 (F_fl (M 14) (nI 1000) 12)) s (nI 0)) (q := ini s 0 1000) hd hk hg hR (fun o i ho => F_fm_i ho) (fun x hx => by
    have e : ∀ y, y < 12 → stM M 14 (F_fl (M 14) (nI 1000) 12) 14 y = nI 1000 := fun y hy => if_pos hy
    unfold F_sr ini
    rw [e s hs, if_pos (nI_lt (a := 0) (by omega) (by omega))]
    by_cases z : x = s
    · subst z
      rw [updM_same, if_pos rfl]
      exact ⟨rfl, by omega⟩
    · rw [updM_diff (by omega), if_neg z]
      exact ⟨e x hx, Nat.le_refl _⟩) 11 t ht
  have r := ww_link (g := g) (f := upd (F_fill f 12) s (nI a)) (q := ini s a 10000) hd hR (fun x hx => by
    unfold ini
    by_cases z : x = s
    · subst z
      rw [upd_eq, if_pos rfl]
      exact ⟨rfl, by omega⟩
    · rw [upd_ne z, if_neg z]
      exact ⟨if_pos hx, Nat.le_refl _⟩) 12 t ht
  have w := way_nat (A := D_A σ) (B := D_B σ) (w := D_w σ) (ps := D_p σ g) (nD := nD) hs ha ht (fun d h => ⟨(K_dn hd hR h).1, (K_dn hd hR h).2.1⟩) (fun d h => (K_dn hd hR h).2.2.1)
  have cf : F_fm M s (F_kb M (nI g) 8) nD 14 t = nI (itd (D_B σ) (D_A σ) (D_w σ) (D_p σ g) nD (ini s 0 1000) 11 t) := c.1
  unfold F_way
  rw [cf, r.1]
  rcases w with ⟨w1, w2, w3⟩ | ⟨w1, w2⟩
  · rw [if_pos (nI_lt w1 (by omega)), if_pos (nI_lt w3 (by omega)), F_mt, if_neg (nI_ne5 (by omega)), nI_add, w2]
  · rw [if_neg (fun z => w1 ((nI_ltI (by omega) (by omega)).mp z)), if_neg (fun z => w2 ((nI_ltI (by omega) (by omega)).mp z)), F_mt, if_pos rfl]
theorem F_fm_o {M : Nat → Nat → Int32} {s n o i : Nat} {x : Int32} (h : o ≠ 14) : F_fm M s x n o i = M o i := by
  unfold F_fm
  rw [F_rr_o h, F_fm_i h]
theorem live_14 {nR nD nG nW nA mi o i : Nat} (h : Live nR nD nG nW nA mi o i) : o ≠ 14 := by
  unfold Live at h
  simp only [false_or] at h
  omega
end WY
