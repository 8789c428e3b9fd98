theorem d36_0 : decode (m_code 36) 0 = .ok (.iload_n 0, 1) := by decide +kernel
theorem d36_1 : decode (m_code 36) 1 = .ok (.iconst (-1), 1) := by decide +kernel
theorem d36_2 : decode (m_code 36) 2 = .ok (.if_icmp .eq 10, 3) := by decide +kernel
theorem d36_5 : decode (m_code 36) 5 = .ok (.iload_n 0, 1) := by decide +kernel
theorem d36_6 : decode (m_code 36) 6 = .ok (.invokestatic 145, 3) := by decide +kernel
theorem d36_9 : decode (m_code 36) 9 = .ok (.ifCond .eq 7, 3) := by decide +kernel
theorem d36_12 : decode (m_code 36) 12 = .ok (.iconst 1, 1) := by decide +kernel
theorem d36_13 : decode (m_code 36) 13 = .ok (.goto 4, 3) := by decide +kernel
theorem d36_16 : decode (m_code 36) 16 = .ok (.iconst 0, 1) := by decide +kernel
theorem d36_17 : decode (m_code 36) 17 = .ok (.ireturn, 1) := by decide +kernel
theorem d83_0 : decode (m_code 83) 0 = .ok (.iload_n 1, 1) := by decide +kernel
theorem d83_1 : decode (m_code 83) 1 = .ok (.ifCond .eq 21, 3) := by decide +kernel
theorem d83_4 : decode (m_code 83) 4 = .ok (.aload_n 0, 1) := by decide +kernel
theorem d83_5 : decode (m_code 83) 5 = .ok (.getfield 10, 3) := by decide +kernel
theorem d83_8 : decode (m_code 83) 8 = .ok (.getfield 50, 3) := by decide +kernel
theorem d83_11 : decode (m_code 83) 11 = .ok (.iload_n 1, 1) := by decide +kernel
theorem d83_12 : decode (m_code 83) 12 = .ok (.invokevirtual 68, 3) := by decide +kernel
theorem d83_15 : decode (m_code 83) 15 = .ok (.ifCond .eq 7, 3) := by decide +kernel
theorem d83_18 : decode (m_code 83) 18 = .ok (.iconst 1, 1) := by decide +kernel
theorem d83_19 : decode (m_code 83) 19 = .ok (.goto 4, 3) := by decide +kernel
theorem d83_22 : decode (m_code 83) 22 = .ok (.iconst 0, 1) := by decide +kernel
theorem d83_23 : decode (m_code 83) 23 = .ok (.ireturn, 1) := by decide +kernel
theorem nI_e0 {a : Nat} (h : a < 2 ^ 31) : nI a = 0 ↔ a = 0 := nI_eq (b := 0) h (by decide)
theorem nI_ofle {x : Int32} {n : Nat} (hn : n + 1 < 2 ^ 31) (h : nI 0 ≤ x ∧ x ≤ nI n) : ∃ r, r ≤ n ∧ x = nI r := by
  obtain ⟨r, h1, h2⟩ := nI_ofr (n := n + 1) hn ⟨h.1, (nI_lt_le hn).mpr h.2⟩
  exact ⟨r, by omega, h2⟩
theorem t_between {X : mX} {h : mH} {B st : Nat} {M : Nat → Nat → Int32} (hM : Mus h B st M) {nD nR : Nat} {σ : Nat → Int32} (kD : M 8 6 = nI nD) (kD2 : nD ≤ 20) (hd : ∀ d, d < nD → K_d1 M σ nR d) (hu : K_u M nD) (x y : Int32) : Tells X 38 [.ref (B + 8), .int (x), .int (y)] h (F_db σ x y nD) := by
  rcases F_db_cases σ x y nD with e | ⟨d, hdn, e⟩
  · rw [e]
    exact u_between_no hM kD kD2 (K_fno hd kD2 e)
  · obtain ⟨h1, h2, h3⟩ := K_fsome hd hu kD2 (by omega) e
    rw [e]
    exact u_between hM kD kD2 h1 h2 h3
/-- whether one of the first k guards is in a zone or walks to it -/
def zuse (M : Nat → Nat → Int32) (nR : Nat) (x : Int32) : Nat → Bool
  | 0 => false
  | g + 1 => zuse M nR x g || decide (F_zo M nR (M 20 g) = x ∨ F_zo M nR (M 21 g) = x)
theorem zuse_iff {M : Nat → Nat → Int32} {nR : Nat} {x : Int32} {n : Nat} : zuse M nR x n = true ↔ ∃ g, g < n ∧ (F_zo M nR (M 20 g) = x ∨ F_zo M nR (M 21 g) = x) := by
  induction n with
  | zero => exact ⟨fun z => absurd z (by unfold zuse; decide), fun ⟨g, hg, _⟩ => by omega⟩
  | succ n ih =>
    rw [zuse, Bool.or_eq_true, ih, decide_eq_true_iff]
    constructor
    · rintro (⟨g, hg, z⟩ | z)
      · exact ⟨g, by omega, z⟩
      · exact ⟨n, by omega, z⟩
    · rintro ⟨g, hg, z⟩
      by_cases e : g = n
      · subst e
        exact Or.inr z
      · exact Or.inl ⟨g, by omega, z⟩
theorem t_zin {X : mX} {h : mH} {B st : Nat} {M : Nat → Nat → Int32} (hM : Mus h B st M) {n nR : Nat} (hn : M 19 9 = nI n) (hn2 : n ≤ 4) (hr : M 1 6 = nI nR) (hr2 : nR ≤ 12) (x : Int32) : Tells X 56 [.ref B, .int (x)] h (m_b (zuse M nR x n = true)) := by
  by_cases z : zuse M nR x n = true
  · rw [m_b_t z]
    obtain ⟨g, hg, y⟩ := zuse_iff.mp z
    exact u_zin_1 hM hn hn2 hr hr2 hg y
  · rw [m_b_f z]
    exact u_zin_0 hM hn hn2 hr hr2 (fun k hk y => z (zuse_iff.mpr ⟨k, hk, y⟩))
theorem s_keyOr {X : mX} {h : mH} (x : Int32) : Tells X 36 [.int (x)] h (m_b (x = (-1 : Int32) ∨ (nI 0 ≤ x ∧ x < nI 8))) := by
  refine wp_iload_n d36_0 rfl ?_
  refine wp_iconst d36_1 (v := (-1 : Int32)) (by decide) ?_
  refine wp_icmp_eq d36_2 (tgt := 12) (by decide) (fun hc2 => ?_) (fun hc2 => ?_)
  · refine wp_iconst d36_12 (v := nI 1) (by decide) ?_
    refine wp_goto d36_13 (tgt := 17) (by decide) ?_
    refine wp_zret d36_17 (by decide +kernel) (by decide) ?_
    exact ⟨congrArg (fun z => some (Value.int z)) (m_b_t (Or.inl hc2)).symm, rfl⟩
  · refine wp_iload_n d36_5 rfl ?_
    refine wp_invsT (e := 145) (j2 := 37) (n := 1) d36_6 (by decide +kernel) (by decide +kernel) rfl rfl rfl (Nat.le_of_ble_eq_true rfl) (Nat.le_of_ble_eq_true rfl) rfl rfl (Nat.le_of_ble_eq_true rfl) (by decide +kernel) (s_isKey (x)) ?_
    refine wp_ifb_eq d36_9 (tgt := 16) (by decide) (fun hc9 => ?_) (fun hc9 => ?_)
    · refine wp_iconst d36_16 (v := nI 0) (by decide) ?_
      refine wp_zret d36_17 (by decide +kernel) (by decide) ?_
      exact ⟨congrArg (fun z => some (Value.int z)) (m_b_f (fun q => q.elim hc2 hc9)).symm, rfl⟩
    · refine wp_iconst d36_12 (v := nI 1) (by decide) ?_
      refine wp_goto d36_13 (tgt := 17) (by decide) ?_
      refine wp_zret d36_17 (by decide +kernel) (by decide) ?_
      exact ⟨congrArg (fun z => some (Value.int z)) (m_b_t (Or.inr hc9)).symm, rfl⟩
theorem s_exh {X : mX} {h : mH} {B st nR : Nat} {M : Nat → Nat → Int32} {w1 w2 w3 w4 w5 : Value} (h0 : m_get h 0 = some (.inr (0, [.ref B, w1, w2, w3, w4, w5]))) (hM : Mus h B st M) (kR : M 1 6 = nI nR) (kR2 : nR ≤ 12) (x : Int32) : Tells X 83 [.ref 0, .int (x)] h (m_b (¬ x = 0 ∧ (nI 0 ≤ x ∧ x < nI nR))) := by
  refine wp_iload_n d83_0 rfl ?_
  refine wp_if_eq d83_1 (tgt := 22) (by decide) (fun hc1 => ?_) (fun hc1 => ?_)
  · refine wp_iconst d83_22 (v := nI 0) (by decide) ?_
    refine wp_zret d83_23 (by decide +kernel) (by decide) ?_
    exact ⟨congrArg (fun z => some (Value.int z)) (m_b_f (fun q => q.1 hc1)).symm, rfl⟩
  · refine wp_aload_n d83_4 rfl ?_
    refine wp_getf (e := 10) (ci := 0) (k := 0) (nest := false) d83_5 (by decide +kernel) h0 rfl ?_
    refine wp_getf (e := 50) (ci := 1) (k := 0) (nest := true) d83_8 (by decide +kernel) (um_0 hM) rfl ?_
    refine wp_iload_n d83_11 rfl ?_
    refine wp_invvT (e := 68) (j2 := 35) (n := 1) d83_12 (by decide +kernel) (by decide +kernel) rfl rfl rfl (um_1 hM) (by decide +kernel) (Nat.le_of_ble_eq_true rfl) rfl rfl (Nat.le_of_ble_eq_true rfl) (by decide +kernel) (u_has1 hM kR (by omega) (x)) ?_
    refine wp_ifb_eq d83_15 (tgt := 22) (by decide) (fun hc15 => ?_) (fun hc15 => ?_)
    · refine wp_iconst d83_22 (v := nI 0) (by decide) ?_
      refine wp_zret d83_23 (by decide +kernel) (by decide) ?_
      exact ⟨congrArg (fun z => some (Value.int z)) (m_b_f (fun q => hc15 q.2)).symm, rfl⟩
    · refine wp_iconst d83_18 (v := nI 1) (by decide) ?_
      refine wp_goto d83_19 (tgt := 23) (by decide) ?_
      refine wp_zret d83_23 (by decide +kernel) (by decide) ?_
      exact ⟨congrArg (fun z => some (Value.int z)) (m_b_t ⟨hc1, hc15⟩).symm, rfl⟩
theorem nI_ofbt {x : Int32} {lo n : Nat} (hl : lo < 2 ^ 31) (hn : n + 1 < 2 ^ 31) (h : nI lo ≤ x ∧ x ≤ nI n) : ∃ r, lo ≤ r ∧ r ≤ n ∧ x = nI r := by
  obtain ⟨r, h1, rfl⟩ := nI_ofle hn ⟨by
    have h1 := Int32.le_iff_toInt_le.mp h.1
    rw [Int32.le_iff_toInt_le]
    rw [nI_int hl] at h1
    rw [nI_int (by decide)]
    omega, h.2⟩
  exact ⟨r, (nI_leI hl (by omega)).mp h.1, h1, rfl⟩
theorem keyrng {k : Int32} : (k = (-1 : Int32) ∨ (nI 0 ≤ k ∧ k < nI 8)) ↔ ((-1 : Int32) ≤ k ∧ k ≤ nI 7) := by
  rw [lt8]
  have h1 : (-1 : Int32).toInt = -1 := by decide
  constructor
  · rintro (rfl | ⟨h2, h3⟩)
    · exact ⟨by decide, by decide⟩
    · refine ⟨?_, h3⟩
      rw [Int32.le_iff_toInt_le] at h2 ⊢
      rw [nI_int (by decide)] at h2
      omega
  · rintro ⟨h2, h3⟩
    by_cases e : k = -1
    · exact Or.inl e
    · refine Or.inr ⟨?_, h3⟩
      rw [Int32.le_iff_toInt_le] at h2 ⊢
      rw [nI_int (by decide)]
      have : k.toInt ≠ -1 := fun z => e (Int32.toInt_inj.mp (z.trans h1.symm))
      omega
theorem keyK {k : Int32} (h : nI 0 ≤ k ∧ k < nI 8) : ∃ j, j < 8 ∧ k = nI j ∧ k = nI j := by
  obtain ⟨r, h1, h2⟩ := nI_ofr (by decide) h
  exact ⟨r, h1, h2, h2⟩
def kcn (M : Nat → Nat → Int32) (g : Nat) : Nat := cnt (fun j => decide (M 18 j = nI g)) 8
theorem kcn_le (M : Nat → Nat → Int32) (g : Nat) : kcn M g ≤ 8 := cnt_le _ 8
theorem t_kcn {X : mX} {h : mH} {B st : Nat} {M : Nat → Nat → Int32} (hM : Mus h B st M) (g : Nat) : Tells X 68 [.ref (B + 17), .int (nI g)] h (nI (kcn M g)) := tells_to (F_bc_kb M (nI g)) (u_countOfK hM (nI g))
theorem m_b_c {p q : Prop} [Decidable p] [Decidable q] (h : p ↔ q) : m_b p = m_b q := by
  by_cases z : p
  · rw [m_b_t z, m_b_t (h.mp z)]
  · rw [m_b_f z, m_b_f (fun y => z (h.mpr y))]
def F_es (M : Nat → Nat → Int32) (g : Nat) : Nat → Nat → Int32 := if M 20 g = (-5 : Int32) then M else updM M 23 g (nI 0)
theorem t_endStay {X : mX} {h : mH} {B st : Nat} {M : Nat → Nat → Int32} (hM : Mus h B st M) {n : Nat} (hn : M 19 9 = nI n) (hn2 : n ≤ 4) {g : Nat} (hg : g < n) : DoesU X 81 [.ref (B + 19), .int (nI g)] h B st (F_es M g) none := by
  unfold F_es
  by_cases z : M 20 g = (-5 : Int32)
  · rw [if_pos z]
    exact u_endStay_w hM hn hn2 hg z
  · rw [if_neg z]
    exact u_endStay hM hn hn2 hg z
section KY
variable {M : Nat → Nat → Int32} {σ : Nat → Int32} {nR nG us : Nat}
theorem K_k.take {g k : Nat} (h : K_k M σ nG) (hG4 : nG ≤ 4) (hg : g < nG) (hk : k < 8) (hh : M 18 k = -5) (hc : kcn M g < 3) : K_k (updM M 18 k (nI g)) (G_turn σ g (nI k)) nG := by
  refine h.give hG4 hk (Or.inr ⟨g, hg, rfl⟩) (fun g2 hg2 e _ => ?_) (fun g2 hg2 => ?_)
  · rw [← (nI_eq (by omega) (by omega)).mp e]
    exact hc
  · rw [hh]
    by_cases e : g2 = g
    · subst e
      rw [if_neg (fun z => nI_ne5 (by omega) (z.mpr rfl).symm)]
      exact upd_eq
    · rw [if_pos ⟨fun z => absurd z.symm (nI_ne5 (by omega)), fun z => absurd ((nI_eq (by omega) (by omega)).mp z).symm e⟩]
      exact upd_ne (by omega)
theorem K_k.bring {g k : Nat} (h : K_k M σ nG) (hG4 : nG ≤ 4) (hg : g < nG) (hk : k < 8) (hh : M 18 k = nI g) : K_k (updM M 18 k (-5)) (G_turn σ g (nI k)) nG := by
  refine h.give hG4 hk (Or.inl rfl) (fun g2 hg2 e _ => absurd e.symm (nI_ne5 (by omega))) (fun g2 hg2 => ?_)
  rw [hh]
  by_cases e : g2 = g
  · subst e
    rw [if_neg (fun z => nI_ne5 (by omega) (z.mp rfl).symm)]
    exact upd_eq
  · rw [if_pos ⟨fun z => absurd ((nI_eq (by omega) (by omega)).mp z).symm e, fun z => absurd z.symm (nI_ne5 (by omega))⟩]
    exact upd_ne (by omega)
theorem K_k.hand {g o k : Nat} (h : K_k M σ nG) (hG4 : nG ≤ 4) (hg : g < nG) (ho : o < nG) (hgo : ¬ g = o) (hk : k < 8) (hh : M 18 k = nI g) (hc : kcn M o < 3) : K_k (updM M 18 k (nI o)) (G_turn (G_turn σ g (nI k)) o (nI k)) nG := by
  refine h.give hG4 hk (Or.inr ⟨o, ho, rfl⟩) (fun g2 hg2 e _ => ?_) (fun g2 hg2 => ?_)
  · rw [← (nI_eq (by omega) (by omega)).mp e]
    exact hc
  · rw [hh]
    by_cases e : g2 = g
    · subst e
      rw [if_neg (fun z => hgo ((nI_eq (by omega) (by omega)).mp (z.mp rfl)).symm)]
      exact (upd_ne (by omega)).trans upd_eq
    · by_cases e2 : g2 = o
      · subst e2
        rw [if_neg (fun z => hgo ((nI_eq (by omega) (by omega)).mp (z.mpr rfl)))]
        refine upd_eq.trans ?_
        rw [G_turn, G_set, upd_ne (by omega)]
      · rw [if_pos ⟨fun z => absurd ((nI_eq (by omega) (by omega)).mp z).symm e, fun z => absurd ((nI_eq (by omega) (by omega)).mp z).symm e2⟩]
        exact (upd_ne (by omega)).trans (upd_ne (by omega))
theorem K_g1.Pz {g : Nat} (h : K_g1 M σ nR us g) (hR : nR ≤ 12) : (σ (192 + 10 * g + 0) < 0 ∨ ∃ r, r < 12 ∧ σ (192 + 10 * g + 0) = nI r) ∧ (σ (192 + 10 * g + 1) < 0 ∨ ∃ r, r < 12 ∧ σ (192 + 10 * g + 1) = nI r) := by
  obtain ⟨p1, p2, p3, p4⟩ := h
  rcases p4 with ⟨r, s, a1, a2, a3, a4, a5, a6, a7⟩ | ⟨t, l, s, a1, a2, a3, a4, a5, a6, a7, a8, a9⟩
  · exact ⟨Or.inr ⟨r, by omega, a3⟩, Or.inl (by rw [a5]; decide)⟩
  · exact ⟨Or.inl (by rw [a5]; decide), Or.inr ⟨t, by omega, a7⟩⟩
theorem iz_iff (hr : ∀ r, r < nR → K_r1 M σ us r) (hR : nR ≤ 12) {v : Int32} {z : Nat} (hz : z < 6) (hv : v = -5 ∨ ∃ r, r < nR ∧ v = nI r) : F_iz σ v (nI z) ↔ F_zo M nR v = nI z := by
  unfold F_iz F_zo
  rcases hv with rfl | ⟨r, hr1, rfl⟩
  · rw [if_neg (fun q => absurd q.1 (by decide))]
    exact ⟨fun q => absurd q.1 (by decide), fun q => absurd q.symm (nI_ne5 (by omega))⟩
  · rw [if_pos ⟨nI_le (by omega) (by omega), nI_lt hr1 (by omega)⟩, nI_nat (by omega), (hr r hr1).1.1]
    exact ⟨fun q => q.2, fun q => ⟨nI_pos' (by omega), q⟩⟩
theorem cz_iff {ur g : Nat} (hr : ∀ r, r < nR → K_r1 M σ ur r) (h : K_g1 M σ nR us g) (hR : nR ≤ 12) {z : Nat} (hz : z < 6) : F_cz σ (nI z) g ↔ (F_zo M nR (M 20 g) = nI z ∨ F_zo M nR (M 21 g) = nI z) := by
  unfold F_cz
  obtain ⟨e0, e1⟩ := h.at'
  rw [e0, e1]
  obtain ⟨p1, p2, p3, p4⟩ := h
  have hv : (M 20 g = -5 ∨ ∃ r, r < nR ∧ M 20 g = nI r) ∧ (M 21 g = -5 ∨ ∃ r, r < nR ∧ M 21 g = nI r) := by
    rcases p4 with ⟨r, s, a1, a2, a3, a4, a5, a6, a7⟩ | ⟨t, l, s, a1, a2, a3, a4, a5, a6, a7, a8, a9⟩
    · exact ⟨Or.inr ⟨r, a1, a4⟩, Or.inl a6⟩
    · exact ⟨Or.inl a6, Or.inr ⟨t, a1, a8⟩⟩
  exact or_congr (iz_iff hr hR hz hv.1) (iz_iff hr hR hz hv.2)
theorem K_w1.st0 {w : Nat} (h : K_w1 M σ nR w) (h2 : ¬ M 33 w = nI 2) (h1 : ¬ M 33 w = nI 1) : σ (328 + 5 * w + 3) = nI 0 := by
  obtain ⟨⟨w0, w1, w2, w3, w4⟩, -, -, s, hs, hs2⟩ := h
  rcases (show s = 0 ∨ s = 1 ∨ s = 2 by omega) with rfl | rfl | rfl
  · exact hs2
  · exact absurd (w3.symm.trans hs2) h1
  · exact absurd (w3.symm.trans hs2) h2
end KY
theorem exc_v1 {M : Nat → Nat → Int32} {σ : Nat → Int32} (h : K_z M σ) {z o : Nat} (hz : z < 6) (ho : o < 6) (hb : ¬ F_bit (σ (14 + z)) (nI o)) : (M 16 z ||| (nI 1 <<< (nI o &&& 31)) = M 16 z ^^^ (nI 1 <<< (nI o &&& 31))) ∧ (M 16 o ||| (nI 1 <<< (nI z &&& 31)) = M 16 o ^^^ (nI 1 <<< (nI z &&& 31))) := by
  obtain ⟨-, h4, h5⟩ := h
  obtain ⟨a, a1, a2, a3⟩ := h4 z hz
  obtain ⟨d, d1, d2, d3⟩ := h4 o ho
  have hb2 : ¬ F_bit (σ (14 + o)) (nI z) := fun q => hb ((h5 z o hz ho).mpr q)
  rw [a3] at hb
  rw [d3] at hb2
  rw [a2, d2]
  exact ⟨x_or ⟨a, a1⟩ ⟨o, by omega⟩ ho hb, x_or ⟨d, d1⟩ ⟨z, by omega⟩ hz hb2⟩
theorem exc_v0 {M : Nat → Nat → Int32} {σ : Nat → Int32} (h : K_z M σ) {z o : Nat} (hz : z < 6) (ho : o < 6) (hb : F_bit (σ (14 + z)) (nI o)) : (M 16 z &&& ((nI 1 <<< (nI o &&& 31)) ^^^ (-1 : Int32)) = M 16 z ^^^ (nI 1 <<< (nI o &&& 31))) ∧ (M 16 o &&& ((nI 1 <<< (nI z &&& 31)) ^^^ (-1 : Int32)) = M 16 o ^^^ (nI 1 <<< (nI z &&& 31))) := by
  obtain ⟨-, h4, h5⟩ := h
  obtain ⟨a, a1, a2, a3⟩ := h4 z hz
  obtain ⟨d, d1, d2, d3⟩ := h4 o ho
  have hb2 : F_bit (σ (14 + o)) (nI z) := (h5 z o hz ho).mp hb
  rw [a3] at hb
  rw [d3] at hb2
  rw [a2, d2]
  exact ⟨x_an ⟨a, a1⟩ ⟨o, by omega⟩ ho hb, x_an ⟨d, d1⟩ ⟨z, by omega⟩ hz hb2⟩
theorem exc_n {M1 : Nat → Nat → Int32} {σ : Nat → Int32} {z o : Nat} (hz : z < 6) (hzo : ¬ z = o) (hN : K_z M1 (R_excl σ z o)) : F_bc (M1 16 z) = F_bits (σ (14 + z) ^^^ (nI 1 <<< (nI o &&& 31))) 16 := by
  obtain ⟨-, h4, -⟩ := hN
  obtain ⟨a, a1, a2, a3⟩ := h4 z hz
  have e : R_excl σ z o (14 + z) = σ (14 + z) ^^^ (nI 1 <<< (nI o &&& 31)) := by
    unfold R_excl
    rw [upd_ne (by omega), upd_eq]
  rw [a2, x_bc ⟨a, a1⟩, ← e, a3]
