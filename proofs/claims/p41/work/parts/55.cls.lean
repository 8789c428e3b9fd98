/-! The class: a guard follows the first order. -/
theorem d110_0 : decode (m_code 110) 0 = .ok (.aload_n 0, 1) := by decide +kernel
theorem d110_1 : decode (m_code 110) 1 = .ok (.getfield 42, 3) := by decide +kernel
theorem d110_4 : decode (m_code 110) 4 = .ok (.iload_n 1, 1) := by decide +kernel
theorem d110_5 : decode (m_code 110) 5 = .ok (.invokevirtual 151, 3) := by decide +kernel
theorem d110_8 : decode (m_code 110) 8 = .ok (.istore_n 2, 1) := by decide +kernel
theorem d110_9 : decode (m_code 110) 9 = .ok (.aload_n 0, 1) := by decide +kernel
theorem d110_10 : decode (m_code 110) 10 = .ok (.getfield 42, 3) := by decide +kernel
theorem d110_13 : decode (m_code 110) 13 = .ok (.iload_n 1, 1) := by decide +kernel
theorem d110_14 : decode (m_code 110) 14 = .ok (.invokevirtual 154, 3) := by decide +kernel
theorem d110_17 : decode (m_code 110) 17 = .ok (.istore_n 3, 1) := by decide +kernel
theorem d110_18 : decode (m_code 110) 18 = .ok (.iload_n 3, 1) := by decide +kernel
theorem d110_19 : decode (m_code 110) 19 = .ok (.bipush 100, 2) := by decide +kernel
theorem d110_21 : decode (m_code 110) 21 = .ok (.idiv, 1) := by decide +kernel
theorem d110_22 : decode (m_code 110) 22 = .ok (.istore 4, 2) := by decide +kernel
theorem d110_24 : decode (m_code 110) 24 = .ok (.aload_n 0, 1) := by decide +kernel
theorem d110_25 : decode (m_code 110) 25 = .ok (.getfield 21, 3) := by decide +kernel
theorem d110_28 : decode (m_code 110) 28 = .ok (.iload_n 2, 1) := by decide +kernel
theorem d110_29 : decode (m_code 110) 29 = .ok (.iload 4, 2) := by decide +kernel
theorem d110_31 : decode (m_code 110) 31 = .ok (.invokevirtual 157, 3) := by decide +kernel
theorem d110_34 : decode (m_code 110) 34 = .ok (.istore 5, 2) := by decide +kernel
theorem d110_36 : decode (m_code 110) 36 = .ok (.iload 5, 2) := by decide +kernel
theorem d110_38 : decode (m_code 110) 38 = .ok (.bipush (-5), 2) := by decide +kernel
theorem d110_40 : decode (m_code 110) 40 = .ok (.if_icmp .eq 23, 3) := by decide +kernel
theorem d110_43 : decode (m_code 110) 43 = .ok (.aload_n 0, 1) := by decide +kernel
theorem d110_44 : decode (m_code 110) 44 = .ok (.getfield 21, 3) := by decide +kernel
theorem d110_47 : decode (m_code 110) 47 = .ok (.iload 5, 2) := by decide +kernel
theorem d110_49 : decode (m_code 110) 49 = .ok (.aload_n 0, 1) := by decide +kernel
theorem d110_50 : decode (m_code 110) 50 = .ok (.getfield 35, 3) := by decide +kernel
theorem d110_53 : decode (m_code 110) 53 = .ok (.iload_n 1, 1) := by decide +kernel
theorem d110_54 : decode (m_code 110) 54 = .ok (.invokevirtual 161, 3) := by decide +kernel
theorem d110_57 : decode (m_code 110) 57 = .ok (.invokevirtual 164, 3) := by decide +kernel
theorem d110_60 : decode (m_code 110) 60 = .ok (.ifCond .ne 12, 3) := by decide +kernel
theorem d110_63 : decode (m_code 110) 63 = .ok (.aload_n 0, 1) := by decide +kernel
theorem d110_64 : decode (m_code 110) 64 = .ok (.getfield 42, 3) := by decide +kernel
theorem d110_67 : decode (m_code 110) 67 = .ok (.iload_n 1, 1) := by decide +kernel
theorem d110_68 : decode (m_code 110) 68 = .ok (.invokevirtual 168, 3) := by decide +kernel
theorem d110_71 : decode (m_code 110) 71 = .ok (.return_, 1) := by decide +kernel
theorem d110_72 : decode (m_code 110) 72 = .ok (.aload_n 0, 1) := by decide +kernel
theorem d110_73 : decode (m_code 110) 73 = .ok (.getfield 63, 3) := by decide +kernel
theorem d110_76 : decode (m_code 110) 76 = .ok (.iload_n 1, 1) := by decide +kernel
theorem d110_77 : decode (m_code 110) 77 = .ok (.iload_n 2, 1) := by decide +kernel
theorem d110_78 : decode (m_code 110) 78 = .ok (.aload_n 0, 1) := by decide +kernel
theorem d110_79 : decode (m_code 110) 79 = .ok (.getfield 42, 3) := by decide +kernel
theorem d110_82 : decode (m_code 110) 82 = .ok (.iload_n 1, 1) := by decide +kernel
theorem d110_83 : decode (m_code 110) 83 = .ok (.invokevirtual 171, 3) := by decide +kernel
theorem d110_86 : decode (m_code 110) 86 = .ok (.aload_n 0, 1) := by decide +kernel
theorem d110_87 : decode (m_code 110) 87 = .ok (.getfield 67, 3) := by decide +kernel
theorem d110_90 : decode (m_code 110) 90 = .ok (.invokevirtual 174, 3) := by decide +kernel
theorem d110_93 : decode (m_code 110) 93 = .ok (.aload_n 0, 1) := by decide +kernel
theorem d110_94 : decode (m_code 110) 94 = .ok (.getfield 21, 3) := by decide +kernel
theorem d110_97 : decode (m_code 110) 97 = .ok (.iload 5, 2) := by decide +kernel
theorem d110_99 : decode (m_code 110) 99 = .ok (.invokevirtual 178, 3) := by decide +kernel
theorem d110_102 : decode (m_code 110) 102 = .ok (.aload_n 0, 1) := by decide +kernel
theorem d110_103 : decode (m_code 110) 103 = .ok (.getfield 42, 3) := by decide +kernel
theorem d110_106 : decode (m_code 110) 106 = .ok (.iload_n 1, 1) := by decide +kernel
theorem d110_107 : decode (m_code 110) 107 = .ok (.iload 4, 2) := by decide +kernel
theorem d110_109 : decode (m_code 110) 109 = .ok (.aload_n 0, 1) := by decide +kernel
theorem d110_110 : decode (m_code 110) 110 = .ok (.getfield 21, 3) := by decide +kernel
theorem d110_113 : decode (m_code 110) 113 = .ok (.iload 5, 2) := by decide +kernel
theorem d110_115 : decode (m_code 110) 115 = .ok (.invokevirtual 181, 3) := by decide +kernel
theorem d110_118 : decode (m_code 110) 118 = .ok (.iload_n 3, 1) := by decide +kernel
theorem d110_119 : decode (m_code 110) 119 = .ok (.bipush 100, 2) := by decide +kernel
theorem d110_121 : decode (m_code 110) 121 = .ok (.irem, 1) := by decide +kernel
theorem d110_122 : decode (m_code 110) 122 = .ok (.invokevirtual 184, 3) := by decide +kernel
theorem d110_125 : decode (m_code 110) 125 = .ok (.return_, 1) := by decide +kernel
/-- a guard's first order is removed -/
def F_rm (M : Nat → Nat → Int32) (g m : Nat) : Nat → Nat → Int32 := stM (updM M 27 (g) (nI (m - 1))) 28 (va_cpy ((updM M 27 (g) (nI (m - 1))) 28) ((updM M 27 (g) (nI (m - 1))) 28) (g * 12 + 1) (g * 12) (m - 1))
theorem F_rm_o {M : Nat → Nat → Int32} {g m o i : Nat} (h : o ≠ 27 ∧ o ≠ 28) : F_rm M g m o i = M o i := by
  unfold F_rm stM updM
  rw [if_neg h.2, if_neg h.1]
theorem F_rm_28 {M : Nat → Nat → Int32} {g m i : Nat} (hg : g < 4) (hm : m ≤ 12) : F_rm M g m 28 i = if g * 12 ≤ i ∧ i < g * 12 + (m - 1) then M 28 (i + 1) else M 28 i := by
  show va_cpy (M 28) (M 28) (g * 12 + 1) (g * 12) (m - 1) i = _
  split
  next h =>
    rw [pk_cpy_in (by omega) (by omega)]
    congr 1
    omega
  next h => exact pk_cpy_out (by omega)
/-- the walk that a guard's first order begins -/
def F_wl (M : Nat → Nat → Int32) (g m c d t w s : Nat) : Nat → Nat → Int32 := updM (updM (updM (updM (updM (updM (F_rm M g m) 41 2 (nI (c + 1))) 13 d (M 13 d + nI 1)) 20 g (-5)) 21 g (nI t)) 22 g (nI w)) 23 g (nI s)
abbrev F_hl (M : Nat → Nat → Int32) (g m : Nat) : Nat → Nat → Int32 := updM (updM (F_rm M g m) 25 g (M 25 g + nI 1)) 27 g (nI 0)
theorem rm_to {X : mX} {j : Nat} {as : List Value} {h : mH} {B st : Nat} {M : Nat → Nat → Int32} {x y : Int32} (e : x = y) (t : DoesU X j as h B st M (some (.int x))) : DoesU X j as h B st M (some (.int y)) := e ▸ t
theorem rm_toH {X : mX} {j : Nat} {as : List Value} {h : mH} {B st o i o2 i2 : Nat} {M : Nat → Nat → Int32} {v : Option Value} {x y z : Int32} (e : x = y) (t : DoesU X j as h B st (updM (updM M o i (x + nI 1)) o2 i2 z) v) : DoesU X j as h B st (updM (updM M o i (y + nI 1)) o2 i2 z) v := e ▸ t
theorem F_kb_c {M M1 : Nat → Nat → Int32} (h : ∀ i, M1 18 i = M 18 i) (v : Int32) (k : Nat) : F_kb M1 v k = F_kb M v k := by
  induction k with
  | zero => rfl
  | succ k ih => rw [F_kb, F_kb, h, ih]
theorem F_kb_rm (M : Nat → Nat → Int32) (g m : Nat) (v : Int32) (k : Nat) : F_kb (F_rm M g m) v k = F_kb M v k := F_kb_c (fun _ => F_rm_o (by omega)) v k
theorem u_follow_no {X : mX} {h : mH} {B st ln c : Nat} {M : Nat → Nat → Int32} {T : Nat → Int32} (hS : MusT h B st ln M T c) {n nD : Nat} (hn : M 19 9 = nI n) (hn2 : n ≤ 4) (hd : M 8 6 = nI nD) (hd2 : nD ≤ 20) {g a t s m : Nat} (hg : g < n) (ha : M 20 g = nI a) (hm : M 27 g = nI m) (hm2 : m ≤ 12) (hm0 : 0 < m) (hov : M 28 (g * 12 + 0) = nI (100 * t + s)) (hs : s < 100) (ht : t < 12) (hno : ∀ k, k < nD → ¬ (M 9 k = nI a ∧ M 10 k = nI t ∨ M 9 k = nI t ∧ M 10 k = nI a)) : DoesG X 110 [.ref B, .int (nI g)] h B st ln (F_hl M g m) (T) (c) none := by
  have hM := hS.1
  have hG : Grw h h B st ln st ln := Grw.rf
  refine wp_aload_n d110_0 rfl ?_
  refine wp_getf (e := 42) (ci := 1) (k := 4) (nest := false) d110_1 (by decide +kernel) (um_0 hM) rfl ?_
  refine wp_iload_n d110_4 rfl ?_
  refine wp_invvT (e := 151) (j2 := 58) (n := 1) d110_5 (by decide +kernel) (by decide +kernel) rfl rfl rfl (um_19 hM) (by decide +kernel) (Nat.le_of_ble_eq_true rfl) rfl rfl (Nat.le_of_ble_eq_true rfl) (by decide +kernel) (tells_to ha (u_a58 hM hn (by omega) (r := g) (by omega))) ?_
  refine wp_istore_n d110_8 (Nat.le_of_ble_eq_true rfl) rfl ?_
  refine wp_aload_n d110_9 rfl ?_
  refine wp_getf (e := 42) (ci := 1) (k := 4) (nest := false) d110_10 (by decide +kernel) (um_0 hM) rfl ?_
  refine wp_iload_n d110_13 rfl ?_
  refine wp_invvUIG (e := 154) (j2 := 111) (n := 1) d110_14 (by decide +kernel) (by decide +kernel) rfl rfl rfl (um_19 hM) (by decide +kernel) (Nat.le_of_ble_eq_true rfl) rfl rfl (Nat.le_of_ble_eq_true rfl) (by decide +kernel) (show DoesU X 111 _ h B st (F_rm M g m) _ from rm_to hov (u_removeFirst hM hn hn2 hg hm hm2 hm0 (by rw [hov]; exact nI_ne5 (by omega)))) hS hG (F_rm_o (by omega)) ?_
  intro h hS hG
  have hM := hS.1
  refine wp_istore_n d110_17 (Nat.le_of_ble_eq_true rfl) rfl ?_
  refine wp_iload_n d110_18 rfl ?_
  refine wp_bipush d110_19 (v := nI 100) (by decide) ?_
  refine wp_idivv d110_21 (v := nI t) (by decide) ((nI_div (by omega) (by omega)).trans (by rw [show (100 * t + s) / 100 = t by omega])) ?_
  refine wp_istore d110_22 (Nat.le_of_ble_eq_true rfl) rfl ?_
  refine wp_aload_n d110_24 rfl ?_
  refine wp_getf (e := 21) (ci := 1) (k := 1) (nest := false) d110_25 (by decide +kernel) (um_0 hM) rfl ?_
  refine wp_iload_n d110_28 rfl ?_
  refine wp_iload d110_29 rfl ?_
  refine wp_invvT (e := 157) (j2 := 38) (n := 2) d110_31 (by decide +kernel) (by decide +kernel) rfl rfl rfl (um_8 hM) (by decide +kernel) (Nat.le_of_ble_eq_true rfl) rfl rfl (Nat.le_of_ble_eq_true rfl) (by decide +kernel) (u_between_no hM ((F_rm_o (by omega)).trans hd) hd2 (fun k hk => by simp only [F_rm_o (M := M) (g := g) (m := m) (show (9 : Nat) ≠ 27 ∧ (9 : Nat) ≠ 28 by omega), F_rm_o (M := M) (g := g) (m := m) (show (10 : Nat) ≠ 27 ∧ (10 : Nat) ≠ 28 by omega)]; exact hno k hk)) ?_
  refine wp_istore d110_34 (Nat.le_of_ble_eq_true rfl) rfl ?_
  refine wp_iload d110_36 rfl ?_
  refine wp_bipush d110_38 (v := (-5 : Int32)) (by decide) ?_
  refine wp_icmp_eq d110_40 (tgt := 63) (by decide) (fun _ => ?_) (fun hz => absurd hz (by decide))
  refine wp_aload_n d110_63 rfl ?_
  refine wp_getf (e := 42) (ci := 1) (k := 4) (nest := false) d110_64 (by decide +kernel) (um_0 hM) rfl ?_
  refine wp_iload_n d110_67 rfl ?_
  refine wp_invvUG (e := 168) (j2 := 114) (n := 1) d110_68 (by decide +kernel) (by decide +kernel) rfl rfl rfl (um_19 hM) (by decide +kernel) (Nat.le_of_ble_eq_true rfl) rfl rfl (Nat.le_of_ble_eq_true rfl) (by decide +kernel) (rm_toH (F_rm_o (M := M) (g := g) (m := m) (o := 25) (i := g) (by omega)) (u_halt hM ((F_rm_o (by omega)).trans hn) hn2 hg)) hS hG ((updM_diff (by omega)).trans (updM_diff (by omega))) ?_
  intro h hS hG
  have hM := hS.1
  refine wp_vret d110_71 (by decide +kernel) ?_
  exact ⟨rfl, st, ln, hS, hG⟩
theorem u_follow_h {X : mX} {h : mH} {B st ln c : Nat} {M : Nat → Nat → Int32} {T : Nat → Int32} (hS : MusT h B st ln M T c) {n nD : Nat} (hn : M 19 9 = nI n) (hn2 : n ≤ 4) (hd : M 8 6 = nI nD) (hd2 : nD ≤ 20) {g a t s m : Nat} (hg : g < n) (ha : M 20 g = nI a) (hm : M 27 g = nI m) (hm2 : m ≤ 12) (hm0 : 0 < m) (hov : M 28 (g * 12 + 0) = nI (100 * t + s)) (hs : s < 100) (ht : t < 12) {d0 : Nat} (hd0 : d0 < nD) (hat : M 9 d0 = nI a ∧ M 10 d0 = nI t ∨ M 9 d0 = nI t ∧ M 10 d0 = nI a) (hfi : ∀ k, k < nD → k ≠ d0 → ¬ (M 9 k = nI a ∧ M 10 k = nI t ∨ M 9 k = nI t ∧ M 10 k = nI a)) (hp : ¬ (M 12 d0 = (-5 : Int32) ∨ F_nb (F_kb M (nI g) 8) (M 12 d0))) : DoesG X 110 [.ref B, .int (nI g)] h B st ln (F_hl M g m) (T) (c) none := by
  have hM := hS.1
  have hG : Grw h h B st ln st ln := Grw.rf
  refine wp_aload_n d110_0 rfl ?_
  refine wp_getf (e := 42) (ci := 1) (k := 4) (nest := false) d110_1 (by decide +kernel) (um_0 hM) rfl ?_
  refine wp_iload_n d110_4 rfl ?_
  refine wp_invvT (e := 151) (j2 := 58) (n := 1) d110_5 (by decide +kernel) (by decide +kernel) rfl rfl rfl (um_19 hM) (by decide +kernel) (Nat.le_of_ble_eq_true rfl) rfl rfl (Nat.le_of_ble_eq_true rfl) (by decide +kernel) (tells_to ha (u_a58 hM hn (by omega) (r := g) (by omega))) ?_
  refine wp_istore_n d110_8 (Nat.le_of_ble_eq_true rfl) rfl ?_
  refine wp_aload_n d110_9 rfl ?_
  refine wp_getf (e := 42) (ci := 1) (k := 4) (nest := false) d110_10 (by decide +kernel) (um_0 hM) rfl ?_
  refine wp_iload_n d110_13 rfl ?_
  refine wp_invvUIG (e := 154) (j2 := 111) (n := 1) d110_14 (by decide +kernel) (by decide +kernel) rfl rfl rfl (um_19 hM) (by decide +kernel) (Nat.le_of_ble_eq_true rfl) rfl rfl (Nat.le_of_ble_eq_true rfl) (by decide +kernel) (show DoesU X 111 _ h B st (F_rm M g m) _ from rm_to hov (u_removeFirst hM hn hn2 hg hm hm2 hm0 (by rw [hov]; exact nI_ne5 (by omega)))) hS hG (F_rm_o (by omega)) ?_
  intro h hS hG
  have hM := hS.1
  refine wp_istore_n d110_17 (Nat.le_of_ble_eq_true rfl) rfl ?_
  refine wp_iload_n d110_18 rfl ?_
  refine wp_bipush d110_19 (v := nI 100) (by decide) ?_
  refine wp_idivv d110_21 (v := nI t) (by decide) ((nI_div (by omega) (by omega)).trans (by rw [show (100 * t + s) / 100 = t by omega])) ?_
  refine wp_istore d110_22 (Nat.le_of_ble_eq_true rfl) rfl ?_
  refine wp_aload_n d110_24 rfl ?_
  refine wp_getf (e := 21) (ci := 1) (k := 1) (nest := false) d110_25 (by decide +kernel) (um_0 hM) rfl ?_
  refine wp_iload_n d110_28 rfl ?_
  refine wp_iload d110_29 rfl ?_
  refine wp_invvT (e := 157) (j2 := 38) (n := 2) d110_31 (by decide +kernel) (by decide +kernel) rfl rfl rfl (um_8 hM) (by decide +kernel) (Nat.le_of_ble_eq_true rfl) rfl rfl (Nat.le_of_ble_eq_true rfl) (by decide +kernel) (u_between hM ((F_rm_o (by omega)).trans hd) hd2 hd0 (by simp only [F_rm_o (M := M) (g := g) (m := m) (show (9 : Nat) ≠ 27 ∧ (9 : Nat) ≠ 28 by omega), F_rm_o (M := M) (g := g) (m := m) (show (10 : Nat) ≠ 27 ∧ (10 : Nat) ≠ 28 by omega)]; exact hat) (fun k hk hk0 => by simp only [F_rm_o (M := M) (g := g) (m := m) (show (9 : Nat) ≠ 27 ∧ (9 : Nat) ≠ 28 by omega), F_rm_o (M := M) (g := g) (m := m) (show (10 : Nat) ≠ 27 ∧ (10 : Nat) ≠ 28 by omega)]; exact hfi k hk hk0)) ?_
  refine wp_istore d110_34 (Nat.le_of_ble_eq_true rfl) rfl ?_
  refine wp_iload d110_36 rfl ?_
  refine wp_bipush d110_38 (v := (-5 : Int32)) (by decide) ?_
  refine wp_icmp_eq d110_40 (tgt := 63) (by decide) (fun hq9 => absurd hq9 (nI_ne5 (by omega))) (fun _ => ?_)
  refine wp_aload_n d110_43 rfl ?_
  refine wp_getf (e := 21) (ci := 1) (k := 1) (nest := false) d110_44 (by decide +kernel) (um_0 hM) rfl ?_
  refine wp_iload d110_47 rfl ?_
  refine wp_aload_n d110_49 rfl ?_
  refine wp_getf (e := 35) (ci := 1) (k := 3) (nest := false) d110_50 (by decide +kernel) (um_0 hM) rfl ?_
  refine wp_iload_n d110_53 rfl ?_
  refine wp_invvT (e := 161) (j2 := 69) (n := 1) d110_54 (by decide +kernel) (by decide +kernel) rfl rfl rfl (um_17 hM) (by decide +kernel) (Nat.le_of_ble_eq_true rfl) rfl rfl (Nat.le_of_ble_eq_true rfl) (by decide +kernel) (tells_to (F_kb_rm M g m (nI g) 8) (u_bitsOf hM (x := nI g))) ?_
  refine wp_invvT (e := 164) (j2 := 113) (n := 2) d110_57 (by decide +kernel) (by decide +kernel) rfl rfl rfl (um_8 hM) (by decide +kernel) (Nat.le_of_ble_eq_true rfl) rfl rfl (Nat.le_of_ble_eq_true rfl) (by decide +kernel) (tells_to (by rw [F_rm_o (by omega)]) (u_isPassable hM ((F_rm_o (by omega)).trans hd) hd2 hd0)) ?_
  refine wp_ifb_ne d110_60 (tgt := 72) (by decide) (fun hq9 => absurd hq9 hp) (fun _ => ?_)
  refine wp_aload_n d110_63 rfl ?_
  refine wp_getf (e := 42) (ci := 1) (k := 4) (nest := false) d110_64 (by decide +kernel) (um_0 hM) rfl ?_
  refine wp_iload_n d110_67 rfl ?_
  refine wp_invvUG (e := 168) (j2 := 114) (n := 1) d110_68 (by decide +kernel) (by decide +kernel) rfl rfl rfl (um_19 hM) (by decide +kernel) (Nat.le_of_ble_eq_true rfl) rfl rfl (Nat.le_of_ble_eq_true rfl) (by decide +kernel) (rm_toH (F_rm_o (M := M) (g := g) (m := m) (o := 25) (i := g) (by omega)) (u_halt hM ((F_rm_o (by omega)).trans hn) hn2 hg)) hS hG ((updM_diff (by omega)).trans (updM_diff (by omega))) ?_
  intro h hS hG
  have hM := hS.1
  refine wp_vret d110_71 (by decide +kernel) ?_
  exact ⟨rfl, st, ln, hS, hG⟩
theorem rm_toM {X : mX} {j : Nat} {as : List Value} {h : mH} {B st o i : Nat} {M : Nat → Nat → Int32} {v : Option Value} {x y : Int32} (e : x = y) (t : DoesU X j as h B st (updM M o i (x + nI 1)) v) : DoesU X j as h B st (updM M o i (y + nI 1)) v := e ▸ t
theorem u_follow {X : mX} {h : mH} {B st ln c : Nat} {M : Nat → Nat → Int32} {T : Nat → Int32} (hS : MusT h B st ln M T c) {n nD : Nat} (hn : M 19 9 = nI n) (hn2 : n ≤ 4) (hd : M 8 6 = nI nD) (hd2 : nD ≤ 20) {g a t s m : Nat} (hg : g < n) (ha : M 20 g = nI a) (hm : M 27 g = nI m) (hm2 : m ≤ 12) (hm0 : 0 < m) (hov : M 28 (g * 12 + 0) = nI (100 * t + s)) (hs : s < 100) (ht : t < 12) {d0 : Nat} (hd0 : d0 < nD) (hat : M 9 d0 = nI a ∧ M 10 d0 = nI t ∨ M 9 d0 = nI t ∧ M 10 d0 = nI a) (hfi : ∀ k, k < nD → k ≠ d0 → ¬ (M 9 k = nI a ∧ M 10 k = nI t ∨ M 9 k = nI t ∧ M 10 k = nI a)) (hp : M 12 d0 = (-5 : Int32) ∨ F_nb (F_kb M (nI g) 8) (M 12 d0)) {sn mi w : Nat} (hsn : M 24 g = nI sn) (hmi : M 0 8 = nI mi) (hw : M 11 d0 = nI w) (hc3 : c < 2880) : DoesG X 110 [.ref B, .int (nI g)] h B st ln (F_wl M g m c d0 t w s) (F_st T c (nI g) (nI a) (nI sn) (nI mi)) (c + 1) none := by
  have hM := hS.1
  have hG : Grw h h B st ln st ln := Grw.rf
  refine wp_aload_n d110_0 rfl ?_
  refine wp_getf (e := 42) (ci := 1) (k := 4) (nest := false) d110_1 (by decide +kernel) (um_0 hM) rfl ?_
  refine wp_iload_n d110_4 rfl ?_
  refine wp_invvT (e := 151) (j2 := 58) (n := 1) d110_5 (by decide +kernel) (by decide +kernel) rfl rfl rfl (um_19 hM) (by decide +kernel) (Nat.le_of_ble_eq_true rfl) rfl rfl (Nat.le_of_ble_eq_true rfl) (by decide +kernel) (tells_to ha (u_a58 hM hn (by omega) (r := g) (by omega))) ?_
  refine wp_istore_n d110_8 (Nat.le_of_ble_eq_true rfl) rfl ?_
  refine wp_aload_n d110_9 rfl ?_
  refine wp_getf (e := 42) (ci := 1) (k := 4) (nest := false) d110_10 (by decide +kernel) (um_0 hM) rfl ?_
  refine wp_iload_n d110_13 rfl ?_
  refine wp_invvUIG (e := 154) (j2 := 111) (n := 1) d110_14 (by decide +kernel) (by decide +kernel) rfl rfl rfl (um_19 hM) (by decide +kernel) (Nat.le_of_ble_eq_true rfl) rfl rfl (Nat.le_of_ble_eq_true rfl) (by decide +kernel) (show DoesU X 111 _ h B st (F_rm M g m) _ from rm_to hov (u_removeFirst hM hn hn2 hg hm hm2 hm0 (by rw [hov]; exact nI_ne5 (by omega)))) hS hG (F_rm_o (by omega)) ?_
  intro h hS hG
  have hM := hS.1
  refine wp_istore_n d110_17 (Nat.le_of_ble_eq_true rfl) rfl ?_
  refine wp_iload_n d110_18 rfl ?_
  refine wp_bipush d110_19 (v := nI 100) (by decide) ?_
  refine wp_idivv d110_21 (v := nI t) (by decide) ((nI_div (by omega) (by omega)).trans (by rw [show (100 * t + s) / 100 = t by omega])) ?_
  refine wp_istore d110_22 (Nat.le_of_ble_eq_true rfl) rfl ?_
  refine wp_aload_n d110_24 rfl ?_
  refine wp_getf (e := 21) (ci := 1) (k := 1) (nest := false) d110_25 (by decide +kernel) (um_0 hM) rfl ?_
  refine wp_iload_n d110_28 rfl ?_
  refine wp_iload d110_29 rfl ?_
  refine wp_invvT (e := 157) (j2 := 38) (n := 2) d110_31 (by decide +kernel) (by decide +kernel) rfl rfl rfl (um_8 hM) (by decide +kernel) (Nat.le_of_ble_eq_true rfl) rfl rfl (Nat.le_of_ble_eq_true rfl) (by decide +kernel) (u_between hM ((F_rm_o (by omega)).trans hd) hd2 hd0 (by simp only [F_rm_o (M := M) (g := g) (m := m) (show (9 : Nat) ≠ 27 ∧ (9 : Nat) ≠ 28 by omega), F_rm_o (M := M) (g := g) (m := m) (show (10 : Nat) ≠ 27 ∧ (10 : Nat) ≠ 28 by omega)]; exact hat) (fun k hk hk0 => by simp only [F_rm_o (M := M) (g := g) (m := m) (show (9 : Nat) ≠ 27 ∧ (9 : Nat) ≠ 28 by omega), F_rm_o (M := M) (g := g) (m := m) (show (10 : Nat) ≠ 27 ∧ (10 : Nat) ≠ 28 by omega)]; exact hfi k hk hk0)) ?_
  refine wp_istore d110_34 (Nat.le_of_ble_eq_true rfl) rfl ?_
  refine wp_iload d110_36 rfl ?_
  refine wp_bipush d110_38 (v := (-5 : Int32)) (by decide) ?_
  refine wp_icmp_eq d110_40 (tgt := 63) (by decide) (fun hq9 => absurd hq9 (nI_ne5 (by omega))) (fun _ => ?_)
  refine wp_aload_n d110_43 rfl ?_
  refine wp_getf (e := 21) (ci := 1) (k := 1) (nest := false) d110_44 (by decide +kernel) (um_0 hM) rfl ?_
  refine wp_iload d110_47 rfl ?_
  refine wp_aload_n d110_49 rfl ?_
  refine wp_getf (e := 35) (ci := 1) (k := 3) (nest := false) d110_50 (by decide +kernel) (um_0 hM) rfl ?_
  refine wp_iload_n d110_53 rfl ?_
  refine wp_invvT (e := 161) (j2 := 69) (n := 1) d110_54 (by decide +kernel) (by decide +kernel) rfl rfl rfl (um_17 hM) (by decide +kernel) (Nat.le_of_ble_eq_true rfl) rfl rfl (Nat.le_of_ble_eq_true rfl) (by decide +kernel) (tells_to (F_kb_rm M g m (nI g) 8) (u_bitsOf hM (x := nI g))) ?_
  refine wp_invvT (e := 164) (j2 := 113) (n := 2) d110_57 (by decide +kernel) (by decide +kernel) rfl rfl rfl (um_8 hM) (by decide +kernel) (Nat.le_of_ble_eq_true rfl) rfl rfl (Nat.le_of_ble_eq_true rfl) (by decide +kernel) (tells_to (by rw [F_rm_o (by omega)]) (u_isPassable hM ((F_rm_o (by omega)).trans hd) hd2 hd0)) ?_
  refine wp_ifb_ne d110_60 (tgt := 72) (by decide) (fun _ => ?_) (fun hq9 => absurd hp hq9)
  refine wp_aload_n d110_72 rfl ?_
  refine wp_getf (e := 63) (ci := 1) (k := 7) (nest := false) d110_73 (by decide +kernel) (um_0 hM) rfl ?_
  refine wp_iload_n d110_76 rfl ?_
  refine wp_iload_n d110_77 rfl ?_
  refine wp_aload_n d110_78 rfl ?_
  refine wp_getf (e := 42) (ci := 1) (k := 4) (nest := false) d110_79 (by decide +kernel) (um_0 hM) rfl ?_
  refine wp_iload_n d110_82 rfl ?_
  refine wp_invvT (e := 171) (j2 := 115) (n := 1) d110_83 (by decide +kernel) (by decide +kernel) rfl rfl rfl (um_19 hM) (by decide +kernel) (Nat.le_of_ble_eq_true rfl) rfl rfl (Nat.le_of_ble_eq_true rfl) (by decide +kernel) (tells_to ((F_rm_o (by omega)).trans hsn) (u_a115 hM ((F_rm_o (by omega)).trans hn) (by omega) (r := g) (by omega))) ?_
  refine wp_aload_n d110_86 rfl ?_
  refine wp_getf (e := 67) (ci := 1) (k := 8) (nest := false) (v := .int (nI mi)) d110_87 (by decide +kernel) (um_0 hM) (congrArg (fun z => some (Value.int z)) ((F_rm_o (by omega)).trans hmi)) ?_
  refine wp_invvG (e := 174) (j2 := 116) (n := 4) d110_90 (by decide +kernel) (by decide +kernel) rfl rfl rfl (um_41 hM) (by decide +kernel) (Nat.le_of_ble_eq_true rfl) rfl rfl (Nat.le_of_ble_eq_true rfl) (by decide +kernel) (u_noteStay hS hc3 (nI g) (nI a) (nI sn) (nI mi)) hG ?_
  intro h st ln hS hG
  have hM := hS.1
  refine wp_aload_n d110_93 rfl ?_
  refine wp_getf (e := 21) (ci := 1) (k := 1) (nest := false) d110_94 (by decide +kernel) (um_0 hM) rfl ?_
  refine wp_iload d110_97 rfl ?_
  refine wp_invvUG (e := 178) (j2 := 117) (n := 1) d110_99 (by decide +kernel) (by decide +kernel) rfl rfl rfl (um_8 hM) (by decide +kernel) (Nat.le_of_ble_eq_true rfl) rfl rfl (Nat.le_of_ble_eq_true rfl) (by decide +kernel) (rm_toM (by rw [updM_diff (by omega), F_rm_o (by omega)]) (u_noteUse hM ((updM_diff (by omega)).trans ((F_rm_o (by omega)).trans hd)) hd2 hd0)) hS hG (updM_diff (by omega)) ?_
  intro h hS hG
  have hM := hS.1
  refine wp_aload_n d110_102 rfl ?_
  refine wp_getf (e := 42) (ci := 1) (k := 4) (nest := false) d110_103 (by decide +kernel) (um_0 hM) rfl ?_
  refine wp_iload_n d110_106 rfl ?_
  refine wp_iload d110_107 rfl ?_
  refine wp_aload_n d110_109 rfl ?_
  refine wp_getf (e := 21) (ci := 1) (k := 1) (nest := false) d110_110 (by decide +kernel) (um_0 hM) rfl ?_
  refine wp_iload d110_113 rfl ?_
  refine wp_invvT (e := 181) (j2 := 93) (n := 1) d110_115 (by decide +kernel) (by decide +kernel) rfl rfl rfl (um_8 hM) (by decide +kernel) (Nat.le_of_ble_eq_true rfl) rfl rfl (Nat.le_of_ble_eq_true rfl) (by decide +kernel) (tells_to (((updM_diff (by omega)).trans ((updM_diff (by omega)).trans (F_rm_o (by omega)))).trans hw) (u_a93 hM (((updM_diff (by omega)).trans ((updM_diff (by omega)).trans (F_rm_o (by omega)))).trans hd) (by omega) (r := d0) (by omega))) ?_
  refine wp_iload_n d110_118 rfl ?_
  refine wp_bipush d110_119 (v := nI 100) (by decide) ?_
  refine wp_iremv d110_121 (v := nI s) (by decide) ((nI_rem (by omega) (by omega)).trans (by rw [show (100 * t + s) % 100 = s by omega])) ?_
  refine wp_invvUG (e := 184) (j2 := 118) (n := 4) d110_122 (by decide +kernel) (by decide +kernel) rfl rfl rfl (um_19 hM) (by decide +kernel) (Nat.le_of_ble_eq_true rfl) rfl rfl (Nat.le_of_ble_eq_true rfl) (by decide +kernel) (show DoesU X 118 _ h B st (F_wl M g m c d0 t w s) _ from u_startWalk hM ((updM_diff (by omega)).trans ((updM_diff (by omega)).trans ((F_rm_o (by omega)).trans hn))) hn2 hg (nI t) (nI w) (nI s)) hS hG ((updM_diff (by omega)).trans ((updM_diff (by omega)).trans ((updM_diff (by omega)).trans (updM_diff (by omega))))) ?_
  intro h hS hG
  have hM := hS.1
  refine wp_vret d110_125 (by decide +kernel) ?_
  exact ⟨rfl, st, ln, hS, hG⟩
