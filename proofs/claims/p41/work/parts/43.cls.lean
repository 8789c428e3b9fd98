/-! The class: alarms, the night begins, rooms are watched. -/
theorem d119_0 : decode (m_code 119) 0 = .ok (.aload_n 0, 1) := by decide +kernel
theorem d119_1 : decode (m_code 119) 1 = .ok (.getfield 42, 3) := by decide +kernel
theorem d119_4 : decode (m_code 119) 4 = .ok (.invokevirtual 187, 3) := by decide +kernel
theorem d119_7 : decode (m_code 119) 7 = .ok (.istore_n 1, 1) := by decide +kernel
theorem d119_8 : decode (m_code 119) 8 = .ok (.aload_n 0, 1) := by decide +kernel
theorem d119_9 : decode (m_code 119) 9 = .ok (.getfield 12, 3) := by decide +kernel
theorem d119_12 : decode (m_code 119) 12 = .ok (.iload_n 1, 1) := by decide +kernel
theorem d119_13 : decode (m_code 119) 13 = .ok (.invokevirtual 190, 3) := by decide +kernel
theorem d119_16 : decode (m_code 119) 16 = .ok (.aload_n 0, 1) := by decide +kernel
theorem d119_17 : decode (m_code 119) 17 = .ok (.getfield 63, 3) := by decide +kernel
theorem d119_20 : decode (m_code 119) 20 = .ok (.aload_n 0, 1) := by decide +kernel
theorem d119_21 : decode (m_code 119) 21 = .ok (.getfield 67, 3) := by decide +kernel
theorem d119_24 : decode (m_code 119) 24 = .ok (.iload_n 1, 1) := by decide +kernel
theorem d119_25 : decode (m_code 119) 25 = .ok (.invokevirtual 193, 3) := by decide +kernel
theorem d119_28 : decode (m_code 119) 28 = .ok (.return_, 1) := by decide +kernel
def F_rs (M : Nat → Nat → Int32) (n : Nat) (x y z : Int32) : Nat → Nat → Int32 := (updM (updM (updM (updM (updM (updM M 36 (n) (x)) 37 (n) (y)) 38 (n) (z)) 39 (n) ((-5 : Int32))) 40 (n) ((-5 : Int32))) 35 (5) (nI (n + 1)))
/-- an alarm is noted, or counted as lost -/
def F_ra (M : Nat → Nat → Int32) (x y z : Int32) : Nat → Nat → Int32 := if M 35 5 = nI 40 then (updM M 35 (6) (((M 35 6) + (nI 1)))) else F_rs M (M 35 5).toNatClampNeg x y z
theorem F_ra_o {M : Nat → Nat → Int32} {x y z : Int32} {o i : Nat} (h : o < 35 ∨ 40 < o) : F_ra M x y z o i = M o i := by
  unfold F_ra F_rs
  split
  · rw [updM_diff (by omega)]
  · rw [updM_diff (by omega), updM_diff (by omega), updM_diff (by omega), updM_diff (by omega), updM_diff (by omega), updM_diff (by omega)]
theorem F_ra_n {M : Nat → Nat → Int32} {x y z : Int32} {n : Nat} (hn : M 35 5 = nI n) (hn2 : n ≤ 40) : ∃ n2, n2 ≤ 40 ∧ F_ra M x y z 35 5 = nI n2 := by
  unfold F_ra F_rs
  split
  · exact ⟨n, hn2, by rw [updM_diff (by omega), hn]⟩
  next h =>
    refine ⟨n + 1, ?_, by rw [updM_same, hn, nI_nat (by omega)]⟩
    apply Classical.byContradiction
    intro q
    exact h (by rw [hn, show n = 40 by omega])
theorem u_raiseN {X : mX} {h : mH} {B st : Nat} {M : Nat → Nat → Int32} (hM : Mus h B st M) {n : Nat} (hn : M 35 5 = nI n) (hn2 : n ≤ 40) (x y z : Int32) : DoesU X 128 [.ref (B + 35), .int (x), .int (y), .int (z)] h B st (F_ra M x y z) none := by
  unfold F_ra
  split
  next q => exact u_raise_f hM q x y z
  next q =>
    rw [hn, nI_nat (by omega)]
    exact u_raise hM hn (by
      apply Classical.byContradiction
      intro p
      exact q (by rw [hn, show n = 40 by omega])) x y z
theorem u_watchRooms {X : mX} {h : mH} {B st : Nat} {M : Nat → Nat → Int32} (hM : Mus h B st M) {nR nG : Nat} (hr : M 1 6 = nI nR) (hr2 : nR ≤ 12) (hg : M 19 9 = nI nG) (hg2 : nG ≤ 4) {mi : Nat} (hmi : M 0 8 = nI mi) (hmi2 : mi < 720) : DoesU X 119 [.ref B] h B st ((updM (F_nt M (F_rb M nG) nR) 42 (mi) ((F_rb M nG)))) (none) := by
  have hF : Frm h h B 43 := Frm.rf
  refine wp_aload_n d119_0 rfl ?_
  refine wp_getf (e := 42) (ci := 1) (k := 4) (nest := false) d119_1 (by decide +kernel) (um_0 hM) rfl ?_
  refine wp_invvT (e := 187) (j2 := 120) (n := 0) d119_4 (by decide +kernel) (by decide +kernel) rfl rfl rfl (um_19 hM) (by decide +kernel) (Nat.le_of_ble_eq_true rfl) rfl rfl (Nat.le_of_ble_eq_true rfl) (by decide +kernel) (u_roomBits hM hg (by omega)) ?_
  refine wp_istore_n d119_7 (Nat.le_of_ble_eq_true rfl) rfl ?_
  refine wp_aload_n d119_8 rfl ?_
  refine wp_getf (e := 12) (ci := 1) (k := 0) (nest := false) d119_9 (by decide +kernel) (um_0 hM) rfl ?_
  refine wp_iload_n d119_12 rfl ?_
  refine wp_invvU (e := 190) (j2 := 121) (n := 1) d119_13 (by decide +kernel) (by decide +kernel) rfl rfl rfl (um_1 hM) (by decide +kernel) (Nat.le_of_ble_eq_true rfl) rfl rfl (Nat.le_of_ble_eq_true rfl) (by decide +kernel) (u_noteMinute hM hr (by omega) (x := (F_rb M nG))) hF ?_
  intro h hM hF
  refine wp_aload_n d119_16 rfl ?_
  refine wp_getf (e := 63) (ci := 1) (k := 7) (nest := false) d119_17 (by decide +kernel) (um_0 hM) rfl ?_
  refine wp_aload_n d119_20 rfl ?_
  refine wp_getf (e := 67) (ci := 1) (k := 8) (nest := false) (v := .int (nI mi)) d119_21 (by decide +kernel) (um_0 hM) (congrArg (fun z => some (Value.int z)) ((F_nt_o (by omega)).trans hmi)) ?_
  refine wp_iload_n d119_24 rfl ?_
  refine wp_invvU (e := 193) (j2 := 122) (n := 2) d119_25 (by decide +kernel) (by decide +kernel) rfl rfl rfl (um_41 hM) (by decide +kernel) (Nat.le_of_ble_eq_true rfl) rfl rfl (Nat.le_of_ble_eq_true rfl) (by decide +kernel) (u_noteWatched hM (k := mi) (by omega) (F_rb M nG)) hF ?_
  intro h hM hF
  refine wp_vret d119_28 (by decide +kernel) ?_
  exact ⟨rfl, hM, hF⟩
