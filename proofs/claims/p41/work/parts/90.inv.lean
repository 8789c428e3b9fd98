/-! What the class begins with. -/
theorem d1_0 : decode (m_code 1) 0 = .ok (.aload_n 0, 1) := by decide +kernel
theorem d1_1 : decode (m_code 1) 1 = .ok (.invokespecial 1, 3) := by decide +kernel
theorem d1_4 : decode (m_code 1) 4 = .ok (.aload_n 0, 1) := by decide +kernel
theorem d1_5 : decode (m_code 1) 5 = .ok (.new 7, 3) := by decide +kernel
theorem d1_8 : decode (m_code 1) 8 = .ok (.dup, 1) := by decide +kernel
theorem d1_9 : decode (m_code 1) 9 = .ok (.invokespecial 9, 3) := by decide +kernel
theorem d1_12 : decode (m_code 1) 12 = .ok (.putfield 10, 3) := by decide +kernel
theorem d1_15 : decode (m_code 1) 15 = .ok (.aload_n 0, 1) := by decide +kernel
theorem d1_16 : decode (m_code 1) 16 = .ok (.new 7, 3) := by decide +kernel
theorem d1_19 : decode (m_code 1) 19 = .ok (.dup, 1) := by decide +kernel
theorem d1_20 : decode (m_code 1) 20 = .ok (.invokespecial 9, 3) := by decide +kernel
theorem d1_23 : decode (m_code 1) 23 = .ok (.putfield 16, 3) := by decide +kernel
theorem d1_26 : decode (m_code 1) 26 = .ok (.aload_n 0, 1) := by decide +kernel
theorem d1_27 : decode (m_code 1) 27 = .ok (.new 7, 3) := by decide +kernel
theorem d1_30 : decode (m_code 1) 30 = .ok (.dup, 1) := by decide +kernel
theorem d1_31 : decode (m_code 1) 31 = .ok (.invokespecial 9, 3) := by decide +kernel
theorem d1_34 : decode (m_code 1) 34 = .ok (.putfield 19, 3) := by decide +kernel
theorem d1_37 : decode (m_code 1) 37 = .ok (.aload_n 0, 1) := by decide +kernel
theorem d1_38 : decode (m_code 1) 38 = .ok (.new 22, 3) := by decide +kernel
theorem d1_41 : decode (m_code 1) 41 = .ok (.dup, 1) := by decide +kernel
theorem d1_42 : decode (m_code 1) 42 = .ok (.invokespecial 24, 3) := by decide +kernel
theorem d1_45 : decode (m_code 1) 45 = .ok (.putfield 25, 3) := by decide +kernel
theorem d1_48 : decode (m_code 1) 48 = .ok (.aload_n 0, 1) := by decide +kernel
theorem d1_49 : decode (m_code 1) 49 = .ok (.new 29, 3) := by decide +kernel
theorem d1_52 : decode (m_code 1) 52 = .ok (.dup, 1) := by decide +kernel
theorem d1_53 : decode (m_code 1) 53 = .ok (.invokespecial 31, 3) := by decide +kernel
theorem d1_56 : decode (m_code 1) 56 = .ok (.putfield 32, 3) := by decide +kernel
theorem d1_59 : decode (m_code 1) 59 = .ok (.aload_n 0, 1) := by decide +kernel
theorem d1_60 : decode (m_code 1) 60 = .ok (.iconst 0, 1) := by decide +kernel
theorem d1_61 : decode (m_code 1) 61 = .ok (.putfield 36, 3) := by decide +kernel
theorem d1_64 : decode (m_code 1) 64 = .ok (.return_, 1) := by decide +kernel
theorem d2_0 : decode (m_code 2) 0 = .ok (.aload_n 0, 1) := by decide +kernel
theorem d2_1 : decode (m_code 2) 1 = .ok (.invokespecial 3, 3) := by decide +kernel
theorem d2_4 : decode (m_code 2) 4 = .ok (.aload_n 0, 1) := by decide +kernel
theorem d2_5 : decode (m_code 2) 5 = .ok (.new 9, 3) := by decide +kernel
theorem d2_8 : decode (m_code 2) 8 = .ok (.dup, 1) := by decide +kernel
theorem d2_9 : decode (m_code 2) 9 = .ok (.invokespecial 11, 3) := by decide +kernel
theorem d2_12 : decode (m_code 2) 12 = .ok (.putfield 12, 3) := by decide +kernel
theorem d2_15 : decode (m_code 2) 15 = .ok (.aload_n 0, 1) := by decide +kernel
theorem d2_16 : decode (m_code 2) 16 = .ok (.new 18, 3) := by decide +kernel
theorem d2_19 : decode (m_code 2) 19 = .ok (.dup, 1) := by decide +kernel
theorem d2_20 : decode (m_code 2) 20 = .ok (.invokespecial 20, 3) := by decide +kernel
theorem d2_23 : decode (m_code 2) 23 = .ok (.putfield 21, 3) := by decide +kernel
theorem d2_26 : decode (m_code 2) 26 = .ok (.aload_n 0, 1) := by decide +kernel
theorem d2_27 : decode (m_code 2) 27 = .ok (.new 25, 3) := by decide +kernel
theorem d2_30 : decode (m_code 2) 30 = .ok (.dup, 1) := by decide +kernel
theorem d2_31 : decode (m_code 2) 31 = .ok (.invokespecial 27, 3) := by decide +kernel
theorem d2_34 : decode (m_code 2) 34 = .ok (.putfield 28, 3) := by decide +kernel
theorem d2_37 : decode (m_code 2) 37 = .ok (.aload_n 0, 1) := by decide +kernel
theorem d2_38 : decode (m_code 2) 38 = .ok (.new 32, 3) := by decide +kernel
theorem d2_41 : decode (m_code 2) 41 = .ok (.dup, 1) := by decide +kernel
theorem d2_42 : decode (m_code 2) 42 = .ok (.invokespecial 34, 3) := by decide +kernel
theorem d2_45 : decode (m_code 2) 45 = .ok (.putfield 35, 3) := by decide +kernel
theorem d2_48 : decode (m_code 2) 48 = .ok (.aload_n 0, 1) := by decide +kernel
theorem d2_49 : decode (m_code 2) 49 = .ok (.new 39, 3) := by decide +kernel
theorem d2_52 : decode (m_code 2) 52 = .ok (.dup, 1) := by decide +kernel
theorem d2_53 : decode (m_code 2) 53 = .ok (.invokespecial 41, 3) := by decide +kernel
theorem d2_56 : decode (m_code 2) 56 = .ok (.putfield 42, 3) := by decide +kernel
theorem d2_59 : decode (m_code 2) 59 = .ok (.aload_n 0, 1) := by decide +kernel
theorem d2_60 : decode (m_code 2) 60 = .ok (.new 46, 3) := by decide +kernel
theorem d2_63 : decode (m_code 2) 63 = .ok (.dup, 1) := by decide +kernel
theorem d2_64 : decode (m_code 2) 64 = .ok (.invokespecial 48, 3) := by decide +kernel
theorem d2_67 : decode (m_code 2) 67 = .ok (.putfield 49, 3) := by decide +kernel
theorem d2_70 : decode (m_code 2) 70 = .ok (.aload_n 0, 1) := by decide +kernel
theorem d2_71 : decode (m_code 2) 71 = .ok (.new 53, 3) := by decide +kernel
theorem d2_74 : decode (m_code 2) 74 = .ok (.dup, 1) := by decide +kernel
theorem d2_75 : decode (m_code 2) 75 = .ok (.invokespecial 55, 3) := by decide +kernel
theorem d2_78 : decode (m_code 2) 78 = .ok (.putfield 56, 3) := by decide +kernel
theorem d2_81 : decode (m_code 2) 81 = .ok (.aload_n 0, 1) := by decide +kernel
theorem d2_82 : decode (m_code 2) 82 = .ok (.new 60, 3) := by decide +kernel
theorem d2_85 : decode (m_code 2) 85 = .ok (.dup, 1) := by decide +kernel
theorem d2_86 : decode (m_code 2) 86 = .ok (.invokespecial 62, 3) := by decide +kernel
theorem d2_89 : decode (m_code 2) 89 = .ok (.putfield 63, 3) := by decide +kernel
theorem d2_92 : decode (m_code 2) 92 = .ok (.aload_n 0, 1) := by decide +kernel
theorem d2_93 : decode (m_code 2) 93 = .ok (.iconst 0, 1) := by decide +kernel
theorem d2_94 : decode (m_code 2) 94 = .ok (.putfield 67, 3) := by decide +kernel
theorem d2_97 : decode (m_code 2) 97 = .ok (.aload_n 0, 1) := by decide +kernel
theorem d2_98 : decode (m_code 2) 98 = .ok (.iconst 0, 1) := by decide +kernel
theorem d2_99 : decode (m_code 2) 99 = .ok (.putfield 71, 3) := by decide +kernel
theorem d2_102 : decode (m_code 2) 102 = .ok (.return_, 1) := by decide +kernel
theorem d12_0 : decode (m_code 12) 0 = .ok (.aload_n 0, 1) := by decide +kernel
theorem d12_1 : decode (m_code 12) 1 = .ok (.invokespecial 3, 3) := by decide +kernel
theorem d12_4 : decode (m_code 12) 4 = .ok (.aload_n 0, 1) := by decide +kernel
theorem d12_5 : decode (m_code 12) 5 = .ok (.new 9, 3) := by decide +kernel
theorem d12_8 : decode (m_code 12) 8 = .ok (.dup, 1) := by decide +kernel
theorem d12_9 : decode (m_code 12) 9 = .ok (.invokespecial 11, 3) := by decide +kernel
theorem d12_12 : decode (m_code 12) 12 = .ok (.putfield 12, 3) := by decide +kernel
theorem d12_15 : decode (m_code 12) 15 = .ok (.aload_n 0, 1) := by decide +kernel
theorem d12_16 : decode (m_code 12) 16 = .ok (.new 9, 3) := by decide +kernel
theorem d12_19 : decode (m_code 12) 19 = .ok (.dup, 1) := by decide +kernel
theorem d12_20 : decode (m_code 12) 20 = .ok (.invokespecial 11, 3) := by decide +kernel
theorem d12_23 : decode (m_code 12) 23 = .ok (.putfield 18, 3) := by decide +kernel
theorem d12_26 : decode (m_code 12) 26 = .ok (.aload_n 0, 1) := by decide +kernel
theorem d12_27 : decode (m_code 12) 27 = .ok (.new 9, 3) := by decide +kernel
theorem d12_30 : decode (m_code 12) 30 = .ok (.dup, 1) := by decide +kernel
theorem d12_31 : decode (m_code 12) 31 = .ok (.invokespecial 11, 3) := by decide +kernel
theorem d12_34 : decode (m_code 12) 34 = .ok (.putfield 21, 3) := by decide +kernel
theorem d12_37 : decode (m_code 12) 37 = .ok (.aload_n 0, 1) := by decide +kernel
theorem d12_38 : decode (m_code 12) 38 = .ok (.new 9, 3) := by decide +kernel
theorem d12_41 : decode (m_code 12) 41 = .ok (.dup, 1) := by decide +kernel
theorem d12_42 : decode (m_code 12) 42 = .ok (.invokespecial 11, 3) := by decide +kernel
theorem d12_45 : decode (m_code 12) 45 = .ok (.putfield 24, 3) := by decide +kernel
theorem d12_48 : decode (m_code 12) 48 = .ok (.aload_n 0, 1) := by decide +kernel
theorem d12_49 : decode (m_code 12) 49 = .ok (.iconst 0, 1) := by decide +kernel
theorem d12_50 : decode (m_code 12) 50 = .ok (.putfield 27, 3) := by decide +kernel
theorem d12_53 : decode (m_code 12) 53 = .ok (.return_, 1) := by decide +kernel
def fMU (n : Nat) : List Value := [.ref (n + 0), .ref (n + 7), .ref (n + 14), .ref (n + 16), .ref (n + 18), .ref (n + 28), .ref (n + 34), .ref (n + 40), .int (nI 0), .int (nI 0)]
def cMU (n : Nat) : List mC := [.inr (2, [.ref (n + 1), .ref (n + 2), .ref (n + 3), .ref (n + 4), .ref (n + 5), .ref (n + 6), .int (nI 1)]), .inl (false, 12, (upd (fun _ => 0) 0 ((-5 : Int32)))), .inl (false, 12, (fun _ => 0)), .inl (false, 12, (fun _ => 0)), .inl (false, 12, (fun _ => 0)), .inl (false, 12, (fun _ => 0)), .inl (false, 12, (fun _ => 0)), .inr (3, [.ref (n + 8), .ref (n + 9), .ref (n + 10), .ref (n + 11), .ref (n + 12), .ref (n + 13), .int (nI 0)]), .inl (false, 20, (fun _ => 0)), .inl (false, 20, (fun _ => 0)), .inl (false, 20, (fun _ => 0)), .inl (false, 20, (fun _ => 0)), .inl (false, 20, (fun _ => 0)), .inl (false, 12, (fun _ => 0)), .inr (4, [.ref (n + 15), .int (nI 0)]), .inl (false, 6, (fun _ => 0)), .inr (5, [.ref (n + 17)]), .inl (false, 8, (upd (upd (upd (upd (upd (upd (upd (upd (fun _ => 0) 0 ((-5 : Int32))) 1 ((-5 : Int32))) 2 ((-5 : Int32))) 3 ((-5 : Int32))) 4 ((-5 : Int32))) 5 ((-5 : Int32))) 6 ((-5 : Int32))) 7 ((-5 : Int32)))), .inr (6, [.ref (n + 19), .ref (n + 20), .ref (n + 21), .ref (n + 22), .ref (n + 23), .ref (n + 24), .ref (n + 25), .ref (n + 26), .ref (n + 27), .int (nI 0)]), .inl (false, 4, (fun _ => 0)), .inl (false, 4, (fun _ => 0)), .inl (false, 4, (fun _ => 0)), .inl (false, 4, (fun _ => 0)), .inl (false, 4, (fun _ => 0)), .inl (false, 4, (fun _ => 0)), .inl (false, 4, (fun _ => 0)), .inl (false, 4, (fun _ => 0)), .inl (false, 48, (fun _ => 0)), .inr (7, [.ref (n + 29), .ref (n + 30), .ref (n + 31), .ref (n + 32), .ref (n + 33), .int (nI 0)]), .inl (false, 10, (fun _ => 0)), .inl (false, 10, (fun _ => 0)), .inl (false, 10, (fun _ => 0)), .inl (false, 10, (fun _ => 0)), .inl (false, 10, (fun _ => 0)), .inr (8, [.ref (n + 35), .ref (n + 36), .ref (n + 37), .ref (n + 38), .ref (n + 39), .int (nI 0), .int (nI 0)]), .inl (false, 40, (fun _ => 0)), .inl (false, 40, (fun _ => 0)), .inl (false, 40, (fun _ => 0)), .inl (false, 40, (fun _ => 0)), .inl (false, 40, (fun _ => 0)), .inr (9, [.ref (n + 41), .ref (n + 42), .int (nI 0)]), .inl (false, 720, (fun _ => 0)), .inl (false, 64, (fun _ => 0))]
def MU (n : Nat) : List mC := .inr (1, fMU (n + 1)) :: cMU (n + 1)
theorem ctor_2 {X : mX} {h0 : mH} {a n : Nat} (he : m_get h0 a = some (.inr (1, m_df 1))) (hn : h0.1.length = n) : m_wp X 2 0 (m_entry 2 [.ref a]) [] h0 (fun w h1 => w = none ∧ Bd h0 a h1 1 (fMU n) (cMU n) 1355) := by
  subst hn
  have hB := Bd.rf he
  refine wp_aload_n d2_0 rfl ?_
  refine wp_obj (e := 3) (j2 := 0) d2_1 (by decide +kernel) (Nat.le_of_ble_eq_true rfl) rfl (by decide +kernel) ?_
  refine wp_aload_n d2_4 rfl ?_
  refine wp_newo (e := 9) (ci := 2) d2_5 (by decide +kernel) ?_
  refine bd_new hB rfl (k := 0) rfl (.inr (2, m_df 2)) _ (fun h hB => ?_)
  refine wp_dup d2_8 rfl ?_
  refine wp_invi (e := 11) (j2 := 3) (n := 0) (kind := 0) d2_9 (by decide +kernel) (by decide) (by decide +kernel) rfl rfl rfl (Nat.le_of_ble_eq_true rfl) rfl rfl (Nat.le_of_ble_eq_true rfl) (by decide +kernel) (ctor_3 (hB.last (k := 0) rfl) (hB.lenN (k := 1) rfl)) (fun v h1 hq => ?_)
  obtain ⟨rfl, hD⟩ := hq
  show m_wp X 2 _ _ [_, _] _ _
  refine bd_step (hB.callN (k := 0) rfl hD) (fun h hB => ?_)
  refine wp_putf (e := 12) (ci := 1) (k := 0) (nest := false) d2_12 (by decide +kernel) hB.2.2.2.2.1 (Nat.le_of_ble_eq_true rfl) rfl (Or.inr (by decide +kernel)) ?_
  refine bd_step (hB.put _) (fun h hB => ?_)
  refine wp_aload_n d2_15 rfl ?_
  refine wp_newo (e := 18) (ci := 3) d2_16 (by decide +kernel) ?_
  refine bd_new hB rfl (k := 7) rfl (.inr (3, m_df 3)) _ (fun h hB => ?_)
  refine wp_dup d2_19 rfl ?_
  refine wp_invi (e := 20) (j2 := 4) (n := 0) (kind := 1) d2_20 (by decide +kernel) (by decide) (by decide +kernel) rfl rfl rfl (Nat.le_of_ble_eq_true rfl) rfl rfl (Nat.le_of_ble_eq_true rfl) (by decide +kernel) (ctor_4 (hB.last (k := 7) rfl) (hB.lenN (k := 8) rfl)) (fun v h1 hq => ?_)
  obtain ⟨rfl, hD⟩ := hq
  show m_wp X 2 _ _ [_, _] _ _
  refine bd_step (hB.callN (k := 7) rfl hD) (fun h hB => ?_)
  refine wp_putf (e := 21) (ci := 1) (k := 1) (nest := false) d2_23 (by decide +kernel) hB.2.2.2.2.1 (Nat.le_of_ble_eq_true rfl) rfl (Or.inr (by decide +kernel)) ?_
  refine bd_step (hB.put _) (fun h hB => ?_)
  refine wp_aload_n d2_26 rfl ?_
  refine wp_newo (e := 25) (ci := 4) d2_27 (by decide +kernel) ?_
  refine bd_new hB rfl (k := 14) rfl (.inr (4, m_df 4)) _ (fun h hB => ?_)
  refine wp_dup d2_30 rfl ?_
  refine wp_invi (e := 27) (j2 := 5) (n := 0) (kind := 1) d2_31 (by decide +kernel) (by decide) (by decide +kernel) rfl rfl rfl (Nat.le_of_ble_eq_true rfl) rfl rfl (Nat.le_of_ble_eq_true rfl) (by decide +kernel) (ctor_5 (hB.last (k := 14) rfl) (hB.lenN (k := 15) rfl)) (fun v h1 hq => ?_)
  obtain ⟨rfl, hD⟩ := hq
  show m_wp X 2 _ _ [_, _] _ _
  refine bd_step (hB.callN (k := 14) rfl hD) (fun h hB => ?_)
  refine wp_putf (e := 28) (ci := 1) (k := 2) (nest := false) d2_34 (by decide +kernel) hB.2.2.2.2.1 (Nat.le_of_ble_eq_true rfl) rfl (Or.inr (by decide +kernel)) ?_
  refine bd_step (hB.put _) (fun h hB => ?_)
  refine wp_aload_n d2_37 rfl ?_
  refine wp_newo (e := 32) (ci := 5) d2_38 (by decide +kernel) ?_
  refine bd_new hB rfl (k := 16) rfl (.inr (5, m_df 5)) _ (fun h hB => ?_)
  refine wp_dup d2_41 rfl ?_
  refine wp_invi (e := 34) (j2 := 6) (n := 0) (kind := 0) d2_42 (by decide +kernel) (by decide) (by decide +kernel) rfl rfl rfl (Nat.le_of_ble_eq_true rfl) rfl rfl (Nat.le_of_ble_eq_true rfl) (by decide +kernel) (ctor_6 (hB.last (k := 16) rfl) (hB.lenN (k := 17) rfl)) (fun v h1 hq => ?_)
  obtain ⟨rfl, hD⟩ := hq
  show m_wp X 2 _ _ [_, _] _ _
  refine bd_step (hB.callN (k := 16) rfl hD) (fun h hB => ?_)
  refine wp_putf (e := 35) (ci := 1) (k := 3) (nest := false) d2_45 (by decide +kernel) hB.2.2.2.2.1 (Nat.le_of_ble_eq_true rfl) rfl (Or.inr (by decide +kernel)) ?_
  refine bd_step (hB.put _) (fun h hB => ?_)
  refine wp_aload_n d2_48 rfl ?_
  refine wp_newo (e := 39) (ci := 6) d2_49 (by decide +kernel) ?_
  refine bd_new hB rfl (k := 18) rfl (.inr (6, m_df 6)) _ (fun h hB => ?_)
  refine wp_dup d2_52 rfl ?_
  refine wp_invi (e := 41) (j2 := 8) (n := 0) (kind := 1) d2_53 (by decide +kernel) (by decide) (by decide +kernel) rfl rfl rfl (Nat.le_of_ble_eq_true rfl) rfl rfl (Nat.le_of_ble_eq_true rfl) (by decide +kernel) (ctor_8 (hB.last (k := 18) rfl) (hB.lenN (k := 19) rfl)) (fun v h1 hq => ?_)
  obtain ⟨rfl, hD⟩ := hq
  show m_wp X 2 _ _ [_, _] _ _
  refine bd_step (hB.callN (k := 18) rfl hD) (fun h hB => ?_)
  refine wp_putf (e := 42) (ci := 1) (k := 4) (nest := false) d2_56 (by decide +kernel) hB.2.2.2.2.1 (Nat.le_of_ble_eq_true rfl) rfl (Or.inr (by decide +kernel)) ?_
  refine bd_step (hB.put _) (fun h hB => ?_)
  refine wp_aload_n d2_59 rfl ?_
  refine wp_newo (e := 46) (ci := 7) d2_60 (by decide +kernel) ?_
  refine bd_new hB rfl (k := 28) rfl (.inr (7, m_df 7)) _ (fun h hB => ?_)
  refine wp_dup d2_63 rfl ?_
  refine wp_invi (e := 48) (j2 := 9) (n := 0) (kind := 1) d2_64 (by decide +kernel) (by decide) (by decide +kernel) rfl rfl rfl (Nat.le_of_ble_eq_true rfl) rfl rfl (Nat.le_of_ble_eq_true rfl) (by decide +kernel) (ctor_9 (hB.last (k := 28) rfl) (hB.lenN (k := 29) rfl)) (fun v h1 hq => ?_)
  obtain ⟨rfl, hD⟩ := hq
  show m_wp X 2 _ _ [_, _] _ _
  refine bd_step (hB.callN (k := 28) rfl hD) (fun h hB => ?_)
  refine wp_putf (e := 49) (ci := 1) (k := 5) (nest := false) d2_67 (by decide +kernel) hB.2.2.2.2.1 (Nat.le_of_ble_eq_true rfl) rfl (Or.inr (by decide +kernel)) ?_
  refine bd_step (hB.put _) (fun h hB => ?_)
  refine wp_aload_n d2_70 rfl ?_
  refine wp_newo (e := 53) (ci := 8) d2_71 (by decide +kernel) ?_
  refine bd_new hB rfl (k := 34) rfl (.inr (8, m_df 8)) _ (fun h hB => ?_)
  refine wp_dup d2_74 rfl ?_
  refine wp_invi (e := 55) (j2 := 10) (n := 0) (kind := 1) d2_75 (by decide +kernel) (by decide) (by decide +kernel) rfl rfl rfl (Nat.le_of_ble_eq_true rfl) rfl rfl (Nat.le_of_ble_eq_true rfl) (by decide +kernel) (ctor_10 (hB.last (k := 34) rfl) (hB.lenN (k := 35) rfl)) (fun v h1 hq => ?_)
  obtain ⟨rfl, hD⟩ := hq
  show m_wp X 2 _ _ [_, _] _ _
  refine bd_step (hB.callN (k := 34) rfl hD) (fun h hB => ?_)
  refine wp_putf (e := 56) (ci := 1) (k := 6) (nest := false) d2_78 (by decide +kernel) hB.2.2.2.2.1 (Nat.le_of_ble_eq_true rfl) rfl (Or.inr (by decide +kernel)) ?_
  refine bd_step (hB.put _) (fun h hB => ?_)
  refine wp_aload_n d2_81 rfl ?_
  refine wp_newo (e := 60) (ci := 9) d2_82 (by decide +kernel) ?_
  refine bd_new hB rfl (k := 40) rfl (.inr (9, m_df 9)) _ (fun h hB => ?_)
  refine wp_dup d2_85 rfl ?_
  refine wp_invi (e := 62) (j2 := 11) (n := 0) (kind := 1) d2_86 (by decide +kernel) (by decide) (by decide +kernel) rfl rfl rfl (Nat.le_of_ble_eq_true rfl) rfl rfl (Nat.le_of_ble_eq_true rfl) (by decide +kernel) (ctor_11 (hB.last (k := 40) rfl) (hB.lenN (k := 41) rfl)) (fun v h1 hq => ?_)
  obtain ⟨rfl, hD⟩ := hq
  show m_wp X 2 _ _ [_, _] _ _
  refine bd_step (hB.callN (k := 40) rfl hD) (fun h hB => ?_)
  refine wp_putf (e := 63) (ci := 1) (k := 7) (nest := false) d2_89 (by decide +kernel) hB.2.2.2.2.1 (Nat.le_of_ble_eq_true rfl) rfl (Or.inr (by decide +kernel)) ?_
  refine bd_step (hB.put _) (fun h hB => ?_)
  refine wp_aload_n d2_92 rfl ?_
  refine wp_iconst d2_93 (v := nI 0) (by decide) ?_
  refine wp_putf (e := 67) (ci := 1) (k := 8) (nest := false) d2_94 (by decide +kernel) hB.2.2.2.2.1 (Nat.le_of_ble_eq_true rfl) rfl (Or.inl (by decide +kernel)) ?_
  refine bd_step (hB.put _) (fun h hB => ?_)
  refine wp_aload_n d2_97 rfl ?_
  refine wp_iconst d2_98 (v := nI 0) (by decide) ?_
  refine wp_putf (e := 71) (ci := 1) (k := 9) (nest := false) d2_99 (by decide +kernel) hB.2.2.2.2.1 (Nat.le_of_ble_eq_true rfl) rfl (Or.inl (by decide +kernel)) ?_
  refine bd_step (hB.put _) (fun h hB => ?_)
  refine wp_vret d2_102 (by decide +kernel) ?_
  exact ⟨rfl, hB⟩
def cHI (n : Nat) : List mC := ((MU n ++ MU (n + 44)) ++ MU (n + 88)) ++ MU (n + 132)
def fHI (n : Nat) : List Value := [.ref (n + 0), .ref (n + 44), .ref (n + 88), .ref (n + 132), .int (nI 0)]
theorem ctor_12 {X : mX} {h0 : mH} {a n : Nat} (he : m_get h0 a = some (.inr (10, m_df 10))) (hn : h0.1.length = n) : m_wp X 12 0 (m_entry 12 [.ref a]) [] h0 (fun w h1 => w = none ∧ Bd h0 a h1 10 (fHI n) (cHI n) 5460) := by
  subst hn
  have hB := Bd.rf he
  refine wp_aload_n d12_0 rfl ?_
  refine wp_obj (e := 3) (j2 := 0) d12_1 (by decide +kernel) (Nat.le_of_ble_eq_true rfl) rfl (by decide +kernel) ?_
  refine wp_aload_n d12_4 rfl ?_
  refine wp_newo (e := 9) (ci := 1) d12_5 (by decide +kernel) ?_
  refine bd_new hB rfl (k := 0) rfl (.inr (1, m_df 1)) _ (fun h hB => ?_)
  refine wp_dup d12_8 rfl ?_
  refine wp_invi (e := 11) (j2 := 2) (n := 0) (kind := 1) d12_9 (by decide +kernel) (by decide) (by decide +kernel) rfl rfl rfl (Nat.le_of_ble_eq_true rfl) rfl rfl (Nat.le_of_ble_eq_true rfl) (by decide +kernel) (ctor_2 (hB.last (k := 0) rfl) (hB.lenN (k := 1) rfl)) (fun v h1 hq => ?_)
  obtain ⟨rfl, hD⟩ := hq
  show m_wp X 12 _ _ [_, _] _ _
  refine bd_step (hB.callN (k := 0) rfl hD) (fun h hB => ?_)
  refine wp_putf (e := 12) (ci := 10) (k := 0) (nest := false) d12_12 (by decide +kernel) hB.2.2.2.2.1 (Nat.le_of_ble_eq_true rfl) rfl (Or.inl (by decide +kernel)) ?_
  refine bd_step (hB.put _) (fun h hB => ?_)
  refine wp_aload_n d12_15 rfl ?_
  refine wp_newo (e := 9) (ci := 1) d12_16 (by decide +kernel) ?_
  refine bd_new hB rfl (k := 44) rfl (.inr (1, m_df 1)) _ (fun h hB => ?_)
  refine wp_dup d12_19 rfl ?_
  refine wp_invi (e := 11) (j2 := 2) (n := 0) (kind := 1) d12_20 (by decide +kernel) (by decide) (by decide +kernel) rfl rfl rfl (Nat.le_of_ble_eq_true rfl) rfl rfl (Nat.le_of_ble_eq_true rfl) (by decide +kernel) (ctor_2 (hB.last (k := 44) rfl) (hB.lenN (k := 45) rfl)) (fun v h1 hq => ?_)
  obtain ⟨rfl, hD⟩ := hq
  show m_wp X 12 _ _ [_, _] _ _
  refine bd_step (hB.callN (k := 44) rfl hD) (fun h hB => ?_)
  refine wp_putf (e := 18) (ci := 10) (k := 1) (nest := false) d12_23 (by decide +kernel) hB.2.2.2.2.1 (Nat.le_of_ble_eq_true rfl) rfl (Or.inl (by decide +kernel)) ?_
  refine bd_step (hB.put _) (fun h hB => ?_)
  refine wp_aload_n d12_26 rfl ?_
  refine wp_newo (e := 9) (ci := 1) d12_27 (by decide +kernel) ?_
  refine bd_new hB rfl (k := 88) rfl (.inr (1, m_df 1)) _ (fun h hB => ?_)
  refine wp_dup d12_30 rfl ?_
  refine wp_invi (e := 11) (j2 := 2) (n := 0) (kind := 1) d12_31 (by decide +kernel) (by decide) (by decide +kernel) rfl rfl rfl (Nat.le_of_ble_eq_true rfl) rfl rfl (Nat.le_of_ble_eq_true rfl) (by decide +kernel) (ctor_2 (hB.last (k := 88) rfl) (hB.lenN (k := 89) rfl)) (fun v h1 hq => ?_)
  obtain ⟨rfl, hD⟩ := hq
  show m_wp X 12 _ _ [_, _] _ _
  refine bd_step (hB.callN (k := 88) rfl hD) (fun h hB => ?_)
  refine wp_putf (e := 21) (ci := 10) (k := 2) (nest := false) d12_34 (by decide +kernel) hB.2.2.2.2.1 (Nat.le_of_ble_eq_true rfl) rfl (Or.inl (by decide +kernel)) ?_
  refine bd_step (hB.put _) (fun h hB => ?_)
  refine wp_aload_n d12_37 rfl ?_
  refine wp_newo (e := 9) (ci := 1) d12_38 (by decide +kernel) ?_
  refine bd_new hB rfl (k := 132) rfl (.inr (1, m_df 1)) _ (fun h hB => ?_)
  refine wp_dup d12_41 rfl ?_
  refine wp_invi (e := 11) (j2 := 2) (n := 0) (kind := 1) d12_42 (by decide +kernel) (by decide) (by decide +kernel) rfl rfl rfl (Nat.le_of_ble_eq_true rfl) rfl rfl (Nat.le_of_ble_eq_true rfl) (by decide +kernel) (ctor_2 (hB.last (k := 132) rfl) (hB.lenN (k := 133) rfl)) (fun v h1 hq => ?_)
  obtain ⟨rfl, hD⟩ := hq
  show m_wp X 12 _ _ [_, _] _ _
  refine bd_step (hB.callN (k := 132) rfl hD) (fun h hB => ?_)
  refine wp_putf (e := 24) (ci := 10) (k := 3) (nest := false) d12_45 (by decide +kernel) hB.2.2.2.2.1 (Nat.le_of_ble_eq_true rfl) rfl (Or.inl (by decide +kernel)) ?_
  refine bd_step (hB.put _) (fun h hB => ?_)
  refine wp_aload_n d12_48 rfl ?_
  refine wp_iconst d12_49 (v := nI 0) (by decide) ?_
  refine wp_putf (e := 27) (ci := 10) (k := 4) (nest := false) d12_50 (by decide +kernel) hB.2.2.2.2.1 (Nat.le_of_ble_eq_true rfl) rfl (Or.inl (by decide +kernel)) ?_
  refine bd_step (hB.put _) (fun h hB => ?_)
  refine wp_vret d12_53 (by decide +kernel) ?_
  exact ⟨rfl, hB⟩
theorem cMU_len {n : Nat} : (cMU n).length = 43 := rfl
theorem MU_len {n : Nat} : (MU n).length = 44 := rfl
theorem cHI_len {n : Nat} : (cHI n).length = 176 := by
  rw [cHI, List.length_append, List.length_append, List.length_append, MU_len, MU_len, MU_len, MU_len]
def cAll (n : Nat) : List mC := (((MU n ++ MU (n + 44)) ++ MU (n + 88)) ++ (.inr (10, fHI (n + 133)) :: cHI (n + 133))) ++ (.inr (11, [.ref ((n + 310) + 0), .int (nI 0), .ref ((n + 310) + 1), .int (nI 0), .int (nI 0)]) :: [.inl (true, 60, (fun _ => 0)), .inl (false, 31, (fun _ => 0))])
theorem ctor_1 {X : mX} {h0 : mH} {a n : Nat} (he : m_get h0 a = some (.inr (0, m_df 0))) (hn : h0.1.length = n) : m_wp X 1 0 (m_entry 1 [.ref a]) [] h0 (fun w h1 => w = none ∧ Bd h0 a h1 0 [.ref (n + 0), .ref (n + 44), .ref (n + 88), .ref (n + 132), .ref (n + 309), .int (nI 0)] (cAll n) 9656) := by
  subst hn
  have hB := Bd.rf he
  refine wp_aload_n d1_0 rfl ?_
  refine wp_obj (e := 1) (j2 := 0) d1_1 (by decide +kernel) (Nat.le_of_ble_eq_true rfl) rfl (by decide +kernel) ?_
  refine wp_aload_n d1_4 rfl ?_
  refine wp_newo (e := 7) (ci := 1) d1_5 (by decide +kernel) ?_
  refine bd_new hB rfl (k := 0) rfl (.inr (1, m_df 1)) _ (fun h hB => ?_)
  refine wp_dup d1_8 rfl ?_
  refine wp_invi (e := 9) (j2 := 2) (n := 0) (kind := 1) d1_9 (by decide +kernel) (by decide) (by decide +kernel) rfl rfl rfl (Nat.le_of_ble_eq_true rfl) rfl rfl (Nat.le_of_ble_eq_true rfl) (by decide +kernel) (ctor_2 (hB.last (k := 0) rfl) (hB.lenN (k := 1) rfl)) (fun v h1 hq => ?_)
  obtain ⟨rfl, hD⟩ := hq
  show m_wp X 1 _ _ [_, _] _ _
  refine bd_step (hB.callN (k := 0) rfl hD) (fun h hB => ?_)
  refine wp_putf (e := 10) (ci := 0) (k := 0) (nest := false) d1_12 (by decide +kernel) hB.2.2.2.2.1 (Nat.le_of_ble_eq_true rfl) rfl (Or.inr (by decide +kernel)) ?_
  refine bd_step (hB.put _) (fun h hB => ?_)
  refine wp_aload_n d1_15 rfl ?_
  refine wp_newo (e := 7) (ci := 1) d1_16 (by decide +kernel) ?_
  refine bd_new hB rfl (k := 44) rfl (.inr (1, m_df 1)) _ (fun h hB => ?_)
  refine wp_dup d1_19 rfl ?_
  refine wp_invi (e := 9) (j2 := 2) (n := 0) (kind := 1) d1_20 (by decide +kernel) (by decide) (by decide +kernel) rfl rfl rfl (Nat.le_of_ble_eq_true rfl) rfl rfl (Nat.le_of_ble_eq_true rfl) (by decide +kernel) (ctor_2 (hB.last (k := 44) rfl) (hB.lenN (k := 45) rfl)) (fun v h1 hq => ?_)
  obtain ⟨rfl, hD⟩ := hq
  show m_wp X 1 _ _ [_, _] _ _
  refine bd_step (hB.callN (k := 44) rfl hD) (fun h hB => ?_)
  refine wp_putf (e := 16) (ci := 0) (k := 1) (nest := false) d1_23 (by decide +kernel) hB.2.2.2.2.1 (Nat.le_of_ble_eq_true rfl) rfl (Or.inr (by decide +kernel)) ?_
  refine bd_step (hB.put _) (fun h hB => ?_)
  refine wp_aload_n d1_26 rfl ?_
  refine wp_newo (e := 7) (ci := 1) d1_27 (by decide +kernel) ?_
  refine bd_new hB rfl (k := 88) rfl (.inr (1, m_df 1)) _ (fun h hB => ?_)
  refine wp_dup d1_30 rfl ?_
  refine wp_invi (e := 9) (j2 := 2) (n := 0) (kind := 1) d1_31 (by decide +kernel) (by decide) (by decide +kernel) rfl rfl rfl (Nat.le_of_ble_eq_true rfl) rfl rfl (Nat.le_of_ble_eq_true rfl) (by decide +kernel) (ctor_2 (hB.last (k := 88) rfl) (hB.lenN (k := 89) rfl)) (fun v h1 hq => ?_)
  obtain ⟨rfl, hD⟩ := hq
  show m_wp X 1 _ _ [_, _] _ _
  refine bd_step (hB.callN (k := 88) rfl hD) (fun h hB => ?_)
  refine wp_putf (e := 19) (ci := 0) (k := 2) (nest := false) d1_34 (by decide +kernel) hB.2.2.2.2.1 (Nat.le_of_ble_eq_true rfl) rfl (Or.inr (by decide +kernel)) ?_
  refine bd_step (hB.put _) (fun h hB => ?_)
  refine wp_aload_n d1_37 rfl ?_
  refine wp_newo (e := 22) (ci := 10) d1_38 (by decide +kernel) ?_
  refine bd_new hB rfl (k := 132) (by simp only [List.length_append, List.length_cons, List.length_nil, cMU_len, cHI_len]) (.inr (10, m_df 10)) _ (fun h hB => ?_)
  refine wp_dup d1_41 rfl ?_
  refine wp_invi (e := 24) (j2 := 12) (n := 0) (kind := 1) d1_42 (by decide +kernel) (by decide) (by decide +kernel) rfl rfl rfl (Nat.le_of_ble_eq_true rfl) rfl rfl (Nat.le_of_ble_eq_true rfl) (by decide +kernel) (ctor_12 (hB.last (k := 132) (by simp only [List.length_append, List.length_cons, List.length_nil, cMU_len, cHI_len])) (hB.lenN (k := 133) (by simp only [List.length_append, List.length_cons, List.length_nil, cMU_len, cHI_len]))) (fun v h1 hq => ?_)
  obtain ⟨rfl, hD⟩ := hq
  show m_wp X 1 _ _ [_, _] _ _
  refine bd_step (hB.callN (k := 132) (by simp only [List.length_append, List.length_cons, List.length_nil, cMU_len, cHI_len]) hD) (fun h hB => ?_)
  refine wp_putf (e := 25) (ci := 0) (k := 3) (nest := false) d1_45 (by decide +kernel) hB.2.2.2.2.1 (Nat.le_of_ble_eq_true rfl) rfl (Or.inr (by decide +kernel)) ?_
  refine bd_step (hB.put _) (fun h hB => ?_)
  refine wp_aload_n d1_48 rfl ?_
  refine wp_newo (e := 29) (ci := 11) d1_49 (by decide +kernel) ?_
  refine bd_new hB rfl (k := 309) (by simp only [List.length_append, List.length_cons, List.length_nil, cMU_len, cHI_len]) (.inr (11, m_df 11)) _ (fun h hB => ?_)
  refine wp_dup d1_52 rfl ?_
  refine wp_invi (e := 31) (j2 := 13) (n := 0) (kind := 1) d1_53 (by decide +kernel) (by decide) (by decide +kernel) rfl rfl rfl (Nat.le_of_ble_eq_true rfl) rfl rfl (Nat.le_of_ble_eq_true rfl) (by decide +kernel) (ctor_13 (hB.last (k := 309) (by simp only [List.length_append, List.length_cons, List.length_nil, cMU_len, cHI_len])) (hB.lenN (k := 310) (by simp only [List.length_append, List.length_cons, List.length_nil, cMU_len, cHI_len]))) (fun v h1 hq => ?_)
  obtain ⟨rfl, hD⟩ := hq
  show m_wp X 1 _ _ [_, _] _ _
  refine bd_step (hB.callN (k := 309) (by simp only [List.length_append, List.length_cons, List.length_nil, cMU_len, cHI_len]) hD) (fun h hB => ?_)
  refine wp_putf (e := 32) (ci := 0) (k := 4) (nest := false) d1_56 (by decide +kernel) hB.2.2.2.2.1 (Nat.le_of_ble_eq_true rfl) rfl (Or.inr (by decide +kernel)) ?_
  refine bd_step (hB.put _) (fun h hB => ?_)
  refine wp_aload_n d1_59 rfl ?_
  refine wp_iconst d1_60 (v := nI 0) (by decide) ?_
  refine wp_putf (e := 36) (ci := 0) (k := 5) (nest := false) d1_61 (by decide +kernel) hB.2.2.2.2.1 (Nat.le_of_ble_eq_true rfl) rfl (Or.inl (by decide +kernel)) ?_
  refine bd_step (hB.put _) (fun h hB => ?_)
  refine wp_vret d1_64 (by decide +kernel) ?_
  exact ⟨rfl, hB⟩
