/-! The reference's cells, and its small methods. -/
def mdlC (o : Nat) (f : Nat → Int32) : mC :=
  match o with
  | 0 => .inr (12, [.ref 314, .ref 315, .ref 316, .int (f 3), .ref 317, .int (f 5), .ref 318, .int (f 7), .ref 319, .ref 320, .int (f 10)])
  | 1 => .inl (false, 4178, f)
  | 2 => .inl (false, 4178, f)
  | 3 => .inl (false, 4178, f)
  | 4 => .inl (false, 16712, f)
  | 5 => .inl (false, 60, f)
  | 6 => .inl (false, 12, f)
  | _ => .inl (false, 60, f)
abbrev Mdl (h : mH) (R : Nat → Nat → Int32) : Prop := Reg h 313 8 mdlC R
/-- the state's row by itself -/
abbrev Ms (h : mH) (R : Nat → Nat → Int32) (σ : Nat → Int32) : Prop := Mdl h (stM R 1 σ)
theorem md_0 {h : mH} {R : Nat → Nat → Int32} {σ : Nat → Int32} (hR : Ms h R σ) : m_get h 313 = some (.inr (12, [.ref 314, .ref 315, .ref 316, .int (R 0 3), .ref 317, .int (R 0 5), .ref 318, .int (R 0 7), .ref 319, .ref 320, .int (R 0 10)])) := hR 0 (by decide)
theorem md_1 {h : mH} {R : Nat → Nat → Int32} {σ : Nat → Int32} (hR : Ms h R σ) : m_get h 314 = some (.inl (false, 4178, σ)) := hR 1 (by decide)
theorem md_2 {h : mH} {R : Nat → Nat → Int32} {σ : Nat → Int32} (hR : Ms h R σ) : m_get h 315 = some (.inl (false, 4178, R 2)) := hR 2 (by decide)
theorem md_3 {h : mH} {R : Nat → Nat → Int32} {σ : Nat → Int32} (hR : Ms h R σ) : m_get h 316 = some (.inl (false, 4178, R 3)) := hR 3 (by decide)
theorem md_4 {h : mH} {R : Nat → Nat → Int32} {σ : Nat → Int32} (hR : Ms h R σ) : m_get h 317 = some (.inl (false, 16712, R 4)) := hR 4 (by decide)
theorem md_5 {h : mH} {R : Nat → Nat → Int32} {σ : Nat → Int32} (hR : Ms h R σ) : m_get h 318 = some (.inl (false, 60, R 5)) := hR 5 (by decide)
theorem md_6 {h : mH} {R : Nat → Nat → Int32} {σ : Nat → Int32} (hR : Ms h R σ) : m_get h 319 = some (.inl (false, 12, R 6)) := hR 6 (by decide)
theorem md_7 {h : mH} {R : Nat → Nat → Int32} {σ : Nat → Int32} (hR : Ms h R σ) : m_get h 320 = some (.inl (false, 60, R 7)) := hR 7 (by decide)
theorem nI_pred_le {v : Int32} {n : Nat} (hn : n < 2 ^ 31) : v ≤ nI n - 1 ↔ v < nI n := by
  have e : (nI n - 1).toInt = (n : Int) - 1 := by
    rw [Int32.toInt_sub, nI_toInt hn, show (1 : Int32).toInt = 1 from rfl, Int.bmod_eq_of_le (by omega) (by omega)]
  rw [Int32.le_iff_toInt_le, Int32.lt_iff_toInt_lt, e, nI_toInt hn]
  omega
theorem d209_0 : decode (m_code 209) 0 = .ok (.iload_n 0, 1) := by decide +kernel
theorem d209_1 : decode (m_code 209) 1 = .ok (.iconst 0, 1) := by decide +kernel
theorem d209_2 : decode (m_code 209) 2 = .ok (.iconst 5, 1) := by decide +kernel
theorem d209_3 : decode (m_code 209) 3 = .ok (.invokestatic 39, 3) := by decide +kernel
theorem d209_6 : decode (m_code 209) 6 = .ok (.ireturn, 1) := by decide +kernel
theorem d210_0 : decode (m_code 210) 0 = .ok (.iload_n 0, 1) := by decide +kernel
theorem d210_1 : decode (m_code 210) 1 = .ok (.iload_n 1, 1) := by decide +kernel
theorem d210_2 : decode (m_code 210) 2 = .ok (.if_icmp .lt 12, 3) := by decide +kernel
theorem d210_5 : decode (m_code 210) 5 = .ok (.iload_n 0, 1) := by decide +kernel
theorem d210_6 : decode (m_code 210) 6 = .ok (.iload_n 2, 1) := by decide +kernel
theorem d210_7 : decode (m_code 210) 7 = .ok (.if_icmp .gt 7, 3) := by decide +kernel
theorem d210_10 : decode (m_code 210) 10 = .ok (.iconst 1, 1) := by decide +kernel
theorem d210_11 : decode (m_code 210) 11 = .ok (.goto 4, 3) := by decide +kernel
theorem d210_14 : decode (m_code 210) 14 = .ok (.iconst 0, 1) := by decide +kernel
theorem d210_15 : decode (m_code 210) 15 = .ok (.ireturn, 1) := by decide +kernel
theorem d211_0 : decode (m_code 211) 0 = .ok (.iload_n 0, 1) := by decide +kernel
theorem d211_1 : decode (m_code 211) 1 = .ok (.iconst 0, 1) := by decide +kernel
theorem d211_2 : decode (m_code 211) 2 = .ok (.sipush 240, 3) := by decide +kernel
theorem d211_5 : decode (m_code 211) 5 = .ok (.invokestatic 39, 3) := by decide +kernel
theorem d211_8 : decode (m_code 211) 8 = .ok (.ireturn, 1) := by decide +kernel
theorem d215_0 : decode (m_code 215) 0 = .ok (.iload_n 1, 1) := by decide +kernel
theorem d215_1 : decode (m_code 215) 1 = .ok (.iconst 0, 1) := by decide +kernel
theorem d215_2 : decode (m_code 215) 2 = .ok (.aload_n 0, 1) := by decide +kernel
theorem d215_3 : decode (m_code 215) 3 = .ok (.getfield 7, 3) := by decide +kernel
theorem d215_6 : decode (m_code 215) 6 = .ok (.iconst 2, 1) := by decide +kernel
theorem d215_7 : decode (m_code 215) 7 = .ok (.iaload, 1) := by decide +kernel
theorem d215_8 : decode (m_code 215) 8 = .ok (.iconst 1, 1) := by decide +kernel
theorem d215_9 : decode (m_code 215) 9 = .ok (.isub, 1) := by decide +kernel
theorem d215_10 : decode (m_code 215) 10 = .ok (.invokestatic 39, 3) := by decide +kernel
theorem d215_13 : decode (m_code 215) 13 = .ok (.ireturn, 1) := by decide +kernel
theorem d217_0 : decode (m_code 217) 0 = .ok (.aload_n 0, 1) := by decide +kernel
theorem d217_1 : decode (m_code 217) 1 = .ok (.getfield 7, 3) := by decide +kernel
theorem d217_4 : decode (m_code 217) 4 = .ok (.bipush 92, 2) := by decide +kernel
theorem d217_6 : decode (m_code 217) 6 = .ok (.iconst 5, 1) := by decide +kernel
theorem d217_7 : decode (m_code 217) 7 = .ok (.iload_n 1, 1) := by decide +kernel
theorem d217_8 : decode (m_code 217) 8 = .ok (.imul, 1) := by decide +kernel
theorem d217_9 : decode (m_code 217) 9 = .ok (.iadd, 1) := by decide +kernel
theorem d217_10 : decode (m_code 217) 10 = .ok (.iload_n 2, 1) := by decide +kernel
theorem d217_11 : decode (m_code 217) 11 = .ok (.iadd, 1) := by decide +kernel
theorem d217_12 : decode (m_code 217) 12 = .ok (.iaload, 1) := by decide +kernel
theorem d217_13 : decode (m_code 217) 13 = .ok (.ireturn, 1) := by decide +kernel
theorem d219_0 : decode (m_code 219) 0 = .ok (.aload_n 0, 1) := by decide +kernel
theorem d219_1 : decode (m_code 219) 1 = .ok (.getfield 7, 3) := by decide +kernel
theorem d219_4 : decode (m_code 219) 4 = .ok (.bipush 20, 2) := by decide +kernel
theorem d219_6 : decode (m_code 219) 6 = .ok (.bipush 6, 2) := by decide +kernel
theorem d219_8 : decode (m_code 219) 8 = .ok (.iload_n 1, 1) := by decide +kernel
theorem d219_9 : decode (m_code 219) 9 = .ok (.imul, 1) := by decide +kernel
theorem d219_10 : decode (m_code 219) 10 = .ok (.iadd, 1) := by decide +kernel
theorem d219_11 : decode (m_code 219) 11 = .ok (.iload_n 2, 1) := by decide +kernel
theorem d219_12 : decode (m_code 219) 12 = .ok (.iadd, 1) := by decide +kernel
theorem d219_13 : decode (m_code 219) 13 = .ok (.iaload, 1) := by decide +kernel
theorem d219_14 : decode (m_code 219) 14 = .ok (.ireturn, 1) := by decide +kernel
theorem d227_0 : decode (m_code 227) 0 = .ok (.aload_n 0, 1) := by decide +kernel
theorem d227_1 : decode (m_code 227) 1 = .ok (.getfield 7, 3) := by decide +kernel
theorem d227_4 : decode (m_code 227) 4 = .ok (.sipush 192, 3) := by decide +kernel
theorem d227_7 : decode (m_code 227) 7 = .ok (.bipush 10, 2) := by decide +kernel
theorem d227_9 : decode (m_code 227) 9 = .ok (.iload_n 1, 1) := by decide +kernel
theorem d227_10 : decode (m_code 227) 10 = .ok (.imul, 1) := by decide +kernel
theorem d227_11 : decode (m_code 227) 11 = .ok (.iadd, 1) := by decide +kernel
theorem d227_12 : decode (m_code 227) 12 = .ok (.iload_n 2, 1) := by decide +kernel
theorem d227_13 : decode (m_code 227) 13 = .ok (.iadd, 1) := by decide +kernel
theorem d227_14 : decode (m_code 227) 14 = .ok (.iaload, 1) := by decide +kernel
theorem d227_15 : decode (m_code 227) 15 = .ok (.ireturn, 1) := by decide +kernel
theorem d232_0 : decode (m_code 232) 0 = .ok (.iload_n 1, 1) := by decide +kernel
theorem d232_1 : decode (m_code 232) 1 = .ok (.iconst 0, 1) := by decide +kernel
theorem d232_2 : decode (m_code 232) 2 = .ok (.aload_n 0, 1) := by decide +kernel
theorem d232_3 : decode (m_code 232) 3 = .ok (.getfield 7, 3) := by decide +kernel
theorem d232_6 : decode (m_code 232) 6 = .ok (.iconst 4, 1) := by decide +kernel
theorem d232_7 : decode (m_code 232) 7 = .ok (.iaload, 1) := by decide +kernel
theorem d232_8 : decode (m_code 232) 8 = .ok (.iconst 1, 1) := by decide +kernel
theorem d232_9 : decode (m_code 232) 9 = .ok (.isub, 1) := by decide +kernel
theorem d232_10 : decode (m_code 232) 10 = .ok (.invokestatic 39, 3) := by decide +kernel
theorem d232_13 : decode (m_code 232) 13 = .ok (.ireturn, 1) := by decide +kernel
theorem d233_0 : decode (m_code 233) 0 = .ok (.iload_n 0, 1) := by decide +kernel
theorem d233_1 : decode (m_code 233) 1 = .ok (.iconst 0, 1) := by decide +kernel
theorem d233_2 : decode (m_code 233) 2 = .ok (.bipush 7, 2) := by decide +kernel
theorem d233_4 : decode (m_code 233) 4 = .ok (.invokestatic 39, 3) := by decide +kernel
theorem d233_7 : decode (m_code 233) 7 = .ok (.ireturn, 1) := by decide +kernel
theorem d245_0 : decode (m_code 245) 0 = .ok (.iload_n 1, 1) := by decide +kernel
theorem d245_1 : decode (m_code 245) 1 = .ok (.iconst 0, 1) := by decide +kernel
theorem d245_2 : decode (m_code 245) 2 = .ok (.aload_n 0, 1) := by decide +kernel
theorem d245_3 : decode (m_code 245) 3 = .ok (.getfield 7, 3) := by decide +kernel
theorem d245_6 : decode (m_code 245) 6 = .ok (.iconst 5, 1) := by decide +kernel
theorem d245_7 : decode (m_code 245) 7 = .ok (.iaload, 1) := by decide +kernel
theorem d245_8 : decode (m_code 245) 8 = .ok (.iconst 1, 1) := by decide +kernel
theorem d245_9 : decode (m_code 245) 9 = .ok (.isub, 1) := by decide +kernel
theorem d245_10 : decode (m_code 245) 10 = .ok (.invokestatic 39, 3) := by decide +kernel
theorem d245_13 : decode (m_code 245) 13 = .ok (.ireturn, 1) := by decide +kernel
theorem d246_0 : decode (m_code 246) 0 = .ok (.aload_n 0, 1) := by decide +kernel
theorem d246_1 : decode (m_code 246) 1 = .ok (.getfield 7, 3) := by decide +kernel
theorem d246_4 : decode (m_code 246) 4 = .ok (.sipush 328, 3) := by decide +kernel
theorem d246_7 : decode (m_code 246) 7 = .ok (.iconst 5, 1) := by decide +kernel
theorem d246_8 : decode (m_code 246) 8 = .ok (.iload_n 1, 1) := by decide +kernel
theorem d246_9 : decode (m_code 246) 9 = .ok (.imul, 1) := by decide +kernel
theorem d246_10 : decode (m_code 246) 10 = .ok (.iadd, 1) := by decide +kernel
theorem d246_11 : decode (m_code 246) 11 = .ok (.iload_n 2, 1) := by decide +kernel
theorem d246_12 : decode (m_code 246) 12 = .ok (.iadd, 1) := by decide +kernel
theorem d246_13 : decode (m_code 246) 13 = .ok (.iaload, 1) := by decide +kernel
theorem d246_14 : decode (m_code 246) 14 = .ok (.ireturn, 1) := by decide +kernel
theorem d250_0 : decode (m_code 250) 0 = .ok (.iload_n 1, 1) := by decide +kernel
theorem d250_1 : decode (m_code 250) 1 = .ok (.iconst 0, 1) := by decide +kernel
theorem d250_2 : decode (m_code 250) 2 = .ok (.aload_n 0, 1) := by decide +kernel
theorem d250_3 : decode (m_code 250) 3 = .ok (.getfield 7, 3) := by decide +kernel
theorem d250_6 : decode (m_code 250) 6 = .ok (.bipush 6, 2) := by decide +kernel
theorem d250_8 : decode (m_code 250) 8 = .ok (.iaload, 1) := by decide +kernel
theorem d250_9 : decode (m_code 250) 9 = .ok (.iconst 1, 1) := by decide +kernel
theorem d250_10 : decode (m_code 250) 10 = .ok (.isub, 1) := by decide +kernel
theorem d250_11 : decode (m_code 250) 11 = .ok (.invokestatic 39, 3) := by decide +kernel
theorem d250_14 : decode (m_code 250) 14 = .ok (.ireturn, 1) := by decide +kernel
theorem d251_0 : decode (m_code 251) 0 = .ok (.aload_n 0, 1) := by decide +kernel
theorem d251_1 : decode (m_code 251) 1 = .ok (.getfield 7, 3) := by decide +kernel
theorem d251_4 : decode (m_code 251) 4 = .ok (.sipush 378, 3) := by decide +kernel
theorem d251_7 : decode (m_code 251) 7 = .ok (.iconst 5, 1) := by decide +kernel
theorem d251_8 : decode (m_code 251) 8 = .ok (.iload_n 1, 1) := by decide +kernel
theorem d251_9 : decode (m_code 251) 9 = .ok (.imul, 1) := by decide +kernel
theorem d251_10 : decode (m_code 251) 10 = .ok (.iadd, 1) := by decide +kernel
theorem d251_11 : decode (m_code 251) 11 = .ok (.iload_n 2, 1) := by decide +kernel
theorem d251_12 : decode (m_code 251) 12 = .ok (.iadd, 1) := by decide +kernel
theorem d251_13 : decode (m_code 251) 13 = .ok (.iaload, 1) := by decide +kernel
theorem d251_14 : decode (m_code 251) 14 = .ok (.ireturn, 1) := by decide +kernel
theorem d278_0 : decode (m_code 278) 0 = .ok (.iload_n 1, 1) := by decide +kernel
theorem d278_1 : decode (m_code 278) 1 = .ok (.iconst 0, 1) := by decide +kernel
theorem d278_2 : decode (m_code 278) 2 = .ok (.aload_n 0, 1) := by decide +kernel
theorem d278_3 : decode (m_code 278) 3 = .ok (.getfield 7, 3) := by decide +kernel
theorem d278_6 : decode (m_code 278) 6 = .ok (.iconst 3, 1) := by decide +kernel
theorem d278_7 : decode (m_code 278) 7 = .ok (.iaload, 1) := by decide +kernel
theorem d278_8 : decode (m_code 278) 8 = .ok (.iconst 1, 1) := by decide +kernel
theorem d278_9 : decode (m_code 278) 9 = .ok (.isub, 1) := by decide +kernel
theorem d278_10 : decode (m_code 278) 10 = .ok (.invokestatic 39, 3) := by decide +kernel
theorem d278_13 : decode (m_code 278) 13 = .ok (.ireturn, 1) := by decide +kernel
theorem c_within {X : mX} {h : mH} (v lo hi : Int32) : Tells X 210 [.int v, .int lo, .int hi] h (m_b (lo ≤ v ∧ v ≤ hi)) := by
  refine wp_iload_n d210_0 rfl ?_
  refine wp_iload_n d210_1 rfl ?_
  refine wp_icmp_lt d210_2 (tgt := 14) (by decide) (fun hc2 => ?_) (fun hc2 => ?_)
  · refine wp_iconst d210_14 (v := nI 0) (by decide) ?_
    refine wp_zret d210_15 (by decide +kernel) (by decide) ?_
    exact ⟨by congr 2; first | exact (m_b_t (by simp only [Int32.le_iff_toInt_le, Int32.lt_iff_toInt_lt] at *; omega)).symm | exact (m_b_f (by simp only [Int32.le_iff_toInt_le, Int32.lt_iff_toInt_lt] at *; omega)).symm, rfl⟩
  · refine wp_iload_n d210_5 rfl ?_
    refine wp_iload_n d210_6 rfl ?_
    refine wp_icmp_gt d210_7 (tgt := 14) (by decide) (fun hc7 => ?_) (fun hc7 => ?_)
    · refine wp_iconst d210_14 (v := nI 0) (by decide) ?_
      refine wp_zret d210_15 (by decide +kernel) (by decide) ?_
      exact ⟨by congr 2; first | exact (m_b_t (by simp only [Int32.le_iff_toInt_le, Int32.lt_iff_toInt_lt] at *; omega)).symm | exact (m_b_f (by simp only [Int32.le_iff_toInt_le, Int32.lt_iff_toInt_lt] at *; omega)).symm, rfl⟩
    · refine wp_iconst d210_10 (v := nI 1) (by decide) ?_
      refine wp_goto d210_11 (tgt := 15) (by decide) ?_
      refine wp_zret d210_15 (by decide +kernel) (by decide) ?_
      exact ⟨by congr 2; first | exact (m_b_t (by simp only [Int32.le_iff_toInt_le, Int32.lt_iff_toInt_lt] at *; omega)).symm | exact (m_b_f (by simp only [Int32.le_iff_toInt_le, Int32.lt_iff_toInt_lt] at *; omega)).symm, rfl⟩
theorem c_isZone {X : mX} {h : mH} (v : Int32) : Tells X 209 [.int v] h (m_b (nI 0 ≤ v ∧ v ≤ nI 5)) := by
  refine wp_iload_n d209_0 rfl ?_
  refine wp_iconst d209_1 (v := nI 0) (by decide) ?_
  refine wp_iconst d209_2 (v := nI 5) (by decide) ?_
  refine wp_invsT (e := 39) (j2 := 210) (n := 3) d209_3 (by decide +kernel) (by decide +kernel) rfl rfl rfl (Nat.le_of_ble_eq_true rfl) (Nat.le_of_ble_eq_true rfl) rfl rfl (Nat.le_of_ble_eq_true rfl) (by decide +kernel) (c_within v (nI 0) (nI 5)) ?_
  refine wp_zret d209_6 (by decide +kernel) (m_b_01 _) ?_
  exact ⟨rfl, rfl⟩
theorem c_isKey {X : mX} {h : mH} (v : Int32) : Tells X 233 [.int v] h (m_b (nI 0 ≤ v ∧ v ≤ nI 7)) := by
  refine wp_iload_n d233_0 rfl ?_
  refine wp_iconst d233_1 (v := nI 0) (by decide) ?_
  refine wp_bipush d233_2 (v := nI 7) (by decide) ?_
  refine wp_invsT (e := 39) (j2 := 210) (n := 3) d233_4 (by decide +kernel) (by decide +kernel) rfl rfl rfl (Nat.le_of_ble_eq_true rfl) (Nat.le_of_ble_eq_true rfl) rfl rfl (Nat.le_of_ble_eq_true rfl) (by decide +kernel) (c_within v (nI 0) (nI 7)) ?_
  refine wp_zret d233_7 (by decide +kernel) (m_b_01 _) ?_
  exact ⟨rfl, rfl⟩
theorem c_isBound {X : mX} {h : mH} (v : Int32) : Tells X 211 [.int v] h (m_b (nI 0 ≤ v ∧ v ≤ nI 240)) := by
  refine wp_iload_n d211_0 rfl ?_
  refine wp_iconst d211_1 (v := nI 0) (by decide) ?_
  refine wp_sipush d211_2 (v := nI 240) (by decide) ?_
  refine wp_invsT (e := 39) (j2 := 210) (n := 3) d211_5 (by decide +kernel) (by decide +kernel) rfl rfl rfl (Nat.le_of_ble_eq_true rfl) (Nat.le_of_ble_eq_true rfl) rfl rfl (Nat.le_of_ble_eq_true rfl) (by decide +kernel) (c_within v (nI 0) (nI 240)) ?_
  refine wp_zret d211_8 (by decide +kernel) (m_b_01 _) ?_
  exact ⟨rfl, rfl⟩
theorem c_isRoom {X : mX} {h : mH} {R : Nat → Nat → Int32} {σ : Nat → Int32} (hR : Ms h R σ) {n : Nat} (hn : σ 2 = nI n) (h31 : n < 2 ^ 31) (v : Int32) : Tells X 215 [.ref 313, .int v] h (m_b (nI 0 ≤ v ∧ v < nI n)) := by
  refine wp_iload_n d215_0 rfl ?_
  refine wp_iconst d215_1 (v := nI 0) (by decide) ?_
  refine wp_aload_n d215_2 rfl ?_
  refine wp_getf (e := 7) (ci := 12) (k := 0) (nest := false) d215_3 (by decide +kernel) (md_0 hR) rfl ?_
  refine wp_iconst d215_6 (v := nI 2) (by decide) ?_
  refine wp_iald d215_7 (md_1 hR) (nI_in (by omega) (by decide)) (v := nI n) ((congrArg σ (nI_nat (by omega))).trans hn) ?_
  refine wp_iconst d215_8 (v := nI 1) (by decide) ?_
  refine wp_isub d215_9 ?_
  refine wp_invsT (e := 39) (j2 := 210) (n := 3) d215_10 (by decide +kernel) (by decide +kernel) rfl rfl rfl (Nat.le_of_ble_eq_true rfl) (Nat.le_of_ble_eq_true rfl) rfl rfl (Nat.le_of_ble_eq_true rfl) (by decide +kernel) (c_within v (nI 0) (((nI n) - (nI 1)))) ?_
  refine wp_zret d215_13 (by decide +kernel) (m_b_01 _) ?_
  exact ⟨by congr 2; unfold m_b; simp only [show nI 1 = 1 from rfl, nI_pred_le h31], rfl⟩
theorem c_isDoor {X : mX} {h : mH} {R : Nat → Nat → Int32} {σ : Nat → Int32} (hR : Ms h R σ) {n : Nat} (hn : σ 3 = nI n) (h31 : n < 2 ^ 31) (v : Int32) : Tells X 278 [.ref 313, .int v] h (m_b (nI 0 ≤ v ∧ v < nI n)) := by
  refine wp_iload_n d278_0 rfl ?_
  refine wp_iconst d278_1 (v := nI 0) (by decide) ?_
  refine wp_aload_n d278_2 rfl ?_
  refine wp_getf (e := 7) (ci := 12) (k := 0) (nest := false) d278_3 (by decide +kernel) (md_0 hR) rfl ?_
  refine wp_iconst d278_6 (v := nI 3) (by decide) ?_
  refine wp_iald d278_7 (md_1 hR) (nI_in (by omega) (by decide)) (v := nI n) ((congrArg σ (nI_nat (by omega))).trans hn) ?_
  refine wp_iconst d278_8 (v := nI 1) (by decide) ?_
  refine wp_isub d278_9 ?_
  refine wp_invsT (e := 39) (j2 := 210) (n := 3) d278_10 (by decide +kernel) (by decide +kernel) rfl rfl rfl (Nat.le_of_ble_eq_true rfl) (Nat.le_of_ble_eq_true rfl) rfl rfl (Nat.le_of_ble_eq_true rfl) (by decide +kernel) (c_within v (nI 0) (((nI n) - (nI 1)))) ?_
  refine wp_zret d278_13 (by decide +kernel) (m_b_01 _) ?_
  exact ⟨by congr 2; unfold m_b; simp only [show nI 1 = 1 from rfl, nI_pred_le h31], rfl⟩
theorem c_isGuard {X : mX} {h : mH} {R : Nat → Nat → Int32} {σ : Nat → Int32} (hR : Ms h R σ) {n : Nat} (hn : σ 4 = nI n) (h31 : n < 2 ^ 31) (v : Int32) : Tells X 232 [.ref 313, .int v] h (m_b (nI 0 ≤ v ∧ v < nI n)) := by
  refine wp_iload_n d232_0 rfl ?_
  refine wp_iconst d232_1 (v := nI 0) (by decide) ?_
  refine wp_aload_n d232_2 rfl ?_
  refine wp_getf (e := 7) (ci := 12) (k := 0) (nest := false) d232_3 (by decide +kernel) (md_0 hR) rfl ?_
  refine wp_iconst d232_6 (v := nI 4) (by decide) ?_
  refine wp_iald d232_7 (md_1 hR) (nI_in (by omega) (by decide)) (v := nI n) ((congrArg σ (nI_nat (by omega))).trans hn) ?_
  refine wp_iconst d232_8 (v := nI 1) (by decide) ?_
  refine wp_isub d232_9 ?_
  refine wp_invsT (e := 39) (j2 := 210) (n := 3) d232_10 (by decide +kernel) (by decide +kernel) rfl rfl rfl (Nat.le_of_ble_eq_true rfl) (Nat.le_of_ble_eq_true rfl) rfl rfl (Nat.le_of_ble_eq_true rfl) (by decide +kernel) (c_within v (nI 0) (((nI n) - (nI 1)))) ?_
  refine wp_zret d232_13 (by decide +kernel) (m_b_01 _) ?_
  exact ⟨by congr 2; unfold m_b; simp only [show nI 1 = 1 from rfl, nI_pred_le h31], rfl⟩
theorem c_isWork {X : mX} {h : mH} {R : Nat → Nat → Int32} {σ : Nat → Int32} (hR : Ms h R σ) {n : Nat} (hn : σ 5 = nI n) (h31 : n < 2 ^ 31) (v : Int32) : Tells X 245 [.ref 313, .int v] h (m_b (nI 0 ≤ v ∧ v < nI n)) := by
  refine wp_iload_n d245_0 rfl ?_
  refine wp_iconst d245_1 (v := nI 0) (by decide) ?_
  refine wp_aload_n d245_2 rfl ?_
  refine wp_getf (e := 7) (ci := 12) (k := 0) (nest := false) d245_3 (by decide +kernel) (md_0 hR) rfl ?_
  refine wp_iconst d245_6 (v := nI 5) (by decide) ?_
  refine wp_iald d245_7 (md_1 hR) (nI_in (by omega) (by decide)) (v := nI n) ((congrArg σ (nI_nat (by omega))).trans hn) ?_
  refine wp_iconst d245_8 (v := nI 1) (by decide) ?_
  refine wp_isub d245_9 ?_
  refine wp_invsT (e := 39) (j2 := 210) (n := 3) d245_10 (by decide +kernel) (by decide +kernel) rfl rfl rfl (Nat.le_of_ble_eq_true rfl) (Nat.le_of_ble_eq_true rfl) rfl rfl (Nat.le_of_ble_eq_true rfl) (by decide +kernel) (c_within v (nI 0) (((nI n) - (nI 1)))) ?_
  refine wp_zret d245_13 (by decide +kernel) (m_b_01 _) ?_
  exact ⟨by congr 2; unfold m_b; simp only [show nI 1 = 1 from rfl, nI_pred_le h31], rfl⟩
theorem c_isAlarm {X : mX} {h : mH} {R : Nat → Nat → Int32} {σ : Nat → Int32} (hR : Ms h R σ) {n : Nat} (hn : σ 6 = nI n) (h31 : n < 2 ^ 31) (v : Int32) : Tells X 250 [.ref 313, .int v] h (m_b (nI 0 ≤ v ∧ v < nI n)) := by
  refine wp_iload_n d250_0 rfl ?_
  refine wp_iconst d250_1 (v := nI 0) (by decide) ?_
  refine wp_aload_n d250_2 rfl ?_
  refine wp_getf (e := 7) (ci := 12) (k := 0) (nest := false) d250_3 (by decide +kernel) (md_0 hR) rfl ?_
  refine wp_bipush d250_6 (v := nI 6) (by decide) ?_
  refine wp_iald d250_8 (md_1 hR) (nI_in (by omega) (by decide)) (v := nI n) ((congrArg σ (nI_nat (by omega))).trans hn) ?_
  refine wp_iconst d250_9 (v := nI 1) (by decide) ?_
  refine wp_isub d250_10 ?_
  refine wp_invsT (e := 39) (j2 := 210) (n := 3) d250_11 (by decide +kernel) (by decide +kernel) rfl rfl rfl (Nat.le_of_ble_eq_true rfl) (Nat.le_of_ble_eq_true rfl) rfl rfl (Nat.le_of_ble_eq_true rfl) (by decide +kernel) (c_within v (nI 0) (((nI n) - (nI 1)))) ?_
  refine wp_zret d250_14 (by decide +kernel) (m_b_01 _) ?_
  exact ⟨by congr 2; unfold m_b; simp only [show nI 1 = 1 from rfl, nI_pred_le h31], rfl⟩
theorem c_roomPart {X : mX} {h : mH} {R : Nat → Nat → Int32} {σ : Nat → Int32} (hR : Ms h R σ) {r p : Nat} (hr : r < 12) (hp : p < 6) : Tells X 219 [.ref 313, .int (nI r), .int (nI p)] h (σ (20 + 6 * r + p)) := by
  refine wp_aload_n d219_0 rfl ?_
  refine wp_getf (e := 7) (ci := 12) (k := 0) (nest := false) d219_1 (by decide +kernel) (md_0 hR) rfl ?_
  refine wp_bipush d219_4 (v := nI 20) (by decide) ?_
  refine wp_bipush d219_6 (v := nI 6) (by decide) ?_
  refine wp_iload_n d219_8 rfl ?_
  refine wp_imulv d219_9 (v := nI (6 * r)) (nI_mul _ _) ?_
  refine wp_iaddv d219_10 (v := nI (20 + 6 * r)) (nI_add _ _) ?_
  refine wp_iload_n d219_11 rfl ?_
  refine wp_iaddv d219_12 (v := nI (20 + 6 * r + p)) (nI_add _ _) ?_
  refine wp_iald d219_13 (md_1 hR) (nI_in (by omega) (by decide)) (v := σ (20 + 6 * r + p)) ((congrArg σ (nI_nat (by omega))).trans rfl) ?_
  refine wp_iret d219_14 (by decide +kernel) ?_
  exact ⟨rfl, rfl⟩
theorem c_doorPart {X : mX} {h : mH} {R : Nat → Nat → Int32} {σ : Nat → Int32} (hR : Ms h R σ) {r p : Nat} (hr : r < 20) (hp : p < 5) : Tells X 217 [.ref 313, .int (nI r), .int (nI p)] h (σ (92 + 5 * r + p)) := by
  refine wp_aload_n d217_0 rfl ?_
  refine wp_getf (e := 7) (ci := 12) (k := 0) (nest := false) d217_1 (by decide +kernel) (md_0 hR) rfl ?_
  refine wp_bipush d217_4 (v := nI 92) (by decide) ?_
  refine wp_iconst d217_6 (v := nI 5) (by decide) ?_
  refine wp_iload_n d217_7 rfl ?_
  refine wp_imulv d217_8 (v := nI (5 * r)) (nI_mul _ _) ?_
  refine wp_iaddv d217_9 (v := nI (92 + 5 * r)) (nI_add _ _) ?_
  refine wp_iload_n d217_10 rfl ?_
  refine wp_iaddv d217_11 (v := nI (92 + 5 * r + p)) (nI_add _ _) ?_
  refine wp_iald d217_12 (md_1 hR) (nI_in (by omega) (by decide)) (v := σ (92 + 5 * r + p)) ((congrArg σ (nI_nat (by omega))).trans rfl) ?_
  refine wp_iret d217_13 (by decide +kernel) ?_
  exact ⟨rfl, rfl⟩
theorem c_guardPart {X : mX} {h : mH} {R : Nat → Nat → Int32} {σ : Nat → Int32} (hR : Ms h R σ) {r p : Nat} (hr : r < 4) (hp : p < 10) : Tells X 227 [.ref 313, .int (nI r), .int (nI p)] h (σ (192 + 10 * r + p)) := by
  refine wp_aload_n d227_0 rfl ?_
  refine wp_getf (e := 7) (ci := 12) (k := 0) (nest := false) d227_1 (by decide +kernel) (md_0 hR) rfl ?_
  refine wp_sipush d227_4 (v := nI 192) (by decide) ?_
  refine wp_bipush d227_7 (v := nI 10) (by decide) ?_
  refine wp_iload_n d227_9 rfl ?_
  refine wp_imulv d227_10 (v := nI (10 * r)) (nI_mul _ _) ?_
  refine wp_iaddv d227_11 (v := nI (192 + 10 * r)) (nI_add _ _) ?_
  refine wp_iload_n d227_12 rfl ?_
  refine wp_iaddv d227_13 (v := nI (192 + 10 * r + p)) (nI_add _ _) ?_
  refine wp_iald d227_14 (md_1 hR) (nI_in (by omega) (by decide)) (v := σ (192 + 10 * r + p)) ((congrArg σ (nI_nat (by omega))).trans rfl) ?_
  refine wp_iret d227_15 (by decide +kernel) ?_
  exact ⟨rfl, rfl⟩
theorem c_workPart {X : mX} {h : mH} {R : Nat → Nat → Int32} {σ : Nat → Int32} (hR : Ms h R σ) {r p : Nat} (hr : r < 10) (hp : p < 5) : Tells X 246 [.ref 313, .int (nI r), .int (nI p)] h (σ (328 + 5 * r + p)) := by
  refine wp_aload_n d246_0 rfl ?_
  refine wp_getf (e := 7) (ci := 12) (k := 0) (nest := false) d246_1 (by decide +kernel) (md_0 hR) rfl ?_
  refine wp_sipush d246_4 (v := nI 328) (by decide) ?_
  refine wp_iconst d246_7 (v := nI 5) (by decide) ?_
  refine wp_iload_n d246_8 rfl ?_
  refine wp_imulv d246_9 (v := nI (5 * r)) (nI_mul _ _) ?_
  refine wp_iaddv d246_10 (v := nI (328 + 5 * r)) (nI_add _ _) ?_
  refine wp_iload_n d246_11 rfl ?_
  refine wp_iaddv d246_12 (v := nI (328 + 5 * r + p)) (nI_add _ _) ?_
  refine wp_iald d246_13 (md_1 hR) (nI_in (by omega) (by decide)) (v := σ (328 + 5 * r + p)) ((congrArg σ (nI_nat (by omega))).trans rfl) ?_
  refine wp_iret d246_14 (by decide +kernel) ?_
  exact ⟨rfl, rfl⟩
theorem c_alarmPart {X : mX} {h : mH} {R : Nat → Nat → Int32} {σ : Nat → Int32} (hR : Ms h R σ) {r p : Nat} (hr : r < 40) (hp : p < 5) : Tells X 251 [.ref 313, .int (nI r), .int (nI p)] h (σ (378 + 5 * r + p)) := by
  refine wp_aload_n d251_0 rfl ?_
  refine wp_getf (e := 7) (ci := 12) (k := 0) (nest := false) d251_1 (by decide +kernel) (md_0 hR) rfl ?_
  refine wp_sipush d251_4 (v := nI 378) (by decide) ?_
  refine wp_iconst d251_7 (v := nI 5) (by decide) ?_
  refine wp_iload_n d251_8 rfl ?_
  refine wp_imulv d251_9 (v := nI (5 * r)) (nI_mul _ _) ?_
  refine wp_iaddv d251_10 (v := nI (378 + 5 * r)) (nI_add _ _) ?_
  refine wp_iload_n d251_11 rfl ?_
  refine wp_iaddv d251_12 (v := nI (378 + 5 * r + p)) (nI_add _ _) ?_
  refine wp_iald d251_13 (md_1 hR) (nI_in (by omega) (by decide)) (v := σ (378 + 5 * r + p)) ((congrArg σ (nI_nat (by omega))).trans rfl) ?_
  refine wp_iret d251_14 (by decide +kernel) ?_
  exact ⟨rfl, rfl⟩
