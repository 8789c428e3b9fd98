/-! The class: an array is filled. -/
theorem d7_0 : decode (m_code 7) 0 = .ok (.iconst 0, 1) := by decide +kernel
theorem d7_1 : decode (m_code 7) 1 = .ok (.istore_n 2, 1) := by decide +kernel
theorem d7_2 : decode (m_code 7) 2 = .ok (.aload_n 0, 1) := by decide +kernel
theorem d7_3 : decode (m_code 7) 3 = .ok (.arraylength, 1) := by decide +kernel
theorem d7_4 : decode (m_code 7) 4 = .ok (.istore_n 3, 1) := by decide +kernel
theorem d7_5 : decode (m_code 7) 5 = .ok (.iload_n 2, 1) := by decide +kernel
theorem d7_6 : decode (m_code 7) 6 = .ok (.iload_n 3, 1) := by decide +kernel
theorem d7_7 : decode (m_code 7) 7 = .ok (.if_icmp .ge 13, 3) := by decide +kernel
theorem d7_10 : decode (m_code 7) 10 = .ok (.aload_n 0, 1) := by decide +kernel
theorem d7_11 : decode (m_code 7) 11 = .ok (.iload_n 2, 1) := by decide +kernel
theorem d7_12 : decode (m_code 7) 12 = .ok (.iload_n 1, 1) := by decide +kernel
theorem d7_13 : decode (m_code 7) 13 = .ok (.iastore, 1) := by decide +kernel
theorem d7_14 : decode (m_code 7) 14 = .ok (.iinc 2 1, 3) := by decide +kernel
theorem d7_17 : decode (m_code 7) 17 = .ok (.goto (-12), 3) := by decide +kernel
theorem d7_20 : decode (m_code 7) 20 = .ok (.return_, 1) := by decide +kernel
theorem wp_invsU {X : mX} {j pc : Nat} {L : mL} {rest : List Value} {h0 h : mH} {Q : Option Value → mH → Prop} {B sa : Nat} {M : Nat → Nat → Int32} {idx e j2 n : Nat} {asr as : List Value} {st0 : List Value} (hd : decode (m_code j) pc = .ok (.invokestatic idx, 3)) (hf : m_findM (m_own j) idx = some (e, 3, j2)) (hn : m_np j2 = n) (ht : st0.take n = asr) (hdr : st0.drop n = rest) (has : asr.reverse = as) (hl : n ≤ st0.length)
    (h1 : rest.length ≤ 8) (h2 : rest.all m_c1 = true) (h3 : as.all m_c1 = true) (h4 : as.length ≤ m_nl j2) (h5 : m_fr j2 + 1 + m_nl j2 / 10 ≤ m_fr j)
    (hC : DoesU X j2 as h B sa M none) (hF : Frm h0 h B 43) (K : ∀ h1, Mus h1 B sa M → Frm h0 h1 B 43 → m_wp X j (pc + 3) L rest h1 Q) : m_wp X j pc L st0 h Q :=
  wp_invs hd hf hn ht hdr has hl h1 h2 h3 h4 h5 hC (fun v h1 hq => by rw [hq.1]; exact K h1 hq.2.1 (hF.trans hq.2.2))
/-- the first k places hold v -/
def F_fl (f : Nat → Int32) (v : Int32) (k : Nat) : Nat → Int32 := fun i => if i < k then v else f i
theorem F_fl_0 (M : Nat → Nat → Int32) (o : Nat) (v : Int32) : stM M o (F_fl (M o) v 0) = M := by
  have e : F_fl (M o) v 0 = M o := by
    funext i
    unfold F_fl
    rw [if_neg (by omega)]
  rw [e, stM_id]
theorem F_fl_s (M : Nat → Nat → Int32) (f : Nat → Int32) (o k : Nat) (v : Int32) : updM (stM M o (F_fl f v k)) o k v = stM M o (F_fl f v (k + 1)) := by
  funext o2 i
  unfold updM stM
  by_cases h : o2 = o
  · rw [if_pos h, if_pos h]
    unfold upd
    by_cases h1 : i = k
    · rw [if_pos h1]
      show v = if i < k + 1 then v else f i
      rw [if_pos (by omega)]
    · rw [if_neg h1, if_pos rfl]
      show (if i < k then v else f i) = if i < k + 1 then v else f i
      by_cases h2 : i < k
      · rw [if_pos h2, if_pos (by omega)]
      · rw [if_neg h2, if_neg (by omega)]
  · simp only [if_neg h]
theorem u_fill14_l {X : mX} {h0 : mH} {B st : Nat} {M : Nat → Nat → Int32} {v : Int32} : ∀ (d : Nat) (k : Nat) (h : mH), 12 - k = d → k ≤ 12 → Mus h B st (stM M 14 (F_fl (M 14) v k)) → Frm h0 h B 43 → m_wp X 7 5 [some (.ref (B + 14)), some (.int (v)), some (.int (nI k)), some (.int (nI 12))] [] h (fun w h1 => w = none ∧ Mus h1 B st (stM M 14 (F_fl (M 14) v 12)) ∧ Frm h0 h1 B 43) := by
  intro d
  induction d using Nat.strongRecOn with
  | ind d ih =>
    intro k h hd hk hM hF
    refine wp_iload_n d7_5 rfl ?_
    refine wp_iload_n d7_6 rfl ?_
    refine wp_icmp_ge d7_7 (tgt := 20) (by decide) (fun hc7 => ?_) (fun hc7 => ?_)
    · have hc7 : 12 ≤ k := (nI_leI (by omega) (by omega)).mp hc7
      refine wp_vret d7_20 (by decide +kernel) ?_
      exact ⟨rfl, by rw [show 12 = k by omega]; exact hM, hF⟩
    · have hc7 : ¬ (12 ≤ k) := fun z => hc7 ((nI_leI (by omega) (by omega)).mpr z)
      refine wp_aload_n d7_10 rfl ?_
      refine wp_iload_n d7_11 rfl ?_
      refine wp_iload_n d7_12 rfl ?_
      refine wp_iast d7_13 (um_14 hM) (nI_in (by omega) (by decide)) ?_
      refine u_step (o := 14) (i := k) (v := v) hM hF (by decide) (by rw [nI_nat (by omega)]; rfl) (fun h hM hF => ?_)
      refine wp_iinc d7_14 rfl (v := nI (k + 1)) (nI_add _ 1) (Nat.le_of_ble_eq_true rfl) rfl ?_
      refine wp_goto d7_17 (tgt := 5) (by decide) ?_
      rw [F_fl_s] at hM
      exact ih (12 - (k + 1)) (by omega) (k + 1) h rfl (by omega) hM hF
theorem u_fill14 {X : mX} {h : mH} {B st : Nat} {M : Nat → Nat → Int32} (hM : Mus h B st M) {v : Int32} : DoesU X 7 [.ref (B + 14), .int (v)] h B st (stM M 14 (F_fl (M 14) v 12)) none := by
  have hF : Frm h h B 43 := Frm.rf
  refine wp_iconst d7_0 (v := nI 0) (by decide) ?_
  refine wp_istore_n d7_1 (Nat.le_of_ble_eq_true rfl) rfl ?_
  refine wp_aload_n d7_2 rfl ?_
  refine wp_alen d7_3 (um_14 hM) (v := nI 12) rfl ?_
  refine wp_istore_n d7_4 (Nat.le_of_ble_eq_true rfl) rfl ?_
  exact u_fill14_l _ 0 h rfl (by omega) (by rw [F_fl_0]; exact hM) hF
