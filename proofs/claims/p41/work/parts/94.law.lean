/-! The law's own cells, and its small methods. -/
theorem d292_0 : decode (m_code 292) 0 = .ok (.iload_n 1, 1) := by decide +kernel
theorem d292_1 : decode (m_code 292) 1 = .ok (.aload_n 0, 1) := by decide +kernel
theorem d292_2 : decode (m_code 292) 2 = .ok (.arraylength, 1) := by decide +kernel
theorem d292_3 : decode (m_code 292) 3 = .ok (.if_icmp .ge 9, 3) := by decide +kernel
theorem d292_6 : decode (m_code 292) 6 = .ok (.aload_n 0, 1) := by decide +kernel
theorem d292_7 : decode (m_code 292) 7 = .ok (.iload_n 1, 1) := by decide +kernel
theorem d292_8 : decode (m_code 292) 8 = .ok (.iaload, 1) := by decide +kernel
theorem d292_9 : decode (m_code 292) 9 = .ok (.goto 12, 3) := by decide +kernel
theorem d292_12 : decode (m_code 292) 12 = .ok (.ldc 7, 2) := by decide +kernel
theorem d292_14 : decode (m_code 292) 14 = .ok (.iload_n 1, 1) := by decide +kernel
theorem d292_15 : decode (m_code 292) 15 = .ok (.iconst 1, 1) := by decide +kernel
theorem d292_16 : decode (m_code 292) 16 = .ok (.iadd, 1) := by decide +kernel
theorem d292_17 : decode (m_code 292) 17 = .ok (.imul, 1) := by decide +kernel
theorem d292_18 : decode (m_code 292) 18 = .ok (.ldc 8, 2) := by decide +kernel
theorem d292_20 : decode (m_code 292) 20 = .ok (.iadd, 1) := by decide +kernel
theorem d292_21 : decode (m_code 292) 21 = .ok (.ireturn, 1) := by decide +kernel
theorem d293_0 : decode (m_code 293) 0 = .ok (.iload_n 0, 1) := by decide +kernel
theorem d293_1 : decode (m_code 293) 1 = .ok (.ldc 9, 2) := by decide +kernel
theorem d293_3 : decode (m_code 293) 3 = .ok (.iand, 1) := by decide +kernel
theorem d293_4 : decode (m_code 293) 4 = .ok (.iload_n 1, 1) := by decide +kernel
theorem d293_5 : decode (m_code 293) 5 = .ok (.irem, 1) := by decide +kernel
theorem d293_6 : decode (m_code 293) 6 = .ok (.ireturn, 1) := by decide +kernel
theorem d295_0 : decode (m_code 295) 0 = .ok (.aload_n 1, 1) := by decide +kernel
theorem d295_1 : decode (m_code 295) 1 = .ok (.iconst 0, 1) := by decide +kernel
theorem d295_2 : decode (m_code 295) 2 = .ok (.iaload, 1) := by decide +kernel
theorem d295_3 : decode (m_code 295) 3 = .ok (.iload_n 0, 1) := by decide +kernel
theorem d295_4 : decode (m_code 295) 4 = .ok (.if_icmp .eq 11, 3) := by decide +kernel
theorem d295_7 : decode (m_code 295) 7 = .ok (.aload_n 1, 1) := by decide +kernel
theorem d295_8 : decode (m_code 295) 8 = .ok (.bipush 10, 2) := by decide +kernel
theorem d295_10 : decode (m_code 295) 10 = .ok (.iaload, 1) := by decide +kernel
theorem d295_11 : decode (m_code 295) 11 = .ok (.iload_n 0, 1) := by decide +kernel
theorem d295_12 : decode (m_code 295) 12 = .ok (.if_icmp .ne 7, 3) := by decide +kernel
theorem d295_15 : decode (m_code 295) 15 = .ok (.iconst 1, 1) := by decide +kernel
theorem d295_16 : decode (m_code 295) 16 = .ok (.goto 4, 3) := by decide +kernel
theorem d295_19 : decode (m_code 295) 19 = .ok (.iconst 0, 1) := by decide +kernel
theorem d295_20 : decode (m_code 295) 20 = .ok (.ireturn, 1) := by decide +kernel
theorem d299_0 : decode (m_code 299) 0 = .ok (.aload_n 2, 1) := by decide +kernel
theorem d299_1 : decode (m_code 299) 1 = .ok (.iconst 1, 1) := by decide +kernel
theorem d299_2 : decode (m_code 299) 2 = .ok (.iaload, 1) := by decide +kernel
theorem d299_3 : decode (m_code 299) 3 = .ok (.bipush 64, 2) := by decide +kernel
theorem d299_5 : decode (m_code 299) 5 = .ok (.if_icmp .ge 23, 3) := by decide +kernel
theorem d299_8 : decode (m_code 299) 8 = .ok (.aload_n 3, 1) := by decide +kernel
theorem d299_9 : decode (m_code 299) 9 = .ok (.aload_n 2, 1) := by decide +kernel
theorem d299_10 : decode (m_code 299) 10 = .ok (.iconst 1, 1) := by decide +kernel
theorem d299_11 : decode (m_code 299) 11 = .ok (.iaload, 1) := by decide +kernel
theorem d299_12 : decode (m_code 299) 12 = .ok (.sipush 10000, 3) := by decide +kernel
theorem d299_15 : decode (m_code 299) 15 = .ok (.iload_n 0, 1) := by decide +kernel
theorem d299_16 : decode (m_code 299) 16 = .ok (.imul, 1) := by decide +kernel
theorem d299_17 : decode (m_code 299) 17 = .ok (.sipush 1000, 3) := by decide +kernel
theorem d299_20 : decode (m_code 299) 20 = .ok (.iload_n 1, 1) := by decide +kernel
theorem d299_21 : decode (m_code 299) 21 = .ok (.imul, 1) := by decide +kernel
theorem d299_22 : decode (m_code 299) 22 = .ok (.iadd, 1) := by decide +kernel
theorem d299_23 : decode (m_code 299) 23 = .ok (.aload_n 2, 1) := by decide +kernel
theorem d299_24 : decode (m_code 299) 24 = .ok (.iconst 0, 1) := by decide +kernel
theorem d299_25 : decode (m_code 299) 25 = .ok (.iaload, 1) := by decide +kernel
theorem d299_26 : decode (m_code 299) 26 = .ok (.iadd, 1) := by decide +kernel
theorem d299_27 : decode (m_code 299) 27 = .ok (.iastore, 1) := by decide +kernel
theorem d299_28 : decode (m_code 299) 28 = .ok (.aload_n 2, 1) := by decide +kernel
theorem d299_29 : decode (m_code 299) 29 = .ok (.iconst 1, 1) := by decide +kernel
theorem d299_30 : decode (m_code 299) 30 = .ok (.dup2, 1) := by decide +kernel
theorem d299_31 : decode (m_code 299) 31 = .ok (.iaload, 1) := by decide +kernel
theorem d299_32 : decode (m_code 299) 32 = .ok (.iconst 1, 1) := by decide +kernel
theorem d299_33 : decode (m_code 299) 33 = .ok (.iadd, 1) := by decide +kernel
theorem d299_34 : decode (m_code 299) 34 = .ok (.iastore, 1) := by decide +kernel
theorem d299_35 : decode (m_code 299) 35 = .ok (.return_, 1) := by decide +kernel
def lawC (o : Nat) (f : Nat → Int32) : mC :=
  match o with
  | 0 => .inl (false, 4, f)
  | 1 => .inl (false, 24, f)
  | 2 => .inl (false, 16, f)
  | 3 => .inl (false, 20, f)
  | 4 => .inl (false, 16, f)
  | 5 => .inl (false, 10, f)
  | 6 => .inl (false, 64, f)
  | _ => .inl (false, 64, f)
/-- the law's arrays: q, ro, doors, gu, or, wo, al, wa -/
abbrev La (h : mH) (S : Nat → Nat → Int32) : Prop := Reg h 313 8 lawC S
theorem la_0 {h : mH} {S : Nat → Nat → Int32} (hL : La h S) : m_get h 313 = some (.inl (false, 4, S 0)) := hL 0 (by decide)
theorem la_1 {h : mH} {S : Nat → Nat → Int32} (hL : La h S) : m_get h 314 = some (.inl (false, 24, S 1)) := hL 1 (by decide)
theorem la_2 {h : mH} {S : Nat → Nat → Int32} (hL : La h S) : m_get h 315 = some (.inl (false, 16, S 2)) := hL 2 (by decide)
theorem la_3 {h : mH} {S : Nat → Nat → Int32} (hL : La h S) : m_get h 316 = some (.inl (false, 20, S 3)) := hL 3 (by decide)
theorem la_4 {h : mH} {S : Nat → Nat → Int32} (hL : La h S) : m_get h 317 = some (.inl (false, 16, S 4)) := hL 4 (by decide)
theorem la_5 {h : mH} {S : Nat → Nat → Int32} (hL : La h S) : m_get h 318 = some (.inl (false, 10, S 5)) := hL 5 (by decide)
theorem la_6 {h : mH} {S : Nat → Nat → Int32} (hL : La h S) : m_get h 319 = some (.inl (false, 64, S 6)) := hL 6 (by decide)
theorem la_7 {h : mH} {S : Nat → Nat → Int32} (hL : La h S) : m_get h 320 = some (.inl (false, 64, S 7)) := hL 7 (by decide)
theorem La.put {h : mH} {o i : Nat} {S : Nat → Nat → Int32} {v : Int32} {cl : mC} (hL : La h S) (ho : o < 8) (hc : lawC o (upd (S o) i v) = cl) : La (m_set h (313 + o) cl) (updM S o i v) := by
  rw [updM_eq]
  exact hL.setM ho hc
theorem l_step {X : mX} {j pc : Nat} {L : mL} {st : List Value} {h0 h : mH} {Q : Option Value → mH → Prop} {o i : Nat} {S : Nat → Nat → Int32} {v : Int32} {cl : mC} (hL : La h S) (hF : Frm h0 h 313 8) (ho : o < 8) (hc : lawC o (upd (S o) i v) = cl) (K : ∀ h1, La h1 (updM S o i v) → Frm h0 h1 313 8 → m_wp X j pc L st h1 Q) : m_wp X j pc L st (m_set h (313 + o) cl) Q := K _ (hL.put ho hc) (hF.trans (Frm.set ho))
abbrev DoesL (X : mX) (j : Nat) (as : List Value) (h : mH) (S : Nat → Nat → Int32) (v : Option Value) : Prop := m_wp X j 0 (m_entry j as) [] h (fun w h1 => w = v ∧ La h1 S ∧ Frm h h1 313 8)
section WPL
variable {X : mX} {j pc : Nat} {L : mL} {rest : List Value} {h0 h : mH} {Q : Option Value → mH → Prop} {S : Nat → Nat → Int32}
theorem wp_invsL {idx e j2 n : Nat} {asr as : List Value} {st0 : List Value} (hd : decode (m_code j) pc = .ok (.invokestatic idx, 3)) (hf : m_findM (m_own j) idx = some (e, 3, j2)) (hn : m_np j2 = n) (ht : st0.take n = asr) (hdr : st0.drop n = rest) (has : asr.reverse = as) (hl : n ≤ st0.length)
    (h1 : rest.length ≤ 8) (h2 : rest.all m_c1 = true) (h3 : as.all m_c1 = true) (h4 : as.length ≤ m_nl j2) (h5 : m_fr j2 + 1 + m_nl j2 / 10 ≤ m_fr j) (hC : DoesL X j2 as h S none) (hF : Frm h0 h 313 8) (K : ∀ h1, La h1 S → Frm h0 h1 313 8 → m_wp X j (pc + 3) L rest h1 Q) : m_wp X j pc L st0 h Q :=
  wp_invs hd hf hn ht hdr has hl h1 h2 h3 h4 h5 hC (fun v h1 hq => by
    obtain ⟨rfl, q1, q2⟩ := hq
    exact K h1 q1 (hF.trans q2))
end WPL
/-- the low part of an int -/
def lowN (x : Int32) (n : Nat) : Nat := (x &&& 2147483647).toNatClampNeg % n
theorem low_and (x : Int32) : ∃ a : Nat, a < 2 ^ 31 ∧ x &&& (2147483647 : Int32) = nI a := by
  refine ⟨(x &&& (2147483647 : Int32)).toNatClampNeg, ?_, ?_⟩
  · have := Int32.toInt_lt (x &&& (2147483647 : Int32))
    show (x &&& (2147483647 : Int32)).toInt.toNat < 2 ^ 31
    omega
  · have h0 : 0 ≤ (x &&& (2147483647 : Int32)).toInt := by
      show 0 ≤ (x &&& (2147483647 : Int32)).toBitVec.toInt
      refine BitVec.toInt_nonneg_of_msb_false ?_
      rw [Int32.toBitVec_and, BitVec.msb_and, show (2147483647 : Int32).toBitVec.msb = false by decide, Bool.and_false]
    apply Int32.toInt_inj.mp
    rw [nI_int (by have := Int32.toInt_lt (x &&& (2147483647 : Int32)); show (x &&& (2147483647 : Int32)).toInt.toNat < 2 ^ 31; omega)]
    show _ = (((x &&& (2147483647 : Int32)).toInt.toNat : Nat) : Int)
    omega
theorem k_cell_i {L : Nat} {xs : Nat → Int32} {h : mH} (hL9 : L ≤ 260) {k : Nat} (hk : k < L) (hk9 : k < 100) : Tells (L, xs) 292 [.float 0, .int (nI k)] h (xs k) := by
  refine wp_iload_n d292_0 rfl ?_
  refine wp_sload_n d292_1 rfl ?_
  refine wp_slen d292_2 (v := nI L) rfl ?_
  refine wp_icmp_ge d292_3 (tgt := 12) (by decide) (fun hq9 => absurd hq9 (fun z => absurd hk (Nat.not_lt.mpr ((nI_leI (by omega) (by omega)).mp z)))) (fun _ => ?_)
  refine wp_sload_n d292_6 rfl ?_
  refine wp_iload_n d292_7 rfl ?_
  refine wp_sald d292_8 (nI_in (by omega) (by omega)) (v := xs k) (congrArg xs (nI_nat (by omega))) ?_
  refine wp_goto d292_9 (tgt := 21) (by decide) ?_
  refine wp_iret d292_21 (by decide +kernel) ?_
  exact ⟨rfl, rfl⟩
theorem k_cell_o {L : Nat} {xs : Nat → Int32} {h : mH} (hL9 : L ≤ 260) {k : Nat} (hk : L ≤ k) (hk9 : k < 100) : Tells (L, xs) 292 [.float 0, .int (nI k)] h ((((1065670069 : Int32) * (nI (k + 1))) + (1779033703 : Int32))) := by
  refine wp_iload_n d292_0 rfl ?_
  refine wp_sload_n d292_1 rfl ?_
  refine wp_slen d292_2 (v := nI L) rfl ?_
  refine wp_icmp_ge d292_3 (tgt := 12) (by decide) (fun _ => ?_) (fun hq9 => absurd (nI_le hk (by omega)) hq9)
  refine wp_ldc (e := 7) (v := (1065670069 : Int32)) d292_12 (by decide +kernel) ?_
  refine wp_iload_n d292_14 rfl ?_
  refine wp_iconst d292_15 (v := nI 1) (by decide) ?_
  refine wp_iaddv d292_16 (v := nI (k + 1)) (nI_add _ _) ?_
  refine wp_imul d292_17 ?_
  refine wp_ldc (e := 8) (v := (1779033703 : Int32)) d292_18 (by decide +kernel) ?_
  refine wp_iadd d292_20 ?_
  refine wp_iret d292_21 (by decide +kernel) ?_
  exact ⟨rfl, rfl⟩
theorem k_cell {L : Nat} {xs : Nat → Int32} {h : mH} (hL9 : L ≤ 260) {k : Nat} (hk9 : k < 100) : ∃ x : Int32, Tells (L, xs) 292 [.float 0, .int (nI k)] h x := by
  by_cases hk : k < L
  · exact ⟨_, k_cell_i hL9 hk hk9⟩
  · exact ⟨_, k_cell_o hL9 (Nat.not_lt.mp hk) hk9⟩
theorem k_low {X : mX} {h : mH} (x : Int32) {n : Nat} (hn : 0 < n) (hn2 : n < 100) : ∃ r, r < n ∧ Tells X 293 [.int x, .int (nI n)] h (nI r) := by
  obtain ⟨a, ha0, ha⟩ := low_and x
  refine ⟨a % n, Nat.mod_lt _ hn, ?_⟩
  refine wp_iload_n d293_0 rfl ?_
  refine wp_ldc (e := 9) (v := (2147483647 : Int32)) d293_1 (by decide +kernel) ?_
  refine wp_iandv d293_3 (v := nI a) ha ?_
  refine wp_iload_n d293_4 rfl ?_
  refine wp_iremv d293_5 (v := nI (a % n)) (nI_nz0 hn (by omega)) (nI_rem (by omega) (by omega)) ?_
  refine wp_iret d293_6 (by decide +kernel) ?_
  exact ⟨rfl, rfl⟩
theorem k_stands {X : mX} {h : mH} {S : Nat → Nat → Int32} (hL : La h S) {r : Nat} : Tells X 295 [.int (nI r), .ref 316] h (m_b (S 3 0 = nI r ∨ S 3 10 = nI r)) := by
  refine wp_aload_n d295_0 rfl ?_
  refine wp_iconst d295_1 (v := nI 0) (by decide) ?_
  refine wp_iald d295_2 (la_3 hL) (nI_in (by omega) (by decide)) (v := S 3 0) ((congrArg (S 3) (nI_nat (by omega))).trans rfl) ?_
  refine wp_iload_n d295_3 rfl ?_
  refine wp_icmp_eq d295_4 (tgt := 15) (by decide) (fun hc4 => ?_) (fun hc4 => ?_)
  · refine wp_iconst d295_15 (v := nI 1) (by decide) ?_
    refine wp_goto d295_16 (tgt := 20) (by decide) ?_
    refine wp_zret d295_20 (by decide +kernel) (by decide) ?_
    exact ⟨congrArg (fun z => some (Value.int z)) (m_b_t (Or.inl hc4)).symm, rfl⟩
  · refine wp_aload_n d295_7 rfl ?_
    refine wp_bipush d295_8 (v := nI 10) (by decide) ?_
    refine wp_iald d295_10 (la_3 hL) (nI_in (by omega) (by decide)) (v := S 3 10) ((congrArg (S 3) (nI_nat (by omega))).trans rfl) ?_
    refine wp_iload_n d295_11 rfl ?_
    refine wp_icmp_ne d295_12 (tgt := 19) (by decide) (fun hc12 => ?_) (fun hc12 => ?_)
    · refine wp_iconst d295_19 (v := nI 0) (by decide) ?_
      refine wp_zret d295_20 (by decide +kernel) (by decide) ?_
      exact ⟨congrArg (fun z => some (Value.int z)) (m_b_f (fun q => q.elim hc4 hc12)).symm, rfl⟩
    · refine wp_iconst d295_15 (v := nI 1) (by decide) ?_
      refine wp_goto d295_16 (tgt := 20) (by decide) ?_
      refine wp_zret d295_20 (by decide +kernel) (by decide) ?_
      exact ⟨congrArg (fun z => some (Value.int z)) (m_b_t (Or.inr hc12)).symm, rfl⟩
theorem k_alarm_i {X : mX} {h : mH} {S : Nat → Nat → Int32} (hL : La h S) {c r mi na : Nat} (hna : S 0 1 = nI na) (hmi : S 0 0 = nI mi) (hc9 : c < 10) (hr9 : r < 10) (hmi9 : mi < 1000) (hna9 : na < 1000) (hlt : na < 64) : DoesL X 299 [.int (nI c), .int (nI r), .ref 313, .ref 319] h ((updM (updM S 6 (na) (nI (10000 * c + 1000 * r + mi))) 0 (1) (nI (na + 1)))) none := by
  have hF : Frm h h 313 8 := Frm.rf
  refine wp_aload_n d299_0 rfl ?_
  refine wp_iconst d299_1 (v := nI 1) (by decide) ?_
  refine wp_iald d299_2 (la_0 hL) (nI_in (by omega) (by decide)) (v := nI na) ((congrArg (S 0) (nI_nat (by omega))).trans hna) ?_
  refine wp_bipush d299_3 (v := nI 64) (by decide) ?_
  refine wp_icmp_ge d299_5 (tgt := 28) (by decide) (fun hq9 => absurd hq9 (fun z => absurd hlt (Nat.not_lt.mpr ((nI_leI (by omega) (by omega)).mp z)))) (fun _ => ?_)
  refine wp_aload_n d299_8 rfl ?_
  refine wp_aload_n d299_9 rfl ?_
  refine wp_iconst d299_10 (v := nI 1) (by decide) ?_
  refine wp_iald d299_11 (la_0 hL) (nI_in (by omega) (by decide)) (v := nI na) ((congrArg (S 0) (nI_nat (by omega))).trans hna) ?_
  refine wp_sipush d299_12 (v := nI 10000) (by decide) ?_
  refine wp_iload_n d299_15 rfl ?_
  refine wp_imulv d299_16 (v := nI (10000 * c)) (nI_mul _ _) ?_
  refine wp_sipush d299_17 (v := nI 1000) (by decide) ?_
  refine wp_iload_n d299_20 rfl ?_
  refine wp_imulv d299_21 (v := nI (1000 * r)) (nI_mul _ _) ?_
  refine wp_iaddv d299_22 (v := nI (10000 * c + 1000 * r)) (nI_add _ _) ?_
  refine wp_aload_n d299_23 rfl ?_
  refine wp_iconst d299_24 (v := nI 0) (by decide) ?_
  refine wp_iald d299_25 (la_0 hL) (nI_in (by omega) (by decide)) (v := nI mi) ((congrArg (S 0) (nI_nat (by omega))).trans hmi) ?_
  refine wp_iaddv d299_26 (v := nI (10000 * c + 1000 * r + mi)) (nI_add _ _) ?_
  refine wp_iast d299_27 (la_6 hL) (nI_in (by omega) (by decide)) ?_
  refine l_step (o := 6) (i := na) (v := nI (10000 * c + 1000 * r + mi)) hL hF (by decide) (by rw [nI_nat (by omega)]; rfl) (fun h hL hF => ?_)
  refine wp_aload_n d299_28 rfl ?_
  refine wp_iconst d299_29 (v := nI 1) (by decide) ?_
  refine wp_dup2 d299_30 rfl rfl ?_
  refine wp_iald d299_31 (la_0 hL) (nI_in (by omega) (by decide)) (v := nI na) ((congrArg ((updM S 6 (na) (nI (10000 * c + 1000 * r + mi))) 0) (nI_nat (by omega))).trans ((updM_diff (by omega)).trans hna)) ?_
  refine wp_iconst d299_32 (v := nI 1) (by decide) ?_
  refine wp_iaddv d299_33 (v := nI (na + 1)) (nI_add _ _) ?_
  refine wp_iast d299_34 (la_0 hL) (nI_in (by omega) (by decide)) ?_
  refine l_step (o := 0) (i := 1) (v := nI (na + 1)) hL hF (by decide) (by rw [nI_nat (by omega)]; rfl) (fun h hL hF => ?_)
  refine wp_vret d299_35 (by decide +kernel) ?_
  exact ⟨rfl, hL, hF⟩
theorem k_alarm_o {X : mX} {h : mH} {S : Nat → Nat → Int32} (hL : La h S) {c r mi na : Nat} (hna : S 0 1 = nI na) (hmi : S 0 0 = nI mi) (hc9 : c < 10) (hr9 : r < 10) (hmi9 : mi < 1000) (hna9 : na < 1000) (hlt : 64 ≤ na) : DoesL X 299 [.int (nI c), .int (nI r), .ref 313, .ref 319] h ((updM S 0 (1) (nI (na + 1)))) none := by
  have hF : Frm h h 313 8 := Frm.rf
  refine wp_aload_n d299_0 rfl ?_
  refine wp_iconst d299_1 (v := nI 1) (by decide) ?_
  refine wp_iald d299_2 (la_0 hL) (nI_in (by omega) (by decide)) (v := nI na) ((congrArg (S 0) (nI_nat (by omega))).trans hna) ?_
  refine wp_bipush d299_3 (v := nI 64) (by decide) ?_
  refine wp_icmp_ge d299_5 (tgt := 28) (by decide) (fun _ => ?_) (fun hq9 => absurd (nI_le hlt (by omega)) hq9)
  refine wp_aload_n d299_28 rfl ?_
  refine wp_iconst d299_29 (v := nI 1) (by decide) ?_
  refine wp_dup2 d299_30 rfl rfl ?_
  refine wp_iald d299_31 (la_0 hL) (nI_in (by omega) (by decide)) (v := nI na) ((congrArg (S 0) (nI_nat (by omega))).trans hna) ?_
  refine wp_iconst d299_32 (v := nI 1) (by decide) ?_
  refine wp_iaddv d299_33 (v := nI (na + 1)) (nI_add _ _) ?_
  refine wp_iast d299_34 (la_0 hL) (nI_in (by omega) (by decide)) ?_
  refine l_step (o := 0) (i := 1) (v := nI (na + 1)) hL hF (by decide) (by rw [nI_nat (by omega)]; rfl) (fun h hL hF => ?_)
  refine wp_vret d299_35 (by decide +kernel) ?_
  exact ⟨rfl, hL, hF⟩
def L_al (S : Nat → Nat → Int32) (na v : Nat) : Nat → Nat → Int32 := if na < 64 then updM (updM S 6 (na) (nI (v))) 0 (1) (nI (na + 1)) else updM S 0 (1) (nI (na + 1))
theorem k_alarm {X : mX} {h : mH} {S : Nat → Nat → Int32} (hL : La h S) {c r mi na : Nat} (hna : S 0 1 = nI na) (hmi : S 0 0 = nI mi) (hc9 : c < 10) (hr9 : r < 10) (hmi9 : mi < 1000) (hna9 : na < 1000) : DoesL X 299 [.int (nI c), .int (nI r), .ref 313, .ref 319] h (L_al S na (10000 * c + 1000 * r + mi)) none := by
  unfold L_al
  by_cases hlt : na < 64
  · rw [if_pos hlt]
    exact k_alarm_i hL hna hmi hc9 hr9 hmi9 hna9 hlt
  · rw [if_neg hlt]
    exact k_alarm_o hL hna hmi hc9 hr9 hmi9 hna9 (Nat.not_lt.mp hlt)
