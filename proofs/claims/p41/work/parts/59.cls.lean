/-! The class: the guards set off, one by one. -/
theorem d108_0 : decode (m_code 108) 0 = .ok (.iconst 0, 1) := by decide +kernel
theorem d108_1 : decode (m_code 108) 1 = .ok (.istore_n 1, 1) := by decide +kernel
theorem d108_2 : decode (m_code 108) 2 = .ok (.iload_n 1, 1) := by decide +kernel
theorem d108_3 : decode (m_code 108) 3 = .ok (.aload_n 0, 1) := by decide +kernel
theorem d108_4 : decode (m_code 108) 4 = .ok (.getfield 42, 3) := by decide +kernel
theorem d108_7 : decode (m_code 108) 7 = .ok (.invokevirtual 130, 3) := by decide +kernel
theorem d108_10 : decode (m_code 108) 10 = .ok (.if_icmp .ge 61, 3) := by decide +kernel
theorem d108_13 : decode (m_code 108) 13 = .ok (.aload_n 0, 1) := by decide +kernel
theorem d108_14 : decode (m_code 108) 14 = .ok (.getfield 42, 3) := by decide +kernel
theorem d108_17 : decode (m_code 108) 17 = .ok (.iload_n 1, 1) := by decide +kernel
theorem d108_18 : decode (m_code 108) 18 = .ok (.invokevirtual 133, 3) := by decide +kernel
theorem d108_21 : decode (m_code 108) 21 = .ok (.ifCond .eq 6, 3) := by decide +kernel
theorem d108_24 : decode (m_code 108) 24 = .ok (.goto 41, 3) := by decide +kernel
theorem d108_27 : decode (m_code 108) 27 = .ok (.aload_n 0, 1) := by decide +kernel
theorem d108_28 : decode (m_code 108) 28 = .ok (.getfield 42, 3) := by decide +kernel
theorem d108_31 : decode (m_code 108) 31 = .ok (.iload_n 1, 1) := by decide +kernel
theorem d108_32 : decode (m_code 108) 32 = .ok (.invokevirtual 137, 3) := by decide +kernel
theorem d108_35 : decode (m_code 108) 35 = .ok (.ifCond .le 14, 3) := by decide +kernel
theorem d108_38 : decode (m_code 108) 38 = .ok (.aload_n 0, 1) := by decide +kernel
theorem d108_39 : decode (m_code 108) 39 = .ok (.getfield 42, 3) := by decide +kernel
theorem d108_42 : decode (m_code 108) 42 = .ok (.iload_n 1, 1) := by decide +kernel
theorem d108_43 : decode (m_code 108) 43 = .ok (.invokevirtual 141, 3) := by decide +kernel
theorem d108_46 : decode (m_code 108) 46 = .ok (.goto 19, 3) := by decide +kernel
theorem d108_49 : decode (m_code 108) 49 = .ok (.aload_n 0, 1) := by decide +kernel
theorem d108_50 : decode (m_code 108) 50 = .ok (.getfield 42, 3) := by decide +kernel
theorem d108_53 : decode (m_code 108) 53 = .ok (.iload_n 1, 1) := by decide +kernel
theorem d108_54 : decode (m_code 108) 54 = .ok (.invokevirtual 145, 3) := by decide +kernel
theorem d108_57 : decode (m_code 108) 57 = .ok (.ifCond .le 8, 3) := by decide +kernel
theorem d108_60 : decode (m_code 108) 60 = .ok (.aload_n 0, 1) := by decide +kernel
theorem d108_61 : decode (m_code 108) 61 = .ok (.iload_n 1, 1) := by decide +kernel
theorem d108_62 : decode (m_code 108) 62 = .ok (.invokevirtual 148, 3) := by decide +kernel
theorem d108_65 : decode (m_code 108) 65 = .ok (.iinc 1 1, 3) := by decide +kernel
theorem d108_68 : decode (m_code 108) 68 = .ok (.goto (-66), 3) := by decide +kernel
theorem d108_71 : decode (m_code 108) 71 = .ok (.return_, 1) := by decide +kernel
theorem u_so_w {X : mX} {h : mH} {B st ln c : Nat} {M : Nat → Nat → Int32} {T : Nat → Int32} (hS : MusT h B st ln M T c) {h0 : mH} {st0 ln0 : Nat} {Q : Option Value → mH → Prop} {n m g : Nat} (hG : Grw h0 h B st0 ln0 st ln) (hn : M 19 9 = nI n) (hn2 : n ≤ 4) (hg : g < n) (hm : M 27 g = nI m) (hm2 : m ≤ 12) (hw : M 20 g = (-5 : Int32)) (K : ∀ h1 st1 ln1, MusT h1 B st1 ln1 (M) (T) (c) → Grw h0 h1 B st0 ln0 st1 ln1 → m_wp X 108 2 [some (.ref B), some (.int (nI (g + 1)))] [] h1 Q) : m_wp X 108 2 [some (.ref B), some (.int (nI g))] [] h Q := by
  have hM := hS.1
  refine wp_iload_n d108_2 rfl ?_
  refine wp_aload_n d108_3 rfl ?_
  refine wp_getf (e := 42) (ci := 1) (k := 4) (nest := false) d108_4 (by decide +kernel) (um_0 hM) rfl ?_
  refine wp_invvT (e := 130) (j2 := 57) (n := 0) d108_7 (by decide +kernel) (by decide +kernel) rfl rfl rfl (um_19 hM) (by decide +kernel) (Nat.le_of_ble_eq_true rfl) rfl rfl (Nat.le_of_ble_eq_true rfl) (by decide +kernel) (u_size19 hM hn (by omega)) ?_
  refine wp_icmp_ge d108_10 (tgt := 71) (by decide) (fun hq9 => absurd hq9 (fun z => by have := (nI_leI (by omega) (by omega)).mp z; omega)) (fun _ => ?_)
  refine wp_aload_n d108_13 rfl ?_
  refine wp_getf (e := 42) (ci := 1) (k := 4) (nest := false) d108_14 (by decide +kernel) (um_0 hM) rfl ?_
  refine wp_iload_n d108_17 rfl ?_
  refine wp_invvT (e := 133) (j2 := 74) (n := 1) d108_18 (by decide +kernel) (by decide +kernel) rfl rfl rfl (um_19 hM) (by decide +kernel) (Nat.le_of_ble_eq_true rfl) rfl rfl (Nat.le_of_ble_eq_true rfl) (by decide +kernel) (u_isWalking hM hn (by omega) (by omega)) ?_
  refine wp_ifb_eq d108_21 (tgt := 27) (by decide) (fun hq9 => absurd hw hq9) (fun _ => ?_)
  refine wp_goto d108_24 (tgt := 65) (by decide) ?_
  refine wp_iinc d108_65 rfl (v := nI (g + 1)) (nI_add _ 1) (Nat.le_of_ble_eq_true rfl) rfl ?_
  refine wp_goto d108_68 (tgt := 2) (by decide) ?_
  exact K h st ln hS hG
theorem u_so_s {X : mX} {h : mH} {B st ln c : Nat} {M : Nat → Nat → Int32} {T : Nat → Int32} (hS : MusT h B st ln M T c) {h0 : mH} {st0 ln0 : Nat} {Q : Option Value → mH → Prop} {n m g : Nat} (hG : Grw h0 h B st0 ln0 st ln) (hn : M 19 9 = nI n) (hn2 : n ≤ 4) (hg : g < n) (hm : M 27 g = nI m) (hm2 : m ≤ 12) (hw : ¬ M 20 g = (-5 : Int32)) (hs : ¬ M 23 g ≤ 0) (K : ∀ h1 st1 ln1, MusT h1 B st1 ln1 (updM M 23 g (M 23 g - nI 1)) (T) (c) → Grw h0 h1 B st0 ln0 st1 ln1 → m_wp X 108 2 [some (.ref B), some (.int (nI (g + 1)))] [] h1 Q) : m_wp X 108 2 [some (.ref B), some (.int (nI g))] [] h Q := by
  have hM := hS.1
  refine wp_iload_n d108_2 rfl ?_
  refine wp_aload_n d108_3 rfl ?_
  refine wp_getf (e := 42) (ci := 1) (k := 4) (nest := false) d108_4 (by decide +kernel) (um_0 hM) rfl ?_
  refine wp_invvT (e := 130) (j2 := 57) (n := 0) d108_7 (by decide +kernel) (by decide +kernel) rfl rfl rfl (um_19 hM) (by decide +kernel) (Nat.le_of_ble_eq_true rfl) rfl rfl (Nat.le_of_ble_eq_true rfl) (by decide +kernel) (u_size19 hM hn (by omega)) ?_
  refine wp_icmp_ge d108_10 (tgt := 71) (by decide) (fun hq9 => absurd hq9 (fun z => by have := (nI_leI (by omega) (by omega)).mp z; omega)) (fun _ => ?_)
  refine wp_aload_n d108_13 rfl ?_
  refine wp_getf (e := 42) (ci := 1) (k := 4) (nest := false) d108_14 (by decide +kernel) (um_0 hM) rfl ?_
  refine wp_iload_n d108_17 rfl ?_
  refine wp_invvT (e := 133) (j2 := 74) (n := 1) d108_18 (by decide +kernel) (by decide +kernel) rfl rfl rfl (um_19 hM) (by decide +kernel) (Nat.le_of_ble_eq_true rfl) rfl rfl (Nat.le_of_ble_eq_true rfl) (by decide +kernel) (u_isWalking hM hn (by omega) (by omega)) ?_
  refine wp_ifb_eq d108_21 (tgt := 27) (by decide) (fun _ => ?_) (fun hq9 => absurd hq9 hw)
  refine wp_aload_n d108_27 rfl ?_
  refine wp_getf (e := 42) (ci := 1) (k := 4) (nest := false) d108_28 (by decide +kernel) (um_0 hM) rfl ?_
  refine wp_iload_n d108_31 rfl ?_
  refine wp_invvT (e := 137) (j2 := 79) (n := 1) d108_32 (by decide +kernel) (by decide +kernel) rfl rfl rfl (um_19 hM) (by decide +kernel) (Nat.le_of_ble_eq_true rfl) rfl rfl (Nat.le_of_ble_eq_true rfl) (by decide +kernel) (tells_to (if_neg hw) (u_stayLeft hM hn hn2 hg)) ?_
  refine wp_if_le d108_35 (tgt := 49) (by decide) (fun hq9 => absurd hq9 hs) (fun _ => ?_)
  refine wp_aload_n d108_38 rfl ?_
  refine wp_getf (e := 42) (ci := 1) (k := 4) (nest := false) d108_39 (by decide +kernel) (um_0 hM) rfl ?_
  refine wp_iload_n d108_42 rfl ?_
  refine wp_invvUG (e := 141) (j2 := 109) (n := 1) d108_43 (by decide +kernel) (by decide +kernel) rfl rfl rfl (um_19 hM) (by decide +kernel) (Nat.le_of_ble_eq_true rfl) rfl rfl (Nat.le_of_ble_eq_true rfl) (by decide +kernel) (u_shortenStay hM hn hn2 hg hw hs) hS hG (updM_diff (by omega)) ?_
  intro h hS hG
  have hM := hS.1
  refine wp_goto d108_46 (tgt := 65) (by decide) ?_
  refine wp_iinc d108_65 rfl (v := nI (g + 1)) (nI_add _ 1) (Nat.le_of_ble_eq_true rfl) rfl ?_
  refine wp_goto d108_68 (tgt := 2) (by decide) ?_
  exact K h st ln hS hG
theorem u_so_0 {X : mX} {h : mH} {B st ln c : Nat} {M : Nat → Nat → Int32} {T : Nat → Int32} (hS : MusT h B st ln M T c) {h0 : mH} {st0 ln0 : Nat} {Q : Option Value → mH → Prop} {n m g : Nat} (hG : Grw h0 h B st0 ln0 st ln) (hn : M 19 9 = nI n) (hn2 : n ≤ 4) (hg : g < n) (hm : M 27 g = nI m) (hm2 : m ≤ 12) (hw : ¬ M 20 g = (-5 : Int32)) (hs : M 23 g ≤ 0) (hm0 : m = 0) (K : ∀ h1 st1 ln1, MusT h1 B st1 ln1 (M) (T) (c) → Grw h0 h1 B st0 ln0 st1 ln1 → m_wp X 108 2 [some (.ref B), some (.int (nI (g + 1)))] [] h1 Q) : m_wp X 108 2 [some (.ref B), some (.int (nI g))] [] h Q := by
  have hM := hS.1
  refine wp_iload_n d108_2 rfl ?_
  refine wp_aload_n d108_3 rfl ?_
  refine wp_getf (e := 42) (ci := 1) (k := 4) (nest := false) d108_4 (by decide +kernel) (um_0 hM) rfl ?_
  refine wp_invvT (e := 130) (j2 := 57) (n := 0) d108_7 (by decide +kernel) (by decide +kernel) rfl rfl rfl (um_19 hM) (by decide +kernel) (Nat.le_of_ble_eq_true rfl) rfl rfl (Nat.le_of_ble_eq_true rfl) (by decide +kernel) (u_size19 hM hn (by omega)) ?_
  refine wp_icmp_ge d108_10 (tgt := 71) (by decide) (fun hq9 => absurd hq9 (fun z => by have := (nI_leI (by omega) (by omega)).mp z; omega)) (fun _ => ?_)
  refine wp_aload_n d108_13 rfl ?_
  refine wp_getf (e := 42) (ci := 1) (k := 4) (nest := false) d108_14 (by decide +kernel) (um_0 hM) rfl ?_
  refine wp_iload_n d108_17 rfl ?_
  refine wp_invvT (e := 133) (j2 := 74) (n := 1) d108_18 (by decide +kernel) (by decide +kernel) rfl rfl rfl (um_19 hM) (by decide +kernel) (Nat.le_of_ble_eq_true rfl) rfl rfl (Nat.le_of_ble_eq_true rfl) (by decide +kernel) (u_isWalking hM hn (by omega) (by omega)) ?_
  refine wp_ifb_eq d108_21 (tgt := 27) (by decide) (fun _ => ?_) (fun hq9 => absurd hq9 hw)
  refine wp_aload_n d108_27 rfl ?_
  refine wp_getf (e := 42) (ci := 1) (k := 4) (nest := false) d108_28 (by decide +kernel) (um_0 hM) rfl ?_
  refine wp_iload_n d108_31 rfl ?_
  refine wp_invvT (e := 137) (j2 := 79) (n := 1) d108_32 (by decide +kernel) (by decide +kernel) rfl rfl rfl (um_19 hM) (by decide +kernel) (Nat.le_of_ble_eq_true rfl) rfl rfl (Nat.le_of_ble_eq_true rfl) (by decide +kernel) (tells_to (if_neg hw) (u_stayLeft hM hn hn2 hg)) ?_
  refine wp_if_le d108_35 (tgt := 49) (by decide) (fun _ => ?_) (fun hq9 => absurd hs hq9)
  refine wp_aload_n d108_49 rfl ?_
  refine wp_getf (e := 42) (ci := 1) (k := 4) (nest := false) d108_50 (by decide +kernel) (um_0 hM) rfl ?_
  refine wp_iload_n d108_53 rfl ?_
  refine wp_invvT (e := 145) (j2 := 76) (n := 1) d108_54 (by decide +kernel) (by decide +kernel) rfl rfl rfl (um_19 hM) (by decide +kernel) (Nat.le_of_ble_eq_true rfl) rfl rfl (Nat.le_of_ble_eq_true rfl) (by decide +kernel) (tells_to hm (u_a76 hM hn (by omega) (r := g) (by omega))) ?_
  refine wp_if_le d108_57 (tgt := 65) (by decide) (fun _ => ?_) (fun hq9 => absurd (by rw [hm0]; decide) hq9)
  refine wp_iinc d108_65 rfl (v := nI (g + 1)) (nI_add _ 1) (Nat.le_of_ble_eq_true rfl) rfl ?_
  refine wp_goto d108_68 (tgt := 2) (by decide) ?_
  exact K h st ln hS hG
theorem u_so_f {X : mX} {h : mH} {B st ln c : Nat} {M : Nat → Nat → Int32} {T : Nat → Int32} (hS : MusT h B st ln M T c) {h0 : mH} {st0 ln0 : Nat} {Q : Option Value → mH → Prop} {n m g : Nat} (hG : Grw h0 h B st0 ln0 st ln) (hn : M 19 9 = nI n) (hn2 : n ≤ 4) (hg : g < n) (hm : M 27 g = nI m) (hm2 : m ≤ 12) (hw : ¬ M 20 g = (-5 : Int32)) (hs : M 23 g ≤ 0) (hm0 : 0 < m) {M1 : Nat → Nat → Int32} {T1 : Nat → Int32} {c1 : Nat} (hC : DoesG X 110 [.ref B, .int (nI g)] h B st ln M1 T1 c1 none) (K : ∀ h1 st1 ln1, MusT h1 B st1 ln1 (M1) (T1) (c1) → Grw h0 h1 B st0 ln0 st1 ln1 → m_wp X 108 2 [some (.ref B), some (.int (nI (g + 1)))] [] h1 Q) : m_wp X 108 2 [some (.ref B), some (.int (nI g))] [] h Q := by
  have hM := hS.1
  refine wp_iload_n d108_2 rfl ?_
  refine wp_aload_n d108_3 rfl ?_
  refine wp_getf (e := 42) (ci := 1) (k := 4) (nest := false) d108_4 (by decide +kernel) (um_0 hM) rfl ?_
  refine wp_invvT (e := 130) (j2 := 57) (n := 0) d108_7 (by decide +kernel) (by decide +kernel) rfl rfl rfl (um_19 hM) (by decide +kernel) (Nat.le_of_ble_eq_true rfl) rfl rfl (Nat.le_of_ble_eq_true rfl) (by decide +kernel) (u_size19 hM hn (by omega)) ?_
  refine wp_icmp_ge d108_10 (tgt := 71) (by decide) (fun hq9 => absurd hq9 (fun z => by have := (nI_leI (by omega) (by omega)).mp z; omega)) (fun _ => ?_)
  refine wp_aload_n d108_13 rfl ?_
  refine wp_getf (e := 42) (ci := 1) (k := 4) (nest := false) d108_14 (by decide +kernel) (um_0 hM) rfl ?_
  refine wp_iload_n d108_17 rfl ?_
  refine wp_invvT (e := 133) (j2 := 74) (n := 1) d108_18 (by decide +kernel) (by decide +kernel) rfl rfl rfl (um_19 hM) (by decide +kernel) (Nat.le_of_ble_eq_true rfl) rfl rfl (Nat.le_of_ble_eq_true rfl) (by decide +kernel) (u_isWalking hM hn (by omega) (by omega)) ?_
  refine wp_ifb_eq d108_21 (tgt := 27) (by decide) (fun _ => ?_) (fun hq9 => absurd hq9 hw)
  refine wp_aload_n d108_27 rfl ?_
  refine wp_getf (e := 42) (ci := 1) (k := 4) (nest := false) d108_28 (by decide +kernel) (um_0 hM) rfl ?_
  refine wp_iload_n d108_31 rfl ?_
  refine wp_invvT (e := 137) (j2 := 79) (n := 1) d108_32 (by decide +kernel) (by decide +kernel) rfl rfl rfl (um_19 hM) (by decide +kernel) (Nat.le_of_ble_eq_true rfl) rfl rfl (Nat.le_of_ble_eq_true rfl) (by decide +kernel) (tells_to (if_neg hw) (u_stayLeft hM hn hn2 hg)) ?_
  refine wp_if_le d108_35 (tgt := 49) (by decide) (fun _ => ?_) (fun hq9 => absurd hs hq9)
  refine wp_aload_n d108_49 rfl ?_
  refine wp_getf (e := 42) (ci := 1) (k := 4) (nest := false) d108_50 (by decide +kernel) (um_0 hM) rfl ?_
  refine wp_iload_n d108_53 rfl ?_
  refine wp_invvT (e := 145) (j2 := 76) (n := 1) d108_54 (by decide +kernel) (by decide +kernel) rfl rfl rfl (um_19 hM) (by decide +kernel) (Nat.le_of_ble_eq_true rfl) rfl rfl (Nat.le_of_ble_eq_true rfl) (by decide +kernel) (tells_to hm (u_a76 hM hn (by omega) (r := g) (by omega))) ?_
  refine wp_if_le d108_57 (tgt := 65) (by decide) (fun hq9 => absurd hq9 (Int32.not_le.mpr (nI_lt (a := 0) hm0 (by omega)))) (fun _ => ?_)
  refine wp_aload_n d108_60 rfl ?_
  refine wp_iload_n d108_61 rfl ?_
  refine wp_invvG (e := 148) (j2 := 110) (n := 1) d108_62 (by decide +kernel) (by decide +kernel) rfl rfl rfl (um_0 hM) (by decide +kernel) (Nat.le_of_ble_eq_true rfl) rfl rfl (Nat.le_of_ble_eq_true rfl) (by decide +kernel) hC hG ?_
  intro h st ln hS hG
  have hM := hS.1
  refine wp_iinc d108_65 rfl (v := nI (g + 1)) (nI_add _ 1) (Nat.le_of_ble_eq_true rfl) rfl ?_
  refine wp_goto d108_68 (tgt := 2) (by decide) ?_
  exact K h st ln hS hG
theorem u_so_end {X : mX} {h : mH} {B st : Nat} {M : Nat → Nat → Int32} (hM : Mus h B st M) {n : Nat} (hn : M 19 9 = nI n) (hn2 : n ≤ 4) {Q : Option Value → mH → Prop} (hQ : Q none h) : m_wp X 108 2 [some (.ref B), some (.int (nI n))] [] h Q := by
  refine wp_iload_n d108_2 rfl ?_
  refine wp_aload_n d108_3 rfl ?_
  refine wp_getf (e := 42) (ci := 1) (k := 4) (nest := false) d108_4 (by decide +kernel) (um_0 hM) rfl ?_
  refine wp_invvT (e := 130) (j2 := 57) (n := 0) d108_7 (by decide +kernel) (by decide +kernel) rfl rfl rfl (um_19 hM) (by decide +kernel) (Nat.le_of_ble_eq_true rfl) rfl rfl (Nat.le_of_ble_eq_true rfl) (by decide +kernel) (u_size19 hM hn (by omega)) ?_
  refine wp_icmp_ge d108_10 (tgt := 71) (by decide) (fun _ => ?_) (fun hq9 => absurd (Int32.le_refl _) hq9)
  refine wp_vret d108_71 (by decide +kernel) ?_
  exact hQ
theorem u_so_begin {X : mX} {h : mH} {B : Nat} {Q : Option Value → mH → Prop} (hQ : m_wp X 108 2 [some (.ref B), some (.int (nI 0))] [] h Q) : m_wp X 108 0 (m_entry 108 [.ref B]) [] h Q := by
  refine wp_iconst d108_0 (v := nI 0) (by decide) ?_
  refine wp_istore_n d108_1 (Nat.le_of_ble_eq_true rfl) rfl ?_
  exact hQ
