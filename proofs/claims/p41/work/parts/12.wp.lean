/-! More steps find what fewer found. -/
def m_le (g1 g2 : mG) : Prop := ∀ j pc L st h r, g1 j pc L st h = some r → g2 j pc L st h = some r
theorem m_le_ap {g1 g2 : mG} (h12 : m_le g1 g2) {j pc : Nat} {L : mL} {st : List Value} {h : mH} {r : mR} (hr : g1 j pc L st h = some r) : g2 j pc L st h = some r := h12 _ _ _ _ _ _ hr
theorem m_le_jump {g1 g2 : mG} (h12 : m_le g1 g2) {j pc : Nat} {off : Int} {L : mL} {st : List Value} {h : mH} {r : mR} (hr : m_jump g1 j pc off L st h = some r) : m_jump g2 j pc off L st h = some r := by
  unfold m_jump at hr ⊢
  split at hr
  next h0 => rw [if_pos h0]; exact h12 _ _ _ _ _ _ hr
  next => cases hr
theorem m_le_call {g1 g2 : mG} (h12 : m_le g1 g2) {j pc len j2 : Nat} {as rest : List Value} {L : mL} {h : mH} {r : mR} (hr : m_call g1 j pc len j2 as rest L h = some r) : m_call g2 j pc len j2 as rest L h = some r := by
  obtain ⟨a1, a2, a3, a4, a5, a6, v, h1, hv, hn⟩ := m_call_at hr
  unfold m_call
  rw [if_pos ⟨a1, a2, a3, a4, a5, a6⟩, h12 _ _ _ _ _ _ hv]
  exact h12 _ _ _ _ _ _ hn
set_option maxHeartbeats 4000000 in
theorem m_le_stp {X : mX} {g1 g2 : mG} (h12 : m_le g1 g2) : m_le (m_stp X g1) (m_stp X g2) := by
  intro j pc L st h r hr
  unfold m_stp at hr ⊢
  split at hr
  next i len hd =>
    show m_ins X g2 j pc len i L st h = some r
    cases i <;> first | (simp only [m_ins] at hr; cases hr; done) | exact hr | skip
    case invokestatic idx =>
      simp only [m_ins, m_invs] at hr ⊢
      split at hr
      next e kind j2 hf =>
        by_cases h3 : kind = 3
        · rw [if_pos h3] at hr ⊢
          split at hr
          next hn => rw [if_pos hn]; exact m_le_call h12 hr
          next => cases hr
        · rw [if_neg h3] at hr ⊢
          by_cases h5 : kind = 5
          · rw [if_pos h5] at hr ⊢
            split at hr
            next =>
              split at hr
              next hg0 hg1 =>
                split at hr
                next hc => rw [if_pos hc]; exact m_le_ap h12 hr
                next => cases hr
              next => cases hr
            next => cases hr
          · rw [if_neg h5] at hr ⊢
            by_cases h6 : kind = 6 ∨ kind = 7
            · rw [if_pos h6] at hr ⊢
              split at hr
              next =>
                split at hr
                next hc => rw [if_pos hc]; exact m_le_ap h12 hr
                next => cases hr
              next => cases hr
            · rw [if_neg h6] at hr
              cases hr
      next => cases hr
    all_goals
      simp only [m_ins, m_load, m_store, m_push, m_bin, m_iinc, m_getf, m_putf, m_ald, m_ast, m_alen, m_newo, m_cond, m_invv, m_invs, m_invi, m_tsw, m_lsw, m_newa] at hr ⊢
      repeat' split at hr
    all_goals first | (cases hr; done) | skip
    all_goals first | exact m_le_ap h12 hr | exact m_le_jump h12 hr | exact m_le_call h12 hr | skip
    all_goals first | (simp only [*]; first | exact m_le_ap h12 hr | exact m_le_jump h12 hr | exact m_le_call h12 hr; done) | skip
    all_goals first | (simp_all; done) | (simp_all; first | exact m_le_ap h12 hr | exact m_le_jump h12 hr | exact m_le_call h12 hr; done) | skip
  next => cases hr
theorem m_le_run {X : mX} {k k' : Nat} (h : k ≤ k') : m_le (m_run X k) (m_run X k') := by
  induction h with
  | refl => exact fun _ _ _ _ _ _ h => h
  | step h ih =>
    intro j pc L st h r hr
    have key : ∀ n, m_le (m_run X n) (m_run X (n + 1)) := by
      intro n
      induction n with
      | zero =>
        intro j pc L st h r hr
        cases hr
      | succ n ihn => exact m_le_stp ihn
    exact key _ _ _ _ _ _ _ (ih _ _ _ _ _ _ hr)
/-- from here some run ends with an answer v and a heap h1, and Q v h1 -/
def m_wp (X : mX) (j pc : Nat) (L : mL) (st : List Value) (h : mH) (Q : Option Value → mH → Prop) : Prop := ∃ k v h1, m_run X k j pc L st h = some (v, h1) ∧ Q v h1
section WPR
variable {X : mX} {j pc : Nat} {L : mL} {st rest : List Value} {h : mH} {Q : Option Value → mH → Prop}
theorem wp_one {pc2 : Nat} {L2 : mL} {st2 : List Value} {h2 : mH} (hs : ∀ (go : mG) (r : mR), go j pc2 L2 st2 h2 = some r → m_stp X go j pc L st h = some r) (K : m_wp X j pc2 L2 st2 h2 Q) : m_wp X j pc L st h Q := by
  obtain ⟨k, v, h1, hk, hq⟩ := K
  exact ⟨k + 1, v, h1, hs _ _ hk, hq⟩
theorem wp_mono {Q2 : Option Value → mH → Prop} (K : m_wp X j pc L st h Q) (hQ : ∀ v h1, Q v h1 → Q2 v h1) : m_wp X j pc L st h Q2 := by
  obtain ⟨k, v, h1, hk, hq⟩ := K
  exact ⟨k, v, h1, hk, hQ _ _ hq⟩
theorem wp_iload_n {n : Fin 4} {x : Int32} (hd : decode (m_code j) pc = .ok (.iload_n n, 1)) (hl : L[n.val]? = some (some (.int x))) (K : m_wp X j (pc + 1) L (.int x :: st) h Q) : m_wp X j pc L st h Q := by
  refine wp_one (fun go r hr => ?_) K
  simp only [m_stp, hd, m_ins, m_load, m_ldl_of hl, m_isint, if_true]
  exact hr
theorem wp_iload {n : Nat} {x : Int32} (hd : decode (m_code j) pc = .ok (.iload n, 2)) (hl : L[n]? = some (some (.int x))) (K : m_wp X j (pc + 2) L (.int x :: st) h Q) : m_wp X j pc L st h Q := by
  refine wp_one (fun go r hr => ?_) K
  simp only [m_stp, hd, m_ins, m_load, m_ldl_of hl, m_isint, if_true]
  exact hr
theorem wp_aload_n {n : Fin 4} {a : Nat} (hd : decode (m_code j) pc = .ok (.aload_n n, 1)) (hl : L[n.val]? = some (some (.ref a))) (K : m_wp X j (pc + 1) L (.ref a :: st) h Q) : m_wp X j pc L st h Q := by
  refine wp_one (fun go r hr => ?_) K
  simp only [m_stp, hd, m_ins, m_load, m_ldl_of hl, m_isref, if_true]
  exact hr
theorem wp_sload_n {n : Fin 4} {a : UInt32} (hd : decode (m_code j) pc = .ok (.aload_n n, 1)) (hl : L[n.val]? = some (some (.float a))) (K : m_wp X j (pc + 1) L (.float a :: st) h Q) : m_wp X j pc L st h Q := by
  refine wp_one (fun go r hr => ?_) K
  simp only [m_stp, hd, m_ins, m_load, m_ldl_of hl, m_isref, if_true]
  exact hr
theorem wp_istore_n {n : Fin 4} {x : Int32} {L2 : mL} (hd : decode (m_code j) pc = .ok (.istore_n n, 1)) (hn : n.val < L.length) (hl : L.set n.val (some (.int x)) = L2) (K : m_wp X j (pc + 1) L2 st h Q) : m_wp X j pc L (.int x :: st) h Q := by
  subst hl
  refine wp_one (fun go r hr => ?_) K
  simp only [m_stp, hd, m_ins, m_store, m_isint, if_true, true_and, if_pos hn]
  exact hr
theorem wp_istore {n : Nat} {x : Int32} {L2 : mL} (hd : decode (m_code j) pc = .ok (.istore n, 2)) (hn : n < L.length) (hl : L.set n (some (.int x)) = L2) (K : m_wp X j (pc + 2) L2 st h Q) : m_wp X j pc L (.int x :: st) h Q := by
  subst hl
  refine wp_one (fun go r hr => ?_) K
  simp only [m_stp, hd, m_ins, m_store, m_isint, if_true, true_and, if_pos hn]
  exact hr
theorem wp_astore_n {n : Fin 4} {a : Nat} {L2 : mL} (hd : decode (m_code j) pc = .ok (.astore_n n, 1)) (hn : n.val < L.length) (hl : L.set n.val (some (.ref a)) = L2) (K : m_wp X j (pc + 1) L2 st h Q) : m_wp X j pc L (.ref a :: st) h Q := by
  subst hl
  refine wp_one (fun go r hr => ?_) K
  simp only [m_stp, hd, m_ins, m_store, m_isref, if_true, true_and, if_pos hn]
  exact hr
theorem wp_aload {n : Nat} {a : Nat} (hd : decode (m_code j) pc = .ok (.aload n, 2)) (hl : L[n]? = some (some (.ref a))) (K : m_wp X j (pc + 2) L (.ref a :: st) h Q) : m_wp X j pc L st h Q := by
  refine wp_one (fun go r hr => ?_) K
  simp only [m_stp, hd, m_ins, m_load, if_true, m_ldl, hl, m_isref]
  exact hr
theorem wp_astore {n : Nat} {a : Nat} {L2 : mL} (hd : decode (m_code j) pc = .ok (.astore n, 2)) (hn : n < L.length) (hl : L.set n (some (.ref a)) = L2) (K : m_wp X j (pc + 2) L2 st h Q) : m_wp X j pc L (.ref a :: st) h Q := by
  subst hl
  refine wp_one (fun go r hr => ?_) K
  simp only [m_stp, hd, m_ins, m_store, if_true, m_isref, hn, and_self]
  exact hr
theorem wp_ldc {idx e : Nat} {v : Int32} (hd : decode (m_code j) pc = .ok (.ldc idx, 2)) (hf : m_findC (m_own j) idx = some (e, v)) (K : m_wp X j (pc + 2) L (.int v :: st) h Q) : m_wp X j pc L st h Q := by
  refine wp_one (fun go r hr => ?_) K
  simp only [m_stp, hd, m_ins, hf, m_push, if_true]
  exact hr
theorem wp_iconst {n : Int} {v : Int32} (hd : decode (m_code j) pc = .ok (.iconst n, 1)) (hv : Int32.ofInt n = v) (K : m_wp X j (pc + 1) L (.int v :: st) h Q) : m_wp X j pc L st h Q := by
  subst hv
  refine wp_one (fun go r hr => ?_) K
  simp only [m_stp, hd, m_ins, m_push, if_true]
  exact hr
theorem wp_bipush {n : Int} {v : Int32} (hd : decode (m_code j) pc = .ok (.bipush n, 2)) (hv : (Int8.ofInt n).toInt32 = v) (K : m_wp X j (pc + 2) L (.int v :: st) h Q) : m_wp X j pc L st h Q := by
  subst hv
  refine wp_one (fun go r hr => ?_) K
  simp only [m_stp, hd, m_ins, m_push, if_true]
  exact hr
theorem wp_sipush {n : Int} {v : Int32} (hd : decode (m_code j) pc = .ok (.sipush n, 3)) (hv : (Int16.ofInt n).toInt32 = v) (K : m_wp X j (pc + 3) L (.int v :: st) h Q) : m_wp X j pc L st h Q := by
  subst hv
  refine wp_one (fun go r hr => ?_) K
  simp only [m_stp, hd, m_ins, m_push, if_true]
  exact hr
theorem wp_ldcw {idx e : Nat} {v : Int32} (hd : decode (m_code j) pc = .ok (.ldc_w idx, 3)) (hf : m_findC (m_own j) idx = some (e, v)) (K : m_wp X j (pc + 3) L (.int v :: st) h Q) : m_wp X j pc L st h Q := by
  refine wp_one (fun go r hr => ?_) K
  simp only [m_stp, hd, m_ins, hf, m_push, if_true]
  exact hr
theorem wp_iadd {x y : Int32} (hd : decode (m_code j) pc = .ok (.iadd, 1)) (K : m_wp X j (pc + 1) L (.int (x + y) :: st) h Q) : m_wp X j pc L (.int y :: .int x :: st) h Q :=
  wp_one (fun go r hr => by simp only [m_stp, hd, m_ins, m_bin]; exact hr) K
theorem wp_isub {x y : Int32} (hd : decode (m_code j) pc = .ok (.isub, 1)) (K : m_wp X j (pc + 1) L (.int (x - y) :: st) h Q) : m_wp X j pc L (.int y :: .int x :: st) h Q :=
  wp_one (fun go r hr => by simp only [m_stp, hd, m_ins, m_bin]; exact hr) K
theorem wp_imul {x y : Int32} (hd : decode (m_code j) pc = .ok (.imul, 1)) (K : m_wp X j (pc + 1) L (.int (x * y) :: st) h Q) : m_wp X j pc L (.int y :: .int x :: st) h Q :=
  wp_one (fun go r hr => by simp only [m_stp, hd, m_ins, m_bin]; exact hr) K
theorem wp_iand {x y : Int32} (hd : decode (m_code j) pc = .ok (.iand, 1)) (K : m_wp X j (pc + 1) L (.int (x &&& y) :: st) h Q) : m_wp X j pc L (.int y :: .int x :: st) h Q :=
  wp_one (fun go r hr => by simp only [m_stp, hd, m_ins, m_bin]; exact hr) K
theorem wp_ior {x y : Int32} (hd : decode (m_code j) pc = .ok (.ior, 1)) (K : m_wp X j (pc + 1) L (.int (x ||| y) :: st) h Q) : m_wp X j pc L (.int y :: .int x :: st) h Q :=
  wp_one (fun go r hr => by simp only [m_stp, hd, m_ins, m_bin]; exact hr) K
theorem wp_ixor {x y : Int32} (hd : decode (m_code j) pc = .ok (.ixor, 1)) (K : m_wp X j (pc + 1) L (.int (x ^^^ y) :: st) h Q) : m_wp X j pc L (.int y :: .int x :: st) h Q :=
  wp_one (fun go r hr => by simp only [m_stp, hd, m_ins, m_bin]; exact hr) K
theorem wp_ishl {x y : Int32} (hd : decode (m_code j) pc = .ok (.ishl, 1)) (K : m_wp X j (pc + 1) L (.int (x <<< (y &&& 31)) :: st) h Q) : m_wp X j pc L (.int y :: .int x :: st) h Q :=
  wp_one (fun go r hr => by simp only [m_stp, hd, m_ins, m_bin]; exact hr) K
theorem wp_ishr {x y : Int32} (hd : decode (m_code j) pc = .ok (.ishr, 1)) (K : m_wp X j (pc + 1) L (.int (x >>> (y &&& 31)) :: st) h Q) : m_wp X j pc L (.int y :: .int x :: st) h Q :=
  wp_one (fun go r hr => by simp only [m_stp, hd, m_ins, m_bin]; exact hr) K
theorem wp_iushr {x y : Int32} (hd : decode (m_code j) pc = .ok (.iushr, 1)) (K : m_wp X j (pc + 1) L (.int (x.toUInt32 >>> (y.toUInt32 &&& Int32.toUInt32 31)).toInt32 :: st) h Q) : m_wp X j pc L (.int y :: .int x :: st) h Q :=
  wp_one (fun go r hr => by simp only [m_stp, hd, m_ins, m_bin]; exact hr) K
theorem wp_idiv {x y : Int32} (hd : decode (m_code j) pc = .ok (.idiv, 1)) (hy : ¬ y = 0) (K : m_wp X j (pc + 1) L (.int (x / y) :: st) h Q) : m_wp X j pc L (.int y :: .int x :: st) h Q :=
  wp_one (fun go r hr => by simp only [m_stp, hd, m_ins, m_bin]; rw [if_pos ⟨trivial, by simpa using hy⟩]; exact hr) K
theorem wp_irem {x y : Int32} (hd : decode (m_code j) pc = .ok (.irem, 1)) (hy : ¬ y = 0) (K : m_wp X j (pc + 1) L (.int (x - x / y * y) :: st) h Q) : m_wp X j pc L (.int y :: .int x :: st) h Q :=
  wp_one (fun go r hr => by simp only [m_stp, hd, m_ins, m_bin]; rw [if_pos ⟨trivial, by simpa using hy⟩]; exact hr) K
theorem wp_i2c {x : Int32} (hd : decode (m_code j) pc = .ok (.i2c, 1)) (K : m_wp X j (pc + 1) L (.int (x.toUInt32 % 65536).toInt32 :: st) h Q) : m_wp X j pc L (.int x :: st) h Q :=
  wp_one (fun go r hr => by simp only [m_stp, hd, m_ins, if_true]; exact hr) K
theorem wp_iinc {i : Nat} {c : Int} {x v : Int32} {L2 : mL} (hd : decode (m_code j) pc = .ok (.iinc i c, 3)) (hl : L[i]? = some (some (.int x))) (hv : x + Int32.ofInt c = v) (hn : i < L.length) (hL : L.set i (some (.int v)) = L2) (K : m_wp X j (pc + 3) L2 st h Q) : m_wp X j pc L st h Q := by
  subst hv
  subst hL
  refine wp_one (fun go r hr => ?_) K
  simp only [m_stp, hd, m_ins, m_iinc, m_ldl_of hl, true_and, if_pos hn]
  exact hr
theorem wp_goto {off : Int} {tgt : Nat} (hd : decode (m_code j) pc = .ok (.goto off, 3)) (ht : (pc : Int) + off = (tgt : Int)) (K : m_wp X j tgt L st h Q) : m_wp X j pc L st h Q := by
  refine wp_one (fun go r hr => ?_) K
  simp only [m_stp, hd, m_ins, m_jump, if_true, ht]
  rw [if_pos (Int.natCast_nonneg _)]
  exact hr
theorem wp_cond {st0 : List Value} {t : Bool} {off : Int} {tgt : Nat} (hs : ∀ go : mG, m_stp X go j pc L st0 h = m_cond go j pc 3 t off L st h) (ht : (pc : Int) + off = (tgt : Int)) (kt : t = true → m_wp X j tgt L st h Q) (kf : t = false → m_wp X j (pc + 3) L st h Q) : m_wp X j pc L st0 h Q := by
  have hn : 0 ≤ (pc : Int) + off := by rw [ht]; exact Int.natCast_nonneg _
  cases t with
  | true =>
    refine wp_one (fun go r hr => ?_) (kt rfl)
    rw [hs, m_cond, if_pos ⟨rfl, hn⟩, if_pos rfl, ht]
    exact hr
  | false =>
    refine wp_one (fun go r hr => ?_) (kf rfl)
    rw [hs, m_cond, if_pos ⟨rfl, hn⟩, if_neg (by decide)]
    exact hr
theorem wp_if_eq {x : Int32} {off : Int} {tgt : Nat} (hd : decode (m_code j) pc = .ok (.ifCond .eq off, 3)) (ht : (pc : Int) + off = (tgt : Int)) (kt : x = 0 → m_wp X j tgt L st h Q) (kf : ¬ x = 0 → m_wp X j (pc + 3) L st h Q) : m_wp X j pc L (.int x :: st) h Q :=
  wp_cond (fun go => by simp only [m_stp, hd, m_ins, m_cb]) ht (fun z => kt (of_decide_eq_true z)) (fun z => kf (by have := of_decide_eq_false z; simpa using this))
theorem wp_icmp_eq {x y : Int32} {off : Int} {tgt : Nat} (hd : decode (m_code j) pc = .ok (.if_icmp .eq off, 3)) (ht : (pc : Int) + off = (tgt : Int)) (kt : x = y → m_wp X j tgt L st h Q) (kf : ¬ x = y → m_wp X j (pc + 3) L st h Q) : m_wp X j pc L (.int y :: .int x :: st) h Q :=
  wp_cond (fun go => by simp only [m_stp, hd, m_ins, m_cb]) ht (fun z => kt (of_decide_eq_true z)) (fun z => kf (by have := of_decide_eq_false z; simpa using this))
theorem wp_if_ne {x : Int32} {off : Int} {tgt : Nat} (hd : decode (m_code j) pc = .ok (.ifCond .ne off, 3)) (ht : (pc : Int) + off = (tgt : Int)) (kt : ¬ x = 0 → m_wp X j tgt L st h Q) (kf : x = 0 → m_wp X j (pc + 3) L st h Q) : m_wp X j pc L (.int x :: st) h Q :=
  wp_cond (fun go => by simp only [m_stp, hd, m_ins, m_cb]) ht (fun z => kt (of_decide_eq_true z)) (fun z => kf (by have := of_decide_eq_false z; simpa using this))
theorem wp_icmp_ne {x y : Int32} {off : Int} {tgt : Nat} (hd : decode (m_code j) pc = .ok (.if_icmp .ne off, 3)) (ht : (pc : Int) + off = (tgt : Int)) (kt : ¬ x = y → m_wp X j tgt L st h Q) (kf : x = y → m_wp X j (pc + 3) L st h Q) : m_wp X j pc L (.int y :: .int x :: st) h Q :=
  wp_cond (fun go => by simp only [m_stp, hd, m_ins, m_cb]) ht (fun z => kt (of_decide_eq_true z)) (fun z => kf (by have := of_decide_eq_false z; simpa using this))
theorem wp_if_lt {x : Int32} {off : Int} {tgt : Nat} (hd : decode (m_code j) pc = .ok (.ifCond .lt off, 3)) (ht : (pc : Int) + off = (tgt : Int)) (kt : x < 0 → m_wp X j tgt L st h Q) (kf : ¬ x < 0 → m_wp X j (pc + 3) L st h Q) : m_wp X j pc L (.int x :: st) h Q :=
  wp_cond (fun go => by simp only [m_stp, hd, m_ins, m_cb]) ht (fun z => kt (of_decide_eq_true z)) (fun z => kf (by have := of_decide_eq_false z; simpa using this))
theorem wp_icmp_lt {x y : Int32} {off : Int} {tgt : Nat} (hd : decode (m_code j) pc = .ok (.if_icmp .lt off, 3)) (ht : (pc : Int) + off = (tgt : Int)) (kt : x < y → m_wp X j tgt L st h Q) (kf : ¬ x < y → m_wp X j (pc + 3) L st h Q) : m_wp X j pc L (.int y :: .int x :: st) h Q :=
  wp_cond (fun go => by simp only [m_stp, hd, m_ins, m_cb]) ht (fun z => kt (of_decide_eq_true z)) (fun z => kf (by have := of_decide_eq_false z; simpa using this))
theorem wp_if_ge {x : Int32} {off : Int} {tgt : Nat} (hd : decode (m_code j) pc = .ok (.ifCond .ge off, 3)) (ht : (pc : Int) + off = (tgt : Int)) (kt : 0 ≤ x → m_wp X j tgt L st h Q) (kf : ¬ 0 ≤ x → m_wp X j (pc + 3) L st h Q) : m_wp X j pc L (.int x :: st) h Q :=
  wp_cond (fun go => by simp only [m_stp, hd, m_ins, m_cb]) ht (fun z => kt (of_decide_eq_true z)) (fun z => kf (by have := of_decide_eq_false z; simpa using this))
theorem wp_icmp_ge {x y : Int32} {off : Int} {tgt : Nat} (hd : decode (m_code j) pc = .ok (.if_icmp .ge off, 3)) (ht : (pc : Int) + off = (tgt : Int)) (kt : y ≤ x → m_wp X j tgt L st h Q) (kf : ¬ y ≤ x → m_wp X j (pc + 3) L st h Q) : m_wp X j pc L (.int y :: .int x :: st) h Q :=
  wp_cond (fun go => by simp only [m_stp, hd, m_ins, m_cb]) ht (fun z => kt (of_decide_eq_true z)) (fun z => kf (by have := of_decide_eq_false z; simpa using this))
theorem wp_if_gt {x : Int32} {off : Int} {tgt : Nat} (hd : decode (m_code j) pc = .ok (.ifCond .gt off, 3)) (ht : (pc : Int) + off = (tgt : Int)) (kt : 0 < x → m_wp X j tgt L st h Q) (kf : ¬ 0 < x → m_wp X j (pc + 3) L st h Q) : m_wp X j pc L (.int x :: st) h Q :=
  wp_cond (fun go => by simp only [m_stp, hd, m_ins, m_cb]) ht (fun z => kt (of_decide_eq_true z)) (fun z => kf (by have := of_decide_eq_false z; simpa using this))
theorem wp_icmp_gt {x y : Int32} {off : Int} {tgt : Nat} (hd : decode (m_code j) pc = .ok (.if_icmp .gt off, 3)) (ht : (pc : Int) + off = (tgt : Int)) (kt : y < x → m_wp X j tgt L st h Q) (kf : ¬ y < x → m_wp X j (pc + 3) L st h Q) : m_wp X j pc L (.int y :: .int x :: st) h Q :=
  wp_cond (fun go => by simp only [m_stp, hd, m_ins, m_cb]) ht (fun z => kt (of_decide_eq_true z)) (fun z => kf (by have := of_decide_eq_false z; simpa using this))
theorem wp_if_le {x : Int32} {off : Int} {tgt : Nat} (hd : decode (m_code j) pc = .ok (.ifCond .le off, 3)) (ht : (pc : Int) + off = (tgt : Int)) (kt : x ≤ 0 → m_wp X j tgt L st h Q) (kf : ¬ x ≤ 0 → m_wp X j (pc + 3) L st h Q) : m_wp X j pc L (.int x :: st) h Q :=
  wp_cond (fun go => by simp only [m_stp, hd, m_ins, m_cb]) ht (fun z => kt (of_decide_eq_true z)) (fun z => kf (by have := of_decide_eq_false z; simpa using this))
theorem wp_icmp_le {x y : Int32} {off : Int} {tgt : Nat} (hd : decode (m_code j) pc = .ok (.if_icmp .le off, 3)) (ht : (pc : Int) + off = (tgt : Int)) (kt : x ≤ y → m_wp X j tgt L st h Q) (kf : ¬ x ≤ y → m_wp X j (pc + 3) L st h Q) : m_wp X j pc L (.int y :: .int x :: st) h Q :=
  wp_cond (fun go => by simp only [m_stp, hd, m_ins, m_cb]) ht (fun z => kt (of_decide_eq_true z)) (fun z => kf (by have := of_decide_eq_false z; simpa using this))
end WPR
