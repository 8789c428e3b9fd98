/-! Words for what follows: truth as an int, sums with a name, contracts of methods that only tell. -/
def m_b (p : Prop) [Decidable p] : Int32 := if p then 1 else 0
theorem m_b_t {p : Prop} [Decidable p] (h : p) : m_b p = 1 := if_pos h
theorem m_b_f {p : Prop} [Decidable p] (h : ¬ p) : m_b p = 0 := if_neg h
theorem m_b_01 (p : Prop) [Decidable p] : m_b p = 0 ∨ m_b p = 1 := by
  by_cases h : p
  · exact Or.inr (m_b_t h)
  · exact Or.inl (m_b_f h)
theorem m_b_eq {p : Prop} [Decidable p] (h : m_b p = 0) : ¬ p := fun q => by rw [m_b_t q] at h; exact absurd h (by decide)
theorem m_b_ne {p : Prop} [Decidable p] (h : ¬ m_b p = 0) : p := Classical.byContradiction fun q => h (m_b_f q)
theorem nI_mul (a b : Nat) : nI a * nI b = nI (a * b) := (Int32.ofNat_mul a b).symm
theorem nI_sub {a b : Nat} (h : b ≤ a) (ha : a < 2 ^ 31) : nI a - nI b = nI (a - b) := by
  apply Int32.toInt_inj.mp
  rw [Int32.toInt_sub, nI_toInt ha, nI_toInt (by omega), nI_toInt (by omega)]
  rw [Int.bmod_eq_of_le (by omega) (by omega)]
  omega
theorem nI_nat {k : Nat} (h : k < 2 ^ 31) : (nI k).toNatClampNeg = k := nI_clamp h
section WPT
variable {X : mX} {j pc : Nat} {L : mL} {st rest : List Value} {h : mH} {Q : Option Value → mH → Prop}
theorem wp_iaddv {x y v : Int32} (hd : decode (m_code j) pc = .ok (.iadd, 1)) (hv : x + y = v) (K : m_wp X j (pc + 1) L (.int v :: st) h Q) : m_wp X j pc L (.int y :: .int x :: st) h Q := wp_iadd hd (by rw [hv]; exact K)
theorem wp_isubv {x y v : Int32} (hd : decode (m_code j) pc = .ok (.isub, 1)) (hv : x - y = v) (K : m_wp X j (pc + 1) L (.int v :: st) h Q) : m_wp X j pc L (.int y :: .int x :: st) h Q := wp_isub hd (by rw [hv]; exact K)
theorem wp_imulv {x y v : Int32} (hd : decode (m_code j) pc = .ok (.imul, 1)) (hv : x * y = v) (K : m_wp X j (pc + 1) L (.int v :: st) h Q) : m_wp X j pc L (.int y :: .int x :: st) h Q := wp_imul hd (by rw [hv]; exact K)
theorem wp_iandv {x y v : Int32} (hd : decode (m_code j) pc = .ok (.iand, 1)) (hv : x &&& y = v) (K : m_wp X j (pc + 1) L (.int v :: st) h Q) : m_wp X j pc L (.int y :: .int x :: st) h Q := wp_iand hd (by rw [hv]; exact K)
theorem wp_iorv {x y v : Int32} (hd : decode (m_code j) pc = .ok (.ior, 1)) (hv : x ||| y = v) (K : m_wp X j (pc + 1) L (.int v :: st) h Q) : m_wp X j pc L (.int y :: .int x :: st) h Q := wp_ior hd (by rw [hv]; exact K)
theorem wp_ixorv {x y v : Int32} (hd : decode (m_code j) pc = .ok (.ixor, 1)) (hv : x ^^^ y = v) (K : m_wp X j (pc + 1) L (.int v :: st) h Q) : m_wp X j pc L (.int y :: .int x :: st) h Q := wp_ixor hd (by rw [hv]; exact K)
theorem wp_ishlv {x y v : Int32} (hd : decode (m_code j) pc = .ok (.ishl, 1)) (hv : x <<< (y &&& 31) = v) (K : m_wp X j (pc + 1) L (.int v :: st) h Q) : m_wp X j pc L (.int y :: .int x :: st) h Q := wp_ishl hd (by rw [hv]; exact K)
theorem wp_ishrv {x y v : Int32} (hd : decode (m_code j) pc = .ok (.ishr, 1)) (hv : x >>> (y &&& 31) = v) (K : m_wp X j (pc + 1) L (.int v :: st) h Q) : m_wp X j pc L (.int y :: .int x :: st) h Q := wp_ishr hd (by rw [hv]; exact K)
theorem wp_idivv {x y v : Int32} (hd : decode (m_code j) pc = .ok (.idiv, 1)) (hy : ¬ y = 0) (hv : x / y = v) (K : m_wp X j (pc + 1) L (.int v :: st) h Q) : m_wp X j pc L (.int y :: .int x :: st) h Q := wp_idiv hd hy (by rw [hv]; exact K)
theorem wp_iremv {x y v : Int32} (hd : decode (m_code j) pc = .ok (.irem, 1)) (hy : ¬ y = 0) (hv : x - x / y * y = v) (K : m_wp X j (pc + 1) L (.int v :: st) h Q) : m_wp X j pc L (.int y :: .int x :: st) h Q := wp_irem hd hy (by rw [hv]; exact K)
theorem wp_ifb_eq {p : Prop} [Decidable p] {off : Int} {tgt : Nat} (hd : decode (m_code j) pc = .ok (.ifCond .eq off, 3)) (ht : (pc : Int) + off = (tgt : Int)) (kt : ¬ p → m_wp X j tgt L st h Q) (kf : p → m_wp X j (pc + 3) L st h Q) : m_wp X j pc L (.int (m_b p) :: st) h Q :=
  wp_if_eq hd ht (fun z => kt (m_b_eq z)) (fun z => kf (m_b_ne z))
theorem wp_ifb_ne {p : Prop} [Decidable p] {off : Int} {tgt : Nat} (hd : decode (m_code j) pc = .ok (.ifCond .ne off, 3)) (ht : (pc : Int) + off = (tgt : Int)) (kt : p → m_wp X j tgt L st h Q) (kf : ¬ p → m_wp X j (pc + 3) L st h Q) : m_wp X j pc L (.int (m_b p) :: st) h Q :=
  wp_if_ne hd ht (fun z => kt (m_b_ne z)) (fun z => kf (m_b_eq z))
end WPT
/-- a method that tells r and leaves the heap -/
abbrev Tells (X : mX) (j : Nat) (as : List Value) (h : mH) (r : Int32) : Prop := m_wp X j 0 (m_entry j as) [] h (fun v h1 => v = some (.int r) ∧ h1 = h)
section WPU
variable {X : mX} {j pc : Nat} {L : mL} {st rest : List Value} {h : mH} {Q : Option Value → mH → Prop}
theorem wp_invvT {idx e j2 a ci n : Nat} {fs : List Value} {asr as : List Value} {st0 : List Value} {r : Int32} (hd : decode (m_code j) pc = .ok (.invokevirtual idx, 3)) (hf : m_findM (m_own j) idx = some (e, 2, j2)) (hn : m_np j2 = n) (ht : st0.take n = asr) (hdr : st0.drop n = .ref a :: rest) (has : asr.reverse = as)
    (hg : m_get h a = some (.inr (ci, fs))) (hc : (m_clsQ ci).1 = (m_y j2).cls ∧ ci < m_cls.length) (h1 : rest.length ≤ 8) (h2 : rest.all m_c1 = true) (h3 : as.all m_c1 = true) (h4 : as.length + 1 ≤ m_nl j2) (h5 : m_fr j2 + 1 + m_nl j2 / 10 ≤ m_fr j)
    (hC : Tells X j2 (.ref a :: as) h r) (K : m_wp X j (pc + 3) L (.int r :: rest) h Q) : m_wp X j pc L st0 h Q :=
  wp_invv hd hf hn ht hdr has hg hc h1 h2 h3 h4 h5 hC (fun v h1 hq => by rw [hq.1, hq.2]; exact K)
theorem wp_invsT {idx e j2 n : Nat} {asr as : List Value} {st0 : List Value} {r : Int32} (hd : decode (m_code j) pc = .ok (.invokestatic idx, 3)) (hf : m_findM (m_own j) idx = some (e, 3, j2)) (hn : m_np j2 = n) (ht : st0.take n = asr) (hdr : st0.drop n = rest) (has : asr.reverse = as) (hl : n ≤ st0.length)
    (h1 : rest.length ≤ 8) (h2 : rest.all m_c1 = true) (h3 : as.all m_c1 = true) (h4 : as.length ≤ m_nl j2) (h5 : m_fr j2 + 1 + m_nl j2 / 10 ≤ m_fr j)
    (hC : Tells X j2 as h r) (K : m_wp X j (pc + 3) L (.int r :: rest) h Q) : m_wp X j pc L st0 h Q :=
  wp_invs hd hf hn ht hdr has hl h1 h2 h3 h4 h5 hC (fun v h1 hq => by rw [hq.1, hq.2]; exact K)
end WPU
/-- a region of cells: cell o at B + o, with the contents M o -/
def Reg (h : mH) (B n : Nat) (c : Nat → (Nat → Int32) → mC) (M : Nat → Nat → Int32) : Prop := ∀ o, o < n → m_get h (B + o) = some (c o (M o))
def updM (M : Nat → Nat → Int32) (o i : Nat) (v : Int32) : Nat → Nat → Int32 := fun o' => if o' = o then upd (M o) i v else M o'
def stM (M : Nat → Nat → Int32) (o : Nat) (f : Nat → Int32) : Nat → Nat → Int32 := fun o' => if o' = o then f else M o'
theorem m_get_same {h : mH} {a : Nat} {c c0 : mC} (h0 : m_get h a = some c0) : m_get (m_set h a c) a = some c := by
  unfold m_get m_set at *
  have hl := (List.getElem?_eq_some_iff.mp h0).1
  simp [hl]
theorem m_get_ne {h : mH} {a b : Nat} {c : mC} (hab : a ≠ b) : m_get (m_set h a c) b = m_get h b := by
  unfold m_get m_set
  simp [hab]
theorem Reg.setM {h : mH} {B n o : Nat} {c : Nat → (Nat → Int32) → mC} {M : Nat → Nat → Int32} {f : Nat → Int32} {cl : mC} (hR : Reg h B n c M) (ho : o < n) (hc : c o f = cl) : Reg (m_set h (B + o) cl) B n c (stM M o f) := by
  intro o' ho'
  by_cases e : o' = o
  · subst e
    rw [m_get_same (hR o' ho'), ← hc]
    simp [stM]
  · rw [m_get_ne (by omega), hR o' ho']
    simp [stM, e]
theorem Reg.out {h : mH} {B n a : Nat} {c : Nat → (Nat → Int32) → mC} {M : Nat → Nat → Int32} {cl : mC} (hR : Reg h B n c M) (ha : a < B ∨ B + n ≤ a) : Reg (m_set h a cl) B n c M := by
  intro o ho
  rw [m_get_ne (by omega)]
  exact hR o ho
/-- the same heap but for the cells from B to B + n -/
def Frm (h h1 : mH) (B n : Nat) : Prop := h1.1.length = h.1.length ∧ h1.2 = h.2 ∧ ∀ a, (a < B ∨ B + n ≤ a) → m_get h1 a = m_get h a
theorem Frm.rf {h : mH} {B n : Nat} : Frm h h B n := ⟨rfl, rfl, fun _ _ => rfl⟩
theorem Frm.trans {h h1 h2 : mH} {B n : Nat} (a : Frm h h1 B n) (b : Frm h1 h2 B n) : Frm h h2 B n := ⟨b.1.trans a.1, b.2.1.trans a.2.1, fun q hq => (b.2.2 q hq).trans (a.2.2 q hq)⟩
theorem Frm.set {h : mH} {B n o : Nat} {cl : mC} (ho : o < n) : Frm h (m_set h (B + o) cl) B n := by
  refine ⟨by simp [m_set], rfl, fun a ha => m_get_ne (by omega)⟩
theorem Reg.frm {h h1 : mH} {B n B2 n2 : Nat} {c : Nat → (Nat → Int32) → mC} {M : Nat → Nat → Int32} (hR : Reg h B n c M) (hF : Frm h h1 B2 n2) (hd : B + n ≤ B2 ∨ B2 + n2 ≤ B) : Reg h1 B n c M := by
  intro o ho
  rw [hF.2.2 (B + o) (by omega)]
  exact hR o ho
theorem updM_eq (M : Nat → Nat → Int32) (o i : Nat) (v : Int32) : updM M o i v = stM M o (upd (M o) i v) := rfl
