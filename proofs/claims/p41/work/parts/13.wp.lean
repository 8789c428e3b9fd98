section WPS
variable {X : mX} {j pc : Nat} {L : mL} {st rest : List Value} {h : mH} {Q : Option Value → mH → Prop}
theorem wp_tswOut {x : Int32} {d lo hi : Int} {offs : Array Int} {len tgt : Nat} (hd : decode (m_code j) pc = .ok (.tableswitch d lo hi offs, len)) (hx : x.toInt < lo ∨ hi < x.toInt) (ht : (pc : Int) + d = (tgt : Int)) (K : m_wp X j tgt L st h Q) : m_wp X j pc L (.int x :: st) h Q := by
  refine wp_one (fun go r hr => ?_) K
  simp only [m_stp, hd, m_ins, m_tsw, m_jump, if_pos hx, ht]
  rw [if_pos (Int.natCast_nonneg _)]
  exact hr
theorem wp_tswIn {x : Int32} {d lo hi off : Int} {offs : Array Int} {len tgt : Nat} (hd : decode (m_code j) pc = .ok (.tableswitch d lo hi offs, len)) (h1 : ¬ x.toInt < lo) (h2 : ¬ hi < x.toInt) (ho : offs[(x.toInt - lo).toNat]? = some off) (ht : (pc : Int) + off = (tgt : Int)) (K : m_wp X j tgt L st h Q) : m_wp X j pc L (.int x :: st) h Q := by
  refine wp_one (fun go r hr => ?_) K
  simp only [m_stp, hd, m_ins, m_tsw, m_jump, if_neg (not_or.mpr ⟨h1, h2⟩), ho, ht]
  rw [if_pos (Int.natCast_nonneg _)]
  exact hr
theorem wp_lsw {x : Int32} {d off : Int} {ps : Array (Int × Int)} {len tgt : Nat} (hd : decode (m_code j) pc = .ok (.lookupswitch d ps, len)) (hp : (ps.toList.zip (ps.toList.drop 1)).all (fun (a, next) => a.1 < next.1) = true) (ho : Op.lookupswitch.offset ps.toList d x.toInt = off) (ht : (pc : Int) + off = (tgt : Int)) (K : m_wp X j tgt L st h Q) : m_wp X j pc L (.int x :: st) h Q := by
  refine wp_one (fun go r hr => ?_) K
  simp only [m_stp, hd, m_ins, m_lsw, m_jump, ho, ht]
  rw [if_pos hp, if_pos (Int.natCast_nonneg _)]
  exact hr
theorem wp_dup {v : Value} (hd : decode (m_code j) pc = .ok (.dup, 1)) (hc : m_c1 v = true) (K : m_wp X j (pc + 1) L (v :: v :: st) h Q) : m_wp X j pc L (v :: st) h Q := by
  refine wp_one (fun go r hr => ?_) K
  simp only [m_stp, hd, m_ins]
  rw [if_pos ⟨trivial, hc⟩]
  exact hr
theorem wp_dup2 {v w : Value} (hd : decode (m_code j) pc = .ok (.dup2, 1)) (hc : m_c1 v = true) (hc2 : m_c1 w = true) (K : m_wp X j (pc + 1) L (v :: w :: v :: w :: st) h Q) : m_wp X j pc L (v :: w :: st) h Q := by
  refine wp_one (fun go r hr => ?_) K
  simp only [m_stp, hd, m_ins]
  rw [if_pos ⟨trivial, hc, hc2⟩]
  exact hr
theorem wp_dup_x2 {v w u : Value} (hd : decode (m_code j) pc = .ok (.dup_x2, 1)) (hc : m_c1 v = true) (hc2 : m_c1 w = true) (hc3 : m_c1 u = true) (K : m_wp X j (pc + 1) L (v :: w :: u :: v :: st) h Q) : m_wp X j pc L (v :: w :: u :: st) h Q := by
  refine wp_one (fun go r hr => ?_) K
  simp only [m_stp, hd, m_ins, hc, hc2, hc3, and_self, if_true]
  exact hr
theorem wp_getf {idx a e ci k : Nat} {nest : Bool} {fs : List Value} {v : Value} (hd : decode (m_code j) pc = .ok (.getfield idx, 3)) (hf : m_findF (m_own j) idx = some (e, ci, k, nest)) (hg : m_get h a = some (.inr (ci, fs))) (hv : fs[k]? = some v) (K : m_wp X j (pc + 3) L (v :: st) h Q) : m_wp X j pc L (.ref a :: st) h Q := by
  refine wp_one (fun go r hr => ?_) K
  simp only [m_stp, hd, m_ins, m_getf, hf, hg, hv, and_self, if_true]
  exact hr
theorem wp_putf {idx a e ci k : Nat} {nest : Bool} {fs : List Value} {v : Value} (hd : decode (m_code j) pc = .ok (.putfield idx, 3)) (hf : m_findF (m_own j) idx = some (e, ci, k, nest)) (hg : m_get h a = some (.inr (ci, fs))) (hk : k < fs.length) (hfit : m_fit (((m_tys[ci]?.getD [])[k]?).getD .int) v = true)
    (hfin : ((m_clsQ ci).2.1 k).2.2.2 = false ∨ (nest = false ∧ (m_y j).name = "<init>" ∧ (m_clsQ ci).1 = m_ownS (m_own j))) (K : m_wp X j (pc + 3) L st (m_set h a (.inr (ci, fs.set k v))) Q) : m_wp X j pc L (v :: .ref a :: st) h Q := by
  refine wp_one (fun go r hr => ?_) K
  simp only [m_stp, hd, m_ins, m_putf, hf, hg]
  rw [if_pos ⟨trivial, trivial, hk, hfit, hfin⟩]
  exact hr
theorem wp_iald {a n : Nat} {f : Nat → Int32} {i v : Int32} (hd : decode (m_code j) pc = .ok (.iaload, 1)) (hg : m_get h a = some (.inl (false, n, f))) (hi : ¬ (i < 0 ∨ n ≤ i.toNatClampNeg)) (hv : f i.toNatClampNeg = v) (K : m_wp X j (pc + 1) L (.int v :: st) h Q) : m_wp X j pc L (.int i :: .ref a :: st) h Q := by
  subst hv
  refine wp_one (fun go r hr => ?_) K
  simp only [m_stp, hd, m_ins, m_ald, hg]
  rw [if_pos ⟨trivial, trivial, hi⟩]
  exact hr
theorem wp_cald {a n : Nat} {f : Nat → Int32} {i v : Int32} (hd : decode (m_code j) pc = .ok (.caload, 1)) (hg : m_get h a = some (.inl (true, n, f))) (hi : ¬ (i < 0 ∨ n ≤ i.toNatClampNeg)) (hv : f i.toNatClampNeg = v) (K : m_wp X j (pc + 1) L (.int v :: st) h Q) : m_wp X j pc L (.int i :: .ref a :: st) h Q := by
  subst hv
  refine wp_one (fun go r hr => ?_) K
  simp only [m_stp, hd, m_ins, m_ald, hg]
  rw [if_pos ⟨trivial, trivial, hi⟩]
  exact hr
theorem wp_sald {q : UInt32} {i v : Int32} (hd : decode (m_code j) pc = .ok (.iaload, 1)) (hi : ¬ (i < 0 ∨ X.1 ≤ i.toNatClampNeg)) (hv : X.2 i.toNatClampNeg = v) (K : m_wp X j (pc + 1) L (.int v :: st) h Q) : m_wp X j pc L (.int i :: .float q :: st) h Q := by
  subst hv
  refine wp_one (fun go r hr => ?_) K
  simp only [m_stp, hd, m_ins, m_ald]
  rw [if_pos ⟨trivial, trivial, hi⟩]
  exact hr
theorem wp_iast {a n : Nat} {f : Nat → Int32} {i x : Int32} (hd : decode (m_code j) pc = .ok (.iastore, 1)) (hg : m_get h a = some (.inl (false, n, f))) (hi : ¬ (i < 0 ∨ n ≤ i.toNatClampNeg)) (K : m_wp X j (pc + 1) L st (m_set h a (.inl (false, n, upd f i.toNatClampNeg x))) Q) : m_wp X j pc L (.int x :: .int i :: .ref a :: st) h Q := by
  refine wp_one (fun go r hr => ?_) K
  simp only [m_stp, hd, m_ins, m_ast, hg]
  rw [if_pos ⟨trivial, trivial, hi⟩]
  exact hr
theorem wp_cast {a n : Nat} {f : Nat → Int32} {i x : Int32} (hd : decode (m_code j) pc = .ok (.castore, 1)) (hg : m_get h a = some (.inl (true, n, f))) (hi : ¬ (i < 0 ∨ n ≤ i.toNatClampNeg)) (K : m_wp X j (pc + 1) L st (m_set h a (.inl (true, n, upd f i.toNatClampNeg (vp_nar .char x)))) Q) : m_wp X j pc L (.int x :: .int i :: .ref a :: st) h Q := by
  refine wp_one (fun go r hr => ?_) K
  simp only [m_stp, hd, m_ins, m_ast, hg]
  rw [if_pos ⟨trivial, trivial, hi⟩]
  exact hr
theorem wp_alen {a n : Nat} {b : Bool} {f : Nat → Int32} {v : Int32} (hd : decode (m_code j) pc = .ok (.arraylength, 1)) (hg : m_get h a = some (.inl (b, n, f))) (hv : Int32.ofNat n = v) (K : m_wp X j (pc + 1) L (.int v :: st) h Q) : m_wp X j pc L (.ref a :: st) h Q := by
  subst hv
  refine wp_one (fun go r hr => ?_) K
  simp only [m_stp, hd, m_ins, m_alen, hg, if_true]
  exact hr
theorem wp_slen {q : UInt32} {v : Int32} (hd : decode (m_code j) pc = .ok (.arraylength, 1)) (hv : Int32.ofNat X.1 = v) (K : m_wp X j (pc + 1) L (.int v :: st) h Q) : m_wp X j pc L (.float q :: st) h Q := by
  subst hv
  refine wp_one (fun go r hr => ?_) K
  simp only [m_stp, hd, m_ins, m_alen, if_true]
  exact hr
theorem wp_newi {n : Int32} {N : Nat} (hd : decode (m_code j) pc = .ok (.newarray .int, 2)) (hn : ¬ n < 0) (hN : n.toNatClampNeg = N) (hb : N ≤ 100000) (K : m_wp X j (pc + 2) L (.ref h.1.length :: st) (m_new h (.inl (false, N, fun _ => 0)) N) Q) : m_wp X j pc L (.int n :: st) h Q := by
  subst hN
  refine wp_one (fun go r hr => ?_) K
  simp only [m_stp, hd, m_ins, m_newa]
  rw [if_pos ⟨trivial, hn, hb⟩]
  exact hr
theorem wp_newc {n : Int32} {N : Nat} (hd : decode (m_code j) pc = .ok (.newarray .char, 2)) (hn : ¬ n < 0) (hN : n.toNatClampNeg = N) (hb : N ≤ 100000) (K : m_wp X j (pc + 2) L (.ref h.1.length :: st) (m_new h (.inl (true, N, fun _ => 0)) N) Q) : m_wp X j pc L (.int n :: st) h Q := by
  subst hN
  refine wp_one (fun go r hr => ?_) K
  simp only [m_stp, hd, m_ins, m_newa]
  rw [if_pos ⟨trivial, hn, hb⟩]
  exact hr
theorem wp_newo {idx e ci : Nat} (hd : decode (m_code j) pc = .ok (.new idx, 3)) (hf : m_findK (m_own j) idx = some (e, ci)) (K : m_wp X j (pc + 3) L (.ref h.1.length :: st) (m_new h (.inr (ci, m_df ci)) (m_clsQ ci).2.2) Q) : m_wp X j pc L st h Q := by
  refine wp_one (fun go r hr => ?_) K
  simp only [m_stp, hd, m_ins, m_newo, hf, if_true]
  exact hr
/-- a call: the callee's answer is what its contract says; go on from there -/
theorem wp_call {j2 : Nat} {as : List Value} {st0 : List Value} {Q2 : Option Value → mH → Prop} (hs : ∀ (go : mG), m_stp X go j pc L st0 h = m_call go j pc 3 j2 as rest L h) (h1 : rest.length ≤ 8) (h2 : rest.all m_c1 = true) (h3 : as.all m_c1 = true) (h4 : as.length ≤ m_nl j2) (h5 : m_fr j2 + 1 + m_nl j2 / 10 ≤ m_fr j)
    (hC : m_wp X j2 0 (m_entry j2 as) [] h Q2) (K : ∀ v h1, Q2 v h1 → m_wp X j (pc + 3) L (v.toList ++ rest) h1 Q) : m_wp X j pc L st0 h Q := by
  obtain ⟨k, v, hh, hk, hq⟩ := hC
  obtain ⟨k2, v2, h6, hk2, hq2⟩ := K v hh hq
  refine ⟨max k k2 + 1, v2, h6, ?_, hq2⟩
  show m_stp X (m_run X (max k k2)) j pc L st0 h = _
  rw [hs, m_call, if_pos ⟨rfl, h1, h2, h3, h4, h5⟩, m_le_run (Nat.le_max_left k k2) _ _ _ _ _ _ hk]
  exact m_le_run (Nat.le_max_right k k2) _ _ _ _ _ _ hk2
theorem wp_invv {idx e j2 a ci n : Nat} {fs : List Value} {asr as : List Value} {st0 : List Value} {Q2 : Option Value → mH → Prop} (hd : decode (m_code j) pc = .ok (.invokevirtual idx, 3)) (hf : m_findM (m_own j) idx = some (e, 2, j2)) (hn : m_np j2 = n) (ht : st0.take n = asr) (hdr : st0.drop n = .ref a :: rest) (has : asr.reverse = as)
    (hg : m_get h a = some (.inr (ci, fs))) (hc : (m_clsQ ci).1 = (m_y j2).cls ∧ ci < m_cls.length) (h1 : rest.length ≤ 8) (h2 : rest.all m_c1 = true) (h3 : as.all m_c1 = true) (h4 : as.length + 1 ≤ m_nl j2) (h5 : m_fr j2 + 1 + m_nl j2 / 10 ≤ m_fr j)
    (hC : m_wp X j2 0 (m_entry j2 (.ref a :: as)) [] h Q2) (K : ∀ v h1, Q2 v h1 → m_wp X j (pc + 3) L (v.toList ++ rest) h1 Q) : m_wp X j pc L st0 h Q := by
  refine wp_call (as := .ref a :: as) (fun go => ?_) h1 h2 (by rw [List.all_cons, h3]; rfl) (by rw [List.length_cons]; exact h4) h5 hC K
  simp only [m_stp, hd, m_ins, m_invv, hf, hn, hdr, hg, if_true]
  rw [if_pos hc, ht, has]
theorem wp_invs {idx e j2 n : Nat} {asr as : List Value} {st0 : List Value} {Q2 : Option Value → mH → Prop} (hd : decode (m_code j) pc = .ok (.invokestatic idx, 3)) (hf : m_findM (m_own j) idx = some (e, 3, j2)) (hn : m_np j2 = n) (ht : st0.take n = asr) (hdr : st0.drop n = rest) (has : asr.reverse = as) (hl : n ≤ st0.length)
    (h1 : rest.length ≤ 8) (h2 : rest.all m_c1 = true) (h3 : as.all m_c1 = true) (h4 : as.length ≤ m_nl j2) (h5 : m_fr j2 + 1 + m_nl j2 / 10 ≤ m_fr j)
    (hC : m_wp X j2 0 (m_entry j2 as) [] h Q2) (K : ∀ v h1, Q2 v h1 → m_wp X j (pc + 3) L (v.toList ++ rest) h1 Q) : m_wp X j pc L st0 h Q := by
  refine wp_call (as := as) (fun go => ?_) h1 h2 h3 h4 h5 hC K
  simp only [m_stp, hd, m_ins, m_invs, hf, hn, hdr, if_true]
  rw [if_pos hl, ht, has]
theorem wp_invi {idx e j2 a n kind : Nat} {asr as : List Value} {st0 : List Value} {Q2 : Option Value → mH → Prop} (hd : decode (m_code j) pc = .ok (.invokespecial idx, 3)) (hf : m_findM (m_own j) idx = some (e, kind, j2)) (hk : kind ≤ 1) (hn : m_np j2 = n) (ht : st0.take n = asr) (hdr : st0.drop n = .ref a :: rest) (has : asr.reverse = as)
    (h1 : rest.length ≤ 8) (h2 : rest.all m_c1 = true) (h3 : as.all m_c1 = true) (h4 : as.length + 1 ≤ m_nl j2) (h5 : m_fr j2 + 1 + m_nl j2 / 10 ≤ m_fr j)
    (hC : m_wp X j2 0 (m_entry j2 (.ref a :: as)) [] h Q2) (K : ∀ v h1, Q2 v h1 → m_wp X j (pc + 3) L (v.toList ++ rest) h1 Q) : m_wp X j pc L st0 h Q := by
  refine wp_call (as := .ref a :: as) (fun go => ?_) h1 h2 (by rw [List.all_cons, h3]; rfl) (by rw [List.length_cons]; exact h4) h5 hC K
  simp only [m_stp, hd, m_ins, m_invi, hf]
  rw [if_neg (by omega), if_pos hk, hn, hdr]
  simp only []
  rw [ht, has]
theorem wp_obj {idx e j2 a : Nat} (hd : decode (m_code j) pc = .ok (.invokespecial idx, 3)) (hf : m_findM (m_own j) idx = some (e, 4, j2)) (h1 : st.length ≤ 8) (h2 : st.all m_c1 = true) (h3 : 1 ≤ m_fr j) (K : m_wp X j (pc + 3) L st h Q) : m_wp X j pc L (.ref a :: st) h Q := by
  refine wp_one (fun go r hr => ?_) K
  simp only [m_stp, hd, m_ins, m_invi, hf, if_true]
  rw [if_pos ⟨trivial, h1, h2, h3⟩]
  exact hr
theorem wp_max {idx e j2 : Nat} {x y v : Int32} (hd : decode (m_code j) pc = .ok (.invokestatic idx, 3)) (hf : m_findM (m_own j) idx = some (e, 6, j2)) (h1 : st.length ≤ 8) (h2 : st.all m_c1 = true) (h3 : 1 ≤ m_fr j) (hv : (if x < y then y else x) = v) (K : m_wp X j (pc + 3) L (.int v :: st) h Q) : m_wp X j pc L (.int y :: .int x :: st) h Q := by
  subst hv
  refine wp_one (fun go r hr => ?_) K
  simp only [m_stp, hd, m_ins, m_invs, hf, if_true, true_or]
  rw [if_neg (by decide), if_neg (by decide), if_pos ⟨trivial, h1, h2, h3⟩]
  exact hr
theorem wp_min {idx e j2 : Nat} {x y v : Int32} (hd : decode (m_code j) pc = .ok (.invokestatic idx, 3)) (hf : m_findM (m_own j) idx = some (e, 7, j2)) (h1 : st.length ≤ 8) (h2 : st.all m_c1 = true) (h3 : 1 ≤ m_fr j) (hv : (if y < x then y else x) = v) (K : m_wp X j (pc + 3) L (.int v :: st) h Q) : m_wp X j pc L (.int y :: .int x :: st) h Q := by
  subst hv
  refine wp_one (fun go r hr => ?_) K
  simp only [m_stp, hd, m_ins, m_invs, hf, or_true, if_true]
  rw [if_neg (by decide), if_neg (by decide), if_pos ⟨trivial, h1, h2, h3⟩, if_neg (by decide)]
  exact hr
theorem wp_copy {idx e j2 a a0 n0 n1 : Nat} {f g : Nat → Int32} {sp dp n : Int32} {sn dn nn : Nat} (hd : decode (m_code j) pc = .ok (.invokestatic idx, 3)) (hf : m_findM (m_own j) idx = some (e, 5, j2)) (hg0 : m_get h a0 = some (.inl (false, n0, f))) (hg1 : m_get h a = some (.inl (false, n1, g)))
    (hsp : ¬ sp < 0) (hdp : ¬ dp < 0) (hn : ¬ n < 0) (es : sp.toNatClampNeg = sn) (ed : dp.toNatClampNeg = dn) (en : n.toNatClampNeg = nn) (hl0 : sn + nn ≤ n0) (hl1 : dn + nn ≤ n1) (h1 : st.length ≤ 8) (h2 : st.all m_c1 = true) (h3 : 1 ≤ m_fr j)
    (K : m_wp X j (pc + 3) L st (m_set h a (.inl (false, n1, va_cpy f g sn dn nn))) Q) : m_wp X j pc L (.int n :: .int dp :: .ref a :: .int sp :: .ref a0 :: st) h Q := by
  subst es
  subst ed
  subst en
  refine wp_one (fun go r hr => ?_) K
  simp only [m_stp, hd, m_ins, m_invs, hf, if_true]
  rw [if_neg (by decide)]
  simp only [hg0, hg1]
  rw [if_pos ⟨trivial, hsp, hdp, hn, hl0, hl1, h1, h2, h3⟩]
  exact hr
theorem wp_iret {x : Int32} (hd : decode (m_code j) pc = .ok (.ireturn, 1)) (hr : m_ret j = some .int) (hQ : Q (some (.int x)) h) : m_wp X j pc L [.int x] h Q := by
  refine ⟨1, _, _, ?_, hQ⟩
  show m_stp X _ j pc L _ h = _
  simp only [m_stp, hd, m_ins, m_retn]
  rw [if_pos ⟨trivial, Or.inl hr⟩]
theorem wp_zret {x : Int32} (hd : decode (m_code j) pc = .ok (.ireturn, 1)) (hr : m_ret j = some .boolean) (hx : x = 0 ∨ x = 1) (hQ : Q (some (.int x)) h) : m_wp X j pc L [.int x] h Q := by
  refine ⟨1, _, _, ?_, hQ⟩
  show m_stp X _ j pc L _ h = _
  simp only [m_stp, hd, m_ins, m_retn]
  rw [if_pos ⟨trivial, Or.inr ⟨hr, hx⟩⟩]
theorem wp_vret (hd : decode (m_code j) pc = .ok (.return_, 1)) (hr : m_ret j = none) (hQ : Q none h) : m_wp X j pc L [] h Q := by
  refine ⟨1, _, _, ?_, hQ⟩
  show m_stp X _ j pc L _ h = _
  simp only [m_stp, hd, m_ins, hr, and_self, if_true]
theorem wp_aret {a : Nat} (hd : decode (m_code j) pc = .ok (.areturn, 1)) (hr : m_ret j = some (.array .int)) (hQ : Q (some (.ref a)) h) : m_wp X j pc L [.ref a] h Q := by
  refine ⟨1, _, _, ?_, hQ⟩
  show m_stp X _ j pc L _ h = _
  simp only [m_stp, hd, m_ins, hr, and_self, if_true]
/-- the law's answer -/
theorem wp_run {v : Option Value} {h1 : mH} (hw : ∃ k, m_run X k j pc L st h = some (v, h1)) : Runs X j pc L st h (v, h1) := hw
end WPS
