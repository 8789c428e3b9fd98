section SNI
variable {l : Launch} {D : va_G} {cI cC : ClassId} {b : Nat} {X : mX} {H00 : Heap} {go : mG} {j pc len : Nat} {L : mL} {st : List Value} {h : mH} {r : mR}
theorem sd_ret {v : Option Value} (hrok : m_rok j pc v) : m_at l D cI cC b X H00 j pc L v.toList h (v, h) := by
  refine ⟨Nat.le_refl _, Nat.le_refl _, ?_⟩
  intro p e R s m args below meth c H locs cells slots Q ls n0 z0 hcx hhp hlo e1 e2 e3 e4 hret
  exact hret H locs cells slots ls pc e1 e2 hhp hrok
set_option maxHeartbeats 4000000 in
theorem sd_stp (hgo : m_SG l D cI cC b X H00 go) : m_SG l D cI cC b X H00 (m_stp X go) := by
  intro j pc L st h r hr
  unfold m_stp at hr
  split at hr
  next i len hdg =>
    cases i <;> first | (simp only [m_ins] at hr; cases hr; done) | skip
    case aload_n n => exact sd_aload_n hgo hr hdg
    case iload_n n => exact sd_iload_n hgo hr hdg
    case iload n => exact sd_iload hgo hr hdg
    case istore_n n => exact sd_istore_n hgo hr hdg
    case istore n => exact sd_istore hgo hr hdg
    case astore_n n => exact sd_astore_n hgo hr hdg
    case aload n => exact sd_aload hgo hr hdg
    case astore n => exact sd_astore hgo hr hdg
    case ldc idx =>
      simp only [m_ins] at hr
      split at hr
      next e v hf => exact sd_ldc hgo hf hr hdg
      next => cases hr
    case dup_x2 =>
      simp only [m_ins] at hr
      split at hr
      next v w u rest =>
        split at hr
        next h1 => exact sd_dupx2 hgo h1.1 h1.2.1 h1.2.2.1 h1.2.2.2 hr hdg
        next => cases hr
      next => cases hr
    case iconst n => exact sd_iconst hgo hr hdg
    case bipush n => exact sd_bipush hgo hr hdg
    case sipush n => exact sd_sipush hgo hr hdg
    case ldc_w idx =>
      simp only [m_ins] at hr
      split at hr
      next e v hf => exact sd_ldcw hgo hf hr hdg
      next => cases hr
    case iadd => exact sd_bin hgo hr (fun x y rest h1 _ p e R s m args below meth c H locs cells slots Q ls hx hb kk => lv_iadd hx hb (by rw [← h1]; exact hdg) kk)
    case isub => exact sd_bin hgo hr (fun x y rest h1 _ p e R s m args below meth c H locs cells slots Q ls hx hb kk => lv_isub hx hb (by rw [← h1]; exact hdg) kk)
    case imul => exact sd_bin hgo hr (fun x y rest h1 _ p e R s m args below meth c H locs cells slots Q ls hx hb kk => lv_imul hx hb (by rw [← h1]; exact hdg) kk)
    case idiv => exact sd_bin hgo hr (fun x y rest h1 h2 p e R s m args below meth c H locs cells slots Q ls hx hb kk => lv_idiv hx hb (by rw [← h1]; exact hdg) (by simpa using h2) kk)
    case irem => exact sd_bin hgo hr (fun x y rest h1 h2 p e R s m args below meth c H locs cells slots Q ls hx hb kk => lv_irem hx hb (by rw [← h1]; exact hdg) (by simpa using h2) kk)
    case iand => exact sd_bin hgo hr (fun x y rest h1 _ p e R s m args below meth c H locs cells slots Q ls hx hb kk => lv_iand hx hb (by rw [← h1]; exact hdg) kk)
    case ior => exact sd_bin hgo hr (fun x y rest h1 _ p e R s m args below meth c H locs cells slots Q ls hx hb kk => lv_ior hx hb (by rw [← h1]; exact hdg) kk)
    case ixor => exact sd_bin hgo hr (fun x y rest h1 _ p e R s m args below meth c H locs cells slots Q ls hx hb kk => lv_ixor hx hb (by rw [← h1]; exact hdg) kk)
    case ishl => exact sd_bin hgo hr (fun x y rest h1 _ p e R s m args below meth c H locs cells slots Q ls hx hb kk => lv_ishl hx hb (by rw [← h1]; exact hdg) kk)
    case ishr => exact sd_bin hgo hr (fun x y rest h1 _ p e R s m args below meth c H locs cells slots Q ls hx hb kk => lv_ishr hx hb (by rw [← h1]; exact hdg) kk)
    case iushr => exact sd_bin hgo hr (fun x y rest h1 _ p e R s m args below meth c H locs cells slots Q ls hx hb kk => lv_iushr hx hb (by rw [← h1]; exact hdg) rfl kk)
    case i2c =>
      simp only [m_ins] at hr
      split at hr
      next x rest =>
        split at hr
        next h1 => exact sd_i2c hgo h1 hr hdg
        next => cases hr
      next => cases hr
    case iinc n c => exact sd_iinc hgo hr hdg
    case goto off =>
      simp only [m_ins] at hr
      split at hr
      next h1 => exact sd_goto hgo h1 hr hdg
      next => cases hr
    case ifCond c off =>
      simp only [m_ins] at hr
      split at hr
      next x rest => exact sd_if hgo hr hdg
      next => cases hr
    case if_icmp c off =>
      simp only [m_ins] at hr
      split at hr
      next y x rest => exact sd_icmp hgo hr hdg
      next => cases hr
    case tableswitch d lo hi offs => exact sd_tsw hgo hr hdg
    case lookupswitch d ps => exact sd_lsw hgo hr hdg
    case dup =>
      simp only [m_ins] at hr
      split at hr
      next v rest =>
        split at hr
        next h1 => exact sd_dup hgo h1.1 h1.2 hr hdg
        next => cases hr
      next => cases hr
    case dup2 =>
      simp only [m_ins] at hr
      split at hr
      next v w rest =>
        split at hr
        next h1 => exact sd_dup2 hgo h1.1 h1.2.1 h1.2.2 hr hdg
        next => cases hr
      next => cases hr
    case getfield idx => exact sd_getf hgo hr hdg
    case putfield idx => exact sd_putf hgo hr hdg
    case iaload => exact sd_ald (ch := false) hgo hr hdg
    case caload => exact sd_ald (ch := true) hgo hr hdg
    case iastore => exact sd_ast (ch := false) hgo hr hdg
    case castore => exact sd_ast (ch := true) hgo hr hdg
    case arraylength => exact sd_alen hgo hr hdg
    case newarray ty =>
      cases ty <;> first | (simp only [m_ins] at hr; cases hr; done) | skip
      case int => exact sd_newa (ch := false) hgo hr hdg
      case char => exact sd_newa (ch := true) hgo hr hdg
    case new idx => exact sd_newo hgo hr hdg
    case invokevirtual idx => exact sd_invv hgo hr hdg
    case invokestatic idx => exact sd_invs hgo hr hdg
    case invokespecial idx => exact sd_invi hgo hr hdg
    case ireturn =>
      simp only [m_ins, m_retn] at hr
      split at hr
      next x =>
        split at hr
        next h1 =>
          cases hr
          obtain ⟨h1, h2⟩ := h1
          subst h1
          exact sd_ret (v := some (.int x)) ⟨hdg, h2⟩
        next => cases hr
      next => cases hr
    case return_ =>
      simp only [m_ins] at hr
      split at hr
      next =>
        split at hr
        next h1 =>
          cases hr
          obtain ⟨h1, h2⟩ := h1
          subst h1
          exact sd_ret (v := none) ⟨hdg, h2⟩
        next => cases hr
      next => cases hr
    case areturn =>
      simp only [m_ins] at hr
      split at hr
      next a =>
        split at hr
        next h1 =>
          cases hr
          obtain ⟨h1, h2⟩ := h1
          subst h1
          exact sd_ret (v := some (.ref a)) ⟨hdg, h2⟩
        next => cases hr
      next => cases hr
  next => cases hr
theorem sd_run (k : Nat) : m_SG l D cI cC b X H00 (m_run X k) := by
  induction k with
  | zero =>
    intro j pc L st h r hr
    cases hr
  | succ k ih => exact sd_stp ih
end SNI
/-! THE LAW's BODY OUT OF A RUN OF THE SMALL MACHINE (the rest is the skeleton's) -/
def R_law : String := "MuseumNightsLaw"
def lw_P (b : Addr) (xs : List Int32) (args : Array Value) (s : State) : Prop := args = #[.ref b] ∧ s.IntsAt b xs ∧ xs.length ≤ 260 ∧ (Jvm.Cond.and given_1 narrow_1).before args s = true
def lw_Q (_ : Array Value) (s : State) (o : Outcome) (t : State) : Prop := o = .returned (some (.int 1)) ∧ Framed s o t [] 600000 7302250
def lw_Z (below : List Frame) (a : Array Value) (s : State) : State → Prop := fun t => ∃ o, t.status = .running ∧ Ended t below o ∧ lw_Q a s o t
/-- the law's own end, with 1 on the stack, nothing written that was there before, its room as the claim has it -/
theorem lw_ret {p : Program} {l : Launch} {e : Env} {s : State} {m : MethodId} {below : List Frame} {meth : Method} {c : Code} {b : Nat} (hx : p.tables.exec = Jvm.exec) (hb : c.code = code) (hr : meth.sig.returnType = ret) (hlocks : meth.locks = false) {pc : Nat} {H : Heap} {ls : Array Slot} (hdg : decode code pc = .ok (.ireturn, 1)) : W p l e room_1 s m #[Value.ref b] below meth c H [] 600000 7302250 (lw_Z below #[Value.ref b] s) (F0 m pc ls [.int 1]) := by
  intro T hT X
  obtain ⟨fs, hret, hrun, hended, hW, hframe⟩ := X.leave (v := some (.int 1)) (hlocks := hlocks) (fun h => by rw [hr] at h; cases h)
  have hmeth' : T.vm.method? m = some meth := X.method'
  refine ⟨T.setFrames fs, ?_, .returned (some (.int 1)), hrun, hended, rfl, ⟨_, rfl⟩, hW, hframe⟩
  jvm_step X.here [X.here.top, hx, hb, hdg, hmeth', hr, ret, narrow_b1]
  (try refine ⟨rfl, ?_⟩); (try refine ⟨rfl, ?_⟩)
  first | (intro acts; rw [hret _ acts rfl rfl rfl]) | rw [hret _ _ rfl rfl rfl]
  exact Steps.refl _
/-- what holds at the law's entry -/
def lw_At (p : Program) (s : State) (m : MethodId) (meth : Method) (c : Code) (b L : Nat) (xs : Nat → Int32) : Prop :=
  p.tables.exec = Jvm.exec ∧ c.code = code ∧ meth.sig.returnType = ret ∧ c.maxLocals = 22 ∧ s.vm.findClass R_law = some m.cls ∧ (∀ w ∈ lw_tbl, w.before #[Value.ref b] s = true) ∧ va_X b L xs s s.heap ∧ b < s.heap.size ∧ meth.locks = false ∧ (Jvm.Cond.and given_1 narrow_1).before #[Value.ref b] s = true
/-- the classes' numbers and slots, of all that the worlds hold -/
theorem m_known {s : State} {args : Array Value} (hts : ∀ w ∈ lw_tbl, w.before args s = true) : ∃ D : va_G, ∀ (c : Nat) (q : vw_C), m_cls[c]? = some q → u_Kn s q.1 q.2.1 q.2.2 (D.1 c) (D.2 c) := by
  have hts' : ∀ w ∈ m_tg, w.before args s = true := fun w hw => hts w (List.mem_filter.mp hw).1
  have hinst : ∀ ci, ci < m_cls.length → Cond.instantiable (m_clsQ ci).1 (m_clsQ ci).2.2 ∈ lw_tbl := by
    intro ci hci
    have key : ∀ ci, ci < m_cls.length → ∃ (o : Nat) (idx : Nat), (m_findK o idx) = some (idx, ci) := by
      intro ci hci
      have key2 : ((List.range m_cls.length).all fun ci => (List.range 17).any fun o => (List.range 70).any fun idx => decide (m_findK o idx = some (idx, ci))) = true := by decide +kernel
      have h1 := List.all_eq_true.mp key2 ci (List.mem_range.mpr hci)
      obtain ⟨o, -, h2⟩ := List.any_eq_true.mp h1
      obtain ⟨idx, -, h3⟩ := List.any_eq_true.mp h2
      exact ⟨o, idx, by simpa using h3⟩
    obtain ⟨o, idx, h1⟩ := key ci hci
    exact (m_findK_ok h1).2.2 _ (by simp [m_kw])
  have h1 : ∀ ci : Nat, ∃ z : ClassId × (Nat → Nat), ci < m_cls.length → u_Kn s (m_clsQ ci).1 (m_clsQ ci).2.1 (m_clsQ ci).2.2 z.1 z.2 := by
    intro ci
    by_cases hci : ci < m_cls.length
    · obtain ⟨cC, iS, hk⟩ := u_known hts' (m_lay_in hci) (hts _ (hinst ci hci))
      exact ⟨(cC, iS), fun _ => hk⟩
    · exact ⟨(0, fun _ => 0), fun z => absurd z hci⟩
  obtain ⟨F, hF⟩ := Classical.axiomOfChoice h1
  refine ⟨(fun c => (F c).1, fun c => (F c).2), fun c q hq => ?_⟩
  have hc : c < m_cls.length := (List.getElem?_eq_some_iff.mp hq).1
  have e : q = ((m_clsQ c).1, (m_clsQ c).2.1, (m_clsQ c).2.2) := Option.some.inj (hq.symm.trans (m_cls_at hc))
  rw [e]
  exact hF c hc
theorem m_arr {s : State} {args : Array Value} {ty : FieldType} (h : (Cond.arrayClass ty).before args s = true) (hty : ty = .int ∨ ty = .char) : ∃ cA : ClassId, ArrOfT s cA ty ∧ va_RA s cA ty := by
  obtain ⟨cA, kA, comp, hf, hk, hkind⟩ := Cond.arrayClass_spec h
  refine ⟨cA, fun n z => ⟨fun k h => (by cases h), kA, hk, comp, hkind⟩, ?_⟩
  rcases hty with rfl | rfl <;> exact hf
theorem m_whole {p : Program} {e : Env} {s : State} {m : MethodId} {below : List Frame} {meth : Method} {c : Code} (l : Launch) {b L : Nat} {xs : Nat → Int32} (C0 : lw_At p s m meth c b L xs) {h1 : mH} (hrun : Runs (L, xs) 0 0 (m_entry 0 [.float 0]) [] ([], 0) (some (.int 1), h1)) (hc : h1.1.length ≤ 600000) (hs : h1.2 ≤ 7302250) :
    W p l e room_1 s m #[Value.ref b] below meth c s.heap [] 0 0 (lw_Z below #[Value.ref b] s) (entryFrame m ([Value.ref b] : List Value).toArray 22) := by
  obtain ⟨hx, hbd, hr, hml, hown, hts, hX, hbl, hlocks, -⟩ := C0
  have hts' : ∀ w ∈ m_tg, w.before #[Value.ref b] s = true := fun w hw => hts w (List.mem_filter.mp hw).1
  obtain ⟨D, hD⟩ := m_known hts
  obtain ⟨cI, hI1, hI2⟩ := m_arr (hts' _ (m_sys (w := .arrayClass .int) (by simp [m_sysw]) rfl)) (Or.inl rfl)
  obtain ⟨cC, hC1, hC2⟩ := m_arr (hts' _ (m_sys (w := .arrayClass .char) (by simp [m_sysw]) rfl)) (Or.inr rfl)
  obtain ⟨k, hk⟩ := hrun
  obtain ⟨-, -, hW⟩ := sd_run (l := l) (D := D) (cI := cI) (cC := cC) (b := b) (X := (L, xs)) (H00 := s.heap) k 0 0 _ _ _ _ hk
  have hK : va_K D m_cls [(cI, .int), (cC, .char)] s := by
    refine ⟨hD, fun k q hq => ?_⟩
    have hk : k < 2 := (List.getElem?_eq_some_iff.mp hq).1
    rcases (show k = 0 ∨ k = 1 by omega) with rfl | rfl
    · cases hq; exact ⟨hI1, hI2⟩
    · cases hq; exact ⟨hC1, hC2⟩
  rw [lg_entry_eq]
  have hlo := m_entry_lo (base := s.heap.size) (b := b) (j := 0) (as := [.float 0]) rfl (by decide +kernel)
  refine hW p e room_1 s m #[Value.ref b] below meth c s.heap [] 0 0 _ _ 0 0 ⟨hx, hbd, hml, hown, hts', fun w hw => va_Nw.of (m_nw_tab hw) (hts w (List.mem_filter.mp hw).1), by decide +kernel, by decide +kernel, hK, hX, hbl, fun z => absurd z (by decide +kernel)⟩ ⟨fun k q hq => (by cases hq), rfl, va_S.rf⟩ hlo rfl rfl (by show h1.1.length ≤ 0 + 600000; omega) (by show h1.2 ≤ 0 + 7302250; omega) ?_
  intro H' locs' cells' slots' ls' pc' e1 e2 hhp' hrok
  have e1' : cells' + 0 = h1.1.length := e1
  have e2' : slots' + 0 = h1.2 := e2
  have hd : decode code pc' = .ok (.ireturn, 1) := hrok.1
  refine va_forget (fun q hq => hhp'.2.2.2.2 q hq) (W.widen (k := 600000) (n := 7302250) (by omega) (by omega) ?_)
  exact lw_ret hx hbd hr hlocks hd
