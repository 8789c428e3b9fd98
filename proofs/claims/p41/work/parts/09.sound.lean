section SNG
variable {l : Launch} {D : va_G} {cI cC : ClassId} {b : Nat} {X : mX} {H00 : Heap} {go : mG} {j pc len : Nat} {L : mL} {st : List Value} {h : mH} {r : mR}
theorem m_nonneg {z : Int32} (hz : ¬ z < 0) : z.toInt = (z.toNatClampNeg : Int) := by
  have h0 : (0 : Int) ≤ z.toInt := by
    have := Int32.not_lt.mp hz
    simpa using Int32.le_iff_toInt_le.mp this
  show z.toInt = ((z.toInt.toNat : Nat) : Int)
  omega
theorem m_room {j : Nat} {R : Room} (h1 : 1 ≤ m_fr j) (h2 : 28 * m_fr j + 18 ≤ R.locals) {n k : Nat} (hn : n ≤ 8) (hk : k ≤ 18) : n + k ≤ R.locals := by omega
theorem sd_copy (hgo : m_SG l D cI cC b X H00 go) {idx e kind j2 : Nat} {n dp sp : Int32} {a a0 n0 n1 : Nat} {f g : Nat → Int32} {rest : List Value} (hf : m_findM (m_own j) idx = some (e, kind, j2)) (hkind : kind = 5) (hg0 : m_get h a0 = some (.inl (false, n0, f))) (hg1 : m_get h a = some (.inl (false, n1, g)))
    (h0 : len = 3 ∧ ¬ sp < 0 ∧ ¬ dp < 0 ∧ ¬ n < 0 ∧ sp.toNatClampNeg + n.toNatClampNeg ≤ n0 ∧ dp.toNatClampNeg + n.toNatClampNeg ≤ n1 ∧ rest.length ≤ 8 ∧ rest.all m_c1 = true ∧ 1 ≤ m_fr j)
    (hr : go j (pc + 3) L rest (m_set h a (.inl (false, n1, va_cpy f g sp.toNatClampNeg dp.toNatClampNeg n.toNatClampNeg))) = some r) (hdg : decode (m_code j) pc = .ok (.invokestatic idx, len)) : m_at l D cI cC b X H00 j pc L (.int n :: .int dp :: .ref a :: .int sp :: .ref a0 :: rest) h r := by
  subst hkind
  obtain ⟨h3, h1, h2, h4, h5, h6, h7, h8, h9⟩ := h0
  subst h3
  obtain ⟨rfl, hw, -⟩ := m_findM_ok hf
  refine m_step (hgo _ _ _ _ _ _ hr) m_set_len fun p e2 R s m args below meth c H locs cells slots Q ls hcx hhp hlo _ _ kk => ?_
  simp only [m_set_len0.1, m_set_len0.2, Nat.add_zero] at kk
  obtain ⟨hx, hb, hml, hown, hts, hnw, hfr, hlo2, hK, hX, hbl, hname⟩ := hcx
  have he0 := hhp.1 a0 _ (m_at_of (b := b) (cI := cI) (cC := cC) (base := H00.size) hg0)
  have he1 := hhp.1 a _ (m_at_of (b := b) (cI := cI) (cC := cC) (base := H00.size) hg1)
  have hc0 : H[H00.size + a0]? = some (vp_cell cI (n0, .inl f)) := he0
  have hc1 : H[H00.size + a]? = some (vp_cell cI (n1, .inl g)) := he1
  obtain ⟨-, k0, hk0, cm0, hkk0⟩ := (hK.2 0 _ rfl).1 n0 (fun j => .int (f j))
  obtain ⟨-, k1, hk1, cm1, hkk1⟩ := (hK.2 0 _ rfl).1 n1 (fun j => .int (g j))
  intro T hT Xs
  obtain ⟨vm', X', step⟩ := Xs.arraycopy hx hown (hts _ (m_in_tg (hw (.methodLink (m_ownS (m_own j)) e arraycopyName) (by simp [m_mws])) rfl))
    (hts _ (m_sys (w := .native arraycopyName) (by simp [m_sysw]) rfl)) (hts _ (m_sys (w := .static arraycopyName) (by simp [m_sysw]) rfl)) (hts _ (m_sys (w := .initialized "java/lang/System") (by simp [m_sysw]) rfl))
    (src := H00.size + a0) (dst := H00.size + a) (cs := vp_cell cI (n0, .inl f)) (cd := vp_cell cI (n1, .inl g)) (srcPos := sp) (destPos := dp) (n := n) (by rw [hT]; exact hc0) (by rw [hT]; exact hc1)
    (fun _ h => by cases h) (fun _ h => by cases h) (fun h => by cases h) (fun h => by cases h) hk0 hk1 hkk0 hkk1 rfl h1 h2 h4
    (by rw [m_nonneg h1, m_nonneg h4]; show ¬ _ > ((arrV cI n0 (fun j => .int (f j))).slots.size : Int); rw [arrV_size]; omega)
    (by rw [m_nonneg h2, m_nonneg h4]; show ¬ _ > ((arrV cI n1 (fun j => .int (g j))).slots.size : Int); rw [arrV_size]; omega)
    (fun vm₁ _ i hi => by
      have e9 : (vp_cell cI (n0, .inl f)).slots.getD (sp.toNatClampNeg + i) .null = .int (f (sp.toNatClampNeg + i)) := by
        show (arrV cI n0 (fun j => .int (f j))).slots.getD _ _ = _
        rw [Array.getD_eq_getD_getElem?, arrV_read _ _ (by omega)]
        rfl
      refine ⟨?_, ?_⟩
      · rw [e9]
        rfl
      · rw [e9]
        exact trivial)
    (g := F0 m pc ls ((.int n :: .int dp :: .ref a :: .int sp :: .ref a0 :: rest : List Value).map (m_rv H00.size b))) rfl (by show ls.size = _; rw [hml, ← hlo.2.1.1]) (rest := rest.map (m_rv H00.size b)) rfl (by rw [hb]; exact hdg) (Nat.le_trans h9 hfr)
    (by show 2 * 0 + ((rest.map (m_rv H00.size b)).map fun v => v.category).sum + 18 ≤ _; rw [m_cats h8]; have := m_room h9 hlo2 h7 (Nat.le_refl 18); omega)
  have e1 : copied (vp_cell cI (n0, .inl f)) (vp_cell cI (n1, .inl g)) sp dp n = vp_cell cI (n1, .inl (va_cpy f g sp.toNatClampNeg dp.toNatClampNeg n.toNatClampNeg)) := va_copied (fun z => .int z) cI cI f g h5
  rw [e1] at X' step
  have hl : H00.size + a < H.size := (Array.getElem?_eq_some_iff.mp hc1).1
  have hP2 : va_P D m_cls (m_ws H00.size b cI cC (m_set h a (.inl (false, n1, va_cpy f g sp.toNatClampNeg dp.toNatClampNeg n.toNatClampNeg))).1) (H.setIfInBounds (H00.size + a) (vp_cell cI (n1, .inl (va_cpy f g sp.toNatClampNeg dp.toNatClampNeg n.toNatClampNeg)))) := by
    show va_P D m_cls (m_ws H00.size b cI cC (h.1.set a _)) _
    rw [m_ws_set]
    refine hhp.1.set m_ws_D (m_at_of hg1) ?_ (fun q hq => by simp [Array.getElem?_setIfInBounds, Ne.symm hq])
    show (H.setIfInBounds (H00.size + a) _)[H00.size + a]? = some _
    simp [Array.getElem?_setIfInBounds, hl]
  obtain ⟨t, a1, b1⟩ := kk _ (locs ++ ((vp_cell cI (n0, .inl f)).stretch sp.toNatClampNeg n.toNatClampNeg).zipIdx.map fun q => ⟨H00.size + a, dp.toNatClampNeg + q.2⟩) ls
    ⟨hP2, by rw [Array.size_setIfInBounds, hhp.2.1]; show _ = H00.size + (h.1.set a _).length; rw [List.length_set],
     ⟨by rw [Array.size_setIfInBounds]; exact hhp.2.2.1, fun q g1 g2 => by
        have hne : q ≠ H00.size + a := by omega
        simp only [Array.getElem?_setIfInBounds, Ne.symm hne, if_false]
        exact hhp.2.2.2.1 q g1 g2, fun q hq => by
        rcases List.mem_append.mp hq with hq | hq
        · exact hhp.2.2.2.2 q hq
        · obtain ⟨z, -, hz⟩ := List.mem_map.mp hq
          rw [← hz]
          exact Nat.le_add_right _ _⟩⟩ hlo _ (by rw [← hT]; rfl) X'
  exact ⟨t, step t a1, b1⟩
theorem sd_math (hgo : m_SG l D cI cC b X H00 go) {idx e kind j2 : Nat} {x y : Int32} {rest : List Value} (hf : m_findM (m_own j) idx = some (e, kind, j2)) (hkind : kind = 6 ∨ kind = 7) (h0 : len = 3 ∧ rest.length ≤ 8 ∧ rest.all m_c1 = true ∧ 1 ≤ m_fr j)
    (hr : go j (pc + 3) L (.int (if kind = 6 then (if x < y then y else x) else (if y < x then y else x)) :: rest) h = some r) (hdg : decode (m_code j) pc = .ok (.invokestatic idx, len)) : m_at l D cI cC b X H00 j pc L (.int y :: .int x :: rest) h r := by
  obtain ⟨h3, h7, h8, h9⟩ := h0
  subst h3
  obtain ⟨rfl, hw, -⟩ := m_findM_ok hf
  refine m_stepS (hgo _ _ _ _ _ _ hr) fun p e2 R s m args below meth c H locs cells slots Q ls hcx hhp hlo hc1 hc2 kk => ?_
  obtain ⟨hx, hb, hml, hown, hts, hnw, hfr, hlo2, hK, hX, hbl, hname⟩ := hcx
  have hr13 : ((rest.map (m_rv H00.size b)).map fun v => v.category).sum + 13 ≤ R.locals := by rw [m_cats h8]; exact m_room h9 hlo2 h7 (by omega)
  have hls : c.maxLocals = ls.size := by rw [hml, ← hlo.2.1.1]
  rcases hkind with rfl | rfl
  · exact va_mmax hx hb hls hown (hts _ (m_in_tg (hw (.methodLink (m_ownS (m_own j)) e Lib.Math.max.name) (by simp [m_mws])) rfl)) (hts _ (m_sys (w := .static Lib.Math.max.name) (by simp [m_sysw]) rfl)) (hts _ (m_sys (w := .initialized "java/lang/Math") (by simp [m_sysw]) rfl)) (hts _ (m_sys (w := .code Lib.Math.max.name Lib.Math.max.code 2 (some .int)) (by simp [m_sysw]) rfl)) (Nat.le_trans h9 hfr) hr13 hc1 hc2 hdg (kk ls hlo)
  · exact va_mmin hx hb hls hown (hts _ (m_in_tg (hw (.methodLink (m_ownS (m_own j)) e Lib.Math.min.name) (by simp [m_mws])) rfl)) (hts _ (m_sys (w := .static Lib.Math.min.name) (by simp [m_sysw]) rfl)) (hts _ (m_sys (w := .initialized "java/lang/Math") (by simp [m_sysw]) rfl)) (hts _ (m_sys (w := .code Lib.Math.min.name Lib.Math.min.code 2 (some .int)) (by simp [m_sysw]) rfl)) (Nat.le_trans h9 hfr) hr13 hc1 hc2 hdg (kk ls hlo)
theorem sd_obj (hgo : m_SG l D cI cC b X H00 go) {idx e kind j2 a : Nat} {rest : List Value} (hf : m_findM (m_own j) idx = some (e, kind, j2)) (hkind : kind = 4) (h0 : len = 3 ∧ rest.length ≤ 8 ∧ rest.all m_c1 = true ∧ 1 ≤ m_fr j)
    (hr : go j (pc + 3) L rest h = some r) (hdg : decode (m_code j) pc = .ok (.invokespecial idx, len)) : m_at l D cI cC b X H00 j pc L (.ref a :: rest) h r := by
  subst hkind
  obtain ⟨h3, h7, h8, h9⟩ := h0
  subst h3
  obtain ⟨rfl, hw, -⟩ := m_findM_ok hf
  refine m_stepS (hgo _ _ _ _ _ _ hr) fun p e2 R s m args below meth c H locs cells slots Q ls hcx hhp hlo hc1 hc2 kk => ?_
  obtain ⟨hx, hb, hml, hown, hts, hnw, hfr, hlo2, hK, hX, hbl, hname⟩ := hcx
  have hr12 := m_room h9 hlo2 h7 (show 12 ≤ 18 by omega)
  refine W.objInit hx hb hown (hts _ (m_in_tg (hw (.methodLink (m_ownS (m_own j)) e objectInit) (by simp [m_mws])) rfl)) (hts _ (m_sys (w := .instanceMethod objectInit) (by simp [m_sysw]) rfl)) (hts _ (m_sys (w := .code objectInit ⟨#[0xb1]⟩ 1 none) (by simp [m_sysw]) rfl)) (g := F0 m pc ls ((.ref a :: rest : List Value).map (m_rv H00.size b))) rfl (by show ls.size = _; rw [hml, ← hlo.2.1.1]) (a := H00.size + a) (rest := rest.map (m_rv H00.size b)) rfl hdg (Nat.le_trans h9 hfr) (by show 2 * 0 + ((rest.map (m_rv H00.size b)).map fun v => v.category).sum + 12 ≤ _; rw [m_cats h8]; omega) ?_
  exact kk ls hlo
def m_Pc (D : va_G) (cI cC : ClassId) (b : Nat) (X : mX) (H00 : Heap) (as : List Value) (h : mH) : Array Value → State → Prop := fun v U =>
  v = (as.map (m_rv H00.size b)).toArray ∧ m_hp D cI cC b H00 h U.heap [] ∧ va_K D m_cls [(cI, .int), (cC, .char)] U ∧ va_X b X.1 X.2 U H00 ∧ (∀ w ∈ m_nw, va_Nw w U) ∧ b < H00.size
def m_Qc (D : va_G) (cI cC : ClassId) (b : Nat) (H00 : Heap) (v : Option Value) (h1 : mH) : Array Value → State → Outcome → State → Prop := fun _ _ o t =>
  o = .returned (v.map (m_rv H00.size b)) ∧ m_hp D cI cC b H00 h1 t.heap []
theorem m_hp_nil {H : Heap} {locs : List Loc} (hh : m_hp D cI cC b H00 h H locs) : m_hp D cI cC b H00 h H [] := ⟨hh.1, hh.2.1, hh.2.2.1, hh.2.2.2.1, fun q hq => by cases hq⟩
theorem m_nw_warm {s U : State} (hW : s.WarmedH U.vm) (hn : ∀ w ∈ m_nw, va_Nw w s) : ∀ w ∈ m_nw, va_Nw w U := by
  intro w hw
  have h1 := hn w hw
  have h2 : m_isnest w = true := (List.mem_filter.mp hw).2
  cases w <;> first | exact va_Nw.warmF hW h1 | exact va_Nw.warmM hW h1 | (simp [m_isnest] at h2)
theorem m_nw_tab {w : Cond} (hw : w ∈ m_nw) : w.onTables = true := by
  have h2 : m_isnest w = true := (List.mem_filter.mp hw).2
  cases w <;> first | rfl | (simp [m_isnest] at h2)
theorem m_Pc_blind {as : List Value} : FrameBlind (m_Pc D cI cC b X H00 as h) := by
  intro a U g mk q
  obtain ⟨q0, q1, q2, q3, q4, q5⟩ := q
  exact ⟨q0, q1, va_K.moved (u := U) (U := U.calling g mk a) (Vm.Alike.refl U.vm) q2, va_X.moved (u := U) (U := U.calling g mk a) (Vm.Alike.refl U.vm) q3, fun w hw => va_Nw.same (m_nw_tab hw) (u := U) (U := U.calling g mk a) rfl (q4 w hw), q5⟩
abbrev m_rm (j mc ms : Nat) : Room := { frames := m_fr j, cells := mc, slots := ms, locals := 28 * m_fr j + 18 }
/-- a method's contract, out of its body's soundness -/
theorem m_met {as : List Value} {v : Option Value} {h1 : mH} (hA : m_at l D cI cC b X H00 j 0 (m_entry j as) [] h (v, h1)) (hj : j < 302) (hne : (m_y j).cls ≠ "java/lang/Math") (has : as.all m_c1 = true) (hlen : as.length ≤ m_nl j) :
    Met l (m_y j) (m_cwj j :: m_tg) (m_rm j (h1.1.length - h.1.length) (h1.2 - h.2)) (m_Pc D cI cC b X H00 as h) (m_Qc D cI cC b H00 v h1) (h1.1.length - h.1.length) (h1.2 - h.2) (m_A H00.size) := by
  obtain ⟨hl1, hl2, hW⟩ := hA
  have hjo := m_jok_at hj
  refine Met.ofW (cc := m_code j) (maxL := m_nl j) (ret := m_ret j) (hjo.2.2.2.2.2 hne) rfl ?_
  intro p e s m args below meth c s₁ B hml hv
  obtain ⟨rfl, hhp, hK, hX, hnw, hbl⟩ := hv
  have hts0 := atoms_spec (ws := m_cwj j :: m_tg) B.pre
  have hown : s.vm.findClass (m_y j).cls = some m.cls := findClass_of_methodNamed B.named
  have hname : meth.name = (m_y j).name := (name_of_methodNamed B.named B.method).1
  rw [lg_entry_eq]
  have hlo := m_entry_lo (base := H00.size) (b := b) has hlen
  generalize ((lg_sl (as.map (m_rv H00.size b)) ++ List.replicate (m_nl j - (lg_sl (as.map (m_rv H00.size b))).length) Slot.unset).toArray) = ls at hlo ⊢
  refine hW p e _ s m _ below meth c s.heap [] 0 0 _ ls h.1.length h.2 ⟨B.exec, B.bytes, hml, by rw [hjo.1]; exact hown, fun w hw => hts0 w (List.mem_cons_of_mem _ hw), hnw, Nat.le_refl _, Nat.le_refl _, hK, hX, hbl, fun z => hname.trans z⟩ hhp hlo (Nat.zero_add _) (Nat.zero_add _) (by show h1.1.length ≤ h.1.length + (h1.1.length - h.1.length); have h9 : h.1.length ≤ h1.1.length := hl1; omega) (by show h1.2 ≤ h.2 + (h1.2 - h.2); have h9 : h.2 ≤ h1.2 := hl2; omega) ?_
  intro H' locs' cells' slots' ls' pc' e1 e2 hhp' hrok
  have e1' : cells' = h1.1.length - h.1.length := by have : cells' + h.1.length = h1.1.length := e1; omega
  have e2' : slots' = h1.2 - h.2 := by have : slots' + h.2 = h1.2 := e2; omega
  subst e1'
  subst e2'
  have hlocks := B.notSynchronized
  have hq : ∀ o, o = Outcome.returned (v.map (m_rv H00.size b)) → ∀ t : State, t.heap = H' → s.WarmedH t.vm → m_Qc D cI cC b H00 v h1 (as.map (m_rv H00.size b)).toArray s o t := fun o ho t ht _ => ⟨ho, by rw [ht]; exact m_hp_nil hhp'⟩
  cases v with
  | none =>
    obtain ⟨hd, hret⟩ : decode (m_code j) pc' = .ok (.return_, 1) ∧ m_ret j = none := hrok
    exact W.vret B.exec B.bytes (by rw [B.returns]; exact hret) (hq _ rfl) hhp'.2.2.2.2 hd hlocks
  | some w =>
    cases w with
    | int x =>
      obtain ⟨hd, hret⟩ : decode (m_code j) pc' = .ok (.ireturn, 1) ∧ (m_ret j = some .int ∨ (m_ret j = some .boolean ∧ (x = 0 ∨ x = 1))) := hrok
      rcases hret with hret | ⟨hret, hx⟩
      · exact W.iret B.exec B.bytes (by rw [B.returns]; exact hret) (hq _ rfl) hhp'.2.2.2.2 hd hlocks
      · refine W.zret (ty := .boolean) B.exec B.bytes (by rw [B.returns]; exact hret) ?_ (hq _ rfl) hhp'.2.2.2.2 hd hlocks
        rcases hx with rfl | rfl <;> rfl
    | ref a =>
      obtain ⟨hd, hret⟩ : decode (m_code j) pc' = .ok (.areturn, 1) ∧ m_ret j = some (.array .int) := hrok
      exact W.aret B.exec B.bytes (by rw [B.returns]; exact hret) (Or.inr ⟨_, rfl⟩) (Or.inr ⟨_, rfl⟩) (hq _ rfl) hhp'.2.2.2.2 hd hlocks
    | _ => exact False.elim hrok
end SNG
