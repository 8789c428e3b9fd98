section SNH
variable {l : Launch} {D : va_G} {cI cC : ClassId} {b : Nat} {X : mX} {H00 : Heap} {go : mG} {j pc len : Nat} {L : mL} {st : List Value} {h : mH} {r : mR}
theorem m_call_at {j2 : Nat} {as rest : List Value} (hr : m_call go j pc len j2 as rest L h = some r) : len = 3 ∧ rest.length ≤ 8 ∧ rest.all m_c1 = true ∧ as.all m_c1 = true ∧ as.length ≤ m_nl j2 ∧ m_fr j2 + 1 + m_nl j2 / 10 ≤ m_fr j ∧
    ∃ v h1, go j2 0 (m_entry j2 as) [] h = some (v, h1) ∧ go j (pc + 3) L (v.toList ++ rest) h1 = some r := by
  unfold m_call at hr
  split at hr
  next h0 =>
    split at hr
    next v h1 hv => exact ⟨h0.1, h0.2.1, h0.2.2.1, h0.2.2.2.1, h0.2.2.2.2.1, h0.2.2.2.2.2, v, h1, hv, hr⟩
    next => cases hr
  next => cases hr
/-- behind a call that ran -/
theorem m_ran {v : Option Value} {h1 : mH} {rest as : List Value} {st0 : List Value} (hA : h.1.length ≤ h1.1.length ∧ h.2 ≤ h1.2) (hB : m_at l D cI cC b X H00 j (pc + 3) L (v.toList ++ rest) h1 r)
    (hrun : ∀ (p : Program) (e : Env) (R : Room) (s : State) (m : MethodId) (args : Array Value) (below : List Frame) (meth : Method) (c : Code) (H : Heap) (locs : List Loc) (cells slots : Nat) (ls : Array Slot),
      m_cx D cI cC b X H00 p R s m args meth c j → m_hp D cI cC b H00 h H locs → m_lo H00.size b (m_nl j) ls L → cells + (h1.1.length - h.1.length) ≤ R.cells → slots + (h1.2 - h.2) ≤ R.slots →
      va_Run p l e R s m args below meth c H locs cells slots (h1.1.length - h.1.length) (h1.2 - h.2) (F0 m pc ls (st0.map (m_rv H00.size b))) (rest.map (m_rv H00.size b)) (m_Qc D cI cC b H00 v h1 (as.map (m_rv H00.size b)).toArray) (m_A H00.size)) :
    m_at l D cI cC b X H00 j pc L st0 h r := by
  refine m_step hB hA fun p e R s m args below meth c H locs cells slots Q ls hcx hhp hlo hc1 hc2 kk => ?_
  intro T hT Xs
  obtain ⟨v2, st₀, t, T', L2, h0, X', hL, e1, e2, ⟨hq1, hq2⟩, gs⟩ := hrun p e R s m args below meth c H locs cells slots ls hcx hhp hlo hc1 hc2 T hT Xs
  have hv : v2 = v.map (m_rv H00.size b) := by
    cases hq1
    rfl
  subst hv
  have hhp1 : m_hp D cI cC b H00 h1 T'.heap (locs ++ L2) := by
    rw [e1]
    refine ⟨hq2.1, hq2.2.1, hq2.2.2.1, hq2.2.2.2.1, fun q hq => ?_⟩
    rcases List.mem_append.mp hq with hq | hq
    · exact hhp.2.2.2.2 q hq
    · exact hL q hq
  obtain ⟨t2, a1, b1⟩ := kk T'.heap (locs ++ L2) ls hhp1 hlo T' rfl X'
  refine ⟨t2, gs t2 ?_, b1⟩
  have e9 : ((v.map (m_rv H00.size b)).toList ++ rest.map (m_rv H00.size b)) = (v.toList ++ rest).map (m_rv H00.size b) := by cases v <;> rfl
  show Steps p.tables e below (T'.setTop (F0 m (pc + 3) ls ((v.map (m_rv H00.size b)).toList ++ rest.map (m_rv H00.size b)))) t2
  rw [e9]
  exact a1
theorem m_words {o idx kind j2 : Nat} (hj : 0 < j2 ∧ j2 < 302) : ∀ w ∈ m_cwj j2 :: m_tg, w ∈ m_tg := by
  intro w hw
  rcases List.mem_cons.mp hw with rfl | hw
  · exact m_cwj_in hj.1 hj.2
  · exact hw
theorem m_goodIn {j2 : Nat} (hj : 0 < j2 ∧ j2 < 302) : GoodIn m_tg (m_cwj j2 :: m_tg) := by
  intro w hw
  have h1 : w ∈ m_tg := m_words (o := 0) (idx := 0) (kind := 0) hj w hw
  exact ⟨h1, good_of_word (List.mem_filter.mp h1).2⟩
theorem m_lvroom {m : MethodId} {pc : Nat} {ls : Array Slot} {st0 rest : List Value} (h7 : rest.length ≤ 8) (h8 : rest.all m_c1 = true) : 2 * (F0 m pc ls st0).monitorRoom + ((rest.map (m_rv H00.size b)).map fun v => v.category).sum ≤ 8 := by
  refine lv_room ?_
  rw [m_cats h8]
  exact h7
theorem m_pre {s : State} {H : Heap} {locs : List Loc} {as : List Value} {p : Program} {R : Room} {m : MethodId} {args : Array Value} {meth : Method} {c : Code} (hcx : m_cx D cI cC b X H00 p R s m args meth c j) (hhp : m_hp D cI cC b H00 h H locs) :
    ∀ U : State, U.heap = H → s.WarmedH U.vm → m_Pc D cI cC b X H00 as h (as.map (m_rv H00.size b)).toArray U := by
  intro U hU hW
  obtain ⟨hx, hb, hml, hown, hts, hnw, hfr, hlo2, hK, hX, hbl, hname⟩ := hcx
  exact ⟨rfl, by rw [hU]; exact m_hp_nil hhp, va_K.moved hW.alike hK, va_X.moved hW.alike hX, m_nw_warm hW hnw, hbl⟩
theorem m_hR {j2 : Nat} {R : Room} {mc ms : Nat} (h1 : m_fr j2 + 1 + m_nl j2 / 10 ≤ m_fr j) (h2 : m_fr j ≤ R.frames) (h3 : 28 * m_fr j + 18 ≤ R.locals) (_ : m_nl j2 ≤ 29) : (m_rm j2 mc ms).frames + 1 ≤ R.frames ∧ 8 + (m_nl j2 + 11) + (m_rm j2 mc ms).locals ≤ R.locals := by
  show m_fr j2 + 1 ≤ R.frames ∧ 8 + (m_nl j2 + 11) + (28 * m_fr j2 + 18) ≤ R.locals
  omega
theorem sd_invv (hgo : m_SG l D cI cC b X H00 go) {idx : Nat} (hr : m_invv go j pc len idx L st h = some r) (hdg : decode (m_code j) pc = .ok (.invokevirtual idx, len)) : m_at l D cI cC b X H00 j pc L st h r := by
  unfold m_invv at hr
  split at hr
  next e kind j2 hf =>
    split at hr
    next hk2 =>
      subst hk2
      split at hr
      next a rest hdrop =>
        split at hr
        next ci fs hg =>
          split at hr
          next h0 =>
            obtain ⟨hcl, hci⟩ := h0
            obtain ⟨h3, h7, h8, h9, h10, h11, v, h1, hcall, hnext⟩ := m_call_at hr
            subst h3
            obtain ⟨rfl, hw, -, hj, -⟩ := m_findM_ok hf
            have hj := hj (by omega)
            have hjo := m_jok_at hj.2.1
            have hA := hgo _ _ _ _ _ _ hcall
            have hM := m_met hA hj.2.1 hj.2.2 h9 h10
            have hst : st = ((st.take (m_np j2)).reverse).reverse ++ .ref a :: rest := by rw [List.reverse_reverse, ← hdrop, List.take_append_drop]
            refine m_ran (as := .ref a :: (st.take (m_np j2)).reverse) (rest := rest) ⟨hA.1, hA.2.1⟩ (hgo _ _ _ _ _ _ hnext) fun p e2 R s m args below meth c H locs cells slots ls hcx hhp hlo hc1 hc2 => ?_
            have hcx' := hcx
            obtain ⟨hx, hb, hml, hown, hts, hnw, hfr, hlo2, hK, hX, hbl, hname⟩ := hcx
            have hn : ((st.take (m_np j2)).reverse).length = m_np j2 := by
              rw [List.length_reverse, List.length_take]
              have h12 : (st.drop (m_np j2)).length ≠ 0 := by rw [hdrop]; simp
              rw [List.length_drop] at h12
              omega
            have hrecv := va_recv hK hhp.1 (m_cls_at hci) (m_at_of (b := b) (cI := cI) (cC := cC) (base := H00.size) hg)
            refine va_runV (As := ((st.take (m_np j2)).reverse).map (m_rv H00.size b)) (b := H00.size + a) (C := (m_y j2).cls) ⟨hx, hb, hml, hown, hts⟩ hM
              ⟨callB_of (m_np j2) hts (m_goodIn ⟨hj.1, hj.2.1⟩) rfl rfl rfl (hts _ (m_in_tg (hw (.initialized (m_y j2).cls) (by simp [m_mws])) rfl)) (hts _ (m_in_tg (hw (.methodLink (m_ownS (m_own j)) e (m_y j2)) (by simp [m_mws])) rfl)) ⟨hjo.2.1, hjo.2.2.1, hjo.2.2.2.1⟩ (m_hR h11 hfr hlo2 hjo.2.2.2.2.1),
               hts _ (m_in_tg (hw (.instanceMethod (m_y j2)) (by simp [m_mws])) rfl), hts _ (m_in_tg (hw (.selects (m_y j2).cls (m_y j2) (m_y j2)) (by simp [m_mws])) rfl)⟩
              ⟨m_Pc_blind, ?_, m_pre (as := .ref a :: (st.take (m_np j2)).reverse) hcx' hhp⟩ rfl (by rw [List.length_map]; exact hn) (by show ls.size = _; exact hlo.2.1.1) ?_ (m_lvroom h7 h8) hdg ⟨hc1, hc2⟩
            · obtain ⟨cell, g1, g2, g3⟩ := hrecv
              exact ⟨cell, g1, g2, by rw [← hcl]; exact g3⟩
            · show st.map (m_rv H00.size b) = _
              conv => lhs; rw [hst]
              rw [List.map_append, List.map_reverse, List.map_cons]
              rfl
          next => cases hr
        next => cases hr
      next => cases hr
    next => cases hr
  next => cases hr
theorem sd_invs (hgo : m_SG l D cI cC b X H00 go) {idx : Nat} (hr : m_invs go j pc len idx L st h = some r) (hdg : decode (m_code j) pc = .ok (.invokestatic idx, len)) : m_at l D cI cC b X H00 j pc L st h r := by
  unfold m_invs at hr
  split at hr
  next e kind j2 hf =>
    split at hr
    next hk3 =>
      subst hk3
      split at hr
      next hnp =>
        obtain ⟨h3, h7, h8, h9, h10, h11, v, h1, hcall, hnext⟩ := m_call_at hr
        subst h3
        obtain ⟨rfl, hw, -, hj, -⟩ := m_findM_ok hf
        have hj := hj (by omega)
        have hjo := m_jok_at hj.2.1
        have hA := hgo _ _ _ _ _ _ hcall
        have hM := m_met hA hj.2.1 hj.2.2 h9 h10
        have hst : st = ((st.take (m_np j2)).reverse).reverse ++ st.drop (m_np j2) := by rw [List.reverse_reverse, List.take_append_drop]
        refine m_ran (as := (st.take (m_np j2)).reverse) (rest := st.drop (m_np j2)) ⟨hA.1, hA.2.1⟩ (hgo _ _ _ _ _ _ hnext) fun p e2 R s m args below meth c H locs cells slots ls hcx hhp hlo hc1 hc2 => ?_
        have hcx' := hcx
        obtain ⟨hx, hb, hml, hown, hts, hnw, hfr, hlo2, hK, hX, hbl, hname⟩ := hcx
        have hn : ((st.take (m_np j2)).reverse).length = m_np j2 := by
          rw [List.length_reverse, List.length_take]
          omega
        refine va_runS (As := ((st.take (m_np j2)).reverse).map (m_rv H00.size b)) ⟨hx, hb, hml, hown, hts⟩ hM
          ⟨callB_of (m_np j2) hts (m_goodIn ⟨hj.1, hj.2.1⟩) rfl rfl rfl (hts _ (m_in_tg (hw (.initialized (m_y j2).cls) (by simp [m_mws])) rfl)) (hts _ (m_in_tg (hw (.methodLink (m_ownS (m_own j)) e (m_y j2)) (by simp [m_mws])) rfl)) ⟨hjo.2.1, hjo.2.2.1, hjo.2.2.2.1⟩ (m_hR h11 hfr hlo2 hjo.2.2.2.2.1),
           hts _ (m_in_tg (hw (.static (m_y j2)) (by simp [m_mws])) rfl)⟩
          ⟨m_Pc_blind, m_pre (as := (st.take (m_np j2)).reverse) hcx' hhp⟩ rfl (by rw [List.length_map]; exact hn) (by show ls.size = _; exact hlo.2.1.1) ?_ (m_lvroom h7 h8) hdg ⟨hc1, hc2⟩
        show st.map (m_rv H00.size b) = _
        conv => lhs; rw [hst]
        rw [List.map_append, List.map_reverse]
      next => cases hr
    next =>
      split at hr
      next hk5 =>
        split at hr
        next n dp a sp a0 rest =>
          split at hr
          next n0 f n1 g hg0 hg1 =>
            split at hr
            next h0 => exact sd_copy hgo hf hk5 hg0 hg1 h0 hr hdg
            next => cases hr
          next => cases hr
        next => cases hr
      next =>
        split at hr
        next hk6 =>
          split at hr
          next y x rest =>
            split at hr
            next h0 => exact sd_math hgo hf hk6 h0 hr hdg
            next => cases hr
          next => cases hr
        next => cases hr
  next => cases hr
theorem sd_invi (hgo : m_SG l D cI cC b X H00 go) {idx : Nat} (hr : m_invi go j pc len idx L st h = some r) (hdg : decode (m_code j) pc = .ok (.invokespecial idx, len)) : m_at l D cI cC b X H00 j pc L st h r := by
  unfold m_invi at hr
  split at hr
  next e kind j2 hf =>
    split at hr
    next hk4 =>
      split at hr
      next a rest =>
        split at hr
        next h0 => exact sd_obj hgo hf hk4 h0 hr hdg
        next => cases hr
      next => cases hr
    next =>
      split at hr
      next hk1 =>
        split at hr
        next a rest hdrop =>
          obtain ⟨h3, h7, h8, h9, h10, h11, v, h1, hcall, hnext⟩ := m_call_at hr
          subst h3
          obtain ⟨rfl, hw, -, hj0, hini0⟩ := m_findM_ok hf
          have hj := hj0 (by omega)
          have hini := hini0 hk1
          clear hj0 hini0
          have hjo := m_jok_at hj.2.1
          have hA := hgo _ _ _ _ _ _ hcall
          have hM := m_met hA hj.2.1 hj.2.2 h9 h10
          have hst : st = ((st.take (m_np j2)).reverse).reverse ++ .ref a :: rest := by rw [List.reverse_reverse, ← hdrop, List.take_append_drop]
          refine m_ran (as := .ref a :: (st.take (m_np j2)).reverse) (rest := rest) ⟨hA.1, hA.2.1⟩ (hgo _ _ _ _ _ _ hnext) fun p e2 R s m args below meth c H locs cells slots ls hcx hhp hlo hc1 hc2 => ?_
          have hcx' := hcx
          obtain ⟨hx, hb, hml, hown, hts, hnw, hfr, hlo2, hK, hX, hbl, hname⟩ := hcx
          have hn : ((st.take (m_np j2)).reverse).length = m_np j2 := by
            rw [List.length_reverse, List.length_take]
            have h12 : (st.drop (m_np j2)).length ≠ 0 := by rw [hdrop]; simp
            rw [List.length_drop] at h12
            omega
          have hstack : (F0 m pc ls (st.map (m_rv H00.size b))).stack = (((st.take (m_np j2)).reverse).map (m_rv H00.size b)).reverse ++ .ref (H00.size + a) :: rest.map (m_rv H00.size b) := by
            show st.map (m_rv H00.size b) = _
            conv => lhs; rw [hst]
            rw [List.map_append, List.map_reverse, List.map_cons]
            rfl
          have hR := m_hR (mc := h1.1.length - h.1.length) (ms := h1.2 - h.2) h11 hfr hlo2 hjo.2.2.2.2.1
          have hcw : m_cwj j2 :: m_tg = .code (m_y j2) (m_code j2) (m_nl j2) none :: m_tg := by unfold m_cwj; rw [hini.2]
          rcases (show kind = 0 ∨ kind = 1 by omega) with hk0 | hk0
          · subst hk0
            exact va_runI (As := ((st.take (m_np j2)).reverse).map (m_rv H00.size b)) (b := H00.size + a) ⟨hx, hb, hml, hown, hts⟩ hM
              ⟨callB_of (m_np j2) hts (m_goodIn ⟨hj.1, hj.2.1⟩) hcw rfl rfl (hts _ (m_in_tg (hw (.initialized (m_y j2).cls) (by simp [m_mws])) rfl)) (hts _ (m_in_tg (hw (.methodLink (m_ownS (m_own j)) e (m_y j2)) (by simp [m_mws])) rfl)) ⟨hjo.2.1, hjo.2.2.1, hjo.2.2.2.1⟩ hR,
               hini.1, hts _ (m_in_tg (hw (.instanceMethod (m_y j2)) (by simp [m_mws])) rfl)⟩
              ⟨m_Pc_blind, m_pre (as := .ref a :: (st.take (m_np j2)).reverse) hcx' hhp⟩ rfl (by rw [List.length_map]; exact hn) (by show ls.size = _; exact hlo.2.1.1) hstack (m_lvroom h7 h8) hdg ⟨hc1, hc2⟩
          · subst hk0
            exact va_runIN (host := "MuseumNights") (As := ((st.take (m_np j2)).reverse).map (m_rv H00.size b)) (b := H00.size + a) ⟨hx, hb, hml, hown, hts⟩ hM
              ⟨va_cnB (m_np j2) hts (m_goodIn ⟨hj.1, hj.2.1⟩) hcw rfl rfl (hnw _ (m_in_nw (hw (.methodLinkNest (m_ownS (m_own j)) e (m_y j2) "MuseumNights") (by simp [m_mws])) rfl)) (hts _ (m_in_tg (hw (.initialized (m_y j2).cls) (by simp [m_mws])) rfl)) ⟨hjo.2.1, hjo.2.2.1, hjo.2.2.2.1⟩ hR,
               hini.1, hts _ (m_in_tg (hw (.instanceMethod (m_y j2)) (by simp [m_mws])) rfl)⟩
              ⟨m_Pc_blind, m_pre (as := .ref a :: (st.take (m_np j2)).reverse) hcx' hhp⟩ rfl (by rw [List.length_map]; exact hn) (by show ls.size = _; exact hlo.2.1.1) hstack (m_lvroom h7 h8) hdg ⟨hc1, hc2⟩
        next => cases hr
      next => cases hr
  next => cases hr
end SNH
