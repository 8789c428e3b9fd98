section SNE
variable {l : Launch} {D : va_G} {cI cC : ClassId} {b : Nat} {X : mX} {H00 : Heap} {go : mG} {j pc len : Nat} {L : mL} {st : List Value} {h : mH} {r : mR}
theorem sd_if (hgo : m_SG l D cI cC b X H00 go) {cd : Jvm.ClassFile.Cond} {x : Int32} {off : Int} (hr : m_cond go j pc len (m_cb cd x 0) off L st h = some r) (hdg : decode (m_code j) pc = .ok (.ifCond cd off, len)) : m_at l D cI cC b X H00 j pc L (.int x :: st) h r := by
  refine sd_cond hgo hr ?_
  intro h3 tgt htg p e R s m args below meth c H locs cells slots Q ls hx hb kt kf
  subst h3
  cases cd
  · exact lv_if_eq hx hb hdg htg (fun q => kt (decide_eq_true q)) (fun q => kf (decide_eq_false q))
  · exact lv_if_ne hx hb hdg htg (fun q => kt (decide_eq_true q)) (fun q => kf (decide_eq_false (fun z => z q)))
  · exact lv_if_lt hx hb hdg htg (fun q => kt (decide_eq_true q)) (fun q => kf (decide_eq_false q))
  · exact lv_if_ge hx hb hdg htg (fun q => kt (decide_eq_true q)) (fun q => kf (decide_eq_false q))
  · exact lv_if_gt hx hb hdg htg (fun q => kt (decide_eq_true q)) (fun q => kf (decide_eq_false q))
  · exact lv_if_le hx hb hdg htg (fun q => kt (decide_eq_true q)) (fun q => kf (decide_eq_false q))
theorem sd_icmp (hgo : m_SG l D cI cC b X H00 go) {cd : Jvm.ClassFile.Cond} {x y : Int32} {off : Int} (hr : m_cond go j pc len (m_cb cd x y) off L st h = some r) (hdg : decode (m_code j) pc = .ok (.if_icmp cd off, len)) : m_at l D cI cC b X H00 j pc L (.int y :: .int x :: st) h r := by
  refine sd_cond hgo hr ?_
  intro h3 tgt htg p e R s m args below meth c H locs cells slots Q ls hx hb kt kf
  subst h3
  cases cd
  · exact lv_icmp_eq hx hb hdg htg (fun q => kt (decide_eq_true q)) (fun q => kf (decide_eq_false q))
  · exact lv_icmp_ne hx hb hdg htg (fun q => kt (decide_eq_true q)) (fun q => kf (decide_eq_false (fun z => z q)))
  · exact lv_icmp_lt hx hb hdg htg (fun q => kt (decide_eq_true q)) (fun q => kf (decide_eq_false q))
  · exact lv_icmp_ge hx hb hdg htg (fun q => kt (decide_eq_true q)) (fun q => kf (decide_eq_false q))
  · exact lv_icmp_gt hx hb hdg htg (fun q => kt (decide_eq_true q)) (fun q => kf (decide_eq_false q))
  · exact lv_icmp_le hx hb hdg htg (fun q => kt (decide_eq_true q)) (fun q => kf (decide_eq_false q))
theorem sd_tsw (hgo : m_SG l D cI cC b X H00 go) {d lo hi : Int} {offs : Array Int} (hr : m_tsw go j pc d lo hi offs L st h = some r) (hdg : decode (m_code j) pc = .ok (.tableswitch d lo hi offs, len)) : m_at l D cI cC b X H00 j pc L st h r := by
  unfold m_tsw at hr
  split at hr
  next x rest =>
    split at hr
    next h0 =>
      obtain ⟨tgt, htg, hB⟩ := sd_jump hgo hr
      refine m_stepS hB fun p e R s m args below meth c H locs cells slots Q ls hcx hhp hlo _ _ kk => ?_
      exact lv_tableOut hcx.1 hcx.2.1 hdg h0 htg (kk ls hlo)
    next h0 =>
      split at hr
      next off ho =>
        obtain ⟨tgt, htg, hB⟩ := sd_jump hgo hr
        refine m_stepS hB fun p e R s m args below meth c H locs cells slots Q ls hcx hhp hlo _ _ kk => ?_
        exact lv_tableIn hcx.1 hcx.2.1 hdg (fun z => h0 (Or.inl z)) (fun z => h0 (Or.inr z)) ho htg (kk ls hlo)
      next => cases hr
  next => cases hr
theorem sd_lsw (hgo : m_SG l D cI cC b X H00 go) {d : Int} {ps : Array (Int × Int)} (hr : m_lsw go j pc d ps L st h = some r) (hdg : decode (m_code j) pc = .ok (.lookupswitch d ps, len)) : m_at l D cI cC b X H00 j pc L st h r := by
  unfold m_lsw at hr
  split at hr
  next x rest =>
    split at hr
    next h0 =>
      obtain ⟨tgt, htg, hB⟩ := sd_jump hgo hr
      refine m_stepS hB fun p e R s m args below meth c H locs cells slots Q ls hcx hhp hlo _ _ kk => ?_
      exact lv_lookup hcx.1 hcx.2.1 hdg h0 rfl htg (kk ls hlo)
    next => cases hr
  next => cases hr
theorem sd_dup (hgo : m_SG l D cI cC b X H00 go) {v : Value} (h1 : len = 1) (hc : m_c1 v = true) (hr : go j (pc + 1) L (v :: v :: st) h = some r) (hdg : decode (m_code j) pc = .ok (.dup, len)) : m_at l D cI cC b X H00 j pc L (v :: st) h r := by
  subst h1
  refine m_stepS (hgo _ _ _ _ _ _ hr) fun p e R s m args below meth c H locs cells slots Q ls hcx hhp hlo _ _ kk => ?_
  exact lv_dup hcx.1 hcx.2.1 hdg (m_c1_cat hc) (kk ls hlo)
theorem sd_dup2 (hgo : m_SG l D cI cC b X H00 go) {v w : Value} (h1 : len = 1) (hc : m_c1 v = true) (hc2 : m_c1 w = true) (hr : go j (pc + 1) L (v :: w :: v :: w :: st) h = some r) (hdg : decode (m_code j) pc = .ok (.dup2, len)) : m_at l D cI cC b X H00 j pc L (v :: w :: st) h r := by
  subst h1
  refine m_stepS (hgo _ _ _ _ _ _ hr) fun p e R s m args below meth c H locs cells slots Q ls hcx hhp hlo _ _ kk => ?_
  exact lv_dup2_11 hcx.1 hcx.2.1 hdg (m_c1_cat hc) (m_c1_cat hc2) (kk ls hlo)
theorem sd_dupx2 (hgo : m_SG l D cI cC b X H00 go) {v w u : Value} (h1 : len = 1) (hc : m_c1 v = true) (hc2 : m_c1 w = true) (hc3 : m_c1 u = true) (hr : go j (pc + 1) L (v :: w :: u :: v :: st) h = some r) (hdg : decode (m_code j) pc = .ok (.dup_x2, len)) : m_at l D cI cC b X H00 j pc L (v :: w :: u :: st) h r := by
  subst h1
  refine m_stepS (hgo _ _ _ _ _ _ hr) fun p e R s m args below meth c H locs cells slots Q ls hcx hhp hlo _ _ kk => ?_
  exact lv_dup_x2 hcx.1 hcx.2.1 hdg (m_c1_cat hc) (m_c1_cat hc2) (m_c1_cat hc3) (kk ls hlo)
theorem m_at_of {base : Nat} {hh : List mC} {a : Nat} {cl : mC} (hg : hh[a]? = some cl) : (m_ws base b cI cC hh)[a]? = some (base + a, m_cell base b cI cC cl) := by
  rw [m_ws_get, hg]
  rfl
theorem sd_getf (hgo : m_SG l D cI cC b X H00 go) {idx : Nat} (hr : m_getf go j pc len idx L st h = some r) (hdg : decode (m_code j) pc = .ok (.getfield idx, len)) : m_at l D cI cC b X H00 j pc L st h r := by
  unfold m_getf at hr
  split at hr
  next a rest e ci k nest hf =>
    split at hr
    next c2 fs hg =>
      split at hr
      next v hv =>
        split at hr
        next h0 =>
          obtain ⟨h3, h4⟩ := h0
          subst h3
          subst h4
          obtain ⟨rfl, hci, hk, hdecl, hw⟩ := m_findF_ok hf
          refine m_stepS (hgo _ _ _ _ _ _ hr) fun p e R s m args below meth c H locs cells slots Q ls hcx hhp hlo _ _ kk => ?_
          obtain ⟨hx, hb, hml, hown, hts, hnw, hfr, hlo2, hK, -⟩ := hcx
          have he := m_at_of (b := b) (cI := cI) (cC := cC) (base := H00.size) hg
          have hv' : (fs.map (m_rv H00.size b))[k]? = some (m_rv H00.size b v) := by rw [List.getElem?_map, hv]; rfl
          have hsame : ∀ x, s.fieldFound? ((m_clsQ c2).2.1 k).1 ((m_clsQ c2).2.1 k).2.1 ((m_clsQ c2).2.1 k).2.2.1 = some x → s.fieldFound? (m_clsQ c2).1 ((m_clsQ c2).2.1 k).2.1 ((m_clsQ c2).2.1 k).2.2.1 = some x := by
            rw [hdecl]
            exact fun _ z => z
          cases nest with
          | true => exact va_getN hx hb hts (m_lay_in hci) hown hK hhp.1 a he (m_cls_at hci) k hk (va_Nw.use rfl (hnw _ (m_in_nw hw rfl))) hsame hv' hdg (kk ls hlo)
          | false => exact va_get hx hb hts (m_lay_in hci) hown hK hhp.1 a he (m_cls_at hci) k hk (hts _ (m_in_tg hw rfl)) hsame hv' hdg (kk ls hlo)
        next => cases hr
      next => cases hr
    next => cases hr
  next => cases hr
theorem sd_ald (hgo : m_SG l D cI cC b X H00 go) {ch : Bool} (hr : m_ald go X ch j pc len L st h = some r) (hdg : decode (m_code j) pc = .ok ((if ch = true then .caload else .iaload), len)) : m_at l D cI cC b X H00 j pc L st h r := by
  unfold m_ald at hr
  split at hr
  next i a rest =>
    split at hr
    next c2 n f hg =>
      split at hr
      next h0 =>
        obtain ⟨h3, h4, h5⟩ := h0
        subst h3
        subst h4
        refine m_stepS (hgo _ _ _ _ _ _ hr) fun p e R s m args below meth c H locs cells slots Q ls hcx hhp hlo _ _ kk => ?_
        obtain ⟨hx, hb, hml, hown, hts, hnw, hfr, hlo2, hK, -⟩ := hcx
        have he := m_at_of (b := b) (cI := cI) (cC := cC) (base := H00.size) hg
        cases c2 with
        | true => exact va_cald hx hb hK hhp.1 a 1 he rfl h5 hdg (kk ls hlo)
        | false => exact va_iald hx hb hK hhp.1 a 0 he rfl h5 hdg (kk ls hlo)
      next => cases hr
    next => cases hr
  next i q rest =>
    split at hr
    next h0 =>
      obtain ⟨h3, h4, h5⟩ := h0
      subst h3
      subst h4
      refine m_stepS (hgo _ _ _ _ _ _ hr) fun p e R s m args below meth c H locs cells slots Q ls hcx hhp hlo _ _ kk => ?_
      obtain ⟨hx, hb, hml, hown, hts, hnw, hfr, hlo2, hK, hX, hbl, -⟩ := hcx
      exact va_sld hx hb hX hbl (by show ¬ H00.size ≤ b; omega) hhp.2.2 h5 hdg (kk ls hlo)
    next => cases hr
  next => cases hr
theorem sd_alen (hgo : m_SG l D cI cC b X H00 go) (hr : m_alen go X j pc len L st h = some r) (hdg : decode (m_code j) pc = .ok (.arraylength, len)) : m_at l D cI cC b X H00 j pc L st h r := by
  unfold m_alen at hr
  split at hr
  next a rest =>
    split at hr
    next c2 n f hg =>
      split at hr
      next h0 =>
        subst h0
        refine m_stepS (hgo _ _ _ _ _ _ hr) fun p e R s m args below meth c H locs cells slots Q ls hcx hhp hlo _ _ kk => ?_
        obtain ⟨hx, hb, hml, hown, hts, hnw, hfr, hlo2, hK, -⟩ := hcx
        have he := m_at_of (b := b) (cI := cI) (cC := cC) (base := H00.size) hg
        cases c2 with
        | true => exact va_alen hx hb hK hhp.1 a 1 he rfl rfl hdg (kk ls hlo)
        | false => exact va_alen hx hb hK hhp.1 a 0 he rfl rfl hdg (kk ls hlo)
      next => cases hr
    next => cases hr
  next q rest =>
    split at hr
    next h0 =>
      subst h0
      refine m_stepS (hgo _ _ _ _ _ _ hr) fun p e R s m args below meth c H locs cells slots Q ls hcx hhp hlo _ _ kk => ?_
      obtain ⟨hx, hb, hml, hown, hts, hnw, hfr, hlo2, hK, hX, hbl, -⟩ := hcx
      exact va_slen hx hb hX hbl (by show ¬ H00.size ≤ b; omega) hhp.2.2 hdg (kk ls hlo)
    next => cases hr
  next => cases hr
/-- a cell written anew -/
theorem m_hp_set {H H1 : Heap} {locs : List Loc} {a k : Nat} {c0 c1 : mC} (hh : m_hp D cI cC b H00 h H locs) (hg : m_get h a = some c0) (he : va_at D m_cls (H00.size + a, m_cell H00.size b cI cC c1) H1) (z : H1.size = H.size) (oq : ∀ q : Nat, q ≠ H00.size + a → H1[q]? = H[q]?) : m_hp D cI cC b H00 (m_set h a c1) H1 (locs ++ [⟨H00.size + a, k⟩]) := by
  obtain ⟨h1, h2, h3⟩ := hh
  refine ⟨?_, ?_, h3.put z oq (Nat.le_add_right _ _)⟩
  · show va_P D m_cls (m_ws H00.size b cI cC (h.1.set a c1)) H1
    rw [m_ws_set]
    exact h1.set m_ws_D (m_at_of hg) he oq
  · show H1.size = H00.size + (h.1.set a c1).length
    rw [List.length_set, z, h2]
theorem m_set_len {a : Nat} {c1 : mC} : h.1.length ≤ (m_set h a c1).1.length ∧ h.2 ≤ (m_set h a c1).2 := by
  unfold m_set
  rw [List.length_set]
  exact ⟨Nat.le_refl _, Nat.le_refl _⟩
theorem m_set_len0 {a : Nat} {c1 : mC} : (m_set h a c1).1.length - h.1.length = 0 ∧ (m_set h a c1).2 - h.2 = 0 := by
  unfold m_set
  rw [List.length_set]
  exact ⟨Nat.sub_self _, Nat.sub_self _⟩
theorem sd_ast (hgo : m_SG l D cI cC b X H00 go) {ch : Bool} (hr : m_ast go ch (if ch = true then vp_nar .char else fun x => x) j pc len L st h = some r) (hdg : decode (m_code j) pc = .ok ((if ch = true then .castore else .iastore), len)) : m_at l D cI cC b X H00 j pc L st h r := by
  unfold m_ast at hr
  split at hr
  next x i a rest =>
    split at hr
    next c2 n f hg =>
      split at hr
      next h0 =>
        obtain ⟨h3, h4, h5⟩ := h0
        subst h3
        subst h4
        refine m_step (hgo _ _ _ _ _ _ hr) m_set_len fun p e R s m args below meth c H locs cells slots Q ls hcx hhp hlo _ _ kk => ?_
        obtain ⟨hx, hb, hml, hown, hts, hnw, hfr, hlo2, hK, -⟩ := hcx
        have he := m_at_of (b := b) (cI := cI) (cC := cC) (base := H00.size) hg
        simp only [m_set_len0.1, m_set_len0.2, Nat.add_zero] at kk
        cases c2 with
        | true =>
          refine W.cast hx hb (hhp.1 a _ he) ((hK.2 1 _ rfl).1 n (fun j => .int (f j))) (fun q => by cases q) (by show ¬ (i < 0 ∨ (arrV _ _ _).slots.size ≤ _); rw [arrV_size]; exact h5) rfl rfl hdg fun H1 e1 z oq => ?_
          refine kk H1 _ ls (m_hp_set hhp hg ?_ z oq) hlo
          show H1[_]? = some (vp_cell _ _)
          rw [e1]
          congr 1
          show (arrV cC n (fun j => .int (f j))).setSlot _ _ = _
          rw [arrV_store, vp_cell_i]
          congr 1
          funext q
          simp only [updV, upd]
          split <;> rfl
        | false =>
          refine W.iast hx hb (hhp.1 a _ he) ((hK.2 0 _ rfl).1 n (fun j => .int (f j))) (fun q => by cases q) (by show ¬ (i < 0 ∨ (arrV _ _ _).slots.size ≤ _); rw [arrV_size]; exact h5) rfl rfl hdg fun H1 e1 z oq => ?_
          refine kk H1 _ ls (m_hp_set hhp hg ?_ z oq) hlo
          show H1[_]? = some (vp_cell _ _)
          rw [e1]
          congr 1
          show (arrV cI n (fun j => .int (f j))).setSlot _ _ = _
          rw [arrV_store, vp_cell_i]
          congr 1
          funext q
          simp only [updV, upd]
          split <;> rfl
      next => cases hr
    next => cases hr
  next => cases hr
end SNE
