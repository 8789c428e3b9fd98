section SNF
variable {l : Launch} {D : va_G} {cI cC : ClassId} {b : Nat} {X : mX} {H00 : Heap} {go : mG} {j pc len : Nat} {L : mL} {st : List Value} {h : mH} {r : mR}
theorem m_fit_ok {base : Nat} {ty : FieldType} {v : Value} (hf : m_fit ty v = true) : narrow ty (m_rv base b v) = m_rv base b v ∧ fits ty (m_rv base b v) = true := by
  cases ty <;> cases v <;> first | (simp [m_fit] at hf; done) | exact ⟨rfl, rfl⟩ | skip
  simp only [m_fit, Bool.or_eq_true, decide_eq_true_eq] at hf
  rcases hf with rfl | rfl <;> exact ⟨rfl, rfl⟩
theorem sd_putf (hgo : m_SG l D cI cC b X H00 go) {idx : Nat} (hr : m_putf go j pc len idx L st h = some r) (hdg : decode (m_code j) pc = .ok (.putfield idx, len)) : m_at l D cI cC b X H00 j pc L st h r := by
  unfold m_putf at hr
  split at hr
  next v a rest e ci k nest hf =>
    split at hr
    next c2 fs hg =>
      split at hr
      next h0 =>
        obtain ⟨h3, h4, hkl, hfit, hfin⟩ := h0
        subst h3
        subst h4
        obtain ⟨rfl, hci, hk, hdecl, hw⟩ := m_findF_ok hf
        obtain ⟨hn, hfi⟩ := m_fit_ok (b := b) (base := H00.size) hfit
        refine m_step (hgo _ _ _ _ _ _ hr) m_set_len fun p e2 R s m args below meth c H locs cells slots Q ls hcx hhp hlo _ _ kk => ?_
        simp only [m_set_len0.1, m_set_len0.2, Nat.add_zero] at kk
        obtain ⟨hx, hb, hml, hown, hts, hnw, hfr, hlo2, hK, hX, hbl, hname⟩ := hcx
        have he := m_at_of (b := b) (cI := cI) (cC := cC) (base := H00.size) hg
        have hc := m_cls_at hci
        have hap := va_apart (own := "") hts (m_lay_in hci) (fun k => ((m_tys[c2]?.getD [])[k]?).getD .int) (m_ty_of hci) (m_nm_of hci) hK hc
        obtain ⟨q, hq1, cell, q1, q2, q3, q4⟩ := hhp.1 a _ he
        have hqe : q = ((m_clsQ c2).1, (m_clsQ c2).2.1, (m_clsQ c2).2.2) := Option.some.inj (hq1.symm.trans hc)
        subst hqe
        obtain ⟨hS, hfc, kC, hkC, hkind⟩ := hK.1 c2 _ hc
        obtain ⟨cf, kf, fi, f, hi, hsl⟩ := hS k hk
        have hlay := hts _ (m_lay_in hci _ (u_in_lay hk))
        have hst := (u_facts hfc hkC (u_lays hts (m_lay_in hci) hk) hi).1
        have hsame : s.fieldFound? (m_clsQ c2).1 ((m_clsQ c2).2.1 k).2.1 ((m_clsQ c2).2.1 k).2.2.1 = some (cf, kf, fi, f) := by
          rw [← hdecl]
          exact hi
        have hlt : f.slot < cell.slots.size := by
          rw [hsl]
          exact k2_hasslot (q4 k hk)
        have hfits := u_fits hfc hkC hkind (u_lays hts (m_lay_in hci) hk) hi (m_ty_of hci k hk) hn hfi
        have hfin2 : hasFlag f.accessFlags Acc.final = false ∨ (m.cls = cf ∧ meth.name = "<init>") := by
          rcases hfin with z | ⟨z1, z2, z3⟩
          · unfold u_lay at hlay
            rw [if_neg (by rw [z]; decide)] at hlay
            exact Or.inl (u_store hfc hkC hkind hlay hi (m_ty_of hci k hk) hn hfi).1
          · cases hz : ((m_clsQ c2).2.1 k).2.2.2 with
            | false =>
              unfold u_lay at hlay
              rw [if_neg (by rw [hz]; decide)] at hlay
              exact Or.inl (u_store hfc hkC hkind hlay hi (m_ty_of hci k hk) hn hfi).1
            | true =>
              unfold u_lay at hlay
              rw [if_pos hz] at hlay
              refine Or.inr ⟨?_, hname z2⟩
              obtain ⟨_, _, c', _, _, _, -, -, hf', -, -, -, hown2, -⟩ := Cond.laysFinal_spec hlay
              have e1 : c' = cf := by
                have := hi.symm.trans hf'
                simp at this
                exact this.1.symm
              rw [hdecl, z3] at hown2
              rw [← e1]
              exact Option.some.inj (hown.symm.trans hown2)
        have hat : va_at D m_cls (H00.size + a, m_cell H00.size b cI cC (.inr (c2, fs.set k v))) (H.setIfInBounds (H00.size + a) (cell.setSlot f.slot (m_rv H00.size b v))) := by
          refine ⟨_, hc, t_OB.to (V := updV (vp_V (fs.map (m_rv H00.size b))) k (m_rv H00.size b v)) ⟨cell.setSlot f.slot (m_rv H00.size b v), ?_, q2, q3, ?_⟩ fun i _ => ?_⟩
          · have hl : H00.size + a < H.size := (Array.getElem?_eq_some_iff.mp q1).1
            simp [Array.getElem?_setIfInBounds, hl]
          · rw [hsl]
            exact t_set q4 hap hk _
          · show updV _ k _ i = vp_V ((fs.set k v).map (m_rv H00.size b)) i
            rw [List.map_set]
            exact vp_updV_set (by rw [List.length_map]; exact hkl) _ i
        have hh2 := m_hp_set (k := f.slot) hhp hg hat (by simp) (fun q hq => by simp [Array.getElem?_setIfInBounds, Ne.symm hq])
        have hfs : s.fitsSlot cell.cls cell.vm f.slot (m_rv H00.size b v) = true := by
          rw [q2, q3]
          exact hfits.2
        cases nest with
        | true => exact va_Wputf hx hb hown (va_Nw.use rfl (hnw _ (m_in_nw hw rfl))) hsame hst hfin2 q1 (by rw [q3]; exact fun h => by cases h) hlt hfits.1 hfs rfl rfl hdg (kk _ _ ls hh2 hlo)
        | false => exact W.putf hx hb hown (hts _ (m_in_tg hw rfl)) hsame hst hfin2 q1 (by rw [q3]; exact fun h => by cases h) hlt hfits.1 hfs rfl rfl hdg (kk _ _ ls hh2 hlo)
      next => cases hr
    next => cases hr
  next => cases hr
/-- a new cell -/
theorem m_hp_new {H H1 : Heap} {locs : List Loc} {n : Nat} {c1 : mC} (hh : m_hp D cI cC b H00 h H locs) (he : va_at D m_cls (H.size, m_cell H00.size b cI cC c1) H1) (z : H1.size = H.size + 1) (oq : ∀ q : Nat, q < H.size → H1[q]? = H[q]?) : m_hp D cI cC b H00 (m_new h c1 n) H1 locs := by
  obtain ⟨h1, h2, h3⟩ := hh
  refine ⟨?_, ?_, ⟨by rw [z]; exact Nat.le_succ_of_le h3.1, fun q g1 g2 => (oq q (Nat.lt_of_lt_of_le g1 h3.1)).trans (h3.2.1 q g1 g2), h3.2.2⟩⟩
  · show va_P D m_cls (m_ws H00.size b cI cC (h.1 ++ [c1])) H1
    rw [m_ws_push, ← h2]
    refine (h1.kept fun k x hx => oq x.1 ((h1 k x hx).lt)).app fun k x hx => ?_
    have hz : k < 1 := (List.getElem?_eq_some_iff.mp hx).1
    rw [show k = 0 by omega] at hx
    cases hx
    exact he
  · show H1.size = H00.size + (h.1 ++ [c1]).length
    rw [z, h2, List.length_append, List.length_singleton]
    omega
theorem m_new_len {n : Nat} {c1 : mC} : h.1.length ≤ (m_new h c1 n).1.length ∧ h.2 ≤ (m_new h c1 n).2 := by
  unfold m_new
  rw [List.length_append]
  exact ⟨Nat.le_add_right _ _, Nat.le_add_right _ _⟩
theorem m_new_len1 {n : Nat} {c1 : mC} : (m_new h c1 n).1.length - h.1.length = 1 ∧ (m_new h c1 n).2 - h.2 = n := by
  unfold m_new
  rw [List.length_append, List.length_singleton]
  exact ⟨by omega, by omega⟩
theorem sd_newa (hgo : m_SG l D cI cC b X H00 go) {ch : Bool} (hr : m_newa go ch j pc len L st h = some r) (hdg : decode (m_code j) pc = .ok (.newarray (if ch = true then .char else .int), len)) : m_at l D cI cC b X H00 j pc L st h r := by
  unfold m_newa at hr
  split at hr
  next n rest =>
    split at hr
    next h0 =>
      obtain ⟨h3, h4, h5⟩ := h0
      subst h3
      refine m_step (hgo _ _ _ _ _ _ hr) m_new_len fun p e R s m args below meth c H locs cells slots Q ls hcx hhp hlo hc1 hc2 kk => ?_
      simp only [m_new_len1.1, m_new_len1.2] at kk hc1 hc2
      obtain ⟨hx, hb, hml, hown, hts, hnw, hfr, hlo2, hK, -⟩ := hcx
      cases ch with
      | true =>
        refine va_newaK (atype := .char) hx hb (hts _ (m_sys (w := .arrayClass .char) (by simp [m_sysw]) rfl)) rfl hdg rfl h4 rfl (Nat.le_trans (Nat.mul_le_mul_right _ h5) (Nat.le_of_ble_eq_true rfl)) hc1 hc2 rfl fun H1 cA e1 z1 o1 hAr hNm => ?_
        have hcA : cA = cC := by
          have h7 : s.vm.findClass ("[" ++ (FieldType.char).toString) = some cC := (hK.2 1 _ rfl).2
          exact Option.some.inj (hNm.symm.trans h7)
        subst hcA
        have := kk H1 locs ls (m_hp_new hhp (by show H1[H.size]? = some (vp_cell _ _); rw [e1]; rfl) z1 o1) hlo
        rw [List.map_cons] at this
        rw [hhp.2.1]
        exact this
      | false =>
        refine va_newaK (atype := .int) hx hb (hts _ (m_sys (w := .arrayClass .int) (by simp [m_sysw]) rfl)) rfl hdg rfl h4 rfl (Nat.le_trans (Nat.mul_le_mul_right _ h5) (Nat.le_of_ble_eq_true rfl)) hc1 hc2 rfl fun H1 cA e1 z1 o1 hAr hNm => ?_
        have hcA : cA = cI := by
          have h7 : s.vm.findClass ("[" ++ (FieldType.int).toString) = some cI := (hK.2 0 _ rfl).2
          exact Option.some.inj (hNm.symm.trans h7)
        subst hcA
        have := kk H1 locs ls (m_hp_new hhp (by show H1[H.size]? = some (vp_cell _ _); rw [e1]; rfl) z1 o1) hlo
        rw [List.map_cons] at this
        rw [hhp.2.1]
        exact this
    next => cases hr
  next => cases hr
theorem m_dv_ok : (m_tys.all fun t => t.all fun ty => decide (defaultValue ty = .int 0) || decide (defaultValue ty = .null)) = true := by decide +kernel
theorem m_df_at {base ci : Nat} (hci : ci < m_cls.length) (i : Nat) (hi : i < (m_clsQ ci).2.2) : defaultValue (((m_tys[ci]?.getD [])[i]?).getD .int) = vp_V ((m_df ci).map (m_rv base b)) i := by
  have key : ∀ c, c < m_cls.length → (m_clsQ c).2.2 = (m_tys[c]?.getD []).length := by decide +kernel
  have hl : i < (m_tys[ci]?.getD []).length := by rw [← key ci hci]; exact hi
  unfold vp_V m_df
  rw [List.getD_eq_getElem?_getD, List.getElem?_map, List.getElem?_map, List.getElem?_eq_getElem hl]
  show defaultValue _ = m_rv base b (defaultValue _)
  have hm : (m_tys[ci]?.getD [])[i] ∈ m_tys[ci]?.getD [] := List.getElem_mem hl
  have hm2 : m_tys[ci]?.getD [] ∈ m_tys := by
    have hc : ci < m_tys.length := hci
    rw [List.getElem?_eq_getElem hc]
    exact List.getElem_mem hc
  have h1 := List.all_eq_true.mp (List.all_eq_true.mp m_dv_ok _ hm2) _ hm
  simp only [Bool.or_eq_true, decide_eq_true_eq] at h1
  show defaultValue ((m_tys[ci]?.getD [])[i]) = m_rv base b (defaultValue ((m_tys[ci]?.getD [])[i]))
  rcases h1 with h1 | h1 <;> rw [h1] <;> rfl
theorem sd_newo (hgo : m_SG l D cI cC b X H00 go) {idx : Nat} (hr : m_newo go j pc len idx L st h = some r) (hdg : decode (m_code j) pc = .ok (.new idx, len)) : m_at l D cI cC b X H00 j pc L st h r := by
  unfold m_newo at hr
  split at hr
  next e ci hf =>
    split at hr
    next h3 =>
      subst h3
      obtain ⟨rfl, hci, hw⟩ := m_findK_ok hf
      refine m_step (hgo _ _ _ _ _ _ hr) m_new_len fun p e2 R s m args below meth c H locs cells slots Q ls hcx hhp hlo hc1 hc2 kk => ?_
      simp only [m_new_len1.1, m_new_len1.2] at kk hc1 hc2
      obtain ⟨hx, hb, hml, hown, hts, hnw, hfr, hlo2, hK, -⟩ := hcx
      have hc := m_cls_at hci
      have hKn := hK.1 ci _ hc
      refine W.newcK hx hb hown (hts _ (m_in_tg (hw (.classLink (m_ownS (m_own j)) e (m_clsQ ci).1) (by simp [m_kw])) rfl)) (hts _ (m_in_tg (hw (.instantiable (m_clsQ ci).1 (m_clsQ ci).2.2) (by simp [m_kw])) rfl)) (hts _ (m_in_tg (hw (.initialized (m_clsQ ci).1) (by simp [m_kw])) rfl)) rfl hdg hc1 hc2 hKn.2.1 rfl fun H1 kC hkC e1 z1 o1 => ?_
      have hat : va_at D m_cls (H.size, m_cell H00.size b cI cC (.inr (ci, m_df ci))) H1 := by
        refine ⟨_, hc, (u_born (fun k => ((m_tys[ci]?.getD [])[k]?).getD .int) hts (m_lay_in hci) hKn hkC e1 (m_ty_of hci)).to fun i hi => ?_⟩
        exact m_df_at hci i hi
      have := kk H1 locs ls (m_hp_new hhp hat z1 o1) hlo
      rw [List.map_cons] at this
      rw [hhp.2.1]
      exact this
    next => cases hr
  next => cases hr
end SNF
