/-! One instruction after the other: what the small machine does, the real one does. -/
section SND
variable {l : Launch} {D : va_G} {cI cC : ClassId} {b : Nat} {X : mX} {H00 : Heap} {go : mG} {j pc len : Nat} {L : mL} {st : List Value} {h : mH} {r : mR}
theorem sd_jump (hgo : m_SG l D cI cC b X H00 go) {off : Int} (hr : m_jump go j pc off L st h = some r) : ∃ tgt : Nat, (pc : Int) + off = (tgt : Int) ∧ m_at l D cI cC b X H00 j tgt L st h r := by
  unfold m_jump at hr
  split at hr
  next h0 => exact ⟨_, (Int.toNat_of_nonneg h0).symm, hgo _ _ _ _ _ _ hr⟩
  next => cases hr
theorem sd_load (hgo : m_SG l D cI cC b X H00 go) {q : Value → Bool} {want i : Nat} (hr : m_load go q j pc len want i L st h = some r) : len = want ∧ ∃ v, m_ldl L i = some v ∧ q v = true ∧ m_at l D cI cC b X H00 j (pc + want) L (v :: st) h r := by
  unfold m_load at hr
  split at hr
  next h0 =>
    split at hr
    next v hv =>
      split at hr
      next hq => exact ⟨h0, v, hv, hq, hgo _ _ _ _ _ _ hr⟩
      next => cases hr
    next => cases hr
  next => cases hr
theorem sd_iload_n (hgo : m_SG l D cI cC b X H00 go) {n : Fin 4} (hr : m_load go m_isint j pc len 1 n.val L st h = some r) (hdg : decode (m_code j) pc = .ok (.iload_n n, len)) : m_at l D cI cC b X H00 j pc L st h r := by
  obtain ⟨rfl, v, hv, hq, hB⟩ := sd_load hgo hr
  obtain ⟨x, rfl, -⟩ := m_isint_rv (base := 0) (b := 0) hq
  refine m_stepS hB fun p e R s m args below meth c H locs cells slots Q ls hcx hhp hlo _ _ kk => ?_
  obtain ⟨hx, hb, -⟩ := hcx
  exact lv_iload_n hx hb hdg rfl (hlo.2.2 _ _ (m_ldl_at hv)).2 (kk ls hlo)
theorem sd_iload (hgo : m_SG l D cI cC b X H00 go) {n : Nat} (hr : m_load go m_isint j pc len 2 n L st h = some r) (hdg : decode (m_code j) pc = .ok (.iload n, len)) : m_at l D cI cC b X H00 j pc L st h r := by
  obtain ⟨rfl, v, hv, hq, hB⟩ := sd_load hgo hr
  obtain ⟨x, rfl, -⟩ := m_isint_rv (base := 0) (b := 0) hq
  refine m_stepS hB fun p e R s m args below meth c H locs cells slots Q ls hcx hhp hlo _ _ kk => ?_
  obtain ⟨hx, hb, -⟩ := hcx
  exact lv_iload hx hb hdg (hlo.2.2 _ _ (m_ldl_at hv)).2 (kk ls hlo)
theorem sd_aload_n (hgo : m_SG l D cI cC b X H00 go) {n : Fin 4} (hr : m_load go m_isref j pc len 1 n.val L st h = some r) (hdg : decode (m_code j) pc = .ok (.aload_n n, len)) : m_at l D cI cC b X H00 j pc L st h r := by
  obtain ⟨rfl, v, hv, hq, hB⟩ := sd_load hgo hr
  obtain ⟨a, ha⟩ := m_isref_rv (base := H00.size) (b := b) hq
  refine m_stepS hB fun p e R s m args below meth c H locs cells slots Q ls hcx hhp hlo _ _ kk => ?_
  obtain ⟨hx, hb, -⟩ := hcx
  refine lv_aload_n hx hb hdg rfl (x := a) (by rw [← ha]; exact (hlo.2.2 _ _ (m_ldl_at hv)).2) ?_
  rw [← ha]
  exact kk ls hlo
theorem sd_aload (hgo : m_SG l D cI cC b X H00 go) {n : Nat} (hr : m_load go m_isref j pc len 2 n L st h = some r) (hdg : decode (m_code j) pc = .ok (.aload n, len)) : m_at l D cI cC b X H00 j pc L st h r := by
  obtain ⟨rfl, v, hv, hq, hB⟩ := sd_load hgo hr
  obtain ⟨a, ha⟩ := m_isref_rv (base := H00.size) (b := b) hq
  refine m_stepS hB fun p e R s m args below meth c H locs cells slots Q ls hcx hhp hlo _ _ kk => ?_
  obtain ⟨hx, hb, -⟩ := hcx
  refine lv_aload hx hb hdg (x := a) (by rw [← ha]; exact (hlo.2.2 _ _ (m_ldl_at hv)).2) ?_
  rw [← ha]
  exact kk ls hlo
theorem sd_store (hgo : m_SG l D cI cC b X H00 go) {q : Value → Bool} {want i : Nat} (hr : m_store go q j pc len want i L st h = some r) : len = want ∧ ∃ v rest, st = v :: rest ∧ q v = true ∧ i < L.length ∧ m_at l D cI cC b X H00 j (pc + want) (L.set i (some v)) rest h r := by
  unfold m_store at hr
  split at hr
  next h0 =>
    split at hr
    next v rest =>
      split at hr
      next hq => exact ⟨h0, v, rest, rfl, hq.1, hq.2, hgo _ _ _ _ _ _ hr⟩
      next => cases hr
    next => cases hr
  next => cases hr
theorem sd_istore_n (hgo : m_SG l D cI cC b X H00 go) {n : Fin 4} (hr : m_store go m_isint j pc len 1 n.val L st h = some r) (hdg : decode (m_code j) pc = .ok (.istore_n n, len)) : m_at l D cI cC b X H00 j pc L st h r := by
  obtain ⟨rfl, v, rest, rfl, hq, hi, hB⟩ := sd_store hgo hr
  obtain ⟨x, rfl, -⟩ := m_isint_rv (base := 0) (b := 0) hq
  refine m_stepS hB fun p e R s m args below meth c H locs cells slots Q ls hcx hhp hlo _ _ kk => ?_
  obtain ⟨hx, hb, -⟩ := hcx
  exact lv_istore_n hx hb hdg rfl (m_lo_has hlo) (by rw [← hlo.1]; exact hi) rfl fun ls' hl => kk ls' (m_lo_set hlo rfl hl)
theorem sd_istore (hgo : m_SG l D cI cC b X H00 go) {n : Nat} (hr : m_store go m_isint j pc len 2 n L st h = some r) (hdg : decode (m_code j) pc = .ok (.istore n, len)) : m_at l D cI cC b X H00 j pc L st h r := by
  obtain ⟨rfl, v, rest, rfl, hq, hi, hB⟩ := sd_store hgo hr
  obtain ⟨x, rfl, -⟩ := m_isint_rv (base := 0) (b := 0) hq
  refine m_stepS hB fun p e R s m args below meth c H locs cells slots Q ls hcx hhp hlo _ _ kk => ?_
  obtain ⟨hx, hb, -⟩ := hcx
  exact lv_istore hx hb hdg (m_lo_has hlo) (by rw [← hlo.1]; exact hi) rfl fun ls' hl => kk ls' (m_lo_set hlo rfl hl)
theorem sd_astore_n (hgo : m_SG l D cI cC b X H00 go) {n : Fin 4} (hr : m_store go m_isref j pc len 1 n.val L st h = some r) (hdg : decode (m_code j) pc = .ok (.astore_n n, len)) : m_at l D cI cC b X H00 j pc L st h r := by
  obtain ⟨rfl, v, rest, rfl, hq, hi, hB⟩ := sd_store hgo hr
  obtain ⟨a, ha⟩ := m_isref_rv (base := H00.size) (b := b) hq
  refine m_stepS hB fun p e R s m args below meth c H locs cells slots Q ls hcx hhp hlo _ _ kk => ?_
  obtain ⟨hx, hb, -⟩ := hcx
  rw [List.map_cons, ha]
  exact lv_astore_n hx hb hdg rfl (m_lo_has hlo) (by rw [← hlo.1]; exact hi) rfl fun ls' hl => kk ls' (m_lo_set hlo (m_isref_c1 hq) (by rw [ha]; exact hl))
theorem sd_astore (hgo : m_SG l D cI cC b X H00 go) {n : Nat} (hr : m_store go m_isref j pc len 2 n L st h = some r) (hdg : decode (m_code j) pc = .ok (.astore n, len)) : m_at l D cI cC b X H00 j pc L st h r := by
  obtain ⟨rfl, v, rest, rfl, hq, hi, hB⟩ := sd_store hgo hr
  obtain ⟨a, ha⟩ := m_isref_rv (base := H00.size) (b := b) hq
  refine m_stepS hB fun p e R s m args below meth c H locs cells slots Q ls hcx hhp hlo _ _ kk => ?_
  obtain ⟨hx, hb, -⟩ := hcx
  rw [List.map_cons, ha]
  exact lv_astore hx hb hdg (m_lo_has hlo) (by rw [← hlo.1]; exact hi) rfl fun ls' hl => kk ls' (m_lo_set hlo (m_isref_c1 hq) (by rw [ha]; exact hl))
theorem sd_push (hgo : m_SG l D cI cC b X H00 go) {want : Nat} {v : Int32} (hr : m_push go j pc len want v L st h = some r) : len = want ∧ m_at l D cI cC b X H00 j (pc + want) L (.int v :: st) h r := by
  unfold m_push at hr
  split at hr
  next h0 => exact ⟨h0, hgo _ _ _ _ _ _ hr⟩
  next => cases hr
theorem sd_iconst (hgo : m_SG l D cI cC b X H00 go) {n : Int} (hr : m_push go j pc len 1 (Int32.ofInt n) L st h = some r) (hdg : decode (m_code j) pc = .ok (.iconst n, len)) : m_at l D cI cC b X H00 j pc L st h r := by
  obtain ⟨rfl, hB⟩ := sd_push hgo hr
  refine m_stepS hB fun p e R s m args below meth c H locs cells slots Q ls hcx hhp hlo _ _ kk => ?_
  exact lv_iconst hcx.1 hcx.2.1 hdg rfl (kk ls hlo)
theorem sd_bipush (hgo : m_SG l D cI cC b X H00 go) {n : Int} (hr : m_push go j pc len 2 (Int8.ofInt n).toInt32 L st h = some r) (hdg : decode (m_code j) pc = .ok (.bipush n, len)) : m_at l D cI cC b X H00 j pc L st h r := by
  obtain ⟨rfl, hB⟩ := sd_push hgo hr
  refine m_stepS hB fun p e R s m args below meth c H locs cells slots Q ls hcx hhp hlo _ _ kk => ?_
  exact lv_bipush hcx.1 hcx.2.1 hdg rfl (kk ls hlo)
theorem sd_sipush (hgo : m_SG l D cI cC b X H00 go) {n : Int} (hr : m_push go j pc len 3 (Int16.ofInt n).toInt32 L st h = some r) (hdg : decode (m_code j) pc = .ok (.sipush n, len)) : m_at l D cI cC b X H00 j pc L st h r := by
  obtain ⟨rfl, hB⟩ := sd_push hgo hr
  refine m_stepS hB fun p e R s m args below meth c H locs cells slots Q ls hcx hhp hlo _ _ kk => ?_
  exact lv_sipush hcx.1 hcx.2.1 hdg rfl (kk ls hlo)
theorem sd_ldcw (hgo : m_SG l D cI cC b X H00 go) {idx e : Nat} {v : Int32} (hf : m_findC (m_own j) idx = some (e, v)) (hr : m_push go j pc len 3 v L st h = some r) (hdg : decode (m_code j) pc = .ok (.ldc_w idx, len)) : m_at l D cI cC b X H00 j pc L st h r := by
  obtain ⟨rfl, hB⟩ := sd_push hgo hr
  refine m_stepS hB fun p e R s m args below meth c H locs cells slots Q ls hcx hhp hlo _ _ kk => ?_
  obtain ⟨hx, hb, -, hown, hts, -⟩ := hcx
  exact lv_ldcw hx hb hown (hts _ (m_in_tg (m_findC_ok hf).2 rfl)) hdg (kk ls hlo)
theorem sd_ldc (hgo : m_SG l D cI cC b X H00 go) {idx e : Nat} {v : Int32} (hf : m_findC (m_own j) idx = some (e, v)) (hr : m_push go j pc len 2 v L st h = some r) (hdg : decode (m_code j) pc = .ok (.ldc idx, len)) : m_at l D cI cC b X H00 j pc L st h r := by
  obtain ⟨rfl, hB⟩ := sd_push hgo hr
  refine m_stepS hB fun p e R s m args below meth c H locs cells slots Q ls hcx hhp hlo _ _ kk => ?_
  obtain ⟨hx, hb, -, hown, hts, -⟩ := hcx
  exact lv_ldc hx hb hown (hts _ (m_in_tg (m_findC_ok hf).2 rfl)) hdg (kk ls hlo)
theorem sd_bin (hgo : m_SG l D cI cC b X H00 go) {f : Int32 → Int32 → Int32} {ok : Int32 → Bool} (hr : m_bin go j pc len f ok L st h = some r)
    (hrow : ∀ (x y : Int32) (rest : List Value), len = 1 → ok y = true → ∀ (p : Program) (e : Env) (R : Room) (s : State) (m : MethodId) (args : Array Value) (below : List Frame) (meth : Method) (c : Code) (H : Heap) (locs : List Loc) (cells slots : Nat) (Q : State → Prop) (ls : Array Slot),
      p.tables.exec = Jvm.exec → c.code = m_code j → W p l e R s m args below meth c H locs cells slots Q (F0 m (pc + 1) ls (.int (f x y) :: rest)) → W p l e R s m args below meth c H locs cells slots Q (F0 m pc ls (.int y :: .int x :: rest))) :
    m_at l D cI cC b X H00 j pc L st h r := by
  unfold m_bin at hr
  split at hr
  next y x rest =>
    split at hr
    next h0 =>
      refine m_stepS (hgo _ _ _ _ _ _ hr) fun p e R s m args below meth c H locs cells slots Q ls hcx hhp hlo _ _ kk => ?_
      exact hrow x y _ h0.1 h0.2 p e R s m args below meth c H locs cells slots Q ls hcx.1 hcx.2.1 (kk ls hlo)
    next => cases hr
  next => cases hr
theorem sd_i2c (hgo : m_SG l D cI cC b X H00 go) {x : Int32} {rest : List Value} (h1 : len = 1) (hr : go j (pc + 1) L (.int (x.toUInt32 % 65536).toInt32 :: rest) h = some r) (hdg : decode (m_code j) pc = .ok (.i2c, len)) : m_at l D cI cC b X H00 j pc L (.int x :: rest) h r := by
  subst h1
  refine m_stepS (hgo _ _ _ _ _ _ hr) fun p e R s m args below meth c H locs cells slots Q ls hcx hhp hlo _ _ kk => ?_
  exact lv_i2c hcx.1 hcx.2.1 hdg rfl (kk ls hlo)
theorem sd_iinc (hgo : m_SG l D cI cC b X H00 go) {i : Nat} {n : Int} (hr : m_iinc go j pc len i n L st h = some r) (hdg : decode (m_code j) pc = .ok (.iinc i n, len)) : m_at l D cI cC b X H00 j pc L st h r := by
  unfold m_iinc at hr
  split at hr
  next x hx0 =>
    split at hr
    next h0 =>
      obtain ⟨rfl, hi⟩ := h0
      refine m_stepS (hgo _ _ _ _ _ _ hr) fun p e R s m args below meth c H locs cells slots Q ls hcx hhp hlo _ _ kk => ?_
      have hm : (i, m_rv H00.size b (.int x)) ∈ m_ll H00.size b L := m_ll_mem.mpr ⟨_, m_ldl_at hx0, rfl⟩
      obtain ⟨k, hk⟩ := List.getElem?_of_mem hm
      exact lv_iinc hcx.1 hcx.2.1 hdg (m_lo_has hlo) hk rfl (by rw [← hlo.1]; exact hi) rfl fun ls' hl => kk ls' (m_lo_set hlo rfl hl)
    next => cases hr
  next => cases hr
theorem sd_goto (hgo : m_SG l D cI cC b X H00 go) {off : Int} (h1 : len = 3) (hr : m_jump go j pc off L st h = some r) (hdg : decode (m_code j) pc = .ok (.goto off, len)) : m_at l D cI cC b X H00 j pc L st h r := by
  subst h1
  obtain ⟨tgt, ht, hB⟩ := sd_jump hgo hr
  refine m_stepS hB fun p e R s m args below meth c H locs cells slots Q ls hcx hhp hlo _ _ kk => ?_
  exact lv_goto hcx.1 hcx.2.1 hdg ht (kk ls hlo)
theorem sd_cond (hgo : m_SG l D cI cC b X H00 go) {st0 : List Value} {t : Bool} {off : Int} (hr : m_cond go j pc len t off L st h = some r)
    (hrow : len = 3 → ∀ tgt : Nat, (pc : Int) + off = (tgt : Int) → ∀ (p : Program) (e : Env) (R : Room) (s : State) (m : MethodId) (args : Array Value) (below : List Frame) (meth : Method) (c : Code) (H : Heap) (locs : List Loc) (cells slots : Nat) (Q : State → Prop) (ls : Array Slot),
      p.tables.exec = Jvm.exec → c.code = m_code j → (t = true → W p l e R s m args below meth c H locs cells slots Q (F0 m tgt ls (st.map (m_rv H00.size b)))) → (t = false → W p l e R s m args below meth c H locs cells slots Q (F0 m (pc + 3) ls (st.map (m_rv H00.size b)))) → W p l e R s m args below meth c H locs cells slots Q (F0 m pc ls (st0.map (m_rv H00.size b)))) :
    m_at l D cI cC b X H00 j pc L st0 h r := by
  unfold m_cond at hr
  split at hr
  next h0 =>
    obtain ⟨h0, h1⟩ := h0
    have htg : (pc : Int) + off = ((((pc : Int) + off).toNat : Nat) : Int) := (Int.toNat_of_nonneg h1).symm
    split at hr
    next ht =>
      refine m_stepS (hgo _ _ _ _ _ _ hr) fun p e R s m args below meth c H locs cells slots Q ls hcx hhp hlo _ _ kk => ?_
      exact hrow h0 _ htg p e R s m args below meth c H locs cells slots Q ls hcx.1 hcx.2.1 (fun _ => kk ls hlo) (fun q => absurd (ht.symm.trans q) (by decide))
    next ht =>
      have ht' : t = false := by simpa using ht
      refine m_stepS (hgo _ _ _ _ _ _ hr) fun p e R s m args below meth c H locs cells slots Q ls hcx hhp hlo _ _ kk => ?_
      exact hrow h0 _ htg p e R s m args below meth c H locs cells slots Q ls hcx.1 hcx.2.1 (fun q => absurd (ht'.symm.trans q) (by decide)) (fun _ => kk ls hlo)
  next => cases hr
end SND
