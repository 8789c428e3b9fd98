/-! The small machine's heap and locals, as they stand in the real one. -/
def m_rv (base b : Nat) : Value → Value
  | .ref i => .ref (base + i)
  | .float _ => .ref b
  | v => v
def m_cell (base b : Nat) (cI cC : ClassId) : mC → va_E
  | .inl (ch, n, f) => .inl ((if ch = true then cC else cI), n, .inl f)
  | .inr (ci, fs) => .inr (ci, fs.map (m_rv base b))
def m_ws (base b : Nat) (cI cC : ClassId) (h : List mC) : va_W := h.zipIdx.map (fun p => (base + p.2, m_cell base b cI cC p.1))
theorem m_ws_get {base b : Nat} {cI cC : ClassId} {h : List mC} (a : Nat) : (m_ws base b cI cC h)[a]? = (h[a]?).map (fun c => (base + a, m_cell base b cI cC c)) := by
  simp only [m_ws, List.getElem?_map, List.getElem?_zipIdx, Option.map_map]
  congr 1
  funext c
  simp
theorem m_ws_len {base b : Nat} {cI cC : ClassId} {h : List mC} : (m_ws base b cI cC h).length = h.length := by simp [m_ws]
theorem m_ws_set {base b : Nat} {cI cC : ClassId} {h : List mC} {a : Nat} {c : mC} : m_ws base b cI cC (h.set a c) = (m_ws base b cI cC h).set a (base + a, m_cell base b cI cC c) := by
  apply List.ext_getElem?
  intro k
  rw [List.getElem?_set, m_ws_get, m_ws_get, List.getElem?_set, m_ws_len]
  by_cases hk : a = k
  · subst hk
    by_cases hl : a < h.length
    · simp [hl]
    · simp [hl]
  · simp [hk]
theorem m_ws_push {base b : Nat} {cI cC : ClassId} {h : List mC} {c : mC} : m_ws base b cI cC (h ++ [c]) = m_ws base b cI cC h ++ [(base + h.length, m_cell base b cI cC c)] := by
  simp [m_ws, List.zipIdx_append]
abbrev m_A (base : Nat) : Nat → Prop := fun q => base ≤ q
theorem m_ws_D {base b : Nat} {cI cC : ClassId} {h : List mC} : va_D (m_A base) (m_ws base b cI cC h) := by
  have key : ∀ (k : Nat) (q : Nat × va_E), (m_ws base b cI cC h)[k]? = some q → q.1 = base + k := by
    intro k q hq
    rw [m_ws_get] at hq
    cases hk : h[k]? with
    | none => rw [hk] at hq; cases hq
    | some c => rw [hk] at hq; cases hq; rfl
  refine ⟨fun i j p q hp hq hpq => ?_, fun k q hq => ?_⟩
  · rw [key i p hp, key j q hq] at hpq
    omega
  · rw [key k q hq]
    exact Nat.le_add_right _ _
def m_hp (D : va_G) (cI cC : ClassId) (b : Nat) (H00 : Heap) (h : mH) (H : Heap) (locs : List Loc) : Prop :=
  va_P D m_cls (m_ws H00.size b cI cC h.1) H ∧ H.size = H00.size + h.1.length ∧ va_S (m_A H00.size) H00 H locs
def m_lo (base b nL : Nat) (ls : Array Slot) (L : mL) : Prop :=
  L.length = nL ∧ lv_has ls nL [] ∧ ∀ (i : Nat) (v : Value), L[i]? = some (some v) → m_c1 v = true ∧ ls[i]? = some (.val (m_rv base b v))
theorem m_ldl_at {L : mL} {i : Nat} {v : Value} (h : m_ldl L i = some v) : L[i]? = some (some v) := by
  unfold m_ldl at h
  split at h
  next w hw => cases h; exact hw
  next => cases h
theorem m_c1_cat {base b : Nat} {v : Value} (h : m_c1 v = true) : (m_rv base b v).category = 1 := by
  cases v <;> first | rfl | (simp [m_c1] at h)
theorem m_isref_c1 {v : Value} (h : m_isref v = true) : m_c1 v = true := by
  cases v <;> first | rfl | (simp [m_isref] at h)
theorem m_isint_c1 {v : Value} (h : m_isint v = true) : m_c1 v = true := by
  cases v <;> first | rfl | (simp [m_isint] at h)
theorem m_isref_rv {base b : Nat} {v : Value} (h : m_isref v = true) : ∃ a, m_rv base b v = .ref a := by
  cases v <;> first | exact ⟨_, rfl⟩ | (simp [m_isref] at h)
theorem m_isint_rv {base b : Nat} {v : Value} (h : m_isint v = true) : ∃ x, v = .int x ∧ m_rv base b v = .int x := by
  cases v <;> first | exact ⟨_, rfl, rfl⟩ | (simp [m_isint] at h)
/-- the locals as a list of places and values -/
def m_ll (base b : Nat) (L : mL) : List (Nat × Value) := (List.range L.length).filterMap (fun i => (m_ldl L i).map (fun v => (i, m_rv base b v)))
theorem m_ldl_of {L : mL} {i : Nat} {v : Value} (h : L[i]? = some (some v)) : m_ldl L i = some v := by
  unfold m_ldl
  rw [h]
theorem m_ll_mem {base b : Nat} {L : mL} {q : Nat × Value} : q ∈ m_ll base b L ↔ ∃ v, L[q.1]? = some (some v) ∧ q.2 = m_rv base b v := by
  unfold m_ll
  rw [List.mem_filterMap]
  constructor
  · rintro ⟨i, -, hi⟩
    cases hv : m_ldl L i with
    | none => rw [hv] at hi; cases hi
    | some v =>
      rw [hv] at hi
      cases hi
      exact ⟨v, m_ldl_at hv, rfl⟩
  · rintro ⟨v, h1, h2⟩
    refine ⟨q.1, List.mem_range.mpr (List.getElem?_eq_some_iff.mp h1).1, ?_⟩
    rw [m_ldl_of h1]
    show some (q.1, m_rv base b v) = some q
    rw [← h2]
theorem m_lo_has {base b nL : Nat} {ls : Array Slot} {L : mL} (h : m_lo base b nL ls L) : lv_has ls nL (m_ll base b L) := by
  obtain ⟨-, ⟨h1, h2, -⟩, h3⟩ := h
  refine ⟨h1, h2, fun q hq => ?_⟩
  obtain ⟨v, e1, e2⟩ := m_ll_mem.mp hq
  rw [e2]
  exact (h3 _ _ e1).2
/-- behind a store -/
theorem m_lo_set {base b nL i : Nat} {ls ls' : Array Slot} {L : mL} {v : Value} (h : m_lo base b nL ls L) (hv : m_c1 v = true)
    (h' : lv_has ls' nL ((i, m_rv base b v) :: (m_ll base b L).filter (fun q => !(q.1 == i) && !(q.1 + 1 == i && q.2.category == 2)))) : m_lo base b nL ls' (L.set i (some v)) := by
  obtain ⟨h0, -, h3⟩ := h
  refine ⟨by rw [List.length_set]; exact h0, ⟨h'.1, h'.2.1, fun q hq => by cases hq⟩, fun k w hk => ?_⟩
  rw [List.getElem?_set] at hk
  by_cases hik : i = k
  · subst hik
    rw [if_pos rfl] at hk
    by_cases hl : i < L.length
    · rw [if_pos hl] at hk
      cases hk
      exact ⟨hv, h'.2.2 (i, m_rv base b v) List.mem_cons_self⟩
    · rw [if_neg hl] at hk
      cases hk
  · rw [if_neg hik] at hk
    obtain ⟨g1, g2⟩ := h3 k w hk
    refine ⟨g1, h'.2.2 (k, m_rv base b w) (List.mem_cons_of_mem _ (List.mem_filter.mpr ⟨m_ll_mem.mpr ⟨w, hk, rfl⟩, ?_⟩))⟩
    have hc := m_c1_cat (base := base) (b := b) g1
    simp [hc, Ne.symm hik]
theorem m_cats {base b : Nat} {vs : List Value} (h : vs.all m_c1 = true) : ((vs.map (m_rv base b)).map fun v => v.category).sum = vs.length := by
  induction vs with
  | nil => rfl
  | cons v vs ih =>
    simp only [List.all_cons, Bool.and_eq_true] at h
    simp only [List.map_cons, List.sum_cons, List.length_cons]
    rw [ih h.2, m_c1_cat h.1]
    omega
theorem m_lg {base b : Nat} {vs : List Value} (h : vs.all m_c1 = true) : lg_sl (vs.map (m_rv base b)) = vs.map (fun v => Slot.val (m_rv base b v)) := by
  induction vs with
  | nil => rfl
  | cons v vs ih =>
    simp only [List.all_cons, Bool.and_eq_true] at h
    have hc := m_c1_cat (base := base) (b := b) h.1
    have e := ih h.2
    unfold lg_sl at e ⊢
    rw [List.map_cons, List.flatMap_cons, e, if_neg (by rw [hc]; decide)]
    rfl
theorem m_entry_lo {base b j : Nat} {as : List Value} (h : as.all m_c1 = true) (hn : as.length ≤ m_nl j) :
    m_lo base b (m_nl j) ((lg_sl (as.map (m_rv base b)) ++ List.replicate (m_nl j - (lg_sl (as.map (m_rv base b))).length) Slot.unset).toArray) (m_entry j as) := by
  have hlen : (lg_sl (as.map (m_rv base b))).length = as.length := by rw [m_lg h, List.length_map]
  have hl := lv_entry (as.map (m_rv base b)) (n := m_nl j) (by rw [hlen]; exact hn)
  refine ⟨by simp [m_entry]; omega, ⟨hl.1, hl.2.1, fun q hq => by cases hq⟩, fun i v hv => ?_⟩
  unfold m_entry at hv
  by_cases hi : i < as.length
  · rw [List.getElem?_append_left (by rw [List.length_map]; exact hi), List.getElem?_map] at hv
    have hv2 : as[i]? = some v := by
      cases ha : as[i]? with
      | none => rw [ha] at hv; cases hv
      | some w => rw [ha] at hv; cases hv; rfl
    refine ⟨List.all_eq_true.mp h v (List.mem_of_getElem? hv2), ?_⟩
    rw [List.getElem?_toArray, List.getElem?_append_left (by rw [hlen]; exact hi), m_lg h, List.getElem?_map, hv2]
    rfl
  · rw [List.getElem?_append_right (by rw [List.length_map]; omega)] at hv
    rw [List.getElem?_replicate] at hv
    split at hv <;> cases hv
/-- the context of a method's body -/
def m_cx (D : va_G) (cI cC : ClassId) (b : Nat) (X : mX) (H00 : Heap) (p : Program) (R : Room) (s : State) (m : MethodId) (args : Array Value) (meth : Method) (c : Code) (j : Nat) : Prop :=
  p.tables.exec = Jvm.exec ∧ c.code = m_code j ∧ c.maxLocals = m_nl j ∧ s.vm.findClass (m_ownS (m_own j)) = some m.cls ∧ (∀ w ∈ m_tg, w.before args s = true) ∧ (∀ w ∈ m_nw, va_Nw w s) ∧
  m_fr j ≤ R.frames ∧ 28 * m_fr j + 18 ≤ R.locals ∧ va_K D m_cls [(cI, .int), (cC, .char)] s ∧ va_X b X.1 X.2 s H00 ∧ b < H00.size ∧ ((m_y j).name = "<init>" → meth.name = "<init>")
/-- a return's instruction, by the answer -/
def m_rok (j pc : Nat) (v : Option Value) : Prop :=
  match v with
  | some (.int x) => decode (m_code j) pc = .ok (.ireturn, 1) ∧ (m_ret j = some .int ∨ (m_ret j = some .boolean ∧ (x = 0 ∨ x = 1)))
  | some (.ref _) => decode (m_code j) pc = .ok (.areturn, 1) ∧ m_ret j = some (.array .int)
  | none => decode (m_code j) pc = .ok (.return_, 1) ∧ m_ret j = none
  | _ => False
def m_at (l : Launch) (D : va_G) (cI cC : ClassId) (b : Nat) (X : mX) (H00 : Heap) (j pc : Nat) (L : mL) (st : List Value) (h : mH) (r : mR) : Prop :=
  h.1.length ≤ r.2.1.length ∧ h.2 ≤ r.2.2 ∧
  ∀ (p : Program) (e : Env) (R : Room) (s : State) (m : MethodId) (args : Array Value) (below : List Frame) (meth : Method) (c : Code) (H : Heap) (locs : List Loc) (cells slots : Nat) (Q : State → Prop) (ls : Array Slot) (n0 z0 : Nat),
    m_cx D cI cC b X H00 p R s m args meth c j → m_hp D cI cC b H00 h H locs → m_lo H00.size b (m_nl j) ls L →
    cells + n0 = h.1.length → slots + z0 = h.2 → r.2.1.length ≤ n0 + R.cells → r.2.2 ≤ z0 + R.slots →
    (∀ (H' : Heap) (locs' : List Loc) (cells' slots' : Nat) (ls' : Array Slot) (pc' : Nat), cells' + n0 = r.2.1.length → slots' + z0 = r.2.2 → m_hp D cI cC b H00 r.2 H' locs' → m_rok j pc' r.1 →
      W p l e R s m args below meth c H' locs' cells' slots' Q (F0 m pc' ls' (r.1.toList.map (m_rv H00.size b)))) →
    W p l e R s m args below meth c H locs cells slots Q (F0 m pc ls (st.map (m_rv H00.size b)))
def m_SG (l : Launch) (D : va_G) (cI cC : ClassId) (b : Nat) (X : mX) (H00 : Heap) (go : mG) : Prop :=
  ∀ (j pc : Nat) (L : mL) (st : List Value) (h : mH) (r : mR), go j pc L st h = some r → m_at l D cI cC b X H00 j pc L st h r
/-- one instruction ahead of a state that is sound -/
theorem m_step {l : Launch} {D : va_G} {cI cC : ClassId} {b : Nat} {X : mX} {H00 : Heap} {j pc pc2 : Nat} {L L2 : mL} {st st2 : List Value} {h h2 : mH} {r : mR} (hB : m_at l D cI cC b X H00 j pc2 L2 st2 h2 r) (hle : h.1.length ≤ h2.1.length ∧ h.2 ≤ h2.2)
    (hstep : ∀ (p : Program) (e : Env) (R : Room) (s : State) (m : MethodId) (args : Array Value) (below : List Frame) (meth : Method) (c : Code) (H : Heap) (locs : List Loc) (cells slots : Nat) (Q : State → Prop) (ls : Array Slot),
      m_cx D cI cC b X H00 p R s m args meth c j → m_hp D cI cC b H00 h H locs → m_lo H00.size b (m_nl j) ls L → cells + (h2.1.length - h.1.length) ≤ R.cells → slots + (h2.2 - h.2) ≤ R.slots →
      (∀ (H' : Heap) (locs' : List Loc) (ls' : Array Slot), m_hp D cI cC b H00 h2 H' locs' → m_lo H00.size b (m_nl j) ls' L2 → W p l e R s m args below meth c H' locs' (cells + (h2.1.length - h.1.length)) (slots + (h2.2 - h.2)) Q (F0 m pc2 ls' (st2.map (m_rv H00.size b)))) →
      W p l e R s m args below meth c H locs cells slots Q (F0 m pc ls (st.map (m_rv H00.size b)))) : m_at l D cI cC b X H00 j pc L st h r := by
  obtain ⟨b1, b2, bW⟩ := hB
  refine ⟨Nat.le_trans hle.1 b1, Nat.le_trans hle.2 b2, ?_⟩
  intro p e R s m args below meth c H locs cells slots Q ls n0 z0 hcx hhp hlo e1 e2 e3 e4 hret
  refine hstep p e R s m args below meth c H locs cells slots Q ls hcx hhp hlo (by omega) (by omega) fun H' locs' ls' hhp' hlo' => ?_
  exact bW p e R s m args below meth c H' locs' _ _ Q ls' n0 z0 hcx hhp' hlo' (by omega) (by omega) e3 e4 hret
/-- ... that leaves the heap -/
theorem m_stepS {l : Launch} {D : va_G} {cI cC : ClassId} {b : Nat} {X : mX} {H00 : Heap} {j pc pc2 : Nat} {L L2 : mL} {st st2 : List Value} {h : mH} {r : mR} (hB : m_at l D cI cC b X H00 j pc2 L2 st2 h r)
    (hstep : ∀ (p : Program) (e : Env) (R : Room) (s : State) (m : MethodId) (args : Array Value) (below : List Frame) (meth : Method) (c : Code) (H : Heap) (locs : List Loc) (cells slots : Nat) (Q : State → Prop) (ls : Array Slot),
      m_cx D cI cC b X H00 p R s m args meth c j → m_hp D cI cC b H00 h H locs → m_lo H00.size b (m_nl j) ls L → cells ≤ R.cells → slots ≤ R.slots →
      (∀ (ls' : Array Slot), m_lo H00.size b (m_nl j) ls' L2 → W p l e R s m args below meth c H locs cells slots Q (F0 m pc2 ls' (st2.map (m_rv H00.size b)))) →
      W p l e R s m args below meth c H locs cells slots Q (F0 m pc ls (st.map (m_rv H00.size b)))) : m_at l D cI cC b X H00 j pc L st h r := by
  refine m_step hB ⟨Nat.le_refl _, Nat.le_refl _⟩ ?_
  intro p e R s m args below meth c H locs cells slots Q ls hcx hhp hlo h1 h2 kk
  simp only [Nat.sub_self, Nat.add_zero] at h1 h2 kk
  exact hstep p e R s m args below meth c H locs cells slots Q ls hcx hhp hlo h1 h2 fun ls' hl => kk H locs ls' hhp hl
