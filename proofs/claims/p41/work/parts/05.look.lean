/-! what the tables say, row by row: by program -/
theorem m_lt_of {α : Type} {L : List (List α)} {o : Nat} {l : List α} (h : L[o]? = some l) : o < L.length := (List.getElem?_eq_some_iff.mp h).1
set_option maxRecDepth 100000 in
theorem m_fl_words : ∀ o, o < 16 → ∀ e ∈ m_fl[o]?.getD [], m_fw o e ∈ lw_tbl := by
  intro o ho e he
  rcases (show o = 0 ∨ o = 1 ∨ o = 2 ∨ o = 3 ∨ o = 4 ∨ o = 5 ∨ o = 6 ∨ o = 7 ∨ o = 8 ∨ o = 9 ∨ o = 10 ∨ o = 11 ∨ o = 12 ∨ o = 13 ∨ o = 14 ∨ o = 15 by omega) with rfl | rfl | rfl | rfl | rfl | rfl | rfl | rfl | rfl | rfl | rfl | rfl | rfl | rfl | rfl | rfl
  · exact absurd (show e ∈ ([] : List (Nat × Nat × Nat × Bool)) from he) List.not_mem_nil
  · exact m_of_places m_fw1 (List.mem_map_of_mem he)
  · exact m_of_places m_fw2 (List.mem_map_of_mem he)
  · exact m_of_places m_fw3 (List.mem_map_of_mem he)
  · exact m_of_places m_fw4 (List.mem_map_of_mem he)
  · exact m_of_places m_fw5 (List.mem_map_of_mem he)
  · exact m_of_places m_fw6 (List.mem_map_of_mem he)
  · exact m_of_places m_fw7 (List.mem_map_of_mem he)
  · exact m_of_places m_fw8 (List.mem_map_of_mem he)
  · exact m_of_places m_fw9 (List.mem_map_of_mem he)
  · exact m_of_places m_fw10 (List.mem_map_of_mem he)
  · exact m_of_places m_fw11 (List.mem_map_of_mem he)
  · exact m_of_places m_fw12 (List.mem_map_of_mem he)
  · exact absurd (show e ∈ ([] : List (Nat × Nat × Nat × Bool)) from he) List.not_mem_nil
  · exact absurd (show e ∈ ([] : List (Nat × Nat × Nat × Bool)) from he) List.not_mem_nil
  · exact absurd (show e ∈ ([] : List (Nat × Nat × Nat × Bool)) from he) List.not_mem_nil
set_option maxRecDepth 100000 in
theorem m_ml_words : ∀ o, o < 16 → ∀ e ∈ m_ml[o]?.getD [], ∀ w ∈ m_mws o e, w ∈ lw_tbl := by
  intro o ho e he w hw
  rcases (show o = 0 ∨ o = 1 ∨ o = 2 ∨ o = 3 ∨ o = 4 ∨ o = 5 ∨ o = 6 ∨ o = 7 ∨ o = 8 ∨ o = 9 ∨ o = 10 ∨ o = 11 ∨ o = 12 ∨ o = 13 ∨ o = 14 ∨ o = 15 by omega) with rfl | rfl | rfl | rfl | rfl | rfl | rfl | rfl | rfl | rfl | rfl | rfl | rfl | rfl | rfl | rfl
  · have he : e ∈ m_ml0_0 ++ m_ml0_1 := he
    rcases List.mem_append.mp he with he | he
    rotate_left
    · exact m_of_places m_ml0_1_ok (List.mem_flatMap.mpr ⟨e, he, hw⟩)
    exact m_of_places m_ml0_0_ok (List.mem_flatMap.mpr ⟨e, he, hw⟩)
  · have he : e ∈ m_ml1_0 ++ m_ml1_1 ++ m_ml1_2 ++ m_ml1_3 := he
    rcases List.mem_append.mp he with he | he
    rotate_left
    · exact m_of_places m_ml1_3_ok (List.mem_flatMap.mpr ⟨e, he, hw⟩)
    rcases List.mem_append.mp he with he | he
    rotate_left
    · exact m_of_places m_ml1_2_ok (List.mem_flatMap.mpr ⟨e, he, hw⟩)
    rcases List.mem_append.mp he with he | he
    rotate_left
    · exact m_of_places m_ml1_1_ok (List.mem_flatMap.mpr ⟨e, he, hw⟩)
    exact m_of_places m_ml1_0_ok (List.mem_flatMap.mpr ⟨e, he, hw⟩)
  · have he : e ∈ m_ml2_0 ++ m_ml2_1 ++ m_ml2_2 := he
    rcases List.mem_append.mp he with he | he
    rotate_left
    · exact m_of_places m_ml2_2_ok (List.mem_flatMap.mpr ⟨e, he, hw⟩)
    rcases List.mem_append.mp he with he | he
    rotate_left
    · exact m_of_places m_ml2_1_ok (List.mem_flatMap.mpr ⟨e, he, hw⟩)
    exact m_of_places m_ml2_0_ok (List.mem_flatMap.mpr ⟨e, he, hw⟩)
  · have he : e ∈ m_ml3_0 := he
    exact m_of_places m_ml3_0_ok (List.mem_flatMap.mpr ⟨e, he, hw⟩)
  · have he : e ∈ m_ml4_0 := he
    exact m_of_places m_ml4_0_ok (List.mem_flatMap.mpr ⟨e, he, hw⟩)
  · have he : e ∈ m_ml5_0 := he
    exact m_of_places m_ml5_0_ok (List.mem_flatMap.mpr ⟨e, he, hw⟩)
  · have he : e ∈ m_ml6_0 := he
    exact m_of_places m_ml6_0_ok (List.mem_flatMap.mpr ⟨e, he, hw⟩)
  · have he : e ∈ m_ml7_0 := he
    exact m_of_places m_ml7_0_ok (List.mem_flatMap.mpr ⟨e, he, hw⟩)
  · have he : e ∈ m_ml8_0 := he
    exact m_of_places m_ml8_0_ok (List.mem_flatMap.mpr ⟨e, he, hw⟩)
  · have he : e ∈ m_ml9_0 := he
    exact m_of_places m_ml9_0_ok (List.mem_flatMap.mpr ⟨e, he, hw⟩)
  · have he : e ∈ m_ml10_0 := he
    exact m_of_places m_ml10_0_ok (List.mem_flatMap.mpr ⟨e, he, hw⟩)
  · have he : e ∈ m_ml11_0 := he
    exact m_of_places m_ml11_0_ok (List.mem_flatMap.mpr ⟨e, he, hw⟩)
  · have he : e ∈ m_ml12_0 := he
    exact m_of_places m_ml12_0_ok (List.mem_flatMap.mpr ⟨e, he, hw⟩)
  · have he : e ∈ m_ml13_0 := he
    exact m_of_places m_ml13_0_ok (List.mem_flatMap.mpr ⟨e, he, hw⟩)
  · exact absurd (show e ∈ ([] : List (Nat × Nat × Nat)) from he) List.not_mem_nil
  · exact absurd (show e ∈ ([] : List (Nat × Nat × Nat)) from he) List.not_mem_nil
theorem m_cls_len : m_cls.length = 12 := rfl
theorem m_cls_at {ci : Nat} (h : ci < m_cls.length) : m_cls[ci]? = some ((m_clsQ ci).1, (m_clsQ ci).2.1, (m_clsQ ci).2.2) := by
  unfold m_clsQ
  rw [List.getElem?_eq_getElem h]
  rfl
theorem m_lay_in {ci : Nat} (h : ci < m_cls.length) : ∀ w ∈ u_ws (m_clsQ ci).1 (m_clsQ ci).2.1 (m_clsQ ci).2.2, w ∈ m_tg := by
  intro w hw
  have hq : (m_clsQ ci) ∈ m_cls := List.mem_of_getElem? (m_cls_at h)
  have h1 : w ∈ m_lw := List.mem_flatMap.mpr ⟨_, hq, hw⟩
  refine m_in_tg (m_of_places m_lw_ok h1) ?_
  obtain ⟨k, -, rfl⟩ := List.mem_map.mp hw
  unfold u_lay
  split <;> rfl
theorem m_cok_of {ci : Nat} (h : ci < m_cls.length) : m_cok ci = true := List.all_eq_true.mp m_cls_ok ci (List.mem_range.mpr h)
theorem m_ty_of {ci : Nat} (h : ci < m_cls.length) : ∀ k, k < (m_clsQ ci).2.2 → parseFieldDescriptor ((m_clsQ ci).2.1 k).2.2.1 = some (((m_tys[ci]?.getD [])[k]?).getD .int) := by
  intro k hk
  have h1 := List.all_eq_true.mp (m_cok_of h) k (List.mem_range.mpr hk)
  simp only [Bool.and_eq_true, decide_eq_true_eq] at h1
  exact h1.1
theorem m_nm_of {ci : Nat} (h : ci < m_cls.length) : ∀ a, a < (m_clsQ ci).2.2 → ∀ b, b < (m_clsQ ci).2.2 → a ≠ b → ((m_clsQ ci).2.1 a).2.1 ≠ ((m_clsQ ci).2.1 b).2.1 := by
  intro a ha b hb hab
  have h1 := List.all_eq_true.mp (m_cok_of h) a (List.mem_range.mpr ha)
  simp only [Bool.and_eq_true, decide_eq_true_eq] at h1
  have h2 := List.all_eq_true.mp h1.2 b (List.mem_range.mpr hb)
  simp only [Bool.or_eq_true, decide_eq_true_eq] at h2
  exact h2.resolve_left hab
theorem m_findF_ok {o idx e ci k : Nat} {nest : Bool} (h : m_findF o idx = some (e, ci, k, nest)) : e = idx ∧ ci < m_cls.length ∧ k < (m_clsQ ci).2.2 ∧ ((m_clsQ ci).2.1 k).1 = (m_clsQ ci).1 ∧ m_fw o (idx, ci, k, nest) ∈ lw_tbl := by
  obtain ⟨l, h1, h2, h3⟩ := m_find_mem h
  have he : e = idx := by simpa using h3
  subst he
  have h4 := List.all_eq_true.mp (List.all_eq_true.mp m_fl_ok l (List.mem_of_getElem? h1)) _ h2
  simp only [m_fok, Bool.and_eq_true, decide_eq_true_eq] at h4
  exact ⟨rfl, h4.1.1, h4.1.2, h4.2, m_fl_words o (m_lt_of h1) _ (by rw [h1]; exact h2)⟩
theorem m_findM_ok {o idx e kind j : Nat} (h : m_findM o idx = some (e, kind, j)) : e = idx ∧ (∀ w ∈ m_mws o (idx, kind, j), w ∈ lw_tbl) ∧ kind ≤ 7 ∧ (kind ≤ 3 → 0 < j ∧ j < 302 ∧ (m_y j).cls ≠ "java/lang/Math") ∧ (kind ≤ 1 → (m_y j).name = "<init>" ∧ m_ret j = none) := by
  obtain ⟨l, h1, h2, h3⟩ := m_find_mem h
  have he : e = idx := by simpa using h3
  subst he
  have h4 := List.all_eq_true.mp (List.all_eq_true.mp m_kind_ok l (List.mem_of_getElem? h1)) _ h2
  simp only [m_kindok, Bool.and_eq_true, Bool.or_eq_true, decide_eq_true_eq] at h4
  refine ⟨rfl, m_ml_words o (m_lt_of h1) _ (by rw [h1]; exact h2), h4.1, fun hk => ?_, fun hk => ?_⟩
  · rcases h4.2 with h5 | h5
    · omega
    · exact ⟨h5.1.1.1, h5.1.1.2, h5.1.2⟩
  · rcases h4.2 with h5 | h5
    · omega
    · rcases h5.2 with h6 | h6
      · omega
      · exact h6
theorem m_findK_ok {o idx e ci : Nat} (h : m_findK o idx = some (e, ci)) : e = idx ∧ ci < m_cls.length ∧ ∀ w ∈ m_kw o (idx, ci), w ∈ lw_tbl := by
  obtain ⟨l, h1, h2, h3⟩ := m_find_mem h
  have he : e = idx := by simpa using h3
  subst he
  have h4 := List.all_eq_true.mp (List.all_eq_true.mp m_kl_ok l (List.mem_of_getElem? h1)) _ h2
  simp only [decide_eq_true_eq] at h4
  refine ⟨rfl, h4, fun w hw => m_of_places m_kw_ok (List.mem_flatMap.mpr ⟨(l, o), ?_, List.mem_flatMap.mpr ⟨_, h2, hw⟩⟩)⟩
  exact List.mem_iff_getElem?.mpr ⟨o, by rw [List.getElem?_zipIdx, h1]; simp⟩
theorem m_findC_ok {o idx e : Nat} {v : Int32} (h : m_findC o idx = some (e, v)) : e = idx ∧ Cond.constant (m_ownS o) idx v ∈ lw_tbl := by
  obtain ⟨l, h1, h2, h3⟩ := m_find_mem h
  have he : e = idx := by simpa using h3
  subst he
  refine ⟨rfl, m_of_places m_cl_ok (List.mem_flatMap.mpr ⟨(l, o), ?_, List.mem_map.mpr ⟨_, h2, rfl⟩⟩)⟩
  exact List.mem_iff_getElem?.mpr ⟨o, by rw [List.getElem?_zipIdx, h1]; simp⟩
theorem m_jok_of {j : Nat} (h : j < 302) : m_jok j = true := by
  by_cases h1 : j < 100
  · exact List.all_eq_true.mp m_jok1 j (List.mem_range.mpr h1)
  · by_cases h2 : j < 200
    · exact List.all_eq_true.mp m_jok2 j (List.mem_range'_1.mpr ⟨by omega, by omega⟩)
    · exact List.all_eq_true.mp m_jok3 j (List.mem_range'_1.mpr ⟨by omega, by omega⟩)
theorem m_jok_at {j : Nat} (h : j < 302) : m_ownS (m_own j) = (m_y j).cls ∧ (m_y j).cls ≠ "java/lang/invoke/MethodHandle" ∧ (m_y j).cls ≠ "java/lang/invoke/VarHandle" ∧ (parseMethodDescriptor (m_y j).desc).map (fun d => d.parameters.length) = some (m_np j) ∧ m_nl j ≤ 29 ∧ ((m_y j).cls ≠ "java/lang/Math" → plainName (m_y j).cls = true) := by
  have h1 := m_jok_of h
  simp only [m_jok, Bool.and_eq_true, Bool.or_eq_true, decide_eq_true_eq] at h1
  exact ⟨h1.1.1.1.1.1, h1.1.1.1.1.2, h1.1.1.1.2, h1.1.1.2, h1.1.2, fun h2 => h1.2.resolve_left h2⟩
theorem m_sys {w : Cond} (h : w ∈ m_sysw) (hg : goodWord w = true) : w ∈ m_tg := m_in_tg (m_of_places m_sys_ok h) hg
def m_cwj (j : Nat) : Cond := .code (m_y j) (m_code j) (m_nl j) (m_ret j)
set_option maxRecDepth 100000 in
theorem m_cwj_in {j : Nat} (h0 : 0 < j) (h : j < 302) : m_cwj j ∈ m_tg := by
  refine m_in_tg ?_ rfl
  have hq : j / 40 < 8 := by omega
  have hm : j % 40 < 40 := Nat.mod_lt _ (by omega)
  have key : ∀ (q : Nat) (l : List (MethodName × ByteArray × Nat × Option FieldType × Nat × Nat × Nat)), m_mt[q]? = some l → j / 40 = q → j % 40 < l.length → m_row j ∈ l := by
    intro q l h1 h2 h3
    unfold m_row
    rw [h2, h1]
    show (l[j % 40]?).getD _ ∈ l
    rw [List.getElem?_eq_getElem h3]
    exact List.getElem_mem h3
  rcases (show j / 40 = 0 ∨ j / 40 = 1 ∨ j / 40 = 2 ∨ j / 40 = 3 ∨ j / 40 = 4 ∨ j / 40 = 5 ∨ j / 40 = 6 ∨ j / 40 = 7 by omega) with hz | hz | hz | hz | hz | hz | hz | hz
  · have hr : m_row j ∈ m_mt0.drop 1 := by
      have e : m_row j = (m_mt0[j % 40]?).getD (x, code, maxLocals, ret, 8, 0, 1) := by unfold m_row; rw [hz]; rfl
      have hl : j % 40 < m_mt0.length := hm
      rw [e, List.getElem?_eq_getElem hl]
      refine List.mem_iff_getElem?.mpr ⟨j % 40 - 1, ?_⟩
      rw [List.getElem?_drop, show 1 + (j % 40 - 1) = j % 40 by omega, List.getElem?_eq_getElem hl]
      rfl
    exact m_of_places m_cw0 (List.mem_map_of_mem (f := m_cwr) hr)
  · exact m_of_places m_cw1 (List.mem_map_of_mem (f := m_cwr) (key 1 m_mt1 rfl hz (by show j % 40 < 40; omega)))
  · exact m_of_places m_cw2 (List.mem_map_of_mem (f := m_cwr) (key 2 m_mt2 rfl hz (by show j % 40 < 40; omega)))
  · exact m_of_places m_cw3 (List.mem_map_of_mem (f := m_cwr) (key 3 m_mt3 rfl hz (by show j % 40 < 40; omega)))
  · exact m_of_places m_cw4 (List.mem_map_of_mem (f := m_cwr) (key 4 m_mt4 rfl hz (by show j % 40 < 40; omega)))
  · exact m_of_places m_cw5 (List.mem_map_of_mem (f := m_cwr) (key 5 m_mt5 rfl hz (by show j % 40 < 40; omega)))
  · exact m_of_places m_cw6 (List.mem_map_of_mem (f := m_cwr) (key 6 m_mt6 rfl hz (by show j % 40 < 40; omega)))
  · exact m_of_places m_cw7 (List.mem_map_of_mem (f := m_cwr) (key 7 m_mt7 rfl hz (by show j % 40 < 22; omega)))
