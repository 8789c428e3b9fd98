/-! The beginning: a fresh museum and a fresh row are alike. -/
def FM0 : Nat → Nat → Int32 := fun o => if o = 2 then upd (fun _ => 0) 0 (-5) else if o = 18 then upd (upd (upd (upd (upd (upd (upd (upd (fun _ => 0) 0 (-5)) 1 (-5)) 2 (-5)) 3 (-5)) 4 (-5)) 5 (-5)) 6 (-5)) 7 (-5) else if o = 1 then upd (fun _ => 0) 6 (nI 1) else fun _ => 0
def s0 : Nat → Int32 := upd (upd (fun _ => 0) 2 (nI 1)) 20 (-5)
theorem s0_o {i : Nat} (h : 20 < i) : s0 i = 0 := by
  unfold s0
  rw [upd_ne (by omega), upd_ne (by omega)]
theorem cpl_fresh : CplV (FM0, (fun _ => 0), 0) s0 := by
  refine ⟨0, 1, 0, 0, 0, 0, ⟨⟨by decide, by decide⟩, ⟨by decide, by decide, by decide⟩, ⟨by decide, by decide⟩, ⟨by decide, by decide⟩, ⟨by decide, by decide⟩, by decide, by decide⟩, ⟨by decide, by decide, by decide, by decide, by decide, by decide, by decide, by decide⟩, ⟨⟨0, by decide, by decide, by decide⟩, fun z hz => ⟨0, by decide, ?_, ?_⟩, ?_⟩, fun r hr => ?_, fun d hd => by omega, fun d e hd => by omega, fun g hg => by omega, fun g hg => by omega, ⟨fun k hk => ⟨Or.inl ?_, fun g hg => by omega⟩, fun g hg => by omega, fun g hg => by omega⟩, fun w hw => by omega, fun a ha => by omega, fun m hm => by omega, ⟨rfl, fun k _ hk => ?_, fun k hk => by omega⟩⟩
  · revert z
    decide
  · revert z
    decide
  · intro z o hz ho
    have e : ∀ z, z < 6 → s0 (14 + z) = 0 := by decide
    rw [e z hz, e o ho]
    have f : ∀ z, z < 6 → ¬ F_bit 0 (nI z) := by decide
    exact ⟨fun q => absurd q (f o ho), fun q => absurd q (f z hz)⟩
  · have : r = 0 := by omega
    subst this
    exact ⟨⟨by decide, by decide, by decide, by decide, by decide, by decide⟩, fun _ => ⟨by decide, by decide⟩, fun q => by omega, ⟨0, by decide, by decide⟩, ⟨0, by decide, by decide⟩⟩
  · revert k
    decide
  · rw [s0_o (by omega)]
    decide
/-- from h0 on the cell at a was filled and the cells cs were made -/
def Bd (h0 : mH) (a : Nat) (h : mH) (ci : Nat) (fs : List Value) (cs : List mC) (w : Nat) : Prop :=
  h.1.length = h0.1.length + cs.length ∧ h.2 = h0.2 + w ∧ a < h0.1.length ∧ (∀ x, x < h0.1.length → x ≠ a → m_get h x = m_get h0 x) ∧ m_get h a = some (.inr (ci, fs)) ∧ ∀ i c, cs[i]? = some c → m_get h (h0.1.length + i) = some c
theorem Bd.rf {h : mH} {a ci : Nat} {fs : List Value} (e : m_get h a = some (.inr (ci, fs))) : Bd h a h ci fs [] 0 := ⟨rfl, rfl, m_get_lt e, fun _ _ _ => rfl, e, fun i c z => absurd z (by simp)⟩
theorem Bd.new {h0 h : mH} {a ci : Nat} {fs : List Value} {cs : List mC} {w : Nat} (b : Bd h0 a h ci fs cs w) (c : mC) (n : Nat) : Bd h0 a (m_new h c n) ci fs (cs ++ [c]) (w + n) := by
  obtain ⟨b1, b2, b3, b4, b5, b6⟩ := b
  refine ⟨?_, ?_, b3, fun x hx hxa => ?_, ?_, fun i d hd => ?_⟩
  · show (h.1 ++ [c]).length = _
    rw [List.length_append, List.length_append, b1]
    simp only [List.length_cons, List.length_nil]
    omega
  · show h.2 + n = _
    omega
  · rw [m_get_new (by omega)]
    exact b4 x hx hxa
  · rw [m_get_new (by omega)]
    exact b5
  · by_cases z : i < cs.length
    · rw [m_get_new (by omega)]
      rw [List.getElem?_append_left z] at hd
      exact b6 i d hd
    · rw [List.getElem?_append_right (by omega)] at hd
      have hi : i = cs.length := by
        have := (List.getElem?_eq_some_iff.mp hd).1
        simp only [List.length_cons, List.length_nil] at this
        omega
      subst hi
      rw [Nat.sub_self] at hd
      have : c = d := by simpa using hd
      subst this
      rw [← b1]
      show (h.1 ++ [c])[h.1.length]? = _
      rw [List.getElem?_append_right (Nat.le_refl _), Nat.sub_self]
      rfl
theorem Bd.put {h0 h : mH} {a ci : Nat} {fs : List Value} {cs : List mC} {w : Nat} (b : Bd h0 a h ci fs cs w) (fs2 : List Value) : Bd h0 a (m_set h a (.inr (ci, fs2))) ci fs2 cs w := by
  obtain ⟨b1, b2, b3, b4, b5, b6⟩ := b
  refine ⟨?_, b2, b3, fun x hx hxa => ?_, m_get_same b5, fun i d hd => ?_⟩
  · show (h.1.set a _).length = _
    rw [List.length_set, b1]
  · rw [m_get_ne (Ne.symm hxa)]
    exact b4 x hx hxa
  · rw [m_get_ne (by omega)]
    exact b6 i d hd
theorem Bd.cell {h0 h : mH} {a ci : Nat} {fs : List Value} {cs : List mC} {w : Nat} (b : Bd h0 a h ci fs cs w) {i : Nat} {c0 : mC} (hi : cs[i]? = some c0) (c : mC) : Bd h0 a (m_set h (h0.1.length + i) c) ci fs (cs.set i c) w := by
  obtain ⟨b1, b2, b3, b4, b5, b6⟩ := b
  refine ⟨?_, b2, b3, fun x hx hxa => ?_, ?_, fun j d hd => ?_⟩
  · show (h.1.set _ _).length = _
    rw [List.length_set, List.length_set, b1]
  · rw [m_get_ne (by omega)]
    exact b4 x hx hxa
  · rw [m_get_ne (by omega)]
    exact b5
  · by_cases z : i = j
    · subst z
      have hl := (List.getElem?_eq_some_iff.mp hi).1
      rw [List.getElem?_set_self hl] at hd
      have : c = d := by simpa using hd
      subst this
      exact m_get_same (b6 i c0 hi)
    · rw [m_get_ne (by omega)]
      rw [List.getElem?_set_ne z] at hd
      exact b6 j d hd
theorem Bd.call {h0 h h1 : mH} {a ci ci2 : Nat} {fs fs2 : List Value} {cs cs2 : List mC} {w w2 i : Nat} {c0 : mC} (b : Bd h0 a h ci fs cs w) (hi : cs[i]? = some c0) (d : Bd h (h0.1.length + i) h1 ci2 fs2 cs2 w2) : Bd h0 a h1 ci fs (cs.set i (.inr (ci2, fs2)) ++ cs2) (w + w2) := by
  obtain ⟨b1, b2, b3, b4, b5, b6⟩ := b
  obtain ⟨d1, d2, d3, d4, d5, d6⟩ := d
  have hl := (List.getElem?_eq_some_iff.mp hi).1
  refine ⟨?_, by omega, b3, fun x hx hxa => ?_, ?_, fun j e he => ?_⟩
  · rw [List.length_append, List.length_set]
    omega
  · rw [d4 x (by omega) (by omega)]
    exact b4 x hx hxa
  · rw [d4 a (by omega) (by omega)]
    exact b5
  · by_cases z : j < cs.length
    · rw [List.getElem?_append_left (by rw [List.length_set]; exact z)] at he
      by_cases y : i = j
      · subst y
        rw [List.getElem?_set_self hl] at he
        have : (.inr (ci2, fs2) : mC) = e := by simpa using he
        subst this
        exact d5
      · rw [List.getElem?_set_ne y] at he
        rw [d4 _ (by omega) (by omega)]
        exact b6 j e he
    · rw [List.getElem?_append_right (by rw [List.length_set]; omega), List.length_set] at he
      have := d6 _ e he
      rw [b1] at this
      rw [show h0.1.length + j = h0.1.length + cs.length + (j - cs.length) by omega]
      exact this
theorem bd_new {X : mX} {j pc : Nat} {L : mL} {st : List Value} {h0 h : mH} {Q : Option Value → mH → Prop} {a ci : Nat} {fs : List Value} {cs : List mC} {w n k : Nat} (b : Bd h0 a h ci fs cs w) (hn : h0.1.length = n) (hk : cs.length = k) (c : mC) (N : Nat) (K : ∀ h, Bd h0 a h ci fs (cs ++ [c]) (w + N) → m_wp X j pc L (.ref (n + k) :: st) h Q) : m_wp X j pc L (.ref h.1.length :: st) (m_new h c N) Q := by
  have := b.1
  rw [this, hn, hk]
  exact K _ (b.new c N)
theorem bd_step {X : mX} {j pc : Nat} {L : mL} {st : List Value} {h0 h1 : mH} {Q : Option Value → mH → Prop} {a ci : Nat} {fs : List Value} {cs : List mC} {w : Nat} (b : Bd h0 a h1 ci fs cs w) (K : ∀ h, Bd h0 a h ci fs cs w → m_wp X j pc L st h Q) : m_wp X j pc L st h1 Q := K h1 b
