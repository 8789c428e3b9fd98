/-! What holds between two calls holds at the beginning. -/
/-- from b on lie the cells L -/
def Lay (h : mH) (b : Nat) (L : List mC) : Prop := ∀ i c, L[i]? = some c → m_get h (b + i) = some c
theorem Lay.app {h : mH} {b k : Nat} {p q : List mC} (a : Lay h b (p ++ q)) (hk : p.length = k) : Lay h b p ∧ Lay h (b + k) q := by
  subst hk
  refine ⟨fun i c hi => ?_, fun i c hi => ?_⟩
  · have hl := (List.getElem?_eq_some_iff.mp hi).1
    refine a i c ?_
    rw [List.getElem?_append_left hl]
    exact hi
  · rw [Nat.add_assoc]
    refine a _ c ?_
    rw [List.getElem?_append_right (Nat.le_add_right _ _), Nat.add_sub_cancel_left]
    exact hi
theorem Lay.con {h : mH} {b : Nat} {x : mC} {l : List mC} (a : Lay h b (x :: l)) : m_get h b = some x ∧ Lay h (b + 1) l := by
  refine ⟨a 0 x rfl, fun i c hi => ?_⟩
  rw [Nat.add_assoc, Nat.add_comm 1 i]
  exact a (i + 1) c hi
theorem Lay.tr {h h2 : mH} {b k : Nat} {L : List mC} (a : Lay h b L) (hk : L.length = k) (f : ∀ x, x < b + k → m_get h2 x = m_get h x) : Lay h2 b L := by
  subst hk
  intro i c hi
  have hl := (List.getElem?_eq_some_iff.mp hi).1
  rw [f _ (by omega)]
  exact a i c hi
theorem mus_of {h : mH} {B : Nat} (q : Lay h B (MU B)) : MusV h B (B + 43) 64 (FM0, (fun _ => 0), 0) := by
  show MusT h B (B + 43) 64 FM0 (fun _ => 0) 0
  refine ⟨fun o ho => ?_, ⟨_, q 43 _ rfl, fun i hi => by omega⟩, by omega, by omega, by omega, rfl, by omega⟩
  rcases (show o = 0 ∨ o = 1 ∨ o = 2 ∨ o = 3 ∨ o = 4 ∨ o = 5 ∨ o = 6 ∨ o = 7 ∨ o = 8 ∨ o = 9 ∨ o = 10 ∨ o = 11 ∨ o = 12 ∨ o = 13 ∨ o = 14 ∨ o = 15 ∨ o = 16 ∨ o = 17 ∨ o = 18 ∨ o = 19 ∨ o = 20 ∨ o = 21 ∨ o = 22 ∨ o = 23 ∨ o = 24 ∨ o = 25 ∨ o = 26 ∨ o = 27 ∨ o = 28 ∨ o = 29 ∨ o = 30 ∨ o = 31 ∨ o = 32 ∨ o = 33 ∨ o = 34 ∨ o = 35 ∨ o = 36 ∨ o = 37 ∨ o = 38 ∨ o = 39 ∨ o = 40 ∨ o = 41 ∨ o = 42 by omega) with rfl | rfl | rfl | rfl | rfl | rfl | rfl | rfl | rfl | rfl | rfl | rfl | rfl | rfl | rfl | rfl | rfl | rfl | rfl | rfl | rfl | rfl | rfl | rfl | rfl | rfl | rfl | rfl | rfl | rfl | rfl | rfl | rfl | rfl | rfl | rfl | rfl | rfl | rfl | rfl | rfl | rfl | rfl
  all_goals exact q _ _ rfl
theorem cAll_len {n : Nat} : (cAll n).length = 312 := by
  simp only [cAll, List.length_append, List.length_cons, List.length_nil, MU_len, cHI_len]
def V0 : Nat → Mu := fun _ => (FM0, (fun _ => 0), 0)
def R0 : Nat → Nat → Int32 := fun _ _ => 0
