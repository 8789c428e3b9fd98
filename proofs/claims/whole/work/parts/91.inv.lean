/-! What holds between two calls holds at the beginning. -/
/-- from b on lie the cells L -/
def Lay (h : mH) (b : Nat) (L : List mC) : Prop := ∀ i c, L[i]? = some c → m_get h (b + i) = some c
theorem Lay.app {h : mH} {b k : Nat} {p q : List mC} (a : Lay h b (p ++ q)) (hk : p.length = k) : Lay h b p ∧ Lay h (b + k) q := by
  subst hk
  refine ⟨fun i c hi => ?_, fun i c hi => ?_⟩
  · have hl := (List.getElem?_eq_some_iff.mp hi).1
    refine a i c ?_
    rw [List.getElem?_append_left hl]
    exact hi
  · rw [Nat.add_assoc]
    refine a _ c ?_
    rw [List.getElem?_append_right (Nat.le_add_right _ _), Nat.add_sub_cancel_left]
    exact hi
theorem Lay.con {h : mH} {b : Nat} {x : mC} {l : List mC} (a : Lay h b (x :: l)) : m_get h b = some x ∧ Lay h (b + 1) l := by
  refine ⟨a 0 x rfl, fun i c hi => ?_⟩
  rw [Nat.add_assoc, Nat.add_comm 1 i]
  exact a (i + 1) c hi
theorem Lay.tr {h h2 : mH} {b k : Nat} {L : List mC} (a : Lay h b L) (hk : L.length = k) (f : ∀ x, x < b + k → m_get h2 x = m_get h x) : Lay h2 b L := by
  subst hk
  intro i c hi
  have hl := (List.getElem?_eq_some_iff.mp hi).1
  rw [f _ (by omega)]
  exact a i c hi
theorem mus_of {h : mH} {B : Nat} (q : Lay h B (MU B)) : MusV h B (B + 43) 64 (FM0, (fun _ => 0), 0) := by
  show MusT h B (B + 43) 64 FM0 (fun _ => 0) 0
  refine ⟨fun o ho => ?_, ⟨_, q 43 _ rfl, fun i hi => by omega⟩, by omega, by omega, by omega, rfl, by omega⟩
  rcases (show o = 0 ∨ o = 1 ∨ o = 2 ∨ o = 3 ∨ o = 4 ∨ o = 5 ∨ o = 6 ∨ o = 7 ∨ o = 8 ∨ o = 9 ∨ o = 10 ∨ o = 11 ∨ o = 12 ∨ o = 13 ∨ o = 14 ∨ o = 15 ∨ o = 16 ∨ o = 17 ∨ o = 18 ∨ o = 19 ∨ o = 20 ∨ o = 21 ∨ o = 22 ∨ o = 23 ∨ o = 24 ∨ o = 25 ∨ o = 26 ∨ o = 27 ∨ o = 28 ∨ o = 29 ∨ o = 30 ∨ o = 31 ∨ o = 32 ∨ o = 33 ∨ o = 34 ∨ o = 35 ∨ o = 36 ∨ o = 37 ∨ o = 38 ∨ o = 39 ∨ o = 40 ∨ o = 41 ∨ o = 42 by omega) with rfl | rfl | rfl | rfl | rfl | rfl | rfl | rfl | rfl | rfl | rfl | rfl | rfl | rfl | rfl | rfl | rfl | rfl | rfl | rfl | rfl | rfl | rfl | rfl | rfl | rfl | rfl | rfl | rfl | rfl | rfl | rfl | rfl | rfl | rfl | rfl | rfl | rfl | rfl | rfl | rfl | rfl | rfl
  all_goals exact q _ _ rfl
theorem cAll_len {n : Nat} : (cAll n).length = 312 := by
  simp only [cAll, List.length_append, List.length_cons, List.length_nil, MU_len, cHI_len]
def V0 : Nat → Mu := fun _ => (FM0, (fun _ => 0), 0)
def R0 : Nat → Nat → Int32 := fun _ _ => 0
theorem inv_fresh {hA hB hC hD : mH} {fs : List Value} (l0 : hA.1.length = 1) (w0 : hA.2 = 6) (b1 : Bd hA 0 hB 0 [.ref (1 + 0), .ref (1 + 44), .ref (1 + 88), .ref (1 + 132), .ref (1 + 309), .int (nI 0)] (cAll 1) 9656)
    (l2 : hC.1.length = 314) (w2 : hC.2 = hB.2 + 11) (f2 : ∀ x, x < 313 → m_get hC x = m_get hB x)
    (b3 : Bd hC 313 hD 12 [.ref (314 + 0), .ref (314 + 1), .ref (314 + 2), .int (0), .ref (314 + 3), .int (0), .ref (314 + 4), .int (0), .ref (314 + 5), .ref (314 + 6), .int (0)] [.inl (false, 4178, (upd (upd (fun _ => 0) 2 (nI 1)) 20 ((-5 : Int32)))), .inl (false, 4178, (fun _ => 0)), .inl (false, 4178, (fun _ => 0)), .inl (false, 16712, (fun _ => 0)), .inl (false, 60, (fun _ => 0)), .inl (false, 12, (fun _ => 0)), .inl (false, 60, (fun _ => 0))] 29378) : Inv hD := by
  obtain ⟨c1, c2, c3, c4, c5, c6⟩ := b1
  obtain ⟨d1, d2, d3, d4, d5, d6⟩ := b3
  have f : ∀ x, x < 313 → m_get hD x = m_get hB x := fun x hx => (d4 x (by omega) (by omega)).trans (f2 x hx)
  rw [cAll_len] at c1
  have dl : hD.1.length = 321 := by rw [d1, l2]; rfl
  rw [l0] at c6
  have L : Lay hD 1 (cAll 1) := Lay.tr c6 cAll_len (fun x hx => f x (by omega))
  obtain ⟨L1, L2⟩ := Lay.app L (k := 309) (by simp only [List.length_append, List.length_cons, MU_len, cHI_len])
  obtain ⟨L3, L4⟩ := Lay.app L1 (k := 132) (by simp only [List.length_append, MU_len])
  obtain ⟨L5, L6⟩ := Lay.app L3 (k := 88) (by simp only [List.length_append, MU_len])
  obtain ⟨L7, L8⟩ := Lay.app L5 (k := 44) MU_len
  obtain ⟨H0, H1⟩ := L4.con
  obtain ⟨H2, H3⟩ := Lay.app H1 (k := 132) (by simp only [List.length_append, MU_len])
  obtain ⟨H4, H5⟩ := Lay.app H2 (k := 88) (by simp only [List.length_append, MU_len])
  obtain ⟨H6, H7⟩ := Lay.app H4 (k := 44) MU_len
  obtain ⟨T0, T1⟩ := L2.con
  obtain ⟨T2, T3⟩ := T1.con
  obtain ⟨T4, -⟩ := T3.con
  refine ⟨V0, 3, 4, 5, 6, 0, 0, 0, fun _ => 0, R0, s0, by unfold Prm; omega, ⟨fun k => bs k + 43, fun _ => 64, fun k hk => ⟨?_, Or.inl rfl⟩, fun j k hj hk hjk => ?_, by omega, by omega, ?_⟩, ⟨?_, H0⟩, ⟨⟨_, _, _, T0, T4⟩, T2⟩, fun o ho => ?_, cpl_fresh, rfl, by omega, fun i hi => by omega, Or.inl ⟨rfl, rfl⟩, ⟨by omega, rfl, fun i hi => by omega⟩⟩
  · rcases (show k = 0 ∨ k = 1 ∨ k = 2 ∨ k = 3 ∨ k = 4 ∨ k = 5 ∨ k = 6 by omega) with rfl | rfl | rfl | rfl | rfl | rfl | rfl
    · exact mus_of L7
    · exact mus_of L8
    · exact mus_of L6
    · exact mus_of H6
    · exact mus_of H7
    · exact mus_of H5
    · exact mus_of H3
  · have := bs_dis hj hk hjk
    show bs j + 43 ≠ bs k + 43
    omega
  · have : sumP (fun _ => 64) 7 = 896 := by decide
    rw [this]
    omega
  · rw [f 0 (by omega)]
    exact c5
  · rw [l2] at d6
    rcases (show o = 0 ∨ o = 1 ∨ o = 2 ∨ o = 3 ∨ o = 4 ∨ o = 5 ∨ o = 6 ∨ o = 7 by omega) with rfl | rfl | rfl | rfl | rfl | rfl | rfl | rfl
    · exact d5
    · exact d6 0 _ rfl
    · exact d6 1 _ rfl
    · exact d6 2 _ rfl
    · exact d6 3 _ rfl
    · exact d6 4 _ rfl
    · exact d6 5 _ rfl
    · exact d6 6 _ rfl
