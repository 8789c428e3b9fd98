theorem upd_ne {f : Nat → Int32} {k i : Nat} {x : Int32} (h : i ≠ k) : upd f k x i = f i := if_neg h
theorem upd_eq {f : Nat → Int32} {k : Nat} {x : Int32} : upd f k x k = x := if_pos rfl
section WPD
variable {X : mX} {j pc : Nat} {L : mL} {st rest : List Value} {h0 h : mH} {Q : Option Value → mH → Prop} {R : Nat → Nat → Int32} {σ : Nat → Int32}
end WPD
abbrev G_set (σ : Nat → Int32) (g p : Nat) (v : Int32) : Nat → Int32 := upd σ (192 + 10 * g + p) v
abbrev G_turn (σ : Nat → Int32) (g : Nat) (k : Int32) : Nat → Int32 := G_set σ g 6 (σ (192 + 10 * g + 6) ^^^ (nI 1 <<< (k &&& 31)))
def G_put (σ : Nat → Int32) (g m : Nat) (room stay : Int32) : Nat → Int32 := G_set (upd (upd σ (232 + 24 * g + 2 * m) room) (232 + 24 * g + 2 * m + 1) stay) g 5 (nI (m + 1))
def F_al (σ : Nat → Int32) (n : Nat) (cause room : Int32) : Nat → Int32 :=
  if n = 40 then upd σ 7 (σ 7 + nI 1)
  else upd (upd (upd (upd (upd (upd σ (378 + 5 * n + 0) cause) (378 + 5 * n + 1) room) (378 + 5 * n + 2) (σ 0)) (378 + 5 * n + 3) (-5)) (378 + 5 * n + 4) (-5)) 6 (nI (n + 1))
