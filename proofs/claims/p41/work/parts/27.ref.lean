/-- whether a room (perhaps none) is in a zone -/
abbrev F_iz (σ : Nat → Int32) (v w : Int32) : Prop := 0 ≤ v ∧ σ (20 + 6 * v.toNatClampNeg + 0) = w
/-- whether one of the first n guards stands in a room of the zone, or walks to one -/
abbrev F_cz (σ : Nat → Int32) (w : Int32) (g : Nat) : Prop := F_iz σ (σ (192 + 10 * g + 0)) w ∨ F_iz σ (σ (192 + 10 * g + 1)) w
