def R_excl (σ : Nat → Int32) (z o : Nat) : Nat → Int32 := upd (upd σ (14 + z) (σ (14 + z) ^^^ (nI 1 <<< (nI o &&& 31)))) (14 + o) (σ (14 + o) ^^^ (nI 1 <<< (nI z &&& 31)))
def R_addGuard (σ : Nat → Int32) (nG mi : Nat) : Nat → Int32 := upd (G_set (G_set (G_clr σ (192 + 10 * nG) 10) nG 1 (-5)) nG 9 (nI mi)) 4 (nI (nG + 1))
