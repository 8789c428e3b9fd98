theorem nI_ne5 {d : Nat} (h : d < 2 ^ 31) : ¬ nI d = (-5 : Int32) := by
  intro e
  have h1 := congrArg Int32.toInt e
  rw [nI_toInt h, show (-5 : Int32).toInt = -5 from rfl] at h1
  omega
abbrev R_stop (σ : Nat → Int32) (g : Nat) : Nat → Int32 := G_set (G_set σ g 5 (nI 0)) g 3 (nI 0)
def R_addWork (σ : Nat → Int32) (w : Nat) (kd x lm : Int32) : Nat → Int32 := upd (upd (upd (upd (upd (upd σ (328 + 5 * w + 0) kd) (328 + 5 * w + 1) x) (328 + 5 * w + 2) lm) (328 + 5 * w + 3) (nI 0)) (328 + 5 * w + 4) (nI 0)) 5 (nI (w + 1))
