def F_cw (σ : Nat → Int32) (x : Int32) : Nat → Nat
  | 0 => 0
  | w + 1 => F_cw σ x w + (if σ (328 + 5 * w + 1) = x ∧ ¬ σ (328 + 5 * w + 3) = nI 2 then 1 else 0)
def F_ca (σ : Nat → Int32) (x : Int32) : Nat → Nat
  | 0 => 0
  | a + 1 => F_ca σ x a + (if σ (378 + 5 * a + 1) = x ∧ σ (378 + 5 * a + 3) = -5 then 1 else 0)
def F_ct (σ : Nat → Int32) : Nat → Nat
  | 0 => 0
  | w + 1 => F_ct σ w + (if σ (328 + 5 * w + 3) = nI 1 then 1 else 0)
def F_co (σ : Nat → Int32) : Nat → Nat
  | 0 => 0
  | a + 1 => F_co σ a + (if σ (378 + 5 * a + 3) = -5 then 1 else 0)
def F_ch (σ : Nat → Int32) : Nat → Int32
  | 0 => nI 0
  | g + 1 => F_ch σ g + σ (192 + 10 * g + 7)
def F_sy (σ : Nat → Int32) : Nat → Nat
  | 0 => 0
  | k + 1 => F_sy σ k + (if 0 < σ (1298 + k) then 1 else 0)
def F_zr (σ : Nat → Int32) (x : Int32) : Nat → Nat
  | 0 => 0
  | r + 1 => F_zr σ x r + (if σ (20 + 6 * r + 0) = x then 1 else 0)
def F_zg (σ : Nat → Int32) (x : Int32) (nG : Nat) : Nat → Nat
  | 0 => 0
  | r + 1 => F_zg σ x nG r + (if σ (20 + 6 * r + 0) = x then F_gi σ (nI r) nG else 0)
