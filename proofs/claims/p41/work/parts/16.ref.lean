/-- the latest door among the first n of those between two rooms -/
def F_db (f : Nat → Int32) (x y : Int32) : Nat → Int32
  | 0 => -5
  | n + 1 => if (f (92 + 5 * n + 0) = x ∧ f (92 + 5 * n + 1) = y) ∨ (f (92 + 5 * n + 0) = y ∧ f (92 + 5 * n + 1) = x) then nI n else F_db f x y n
abbrev F_bit (a k : Int32) : Prop := (a >>> (k &&& 31)) &&& nI 1 = nI 1
def F_bits (v : Int32) : Nat → Int32
  | 0 => nI 0
  | k + 1 => F_bits v k + ((v >>> (nI k &&& 31)) &&& nI 1)
def F_oz (f : Nat → Int32) : Nat → Int32
  | 0 => nI 0
  | k + 1 => F_oz f k + f (8 + k)
def F_bar (f : Nat → Int32) (z : Nat) : Nat → Bool
  | 0 => false
  | k + 1 => F_bar f z k || (decide (F_bit (f (14 + z)) (nI k)) && decide (f (8 + k) = nI 1))
def F_ho (f : Nat → Int32) (key : Int32) : Nat → Int32
  | 0 => -5
  | g + 1 => if F_bit (f (192 + 10 * g + 6)) key then nI g else F_ho f key g
def F_gi (f : Nat → Int32) (v : Int32) : Nat → Nat
  | 0 => 0
  | g + 1 => F_gi f v g + (if f (192 + 10 * g + 0) = v then 1 else 0)
def F_ko (f : Nat → Int32) : Nat → Int32
  | 0 => nI 0
  | g + 1 => F_ko f g + F_bits (f (192 + 10 * g + 6)) 16
