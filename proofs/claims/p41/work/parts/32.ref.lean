theorem nI_int {a : Nat} (h : a < 2 ^ 31) : (nI a).toInt = a := Int32.toInt_ofNat_of_lt h
theorem nI_div {a b : Nat} (ha : a < 2 ^ 31) (hb : b < 2 ^ 31) : nI a / nI b = nI (a / b) := by
  apply Int32.toInt_inj.mp
  have hd : a / b < 2 ^ 31 := Nat.lt_of_le_of_lt (Nat.div_le_self a b) ha
  have h0 : (0 : Int) ≤ (a : Int) / (b : Int) := Int.ediv_nonneg (by omega) (by omega)
  rw [Int32.toInt_div, nI_int ha, nI_int hb, nI_int hd, ← Int.ofNat_tdiv, Int.bmod_eq_of_le (by omega) (by omega)]
theorem nI_rem {a b : Nat} (ha : a < 2 ^ 31) (hb : b < 2 ^ 31) : nI a - nI a / nI b * nI b = nI (a % b) := by
  have e := Nat.div_add_mod a b
  have hm : a / b * b ≤ a := Nat.div_mul_le_self a b
  rw [nI_div ha hb, nI_mul, nI_sub hm ha]
  congr 1
  rw [Nat.mul_comm] at hm ⊢
  omega
/-- the room whose bound is due first among the first k, and the minutes left to it -/
def F_fd (σ : Nat → Int32) : Nat → Int32 × Int32
  | 0 => (-5, nI 10000)
  | k + 1 => if 0 < σ (20 + 6 * k + 1) ∧ 0 < σ (20 + 6 * k + 1) + nI 1 - σ (20 + 6 * k + 3) ∧ σ (20 + 6 * k + 1) + nI 1 - σ (20 + 6 * k + 3) < (F_fd σ k).2 then (nI k, σ (20 + 6 * k + 1) + nI 1 - σ (20 + 6 * k + 3)) else F_fd σ k
abbrev F_f1 (σ : Nat → Int32) (k : Nat) : Int32 := (F_fd σ k).1
/-- the run of unwatched minutes after k from lo on, and the longest one -/
def F_gr (σ : Nat → Int32) (x : Int32) (lo : Nat) : Nat → Int32
  | 0 => nI 0
  | k + 1 => if (σ (578 + (lo + k)) >>> (x &&& 31)) &&& nI 1 = nI 1 then nI 0 else F_gr σ x lo k + nI 1
def F_gm (σ : Nat → Int32) (x : Int32) (lo : Nat) : Nat → Int32
  | 0 => nI 0
  | k + 1 => if F_gm σ x lo k < F_gr σ x lo (k + 1) then F_gr σ x lo (k + 1) else F_gm σ x lo k
/-- what f tells of the stay that l others follow, among the first k places -/
def F_s (σ : Nat → Int32) (f : Nat → Int32) : Nat → Int32 → Int32
  | 0, _ => -5
  | k + 1, l => if 0 < σ (1298 + k) then (if l = 0 then f k else F_s σ f k (l - nI 1)) else F_s σ f k l
