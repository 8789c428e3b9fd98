/-- all that the reference asks of its row as a minute passes -/
def P_min (σ : Nat → Int32) (nR nD nG nW mi : Nat) : Prop :=
  σ 2 = nI nR ∧ σ 4 = nI nG ∧ σ 0 = nI mi ∧ mi < 720 ∧ (∀ k, k ≤ nG → P_gb (F_gb σ nD k) k nD nG) ∧ (∀ k, k ≤ nG → P_gw (F_gw (F_watch (F_gb σ nD nG) nR nG mi) k) k nG) ∧ (∀ k, k ≤ nR → P_bd (F_bd (F_m3 σ nR nD nG mi) k) nR) ∧ (∀ k, k ≤ nW → P_wk (F_wk (F_m4 σ nR nD nG mi) k) k nW) ∧ (∀ k, k ≤ nW → F_wk (F_m4 σ nR nD nG mi) k 0 = nI mi)
/-- k minutes pass -/
def F_pst (σ : Nat → Int32) (nR nD nG nW mi : Nat) : Nat → (Nat → Int32)
  | 0 => σ
  | k + 1 => F_min (F_pst σ nR nD nG nW mi k) nR nD nG nW (mi + k)
def F_psn (σ : Nat → Int32) (nR nD nG nW mi : Nat) : Nat → Nat
  | 0 => 0
  | k + 1 => F_psn σ nR nD nG nW mi k + F_minn (F_pst σ nR nD nG nW mi k) nR nD nG nW (mi + k)
