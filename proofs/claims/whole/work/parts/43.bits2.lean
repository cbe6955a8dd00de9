theorem mvI_lo (m o d : Int) : -1 ≤ mvI m o d := by
  unfold mvI
  split <;> omega
theorem r_tt_lt : ∀ y, y < 5 → ∀ x, x < y + 1 → ∀ r, r < 36 → r_tt x y r < 2 ^ 25 := by decide +kernel
theorem best_s {se u v : Nat} {k here : Int} (hk : 0 ≤ k) (hh : here = if ((se / 2 ^ k.toNat % 2 : Nat) : Int) = 1 then 2176782336 - ((q_ch u v (k / 5).toNat (k % 5).toNat : Nat) : Int) else 0) (hq : q_ch u v (k / 5).toNat (k % 5).toNat ≤ q_W) : ((r_best se u v (k + 1).toNat : Nat) : Int) = z_mx ((r_best se u v k.toNat : Nat) : Int) here := by
  rw [show (k + 1).toNat = k.toNat + 1 by omega]
  simp only [r_best]
  have e : q_W = 2176782336 := rfl
  have e1 : k.toNat / 5 = (k / 5).toNat := by omega
  have e2 : k.toNat % 5 = (k % 5).toNat := by omega
  rw [e1, e2, hh]
  have hm := z_mx_is ((r_best se u v k.toNat : Nat) : Int) (if ((se / 2 ^ k.toNat % 2 : Nat) : Int) = 1 then 2176782336 - ((q_ch u v (k / 5).toNat (k % 5).toNat : Nat) : Int) else 0)
  by_cases h : se / 2 ^ k.toNat % 2 = 1
  · rw [if_pos h]
    rw [if_pos (by omega)] at hm ⊢
    omega
  · rw [if_neg h]
    rw [if_neg (by omega)] at hm ⊢
    omega
theorem z_cmp_le {a b : Int} (h : z_cmp a b ≤ 0) : a ≤ b := by
  have := z_cmp_pos (a := a) (b := b)
  omega
