/-! right moves in their order: t = 6 * (25 - from) + (6 - die) -/
noncomputable def rq (own oth dice : Int → Int) (us : Int) (t : Nat) : Int := b2 (rt_ok own oth dice us (25 - ((t / 6 : Nat) : Int)) (6 - ((t % 6 : Nat) : Int)))
noncomputable def rc (own oth dice : Int → Int) (us : Int) : Nat → Int
  | 0 => 0
  | t + 1 => rc own oth dice us t + rq own oth dice us t
theorem rq_at (own oth dice : Int → Int) (us : Int) {f d : Int} (hf : 1 ≤ f ∧ f ≤ 25) (hd : 1 ≤ d ∧ d ≤ 6) : rq own oth dice us (6 * (25 - f) + (6 - d)).toNat = b2 (rt_ok own oth dice us f d) := by
  unfold rq
  rw [show (25 : Int) - (((6 * (25 - f) + (6 - d)).toNat / 6 : Nat) : Int) = f by omega, show (6 : Int) - (((6 * (25 - f) + (6 - d)).toNat % 6 : Nat) : Int) = d by omega]
theorem rc_in (own oth dice : Int → Int) (us : Int) : ∀ t : Nat, 0 ≤ rc own oth dice us t ∧ rc own oth dice us t ≤ (t : Int)
  | 0 => ⟨Int.le_refl 0, Int.le_refl 0⟩
  | t + 1 => by
    have := rc_in own oth dice us t
    have h := b2_01 (rt_ok own oth dice us (25 - ((t / 6 : Nat) : Int)) (6 - ((t % 6 : Nat) : Int)))
    simp only [rc, rq]
    omega
theorem rc_t {own oth dice : Int → Int} {us f d : Int} (hf : 1 ≤ f ∧ f ≤ 25) (hd : 1 ≤ d ∧ d ≤ 6) (h : rt_ok own oth dice us f d) : rc own oth dice us (6 * (25 - f) + (6 - (d + (-1)))).toNat = rc own oth dice us (6 * (25 - f) + (6 - d)).toNat + 1 := by
  rw [show (6 * (25 - f) + (6 - (d + (-1)))).toNat = (6 * (25 - f) + (6 - d)).toNat + 1 by omega]
  simp only [rc]
  rw [rq_at own oth dice us hf hd, b2_t h]
theorem rc_f {own oth dice : Int → Int} {us f d : Int} (hf : 1 ≤ f ∧ f ≤ 25) (hd : 1 ≤ d ∧ d ≤ 6) (h : ¬ rt_ok own oth dice us f d) : rc own oth dice us (6 * (25 - f) + (6 - (d + (-1)))).toNat = rc own oth dice us (6 * (25 - f) + (6 - d)).toNat := by
  rw [show (6 * (25 - f) + (6 - (d + (-1)))).toNat = (6 * (25 - f) + (6 - d)).toNat + 1 by omega]
  simp only [rc]
  rw [rq_at own oth dice us hf hd, b2_f h]
  omega
/-- the k-th right move, as 8 * from + die, or -2: the search from place t on, r places left -/
noncomputable def rf (own oth dice : Int → Int) (us k : Int) : Nat → Int
  | 0 => -2
  | r + 1 => if rq own oth dice us (150 - (r + 1)) = 1 ∧ rc own oth dice us (150 - (r + 1)) = k then 8 * (25 - (((150 - (r + 1)) / 6 : Nat) : Int)) + (6 - (((150 - (r + 1)) % 6 : Nat) : Int)) else rf own oth dice us k r
abbrev rf_r (f d : Int) : Nat := (150 - (6 * (25 - f) + (6 - d))).toNat
theorem rf_t {own oth dice : Int → Int} {us k f d : Int} (hf : 1 ≤ f ∧ f ≤ 25) (hd : 1 ≤ d ∧ d ≤ 6) (h : rt_ok own oth dice us f d) (hk : rc own oth dice us (6 * (25 - f) + (6 - d)).toNat = k) : rf own oth dice us k (rf_r f d) = 8 * f + d := by
  obtain ⟨r, hr⟩ : ∃ r : Nat, rf_r f d = r + 1 := ⟨rf_r f d - 1, by unfold rf_r; omega⟩
  have e : 150 - (r + 1) = (6 * (25 - f) + (6 - d)).toNat := by unfold rf_r at hr; omega
  rw [hr]
  simp only [rf]
  rw [e, rq_at own oth dice us hf hd, b2_t h, if_pos ⟨rfl, hk⟩]
  omega
theorem rf_f {own oth dice : Int → Int} {us k f d : Int} (hf : 1 ≤ f ∧ f ≤ 25) (hd : 1 ≤ d ∧ d ≤ 6) (h : ¬ (rt_ok own oth dice us f d ∧ rc own oth dice us (6 * (25 - f) + (6 - d)).toNat = k)) : rf own oth dice us k (rf_r f d) = rf own oth dice us k (rf_r f (d + (-1))) := by
  obtain ⟨r, hr⟩ : ∃ r : Nat, rf_r f d = r + 1 := ⟨rf_r f d - 1, by unfold rf_r; omega⟩
  have e : 150 - (r + 1) = (6 * (25 - f) + (6 - d)).toNat := by unfold rf_r at hr; omega
  have e2 : rf_r f (d + (-1)) = r := by unfold rf_r at hr ⊢; omega
  rw [hr, e2]
  simp only [rf]
  rw [e, rq_at own oth dice us hf hd, if_neg]
  intro q
  exact h ⟨Classical.byContradiction fun z => by rw [b2_f z] at q; exact absurd q.1 (by decide), q.2⟩
/-- the dice that a roll leaves -/
def tk_z (dice : Int → Int) (n : Int) : Int → Int := fun j => if 1 ≤ j ∧ j < n then 0 else dice j
theorem tk_z1 (dice : Int → Int) : tk_z dice 1 = dice := by
  funext j
  exact if_neg (by omega)
theorem tk_zs (dice : Int → Int) {n : Int} (h : 1 ≤ n) : z_u (tk_z dice n) n 0 = tk_z dice (n + 1) := by
  funext j
  by_cases e : j = n
  · rw [e, z_us]
    exact (if_pos (by omega)).symm
  · rw [z_un e]
    unfold tk_z
    by_cases q : 1 ≤ j ∧ j < n
    · rw [if_pos q, if_pos (by omega)]
    · rw [if_neg q, if_neg (by omega)]
def tk_n (a b : Int) : Int := if a = b then 2 else 1
def tk_d (dice : Int → Int) (a b : Int) : Int → Int := z_u (z_u (tk_z dice 7) a (tk_z dice 7 a + tk_n a b)) b (z_u (tk_z dice 7) a (tk_z dice 7 a + tk_n a b) b + tk_n a b)
theorem tk_at (dice : Int → Int) {a b x : Int} (ha : 1 ≤ a ∧ a ≤ 6) (hb : 1 ≤ b ∧ b ≤ 6) (hx : 1 ≤ x ∧ x ≤ 6) : tk_d dice a b x = if a = b then (if x = a then 4 else 0) else (if x = a ∨ x = b then 1 else 0) := by
  have z : ∀ y : Int, 1 ≤ y ∧ y ≤ 6 → tk_z dice 7 y = 0 := fun y hy => if_pos ⟨hy.1, by omega⟩
  unfold tk_d tk_n
  by_cases e : a = b
  · subst e
    rw [if_pos rfl, if_pos rfl, z_us, z_uu]
    by_cases q : x = a
    · rw [q, z_us, if_pos rfl, z a ha]; rfl
    · rw [z_un q, if_neg q, z x hx]
  · rw [if_neg e, if_neg e, z_un (fun q => e q.symm), z a ha, z b hb]
    by_cases q : x = b
    · rw [q, z_us, if_pos (Or.inr rfl)]; rfl
    · rw [z_un q]
      by_cases q2 : x = a
      · rw [q2, z_us, if_pos (Or.inl rfl)]; rfl
      · rw [z_un q2, if_neg (by omega), z x hx]
theorem tk_sum (dice : Int → Int) {a b : Int} (ha : 1 ≤ a ∧ a ≤ 6) (hb : 1 ≤ b ∧ b ≤ 6) : bd_sum (tk_d dice a b) = 2 * tk_n a b := by
  unfold tk_d
  have z : ∀ y : Int, 1 ≤ y ∧ y ≤ 6 → tk_z dice 7 y = 0 := fun y hy => if_pos ⟨hy.1, by omega⟩
  rw [bd_sum_u _ hb.1 hb.2, bd_sum_u _ ha.1 ha.2]
  have e : bd_sum (tk_z dice 7) = 0 := by
    unfold bd_sum
    rw [z 1 ⟨by decide, by decide⟩, z 2 ⟨by decide, by decide⟩, z 3 ⟨by decide, by decide⟩, z 4 ⟨by decide, by decide⟩, z 5 ⟨by decide, by decide⟩, z 6 ⟨by decide, by decide⟩]
    rfl
  rw [e]
  omega
theorem tk_ok {dice : Int → Int} (h : dc_ok dice) {a b : Int} (ha : 1 ≤ a ∧ a ≤ 6) (hb : 1 ≤ b ∧ b ≤ 6) : dc_ok (tk_d dice a b) := fun x => by
  by_cases hx : 1 ≤ x ∧ x ≤ 6
  · rw [tk_at dice ha hb hx]
    split
    · split <;> omega
    · split <;> omega
  · unfold tk_d
    rw [z_un (by omega), z_un (by omega)]
    unfold tk_z
    rw [if_neg (by omega)]
    exact h x
theorem tk_n_is (a b : Int) : (a = b ∧ tk_n a b = 2) ∨ (a ≠ b ∧ tk_n a b = 1) := by
  unfold tk_n
  split <;> omega
