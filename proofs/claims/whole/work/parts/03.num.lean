/-! NUMBERS: an int of the walk is z_i of an Int, a long z_l of one; contents of arrays z_a, z_al of a function over Int -/
def z_i (z : Int) : Int32 := Int32.ofInt z
def z_l (z : Int) : Int64 := Int64.ofInt z
def z_u (g : Int → Int) (a v : Int) : Int → Int := fun j => if j = a then v else g j
def z_a (g : Int → Int) : Nat → Int32 := fun j => z_i (g (j : Int))
def z_al (g : Int → Int) : Nat → Int64 := fun j => z_l (g (j : Int))
theorem z_us (g : Int → Int) (a v : Int) : z_u g a v a = v := if_pos rfl
theorem z_un {g : Int → Int} {a v j : Int} (h : j ≠ a) : z_u g a v j = g j := if_neg h
theorem z_uu (g : Int → Int) (a v w : Int) : z_u (z_u g a v) a w = z_u g a w := by
  funext j
  by_cases h : j = a
  · rw [h, z_us, z_us]
  · rw [z_un h, z_un h, z_un h]
theorem z_uid {g : Int → Int} {a v : Int} (h : v = g a) : z_u g a v = g := by
  funext j
  by_cases e : j = a
  · rw [e, z_us, h]
  · rw [z_un e]
theorem z_add (a b : Int) : z_i a + z_i b = z_i (a + b) := (Int32.ofInt_add a b).symm
theorem z_sub (a b : Int) : z_i a - z_i b = z_i (a - b) := (Int32.ofInt_sub a b).symm
theorem z_mul (a b : Int) : z_i a * z_i b = z_i (a * b) := (Int32.ofInt_mul a b).symm
theorem z_ladd (a b : Int) : z_l a + z_l b = z_l (a + b) := (Int64.ofInt_add a b).symm
theorem z_lsub (a b : Int) : z_l a - z_l b = z_l (a - b) := (Int64.ofInt_sub a b).symm
theorem z_lmul (a b : Int) : z_l a * z_l b = z_l (a * b) := (Int64.ofInt_mul a b).symm
abbrev z_r (a : Int) : Prop := -2147483648 ≤ a ∧ a < 2147483648
abbrev z_lr (a : Int) : Prop := -9223372036854775808 ≤ a ∧ a < 9223372036854775808
theorem z_r0 : z_r 0 := ⟨by decide, by decide⟩
theorem z_toInt {a : Int} (h : z_r a) : (z_i a).toInt = a := Int32.toInt_ofInt_of_le (by have := h.1; omega) (by have := h.2; omega)
theorem z_ltoInt {a : Int} (h : z_lr a) : (z_l a).toInt = a := Int64.toInt_ofInt_of_le (by have := h.1; omega) (by have := h.2; omega)
theorem z_of (x : Int32) : x = z_i x.toInt := (Int32.ofInt_toInt x).symm
theorem z_of_r (x : Int32) : z_r x.toInt := ⟨by have := x.le_toInt; omega, by have := x.toInt_lt; omega⟩
theorem z_le {a b : Int} (ha : z_r a) (hb : z_r b) : z_i a ≤ z_i b ↔ a ≤ b := by rw [Int32.le_iff_toInt_le, z_toInt ha, z_toInt hb]
theorem z_lt {a b : Int} (ha : z_r a) (hb : z_r b) : z_i a < z_i b ↔ a < b := by rw [Int32.lt_iff_toInt_lt, z_toInt ha, z_toInt hb]
theorem z_eq {a b : Int} (ha : z_r a) (hb : z_r b) : z_i a = z_i b ↔ a = b := by rw [← Int32.toInt_inj, z_toInt ha, z_toInt hb]
theorem z_lle {a b : Int} (ha : z_lr a) (hb : z_lr b) : z_l a ≤ z_l b ↔ a ≤ b := by rw [Int64.le_iff_toInt_le, z_ltoInt ha, z_ltoInt hb]
theorem z_llt {a b : Int} (ha : z_lr a) (hb : z_lr b) : z_l a < z_l b ↔ a < b := by rw [Int64.lt_iff_toInt_lt, z_ltoInt ha, z_ltoInt hb]
theorem z_leq {a b : Int} (ha : z_lr a) (hb : z_lr b) : z_l a = z_l b ↔ a = b := by rw [← Int64.toInt_inj, z_ltoInt ha, z_ltoInt hb]
theorem z_0 : z_i 0 = 0 := by decide
theorem z_l0 : z_l 0 = 0 := by decide
theorem z_clamp {a : Int} (h : 0 ≤ a ∧ a < 2147483648) : (z_i a).toNatClampNeg = a.toNat := by rw [← Int32.toNat_toInt, z_toInt ⟨by omega, h.2⟩]
theorem z_in {a : Int} {n : Nat} (h : 0 ≤ a ∧ a < (n : Int)) (hn : n < 2147483648) : vp_in (z_i a) n := vp_in_iff.mpr (by rw [z_toInt ⟨by omega, by omega⟩]; exact h)
theorem z_rd {g : Int → Int} {a : Int} (h : 0 ≤ a ∧ a < 2147483648) : z_a g (z_i a).toNatClampNeg = z_i (g a) := by rw [z_clamp h, z_a, Int.toNat_of_nonneg h.1]
theorem z_lrd {g : Int → Int} {a : Int} (h : 0 ≤ a ∧ a < 2147483648) : z_al g (z_i a).toNatClampNeg = z_l (g a) := by rw [z_clamp h, z_al, Int.toNat_of_nonneg h.1]
theorem z_wr {g : Int → Int} {a v : Int} (h : 0 ≤ a ∧ a < 2147483648) : upd (z_a g) (z_i a).toNatClampNeg (z_i v) = z_a (z_u g a v) := by
  rw [z_clamp h]
  funext j
  by_cases hj : j = a.toNat
  · have e : (j : Int) = a := by omega
    show (if j = a.toNat then z_i v else z_a g j) = z_i (z_u g a v (j : Int))
    rw [if_pos hj, e, z_us]
  · have e : ¬ (j : Int) = a := by omega
    show (if j = a.toNat then z_i v else z_a g j) = z_i (z_u g a v (j : Int))
    rw [if_neg hj, z_un e]
    rfl
theorem z_lwr {g : Int → Int} {a v : Int} (h : 0 ≤ a ∧ a < 2147483648) : vp_updL (z_al g) (z_i a).toNatClampNeg (z_l v) = z_al (z_u g a v) := by
  rw [z_clamp h]
  funext j
  by_cases hj : j = a.toNat
  · have e : (j : Int) = a := by omega
    show (if j = a.toNat then z_l v else z_al g j) = z_l (z_u g a v (j : Int))
    rw [if_pos hj, e, z_us]
  · have e : ¬ (j : Int) = a := by omega
    show (if j = a.toNat then z_l v else z_al g j) = z_l (z_u g a v (j : Int))
    rw [if_neg hj, z_un e]
    rfl
theorem z_ofN (n : Nat) : Int32.ofNat n = z_i (n : Int) := Int32.ofInt_eq_ofNat.symm
theorem z_lofN (n : Nat) : Int64.ofNat n = z_l (n : Int) := Int64.ofInt_eq_ofNat.symm
theorem z_nz {b : Int} (h : 0 < b ∧ b < 2147483648) : ¬ z_i b = 0 := fun q => by
  have e : z_i b = z_i 0 := by rw [q, z_0]
  have := (z_eq ⟨by omega, by omega⟩ z_r0).mp e
  omega
theorem z_lnz {b : Int} (h : 0 < b ∧ b < 9223372036854775808) : ¬ z_l b = 0 := fun q => by
  have e : z_l b = z_l 0 := by rw [q, z_l0]
  have := (z_leq ⟨by omega, by omega⟩ ⟨by omega, by omega⟩).mp e
  omega
theorem z_nat {a : Int} (h : 0 ≤ a) : z_i a = nI a.toNat := by
  show _ = Int32.ofNat _
  rw [z_ofN, Int.toNat_of_nonneg h]
theorem z_lnat {a : Int} (h : 0 ≤ a) : z_l a = lN a.toNat := by
  show _ = Int64.ofNat _
  rw [z_lofN, Int.toNat_of_nonneg h]
theorem z_nI (n : Nat) : nI n = z_i (n : Int) := z_ofN n
theorem z_lN (n : Nat) : lN n = z_l (n : Int) := z_lofN n
theorem z_div {a b : Int} (h : 0 ≤ a ∧ a < 2147483648 ∧ 0 < b ∧ b < 2147483648) : z_i a / z_i b = z_i (a / b) := by
  obtain ⟨n, rfl⟩ := Int.eq_ofNat_of_zero_le h.1
  obtain ⟨d, rfl⟩ := Int.eq_ofNat_of_zero_le (show 0 ≤ b by omega)
  have e := pk_div (a := n) (d := d) (by omega) (by omega) (by omega)
  rw [z_nI, z_nI, z_nI] at e
  rw [e, Int.natCast_ediv]
theorem z_rem {a b : Int} (h : 0 ≤ a ∧ a < 2147483648 ∧ 0 < b ∧ b < 2147483648) : z_i a - z_i a / z_i b * z_i b = z_i (a % b) := by
  obtain ⟨n, rfl⟩ := Int.eq_ofNat_of_zero_le h.1
  obtain ⟨d, rfl⟩ := Int.eq_ofNat_of_zero_le (show 0 ≤ b by omega)
  have e := pk_rem (a := n) (d := d) (by omega) (by omega) (by omega)
  rw [z_nI, z_nI, z_nI] at e
  rw [e, Int.natCast_emod]
theorem z_ldiv {a b : Int} (h : 0 ≤ a ∧ a < 9223372036854775808 ∧ 0 < b ∧ b < 9223372036854775808) : z_l a / z_l b = z_l (a / b) := by
  obtain ⟨n, rfl⟩ := Int.eq_ofNat_of_zero_le h.1
  obtain ⟨d, rfl⟩ := Int.eq_ofNat_of_zero_le (show 0 ≤ b by omega)
  have e := pk_lDiv (a := n) (b := d) (by omega) (by omega) (by omega)
  rw [z_lN, z_lN, z_lN] at e
  rw [e, Int.natCast_ediv]
theorem z_i2l {a : Int} (h : z_r a) : (z_i a).toInt64 = z_l a := by
  apply Int64.toInt_inj.mp
  rw [Int32.toInt_toInt64, z_toInt h, z_ltoInt ⟨by omega, by omega⟩]
/-- what a compare of longs leaves -/
def z_cmp (a b : Int) : Int := if b < a then 1 else if a = b then 0 else -1
theorem z_cmp_r (a b : Int) : z_r (z_cmp a b) := by
  unfold z_cmp
  split
  · exact ⟨by decide, by decide⟩
  · split <;> exact ⟨by decide, by decide⟩
theorem z_cmp_pos {a b : Int} : 0 < z_cmp a b ↔ b < a := by
  unfold z_cmp
  split
  · omega
  · split <;> omega
theorem z_cmp_0 {a b : Int} : z_cmp a b = 0 ↔ a = b := by
  unfold z_cmp
  split
  · omega
  · split <;> omega
theorem z_lcmp {a b : Int} (ha : z_lr a) (hb : z_lr b) : lg_cmp (z_l a) (z_l b) = z_i (z_cmp a b) := by
  unfold lg_cmp z_cmp
  by_cases h : b < a
  · rw [if_pos ((z_llt hb ha).mpr h), if_pos h]; rfl
  · rw [if_neg (fun q => h ((z_llt hb ha).mp q)), if_neg h]
    by_cases e : a = b
    · rw [if_pos ((z_leq ha hb).mpr e), if_pos e]; rfl
    · rw [if_neg (fun q => e ((z_leq ha hb).mp q)), if_neg e]; rfl
/-- a truth as a number -/
noncomputable def b2 (P : Prop) : Int := @ite Int P (Classical.propDecidable P) 1 0
theorem b2_t {P : Prop} (h : P) : b2 P = 1 := @if_pos P (Classical.propDecidable P) h Int 1 0
theorem b2_f {P : Prop} (h : ¬ P) : b2 P = 0 := @if_neg P (Classical.propDecidable P) h Int 1 0
theorem b2_of {P : Prop} (h : b2 P ≠ 0) : P := Classical.byContradiction fun q => h (b2_f q)
theorem b2_not {P : Prop} (h : b2 P = 0) : ¬ P := fun q => by rw [b2_t q] at h; exact absurd h (by decide)
theorem b2_r (P : Prop) : z_r (b2 P) := by
  rcases Classical.em P with h | h
  · rw [b2_t h]; exact ⟨by decide, by decide⟩
  · rw [b2_f h]; exact ⟨by decide, by decide⟩
theorem b2_01 (P : Prop) : b2 P = 0 ∨ b2 P = 1 := by
  rcases Classical.em P with h | h
  · exact Or.inr (b2_t h)
  · exact Or.inl (b2_f h)
theorem b2_cong {P Q : Prop} (h : P ↔ Q) : b2 P = b2 Q := by rw [propext h]
theorem z_nar {a : Int} (h : a = 0 ∨ a = 1) : narrow .boolean (.int (z_i a)) = .int (z_i a) := by
  rcases h with rfl | rfl <;> rfl
theorem z_fitz {a : Int} (h : a = 0 ∨ a = 1) : fits .boolean (.int (z_i a)) = true := by
  rcases h with rfl | rfl <;> rfl
def z_mx (a b : Int) : Int := if a < b then b else a
def z_mn (a b : Int) : Int := if b < a then b else a
theorem z_mx_is (a b : Int) : (a < b ∧ z_mx a b = b) ∨ (b ≤ a ∧ z_mx a b = a) := by
  unfold z_mx
  split <;> omega
theorem z_mn_is (a b : Int) : (b < a ∧ z_mn a b = b) ∨ (a ≤ b ∧ z_mn a b = a) := by
  unfold z_mn
  split <;> omega
theorem z_max (a b : Int) (ha : z_r a) (hb : z_r b) : (if z_i a < z_i b then z_i b else z_i a) = z_i (z_mx a b) := by
  unfold z_mx
  by_cases h : a < b
  · rw [if_pos ((z_lt ha hb).mpr h), if_pos h]
  · rw [if_neg (fun q => h ((z_lt ha hb).mp q)), if_neg h]
theorem z_min (a b : Int) (ha : z_r a) (hb : z_r b) : (if z_i b < z_i a then z_i b else z_i a) = z_i (z_mn a b) := by
  unfold z_mn
  by_cases h : b < a
  · rw [if_pos ((z_lt hb ha).mpr h), if_pos h]
  · rw [if_neg (fun q => h ((z_lt hb ha).mp q)), if_neg h]
theorem z_ui (g : Int → Int) (a v j : Int) : (j = a ∧ z_u g a v j = v) ∨ (j ≠ a ∧ z_u g a v j = g j) := by
  by_cases h : j = a
  · exact Or.inl ⟨h, by rw [h, z_us]⟩
  · exact Or.inr ⟨h, z_un h⟩
def st_men (x : Int) : Int := if x = 6 ∨ x = 13 then 5 else if x = 8 then 3 else if x = 24 then 2 else 0
theorem w_fm {ws w : va_W} {is : List Nat} (h : is.map (fun i => ws[i]?) = w.map some) : is.filterMap (fun i => ws[i]?) = w := by
  have e : is.filterMap (fun i => ws[i]?) = (is.map (fun i => ws[i]?)).filterMap id := by rw [List.filterMap_map]; rfl
  rw [e, h, List.filterMap_map]
  simp
