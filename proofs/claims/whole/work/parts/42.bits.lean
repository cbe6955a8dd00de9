/-! bits of the reference's sets, over Nat -/
theorem z_or (a b : Nat) : z_i (a : Int) ||| z_i (b : Int) = z_i ((a ||| b : Nat) : Int) := by
  rw [← z_nI, ← z_nI, ← z_nI]
  apply Int32.toBitVec_inj.1
  show BitVec.ofNat 32 a ||| BitVec.ofNat 32 b = BitVec.ofNat 32 (a ||| b)
  exact BitVec.ofNat_or.symm
theorem z_shl1n : ∀ n : Nat, n < 25 → z_i 1 <<< (z_i ((n : Nat) : Int) &&& 31) = z_i ((2 ^ n : Nat) : Int) := by decide
theorem z_shl1 {e : Int} (h : 0 ≤ e ∧ e ≤ 24) : z_i 1 <<< (z_i e &&& 31) = z_i ((2 ^ e.toNat : Nat) : Int) := by
  have := z_shl1n e.toNat (by omega)
  rw [Int.toNat_of_nonneg h.1] at this
  exact this
theorem z_shn : ∀ n : Nat, n < 25 → ((z_i ((n : Nat) : Int) &&& 31).toBitVec.smod 32).toNat = n := by decide
theorem z_shr {S : Nat} {k : Int} (hS : S < 2 ^ 25) (hk : 0 ≤ k ∧ k ≤ 24) : z_i (S : Int) >>> (z_i k &&& 31) = z_i ((S / 2 ^ k.toNat : Nat) : Int) := by
  have hq := z_shn k.toNat (by omega)
  rw [Int.toNat_of_nonneg hk.1] at hq
  rw [← z_nI, ← z_nI]
  exact pk_shrN (by omega) _ k.toNat hq
theorem z_and1 {n : Nat} (h : n < 2 ^ 31) : z_i (n : Int) &&& z_i 1 = z_i ((n % 2 : Nat) : Int) := by
  rw [← z_nI, ← z_nI]
  exact pk_andN (by omega) 1 (by decide)
theorem r_ix_lt {x y : Nat} (hx : x < 5) (hy : y < 5) : r_ix x y < 25 := by
  unfold r_ix
  split <;> omega
theorem or_lt {a b : Nat} (ha : a < 2 ^ 25) (hb : b < 2 ^ 25) : a ||| b < 2 ^ 25 := Nat.or_lt_two_pow ha hb
theorem r_mv_in {m o d : Nat} (hm : m < 5) : r_mv m o d = 9 ∨ r_mv m o d < 5 := by
  unfold r_mv
  split
  · exact Or.inl rfl
  · split
    · right; omega
    · split
      · exact Or.inl rfl
      · right; decide
theorem p2_lt {x y : Nat} (hx : x < 5) (hy : y < 5) : 2 ^ r_ix x y < 2 ^ 25 := Nat.pow_lt_pow_right (by decide) (r_ix_lt hx hy)
theorem r_st_lt {al die x y : Nat} (ha : al < 2 ^ 25) (hx : x < 5) (hy : y < 5) : r_st al die x y < 2 ^ 25 := by
  unfold r_st r_ad
  have h1 := r_mv_in (m := x) (o := y) (d := die) hx
  have h2 := r_mv_in (m := y) (o := x) (d := die) hy
  have key : (if r_mv x y die = 9 then al else al ||| 2 ^ r_ix (r_mv x y die) y) < 2 ^ 25 := by
    split
    · exact ha
    · exact or_lt ha (p2_lt (by omega) hy)
  show (if r_mv y x die = 9 then _ else _ ||| 2 ^ r_ix x (r_mv y x die)) < 2 ^ 25
  split
  · exact key
  · exact or_lt key (p2_lt hx (by omega))
theorem r_nx_lt (S die : Nat) : ∀ k : Nat, k ≤ 25 → r_nx S die k < 2 ^ 25
  | 0, _ => show (0 : Nat) < 2 ^ 25 by decide
  | k + 1, h => by
    simp only [r_nx]
    have := r_nx_lt S die k (by omega)
    split
    · exact r_st_lt this (by omega) (by omega)
    · exact this
theorem r_or_lt {a b : Nat} (ha : a < 2 ^ 25) (hb : b < 2 ^ 25) : r_or a b < 2 ^ 25 := by
  unfold r_or
  split
  · exact ha
  · exact hb
/-- a man's move as the reference answers it -/
def mvI (m o d : Int) : Int := if r_mv m.toNat o.toNat d.toNat = 9 then -1 else ((r_mv m.toNat o.toNat d.toNat : Nat) : Int)
theorem mvI_in {m o d : Int} (hm : r4 m) : (mvI m o d < 0 ∧ r_mv m.toNat o.toNat d.toNat = 9) ∨ (0 ≤ mvI m o d ∧ mvI m o d ≤ 4 ∧ r_mv m.toNat o.toNat d.toNat ≠ 9 ∧ (mvI m o d).toNat = r_mv m.toNat o.toNat d.toNat) := by
  have := r_mv_in (m := m.toNat) (o := o.toNat) (d := d.toNat) (by omega)
  unfold mvI
  split
  · left; omega
  · right; omega
theorem mvI_0 {m o d : Int} (h : m = 0) : (-1 : Int) = mvI m o d := by
  unfold mvI r_mv
  rw [if_pos (show m.toNat = 0 by omega), if_pos rfl]
theorem mvI_1 {m o d : Int} (hm : r4 m) (hd : 1 ≤ d) (h : m ≠ 0) (h1 : 0 ≤ m - d) : m - d = mvI m o d := by
  unfold mvI r_mv
  rw [if_neg (show ¬ m.toNat = 0 by omega), if_pos (show d.toNat ≤ m.toNat by omega), if_neg (show ¬ m.toNat - d.toNat = 9 by omega)]
  omega
theorem mvI_2 {m o d : Int} (hm : r4 m) (ho : r4 o) (hd : 1 ≤ d) (h : m ≠ 0) (h1 : m - d < 0) (h2 : m < o) : (-1 : Int) = mvI m o d := by
  unfold mvI r_mv
  rw [if_neg (show ¬ m.toNat = 0 by omega), if_neg (show ¬ d.toNat ≤ m.toNat by omega), if_pos (show m.toNat < o.toNat by omega), if_pos rfl]
theorem mvI_3 {m o d : Int} (hm : r4 m) (ho : r4 o) (hd : 1 ≤ d) (h : m ≠ 0) (h1 : m - d < 0) (h2 : o ≤ m) : (0 : Int) = mvI m o d := by
  unfold mvI r_mv
  rw [if_neg (show ¬ m.toNat = 0 by omega), if_neg (show ¬ d.toNat ≤ m.toNat by omega), if_neg (show ¬ m.toNat < o.toNat by omega), if_neg (by decide)]
  rfl
/-- one place of the scan -/
theorem nx_no {S die : Nat} {k : Int} (hk : 0 ≤ k) (h : ((S / 2 ^ k.toNat % 2 : Nat) : Int) ≠ 1) : r_nx S die (k + 1).toNat = r_nx S die k.toNat := by
  rw [show (k + 1).toNat = k.toNat + 1 by omega]
  simp only [r_nx]
  rw [if_neg (by omega)]
theorem nx_yes {S : Nat} {k die : Int} (hk : 0 ≤ k ∧ k < 25) (h : ((S / 2 ^ k.toNat % 2 : Nat) : Int) = 1) : r_nx S die.toNat (k + 1).toNat = (fun a2 => if mvI (k % 5) (k / 5) die < 0 then a2 else a2 ||| 2 ^ r_ix (k / 5).toNat (mvI (k % 5) (k / 5) die).toNat) (if mvI (k / 5) (k % 5) die < 0 then r_nx S die.toNat k.toNat else r_nx S die.toNat k.toNat ||| 2 ^ r_ix (mvI (k / 5) (k % 5) die).toNat (k % 5).toNat) := by
  rw [show (k + 1).toNat = k.toNat + 1 by omega]
  simp only [r_nx]
  rw [if_pos (by omega)]
  have e1 : k.toNat / 5 = (k / 5).toNat := by omega
  have e2 : k.toNat % 5 = (k % 5).toNat := by omega
  have i1 := mvI_in (m := k / 5) (o := k % 5) (d := die) ⟨by omega, by omega⟩
  have i2 := mvI_in (m := k % 5) (o := k / 5) (d := die) ⟨by omega, by omega⟩
  rw [e1, e2]
  unfold r_st r_ad
  rcases i1 with ⟨a1, a2⟩ | ⟨a1, a2, a3, a4⟩ <;> rcases i2 with ⟨c1, c2⟩ | ⟨c1, c2, c3, c4⟩
  · rw [if_pos a2, if_pos a1, if_pos c1]; exact if_pos c2
  · rw [if_pos a2, if_pos a1, if_neg (by omega), c4]; exact if_neg c3
  · rw [if_neg a3, if_neg (show ¬ mvI (k / 5) (k % 5) die < 0 by omega), if_pos c1, a4]; exact if_pos c2
  · rw [if_neg a3, if_neg (show ¬ mvI (k / 5) (k % 5) die < 0 by omega), if_neg (show ¬ mvI (k % 5) (k / 5) die < 0 by omega), a4, c4]; exact if_neg c3
theorem r_eq_s (a n now : Nat) : r_eq a (n + 1) now = r_eq a n (r_or now (r_nx now a 25)) := rfl
theorem r_out_eq {x y a b : Nat} (h : a = b) : r_out x y a b = r_eq a 4 (2 ^ r_ix x y) := if_pos h
theorem r_out_ne {x y a b : Nat} (h : a ≠ b) : r_out x y a b = (if (r_nx (r_nx (2 ^ r_ix x y) a 25) b 25 ||| r_nx (r_nx (2 ^ r_ix x y) b 25) a 25) ≠ 0 then (r_nx (r_nx (2 ^ r_ix x y) a 25) b 25 ||| r_nx (r_nx (2 ^ r_ix x y) b 25) a 25) else if r_nx (2 ^ r_ix x y) a 25 = 0 then r_nx (2 ^ r_ix x y) b 25 else if r_nx (2 ^ r_ix x y) b 25 = 0 then r_nx (2 ^ r_ix x y) a 25 else if b < a then r_nx (2 ^ r_ix x y) a 25 else r_nx (2 ^ r_ix x y) b 25) := if_neg h
/-- the outcomes: sorted pairs of fewer pips -/
def r_chk (x y : Nat) : Bool := (List.range 36).all (fun r => (List.range 25).all (fun k => !(r_tt x y r / 2 ^ k % 2 == 1) || (decide (k / 5 ≤ k % 5) && decide (k / 5 + k % 5 < x + y))))
set_option maxRecDepth 100000 in
theorem r_chk_ok : ∀ y, y < 5 → ∀ x, x < y + 1 → (y = 0 ∨ r_chk x y = true) := by decide +kernel
theorem r_out_is {x y r : Nat} (hxy : x ≤ y) (hy : y < 5) (hr : r < 36) (h0 : y ≠ 0) : r_out x y (1 + r / 6) (1 + r % 6) = r_tt x y r := by
  rcases r_tt_ok y hy x (by omega) r hr with e | e
  · exact absurd e h0
  · exact e
theorem r_bits {x y r k : Nat} (hxy : x ≤ y) (hy : y < 5) (h0 : y ≠ 0) (hr : r < 36) (hk : k < 25) (h : r_tt x y r / 2 ^ k % 2 = 1) : k / 5 ≤ k % 5 ∧ k / 5 + k % 5 < x + y := by
  have q := List.all_eq_true.mp (List.all_eq_true.mp ((r_chk_ok y hy x (by omega)).resolve_left h0) r (List.mem_range.mpr hr)) k (List.mem_range.mpr hk)
  simp only [h, Bool.or_eq_true, Bool.and_eq_true, decide_eq_true_eq, beq_self_eq_true, Bool.not_true, Bool.false_eq_true, false_or] at q
  exact q
theorem r_su_s2 {x y u v : Nat} (hxy : x ≤ y) (hy : y < 5) (h0 : y ≠ 0) : ∀ r : Nat, r ≤ 36 → r_su x y u v r = r_s2 x y u v r
  | 0, _ => rfl
  | r + 1, h => by
    simp only [r_su, r_s2]
    rw [r_su_s2 hxy hy h0 r (by omega), r_out_is hxy hy (by omega) h0]
theorem r_best_le (set u v : Nat) : ∀ k : Nat, r_best set u v k ≤ 2176782336
  | 0 => Nat.zero_le _
  | k + 1 => by
    have h := r_best_le set u v k
    have e : q_W = 2176782336 := rfl
    simp only [r_best]
    split <;> omega
theorem r_su_le (x y u v : Nat) : ∀ r : Nat, r_su x y u v r ≤ r * 2176782336
  | 0 => Nat.le_refl 0
  | r + 1 => by
    have h := r_su_le x y u v r
    have h2 := r_best_le (r_out x y (1 + r / 6) (1 + r % 6)) u v 25
    simp only [r_su]
    omega
theorem r_fin {x y u v : Nat} (hxy : x ≤ y) (hy : y < 5) (huv : u ≤ v) (hv : v < 5) (h0 : y ≠ 0) (h1 : v ≠ 0) : r_su x y u v 36 / 36 = q_ch x y u v := by
  rw [r_su_s2 hxy hy h0 36 (Nat.le_refl _)]
  rcases r_s2_ok y hy x (by omega) v hv u (by omega) with e | e | e
  · exact absurd e h0
  · exact absurd e h1
  · exact e
theorem q_pn_comm (a b : Nat) : q_pn a b = q_pn b a := by
  unfold q_pn
  rw [Nat.max_comm, Nat.min_comm]
theorem q_ch_comm (a b c d : Nat) : q_ch a b c d = q_ch b a c d ∧ q_ch a b c d = q_ch a b d c := by
  unfold q_ch
  exact ⟨by rw [q_pn_comm a b], by rw [q_pn_comm c d]⟩
