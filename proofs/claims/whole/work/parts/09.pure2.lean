/-! more of the board -/
theorem rr_hit {own : Int → Int} {k : Int} (h1 : 1 ≤ k) (h : 0 < own k) : rr_f own k.toNat = k := by
  obtain ⟨n, hn⟩ : ∃ n : Nat, k.toNat = n + 1 := ⟨k.toNat - 1, by omega⟩
  have e : (n : Int) + 1 = k := by omega
  rw [hn]
  simp only [rr_f]
  rw [e, if_pos h]
theorem rr_miss {own : Int → Int} {k : Int} (h1 : 1 ≤ k) (h : own k ≤ 0) : rr_f own k.toNat = rr_f own (k + (-1)).toNat := by
  obtain ⟨n, hn⟩ : ∃ n : Nat, k.toNat = n + 1 := ⟨k.toNat - 1, by omega⟩
  have e : (n : Int) + 1 = k := by omega
  rw [hn, show (k + (-1)).toNat = n by omega]
  simp only [rr_f]
  rw [e, if_neg (by omega)]
theorem can_up {own oth : Int → Int} {f d : Int} (a1 : 1 ≤ f) (a2 : f ≤ 25) (hd : 1 ≤ d ∧ d ≤ 6) (a5 : own f ≠ 0) (a6 : f = 25 ∨ own 25 ≤ 0) (ht : 0 < f - d) : bd_can own oth f d ↔ oth (25 - (f - d)) ≤ 1 := by
  constructor
  · rintro ⟨-, -, -, -, -, -, q | q⟩
    · exact q.2
    · exact absurd q.1 (by omega)
  · intro h
    exact ⟨a1, a2, hd.1, hd.2, a5, a6, Or.inl ⟨ht, h⟩⟩
theorem can_home {own oth : Int → Int} (hO : bd_ok own) {f d : Int} (a1 : 1 ≤ f) (a2 : f ≤ 25) (hd : 1 ≤ d ∧ d ≤ 6) (a5 : own f ≠ 0) (a6 : f = 25 ∨ own 25 ≤ 0) (ht : f - d ≤ 0) : bd_can own oth f d ↔ rr_f own 25 ≤ 6 ∧ (f - d = 0 ∨ rr_f own 25 = f) := by
  have e6 := rr_le own (k := 6) (by decide) 25
  have ef := rr_eq (own := own) (f := f) (n := 25) a1 (by omega) (by have := hO.1 f; omega)
  rw [e6, ef]
  constructor
  · rintro ⟨-, -, -, -, -, -, q | ⟨q1, q2, q3⟩⟩
    · exact absurd q.1 (by omega)
    · exact ⟨fun x x1 x2 => q2 x (by omega) (by omega), q3.imp id (fun q3 x x1 x2 => q3 x x1 (by omega))⟩
  · rintro ⟨q2, q3⟩
    exact ⟨a1, a2, hd.1, hd.2, a5, a6, Or.inr ⟨ht, fun x x1 x2 => q2 x (by omega) (by omega), q3.imp id (fun q3 x x1 x2 => q3 x x1 (by omega))⟩⟩
theorem bd_hit_t {oth : Int → Int} {t : Int} (h : 0 < t ∧ 0 < oth (25 - t)) : bd_hit oth t = z_u (z_u oth (25 - t) (oth (25 - t) - 1)) 25 (z_u oth (25 - t) (oth (25 - t) - 1) 25 + 1) := if_pos h
theorem bd_hit_f {oth : Int → Int} {t : Int} (h : ¬ (0 < t ∧ 0 < oth (25 - t))) : bd_hit oth t = oth := if_neg h
