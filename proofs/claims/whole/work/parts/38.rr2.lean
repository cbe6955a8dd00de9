/-! the order of right moves: no negative place; a place found is a right move -/
theorem rf_neg {own oth dice : Int → Int} {us k : Int} (h : k < 0) : ∀ r : Nat, rf own oth dice us k r = -2
  | 0 => rfl
  | r + 1 => by
    simp only [rf]
    rw [if_neg (fun q => by have := rc_in own oth dice us (150 - (r + 1)); omega)]
    exact rf_neg h r
theorem rf_ex {own oth dice : Int → Int} {us k : Int} : ∀ r : Nat, r ≤ 150 → rf own oth dice us k r = -2 ∨ ∃ f d, (1 ≤ f ∧ f ≤ 25) ∧ (1 ≤ d ∧ d ≤ 6) ∧ rt_ok own oth dice us f d ∧ rf own oth dice us k r = 8 * f + d
  | 0, _ => Or.inl rfl
  | r + 1, hr => by
    simp only [rf]
    split
    · rename_i q
      right
      refine ⟨25 - (((150 - (r + 1)) / 6 : Nat) : Int), 6 - (((150 - (r + 1)) % 6 : Nat) : Int), ⟨by omega, by omega⟩, ⟨by omega, by omega⟩, ?_, rfl⟩
      have := q.1
      unfold rq at this
      exact b2_of (by omega)
    · exact rf_ex r (by omega)
