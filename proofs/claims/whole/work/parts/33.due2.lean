/-! DUE of two different dice, and of one number beside an empty other -/
def bo_p (own oth : Int → Int) (d1 d2 : Int) : Prop := ∃ x, bd_can own oth x d1 ∧ ∃ y, bd_can (bd_sh own x d1) oth y d2
theorem bo_mk {g gm : Int → Int} {l f d d2 : Int} (hc : bd_can (lvO g l) (lvT g l) f d) (hm : mk_ok g gm l f d) : (∃ y, bd_can (lvO gm (l + 1)) (lvT gm (l + 1)) y d2) ↔ ∃ y, bd_can (bd_sh (lvO g l) f d) (lvT g l) y d2 := by
  obtain ⟨m1, m2, m3, m4⟩ := hm
  rw [m3, m4]
  have hb : bd_blk (lvT g l) (bd_hit (lvT g l) (f - d)) := bd_hit_blk (by have := hc.2.1; have := hc.2.2.1; omega) (by
    rcases hc.2.2.2.2.2.2 with q | q
    · exact Or.inl q.2
    · exact Or.inr q.1)
  exact ⟨fun ⟨y, q⟩ => ⟨y, bd_can_cong (bd_same_refl _) (bd_blk_symm hb) q⟩, fun ⟨y, q⟩ => ⟨y, bd_can_cong (bd_same_refl _) hb q⟩⟩
theorem dcf_hi (hi lo hs ls : Int) : dcf hi lo hs ls hi = hs := if_pos rfl
theorem dcf_lo {hi lo hs ls : Int} (h : lo ≠ hi) : dcf hi lo hs ls lo = ls := by unfold dcf; rw [if_neg h, if_pos rfl]
theorem dcf_no {hi lo hs ls x : Int} (h1 : x ≠ hi) (h2 : x ≠ lo) : dcf hi lo hs ls x = 0 := by unfold dcf; rw [if_neg h1, if_neg h2]
theorem dcf_pos {hi lo hs ls x : Int} (h : 0 < dcf hi lo hs ls x) : x = hi ∨ x = lo := by
  by_cases e : x = hi
  · exact Or.inl e
  · by_cases e2 : x = lo
    · exact Or.inr e2
    · rw [dcf_no e e2] at h
      omega
theorem rch1 {own oth : Int → Int} {hi lo hs ls : Int} (h1 : 0 < hs) (h2 : 0 < ls) (hne : lo ≠ hi) : bd_reach oth 1 (dcf hi lo hs ls) own ↔ (∃ x, bd_can own oth x hi) ∨ ∃ x, bd_can own oth x lo := by
  constructor
  · rintro ⟨f, d, q1, q2, -⟩
    rcases dcf_pos q1 with e | e
    · exact Or.inl ⟨f, e ▸ q2⟩
    · exact Or.inr ⟨f, e ▸ q2⟩
  · rintro (⟨x, q⟩ | ⟨x, q⟩)
    · exact ⟨x, hi, by rw [dcf_hi]; exact h1, q, trivial⟩
    · exact ⟨x, lo, by rw [dcf_lo hne]; exact h2, q, trivial⟩
theorem rch2 {own oth : Int → Int} {hi lo : Int} (hne : lo ≠ hi) : bd_reach oth 2 (dcf hi lo 1 1) own ↔ bo_p own oth hi lo ∨ bo_p own oth lo hi := by
  constructor
  · rintro ⟨f, d, q1, q2, f2, d2, q3, q4, -⟩
    rcases dcf_pos q1 with e | e
    · subst e
      left
      have e2 : d2 = lo := by
        by_cases z : d2 = d
        · exfalso
          rw [z, z_us, dcf_hi] at q3
          omega
        · rw [z_un z] at q3
          rcases dcf_pos q3 with y | y
          · exact absurd y z
          · exact y
      exact ⟨f, q2, f2, e2 ▸ q4⟩
    · subst e
      right
      have e2 : d2 = hi := by
        by_cases z : d2 = d
        · exfalso
          rw [z, z_us, dcf_lo hne] at q3
          omega
        · rw [z_un z] at q3
          rcases dcf_pos q3 with y | y
          · exact y
          · exact absurd y z
      exact ⟨f, q2, f2, e2 ▸ q4⟩
  · rintro (⟨x, q, y, q2⟩ | ⟨x, q, y, q2⟩)
    · refine ⟨x, hi, by rw [dcf_hi]; decide, q, y, lo, ?_, q2, trivial⟩
      rw [z_un hne, dcf_lo hne]
      decide
    · refine ⟨x, lo, by rw [dcf_lo hne]; decide, q, y, hi, ?_, q2, trivial⟩
      rw [z_un (fun e => hne e.symm), dcf_hi]
      decide
theorem due2_2 {own oth : Int → Int} {hi lo : Int} (hk : dk hi lo 1 1) (h : bo_p own oth hi lo ∨ bo_p own oth lo hi) : (2 : Int) = ((bd_due oth (dcf hi lo 1 1) own : Nat) : Int) := by
  have hne : lo ≠ hi := by have := hk.2.2.1; omega
  rw [bd_due_is (n := 2) (by decide) ((rch2 hne).mpr h) (fun q => by
    have := bd_lim oth 3 _ own (fun d => (dcf_nn hk d).1) q
    rw [dcf_sum hk] at this
    omega)]
  rfl
theorem due2_1 {own oth : Int → Int} {hi lo : Int} (hk : dk hi lo 1 1) (h : ¬ (bo_p own oth hi lo ∨ bo_p own oth lo hi)) (h1 : (∃ x, bd_can own oth x hi) ∨ ∃ x, bd_can own oth x lo) : (1 : Int) = ((bd_due oth (dcf hi lo 1 1) own : Nat) : Int) := by
  have hne : lo ≠ hi := by have := hk.2.2.1; omega
  rw [bd_due_is (n := 1) (by decide) ((rch1 (by decide) (by decide) hne).mpr h1) (fun q => h ((rch2 hne).mp q))]
  rfl
theorem due2_0 {own oth : Int → Int} {hi lo : Int} (hk : dk hi lo 1 1) (h1 : ¬ ((∃ x, bd_can own oth x hi) ∨ ∃ x, bd_can own oth x lo)) : (0 : Int) = ((bd_due oth (dcf hi lo 1 1) own : Nat) : Int) := by
  have hne : lo ≠ hi := by have := hk.2.2.1; omega
  rw [bd_due_is (n := 0) (by decide) trivial (fun q => h1 ((rch1 (by decide) (by decide) hne).mp q))]
  rfl
theorem due_hi {own oth : Int → Int} {hi lo hs ls : Int} (h : ls = 0) : bd_due oth (dcf hi 0 hs 0) own = bd_due oth (dcf hi lo hs ls) own := due_cong (bd_blk_refl _) (fun x x1 x2 => by
    subst h
    unfold dcf
    by_cases e : x = hi
    · rw [if_pos e, if_pos e]
    · rw [if_neg e, if_neg e, if_neg (show ¬ x = 0 by omega)]
      split <;> rfl) (bd_same_refl _)
theorem due_lo {own oth : Int → Int} {hi lo hs ls : Int} (hne : lo ≠ hi) (h : hs = 0) : bd_due oth (dcf lo 0 ls 0) own = bd_due oth (dcf hi lo hs ls) own := due_cong (bd_blk_refl _) (fun x x1 x2 => by
    subst h
    unfold dcf
    by_cases e : x = lo
    · rw [if_pos e, if_neg (show ¬ x = hi by omega), if_pos e]
    · rw [if_neg e, if_neg (show ¬ x = 0 by omega), if_neg e]
      split <;> rfl) (bd_same_refl _)
/-- a right move, as the reference asks -/
theorem rt_ref {own oth : Int → Int} {hi lo hs ls du f d : Int} (hk : dk hi lo hs ls) (hd : 1 ≤ d ∧ d ≤ 6) (hcan : bd_can own oth f d) (hpos : (d = hi ∧ 0 < hs) ∨ (d = lo ∧ 0 < ls)) (hgr : ¬ (du = 1 ∧ 0 < hs ∧ 0 < ls ∧ d = lo ∧ ∃ x, bd_can own oth x hi)) : rt_ok own oth (dcf hi lo hs ls) du f d ↔ m_due (bd_sh own f d) (bd_hit oth (f - d)) hi lo (dn_h hi hs d) (dn_l hi ls d) = du - 1 := by
  have hlt := hk.2.2.1
  have hp : 0 < dcf hi lo hs ls d := by
    rcases hpos with ⟨e, q⟩ | ⟨e, q⟩
    · rw [e, dcf_hi]; exact q
    · rw [e, dcf_lo (by omega)]; exact q
  have hdn := (dn_at hk (fun _ _ _ => rfl) hd hp).1
  have hdu : ((bd_due oth (z_u (dcf hi lo hs ls) d (dcf hi lo hs ls d - 1)) (bd_sh own f d) : Nat) : Int) = m_due (bd_sh own f d) (bd_hit oth (f - d)) hi lo (dn_h hi hs d) (dn_l hi ls d) := by
    unfold m_due
    congr 1
    refine due_cong (bd_hit_blk (by have := hcan.2.1; omega) ?_) hdn (bd_same_refl _)
    rcases hcan.2.2.2.2.2.2 with q | q
    · exact Or.inl q.2
    · exact Or.inr q.1
  constructor
  · rintro ⟨-, -, -, -, q⟩
    rw [← hdu]
    exact q
  · intro q
    refine ⟨hd, by omega, hcan, ?_, by rw [hdu]; exact q⟩
    rintro ⟨z1, gg, z2, z3, z4⟩
    have hg := dcf_pos z3
    rcases hpos with ⟨e, q1⟩ | ⟨e, q1⟩
    · omega
    · have eg : gg = hi := by omega
      rw [eg] at z3 z4
      rw [dcf_hi] at z3
      exact hgr ⟨z1, z3, q1, e, z4⟩
theorem rt_ref_gr {own oth : Int → Int} {hi lo hs ls du f d : Int} (hk : dk hi lo hs ls) (h : du = 1 ∧ 0 < hs ∧ 0 < ls ∧ d = lo ∧ ∃ x, bd_can own oth x hi) : ¬ rt_ok own oth (dcf hi lo hs ls) du f d := by
  rintro ⟨q1, q2, q3, q4, q5⟩
  have hlt := hk.2.2.1
  have := hk.1
  exact q4 ⟨h.1, hi, ⟨by omega, by omega⟩, by rw [dcf_hi]; exact h.2.1, h.2.2.2.2⟩
theorem rt_ref_no {own oth : Int → Int} {hi lo hs ls du f d : Int} (hk : dk hi lo hs ls) (h1 : ¬ (d = hi ∧ 0 < hs)) (h2 : ¬ (d = lo ∧ 0 < ls)) : ¬ rt_ok own oth (dcf hi lo hs ls) du f d := by
  rintro ⟨q1, q2, q3, q4, q5⟩
  have hnn := dcf_nn hk d
  have hpos : 0 < dcf hi lo hs ls d := by omega
  have hlt := hk.2.2.1
  rcases dcf_pos hpos with e | e
  · rw [e, dcf_hi] at hpos
    exact h1 ⟨e, hpos⟩
  · rw [e, dcf_lo (by omega)] at hpos
    exact h2 ⟨e, hpos⟩
