/-! THE REFERENCE's levels: tried holds 52 places a level, the mover's men and the other's -/
def lvO (g : Int → Int) (l : Int) : Int → Int := fun x => if 0 ≤ x ∧ x ≤ 25 then g (52 * l + x) else 0
def lvT (g : Int → Int) (l : Int) : Int → Int := fun x => if 0 ≤ x ∧ x ≤ 25 then g (52 * l + 26 + x) else 0
def gb (g : Int → Int) : Prop := ∀ j, 0 ≤ g j ∧ g j ≤ 15
theorem lvO_at {g : Int → Int} {l x : Int} (h : 0 ≤ x ∧ x ≤ 25) : lvO g l x = g (52 * l + x) := if_pos h
theorem lvT_at {g : Int → Int} {l x : Int} (h : 0 ≤ x ∧ x ≤ 25) : lvT g l x = g (52 * l + 26 + x) := if_pos h
theorem lv_eq {b b' : Int → Int} (h : bd_ok b) (h' : ∀ x, x < 0 ∨ 25 < x → b' x = 0) (e : ∀ x, 0 ≤ x → x ≤ 25 → b' x = b x) : b' = b := by
  funext x
  by_cases q : 0 ≤ x ∧ x ≤ 25
  · exact e x q.1 q.2
  · rw [h' x (by omega), h.2.1 x (by omega)]
theorem lvO_out (g : Int → Int) (l : Int) : ∀ x, x < 0 ∨ 25 < x → lvO g l x = 0 := fun x h => if_neg (by omega)
theorem lvT_out (g : Int → Int) (l : Int) : ∀ x, x < 0 ∨ 25 < x → lvT g l x = 0 := fun x h => if_neg (by omega)
theorem lv_cong {g g' : Int → Int} {l : Int} (h : ∀ j, 52 * l ≤ j → j < 52 * l + 52 → g' j = g j) : lvO g' l = lvO g l ∧ lvT g' l = lvT g l := by
  constructor
  · funext x
    unfold lvO
    split
    · exact h _ (by omega) (by omega)
    · rfl
  · funext x
    unfold lvT
    split
    · exact h _ (by omega) (by omega)
    · rfl
theorem gb_u {g : Int → Int} (h : gb g) {i v : Int} (hv : 0 ≤ v ∧ v ≤ 15) : gb (z_u g i v) := fun j => by
  have := z_ui g i v j
  have := h j
  omega
/-- what the reference's 'can' reads -/
theorem can_r {g : Int → Int} {l f d : Int} (a1 : 1 ≤ f ∧ f ≤ 25) (hd : 1 ≤ d ∧ d ≤ 6) : bd_can (lvO g l) (lvT g l) f d ↔ g (52 * l + f) ≠ 0 ∧ (f = 25 ∨ g (52 * l + 25) ≤ 0) ∧ ((0 < f - d ∧ g (52 * l + 26 + 25 - (f - d)) ≤ 1) ∨ (f - d ≤ 0 ∧ (∀ x, 7 ≤ x → x ≤ 25 → g (52 * l + x) ≤ 0) ∧ (f - d = 0 ∨ ∀ x, f < x → x ≤ 25 → g (52 * l + x) ≤ 0))) := by
  have e1 : lvO g l f = g (52 * l + f) := lvO_at ⟨by omega, by omega⟩
  have e2 : lvO g l 25 = g (52 * l + 25) := lvO_at ⟨by omega, by omega⟩
  have e3 : ∀ x, 0 ≤ x ∧ x ≤ 25 → lvO g l x = g (52 * l + x) := fun x hx => lvO_at hx
  have e4 : 0 < f - d → lvT g l (25 - (f - d)) = g (52 * l + 26 + 25 - (f - d)) := fun q => by
    rw [lvT_at ⟨by omega, by omega⟩]
    congr 1
    omega
  unfold bd_can
  rw [e1, e2]
  constructor
  · rintro ⟨-, -, -, -, q1, q2, q3⟩
    refine ⟨q1, q2, ?_⟩
    rcases q3 with q | ⟨q, q4, q5⟩
    · exact Or.inl ⟨q.1, by rw [← e4 q.1]; exact q.2⟩
    · exact Or.inr ⟨q, fun x x1 x2 => by rw [← e3 x (by omega)]; exact q4 x x1 x2, q5.imp id (fun q5 x x1 x2 => by rw [← e3 x (by omega)]; exact q5 x x1 x2)⟩
  · rintro ⟨q1, q2, q3⟩
    refine ⟨a1.1, a1.2, hd.1, hd.2, q1, q2, ?_⟩
    rcases q3 with q | ⟨q, q4, q5⟩
    · exact Or.inl ⟨q.1, by rw [e4 q.1]; exact q.2⟩
    · exact Or.inr ⟨q, fun x x1 x2 => by rw [e3 x (by omega)]; exact q4 x x1 x2, q5.imp id (fun q5 x x1 x2 => by rw [e3 x (by omega)]; exact q5 x x1 x2)⟩
/-- what 'make' leaves -/
def mk_ok (g g' : Int → Int) (l f d : Int) : Prop := gb g' ∧ (∀ j, j < 52 * l + 52 → g' j = g j) ∧ lvO g' (l + 1) = bd_sh (lvO g l) f d ∧ lvT g' (l + 1) = bd_hit (lvT g l) (f - d)
theorem mk_fin {g gk : Int → Int} {l f d to : Int} (hgk : gb gk) (hlo : ∀ j, j < 52 * l + 52 → gk j = g j) (hup : ∀ i, 0 ≤ i → i < 52 → gk (52 * l + 52 + i) = g (52 * l + i)) (hO : bd_ok (lvO g l)) (hT : bd_ok (lvT g l)) (hc : bd_can (lvO g l) (lvT g l) f d) (hto : to = bd_to f d) {g3 : Int → Int}
    (e3 : g3 = z_u (z_u gk (52 * l + 52 + f) (gk (52 * l + 52 + f) - 1)) (52 * l + 52 + to) (z_u gk (52 * l + 52 + f) (gk (52 * l + 52 + f) - 1) (52 * l + 52 + to) + 1)) :
    (¬ (0 < to ∧ g3 (52 * l + 52 + 26 + 25 - to) = 1) → mk_ok g g3 l f d) ∧ (0 < to ∧ g3 (52 * l + 52 + 26 + 25 - to) = 1 → mk_ok g (z_u (z_u g3 (52 * l + 52 + 26 + 25 - to) 0) (52 * l + 52 + 26 + 25) (z_u g3 (52 * l + 52 + 26 + 25 - to) 0 (52 * l + 52 + 26 + 25) + 1)) l f d) := by
  obtain ⟨c1, c2, c3, c4, c5, c6, c7⟩ := hc
  obtain ⟨t1, t2, t3, t4⟩ := bd_to_in c1 c2 c3
  rw [← hto] at t1 t2 t3 t4
  have hbt : to = z_mx 0 (f - d) := hto
  have hmx := z_mx_is 0 (f - d)
  have ownf : lvO g l f = g (52 * l + f) := lvO_at ⟨by omega, by omega⟩
  have ownt : lvO g l to = g (52 * l + to) := lvO_at ⟨by omega, by omega⟩
  have hshok := bd_sh_ok hO c1 c2 c3 c5
  have hhitok := bd_hit_ok hT (t := f - d) (by omega)
  have u1 := hup f (by omega) (by omega)
  have u2 := hup to (by omega) (by omega)
  have s1 := bd_b hshok to
  have s2 := bd_sh_at (own := lvO g l) (f := f) (d := d) (by rw [← hto]; exact t3) to
  rw [← hto, if_pos rfl, ownt] at s2
  have hf1 := bd_b hO f
  have g3gb : gb g3 := by
    rw [e3]
    refine gb_u (gb_u hgk ⟨by rw [u1]; omega, by have := hgk (52 * l + 52 + f); omega⟩) ?_
    rw [z_un (by omega), u2]
    have := hgk (52 * l + 52 + to)
    omega
  have g3own : ∀ x, 0 ≤ x → x ≤ 25 → g3 (52 * l + 52 + x) = bd_sh (lvO g l) f d x := fun x x1 x2 => by
    rw [bd_sh_at (by rw [← hto]; exact t3) x, ← hto, e3]
    have ux := hup x x1 (by omega)
    have ox : lvO g l x = g (52 * l + x) := lvO_at ⟨x1, x2⟩
    by_cases q : x = to
    · rw [q, z_us, z_un (by omega), if_pos rfl, u2, ownt]
    · rw [z_un (by omega), if_neg q]
      by_cases q2 : x = f
      · rw [q2, z_us, if_pos rfl, u1, ownf]
      · rw [z_un (by omega), if_neg q2, ux, ox]
  have g3oth : ∀ x, 0 ≤ x → x ≤ 25 → g3 (52 * l + 52 + 26 + x) = lvT g l x := fun x x1 x2 => by
    rw [lvT_at ⟨x1, x2⟩, e3, z_un (by omega), z_un (by omega), show 52 * l + 52 + 26 + x = 52 * l + 52 + (26 + x) by omega, hup (26 + x) (by omega) (by omega)]
    congr 1
    omega
  have g3lo : ∀ j, j < 52 * l + 52 → g3 j = g j := fun j hj => by
    rw [e3, z_un (by omega), z_un (by omega)]
    exact hlo j hj
  have eq52 : 52 * (l + 1) = 52 * l + 52 := by omega
  constructor
  · intro hn
    refine ⟨g3gb, g3lo, lv_eq hshok (lvO_out _ _) (fun x x1 x2 => ?_), lv_eq hhitok (lvT_out _ _) (fun x x1 x2 => ?_)⟩
    · rw [lvO_at ⟨x1, x2⟩, eq52]
      exact g3own x x1 x2
    · rw [lvT_at ⟨x1, x2⟩, eq52, g3oth x x1 x2, bd_hit_f]
      rintro ⟨q1, q2⟩
      have h25 := g3oth (25 - to) (by omega) (by omega)
      rw [show 52 * l + 52 + 26 + (25 - to) = 52 * l + 52 + 26 + 25 - to by omega] at h25
      refine hn ⟨by omega, ?_⟩
      rw [h25]
      have hto2 : f - d = to := by omega
      rw [hto2] at q2 c7
      rcases c7 with q | q
      · omega
      · omega
  · rintro ⟨q1, q2⟩
    have hto2 : f - d = to := by omega
    have h25 := g3oth (25 - to) (by omega) (by omega)
    rw [show 52 * l + 52 + 26 + (25 - to) = 52 * l + 52 + 26 + 25 - to by omega] at h25
    have hb : 0 < f - d ∧ 0 < lvT g l (25 - (f - d)) := by rw [hto2]; omega
    have hbar := g3oth 25 (by omega) (by omega)
    have hbk := bd_b hhitok 25
    have hval : bd_hit (lvT g l) (f - d) 25 = lvT g l 25 + 1 := by rw [bd_hit_t hb, z_us, z_un (by omega)]
    refine ⟨?_, fun j hj => ?_, lv_eq hshok (lvO_out _ _) (fun x x1 x2 => ?_), lv_eq hhitok (lvT_out _ _) (fun x x1 x2 => ?_)⟩
    · refine gb_u (gb_u g3gb ⟨by decide, by decide⟩) ?_
      rw [z_un (by omega), show 52 * l + 52 + 26 + 25 = 52 * l + 52 + 26 + (25 : Int) from rfl, hbar]
      have := hT.1 25
      omega
    · rw [z_un (by omega), z_un (by omega)]
      exact g3lo j hj
    · rw [lvO_at ⟨x1, x2⟩, eq52, z_un (by omega), z_un (by omega)]
      exact g3own x x1 x2
    · rw [lvT_at ⟨x1, x2⟩, eq52, bd_hit_t hb, hto2]
      by_cases k1 : x = 25
      · subst k1
        rw [z_us, z_us, z_un (by omega), z_un (by omega), hbar]
      · rw [z_un (by omega), z_un k1]
        by_cases k2 : x = 25 - to
        · subst k2
          rw [show 52 * l + 52 + 26 + (25 - to) = 52 * l + 52 + 26 + 25 - to by omega, z_us, z_us]
          omega
        · rw [z_un (by omega), z_un k2]
          exact g3oth x x1 x2
