/-! THE BOARD, over Int: own and oth are the men of the one who moves and of the other, each by his own numbers -/
def bd_tot (b : Int → Int) : Nat → Int
  | 0 => b 0
  | n + 1 => bd_tot b n + b ((n : Int) + 1)
/-- men: none below 0, none off the board, fifteen in all -/
def bd_ok (b : Int → Int) : Prop := (∀ x, 0 ≤ b x) ∧ (∀ x, x < 0 ∨ 25 < x → b x = 0) ∧ bd_tot b 25 = 15
theorem bd_tot_out (b : Int → Int) {a v : Int} : ∀ n : Nat, (n : Int) < a → bd_tot (z_u b a v) n = bd_tot b n
  | 0, h => by simp only [bd_tot]; exact z_un (by omega)
  | n + 1, h => by simp only [bd_tot]; rw [bd_tot_out b n (by omega), z_un (by omega)]
theorem bd_tot_u (b : Int → Int) {a v : Int} (h0 : 0 ≤ a) : ∀ n : Nat, a ≤ (n : Int) → bd_tot (z_u b a v) n = bd_tot b n - b a + v
  | 0, h => by
    have e : a = 0 := by omega
    subst e
    simp only [bd_tot, z_us]; omega
  | n + 1, h => by
    by_cases e : a = (n : Int) + 1
    · simp only [bd_tot]
      rw [bd_tot_out b n (by omega), e, z_us]; omega
    · simp only [bd_tot]
      rw [bd_tot_u b h0 n (by omega), z_un (by omega)]; omega
theorem bd_tot_ge (b : Int → Int) (h : ∀ x, 0 ≤ b x) : ∀ n : Nat, 0 ≤ bd_tot b n ∧ ∀ x, 0 ≤ x → x ≤ (n : Int) → b x ≤ bd_tot b n
  | 0 => ⟨h 0, fun x x1 x2 => by
      have e : x = 0 := by omega
      subst e
      simp only [bd_tot]; omega⟩
  | n + 1 => by
    obtain ⟨a, q⟩ := bd_tot_ge b h n
    have hb := h ((n : Int) + 1)
    refine ⟨by simp only [bd_tot]; omega, fun x x1 x2 => ?_⟩
    simp only [bd_tot]
    by_cases e : x = (n : Int) + 1
    · rw [e]; omega
    · have := q x x1 (by omega); omega
theorem bd_b {b : Int → Int} (h : bd_ok b) (x : Int) : 0 ≤ b x ∧ b x ≤ 15 := by
  refine ⟨h.1 x, ?_⟩
  by_cases e : x < 0 ∨ 25 < x
  · rw [h.2.1 x e]; decide
  · have := (bd_tot_ge b h.1 25).2 x (by omega) (by omega)
    have := h.2.2
    omega
theorem st_men_ok : bd_ok st_men := by
  refine ⟨fun x => ?_, fun x h => ?_, by decide⟩
  · unfold st_men; repeat (first | (split; skip) | omega)
  · unfold st_men; rw [if_neg (by omega), if_neg (by omega), if_neg (by omega)]
/-- two places changed, the sum kept -/
theorem bd_ok_2 {b : Int → Int} (h : bd_ok b) {i j u v : Int} (hi : 0 ≤ i ∧ i ≤ 25) (hj : 0 ≤ j ∧ j ≤ 25) (hij : i ≠ j) (hu : 0 ≤ u) (hv : 0 ≤ v) (hs : u + v = b i + b j) : bd_ok (z_u (z_u b i u) j v) := by
  refine ⟨fun x => ?_, fun x hx => ?_, ?_⟩
  · by_cases e : x = j
    · rw [e, z_us]; exact hv
    · rw [z_un e]
      by_cases e2 : x = i
      · rw [e2, z_us]; exact hu
      · rw [z_un e2]; exact h.1 x
  · rw [z_un (by omega), z_un (by omega)]; exact h.2.1 x hx
  · rw [bd_tot_u _ hj.1 25 (by omega), bd_tot_u _ hi.1 25 (by omega), z_un (fun q => hij q.symm)]
    have := h.2.2
    omega
def bd_can (own oth : Int → Int) (f d : Int) : Prop := 1 ≤ f ∧ f ≤ 25 ∧ 1 ≤ d ∧ d ≤ 6 ∧ own f ≠ 0 ∧ (f = 25 ∨ own 25 ≤ 0) ∧ ((0 < f - d ∧ oth (25 - (f - d)) ≤ 1) ∨ (f - d ≤ 0 ∧ (∀ x, 7 ≤ x → x ≤ 25 → own x ≤ 0) ∧ (f - d = 0 ∨ ∀ x, f < x → x ≤ 25 → own x ≤ 0)))
def bd_to (f d : Int) : Int := z_mx 0 (f - d)
def bd_sh (own : Int → Int) (f d : Int) : Int → Int := z_u (z_u own f (own f - 1)) (bd_to f d) (z_u own f (own f - 1) (bd_to f d) + 1)
def bd_back (own : Int → Int) (f d : Int) : Int → Int := z_u (z_u own (bd_to f d) (own (bd_to f d) - 1)) f (z_u own (bd_to f d) (own (bd_to f d) - 1) f + 1)
def bd_hit (oth : Int → Int) (t : Int) : Int → Int := if 0 < t ∧ 0 < oth (25 - t) then z_u (z_u oth (25 - t) (oth (25 - t) - 1)) 25 (z_u oth (25 - t) (oth (25 - t) - 1) 25 + 1) else oth
theorem bd_to_in {f d : Int} (h1 : 1 ≤ f) (h2 : f ≤ 25) (h3 : 1 ≤ d) : 0 ≤ bd_to f d ∧ bd_to f d ≤ 24 ∧ bd_to f d ≠ f ∧ bd_to f d < f := by
  unfold bd_to
  have := z_mx_is 0 (f - d)
  omega
theorem bd_sh_at {own : Int → Int} {f d : Int} (h : bd_to f d ≠ f) (x : Int) : bd_sh own f d x = if x = bd_to f d then own x + 1 else if x = f then own x - 1 else own x := by
  unfold bd_sh
  by_cases e : x = bd_to f d
  · subst e
    rw [z_us, z_un h, if_pos rfl]
  · rw [z_un e, if_neg e]
    by_cases e2 : x = f
    · subst e2
      rw [z_us, if_pos rfl]
    · rw [z_un e2, if_neg e2]
theorem bd_back_sh {own : Int → Int} {f d : Int} (h : bd_to f d ≠ f) : bd_back (bd_sh own f d) f d = own := by
  unfold bd_back
  funext x
  by_cases e : x = f
  · subst e
    rw [z_us, z_un (fun q => h q.symm), bd_sh_at h, if_neg (fun q => h q.symm), if_pos rfl]; omega
  · rw [z_un e]
    by_cases e2 : x = bd_to f d
    · subst e2
      rw [z_us, bd_sh_at h, if_pos rfl]; omega
    · rw [z_un e2, bd_sh_at h, if_neg e2, if_neg e]
theorem bd_sh_ok {own : Int → Int} (h : bd_ok own) {f d : Int} (h1 : 1 ≤ f) (h2 : f ≤ 25) (h3 : 1 ≤ d) (h4 : own f ≠ 0) : bd_ok (bd_sh own f d) := by
  obtain ⟨t1, t2, t3, t4⟩ := bd_to_in h1 h2 h3
  have := h.1 f
  have := h.1 (bd_to f d)
  unfold bd_sh
  rw [z_un (a := f) (j := bd_to f d) t3]
  exact bd_ok_2 h ⟨by omega, h2⟩ ⟨t1, by omega⟩ (fun q => t3 q.symm) (by omega) (by omega) (by omega)
theorem bd_hit_ok {oth : Int → Int} (h : bd_ok oth) {t : Int} (h1 : t ≤ 24) : bd_ok (bd_hit oth t) := by
  unfold bd_hit
  split
  · rename_i q
    have := h.1 25
    rw [z_un (a := 25 - t) (j := 25) (by omega)]
    exact bd_ok_2 h ⟨by omega, by omega⟩ ⟨by omega, by omega⟩ (by omega) (by omega) (by omega) (by omega)
  · exact h
/-- the rearmost place -/
def rr_f (own : Int → Int) : Nat → Int
  | 0 => 0
  | n + 1 => if 0 < own ((n : Int) + 1) then (n : Int) + 1 else rr_f own n
theorem rr_in (own : Int → Int) : ∀ n : Nat, 0 ≤ rr_f own n ∧ rr_f own n ≤ (n : Int)
  | 0 => ⟨Int.le_refl 0, Int.le_refl 0⟩
  | n + 1 => by
    have := rr_in own n
    simp only [rr_f]
    split <;> omega
theorem rr_le (own : Int → Int) {k : Int} (hk : 0 ≤ k) : ∀ n : Nat, rr_f own n ≤ k ↔ ∀ x, k < x → x ≤ (n : Int) → own x ≤ 0
  | 0 => ⟨fun _ x h1 h2 => by omega, fun _ => hk⟩
  | n + 1 => by
    have ih := rr_le own hk n
    simp only [rr_f]
    split
    · rename_i q
      constructor
      · intro h x h1 h2
        have : (x : Int) ≤ n + 1 := by omega
        omega
      · intro h
        by_cases e : (n : Int) + 1 ≤ k
        · exact e
        · have := h ((n : Int) + 1) (by omega) (by omega)
          omega
    · rename_i q
      rw [ih]
      constructor
      · intro h x h1 h2
        by_cases e : x = (n : Int) + 1
        · rw [e]; omega
        · exact h x h1 (by omega)
      · intro h x h1 h2
        exact h x h1 (by omega)
theorem rr_eq {own : Int → Int} {f : Int} {n : Nat} (h1 : 1 ≤ f) (h2 : f ≤ (n : Int)) (h3 : 0 < own f) : rr_f own n = f ↔ ∀ x, f < x → x ≤ (n : Int) → own x ≤ 0 := by
  rw [← rr_le own (show 0 ≤ f by omega) n]
  constructor
  · intro h; omega
  · intro h
    by_cases e : rr_f own n ≤ f - 1
    · have := (rr_le own (show 0 ≤ f - 1 by omega) n).mp e f (by omega) h2
      omega
    · omega
/-- k dice can be used one after the other -/
def bd_reach (oth : Int → Int) : Nat → (Int → Int) → (Int → Int) → Prop
  | 0, _, _ => True
  | k + 1, dice, own => ∃ f d, 0 < dice d ∧ bd_can own oth f d ∧ bd_reach oth k (z_u dice d (dice d - 1)) (bd_sh own f d)
theorem bd_mono (oth : Int → Int) : ∀ (k : Nat) (dice own : Int → Int), bd_reach oth (k + 1) dice own → bd_reach oth k dice own
  | 0, _, _, _ => trivial
  | k + 1, _, _, ⟨f, d, h1, h2, h3⟩ => ⟨f, d, h1, h2, bd_mono oth k _ _ h3⟩
theorem bd_monoL (oth : Int → Int) (dice own : Int → Int) {j k : Nat} (hjk : j ≤ k) (h : bd_reach oth k dice own) : bd_reach oth j dice own := by
  induction k with
  | zero => rw [show j = 0 by omega]; trivial
  | succ k ih =>
    by_cases e : j = k + 1
    · rw [e]; exact h
    · exact ih (by omega) (bd_mono oth k dice own h)
def bd_sum (dice : Int → Int) : Int := dice 1 + dice 2 + dice 3 + dice 4 + dice 5 + dice 6
theorem bd_sum_u (dice : Int → Int) {d v : Int} (h1 : 1 ≤ d) (h2 : d ≤ 6) : bd_sum (z_u dice d v) = bd_sum dice - dice d + v := by
  unfold bd_sum
  have a1 := z_ui dice d v 1
  have a2 := z_ui dice d v 2
  have a3 := z_ui dice d v 3
  have a4 := z_ui dice d v 4
  have a5 := z_ui dice d v 5
  have a6 := z_ui dice d v 6
  rcases (show d = 1 ∨ d = 2 ∨ d = 3 ∨ d = 4 ∨ d = 5 ∨ d = 6 by omega) with e | e | e | e | e | e <;> subst e <;> omega
theorem bd_lim (oth : Int → Int) : ∀ (k : Nat) (dice own : Int → Int), (∀ d, 0 ≤ dice d) → bd_reach oth k dice own → (k : Int) ≤ bd_sum dice
  | 0, dice, _, h, _ => by
    have := h 1; have := h 2; have := h 3; have := h 4; have := h 5; have := h 6
    simp only [bd_sum]
    omega
  | k + 1, dice, _, h, ⟨f, d, h1, h2, h3⟩ => by
    have hd : 1 ≤ d ∧ d ≤ 6 := ⟨h2.2.2.1, h2.2.2.2.1⟩
    have ih := bd_lim oth k _ _ (fun x => by
      by_cases e : x = d
      · rw [e, z_us]; omega
      · rw [z_un e]; exact h x) h3
    rw [bd_sum_u dice hd.1 hd.2] at ih
    omega
/-- DUE -/
noncomputable def bd_due (oth dice own : Int → Int) : Nat := @ite Nat (bd_reach oth 4 dice own) (Classical.propDecidable _) 4 (@ite Nat (bd_reach oth 3 dice own) (Classical.propDecidable _) 3 (@ite Nat (bd_reach oth 2 dice own) (Classical.propDecidable _) 2 (@ite Nat (bd_reach oth 1 dice own) (Classical.propDecidable _) 1 0)))
theorem bd_due_is {oth dice own : Int → Int} {n : Nat} (hn : n ≤ 4) (h : bd_reach oth n dice own) (h2 : ¬ bd_reach oth (n + 1) dice own) : bd_due oth dice own = n := by
  have up : ∀ j : Nat, n + 1 ≤ j → ¬ bd_reach oth j dice own := fun j hj q => h2 (bd_monoL oth dice own hj q)
  have dn : ∀ j : Nat, j ≤ n → bd_reach oth j dice own := fun j hj => bd_monoL oth dice own hj h
  unfold bd_due
  rcases (show n = 0 ∨ n = 1 ∨ n = 2 ∨ n = 3 ∨ n = 4 by omega) with e | e | e | e | e <;> subst e
  · rw [if_neg (up 4 (by omega)), if_neg (up 3 (by omega)), if_neg (up 2 (by omega)), if_neg (up 1 (by omega))]
  · rw [if_neg (up 4 (by omega)), if_neg (up 3 (by omega)), if_neg (up 2 (by omega)), if_pos (dn 1 (by omega))]
  · rw [if_neg (up 4 (by omega)), if_neg (up 3 (by omega)), if_pos (dn 2 (by omega))]
  · rw [if_neg (up 4 (by omega)), if_pos (dn 3 (by omega))]
  · rw [if_pos (dn 4 (by omega))]
theorem bd_due_ex (oth dice own : Int → Int) (hd : ∀ d, 0 ≤ dice d) (hs : bd_sum dice ≤ 4) : bd_reach oth (bd_due oth dice own) dice own ∧ ¬ bd_reach oth (bd_due oth dice own + 1) dice own ∧ ((bd_due oth dice own : Nat) : Int) ≤ bd_sum dice := by
  have h5 : ¬ bd_reach oth 5 dice own := fun q => by have := bd_lim oth 5 dice own hd q; omega
  have key : ∃ n : Nat, n ≤ 4 ∧ bd_reach oth n dice own ∧ ¬ bd_reach oth (n + 1) dice own := by
    by_cases h4 : bd_reach oth 4 dice own
    · exact ⟨4, by omega, h4, h5⟩
    by_cases h3 : bd_reach oth 3 dice own
    · exact ⟨3, by omega, h3, h4⟩
    by_cases h2 : bd_reach oth 2 dice own
    · exact ⟨2, by omega, h2, h3⟩
    by_cases h1 : bd_reach oth 1 dice own
    · exact ⟨1, by omega, h1, h2⟩
    · exact ⟨0, by omega, trivial, h1⟩
  obtain ⟨n, hn, a, b⟩ := key
  rw [bd_due_is hn a b]
  exact ⟨a, b, bd_lim oth n dice own hd a⟩
/-- what 'can' and 'reach' read -/
def bd_same (own own' : Int → Int) : Prop := ∀ x, 0 ≤ x → x ≤ 25 → own x = own' x
def bd_blk (oth oth' : Int → Int) : Prop := ∀ x, 1 ≤ x → x ≤ 24 → (oth x ≤ 1 ↔ oth' x ≤ 1)
theorem bd_can_cong {own own' oth oth' : Int → Int} (h : bd_same own own') (ho : bd_blk oth oth') {f d : Int} (hc : bd_can own oth f d) : bd_can own' oth' f d := by
  obtain ⟨h1, h2, h3, h4, h5, h6, h7⟩ := hc
  refine ⟨h1, h2, h3, h4, by rw [← h f (by omega) h2]; exact h5, by rw [← h 25 (by omega) (by omega)]; exact h6, ?_⟩
  rcases h7 with ⟨a, b⟩ | ⟨a, b, q⟩
  · exact Or.inl ⟨a, (ho _ (by omega) (by omega)).mp b⟩
  · refine Or.inr ⟨a, fun x x1 x2 => by rw [← h x (by omega) x2]; exact b x x1 x2, ?_⟩
    rcases q with q | q
    · exact Or.inl q
    · exact Or.inr fun x x1 x2 => by rw [← h x (by omega) x2]; exact q x x1 x2
theorem bd_sh_cong {own own' : Int → Int} (h : bd_same own own') {f d : Int} (h1 : 1 ≤ f) (h2 : f ≤ 25) (h3 : 1 ≤ d) : bd_same (bd_sh own f d) (bd_sh own' f d) := by
  intro x x1 x2
  have ht := (bd_to_in h1 h2 h3).2.2.1
  rw [bd_sh_at ht, bd_sh_at ht, h x x1 x2]
theorem bd_reach_cong {oth oth' : Int → Int} (ho : bd_blk oth oth') : ∀ (k : Nat) (dice dice' own own' : Int → Int), (∀ d, 1 ≤ d → d ≤ 6 → dice d = dice' d) → bd_same own own' → bd_reach oth k dice own → bd_reach oth' k dice' own'
  | 0, _, _, _, _, _, _, _ => trivial
  | k + 1, dice, dice', own, own', hd, h, ⟨f, d, h1, h2, h3⟩ => by
    have hr : 1 ≤ f ∧ f ≤ 25 ∧ 1 ≤ d ∧ d ≤ 6 := ⟨h2.1, h2.2.1, h2.2.2.1, h2.2.2.2.1⟩
    refine ⟨f, d, by rw [← hd d hr.2.2.1 hr.2.2.2]; exact h1, bd_can_cong h ho h2, bd_reach_cong ho k _ _ _ _ (fun x x1 x2 => ?_) (bd_sh_cong h hr.1 hr.2.1 hr.2.2.1) h3⟩
    by_cases e : x = d
    · rw [e, z_us, z_us, hd d hr.2.2.1 hr.2.2.2]
    · rw [z_un e, z_un e]; exact hd x x1 x2
/-- a hit changes nothing of what 'can' reads -/
theorem bd_hit_blk {oth : Int → Int} {t : Int} (h1 : t ≤ 24) (h : oth (25 - t) ≤ 1 ∨ t ≤ 0) : bd_blk oth (bd_hit oth t) := by
  intro x x1 x2
  unfold bd_hit
  split
  · rename_i q
    rw [z_un (show x ≠ 25 by omega)]
    by_cases e : x = 25 - t
    · rw [e, z_us]; omega
    · rw [z_un e]
  · exact Iff.rfl
theorem bd_blk_symm {a b : Int → Int} (h : bd_blk a b) : bd_blk b a := fun x x1 x2 => (h x x1 x2).symm
theorem bd_blk_trans {a b c : Int → Int} (h : bd_blk a b) (h2 : bd_blk b c) : bd_blk a c := fun x x1 x2 => (h x x1 x2).trans (h2 x x1 x2)
/-- the search for the most dice: what it knows behind some moves tried -/
def mu_inv (oth dice own : Int → Int) (rem : Nat) (die frm : Int) (n : Nat) : Prop :=
  bd_reach oth n dice own ∧ n ≤ rem ∧ ∀ d f, (die < d ∨ (d = die ∧ frm < f)) → 0 < dice d → bd_can own oth f d → ¬ bd_reach oth n (z_u dice d (dice d - 1)) (bd_sh own f d)
theorem mu_start (oth dice own : Int → Int) (rem : Nat) : mu_inv oth dice own rem 6 25 0 :=
  ⟨trivial, Nat.zero_le _, fun d f h _ hc => by have := hc.2.1; have := hc.2.2.2.1; omega⟩
theorem mu_no {oth dice own : Int → Int} {rem : Nat} {die frm : Int} {n : Nat} (h : mu_inv oth dice own rem die frm n) (hc : ¬ bd_can own oth frm die) : mu_inv oth dice own rem die (frm - 1) n :=
  ⟨h.1, h.2.1, fun d f q1 q2 q3 => by
    by_cases e : d = die ∧ f = frm
    · exact absurd (by rw [← e.1, ← e.2]; exact q3) hc
    · exact h.2.2 d f (by omega) q2 q3⟩
theorem mu_nn (dice : Int → Int) (hd : ∀ d, 0 ≤ dice d) {d : Int} (h : 0 < dice d) (x : Int) : 0 ≤ z_u dice d (dice d - 1) x := by
  have := z_ui dice d (dice d - 1) x
  have := hd x
  omega
theorem mu_yes {oth dice own : Int → Int} {rem : Nat} {die frm : Int} {n : Nat} (hd : ∀ d, 0 ≤ dice d) (hs : bd_sum dice = (rem : Int)) (h4 : rem ≤ 4) (h : mu_inv oth dice own rem die frm n) (hc : bd_can own oth frm die) (hp : 0 < dice die) {k : Nat} (hk : (k : Int) = z_mx (n : Int) (1 + ((bd_due oth (z_u dice die (dice die - 1)) (bd_sh own frm die) : Nat) : Int))) : mu_inv oth dice own rem die (frm - 1) k := by
  have hsum := bd_sum_u dice (v := dice die - 1) hc.2.2.1 hc.2.2.2.1
  obtain ⟨a, b, c⟩ := bd_due_ex oth (z_u dice die (dice die - 1)) (bd_sh own frm die) (mu_nn dice hd hp) (by omega)
  generalize bd_due oth (z_u dice die (dice die - 1)) (bd_sh own frm die) = x at a b c hk
  have hm := z_mx_is (n : Int) (1 + (x : Int))
  have hx : bd_reach oth (x + 1) dice own := ⟨frm, die, hp, hc, a⟩
  have hnr := h.2.1
  refine ⟨?_, by omega, fun d f q1 q2 q3 => ?_⟩
  · rcases hm with ⟨m1, m2⟩ | ⟨m1, m2⟩
    · rw [show k = x + 1 by omega]; exact hx
    · rw [show k = n by omega]; exact h.1
  · by_cases e : d = die ∧ f = frm
    · rw [e.1, e.2]
      exact fun q => b (bd_monoL _ _ _ (by omega) q)
    · exact fun q => h.2.2 d f (by omega) q2 q3 (bd_monoL _ _ _ (by omega) q)
theorem mu_next {oth dice own : Int → Int} {rem : Nat} {die frm : Int} {n : Nat} (hd : ∀ d, 0 ≤ dice d) (hs : bd_sum dice = (rem : Int)) (h : mu_inv oth dice own rem die frm n) (hx : frm < 1 ∨ dice die ≤ 0 ∨ rem ≤ n) : mu_inv oth dice own rem (die - 1) 25 n := by
  refine ⟨h.1, h.2.1, fun d f q1 q2 q3 => ?_⟩
  by_cases e : die < d ∨ (d = die ∧ frm < f)
  · exact h.2.2 d f e q2 q3
  · have f1 := q3.1
    have f2 := q3.2.1
    have ed : d = die := by omega
    rcases hx with x1 | x1 | x1
    · omega
    · rw [ed] at q2; omega
    · intro q
      have hl := bd_lim oth n _ _ (mu_nn dice hd q2) q
      have hsum := bd_sum_u dice (v := dice d - 1) q3.2.2.1 q3.2.2.2.1
      omega
theorem mu_end {oth dice own : Int → Int} {rem : Nat} {n : Nat} (h4 : rem ≤ 4) (h : mu_inv oth dice own rem 0 25 n) : bd_due oth dice own = n := by
  refine bd_due_is (by have := h.2.1; omega) h.1 ?_
  rintro ⟨f, d, q1, q2, q3⟩
  exact h.2.2 d f (by have := q2.2.2.1; omega) q1 q2 q3
