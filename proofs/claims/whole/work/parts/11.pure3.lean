/-! placing, pips, times; the search with Int counters -/
abbrev pm_c (own oth : Int → Int) (pt n : Int) : Prop := ¬ (0 < n ∧ 0 < oth (25 - pt)) ∧ 0 ≤ own 0 + own pt - n ∧ own 0 + own pt - n ≤ 14
def pm_own (own oth : Int → Int) (pt n : Int) : Int → Int := if pm_c own oth pt n then z_u (z_u own 0 (own 0 + own pt - n)) pt n else own
theorem pm_own_t {own oth : Int → Int} {pt n : Int} (h : pm_c own oth pt n) : pm_own own oth pt n = z_u (z_u own 0 (own 0 + own pt - n)) pt n := if_pos h
theorem pm_own_f {own oth : Int → Int} {pt n : Int} (h : ¬ pm_c own oth pt n) : pm_own own oth pt n = own := if_neg h
theorem pm_own_ok {own oth : Int → Int} (hO : bd_ok own) {pt n : Int} (h1 : 1 ≤ pt ∧ pt ≤ 24) (h2 : 0 ≤ n) : bd_ok (pm_own own oth pt n) := by
  unfold pm_own
  split
  · rename_i h
    exact bd_ok_2 hO ⟨by decide, by decide⟩ ⟨by omega, by omega⟩ (by omega) (by have := h.2.1; omega) h2 (by omega)
  · exact hO
def pp_f (own : Int → Int) : Nat → Int
  | 0 => 0
  | n + 1 => pp_f own n + ((n : Int) + 1) * own ((n : Int) + 1)
theorem pp_step (own : Int → Int) {k : Int} (h : 1 ≤ k) : pp_f own (k + 1 - 1).toNat = pp_f own (k - 1).toNat + k * own k := by
  obtain ⟨n, hn⟩ : ∃ n : Nat, k = (n : Int) + 1 := ⟨(k - 1).toNat, by omega⟩
  subst hn
  rw [show ((n : Int) + 1 + 1 - 1).toNat = n + 1 by omega, show ((n : Int) + 1 - 1).toNat = n by omega]
  rfl
def tc_f (oth : Int → Int) : Int := if 0 < oth 0 then 1 else if 19 ≤ rr_f oth 25 then 3 else 2
def dc_ok (dice : Int → Int) : Prop := ∀ d, 0 ≤ dice d ∧ dice d ≤ 4
theorem dc_down {dice : Int → Int} (h : dc_ok dice) {d : Int} (hd : 0 < dice d) : dc_ok (z_u dice d (dice d - 1)) := fun x => by
  have := z_ui dice d (dice d - 1) x
  have := h x
  have := h d
  omega
theorem dc_back (dice : Int → Int) (d : Int) : z_u (z_u dice d (dice d - 1)) d (z_u dice d (dice d - 1) d + 1) = dice := by
  rw [z_us, z_uu]
  exact z_uid (by omega)
theorem mu_no2 {oth dice own : Int → Int} {rem : Nat} {die frm : Int} {n : Nat} (h : mu_inv oth dice own rem die frm n) (hc : ¬ bd_can own oth frm die) : mu_inv oth dice own rem die (frm + (-1)) n := mu_no h hc
theorem mu_yes2 {oth dice own : Int → Int} {rem mo die frm : Int} (hd : dc_ok dice) (hs : bd_sum dice = rem) (h4 : 0 ≤ rem ∧ rem ≤ 4) (hm : 0 ≤ mo ∧ mo ≤ 4) (h : mu_inv oth dice own rem.toNat die frm mo.toNat) (hc : bd_can own oth frm die) (hp : 0 < dice die) :
    (0 ≤ z_mx mo (1 + ((bd_due oth (z_u dice die (dice die - 1)) (bd_sh own frm die) : Nat) : Int)) ∧ z_mx mo (1 + ((bd_due oth (z_u dice die (dice die - 1)) (bd_sh own frm die) : Nat) : Int)) ≤ 4) ∧ mu_inv oth dice own rem.toNat die (frm + (-1)) (z_mx mo (1 + ((bd_due oth (z_u dice die (dice die - 1)) (bd_sh own frm die) : Nat) : Int))).toNat := by
  have hnn : ∀ d, 0 ≤ dice d := fun d => (hd d).1
  have hsum := bd_sum_u dice (v := dice die - 1) hc.2.2.1 hc.2.2.2.1
  have hb := (bd_due_ex oth (z_u dice die (dice die - 1)) (bd_sh own frm die) (mu_nn dice hnn hp) (by omega)).2.2
  have hx := z_mx_is mo (1 + ((bd_due oth (z_u dice die (dice die - 1)) (bd_sh own frm die) : Nat) : Int))
  have h0 : 0 ≤ z_mx mo (1 + ((bd_due oth (z_u dice die (dice die - 1)) (bd_sh own frm die) : Nat) : Int)) := by omega
  refine ⟨⟨h0, by omega⟩, ?_⟩
  exact mu_yes hnn (by omega) (by omega) h hc hp (by rw [Int.toNat_of_nonneg h0, Int.toNat_of_nonneg hm.1])
theorem mu_next2 {oth dice own : Int → Int} {rem mo die frm : Int} (hd : dc_ok dice) (hs : bd_sum dice = rem) (h4 : 0 ≤ rem ∧ rem ≤ 4) (hm : 0 ≤ mo ∧ mo ≤ 4) (h : mu_inv oth dice own rem.toNat die frm mo.toNat) (hx : frm < 1 ∨ dice die ≤ 0 ∨ rem ≤ mo) : mu_inv oth dice own rem.toNat (die + (-1)) 25 mo.toNat :=
  mu_next (fun d => (hd d).1) (by omega) h (by omega)
theorem mu_end2 {oth dice own : Int → Int} {rem mo die : Int} (h4 : 0 ≤ rem ∧ rem ≤ 4) (hm : 0 ≤ mo ∧ mo ≤ 4) (hd : die = 0) (h : mu_inv oth dice own rem.toNat die 25 mo.toNat) : mo = ((bd_due oth dice own : Nat) : Int) := by
  subst hd
  rw [mu_end (by omega) h]
  omega
/-- a right move -/
def rt_ok (own oth dice : Int → Int) (us f d : Int) : Prop := (1 ≤ d ∧ d ≤ 6) ∧ dice d ≠ 0 ∧ bd_can own oth f d ∧ ¬ (us = 1 ∧ ∃ g, (d < g ∧ g ≤ 6) ∧ 0 < dice g ∧ ∃ x, bd_can own oth x g) ∧ ((bd_due oth (z_u dice d (dice d - 1)) (bd_sh own f d) : Nat) : Int) = us - 1
