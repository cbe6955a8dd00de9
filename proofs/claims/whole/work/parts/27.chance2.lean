/-! the class's recurrence over Int -/
def q_t (a b : Nat) : Bool := (List.range 5).all (fun c => (List.range 5).all (fun d => (c == 0 && d == 0) || ((a == 0 && b == 0) || q_su a b c d 6 / 36 == q_ch a b c d)))
set_option maxRecDepth 100000 in
theorem q_t_ok : ∀ a, a < 5 → ∀ b, b < 5 → q_t a b = true := by decide +kernel
theorem q_all (a : Nat) (ha : a < 5) (b : Nat) (hb : b < 5) (c : Nat) (hc : c < 5) (d : Nat) (hd : d < 5) : (c = 0 ∧ d = 0) ∨ (a = 0 ∧ b = 0) ∨ q_su a b c d 6 / 36 = q_ch a b c d := by
  have h := List.all_eq_true.mp (List.all_eq_true.mp (q_t_ok a ha b hb) c (List.mem_range.mpr hc)) d (List.mem_range.mpr hd)
  simp only [Bool.or_eq_true, Bool.and_eq_true, beq_iff_eq] at h
  exact h
abbrev qC (a b c d : Int) : Int := ((q_ch a.toNat b.toNat c.toNat d.toNat : Nat) : Int)
abbrev qP (a b : Int) : Int := ((q_pn a.toNat b.toNat : Nat) : Int)
abbrev qB (c d die : Int) (t : Nat) (a b : Int) : Int := ((q_bw c.toNat d.toNat die.toNat t a.toNat b.toNat : Nat) : Int)
abbrev qO (a b c d x y : Int) : Int := ((q_io a.toNat b.toNat c.toNat d.toNat x.toNat y.toNat : Nat) : Int)
abbrev r4 (a : Int) : Prop := 0 ≤ a ∧ a ≤ 4
theorem mx_nat {a b : Int} (ha : r4 a) (hb : r4 b) : (z_mx a b).toNat = max a.toNat b.toNat := by
  have := z_mx_is a b
  omega
theorem mn_nat {a b : Int} (ha : r4 a) (hb : r4 b) : (z_mn a b).toNat = min a.toNat b.toNat := by
  have := z_mn_is a b
  omega
theorem mx_r4 {a b : Int} (ha : r4 a) (hb : r4 b) : r4 (z_mx a b) := by
  have := z_mx_is a b
  omega
theorem mn_r4 {a b : Int} (ha : r4 a) (hb : r4 b) : r4 (z_mn a b) := by
  have := z_mn_is a b
  omega
theorem mx_cast (x y : Nat) : z_mx (x : Int) (y : Int) = ((max x y : Nat) : Int) := by
  have := z_mx_is (x : Int) (y : Int)
  omega
theorem pn_eq {a b : Int} (ha : r4 a) (hb : r4 b) : z_mx a b * (z_mx a b + 1) / 2 + z_mn a b = qP a b := by
  rcases (show a = 0 ∨ a = 1 ∨ a = 2 ∨ a = 3 ∨ a = 4 by omega) with e | e | e | e | e <;> rcases (show b = 0 ∨ b = 1 ∨ b = 2 ∨ b = 3 ∨ b = 4 by omega) with q | q | q | q | q <;> subst e <;> subst q <;> decide
theorem pn_le : ∀ a, a < 5 → ∀ b, b < 5 → q_pn a b ≤ 14 := by decide
theorem qC_in {a b c d : Int} (ha : r4 a) (hb : r4 b) (hc : r4 c) (hd : r4 d) : 0 ≤ qC a b c d ∧ qC a b c d ≤ 2176782336 := by
  have := q_le a.toNat (by omega) b.toNat (by omega) c.toNat (by omega) d.toNat (by omega)
  have e : q_W = 2176782336 := rfl
  unfold qC
  omega
theorem q_bw_le (c d die : Nat) : ∀ t a b : Nat, q_bw c d die t a b ≤ 2176782336
  | 0, a, b => by
    have e : q_W = 2176782336 := rfl
    simp only [q_bw]; omega
  | t + 1, a, b => by
    have e : q_W = 2176782336 := rfl
    have h1 := q_bw_le c d die t (max a b - die) (min a b)
    have h2 := q_bw_le c d die t (max a b) (min a b - die)
    simp only [q_bw]
    split
    · omega
    · split <;> omega
theorem q_io_le (a b c d x y : Nat) : q_io a b c d x y ≤ 2176782336 := by
  have h1 := q_bw_le c d y 1 (max a b - x) (min a b)
  have h2 := q_bw_le c d y 1 (max a b) (min a b - x)
  unfold q_io
  split <;> omega
theorem q_in_le (a b c d g : Nat) : ∀ s : Nat, q_in a b c d g s ≤ s * 4353564672
  | 0 => Nat.le_refl 0
  | s + 1 => by
    have h := q_in_le a b c d g s
    have h1 := q_io_le a b c d g (s + 1)
    have h2 := q_io_le a b c d (s + 1) g
    simp only [q_in]
    omega
theorem q_su_le (a b c d : Nat) : ∀ g : Nat, g ≤ 6 → q_su a b c d g ≤ g * 28298170368
  | 0, _ => Nat.le_refl 0
  | g + 1, hg => by
    have h := q_su_le a b c d g (by omega)
    have h1 := q_bw_le c d (g + 1) 4 a b
    have h2 := q_in_le a b c d (g + 1) g
    simp only [q_su]
    omega
theorem bw_end {a b c d die : Int} {t : Nat} (ha : r4 a) (hb : r4 b) (hc : r4 c) (hd : r4 d) (h : t = 0 ∨ z_mx a b = 0) : 2176782336 - qC c d (z_mx a b) (z_mn a b) = qB c d die t a b := by
  have hq := q_le c.toNat (by omega) d.toNat (by omega) (max a.toNat b.toNat) (by omega) (min a.toNat b.toNat) (by omega)
  have e : q_W = 2176782336 := rfl
  unfold qC qB
  rw [mx_nat ha hb, mn_nat ha hb]
  cases t with
  | zero => simp only [q_bw]; omega
  | succ t =>
    have hz : max a.toNat b.toNat = 0 := by have := mx_nat ha hb; omega
    simp only [q_bw]
    rw [if_pos hz]
    omega
theorem bw_no {a b c d die : Int} {t : Nat} (ha : r4 a) (hb : r4 b) (hdie : 1 ≤ die ∧ die ≤ 6) (h : z_mx a b ≠ 0) (hn : ¬ (z_mn a b < z_mx a b ∧ die ≤ z_mn a b)) : qB c d die t (z_mx 0 (z_mx a b - die)) (z_mn a b) = qB c d die (t + 1) a b := by
  have e1 := mx_nat ha hb
  have e2 := mn_nat ha hb
  have r1 := mx_r4 ha hb
  have r2 := mn_r4 ha hb
  have e3 : (z_mx 0 (z_mx a b - die)).toNat = max a.toNat b.toNat - die.toNat := by have := z_mx_is 0 (z_mx a b - die); omega
  unfold qB
  rw [e3, e2]
  simp only [q_bw]
  rw [if_neg (by omega), if_neg (by omega)]
theorem bw_yes {a b c d die : Int} {t : Nat} (ha : r4 a) (hb : r4 b) (hdie : 1 ≤ die ∧ die ≤ 6) (h : z_mx a b ≠ 0) (hn : z_mn a b < z_mx a b ∧ die ≤ z_mn a b) : z_mx (qB c d die t (z_mx 0 (z_mx a b - die)) (z_mn a b)) (qB c d die t (z_mx a b) (z_mn a b - die)) = qB c d die (t + 1) a b := by
  have e1 := mx_nat ha hb
  have e2 := mn_nat ha hb
  have r1 := mx_r4 ha hb
  have r2 := mn_r4 ha hb
  have e3 : (z_mx 0 (z_mx a b - die)).toNat = max a.toNat b.toNat - die.toNat := by have := z_mx_is 0 (z_mx a b - die); omega
  have e4 : (z_mn a b - die).toNat = min a.toNat b.toNat - die.toNat := by omega
  unfold qB
  rw [e3, e4, e1, e2, mx_cast]
  congr 1
  simp only [q_bw]
  rw [if_neg (by omega), if_pos (by omega)]
theorem io_no {a b c d x y : Int} (ha : r4 a) (hb : r4 b) (hx : 1 ≤ x ∧ x ≤ 6) (hn : ¬ (z_mn a b < z_mx a b ∧ x ≤ z_mn a b)) : qB c d y 1 (z_mx 0 (z_mx a b - x)) (z_mn a b) = qO a b c d x y := by
  have e1 := mx_nat ha hb
  have e2 := mn_nat ha hb
  have r1 := mx_r4 ha hb
  have r2 := mn_r4 ha hb
  have e3 : (z_mx 0 (z_mx a b - x)).toNat = max a.toNat b.toNat - x.toNat := by have := z_mx_is 0 (z_mx a b - x); omega
  unfold qB qO
  rw [e3, e2]
  unfold q_io
  rw [if_neg (by omega)]
theorem io_yes {a b c d x y : Int} (ha : r4 a) (hb : r4 b) (hx : 1 ≤ x ∧ x ≤ 6) (hn : z_mn a b < z_mx a b ∧ x ≤ z_mn a b) : z_mx (qB c d y 1 (z_mx 0 (z_mx a b - x)) (z_mn a b)) (qB c d y 1 (z_mx a b) (z_mn a b - x)) = qO a b c d x y := by
  have e1 := mx_nat ha hb
  have e2 := mn_nat ha hb
  have r1 := mx_r4 ha hb
  have r2 := mn_r4 ha hb
  have e3 : (z_mx 0 (z_mx a b - x)).toNat = max a.toNat b.toNat - x.toNat := by have := z_mx_is 0 (z_mx a b - x); omega
  have e4 : (z_mn a b - x).toNat = min a.toNat b.toNat - x.toNat := by omega
  unfold qB qO
  rw [e3, e4, e1, e2, mx_cast]
  unfold q_io
  rw [if_pos (by omega)]
abbrev qI (a b c d g : Int) (s : Int) : Int := ((q_in a.toNat b.toNat c.toNat d.toNat g.toNat (s - 1).toNat : Nat) : Int)
abbrev qS (a b c d g : Int) : Int := ((q_su a.toNat b.toNat c.toNat d.toNat (g - 1).toNat : Nat) : Int)
theorem qI_s {a b c d g s : Int} (h : 1 ≤ s) : qI a b c d g s + 2 * z_mx (qO a b c d g s) (qO a b c d s g) = qI a b c d g (s + 1) := by
  unfold qI qO
  rw [mx_cast, show (s + 1 - 1).toNat = (s - 1).toNat + 1 by omega]
  simp only [q_in]
  rw [show (s - 1).toNat + 1 = s.toNat by omega]
  omega
theorem qS_s {a b c d g : Int} (h : 1 ≤ g) : qS a b c d g + qB c d g 4 a b + qI a b c d g g = qS a b c d (g + 1) := by
  unfold qS qB qI
  rw [show (g + 1 - 1).toNat = (g - 1).toNat + 1 by omega]
  simp only [q_su]
  rw [show (g - 1).toNat + 1 = g.toNat by omega]
  omega
theorem qS_in {a b c d g : Int} (h : 1 ≤ g ∧ g ≤ 7) : 0 ≤ qS a b c d g ∧ qS a b c d g ≤ 1000000000000 := by
  have := q_su_le a.toNat b.toNat c.toNat d.toNat (g - 1).toNat (by omega)
  unfold qS
  omega
theorem qI_in {a b c d g s : Int} (h : 1 ≤ s ∧ s ≤ 7) : 0 ≤ qI a b c d g s ∧ qI a b c d g s ≤ 1000000000000 := by
  have := q_in_le a.toNat b.toNat c.toNat d.toNat g.toNat (s - 1).toNat
  unfold qI
  omega
theorem qB_in {a b c d g : Int} {t : Nat} : 0 ≤ qB c d g t a b ∧ qB c d g t a b ≤ 2176782336 := by
  have := q_bw_le c.toNat d.toNat g.toNat t a.toNat b.toNat
  unfold qB
  omega
theorem qO_in {a b c d x y : Int} : 0 ≤ qO a b c d x y ∧ qO a b c d x y ≤ 2176782336 := by
  have := q_io_le a.toNat b.toNat c.toNat d.toNat x.toNat y.toNat
  unfold qO
  omega
theorem qS_end {a b c d : Int} (ha : r4 a) (hb : r4 b) (hc : r4 c) (hd : r4 d) (h1 : ¬ (c = 0 ∧ d = 0)) (h2 : ¬ (a = 0 ∧ b = 0)) : qS a b c d 7 / 36 = qC a b c d := by
  have := q_all a.toNat (by omega) b.toNat (by omega) c.toNat (by omega) d.toNat (by omega)
  unfold qS qC
  rw [show ((7 : Int) - 1).toNat = 6 from rfl]
  omega
abbrev qX (a b c d : Int) : Int := qP a b * 15 + qP c d
theorem qX_in {a b c d : Int} (ha : r4 a) (hb : r4 b) (hc : r4 c) (hd : r4 d) : 0 ≤ qX a b c d ∧ qX a b c d < 225 := by
  have := pn_le a.toNat (by omega) b.toNat (by omega)
  have := pn_le c.toNat (by omega) d.toNat (by omega)
  unfold qX qP
  omega
theorem mm_at {kno : Int → Int} (h : mm_ok kno) {a b c d : Int} (ha : r4 a) (hb : r4 b) (hc : r4 c) (hd : r4 d) : kno (qX a b c d) = 0 ∨ kno (qX a b c d) = 1 + qC a b c d := by
  have := h a.toNat b.toNat c.toNat d.toNat (by omega) (by omega) (by omega) (by omega)
  rw [show ((q_pn a.toNat b.toNat * 15 + q_pn c.toNat d.toNat : Nat) : Int) = qX a b c d by unfold qX qP; omega] at this
  exact this
theorem mm_set {kno : Int → Int} (h : mm_ok kno) {a b c d : Int} (ha : r4 a) (hb : r4 b) (hc : r4 c) (hd : r4 d) : mm_ok (z_u kno (qX a b c d) (1 + qC a b c d)) := fun x y u v hx hy hu hv => by
  by_cases e : ((q_pn x y * 15 + q_pn u v : Nat) : Int) = qX a b c d
  · right
    rw [e, z_us]
    have p1 := pn_le a.toNat (by omega) b.toNat (by omega)
    have p2 := pn_le c.toNat (by omega) d.toNat (by omega)
    have p3 := pn_le x hx y hy
    have p4 := pn_le u hu v hv
    have e1 : q_pn x y = q_pn a.toNat b.toNat := by unfold qX qP at e; omega
    have e2 : q_pn u v = q_pn c.toNat d.toNat := by unfold qX qP at e; omega
    unfold qC q_ch
    rw [e1, e2]
  · rw [z_un e]
    exact h x y u v hx hy hu hv
