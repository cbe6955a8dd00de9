/-! THE MATCH as a mathematical thing: (len, stg, mv, stk, hol, cn, cs, sco, b0, b1, hi, lo, hs, ls); each call's answer and the match behind it -/
abbrev AS : Type := Int × Int × Int × Int × Int × Int × Int × (Int → Int) × (Int → Int) × (Int → Int) × Int × Int × Int × Int
def dcf (hi lo hs ls : Int) : Int → Int := fun x => if x = hi then hs else if x = lo then ls else 0
def dk (hi lo hs ls : Int) : Prop := (1 ≤ hi ∧ hi ≤ 6) ∧ (0 ≤ lo ∧ lo ≤ 6) ∧ lo < hi ∧ 0 ≤ hs ∧ 0 ≤ ls ∧ hs + ls ≤ 4 ∧ (0 < ls → 1 ≤ lo ∧ hs ≤ 1 ∧ ls ≤ 1)
def bp (b0 b1 : Int → Int) (p : Int) : Int → Int := if p = 0 then b0 else b1
noncomputable def m_due (own oth : Int → Int) (hi lo hs ls : Int) : Int := ((bd_due oth (dcf hi lo hs ls) own : Nat) : Int)
def wn_c (cs s len : Int) : Int := if cs = 0 ∧ s = len - 1 then 1 else 0
def wn_s (cs s len : Int) : Int := if cs = 0 ∧ s = len - 1 then 1 else cs
def m_win (len stg mv stk hol cn cs : Int) (sco b0 b1 : Int → Int) (hi lo hs ls gain : Int) : Int × AS :=
  if len ≤ sco mv + gain then (10 * gain, (len, 4, mv, stk, hol, 0, cs, z_u sco mv (sco mv + gain), b0, b1, hi, lo, hs, ls))
  else (10 * gain, (len, 0, mv, 1, -1, wn_c cs (sco mv + gain) len, wn_s cs (sco mv + gain) len, z_u sco mv (sco mv + gain), st_men, st_men, hi, lo, hs, ls))
noncomputable def m_play (len stg mv stk hol cn cs : Int) (sco b0 b1 : Int → Int) (hi lo hs ls f d : Int) : Int × AS :=
  (fun (own2 oth2 : Int → Int) (h2 l2 : Int) =>
    if own2 0 = 15 then m_win len stg mv stk hol cn cs sco (if mv = 0 then own2 else oth2) (if mv = 0 then oth2 else own2) hi lo h2 l2 (stk * tc_f oth2)
    else if m_due own2 oth2 hi lo h2 l2 = 0 then (0, (len, 1, 1 - mv, stk, hol, cn, cs, sco, (if mv = 0 then own2 else oth2), (if mv = 0 then oth2 else own2), hi, lo, h2, l2))
    else (m_due own2 oth2 hi lo h2 l2, (len, 2, mv, stk, hol, cn, cs, sco, (if mv = 0 then own2 else oth2), (if mv = 0 then oth2 else own2), hi, lo, h2, l2)))
  (bd_sh (bp b0 b1 mv) f d) (bd_hit (bp b0 b1 (1 - mv)) (f - d)) (if d = hi then hs - 1 else hs) (if d = hi then ls else ls - 1)
noncomputable def m_begin (len stg mv stk hol cn cs : Int) (sco b0 b1 : Int → Int) (a b : Int) : Int × AS :=
  (fun (hi lo hs ls : Int) =>
    if m_due (bp b0 b1 mv) (bp b0 b1 (1 - mv)) hi lo hs ls = 0 then (0, (len, 1, 1 - mv, stk, hol, cn, cs, sco, b0, b1, hi, lo, hs, ls))
    else (m_due (bp b0 b1 mv) (bp b0 b1 (1 - mv)) hi lo hs ls, (len, 2, mv, stk, hol, cn, cs, sco, b0, b1, hi, lo, hs, ls)))
  (if b < a then a else b) (if a = b then 0 else if b < a then b else a) (if a = b then 4 else 1) (if a = b then 0 else 1)
noncomputable def m_roll : AS → Int → Int → Int × AS := fun (len, stg, mv, stk, hol, cn, cs, sco, b0, b1, hi, lo, hs, ls) a b =>
  if (stg = 0 ∨ stg = 1) ∧ (1 ≤ a ∧ a ≤ 6) ∧ (1 ≤ b ∧ b ≤ 6) then
    (if stg = 0 ∧ a = b then (0, (len, stg, mv, stk, hol, cn, cs, sco, b0, b1, hi, lo, hs, ls))
     else m_begin len stg (if stg = 0 then (if b < a then 0 else 1) else mv) stk hol cn cs sco b0 b1 a b)
  else (-1, (len, stg, mv, stk, hol, cn, cs, sco, b0, b1, hi, lo, hs, ls))
noncomputable def m_move : AS → Int → Int → Int × AS := fun (len, stg, mv, stk, hol, cn, cs, sco, b0, b1, hi, lo, hs, ls) f d =>
  if stg = 2 then
    (if b2 (rt_ok (bp b0 b1 mv) (bp b0 b1 (1 - mv)) (dcf hi lo hs ls) (m_due (bp b0 b1 mv) (bp b0 b1 (1 - mv)) hi lo hs ls) f d) = 1 then m_play len stg mv stk hol cn cs sco b0 b1 hi lo hs ls f d
     else (-2, (len, stg, mv, stk, hol, cn, cs, sco, b0, b1, hi, lo, hs, ls)))
  else (-1, (len, stg, mv, stk, hol, cn, cs, sco, b0, b1, hi, lo, hs, ls))
noncomputable def m_step : AS → Int → Int × AS := fun (len, stg, mv, stk, hol, cn, cs, sco, b0, b1, hi, lo, hs, ls) k =>
  if stg = 2 then
    (fun (r : Int) => if r < 0 then (-2, (len, stg, mv, stk, hol, cn, cs, sco, b0, b1, hi, lo, hs, ls)) else m_play len stg mv stk hol cn cs sco b0 b1 hi lo hs ls (r / 8) (r % 8))
      (rf (bp b0 b1 mv) (bp b0 b1 (1 - mv)) (dcf hi lo hs ls) (m_due (bp b0 b1 mv) (bp b0 b1 (1 - mv)) hi lo hs ls) k 150)
  else (-1, (len, stg, mv, stk, hol, cn, cs, sco, b0, b1, hi, lo, hs, ls))
noncomputable def m_ways : AS → Int := fun (_, stg, mv, _, _, _, _, _, b0, b1, hi, lo, hs, ls) => if stg = 2 then rc (bp b0 b1 mv) (bp b0 b1 (1 - mv)) (dcf hi lo hs ls) (m_due (bp b0 b1 mv) (bp b0 b1 (1 - mv)) hi lo hs ls) 150 else 0
noncomputable def m_dueA : AS → Int := fun (_, stg, mv, _, _, _, _, _, b0, b1, hi, lo, hs, ls) => if stg = 2 then m_due (bp b0 b1 mv) (bp b0 b1 (1 - mv)) hi lo hs ls else 0
def m_left : AS → Int → Int := fun (_, stg, _, _, _, _, _, _, _, _, hi, lo, hs, ls) d => if stg = 2 ∧ (1 ≤ d ∧ d ≤ 6) then dcf hi lo hs ls d else 0
noncomputable def m_place : AS → Int → Int → Int → Int × AS := fun (len, stg, mv, stk, hol, cn, cs, sco, b0, b1, hi, lo, hs, ls) p pt n =>
  if stg = 0 ∧ (p = 0 ∨ p = 1) ∧ (1 ≤ pt ∧ pt ≤ 24) ∧ (0 ≤ n ∧ n ≤ 15) then (b2 (pm_c (bp b0 b1 p) (bp b0 b1 (1 - p)) pt n), (len, stg, mv, stk, hol, cn, cs, sco, (if p = 0 then pm_own b0 b1 pt n else b0), (if p = 0 then b1 else pm_own b1 b0 pt n), hi, lo, hs, ls))
  else (0, (len, stg, mv, stk, hol, cn, cs, sco, b0, b1, hi, lo, hs, ls))
def m_offer : AS → Int × AS := fun (len, stg, mv, stk, hol, cn, cs, sco, b0, b1, hi, lo, hs, ls) =>
  if stg = 1 ∧ cn = 0 ∧ stk < 64 ∧ hol ≠ 1 - mv then (1, (len, 3, mv, stk, hol, cn, cs, sco, b0, b1, hi, lo, hs, ls)) else (0, (len, stg, mv, stk, hol, cn, cs, sco, b0, b1, hi, lo, hs, ls))
def m_answer : AS → Int → Int × AS := fun (len, stg, mv, stk, hol, cn, cs, sco, b0, b1, hi, lo, hs, ls) tk =>
  if stg = 3 then (if tk = 0 then m_win len stg mv stk hol cn cs sco b0 b1 hi lo hs ls stk else (0, (len, 1, mv, stk * 2, 1 - mv, cn, cs, sco, b0, b1, hi, lo, hs, ls)))
  else (-1, (len, stg, mv, stk, hol, cn, cs, sco, b0, b1, hi, lo, hs, ls))
def m_turn : AS → Int := fun (_, stg, mv, _) => if stg = 0 then -1 else if stg = 3 then 1 - mv else mv
def m_men : AS → Int → Int → Int := fun (_, _, _, _, _, _, _, _, b0, b1, _) p x => if (p = 0 ∨ p = 1) ∧ (0 ≤ x ∧ x ≤ 25) then bp b0 b1 p x else -1
def m_pips : AS → Int → Int := fun (_, _, _, _, _, _, _, _, b0, b1, _) p => if p = 0 ∨ p = 1 then pp_f (bp b0 b1 p) 25 else -1
def m_points : AS → Int → Int := fun (_, _, _, _, _, _, _, sco, _) p => if p = 0 ∨ p = 1 then sco p else -1
def m_chance (a b c d : Int) : Int := if (0 ≤ a ∧ a ≤ 4) ∧ (0 ≤ b ∧ b ≤ 4) ∧ (0 ≤ c ∧ c ≤ 4) ∧ (0 ≤ d ∧ d ≤ 4) then ((q_ch a.toNat b.toNat c.toNat d.toNat : Nat) : Int) else -1
/-- what every match keeps to -/
def st_ok : AS → Prop := fun (len, stg, mv, stk, hol, cn, cs, sco, b0, b1, hi, lo, hs, ls) =>
  (1 ≤ len ∧ len ≤ 25) ∧ (0 ≤ stg ∧ stg ≤ 4) ∧ (mv = 0 ∨ mv = 1) ∧ (1 ≤ stk ∧ stk ≤ 126) ∧ (-1 ≤ hol ∧ hol ≤ 1) ∧ (cn = 0 ∨ cn = 1) ∧ (cs = 0 ∨ cs = 1) ∧ (∀ x, 0 ≤ sco x ∧ sco x ≤ 1000) ∧ (stg ≠ 4 → sco 0 < len ∧ sco 1 < len) ∧ bd_ok b0 ∧ bd_ok b1 ∧ (stg = 2 → dk hi lo hs ls ∧ 1 ≤ m_due (bp b0 b1 mv) (bp b0 b1 (1 - mv)) hi lo hs ls)
/-- the class's memory of chances -/
def mm_ok (kno : Int → Int) : Prop := ∀ a b c d : Nat, a < 5 → b < 5 → c < 5 → d < 5 → kno ((q_pn a b * 15 + q_pn c d : Nat) : Int) = 0 ∨ kno ((q_pn a b * 15 + q_pn c d : Nat) : Int) = 1 + ((q_ch a b c d : Nat) : Int)
def hd_ok (stg mv : Int) (b0 b1 : Int → Int) (hi lo hs ls : Int) (dice : Int → Int) (us pl ct : Int) : Prop := dc_ok dice ∧ (stg = 2 → pl = mv ∧ ct = hs + ls ∧ us = m_due (bp b0 b1 mv) (bp b0 b1 (1 - mv)) hi lo hs ls ∧ ∀ x, 1 ≤ x → x ≤ 6 → dice x = dcf hi lo hs ls x)
theorem bp_ok {b0 b1 : Int → Int} (h0 : bd_ok b0) (h1 : bd_ok b1) (p : Int) : bd_ok (bp b0 b1 p) := by
  unfold bp
  split
  · exact h0
  · exact h1
theorem dcf_sum {hi lo hs ls : Int} (h : dk hi lo hs ls) : bd_sum (dcf hi lo hs ls) = hs + ls := by
  obtain ⟨h1, h2, h3, h4, h5, h6, h7⟩ := h
  have e : ∀ x : Int, (x = hi ∧ dcf hi lo hs ls x = hs) ∨ (x ≠ hi ∧ x = lo ∧ dcf hi lo hs ls x = ls) ∨ (x ≠ hi ∧ x ≠ lo ∧ dcf hi lo hs ls x = 0) := fun x => by
    unfold dcf
    by_cases a : x = hi
    · exact Or.inl ⟨a, if_pos a⟩
    · by_cases b : x = lo
      · exact Or.inr (Or.inl ⟨a, b, by rw [if_neg a, if_pos b]⟩)
      · exact Or.inr (Or.inr ⟨a, b, by rw [if_neg a, if_neg b]⟩)
  unfold bd_sum
  have e1 := e 1; have e2 := e 2; have e3 := e 3; have e4 := e 4; have e5 := e 5; have e6 := e 6
  generalize dcf hi lo hs ls 1 = x1 at *
  generalize dcf hi lo hs ls 2 = x2 at *
  generalize dcf hi lo hs ls 3 = x3 at *
  generalize dcf hi lo hs ls 4 = x4 at *
  generalize dcf hi lo hs ls 5 = x5 at *
  generalize dcf hi lo hs ls 6 = x6 at *
  clear e
  rcases (show hi = 1 ∨ hi = 2 ∨ hi = 3 ∨ hi = 4 ∨ hi = 5 ∨ hi = 6 by omega) with q | q | q | q | q | q <;> rcases (show lo = 0 ∨ lo = 1 ∨ lo = 2 ∨ lo = 3 ∨ lo = 4 ∨ lo = 5 ∨ lo = 6 by omega) with r | r | r | r | r | r | r <;> subst q <;> subst r <;> omega
theorem dcf_nn {hi lo hs ls : Int} (h : dk hi lo hs ls) (x : Int) : 0 ≤ dcf hi lo hs ls x ∧ dcf hi lo hs ls x ≤ 4 := by
  obtain ⟨h1, h2, h3, h4, h5, h6, h7⟩ := h
  unfold dcf
  split
  · omega
  · split <;> omega
/-- 'due', 'right', their count and order see the dice 1 to 6 alone, and of the others' men what blocks -/
theorem due_cong {oth oth' dice dice' own own' : Int → Int} (hb : bd_blk oth oth') (hd : ∀ d, 1 ≤ d → d ≤ 6 → dice d = dice' d) (ho : bd_same own own') : bd_due oth dice own = bd_due oth' dice' own' := by
  have e : ∀ k : Nat, bd_reach oth k dice own = bd_reach oth' k dice' own' := fun k => propext ⟨bd_reach_cong hb k _ _ _ _ hd ho, bd_reach_cong (bd_blk_symm hb) k _ _ _ _ (fun d h1 h2 => (hd d h1 h2).symm) (fun x h1 h2 => (ho x h1 h2).symm)⟩
  unfold bd_due
  rw [e 4, e 3, e 2, e 1]
theorem bd_blk_refl (b : Int → Int) : bd_blk b b := fun _ _ _ => Iff.rfl
theorem bd_same_refl (b : Int → Int) : bd_same b b := fun _ _ _ => rfl
theorem rt_cong {own oth dice dice' : Int → Int} (hd : ∀ d, 1 ≤ d → d ≤ 6 → dice d = dice' d) (us f d : Int) : rt_ok own oth dice us f d ↔ rt_ok own oth dice' us f d := by
  have key : ∀ {dice dice' : Int → Int}, (∀ d, 1 ≤ d → d ≤ 6 → dice d = dice' d) → rt_ok own oth dice us f d → rt_ok own oth dice' us f d := by
    intro dice dice' hd ⟨h1, h2, h3, h4, h5⟩
    refine ⟨h1, by rw [← hd d h1.1 h1.2]; exact h2, h3, fun ⟨q1, g, q2, q3, q4⟩ => h4 ⟨q1, g, q2, by rw [hd g (by omega) q2.2]; exact q3, q4⟩, ?_⟩
    rw [← h5]
    congr 1
    refine (due_cong (bd_blk_refl oth) (fun x x1 x2 => ?_) (bd_same_refl _)).symm
    by_cases e : x = d
    · rw [e, z_us, z_us, hd d h1.1 h1.2]
    · rw [z_un e, z_un e]; exact hd x x1 x2
  exact ⟨key hd, key (fun d h1 h2 => (hd d h1 h2).symm)⟩
theorem rq_cong {own oth dice dice' : Int → Int} (hd : ∀ d, 1 ≤ d → d ≤ 6 → dice d = dice' d) (us : Int) : rq own oth dice us = rq own oth dice' us := by
  funext t
  exact b2_cong (rt_cong hd us _ _)
theorem rc_cong {own oth dice dice' : Int → Int} (hd : ∀ d, 1 ≤ d → d ≤ 6 → dice d = dice' d) (us : Int) : ∀ t : Nat, rc own oth dice us t = rc own oth dice' us t
  | 0 => rfl
  | t + 1 => by
    simp only [rc]
    rw [rc_cong hd us t, rq_cong hd us]
theorem rf_cong {own oth dice dice' : Int → Int} (hd : ∀ d, 1 ≤ d → d ≤ 6 → dice d = dice' d) (us k : Int) : ∀ t : Nat, rf own oth dice us k t = rf own oth dice' us k t
  | 0 => rfl
  | t + 1 => by
    simp only [rf]
    rw [rf_cong hd us k t, rq_cong hd us, rc_cong hd us]
