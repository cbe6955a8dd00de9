/-! rows of the spec, case by case -/
theorem m_due_in {own oth : Int → Int} {hi lo hs ls : Int} (h : dk hi lo hs ls) : 0 ≤ m_due own oth hi lo hs ls ∧ m_due own oth hi lo hs ls ≤ 4 := by
  unfold m_due
  have hs2 := dcf_sum h
  have h6 := h.2.2.2.2.2.1
  have := (bd_due_ex oth (dcf hi lo hs ls) own (fun d => (dcf_nn h d).1) (by omega)).2.2
  omega
theorem sum_cong {dice dice' : Int → Int} (h : ∀ x, 1 ≤ x → x ≤ 6 → dice x = dice' x) : bd_sum dice = bd_sum dice' := by
  unfold bd_sum
  rw [h 1 (by decide) (by decide), h 2 (by decide) (by decide), h 3 (by decide) (by decide), h 4 (by decide) (by decide), h 5 (by decide) (by decide), h 6 (by decide) (by decide)]
theorem m_move_o {len stg mv stk hol cn cs : Int} {sco b0 b1 : Int → Int} {hi lo hs ls : Int} {f d : Int} (h : stg ≠ 2) : m_move (len, stg, mv, stk, hol, cn, cs, sco, b0, b1, hi, lo, hs, ls) f d = (-1, (len, stg, mv, stk, hol, cn, cs, sco, b0, b1, hi, lo, hs, ls)) := if_neg h
theorem m_move_2 {len mv stk hol cn cs : Int} {sco b0 b1 : Int → Int} {hi lo hs ls : Int} {f d : Int} : m_move (len, 2, mv, stk, hol, cn, cs, sco, b0, b1, hi, lo, hs, ls) f d = (if b2 (rt_ok (bp b0 b1 mv) (bp b0 b1 (1 - mv)) (dcf hi lo hs ls) (m_due (bp b0 b1 mv) (bp b0 b1 (1 - mv)) hi lo hs ls) f d) = 1 then m_play len 2 mv stk hol cn cs sco b0 b1 hi lo hs ls f d else ((-2 : Int), ((len, 2, mv, stk, hol, cn, cs, sco, b0, b1, hi, lo, hs, ls) : AS))) := by
  show (if (2 : Int) = 2 then (if b2 (rt_ok (bp b0 b1 mv) (bp b0 b1 (1 - mv)) (dcf hi lo hs ls) (m_due (bp b0 b1 mv) (bp b0 b1 (1 - mv)) hi lo hs ls) f d) = 1 then m_play len 2 mv stk hol cn cs sco b0 b1 hi lo hs ls f d else ((-2 : Int), ((len, 2, mv, stk, hol, cn, cs, sco, b0, b1, hi, lo, hs, ls) : AS))) else ((-1 : Int), ((len, 2, mv, stk, hol, cn, cs, sco, b0, b1, hi, lo, hs, ls) : AS))) = _
  rw [if_pos rfl]
theorem m_move_f {len mv stk hol cn cs : Int} {sco b0 b1 : Int → Int} {hi lo hs ls : Int} {f d : Int} (h : ¬ rt_ok (bp b0 b1 mv) (bp b0 b1 (1 - mv)) (dcf hi lo hs ls) (m_due (bp b0 b1 mv) (bp b0 b1 (1 - mv)) hi lo hs ls) f d) : m_move (len, 2, mv, stk, hol, cn, cs, sco, b0, b1, hi, lo, hs, ls) f d = (-2, (len, 2, mv, stk, hol, cn, cs, sco, b0, b1, hi, lo, hs, ls)) := by
  rw [m_move_2, b2_f h]
  rfl
theorem m_move_t {len mv stk hol cn cs : Int} {sco b0 b1 : Int → Int} {hi lo hs ls : Int} {f d : Int} (h : rt_ok (bp b0 b1 mv) (bp b0 b1 (1 - mv)) (dcf hi lo hs ls) (m_due (bp b0 b1 mv) (bp b0 b1 (1 - mv)) hi lo hs ls) f d) : m_move (len, 2, mv, stk, hol, cn, cs, sco, b0, b1, hi, lo, hs, ls) f d = m_play len 2 mv stk hol cn cs sco b0 b1 hi lo hs ls f d := by
  rw [m_move_2, b2_t h]
  rfl
theorem m_step_o {len stg mv stk hol cn cs : Int} {sco b0 b1 : Int → Int} {hi lo hs ls : Int} {k : Int} (h : stg ≠ 2) : m_step (len, stg, mv, stk, hol, cn, cs, sco, b0, b1, hi, lo, hs, ls) k = (-1, (len, stg, mv, stk, hol, cn, cs, sco, b0, b1, hi, lo, hs, ls)) := if_neg h
theorem m_step_2 {len mv stk hol cn cs : Int} {sco b0 b1 : Int → Int} {hi lo hs ls : Int} {k : Int} : m_step (len, 2, mv, stk, hol, cn, cs, sco, b0, b1, hi, lo, hs, ls) k = (if rf (bp b0 b1 mv) (bp b0 b1 (1 - mv)) (dcf hi lo hs ls) (m_due (bp b0 b1 mv) (bp b0 b1 (1 - mv)) hi lo hs ls) k 150 < 0 then ((-2 : Int), ((len, 2, mv, stk, hol, cn, cs, sco, b0, b1, hi, lo, hs, ls) : AS)) else m_play len 2 mv stk hol cn cs sco b0 b1 hi lo hs ls (rf (bp b0 b1 mv) (bp b0 b1 (1 - mv)) (dcf hi lo hs ls) (m_due (bp b0 b1 mv) (bp b0 b1 (1 - mv)) hi lo hs ls) k 150 / 8) (rf (bp b0 b1 mv) (bp b0 b1 (1 - mv)) (dcf hi lo hs ls) (m_due (bp b0 b1 mv) (bp b0 b1 (1 - mv)) hi lo hs ls) k 150 % 8)) := by
  show (if (2 : Int) = 2 then (if rf (bp b0 b1 mv) (bp b0 b1 (1 - mv)) (dcf hi lo hs ls) (m_due (bp b0 b1 mv) (bp b0 b1 (1 - mv)) hi lo hs ls) k 150 < 0 then ((-2 : Int), ((len, 2, mv, stk, hol, cn, cs, sco, b0, b1, hi, lo, hs, ls) : AS)) else m_play len 2 mv stk hol cn cs sco b0 b1 hi lo hs ls (rf (bp b0 b1 mv) (bp b0 b1 (1 - mv)) (dcf hi lo hs ls) (m_due (bp b0 b1 mv) (bp b0 b1 (1 - mv)) hi lo hs ls) k 150 / 8) (rf (bp b0 b1 mv) (bp b0 b1 (1 - mv)) (dcf hi lo hs ls) (m_due (bp b0 b1 mv) (bp b0 b1 (1 - mv)) hi lo hs ls) k 150 % 8)) else ((-1 : Int), ((len, 2, mv, stk, hol, cn, cs, sco, b0, b1, hi, lo, hs, ls) : AS))) = _
  rw [if_pos rfl]
theorem m_step_f {len mv stk hol cn cs : Int} {sco b0 b1 : Int → Int} {hi lo hs ls : Int} {k : Int} (h : rf (bp b0 b1 mv) (bp b0 b1 (1 - mv)) (dcf hi lo hs ls) (m_due (bp b0 b1 mv) (bp b0 b1 (1 - mv)) hi lo hs ls) k 150 = -2) : m_step (len, 2, mv, stk, hol, cn, cs, sco, b0, b1, hi, lo, hs, ls) k = (-2, (len, 2, mv, stk, hol, cn, cs, sco, b0, b1, hi, lo, hs, ls)) := by
  rw [m_step_2, h, if_pos (by decide)]
theorem m_step_t {len mv stk hol cn cs : Int} {sco b0 b1 : Int → Int} {hi lo hs ls : Int} {k f d : Int} (h1 : 1 ≤ f) (h2 : 1 ≤ d ∧ d ≤ 6) (h : rf (bp b0 b1 mv) (bp b0 b1 (1 - mv)) (dcf hi lo hs ls) (m_due (bp b0 b1 mv) (bp b0 b1 (1 - mv)) hi lo hs ls) k 150 = 8 * f + d) : m_step (len, 2, mv, stk, hol, cn, cs, sco, b0, b1, hi, lo, hs, ls) k = m_play len 2 mv stk hol cn cs sco b0 b1 hi lo hs ls f d := by
  rw [m_step_2, h, if_neg (by omega), show (8 * f + d) / 8 = f by omega, show (8 * f + d) % 8 = d by omega]
abbrev b_hi (a b : Int) : Int := if b < a then a else b
abbrev b_lo (a b : Int) : Int := if a = b then 0 else if b < a then b else a
abbrev b_hs (a b : Int) : Int := if a = b then 4 else 1
abbrev b_ls (a b : Int) : Int := if a = b then 0 else 1
theorem b_dk {a b : Int} (ha : 1 ≤ a ∧ a ≤ 6) (hb : 1 ≤ b ∧ b ≤ 6) : dk (b_hi a b) (b_lo a b) (b_hs a b) (b_ls a b) := by
  unfold b_hi b_lo b_hs b_ls
  rcases (show a = b ∨ a < b ∨ b < a by omega) with e | e | e
  · rw [if_pos e, if_pos e, if_pos e, if_neg (show ¬ b < a by omega)]
    exact ⟨hb, ⟨by decide, by decide⟩, by omega, by decide, by decide, by decide, fun q => absurd q (by decide)⟩
  · rw [if_neg (show ¬ a = b by omega), if_neg (show ¬ a = b by omega), if_neg (show ¬ a = b by omega), if_neg (show ¬ b < a by omega), if_neg (show ¬ b < a by omega)]
    exact ⟨hb, ⟨by omega, by omega⟩, by omega, by decide, by decide, by decide, fun _ => ⟨by omega, by decide, by decide⟩⟩
  · rw [if_neg (show ¬ a = b by omega), if_neg (show ¬ a = b by omega), if_neg (show ¬ a = b by omega), if_pos e, if_pos e]
    exact ⟨ha, ⟨by omega, by omega⟩, by omega, by decide, by decide, by decide, fun _ => ⟨by omega, by decide, by decide⟩⟩
theorem tk_dcf (dice : Int → Int) {a b : Int} (ha : 1 ≤ a ∧ a ≤ 6) (hb : 1 ≤ b ∧ b ≤ 6) (x : Int) (x1 : 1 ≤ x) (x2 : x ≤ 6) : tk_d dice a b x = dcf (b_hi a b) (b_lo a b) (b_hs a b) (b_ls a b) x := by
  rw [tk_at dice ha hb ⟨x1, x2⟩]
  unfold dcf b_hi b_lo b_hs b_ls
  rcases (show a = b ∨ a < b ∨ b < a by omega) with e | e | e
  · rw [if_pos e, if_pos e, if_pos e, if_pos e, if_neg (show ¬ b < a by omega), if_neg (show ¬ x = 0 by omega)]
    by_cases q : x = a
    · rw [if_pos q, if_pos (by omega)]
    · rw [if_neg q, if_neg (by omega)]
  · rw [if_neg (show ¬ a = b by omega), if_neg (show ¬ a = b by omega), if_neg (show ¬ a = b by omega), if_neg (show ¬ a = b by omega), if_neg (show ¬ b < a by omega), if_neg (show ¬ b < a by omega)]
    by_cases q : x = b
    · rw [if_pos q, if_pos (Or.inr q)]
    · rw [if_neg q]
      by_cases q2 : x = a
      · rw [if_pos q2, if_pos (Or.inl q2)]
      · rw [if_neg q2, if_neg (by omega)]
  · rw [if_neg (show ¬ a = b by omega), if_neg (show ¬ a = b by omega), if_neg (show ¬ a = b by omega), if_neg (show ¬ a = b by omega), if_pos e, if_pos e]
    by_cases q : x = a
    · rw [if_pos q, if_pos (Or.inl q)]
    · rw [if_neg q]
      by_cases q2 : x = b
      · rw [if_pos q2, if_pos (Or.inr q2)]
      · rw [if_neg q2, if_neg (by omega)]
theorem tk_ct (a b : Int) : 2 * tk_n a b = b_hs a b + b_ls a b := by
  unfold tk_n b_hs b_ls
  by_cases e : a = b
  · rw [if_pos e, if_pos e, if_pos e]; rfl
  · rw [if_neg e, if_neg e, if_neg e]; rfl
theorem tk_due (dice own oth : Int → Int) {a b : Int} (ha : 1 ≤ a ∧ a ≤ 6) (hb : 1 ≤ b ∧ b ≤ 6) : ((bd_due oth (tk_d dice a b) own : Nat) : Int) = m_due own oth (b_hi a b) (b_lo a b) (b_hs a b) (b_ls a b) := by
  unfold m_due
  congr 1
  exact due_cong (bd_blk_refl _) (tk_dcf dice ha hb) (bd_same_refl _)
theorem m_roll_o {len stg mv stk hol cn cs : Int} {sco b0 b1 : Int → Int} {hi lo hs ls : Int} {a b : Int} (h : ¬ ((stg = 0 ∨ stg = 1) ∧ (1 ≤ a ∧ a ≤ 6) ∧ (1 ≤ b ∧ b ≤ 6))) : m_roll (len, stg, mv, stk, hol, cn, cs, sco, b0, b1, hi, lo, hs, ls) a b = (-1, (len, stg, mv, stk, hol, cn, cs, sco, b0, b1, hi, lo, hs, ls)) := if_neg h
theorem m_roll_e {len mv stk hol cn cs : Int} {sco b0 b1 : Int → Int} {hi lo hs ls : Int} {a b : Int} (ha : 1 ≤ a ∧ a ≤ 6) (hb : 1 ≤ b ∧ b ≤ 6) (h : a = b) : m_roll (len, 0, mv, stk, hol, cn, cs, sco, b0, b1, hi, lo, hs, ls) a b = (0, (len, 0, mv, stk, hol, cn, cs, sco, b0, b1, hi, lo, hs, ls)) := (if_pos ⟨Or.inl rfl, ha, hb⟩).trans (if_pos ⟨rfl, h⟩)
theorem m_roll_00 {len mv stk hol cn cs : Int} {sco b0 b1 : Int → Int} {hi lo hs ls : Int} {a b : Int} (ha : 1 ≤ a ∧ a ≤ 6) (hb : 1 ≤ b ∧ b ≤ 6) (h : b < a) : m_roll (len, 0, mv, stk, hol, cn, cs, sco, b0, b1, hi, lo, hs, ls) a b = m_begin len 0 0 stk hol cn cs sco b0 b1 a b := by
  refine (if_pos ⟨Or.inl rfl, ha, hb⟩).trans ((if_neg (fun q => by omega)).trans ?_)
  rw [if_pos rfl, if_pos h]
theorem m_roll_01 {len mv stk hol cn cs : Int} {sco b0 b1 : Int → Int} {hi lo hs ls : Int} {a b : Int} (ha : 1 ≤ a ∧ a ≤ 6) (hb : 1 ≤ b ∧ b ≤ 6) (hne : a ≠ b) (h : a ≤ b) : m_roll (len, 0, mv, stk, hol, cn, cs, sco, b0, b1, hi, lo, hs, ls) a b = m_begin len 0 1 stk hol cn cs sco b0 b1 a b := by
  refine (if_pos ⟨Or.inl rfl, ha, hb⟩).trans ((if_neg (fun q => hne q.2)).trans ?_)
  rw [if_pos rfl, if_neg (by omega)]
theorem m_roll_1 {len mv stk hol cn cs : Int} {sco b0 b1 : Int → Int} {hi lo hs ls : Int} {a b : Int} (ha : 1 ≤ a ∧ a ≤ 6) (hb : 1 ≤ b ∧ b ≤ 6) : m_roll (len, 1, mv, stk, hol, cn, cs, sco, b0, b1, hi, lo, hs, ls) a b = m_begin len 1 mv stk hol cn cs sco b0 b1 a b := by
  refine (if_pos ⟨Or.inr rfl, ha, hb⟩).trans ((if_neg (fun q => absurd q.1 (by decide))).trans ?_)
  rw [if_neg (by decide)]
theorem m_begin_z0 {len stg stk hol cn cs : Int} {sco b0 b1 : Int → Int} {a b : Int} (h : m_due b0 b1 (b_hi a b) (b_lo a b) (b_hs a b) (b_ls a b) = 0) : m_begin len stg 0 stk hol cn cs sco b0 b1 a b = (0, (len, 1, 1 - 0, stk, hol, cn, cs, sco, b0, b1, b_hi a b, b_lo a b, b_hs a b, b_ls a b)) := if_pos h
theorem m_begin_n0 {len stg stk hol cn cs : Int} {sco b0 b1 : Int → Int} {a b : Int} (h : m_due b0 b1 (b_hi a b) (b_lo a b) (b_hs a b) (b_ls a b) ≠ 0) : m_begin len stg 0 stk hol cn cs sco b0 b1 a b = (m_due b0 b1 (b_hi a b) (b_lo a b) (b_hs a b) (b_ls a b), (len, 2, 0, stk, hol, cn, cs, sco, b0, b1, b_hi a b, b_lo a b, b_hs a b, b_ls a b)) := if_neg h
theorem m_begin_z1 {len stg stk hol cn cs : Int} {sco b0 b1 : Int → Int} {a b : Int} (h : m_due b1 b0 (b_hi a b) (b_lo a b) (b_hs a b) (b_ls a b) = 0) : m_begin len stg 1 stk hol cn cs sco b0 b1 a b = (0, (len, 1, 1 - 1, stk, hol, cn, cs, sco, b0, b1, b_hi a b, b_lo a b, b_hs a b, b_ls a b)) := if_pos h
theorem m_begin_n1 {len stg stk hol cn cs : Int} {sco b0 b1 : Int → Int} {a b : Int} (h : m_due b1 b0 (b_hi a b) (b_lo a b) (b_hs a b) (b_ls a b) ≠ 0) : m_begin len stg 1 stk hol cn cs sco b0 b1 a b = (m_due b1 b0 (b_hi a b) (b_lo a b) (b_hs a b) (b_ls a b), (len, 2, 1, stk, hol, cn, cs, sco, b0, b1, b_hi a b, b_lo a b, b_hs a b, b_ls a b)) := if_neg h
theorem m_answer_o {len stg mv stk hol cn cs : Int} {sco b0 b1 : Int → Int} {hi lo hs ls : Int} {t : Int} (h : stg ≠ 3) : m_answer (len, stg, mv, stk, hol, cn, cs, sco, b0, b1, hi, lo, hs, ls) t = (-1, (len, stg, mv, stk, hol, cn, cs, sco, b0, b1, hi, lo, hs, ls)) := if_neg h
theorem m_answer_3 {len mv stk hol cn cs : Int} {sco b0 b1 : Int → Int} {hi lo hs ls : Int} {t : Int} : m_answer (len, 3, mv, stk, hol, cn, cs, sco, b0, b1, hi, lo, hs, ls) t = (if t = 0 then m_win len 3 mv stk hol cn cs sco b0 b1 hi lo hs ls stk else ((0 : Int), ((len, 1, mv, stk * 2, 1 - mv, cn, cs, sco, b0, b1, hi, lo, hs, ls) : AS))) := by
  show (if (3 : Int) = 3 then (if t = 0 then m_win len 3 mv stk hol cn cs sco b0 b1 hi lo hs ls stk else ((0 : Int), ((len, 1, mv, stk * 2, 1 - mv, cn, cs, sco, b0, b1, hi, lo, hs, ls) : AS))) else ((-1 : Int), ((len, 3, mv, stk, hol, cn, cs, sco, b0, b1, hi, lo, hs, ls) : AS))) = _
  rw [if_pos rfl]
theorem m_answer_t {len mv stk hol cn cs : Int} {sco b0 b1 : Int → Int} {hi lo hs ls : Int} {t : Int} (h : t ≠ 0) : m_answer (len, 3, mv, stk, hol, cn, cs, sco, b0, b1, hi, lo, hs, ls) t = (0, (len, 1, mv, stk * 2, 1 - mv, cn, cs, sco, b0, b1, hi, lo, hs, ls)) := by rw [m_answer_3, if_neg h]
theorem m_answer_f {len mv stk hol cn cs : Int} {sco b0 b1 : Int → Int} {hi lo hs ls : Int} {t : Int} (h : t = 0) : m_answer (len, 3, mv, stk, hol, cn, cs, sco, b0, b1, hi, lo, hs, ls) t = m_win len 3 mv stk hol cn cs sco b0 b1 hi lo hs ls stk := by rw [m_answer_3, if_pos h]
theorem m_offer_t {len stg mv stk hol cn cs : Int} {sco b0 b1 : Int → Int} {hi lo hs ls : Int} (h : stg = 1 ∧ cn = 0 ∧ stk < 64 ∧ hol ≠ 1 - mv) : m_offer (len, stg, mv, stk, hol, cn, cs, sco, b0, b1, hi, lo, hs, ls) = (1, (len, 3, mv, stk, hol, cn, cs, sco, b0, b1, hi, lo, hs, ls)) := if_pos h
theorem m_offer_f {len stg mv stk hol cn cs : Int} {sco b0 b1 : Int → Int} {hi lo hs ls : Int} (h : ¬ (stg = 1 ∧ cn = 0 ∧ stk < 64 ∧ hol ≠ 1 - mv)) : m_offer (len, stg, mv, stk, hol, cn, cs, sco, b0, b1, hi, lo, hs, ls) = (0, (len, stg, mv, stk, hol, cn, cs, sco, b0, b1, hi, lo, hs, ls)) := if_neg h
theorem m_place_f {len stg mv stk hol cn cs : Int} {sco b0 b1 : Int → Int} {hi lo hs ls : Int} {p pt n : Int} (h : ¬ (stg = 0 ∧ (p = 0 ∨ p = 1) ∧ (1 ≤ pt ∧ pt ≤ 24) ∧ (0 ≤ n ∧ n ≤ 15))) : m_place (len, stg, mv, stk, hol, cn, cs, sco, b0, b1, hi, lo, hs, ls) p pt n = (0, (len, stg, mv, stk, hol, cn, cs, sco, b0, b1, hi, lo, hs, ls)) := if_neg h
theorem m_place_0 {len stg mv stk hol cn cs : Int} {sco b0 b1 : Int → Int} {hi lo hs ls : Int} {pt n : Int} (h : stg = 0) (h1 : 1 ≤ pt ∧ pt ≤ 24) (h2 : 0 ≤ n ∧ n ≤ 15) : m_place (len, stg, mv, stk, hol, cn, cs, sco, b0, b1, hi, lo, hs, ls) 0 pt n = (b2 (pm_c b0 b1 pt n), (len, stg, mv, stk, hol, cn, cs, sco, pm_own b0 b1 pt n, b1, hi, lo, hs, ls)) := if_pos ⟨h, Or.inl rfl, h1, h2⟩
theorem m_place_1 {len stg mv stk hol cn cs : Int} {sco b0 b1 : Int → Int} {hi lo hs ls : Int} {pt n : Int} (h : stg = 0) (h1 : 1 ≤ pt ∧ pt ≤ 24) (h2 : 0 ≤ n ∧ n ≤ 15) : m_place (len, stg, mv, stk, hol, cn, cs, sco, b0, b1, hi, lo, hs, ls) 1 pt n = (b2 (pm_c b1 b0 pt n), (len, stg, mv, stk, hol, cn, cs, sco, b0, pm_own b1 b0 pt n, hi, lo, hs, ls)) := if_pos ⟨h, Or.inr rfl, h1, h2⟩
