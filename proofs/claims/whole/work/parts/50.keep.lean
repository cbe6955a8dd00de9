/-! WHAT EVERY CALL KEEPS -/
def in_ok (σ : AS) : Prop := st_ok σ ∧ (σ.2.1 = 3 → σ.2.2.2.1 < 64)
theorem n30 {P : Prop} (h : (0 : Int) = 3) : P := absurd h (by decide)
theorem n31 {P : Prop} (h : (1 : Int) = 3) : P := absurd h (by decide)
theorem n32 {P : Prop} (h : (2 : Int) = 3) : P := absurd h (by decide)
theorem n34 {P : Prop} (h : (4 : Int) = 3) : P := absurd h (by decide)
theorem ini_in (len : Int) : in_ok (ini len) := ⟨ini_ok len, fun h => n30 h⟩
theorem wn_c_is (cs s len : Int) : wn_c cs s len = 0 ∨ wn_c cs s len = 1 := by
  unfold wn_c
  split
  · exact Or.inr rfl
  · exact Or.inl rfl
theorem wn_s_is {cs : Int} (h : cs = 0 ∨ cs = 1) (s len : Int) : wn_s cs s len = 0 ∨ wn_s cs s len = 1 := by
  unfold wn_s
  split
  · exact Or.inr rfl
  · exact h
theorem win_in {len stg mv stk hol cn cs : Int} {sco b0 b1 : Int → Int} {hi lo hs ls gain : Int} (hlen : 1 ≤ len ∧ len ≤ 25) (hmv : mv = 0 ∨ mv = 1) (hstk : 1 ≤ stk ∧ stk ≤ 126) (hhol : -1 ≤ hol ∧ hol ≤ 1) (hcs : cs = 0 ∨ cs = 1) (hsc : ∀ x, 0 ≤ sco x ∧ sco x ≤ 1000) (hl : sco 0 < len ∧ sco 1 < len) (hb0 : bd_ok b0) (hb1 : bd_ok b1) (hg : 0 ≤ gain ∧ gain ≤ 378) :
    in_ok (m_win len stg mv stk hol cn cs sco b0 b1 hi lo hs ls gain).2 := by
  have hm : sco mv < len := by rcases hmv with e | e <;> subst e <;> omega
  have hs' : ∀ x, 0 ≤ z_u sco mv (sco mv + gain) x ∧ z_u sco mv (sco mv + gain) x ≤ 1000 := fun x => by
    have h1 := z_ui sco mv (sco mv + gain) x
    have h2 := hsc x
    have h3 := hsc mv
    omega
  by_cases h : len ≤ sco mv + gain
  · rw [m_win_a h]
    exact ⟨⟨hlen, ⟨by decide, by decide⟩, hmv, hstk, hhol, Or.inl rfl, hcs, hs', fun q => absurd rfl q, hb0, hb1, fun q => absurd q (by decide)⟩, fun q => n34 q⟩
  · rw [m_win_b (by omega)]
    refine ⟨⟨hlen, ⟨by decide, by decide⟩, hmv, ⟨by decide, by decide⟩, ⟨by decide, by decide⟩, wn_c_is _ _ _, wn_s_is hcs _ _, hs', fun _ => ?_, st_men_ok, st_men_ok, fun q => absurd q (by decide)⟩, fun q => n30 q⟩
    have h1 := z_ui sco mv (sco mv + gain) 0
    have h2 := z_ui sco mv (sco mv + gain) 1
    exact ⟨by omega, by omega⟩
theorem play_in {len mv stk hol cn cs : Int} {sco b0 b1 : Int → Int} {hi lo hs ls f d us : Int} (h : st_ok (len, 2, mv, stk, hol, cn, cs, sco, b0, b1, hi, lo, hs, ls)) (hr : rt_ok (bp b0 b1 mv) (bp b0 b1 (1 - mv)) (dcf hi lo hs ls) us f d) :
    in_ok (m_play len 2 mv stk hol cn cs sco b0 b1 hi lo hs ls f d).2 := by
  obtain ⟨hlen, hstg, hmv, hstk, hhol, hcn, hcs, hsc, hl, hb0, hb1, hd⟩ := h
  have hk := (hd rfl).1
  have hc := hr.2.2.1
  have hbn := n_ok hb0 hb1 hc
  have hl2 := hl (by decide)
  have h0 : 0 ≤ dcf hi lo hs ls d := by
    unfold dcf
    split
    · exact hk.2.2.2.1
    · split
      · exact hk.2.2.2.2.1
      · exact Int.le_refl 0
  have hdn := dn_at hk (fun x _ _ => rfl) hr.1 (by have := hr.2.1; omega)
  have hmv2 : 1 - mv = 0 ∨ 1 - mv = 1 := by omega
  by_cases h15 : bd_sh (bp b0 b1 mv) f d 0 = 15
  · rw [m_play_w h15]
    refine win_in hlen hmv hstk hhol hcs hsc hl2 hbn.1 hbn.2 ?_
    rcases tc_is (bd_hit (bp b0 b1 (1 - mv)) (f - d)) with e | e | e <;> rw [e] <;> omega
  · by_cases hz : m_due (bd_sh (bp b0 b1 mv) f d) (bd_hit (bp b0 b1 (1 - mv)) (f - d)) hi lo (dn_h hi hs d) (dn_l hi ls d) = 0
    · rw [m_play_z h15 hz]
      exact ⟨⟨hlen, ⟨by decide, by decide⟩, hmv2, hstk, hhol, hcn, hcs, hsc, fun _ => hl2, hbn.1, hbn.2, fun q => absurd q (by decide)⟩, fun q => n31 q⟩
    · rw [m_play_n h15 hz]
      refine ⟨⟨hlen, ⟨by decide, by decide⟩, hmv, hstk, hhol, hcn, hcs, hsc, fun _ => hl2, hbn.1, hbn.2, fun _ => ⟨hdn.2.1, ?_⟩⟩, fun q => n32 q⟩
      have hnb := n_bp (b0 := b0) (b1 := b1) (f := f) (d := d) hmv
      rw [hnb.1, hnb.2]
      have h4 := m_due_in (own := bd_sh (bp b0 b1 mv) f d) (oth := bd_hit (bp b0 b1 (1 - mv)) (f - d)) hdn.2.1
      omega
theorem begin_in {len stg mv stk hol cn cs : Int} {sco b0 b1 : Int → Int} {a b : Int} (hlen : 1 ≤ len ∧ len ≤ 25) (hmv : mv = 0 ∨ mv = 1) (hstk : 1 ≤ stk ∧ stk ≤ 126) (hhol : -1 ≤ hol ∧ hol ≤ 1) (hcn : cn = 0 ∨ cn = 1) (hcs : cs = 0 ∨ cs = 1) (hsc : ∀ x, 0 ≤ sco x ∧ sco x ≤ 1000) (hl : sco 0 < len ∧ sco 1 < len) (hb0 : bd_ok b0) (hb1 : bd_ok b1) (ha : 1 ≤ a ∧ a ≤ 6) (hb : 1 ≤ b ∧ b ≤ 6) :
    in_ok (m_begin len stg mv stk hol cn cs sco b0 b1 a b).2 := by
  have hk := b_dk ha hb
  have hmv2 : 1 - mv = 0 ∨ 1 - mv = 1 := by omega
  by_cases hz : m_due (bp b0 b1 mv) (bp b0 b1 (1 - mv)) (b_hi a b) (b_lo a b) (b_hs a b) (b_ls a b) = 0
  · rw [m_begin_z hz]
    exact ⟨⟨hlen, ⟨by decide, by decide⟩, hmv2, hstk, hhol, hcn, hcs, hsc, fun _ => hl, hb0, hb1, fun q => absurd q (by decide)⟩, fun q => n31 q⟩
  · rw [m_begin_n hz]
    refine ⟨⟨hlen, ⟨by decide, by decide⟩, hmv, hstk, hhol, hcn, hcs, hsc, fun _ => hl, hb0, hb1, fun _ => ⟨hk, ?_⟩⟩, fun q => n32 q⟩
    have h4 := m_due_in (own := bp b0 b1 mv) (oth := bp b0 b1 (1 - mv)) hk
    omega
theorem roll_in {σ : AS} (h : in_ok σ) (a b : Int) : in_ok (m_roll σ a b).2 := by
  obtain ⟨len, stg, mv, stk, hol, cn, cs, sco, b0, b1, hi, lo, hs, ls⟩ := σ
  by_cases hc : (stg = 0 ∨ stg = 1) ∧ (1 ≤ a ∧ a ≤ 6) ∧ (1 ≤ b ∧ b ≤ 6)
  · obtain ⟨⟨hlen, hstg, hmv, hstk, hhol, hcn, hcs, hsc, hl, hb0, hb1, hd⟩, h3⟩ := h
    obtain ⟨hs01, ha, hb⟩ := hc
    have hl2 := hl (by omega)
    rcases hs01 with e | e
    · subst e
      by_cases q : a = b
      · rw [m_roll_e ha hb q]
        exact ⟨⟨hlen, hstg, hmv, hstk, hhol, hcn, hcs, hsc, hl, hb0, hb1, hd⟩, h3⟩
      · by_cases g : b < a
        · rw [m_roll_00 ha hb g]
          exact begin_in hlen (Or.inl rfl) hstk hhol hcn hcs hsc hl2 hb0 hb1 ha hb
        · rw [m_roll_01 ha hb q (by omega)]
          exact begin_in hlen (Or.inr rfl) hstk hhol hcn hcs hsc hl2 hb0 hb1 ha hb
    · subst e
      rw [m_roll_1 ha hb]
      exact begin_in hlen hmv hstk hhol hcn hcs hsc hl2 hb0 hb1 ha hb
  · rw [m_roll_o hc]
    exact h
theorem move_in {σ : AS} (h : in_ok σ) (f d : Int) : in_ok (m_move σ f d).2 := by
  obtain ⟨len, stg, mv, stk, hol, cn, cs, sco, b0, b1, hi, lo, hs, ls⟩ := σ
  by_cases e : stg = 2
  · subst e
    by_cases hr : rt_ok (bp b0 b1 mv) (bp b0 b1 (1 - mv)) (dcf hi lo hs ls) (m_due (bp b0 b1 mv) (bp b0 b1 (1 - mv)) hi lo hs ls) f d
    · rw [m_move_t hr]
      exact play_in h.1 hr
    · rw [m_move_f hr]
      exact h
  · rw [m_move_o e]
    exact h
theorem step_in {σ : AS} (h : in_ok σ) (k : Int) : in_ok (m_step σ k).2 := by
  obtain ⟨len, stg, mv, stk, hol, cn, cs, sco, b0, b1, hi, lo, hs, ls⟩ := σ
  by_cases e : stg = 2
  · subst e
    rcases rf_ex (own := bp b0 b1 mv) (oth := bp b0 b1 (1 - mv)) (dice := dcf hi lo hs ls) (us := m_due (bp b0 b1 mv) (bp b0 b1 (1 - mv)) hi lo hs ls) (k := k) 150 (Nat.le_refl _) with hr | ⟨f, d, hf, hd, hr, e2⟩
    · rw [m_step_f hr]
      exact h
    · rw [m_step_t hf.1 hd e2]
      exact play_in h.1 hr
  · rw [m_step_o e]
    exact h
theorem place_in {σ : AS} (h : in_ok σ) (p pt n : Int) : in_ok (m_place σ p pt n).2 := by
  obtain ⟨len, stg, mv, stk, hol, cn, cs, sco, b0, b1, hi, lo, hs, ls⟩ := σ
  by_cases hc : stg = 0 ∧ (p = 0 ∨ p = 1) ∧ (1 ≤ pt ∧ pt ≤ 24) ∧ (0 ≤ n ∧ n ≤ 15)
  · obtain ⟨⟨hlen, hstg, hmv, hstk, hhol, hcn, hcs, hsc, hl, hb0, hb1, hd⟩, h3⟩ := h
    obtain ⟨h0, hp, h1, h2⟩ := hc
    subst h0
    rcases hp with e | e
    · subst e
      rw [m_place_0 rfl h1 h2]
      exact ⟨⟨hlen, hstg, hmv, hstk, hhol, hcn, hcs, hsc, hl, pm_own_ok hb0 h1 h2.1, hb1, fun q => absurd q (by decide)⟩, h3⟩
    · subst e
      rw [m_place_1 rfl h1 h2]
      exact ⟨⟨hlen, hstg, hmv, hstk, hhol, hcn, hcs, hsc, hl, hb0, pm_own_ok hb1 h1 h2.1, fun q => absurd q (by decide)⟩, h3⟩
  · rw [m_place_f hc]
    exact h
theorem offer_in {σ : AS} (h : in_ok σ) : in_ok (m_offer σ).2 := by
  obtain ⟨len, stg, mv, stk, hol, cn, cs, sco, b0, b1, hi, lo, hs, ls⟩ := σ
  by_cases hc : stg = 1 ∧ cn = 0 ∧ stk < 64 ∧ hol ≠ 1 - mv
  · have e : m_offer (len, stg, mv, stk, hol, cn, cs, sco, b0, b1, hi, lo, hs, ls) = (1, (len, 3, mv, stk, hol, cn, cs, sco, b0, b1, hi, lo, hs, ls)) := if_pos hc
    obtain ⟨⟨hlen, hstg, hmv, hstk, hhol, hcn, hcs, hsc, hl, hb0, hb1, hd⟩, h3⟩ := h
    rw [e]
    exact ⟨⟨hlen, ⟨by decide, by decide⟩, hmv, hstk, hhol, hcn, hcs, hsc, fun _ => hl (by have := hc.1; omega), hb0, hb1, fun q => absurd q (by decide)⟩, fun _ => hc.2.2.1⟩
  · have e : m_offer (len, stg, mv, stk, hol, cn, cs, sco, b0, b1, hi, lo, hs, ls) = (0, (len, stg, mv, stk, hol, cn, cs, sco, b0, b1, hi, lo, hs, ls)) := if_neg hc
    rw [e]
    exact h
theorem answer_in {σ : AS} (h : in_ok σ) (t : Int) : in_ok (m_answer σ t).2 := by
  obtain ⟨len, stg, mv, stk, hol, cn, cs, sco, b0, b1, hi, lo, hs, ls⟩ := σ
  by_cases e : stg = 3
  · subst e
    obtain ⟨⟨hlen, hstg, hmv, hstk, hhol, hcn, hcs, hsc, hl, hb0, hb1, hd⟩, h3⟩ := h
    have h64 : stk < 64 := h3 rfl
    have hl2 := hl (by decide)
    by_cases q : t = 0
    · rw [m_answer_f q]
      exact win_in hlen hmv hstk hhol hcs hsc hl2 hb0 hb1 ⟨by omega, by omega⟩
    · rw [m_answer_t q]
      exact ⟨⟨hlen, ⟨by decide, by decide⟩, hmv, ⟨by omega, by omega⟩, ⟨by omega, by omega⟩, hcn, hcs, hsc, fun _ => hl2, hb0, hb1, fun q => absurd q (by decide)⟩, fun q => n31 q⟩
  · rw [m_answer_o e]
    exact h
