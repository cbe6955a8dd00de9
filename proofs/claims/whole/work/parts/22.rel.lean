/-! the relation of the class to the match, and what its calls need of the spec -/
def RC (L : Lx) (tm sc bo ra r0 r1 ho di rx kn : Nat) (gr : Nat → Option Nat) : AS → va_W → Prop := fun (len, stg, mv, stk, hol, cn, cs, sco, b0, b1, hi, lo, hs, ls) w =>
  ∃ (us pl ct : Int) (dice kno : Int → Int), hd_ok stg mv b0 b1 hi lo hs ls dice us pl ct ∧ mm_ok kno ∧ w = [(tm, .inr (3, [.int (z_i len), .ref sc, .ref bo, .ref ho, .ref rx, .int (z_i stg), .int (z_i mv), .int (z_i stk), .int (z_i hol), .int (z_i cn), .int (z_i cs)])), (sc, aI L 2 sco), (bo, .inr (0, [.ref ra])), (ra, aR L 2 gr), (r0, aI L 26 b0), (r1, aI L 26 b1), (ho, .inr (1, [.ref di, .int (z_i us), .ref bo, .int (z_i pl), .int (z_i ct)])), (di, aI L 7 dice), (rx, .inr (2, [.ref kn])), (kn, aL L 225 kno)]
theorem tc_is (oth : Int → Int) : tc_f oth = 1 ∨ tc_f oth = 2 ∨ tc_f oth = 3 := by
  unfold tc_f
  split
  · exact Or.inl rfl
  · split
    · exact Or.inr (Or.inr rfl)
    · exact Or.inr (Or.inl rfl)
theorem ga_in {stk : Int} (h : 1 ≤ stk ∧ stk ≤ 126) (oth : Int → Int) : 0 ≤ stk * tc_f oth ∧ stk * tc_f oth ≤ 1000 := by
  rcases tc_is oth with e | e | e <;> rw [e] <;> omega
abbrev dn_h (hi hs d : Int) : Int := if d = hi then hs - 1 else hs
abbrev dn_l (hi ls d : Int) : Int := if d = hi then ls else ls - 1
theorem dn_at {hi lo hs ls : Int} {dice : Int → Int} (hk : dk hi lo hs ls) (hd : ∀ x, 1 ≤ x → x ≤ 6 → dice x = dcf hi lo hs ls x) {d : Int} (h1 : 1 ≤ d ∧ d ≤ 6) (h2 : 0 < dice d) : (∀ x, 1 ≤ x → x ≤ 6 → z_u dice d (dice d - 1) x = dcf hi lo (dn_h hi hs d) (dn_l hi ls d) x) ∧ dk hi lo (dn_h hi hs d) (dn_l hi ls d) ∧ dn_h hi hs d + dn_l hi ls d = hs + ls - 1 := by
  obtain ⟨k1, k2, k3, k4, k5, k6, k7⟩ := hk
  have hdd := hd d h1.1 h1.2
  by_cases e : d = hi
  · have hv : dice d = hs := by rw [hdd]; exact if_pos e
    have e1 : dn_h hi hs d = hs - 1 := if_pos e
    have e2 : dn_l hi ls d = ls := if_pos e
    rw [e1, e2]
    refine ⟨fun x x1 x2 => ?_, ⟨k1, k2, k3, by omega, k5, by omega, fun q => by have := k7 q; omega⟩, by omega⟩
    by_cases q : x = d
    · rw [q, z_us, hv]
      exact (if_pos e).symm
    · rw [z_un q, hd x x1 x2]
      unfold dcf
      rw [if_neg (show ¬ x = hi by omega), if_neg (show ¬ x = hi by omega)]
  · have hl : d = lo := by
      by_cases q : d = lo
      · exact q
      · exfalso
        have : dcf hi lo hs ls d = 0 := by unfold dcf; rw [if_neg e, if_neg q]
        omega
    have hv : dice d = ls := by rw [hdd]; unfold dcf; rw [if_neg e, if_pos hl]
    have e1 : dn_h hi hs d = hs := if_neg e
    have e2 : dn_l hi ls d = ls - 1 := if_neg e
    rw [e1, e2]
    refine ⟨fun x x1 x2 => ?_, ⟨k1, k2, k3, k4, by omega, by omega, fun q => by have := k7 (by omega); omega⟩, by omega⟩
    by_cases q : x = d
    · rw [q, z_us, hv]
      unfold dcf
      rw [if_neg e, if_pos hl]
    · rw [z_un q, hd x x1 x2]
      unfold dcf
      by_cases q2 : x = hi
      · rw [if_pos q2, if_pos q2]
      · rw [if_neg q2, if_neg q2, if_neg (show ¬ x = lo by omega), if_neg (show ¬ x = lo by omega)]
/-- DUE behind a right move is one less -/
theorem dn_due {own oth dice : Int → Int} {hi lo hs ls us f d : Int} (hk : dk hi lo hs ls) (hd : ∀ x, 1 ≤ x → x ≤ 6 → dice x = dcf hi lo hs ls x) (hc : dc_ok dice) (h : rt_ok own oth dice us f d) : us - 1 = m_due (bd_sh own f d) (bd_hit oth (f - d)) hi lo (dn_h hi hs d) (dn_l hi ls d) := by
  obtain ⟨h1, h2, h3, h4, h5⟩ := h
  have hp : 0 < dice d := by have := hc d; omega
  rw [← h5]
  unfold m_due
  congr 1
  refine due_cong (bd_hit_blk (by have := h3.2.1; omega) ?_) (dn_at hk hd h1 hp).1 (bd_same_refl _)
  rcases h3.2.2.2.2.2.2 with q | q
  · exact Or.inl q.2
  · exact Or.inr q.1
theorem m_win_a {len stg mv stk hol cn cs : Int} {sco b0 b1 : Int → Int} {hi lo hs ls gain : Int} (h : len ≤ sco mv + gain) : m_win len stg mv stk hol cn cs sco b0 b1 hi lo hs ls gain = (10 * gain, (len, 4, mv, stk, hol, 0, cs, z_u sco mv (sco mv + gain), b0, b1, hi, lo, hs, ls)) := if_pos h
theorem m_win_b {len stg mv stk hol cn cs : Int} {sco b0 b1 : Int → Int} {hi lo hs ls gain : Int} (h : sco mv + gain < len) : m_win len stg mv stk hol cn cs sco b0 b1 hi lo hs ls gain = (10 * gain, (len, 0, mv, 1, -1, wn_c cs (sco mv + gain) len, wn_s cs (sco mv + gain) len, z_u sco mv (sco mv + gain), st_men, st_men, hi, lo, hs, ls)) := if_neg (by omega)
theorem m_play_w0 {len stg stk hol cn cs : Int} {sco b0 b1 : Int → Int} {hi lo hs ls f d : Int} (h : bd_sh b0 f d 0 = 15) : m_play len stg 0 stk hol cn cs sco b0 b1 hi lo hs ls f d = m_win len stg 0 stk hol cn cs sco (bd_sh b0 f d) (bd_hit b1 (f - d)) hi lo (dn_h hi hs d) (dn_l hi ls d) (stk * tc_f (bd_hit b1 (f - d))) := if_pos h
theorem m_play_z0 {len stg stk hol cn cs : Int} {sco b0 b1 : Int → Int} {hi lo hs ls f d : Int} (h : bd_sh b0 f d 0 ≠ 15) (h2 : m_due (bd_sh b0 f d) (bd_hit b1 (f - d)) hi lo (dn_h hi hs d) (dn_l hi ls d) = 0) : m_play len stg 0 stk hol cn cs sco b0 b1 hi lo hs ls f d = (0, (len, 1, 1 - 0, stk, hol, cn, cs, sco, (bd_sh b0 f d), (bd_hit b1 (f - d)), hi, lo, dn_h hi hs d, dn_l hi ls d)) := (if_neg h).trans (if_pos h2)
theorem m_play_n0 {len stg stk hol cn cs : Int} {sco b0 b1 : Int → Int} {hi lo hs ls f d : Int} (h : bd_sh b0 f d 0 ≠ 15) (h2 : m_due (bd_sh b0 f d) (bd_hit b1 (f - d)) hi lo (dn_h hi hs d) (dn_l hi ls d) ≠ 0) : m_play len stg 0 stk hol cn cs sco b0 b1 hi lo hs ls f d = (m_due (bd_sh b0 f d) (bd_hit b1 (f - d)) hi lo (dn_h hi hs d) (dn_l hi ls d), (len, 2, 0, stk, hol, cn, cs, sco, (bd_sh b0 f d), (bd_hit b1 (f - d)), hi, lo, dn_h hi hs d, dn_l hi ls d)) := (if_neg h).trans (if_neg h2)
theorem m_play_w1 {len stg stk hol cn cs : Int} {sco b0 b1 : Int → Int} {hi lo hs ls f d : Int} (h : bd_sh b1 f d 0 = 15) : m_play len stg 1 stk hol cn cs sco b0 b1 hi lo hs ls f d = m_win len stg 1 stk hol cn cs sco (bd_hit b0 (f - d)) (bd_sh b1 f d) hi lo (dn_h hi hs d) (dn_l hi ls d) (stk * tc_f (bd_hit b0 (f - d))) := if_pos h
theorem m_play_z1 {len stg stk hol cn cs : Int} {sco b0 b1 : Int → Int} {hi lo hs ls f d : Int} (h : bd_sh b1 f d 0 ≠ 15) (h2 : m_due (bd_sh b1 f d) (bd_hit b0 (f - d)) hi lo (dn_h hi hs d) (dn_l hi ls d) = 0) : m_play len stg 1 stk hol cn cs sco b0 b1 hi lo hs ls f d = (0, (len, 1, 1 - 1, stk, hol, cn, cs, sco, (bd_hit b0 (f - d)), (bd_sh b1 f d), hi, lo, dn_h hi hs d, dn_l hi ls d)) := (if_neg h).trans (if_pos h2)
theorem m_play_n1 {len stg stk hol cn cs : Int} {sco b0 b1 : Int → Int} {hi lo hs ls f d : Int} (h : bd_sh b1 f d 0 ≠ 15) (h2 : m_due (bd_sh b1 f d) (bd_hit b0 (f - d)) hi lo (dn_h hi hs d) (dn_l hi ls d) ≠ 0) : m_play len stg 1 stk hol cn cs sco b0 b1 hi lo hs ls f d = (m_due (bd_sh b1 f d) (bd_hit b0 (f - d)) hi lo (dn_h hi hs d) (dn_l hi ls d), (len, 2, 1, stk, hol, cn, cs, sco, (bd_hit b0 (f - d)), (bd_sh b1 f d), hi, lo, dn_h hi hs d, dn_l hi ls d)) := (if_neg h).trans (if_neg h2)
