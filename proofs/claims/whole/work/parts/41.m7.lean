set_option maxHeartbeats 4000000 in
set_option maxRecDepth 100000 in
theorem c_M_ways (L : Lx) (mo ms mb mt mf mc : Nat) (len stg mv stk hol cn cs hi lo hs ls du kw : Int) (sco bb tr fr chn : Int → Int) (b0 b1 : Int → Int)  (hS : st_ok (len, stg, mv, stk, hol, cn, cs, sco, b0, b1, hi, lo, hs, ls)) (hrb : rb_ok bb b0 b1) (hg : gb tr) (hdu : stg = 2 → du = m_due (bp b0 b1 mv) (bp b0 b1 (1 - mv)) hi lo hs ls) (hkw : kw = 0 ∨ (kw = 1 ∧ ch_ok chn)) : CtG L y_M_ways b_M_ways 1 (some .int) (rmh 8) false 0 0 [.ref mo] [(mo, .inr (4, [.int (z_i len), .ref ms, .int (z_i stg), .int (z_i mv), .ref mb, .int (z_i stk), .int (z_i hol), .int (z_i cn), .int (z_i cs), .int (z_i hi), .int (z_i lo), .int (z_i hs), .int (z_i ls), .int (z_i du), .ref mt, .ref mf, .ref mc, .int (z_i kw)])), (ms, aI L 2 sco), (mb, aI L 52 bb), (mt, aI L 312 tr), (mf, aI L 6 fr), (mc, aL L 625 chn)] (RR L mo ms mb mt mf mc (len, stg, mv, stk, hol, cn, cs, sco, b0, b1, hi, lo, hs, ls)) (some (.int (z_i (m_ways (len, stg, mv, stk, hol, cn, cs, sco, b0, b1, hi, lo, hs, ls))))) := by
  obtain ⟨hlen, hstg, hmv, hstk, hhol, hcn, hcs, hsc, hsl, hb0, hb1, hdk⟩ := hS
  refine CtG.of rfl (Nat.le_of_ble_eq_true rfl) (fun X E F => ?_)
  show J L X 1 0 0 [(mo, .inr (4, [.int (z_i len), .ref ms, .int (z_i stg), .int (z_i mv), .ref mb, .int (z_i stk), .int (z_i hol), .int (z_i cn), .int (z_i cs), .int (z_i hi), .int (z_i lo), .int (z_i hs), .int (z_i ls), .int (z_i du), .ref mt, .ref mf, .ref mc, .int (z_i kw)])), (ms, aI L 2 sco), (mb, aI L 52 bb), (mt, aI L 312 tr), (mf, aI L 6 fr), (mc, aL L 625 chn)] [(0, .ref mo)] [] 0
  refine J_aload_n E 0 d_M_ways_0 rfl rfl ?_
  refine g_M_39 E 0 rfl rfl d_M_ways_1 ?_
  refine J_iconst E d_M_ways_4 ?_
  refine J_icmp_ne E 16 d_M_ways_5 (by decide) (by exact ⟨⟨by omega, by omega⟩, ⟨by omega, by omega⟩⟩) (fun h5 => ?_) (fun h5 => ?_)
  · refine J_iconst E d_M_ways_16 ?_
    exact J_ireturn E F (if_neg h5).symm ⟨du, kw, bb, tr, fr, chn, hrb, hg, hdu, hkw, rfl⟩ d_M_ways_17
  · subst h5
    obtain ⟨hk, hd1⟩ := hdk rfl
    have hdu2 := hdu rfl
    have hkhi := hk.1
    have hklo := hk.2.1
    have hdu4 : 0 ≤ du ∧ du ≤ 4 := by rw [hdu2]; exact m_due_in hk
    refine J_aload_n E 0 d_M_ways_8 rfl rfl ?_
    refine J_iconst E d_M_ways_9 ?_
    refine J_callV (wr := []) (rest := []) E kb_M_find t_2_212 t_2_214 ts_M_find (c_M_find L mo ms mb mt mf mc len 2 mv stk hol cn cs hi lo hs ls du kw sco bb tr fr chn b0 b1 (-1) hg hrb hb0 hb1 hmv hk hdu4 ⟨by decide, by decide⟩) (fun h => h) (Rm_h (by decide) (by decide)) [0, 1, 2, 3, 4, 5] [] rfl rfl rfl rfl (by decide) 0 rfl rfl rfl rfl (Nat.le_of_ble_eq_true rfl) d_M_ways_10 (fun w' hw => ?_)
    obtain ⟨gf, ff, hgf, hw⟩ := hw
    obtain rfl : w' = [(mo, .inr (4, [.int (z_i len), .ref ms, .int (z_i 2), .int (z_i mv), .ref mb, .int (z_i stk), .int (z_i hol), .int (z_i cn), .int (z_i cs), .int (z_i hi), .int (z_i lo), .int (z_i hs), .int (z_i ls), .int (z_i du), .ref mt, .ref mf, .ref mc, .int (z_i kw)])), (ms, aI L 2 sco), (mb, aI L 52 bb), (mt, aI L 312 gf), (mf, aI L 6 ff), (mc, aL L 625 chn)] := hw
    rw [if_pos (by decide)]
    show J L X 1 0 0 [(mo, .inr (4, [.int (z_i len), .ref ms, .int (z_i 2), .int (z_i mv), .ref mb, .int (z_i stk), .int (z_i hol), .int (z_i cn), .int (z_i cs), .int (z_i hi), .int (z_i lo), .int (z_i hs), .int (z_i ls), .int (z_i du), .ref mt, .ref mf, .ref mc, .int (z_i kw)])), (ms, aI L 2 sco), (mb, aI L 52 bb), (mt, aI L 312 gf), (mf, aI L 6 ff), (mc, aL L 625 chn)] [(0, .ref mo)] [.int (z_i (rc (bp b0 b1 mv) (bp b0 b1 (1 - mv)) (dcf hi lo hs ls) du 150))] 13
    refine J_goto E 17 d_M_ways_13 (by decide) ?_
    exact J_ireturn E F (by rw [hdu2]; rfl) ⟨du, kw, bb, gf, ff, chn, hrb, hgf, hdu, hkw, rfl⟩ d_M_ways_17
set_option maxHeartbeats 4000000 in
set_option maxRecDepth 100000 in
theorem c_M_due (L : Lx) (mo ms mb mt mf mc : Nat) (len stg mv stk hol cn cs hi lo hs ls du kw : Int) (sco bb tr fr chn : Int → Int) (b0 b1 : Int → Int)  (hS : st_ok (len, stg, mv, stk, hol, cn, cs, sco, b0, b1, hi, lo, hs, ls)) (hrb : rb_ok bb b0 b1) (hg : gb tr) (hdu : stg = 2 → du = m_due (bp b0 b1 mv) (bp b0 b1 (1 - mv)) hi lo hs ls) (hkw : kw = 0 ∨ (kw = 1 ∧ ch_ok chn)) : CtG L y_M_due b_M_due 1 (some .int) (rmh 1) false 0 0 [.ref mo] [(mo, .inr (4, [.int (z_i len), .ref ms, .int (z_i stg), .int (z_i mv), .ref mb, .int (z_i stk), .int (z_i hol), .int (z_i cn), .int (z_i cs), .int (z_i hi), .int (z_i lo), .int (z_i hs), .int (z_i ls), .int (z_i du), .ref mt, .ref mf, .ref mc, .int (z_i kw)])), (ms, aI L 2 sco), (mb, aI L 52 bb), (mt, aI L 312 tr), (mf, aI L 6 fr), (mc, aL L 625 chn)] (RR L mo ms mb mt mf mc (len, stg, mv, stk, hol, cn, cs, sco, b0, b1, hi, lo, hs, ls)) (some (.int (z_i (m_dueA (len, stg, mv, stk, hol, cn, cs, sco, b0, b1, hi, lo, hs, ls))))) := by
  obtain ⟨hlen, hstg, hmv, hstk, hhol, hcn, hcs, hsc, hsl, hb0, hb1, hdk⟩ := hS
  refine CtG.of rfl (Nat.le_of_ble_eq_true rfl) (fun X E F => ?_)
  show J L X 1 0 0 [(mo, .inr (4, [.int (z_i len), .ref ms, .int (z_i stg), .int (z_i mv), .ref mb, .int (z_i stk), .int (z_i hol), .int (z_i cn), .int (z_i cs), .int (z_i hi), .int (z_i lo), .int (z_i hs), .int (z_i ls), .int (z_i du), .ref mt, .ref mf, .ref mc, .int (z_i kw)])), (ms, aI L 2 sco), (mb, aI L 52 bb), (mt, aI L 312 tr), (mf, aI L 6 fr), (mc, aL L 625 chn)] [(0, .ref mo)] [] 0
  refine J_aload_n E 0 d_M_due_0 rfl rfl ?_
  refine g_M_39 E 0 rfl rfl d_M_due_1 ?_
  refine J_iconst E d_M_due_4 ?_
  refine J_icmp_ne E 15 d_M_due_5 (by decide) (by exact ⟨⟨by omega, by omega⟩, ⟨by omega, by omega⟩⟩) (fun h5 => ?_) (fun h5 => ?_)
  · refine J_iconst E d_M_due_15 ?_
    exact J_ireturn E F (if_neg h5).symm ⟨du, kw, bb, tr, fr, chn, hrb, hg, hdu, hkw, rfl⟩ d_M_due_16
  · subst h5
    obtain ⟨hk, hd1⟩ := hdk rfl
    have hdu2 := hdu rfl
    have hkhi := hk.1
    have hklo := hk.2.1
    have hdu4 : 0 ≤ du ∧ du ≤ 4 := by rw [hdu2]; exact m_due_in hk
    refine J_aload_n E 0 d_M_due_8 rfl rfl ?_
    refine g_M_87 E 0 rfl rfl d_M_due_9 ?_
    refine J_goto E 16 d_M_due_12 (by decide) ?_
    exact J_ireturn E F (hdu2.trans rfl) ⟨du, kw, bb, tr, fr, chn, hrb, hg, hdu, hkw, rfl⟩ d_M_due_16
set_option maxHeartbeats 4000000 in
set_option maxRecDepth 100000 in
theorem c_M_left (L : Lx) (mo ms mb mt mf mc : Nat) (len stg mv stk hol cn cs hi lo hs ls du kw : Int) (sco bb tr fr chn : Int → Int) (b0 b1 : Int → Int) (d : Int) (hS : st_ok (len, stg, mv, stk, hol, cn, cs, sco, b0, b1, hi, lo, hs, ls)) (hrb : rb_ok bb b0 b1) (hg : gb tr) (hdu : stg = 2 → du = m_due (bp b0 b1 mv) (bp b0 b1 (1 - mv)) hi lo hs ls) (hkw : kw = 0 ∨ (kw = 1 ∧ ch_ok chn)) (hd : z_r d) : CtG L y_M_left b_M_left 2 (some .int) (rmh 1) false 0 0 [.ref mo, .int (z_i d)] [(mo, .inr (4, [.int (z_i len), .ref ms, .int (z_i stg), .int (z_i mv), .ref mb, .int (z_i stk), .int (z_i hol), .int (z_i cn), .int (z_i cs), .int (z_i hi), .int (z_i lo), .int (z_i hs), .int (z_i ls), .int (z_i du), .ref mt, .ref mf, .ref mc, .int (z_i kw)])), (ms, aI L 2 sco), (mb, aI L 52 bb), (mt, aI L 312 tr), (mf, aI L 6 fr), (mc, aL L 625 chn)] (RR L mo ms mb mt mf mc (len, stg, mv, stk, hol, cn, cs, sco, b0, b1, hi, lo, hs, ls)) (some (.int (z_i (m_left (len, stg, mv, stk, hol, cn, cs, sco, b0, b1, hi, lo, hs, ls) d)))) := by
  obtain ⟨hlen, hstg, hmv, hstk, hhol, hcn, hcs, hsc, hsl, hb0, hb1, hdk⟩ := hS
  refine CtG.of rfl (Nat.le_of_ble_eq_true rfl) (fun X E F => ?_)
  show J L X 2 0 0 [(mo, .inr (4, [.int (z_i len), .ref ms, .int (z_i stg), .int (z_i mv), .ref mb, .int (z_i stk), .int (z_i hol), .int (z_i cn), .int (z_i cs), .int (z_i hi), .int (z_i lo), .int (z_i hs), .int (z_i ls), .int (z_i du), .ref mt, .ref mf, .ref mc, .int (z_i kw)])), (ms, aI L 2 sco), (mb, aI L 52 bb), (mt, aI L 312 tr), (mf, aI L 6 fr), (mc, aL L 625 chn)] [(0, .ref mo), (1, .int (z_i d))] [] 0
  refine J_aload_n E 0 d_M_left_0 rfl rfl ?_
  refine g_M_39 E 0 rfl rfl d_M_left_1 ?_
  refine J_iconst E d_M_left_4 ?_
  refine J_icmp_ne E 13 d_M_left_5 (by decide) (by exact ⟨⟨by omega, by omega⟩, ⟨by omega, by omega⟩⟩) (fun h5 => ?_) (fun h5 => ?_)
  · refine J_iconst E d_M_left_13 ?_
    exact J_ireturn E F (if_neg (by omega)).symm ⟨du, kw, bb, tr, fr, chn, hrb, hg, hdu, hkw, rfl⟩ d_M_left_14
  · obtain ⟨hk, hd1⟩ := hdk h5
    have hkhi := hk.1
    have hklo := hk.2.1
    have hkx := k3x hk
    refine J_iload_n E 1 d_M_left_8 rfl rfl ?_
    refine J_iconst E d_M_left_9 ?_
    refine J_icmp_ge E 15 d_M_left_10 (by decide) (by exact ⟨⟨by omega, by omega⟩, ⟨by omega, by omega⟩⟩) (fun h10 => ?_) (fun h10 => ?_)
    · refine J_iload_n E 1 d_M_left_15 rfl rfl ?_
      refine J_aload_n E 0 d_M_left_16 rfl rfl ?_
      refine g_M_61 E 0 rfl rfl d_M_left_17 ?_
      refine J_icmp_ne E 30 d_M_left_20 (by decide) (by exact ⟨⟨by omega, by omega⟩, ⟨by omega, by omega⟩⟩) (fun h20 => ?_) (fun h20 => ?_)
      · refine J_iload_n E 1 d_M_left_30 rfl rfl ?_
        refine J_aload_n E 0 d_M_left_31 rfl rfl ?_
        refine g_M_64 E 0 rfl rfl d_M_left_32 ?_
        refine J_icmp_ne E 45 d_M_left_35 (by decide) (by exact ⟨⟨by omega, by omega⟩, ⟨by omega, by omega⟩⟩) (fun h35 => ?_) (fun h35 => ?_)
        · refine J_iconst E d_M_left_45 ?_
          exact J_ireturn E F (by by_cases e : d ≤ 6; (rw [show m_left (len, stg, mv, stk, hol, cn, cs, sco, b0, b1, hi, lo, hs, ls) d = dcf hi lo hs ls d from if_pos ⟨h5, by omega, e⟩, dcf_no h20 h35]); exact (if_neg (by omega)).symm) ⟨du, kw, bb, tr, fr, chn, hrb, hg, hdu, hkw, rfl⟩ d_M_left_46
        · refine J_aload_n E 0 d_M_left_38 rfl rfl ?_
          refine g_M_77 E 0 rfl rfl d_M_left_39 ?_
          refine J_goto E 46 d_M_left_42 (by decide) ?_
          exact J_ireturn E F (by rw [show m_left (len, stg, mv, stk, hol, cn, cs, sco, b0, b1, hi, lo, hs, ls) d = dcf hi lo hs ls d from if_pos ⟨h5, by omega, by omega⟩, h35, dcf_lo (by omega)]) ⟨du, kw, bb, tr, fr, chn, hrb, hg, hdu, hkw, rfl⟩ d_M_left_46
      · refine J_aload_n E 0 d_M_left_23 rfl rfl ?_
        refine g_M_74 E 0 rfl rfl d_M_left_24 ?_
        refine J_goto E 46 d_M_left_27 (by decide) ?_
        exact J_ireturn E F (by rw [show m_left (len, stg, mv, stk, hol, cn, cs, sco, b0, b1, hi, lo, hs, ls) d = dcf hi lo hs ls d from if_pos ⟨h5, by omega, by omega⟩, h20, dcf_hi]) ⟨du, kw, bb, tr, fr, chn, hrb, hg, hdu, hkw, rfl⟩ d_M_left_46
    · refine J_iconst E d_M_left_13 ?_
      exact J_ireturn E F (if_neg (by omega)).symm ⟨du, kw, bb, tr, fr, chn, hrb, hg, hdu, hkw, rfl⟩ d_M_left_14
set_option maxHeartbeats 4000000 in
set_option maxRecDepth 100000 in
theorem c_M_phase (L : Lx) (mo ms mb mt mf mc : Nat) (len stg mv stk hol cn cs hi lo hs ls du kw : Int) (sco bb tr fr chn : Int → Int) (b0 b1 : Int → Int)  (hS : st_ok (len, stg, mv, stk, hol, cn, cs, sco, b0, b1, hi, lo, hs, ls)) (hrb : rb_ok bb b0 b1) (hg : gb tr) (hdu : stg = 2 → du = m_due (bp b0 b1 mv) (bp b0 b1 (1 - mv)) hi lo hs ls) (hkw : kw = 0 ∨ (kw = 1 ∧ ch_ok chn)) : CtG L y_M_phase b_M_phase 1 (some .int) (rmh 1) false 0 0 [.ref mo] [(mo, .inr (4, [.int (z_i len), .ref ms, .int (z_i stg), .int (z_i mv), .ref mb, .int (z_i stk), .int (z_i hol), .int (z_i cn), .int (z_i cs), .int (z_i hi), .int (z_i lo), .int (z_i hs), .int (z_i ls), .int (z_i du), .ref mt, .ref mf, .ref mc, .int (z_i kw)])), (ms, aI L 2 sco), (mb, aI L 52 bb), (mt, aI L 312 tr), (mf, aI L 6 fr), (mc, aL L 625 chn)] (RR L mo ms mb mt mf mc (len, stg, mv, stk, hol, cn, cs, sco, b0, b1, hi, lo, hs, ls)) (some (.int (z_i (stg)))) := by
  obtain ⟨hlen, hstg, hmv, hstk, hhol, hcn, hcs, hsc, hsl, hb0, hb1, hdk⟩ := hS
  refine CtG.of rfl (Nat.le_of_ble_eq_true rfl) (fun X E F => ?_)
  show J L X 1 0 0 [(mo, .inr (4, [.int (z_i len), .ref ms, .int (z_i stg), .int (z_i mv), .ref mb, .int (z_i stk), .int (z_i hol), .int (z_i cn), .int (z_i cs), .int (z_i hi), .int (z_i lo), .int (z_i hs), .int (z_i ls), .int (z_i du), .ref mt, .ref mf, .ref mc, .int (z_i kw)])), (ms, aI L 2 sco), (mb, aI L 52 bb), (mt, aI L 312 tr), (mf, aI L 6 fr), (mc, aL L 625 chn)] [(0, .ref mo)] [] 0
  refine J_aload_n E 0 d_M_phase_0 rfl rfl ?_
  refine g_M_39 E 0 rfl rfl d_M_phase_1 ?_
  exact J_ireturn E F rfl ⟨du, kw, bb, tr, fr, chn, hrb, hg, hdu, hkw, rfl⟩ d_M_phase_4
set_option maxHeartbeats 4000000 in
set_option maxRecDepth 100000 in
theorem c_M_cube (L : Lx) (mo ms mb mt mf mc : Nat) (len stg mv stk hol cn cs hi lo hs ls du kw : Int) (sco bb tr fr chn : Int → Int) (b0 b1 : Int → Int)  (hS : st_ok (len, stg, mv, stk, hol, cn, cs, sco, b0, b1, hi, lo, hs, ls)) (hrb : rb_ok bb b0 b1) (hg : gb tr) (hdu : stg = 2 → du = m_due (bp b0 b1 mv) (bp b0 b1 (1 - mv)) hi lo hs ls) (hkw : kw = 0 ∨ (kw = 1 ∧ ch_ok chn)) : CtG L y_M_cube b_M_cube 1 (some .int) (rmh 1) false 0 0 [.ref mo] [(mo, .inr (4, [.int (z_i len), .ref ms, .int (z_i stg), .int (z_i mv), .ref mb, .int (z_i stk), .int (z_i hol), .int (z_i cn), .int (z_i cs), .int (z_i hi), .int (z_i lo), .int (z_i hs), .int (z_i ls), .int (z_i du), .ref mt, .ref mf, .ref mc, .int (z_i kw)])), (ms, aI L 2 sco), (mb, aI L 52 bb), (mt, aI L 312 tr), (mf, aI L 6 fr), (mc, aL L 625 chn)] (RR L mo ms mb mt mf mc (len, stg, mv, stk, hol, cn, cs, sco, b0, b1, hi, lo, hs, ls)) (some (.int (z_i (stk)))) := by
  obtain ⟨hlen, hstg, hmv, hstk, hhol, hcn, hcs, hsc, hsl, hb0, hb1, hdk⟩ := hS
  refine CtG.of rfl (Nat.le_of_ble_eq_true rfl) (fun X E F => ?_)
  show J L X 1 0 0 [(mo, .inr (4, [.int (z_i len), .ref ms, .int (z_i stg), .int (z_i mv), .ref mb, .int (z_i stk), .int (z_i hol), .int (z_i cn), .int (z_i cs), .int (z_i hi), .int (z_i lo), .int (z_i hs), .int (z_i ls), .int (z_i du), .ref mt, .ref mf, .ref mc, .int (z_i kw)])), (ms, aI L 2 sco), (mb, aI L 52 bb), (mt, aI L 312 tr), (mf, aI L 6 fr), (mc, aL L 625 chn)] [(0, .ref mo)] [] 0
  refine J_aload_n E 0 d_M_cube_0 rfl rfl ?_
  refine g_M_16 E 0 rfl rfl d_M_cube_1 ?_
  exact J_ireturn E F rfl ⟨du, kw, bb, tr, fr, chn, hrb, hg, hdu, hkw, rfl⟩ d_M_cube_4
set_option maxHeartbeats 4000000 in
set_option maxRecDepth 100000 in
theorem c_M_owner (L : Lx) (mo ms mb mt mf mc : Nat) (len stg mv stk hol cn cs hi lo hs ls du kw : Int) (sco bb tr fr chn : Int → Int) (b0 b1 : Int → Int)  (hS : st_ok (len, stg, mv, stk, hol, cn, cs, sco, b0, b1, hi, lo, hs, ls)) (hrb : rb_ok bb b0 b1) (hg : gb tr) (hdu : stg = 2 → du = m_due (bp b0 b1 mv) (bp b0 b1 (1 - mv)) hi lo hs ls) (hkw : kw = 0 ∨ (kw = 1 ∧ ch_ok chn)) : CtG L y_M_owner b_M_owner 1 (some .int) (rmh 1) false 0 0 [.ref mo] [(mo, .inr (4, [.int (z_i len), .ref ms, .int (z_i stg), .int (z_i mv), .ref mb, .int (z_i stk), .int (z_i hol), .int (z_i cn), .int (z_i cs), .int (z_i hi), .int (z_i lo), .int (z_i hs), .int (z_i ls), .int (z_i du), .ref mt, .ref mf, .ref mc, .int (z_i kw)])), (ms, aI L 2 sco), (mb, aI L 52 bb), (mt, aI L 312 tr), (mf, aI L 6 fr), (mc, aL L 625 chn)] (RR L mo ms mb mt mf mc (len, stg, mv, stk, hol, cn, cs, sco, b0, b1, hi, lo, hs, ls)) (some (.int (z_i (hol)))) := by
  obtain ⟨hlen, hstg, hmv, hstk, hhol, hcn, hcs, hsc, hsl, hb0, hb1, hdk⟩ := hS
  refine CtG.of rfl (Nat.le_of_ble_eq_true rfl) (fun X E F => ?_)
  show J L X 1 0 0 [(mo, .inr (4, [.int (z_i len), .ref ms, .int (z_i stg), .int (z_i mv), .ref mb, .int (z_i stk), .int (z_i hol), .int (z_i cn), .int (z_i cs), .int (z_i hi), .int (z_i lo), .int (z_i hs), .int (z_i ls), .int (z_i du), .ref mt, .ref mf, .ref mc, .int (z_i kw)])), (ms, aI L 2 sco), (mb, aI L 52 bb), (mt, aI L 312 tr), (mf, aI L 6 fr), (mc, aL L 625 chn)] [(0, .ref mo)] [] 0
  refine J_aload_n E 0 d_M_owner_0 rfl rfl ?_
  refine g_M_20 E 0 rfl rfl d_M_owner_1 ?_
  exact J_ireturn E F rfl ⟨du, kw, bb, tr, fr, chn, hrb, hg, hdu, hkw, rfl⟩ d_M_owner_4
set_option maxHeartbeats 4000000 in
set_option maxRecDepth 100000 in
theorem c_M_crawford (L : Lx) (mo ms mb mt mf mc : Nat) (len stg mv stk hol cn cs hi lo hs ls du kw : Int) (sco bb tr fr chn : Int → Int) (b0 b1 : Int → Int)  (hS : st_ok (len, stg, mv, stk, hol, cn, cs, sco, b0, b1, hi, lo, hs, ls)) (hrb : rb_ok bb b0 b1) (hg : gb tr) (hdu : stg = 2 → du = m_due (bp b0 b1 mv) (bp b0 b1 (1 - mv)) hi lo hs ls) (hkw : kw = 0 ∨ (kw = 1 ∧ ch_ok chn)) : CtG L y_M_crawford b_M_crawford 1 (some .boolean) (rmh 1) false 0 0 [.ref mo] [(mo, .inr (4, [.int (z_i len), .ref ms, .int (z_i stg), .int (z_i mv), .ref mb, .int (z_i stk), .int (z_i hol), .int (z_i cn), .int (z_i cs), .int (z_i hi), .int (z_i lo), .int (z_i hs), .int (z_i ls), .int (z_i du), .ref mt, .ref mf, .ref mc, .int (z_i kw)])), (ms, aI L 2 sco), (mb, aI L 52 bb), (mt, aI L 312 tr), (mf, aI L 6 fr), (mc, aL L 625 chn)] (RR L mo ms mb mt mf mc (len, stg, mv, stk, hol, cn, cs, sco, b0, b1, hi, lo, hs, ls)) (some (.int (z_i (cn)))) := by
  obtain ⟨hlen, hstg, hmv, hstk, hhol, hcn, hcs, hsc, hsl, hb0, hb1, hdk⟩ := hS
  refine CtG.of rfl (Nat.le_of_ble_eq_true rfl) (fun X E F => ?_)
  show J L X 1 0 0 [(mo, .inr (4, [.int (z_i len), .ref ms, .int (z_i stg), .int (z_i mv), .ref mb, .int (z_i stk), .int (z_i hol), .int (z_i cn), .int (z_i cs), .int (z_i hi), .int (z_i lo), .int (z_i hs), .int (z_i ls), .int (z_i du), .ref mt, .ref mf, .ref mc, .int (z_i kw)])), (ms, aI L 2 sco), (mb, aI L 52 bb), (mt, aI L 312 tr), (mf, aI L 6 fr), (mc, aL L 625 chn)] [(0, .ref mo)] [] 0
  refine J_aload_n E 0 d_M_crawford_0 rfl rfl ?_
  refine g_M_101 E 0 rfl rfl d_M_crawford_1 ?_
  exact J_zreturn E F (by omega) rfl ⟨du, kw, bb, tr, fr, chn, hrb, hg, hdu, hkw, rfl⟩ d_M_crawford_4
set_option maxHeartbeats 4000000 in
set_option maxRecDepth 100000 in
theorem c_M_turn (L : Lx) (mo ms mb mt mf mc : Nat) (len stg mv stk hol cn cs hi lo hs ls du kw : Int) (sco bb tr fr chn : Int → Int) (b0 b1 : Int → Int)  (hS : st_ok (len, stg, mv, stk, hol, cn, cs, sco, b0, b1, hi, lo, hs, ls)) (hrb : rb_ok bb b0 b1) (hg : gb tr) (hdu : stg = 2 → du = m_due (bp b0 b1 mv) (bp b0 b1 (1 - mv)) hi lo hs ls) (hkw : kw = 0 ∨ (kw = 1 ∧ ch_ok chn)) : CtG L y_M_turn b_M_turn 1 (some .int) (rmh 1) false 0 0 [.ref mo] [(mo, .inr (4, [.int (z_i len), .ref ms, .int (z_i stg), .int (z_i mv), .ref mb, .int (z_i stk), .int (z_i hol), .int (z_i cn), .int (z_i cs), .int (z_i hi), .int (z_i lo), .int (z_i hs), .int (z_i ls), .int (z_i du), .ref mt, .ref mf, .ref mc, .int (z_i kw)])), (ms, aI L 2 sco), (mb, aI L 52 bb), (mt, aI L 312 tr), (mf, aI L 6 fr), (mc, aL L 625 chn)] (RR L mo ms mb mt mf mc (len, stg, mv, stk, hol, cn, cs, sco, b0, b1, hi, lo, hs, ls)) (some (.int (z_i (m_turn (len, stg, mv, stk, hol, cn, cs, sco, b0, b1, hi, lo, hs, ls))))) := by
  obtain ⟨hlen, hstg, hmv, hstk, hhol, hcn, hcs, hsc, hsl, hb0, hb1, hdk⟩ := hS
  refine CtG.of rfl (Nat.le_of_ble_eq_true rfl) (fun X E F => ?_)
  show J L X 1 0 0 [(mo, .inr (4, [.int (z_i len), .ref ms, .int (z_i stg), .int (z_i mv), .ref mb, .int (z_i stk), .int (z_i hol), .int (z_i cn), .int (z_i cs), .int (z_i hi), .int (z_i lo), .int (z_i hs), .int (z_i ls), .int (z_i du), .ref mt, .ref mf, .ref mc, .int (z_i kw)])), (ms, aI L 2 sco), (mb, aI L 52 bb), (mt, aI L 312 tr), (mf, aI L 6 fr), (mc, aL L 625 chn)] [(0, .ref mo)] [] 0
  refine J_aload_n E 0 d_M_turn_0 rfl rfl ?_
  refine g_M_39 E 0 rfl rfl d_M_turn_1 ?_
  refine J_if_ne E 11 d_M_turn_4 (by decide) (by exact ⟨by omega, by omega⟩) (fun h4 => ?_) (fun h4 => ?_)
  · refine J_aload_n E 0 d_M_turn_11 rfl rfl ?_
    refine g_M_39 E 0 rfl rfl d_M_turn_12 ?_
    refine J_iconst E d_M_turn_15 ?_
    refine J_icmp_ne E 28 d_M_turn_16 (by decide) (by exact ⟨⟨by omega, by omega⟩, ⟨by omega, by omega⟩⟩) (fun h16 => ?_) (fun h16 => ?_)
    · refine J_aload_n E 0 d_M_turn_28 rfl rfl ?_
      refine g_M_80 E 0 rfl rfl d_M_turn_29 ?_
      exact J_ireturn E F (((if_neg h4).trans (if_neg h16)).symm) ⟨du, kw, bb, tr, fr, chn, hrb, hg, hdu, hkw, rfl⟩ d_M_turn_32
    · refine J_iconst E d_M_turn_19 ?_
      refine J_aload_n E 0 d_M_turn_20 rfl rfl ?_
      refine g_M_80 E 0 rfl rfl d_M_turn_21 ?_
      refine J_isub E d_M_turn_24 ?_
      refine J_goto E 32 d_M_turn_25 (by decide) ?_
      exact J_ireturn E F (((if_neg h4).trans (if_pos h16)).symm) ⟨du, kw, bb, tr, fr, chn, hrb, hg, hdu, hkw, rfl⟩ d_M_turn_32
  · refine J_iconst E d_M_turn_7 ?_
    refine J_goto E 32 d_M_turn_8 (by decide) ?_
    exact J_ireturn E F (if_pos h4).symm ⟨du, kw, bb, tr, fr, chn, hrb, hg, hdu, hkw, rfl⟩ d_M_turn_32
set_option maxHeartbeats 4000000 in
set_option maxRecDepth 100000 in
theorem c_M_points (L : Lx) (mo ms mb mt mf mc : Nat) (len stg mv stk hol cn cs hi lo hs ls du kw : Int) (sco bb tr fr chn : Int → Int) (b0 b1 : Int → Int) (p : Int) (hS : st_ok (len, stg, mv, stk, hol, cn, cs, sco, b0, b1, hi, lo, hs, ls)) (hrb : rb_ok bb b0 b1) (hg : gb tr) (hdu : stg = 2 → du = m_due (bp b0 b1 mv) (bp b0 b1 (1 - mv)) hi lo hs ls) (hkw : kw = 0 ∨ (kw = 1 ∧ ch_ok chn)) (hp : z_r p) : CtG L y_M_points b_M_points 2 (some .int) (rmh 1) false 0 0 [.ref mo, .int (z_i p)] [(mo, .inr (4, [.int (z_i len), .ref ms, .int (z_i stg), .int (z_i mv), .ref mb, .int (z_i stk), .int (z_i hol), .int (z_i cn), .int (z_i cs), .int (z_i hi), .int (z_i lo), .int (z_i hs), .int (z_i ls), .int (z_i du), .ref mt, .ref mf, .ref mc, .int (z_i kw)])), (ms, aI L 2 sco), (mb, aI L 52 bb), (mt, aI L 312 tr), (mf, aI L 6 fr), (mc, aL L 625 chn)] (RR L mo ms mb mt mf mc (len, stg, mv, stk, hol, cn, cs, sco, b0, b1, hi, lo, hs, ls)) (some (.int (z_i (m_points (len, stg, mv, stk, hol, cn, cs, sco, b0, b1, hi, lo, hs, ls) p)))) := by
  obtain ⟨hlen, hstg, hmv, hstk, hhol, hcn, hcs, hsc, hsl, hb0, hb1, hdk⟩ := hS
  refine CtG.of rfl (Nat.le_of_ble_eq_true rfl) (fun X E F => ?_)
  show J L X 2 0 0 [(mo, .inr (4, [.int (z_i len), .ref ms, .int (z_i stg), .int (z_i mv), .ref mb, .int (z_i stk), .int (z_i hol), .int (z_i cn), .int (z_i cs), .int (z_i hi), .int (z_i lo), .int (z_i hs), .int (z_i ls), .int (z_i du), .ref mt, .ref mf, .ref mc, .int (z_i kw)])), (ms, aI L 2 sco), (mb, aI L 52 bb), (mt, aI L 312 tr), (mf, aI L 6 fr), (mc, aL L 625 chn)] [(0, .ref mo), (1, .int (z_i p))] [] 0
  refine J_iload_n E 1 d_M_points_0 rfl rfl ?_
  refine J_if_lt E 9 d_M_points_1 (by decide) (by exact ⟨by omega, by omega⟩) (fun h1 => ?_) (fun h1 => ?_)
  · refine J_iconst E d_M_points_9 ?_
    refine J_goto E 19 d_M_points_10 (by decide) ?_
    exact J_ireturn E F (if_neg (by omega)).symm ⟨du, kw, bb, tr, fr, chn, hrb, hg, hdu, hkw, rfl⟩ d_M_points_19
  · refine J_iload_n E 1 d_M_points_4 rfl rfl ?_
    refine J_iconst E d_M_points_5 ?_
    refine J_icmp_le E 13 d_M_points_6 (by decide) (by exact ⟨⟨by omega, by omega⟩, ⟨by omega, by omega⟩⟩) (fun h6 => ?_) (fun h6 => ?_)
    · refine J_aload_n E 0 d_M_points_13 rfl rfl ?_
      refine g_M_7 E 0 rfl rfl d_M_points_14 ?_
      refine J_iload_n E 1 d_M_points_17 rfl rfl ?_
      refine J_iald E 1 rfl (by decide) (by exact ⟨by omega, by omega⟩) d_M_points_18 ?_
      exact J_ireturn E F (if_pos (by omega)).symm ⟨du, kw, bb, tr, fr, chn, hrb, hg, hdu, hkw, rfl⟩ d_M_points_19
    · refine J_iconst E d_M_points_9 ?_
      refine J_goto E 19 d_M_points_10 (by decide) ?_
      exact J_ireturn E F (if_neg (by omega)).symm ⟨du, kw, bb, tr, fr, chn, hrb, hg, hdu, hkw, rfl⟩ d_M_points_19
set_option maxHeartbeats 4000000 in
set_option maxRecDepth 100000 in
theorem c_M_men (L : Lx) (mo ms mb mt mf mc : Nat) (len stg mv stk hol cn cs hi lo hs ls du kw : Int) (sco bb tr fr chn : Int → Int) (b0 b1 : Int → Int) (p x : Int) (hS : st_ok (len, stg, mv, stk, hol, cn, cs, sco, b0, b1, hi, lo, hs, ls)) (hrb : rb_ok bb b0 b1) (hg : gb tr) (hdu : stg = 2 → du = m_due (bp b0 b1 mv) (bp b0 b1 (1 - mv)) hi lo hs ls) (hkw : kw = 0 ∨ (kw = 1 ∧ ch_ok chn)) (hp : z_r p) (hx : z_r x) : CtG L y_M_men b_M_men 3 (some .int) (rmh 1) false 0 0 [.ref mo, .int (z_i p), .int (z_i x)] [(mo, .inr (4, [.int (z_i len), .ref ms, .int (z_i stg), .int (z_i mv), .ref mb, .int (z_i stk), .int (z_i hol), .int (z_i cn), .int (z_i cs), .int (z_i hi), .int (z_i lo), .int (z_i hs), .int (z_i ls), .int (z_i du), .ref mt, .ref mf, .ref mc, .int (z_i kw)])), (ms, aI L 2 sco), (mb, aI L 52 bb), (mt, aI L 312 tr), (mf, aI L 6 fr), (mc, aL L 625 chn)] (RR L mo ms mb mt mf mc (len, stg, mv, stk, hol, cn, cs, sco, b0, b1, hi, lo, hs, ls)) (some (.int (z_i (m_men (len, stg, mv, stk, hol, cn, cs, sco, b0, b1, hi, lo, hs, ls) p x)))) := by
  obtain ⟨hlen, hstg, hmv, hstk, hhol, hcn, hcs, hsc, hsl, hb0, hb1, hdk⟩ := hS
  refine CtG.of rfl (Nat.le_of_ble_eq_true rfl) (fun X E F => ?_)
  show J L X 3 0 0 [(mo, .inr (4, [.int (z_i len), .ref ms, .int (z_i stg), .int (z_i mv), .ref mb, .int (z_i stk), .int (z_i hol), .int (z_i cn), .int (z_i cs), .int (z_i hi), .int (z_i lo), .int (z_i hs), .int (z_i ls), .int (z_i du), .ref mt, .ref mf, .ref mc, .int (z_i kw)])), (ms, aI L 2 sco), (mb, aI L 52 bb), (mt, aI L 312 tr), (mf, aI L 6 fr), (mc, aL L 625 chn)] [(0, .ref mo), (1, .int (z_i p)), (2, .int (z_i x))] [] 0
  refine J_iload_n E 1 d_M_men_0 rfl rfl ?_
  refine J_if_lt E 19 d_M_men_1 (by decide) (by exact ⟨by omega, by omega⟩) (fun h1 => ?_) (fun h1 => ?_)
  · refine J_iconst E d_M_men_19 ?_
    refine J_goto E 34 d_M_men_20 (by decide) ?_
    exact J_ireturn E F (if_neg (by omega)).symm ⟨du, kw, bb, tr, fr, chn, hrb, hg, hdu, hkw, rfl⟩ d_M_men_34
  · refine J_iload_n E 1 d_M_men_4 rfl rfl ?_
    refine J_iconst E d_M_men_5 ?_
    refine J_icmp_gt E 19 d_M_men_6 (by decide) (by exact ⟨⟨by omega, by omega⟩, ⟨by omega, by omega⟩⟩) (fun h6 => ?_) (fun h6 => ?_)
    · refine J_iconst E d_M_men_19 ?_
      refine J_goto E 34 d_M_men_20 (by decide) ?_
      exact J_ireturn E F (if_neg (by omega)).symm ⟨du, kw, bb, tr, fr, chn, hrb, hg, hdu, hkw, rfl⟩ d_M_men_34
    · refine J_iload_n E 2 d_M_men_9 rfl rfl ?_
      refine J_if_lt E 19 d_M_men_10 (by decide) (by exact ⟨by omega, by omega⟩) (fun h10 => ?_) (fun h10 => ?_)
      · refine J_iconst E d_M_men_19 ?_
        refine J_goto E 34 d_M_men_20 (by decide) ?_
        exact J_ireturn E F (if_neg (by omega)).symm ⟨du, kw, bb, tr, fr, chn, hrb, hg, hdu, hkw, rfl⟩ d_M_men_34
      · refine J_iload_n E 2 d_M_men_13 rfl rfl ?_
        refine J_bipush E d_M_men_14 (by decide) ?_
        refine J_icmp_le E 23 d_M_men_16 (by decide) (by exact ⟨⟨by omega, by omega⟩, ⟨by omega, by omega⟩⟩) (fun h16 => ?_) (fun h16 => ?_)
        · refine J_aload_n E 0 d_M_men_23 rfl rfl ?_
          refine g_M_13 E 0 rfl rfl d_M_men_24 ?_
          refine J_bipush E d_M_men_27 (by decide) ?_
          refine J_iload_n E 1 d_M_men_29 rfl rfl ?_
          refine J_imul E d_M_men_30 ?_
          refine J_iload_n E 2 d_M_men_31 rfl rfl ?_
          refine J_iadd E d_M_men_32 ?_
          refine J_iald E 2 rfl (by decide) (by exact ⟨by omega, by omega⟩) d_M_men_33 ?_
          exact J_ireturn E F (by rw [rb_at hrb (by omega) ⟨by omega, by omega⟩]; exact (if_pos ⟨by omega, by omega, by omega⟩).symm) ⟨du, kw, bb, tr, fr, chn, hrb, hg, hdu, hkw, rfl⟩ d_M_men_34
        · refine J_iconst E d_M_men_19 ?_
          refine J_goto E 34 d_M_men_20 (by decide) ?_
          exact J_ireturn E F (if_neg (by omega)).symm ⟨du, kw, bb, tr, fr, chn, hrb, hg, hdu, hkw, rfl⟩ d_M_men_34
set_option maxHeartbeats 4000000 in
set_option maxRecDepth 100000 in
theorem c_M_pips (L : Lx) (mo ms mb mt mf mc : Nat) (len stg mv stk hol cn cs hi lo hs ls du kw : Int) (sco bb tr fr chn : Int → Int) (b0 b1 : Int → Int) (p : Int) (hS : st_ok (len, stg, mv, stk, hol, cn, cs, sco, b0, b1, hi, lo, hs, ls)) (hrb : rb_ok bb b0 b1) (hg : gb tr) (hdu : stg = 2 → du = m_due (bp b0 b1 mv) (bp b0 b1 (1 - mv)) hi lo hs ls) (hkw : kw = 0 ∨ (kw = 1 ∧ ch_ok chn)) (hp : z_r p) : CtG L y_M_pips b_M_pips 4 (some .int) (rmh 1) false 0 0 [.ref mo, .int (z_i p)] [(mo, .inr (4, [.int (z_i len), .ref ms, .int (z_i stg), .int (z_i mv), .ref mb, .int (z_i stk), .int (z_i hol), .int (z_i cn), .int (z_i cs), .int (z_i hi), .int (z_i lo), .int (z_i hs), .int (z_i ls), .int (z_i du), .ref mt, .ref mf, .ref mc, .int (z_i kw)])), (ms, aI L 2 sco), (mb, aI L 52 bb), (mt, aI L 312 tr), (mf, aI L 6 fr), (mc, aL L 625 chn)] (RR L mo ms mb mt mf mc (len, stg, mv, stk, hol, cn, cs, sco, b0, b1, hi, lo, hs, ls)) (some (.int (z_i (m_pips (len, stg, mv, stk, hol, cn, cs, sco, b0, b1, hi, lo, hs, ls) p)))) := by
  obtain ⟨hlen, hstg, hmv, hstk, hhol, hcn, hcs, hsc, hsl, hb0, hb1, hdk⟩ := hS
  refine CtG.of rfl (Nat.le_of_ble_eq_true rfl) (fun X E F => ?_)
  show J L X 4 0 0 [(mo, .inr (4, [.int (z_i len), .ref ms, .int (z_i stg), .int (z_i mv), .ref mb, .int (z_i stk), .int (z_i hol), .int (z_i cn), .int (z_i cs), .int (z_i hi), .int (z_i lo), .int (z_i hs), .int (z_i ls), .int (z_i du), .ref mt, .ref mf, .ref mc, .int (z_i kw)])), (ms, aI L 2 sco), (mb, aI L 52 bb), (mt, aI L 312 tr), (mf, aI L 6 fr), (mc, aL L 625 chn)] [(0, .ref mo), (1, .int (z_i p))] [] 0
  refine J_iload_n E 1 d_M_pips_0 rfl rfl ?_
  refine J_if_lt E 9 d_M_pips_1 (by decide) (by exact ⟨by omega, by omega⟩) (fun h1 => ?_) (fun h1 => ?_)
  · refine J_iconst E d_M_pips_9 ?_
    exact J_ireturn E F (if_neg (by omega)).symm ⟨du, kw, bb, tr, fr, chn, hrb, hg, hdu, hkw, rfl⟩ d_M_pips_10
  · refine J_iload_n E 1 d_M_pips_4 rfl rfl ?_
    refine J_iconst E d_M_pips_5 ?_
    refine J_icmp_le E 11 d_M_pips_6 (by decide) (by exact ⟨⟨by omega, by omega⟩, ⟨by omega, by omega⟩⟩) (fun h6 => ?_) (fun h6 => ?_)
    · refine J_iconst E d_M_pips_11 ?_
      refine J_istore_n E [(2, .int (z_i 0)), (0, .ref mo), (1, .int (z_i p))] d_M_pips_12 rfl (by decide) rfl ?_
      refine J_iconst E d_M_pips_13 ?_
      refine J_istore_n E [(3, .int (z_i 1)), (2, .int (z_i 0)), (0, .ref mo), (1, .int (z_i p))] d_M_pips_14 rfl (by decide) rfl ?_
      have C15 : ∀ (mm : Nat) (c : Int) (k : Int), (1 ≤ k ∧ k ≤ 26) → (p = 0 ∨ p = 1) → (c = pp_f (bp b0 b1 p) (k - 1).toNat) → (26 - k).toNat < mm → J L X 4 0 0 [(mo, .inr (4, [.int (z_i len), .ref ms, .int (z_i stg), .int (z_i mv), .ref mb, .int (z_i stk), .int (z_i hol), .int (z_i cn), .int (z_i cs), .int (z_i hi), .int (z_i lo), .int (z_i hs), .int (z_i ls), .int (z_i du), .ref mt, .ref mf, .ref mc, .int (z_i kw)])), (ms, aI L 2 sco), (mb, aI L 52 bb), (mt, aI L 312 tr), (mf, aI L 6 fr), (mc, aL L 625 chn)] [(3, .int (z_i k)), (2, .int (z_i c)), (0, .ref mo), (1, .int (z_i p))] [] 15 := by
        intro mm
        induction mm with
        | zero => intro c k hk hpp he hme; exact absurd hme (Nat.not_lt_zero _)
        | succ mm ih15 =>
          intro c k hk hpp he hme
          refine J_iload_n E 0 d_M_pips_15 rfl rfl ?_
          refine J_bipush E d_M_pips_16 (by decide) ?_
          refine J_icmp_ge E 43 d_M_pips_18 (by decide) (by exact ⟨⟨by omega, by omega⟩, ⟨by omega, by omega⟩⟩) (fun h18 => ?_) (fun h18 => ?_)
          · refine J_iload_n E 1 d_M_pips_43 rfl rfl ?_
            exact J_ireturn E F (by rw [he, show k = 26 by omega]; exact (if_pos hpp).symm) ⟨du, kw, bb, tr, fr, chn, hrb, hg, hdu, hkw, rfl⟩ d_M_pips_44
          · refine J_iload_n E 1 d_M_pips_21 rfl rfl ?_
            refine J_iload_n E 0 d_M_pips_22 rfl rfl ?_
            refine J_aload_n E 2 d_M_pips_23 rfl rfl ?_
            refine g_M_13 E 0 rfl rfl d_M_pips_24 ?_
            refine J_bipush E d_M_pips_27 (by decide) ?_
            refine J_iload_n E 3 d_M_pips_29 rfl rfl ?_
            refine J_imul E d_M_pips_30 ?_
            refine J_iload_n E 0 d_M_pips_31 rfl rfl ?_
            refine J_iadd E d_M_pips_32 ?_
            refine J_iald E 2 rfl (by decide) (by exact ⟨by omega, by omega⟩) d_M_pips_33 ?_
            refine J_imul E d_M_pips_34 ?_
            refine J_iadd E d_M_pips_35 ?_
            refine J_istore_n E [(2, .int (z_i (c + (k * (bb ((26 * p) + k)))))), (3, .int (z_i k)), (0, .ref mo), (1, .int (z_i p))] d_M_pips_36 rfl (by decide) rfl ?_
            refine J_iinc E 1 [(3, .int (z_i (k + 1))), (2, .int (z_i (c + (k * (bb ((26 * p) + k)))))), (0, .ref mo), (1, .int (z_i p))] d_M_pips_37 rfl (by decide) rfl ?_
            refine J_goto E 15 d_M_pips_40 (by decide) ?_
            exact ih15 (c + (k * (bb ((26 * p) + k)))) (k + 1) (by omega) hpp (by rw [pp_step _ (by omega), he, rb_at hrb hpp ⟨by omega, by omega⟩]) (by omega)
      exact C15 _ 0 1 (by decide) (by omega) rfl (Nat.lt_succ_self _)
    · refine J_iconst E d_M_pips_9 ?_
      exact J_ireturn E F (if_neg (by omega)).symm ⟨du, kw, bb, tr, fr, chn, hrb, hg, hdu, hkw, rfl⟩ d_M_pips_10
set_option maxHeartbeats 4000000 in
set_option maxRecDepth 100000 in
theorem c_M_offer (L : Lx) (mo ms mb mt mf mc : Nat) (len stg mv stk hol cn cs hi lo hs ls du kw : Int) (sco bb tr fr chn : Int → Int) (b0 b1 : Int → Int)  (hS : st_ok (len, stg, mv, stk, hol, cn, cs, sco, b0, b1, hi, lo, hs, ls)) (hrb : rb_ok bb b0 b1) (hg : gb tr) (hdu : stg = 2 → du = m_due (bp b0 b1 mv) (bp b0 b1 (1 - mv)) hi lo hs ls) (hkw : kw = 0 ∨ (kw = 1 ∧ ch_ok chn)) : CtG L y_M_offer b_M_offer 1 (some .boolean) (rmh 1) false 0 0 [.ref mo] [(mo, .inr (4, [.int (z_i len), .ref ms, .int (z_i stg), .int (z_i mv), .ref mb, .int (z_i stk), .int (z_i hol), .int (z_i cn), .int (z_i cs), .int (z_i hi), .int (z_i lo), .int (z_i hs), .int (z_i ls), .int (z_i du), .ref mt, .ref mf, .ref mc, .int (z_i kw)])), (ms, aI L 2 sco), (mb, aI L 52 bb), (mt, aI L 312 tr), (mf, aI L 6 fr), (mc, aL L 625 chn)] (RR L mo ms mb mt mf mc (m_offer (len, stg, mv, stk, hol, cn, cs, sco, b0, b1, hi, lo, hs, ls)).2) (some (.int (z_i ((m_offer (len, stg, mv, stk, hol, cn, cs, sco, b0, b1, hi, lo, hs, ls)).1)))) := by
  obtain ⟨hlen, hstg, hmv, hstk, hhol, hcn, hcs, hsc, hsl, hb0, hb1, hdk⟩ := hS
  refine CtG.of rfl (Nat.le_of_ble_eq_true rfl) (fun X E F => ?_)
  show J L X 1 0 0 [(mo, .inr (4, [.int (z_i len), .ref ms, .int (z_i stg), .int (z_i mv), .ref mb, .int (z_i stk), .int (z_i hol), .int (z_i cn), .int (z_i cs), .int (z_i hi), .int (z_i lo), .int (z_i hs), .int (z_i ls), .int (z_i du), .ref mt, .ref mf, .ref mc, .int (z_i kw)])), (ms, aI L 2 sco), (mb, aI L 52 bb), (mt, aI L 312 tr), (mf, aI L 6 fr), (mc, aL L 625 chn)] [(0, .ref mo)] [] 0
  refine J_aload_n E 0 d_M_offer_0 rfl rfl ?_
  refine g_M_39 E 0 rfl rfl d_M_offer_1 ?_
  refine J_iconst E d_M_offer_4 ?_
  refine J_icmp_ne E 37 d_M_offer_5 (by decide) (by exact ⟨⟨by omega, by omega⟩, ⟨by omega, by omega⟩⟩) (fun h5 => ?_) (fun h5 => ?_)
  · refine J_iconst E d_M_offer_37 ?_
    exact J_zreturn E F (by omega) (by rw [m_offer_f (by omega)]) (by rw [m_offer_f (by omega)]; exact ⟨du, kw, bb, tr, fr, chn, hrb, hg, hdu, hkw, rfl⟩) d_M_offer_38
  · refine J_aload_n E 0 d_M_offer_8 rfl rfl ?_
    refine g_M_20 E 0 rfl rfl d_M_offer_9 ?_
    refine J_iconst E d_M_offer_12 ?_
    refine J_aload_n E 0 d_M_offer_13 rfl rfl ?_
    refine g_M_80 E 0 rfl rfl d_M_offer_14 ?_
    refine J_isub E d_M_offer_17 ?_
    refine J_icmp_eq E 37 d_M_offer_18 (by decide) (by exact ⟨⟨by omega, by omega⟩, ⟨by omega, by omega⟩⟩) (fun h18 => ?_) (fun h18 => ?_)
    · refine J_iconst E d_M_offer_37 ?_
      exact J_zreturn E F (by omega) (by rw [m_offer_f (by omega)]) (by rw [m_offer_f (by omega)]; exact ⟨du, kw, bb, tr, fr, chn, hrb, hg, hdu, hkw, rfl⟩) d_M_offer_38
    · refine J_aload_n E 0 d_M_offer_21 rfl rfl ?_
      refine g_M_16 E 0 rfl rfl d_M_offer_22 ?_
      refine J_bipush E d_M_offer_25 (by decide) ?_
      refine J_icmp_ge E 37 d_M_offer_27 (by decide) (by exact ⟨⟨by omega, by omega⟩, ⟨by omega, by omega⟩⟩) (fun h27 => ?_) (fun h27 => ?_)
      · refine J_iconst E d_M_offer_37 ?_
        exact J_zreturn E F (by omega) (by rw [m_offer_f (by omega)]) (by rw [m_offer_f (by omega)]; exact ⟨du, kw, bb, tr, fr, chn, hrb, hg, hdu, hkw, rfl⟩) d_M_offer_38
      · refine J_aload_n E 0 d_M_offer_30 rfl rfl ?_
        refine g_M_101 E 0 rfl rfl d_M_offer_31 ?_
        refine J_if_eq E 39 d_M_offer_34 (by decide) (by exact ⟨by omega, by omega⟩) (fun h34 => ?_) (fun h34 => ?_)
        · refine J_aload_n E 0 d_M_offer_39 rfl rfl ?_
          refine J_iconst E d_M_offer_40 ?_
          refine p_M_39 E 0 [(mo, .inr (4, [.int (z_i len), .ref ms, .int (z_i 3), .int (z_i mv), .ref mb, .int (z_i stk), .int (z_i hol), .int (z_i cn), .int (z_i cs), .int (z_i hi), .int (z_i lo), .int (z_i hs), .int (z_i ls), .int (z_i du), .ref mt, .ref mf, .ref mc, .int (z_i kw)])), (ms, aI L 2 sco), (mb, aI L 52 bb), (mt, aI L 312 tr), (mf, aI L 6 fr), (mc, aL L 625 chn)] rfl rfl (Nat.le_of_ble_eq_true rfl) d_M_offer_41 ?_
          refine J_iconst E d_M_offer_44 ?_
          exact J_zreturn E F (by omega) (by rw [m_offer_t (by omega)]) (by rw [m_offer_t (by omega)]; exact ⟨du, kw, bb, tr, fr, chn, hrb, hg, (fun q => absurd q (by decide)), hkw, rfl⟩) d_M_offer_45
        · refine J_iconst E d_M_offer_37 ?_
          exact J_zreturn E F (by omega) (by rw [m_offer_f (by omega)]) (by rw [m_offer_f (by omega)]; exact ⟨du, kw, bb, tr, fr, chn, hrb, hg, hdu, hkw, rfl⟩) d_M_offer_38
set_option maxHeartbeats 4000000 in
set_option maxRecDepth 100000 in
theorem c_M_answer (L : Lx) (mo ms mb mt mf mc : Nat) (len stg mv stk hol cn cs hi lo hs ls du kw : Int) (sco bb tr fr chn : Int → Int) (b0 b1 : Int → Int) (t : Int) (hS : st_ok (len, stg, mv, stk, hol, cn, cs, sco, b0, b1, hi, lo, hs, ls)) (hrb : rb_ok bb b0 b1) (hg : gb tr) (hdu : stg = 2 → du = m_due (bp b0 b1 mv) (bp b0 b1 (1 - mv)) hi lo hs ls) (hkw : kw = 0 ∨ (kw = 1 ∧ ch_ok chn)) (ht : z_r t) : CtG L y_M_answer b_M_answer 2 (some .int) (rmh 3) false 0 0 [.ref mo, .int (z_i t)] [(mo, .inr (4, [.int (z_i len), .ref ms, .int (z_i stg), .int (z_i mv), .ref mb, .int (z_i stk), .int (z_i hol), .int (z_i cn), .int (z_i cs), .int (z_i hi), .int (z_i lo), .int (z_i hs), .int (z_i ls), .int (z_i du), .ref mt, .ref mf, .ref mc, .int (z_i kw)])), (ms, aI L 2 sco), (mb, aI L 52 bb), (mt, aI L 312 tr), (mf, aI L 6 fr), (mc, aL L 625 chn)] (RR L mo ms mb mt mf mc (m_answer (len, stg, mv, stk, hol, cn, cs, sco, b0, b1, hi, lo, hs, ls) t).2) (some (.int (z_i ((m_answer (len, stg, mv, stk, hol, cn, cs, sco, b0, b1, hi, lo, hs, ls) t).1)))) := by
  obtain ⟨hlen, hstg, hmv, hstk, hhol, hcn, hcs, hsc, hsl, hb0, hb1, hdk⟩ := hS
  refine CtG.of rfl (Nat.le_of_ble_eq_true rfl) (fun X E F => ?_)
  show J L X 2 0 0 [(mo, .inr (4, [.int (z_i len), .ref ms, .int (z_i stg), .int (z_i mv), .ref mb, .int (z_i stk), .int (z_i hol), .int (z_i cn), .int (z_i cs), .int (z_i hi), .int (z_i lo), .int (z_i hs), .int (z_i ls), .int (z_i du), .ref mt, .ref mf, .ref mc, .int (z_i kw)])), (ms, aI L 2 sco), (mb, aI L 52 bb), (mt, aI L 312 tr), (mf, aI L 6 fr), (mc, aL L 625 chn)] [(0, .ref mo), (1, .int (z_i t))] [] 0
  refine J_aload_n E 0 d_M_answer_0 rfl rfl ?_
  refine g_M_39 E 0 rfl rfl d_M_answer_1 ?_
  refine J_iconst E d_M_answer_4 ?_
  refine J_icmp_eq E 10 d_M_answer_5 (by decide) (by exact ⟨⟨by omega, by omega⟩, ⟨by omega, by omega⟩⟩) (fun h5 => ?_) (fun h5 => ?_)
  · subst h5
    refine J_iload_n E 1 d_M_answer_10 rfl rfl ?_
    refine J_if_ne E 27 d_M_answer_11 (by decide) (by exact ⟨by omega, by omega⟩) (fun h11 => ?_) (fun h11 => ?_)
    · refine J_aload_n E 0 d_M_answer_27 rfl rfl ?_
      refine J_iconst E d_M_answer_28 ?_
      refine J_aload_n E 0 d_M_answer_29 rfl rfl ?_
      refine g_M_16 E 0 rfl rfl d_M_answer_30 ?_
      refine J_imul E d_M_answer_33 ?_
      refine p_M_16 E 0 [(mo, .inr (4, [.int (z_i len), .ref ms, .int (z_i 3), .int (z_i mv), .ref mb, .int (z_i (2 * stk)), .int (z_i hol), .int (z_i cn), .int (z_i cs), .int (z_i hi), .int (z_i lo), .int (z_i hs), .int (z_i ls), .int (z_i du), .ref mt, .ref mf, .ref mc, .int (z_i kw)])), (ms, aI L 2 sco), (mb, aI L 52 bb), (mt, aI L 312 tr), (mf, aI L 6 fr), (mc, aL L 625 chn)] rfl rfl (Nat.le_of_ble_eq_true rfl) d_M_answer_34 ?_
      refine J_aload_n E 0 d_M_answer_37 rfl rfl ?_
      refine J_iconst E d_M_answer_38 ?_
      refine J_aload_n E 0 d_M_answer_39 rfl rfl ?_
      refine g_M_80 E 0 rfl rfl d_M_answer_40 ?_
      refine J_isub E d_M_answer_43 ?_
      refine p_M_20 E 0 [(mo, .inr (4, [.int (z_i len), .ref ms, .int (z_i 3), .int (z_i mv), .ref mb, .int (z_i (2 * stk)), .int (z_i (1 - mv)), .int (z_i cn), .int (z_i cs), .int (z_i hi), .int (z_i lo), .int (z_i hs), .int (z_i ls), .int (z_i du), .ref mt, .ref mf, .ref mc, .int (z_i kw)])), (ms, aI L 2 sco), (mb, aI L 52 bb), (mt, aI L 312 tr), (mf, aI L 6 fr), (mc, aL L 625 chn)] rfl rfl (Nat.le_of_ble_eq_true rfl) d_M_answer_44 ?_
      refine J_aload_n E 0 d_M_answer_47 rfl rfl ?_
      refine J_iconst E d_M_answer_48 ?_
      refine p_M_39 E 0 [(mo, .inr (4, [.int (z_i len), .ref ms, .int (z_i 1), .int (z_i mv), .ref mb, .int (z_i (2 * stk)), .int (z_i (1 - mv)), .int (z_i cn), .int (z_i cs), .int (z_i hi), .int (z_i lo), .int (z_i hs), .int (z_i ls), .int (z_i du), .ref mt, .ref mf, .ref mc, .int (z_i kw)])), (ms, aI L 2 sco), (mb, aI L 52 bb), (mt, aI L 312 tr), (mf, aI L 6 fr), (mc, aL L 625 chn)] rfl rfl (Nat.le_of_ble_eq_true rfl) d_M_answer_49 ?_
      refine J_iconst E d_M_answer_52 ?_
      exact J_ireturn E F (by rw [m_answer_t h11]) (by rw [m_answer_t h11, Int.mul_comm stk 2]; exact ⟨du, kw, bb, tr, fr, chn, hrb, hg, (fun q => absurd q (by decide)), hkw, rfl⟩) d_M_answer_53
    · refine J_aload_n E 0 d_M_answer_14 rfl rfl ?_
      refine J_aload_n E 0 d_M_answer_15 rfl rfl ?_
      refine g_M_80 E 0 rfl rfl d_M_answer_16 ?_
      refine J_aload_n E 0 d_M_answer_19 rfl rfl ?_
      refine g_M_16 E 0 rfl rfl d_M_answer_20 ?_
      refine J_callV (wr := []) (rest := []) E kb_M_win t_2_204 t_2_206 ts_M_win (c_M_win L mo ms mb mt mf mc len 3 mv stk hol cn cs hi lo hs ls du kw sco bb tr fr chn stk hlen hmv hcs hsc ⟨by omega, by omega⟩ hrb.1) (fun h => h) (Rm_h (by decide) (by decide)) [0, 1, 2, 3, 4, 5] [] rfl rfl rfl rfl (by decide) 0 rfl rfl rfl rfl (Nat.le_of_ble_eq_true rfl) d_M_answer_23 (fun w' hw => ?_)
      replace hw : (fun u => (len ≤ ((sco mv) + stk) ∧ u = [(mo, .inr (4, [.int (z_i len), .ref ms, .int (z_i 4), .int (z_i mv), .ref mb, .int (z_i stk), .int (z_i hol), .int (z_i 0), .int (z_i cs), .int (z_i hi), .int (z_i lo), .int (z_i hs), .int (z_i ls), .int (z_i du), .ref mt, .ref mf, .ref mc, .int (z_i kw)])), (ms, aI L 2 (z_u sco mv ((sco mv) + stk))), (mb, aI L 52 bb), (mt, aI L 312 tr), (mf, aI L 6 fr), (mc, aL L 625 chn)]) ∨ (((sco mv) + stk) < len ∧ ∃ bb2 : Int → Int, rb_ok bb2 st_men st_men ∧ u = [(mo, .inr (4, [.int (z_i len), .ref ms, .int (z_i 0), .int (z_i mv), .ref mb, .int (z_i 1), .int (z_i (-1)), .int (z_i (wn_c cs ((sco mv) + stk) len)), .int (z_i (wn_s cs ((sco mv) + stk) len)), .int (z_i hi), .int (z_i lo), .int (z_i hs), .int (z_i ls), .int (z_i du), .ref mt, .ref mf, .ref mc, .int (z_i kw)])), (ms, aI L 2 (z_u sco mv ((sco mv) + stk))), (mb, aI L 52 bb2), (mt, aI L 312 tr), (mf, aI L 6 fr), (mc, aL L 625 chn)])) w' := hw
      rcases hw with ⟨hle, rfl⟩ | ⟨hle, bw, hbw, rfl⟩
      · show J L X 2 0 0 [(mo, .inr (4, [.int (z_i len), .ref ms, .int (z_i 4), .int (z_i mv), .ref mb, .int (z_i stk), .int (z_i hol), .int (z_i 0), .int (z_i cs), .int (z_i hi), .int (z_i lo), .int (z_i hs), .int (z_i ls), .int (z_i du), .ref mt, .ref mf, .ref mc, .int (z_i kw)])), (ms, aI L 2 (z_u sco mv ((sco mv) + stk))), (mb, aI L 52 bb), (mt, aI L 312 tr), (mf, aI L 6 fr), (mc, aL L 625 chn)] [(0, .ref mo), (1, .int (z_i t))] [.int (z_i (10 * stk))] 26
        exact J_ireturn E F (by rw [m_answer_f h11, m_win_a hle]) (by rw [m_answer_f h11, m_win_a hle]; exact ⟨du, kw, bb, tr, fr, chn, hrb, hg, (fun q => absurd q (by decide)), hkw, rfl⟩) d_M_answer_26
      · show J L X 2 0 0 [(mo, .inr (4, [.int (z_i len), .ref ms, .int (z_i 0), .int (z_i mv), .ref mb, .int (z_i 1), .int (z_i (-1)), .int (z_i (wn_c cs ((sco mv) + stk) len)), .int (z_i (wn_s cs ((sco mv) + stk) len)), .int (z_i hi), .int (z_i lo), .int (z_i hs), .int (z_i ls), .int (z_i du), .ref mt, .ref mf, .ref mc, .int (z_i kw)])), (ms, aI L 2 (z_u sco mv ((sco mv) + stk))), (mb, aI L 52 bw), (mt, aI L 312 tr), (mf, aI L 6 fr), (mc, aL L 625 chn)] [(0, .ref mo), (1, .int (z_i t))] [.int (z_i (10 * stk))] 26
        exact J_ireturn E F (by rw [m_answer_f h11, m_win_b hle]) (by rw [m_answer_f h11, m_win_b hle]; exact ⟨du, kw, bw, tr, fr, chn, hbw, hg, (fun q => absurd q (by decide)), hkw, rfl⟩) d_M_answer_26
  · refine J_iconst E d_M_answer_8 ?_
    exact J_ireturn E F (by rw [m_answer_o h5]) (by rw [m_answer_o h5]; exact ⟨du, kw, bb, tr, fr, chn, hrb, hg, hdu, hkw, rfl⟩) d_M_answer_9
set_option maxHeartbeats 4000000 in
set_option maxRecDepth 100000 in
theorem c_M_place (L : Lx) (mo ms mb mt mf mc : Nat) (len stg mv stk hol cn cs hi lo hs ls du kw : Int) (sco bb tr fr chn : Int → Int) (b0 b1 : Int → Int) (p pt n : Int) (hS : st_ok (len, stg, mv, stk, hol, cn, cs, sco, b0, b1, hi, lo, hs, ls)) (hrb : rb_ok bb b0 b1) (hg : gb tr) (hdu : stg = 2 → du = m_due (bp b0 b1 mv) (bp b0 b1 (1 - mv)) hi lo hs ls) (hkw : kw = 0 ∨ (kw = 1 ∧ ch_ok chn)) (hp : z_r p) (hpt : z_r pt) (hn : z_r n) : CtG L y_M_place b_M_place 5 (some .boolean) (rmh 1) false 0 0 [.ref mo, .int (z_i p), .int (z_i pt), .int (z_i n)] [(mo, .inr (4, [.int (z_i len), .ref ms, .int (z_i stg), .int (z_i mv), .ref mb, .int (z_i stk), .int (z_i hol), .int (z_i cn), .int (z_i cs), .int (z_i hi), .int (z_i lo), .int (z_i hs), .int (z_i ls), .int (z_i du), .ref mt, .ref mf, .ref mc, .int (z_i kw)])), (ms, aI L 2 sco), (mb, aI L 52 bb), (mt, aI L 312 tr), (mf, aI L 6 fr), (mc, aL L 625 chn)] (RR L mo ms mb mt mf mc (m_place (len, stg, mv, stk, hol, cn, cs, sco, b0, b1, hi, lo, hs, ls) p pt n).2) (some (.int (z_i ((m_place (len, stg, mv, stk, hol, cn, cs, sco, b0, b1, hi, lo, hs, ls) p pt n).1)))) := by
  obtain ⟨hlen, hstg, hmv, hstk, hhol, hcn, hcs, hsc, hsl, hb0, hb1, hdk⟩ := hS
  refine CtG.of rfl (Nat.le_of_ble_eq_true rfl) (fun X E F => ?_)
  show J L X 5 0 0 [(mo, .inr (4, [.int (z_i len), .ref ms, .int (z_i stg), .int (z_i mv), .ref mb, .int (z_i stk), .int (z_i hol), .int (z_i cn), .int (z_i cs), .int (z_i hi), .int (z_i lo), .int (z_i hs), .int (z_i ls), .int (z_i du), .ref mt, .ref mf, .ref mc, .int (z_i kw)])), (ms, aI L 2 sco), (mb, aI L 52 bb), (mt, aI L 312 tr), (mf, aI L 6 fr), (mc, aL L 625 chn)] [(0, .ref mo), (1, .int (z_i p)), (2, .int (z_i pt)), (3, .int (z_i n))] [] 0
  refine J_aload_n E 0 d_M_place_0 rfl rfl ?_
  refine g_M_39 E 0 rfl rfl d_M_place_1 ?_
  refine J_if_ne E 37 d_M_place_4 (by decide) (by exact ⟨by omega, by omega⟩) (fun h4 => ?_) (fun h4 => ?_)
  · refine J_iconst E d_M_place_37 ?_
    exact J_zreturn E F (by omega) (by rw [m_place_f (by omega)]) (by rw [m_place_f (by omega)]; exact ⟨du, kw, bb, tr, fr, chn, hrb, hg, hdu, hkw, rfl⟩) d_M_place_38
  · refine J_iload_n E 1 d_M_place_7 rfl rfl ?_
    refine J_if_lt E 37 d_M_place_8 (by decide) (by exact ⟨by omega, by omega⟩) (fun h8 => ?_) (fun h8 => ?_)
    · refine J_iconst E d_M_place_37 ?_
      exact J_zreturn E F (by omega) (by rw [m_place_f (by omega)]) (by rw [m_place_f (by omega)]; exact ⟨du, kw, bb, tr, fr, chn, hrb, hg, hdu, hkw, rfl⟩) d_M_place_38
    · refine J_iload_n E 1 d_M_place_11 rfl rfl ?_
      refine J_iconst E d_M_place_12 ?_
      refine J_icmp_gt E 37 d_M_place_13 (by decide) (by exact ⟨⟨by omega, by omega⟩, ⟨by omega, by omega⟩⟩) (fun h13 => ?_) (fun h13 => ?_)
      · refine J_iconst E d_M_place_37 ?_
        exact J_zreturn E F (by omega) (by rw [m_place_f (by omega)]) (by rw [m_place_f (by omega)]; exact ⟨du, kw, bb, tr, fr, chn, hrb, hg, hdu, hkw, rfl⟩) d_M_place_38
      · refine J_iload_n E 2 d_M_place_16 rfl rfl ?_
        refine J_iconst E d_M_place_17 ?_
        refine J_icmp_lt E 37 d_M_place_18 (by decide) (by exact ⟨⟨by omega, by omega⟩, ⟨by omega, by omega⟩⟩) (fun h18 => ?_) (fun h18 => ?_)
        · refine J_iconst E d_M_place_37 ?_
          exact J_zreturn E F (by omega) (by rw [m_place_f (by omega)]) (by rw [m_place_f (by omega)]; exact ⟨du, kw, bb, tr, fr, chn, hrb, hg, hdu, hkw, rfl⟩) d_M_place_38
        · refine J_iload_n E 2 d_M_place_21 rfl rfl ?_
          refine J_bipush E d_M_place_22 (by decide) ?_
          refine J_icmp_gt E 37 d_M_place_24 (by decide) (by exact ⟨⟨by omega, by omega⟩, ⟨by omega, by omega⟩⟩) (fun h24 => ?_) (fun h24 => ?_)
          · refine J_iconst E d_M_place_37 ?_
            exact J_zreturn E F (by omega) (by rw [m_place_f (by omega)]) (by rw [m_place_f (by omega)]; exact ⟨du, kw, bb, tr, fr, chn, hrb, hg, hdu, hkw, rfl⟩) d_M_place_38
          · refine J_iload_n E 3 d_M_place_27 rfl rfl ?_
            refine J_if_lt E 37 d_M_place_28 (by decide) (by exact ⟨by omega, by omega⟩) (fun h28 => ?_) (fun h28 => ?_)
            · refine J_iconst E d_M_place_37 ?_
              exact J_zreturn E F (by omega) (by rw [m_place_f (by omega)]) (by rw [m_place_f (by omega)]; exact ⟨du, kw, bb, tr, fr, chn, hrb, hg, hdu, hkw, rfl⟩) d_M_place_38
            · refine J_iload_n E 3 d_M_place_31 rfl rfl ?_
              refine J_bipush E d_M_place_32 (by decide) ?_
              refine J_icmp_le E 39 d_M_place_34 (by decide) (by exact ⟨⟨by omega, by omega⟩, ⟨by omega, by omega⟩⟩) (fun h34 => ?_) (fun h34 => ?_)
              · have hpp : p = 0 ∨ p = 1 := by omega
                have v0 : bb (26 * p) = bp b0 b1 p 0 := by have q := rb_at hrb hpp (x := 0) ⟨by decide, by decide⟩; rw [Int.add_zero] at q; exact q
                have v1 : bb (26 * p + pt) = bp b0 b1 p pt := rb_at hrb hpp ⟨by omega, by omega⟩
                have v2 : bb (26 * (1 - p) + 25 - pt) = bp b0 b1 (1 - p) (25 - pt) := by have q := rb_at hrb (p := 1 - p) (x := 25 - pt) (by omega) ⟨by omega, by omega⟩; rw [show 26 * (1 - p) + (25 - pt) = 26 * (1 - p) + 25 - pt by omega] at q; exact q
                have w0 := hrb.1 (26 * p)
                have w1 := hrb.1 (26 * p + pt)
                refine J_aload_n E 0 d_M_place_39 rfl rfl ?_
                refine g_M_13 E 0 rfl rfl d_M_place_40 ?_
                refine J_bipush E d_M_place_43 (by decide) ?_
                refine J_iload_n E 1 d_M_place_45 rfl rfl ?_
                refine J_imul E d_M_place_46 ?_
                refine J_iald E 2 rfl (by decide) (by exact ⟨by omega, by omega⟩) d_M_place_47 ?_
                refine J_aload_n E 0 d_M_place_48 rfl rfl ?_
                refine g_M_13 E 0 rfl rfl d_M_place_49 ?_
                refine J_bipush E d_M_place_52 (by decide) ?_
                refine J_iload_n E 1 d_M_place_54 rfl rfl ?_
                refine J_imul E d_M_place_55 ?_
                refine J_iload_n E 2 d_M_place_56 rfl rfl ?_
                refine J_iadd E d_M_place_57 ?_
                refine J_iald E 2 rfl (by decide) (by exact ⟨by omega, by omega⟩) d_M_place_58 ?_
                refine J_iadd E d_M_place_59 ?_
                refine J_iload_n E 3 d_M_place_60 rfl rfl ?_
                refine J_isub E d_M_place_61 ?_
                refine J_istore E [(4, .int (z_i (((bb (26 * p)) + (bb ((26 * p) + pt))) - n))), (0, .ref mo), (1, .int (z_i p)), (2, .int (z_i pt)), (3, .int (z_i n))] d_M_place_62 (by decide) rfl ?_
                refine J_iload_n E 4 d_M_place_64 rfl rfl ?_
                refine J_if_le E 87 d_M_place_65 (by decide) (by exact ⟨by omega, by omega⟩) (fun h65 => ?_) (fun h65 => ?_)
                · refine J_iload E 0 d_M_place_87 rfl ?_
                  refine J_if_lt E 99 d_M_place_89 (by decide) (by have := hrb.1 (26 * p); have := hrb.1 ((26 * p) + pt); exact ⟨by omega, by omega⟩) (fun h89 => ?_) (fun h89 => ?_)
                  · refine J_iconst E d_M_place_99 ?_
                    exact J_zreturn E F (by omega) (by rw [m_place_t h4 hpp ⟨by omega, by omega⟩ ⟨by omega, by omega⟩]; exact (b2_f (by omega)).symm) (by rw [m_place_t h4 hpp ⟨by omega, by omega⟩ ⟨by omega, by omega⟩]; exact ⟨du, kw, bb, tr, fr, chn, (rb_noplace hrb hpp (by omega)), hg, (fun q => absurd (h4.symm.trans q) (by decide)), hkw, rfl⟩) d_M_place_100
                  · refine J_iload E 0 d_M_place_92 rfl ?_
                    refine J_bipush E d_M_place_94 (by decide) ?_
                    refine J_icmp_le E 101 d_M_place_96 (by decide) (by have := hrb.1 (26 * p); have := hrb.1 ((26 * p) + pt); exact ⟨⟨by omega, by omega⟩, ⟨by omega, by omega⟩⟩) (fun h96 => ?_) (fun h96 => ?_)
                    · refine J_aload_n E 1 d_M_place_101 rfl rfl ?_
                      refine g_M_13 E 0 rfl rfl d_M_place_102 ?_
                      refine J_bipush E d_M_place_105 (by decide) ?_
                      refine J_iload_n E 2 d_M_place_107 rfl rfl ?_
                      refine J_imul E d_M_place_108 ?_
                      refine J_iload E 0 d_M_place_109 rfl ?_
                      refine J_iast E 2 [(mo, .inr (4, [.int (z_i len), .ref ms, .int (z_i stg), .int (z_i mv), .ref mb, .int (z_i stk), .int (z_i hol), .int (z_i cn), .int (z_i cs), .int (z_i hi), .int (z_i lo), .int (z_i hs), .int (z_i ls), .int (z_i du), .ref mt, .ref mf, .ref mc, .int (z_i kw)])), (ms, aI L 2 sco), (mb, aI L 52 (z_u bb (26 * p) (((bb (26 * p)) + (bb ((26 * p) + pt))) - n))), (mt, aI L 312 tr), (mf, aI L 6 fr), (mc, aL L 625 chn)] rfl rfl (by decide) (by exact ⟨by omega, by omega⟩) d_M_place_111 ?_
                      refine J_aload_n E 1 d_M_place_112 rfl rfl ?_
                      refine g_M_13 E 0 rfl rfl d_M_place_113 ?_
                      refine J_bipush E d_M_place_116 (by decide) ?_
                      refine J_iload_n E 2 d_M_place_118 rfl rfl ?_
                      refine J_imul E d_M_place_119 ?_
                      refine J_iload_n E 3 d_M_place_120 rfl rfl ?_
                      refine J_iadd E d_M_place_121 ?_
                      refine J_iload_n E 4 d_M_place_122 rfl rfl ?_
                      refine J_iast E 2 [(mo, .inr (4, [.int (z_i len), .ref ms, .int (z_i stg), .int (z_i mv), .ref mb, .int (z_i stk), .int (z_i hol), .int (z_i cn), .int (z_i cs), .int (z_i hi), .int (z_i lo), .int (z_i hs), .int (z_i ls), .int (z_i du), .ref mt, .ref mf, .ref mc, .int (z_i kw)])), (ms, aI L 2 sco), (mb, aI L 52 (z_u (z_u bb (26 * p) (((bb (26 * p)) + (bb ((26 * p) + pt))) - n)) ((26 * p) + pt) n)), (mt, aI L 312 tr), (mf, aI L 6 fr), (mc, aL L 625 chn)] rfl rfl (by decide) (by exact ⟨by omega, by omega⟩) d_M_place_123 ?_
                      refine J_iconst E d_M_place_124 ?_
                      exact J_zreturn E F (by omega) (by rw [m_place_t h4 hpp ⟨by omega, by omega⟩ ⟨by omega, by omega⟩]; exact (b2_t (by omega)).symm) (by rw [m_place_t h4 hpp ⟨by omega, by omega⟩ ⟨by omega, by omega⟩]; exact ⟨du, kw, (z_u (z_u bb (26 * p) (((bb (26 * p)) + (bb ((26 * p) + pt))) - n)) ((26 * p) + pt) n), tr, fr, chn, (rb_place hrb hb0 hb1 hpp ⟨by omega, by omega⟩ ⟨by omega, by omega⟩ (by omega) (by omega)), hg, (fun q => absurd (h4.symm.trans q) (by decide)), hkw, rfl⟩) d_M_place_125
                    · refine J_iconst E d_M_place_99 ?_
                      exact J_zreturn E F (by omega) (by rw [m_place_t h4 hpp ⟨by omega, by omega⟩ ⟨by omega, by omega⟩]; exact (b2_f (by omega)).symm) (by rw [m_place_t h4 hpp ⟨by omega, by omega⟩ ⟨by omega, by omega⟩]; exact ⟨du, kw, bb, tr, fr, chn, (rb_noplace hrb hpp (by omega)), hg, (fun q => absurd (h4.symm.trans q) (by decide)), hkw, rfl⟩) d_M_place_100
                · refine J_aload_n E 1 d_M_place_68 rfl rfl ?_
                  refine g_M_13 E 0 rfl rfl d_M_place_69 ?_
                  refine J_bipush E d_M_place_72 (by decide) ?_
                  refine J_iconst E d_M_place_74 ?_
                  refine J_iload_n E 2 d_M_place_75 rfl rfl ?_
                  refine J_isub E d_M_place_76 ?_
                  refine J_imul E d_M_place_77 ?_
                  refine J_bipush E d_M_place_78 (by decide) ?_
                  refine J_iadd E d_M_place_80 ?_
                  refine J_iload_n E 3 d_M_place_81 rfl rfl ?_
                  refine J_isub E d_M_place_82 ?_
                  refine J_iald E 2 rfl (by decide) (by exact ⟨by omega, by omega⟩) d_M_place_83 ?_
                  refine J_if_gt E 99 d_M_place_84 (by decide) (by have := hrb.1 (((26 * (1 - p)) + 25) - pt); exact ⟨by omega, by omega⟩) (fun h84 => ?_) (fun h84 => ?_)
                  · refine J_iconst E d_M_place_99 ?_
                    exact J_zreturn E F (by omega) (by rw [m_place_t h4 hpp ⟨by omega, by omega⟩ ⟨by omega, by omega⟩]; exact (b2_f (by omega)).symm) (by rw [m_place_t h4 hpp ⟨by omega, by omega⟩ ⟨by omega, by omega⟩]; exact ⟨du, kw, bb, tr, fr, chn, (rb_noplace hrb hpp (by omega)), hg, (fun q => absurd (h4.symm.trans q) (by decide)), hkw, rfl⟩) d_M_place_100
                  · refine J_iload E 0 d_M_place_87 rfl ?_
                    refine J_if_lt E 99 d_M_place_89 (by decide) (by have := hrb.1 (26 * p); have := hrb.1 ((26 * p) + pt); exact ⟨by omega, by omega⟩) (fun h89 => ?_) (fun h89 => ?_)
                    · refine J_iconst E d_M_place_99 ?_
                      exact J_zreturn E F (by omega) (by rw [m_place_t h4 hpp ⟨by omega, by omega⟩ ⟨by omega, by omega⟩]; exact (b2_f (by omega)).symm) (by rw [m_place_t h4 hpp ⟨by omega, by omega⟩ ⟨by omega, by omega⟩]; exact ⟨du, kw, bb, tr, fr, chn, (rb_noplace hrb hpp (by omega)), hg, (fun q => absurd (h4.symm.trans q) (by decide)), hkw, rfl⟩) d_M_place_100
                    · refine J_iload E 0 d_M_place_92 rfl ?_
                      refine J_bipush E d_M_place_94 (by decide) ?_
                      refine J_icmp_le E 101 d_M_place_96 (by decide) (by have := hrb.1 (26 * p); have := hrb.1 ((26 * p) + pt); exact ⟨⟨by omega, by omega⟩, ⟨by omega, by omega⟩⟩) (fun h96 => ?_) (fun h96 => ?_)
                      · refine J_aload_n E 1 d_M_place_101 rfl rfl ?_
                        refine g_M_13 E 0 rfl rfl d_M_place_102 ?_
                        refine J_bipush E d_M_place_105 (by decide) ?_
                        refine J_iload_n E 2 d_M_place_107 rfl rfl ?_
                        refine J_imul E d_M_place_108 ?_
                        refine J_iload E 0 d_M_place_109 rfl ?_
                        refine J_iast E 2 [(mo, .inr (4, [.int (z_i len), .ref ms, .int (z_i stg), .int (z_i mv), .ref mb, .int (z_i stk), .int (z_i hol), .int (z_i cn), .int (z_i cs), .int (z_i hi), .int (z_i lo), .int (z_i hs), .int (z_i ls), .int (z_i du), .ref mt, .ref mf, .ref mc, .int (z_i kw)])), (ms, aI L 2 sco), (mb, aI L 52 (z_u bb (26 * p) (((bb (26 * p)) + (bb ((26 * p) + pt))) - n))), (mt, aI L 312 tr), (mf, aI L 6 fr), (mc, aL L 625 chn)] rfl rfl (by decide) (by exact ⟨by omega, by omega⟩) d_M_place_111 ?_
                        refine J_aload_n E 1 d_M_place_112 rfl rfl ?_
                        refine g_M_13 E 0 rfl rfl d_M_place_113 ?_
                        refine J_bipush E d_M_place_116 (by decide) ?_
                        refine J_iload_n E 2 d_M_place_118 rfl rfl ?_
                        refine J_imul E d_M_place_119 ?_
                        refine J_iload_n E 3 d_M_place_120 rfl rfl ?_
                        refine J_iadd E d_M_place_121 ?_
                        refine J_iload_n E 4 d_M_place_122 rfl rfl ?_
                        refine J_iast E 2 [(mo, .inr (4, [.int (z_i len), .ref ms, .int (z_i stg), .int (z_i mv), .ref mb, .int (z_i stk), .int (z_i hol), .int (z_i cn), .int (z_i cs), .int (z_i hi), .int (z_i lo), .int (z_i hs), .int (z_i ls), .int (z_i du), .ref mt, .ref mf, .ref mc, .int (z_i kw)])), (ms, aI L 2 sco), (mb, aI L 52 (z_u (z_u bb (26 * p) (((bb (26 * p)) + (bb ((26 * p) + pt))) - n)) ((26 * p) + pt) n)), (mt, aI L 312 tr), (mf, aI L 6 fr), (mc, aL L 625 chn)] rfl rfl (by decide) (by exact ⟨by omega, by omega⟩) d_M_place_123 ?_
                        refine J_iconst E d_M_place_124 ?_
                        exact J_zreturn E F (by omega) (by rw [m_place_t h4 hpp ⟨by omega, by omega⟩ ⟨by omega, by omega⟩]; exact (b2_t (by omega)).symm) (by rw [m_place_t h4 hpp ⟨by omega, by omega⟩ ⟨by omega, by omega⟩]; exact ⟨du, kw, (z_u (z_u bb (26 * p) (((bb (26 * p)) + (bb ((26 * p) + pt))) - n)) ((26 * p) + pt) n), tr, fr, chn, (rb_place hrb hb0 hb1 hpp ⟨by omega, by omega⟩ ⟨by omega, by omega⟩ (by omega) (by omega)), hg, (fun q => absurd (h4.symm.trans q) (by decide)), hkw, rfl⟩) d_M_place_125
                      · refine J_iconst E d_M_place_99 ?_
                        exact J_zreturn E F (by omega) (by rw [m_place_t h4 hpp ⟨by omega, by omega⟩ ⟨by omega, by omega⟩]; exact (b2_f (by omega)).symm) (by rw [m_place_t h4 hpp ⟨by omega, by omega⟩ ⟨by omega, by omega⟩]; exact ⟨du, kw, bb, tr, fr, chn, (rb_noplace hrb hpp (by omega)), hg, (fun q => absurd (h4.symm.trans q) (by decide)), hkw, rfl⟩) d_M_place_100
              · refine J_iconst E d_M_place_37 ?_
                exact J_zreturn E F (by omega) (by rw [m_place_f (by omega)]) (by rw [m_place_f (by omega)]; exact ⟨du, kw, bb, tr, fr, chn, hrb, hg, hdu, hkw, rfl⟩) d_M_place_38
