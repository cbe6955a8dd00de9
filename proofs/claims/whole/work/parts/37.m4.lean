set_option maxHeartbeats 4000000 in
set_option maxRecDepth 100000 in
theorem c_M_begin (L : Lx) (mo ms mb mt mf mc : Nat) (len stg mv stk hol cn cs hi lo hs ls du kw : Int) (sco bb tr fr chn : Int → Int) (b0 b1 : Int → Int) (a b : Int) (hg : gb tr) (hrb : rb_ok bb b0 b1) (hb0 : bd_ok b0) (hb1 : bd_ok b1) (hmv : mv = 0 ∨ mv = 1) (ha : 1 ≤ a ∧ a ≤ 6) (hb : 1 ≤ b ∧ b ≤ 6) (hkw : kw = 0 ∨ (kw = 1 ∧ ch_ok chn)) : CtG L y_M_begin b_M_begin 3 (some .int) (rmh 7) false 0 0 [.ref mo, .int (z_i a), .int (z_i b)] [(mo, .inr (4, [.int (z_i len), .ref ms, .int (z_i stg), .int (z_i mv), .ref mb, .int (z_i stk), .int (z_i hol), .int (z_i cn), .int (z_i cs), .int (z_i hi), .int (z_i lo), .int (z_i hs), .int (z_i ls), .int (z_i du), .ref mt, .ref mf, .ref mc, .int (z_i kw)])), (ms, aI L 2 sco), (mb, aI L 52 bb), (mt, aI L 312 tr), (mf, aI L 6 fr), (mc, aL L 625 chn)] (RR L mo ms mb mt mf mc (m_begin len stg mv stk hol cn cs sco b0 b1 a b).2) (some (.int (z_i (m_begin len stg mv stk hol cn cs sco b0 b1 a b).1))) := by
  refine CtG.of rfl (Nat.le_of_ble_eq_true rfl) (fun X E F => ?_)
  show J L X 3 0 0 [(mo, .inr (4, [.int (z_i len), .ref ms, .int (z_i stg), .int (z_i mv), .ref mb, .int (z_i stk), .int (z_i hol), .int (z_i cn), .int (z_i cs), .int (z_i hi), .int (z_i lo), .int (z_i hs), .int (z_i ls), .int (z_i du), .ref mt, .ref mf, .ref mc, .int (z_i kw)])), (ms, aI L 2 sco), (mb, aI L 52 bb), (mt, aI L 312 tr), (mf, aI L 6 fr), (mc, aL L 625 chn)] [(0, .ref mo), (1, .int (z_i a)), (2, .int (z_i b))] [] 0
  rcases (show a < b ∨ a = b ∨ b < a by omega) with hab | hab | hab
  · refine J_aload_n E 0 d_M_begin_0 rfl rfl ?_
    refine J_iload_n E 1 d_M_begin_1 rfl rfl ?_
    refine J_iload_n E 2 d_M_begin_2 rfl rfl ?_
    refine J_icmp_le E 10 d_M_begin_3 (by decide) (by exact ⟨⟨by omega, by omega⟩, ⟨by omega, by omega⟩⟩) (fun h3 => ?_) (fun h3 => ?_)
    · refine J_iload_n E 2 d_M_begin_10 rfl rfl ?_
      refine p_M_61 E 0 [(mo, .inr (4, [.int (z_i len), .ref ms, .int (z_i stg), .int (z_i mv), .ref mb, .int (z_i stk), .int (z_i hol), .int (z_i cn), .int (z_i cs), .int (z_i b), .int (z_i lo), .int (z_i hs), .int (z_i ls), .int (z_i du), .ref mt, .ref mf, .ref mc, .int (z_i kw)])), (ms, aI L 2 sco), (mb, aI L 52 bb), (mt, aI L 312 tr), (mf, aI L 6 fr), (mc, aL L 625 chn)] rfl rfl (Nat.le_of_ble_eq_true rfl) d_M_begin_11 ?_
      refine J_aload_n E 0 d_M_begin_14 rfl rfl ?_
      refine J_iload_n E 1 d_M_begin_15 rfl rfl ?_
      refine J_iload_n E 2 d_M_begin_16 rfl rfl ?_
      refine J_icmp_ne E 24 d_M_begin_17 (by decide) (by exact ⟨⟨by omega, by omega⟩, ⟨by omega, by omega⟩⟩) (fun h17 => ?_) (fun h17 => ?_)
      · refine J_iload_n E 1 d_M_begin_24 rfl rfl ?_
        refine J_iload_n E 2 d_M_begin_25 rfl rfl ?_
        refine J_icmp_le E 33 d_M_begin_26 (by decide) (by exact ⟨⟨by omega, by omega⟩, ⟨by omega, by omega⟩⟩) (fun h26 => ?_) (fun h26 => ?_)
        · refine J_iload_n E 1 d_M_begin_33 rfl rfl ?_
          refine p_M_64 E 0 [(mo, .inr (4, [.int (z_i len), .ref ms, .int (z_i stg), .int (z_i mv), .ref mb, .int (z_i stk), .int (z_i hol), .int (z_i cn), .int (z_i cs), .int (z_i b), .int (z_i a), .int (z_i hs), .int (z_i ls), .int (z_i du), .ref mt, .ref mf, .ref mc, .int (z_i kw)])), (ms, aI L 2 sco), (mb, aI L 52 bb), (mt, aI L 312 tr), (mf, aI L 6 fr), (mc, aL L 625 chn)] rfl rfl (Nat.le_of_ble_eq_true rfl) d_M_begin_34 ?_
          refine J_aload_n E 0 d_M_begin_37 rfl rfl ?_
          refine J_iload_n E 1 d_M_begin_38 rfl rfl ?_
          refine J_iload_n E 2 d_M_begin_39 rfl rfl ?_
          refine J_icmp_ne E 47 d_M_begin_40 (by decide) (by exact ⟨⟨by omega, by omega⟩, ⟨by omega, by omega⟩⟩) (fun h40 => ?_) (fun h40 => ?_)
          · refine J_iconst E d_M_begin_47 ?_
            refine p_M_74 E 0 [(mo, .inr (4, [.int (z_i len), .ref ms, .int (z_i stg), .int (z_i mv), .ref mb, .int (z_i stk), .int (z_i hol), .int (z_i cn), .int (z_i cs), .int (z_i b), .int (z_i a), .int (z_i 1), .int (z_i ls), .int (z_i du), .ref mt, .ref mf, .ref mc, .int (z_i kw)])), (ms, aI L 2 sco), (mb, aI L 52 bb), (mt, aI L 312 tr), (mf, aI L 6 fr), (mc, aL L 625 chn)] rfl rfl (Nat.le_of_ble_eq_true rfl) d_M_begin_48 ?_
            refine J_aload_n E 0 d_M_begin_51 rfl rfl ?_
            refine J_iload_n E 1 d_M_begin_52 rfl rfl ?_
            refine J_iload_n E 2 d_M_begin_53 rfl rfl ?_
            refine J_icmp_ne E 61 d_M_begin_54 (by decide) (by exact ⟨⟨by omega, by omega⟩, ⟨by omega, by omega⟩⟩) (fun h54 => ?_) (fun h54 => ?_)
            · refine J_iconst E d_M_begin_61 ?_
              refine p_M_77 E 0 [(mo, .inr (4, [.int (z_i len), .ref ms, .int (z_i stg), .int (z_i mv), .ref mb, .int (z_i stk), .int (z_i hol), .int (z_i cn), .int (z_i cs), .int (z_i b), .int (z_i a), .int (z_i 1), .int (z_i 1), .int (z_i du), .ref mt, .ref mf, .ref mc, .int (z_i kw)])), (ms, aI L 2 sco), (mb, aI L 52 bb), (mt, aI L 312 tr), (mf, aI L 6 fr), (mc, aL L 625 chn)] rfl rfl (Nat.le_of_ble_eq_true rfl) d_M_begin_62 ?_
              have e_b_hi : b_hi a b = b := if_neg (show ¬ b < a by omega)
              have e_b_lo : b_lo a b = a := (if_neg (show ¬ a = b by omega)).trans (if_neg (show ¬ b < a by omega))
              have e_b_hs : b_hs a b = 1 := if_neg (show ¬ a = b by omega)
              have e_b_ls : b_ls a b = 1 := if_neg (show ¬ a = b by omega)
              have hkb : dk b a 1 1 := by have q := b_dk ha hb; rw [e_b_hi, e_b_lo, e_b_hs, e_b_ls] at q; exact q
              refine J_aload_n E 0 d_M_begin_65 rfl rfl ?_
              refine J_callV (wr := []) (rest := []) E kb_M_settle t_2_152 t_2_154 ts_M_settle (c_M_settle L mo ms mb mt mf mc len stg mv stk hol cn cs b a 1 1 du kw sco bb tr fr chn b0 b1 hg hrb hb0 hb1 hmv hkb) (fun h => h) (Rm_h (by decide) (by decide)) [0, 1, 2, 3, 4, 5] [] rfl rfl rfl rfl (by decide) 0 rfl rfl rfl rfl (Nat.le_of_ble_eq_true rfl) d_M_begin_66 (fun w' hw => ?_)
              replace hw : (fun u => ∃ g2 f2 : Int → Int, gb g2 ∧ ((m_due (bp b0 b1 mv) (bp b0 b1 (1 - mv)) b a 1 1 = 0 ∧ u = [(mo, .inr (4, [.int (z_i len), .ref ms, .int (z_i 1), .int (z_i (1 - mv)), .ref mb, .int (z_i stk), .int (z_i hol), .int (z_i cn), .int (z_i cs), .int (z_i b), .int (z_i a), .int (z_i 1), .int (z_i 1), .int (z_i (m_due (bp b0 b1 mv) (bp b0 b1 (1 - mv)) b a 1 1)), .ref mt, .ref mf, .ref mc, .int (z_i kw)])), (ms, aI L 2 sco), (mb, aI L 52 bb), (mt, aI L 312 g2), (mf, aI L 6 f2), (mc, aL L 625 chn)]) ∨ (m_due (bp b0 b1 mv) (bp b0 b1 (1 - mv)) b a 1 1 ≠ 0 ∧ u = [(mo, .inr (4, [.int (z_i len), .ref ms, .int (z_i 2), .int (z_i mv), .ref mb, .int (z_i stk), .int (z_i hol), .int (z_i cn), .int (z_i cs), .int (z_i b), .int (z_i a), .int (z_i 1), .int (z_i 1), .int (z_i (m_due (bp b0 b1 mv) (bp b0 b1 (1 - mv)) b a 1 1)), .ref mt, .ref mf, .ref mc, .int (z_i kw)])), (ms, aI L 2 sco), (mb, aI L 52 bb), (mt, aI L 312 g2), (mf, aI L 6 f2), (mc, aL L 625 chn)]))) w' := hw
              rcases hw with ⟨gs, fs, hgs, ⟨hz, rfl⟩ | ⟨hz, rfl⟩⟩
              · show J L X 3 0 0 [(mo, .inr (4, [.int (z_i len), .ref ms, .int (z_i 1), .int (z_i (1 - mv)), .ref mb, .int (z_i stk), .int (z_i hol), .int (z_i cn), .int (z_i cs), .int (z_i b), .int (z_i a), .int (z_i 1), .int (z_i 1), .int (z_i (m_due (bp b0 b1 mv) (bp b0 b1 (1 - mv)) b a 1 1)), .ref mt, .ref mf, .ref mc, .int (z_i kw)])), (ms, aI L 2 sco), (mb, aI L 52 bb), (mt, aI L 312 gs), (mf, aI L 6 fs), (mc, aL L 625 chn)] [(0, .ref mo), (1, .int (z_i a)), (2, .int (z_i b))] [.int (z_i (m_due (bp b0 b1 mv) (bp b0 b1 (1 - mv)) b a 1 1))] 69
                exact J_ireturn E F (by rw [m_begin_z (by rw [e_b_hi, e_b_lo, e_b_hs, e_b_ls]; exact hz)]; exact hz) (by rw [m_begin_z (by rw [e_b_hi, e_b_lo, e_b_hs, e_b_ls]; exact hz), e_b_hi, e_b_lo, e_b_hs, e_b_ls]; exact ⟨(m_due (bp b0 b1 mv) (bp b0 b1 (1 - mv)) b a 1 1), kw, bb, gs, fs, chn, hrb, hgs, (fun q => absurd q (by decide)), hkw, rfl⟩) d_M_begin_69
              · show J L X 3 0 0 [(mo, .inr (4, [.int (z_i len), .ref ms, .int (z_i 2), .int (z_i mv), .ref mb, .int (z_i stk), .int (z_i hol), .int (z_i cn), .int (z_i cs), .int (z_i b), .int (z_i a), .int (z_i 1), .int (z_i 1), .int (z_i (m_due (bp b0 b1 mv) (bp b0 b1 (1 - mv)) b a 1 1)), .ref mt, .ref mf, .ref mc, .int (z_i kw)])), (ms, aI L 2 sco), (mb, aI L 52 bb), (mt, aI L 312 gs), (mf, aI L 6 fs), (mc, aL L 625 chn)] [(0, .ref mo), (1, .int (z_i a)), (2, .int (z_i b))] [.int (z_i (m_due (bp b0 b1 mv) (bp b0 b1 (1 - mv)) b a 1 1))] 69
                exact J_ireturn E F (by rw [m_begin_n (by rw [e_b_hi, e_b_lo, e_b_hs, e_b_ls]; exact hz), e_b_hi, e_b_lo, e_b_hs, e_b_ls]) (by rw [m_begin_n (by rw [e_b_hi, e_b_lo, e_b_hs, e_b_ls]; exact hz), e_b_hi, e_b_lo, e_b_hs, e_b_ls]; exact ⟨(m_due (bp b0 b1 mv) (bp b0 b1 (1 - mv)) b a 1 1), kw, bb, gs, fs, chn, hrb, hgs, (fun _ => rfl), hkw, rfl⟩) d_M_begin_69
            · exact absurd h54 (by omega)
          · exact absurd h40 (by omega)
        · exact absurd h26 (by omega)
      · exact absurd h17 (by omega)
    · exact absurd h3 (by omega)
  · refine J_aload_n E 0 d_M_begin_0 rfl rfl ?_
    refine J_iload_n E 1 d_M_begin_1 rfl rfl ?_
    refine J_iload_n E 2 d_M_begin_2 rfl rfl ?_
    refine J_icmp_le E 10 d_M_begin_3 (by decide) (by exact ⟨⟨by omega, by omega⟩, ⟨by omega, by omega⟩⟩) (fun h3 => ?_) (fun h3 => ?_)
    · refine J_iload_n E 2 d_M_begin_10 rfl rfl ?_
      refine p_M_61 E 0 [(mo, .inr (4, [.int (z_i len), .ref ms, .int (z_i stg), .int (z_i mv), .ref mb, .int (z_i stk), .int (z_i hol), .int (z_i cn), .int (z_i cs), .int (z_i b), .int (z_i lo), .int (z_i hs), .int (z_i ls), .int (z_i du), .ref mt, .ref mf, .ref mc, .int (z_i kw)])), (ms, aI L 2 sco), (mb, aI L 52 bb), (mt, aI L 312 tr), (mf, aI L 6 fr), (mc, aL L 625 chn)] rfl rfl (Nat.le_of_ble_eq_true rfl) d_M_begin_11 ?_
      refine J_aload_n E 0 d_M_begin_14 rfl rfl ?_
      refine J_iload_n E 1 d_M_begin_15 rfl rfl ?_
      refine J_iload_n E 2 d_M_begin_16 rfl rfl ?_
      refine J_icmp_ne E 24 d_M_begin_17 (by decide) (by exact ⟨⟨by omega, by omega⟩, ⟨by omega, by omega⟩⟩) (fun h17 => ?_) (fun h17 => ?_)
      · exact absurd h17 (by omega)
      · refine J_iconst E d_M_begin_20 ?_
        refine J_goto E 34 d_M_begin_21 (by decide) ?_
        refine p_M_64 E 0 [(mo, .inr (4, [.int (z_i len), .ref ms, .int (z_i stg), .int (z_i mv), .ref mb, .int (z_i stk), .int (z_i hol), .int (z_i cn), .int (z_i cs), .int (z_i b), .int (z_i 0), .int (z_i hs), .int (z_i ls), .int (z_i du), .ref mt, .ref mf, .ref mc, .int (z_i kw)])), (ms, aI L 2 sco), (mb, aI L 52 bb), (mt, aI L 312 tr), (mf, aI L 6 fr), (mc, aL L 625 chn)] rfl rfl (Nat.le_of_ble_eq_true rfl) d_M_begin_34 ?_
        refine J_aload_n E 0 d_M_begin_37 rfl rfl ?_
        refine J_iload_n E 1 d_M_begin_38 rfl rfl ?_
        refine J_iload_n E 2 d_M_begin_39 rfl rfl ?_
        refine J_icmp_ne E 47 d_M_begin_40 (by decide) (by exact ⟨⟨by omega, by omega⟩, ⟨by omega, by omega⟩⟩) (fun h40 => ?_) (fun h40 => ?_)
        · exact absurd h40 (by omega)
        · refine J_iconst E d_M_begin_43 ?_
          refine J_goto E 48 d_M_begin_44 (by decide) ?_
          refine p_M_74 E 0 [(mo, .inr (4, [.int (z_i len), .ref ms, .int (z_i stg), .int (z_i mv), .ref mb, .int (z_i stk), .int (z_i hol), .int (z_i cn), .int (z_i cs), .int (z_i b), .int (z_i 0), .int (z_i 4), .int (z_i ls), .int (z_i du), .ref mt, .ref mf, .ref mc, .int (z_i kw)])), (ms, aI L 2 sco), (mb, aI L 52 bb), (mt, aI L 312 tr), (mf, aI L 6 fr), (mc, aL L 625 chn)] rfl rfl (Nat.le_of_ble_eq_true rfl) d_M_begin_48 ?_
          refine J_aload_n E 0 d_M_begin_51 rfl rfl ?_
          refine J_iload_n E 1 d_M_begin_52 rfl rfl ?_
          refine J_iload_n E 2 d_M_begin_53 rfl rfl ?_
          refine J_icmp_ne E 61 d_M_begin_54 (by decide) (by exact ⟨⟨by omega, by omega⟩, ⟨by omega, by omega⟩⟩) (fun h54 => ?_) (fun h54 => ?_)
          · exact absurd h54 (by omega)
          · refine J_iconst E d_M_begin_57 ?_
            refine J_goto E 62 d_M_begin_58 (by decide) ?_
            refine p_M_77 E 0 [(mo, .inr (4, [.int (z_i len), .ref ms, .int (z_i stg), .int (z_i mv), .ref mb, .int (z_i stk), .int (z_i hol), .int (z_i cn), .int (z_i cs), .int (z_i b), .int (z_i 0), .int (z_i 4), .int (z_i 0), .int (z_i du), .ref mt, .ref mf, .ref mc, .int (z_i kw)])), (ms, aI L 2 sco), (mb, aI L 52 bb), (mt, aI L 312 tr), (mf, aI L 6 fr), (mc, aL L 625 chn)] rfl rfl (Nat.le_of_ble_eq_true rfl) d_M_begin_62 ?_
            have e_b_hi : b_hi a b = b := if_neg (show ¬ b < a by omega)
            have e_b_lo : b_lo a b = 0 := if_pos hab
            have e_b_hs : b_hs a b = 4 := if_pos hab
            have e_b_ls : b_ls a b = 0 := if_pos hab
            have hkb : dk b 0 4 0 := by have q := b_dk ha hb; rw [e_b_hi, e_b_lo, e_b_hs, e_b_ls] at q; exact q
            refine J_aload_n E 0 d_M_begin_65 rfl rfl ?_
            refine J_callV (wr := []) (rest := []) E kb_M_settle t_2_152 t_2_154 ts_M_settle (c_M_settle L mo ms mb mt mf mc len stg mv stk hol cn cs b 0 4 0 du kw sco bb tr fr chn b0 b1 hg hrb hb0 hb1 hmv hkb) (fun h => h) (Rm_h (by decide) (by decide)) [0, 1, 2, 3, 4, 5] [] rfl rfl rfl rfl (by decide) 0 rfl rfl rfl rfl (Nat.le_of_ble_eq_true rfl) d_M_begin_66 (fun w' hw => ?_)
            replace hw : (fun u => ∃ g2 f2 : Int → Int, gb g2 ∧ ((m_due (bp b0 b1 mv) (bp b0 b1 (1 - mv)) b 0 4 0 = 0 ∧ u = [(mo, .inr (4, [.int (z_i len), .ref ms, .int (z_i 1), .int (z_i (1 - mv)), .ref mb, .int (z_i stk), .int (z_i hol), .int (z_i cn), .int (z_i cs), .int (z_i b), .int (z_i 0), .int (z_i 4), .int (z_i 0), .int (z_i (m_due (bp b0 b1 mv) (bp b0 b1 (1 - mv)) b 0 4 0)), .ref mt, .ref mf, .ref mc, .int (z_i kw)])), (ms, aI L 2 sco), (mb, aI L 52 bb), (mt, aI L 312 g2), (mf, aI L 6 f2), (mc, aL L 625 chn)]) ∨ (m_due (bp b0 b1 mv) (bp b0 b1 (1 - mv)) b 0 4 0 ≠ 0 ∧ u = [(mo, .inr (4, [.int (z_i len), .ref ms, .int (z_i 2), .int (z_i mv), .ref mb, .int (z_i stk), .int (z_i hol), .int (z_i cn), .int (z_i cs), .int (z_i b), .int (z_i 0), .int (z_i 4), .int (z_i 0), .int (z_i (m_due (bp b0 b1 mv) (bp b0 b1 (1 - mv)) b 0 4 0)), .ref mt, .ref mf, .ref mc, .int (z_i kw)])), (ms, aI L 2 sco), (mb, aI L 52 bb), (mt, aI L 312 g2), (mf, aI L 6 f2), (mc, aL L 625 chn)]))) w' := hw
            rcases hw with ⟨gs, fs, hgs, ⟨hz, rfl⟩ | ⟨hz, rfl⟩⟩
            · show J L X 3 0 0 [(mo, .inr (4, [.int (z_i len), .ref ms, .int (z_i 1), .int (z_i (1 - mv)), .ref mb, .int (z_i stk), .int (z_i hol), .int (z_i cn), .int (z_i cs), .int (z_i b), .int (z_i 0), .int (z_i 4), .int (z_i 0), .int (z_i (m_due (bp b0 b1 mv) (bp b0 b1 (1 - mv)) b 0 4 0)), .ref mt, .ref mf, .ref mc, .int (z_i kw)])), (ms, aI L 2 sco), (mb, aI L 52 bb), (mt, aI L 312 gs), (mf, aI L 6 fs), (mc, aL L 625 chn)] [(0, .ref mo), (1, .int (z_i a)), (2, .int (z_i b))] [.int (z_i (m_due (bp b0 b1 mv) (bp b0 b1 (1 - mv)) b 0 4 0))] 69
              exact J_ireturn E F (by rw [m_begin_z (by rw [e_b_hi, e_b_lo, e_b_hs, e_b_ls]; exact hz)]; exact hz) (by rw [m_begin_z (by rw [e_b_hi, e_b_lo, e_b_hs, e_b_ls]; exact hz), e_b_hi, e_b_lo, e_b_hs, e_b_ls]; exact ⟨(m_due (bp b0 b1 mv) (bp b0 b1 (1 - mv)) b 0 4 0), kw, bb, gs, fs, chn, hrb, hgs, (fun q => absurd q (by decide)), hkw, rfl⟩) d_M_begin_69
            · show J L X 3 0 0 [(mo, .inr (4, [.int (z_i len), .ref ms, .int (z_i 2), .int (z_i mv), .ref mb, .int (z_i stk), .int (z_i hol), .int (z_i cn), .int (z_i cs), .int (z_i b), .int (z_i 0), .int (z_i 4), .int (z_i 0), .int (z_i (m_due (bp b0 b1 mv) (bp b0 b1 (1 - mv)) b 0 4 0)), .ref mt, .ref mf, .ref mc, .int (z_i kw)])), (ms, aI L 2 sco), (mb, aI L 52 bb), (mt, aI L 312 gs), (mf, aI L 6 fs), (mc, aL L 625 chn)] [(0, .ref mo), (1, .int (z_i a)), (2, .int (z_i b))] [.int (z_i (m_due (bp b0 b1 mv) (bp b0 b1 (1 - mv)) b 0 4 0))] 69
              exact J_ireturn E F (by rw [m_begin_n (by rw [e_b_hi, e_b_lo, e_b_hs, e_b_ls]; exact hz), e_b_hi, e_b_lo, e_b_hs, e_b_ls]) (by rw [m_begin_n (by rw [e_b_hi, e_b_lo, e_b_hs, e_b_ls]; exact hz), e_b_hi, e_b_lo, e_b_hs, e_b_ls]; exact ⟨(m_due (bp b0 b1 mv) (bp b0 b1 (1 - mv)) b 0 4 0), kw, bb, gs, fs, chn, hrb, hgs, (fun _ => rfl), hkw, rfl⟩) d_M_begin_69
    · exact absurd h3 (by omega)
  · refine J_aload_n E 0 d_M_begin_0 rfl rfl ?_
    refine J_iload_n E 1 d_M_begin_1 rfl rfl ?_
    refine J_iload_n E 2 d_M_begin_2 rfl rfl ?_
    refine J_icmp_le E 10 d_M_begin_3 (by decide) (by exact ⟨⟨by omega, by omega⟩, ⟨by omega, by omega⟩⟩) (fun h3 => ?_) (fun h3 => ?_)
    · exact absurd h3 (by omega)
    · refine J_iload_n E 1 d_M_begin_6 rfl rfl ?_
      refine J_goto E 11 d_M_begin_7 (by decide) ?_
      refine p_M_61 E 0 [(mo, .inr (4, [.int (z_i len), .ref ms, .int (z_i stg), .int (z_i mv), .ref mb, .int (z_i stk), .int (z_i hol), .int (z_i cn), .int (z_i cs), .int (z_i a), .int (z_i lo), .int (z_i hs), .int (z_i ls), .int (z_i du), .ref mt, .ref mf, .ref mc, .int (z_i kw)])), (ms, aI L 2 sco), (mb, aI L 52 bb), (mt, aI L 312 tr), (mf, aI L 6 fr), (mc, aL L 625 chn)] rfl rfl (Nat.le_of_ble_eq_true rfl) d_M_begin_11 ?_
      refine J_aload_n E 0 d_M_begin_14 rfl rfl ?_
      refine J_iload_n E 1 d_M_begin_15 rfl rfl ?_
      refine J_iload_n E 2 d_M_begin_16 rfl rfl ?_
      refine J_icmp_ne E 24 d_M_begin_17 (by decide) (by exact ⟨⟨by omega, by omega⟩, ⟨by omega, by omega⟩⟩) (fun h17 => ?_) (fun h17 => ?_)
      · refine J_iload_n E 1 d_M_begin_24 rfl rfl ?_
        refine J_iload_n E 2 d_M_begin_25 rfl rfl ?_
        refine J_icmp_le E 33 d_M_begin_26 (by decide) (by exact ⟨⟨by omega, by omega⟩, ⟨by omega, by omega⟩⟩) (fun h26 => ?_) (fun h26 => ?_)
        · exact absurd h26 (by omega)
        · refine J_iload_n E 2 d_M_begin_29 rfl rfl ?_
          refine J_goto E 34 d_M_begin_30 (by decide) ?_
          refine p_M_64 E 0 [(mo, .inr (4, [.int (z_i len), .ref ms, .int (z_i stg), .int (z_i mv), .ref mb, .int (z_i stk), .int (z_i hol), .int (z_i cn), .int (z_i cs), .int (z_i a), .int (z_i b), .int (z_i hs), .int (z_i ls), .int (z_i du), .ref mt, .ref mf, .ref mc, .int (z_i kw)])), (ms, aI L 2 sco), (mb, aI L 52 bb), (mt, aI L 312 tr), (mf, aI L 6 fr), (mc, aL L 625 chn)] rfl rfl (Nat.le_of_ble_eq_true rfl) d_M_begin_34 ?_
          refine J_aload_n E 0 d_M_begin_37 rfl rfl ?_
          refine J_iload_n E 1 d_M_begin_38 rfl rfl ?_
          refine J_iload_n E 2 d_M_begin_39 rfl rfl ?_
          refine J_icmp_ne E 47 d_M_begin_40 (by decide) (by exact ⟨⟨by omega, by omega⟩, ⟨by omega, by omega⟩⟩) (fun h40 => ?_) (fun h40 => ?_)
          · refine J_iconst E d_M_begin_47 ?_
            refine p_M_74 E 0 [(mo, .inr (4, [.int (z_i len), .ref ms, .int (z_i stg), .int (z_i mv), .ref mb, .int (z_i stk), .int (z_i hol), .int (z_i cn), .int (z_i cs), .int (z_i a), .int (z_i b), .int (z_i 1), .int (z_i ls), .int (z_i du), .ref mt, .ref mf, .ref mc, .int (z_i kw)])), (ms, aI L 2 sco), (mb, aI L 52 bb), (mt, aI L 312 tr), (mf, aI L 6 fr), (mc, aL L 625 chn)] rfl rfl (Nat.le_of_ble_eq_true rfl) d_M_begin_48 ?_
            refine J_aload_n E 0 d_M_begin_51 rfl rfl ?_
            refine J_iload_n E 1 d_M_begin_52 rfl rfl ?_
            refine J_iload_n E 2 d_M_begin_53 rfl rfl ?_
            refine J_icmp_ne E 61 d_M_begin_54 (by decide) (by exact ⟨⟨by omega, by omega⟩, ⟨by omega, by omega⟩⟩) (fun h54 => ?_) (fun h54 => ?_)
            · refine J_iconst E d_M_begin_61 ?_
              refine p_M_77 E 0 [(mo, .inr (4, [.int (z_i len), .ref ms, .int (z_i stg), .int (z_i mv), .ref mb, .int (z_i stk), .int (z_i hol), .int (z_i cn), .int (z_i cs), .int (z_i a), .int (z_i b), .int (z_i 1), .int (z_i 1), .int (z_i du), .ref mt, .ref mf, .ref mc, .int (z_i kw)])), (ms, aI L 2 sco), (mb, aI L 52 bb), (mt, aI L 312 tr), (mf, aI L 6 fr), (mc, aL L 625 chn)] rfl rfl (Nat.le_of_ble_eq_true rfl) d_M_begin_62 ?_
              have e_b_hi : b_hi a b = a := if_pos hab
              have e_b_lo : b_lo a b = b := (if_neg (show ¬ a = b by omega)).trans (if_pos hab)
              have e_b_hs : b_hs a b = 1 := if_neg (show ¬ a = b by omega)
              have e_b_ls : b_ls a b = 1 := if_neg (show ¬ a = b by omega)
              have hkb : dk a b 1 1 := by have q := b_dk ha hb; rw [e_b_hi, e_b_lo, e_b_hs, e_b_ls] at q; exact q
              refine J_aload_n E 0 d_M_begin_65 rfl rfl ?_
              refine J_callV (wr := []) (rest := []) E kb_M_settle t_2_152 t_2_154 ts_M_settle (c_M_settle L mo ms mb mt mf mc len stg mv stk hol cn cs a b 1 1 du kw sco bb tr fr chn b0 b1 hg hrb hb0 hb1 hmv hkb) (fun h => h) (Rm_h (by decide) (by decide)) [0, 1, 2, 3, 4, 5] [] rfl rfl rfl rfl (by decide) 0 rfl rfl rfl rfl (Nat.le_of_ble_eq_true rfl) d_M_begin_66 (fun w' hw => ?_)
              replace hw : (fun u => ∃ g2 f2 : Int → Int, gb g2 ∧ ((m_due (bp b0 b1 mv) (bp b0 b1 (1 - mv)) a b 1 1 = 0 ∧ u = [(mo, .inr (4, [.int (z_i len), .ref ms, .int (z_i 1), .int (z_i (1 - mv)), .ref mb, .int (z_i stk), .int (z_i hol), .int (z_i cn), .int (z_i cs), .int (z_i a), .int (z_i b), .int (z_i 1), .int (z_i 1), .int (z_i (m_due (bp b0 b1 mv) (bp b0 b1 (1 - mv)) a b 1 1)), .ref mt, .ref mf, .ref mc, .int (z_i kw)])), (ms, aI L 2 sco), (mb, aI L 52 bb), (mt, aI L 312 g2), (mf, aI L 6 f2), (mc, aL L 625 chn)]) ∨ (m_due (bp b0 b1 mv) (bp b0 b1 (1 - mv)) a b 1 1 ≠ 0 ∧ u = [(mo, .inr (4, [.int (z_i len), .ref ms, .int (z_i 2), .int (z_i mv), .ref mb, .int (z_i stk), .int (z_i hol), .int (z_i cn), .int (z_i cs), .int (z_i a), .int (z_i b), .int (z_i 1), .int (z_i 1), .int (z_i (m_due (bp b0 b1 mv) (bp b0 b1 (1 - mv)) a b 1 1)), .ref mt, .ref mf, .ref mc, .int (z_i kw)])), (ms, aI L 2 sco), (mb, aI L 52 bb), (mt, aI L 312 g2), (mf, aI L 6 f2), (mc, aL L 625 chn)]))) w' := hw
              rcases hw with ⟨gs, fs, hgs, ⟨hz, rfl⟩ | ⟨hz, rfl⟩⟩
              · show J L X 3 0 0 [(mo, .inr (4, [.int (z_i len), .ref ms, .int (z_i 1), .int (z_i (1 - mv)), .ref mb, .int (z_i stk), .int (z_i hol), .int (z_i cn), .int (z_i cs), .int (z_i a), .int (z_i b), .int (z_i 1), .int (z_i 1), .int (z_i (m_due (bp b0 b1 mv) (bp b0 b1 (1 - mv)) a b 1 1)), .ref mt, .ref mf, .ref mc, .int (z_i kw)])), (ms, aI L 2 sco), (mb, aI L 52 bb), (mt, aI L 312 gs), (mf, aI L 6 fs), (mc, aL L 625 chn)] [(0, .ref mo), (1, .int (z_i a)), (2, .int (z_i b))] [.int (z_i (m_due (bp b0 b1 mv) (bp b0 b1 (1 - mv)) a b 1 1))] 69
                exact J_ireturn E F (by rw [m_begin_z (by rw [e_b_hi, e_b_lo, e_b_hs, e_b_ls]; exact hz)]; exact hz) (by rw [m_begin_z (by rw [e_b_hi, e_b_lo, e_b_hs, e_b_ls]; exact hz), e_b_hi, e_b_lo, e_b_hs, e_b_ls]; exact ⟨(m_due (bp b0 b1 mv) (bp b0 b1 (1 - mv)) a b 1 1), kw, bb, gs, fs, chn, hrb, hgs, (fun q => absurd q (by decide)), hkw, rfl⟩) d_M_begin_69
              · show J L X 3 0 0 [(mo, .inr (4, [.int (z_i len), .ref ms, .int (z_i 2), .int (z_i mv), .ref mb, .int (z_i stk), .int (z_i hol), .int (z_i cn), .int (z_i cs), .int (z_i a), .int (z_i b), .int (z_i 1), .int (z_i 1), .int (z_i (m_due (bp b0 b1 mv) (bp b0 b1 (1 - mv)) a b 1 1)), .ref mt, .ref mf, .ref mc, .int (z_i kw)])), (ms, aI L 2 sco), (mb, aI L 52 bb), (mt, aI L 312 gs), (mf, aI L 6 fs), (mc, aL L 625 chn)] [(0, .ref mo), (1, .int (z_i a)), (2, .int (z_i b))] [.int (z_i (m_due (bp b0 b1 mv) (bp b0 b1 (1 - mv)) a b 1 1))] 69
                exact J_ireturn E F (by rw [m_begin_n (by rw [e_b_hi, e_b_lo, e_b_hs, e_b_ls]; exact hz), e_b_hi, e_b_lo, e_b_hs, e_b_ls]) (by rw [m_begin_n (by rw [e_b_hi, e_b_lo, e_b_hs, e_b_ls]; exact hz), e_b_hi, e_b_lo, e_b_hs, e_b_ls]; exact ⟨(m_due (bp b0 b1 mv) (bp b0 b1 (1 - mv)) a b 1 1), kw, bb, gs, fs, chn, hrb, hgs, (fun _ => rfl), hkw, rfl⟩) d_M_begin_69
            · exact absurd h54 (by omega)
          · exact absurd h40 (by omega)
      · exact absurd h17 (by omega)
set_option maxHeartbeats 4000000 in
set_option maxRecDepth 100000 in
theorem c_M_roll (L : Lx) (mo ms mb mt mf mc : Nat) (len stg mv stk hol cn cs hi lo hs ls du kw : Int) (sco bb tr fr chn : Int → Int) (b0 b1 : Int → Int) (a b : Int) (hS : st_ok (len, stg, mv, stk, hol, cn, cs, sco, b0, b1, hi, lo, hs, ls)) (hrb : rb_ok bb b0 b1) (hg : gb tr) (hdu : stg = 2 → du = m_due (bp b0 b1 mv) (bp b0 b1 (1 - mv)) hi lo hs ls) (hkw : kw = 0 ∨ (kw = 1 ∧ ch_ok chn)) (ha : z_r a) (hb : z_r b) : CtG L y_M_roll b_M_roll 3 (some .int) (rmh 8) false 0 0 [.ref mo, .int (z_i a), .int (z_i b)] [(mo, .inr (4, [.int (z_i len), .ref ms, .int (z_i stg), .int (z_i mv), .ref mb, .int (z_i stk), .int (z_i hol), .int (z_i cn), .int (z_i cs), .int (z_i hi), .int (z_i lo), .int (z_i hs), .int (z_i ls), .int (z_i du), .ref mt, .ref mf, .ref mc, .int (z_i kw)])), (ms, aI L 2 sco), (mb, aI L 52 bb), (mt, aI L 312 tr), (mf, aI L 6 fr), (mc, aL L 625 chn)] (RR L mo ms mb mt mf mc (m_roll (len, stg, mv, stk, hol, cn, cs, sco, b0, b1, hi, lo, hs, ls) a b).2) (some (.int (z_i ((m_roll (len, stg, mv, stk, hol, cn, cs, sco, b0, b1, hi, lo, hs, ls) a b).1)))) := by
  obtain ⟨hlen, hstg, hmv, hstk, hhol, hcn, hcs, hsc, hsl, hb0, hb1, hdk⟩ := hS
  refine CtG.of rfl (Nat.le_of_ble_eq_true rfl) (fun X E F => ?_)
  show J L X 3 0 0 [(mo, .inr (4, [.int (z_i len), .ref ms, .int (z_i stg), .int (z_i mv), .ref mb, .int (z_i stk), .int (z_i hol), .int (z_i cn), .int (z_i cs), .int (z_i hi), .int (z_i lo), .int (z_i hs), .int (z_i ls), .int (z_i du), .ref mt, .ref mf, .ref mc, .int (z_i kw)])), (ms, aI L 2 sco), (mb, aI L 52 bb), (mt, aI L 312 tr), (mf, aI L 6 fr), (mc, aL L 625 chn)] [(0, .ref mo), (1, .int (z_i a)), (2, .int (z_i b))] [] 0
  refine J_aload_n E 0 d_M_roll_0 rfl rfl ?_
  refine g_M_39 E 0 rfl rfl d_M_roll_1 ?_
  refine J_if_eq E 15 d_M_roll_4 (by decide) (by exact ⟨by omega, by omega⟩) (fun h4 => ?_) (fun h4 => ?_)
  · subst h4
    refine J_iload_n E 1 d_M_roll_15 rfl rfl ?_
    refine J_iconst E d_M_roll_16 ?_
    refine J_icmp_lt E 37 d_M_roll_17 (by decide) (by exact ⟨⟨by omega, by omega⟩, ⟨by omega, by omega⟩⟩) (fun h17 => ?_) (fun h17 => ?_)
    · refine J_iconst E d_M_roll_37 ?_
      exact J_ireturn E F (by rw [m_roll_o (by omega)]) (by rw [m_roll_o (by omega)]; exact ⟨du, kw, bb, tr, fr, chn, hrb, hg, hdu, hkw, rfl⟩) d_M_roll_38
    · refine J_iload_n E 1 d_M_roll_20 rfl rfl ?_
      refine J_bipush E d_M_roll_21 (by decide) ?_
      refine J_icmp_gt E 37 d_M_roll_23 (by decide) (by exact ⟨⟨by omega, by omega⟩, ⟨by omega, by omega⟩⟩) (fun h23 => ?_) (fun h23 => ?_)
      · refine J_iconst E d_M_roll_37 ?_
        exact J_ireturn E F (by rw [m_roll_o (by omega)]) (by rw [m_roll_o (by omega)]; exact ⟨du, kw, bb, tr, fr, chn, hrb, hg, hdu, hkw, rfl⟩) d_M_roll_38
      · refine J_iload_n E 2 d_M_roll_26 rfl rfl ?_
        refine J_iconst E d_M_roll_27 ?_
        refine J_icmp_lt E 37 d_M_roll_28 (by decide) (by exact ⟨⟨by omega, by omega⟩, ⟨by omega, by omega⟩⟩) (fun h28 => ?_) (fun h28 => ?_)
        · refine J_iconst E d_M_roll_37 ?_
          exact J_ireturn E F (by rw [m_roll_o (by omega)]) (by rw [m_roll_o (by omega)]; exact ⟨du, kw, bb, tr, fr, chn, hrb, hg, hdu, hkw, rfl⟩) d_M_roll_38
        · refine J_iload_n E 2 d_M_roll_31 rfl rfl ?_
          refine J_bipush E d_M_roll_32 (by decide) ?_
          refine J_icmp_le E 39 d_M_roll_34 (by decide) (by exact ⟨⟨by omega, by omega⟩, ⟨by omega, by omega⟩⟩) (fun h34 => ?_) (fun h34 => ?_)
          · refine J_aload_n E 0 d_M_roll_39 rfl rfl ?_
            refine g_M_39 E 0 rfl rfl d_M_roll_40 ?_
            refine J_if_ne E 67 d_M_roll_43 (by decide) (by exact ⟨by omega, by omega⟩) (fun h43 => ?_) (fun h43 => ?_)
            · exact absurd rfl h43
            · refine J_iload_n E 1 d_M_roll_46 rfl rfl ?_
              refine J_iload_n E 2 d_M_roll_47 rfl rfl ?_
              refine J_icmp_ne E 53 d_M_roll_48 (by decide) (by exact ⟨⟨by omega, by omega⟩, ⟨by omega, by omega⟩⟩) (fun h48 => ?_) (fun h48 => ?_)
              · refine J_aload_n E 0 d_M_roll_53 rfl rfl ?_
                refine J_iload_n E 1 d_M_roll_54 rfl rfl ?_
                refine J_iload_n E 2 d_M_roll_55 rfl rfl ?_
                refine J_icmp_le E 63 d_M_roll_56 (by decide) (by exact ⟨⟨by omega, by omega⟩, ⟨by omega, by omega⟩⟩) (fun h56 => ?_) (fun h56 => ?_)
                · refine J_iconst E d_M_roll_63 ?_
                  refine p_M_80 E 0 [(mo, .inr (4, [.int (z_i len), .ref ms, .int (z_i 0), .int (z_i 1), .ref mb, .int (z_i stk), .int (z_i hol), .int (z_i cn), .int (z_i cs), .int (z_i hi), .int (z_i lo), .int (z_i hs), .int (z_i ls), .int (z_i du), .ref mt, .ref mf, .ref mc, .int (z_i kw)])), (ms, aI L 2 sco), (mb, aI L 52 bb), (mt, aI L 312 tr), (mf, aI L 6 fr), (mc, aL L 625 chn)] rfl rfl (Nat.le_of_ble_eq_true rfl) d_M_roll_64 ?_
                  refine J_aload_n E 0 d_M_roll_67 rfl rfl ?_
                  refine J_iload_n E 1 d_M_roll_68 rfl rfl ?_
                  refine J_iload_n E 2 d_M_roll_69 rfl rfl ?_
                  refine J_callV (wr := []) (rest := []) E kb_M_begin t_2_148 t_2_150 ts_M_begin (c_M_begin L mo ms mb mt mf mc len 0 1 stk hol cn cs hi lo hs ls du kw sco bb tr fr chn b0 b1 a b hg hrb hb0 hb1 (Or.inr rfl) ⟨by omega, by omega⟩ ⟨by omega, by omega⟩ hkw) (fun h => h) (Rm_h (by decide) (by decide)) [0, 1, 2, 3, 4, 5] [] rfl rfl rfl rfl (by decide) 0 rfl rfl rfl rfl (Nat.le_of_ble_eq_true rfl) d_M_roll_70 (fun w' hw => ?_)
                  replace hw : (RR L mo ms mb mt mf mc (m_begin len 0 1 stk hol cn cs sco b0 b1 a b).2) w' := hw
                  show J L X 3 0 0 w' [(0, .ref mo), (1, .int (z_i a)), (2, .int (z_i b))] [.int (z_i ((m_begin len 0 1 stk hol cn cs sco b0 b1 a b).1))] 73
                  exact J_ireturn E F (by rw [m_roll_01 ⟨by omega, by omega⟩ ⟨by omega, by omega⟩ h48 h56]) (by rw [m_roll_01 ⟨by omega, by omega⟩ ⟨by omega, by omega⟩ h48 h56]; exact hw) d_M_roll_73
                · refine J_iconst E d_M_roll_59 ?_
                  refine J_goto E 64 d_M_roll_60 (by decide) ?_
                  refine p_M_80 E 0 [(mo, .inr (4, [.int (z_i len), .ref ms, .int (z_i 0), .int (z_i 0), .ref mb, .int (z_i stk), .int (z_i hol), .int (z_i cn), .int (z_i cs), .int (z_i hi), .int (z_i lo), .int (z_i hs), .int (z_i ls), .int (z_i du), .ref mt, .ref mf, .ref mc, .int (z_i kw)])), (ms, aI L 2 sco), (mb, aI L 52 bb), (mt, aI L 312 tr), (mf, aI L 6 fr), (mc, aL L 625 chn)] rfl rfl (Nat.le_of_ble_eq_true rfl) d_M_roll_64 ?_
                  refine J_aload_n E 0 d_M_roll_67 rfl rfl ?_
                  refine J_iload_n E 1 d_M_roll_68 rfl rfl ?_
                  refine J_iload_n E 2 d_M_roll_69 rfl rfl ?_
                  refine J_callV (wr := []) (rest := []) E kb_M_begin t_2_148 t_2_150 ts_M_begin (c_M_begin L mo ms mb mt mf mc len 0 0 stk hol cn cs hi lo hs ls du kw sco bb tr fr chn b0 b1 a b hg hrb hb0 hb1 (Or.inl rfl) ⟨by omega, by omega⟩ ⟨by omega, by omega⟩ hkw) (fun h => h) (Rm_h (by decide) (by decide)) [0, 1, 2, 3, 4, 5] [] rfl rfl rfl rfl (by decide) 0 rfl rfl rfl rfl (Nat.le_of_ble_eq_true rfl) d_M_roll_70 (fun w' hw => ?_)
                  replace hw : (RR L mo ms mb mt mf mc (m_begin len 0 0 stk hol cn cs sco b0 b1 a b).2) w' := hw
                  show J L X 3 0 0 w' [(0, .ref mo), (1, .int (z_i a)), (2, .int (z_i b))] [.int (z_i ((m_begin len 0 0 stk hol cn cs sco b0 b1 a b).1))] 73
                  exact J_ireturn E F (by rw [m_roll_00 ⟨by omega, by omega⟩ ⟨by omega, by omega⟩ h56]) (by rw [m_roll_00 ⟨by omega, by omega⟩ ⟨by omega, by omega⟩ h56]; exact hw) d_M_roll_73
              · refine J_iconst E d_M_roll_51 ?_
                exact J_ireturn E F (by rw [m_roll_e ⟨by omega, by omega⟩ ⟨by omega, by omega⟩ h48]) (by rw [m_roll_e ⟨by omega, by omega⟩ ⟨by omega, by omega⟩ h48]; exact ⟨du, kw, bb, tr, fr, chn, hrb, hg, hdu, hkw, rfl⟩) d_M_roll_52
          · refine J_iconst E d_M_roll_37 ?_
            exact J_ireturn E F (by rw [m_roll_o (by omega)]) (by rw [m_roll_o (by omega)]; exact ⟨du, kw, bb, tr, fr, chn, hrb, hg, hdu, hkw, rfl⟩) d_M_roll_38
  · refine J_aload_n E 0 d_M_roll_7 rfl rfl ?_
    refine g_M_39 E 0 rfl rfl d_M_roll_8 ?_
    refine J_iconst E d_M_roll_11 ?_
    refine J_icmp_ne E 37 d_M_roll_12 (by decide) (by exact ⟨⟨by omega, by omega⟩, ⟨by omega, by omega⟩⟩) (fun h12 => ?_) (fun h12 => ?_)
    · refine J_iconst E d_M_roll_37 ?_
      exact J_ireturn E F (by rw [m_roll_o (by omega)]) (by rw [m_roll_o (by omega)]; exact ⟨du, kw, bb, tr, fr, chn, hrb, hg, hdu, hkw, rfl⟩) d_M_roll_38
    · subst h12
      refine J_iload_n E 1 d_M_roll_15 rfl rfl ?_
      refine J_iconst E d_M_roll_16 ?_
      refine J_icmp_lt E 37 d_M_roll_17 (by decide) (by exact ⟨⟨by omega, by omega⟩, ⟨by omega, by omega⟩⟩) (fun h17 => ?_) (fun h17 => ?_)
      · refine J_iconst E d_M_roll_37 ?_
        exact J_ireturn E F (by rw [m_roll_o (by omega)]) (by rw [m_roll_o (by omega)]; exact ⟨du, kw, bb, tr, fr, chn, hrb, hg, hdu, hkw, rfl⟩) d_M_roll_38
      · refine J_iload_n E 1 d_M_roll_20 rfl rfl ?_
        refine J_bipush E d_M_roll_21 (by decide) ?_
        refine J_icmp_gt E 37 d_M_roll_23 (by decide) (by exact ⟨⟨by omega, by omega⟩, ⟨by omega, by omega⟩⟩) (fun h23 => ?_) (fun h23 => ?_)
        · refine J_iconst E d_M_roll_37 ?_
          exact J_ireturn E F (by rw [m_roll_o (by omega)]) (by rw [m_roll_o (by omega)]; exact ⟨du, kw, bb, tr, fr, chn, hrb, hg, hdu, hkw, rfl⟩) d_M_roll_38
        · refine J_iload_n E 2 d_M_roll_26 rfl rfl ?_
          refine J_iconst E d_M_roll_27 ?_
          refine J_icmp_lt E 37 d_M_roll_28 (by decide) (by exact ⟨⟨by omega, by omega⟩, ⟨by omega, by omega⟩⟩) (fun h28 => ?_) (fun h28 => ?_)
          · refine J_iconst E d_M_roll_37 ?_
            exact J_ireturn E F (by rw [m_roll_o (by omega)]) (by rw [m_roll_o (by omega)]; exact ⟨du, kw, bb, tr, fr, chn, hrb, hg, hdu, hkw, rfl⟩) d_M_roll_38
          · refine J_iload_n E 2 d_M_roll_31 rfl rfl ?_
            refine J_bipush E d_M_roll_32 (by decide) ?_
            refine J_icmp_le E 39 d_M_roll_34 (by decide) (by exact ⟨⟨by omega, by omega⟩, ⟨by omega, by omega⟩⟩) (fun h34 => ?_) (fun h34 => ?_)
            · refine J_aload_n E 0 d_M_roll_39 rfl rfl ?_
              refine g_M_39 E 0 rfl rfl d_M_roll_40 ?_
              refine J_if_ne E 67 d_M_roll_43 (by decide) (by exact ⟨by omega, by omega⟩) (fun h43 => ?_) (fun h43 => ?_)
              · refine J_aload_n E 0 d_M_roll_67 rfl rfl ?_
                refine J_iload_n E 1 d_M_roll_68 rfl rfl ?_
                refine J_iload_n E 2 d_M_roll_69 rfl rfl ?_
                refine J_callV (wr := []) (rest := []) E kb_M_begin t_2_148 t_2_150 ts_M_begin (c_M_begin L mo ms mb mt mf mc len 1 mv stk hol cn cs hi lo hs ls du kw sco bb tr fr chn b0 b1 a b hg hrb hb0 hb1 hmv ⟨by omega, by omega⟩ ⟨by omega, by omega⟩ hkw) (fun h => h) (Rm_h (by decide) (by decide)) [0, 1, 2, 3, 4, 5] [] rfl rfl rfl rfl (by decide) 0 rfl rfl rfl rfl (Nat.le_of_ble_eq_true rfl) d_M_roll_70 (fun w' hw => ?_)
                replace hw : (RR L mo ms mb mt mf mc (m_begin len 1 mv stk hol cn cs sco b0 b1 a b).2) w' := hw
                show J L X 3 0 0 w' [(0, .ref mo), (1, .int (z_i a)), (2, .int (z_i b))] [.int (z_i ((m_begin len 1 mv stk hol cn cs sco b0 b1 a b).1))] 73
                exact J_ireturn E F (by rw [m_roll_1 ⟨by omega, by omega⟩ ⟨by omega, by omega⟩]) (by rw [m_roll_1 ⟨by omega, by omega⟩ ⟨by omega, by omega⟩]; exact hw) d_M_roll_73
              · exact absurd h43 (by decide)
            · refine J_iconst E d_M_roll_37 ?_
              exact J_ireturn E F (by rw [m_roll_o (by omega)]) (by rw [m_roll_o (by omega)]; exact ⟨du, kw, bb, tr, fr, chn, hrb, hg, hdu, hkw, rfl⟩) d_M_roll_38
theorem su_step {bk : Int → Int} {p x v : Int} (hx : 0 ≤ x ∧ x < 26) (hp : 0 ≤ p) (hv : v = st_men x) (hr : ∀ j, 0 ≤ j → j < 26 * p + x → bk j = st_men (j % 26)) (j : Int) (j1 : 0 ≤ j) (j2 : j < 26 * p + (x + 1)) : z_u bk (26 * p + x) v j = st_men (j % 26) := by
  by_cases e : j = 26 * p + x
  · rw [e, z_us, hv, show (26 * p + x) % 26 = x by omega]
  · rw [z_un e]
    exact hr j j1 (by omega)
theorem st_in (x : Int) : 0 ≤ st_men x ∧ st_men x ≤ 15 := bd_b st_men_ok x
set_option maxHeartbeats 4000000 in
set_option maxRecDepth 100000 in
theorem c_M_setUp (L : Lx) (mo ms mb mt mf mc : Nat) (len stg mv stk hol cn cs hi lo hs ls du kw : Int) (sco bb tr fr chn : Int → Int) (hbb : gb bb) : CtG L y_M_setUp b_M_setUp 3 none (rmh 1) false 0 0 [.ref mo] [(mo, .inr (4, [.int (z_i len), .ref ms, .int (z_i stg), .int (z_i mv), .ref mb, .int (z_i stk), .int (z_i hol), .int (z_i cn), .int (z_i cs), .int (z_i hi), .int (z_i lo), .int (z_i hs), .int (z_i ls), .int (z_i du), .ref mt, .ref mf, .ref mc, .int (z_i kw)])), (ms, aI L 2 sco), (mb, aI L 52 bb), (mt, aI L 312 tr), (mf, aI L 6 fr), (mc, aL L 625 chn)] (fun u => ∃ bb2 : Int → Int, rb_ok bb2 st_men st_men ∧ u = [(mo, .inr (4, [.int (z_i len), .ref ms, .int (z_i 0), .int (z_i mv), .ref mb, .int (z_i 1), .int (z_i (-1)), .int (z_i cn), .int (z_i cs), .int (z_i hi), .int (z_i lo), .int (z_i hs), .int (z_i ls), .int (z_i du), .ref mt, .ref mf, .ref mc, .int (z_i kw)])), (ms, aI L 2 sco), (mb, aI L 52 bb2), (mt, aI L 312 tr), (mf, aI L 6 fr), (mc, aL L 625 chn)]) none := by
  refine CtG.of rfl (Nat.le_of_ble_eq_true rfl) (fun X E F => ?_)
  show J L X 3 0 0 [(mo, .inr (4, [.int (z_i len), .ref ms, .int (z_i stg), .int (z_i mv), .ref mb, .int (z_i stk), .int (z_i hol), .int (z_i cn), .int (z_i cs), .int (z_i hi), .int (z_i lo), .int (z_i hs), .int (z_i ls), .int (z_i du), .ref mt, .ref mf, .ref mc, .int (z_i kw)])), (ms, aI L 2 sco), (mb, aI L 52 bb), (mt, aI L 312 tr), (mf, aI L 6 fr), (mc, aL L 625 chn)] [(0, .ref mo)] [] 0
  refine J_iconst E d_M_setUp_0 ?_
  refine J_istore_n E [(1, .int (z_i 0)), (0, .ref mo)] d_M_setUp_1 rfl (by decide) rfl ?_
  have C2 : ∀ (mm : Nat) (p : Int) (bk : Int → Int), (0 ≤ p ∧ p ≤ 2) → (gb bk) → (∀ j, 0 ≤ j → j < 26 * p + 0 → bk j = st_men (j % 26)) → (2 - p).toNat < mm → J L X 3 0 0 [(mo, .inr (4, [.int (z_i len), .ref ms, .int (z_i stg), .int (z_i mv), .ref mb, .int (z_i stk), .int (z_i hol), .int (z_i cn), .int (z_i cs), .int (z_i hi), .int (z_i lo), .int (z_i hs), .int (z_i ls), .int (z_i du), .ref mt, .ref mf, .ref mc, .int (z_i kw)])), (ms, aI L 2 sco), (mb, aI L 52 bk), (mt, aI L 312 tr), (mf, aI L 6 fr), (mc, aL L 625 chn)] [(1, .int (z_i p)), (0, .ref mo)] [] 2 := by
    intro mm
    induction mm with
    | zero => intro p bk hp hbk hr hme; exact absurd hme (Nat.not_lt_zero _)
    | succ mm ih2 =>
      intro p bk hp hbk hr hme
      refine J_iload_n E 0 d_M_setUp_2 rfl rfl ?_
      refine J_iconst E d_M_setUp_3 ?_
      refine J_icmp_ge E 75 d_M_setUp_4 (by decide) (by exact ⟨⟨by omega, by omega⟩, ⟨by omega, by omega⟩⟩) (fun h4 => ?_) (fun h4 => ?_)
      · refine J_aload_n E 1 d_M_setUp_75 rfl rfl ?_
        refine J_iconst E d_M_setUp_76 ?_
        refine p_M_16 E 0 [(mo, .inr (4, [.int (z_i len), .ref ms, .int (z_i stg), .int (z_i mv), .ref mb, .int (z_i 1), .int (z_i hol), .int (z_i cn), .int (z_i cs), .int (z_i hi), .int (z_i lo), .int (z_i hs), .int (z_i ls), .int (z_i du), .ref mt, .ref mf, .ref mc, .int (z_i kw)])), (ms, aI L 2 sco), (mb, aI L 52 bk), (mt, aI L 312 tr), (mf, aI L 6 fr), (mc, aL L 625 chn)] rfl rfl (Nat.le_of_ble_eq_true rfl) d_M_setUp_77 ?_
        refine J_aload_n E 1 d_M_setUp_80 rfl rfl ?_
        refine J_iconst E d_M_setUp_81 ?_
        refine p_M_20 E 0 [(mo, .inr (4, [.int (z_i len), .ref ms, .int (z_i stg), .int (z_i mv), .ref mb, .int (z_i 1), .int (z_i (-1)), .int (z_i cn), .int (z_i cs), .int (z_i hi), .int (z_i lo), .int (z_i hs), .int (z_i ls), .int (z_i du), .ref mt, .ref mf, .ref mc, .int (z_i kw)])), (ms, aI L 2 sco), (mb, aI L 52 bk), (mt, aI L 312 tr), (mf, aI L 6 fr), (mc, aL L 625 chn)] rfl rfl (Nat.le_of_ble_eq_true rfl) d_M_setUp_82 ?_
        refine J_aload_n E 1 d_M_setUp_85 rfl rfl ?_
        refine J_iconst E d_M_setUp_86 ?_
        refine p_M_39 E 0 [(mo, .inr (4, [.int (z_i len), .ref ms, .int (z_i 0), .int (z_i mv), .ref mb, .int (z_i 1), .int (z_i (-1)), .int (z_i cn), .int (z_i cs), .int (z_i hi), .int (z_i lo), .int (z_i hs), .int (z_i ls), .int (z_i du), .ref mt, .ref mf, .ref mc, .int (z_i kw)])), (ms, aI L 2 sco), (mb, aI L 52 bk), (mt, aI L 312 tr), (mf, aI L 6 fr), (mc, aL L 625 chn)] rfl rfl (Nat.le_of_ble_eq_true rfl) d_M_setUp_87 ?_
        exact J_return E F ⟨bk, su_fin hbk (fun j j1 j2 => hr j j1 (by omega)), rfl⟩ d_M_setUp_90
      · refine J_iconst E d_M_setUp_7 ?_
        refine J_istore_n E [(2, .int (z_i 0)), (1, .int (z_i p)), (0, .ref mo)] d_M_setUp_8 rfl (by decide) rfl ?_
        have C9 : ∀ (mm : Nat) (x : Int) (bk2 : Int → Int), (0 ≤ x ∧ x ≤ 26) → (gb bk2) → (∀ j, 0 ≤ j → j < 26 * p + x → bk2 j = st_men (j % 26)) → (26 - x).toNat < mm → J L X 3 0 0 [(mo, .inr (4, [.int (z_i len), .ref ms, .int (z_i stg), .int (z_i mv), .ref mb, .int (z_i stk), .int (z_i hol), .int (z_i cn), .int (z_i cs), .int (z_i hi), .int (z_i lo), .int (z_i hs), .int (z_i ls), .int (z_i du), .ref mt, .ref mf, .ref mc, .int (z_i kw)])), (ms, aI L 2 sco), (mb, aI L 52 bk2), (mt, aI L 312 tr), (mf, aI L 6 fr), (mc, aL L 625 chn)] [(2, .int (z_i x)), (1, .int (z_i p)), (0, .ref mo)] [] 9 := by
          intro mm
          induction mm with
          | zero => intro x bk2 hx hbk2 hr2 hme; exact absurd hme (Nat.not_lt_zero _)
          | succ mm ih9 =>
            intro x bk2 hx hbk2 hr2 hme
            refine J_iload_n E 0 d_M_setUp_9 rfl rfl ?_
            refine J_bipush E d_M_setUp_10 (by decide) ?_
            refine J_icmp_ge E 69 d_M_setUp_12 (by decide) (by exact ⟨⟨by omega, by omega⟩, ⟨by omega, by omega⟩⟩) (fun h12 => ?_) (fun h12 => ?_)
            · refine J_iinc E 1 [(1, .int (z_i (p + 1))), (2, .int (z_i x)), (0, .ref mo)] d_M_setUp_69 rfl (by decide) rfl ?_
              refine J_goto E 2 d_M_setUp_72 (by decide) ?_
              refine J_lv (lv' := [(1, .int (z_i (p + 1))), (0, .ref mo)]) [0, 2] rfl ?_
              exact ih2 (p + 1) bk2 (by omega) hbk2 (fun j j1 j2 => hr2 j j1 (by omega)) (by omega)
            · refine J_aload_n E 2 d_M_setUp_15 rfl rfl ?_
              refine g_M_13 E 0 rfl rfl d_M_setUp_16 ?_
              refine J_bipush E d_M_setUp_19 (by decide) ?_
              refine J_iload_n E 1 d_M_setUp_21 rfl rfl ?_
              refine J_imul E d_M_setUp_22 ?_
              refine J_iload_n E 0 d_M_setUp_23 rfl rfl ?_
              refine J_iadd E d_M_setUp_24 ?_
              refine J_iload_n E 0 d_M_setUp_25 rfl rfl ?_
              refine J_bipush E d_M_setUp_26 (by decide) ?_
              refine J_icmp_ne E 35 d_M_setUp_28 (by decide) (by exact ⟨⟨by omega, by omega⟩, ⟨by omega, by omega⟩⟩) (fun h28 => ?_) (fun h28 => ?_)
              · refine J_iload_n E 0 d_M_setUp_35 rfl rfl ?_
                refine J_bipush E d_M_setUp_36 (by decide) ?_
                refine J_icmp_eq E 47 d_M_setUp_38 (by decide) (by exact ⟨⟨by omega, by omega⟩, ⟨by omega, by omega⟩⟩) (fun h38 => ?_) (fun h38 => ?_)
                · refine J_iconst E d_M_setUp_47 ?_
                  refine J_goto E 62 d_M_setUp_48 (by decide) ?_
                  refine J_iast E 2 [(mo, .inr (4, [.int (z_i len), .ref ms, .int (z_i stg), .int (z_i mv), .ref mb, .int (z_i stk), .int (z_i hol), .int (z_i cn), .int (z_i cs), .int (z_i hi), .int (z_i lo), .int (z_i hs), .int (z_i ls), .int (z_i du), .ref mt, .ref mf, .ref mc, .int (z_i kw)])), (ms, aI L 2 sco), (mb, aI L 52 (z_u bk2 ((26 * p) + x) 5)), (mt, aI L 312 tr), (mf, aI L 6 fr), (mc, aL L 625 chn)] rfl rfl (by decide) (by exact ⟨by omega, by omega⟩) d_M_setUp_62 ?_
                  refine J_iinc E 0 [(2, .int (z_i (x + 1))), (1, .int (z_i p)), (0, .ref mo)] d_M_setUp_63 rfl (by decide) rfl ?_
                  refine J_goto E 9 d_M_setUp_66 (by decide) ?_
                  exact ih9 (x + 1) (z_u bk2 ((26 * p) + x) 5) (by omega) (gb_u hbk2 ⟨by decide, by decide⟩) (su_step (by omega) hp.1 (by unfold st_men; split <;> (first | omega | (split <;> (first | omega | (split <;> omega))))) hr2) (by omega)
                · refine J_iload_n E 0 d_M_setUp_41 rfl rfl ?_
                  refine J_bipush E d_M_setUp_42 (by decide) ?_
                  refine J_icmp_ne E 51 d_M_setUp_44 (by decide) (by exact ⟨⟨by omega, by omega⟩, ⟨by omega, by omega⟩⟩) (fun h44 => ?_) (fun h44 => ?_)
                  · refine J_iload_n E 0 d_M_setUp_51 rfl rfl ?_
                    refine J_bipush E d_M_setUp_52 (by decide) ?_
                    refine J_icmp_ne E 61 d_M_setUp_54 (by decide) (by exact ⟨⟨by omega, by omega⟩, ⟨by omega, by omega⟩⟩) (fun h54 => ?_) (fun h54 => ?_)
                    · refine J_iconst E d_M_setUp_61 ?_
                      refine J_iast E 2 [(mo, .inr (4, [.int (z_i len), .ref ms, .int (z_i stg), .int (z_i mv), .ref mb, .int (z_i stk), .int (z_i hol), .int (z_i cn), .int (z_i cs), .int (z_i hi), .int (z_i lo), .int (z_i hs), .int (z_i ls), .int (z_i du), .ref mt, .ref mf, .ref mc, .int (z_i kw)])), (ms, aI L 2 sco), (mb, aI L 52 (z_u bk2 ((26 * p) + x) 0)), (mt, aI L 312 tr), (mf, aI L 6 fr), (mc, aL L 625 chn)] rfl rfl (by decide) (by exact ⟨by omega, by omega⟩) d_M_setUp_62 ?_
                      refine J_iinc E 0 [(2, .int (z_i (x + 1))), (1, .int (z_i p)), (0, .ref mo)] d_M_setUp_63 rfl (by decide) rfl ?_
                      refine J_goto E 9 d_M_setUp_66 (by decide) ?_
                      exact ih9 (x + 1) (z_u bk2 ((26 * p) + x) 0) (by omega) (gb_u hbk2 ⟨by decide, by decide⟩) (su_step (by omega) hp.1 (by unfold st_men; split <;> (first | omega | (split <;> (first | omega | (split <;> omega))))) hr2) (by omega)
                    · refine J_iconst E d_M_setUp_57 ?_
                      refine J_goto E 62 d_M_setUp_58 (by decide) ?_
                      refine J_iast E 2 [(mo, .inr (4, [.int (z_i len), .ref ms, .int (z_i stg), .int (z_i mv), .ref mb, .int (z_i stk), .int (z_i hol), .int (z_i cn), .int (z_i cs), .int (z_i hi), .int (z_i lo), .int (z_i hs), .int (z_i ls), .int (z_i du), .ref mt, .ref mf, .ref mc, .int (z_i kw)])), (ms, aI L 2 sco), (mb, aI L 52 (z_u bk2 ((26 * p) + x) 3)), (mt, aI L 312 tr), (mf, aI L 6 fr), (mc, aL L 625 chn)] rfl rfl (by decide) (by exact ⟨by omega, by omega⟩) d_M_setUp_62 ?_
                      refine J_iinc E 0 [(2, .int (z_i (x + 1))), (1, .int (z_i p)), (0, .ref mo)] d_M_setUp_63 rfl (by decide) rfl ?_
                      refine J_goto E 9 d_M_setUp_66 (by decide) ?_
                      exact ih9 (x + 1) (z_u bk2 ((26 * p) + x) 3) (by omega) (gb_u hbk2 ⟨by decide, by decide⟩) (su_step (by omega) hp.1 (by unfold st_men; split <;> (first | omega | (split <;> (first | omega | (split <;> omega))))) hr2) (by omega)
                  · refine J_iconst E d_M_setUp_47 ?_
                    refine J_goto E 62 d_M_setUp_48 (by decide) ?_
                    refine J_iast E 2 [(mo, .inr (4, [.int (z_i len), .ref ms, .int (z_i stg), .int (z_i mv), .ref mb, .int (z_i stk), .int (z_i hol), .int (z_i cn), .int (z_i cs), .int (z_i hi), .int (z_i lo), .int (z_i hs), .int (z_i ls), .int (z_i du), .ref mt, .ref mf, .ref mc, .int (z_i kw)])), (ms, aI L 2 sco), (mb, aI L 52 (z_u bk2 ((26 * p) + x) 5)), (mt, aI L 312 tr), (mf, aI L 6 fr), (mc, aL L 625 chn)] rfl rfl (by decide) (by exact ⟨by omega, by omega⟩) d_M_setUp_62 ?_
                    refine J_iinc E 0 [(2, .int (z_i (x + 1))), (1, .int (z_i p)), (0, .ref mo)] d_M_setUp_63 rfl (by decide) rfl ?_
                    refine J_goto E 9 d_M_setUp_66 (by decide) ?_
                    exact ih9 (x + 1) (z_u bk2 ((26 * p) + x) 5) (by omega) (gb_u hbk2 ⟨by decide, by decide⟩) (su_step (by omega) hp.1 (by unfold st_men; split <;> (first | omega | (split <;> (first | omega | (split <;> omega))))) hr2) (by omega)
              · refine J_iconst E d_M_setUp_31 ?_
                refine J_goto E 62 d_M_setUp_32 (by decide) ?_
                refine J_iast E 2 [(mo, .inr (4, [.int (z_i len), .ref ms, .int (z_i stg), .int (z_i mv), .ref mb, .int (z_i stk), .int (z_i hol), .int (z_i cn), .int (z_i cs), .int (z_i hi), .int (z_i lo), .int (z_i hs), .int (z_i ls), .int (z_i du), .ref mt, .ref mf, .ref mc, .int (z_i kw)])), (ms, aI L 2 sco), (mb, aI L 52 (z_u bk2 ((26 * p) + x) 2)), (mt, aI L 312 tr), (mf, aI L 6 fr), (mc, aL L 625 chn)] rfl rfl (by decide) (by exact ⟨by omega, by omega⟩) d_M_setUp_62 ?_
                refine J_iinc E 0 [(2, .int (z_i (x + 1))), (1, .int (z_i p)), (0, .ref mo)] d_M_setUp_63 rfl (by decide) rfl ?_
                refine J_goto E 9 d_M_setUp_66 (by decide) ?_
                exact ih9 (x + 1) (z_u bk2 ((26 * p) + x) 2) (by omega) (gb_u hbk2 ⟨by decide, by decide⟩) (su_step (by omega) hp.1 (by unfold st_men; split <;> (first | omega | (split <;> (first | omega | (split <;> omega))))) hr2) (by omega)
        exact C9 _ 0 bk (by decide) hbk hr (Nat.lt_succ_self _)
  exact C2 _ 0 bb (by decide) hbb (fun j j1 j2 => by omega) (Nat.lt_succ_self _)
set_option maxHeartbeats 4000000 in
set_option maxRecDepth 100000 in
theorem c_M_win (L : Lx) (mo ms mb mt mf mc : Nat) (len stg mv stk hol cn cs hi lo hs ls du kw : Int) (sco bb tr fr chn : Int → Int) (gain : Int) (hlen : 1 ≤ len ∧ len ≤ 25) (hmv : mv = 0 ∨ mv = 1) (hcs : cs = 0 ∨ cs = 1) (hsc : ∀ x, 0 ≤ sco x ∧ sco x ≤ 1000) (hga : 0 ≤ gain ∧ gain ≤ 1000) (hbb : gb bb) : CtG L y_M_win b_M_win 3 (some .int) (rmh 2) false 0 0 [.ref mo, .int (z_i mv), .int (z_i gain)] [(mo, .inr (4, [.int (z_i len), .ref ms, .int (z_i stg), .int (z_i mv), .ref mb, .int (z_i stk), .int (z_i hol), .int (z_i cn), .int (z_i cs), .int (z_i hi), .int (z_i lo), .int (z_i hs), .int (z_i ls), .int (z_i du), .ref mt, .ref mf, .ref mc, .int (z_i kw)])), (ms, aI L 2 sco), (mb, aI L 52 bb), (mt, aI L 312 tr), (mf, aI L 6 fr), (mc, aL L 625 chn)] (fun u => (len ≤ ((sco mv) + gain) ∧ u = [(mo, .inr (4, [.int (z_i len), .ref ms, .int (z_i 4), .int (z_i mv), .ref mb, .int (z_i stk), .int (z_i hol), .int (z_i 0), .int (z_i cs), .int (z_i hi), .int (z_i lo), .int (z_i hs), .int (z_i ls), .int (z_i du), .ref mt, .ref mf, .ref mc, .int (z_i kw)])), (ms, aI L 2 (z_u sco mv ((sco mv) + gain))), (mb, aI L 52 bb), (mt, aI L 312 tr), (mf, aI L 6 fr), (mc, aL L 625 chn)]) ∨ (((sco mv) + gain) < len ∧ ∃ bb2 : Int → Int, rb_ok bb2 st_men st_men ∧ u = [(mo, .inr (4, [.int (z_i len), .ref ms, .int (z_i 0), .int (z_i mv), .ref mb, .int (z_i 1), .int (z_i (-1)), .int (z_i (wn_c cs ((sco mv) + gain) len)), .int (z_i (wn_s cs ((sco mv) + gain) len)), .int (z_i hi), .int (z_i lo), .int (z_i hs), .int (z_i ls), .int (z_i du), .ref mt, .ref mf, .ref mc, .int (z_i kw)])), (ms, aI L 2 (z_u sco mv ((sco mv) + gain))), (mb, aI L 52 bb2), (mt, aI L 312 tr), (mf, aI L 6 fr), (mc, aL L 625 chn)])) (some (.int (z_i (10 * gain)))) := by
  refine CtG.of rfl (Nat.le_of_ble_eq_true rfl) (fun X E F => ?_)
  show J L X 3 0 0 [(mo, .inr (4, [.int (z_i len), .ref ms, .int (z_i stg), .int (z_i mv), .ref mb, .int (z_i stk), .int (z_i hol), .int (z_i cn), .int (z_i cs), .int (z_i hi), .int (z_i lo), .int (z_i hs), .int (z_i ls), .int (z_i du), .ref mt, .ref mf, .ref mc, .int (z_i kw)])), (ms, aI L 2 sco), (mb, aI L 52 bb), (mt, aI L 312 tr), (mf, aI L 6 fr), (mc, aL L 625 chn)] [(0, .ref mo), (1, .int (z_i mv)), (2, .int (z_i gain))] [] 0
  refine J_aload_n E 0 d_M_win_0 rfl rfl ?_
  refine g_M_7 E 0 rfl rfl d_M_win_1 ?_
  refine J_iload_n E 1 d_M_win_4 rfl rfl ?_
  refine J_aload_n E 0 d_M_win_5 rfl rfl ?_
  refine g_M_7 E 0 rfl rfl d_M_win_6 ?_
  refine J_iload_n E 1 d_M_win_9 rfl rfl ?_
  refine J_iald E 1 rfl (by decide) (by exact ⟨by omega, by omega⟩) d_M_win_10 ?_
  refine J_iload_n E 2 d_M_win_11 rfl rfl ?_
  refine J_iadd E d_M_win_12 ?_
  refine J_iast E 1 [(mo, .inr (4, [.int (z_i len), .ref ms, .int (z_i stg), .int (z_i mv), .ref mb, .int (z_i stk), .int (z_i hol), .int (z_i cn), .int (z_i cs), .int (z_i hi), .int (z_i lo), .int (z_i hs), .int (z_i ls), .int (z_i du), .ref mt, .ref mf, .ref mc, .int (z_i kw)])), (ms, aI L 2 (z_u sco mv ((sco mv) + gain))), (mb, aI L 52 bb), (mt, aI L 312 tr), (mf, aI L 6 fr), (mc, aL L 625 chn)] rfl rfl (by decide) (by exact ⟨by omega, by omega⟩) d_M_win_13 ?_
  refine J_aload_n E 0 d_M_win_14 rfl rfl ?_
  refine J_iconst E d_M_win_15 ?_
  refine p_M_101 E 0 [(mo, .inr (4, [.int (z_i len), .ref ms, .int (z_i stg), .int (z_i mv), .ref mb, .int (z_i stk), .int (z_i hol), .int (z_i 0), .int (z_i cs), .int (z_i hi), .int (z_i lo), .int (z_i hs), .int (z_i ls), .int (z_i du), .ref mt, .ref mf, .ref mc, .int (z_i kw)])), (ms, aI L 2 (z_u sco mv ((sco mv) + gain))), (mb, aI L 52 bb), (mt, aI L 312 tr), (mf, aI L 6 fr), (mc, aL L 625 chn)] rfl rfl (Nat.le_of_ble_eq_true rfl) (by omega) d_M_win_16 ?_
  refine J_aload_n E 0 d_M_win_19 rfl rfl ?_
  refine g_M_7 E 0 rfl rfl d_M_win_20 ?_
  refine J_iload_n E 1 d_M_win_23 rfl rfl ?_
  refine J_iald E 1 rfl (by decide) (by exact ⟨by omega, by omega⟩) d_M_win_24 ?_
  refine J_top (v := .int (z_i ((sco mv) + gain))) (by rw [z_us]) ?_
  refine J_aload_n E 0 d_M_win_25 rfl rfl ?_
  refine g_M_33 E 0 rfl rfl d_M_win_26 ?_
  refine J_icmp_lt E 47 d_M_win_29 (by decide) (by have := hsc mv; exact ⟨⟨by omega, by omega⟩, ⟨by omega, by omega⟩⟩) (fun h29 => ?_) (fun h29 => ?_)
  · refine J_aload_n E 0 d_M_win_47 rfl rfl ?_
    refine g_M_105 E 0 rfl rfl d_M_win_48 ?_
    refine J_if_ne E 79 d_M_win_51 (by decide) (by exact ⟨by omega, by omega⟩) (fun h51 => ?_) (fun h51 => ?_)
    · refine J_aload_n E 0 d_M_win_79 rfl rfl ?_
      refine J_callV (wr := []) (rest := []) E kb_M_setUp t_2_81 t_2_83 ts_M_setUp (c_M_setUp L mo ms mb mt mf mc len stg mv stk hol 0 cs hi lo hs ls du kw (z_u sco mv ((sco mv) + gain)) bb tr fr chn hbb) (fun h => h) (Rm_h (by decide) (by decide)) [0, 1, 2, 3, 4, 5] [] rfl rfl rfl rfl (by decide) 0 rfl rfl rfl rfl (Nat.le_of_ble_eq_true rfl) d_M_win_80 (fun w' hw => ?_)
      obtain ⟨bn, hbn, hw⟩ := hw
      obtain rfl : w' = [(mo, .inr (4, [.int (z_i len), .ref ms, .int (z_i 0), .int (z_i mv), .ref mb, .int (z_i 1), .int (z_i (-1)), .int (z_i 0), .int (z_i cs), .int (z_i hi), .int (z_i lo), .int (z_i hs), .int (z_i ls), .int (z_i du), .ref mt, .ref mf, .ref mc, .int (z_i kw)])), (ms, aI L 2 (z_u sco mv ((sco mv) + gain))), (mb, aI L 52 bn), (mt, aI L 312 tr), (mf, aI L 6 fr), (mc, aL L 625 chn)] := hw
      show J L X 3 0 0 [(mo, .inr (4, [.int (z_i len), .ref ms, .int (z_i 0), .int (z_i mv), .ref mb, .int (z_i 1), .int (z_i (-1)), .int (z_i 0), .int (z_i cs), .int (z_i hi), .int (z_i lo), .int (z_i hs), .int (z_i ls), .int (z_i du), .ref mt, .ref mf, .ref mc, .int (z_i kw)])), (ms, aI L 2 (z_u sco mv ((sco mv) + gain))), (mb, aI L 52 bn), (mt, aI L 312 tr), (mf, aI L 6 fr), (mc, aL L 625 chn)] [(0, .ref mo), (1, .int (z_i mv)), (2, .int (z_i gain))] [] 83
      refine J_bipush E d_M_win_83 (by decide) ?_
      refine J_iload_n E 2 d_M_win_85 rfl rfl ?_
      refine J_imul E d_M_win_86 ?_
      exact J_ireturn E F rfl (Or.inr ⟨by omega, bn, hbn, by rw [show wn_c cs ((sco mv) + gain) len = 0 by (unfold wn_c; split <;> omega), show wn_s cs ((sco mv) + gain) len = cs by (unfold wn_s; split <;> omega)]⟩) d_M_win_87
    · refine J_aload_n E 0 d_M_win_54 rfl rfl ?_
      refine g_M_7 E 0 rfl rfl d_M_win_55 ?_
      refine J_iload_n E 1 d_M_win_58 rfl rfl ?_
      refine J_iald E 1 rfl (by decide) (by exact ⟨by omega, by omega⟩) d_M_win_59 ?_
      refine J_top (v := .int (z_i ((sco mv) + gain))) (by rw [z_us]) ?_
      refine J_aload_n E 0 d_M_win_60 rfl rfl ?_
      refine g_M_33 E 0 rfl rfl d_M_win_61 ?_
      refine J_iconst E d_M_win_64 ?_
      refine J_isub E d_M_win_65 ?_
      refine J_icmp_ne E 79 d_M_win_66 (by decide) (by have := hsc mv; exact ⟨⟨by omega, by omega⟩, ⟨by omega, by omega⟩⟩) (fun h66 => ?_) (fun h66 => ?_)
      · refine J_aload_n E 0 d_M_win_79 rfl rfl ?_
        refine J_callV (wr := []) (rest := []) E kb_M_setUp t_2_81 t_2_83 ts_M_setUp (c_M_setUp L mo ms mb mt mf mc len stg mv stk hol 0 cs hi lo hs ls du kw (z_u sco mv ((sco mv) + gain)) bb tr fr chn hbb) (fun h => h) (Rm_h (by decide) (by decide)) [0, 1, 2, 3, 4, 5] [] rfl rfl rfl rfl (by decide) 0 rfl rfl rfl rfl (Nat.le_of_ble_eq_true rfl) d_M_win_80 (fun w' hw => ?_)
        obtain ⟨bn, hbn, hw⟩ := hw
        obtain rfl : w' = [(mo, .inr (4, [.int (z_i len), .ref ms, .int (z_i 0), .int (z_i mv), .ref mb, .int (z_i 1), .int (z_i (-1)), .int (z_i 0), .int (z_i cs), .int (z_i hi), .int (z_i lo), .int (z_i hs), .int (z_i ls), .int (z_i du), .ref mt, .ref mf, .ref mc, .int (z_i kw)])), (ms, aI L 2 (z_u sco mv ((sco mv) + gain))), (mb, aI L 52 bn), (mt, aI L 312 tr), (mf, aI L 6 fr), (mc, aL L 625 chn)] := hw
        show J L X 3 0 0 [(mo, .inr (4, [.int (z_i len), .ref ms, .int (z_i 0), .int (z_i mv), .ref mb, .int (z_i 1), .int (z_i (-1)), .int (z_i 0), .int (z_i cs), .int (z_i hi), .int (z_i lo), .int (z_i hs), .int (z_i ls), .int (z_i du), .ref mt, .ref mf, .ref mc, .int (z_i kw)])), (ms, aI L 2 (z_u sco mv ((sco mv) + gain))), (mb, aI L 52 bn), (mt, aI L 312 tr), (mf, aI L 6 fr), (mc, aL L 625 chn)] [(0, .ref mo), (1, .int (z_i mv)), (2, .int (z_i gain))] [] 83
        refine J_bipush E d_M_win_83 (by decide) ?_
        refine J_iload_n E 2 d_M_win_85 rfl rfl ?_
        refine J_imul E d_M_win_86 ?_
        exact J_ireturn E F rfl (Or.inr ⟨by omega, bn, hbn, by rw [show wn_c cs ((sco mv) + gain) len = 0 by (unfold wn_c; split <;> omega), show wn_s cs ((sco mv) + gain) len = cs by (unfold wn_s; split <;> omega)]⟩) d_M_win_87
      · refine J_aload_n E 0 d_M_win_69 rfl rfl ?_
        refine J_iconst E d_M_win_70 ?_
        refine p_M_105 E 0 [(mo, .inr (4, [.int (z_i len), .ref ms, .int (z_i stg), .int (z_i mv), .ref mb, .int (z_i stk), .int (z_i hol), .int (z_i 0), .int (z_i 1), .int (z_i hi), .int (z_i lo), .int (z_i hs), .int (z_i ls), .int (z_i du), .ref mt, .ref mf, .ref mc, .int (z_i kw)])), (ms, aI L 2 (z_u sco mv ((sco mv) + gain))), (mb, aI L 52 bb), (mt, aI L 312 tr), (mf, aI L 6 fr), (mc, aL L 625 chn)] rfl rfl (Nat.le_of_ble_eq_true rfl) (by omega) d_M_win_71 ?_
        refine J_aload_n E 0 d_M_win_74 rfl rfl ?_
        refine J_iconst E d_M_win_75 ?_
        refine p_M_101 E 0 [(mo, .inr (4, [.int (z_i len), .ref ms, .int (z_i stg), .int (z_i mv), .ref mb, .int (z_i stk), .int (z_i hol), .int (z_i 1), .int (z_i 1), .int (z_i hi), .int (z_i lo), .int (z_i hs), .int (z_i ls), .int (z_i du), .ref mt, .ref mf, .ref mc, .int (z_i kw)])), (ms, aI L 2 (z_u sco mv ((sco mv) + gain))), (mb, aI L 52 bb), (mt, aI L 312 tr), (mf, aI L 6 fr), (mc, aL L 625 chn)] rfl rfl (Nat.le_of_ble_eq_true rfl) (by omega) d_M_win_76 ?_
        refine J_aload_n E 0 d_M_win_79 rfl rfl ?_
        refine J_callV (wr := []) (rest := []) E kb_M_setUp t_2_81 t_2_83 ts_M_setUp (c_M_setUp L mo ms mb mt mf mc len stg mv stk hol 1 1 hi lo hs ls du kw (z_u sco mv ((sco mv) + gain)) bb tr fr chn hbb) (fun h => h) (Rm_h (by decide) (by decide)) [0, 1, 2, 3, 4, 5] [] rfl rfl rfl rfl (by decide) 0 rfl rfl rfl rfl (Nat.le_of_ble_eq_true rfl) d_M_win_80 (fun w' hw => ?_)
        obtain ⟨bn, hbn, hw⟩ := hw
        obtain rfl : w' = [(mo, .inr (4, [.int (z_i len), .ref ms, .int (z_i 0), .int (z_i mv), .ref mb, .int (z_i 1), .int (z_i (-1)), .int (z_i 1), .int (z_i 1), .int (z_i hi), .int (z_i lo), .int (z_i hs), .int (z_i ls), .int (z_i du), .ref mt, .ref mf, .ref mc, .int (z_i kw)])), (ms, aI L 2 (z_u sco mv ((sco mv) + gain))), (mb, aI L 52 bn), (mt, aI L 312 tr), (mf, aI L 6 fr), (mc, aL L 625 chn)] := hw
        show J L X 3 0 0 [(mo, .inr (4, [.int (z_i len), .ref ms, .int (z_i 0), .int (z_i mv), .ref mb, .int (z_i 1), .int (z_i (-1)), .int (z_i 1), .int (z_i 1), .int (z_i hi), .int (z_i lo), .int (z_i hs), .int (z_i ls), .int (z_i du), .ref mt, .ref mf, .ref mc, .int (z_i kw)])), (ms, aI L 2 (z_u sco mv ((sco mv) + gain))), (mb, aI L 52 bn), (mt, aI L 312 tr), (mf, aI L 6 fr), (mc, aL L 625 chn)] [(0, .ref mo), (1, .int (z_i mv)), (2, .int (z_i gain))] [] 83
        refine J_bipush E d_M_win_83 (by decide) ?_
        refine J_iload_n E 2 d_M_win_85 rfl rfl ?_
        refine J_imul E d_M_win_86 ?_
        exact J_ireturn E F rfl (Or.inr ⟨by omega, bn, hbn, by rw [show wn_c cs ((sco mv) + gain) len = 1 by (unfold wn_c; split <;> omega), show wn_s cs ((sco mv) + gain) len = 1 by (unfold wn_s; split <;> omega)]⟩) d_M_win_87
  · refine J_aload_n E 0 d_M_win_32 rfl rfl ?_
    refine J_iconst E d_M_win_33 ?_
    refine p_M_39 E 0 [(mo, .inr (4, [.int (z_i len), .ref ms, .int (z_i 4), .int (z_i mv), .ref mb, .int (z_i stk), .int (z_i hol), .int (z_i 0), .int (z_i cs), .int (z_i hi), .int (z_i lo), .int (z_i hs), .int (z_i ls), .int (z_i du), .ref mt, .ref mf, .ref mc, .int (z_i kw)])), (ms, aI L 2 (z_u sco mv ((sco mv) + gain))), (mb, aI L 52 bb), (mt, aI L 312 tr), (mf, aI L 6 fr), (mc, aL L 625 chn)] rfl rfl (Nat.le_of_ble_eq_true rfl) d_M_win_34 ?_
    refine J_aload_n E 0 d_M_win_37 rfl rfl ?_
    refine J_iload_n E 1 d_M_win_38 rfl rfl ?_
    refine p_M_80 E 0 [(mo, .inr (4, [.int (z_i len), .ref ms, .int (z_i 4), .int (z_i mv), .ref mb, .int (z_i stk), .int (z_i hol), .int (z_i 0), .int (z_i cs), .int (z_i hi), .int (z_i lo), .int (z_i hs), .int (z_i ls), .int (z_i du), .ref mt, .ref mf, .ref mc, .int (z_i kw)])), (ms, aI L 2 (z_u sco mv ((sco mv) + gain))), (mb, aI L 52 bb), (mt, aI L 312 tr), (mf, aI L 6 fr), (mc, aL L 625 chn)] rfl rfl (Nat.le_of_ble_eq_true rfl) d_M_win_39 ?_
    refine J_bipush E d_M_win_42 (by decide) ?_
    refine J_iload_n E 2 d_M_win_44 rfl rfl ?_
    refine J_imul E d_M_win_45 ?_
    exact J_ireturn E F rfl (Or.inl ⟨h29, rfl⟩) d_M_win_46
set_option maxHeartbeats 4000000 in
set_option maxRecDepth 100000 in
theorem c_M_times (L : Lx) (mo ms mb mt mf mc : Nat) (len stg mv stk hol cn cs hi lo hs ls du kw : Int) (sco bb tr fr chn : Int → Int) (b0 b1 : Int → Int) (hrb : rb_ok bb b0 b1) (hmv : mv = 0 ∨ mv = 1) : CtG L y_M_times b_M_times 4 (some .int) (rmh 1) false 0 0 [.ref mo, .int (z_i mv)] [(mo, .inr (4, [.int (z_i len), .ref ms, .int (z_i stg), .int (z_i mv), .ref mb, .int (z_i stk), .int (z_i hol), .int (z_i cn), .int (z_i cs), .int (z_i hi), .int (z_i lo), .int (z_i hs), .int (z_i ls), .int (z_i du), .ref mt, .ref mf, .ref mc, .int (z_i kw)])), (ms, aI L 2 sco), (mb, aI L 52 bb), (mt, aI L 312 tr), (mf, aI L 6 fr), (mc, aL L 625 chn)] (fun u => u = [(mo, .inr (4, [.int (z_i len), .ref ms, .int (z_i stg), .int (z_i mv), .ref mb, .int (z_i stk), .int (z_i hol), .int (z_i cn), .int (z_i cs), .int (z_i hi), .int (z_i lo), .int (z_i hs), .int (z_i ls), .int (z_i du), .ref mt, .ref mf, .ref mc, .int (z_i kw)])), (ms, aI L 2 sco), (mb, aI L 52 bb), (mt, aI L 312 tr), (mf, aI L 6 fr), (mc, aL L 625 chn)]) (some (.int (z_i (tc_f (bp b0 b1 (1 - mv)))))) := by
  refine CtG.of rfl (Nat.le_of_ble_eq_true rfl) (fun X E F => ?_)
  show J L X 4 0 0 [(mo, .inr (4, [.int (z_i len), .ref ms, .int (z_i stg), .int (z_i mv), .ref mb, .int (z_i stk), .int (z_i hol), .int (z_i cn), .int (z_i cs), .int (z_i hi), .int (z_i lo), .int (z_i hs), .int (z_i ls), .int (z_i du), .ref mt, .ref mf, .ref mc, .int (z_i kw)])), (ms, aI L 2 sco), (mb, aI L 52 bb), (mt, aI L 312 tr), (mf, aI L 6 fr), (mc, aL L 625 chn)] [(0, .ref mo), (1, .int (z_i mv))] [] 0
  have e0 : bb (26 * (1 - mv)) = (bp b0 b1 (1 - mv)) 0 := by have q := rb_at hrb (p := 1 - mv) (x := 0) (by omega) ⟨by decide, by decide⟩; rw [Int.add_zero] at q; exact q
  have ex : ∀ x, 0 ≤ x → x ≤ 25 → bb (26 * (1 - mv) + x) = (bp b0 b1 (1 - mv)) x := fun x x1 x2 => rb_at hrb (by omega) ⟨x1, x2⟩
  refine J_bipush E d_M_times_0 (by decide) ?_
  refine J_iconst E d_M_times_2 ?_
  refine J_iload_n E 1 d_M_times_3 rfl rfl ?_
  refine J_isub E d_M_times_4 ?_
  refine J_imul E d_M_times_5 ?_
  refine J_istore_n E [(2, .int (z_i (26 * (1 - mv)))), (0, .ref mo), (1, .int (z_i mv))] d_M_times_6 rfl (by decide) rfl ?_
  refine J_aload_n E 1 d_M_times_7 rfl rfl ?_
  refine g_M_13 E 0 rfl rfl d_M_times_8 ?_
  refine J_iload_n E 0 d_M_times_11 rfl rfl ?_
  refine J_iald E 2 rfl (by decide) (by exact ⟨by omega, by omega⟩) d_M_times_12 ?_
  refine J_if_le E 18 d_M_times_13 (by decide) (by have := hrb.1 (26 * (1 - mv)); exact ⟨by omega, by omega⟩) (fun h13 => ?_) (fun h13 => ?_)
  · refine J_bipush E d_M_times_18 (by decide) ?_
    refine J_istore_n E [(3, .int (z_i 19)), (2, .int (z_i (26 * (1 - mv)))), (0, .ref mo), (1, .int (z_i mv))] d_M_times_20 rfl (by decide) rfl ?_
    have C21 : ∀ (mm : Nat) (k : Int), (19 ≤ k ∧ k ≤ 26) → (∀ x, 19 ≤ x → x < k → (bp b0 b1 (1 - mv)) x ≤ 0) → (26 - k).toNat < mm → J L X 4 0 0 [(mo, .inr (4, [.int (z_i len), .ref ms, .int (z_i stg), .int (z_i mv), .ref mb, .int (z_i stk), .int (z_i hol), .int (z_i cn), .int (z_i cs), .int (z_i hi), .int (z_i lo), .int (z_i hs), .int (z_i ls), .int (z_i du), .ref mt, .ref mf, .ref mc, .int (z_i kw)])), (ms, aI L 2 sco), (mb, aI L 52 bb), (mt, aI L 312 tr), (mf, aI L 6 fr), (mc, aL L 625 chn)] [(3, .int (z_i k)), (2, .int (z_i (26 * (1 - mv)))), (0, .ref mo), (1, .int (z_i mv))] [] 21 := by
      intro mm
      induction mm with
      | zero => intro k hk hr hme; exact absurd hme (Nat.not_lt_zero _)
      | succ mm ih21 =>
        intro k hk hr hme
        refine J_iload_n E 0 d_M_times_21 rfl rfl ?_
        refine J_bipush E d_M_times_22 (by decide) ?_
        refine J_icmp_ge E 46 d_M_times_24 (by decide) (by exact ⟨⟨by omega, by omega⟩, ⟨by omega, by omega⟩⟩) (fun h24 => ?_) (fun h24 => ?_)
        · refine J_iconst E d_M_times_46 ?_
          exact J_ireturn E F (tc_18 (by rw [← e0]; exact h13) (fun x x1 x2 => hr x x1 (by omega))).symm rfl d_M_times_47
        · refine J_aload_n E 2 d_M_times_27 rfl rfl ?_
          refine g_M_13 E 0 rfl rfl d_M_times_28 ?_
          refine J_iload_n E 1 d_M_times_31 rfl rfl ?_
          refine J_iload_n E 0 d_M_times_32 rfl rfl ?_
          refine J_iadd E d_M_times_33 ?_
          refine J_iald E 2 rfl (by decide) (by exact ⟨by omega, by omega⟩) d_M_times_34 ?_
          refine J_if_le E 40 d_M_times_35 (by decide) (by have := hrb.1 ((26 * (1 - mv)) + k); exact ⟨by omega, by omega⟩) (fun h35 => ?_) (fun h35 => ?_)
          · refine J_iinc E 0 [(3, .int (z_i (k + 1))), (2, .int (z_i (26 * (1 - mv)))), (0, .ref mo), (1, .int (z_i mv))] d_M_times_40 rfl (by decide) rfl ?_
            refine J_goto E 21 d_M_times_43 (by decide) ?_
            exact ih21 (k + 1) (by omega) (fun x x1 x2 => by rcases (show x = k ∨ x < k by omega) with e | e; (rw [e, ← ex k (by omega) (by omega)]; exact h35); exact hr x x1 e) (by omega)
          · refine J_iconst E d_M_times_38 ?_
            exact J_ireturn E F (tc_19 (by rw [← e0]; exact h13) ⟨hk.1, by omega⟩ (by rw [← ex k (by omega) (by omega)]; exact h35)).symm rfl d_M_times_39
    exact C21 _ 19 (by decide) (fun x x1 x2 => by omega) (Nat.lt_succ_self _)
  · refine J_iconst E d_M_times_16 ?_
    exact J_ireturn E F (tc_0 (by rw [← e0]; exact h13)).symm rfl d_M_times_17
