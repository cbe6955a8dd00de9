set_option maxHeartbeats 4000000 in
set_option maxRecDepth 100000 in
theorem c_M_isPlace (L : Lx) (d : Int) (hd : z_r d) : CtG L y_M_isPlace b_M_isPlace 1 (some .boolean) (rmh 1) false 0 0 [.int (z_i d)] [] (fun u => u = []) (some (.int (z_i (b2 (0 ≤ d ∧ d ≤ 4))))) := by
  refine CtG.of rfl (Nat.le_of_ble_eq_true rfl) (fun X E F => ?_)
  show J L X 1 0 0 [] [(0, .int (z_i d))] [] 0
  refine J_iload_n E 0 d_M_isPlace_0 rfl rfl ?_
  refine J_if_lt E 13 d_M_isPlace_1 (by decide) (by exact ⟨by omega, by omega⟩) (fun h1 => ?_) (fun h1 => ?_)
  · refine J_iconst E d_M_isPlace_13 ?_
    exact J_zreturn E F (by omega) (b2_f (by omega)).symm rfl d_M_isPlace_14
  · refine J_iload_n E 0 d_M_isPlace_4 rfl rfl ?_
    refine J_iconst E d_M_isPlace_5 ?_
    refine J_icmp_gt E 13 d_M_isPlace_6 (by decide) (by exact ⟨⟨by omega, by omega⟩, ⟨by omega, by omega⟩⟩) (fun h6 => ?_) (fun h6 => ?_)
    · refine J_iconst E d_M_isPlace_13 ?_
      exact J_zreturn E F (by omega) (b2_f (by omega)).symm rfl d_M_isPlace_14
    · refine J_iconst E d_M_isPlace_9 ?_
      refine J_goto E 14 d_M_isPlace_10 (by decide) ?_
      exact J_zreturn E F (by omega) (b2_t (by omega)).symm rfl d_M_isPlace_14
set_option maxHeartbeats 4000000 in
set_option maxRecDepth 100000 in
theorem c_M_chance (L : Lx) (mo ms mb mt mf mc : Nat) (len stg mv stk hol cn cs hi lo hs ls du kw : Int) (sco bb tr fr chn : Int → Int) (b0 b1 : Int → Int) (a b c d : Int) (hS : st_ok (len, stg, mv, stk, hol, cn, cs, sco, b0, b1, hi, lo, hs, ls)) (hrb : rb_ok bb b0 b1) (hg : gb tr) (hdu : stg = 2 → du = m_due (bp b0 b1 mv) (bp b0 b1 (1 - mv)) hi lo hs ls) (hkw : kw = 0 ∨ (kw = 1 ∧ ch_ok chn)) (ha : z_r a) (hb : z_r b) (hc : z_r c) (hd : z_r d) : CtG L y_M_chance b_M_chance 9 (some .long) (rmh 6) false 0 0 [.ref mo, .int (z_i a), .int (z_i b), .int (z_i c), .int (z_i d)] [(mo, .inr (4, [.int (z_i len), .ref ms, .int (z_i stg), .int (z_i mv), .ref mb, .int (z_i stk), .int (z_i hol), .int (z_i cn), .int (z_i cs), .int (z_i hi), .int (z_i lo), .int (z_i hs), .int (z_i ls), .int (z_i du), .ref mt, .ref mf, .ref mc, .int (z_i kw)])), (ms, aI L 2 sco), (mb, aI L 52 bb), (mt, aI L 312 tr), (mf, aI L 6 fr), (mc, aL L 625 chn)] (RR L mo ms mb mt mf mc (len, stg, mv, stk, hol, cn, cs, sco, b0, b1, hi, lo, hs, ls)) (some (.long (z_l (m_chance a b c d)))) := by
  obtain ⟨hlen, hstg, hmv, hstk, hhol, hcn, hcs, hsc, hsl, hb0, hb1, hdk⟩ := hS
  refine CtG.of rfl (Nat.le_of_ble_eq_true rfl) (fun X E F => ?_)
  show J L X 9 0 0 [(mo, .inr (4, [.int (z_i len), .ref ms, .int (z_i stg), .int (z_i mv), .ref mb, .int (z_i stk), .int (z_i hol), .int (z_i cn), .int (z_i cs), .int (z_i hi), .int (z_i lo), .int (z_i hs), .int (z_i ls), .int (z_i du), .ref mt, .ref mf, .ref mc, .int (z_i kw)])), (ms, aI L 2 sco), (mb, aI L 52 bb), (mt, aI L 312 tr), (mf, aI L 6 fr), (mc, aL L 625 chn)] [(0, .ref mo), (1, .int (z_i a)), (2, .int (z_i b)), (3, .int (z_i c)), (4, .int (z_i d))] [] 0
  refine J_iload_n E 1 d_M_chance_0 rfl rfl ?_
  refine J_callS (wr := [(mo, .inr (4, [.int (z_i len), .ref ms, .int (z_i stg), .int (z_i mv), .ref mb, .int (z_i stk), .int (z_i hol), .int (z_i cn), .int (z_i cs), .int (z_i hi), .int (z_i lo), .int (z_i hs), .int (z_i ls), .int (z_i du), .ref mt, .ref mf, .ref mc, .int (z_i kw)])), (ms, aI L 2 sco), (mb, aI L 52 bb), (mt, aI L 312 tr), (mf, aI L 6 fr), (mc, aL L 625 chn)]) (rest := []) E kb_M_isPlace t_3_33 t_3_34 (c_M_isPlace L a ha) (fun h => h) (Rm_h (by decide) (by decide)) [] [0, 1, 2, 3, 4, 5] rfl rfl rfl rfl (by decide) rfl rfl (Nat.le_of_ble_eq_true rfl) d_M_chance_1 (fun w' hw => ?_)
  obtain rfl : w' = [] := hw
  show J L X 9 0 0 [(mo, .inr (4, [.int (z_i len), .ref ms, .int (z_i stg), .int (z_i mv), .ref mb, .int (z_i stk), .int (z_i hol), .int (z_i cn), .int (z_i cs), .int (z_i hi), .int (z_i lo), .int (z_i hs), .int (z_i ls), .int (z_i du), .ref mt, .ref mf, .ref mc, .int (z_i kw)])), (ms, aI L 2 sco), (mb, aI L 52 bb), (mt, aI L 312 tr), (mf, aI L 6 fr), (mc, aL L 625 chn)] [(0, .ref mo), (1, .int (z_i a)), (2, .int (z_i b)), (3, .int (z_i c)), (4, .int (z_i d))] [.int (z_i (b2 (0 ≤ a ∧ a ≤ 4)))] 4
  refine J_if_eq E 29 d_M_chance_4 (by decide) (b2_r _) (fun h4 => ?_) (fun h4 => ?_)
  · have na := b2_not h4
    refine J_ldc2 (a := -1) E t_m1M d_M_chance_29 ?_
    exact J_lreturn E F (if_neg (by omega)).symm ⟨du, kw, bb, tr, fr, chn, hrb, hg, hdu, hkw, rfl⟩ d_M_chance_32
  · have na := b2_of h4
    refine J_iload_n E 2 d_M_chance_7 rfl rfl ?_
    refine J_callS (wr := [(mo, .inr (4, [.int (z_i len), .ref ms, .int (z_i stg), .int (z_i mv), .ref mb, .int (z_i stk), .int (z_i hol), .int (z_i cn), .int (z_i cs), .int (z_i hi), .int (z_i lo), .int (z_i hs), .int (z_i ls), .int (z_i du), .ref mt, .ref mf, .ref mc, .int (z_i kw)])), (ms, aI L 2 sco), (mb, aI L 52 bb), (mt, aI L 312 tr), (mf, aI L 6 fr), (mc, aL L 625 chn)]) (rest := []) E kb_M_isPlace t_3_33 t_3_34 (c_M_isPlace L b hb) (fun h => h) (Rm_h (by decide) (by decide)) [] [0, 1, 2, 3, 4, 5] rfl rfl rfl rfl (by decide) rfl rfl (Nat.le_of_ble_eq_true rfl) d_M_chance_8 (fun w' hw => ?_)
    obtain rfl : w' = [] := hw
    show J L X 9 0 0 [(mo, .inr (4, [.int (z_i len), .ref ms, .int (z_i stg), .int (z_i mv), .ref mb, .int (z_i stk), .int (z_i hol), .int (z_i cn), .int (z_i cs), .int (z_i hi), .int (z_i lo), .int (z_i hs), .int (z_i ls), .int (z_i du), .ref mt, .ref mf, .ref mc, .int (z_i kw)])), (ms, aI L 2 sco), (mb, aI L 52 bb), (mt, aI L 312 tr), (mf, aI L 6 fr), (mc, aL L 625 chn)] [(0, .ref mo), (1, .int (z_i a)), (2, .int (z_i b)), (3, .int (z_i c)), (4, .int (z_i d))] [.int (z_i (b2 (0 ≤ b ∧ b ≤ 4)))] 11
    refine J_if_eq E 29 d_M_chance_11 (by decide) (b2_r _) (fun h11 => ?_) (fun h11 => ?_)
    · have nb := b2_not h11
      refine J_ldc2 (a := -1) E t_m1M d_M_chance_29 ?_
      exact J_lreturn E F (if_neg (by omega)).symm ⟨du, kw, bb, tr, fr, chn, hrb, hg, hdu, hkw, rfl⟩ d_M_chance_32
    · have nb := b2_of h11
      refine J_iload_n E 3 d_M_chance_14 rfl rfl ?_
      refine J_callS (wr := [(mo, .inr (4, [.int (z_i len), .ref ms, .int (z_i stg), .int (z_i mv), .ref mb, .int (z_i stk), .int (z_i hol), .int (z_i cn), .int (z_i cs), .int (z_i hi), .int (z_i lo), .int (z_i hs), .int (z_i ls), .int (z_i du), .ref mt, .ref mf, .ref mc, .int (z_i kw)])), (ms, aI L 2 sco), (mb, aI L 52 bb), (mt, aI L 312 tr), (mf, aI L 6 fr), (mc, aL L 625 chn)]) (rest := []) E kb_M_isPlace t_3_33 t_3_34 (c_M_isPlace L c hc) (fun h => h) (Rm_h (by decide) (by decide)) [] [0, 1, 2, 3, 4, 5] rfl rfl rfl rfl (by decide) rfl rfl (Nat.le_of_ble_eq_true rfl) d_M_chance_15 (fun w' hw => ?_)
      obtain rfl : w' = [] := hw
      show J L X 9 0 0 [(mo, .inr (4, [.int (z_i len), .ref ms, .int (z_i stg), .int (z_i mv), .ref mb, .int (z_i stk), .int (z_i hol), .int (z_i cn), .int (z_i cs), .int (z_i hi), .int (z_i lo), .int (z_i hs), .int (z_i ls), .int (z_i du), .ref mt, .ref mf, .ref mc, .int (z_i kw)])), (ms, aI L 2 sco), (mb, aI L 52 bb), (mt, aI L 312 tr), (mf, aI L 6 fr), (mc, aL L 625 chn)] [(0, .ref mo), (1, .int (z_i a)), (2, .int (z_i b)), (3, .int (z_i c)), (4, .int (z_i d))] [.int (z_i (b2 (0 ≤ c ∧ c ≤ 4)))] 18
      refine J_if_eq E 29 d_M_chance_18 (by decide) (b2_r _) (fun h18 => ?_) (fun h18 => ?_)
      · have nc := b2_not h18
        refine J_ldc2 (a := -1) E t_m1M d_M_chance_29 ?_
        exact J_lreturn E F (if_neg (by omega)).symm ⟨du, kw, bb, tr, fr, chn, hrb, hg, hdu, hkw, rfl⟩ d_M_chance_32
      · have nc := b2_of h18
        refine J_iload E 4 d_M_chance_21 rfl ?_
        refine J_callS (wr := [(mo, .inr (4, [.int (z_i len), .ref ms, .int (z_i stg), .int (z_i mv), .ref mb, .int (z_i stk), .int (z_i hol), .int (z_i cn), .int (z_i cs), .int (z_i hi), .int (z_i lo), .int (z_i hs), .int (z_i ls), .int (z_i du), .ref mt, .ref mf, .ref mc, .int (z_i kw)])), (ms, aI L 2 sco), (mb, aI L 52 bb), (mt, aI L 312 tr), (mf, aI L 6 fr), (mc, aL L 625 chn)]) (rest := []) E kb_M_isPlace t_3_33 t_3_34 (c_M_isPlace L d hd) (fun h => h) (Rm_h (by decide) (by decide)) [] [0, 1, 2, 3, 4, 5] rfl rfl rfl rfl (by decide) rfl rfl (Nat.le_of_ble_eq_true rfl) d_M_chance_23 (fun w' hw => ?_)
        obtain rfl : w' = [] := hw
        show J L X 9 0 0 [(mo, .inr (4, [.int (z_i len), .ref ms, .int (z_i stg), .int (z_i mv), .ref mb, .int (z_i stk), .int (z_i hol), .int (z_i cn), .int (z_i cs), .int (z_i hi), .int (z_i lo), .int (z_i hs), .int (z_i ls), .int (z_i du), .ref mt, .ref mf, .ref mc, .int (z_i kw)])), (ms, aI L 2 sco), (mb, aI L 52 bb), (mt, aI L 312 tr), (mf, aI L 6 fr), (mc, aL L 625 chn)] [(0, .ref mo), (1, .int (z_i a)), (2, .int (z_i b)), (3, .int (z_i c)), (4, .int (z_i d))] [.int (z_i (b2 (0 ≤ d ∧ d ≤ 4)))] 26
        refine J_if_ne E 33 d_M_chance_26 (by decide) (b2_r _) (fun h26 => ?_) (fun h26 => ?_)
        · have nd := b2_of h26
          refine J_aload_n E 0 d_M_chance_33 rfl rfl ?_
          refine g_M_145 E 0 rfl rfl d_M_chance_34 ?_
          refine J_if_ne E 44 d_M_chance_37 (by decide) (by rcases hkw with e | e; exact ⟨by omega, by omega⟩; exact ⟨by omega, by omega⟩) (fun h37 => ?_) (fun h37 => ?_)
          · obtain ⟨hk1, hcq⟩ : kw = 1 ∧ ch_ok chn := by rcases hkw with e | e; exact absurd e h37; exact e
            rcases (show (a < b ∧ c < d) ∨ (a < b ∧ d ≤ c) ∨ (b ≤ a ∧ c < d) ∨ (b ≤ a ∧ d ≤ c) by omega) with hab | hab | hab | hab
            · refine J_iload_n E 1 d_M_chance_44 rfl rfl ?_
              refine J_iload_n E 2 d_M_chance_45 rfl rfl ?_
              refine J_icmp_ge E 53 d_M_chance_46 (by decide) (by exact ⟨⟨by omega, by omega⟩, ⟨by omega, by omega⟩⟩) (fun h46 => ?_) (fun h46 => ?_)
              · exact absurd h46 (by omega)
              · refine J_iload_n E 1 d_M_chance_49 rfl rfl ?_
                refine J_goto E 54 d_M_chance_50 (by decide) ?_
                refine J_istore E [(5, .int (z_i a)), (0, .ref mo), (1, .int (z_i a)), (2, .int (z_i b)), (3, .int (z_i c)), (4, .int (z_i d))] d_M_chance_54 (by decide) rfl ?_
                refine J_iload_n E 2 d_M_chance_56 rfl rfl ?_
                refine J_iload_n E 3 d_M_chance_57 rfl rfl ?_
                refine J_icmp_ge E 65 d_M_chance_58 (by decide) (by exact ⟨⟨by omega, by omega⟩, ⟨by omega, by omega⟩⟩) (fun h58 => ?_) (fun h58 => ?_)
                · exact absurd h58 (by omega)
                · refine J_iload_n E 3 d_M_chance_61 rfl rfl ?_
                  refine J_goto E 66 d_M_chance_62 (by decide) ?_
                  refine J_istore E [(6, .int (z_i b)), (5, .int (z_i a)), (0, .ref mo), (1, .int (z_i a)), (2, .int (z_i b)), (3, .int (z_i c)), (4, .int (z_i d))] d_M_chance_66 (by decide) rfl ?_
                  refine J_iload_n E 5 d_M_chance_68 rfl rfl ?_
                  refine J_iload E 6 d_M_chance_69 rfl ?_
                  refine J_icmp_ge E 78 d_M_chance_71 (by decide) (by exact ⟨⟨by omega, by omega⟩, ⟨by omega, by omega⟩⟩) (fun h71 => ?_) (fun h71 => ?_)
                  · exact absurd h71 (by omega)
                  · refine J_iload_n E 5 d_M_chance_74 rfl rfl ?_
                    refine J_goto E 80 d_M_chance_75 (by decide) ?_
                    refine J_istore E [(7, .int (z_i c)), (6, .int (z_i b)), (5, .int (z_i a)), (0, .ref mo), (1, .int (z_i a)), (2, .int (z_i b)), (3, .int (z_i c)), (4, .int (z_i d))] d_M_chance_80 (by decide) rfl ?_
                    refine J_iload_n E 6 d_M_chance_82 rfl rfl ?_
                    refine J_iload E 7 d_M_chance_83 rfl ?_
                    refine J_icmp_ge E 93 d_M_chance_85 (by decide) (by exact ⟨⟨by omega, by omega⟩, ⟨by omega, by omega⟩⟩) (fun h85 => ?_) (fun h85 => ?_)
                    · exact absurd h85 (by omega)
                    · refine J_iload E 7 d_M_chance_88 rfl ?_
                      refine J_goto E 94 d_M_chance_90 (by decide) ?_
                      refine J_istore E [(8, .int (z_i d)), (7, .int (z_i c)), (6, .int (z_i b)), (5, .int (z_i a)), (0, .ref mo), (1, .int (z_i a)), (2, .int (z_i b)), (3, .int (z_i c)), (4, .int (z_i d))] d_M_chance_94 (by decide) rfl ?_
                      refine J_aload_n E 4 d_M_chance_96 rfl rfl ?_
                      refine g_M_29 E 0 rfl rfl d_M_chance_97 ?_
                      refine J_bipush E d_M_chance_100 (by decide) ?_
                      refine J_iload E 3 d_M_chance_102 rfl ?_
                      refine J_imul E d_M_chance_104 ?_
                      refine J_bipush E d_M_chance_105 (by decide) ?_
                      refine J_iload E 2 d_M_chance_107 rfl ?_
                      refine J_imul E d_M_chance_109 ?_
                      refine J_iadd E d_M_chance_110 ?_
                      refine J_iconst E d_M_chance_111 ?_
                      refine J_iload E 1 d_M_chance_112 rfl ?_
                      refine J_imul E d_M_chance_114 ?_
                      refine J_iadd E d_M_chance_115 ?_
                      refine J_iload E 0 d_M_chance_116 rfl ?_
                      refine J_iadd E d_M_chance_118 ?_
                      refine J_lald E 5 rfl (by decide) (by exact ⟨by omega, by omega⟩) d_M_chance_119 ?_
                      exact J_lreturn E F (by rw [show m_chance a b c d = qC a b c d from if_pos ⟨na, nb, nc, nd⟩, show (((125 * a) + (25 * b)) + (5 * c)) + d = ((125 * a.toNat + 25 * b.toNat + 5 * c.toNat + d.toNat : Nat) : Int) by omega, hcq a.toNat b.toNat c.toNat d.toNat (by omega) (by omega) (by omega) (by omega)]) ⟨du, kw, bb, tr, fr, chn, hrb, hg, hdu, hkw, rfl⟩ d_M_chance_120
            · refine J_iload_n E 1 d_M_chance_44 rfl rfl ?_
              refine J_iload_n E 2 d_M_chance_45 rfl rfl ?_
              refine J_icmp_ge E 53 d_M_chance_46 (by decide) (by exact ⟨⟨by omega, by omega⟩, ⟨by omega, by omega⟩⟩) (fun h46 => ?_) (fun h46 => ?_)
              · exact absurd h46 (by omega)
              · refine J_iload_n E 1 d_M_chance_49 rfl rfl ?_
                refine J_goto E 54 d_M_chance_50 (by decide) ?_
                refine J_istore E [(5, .int (z_i a)), (0, .ref mo), (1, .int (z_i a)), (2, .int (z_i b)), (3, .int (z_i c)), (4, .int (z_i d))] d_M_chance_54 (by decide) rfl ?_
                refine J_iload_n E 2 d_M_chance_56 rfl rfl ?_
                refine J_iload_n E 3 d_M_chance_57 rfl rfl ?_
                refine J_icmp_ge E 65 d_M_chance_58 (by decide) (by exact ⟨⟨by omega, by omega⟩, ⟨by omega, by omega⟩⟩) (fun h58 => ?_) (fun h58 => ?_)
                · exact absurd h58 (by omega)
                · refine J_iload_n E 3 d_M_chance_61 rfl rfl ?_
                  refine J_goto E 66 d_M_chance_62 (by decide) ?_
                  refine J_istore E [(6, .int (z_i b)), (5, .int (z_i a)), (0, .ref mo), (1, .int (z_i a)), (2, .int (z_i b)), (3, .int (z_i c)), (4, .int (z_i d))] d_M_chance_66 (by decide) rfl ?_
                  refine J_iload_n E 5 d_M_chance_68 rfl rfl ?_
                  refine J_iload E 6 d_M_chance_69 rfl ?_
                  refine J_icmp_ge E 78 d_M_chance_71 (by decide) (by exact ⟨⟨by omega, by omega⟩, ⟨by omega, by omega⟩⟩) (fun h71 => ?_) (fun h71 => ?_)
                  · refine J_iload E 6 d_M_chance_78 rfl ?_
                    refine J_istore E [(7, .int (z_i d)), (6, .int (z_i b)), (5, .int (z_i a)), (0, .ref mo), (1, .int (z_i a)), (2, .int (z_i b)), (3, .int (z_i c)), (4, .int (z_i d))] d_M_chance_80 (by decide) rfl ?_
                    refine J_iload_n E 6 d_M_chance_82 rfl rfl ?_
                    refine J_iload E 7 d_M_chance_83 rfl ?_
                    refine J_icmp_ge E 93 d_M_chance_85 (by decide) (by exact ⟨⟨by omega, by omega⟩, ⟨by omega, by omega⟩⟩) (fun h85 => ?_) (fun h85 => ?_)
                    · refine J_iload_n E 6 d_M_chance_93 rfl rfl ?_
                      refine J_istore E [(8, .int (z_i c)), (7, .int (z_i d)), (6, .int (z_i b)), (5, .int (z_i a)), (0, .ref mo), (1, .int (z_i a)), (2, .int (z_i b)), (3, .int (z_i c)), (4, .int (z_i d))] d_M_chance_94 (by decide) rfl ?_
                      refine J_aload_n E 4 d_M_chance_96 rfl rfl ?_
                      refine g_M_29 E 0 rfl rfl d_M_chance_97 ?_
                      refine J_bipush E d_M_chance_100 (by decide) ?_
                      refine J_iload E 3 d_M_chance_102 rfl ?_
                      refine J_imul E d_M_chance_104 ?_
                      refine J_bipush E d_M_chance_105 (by decide) ?_
                      refine J_iload E 2 d_M_chance_107 rfl ?_
                      refine J_imul E d_M_chance_109 ?_
                      refine J_iadd E d_M_chance_110 ?_
                      refine J_iconst E d_M_chance_111 ?_
                      refine J_iload E 1 d_M_chance_112 rfl ?_
                      refine J_imul E d_M_chance_114 ?_
                      refine J_iadd E d_M_chance_115 ?_
                      refine J_iload E 0 d_M_chance_116 rfl ?_
                      refine J_iadd E d_M_chance_118 ?_
                      refine J_lald E 5 rfl (by decide) (by exact ⟨by omega, by omega⟩) d_M_chance_119 ?_
                      exact J_lreturn E F (by rw [show m_chance a b c d = qC a b c d from if_pos ⟨na, nb, nc, nd⟩, show (((125 * a) + (25 * b)) + (5 * d)) + c = ((125 * a.toNat + 25 * b.toNat + 5 * d.toNat + c.toNat : Nat) : Int) by omega, hcq a.toNat b.toNat d.toNat c.toNat (by omega) (by omega) (by omega) (by omega), (q_ch_comm _ _ d.toNat c.toNat).2]) ⟨du, kw, bb, tr, fr, chn, hrb, hg, hdu, hkw, rfl⟩ d_M_chance_120
                    · exact absurd h85 (by omega)
                  · exact absurd h71 (by omega)
            · refine J_iload_n E 1 d_M_chance_44 rfl rfl ?_
              refine J_iload_n E 2 d_M_chance_45 rfl rfl ?_
              refine J_icmp_ge E 53 d_M_chance_46 (by decide) (by exact ⟨⟨by omega, by omega⟩, ⟨by omega, by omega⟩⟩) (fun h46 => ?_) (fun h46 => ?_)
              · refine J_iload_n E 2 d_M_chance_53 rfl rfl ?_
                refine J_istore E [(5, .int (z_i b)), (0, .ref mo), (1, .int (z_i a)), (2, .int (z_i b)), (3, .int (z_i c)), (4, .int (z_i d))] d_M_chance_54 (by decide) rfl ?_
                refine J_iload_n E 2 d_M_chance_56 rfl rfl ?_
                refine J_iload_n E 3 d_M_chance_57 rfl rfl ?_
                refine J_icmp_ge E 65 d_M_chance_58 (by decide) (by exact ⟨⟨by omega, by omega⟩, ⟨by omega, by omega⟩⟩) (fun h58 => ?_) (fun h58 => ?_)
                · refine J_iload_n E 2 d_M_chance_65 rfl rfl ?_
                  refine J_istore E [(6, .int (z_i a)), (5, .int (z_i b)), (0, .ref mo), (1, .int (z_i a)), (2, .int (z_i b)), (3, .int (z_i c)), (4, .int (z_i d))] d_M_chance_66 (by decide) rfl ?_
                  refine J_iload_n E 5 d_M_chance_68 rfl rfl ?_
                  refine J_iload E 6 d_M_chance_69 rfl ?_
                  refine J_icmp_ge E 78 d_M_chance_71 (by decide) (by exact ⟨⟨by omega, by omega⟩, ⟨by omega, by omega⟩⟩) (fun h71 => ?_) (fun h71 => ?_)
                  · exact absurd h71 (by omega)
                  · refine J_iload_n E 5 d_M_chance_74 rfl rfl ?_
                    refine J_goto E 80 d_M_chance_75 (by decide) ?_
                    refine J_istore E [(7, .int (z_i c)), (6, .int (z_i a)), (5, .int (z_i b)), (0, .ref mo), (1, .int (z_i a)), (2, .int (z_i b)), (3, .int (z_i c)), (4, .int (z_i d))] d_M_chance_80 (by decide) rfl ?_
                    refine J_iload_n E 6 d_M_chance_82 rfl rfl ?_
                    refine J_iload E 7 d_M_chance_83 rfl ?_
                    refine J_icmp_ge E 93 d_M_chance_85 (by decide) (by exact ⟨⟨by omega, by omega⟩, ⟨by omega, by omega⟩⟩) (fun h85 => ?_) (fun h85 => ?_)
                    · exact absurd h85 (by omega)
                    · refine J_iload E 7 d_M_chance_88 rfl ?_
                      refine J_goto E 94 d_M_chance_90 (by decide) ?_
                      refine J_istore E [(8, .int (z_i d)), (7, .int (z_i c)), (6, .int (z_i a)), (5, .int (z_i b)), (0, .ref mo), (1, .int (z_i a)), (2, .int (z_i b)), (3, .int (z_i c)), (4, .int (z_i d))] d_M_chance_94 (by decide) rfl ?_
                      refine J_aload_n E 4 d_M_chance_96 rfl rfl ?_
                      refine g_M_29 E 0 rfl rfl d_M_chance_97 ?_
                      refine J_bipush E d_M_chance_100 (by decide) ?_
                      refine J_iload E 3 d_M_chance_102 rfl ?_
                      refine J_imul E d_M_chance_104 ?_
                      refine J_bipush E d_M_chance_105 (by decide) ?_
                      refine J_iload E 2 d_M_chance_107 rfl ?_
                      refine J_imul E d_M_chance_109 ?_
                      refine J_iadd E d_M_chance_110 ?_
                      refine J_iconst E d_M_chance_111 ?_
                      refine J_iload E 1 d_M_chance_112 rfl ?_
                      refine J_imul E d_M_chance_114 ?_
                      refine J_iadd E d_M_chance_115 ?_
                      refine J_iload E 0 d_M_chance_116 rfl ?_
                      refine J_iadd E d_M_chance_118 ?_
                      refine J_lald E 5 rfl (by decide) (by exact ⟨by omega, by omega⟩) d_M_chance_119 ?_
                      exact J_lreturn E F (by rw [show m_chance a b c d = qC a b c d from if_pos ⟨na, nb, nc, nd⟩, show (((125 * b) + (25 * a)) + (5 * c)) + d = ((125 * b.toNat + 25 * a.toNat + 5 * c.toNat + d.toNat : Nat) : Int) by omega, hcq b.toNat a.toNat c.toNat d.toNat (by omega) (by omega) (by omega) (by omega), (q_ch_comm b.toNat a.toNat _ _).1]) ⟨du, kw, bb, tr, fr, chn, hrb, hg, hdu, hkw, rfl⟩ d_M_chance_120
                · exact absurd h58 (by omega)
              · exact absurd h46 (by omega)
            · refine J_iload_n E 1 d_M_chance_44 rfl rfl ?_
              refine J_iload_n E 2 d_M_chance_45 rfl rfl ?_
              refine J_icmp_ge E 53 d_M_chance_46 (by decide) (by exact ⟨⟨by omega, by omega⟩, ⟨by omega, by omega⟩⟩) (fun h46 => ?_) (fun h46 => ?_)
              · refine J_iload_n E 2 d_M_chance_53 rfl rfl ?_
                refine J_istore E [(5, .int (z_i b)), (0, .ref mo), (1, .int (z_i a)), (2, .int (z_i b)), (3, .int (z_i c)), (4, .int (z_i d))] d_M_chance_54 (by decide) rfl ?_
                refine J_iload_n E 2 d_M_chance_56 rfl rfl ?_
                refine J_iload_n E 3 d_M_chance_57 rfl rfl ?_
                refine J_icmp_ge E 65 d_M_chance_58 (by decide) (by exact ⟨⟨by omega, by omega⟩, ⟨by omega, by omega⟩⟩) (fun h58 => ?_) (fun h58 => ?_)
                · refine J_iload_n E 2 d_M_chance_65 rfl rfl ?_
                  refine J_istore E [(6, .int (z_i a)), (5, .int (z_i b)), (0, .ref mo), (1, .int (z_i a)), (2, .int (z_i b)), (3, .int (z_i c)), (4, .int (z_i d))] d_M_chance_66 (by decide) rfl ?_
                  refine J_iload_n E 5 d_M_chance_68 rfl rfl ?_
                  refine J_iload E 6 d_M_chance_69 rfl ?_
                  refine J_icmp_ge E 78 d_M_chance_71 (by decide) (by exact ⟨⟨by omega, by omega⟩, ⟨by omega, by omega⟩⟩) (fun h71 => ?_) (fun h71 => ?_)
                  · refine J_iload E 6 d_M_chance_78 rfl ?_
                    refine J_istore E [(7, .int (z_i d)), (6, .int (z_i a)), (5, .int (z_i b)), (0, .ref mo), (1, .int (z_i a)), (2, .int (z_i b)), (3, .int (z_i c)), (4, .int (z_i d))] d_M_chance_80 (by decide) rfl ?_
                    refine J_iload_n E 6 d_M_chance_82 rfl rfl ?_
                    refine J_iload E 7 d_M_chance_83 rfl ?_
                    refine J_icmp_ge E 93 d_M_chance_85 (by decide) (by exact ⟨⟨by omega, by omega⟩, ⟨by omega, by omega⟩⟩) (fun h85 => ?_) (fun h85 => ?_)
                    · refine J_iload_n E 6 d_M_chance_93 rfl rfl ?_
                      refine J_istore E [(8, .int (z_i c)), (7, .int (z_i d)), (6, .int (z_i a)), (5, .int (z_i b)), (0, .ref mo), (1, .int (z_i a)), (2, .int (z_i b)), (3, .int (z_i c)), (4, .int (z_i d))] d_M_chance_94 (by decide) rfl ?_
                      refine J_aload_n E 4 d_M_chance_96 rfl rfl ?_
                      refine g_M_29 E 0 rfl rfl d_M_chance_97 ?_
                      refine J_bipush E d_M_chance_100 (by decide) ?_
                      refine J_iload E 3 d_M_chance_102 rfl ?_
                      refine J_imul E d_M_chance_104 ?_
                      refine J_bipush E d_M_chance_105 (by decide) ?_
                      refine J_iload E 2 d_M_chance_107 rfl ?_
                      refine J_imul E d_M_chance_109 ?_
                      refine J_iadd E d_M_chance_110 ?_
                      refine J_iconst E d_M_chance_111 ?_
                      refine J_iload E 1 d_M_chance_112 rfl ?_
                      refine J_imul E d_M_chance_114 ?_
                      refine J_iadd E d_M_chance_115 ?_
                      refine J_iload E 0 d_M_chance_116 rfl ?_
                      refine J_iadd E d_M_chance_118 ?_
                      refine J_lald E 5 rfl (by decide) (by exact ⟨by omega, by omega⟩) d_M_chance_119 ?_
                      exact J_lreturn E F (by rw [show m_chance a b c d = qC a b c d from if_pos ⟨na, nb, nc, nd⟩, show (((125 * b) + (25 * a)) + (5 * d)) + c = ((125 * b.toNat + 25 * a.toNat + 5 * d.toNat + c.toNat : Nat) : Int) by omega, hcq b.toNat a.toNat d.toNat c.toNat (by omega) (by omega) (by omega) (by omega), (q_ch_comm b.toNat a.toNat _ _).1, (q_ch_comm _ _ d.toNat c.toNat).2]) ⟨du, kw, bb, tr, fr, chn, hrb, hg, hdu, hkw, rfl⟩ d_M_chance_120
                    · exact absurd h85 (by omega)
                  · exact absurd h71 (by omega)
                · exact absurd h58 (by omega)
              · exact absurd h46 (by omega)
          · refine J_aload_n E 0 d_M_chance_40 rfl rfl ?_
            refine J_callV (wr := []) (rest := []) E kb_M_workAll t_3_37 t_3_39 ts_M_workAll (c_M_workAll L mo ms mb mt mf mc len stg mv stk hol cn cs hi lo hs ls du kw sco bb tr fr chn) (fun h => h) (Rm_h (by decide) (by decide)) [0, 1, 2, 3, 4, 5] [] rfl rfl rfl rfl (by decide) 0 rfl rfl rfl rfl (Nat.le_of_ble_eq_true rfl) d_M_chance_41 (fun w' hw => ?_)
            obtain ⟨cq, hcq, hw⟩ := hw
            obtain rfl : w' = [(mo, .inr (4, [.int (z_i len), .ref ms, .int (z_i stg), .int (z_i mv), .ref mb, .int (z_i stk), .int (z_i hol), .int (z_i cn), .int (z_i cs), .int (z_i hi), .int (z_i lo), .int (z_i hs), .int (z_i ls), .int (z_i du), .ref mt, .ref mf, .ref mc, .int (z_i 1)])), (ms, aI L 2 sco), (mb, aI L 52 bb), (mt, aI L 312 tr), (mf, aI L 6 fr), (mc, aL L 625 cq)] := hw
            show J L X 9 0 0 [(mo, .inr (4, [.int (z_i len), .ref ms, .int (z_i stg), .int (z_i mv), .ref mb, .int (z_i stk), .int (z_i hol), .int (z_i cn), .int (z_i cs), .int (z_i hi), .int (z_i lo), .int (z_i hs), .int (z_i ls), .int (z_i du), .ref mt, .ref mf, .ref mc, .int (z_i 1)])), (ms, aI L 2 sco), (mb, aI L 52 bb), (mt, aI L 312 tr), (mf, aI L 6 fr), (mc, aL L 625 cq)] [(0, .ref mo), (1, .int (z_i a)), (2, .int (z_i b)), (3, .int (z_i c)), (4, .int (z_i d))] [] 44
            rcases (show (a < b ∧ c < d) ∨ (a < b ∧ d ≤ c) ∨ (b ≤ a ∧ c < d) ∨ (b ≤ a ∧ d ≤ c) by omega) with hab | hab | hab | hab
            · refine J_iload_n E 1 d_M_chance_44 rfl rfl ?_
              refine J_iload_n E 2 d_M_chance_45 rfl rfl ?_
              refine J_icmp_ge E 53 d_M_chance_46 (by decide) (by exact ⟨⟨by omega, by omega⟩, ⟨by omega, by omega⟩⟩) (fun h46 => ?_) (fun h46 => ?_)
              · exact absurd h46 (by omega)
              · refine J_iload_n E 1 d_M_chance_49 rfl rfl ?_
                refine J_goto E 54 d_M_chance_50 (by decide) ?_
                refine J_istore E [(5, .int (z_i a)), (0, .ref mo), (1, .int (z_i a)), (2, .int (z_i b)), (3, .int (z_i c)), (4, .int (z_i d))] d_M_chance_54 (by decide) rfl ?_
                refine J_iload_n E 2 d_M_chance_56 rfl rfl ?_
                refine J_iload_n E 3 d_M_chance_57 rfl rfl ?_
                refine J_icmp_ge E 65 d_M_chance_58 (by decide) (by exact ⟨⟨by omega, by omega⟩, ⟨by omega, by omega⟩⟩) (fun h58 => ?_) (fun h58 => ?_)
                · exact absurd h58 (by omega)
                · refine J_iload_n E 3 d_M_chance_61 rfl rfl ?_
                  refine J_goto E 66 d_M_chance_62 (by decide) ?_
                  refine J_istore E [(6, .int (z_i b)), (5, .int (z_i a)), (0, .ref mo), (1, .int (z_i a)), (2, .int (z_i b)), (3, .int (z_i c)), (4, .int (z_i d))] d_M_chance_66 (by decide) rfl ?_
                  refine J_iload_n E 5 d_M_chance_68 rfl rfl ?_
                  refine J_iload E 6 d_M_chance_69 rfl ?_
                  refine J_icmp_ge E 78 d_M_chance_71 (by decide) (by exact ⟨⟨by omega, by omega⟩, ⟨by omega, by omega⟩⟩) (fun h71 => ?_) (fun h71 => ?_)
                  · exact absurd h71 (by omega)
                  · refine J_iload_n E 5 d_M_chance_74 rfl rfl ?_
                    refine J_goto E 80 d_M_chance_75 (by decide) ?_
                    refine J_istore E [(7, .int (z_i c)), (6, .int (z_i b)), (5, .int (z_i a)), (0, .ref mo), (1, .int (z_i a)), (2, .int (z_i b)), (3, .int (z_i c)), (4, .int (z_i d))] d_M_chance_80 (by decide) rfl ?_
                    refine J_iload_n E 6 d_M_chance_82 rfl rfl ?_
                    refine J_iload E 7 d_M_chance_83 rfl ?_
                    refine J_icmp_ge E 93 d_M_chance_85 (by decide) (by exact ⟨⟨by omega, by omega⟩, ⟨by omega, by omega⟩⟩) (fun h85 => ?_) (fun h85 => ?_)
                    · exact absurd h85 (by omega)
                    · refine J_iload E 7 d_M_chance_88 rfl ?_
                      refine J_goto E 94 d_M_chance_90 (by decide) ?_
                      refine J_istore E [(8, .int (z_i d)), (7, .int (z_i c)), (6, .int (z_i b)), (5, .int (z_i a)), (0, .ref mo), (1, .int (z_i a)), (2, .int (z_i b)), (3, .int (z_i c)), (4, .int (z_i d))] d_M_chance_94 (by decide) rfl ?_
                      refine J_aload_n E 4 d_M_chance_96 rfl rfl ?_
                      refine g_M_29 E 0 rfl rfl d_M_chance_97 ?_
                      refine J_bipush E d_M_chance_100 (by decide) ?_
                      refine J_iload E 3 d_M_chance_102 rfl ?_
                      refine J_imul E d_M_chance_104 ?_
                      refine J_bipush E d_M_chance_105 (by decide) ?_
                      refine J_iload E 2 d_M_chance_107 rfl ?_
                      refine J_imul E d_M_chance_109 ?_
                      refine J_iadd E d_M_chance_110 ?_
                      refine J_iconst E d_M_chance_111 ?_
                      refine J_iload E 1 d_M_chance_112 rfl ?_
                      refine J_imul E d_M_chance_114 ?_
                      refine J_iadd E d_M_chance_115 ?_
                      refine J_iload E 0 d_M_chance_116 rfl ?_
                      refine J_iadd E d_M_chance_118 ?_
                      refine J_lald E 5 rfl (by decide) (by exact ⟨by omega, by omega⟩) d_M_chance_119 ?_
                      exact J_lreturn E F (by rw [show m_chance a b c d = qC a b c d from if_pos ⟨na, nb, nc, nd⟩, show (((125 * a) + (25 * b)) + (5 * c)) + d = ((125 * a.toNat + 25 * b.toNat + 5 * c.toNat + d.toNat : Nat) : Int) by omega, hcq a.toNat b.toNat c.toNat d.toNat (by omega) (by omega) (by omega) (by omega)]) ⟨du, 1, bb, tr, fr, cq, hrb, hg, hdu, Or.inr ⟨rfl, hcq⟩, rfl⟩ d_M_chance_120
            · refine J_iload_n E 1 d_M_chance_44 rfl rfl ?_
              refine J_iload_n E 2 d_M_chance_45 rfl rfl ?_
              refine J_icmp_ge E 53 d_M_chance_46 (by decide) (by exact ⟨⟨by omega, by omega⟩, ⟨by omega, by omega⟩⟩) (fun h46 => ?_) (fun h46 => ?_)
              · exact absurd h46 (by omega)
              · refine J_iload_n E 1 d_M_chance_49 rfl rfl ?_
                refine J_goto E 54 d_M_chance_50 (by decide) ?_
                refine J_istore E [(5, .int (z_i a)), (0, .ref mo), (1, .int (z_i a)), (2, .int (z_i b)), (3, .int (z_i c)), (4, .int (z_i d))] d_M_chance_54 (by decide) rfl ?_
                refine J_iload_n E 2 d_M_chance_56 rfl rfl ?_
                refine J_iload_n E 3 d_M_chance_57 rfl rfl ?_
                refine J_icmp_ge E 65 d_M_chance_58 (by decide) (by exact ⟨⟨by omega, by omega⟩, ⟨by omega, by omega⟩⟩) (fun h58 => ?_) (fun h58 => ?_)
                · exact absurd h58 (by omega)
                · refine J_iload_n E 3 d_M_chance_61 rfl rfl ?_
                  refine J_goto E 66 d_M_chance_62 (by decide) ?_
                  refine J_istore E [(6, .int (z_i b)), (5, .int (z_i a)), (0, .ref mo), (1, .int (z_i a)), (2, .int (z_i b)), (3, .int (z_i c)), (4, .int (z_i d))] d_M_chance_66 (by decide) rfl ?_
                  refine J_iload_n E 5 d_M_chance_68 rfl rfl ?_
                  refine J_iload E 6 d_M_chance_69 rfl ?_
                  refine J_icmp_ge E 78 d_M_chance_71 (by decide) (by exact ⟨⟨by omega, by omega⟩, ⟨by omega, by omega⟩⟩) (fun h71 => ?_) (fun h71 => ?_)
                  · refine J_iload E 6 d_M_chance_78 rfl ?_
                    refine J_istore E [(7, .int (z_i d)), (6, .int (z_i b)), (5, .int (z_i a)), (0, .ref mo), (1, .int (z_i a)), (2, .int (z_i b)), (3, .int (z_i c)), (4, .int (z_i d))] d_M_chance_80 (by decide) rfl ?_
                    refine J_iload_n E 6 d_M_chance_82 rfl rfl ?_
                    refine J_iload E 7 d_M_chance_83 rfl ?_
                    refine J_icmp_ge E 93 d_M_chance_85 (by decide) (by exact ⟨⟨by omega, by omega⟩, ⟨by omega, by omega⟩⟩) (fun h85 => ?_) (fun h85 => ?_)
                    · refine J_iload_n E 6 d_M_chance_93 rfl rfl ?_
                      refine J_istore E [(8, .int (z_i c)), (7, .int (z_i d)), (6, .int (z_i b)), (5, .int (z_i a)), (0, .ref mo), (1, .int (z_i a)), (2, .int (z_i b)), (3, .int (z_i c)), (4, .int (z_i d))] d_M_chance_94 (by decide) rfl ?_
                      refine J_aload_n E 4 d_M_chance_96 rfl rfl ?_
                      refine g_M_29 E 0 rfl rfl d_M_chance_97 ?_
                      refine J_bipush E d_M_chance_100 (by decide) ?_
                      refine J_iload E 3 d_M_chance_102 rfl ?_
                      refine J_imul E d_M_chance_104 ?_
                      refine J_bipush E d_M_chance_105 (by decide) ?_
                      refine J_iload E 2 d_M_chance_107 rfl ?_
                      refine J_imul E d_M_chance_109 ?_
                      refine J_iadd E d_M_chance_110 ?_
                      refine J_iconst E d_M_chance_111 ?_
                      refine J_iload E 1 d_M_chance_112 rfl ?_
                      refine J_imul E d_M_chance_114 ?_
                      refine J_iadd E d_M_chance_115 ?_
                      refine J_iload E 0 d_M_chance_116 rfl ?_
                      refine J_iadd E d_M_chance_118 ?_
                      refine J_lald E 5 rfl (by decide) (by exact ⟨by omega, by omega⟩) d_M_chance_119 ?_
                      exact J_lreturn E F (by rw [show m_chance a b c d = qC a b c d from if_pos ⟨na, nb, nc, nd⟩, show (((125 * a) + (25 * b)) + (5 * d)) + c = ((125 * a.toNat + 25 * b.toNat + 5 * d.toNat + c.toNat : Nat) : Int) by omega, hcq a.toNat b.toNat d.toNat c.toNat (by omega) (by omega) (by omega) (by omega), (q_ch_comm _ _ d.toNat c.toNat).2]) ⟨du, 1, bb, tr, fr, cq, hrb, hg, hdu, Or.inr ⟨rfl, hcq⟩, rfl⟩ d_M_chance_120
                    · exact absurd h85 (by omega)
                  · exact absurd h71 (by omega)
            · refine J_iload_n E 1 d_M_chance_44 rfl rfl ?_
              refine J_iload_n E 2 d_M_chance_45 rfl rfl ?_
              refine J_icmp_ge E 53 d_M_chance_46 (by decide) (by exact ⟨⟨by omega, by omega⟩, ⟨by omega, by omega⟩⟩) (fun h46 => ?_) (fun h46 => ?_)
              · refine J_iload_n E 2 d_M_chance_53 rfl rfl ?_
                refine J_istore E [(5, .int (z_i b)), (0, .ref mo), (1, .int (z_i a)), (2, .int (z_i b)), (3, .int (z_i c)), (4, .int (z_i d))] d_M_chance_54 (by decide) rfl ?_
                refine J_iload_n E 2 d_M_chance_56 rfl rfl ?_
                refine J_iload_n E 3 d_M_chance_57 rfl rfl ?_
                refine J_icmp_ge E 65 d_M_chance_58 (by decide) (by exact ⟨⟨by omega, by omega⟩, ⟨by omega, by omega⟩⟩) (fun h58 => ?_) (fun h58 => ?_)
                · refine J_iload_n E 2 d_M_chance_65 rfl rfl ?_
                  refine J_istore E [(6, .int (z_i a)), (5, .int (z_i b)), (0, .ref mo), (1, .int (z_i a)), (2, .int (z_i b)), (3, .int (z_i c)), (4, .int (z_i d))] d_M_chance_66 (by decide) rfl ?_
                  refine J_iload_n E 5 d_M_chance_68 rfl rfl ?_
                  refine J_iload E 6 d_M_chance_69 rfl ?_
                  refine J_icmp_ge E 78 d_M_chance_71 (by decide) (by exact ⟨⟨by omega, by omega⟩, ⟨by omega, by omega⟩⟩) (fun h71 => ?_) (fun h71 => ?_)
                  · exact absurd h71 (by omega)
                  · refine J_iload_n E 5 d_M_chance_74 rfl rfl ?_
                    refine J_goto E 80 d_M_chance_75 (by decide) ?_
                    refine J_istore E [(7, .int (z_i c)), (6, .int (z_i a)), (5, .int (z_i b)), (0, .ref mo), (1, .int (z_i a)), (2, .int (z_i b)), (3, .int (z_i c)), (4, .int (z_i d))] d_M_chance_80 (by decide) rfl ?_
                    refine J_iload_n E 6 d_M_chance_82 rfl rfl ?_
                    refine J_iload E 7 d_M_chance_83 rfl ?_
                    refine J_icmp_ge E 93 d_M_chance_85 (by decide) (by exact ⟨⟨by omega, by omega⟩, ⟨by omega, by omega⟩⟩) (fun h85 => ?_) (fun h85 => ?_)
                    · exact absurd h85 (by omega)
                    · refine J_iload E 7 d_M_chance_88 rfl ?_
                      refine J_goto E 94 d_M_chance_90 (by decide) ?_
                      refine J_istore E [(8, .int (z_i d)), (7, .int (z_i c)), (6, .int (z_i a)), (5, .int (z_i b)), (0, .ref mo), (1, .int (z_i a)), (2, .int (z_i b)), (3, .int (z_i c)), (4, .int (z_i d))] d_M_chance_94 (by decide) rfl ?_
                      refine J_aload_n E 4 d_M_chance_96 rfl rfl ?_
                      refine g_M_29 E 0 rfl rfl d_M_chance_97 ?_
                      refine J_bipush E d_M_chance_100 (by decide) ?_
                      refine J_iload E 3 d_M_chance_102 rfl ?_
                      refine J_imul E d_M_chance_104 ?_
                      refine J_bipush E d_M_chance_105 (by decide) ?_
                      refine J_iload E 2 d_M_chance_107 rfl ?_
                      refine J_imul E d_M_chance_109 ?_
                      refine J_iadd E d_M_chance_110 ?_
                      refine J_iconst E d_M_chance_111 ?_
                      refine J_iload E 1 d_M_chance_112 rfl ?_
                      refine J_imul E d_M_chance_114 ?_
                      refine J_iadd E d_M_chance_115 ?_
                      refine J_iload E 0 d_M_chance_116 rfl ?_
                      refine J_iadd E d_M_chance_118 ?_
                      refine J_lald E 5 rfl (by decide) (by exact ⟨by omega, by omega⟩) d_M_chance_119 ?_
                      exact J_lreturn E F (by rw [show m_chance a b c d = qC a b c d from if_pos ⟨na, nb, nc, nd⟩, show (((125 * b) + (25 * a)) + (5 * c)) + d = ((125 * b.toNat + 25 * a.toNat + 5 * c.toNat + d.toNat : Nat) : Int) by omega, hcq b.toNat a.toNat c.toNat d.toNat (by omega) (by omega) (by omega) (by omega), (q_ch_comm b.toNat a.toNat _ _).1]) ⟨du, 1, bb, tr, fr, cq, hrb, hg, hdu, Or.inr ⟨rfl, hcq⟩, rfl⟩ d_M_chance_120
                · exact absurd h58 (by omega)
              · exact absurd h46 (by omega)
            · refine J_iload_n E 1 d_M_chance_44 rfl rfl ?_
              refine J_iload_n E 2 d_M_chance_45 rfl rfl ?_
              refine J_icmp_ge E 53 d_M_chance_46 (by decide) (by exact ⟨⟨by omega, by omega⟩, ⟨by omega, by omega⟩⟩) (fun h46 => ?_) (fun h46 => ?_)
              · refine J_iload_n E 2 d_M_chance_53 rfl rfl ?_
                refine J_istore E [(5, .int (z_i b)), (0, .ref mo), (1, .int (z_i a)), (2, .int (z_i b)), (3, .int (z_i c)), (4, .int (z_i d))] d_M_chance_54 (by decide) rfl ?_
                refine J_iload_n E 2 d_M_chance_56 rfl rfl ?_
                refine J_iload_n E 3 d_M_chance_57 rfl rfl ?_
                refine J_icmp_ge E 65 d_M_chance_58 (by decide) (by exact ⟨⟨by omega, by omega⟩, ⟨by omega, by omega⟩⟩) (fun h58 => ?_) (fun h58 => ?_)
                · refine J_iload_n E 2 d_M_chance_65 rfl rfl ?_
                  refine J_istore E [(6, .int (z_i a)), (5, .int (z_i b)), (0, .ref mo), (1, .int (z_i a)), (2, .int (z_i b)), (3, .int (z_i c)), (4, .int (z_i d))] d_M_chance_66 (by decide) rfl ?_
                  refine J_iload_n E 5 d_M_chance_68 rfl rfl ?_
                  refine J_iload E 6 d_M_chance_69 rfl ?_
                  refine J_icmp_ge E 78 d_M_chance_71 (by decide) (by exact ⟨⟨by omega, by omega⟩, ⟨by omega, by omega⟩⟩) (fun h71 => ?_) (fun h71 => ?_)
                  · refine J_iload E 6 d_M_chance_78 rfl ?_
                    refine J_istore E [(7, .int (z_i d)), (6, .int (z_i a)), (5, .int (z_i b)), (0, .ref mo), (1, .int (z_i a)), (2, .int (z_i b)), (3, .int (z_i c)), (4, .int (z_i d))] d_M_chance_80 (by decide) rfl ?_
                    refine J_iload_n E 6 d_M_chance_82 rfl rfl ?_
                    refine J_iload E 7 d_M_chance_83 rfl ?_
                    refine J_icmp_ge E 93 d_M_chance_85 (by decide) (by exact ⟨⟨by omega, by omega⟩, ⟨by omega, by omega⟩⟩) (fun h85 => ?_) (fun h85 => ?_)
                    · refine J_iload_n E 6 d_M_chance_93 rfl rfl ?_
                      refine J_istore E [(8, .int (z_i c)), (7, .int (z_i d)), (6, .int (z_i a)), (5, .int (z_i b)), (0, .ref mo), (1, .int (z_i a)), (2, .int (z_i b)), (3, .int (z_i c)), (4, .int (z_i d))] d_M_chance_94 (by decide) rfl ?_
                      refine J_aload_n E 4 d_M_chance_96 rfl rfl ?_
                      refine g_M_29 E 0 rfl rfl d_M_chance_97 ?_
                      refine J_bipush E d_M_chance_100 (by decide) ?_
                      refine J_iload E 3 d_M_chance_102 rfl ?_
                      refine J_imul E d_M_chance_104 ?_
                      refine J_bipush E d_M_chance_105 (by decide) ?_
                      refine J_iload E 2 d_M_chance_107 rfl ?_
                      refine J_imul E d_M_chance_109 ?_
                      refine J_iadd E d_M_chance_110 ?_
                      refine J_iconst E d_M_chance_111 ?_
                      refine J_iload E 1 d_M_chance_112 rfl ?_
                      refine J_imul E d_M_chance_114 ?_
                      refine J_iadd E d_M_chance_115 ?_
                      refine J_iload E 0 d_M_chance_116 rfl ?_
                      refine J_iadd E d_M_chance_118 ?_
                      refine J_lald E 5 rfl (by decide) (by exact ⟨by omega, by omega⟩) d_M_chance_119 ?_
                      exact J_lreturn E F (by rw [show m_chance a b c d = qC a b c d from if_pos ⟨na, nb, nc, nd⟩, show (((125 * b) + (25 * a)) + (5 * d)) + c = ((125 * b.toNat + 25 * a.toNat + 5 * d.toNat + c.toNat : Nat) : Int) by omega, hcq b.toNat a.toNat d.toNat c.toNat (by omega) (by omega) (by omega) (by omega), (q_ch_comm b.toNat a.toNat _ _).1, (q_ch_comm _ _ d.toNat c.toNat).2]) ⟨du, 1, bb, tr, fr, cq, hrb, hg, hdu, Or.inr ⟨rfl, hcq⟩, rfl⟩ d_M_chance_120
                    · exact absurd h85 (by omega)
                  · exact absurd h71 (by omega)
                · exact absurd h58 (by omega)
              · exact absurd h46 (by omega)
        · have nd := b2_not h26
          refine J_ldc2 (a := -1) E t_m1M d_M_chance_29 ?_
          exact J_lreturn E F (if_neg (by omega)).symm ⟨du, kw, bb, tr, fr, chn, hrb, hg, hdu, hkw, rfl⟩ d_M_chance_32
