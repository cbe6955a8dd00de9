set_option maxHeartbeats 4000000 in
set_option maxRecDepth 100000 in
theorem c_M_right (L : Lx) (mo ms mb mt mf mc : Nat) (len stg mv stk hol cn cs hi lo hs ls du kw : Int) (sco bb tr fr chn : Int → Int) (b0 b1 : Int → Int) (pt d : Int) (hg : gb tr) (hrb : rb_ok bb b0 b1) (hb0 : bd_ok b0) (hb1 : bd_ok b1) (hmv : mv = 0 ∨ mv = 1) (hk : dk hi lo hs ls) (hdu4 : 0 ≤ du ∧ du ≤ 4) (hpt : 1 ≤ pt ∧ pt ≤ 25) (hd : 1 ≤ d ∧ d ≤ 6) : CtG L y_M_right b_M_right 5 (some .boolean) (rmh 6) false 0 0 [.ref mo, .int (z_i pt), .int (z_i d)] [(mo, .inr (4, [.int (z_i len), .ref ms, .int (z_i stg), .int (z_i mv), .ref mb, .int (z_i stk), .int (z_i hol), .int (z_i cn), .int (z_i cs), .int (z_i hi), .int (z_i lo), .int (z_i hs), .int (z_i ls), .int (z_i du), .ref mt, .ref mf, .ref mc, .int (z_i kw)])), (ms, aI L 2 sco), (mb, aI L 52 bb), (mt, aI L 312 tr), (mf, aI L 6 fr), (mc, aL L 625 chn)] (fun u => ∃ g2 f2 : Int → Int, gb g2 ∧ u = [(mo, .inr (4, [.int (z_i len), .ref ms, .int (z_i stg), .int (z_i mv), .ref mb, .int (z_i stk), .int (z_i hol), .int (z_i cn), .int (z_i cs), .int (z_i hi), .int (z_i lo), .int (z_i hs), .int (z_i ls), .int (z_i du), .ref mt, .ref mf, .ref mc, .int (z_i kw)])), (ms, aI L 2 sco), (mb, aI L 52 bb), (mt, aI L 312 g2), (mf, aI L 6 f2), (mc, aL L 625 chn)]) (some (.int (z_i (b2 (rt_ok (bp b0 b1 mv) (bp b0 b1 (1 - mv)) (dcf hi lo hs ls) du pt d))))) := by
  refine CtG.of rfl (Nat.le_of_ble_eq_true rfl) (fun X E F => ?_)
  show J L X 5 0 0 [(mo, .inr (4, [.int (z_i len), .ref ms, .int (z_i stg), .int (z_i mv), .ref mb, .int (z_i stk), .int (z_i hol), .int (z_i cn), .int (z_i cs), .int (z_i hi), .int (z_i lo), .int (z_i hs), .int (z_i ls), .int (z_i du), .ref mt, .ref mf, .ref mc, .int (z_i kw)])), (ms, aI L 2 sco), (mb, aI L 52 bb), (mt, aI L 312 tr), (mf, aI L 6 fr), (mc, aL L 625 chn)] [(0, .ref mo), (1, .int (z_i pt)), (2, .int (z_i d))] [] 0
  obtain ⟨k1, k2, k3, k4, k5, k6, k7⟩ := id hk
  have C43 : ∀ (ih : Int) (il : Int), ((ih = 1 ∧ d = hi ∧ 0 < hs) ∨ (ih = 0 ∧ ¬ (d = hi ∧ 0 < hs))) → ((il = 1 ∧ d = lo ∧ 0 < ls) ∨ (il = 0 ∧ ¬ (d = lo ∧ 0 < ls))) → J L X 5 0 0 [(mo, .inr (4, [.int (z_i len), .ref ms, .int (z_i stg), .int (z_i mv), .ref mb, .int (z_i stk), .int (z_i hol), .int (z_i cn), .int (z_i cs), .int (z_i hi), .int (z_i lo), .int (z_i hs), .int (z_i ls), .int (z_i du), .ref mt, .ref mf, .ref mc, .int (z_i kw)])), (ms, aI L 2 sco), (mb, aI L 52 bb), (mt, aI L 312 tr), (mf, aI L 6 fr), (mc, aL L 625 chn)] [(4, .int (z_i il)), (3, .int (z_i ih)), (0, .ref mo), (1, .int (z_i pt)), (2, .int (z_i d))] [] 43 := by
    intro ih il hih hil
    have C54 : (ih ≠ 0 ∨ il ≠ 0) → J L X 5 0 0 [(mo, .inr (4, [.int (z_i len), .ref ms, .int (z_i stg), .int (z_i mv), .ref mb, .int (z_i stk), .int (z_i hol), .int (z_i cn), .int (z_i cs), .int (z_i hi), .int (z_i lo), .int (z_i hs), .int (z_i ls), .int (z_i du), .ref mt, .ref mf, .ref mc, .int (z_i kw)])), (ms, aI L 2 sco), (mb, aI L 52 bb), (mt, aI L 312 tr), (mf, aI L 6 fr), (mc, aL L 625 chn)] [(4, .int (z_i il)), (3, .int (z_i ih)), (0, .ref mo), (1, .int (z_i pt)), (2, .int (z_i d))] [] 54 := by
      intro  hor
      refine J_aload_n E 2 d_M_right_54 rfl rfl ?_
      refine J_aload_n E 2 d_M_right_55 rfl rfl ?_
      refine g_M_80 E 0 rfl rfl d_M_right_56 ?_
      refine J_iconst E d_M_right_59 ?_
      refine J_callV (wr := []) (rest := []) E kb_M_look t_2_156 t_2_158 ts_M_look (c_M_look L mo ms mb mt mf mc len stg mv stk hol cn cs hi lo hs ls du kw sco bb tr fr chn mv hg hrb.1 hmv) (fun h => h) (Rm_h (by decide) (by decide)) [0, 1, 2, 3, 4, 5] [] rfl rfl rfl rfl (by decide) 0 rfl rfl rfl rfl (Nat.le_of_ble_eq_true rfl) d_M_right_60 (fun w' hw => ?_)
      obtain ⟨gl, hgl, hglx, hw⟩ := hw
      obtain rfl : w' = [(mo, .inr (4, [.int (z_i len), .ref ms, .int (z_i stg), .int (z_i mv), .ref mb, .int (z_i stk), .int (z_i hol), .int (z_i cn), .int (z_i cs), .int (z_i hi), .int (z_i lo), .int (z_i hs), .int (z_i ls), .int (z_i du), .ref mt, .ref mf, .ref mc, .int (z_i kw)])), (ms, aI L 2 sco), (mb, aI L 52 bb), (mt, aI L 312 gl), (mf, aI L 6 fr), (mc, aL L 625 chn)] := hw
      have hlv := lk_lv hmv hrb hb0 hb1 hglx
      show J L X 5 0 0 [(mo, .inr (4, [.int (z_i len), .ref ms, .int (z_i stg), .int (z_i mv), .ref mb, .int (z_i stk), .int (z_i hol), .int (z_i cn), .int (z_i cs), .int (z_i hi), .int (z_i lo), .int (z_i hs), .int (z_i ls), .int (z_i du), .ref mt, .ref mf, .ref mc, .int (z_i kw)])), (ms, aI L 2 sco), (mb, aI L 52 bb), (mt, aI L 312 gl), (mf, aI L 6 fr), (mc, aL L 625 chn)] [(4, .int (z_i il)), (3, .int (z_i ih)), (0, .ref mo), (1, .int (z_i pt)), (2, .int (z_i d))] [] 63
      refine J_aload_n E 2 d_M_right_63 rfl rfl ?_
      refine J_iconst E d_M_right_64 ?_
      refine J_iload_n E 3 d_M_right_65 rfl rfl ?_
      refine J_iload_n E 4 d_M_right_66 rfl rfl ?_
      refine J_callV (wr := []) (rest := []) E kb_M_can t_2_168 t_2_170 ts_M_can (c_M_can L mo ms mb mt mf mc len stg mv stk hol cn cs hi lo hs ls du kw sco bb gl fr chn 0 pt d hgl ⟨⟨by decide, by decide⟩, hpt⟩ hd) (fun h => h) (Rm_h (by decide) (by decide)) [0, 1, 2, 3, 4, 5] [] rfl rfl rfl rfl (by decide) 0 rfl rfl rfl rfl (Nat.le_of_ble_eq_true rfl) d_M_right_67 (fun w' hw => ?_)
      obtain rfl : w' = [(mo, .inr (4, [.int (z_i len), .ref ms, .int (z_i stg), .int (z_i mv), .ref mb, .int (z_i stk), .int (z_i hol), .int (z_i cn), .int (z_i cs), .int (z_i hi), .int (z_i lo), .int (z_i hs), .int (z_i ls), .int (z_i du), .ref mt, .ref mf, .ref mc, .int (z_i kw)])), (ms, aI L 2 sco), (mb, aI L 52 bb), (mt, aI L 312 gl), (mf, aI L 6 fr), (mc, aL L 625 chn)] := hw
      show J L X 5 0 0 [(mo, .inr (4, [.int (z_i len), .ref ms, .int (z_i stg), .int (z_i mv), .ref mb, .int (z_i stk), .int (z_i hol), .int (z_i cn), .int (z_i cs), .int (z_i hi), .int (z_i lo), .int (z_i hs), .int (z_i ls), .int (z_i du), .ref mt, .ref mf, .ref mc, .int (z_i kw)])), (ms, aI L 2 sco), (mb, aI L 52 bb), (mt, aI L 312 gl), (mf, aI L 6 fr), (mc, aL L 625 chn)] [(4, .int (z_i il)), (3, .int (z_i ih)), (0, .ref mo), (1, .int (z_i pt)), (2, .int (z_i d))] [.int (z_i (b2 (bd_can (lvO gl 0) (lvT gl 0) pt d)))] 70
      refine J_if_ne E 75 d_M_right_70 (by decide) (b2_r _) (fun h70 => ?_) (fun h70 => ?_)
      · have hcn := b2_of h70
        have hcn2 : bd_can (bp b0 b1 mv) (bp b0 b1 (1 - mv)) pt d := by rw [← hlv.1, ← hlv.2]; exact hcn
        have C116 : (¬ (du = 1 ∧ 0 < hs ∧ 0 < ls ∧ d = lo ∧ ∃ x, bd_can (bp b0 b1 mv) (bp b0 b1 (1 - mv)) x hi)) → J L X 5 0 0 [(mo, .inr (4, [.int (z_i len), .ref ms, .int (z_i stg), .int (z_i mv), .ref mb, .int (z_i stk), .int (z_i hol), .int (z_i cn), .int (z_i cs), .int (z_i hi), .int (z_i lo), .int (z_i hs), .int (z_i ls), .int (z_i du), .ref mt, .ref mf, .ref mc, .int (z_i kw)])), (ms, aI L 2 sco), (mb, aI L 52 bb), (mt, aI L 312 gl), (mf, aI L 6 fr), (mc, aL L 625 chn)] [(4, .int (z_i il)), (3, .int (z_i ih)), (0, .ref mo), (1, .int (z_i pt)), (2, .int (z_i d))] [] 116 := by
          intro  hgr
          refine J_aload_n E 2 d_M_right_116 rfl rfl ?_
          refine J_iconst E d_M_right_117 ?_
          refine J_iload_n E 3 d_M_right_118 rfl rfl ?_
          refine J_iload_n E 4 d_M_right_119 rfl rfl ?_
          refine J_callV (wr := []) (rest := []) E kb_M_make t_2_180 t_2_182 ts_M_make (c_M_make L mo ms mb mt mf mc len stg mv stk hol cn cs hi lo hs ls du kw sco bb gl fr chn 0 pt d hgl (by decide) (by rw [hlv.1]; exact bp_ok hb0 hb1 mv) (by rw [hlv.2]; exact bp_ok hb0 hb1 (1 - mv)) hcn) (fun h => h) (Rm_h (by decide) (by decide)) [0, 1, 2, 3, 4, 5] [] rfl rfl rfl rfl (by decide) 0 rfl rfl rfl rfl (Nat.le_of_ble_eq_true rfl) d_M_right_120 (fun w' hw => ?_)
          obtain ⟨gm, hm, hw⟩ := hw
          obtain rfl : w' = [(mo, .inr (4, [.int (z_i len), .ref ms, .int (z_i stg), .int (z_i mv), .ref mb, .int (z_i stk), .int (z_i hol), .int (z_i cn), .int (z_i cs), .int (z_i hi), .int (z_i lo), .int (z_i hs), .int (z_i ls), .int (z_i du), .ref mt, .ref mf, .ref mc, .int (z_i kw)])), (ms, aI L 2 sco), (mb, aI L 52 bb), (mt, aI L 312 gm), (mf, aI L 6 fr), (mc, aL L 625 chn)] := hw
          have hm3 : lvO gm 1 = bd_sh (bp b0 b1 mv) pt d := by have q := hm.2.2.1; rw [hlv.1] at q; exact q
          have hm4 : lvT gm 1 = bd_hit (bp b0 b1 (1 - mv)) (pt - d) := by have q := hm.2.2.2; rw [hlv.2] at q; exact q
          show J L X 5 0 0 [(mo, .inr (4, [.int (z_i len), .ref ms, .int (z_i stg), .int (z_i mv), .ref mb, .int (z_i stk), .int (z_i hol), .int (z_i cn), .int (z_i cs), .int (z_i hi), .int (z_i lo), .int (z_i hs), .int (z_i ls), .int (z_i du), .ref mt, .ref mf, .ref mc, .int (z_i kw)])), (ms, aI L 2 sco), (mb, aI L 52 bb), (mt, aI L 312 gm), (mf, aI L 6 fr), (mc, aL L 625 chn)] [(4, .int (z_i il)), (3, .int (z_i ih)), (0, .ref mo), (1, .int (z_i pt)), (2, .int (z_i d))] [] 123
          refine J_aload_n E 2 d_M_right_123 rfl rfl ?_
          refine J_iconst E d_M_right_124 ?_
          refine J_iload_n E 1 d_M_right_125 rfl rfl ?_
          refine J_if_eq E 138 d_M_right_126 (by decide) (by exact ⟨by omega, by omega⟩) (fun h126 => ?_) (fun h126 => ?_)
          · refine J_aload_n E 2 d_M_right_138 rfl rfl ?_
            refine g_M_74 E 0 rfl rfl d_M_right_139 ?_
            refine J_iload E 0 d_M_right_142 rfl ?_
            refine J_if_eq E 156 d_M_right_144 (by decide) (by exact ⟨by omega, by omega⟩) (fun h144 => ?_) (fun h144 => ?_)
            · exact absurd h144 (by omega)
            · refine J_aload_n E 2 d_M_right_147 rfl rfl ?_
              refine g_M_77 E 0 rfl rfl d_M_right_148 ?_
              refine J_iconst E d_M_right_151 ?_
              refine J_isub E d_M_right_152 ?_
              refine J_goto E 160 d_M_right_153 (by decide) ?_
              refine J_callV (wr := []) (rest := []) E kb_M_dueAt t_2_160 t_2_162 ts_M_dueAt (c_M_dueAt L mo ms mb mt mf mc len stg mv stk hol cn cs hi lo hs ls du kw sco bb gm fr chn 1 hs (ls - 1) hm.1 (by decide) (by rw [hm3]; exact bd_sh_ok (bp_ok hb0 hb1 mv) hpt.1 hpt.2 hd.1 hcn2.2.2.2.2.1) (by rw [hm4]; exact bd_hit_ok (bp_ok hb0 hb1 (1 - mv)) (by omega)) (dk_lo hk (by omega))) (fun h => h) (Rm_h (by decide) (by decide)) [0, 1, 2, 3, 4, 5] [] rfl rfl rfl rfl (by decide) 0 rfl rfl rfl rfl (Nat.le_of_ble_eq_true rfl) d_M_right_160 (fun w' hw => ?_)
              obtain ⟨gd, fd, hgd, hgdx, hw⟩ := hw
              obtain rfl : w' = [(mo, .inr (4, [.int (z_i len), .ref ms, .int (z_i stg), .int (z_i mv), .ref mb, .int (z_i stk), .int (z_i hol), .int (z_i cn), .int (z_i cs), .int (z_i hi), .int (z_i lo), .int (z_i hs), .int (z_i ls), .int (z_i du), .ref mt, .ref mf, .ref mc, .int (z_i kw)])), (ms, aI L 2 sco), (mb, aI L 52 bb), (mt, aI L 312 gd), (mf, aI L 6 fd), (mc, aL L 625 chn)] := hw
              have hdi := due_in (own := lvO gm 1) (oth := lvT gm 1) (dk_lo hk (by omega))
              have hdv : ((bd_due (lvT gm 1) (dcf hi lo hs (ls - 1)) (lvO gm 1) : Nat) : Int) = m_due (bd_sh (bp b0 b1 mv) pt d) (bd_hit (bp b0 b1 (1 - mv)) (pt - d)) hi lo (dn_h hi hs d) (dn_l hi ls d) := by rw [hm3, hm4]; show _ = ((bd_due _ (dcf hi lo (dn_h hi hs d) (dn_l hi ls d)) _ : Nat) : Int); rw [show dn_h hi hs d = hs from (if_neg (show ¬ d = hi by omega)), show dn_l hi ls d = (ls - 1) from (if_neg (show ¬ d = hi by omega))]
              show J L X 5 0 0 [(mo, .inr (4, [.int (z_i len), .ref ms, .int (z_i stg), .int (z_i mv), .ref mb, .int (z_i stk), .int (z_i hol), .int (z_i cn), .int (z_i cs), .int (z_i hi), .int (z_i lo), .int (z_i hs), .int (z_i ls), .int (z_i du), .ref mt, .ref mf, .ref mc, .int (z_i kw)])), (ms, aI L 2 sco), (mb, aI L 52 bb), (mt, aI L 312 gd), (mf, aI L 6 fd), (mc, aL L 625 chn)] [(4, .int (z_i il)), (3, .int (z_i ih)), (0, .ref mo), (1, .int (z_i pt)), (2, .int (z_i d))] [.int (z_i (((bd_due (lvT gm 1) (dcf hi lo hs (ls - 1)) (lvO gm 1) : Nat) : Int)))] 163
              refine J_aload_n E 2 d_M_right_163 rfl rfl ?_
              refine g_M_87 E 0 rfl rfl d_M_right_164 ?_
              refine J_iconst E d_M_right_167 ?_
              refine J_isub E d_M_right_168 ?_
              refine J_icmp_ne E 176 d_M_right_169 (by decide) ⟨⟨by omega, by omega⟩, by omega, by omega⟩ (fun h169 => ?_) (fun h169 => ?_)
              · refine J_iconst E d_M_right_176 ?_
                exact J_zreturn E F (by omega) (b2_f (fun q => h169 (by rw [hdv]; exact (rt_ref hk hd hcn2 (by omega) hgr).mp q))).symm ⟨gd, fd, hgd, rfl⟩ d_M_right_177
              · refine J_iconst E d_M_right_172 ?_
                refine J_goto E 177 d_M_right_173 (by decide) ?_
                exact J_zreturn E F (by omega) (b2_t ((rt_ref hk hd hcn2 (by omega) hgr).mpr (by rw [← hdv]; exact h169))).symm ⟨gd, fd, hgd, rfl⟩ d_M_right_177
          · refine J_aload_n E 2 d_M_right_129 rfl rfl ?_
            refine g_M_74 E 0 rfl rfl d_M_right_130 ?_
            refine J_iconst E d_M_right_133 ?_
            refine J_isub E d_M_right_134 ?_
            refine J_goto E 142 d_M_right_135 (by decide) ?_
            refine J_iload E 0 d_M_right_142 rfl ?_
            refine J_if_eq E 156 d_M_right_144 (by decide) (by exact ⟨by omega, by omega⟩) (fun h144 => ?_) (fun h144 => ?_)
            · refine J_aload_n E 2 d_M_right_156 rfl rfl ?_
              refine g_M_77 E 0 rfl rfl d_M_right_157 ?_
              refine J_callV (wr := []) (rest := []) E kb_M_dueAt t_2_160 t_2_162 ts_M_dueAt (c_M_dueAt L mo ms mb mt mf mc len stg mv stk hol cn cs hi lo hs ls du kw sco bb gm fr chn 1 (hs - 1) ls hm.1 (by decide) (by rw [hm3]; exact bd_sh_ok (bp_ok hb0 hb1 mv) hpt.1 hpt.2 hd.1 hcn2.2.2.2.2.1) (by rw [hm4]; exact bd_hit_ok (bp_ok hb0 hb1 (1 - mv)) (by omega)) (dk_hi hk (by omega))) (fun h => h) (Rm_h (by decide) (by decide)) [0, 1, 2, 3, 4, 5] [] rfl rfl rfl rfl (by decide) 0 rfl rfl rfl rfl (Nat.le_of_ble_eq_true rfl) d_M_right_160 (fun w' hw => ?_)
              obtain ⟨gd, fd, hgd, hgdx, hw⟩ := hw
              obtain rfl : w' = [(mo, .inr (4, [.int (z_i len), .ref ms, .int (z_i stg), .int (z_i mv), .ref mb, .int (z_i stk), .int (z_i hol), .int (z_i cn), .int (z_i cs), .int (z_i hi), .int (z_i lo), .int (z_i hs), .int (z_i ls), .int (z_i du), .ref mt, .ref mf, .ref mc, .int (z_i kw)])), (ms, aI L 2 sco), (mb, aI L 52 bb), (mt, aI L 312 gd), (mf, aI L 6 fd), (mc, aL L 625 chn)] := hw
              have hdi := due_in (own := lvO gm 1) (oth := lvT gm 1) (dk_hi hk (by omega))
              have hdv : ((bd_due (lvT gm 1) (dcf hi lo (hs - 1) ls) (lvO gm 1) : Nat) : Int) = m_due (bd_sh (bp b0 b1 mv) pt d) (bd_hit (bp b0 b1 (1 - mv)) (pt - d)) hi lo (dn_h hi hs d) (dn_l hi ls d) := by rw [hm3, hm4]; show _ = ((bd_due _ (dcf hi lo (dn_h hi hs d) (dn_l hi ls d)) _ : Nat) : Int); rw [show dn_h hi hs d = (hs - 1) from (if_pos (show d = hi by omega)), show dn_l hi ls d = ls from (if_pos (show d = hi by omega))]
              show J L X 5 0 0 [(mo, .inr (4, [.int (z_i len), .ref ms, .int (z_i stg), .int (z_i mv), .ref mb, .int (z_i stk), .int (z_i hol), .int (z_i cn), .int (z_i cs), .int (z_i hi), .int (z_i lo), .int (z_i hs), .int (z_i ls), .int (z_i du), .ref mt, .ref mf, .ref mc, .int (z_i kw)])), (ms, aI L 2 sco), (mb, aI L 52 bb), (mt, aI L 312 gd), (mf, aI L 6 fd), (mc, aL L 625 chn)] [(4, .int (z_i il)), (3, .int (z_i ih)), (0, .ref mo), (1, .int (z_i pt)), (2, .int (z_i d))] [.int (z_i (((bd_due (lvT gm 1) (dcf hi lo (hs - 1) ls) (lvO gm 1) : Nat) : Int)))] 163
              refine J_aload_n E 2 d_M_right_163 rfl rfl ?_
              refine g_M_87 E 0 rfl rfl d_M_right_164 ?_
              refine J_iconst E d_M_right_167 ?_
              refine J_isub E d_M_right_168 ?_
              refine J_icmp_ne E 176 d_M_right_169 (by decide) ⟨⟨by omega, by omega⟩, by omega, by omega⟩ (fun h169 => ?_) (fun h169 => ?_)
              · refine J_iconst E d_M_right_176 ?_
                exact J_zreturn E F (by omega) (b2_f (fun q => h169 (by rw [hdv]; exact (rt_ref hk hd hcn2 (by omega) hgr).mp q))).symm ⟨gd, fd, hgd, rfl⟩ d_M_right_177
              · refine J_iconst E d_M_right_172 ?_
                refine J_goto E 177 d_M_right_173 (by decide) ?_
                exact J_zreturn E F (by omega) (b2_t ((rt_ref hk hd hcn2 (by omega) hgr).mpr (by rw [← hdv]; exact h169))).symm ⟨gd, fd, hgd, rfl⟩ d_M_right_177
            · exact absurd h144 (by omega)
        refine J_aload_n E 2 d_M_right_75 rfl rfl ?_
        refine g_M_87 E 0 rfl rfl d_M_right_76 ?_
        refine J_iconst E d_M_right_79 ?_
        refine J_icmp_ne E 116 d_M_right_80 (by decide) (by exact ⟨⟨by omega, by omega⟩, ⟨by omega, by omega⟩⟩) (fun h80 => ?_) (fun h80 => ?_)
        · exact C116  (fun ⟨q1, q2, q3, q4, _⟩ => by omega)
        · refine J_aload_n E 2 d_M_right_83 rfl rfl ?_
          refine g_M_74 E 0 rfl rfl d_M_right_84 ?_
          refine J_if_le E 116 d_M_right_87 (by decide) (by exact ⟨by omega, by omega⟩) (fun h87 => ?_) (fun h87 => ?_)
          · exact C116  (fun ⟨q1, q2, q3, q4, _⟩ => by omega)
          · refine J_aload_n E 2 d_M_right_90 rfl rfl ?_
            refine g_M_77 E 0 rfl rfl d_M_right_91 ?_
            refine J_if_le E 116 d_M_right_94 (by decide) (by exact ⟨by omega, by omega⟩) (fun h94 => ?_) (fun h94 => ?_)
            · exact C116  (fun ⟨q1, q2, q3, q4, _⟩ => by omega)
            · refine J_iload E 0 d_M_right_97 rfl ?_
              refine J_if_eq E 116 d_M_right_99 (by decide) (by exact ⟨by omega, by omega⟩) (fun h99 => ?_) (fun h99 => ?_)
              · exact C116  (fun ⟨q1, q2, q3, q4, _⟩ => by omega)
              · refine J_aload_n E 2 d_M_right_102 rfl rfl ?_
                refine J_iconst E d_M_right_103 ?_
                refine J_aload_n E 2 d_M_right_104 rfl rfl ?_
                refine g_M_61 E 0 rfl rfl d_M_right_105 ?_
                refine J_callV (wr := []) (rest := []) E kb_M_any t_2_184 t_2_186 ts_M_any (c_M_any L mo ms mb mt mf mc len stg mv stk hol cn cs hi lo hs ls du kw sco bb gl fr chn 0 hi hgl (by decide) k1) (fun h => h) (Rm_h (by decide) (by decide)) [0, 1, 2, 3, 4, 5] [] rfl rfl rfl rfl (by decide) 0 rfl rfl rfl rfl (Nat.le_of_ble_eq_true rfl) d_M_right_108 (fun w' hw => ?_)
                obtain rfl : w' = [(mo, .inr (4, [.int (z_i len), .ref ms, .int (z_i stg), .int (z_i mv), .ref mb, .int (z_i stk), .int (z_i hol), .int (z_i cn), .int (z_i cs), .int (z_i hi), .int (z_i lo), .int (z_i hs), .int (z_i ls), .int (z_i du), .ref mt, .ref mf, .ref mc, .int (z_i kw)])), (ms, aI L 2 sco), (mb, aI L 52 bb), (mt, aI L 312 gl), (mf, aI L 6 fr), (mc, aL L 625 chn)] := hw
                show J L X 5 0 0 [(mo, .inr (4, [.int (z_i len), .ref ms, .int (z_i stg), .int (z_i mv), .ref mb, .int (z_i stk), .int (z_i hol), .int (z_i cn), .int (z_i cs), .int (z_i hi), .int (z_i lo), .int (z_i hs), .int (z_i ls), .int (z_i du), .ref mt, .ref mf, .ref mc, .int (z_i kw)])), (ms, aI L 2 sco), (mb, aI L 52 bb), (mt, aI L 312 gl), (mf, aI L 6 fr), (mc, aL L 625 chn)] [(4, .int (z_i il)), (3, .int (z_i ih)), (0, .ref mo), (1, .int (z_i pt)), (2, .int (z_i d))] [.int (z_i (b2 (∃ f, bd_can (lvO gl 0) (lvT gl 0) f hi)))] 111
                refine J_if_eq E 116 d_M_right_111 (by decide) (b2_r _) (fun h111 => ?_) (fun h111 => ?_)
                · have za := b2_not h111
                  rw [hlv.1, hlv.2] at za
                  exact C116  (fun ⟨_, _, _, _, q⟩ => za q)
                · have za := b2_of h111
                  rw [hlv.1, hlv.2] at za
                  refine J_iconst E d_M_right_114 ?_
                  exact J_zreturn E F (by omega) (b2_f (rt_ref_gr hk ⟨h80, h87, h94, by omega, za⟩)).symm ⟨gl, fr, hgl, rfl⟩ d_M_right_115
      · have hcn := b2_not h70
        have hcn2 : ¬ bd_can (bp b0 b1 mv) (bp b0 b1 (1 - mv)) pt d := by rw [← hlv.1, ← hlv.2]; exact hcn
        refine J_iconst E d_M_right_73 ?_
        exact J_zreturn E F (by omega) (b2_f (fun q => hcn2 q.2.2.1)).symm ⟨gl, fr, hgl, rfl⟩ d_M_right_74
    refine J_iload_n E 1 d_M_right_43 rfl rfl ?_
    refine J_if_ne E 54 d_M_right_44 (by decide) (by exact ⟨by omega, by omega⟩) (fun h44 => ?_) (fun h44 => ?_)
    · exact C54  (by omega)
    · refine J_iload E 0 d_M_right_47 rfl ?_
      refine J_if_ne E 54 d_M_right_49 (by decide) (by exact ⟨by omega, by omega⟩) (fun h49 => ?_) (fun h49 => ?_)
      · exact C54  (by omega)
      · refine J_iconst E d_M_right_52 ?_
        exact J_zreturn E F (by omega) (b2_f (rt_ref_no hk (by omega) (by omega))).symm ⟨tr, fr, hg, rfl⟩ d_M_right_53
  refine J_iload_n E 2 d_M_right_0 rfl rfl ?_
  refine J_aload_n E 0 d_M_right_1 rfl rfl ?_
  refine g_M_61 E 0 rfl rfl d_M_right_2 ?_
  refine J_icmp_ne E 19 d_M_right_5 (by decide) (by exact ⟨⟨by omega, by omega⟩, ⟨by omega, by omega⟩⟩) (fun h5 => ?_) (fun h5 => ?_)
  · refine J_iconst E d_M_right_19 ?_
    refine J_istore_n E [(3, .int (z_i 0)), (0, .ref mo), (1, .int (z_i pt)), (2, .int (z_i d))] d_M_right_20 rfl (by decide) rfl ?_
    refine J_iload_n E 3 d_M_right_21 rfl rfl ?_
    refine J_aload_n E 1 d_M_right_22 rfl rfl ?_
    refine g_M_64 E 0 rfl rfl d_M_right_23 ?_
    refine J_icmp_ne E 40 d_M_right_26 (by decide) (by exact ⟨⟨by omega, by omega⟩, ⟨by omega, by omega⟩⟩) (fun h26 => ?_) (fun h26 => ?_)
    · refine J_iconst E d_M_right_40 ?_
      refine J_istore E [(4, .int (z_i 0)), (3, .int (z_i 0)), (0, .ref mo), (1, .int (z_i pt)), (2, .int (z_i d))] d_M_right_41 (by decide) rfl ?_
      exact C43 0 0 (by omega) (by omega)
    · refine J_aload_n E 1 d_M_right_29 rfl rfl ?_
      refine g_M_77 E 0 rfl rfl d_M_right_30 ?_
      refine J_if_le E 40 d_M_right_33 (by decide) (by exact ⟨by omega, by omega⟩) (fun h33 => ?_) (fun h33 => ?_)
      · refine J_iconst E d_M_right_40 ?_
        refine J_istore E [(4, .int (z_i 0)), (3, .int (z_i 0)), (0, .ref mo), (1, .int (z_i pt)), (2, .int (z_i d))] d_M_right_41 (by decide) rfl ?_
        exact C43 0 0 (by omega) (by omega)
      · refine J_iconst E d_M_right_36 ?_
        refine J_goto E 41 d_M_right_37 (by decide) ?_
        refine J_istore E [(4, .int (z_i 1)), (3, .int (z_i 0)), (0, .ref mo), (1, .int (z_i pt)), (2, .int (z_i d))] d_M_right_41 (by decide) rfl ?_
        exact C43 0 1 (by omega) (by omega)
  · refine J_aload_n E 0 d_M_right_8 rfl rfl ?_
    refine g_M_74 E 0 rfl rfl d_M_right_9 ?_
    refine J_if_le E 19 d_M_right_12 (by decide) (by exact ⟨by omega, by omega⟩) (fun h12 => ?_) (fun h12 => ?_)
    · refine J_iconst E d_M_right_19 ?_
      refine J_istore_n E [(3, .int (z_i 0)), (0, .ref mo), (1, .int (z_i pt)), (2, .int (z_i d))] d_M_right_20 rfl (by decide) rfl ?_
      refine J_iload_n E 3 d_M_right_21 rfl rfl ?_
      refine J_aload_n E 1 d_M_right_22 rfl rfl ?_
      refine g_M_64 E 0 rfl rfl d_M_right_23 ?_
      refine J_icmp_ne E 40 d_M_right_26 (by decide) (by exact ⟨⟨by omega, by omega⟩, ⟨by omega, by omega⟩⟩) (fun h26 => ?_) (fun h26 => ?_)
      · refine J_iconst E d_M_right_40 ?_
        refine J_istore E [(4, .int (z_i 0)), (3, .int (z_i 0)), (0, .ref mo), (1, .int (z_i pt)), (2, .int (z_i d))] d_M_right_41 (by decide) rfl ?_
        exact C43 0 0 (by omega) (by omega)
      · refine J_aload_n E 1 d_M_right_29 rfl rfl ?_
        refine g_M_77 E 0 rfl rfl d_M_right_30 ?_
        refine J_if_le E 40 d_M_right_33 (by decide) (by exact ⟨by omega, by omega⟩) (fun h33 => ?_) (fun h33 => ?_)
        · refine J_iconst E d_M_right_40 ?_
          refine J_istore E [(4, .int (z_i 0)), (3, .int (z_i 0)), (0, .ref mo), (1, .int (z_i pt)), (2, .int (z_i d))] d_M_right_41 (by decide) rfl ?_
          exact C43 0 0 (by omega) (by omega)
        · refine J_iconst E d_M_right_36 ?_
          refine J_goto E 41 d_M_right_37 (by decide) ?_
          refine J_istore E [(4, .int (z_i 1)), (3, .int (z_i 0)), (0, .ref mo), (1, .int (z_i pt)), (2, .int (z_i d))] d_M_right_41 (by decide) rfl ?_
          exact C43 0 1 (by omega) (by omega)
    · refine J_iconst E d_M_right_15 ?_
      refine J_goto E 20 d_M_right_16 (by decide) ?_
      refine J_istore_n E [(3, .int (z_i 1)), (0, .ref mo), (1, .int (z_i pt)), (2, .int (z_i d))] d_M_right_20 rfl (by decide) rfl ?_
      refine J_iload_n E 3 d_M_right_21 rfl rfl ?_
      refine J_aload_n E 1 d_M_right_22 rfl rfl ?_
      refine g_M_64 E 0 rfl rfl d_M_right_23 ?_
      refine J_icmp_ne E 40 d_M_right_26 (by decide) (by exact ⟨⟨by omega, by omega⟩, ⟨by omega, by omega⟩⟩) (fun h26 => ?_) (fun h26 => ?_)
      · refine J_iconst E d_M_right_40 ?_
        refine J_istore E [(4, .int (z_i 0)), (3, .int (z_i 1)), (0, .ref mo), (1, .int (z_i pt)), (2, .int (z_i d))] d_M_right_41 (by decide) rfl ?_
        exact C43 1 0 (by omega) (by omega)
      · refine J_aload_n E 1 d_M_right_29 rfl rfl ?_
        refine g_M_77 E 0 rfl rfl d_M_right_30 ?_
        refine J_if_le E 40 d_M_right_33 (by decide) (by exact ⟨by omega, by omega⟩) (fun h33 => ?_) (fun h33 => ?_)
        · refine J_iconst E d_M_right_40 ?_
          refine J_istore E [(4, .int (z_i 0)), (3, .int (z_i 1)), (0, .ref mo), (1, .int (z_i pt)), (2, .int (z_i d))] d_M_right_41 (by decide) rfl ?_
          exact C43 1 0 (by omega) (by omega)
        · refine J_iconst E d_M_right_36 ?_
          refine J_goto E 41 d_M_right_37 (by decide) ?_
          refine J_istore E [(4, .int (z_i 1)), (3, .int (z_i 1)), (0, .ref mo), (1, .int (z_i pt)), (2, .int (z_i d))] d_M_right_41 (by decide) rfl ?_
          exact C43 1 1 (by omega) (by omega)
set_option maxHeartbeats 4000000 in
set_option maxRecDepth 100000 in
theorem c_M_settle (L : Lx) (mo ms mb mt mf mc : Nat) (len stg mv stk hol cn cs hi lo hs ls du kw : Int) (sco bb tr fr chn : Int → Int) (b0 b1 : Int → Int) (hg : gb tr) (hrb : rb_ok bb b0 b1) (hb0 : bd_ok b0) (hb1 : bd_ok b1) (hmv : mv = 0 ∨ mv = 1) (hk : dk hi lo hs ls) : CtG L y_M_settle b_M_settle 1 (some .int) (rmh 6) false 0 0 [.ref mo] [(mo, .inr (4, [.int (z_i len), .ref ms, .int (z_i stg), .int (z_i mv), .ref mb, .int (z_i stk), .int (z_i hol), .int (z_i cn), .int (z_i cs), .int (z_i hi), .int (z_i lo), .int (z_i hs), .int (z_i ls), .int (z_i du), .ref mt, .ref mf, .ref mc, .int (z_i kw)])), (ms, aI L 2 sco), (mb, aI L 52 bb), (mt, aI L 312 tr), (mf, aI L 6 fr), (mc, aL L 625 chn)] (fun u => ∃ g2 f2 : Int → Int, gb g2 ∧ ((m_due (bp b0 b1 mv) (bp b0 b1 (1 - mv)) hi lo hs ls = 0 ∧ u = [(mo, .inr (4, [.int (z_i len), .ref ms, .int (z_i 1), .int (z_i (1 - mv)), .ref mb, .int (z_i stk), .int (z_i hol), .int (z_i cn), .int (z_i cs), .int (z_i hi), .int (z_i lo), .int (z_i hs), .int (z_i ls), .int (z_i (m_due (bp b0 b1 mv) (bp b0 b1 (1 - mv)) hi lo hs ls)), .ref mt, .ref mf, .ref mc, .int (z_i kw)])), (ms, aI L 2 sco), (mb, aI L 52 bb), (mt, aI L 312 g2), (mf, aI L 6 f2), (mc, aL L 625 chn)]) ∨ (m_due (bp b0 b1 mv) (bp b0 b1 (1 - mv)) hi lo hs ls ≠ 0 ∧ u = [(mo, .inr (4, [.int (z_i len), .ref ms, .int (z_i 2), .int (z_i mv), .ref mb, .int (z_i stk), .int (z_i hol), .int (z_i cn), .int (z_i cs), .int (z_i hi), .int (z_i lo), .int (z_i hs), .int (z_i ls), .int (z_i (m_due (bp b0 b1 mv) (bp b0 b1 (1 - mv)) hi lo hs ls)), .ref mt, .ref mf, .ref mc, .int (z_i kw)])), (ms, aI L 2 sco), (mb, aI L 52 bb), (mt, aI L 312 g2), (mf, aI L 6 f2), (mc, aL L 625 chn)]))) (some (.int (z_i (m_due (bp b0 b1 mv) (bp b0 b1 (1 - mv)) hi lo hs ls)))) := by
  refine CtG.of rfl (Nat.le_of_ble_eq_true rfl) (fun X E F => ?_)
  show J L X 1 0 0 [(mo, .inr (4, [.int (z_i len), .ref ms, .int (z_i stg), .int (z_i mv), .ref mb, .int (z_i stk), .int (z_i hol), .int (z_i cn), .int (z_i cs), .int (z_i hi), .int (z_i lo), .int (z_i hs), .int (z_i ls), .int (z_i du), .ref mt, .ref mf, .ref mc, .int (z_i kw)])), (ms, aI L 2 sco), (mb, aI L 52 bb), (mt, aI L 312 tr), (mf, aI L 6 fr), (mc, aL L 625 chn)] [(0, .ref mo)] [] 0
  refine J_aload_n E 0 d_M_settle_0 rfl rfl ?_
  refine J_aload_n E 0 d_M_settle_1 rfl rfl ?_
  refine g_M_80 E 0 rfl rfl d_M_settle_2 ?_
  refine J_iconst E d_M_settle_5 ?_
  refine J_callV (wr := []) (rest := []) E kb_M_look t_2_156 t_2_158 ts_M_look (c_M_look L mo ms mb mt mf mc len stg mv stk hol cn cs hi lo hs ls du kw sco bb tr fr chn mv hg hrb.1 hmv) (fun h => h) (Rm_h (by decide) (by decide)) [0, 1, 2, 3, 4, 5] [] rfl rfl rfl rfl (by decide) 0 rfl rfl rfl rfl (Nat.le_of_ble_eq_true rfl) d_M_settle_6 (fun w' hw => ?_)
  obtain ⟨gl, hgl, hglx, hw⟩ := hw
  obtain rfl : w' = [(mo, .inr (4, [.int (z_i len), .ref ms, .int (z_i stg), .int (z_i mv), .ref mb, .int (z_i stk), .int (z_i hol), .int (z_i cn), .int (z_i cs), .int (z_i hi), .int (z_i lo), .int (z_i hs), .int (z_i ls), .int (z_i du), .ref mt, .ref mf, .ref mc, .int (z_i kw)])), (ms, aI L 2 sco), (mb, aI L 52 bb), (mt, aI L 312 gl), (mf, aI L 6 fr), (mc, aL L 625 chn)] := hw
  have hlv := lk_lv hmv hrb hb0 hb1 hglx
  show J L X 1 0 0 [(mo, .inr (4, [.int (z_i len), .ref ms, .int (z_i stg), .int (z_i mv), .ref mb, .int (z_i stk), .int (z_i hol), .int (z_i cn), .int (z_i cs), .int (z_i hi), .int (z_i lo), .int (z_i hs), .int (z_i ls), .int (z_i du), .ref mt, .ref mf, .ref mc, .int (z_i kw)])), (ms, aI L 2 sco), (mb, aI L 52 bb), (mt, aI L 312 gl), (mf, aI L 6 fr), (mc, aL L 625 chn)] [(0, .ref mo)] [] 9
  refine J_aload_n E 0 d_M_settle_9 rfl rfl ?_
  refine J_aload_n E 0 d_M_settle_10 rfl rfl ?_
  refine J_iconst E d_M_settle_11 ?_
  refine J_aload_n E 0 d_M_settle_12 rfl rfl ?_
  refine g_M_74 E 0 rfl rfl d_M_settle_13 ?_
  refine J_aload_n E 0 d_M_settle_16 rfl rfl ?_
  refine g_M_77 E 0 rfl rfl d_M_settle_17 ?_
  refine J_callV (wr := []) (rest := [.ref mo]) E kb_M_dueAt t_2_160 t_2_162 ts_M_dueAt (c_M_dueAt L mo ms mb mt mf mc len stg mv stk hol cn cs hi lo hs ls du kw sco bb gl fr chn 0 hs ls hgl (by decide) (by rw [hlv.1]; exact bp_ok hb0 hb1 mv) (by rw [hlv.2]; exact bp_ok hb0 hb1 (1 - mv)) hk) (fun h => h) (Rm_h (by decide) (by decide)) [0, 1, 2, 3, 4, 5] [] rfl rfl rfl rfl (by decide) 0 rfl rfl rfl rfl (Nat.le_of_ble_eq_true rfl) d_M_settle_20 (fun w' hw => ?_)
  obtain ⟨gd, fd, hgd, hgdx, hw⟩ := hw
  obtain rfl : w' = [(mo, .inr (4, [.int (z_i len), .ref ms, .int (z_i stg), .int (z_i mv), .ref mb, .int (z_i stk), .int (z_i hol), .int (z_i cn), .int (z_i cs), .int (z_i hi), .int (z_i lo), .int (z_i hs), .int (z_i ls), .int (z_i du), .ref mt, .ref mf, .ref mc, .int (z_i kw)])), (ms, aI L 2 sco), (mb, aI L 52 bb), (mt, aI L 312 gd), (mf, aI L 6 fd), (mc, aL L 625 chn)] := hw
  have hD : ((bd_due (lvT gl 0) (dcf hi lo hs ls) (lvO gl 0) : Nat) : Int) = m_due (bp b0 b1 mv) (bp b0 b1 (1 - mv)) hi lo hs ls := by rw [hlv.1, hlv.2]; rfl
  rw [hD]
  have hdin : 0 ≤ m_due (bp b0 b1 mv) (bp b0 b1 (1 - mv)) hi lo hs ls ∧ m_due (bp b0 b1 mv) (bp b0 b1 (1 - mv)) hi lo hs ls ≤ 4 := m_due_in hk
  show J L X 1 0 0 [(mo, .inr (4, [.int (z_i len), .ref ms, .int (z_i stg), .int (z_i mv), .ref mb, .int (z_i stk), .int (z_i hol), .int (z_i cn), .int (z_i cs), .int (z_i hi), .int (z_i lo), .int (z_i hs), .int (z_i ls), .int (z_i du), .ref mt, .ref mf, .ref mc, .int (z_i kw)])), (ms, aI L 2 sco), (mb, aI L 52 bb), (mt, aI L 312 gd), (mf, aI L 6 fd), (mc, aL L 625 chn)] [(0, .ref mo)] [.int (z_i (m_due (bp b0 b1 mv) (bp b0 b1 (1 - mv)) hi lo hs ls)), .ref mo] 23
  refine p_M_87 E 0 [(mo, .inr (4, [.int (z_i len), .ref ms, .int (z_i stg), .int (z_i mv), .ref mb, .int (z_i stk), .int (z_i hol), .int (z_i cn), .int (z_i cs), .int (z_i hi), .int (z_i lo), .int (z_i hs), .int (z_i ls), .int (z_i (m_due (bp b0 b1 mv) (bp b0 b1 (1 - mv)) hi lo hs ls)), .ref mt, .ref mf, .ref mc, .int (z_i kw)])), (ms, aI L 2 sco), (mb, aI L 52 bb), (mt, aI L 312 gd), (mf, aI L 6 fd), (mc, aL L 625 chn)] rfl rfl (Nat.le_of_ble_eq_true rfl) d_M_settle_23 ?_
  refine J_aload_n E 0 d_M_settle_26 rfl rfl ?_
  refine J_iconst E d_M_settle_27 ?_
  refine p_M_39 E 0 [(mo, .inr (4, [.int (z_i len), .ref ms, .int (z_i 2), .int (z_i mv), .ref mb, .int (z_i stk), .int (z_i hol), .int (z_i cn), .int (z_i cs), .int (z_i hi), .int (z_i lo), .int (z_i hs), .int (z_i ls), .int (z_i (m_due (bp b0 b1 mv) (bp b0 b1 (1 - mv)) hi lo hs ls)), .ref mt, .ref mf, .ref mc, .int (z_i kw)])), (ms, aI L 2 sco), (mb, aI L 52 bb), (mt, aI L 312 gd), (mf, aI L 6 fd), (mc, aL L 625 chn)] rfl rfl (Nat.le_of_ble_eq_true rfl) d_M_settle_28 ?_
  refine J_aload_n E 0 d_M_settle_31 rfl rfl ?_
  refine g_M_87 E 0 rfl rfl d_M_settle_32 ?_
  refine J_if_ne E 53 d_M_settle_35 (by decide) ⟨by omega, by omega⟩ (fun h35 => ?_) (fun h35 => ?_)
  · refine J_aload_n E 0 d_M_settle_53 rfl rfl ?_
    refine g_M_87 E 0 rfl rfl d_M_settle_54 ?_
    exact J_ireturn E F rfl ⟨gd, fd, hgd, Or.inr ⟨h35, rfl⟩⟩ d_M_settle_57
  · refine J_aload_n E 0 d_M_settle_38 rfl rfl ?_
    refine J_iconst E d_M_settle_39 ?_
    refine p_M_39 E 0 [(mo, .inr (4, [.int (z_i len), .ref ms, .int (z_i 1), .int (z_i mv), .ref mb, .int (z_i stk), .int (z_i hol), .int (z_i cn), .int (z_i cs), .int (z_i hi), .int (z_i lo), .int (z_i hs), .int (z_i ls), .int (z_i (m_due (bp b0 b1 mv) (bp b0 b1 (1 - mv)) hi lo hs ls)), .ref mt, .ref mf, .ref mc, .int (z_i kw)])), (ms, aI L 2 sco), (mb, aI L 52 bb), (mt, aI L 312 gd), (mf, aI L 6 fd), (mc, aL L 625 chn)] rfl rfl (Nat.le_of_ble_eq_true rfl) d_M_settle_40 ?_
    refine J_aload_n E 0 d_M_settle_43 rfl rfl ?_
    refine J_iconst E d_M_settle_44 ?_
    refine J_aload_n E 0 d_M_settle_45 rfl rfl ?_
    refine g_M_80 E 0 rfl rfl d_M_settle_46 ?_
    refine J_isub E d_M_settle_49 ?_
    refine p_M_80 E 0 [(mo, .inr (4, [.int (z_i len), .ref ms, .int (z_i 1), .int (z_i (1 - mv)), .ref mb, .int (z_i stk), .int (z_i hol), .int (z_i cn), .int (z_i cs), .int (z_i hi), .int (z_i lo), .int (z_i hs), .int (z_i ls), .int (z_i (m_due (bp b0 b1 mv) (bp b0 b1 (1 - mv)) hi lo hs ls)), .ref mt, .ref mf, .ref mc, .int (z_i kw)])), (ms, aI L 2 sco), (mb, aI L 52 bb), (mt, aI L 312 gd), (mf, aI L 6 fd), (mc, aL L 625 chn)] rfl rfl (Nat.le_of_ble_eq_true rfl) d_M_settle_50 ?_
    refine J_aload_n E 0 d_M_settle_53 rfl rfl ?_
    refine g_M_87 E 0 rfl rfl d_M_settle_54 ?_
    exact J_ireturn E F rfl ⟨gd, fd, hgd, Or.inl ⟨h35, rfl⟩⟩ d_M_settle_57
