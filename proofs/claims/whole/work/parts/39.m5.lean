theorem k3x {hi lo hs ls : Int} (h : dk hi lo hs ls) : lo < hi := h.2.2.1
set_option maxHeartbeats 4000000 in
set_option maxRecDepth 100000 in
theorem c_M_move (L : Lx) (mo ms mb mt mf mc : Nat) (len stg mv stk hol cn cs hi lo hs ls du kw : Int) (sco bb tr fr chn : Int → Int) (b0 b1 : Int → Int) (f d : Int) (hS : st_ok (len, stg, mv, stk, hol, cn, cs, sco, b0, b1, hi, lo, hs, ls)) (hrb : rb_ok bb b0 b1) (hg : gb tr) (hdu : stg = 2 → du = m_due (bp b0 b1 mv) (bp b0 b1 (1 - mv)) hi lo hs ls) (hkw : kw = 0 ∨ (kw = 1 ∧ ch_ok chn)) (hf : z_r f) (hd : z_r d) : CtG L y_M_move b_M_move 4 (some .int) (rmh 7) false 0 0 [.ref mo, .int (z_i f), .int (z_i d)] [(mo, .inr (4, [.int (z_i len), .ref ms, .int (z_i stg), .int (z_i mv), .ref mb, .int (z_i stk), .int (z_i hol), .int (z_i cn), .int (z_i cs), .int (z_i hi), .int (z_i lo), .int (z_i hs), .int (z_i ls), .int (z_i du), .ref mt, .ref mf, .ref mc, .int (z_i kw)])), (ms, aI L 2 sco), (mb, aI L 52 bb), (mt, aI L 312 tr), (mf, aI L 6 fr), (mc, aL L 625 chn)] (RR L mo ms mb mt mf mc (m_move (len, stg, mv, stk, hol, cn, cs, sco, b0, b1, hi, lo, hs, ls) f d).2) (some (.int (z_i ((m_move (len, stg, mv, stk, hol, cn, cs, sco, b0, b1, hi, lo, hs, ls) f d).1)))) := by
  obtain ⟨hlen, hstg, hmv, hstk, hhol, hcn, hcs, hsc, hsl, hb0, hb1, hdk⟩ := hS
  refine CtG.of rfl (Nat.le_of_ble_eq_true rfl) (fun X E F => ?_)
  show J L X 4 0 0 [(mo, .inr (4, [.int (z_i len), .ref ms, .int (z_i stg), .int (z_i mv), .ref mb, .int (z_i stk), .int (z_i hol), .int (z_i cn), .int (z_i cs), .int (z_i hi), .int (z_i lo), .int (z_i hs), .int (z_i ls), .int (z_i du), .ref mt, .ref mf, .ref mc, .int (z_i kw)])), (ms, aI L 2 sco), (mb, aI L 52 bb), (mt, aI L 312 tr), (mf, aI L 6 fr), (mc, aL L 625 chn)] [(0, .ref mo), (1, .int (z_i f)), (2, .int (z_i d))] [] 0
  refine J_aload_n E 0 d_M_move_0 rfl rfl ?_
  refine g_M_39 E 0 rfl rfl d_M_move_1 ?_
  refine J_iconst E d_M_move_4 ?_
  refine J_icmp_eq E 10 d_M_move_5 (by decide) (by exact ⟨⟨by omega, by omega⟩, ⟨by omega, by omega⟩⟩) (fun h5 => ?_) (fun h5 => ?_)
  · subst h5
    obtain ⟨hk, hd1⟩ := hdk rfl
    have hdu2 := hdu rfl
    have hkhi := hk.1
    have hklo := hk.2.1
    have hdu4 : 0 ≤ du ∧ du ≤ 4 := by rw [hdu2]; exact m_due_in hk
    refine J_iload_n E 1 d_M_move_10 rfl rfl ?_
    refine J_iconst E d_M_move_11 ?_
    refine J_icmp_lt E 41 d_M_move_12 (by decide) (by exact ⟨⟨by omega, by omega⟩, ⟨by omega, by omega⟩⟩) (fun h12 => ?_) (fun h12 => ?_)
    · have hrt2 : ¬ rt_ok (bp b0 b1 mv) (bp b0 b1 (1 - mv)) (dcf hi lo hs ls) (m_due (bp b0 b1 mv) (bp b0 b1 (1 - mv)) hi lo hs ls) f d := fun q => by have q1 := q.1; have q2 := q.2.2.1.1; have q3 := q.2.2.1.2.1; omega
      refine J_bipush E d_M_move_41 (by decide) ?_
      exact J_ireturn E F (by rw [m_move_f hrt2]) (by rw [m_move_f hrt2]; exact ⟨du, kw, bb, tr, fr, chn, hrb, hg, hdu, hkw, rfl⟩) d_M_move_43
    · refine J_iload_n E 1 d_M_move_15 rfl rfl ?_
      refine J_bipush E d_M_move_16 (by decide) ?_
      refine J_icmp_gt E 41 d_M_move_18 (by decide) (by exact ⟨⟨by omega, by omega⟩, ⟨by omega, by omega⟩⟩) (fun h18 => ?_) (fun h18 => ?_)
      · have hrt2 : ¬ rt_ok (bp b0 b1 mv) (bp b0 b1 (1 - mv)) (dcf hi lo hs ls) (m_due (bp b0 b1 mv) (bp b0 b1 (1 - mv)) hi lo hs ls) f d := fun q => by have q1 := q.1; have q2 := q.2.2.1.1; have q3 := q.2.2.1.2.1; omega
        refine J_bipush E d_M_move_41 (by decide) ?_
        exact J_ireturn E F (by rw [m_move_f hrt2]) (by rw [m_move_f hrt2]; exact ⟨du, kw, bb, tr, fr, chn, hrb, hg, hdu, hkw, rfl⟩) d_M_move_43
      · refine J_iload_n E 2 d_M_move_21 rfl rfl ?_
        refine J_iconst E d_M_move_22 ?_
        refine J_icmp_lt E 41 d_M_move_23 (by decide) (by exact ⟨⟨by omega, by omega⟩, ⟨by omega, by omega⟩⟩) (fun h23 => ?_) (fun h23 => ?_)
        · have hrt2 : ¬ rt_ok (bp b0 b1 mv) (bp b0 b1 (1 - mv)) (dcf hi lo hs ls) (m_due (bp b0 b1 mv) (bp b0 b1 (1 - mv)) hi lo hs ls) f d := fun q => by have q1 := q.1; have q2 := q.2.2.1.1; have q3 := q.2.2.1.2.1; omega
          refine J_bipush E d_M_move_41 (by decide) ?_
          exact J_ireturn E F (by rw [m_move_f hrt2]) (by rw [m_move_f hrt2]; exact ⟨du, kw, bb, tr, fr, chn, hrb, hg, hdu, hkw, rfl⟩) d_M_move_43
        · refine J_iload_n E 2 d_M_move_26 rfl rfl ?_
          refine J_bipush E d_M_move_27 (by decide) ?_
          refine J_icmp_gt E 41 d_M_move_29 (by decide) (by exact ⟨⟨by omega, by omega⟩, ⟨by omega, by omega⟩⟩) (fun h29 => ?_) (fun h29 => ?_)
          · have hrt2 : ¬ rt_ok (bp b0 b1 mv) (bp b0 b1 (1 - mv)) (dcf hi lo hs ls) (m_due (bp b0 b1 mv) (bp b0 b1 (1 - mv)) hi lo hs ls) f d := fun q => by have q1 := q.1; have q2 := q.2.2.1.1; have q3 := q.2.2.1.2.1; omega
            refine J_bipush E d_M_move_41 (by decide) ?_
            exact J_ireturn E F (by rw [m_move_f hrt2]) (by rw [m_move_f hrt2]; exact ⟨du, kw, bb, tr, fr, chn, hrb, hg, hdu, hkw, rfl⟩) d_M_move_43
          · refine J_aload_n E 0 d_M_move_32 rfl rfl ?_
            refine J_iload_n E 1 d_M_move_33 rfl rfl ?_
            refine J_iload_n E 2 d_M_move_34 rfl rfl ?_
            refine J_callV (wr := []) (rest := []) E kb_M_right t_2_196 t_2_198 ts_M_right (c_M_right L mo ms mb mt mf mc len 2 mv stk hol cn cs hi lo hs ls du kw sco bb tr fr chn b0 b1 f d hg hrb hb0 hb1 hmv hk hdu4 ⟨by omega, by omega⟩ ⟨by omega, by omega⟩) (fun h => h) (Rm_h (by decide) (by decide)) [0, 1, 2, 3, 4, 5] [] rfl rfl rfl rfl (by decide) 0 rfl rfl rfl rfl (Nat.le_of_ble_eq_true rfl) d_M_move_35 (fun w' hw => ?_)
            obtain ⟨gr, fq, hgr, hw⟩ := hw
            obtain rfl : w' = [(mo, .inr (4, [.int (z_i len), .ref ms, .int (z_i 2), .int (z_i mv), .ref mb, .int (z_i stk), .int (z_i hol), .int (z_i cn), .int (z_i cs), .int (z_i hi), .int (z_i lo), .int (z_i hs), .int (z_i ls), .int (z_i du), .ref mt, .ref mf, .ref mc, .int (z_i kw)])), (ms, aI L 2 sco), (mb, aI L 52 bb), (mt, aI L 312 gr), (mf, aI L 6 fq), (mc, aL L 625 chn)] := hw
            show J L X 4 0 0 [(mo, .inr (4, [.int (z_i len), .ref ms, .int (z_i 2), .int (z_i mv), .ref mb, .int (z_i stk), .int (z_i hol), .int (z_i cn), .int (z_i cs), .int (z_i hi), .int (z_i lo), .int (z_i hs), .int (z_i ls), .int (z_i du), .ref mt, .ref mf, .ref mc, .int (z_i kw)])), (ms, aI L 2 sco), (mb, aI L 52 bb), (mt, aI L 312 gr), (mf, aI L 6 fq), (mc, aL L 625 chn)] [(0, .ref mo), (1, .int (z_i f)), (2, .int (z_i d))] [.int (z_i (b2 (rt_ok (bp b0 b1 mv) (bp b0 b1 (1 - mv)) (dcf hi lo hs ls) du f d)))] 38
            refine J_if_ne E 44 d_M_move_38 (by decide) (b2_r _) (fun h38 => ?_) (fun h38 => ?_)
            · have hrt := b2_of h38
              have hrt2 : rt_ok (bp b0 b1 mv) (bp b0 b1 (1 - mv)) (dcf hi lo hs ls) (m_due (bp b0 b1 mv) (bp b0 b1 (1 - mv)) hi lo hs ls) f d := by rw [← hdu2]; exact hrt
              have hcn2 := hrt.2.2.1
              refine J_aload_n E 0 d_M_move_44 rfl rfl ?_
              refine J_aload_n E 0 d_M_move_45 rfl rfl ?_
              refine g_M_80 E 0 rfl rfl d_M_move_46 ?_
              refine J_iconst E d_M_move_49 ?_
              refine J_callV (wr := []) (rest := []) E kb_M_look t_2_156 t_2_158 ts_M_look (c_M_look L mo ms mb mt mf mc len 2 mv stk hol cn cs hi lo hs ls du kw sco bb gr fq chn mv hgr hrb.1 hmv) (fun h => h) (Rm_h (by decide) (by decide)) [0, 1, 2, 3, 4, 5] [] rfl rfl rfl rfl (by decide) 0 rfl rfl rfl rfl (Nat.le_of_ble_eq_true rfl) d_M_move_50 (fun w' hw => ?_)
              obtain ⟨gl, hgl, hglx, hw⟩ := hw
              obtain rfl : w' = [(mo, .inr (4, [.int (z_i len), .ref ms, .int (z_i 2), .int (z_i mv), .ref mb, .int (z_i stk), .int (z_i hol), .int (z_i cn), .int (z_i cs), .int (z_i hi), .int (z_i lo), .int (z_i hs), .int (z_i ls), .int (z_i du), .ref mt, .ref mf, .ref mc, .int (z_i kw)])), (ms, aI L 2 sco), (mb, aI L 52 bb), (mt, aI L 312 gl), (mf, aI L 6 fq), (mc, aL L 625 chn)] := hw
              have hlv := lk_lv hmv hrb hb0 hb1 hglx
              show J L X 4 0 0 [(mo, .inr (4, [.int (z_i len), .ref ms, .int (z_i 2), .int (z_i mv), .ref mb, .int (z_i stk), .int (z_i hol), .int (z_i cn), .int (z_i cs), .int (z_i hi), .int (z_i lo), .int (z_i hs), .int (z_i ls), .int (z_i du), .ref mt, .ref mf, .ref mc, .int (z_i kw)])), (ms, aI L 2 sco), (mb, aI L 52 bb), (mt, aI L 312 gl), (mf, aI L 6 fq), (mc, aL L 625 chn)] [(0, .ref mo), (1, .int (z_i f)), (2, .int (z_i d))] [] 53
              have hcn : bd_can (lvO gl 0) (lvT gl 0) f d := by rw [hlv.1, hlv.2]; exact hcn2
              refine J_aload_n E 0 d_M_move_53 rfl rfl ?_
              refine J_iconst E d_M_move_54 ?_
              refine J_iload_n E 1 d_M_move_55 rfl rfl ?_
              refine J_iload_n E 2 d_M_move_56 rfl rfl ?_
              refine J_callV (wr := []) (rest := []) E kb_M_make t_2_180 t_2_182 ts_M_make (c_M_make L mo ms mb mt mf mc len 2 mv stk hol cn cs hi lo hs ls du kw sco bb gl fq chn 0 f d hgl (by decide) (by rw [hlv.1]; exact bp_ok hb0 hb1 mv) (by rw [hlv.2]; exact bp_ok hb0 hb1 (1 - mv)) hcn) (fun h => h) (Rm_h (by decide) (by decide)) [0, 1, 2, 3, 4, 5] [] rfl rfl rfl rfl (by decide) 0 rfl rfl rfl rfl (Nat.le_of_ble_eq_true rfl) d_M_move_57 (fun w' hw => ?_)
              obtain ⟨gm, hm, hw⟩ := hw
              obtain rfl : w' = [(mo, .inr (4, [.int (z_i len), .ref ms, .int (z_i 2), .int (z_i mv), .ref mb, .int (z_i stk), .int (z_i hol), .int (z_i cn), .int (z_i cs), .int (z_i hi), .int (z_i lo), .int (z_i hs), .int (z_i ls), .int (z_i du), .ref mt, .ref mf, .ref mc, .int (z_i kw)])), (ms, aI L 2 sco), (mb, aI L 52 bb), (mt, aI L 312 gm), (mf, aI L 6 fq), (mc, aL L 625 chn)] := hw
              have hm3 : lvO gm 1 = bd_sh (bp b0 b1 mv) f d := by have q := hm.2.2.1; rw [hlv.1] at q; exact q
              have hm4 : lvT gm 1 = bd_hit (bp b0 b1 (1 - mv)) (f - d) := by have q := hm.2.2.2; rw [hlv.2] at q; exact q
              show J L X 4 0 0 [(mo, .inr (4, [.int (z_i len), .ref ms, .int (z_i 2), .int (z_i mv), .ref mb, .int (z_i stk), .int (z_i hol), .int (z_i cn), .int (z_i cs), .int (z_i hi), .int (z_i lo), .int (z_i hs), .int (z_i ls), .int (z_i du), .ref mt, .ref mf, .ref mc, .int (z_i kw)])), (ms, aI L 2 sco), (mb, aI L 52 bb), (mt, aI L 312 gm), (mf, aI L 6 fq), (mc, aL L 625 chn)] [(0, .ref mo), (1, .int (z_i f)), (2, .int (z_i d))] [] 60
              refine J_iconst E d_M_move_60 ?_
              refine J_istore_n E [(3, .int (z_i 0)), (0, .ref mo), (1, .int (z_i f)), (2, .int (z_i d))] d_M_move_61 rfl (by decide) rfl ?_
              have C62 : ∀ (mm : Nat) (k : Int) (bk : Int → Int), (0 ≤ k ∧ k ≤ 26) → (gb bk) → (∀ x, 0 ≤ x → x < k → bk (26 * mv + x) = gm (52 + x) ∧ bk (26 * (1 - mv) + x) = gm (78 + x)) → (26 - k).toNat < mm → J L X 4 0 0 [(mo, .inr (4, [.int (z_i len), .ref ms, .int (z_i 2), .int (z_i mv), .ref mb, .int (z_i stk), .int (z_i hol), .int (z_i cn), .int (z_i cs), .int (z_i hi), .int (z_i lo), .int (z_i hs), .int (z_i ls), .int (z_i du), .ref mt, .ref mf, .ref mc, .int (z_i kw)])), (ms, aI L 2 sco), (mb, aI L 52 bk), (mt, aI L 312 gm), (mf, aI L 6 fq), (mc, aL L 625 chn)] [(3, .int (z_i k)), (0, .ref mo), (1, .int (z_i f)), (2, .int (z_i d))] [] 62 := by
                intro mm
                induction mm with
                | zero => intro k bk hkk hbk hr hme; exact absurd hme (Nat.not_lt_zero _)
                | succ mm ih62 =>
                  intro k bk hkk hbk hr hme
                  refine J_iload_n E 0 d_M_move_62 rfl rfl ?_
                  refine J_bipush E d_M_move_63 (by decide) ?_
                  refine J_icmp_ge E 122 d_M_move_65 (by decide) (by exact ⟨⟨by omega, by omega⟩, ⟨by omega, by omega⟩⟩) (fun h65 => ?_) (fun h65 => ?_)
                  · have hrbn := n_rb (f := f) (d := d) hmv hbk (fun x x1 x2 => hr x x1 (by omega)) hm3 hm4
                    have hbn := n_ok hb0 hb1 hcn2
                    have hnb := n_bp (b0 := b0) (b1 := b1) (f := f) (d := d) hmv
                    have h0v := rb_at hrbn hmv (x := 0) ⟨by decide, by decide⟩
                    rw [hnb.1, Int.add_zero] at h0v
                    have hdp : 0 < (dcf hi lo hs ls) d := by have q := dcf_nn hk d; have q2 := hrt2.2.1; omega
                    refine J_iload_n E 3 d_M_move_122 rfl rfl ?_
                    refine J_aload_n E 1 d_M_move_123 rfl rfl ?_
                    refine g_M_61 E 0 rfl rfl d_M_move_124 ?_
                    refine J_icmp_ne E 143 d_M_move_127 (by decide) (by exact ⟨⟨by omega, by omega⟩, ⟨by omega, by omega⟩⟩) (fun h127 => ?_) (fun h127 => ?_)
                    · have hlo1 : d = lo := by rcases dcf_pos hdp with e | e; exact absurd e h127; exact e
                      have hls0 : 0 < ls := by have := k3x hk; have q := hdp; rw [hlo1, dcf_lo (by omega)] at q; exact q
                      have hdh : dn_h hi hs d = hs := if_neg h127
                      have hdl : dn_l hi ls d = ls - 1 := if_neg h127
                      have hkn := dk_lo hk hls0
                      refine J_aload_n E 1 d_M_move_143 rfl rfl ?_
                      refine J_dup E d_M_move_144 rfl ?_
                      refine g_M_77 E 0 rfl rfl d_M_move_145 ?_
                      refine J_iconst E d_M_move_148 ?_
                      refine J_isub E d_M_move_149 ?_
                      refine p_M_77 E 0 [(mo, .inr (4, [.int (z_i len), .ref ms, .int (z_i 2), .int (z_i mv), .ref mb, .int (z_i stk), .int (z_i hol), .int (z_i cn), .int (z_i cs), .int (z_i hi), .int (z_i lo), .int (z_i hs), .int (z_i (ls - 1)), .int (z_i du), .ref mt, .ref mf, .ref mc, .int (z_i kw)])), (ms, aI L 2 sco), (mb, aI L 52 bk), (mt, aI L 312 gm), (mf, aI L 6 fq), (mc, aL L 625 chn)] rfl rfl (Nat.le_of_ble_eq_true rfl) d_M_move_150 ?_
                      refine J_aload_n E 1 d_M_move_153 rfl rfl ?_
                      refine g_M_13 E 0 rfl rfl d_M_move_154 ?_
                      refine J_bipush E d_M_move_157 (by decide) ?_
                      refine J_aload_n E 1 d_M_move_159 rfl rfl ?_
                      refine g_M_80 E 0 rfl rfl d_M_move_160 ?_
                      refine J_imul E d_M_move_163 ?_
                      refine J_iald E 2 rfl (by decide) (by exact ⟨by omega, by omega⟩) d_M_move_164 ?_
                      refine J_bipush E d_M_move_165 (by decide) ?_
                      refine J_icmp_ne E 194 d_M_move_167 (by decide) (by have := hbk (26 * mv); exact ⟨⟨by omega, by omega⟩, ⟨by omega, by omega⟩⟩) (fun h167 => ?_) (fun h167 => ?_)
                      · have h15 : bd_sh (bp b0 b1 mv) f d 0 ≠ 15 := by rw [← h0v]; exact h167
                        refine J_aload_n E 1 d_M_move_194 rfl rfl ?_
                        refine J_callV (wr := []) (rest := []) E kb_M_settle t_2_152 t_2_154 ts_M_settle (c_M_settle L mo ms mb mt mf mc len 2 mv stk hol cn cs hi lo hs (ls - 1) du kw sco bk gm fq chn (n0 b0 b1 mv f d) (n1 b0 b1 mv f d) hm.1 hrbn hbn.1 hbn.2 hmv hkn) (fun h => h) (Rm_h (by decide) (by decide)) [0, 1, 2, 3, 4, 5] [] rfl rfl rfl rfl (by decide) 0 rfl rfl rfl rfl (Nat.le_of_ble_eq_true rfl) d_M_move_195 (fun w' hw => ?_)
                        replace hw : (fun u => ∃ g2 f2 : Int → Int, gb g2 ∧ ((m_due (bp (n0 b0 b1 mv f d) (n1 b0 b1 mv f d) mv) (bp (n0 b0 b1 mv f d) (n1 b0 b1 mv f d) (1 - mv)) hi lo hs (ls - 1) = 0 ∧ u = [(mo, .inr (4, [.int (z_i len), .ref ms, .int (z_i 1), .int (z_i (1 - mv)), .ref mb, .int (z_i stk), .int (z_i hol), .int (z_i cn), .int (z_i cs), .int (z_i hi), .int (z_i lo), .int (z_i hs), .int (z_i (ls - 1)), .int (z_i (m_due (bp (n0 b0 b1 mv f d) (n1 b0 b1 mv f d) mv) (bp (n0 b0 b1 mv f d) (n1 b0 b1 mv f d) (1 - mv)) hi lo hs (ls - 1))), .ref mt, .ref mf, .ref mc, .int (z_i kw)])), (ms, aI L 2 sco), (mb, aI L 52 bk), (mt, aI L 312 g2), (mf, aI L 6 f2), (mc, aL L 625 chn)]) ∨ (m_due (bp (n0 b0 b1 mv f d) (n1 b0 b1 mv f d) mv) (bp (n0 b0 b1 mv f d) (n1 b0 b1 mv f d) (1 - mv)) hi lo hs (ls - 1) ≠ 0 ∧ u = [(mo, .inr (4, [.int (z_i len), .ref ms, .int (z_i 2), .int (z_i mv), .ref mb, .int (z_i stk), .int (z_i hol), .int (z_i cn), .int (z_i cs), .int (z_i hi), .int (z_i lo), .int (z_i hs), .int (z_i (ls - 1)), .int (z_i (m_due (bp (n0 b0 b1 mv f d) (n1 b0 b1 mv f d) mv) (bp (n0 b0 b1 mv f d) (n1 b0 b1 mv f d) (1 - mv)) hi lo hs (ls - 1))), .ref mt, .ref mf, .ref mc, .int (z_i kw)])), (ms, aI L 2 sco), (mb, aI L 52 bk), (mt, aI L 312 g2), (mf, aI L 6 f2), (mc, aL L 625 chn)]))) w' := hw
                        rcases hw with ⟨gs, fs, hgs, ⟨hz, rfl⟩ | ⟨hz, rfl⟩⟩
                        · show J L X 4 0 0 [(mo, .inr (4, [.int (z_i len), .ref ms, .int (z_i 1), .int (z_i (1 - mv)), .ref mb, .int (z_i stk), .int (z_i hol), .int (z_i cn), .int (z_i cs), .int (z_i hi), .int (z_i lo), .int (z_i hs), .int (z_i (ls - 1)), .int (z_i (m_due (bp (n0 b0 b1 mv f d) (n1 b0 b1 mv f d) mv) (bp (n0 b0 b1 mv f d) (n1 b0 b1 mv f d) (1 - mv)) hi lo hs (ls - 1))), .ref mt, .ref mf, .ref mc, .int (z_i kw)])), (ms, aI L 2 sco), (mb, aI L 52 bk), (mt, aI L 312 gs), (mf, aI L 6 fs), (mc, aL L 625 chn)] [(3, .int (z_i k)), (0, .ref mo), (1, .int (z_i f)), (2, .int (z_i d))] [.int (z_i (m_due (bp (n0 b0 b1 mv f d) (n1 b0 b1 mv f d) mv) (bp (n0 b0 b1 mv f d) (n1 b0 b1 mv f d) (1 - mv)) hi lo hs (ls - 1)))] 198
                          have hzv : m_due (bp (n0 b0 b1 mv f d) (n1 b0 b1 mv f d) mv) (bp (n0 b0 b1 mv f d) (n1 b0 b1 mv f d) (1 - mv)) hi lo hs (ls - 1) = m_due (bd_sh (bp b0 b1 mv) f d) (bd_hit (bp b0 b1 (1 - mv)) (f - d)) hi lo (dn_h hi hs d) (dn_l hi ls d) := by rw [hnb.1, hnb.2, hdh, hdl]
                          have hz2 : m_due (bd_sh (bp b0 b1 mv) f d) (bd_hit (bp b0 b1 (1 - mv)) (f - d)) hi lo (dn_h hi hs d) (dn_l hi ls d) = 0 := by rw [← hzv]; exact hz
                          exact J_ireturn E F (by rw [m_move_t hrt2, m_play_z h15 hz2]; exact hz) (by rw [m_move_t hrt2, m_play_z h15 hz2, hdh, hdl]; exact ⟨(m_due (bp (n0 b0 b1 mv f d) (n1 b0 b1 mv f d) mv) (bp (n0 b0 b1 mv f d) (n1 b0 b1 mv f d) (1 - mv)) hi lo hs (ls - 1)), kw, bk, gs, fs, chn, hrbn, hgs, (fun q => absurd q (by decide)), hkw, rfl⟩) d_M_move_198
                        · show J L X 4 0 0 [(mo, .inr (4, [.int (z_i len), .ref ms, .int (z_i 2), .int (z_i mv), .ref mb, .int (z_i stk), .int (z_i hol), .int (z_i cn), .int (z_i cs), .int (z_i hi), .int (z_i lo), .int (z_i hs), .int (z_i (ls - 1)), .int (z_i (m_due (bp (n0 b0 b1 mv f d) (n1 b0 b1 mv f d) mv) (bp (n0 b0 b1 mv f d) (n1 b0 b1 mv f d) (1 - mv)) hi lo hs (ls - 1))), .ref mt, .ref mf, .ref mc, .int (z_i kw)])), (ms, aI L 2 sco), (mb, aI L 52 bk), (mt, aI L 312 gs), (mf, aI L 6 fs), (mc, aL L 625 chn)] [(3, .int (z_i k)), (0, .ref mo), (1, .int (z_i f)), (2, .int (z_i d))] [.int (z_i (m_due (bp (n0 b0 b1 mv f d) (n1 b0 b1 mv f d) mv) (bp (n0 b0 b1 mv f d) (n1 b0 b1 mv f d) (1 - mv)) hi lo hs (ls - 1)))] 198
                          have hzv : m_due (bp (n0 b0 b1 mv f d) (n1 b0 b1 mv f d) mv) (bp (n0 b0 b1 mv f d) (n1 b0 b1 mv f d) (1 - mv)) hi lo hs (ls - 1) = m_due (bd_sh (bp b0 b1 mv) f d) (bd_hit (bp b0 b1 (1 - mv)) (f - d)) hi lo (dn_h hi hs d) (dn_l hi ls d) := by rw [hnb.1, hnb.2, hdh, hdl]
                          have hz2 : m_due (bd_sh (bp b0 b1 mv) f d) (bd_hit (bp b0 b1 (1 - mv)) (f - d)) hi lo (dn_h hi hs d) (dn_l hi ls d) ≠ 0 := by rw [← hzv]; exact hz
                          exact J_ireturn E F (by rw [m_move_t hrt2, m_play_n h15 hz2]; exact hzv) (by rw [m_move_t hrt2, m_play_n h15 hz2, hdh, hdl]; exact ⟨(m_due (bp (n0 b0 b1 mv f d) (n1 b0 b1 mv f d) mv) (bp (n0 b0 b1 mv f d) (n1 b0 b1 mv f d) (1 - mv)) hi lo hs (ls - 1)), kw, bk, gs, fs, chn, hrbn, hgs, (fun _ => rfl), hkw, rfl⟩) d_M_move_198
                      · have h15 : bd_sh (bp b0 b1 mv) f d 0 = 15 := by rw [← h0v]; exact h167
                        refine J_aload_n E 1 d_M_move_170 rfl rfl ?_
                        refine J_aload_n E 1 d_M_move_171 rfl rfl ?_
                        refine g_M_80 E 0 rfl rfl d_M_move_172 ?_
                        refine J_aload_n E 1 d_M_move_175 rfl rfl ?_
                        refine J_aload_n E 1 d_M_move_176 rfl rfl ?_
                        refine g_M_80 E 0 rfl rfl d_M_move_177 ?_
                        refine J_callV (wr := []) (rest := [.int (z_i mv), .ref mo]) E kb_M_times t_2_200 t_2_202 ts_M_times (c_M_times L mo ms mb mt mf mc len 2 mv stk hol cn cs hi lo hs (ls - 1) du kw sco bk gm fq chn (n0 b0 b1 mv f d) (n1 b0 b1 mv f d) hrbn hmv) (fun h => h) (Rm_h (by decide) (by decide)) [0, 1, 2, 3, 4, 5] [] rfl rfl rfl rfl (by decide) 0 rfl rfl rfl rfl (Nat.le_of_ble_eq_true rfl) d_M_move_180 (fun w' hw => ?_)
                        obtain rfl : w' = [(mo, .inr (4, [.int (z_i len), .ref ms, .int (z_i 2), .int (z_i mv), .ref mb, .int (z_i stk), .int (z_i hol), .int (z_i cn), .int (z_i cs), .int (z_i hi), .int (z_i lo), .int (z_i hs), .int (z_i (ls - 1)), .int (z_i du), .ref mt, .ref mf, .ref mc, .int (z_i kw)])), (ms, aI L 2 sco), (mb, aI L 52 bk), (mt, aI L 312 gm), (mf, aI L 6 fq), (mc, aL L 625 chn)] := hw
                        rw [hnb.2]
                        show J L X 4 0 0 [(mo, .inr (4, [.int (z_i len), .ref ms, .int (z_i 2), .int (z_i mv), .ref mb, .int (z_i stk), .int (z_i hol), .int (z_i cn), .int (z_i cs), .int (z_i hi), .int (z_i lo), .int (z_i hs), .int (z_i (ls - 1)), .int (z_i du), .ref mt, .ref mf, .ref mc, .int (z_i kw)])), (ms, aI L 2 sco), (mb, aI L 52 bk), (mt, aI L 312 gm), (mf, aI L 6 fq), (mc, aL L 625 chn)] [(3, .int (z_i k)), (0, .ref mo), (1, .int (z_i f)), (2, .int (z_i d))] [.int (z_i (tc_f (bd_hit (bp b0 b1 (1 - mv)) (f - d)))), .int (z_i mv), .ref mo] 183
                        refine J_aload_n E 1 d_M_move_183 rfl rfl ?_
                        refine g_M_16 E 0 rfl rfl d_M_move_184 ?_
                        refine J_imul E d_M_move_187 ?_
                        refine J_callV (wr := []) (rest := []) E kb_M_win t_2_204 t_2_206 ts_M_win (c_M_win L mo ms mb mt mf mc len 2 mv stk hol cn cs hi lo hs (ls - 1) du kw sco bk gm fq chn ((tc_f (bd_hit (bp b0 b1 (1 - mv)) (f - d))) * stk) hlen hmv hcs hsc (by rw [Int.mul_comm]; exact ga_in hstk _) hbk) (fun h => h) (Rm_h (by decide) (by decide)) [0, 1, 2, 3, 4, 5] [] rfl rfl rfl rfl (by decide) 0 rfl rfl rfl rfl (Nat.le_of_ble_eq_true rfl) d_M_move_188 (fun w' hw => ?_)
                        replace hw : (fun u => (len ≤ ((sco mv) + ((tc_f (bd_hit (bp b0 b1 (1 - mv)) (f - d))) * stk)) ∧ u = [(mo, .inr (4, [.int (z_i len), .ref ms, .int (z_i 4), .int (z_i mv), .ref mb, .int (z_i stk), .int (z_i hol), .int (z_i 0), .int (z_i cs), .int (z_i hi), .int (z_i lo), .int (z_i hs), .int (z_i (ls - 1)), .int (z_i du), .ref mt, .ref mf, .ref mc, .int (z_i kw)])), (ms, aI L 2 (z_u sco mv ((sco mv) + ((tc_f (bd_hit (bp b0 b1 (1 - mv)) (f - d))) * stk)))), (mb, aI L 52 bk), (mt, aI L 312 gm), (mf, aI L 6 fq), (mc, aL L 625 chn)]) ∨ (((sco mv) + ((tc_f (bd_hit (bp b0 b1 (1 - mv)) (f - d))) * stk)) < len ∧ ∃ bb2 : Int → Int, rb_ok bb2 st_men st_men ∧ u = [(mo, .inr (4, [.int (z_i len), .ref ms, .int (z_i 0), .int (z_i mv), .ref mb, .int (z_i 1), .int (z_i (-1)), .int (z_i (wn_c cs ((sco mv) + ((tc_f (bd_hit (bp b0 b1 (1 - mv)) (f - d))) * stk)) len)), .int (z_i (wn_s cs ((sco mv) + ((tc_f (bd_hit (bp b0 b1 (1 - mv)) (f - d))) * stk)) len)), .int (z_i hi), .int (z_i lo), .int (z_i hs), .int (z_i (ls - 1)), .int (z_i du), .ref mt, .ref mf, .ref mc, .int (z_i kw)])), (ms, aI L 2 (z_u sco mv ((sco mv) + ((tc_f (bd_hit (bp b0 b1 (1 - mv)) (f - d))) * stk)))), (mb, aI L 52 bb2), (mt, aI L 312 gm), (mf, aI L 6 fq), (mc, aL L 625 chn)])) w' := hw
                        rcases hw with ⟨hle, rfl⟩ | ⟨hle, bw, hbw, rfl⟩
                        · show J L X 4 0 0 [(mo, .inr (4, [.int (z_i len), .ref ms, .int (z_i 4), .int (z_i mv), .ref mb, .int (z_i stk), .int (z_i hol), .int (z_i 0), .int (z_i cs), .int (z_i hi), .int (z_i lo), .int (z_i hs), .int (z_i (ls - 1)), .int (z_i du), .ref mt, .ref mf, .ref mc, .int (z_i kw)])), (ms, aI L 2 (z_u sco mv ((sco mv) + ((tc_f (bd_hit (bp b0 b1 (1 - mv)) (f - d))) * stk)))), (mb, aI L 52 bk), (mt, aI L 312 gm), (mf, aI L 6 fq), (mc, aL L 625 chn)] [(3, .int (z_i k)), (0, .ref mo), (1, .int (z_i f)), (2, .int (z_i d))] [.int (z_i (10 * ((tc_f (bd_hit (bp b0 b1 (1 - mv)) (f - d))) * stk)))] 191
                          refine J_goto E 198 d_M_move_191 (by decide) ?_
                          exact J_ireturn E F (by rw [m_move_t hrt2, m_play_w h15, Int.mul_comm stk (tc_f (bd_hit (bp b0 b1 (1 - mv)) (f - d))), m_win_a hle]) (by rw [m_move_t hrt2, m_play_w h15, Int.mul_comm stk (tc_f (bd_hit (bp b0 b1 (1 - mv)) (f - d))), m_win_a hle, hdh, hdl]; exact ⟨du, kw, bk, gm, fq, chn, hrbn, hm.1, (fun q => absurd q (by decide)), hkw, rfl⟩) d_M_move_198
                        · show J L X 4 0 0 [(mo, .inr (4, [.int (z_i len), .ref ms, .int (z_i 0), .int (z_i mv), .ref mb, .int (z_i 1), .int (z_i (-1)), .int (z_i (wn_c cs ((sco mv) + ((tc_f (bd_hit (bp b0 b1 (1 - mv)) (f - d))) * stk)) len)), .int (z_i (wn_s cs ((sco mv) + ((tc_f (bd_hit (bp b0 b1 (1 - mv)) (f - d))) * stk)) len)), .int (z_i hi), .int (z_i lo), .int (z_i hs), .int (z_i (ls - 1)), .int (z_i du), .ref mt, .ref mf, .ref mc, .int (z_i kw)])), (ms, aI L 2 (z_u sco mv ((sco mv) + ((tc_f (bd_hit (bp b0 b1 (1 - mv)) (f - d))) * stk)))), (mb, aI L 52 bw), (mt, aI L 312 gm), (mf, aI L 6 fq), (mc, aL L 625 chn)] [(3, .int (z_i k)), (0, .ref mo), (1, .int (z_i f)), (2, .int (z_i d))] [.int (z_i (10 * ((tc_f (bd_hit (bp b0 b1 (1 - mv)) (f - d))) * stk)))] 191
                          refine J_goto E 198 d_M_move_191 (by decide) ?_
                          exact J_ireturn E F (by rw [m_move_t hrt2, m_play_w h15, Int.mul_comm stk (tc_f (bd_hit (bp b0 b1 (1 - mv)) (f - d))), m_win_b hle]) (by rw [m_move_t hrt2, m_play_w h15, Int.mul_comm stk (tc_f (bd_hit (bp b0 b1 (1 - mv)) (f - d))), m_win_b hle, hdh, hdl]; exact ⟨du, kw, bw, gm, fq, chn, hbw, hm.1, (fun q => absurd q (by decide)), hkw, rfl⟩) d_M_move_198
                    · have hhs0 : 0 < hs := by have q := hdp; rw [h127, dcf_hi] at q; exact q
                      have hdh : dn_h hi hs d = hs - 1 := if_pos h127
                      have hdl : dn_l hi ls d = ls := if_pos h127
                      have hkn := dk_hi hk hhs0
                      refine J_aload_n E 1 d_M_move_130 rfl rfl ?_
                      refine J_dup E d_M_move_131 rfl ?_
                      refine g_M_74 E 0 rfl rfl d_M_move_132 ?_
                      refine J_iconst E d_M_move_135 ?_
                      refine J_isub E d_M_move_136 ?_
                      refine p_M_74 E 0 [(mo, .inr (4, [.int (z_i len), .ref ms, .int (z_i 2), .int (z_i mv), .ref mb, .int (z_i stk), .int (z_i hol), .int (z_i cn), .int (z_i cs), .int (z_i hi), .int (z_i lo), .int (z_i (hs - 1)), .int (z_i ls), .int (z_i du), .ref mt, .ref mf, .ref mc, .int (z_i kw)])), (ms, aI L 2 sco), (mb, aI L 52 bk), (mt, aI L 312 gm), (mf, aI L 6 fq), (mc, aL L 625 chn)] rfl rfl (Nat.le_of_ble_eq_true rfl) d_M_move_137 ?_
                      refine J_goto E 153 d_M_move_140 (by decide) ?_
                      refine J_aload_n E 1 d_M_move_153 rfl rfl ?_
                      refine g_M_13 E 0 rfl rfl d_M_move_154 ?_
                      refine J_bipush E d_M_move_157 (by decide) ?_
                      refine J_aload_n E 1 d_M_move_159 rfl rfl ?_
                      refine g_M_80 E 0 rfl rfl d_M_move_160 ?_
                      refine J_imul E d_M_move_163 ?_
                      refine J_iald E 2 rfl (by decide) (by exact ⟨by omega, by omega⟩) d_M_move_164 ?_
                      refine J_bipush E d_M_move_165 (by decide) ?_
                      refine J_icmp_ne E 194 d_M_move_167 (by decide) (by have := hbk (26 * mv); exact ⟨⟨by omega, by omega⟩, ⟨by omega, by omega⟩⟩) (fun h167 => ?_) (fun h167 => ?_)
                      · have h15 : bd_sh (bp b0 b1 mv) f d 0 ≠ 15 := by rw [← h0v]; exact h167
                        refine J_aload_n E 1 d_M_move_194 rfl rfl ?_
                        refine J_callV (wr := []) (rest := []) E kb_M_settle t_2_152 t_2_154 ts_M_settle (c_M_settle L mo ms mb mt mf mc len 2 mv stk hol cn cs hi lo (hs - 1) ls du kw sco bk gm fq chn (n0 b0 b1 mv f d) (n1 b0 b1 mv f d) hm.1 hrbn hbn.1 hbn.2 hmv hkn) (fun h => h) (Rm_h (by decide) (by decide)) [0, 1, 2, 3, 4, 5] [] rfl rfl rfl rfl (by decide) 0 rfl rfl rfl rfl (Nat.le_of_ble_eq_true rfl) d_M_move_195 (fun w' hw => ?_)
                        replace hw : (fun u => ∃ g2 f2 : Int → Int, gb g2 ∧ ((m_due (bp (n0 b0 b1 mv f d) (n1 b0 b1 mv f d) mv) (bp (n0 b0 b1 mv f d) (n1 b0 b1 mv f d) (1 - mv)) hi lo (hs - 1) ls = 0 ∧ u = [(mo, .inr (4, [.int (z_i len), .ref ms, .int (z_i 1), .int (z_i (1 - mv)), .ref mb, .int (z_i stk), .int (z_i hol), .int (z_i cn), .int (z_i cs), .int (z_i hi), .int (z_i lo), .int (z_i (hs - 1)), .int (z_i ls), .int (z_i (m_due (bp (n0 b0 b1 mv f d) (n1 b0 b1 mv f d) mv) (bp (n0 b0 b1 mv f d) (n1 b0 b1 mv f d) (1 - mv)) hi lo (hs - 1) ls)), .ref mt, .ref mf, .ref mc, .int (z_i kw)])), (ms, aI L 2 sco), (mb, aI L 52 bk), (mt, aI L 312 g2), (mf, aI L 6 f2), (mc, aL L 625 chn)]) ∨ (m_due (bp (n0 b0 b1 mv f d) (n1 b0 b1 mv f d) mv) (bp (n0 b0 b1 mv f d) (n1 b0 b1 mv f d) (1 - mv)) hi lo (hs - 1) ls ≠ 0 ∧ u = [(mo, .inr (4, [.int (z_i len), .ref ms, .int (z_i 2), .int (z_i mv), .ref mb, .int (z_i stk), .int (z_i hol), .int (z_i cn), .int (z_i cs), .int (z_i hi), .int (z_i lo), .int (z_i (hs - 1)), .int (z_i ls), .int (z_i (m_due (bp (n0 b0 b1 mv f d) (n1 b0 b1 mv f d) mv) (bp (n0 b0 b1 mv f d) (n1 b0 b1 mv f d) (1 - mv)) hi lo (hs - 1) ls)), .ref mt, .ref mf, .ref mc, .int (z_i kw)])), (ms, aI L 2 sco), (mb, aI L 52 bk), (mt, aI L 312 g2), (mf, aI L 6 f2), (mc, aL L 625 chn)]))) w' := hw
                        rcases hw with ⟨gs, fs, hgs, ⟨hz, rfl⟩ | ⟨hz, rfl⟩⟩
                        · show J L X 4 0 0 [(mo, .inr (4, [.int (z_i len), .ref ms, .int (z_i 1), .int (z_i (1 - mv)), .ref mb, .int (z_i stk), .int (z_i hol), .int (z_i cn), .int (z_i cs), .int (z_i hi), .int (z_i lo), .int (z_i (hs - 1)), .int (z_i ls), .int (z_i (m_due (bp (n0 b0 b1 mv f d) (n1 b0 b1 mv f d) mv) (bp (n0 b0 b1 mv f d) (n1 b0 b1 mv f d) (1 - mv)) hi lo (hs - 1) ls)), .ref mt, .ref mf, .ref mc, .int (z_i kw)])), (ms, aI L 2 sco), (mb, aI L 52 bk), (mt, aI L 312 gs), (mf, aI L 6 fs), (mc, aL L 625 chn)] [(3, .int (z_i k)), (0, .ref mo), (1, .int (z_i f)), (2, .int (z_i d))] [.int (z_i (m_due (bp (n0 b0 b1 mv f d) (n1 b0 b1 mv f d) mv) (bp (n0 b0 b1 mv f d) (n1 b0 b1 mv f d) (1 - mv)) hi lo (hs - 1) ls))] 198
                          have hzv : m_due (bp (n0 b0 b1 mv f d) (n1 b0 b1 mv f d) mv) (bp (n0 b0 b1 mv f d) (n1 b0 b1 mv f d) (1 - mv)) hi lo (hs - 1) ls = m_due (bd_sh (bp b0 b1 mv) f d) (bd_hit (bp b0 b1 (1 - mv)) (f - d)) hi lo (dn_h hi hs d) (dn_l hi ls d) := by rw [hnb.1, hnb.2, hdh, hdl]
                          have hz2 : m_due (bd_sh (bp b0 b1 mv) f d) (bd_hit (bp b0 b1 (1 - mv)) (f - d)) hi lo (dn_h hi hs d) (dn_l hi ls d) = 0 := by rw [← hzv]; exact hz
                          exact J_ireturn E F (by rw [m_move_t hrt2, m_play_z h15 hz2]; exact hz) (by rw [m_move_t hrt2, m_play_z h15 hz2, hdh, hdl]; exact ⟨(m_due (bp (n0 b0 b1 mv f d) (n1 b0 b1 mv f d) mv) (bp (n0 b0 b1 mv f d) (n1 b0 b1 mv f d) (1 - mv)) hi lo (hs - 1) ls), kw, bk, gs, fs, chn, hrbn, hgs, (fun q => absurd q (by decide)), hkw, rfl⟩) d_M_move_198
                        · show J L X 4 0 0 [(mo, .inr (4, [.int (z_i len), .ref ms, .int (z_i 2), .int (z_i mv), .ref mb, .int (z_i stk), .int (z_i hol), .int (z_i cn), .int (z_i cs), .int (z_i hi), .int (z_i lo), .int (z_i (hs - 1)), .int (z_i ls), .int (z_i (m_due (bp (n0 b0 b1 mv f d) (n1 b0 b1 mv f d) mv) (bp (n0 b0 b1 mv f d) (n1 b0 b1 mv f d) (1 - mv)) hi lo (hs - 1) ls)), .ref mt, .ref mf, .ref mc, .int (z_i kw)])), (ms, aI L 2 sco), (mb, aI L 52 bk), (mt, aI L 312 gs), (mf, aI L 6 fs), (mc, aL L 625 chn)] [(3, .int (z_i k)), (0, .ref mo), (1, .int (z_i f)), (2, .int (z_i d))] [.int (z_i (m_due (bp (n0 b0 b1 mv f d) (n1 b0 b1 mv f d) mv) (bp (n0 b0 b1 mv f d) (n1 b0 b1 mv f d) (1 - mv)) hi lo (hs - 1) ls))] 198
                          have hzv : m_due (bp (n0 b0 b1 mv f d) (n1 b0 b1 mv f d) mv) (bp (n0 b0 b1 mv f d) (n1 b0 b1 mv f d) (1 - mv)) hi lo (hs - 1) ls = m_due (bd_sh (bp b0 b1 mv) f d) (bd_hit (bp b0 b1 (1 - mv)) (f - d)) hi lo (dn_h hi hs d) (dn_l hi ls d) := by rw [hnb.1, hnb.2, hdh, hdl]
                          have hz2 : m_due (bd_sh (bp b0 b1 mv) f d) (bd_hit (bp b0 b1 (1 - mv)) (f - d)) hi lo (dn_h hi hs d) (dn_l hi ls d) ≠ 0 := by rw [← hzv]; exact hz
                          exact J_ireturn E F (by rw [m_move_t hrt2, m_play_n h15 hz2]; exact hzv) (by rw [m_move_t hrt2, m_play_n h15 hz2, hdh, hdl]; exact ⟨(m_due (bp (n0 b0 b1 mv f d) (n1 b0 b1 mv f d) mv) (bp (n0 b0 b1 mv f d) (n1 b0 b1 mv f d) (1 - mv)) hi lo (hs - 1) ls), kw, bk, gs, fs, chn, hrbn, hgs, (fun _ => rfl), hkw, rfl⟩) d_M_move_198
                      · have h15 : bd_sh (bp b0 b1 mv) f d 0 = 15 := by rw [← h0v]; exact h167
                        refine J_aload_n E 1 d_M_move_170 rfl rfl ?_
                        refine J_aload_n E 1 d_M_move_171 rfl rfl ?_
                        refine g_M_80 E 0 rfl rfl d_M_move_172 ?_
                        refine J_aload_n E 1 d_M_move_175 rfl rfl ?_
                        refine J_aload_n E 1 d_M_move_176 rfl rfl ?_
                        refine g_M_80 E 0 rfl rfl d_M_move_177 ?_
                        refine J_callV (wr := []) (rest := [.int (z_i mv), .ref mo]) E kb_M_times t_2_200 t_2_202 ts_M_times (c_M_times L mo ms mb mt mf mc len 2 mv stk hol cn cs hi lo (hs - 1) ls du kw sco bk gm fq chn (n0 b0 b1 mv f d) (n1 b0 b1 mv f d) hrbn hmv) (fun h => h) (Rm_h (by decide) (by decide)) [0, 1, 2, 3, 4, 5] [] rfl rfl rfl rfl (by decide) 0 rfl rfl rfl rfl (Nat.le_of_ble_eq_true rfl) d_M_move_180 (fun w' hw => ?_)
                        obtain rfl : w' = [(mo, .inr (4, [.int (z_i len), .ref ms, .int (z_i 2), .int (z_i mv), .ref mb, .int (z_i stk), .int (z_i hol), .int (z_i cn), .int (z_i cs), .int (z_i hi), .int (z_i lo), .int (z_i (hs - 1)), .int (z_i ls), .int (z_i du), .ref mt, .ref mf, .ref mc, .int (z_i kw)])), (ms, aI L 2 sco), (mb, aI L 52 bk), (mt, aI L 312 gm), (mf, aI L 6 fq), (mc, aL L 625 chn)] := hw
                        rw [hnb.2]
                        show J L X 4 0 0 [(mo, .inr (4, [.int (z_i len), .ref ms, .int (z_i 2), .int (z_i mv), .ref mb, .int (z_i stk), .int (z_i hol), .int (z_i cn), .int (z_i cs), .int (z_i hi), .int (z_i lo), .int (z_i (hs - 1)), .int (z_i ls), .int (z_i du), .ref mt, .ref mf, .ref mc, .int (z_i kw)])), (ms, aI L 2 sco), (mb, aI L 52 bk), (mt, aI L 312 gm), (mf, aI L 6 fq), (mc, aL L 625 chn)] [(3, .int (z_i k)), (0, .ref mo), (1, .int (z_i f)), (2, .int (z_i d))] [.int (z_i (tc_f (bd_hit (bp b0 b1 (1 - mv)) (f - d)))), .int (z_i mv), .ref mo] 183
                        refine J_aload_n E 1 d_M_move_183 rfl rfl ?_
                        refine g_M_16 E 0 rfl rfl d_M_move_184 ?_
                        refine J_imul E d_M_move_187 ?_
                        refine J_callV (wr := []) (rest := []) E kb_M_win t_2_204 t_2_206 ts_M_win (c_M_win L mo ms mb mt mf mc len 2 mv stk hol cn cs hi lo (hs - 1) ls du kw sco bk gm fq chn ((tc_f (bd_hit (bp b0 b1 (1 - mv)) (f - d))) * stk) hlen hmv hcs hsc (by rw [Int.mul_comm]; exact ga_in hstk _) hbk) (fun h => h) (Rm_h (by decide) (by decide)) [0, 1, 2, 3, 4, 5] [] rfl rfl rfl rfl (by decide) 0 rfl rfl rfl rfl (Nat.le_of_ble_eq_true rfl) d_M_move_188 (fun w' hw => ?_)
                        replace hw : (fun u => (len ≤ ((sco mv) + ((tc_f (bd_hit (bp b0 b1 (1 - mv)) (f - d))) * stk)) ∧ u = [(mo, .inr (4, [.int (z_i len), .ref ms, .int (z_i 4), .int (z_i mv), .ref mb, .int (z_i stk), .int (z_i hol), .int (z_i 0), .int (z_i cs), .int (z_i hi), .int (z_i lo), .int (z_i (hs - 1)), .int (z_i ls), .int (z_i du), .ref mt, .ref mf, .ref mc, .int (z_i kw)])), (ms, aI L 2 (z_u sco mv ((sco mv) + ((tc_f (bd_hit (bp b0 b1 (1 - mv)) (f - d))) * stk)))), (mb, aI L 52 bk), (mt, aI L 312 gm), (mf, aI L 6 fq), (mc, aL L 625 chn)]) ∨ (((sco mv) + ((tc_f (bd_hit (bp b0 b1 (1 - mv)) (f - d))) * stk)) < len ∧ ∃ bb2 : Int → Int, rb_ok bb2 st_men st_men ∧ u = [(mo, .inr (4, [.int (z_i len), .ref ms, .int (z_i 0), .int (z_i mv), .ref mb, .int (z_i 1), .int (z_i (-1)), .int (z_i (wn_c cs ((sco mv) + ((tc_f (bd_hit (bp b0 b1 (1 - mv)) (f - d))) * stk)) len)), .int (z_i (wn_s cs ((sco mv) + ((tc_f (bd_hit (bp b0 b1 (1 - mv)) (f - d))) * stk)) len)), .int (z_i hi), .int (z_i lo), .int (z_i (hs - 1)), .int (z_i ls), .int (z_i du), .ref mt, .ref mf, .ref mc, .int (z_i kw)])), (ms, aI L 2 (z_u sco mv ((sco mv) + ((tc_f (bd_hit (bp b0 b1 (1 - mv)) (f - d))) * stk)))), (mb, aI L 52 bb2), (mt, aI L 312 gm), (mf, aI L 6 fq), (mc, aL L 625 chn)])) w' := hw
                        rcases hw with ⟨hle, rfl⟩ | ⟨hle, bw, hbw, rfl⟩
                        · show J L X 4 0 0 [(mo, .inr (4, [.int (z_i len), .ref ms, .int (z_i 4), .int (z_i mv), .ref mb, .int (z_i stk), .int (z_i hol), .int (z_i 0), .int (z_i cs), .int (z_i hi), .int (z_i lo), .int (z_i (hs - 1)), .int (z_i ls), .int (z_i du), .ref mt, .ref mf, .ref mc, .int (z_i kw)])), (ms, aI L 2 (z_u sco mv ((sco mv) + ((tc_f (bd_hit (bp b0 b1 (1 - mv)) (f - d))) * stk)))), (mb, aI L 52 bk), (mt, aI L 312 gm), (mf, aI L 6 fq), (mc, aL L 625 chn)] [(3, .int (z_i k)), (0, .ref mo), (1, .int (z_i f)), (2, .int (z_i d))] [.int (z_i (10 * ((tc_f (bd_hit (bp b0 b1 (1 - mv)) (f - d))) * stk)))] 191
                          refine J_goto E 198 d_M_move_191 (by decide) ?_
                          exact J_ireturn E F (by rw [m_move_t hrt2, m_play_w h15, Int.mul_comm stk (tc_f (bd_hit (bp b0 b1 (1 - mv)) (f - d))), m_win_a hle]) (by rw [m_move_t hrt2, m_play_w h15, Int.mul_comm stk (tc_f (bd_hit (bp b0 b1 (1 - mv)) (f - d))), m_win_a hle, hdh, hdl]; exact ⟨du, kw, bk, gm, fq, chn, hrbn, hm.1, (fun q => absurd q (by decide)), hkw, rfl⟩) d_M_move_198
                        · show J L X 4 0 0 [(mo, .inr (4, [.int (z_i len), .ref ms, .int (z_i 0), .int (z_i mv), .ref mb, .int (z_i 1), .int (z_i (-1)), .int (z_i (wn_c cs ((sco mv) + ((tc_f (bd_hit (bp b0 b1 (1 - mv)) (f - d))) * stk)) len)), .int (z_i (wn_s cs ((sco mv) + ((tc_f (bd_hit (bp b0 b1 (1 - mv)) (f - d))) * stk)) len)), .int (z_i hi), .int (z_i lo), .int (z_i (hs - 1)), .int (z_i ls), .int (z_i du), .ref mt, .ref mf, .ref mc, .int (z_i kw)])), (ms, aI L 2 (z_u sco mv ((sco mv) + ((tc_f (bd_hit (bp b0 b1 (1 - mv)) (f - d))) * stk)))), (mb, aI L 52 bw), (mt, aI L 312 gm), (mf, aI L 6 fq), (mc, aL L 625 chn)] [(3, .int (z_i k)), (0, .ref mo), (1, .int (z_i f)), (2, .int (z_i d))] [.int (z_i (10 * ((tc_f (bd_hit (bp b0 b1 (1 - mv)) (f - d))) * stk)))] 191
                          refine J_goto E 198 d_M_move_191 (by decide) ?_
                          exact J_ireturn E F (by rw [m_move_t hrt2, m_play_w h15, Int.mul_comm stk (tc_f (bd_hit (bp b0 b1 (1 - mv)) (f - d))), m_win_b hle]) (by rw [m_move_t hrt2, m_play_w h15, Int.mul_comm stk (tc_f (bd_hit (bp b0 b1 (1 - mv)) (f - d))), m_win_b hle, hdh, hdl]; exact ⟨du, kw, bw, gm, fq, chn, hbw, hm.1, (fun q => absurd q (by decide)), hkw, rfl⟩) d_M_move_198
                  · refine J_aload_n E 1 d_M_move_68 rfl rfl ?_
                    refine g_M_13 E 0 rfl rfl d_M_move_69 ?_
                    refine J_bipush E d_M_move_72 (by decide) ?_
                    refine J_aload_n E 1 d_M_move_74 rfl rfl ?_
                    refine g_M_80 E 0 rfl rfl d_M_move_75 ?_
                    refine J_imul E d_M_move_78 ?_
                    refine J_iload_n E 0 d_M_move_79 rfl rfl ?_
                    refine J_iadd E d_M_move_80 ?_
                    refine J_aload_n E 1 d_M_move_81 rfl rfl ?_
                    refine g_M_23 E 0 rfl rfl d_M_move_82 ?_
                    refine J_bipush E d_M_move_85 (by decide) ?_
                    refine J_iload_n E 0 d_M_move_87 rfl rfl ?_
                    refine J_iadd E d_M_move_88 ?_
                    refine J_iald E 3 rfl (by decide) (by exact ⟨by omega, by omega⟩) d_M_move_89 ?_
                    refine J_iast E 2 [(mo, .inr (4, [.int (z_i len), .ref ms, .int (z_i 2), .int (z_i mv), .ref mb, .int (z_i stk), .int (z_i hol), .int (z_i cn), .int (z_i cs), .int (z_i hi), .int (z_i lo), .int (z_i hs), .int (z_i ls), .int (z_i du), .ref mt, .ref mf, .ref mc, .int (z_i kw)])), (ms, aI L 2 sco), (mb, aI L 52 (z_u bk ((26 * mv) + k) (gm (52 + k)))), (mt, aI L 312 gm), (mf, aI L 6 fq), (mc, aL L 625 chn)] rfl rfl (by decide) (by exact ⟨by omega, by omega⟩) d_M_move_90 ?_
                    refine J_aload_n E 1 d_M_move_91 rfl rfl ?_
                    refine g_M_13 E 0 rfl rfl d_M_move_92 ?_
                    refine J_bipush E d_M_move_95 (by decide) ?_
                    refine J_iconst E d_M_move_97 ?_
                    refine J_aload_n E 1 d_M_move_98 rfl rfl ?_
                    refine g_M_80 E 0 rfl rfl d_M_move_99 ?_
                    refine J_isub E d_M_move_102 ?_
                    refine J_imul E d_M_move_103 ?_
                    refine J_iload_n E 0 d_M_move_104 rfl rfl ?_
                    refine J_iadd E d_M_move_105 ?_
                    refine J_aload_n E 1 d_M_move_106 rfl rfl ?_
                    refine g_M_23 E 0 rfl rfl d_M_move_107 ?_
                    refine J_bipush E d_M_move_110 (by decide) ?_
                    refine J_iload_n E 0 d_M_move_112 rfl rfl ?_
                    refine J_iadd E d_M_move_113 ?_
                    refine J_iald E 3 rfl (by decide) (by exact ⟨by omega, by omega⟩) d_M_move_114 ?_
                    refine J_iast E 2 [(mo, .inr (4, [.int (z_i len), .ref ms, .int (z_i 2), .int (z_i mv), .ref mb, .int (z_i stk), .int (z_i hol), .int (z_i cn), .int (z_i cs), .int (z_i hi), .int (z_i lo), .int (z_i hs), .int (z_i ls), .int (z_i du), .ref mt, .ref mf, .ref mc, .int (z_i kw)])), (ms, aI L 2 sco), (mb, aI L 52 (z_u (z_u bk ((26 * mv) + k) (gm (52 + k))) ((26 * (1 - mv)) + k) (gm (78 + k)))), (mt, aI L 312 gm), (mf, aI L 6 fq), (mc, aL L 625 chn)] rfl rfl (by decide) (by exact ⟨by omega, by omega⟩) d_M_move_115 ?_
                    refine J_iinc E 0 [(3, .int (z_i (k + 1))), (0, .ref mo), (1, .int (z_i f)), (2, .int (z_i d))] d_M_move_116 rfl (by decide) rfl ?_
                    refine J_goto E 62 d_M_move_119 (by decide) ?_
                    exact ih62 (k + 1) (z_u (z_u bk ((26 * mv) + k) (gm (52 + k))) ((26 * (1 - mv)) + k) (gm (78 + k))) (by omega) (gb_u (gb_u hbk (hm.1 _)) (hm.1 _)) (fun x x1 x2 => mv_step hmv hr x x1 x2 (by omega)) (by omega)
              exact C62 _ 0 bb (by decide) hrb.1 (fun x x1 x2 => by omega) (Nat.lt_succ_self _)
            · have hrt := b2_not h38
              have hrt2 : ¬ rt_ok (bp b0 b1 mv) (bp b0 b1 (1 - mv)) (dcf hi lo hs ls) (m_due (bp b0 b1 mv) (bp b0 b1 (1 - mv)) hi lo hs ls) f d := by rw [← hdu2]; exact hrt
              refine J_bipush E d_M_move_41 (by decide) ?_
              exact J_ireturn E F (by rw [m_move_f hrt2]) (by rw [m_move_f hrt2]; exact ⟨du, kw, bb, gr, fq, chn, hrb, hgr, hdu, hkw, rfl⟩) d_M_move_43
  · refine J_iconst E d_M_move_8 ?_
    exact J_ireturn E F (by rw [m_move_o h5]) (by rw [m_move_o h5]; exact ⟨du, kw, bb, tr, fr, chn, hrb, hg, hdu, hkw, rfl⟩) d_M_move_9
