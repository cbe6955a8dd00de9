set_option maxHeartbeats 4000000 in
set_option maxRecDepth 100000 in
theorem c_M_find (L : Lx) (mo ms mb mt mf mc : Nat) (len stg mv stk hol cn cs hi lo hs ls du kw : Int) (sco bb tr fr chn : Int → Int) (b0 b1 : Int → Int) (k : Int) (hg : gb tr) (hrb : rb_ok bb b0 b1) (hb0 : bd_ok b0) (hb1 : bd_ok b1) (hmv : mv = 0 ∨ mv = 1) (hk : dk hi lo hs ls) (hdu4 : 0 ≤ du ∧ du ≤ 4) (hkk : z_r k) : CtG L y_M_find b_M_find 5 (some .int) (rmh 7) false 0 0 [.ref mo, .int (z_i k)] [(mo, .inr (4, [.int (z_i len), .ref ms, .int (z_i stg), .int (z_i mv), .ref mb, .int (z_i stk), .int (z_i hol), .int (z_i cn), .int (z_i cs), .int (z_i hi), .int (z_i lo), .int (z_i hs), .int (z_i ls), .int (z_i du), .ref mt, .ref mf, .ref mc, .int (z_i kw)])), (ms, aI L 2 sco), (mb, aI L 52 bb), (mt, aI L 312 tr), (mf, aI L 6 fr), (mc, aL L 625 chn)] (fun u => ∃ g2 f2 : Int → Int, gb g2 ∧ u = [(mo, .inr (4, [.int (z_i len), .ref ms, .int (z_i stg), .int (z_i mv), .ref mb, .int (z_i stk), .int (z_i hol), .int (z_i cn), .int (z_i cs), .int (z_i hi), .int (z_i lo), .int (z_i hs), .int (z_i ls), .int (z_i du), .ref mt, .ref mf, .ref mc, .int (z_i kw)])), (ms, aI L 2 sco), (mb, aI L 52 bb), (mt, aI L 312 g2), (mf, aI L 6 f2), (mc, aL L 625 chn)]) (some (.int (z_i (if k < 0 then rc (bp b0 b1 mv) (bp b0 b1 (1 - mv)) (dcf hi lo hs ls) du 150 else rf (bp b0 b1 mv) (bp b0 b1 (1 - mv)) (dcf hi lo hs ls) du k 150)))) := by
  refine CtG.of rfl (Nat.le_of_ble_eq_true rfl) (fun X E F => ?_)
  show J L X 5 0 0 [(mo, .inr (4, [.int (z_i len), .ref ms, .int (z_i stg), .int (z_i mv), .ref mb, .int (z_i stk), .int (z_i hol), .int (z_i cn), .int (z_i cs), .int (z_i hi), .int (z_i lo), .int (z_i hs), .int (z_i ls), .int (z_i du), .ref mt, .ref mf, .ref mc, .int (z_i kw)])), (ms, aI L 2 sco), (mb, aI L 52 bb), (mt, aI L 312 tr), (mf, aI L 6 fr), (mc, aL L 625 chn)] [(0, .ref mo), (1, .int (z_i k))] [] 0
  refine J_iconst E d_M_find_0 ?_
  refine J_istore_n E [(2, .int (z_i 0)), (0, .ref mo), (1, .int (z_i k))] d_M_find_1 rfl (by decide) rfl ?_
  refine J_bipush E d_M_find_2 (by decide) ?_
  refine J_istore_n E [(3, .int (z_i 25)), (2, .int (z_i 0)), (0, .ref mo), (1, .int (z_i k))] d_M_find_4 rfl (by decide) rfl ?_
  have C5 : ∀ (mm : Nat) (f : Int) (c : Int) (gk : Int → Int) (fk : Int → Int), (0 ≤ f ∧ f ≤ 25) → (c = rc (bp b0 b1 mv) (bp b0 b1 (1 - mv)) (dcf hi lo hs ls) du (6 * (25 - f) + (6 - 6)).toNat) → (rf (bp b0 b1 mv) (bp b0 b1 (1 - mv)) (dcf hi lo hs ls) du k 150 = rf (bp b0 b1 mv) (bp b0 b1 (1 - mv)) (dcf hi lo hs ls) du k (rf_r f 6)) → (gb gk) → f.toNat < mm → J L X 5 0 0 [(mo, .inr (4, [.int (z_i len), .ref ms, .int (z_i stg), .int (z_i mv), .ref mb, .int (z_i stk), .int (z_i hol), .int (z_i cn), .int (z_i cs), .int (z_i hi), .int (z_i lo), .int (z_i hs), .int (z_i ls), .int (z_i du), .ref mt, .ref mf, .ref mc, .int (z_i kw)])), (ms, aI L 2 sco), (mb, aI L 52 bb), (mt, aI L 312 gk), (mf, aI L 6 fk), (mc, aL L 625 chn)] [(3, .int (z_i f)), (2, .int (z_i c)), (0, .ref mo), (1, .int (z_i k))] [] 5 := by
    intro mm
    induction mm with
    | zero => intro f c gk fk hf he hr hgk hme; exact absurd hme (Nat.not_lt_zero _)
    | succ mm ih5 =>
      intro f c gk fk hf he hr hgk hme
      refine J_iload_n E 0 d_M_find_5 rfl rfl ?_
      refine J_if_le E 56 d_M_find_6 (by decide) (by exact ⟨by omega, by omega⟩) (fun h6 => ?_) (fun h6 => ?_)
      · refine J_iload_n E 3 d_M_find_56 rfl rfl ?_
        refine J_if_ge E 64 d_M_find_57 (by decide) (by exact ⟨by omega, by omega⟩) (fun h57 => ?_) (fun h57 => ?_)
        · refine J_bipush E d_M_find_64 (by decide) ?_
          exact J_ireturn E F (by rw [if_neg (by omega), hr, show f = 0 by omega]; rfl) ⟨gk, fk, hgk, rfl⟩ d_M_find_66
        · refine J_iload_n E 1 d_M_find_60 rfl rfl ?_
          refine J_goto E 66 d_M_find_61 (by decide) ?_
          exact J_ireturn E F (by rw [if_pos h57, he, show f = 0 by omega]; rfl) ⟨gk, fk, hgk, rfl⟩ d_M_find_66
      · refine J_bipush E d_M_find_9 (by decide) ?_
        refine J_istore E [(4, .int (z_i 6)), (3, .int (z_i f)), (2, .int (z_i c)), (0, .ref mo), (1, .int (z_i k))] d_M_find_11 (by decide) rfl ?_
        have C13 : ∀ (mm : Nat) (d : Int) (c2 : Int) (gk2 : Int → Int) (fk2 : Int → Int), (0 ≤ d ∧ d ≤ 6) → (c2 = rc (bp b0 b1 mv) (bp b0 b1 (1 - mv)) (dcf hi lo hs ls) du (6 * (25 - f) + (6 - d)).toNat) → (rf (bp b0 b1 mv) (bp b0 b1 (1 - mv)) (dcf hi lo hs ls) du k 150 = rf (bp b0 b1 mv) (bp b0 b1 (1 - mv)) (dcf hi lo hs ls) du k (rf_r f d)) → (gb gk2) → d.toNat < mm → J L X 5 0 0 [(mo, .inr (4, [.int (z_i len), .ref ms, .int (z_i stg), .int (z_i mv), .ref mb, .int (z_i stk), .int (z_i hol), .int (z_i cn), .int (z_i cs), .int (z_i hi), .int (z_i lo), .int (z_i hs), .int (z_i ls), .int (z_i du), .ref mt, .ref mf, .ref mc, .int (z_i kw)])), (ms, aI L 2 sco), (mb, aI L 52 bb), (mt, aI L 312 gk2), (mf, aI L 6 fk2), (mc, aL L 625 chn)] [(4, .int (z_i d)), (2, .int (z_i c2)), (3, .int (z_i f)), (0, .ref mo), (1, .int (z_i k))] [] 13 := by
          intro mm
          induction mm with
          | zero => intro d c2 gk2 fk2 hd he2 hr2 hgk2 hme; exact absurd hme (Nat.not_lt_zero _)
          | succ mm ih13 =>
            intro d c2 gk2 fk2 hd he2 hr2 hgk2 hme
            refine J_iload E 0 d_M_find_13 rfl ?_
            refine J_if_le E 50 d_M_find_15 (by decide) (by exact ⟨by omega, by omega⟩) (fun h15 => ?_) (fun h15 => ?_)
            · refine J_iinc E 2 [(3, .int (z_i (f + (-1)))), (4, .int (z_i d)), (2, .int (z_i c2)), (0, .ref mo), (1, .int (z_i k))] d_M_find_50 rfl (by decide) rfl ?_
              refine J_goto E 5 d_M_find_53 (by decide) ?_
              refine J_lv (lv' := [(3, .int (z_i (f + (-1)))), (2, .int (z_i c2)), (0, .ref mo), (1, .int (z_i k))]) [0, 2, 3, 4] rfl ?_
              exact ih5 (f + (-1)) c2 gk2 fk2 (by omega) (by rw [he2]; congr 1; omega) (by rw [hr2]; congr 1; unfold rf_r; omega) hgk2 (by omega)
            · refine J_aload_n E 3 d_M_find_18 rfl rfl ?_
              refine J_iload_n E 2 d_M_find_19 rfl rfl ?_
              refine J_iload E 0 d_M_find_20 rfl ?_
              refine J_callV (wr := []) (rest := []) E kb_M_right t_2_196 t_2_198 ts_M_right (c_M_right L mo ms mb mt mf mc len stg mv stk hol cn cs hi lo hs ls du kw sco bb gk2 fk2 chn b0 b1 f d hgk2 hrb hb0 hb1 hmv hk hdu4 ⟨by omega, by omega⟩ ⟨by omega, by omega⟩) (fun h => h) (Rm_h (by decide) (by decide)) [0, 1, 2, 3, 4, 5] [] rfl rfl rfl rfl (by decide) 0 rfl rfl rfl rfl (Nat.le_of_ble_eq_true rfl) d_M_find_22 (fun w' hw => ?_)
              obtain ⟨gr, fq, hgr, hw⟩ := hw
              obtain rfl : w' = [(mo, .inr (4, [.int (z_i len), .ref ms, .int (z_i stg), .int (z_i mv), .ref mb, .int (z_i stk), .int (z_i hol), .int (z_i cn), .int (z_i cs), .int (z_i hi), .int (z_i lo), .int (z_i hs), .int (z_i ls), .int (z_i du), .ref mt, .ref mf, .ref mc, .int (z_i kw)])), (ms, aI L 2 sco), (mb, aI L 52 bb), (mt, aI L 312 gr), (mf, aI L 6 fq), (mc, aL L 625 chn)] := hw
              show J L X 5 0 0 [(mo, .inr (4, [.int (z_i len), .ref ms, .int (z_i stg), .int (z_i mv), .ref mb, .int (z_i stk), .int (z_i hol), .int (z_i cn), .int (z_i cs), .int (z_i hi), .int (z_i lo), .int (z_i hs), .int (z_i ls), .int (z_i du), .ref mt, .ref mf, .ref mc, .int (z_i kw)])), (ms, aI L 2 sco), (mb, aI L 52 bb), (mt, aI L 312 gr), (mf, aI L 6 fq), (mc, aL L 625 chn)] [(4, .int (z_i d)), (2, .int (z_i c2)), (3, .int (z_i f)), (0, .ref mo), (1, .int (z_i k))] [.int (z_i (b2 (rt_ok (bp b0 b1 mv) (bp b0 b1 (1 - mv)) (dcf hi lo hs ls) du f d)))] 25
              refine J_if_eq E 44 d_M_find_25 (by decide) (b2_r _) (fun h25 => ?_) (fun h25 => ?_)
              · have hrt := b2_not h25
                refine J_iinc E 0 [(4, .int (z_i (d + (-1)))), (2, .int (z_i c2)), (3, .int (z_i f)), (0, .ref mo), (1, .int (z_i k))] d_M_find_44 rfl (by decide) rfl ?_
                refine J_goto E 13 d_M_find_47 (by decide) ?_
                exact ih13 (d + (-1)) c2 gr fq (by omega) (by rw [rc_f (by omega) (by omega) hrt]; exact he2) (by rw [hr2]; exact rf_f (by omega) (by omega) (fun z => hrt z.1)) hgr (by omega)
              · have hrt := b2_of h25
                refine J_iload_n E 1 d_M_find_28 rfl rfl ?_
                refine J_iload_n E 4 d_M_find_29 rfl rfl ?_
                refine J_icmp_ne E 41 d_M_find_30 (by decide) (by have := rc_in (bp b0 b1 mv) (bp b0 b1 (1 - mv)) (dcf hi lo hs ls) du (6 * (25 - f) + (6 - d)).toNat; exact ⟨⟨by omega, by omega⟩, by omega, by omega⟩) (fun h30 => ?_) (fun h30 => ?_)
                · refine J_iinc E 1 [(2, .int (z_i (c2 + 1))), (4, .int (z_i d)), (3, .int (z_i f)), (0, .ref mo), (1, .int (z_i k))] d_M_find_41 rfl (by decide) rfl ?_
                  refine J_iinc E 1 [(4, .int (z_i (d + (-1)))), (2, .int (z_i (c2 + 1))), (3, .int (z_i f)), (0, .ref mo), (1, .int (z_i k))] d_M_find_44 rfl (by decide) rfl ?_
                  refine J_goto E 13 d_M_find_47 (by decide) ?_
                  exact ih13 (d + (-1)) (c2 + 1) gr fq (by omega) (by rw [rc_t (by omega) (by omega) hrt, he2]) (by rw [hr2]; exact rf_f (by omega) (by omega) (fun z => h30 (by rw [he2]; exact z.2))) hgr (by omega)
                · refine J_bipush E d_M_find_33 (by decide) ?_
                  refine J_iload_n E 2 d_M_find_35 rfl rfl ?_
                  refine J_imul E d_M_find_36 ?_
                  refine J_iload E 0 d_M_find_37 rfl ?_
                  refine J_iadd E d_M_find_39 ?_
                  exact J_ireturn E F (by have q := rc_in (bp b0 b1 mv) (bp b0 b1 (1 - mv)) (dcf hi lo hs ls) du (6 * (25 - f) + (6 - d)).toNat; rw [if_neg (by omega), hr2]; exact (rf_t (by omega) (by omega) hrt (by rw [← he2]; exact h30)).symm) ⟨gr, fq, hgr, rfl⟩ d_M_find_40
        refine J_lv (lv' := [(4, .int (z_i 6)), (2, .int (z_i c)), (3, .int (z_i f)), (0, .ref mo), (1, .int (z_i k))]) [0, 2, 1, 3, 4] rfl ?_
        exact C13 _ 6 c gk fk (by decide) he hr hgk (Nat.lt_succ_self _)
  exact C5 _ 25 0 tr fr (by decide) rfl rfl hg (Nat.lt_succ_self _)
set_option maxHeartbeats 4000000 in
set_option maxRecDepth 100000 in
theorem c_M_step (L : Lx) (mo ms mb mt mf mc : Nat) (len stg mv stk hol cn cs hi lo hs ls du kw : Int) (sco bb tr fr chn : Int → Int) (b0 b1 : Int → Int) (k : Int) (hS : st_ok (len, stg, mv, stk, hol, cn, cs, sco, b0, b1, hi, lo, hs, ls)) (hrb : rb_ok bb b0 b1) (hg : gb tr) (hdu : stg = 2 → du = m_due (bp b0 b1 mv) (bp b0 b1 (1 - mv)) hi lo hs ls) (hkw : kw = 0 ∨ (kw = 1 ∧ ch_ok chn)) (hkk : z_r k) : CtG L y_M_step b_M_step 3 (some .int) (rmh 8) false 0 0 [.ref mo, .int (z_i k)] [(mo, .inr (4, [.int (z_i len), .ref ms, .int (z_i stg), .int (z_i mv), .ref mb, .int (z_i stk), .int (z_i hol), .int (z_i cn), .int (z_i cs), .int (z_i hi), .int (z_i lo), .int (z_i hs), .int (z_i ls), .int (z_i du), .ref mt, .ref mf, .ref mc, .int (z_i kw)])), (ms, aI L 2 sco), (mb, aI L 52 bb), (mt, aI L 312 tr), (mf, aI L 6 fr), (mc, aL L 625 chn)] (RR L mo ms mb mt mf mc (m_step (len, stg, mv, stk, hol, cn, cs, sco, b0, b1, hi, lo, hs, ls) k).2) (some (.int (z_i ((m_step (len, stg, mv, stk, hol, cn, cs, sco, b0, b1, hi, lo, hs, ls) k).1)))) := by
  have hS1 := hS
  obtain ⟨hlen, hstg, hmv, hstk, hhol, hcn, hcs, hsc, hsl, hb0, hb1, hdk⟩ := hS
  refine CtG.of rfl (Nat.le_of_ble_eq_true rfl) (fun X E F => ?_)
  show J L X 3 0 0 [(mo, .inr (4, [.int (z_i len), .ref ms, .int (z_i stg), .int (z_i mv), .ref mb, .int (z_i stk), .int (z_i hol), .int (z_i cn), .int (z_i cs), .int (z_i hi), .int (z_i lo), .int (z_i hs), .int (z_i ls), .int (z_i du), .ref mt, .ref mf, .ref mc, .int (z_i kw)])), (ms, aI L 2 sco), (mb, aI L 52 bb), (mt, aI L 312 tr), (mf, aI L 6 fr), (mc, aL L 625 chn)] [(0, .ref mo), (1, .int (z_i k))] [] 0
  refine J_aload_n E 0 d_M_step_0 rfl rfl ?_
  refine g_M_39 E 0 rfl rfl d_M_step_1 ?_
  refine J_iconst E d_M_step_4 ?_
  refine J_icmp_eq E 10 d_M_step_5 (by decide) (by exact ⟨⟨by omega, by omega⟩, ⟨by omega, by omega⟩⟩) (fun h5 => ?_) (fun h5 => ?_)
  · subst h5
    obtain ⟨hk, hd1⟩ := hdk rfl
    have hdu2 := hdu rfl
    have hkhi := hk.1
    have hklo := hk.2.1
    have hdu4 : 0 ≤ du ∧ du ≤ 4 := by rw [hdu2]; exact m_due_in hk
    have hS2 := hS1
    refine J_iload_n E 1 d_M_step_10 rfl rfl ?_
    refine J_if_ge E 19 d_M_step_11 (by decide) (by exact ⟨by omega, by omega⟩) (fun h11 => ?_) (fun h11 => ?_)
    · refine J_aload_n E 0 d_M_step_19 rfl rfl ?_
      refine J_iload_n E 1 d_M_step_20 rfl rfl ?_
      refine J_callV (wr := []) (rest := []) E kb_M_find t_2_212 t_2_214 ts_M_find (c_M_find L mo ms mb mt mf mc len 2 mv stk hol cn cs hi lo hs ls du kw sco bb tr fr chn b0 b1 k hg hrb hb0 hb1 hmv hk hdu4 hkk) (fun h => h) (Rm_h (by decide) (by decide)) [0, 1, 2, 3, 4, 5] [] rfl rfl rfl rfl (by decide) 0 rfl rfl rfl rfl (Nat.le_of_ble_eq_true rfl) d_M_step_21 (fun w' hw => ?_)
      obtain ⟨gf, ff, hgf, hw⟩ := hw
      obtain rfl : w' = [(mo, .inr (4, [.int (z_i len), .ref ms, .int (z_i 2), .int (z_i mv), .ref mb, .int (z_i stk), .int (z_i hol), .int (z_i cn), .int (z_i cs), .int (z_i hi), .int (z_i lo), .int (z_i hs), .int (z_i ls), .int (z_i du), .ref mt, .ref mf, .ref mc, .int (z_i kw)])), (ms, aI L 2 sco), (mb, aI L 52 bb), (mt, aI L 312 gf), (mf, aI L 6 ff), (mc, aL L 625 chn)] := hw
      rw [if_neg (by omega)]
      obtain ⟨rr, hrr⟩ : ∃ rr, rr = rf (bp b0 b1 mv) (bp b0 b1 (1 - mv)) (dcf hi lo hs ls) du k 150 := ⟨_, rfl⟩
      rw [← hrr]
      have hex := rf_ex (own := (bp b0 b1 mv)) (oth := (bp b0 b1 (1 - mv))) (dice := (dcf hi lo hs ls)) (us := du) (k := k) 150 (Nat.le_refl _)
      rw [← hrr] at hex
      have hrD : rf (bp b0 b1 mv) (bp b0 b1 (1 - mv)) (dcf hi lo hs ls) (m_due (bp b0 b1 mv) (bp b0 b1 (1 - mv)) hi lo hs ls) k 150 = rr := by rw [hrr, ← hdu2]
      have hri : rr = -2 ∨ (8 ≤ rr ∧ rr ≤ 206) := by rcases hex with e | ⟨f, d, q1, q2, q3, q4⟩; exact Or.inl e; exact Or.inr (by omega)
      show J L X 3 0 0 [(mo, .inr (4, [.int (z_i len), .ref ms, .int (z_i 2), .int (z_i mv), .ref mb, .int (z_i stk), .int (z_i hol), .int (z_i cn), .int (z_i cs), .int (z_i hi), .int (z_i lo), .int (z_i hs), .int (z_i ls), .int (z_i du), .ref mt, .ref mf, .ref mc, .int (z_i kw)])), (ms, aI L 2 sco), (mb, aI L 52 bb), (mt, aI L 312 gf), (mf, aI L 6 ff), (mc, aL L 625 chn)] [(0, .ref mo), (1, .int (z_i k))] [.int (z_i rr)] 24
      refine J_istore_n E [(2, .int (z_i rr)), (0, .ref mo), (1, .int (z_i k))] d_M_step_24 rfl (by decide) rfl ?_
      refine J_iload_n E 0 d_M_step_25 rfl rfl ?_
      refine J_if_ge E 34 d_M_step_26 (by decide) (by exact ⟨by omega, by omega⟩) (fun h26 => ?_) (fun h26 => ?_)
      · have hrr0 : 0 ≤ rr := h26
        have hrt : rt_ok (bp b0 b1 mv) (bp b0 b1 (1 - mv)) (dcf hi lo hs ls) (m_due (bp b0 b1 mv) (bp b0 b1 (1 - mv)) hi lo hs ls) (rr / 8) (rr % 8) := by rcases hex with e | ⟨f, d, q1, q2, q3, q4⟩; (exfalso; omega); rw [q4, show (8 * f + d) / 8 = f by omega, show (8 * f + d) % 8 = d by omega, ← hdu2]; exact q3
        refine J_aload_n E 1 d_M_step_34 rfl rfl ?_
        refine J_iload_n E 0 d_M_step_35 rfl rfl ?_
        refine J_bipush E d_M_step_36 (by decide) ?_
        refine J_idiv E d_M_step_38 (by exact ⟨by omega, by omega, by omega, by omega⟩) ?_
        refine J_iload_n E 0 d_M_step_39 rfl rfl ?_
        refine J_bipush E d_M_step_40 (by decide) ?_
        refine J_irem E d_M_step_42 (by exact ⟨by omega, by omega, by omega, by omega⟩) ?_
        refine J_callV (wr := []) (rest := []) E kb_M_move t_2_216 t_2_193 t_2_194 (c_M_move L mo ms mb mt mf mc len 2 mv stk hol cn cs hi lo hs ls du kw sco bb gf ff chn b0 b1 (rr / 8) (rr % 8) hS2 hrb hgf (fun _ => hdu2) hkw ⟨by omega, by omega⟩ ⟨by omega, by omega⟩) (fun h => h) (Rm_h (by decide) (by decide)) [0, 1, 2, 3, 4, 5] [] rfl rfl rfl rfl (by decide) 0 rfl rfl rfl rfl (Nat.le_of_ble_eq_true rfl) d_M_step_43 (fun w' hw => ?_)
        replace hw : (RR L mo ms mb mt mf mc (m_move (len, 2, mv, stk, hol, cn, cs, sco, b0, b1, hi, lo, hs, ls) (rr / 8) (rr % 8)).2) w' := hw
        show J L X 3 0 0 w' [(2, .int (z_i rr)), (0, .ref mo), (1, .int (z_i k))] [.int (z_i ((m_move (len, 2, mv, stk, hol, cn, cs, sco, b0, b1, hi, lo, hs, ls) (rr / 8) (rr % 8)).1))] 46
        exact J_ireturn E F (by rw [m_step_2, hrD, if_neg (by omega), ← m_move_t hrt]) (by rw [m_step_2, hrD, if_neg (by omega), ← m_move_t hrt]; exact hw) d_M_step_46
      · refine J_bipush E d_M_step_29 (by decide) ?_
        refine J_goto E 46 d_M_step_31 (by decide) ?_
        exact J_ireturn E F (by rw [m_step_f (hrD.trans (by omega))]) (by rw [m_step_f (hrD.trans (by omega))]; exact ⟨du, kw, bb, gf, ff, chn, hrb, hgf, hdu, hkw, rfl⟩) d_M_step_46
    · have hnf : rf (bp b0 b1 mv) (bp b0 b1 (1 - mv)) (dcf hi lo hs ls) (m_due (bp b0 b1 mv) (bp b0 b1 (1 - mv)) hi lo hs ls) k 150 = -2 := rf_neg h11 150
      refine J_bipush E d_M_step_14 (by decide) ?_
      refine J_goto E 24 d_M_step_16 (by decide) ?_
      refine J_istore_n E [(2, .int (z_i (-2))), (0, .ref mo), (1, .int (z_i k))] d_M_step_24 rfl (by decide) rfl ?_
      refine J_iload_n E 0 d_M_step_25 rfl rfl ?_
      refine J_if_ge E 34 d_M_step_26 (by decide) (by exact ⟨by omega, by omega⟩) (fun h26 => ?_) (fun h26 => ?_)
      · exact absurd h26 (by decide)
      · refine J_bipush E d_M_step_29 (by decide) ?_
        refine J_goto E 46 d_M_step_31 (by decide) ?_
        exact J_ireturn E F (by rw [m_step_f hnf]) (by rw [m_step_f hnf]; exact ⟨du, kw, bb, tr, fr, chn, hrb, hg, hdu, hkw, rfl⟩) d_M_step_46
  · refine J_iconst E d_M_step_8 ?_
    exact J_ireturn E F (by rw [m_step_o h5]) (by rw [m_step_o h5]; exact ⟨du, kw, bb, tr, fr, chn, hrb, hg, hdu, hkw, rfl⟩) d_M_step_9
