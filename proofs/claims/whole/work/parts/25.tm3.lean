set_option maxHeartbeats 4000000 in
set_option maxRecDepth 100000 in
theorem c_T_move_0 (L : Lx) (tm sc bo ra r0 r1 ho di rx kn : Nat) (gr : Nat → Option Nat) (len stg stk hol cn cs : Int) (sco b0 b1 : Int → Int) (us pl ct : Int) (dice kno : Int → Int) (hi lo hs ls : Int) (f d : Int) (g0 : gr 0 = some r0) (g1 : gr 1 = some r1) (hS : st_ok (len, stg, 0, stk, hol, cn, cs, sco, b0, b1, hi, lo, hs, ls)) (hH : hd_ok stg 0 b0 b1 hi lo hs ls dice us pl ct) (hmm : mm_ok kno) (hf : z_r f) (hd : z_r d) : CtG L y_T_move b_T_move 3 (some .int) (rmh 13) true 0 0 [.ref tm, .int (z_i f), .int (z_i d)] [(tm, .inr (3, [.int (z_i len), .ref sc, .ref bo, .ref ho, .ref rx, .int (z_i stg), .int (z_i 0), .int (z_i stk), .int (z_i hol), .int (z_i cn), .int (z_i cs)])), (sc, aI L 2 sco), (bo, .inr (0, [.ref ra])), (ra, aR L 2 gr), (r0, aI L 26 b0), (r1, aI L 26 b1), (ho, .inr (1, [.ref di, .int (z_i us), .ref bo, .int (z_i pl), .int (z_i ct)])), (di, aI L 7 dice), (rx, .inr (2, [.ref kn])), (kn, aL L 225 kno)] (RC L tm sc bo ra r0 r1 ho di rx kn gr (m_move (len, stg, 0, stk, hol, cn, cs, sco, b0, b1, hi, lo, hs, ls) f d).2) (some (.int (z_i ((m_move (len, stg, 0, stk, hol, cn, cs, sco, b0, b1, hi, lo, hs, ls) f d).1)))) := by
  obtain ⟨hlen, hstg, hmv, hstk, hhol, hcn, hcs, hsc, hsl, hb0, hb1, hdk⟩ := hS
  refine CtG.of rfl (Nat.le_of_ble_eq_true rfl) (fun X E F => ?_)
  show J L X 3 0 0 [(tm, .inr (3, [.int (z_i len), .ref sc, .ref bo, .ref ho, .ref rx, .int (z_i stg), .int (z_i 0), .int (z_i stk), .int (z_i hol), .int (z_i cn), .int (z_i cs)])), (sc, aI L 2 sco), (bo, .inr (0, [.ref ra])), (ra, aR L 2 gr), (r0, aI L 26 b0), (r1, aI L 26 b1), (ho, .inr (1, [.ref di, .int (z_i us), .ref bo, .int (z_i pl), .int (z_i ct)])), (di, aI L 7 dice), (rx, .inr (2, [.ref kn])), (kn, aL L 225 kno)] [(0, .ref tm), (1, .int (z_i f)), (2, .int (z_i d))] [] 0
  refine J_aload_n E 0 d_T_move_0 rfl rfl ?_
  refine g_T_52 E 0 rfl rfl d_T_move_1 ?_
  refine J_iconst E d_T_move_4 ?_
  refine J_icmp_eq E 10 d_T_move_5 (by decide) (by exact ⟨⟨by omega, by omega⟩, ⟨by omega, by omega⟩⟩) (fun h5 => ?_) (fun h5 => ?_)
  · subst h5
    obtain ⟨hpl, hct, hus, hdi⟩ := hH.2 rfl
    obtain ⟨hk, hd1⟩ := hdk rfl
    subst hpl
    replace hus : us = m_due b0 b1 hi lo hs ls := hus
    have hu4 : 0 ≤ us ∧ us ≤ 4 := by rw [hus]; exact m_due_in hk
    have hct2 : ct = bd_sum dice := by rw [hct, ← dcf_sum hk]; exact (sum_cong hdi).symm
    have hc4 : ct ≤ 4 := by have := hk.2.2.2.2.2.1; omega
    have hc := hH.1
    refine J_aload_n E 0 d_T_move_10 rfl rfl ?_
    refine g_T_25 E 0 rfl rfl d_T_move_11 ?_
    refine J_iload_n E 1 d_T_move_14 rfl rfl ?_
    refine J_iload_n E 2 d_T_move_15 rfl rfl ?_
    refine J_callV (wr := [(tm, .inr (3, [.int (z_i len), .ref sc, .ref bo, .ref ho, .ref rx, .int (z_i 2), .int (z_i 0), .int (z_i stk), .int (z_i hol), .int (z_i cn), .int (z_i cs)])), (sc, aI L 2 sco), (rx, .inr (2, [.ref kn])), (kn, aL L 225 kno)]) (rest := []) E kb_H_isRight t_1_174 t_1_175 t_1_176 (c_H_isRight L ho di bo ra r0 r1 gr b0 b1 0 dice us ct f d (Or.inl rfl) g0 g1 hb0 hb1 hc hct2 hc4 hu4 ⟨by omega, by omega⟩ ⟨by omega, by omega⟩) (fun _ => rfl) (Rm_h (by decide) (by decide)) [6, 7, 2, 3, 4, 5] [0, 1, 8, 9] rfl rfl rfl rfl (by decide) 0 rfl rfl rfl rfl (Nat.le_of_ble_eq_true rfl) d_T_move_16 (fun w' hw => ?_)
    obtain rfl : w' = [(ho, .inr (1, [.ref di, .int (z_i us), .ref bo, .int (z_i 0), .int (z_i ct)])), (di, aI L 7 dice), (bo, .inr (0, [.ref ra])), (ra, aR L 2 gr), (r0, aI L 26 b0), (r1, aI L 26 b1)] := hw
    show J L X 3 0 0 [(tm, .inr (3, [.int (z_i len), .ref sc, .ref bo, .ref ho, .ref rx, .int (z_i 2), .int (z_i 0), .int (z_i stk), .int (z_i hol), .int (z_i cn), .int (z_i cs)])), (sc, aI L 2 sco), (rx, .inr (2, [.ref kn])), (kn, aL L 225 kno), (ho, .inr (1, [.ref di, .int (z_i us), .ref bo, .int (z_i 0), .int (z_i ct)])), (di, aI L 7 dice), (bo, .inr (0, [.ref ra])), (ra, aR L 2 gr), (r0, aI L 26 b0), (r1, aI L 26 b1)] [(0, .ref tm), (1, .int (z_i f)), (2, .int (z_i d))] [.int (z_i (b2 (rt_ok b0 b1 dice us f d)))] 19
    refine J_if_eq E 31 d_T_move_19 (by decide) (b2_r _) (fun h19 => ?_) (fun h19 => ?_)
    · have hrt := b2_not h19
      have hrt2 : ¬ rt_ok b0 b1 (dcf hi lo hs ls) (m_due b0 b1 hi lo hs ls) f d := by rw [← hus]; exact fun z => hrt ((rt_cong hdi us f d).mpr z)
      refine J_bipush E d_T_move_31 (by decide) ?_
      refine J_ws (ws' := [(tm, .inr (3, [.int (z_i len), .ref sc, .ref bo, .ref ho, .ref rx, .int (z_i 2), .int (z_i 0), .int (z_i stk), .int (z_i hol), .int (z_i cn), .int (z_i cs)])), (sc, aI L 2 sco), (bo, .inr (0, [.ref ra])), (ra, aR L 2 gr), (r0, aI L 26 b0), (r1, aI L 26 b1), (ho, .inr (1, [.ref di, .int (z_i us), .ref bo, .int (z_i 0), .int (z_i ct)])), (di, aI L 7 dice), (rx, .inr (2, [.ref kn])), (kn, aL L 225 kno)]) [0, 1, 6, 7, 8, 9, 4, 5, 2, 3] rfl rfl ?_
      exact J_ireturn E F (by rw [m_move_f (mv := 0) hrt2]) (by rw [m_move_f (mv := 0) hrt2]; exact ⟨us, 0, ct, dice, kno, hH, hmm, rfl⟩) d_T_move_33
    · have hrt := b2_of h19
      have hrt2 : rt_ok b0 b1 (dcf hi lo hs ls) (m_due b0 b1 hi lo hs ls) f d := by rw [← hus]; exact (rt_cong hdi us f d).mp hrt
      refine J_aload_n E 0 d_T_move_22 rfl rfl ?_
      refine J_iload_n E 1 d_T_move_23 rfl rfl ?_
      refine J_iload_n E 2 d_T_move_24 rfl rfl ?_
      refine J_callV (wr := []) (rest := []) E kb_T_play t_1_188 t_1_190 ts_T_play (c_T_play_0 L tm sc bo ra r0 r1 ho di rx kn gr len stk hol cn cs sco b0 b1 us ct dice kno hi lo hs ls f d g0 g1 hlen hstk hcs hsc hb0 hb1 hk hc hct hu4 hdi hmm hrt) (fun _ => rfl) (Rm_h (by decide) (by decide)) [0, 1, 6, 7, 8, 9, 4, 5, 2, 3] [] rfl rfl rfl rfl (by decide) 0 rfl rfl rfl rfl (Nat.le_of_ble_eq_true rfl) d_T_move_25 (fun w' hw => ?_)
      replace hw : (RC L tm sc bo ra r0 r1 ho di rx kn gr (m_play len 2 0 stk hol cn cs sco b0 b1 hi lo hs ls f d).2) w' := hw
      show J L X 3 0 0 w' [(0, .ref tm), (1, .int (z_i f)), (2, .int (z_i d))] [.int (z_i ((m_play len 2 0 stk hol cn cs sco b0 b1 hi lo hs ls f d).1))] 28
      refine J_goto E 33 d_T_move_28 (by decide) ?_
      exact J_ireturn E F (by rw [m_move_t (mv := 0) hrt2]) (by rw [m_move_t (mv := 0) hrt2]; exact hw) d_T_move_33
  · refine J_iconst E d_T_move_8 ?_
    exact J_ireturn E F (by rw [m_move_o h5]) (by rw [m_move_o h5]; exact ⟨us, pl, ct, dice, kno, hH, hmm, rfl⟩) d_T_move_9
set_option maxHeartbeats 4000000 in
set_option maxRecDepth 100000 in
theorem c_T_step_0 (L : Lx) (tm sc bo ra r0 r1 ho di rx kn : Nat) (gr : Nat → Option Nat) (len stg stk hol cn cs : Int) (sco b0 b1 : Int → Int) (us pl ct : Int) (dice kno : Int → Int) (hi lo hs ls : Int) (k : Int) (g0 : gr 0 = some r0) (g1 : gr 1 = some r1) (hS : st_ok (len, stg, 0, stk, hol, cn, cs, sco, b0, b1, hi, lo, hs, ls)) (hH : hd_ok stg 0 b0 b1 hi lo hs ls dice us pl ct) (hmm : mm_ok kno) (hkk : z_r k) : CtG L y_T_step b_T_step 5 (some .int) (rmh 13) true 0 0 [.ref tm, .int (z_i k)] [(tm, .inr (3, [.int (z_i len), .ref sc, .ref bo, .ref ho, .ref rx, .int (z_i stg), .int (z_i 0), .int (z_i stk), .int (z_i hol), .int (z_i cn), .int (z_i cs)])), (sc, aI L 2 sco), (bo, .inr (0, [.ref ra])), (ra, aR L 2 gr), (r0, aI L 26 b0), (r1, aI L 26 b1), (ho, .inr (1, [.ref di, .int (z_i us), .ref bo, .int (z_i pl), .int (z_i ct)])), (di, aI L 7 dice), (rx, .inr (2, [.ref kn])), (kn, aL L 225 kno)] (RC L tm sc bo ra r0 r1 ho di rx kn gr (m_step (len, stg, 0, stk, hol, cn, cs, sco, b0, b1, hi, lo, hs, ls) k).2) (some (.int (z_i ((m_step (len, stg, 0, stk, hol, cn, cs, sco, b0, b1, hi, lo, hs, ls) k).1)))) := by
  obtain ⟨hlen, hstg, hmv, hstk, hhol, hcn, hcs, hsc, hsl, hb0, hb1, hdk⟩ := hS
  refine CtG.of rfl (Nat.le_of_ble_eq_true rfl) (fun X E F => ?_)
  show J L X 5 0 0 [(tm, .inr (3, [.int (z_i len), .ref sc, .ref bo, .ref ho, .ref rx, .int (z_i stg), .int (z_i 0), .int (z_i stk), .int (z_i hol), .int (z_i cn), .int (z_i cs)])), (sc, aI L 2 sco), (bo, .inr (0, [.ref ra])), (ra, aR L 2 gr), (r0, aI L 26 b0), (r1, aI L 26 b1), (ho, .inr (1, [.ref di, .int (z_i us), .ref bo, .int (z_i pl), .int (z_i ct)])), (di, aI L 7 dice), (rx, .inr (2, [.ref kn])), (kn, aL L 225 kno)] [(0, .ref tm), (1, .int (z_i k))] [] 0
  refine J_aload_n E 0 d_T_step_0 rfl rfl ?_
  refine g_T_52 E 0 rfl rfl d_T_step_1 ?_
  refine J_iconst E d_T_step_4 ?_
  refine J_icmp_eq E 10 d_T_step_5 (by decide) (by exact ⟨⟨by omega, by omega⟩, ⟨by omega, by omega⟩⟩) (fun h5 => ?_) (fun h5 => ?_)
  · subst h5
    obtain ⟨hpl, hct, hus, hdi⟩ := hH.2 rfl
    obtain ⟨hk, hd1⟩ := hdk rfl
    subst hpl
    replace hus : us = m_due b0 b1 hi lo hs ls := hus
    have hu4 : 0 ≤ us ∧ us ≤ 4 := by rw [hus]; exact m_due_in hk
    have hct2 : ct = bd_sum dice := by rw [hct, ← dcf_sum hk]; exact (sum_cong hdi).symm
    have hc4 : ct ≤ 4 := by have := hk.2.2.2.2.2.1; omega
    have hc := hH.1
    refine J_iconst E d_T_step_10 ?_
    refine J_istore_n E [(2, .int (z_i 0)), (0, .ref tm), (1, .int (z_i k))] d_T_step_11 rfl (by decide) rfl ?_
    refine J_bipush E d_T_step_12 (by decide) ?_
    refine J_istore_n E [(3, .int (z_i 25)), (2, .int (z_i 0)), (0, .ref tm), (1, .int (z_i k))] d_T_step_14 rfl (by decide) rfl ?_
    have C15 : ∀ (mm : Nat) (f : Int) (c : Int), (0 ≤ f ∧ f ≤ 25) → (c = rc b0 b1 dice us (6 * (25 - f) + (6 - 6)).toNat) → (rf b0 b1 dice us k 150 = rf b0 b1 dice us k (rf_r f 6)) → f.toNat < mm → J L X 5 0 0 [(tm, .inr (3, [.int (z_i len), .ref sc, .ref bo, .ref ho, .ref rx, .int (z_i 2), .int (z_i 0), .int (z_i stk), .int (z_i hol), .int (z_i cn), .int (z_i cs)])), (sc, aI L 2 sco), (bo, .inr (0, [.ref ra])), (ra, aR L 2 gr), (r0, aI L 26 b0), (r1, aI L 26 b1), (ho, .inr (1, [.ref di, .int (z_i us), .ref bo, .int (z_i 0), .int (z_i ct)])), (di, aI L 7 dice), (rx, .inr (2, [.ref kn])), (kn, aL L 225 kno)] [(3, .int (z_i f)), (2, .int (z_i c)), (0, .ref tm), (1, .int (z_i k))] [] 15 := by
      intro mm
      induction mm with
      | zero => intro f c hf he hr hme; exact absurd hme (Nat.not_lt_zero _)
      | succ mm ih15 =>
        intro f c hf he hr hme
        refine J_iload_n E 0 d_T_step_15 rfl rfl ?_
        refine J_iconst E d_T_step_16 ?_
        refine J_icmp_lt E 71 d_T_step_17 (by decide) (by exact ⟨⟨by omega, by omega⟩, ⟨by omega, by omega⟩⟩) (fun h17 => ?_) (fun h17 => ?_)
        · have hnf : rf b0 b1 (dcf hi lo hs ls) (m_due b0 b1 hi lo hs ls) k 150 = -2 := by rw [← hus, ← rf_cong hdi us k, hr, show f = 0 by omega]; rfl
          refine J_bipush E d_T_step_71 (by decide) ?_
          exact J_ireturn E F (by rw [m_step_f (mv := 0) hnf]) (by rw [m_step_f (mv := 0) hnf]; exact ⟨us, 0, ct, dice, kno, hH, hmm, rfl⟩) d_T_step_73
        · refine J_bipush E d_T_step_20 (by decide) ?_
          refine J_istore E [(4, .int (z_i 6)), (3, .int (z_i f)), (2, .int (z_i c)), (0, .ref tm), (1, .int (z_i k))] d_T_step_22 (by decide) rfl ?_
          have C24 : ∀ (mm : Nat) (d : Int) (c2 : Int), (0 ≤ d ∧ d ≤ 6) → (c2 = rc b0 b1 dice us (6 * (25 - f) + (6 - d)).toNat) → (rf b0 b1 dice us k 150 = rf b0 b1 dice us k (rf_r f d)) → d.toNat < mm → J L X 5 0 0 [(tm, .inr (3, [.int (z_i len), .ref sc, .ref bo, .ref ho, .ref rx, .int (z_i 2), .int (z_i 0), .int (z_i stk), .int (z_i hol), .int (z_i cn), .int (z_i cs)])), (sc, aI L 2 sco), (bo, .inr (0, [.ref ra])), (ra, aR L 2 gr), (r0, aI L 26 b0), (r1, aI L 26 b1), (ho, .inr (1, [.ref di, .int (z_i us), .ref bo, .int (z_i 0), .int (z_i ct)])), (di, aI L 7 dice), (rx, .inr (2, [.ref kn])), (kn, aL L 225 kno)] [(4, .int (z_i d)), (2, .int (z_i c2)), (3, .int (z_i f)), (0, .ref tm), (1, .int (z_i k))] [] 24 := by
            intro mm
            induction mm with
            | zero => intro d c2 hd he2 hr2 hme; exact absurd hme (Nat.not_lt_zero _)
            | succ mm ih24 =>
              intro d c2 hd he2 hr2 hme
              refine J_iload E 0 d_T_step_24 rfl ?_
              refine J_iconst E d_T_step_26 ?_
              refine J_icmp_lt E 65 d_T_step_27 (by decide) (by exact ⟨⟨by omega, by omega⟩, ⟨by omega, by omega⟩⟩) (fun h27 => ?_) (fun h27 => ?_)
              · refine J_iinc E 2 [(3, .int (z_i (f + (-1)))), (4, .int (z_i d)), (2, .int (z_i c2)), (0, .ref tm), (1, .int (z_i k))] d_T_step_65 rfl (by decide) rfl ?_
                refine J_goto E 15 d_T_step_68 (by decide) ?_
                refine J_lv (lv' := [(3, .int (z_i (f + (-1)))), (2, .int (z_i c2)), (0, .ref tm), (1, .int (z_i k))]) [0, 2, 3, 4] rfl ?_
                exact ih15 (f + (-1)) c2 (by omega) (by rw [he2]; congr 1; omega) (by rw [hr2]; congr 1; unfold rf_r; omega) (by omega)
              · refine J_aload_n E 3 d_T_step_30 rfl rfl ?_
                refine g_T_25 E 0 rfl rfl d_T_step_31 ?_
                refine J_iload_n E 2 d_T_step_34 rfl rfl ?_
                refine J_iload E 0 d_T_step_35 rfl ?_
                refine J_callV (wr := [(tm, .inr (3, [.int (z_i len), .ref sc, .ref bo, .ref ho, .ref rx, .int (z_i 2), .int (z_i 0), .int (z_i stk), .int (z_i hol), .int (z_i cn), .int (z_i cs)])), (sc, aI L 2 sco), (rx, .inr (2, [.ref kn])), (kn, aL L 225 kno)]) (rest := []) E kb_H_isRight t_1_174 t_1_175 t_1_176 (c_H_isRight L ho di bo ra r0 r1 gr b0 b1 0 dice us ct f d (Or.inl rfl) g0 g1 hb0 hb1 hc hct2 hc4 hu4 ⟨by omega, by omega⟩ ⟨by omega, by omega⟩) (fun _ => rfl) (Rm_h (by decide) (by decide)) [6, 7, 2, 3, 4, 5] [0, 1, 8, 9] rfl rfl rfl rfl (by decide) 0 rfl rfl rfl rfl (Nat.le_of_ble_eq_true rfl) d_T_step_37 (fun w' hw => ?_)
                obtain rfl : w' = [(ho, .inr (1, [.ref di, .int (z_i us), .ref bo, .int (z_i 0), .int (z_i ct)])), (di, aI L 7 dice), (bo, .inr (0, [.ref ra])), (ra, aR L 2 gr), (r0, aI L 26 b0), (r1, aI L 26 b1)] := hw
                show J L X 5 0 0 [(tm, .inr (3, [.int (z_i len), .ref sc, .ref bo, .ref ho, .ref rx, .int (z_i 2), .int (z_i 0), .int (z_i stk), .int (z_i hol), .int (z_i cn), .int (z_i cs)])), (sc, aI L 2 sco), (rx, .inr (2, [.ref kn])), (kn, aL L 225 kno), (ho, .inr (1, [.ref di, .int (z_i us), .ref bo, .int (z_i 0), .int (z_i ct)])), (di, aI L 7 dice), (bo, .inr (0, [.ref ra])), (ra, aR L 2 gr), (r0, aI L 26 b0), (r1, aI L 26 b1)] [(4, .int (z_i d)), (2, .int (z_i c2)), (3, .int (z_i f)), (0, .ref tm), (1, .int (z_i k))] [.int (z_i (b2 (rt_ok b0 b1 dice us f d)))] 40
                refine J_if_eq E 59 d_T_step_40 (by decide) (b2_r _) (fun h40 => ?_) (fun h40 => ?_)
                · have hrt := b2_not h40
                  refine J_iinc E 0 [(4, .int (z_i (d + (-1)))), (2, .int (z_i c2)), (3, .int (z_i f)), (0, .ref tm), (1, .int (z_i k))] d_T_step_59 rfl (by decide) rfl ?_
                  refine J_goto E 24 d_T_step_62 (by decide) ?_
                  refine J_ws (ws' := [(tm, .inr (3, [.int (z_i len), .ref sc, .ref bo, .ref ho, .ref rx, .int (z_i 2), .int (z_i 0), .int (z_i stk), .int (z_i hol), .int (z_i cn), .int (z_i cs)])), (sc, aI L 2 sco), (bo, .inr (0, [.ref ra])), (ra, aR L 2 gr), (r0, aI L 26 b0), (r1, aI L 26 b1), (ho, .inr (1, [.ref di, .int (z_i us), .ref bo, .int (z_i 0), .int (z_i ct)])), (di, aI L 7 dice), (rx, .inr (2, [.ref kn])), (kn, aL L 225 kno)]) [0, 1, 6, 7, 8, 9, 4, 5, 2, 3] rfl rfl ?_
                  exact ih24 (d + (-1)) c2 (by omega) (by rw [rc_f (by omega) (by omega) hrt]; exact he2) (by rw [hr2]; exact rf_f (by omega) (by omega) (fun z => hrt z.1)) (by omega)
                · have hrt := b2_of h40
                  refine J_iload_n E 1 d_T_step_43 rfl rfl ?_
                  refine J_iload_n E 4 d_T_step_44 rfl rfl ?_
                  refine J_icmp_ne E 56 d_T_step_45 (by decide) (by have := rc_in b0 b1 dice us (6 * (25 - f) + (6 - d)).toNat; exact ⟨⟨by omega, by omega⟩, by omega, by omega⟩) (fun h45 => ?_) (fun h45 => ?_)
                  · refine J_iinc E 1 [(2, .int (z_i (c2 + 1))), (4, .int (z_i d)), (3, .int (z_i f)), (0, .ref tm), (1, .int (z_i k))] d_T_step_56 rfl (by decide) rfl ?_
                    refine J_iinc E 1 [(4, .int (z_i (d + (-1)))), (2, .int (z_i (c2 + 1))), (3, .int (z_i f)), (0, .ref tm), (1, .int (z_i k))] d_T_step_59 rfl (by decide) rfl ?_
                    refine J_goto E 24 d_T_step_62 (by decide) ?_
                    refine J_ws (ws' := [(tm, .inr (3, [.int (z_i len), .ref sc, .ref bo, .ref ho, .ref rx, .int (z_i 2), .int (z_i 0), .int (z_i stk), .int (z_i hol), .int (z_i cn), .int (z_i cs)])), (sc, aI L 2 sco), (bo, .inr (0, [.ref ra])), (ra, aR L 2 gr), (r0, aI L 26 b0), (r1, aI L 26 b1), (ho, .inr (1, [.ref di, .int (z_i us), .ref bo, .int (z_i 0), .int (z_i ct)])), (di, aI L 7 dice), (rx, .inr (2, [.ref kn])), (kn, aL L 225 kno)]) [0, 1, 6, 7, 8, 9, 4, 5, 2, 3] rfl rfl ?_
                    exact ih24 (d + (-1)) (c2 + 1) (by omega) (by rw [rc_t (by omega) (by omega) hrt, he2]) (by rw [hr2]; exact rf_f (by omega) (by omega) (fun z => h45 (by rw [he2]; exact z.2))) (by omega)
                  · have hrf : rf b0 b1 dice us k 150 = 8 * f + d := by rw [hr2]; exact rf_t (by omega) (by omega) hrt (by rw [← he2]; exact h45)
                    have hrf2 : rf b0 b1 (dcf hi lo hs ls) (m_due b0 b1 hi lo hs ls) k 150 = 8 * f + d := by rw [← hus, ← rf_cong hdi us k]; exact hrf
                    refine J_aload_n E 3 d_T_step_48 rfl rfl ?_
                    refine J_iload_n E 2 d_T_step_49 rfl rfl ?_
                    refine J_iload E 0 d_T_step_50 rfl ?_
                    refine J_callV (wr := []) (rest := []) E kb_T_play t_1_188 t_1_190 ts_T_play (c_T_play_0 L tm sc bo ra r0 r1 ho di rx kn gr len stk hol cn cs sco b0 b1 us ct dice kno hi lo hs ls f d g0 g1 hlen hstk hcs hsc hb0 hb1 hk hc hct hu4 hdi hmm hrt) (fun _ => rfl) (Rm_h (by decide) (by decide)) [0, 1, 6, 7, 8, 9, 4, 5, 2, 3] [] rfl rfl rfl rfl (by decide) 0 rfl rfl rfl rfl (Nat.le_of_ble_eq_true rfl) d_T_step_52 (fun w' hw => ?_)
                    replace hw : (RC L tm sc bo ra r0 r1 ho di rx kn gr (m_play len 2 0 stk hol cn cs sco b0 b1 hi lo hs ls f d).2) w' := hw
                    show J L X 5 0 0 w' [(4, .int (z_i d)), (2, .int (z_i c2)), (3, .int (z_i f)), (0, .ref tm), (1, .int (z_i k))] [.int (z_i ((m_play len 2 0 stk hol cn cs sco b0 b1 hi lo hs ls f d).1))] 55
                    exact J_ireturn E F (by rw [m_step_t (mv := 0) (by omega) (by omega) hrf2]) (by rw [m_step_t (mv := 0) (by omega) (by omega) hrf2]; exact hw) d_T_step_55
          refine J_lv (lv' := [(4, .int (z_i 6)), (2, .int (z_i c)), (3, .int (z_i f)), (0, .ref tm), (1, .int (z_i k))]) [0, 2, 1, 3, 4] rfl ?_
          exact C24 _ 6 c (by decide) he hr (Nat.lt_succ_self _)
    exact C15 _ 25 0 (by decide) rfl rfl (Nat.lt_succ_self _)
  · refine J_iconst E d_T_step_8 ?_
    exact J_ireturn E F (by rw [m_step_o h5]) (by rw [m_step_o h5]; exact ⟨us, pl, ct, dice, kno, hH, hmm, rfl⟩) d_T_step_9
set_option maxHeartbeats 4000000 in
set_option maxRecDepth 100000 in
theorem c_T_ways_0 (L : Lx) (tm sc bo ra r0 r1 ho di rx kn : Nat) (gr : Nat → Option Nat) (len stg stk hol cn cs : Int) (sco b0 b1 : Int → Int) (us pl ct : Int) (dice kno : Int → Int) (hi lo hs ls : Int)  (g0 : gr 0 = some r0) (g1 : gr 1 = some r1) (hS : st_ok (len, stg, 0, stk, hol, cn, cs, sco, b0, b1, hi, lo, hs, ls)) (hH : hd_ok stg 0 b0 b1 hi lo hs ls dice us pl ct) (hmm : mm_ok kno) : CtG L y_T_ways b_T_ways 1 (some .int) (rmh 14) false 0 0 [.ref tm] [(tm, .inr (3, [.int (z_i len), .ref sc, .ref bo, .ref ho, .ref rx, .int (z_i stg), .int (z_i 0), .int (z_i stk), .int (z_i hol), .int (z_i cn), .int (z_i cs)])), (sc, aI L 2 sco), (bo, .inr (0, [.ref ra])), (ra, aR L 2 gr), (r0, aI L 26 b0), (r1, aI L 26 b1), (ho, .inr (1, [.ref di, .int (z_i us), .ref bo, .int (z_i pl), .int (z_i ct)])), (di, aI L 7 dice), (rx, .inr (2, [.ref kn])), (kn, aL L 225 kno)] (RC L tm sc bo ra r0 r1 ho di rx kn gr (len, stg, 0, stk, hol, cn, cs, sco, b0, b1, hi, lo, hs, ls)) (some (.int (z_i (m_ways (len, stg, 0, stk, hol, cn, cs, sco, b0, b1, hi, lo, hs, ls))))) := by
  obtain ⟨hlen, hstg, hmv, hstk, hhol, hcn, hcs, hsc, hsl, hb0, hb1, hdk⟩ := hS
  refine CtG.of rfl (Nat.le_of_ble_eq_true rfl) (fun X E F => ?_)
  show J L X 1 0 0 [(tm, .inr (3, [.int (z_i len), .ref sc, .ref bo, .ref ho, .ref rx, .int (z_i stg), .int (z_i 0), .int (z_i stk), .int (z_i hol), .int (z_i cn), .int (z_i cs)])), (sc, aI L 2 sco), (bo, .inr (0, [.ref ra])), (ra, aR L 2 gr), (r0, aI L 26 b0), (r1, aI L 26 b1), (ho, .inr (1, [.ref di, .int (z_i us), .ref bo, .int (z_i pl), .int (z_i ct)])), (di, aI L 7 dice), (rx, .inr (2, [.ref kn])), (kn, aL L 225 kno)] [(0, .ref tm)] [] 0
  refine J_aload_n E 0 d_T_ways_0 rfl rfl ?_
  refine g_T_52 E 0 rfl rfl d_T_ways_1 ?_
  refine J_iconst E d_T_ways_4 ?_
  refine J_icmp_ne E 18 d_T_ways_5 (by decide) (by exact ⟨⟨by omega, by omega⟩, ⟨by omega, by omega⟩⟩) (fun h5 => ?_) (fun h5 => ?_)
  · refine J_iconst E d_T_ways_18 ?_
    exact J_ireturn E F (if_neg h5).symm ⟨us, pl, ct, dice, kno, hH, hmm, rfl⟩ d_T_ways_19
  · subst h5
    obtain ⟨hpl, hct, hus, hdi⟩ := hH.2 rfl
    obtain ⟨hk, hd1⟩ := hdk rfl
    subst hpl
    replace hus : us = m_due b0 b1 hi lo hs ls := hus
    have hu4 : 0 ≤ us ∧ us ≤ 4 := by rw [hus]; exact m_due_in hk
    have hct2 : ct = bd_sum dice := by rw [hct, ← dcf_sum hk]; exact (sum_cong hdi).symm
    have hc4 : ct ≤ 4 := by have := hk.2.2.2.2.2.1; omega
    have hc := hH.1
    refine J_aload_n E 0 d_T_ways_8 rfl rfl ?_
    refine g_T_25 E 0 rfl rfl d_T_ways_9 ?_
    refine J_callV (wr := [(tm, .inr (3, [.int (z_i len), .ref sc, .ref bo, .ref ho, .ref rx, .int (z_i 2), .int (z_i 0), .int (z_i stk), .int (z_i hol), .int (z_i cn), .int (z_i cs)])), (sc, aI L 2 sco), (rx, .inr (2, [.ref kn])), (kn, aL L 225 kno)]) (rest := []) E kb_H_countRight t_1_216 t_1_217 t_1_218 (c_H_countRight L ho di bo ra r0 r1 gr b0 b1 0 dice us ct (Or.inl rfl) g0 g1 hb0 hb1 hc hct2 hc4 hu4) (fun h => h) (Rm_h (by decide) (by decide)) [6, 7, 2, 3, 4, 5] [0, 1, 8, 9] rfl rfl rfl rfl (by decide) 0 rfl rfl rfl rfl (Nat.le_of_ble_eq_true rfl) d_T_ways_12 (fun w' hw => ?_)
    obtain rfl : w' = [(ho, .inr (1, [.ref di, .int (z_i us), .ref bo, .int (z_i 0), .int (z_i ct)])), (di, aI L 7 dice), (bo, .inr (0, [.ref ra])), (ra, aR L 2 gr), (r0, aI L 26 b0), (r1, aI L 26 b1)] := hw
    show J L X 1 0 0 [(tm, .inr (3, [.int (z_i len), .ref sc, .ref bo, .ref ho, .ref rx, .int (z_i 2), .int (z_i 0), .int (z_i stk), .int (z_i hol), .int (z_i cn), .int (z_i cs)])), (sc, aI L 2 sco), (rx, .inr (2, [.ref kn])), (kn, aL L 225 kno), (ho, .inr (1, [.ref di, .int (z_i us), .ref bo, .int (z_i 0), .int (z_i ct)])), (di, aI L 7 dice), (bo, .inr (0, [.ref ra])), (ra, aR L 2 gr), (r0, aI L 26 b0), (r1, aI L 26 b1)] [(0, .ref tm)] [.int (z_i (rc b0 b1 dice us 150))] 15
    refine J_goto E 19 d_T_ways_15 (by decide) ?_
    refine J_ws (ws' := [(tm, .inr (3, [.int (z_i len), .ref sc, .ref bo, .ref ho, .ref rx, .int (z_i 2), .int (z_i 0), .int (z_i stk), .int (z_i hol), .int (z_i cn), .int (z_i cs)])), (sc, aI L 2 sco), (bo, .inr (0, [.ref ra])), (ra, aR L 2 gr), (r0, aI L 26 b0), (r1, aI L 26 b1), (ho, .inr (1, [.ref di, .int (z_i us), .ref bo, .int (z_i 0), .int (z_i ct)])), (di, aI L 7 dice), (rx, .inr (2, [.ref kn])), (kn, aL L 225 kno)]) [0, 1, 6, 7, 8, 9, 4, 5, 2, 3] rfl rfl ?_
    exact J_ireturn E F (by rw [rc_cong hdi us, hus]; rfl) ⟨us, 0, ct, dice, kno, hH, hmm, rfl⟩ d_T_ways_19
set_option maxHeartbeats 4000000 in
set_option maxRecDepth 100000 in
theorem c_T_due_0 (L : Lx) (tm sc bo ra r0 r1 ho di rx kn : Nat) (gr : Nat → Option Nat) (len stg stk hol cn cs : Int) (sco b0 b1 : Int → Int) (us pl ct : Int) (dice kno : Int → Int) (hi lo hs ls : Int)  (g0 : gr 0 = some r0) (g1 : gr 1 = some r1) (hS : st_ok (len, stg, 0, stk, hol, cn, cs, sco, b0, b1, hi, lo, hs, ls)) (hH : hd_ok stg 0 b0 b1 hi lo hs ls dice us pl ct) (hmm : mm_ok kno) : CtG L y_T_due b_T_due 1 (some .int) (rmh 1) false 0 0 [.ref tm] [(tm, .inr (3, [.int (z_i len), .ref sc, .ref bo, .ref ho, .ref rx, .int (z_i stg), .int (z_i 0), .int (z_i stk), .int (z_i hol), .int (z_i cn), .int (z_i cs)])), (sc, aI L 2 sco), (bo, .inr (0, [.ref ra])), (ra, aR L 2 gr), (r0, aI L 26 b0), (r1, aI L 26 b1), (ho, .inr (1, [.ref di, .int (z_i us), .ref bo, .int (z_i pl), .int (z_i ct)])), (di, aI L 7 dice), (rx, .inr (2, [.ref kn])), (kn, aL L 225 kno)] (RC L tm sc bo ra r0 r1 ho di rx kn gr (len, stg, 0, stk, hol, cn, cs, sco, b0, b1, hi, lo, hs, ls)) (some (.int (z_i (m_dueA (len, stg, 0, stk, hol, cn, cs, sco, b0, b1, hi, lo, hs, ls))))) := by
  obtain ⟨hlen, hstg, hmv, hstk, hhol, hcn, hcs, hsc, hsl, hb0, hb1, hdk⟩ := hS
  refine CtG.of rfl (Nat.le_of_ble_eq_true rfl) (fun X E F => ?_)
  show J L X 1 0 0 [(tm, .inr (3, [.int (z_i len), .ref sc, .ref bo, .ref ho, .ref rx, .int (z_i stg), .int (z_i 0), .int (z_i stk), .int (z_i hol), .int (z_i cn), .int (z_i cs)])), (sc, aI L 2 sco), (bo, .inr (0, [.ref ra])), (ra, aR L 2 gr), (r0, aI L 26 b0), (r1, aI L 26 b1), (ho, .inr (1, [.ref di, .int (z_i us), .ref bo, .int (z_i pl), .int (z_i ct)])), (di, aI L 7 dice), (rx, .inr (2, [.ref kn])), (kn, aL L 225 kno)] [(0, .ref tm)] [] 0
  refine J_aload_n E 0 d_T_due_0 rfl rfl ?_
  refine g_T_52 E 0 rfl rfl d_T_due_1 ?_
  refine J_iconst E d_T_due_4 ?_
  refine J_icmp_ne E 18 d_T_due_5 (by decide) (by exact ⟨⟨by omega, by omega⟩, ⟨by omega, by omega⟩⟩) (fun h5 => ?_) (fun h5 => ?_)
  · refine J_iconst E d_T_due_18 ?_
    exact J_ireturn E F (if_neg h5).symm ⟨us, pl, ct, dice, kno, hH, hmm, rfl⟩ d_T_due_19
  · subst h5
    obtain ⟨hpl, hct, hus, hdi⟩ := hH.2 rfl
    obtain ⟨hk, hd1⟩ := hdk rfl
    subst hpl
    replace hus : us = m_due b0 b1 hi lo hs ls := hus
    have hu4 : 0 ≤ us ∧ us ≤ 4 := by rw [hus]; exact m_due_in hk
    have hct2 : ct = bd_sum dice := by rw [hct, ← dcf_sum hk]; exact (sum_cong hdi).symm
    have hc4 : ct ≤ 4 := by have := hk.2.2.2.2.2.1; omega
    have hc := hH.1
    refine J_aload_n E 0 d_T_due_8 rfl rfl ?_
    refine g_T_25 E 0 rfl rfl d_T_due_9 ?_
    refine g_T_87 E 6 rfl rfl d_T_due_12 ?_
    refine J_goto E 19 d_T_due_15 (by decide) ?_
    exact J_ireturn E F (hus.trans rfl) ⟨us, 0, ct, dice, kno, hH, hmm, rfl⟩ d_T_due_19
set_option maxHeartbeats 4000000 in
set_option maxRecDepth 100000 in
theorem c_T_roll_0 (L : Lx) (tm sc bo ra r0 r1 ho di rx kn : Nat) (gr : Nat → Option Nat) (len stg stk hol cn cs : Int) (sco b0 b1 : Int → Int) (us pl ct : Int) (dice kno : Int → Int) (hi lo hs ls : Int) (a b : Int) (g0 : gr 0 = some r0) (g1 : gr 1 = some r1) (hS : st_ok (len, stg, 0, stk, hol, cn, cs, sco, b0, b1, hi, lo, hs, ls)) (hH : hd_ok stg 0 b0 b1 hi lo hs ls dice us pl ct) (hmm : mm_ok kno) (ha : z_r a) (hb : z_r b) : CtG L y_T_roll b_T_roll 3 (some .int) (rmh 13) false 0 0 [.ref tm, .int (z_i a), .int (z_i b)] [(tm, .inr (3, [.int (z_i len), .ref sc, .ref bo, .ref ho, .ref rx, .int (z_i stg), .int (z_i 0), .int (z_i stk), .int (z_i hol), .int (z_i cn), .int (z_i cs)])), (sc, aI L 2 sco), (bo, .inr (0, [.ref ra])), (ra, aR L 2 gr), (r0, aI L 26 b0), (r1, aI L 26 b1), (ho, .inr (1, [.ref di, .int (z_i us), .ref bo, .int (z_i pl), .int (z_i ct)])), (di, aI L 7 dice), (rx, .inr (2, [.ref kn])), (kn, aL L 225 kno)] (RC L tm sc bo ra r0 r1 ho di rx kn gr (m_roll (len, stg, 0, stk, hol, cn, cs, sco, b0, b1, hi, lo, hs, ls) a b).2) (some (.int (z_i ((m_roll (len, stg, 0, stk, hol, cn, cs, sco, b0, b1, hi, lo, hs, ls) a b).1)))) := by
  obtain ⟨hlen, hstg, hmv, hstk, hhol, hcn, hcs, hsc, hsl, hb0, hb1, hdk⟩ := hS
  refine CtG.of rfl (Nat.le_of_ble_eq_true rfl) (fun X E F => ?_)
  show J L X 3 0 0 [(tm, .inr (3, [.int (z_i len), .ref sc, .ref bo, .ref ho, .ref rx, .int (z_i stg), .int (z_i 0), .int (z_i stk), .int (z_i hol), .int (z_i cn), .int (z_i cs)])), (sc, aI L 2 sco), (bo, .inr (0, [.ref ra])), (ra, aR L 2 gr), (r0, aI L 26 b0), (r1, aI L 26 b1), (ho, .inr (1, [.ref di, .int (z_i us), .ref bo, .int (z_i pl), .int (z_i ct)])), (di, aI L 7 dice), (rx, .inr (2, [.ref kn])), (kn, aL L 225 kno)] [(0, .ref tm), (1, .int (z_i a)), (2, .int (z_i b))] [] 0
  refine J_aload_n E 0 d_T_roll_0 rfl rfl ?_
  refine g_T_52 E 0 rfl rfl d_T_roll_1 ?_
  refine J_if_eq E 17 d_T_roll_4 (by decide) (by exact ⟨by omega, by omega⟩) (fun h4 => ?_) (fun h4 => ?_)
  · subst h4
    refine J_iload_n E 1 d_T_roll_17 rfl rfl ?_
    refine J_callS (wr := [(tm, .inr (3, [.int (z_i len), .ref sc, .ref bo, .ref ho, .ref rx, .int (z_i 0), .int (z_i 0), .int (z_i stk), .int (z_i hol), .int (z_i cn), .int (z_i cs)])), (sc, aI L 2 sco), (bo, .inr (0, [.ref ra])), (ra, aR L 2 gr), (r0, aI L 26 b0), (r1, aI L 26 b1), (ho, .inr (1, [.ref di, .int (z_i us), .ref bo, .int (z_i pl), .int (z_i ct)])), (di, aI L 7 dice), (rx, .inr (2, [.ref kn])), (kn, aL L 225 kno)]) (rest := []) E kb_T_isNumber t_1_133 t_1_134 (c_T_isNumber L a ha) (fun h => h) (Rm_h (by decide) (by decide)) [] [0, 1, 2, 3, 4, 5, 6, 7, 8, 9] rfl rfl rfl rfl (by decide) rfl rfl (Nat.le_of_ble_eq_true rfl) d_T_roll_18 (fun w' hw => ?_)
    obtain rfl : w' = [] := hw
    show J L X 3 0 0 [(tm, .inr (3, [.int (z_i len), .ref sc, .ref bo, .ref ho, .ref rx, .int (z_i 0), .int (z_i 0), .int (z_i stk), .int (z_i hol), .int (z_i cn), .int (z_i cs)])), (sc, aI L 2 sco), (bo, .inr (0, [.ref ra])), (ra, aR L 2 gr), (r0, aI L 26 b0), (r1, aI L 26 b1), (ho, .inr (1, [.ref di, .int (z_i us), .ref bo, .int (z_i pl), .int (z_i ct)])), (di, aI L 7 dice), (rx, .inr (2, [.ref kn])), (kn, aL L 225 kno)] [(0, .ref tm), (1, .int (z_i a)), (2, .int (z_i b))] [.int (z_i (b2 (1 ≤ a ∧ a ≤ 6)))] 21
    refine J_if_eq E 31 d_T_roll_21 (by decide) (b2_r _) (fun h21 => ?_) (fun h21 => ?_)
    · have hda := b2_not h21
      refine J_iconst E d_T_roll_31 ?_
      exact J_ireturn E F (by rw [m_roll_o (by omega)]) (by rw [m_roll_o (by omega)]; exact ⟨us, pl, ct, dice, kno, hH, hmm, rfl⟩) d_T_roll_32
    · have hda := b2_of h21
      refine J_iload_n E 2 d_T_roll_24 rfl rfl ?_
      refine J_callS (wr := [(tm, .inr (3, [.int (z_i len), .ref sc, .ref bo, .ref ho, .ref rx, .int (z_i 0), .int (z_i 0), .int (z_i stk), .int (z_i hol), .int (z_i cn), .int (z_i cs)])), (sc, aI L 2 sco), (bo, .inr (0, [.ref ra])), (ra, aR L 2 gr), (r0, aI L 26 b0), (r1, aI L 26 b1), (ho, .inr (1, [.ref di, .int (z_i us), .ref bo, .int (z_i pl), .int (z_i ct)])), (di, aI L 7 dice), (rx, .inr (2, [.ref kn])), (kn, aL L 225 kno)]) (rest := []) E kb_T_isNumber t_1_133 t_1_134 (c_T_isNumber L b hb) (fun h => h) (Rm_h (by decide) (by decide)) [] [0, 1, 2, 3, 4, 5, 6, 7, 8, 9] rfl rfl rfl rfl (by decide) rfl rfl (Nat.le_of_ble_eq_true rfl) d_T_roll_25 (fun w' hw => ?_)
      obtain rfl : w' = [] := hw
      show J L X 3 0 0 [(tm, .inr (3, [.int (z_i len), .ref sc, .ref bo, .ref ho, .ref rx, .int (z_i 0), .int (z_i 0), .int (z_i stk), .int (z_i hol), .int (z_i cn), .int (z_i cs)])), (sc, aI L 2 sco), (bo, .inr (0, [.ref ra])), (ra, aR L 2 gr), (r0, aI L 26 b0), (r1, aI L 26 b1), (ho, .inr (1, [.ref di, .int (z_i us), .ref bo, .int (z_i pl), .int (z_i ct)])), (di, aI L 7 dice), (rx, .inr (2, [.ref kn])), (kn, aL L 225 kno)] [(0, .ref tm), (1, .int (z_i a)), (2, .int (z_i b))] [.int (z_i (b2 (1 ≤ b ∧ b ≤ 6)))] 28
      refine J_if_ne E 33 d_T_roll_28 (by decide) (b2_r _) (fun h28 => ?_) (fun h28 => ?_)
      · have hdb := b2_of h28
        refine J_aload_n E 0 d_T_roll_33 rfl rfl ?_
        refine g_T_52 E 0 rfl rfl d_T_roll_34 ?_
        refine J_if_ne E 61 d_T_roll_37 (by decide) (by exact ⟨by omega, by omega⟩) (fun h37 => ?_) (fun h37 => ?_)
        · exact absurd rfl h37
        · refine J_iload_n E 1 d_T_roll_40 rfl rfl ?_
          refine J_iload_n E 2 d_T_roll_41 rfl rfl ?_
          refine J_icmp_ne E 47 d_T_roll_42 (by decide) (by exact ⟨⟨by omega, by omega⟩, ⟨by omega, by omega⟩⟩) (fun h42 => ?_) (fun h42 => ?_)
          · refine J_aload_n E 0 d_T_roll_47 rfl rfl ?_
            refine J_iload_n E 1 d_T_roll_48 rfl rfl ?_
            refine J_iload_n E 2 d_T_roll_49 rfl rfl ?_
            refine J_icmp_le E 57 d_T_roll_50 (by decide) (by exact ⟨⟨by omega, by omega⟩, ⟨by omega, by omega⟩⟩) (fun h50 => ?_) (fun h50 => ?_)
            · refine J_iconst E d_T_roll_57 ?_
              refine p_T_66 E 0 [(tm, .inr (3, [.int (z_i len), .ref sc, .ref bo, .ref ho, .ref rx, .int (z_i 0), .int (z_i 1), .int (z_i stk), .int (z_i hol), .int (z_i cn), .int (z_i cs)])), (sc, aI L 2 sco), (bo, .inr (0, [.ref ra])), (ra, aR L 2 gr), (r0, aI L 26 b0), (r1, aI L 26 b1), (ho, .inr (1, [.ref di, .int (z_i us), .ref bo, .int (z_i pl), .int (z_i ct)])), (di, aI L 7 dice), (rx, .inr (2, [.ref kn])), (kn, aL L 225 kno)] rfl rfl (Nat.le_of_ble_eq_true rfl) d_T_roll_58 ?_
              refine J_aload_n E 0 d_T_roll_61 rfl rfl ?_
              refine J_iconst E d_T_roll_62 ?_
              refine p_T_52 E 0 [(tm, .inr (3, [.int (z_i len), .ref sc, .ref bo, .ref ho, .ref rx, .int (z_i 2), .int (z_i 1), .int (z_i stk), .int (z_i hol), .int (z_i cn), .int (z_i cs)])), (sc, aI L 2 sco), (bo, .inr (0, [.ref ra])), (ra, aR L 2 gr), (r0, aI L 26 b0), (r1, aI L 26 b1), (ho, .inr (1, [.ref di, .int (z_i us), .ref bo, .int (z_i pl), .int (z_i ct)])), (di, aI L 7 dice), (rx, .inr (2, [.ref kn])), (kn, aL L 225 kno)] rfl rfl (Nat.le_of_ble_eq_true rfl) d_T_roll_63 ?_
              refine J_aload_n E 0 d_T_roll_66 rfl rfl ?_
              refine g_T_25 E 0 rfl rfl d_T_roll_67 ?_
              refine J_aload_n E 0 d_T_roll_70 rfl rfl ?_
              refine g_T_66 E 0 rfl rfl d_T_roll_71 ?_
              refine J_iload_n E 1 d_T_roll_74 rfl rfl ?_
              refine J_iload_n E 2 d_T_roll_75 rfl rfl ?_
              refine J_callV (wr := [(tm, .inr (3, [.int (z_i len), .ref sc, .ref bo, .ref ho, .ref rx, .int (z_i 2), .int (z_i 1), .int (z_i stk), .int (z_i hol), .int (z_i cn), .int (z_i cs)])), (sc, aI L 2 sco), (rx, .inr (2, [.ref kn])), (kn, aL L 225 kno)]) (rest := []) E kb_H_take t_1_136 t_1_137 t_1_138 (c_H_take L ho di bo ra r1 r0 gr b1 b0 pl dice us ct 1 a b (Or.inr rfl) g1 g0 hb1 hb0 hH.1 hda hdb) (fun h => h) (Rm_h (by decide) (by decide)) [6, 7, 2, 3, 5, 4] [0, 1, 8, 9] rfl rfl rfl rfl (by decide) 0 rfl rfl rfl rfl (Nat.le_of_ble_eq_true rfl) d_T_roll_76 (fun w' hw => ?_)
              obtain rfl : w' = [(ho, .inr (1, [.ref di, .int (z_i (((bd_due b0 (tk_d dice a b) b1 : Nat) : Int))), .ref bo, .int (z_i 1), .int (z_i (2 * (tk_n a b)))])), (di, aI L 7 (tk_d dice a b)), (bo, .inr (0, [.ref ra])), (ra, aR L 2 gr), (r1, aI L 26 b1), (r0, aI L 26 b0)] := hw
              show J L X 3 0 0 [(tm, .inr (3, [.int (z_i len), .ref sc, .ref bo, .ref ho, .ref rx, .int (z_i 2), .int (z_i 1), .int (z_i stk), .int (z_i hol), .int (z_i cn), .int (z_i cs)])), (sc, aI L 2 sco), (rx, .inr (2, [.ref kn])), (kn, aL L 225 kno), (ho, .inr (1, [.ref di, .int (z_i (((bd_due b0 (tk_d dice a b) b1 : Nat) : Int))), .ref bo, .int (z_i 1), .int (z_i (2 * (tk_n a b)))])), (di, aI L 7 (tk_d dice a b)), (bo, .inr (0, [.ref ra])), (ra, aR L 2 gr), (r1, aI L 26 b1), (r0, aI L 26 b0)] [(0, .ref tm), (1, .int (z_i a)), (2, .int (z_i b))] [] 79
              refine J_aload_n E 0 d_T_roll_79 rfl rfl ?_
              refine J_callV (wr := []) (rest := []) E kb_T_endTurnIfDone t_1_166 t_1_168 ts_T_endTurnIfDone (c_T_endTurnIfDone L tm sc bo ra r0 r1 ho di rx kn gr len 2 1 stk hol cn cs sco b0 b1 (((bd_due b0 (tk_d dice a b) b1 : Nat) : Int)) 1 (2 * (tk_n a b)) (tk_d dice a b) kno g0 g1 (by rw [tk_due dice b1 b0 hda hdb]; exact m_due_in (b_dk hda hdb))) (fun h => h) (Rm_h (by decide) (by decide)) [0, 1, 6, 7, 9, 8, 4, 5, 2, 3] [] rfl rfl rfl rfl (by decide) 0 rfl rfl rfl rfl (Nat.le_of_ble_eq_true rfl) d_T_roll_80 (fun w' hw => ?_)
              replace hw : (fun u => ((((bd_due b0 (tk_d dice a b) b1 : Nat) : Int)) = 0 ∧ u = [(tm, .inr (3, [.int (z_i len), .ref sc, .ref bo, .ref ho, .ref rx, .int (z_i 1), .int (z_i (1 - 1)), .int (z_i stk), .int (z_i hol), .int (z_i cn), .int (z_i cs)])), (sc, aI L 2 sco), (bo, .inr (0, [.ref ra])), (ra, aR L 2 gr), (r0, aI L 26 b0), (r1, aI L 26 b1), (ho, .inr (1, [.ref di, .int (z_i (((bd_due b0 (tk_d dice a b) b1 : Nat) : Int))), .ref bo, .int (z_i 1), .int (z_i (2 * (tk_n a b)))])), (di, aI L 7 (tk_d dice a b)), (rx, .inr (2, [.ref kn])), (kn, aL L 225 kno)]) ∨ ((((bd_due b0 (tk_d dice a b) b1 : Nat) : Int)) ≠ 0 ∧ u = [(tm, .inr (3, [.int (z_i len), .ref sc, .ref bo, .ref ho, .ref rx, .int (z_i 2), .int (z_i 1), .int (z_i stk), .int (z_i hol), .int (z_i cn), .int (z_i cs)])), (sc, aI L 2 sco), (bo, .inr (0, [.ref ra])), (ra, aR L 2 gr), (r0, aI L 26 b0), (r1, aI L 26 b1), (ho, .inr (1, [.ref di, .int (z_i (((bd_due b0 (tk_d dice a b) b1 : Nat) : Int))), .ref bo, .int (z_i 1), .int (z_i (2 * (tk_n a b)))])), (di, aI L 7 (tk_d dice a b)), (rx, .inr (2, [.ref kn])), (kn, aL L 225 kno)])) w' := hw
              rcases hw with ⟨hz, rfl⟩ | ⟨hz, rfl⟩
              · have hdu := tk_due dice b1 b0 hda hdb
                show J L X 3 0 0 [(tm, .inr (3, [.int (z_i len), .ref sc, .ref bo, .ref ho, .ref rx, .int (z_i 1), .int (z_i (1 - 1)), .int (z_i stk), .int (z_i hol), .int (z_i cn), .int (z_i cs)])), (sc, aI L 2 sco), (bo, .inr (0, [.ref ra])), (ra, aR L 2 gr), (r0, aI L 26 b0), (r1, aI L 26 b1), (ho, .inr (1, [.ref di, .int (z_i (((bd_due b0 (tk_d dice a b) b1 : Nat) : Int))), .ref bo, .int (z_i 1), .int (z_i (2 * (tk_n a b)))])), (di, aI L 7 (tk_d dice a b)), (rx, .inr (2, [.ref kn])), (kn, aL L 225 kno)] [(0, .ref tm), (1, .int (z_i a)), (2, .int (z_i b))] [.int (z_i (((bd_due b0 (tk_d dice a b) b1 : Nat) : Int)))] 83
                exact J_ireturn E F (by rw [m_roll_01 hda hdb h42 h50, m_begin_z1 (hdu ▸ hz)]; exact hz) (by rw [m_roll_01 hda hdb h42 h50, m_begin_z1 (hdu ▸ hz)]; exact ⟨(((bd_due b0 (tk_d dice a b) b1 : Nat) : Int)), 1, (2 * (tk_n a b)), (tk_d dice a b), kno, ⟨tk_ok hH.1 hda hdb, fun z => absurd z (by decide)⟩, hmm, rfl⟩) d_T_roll_83
              · have hdu := tk_due dice b1 b0 hda hdb
                show J L X 3 0 0 [(tm, .inr (3, [.int (z_i len), .ref sc, .ref bo, .ref ho, .ref rx, .int (z_i 2), .int (z_i 1), .int (z_i stk), .int (z_i hol), .int (z_i cn), .int (z_i cs)])), (sc, aI L 2 sco), (bo, .inr (0, [.ref ra])), (ra, aR L 2 gr), (r0, aI L 26 b0), (r1, aI L 26 b1), (ho, .inr (1, [.ref di, .int (z_i (((bd_due b0 (tk_d dice a b) b1 : Nat) : Int))), .ref bo, .int (z_i 1), .int (z_i (2 * (tk_n a b)))])), (di, aI L 7 (tk_d dice a b)), (rx, .inr (2, [.ref kn])), (kn, aL L 225 kno)] [(0, .ref tm), (1, .int (z_i a)), (2, .int (z_i b))] [.int (z_i (((bd_due b0 (tk_d dice a b) b1 : Nat) : Int)))] 83
                exact J_ireturn E F (by rw [m_roll_01 hda hdb h42 h50, m_begin_n1 (hdu ▸ hz)]; exact hdu) (by rw [m_roll_01 hda hdb h42 h50, m_begin_n1 (hdu ▸ hz)]; exact ⟨(((bd_due b0 (tk_d dice a b) b1 : Nat) : Int)), 1, (2 * (tk_n a b)), (tk_d dice a b), kno, ⟨tk_ok hH.1 hda hdb, fun _ => ⟨rfl, tk_ct a b, hdu, tk_dcf dice hda hdb⟩⟩, hmm, rfl⟩) d_T_roll_83
            · refine J_iconst E d_T_roll_53 ?_
              refine J_goto E 58 d_T_roll_54 (by decide) ?_
              refine p_T_66 E 0 [(tm, .inr (3, [.int (z_i len), .ref sc, .ref bo, .ref ho, .ref rx, .int (z_i 0), .int (z_i 0), .int (z_i stk), .int (z_i hol), .int (z_i cn), .int (z_i cs)])), (sc, aI L 2 sco), (bo, .inr (0, [.ref ra])), (ra, aR L 2 gr), (r0, aI L 26 b0), (r1, aI L 26 b1), (ho, .inr (1, [.ref di, .int (z_i us), .ref bo, .int (z_i pl), .int (z_i ct)])), (di, aI L 7 dice), (rx, .inr (2, [.ref kn])), (kn, aL L 225 kno)] rfl rfl (Nat.le_of_ble_eq_true rfl) d_T_roll_58 ?_
              refine J_aload_n E 0 d_T_roll_61 rfl rfl ?_
              refine J_iconst E d_T_roll_62 ?_
              refine p_T_52 E 0 [(tm, .inr (3, [.int (z_i len), .ref sc, .ref bo, .ref ho, .ref rx, .int (z_i 2), .int (z_i 0), .int (z_i stk), .int (z_i hol), .int (z_i cn), .int (z_i cs)])), (sc, aI L 2 sco), (bo, .inr (0, [.ref ra])), (ra, aR L 2 gr), (r0, aI L 26 b0), (r1, aI L 26 b1), (ho, .inr (1, [.ref di, .int (z_i us), .ref bo, .int (z_i pl), .int (z_i ct)])), (di, aI L 7 dice), (rx, .inr (2, [.ref kn])), (kn, aL L 225 kno)] rfl rfl (Nat.le_of_ble_eq_true rfl) d_T_roll_63 ?_
              refine J_aload_n E 0 d_T_roll_66 rfl rfl ?_
              refine g_T_25 E 0 rfl rfl d_T_roll_67 ?_
              refine J_aload_n E 0 d_T_roll_70 rfl rfl ?_
              refine g_T_66 E 0 rfl rfl d_T_roll_71 ?_
              refine J_iload_n E 1 d_T_roll_74 rfl rfl ?_
              refine J_iload_n E 2 d_T_roll_75 rfl rfl ?_
              refine J_callV (wr := [(tm, .inr (3, [.int (z_i len), .ref sc, .ref bo, .ref ho, .ref rx, .int (z_i 2), .int (z_i 0), .int (z_i stk), .int (z_i hol), .int (z_i cn), .int (z_i cs)])), (sc, aI L 2 sco), (rx, .inr (2, [.ref kn])), (kn, aL L 225 kno)]) (rest := []) E kb_H_take t_1_136 t_1_137 t_1_138 (c_H_take L ho di bo ra r0 r1 gr b0 b1 pl dice us ct 0 a b (Or.inl rfl) g0 g1 hb0 hb1 hH.1 hda hdb) (fun h => h) (Rm_h (by decide) (by decide)) [6, 7, 2, 3, 4, 5] [0, 1, 8, 9] rfl rfl rfl rfl (by decide) 0 rfl rfl rfl rfl (Nat.le_of_ble_eq_true rfl) d_T_roll_76 (fun w' hw => ?_)
              obtain rfl : w' = [(ho, .inr (1, [.ref di, .int (z_i (((bd_due b1 (tk_d dice a b) b0 : Nat) : Int))), .ref bo, .int (z_i 0), .int (z_i (2 * (tk_n a b)))])), (di, aI L 7 (tk_d dice a b)), (bo, .inr (0, [.ref ra])), (ra, aR L 2 gr), (r0, aI L 26 b0), (r1, aI L 26 b1)] := hw
              show J L X 3 0 0 [(tm, .inr (3, [.int (z_i len), .ref sc, .ref bo, .ref ho, .ref rx, .int (z_i 2), .int (z_i 0), .int (z_i stk), .int (z_i hol), .int (z_i cn), .int (z_i cs)])), (sc, aI L 2 sco), (rx, .inr (2, [.ref kn])), (kn, aL L 225 kno), (ho, .inr (1, [.ref di, .int (z_i (((bd_due b1 (tk_d dice a b) b0 : Nat) : Int))), .ref bo, .int (z_i 0), .int (z_i (2 * (tk_n a b)))])), (di, aI L 7 (tk_d dice a b)), (bo, .inr (0, [.ref ra])), (ra, aR L 2 gr), (r0, aI L 26 b0), (r1, aI L 26 b1)] [(0, .ref tm), (1, .int (z_i a)), (2, .int (z_i b))] [] 79
              refine J_aload_n E 0 d_T_roll_79 rfl rfl ?_
              refine J_callV (wr := []) (rest := []) E kb_T_endTurnIfDone t_1_166 t_1_168 ts_T_endTurnIfDone (c_T_endTurnIfDone L tm sc bo ra r0 r1 ho di rx kn gr len 2 0 stk hol cn cs sco b0 b1 (((bd_due b1 (tk_d dice a b) b0 : Nat) : Int)) 0 (2 * (tk_n a b)) (tk_d dice a b) kno g0 g1 (by rw [tk_due dice b0 b1 hda hdb]; exact m_due_in (b_dk hda hdb))) (fun h => h) (Rm_h (by decide) (by decide)) [0, 1, 6, 7, 8, 9, 4, 5, 2, 3] [] rfl rfl rfl rfl (by decide) 0 rfl rfl rfl rfl (Nat.le_of_ble_eq_true rfl) d_T_roll_80 (fun w' hw => ?_)
              replace hw : (fun u => ((((bd_due b1 (tk_d dice a b) b0 : Nat) : Int)) = 0 ∧ u = [(tm, .inr (3, [.int (z_i len), .ref sc, .ref bo, .ref ho, .ref rx, .int (z_i 1), .int (z_i (1 - 0)), .int (z_i stk), .int (z_i hol), .int (z_i cn), .int (z_i cs)])), (sc, aI L 2 sco), (bo, .inr (0, [.ref ra])), (ra, aR L 2 gr), (r0, aI L 26 b0), (r1, aI L 26 b1), (ho, .inr (1, [.ref di, .int (z_i (((bd_due b1 (tk_d dice a b) b0 : Nat) : Int))), .ref bo, .int (z_i 0), .int (z_i (2 * (tk_n a b)))])), (di, aI L 7 (tk_d dice a b)), (rx, .inr (2, [.ref kn])), (kn, aL L 225 kno)]) ∨ ((((bd_due b1 (tk_d dice a b) b0 : Nat) : Int)) ≠ 0 ∧ u = [(tm, .inr (3, [.int (z_i len), .ref sc, .ref bo, .ref ho, .ref rx, .int (z_i 2), .int (z_i 0), .int (z_i stk), .int (z_i hol), .int (z_i cn), .int (z_i cs)])), (sc, aI L 2 sco), (bo, .inr (0, [.ref ra])), (ra, aR L 2 gr), (r0, aI L 26 b0), (r1, aI L 26 b1), (ho, .inr (1, [.ref di, .int (z_i (((bd_due b1 (tk_d dice a b) b0 : Nat) : Int))), .ref bo, .int (z_i 0), .int (z_i (2 * (tk_n a b)))])), (di, aI L 7 (tk_d dice a b)), (rx, .inr (2, [.ref kn])), (kn, aL L 225 kno)])) w' := hw
              rcases hw with ⟨hz, rfl⟩ | ⟨hz, rfl⟩
              · have hdu := tk_due dice b0 b1 hda hdb
                show J L X 3 0 0 [(tm, .inr (3, [.int (z_i len), .ref sc, .ref bo, .ref ho, .ref rx, .int (z_i 1), .int (z_i (1 - 0)), .int (z_i stk), .int (z_i hol), .int (z_i cn), .int (z_i cs)])), (sc, aI L 2 sco), (bo, .inr (0, [.ref ra])), (ra, aR L 2 gr), (r0, aI L 26 b0), (r1, aI L 26 b1), (ho, .inr (1, [.ref di, .int (z_i (((bd_due b1 (tk_d dice a b) b0 : Nat) : Int))), .ref bo, .int (z_i 0), .int (z_i (2 * (tk_n a b)))])), (di, aI L 7 (tk_d dice a b)), (rx, .inr (2, [.ref kn])), (kn, aL L 225 kno)] [(0, .ref tm), (1, .int (z_i a)), (2, .int (z_i b))] [.int (z_i (((bd_due b1 (tk_d dice a b) b0 : Nat) : Int)))] 83
                exact J_ireturn E F (by rw [m_roll_00 hda hdb h50, m_begin_z0 (hdu ▸ hz)]; exact hz) (by rw [m_roll_00 hda hdb h50, m_begin_z0 (hdu ▸ hz)]; exact ⟨(((bd_due b1 (tk_d dice a b) b0 : Nat) : Int)), 0, (2 * (tk_n a b)), (tk_d dice a b), kno, ⟨tk_ok hH.1 hda hdb, fun z => absurd z (by decide)⟩, hmm, rfl⟩) d_T_roll_83
              · have hdu := tk_due dice b0 b1 hda hdb
                show J L X 3 0 0 [(tm, .inr (3, [.int (z_i len), .ref sc, .ref bo, .ref ho, .ref rx, .int (z_i 2), .int (z_i 0), .int (z_i stk), .int (z_i hol), .int (z_i cn), .int (z_i cs)])), (sc, aI L 2 sco), (bo, .inr (0, [.ref ra])), (ra, aR L 2 gr), (r0, aI L 26 b0), (r1, aI L 26 b1), (ho, .inr (1, [.ref di, .int (z_i (((bd_due b1 (tk_d dice a b) b0 : Nat) : Int))), .ref bo, .int (z_i 0), .int (z_i (2 * (tk_n a b)))])), (di, aI L 7 (tk_d dice a b)), (rx, .inr (2, [.ref kn])), (kn, aL L 225 kno)] [(0, .ref tm), (1, .int (z_i a)), (2, .int (z_i b))] [.int (z_i (((bd_due b1 (tk_d dice a b) b0 : Nat) : Int)))] 83
                exact J_ireturn E F (by rw [m_roll_00 hda hdb h50, m_begin_n0 (hdu ▸ hz)]; exact hdu) (by rw [m_roll_00 hda hdb h50, m_begin_n0 (hdu ▸ hz)]; exact ⟨(((bd_due b1 (tk_d dice a b) b0 : Nat) : Int)), 0, (2 * (tk_n a b)), (tk_d dice a b), kno, ⟨tk_ok hH.1 hda hdb, fun _ => ⟨rfl, tk_ct a b, hdu, tk_dcf dice hda hdb⟩⟩, hmm, rfl⟩) d_T_roll_83
          · refine J_iconst E d_T_roll_45 ?_
            exact J_ireturn E F (by rw [m_roll_e hda hdb h42]) (by rw [m_roll_e hda hdb h42]; exact ⟨us, pl, ct, dice, kno, hH, hmm, rfl⟩) d_T_roll_46
      · have hdb := b2_not h28
        refine J_iconst E d_T_roll_31 ?_
        exact J_ireturn E F (by rw [m_roll_o (by omega)]) (by rw [m_roll_o (by omega)]; exact ⟨us, pl, ct, dice, kno, hH, hmm, rfl⟩) d_T_roll_32
  · refine J_aload_n E 0 d_T_roll_7 rfl rfl ?_
    refine g_T_52 E 0 rfl rfl d_T_roll_8 ?_
    refine J_iconst E d_T_roll_11 ?_
    refine J_icmp_eq E 17 d_T_roll_12 (by decide) (by exact ⟨⟨by omega, by omega⟩, ⟨by omega, by omega⟩⟩) (fun h12 => ?_) (fun h12 => ?_)
    · subst h12
      refine J_iload_n E 1 d_T_roll_17 rfl rfl ?_
      refine J_callS (wr := [(tm, .inr (3, [.int (z_i len), .ref sc, .ref bo, .ref ho, .ref rx, .int (z_i 1), .int (z_i 0), .int (z_i stk), .int (z_i hol), .int (z_i cn), .int (z_i cs)])), (sc, aI L 2 sco), (bo, .inr (0, [.ref ra])), (ra, aR L 2 gr), (r0, aI L 26 b0), (r1, aI L 26 b1), (ho, .inr (1, [.ref di, .int (z_i us), .ref bo, .int (z_i pl), .int (z_i ct)])), (di, aI L 7 dice), (rx, .inr (2, [.ref kn])), (kn, aL L 225 kno)]) (rest := []) E kb_T_isNumber t_1_133 t_1_134 (c_T_isNumber L a ha) (fun h => h) (Rm_h (by decide) (by decide)) [] [0, 1, 2, 3, 4, 5, 6, 7, 8, 9] rfl rfl rfl rfl (by decide) rfl rfl (Nat.le_of_ble_eq_true rfl) d_T_roll_18 (fun w' hw => ?_)
      obtain rfl : w' = [] := hw
      show J L X 3 0 0 [(tm, .inr (3, [.int (z_i len), .ref sc, .ref bo, .ref ho, .ref rx, .int (z_i 1), .int (z_i 0), .int (z_i stk), .int (z_i hol), .int (z_i cn), .int (z_i cs)])), (sc, aI L 2 sco), (bo, .inr (0, [.ref ra])), (ra, aR L 2 gr), (r0, aI L 26 b0), (r1, aI L 26 b1), (ho, .inr (1, [.ref di, .int (z_i us), .ref bo, .int (z_i pl), .int (z_i ct)])), (di, aI L 7 dice), (rx, .inr (2, [.ref kn])), (kn, aL L 225 kno)] [(0, .ref tm), (1, .int (z_i a)), (2, .int (z_i b))] [.int (z_i (b2 (1 ≤ a ∧ a ≤ 6)))] 21
      refine J_if_eq E 31 d_T_roll_21 (by decide) (b2_r _) (fun h21 => ?_) (fun h21 => ?_)
      · have hda := b2_not h21
        refine J_iconst E d_T_roll_31 ?_
        exact J_ireturn E F (by rw [m_roll_o (by omega)]) (by rw [m_roll_o (by omega)]; exact ⟨us, pl, ct, dice, kno, hH, hmm, rfl⟩) d_T_roll_32
      · have hda := b2_of h21
        refine J_iload_n E 2 d_T_roll_24 rfl rfl ?_
        refine J_callS (wr := [(tm, .inr (3, [.int (z_i len), .ref sc, .ref bo, .ref ho, .ref rx, .int (z_i 1), .int (z_i 0), .int (z_i stk), .int (z_i hol), .int (z_i cn), .int (z_i cs)])), (sc, aI L 2 sco), (bo, .inr (0, [.ref ra])), (ra, aR L 2 gr), (r0, aI L 26 b0), (r1, aI L 26 b1), (ho, .inr (1, [.ref di, .int (z_i us), .ref bo, .int (z_i pl), .int (z_i ct)])), (di, aI L 7 dice), (rx, .inr (2, [.ref kn])), (kn, aL L 225 kno)]) (rest := []) E kb_T_isNumber t_1_133 t_1_134 (c_T_isNumber L b hb) (fun h => h) (Rm_h (by decide) (by decide)) [] [0, 1, 2, 3, 4, 5, 6, 7, 8, 9] rfl rfl rfl rfl (by decide) rfl rfl (Nat.le_of_ble_eq_true rfl) d_T_roll_25 (fun w' hw => ?_)
        obtain rfl : w' = [] := hw
        show J L X 3 0 0 [(tm, .inr (3, [.int (z_i len), .ref sc, .ref bo, .ref ho, .ref rx, .int (z_i 1), .int (z_i 0), .int (z_i stk), .int (z_i hol), .int (z_i cn), .int (z_i cs)])), (sc, aI L 2 sco), (bo, .inr (0, [.ref ra])), (ra, aR L 2 gr), (r0, aI L 26 b0), (r1, aI L 26 b1), (ho, .inr (1, [.ref di, .int (z_i us), .ref bo, .int (z_i pl), .int (z_i ct)])), (di, aI L 7 dice), (rx, .inr (2, [.ref kn])), (kn, aL L 225 kno)] [(0, .ref tm), (1, .int (z_i a)), (2, .int (z_i b))] [.int (z_i (b2 (1 ≤ b ∧ b ≤ 6)))] 28
        refine J_if_ne E 33 d_T_roll_28 (by decide) (b2_r _) (fun h28 => ?_) (fun h28 => ?_)
        · have hdb := b2_of h28
          refine J_aload_n E 0 d_T_roll_33 rfl rfl ?_
          refine g_T_52 E 0 rfl rfl d_T_roll_34 ?_
          refine J_if_ne E 61 d_T_roll_37 (by decide) (by exact ⟨by omega, by omega⟩) (fun h37 => ?_) (fun h37 => ?_)
          · refine J_aload_n E 0 d_T_roll_61 rfl rfl ?_
            refine J_iconst E d_T_roll_62 ?_
            refine p_T_52 E 0 [(tm, .inr (3, [.int (z_i len), .ref sc, .ref bo, .ref ho, .ref rx, .int (z_i 2), .int (z_i 0), .int (z_i stk), .int (z_i hol), .int (z_i cn), .int (z_i cs)])), (sc, aI L 2 sco), (bo, .inr (0, [.ref ra])), (ra, aR L 2 gr), (r0, aI L 26 b0), (r1, aI L 26 b1), (ho, .inr (1, [.ref di, .int (z_i us), .ref bo, .int (z_i pl), .int (z_i ct)])), (di, aI L 7 dice), (rx, .inr (2, [.ref kn])), (kn, aL L 225 kno)] rfl rfl (Nat.le_of_ble_eq_true rfl) d_T_roll_63 ?_
            refine J_aload_n E 0 d_T_roll_66 rfl rfl ?_
            refine g_T_25 E 0 rfl rfl d_T_roll_67 ?_
            refine J_aload_n E 0 d_T_roll_70 rfl rfl ?_
            refine g_T_66 E 0 rfl rfl d_T_roll_71 ?_
            refine J_iload_n E 1 d_T_roll_74 rfl rfl ?_
            refine J_iload_n E 2 d_T_roll_75 rfl rfl ?_
            refine J_callV (wr := [(tm, .inr (3, [.int (z_i len), .ref sc, .ref bo, .ref ho, .ref rx, .int (z_i 2), .int (z_i 0), .int (z_i stk), .int (z_i hol), .int (z_i cn), .int (z_i cs)])), (sc, aI L 2 sco), (rx, .inr (2, [.ref kn])), (kn, aL L 225 kno)]) (rest := []) E kb_H_take t_1_136 t_1_137 t_1_138 (c_H_take L ho di bo ra r0 r1 gr b0 b1 pl dice us ct 0 a b (Or.inl rfl) g0 g1 hb0 hb1 hH.1 hda hdb) (fun h => h) (Rm_h (by decide) (by decide)) [6, 7, 2, 3, 4, 5] [0, 1, 8, 9] rfl rfl rfl rfl (by decide) 0 rfl rfl rfl rfl (Nat.le_of_ble_eq_true rfl) d_T_roll_76 (fun w' hw => ?_)
            obtain rfl : w' = [(ho, .inr (1, [.ref di, .int (z_i (((bd_due b1 (tk_d dice a b) b0 : Nat) : Int))), .ref bo, .int (z_i 0), .int (z_i (2 * (tk_n a b)))])), (di, aI L 7 (tk_d dice a b)), (bo, .inr (0, [.ref ra])), (ra, aR L 2 gr), (r0, aI L 26 b0), (r1, aI L 26 b1)] := hw
            show J L X 3 0 0 [(tm, .inr (3, [.int (z_i len), .ref sc, .ref bo, .ref ho, .ref rx, .int (z_i 2), .int (z_i 0), .int (z_i stk), .int (z_i hol), .int (z_i cn), .int (z_i cs)])), (sc, aI L 2 sco), (rx, .inr (2, [.ref kn])), (kn, aL L 225 kno), (ho, .inr (1, [.ref di, .int (z_i (((bd_due b1 (tk_d dice a b) b0 : Nat) : Int))), .ref bo, .int (z_i 0), .int (z_i (2 * (tk_n a b)))])), (di, aI L 7 (tk_d dice a b)), (bo, .inr (0, [.ref ra])), (ra, aR L 2 gr), (r0, aI L 26 b0), (r1, aI L 26 b1)] [(0, .ref tm), (1, .int (z_i a)), (2, .int (z_i b))] [] 79
            refine J_aload_n E 0 d_T_roll_79 rfl rfl ?_
            refine J_callV (wr := []) (rest := []) E kb_T_endTurnIfDone t_1_166 t_1_168 ts_T_endTurnIfDone (c_T_endTurnIfDone L tm sc bo ra r0 r1 ho di rx kn gr len 2 0 stk hol cn cs sco b0 b1 (((bd_due b1 (tk_d dice a b) b0 : Nat) : Int)) 0 (2 * (tk_n a b)) (tk_d dice a b) kno g0 g1 (by rw [tk_due dice b0 b1 hda hdb]; exact m_due_in (b_dk hda hdb))) (fun h => h) (Rm_h (by decide) (by decide)) [0, 1, 6, 7, 8, 9, 4, 5, 2, 3] [] rfl rfl rfl rfl (by decide) 0 rfl rfl rfl rfl (Nat.le_of_ble_eq_true rfl) d_T_roll_80 (fun w' hw => ?_)
            replace hw : (fun u => ((((bd_due b1 (tk_d dice a b) b0 : Nat) : Int)) = 0 ∧ u = [(tm, .inr (3, [.int (z_i len), .ref sc, .ref bo, .ref ho, .ref rx, .int (z_i 1), .int (z_i (1 - 0)), .int (z_i stk), .int (z_i hol), .int (z_i cn), .int (z_i cs)])), (sc, aI L 2 sco), (bo, .inr (0, [.ref ra])), (ra, aR L 2 gr), (r0, aI L 26 b0), (r1, aI L 26 b1), (ho, .inr (1, [.ref di, .int (z_i (((bd_due b1 (tk_d dice a b) b0 : Nat) : Int))), .ref bo, .int (z_i 0), .int (z_i (2 * (tk_n a b)))])), (di, aI L 7 (tk_d dice a b)), (rx, .inr (2, [.ref kn])), (kn, aL L 225 kno)]) ∨ ((((bd_due b1 (tk_d dice a b) b0 : Nat) : Int)) ≠ 0 ∧ u = [(tm, .inr (3, [.int (z_i len), .ref sc, .ref bo, .ref ho, .ref rx, .int (z_i 2), .int (z_i 0), .int (z_i stk), .int (z_i hol), .int (z_i cn), .int (z_i cs)])), (sc, aI L 2 sco), (bo, .inr (0, [.ref ra])), (ra, aR L 2 gr), (r0, aI L 26 b0), (r1, aI L 26 b1), (ho, .inr (1, [.ref di, .int (z_i (((bd_due b1 (tk_d dice a b) b0 : Nat) : Int))), .ref bo, .int (z_i 0), .int (z_i (2 * (tk_n a b)))])), (di, aI L 7 (tk_d dice a b)), (rx, .inr (2, [.ref kn])), (kn, aL L 225 kno)])) w' := hw
            rcases hw with ⟨hz, rfl⟩ | ⟨hz, rfl⟩
            · have hdu := tk_due dice b0 b1 hda hdb
              show J L X 3 0 0 [(tm, .inr (3, [.int (z_i len), .ref sc, .ref bo, .ref ho, .ref rx, .int (z_i 1), .int (z_i (1 - 0)), .int (z_i stk), .int (z_i hol), .int (z_i cn), .int (z_i cs)])), (sc, aI L 2 sco), (bo, .inr (0, [.ref ra])), (ra, aR L 2 gr), (r0, aI L 26 b0), (r1, aI L 26 b1), (ho, .inr (1, [.ref di, .int (z_i (((bd_due b1 (tk_d dice a b) b0 : Nat) : Int))), .ref bo, .int (z_i 0), .int (z_i (2 * (tk_n a b)))])), (di, aI L 7 (tk_d dice a b)), (rx, .inr (2, [.ref kn])), (kn, aL L 225 kno)] [(0, .ref tm), (1, .int (z_i a)), (2, .int (z_i b))] [.int (z_i (((bd_due b1 (tk_d dice a b) b0 : Nat) : Int)))] 83
              exact J_ireturn E F (by rw [m_roll_1 hda hdb, m_begin_z0 (hdu ▸ hz)]; exact hz) (by rw [m_roll_1 hda hdb, m_begin_z0 (hdu ▸ hz)]; exact ⟨(((bd_due b1 (tk_d dice a b) b0 : Nat) : Int)), 0, (2 * (tk_n a b)), (tk_d dice a b), kno, ⟨tk_ok hH.1 hda hdb, fun z => absurd z (by decide)⟩, hmm, rfl⟩) d_T_roll_83
            · have hdu := tk_due dice b0 b1 hda hdb
              show J L X 3 0 0 [(tm, .inr (3, [.int (z_i len), .ref sc, .ref bo, .ref ho, .ref rx, .int (z_i 2), .int (z_i 0), .int (z_i stk), .int (z_i hol), .int (z_i cn), .int (z_i cs)])), (sc, aI L 2 sco), (bo, .inr (0, [.ref ra])), (ra, aR L 2 gr), (r0, aI L 26 b0), (r1, aI L 26 b1), (ho, .inr (1, [.ref di, .int (z_i (((bd_due b1 (tk_d dice a b) b0 : Nat) : Int))), .ref bo, .int (z_i 0), .int (z_i (2 * (tk_n a b)))])), (di, aI L 7 (tk_d dice a b)), (rx, .inr (2, [.ref kn])), (kn, aL L 225 kno)] [(0, .ref tm), (1, .int (z_i a)), (2, .int (z_i b))] [.int (z_i (((bd_due b1 (tk_d dice a b) b0 : Nat) : Int)))] 83
              exact J_ireturn E F (by rw [m_roll_1 hda hdb, m_begin_n0 (hdu ▸ hz)]; exact hdu) (by rw [m_roll_1 hda hdb, m_begin_n0 (hdu ▸ hz)]; exact ⟨(((bd_due b1 (tk_d dice a b) b0 : Nat) : Int)), 0, (2 * (tk_n a b)), (tk_d dice a b), kno, ⟨tk_ok hH.1 hda hdb, fun _ => ⟨rfl, tk_ct a b, hdu, tk_dcf dice hda hdb⟩⟩, hmm, rfl⟩) d_T_roll_83
          · exact absurd h37 (by decide)
        · have hdb := b2_not h28
          refine J_iconst E d_T_roll_31 ?_
          exact J_ireturn E F (by rw [m_roll_o (by omega)]) (by rw [m_roll_o (by omega)]; exact ⟨us, pl, ct, dice, kno, hH, hmm, rfl⟩) d_T_roll_32
    · refine J_iconst E d_T_roll_15 ?_
      exact J_ireturn E F (by rw [m_roll_o (by omega)]) (by rw [m_roll_o (by omega)]; exact ⟨us, pl, ct, dice, kno, hH, hmm, rfl⟩) d_T_roll_16
set_option maxHeartbeats 4000000 in
set_option maxRecDepth 100000 in
theorem c_T_move_1 (L : Lx) (tm sc bo ra r0 r1 ho di rx kn : Nat) (gr : Nat → Option Nat) (len stg stk hol cn cs : Int) (sco b0 b1 : Int → Int) (us pl ct : Int) (dice kno : Int → Int) (hi lo hs ls : Int) (f d : Int) (g0 : gr 0 = some r0) (g1 : gr 1 = some r1) (hS : st_ok (len, stg, 1, stk, hol, cn, cs, sco, b0, b1, hi, lo, hs, ls)) (hH : hd_ok stg 1 b0 b1 hi lo hs ls dice us pl ct) (hmm : mm_ok kno) (hf : z_r f) (hd : z_r d) : CtG L y_T_move b_T_move 3 (some .int) (rmh 13) true 0 0 [.ref tm, .int (z_i f), .int (z_i d)] [(tm, .inr (3, [.int (z_i len), .ref sc, .ref bo, .ref ho, .ref rx, .int (z_i stg), .int (z_i 1), .int (z_i stk), .int (z_i hol), .int (z_i cn), .int (z_i cs)])), (sc, aI L 2 sco), (bo, .inr (0, [.ref ra])), (ra, aR L 2 gr), (r0, aI L 26 b0), (r1, aI L 26 b1), (ho, .inr (1, [.ref di, .int (z_i us), .ref bo, .int (z_i pl), .int (z_i ct)])), (di, aI L 7 dice), (rx, .inr (2, [.ref kn])), (kn, aL L 225 kno)] (RC L tm sc bo ra r0 r1 ho di rx kn gr (m_move (len, stg, 1, stk, hol, cn, cs, sco, b0, b1, hi, lo, hs, ls) f d).2) (some (.int (z_i ((m_move (len, stg, 1, stk, hol, cn, cs, sco, b0, b1, hi, lo, hs, ls) f d).1)))) := by
  obtain ⟨hlen, hstg, hmv, hstk, hhol, hcn, hcs, hsc, hsl, hb0, hb1, hdk⟩ := hS
  refine CtG.of rfl (Nat.le_of_ble_eq_true rfl) (fun X E F => ?_)
  show J L X 3 0 0 [(tm, .inr (3, [.int (z_i len), .ref sc, .ref bo, .ref ho, .ref rx, .int (z_i stg), .int (z_i 1), .int (z_i stk), .int (z_i hol), .int (z_i cn), .int (z_i cs)])), (sc, aI L 2 sco), (bo, .inr (0, [.ref ra])), (ra, aR L 2 gr), (r0, aI L 26 b0), (r1, aI L 26 b1), (ho, .inr (1, [.ref di, .int (z_i us), .ref bo, .int (z_i pl), .int (z_i ct)])), (di, aI L 7 dice), (rx, .inr (2, [.ref kn])), (kn, aL L 225 kno)] [(0, .ref tm), (1, .int (z_i f)), (2, .int (z_i d))] [] 0
  refine J_aload_n E 0 d_T_move_0 rfl rfl ?_
  refine g_T_52 E 0 rfl rfl d_T_move_1 ?_
  refine J_iconst E d_T_move_4 ?_
  refine J_icmp_eq E 10 d_T_move_5 (by decide) (by exact ⟨⟨by omega, by omega⟩, ⟨by omega, by omega⟩⟩) (fun h5 => ?_) (fun h5 => ?_)
  · subst h5
    obtain ⟨hpl, hct, hus, hdi⟩ := hH.2 rfl
    obtain ⟨hk, hd1⟩ := hdk rfl
    subst hpl
    replace hus : us = m_due b1 b0 hi lo hs ls := hus
    have hu4 : 0 ≤ us ∧ us ≤ 4 := by rw [hus]; exact m_due_in hk
    have hct2 : ct = bd_sum dice := by rw [hct, ← dcf_sum hk]; exact (sum_cong hdi).symm
    have hc4 : ct ≤ 4 := by have := hk.2.2.2.2.2.1; omega
    have hc := hH.1
    refine J_aload_n E 0 d_T_move_10 rfl rfl ?_
    refine g_T_25 E 0 rfl rfl d_T_move_11 ?_
    refine J_iload_n E 1 d_T_move_14 rfl rfl ?_
    refine J_iload_n E 2 d_T_move_15 rfl rfl ?_
    refine J_callV (wr := [(tm, .inr (3, [.int (z_i len), .ref sc, .ref bo, .ref ho, .ref rx, .int (z_i 2), .int (z_i 1), .int (z_i stk), .int (z_i hol), .int (z_i cn), .int (z_i cs)])), (sc, aI L 2 sco), (rx, .inr (2, [.ref kn])), (kn, aL L 225 kno)]) (rest := []) E kb_H_isRight t_1_174 t_1_175 t_1_176 (c_H_isRight L ho di bo ra r1 r0 gr b1 b0 1 dice us ct f d (Or.inr rfl) g1 g0 hb1 hb0 hc hct2 hc4 hu4 ⟨by omega, by omega⟩ ⟨by omega, by omega⟩) (fun _ => rfl) (Rm_h (by decide) (by decide)) [6, 7, 2, 3, 5, 4] [0, 1, 8, 9] rfl rfl rfl rfl (by decide) 0 rfl rfl rfl rfl (Nat.le_of_ble_eq_true rfl) d_T_move_16 (fun w' hw => ?_)
    obtain rfl : w' = [(ho, .inr (1, [.ref di, .int (z_i us), .ref bo, .int (z_i 1), .int (z_i ct)])), (di, aI L 7 dice), (bo, .inr (0, [.ref ra])), (ra, aR L 2 gr), (r1, aI L 26 b1), (r0, aI L 26 b0)] := hw
    show J L X 3 0 0 [(tm, .inr (3, [.int (z_i len), .ref sc, .ref bo, .ref ho, .ref rx, .int (z_i 2), .int (z_i 1), .int (z_i stk), .int (z_i hol), .int (z_i cn), .int (z_i cs)])), (sc, aI L 2 sco), (rx, .inr (2, [.ref kn])), (kn, aL L 225 kno), (ho, .inr (1, [.ref di, .int (z_i us), .ref bo, .int (z_i 1), .int (z_i ct)])), (di, aI L 7 dice), (bo, .inr (0, [.ref ra])), (ra, aR L 2 gr), (r1, aI L 26 b1), (r0, aI L 26 b0)] [(0, .ref tm), (1, .int (z_i f)), (2, .int (z_i d))] [.int (z_i (b2 (rt_ok b1 b0 dice us f d)))] 19
    refine J_if_eq E 31 d_T_move_19 (by decide) (b2_r _) (fun h19 => ?_) (fun h19 => ?_)
    · have hrt := b2_not h19
      have hrt2 : ¬ rt_ok b1 b0 (dcf hi lo hs ls) (m_due b1 b0 hi lo hs ls) f d := by rw [← hus]; exact fun z => hrt ((rt_cong hdi us f d).mpr z)
      refine J_bipush E d_T_move_31 (by decide) ?_
      refine J_ws (ws' := [(tm, .inr (3, [.int (z_i len), .ref sc, .ref bo, .ref ho, .ref rx, .int (z_i 2), .int (z_i 1), .int (z_i stk), .int (z_i hol), .int (z_i cn), .int (z_i cs)])), (sc, aI L 2 sco), (bo, .inr (0, [.ref ra])), (ra, aR L 2 gr), (r0, aI L 26 b0), (r1, aI L 26 b1), (ho, .inr (1, [.ref di, .int (z_i us), .ref bo, .int (z_i 1), .int (z_i ct)])), (di, aI L 7 dice), (rx, .inr (2, [.ref kn])), (kn, aL L 225 kno)]) [0, 1, 6, 7, 9, 8, 4, 5, 2, 3] rfl rfl ?_
      exact J_ireturn E F (by rw [m_move_f (mv := 1) hrt2]) (by rw [m_move_f (mv := 1) hrt2]; exact ⟨us, 1, ct, dice, kno, hH, hmm, rfl⟩) d_T_move_33
    · have hrt := b2_of h19
      have hrt2 : rt_ok b1 b0 (dcf hi lo hs ls) (m_due b1 b0 hi lo hs ls) f d := by rw [← hus]; exact (rt_cong hdi us f d).mp hrt
      refine J_aload_n E 0 d_T_move_22 rfl rfl ?_
      refine J_iload_n E 1 d_T_move_23 rfl rfl ?_
      refine J_iload_n E 2 d_T_move_24 rfl rfl ?_
      refine J_callV (wr := []) (rest := []) E kb_T_play t_1_188 t_1_190 ts_T_play (c_T_play_1 L tm sc bo ra r0 r1 ho di rx kn gr len stk hol cn cs sco b0 b1 us ct dice kno hi lo hs ls f d g0 g1 hlen hstk hcs hsc hb0 hb1 hk hc hct hu4 hdi hmm hrt) (fun _ => rfl) (Rm_h (by decide) (by decide)) [0, 1, 6, 7, 9, 8, 4, 5, 2, 3] [] rfl rfl rfl rfl (by decide) 0 rfl rfl rfl rfl (Nat.le_of_ble_eq_true rfl) d_T_move_25 (fun w' hw => ?_)
      replace hw : (RC L tm sc bo ra r0 r1 ho di rx kn gr (m_play len 2 1 stk hol cn cs sco b0 b1 hi lo hs ls f d).2) w' := hw
      show J L X 3 0 0 w' [(0, .ref tm), (1, .int (z_i f)), (2, .int (z_i d))] [.int (z_i ((m_play len 2 1 stk hol cn cs sco b0 b1 hi lo hs ls f d).1))] 28
      refine J_goto E 33 d_T_move_28 (by decide) ?_
      exact J_ireturn E F (by rw [m_move_t (mv := 1) hrt2]) (by rw [m_move_t (mv := 1) hrt2]; exact hw) d_T_move_33
  · refine J_iconst E d_T_move_8 ?_
    exact J_ireturn E F (by rw [m_move_o h5]) (by rw [m_move_o h5]; exact ⟨us, pl, ct, dice, kno, hH, hmm, rfl⟩) d_T_move_9
set_option maxHeartbeats 4000000 in
set_option maxRecDepth 100000 in
theorem c_T_step_1 (L : Lx) (tm sc bo ra r0 r1 ho di rx kn : Nat) (gr : Nat → Option Nat) (len stg stk hol cn cs : Int) (sco b0 b1 : Int → Int) (us pl ct : Int) (dice kno : Int → Int) (hi lo hs ls : Int) (k : Int) (g0 : gr 0 = some r0) (g1 : gr 1 = some r1) (hS : st_ok (len, stg, 1, stk, hol, cn, cs, sco, b0, b1, hi, lo, hs, ls)) (hH : hd_ok stg 1 b0 b1 hi lo hs ls dice us pl ct) (hmm : mm_ok kno) (hkk : z_r k) : CtG L y_T_step b_T_step 5 (some .int) (rmh 13) true 0 0 [.ref tm, .int (z_i k)] [(tm, .inr (3, [.int (z_i len), .ref sc, .ref bo, .ref ho, .ref rx, .int (z_i stg), .int (z_i 1), .int (z_i stk), .int (z_i hol), .int (z_i cn), .int (z_i cs)])), (sc, aI L 2 sco), (bo, .inr (0, [.ref ra])), (ra, aR L 2 gr), (r0, aI L 26 b0), (r1, aI L 26 b1), (ho, .inr (1, [.ref di, .int (z_i us), .ref bo, .int (z_i pl), .int (z_i ct)])), (di, aI L 7 dice), (rx, .inr (2, [.ref kn])), (kn, aL L 225 kno)] (RC L tm sc bo ra r0 r1 ho di rx kn gr (m_step (len, stg, 1, stk, hol, cn, cs, sco, b0, b1, hi, lo, hs, ls) k).2) (some (.int (z_i ((m_step (len, stg, 1, stk, hol, cn, cs, sco, b0, b1, hi, lo, hs, ls) k).1)))) := by
  obtain ⟨hlen, hstg, hmv, hstk, hhol, hcn, hcs, hsc, hsl, hb0, hb1, hdk⟩ := hS
  refine CtG.of rfl (Nat.le_of_ble_eq_true rfl) (fun X E F => ?_)
  show J L X 5 0 0 [(tm, .inr (3, [.int (z_i len), .ref sc, .ref bo, .ref ho, .ref rx, .int (z_i stg), .int (z_i 1), .int (z_i stk), .int (z_i hol), .int (z_i cn), .int (z_i cs)])), (sc, aI L 2 sco), (bo, .inr (0, [.ref ra])), (ra, aR L 2 gr), (r0, aI L 26 b0), (r1, aI L 26 b1), (ho, .inr (1, [.ref di, .int (z_i us), .ref bo, .int (z_i pl), .int (z_i ct)])), (di, aI L 7 dice), (rx, .inr (2, [.ref kn])), (kn, aL L 225 kno)] [(0, .ref tm), (1, .int (z_i k))] [] 0
  refine J_aload_n E 0 d_T_step_0 rfl rfl ?_
  refine g_T_52 E 0 rfl rfl d_T_step_1 ?_
  refine J_iconst E d_T_step_4 ?_
  refine J_icmp_eq E 10 d_T_step_5 (by decide) (by exact ⟨⟨by omega, by omega⟩, ⟨by omega, by omega⟩⟩) (fun h5 => ?_) (fun h5 => ?_)
  · subst h5
    obtain ⟨hpl, hct, hus, hdi⟩ := hH.2 rfl
    obtain ⟨hk, hd1⟩ := hdk rfl
    subst hpl
    replace hus : us = m_due b1 b0 hi lo hs ls := hus
    have hu4 : 0 ≤ us ∧ us ≤ 4 := by rw [hus]; exact m_due_in hk
    have hct2 : ct = bd_sum dice := by rw [hct, ← dcf_sum hk]; exact (sum_cong hdi).symm
    have hc4 : ct ≤ 4 := by have := hk.2.2.2.2.2.1; omega
    have hc := hH.1
    refine J_iconst E d_T_step_10 ?_
    refine J_istore_n E [(2, .int (z_i 0)), (0, .ref tm), (1, .int (z_i k))] d_T_step_11 rfl (by decide) rfl ?_
    refine J_bipush E d_T_step_12 (by decide) ?_
    refine J_istore_n E [(3, .int (z_i 25)), (2, .int (z_i 0)), (0, .ref tm), (1, .int (z_i k))] d_T_step_14 rfl (by decide) rfl ?_
    have C15 : ∀ (mm : Nat) (f : Int) (c : Int), (0 ≤ f ∧ f ≤ 25) → (c = rc b1 b0 dice us (6 * (25 - f) + (6 - 6)).toNat) → (rf b1 b0 dice us k 150 = rf b1 b0 dice us k (rf_r f 6)) → f.toNat < mm → J L X 5 0 0 [(tm, .inr (3, [.int (z_i len), .ref sc, .ref bo, .ref ho, .ref rx, .int (z_i 2), .int (z_i 1), .int (z_i stk), .int (z_i hol), .int (z_i cn), .int (z_i cs)])), (sc, aI L 2 sco), (bo, .inr (0, [.ref ra])), (ra, aR L 2 gr), (r0, aI L 26 b0), (r1, aI L 26 b1), (ho, .inr (1, [.ref di, .int (z_i us), .ref bo, .int (z_i 1), .int (z_i ct)])), (di, aI L 7 dice), (rx, .inr (2, [.ref kn])), (kn, aL L 225 kno)] [(3, .int (z_i f)), (2, .int (z_i c)), (0, .ref tm), (1, .int (z_i k))] [] 15 := by
      intro mm
      induction mm with
      | zero => intro f c hf he hr hme; exact absurd hme (Nat.not_lt_zero _)
      | succ mm ih15 =>
        intro f c hf he hr hme
        refine J_iload_n E 0 d_T_step_15 rfl rfl ?_
        refine J_iconst E d_T_step_16 ?_
        refine J_icmp_lt E 71 d_T_step_17 (by decide) (by exact ⟨⟨by omega, by omega⟩, ⟨by omega, by omega⟩⟩) (fun h17 => ?_) (fun h17 => ?_)
        · have hnf : rf b1 b0 (dcf hi lo hs ls) (m_due b1 b0 hi lo hs ls) k 150 = -2 := by rw [← hus, ← rf_cong hdi us k, hr, show f = 0 by omega]; rfl
          refine J_bipush E d_T_step_71 (by decide) ?_
          exact J_ireturn E F (by rw [m_step_f (mv := 1) hnf]) (by rw [m_step_f (mv := 1) hnf]; exact ⟨us, 1, ct, dice, kno, hH, hmm, rfl⟩) d_T_step_73
        · refine J_bipush E d_T_step_20 (by decide) ?_
          refine J_istore E [(4, .int (z_i 6)), (3, .int (z_i f)), (2, .int (z_i c)), (0, .ref tm), (1, .int (z_i k))] d_T_step_22 (by decide) rfl ?_
          have C24 : ∀ (mm : Nat) (d : Int) (c2 : Int), (0 ≤ d ∧ d ≤ 6) → (c2 = rc b1 b0 dice us (6 * (25 - f) + (6 - d)).toNat) → (rf b1 b0 dice us k 150 = rf b1 b0 dice us k (rf_r f d)) → d.toNat < mm → J L X 5 0 0 [(tm, .inr (3, [.int (z_i len), .ref sc, .ref bo, .ref ho, .ref rx, .int (z_i 2), .int (z_i 1), .int (z_i stk), .int (z_i hol), .int (z_i cn), .int (z_i cs)])), (sc, aI L 2 sco), (bo, .inr (0, [.ref ra])), (ra, aR L 2 gr), (r0, aI L 26 b0), (r1, aI L 26 b1), (ho, .inr (1, [.ref di, .int (z_i us), .ref bo, .int (z_i 1), .int (z_i ct)])), (di, aI L 7 dice), (rx, .inr (2, [.ref kn])), (kn, aL L 225 kno)] [(4, .int (z_i d)), (2, .int (z_i c2)), (3, .int (z_i f)), (0, .ref tm), (1, .int (z_i k))] [] 24 := by
            intro mm
            induction mm with
            | zero => intro d c2 hd he2 hr2 hme; exact absurd hme (Nat.not_lt_zero _)
            | succ mm ih24 =>
              intro d c2 hd he2 hr2 hme
              refine J_iload E 0 d_T_step_24 rfl ?_
              refine J_iconst E d_T_step_26 ?_
              refine J_icmp_lt E 65 d_T_step_27 (by decide) (by exact ⟨⟨by omega, by omega⟩, ⟨by omega, by omega⟩⟩) (fun h27 => ?_) (fun h27 => ?_)
              · refine J_iinc E 2 [(3, .int (z_i (f + (-1)))), (4, .int (z_i d)), (2, .int (z_i c2)), (0, .ref tm), (1, .int (z_i k))] d_T_step_65 rfl (by decide) rfl ?_
                refine J_goto E 15 d_T_step_68 (by decide) ?_
                refine J_lv (lv' := [(3, .int (z_i (f + (-1)))), (2, .int (z_i c2)), (0, .ref tm), (1, .int (z_i k))]) [0, 2, 3, 4] rfl ?_
                exact ih15 (f + (-1)) c2 (by omega) (by rw [he2]; congr 1; omega) (by rw [hr2]; congr 1; unfold rf_r; omega) (by omega)
              · refine J_aload_n E 3 d_T_step_30 rfl rfl ?_
                refine g_T_25 E 0 rfl rfl d_T_step_31 ?_
                refine J_iload_n E 2 d_T_step_34 rfl rfl ?_
                refine J_iload E 0 d_T_step_35 rfl ?_
                refine J_callV (wr := [(tm, .inr (3, [.int (z_i len), .ref sc, .ref bo, .ref ho, .ref rx, .int (z_i 2), .int (z_i 1), .int (z_i stk), .int (z_i hol), .int (z_i cn), .int (z_i cs)])), (sc, aI L 2 sco), (rx, .inr (2, [.ref kn])), (kn, aL L 225 kno)]) (rest := []) E kb_H_isRight t_1_174 t_1_175 t_1_176 (c_H_isRight L ho di bo ra r1 r0 gr b1 b0 1 dice us ct f d (Or.inr rfl) g1 g0 hb1 hb0 hc hct2 hc4 hu4 ⟨by omega, by omega⟩ ⟨by omega, by omega⟩) (fun _ => rfl) (Rm_h (by decide) (by decide)) [6, 7, 2, 3, 5, 4] [0, 1, 8, 9] rfl rfl rfl rfl (by decide) 0 rfl rfl rfl rfl (Nat.le_of_ble_eq_true rfl) d_T_step_37 (fun w' hw => ?_)
                obtain rfl : w' = [(ho, .inr (1, [.ref di, .int (z_i us), .ref bo, .int (z_i 1), .int (z_i ct)])), (di, aI L 7 dice), (bo, .inr (0, [.ref ra])), (ra, aR L 2 gr), (r1, aI L 26 b1), (r0, aI L 26 b0)] := hw
                show J L X 5 0 0 [(tm, .inr (3, [.int (z_i len), .ref sc, .ref bo, .ref ho, .ref rx, .int (z_i 2), .int (z_i 1), .int (z_i stk), .int (z_i hol), .int (z_i cn), .int (z_i cs)])), (sc, aI L 2 sco), (rx, .inr (2, [.ref kn])), (kn, aL L 225 kno), (ho, .inr (1, [.ref di, .int (z_i us), .ref bo, .int (z_i 1), .int (z_i ct)])), (di, aI L 7 dice), (bo, .inr (0, [.ref ra])), (ra, aR L 2 gr), (r1, aI L 26 b1), (r0, aI L 26 b0)] [(4, .int (z_i d)), (2, .int (z_i c2)), (3, .int (z_i f)), (0, .ref tm), (1, .int (z_i k))] [.int (z_i (b2 (rt_ok b1 b0 dice us f d)))] 40
                refine J_if_eq E 59 d_T_step_40 (by decide) (b2_r _) (fun h40 => ?_) (fun h40 => ?_)
                · have hrt := b2_not h40
                  refine J_iinc E 0 [(4, .int (z_i (d + (-1)))), (2, .int (z_i c2)), (3, .int (z_i f)), (0, .ref tm), (1, .int (z_i k))] d_T_step_59 rfl (by decide) rfl ?_
                  refine J_goto E 24 d_T_step_62 (by decide) ?_
                  refine J_ws (ws' := [(tm, .inr (3, [.int (z_i len), .ref sc, .ref bo, .ref ho, .ref rx, .int (z_i 2), .int (z_i 1), .int (z_i stk), .int (z_i hol), .int (z_i cn), .int (z_i cs)])), (sc, aI L 2 sco), (bo, .inr (0, [.ref ra])), (ra, aR L 2 gr), (r0, aI L 26 b0), (r1, aI L 26 b1), (ho, .inr (1, [.ref di, .int (z_i us), .ref bo, .int (z_i 1), .int (z_i ct)])), (di, aI L 7 dice), (rx, .inr (2, [.ref kn])), (kn, aL L 225 kno)]) [0, 1, 6, 7, 9, 8, 4, 5, 2, 3] rfl rfl ?_
                  exact ih24 (d + (-1)) c2 (by omega) (by rw [rc_f (by omega) (by omega) hrt]; exact he2) (by rw [hr2]; exact rf_f (by omega) (by omega) (fun z => hrt z.1)) (by omega)
                · have hrt := b2_of h40
                  refine J_iload_n E 1 d_T_step_43 rfl rfl ?_
                  refine J_iload_n E 4 d_T_step_44 rfl rfl ?_
                  refine J_icmp_ne E 56 d_T_step_45 (by decide) (by have := rc_in b1 b0 dice us (6 * (25 - f) + (6 - d)).toNat; exact ⟨⟨by omega, by omega⟩, by omega, by omega⟩) (fun h45 => ?_) (fun h45 => ?_)
                  · refine J_iinc E 1 [(2, .int (z_i (c2 + 1))), (4, .int (z_i d)), (3, .int (z_i f)), (0, .ref tm), (1, .int (z_i k))] d_T_step_56 rfl (by decide) rfl ?_
                    refine J_iinc E 1 [(4, .int (z_i (d + (-1)))), (2, .int (z_i (c2 + 1))), (3, .int (z_i f)), (0, .ref tm), (1, .int (z_i k))] d_T_step_59 rfl (by decide) rfl ?_
                    refine J_goto E 24 d_T_step_62 (by decide) ?_
                    refine J_ws (ws' := [(tm, .inr (3, [.int (z_i len), .ref sc, .ref bo, .ref ho, .ref rx, .int (z_i 2), .int (z_i 1), .int (z_i stk), .int (z_i hol), .int (z_i cn), .int (z_i cs)])), (sc, aI L 2 sco), (bo, .inr (0, [.ref ra])), (ra, aR L 2 gr), (r0, aI L 26 b0), (r1, aI L 26 b1), (ho, .inr (1, [.ref di, .int (z_i us), .ref bo, .int (z_i 1), .int (z_i ct)])), (di, aI L 7 dice), (rx, .inr (2, [.ref kn])), (kn, aL L 225 kno)]) [0, 1, 6, 7, 9, 8, 4, 5, 2, 3] rfl rfl ?_
                    exact ih24 (d + (-1)) (c2 + 1) (by omega) (by rw [rc_t (by omega) (by omega) hrt, he2]) (by rw [hr2]; exact rf_f (by omega) (by omega) (fun z => h45 (by rw [he2]; exact z.2))) (by omega)
                  · have hrf : rf b1 b0 dice us k 150 = 8 * f + d := by rw [hr2]; exact rf_t (by omega) (by omega) hrt (by rw [← he2]; exact h45)
                    have hrf2 : rf b1 b0 (dcf hi lo hs ls) (m_due b1 b0 hi lo hs ls) k 150 = 8 * f + d := by rw [← hus, ← rf_cong hdi us k]; exact hrf
                    refine J_aload_n E 3 d_T_step_48 rfl rfl ?_
                    refine J_iload_n E 2 d_T_step_49 rfl rfl ?_
                    refine J_iload E 0 d_T_step_50 rfl ?_
                    refine J_callV (wr := []) (rest := []) E kb_T_play t_1_188 t_1_190 ts_T_play (c_T_play_1 L tm sc bo ra r0 r1 ho di rx kn gr len stk hol cn cs sco b0 b1 us ct dice kno hi lo hs ls f d g0 g1 hlen hstk hcs hsc hb0 hb1 hk hc hct hu4 hdi hmm hrt) (fun _ => rfl) (Rm_h (by decide) (by decide)) [0, 1, 6, 7, 9, 8, 4, 5, 2, 3] [] rfl rfl rfl rfl (by decide) 0 rfl rfl rfl rfl (Nat.le_of_ble_eq_true rfl) d_T_step_52 (fun w' hw => ?_)
                    replace hw : (RC L tm sc bo ra r0 r1 ho di rx kn gr (m_play len 2 1 stk hol cn cs sco b0 b1 hi lo hs ls f d).2) w' := hw
                    show J L X 5 0 0 w' [(4, .int (z_i d)), (2, .int (z_i c2)), (3, .int (z_i f)), (0, .ref tm), (1, .int (z_i k))] [.int (z_i ((m_play len 2 1 stk hol cn cs sco b0 b1 hi lo hs ls f d).1))] 55
                    exact J_ireturn E F (by rw [m_step_t (mv := 1) (by omega) (by omega) hrf2]) (by rw [m_step_t (mv := 1) (by omega) (by omega) hrf2]; exact hw) d_T_step_55
          refine J_lv (lv' := [(4, .int (z_i 6)), (2, .int (z_i c)), (3, .int (z_i f)), (0, .ref tm), (1, .int (z_i k))]) [0, 2, 1, 3, 4] rfl ?_
          exact C24 _ 6 c (by decide) he hr (Nat.lt_succ_self _)
    exact C15 _ 25 0 (by decide) rfl rfl (Nat.lt_succ_self _)
  · refine J_iconst E d_T_step_8 ?_
    exact J_ireturn E F (by rw [m_step_o h5]) (by rw [m_step_o h5]; exact ⟨us, pl, ct, dice, kno, hH, hmm, rfl⟩) d_T_step_9
set_option maxHeartbeats 4000000 in
set_option maxRecDepth 100000 in
theorem c_T_ways_1 (L : Lx) (tm sc bo ra r0 r1 ho di rx kn : Nat) (gr : Nat → Option Nat) (len stg stk hol cn cs : Int) (sco b0 b1 : Int → Int) (us pl ct : Int) (dice kno : Int → Int) (hi lo hs ls : Int)  (g0 : gr 0 = some r0) (g1 : gr 1 = some r1) (hS : st_ok (len, stg, 1, stk, hol, cn, cs, sco, b0, b1, hi, lo, hs, ls)) (hH : hd_ok stg 1 b0 b1 hi lo hs ls dice us pl ct) (hmm : mm_ok kno) : CtG L y_T_ways b_T_ways 1 (some .int) (rmh 14) false 0 0 [.ref tm] [(tm, .inr (3, [.int (z_i len), .ref sc, .ref bo, .ref ho, .ref rx, .int (z_i stg), .int (z_i 1), .int (z_i stk), .int (z_i hol), .int (z_i cn), .int (z_i cs)])), (sc, aI L 2 sco), (bo, .inr (0, [.ref ra])), (ra, aR L 2 gr), (r0, aI L 26 b0), (r1, aI L 26 b1), (ho, .inr (1, [.ref di, .int (z_i us), .ref bo, .int (z_i pl), .int (z_i ct)])), (di, aI L 7 dice), (rx, .inr (2, [.ref kn])), (kn, aL L 225 kno)] (RC L tm sc bo ra r0 r1 ho di rx kn gr (len, stg, 1, stk, hol, cn, cs, sco, b0, b1, hi, lo, hs, ls)) (some (.int (z_i (m_ways (len, stg, 1, stk, hol, cn, cs, sco, b0, b1, hi, lo, hs, ls))))) := by
  obtain ⟨hlen, hstg, hmv, hstk, hhol, hcn, hcs, hsc, hsl, hb0, hb1, hdk⟩ := hS
  refine CtG.of rfl (Nat.le_of_ble_eq_true rfl) (fun X E F => ?_)
  show J L X 1 0 0 [(tm, .inr (3, [.int (z_i len), .ref sc, .ref bo, .ref ho, .ref rx, .int (z_i stg), .int (z_i 1), .int (z_i stk), .int (z_i hol), .int (z_i cn), .int (z_i cs)])), (sc, aI L 2 sco), (bo, .inr (0, [.ref ra])), (ra, aR L 2 gr), (r0, aI L 26 b0), (r1, aI L 26 b1), (ho, .inr (1, [.ref di, .int (z_i us), .ref bo, .int (z_i pl), .int (z_i ct)])), (di, aI L 7 dice), (rx, .inr (2, [.ref kn])), (kn, aL L 225 kno)] [(0, .ref tm)] [] 0
  refine J_aload_n E 0 d_T_ways_0 rfl rfl ?_
  refine g_T_52 E 0 rfl rfl d_T_ways_1 ?_
  refine J_iconst E d_T_ways_4 ?_
  refine J_icmp_ne E 18 d_T_ways_5 (by decide) (by exact ⟨⟨by omega, by omega⟩, ⟨by omega, by omega⟩⟩) (fun h5 => ?_) (fun h5 => ?_)
  · refine J_iconst E d_T_ways_18 ?_
    exact J_ireturn E F (if_neg h5).symm ⟨us, pl, ct, dice, kno, hH, hmm, rfl⟩ d_T_ways_19
  · subst h5
    obtain ⟨hpl, hct, hus, hdi⟩ := hH.2 rfl
    obtain ⟨hk, hd1⟩ := hdk rfl
    subst hpl
    replace hus : us = m_due b1 b0 hi lo hs ls := hus
    have hu4 : 0 ≤ us ∧ us ≤ 4 := by rw [hus]; exact m_due_in hk
    have hct2 : ct = bd_sum dice := by rw [hct, ← dcf_sum hk]; exact (sum_cong hdi).symm
    have hc4 : ct ≤ 4 := by have := hk.2.2.2.2.2.1; omega
    have hc := hH.1
    refine J_aload_n E 0 d_T_ways_8 rfl rfl ?_
    refine g_T_25 E 0 rfl rfl d_T_ways_9 ?_
    refine J_callV (wr := [(tm, .inr (3, [.int (z_i len), .ref sc, .ref bo, .ref ho, .ref rx, .int (z_i 2), .int (z_i 1), .int (z_i stk), .int (z_i hol), .int (z_i cn), .int (z_i cs)])), (sc, aI L 2 sco), (rx, .inr (2, [.ref kn])), (kn, aL L 225 kno)]) (rest := []) E kb_H_countRight t_1_216 t_1_217 t_1_218 (c_H_countRight L ho di bo ra r1 r0 gr b1 b0 1 dice us ct (Or.inr rfl) g1 g0 hb1 hb0 hc hct2 hc4 hu4) (fun h => h) (Rm_h (by decide) (by decide)) [6, 7, 2, 3, 5, 4] [0, 1, 8, 9] rfl rfl rfl rfl (by decide) 0 rfl rfl rfl rfl (Nat.le_of_ble_eq_true rfl) d_T_ways_12 (fun w' hw => ?_)
    obtain rfl : w' = [(ho, .inr (1, [.ref di, .int (z_i us), .ref bo, .int (z_i 1), .int (z_i ct)])), (di, aI L 7 dice), (bo, .inr (0, [.ref ra])), (ra, aR L 2 gr), (r1, aI L 26 b1), (r0, aI L 26 b0)] := hw
    show J L X 1 0 0 [(tm, .inr (3, [.int (z_i len), .ref sc, .ref bo, .ref ho, .ref rx, .int (z_i 2), .int (z_i 1), .int (z_i stk), .int (z_i hol), .int (z_i cn), .int (z_i cs)])), (sc, aI L 2 sco), (rx, .inr (2, [.ref kn])), (kn, aL L 225 kno), (ho, .inr (1, [.ref di, .int (z_i us), .ref bo, .int (z_i 1), .int (z_i ct)])), (di, aI L 7 dice), (bo, .inr (0, [.ref ra])), (ra, aR L 2 gr), (r1, aI L 26 b1), (r0, aI L 26 b0)] [(0, .ref tm)] [.int (z_i (rc b1 b0 dice us 150))] 15
    refine J_goto E 19 d_T_ways_15 (by decide) ?_
    refine J_ws (ws' := [(tm, .inr (3, [.int (z_i len), .ref sc, .ref bo, .ref ho, .ref rx, .int (z_i 2), .int (z_i 1), .int (z_i stk), .int (z_i hol), .int (z_i cn), .int (z_i cs)])), (sc, aI L 2 sco), (bo, .inr (0, [.ref ra])), (ra, aR L 2 gr), (r0, aI L 26 b0), (r1, aI L 26 b1), (ho, .inr (1, [.ref di, .int (z_i us), .ref bo, .int (z_i 1), .int (z_i ct)])), (di, aI L 7 dice), (rx, .inr (2, [.ref kn])), (kn, aL L 225 kno)]) [0, 1, 6, 7, 9, 8, 4, 5, 2, 3] rfl rfl ?_
    exact J_ireturn E F (by rw [rc_cong hdi us, hus]; rfl) ⟨us, 1, ct, dice, kno, hH, hmm, rfl⟩ d_T_ways_19
set_option maxHeartbeats 4000000 in
set_option maxRecDepth 100000 in
theorem c_T_due_1 (L : Lx) (tm sc bo ra r0 r1 ho di rx kn : Nat) (gr : Nat → Option Nat) (len stg stk hol cn cs : Int) (sco b0 b1 : Int → Int) (us pl ct : Int) (dice kno : Int → Int) (hi lo hs ls : Int)  (g0 : gr 0 = some r0) (g1 : gr 1 = some r1) (hS : st_ok (len, stg, 1, stk, hol, cn, cs, sco, b0, b1, hi, lo, hs, ls)) (hH : hd_ok stg 1 b0 b1 hi lo hs ls dice us pl ct) (hmm : mm_ok kno) : CtG L y_T_due b_T_due 1 (some .int) (rmh 1) false 0 0 [.ref tm] [(tm, .inr (3, [.int (z_i len), .ref sc, .ref bo, .ref ho, .ref rx, .int (z_i stg), .int (z_i 1), .int (z_i stk), .int (z_i hol), .int (z_i cn), .int (z_i cs)])), (sc, aI L 2 sco), (bo, .inr (0, [.ref ra])), (ra, aR L 2 gr), (r0, aI L 26 b0), (r1, aI L 26 b1), (ho, .inr (1, [.ref di, .int (z_i us), .ref bo, .int (z_i pl), .int (z_i ct)])), (di, aI L 7 dice), (rx, .inr (2, [.ref kn])), (kn, aL L 225 kno)] (RC L tm sc bo ra r0 r1 ho di rx kn gr (len, stg, 1, stk, hol, cn, cs, sco, b0, b1, hi, lo, hs, ls)) (some (.int (z_i (m_dueA (len, stg, 1, stk, hol, cn, cs, sco, b0, b1, hi, lo, hs, ls))))) := by
  obtain ⟨hlen, hstg, hmv, hstk, hhol, hcn, hcs, hsc, hsl, hb0, hb1, hdk⟩ := hS
  refine CtG.of rfl (Nat.le_of_ble_eq_true rfl) (fun X E F => ?_)
  show J L X 1 0 0 [(tm, .inr (3, [.int (z_i len), .ref sc, .ref bo, .ref ho, .ref rx, .int (z_i stg), .int (z_i 1), .int (z_i stk), .int (z_i hol), .int (z_i cn), .int (z_i cs)])), (sc, aI L 2 sco), (bo, .inr (0, [.ref ra])), (ra, aR L 2 gr), (r0, aI L 26 b0), (r1, aI L 26 b1), (ho, .inr (1, [.ref di, .int (z_i us), .ref bo, .int (z_i pl), .int (z_i ct)])), (di, aI L 7 dice), (rx, .inr (2, [.ref kn])), (kn, aL L 225 kno)] [(0, .ref tm)] [] 0
  refine J_aload_n E 0 d_T_due_0 rfl rfl ?_
  refine g_T_52 E 0 rfl rfl d_T_due_1 ?_
  refine J_iconst E d_T_due_4 ?_
  refine J_icmp_ne E 18 d_T_due_5 (by decide) (by exact ⟨⟨by omega, by omega⟩, ⟨by omega, by omega⟩⟩) (fun h5 => ?_) (fun h5 => ?_)
  · refine J_iconst E d_T_due_18 ?_
    exact J_ireturn E F (if_neg h5).symm ⟨us, pl, ct, dice, kno, hH, hmm, rfl⟩ d_T_due_19
  · subst h5
    obtain ⟨hpl, hct, hus, hdi⟩ := hH.2 rfl
    obtain ⟨hk, hd1⟩ := hdk rfl
    subst hpl
    replace hus : us = m_due b1 b0 hi lo hs ls := hus
    have hu4 : 0 ≤ us ∧ us ≤ 4 := by rw [hus]; exact m_due_in hk
    have hct2 : ct = bd_sum dice := by rw [hct, ← dcf_sum hk]; exact (sum_cong hdi).symm
    have hc4 : ct ≤ 4 := by have := hk.2.2.2.2.2.1; omega
    have hc := hH.1
    refine J_aload_n E 0 d_T_due_8 rfl rfl ?_
    refine g_T_25 E 0 rfl rfl d_T_due_9 ?_
    refine g_T_87 E 6 rfl rfl d_T_due_12 ?_
    refine J_goto E 19 d_T_due_15 (by decide) ?_
    exact J_ireturn E F (hus.trans rfl) ⟨us, 1, ct, dice, kno, hH, hmm, rfl⟩ d_T_due_19
set_option maxHeartbeats 4000000 in
set_option maxRecDepth 100000 in
theorem c_T_roll_1 (L : Lx) (tm sc bo ra r0 r1 ho di rx kn : Nat) (gr : Nat → Option Nat) (len stg stk hol cn cs : Int) (sco b0 b1 : Int → Int) (us pl ct : Int) (dice kno : Int → Int) (hi lo hs ls : Int) (a b : Int) (g0 : gr 0 = some r0) (g1 : gr 1 = some r1) (hS : st_ok (len, stg, 1, stk, hol, cn, cs, sco, b0, b1, hi, lo, hs, ls)) (hH : hd_ok stg 1 b0 b1 hi lo hs ls dice us pl ct) (hmm : mm_ok kno) (ha : z_r a) (hb : z_r b) : CtG L y_T_roll b_T_roll 3 (some .int) (rmh 13) false 0 0 [.ref tm, .int (z_i a), .int (z_i b)] [(tm, .inr (3, [.int (z_i len), .ref sc, .ref bo, .ref ho, .ref rx, .int (z_i stg), .int (z_i 1), .int (z_i stk), .int (z_i hol), .int (z_i cn), .int (z_i cs)])), (sc, aI L 2 sco), (bo, .inr (0, [.ref ra])), (ra, aR L 2 gr), (r0, aI L 26 b0), (r1, aI L 26 b1), (ho, .inr (1, [.ref di, .int (z_i us), .ref bo, .int (z_i pl), .int (z_i ct)])), (di, aI L 7 dice), (rx, .inr (2, [.ref kn])), (kn, aL L 225 kno)] (RC L tm sc bo ra r0 r1 ho di rx kn gr (m_roll (len, stg, 1, stk, hol, cn, cs, sco, b0, b1, hi, lo, hs, ls) a b).2) (some (.int (z_i ((m_roll (len, stg, 1, stk, hol, cn, cs, sco, b0, b1, hi, lo, hs, ls) a b).1)))) := by
  obtain ⟨hlen, hstg, hmv, hstk, hhol, hcn, hcs, hsc, hsl, hb0, hb1, hdk⟩ := hS
  refine CtG.of rfl (Nat.le_of_ble_eq_true rfl) (fun X E F => ?_)
  show J L X 3 0 0 [(tm, .inr (3, [.int (z_i len), .ref sc, .ref bo, .ref ho, .ref rx, .int (z_i stg), .int (z_i 1), .int (z_i stk), .int (z_i hol), .int (z_i cn), .int (z_i cs)])), (sc, aI L 2 sco), (bo, .inr (0, [.ref ra])), (ra, aR L 2 gr), (r0, aI L 26 b0), (r1, aI L 26 b1), (ho, .inr (1, [.ref di, .int (z_i us), .ref bo, .int (z_i pl), .int (z_i ct)])), (di, aI L 7 dice), (rx, .inr (2, [.ref kn])), (kn, aL L 225 kno)] [(0, .ref tm), (1, .int (z_i a)), (2, .int (z_i b))] [] 0
  refine J_aload_n E 0 d_T_roll_0 rfl rfl ?_
  refine g_T_52 E 0 rfl rfl d_T_roll_1 ?_
  refine J_if_eq E 17 d_T_roll_4 (by decide) (by exact ⟨by omega, by omega⟩) (fun h4 => ?_) (fun h4 => ?_)
  · subst h4
    refine J_iload_n E 1 d_T_roll_17 rfl rfl ?_
    refine J_callS (wr := [(tm, .inr (3, [.int (z_i len), .ref sc, .ref bo, .ref ho, .ref rx, .int (z_i 0), .int (z_i 1), .int (z_i stk), .int (z_i hol), .int (z_i cn), .int (z_i cs)])), (sc, aI L 2 sco), (bo, .inr (0, [.ref ra])), (ra, aR L 2 gr), (r0, aI L 26 b0), (r1, aI L 26 b1), (ho, .inr (1, [.ref di, .int (z_i us), .ref bo, .int (z_i pl), .int (z_i ct)])), (di, aI L 7 dice), (rx, .inr (2, [.ref kn])), (kn, aL L 225 kno)]) (rest := []) E kb_T_isNumber t_1_133 t_1_134 (c_T_isNumber L a ha) (fun h => h) (Rm_h (by decide) (by decide)) [] [0, 1, 2, 3, 4, 5, 6, 7, 8, 9] rfl rfl rfl rfl (by decide) rfl rfl (Nat.le_of_ble_eq_true rfl) d_T_roll_18 (fun w' hw => ?_)
    obtain rfl : w' = [] := hw
    show J L X 3 0 0 [(tm, .inr (3, [.int (z_i len), .ref sc, .ref bo, .ref ho, .ref rx, .int (z_i 0), .int (z_i 1), .int (z_i stk), .int (z_i hol), .int (z_i cn), .int (z_i cs)])), (sc, aI L 2 sco), (bo, .inr (0, [.ref ra])), (ra, aR L 2 gr), (r0, aI L 26 b0), (r1, aI L 26 b1), (ho, .inr (1, [.ref di, .int (z_i us), .ref bo, .int (z_i pl), .int (z_i ct)])), (di, aI L 7 dice), (rx, .inr (2, [.ref kn])), (kn, aL L 225 kno)] [(0, .ref tm), (1, .int (z_i a)), (2, .int (z_i b))] [.int (z_i (b2 (1 ≤ a ∧ a ≤ 6)))] 21
    refine J_if_eq E 31 d_T_roll_21 (by decide) (b2_r _) (fun h21 => ?_) (fun h21 => ?_)
    · have hda := b2_not h21
      refine J_iconst E d_T_roll_31 ?_
      exact J_ireturn E F (by rw [m_roll_o (by omega)]) (by rw [m_roll_o (by omega)]; exact ⟨us, pl, ct, dice, kno, hH, hmm, rfl⟩) d_T_roll_32
    · have hda := b2_of h21
      refine J_iload_n E 2 d_T_roll_24 rfl rfl ?_
      refine J_callS (wr := [(tm, .inr (3, [.int (z_i len), .ref sc, .ref bo, .ref ho, .ref rx, .int (z_i 0), .int (z_i 1), .int (z_i stk), .int (z_i hol), .int (z_i cn), .int (z_i cs)])), (sc, aI L 2 sco), (bo, .inr (0, [.ref ra])), (ra, aR L 2 gr), (r0, aI L 26 b0), (r1, aI L 26 b1), (ho, .inr (1, [.ref di, .int (z_i us), .ref bo, .int (z_i pl), .int (z_i ct)])), (di, aI L 7 dice), (rx, .inr (2, [.ref kn])), (kn, aL L 225 kno)]) (rest := []) E kb_T_isNumber t_1_133 t_1_134 (c_T_isNumber L b hb) (fun h => h) (Rm_h (by decide) (by decide)) [] [0, 1, 2, 3, 4, 5, 6, 7, 8, 9] rfl rfl rfl rfl (by decide) rfl rfl (Nat.le_of_ble_eq_true rfl) d_T_roll_25 (fun w' hw => ?_)
      obtain rfl : w' = [] := hw
      show J L X 3 0 0 [(tm, .inr (3, [.int (z_i len), .ref sc, .ref bo, .ref ho, .ref rx, .int (z_i 0), .int (z_i 1), .int (z_i stk), .int (z_i hol), .int (z_i cn), .int (z_i cs)])), (sc, aI L 2 sco), (bo, .inr (0, [.ref ra])), (ra, aR L 2 gr), (r0, aI L 26 b0), (r1, aI L 26 b1), (ho, .inr (1, [.ref di, .int (z_i us), .ref bo, .int (z_i pl), .int (z_i ct)])), (di, aI L 7 dice), (rx, .inr (2, [.ref kn])), (kn, aL L 225 kno)] [(0, .ref tm), (1, .int (z_i a)), (2, .int (z_i b))] [.int (z_i (b2 (1 ≤ b ∧ b ≤ 6)))] 28
      refine J_if_ne E 33 d_T_roll_28 (by decide) (b2_r _) (fun h28 => ?_) (fun h28 => ?_)
      · have hdb := b2_of h28
        refine J_aload_n E 0 d_T_roll_33 rfl rfl ?_
        refine g_T_52 E 0 rfl rfl d_T_roll_34 ?_
        refine J_if_ne E 61 d_T_roll_37 (by decide) (by exact ⟨by omega, by omega⟩) (fun h37 => ?_) (fun h37 => ?_)
        · exact absurd rfl h37
        · refine J_iload_n E 1 d_T_roll_40 rfl rfl ?_
          refine J_iload_n E 2 d_T_roll_41 rfl rfl ?_
          refine J_icmp_ne E 47 d_T_roll_42 (by decide) (by exact ⟨⟨by omega, by omega⟩, ⟨by omega, by omega⟩⟩) (fun h42 => ?_) (fun h42 => ?_)
          · refine J_aload_n E 0 d_T_roll_47 rfl rfl ?_
            refine J_iload_n E 1 d_T_roll_48 rfl rfl ?_
            refine J_iload_n E 2 d_T_roll_49 rfl rfl ?_
            refine J_icmp_le E 57 d_T_roll_50 (by decide) (by exact ⟨⟨by omega, by omega⟩, ⟨by omega, by omega⟩⟩) (fun h50 => ?_) (fun h50 => ?_)
            · refine J_iconst E d_T_roll_57 ?_
              refine p_T_66 E 0 [(tm, .inr (3, [.int (z_i len), .ref sc, .ref bo, .ref ho, .ref rx, .int (z_i 0), .int (z_i 1), .int (z_i stk), .int (z_i hol), .int (z_i cn), .int (z_i cs)])), (sc, aI L 2 sco), (bo, .inr (0, [.ref ra])), (ra, aR L 2 gr), (r0, aI L 26 b0), (r1, aI L 26 b1), (ho, .inr (1, [.ref di, .int (z_i us), .ref bo, .int (z_i pl), .int (z_i ct)])), (di, aI L 7 dice), (rx, .inr (2, [.ref kn])), (kn, aL L 225 kno)] rfl rfl (Nat.le_of_ble_eq_true rfl) d_T_roll_58 ?_
              refine J_aload_n E 0 d_T_roll_61 rfl rfl ?_
              refine J_iconst E d_T_roll_62 ?_
              refine p_T_52 E 0 [(tm, .inr (3, [.int (z_i len), .ref sc, .ref bo, .ref ho, .ref rx, .int (z_i 2), .int (z_i 1), .int (z_i stk), .int (z_i hol), .int (z_i cn), .int (z_i cs)])), (sc, aI L 2 sco), (bo, .inr (0, [.ref ra])), (ra, aR L 2 gr), (r0, aI L 26 b0), (r1, aI L 26 b1), (ho, .inr (1, [.ref di, .int (z_i us), .ref bo, .int (z_i pl), .int (z_i ct)])), (di, aI L 7 dice), (rx, .inr (2, [.ref kn])), (kn, aL L 225 kno)] rfl rfl (Nat.le_of_ble_eq_true rfl) d_T_roll_63 ?_
              refine J_aload_n E 0 d_T_roll_66 rfl rfl ?_
              refine g_T_25 E 0 rfl rfl d_T_roll_67 ?_
              refine J_aload_n E 0 d_T_roll_70 rfl rfl ?_
              refine g_T_66 E 0 rfl rfl d_T_roll_71 ?_
              refine J_iload_n E 1 d_T_roll_74 rfl rfl ?_
              refine J_iload_n E 2 d_T_roll_75 rfl rfl ?_
              refine J_callV (wr := [(tm, .inr (3, [.int (z_i len), .ref sc, .ref bo, .ref ho, .ref rx, .int (z_i 2), .int (z_i 1), .int (z_i stk), .int (z_i hol), .int (z_i cn), .int (z_i cs)])), (sc, aI L 2 sco), (rx, .inr (2, [.ref kn])), (kn, aL L 225 kno)]) (rest := []) E kb_H_take t_1_136 t_1_137 t_1_138 (c_H_take L ho di bo ra r1 r0 gr b1 b0 pl dice us ct 1 a b (Or.inr rfl) g1 g0 hb1 hb0 hH.1 hda hdb) (fun h => h) (Rm_h (by decide) (by decide)) [6, 7, 2, 3, 5, 4] [0, 1, 8, 9] rfl rfl rfl rfl (by decide) 0 rfl rfl rfl rfl (Nat.le_of_ble_eq_true rfl) d_T_roll_76 (fun w' hw => ?_)
              obtain rfl : w' = [(ho, .inr (1, [.ref di, .int (z_i (((bd_due b0 (tk_d dice a b) b1 : Nat) : Int))), .ref bo, .int (z_i 1), .int (z_i (2 * (tk_n a b)))])), (di, aI L 7 (tk_d dice a b)), (bo, .inr (0, [.ref ra])), (ra, aR L 2 gr), (r1, aI L 26 b1), (r0, aI L 26 b0)] := hw
              show J L X 3 0 0 [(tm, .inr (3, [.int (z_i len), .ref sc, .ref bo, .ref ho, .ref rx, .int (z_i 2), .int (z_i 1), .int (z_i stk), .int (z_i hol), .int (z_i cn), .int (z_i cs)])), (sc, aI L 2 sco), (rx, .inr (2, [.ref kn])), (kn, aL L 225 kno), (ho, .inr (1, [.ref di, .int (z_i (((bd_due b0 (tk_d dice a b) b1 : Nat) : Int))), .ref bo, .int (z_i 1), .int (z_i (2 * (tk_n a b)))])), (di, aI L 7 (tk_d dice a b)), (bo, .inr (0, [.ref ra])), (ra, aR L 2 gr), (r1, aI L 26 b1), (r0, aI L 26 b0)] [(0, .ref tm), (1, .int (z_i a)), (2, .int (z_i b))] [] 79
              refine J_aload_n E 0 d_T_roll_79 rfl rfl ?_
              refine J_callV (wr := []) (rest := []) E kb_T_endTurnIfDone t_1_166 t_1_168 ts_T_endTurnIfDone (c_T_endTurnIfDone L tm sc bo ra r0 r1 ho di rx kn gr len 2 1 stk hol cn cs sco b0 b1 (((bd_due b0 (tk_d dice a b) b1 : Nat) : Int)) 1 (2 * (tk_n a b)) (tk_d dice a b) kno g0 g1 (by rw [tk_due dice b1 b0 hda hdb]; exact m_due_in (b_dk hda hdb))) (fun h => h) (Rm_h (by decide) (by decide)) [0, 1, 6, 7, 9, 8, 4, 5, 2, 3] [] rfl rfl rfl rfl (by decide) 0 rfl rfl rfl rfl (Nat.le_of_ble_eq_true rfl) d_T_roll_80 (fun w' hw => ?_)
              replace hw : (fun u => ((((bd_due b0 (tk_d dice a b) b1 : Nat) : Int)) = 0 ∧ u = [(tm, .inr (3, [.int (z_i len), .ref sc, .ref bo, .ref ho, .ref rx, .int (z_i 1), .int (z_i (1 - 1)), .int (z_i stk), .int (z_i hol), .int (z_i cn), .int (z_i cs)])), (sc, aI L 2 sco), (bo, .inr (0, [.ref ra])), (ra, aR L 2 gr), (r0, aI L 26 b0), (r1, aI L 26 b1), (ho, .inr (1, [.ref di, .int (z_i (((bd_due b0 (tk_d dice a b) b1 : Nat) : Int))), .ref bo, .int (z_i 1), .int (z_i (2 * (tk_n a b)))])), (di, aI L 7 (tk_d dice a b)), (rx, .inr (2, [.ref kn])), (kn, aL L 225 kno)]) ∨ ((((bd_due b0 (tk_d dice a b) b1 : Nat) : Int)) ≠ 0 ∧ u = [(tm, .inr (3, [.int (z_i len), .ref sc, .ref bo, .ref ho, .ref rx, .int (z_i 2), .int (z_i 1), .int (z_i stk), .int (z_i hol), .int (z_i cn), .int (z_i cs)])), (sc, aI L 2 sco), (bo, .inr (0, [.ref ra])), (ra, aR L 2 gr), (r0, aI L 26 b0), (r1, aI L 26 b1), (ho, .inr (1, [.ref di, .int (z_i (((bd_due b0 (tk_d dice a b) b1 : Nat) : Int))), .ref bo, .int (z_i 1), .int (z_i (2 * (tk_n a b)))])), (di, aI L 7 (tk_d dice a b)), (rx, .inr (2, [.ref kn])), (kn, aL L 225 kno)])) w' := hw
              rcases hw with ⟨hz, rfl⟩ | ⟨hz, rfl⟩
              · have hdu := tk_due dice b1 b0 hda hdb
                show J L X 3 0 0 [(tm, .inr (3, [.int (z_i len), .ref sc, .ref bo, .ref ho, .ref rx, .int (z_i 1), .int (z_i (1 - 1)), .int (z_i stk), .int (z_i hol), .int (z_i cn), .int (z_i cs)])), (sc, aI L 2 sco), (bo, .inr (0, [.ref ra])), (ra, aR L 2 gr), (r0, aI L 26 b0), (r1, aI L 26 b1), (ho, .inr (1, [.ref di, .int (z_i (((bd_due b0 (tk_d dice a b) b1 : Nat) : Int))), .ref bo, .int (z_i 1), .int (z_i (2 * (tk_n a b)))])), (di, aI L 7 (tk_d dice a b)), (rx, .inr (2, [.ref kn])), (kn, aL L 225 kno)] [(0, .ref tm), (1, .int (z_i a)), (2, .int (z_i b))] [.int (z_i (((bd_due b0 (tk_d dice a b) b1 : Nat) : Int)))] 83
                exact J_ireturn E F (by rw [m_roll_01 hda hdb h42 h50, m_begin_z1 (hdu ▸ hz)]; exact hz) (by rw [m_roll_01 hda hdb h42 h50, m_begin_z1 (hdu ▸ hz)]; exact ⟨(((bd_due b0 (tk_d dice a b) b1 : Nat) : Int)), 1, (2 * (tk_n a b)), (tk_d dice a b), kno, ⟨tk_ok hH.1 hda hdb, fun z => absurd z (by decide)⟩, hmm, rfl⟩) d_T_roll_83
              · have hdu := tk_due dice b1 b0 hda hdb
                show J L X 3 0 0 [(tm, .inr (3, [.int (z_i len), .ref sc, .ref bo, .ref ho, .ref rx, .int (z_i 2), .int (z_i 1), .int (z_i stk), .int (z_i hol), .int (z_i cn), .int (z_i cs)])), (sc, aI L 2 sco), (bo, .inr (0, [.ref ra])), (ra, aR L 2 gr), (r0, aI L 26 b0), (r1, aI L 26 b1), (ho, .inr (1, [.ref di, .int (z_i (((bd_due b0 (tk_d dice a b) b1 : Nat) : Int))), .ref bo, .int (z_i 1), .int (z_i (2 * (tk_n a b)))])), (di, aI L 7 (tk_d dice a b)), (rx, .inr (2, [.ref kn])), (kn, aL L 225 kno)] [(0, .ref tm), (1, .int (z_i a)), (2, .int (z_i b))] [.int (z_i (((bd_due b0 (tk_d dice a b) b1 : Nat) : Int)))] 83
                exact J_ireturn E F (by rw [m_roll_01 hda hdb h42 h50, m_begin_n1 (hdu ▸ hz)]; exact hdu) (by rw [m_roll_01 hda hdb h42 h50, m_begin_n1 (hdu ▸ hz)]; exact ⟨(((bd_due b0 (tk_d dice a b) b1 : Nat) : Int)), 1, (2 * (tk_n a b)), (tk_d dice a b), kno, ⟨tk_ok hH.1 hda hdb, fun _ => ⟨rfl, tk_ct a b, hdu, tk_dcf dice hda hdb⟩⟩, hmm, rfl⟩) d_T_roll_83
            · refine J_iconst E d_T_roll_53 ?_
              refine J_goto E 58 d_T_roll_54 (by decide) ?_
              refine p_T_66 E 0 [(tm, .inr (3, [.int (z_i len), .ref sc, .ref bo, .ref ho, .ref rx, .int (z_i 0), .int (z_i 0), .int (z_i stk), .int (z_i hol), .int (z_i cn), .int (z_i cs)])), (sc, aI L 2 sco), (bo, .inr (0, [.ref ra])), (ra, aR L 2 gr), (r0, aI L 26 b0), (r1, aI L 26 b1), (ho, .inr (1, [.ref di, .int (z_i us), .ref bo, .int (z_i pl), .int (z_i ct)])), (di, aI L 7 dice), (rx, .inr (2, [.ref kn])), (kn, aL L 225 kno)] rfl rfl (Nat.le_of_ble_eq_true rfl) d_T_roll_58 ?_
              refine J_aload_n E 0 d_T_roll_61 rfl rfl ?_
              refine J_iconst E d_T_roll_62 ?_
              refine p_T_52 E 0 [(tm, .inr (3, [.int (z_i len), .ref sc, .ref bo, .ref ho, .ref rx, .int (z_i 2), .int (z_i 0), .int (z_i stk), .int (z_i hol), .int (z_i cn), .int (z_i cs)])), (sc, aI L 2 sco), (bo, .inr (0, [.ref ra])), (ra, aR L 2 gr), (r0, aI L 26 b0), (r1, aI L 26 b1), (ho, .inr (1, [.ref di, .int (z_i us), .ref bo, .int (z_i pl), .int (z_i ct)])), (di, aI L 7 dice), (rx, .inr (2, [.ref kn])), (kn, aL L 225 kno)] rfl rfl (Nat.le_of_ble_eq_true rfl) d_T_roll_63 ?_
              refine J_aload_n E 0 d_T_roll_66 rfl rfl ?_
              refine g_T_25 E 0 rfl rfl d_T_roll_67 ?_
              refine J_aload_n E 0 d_T_roll_70 rfl rfl ?_
              refine g_T_66 E 0 rfl rfl d_T_roll_71 ?_
              refine J_iload_n E 1 d_T_roll_74 rfl rfl ?_
              refine J_iload_n E 2 d_T_roll_75 rfl rfl ?_
              refine J_callV (wr := [(tm, .inr (3, [.int (z_i len), .ref sc, .ref bo, .ref ho, .ref rx, .int (z_i 2), .int (z_i 0), .int (z_i stk), .int (z_i hol), .int (z_i cn), .int (z_i cs)])), (sc, aI L 2 sco), (rx, .inr (2, [.ref kn])), (kn, aL L 225 kno)]) (rest := []) E kb_H_take t_1_136 t_1_137 t_1_138 (c_H_take L ho di bo ra r0 r1 gr b0 b1 pl dice us ct 0 a b (Or.inl rfl) g0 g1 hb0 hb1 hH.1 hda hdb) (fun h => h) (Rm_h (by decide) (by decide)) [6, 7, 2, 3, 4, 5] [0, 1, 8, 9] rfl rfl rfl rfl (by decide) 0 rfl rfl rfl rfl (Nat.le_of_ble_eq_true rfl) d_T_roll_76 (fun w' hw => ?_)
              obtain rfl : w' = [(ho, .inr (1, [.ref di, .int (z_i (((bd_due b1 (tk_d dice a b) b0 : Nat) : Int))), .ref bo, .int (z_i 0), .int (z_i (2 * (tk_n a b)))])), (di, aI L 7 (tk_d dice a b)), (bo, .inr (0, [.ref ra])), (ra, aR L 2 gr), (r0, aI L 26 b0), (r1, aI L 26 b1)] := hw
              show J L X 3 0 0 [(tm, .inr (3, [.int (z_i len), .ref sc, .ref bo, .ref ho, .ref rx, .int (z_i 2), .int (z_i 0), .int (z_i stk), .int (z_i hol), .int (z_i cn), .int (z_i cs)])), (sc, aI L 2 sco), (rx, .inr (2, [.ref kn])), (kn, aL L 225 kno), (ho, .inr (1, [.ref di, .int (z_i (((bd_due b1 (tk_d dice a b) b0 : Nat) : Int))), .ref bo, .int (z_i 0), .int (z_i (2 * (tk_n a b)))])), (di, aI L 7 (tk_d dice a b)), (bo, .inr (0, [.ref ra])), (ra, aR L 2 gr), (r0, aI L 26 b0), (r1, aI L 26 b1)] [(0, .ref tm), (1, .int (z_i a)), (2, .int (z_i b))] [] 79
              refine J_aload_n E 0 d_T_roll_79 rfl rfl ?_
              refine J_callV (wr := []) (rest := []) E kb_T_endTurnIfDone t_1_166 t_1_168 ts_T_endTurnIfDone (c_T_endTurnIfDone L tm sc bo ra r0 r1 ho di rx kn gr len 2 0 stk hol cn cs sco b0 b1 (((bd_due b1 (tk_d dice a b) b0 : Nat) : Int)) 0 (2 * (tk_n a b)) (tk_d dice a b) kno g0 g1 (by rw [tk_due dice b0 b1 hda hdb]; exact m_due_in (b_dk hda hdb))) (fun h => h) (Rm_h (by decide) (by decide)) [0, 1, 6, 7, 8, 9, 4, 5, 2, 3] [] rfl rfl rfl rfl (by decide) 0 rfl rfl rfl rfl (Nat.le_of_ble_eq_true rfl) d_T_roll_80 (fun w' hw => ?_)
              replace hw : (fun u => ((((bd_due b1 (tk_d dice a b) b0 : Nat) : Int)) = 0 ∧ u = [(tm, .inr (3, [.int (z_i len), .ref sc, .ref bo, .ref ho, .ref rx, .int (z_i 1), .int (z_i (1 - 0)), .int (z_i stk), .int (z_i hol), .int (z_i cn), .int (z_i cs)])), (sc, aI L 2 sco), (bo, .inr (0, [.ref ra])), (ra, aR L 2 gr), (r0, aI L 26 b0), (r1, aI L 26 b1), (ho, .inr (1, [.ref di, .int (z_i (((bd_due b1 (tk_d dice a b) b0 : Nat) : Int))), .ref bo, .int (z_i 0), .int (z_i (2 * (tk_n a b)))])), (di, aI L 7 (tk_d dice a b)), (rx, .inr (2, [.ref kn])), (kn, aL L 225 kno)]) ∨ ((((bd_due b1 (tk_d dice a b) b0 : Nat) : Int)) ≠ 0 ∧ u = [(tm, .inr (3, [.int (z_i len), .ref sc, .ref bo, .ref ho, .ref rx, .int (z_i 2), .int (z_i 0), .int (z_i stk), .int (z_i hol), .int (z_i cn), .int (z_i cs)])), (sc, aI L 2 sco), (bo, .inr (0, [.ref ra])), (ra, aR L 2 gr), (r0, aI L 26 b0), (r1, aI L 26 b1), (ho, .inr (1, [.ref di, .int (z_i (((bd_due b1 (tk_d dice a b) b0 : Nat) : Int))), .ref bo, .int (z_i 0), .int (z_i (2 * (tk_n a b)))])), (di, aI L 7 (tk_d dice a b)), (rx, .inr (2, [.ref kn])), (kn, aL L 225 kno)])) w' := hw
              rcases hw with ⟨hz, rfl⟩ | ⟨hz, rfl⟩
              · have hdu := tk_due dice b0 b1 hda hdb
                show J L X 3 0 0 [(tm, .inr (3, [.int (z_i len), .ref sc, .ref bo, .ref ho, .ref rx, .int (z_i 1), .int (z_i (1 - 0)), .int (z_i stk), .int (z_i hol), .int (z_i cn), .int (z_i cs)])), (sc, aI L 2 sco), (bo, .inr (0, [.ref ra])), (ra, aR L 2 gr), (r0, aI L 26 b0), (r1, aI L 26 b1), (ho, .inr (1, [.ref di, .int (z_i (((bd_due b1 (tk_d dice a b) b0 : Nat) : Int))), .ref bo, .int (z_i 0), .int (z_i (2 * (tk_n a b)))])), (di, aI L 7 (tk_d dice a b)), (rx, .inr (2, [.ref kn])), (kn, aL L 225 kno)] [(0, .ref tm), (1, .int (z_i a)), (2, .int (z_i b))] [.int (z_i (((bd_due b1 (tk_d dice a b) b0 : Nat) : Int)))] 83
                exact J_ireturn E F (by rw [m_roll_00 hda hdb h50, m_begin_z0 (hdu ▸ hz)]; exact hz) (by rw [m_roll_00 hda hdb h50, m_begin_z0 (hdu ▸ hz)]; exact ⟨(((bd_due b1 (tk_d dice a b) b0 : Nat) : Int)), 0, (2 * (tk_n a b)), (tk_d dice a b), kno, ⟨tk_ok hH.1 hda hdb, fun z => absurd z (by decide)⟩, hmm, rfl⟩) d_T_roll_83
              · have hdu := tk_due dice b0 b1 hda hdb
                show J L X 3 0 0 [(tm, .inr (3, [.int (z_i len), .ref sc, .ref bo, .ref ho, .ref rx, .int (z_i 2), .int (z_i 0), .int (z_i stk), .int (z_i hol), .int (z_i cn), .int (z_i cs)])), (sc, aI L 2 sco), (bo, .inr (0, [.ref ra])), (ra, aR L 2 gr), (r0, aI L 26 b0), (r1, aI L 26 b1), (ho, .inr (1, [.ref di, .int (z_i (((bd_due b1 (tk_d dice a b) b0 : Nat) : Int))), .ref bo, .int (z_i 0), .int (z_i (2 * (tk_n a b)))])), (di, aI L 7 (tk_d dice a b)), (rx, .inr (2, [.ref kn])), (kn, aL L 225 kno)] [(0, .ref tm), (1, .int (z_i a)), (2, .int (z_i b))] [.int (z_i (((bd_due b1 (tk_d dice a b) b0 : Nat) : Int)))] 83
                exact J_ireturn E F (by rw [m_roll_00 hda hdb h50, m_begin_n0 (hdu ▸ hz)]; exact hdu) (by rw [m_roll_00 hda hdb h50, m_begin_n0 (hdu ▸ hz)]; exact ⟨(((bd_due b1 (tk_d dice a b) b0 : Nat) : Int)), 0, (2 * (tk_n a b)), (tk_d dice a b), kno, ⟨tk_ok hH.1 hda hdb, fun _ => ⟨rfl, tk_ct a b, hdu, tk_dcf dice hda hdb⟩⟩, hmm, rfl⟩) d_T_roll_83
          · refine J_iconst E d_T_roll_45 ?_
            exact J_ireturn E F (by rw [m_roll_e hda hdb h42]) (by rw [m_roll_e hda hdb h42]; exact ⟨us, pl, ct, dice, kno, hH, hmm, rfl⟩) d_T_roll_46
      · have hdb := b2_not h28
        refine J_iconst E d_T_roll_31 ?_
        exact J_ireturn E F (by rw [m_roll_o (by omega)]) (by rw [m_roll_o (by omega)]; exact ⟨us, pl, ct, dice, kno, hH, hmm, rfl⟩) d_T_roll_32
  · refine J_aload_n E 0 d_T_roll_7 rfl rfl ?_
    refine g_T_52 E 0 rfl rfl d_T_roll_8 ?_
    refine J_iconst E d_T_roll_11 ?_
    refine J_icmp_eq E 17 d_T_roll_12 (by decide) (by exact ⟨⟨by omega, by omega⟩, ⟨by omega, by omega⟩⟩) (fun h12 => ?_) (fun h12 => ?_)
    · subst h12
      refine J_iload_n E 1 d_T_roll_17 rfl rfl ?_
      refine J_callS (wr := [(tm, .inr (3, [.int (z_i len), .ref sc, .ref bo, .ref ho, .ref rx, .int (z_i 1), .int (z_i 1), .int (z_i stk), .int (z_i hol), .int (z_i cn), .int (z_i cs)])), (sc, aI L 2 sco), (bo, .inr (0, [.ref ra])), (ra, aR L 2 gr), (r0, aI L 26 b0), (r1, aI L 26 b1), (ho, .inr (1, [.ref di, .int (z_i us), .ref bo, .int (z_i pl), .int (z_i ct)])), (di, aI L 7 dice), (rx, .inr (2, [.ref kn])), (kn, aL L 225 kno)]) (rest := []) E kb_T_isNumber t_1_133 t_1_134 (c_T_isNumber L a ha) (fun h => h) (Rm_h (by decide) (by decide)) [] [0, 1, 2, 3, 4, 5, 6, 7, 8, 9] rfl rfl rfl rfl (by decide) rfl rfl (Nat.le_of_ble_eq_true rfl) d_T_roll_18 (fun w' hw => ?_)
      obtain rfl : w' = [] := hw
      show J L X 3 0 0 [(tm, .inr (3, [.int (z_i len), .ref sc, .ref bo, .ref ho, .ref rx, .int (z_i 1), .int (z_i 1), .int (z_i stk), .int (z_i hol), .int (z_i cn), .int (z_i cs)])), (sc, aI L 2 sco), (bo, .inr (0, [.ref ra])), (ra, aR L 2 gr), (r0, aI L 26 b0), (r1, aI L 26 b1), (ho, .inr (1, [.ref di, .int (z_i us), .ref bo, .int (z_i pl), .int (z_i ct)])), (di, aI L 7 dice), (rx, .inr (2, [.ref kn])), (kn, aL L 225 kno)] [(0, .ref tm), (1, .int (z_i a)), (2, .int (z_i b))] [.int (z_i (b2 (1 ≤ a ∧ a ≤ 6)))] 21
      refine J_if_eq E 31 d_T_roll_21 (by decide) (b2_r _) (fun h21 => ?_) (fun h21 => ?_)
      · have hda := b2_not h21
        refine J_iconst E d_T_roll_31 ?_
        exact J_ireturn E F (by rw [m_roll_o (by omega)]) (by rw [m_roll_o (by omega)]; exact ⟨us, pl, ct, dice, kno, hH, hmm, rfl⟩) d_T_roll_32
      · have hda := b2_of h21
        refine J_iload_n E 2 d_T_roll_24 rfl rfl ?_
        refine J_callS (wr := [(tm, .inr (3, [.int (z_i len), .ref sc, .ref bo, .ref ho, .ref rx, .int (z_i 1), .int (z_i 1), .int (z_i stk), .int (z_i hol), .int (z_i cn), .int (z_i cs)])), (sc, aI L 2 sco), (bo, .inr (0, [.ref ra])), (ra, aR L 2 gr), (r0, aI L 26 b0), (r1, aI L 26 b1), (ho, .inr (1, [.ref di, .int (z_i us), .ref bo, .int (z_i pl), .int (z_i ct)])), (di, aI L 7 dice), (rx, .inr (2, [.ref kn])), (kn, aL L 225 kno)]) (rest := []) E kb_T_isNumber t_1_133 t_1_134 (c_T_isNumber L b hb) (fun h => h) (Rm_h (by decide) (by decide)) [] [0, 1, 2, 3, 4, 5, 6, 7, 8, 9] rfl rfl rfl rfl (by decide) rfl rfl (Nat.le_of_ble_eq_true rfl) d_T_roll_25 (fun w' hw => ?_)
        obtain rfl : w' = [] := hw
        show J L X 3 0 0 [(tm, .inr (3, [.int (z_i len), .ref sc, .ref bo, .ref ho, .ref rx, .int (z_i 1), .int (z_i 1), .int (z_i stk), .int (z_i hol), .int (z_i cn), .int (z_i cs)])), (sc, aI L 2 sco), (bo, .inr (0, [.ref ra])), (ra, aR L 2 gr), (r0, aI L 26 b0), (r1, aI L 26 b1), (ho, .inr (1, [.ref di, .int (z_i us), .ref bo, .int (z_i pl), .int (z_i ct)])), (di, aI L 7 dice), (rx, .inr (2, [.ref kn])), (kn, aL L 225 kno)] [(0, .ref tm), (1, .int (z_i a)), (2, .int (z_i b))] [.int (z_i (b2 (1 ≤ b ∧ b ≤ 6)))] 28
        refine J_if_ne E 33 d_T_roll_28 (by decide) (b2_r _) (fun h28 => ?_) (fun h28 => ?_)
        · have hdb := b2_of h28
          refine J_aload_n E 0 d_T_roll_33 rfl rfl ?_
          refine g_T_52 E 0 rfl rfl d_T_roll_34 ?_
          refine J_if_ne E 61 d_T_roll_37 (by decide) (by exact ⟨by omega, by omega⟩) (fun h37 => ?_) (fun h37 => ?_)
          · refine J_aload_n E 0 d_T_roll_61 rfl rfl ?_
            refine J_iconst E d_T_roll_62 ?_
            refine p_T_52 E 0 [(tm, .inr (3, [.int (z_i len), .ref sc, .ref bo, .ref ho, .ref rx, .int (z_i 2), .int (z_i 1), .int (z_i stk), .int (z_i hol), .int (z_i cn), .int (z_i cs)])), (sc, aI L 2 sco), (bo, .inr (0, [.ref ra])), (ra, aR L 2 gr), (r0, aI L 26 b0), (r1, aI L 26 b1), (ho, .inr (1, [.ref di, .int (z_i us), .ref bo, .int (z_i pl), .int (z_i ct)])), (di, aI L 7 dice), (rx, .inr (2, [.ref kn])), (kn, aL L 225 kno)] rfl rfl (Nat.le_of_ble_eq_true rfl) d_T_roll_63 ?_
            refine J_aload_n E 0 d_T_roll_66 rfl rfl ?_
            refine g_T_25 E 0 rfl rfl d_T_roll_67 ?_
            refine J_aload_n E 0 d_T_roll_70 rfl rfl ?_
            refine g_T_66 E 0 rfl rfl d_T_roll_71 ?_
            refine J_iload_n E 1 d_T_roll_74 rfl rfl ?_
            refine J_iload_n E 2 d_T_roll_75 rfl rfl ?_
            refine J_callV (wr := [(tm, .inr (3, [.int (z_i len), .ref sc, .ref bo, .ref ho, .ref rx, .int (z_i 2), .int (z_i 1), .int (z_i stk), .int (z_i hol), .int (z_i cn), .int (z_i cs)])), (sc, aI L 2 sco), (rx, .inr (2, [.ref kn])), (kn, aL L 225 kno)]) (rest := []) E kb_H_take t_1_136 t_1_137 t_1_138 (c_H_take L ho di bo ra r1 r0 gr b1 b0 pl dice us ct 1 a b (Or.inr rfl) g1 g0 hb1 hb0 hH.1 hda hdb) (fun h => h) (Rm_h (by decide) (by decide)) [6, 7, 2, 3, 5, 4] [0, 1, 8, 9] rfl rfl rfl rfl (by decide) 0 rfl rfl rfl rfl (Nat.le_of_ble_eq_true rfl) d_T_roll_76 (fun w' hw => ?_)
            obtain rfl : w' = [(ho, .inr (1, [.ref di, .int (z_i (((bd_due b0 (tk_d dice a b) b1 : Nat) : Int))), .ref bo, .int (z_i 1), .int (z_i (2 * (tk_n a b)))])), (di, aI L 7 (tk_d dice a b)), (bo, .inr (0, [.ref ra])), (ra, aR L 2 gr), (r1, aI L 26 b1), (r0, aI L 26 b0)] := hw
            show J L X 3 0 0 [(tm, .inr (3, [.int (z_i len), .ref sc, .ref bo, .ref ho, .ref rx, .int (z_i 2), .int (z_i 1), .int (z_i stk), .int (z_i hol), .int (z_i cn), .int (z_i cs)])), (sc, aI L 2 sco), (rx, .inr (2, [.ref kn])), (kn, aL L 225 kno), (ho, .inr (1, [.ref di, .int (z_i (((bd_due b0 (tk_d dice a b) b1 : Nat) : Int))), .ref bo, .int (z_i 1), .int (z_i (2 * (tk_n a b)))])), (di, aI L 7 (tk_d dice a b)), (bo, .inr (0, [.ref ra])), (ra, aR L 2 gr), (r1, aI L 26 b1), (r0, aI L 26 b0)] [(0, .ref tm), (1, .int (z_i a)), (2, .int (z_i b))] [] 79
            refine J_aload_n E 0 d_T_roll_79 rfl rfl ?_
            refine J_callV (wr := []) (rest := []) E kb_T_endTurnIfDone t_1_166 t_1_168 ts_T_endTurnIfDone (c_T_endTurnIfDone L tm sc bo ra r0 r1 ho di rx kn gr len 2 1 stk hol cn cs sco b0 b1 (((bd_due b0 (tk_d dice a b) b1 : Nat) : Int)) 1 (2 * (tk_n a b)) (tk_d dice a b) kno g0 g1 (by rw [tk_due dice b1 b0 hda hdb]; exact m_due_in (b_dk hda hdb))) (fun h => h) (Rm_h (by decide) (by decide)) [0, 1, 6, 7, 9, 8, 4, 5, 2, 3] [] rfl rfl rfl rfl (by decide) 0 rfl rfl rfl rfl (Nat.le_of_ble_eq_true rfl) d_T_roll_80 (fun w' hw => ?_)
            replace hw : (fun u => ((((bd_due b0 (tk_d dice a b) b1 : Nat) : Int)) = 0 ∧ u = [(tm, .inr (3, [.int (z_i len), .ref sc, .ref bo, .ref ho, .ref rx, .int (z_i 1), .int (z_i (1 - 1)), .int (z_i stk), .int (z_i hol), .int (z_i cn), .int (z_i cs)])), (sc, aI L 2 sco), (bo, .inr (0, [.ref ra])), (ra, aR L 2 gr), (r0, aI L 26 b0), (r1, aI L 26 b1), (ho, .inr (1, [.ref di, .int (z_i (((bd_due b0 (tk_d dice a b) b1 : Nat) : Int))), .ref bo, .int (z_i 1), .int (z_i (2 * (tk_n a b)))])), (di, aI L 7 (tk_d dice a b)), (rx, .inr (2, [.ref kn])), (kn, aL L 225 kno)]) ∨ ((((bd_due b0 (tk_d dice a b) b1 : Nat) : Int)) ≠ 0 ∧ u = [(tm, .inr (3, [.int (z_i len), .ref sc, .ref bo, .ref ho, .ref rx, .int (z_i 2), .int (z_i 1), .int (z_i stk), .int (z_i hol), .int (z_i cn), .int (z_i cs)])), (sc, aI L 2 sco), (bo, .inr (0, [.ref ra])), (ra, aR L 2 gr), (r0, aI L 26 b0), (r1, aI L 26 b1), (ho, .inr (1, [.ref di, .int (z_i (((bd_due b0 (tk_d dice a b) b1 : Nat) : Int))), .ref bo, .int (z_i 1), .int (z_i (2 * (tk_n a b)))])), (di, aI L 7 (tk_d dice a b)), (rx, .inr (2, [.ref kn])), (kn, aL L 225 kno)])) w' := hw
            rcases hw with ⟨hz, rfl⟩ | ⟨hz, rfl⟩
            · have hdu := tk_due dice b1 b0 hda hdb
              show J L X 3 0 0 [(tm, .inr (3, [.int (z_i len), .ref sc, .ref bo, .ref ho, .ref rx, .int (z_i 1), .int (z_i (1 - 1)), .int (z_i stk), .int (z_i hol), .int (z_i cn), .int (z_i cs)])), (sc, aI L 2 sco), (bo, .inr (0, [.ref ra])), (ra, aR L 2 gr), (r0, aI L 26 b0), (r1, aI L 26 b1), (ho, .inr (1, [.ref di, .int (z_i (((bd_due b0 (tk_d dice a b) b1 : Nat) : Int))), .ref bo, .int (z_i 1), .int (z_i (2 * (tk_n a b)))])), (di, aI L 7 (tk_d dice a b)), (rx, .inr (2, [.ref kn])), (kn, aL L 225 kno)] [(0, .ref tm), (1, .int (z_i a)), (2, .int (z_i b))] [.int (z_i (((bd_due b0 (tk_d dice a b) b1 : Nat) : Int)))] 83
              exact J_ireturn E F (by rw [m_roll_1 hda hdb, m_begin_z1 (hdu ▸ hz)]; exact hz) (by rw [m_roll_1 hda hdb, m_begin_z1 (hdu ▸ hz)]; exact ⟨(((bd_due b0 (tk_d dice a b) b1 : Nat) : Int)), 1, (2 * (tk_n a b)), (tk_d dice a b), kno, ⟨tk_ok hH.1 hda hdb, fun z => absurd z (by decide)⟩, hmm, rfl⟩) d_T_roll_83
            · have hdu := tk_due dice b1 b0 hda hdb
              show J L X 3 0 0 [(tm, .inr (3, [.int (z_i len), .ref sc, .ref bo, .ref ho, .ref rx, .int (z_i 2), .int (z_i 1), .int (z_i stk), .int (z_i hol), .int (z_i cn), .int (z_i cs)])), (sc, aI L 2 sco), (bo, .inr (0, [.ref ra])), (ra, aR L 2 gr), (r0, aI L 26 b0), (r1, aI L 26 b1), (ho, .inr (1, [.ref di, .int (z_i (((bd_due b0 (tk_d dice a b) b1 : Nat) : Int))), .ref bo, .int (z_i 1), .int (z_i (2 * (tk_n a b)))])), (di, aI L 7 (tk_d dice a b)), (rx, .inr (2, [.ref kn])), (kn, aL L 225 kno)] [(0, .ref tm), (1, .int (z_i a)), (2, .int (z_i b))] [.int (z_i (((bd_due b0 (tk_d dice a b) b1 : Nat) : Int)))] 83
              exact J_ireturn E F (by rw [m_roll_1 hda hdb, m_begin_n1 (hdu ▸ hz)]; exact hdu) (by rw [m_roll_1 hda hdb, m_begin_n1 (hdu ▸ hz)]; exact ⟨(((bd_due b0 (tk_d dice a b) b1 : Nat) : Int)), 1, (2 * (tk_n a b)), (tk_d dice a b), kno, ⟨tk_ok hH.1 hda hdb, fun _ => ⟨rfl, tk_ct a b, hdu, tk_dcf dice hda hdb⟩⟩, hmm, rfl⟩) d_T_roll_83
          · exact absurd h37 (by decide)
        · have hdb := b2_not h28
          refine J_iconst E d_T_roll_31 ?_
          exact J_ireturn E F (by rw [m_roll_o (by omega)]) (by rw [m_roll_o (by omega)]; exact ⟨us, pl, ct, dice, kno, hH, hmm, rfl⟩) d_T_roll_32
    · refine J_iconst E d_T_roll_15 ?_
      exact J_ireturn E F (by rw [m_roll_o (by omega)]) (by rw [m_roll_o (by omega)]; exact ⟨us, pl, ct, dice, kno, hH, hmm, rfl⟩) d_T_roll_16
