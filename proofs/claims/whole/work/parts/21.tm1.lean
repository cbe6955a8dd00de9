set_option maxHeartbeats 4000000 in
set_option maxRecDepth 100000 in
theorem c_B_setUp (L : Lx) (bo ra r0 r1 : Nat) (gr : Nat → Option Nat) (b0 b1 : Int → Int) (g0 : gr 0 = some r0) (g1 : gr 1 = some r1) (hz0 : ∀ x, x < 0 ∨ 25 < x → b0 x = 0) (hz1 : ∀ x, x < 0 ∨ 25 < x → b1 x = 0) : CtG L y_B_setUp b_B_setUp 1 none (rmh 2) true 0 0 [.ref bo] [(bo, .inr (0, [.ref ra])), (ra, aR L 2 gr), (r0, aI L 26 b0), (r1, aI L 26 b1)] (fun u => u = [(bo, .inr (0, [.ref ra])), (ra, aR L 2 gr), (r0, aI L 26 st_men), (r1, aI L 26 st_men)]) none := by
  refine CtG.of rfl (Nat.le_of_ble_eq_true rfl) (fun X E F => ?_)
  show J L X 1 0 0 [(bo, .inr (0, [.ref ra])), (ra, aR L 2 gr), (r0, aI L 26 b0), (r1, aI L 26 b1)] [(0, .ref bo)] [] 0
  obtain ⟨t, hZ, hTT⟩ := E.pre.2.2.2 rfl
  refine J_gets E hZ t_1_79 d_B_setUp_0 ?_
  refine J_iconst E d_B_setUp_3 ?_
  refine J_aload_n E 0 d_B_setUp_4 rfl rfl ?_
  refine g_B_11 E 0 rfl rfl d_B_setUp_5 ?_
  refine J_iconst E d_B_setUp_8 ?_
  refine J_aald E 1 rfl (by decide) (by exact ⟨by omega, by omega⟩) g0 d_B_setUp_9 ?_
  refine J_iconst E d_B_setUp_10 ?_
  refine J_gets E hZ t_1_79 d_B_setUp_11 ?_
  refine J_tlen E hTT d_B_setUp_14 ?_
  refine J_cpy E hTT 2 [(bo, .inr (0, [.ref ra])), (ra, aR L 2 gr), (r0, aI L 26 st_men), (r1, aI L 26 b1)] rfl rfl hz0 t_1_81 ⟨by decide, Nat.le_of_ble_eq_true rfl⟩ d_B_setUp_15 ?_
  refine J_gets E hZ t_1_79 d_B_setUp_18 ?_
  refine J_iconst E d_B_setUp_21 ?_
  refine J_aload_n E 0 d_B_setUp_22 rfl rfl ?_
  refine g_B_11 E 0 rfl rfl d_B_setUp_23 ?_
  refine J_iconst E d_B_setUp_26 ?_
  refine J_aald E 1 rfl (by decide) (by exact ⟨by omega, by omega⟩) g1 d_B_setUp_27 ?_
  refine J_iconst E d_B_setUp_28 ?_
  refine J_gets E hZ t_1_79 d_B_setUp_29 ?_
  refine J_tlen E hTT d_B_setUp_32 ?_
  refine J_cpy E hTT 3 [(bo, .inr (0, [.ref ra])), (ra, aR L 2 gr), (r0, aI L 26 st_men), (r1, aI L 26 st_men)] rfl rfl hz1 t_1_81 ⟨by decide, Nat.le_of_ble_eq_true rfl⟩ d_B_setUp_33 ?_
  exact J_return E F rfl d_B_setUp_36
set_option maxHeartbeats 4000000 in
set_option maxRecDepth 100000 in
theorem c_T_beginGame (L : Lx) (tm sc bo ra r0 r1 ho di rx kn : Nat) (gr : Nat → Option Nat) (len stg mv stk hol cn cs : Int) (sco b0 b1 : Int → Int) (us pl ct : Int) (dice kno : Int → Int) (g0 : gr 0 = some r0) (g1 : gr 1 = some r1) (hz0 : ∀ x, x < 0 ∨ 25 < x → b0 x = 0) (hz1 : ∀ x, x < 0 ∨ 25 < x → b1 x = 0) : CtG L y_T_beginGame b_T_beginGame 1 none (rmh 3) true 0 0 [.ref tm] [(tm, .inr (3, [.int (z_i len), .ref sc, .ref bo, .ref ho, .ref rx, .int (z_i stg), .int (z_i mv), .int (z_i stk), .int (z_i hol), .int (z_i cn), .int (z_i cs)])), (sc, aI L 2 sco), (bo, .inr (0, [.ref ra])), (ra, aR L 2 gr), (r0, aI L 26 b0), (r1, aI L 26 b1), (ho, .inr (1, [.ref di, .int (z_i us), .ref bo, .int (z_i pl), .int (z_i ct)])), (di, aI L 7 dice), (rx, .inr (2, [.ref kn])), (kn, aL L 225 kno)] (fun u => u = [(tm, .inr (3, [.int (z_i len), .ref sc, .ref bo, .ref ho, .ref rx, .int (z_i 0), .int (z_i mv), .int (z_i 1), .int (z_i (-1)), .int (z_i cn), .int (z_i cs)])), (sc, aI L 2 sco), (bo, .inr (0, [.ref ra])), (ra, aR L 2 gr), (r0, aI L 26 st_men), (r1, aI L 26 st_men), (ho, .inr (1, [.ref di, .int (z_i us), .ref bo, .int (z_i pl), .int (z_i ct)])), (di, aI L 7 dice), (rx, .inr (2, [.ref kn])), (kn, aL L 225 kno)]) none := by
  refine CtG.of rfl (Nat.le_of_ble_eq_true rfl) (fun X E F => ?_)
  show J L X 1 0 0 [(tm, .inr (3, [.int (z_i len), .ref sc, .ref bo, .ref ho, .ref rx, .int (z_i stg), .int (z_i mv), .int (z_i stk), .int (z_i hol), .int (z_i cn), .int (z_i cs)])), (sc, aI L 2 sco), (bo, .inr (0, [.ref ra])), (ra, aR L 2 gr), (r0, aI L 26 b0), (r1, aI L 26 b1), (ho, .inr (1, [.ref di, .int (z_i us), .ref bo, .int (z_i pl), .int (z_i ct)])), (di, aI L 7 dice), (rx, .inr (2, [.ref kn])), (kn, aL L 225 kno)] [(0, .ref tm)] [] 0
  refine J_aload_n E 0 d_T_beginGame_0 rfl rfl ?_
  refine g_T_16 E 0 rfl rfl d_T_beginGame_1 ?_
  refine J_callV (wr := [(tm, .inr (3, [.int (z_i len), .ref sc, .ref bo, .ref ho, .ref rx, .int (z_i stg), .int (z_i mv), .int (z_i stk), .int (z_i hol), .int (z_i cn), .int (z_i cs)])), (sc, aI L 2 sco), (ho, .inr (1, [.ref di, .int (z_i us), .ref bo, .int (z_i pl), .int (z_i ct)])), (di, aI L 7 dice), (rx, .inr (2, [.ref kn])), (kn, aL L 225 kno)]) (rest := []) E kb_B_setUp t_1_75 t_1_76 t_1_77 (c_B_setUp L bo ra r0 r1 gr b0 b1 g0 g1 hz0 hz1) (fun _ => rfl) (Rm_h (by decide) (by decide)) [2, 3, 4, 5] [0, 1, 6, 7, 8, 9] rfl rfl rfl rfl (by decide) 0 rfl rfl rfl rfl (Nat.le_of_ble_eq_true rfl) d_T_beginGame_4 (fun w' hw => ?_)
  obtain rfl : w' = [(bo, .inr (0, [.ref ra])), (ra, aR L 2 gr), (r0, aI L 26 st_men), (r1, aI L 26 st_men)] := hw
  show J L X 1 0 0 [(tm, .inr (3, [.int (z_i len), .ref sc, .ref bo, .ref ho, .ref rx, .int (z_i stg), .int (z_i mv), .int (z_i stk), .int (z_i hol), .int (z_i cn), .int (z_i cs)])), (sc, aI L 2 sco), (ho, .inr (1, [.ref di, .int (z_i us), .ref bo, .int (z_i pl), .int (z_i ct)])), (di, aI L 7 dice), (rx, .inr (2, [.ref kn])), (kn, aL L 225 kno), (bo, .inr (0, [.ref ra])), (ra, aR L 2 gr), (r0, aI L 26 st_men), (r1, aI L 26 st_men)] [(0, .ref tm)] [] 7
  refine J_aload_n E 0 d_T_beginGame_7 rfl rfl ?_
  refine J_iconst E d_T_beginGame_8 ?_
  refine p_T_97 E 0 [(tm, .inr (3, [.int (z_i len), .ref sc, .ref bo, .ref ho, .ref rx, .int (z_i stg), .int (z_i mv), .int (z_i 1), .int (z_i hol), .int (z_i cn), .int (z_i cs)])), (sc, aI L 2 sco), (ho, .inr (1, [.ref di, .int (z_i us), .ref bo, .int (z_i pl), .int (z_i ct)])), (di, aI L 7 dice), (rx, .inr (2, [.ref kn])), (kn, aL L 225 kno), (bo, .inr (0, [.ref ra])), (ra, aR L 2 gr), (r0, aI L 26 st_men), (r1, aI L 26 st_men)] rfl rfl (Nat.le_of_ble_eq_true rfl) d_T_beginGame_9 ?_
  refine J_aload_n E 0 d_T_beginGame_12 rfl rfl ?_
  refine J_iconst E d_T_beginGame_13 ?_
  refine p_T_100 E 0 [(tm, .inr (3, [.int (z_i len), .ref sc, .ref bo, .ref ho, .ref rx, .int (z_i stg), .int (z_i mv), .int (z_i 1), .int (z_i (-1)), .int (z_i cn), .int (z_i cs)])), (sc, aI L 2 sco), (ho, .inr (1, [.ref di, .int (z_i us), .ref bo, .int (z_i pl), .int (z_i ct)])), (di, aI L 7 dice), (rx, .inr (2, [.ref kn])), (kn, aL L 225 kno), (bo, .inr (0, [.ref ra])), (ra, aR L 2 gr), (r0, aI L 26 st_men), (r1, aI L 26 st_men)] rfl rfl (Nat.le_of_ble_eq_true rfl) d_T_beginGame_14 ?_
  refine J_aload_n E 0 d_T_beginGame_17 rfl rfl ?_
  refine J_iconst E d_T_beginGame_18 ?_
  refine p_T_52 E 0 [(tm, .inr (3, [.int (z_i len), .ref sc, .ref bo, .ref ho, .ref rx, .int (z_i 0), .int (z_i mv), .int (z_i 1), .int (z_i (-1)), .int (z_i cn), .int (z_i cs)])), (sc, aI L 2 sco), (ho, .inr (1, [.ref di, .int (z_i us), .ref bo, .int (z_i pl), .int (z_i ct)])), (di, aI L 7 dice), (rx, .inr (2, [.ref kn])), (kn, aL L 225 kno), (bo, .inr (0, [.ref ra])), (ra, aR L 2 gr), (r0, aI L 26 st_men), (r1, aI L 26 st_men)] rfl rfl (Nat.le_of_ble_eq_true rfl) d_T_beginGame_19 ?_
  refine J_ws (ws' := [(tm, .inr (3, [.int (z_i len), .ref sc, .ref bo, .ref ho, .ref rx, .int (z_i 0), .int (z_i mv), .int (z_i 1), .int (z_i (-1)), .int (z_i cn), .int (z_i cs)])), (sc, aI L 2 sco), (bo, .inr (0, [.ref ra])), (ra, aR L 2 gr), (r0, aI L 26 st_men), (r1, aI L 26 st_men), (ho, .inr (1, [.ref di, .int (z_i us), .ref bo, .int (z_i pl), .int (z_i ct)])), (di, aI L 7 dice), (rx, .inr (2, [.ref kn])), (kn, aL L 225 kno)]) [0, 1, 6, 7, 8, 9, 2, 3, 4, 5] rfl rfl ?_
  exact J_return E F rfl d_T_beginGame_22
set_option maxHeartbeats 4000000 in
set_option maxRecDepth 100000 in
theorem c_T_endTurnIfDone (L : Lx) (tm sc bo ra r0 r1 ho di rx kn : Nat) (gr : Nat → Option Nat) (len stg mv stk hol cn cs : Int) (sco b0 b1 : Int → Int) (us pl ct : Int) (dice kno : Int → Int) (g0 : gr 0 = some r0) (g1 : gr 1 = some r1) (hus : 0 ≤ us ∧ us ≤ 4) : CtG L y_T_endTurnIfDone b_T_endTurnIfDone 1 (some .int) (rmh 1) false 0 0 [.ref tm] [(tm, .inr (3, [.int (z_i len), .ref sc, .ref bo, .ref ho, .ref rx, .int (z_i stg), .int (z_i mv), .int (z_i stk), .int (z_i hol), .int (z_i cn), .int (z_i cs)])), (sc, aI L 2 sco), (bo, .inr (0, [.ref ra])), (ra, aR L 2 gr), (r0, aI L 26 b0), (r1, aI L 26 b1), (ho, .inr (1, [.ref di, .int (z_i us), .ref bo, .int (z_i pl), .int (z_i ct)])), (di, aI L 7 dice), (rx, .inr (2, [.ref kn])), (kn, aL L 225 kno)] (fun u => (us = 0 ∧ u = [(tm, .inr (3, [.int (z_i len), .ref sc, .ref bo, .ref ho, .ref rx, .int (z_i 1), .int (z_i (1 - mv)), .int (z_i stk), .int (z_i hol), .int (z_i cn), .int (z_i cs)])), (sc, aI L 2 sco), (bo, .inr (0, [.ref ra])), (ra, aR L 2 gr), (r0, aI L 26 b0), (r1, aI L 26 b1), (ho, .inr (1, [.ref di, .int (z_i us), .ref bo, .int (z_i pl), .int (z_i ct)])), (di, aI L 7 dice), (rx, .inr (2, [.ref kn])), (kn, aL L 225 kno)]) ∨ (us ≠ 0 ∧ u = [(tm, .inr (3, [.int (z_i len), .ref sc, .ref bo, .ref ho, .ref rx, .int (z_i stg), .int (z_i mv), .int (z_i stk), .int (z_i hol), .int (z_i cn), .int (z_i cs)])), (sc, aI L 2 sco), (bo, .inr (0, [.ref ra])), (ra, aR L 2 gr), (r0, aI L 26 b0), (r1, aI L 26 b1), (ho, .inr (1, [.ref di, .int (z_i us), .ref bo, .int (z_i pl), .int (z_i ct)])), (di, aI L 7 dice), (rx, .inr (2, [.ref kn])), (kn, aL L 225 kno)])) (some (.int (z_i us))) := by
  refine CtG.of rfl (Nat.le_of_ble_eq_true rfl) (fun X E F => ?_)
  show J L X 1 0 0 [(tm, .inr (3, [.int (z_i len), .ref sc, .ref bo, .ref ho, .ref rx, .int (z_i stg), .int (z_i mv), .int (z_i stk), .int (z_i hol), .int (z_i cn), .int (z_i cs)])), (sc, aI L 2 sco), (bo, .inr (0, [.ref ra])), (ra, aR L 2 gr), (r0, aI L 26 b0), (r1, aI L 26 b1), (ho, .inr (1, [.ref di, .int (z_i us), .ref bo, .int (z_i pl), .int (z_i ct)])), (di, aI L 7 dice), (rx, .inr (2, [.ref kn])), (kn, aL L 225 kno)] [(0, .ref tm)] [] 0
  refine J_aload_n E 0 d_T_endTurnIfDone_0 rfl rfl ?_
  refine g_T_25 E 0 rfl rfl d_T_endTurnIfDone_1 ?_
  refine g_T_87 E 6 rfl rfl d_T_endTurnIfDone_4 ?_
  refine J_if_ne E 25 d_T_endTurnIfDone_7 (by decide) (by exact ⟨by omega, by omega⟩) (fun h7 => ?_) (fun h7 => ?_)
  · refine J_aload_n E 0 d_T_endTurnIfDone_25 rfl rfl ?_
    refine g_T_25 E 0 rfl rfl d_T_endTurnIfDone_26 ?_
    refine g_T_87 E 6 rfl rfl d_T_endTurnIfDone_29 ?_
    exact J_ireturn E F rfl (Or.inr ⟨h7, rfl⟩) d_T_endTurnIfDone_32
  · refine J_aload_n E 0 d_T_endTurnIfDone_10 rfl rfl ?_
    refine J_iconst E d_T_endTurnIfDone_11 ?_
    refine J_aload_n E 0 d_T_endTurnIfDone_12 rfl rfl ?_
    refine g_T_66 E 0 rfl rfl d_T_endTurnIfDone_13 ?_
    refine J_isub E d_T_endTurnIfDone_16 ?_
    refine p_T_66 E 0 [(tm, .inr (3, [.int (z_i len), .ref sc, .ref bo, .ref ho, .ref rx, .int (z_i stg), .int (z_i (1 - mv)), .int (z_i stk), .int (z_i hol), .int (z_i cn), .int (z_i cs)])), (sc, aI L 2 sco), (bo, .inr (0, [.ref ra])), (ra, aR L 2 gr), (r0, aI L 26 b0), (r1, aI L 26 b1), (ho, .inr (1, [.ref di, .int (z_i us), .ref bo, .int (z_i pl), .int (z_i ct)])), (di, aI L 7 dice), (rx, .inr (2, [.ref kn])), (kn, aL L 225 kno)] rfl rfl (Nat.le_of_ble_eq_true rfl) d_T_endTurnIfDone_17 ?_
    refine J_aload_n E 0 d_T_endTurnIfDone_20 rfl rfl ?_
    refine J_iconst E d_T_endTurnIfDone_21 ?_
    refine p_T_52 E 0 [(tm, .inr (3, [.int (z_i len), .ref sc, .ref bo, .ref ho, .ref rx, .int (z_i 1), .int (z_i (1 - mv)), .int (z_i stk), .int (z_i hol), .int (z_i cn), .int (z_i cs)])), (sc, aI L 2 sco), (bo, .inr (0, [.ref ra])), (ra, aR L 2 gr), (r0, aI L 26 b0), (r1, aI L 26 b1), (ho, .inr (1, [.ref di, .int (z_i us), .ref bo, .int (z_i pl), .int (z_i ct)])), (di, aI L 7 dice), (rx, .inr (2, [.ref kn])), (kn, aL L 225 kno)] rfl rfl (Nat.le_of_ble_eq_true rfl) d_T_endTurnIfDone_22 ?_
    refine J_aload_n E 0 d_T_endTurnIfDone_25 rfl rfl ?_
    refine g_T_25 E 0 rfl rfl d_T_endTurnIfDone_26 ?_
    refine g_T_87 E 6 rfl rfl d_T_endTurnIfDone_29 ?_
    exact J_ireturn E F rfl (Or.inl ⟨h7, rfl⟩) d_T_endTurnIfDone_32
set_option maxHeartbeats 4000000 in
set_option maxRecDepth 100000 in
theorem c_T_winGame (L : Lx) (tm sc bo ra r0 r1 ho di rx kn : Nat) (gr : Nat → Option Nat) (len stg mv stk hol cn cs : Int) (sco b0 b1 : Int → Int) (us pl ct : Int) (dice kno : Int → Int) (gain : Int) (g0 : gr 0 = some r0) (g1 : gr 1 = some r1) (hz0 : ∀ x, x < 0 ∨ 25 < x → b0 x = 0) (hz1 : ∀ x, x < 0 ∨ 25 < x → b1 x = 0) (hlen : 1 ≤ len ∧ len ≤ 25) (hmv : mv = 0 ∨ mv = 1) (hcs : cs = 0 ∨ cs = 1) (hsc : ∀ x, 0 ≤ sco x ∧ sco x ≤ 1000) (hga : 0 ≤ gain ∧ gain ≤ 1000) : CtG L y_T_winGame b_T_winGame 2 (some .int) (rmh 4) true 0 0 [.ref tm, .int (z_i gain)] [(tm, .inr (3, [.int (z_i len), .ref sc, .ref bo, .ref ho, .ref rx, .int (z_i stg), .int (z_i mv), .int (z_i stk), .int (z_i hol), .int (z_i cn), .int (z_i cs)])), (sc, aI L 2 sco), (bo, .inr (0, [.ref ra])), (ra, aR L 2 gr), (r0, aI L 26 b0), (r1, aI L 26 b1), (ho, .inr (1, [.ref di, .int (z_i us), .ref bo, .int (z_i pl), .int (z_i ct)])), (di, aI L 7 dice), (rx, .inr (2, [.ref kn])), (kn, aL L 225 kno)] (fun u => (len ≤ (sco mv + gain) ∧ u = [(tm, .inr (3, [.int (z_i len), .ref sc, .ref bo, .ref ho, .ref rx, .int (z_i 4), .int (z_i mv), .int (z_i stk), .int (z_i hol), .int (z_i 0), .int (z_i cs)])), (sc, aI L 2 (z_u sco mv ((sco mv) + gain))), (bo, .inr (0, [.ref ra])), (ra, aR L 2 gr), (r0, aI L 26 b0), (r1, aI L 26 b1), (ho, .inr (1, [.ref di, .int (z_i us), .ref bo, .int (z_i pl), .int (z_i ct)])), (di, aI L 7 dice), (rx, .inr (2, [.ref kn])), (kn, aL L 225 kno)]) ∨ ((sco mv + gain) < len ∧ u = [(tm, .inr (3, [.int (z_i len), .ref sc, .ref bo, .ref ho, .ref rx, .int (z_i 0), .int (z_i mv), .int (z_i 1), .int (z_i (-1)), .int (z_i (wn_c cs (sco mv + gain) len)), .int (z_i (wn_s cs (sco mv + gain) len))])), (sc, aI L 2 (z_u sco mv ((sco mv) + gain))), (bo, .inr (0, [.ref ra])), (ra, aR L 2 gr), (r0, aI L 26 st_men), (r1, aI L 26 st_men), (ho, .inr (1, [.ref di, .int (z_i us), .ref bo, .int (z_i pl), .int (z_i ct)])), (di, aI L 7 dice), (rx, .inr (2, [.ref kn])), (kn, aL L 225 kno)])) (some (.int (z_i (10 * gain)))) := by
  refine CtG.of rfl (Nat.le_of_ble_eq_true rfl) (fun X E F => ?_)
  show J L X 2 0 0 [(tm, .inr (3, [.int (z_i len), .ref sc, .ref bo, .ref ho, .ref rx, .int (z_i stg), .int (z_i mv), .int (z_i stk), .int (z_i hol), .int (z_i cn), .int (z_i cs)])), (sc, aI L 2 sco), (bo, .inr (0, [.ref ra])), (ra, aR L 2 gr), (r0, aI L 26 b0), (r1, aI L 26 b1), (ho, .inr (1, [.ref di, .int (z_i us), .ref bo, .int (z_i pl), .int (z_i ct)])), (di, aI L 7 dice), (rx, .inr (2, [.ref kn])), (kn, aL L 225 kno)] [(0, .ref tm), (1, .int (z_i gain))] [] 0
  refine J_aload_n E 0 d_T_winGame_0 rfl rfl ?_
  refine g_T_7 E 0 rfl rfl d_T_winGame_1 ?_
  refine J_aload_n E 0 d_T_winGame_4 rfl rfl ?_
  refine g_T_66 E 0 rfl rfl d_T_winGame_5 ?_
  refine J_dup2 E d_T_winGame_8 rfl rfl ?_
  refine J_iald E 1 rfl (by decide) (by exact ⟨by omega, by omega⟩) d_T_winGame_9 ?_
  refine J_iload_n E 1 d_T_winGame_10 rfl rfl ?_
  refine J_iadd E d_T_winGame_11 ?_
  refine J_iast E 1 [(tm, .inr (3, [.int (z_i len), .ref sc, .ref bo, .ref ho, .ref rx, .int (z_i stg), .int (z_i mv), .int (z_i stk), .int (z_i hol), .int (z_i cn), .int (z_i cs)])), (sc, aI L 2 (z_u sco mv ((sco mv) + gain))), (bo, .inr (0, [.ref ra])), (ra, aR L 2 gr), (r0, aI L 26 b0), (r1, aI L 26 b1), (ho, .inr (1, [.ref di, .int (z_i us), .ref bo, .int (z_i pl), .int (z_i ct)])), (di, aI L 7 dice), (rx, .inr (2, [.ref kn])), (kn, aL L 225 kno)] rfl rfl (by decide) (by exact ⟨by omega, by omega⟩) d_T_winGame_12 ?_
  refine J_aload_n E 0 d_T_winGame_13 rfl rfl ?_
  refine J_aload_n E 0 d_T_winGame_14 rfl rfl ?_
  refine g_T_133 E 0 rfl rfl d_T_winGame_15 ?_
  refine J_if_ne E 43 d_T_winGame_18 (by decide) (by exact ⟨by omega, by omega⟩) (fun h18 => ?_) (fun h18 => ?_)
  · refine J_iconst E d_T_winGame_43 ?_
    refine p_T_93 E 0 [(tm, .inr (3, [.int (z_i len), .ref sc, .ref bo, .ref ho, .ref rx, .int (z_i stg), .int (z_i mv), .int (z_i stk), .int (z_i hol), .int (z_i 0), .int (z_i cs)])), (sc, aI L 2 (z_u sco mv ((sco mv) + gain))), (bo, .inr (0, [.ref ra])), (ra, aR L 2 gr), (r0, aI L 26 b0), (r1, aI L 26 b1), (ho, .inr (1, [.ref di, .int (z_i us), .ref bo, .int (z_i pl), .int (z_i ct)])), (di, aI L 7 dice), (rx, .inr (2, [.ref kn])), (kn, aL L 225 kno)] rfl rfl (Nat.le_of_ble_eq_true rfl) (by omega) d_T_winGame_44 ?_
    refine J_aload_n E 0 d_T_winGame_47 rfl rfl ?_
    refine J_aload_n E 0 d_T_winGame_48 rfl rfl ?_
    refine g_T_133 E 0 rfl rfl d_T_winGame_49 ?_
    refine J_if_ne E 62 d_T_winGame_52 (by decide) (by exact ⟨by omega, by omega⟩) (fun h52 => ?_) (fun h52 => ?_)
    · refine J_iconst E d_T_winGame_62 ?_
      refine J_goto E 67 d_T_winGame_63 (by decide) ?_
      refine p_T_133 E 0 [(tm, .inr (3, [.int (z_i len), .ref sc, .ref bo, .ref ho, .ref rx, .int (z_i stg), .int (z_i mv), .int (z_i stk), .int (z_i hol), .int (z_i 0), .int (z_i 1)])), (sc, aI L 2 (z_u sco mv ((sco mv) + gain))), (bo, .inr (0, [.ref ra])), (ra, aR L 2 gr), (r0, aI L 26 b0), (r1, aI L 26 b1), (ho, .inr (1, [.ref di, .int (z_i us), .ref bo, .int (z_i pl), .int (z_i ct)])), (di, aI L 7 dice), (rx, .inr (2, [.ref kn])), (kn, aL L 225 kno)] rfl rfl (Nat.le_of_ble_eq_true rfl) (by omega) d_T_winGame_67 ?_
      refine J_aload_n E 0 d_T_winGame_70 rfl rfl ?_
      refine g_T_7 E 0 rfl rfl d_T_winGame_71 ?_
      refine J_aload_n E 0 d_T_winGame_74 rfl rfl ?_
      refine g_T_66 E 0 rfl rfl d_T_winGame_75 ?_
      refine J_iald E 1 rfl (by decide) (by exact ⟨by omega, by omega⟩) d_T_winGame_78 ?_
      refine J_aload_n E 0 d_T_winGame_79 rfl rfl ?_
      refine g_T_45 E 0 rfl rfl d_T_winGame_80 ?_
      refine J_icmp_lt E 94 d_T_winGame_83 (by decide) (by have := z_ui sco mv ((sco mv) + gain) mv; have := hsc mv; have := hsc mv; exact ⟨⟨by omega, by omega⟩, ⟨by omega, by omega⟩⟩) (fun h83 => ?_) (fun h83 => ?_)
      · refine J_aload_n E 0 d_T_winGame_94 rfl rfl ?_
        refine J_callV (wr := []) (rest := []) E kb_T_beginGame t_1_71 t_1_73 ts_T_beginGame (c_T_beginGame L tm sc bo ra r0 r1 ho di rx kn gr len stg mv stk hol 0 1 (z_u sco mv ((sco mv) + gain)) b0 b1 us pl ct dice kno g0 g1 hz0 hz1) (fun _ => rfl) (Rm_h (by decide) (by decide)) [0, 1, 2, 3, 4, 5, 6, 7, 8, 9] [] rfl rfl rfl rfl (by decide) 0 rfl rfl rfl rfl (Nat.le_of_ble_eq_true rfl) d_T_winGame_95 (fun w' hw => ?_)
        obtain rfl : w' = [(tm, .inr (3, [.int (z_i len), .ref sc, .ref bo, .ref ho, .ref rx, .int (z_i 0), .int (z_i mv), .int (z_i 1), .int (z_i (-1)), .int (z_i 0), .int (z_i 1)])), (sc, aI L 2 (z_u sco mv ((sco mv) + gain))), (bo, .inr (0, [.ref ra])), (ra, aR L 2 gr), (r0, aI L 26 st_men), (r1, aI L 26 st_men), (ho, .inr (1, [.ref di, .int (z_i us), .ref bo, .int (z_i pl), .int (z_i ct)])), (di, aI L 7 dice), (rx, .inr (2, [.ref kn])), (kn, aL L 225 kno)] := hw
        show J L X 2 0 0 [(tm, .inr (3, [.int (z_i len), .ref sc, .ref bo, .ref ho, .ref rx, .int (z_i 0), .int (z_i mv), .int (z_i 1), .int (z_i (-1)), .int (z_i 0), .int (z_i 1)])), (sc, aI L 2 (z_u sco mv ((sco mv) + gain))), (bo, .inr (0, [.ref ra])), (ra, aR L 2 gr), (r0, aI L 26 st_men), (r1, aI L 26 st_men), (ho, .inr (1, [.ref di, .int (z_i us), .ref bo, .int (z_i pl), .int (z_i ct)])), (di, aI L 7 dice), (rx, .inr (2, [.ref kn])), (kn, aL L 225 kno)] [(0, .ref tm), (1, .int (z_i gain))] [] 98
        refine J_bipush E d_T_winGame_98 (by decide) ?_
        refine J_iload_n E 1 d_T_winGame_100 rfl rfl ?_
        refine J_imul E d_T_winGame_101 ?_
        exact J_ireturn E F rfl (Or.inr ⟨by have := z_ui sco mv (sco mv + gain) mv; omega, by rw [show wn_c cs (sco mv + gain) len = 0 by have := z_ui sco mv (sco mv + gain) mv; unfold wn_c; split <;> omega, show wn_s cs (sco mv + gain) len = 1 by have := z_ui sco mv (sco mv + gain) mv; unfold wn_s; split <;> omega]⟩) d_T_winGame_102
      · refine J_aload_n E 0 d_T_winGame_86 rfl rfl ?_
        refine J_iconst E d_T_winGame_87 ?_
        refine p_T_52 E 0 [(tm, .inr (3, [.int (z_i len), .ref sc, .ref bo, .ref ho, .ref rx, .int (z_i 4), .int (z_i mv), .int (z_i stk), .int (z_i hol), .int (z_i 0), .int (z_i 1)])), (sc, aI L 2 (z_u sco mv ((sco mv) + gain))), (bo, .inr (0, [.ref ra])), (ra, aR L 2 gr), (r0, aI L 26 b0), (r1, aI L 26 b1), (ho, .inr (1, [.ref di, .int (z_i us), .ref bo, .int (z_i pl), .int (z_i ct)])), (di, aI L 7 dice), (rx, .inr (2, [.ref kn])), (kn, aL L 225 kno)] rfl rfl (Nat.le_of_ble_eq_true rfl) d_T_winGame_88 ?_
        refine J_goto E 98 d_T_winGame_91 (by decide) ?_
        refine J_bipush E d_T_winGame_98 (by decide) ?_
        refine J_iload_n E 1 d_T_winGame_100 rfl rfl ?_
        refine J_imul E d_T_winGame_101 ?_
        exact J_ireturn E F rfl (Or.inl ⟨by have := z_ui sco mv (sco mv + gain) mv; omega, by rw [show cs = 1 by omega]⟩) d_T_winGame_102
    · refine J_aload_n E 0 d_T_winGame_55 rfl rfl ?_
      refine g_T_93 E 0 rfl rfl d_T_winGame_56 ?_
      refine J_if_eq E 66 d_T_winGame_59 (by decide) (by exact ⟨by omega, by omega⟩) (fun h59 => ?_) (fun h59 => ?_)
      · refine J_iconst E d_T_winGame_66 ?_
        refine p_T_133 E 0 [(tm, .inr (3, [.int (z_i len), .ref sc, .ref bo, .ref ho, .ref rx, .int (z_i stg), .int (z_i mv), .int (z_i stk), .int (z_i hol), .int (z_i 0), .int (z_i 0)])), (sc, aI L 2 (z_u sco mv ((sco mv) + gain))), (bo, .inr (0, [.ref ra])), (ra, aR L 2 gr), (r0, aI L 26 b0), (r1, aI L 26 b1), (ho, .inr (1, [.ref di, .int (z_i us), .ref bo, .int (z_i pl), .int (z_i ct)])), (di, aI L 7 dice), (rx, .inr (2, [.ref kn])), (kn, aL L 225 kno)] rfl rfl (Nat.le_of_ble_eq_true rfl) (by omega) d_T_winGame_67 ?_
        refine J_aload_n E 0 d_T_winGame_70 rfl rfl ?_
        refine g_T_7 E 0 rfl rfl d_T_winGame_71 ?_
        refine J_aload_n E 0 d_T_winGame_74 rfl rfl ?_
        refine g_T_66 E 0 rfl rfl d_T_winGame_75 ?_
        refine J_iald E 1 rfl (by decide) (by exact ⟨by omega, by omega⟩) d_T_winGame_78 ?_
        refine J_aload_n E 0 d_T_winGame_79 rfl rfl ?_
        refine g_T_45 E 0 rfl rfl d_T_winGame_80 ?_
        refine J_icmp_lt E 94 d_T_winGame_83 (by decide) (by have := z_ui sco mv ((sco mv) + gain) mv; have := hsc mv; have := hsc mv; exact ⟨⟨by omega, by omega⟩, ⟨by omega, by omega⟩⟩) (fun h83 => ?_) (fun h83 => ?_)
        · refine J_aload_n E 0 d_T_winGame_94 rfl rfl ?_
          refine J_callV (wr := []) (rest := []) E kb_T_beginGame t_1_71 t_1_73 ts_T_beginGame (c_T_beginGame L tm sc bo ra r0 r1 ho di rx kn gr len stg mv stk hol 0 0 (z_u sco mv ((sco mv) + gain)) b0 b1 us pl ct dice kno g0 g1 hz0 hz1) (fun _ => rfl) (Rm_h (by decide) (by decide)) [0, 1, 2, 3, 4, 5, 6, 7, 8, 9] [] rfl rfl rfl rfl (by decide) 0 rfl rfl rfl rfl (Nat.le_of_ble_eq_true rfl) d_T_winGame_95 (fun w' hw => ?_)
          obtain rfl : w' = [(tm, .inr (3, [.int (z_i len), .ref sc, .ref bo, .ref ho, .ref rx, .int (z_i 0), .int (z_i mv), .int (z_i 1), .int (z_i (-1)), .int (z_i 0), .int (z_i 0)])), (sc, aI L 2 (z_u sco mv ((sco mv) + gain))), (bo, .inr (0, [.ref ra])), (ra, aR L 2 gr), (r0, aI L 26 st_men), (r1, aI L 26 st_men), (ho, .inr (1, [.ref di, .int (z_i us), .ref bo, .int (z_i pl), .int (z_i ct)])), (di, aI L 7 dice), (rx, .inr (2, [.ref kn])), (kn, aL L 225 kno)] := hw
          show J L X 2 0 0 [(tm, .inr (3, [.int (z_i len), .ref sc, .ref bo, .ref ho, .ref rx, .int (z_i 0), .int (z_i mv), .int (z_i 1), .int (z_i (-1)), .int (z_i 0), .int (z_i 0)])), (sc, aI L 2 (z_u sco mv ((sco mv) + gain))), (bo, .inr (0, [.ref ra])), (ra, aR L 2 gr), (r0, aI L 26 st_men), (r1, aI L 26 st_men), (ho, .inr (1, [.ref di, .int (z_i us), .ref bo, .int (z_i pl), .int (z_i ct)])), (di, aI L 7 dice), (rx, .inr (2, [.ref kn])), (kn, aL L 225 kno)] [(0, .ref tm), (1, .int (z_i gain))] [] 98
          refine J_bipush E d_T_winGame_98 (by decide) ?_
          refine J_iload_n E 1 d_T_winGame_100 rfl rfl ?_
          refine J_imul E d_T_winGame_101 ?_
          exact J_ireturn E F rfl (Or.inr ⟨by have := z_ui sco mv (sco mv + gain) mv; omega, by rw [show wn_c cs (sco mv + gain) len = 0 by have := z_ui sco mv (sco mv + gain) mv; unfold wn_c; split <;> omega, show wn_s cs (sco mv + gain) len = 0 by have := z_ui sco mv (sco mv + gain) mv; unfold wn_s; split <;> omega]⟩) d_T_winGame_102
        · refine J_aload_n E 0 d_T_winGame_86 rfl rfl ?_
          refine J_iconst E d_T_winGame_87 ?_
          refine p_T_52 E 0 [(tm, .inr (3, [.int (z_i len), .ref sc, .ref bo, .ref ho, .ref rx, .int (z_i 4), .int (z_i mv), .int (z_i stk), .int (z_i hol), .int (z_i 0), .int (z_i 0)])), (sc, aI L 2 (z_u sco mv ((sco mv) + gain))), (bo, .inr (0, [.ref ra])), (ra, aR L 2 gr), (r0, aI L 26 b0), (r1, aI L 26 b1), (ho, .inr (1, [.ref di, .int (z_i us), .ref bo, .int (z_i pl), .int (z_i ct)])), (di, aI L 7 dice), (rx, .inr (2, [.ref kn])), (kn, aL L 225 kno)] rfl rfl (Nat.le_of_ble_eq_true rfl) d_T_winGame_88 ?_
          refine J_goto E 98 d_T_winGame_91 (by decide) ?_
          refine J_bipush E d_T_winGame_98 (by decide) ?_
          refine J_iload_n E 1 d_T_winGame_100 rfl rfl ?_
          refine J_imul E d_T_winGame_101 ?_
          exact J_ireturn E F rfl (Or.inl ⟨by have := z_ui sco mv (sco mv + gain) mv; omega, by rw [show cs = 0 by omega]⟩) d_T_winGame_102
      · refine J_iconst E d_T_winGame_62 ?_
        refine J_goto E 67 d_T_winGame_63 (by decide) ?_
        refine p_T_133 E 0 [(tm, .inr (3, [.int (z_i len), .ref sc, .ref bo, .ref ho, .ref rx, .int (z_i stg), .int (z_i mv), .int (z_i stk), .int (z_i hol), .int (z_i 0), .int (z_i 1)])), (sc, aI L 2 (z_u sco mv ((sco mv) + gain))), (bo, .inr (0, [.ref ra])), (ra, aR L 2 gr), (r0, aI L 26 b0), (r1, aI L 26 b1), (ho, .inr (1, [.ref di, .int (z_i us), .ref bo, .int (z_i pl), .int (z_i ct)])), (di, aI L 7 dice), (rx, .inr (2, [.ref kn])), (kn, aL L 225 kno)] rfl rfl (Nat.le_of_ble_eq_true rfl) (by omega) d_T_winGame_67 ?_
        refine J_aload_n E 0 d_T_winGame_70 rfl rfl ?_
        refine g_T_7 E 0 rfl rfl d_T_winGame_71 ?_
        refine J_aload_n E 0 d_T_winGame_74 rfl rfl ?_
        refine g_T_66 E 0 rfl rfl d_T_winGame_75 ?_
        refine J_iald E 1 rfl (by decide) (by exact ⟨by omega, by omega⟩) d_T_winGame_78 ?_
        refine J_aload_n E 0 d_T_winGame_79 rfl rfl ?_
        refine g_T_45 E 0 rfl rfl d_T_winGame_80 ?_
        refine J_icmp_lt E 94 d_T_winGame_83 (by decide) (by have := z_ui sco mv ((sco mv) + gain) mv; have := hsc mv; have := hsc mv; exact ⟨⟨by omega, by omega⟩, ⟨by omega, by omega⟩⟩) (fun h83 => ?_) (fun h83 => ?_)
        · refine J_aload_n E 0 d_T_winGame_94 rfl rfl ?_
          refine J_callV (wr := []) (rest := []) E kb_T_beginGame t_1_71 t_1_73 ts_T_beginGame (c_T_beginGame L tm sc bo ra r0 r1 ho di rx kn gr len stg mv stk hol 0 1 (z_u sco mv ((sco mv) + gain)) b0 b1 us pl ct dice kno g0 g1 hz0 hz1) (fun _ => rfl) (Rm_h (by decide) (by decide)) [0, 1, 2, 3, 4, 5, 6, 7, 8, 9] [] rfl rfl rfl rfl (by decide) 0 rfl rfl rfl rfl (Nat.le_of_ble_eq_true rfl) d_T_winGame_95 (fun w' hw => ?_)
          obtain rfl : w' = [(tm, .inr (3, [.int (z_i len), .ref sc, .ref bo, .ref ho, .ref rx, .int (z_i 0), .int (z_i mv), .int (z_i 1), .int (z_i (-1)), .int (z_i 0), .int (z_i 1)])), (sc, aI L 2 (z_u sco mv ((sco mv) + gain))), (bo, .inr (0, [.ref ra])), (ra, aR L 2 gr), (r0, aI L 26 st_men), (r1, aI L 26 st_men), (ho, .inr (1, [.ref di, .int (z_i us), .ref bo, .int (z_i pl), .int (z_i ct)])), (di, aI L 7 dice), (rx, .inr (2, [.ref kn])), (kn, aL L 225 kno)] := hw
          show J L X 2 0 0 [(tm, .inr (3, [.int (z_i len), .ref sc, .ref bo, .ref ho, .ref rx, .int (z_i 0), .int (z_i mv), .int (z_i 1), .int (z_i (-1)), .int (z_i 0), .int (z_i 1)])), (sc, aI L 2 (z_u sco mv ((sco mv) + gain))), (bo, .inr (0, [.ref ra])), (ra, aR L 2 gr), (r0, aI L 26 st_men), (r1, aI L 26 st_men), (ho, .inr (1, [.ref di, .int (z_i us), .ref bo, .int (z_i pl), .int (z_i ct)])), (di, aI L 7 dice), (rx, .inr (2, [.ref kn])), (kn, aL L 225 kno)] [(0, .ref tm), (1, .int (z_i gain))] [] 98
          refine J_bipush E d_T_winGame_98 (by decide) ?_
          refine J_iload_n E 1 d_T_winGame_100 rfl rfl ?_
          refine J_imul E d_T_winGame_101 ?_
          exact J_ireturn E F rfl (Or.inr ⟨by have := z_ui sco mv (sco mv + gain) mv; omega, by rw [show wn_c cs (sco mv + gain) len = 0 by have := z_ui sco mv (sco mv + gain) mv; unfold wn_c; split <;> omega, show wn_s cs (sco mv + gain) len = 1 by have := z_ui sco mv (sco mv + gain) mv; unfold wn_s; split <;> omega]⟩) d_T_winGame_102
        · refine J_aload_n E 0 d_T_winGame_86 rfl rfl ?_
          refine J_iconst E d_T_winGame_87 ?_
          refine p_T_52 E 0 [(tm, .inr (3, [.int (z_i len), .ref sc, .ref bo, .ref ho, .ref rx, .int (z_i 4), .int (z_i mv), .int (z_i stk), .int (z_i hol), .int (z_i 0), .int (z_i 1)])), (sc, aI L 2 (z_u sco mv ((sco mv) + gain))), (bo, .inr (0, [.ref ra])), (ra, aR L 2 gr), (r0, aI L 26 b0), (r1, aI L 26 b1), (ho, .inr (1, [.ref di, .int (z_i us), .ref bo, .int (z_i pl), .int (z_i ct)])), (di, aI L 7 dice), (rx, .inr (2, [.ref kn])), (kn, aL L 225 kno)] rfl rfl (Nat.le_of_ble_eq_true rfl) d_T_winGame_88 ?_
          refine J_goto E 98 d_T_winGame_91 (by decide) ?_
          refine J_bipush E d_T_winGame_98 (by decide) ?_
          refine J_iload_n E 1 d_T_winGame_100 rfl rfl ?_
          refine J_imul E d_T_winGame_101 ?_
          exact J_ireturn E F rfl (Or.inl ⟨by have := z_ui sco mv (sco mv + gain) mv; omega, by rw [show cs = 1 by omega]⟩) d_T_winGame_102
  · refine J_aload_n E 0 d_T_winGame_21 rfl rfl ?_
    refine g_T_7 E 0 rfl rfl d_T_winGame_22 ?_
    refine J_aload_n E 0 d_T_winGame_25 rfl rfl ?_
    refine g_T_66 E 0 rfl rfl d_T_winGame_26 ?_
    refine J_iald E 1 rfl (by decide) (by exact ⟨by omega, by omega⟩) d_T_winGame_29 ?_
    refine J_aload_n E 0 d_T_winGame_30 rfl rfl ?_
    refine g_T_45 E 0 rfl rfl d_T_winGame_31 ?_
    refine J_iconst E d_T_winGame_34 ?_
    refine J_isub E d_T_winGame_35 ?_
    refine J_icmp_ne E 43 d_T_winGame_36 (by decide) (by have := z_ui sco mv ((sco mv) + gain) mv; have := hsc mv; have := hsc mv; exact ⟨⟨by omega, by omega⟩, ⟨by omega, by omega⟩⟩) (fun h36 => ?_) (fun h36 => ?_)
    · refine J_iconst E d_T_winGame_43 ?_
      refine p_T_93 E 0 [(tm, .inr (3, [.int (z_i len), .ref sc, .ref bo, .ref ho, .ref rx, .int (z_i stg), .int (z_i mv), .int (z_i stk), .int (z_i hol), .int (z_i 0), .int (z_i cs)])), (sc, aI L 2 (z_u sco mv ((sco mv) + gain))), (bo, .inr (0, [.ref ra])), (ra, aR L 2 gr), (r0, aI L 26 b0), (r1, aI L 26 b1), (ho, .inr (1, [.ref di, .int (z_i us), .ref bo, .int (z_i pl), .int (z_i ct)])), (di, aI L 7 dice), (rx, .inr (2, [.ref kn])), (kn, aL L 225 kno)] rfl rfl (Nat.le_of_ble_eq_true rfl) (by omega) d_T_winGame_44 ?_
      refine J_aload_n E 0 d_T_winGame_47 rfl rfl ?_
      refine J_aload_n E 0 d_T_winGame_48 rfl rfl ?_
      refine g_T_133 E 0 rfl rfl d_T_winGame_49 ?_
      refine J_if_ne E 62 d_T_winGame_52 (by decide) (by exact ⟨by omega, by omega⟩) (fun h52 => ?_) (fun h52 => ?_)
      · refine J_iconst E d_T_winGame_62 ?_
        refine J_goto E 67 d_T_winGame_63 (by decide) ?_
        refine p_T_133 E 0 [(tm, .inr (3, [.int (z_i len), .ref sc, .ref bo, .ref ho, .ref rx, .int (z_i stg), .int (z_i mv), .int (z_i stk), .int (z_i hol), .int (z_i 0), .int (z_i 1)])), (sc, aI L 2 (z_u sco mv ((sco mv) + gain))), (bo, .inr (0, [.ref ra])), (ra, aR L 2 gr), (r0, aI L 26 b0), (r1, aI L 26 b1), (ho, .inr (1, [.ref di, .int (z_i us), .ref bo, .int (z_i pl), .int (z_i ct)])), (di, aI L 7 dice), (rx, .inr (2, [.ref kn])), (kn, aL L 225 kno)] rfl rfl (Nat.le_of_ble_eq_true rfl) (by omega) d_T_winGame_67 ?_
        refine J_aload_n E 0 d_T_winGame_70 rfl rfl ?_
        refine g_T_7 E 0 rfl rfl d_T_winGame_71 ?_
        refine J_aload_n E 0 d_T_winGame_74 rfl rfl ?_
        refine g_T_66 E 0 rfl rfl d_T_winGame_75 ?_
        refine J_iald E 1 rfl (by decide) (by exact ⟨by omega, by omega⟩) d_T_winGame_78 ?_
        refine J_aload_n E 0 d_T_winGame_79 rfl rfl ?_
        refine g_T_45 E 0 rfl rfl d_T_winGame_80 ?_
        refine J_icmp_lt E 94 d_T_winGame_83 (by decide) (by have := z_ui sco mv ((sco mv) + gain) mv; have := hsc mv; have := hsc mv; exact ⟨⟨by omega, by omega⟩, ⟨by omega, by omega⟩⟩) (fun h83 => ?_) (fun h83 => ?_)
        · refine J_aload_n E 0 d_T_winGame_94 rfl rfl ?_
          refine J_callV (wr := []) (rest := []) E kb_T_beginGame t_1_71 t_1_73 ts_T_beginGame (c_T_beginGame L tm sc bo ra r0 r1 ho di rx kn gr len stg mv stk hol 0 1 (z_u sco mv ((sco mv) + gain)) b0 b1 us pl ct dice kno g0 g1 hz0 hz1) (fun _ => rfl) (Rm_h (by decide) (by decide)) [0, 1, 2, 3, 4, 5, 6, 7, 8, 9] [] rfl rfl rfl rfl (by decide) 0 rfl rfl rfl rfl (Nat.le_of_ble_eq_true rfl) d_T_winGame_95 (fun w' hw => ?_)
          obtain rfl : w' = [(tm, .inr (3, [.int (z_i len), .ref sc, .ref bo, .ref ho, .ref rx, .int (z_i 0), .int (z_i mv), .int (z_i 1), .int (z_i (-1)), .int (z_i 0), .int (z_i 1)])), (sc, aI L 2 (z_u sco mv ((sco mv) + gain))), (bo, .inr (0, [.ref ra])), (ra, aR L 2 gr), (r0, aI L 26 st_men), (r1, aI L 26 st_men), (ho, .inr (1, [.ref di, .int (z_i us), .ref bo, .int (z_i pl), .int (z_i ct)])), (di, aI L 7 dice), (rx, .inr (2, [.ref kn])), (kn, aL L 225 kno)] := hw
          show J L X 2 0 0 [(tm, .inr (3, [.int (z_i len), .ref sc, .ref bo, .ref ho, .ref rx, .int (z_i 0), .int (z_i mv), .int (z_i 1), .int (z_i (-1)), .int (z_i 0), .int (z_i 1)])), (sc, aI L 2 (z_u sco mv ((sco mv) + gain))), (bo, .inr (0, [.ref ra])), (ra, aR L 2 gr), (r0, aI L 26 st_men), (r1, aI L 26 st_men), (ho, .inr (1, [.ref di, .int (z_i us), .ref bo, .int (z_i pl), .int (z_i ct)])), (di, aI L 7 dice), (rx, .inr (2, [.ref kn])), (kn, aL L 225 kno)] [(0, .ref tm), (1, .int (z_i gain))] [] 98
          refine J_bipush E d_T_winGame_98 (by decide) ?_
          refine J_iload_n E 1 d_T_winGame_100 rfl rfl ?_
          refine J_imul E d_T_winGame_101 ?_
          exact J_ireturn E F rfl (Or.inr ⟨by have := z_ui sco mv (sco mv + gain) mv; omega, by rw [show wn_c cs (sco mv + gain) len = 0 by have := z_ui sco mv (sco mv + gain) mv; unfold wn_c; split <;> omega, show wn_s cs (sco mv + gain) len = 1 by have := z_ui sco mv (sco mv + gain) mv; unfold wn_s; split <;> omega]⟩) d_T_winGame_102
        · refine J_aload_n E 0 d_T_winGame_86 rfl rfl ?_
          refine J_iconst E d_T_winGame_87 ?_
          refine p_T_52 E 0 [(tm, .inr (3, [.int (z_i len), .ref sc, .ref bo, .ref ho, .ref rx, .int (z_i 4), .int (z_i mv), .int (z_i stk), .int (z_i hol), .int (z_i 0), .int (z_i 1)])), (sc, aI L 2 (z_u sco mv ((sco mv) + gain))), (bo, .inr (0, [.ref ra])), (ra, aR L 2 gr), (r0, aI L 26 b0), (r1, aI L 26 b1), (ho, .inr (1, [.ref di, .int (z_i us), .ref bo, .int (z_i pl), .int (z_i ct)])), (di, aI L 7 dice), (rx, .inr (2, [.ref kn])), (kn, aL L 225 kno)] rfl rfl (Nat.le_of_ble_eq_true rfl) d_T_winGame_88 ?_
          refine J_goto E 98 d_T_winGame_91 (by decide) ?_
          refine J_bipush E d_T_winGame_98 (by decide) ?_
          refine J_iload_n E 1 d_T_winGame_100 rfl rfl ?_
          refine J_imul E d_T_winGame_101 ?_
          exact J_ireturn E F rfl (Or.inl ⟨by have := z_ui sco mv (sco mv + gain) mv; omega, by rw [show cs = 1 by omega]⟩) d_T_winGame_102
      · refine J_aload_n E 0 d_T_winGame_55 rfl rfl ?_
        refine g_T_93 E 0 rfl rfl d_T_winGame_56 ?_
        refine J_if_eq E 66 d_T_winGame_59 (by decide) (by exact ⟨by omega, by omega⟩) (fun h59 => ?_) (fun h59 => ?_)
        · refine J_iconst E d_T_winGame_66 ?_
          refine p_T_133 E 0 [(tm, .inr (3, [.int (z_i len), .ref sc, .ref bo, .ref ho, .ref rx, .int (z_i stg), .int (z_i mv), .int (z_i stk), .int (z_i hol), .int (z_i 0), .int (z_i 0)])), (sc, aI L 2 (z_u sco mv ((sco mv) + gain))), (bo, .inr (0, [.ref ra])), (ra, aR L 2 gr), (r0, aI L 26 b0), (r1, aI L 26 b1), (ho, .inr (1, [.ref di, .int (z_i us), .ref bo, .int (z_i pl), .int (z_i ct)])), (di, aI L 7 dice), (rx, .inr (2, [.ref kn])), (kn, aL L 225 kno)] rfl rfl (Nat.le_of_ble_eq_true rfl) (by omega) d_T_winGame_67 ?_
          refine J_aload_n E 0 d_T_winGame_70 rfl rfl ?_
          refine g_T_7 E 0 rfl rfl d_T_winGame_71 ?_
          refine J_aload_n E 0 d_T_winGame_74 rfl rfl ?_
          refine g_T_66 E 0 rfl rfl d_T_winGame_75 ?_
          refine J_iald E 1 rfl (by decide) (by exact ⟨by omega, by omega⟩) d_T_winGame_78 ?_
          refine J_aload_n E 0 d_T_winGame_79 rfl rfl ?_
          refine g_T_45 E 0 rfl rfl d_T_winGame_80 ?_
          refine J_icmp_lt E 94 d_T_winGame_83 (by decide) (by have := z_ui sco mv ((sco mv) + gain) mv; have := hsc mv; have := hsc mv; exact ⟨⟨by omega, by omega⟩, ⟨by omega, by omega⟩⟩) (fun h83 => ?_) (fun h83 => ?_)
          · refine J_aload_n E 0 d_T_winGame_94 rfl rfl ?_
            refine J_callV (wr := []) (rest := []) E kb_T_beginGame t_1_71 t_1_73 ts_T_beginGame (c_T_beginGame L tm sc bo ra r0 r1 ho di rx kn gr len stg mv stk hol 0 0 (z_u sco mv ((sco mv) + gain)) b0 b1 us pl ct dice kno g0 g1 hz0 hz1) (fun _ => rfl) (Rm_h (by decide) (by decide)) [0, 1, 2, 3, 4, 5, 6, 7, 8, 9] [] rfl rfl rfl rfl (by decide) 0 rfl rfl rfl rfl (Nat.le_of_ble_eq_true rfl) d_T_winGame_95 (fun w' hw => ?_)
            obtain rfl : w' = [(tm, .inr (3, [.int (z_i len), .ref sc, .ref bo, .ref ho, .ref rx, .int (z_i 0), .int (z_i mv), .int (z_i 1), .int (z_i (-1)), .int (z_i 0), .int (z_i 0)])), (sc, aI L 2 (z_u sco mv ((sco mv) + gain))), (bo, .inr (0, [.ref ra])), (ra, aR L 2 gr), (r0, aI L 26 st_men), (r1, aI L 26 st_men), (ho, .inr (1, [.ref di, .int (z_i us), .ref bo, .int (z_i pl), .int (z_i ct)])), (di, aI L 7 dice), (rx, .inr (2, [.ref kn])), (kn, aL L 225 kno)] := hw
            show J L X 2 0 0 [(tm, .inr (3, [.int (z_i len), .ref sc, .ref bo, .ref ho, .ref rx, .int (z_i 0), .int (z_i mv), .int (z_i 1), .int (z_i (-1)), .int (z_i 0), .int (z_i 0)])), (sc, aI L 2 (z_u sco mv ((sco mv) + gain))), (bo, .inr (0, [.ref ra])), (ra, aR L 2 gr), (r0, aI L 26 st_men), (r1, aI L 26 st_men), (ho, .inr (1, [.ref di, .int (z_i us), .ref bo, .int (z_i pl), .int (z_i ct)])), (di, aI L 7 dice), (rx, .inr (2, [.ref kn])), (kn, aL L 225 kno)] [(0, .ref tm), (1, .int (z_i gain))] [] 98
            refine J_bipush E d_T_winGame_98 (by decide) ?_
            refine J_iload_n E 1 d_T_winGame_100 rfl rfl ?_
            refine J_imul E d_T_winGame_101 ?_
            exact J_ireturn E F rfl (Or.inr ⟨by have := z_ui sco mv (sco mv + gain) mv; omega, by rw [show wn_c cs (sco mv + gain) len = 0 by have := z_ui sco mv (sco mv + gain) mv; unfold wn_c; split <;> omega, show wn_s cs (sco mv + gain) len = 0 by have := z_ui sco mv (sco mv + gain) mv; unfold wn_s; split <;> omega]⟩) d_T_winGame_102
          · refine J_aload_n E 0 d_T_winGame_86 rfl rfl ?_
            refine J_iconst E d_T_winGame_87 ?_
            refine p_T_52 E 0 [(tm, .inr (3, [.int (z_i len), .ref sc, .ref bo, .ref ho, .ref rx, .int (z_i 4), .int (z_i mv), .int (z_i stk), .int (z_i hol), .int (z_i 0), .int (z_i 0)])), (sc, aI L 2 (z_u sco mv ((sco mv) + gain))), (bo, .inr (0, [.ref ra])), (ra, aR L 2 gr), (r0, aI L 26 b0), (r1, aI L 26 b1), (ho, .inr (1, [.ref di, .int (z_i us), .ref bo, .int (z_i pl), .int (z_i ct)])), (di, aI L 7 dice), (rx, .inr (2, [.ref kn])), (kn, aL L 225 kno)] rfl rfl (Nat.le_of_ble_eq_true rfl) d_T_winGame_88 ?_
            refine J_goto E 98 d_T_winGame_91 (by decide) ?_
            refine J_bipush E d_T_winGame_98 (by decide) ?_
            refine J_iload_n E 1 d_T_winGame_100 rfl rfl ?_
            refine J_imul E d_T_winGame_101 ?_
            exact J_ireturn E F rfl (Or.inl ⟨by have := z_ui sco mv (sco mv + gain) mv; omega, by rw [show cs = 0 by omega]⟩) d_T_winGame_102
        · refine J_iconst E d_T_winGame_62 ?_
          refine J_goto E 67 d_T_winGame_63 (by decide) ?_
          refine p_T_133 E 0 [(tm, .inr (3, [.int (z_i len), .ref sc, .ref bo, .ref ho, .ref rx, .int (z_i stg), .int (z_i mv), .int (z_i stk), .int (z_i hol), .int (z_i 0), .int (z_i 1)])), (sc, aI L 2 (z_u sco mv ((sco mv) + gain))), (bo, .inr (0, [.ref ra])), (ra, aR L 2 gr), (r0, aI L 26 b0), (r1, aI L 26 b1), (ho, .inr (1, [.ref di, .int (z_i us), .ref bo, .int (z_i pl), .int (z_i ct)])), (di, aI L 7 dice), (rx, .inr (2, [.ref kn])), (kn, aL L 225 kno)] rfl rfl (Nat.le_of_ble_eq_true rfl) (by omega) d_T_winGame_67 ?_
          refine J_aload_n E 0 d_T_winGame_70 rfl rfl ?_
          refine g_T_7 E 0 rfl rfl d_T_winGame_71 ?_
          refine J_aload_n E 0 d_T_winGame_74 rfl rfl ?_
          refine g_T_66 E 0 rfl rfl d_T_winGame_75 ?_
          refine J_iald E 1 rfl (by decide) (by exact ⟨by omega, by omega⟩) d_T_winGame_78 ?_
          refine J_aload_n E 0 d_T_winGame_79 rfl rfl ?_
          refine g_T_45 E 0 rfl rfl d_T_winGame_80 ?_
          refine J_icmp_lt E 94 d_T_winGame_83 (by decide) (by have := z_ui sco mv ((sco mv) + gain) mv; have := hsc mv; have := hsc mv; exact ⟨⟨by omega, by omega⟩, ⟨by omega, by omega⟩⟩) (fun h83 => ?_) (fun h83 => ?_)
          · refine J_aload_n E 0 d_T_winGame_94 rfl rfl ?_
            refine J_callV (wr := []) (rest := []) E kb_T_beginGame t_1_71 t_1_73 ts_T_beginGame (c_T_beginGame L tm sc bo ra r0 r1 ho di rx kn gr len stg mv stk hol 0 1 (z_u sco mv ((sco mv) + gain)) b0 b1 us pl ct dice kno g0 g1 hz0 hz1) (fun _ => rfl) (Rm_h (by decide) (by decide)) [0, 1, 2, 3, 4, 5, 6, 7, 8, 9] [] rfl rfl rfl rfl (by decide) 0 rfl rfl rfl rfl (Nat.le_of_ble_eq_true rfl) d_T_winGame_95 (fun w' hw => ?_)
            obtain rfl : w' = [(tm, .inr (3, [.int (z_i len), .ref sc, .ref bo, .ref ho, .ref rx, .int (z_i 0), .int (z_i mv), .int (z_i 1), .int (z_i (-1)), .int (z_i 0), .int (z_i 1)])), (sc, aI L 2 (z_u sco mv ((sco mv) + gain))), (bo, .inr (0, [.ref ra])), (ra, aR L 2 gr), (r0, aI L 26 st_men), (r1, aI L 26 st_men), (ho, .inr (1, [.ref di, .int (z_i us), .ref bo, .int (z_i pl), .int (z_i ct)])), (di, aI L 7 dice), (rx, .inr (2, [.ref kn])), (kn, aL L 225 kno)] := hw
            show J L X 2 0 0 [(tm, .inr (3, [.int (z_i len), .ref sc, .ref bo, .ref ho, .ref rx, .int (z_i 0), .int (z_i mv), .int (z_i 1), .int (z_i (-1)), .int (z_i 0), .int (z_i 1)])), (sc, aI L 2 (z_u sco mv ((sco mv) + gain))), (bo, .inr (0, [.ref ra])), (ra, aR L 2 gr), (r0, aI L 26 st_men), (r1, aI L 26 st_men), (ho, .inr (1, [.ref di, .int (z_i us), .ref bo, .int (z_i pl), .int (z_i ct)])), (di, aI L 7 dice), (rx, .inr (2, [.ref kn])), (kn, aL L 225 kno)] [(0, .ref tm), (1, .int (z_i gain))] [] 98
            refine J_bipush E d_T_winGame_98 (by decide) ?_
            refine J_iload_n E 1 d_T_winGame_100 rfl rfl ?_
            refine J_imul E d_T_winGame_101 ?_
            exact J_ireturn E F rfl (Or.inr ⟨by have := z_ui sco mv (sco mv + gain) mv; omega, by rw [show wn_c cs (sco mv + gain) len = 0 by have := z_ui sco mv (sco mv + gain) mv; unfold wn_c; split <;> omega, show wn_s cs (sco mv + gain) len = 1 by have := z_ui sco mv (sco mv + gain) mv; unfold wn_s; split <;> omega]⟩) d_T_winGame_102
          · refine J_aload_n E 0 d_T_winGame_86 rfl rfl ?_
            refine J_iconst E d_T_winGame_87 ?_
            refine p_T_52 E 0 [(tm, .inr (3, [.int (z_i len), .ref sc, .ref bo, .ref ho, .ref rx, .int (z_i 4), .int (z_i mv), .int (z_i stk), .int (z_i hol), .int (z_i 0), .int (z_i 1)])), (sc, aI L 2 (z_u sco mv ((sco mv) + gain))), (bo, .inr (0, [.ref ra])), (ra, aR L 2 gr), (r0, aI L 26 b0), (r1, aI L 26 b1), (ho, .inr (1, [.ref di, .int (z_i us), .ref bo, .int (z_i pl), .int (z_i ct)])), (di, aI L 7 dice), (rx, .inr (2, [.ref kn])), (kn, aL L 225 kno)] rfl rfl (Nat.le_of_ble_eq_true rfl) d_T_winGame_88 ?_
            refine J_goto E 98 d_T_winGame_91 (by decide) ?_
            refine J_bipush E d_T_winGame_98 (by decide) ?_
            refine J_iload_n E 1 d_T_winGame_100 rfl rfl ?_
            refine J_imul E d_T_winGame_101 ?_
            exact J_ireturn E F rfl (Or.inl ⟨by have := z_ui sco mv (sco mv + gain) mv; omega, by rw [show cs = 1 by omega]⟩) d_T_winGame_102
    · refine J_iconst E d_T_winGame_39 ?_
      refine J_goto E 44 d_T_winGame_40 (by decide) ?_
      refine p_T_93 E 0 [(tm, .inr (3, [.int (z_i len), .ref sc, .ref bo, .ref ho, .ref rx, .int (z_i stg), .int (z_i mv), .int (z_i stk), .int (z_i hol), .int (z_i 1), .int (z_i cs)])), (sc, aI L 2 (z_u sco mv ((sco mv) + gain))), (bo, .inr (0, [.ref ra])), (ra, aR L 2 gr), (r0, aI L 26 b0), (r1, aI L 26 b1), (ho, .inr (1, [.ref di, .int (z_i us), .ref bo, .int (z_i pl), .int (z_i ct)])), (di, aI L 7 dice), (rx, .inr (2, [.ref kn])), (kn, aL L 225 kno)] rfl rfl (Nat.le_of_ble_eq_true rfl) (by omega) d_T_winGame_44 ?_
      refine J_aload_n E 0 d_T_winGame_47 rfl rfl ?_
      refine J_aload_n E 0 d_T_winGame_48 rfl rfl ?_
      refine g_T_133 E 0 rfl rfl d_T_winGame_49 ?_
      refine J_if_ne E 62 d_T_winGame_52 (by decide) (by exact ⟨by omega, by omega⟩) (fun h52 => ?_) (fun h52 => ?_)
      · refine J_iconst E d_T_winGame_62 ?_
        refine J_goto E 67 d_T_winGame_63 (by decide) ?_
        refine p_T_133 E 0 [(tm, .inr (3, [.int (z_i len), .ref sc, .ref bo, .ref ho, .ref rx, .int (z_i stg), .int (z_i mv), .int (z_i stk), .int (z_i hol), .int (z_i 1), .int (z_i 1)])), (sc, aI L 2 (z_u sco mv ((sco mv) + gain))), (bo, .inr (0, [.ref ra])), (ra, aR L 2 gr), (r0, aI L 26 b0), (r1, aI L 26 b1), (ho, .inr (1, [.ref di, .int (z_i us), .ref bo, .int (z_i pl), .int (z_i ct)])), (di, aI L 7 dice), (rx, .inr (2, [.ref kn])), (kn, aL L 225 kno)] rfl rfl (Nat.le_of_ble_eq_true rfl) (by omega) d_T_winGame_67 ?_
        refine J_aload_n E 0 d_T_winGame_70 rfl rfl ?_
        refine g_T_7 E 0 rfl rfl d_T_winGame_71 ?_
        refine J_aload_n E 0 d_T_winGame_74 rfl rfl ?_
        refine g_T_66 E 0 rfl rfl d_T_winGame_75 ?_
        refine J_iald E 1 rfl (by decide) (by exact ⟨by omega, by omega⟩) d_T_winGame_78 ?_
        refine J_aload_n E 0 d_T_winGame_79 rfl rfl ?_
        refine g_T_45 E 0 rfl rfl d_T_winGame_80 ?_
        refine J_icmp_lt E 94 d_T_winGame_83 (by decide) (by have := z_ui sco mv ((sco mv) + gain) mv; have := hsc mv; have := hsc mv; exact ⟨⟨by omega, by omega⟩, ⟨by omega, by omega⟩⟩) (fun h83 => ?_) (fun h83 => ?_)
        · refine J_aload_n E 0 d_T_winGame_94 rfl rfl ?_
          refine J_callV (wr := []) (rest := []) E kb_T_beginGame t_1_71 t_1_73 ts_T_beginGame (c_T_beginGame L tm sc bo ra r0 r1 ho di rx kn gr len stg mv stk hol 1 1 (z_u sco mv ((sco mv) + gain)) b0 b1 us pl ct dice kno g0 g1 hz0 hz1) (fun _ => rfl) (Rm_h (by decide) (by decide)) [0, 1, 2, 3, 4, 5, 6, 7, 8, 9] [] rfl rfl rfl rfl (by decide) 0 rfl rfl rfl rfl (Nat.le_of_ble_eq_true rfl) d_T_winGame_95 (fun w' hw => ?_)
          obtain rfl : w' = [(tm, .inr (3, [.int (z_i len), .ref sc, .ref bo, .ref ho, .ref rx, .int (z_i 0), .int (z_i mv), .int (z_i 1), .int (z_i (-1)), .int (z_i 1), .int (z_i 1)])), (sc, aI L 2 (z_u sco mv ((sco mv) + gain))), (bo, .inr (0, [.ref ra])), (ra, aR L 2 gr), (r0, aI L 26 st_men), (r1, aI L 26 st_men), (ho, .inr (1, [.ref di, .int (z_i us), .ref bo, .int (z_i pl), .int (z_i ct)])), (di, aI L 7 dice), (rx, .inr (2, [.ref kn])), (kn, aL L 225 kno)] := hw
          show J L X 2 0 0 [(tm, .inr (3, [.int (z_i len), .ref sc, .ref bo, .ref ho, .ref rx, .int (z_i 0), .int (z_i mv), .int (z_i 1), .int (z_i (-1)), .int (z_i 1), .int (z_i 1)])), (sc, aI L 2 (z_u sco mv ((sco mv) + gain))), (bo, .inr (0, [.ref ra])), (ra, aR L 2 gr), (r0, aI L 26 st_men), (r1, aI L 26 st_men), (ho, .inr (1, [.ref di, .int (z_i us), .ref bo, .int (z_i pl), .int (z_i ct)])), (di, aI L 7 dice), (rx, .inr (2, [.ref kn])), (kn, aL L 225 kno)] [(0, .ref tm), (1, .int (z_i gain))] [] 98
          refine J_bipush E d_T_winGame_98 (by decide) ?_
          refine J_iload_n E 1 d_T_winGame_100 rfl rfl ?_
          refine J_imul E d_T_winGame_101 ?_
          exact J_ireturn E F rfl (Or.inr ⟨by have := z_ui sco mv (sco mv + gain) mv; omega, by rw [show wn_c cs (sco mv + gain) len = 1 by have := z_ui sco mv (sco mv + gain) mv; unfold wn_c; split <;> omega, show wn_s cs (sco mv + gain) len = 1 by have := z_ui sco mv (sco mv + gain) mv; unfold wn_s; split <;> omega]⟩) d_T_winGame_102
        · refine J_aload_n E 0 d_T_winGame_86 rfl rfl ?_
          refine J_iconst E d_T_winGame_87 ?_
          refine p_T_52 E 0 [(tm, .inr (3, [.int (z_i len), .ref sc, .ref bo, .ref ho, .ref rx, .int (z_i 4), .int (z_i mv), .int (z_i stk), .int (z_i hol), .int (z_i 1), .int (z_i 1)])), (sc, aI L 2 (z_u sco mv ((sco mv) + gain))), (bo, .inr (0, [.ref ra])), (ra, aR L 2 gr), (r0, aI L 26 b0), (r1, aI L 26 b1), (ho, .inr (1, [.ref di, .int (z_i us), .ref bo, .int (z_i pl), .int (z_i ct)])), (di, aI L 7 dice), (rx, .inr (2, [.ref kn])), (kn, aL L 225 kno)] rfl rfl (Nat.le_of_ble_eq_true rfl) d_T_winGame_88 ?_
          refine J_goto E 98 d_T_winGame_91 (by decide) ?_
          refine J_bipush E d_T_winGame_98 (by decide) ?_
          refine J_iload_n E 1 d_T_winGame_100 rfl rfl ?_
          refine J_imul E d_T_winGame_101 ?_
          exact J_ireturn E F rfl (by exfalso; have := z_ui sco mv (sco mv + gain) mv; omega) d_T_winGame_102
      · refine J_aload_n E 0 d_T_winGame_55 rfl rfl ?_
        refine g_T_93 E 0 rfl rfl d_T_winGame_56 ?_
        refine J_if_eq E 66 d_T_winGame_59 (by decide) (by exact ⟨by omega, by omega⟩) (fun h59 => ?_) (fun h59 => ?_)
        · refine J_iconst E d_T_winGame_66 ?_
          refine p_T_133 E 0 [(tm, .inr (3, [.int (z_i len), .ref sc, .ref bo, .ref ho, .ref rx, .int (z_i stg), .int (z_i mv), .int (z_i stk), .int (z_i hol), .int (z_i 1), .int (z_i 0)])), (sc, aI L 2 (z_u sco mv ((sco mv) + gain))), (bo, .inr (0, [.ref ra])), (ra, aR L 2 gr), (r0, aI L 26 b0), (r1, aI L 26 b1), (ho, .inr (1, [.ref di, .int (z_i us), .ref bo, .int (z_i pl), .int (z_i ct)])), (di, aI L 7 dice), (rx, .inr (2, [.ref kn])), (kn, aL L 225 kno)] rfl rfl (Nat.le_of_ble_eq_true rfl) (by omega) d_T_winGame_67 ?_
          refine J_aload_n E 0 d_T_winGame_70 rfl rfl ?_
          refine g_T_7 E 0 rfl rfl d_T_winGame_71 ?_
          refine J_aload_n E 0 d_T_winGame_74 rfl rfl ?_
          refine g_T_66 E 0 rfl rfl d_T_winGame_75 ?_
          refine J_iald E 1 rfl (by decide) (by exact ⟨by omega, by omega⟩) d_T_winGame_78 ?_
          refine J_aload_n E 0 d_T_winGame_79 rfl rfl ?_
          refine g_T_45 E 0 rfl rfl d_T_winGame_80 ?_
          refine J_icmp_lt E 94 d_T_winGame_83 (by decide) (by have := z_ui sco mv ((sco mv) + gain) mv; have := hsc mv; have := hsc mv; exact ⟨⟨by omega, by omega⟩, ⟨by omega, by omega⟩⟩) (fun h83 => ?_) (fun h83 => ?_)
          · refine J_aload_n E 0 d_T_winGame_94 rfl rfl ?_
            refine J_callV (wr := []) (rest := []) E kb_T_beginGame t_1_71 t_1_73 ts_T_beginGame (c_T_beginGame L tm sc bo ra r0 r1 ho di rx kn gr len stg mv stk hol 1 0 (z_u sco mv ((sco mv) + gain)) b0 b1 us pl ct dice kno g0 g1 hz0 hz1) (fun _ => rfl) (Rm_h (by decide) (by decide)) [0, 1, 2, 3, 4, 5, 6, 7, 8, 9] [] rfl rfl rfl rfl (by decide) 0 rfl rfl rfl rfl (Nat.le_of_ble_eq_true rfl) d_T_winGame_95 (fun w' hw => ?_)
            obtain rfl : w' = [(tm, .inr (3, [.int (z_i len), .ref sc, .ref bo, .ref ho, .ref rx, .int (z_i 0), .int (z_i mv), .int (z_i 1), .int (z_i (-1)), .int (z_i 1), .int (z_i 0)])), (sc, aI L 2 (z_u sco mv ((sco mv) + gain))), (bo, .inr (0, [.ref ra])), (ra, aR L 2 gr), (r0, aI L 26 st_men), (r1, aI L 26 st_men), (ho, .inr (1, [.ref di, .int (z_i us), .ref bo, .int (z_i pl), .int (z_i ct)])), (di, aI L 7 dice), (rx, .inr (2, [.ref kn])), (kn, aL L 225 kno)] := hw
            show J L X 2 0 0 [(tm, .inr (3, [.int (z_i len), .ref sc, .ref bo, .ref ho, .ref rx, .int (z_i 0), .int (z_i mv), .int (z_i 1), .int (z_i (-1)), .int (z_i 1), .int (z_i 0)])), (sc, aI L 2 (z_u sco mv ((sco mv) + gain))), (bo, .inr (0, [.ref ra])), (ra, aR L 2 gr), (r0, aI L 26 st_men), (r1, aI L 26 st_men), (ho, .inr (1, [.ref di, .int (z_i us), .ref bo, .int (z_i pl), .int (z_i ct)])), (di, aI L 7 dice), (rx, .inr (2, [.ref kn])), (kn, aL L 225 kno)] [(0, .ref tm), (1, .int (z_i gain))] [] 98
            refine J_bipush E d_T_winGame_98 (by decide) ?_
            refine J_iload_n E 1 d_T_winGame_100 rfl rfl ?_
            refine J_imul E d_T_winGame_101 ?_
            exact J_ireturn E F rfl (Or.inr ⟨by have := z_ui sco mv (sco mv + gain) mv; omega, by rw [show wn_c cs (sco mv + gain) len = 1 by have := z_ui sco mv (sco mv + gain) mv; unfold wn_c; split <;> omega, show wn_s cs (sco mv + gain) len = 0 by have := z_ui sco mv (sco mv + gain) mv; unfold wn_s; split <;> omega]⟩) d_T_winGame_102
          · refine J_aload_n E 0 d_T_winGame_86 rfl rfl ?_
            refine J_iconst E d_T_winGame_87 ?_
            refine p_T_52 E 0 [(tm, .inr (3, [.int (z_i len), .ref sc, .ref bo, .ref ho, .ref rx, .int (z_i 4), .int (z_i mv), .int (z_i stk), .int (z_i hol), .int (z_i 1), .int (z_i 0)])), (sc, aI L 2 (z_u sco mv ((sco mv) + gain))), (bo, .inr (0, [.ref ra])), (ra, aR L 2 gr), (r0, aI L 26 b0), (r1, aI L 26 b1), (ho, .inr (1, [.ref di, .int (z_i us), .ref bo, .int (z_i pl), .int (z_i ct)])), (di, aI L 7 dice), (rx, .inr (2, [.ref kn])), (kn, aL L 225 kno)] rfl rfl (Nat.le_of_ble_eq_true rfl) d_T_winGame_88 ?_
            refine J_goto E 98 d_T_winGame_91 (by decide) ?_
            refine J_bipush E d_T_winGame_98 (by decide) ?_
            refine J_iload_n E 1 d_T_winGame_100 rfl rfl ?_
            refine J_imul E d_T_winGame_101 ?_
            exact J_ireturn E F rfl (by exfalso; have := z_ui sco mv (sco mv + gain) mv; omega) d_T_winGame_102
        · refine J_iconst E d_T_winGame_62 ?_
          refine J_goto E 67 d_T_winGame_63 (by decide) ?_
          refine p_T_133 E 0 [(tm, .inr (3, [.int (z_i len), .ref sc, .ref bo, .ref ho, .ref rx, .int (z_i stg), .int (z_i mv), .int (z_i stk), .int (z_i hol), .int (z_i 1), .int (z_i 1)])), (sc, aI L 2 (z_u sco mv ((sco mv) + gain))), (bo, .inr (0, [.ref ra])), (ra, aR L 2 gr), (r0, aI L 26 b0), (r1, aI L 26 b1), (ho, .inr (1, [.ref di, .int (z_i us), .ref bo, .int (z_i pl), .int (z_i ct)])), (di, aI L 7 dice), (rx, .inr (2, [.ref kn])), (kn, aL L 225 kno)] rfl rfl (Nat.le_of_ble_eq_true rfl) (by omega) d_T_winGame_67 ?_
          refine J_aload_n E 0 d_T_winGame_70 rfl rfl ?_
          refine g_T_7 E 0 rfl rfl d_T_winGame_71 ?_
          refine J_aload_n E 0 d_T_winGame_74 rfl rfl ?_
          refine g_T_66 E 0 rfl rfl d_T_winGame_75 ?_
          refine J_iald E 1 rfl (by decide) (by exact ⟨by omega, by omega⟩) d_T_winGame_78 ?_
          refine J_aload_n E 0 d_T_winGame_79 rfl rfl ?_
          refine g_T_45 E 0 rfl rfl d_T_winGame_80 ?_
          refine J_icmp_lt E 94 d_T_winGame_83 (by decide) (by have := z_ui sco mv ((sco mv) + gain) mv; have := hsc mv; have := hsc mv; exact ⟨⟨by omega, by omega⟩, ⟨by omega, by omega⟩⟩) (fun h83 => ?_) (fun h83 => ?_)
          · refine J_aload_n E 0 d_T_winGame_94 rfl rfl ?_
            refine J_callV (wr := []) (rest := []) E kb_T_beginGame t_1_71 t_1_73 ts_T_beginGame (c_T_beginGame L tm sc bo ra r0 r1 ho di rx kn gr len stg mv stk hol 1 1 (z_u sco mv ((sco mv) + gain)) b0 b1 us pl ct dice kno g0 g1 hz0 hz1) (fun _ => rfl) (Rm_h (by decide) (by decide)) [0, 1, 2, 3, 4, 5, 6, 7, 8, 9] [] rfl rfl rfl rfl (by decide) 0 rfl rfl rfl rfl (Nat.le_of_ble_eq_true rfl) d_T_winGame_95 (fun w' hw => ?_)
            obtain rfl : w' = [(tm, .inr (3, [.int (z_i len), .ref sc, .ref bo, .ref ho, .ref rx, .int (z_i 0), .int (z_i mv), .int (z_i 1), .int (z_i (-1)), .int (z_i 1), .int (z_i 1)])), (sc, aI L 2 (z_u sco mv ((sco mv) + gain))), (bo, .inr (0, [.ref ra])), (ra, aR L 2 gr), (r0, aI L 26 st_men), (r1, aI L 26 st_men), (ho, .inr (1, [.ref di, .int (z_i us), .ref bo, .int (z_i pl), .int (z_i ct)])), (di, aI L 7 dice), (rx, .inr (2, [.ref kn])), (kn, aL L 225 kno)] := hw
            show J L X 2 0 0 [(tm, .inr (3, [.int (z_i len), .ref sc, .ref bo, .ref ho, .ref rx, .int (z_i 0), .int (z_i mv), .int (z_i 1), .int (z_i (-1)), .int (z_i 1), .int (z_i 1)])), (sc, aI L 2 (z_u sco mv ((sco mv) + gain))), (bo, .inr (0, [.ref ra])), (ra, aR L 2 gr), (r0, aI L 26 st_men), (r1, aI L 26 st_men), (ho, .inr (1, [.ref di, .int (z_i us), .ref bo, .int (z_i pl), .int (z_i ct)])), (di, aI L 7 dice), (rx, .inr (2, [.ref kn])), (kn, aL L 225 kno)] [(0, .ref tm), (1, .int (z_i gain))] [] 98
            refine J_bipush E d_T_winGame_98 (by decide) ?_
            refine J_iload_n E 1 d_T_winGame_100 rfl rfl ?_
            refine J_imul E d_T_winGame_101 ?_
            exact J_ireturn E F rfl (Or.inr ⟨by have := z_ui sco mv (sco mv + gain) mv; omega, by rw [show wn_c cs (sco mv + gain) len = 1 by have := z_ui sco mv (sco mv + gain) mv; unfold wn_c; split <;> omega, show wn_s cs (sco mv + gain) len = 1 by have := z_ui sco mv (sco mv + gain) mv; unfold wn_s; split <;> omega]⟩) d_T_winGame_102
          · refine J_aload_n E 0 d_T_winGame_86 rfl rfl ?_
            refine J_iconst E d_T_winGame_87 ?_
            refine p_T_52 E 0 [(tm, .inr (3, [.int (z_i len), .ref sc, .ref bo, .ref ho, .ref rx, .int (z_i 4), .int (z_i mv), .int (z_i stk), .int (z_i hol), .int (z_i 1), .int (z_i 1)])), (sc, aI L 2 (z_u sco mv ((sco mv) + gain))), (bo, .inr (0, [.ref ra])), (ra, aR L 2 gr), (r0, aI L 26 b0), (r1, aI L 26 b1), (ho, .inr (1, [.ref di, .int (z_i us), .ref bo, .int (z_i pl), .int (z_i ct)])), (di, aI L 7 dice), (rx, .inr (2, [.ref kn])), (kn, aL L 225 kno)] rfl rfl (Nat.le_of_ble_eq_true rfl) d_T_winGame_88 ?_
            refine J_goto E 98 d_T_winGame_91 (by decide) ?_
            refine J_bipush E d_T_winGame_98 (by decide) ?_
            refine J_iload_n E 1 d_T_winGame_100 rfl rfl ?_
            refine J_imul E d_T_winGame_101 ?_
            exact J_ireturn E F rfl (by exfalso; have := z_ui sco mv (sco mv + gain) mv; omega) d_T_winGame_102
