set_option maxHeartbeats 4000000 in
set_option maxRecDepth 100000 in
theorem c_T_phase (L : Lx) (tm sc bo ra r0 r1 ho di rx kn : Nat) (gr : Nat → Option Nat) (len stg mv stk hol cn cs : Int) (sco b0 b1 : Int → Int) (us pl ct : Int) (dice kno : Int → Int) (hi lo hs ls : Int)  (g0 : gr 0 = some r0) (g1 : gr 1 = some r1) (hS : st_ok (len, stg, mv, stk, hol, cn, cs, sco, b0, b1, hi, lo, hs, ls)) (hH : hd_ok stg mv b0 b1 hi lo hs ls dice us pl ct) (hmm : mm_ok kno) : CtG L y_T_phase b_T_phase 1 (some .int) (rmh 1) false 0 0 [.ref tm] [(tm, .inr (3, [.int (z_i len), .ref sc, .ref bo, .ref ho, .ref rx, .int (z_i stg), .int (z_i mv), .int (z_i stk), .int (z_i hol), .int (z_i cn), .int (z_i cs)])), (sc, aI L 2 sco), (bo, .inr (0, [.ref ra])), (ra, aR L 2 gr), (r0, aI L 26 b0), (r1, aI L 26 b1), (ho, .inr (1, [.ref di, .int (z_i us), .ref bo, .int (z_i pl), .int (z_i ct)])), (di, aI L 7 dice), (rx, .inr (2, [.ref kn])), (kn, aL L 225 kno)] (RC L tm sc bo ra r0 r1 ho di rx kn gr (len, stg, mv, stk, hol, cn, cs, sco, b0, b1, hi, lo, hs, ls)) (some (.int (z_i (stg)))) := by
  obtain ⟨hlen, hstg, hmv, hstk, hhol, hcn, hcs, hsc, hsl, hb0, hb1, hdk⟩ := hS
  refine CtG.of rfl (Nat.le_of_ble_eq_true rfl) (fun X E F => ?_)
  show J L X 1 0 0 [(tm, .inr (3, [.int (z_i len), .ref sc, .ref bo, .ref ho, .ref rx, .int (z_i stg), .int (z_i mv), .int (z_i stk), .int (z_i hol), .int (z_i cn), .int (z_i cs)])), (sc, aI L 2 sco), (bo, .inr (0, [.ref ra])), (ra, aR L 2 gr), (r0, aI L 26 b0), (r1, aI L 26 b1), (ho, .inr (1, [.ref di, .int (z_i us), .ref bo, .int (z_i pl), .int (z_i ct)])), (di, aI L 7 dice), (rx, .inr (2, [.ref kn])), (kn, aL L 225 kno)] [(0, .ref tm)] [] 0
  refine J_aload_n E 0 d_T_phase_0 rfl rfl ?_
  refine g_T_52 E 0 rfl rfl d_T_phase_1 ?_
  exact J_ireturn E F rfl ⟨us, pl, ct, dice, kno, hH, hmm, rfl⟩ d_T_phase_4
set_option maxHeartbeats 4000000 in
set_option maxRecDepth 100000 in
theorem c_T_cube (L : Lx) (tm sc bo ra r0 r1 ho di rx kn : Nat) (gr : Nat → Option Nat) (len stg mv stk hol cn cs : Int) (sco b0 b1 : Int → Int) (us pl ct : Int) (dice kno : Int → Int) (hi lo hs ls : Int)  (g0 : gr 0 = some r0) (g1 : gr 1 = some r1) (hS : st_ok (len, stg, mv, stk, hol, cn, cs, sco, b0, b1, hi, lo, hs, ls)) (hH : hd_ok stg mv b0 b1 hi lo hs ls dice us pl ct) (hmm : mm_ok kno) : CtG L y_T_cube b_T_cube 1 (some .int) (rmh 1) false 0 0 [.ref tm] [(tm, .inr (3, [.int (z_i len), .ref sc, .ref bo, .ref ho, .ref rx, .int (z_i stg), .int (z_i mv), .int (z_i stk), .int (z_i hol), .int (z_i cn), .int (z_i cs)])), (sc, aI L 2 sco), (bo, .inr (0, [.ref ra])), (ra, aR L 2 gr), (r0, aI L 26 b0), (r1, aI L 26 b1), (ho, .inr (1, [.ref di, .int (z_i us), .ref bo, .int (z_i pl), .int (z_i ct)])), (di, aI L 7 dice), (rx, .inr (2, [.ref kn])), (kn, aL L 225 kno)] (RC L tm sc bo ra r0 r1 ho di rx kn gr (len, stg, mv, stk, hol, cn, cs, sco, b0, b1, hi, lo, hs, ls)) (some (.int (z_i (stk)))) := by
  obtain ⟨hlen, hstg, hmv, hstk, hhol, hcn, hcs, hsc, hsl, hb0, hb1, hdk⟩ := hS
  refine CtG.of rfl (Nat.le_of_ble_eq_true rfl) (fun X E F => ?_)
  show J L X 1 0 0 [(tm, .inr (3, [.int (z_i len), .ref sc, .ref bo, .ref ho, .ref rx, .int (z_i stg), .int (z_i mv), .int (z_i stk), .int (z_i hol), .int (z_i cn), .int (z_i cs)])), (sc, aI L 2 sco), (bo, .inr (0, [.ref ra])), (ra, aR L 2 gr), (r0, aI L 26 b0), (r1, aI L 26 b1), (ho, .inr (1, [.ref di, .int (z_i us), .ref bo, .int (z_i pl), .int (z_i ct)])), (di, aI L 7 dice), (rx, .inr (2, [.ref kn])), (kn, aL L 225 kno)] [(0, .ref tm)] [] 0
  refine J_aload_n E 0 d_T_cube_0 rfl rfl ?_
  refine g_T_97 E 0 rfl rfl d_T_cube_1 ?_
  exact J_ireturn E F rfl ⟨us, pl, ct, dice, kno, hH, hmm, rfl⟩ d_T_cube_4
set_option maxHeartbeats 4000000 in
set_option maxRecDepth 100000 in
theorem c_T_owner (L : Lx) (tm sc bo ra r0 r1 ho di rx kn : Nat) (gr : Nat → Option Nat) (len stg mv stk hol cn cs : Int) (sco b0 b1 : Int → Int) (us pl ct : Int) (dice kno : Int → Int) (hi lo hs ls : Int)  (g0 : gr 0 = some r0) (g1 : gr 1 = some r1) (hS : st_ok (len, stg, mv, stk, hol, cn, cs, sco, b0, b1, hi, lo, hs, ls)) (hH : hd_ok stg mv b0 b1 hi lo hs ls dice us pl ct) (hmm : mm_ok kno) : CtG L y_T_owner b_T_owner 1 (some .int) (rmh 1) false 0 0 [.ref tm] [(tm, .inr (3, [.int (z_i len), .ref sc, .ref bo, .ref ho, .ref rx, .int (z_i stg), .int (z_i mv), .int (z_i stk), .int (z_i hol), .int (z_i cn), .int (z_i cs)])), (sc, aI L 2 sco), (bo, .inr (0, [.ref ra])), (ra, aR L 2 gr), (r0, aI L 26 b0), (r1, aI L 26 b1), (ho, .inr (1, [.ref di, .int (z_i us), .ref bo, .int (z_i pl), .int (z_i ct)])), (di, aI L 7 dice), (rx, .inr (2, [.ref kn])), (kn, aL L 225 kno)] (RC L tm sc bo ra r0 r1 ho di rx kn gr (len, stg, mv, stk, hol, cn, cs, sco, b0, b1, hi, lo, hs, ls)) (some (.int (z_i (hol)))) := by
  obtain ⟨hlen, hstg, hmv, hstk, hhol, hcn, hcs, hsc, hsl, hb0, hb1, hdk⟩ := hS
  refine CtG.of rfl (Nat.le_of_ble_eq_true rfl) (fun X E F => ?_)
  show J L X 1 0 0 [(tm, .inr (3, [.int (z_i len), .ref sc, .ref bo, .ref ho, .ref rx, .int (z_i stg), .int (z_i mv), .int (z_i stk), .int (z_i hol), .int (z_i cn), .int (z_i cs)])), (sc, aI L 2 sco), (bo, .inr (0, [.ref ra])), (ra, aR L 2 gr), (r0, aI L 26 b0), (r1, aI L 26 b1), (ho, .inr (1, [.ref di, .int (z_i us), .ref bo, .int (z_i pl), .int (z_i ct)])), (di, aI L 7 dice), (rx, .inr (2, [.ref kn])), (kn, aL L 225 kno)] [(0, .ref tm)] [] 0
  refine J_aload_n E 0 d_T_owner_0 rfl rfl ?_
  refine g_T_100 E 0 rfl rfl d_T_owner_1 ?_
  exact J_ireturn E F rfl ⟨us, pl, ct, dice, kno, hH, hmm, rfl⟩ d_T_owner_4
set_option maxHeartbeats 4000000 in
set_option maxRecDepth 100000 in
theorem c_T_crawford (L : Lx) (tm sc bo ra r0 r1 ho di rx kn : Nat) (gr : Nat → Option Nat) (len stg mv stk hol cn cs : Int) (sco b0 b1 : Int → Int) (us pl ct : Int) (dice kno : Int → Int) (hi lo hs ls : Int)  (g0 : gr 0 = some r0) (g1 : gr 1 = some r1) (hS : st_ok (len, stg, mv, stk, hol, cn, cs, sco, b0, b1, hi, lo, hs, ls)) (hH : hd_ok stg mv b0 b1 hi lo hs ls dice us pl ct) (hmm : mm_ok kno) : CtG L y_T_crawford b_T_crawford 1 (some .boolean) (rmh 1) false 0 0 [.ref tm] [(tm, .inr (3, [.int (z_i len), .ref sc, .ref bo, .ref ho, .ref rx, .int (z_i stg), .int (z_i mv), .int (z_i stk), .int (z_i hol), .int (z_i cn), .int (z_i cs)])), (sc, aI L 2 sco), (bo, .inr (0, [.ref ra])), (ra, aR L 2 gr), (r0, aI L 26 b0), (r1, aI L 26 b1), (ho, .inr (1, [.ref di, .int (z_i us), .ref bo, .int (z_i pl), .int (z_i ct)])), (di, aI L 7 dice), (rx, .inr (2, [.ref kn])), (kn, aL L 225 kno)] (RC L tm sc bo ra r0 r1 ho di rx kn gr (len, stg, mv, stk, hol, cn, cs, sco, b0, b1, hi, lo, hs, ls)) (some (.int (z_i (cn)))) := by
  obtain ⟨hlen, hstg, hmv, hstk, hhol, hcn, hcs, hsc, hsl, hb0, hb1, hdk⟩ := hS
  refine CtG.of rfl (Nat.le_of_ble_eq_true rfl) (fun X E F => ?_)
  show J L X 1 0 0 [(tm, .inr (3, [.int (z_i len), .ref sc, .ref bo, .ref ho, .ref rx, .int (z_i stg), .int (z_i mv), .int (z_i stk), .int (z_i hol), .int (z_i cn), .int (z_i cs)])), (sc, aI L 2 sco), (bo, .inr (0, [.ref ra])), (ra, aR L 2 gr), (r0, aI L 26 b0), (r1, aI L 26 b1), (ho, .inr (1, [.ref di, .int (z_i us), .ref bo, .int (z_i pl), .int (z_i ct)])), (di, aI L 7 dice), (rx, .inr (2, [.ref kn])), (kn, aL L 225 kno)] [(0, .ref tm)] [] 0
  refine J_aload_n E 0 d_T_crawford_0 rfl rfl ?_
  refine g_T_93 E 0 rfl rfl d_T_crawford_1 ?_
  exact J_zreturn E F (by omega) rfl ⟨us, pl, ct, dice, kno, hH, hmm, rfl⟩ d_T_crawford_4
set_option maxHeartbeats 4000000 in
set_option maxRecDepth 100000 in
theorem c_T_turn (L : Lx) (tm sc bo ra r0 r1 ho di rx kn : Nat) (gr : Nat → Option Nat) (len stg mv stk hol cn cs : Int) (sco b0 b1 : Int → Int) (us pl ct : Int) (dice kno : Int → Int) (hi lo hs ls : Int)  (g0 : gr 0 = some r0) (g1 : gr 1 = some r1) (hS : st_ok (len, stg, mv, stk, hol, cn, cs, sco, b0, b1, hi, lo, hs, ls)) (hH : hd_ok stg mv b0 b1 hi lo hs ls dice us pl ct) (hmm : mm_ok kno) : CtG L y_T_turn b_T_turn 1 (some .int) (rmh 1) false 0 0 [.ref tm] [(tm, .inr (3, [.int (z_i len), .ref sc, .ref bo, .ref ho, .ref rx, .int (z_i stg), .int (z_i mv), .int (z_i stk), .int (z_i hol), .int (z_i cn), .int (z_i cs)])), (sc, aI L 2 sco), (bo, .inr (0, [.ref ra])), (ra, aR L 2 gr), (r0, aI L 26 b0), (r1, aI L 26 b1), (ho, .inr (1, [.ref di, .int (z_i us), .ref bo, .int (z_i pl), .int (z_i ct)])), (di, aI L 7 dice), (rx, .inr (2, [.ref kn])), (kn, aL L 225 kno)] (RC L tm sc bo ra r0 r1 ho di rx kn gr (len, stg, mv, stk, hol, cn, cs, sco, b0, b1, hi, lo, hs, ls)) (some (.int (z_i (m_turn (len, stg, mv, stk, hol, cn, cs, sco, b0, b1, hi, lo, hs, ls))))) := by
  obtain ⟨hlen, hstg, hmv, hstk, hhol, hcn, hcs, hsc, hsl, hb0, hb1, hdk⟩ := hS
  refine CtG.of rfl (Nat.le_of_ble_eq_true rfl) (fun X E F => ?_)
  show J L X 1 0 0 [(tm, .inr (3, [.int (z_i len), .ref sc, .ref bo, .ref ho, .ref rx, .int (z_i stg), .int (z_i mv), .int (z_i stk), .int (z_i hol), .int (z_i cn), .int (z_i cs)])), (sc, aI L 2 sco), (bo, .inr (0, [.ref ra])), (ra, aR L 2 gr), (r0, aI L 26 b0), (r1, aI L 26 b1), (ho, .inr (1, [.ref di, .int (z_i us), .ref bo, .int (z_i pl), .int (z_i ct)])), (di, aI L 7 dice), (rx, .inr (2, [.ref kn])), (kn, aL L 225 kno)] [(0, .ref tm)] [] 0
  refine J_aload_n E 0 d_T_turn_0 rfl rfl ?_
  refine g_T_52 E 0 rfl rfl d_T_turn_1 ?_
  refine J_if_ne E 9 d_T_turn_4 (by decide) (by exact ⟨by omega, by omega⟩) (fun h4 => ?_) (fun h4 => ?_)
  · refine J_aload_n E 0 d_T_turn_9 rfl rfl ?_
    refine g_T_52 E 0 rfl rfl d_T_turn_10 ?_
    refine J_iconst E d_T_turn_13 ?_
    refine J_icmp_ne E 26 d_T_turn_14 (by decide) (by exact ⟨⟨by omega, by omega⟩, ⟨by omega, by omega⟩⟩) (fun h14 => ?_) (fun h14 => ?_)
    · refine J_aload_n E 0 d_T_turn_26 rfl rfl ?_
      refine g_T_66 E 0 rfl rfl d_T_turn_27 ?_
      exact J_ireturn E F (((if_neg h4).trans (if_neg h14)).symm) ⟨us, pl, ct, dice, kno, hH, hmm, rfl⟩ d_T_turn_30
    · refine J_iconst E d_T_turn_17 ?_
      refine J_aload_n E 0 d_T_turn_18 rfl rfl ?_
      refine g_T_66 E 0 rfl rfl d_T_turn_19 ?_
      refine J_isub E d_T_turn_22 ?_
      refine J_goto E 30 d_T_turn_23 (by decide) ?_
      exact J_ireturn E F (((if_neg h4).trans (if_pos h14)).symm) ⟨us, pl, ct, dice, kno, hH, hmm, rfl⟩ d_T_turn_30
  · refine J_iconst E d_T_turn_7 ?_
    exact J_ireturn E F (if_pos h4).symm ⟨us, pl, ct, dice, kno, hH, hmm, rfl⟩ d_T_turn_8
set_option maxHeartbeats 4000000 in
set_option maxRecDepth 100000 in
theorem c_T_points (L : Lx) (tm sc bo ra r0 r1 ho di rx kn : Nat) (gr : Nat → Option Nat) (len stg mv stk hol cn cs : Int) (sco b0 b1 : Int → Int) (us pl ct : Int) (dice kno : Int → Int) (hi lo hs ls : Int) (p : Int) (g0 : gr 0 = some r0) (g1 : gr 1 = some r1) (hS : st_ok (len, stg, mv, stk, hol, cn, cs, sco, b0, b1, hi, lo, hs, ls)) (hH : hd_ok stg mv b0 b1 hi lo hs ls dice us pl ct) (hmm : mm_ok kno) (hp : z_r p) : CtG L y_T_points b_T_points 2 (some .int) (rmh 2) false 0 0 [.ref tm, .int (z_i p)] [(tm, .inr (3, [.int (z_i len), .ref sc, .ref bo, .ref ho, .ref rx, .int (z_i stg), .int (z_i mv), .int (z_i stk), .int (z_i hol), .int (z_i cn), .int (z_i cs)])), (sc, aI L 2 sco), (bo, .inr (0, [.ref ra])), (ra, aR L 2 gr), (r0, aI L 26 b0), (r1, aI L 26 b1), (ho, .inr (1, [.ref di, .int (z_i us), .ref bo, .int (z_i pl), .int (z_i ct)])), (di, aI L 7 dice), (rx, .inr (2, [.ref kn])), (kn, aL L 225 kno)] (RC L tm sc bo ra r0 r1 ho di rx kn gr (len, stg, mv, stk, hol, cn, cs, sco, b0, b1, hi, lo, hs, ls)) (some (.int (z_i (m_points (len, stg, mv, stk, hol, cn, cs, sco, b0, b1, hi, lo, hs, ls) p)))) := by
  obtain ⟨hlen, hstg, hmv, hstk, hhol, hcn, hcs, hsc, hsl, hb0, hb1, hdk⟩ := hS
  refine CtG.of rfl (Nat.le_of_ble_eq_true rfl) (fun X E F => ?_)
  show J L X 2 0 0 [(tm, .inr (3, [.int (z_i len), .ref sc, .ref bo, .ref ho, .ref rx, .int (z_i stg), .int (z_i mv), .int (z_i stk), .int (z_i hol), .int (z_i cn), .int (z_i cs)])), (sc, aI L 2 sco), (bo, .inr (0, [.ref ra])), (ra, aR L 2 gr), (r0, aI L 26 b0), (r1, aI L 26 b1), (ho, .inr (1, [.ref di, .int (z_i us), .ref bo, .int (z_i pl), .int (z_i ct)])), (di, aI L 7 dice), (rx, .inr (2, [.ref kn])), (kn, aL L 225 kno)] [(0, .ref tm), (1, .int (z_i p))] [] 0
  refine J_iload_n E 1 d_T_points_0 rfl rfl ?_
  refine J_callS (wr := [(tm, .inr (3, [.int (z_i len), .ref sc, .ref bo, .ref ho, .ref rx, .int (z_i stg), .int (z_i mv), .int (z_i stk), .int (z_i hol), .int (z_i cn), .int (z_i cs)])), (sc, aI L 2 sco), (bo, .inr (0, [.ref ra])), (ra, aR L 2 gr), (r0, aI L 26 b0), (r1, aI L 26 b1), (ho, .inr (1, [.ref di, .int (z_i us), .ref bo, .int (z_i pl), .int (z_i ct)])), (di, aI L 7 dice), (rx, .inr (2, [.ref kn])), (kn, aL L 225 kno)]) (rest := []) E kb_T_isPlayer t_1_122 t_1_123 (c_T_isPlayer L p hp) (fun h => h) (Rm_h (by decide) (by decide)) [] [0, 1, 2, 3, 4, 5, 6, 7, 8, 9] rfl rfl rfl rfl (by decide) rfl rfl (Nat.le_of_ble_eq_true rfl) d_T_points_1 (fun w' hw => ?_)
  obtain rfl : w' = [] := hw
  show J L X 2 0 0 [(tm, .inr (3, [.int (z_i len), .ref sc, .ref bo, .ref ho, .ref rx, .int (z_i stg), .int (z_i mv), .int (z_i stk), .int (z_i hol), .int (z_i cn), .int (z_i cs)])), (sc, aI L 2 sco), (bo, .inr (0, [.ref ra])), (ra, aR L 2 gr), (r0, aI L 26 b0), (r1, aI L 26 b1), (ho, .inr (1, [.ref di, .int (z_i us), .ref bo, .int (z_i pl), .int (z_i ct)])), (di, aI L 7 dice), (rx, .inr (2, [.ref kn])), (kn, aL L 225 kno)] [(0, .ref tm), (1, .int (z_i p))] [.int (z_i (b2 (p = 0 ∨ p = 1)))] 4
  refine J_if_eq E 16 d_T_points_4 (by decide) (b2_r _) (fun h4 => ?_) (fun h4 => ?_)
  · have hpp := b2_not h4
    refine J_iconst E d_T_points_16 ?_
    exact J_ireturn E F (if_neg hpp).symm ⟨us, pl, ct, dice, kno, hH, hmm, rfl⟩ d_T_points_17
  · have hpp := b2_of h4
    refine J_aload_n E 0 d_T_points_7 rfl rfl ?_
    refine g_T_7 E 0 rfl rfl d_T_points_8 ?_
    refine J_iload_n E 1 d_T_points_11 rfl rfl ?_
    refine J_iald E 1 rfl (by decide) (by exact ⟨by omega, by omega⟩) d_T_points_12 ?_
    refine J_goto E 17 d_T_points_13 (by decide) ?_
    exact J_ireturn E F (if_pos hpp).symm ⟨us, pl, ct, dice, kno, hH, hmm, rfl⟩ d_T_points_17
set_option maxHeartbeats 4000000 in
set_option maxRecDepth 100000 in
theorem c_T_men (L : Lx) (tm sc bo ra r0 r1 ho di rx kn : Nat) (gr : Nat → Option Nat) (len stg mv stk hol cn cs : Int) (sco b0 b1 : Int → Int) (us pl ct : Int) (dice kno : Int → Int) (hi lo hs ls : Int) (p x : Int) (g0 : gr 0 = some r0) (g1 : gr 1 = some r1) (hS : st_ok (len, stg, mv, stk, hol, cn, cs, sco, b0, b1, hi, lo, hs, ls)) (hH : hd_ok stg mv b0 b1 hi lo hs ls dice us pl ct) (hmm : mm_ok kno) (hp : z_r p) (hx : z_r x) : CtG L y_T_men b_T_men 3 (some .int) (rmh 2) false 0 0 [.ref tm, .int (z_i p), .int (z_i x)] [(tm, .inr (3, [.int (z_i len), .ref sc, .ref bo, .ref ho, .ref rx, .int (z_i stg), .int (z_i mv), .int (z_i stk), .int (z_i hol), .int (z_i cn), .int (z_i cs)])), (sc, aI L 2 sco), (bo, .inr (0, [.ref ra])), (ra, aR L 2 gr), (r0, aI L 26 b0), (r1, aI L 26 b1), (ho, .inr (1, [.ref di, .int (z_i us), .ref bo, .int (z_i pl), .int (z_i ct)])), (di, aI L 7 dice), (rx, .inr (2, [.ref kn])), (kn, aL L 225 kno)] (RC L tm sc bo ra r0 r1 ho di rx kn gr (len, stg, mv, stk, hol, cn, cs, sco, b0, b1, hi, lo, hs, ls)) (some (.int (z_i (m_men (len, stg, mv, stk, hol, cn, cs, sco, b0, b1, hi, lo, hs, ls) p x)))) := by
  obtain ⟨hlen, hstg, hmv, hstk, hhol, hcn, hcs, hsc, hsl, hb0, hb1, hdk⟩ := hS
  refine CtG.of rfl (Nat.le_of_ble_eq_true rfl) (fun X E F => ?_)
  show J L X 3 0 0 [(tm, .inr (3, [.int (z_i len), .ref sc, .ref bo, .ref ho, .ref rx, .int (z_i stg), .int (z_i mv), .int (z_i stk), .int (z_i hol), .int (z_i cn), .int (z_i cs)])), (sc, aI L 2 sco), (bo, .inr (0, [.ref ra])), (ra, aR L 2 gr), (r0, aI L 26 b0), (r1, aI L 26 b1), (ho, .inr (1, [.ref di, .int (z_i us), .ref bo, .int (z_i pl), .int (z_i ct)])), (di, aI L 7 dice), (rx, .inr (2, [.ref kn])), (kn, aL L 225 kno)] [(0, .ref tm), (1, .int (z_i p)), (2, .int (z_i x))] [] 0
  refine J_iload_n E 1 d_T_men_0 rfl rfl ?_
  refine J_callS (wr := [(tm, .inr (3, [.int (z_i len), .ref sc, .ref bo, .ref ho, .ref rx, .int (z_i stg), .int (z_i mv), .int (z_i stk), .int (z_i hol), .int (z_i cn), .int (z_i cs)])), (sc, aI L 2 sco), (bo, .inr (0, [.ref ra])), (ra, aR L 2 gr), (r0, aI L 26 b0), (r1, aI L 26 b1), (ho, .inr (1, [.ref di, .int (z_i us), .ref bo, .int (z_i pl), .int (z_i ct)])), (di, aI L 7 dice), (rx, .inr (2, [.ref kn])), (kn, aL L 225 kno)]) (rest := []) E kb_T_isPlayer t_1_122 t_1_123 (c_T_isPlayer L p hp) (fun h => h) (Rm_h (by decide) (by decide)) [] [0, 1, 2, 3, 4, 5, 6, 7, 8, 9] rfl rfl rfl rfl (by decide) rfl rfl (Nat.le_of_ble_eq_true rfl) d_T_men_1 (fun w' hw => ?_)
  obtain rfl : w' = [] := hw
  show J L X 3 0 0 [(tm, .inr (3, [.int (z_i len), .ref sc, .ref bo, .ref ho, .ref rx, .int (z_i stg), .int (z_i mv), .int (z_i stk), .int (z_i hol), .int (z_i cn), .int (z_i cs)])), (sc, aI L 2 sco), (bo, .inr (0, [.ref ra])), (ra, aR L 2 gr), (r0, aI L 26 b0), (r1, aI L 26 b1), (ho, .inr (1, [.ref di, .int (z_i us), .ref bo, .int (z_i pl), .int (z_i ct)])), (di, aI L 7 dice), (rx, .inr (2, [.ref kn])), (kn, aL L 225 kno)] [(0, .ref tm), (1, .int (z_i p)), (2, .int (z_i x))] [.int (z_i (b2 (p = 0 ∨ p = 1)))] 4
  refine J_if_eq E 17 d_T_men_4 (by decide) (b2_r _) (fun h4 => ?_) (fun h4 => ?_)
  · have hpp := b2_not h4
    refine J_iconst E d_T_men_17 ?_
    exact J_ireturn E F (if_neg (by omega)).symm ⟨us, pl, ct, dice, kno, hH, hmm, rfl⟩ d_T_men_18
  · have hpp := b2_of h4
    refine J_iload_n E 2 d_T_men_7 rfl rfl ?_
    refine J_if_lt E 17 d_T_men_8 (by decide) (by exact ⟨by omega, by omega⟩) (fun h8 => ?_) (fun h8 => ?_)
    · refine J_iconst E d_T_men_17 ?_
      exact J_ireturn E F (if_neg (by omega)).symm ⟨us, pl, ct, dice, kno, hH, hmm, rfl⟩ d_T_men_18
    · refine J_iload_n E 2 d_T_men_11 rfl rfl ?_
      refine J_bipush E d_T_men_12 (by decide) ?_
      refine J_icmp_le E 19 d_T_men_14 (by decide) (by exact ⟨⟨by omega, by omega⟩, ⟨by omega, by omega⟩⟩) (fun h14 => ?_) (fun h14 => ?_)
      · refine J_aload_n E 0 d_T_men_19 rfl rfl ?_
        refine g_T_16 E 0 rfl rfl d_T_men_20 ?_
        refine g_T_107 E 2 rfl rfl d_T_men_23 ?_
        rcases hpp with rfl | rfl
        · refine J_iload_n E 1 d_T_men_26 rfl rfl ?_
          refine J_aald E 3 rfl (by decide) (by exact ⟨by omega, by omega⟩) g0 d_T_men_27 ?_
          refine J_iload_n E 2 d_T_men_28 rfl rfl ?_
          refine J_iald E 4 rfl (by decide) (by exact ⟨by omega, by omega⟩) d_T_men_29 ?_
          exact J_ireturn E F (if_pos ⟨by omega, by omega, by omega⟩).symm ⟨us, pl, ct, dice, kno, hH, hmm, rfl⟩ d_T_men_30
        · refine J_iload_n E 1 d_T_men_26 rfl rfl ?_
          refine J_aald E 3 rfl (by decide) (by exact ⟨by omega, by omega⟩) g1 d_T_men_27 ?_
          refine J_iload_n E 2 d_T_men_28 rfl rfl ?_
          refine J_iald E 5 rfl (by decide) (by exact ⟨by omega, by omega⟩) d_T_men_29 ?_
          exact J_ireturn E F (if_pos ⟨by omega, by omega, by omega⟩).symm ⟨us, pl, ct, dice, kno, hH, hmm, rfl⟩ d_T_men_30
      · refine J_iconst E d_T_men_17 ?_
        exact J_ireturn E F (if_neg (by omega)).symm ⟨us, pl, ct, dice, kno, hH, hmm, rfl⟩ d_T_men_18
set_option maxHeartbeats 4000000 in
set_option maxRecDepth 100000 in
theorem c_T_pips (L : Lx) (tm sc bo ra r0 r1 ho di rx kn : Nat) (gr : Nat → Option Nat) (len stg mv stk hol cn cs : Int) (sco b0 b1 : Int → Int) (us pl ct : Int) (dice kno : Int → Int) (hi lo hs ls : Int) (p : Int) (g0 : gr 0 = some r0) (g1 : gr 1 = some r1) (hS : st_ok (len, stg, mv, stk, hol, cn, cs, sco, b0, b1, hi, lo, hs, ls)) (hH : hd_ok stg mv b0 b1 hi lo hs ls dice us pl ct) (hmm : mm_ok kno) (hp : z_r p) : CtG L y_T_pips b_T_pips 2 (some .int) (rmh 3) false 0 0 [.ref tm, .int (z_i p)] [(tm, .inr (3, [.int (z_i len), .ref sc, .ref bo, .ref ho, .ref rx, .int (z_i stg), .int (z_i mv), .int (z_i stk), .int (z_i hol), .int (z_i cn), .int (z_i cs)])), (sc, aI L 2 sco), (bo, .inr (0, [.ref ra])), (ra, aR L 2 gr), (r0, aI L 26 b0), (r1, aI L 26 b1), (ho, .inr (1, [.ref di, .int (z_i us), .ref bo, .int (z_i pl), .int (z_i ct)])), (di, aI L 7 dice), (rx, .inr (2, [.ref kn])), (kn, aL L 225 kno)] (RC L tm sc bo ra r0 r1 ho di rx kn gr (len, stg, mv, stk, hol, cn, cs, sco, b0, b1, hi, lo, hs, ls)) (some (.int (z_i (m_pips (len, stg, mv, stk, hol, cn, cs, sco, b0, b1, hi, lo, hs, ls) p)))) := by
  obtain ⟨hlen, hstg, hmv, hstk, hhol, hcn, hcs, hsc, hsl, hb0, hb1, hdk⟩ := hS
  refine CtG.of rfl (Nat.le_of_ble_eq_true rfl) (fun X E F => ?_)
  show J L X 2 0 0 [(tm, .inr (3, [.int (z_i len), .ref sc, .ref bo, .ref ho, .ref rx, .int (z_i stg), .int (z_i mv), .int (z_i stk), .int (z_i hol), .int (z_i cn), .int (z_i cs)])), (sc, aI L 2 sco), (bo, .inr (0, [.ref ra])), (ra, aR L 2 gr), (r0, aI L 26 b0), (r1, aI L 26 b1), (ho, .inr (1, [.ref di, .int (z_i us), .ref bo, .int (z_i pl), .int (z_i ct)])), (di, aI L 7 dice), (rx, .inr (2, [.ref kn])), (kn, aL L 225 kno)] [(0, .ref tm), (1, .int (z_i p))] [] 0
  refine J_iload_n E 1 d_T_pips_0 rfl rfl ?_
  refine J_callS (wr := [(tm, .inr (3, [.int (z_i len), .ref sc, .ref bo, .ref ho, .ref rx, .int (z_i stg), .int (z_i mv), .int (z_i stk), .int (z_i hol), .int (z_i cn), .int (z_i cs)])), (sc, aI L 2 sco), (bo, .inr (0, [.ref ra])), (ra, aR L 2 gr), (r0, aI L 26 b0), (r1, aI L 26 b1), (ho, .inr (1, [.ref di, .int (z_i us), .ref bo, .int (z_i pl), .int (z_i ct)])), (di, aI L 7 dice), (rx, .inr (2, [.ref kn])), (kn, aL L 225 kno)]) (rest := []) E kb_T_isPlayer t_1_122 t_1_123 (c_T_isPlayer L p hp) (fun h => h) (Rm_h (by decide) (by decide)) [] [0, 1, 2, 3, 4, 5, 6, 7, 8, 9] rfl rfl rfl rfl (by decide) rfl rfl (Nat.le_of_ble_eq_true rfl) d_T_pips_1 (fun w' hw => ?_)
  obtain rfl : w' = [] := hw
  show J L X 2 0 0 [(tm, .inr (3, [.int (z_i len), .ref sc, .ref bo, .ref ho, .ref rx, .int (z_i stg), .int (z_i mv), .int (z_i stk), .int (z_i hol), .int (z_i cn), .int (z_i cs)])), (sc, aI L 2 sco), (bo, .inr (0, [.ref ra])), (ra, aR L 2 gr), (r0, aI L 26 b0), (r1, aI L 26 b1), (ho, .inr (1, [.ref di, .int (z_i us), .ref bo, .int (z_i pl), .int (z_i ct)])), (di, aI L 7 dice), (rx, .inr (2, [.ref kn])), (kn, aL L 225 kno)] [(0, .ref tm), (1, .int (z_i p))] [.int (z_i (b2 (p = 0 ∨ p = 1)))] 4
  refine J_if_eq E 18 d_T_pips_4 (by decide) (b2_r _) (fun h4 => ?_) (fun h4 => ?_)
  · have hpp := b2_not h4
    refine J_iconst E d_T_pips_18 ?_
    exact J_ireturn E F (if_neg hpp).symm ⟨us, pl, ct, dice, kno, hH, hmm, rfl⟩ d_T_pips_19
  · have hpp := b2_of h4
    refine J_aload_n E 0 d_T_pips_7 rfl rfl ?_
    refine g_T_16 E 0 rfl rfl d_T_pips_8 ?_
    rcases hpp with rfl | rfl
    · refine J_iload_n E 1 d_T_pips_11 rfl rfl ?_
      refine J_callV (wr := [(tm, .inr (3, [.int (z_i len), .ref sc, .ref bo, .ref ho, .ref rx, .int (z_i stg), .int (z_i mv), .int (z_i stk), .int (z_i hol), .int (z_i cn), .int (z_i cs)])), (sc, aI L 2 sco), (ho, .inr (1, [.ref di, .int (z_i us), .ref bo, .int (z_i pl), .int (z_i ct)])), (di, aI L 7 dice), (rx, .inr (2, [.ref kn])), (kn, aL L 225 kno)]) (rest := []) E kb_B_countPips t_2_13 t_2_14 t_2_15 (c_B_countPips L bo ra r0 r1 gr b0 b1 0 (Or.inl rfl) g0 g1 hb0 hb1) (fun h => h) (Rm_h (by decide) (by decide)) [2, 3, 4, 5] [0, 1, 6, 7, 8, 9] rfl rfl rfl rfl (by decide) 0 rfl rfl rfl rfl (Nat.le_of_ble_eq_true rfl) d_T_pips_12 (fun w' hw => ?_)
      obtain rfl : w' = [(bo, .inr (0, [.ref ra])), (ra, aR L 2 gr), (r0, aI L 26 b0), (r1, aI L 26 b1)] := hw
      show J L X 2 0 0 [(tm, .inr (3, [.int (z_i len), .ref sc, .ref bo, .ref ho, .ref rx, .int (z_i stg), .int (z_i mv), .int (z_i stk), .int (z_i hol), .int (z_i cn), .int (z_i cs)])), (sc, aI L 2 sco), (ho, .inr (1, [.ref di, .int (z_i us), .ref bo, .int (z_i pl), .int (z_i ct)])), (di, aI L 7 dice), (rx, .inr (2, [.ref kn])), (kn, aL L 225 kno), (bo, .inr (0, [.ref ra])), (ra, aR L 2 gr), (r0, aI L 26 b0), (r1, aI L 26 b1)] [(0, .ref tm), (1, .int (z_i 0))] [.int (z_i (pp_f b0 25))] 15
      refine J_goto E 19 d_T_pips_15 (by decide) ?_
      refine J_ws (ws' := [(tm, .inr (3, [.int (z_i len), .ref sc, .ref bo, .ref ho, .ref rx, .int (z_i stg), .int (z_i mv), .int (z_i stk), .int (z_i hol), .int (z_i cn), .int (z_i cs)])), (sc, aI L 2 sco), (bo, .inr (0, [.ref ra])), (ra, aR L 2 gr), (r0, aI L 26 b0), (r1, aI L 26 b1), (ho, .inr (1, [.ref di, .int (z_i us), .ref bo, .int (z_i pl), .int (z_i ct)])), (di, aI L 7 dice), (rx, .inr (2, [.ref kn])), (kn, aL L 225 kno)]) [0, 1, 6, 7, 8, 9, 2, 3, 4, 5] rfl rfl ?_
      exact J_ireturn E F rfl ⟨us, pl, ct, dice, kno, hH, hmm, rfl⟩ d_T_pips_19
    · refine J_iload_n E 1 d_T_pips_11 rfl rfl ?_
      refine J_callV (wr := [(tm, .inr (3, [.int (z_i len), .ref sc, .ref bo, .ref ho, .ref rx, .int (z_i stg), .int (z_i mv), .int (z_i stk), .int (z_i hol), .int (z_i cn), .int (z_i cs)])), (sc, aI L 2 sco), (ho, .inr (1, [.ref di, .int (z_i us), .ref bo, .int (z_i pl), .int (z_i ct)])), (di, aI L 7 dice), (rx, .inr (2, [.ref kn])), (kn, aL L 225 kno)]) (rest := []) E kb_B_countPips t_2_13 t_2_14 t_2_15 (c_B_countPips L bo ra r1 r0 gr b1 b0 1 (Or.inr rfl) g1 g0 hb1 hb0) (fun h => h) (Rm_h (by decide) (by decide)) [2, 3, 5, 4] [0, 1, 6, 7, 8, 9] rfl rfl rfl rfl (by decide) 0 rfl rfl rfl rfl (Nat.le_of_ble_eq_true rfl) d_T_pips_12 (fun w' hw => ?_)
      obtain rfl : w' = [(bo, .inr (0, [.ref ra])), (ra, aR L 2 gr), (r1, aI L 26 b1), (r0, aI L 26 b0)] := hw
      show J L X 2 0 0 [(tm, .inr (3, [.int (z_i len), .ref sc, .ref bo, .ref ho, .ref rx, .int (z_i stg), .int (z_i mv), .int (z_i stk), .int (z_i hol), .int (z_i cn), .int (z_i cs)])), (sc, aI L 2 sco), (ho, .inr (1, [.ref di, .int (z_i us), .ref bo, .int (z_i pl), .int (z_i ct)])), (di, aI L 7 dice), (rx, .inr (2, [.ref kn])), (kn, aL L 225 kno), (bo, .inr (0, [.ref ra])), (ra, aR L 2 gr), (r1, aI L 26 b1), (r0, aI L 26 b0)] [(0, .ref tm), (1, .int (z_i 1))] [.int (z_i (pp_f b1 25))] 15
      refine J_goto E 19 d_T_pips_15 (by decide) ?_
      refine J_ws (ws' := [(tm, .inr (3, [.int (z_i len), .ref sc, .ref bo, .ref ho, .ref rx, .int (z_i stg), .int (z_i mv), .int (z_i stk), .int (z_i hol), .int (z_i cn), .int (z_i cs)])), (sc, aI L 2 sco), (bo, .inr (0, [.ref ra])), (ra, aR L 2 gr), (r0, aI L 26 b0), (r1, aI L 26 b1), (ho, .inr (1, [.ref di, .int (z_i us), .ref bo, .int (z_i pl), .int (z_i ct)])), (di, aI L 7 dice), (rx, .inr (2, [.ref kn])), (kn, aL L 225 kno)]) [0, 1, 6, 7, 9, 8, 2, 3, 4, 5] rfl rfl ?_
      exact J_ireturn E F rfl ⟨us, pl, ct, dice, kno, hH, hmm, rfl⟩ d_T_pips_19
set_option maxHeartbeats 4000000 in
set_option maxRecDepth 100000 in
theorem c_T_place (L : Lx) (tm sc bo ra r0 r1 ho di rx kn : Nat) (gr : Nat → Option Nat) (len stg mv stk hol cn cs : Int) (sco b0 b1 : Int → Int) (us pl ct : Int) (dice kno : Int → Int) (hi lo hs ls : Int) (p pt n : Int) (g0 : gr 0 = some r0) (g1 : gr 1 = some r1) (hS : st_ok (len, stg, mv, stk, hol, cn, cs, sco, b0, b1, hi, lo, hs, ls)) (hH : hd_ok stg mv b0 b1 hi lo hs ls dice us pl ct) (hmm : mm_ok kno) (hp : z_r p) (hpt : z_r pt) (hn : z_r n) : CtG L y_T_place b_T_place 4 (some .boolean) (rmh 2) false 0 0 [.ref tm, .int (z_i p), .int (z_i pt), .int (z_i n)] [(tm, .inr (3, [.int (z_i len), .ref sc, .ref bo, .ref ho, .ref rx, .int (z_i stg), .int (z_i mv), .int (z_i stk), .int (z_i hol), .int (z_i cn), .int (z_i cs)])), (sc, aI L 2 sco), (bo, .inr (0, [.ref ra])), (ra, aR L 2 gr), (r0, aI L 26 b0), (r1, aI L 26 b1), (ho, .inr (1, [.ref di, .int (z_i us), .ref bo, .int (z_i pl), .int (z_i ct)])), (di, aI L 7 dice), (rx, .inr (2, [.ref kn])), (kn, aL L 225 kno)] (RC L tm sc bo ra r0 r1 ho di rx kn gr (m_place (len, stg, mv, stk, hol, cn, cs, sco, b0, b1, hi, lo, hs, ls) p pt n).2) (some (.int (z_i ((m_place (len, stg, mv, stk, hol, cn, cs, sco, b0, b1, hi, lo, hs, ls) p pt n).1)))) := by
  obtain ⟨hlen, hstg, hmv, hstk, hhol, hcn, hcs, hsc, hsl, hb0, hb1, hdk⟩ := hS
  refine CtG.of rfl (Nat.le_of_ble_eq_true rfl) (fun X E F => ?_)
  show J L X 4 0 0 [(tm, .inr (3, [.int (z_i len), .ref sc, .ref bo, .ref ho, .ref rx, .int (z_i stg), .int (z_i mv), .int (z_i stk), .int (z_i hol), .int (z_i cn), .int (z_i cs)])), (sc, aI L 2 sco), (bo, .inr (0, [.ref ra])), (ra, aR L 2 gr), (r0, aI L 26 b0), (r1, aI L 26 b1), (ho, .inr (1, [.ref di, .int (z_i us), .ref bo, .int (z_i pl), .int (z_i ct)])), (di, aI L 7 dice), (rx, .inr (2, [.ref kn])), (kn, aL L 225 kno)] [(0, .ref tm), (1, .int (z_i p)), (2, .int (z_i pt)), (3, .int (z_i n))] [] 0
  refine J_aload_n E 0 d_T_place_0 rfl rfl ?_
  refine g_T_52 E 0 rfl rfl d_T_place_1 ?_
  refine J_if_ne E 25 d_T_place_4 (by decide) (by exact ⟨by omega, by omega⟩) (fun h4 => ?_) (fun h4 => ?_)
  · refine J_iconst E d_T_place_25 ?_
    exact J_zreturn E F (by omega) (by rw [m_place_f (by omega)]) (by rw [m_place_f (by omega)]; exact ⟨us, pl, ct, dice, kno, hH, hmm, rfl⟩) d_T_place_26
  · refine J_iload_n E 1 d_T_place_7 rfl rfl ?_
    refine J_callS (wr := [(tm, .inr (3, [.int (z_i len), .ref sc, .ref bo, .ref ho, .ref rx, .int (z_i stg), .int (z_i mv), .int (z_i stk), .int (z_i hol), .int (z_i cn), .int (z_i cs)])), (sc, aI L 2 sco), (bo, .inr (0, [.ref ra])), (ra, aR L 2 gr), (r0, aI L 26 b0), (r1, aI L 26 b1), (ho, .inr (1, [.ref di, .int (z_i us), .ref bo, .int (z_i pl), .int (z_i ct)])), (di, aI L 7 dice), (rx, .inr (2, [.ref kn])), (kn, aL L 225 kno)]) (rest := []) E kb_T_isPlayer t_1_122 t_1_123 (c_T_isPlayer L p hp) (fun h => h) (Rm_h (by decide) (by decide)) [] [0, 1, 2, 3, 4, 5, 6, 7, 8, 9] rfl rfl rfl rfl (by decide) rfl rfl (Nat.le_of_ble_eq_true rfl) d_T_place_8 (fun w' hw => ?_)
    obtain rfl : w' = [] := hw
    show J L X 4 0 0 [(tm, .inr (3, [.int (z_i len), .ref sc, .ref bo, .ref ho, .ref rx, .int (z_i stg), .int (z_i mv), .int (z_i stk), .int (z_i hol), .int (z_i cn), .int (z_i cs)])), (sc, aI L 2 sco), (bo, .inr (0, [.ref ra])), (ra, aR L 2 gr), (r0, aI L 26 b0), (r1, aI L 26 b1), (ho, .inr (1, [.ref di, .int (z_i us), .ref bo, .int (z_i pl), .int (z_i ct)])), (di, aI L 7 dice), (rx, .inr (2, [.ref kn])), (kn, aL L 225 kno)] [(0, .ref tm), (1, .int (z_i p)), (2, .int (z_i pt)), (3, .int (z_i n))] [.int (z_i (b2 (p = 0 ∨ p = 1)))] 11
    refine J_if_eq E 25 d_T_place_11 (by decide) (b2_r _) (fun h11 => ?_) (fun h11 => ?_)
    · have hpp := b2_not h11
      refine J_iconst E d_T_place_25 ?_
      exact J_zreturn E F (by omega) (by rw [m_place_f (by omega)]) (by rw [m_place_f (by omega)]; exact ⟨us, pl, ct, dice, kno, hH, hmm, rfl⟩) d_T_place_26
    · have hpp := b2_of h11
      refine J_iload_n E 2 d_T_place_14 rfl rfl ?_
      refine J_iconst E d_T_place_15 ?_
      refine J_icmp_lt E 25 d_T_place_16 (by decide) (by exact ⟨⟨by omega, by omega⟩, ⟨by omega, by omega⟩⟩) (fun h16 => ?_) (fun h16 => ?_)
      · refine J_iconst E d_T_place_25 ?_
        exact J_zreturn E F (by omega) (by rw [m_place_f (by omega)]) (by rw [m_place_f (by omega)]; exact ⟨us, pl, ct, dice, kno, hH, hmm, rfl⟩) d_T_place_26
      · refine J_iload_n E 2 d_T_place_19 rfl rfl ?_
        refine J_bipush E d_T_place_20 (by decide) ?_
        refine J_icmp_le E 27 d_T_place_22 (by decide) (by exact ⟨⟨by omega, by omega⟩, ⟨by omega, by omega⟩⟩) (fun h22 => ?_) (fun h22 => ?_)
        · refine J_iload_n E 3 d_T_place_27 rfl rfl ?_
          refine J_if_lt E 37 d_T_place_28 (by decide) (by exact ⟨by omega, by omega⟩) (fun h28 => ?_) (fun h28 => ?_)
          · refine J_iconst E d_T_place_37 ?_
            exact J_zreturn E F (by omega) (by rw [m_place_f (by omega)]) (by rw [m_place_f (by omega)]; exact ⟨us, pl, ct, dice, kno, hH, hmm, rfl⟩) d_T_place_38
          · refine J_iload_n E 3 d_T_place_31 rfl rfl ?_
            refine J_bipush E d_T_place_32 (by decide) ?_
            refine J_icmp_le E 39 d_T_place_34 (by decide) (by exact ⟨⟨by omega, by omega⟩, ⟨by omega, by omega⟩⟩) (fun h34 => ?_) (fun h34 => ?_)
            · refine J_aload_n E 0 d_T_place_39 rfl rfl ?_
              refine g_T_16 E 0 rfl rfl d_T_place_40 ?_
              rcases hpp with rfl | rfl
              · refine J_iload_n E 1 d_T_place_43 rfl rfl ?_
                refine J_iload_n E 2 d_T_place_44 rfl rfl ?_
                refine J_iload_n E 3 d_T_place_45 rfl rfl ?_
                refine J_callV (wr := [(tm, .inr (3, [.int (z_i len), .ref sc, .ref bo, .ref ho, .ref rx, .int (z_i stg), .int (z_i mv), .int (z_i stk), .int (z_i hol), .int (z_i cn), .int (z_i cs)])), (sc, aI L 2 sco), (ho, .inr (1, [.ref di, .int (z_i us), .ref bo, .int (z_i pl), .int (z_i ct)])), (di, aI L 7 dice), (rx, .inr (2, [.ref kn])), (kn, aL L 225 kno)]) (rest := []) E kb_B_putMen t_1_125 t_1_126 t_1_127 (c_B_putMen L bo ra r0 r1 gr b0 b1 0 pt n (Or.inl rfl) g0 g1 hb0 hb1 ⟨by omega, by omega⟩ ⟨by omega, by omega⟩) (fun h => h) (Rm_h (by decide) (by decide)) [2, 3, 4, 5] [0, 1, 6, 7, 8, 9] rfl rfl rfl rfl (by decide) 0 rfl rfl rfl rfl (Nat.le_of_ble_eq_true rfl) d_T_place_46 (fun w' hw => ?_)
                obtain rfl : w' = [(bo, .inr (0, [.ref ra])), (ra, aR L 2 gr), (r0, aI L 26 (pm_own b0 b1 pt n)), (r1, aI L 26 b1)] := hw
                show J L X 4 0 0 [(tm, .inr (3, [.int (z_i len), .ref sc, .ref bo, .ref ho, .ref rx, .int (z_i stg), .int (z_i mv), .int (z_i stk), .int (z_i hol), .int (z_i cn), .int (z_i cs)])), (sc, aI L 2 sco), (ho, .inr (1, [.ref di, .int (z_i us), .ref bo, .int (z_i pl), .int (z_i ct)])), (di, aI L 7 dice), (rx, .inr (2, [.ref kn])), (kn, aL L 225 kno), (bo, .inr (0, [.ref ra])), (ra, aR L 2 gr), (r0, aI L 26 (pm_own b0 b1 pt n)), (r1, aI L 26 b1)] [(0, .ref tm), (1, .int (z_i 0)), (2, .int (z_i pt)), (3, .int (z_i n))] [.int (z_i (b2 (pm_c b0 b1 pt n)))] 49
                refine J_ws (ws' := [(tm, .inr (3, [.int (z_i len), .ref sc, .ref bo, .ref ho, .ref rx, .int (z_i stg), .int (z_i mv), .int (z_i stk), .int (z_i hol), .int (z_i cn), .int (z_i cs)])), (sc, aI L 2 sco), (bo, .inr (0, [.ref ra])), (ra, aR L 2 gr), (r0, aI L 26 (pm_own b0 b1 pt n)), (r1, aI L 26 b1), (ho, .inr (1, [.ref di, .int (z_i us), .ref bo, .int (z_i pl), .int (z_i ct)])), (di, aI L 7 dice), (rx, .inr (2, [.ref kn])), (kn, aL L 225 kno)]) [0, 1, 6, 7, 8, 9, 2, 3, 4, 5] rfl rfl ?_
                exact J_zreturn E F (b2_01 _) (by rw [m_place_0 h4 ⟨by omega, by omega⟩ ⟨by omega, by omega⟩]) (by rw [m_place_0 h4 ⟨by omega, by omega⟩ ⟨by omega, by omega⟩]; exact ⟨us, pl, ct, dice, kno, ⟨hH.1, fun z => absurd (h4.symm.trans z) (by decide)⟩, hmm, rfl⟩) d_T_place_49
              · refine J_iload_n E 1 d_T_place_43 rfl rfl ?_
                refine J_iload_n E 2 d_T_place_44 rfl rfl ?_
                refine J_iload_n E 3 d_T_place_45 rfl rfl ?_
                refine J_callV (wr := [(tm, .inr (3, [.int (z_i len), .ref sc, .ref bo, .ref ho, .ref rx, .int (z_i stg), .int (z_i mv), .int (z_i stk), .int (z_i hol), .int (z_i cn), .int (z_i cs)])), (sc, aI L 2 sco), (ho, .inr (1, [.ref di, .int (z_i us), .ref bo, .int (z_i pl), .int (z_i ct)])), (di, aI L 7 dice), (rx, .inr (2, [.ref kn])), (kn, aL L 225 kno)]) (rest := []) E kb_B_putMen t_1_125 t_1_126 t_1_127 (c_B_putMen L bo ra r1 r0 gr b1 b0 1 pt n (Or.inr rfl) g1 g0 hb1 hb0 ⟨by omega, by omega⟩ ⟨by omega, by omega⟩) (fun h => h) (Rm_h (by decide) (by decide)) [2, 3, 5, 4] [0, 1, 6, 7, 8, 9] rfl rfl rfl rfl (by decide) 0 rfl rfl rfl rfl (Nat.le_of_ble_eq_true rfl) d_T_place_46 (fun w' hw => ?_)
                obtain rfl : w' = [(bo, .inr (0, [.ref ra])), (ra, aR L 2 gr), (r1, aI L 26 (pm_own b1 b0 pt n)), (r0, aI L 26 b0)] := hw
                show J L X 4 0 0 [(tm, .inr (3, [.int (z_i len), .ref sc, .ref bo, .ref ho, .ref rx, .int (z_i stg), .int (z_i mv), .int (z_i stk), .int (z_i hol), .int (z_i cn), .int (z_i cs)])), (sc, aI L 2 sco), (ho, .inr (1, [.ref di, .int (z_i us), .ref bo, .int (z_i pl), .int (z_i ct)])), (di, aI L 7 dice), (rx, .inr (2, [.ref kn])), (kn, aL L 225 kno), (bo, .inr (0, [.ref ra])), (ra, aR L 2 gr), (r1, aI L 26 (pm_own b1 b0 pt n)), (r0, aI L 26 b0)] [(0, .ref tm), (1, .int (z_i 1)), (2, .int (z_i pt)), (3, .int (z_i n))] [.int (z_i (b2 (pm_c b1 b0 pt n)))] 49
                refine J_ws (ws' := [(tm, .inr (3, [.int (z_i len), .ref sc, .ref bo, .ref ho, .ref rx, .int (z_i stg), .int (z_i mv), .int (z_i stk), .int (z_i hol), .int (z_i cn), .int (z_i cs)])), (sc, aI L 2 sco), (bo, .inr (0, [.ref ra])), (ra, aR L 2 gr), (r0, aI L 26 b0), (r1, aI L 26 (pm_own b1 b0 pt n)), (ho, .inr (1, [.ref di, .int (z_i us), .ref bo, .int (z_i pl), .int (z_i ct)])), (di, aI L 7 dice), (rx, .inr (2, [.ref kn])), (kn, aL L 225 kno)]) [0, 1, 6, 7, 9, 8, 2, 3, 4, 5] rfl rfl ?_
                exact J_zreturn E F (b2_01 _) (by rw [m_place_1 h4 ⟨by omega, by omega⟩ ⟨by omega, by omega⟩]) (by rw [m_place_1 h4 ⟨by omega, by omega⟩ ⟨by omega, by omega⟩]; exact ⟨us, pl, ct, dice, kno, ⟨hH.1, fun z => absurd (h4.symm.trans z) (by decide)⟩, hmm, rfl⟩) d_T_place_49
            · refine J_iconst E d_T_place_37 ?_
              exact J_zreturn E F (by omega) (by rw [m_place_f (by omega)]) (by rw [m_place_f (by omega)]; exact ⟨us, pl, ct, dice, kno, hH, hmm, rfl⟩) d_T_place_38
        · refine J_iconst E d_T_place_25 ?_
          exact J_zreturn E F (by omega) (by rw [m_place_f (by omega)]) (by rw [m_place_f (by omega)]; exact ⟨us, pl, ct, dice, kno, hH, hmm, rfl⟩) d_T_place_26
set_option maxHeartbeats 4000000 in
set_option maxRecDepth 100000 in
theorem c_T_left (L : Lx) (tm sc bo ra r0 r1 ho di rx kn : Nat) (gr : Nat → Option Nat) (len stg mv stk hol cn cs : Int) (sco b0 b1 : Int → Int) (us pl ct : Int) (dice kno : Int → Int) (hi lo hs ls : Int) (d : Int) (g0 : gr 0 = some r0) (g1 : gr 1 = some r1) (hS : st_ok (len, stg, mv, stk, hol, cn, cs, sco, b0, b1, hi, lo, hs, ls)) (hH : hd_ok stg mv b0 b1 hi lo hs ls dice us pl ct) (hmm : mm_ok kno) (hd : z_r d) : CtG L y_T_left b_T_left 2 (some .int) (rmh 2) false 0 0 [.ref tm, .int (z_i d)] [(tm, .inr (3, [.int (z_i len), .ref sc, .ref bo, .ref ho, .ref rx, .int (z_i stg), .int (z_i mv), .int (z_i stk), .int (z_i hol), .int (z_i cn), .int (z_i cs)])), (sc, aI L 2 sco), (bo, .inr (0, [.ref ra])), (ra, aR L 2 gr), (r0, aI L 26 b0), (r1, aI L 26 b1), (ho, .inr (1, [.ref di, .int (z_i us), .ref bo, .int (z_i pl), .int (z_i ct)])), (di, aI L 7 dice), (rx, .inr (2, [.ref kn])), (kn, aL L 225 kno)] (RC L tm sc bo ra r0 r1 ho di rx kn gr (len, stg, mv, stk, hol, cn, cs, sco, b0, b1, hi, lo, hs, ls)) (some (.int (z_i (m_left (len, stg, mv, stk, hol, cn, cs, sco, b0, b1, hi, lo, hs, ls) d)))) := by
  obtain ⟨hlen, hstg, hmv, hstk, hhol, hcn, hcs, hsc, hsl, hb0, hb1, hdk⟩ := hS
  refine CtG.of rfl (Nat.le_of_ble_eq_true rfl) (fun X E F => ?_)
  show J L X 2 0 0 [(tm, .inr (3, [.int (z_i len), .ref sc, .ref bo, .ref ho, .ref rx, .int (z_i stg), .int (z_i mv), .int (z_i stk), .int (z_i hol), .int (z_i cn), .int (z_i cs)])), (sc, aI L 2 sco), (bo, .inr (0, [.ref ra])), (ra, aR L 2 gr), (r0, aI L 26 b0), (r1, aI L 26 b1), (ho, .inr (1, [.ref di, .int (z_i us), .ref bo, .int (z_i pl), .int (z_i ct)])), (di, aI L 7 dice), (rx, .inr (2, [.ref kn])), (kn, aL L 225 kno)] [(0, .ref tm), (1, .int (z_i d))] [] 0
  refine J_aload_n E 0 d_T_left_0 rfl rfl ?_
  refine g_T_52 E 0 rfl rfl d_T_left_1 ?_
  refine J_iconst E d_T_left_4 ?_
  refine J_icmp_ne E 27 d_T_left_5 (by decide) (by exact ⟨⟨by omega, by omega⟩, ⟨by omega, by omega⟩⟩) (fun h5 => ?_) (fun h5 => ?_)
  · refine J_iconst E d_T_left_27 ?_
    exact J_ireturn E F (if_neg (by omega)).symm ⟨us, pl, ct, dice, kno, hH, hmm, rfl⟩ d_T_left_28
  · refine J_iload_n E 1 d_T_left_8 rfl rfl ?_
    refine J_callS (wr := [(tm, .inr (3, [.int (z_i len), .ref sc, .ref bo, .ref ho, .ref rx, .int (z_i stg), .int (z_i mv), .int (z_i stk), .int (z_i hol), .int (z_i cn), .int (z_i cs)])), (sc, aI L 2 sco), (bo, .inr (0, [.ref ra])), (ra, aR L 2 gr), (r0, aI L 26 b0), (r1, aI L 26 b1), (ho, .inr (1, [.ref di, .int (z_i us), .ref bo, .int (z_i pl), .int (z_i ct)])), (di, aI L 7 dice), (rx, .inr (2, [.ref kn])), (kn, aL L 225 kno)]) (rest := []) E kb_T_isNumber t_1_133 t_1_134 (c_T_isNumber L d hd) (fun h => h) (Rm_h (by decide) (by decide)) [] [0, 1, 2, 3, 4, 5, 6, 7, 8, 9] rfl rfl rfl rfl (by decide) rfl rfl (Nat.le_of_ble_eq_true rfl) d_T_left_9 (fun w' hw => ?_)
    obtain rfl : w' = [] := hw
    show J L X 2 0 0 [(tm, .inr (3, [.int (z_i len), .ref sc, .ref bo, .ref ho, .ref rx, .int (z_i stg), .int (z_i mv), .int (z_i stk), .int (z_i hol), .int (z_i cn), .int (z_i cs)])), (sc, aI L 2 sco), (bo, .inr (0, [.ref ra])), (ra, aR L 2 gr), (r0, aI L 26 b0), (r1, aI L 26 b1), (ho, .inr (1, [.ref di, .int (z_i us), .ref bo, .int (z_i pl), .int (z_i ct)])), (di, aI L 7 dice), (rx, .inr (2, [.ref kn])), (kn, aL L 225 kno)] [(0, .ref tm), (1, .int (z_i d))] [.int (z_i (b2 (1 ≤ d ∧ d ≤ 6)))] 12
    refine J_if_eq E 27 d_T_left_12 (by decide) (b2_r _) (fun h12 => ?_) (fun h12 => ?_)
    · have hdd := b2_not h12
      refine J_iconst E d_T_left_27 ?_
      exact J_ireturn E F (if_neg (by omega)).symm ⟨us, pl, ct, dice, kno, hH, hmm, rfl⟩ d_T_left_28
    · have hdd := b2_of h12
      refine J_aload_n E 0 d_T_left_15 rfl rfl ?_
      refine g_T_25 E 0 rfl rfl d_T_left_16 ?_
      refine g_T_90 E 6 rfl rfl d_T_left_19 ?_
      refine J_iload_n E 1 d_T_left_22 rfl rfl ?_
      refine J_iald E 7 rfl (by decide) (by exact ⟨by omega, by omega⟩) d_T_left_23 ?_
      refine J_goto E 28 d_T_left_24 (by decide) ?_
      exact J_ireturn E F (by rw [(hH.2 h5).2.2.2 d hdd.1 hdd.2]; exact (if_pos ⟨h5, hdd⟩).symm) ⟨us, pl, ct, dice, kno, hH, hmm, rfl⟩ d_T_left_28
set_option maxHeartbeats 4000000 in
set_option maxRecDepth 100000 in
theorem c_T_offer (L : Lx) (tm sc bo ra r0 r1 ho di rx kn : Nat) (gr : Nat → Option Nat) (len stg mv stk hol cn cs : Int) (sco b0 b1 : Int → Int) (us pl ct : Int) (dice kno : Int → Int) (hi lo hs ls : Int)  (g0 : gr 0 = some r0) (g1 : gr 1 = some r1) (hS : st_ok (len, stg, mv, stk, hol, cn, cs, sco, b0, b1, hi, lo, hs, ls)) (hH : hd_ok stg mv b0 b1 hi lo hs ls dice us pl ct) (hmm : mm_ok kno) : CtG L y_T_offer b_T_offer 1 (some .boolean) (rmh 1) false 0 0 [.ref tm] [(tm, .inr (3, [.int (z_i len), .ref sc, .ref bo, .ref ho, .ref rx, .int (z_i stg), .int (z_i mv), .int (z_i stk), .int (z_i hol), .int (z_i cn), .int (z_i cs)])), (sc, aI L 2 sco), (bo, .inr (0, [.ref ra])), (ra, aR L 2 gr), (r0, aI L 26 b0), (r1, aI L 26 b1), (ho, .inr (1, [.ref di, .int (z_i us), .ref bo, .int (z_i pl), .int (z_i ct)])), (di, aI L 7 dice), (rx, .inr (2, [.ref kn])), (kn, aL L 225 kno)] (RC L tm sc bo ra r0 r1 ho di rx kn gr (m_offer (len, stg, mv, stk, hol, cn, cs, sco, b0, b1, hi, lo, hs, ls)).2) (some (.int (z_i ((m_offer (len, stg, mv, stk, hol, cn, cs, sco, b0, b1, hi, lo, hs, ls)).1)))) := by
  obtain ⟨hlen, hstg, hmv, hstk, hhol, hcn, hcs, hsc, hsl, hb0, hb1, hdk⟩ := hS
  refine CtG.of rfl (Nat.le_of_ble_eq_true rfl) (fun X E F => ?_)
  show J L X 1 0 0 [(tm, .inr (3, [.int (z_i len), .ref sc, .ref bo, .ref ho, .ref rx, .int (z_i stg), .int (z_i mv), .int (z_i stk), .int (z_i hol), .int (z_i cn), .int (z_i cs)])), (sc, aI L 2 sco), (bo, .inr (0, [.ref ra])), (ra, aR L 2 gr), (r0, aI L 26 b0), (r1, aI L 26 b1), (ho, .inr (1, [.ref di, .int (z_i us), .ref bo, .int (z_i pl), .int (z_i ct)])), (di, aI L 7 dice), (rx, .inr (2, [.ref kn])), (kn, aL L 225 kno)] [(0, .ref tm)] [] 0
  refine J_aload_n E 0 d_T_offer_0 rfl rfl ?_
  refine g_T_52 E 0 rfl rfl d_T_offer_1 ?_
  refine J_iconst E d_T_offer_4 ?_
  refine J_icmp_ne E 37 d_T_offer_5 (by decide) (by exact ⟨⟨by omega, by omega⟩, ⟨by omega, by omega⟩⟩) (fun h5 => ?_) (fun h5 => ?_)
  · refine J_iconst E d_T_offer_37 ?_
    exact J_zreturn E F (by omega) (by rw [m_offer_f (by omega)]) (by rw [m_offer_f (by omega)]; exact ⟨us, pl, ct, dice, kno, hH, hmm, rfl⟩) d_T_offer_38
  · refine J_aload_n E 0 d_T_offer_8 rfl rfl ?_
    refine g_T_93 E 0 rfl rfl d_T_offer_9 ?_
    refine J_if_ne E 37 d_T_offer_12 (by decide) (by exact ⟨by omega, by omega⟩) (fun h12 => ?_) (fun h12 => ?_)
    · refine J_iconst E d_T_offer_37 ?_
      exact J_zreturn E F (by omega) (by rw [m_offer_f (by omega)]) (by rw [m_offer_f (by omega)]; exact ⟨us, pl, ct, dice, kno, hH, hmm, rfl⟩) d_T_offer_38
    · refine J_aload_n E 0 d_T_offer_15 rfl rfl ?_
      refine g_T_97 E 0 rfl rfl d_T_offer_16 ?_
      refine J_bipush E d_T_offer_19 (by decide) ?_
      refine J_icmp_ge E 37 d_T_offer_21 (by decide) (by exact ⟨⟨by omega, by omega⟩, ⟨by omega, by omega⟩⟩) (fun h21 => ?_) (fun h21 => ?_)
      · refine J_iconst E d_T_offer_37 ?_
        exact J_zreturn E F (by omega) (by rw [m_offer_f (by omega)]) (by rw [m_offer_f (by omega)]; exact ⟨us, pl, ct, dice, kno, hH, hmm, rfl⟩) d_T_offer_38
      · refine J_aload_n E 0 d_T_offer_24 rfl rfl ?_
        refine g_T_100 E 0 rfl rfl d_T_offer_25 ?_
        refine J_iconst E d_T_offer_28 ?_
        refine J_aload_n E 0 d_T_offer_29 rfl rfl ?_
        refine g_T_66 E 0 rfl rfl d_T_offer_30 ?_
        refine J_isub E d_T_offer_33 ?_
        refine J_icmp_ne E 39 d_T_offer_34 (by decide) (by exact ⟨⟨by omega, by omega⟩, ⟨by omega, by omega⟩⟩) (fun h34 => ?_) (fun h34 => ?_)
        · refine J_aload_n E 0 d_T_offer_39 rfl rfl ?_
          refine J_iconst E d_T_offer_40 ?_
          refine p_T_52 E 0 [(tm, .inr (3, [.int (z_i len), .ref sc, .ref bo, .ref ho, .ref rx, .int (z_i 3), .int (z_i mv), .int (z_i stk), .int (z_i hol), .int (z_i cn), .int (z_i cs)])), (sc, aI L 2 sco), (bo, .inr (0, [.ref ra])), (ra, aR L 2 gr), (r0, aI L 26 b0), (r1, aI L 26 b1), (ho, .inr (1, [.ref di, .int (z_i us), .ref bo, .int (z_i pl), .int (z_i ct)])), (di, aI L 7 dice), (rx, .inr (2, [.ref kn])), (kn, aL L 225 kno)] rfl rfl (Nat.le_of_ble_eq_true rfl) d_T_offer_41 ?_
          refine J_iconst E d_T_offer_44 ?_
          exact J_zreturn E F (by omega) (by rw [m_offer_t (by omega)]) (by rw [m_offer_t (by omega)]; exact ⟨us, pl, ct, dice, kno, ⟨hH.1, fun z => absurd z (by decide)⟩, hmm, rfl⟩) d_T_offer_45
        · refine J_iconst E d_T_offer_37 ?_
          exact J_zreturn E F (by omega) (by rw [m_offer_f (by omega)]) (by rw [m_offer_f (by omega)]; exact ⟨us, pl, ct, dice, kno, hH, hmm, rfl⟩) d_T_offer_38
set_option maxHeartbeats 4000000 in
set_option maxRecDepth 100000 in
theorem c_T_answer (L : Lx) (tm sc bo ra r0 r1 ho di rx kn : Nat) (gr : Nat → Option Nat) (len stg mv stk hol cn cs : Int) (sco b0 b1 : Int → Int) (us pl ct : Int) (dice kno : Int → Int) (hi lo hs ls : Int) (t : Int) (g0 : gr 0 = some r0) (g1 : gr 1 = some r1) (hS : st_ok (len, stg, mv, stk, hol, cn, cs, sco, b0, b1, hi, lo, hs, ls)) (hH : hd_ok stg mv b0 b1 hi lo hs ls dice us pl ct) (hmm : mm_ok kno) (ht : z_r t) : CtG L y_T_answer b_T_answer 2 (some .int) (rmh 5) true 0 0 [.ref tm, .int (z_i t)] [(tm, .inr (3, [.int (z_i len), .ref sc, .ref bo, .ref ho, .ref rx, .int (z_i stg), .int (z_i mv), .int (z_i stk), .int (z_i hol), .int (z_i cn), .int (z_i cs)])), (sc, aI L 2 sco), (bo, .inr (0, [.ref ra])), (ra, aR L 2 gr), (r0, aI L 26 b0), (r1, aI L 26 b1), (ho, .inr (1, [.ref di, .int (z_i us), .ref bo, .int (z_i pl), .int (z_i ct)])), (di, aI L 7 dice), (rx, .inr (2, [.ref kn])), (kn, aL L 225 kno)] (RC L tm sc bo ra r0 r1 ho di rx kn gr (m_answer (len, stg, mv, stk, hol, cn, cs, sco, b0, b1, hi, lo, hs, ls) t).2) (some (.int (z_i ((m_answer (len, stg, mv, stk, hol, cn, cs, sco, b0, b1, hi, lo, hs, ls) t).1)))) := by
  obtain ⟨hlen, hstg, hmv, hstk, hhol, hcn, hcs, hsc, hsl, hb0, hb1, hdk⟩ := hS
  refine CtG.of rfl (Nat.le_of_ble_eq_true rfl) (fun X E F => ?_)
  show J L X 2 0 0 [(tm, .inr (3, [.int (z_i len), .ref sc, .ref bo, .ref ho, .ref rx, .int (z_i stg), .int (z_i mv), .int (z_i stk), .int (z_i hol), .int (z_i cn), .int (z_i cs)])), (sc, aI L 2 sco), (bo, .inr (0, [.ref ra])), (ra, aR L 2 gr), (r0, aI L 26 b0), (r1, aI L 26 b1), (ho, .inr (1, [.ref di, .int (z_i us), .ref bo, .int (z_i pl), .int (z_i ct)])), (di, aI L 7 dice), (rx, .inr (2, [.ref kn])), (kn, aL L 225 kno)] [(0, .ref tm), (1, .int (z_i t))] [] 0
  refine J_aload_n E 0 d_T_answer_0 rfl rfl ?_
  refine g_T_52 E 0 rfl rfl d_T_answer_1 ?_
  refine J_iconst E d_T_answer_4 ?_
  refine J_icmp_eq E 10 d_T_answer_5 (by decide) (by exact ⟨⟨by omega, by omega⟩, ⟨by omega, by omega⟩⟩) (fun h5 => ?_) (fun h5 => ?_)
  · subst h5
    refine J_iload_n E 1 d_T_answer_10 rfl rfl ?_
    refine J_if_ne E 23 d_T_answer_11 (by decide) (by exact ⟨by omega, by omega⟩) (fun h11 => ?_) (fun h11 => ?_)
    · refine J_aload_n E 0 d_T_answer_23 rfl rfl ?_
      refine J_dup E d_T_answer_24 rfl ?_
      refine g_T_97 E 0 rfl rfl d_T_answer_25 ?_
      refine J_iconst E d_T_answer_28 ?_
      refine J_imul E d_T_answer_29 ?_
      refine p_T_97 E 0 [(tm, .inr (3, [.int (z_i len), .ref sc, .ref bo, .ref ho, .ref rx, .int (z_i 3), .int (z_i mv), .int (z_i (stk * 2)), .int (z_i hol), .int (z_i cn), .int (z_i cs)])), (sc, aI L 2 sco), (bo, .inr (0, [.ref ra])), (ra, aR L 2 gr), (r0, aI L 26 b0), (r1, aI L 26 b1), (ho, .inr (1, [.ref di, .int (z_i us), .ref bo, .int (z_i pl), .int (z_i ct)])), (di, aI L 7 dice), (rx, .inr (2, [.ref kn])), (kn, aL L 225 kno)] rfl rfl (Nat.le_of_ble_eq_true rfl) d_T_answer_30 ?_
      refine J_aload_n E 0 d_T_answer_33 rfl rfl ?_
      refine J_iconst E d_T_answer_34 ?_
      refine J_aload_n E 0 d_T_answer_35 rfl rfl ?_
      refine g_T_66 E 0 rfl rfl d_T_answer_36 ?_
      refine J_isub E d_T_answer_39 ?_
      refine p_T_100 E 0 [(tm, .inr (3, [.int (z_i len), .ref sc, .ref bo, .ref ho, .ref rx, .int (z_i 3), .int (z_i mv), .int (z_i (stk * 2)), .int (z_i (1 - mv)), .int (z_i cn), .int (z_i cs)])), (sc, aI L 2 sco), (bo, .inr (0, [.ref ra])), (ra, aR L 2 gr), (r0, aI L 26 b0), (r1, aI L 26 b1), (ho, .inr (1, [.ref di, .int (z_i us), .ref bo, .int (z_i pl), .int (z_i ct)])), (di, aI L 7 dice), (rx, .inr (2, [.ref kn])), (kn, aL L 225 kno)] rfl rfl (Nat.le_of_ble_eq_true rfl) d_T_answer_40 ?_
      refine J_aload_n E 0 d_T_answer_43 rfl rfl ?_
      refine J_iconst E d_T_answer_44 ?_
      refine p_T_52 E 0 [(tm, .inr (3, [.int (z_i len), .ref sc, .ref bo, .ref ho, .ref rx, .int (z_i 1), .int (z_i mv), .int (z_i (stk * 2)), .int (z_i (1 - mv)), .int (z_i cn), .int (z_i cs)])), (sc, aI L 2 sco), (bo, .inr (0, [.ref ra])), (ra, aR L 2 gr), (r0, aI L 26 b0), (r1, aI L 26 b1), (ho, .inr (1, [.ref di, .int (z_i us), .ref bo, .int (z_i pl), .int (z_i ct)])), (di, aI L 7 dice), (rx, .inr (2, [.ref kn])), (kn, aL L 225 kno)] rfl rfl (Nat.le_of_ble_eq_true rfl) d_T_answer_45 ?_
      refine J_iconst E d_T_answer_48 ?_
      exact J_ireturn E F (by rw [m_answer_t h11]) (by rw [m_answer_t h11]; exact ⟨us, pl, ct, dice, kno, ⟨hH.1, fun z => absurd z (by decide)⟩, hmm, rfl⟩) d_T_answer_49
    · refine J_aload_n E 0 d_T_answer_14 rfl rfl ?_
      refine J_aload_n E 0 d_T_answer_15 rfl rfl ?_
      refine g_T_97 E 0 rfl rfl d_T_answer_16 ?_
      refine J_callV (wr := []) (rest := []) E kb_T_winGame t_1_204 t_1_206 ts_T_winGame (c_T_winGame L tm sc bo ra r0 r1 ho di rx kn gr len 3 mv stk hol cn cs sco b0 b1 us pl ct dice kno stk g0 g1 hb0.2.1 hb1.2.1 hlen hmv hcs hsc ⟨by omega, by omega⟩) (fun _ => rfl) (Rm_h (by decide) (by decide)) [0, 1, 2, 3, 4, 5, 6, 7, 8, 9] [] rfl rfl rfl rfl (by decide) 0 rfl rfl rfl rfl (Nat.le_of_ble_eq_true rfl) d_T_answer_19 (fun w' hw => ?_)
      replace hw : (fun u => (len ≤ ((sco mv) + stk) ∧ u = [(tm, .inr (3, [.int (z_i len), .ref sc, .ref bo, .ref ho, .ref rx, .int (z_i 4), .int (z_i mv), .int (z_i stk), .int (z_i hol), .int (z_i 0), .int (z_i cs)])), (sc, aI L 2 (z_u sco mv ((sco mv) + stk))), (bo, .inr (0, [.ref ra])), (ra, aR L 2 gr), (r0, aI L 26 b0), (r1, aI L 26 b1), (ho, .inr (1, [.ref di, .int (z_i us), .ref bo, .int (z_i pl), .int (z_i ct)])), (di, aI L 7 dice), (rx, .inr (2, [.ref kn])), (kn, aL L 225 kno)]) ∨ (((sco mv) + stk) < len ∧ u = [(tm, .inr (3, [.int (z_i len), .ref sc, .ref bo, .ref ho, .ref rx, .int (z_i 0), .int (z_i mv), .int (z_i 1), .int (z_i (-1)), .int (z_i (wn_c cs ((sco mv) + stk) len)), .int (z_i (wn_s cs ((sco mv) + stk) len))])), (sc, aI L 2 (z_u sco mv ((sco mv) + stk))), (bo, .inr (0, [.ref ra])), (ra, aR L 2 gr), (r0, aI L 26 st_men), (r1, aI L 26 st_men), (ho, .inr (1, [.ref di, .int (z_i us), .ref bo, .int (z_i pl), .int (z_i ct)])), (di, aI L 7 dice), (rx, .inr (2, [.ref kn])), (kn, aL L 225 kno)])) w' := hw
      rcases hw with ⟨hle, rfl⟩ | ⟨hle, rfl⟩
      · show J L X 2 0 0 [(tm, .inr (3, [.int (z_i len), .ref sc, .ref bo, .ref ho, .ref rx, .int (z_i 4), .int (z_i mv), .int (z_i stk), .int (z_i hol), .int (z_i 0), .int (z_i cs)])), (sc, aI L 2 (z_u sco mv ((sco mv) + stk))), (bo, .inr (0, [.ref ra])), (ra, aR L 2 gr), (r0, aI L 26 b0), (r1, aI L 26 b1), (ho, .inr (1, [.ref di, .int (z_i us), .ref bo, .int (z_i pl), .int (z_i ct)])), (di, aI L 7 dice), (rx, .inr (2, [.ref kn])), (kn, aL L 225 kno)] [(0, .ref tm), (1, .int (z_i t))] [.int (z_i (10 * stk))] 22
        exact J_ireturn E F (by rw [m_answer_f h11, m_win_a hle]) (by rw [m_answer_f h11, m_win_a hle]; exact ⟨us, pl, ct, dice, kno, ⟨hH.1, fun z => absurd z (by decide)⟩, hmm, rfl⟩) d_T_answer_22
      · show J L X 2 0 0 [(tm, .inr (3, [.int (z_i len), .ref sc, .ref bo, .ref ho, .ref rx, .int (z_i 0), .int (z_i mv), .int (z_i 1), .int (z_i (-1)), .int (z_i (wn_c cs ((sco mv) + stk) len)), .int (z_i (wn_s cs ((sco mv) + stk) len))])), (sc, aI L 2 (z_u sco mv ((sco mv) + stk))), (bo, .inr (0, [.ref ra])), (ra, aR L 2 gr), (r0, aI L 26 st_men), (r1, aI L 26 st_men), (ho, .inr (1, [.ref di, .int (z_i us), .ref bo, .int (z_i pl), .int (z_i ct)])), (di, aI L 7 dice), (rx, .inr (2, [.ref kn])), (kn, aL L 225 kno)] [(0, .ref tm), (1, .int (z_i t))] [.int (z_i (10 * stk))] 22
        exact J_ireturn E F (by rw [m_answer_f h11, m_win_b hle]) (by rw [m_answer_f h11, m_win_b hle]; exact ⟨us, pl, ct, dice, kno, ⟨hH.1, fun z => absurd z (by decide)⟩, hmm, rfl⟩) d_T_answer_22
  · refine J_iconst E d_T_answer_8 ?_
    exact J_ireturn E F (by rw [m_answer_o h5]) (by rw [m_answer_o h5]; exact ⟨us, pl, ct, dice, kno, hH, hmm, rfl⟩) d_T_answer_9
theorem c_T_move (L : Lx) (tm sc bo ra r0 r1 ho di rx kn : Nat) (gr : Nat → Option Nat) (len stg mv stk hol cn cs : Int) (sco b0 b1 : Int → Int) (us pl ct : Int) (dice kno : Int → Int) (hi lo hs ls : Int) (f d : Int) (g0 : gr 0 = some r0) (g1 : gr 1 = some r1) (hS : st_ok (len, stg, mv, stk, hol, cn, cs, sco, b0, b1, hi, lo, hs, ls)) (hH : hd_ok stg mv b0 b1 hi lo hs ls dice us pl ct) (hmm : mm_ok kno) (hf : z_r f) (hd : z_r d) : CtG L y_T_move b_T_move 3 (some .int) (rmh 13) true 0 0 [.ref tm, .int (z_i f), .int (z_i d)] [(tm, .inr (3, [.int (z_i len), .ref sc, .ref bo, .ref ho, .ref rx, .int (z_i stg), .int (z_i mv), .int (z_i stk), .int (z_i hol), .int (z_i cn), .int (z_i cs)])), (sc, aI L 2 sco), (bo, .inr (0, [.ref ra])), (ra, aR L 2 gr), (r0, aI L 26 b0), (r1, aI L 26 b1), (ho, .inr (1, [.ref di, .int (z_i us), .ref bo, .int (z_i pl), .int (z_i ct)])), (di, aI L 7 dice), (rx, .inr (2, [.ref kn])), (kn, aL L 225 kno)] (RC L tm sc bo ra r0 r1 ho di rx kn gr (m_move (len, stg, mv, stk, hol, cn, cs, sco, b0, b1, hi, lo, hs, ls) f d).2) (some (.int (z_i (m_move (len, stg, mv, stk, hol, cn, cs, sco, b0, b1, hi, lo, hs, ls) f d).1))) := by
  rcases hS.2.2.1 with e | e
  · subst e
    exact c_T_move_0 L tm sc bo ra r0 r1 ho di rx kn gr len stg stk hol cn cs sco b0 b1 us pl ct dice kno hi lo hs ls f d g0 g1 hS hH hmm hf hd
  · subst e
    exact c_T_move_1 L tm sc bo ra r0 r1 ho di rx kn gr len stg stk hol cn cs sco b0 b1 us pl ct dice kno hi lo hs ls f d g0 g1 hS hH hmm hf hd
theorem c_T_step (L : Lx) (tm sc bo ra r0 r1 ho di rx kn : Nat) (gr : Nat → Option Nat) (len stg mv stk hol cn cs : Int) (sco b0 b1 : Int → Int) (us pl ct : Int) (dice kno : Int → Int) (hi lo hs ls : Int) (k : Int) (g0 : gr 0 = some r0) (g1 : gr 1 = some r1) (hS : st_ok (len, stg, mv, stk, hol, cn, cs, sco, b0, b1, hi, lo, hs, ls)) (hH : hd_ok stg mv b0 b1 hi lo hs ls dice us pl ct) (hmm : mm_ok kno) (hkk : z_r k) : CtG L y_T_step b_T_step 5 (some .int) (rmh 13) true 0 0 [.ref tm, .int (z_i k)] [(tm, .inr (3, [.int (z_i len), .ref sc, .ref bo, .ref ho, .ref rx, .int (z_i stg), .int (z_i mv), .int (z_i stk), .int (z_i hol), .int (z_i cn), .int (z_i cs)])), (sc, aI L 2 sco), (bo, .inr (0, [.ref ra])), (ra, aR L 2 gr), (r0, aI L 26 b0), (r1, aI L 26 b1), (ho, .inr (1, [.ref di, .int (z_i us), .ref bo, .int (z_i pl), .int (z_i ct)])), (di, aI L 7 dice), (rx, .inr (2, [.ref kn])), (kn, aL L 225 kno)] (RC L tm sc bo ra r0 r1 ho di rx kn gr (m_step (len, stg, mv, stk, hol, cn, cs, sco, b0, b1, hi, lo, hs, ls) k).2) (some (.int (z_i (m_step (len, stg, mv, stk, hol, cn, cs, sco, b0, b1, hi, lo, hs, ls) k).1))) := by
  rcases hS.2.2.1 with e | e
  · subst e
    exact c_T_step_0 L tm sc bo ra r0 r1 ho di rx kn gr len stg stk hol cn cs sco b0 b1 us pl ct dice kno hi lo hs ls k g0 g1 hS hH hmm hkk
  · subst e
    exact c_T_step_1 L tm sc bo ra r0 r1 ho di rx kn gr len stg stk hol cn cs sco b0 b1 us pl ct dice kno hi lo hs ls k g0 g1 hS hH hmm hkk
theorem c_T_roll (L : Lx) (tm sc bo ra r0 r1 ho di rx kn : Nat) (gr : Nat → Option Nat) (len stg mv stk hol cn cs : Int) (sco b0 b1 : Int → Int) (us pl ct : Int) (dice kno : Int → Int) (hi lo hs ls : Int) (a b : Int) (g0 : gr 0 = some r0) (g1 : gr 1 = some r1) (hS : st_ok (len, stg, mv, stk, hol, cn, cs, sco, b0, b1, hi, lo, hs, ls)) (hH : hd_ok stg mv b0 b1 hi lo hs ls dice us pl ct) (hmm : mm_ok kno) (ha : z_r a) (hb : z_r b) : CtG L y_T_roll b_T_roll 3 (some .int) (rmh 13) false 0 0 [.ref tm, .int (z_i a), .int (z_i b)] [(tm, .inr (3, [.int (z_i len), .ref sc, .ref bo, .ref ho, .ref rx, .int (z_i stg), .int (z_i mv), .int (z_i stk), .int (z_i hol), .int (z_i cn), .int (z_i cs)])), (sc, aI L 2 sco), (bo, .inr (0, [.ref ra])), (ra, aR L 2 gr), (r0, aI L 26 b0), (r1, aI L 26 b1), (ho, .inr (1, [.ref di, .int (z_i us), .ref bo, .int (z_i pl), .int (z_i ct)])), (di, aI L 7 dice), (rx, .inr (2, [.ref kn])), (kn, aL L 225 kno)] (RC L tm sc bo ra r0 r1 ho di rx kn gr (m_roll (len, stg, mv, stk, hol, cn, cs, sco, b0, b1, hi, lo, hs, ls) a b).2) (some (.int (z_i (m_roll (len, stg, mv, stk, hol, cn, cs, sco, b0, b1, hi, lo, hs, ls) a b).1))) := by
  rcases hS.2.2.1 with e | e
  · subst e
    exact c_T_roll_0 L tm sc bo ra r0 r1 ho di rx kn gr len stg stk hol cn cs sco b0 b1 us pl ct dice kno hi lo hs ls a b g0 g1 hS hH hmm ha hb
  · subst e
    exact c_T_roll_1 L tm sc bo ra r0 r1 ho di rx kn gr len stg stk hol cn cs sco b0 b1 us pl ct dice kno hi lo hs ls a b g0 g1 hS hH hmm ha hb
theorem c_T_ways (L : Lx) (tm sc bo ra r0 r1 ho di rx kn : Nat) (gr : Nat → Option Nat) (len stg mv stk hol cn cs : Int) (sco b0 b1 : Int → Int) (us pl ct : Int) (dice kno : Int → Int) (hi lo hs ls : Int) (g0 : gr 0 = some r0) (g1 : gr 1 = some r1) (hS : st_ok (len, stg, mv, stk, hol, cn, cs, sco, b0, b1, hi, lo, hs, ls)) (hH : hd_ok stg mv b0 b1 hi lo hs ls dice us pl ct) (hmm : mm_ok kno) : CtG L y_T_ways b_T_ways 1 (some .int) (rmh 14) false 0 0 [.ref tm] [(tm, .inr (3, [.int (z_i len), .ref sc, .ref bo, .ref ho, .ref rx, .int (z_i stg), .int (z_i mv), .int (z_i stk), .int (z_i hol), .int (z_i cn), .int (z_i cs)])), (sc, aI L 2 sco), (bo, .inr (0, [.ref ra])), (ra, aR L 2 gr), (r0, aI L 26 b0), (r1, aI L 26 b1), (ho, .inr (1, [.ref di, .int (z_i us), .ref bo, .int (z_i pl), .int (z_i ct)])), (di, aI L 7 dice), (rx, .inr (2, [.ref kn])), (kn, aL L 225 kno)] (RC L tm sc bo ra r0 r1 ho di rx kn gr (len, stg, mv, stk, hol, cn, cs, sco, b0, b1, hi, lo, hs, ls)) (some (.int (z_i (m_ways (len, stg, mv, stk, hol, cn, cs, sco, b0, b1, hi, lo, hs, ls))))) := by
  rcases hS.2.2.1 with e | e
  · subst e
    exact c_T_ways_0 L tm sc bo ra r0 r1 ho di rx kn gr len stg stk hol cn cs sco b0 b1 us pl ct dice kno hi lo hs ls g0 g1 hS hH hmm
  · subst e
    exact c_T_ways_1 L tm sc bo ra r0 r1 ho di rx kn gr len stg stk hol cn cs sco b0 b1 us pl ct dice kno hi lo hs ls g0 g1 hS hH hmm
theorem c_T_due (L : Lx) (tm sc bo ra r0 r1 ho di rx kn : Nat) (gr : Nat → Option Nat) (len stg mv stk hol cn cs : Int) (sco b0 b1 : Int → Int) (us pl ct : Int) (dice kno : Int → Int) (hi lo hs ls : Int) (g0 : gr 0 = some r0) (g1 : gr 1 = some r1) (hS : st_ok (len, stg, mv, stk, hol, cn, cs, sco, b0, b1, hi, lo, hs, ls)) (hH : hd_ok stg mv b0 b1 hi lo hs ls dice us pl ct) (hmm : mm_ok kno) : CtG L y_T_due b_T_due 1 (some .int) (rmh 1) false 0 0 [.ref tm] [(tm, .inr (3, [.int (z_i len), .ref sc, .ref bo, .ref ho, .ref rx, .int (z_i stg), .int (z_i mv), .int (z_i stk), .int (z_i hol), .int (z_i cn), .int (z_i cs)])), (sc, aI L 2 sco), (bo, .inr (0, [.ref ra])), (ra, aR L 2 gr), (r0, aI L 26 b0), (r1, aI L 26 b1), (ho, .inr (1, [.ref di, .int (z_i us), .ref bo, .int (z_i pl), .int (z_i ct)])), (di, aI L 7 dice), (rx, .inr (2, [.ref kn])), (kn, aL L 225 kno)] (RC L tm sc bo ra r0 r1 ho di rx kn gr (len, stg, mv, stk, hol, cn, cs, sco, b0, b1, hi, lo, hs, ls)) (some (.int (z_i (m_dueA (len, stg, mv, stk, hol, cn, cs, sco, b0, b1, hi, lo, hs, ls))))) := by
  rcases hS.2.2.1 with e | e
  · subst e
    exact c_T_due_0 L tm sc bo ra r0 r1 ho di rx kn gr len stg stk hol cn cs sco b0 b1 us pl ct dice kno hi lo hs ls g0 g1 hS hH hmm
  · subst e
    exact c_T_due_1 L tm sc bo ra r0 r1 ho di rx kn gr len stg stk hol cn cs sco b0 b1 us pl ct dice kno hi lo hs ls g0 g1 hS hH hmm
