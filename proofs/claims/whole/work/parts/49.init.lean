/-! THE CONSTRUCTORS -/
def rmc (h mc ms : Nat) : Room := { frames := h, locals := 40 * h, cells := mc, slots := ms }
theorem Rm_c {h c s h2 n mc ms ce sl : Nat} (h1 : h2 + 1 ≤ h) (hn : n ≤ 21) (hc : ce + mc ≤ c) (hs : sl + ms ≤ s) : Rm (rmc h c s) (rmc h2 mc ms) n mc ms ce sl := by
  refine ⟨rfl, rfl, h1, ?_, hc, hs⟩
  show 8 + (n + 11) + 40 * h2 ≤ 40 * h
  omega
theorem Rm_c0 {h c s h2 n ce sl : Nat} (h1 : h2 + 1 ≤ h) (hn : n ≤ 21) (hc : ce ≤ c) (hs : sl ≤ s) : Rm (rmc h c s) (rmh h2) n 0 0 ce sl := by
  refine ⟨rfl, rfl, h1, ?_, hc, hs⟩
  show 8 + (n + 11) + 40 * h2 ≤ 40 * h
  omega
def ini_l (len : Int) : Int := if len < 1 then 1 else if 25 < len then 25 else len
def ini (len : Int) : AS := (ini_l len, 0, 0, 1, -1, 0, 0, fun _ => 0, st_men, st_men, 0, 0, 0, 0)
theorem ini_mx (len : Int) : z_mx 1 (z_mn 25 len) = ini_l len := by
  have h1 := z_mn_is 25 len
  have h2 := z_mx_is 1 (z_mn 25 len)
  unfold ini_l
  split
  · omega
  · split <;> omega
theorem ini_l_is (len : Int) : (len < 1 ∧ ini_l len = 1) ∨ (25 < len ∧ ini_l len = 25) ∨ ((1 ≤ len ∧ len ≤ 25) ∧ ini_l len = len) := by
  unfold ini_l
  by_cases h : len < 1
  · exact Or.inl ⟨h, if_pos h⟩
  · by_cases g : 25 < len
    · exact Or.inr (Or.inl ⟨g, (if_neg h).trans (if_pos g)⟩)
    · exact Or.inr (Or.inr ⟨⟨by omega, by omega⟩, (if_neg h).trans (if_neg g)⟩)
theorem f0_b (m : Int) (hm : 0 ≤ m) (x : Int) : 0 ≤ (fun _ : Int => (0 : Int)) x ∧ (fun _ : Int => (0 : Int)) x ≤ m := ⟨Int.le_refl 0, hm⟩
theorem ini_ok (len : Int) : st_ok (ini len) := by
  have hl : 1 ≤ ini_l len ∧ ini_l len ≤ 25 := by unfold ini_l; split; omega; split <;> omega
  exact ⟨hl, ⟨by decide, by decide⟩, Or.inl rfl, ⟨by decide, by decide⟩, ⟨by decide, by decide⟩, Or.inl rfl, Or.inl rfl, f0_b 1000 (by decide), fun _ => ⟨(show 0 < ini_l len by omega), (show 0 < ini_l len by omega)⟩, st_men_ok, st_men_ok, fun h => absurd h (by decide)⟩
set_option maxHeartbeats 4000000 in
set_option maxRecDepth 100000 in
theorem c_B_init (L : Lx) (bo : Nat)  : CtG L y_B_init b_B_init 1 none (rmc 2 3 54) false 3 54 [.ref bo] [(bo, .inr (0, [.null]))] (fun u => ∃ (ra r0 r1 : Nat) (gr : Nat → Option Nat), gr 0 = some r0 ∧ gr 1 = some r1 ∧ u = [(bo, .inr (0, [.ref ra])), (ra, aR L 2 gr), (r0, aI L 26 (fun _ => 0)), (r1, aI L 26 (fun _ => 0))]) none := by
  refine CtG.of rfl (Nat.le_of_ble_eq_true rfl) (fun X E F => ?_)
  show J L X 1 0 0 [(bo, .inr (0, [.null]))] [(0, .ref bo)] [] 0
  refine J_aload_n E 0 d_B_init_0 rfl rfl ?_
  refine J_obj E t_1_21 ⟨Nat.le_of_ble_eq_true rfl, Nat.le_of_ble_eq_true rfl⟩ d_B_init_1 ?_
  refine J_aload_n E 0 d_B_init_4 rfl rfl ?_
  refine J_iconst E d_B_init_5 ?_
  refine J_bipush E d_B_init_6 (by decide) ?_
  refine J_mna E t_1_22 ⟨Nat.le_of_ble_eq_true rfl, Nat.le_of_ble_eq_true rfl⟩ d_B_init_8 (fun q => ?_)
  show J L X 1 3 54 [(bo, .inr (0, [.null])), (q, aR L 2 (fun i => if i < 2 then some (q + 1 + i) else none)), ((q + 1), aI L 26 (fun _ => 0)), ((q + 1 + 1), aI L 26 (fun _ => 0))] [(0, .ref bo)] [.ref q, .ref bo] 12
  refine p_B_11 E 0 [(bo, .inr (0, [.ref q])), (q, aR L 2 (fun i => if i < 2 then some (q + 1 + i) else none)), ((q + 1), aI L 26 (fun _ => 0)), ((q + 1 + 1), aI L 26 (fun _ => 0))] rfl rfl (Nat.le_of_ble_eq_true rfl) d_B_init_12 ?_
  exact J_return E F ⟨q, q + 1, q + 1 + 1, (fun i => if i < 2 then some (q + 1 + i) else none), rfl, rfl, rfl⟩ d_B_init_15
set_option maxHeartbeats 4000000 in
set_option maxRecDepth 100000 in
theorem c_H_init (L : Lx) (ho bo : Nat)  : CtG L y_H_init b_H_init 2 none (rmc 2 1 7) false 1 7 [.ref ho, .ref bo] [(ho, .inr (1, [.null, .int (z_i 0), .null, .int (z_i 0), .int (z_i 0)]))] (fun u => ∃ di : Nat, u = [(ho, .inr (1, [.ref di, .int (z_i 0), .ref bo, .int (z_i 0), .int (z_i 0)])), (di, aI L 7 (fun _ => 0))]) none := by
  refine CtG.of rfl (Nat.le_of_ble_eq_true rfl) (fun X E F => ?_)
  show J L X 2 0 0 [(ho, .inr (1, [.null, .int (z_i 0), .null, .int (z_i 0), .int (z_i 0)]))] [(0, .ref ho), (1, .ref bo)] [] 0
  refine J_aload_n E 0 d_H_init_0 rfl rfl ?_
  refine J_obj E t_1_35 ⟨Nat.le_of_ble_eq_true rfl, Nat.le_of_ble_eq_true rfl⟩ d_H_init_1 ?_
  refine J_aload_n E 0 d_H_init_4 rfl rfl ?_
  refine J_bipush E d_H_init_5 (by decide) ?_
  refine J_newI E 7 (by decide) (by decide) (by decide) ⟨Nat.le_of_ble_eq_true rfl, Nat.le_of_ble_eq_true rfl⟩ d_H_init_7 (fun q => ?_)
  show J L X 2 1 7 [(ho, .inr (1, [.null, .int (z_i 0), .null, .int (z_i 0), .int (z_i 0)])), (q, aI L 7 (fun _ => 0))] [(0, .ref ho), (1, .ref bo)] [.ref q, .ref ho] 9
  refine p_H_9 E 0 [(ho, .inr (1, [.ref q, .int (z_i 0), .null, .int (z_i 0), .int (z_i 0)])), (q, aI L 7 (fun _ => 0))] rfl rfl (Nat.le_of_ble_eq_true rfl) d_H_init_9 ?_
  refine J_aload_n E 0 d_H_init_12 rfl rfl ?_
  refine J_aload_n E 1 d_H_init_13 rfl rfl ?_
  refine p_H_15 E 0 [(ho, .inr (1, [.ref q, .int (z_i 0), .ref bo, .int (z_i 0), .int (z_i 0)])), (q, aI L 7 (fun _ => 0))] rfl rfl (Nat.le_of_ble_eq_true rfl) d_H_init_14 ?_
  exact J_return E F ⟨_, rfl⟩ d_H_init_17
set_option maxHeartbeats 4000000 in
set_option maxRecDepth 100000 in
theorem c_R_init (L : Lx) (rx : Nat)  : CtG L y_R_init b_R_init 1 none (rmc 2 1 225) false 1 225 [.ref rx] [(rx, .inr (2, [.null]))] (fun u => ∃ kn : Nat, u = [(rx, .inr (2, [.ref kn])), (kn, aL L 225 (fun _ => 0))]) none := by
  refine CtG.of rfl (Nat.le_of_ble_eq_true rfl) (fun X E F => ?_)
  show J L X 1 0 0 [(rx, .inr (2, [.null]))] [(0, .ref rx)] [] 0
  refine J_aload_n E 0 d_R_init_0 rfl rfl ?_
  refine J_obj E t_1_59 ⟨Nat.le_of_ble_eq_true rfl, Nat.le_of_ble_eq_true rfl⟩ d_R_init_1 ?_
  refine J_aload_n E 0 d_R_init_4 rfl rfl ?_
  refine J_sipush E d_R_init_5 (by decide) ?_
  refine J_newL E 225 (by decide) (by decide) (by decide) ⟨Nat.le_of_ble_eq_true rfl, Nat.le_of_ble_eq_true rfl⟩ d_R_init_8 (fun q => ?_)
  show J L X 1 1 225 [(rx, .inr (2, [.null])), (q, aL L 225 (fun _ => 0))] [(0, .ref rx)] [.ref q, .ref rx] 10
  refine p_R_11 E 0 [(rx, .inr (2, [.ref q])), (q, aL L 225 (fun _ => 0))] rfl rfl (Nat.le_of_ble_eq_true rfl) d_R_init_10 ?_
  exact J_return E F ⟨_, rfl⟩ d_R_init_13
set_option maxHeartbeats 4000000 in
set_option maxRecDepth 100000 in
theorem c_T_init (L : Lx) (tm : Nat) (len : Int) (hlen : z_r len) : CtG L y_T_init b_T_init 2 none (rmc 5 9 295) true 9 295 [.ref tm, .int (z_i len)] [(tm, .inr (3, [.int (z_i 0), .null, .null, .null, .null, .int (z_i 0), .int (z_i 0), .int (z_i 0), .int (z_i 0), .int (z_i 0), .int (z_i 0)]))] (fun u => ∃ (sc bo ra r0 r1 ho di rx kn : Nat) (gr : Nat → Option Nat), gr 0 = some r0 ∧ gr 1 = some r1 ∧ RC L tm sc bo ra r0 r1 ho di rx kn gr (ini len) u) none := by
  refine CtG.of rfl (Nat.le_of_ble_eq_true rfl) (fun X E F => ?_)
  show J L X 2 0 0 [(tm, .inr (3, [.int (z_i 0), .null, .null, .null, .null, .int (z_i 0), .int (z_i 0), .int (z_i 0), .int (z_i 0), .int (z_i 0), .int (z_i 0)]))] [(0, .ref tm), (1, .int (z_i len))] [] 0
  refine J_aload_n E 0 d_T_init_0 rfl rfl ?_
  refine J_obj E t_1_13 ⟨Nat.le_of_ble_eq_true rfl, Nat.le_of_ble_eq_true rfl⟩ d_T_init_1 ?_
  refine J_aload_n E 0 d_T_init_4 rfl rfl ?_
  refine J_iconst E d_T_init_5 ?_
  refine J_newI E 2 (by decide) (by decide) (by decide) ⟨Nat.le_of_ble_eq_true rfl, Nat.le_of_ble_eq_true rfl⟩ d_T_init_6 (fun sc => ?_)
  show J L X 2 1 2 [(tm, .inr (3, [.int (z_i 0), .null, .null, .null, .null, .int (z_i 0), .int (z_i 0), .int (z_i 0), .int (z_i 0), .int (z_i 0), .int (z_i 0)])), (sc, aI L 2 (fun _ => 0))] [(0, .ref tm), (1, .int (z_i len))] [.ref sc, .ref tm] 8
  refine p_T_7 E 0 [(tm, .inr (3, [.int (z_i 0), .ref sc, .null, .null, .null, .int (z_i 0), .int (z_i 0), .int (z_i 0), .int (z_i 0), .int (z_i 0), .int (z_i 0)])), (sc, aI L 2 (fun _ => 0))] rfl rfl (Nat.le_of_ble_eq_true rfl) d_T_init_8 ?_
  refine J_aload_n E 0 d_T_init_11 rfl rfl ?_
  refine J_new (ci := 0) (C := R_Bd) (T := F_Bd) (N := 1) E i_Bd ft_Bd_ok t_1_16 t_1_17 t_1_2 rfl [.null] (fun j hj => by rcases (show j = 0 by omega) with rfl <;> rfl) ⟨Nat.le_of_ble_eq_true rfl, Nat.le_of_ble_eq_true rfl⟩ d_T_init_12 (fun bo => ?_)
  show J L X 2 2 3 [(tm, .inr (3, [.int (z_i 0), .ref sc, .null, .null, .null, .int (z_i 0), .int (z_i 0), .int (z_i 0), .int (z_i 0), .int (z_i 0), .int (z_i 0)])), (sc, aI L 2 (fun _ => 0)), (bo, .inr (0, [.null]))] [(0, .ref tm), (1, .int (z_i len))] [.ref bo, .ref tm] 15
  refine J_dup E d_T_init_15 rfl ?_
  refine J_callIN (wr := [(tm, .inr (3, [.int (z_i 0), .ref sc, .null, .null, .null, .int (z_i 0), .int (z_i 0), .int (z_i 0), .int (z_i 0), .int (z_i 0), .int (z_i 0)])), (sc, aI L 2 (fun _ => 0))]) (rest := [.ref bo, .ref tm]) E kb_B_init t_1_18 t_1_19 rfl (c_B_init L bo) (fun _ => rfl) (Rm_c (by decide) (by decide) (Nat.le_of_ble_eq_true rfl) (Nat.le_of_ble_eq_true rfl)) [2] [0, 1] rfl rfl rfl rfl (by decide) rfl rfl (Nat.le_of_ble_eq_true rfl) d_T_init_16 (fun w' hw => ?_)
  obtain ⟨ra, r0, r1, gr, g0, g1, hw⟩ := hw
  obtain rfl : w' = [(bo, .inr (0, [.ref ra])), (ra, aR L 2 gr), (r0, aI L 26 (fun _ => 0)), (r1, aI L 26 (fun _ => 0))] := hw
  show J L X 2 5 57 [(tm, .inr (3, [.int (z_i 0), .ref sc, .null, .null, .null, .int (z_i 0), .int (z_i 0), .int (z_i 0), .int (z_i 0), .int (z_i 0), .int (z_i 0)])), (sc, aI L 2 (fun _ => 0)), (bo, .inr (0, [.ref ra])), (ra, aR L 2 gr), (r0, aI L 26 (fun _ => 0)), (r1, aI L 26 (fun _ => 0))] [(0, .ref tm), (1, .int (z_i len))] [.ref bo, .ref tm] 19
  refine p_T_16 E 0 [(tm, .inr (3, [.int (z_i 0), .ref sc, .ref bo, .null, .null, .int (z_i 0), .int (z_i 0), .int (z_i 0), .int (z_i 0), .int (z_i 0), .int (z_i 0)])), (sc, aI L 2 (fun _ => 0)), (bo, .inr (0, [.ref ra])), (ra, aR L 2 gr), (r0, aI L 26 (fun _ => 0)), (r1, aI L 26 (fun _ => 0))] rfl rfl (Nat.le_of_ble_eq_true rfl) d_T_init_19 ?_
  refine J_aload_n E 0 d_T_init_22 rfl rfl ?_
  refine J_new (ci := 1) (C := R_Hd) (T := F_Hd) (N := 5) E i_Hd ft_Hd_ok t_1_30 t_1_31 t_1_3 rfl [.null, .int (z_i 0), .null, .int (z_i 0), .int (z_i 0)] (fun j hj => by rcases (show j = 0 ∨ j = 1 ∨ j = 2 ∨ j = 3 ∨ j = 4 by omega) with rfl | rfl | rfl | rfl | rfl <;> rfl) ⟨Nat.le_of_ble_eq_true rfl, Nat.le_of_ble_eq_true rfl⟩ d_T_init_23 (fun ho => ?_)
  show J L X 2 6 62 [(tm, .inr (3, [.int (z_i 0), .ref sc, .ref bo, .null, .null, .int (z_i 0), .int (z_i 0), .int (z_i 0), .int (z_i 0), .int (z_i 0), .int (z_i 0)])), (sc, aI L 2 (fun _ => 0)), (bo, .inr (0, [.ref ra])), (ra, aR L 2 gr), (r0, aI L 26 (fun _ => 0)), (r1, aI L 26 (fun _ => 0)), (ho, .inr (1, [.null, .int (z_i 0), .null, .int (z_i 0), .int (z_i 0)]))] [(0, .ref tm), (1, .int (z_i len))] [.ref ho, .ref tm] 26
  refine J_dup E d_T_init_26 rfl ?_
  refine J_aload_n E 0 d_T_init_27 rfl rfl ?_
  refine g_T_16 E 0 rfl rfl d_T_init_28 ?_
  refine J_callI (wr := [(tm, .inr (3, [.int (z_i 0), .ref sc, .ref bo, .null, .null, .int (z_i 0), .int (z_i 0), .int (z_i 0), .int (z_i 0), .int (z_i 0), .int (z_i 0)])), (sc, aI L 2 (fun _ => 0)), (bo, .inr (0, [.ref ra])), (ra, aR L 2 gr), (r0, aI L 26 (fun _ => 0)), (r1, aI L 26 (fun _ => 0))]) (rest := [.ref ho, .ref tm]) E kb_H_init t_1_32 t_1_33 rfl (c_H_init L ho bo) (fun _ => rfl) (Rm_c (by decide) (by decide) (Nat.le_of_ble_eq_true rfl) (Nat.le_of_ble_eq_true rfl)) [6] [0, 1, 2, 3, 4, 5] rfl rfl rfl rfl (by decide) rfl rfl (Nat.le_of_ble_eq_true rfl) d_T_init_31 (fun w' hw => ?_)
  obtain ⟨di, hw⟩ := hw
  obtain rfl : w' = [(ho, .inr (1, [.ref di, .int (z_i 0), .ref bo, .int (z_i 0), .int (z_i 0)])), (di, aI L 7 (fun _ => 0))] := hw
  show J L X 2 7 69 [(tm, .inr (3, [.int (z_i 0), .ref sc, .ref bo, .null, .null, .int (z_i 0), .int (z_i 0), .int (z_i 0), .int (z_i 0), .int (z_i 0), .int (z_i 0)])), (sc, aI L 2 (fun _ => 0)), (bo, .inr (0, [.ref ra])), (ra, aR L 2 gr), (r0, aI L 26 (fun _ => 0)), (r1, aI L 26 (fun _ => 0)), (ho, .inr (1, [.ref di, .int (z_i 0), .ref bo, .int (z_i 0), .int (z_i 0)])), (di, aI L 7 (fun _ => 0))] [(0, .ref tm), (1, .int (z_i len))] [.ref ho, .ref tm] 34
  refine p_T_25 E 0 [(tm, .inr (3, [.int (z_i 0), .ref sc, .ref bo, .ref ho, .null, .int (z_i 0), .int (z_i 0), .int (z_i 0), .int (z_i 0), .int (z_i 0), .int (z_i 0)])), (sc, aI L 2 (fun _ => 0)), (bo, .inr (0, [.ref ra])), (ra, aR L 2 gr), (r0, aI L 26 (fun _ => 0)), (r1, aI L 26 (fun _ => 0)), (ho, .inr (1, [.ref di, .int (z_i 0), .ref bo, .int (z_i 0), .int (z_i 0)])), (di, aI L 7 (fun _ => 0))] rfl rfl (Nat.le_of_ble_eq_true rfl) d_T_init_34 ?_
  refine J_aload_n E 0 d_T_init_37 rfl rfl ?_
  refine J_new (ci := 2) (C := R_Rc) (T := F_Rc) (N := 1) E i_Rc ft_Rc_ok t_1_54 t_1_55 t_1_4 rfl [.null] (fun j hj => by rcases (show j = 0 by omega) with rfl <;> rfl) ⟨Nat.le_of_ble_eq_true rfl, Nat.le_of_ble_eq_true rfl⟩ d_T_init_38 (fun rx => ?_)
  show J L X 2 8 70 [(tm, .inr (3, [.int (z_i 0), .ref sc, .ref bo, .ref ho, .null, .int (z_i 0), .int (z_i 0), .int (z_i 0), .int (z_i 0), .int (z_i 0), .int (z_i 0)])), (sc, aI L 2 (fun _ => 0)), (bo, .inr (0, [.ref ra])), (ra, aR L 2 gr), (r0, aI L 26 (fun _ => 0)), (r1, aI L 26 (fun _ => 0)), (ho, .inr (1, [.ref di, .int (z_i 0), .ref bo, .int (z_i 0), .int (z_i 0)])), (di, aI L 7 (fun _ => 0)), (rx, .inr (2, [.null]))] [(0, .ref tm), (1, .int (z_i len))] [.ref rx, .ref tm] 41
  refine J_dup E d_T_init_41 rfl ?_
  refine J_callIN (wr := [(tm, .inr (3, [.int (z_i 0), .ref sc, .ref bo, .ref ho, .null, .int (z_i 0), .int (z_i 0), .int (z_i 0), .int (z_i 0), .int (z_i 0), .int (z_i 0)])), (sc, aI L 2 (fun _ => 0)), (bo, .inr (0, [.ref ra])), (ra, aR L 2 gr), (r0, aI L 26 (fun _ => 0)), (r1, aI L 26 (fun _ => 0)), (ho, .inr (1, [.ref di, .int (z_i 0), .ref bo, .int (z_i 0), .int (z_i 0)])), (di, aI L 7 (fun _ => 0))]) (rest := [.ref rx, .ref tm]) E kb_R_init t_1_56 t_1_57 rfl (c_R_init L rx) (fun _ => rfl) (Rm_c (by decide) (by decide) (Nat.le_of_ble_eq_true rfl) (Nat.le_of_ble_eq_true rfl)) [8] [0, 1, 2, 3, 4, 5, 6, 7] rfl rfl rfl rfl (by decide) rfl rfl (Nat.le_of_ble_eq_true rfl) d_T_init_42 (fun w' hw => ?_)
  obtain ⟨kn, hw⟩ := hw
  obtain rfl : w' = [(rx, .inr (2, [.ref kn])), (kn, aL L 225 (fun _ => 0))] := hw
  show J L X 2 9 295 [(tm, .inr (3, [.int (z_i 0), .ref sc, .ref bo, .ref ho, .null, .int (z_i 0), .int (z_i 0), .int (z_i 0), .int (z_i 0), .int (z_i 0), .int (z_i 0)])), (sc, aI L 2 (fun _ => 0)), (bo, .inr (0, [.ref ra])), (ra, aR L 2 gr), (r0, aI L 26 (fun _ => 0)), (r1, aI L 26 (fun _ => 0)), (ho, .inr (1, [.ref di, .int (z_i 0), .ref bo, .int (z_i 0), .int (z_i 0)])), (di, aI L 7 (fun _ => 0)), (rx, .inr (2, [.ref kn])), (kn, aL L 225 (fun _ => 0))] [(0, .ref tm), (1, .int (z_i len))] [.ref rx, .ref tm] 45
  refine p_T_32 E 0 [(tm, .inr (3, [.int (z_i 0), .ref sc, .ref bo, .ref ho, .ref rx, .int (z_i 0), .int (z_i 0), .int (z_i 0), .int (z_i 0), .int (z_i 0), .int (z_i 0)])), (sc, aI L 2 (fun _ => 0)), (bo, .inr (0, [.ref ra])), (ra, aR L 2 gr), (r0, aI L 26 (fun _ => 0)), (r1, aI L 26 (fun _ => 0)), (ho, .inr (1, [.ref di, .int (z_i 0), .ref bo, .int (z_i 0), .int (z_i 0)])), (di, aI L 7 (fun _ => 0)), (rx, .inr (2, [.ref kn])), (kn, aL L 225 (fun _ => 0))] rfl rfl (Nat.le_of_ble_eq_true rfl) d_T_init_45 ?_
  refine J_aload_n E 0 d_T_init_48 rfl rfl ?_
  refine J_iconst E d_T_init_49 ?_
  refine J_bipush E d_T_init_50 (by decide) ?_
  refine J_iload_n E 1 d_T_init_52 rfl rfl ?_
  refine J_mmin E t_1_65 t_1_66 t_1_5 t_1_67 ⟨by decide, Nat.le_of_ble_eq_true rfl, Nat.le_of_ble_eq_true rfl, Nat.le_of_ble_eq_true rfl⟩ ⟨⟨by decide, by decide⟩, hlen⟩ d_T_init_53 ?_
  refine J_mmax E t_1_68 t_1_69 t_1_5 t_1_70 ⟨by decide, Nat.le_of_ble_eq_true rfl, Nat.le_of_ble_eq_true rfl, Nat.le_of_ble_eq_true rfl⟩ (by have := z_mn_is 25 len; have := hlen.1; have := hlen.2; exact ⟨⟨by omega, by omega⟩, by omega, by omega⟩) d_T_init_56 ?_
  refine p_T_45 E 0 [(tm, .inr (3, [.int (z_i (z_mx 1 (z_mn 25 len))), .ref sc, .ref bo, .ref ho, .ref rx, .int (z_i 0), .int (z_i 0), .int (z_i 0), .int (z_i 0), .int (z_i 0), .int (z_i 0)])), (sc, aI L 2 (fun _ => 0)), (bo, .inr (0, [.ref ra])), (ra, aR L 2 gr), (r0, aI L 26 (fun _ => 0)), (r1, aI L 26 (fun _ => 0)), (ho, .inr (1, [.ref di, .int (z_i 0), .ref bo, .int (z_i 0), .int (z_i 0)])), (di, aI L 7 (fun _ => 0)), (rx, .inr (2, [.ref kn])), (kn, aL L 225 (fun _ => 0))] rfl rfl (Nat.le_of_ble_eq_true rfl) d_T_init_59 ?_
  refine J_aload_n E 0 d_T_init_62 rfl rfl ?_
  refine J_callV (wr := []) (rest := []) E kb_T_beginGame t_1_71 t_1_73 ts_T_beginGame (c_T_beginGame L tm sc bo ra r0 r1 ho di rx kn gr (z_mx 1 (z_mn 25 len)) 0 0 0 0 0 0 (fun _ => 0) (fun _ => 0) (fun _ => 0) 0 0 0 (fun _ => 0) (fun _ => 0) g0 g1 (fun _ _ => rfl) (fun _ _ => rfl)) (fun _ => rfl) (Rm_c0 (by decide) (by decide) (Nat.le_of_ble_eq_true rfl) (Nat.le_of_ble_eq_true rfl)) [0, 1, 2, 3, 4, 5, 6, 7, 8, 9] [] rfl rfl rfl rfl (by decide) 0 rfl rfl rfl rfl (Nat.le_of_ble_eq_true rfl) d_T_init_63 (fun w' hw => ?_)
  obtain rfl : w' = [(tm, .inr (3, [.int (z_i (z_mx 1 (z_mn 25 len))), .ref sc, .ref bo, .ref ho, .ref rx, .int (z_i 0), .int (z_i 0), .int (z_i 1), .int (z_i (-1)), .int (z_i 0), .int (z_i 0)])), (sc, aI L 2 (fun _ => 0)), (bo, .inr (0, [.ref ra])), (ra, aR L 2 gr), (r0, aI L 26 st_men), (r1, aI L 26 st_men), (ho, .inr (1, [.ref di, .int (z_i 0), .ref bo, .int (z_i 0), .int (z_i 0)])), (di, aI L 7 (fun _ => 0)), (rx, .inr (2, [.ref kn])), (kn, aL L 225 (fun _ => 0))] := hw
  show J L X 2 9 295 [(tm, .inr (3, [.int (z_i (z_mx 1 (z_mn 25 len))), .ref sc, .ref bo, .ref ho, .ref rx, .int (z_i 0), .int (z_i 0), .int (z_i 1), .int (z_i (-1)), .int (z_i 0), .int (z_i 0)])), (sc, aI L 2 (fun _ => 0)), (bo, .inr (0, [.ref ra])), (ra, aR L 2 gr), (r0, aI L 26 st_men), (r1, aI L 26 st_men), (ho, .inr (1, [.ref di, .int (z_i 0), .ref bo, .int (z_i 0), .int (z_i 0)])), (di, aI L 7 (fun _ => 0)), (rx, .inr (2, [.ref kn])), (kn, aL L 225 (fun _ => 0))] [(0, .ref tm), (1, .int (z_i len))] [] 66
  exact J_return E F ⟨sc, bo, ra, r0, r1, ho, di, rx, kn, gr, g0, g1, 0, 0, 0, (fun _ => 0), (fun _ => 0), ⟨f0_b 4 (by decide), fun h => absurd h (by decide)⟩, fun _ _ _ _ _ _ _ _ => Or.inl rfl, by rw [ini_mx]⟩ d_T_init_66
set_option maxHeartbeats 4000000 in
set_option maxRecDepth 100000 in
theorem c_M_init (L : Lx) (mo : Nat) (len : Int) (hlen : z_r len) : CtG L y_M_init b_M_init 2 none (rmc 3 5 997) false 5 997 [.ref mo, .int (z_i len)] [(mo, .inr (4, [.int (z_i 0), .null, .int (z_i 0), .int (z_i 0), .null, .int (z_i 0), .int (z_i 0), .int (z_i 0), .int (z_i 0), .int (z_i 0), .int (z_i 0), .int (z_i 0), .int (z_i 0), .int (z_i 0), .null, .null, .null, .int (z_i 0)]))] (fun u => ∃ (ms mb mt mf mc : Nat), RR L mo ms mb mt mf mc (ini len) u) none := by
  refine CtG.of rfl (Nat.le_of_ble_eq_true rfl) (fun X E F => ?_)
  show J L X 2 0 0 [(mo, .inr (4, [.int (z_i 0), .null, .int (z_i 0), .int (z_i 0), .null, .int (z_i 0), .int (z_i 0), .int (z_i 0), .int (z_i 0), .int (z_i 0), .int (z_i 0), .int (z_i 0), .int (z_i 0), .int (z_i 0), .null, .null, .null, .int (z_i 0)]))] [(0, .ref mo), (1, .int (z_i len))] [] 0
  refine J_aload_n E 0 d_M_init_0 rfl rfl ?_
  refine J_obj E t_2_80 ⟨Nat.le_of_ble_eq_true rfl, Nat.le_of_ble_eq_true rfl⟩ d_M_init_1 ?_
  refine J_aload_n E 0 d_M_init_4 rfl rfl ?_
  refine J_iconst E d_M_init_5 ?_
  refine J_newI E 2 (by decide) (by decide) (by decide) ⟨Nat.le_of_ble_eq_true rfl, Nat.le_of_ble_eq_true rfl⟩ d_M_init_6 (fun ms => ?_)
  show J L X 2 1 2 [(mo, .inr (4, [.int (z_i 0), .null, .int (z_i 0), .int (z_i 0), .null, .int (z_i 0), .int (z_i 0), .int (z_i 0), .int (z_i 0), .int (z_i 0), .int (z_i 0), .int (z_i 0), .int (z_i 0), .int (z_i 0), .null, .null, .null, .int (z_i 0)])), (ms, aI L 2 (fun _ => 0))] [(0, .ref mo), (1, .int (z_i len))] [.ref ms, .ref mo] 8
  refine p_M_7 E 0 [(mo, .inr (4, [.int (z_i 0), .ref ms, .int (z_i 0), .int (z_i 0), .null, .int (z_i 0), .int (z_i 0), .int (z_i 0), .int (z_i 0), .int (z_i 0), .int (z_i 0), .int (z_i 0), .int (z_i 0), .int (z_i 0), .null, .null, .null, .int (z_i 0)])), (ms, aI L 2 (fun _ => 0))] rfl rfl (Nat.le_of_ble_eq_true rfl) d_M_init_8 ?_
  refine J_aload_n E 0 d_M_init_11 rfl rfl ?_
  refine J_bipush E d_M_init_12 (by decide) ?_
  refine J_newI E 52 (by decide) (by decide) (by decide) ⟨Nat.le_of_ble_eq_true rfl, Nat.le_of_ble_eq_true rfl⟩ d_M_init_14 (fun mb => ?_)
  show J L X 2 2 54 [(mo, .inr (4, [.int (z_i 0), .ref ms, .int (z_i 0), .int (z_i 0), .null, .int (z_i 0), .int (z_i 0), .int (z_i 0), .int (z_i 0), .int (z_i 0), .int (z_i 0), .int (z_i 0), .int (z_i 0), .int (z_i 0), .null, .null, .null, .int (z_i 0)])), (ms, aI L 2 (fun _ => 0)), (mb, aI L 52 (fun _ => 0))] [(0, .ref mo), (1, .int (z_i len))] [.ref mb, .ref mo] 16
  refine p_M_13 E 0 [(mo, .inr (4, [.int (z_i 0), .ref ms, .int (z_i 0), .int (z_i 0), .ref mb, .int (z_i 0), .int (z_i 0), .int (z_i 0), .int (z_i 0), .int (z_i 0), .int (z_i 0), .int (z_i 0), .int (z_i 0), .int (z_i 0), .null, .null, .null, .int (z_i 0)])), (ms, aI L 2 (fun _ => 0)), (mb, aI L 52 (fun _ => 0))] rfl rfl (Nat.le_of_ble_eq_true rfl) d_M_init_16 ?_
  refine J_aload_n E 0 d_M_init_19 rfl rfl ?_
  refine J_iconst E d_M_init_20 ?_
  refine p_M_16 E 0 [(mo, .inr (4, [.int (z_i 0), .ref ms, .int (z_i 0), .int (z_i 0), .ref mb, .int (z_i 1), .int (z_i 0), .int (z_i 0), .int (z_i 0), .int (z_i 0), .int (z_i 0), .int (z_i 0), .int (z_i 0), .int (z_i 0), .null, .null, .null, .int (z_i 0)])), (ms, aI L 2 (fun _ => 0)), (mb, aI L 52 (fun _ => 0))] rfl rfl (Nat.le_of_ble_eq_true rfl) d_M_init_21 ?_
  refine J_aload_n E 0 d_M_init_24 rfl rfl ?_
  refine J_iconst E d_M_init_25 ?_
  refine p_M_20 E 0 [(mo, .inr (4, [.int (z_i 0), .ref ms, .int (z_i 0), .int (z_i 0), .ref mb, .int (z_i 1), .int (z_i (-1)), .int (z_i 0), .int (z_i 0), .int (z_i 0), .int (z_i 0), .int (z_i 0), .int (z_i 0), .int (z_i 0), .null, .null, .null, .int (z_i 0)])), (ms, aI L 2 (fun _ => 0)), (mb, aI L 52 (fun _ => 0))] rfl rfl (Nat.le_of_ble_eq_true rfl) d_M_init_26 ?_
  refine J_aload_n E 0 d_M_init_29 rfl rfl ?_
  refine J_sipush E d_M_init_30 (by decide) ?_
  refine J_newI E 312 (by decide) (by decide) (by decide) ⟨Nat.le_of_ble_eq_true rfl, Nat.le_of_ble_eq_true rfl⟩ d_M_init_33 (fun mt => ?_)
  show J L X 2 3 366 [(mo, .inr (4, [.int (z_i 0), .ref ms, .int (z_i 0), .int (z_i 0), .ref mb, .int (z_i 1), .int (z_i (-1)), .int (z_i 0), .int (z_i 0), .int (z_i 0), .int (z_i 0), .int (z_i 0), .int (z_i 0), .int (z_i 0), .null, .null, .null, .int (z_i 0)])), (ms, aI L 2 (fun _ => 0)), (mb, aI L 52 (fun _ => 0)), (mt, aI L 312 (fun _ => 0))] [(0, .ref mo), (1, .int (z_i len))] [.ref mt, .ref mo] 35
  refine p_M_23 E 0 [(mo, .inr (4, [.int (z_i 0), .ref ms, .int (z_i 0), .int (z_i 0), .ref mb, .int (z_i 1), .int (z_i (-1)), .int (z_i 0), .int (z_i 0), .int (z_i 0), .int (z_i 0), .int (z_i 0), .int (z_i 0), .int (z_i 0), .ref mt, .null, .null, .int (z_i 0)])), (ms, aI L 2 (fun _ => 0)), (mb, aI L 52 (fun _ => 0)), (mt, aI L 312 (fun _ => 0))] rfl rfl (Nat.le_of_ble_eq_true rfl) d_M_init_35 ?_
  refine J_aload_n E 0 d_M_init_38 rfl rfl ?_
  refine J_bipush E d_M_init_39 (by decide) ?_
  refine J_newI E 6 (by decide) (by decide) (by decide) ⟨Nat.le_of_ble_eq_true rfl, Nat.le_of_ble_eq_true rfl⟩ d_M_init_41 (fun mf => ?_)
  show J L X 2 4 372 [(mo, .inr (4, [.int (z_i 0), .ref ms, .int (z_i 0), .int (z_i 0), .ref mb, .int (z_i 1), .int (z_i (-1)), .int (z_i 0), .int (z_i 0), .int (z_i 0), .int (z_i 0), .int (z_i 0), .int (z_i 0), .int (z_i 0), .ref mt, .null, .null, .int (z_i 0)])), (ms, aI L 2 (fun _ => 0)), (mb, aI L 52 (fun _ => 0)), (mt, aI L 312 (fun _ => 0)), (mf, aI L 6 (fun _ => 0))] [(0, .ref mo), (1, .int (z_i len))] [.ref mf, .ref mo] 43
  refine p_M_26 E 0 [(mo, .inr (4, [.int (z_i 0), .ref ms, .int (z_i 0), .int (z_i 0), .ref mb, .int (z_i 1), .int (z_i (-1)), .int (z_i 0), .int (z_i 0), .int (z_i 0), .int (z_i 0), .int (z_i 0), .int (z_i 0), .int (z_i 0), .ref mt, .ref mf, .null, .int (z_i 0)])), (ms, aI L 2 (fun _ => 0)), (mb, aI L 52 (fun _ => 0)), (mt, aI L 312 (fun _ => 0)), (mf, aI L 6 (fun _ => 0))] rfl rfl (Nat.le_of_ble_eq_true rfl) d_M_init_43 ?_
  refine J_aload_n E 0 d_M_init_46 rfl rfl ?_
  refine J_sipush E d_M_init_47 (by decide) ?_
  refine J_newL E 625 (by decide) (by decide) (by decide) ⟨Nat.le_of_ble_eq_true rfl, Nat.le_of_ble_eq_true rfl⟩ d_M_init_50 (fun mc => ?_)
  show J L X 2 5 997 [(mo, .inr (4, [.int (z_i 0), .ref ms, .int (z_i 0), .int (z_i 0), .ref mb, .int (z_i 1), .int (z_i (-1)), .int (z_i 0), .int (z_i 0), .int (z_i 0), .int (z_i 0), .int (z_i 0), .int (z_i 0), .int (z_i 0), .ref mt, .ref mf, .null, .int (z_i 0)])), (ms, aI L 2 (fun _ => 0)), (mb, aI L 52 (fun _ => 0)), (mt, aI L 312 (fun _ => 0)), (mf, aI L 6 (fun _ => 0)), (mc, aL L 625 (fun _ => 0))] [(0, .ref mo), (1, .int (z_i len))] [.ref mc, .ref mo] 52
  refine p_M_29 E 0 [(mo, .inr (4, [.int (z_i 0), .ref ms, .int (z_i 0), .int (z_i 0), .ref mb, .int (z_i 1), .int (z_i (-1)), .int (z_i 0), .int (z_i 0), .int (z_i 0), .int (z_i 0), .int (z_i 0), .int (z_i 0), .int (z_i 0), .ref mt, .ref mf, .ref mc, .int (z_i 0)])), (ms, aI L 2 (fun _ => 0)), (mb, aI L 52 (fun _ => 0)), (mt, aI L 312 (fun _ => 0)), (mf, aI L 6 (fun _ => 0)), (mc, aL L 625 (fun _ => 0))] rfl rfl (Nat.le_of_ble_eq_true rfl) d_M_init_52 ?_
  refine J_aload_n E 0 d_M_init_55 rfl rfl ?_
  refine J_iload_n E 1 d_M_init_56 rfl rfl ?_
  refine J_iconst E d_M_init_57 ?_
  refine J_icmp_ge E 65 d_M_init_58 (by decide) (by have := hlen.1; have := hlen.2; exact ⟨hlen, by decide, by decide⟩) (fun h58 => ?_) (fun h58 => ?_)
  · refine J_iload_n E 1 d_M_init_65 rfl rfl ?_
    refine J_bipush E d_M_init_66 (by decide) ?_
    refine J_icmp_le E 76 d_M_init_68 (by decide) ⟨hlen, by decide, by decide⟩ (fun h68 => ?_) (fun h68 => ?_)
    · refine J_iload_n E 1 d_M_init_76 rfl rfl ?_
      refine p_M_33 E 0 [(mo, .inr (4, [.int (z_i len), .ref ms, .int (z_i 0), .int (z_i 0), .ref mb, .int (z_i 1), .int (z_i (-1)), .int (z_i 0), .int (z_i 0), .int (z_i 0), .int (z_i 0), .int (z_i 0), .int (z_i 0), .int (z_i 0), .ref mt, .ref mf, .ref mc, .int (z_i 0)])), (ms, aI L 2 (fun _ => 0)), (mb, aI L 52 (fun _ => 0)), (mt, aI L 312 (fun _ => 0)), (mf, aI L 6 (fun _ => 0)), (mc, aL L 625 (fun _ => 0))] rfl rfl (Nat.le_of_ble_eq_true rfl) d_M_init_77 ?_
      refine J_aload_n E 0 d_M_init_80 rfl rfl ?_
      refine J_callV (wr := []) (rest := []) E kb_M_setUp t_2_81 t_2_83 ts_M_setUp (c_M_setUp L mo ms mb mt mf mc len 0 0 1 (-1) 0 0 0 0 0 0 0 0 (fun _ => 0) (fun _ => 0) (fun _ => 0) (fun _ => 0) (fun _ => 0) (f0_b 15 (by decide))) (fun h => h) (Rm_c0 (by decide) (by decide) (Nat.le_of_ble_eq_true rfl) (Nat.le_of_ble_eq_true rfl)) [0, 1, 2, 3, 4, 5] [] rfl rfl rfl rfl (by decide) 0 rfl rfl rfl rfl (Nat.le_of_ble_eq_true rfl) d_M_init_81 (fun w' hw => ?_)
      obtain ⟨bb2, hb2, hw⟩ := hw
      obtain rfl : w' = [(mo, .inr (4, [.int (z_i len), .ref ms, .int (z_i 0), .int (z_i 0), .ref mb, .int (z_i 1), .int (z_i (-1)), .int (z_i 0), .int (z_i 0), .int (z_i 0), .int (z_i 0), .int (z_i 0), .int (z_i 0), .int (z_i 0), .ref mt, .ref mf, .ref mc, .int (z_i 0)])), (ms, aI L 2 (fun _ => 0)), (mb, aI L 52 bb2), (mt, aI L 312 (fun _ => 0)), (mf, aI L 6 (fun _ => 0)), (mc, aL L 625 (fun _ => 0))] := hw
      show J L X 2 5 997 [(mo, .inr (4, [.int (z_i len), .ref ms, .int (z_i 0), .int (z_i 0), .ref mb, .int (z_i 1), .int (z_i (-1)), .int (z_i 0), .int (z_i 0), .int (z_i 0), .int (z_i 0), .int (z_i 0), .int (z_i 0), .int (z_i 0), .ref mt, .ref mf, .ref mc, .int (z_i 0)])), (ms, aI L 2 (fun _ => 0)), (mb, aI L 52 bb2), (mt, aI L 312 (fun _ => 0)), (mf, aI L 6 (fun _ => 0)), (mc, aL L 625 (fun _ => 0))] [(0, .ref mo), (1, .int (z_i len))] [] 84
      exact J_return E F (by have e : ini_l len = len := (by rcases ini_l_is len with q | q | q <;> omega); exact ⟨ms, mb, mt, mf, mc, 0, 0, bb2, (fun _ => 0), (fun _ => 0), (fun _ => 0), hb2, f0_b 15 (by decide), fun q => absurd q (by decide), Or.inl rfl, by rw [e]⟩) d_M_init_84
    · refine J_bipush E d_M_init_71 (by decide) ?_
      refine J_goto E 77 d_M_init_73 (by decide) ?_
      refine p_M_33 E 0 [(mo, .inr (4, [.int (z_i 25), .ref ms, .int (z_i 0), .int (z_i 0), .ref mb, .int (z_i 1), .int (z_i (-1)), .int (z_i 0), .int (z_i 0), .int (z_i 0), .int (z_i 0), .int (z_i 0), .int (z_i 0), .int (z_i 0), .ref mt, .ref mf, .ref mc, .int (z_i 0)])), (ms, aI L 2 (fun _ => 0)), (mb, aI L 52 (fun _ => 0)), (mt, aI L 312 (fun _ => 0)), (mf, aI L 6 (fun _ => 0)), (mc, aL L 625 (fun _ => 0))] rfl rfl (Nat.le_of_ble_eq_true rfl) d_M_init_77 ?_
      refine J_aload_n E 0 d_M_init_80 rfl rfl ?_
      refine J_callV (wr := []) (rest := []) E kb_M_setUp t_2_81 t_2_83 ts_M_setUp (c_M_setUp L mo ms mb mt mf mc 25 0 0 1 (-1) 0 0 0 0 0 0 0 0 (fun _ => 0) (fun _ => 0) (fun _ => 0) (fun _ => 0) (fun _ => 0) (f0_b 15 (by decide))) (fun h => h) (Rm_c0 (by decide) (by decide) (Nat.le_of_ble_eq_true rfl) (Nat.le_of_ble_eq_true rfl)) [0, 1, 2, 3, 4, 5] [] rfl rfl rfl rfl (by decide) 0 rfl rfl rfl rfl (Nat.le_of_ble_eq_true rfl) d_M_init_81 (fun w' hw => ?_)
      obtain ⟨bb2, hb2, hw⟩ := hw
      obtain rfl : w' = [(mo, .inr (4, [.int (z_i 25), .ref ms, .int (z_i 0), .int (z_i 0), .ref mb, .int (z_i 1), .int (z_i (-1)), .int (z_i 0), .int (z_i 0), .int (z_i 0), .int (z_i 0), .int (z_i 0), .int (z_i 0), .int (z_i 0), .ref mt, .ref mf, .ref mc, .int (z_i 0)])), (ms, aI L 2 (fun _ => 0)), (mb, aI L 52 bb2), (mt, aI L 312 (fun _ => 0)), (mf, aI L 6 (fun _ => 0)), (mc, aL L 625 (fun _ => 0))] := hw
      show J L X 2 5 997 [(mo, .inr (4, [.int (z_i 25), .ref ms, .int (z_i 0), .int (z_i 0), .ref mb, .int (z_i 1), .int (z_i (-1)), .int (z_i 0), .int (z_i 0), .int (z_i 0), .int (z_i 0), .int (z_i 0), .int (z_i 0), .int (z_i 0), .ref mt, .ref mf, .ref mc, .int (z_i 0)])), (ms, aI L 2 (fun _ => 0)), (mb, aI L 52 bb2), (mt, aI L 312 (fun _ => 0)), (mf, aI L 6 (fun _ => 0)), (mc, aL L 625 (fun _ => 0))] [(0, .ref mo), (1, .int (z_i len))] [] 84
      exact J_return E F (by have e : ini_l len = 25 := (by rcases ini_l_is len with q | q | q <;> omega); exact ⟨ms, mb, mt, mf, mc, 0, 0, bb2, (fun _ => 0), (fun _ => 0), (fun _ => 0), hb2, f0_b 15 (by decide), fun q => absurd q (by decide), Or.inl rfl, by rw [e]⟩) d_M_init_84
  · refine J_iconst E d_M_init_61 ?_
    refine J_goto E 77 d_M_init_62 (by decide) ?_
    refine p_M_33 E 0 [(mo, .inr (4, [.int (z_i 1), .ref ms, .int (z_i 0), .int (z_i 0), .ref mb, .int (z_i 1), .int (z_i (-1)), .int (z_i 0), .int (z_i 0), .int (z_i 0), .int (z_i 0), .int (z_i 0), .int (z_i 0), .int (z_i 0), .ref mt, .ref mf, .ref mc, .int (z_i 0)])), (ms, aI L 2 (fun _ => 0)), (mb, aI L 52 (fun _ => 0)), (mt, aI L 312 (fun _ => 0)), (mf, aI L 6 (fun _ => 0)), (mc, aL L 625 (fun _ => 0))] rfl rfl (Nat.le_of_ble_eq_true rfl) d_M_init_77 ?_
    refine J_aload_n E 0 d_M_init_80 rfl rfl ?_
    refine J_callV (wr := []) (rest := []) E kb_M_setUp t_2_81 t_2_83 ts_M_setUp (c_M_setUp L mo ms mb mt mf mc 1 0 0 1 (-1) 0 0 0 0 0 0 0 0 (fun _ => 0) (fun _ => 0) (fun _ => 0) (fun _ => 0) (fun _ => 0) (f0_b 15 (by decide))) (fun h => h) (Rm_c0 (by decide) (by decide) (Nat.le_of_ble_eq_true rfl) (Nat.le_of_ble_eq_true rfl)) [0, 1, 2, 3, 4, 5] [] rfl rfl rfl rfl (by decide) 0 rfl rfl rfl rfl (Nat.le_of_ble_eq_true rfl) d_M_init_81 (fun w' hw => ?_)
    obtain ⟨bb2, hb2, hw⟩ := hw
    obtain rfl : w' = [(mo, .inr (4, [.int (z_i 1), .ref ms, .int (z_i 0), .int (z_i 0), .ref mb, .int (z_i 1), .int (z_i (-1)), .int (z_i 0), .int (z_i 0), .int (z_i 0), .int (z_i 0), .int (z_i 0), .int (z_i 0), .int (z_i 0), .ref mt, .ref mf, .ref mc, .int (z_i 0)])), (ms, aI L 2 (fun _ => 0)), (mb, aI L 52 bb2), (mt, aI L 312 (fun _ => 0)), (mf, aI L 6 (fun _ => 0)), (mc, aL L 625 (fun _ => 0))] := hw
    show J L X 2 5 997 [(mo, .inr (4, [.int (z_i 1), .ref ms, .int (z_i 0), .int (z_i 0), .ref mb, .int (z_i 1), .int (z_i (-1)), .int (z_i 0), .int (z_i 0), .int (z_i 0), .int (z_i 0), .int (z_i 0), .int (z_i 0), .int (z_i 0), .ref mt, .ref mf, .ref mc, .int (z_i 0)])), (ms, aI L 2 (fun _ => 0)), (mb, aI L 52 bb2), (mt, aI L 312 (fun _ => 0)), (mf, aI L 6 (fun _ => 0)), (mc, aL L 625 (fun _ => 0))] [(0, .ref mo), (1, .int (z_i len))] [] 84
    exact J_return E F (by have e : ini_l len = 1 := (by rcases ini_l_is len with q | q | q <;> omega); exact ⟨ms, mb, mt, mf, mc, 0, 0, bb2, (fun _ => 0), (fun _ => 0), (fun _ => 0), hb2, f0_b 15 (by decide), fun q => absurd q (by decide), Or.inl rfl, by rw [e]⟩) d_M_init_84
