set_option maxHeartbeats 4000000 in
set_option maxRecDepth 100000 in
theorem c_H_canMoveGreater (L : Lx) (ho di : Nat) (bo ra ro rt : Nat) (gr : Nat → Option Nat) (own oth : Int → Int) (p : Int) (dice : Int → Int) (us ct : Int) (d : Int) (hp : p = 0 ∨ p = 1) (g0 : gr p.toNat = some ro) (g1 : gr (1 - p).toNat = some rt) (hO : bd_ok own) (hT : bd_ok oth) (hc : dc_ok dice) (hd : 1 ≤ d ∧ d ≤ 6) : CtG L y_H_canMoveGreater b_H_canMoveGreater 3 (some .boolean) (rmh 4) false 0 0 [.ref ho, .int (z_i d)] [(ho, .inr (1, [.ref di, .int (z_i us), .ref bo, .int (z_i p), .int (z_i ct)])), (di, aI L 7 dice), (bo, .inr (0, [.ref ra])), (ra, aR L 2 gr), (ro, aI L 26 own), (rt, aI L 26 oth)] (fun u => u = [(ho, .inr (1, [.ref di, .int (z_i us), .ref bo, .int (z_i p), .int (z_i ct)])), (di, aI L 7 dice), (bo, .inr (0, [.ref ra])), (ra, aR L 2 gr), (ro, aI L 26 own), (rt, aI L 26 oth)]) (some (.int (z_i (b2 (∃ g, (d < g ∧ g ≤ 6) ∧ 0 < dice g ∧ ∃ x, bd_can own oth x g))))) := by
  refine CtG.of rfl (Nat.le_of_ble_eq_true rfl) (fun X E F => ?_)
  show J L X 3 0 0 [(ho, .inr (1, [.ref di, .int (z_i us), .ref bo, .int (z_i p), .int (z_i ct)])), (di, aI L 7 dice), (bo, .inr (0, [.ref ra])), (ra, aR L 2 gr), (ro, aI L 26 own), (rt, aI L 26 oth)] [(0, .ref ho), (1, .int (z_i d))] [] 0
  refine J_iload_n E 1 d_H_canMoveGreater_0 rfl rfl ?_
  refine J_iconst E d_H_canMoveGreater_1 ?_
  refine J_iadd E d_H_canMoveGreater_2 ?_
  refine J_istore_n E [(2, .int (z_i (d + 1))), (0, .ref ho), (1, .int (z_i d))] d_H_canMoveGreater_3 rfl (by decide) rfl ?_
  have C4 : ∀ (mm : Nat) (k : Int), (d < k ∧ k ≤ 7) → (∀ g, d < g → g < k → ¬ (0 < dice g ∧ ∃ x, bd_can own oth x g)) → (7 - k).toNat < mm → J L X 3 0 0 [(ho, .inr (1, [.ref di, .int (z_i us), .ref bo, .int (z_i p), .int (z_i ct)])), (di, aI L 7 dice), (bo, .inr (0, [.ref ra])), (ra, aR L 2 gr), (ro, aI L 26 own), (rt, aI L 26 oth)] [(2, .int (z_i k)), (0, .ref ho), (1, .int (z_i d))] [] 4 := by
    intro mm
    induction mm with
    | zero => intro k hk hr hmm; exact absurd hmm (Nat.not_lt_zero _)
    | succ mm ih4 =>
      intro k hk hr hmm
      refine J_iload_n E 0 d_H_canMoveGreater_4 rfl rfl ?_
      refine J_bipush E d_H_canMoveGreater_5 (by decide) ?_
      refine J_icmp_gt E 42 d_H_canMoveGreater_7 (by decide) (by exact ⟨⟨by omega, by omega⟩, ⟨by omega, by omega⟩⟩) (fun h7 => ?_) (fun h7 => ?_)
      · refine J_iconst E d_H_canMoveGreater_42 ?_
        exact J_zreturn E F (by omega) (b2_f (fun ⟨g, q1, q2⟩ => hr g q1.1 (by omega) q2)).symm rfl d_H_canMoveGreater_43
      · refine J_aload_n E 1 d_H_canMoveGreater_10 rfl rfl ?_
        refine g_H_9 E 0 rfl rfl d_H_canMoveGreater_11 ?_
        refine J_iload_n E 0 d_H_canMoveGreater_14 rfl rfl ?_
        refine J_iald E 1 rfl (by decide) (by exact ⟨by omega, by omega⟩) d_H_canMoveGreater_15 ?_
        refine J_if_le E 36 d_H_canMoveGreater_16 (by decide) (by have := hc k; exact ⟨by omega, by omega⟩) (fun h16 => ?_) (fun h16 => ?_)
        · refine J_iinc E 0 [(2, .int (z_i (k + 1))), (0, .ref ho), (1, .int (z_i d))] d_H_canMoveGreater_36 rfl (by decide) rfl ?_
          refine J_goto E 4 d_H_canMoveGreater_39 (by decide) ?_
          exact ih4 (k + 1) (by omega) (fun g q1 q2 q3 => by rcases (show g = k ∨ g < k by omega) with e | e; (rw [e] at q3; omega); exact hr g q1 e q3) (by omega)
        · refine J_aload_n E 1 d_H_canMoveGreater_19 rfl rfl ?_
          refine g_H_15 E 0 rfl rfl d_H_canMoveGreater_20 ?_
          refine J_aload_n E 1 d_H_canMoveGreater_23 rfl rfl ?_
          refine g_H_23 E 0 rfl rfl d_H_canMoveGreater_24 ?_
          refine J_iload_n E 0 d_H_canMoveGreater_27 rfl rfl ?_
          refine J_callV (wr := [(ho, .inr (1, [.ref di, .int (z_i us), .ref bo, .int (z_i p), .int (z_i ct)])), (di, aI L 7 dice)]) (rest := []) E kb_B_canMoveAny t_1_183 t_1_184 t_1_185 (c_B_canMoveAny L bo ra ro rt gr own oth p k hp g0 g1 hO hT ⟨by omega, by omega⟩) (fun h => h) (Rm_h (by decide) (by decide)) [2, 3, 4, 5] [0, 1] rfl rfl rfl rfl (by decide) 0 rfl rfl rfl rfl (Nat.le_of_ble_eq_true rfl) d_H_canMoveGreater_28 (fun w' hw => ?_)
          obtain rfl : w' = [(bo, .inr (0, [.ref ra])), (ra, aR L 2 gr), (ro, aI L 26 own), (rt, aI L 26 oth)] := hw
          show J L X 3 0 0 [(ho, .inr (1, [.ref di, .int (z_i us), .ref bo, .int (z_i p), .int (z_i ct)])), (di, aI L 7 dice), (bo, .inr (0, [.ref ra])), (ra, aR L 2 gr), (ro, aI L 26 own), (rt, aI L 26 oth)] [(2, .int (z_i k)), (0, .ref ho), (1, .int (z_i d))] [.int (z_i (b2 (∃ f, bd_can own oth f k)))] 31
          refine J_if_eq E 36 d_H_canMoveGreater_31 (by decide) (b2_r _) (fun h31 => ?_) (fun h31 => ?_)
          · refine J_iinc E 0 [(2, .int (z_i (k + 1))), (0, .ref ho), (1, .int (z_i d))] d_H_canMoveGreater_36 rfl (by decide) rfl ?_
            refine J_goto E 4 d_H_canMoveGreater_39 (by decide) ?_
            exact ih4 (k + 1) (by omega) (fun g q1 q2 q3 => by rcases (show g = k ∨ g < k by omega) with e | e; (rw [e] at q3; exact b2_not h31 q3.2); exact hr g q1 e q3) (by omega)
          · refine J_iconst E d_H_canMoveGreater_34 ?_
            exact J_zreturn E F (by omega) (b2_t ⟨k, ⟨by omega, by omega⟩, h16, b2_of h31⟩).symm rfl d_H_canMoveGreater_35
  exact C4 _ (d + 1) (by omega) (fun g q1 q2 => by omega) (Nat.lt_succ_self _)
set_option maxHeartbeats 4000000 in
set_option maxRecDepth 100000 in
theorem c_H_isRight (L : Lx) (ho di : Nat) (bo ra ro rt : Nat) (gr : Nat → Option Nat) (own oth : Int → Int) (p : Int) (dice : Int → Int) (us ct : Int) (f d : Int) (hp : p = 0 ∨ p = 1) (g0 : gr p.toNat = some ro) (g1 : gr (1 - p).toNat = some rt) (hO : bd_ok own) (hT : bd_ok oth) (hc : dc_ok dice) (hct : ct = bd_sum dice) (hc4 : ct ≤ 4) (hus : 0 ≤ us ∧ us ≤ 4) (hf : z_r f) (hd : z_r d) : CtG L y_H_isRight b_H_isRight 3 (some .boolean) (rmh 12) false 0 0 [.ref ho, .int (z_i f), .int (z_i d)] [(ho, .inr (1, [.ref di, .int (z_i us), .ref bo, .int (z_i p), .int (z_i ct)])), (di, aI L 7 dice), (bo, .inr (0, [.ref ra])), (ra, aR L 2 gr), (ro, aI L 26 own), (rt, aI L 26 oth)] (fun u => u = [(ho, .inr (1, [.ref di, .int (z_i us), .ref bo, .int (z_i p), .int (z_i ct)])), (di, aI L 7 dice), (bo, .inr (0, [.ref ra])), (ra, aR L 2 gr), (ro, aI L 26 own), (rt, aI L 26 oth)]) (some (.int (z_i (b2 (rt_ok own oth dice us f d))))) := by
  refine CtG.of rfl (Nat.le_of_ble_eq_true rfl) (fun X E F => ?_)
  show J L X 3 0 0 [(ho, .inr (1, [.ref di, .int (z_i us), .ref bo, .int (z_i p), .int (z_i ct)])), (di, aI L 7 dice), (bo, .inr (0, [.ref ra])), (ra, aR L 2 gr), (ro, aI L 26 own), (rt, aI L 26 oth)] [(0, .ref ho), (1, .int (z_i f)), (2, .int (z_i d))] [] 0
  refine J_iload_n E 2 d_H_isRight_0 rfl rfl ?_
  refine J_callSN (wr := [(ho, .inr (1, [.ref di, .int (z_i us), .ref bo, .int (z_i p), .int (z_i ct)])), (di, aI L 7 dice), (bo, .inr (0, [.ref ra])), (ra, aR L 2 gr), (ro, aI L 26 own), (rt, aI L 26 oth)]) (rest := []) E kb_T_isNumber t_1_178 t_1_134 (c_T_isNumber L d hd) (fun h => h) (Rm_h (by decide) (by decide)) [] [0, 1, 2, 3, 4, 5] rfl rfl rfl rfl (by decide) rfl rfl (Nat.le_of_ble_eq_true rfl) d_H_isRight_1 (fun w' hw => ?_)
  obtain rfl : w' = [] := hw
  show J L X 3 0 0 [(ho, .inr (1, [.ref di, .int (z_i us), .ref bo, .int (z_i p), .int (z_i ct)])), (di, aI L 7 dice), (bo, .inr (0, [.ref ra])), (ra, aR L 2 gr), (ro, aI L 26 own), (rt, aI L 26 oth)] [(0, .ref ho), (1, .int (z_i f)), (2, .int (z_i d))] [.int (z_i (b2 (1 ≤ d ∧ d ≤ 6)))] 4
  refine J_if_eq E 32 d_H_isRight_4 (by decide) (b2_r _) (fun h4 => ?_) (fun h4 => ?_)
  · have hdd := b2_not h4
    refine J_iconst E d_H_isRight_32 ?_
    exact J_zreturn E F (by omega) (b2_f (fun q => hdd q.1)).symm rfl d_H_isRight_33
  · have hdd := b2_of h4
    refine J_aload_n E 0 d_H_isRight_7 rfl rfl ?_
    refine g_H_9 E 0 rfl rfl d_H_isRight_8 ?_
    refine J_iload_n E 2 d_H_isRight_11 rfl rfl ?_
    refine J_iald E 1 rfl (by decide) (by exact ⟨by omega, by omega⟩) d_H_isRight_12 ?_
    refine J_if_eq E 32 d_H_isRight_13 (by decide) (by have := hc d; exact ⟨by omega, by omega⟩) (fun h13 => ?_) (fun h13 => ?_)
    · refine J_iconst E d_H_isRight_32 ?_
      exact J_zreturn E F (by omega) (b2_f (fun q => q.2.1 h13)).symm rfl d_H_isRight_33
    · refine J_aload_n E 0 d_H_isRight_16 rfl rfl ?_
      refine g_H_15 E 0 rfl rfl d_H_isRight_17 ?_
      refine J_aload_n E 0 d_H_isRight_20 rfl rfl ?_
      refine g_H_23 E 0 rfl rfl d_H_isRight_21 ?_
      refine J_iload_n E 1 d_H_isRight_24 rfl rfl ?_
      refine J_iload_n E 2 d_H_isRight_25 rfl rfl ?_
      refine J_callV (wr := [(ho, .inr (1, [.ref di, .int (z_i us), .ref bo, .int (z_i p), .int (z_i ct)])), (di, aI L 7 dice)]) (rest := []) E kb_B_canMove t_1_144 t_1_145 t_1_146 (c_B_canMove L bo ra ro rt gr own oth p f d hp g0 g1 hO hT hf hd) (fun h => h) (Rm_h (by decide) (by decide)) [2, 3, 4, 5] [0, 1] rfl rfl rfl rfl (by decide) 0 rfl rfl rfl rfl (Nat.le_of_ble_eq_true rfl) d_H_isRight_26 (fun w' hw => ?_)
      obtain rfl : w' = [(bo, .inr (0, [.ref ra])), (ra, aR L 2 gr), (ro, aI L 26 own), (rt, aI L 26 oth)] := hw
      show J L X 3 0 0 [(ho, .inr (1, [.ref di, .int (z_i us), .ref bo, .int (z_i p), .int (z_i ct)])), (di, aI L 7 dice), (bo, .inr (0, [.ref ra])), (ra, aR L 2 gr), (ro, aI L 26 own), (rt, aI L 26 oth)] [(0, .ref ho), (1, .int (z_i f)), (2, .int (z_i d))] [.int (z_i (b2 (bd_can own oth f d)))] 29
      refine J_if_ne E 34 d_H_isRight_29 (by decide) (b2_r _) (fun h29 => ?_) (fun h29 => ?_)
      · have hcan := b2_of h29
        have hdp : 0 < dice d := by have := hc d; omega
        have hsd := bd_sum_u dice (v := 0) hdd.1 hdd.2
        have hz0 : 0 ≤ bd_sum (z_u dice d 0) := by unfold bd_sum; have a1 := z_ui dice d 0 1; have a2 := z_ui dice d 0 2; have a3 := z_ui dice d 0 3; have a4 := z_ui dice d 0 4; have a5 := z_ui dice d 0 5; have a6 := z_ui dice d 0 6; have b1 := hc 1; have b2 := hc 2; have b3 := hc 3; have b4 := hc 4; have b5 := hc 5; have b6 := hc 6; omega
        have hkk : ct = ((ct.toNat - 1 + 1 : Nat) : Int) := by omega
        have hMA := c_MUA (ct.toNat - 1)
        have hdu := bd_due_ex oth (z_u dice d (dice d - 1)) (bd_sh own f d) (mu_nn dice (fun d => (hc d).1) hdp) (by have := bd_sum_u dice (v := dice d - 1) hdd.1 hdd.2; omega)
        have hdl := bd_sum_u dice (v := dice d - 1) hdd.1 hdd.2
        refine J_aload_n E 0 d_H_isRight_34 rfl rfl ?_
        refine g_H_30 E 0 rfl rfl d_H_isRight_35 ?_
        refine J_iconst E d_H_isRight_38 ?_
        refine J_icmp_ne E 52 d_H_isRight_39 (by decide) (by exact ⟨⟨by omega, by omega⟩, ⟨by omega, by omega⟩⟩) (fun h39 => ?_) (fun h39 => ?_)
        · refine J_aload_n E 0 d_H_isRight_52 rfl rfl ?_
          refine J_iload_n E 1 d_H_isRight_53 rfl rfl ?_
          refine J_iload_n E 2 d_H_isRight_54 rfl rfl ?_
          refine J_aload_n E 0 d_H_isRight_55 rfl rfl ?_
          refine g_H_19 E 0 rfl rfl d_H_isRight_56 ?_
          refine J_callV (wr := []) (rest := []) E kb_H_mostUsableAfter t_1_152 t_1_154 ts_H_mostUsableAfter (hMA L ho di bo ra ro rt gr own oth p dice us ct ct f d hp g0 g1 hO hT hc hct.symm ⟨by omega, hc4⟩ ⟨hcan.1, hcan.2.1⟩ hdd hdp hcan.2.2.2.2.1 hkk) (fun h => h) (Rm_h (by omega) (by decide)) [0, 1, 2, 3, 4, 5] [] rfl rfl rfl rfl (by decide) 0 rfl rfl rfl rfl (Nat.le_of_ble_eq_true rfl) d_H_isRight_59 (fun w' hw => ?_)
          obtain rfl : w' = [(ho, .inr (1, [.ref di, .int (z_i us), .ref bo, .int (z_i p), .int (z_i ct)])), (di, aI L 7 dice), (bo, .inr (0, [.ref ra])), (ra, aR L 2 gr), (ro, aI L 26 own), (rt, aI L 26 oth)] := hw
          show J L X 3 0 0 [(ho, .inr (1, [.ref di, .int (z_i us), .ref bo, .int (z_i p), .int (z_i ct)])), (di, aI L 7 dice), (bo, .inr (0, [.ref ra])), (ra, aR L 2 gr), (ro, aI L 26 own), (rt, aI L 26 oth)] [(0, .ref ho), (1, .int (z_i f)), (2, .int (z_i d))] [.int (z_i (((bd_due oth (z_u dice d (dice d - 1)) (bd_sh own f d) : Nat) : Int)))] 62
          refine J_aload_n E 0 d_H_isRight_62 rfl rfl ?_
          refine g_H_30 E 0 rfl rfl d_H_isRight_63 ?_
          refine J_iconst E d_H_isRight_66 ?_
          refine J_isub E d_H_isRight_67 ?_
          refine J_icmp_ne E 75 d_H_isRight_68 (by decide) (by have := hdu.2.2; exact ⟨⟨by omega, by omega⟩, by omega, by omega⟩) (fun h68 => ?_) (fun h68 => ?_)
          · refine J_iconst E d_H_isRight_75 ?_
            exact J_zreturn E F (by omega) (b2_f (fun q => h68 q.2.2.2.2)).symm rfl d_H_isRight_76
          · refine J_iconst E d_H_isRight_71 ?_
            refine J_goto E 76 d_H_isRight_72 (by decide) ?_
            exact J_zreturn E F (by omega) (b2_t ⟨hdd, h13, hcan, fun q => h39 q.1, h68⟩).symm rfl d_H_isRight_76
        · refine J_aload_n E 0 d_H_isRight_42 rfl rfl ?_
          refine J_iload_n E 2 d_H_isRight_43 rfl rfl ?_
          refine J_callV (wr := []) (rest := []) E kb_H_canMoveGreater t_1_179 t_1_181 ts_H_canMoveGreater (c_H_canMoveGreater L ho di bo ra ro rt gr own oth p dice us ct d hp g0 g1 hO hT hc hdd) (fun h => h) (Rm_h (by decide) (by decide)) [0, 1, 2, 3, 4, 5] [] rfl rfl rfl rfl (by decide) 0 rfl rfl rfl rfl (Nat.le_of_ble_eq_true rfl) d_H_isRight_44 (fun w' hw => ?_)
          obtain rfl : w' = [(ho, .inr (1, [.ref di, .int (z_i us), .ref bo, .int (z_i p), .int (z_i ct)])), (di, aI L 7 dice), (bo, .inr (0, [.ref ra])), (ra, aR L 2 gr), (ro, aI L 26 own), (rt, aI L 26 oth)] := hw
          show J L X 3 0 0 [(ho, .inr (1, [.ref di, .int (z_i us), .ref bo, .int (z_i p), .int (z_i ct)])), (di, aI L 7 dice), (bo, .inr (0, [.ref ra])), (ra, aR L 2 gr), (ro, aI L 26 own), (rt, aI L 26 oth)] [(0, .ref ho), (1, .int (z_i f)), (2, .int (z_i d))] [.int (z_i (b2 (∃ g, (d < g ∧ g ≤ 6) ∧ 0 < dice g ∧ ∃ x, bd_can own oth x g)))] 47
          refine J_if_eq E 52 d_H_isRight_47 (by decide) (b2_r _) (fun h47 => ?_) (fun h47 => ?_)
          · refine J_aload_n E 0 d_H_isRight_52 rfl rfl ?_
            refine J_iload_n E 1 d_H_isRight_53 rfl rfl ?_
            refine J_iload_n E 2 d_H_isRight_54 rfl rfl ?_
            refine J_aload_n E 0 d_H_isRight_55 rfl rfl ?_
            refine g_H_19 E 0 rfl rfl d_H_isRight_56 ?_
            refine J_callV (wr := []) (rest := []) E kb_H_mostUsableAfter t_1_152 t_1_154 ts_H_mostUsableAfter (hMA L ho di bo ra ro rt gr own oth p dice us ct ct f d hp g0 g1 hO hT hc hct.symm ⟨by omega, hc4⟩ ⟨hcan.1, hcan.2.1⟩ hdd hdp hcan.2.2.2.2.1 hkk) (fun h => h) (Rm_h (by omega) (by decide)) [0, 1, 2, 3, 4, 5] [] rfl rfl rfl rfl (by decide) 0 rfl rfl rfl rfl (Nat.le_of_ble_eq_true rfl) d_H_isRight_59 (fun w' hw => ?_)
            obtain rfl : w' = [(ho, .inr (1, [.ref di, .int (z_i us), .ref bo, .int (z_i p), .int (z_i ct)])), (di, aI L 7 dice), (bo, .inr (0, [.ref ra])), (ra, aR L 2 gr), (ro, aI L 26 own), (rt, aI L 26 oth)] := hw
            show J L X 3 0 0 [(ho, .inr (1, [.ref di, .int (z_i us), .ref bo, .int (z_i p), .int (z_i ct)])), (di, aI L 7 dice), (bo, .inr (0, [.ref ra])), (ra, aR L 2 gr), (ro, aI L 26 own), (rt, aI L 26 oth)] [(0, .ref ho), (1, .int (z_i f)), (2, .int (z_i d))] [.int (z_i (((bd_due oth (z_u dice d (dice d - 1)) (bd_sh own f d) : Nat) : Int)))] 62
            refine J_aload_n E 0 d_H_isRight_62 rfl rfl ?_
            refine g_H_30 E 0 rfl rfl d_H_isRight_63 ?_
            refine J_iconst E d_H_isRight_66 ?_
            refine J_isub E d_H_isRight_67 ?_
            refine J_icmp_ne E 75 d_H_isRight_68 (by decide) (by have := hdu.2.2; exact ⟨⟨by omega, by omega⟩, by omega, by omega⟩) (fun h68 => ?_) (fun h68 => ?_)
            · refine J_iconst E d_H_isRight_75 ?_
              exact J_zreturn E F (by omega) (b2_f (fun q => h68 q.2.2.2.2)).symm rfl d_H_isRight_76
            · refine J_iconst E d_H_isRight_71 ?_
              refine J_goto E 76 d_H_isRight_72 (by decide) ?_
              exact J_zreturn E F (by omega) (b2_t ⟨hdd, h13, hcan, fun q => b2_not h47 q.2, h68⟩).symm rfl d_H_isRight_76
          · refine J_iconst E d_H_isRight_50 ?_
            exact J_zreturn E F (by omega) (b2_f (fun q => q.2.2.2.1 ⟨h39, b2_of h47⟩)).symm rfl d_H_isRight_51
      · have hcan := b2_not h29
        refine J_iconst E d_H_isRight_32 ?_
        exact J_zreturn E F (by omega) (b2_f (fun q => hcan q.2.2.1)).symm rfl d_H_isRight_33
set_option maxHeartbeats 4000000 in
set_option maxRecDepth 100000 in
theorem c_H_countRight (L : Lx) (ho di : Nat) (bo ra ro rt : Nat) (gr : Nat → Option Nat) (own oth : Int → Int) (p : Int) (dice : Int → Int) (us ct : Int) (hp : p = 0 ∨ p = 1) (g0 : gr p.toNat = some ro) (g1 : gr (1 - p).toNat = some rt) (hO : bd_ok own) (hT : bd_ok oth) (hc : dc_ok dice) (hct : ct = bd_sum dice) (hc4 : ct ≤ 4) (hus : 0 ≤ us ∧ us ≤ 4) : CtG L y_H_countRight b_H_countRight 4 (some .int) (rmh 13) false 0 0 [.ref ho] [(ho, .inr (1, [.ref di, .int (z_i us), .ref bo, .int (z_i p), .int (z_i ct)])), (di, aI L 7 dice), (bo, .inr (0, [.ref ra])), (ra, aR L 2 gr), (ro, aI L 26 own), (rt, aI L 26 oth)] (fun u => u = [(ho, .inr (1, [.ref di, .int (z_i us), .ref bo, .int (z_i p), .int (z_i ct)])), (di, aI L 7 dice), (bo, .inr (0, [.ref ra])), (ra, aR L 2 gr), (ro, aI L 26 own), (rt, aI L 26 oth)]) (some (.int (z_i (rc own oth dice us 150)))) := by
  refine CtG.of rfl (Nat.le_of_ble_eq_true rfl) (fun X E F => ?_)
  show J L X 4 0 0 [(ho, .inr (1, [.ref di, .int (z_i us), .ref bo, .int (z_i p), .int (z_i ct)])), (di, aI L 7 dice), (bo, .inr (0, [.ref ra])), (ra, aR L 2 gr), (ro, aI L 26 own), (rt, aI L 26 oth)] [(0, .ref ho)] [] 0
  refine J_iconst E d_H_countRight_0 ?_
  refine J_istore_n E [(1, .int (z_i 0)), (0, .ref ho)] d_H_countRight_1 rfl (by decide) rfl ?_
  refine J_bipush E d_H_countRight_2 (by decide) ?_
  refine J_istore_n E [(2, .int (z_i 25)), (1, .int (z_i 0)), (0, .ref ho)] d_H_countRight_4 rfl (by decide) rfl ?_
  have C5 : ∀ (mm : Nat) (f : Int) (c : Int), (0 ≤ f ∧ f ≤ 25) → (c = rc own oth dice us (6 * (25 - f) + (6 - 6)).toNat) → f.toNat < mm → J L X 4 0 0 [(ho, .inr (1, [.ref di, .int (z_i us), .ref bo, .int (z_i p), .int (z_i ct)])), (di, aI L 7 dice), (bo, .inr (0, [.ref ra])), (ra, aR L 2 gr), (ro, aI L 26 own), (rt, aI L 26 oth)] [(2, .int (z_i f)), (1, .int (z_i c)), (0, .ref ho)] [] 5 := by
    intro mm
    induction mm with
    | zero => intro f c hf he hmm; exact absurd hmm (Nat.not_lt_zero _)
    | succ mm ih5 =>
      intro f c hf he hmm
      refine J_iload_n E 0 d_H_countRight_5 rfl rfl ?_
      refine J_iconst E d_H_countRight_6 ?_
      refine J_icmp_lt E 42 d_H_countRight_7 (by decide) (by exact ⟨⟨by omega, by omega⟩, ⟨by omega, by omega⟩⟩) (fun h7 => ?_) (fun h7 => ?_)
      · refine J_iload_n E 1 d_H_countRight_42 rfl rfl ?_
        exact J_ireturn E F (by rw [he, show f = 0 by omega]; rfl) rfl d_H_countRight_43
      · refine J_bipush E d_H_countRight_10 (by decide) ?_
        refine J_istore_n E [(3, .int (z_i 6)), (2, .int (z_i f)), (1, .int (z_i c)), (0, .ref ho)] d_H_countRight_12 rfl (by decide) rfl ?_
        have C13 : ∀ (mm : Nat) (d : Int) (c2 : Int), (0 ≤ d ∧ d ≤ 6) → (c2 = rc own oth dice us (6 * (25 - f) + (6 - d)).toNat) → d.toNat < mm → J L X 4 0 0 [(ho, .inr (1, [.ref di, .int (z_i us), .ref bo, .int (z_i p), .int (z_i ct)])), (di, aI L 7 dice), (bo, .inr (0, [.ref ra])), (ra, aR L 2 gr), (ro, aI L 26 own), (rt, aI L 26 oth)] [(3, .int (z_i d)), (1, .int (z_i c2)), (2, .int (z_i f)), (0, .ref ho)] [] 13 := by
          intro mm
          induction mm with
          | zero => intro d c2 hd he2 hmm; exact absurd hmm (Nat.not_lt_zero _)
          | succ mm ih13 =>
            intro d c2 hd he2 hmm
            refine J_iload_n E 0 d_H_countRight_13 rfl rfl ?_
            refine J_iconst E d_H_countRight_14 ?_
            refine J_icmp_lt E 36 d_H_countRight_15 (by decide) (by exact ⟨⟨by omega, by omega⟩, ⟨by omega, by omega⟩⟩) (fun h15 => ?_) (fun h15 => ?_)
            · refine J_iinc E 2 [(2, .int (z_i (f + (-1)))), (3, .int (z_i d)), (1, .int (z_i c2)), (0, .ref ho)] d_H_countRight_36 rfl (by decide) rfl ?_
              refine J_goto E 5 d_H_countRight_39 (by decide) ?_
              refine J_lv (lv' := [(2, .int (z_i (f + (-1)))), (1, .int (z_i c2)), (0, .ref ho)]) [0, 2, 3] rfl ?_
              exact ih5 (f + (-1)) c2 (by omega) (by rw [he2]; congr 1; omega) (by omega)
            · refine J_aload_n E 3 d_H_countRight_18 rfl rfl ?_
              refine J_iload_n E 2 d_H_countRight_19 rfl rfl ?_
              refine J_iload_n E 0 d_H_countRight_20 rfl rfl ?_
              refine J_callV (wr := []) (rest := []) E kb_H_isRight t_1_220 t_1_175 t_1_176 (c_H_isRight L ho di bo ra ro rt gr own oth p dice us ct f d hp g0 g1 hO hT hc hct hc4 hus ⟨by omega, by omega⟩ ⟨by omega, by omega⟩) (fun h => h) (Rm_h (by decide) (by decide)) [0, 1, 2, 3, 4, 5] [] rfl rfl rfl rfl (by decide) 0 rfl rfl rfl rfl (Nat.le_of_ble_eq_true rfl) d_H_countRight_21 (fun w' hw => ?_)
              obtain rfl : w' = [(ho, .inr (1, [.ref di, .int (z_i us), .ref bo, .int (z_i p), .int (z_i ct)])), (di, aI L 7 dice), (bo, .inr (0, [.ref ra])), (ra, aR L 2 gr), (ro, aI L 26 own), (rt, aI L 26 oth)] := hw
              show J L X 4 0 0 [(ho, .inr (1, [.ref di, .int (z_i us), .ref bo, .int (z_i p), .int (z_i ct)])), (di, aI L 7 dice), (bo, .inr (0, [.ref ra])), (ra, aR L 2 gr), (ro, aI L 26 own), (rt, aI L 26 oth)] [(3, .int (z_i d)), (1, .int (z_i c2)), (2, .int (z_i f)), (0, .ref ho)] [.int (z_i (b2 (rt_ok own oth dice us f d)))] 24
              refine J_if_eq E 30 d_H_countRight_24 (by decide) (b2_r _) (fun h24 => ?_) (fun h24 => ?_)
              · have hq := b2_not h24
                refine J_iinc E 0 [(3, .int (z_i (d + (-1)))), (1, .int (z_i c2)), (2, .int (z_i f)), (0, .ref ho)] d_H_countRight_30 rfl (by decide) rfl ?_
                refine J_goto E 13 d_H_countRight_33 (by decide) ?_
                exact ih13 (d + (-1)) c2 (by omega) (by rw [rc_f (by omega) (by omega) hq]; exact he2) (by omega)
              · have hq := b2_of h24
                refine J_iinc E 1 [(1, .int (z_i (c2 + 1))), (3, .int (z_i d)), (2, .int (z_i f)), (0, .ref ho)] d_H_countRight_27 rfl (by decide) rfl ?_
                refine J_iinc E 1 [(3, .int (z_i (d + (-1)))), (1, .int (z_i (c2 + 1))), (2, .int (z_i f)), (0, .ref ho)] d_H_countRight_30 rfl (by decide) rfl ?_
                refine J_goto E 13 d_H_countRight_33 (by decide) ?_
                exact ih13 (d + (-1)) (c2 + 1) (by omega) (by rw [rc_t (by omega) (by omega) hq, he2]) (by omega)
        refine J_lv (lv' := [(3, .int (z_i 6)), (1, .int (z_i c)), (2, .int (z_i f)), (0, .ref ho)]) [0, 2, 1, 3] rfl ?_
        exact C13 _ 6 c (by decide) he (Nat.lt_succ_self _)
  exact C5 _ 25 0 (by decide) rfl (Nat.lt_succ_self _)
set_option maxHeartbeats 4000000 in
set_option maxRecDepth 100000 in
theorem c_H_use (L : Lx) (ho di : Nat) (bo ra ro rt : Nat) (gr : Nat → Option Nat) (own oth : Int → Int) (p : Int) (dice : Int → Int) (us ct : Int) (f d : Int) (hp : p = 0 ∨ p = 1) (g0 : gr p.toNat = some ro) (g1 : gr (1 - p).toNat = some rt) (hO : bd_ok own) (hT : bd_ok oth) (hc : dc_ok dice) (hf : 1 ≤ f ∧ f ≤ 25) (hd : 1 ≤ d ∧ d ≤ 6) (hf0 : own f ≠ 0) : CtG L y_H_use b_H_use 3 none (rmh 2) false 0 0 [.ref ho, .int (z_i f), .int (z_i d)] [(ho, .inr (1, [.ref di, .int (z_i us), .ref bo, .int (z_i p), .int (z_i ct)])), (di, aI L 7 dice), (bo, .inr (0, [.ref ra])), (ra, aR L 2 gr), (ro, aI L 26 own), (rt, aI L 26 oth)] (fun u => u = [(ho, .inr (1, [.ref di, .int (z_i (us - 1)), .ref bo, .int (z_i p), .int (z_i (ct - 1))])), (di, aI L 7 (z_u dice d ((dice d) - 1))), (bo, .inr (0, [.ref ra])), (ra, aR L 2 gr), (ro, aI L 26 (bd_sh own f d)), (rt, aI L 26 (bd_hit oth (f - d)))]) none := by
  refine CtG.of rfl (Nat.le_of_ble_eq_true rfl) (fun X E F => ?_)
  show J L X 3 0 0 [(ho, .inr (1, [.ref di, .int (z_i us), .ref bo, .int (z_i p), .int (z_i ct)])), (di, aI L 7 dice), (bo, .inr (0, [.ref ra])), (ra, aR L 2 gr), (ro, aI L 26 own), (rt, aI L 26 oth)] [(0, .ref ho), (1, .int (z_i f)), (2, .int (z_i d))] [] 0
  have hO2 := bd_sh_ok hO hf.1 hf.2 hd.1 hf0
  refine J_aload_n E 0 d_H_use_0 rfl rfl ?_
  refine g_H_15 E 0 rfl rfl d_H_use_1 ?_
  refine J_aload_n E 0 d_H_use_4 rfl rfl ?_
  refine g_H_23 E 0 rfl rfl d_H_use_5 ?_
  refine J_iload_n E 1 d_H_use_8 rfl rfl ?_
  refine J_iload_n E 2 d_H_use_9 rfl rfl ?_
  refine J_callV (wr := [(ho, .inr (1, [.ref di, .int (z_i us), .ref bo, .int (z_i p), .int (z_i ct)])), (di, aI L 7 dice)]) (rest := []) E kb_B_shift t_1_156 t_1_157 t_1_158 (c_B_shift L bo ra ro rt gr own oth p f d hp g0 g1 hO hT hf hd) (fun h => h) (Rm_h (by decide) (by decide)) [2, 3, 4, 5] [0, 1] rfl rfl rfl rfl (by decide) 0 rfl rfl rfl rfl (Nat.le_of_ble_eq_true rfl) d_H_use_10 (fun w' hw => ?_)
  obtain rfl : w' = [(bo, .inr (0, [.ref ra])), (ra, aR L 2 gr), (ro, aI L 26 (bd_sh own f d)), (rt, aI L 26 oth)] := hw
  show J L X 3 0 0 [(ho, .inr (1, [.ref di, .int (z_i us), .ref bo, .int (z_i p), .int (z_i ct)])), (di, aI L 7 dice), (bo, .inr (0, [.ref ra])), (ra, aR L 2 gr), (ro, aI L 26 (bd_sh own f d)), (rt, aI L 26 oth)] [(0, .ref ho), (1, .int (z_i f)), (2, .int (z_i d))] [] 13
  refine J_aload_n E 0 d_H_use_13 rfl rfl ?_
  refine g_H_15 E 0 rfl rfl d_H_use_14 ?_
  refine J_aload_n E 0 d_H_use_17 rfl rfl ?_
  refine g_H_23 E 0 rfl rfl d_H_use_18 ?_
  refine J_iload_n E 1 d_H_use_21 rfl rfl ?_
  refine J_iload_n E 2 d_H_use_22 rfl rfl ?_
  refine J_isub E d_H_use_23 ?_
  refine J_callV (wr := [(ho, .inr (1, [.ref di, .int (z_i us), .ref bo, .int (z_i p), .int (z_i ct)])), (di, aI L 7 dice)]) (rest := []) E kb_B_hit t_1_196 t_1_197 t_1_198 (c_B_hit L bo ra ro rt gr (bd_sh own f d) oth p (f - d) hp g0 g1 hO2 hT ⟨by omega, by omega⟩) (fun h => h) (Rm_h (by decide) (by decide)) [2, 3, 4, 5] [0, 1] rfl rfl rfl rfl (by decide) 0 rfl rfl rfl rfl (Nat.le_of_ble_eq_true rfl) d_H_use_24 (fun w' hw => ?_)
  obtain rfl : w' = [(bo, .inr (0, [.ref ra])), (ra, aR L 2 gr), (ro, aI L 26 (bd_sh own f d)), (rt, aI L 26 (bd_hit oth (f - d)))] := hw
  show J L X 3 0 0 [(ho, .inr (1, [.ref di, .int (z_i us), .ref bo, .int (z_i p), .int (z_i ct)])), (di, aI L 7 dice), (bo, .inr (0, [.ref ra])), (ra, aR L 2 gr), (ro, aI L 26 (bd_sh own f d)), (rt, aI L 26 (bd_hit oth (f - d)))] [(0, .ref ho), (1, .int (z_i f)), (2, .int (z_i d))] [] 27
  refine J_aload_n E 0 d_H_use_27 rfl rfl ?_
  refine g_H_9 E 0 rfl rfl d_H_use_28 ?_
  refine J_iload_n E 2 d_H_use_31 rfl rfl ?_
  refine J_dup2 E d_H_use_32 rfl rfl ?_
  refine J_iald E 1 rfl (by decide) (by exact ⟨by omega, by omega⟩) d_H_use_33 ?_
  refine J_iconst E d_H_use_34 ?_
  refine J_isub E d_H_use_35 ?_
  refine J_iast E 1 [(ho, .inr (1, [.ref di, .int (z_i us), .ref bo, .int (z_i p), .int (z_i ct)])), (di, aI L 7 (z_u dice d ((dice d) - 1))), (bo, .inr (0, [.ref ra])), (ra, aR L 2 gr), (ro, aI L 26 (bd_sh own f d)), (rt, aI L 26 (bd_hit oth (f - d)))] rfl rfl (by decide) (by exact ⟨by omega, by omega⟩) d_H_use_36 ?_
  refine J_aload_n E 0 d_H_use_37 rfl rfl ?_
  refine J_dup E d_H_use_38 rfl ?_
  refine g_H_19 E 0 rfl rfl d_H_use_39 ?_
  refine J_iconst E d_H_use_42 ?_
  refine J_isub E d_H_use_43 ?_
  refine p_H_19 E 0 [(ho, .inr (1, [.ref di, .int (z_i us), .ref bo, .int (z_i p), .int (z_i (ct - 1))])), (di, aI L 7 (z_u dice d ((dice d) - 1))), (bo, .inr (0, [.ref ra])), (ra, aR L 2 gr), (ro, aI L 26 (bd_sh own f d)), (rt, aI L 26 (bd_hit oth (f - d)))] rfl rfl (Nat.le_of_ble_eq_true rfl) d_H_use_44 ?_
  refine J_aload_n E 0 d_H_use_47 rfl rfl ?_
  refine J_dup E d_H_use_48 rfl ?_
  refine g_H_30 E 0 rfl rfl d_H_use_49 ?_
  refine J_iconst E d_H_use_52 ?_
  refine J_isub E d_H_use_53 ?_
  refine p_H_30 E 0 [(ho, .inr (1, [.ref di, .int (z_i (us - 1)), .ref bo, .int (z_i p), .int (z_i (ct - 1))])), (di, aI L 7 (z_u dice d ((dice d) - 1))), (bo, .inr (0, [.ref ra])), (ra, aR L 2 gr), (ro, aI L 26 (bd_sh own f d)), (rt, aI L 26 (bd_hit oth (f - d)))] rfl rfl (Nat.le_of_ble_eq_true rfl) d_H_use_54 ?_
  exact J_return E F rfl d_H_use_57
set_option maxHeartbeats 4000000 in
set_option maxRecDepth 100000 in
theorem c_H_take (L : Lx) (ho di : Nat) (bo ra ro rt : Nat) (gr : Nat → Option Nat) (own oth : Int → Int) (p0 : Int) (dice : Int → Int) (us ct : Int) (p a b : Int) (hp : p = 0 ∨ p = 1) (g0 : gr p.toNat = some ro) (g1 : gr (1 - p).toNat = some rt) (hO : bd_ok own) (hT : bd_ok oth) (hc : dc_ok dice) (ha : 1 ≤ a ∧ a ≤ 6) (hb : 1 ≤ b ∧ b ≤ 6) : CtG L y_H_take b_H_take 5 none (rmh 12) false 0 0 [.ref ho, .int (z_i p), .int (z_i a), .int (z_i b)] [(ho, .inr (1, [.ref di, .int (z_i us), .ref bo, .int (z_i p0), .int (z_i ct)])), (di, aI L 7 dice), (bo, .inr (0, [.ref ra])), (ra, aR L 2 gr), (ro, aI L 26 own), (rt, aI L 26 oth)] (fun u => u = [(ho, .inr (1, [.ref di, .int (z_i (((bd_due oth (tk_d dice a b) own : Nat) : Int))), .ref bo, .int (z_i p), .int (z_i (2 * (tk_n a b)))])), (di, aI L 7 (tk_d dice a b)), (bo, .inr (0, [.ref ra])), (ra, aR L 2 gr), (ro, aI L 26 own), (rt, aI L 26 oth)]) none := by
  refine CtG.of rfl (Nat.le_of_ble_eq_true rfl) (fun X E F => ?_)
  show J L X 5 0 0 [(ho, .inr (1, [.ref di, .int (z_i us), .ref bo, .int (z_i p0), .int (z_i ct)])), (di, aI L 7 dice), (bo, .inr (0, [.ref ra])), (ra, aR L 2 gr), (ro, aI L 26 own), (rt, aI L 26 oth)] [(0, .ref ho), (1, .int (z_i p)), (2, .int (z_i a)), (3, .int (z_i b))] [] 0
  have hcz := tk_ok hc ha hb
  have hsz := tk_sum dice ha hb
  have hnn := tk_n_is a b
  refine J_iconst E d_H_take_0 ?_
  refine J_istore E [(4, .int (z_i 1)), (0, .ref ho), (1, .int (z_i p)), (2, .int (z_i a)), (3, .int (z_i b))] d_H_take_1 (by decide) rfl ?_
  have C3 : ∀ (mm : Nat) (k : Int) (dc : Int → Int), (1 ≤ k ∧ k ≤ 7) → (dc = tk_z dice k) → (7 - k).toNat < mm → J L X 5 0 0 [(ho, .inr (1, [.ref di, .int (z_i us), .ref bo, .int (z_i p0), .int (z_i ct)])), (di, aI L 7 dc), (bo, .inr (0, [.ref ra])), (ra, aR L 2 gr), (ro, aI L 26 own), (rt, aI L 26 oth)] [(4, .int (z_i k)), (0, .ref ho), (1, .int (z_i p)), (2, .int (z_i a)), (3, .int (z_i b))] [] 3 := by
    intro mm
    induction mm with
    | zero => intro k dc hk he hmm; exact absurd hmm (Nat.not_lt_zero _)
    | succ mm ih3 =>
      intro k dc hk he hmm
      refine J_iload E 0 d_H_take_3 rfl ?_
      refine J_bipush E d_H_take_5 (by decide) ?_
      refine J_icmp_gt E 24 d_H_take_7 (by decide) (by exact ⟨⟨by omega, by omega⟩, ⟨by omega, by omega⟩⟩) (fun h7 => ?_) (fun h7 => ?_)
      · obtain rfl : k = 7 := by omega
        subst he
        have C34 : ∀ (n : Int), (n = tk_n a b) → J L X 5 0 0 [(ho, .inr (1, [.ref di, .int (z_i us), .ref bo, .int (z_i p0), .int (z_i ct)])), (di, aI L 7 (tk_z dice 7)), (bo, .inr (0, [.ref ra])), (ra, aR L 2 gr), (ro, aI L 26 own), (rt, aI L 26 oth)] [(0, .ref ho), (1, .int (z_i p)), (2, .int (z_i a)), (3, .int (z_i b))] [.int (z_i n)] 34 := by
          intro n hn
          refine J_istore E [(4, .int (z_i n)), (0, .ref ho), (1, .int (z_i p)), (2, .int (z_i a)), (3, .int (z_i b))] d_H_take_34 (by decide) rfl ?_
          subst hn
          refine J_aload_n E 1 d_H_take_36 rfl rfl ?_
          refine g_H_9 E 0 rfl rfl d_H_take_37 ?_
          refine J_iload_n E 3 d_H_take_40 rfl rfl ?_
          refine J_dup2 E d_H_take_41 rfl rfl ?_
          refine J_iald E 1 rfl (by decide) (by exact ⟨by omega, by omega⟩) d_H_take_42 ?_
          refine J_iload E 0 d_H_take_43 rfl ?_
          refine J_iadd E d_H_take_45 ?_
          refine J_iast E 1 [(ho, .inr (1, [.ref di, .int (z_i us), .ref bo, .int (z_i p0), .int (z_i ct)])), (di, aI L 7 (z_u (tk_z dice 7) a (((tk_z dice 7) a) + (tk_n a b)))), (bo, .inr (0, [.ref ra])), (ra, aR L 2 gr), (ro, aI L 26 own), (rt, aI L 26 oth)] rfl rfl (by decide) (by exact ⟨by omega, by omega⟩) d_H_take_46 ?_
          refine J_aload_n E 1 d_H_take_47 rfl rfl ?_
          refine g_H_9 E 0 rfl rfl d_H_take_48 ?_
          refine J_iload_n E 4 d_H_take_51 rfl rfl ?_
          refine J_dup2 E d_H_take_52 rfl rfl ?_
          refine J_iald E 1 rfl (by decide) (by exact ⟨by omega, by omega⟩) d_H_take_53 ?_
          refine J_iload E 0 d_H_take_54 rfl ?_
          refine J_iadd E d_H_take_56 ?_
          refine J_iast E 1 [(ho, .inr (1, [.ref di, .int (z_i us), .ref bo, .int (z_i p0), .int (z_i ct)])), (di, aI L 7 (z_u (z_u (tk_z dice 7) a (((tk_z dice 7) a) + (tk_n a b))) b (((z_u (tk_z dice 7) a (((tk_z dice 7) a) + (tk_n a b))) b) + (tk_n a b)))), (bo, .inr (0, [.ref ra])), (ra, aR L 2 gr), (ro, aI L 26 own), (rt, aI L 26 oth)] rfl rfl (by decide) (by exact ⟨by omega, by omega⟩) d_H_take_57 ?_
          refine J_aload_n E 1 d_H_take_58 rfl rfl ?_
          refine J_iconst E d_H_take_59 ?_
          refine J_iload E 0 d_H_take_60 rfl ?_
          refine J_imul E d_H_take_62 ?_
          refine p_H_19 E 0 [(ho, .inr (1, [.ref di, .int (z_i us), .ref bo, .int (z_i p0), .int (z_i (2 * (tk_n a b)))])), (di, aI L 7 (z_u (z_u (tk_z dice 7) a (((tk_z dice 7) a) + (tk_n a b))) b (((z_u (tk_z dice 7) a (((tk_z dice 7) a) + (tk_n a b))) b) + (tk_n a b)))), (bo, .inr (0, [.ref ra])), (ra, aR L 2 gr), (ro, aI L 26 own), (rt, aI L 26 oth)] rfl rfl (Nat.le_of_ble_eq_true rfl) d_H_take_63 ?_
          refine J_aload_n E 1 d_H_take_66 rfl rfl ?_
          refine J_iload_n E 2 d_H_take_67 rfl rfl ?_
          refine p_H_23 E 0 [(ho, .inr (1, [.ref di, .int (z_i us), .ref bo, .int (z_i p), .int (z_i (2 * (tk_n a b)))])), (di, aI L 7 (z_u (z_u (tk_z dice 7) a (((tk_z dice 7) a) + (tk_n a b))) b (((z_u (tk_z dice 7) a (((tk_z dice 7) a) + (tk_n a b))) b) + (tk_n a b)))), (bo, .inr (0, [.ref ra])), (ra, aR L 2 gr), (ro, aI L 26 own), (rt, aI L 26 oth)] rfl rfl (Nat.le_of_ble_eq_true rfl) d_H_take_68 ?_
          refine J_aload_n E 1 d_H_take_71 rfl rfl ?_
          refine J_aload_n E 1 d_H_take_72 rfl rfl ?_
          refine J_aload_n E 1 d_H_take_73 rfl rfl ?_
          refine g_H_19 E 0 rfl rfl d_H_take_74 ?_
          refine J_callV (wr := []) (rest := [.ref ho]) E kb_H_mostUsable t_1_140 t_1_142 ts_H_mostUsable (c_MU (2 * tk_n a b).toNat L ho di bo ra ro rt gr own oth p (tk_d dice a b) us (2 * tk_n a b) (2 * tk_n a b) hp g0 g1 hO hT hcz hsz ⟨by omega, by omega⟩ (by omega)) (fun h => h) (Rm_h (by omega) (by decide)) [0, 1, 2, 3, 4, 5] [] rfl rfl rfl rfl (by decide) 0 rfl rfl rfl rfl (Nat.le_of_ble_eq_true rfl) d_H_take_77 (fun w' hw => ?_)
          obtain rfl : w' = [(ho, .inr (1, [.ref di, .int (z_i us), .ref bo, .int (z_i p), .int (z_i (2 * (tk_n a b)))])), (di, aI L 7 (tk_d dice a b)), (bo, .inr (0, [.ref ra])), (ra, aR L 2 gr), (ro, aI L 26 own), (rt, aI L 26 oth)] := hw
          show J L X 5 0 0 [(ho, .inr (1, [.ref di, .int (z_i us), .ref bo, .int (z_i p), .int (z_i (2 * (tk_n a b)))])), (di, aI L 7 (tk_d dice a b)), (bo, .inr (0, [.ref ra])), (ra, aR L 2 gr), (ro, aI L 26 own), (rt, aI L 26 oth)] [(4, .int (z_i (tk_n a b))), (0, .ref ho), (1, .int (z_i p)), (2, .int (z_i a)), (3, .int (z_i b))] [.int (z_i (((bd_due oth (tk_d dice a b) own : Nat) : Int))), .ref ho] 80
          refine p_H_30 E 0 [(ho, .inr (1, [.ref di, .int (z_i (((bd_due oth (tk_d dice a b) own : Nat) : Int))), .ref bo, .int (z_i p), .int (z_i (2 * (tk_n a b)))])), (di, aI L 7 (tk_d dice a b)), (bo, .inr (0, [.ref ra])), (ra, aR L 2 gr), (ro, aI L 26 own), (rt, aI L 26 oth)] rfl rfl (Nat.le_of_ble_eq_true rfl) d_H_take_80 ?_
          exact J_return E F rfl d_H_take_83
        refine J_iload_n E 3 d_H_take_24 rfl rfl ?_
        refine J_iload_n E 4 d_H_take_25 rfl rfl ?_
        refine J_icmp_ne E 33 d_H_take_26 (by decide) (by exact ⟨⟨by omega, by omega⟩, ⟨by omega, by omega⟩⟩) (fun h26 => ?_) (fun h26 => ?_)
        · refine J_iconst E d_H_take_33 ?_
          refine J_lv (lv' := [(0, .ref ho), (1, .int (z_i p)), (2, .int (z_i a)), (3, .int (z_i b))]) [1, 2, 3, 4] rfl ?_
          exact C34 1 (by omega)
        · refine J_iconst E d_H_take_29 ?_
          refine J_goto E 34 d_H_take_30 (by decide) ?_
          refine J_lv (lv' := [(0, .ref ho), (1, .int (z_i p)), (2, .int (z_i a)), (3, .int (z_i b))]) [1, 2, 3, 4] rfl ?_
          exact C34 2 (by omega)
      · refine J_aload_n E 1 d_H_take_10 rfl rfl ?_
        refine g_H_9 E 0 rfl rfl d_H_take_11 ?_
        refine J_iload E 0 d_H_take_14 rfl ?_
        refine J_iconst E d_H_take_16 ?_
        refine J_iast E 1 [(ho, .inr (1, [.ref di, .int (z_i us), .ref bo, .int (z_i p0), .int (z_i ct)])), (di, aI L 7 (z_u dc k 0)), (bo, .inr (0, [.ref ra])), (ra, aR L 2 gr), (ro, aI L 26 own), (rt, aI L 26 oth)] rfl rfl (by decide) (by exact ⟨by omega, by omega⟩) d_H_take_17 ?_
        refine J_iinc E 0 [(4, .int (z_i (k + 1))), (0, .ref ho), (1, .int (z_i p)), (2, .int (z_i a)), (3, .int (z_i b))] d_H_take_18 rfl (by decide) rfl ?_
        refine J_goto E 3 d_H_take_21 (by decide) ?_
        exact ih3 (k + 1) (z_u dc k 0) (by omega) (by rw [he, tk_zs dice (by omega)]) (by omega)
  exact C3 _ 1 dice (by decide) (tk_z1 dice).symm (Nat.lt_succ_self _)
