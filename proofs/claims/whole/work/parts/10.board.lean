set_option maxHeartbeats 4000000 in
set_option maxRecDepth 100000 in
theorem c_T_isNumber (L : Lx) (d : Int) (hd : z_r d) : CtG L y_T_isNumber b_T_isNumber 1 (some .boolean) (rmh 1) false 0 0 [.int (z_i d)] [] (fun u => u = []) (some (.int (z_i (b2 (1 ≤ d ∧ d ≤ 6))))) := by
  refine CtG.of rfl (Nat.le_of_ble_eq_true rfl) (fun X E F => ?_)
  show J L X 1 0 0 [] [(0, .int (z_i d))] [] 0
  refine J_iload_n E 0 d_T_isNumber_0 rfl rfl ?_
  refine J_iconst E d_T_isNumber_1 ?_
  refine J_icmp_lt E 15 d_T_isNumber_2 (by decide) (by exact ⟨⟨by omega, by omega⟩, ⟨by omega, by omega⟩⟩) (fun h2 => ?_) (fun h2 => ?_)
  · refine J_iconst E d_T_isNumber_15 ?_
    exact J_zreturn E F (by omega) (b2_f (by omega)).symm rfl d_T_isNumber_16
  · refine J_iload_n E 0 d_T_isNumber_5 rfl rfl ?_
    refine J_bipush E d_T_isNumber_6 (by decide) ?_
    refine J_icmp_gt E 15 d_T_isNumber_8 (by decide) (by exact ⟨⟨by omega, by omega⟩, ⟨by omega, by omega⟩⟩) (fun h8 => ?_) (fun h8 => ?_)
    · refine J_iconst E d_T_isNumber_15 ?_
      exact J_zreturn E F (by omega) (b2_f (by omega)).symm rfl d_T_isNumber_16
    · refine J_iconst E d_T_isNumber_11 ?_
      refine J_goto E 16 d_T_isNumber_12 (by decide) ?_
      exact J_zreturn E F (by omega) (b2_t (by omega)).symm rfl d_T_isNumber_16
set_option maxHeartbeats 4000000 in
set_option maxRecDepth 100000 in
theorem c_T_isPlayer (L : Lx) (d : Int) (hd : z_r d) : CtG L y_T_isPlayer b_T_isPlayer 1 (some .boolean) (rmh 1) false 0 0 [.int (z_i d)] [] (fun u => u = []) (some (.int (z_i (b2 (d = 0 ∨ d = 1))))) := by
  refine CtG.of rfl (Nat.le_of_ble_eq_true rfl) (fun X E F => ?_)
  show J L X 1 0 0 [] [(0, .int (z_i d))] [] 0
  refine J_iload_n E 0 d_T_isPlayer_0 rfl rfl ?_
  refine J_if_eq E 9 d_T_isPlayer_1 (by decide) (by exact ⟨by omega, by omega⟩) (fun h1 => ?_) (fun h1 => ?_)
  · refine J_iconst E d_T_isPlayer_9 ?_
    refine J_goto E 14 d_T_isPlayer_10 (by decide) ?_
    exact J_zreturn E F (by omega) (b2_t (by omega)).symm rfl d_T_isPlayer_14
  · refine J_iload_n E 0 d_T_isPlayer_4 rfl rfl ?_
    refine J_iconst E d_T_isPlayer_5 ?_
    refine J_icmp_ne E 13 d_T_isPlayer_6 (by decide) (by exact ⟨⟨by omega, by omega⟩, ⟨by omega, by omega⟩⟩) (fun h6 => ?_) (fun h6 => ?_)
    · refine J_iconst E d_T_isPlayer_13 ?_
      exact J_zreturn E F (by omega) (b2_f (by omega)).symm rfl d_T_isPlayer_14
    · refine J_iconst E d_T_isPlayer_9 ?_
      refine J_goto E 14 d_T_isPlayer_10 (by decide) ?_
      exact J_zreturn E F (by omega) (b2_t (by omega)).symm rfl d_T_isPlayer_14
set_option maxHeartbeats 4000000 in
set_option maxRecDepth 100000 in
theorem c_T_isRacePoint (L : Lx) (d : Int) (hd : z_r d) : CtG L y_T_isRacePoint b_T_isRacePoint 1 (some .boolean) (rmh 1) false 0 0 [.int (z_i d)] [] (fun u => u = []) (some (.int (z_i (b2 (0 ≤ d ∧ d ≤ 4))))) := by
  refine CtG.of rfl (Nat.le_of_ble_eq_true rfl) (fun X E F => ?_)
  show J L X 1 0 0 [] [(0, .int (z_i d))] [] 0
  refine J_iload_n E 0 d_T_isRacePoint_0 rfl rfl ?_
  refine J_if_lt E 13 d_T_isRacePoint_1 (by decide) (by exact ⟨by omega, by omega⟩) (fun h1 => ?_) (fun h1 => ?_)
  · refine J_iconst E d_T_isRacePoint_13 ?_
    exact J_zreturn E F (by omega) (b2_f (by omega)).symm rfl d_T_isRacePoint_14
  · refine J_iload_n E 0 d_T_isRacePoint_4 rfl rfl ?_
    refine J_iconst E d_T_isRacePoint_5 ?_
    refine J_icmp_gt E 13 d_T_isRacePoint_6 (by decide) (by exact ⟨⟨by omega, by omega⟩, ⟨by omega, by omega⟩⟩) (fun h6 => ?_) (fun h6 => ?_)
    · refine J_iconst E d_T_isRacePoint_13 ?_
      exact J_zreturn E F (by omega) (b2_f (by omega)).symm rfl d_T_isRacePoint_14
    · refine J_iconst E d_T_isRacePoint_9 ?_
      refine J_goto E 14 d_T_isRacePoint_10 (by decide) ?_
      exact J_zreturn E F (by omega) (b2_t (by omega)).symm rfl d_T_isRacePoint_14
set_option maxHeartbeats 4000000 in
set_option maxRecDepth 100000 in
theorem c_B_rearmostPlace (L : Lx) (ro : Nat) (own : Int → Int) (hO : bd_ok own) : CtG L y_B_rearmostPlace b_B_rearmostPlace 2 (some .int) (rmh 1) false 0 0 [.ref ro] [(ro, aI L 26 own)] (fun u => u = [(ro, aI L 26 own)]) (some (.int (z_i (rr_f own 25)))) := by
  refine CtG.of rfl (Nat.le_of_ble_eq_true rfl) (fun X E F => ?_)
  show J L X 2 0 0 [(ro, aI L 26 own)] [(0, .ref ro)] [] 0
  refine J_bipush E d_B_rearmostPlace_0 (by decide) ?_
  refine J_istore_n E [(1, .int (z_i 25)), (0, .ref ro)] d_B_rearmostPlace_2 rfl (by decide) rfl ?_
  have C3 : ∀ (mm : Nat) (k : Int), (0 ≤ k ∧ k ≤ 25) → (rr_f own 25 = rr_f own k.toNat) → k.toNat < mm → J L X 2 0 0 [(ro, aI L 26 own)] [(1, .int (z_i k)), (0, .ref ro)] [] 3 := by
    intro mm
    induction mm with
    | zero => intro k hk hr hmm; exact absurd hmm (Nat.not_lt_zero _)
    | succ mm ih3 =>
      intro k hk hr hmm
      refine J_iload_n E 0 d_B_rearmostPlace_3 rfl rfl ?_
      refine J_iconst E d_B_rearmostPlace_4 ?_
      refine J_icmp_lt E 22 d_B_rearmostPlace_5 (by decide) (by exact ⟨⟨by omega, by omega⟩, ⟨by omega, by omega⟩⟩) (fun h5 => ?_) (fun h5 => ?_)
      · refine J_iconst E d_B_rearmostPlace_22 ?_
        exact J_ireturn E F (by rw [hr, show k = 0 by omega]; rfl) rfl d_B_rearmostPlace_23
      · refine J_aload_n E 1 d_B_rearmostPlace_8 rfl rfl ?_
        refine J_iload_n E 0 d_B_rearmostPlace_9 rfl rfl ?_
        refine J_iald E 0 rfl (by decide) (by exact ⟨by omega, by omega⟩) d_B_rearmostPlace_10 ?_
        refine J_if_le E 16 d_B_rearmostPlace_11 (by decide) (by have := bd_b hO k; exact ⟨by omega, by omega⟩) (fun h11 => ?_) (fun h11 => ?_)
        · refine J_iinc E 0 [(1, .int (z_i (k + (-1)))), (0, .ref ro)] d_B_rearmostPlace_16 rfl (by decide) rfl ?_
          refine J_goto E 3 d_B_rearmostPlace_19 (by decide) ?_
          exact ih3 (k + (-1)) (by omega) (by rw [hr, rr_miss (by omega) h11]) (by omega)
        · refine J_iload_n E 0 d_B_rearmostPlace_14 rfl rfl ?_
          exact J_ireturn E F (by rw [hr, rr_hit (by omega) h11]) rfl d_B_rearmostPlace_15
  exact C3 _ 25 (by decide) rfl (Nat.lt_succ_self _)
set_option maxHeartbeats 4000000 in
set_option maxRecDepth 100000 in
theorem c_B_canMove (L : Lx) (bo ra ro rt : Nat) (gr : Nat → Option Nat) (own oth : Int → Int) (p : Int) (f d : Int) (hp : p = 0 ∨ p = 1) (g0 : gr p.toNat = some ro) (g1 : gr (1 - p).toNat = some rt) (hO : bd_ok own) (hT : bd_ok oth) (hf : z_r f) (hd : z_r d) : CtG L y_B_canMove b_B_canMove 7 (some .boolean) (rmh 2) false 0 0 [.ref bo, .int (z_i p), .int (z_i f), .int (z_i d)] [(bo, .inr (0, [.ref ra])), (ra, aR L 2 gr), (ro, aI L 26 own), (rt, aI L 26 oth)] (fun u => u = [(bo, .inr (0, [.ref ra])), (ra, aR L 2 gr), (ro, aI L 26 own), (rt, aI L 26 oth)]) (some (.int (z_i (b2 (bd_can own oth f d))))) := by
  refine CtG.of rfl (Nat.le_of_ble_eq_true rfl) (fun X E F => ?_)
  show J L X 7 0 0 [(bo, .inr (0, [.ref ra])), (ra, aR L 2 gr), (ro, aI L 26 own), (rt, aI L 26 oth)] [(0, .ref bo), (1, .int (z_i p)), (2, .int (z_i f)), (3, .int (z_i d))] [] 0
  refine J_iload_n E 2 d_B_canMove_0 rfl rfl ?_
  refine J_iconst E d_B_canMove_1 ?_
  refine J_icmp_lt E 18 d_B_canMove_2 (by decide) (by exact ⟨⟨by omega, by omega⟩, ⟨by omega, by omega⟩⟩) (fun h2 => ?_) (fun h2 => ?_)
  · refine J_iconst E d_B_canMove_18 ?_
    exact J_zreturn E F (by omega) (b2_f (fun q => by obtain ⟨q1, q2, q3, q4, q5, q6, q7⟩ := q; omega)).symm rfl d_B_canMove_19
  · refine J_iload_n E 2 d_B_canMove_5 rfl rfl ?_
    refine J_bipush E d_B_canMove_6 (by decide) ?_
    refine J_icmp_gt E 18 d_B_canMove_8 (by decide) (by exact ⟨⟨by omega, by omega⟩, ⟨by omega, by omega⟩⟩) (fun h8 => ?_) (fun h8 => ?_)
    · refine J_iconst E d_B_canMove_18 ?_
      exact J_zreturn E F (by omega) (b2_f (fun q => by obtain ⟨q1, q2, q3, q4, q5, q6, q7⟩ := q; omega)).symm rfl d_B_canMove_19
    · refine J_iload_n E 3 d_B_canMove_11 rfl rfl ?_
      refine J_callSN (wr := [(bo, .inr (0, [.ref ra])), (ra, aR L 2 gr), (ro, aI L 26 own), (rt, aI L 26 oth)]) (rest := []) E kb_T_isNumber t_1_148 t_1_134 (c_T_isNumber L d hd) (fun h => h) (Rm_h (by decide) (by decide)) [] [0, 1, 2, 3] rfl rfl rfl rfl (by decide) rfl rfl (Nat.le_of_ble_eq_true rfl) d_B_canMove_12 (fun w' hw => ?_)
      obtain rfl : w' = [] := hw
      show J L X 7 0 0 [(bo, .inr (0, [.ref ra])), (ra, aR L 2 gr), (ro, aI L 26 own), (rt, aI L 26 oth)] [(0, .ref bo), (1, .int (z_i p)), (2, .int (z_i f)), (3, .int (z_i d))] [.int (z_i (b2 (1 ≤ d ∧ d ≤ 6)))] 15
      refine J_if_ne E 20 d_B_canMove_15 (by decide) (b2_r _) (fun h15 => ?_) (fun h15 => ?_)
      · have hdd := b2_of h15
        refine J_aload_n E 0 d_B_canMove_20 rfl rfl ?_
        refine g_B_11 E 0 rfl rfl d_B_canMove_21 ?_
        refine J_iload_n E 1 d_B_canMove_24 rfl rfl ?_
        refine J_aald E 1 rfl (by decide) (by exact ⟨by omega, by omega⟩) g0 d_B_canMove_25 ?_
        refine J_astore E [(4, .ref ro), (0, .ref bo), (1, .int (z_i p)), (2, .int (z_i f)), (3, .int (z_i d))] d_B_canMove_26 (by decide) rfl ?_
        refine J_aload E 0 d_B_canMove_28 rfl ?_
        refine J_iload_n E 3 d_B_canMove_30 rfl rfl ?_
        refine J_iald E 2 rfl (by decide) (by exact ⟨by omega, by omega⟩) d_B_canMove_31 ?_
        refine J_if_eq E 49 d_B_canMove_32 (by decide) (by have := bd_b hO f; exact ⟨by omega, by omega⟩) (fun h32 => ?_) (fun h32 => ?_)
        · refine J_iconst E d_B_canMove_49 ?_
          exact J_zreturn E F (by omega) (b2_f (fun q => by obtain ⟨q1, q2, q3, q4, q5, q6, q7⟩ := q; omega)).symm rfl d_B_canMove_50
        · refine J_iload_n E 3 d_B_canMove_35 rfl rfl ?_
          refine J_bipush E d_B_canMove_36 (by decide) ?_
          refine J_icmp_eq E 51 d_B_canMove_38 (by decide) (by exact ⟨⟨by omega, by omega⟩, ⟨by omega, by omega⟩⟩) (fun h38 => ?_) (fun h38 => ?_)
          · refine J_iload_n E 3 d_B_canMove_51 rfl rfl ?_
            refine J_iload_n E 4 d_B_canMove_52 rfl rfl ?_
            refine J_isub E d_B_canMove_53 ?_
            refine J_istore E [(5, .int (z_i (f - d))), (4, .ref ro), (0, .ref bo), (1, .int (z_i p)), (2, .int (z_i f)), (3, .int (z_i d))] d_B_canMove_54 (by decide) rfl ?_
            refine J_iload E 0 d_B_canMove_56 rfl ?_
            refine J_if_le E 85 d_B_canMove_58 (by decide) (by exact ⟨by omega, by omega⟩) (fun h58 => ?_) (fun h58 => ?_)
            · refine J_aload E 1 d_B_canMove_85 rfl ?_
              refine J_callS (wr := [(bo, .inr (0, [.ref ra])), (ra, aR L 2 gr), (rt, aI L 26 oth)]) (rest := []) E kb_B_rearmostPlace t_1_149 t_1_150 (c_B_rearmostPlace L ro own hO) (fun h => h) (Rm_h (by decide) (by decide)) [2] [0, 1, 3] rfl rfl rfl rfl (by decide) rfl rfl (Nat.le_of_ble_eq_true rfl) d_B_canMove_87 (fun w' hw => ?_)
              obtain rfl : w' = [(ro, aI L 26 own)] := hw
              show J L X 7 0 0 [(bo, .inr (0, [.ref ra])), (ra, aR L 2 gr), (rt, aI L 26 oth), (ro, aI L 26 own)] [(5, .int (z_i (f - d))), (4, .ref ro), (0, .ref bo), (1, .int (z_i p)), (2, .int (z_i f)), (3, .int (z_i d))] [.int (z_i (rr_f own 25))] 90
              refine J_istore E [(6, .int (z_i (rr_f own 25))), (5, .int (z_i (f - d))), (4, .ref ro), (0, .ref bo), (1, .int (z_i p)), (2, .int (z_i f)), (3, .int (z_i d))] d_B_canMove_90 (by decide) rfl ?_
              refine J_iload E 0 d_B_canMove_92 rfl ?_
              refine J_bipush E d_B_canMove_94 (by decide) ?_
              refine J_icmp_gt E 114 d_B_canMove_96 (by decide) (by have := rr_in own 25; exact ⟨⟨by omega, by omega⟩, by omega, by omega⟩) (fun h96 => ?_) (fun h96 => ?_)
              · refine J_iconst E d_B_canMove_114 ?_
                refine J_ws (ws' := [(bo, .inr (0, [.ref ra])), (ra, aR L 2 gr), (ro, aI L 26 own), (rt, aI L 26 oth)]) [0, 1, 3, 2] rfl rfl ?_
                exact J_zreturn E F (by omega) (b2_f (fun q => by have := (can_home hO (by omega) (by omega) hdd h32 (by omega) h58).mp q; omega)).symm rfl d_B_canMove_115
              · refine J_iload E 1 d_B_canMove_99 rfl ?_
                refine J_if_eq E 110 d_B_canMove_101 (by decide) (by exact ⟨by omega, by omega⟩) (fun h101 => ?_) (fun h101 => ?_)
                · refine J_iconst E d_B_canMove_110 ?_
                  refine J_goto E 115 d_B_canMove_111 (by decide) ?_
                  refine J_ws (ws' := [(bo, .inr (0, [.ref ra])), (ra, aR L 2 gr), (ro, aI L 26 own), (rt, aI L 26 oth)]) [0, 1, 3, 2] rfl rfl ?_
                  exact J_zreturn E F (by omega) (b2_t ((can_home hO (by omega) (by omega) hdd h32 (by omega) h58).mpr ⟨by omega, by omega⟩)).symm rfl d_B_canMove_115
                · refine J_iload E 0 d_B_canMove_104 rfl ?_
                  refine J_iload_n E 5 d_B_canMove_106 rfl rfl ?_
                  refine J_icmp_ne E 114 d_B_canMove_107 (by decide) (by have := rr_in own 25; exact ⟨⟨by omega, by omega⟩, by omega, by omega⟩) (fun h107 => ?_) (fun h107 => ?_)
                  · refine J_iconst E d_B_canMove_114 ?_
                    refine J_ws (ws' := [(bo, .inr (0, [.ref ra])), (ra, aR L 2 gr), (ro, aI L 26 own), (rt, aI L 26 oth)]) [0, 1, 3, 2] rfl rfl ?_
                    exact J_zreturn E F (by omega) (b2_f (fun q => by have := (can_home hO (by omega) (by omega) hdd h32 (by omega) h58).mp q; omega)).symm rfl d_B_canMove_115
                  · refine J_iconst E d_B_canMove_110 ?_
                    refine J_goto E 115 d_B_canMove_111 (by decide) ?_
                    refine J_ws (ws' := [(bo, .inr (0, [.ref ra])), (ra, aR L 2 gr), (ro, aI L 26 own), (rt, aI L 26 oth)]) [0, 1, 3, 2] rfl rfl ?_
                    exact J_zreturn E F (by omega) (b2_t ((can_home hO (by omega) (by omega) hdd h32 (by omega) h58).mpr ⟨by omega, by omega⟩)).symm rfl d_B_canMove_115
            · refine J_aload_n E 2 d_B_canMove_61 rfl rfl ?_
              refine g_B_11 E 0 rfl rfl d_B_canMove_62 ?_
              refine J_iconst E d_B_canMove_65 ?_
              refine J_iload_n E 3 d_B_canMove_66 rfl rfl ?_
              refine J_isub E d_B_canMove_67 ?_
              refine J_aald E 1 rfl (by decide) (by exact ⟨by omega, by omega⟩) g1 d_B_canMove_68 ?_
              refine J_bipush E d_B_canMove_69 (by decide) ?_
              refine J_iload E 0 d_B_canMove_71 rfl ?_
              refine J_isub E d_B_canMove_73 ?_
              refine J_iald E 3 rfl (by decide) (by exact ⟨by omega, by omega⟩) d_B_canMove_74 ?_
              refine J_iconst E d_B_canMove_75 ?_
              refine J_icmp_gt E 83 d_B_canMove_76 (by decide) (by have := bd_b hT (25 - (f - d)); exact ⟨⟨by omega, by omega⟩, ⟨by omega, by omega⟩⟩) (fun h76 => ?_) (fun h76 => ?_)
              · refine J_iconst E d_B_canMove_83 ?_
                exact J_zreturn E F (by omega) (b2_f (fun q => by have := (can_up (by omega) (by omega) hdd h32 (by omega) h58).mp q; omega)).symm rfl d_B_canMove_84
              · refine J_iconst E d_B_canMove_79 ?_
                refine J_goto E 84 d_B_canMove_80 (by decide) ?_
                exact J_zreturn E F (by omega) (b2_t ((can_up (by omega) (by omega) hdd h32 (by omega) h58).mpr (by omega))).symm rfl d_B_canMove_84
          · refine J_aload E 0 d_B_canMove_41 rfl ?_
            refine J_bipush E d_B_canMove_43 (by decide) ?_
            refine J_iald E 2 rfl (by decide) (by exact ⟨by omega, by omega⟩) d_B_canMove_45 ?_
            refine J_if_le E 51 d_B_canMove_46 (by decide) (by have := bd_b hO 25; exact ⟨by omega, by omega⟩) (fun h46 => ?_) (fun h46 => ?_)
            · refine J_iload_n E 3 d_B_canMove_51 rfl rfl ?_
              refine J_iload_n E 4 d_B_canMove_52 rfl rfl ?_
              refine J_isub E d_B_canMove_53 ?_
              refine J_istore E [(5, .int (z_i (f - d))), (4, .ref ro), (0, .ref bo), (1, .int (z_i p)), (2, .int (z_i f)), (3, .int (z_i d))] d_B_canMove_54 (by decide) rfl ?_
              refine J_iload E 0 d_B_canMove_56 rfl ?_
              refine J_if_le E 85 d_B_canMove_58 (by decide) (by exact ⟨by omega, by omega⟩) (fun h58 => ?_) (fun h58 => ?_)
              · refine J_aload E 1 d_B_canMove_85 rfl ?_
                refine J_callS (wr := [(bo, .inr (0, [.ref ra])), (ra, aR L 2 gr), (rt, aI L 26 oth)]) (rest := []) E kb_B_rearmostPlace t_1_149 t_1_150 (c_B_rearmostPlace L ro own hO) (fun h => h) (Rm_h (by decide) (by decide)) [2] [0, 1, 3] rfl rfl rfl rfl (by decide) rfl rfl (Nat.le_of_ble_eq_true rfl) d_B_canMove_87 (fun w' hw => ?_)
                obtain rfl : w' = [(ro, aI L 26 own)] := hw
                show J L X 7 0 0 [(bo, .inr (0, [.ref ra])), (ra, aR L 2 gr), (rt, aI L 26 oth), (ro, aI L 26 own)] [(5, .int (z_i (f - d))), (4, .ref ro), (0, .ref bo), (1, .int (z_i p)), (2, .int (z_i f)), (3, .int (z_i d))] [.int (z_i (rr_f own 25))] 90
                refine J_istore E [(6, .int (z_i (rr_f own 25))), (5, .int (z_i (f - d))), (4, .ref ro), (0, .ref bo), (1, .int (z_i p)), (2, .int (z_i f)), (3, .int (z_i d))] d_B_canMove_90 (by decide) rfl ?_
                refine J_iload E 0 d_B_canMove_92 rfl ?_
                refine J_bipush E d_B_canMove_94 (by decide) ?_
                refine J_icmp_gt E 114 d_B_canMove_96 (by decide) (by have := rr_in own 25; exact ⟨⟨by omega, by omega⟩, by omega, by omega⟩) (fun h96 => ?_) (fun h96 => ?_)
                · refine J_iconst E d_B_canMove_114 ?_
                  refine J_ws (ws' := [(bo, .inr (0, [.ref ra])), (ra, aR L 2 gr), (ro, aI L 26 own), (rt, aI L 26 oth)]) [0, 1, 3, 2] rfl rfl ?_
                  exact J_zreturn E F (by omega) (b2_f (fun q => by have := (can_home hO (by omega) (by omega) hdd h32 (by omega) h58).mp q; omega)).symm rfl d_B_canMove_115
                · refine J_iload E 1 d_B_canMove_99 rfl ?_
                  refine J_if_eq E 110 d_B_canMove_101 (by decide) (by exact ⟨by omega, by omega⟩) (fun h101 => ?_) (fun h101 => ?_)
                  · refine J_iconst E d_B_canMove_110 ?_
                    refine J_goto E 115 d_B_canMove_111 (by decide) ?_
                    refine J_ws (ws' := [(bo, .inr (0, [.ref ra])), (ra, aR L 2 gr), (ro, aI L 26 own), (rt, aI L 26 oth)]) [0, 1, 3, 2] rfl rfl ?_
                    exact J_zreturn E F (by omega) (b2_t ((can_home hO (by omega) (by omega) hdd h32 (by omega) h58).mpr ⟨by omega, by omega⟩)).symm rfl d_B_canMove_115
                  · refine J_iload E 0 d_B_canMove_104 rfl ?_
                    refine J_iload_n E 5 d_B_canMove_106 rfl rfl ?_
                    refine J_icmp_ne E 114 d_B_canMove_107 (by decide) (by have := rr_in own 25; exact ⟨⟨by omega, by omega⟩, by omega, by omega⟩) (fun h107 => ?_) (fun h107 => ?_)
                    · refine J_iconst E d_B_canMove_114 ?_
                      refine J_ws (ws' := [(bo, .inr (0, [.ref ra])), (ra, aR L 2 gr), (ro, aI L 26 own), (rt, aI L 26 oth)]) [0, 1, 3, 2] rfl rfl ?_
                      exact J_zreturn E F (by omega) (b2_f (fun q => by have := (can_home hO (by omega) (by omega) hdd h32 (by omega) h58).mp q; omega)).symm rfl d_B_canMove_115
                    · refine J_iconst E d_B_canMove_110 ?_
                      refine J_goto E 115 d_B_canMove_111 (by decide) ?_
                      refine J_ws (ws' := [(bo, .inr (0, [.ref ra])), (ra, aR L 2 gr), (ro, aI L 26 own), (rt, aI L 26 oth)]) [0, 1, 3, 2] rfl rfl ?_
                      exact J_zreturn E F (by omega) (b2_t ((can_home hO (by omega) (by omega) hdd h32 (by omega) h58).mpr ⟨by omega, by omega⟩)).symm rfl d_B_canMove_115
              · refine J_aload_n E 2 d_B_canMove_61 rfl rfl ?_
                refine g_B_11 E 0 rfl rfl d_B_canMove_62 ?_
                refine J_iconst E d_B_canMove_65 ?_
                refine J_iload_n E 3 d_B_canMove_66 rfl rfl ?_
                refine J_isub E d_B_canMove_67 ?_
                refine J_aald E 1 rfl (by decide) (by exact ⟨by omega, by omega⟩) g1 d_B_canMove_68 ?_
                refine J_bipush E d_B_canMove_69 (by decide) ?_
                refine J_iload E 0 d_B_canMove_71 rfl ?_
                refine J_isub E d_B_canMove_73 ?_
                refine J_iald E 3 rfl (by decide) (by exact ⟨by omega, by omega⟩) d_B_canMove_74 ?_
                refine J_iconst E d_B_canMove_75 ?_
                refine J_icmp_gt E 83 d_B_canMove_76 (by decide) (by have := bd_b hT (25 - (f - d)); exact ⟨⟨by omega, by omega⟩, ⟨by omega, by omega⟩⟩) (fun h76 => ?_) (fun h76 => ?_)
                · refine J_iconst E d_B_canMove_83 ?_
                  exact J_zreturn E F (by omega) (b2_f (fun q => by have := (can_up (by omega) (by omega) hdd h32 (by omega) h58).mp q; omega)).symm rfl d_B_canMove_84
                · refine J_iconst E d_B_canMove_79 ?_
                  refine J_goto E 84 d_B_canMove_80 (by decide) ?_
                  exact J_zreturn E F (by omega) (b2_t ((can_up (by omega) (by omega) hdd h32 (by omega) h58).mpr (by omega))).symm rfl d_B_canMove_84
            · refine J_iconst E d_B_canMove_49 ?_
              exact J_zreturn E F (by omega) (b2_f (fun q => by obtain ⟨q1, q2, q3, q4, q5, q6, q7⟩ := q; omega)).symm rfl d_B_canMove_50
      · have hdd := b2_not h15
        refine J_iconst E d_B_canMove_18 ?_
        exact J_zreturn E F (by omega) (b2_f (fun q => by obtain ⟨q1, q2, q3, q4, q5, q6, q7⟩ := q; omega)).symm rfl d_B_canMove_19
set_option maxHeartbeats 4000000 in
set_option maxRecDepth 100000 in
theorem c_B_canMoveAny (L : Lx) (bo ra ro rt : Nat) (gr : Nat → Option Nat) (own oth : Int → Int) (p : Int) (d : Int) (hp : p = 0 ∨ p = 1) (g0 : gr p.toNat = some ro) (g1 : gr (1 - p).toNat = some rt) (hO : bd_ok own) (hT : bd_ok oth) (hd : z_r d) : CtG L y_B_canMoveAny b_B_canMoveAny 4 (some .boolean) (rmh 3) false 0 0 [.ref bo, .int (z_i p), .int (z_i d)] [(bo, .inr (0, [.ref ra])), (ra, aR L 2 gr), (ro, aI L 26 own), (rt, aI L 26 oth)] (fun u => u = [(bo, .inr (0, [.ref ra])), (ra, aR L 2 gr), (ro, aI L 26 own), (rt, aI L 26 oth)]) (some (.int (z_i (b2 (∃ f, bd_can own oth f d))))) := by
  refine CtG.of rfl (Nat.le_of_ble_eq_true rfl) (fun X E F => ?_)
  show J L X 4 0 0 [(bo, .inr (0, [.ref ra])), (ra, aR L 2 gr), (ro, aI L 26 own), (rt, aI L 26 oth)] [(0, .ref bo), (1, .int (z_i p)), (2, .int (z_i d))] [] 0
  refine J_bipush E d_B_canMoveAny_0 (by decide) ?_
  refine J_istore_n E [(3, .int (z_i 25)), (0, .ref bo), (1, .int (z_i p)), (2, .int (z_i d))] d_B_canMoveAny_2 rfl (by decide) rfl ?_
  have C3 : ∀ (mm : Nat) (k : Int), (0 ≤ k ∧ k ≤ 25) → (∀ x, k < x → ¬ bd_can own oth x d) → k.toNat < mm → J L X 4 0 0 [(bo, .inr (0, [.ref ra])), (ra, aR L 2 gr), (ro, aI L 26 own), (rt, aI L 26 oth)] [(3, .int (z_i k)), (0, .ref bo), (1, .int (z_i p)), (2, .int (z_i d))] [] 3 := by
    intro mm
    induction mm with
    | zero => intro k hk hr hmm; exact absurd hmm (Nat.not_lt_zero _)
    | succ mm ih3 =>
      intro k hk hr hmm
      refine J_iload_n E 0 d_B_canMoveAny_3 rfl rfl ?_
      refine J_iconst E d_B_canMoveAny_4 ?_
      refine J_icmp_lt E 26 d_B_canMoveAny_5 (by decide) (by exact ⟨⟨by omega, by omega⟩, ⟨by omega, by omega⟩⟩) (fun h5 => ?_) (fun h5 => ?_)
      · refine J_iconst E d_B_canMoveAny_26 ?_
        exact J_zreturn E F (by omega) (b2_f (fun ⟨x, q⟩ => by rcases (show x ≤ k ∨ k < x by omega) with e | e; exact absurd q.1 (by omega); exact hr x e q)).symm rfl d_B_canMoveAny_27
      · refine J_aload_n E 1 d_B_canMoveAny_8 rfl rfl ?_
        refine J_iload_n E 2 d_B_canMoveAny_9 rfl rfl ?_
        refine J_iload_n E 0 d_B_canMoveAny_10 rfl rfl ?_
        refine J_iload_n E 3 d_B_canMoveAny_11 rfl rfl ?_
        refine J_callV (wr := []) (rest := []) E kb_B_canMove t_1_187 t_1_145 t_1_146 (c_B_canMove L bo ra ro rt gr own oth p k d hp g0 g1 hO hT ⟨by omega, by omega⟩ hd) (fun h => h) (Rm_h (by decide) (by decide)) [0, 1, 2, 3] [] rfl rfl rfl rfl (by decide) 0 rfl rfl rfl rfl (Nat.le_of_ble_eq_true rfl) d_B_canMoveAny_12 (fun w' hw => ?_)
        obtain rfl : w' = [(bo, .inr (0, [.ref ra])), (ra, aR L 2 gr), (ro, aI L 26 own), (rt, aI L 26 oth)] := hw
        show J L X 4 0 0 [(bo, .inr (0, [.ref ra])), (ra, aR L 2 gr), (ro, aI L 26 own), (rt, aI L 26 oth)] [(3, .int (z_i k)), (0, .ref bo), (1, .int (z_i p)), (2, .int (z_i d))] [.int (z_i (b2 (bd_can own oth k d)))] 15
        refine J_if_eq E 20 d_B_canMoveAny_15 (by decide) (b2_r _) (fun h15 => ?_) (fun h15 => ?_)
        · refine J_iinc E 0 [(3, .int (z_i (k + (-1)))), (0, .ref bo), (1, .int (z_i p)), (2, .int (z_i d))] d_B_canMoveAny_20 rfl (by decide) rfl ?_
          refine J_goto E 3 d_B_canMoveAny_23 (by decide) ?_
          exact ih3 (k + (-1)) (by omega) (fun x hx q => by rcases (show x = k ∨ k < x by omega) with e | e; exact b2_not h15 (e ▸ q); exact hr x e q) (by omega)
        · refine J_iconst E d_B_canMoveAny_18 ?_
          exact J_zreturn E F (by omega) (b2_t ⟨k, b2_of h15⟩).symm rfl d_B_canMoveAny_19
  exact C3 _ 25 (by decide) (fun x hx q => by have := q.2.1; omega) (Nat.lt_succ_self _)
set_option maxHeartbeats 4000000 in
set_option maxRecDepth 100000 in
theorem c_B_shift (L : Lx) (bo ra ro rt : Nat) (gr : Nat → Option Nat) (own oth : Int → Int) (p : Int) (f d : Int) (hp : p = 0 ∨ p = 1) (g0 : gr p.toNat = some ro) (g1 : gr (1 - p).toNat = some rt) (hO : bd_ok own) (hT : bd_ok oth) (hf : 1 ≤ f ∧ f ≤ 25) (hd : 1 ≤ d ∧ d ≤ 6) : CtG L y_B_shift b_B_shift 4 none (rmh 1) false 0 0 [.ref bo, .int (z_i p), .int (z_i f), .int (z_i d)] [(bo, .inr (0, [.ref ra])), (ra, aR L 2 gr), (ro, aI L 26 own), (rt, aI L 26 oth)] (fun u => u = [(bo, .inr (0, [.ref ra])), (ra, aR L 2 gr), (ro, aI L 26 (bd_sh own f d)), (rt, aI L 26 oth)]) none := by
  refine CtG.of rfl (Nat.le_of_ble_eq_true rfl) (fun X E F => ?_)
  show J L X 4 0 0 [(bo, .inr (0, [.ref ra])), (ra, aR L 2 gr), (ro, aI L 26 own), (rt, aI L 26 oth)] [(0, .ref bo), (1, .int (z_i p)), (2, .int (z_i f)), (3, .int (z_i d))] [] 0
  refine J_aload_n E 0 d_B_shift_0 rfl rfl ?_
  refine g_B_11 E 0 rfl rfl d_B_shift_1 ?_
  refine J_iload_n E 1 d_B_shift_4 rfl rfl ?_
  refine J_aald E 1 rfl (by decide) (by exact ⟨by omega, by omega⟩) g0 d_B_shift_5 ?_
  refine J_iload_n E 2 d_B_shift_6 rfl rfl ?_
  refine J_dup2 E d_B_shift_7 rfl rfl ?_
  refine J_iald E 2 rfl (by decide) (by exact ⟨by omega, by omega⟩) d_B_shift_8 ?_
  refine J_iconst E d_B_shift_9 ?_
  refine J_isub E d_B_shift_10 ?_
  refine J_iast E 2 [(bo, .inr (0, [.ref ra])), (ra, aR L 2 gr), (ro, aI L 26 (z_u own f ((own f) - 1))), (rt, aI L 26 oth)] rfl rfl (by decide) (by exact ⟨by omega, by omega⟩) d_B_shift_11 ?_
  refine J_aload_n E 0 d_B_shift_12 rfl rfl ?_
  refine g_B_11 E 0 rfl rfl d_B_shift_13 ?_
  refine J_iload_n E 1 d_B_shift_16 rfl rfl ?_
  refine J_aald E 1 rfl (by decide) (by exact ⟨by omega, by omega⟩) g0 d_B_shift_17 ?_
  refine J_iconst E d_B_shift_18 ?_
  refine J_iload_n E 2 d_B_shift_19 rfl rfl ?_
  refine J_iload_n E 3 d_B_shift_20 rfl rfl ?_
  refine J_isub E d_B_shift_21 ?_
  refine J_mmax E t_1_160 t_1_69 t_1_5 t_1_70 (Rm_1 (by decide) (Nat.le_of_ble_eq_true rfl)) (by exact ⟨⟨by omega, by omega⟩, ⟨by omega, by omega⟩⟩) d_B_shift_22 ?_
  refine J_dup2 E d_B_shift_25 rfl rfl ?_
  refine J_iald E 2 rfl (by decide) (by have := z_mx_is 0 (f - d); exact ⟨by omega, by omega⟩) d_B_shift_26 ?_
  refine J_iconst E d_B_shift_27 ?_
  refine J_iadd E d_B_shift_28 ?_
  refine J_iast E 2 [(bo, .inr (0, [.ref ra])), (ra, aR L 2 gr), (ro, aI L 26 (z_u (z_u own f ((own f) - 1)) (z_mx 0 (f - d)) (((z_u own f ((own f) - 1)) (z_mx 0 (f - d))) + 1))), (rt, aI L 26 oth)] rfl rfl (by decide) (by have := z_mx_is 0 (f - d); exact ⟨by omega, by omega⟩) d_B_shift_29 ?_
  exact J_return E F rfl d_B_shift_30
set_option maxHeartbeats 4000000 in
set_option maxRecDepth 100000 in
theorem c_B_shiftBack (L : Lx) (bo ra ro rt : Nat) (gr : Nat → Option Nat) (own oth : Int → Int) (p : Int) (f d : Int) (hp : p = 0 ∨ p = 1) (g0 : gr p.toNat = some ro) (g1 : gr (1 - p).toNat = some rt) (hO : bd_ok own) (hT : bd_ok oth) (hf : 1 ≤ f ∧ f ≤ 25) (hd : 1 ≤ d ∧ d ≤ 6) : CtG L y_B_shiftBack b_B_shiftBack 4 none (rmh 1) false 0 0 [.ref bo, .int (z_i p), .int (z_i f), .int (z_i d)] [(bo, .inr (0, [.ref ra])), (ra, aR L 2 gr), (ro, aI L 26 own), (rt, aI L 26 oth)] (fun u => u = [(bo, .inr (0, [.ref ra])), (ra, aR L 2 gr), (ro, aI L 26 (bd_back own f d)), (rt, aI L 26 oth)]) none := by
  refine CtG.of rfl (Nat.le_of_ble_eq_true rfl) (fun X E F => ?_)
  show J L X 4 0 0 [(bo, .inr (0, [.ref ra])), (ra, aR L 2 gr), (ro, aI L 26 own), (rt, aI L 26 oth)] [(0, .ref bo), (1, .int (z_i p)), (2, .int (z_i f)), (3, .int (z_i d))] [] 0
  refine J_aload_n E 0 d_B_shiftBack_0 rfl rfl ?_
  refine g_B_11 E 0 rfl rfl d_B_shiftBack_1 ?_
  refine J_iload_n E 1 d_B_shiftBack_4 rfl rfl ?_
  refine J_aald E 1 rfl (by decide) (by exact ⟨by omega, by omega⟩) g0 d_B_shiftBack_5 ?_
  refine J_iconst E d_B_shiftBack_6 ?_
  refine J_iload_n E 2 d_B_shiftBack_7 rfl rfl ?_
  refine J_iload_n E 3 d_B_shiftBack_8 rfl rfl ?_
  refine J_isub E d_B_shiftBack_9 ?_
  refine J_mmax E t_1_160 t_1_69 t_1_5 t_1_70 (Rm_1 (by decide) (Nat.le_of_ble_eq_true rfl)) (by exact ⟨⟨by omega, by omega⟩, ⟨by omega, by omega⟩⟩) d_B_shiftBack_10 ?_
  refine J_dup2 E d_B_shiftBack_13 rfl rfl ?_
  refine J_iald E 2 rfl (by decide) (by have := z_mx_is 0 (f - d); exact ⟨by omega, by omega⟩) d_B_shiftBack_14 ?_
  refine J_iconst E d_B_shiftBack_15 ?_
  refine J_isub E d_B_shiftBack_16 ?_
  refine J_iast E 2 [(bo, .inr (0, [.ref ra])), (ra, aR L 2 gr), (ro, aI L 26 (z_u own (z_mx 0 (f - d)) ((own (z_mx 0 (f - d))) - 1))), (rt, aI L 26 oth)] rfl rfl (by decide) (by have := z_mx_is 0 (f - d); exact ⟨by omega, by omega⟩) d_B_shiftBack_17 ?_
  refine J_aload_n E 0 d_B_shiftBack_18 rfl rfl ?_
  refine g_B_11 E 0 rfl rfl d_B_shiftBack_19 ?_
  refine J_iload_n E 1 d_B_shiftBack_22 rfl rfl ?_
  refine J_aald E 1 rfl (by decide) (by exact ⟨by omega, by omega⟩) g0 d_B_shiftBack_23 ?_
  refine J_iload_n E 2 d_B_shiftBack_24 rfl rfl ?_
  refine J_dup2 E d_B_shiftBack_25 rfl rfl ?_
  refine J_iald E 2 rfl (by decide) (by exact ⟨by omega, by omega⟩) d_B_shiftBack_26 ?_
  refine J_iconst E d_B_shiftBack_27 ?_
  refine J_iadd E d_B_shiftBack_28 ?_
  refine J_iast E 2 [(bo, .inr (0, [.ref ra])), (ra, aR L 2 gr), (ro, aI L 26 (z_u (z_u own (z_mx 0 (f - d)) ((own (z_mx 0 (f - d))) - 1)) f (((z_u own (z_mx 0 (f - d)) ((own (z_mx 0 (f - d))) - 1)) f) + 1))), (rt, aI L 26 oth)] rfl rfl (by decide) (by exact ⟨by omega, by omega⟩) d_B_shiftBack_29 ?_
  exact J_return E F rfl d_B_shiftBack_30
set_option maxHeartbeats 4000000 in
set_option maxRecDepth 100000 in
theorem c_B_hit (L : Lx) (bo ra ro rt : Nat) (gr : Nat → Option Nat) (own oth : Int → Int) (p : Int) (t : Int) (hp : p = 0 ∨ p = 1) (g0 : gr p.toNat = some ro) (g1 : gr (1 - p).toNat = some rt) (hO : bd_ok own) (hT : bd_ok oth) (ht : -6 ≤ t ∧ t ≤ 24) : CtG L y_B_hit b_B_hit 4 none (rmh 1) false 0 0 [.ref bo, .int (z_i p), .int (z_i t)] [(bo, .inr (0, [.ref ra])), (ra, aR L 2 gr), (ro, aI L 26 own), (rt, aI L 26 oth)] (fun u => u = [(bo, .inr (0, [.ref ra])), (ra, aR L 2 gr), (ro, aI L 26 own), (rt, aI L 26 (bd_hit oth t))]) none := by
  refine CtG.of rfl (Nat.le_of_ble_eq_true rfl) (fun X E F => ?_)
  show J L X 4 0 0 [(bo, .inr (0, [.ref ra])), (ra, aR L 2 gr), (ro, aI L 26 own), (rt, aI L 26 oth)] [(0, .ref bo), (1, .int (z_i p)), (2, .int (z_i t))] [] 0
  refine J_aload_n E 0 d_B_hit_0 rfl rfl ?_
  refine g_B_11 E 0 rfl rfl d_B_hit_1 ?_
  refine J_iconst E d_B_hit_4 ?_
  refine J_iload_n E 1 d_B_hit_5 rfl rfl ?_
  refine J_isub E d_B_hit_6 ?_
  refine J_aald E 1 rfl (by decide) (by exact ⟨by omega, by omega⟩) g1 d_B_hit_7 ?_
  refine J_astore_n E [(3, .ref rt), (0, .ref bo), (1, .int (z_i p)), (2, .int (z_i t))] d_B_hit_8 rfl (by decide) rfl ?_
  refine J_iload_n E 3 d_B_hit_9 rfl rfl ?_
  refine J_if_le E 40 d_B_hit_10 (by decide) (by exact ⟨by omega, by omega⟩) (fun h10 => ?_) (fun h10 => ?_)
  · exact J_return E F (by show _ = _; rw [bd_hit_f (by omega)]) d_B_hit_40
  · refine J_aload_n E 0 d_B_hit_13 rfl rfl ?_
    refine J_bipush E d_B_hit_14 (by decide) ?_
    refine J_iload_n E 3 d_B_hit_16 rfl rfl ?_
    refine J_isub E d_B_hit_17 ?_
    refine J_iald E 3 rfl (by decide) (by exact ⟨by omega, by omega⟩) d_B_hit_18 ?_
    refine J_if_le E 40 d_B_hit_19 (by decide) (by have := bd_b hT (25 - t); exact ⟨by omega, by omega⟩) (fun h19 => ?_) (fun h19 => ?_)
    · exact J_return E F (by show _ = _; rw [bd_hit_f (by omega)]) d_B_hit_40
    · refine J_aload_n E 0 d_B_hit_22 rfl rfl ?_
      refine J_bipush E d_B_hit_23 (by decide) ?_
      refine J_iload_n E 3 d_B_hit_25 rfl rfl ?_
      refine J_isub E d_B_hit_26 ?_
      refine J_dup2 E d_B_hit_27 rfl rfl ?_
      refine J_iald E 3 rfl (by decide) (by exact ⟨by omega, by omega⟩) d_B_hit_28 ?_
      refine J_iconst E d_B_hit_29 ?_
      refine J_isub E d_B_hit_30 ?_
      refine J_iast E 3 [(bo, .inr (0, [.ref ra])), (ra, aR L 2 gr), (ro, aI L 26 own), (rt, aI L 26 (z_u oth (25 - t) ((oth (25 - t)) - 1)))] rfl rfl (by decide) (by exact ⟨by omega, by omega⟩) d_B_hit_31 ?_
      refine J_aload_n E 0 d_B_hit_32 rfl rfl ?_
      refine J_bipush E d_B_hit_33 (by decide) ?_
      refine J_dup2 E d_B_hit_35 rfl rfl ?_
      refine J_iald E 3 rfl (by decide) (by exact ⟨by omega, by omega⟩) d_B_hit_36 ?_
      refine J_iconst E d_B_hit_37 ?_
      refine J_iadd E d_B_hit_38 ?_
      refine J_iast E 3 [(bo, .inr (0, [.ref ra])), (ra, aR L 2 gr), (ro, aI L 26 own), (rt, aI L 26 (z_u (z_u oth (25 - t) ((oth (25 - t)) - 1)) 25 (((z_u oth (25 - t) ((oth (25 - t)) - 1)) 25) + 1)))] rfl rfl (by decide) (by exact ⟨by omega, by omega⟩) d_B_hit_39 ?_
      exact J_return E F (by show _ = _; rw [bd_hit_t ⟨h10, h19⟩]) d_B_hit_40
