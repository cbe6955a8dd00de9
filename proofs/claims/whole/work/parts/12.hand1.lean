set_option maxHeartbeats 4000000 in
set_option maxRecDepth 100000 in
theorem c_B_putMen (L : Lx) (bo ra ro rt : Nat) (gr : Nat → Option Nat) (own oth : Int → Int) (p : Int) (pt n : Int) (hp : p = 0 ∨ p = 1) (g0 : gr p.toNat = some ro) (g1 : gr (1 - p).toNat = some rt) (hO : bd_ok own) (hT : bd_ok oth) (hpt : 1 ≤ pt ∧ pt ≤ 24) (hn : 0 ≤ n ∧ n ≤ 15) : CtG L y_B_putMen b_B_putMen 7 (some .boolean) (rmh 1) false 0 0 [.ref bo, .int (z_i p), .int (z_i pt), .int (z_i n)] [(bo, .inr (0, [.ref ra])), (ra, aR L 2 gr), (ro, aI L 26 own), (rt, aI L 26 oth)] (fun u => u = [(bo, .inr (0, [.ref ra])), (ra, aR L 2 gr), (ro, aI L 26 (pm_own own oth pt n)), (rt, aI L 26 oth)]) (some (.int (z_i (b2 (pm_c own oth pt n))))) := by
  refine CtG.of rfl (Nat.le_of_ble_eq_true rfl) (fun X E F => ?_)
  show J L X 7 0 0 [(bo, .inr (0, [.ref ra])), (ra, aR L 2 gr), (ro, aI L 26 own), (rt, aI L 26 oth)] [(0, .ref bo), (1, .int (z_i p)), (2, .int (z_i pt)), (3, .int (z_i n))] [] 0
  refine J_aload_n E 0 d_B_putMen_0 rfl rfl ?_
  refine g_B_11 E 0 rfl rfl d_B_putMen_1 ?_
  refine J_iload_n E 1 d_B_putMen_4 rfl rfl ?_
  refine J_aald E 1 rfl (by decide) (by exact ⟨by omega, by omega⟩) g0 d_B_putMen_5 ?_
  refine J_astore E [(4, .ref ro), (0, .ref bo), (1, .int (z_i p)), (2, .int (z_i pt)), (3, .int (z_i n))] d_B_putMen_6 (by decide) rfl ?_
  refine J_aload E 0 d_B_putMen_8 rfl ?_
  refine J_iconst E d_B_putMen_10 ?_
  refine J_iald E 2 rfl (by decide) (by exact ⟨by omega, by omega⟩) d_B_putMen_11 ?_
  refine J_aload E 0 d_B_putMen_12 rfl ?_
  refine J_iload_n E 3 d_B_putMen_14 rfl rfl ?_
  refine J_iald E 2 rfl (by decide) (by exact ⟨by omega, by omega⟩) d_B_putMen_15 ?_
  refine J_iadd E d_B_putMen_16 ?_
  refine J_iload_n E 4 d_B_putMen_17 rfl rfl ?_
  refine J_isub E d_B_putMen_18 ?_
  refine J_istore E [(5, .int (z_i (((own 0) + (own pt)) - n))), (4, .ref ro), (0, .ref bo), (1, .int (z_i p)), (2, .int (z_i pt)), (3, .int (z_i n))] d_B_putMen_19 (by decide) rfl ?_
  refine J_iload_n E 5 d_B_putMen_21 rfl rfl ?_
  refine J_if_le E 45 d_B_putMen_22 (by decide) (by exact ⟨by omega, by omega⟩) (fun h22 => ?_) (fun h22 => ?_)
  · refine J_iconst E d_B_putMen_45 ?_
    refine J_istore E [(6, .int (z_i 0)), (5, .int (z_i (((own 0) + (own pt)) - n))), (4, .ref ro), (0, .ref bo), (1, .int (z_i p)), (2, .int (z_i pt)), (3, .int (z_i n))] d_B_putMen_46 (by decide) rfl ?_
    refine J_iload E 0 d_B_putMen_48 rfl ?_
    refine J_if_ne E 65 d_B_putMen_50 (by decide) (by exact ⟨by omega, by omega⟩) (fun h50 => ?_) (fun h50 => ?_)
    · refine J_iconst E d_B_putMen_65 ?_
      exact J_zreturn E F (by omega) (b2_f (by have := bd_b hO 0; have := bd_b hO pt; have := bd_b hT (25 - pt); omega)).symm (by show _ = _; rw [pm_own_f (by omega)]) d_B_putMen_66
    · refine J_iload E 1 d_B_putMen_53 rfl ?_
      refine J_if_lt E 65 d_B_putMen_55 (by decide) (by have := bd_b hO 0; have := bd_b hO pt; exact ⟨by omega, by omega⟩) (fun h55 => ?_) (fun h55 => ?_)
      · refine J_iconst E d_B_putMen_65 ?_
        exact J_zreturn E F (by omega) (b2_f (by have := bd_b hO 0; have := bd_b hO pt; have := bd_b hT (25 - pt); omega)).symm (by show _ = _; rw [pm_own_f (by omega)]) d_B_putMen_66
      · refine J_iload E 1 d_B_putMen_58 rfl ?_
        refine J_bipush E d_B_putMen_60 (by decide) ?_
        refine J_icmp_lt E 67 d_B_putMen_62 (by decide) (by have := bd_b hO 0; have := bd_b hO pt; exact ⟨⟨by omega, by omega⟩, ⟨by omega, by omega⟩⟩) (fun h62 => ?_) (fun h62 => ?_)
        · refine J_aload E 2 d_B_putMen_67 rfl ?_
          refine J_iconst E d_B_putMen_69 ?_
          refine J_iload E 1 d_B_putMen_70 rfl ?_
          refine J_iast E 2 [(bo, .inr (0, [.ref ra])), (ra, aR L 2 gr), (ro, aI L 26 (z_u own 0 (((own 0) + (own pt)) - n))), (rt, aI L 26 oth)] rfl rfl (by decide) (by exact ⟨by omega, by omega⟩) d_B_putMen_72 ?_
          refine J_aload E 2 d_B_putMen_73 rfl ?_
          refine J_iload_n E 5 d_B_putMen_75 rfl rfl ?_
          refine J_iload_n E 6 d_B_putMen_76 rfl rfl ?_
          refine J_iast E 2 [(bo, .inr (0, [.ref ra])), (ra, aR L 2 gr), (ro, aI L 26 (z_u (z_u own 0 (((own 0) + (own pt)) - n)) pt n)), (rt, aI L 26 oth)] rfl rfl (by decide) (by exact ⟨by omega, by omega⟩) d_B_putMen_77 ?_
          refine J_iconst E d_B_putMen_78 ?_
          exact J_zreturn E F (by omega) (b2_t (by have := bd_b hO 0; have := bd_b hO pt; have := bd_b hT (25 - pt); omega)).symm (by show _ = _; rw [pm_own_t (by omega)]) d_B_putMen_79
        · refine J_iconst E d_B_putMen_65 ?_
          exact J_zreturn E F (by omega) (b2_f (by have := bd_b hO 0; have := bd_b hO pt; have := bd_b hT (25 - pt); omega)).symm (by show _ = _; rw [pm_own_f (by omega)]) d_B_putMen_66
  · refine J_aload_n E 2 d_B_putMen_25 rfl rfl ?_
    refine g_B_11 E 0 rfl rfl d_B_putMen_26 ?_
    refine J_iconst E d_B_putMen_29 ?_
    refine J_iload_n E 3 d_B_putMen_30 rfl rfl ?_
    refine J_isub E d_B_putMen_31 ?_
    refine J_aald E 1 rfl (by decide) (by exact ⟨by omega, by omega⟩) g1 d_B_putMen_32 ?_
    refine J_bipush E d_B_putMen_33 (by decide) ?_
    refine J_iload_n E 4 d_B_putMen_35 rfl rfl ?_
    refine J_isub E d_B_putMen_36 ?_
    refine J_iald E 3 rfl (by decide) (by exact ⟨by omega, by omega⟩) d_B_putMen_37 ?_
    refine J_if_le E 45 d_B_putMen_38 (by decide) (by have := bd_b hT (25 - pt); exact ⟨by omega, by omega⟩) (fun h38 => ?_) (fun h38 => ?_)
    · refine J_iconst E d_B_putMen_45 ?_
      refine J_istore E [(6, .int (z_i 0)), (5, .int (z_i (((own 0) + (own pt)) - n))), (4, .ref ro), (0, .ref bo), (1, .int (z_i p)), (2, .int (z_i pt)), (3, .int (z_i n))] d_B_putMen_46 (by decide) rfl ?_
      refine J_iload E 0 d_B_putMen_48 rfl ?_
      refine J_if_ne E 65 d_B_putMen_50 (by decide) (by exact ⟨by omega, by omega⟩) (fun h50 => ?_) (fun h50 => ?_)
      · refine J_iconst E d_B_putMen_65 ?_
        exact J_zreturn E F (by omega) (b2_f (by have := bd_b hO 0; have := bd_b hO pt; have := bd_b hT (25 - pt); omega)).symm (by show _ = _; rw [pm_own_f (by omega)]) d_B_putMen_66
      · refine J_iload E 1 d_B_putMen_53 rfl ?_
        refine J_if_lt E 65 d_B_putMen_55 (by decide) (by have := bd_b hO 0; have := bd_b hO pt; exact ⟨by omega, by omega⟩) (fun h55 => ?_) (fun h55 => ?_)
        · refine J_iconst E d_B_putMen_65 ?_
          exact J_zreturn E F (by omega) (b2_f (by have := bd_b hO 0; have := bd_b hO pt; have := bd_b hT (25 - pt); omega)).symm (by show _ = _; rw [pm_own_f (by omega)]) d_B_putMen_66
        · refine J_iload E 1 d_B_putMen_58 rfl ?_
          refine J_bipush E d_B_putMen_60 (by decide) ?_
          refine J_icmp_lt E 67 d_B_putMen_62 (by decide) (by have := bd_b hO 0; have := bd_b hO pt; exact ⟨⟨by omega, by omega⟩, ⟨by omega, by omega⟩⟩) (fun h62 => ?_) (fun h62 => ?_)
          · refine J_aload E 2 d_B_putMen_67 rfl ?_
            refine J_iconst E d_B_putMen_69 ?_
            refine J_iload E 1 d_B_putMen_70 rfl ?_
            refine J_iast E 2 [(bo, .inr (0, [.ref ra])), (ra, aR L 2 gr), (ro, aI L 26 (z_u own 0 (((own 0) + (own pt)) - n))), (rt, aI L 26 oth)] rfl rfl (by decide) (by exact ⟨by omega, by omega⟩) d_B_putMen_72 ?_
            refine J_aload E 2 d_B_putMen_73 rfl ?_
            refine J_iload_n E 5 d_B_putMen_75 rfl rfl ?_
            refine J_iload_n E 6 d_B_putMen_76 rfl rfl ?_
            refine J_iast E 2 [(bo, .inr (0, [.ref ra])), (ra, aR L 2 gr), (ro, aI L 26 (z_u (z_u own 0 (((own 0) + (own pt)) - n)) pt n)), (rt, aI L 26 oth)] rfl rfl (by decide) (by exact ⟨by omega, by omega⟩) d_B_putMen_77 ?_
            refine J_iconst E d_B_putMen_78 ?_
            exact J_zreturn E F (by omega) (b2_t (by have := bd_b hO 0; have := bd_b hO pt; have := bd_b hT (25 - pt); omega)).symm (by show _ = _; rw [pm_own_t (by omega)]) d_B_putMen_79
          · refine J_iconst E d_B_putMen_65 ?_
            exact J_zreturn E F (by omega) (b2_f (by have := bd_b hO 0; have := bd_b hO pt; have := bd_b hT (25 - pt); omega)).symm (by show _ = _; rw [pm_own_f (by omega)]) d_B_putMen_66
    · refine J_iconst E d_B_putMen_41 ?_
      refine J_goto E 46 d_B_putMen_42 (by decide) ?_
      refine J_istore E [(6, .int (z_i 1)), (5, .int (z_i (((own 0) + (own pt)) - n))), (4, .ref ro), (0, .ref bo), (1, .int (z_i p)), (2, .int (z_i pt)), (3, .int (z_i n))] d_B_putMen_46 (by decide) rfl ?_
      refine J_iload E 0 d_B_putMen_48 rfl ?_
      refine J_if_ne E 65 d_B_putMen_50 (by decide) (by exact ⟨by omega, by omega⟩) (fun h50 => ?_) (fun h50 => ?_)
      · refine J_iconst E d_B_putMen_65 ?_
        exact J_zreturn E F (by omega) (b2_f (by have := bd_b hO 0; have := bd_b hO pt; have := bd_b hT (25 - pt); omega)).symm (by show _ = _; rw [pm_own_f (by omega)]) d_B_putMen_66
      · refine J_iload E 1 d_B_putMen_53 rfl ?_
        refine J_if_lt E 65 d_B_putMen_55 (by decide) (by have := bd_b hO 0; have := bd_b hO pt; exact ⟨by omega, by omega⟩) (fun h55 => ?_) (fun h55 => ?_)
        · refine J_iconst E d_B_putMen_65 ?_
          exact J_zreturn E F (by omega) (b2_f (by have := bd_b hO 0; have := bd_b hO pt; have := bd_b hT (25 - pt); omega)).symm (by show _ = _; rw [pm_own_f (by omega)]) d_B_putMen_66
        · refine J_iload E 1 d_B_putMen_58 rfl ?_
          refine J_bipush E d_B_putMen_60 (by decide) ?_
          refine J_icmp_lt E 67 d_B_putMen_62 (by decide) (by have := bd_b hO 0; have := bd_b hO pt; exact ⟨⟨by omega, by omega⟩, ⟨by omega, by omega⟩⟩) (fun h62 => ?_) (fun h62 => ?_)
          · refine J_aload E 2 d_B_putMen_67 rfl ?_
            refine J_iconst E d_B_putMen_69 ?_
            refine J_iload E 1 d_B_putMen_70 rfl ?_
            refine J_iast E 2 [(bo, .inr (0, [.ref ra])), (ra, aR L 2 gr), (ro, aI L 26 (z_u own 0 (((own 0) + (own pt)) - n))), (rt, aI L 26 oth)] rfl rfl (by decide) (by exact ⟨by omega, by omega⟩) d_B_putMen_72 ?_
            refine J_aload E 2 d_B_putMen_73 rfl ?_
            refine J_iload_n E 5 d_B_putMen_75 rfl rfl ?_
            refine J_iload_n E 6 d_B_putMen_76 rfl rfl ?_
            refine J_iast E 2 [(bo, .inr (0, [.ref ra])), (ra, aR L 2 gr), (ro, aI L 26 (z_u (z_u own 0 (((own 0) + (own pt)) - n)) pt n)), (rt, aI L 26 oth)] rfl rfl (by decide) (by exact ⟨by omega, by omega⟩) d_B_putMen_77 ?_
            refine J_iconst E d_B_putMen_78 ?_
            exact J_zreturn E F (by omega) (b2_t (by have := bd_b hO 0; have := bd_b hO pt; have := bd_b hT (25 - pt); omega)).symm (by show _ = _; rw [pm_own_t (by omega)]) d_B_putMen_79
          · refine J_iconst E d_B_putMen_65 ?_
            exact J_zreturn E F (by omega) (b2_f (by have := bd_b hO 0; have := bd_b hO pt; have := bd_b hT (25 - pt); omega)).symm (by show _ = _; rw [pm_own_f (by omega)]) d_B_putMen_66
set_option maxHeartbeats 4000000 in
set_option maxRecDepth 100000 in
theorem c_B_countPips (L : Lx) (bo ra ro rt : Nat) (gr : Nat → Option Nat) (own oth : Int → Int) (p : Int) (hp : p = 0 ∨ p = 1) (g0 : gr p.toNat = some ro) (g1 : gr (1 - p).toNat = some rt) (hO : bd_ok own) (hT : bd_ok oth) : CtG L y_B_countPips b_B_countPips 4 (some .int) (rmh 1) false 0 0 [.ref bo, .int (z_i p)] [(bo, .inr (0, [.ref ra])), (ra, aR L 2 gr), (ro, aI L 26 own), (rt, aI L 26 oth)] (fun u => u = [(bo, .inr (0, [.ref ra])), (ra, aR L 2 gr), (ro, aI L 26 own), (rt, aI L 26 oth)]) (some (.int (z_i (pp_f own 25)))) := by
  refine CtG.of rfl (Nat.le_of_ble_eq_true rfl) (fun X E F => ?_)
  show J L X 4 0 0 [(bo, .inr (0, [.ref ra])), (ra, aR L 2 gr), (ro, aI L 26 own), (rt, aI L 26 oth)] [(0, .ref bo), (1, .int (z_i p))] [] 0
  refine J_iconst E d_B_countPips_0 ?_
  refine J_istore_n E [(2, .int (z_i 0)), (0, .ref bo), (1, .int (z_i p))] d_B_countPips_1 rfl (by decide) rfl ?_
  refine J_iconst E d_B_countPips_2 ?_
  refine J_istore_n E [(3, .int (z_i 1)), (2, .int (z_i 0)), (0, .ref bo), (1, .int (z_i p))] d_B_countPips_3 rfl (by decide) rfl ?_
  have C4 : ∀ (mm : Nat) (c : Int) (k : Int), (1 ≤ k ∧ k ≤ 26) → (c = pp_f own (k - 1).toNat) → (26 - k).toNat < mm → J L X 4 0 0 [(bo, .inr (0, [.ref ra])), (ra, aR L 2 gr), (ro, aI L 26 own), (rt, aI L 26 oth)] [(3, .int (z_i k)), (2, .int (z_i c)), (0, .ref bo), (1, .int (z_i p))] [] 4 := by
    intro mm
    induction mm with
    | zero => intro c k hk he hmm; exact absurd hmm (Nat.not_lt_zero _)
    | succ mm ih4 =>
      intro c k hk he hmm
      refine J_iload_n E 0 d_B_countPips_4 rfl rfl ?_
      refine J_bipush E d_B_countPips_5 (by decide) ?_
      refine J_icmp_gt E 29 d_B_countPips_7 (by decide) (by exact ⟨⟨by omega, by omega⟩, ⟨by omega, by omega⟩⟩) (fun h7 => ?_) (fun h7 => ?_)
      · refine J_iload_n E 1 d_B_countPips_29 rfl rfl ?_
        exact J_ireturn E F (by rw [he, show k = 26 by omega]; rfl) rfl d_B_countPips_30
      · refine J_iload_n E 1 d_B_countPips_10 rfl rfl ?_
        refine J_iload_n E 0 d_B_countPips_11 rfl rfl ?_
        refine J_aload_n E 2 d_B_countPips_12 rfl rfl ?_
        refine g_B_11 E 0 rfl rfl d_B_countPips_13 ?_
        refine J_iload_n E 3 d_B_countPips_16 rfl rfl ?_
        refine J_aald E 1 rfl (by decide) (by exact ⟨by omega, by omega⟩) g0 d_B_countPips_17 ?_
        refine J_iload_n E 0 d_B_countPips_18 rfl rfl ?_
        refine J_iald E 2 rfl (by decide) (by exact ⟨by omega, by omega⟩) d_B_countPips_19 ?_
        refine J_imul E d_B_countPips_20 ?_
        refine J_iadd E d_B_countPips_21 ?_
        refine J_istore_n E [(2, .int (z_i (c + (k * (own k))))), (3, .int (z_i k)), (0, .ref bo), (1, .int (z_i p))] d_B_countPips_22 rfl (by decide) rfl ?_
        refine J_iinc E 1 [(3, .int (z_i (k + 1))), (2, .int (z_i (c + (k * (own k))))), (0, .ref bo), (1, .int (z_i p))] d_B_countPips_23 rfl (by decide) rfl ?_
        refine J_goto E 4 d_B_countPips_26 (by decide) ?_
        exact ih4 (c + (k * (own k))) (k + 1) (by omega) (by rw [pp_step own (by omega), he]) (by omega)
  exact C4 _ 0 1 (by decide) rfl (Nat.lt_succ_self _)
set_option maxHeartbeats 4000000 in
set_option maxRecDepth 100000 in
theorem c_B_timesCounted (L : Lx) (bo ra ro rt : Nat) (gr : Nat → Option Nat) (own oth : Int → Int) (p : Int) (hp : p = 0 ∨ p = 1) (g0 : gr p.toNat = some ro) (g1 : gr (1 - p).toNat = some rt) (hO : bd_ok own) (hT : bd_ok oth) : CtG L y_B_timesCounted b_B_timesCounted 3 (some .int) (rmh 2) false 0 0 [.ref bo, .int (z_i p)] [(bo, .inr (0, [.ref ra])), (ra, aR L 2 gr), (ro, aI L 26 own), (rt, aI L 26 oth)] (fun u => u = [(bo, .inr (0, [.ref ra])), (ra, aR L 2 gr), (ro, aI L 26 own), (rt, aI L 26 oth)]) (some (.int (z_i (tc_f oth)))) := by
  refine CtG.of rfl (Nat.le_of_ble_eq_true rfl) (fun X E F => ?_)
  show J L X 3 0 0 [(bo, .inr (0, [.ref ra])), (ra, aR L 2 gr), (ro, aI L 26 own), (rt, aI L 26 oth)] [(0, .ref bo), (1, .int (z_i p))] [] 0
  refine J_aload_n E 0 d_B_timesCounted_0 rfl rfl ?_
  refine g_B_11 E 0 rfl rfl d_B_timesCounted_1 ?_
  refine J_iconst E d_B_timesCounted_4 ?_
  refine J_iload_n E 1 d_B_timesCounted_5 rfl rfl ?_
  refine J_isub E d_B_timesCounted_6 ?_
  refine J_aald E 1 rfl (by decide) (by exact ⟨by omega, by omega⟩) g1 d_B_timesCounted_7 ?_
  refine J_astore_n E [(2, .ref rt), (0, .ref bo), (1, .int (z_i p))] d_B_timesCounted_8 rfl (by decide) rfl ?_
  refine J_aload_n E 0 d_B_timesCounted_9 rfl rfl ?_
  refine J_iconst E d_B_timesCounted_10 ?_
  refine J_iald E 3 rfl (by decide) (by exact ⟨by omega, by omega⟩) d_B_timesCounted_11 ?_
  refine J_if_le E 17 d_B_timesCounted_12 (by decide) (by have := bd_b hT 0; exact ⟨by omega, by omega⟩) (fun h12 => ?_) (fun h12 => ?_)
  · refine J_aload_n E 0 d_B_timesCounted_17 rfl rfl ?_
    refine J_callS (wr := [(bo, .inr (0, [.ref ra])), (ra, aR L 2 gr), (ro, aI L 26 own)]) (rest := []) E kb_B_rearmostPlace t_1_149 t_1_150 (c_B_rearmostPlace L rt oth hT) (fun h => h) (Rm_h (by decide) (by decide)) [3] [0, 1, 2] rfl rfl rfl rfl (by decide) rfl rfl (Nat.le_of_ble_eq_true rfl) d_B_timesCounted_18 (fun w' hw => ?_)
    obtain rfl : w' = [(rt, aI L 26 oth)] := hw
    show J L X 3 0 0 [(bo, .inr (0, [.ref ra])), (ra, aR L 2 gr), (ro, aI L 26 own), (rt, aI L 26 oth)] [(2, .ref rt), (0, .ref bo), (1, .int (z_i p))] [.int (z_i (rr_f oth 25))] 21
    refine J_bipush E d_B_timesCounted_21 (by decide) ?_
    refine J_icmp_lt E 30 d_B_timesCounted_23 (by decide) (by have := rr_in oth 25; exact ⟨⟨by omega, by omega⟩, by omega, by omega⟩) (fun h23 => ?_) (fun h23 => ?_)
    · refine J_iconst E d_B_timesCounted_30 ?_
      exact J_ireturn E F (by unfold tc_f; rw [if_neg (by omega), if_neg (by omega)]) rfl d_B_timesCounted_31
    · refine J_iconst E d_B_timesCounted_26 ?_
      refine J_goto E 31 d_B_timesCounted_27 (by decide) ?_
      exact J_ireturn E F (by unfold tc_f; rw [if_neg (by omega), if_pos h23]) rfl d_B_timesCounted_31
  · refine J_iconst E d_B_timesCounted_15 ?_
    exact J_ireturn E F (if_pos h12).symm rfl d_B_timesCounted_16
def MU (k : Nat) : Prop := ∀ (L : Lx) (ho di : Nat) (bo ra ro rt : Nat) (gr : Nat → Option Nat) (own oth : Int → Int) (p : Int) (dice : Int → Int) (us ct : Int) (rem : Int) (_ : p = 0 ∨ p = 1) (_ : gr p.toNat = some ro) (_ : gr (1 - p).toNat = some rt) (_ : bd_ok own) (_ : bd_ok oth) (_ : dc_ok dice) (_ : bd_sum dice = rem) (_ : 0 ≤ rem ∧ rem ≤ 4), rem = (k : Int) → CtG L y_H_mostUsable b_H_mostUsable 5 (some .int) (rmh (2 * k + 3)) false 0 0 [.ref ho, .int (z_i rem)] [(ho, .inr (1, [.ref di, .int (z_i us), .ref bo, .int (z_i p), .int (z_i ct)])), (di, aI L 7 dice), (bo, .inr (0, [.ref ra])), (ra, aR L 2 gr), (ro, aI L 26 own), (rt, aI L 26 oth)] (fun u => u = [(ho, .inr (1, [.ref di, .int (z_i us), .ref bo, .int (z_i p), .int (z_i ct)])), (di, aI L 7 dice), (bo, .inr (0, [.ref ra])), (ra, aR L 2 gr), (ro, aI L 26 own), (rt, aI L 26 oth)]) (some (.int (z_i ((bd_due oth dice own : Nat) : Int))))
def MUA (k : Nat) : Prop := ∀ (L : Lx) (ho di : Nat) (bo ra ro rt : Nat) (gr : Nat → Option Nat) (own oth : Int → Int) (p : Int) (dice : Int → Int) (us ct : Int) (rem f d : Int) (_ : p = 0 ∨ p = 1) (_ : gr p.toNat = some ro) (_ : gr (1 - p).toNat = some rt) (_ : bd_ok own) (_ : bd_ok oth) (_ : dc_ok dice) (_ : bd_sum dice = rem) (_ : 0 ≤ rem ∧ rem ≤ 4) (_ : 1 ≤ f ∧ f ≤ 25) (_ : 1 ≤ d ∧ d ≤ 6) (_ : 0 < dice d) (_ : own f ≠ 0), rem = (k : Int) → CtG L y_H_mostUsableAfter b_H_mostUsableAfter 5 (some .int) (rmh (2 * k + 2)) false 0 0 [.ref ho, .int (z_i f), .int (z_i d), .int (z_i rem)] [(ho, .inr (1, [.ref di, .int (z_i us), .ref bo, .int (z_i p), .int (z_i ct)])), (di, aI L 7 dice), (bo, .inr (0, [.ref ra])), (ra, aR L 2 gr), (ro, aI L 26 own), (rt, aI L 26 oth)] (fun u => u = [(ho, .inr (1, [.ref di, .int (z_i us), .ref bo, .int (z_i p), .int (z_i ct)])), (di, aI L 7 dice), (bo, .inr (0, [.ref ra])), (ra, aR L 2 gr), (ro, aI L 26 own), (rt, aI L 26 oth)]) (some (.int (z_i ((bd_due oth (z_u dice d (dice d - 1)) (bd_sh own f d) : Nat) : Int))))
set_option maxHeartbeats 4000000 in
set_option maxRecDepth 100000 in
theorem c_H_mostUsableAfter_s (L : Lx) (k : Nat) (hM : MU k) (ho di : Nat) (bo ra ro rt : Nat) (gr : Nat → Option Nat) (own oth : Int → Int) (p : Int) (dice : Int → Int) (us ct : Int) (rem f d : Int) (hp : p = 0 ∨ p = 1) (g0 : gr p.toNat = some ro) (g1 : gr (1 - p).toNat = some rt) (hO : bd_ok own) (hT : bd_ok oth) (hc : dc_ok dice) (hs : bd_sum dice = rem) (h4 : 0 ≤ rem ∧ rem ≤ 4) (hf : 1 ≤ f ∧ f ≤ 25) (hd : 1 ≤ d ∧ d ≤ 6) (hp0 : 0 < dice d) (hf0 : own f ≠ 0) (hk : rem = ((k + 1 : Nat) : Int)) : CtG L y_H_mostUsableAfter b_H_mostUsableAfter 5 (some .int) (rmh (2 * (k + 1) + 2)) false 0 0 [.ref ho, .int (z_i f), .int (z_i d), .int (z_i rem)] [(ho, .inr (1, [.ref di, .int (z_i us), .ref bo, .int (z_i p), .int (z_i ct)])), (di, aI L 7 dice), (bo, .inr (0, [.ref ra])), (ra, aR L 2 gr), (ro, aI L 26 own), (rt, aI L 26 oth)] (fun u => u = [(ho, .inr (1, [.ref di, .int (z_i us), .ref bo, .int (z_i p), .int (z_i ct)])), (di, aI L 7 dice), (bo, .inr (0, [.ref ra])), (ra, aR L 2 gr), (ro, aI L 26 own), (rt, aI L 26 oth)]) (some (.int (z_i (((bd_due oth (z_u dice d (dice d - 1)) (bd_sh own f d) : Nat) : Int))))) := by
  refine CtG.of rfl (Nat.le_of_ble_eq_true rfl) (fun X E F => ?_)
  show J L X 5 0 0 [(ho, .inr (1, [.ref di, .int (z_i us), .ref bo, .int (z_i p), .int (z_i ct)])), (di, aI L 7 dice), (bo, .inr (0, [.ref ra])), (ra, aR L 2 gr), (ro, aI L 26 own), (rt, aI L 26 oth)] [(0, .ref ho), (1, .int (z_i f)), (2, .int (z_i d)), (3, .int (z_i rem))] [] 0
  have hO2 := bd_sh_ok hO hf.1 hf.2 hd.1 hf0
  have hc2 := dc_down hc hp0
  have hs2 := bd_sum_u dice (v := dice d - 1) hd.1 hd.2
  refine J_aload_n E 0 d_H_mostUsableAfter_0 rfl rfl ?_
  refine g_H_15 E 0 rfl rfl d_H_mostUsableAfter_1 ?_
  refine J_aload_n E 0 d_H_mostUsableAfter_4 rfl rfl ?_
  refine g_H_23 E 0 rfl rfl d_H_mostUsableAfter_5 ?_
  refine J_iload_n E 1 d_H_mostUsableAfter_8 rfl rfl ?_
  refine J_iload_n E 2 d_H_mostUsableAfter_9 rfl rfl ?_
  refine J_callV (wr := [(ho, .inr (1, [.ref di, .int (z_i us), .ref bo, .int (z_i p), .int (z_i ct)])), (di, aI L 7 dice)]) (rest := []) E kb_B_shift t_1_156 t_1_157 t_1_158 (c_B_shift L bo ra ro rt gr own oth p f d hp g0 g1 hO hT hf hd) (fun h => h) (Rm_h (by omega) (by decide)) [2, 3, 4, 5] [0, 1] rfl rfl rfl rfl (by decide) 0 rfl rfl rfl rfl (Nat.le_of_ble_eq_true rfl) d_H_mostUsableAfter_10 (fun w' hw => ?_)
  obtain rfl : w' = [(bo, .inr (0, [.ref ra])), (ra, aR L 2 gr), (ro, aI L 26 (bd_sh own f d)), (rt, aI L 26 oth)] := hw
  show J L X 5 0 0 [(ho, .inr (1, [.ref di, .int (z_i us), .ref bo, .int (z_i p), .int (z_i ct)])), (di, aI L 7 dice), (bo, .inr (0, [.ref ra])), (ra, aR L 2 gr), (ro, aI L 26 (bd_sh own f d)), (rt, aI L 26 oth)] [(0, .ref ho), (1, .int (z_i f)), (2, .int (z_i d)), (3, .int (z_i rem))] [] 13
  refine J_aload_n E 0 d_H_mostUsableAfter_13 rfl rfl ?_
  refine g_H_9 E 0 rfl rfl d_H_mostUsableAfter_14 ?_
  refine J_iload_n E 2 d_H_mostUsableAfter_17 rfl rfl ?_
  refine J_dup2 E d_H_mostUsableAfter_18 rfl rfl ?_
  refine J_iald E 1 rfl (by decide) (by exact ⟨by omega, by omega⟩) d_H_mostUsableAfter_19 ?_
  refine J_iconst E d_H_mostUsableAfter_20 ?_
  refine J_isub E d_H_mostUsableAfter_21 ?_
  refine J_iast E 1 [(ho, .inr (1, [.ref di, .int (z_i us), .ref bo, .int (z_i p), .int (z_i ct)])), (di, aI L 7 (z_u dice d ((dice d) - 1))), (bo, .inr (0, [.ref ra])), (ra, aR L 2 gr), (ro, aI L 26 (bd_sh own f d)), (rt, aI L 26 oth)] rfl rfl (by decide) (by exact ⟨by omega, by omega⟩) d_H_mostUsableAfter_22 ?_
  refine J_aload_n E 0 d_H_mostUsableAfter_23 rfl rfl ?_
  refine J_iload_n E 3 d_H_mostUsableAfter_24 rfl rfl ?_
  refine J_iconst E d_H_mostUsableAfter_25 ?_
  refine J_isub E d_H_mostUsableAfter_26 ?_
  refine J_callV (wr := []) (rest := []) E kb_H_mostUsable t_1_140 t_1_142 ts_H_mostUsable (hM L ho di bo ra ro rt gr (bd_sh own f d) oth p (z_u dice d (dice d - 1)) us ct (rem - 1) hp g0 g1 hO2 hT hc2 (by omega) (by omega) (by omega)) (fun h => h) (Rm_h (by omega) (by decide)) [0, 1, 2, 3, 4, 5] [] rfl rfl rfl rfl (by decide) 0 rfl rfl rfl rfl (Nat.le_of_ble_eq_true rfl) d_H_mostUsableAfter_27 (fun w' hw => ?_)
  obtain rfl : w' = [(ho, .inr (1, [.ref di, .int (z_i us), .ref bo, .int (z_i p), .int (z_i ct)])), (di, aI L 7 (z_u dice d ((dice d) - 1))), (bo, .inr (0, [.ref ra])), (ra, aR L 2 gr), (ro, aI L 26 (bd_sh own f d)), (rt, aI L 26 oth)] := hw
  show J L X 5 0 0 [(ho, .inr (1, [.ref di, .int (z_i us), .ref bo, .int (z_i p), .int (z_i ct)])), (di, aI L 7 (z_u dice d ((dice d) - 1))), (bo, .inr (0, [.ref ra])), (ra, aR L 2 gr), (ro, aI L 26 (bd_sh own f d)), (rt, aI L 26 oth)] [(0, .ref ho), (1, .int (z_i f)), (2, .int (z_i d)), (3, .int (z_i rem))] [.int (z_i (((bd_due oth (z_u dice d (dice d - 1)) (bd_sh own f d) : Nat) : Int)))] 30
  refine J_istore E [(4, .int (z_i (((bd_due oth (z_u dice d (dice d - 1)) (bd_sh own f d) : Nat) : Int)))), (0, .ref ho), (1, .int (z_i f)), (2, .int (z_i d)), (3, .int (z_i rem))] d_H_mostUsableAfter_30 (by decide) rfl ?_
  refine J_aload_n E 1 d_H_mostUsableAfter_32 rfl rfl ?_
  refine g_H_9 E 0 rfl rfl d_H_mostUsableAfter_33 ?_
  refine J_iload_n E 3 d_H_mostUsableAfter_36 rfl rfl ?_
  refine J_dup2 E d_H_mostUsableAfter_37 rfl rfl ?_
  refine J_iald E 1 rfl (by decide) (by exact ⟨by omega, by omega⟩) d_H_mostUsableAfter_38 ?_
  refine J_iconst E d_H_mostUsableAfter_39 ?_
  refine J_iadd E d_H_mostUsableAfter_40 ?_
  refine J_iast E 1 [(ho, .inr (1, [.ref di, .int (z_i us), .ref bo, .int (z_i p), .int (z_i ct)])), (di, aI L 7 (z_u (z_u dice d ((dice d) - 1)) d (((z_u dice d ((dice d) - 1)) d) + 1))), (bo, .inr (0, [.ref ra])), (ra, aR L 2 gr), (ro, aI L 26 (bd_sh own f d)), (rt, aI L 26 oth)] rfl rfl (by decide) (by exact ⟨by omega, by omega⟩) d_H_mostUsableAfter_41 ?_
  refine J_aload_n E 1 d_H_mostUsableAfter_42 rfl rfl ?_
  refine g_H_15 E 0 rfl rfl d_H_mostUsableAfter_43 ?_
  refine J_aload_n E 1 d_H_mostUsableAfter_46 rfl rfl ?_
  refine g_H_23 E 0 rfl rfl d_H_mostUsableAfter_47 ?_
  refine J_iload_n E 2 d_H_mostUsableAfter_50 rfl rfl ?_
  refine J_iload_n E 3 d_H_mostUsableAfter_51 rfl rfl ?_
  refine J_callV (wr := [(ho, .inr (1, [.ref di, .int (z_i us), .ref bo, .int (z_i p), .int (z_i ct)])), (di, aI L 7 (z_u (z_u dice d ((dice d) - 1)) d (((z_u dice d ((dice d) - 1)) d) + 1)))]) (rest := []) E kb_B_shiftBack t_1_161 t_1_162 t_1_163 (c_B_shiftBack L bo ra ro rt gr (bd_sh own f d) oth p f d hp g0 g1 hO2 hT hf hd) (fun h => h) (Rm_h (by omega) (by decide)) [2, 3, 4, 5] [0, 1] rfl rfl rfl rfl (by decide) 0 rfl rfl rfl rfl (Nat.le_of_ble_eq_true rfl) d_H_mostUsableAfter_52 (fun w' hw => ?_)
  obtain rfl : w' = [(bo, .inr (0, [.ref ra])), (ra, aR L 2 gr), (ro, aI L 26 (bd_back (bd_sh own f d) f d)), (rt, aI L 26 oth)] := hw
  show J L X 5 0 0 [(ho, .inr (1, [.ref di, .int (z_i us), .ref bo, .int (z_i p), .int (z_i ct)])), (di, aI L 7 (z_u (z_u dice d ((dice d) - 1)) d (((z_u dice d ((dice d) - 1)) d) + 1))), (bo, .inr (0, [.ref ra])), (ra, aR L 2 gr), (ro, aI L 26 (bd_back (bd_sh own f d) f d)), (rt, aI L 26 oth)] [(4, .int (z_i (((bd_due oth (z_u dice d (dice d - 1)) (bd_sh own f d) : Nat) : Int)))), (0, .ref ho), (1, .int (z_i f)), (2, .int (z_i d)), (3, .int (z_i rem))] [] 55
  refine J_iload E 0 d_H_mostUsableAfter_55 rfl ?_
  exact J_ireturn E F rfl (by show _ = _; rw [bd_back_sh (bd_to_in hf.1 hf.2 hd.1).2.2.1, dc_back]) d_H_mostUsableAfter_57
set_option maxHeartbeats 4000000 in
set_option maxRecDepth 100000 in
theorem c_H_mostUsable_s (L : Lx) (k : Nat) (hM : 0 < k → MUA k) (ho di : Nat) (bo ra ro rt : Nat) (gr : Nat → Option Nat) (own oth : Int → Int) (p : Int) (dice : Int → Int) (us ct : Int) (rem : Int) (hp : p = 0 ∨ p = 1) (g0 : gr p.toNat = some ro) (g1 : gr (1 - p).toNat = some rt) (hO : bd_ok own) (hT : bd_ok oth) (hc : dc_ok dice) (hs : bd_sum dice = rem) (h4 : 0 ≤ rem ∧ rem ≤ 4) (hk : rem = (k : Int)) : CtG L y_H_mostUsable b_H_mostUsable 5 (some .int) (rmh (2 * k + 3)) false 0 0 [.ref ho, .int (z_i rem)] [(ho, .inr (1, [.ref di, .int (z_i us), .ref bo, .int (z_i p), .int (z_i ct)])), (di, aI L 7 dice), (bo, .inr (0, [.ref ra])), (ra, aR L 2 gr), (ro, aI L 26 own), (rt, aI L 26 oth)] (fun u => u = [(ho, .inr (1, [.ref di, .int (z_i us), .ref bo, .int (z_i p), .int (z_i ct)])), (di, aI L 7 dice), (bo, .inr (0, [.ref ra])), (ra, aR L 2 gr), (ro, aI L 26 own), (rt, aI L 26 oth)]) (some (.int (z_i (((bd_due oth dice own : Nat) : Int))))) := by
  refine CtG.of rfl (Nat.le_of_ble_eq_true rfl) (fun X E F => ?_)
  show J L X 5 0 0 [(ho, .inr (1, [.ref di, .int (z_i us), .ref bo, .int (z_i p), .int (z_i ct)])), (di, aI L 7 dice), (bo, .inr (0, [.ref ra])), (ra, aR L 2 gr), (ro, aI L 26 own), (rt, aI L 26 oth)] [(0, .ref ho), (1, .int (z_i rem))] [] 0
  refine J_iconst E d_H_mostUsable_0 ?_
  refine J_istore_n E [(2, .int (z_i 0)), (0, .ref ho), (1, .int (z_i rem))] d_H_mostUsable_1 rfl (by decide) rfl ?_
  refine J_bipush E d_H_mostUsable_2 (by decide) ?_
  refine J_istore_n E [(3, .int (z_i 6)), (2, .int (z_i 0)), (0, .ref ho), (1, .int (z_i rem))] d_H_mostUsable_4 rfl (by decide) rfl ?_
  have C5 : ∀ (mm : Nat) (die : Int) (mo : Int), (0 ≤ die ∧ die ≤ 6) → (0 ≤ mo ∧ mo ≤ 4) → (mu_inv oth dice own rem.toNat die 25 mo.toNat) → die.toNat < mm → J L X 5 0 0 [(ho, .inr (1, [.ref di, .int (z_i us), .ref bo, .int (z_i p), .int (z_i ct)])), (di, aI L 7 dice), (bo, .inr (0, [.ref ra])), (ra, aR L 2 gr), (ro, aI L 26 own), (rt, aI L 26 oth)] [(3, .int (z_i die)), (2, .int (z_i mo)), (0, .ref ho), (1, .int (z_i rem))] [] 5 := by
    intro mm
    induction mm with
    | zero => intro die mo hdi hm hi hmm; exact absurd hmm (Nat.not_lt_zero _)
    | succ mm ih5 =>
      intro die mo hdi hm hi hmm
      refine J_iload_n E 0 d_H_mostUsable_5 rfl rfl ?_
      refine J_iconst E d_H_mostUsable_6 ?_
      refine J_icmp_lt E 78 d_H_mostUsable_7 (by decide) (by exact ⟨⟨by omega, by omega⟩, ⟨by omega, by omega⟩⟩) (fun h7 => ?_) (fun h7 => ?_)
      · refine J_iload_n E 1 d_H_mostUsable_78 rfl rfl ?_
        exact J_ireturn E F (mu_end2 h4 hm (by omega) hi) rfl d_H_mostUsable_79
      · refine J_bipush E d_H_mostUsable_10 (by decide) ?_
        refine J_istore E [(4, .int (z_i 25)), (3, .int (z_i die)), (2, .int (z_i mo)), (0, .ref ho), (1, .int (z_i rem))] d_H_mostUsable_12 (by decide) rfl ?_
        have C14 : ∀ (mm : Nat) (frm : Int) (mo2 : Int), (0 ≤ frm ∧ frm ≤ 25) → (0 ≤ mo2 ∧ mo2 ≤ 4) → (mu_inv oth dice own rem.toNat die frm mo2.toNat) → frm.toNat < mm → J L X 5 0 0 [(ho, .inr (1, [.ref di, .int (z_i us), .ref bo, .int (z_i p), .int (z_i ct)])), (di, aI L 7 dice), (bo, .inr (0, [.ref ra])), (ra, aR L 2 gr), (ro, aI L 26 own), (rt, aI L 26 oth)] [(4, .int (z_i frm)), (2, .int (z_i mo2)), (3, .int (z_i die)), (0, .ref ho), (1, .int (z_i rem))] [] 14 := by
          intro mm
          induction mm with
          | zero => intro frm mo2 hfr hm2 hi2 hmm; exact absurd hmm (Nat.not_lt_zero _)
          | succ mm ih14 =>
            intro frm mo2 hfr hm2 hi2 hmm
            refine J_iload E 0 d_H_mostUsable_14 rfl ?_
            refine J_iconst E d_H_mostUsable_16 ?_
            refine J_icmp_lt E 72 d_H_mostUsable_17 (by decide) (by exact ⟨⟨by omega, by omega⟩, ⟨by omega, by omega⟩⟩) (fun h17 => ?_) (fun h17 => ?_)
            · refine J_iinc E 2 [(3, .int (z_i (die + (-1)))), (4, .int (z_i frm)), (2, .int (z_i mo2)), (0, .ref ho), (1, .int (z_i rem))] d_H_mostUsable_72 rfl (by decide) rfl ?_
              refine J_goto E 5 d_H_mostUsable_75 (by decide) ?_
              refine J_lv (lv' := [(3, .int (z_i (die + (-1)))), (2, .int (z_i mo2)), (0, .ref ho), (1, .int (z_i rem))]) [0, 2, 3, 4] rfl ?_
              exact ih5 (die + (-1)) mo2 (by omega) hm2 (mu_next2 hc hs h4 hm2 hi2 (by omega)) (by omega)
            · refine J_aload_n E 3 d_H_mostUsable_20 rfl rfl ?_
              refine g_H_9 E 0 rfl rfl d_H_mostUsable_21 ?_
              refine J_iload_n E 2 d_H_mostUsable_24 rfl rfl ?_
              refine J_iald E 1 rfl (by decide) (by exact ⟨by omega, by omega⟩) d_H_mostUsable_25 ?_
              refine J_if_le E 72 d_H_mostUsable_26 (by decide) (by have := hc die; exact ⟨by omega, by omega⟩) (fun h26 => ?_) (fun h26 => ?_)
              · refine J_iinc E 2 [(3, .int (z_i (die + (-1)))), (4, .int (z_i frm)), (2, .int (z_i mo2)), (0, .ref ho), (1, .int (z_i rem))] d_H_mostUsable_72 rfl (by decide) rfl ?_
                refine J_goto E 5 d_H_mostUsable_75 (by decide) ?_
                refine J_lv (lv' := [(3, .int (z_i (die + (-1)))), (2, .int (z_i mo2)), (0, .ref ho), (1, .int (z_i rem))]) [0, 2, 3, 4] rfl ?_
                exact ih5 (die + (-1)) mo2 (by omega) hm2 (mu_next2 hc hs h4 hm2 hi2 (by omega)) (by omega)
              · refine J_iload_n E 1 d_H_mostUsable_29 rfl rfl ?_
                refine J_iload_n E 4 d_H_mostUsable_30 rfl rfl ?_
                refine J_icmp_ge E 72 d_H_mostUsable_31 (by decide) (by exact ⟨⟨by omega, by omega⟩, ⟨by omega, by omega⟩⟩) (fun h31 => ?_) (fun h31 => ?_)
                · refine J_iinc E 2 [(3, .int (z_i (die + (-1)))), (4, .int (z_i frm)), (2, .int (z_i mo2)), (0, .ref ho), (1, .int (z_i rem))] d_H_mostUsable_72 rfl (by decide) rfl ?_
                  refine J_goto E 5 d_H_mostUsable_75 (by decide) ?_
                  refine J_lv (lv' := [(3, .int (z_i (die + (-1)))), (2, .int (z_i mo2)), (0, .ref ho), (1, .int (z_i rem))]) [0, 2, 3, 4] rfl ?_
                  exact ih5 (die + (-1)) mo2 (by omega) hm2 (mu_next2 hc hs h4 hm2 hi2 (by omega)) (by omega)
                · refine J_aload_n E 3 d_H_mostUsable_34 rfl rfl ?_
                  refine g_H_15 E 0 rfl rfl d_H_mostUsable_35 ?_
                  refine J_aload_n E 3 d_H_mostUsable_38 rfl rfl ?_
                  refine g_H_23 E 0 rfl rfl d_H_mostUsable_39 ?_
                  refine J_iload E 0 d_H_mostUsable_42 rfl ?_
                  refine J_iload_n E 2 d_H_mostUsable_44 rfl rfl ?_
                  refine J_callV (wr := [(ho, .inr (1, [.ref di, .int (z_i us), .ref bo, .int (z_i p), .int (z_i ct)])), (di, aI L 7 dice)]) (rest := []) E kb_B_canMove t_1_144 t_1_145 t_1_146 (c_B_canMove L bo ra ro rt gr own oth p frm die hp g0 g1 hO hT ⟨by omega, by omega⟩ ⟨by omega, by omega⟩) (fun h => h) (Rm_h (by omega) (by decide)) [2, 3, 4, 5] [0, 1] rfl rfl rfl rfl (by decide) 0 rfl rfl rfl rfl (Nat.le_of_ble_eq_true rfl) d_H_mostUsable_45 (fun w' hw => ?_)
                  obtain rfl : w' = [(bo, .inr (0, [.ref ra])), (ra, aR L 2 gr), (ro, aI L 26 own), (rt, aI L 26 oth)] := hw
                  show J L X 5 0 0 [(ho, .inr (1, [.ref di, .int (z_i us), .ref bo, .int (z_i p), .int (z_i ct)])), (di, aI L 7 dice), (bo, .inr (0, [.ref ra])), (ra, aR L 2 gr), (ro, aI L 26 own), (rt, aI L 26 oth)] [(4, .int (z_i frm)), (2, .int (z_i mo2)), (3, .int (z_i die)), (0, .ref ho), (1, .int (z_i rem))] [.int (z_i (b2 (bd_can own oth frm die)))] 48
                  refine J_if_eq E 66 d_H_mostUsable_48 (by decide) (b2_r _) (fun h48 => ?_) (fun h48 => ?_)
                  · have hcan := b2_not h48
                    refine J_iinc E 0 [(4, .int (z_i (frm + (-1)))), (2, .int (z_i mo2)), (3, .int (z_i die)), (0, .ref ho), (1, .int (z_i rem))] d_H_mostUsable_66 rfl (by decide) rfl ?_
                    refine J_goto E 14 d_H_mostUsable_69 (by decide) ?_
                    exact ih14 (frm + (-1)) mo2 (by omega) hm2 (mu_no2 hi2 hcan) (by omega)
                  · have hcan := b2_of h48
                    have hy2 := mu_yes2 hc hs h4 hm2 hi2 hcan h26
                    refine J_iload_n E 1 d_H_mostUsable_51 rfl rfl ?_
                    refine J_iconst E d_H_mostUsable_52 ?_
                    refine J_aload_n E 3 d_H_mostUsable_53 rfl rfl ?_
                    refine J_iload E 0 d_H_mostUsable_54 rfl ?_
                    refine J_iload_n E 2 d_H_mostUsable_56 rfl rfl ?_
                    refine J_iload_n E 4 d_H_mostUsable_57 rfl rfl ?_
                    refine J_callV (wr := []) (rest := [.int (z_i 1), .int (z_i mo2)]) E kb_H_mostUsableAfter t_1_152 t_1_154 ts_H_mostUsableAfter (hM (by omega) L ho di bo ra ro rt gr own oth p dice us ct rem frm die hp g0 g1 hO hT hc hs h4 (by omega) (by omega) h26 hcan.2.2.2.2.1 hk) (fun h => h) (Rm_h (by omega) (by decide)) [0, 1, 2, 3, 4, 5] [] rfl rfl rfl rfl (by decide) 0 rfl rfl rfl rfl (Nat.le_of_ble_eq_true rfl) d_H_mostUsable_58 (fun w' hw => ?_)
                    obtain rfl : w' = [(ho, .inr (1, [.ref di, .int (z_i us), .ref bo, .int (z_i p), .int (z_i ct)])), (di, aI L 7 dice), (bo, .inr (0, [.ref ra])), (ra, aR L 2 gr), (ro, aI L 26 own), (rt, aI L 26 oth)] := hw
                    show J L X 5 0 0 [(ho, .inr (1, [.ref di, .int (z_i us), .ref bo, .int (z_i p), .int (z_i ct)])), (di, aI L 7 dice), (bo, .inr (0, [.ref ra])), (ra, aR L 2 gr), (ro, aI L 26 own), (rt, aI L 26 oth)] [(4, .int (z_i frm)), (2, .int (z_i mo2)), (3, .int (z_i die)), (0, .ref ho), (1, .int (z_i rem))] [.int (z_i (((bd_due oth (z_u dice die (dice die - 1)) (bd_sh own frm die) : Nat) : Int))), .int (z_i 1), .int (z_i mo2)] 61
                    refine J_iadd E d_H_mostUsable_61 ?_
                    refine J_mmax E t_1_165 t_1_69 t_1_5 t_1_70 (Rm_1 (by omega) (Nat.le_of_ble_eq_true rfl)) (by have hb := (bd_due_ex oth (z_u dice die (dice die - 1)) (bd_sh own frm die) (mu_nn dice (fun d => (hc d).1) h26) (by have := bd_sum_u dice (v := dice die - 1) hcan.2.2.1 hcan.2.2.2.1; omega)).2.2; have := bd_sum_u dice (v := dice die - 1) hcan.2.2.1 hcan.2.2.2.1; exact ⟨⟨by omega, by omega⟩, by omega, by omega⟩) d_H_mostUsable_62 ?_
                    refine J_istore_n E [(2, .int (z_i (z_mx mo2 (1 + (((bd_due oth (z_u dice die (dice die - 1)) (bd_sh own frm die) : Nat) : Int)))))), (4, .int (z_i frm)), (3, .int (z_i die)), (0, .ref ho), (1, .int (z_i rem))] d_H_mostUsable_65 rfl (by decide) rfl ?_
                    refine J_iinc E 1 [(4, .int (z_i (frm + (-1)))), (2, .int (z_i (z_mx mo2 (1 + (((bd_due oth (z_u dice die (dice die - 1)) (bd_sh own frm die) : Nat) : Int)))))), (3, .int (z_i die)), (0, .ref ho), (1, .int (z_i rem))] d_H_mostUsable_66 rfl (by decide) rfl ?_
                    refine J_goto E 14 d_H_mostUsable_69 (by decide) ?_
                    exact ih14 (frm + (-1)) (z_mx mo2 (1 + (((bd_due oth (z_u dice die (dice die - 1)) (bd_sh own frm die) : Nat) : Int)))) (by omega) hy2.1 hy2.2 (by omega)
        refine J_lv (lv' := [(4, .int (z_i 25)), (2, .int (z_i mo)), (3, .int (z_i die)), (0, .ref ho), (1, .int (z_i rem))]) [0, 2, 1, 3, 4] rfl ?_
        exact C14 _ 25 mo (by decide) hm hi (Nat.lt_succ_self _)
  exact C5 _ 6 0 (by decide) (by decide) (mu_start _ _ _ _) (Nat.lt_succ_self _)
theorem c_MU : ∀ k : Nat, MU k
  | 0 => fun L ho di bo ra ro rt gr own oth p dice us ct rem hp g0 g1 hO hT hc hs h4 hk => c_H_mostUsable_s L 0 (fun h => absurd h (Nat.lt_irrefl 0)) ho di bo ra ro rt gr own oth p dice us ct rem hp g0 g1 hO hT hc hs h4 hk
  | k + 1 => fun L ho di bo ra ro rt gr own oth p dice us ct rem hp g0 g1 hO hT hc hs h4 hk => c_H_mostUsable_s L (k + 1) (fun _ => fun L ho di bo ra ro rt gr own oth p dice us ct rem f d hp g0 g1 hO hT hc hs h4 hf hd hp0 hf0 hk => c_H_mostUsableAfter_s L k (c_MU k) ho di bo ra ro rt gr own oth p dice us ct rem f d hp g0 g1 hO hT hc hs h4 hf hd hp0 hf0 hk) ho di bo ra ro rt gr own oth p dice us ct rem hp g0 g1 hO hT hc hs h4 hk
theorem c_MUA (k : Nat) : MUA (k + 1) := fun L ho di bo ra ro rt gr own oth p dice us ct rem f d hp g0 g1 hO hT hc hs h4 hf hd hp0 hf0 hk => c_H_mostUsableAfter_s L k (c_MU k) ho di bo ra ro rt gr own oth p dice us ct rem f d hp g0 g1 hO hT hc hs h4 hf hd hp0 hf0 hk
