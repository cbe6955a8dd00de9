set_option maxHeartbeats 4000000 in
set_option maxRecDepth 100000 in
theorem c_M_bit (L : Lx) (x y : Int) (hx : r4 x) (hy : r4 y) : CtG L y_M_bit b_M_bit 2 (some .int) (rmh 1) false 0 0 [.int (z_i x), .int (z_i y)] [] (fun u => u = []) (some (.int (z_i ((2 ^ r_ix x.toNat y.toNat : Nat) : Int)))) := by
  refine CtG.of rfl (Nat.le_of_ble_eq_true rfl) (fun X E F => ?_)
  show J L X 2 0 0 [] [(0, .int (z_i x)), (1, .int (z_i y))] [] 0
  refine J_iload_n E 0 d_M_bit_0 rfl rfl ?_
  refine J_iload_n E 1 d_M_bit_1 rfl rfl ?_
  refine J_icmp_ge E 15 d_M_bit_2 (by decide) (by exact ⟨⟨by omega, by omega⟩, ⟨by omega, by omega⟩⟩) (fun h2 => ?_) (fun h2 => ?_)
  · refine J_iconst E d_M_bit_15 ?_
    refine J_iconst E d_M_bit_16 ?_
    refine J_iload_n E 1 d_M_bit_17 rfl rfl ?_
    refine J_imul E d_M_bit_18 ?_
    refine J_iload_n E 0 d_M_bit_19 rfl rfl ?_
    refine J_iadd E d_M_bit_20 ?_
    refine J_ishl (v := (z_i ((2 ^ ((5 * y) + x).toNat : Nat) : Int))) E d_M_bit_21 (z_shl1 ⟨by omega, by omega⟩) ?_
    exact J_ireturn E F (by rw [show ((5 * y) + x).toNat = r_ix x.toNat y.toNat by (unfold r_ix; rw [if_neg (by omega)]; omega)]) rfl d_M_bit_22
  · refine J_iconst E d_M_bit_5 ?_
    refine J_iconst E d_M_bit_6 ?_
    refine J_iload_n E 0 d_M_bit_7 rfl rfl ?_
    refine J_imul E d_M_bit_8 ?_
    refine J_iload_n E 1 d_M_bit_9 rfl rfl ?_
    refine J_iadd E d_M_bit_10 ?_
    refine J_ishl (v := (z_i ((2 ^ ((5 * x) + y).toNat : Nat) : Int))) E d_M_bit_11 (z_shl1 ⟨by omega, by omega⟩) ?_
    refine J_goto E 22 d_M_bit_12 (by decide) ?_
    exact J_ireturn E F (by rw [show ((5 * x) + y).toNat = r_ix x.toNat y.toNat by (unfold r_ix; rw [if_pos (by omega)]; omega)]) rfl d_M_bit_22
set_option maxHeartbeats 4000000 in
set_option maxRecDepth 100000 in
theorem c_M_moved (L : Lx) (m o d : Int) (hm : r4 m) (ho : r4 o) (hd : 1 ≤ d ∧ d ≤ 6) : CtG L y_M_moved b_M_moved 3 (some .int) (rmh 1) false 0 0 [.int (z_i m), .int (z_i o), .int (z_i d)] [] (fun u => u = []) (some (.int (z_i (mvI m o d)))) := by
  refine CtG.of rfl (Nat.le_of_ble_eq_true rfl) (fun X E F => ?_)
  show J L X 3 0 0 [] [(0, .int (z_i m)), (1, .int (z_i o)), (2, .int (z_i d))] [] 0
  refine J_iload_n E 0 d_M_moved_0 rfl rfl ?_
  refine J_if_ne E 6 d_M_moved_1 (by decide) (by exact ⟨by omega, by omega⟩) (fun h1 => ?_) (fun h1 => ?_)
  · refine J_iload_n E 0 d_M_moved_6 rfl rfl ?_
    refine J_iload_n E 2 d_M_moved_7 rfl rfl ?_
    refine J_isub E d_M_moved_8 ?_
    refine J_if_lt E 18 d_M_moved_9 (by decide) (by exact ⟨by omega, by omega⟩) (fun h9 => ?_) (fun h9 => ?_)
    · refine J_iload_n E 1 d_M_moved_18 rfl rfl ?_
      refine J_iload_n E 0 d_M_moved_19 rfl rfl ?_
      refine J_icmp_le E 27 d_M_moved_20 (by decide) (by exact ⟨⟨by omega, by omega⟩, ⟨by omega, by omega⟩⟩) (fun h20 => ?_) (fun h20 => ?_)
      · refine J_iconst E d_M_moved_27 ?_
        exact J_ireturn E F (mvI_3 hm ho hd.1 h1 h9 h20) rfl d_M_moved_28
      · refine J_iconst E d_M_moved_23 ?_
        refine J_goto E 28 d_M_moved_24 (by decide) ?_
        exact J_ireturn E F (mvI_2 hm ho hd.1 h1 h9 h20) rfl d_M_moved_28
    · refine J_iload_n E 0 d_M_moved_12 rfl rfl ?_
      refine J_iload_n E 2 d_M_moved_13 rfl rfl ?_
      refine J_isub E d_M_moved_14 ?_
      refine J_goto E 28 d_M_moved_15 (by decide) ?_
      exact J_ireturn E F (mvI_1 hm hd.1 h1 h9) rfl d_M_moved_28
  · refine J_iconst E d_M_moved_4 ?_
    exact J_ireturn E F (mvI_0 h1) rfl d_M_moved_5
set_option maxHeartbeats 4000000 in
set_option maxRecDepth 100000 in
theorem c_M_next (L : Lx) (S : Nat) (die : Int) (hS : S < 2 ^ 25) (hdie : 1 ≤ die ∧ die ≤ 6) : CtG L y_M_next b_M_next 8 (some .int) (rmh 2) false 0 0 [.int (z_i ((S : Nat) : Int)), .int (z_i die)] [] (fun u => u = []) (some (.int (z_i ((r_nx S die.toNat 25 : Nat) : Int)))) := by
  refine CtG.of rfl (Nat.le_of_ble_eq_true rfl) (fun X E F => ?_)
  show J L X 8 0 0 [] [(0, .int (z_i ((S : Nat) : Int))), (1, .int (z_i die))] [] 0
  refine J_iconst E d_M_next_0 ?_
  refine J_istore_n E [(2, .int (z_i 0)), (0, .int (z_i ((S : Nat) : Int))), (1, .int (z_i die))] d_M_next_1 rfl (by decide) rfl ?_
  refine J_iconst E d_M_next_2 ?_
  refine J_istore_n E [(3, .int (z_i 0)), (2, .int (z_i 0)), (0, .int (z_i ((S : Nat) : Int))), (1, .int (z_i die))] d_M_next_3 rfl (by decide) rfl ?_
  have C4 : ∀ (mm : Nat) (al : Nat) (k : Int), (0 ≤ k ∧ k ≤ 25) → (al = r_nx S die.toNat k.toNat) → (25 - k).toNat < mm → J L X 8 0 0 [] [(3, .int (z_i k)), (2, .int (z_i ((al : Nat) : Int))), (0, .int (z_i ((S : Nat) : Int))), (1, .int (z_i die))] [] 4 := by
    intro mm
    induction mm with
    | zero => intro al k hk he hme; exact absurd hme (Nat.not_lt_zero _)
    | succ mm ih4 =>
      intro al k hk he hme
      refine J_iload_n E 0 d_M_next_4 rfl rfl ?_
      refine J_bipush E d_M_next_5 (by decide) ?_
      refine J_icmp_ge E 93 d_M_next_7 (by decide) (by exact ⟨⟨by omega, by omega⟩, ⟨by omega, by omega⟩⟩) (fun h7 => ?_) (fun h7 => ?_)
      · refine J_iload_n E 1 d_M_next_93 rfl rfl ?_
        exact J_ireturn E F (by rw [he, show k = 25 by omega]; rfl) rfl d_M_next_94
      · refine J_iload_n E 2 d_M_next_10 rfl rfl ?_
        refine J_iload_n E 0 d_M_next_11 rfl rfl ?_
        refine J_ishr (v := (z_i ((S / 2 ^ k.toNat : Nat) : Int))) E d_M_next_12 (z_shr hS ⟨by omega, by omega⟩) ?_
        refine J_iconst E d_M_next_13 ?_
        refine J_iand (v := (z_i ((S / 2 ^ k.toNat % 2 : Nat) : Int))) E d_M_next_14 (z_and1 (Nat.lt_of_le_of_lt (Nat.div_le_self _ _) (by omega))) ?_
        refine J_iconst E d_M_next_15 ?_
        refine J_icmp_ne E 87 d_M_next_16 (by decide) (by have := Nat.mod_lt (S / 2 ^ k.toNat) (show 0 < 2 by decide); exact ⟨⟨by omega, by omega⟩, by omega, by omega⟩) (fun h16 => ?_) (fun h16 => ?_)
        · refine J_iinc E 0 [(3, .int (z_i (k + 1))), (2, .int (z_i ((al : Nat) : Int))), (0, .int (z_i ((S : Nat) : Int))), (1, .int (z_i die))] d_M_next_87 rfl (by decide) rfl ?_
          refine J_goto E 4 d_M_next_90 (by decide) ?_
          exact ih4 al (k + 1) (by omega) (by rw [nx_no hk.1 h16]; exact he) (by omega)
        · have i1 := mvI_in (m := k / 5) (o := k % 5) (d := die) ⟨by omega, by omega⟩
          have i2 := mvI_in (m := k % 5) (o := k / 5) (d := die) ⟨by omega, by omega⟩
          refine J_iload_n E 0 d_M_next_19 rfl rfl ?_
          refine J_iconst E d_M_next_20 ?_
          refine J_idiv E d_M_next_21 (by exact ⟨by omega, by omega, by omega, by omega⟩) ?_
          refine J_istore E [(4, .int (z_i (k / 5))), (3, .int (z_i k)), (2, .int (z_i ((al : Nat) : Int))), (0, .int (z_i ((S : Nat) : Int))), (1, .int (z_i die))] d_M_next_22 (by decide) rfl ?_
          refine J_iload_n E 1 d_M_next_24 rfl rfl ?_
          refine J_iconst E d_M_next_25 ?_
          refine J_irem E d_M_next_26 (by exact ⟨by omega, by omega, by omega, by omega⟩) ?_
          refine J_istore E [(5, .int (z_i (k % 5))), (4, .int (z_i (k / 5))), (3, .int (z_i k)), (2, .int (z_i ((al : Nat) : Int))), (0, .int (z_i ((S : Nat) : Int))), (1, .int (z_i die))] d_M_next_27 (by decide) rfl ?_
          refine J_iload E 1 d_M_next_29 rfl ?_
          refine J_iload E 0 d_M_next_31 rfl ?_
          refine J_iload_n E 5 d_M_next_33 rfl rfl ?_
          refine J_callS (wr := []) (rest := []) E kb_M_moved t_3_55 t_3_56 (c_M_moved L (k / 5) (k % 5) die ⟨by omega, by omega⟩ ⟨by omega, by omega⟩ hdie) (fun h => h) (Rm_h (by decide) (by decide)) [] [] rfl rfl rfl rfl (by decide) rfl rfl (Nat.le_of_ble_eq_true rfl) d_M_next_34 (fun w' hw => ?_)
          obtain rfl : w' = [] := hw
          show J L X 8 0 0 [] [(5, .int (z_i (k % 5))), (4, .int (z_i (k / 5))), (3, .int (z_i k)), (2, .int (z_i ((al : Nat) : Int))), (0, .int (z_i ((S : Nat) : Int))), (1, .int (z_i die))] [.int (z_i (mvI (k / 5) (k % 5) die))] 37
          refine J_istore E [(6, .int (z_i (mvI (k / 5) (k % 5) die))), (5, .int (z_i (k % 5))), (4, .int (z_i (k / 5))), (3, .int (z_i k)), (2, .int (z_i ((al : Nat) : Int))), (0, .int (z_i ((S : Nat) : Int))), (1, .int (z_i die))] d_M_next_37 (by decide) rfl ?_
          refine J_iload E 1 d_M_next_39 rfl ?_
          refine J_iload E 2 d_M_next_41 rfl ?_
          refine J_iload_n E 6 d_M_next_43 rfl rfl ?_
          refine J_callS (wr := []) (rest := []) E kb_M_moved t_3_55 t_3_56 (c_M_moved L (k % 5) (k / 5) die ⟨by omega, by omega⟩ ⟨by omega, by omega⟩ hdie) (fun h => h) (Rm_h (by decide) (by decide)) [] [] rfl rfl rfl rfl (by decide) rfl rfl (Nat.le_of_ble_eq_true rfl) d_M_next_44 (fun w' hw => ?_)
          obtain rfl : w' = [] := hw
          show J L X 8 0 0 [] [(6, .int (z_i (mvI (k / 5) (k % 5) die))), (5, .int (z_i (k % 5))), (4, .int (z_i (k / 5))), (3, .int (z_i k)), (2, .int (z_i ((al : Nat) : Int))), (0, .int (z_i ((S : Nat) : Int))), (1, .int (z_i die))] [.int (z_i (mvI (k % 5) (k / 5) die))] 47
          refine J_istore E [(7, .int (z_i (mvI (k % 5) (k / 5) die))), (6, .int (z_i (mvI (k / 5) (k % 5) die))), (5, .int (z_i (k % 5))), (4, .int (z_i (k / 5))), (3, .int (z_i k)), (2, .int (z_i ((al : Nat) : Int))), (0, .int (z_i ((S : Nat) : Int))), (1, .int (z_i die))] d_M_next_47 (by decide) rfl ?_
          refine J_iload E 1 d_M_next_49 rfl ?_
          refine J_if_ge E 58 d_M_next_51 (by decide) (by have := mvI_lo (k / 5) (k % 5) die; have := mvI_in (m := (k / 5)) (o := (k % 5)) (d := die) ⟨by omega, by omega⟩; exact ⟨by omega, by omega⟩) (fun h51 => ?_) (fun h51 => ?_)
          · refine J_iload_n E 5 d_M_next_58 rfl rfl ?_
            refine J_iload E 1 d_M_next_59 rfl ?_
            refine J_iload E 2 d_M_next_61 rfl ?_
            refine J_callS (wr := []) (rest := [.int (z_i ((al : Nat) : Int))]) E kb_M_bit t_3_49 t_3_50 (c_M_bit L (mvI (k / 5) (k % 5) die) (k % 5) ⟨by omega, by omega⟩ ⟨by omega, by omega⟩) (fun h => h) (Rm_h (by decide) (by decide)) [] [] rfl rfl rfl rfl (by decide) rfl rfl (Nat.le_of_ble_eq_true rfl) d_M_next_63 (fun w' hw => ?_)
            obtain rfl : w' = [] := hw
            show J L X 8 0 0 [] [(7, .int (z_i (mvI (k % 5) (k / 5) die))), (6, .int (z_i (mvI (k / 5) (k % 5) die))), (5, .int (z_i (k % 5))), (4, .int (z_i (k / 5))), (3, .int (z_i k)), (2, .int (z_i ((al : Nat) : Int))), (0, .int (z_i ((S : Nat) : Int))), (1, .int (z_i die))] [.int (z_i ((2 ^ r_ix (mvI (k / 5) (k % 5) die).toNat (k % 5).toNat : Nat) : Int)), .int (z_i ((al : Nat) : Int))] 66
            refine J_ior (v := (z_i ((al ||| 2 ^ r_ix (mvI (k / 5) (k % 5) die).toNat (k % 5).toNat : Nat) : Int))) E d_M_next_66 (z_or (al) (2 ^ r_ix (mvI (k / 5) (k % 5) die).toNat (k % 5).toNat)) ?_
            refine J_istore_n E [(2, .int (z_i ((al ||| 2 ^ r_ix (mvI (k / 5) (k % 5) die).toNat (k % 5).toNat : Nat) : Int))), (7, .int (z_i (mvI (k % 5) (k / 5) die))), (6, .int (z_i (mvI (k / 5) (k % 5) die))), (5, .int (z_i (k % 5))), (4, .int (z_i (k / 5))), (3, .int (z_i k)), (0, .int (z_i ((S : Nat) : Int))), (1, .int (z_i die))] d_M_next_67 rfl (by decide) rfl ?_
            refine J_iload E 1 d_M_next_68 rfl ?_
            refine J_if_ge E 77 d_M_next_70 (by decide) (by have := mvI_lo (k % 5) (k / 5) die; have := mvI_in (m := (k % 5)) (o := (k / 5)) (d := die) ⟨by omega, by omega⟩; exact ⟨by omega, by omega⟩) (fun h70 => ?_) (fun h70 => ?_)
            · refine J_iload_n E 0 d_M_next_77 rfl rfl ?_
              refine J_iload E 4 d_M_next_78 rfl ?_
              refine J_iload E 1 d_M_next_80 rfl ?_
              refine J_callS (wr := []) (rest := [.int (z_i ((al ||| 2 ^ r_ix (mvI (k / 5) (k % 5) die).toNat (k % 5).toNat : Nat) : Int))]) E kb_M_bit t_3_49 t_3_50 (c_M_bit L (k / 5) (mvI (k % 5) (k / 5) die) ⟨by omega, by omega⟩ ⟨by omega, by omega⟩) (fun h => h) (Rm_h (by decide) (by decide)) [] [] rfl rfl rfl rfl (by decide) rfl rfl (Nat.le_of_ble_eq_true rfl) d_M_next_82 (fun w' hw => ?_)
              obtain rfl : w' = [] := hw
              show J L X 8 0 0 [] [(2, .int (z_i ((al ||| 2 ^ r_ix (mvI (k / 5) (k % 5) die).toNat (k % 5).toNat : Nat) : Int))), (7, .int (z_i (mvI (k % 5) (k / 5) die))), (6, .int (z_i (mvI (k / 5) (k % 5) die))), (5, .int (z_i (k % 5))), (4, .int (z_i (k / 5))), (3, .int (z_i k)), (0, .int (z_i ((S : Nat) : Int))), (1, .int (z_i die))] [.int (z_i ((2 ^ r_ix (k / 5).toNat (mvI (k % 5) (k / 5) die).toNat : Nat) : Int)), .int (z_i ((al ||| 2 ^ r_ix (mvI (k / 5) (k % 5) die).toNat (k % 5).toNat : Nat) : Int))] 85
              refine J_ior (v := (z_i ((al ||| 2 ^ r_ix (mvI (k / 5) (k % 5) die).toNat (k % 5).toNat ||| 2 ^ r_ix (k / 5).toNat (mvI (k % 5) (k / 5) die).toNat : Nat) : Int))) E d_M_next_85 (z_or (al ||| 2 ^ r_ix (mvI (k / 5) (k % 5) die).toNat (k % 5).toNat) (2 ^ r_ix (k / 5).toNat (mvI (k % 5) (k / 5) die).toNat)) ?_
              refine J_istore_n E [(2, .int (z_i ((al ||| 2 ^ r_ix (mvI (k / 5) (k % 5) die).toNat (k % 5).toNat ||| 2 ^ r_ix (k / 5).toNat (mvI (k % 5) (k / 5) die).toNat : Nat) : Int))), (7, .int (z_i (mvI (k % 5) (k / 5) die))), (6, .int (z_i (mvI (k / 5) (k % 5) die))), (5, .int (z_i (k % 5))), (4, .int (z_i (k / 5))), (3, .int (z_i k)), (0, .int (z_i ((S : Nat) : Int))), (1, .int (z_i die))] d_M_next_86 rfl (by decide) rfl ?_
              refine J_iinc E 5 [(3, .int (z_i (k + 1))), (2, .int (z_i ((al ||| 2 ^ r_ix (mvI (k / 5) (k % 5) die).toNat (k % 5).toNat ||| 2 ^ r_ix (k / 5).toNat (mvI (k % 5) (k / 5) die).toNat : Nat) : Int))), (7, .int (z_i (mvI (k % 5) (k / 5) die))), (6, .int (z_i (mvI (k / 5) (k % 5) die))), (5, .int (z_i (k % 5))), (4, .int (z_i (k / 5))), (0, .int (z_i ((S : Nat) : Int))), (1, .int (z_i die))] d_M_next_87 rfl (by decide) rfl ?_
              refine J_goto E 4 d_M_next_90 (by decide) ?_
              refine J_lv (lv' := [(3, .int (z_i (k + 1))), (2, .int (z_i ((al ||| 2 ^ r_ix (mvI (k / 5) (k % 5) die).toNat (k % 5).toNat ||| 2 ^ r_ix (k / 5).toNat (mvI (k % 5) (k / 5) die).toNat : Nat) : Int))), (0, .int (z_i ((S : Nat) : Int))), (1, .int (z_i die))]) [0, 1, 6, 7] rfl ?_
              exact ih4 (al ||| 2 ^ r_ix (mvI (k / 5) (k % 5) die).toNat (k % 5).toNat ||| 2 ^ r_ix (k / 5).toNat (mvI (k % 5) (k / 5) die).toNat) (k + 1) (by omega) (by rw [nx_yes ⟨by omega, by omega⟩ h16, if_neg (show ¬ mvI (k / 5) (k % 5) die < 0 by omega)]; show _ = (if mvI (k % 5) (k / 5) die < 0 then _ else _); rw [if_neg (show ¬ mvI (k % 5) (k / 5) die < 0 by omega), he]) (by omega)
            · refine J_iload_n E 0 d_M_next_73 rfl rfl ?_
              refine J_goto E 86 d_M_next_74 (by decide) ?_
              refine J_istore_n E [(2, .int (z_i ((al ||| 2 ^ r_ix (mvI (k / 5) (k % 5) die).toNat (k % 5).toNat : Nat) : Int))), (7, .int (z_i (mvI (k % 5) (k / 5) die))), (6, .int (z_i (mvI (k / 5) (k % 5) die))), (5, .int (z_i (k % 5))), (4, .int (z_i (k / 5))), (3, .int (z_i k)), (0, .int (z_i ((S : Nat) : Int))), (1, .int (z_i die))] d_M_next_86 rfl (by decide) rfl ?_
              refine J_iinc E 5 [(3, .int (z_i (k + 1))), (2, .int (z_i ((al ||| 2 ^ r_ix (mvI (k / 5) (k % 5) die).toNat (k % 5).toNat : Nat) : Int))), (7, .int (z_i (mvI (k % 5) (k / 5) die))), (6, .int (z_i (mvI (k / 5) (k % 5) die))), (5, .int (z_i (k % 5))), (4, .int (z_i (k / 5))), (0, .int (z_i ((S : Nat) : Int))), (1, .int (z_i die))] d_M_next_87 rfl (by decide) rfl ?_
              refine J_goto E 4 d_M_next_90 (by decide) ?_
              refine J_lv (lv' := [(3, .int (z_i (k + 1))), (2, .int (z_i ((al ||| 2 ^ r_ix (mvI (k / 5) (k % 5) die).toNat (k % 5).toNat : Nat) : Int))), (0, .int (z_i ((S : Nat) : Int))), (1, .int (z_i die))]) [0, 1, 6, 7] rfl ?_
              exact ih4 (al ||| 2 ^ r_ix (mvI (k / 5) (k % 5) die).toNat (k % 5).toNat) (k + 1) (by omega) (by rw [nx_yes ⟨by omega, by omega⟩ h16, if_neg (show ¬ mvI (k / 5) (k % 5) die < 0 by omega)]; show _ = (if mvI (k % 5) (k / 5) die < 0 then _ else _); rw [if_pos (show mvI (k % 5) (k / 5) die < 0 by omega), he]) (by omega)
          · refine J_iload_n E 5 d_M_next_54 rfl rfl ?_
            refine J_goto E 67 d_M_next_55 (by decide) ?_
            refine J_istore_n E [(2, .int (z_i ((al : Nat) : Int))), (7, .int (z_i (mvI (k % 5) (k / 5) die))), (6, .int (z_i (mvI (k / 5) (k % 5) die))), (5, .int (z_i (k % 5))), (4, .int (z_i (k / 5))), (3, .int (z_i k)), (0, .int (z_i ((S : Nat) : Int))), (1, .int (z_i die))] d_M_next_67 rfl (by decide) rfl ?_
            refine J_iload E 1 d_M_next_68 rfl ?_
            refine J_if_ge E 77 d_M_next_70 (by decide) (by have := mvI_lo (k % 5) (k / 5) die; have := mvI_in (m := (k % 5)) (o := (k / 5)) (d := die) ⟨by omega, by omega⟩; exact ⟨by omega, by omega⟩) (fun h70 => ?_) (fun h70 => ?_)
            · refine J_iload_n E 0 d_M_next_77 rfl rfl ?_
              refine J_iload E 4 d_M_next_78 rfl ?_
              refine J_iload E 1 d_M_next_80 rfl ?_
              refine J_callS (wr := []) (rest := [.int (z_i ((al : Nat) : Int))]) E kb_M_bit t_3_49 t_3_50 (c_M_bit L (k / 5) (mvI (k % 5) (k / 5) die) ⟨by omega, by omega⟩ ⟨by omega, by omega⟩) (fun h => h) (Rm_h (by decide) (by decide)) [] [] rfl rfl rfl rfl (by decide) rfl rfl (Nat.le_of_ble_eq_true rfl) d_M_next_82 (fun w' hw => ?_)
              obtain rfl : w' = [] := hw
              show J L X 8 0 0 [] [(2, .int (z_i ((al : Nat) : Int))), (7, .int (z_i (mvI (k % 5) (k / 5) die))), (6, .int (z_i (mvI (k / 5) (k % 5) die))), (5, .int (z_i (k % 5))), (4, .int (z_i (k / 5))), (3, .int (z_i k)), (0, .int (z_i ((S : Nat) : Int))), (1, .int (z_i die))] [.int (z_i ((2 ^ r_ix (k / 5).toNat (mvI (k % 5) (k / 5) die).toNat : Nat) : Int)), .int (z_i ((al : Nat) : Int))] 85
              refine J_ior (v := (z_i ((al ||| 2 ^ r_ix (k / 5).toNat (mvI (k % 5) (k / 5) die).toNat : Nat) : Int))) E d_M_next_85 (z_or (al) (2 ^ r_ix (k / 5).toNat (mvI (k % 5) (k / 5) die).toNat)) ?_
              refine J_istore_n E [(2, .int (z_i ((al ||| 2 ^ r_ix (k / 5).toNat (mvI (k % 5) (k / 5) die).toNat : Nat) : Int))), (7, .int (z_i (mvI (k % 5) (k / 5) die))), (6, .int (z_i (mvI (k / 5) (k % 5) die))), (5, .int (z_i (k % 5))), (4, .int (z_i (k / 5))), (3, .int (z_i k)), (0, .int (z_i ((S : Nat) : Int))), (1, .int (z_i die))] d_M_next_86 rfl (by decide) rfl ?_
              refine J_iinc E 5 [(3, .int (z_i (k + 1))), (2, .int (z_i ((al ||| 2 ^ r_ix (k / 5).toNat (mvI (k % 5) (k / 5) die).toNat : Nat) : Int))), (7, .int (z_i (mvI (k % 5) (k / 5) die))), (6, .int (z_i (mvI (k / 5) (k % 5) die))), (5, .int (z_i (k % 5))), (4, .int (z_i (k / 5))), (0, .int (z_i ((S : Nat) : Int))), (1, .int (z_i die))] d_M_next_87 rfl (by decide) rfl ?_
              refine J_goto E 4 d_M_next_90 (by decide) ?_
              refine J_lv (lv' := [(3, .int (z_i (k + 1))), (2, .int (z_i ((al ||| 2 ^ r_ix (k / 5).toNat (mvI (k % 5) (k / 5) die).toNat : Nat) : Int))), (0, .int (z_i ((S : Nat) : Int))), (1, .int (z_i die))]) [0, 1, 6, 7] rfl ?_
              exact ih4 (al ||| 2 ^ r_ix (k / 5).toNat (mvI (k % 5) (k / 5) die).toNat) (k + 1) (by omega) (by rw [nx_yes ⟨by omega, by omega⟩ h16, if_pos (show mvI (k / 5) (k % 5) die < 0 by omega)]; show _ = (if mvI (k % 5) (k / 5) die < 0 then _ else _); rw [if_neg (show ¬ mvI (k % 5) (k / 5) die < 0 by omega), he]) (by omega)
            · refine J_iload_n E 0 d_M_next_73 rfl rfl ?_
              refine J_goto E 86 d_M_next_74 (by decide) ?_
              refine J_istore_n E [(2, .int (z_i ((al : Nat) : Int))), (7, .int (z_i (mvI (k % 5) (k / 5) die))), (6, .int (z_i (mvI (k / 5) (k % 5) die))), (5, .int (z_i (k % 5))), (4, .int (z_i (k / 5))), (3, .int (z_i k)), (0, .int (z_i ((S : Nat) : Int))), (1, .int (z_i die))] d_M_next_86 rfl (by decide) rfl ?_
              refine J_iinc E 5 [(3, .int (z_i (k + 1))), (2, .int (z_i ((al : Nat) : Int))), (7, .int (z_i (mvI (k % 5) (k / 5) die))), (6, .int (z_i (mvI (k / 5) (k % 5) die))), (5, .int (z_i (k % 5))), (4, .int (z_i (k / 5))), (0, .int (z_i ((S : Nat) : Int))), (1, .int (z_i die))] d_M_next_87 rfl (by decide) rfl ?_
              refine J_goto E 4 d_M_next_90 (by decide) ?_
              refine J_lv (lv' := [(3, .int (z_i (k + 1))), (2, .int (z_i ((al : Nat) : Int))), (0, .int (z_i ((S : Nat) : Int))), (1, .int (z_i die))]) [0, 1, 6, 7] rfl ?_
              exact ih4 al (k + 1) (by omega) (by rw [nx_yes ⟨by omega, by omega⟩ h16, if_pos (show mvI (k / 5) (k % 5) die < 0 by omega)]; show _ = (if mvI (k % 5) (k / 5) die < 0 then _ else _); rw [if_pos (show mvI (k % 5) (k / 5) die < 0 by omega), he]) (by omega)
  exact C4 _ 0 0 (by decide) rfl (Nat.lt_succ_self _)
set_option maxHeartbeats 4000000 in
set_option maxRecDepth 100000 in
theorem c_M_outcomes (L : Lx) (x y a b : Int) (hx : r4 x) (hy : r4 y) (ha : 1 ≤ a ∧ a ≤ 6) (hb : 1 ≤ b ∧ b ≤ 6) : CtG L y_M_outcomes b_M_outcomes 8 (some .int) (rmh 3) false 0 0 [.int (z_i x), .int (z_i y), .int (z_i a), .int (z_i b)] [] (fun u => u = []) (some (.int (z_i ((r_out x.toNat y.toNat a.toNat b.toNat : Nat) : Int)))) := by
  refine CtG.of rfl (Nat.le_of_ble_eq_true rfl) (fun X E F => ?_)
  show J L X 8 0 0 [] [(0, .int (z_i x)), (1, .int (z_i y)), (2, .int (z_i a)), (3, .int (z_i b))] [] 0
  refine J_iload_n E 0 d_M_outcomes_0 rfl rfl ?_
  refine J_iload_n E 1 d_M_outcomes_1 rfl rfl ?_
  refine J_callS (wr := []) (rest := []) E kb_M_bit t_3_49 t_3_50 (c_M_bit L x y hx hy) (fun h => h) (Rm_h (by decide) (by decide)) [] [] rfl rfl rfl rfl (by decide) rfl rfl (Nat.le_of_ble_eq_true rfl) d_M_outcomes_2 (fun w' hw => ?_)
  obtain rfl : w' = [] := hw
  show J L X 8 0 0 [] [(0, .int (z_i x)), (1, .int (z_i y)), (2, .int (z_i a)), (3, .int (z_i b))] [.int (z_i ((2 ^ r_ix x.toNat y.toNat : Nat) : Int))] 5
  refine J_istore E [(4, .int (z_i ((2 ^ r_ix x.toNat y.toNat : Nat) : Int))), (0, .int (z_i x)), (1, .int (z_i y)), (2, .int (z_i a)), (3, .int (z_i b))] d_M_outcomes_5 (by decide) rfl ?_
  refine J_iload_n E 3 d_M_outcomes_7 rfl rfl ?_
  refine J_iload_n E 4 d_M_outcomes_8 rfl rfl ?_
  refine J_icmp_ne E 52 d_M_outcomes_9 (by decide) (by exact ⟨⟨by omega, by omega⟩, ⟨by omega, by omega⟩⟩) (fun h9 => ?_) (fun h9 => ?_)
  · refine J_iload E 0 d_M_outcomes_52 rfl ?_
    refine J_iload_n E 3 d_M_outcomes_54 rfl rfl ?_
    refine J_callS (wr := []) (rest := []) E kb_M_next t_3_52 t_3_53 (c_M_next L (2 ^ r_ix x.toNat y.toNat) a (p2_lt (by omega) (by omega)) ha) (fun h => h) (Rm_h (by decide) (by decide)) [] [] rfl rfl rfl rfl (by decide) rfl rfl (Nat.le_of_ble_eq_true rfl) d_M_outcomes_55 (fun w' hw => ?_)
    obtain rfl : w' = [] := hw
    show J L X 8 0 0 [] [(4, .int (z_i ((2 ^ r_ix x.toNat y.toNat : Nat) : Int))), (0, .int (z_i x)), (1, .int (z_i y)), (2, .int (z_i a)), (3, .int (z_i b))] [.int (z_i ((r_nx (2 ^ r_ix x.toNat y.toNat) a.toNat 25 : Nat) : Int))] 58
    refine J_istore E [(5, .int (z_i ((r_nx (2 ^ r_ix x.toNat y.toNat) a.toNat 25 : Nat) : Int))), (4, .int (z_i ((2 ^ r_ix x.toNat y.toNat : Nat) : Int))), (0, .int (z_i x)), (1, .int (z_i y)), (2, .int (z_i a)), (3, .int (z_i b))] d_M_outcomes_58 (by decide) rfl ?_
    refine J_iload E 1 d_M_outcomes_60 rfl ?_
    refine J_iload_n E 5 d_M_outcomes_62 rfl rfl ?_
    refine J_callS (wr := []) (rest := []) E kb_M_next t_3_52 t_3_53 (c_M_next L (2 ^ r_ix x.toNat y.toNat) b (p2_lt (by omega) (by omega)) hb) (fun h => h) (Rm_h (by decide) (by decide)) [] [] rfl rfl rfl rfl (by decide) rfl rfl (Nat.le_of_ble_eq_true rfl) d_M_outcomes_63 (fun w' hw => ?_)
    obtain rfl : w' = [] := hw
    show J L X 8 0 0 [] [(5, .int (z_i ((r_nx (2 ^ r_ix x.toNat y.toNat) a.toNat 25 : Nat) : Int))), (4, .int (z_i ((2 ^ r_ix x.toNat y.toNat : Nat) : Int))), (0, .int (z_i x)), (1, .int (z_i y)), (2, .int (z_i a)), (3, .int (z_i b))] [.int (z_i ((r_nx (2 ^ r_ix x.toNat y.toNat) b.toNat 25 : Nat) : Int))] 66
    refine J_istore E [(6, .int (z_i ((r_nx (2 ^ r_ix x.toNat y.toNat) b.toNat 25 : Nat) : Int))), (5, .int (z_i ((r_nx (2 ^ r_ix x.toNat y.toNat) a.toNat 25 : Nat) : Int))), (4, .int (z_i ((2 ^ r_ix x.toNat y.toNat : Nat) : Int))), (0, .int (z_i x)), (1, .int (z_i y)), (2, .int (z_i a)), (3, .int (z_i b))] d_M_outcomes_66 (by decide) rfl ?_
    refine J_iload E 1 d_M_outcomes_68 rfl ?_
    refine J_iload_n E 6 d_M_outcomes_70 rfl rfl ?_
    refine J_callS (wr := []) (rest := []) E kb_M_next t_3_52 t_3_53 (c_M_next L (r_nx (2 ^ r_ix x.toNat y.toNat) a.toNat 25) b (r_nx_lt _ _ 25 (Nat.le_refl _)) hb) (fun h => h) (Rm_h (by decide) (by decide)) [] [] rfl rfl rfl rfl (by decide) rfl rfl (Nat.le_of_ble_eq_true rfl) d_M_outcomes_71 (fun w' hw => ?_)
    obtain rfl : w' = [] := hw
    show J L X 8 0 0 [] [(6, .int (z_i ((r_nx (2 ^ r_ix x.toNat y.toNat) b.toNat 25 : Nat) : Int))), (5, .int (z_i ((r_nx (2 ^ r_ix x.toNat y.toNat) a.toNat 25 : Nat) : Int))), (4, .int (z_i ((2 ^ r_ix x.toNat y.toNat : Nat) : Int))), (0, .int (z_i x)), (1, .int (z_i y)), (2, .int (z_i a)), (3, .int (z_i b))] [.int (z_i ((r_nx (r_nx (2 ^ r_ix x.toNat y.toNat) a.toNat 25) b.toNat 25 : Nat) : Int))] 74
    refine J_iload E 0 d_M_outcomes_74 rfl ?_
    refine J_iload_n E 5 d_M_outcomes_76 rfl rfl ?_
    refine J_callS (wr := []) (rest := [.int (z_i ((r_nx (r_nx (2 ^ r_ix x.toNat y.toNat) a.toNat 25) b.toNat 25 : Nat) : Int))]) E kb_M_next t_3_52 t_3_53 (c_M_next L (r_nx (2 ^ r_ix x.toNat y.toNat) b.toNat 25) a (r_nx_lt _ _ 25 (Nat.le_refl _)) ha) (fun h => h) (Rm_h (by decide) (by decide)) [] [] rfl rfl rfl rfl (by decide) rfl rfl (Nat.le_of_ble_eq_true rfl) d_M_outcomes_77 (fun w' hw => ?_)
    obtain rfl : w' = [] := hw
    show J L X 8 0 0 [] [(6, .int (z_i ((r_nx (2 ^ r_ix x.toNat y.toNat) b.toNat 25 : Nat) : Int))), (5, .int (z_i ((r_nx (2 ^ r_ix x.toNat y.toNat) a.toNat 25 : Nat) : Int))), (4, .int (z_i ((2 ^ r_ix x.toNat y.toNat : Nat) : Int))), (0, .int (z_i x)), (1, .int (z_i y)), (2, .int (z_i a)), (3, .int (z_i b))] [.int (z_i ((r_nx (r_nx (2 ^ r_ix x.toNat y.toNat) b.toNat 25) a.toNat 25 : Nat) : Int)), .int (z_i ((r_nx (r_nx (2 ^ r_ix x.toNat y.toNat) a.toNat 25) b.toNat 25 : Nat) : Int))] 80
    refine J_ior (v := (z_i ((r_nx (r_nx (2 ^ r_ix x.toNat y.toNat) a.toNat 25) b.toNat 25 ||| r_nx (r_nx (2 ^ r_ix x.toNat y.toNat) b.toNat 25) a.toNat 25 : Nat) : Int))) E d_M_outcomes_80 (z_or (r_nx (r_nx (2 ^ r_ix x.toNat y.toNat) a.toNat 25) b.toNat 25) (r_nx (r_nx (2 ^ r_ix x.toNat y.toNat) b.toNat 25) a.toNat 25)) ?_
    refine J_istore E [(7, .int (z_i ((r_nx (r_nx (2 ^ r_ix x.toNat y.toNat) a.toNat 25) b.toNat 25 ||| r_nx (r_nx (2 ^ r_ix x.toNat y.toNat) b.toNat 25) a.toNat 25 : Nat) : Int))), (6, .int (z_i ((r_nx (2 ^ r_ix x.toNat y.toNat) b.toNat 25 : Nat) : Int))), (5, .int (z_i ((r_nx (2 ^ r_ix x.toNat y.toNat) a.toNat 25 : Nat) : Int))), (4, .int (z_i ((2 ^ r_ix x.toNat y.toNat : Nat) : Int))), (0, .int (z_i x)), (1, .int (z_i y)), (2, .int (z_i a)), (3, .int (z_i b))] d_M_outcomes_81 (by decide) rfl ?_
    refine J_iload E 0 d_M_outcomes_83 rfl ?_
    refine J_if_eq E 91 d_M_outcomes_85 (by decide) (by have := or_lt (r_nx_lt (r_nx (2 ^ r_ix x.toNat y.toNat) a.toNat 25) b.toNat 25 (Nat.le_refl _)) (r_nx_lt (r_nx (2 ^ r_ix x.toNat y.toNat) b.toNat 25) a.toNat 25 (Nat.le_refl _)); exact ⟨by omega, by omega⟩) (fun h85 => ?_) (fun h85 => ?_)
    · refine J_iload E 2 d_M_outcomes_91 rfl ?_
      refine J_if_ne E 101 d_M_outcomes_93 (by decide) (by have := r_nx_lt (2 ^ r_ix x.toNat y.toNat) a.toNat 25 (Nat.le_refl _); exact ⟨by omega, by omega⟩) (fun h93 => ?_) (fun h93 => ?_)
      · refine J_iload E 1 d_M_outcomes_101 rfl ?_
        refine J_if_ne E 111 d_M_outcomes_103 (by decide) (by have := r_nx_lt (2 ^ r_ix x.toNat y.toNat) b.toNat 25 (Nat.le_refl _); exact ⟨by omega, by omega⟩) (fun h103 => ?_) (fun h103 => ?_)
        · refine J_iload_n E 6 d_M_outcomes_111 rfl rfl ?_
          refine J_iload_n E 7 d_M_outcomes_112 rfl rfl ?_
          refine J_icmp_le E 121 d_M_outcomes_113 (by decide) (by exact ⟨⟨by omega, by omega⟩, ⟨by omega, by omega⟩⟩) (fun h113 => ?_) (fun h113 => ?_)
          · refine J_iload E 1 d_M_outcomes_121 rfl ?_
            exact J_ireturn E F (by rw [r_out_ne (by omega), if_neg (by omega), if_neg (by omega), if_neg (by omega), if_neg (by omega)]) rfl d_M_outcomes_123
          · refine J_iload E 2 d_M_outcomes_116 rfl ?_
            refine J_goto E 123 d_M_outcomes_118 (by decide) ?_
            exact J_ireturn E F (by rw [r_out_ne (by omega), if_neg (by omega), if_neg (by omega), if_neg (by omega), if_pos (by omega)]) rfl d_M_outcomes_123
        · refine J_iload E 2 d_M_outcomes_106 rfl ?_
          refine J_goto E 123 d_M_outcomes_108 (by decide) ?_
          exact J_ireturn E F (by rw [r_out_ne (by omega), if_neg (by omega), if_neg (by omega), if_pos (by omega)]) rfl d_M_outcomes_123
      · refine J_iload E 1 d_M_outcomes_96 rfl ?_
        refine J_goto E 123 d_M_outcomes_98 (by decide) ?_
        exact J_ireturn E F (by rw [r_out_ne (by omega), if_neg (by omega), if_pos (by omega)]) rfl d_M_outcomes_123
    · refine J_iload E 0 d_M_outcomes_88 rfl ?_
      exact J_ireturn E F (by rw [r_out_ne (by omega), if_pos (by omega)]) rfl d_M_outcomes_90
  · refine J_iconst E d_M_outcomes_12 ?_
    refine J_istore E [(5, .int (z_i 0)), (4, .int (z_i ((2 ^ r_ix x.toNat y.toNat : Nat) : Int))), (0, .int (z_i x)), (1, .int (z_i y)), (2, .int (z_i a)), (3, .int (z_i b))] d_M_outcomes_13 (by decide) rfl ?_
    have C15 : ∀ (mm : Nat) (nw : Nat) (n : Int), (0 ≤ n ∧ n ≤ 4) → (nw < 2 ^ 25) → (r_eq a.toNat 4 (2 ^ r_ix x.toNat y.toNat) = r_eq a.toNat (4 - n).toNat nw) → (4 - n).toNat < mm → J L X 8 0 0 [] [(5, .int (z_i n)), (4, .int (z_i ((nw : Nat) : Int))), (0, .int (z_i x)), (1, .int (z_i y)), (2, .int (z_i a)), (3, .int (z_i b))] [] 15 := by
      intro mm
      induction mm with
      | zero => intro nw n hn hlt he hme; exact absurd hme (Nat.not_lt_zero _)
      | succ mm ih15 =>
        intro nw n hn hlt he hme
        refine J_iload E 0 d_M_outcomes_15 rfl ?_
        refine J_iconst E d_M_outcomes_17 ?_
        refine J_icmp_ge E 49 d_M_outcomes_18 (by decide) (by exact ⟨⟨by omega, by omega⟩, ⟨by omega, by omega⟩⟩) (fun h18 => ?_) (fun h18 => ?_)
        · refine J_iload E 1 d_M_outcomes_49 rfl ?_
          exact J_ireturn E F (by rw [r_out_eq (by omega), he, show n = 4 by omega]; rfl) rfl d_M_outcomes_51
        · refine J_iload E 1 d_M_outcomes_21 rfl ?_
          refine J_iload_n E 4 d_M_outcomes_23 rfl rfl ?_
          refine J_callS (wr := []) (rest := []) E kb_M_next t_3_52 t_3_53 (c_M_next L nw a hlt ha) (fun h => h) (Rm_h (by decide) (by decide)) [] [] rfl rfl rfl rfl (by decide) rfl rfl (Nat.le_of_ble_eq_true rfl) d_M_outcomes_24 (fun w' hw => ?_)
          obtain rfl : w' = [] := hw
          show J L X 8 0 0 [] [(5, .int (z_i n)), (4, .int (z_i ((nw : Nat) : Int))), (0, .int (z_i x)), (1, .int (z_i y)), (2, .int (z_i a)), (3, .int (z_i b))] [.int (z_i ((r_nx nw a.toNat 25 : Nat) : Int))] 27
          refine J_istore E [(6, .int (z_i ((r_nx nw a.toNat 25 : Nat) : Int))), (5, .int (z_i n)), (4, .int (z_i ((nw : Nat) : Int))), (0, .int (z_i x)), (1, .int (z_i y)), (2, .int (z_i a)), (3, .int (z_i b))] d_M_outcomes_27 (by decide) rfl ?_
          refine J_iload E 0 d_M_outcomes_29 rfl ?_
          refine J_if_ne E 39 d_M_outcomes_31 (by decide) (by have := r_nx_lt nw a.toNat 25 (Nat.le_refl _); exact ⟨by omega, by omega⟩) (fun h31 => ?_) (fun h31 => ?_)
          · refine J_iload E 0 d_M_outcomes_39 rfl ?_
            refine J_istore E [(4, .int (z_i ((r_nx nw a.toNat 25 : Nat) : Int))), (6, .int (z_i ((r_nx nw a.toNat 25 : Nat) : Int))), (5, .int (z_i n)), (0, .int (z_i x)), (1, .int (z_i y)), (2, .int (z_i a)), (3, .int (z_i b))] d_M_outcomes_41 (by decide) rfl ?_
            refine J_iinc E 2 [(5, .int (z_i (n + 1))), (4, .int (z_i ((r_nx nw a.toNat 25 : Nat) : Int))), (6, .int (z_i ((r_nx nw a.toNat 25 : Nat) : Int))), (0, .int (z_i x)), (1, .int (z_i y)), (2, .int (z_i a)), (3, .int (z_i b))] d_M_outcomes_43 rfl (by decide) rfl ?_
            refine J_goto E 15 d_M_outcomes_46 (by decide) ?_
            refine J_lv (lv' := [(5, .int (z_i (n + 1))), (4, .int (z_i ((r_nx nw a.toNat 25 : Nat) : Int))), (0, .int (z_i x)), (1, .int (z_i y)), (2, .int (z_i a)), (3, .int (z_i b))]) [0, 1, 3, 4, 5, 6] rfl ?_
            exact ih15 (r_nx nw a.toNat 25) (n + 1) (by omega) (r_nx_lt _ _ 25 (Nat.le_refl _)) (by rw [he, show (4 - n).toNat = (4 - (n + 1)).toNat + 1 by omega, r_eq_s]; unfold r_or; rw [if_neg (by omega)]) (by omega)
          · refine J_iload E 2 d_M_outcomes_34 rfl ?_
            refine J_goto E 41 d_M_outcomes_36 (by decide) ?_
            refine J_istore E [(4, .int (z_i ((nw : Nat) : Int))), (6, .int (z_i ((r_nx nw a.toNat 25 : Nat) : Int))), (5, .int (z_i n)), (0, .int (z_i x)), (1, .int (z_i y)), (2, .int (z_i a)), (3, .int (z_i b))] d_M_outcomes_41 (by decide) rfl ?_
            refine J_iinc E 2 [(5, .int (z_i (n + 1))), (4, .int (z_i ((nw : Nat) : Int))), (6, .int (z_i ((r_nx nw a.toNat 25 : Nat) : Int))), (0, .int (z_i x)), (1, .int (z_i y)), (2, .int (z_i a)), (3, .int (z_i b))] d_M_outcomes_43 rfl (by decide) rfl ?_
            refine J_goto E 15 d_M_outcomes_46 (by decide) ?_
            refine J_lv (lv' := [(5, .int (z_i (n + 1))), (4, .int (z_i ((nw : Nat) : Int))), (0, .int (z_i x)), (1, .int (z_i y)), (2, .int (z_i a)), (3, .int (z_i b))]) [0, 1, 3, 4, 5, 6] rfl ?_
            exact ih15 nw (n + 1) (by omega) hlt (by rw [he, show (4 - n).toNat = (4 - (n + 1)).toNat + 1 by omega, r_eq_s]; unfold r_or; rw [if_pos (by omega)]) (by omega)
    exact C15 _ (2 ^ r_ix x.toNat y.toNat) 0 (by decide) (p2_lt (by omega) (by omega)) rfl (Nat.lt_succ_self _)
set_option maxHeartbeats 4000000 in
set_option maxRecDepth 100000 in
theorem c_M_work (L : Lx) (mo ms mb mt mf mc : Nat) (len stg mv stk hol cn cs hi lo hs ls du kw : Int) (sco bb tr fr chn : Int → Int) (x y u v : Int) (hxy : 0 ≤ x ∧ x ≤ y ∧ y ≤ 4) (huv : 0 ≤ u ∧ u ≤ v ∧ v ≤ 4) (hch : ∀ X Y U V : Nat, X ≤ Y → Y < 5 → U ≤ V → V < 5 → ((X + Y + U + V : Nat) : Int) < x + y + u + v → chn ((125 * X + 25 * Y + 5 * U + V : Nat) : Int) = ((q_ch X Y U V : Nat) : Int)) : CtG L y_M_work b_M_work 14 (some .long) (rmh 4) false 0 0 [.ref mo, .int (z_i x), .int (z_i y), .int (z_i u), .int (z_i v)] [(mo, .inr (4, [.int (z_i len), .ref ms, .int (z_i stg), .int (z_i mv), .ref mb, .int (z_i stk), .int (z_i hol), .int (z_i cn), .int (z_i cs), .int (z_i hi), .int (z_i lo), .int (z_i hs), .int (z_i ls), .int (z_i du), .ref mt, .ref mf, .ref mc, .int (z_i kw)])), (ms, aI L 2 sco), (mb, aI L 52 bb), (mt, aI L 312 tr), (mf, aI L 6 fr), (mc, aL L 625 chn)] (fun u => u = [(mo, .inr (4, [.int (z_i len), .ref ms, .int (z_i stg), .int (z_i mv), .ref mb, .int (z_i stk), .int (z_i hol), .int (z_i cn), .int (z_i cs), .int (z_i hi), .int (z_i lo), .int (z_i hs), .int (z_i ls), .int (z_i du), .ref mt, .ref mf, .ref mc, .int (z_i kw)])), (ms, aI L 2 sco), (mb, aI L 52 bb), (mt, aI L 312 tr), (mf, aI L 6 fr), (mc, aL L 625 chn)]) (some (.long (z_l (qC x y u v)))) := by
  refine CtG.of rfl (Nat.le_of_ble_eq_true rfl) (fun X E F => ?_)
  show J L X 14 0 0 [(mo, .inr (4, [.int (z_i len), .ref ms, .int (z_i stg), .int (z_i mv), .ref mb, .int (z_i stk), .int (z_i hol), .int (z_i cn), .int (z_i cs), .int (z_i hi), .int (z_i lo), .int (z_i hs), .int (z_i ls), .int (z_i du), .ref mt, .ref mf, .ref mc, .int (z_i kw)])), (ms, aI L 2 sco), (mb, aI L 52 bb), (mt, aI L 312 tr), (mf, aI L 6 fr), (mc, aL L 625 chn)] [(0, .ref mo), (1, .int (z_i x)), (2, .int (z_i y)), (3, .int (z_i u)), (4, .int (z_i v))] [] 0
  refine J_iload_n E 3 d_M_work_0 rfl rfl ?_
  refine J_iload E 4 d_M_work_1 rfl ?_
  refine J_iadd E d_M_work_3 ?_
  refine J_if_ne E 9 d_M_work_4 (by decide) (by exact ⟨by omega, by omega⟩) (fun h4 => ?_) (fun h4 => ?_)
  · refine J_iload_n E 1 d_M_work_9 rfl rfl ?_
    refine J_iload_n E 2 d_M_work_10 rfl rfl ?_
    refine J_iadd E d_M_work_11 ?_
    refine J_if_ne E 19 d_M_work_12 (by decide) (by exact ⟨by omega, by omega⟩) (fun h12 => ?_) (fun h12 => ?_)
    · refine J_lconst (a := 0) E d_M_work_19 (by decide) ?_
      refine J_lstore E [(5, .long (z_l 0)), (0, .ref mo), (1, .int (z_i x)), (2, .int (z_i y)), (3, .int (z_i u)), (4, .int (z_i v))] d_M_work_20 (by decide) rfl ?_
      refine J_iconst E d_M_work_22 ?_
      refine J_istore E [(7, .int (z_i 0)), (5, .long (z_l 0)), (0, .ref mo), (1, .int (z_i x)), (2, .int (z_i y)), (3, .int (z_i u)), (4, .int (z_i v))] d_M_work_23 (by decide) rfl ?_
      have C25 : ∀ (mm : Nat) (r : Int) (sm : Int), (0 ≤ r ∧ r ≤ 36) → (sm = ((r_su x.toNat y.toNat u.toNat v.toNat r.toNat : Nat) : Int)) → (36 - r).toNat < mm → J L X 14 0 0 [(mo, .inr (4, [.int (z_i len), .ref ms, .int (z_i stg), .int (z_i mv), .ref mb, .int (z_i stk), .int (z_i hol), .int (z_i cn), .int (z_i cs), .int (z_i hi), .int (z_i lo), .int (z_i hs), .int (z_i ls), .int (z_i du), .ref mt, .ref mf, .ref mc, .int (z_i kw)])), (ms, aI L 2 sco), (mb, aI L 52 bb), (mt, aI L 312 tr), (mf, aI L 6 fr), (mc, aL L 625 chn)] [(7, .int (z_i r)), (5, .long (z_l sm)), (0, .ref mo), (1, .int (z_i x)), (2, .int (z_i y)), (3, .int (z_i u)), (4, .int (z_i v))] [] 25 := by
        intro mm
        induction mm with
        | zero => intro r sm hr hsm hme; exact absurd hme (Nat.not_lt_zero _)
        | succ mm ih25 =>
          intro r sm hr hsm hme
          refine J_iload E 0 d_M_work_25 rfl ?_
          refine J_bipush E d_M_work_27 (by decide) ?_
          refine J_icmp_ge E 140 d_M_work_29 (by decide) (by exact ⟨⟨by omega, by omega⟩, ⟨by omega, by omega⟩⟩) (fun h29 => ?_) (fun h29 => ?_)
          · refine J_lload E 1 d_M_work_140 rfl ?_
            refine J_ldc2 (a := 36) E t_3_58 d_M_work_142 ?_
            refine J_ldiv E d_M_work_145 (by have := r_su_le x.toNat y.toNat u.toNat v.toNat r.toNat; exact ⟨by omega, by omega, by omega, by omega⟩) ?_
            exact J_lreturn E F (by rw [hsm, show r = 36 by omega]; have q := r_fin (x := x.toNat) (y := y.toNat) (u := u.toNat) (v := v.toNat) (by omega) (by omega) (by omega) (by omega) (by omega) (by omega); unfold qC; rw [show ((36 : Int)).toNat = 36 from rfl]; omega) rfl d_M_work_146
          · refine J_iload_n E 3 d_M_work_32 rfl rfl ?_
            refine J_iload_n E 4 d_M_work_33 rfl rfl ?_
            refine J_iconst E d_M_work_34 ?_
            refine J_iload E 0 d_M_work_35 rfl ?_
            refine J_bipush E d_M_work_37 (by decide) ?_
            refine J_idiv E d_M_work_39 (by exact ⟨by omega, by omega, by omega, by omega⟩) ?_
            refine J_iadd E d_M_work_40 ?_
            refine J_iconst E d_M_work_41 ?_
            refine J_iload E 0 d_M_work_42 rfl ?_
            refine J_bipush E d_M_work_44 (by decide) ?_
            refine J_irem E d_M_work_46 (by exact ⟨by omega, by omega, by omega, by omega⟩) ?_
            refine J_iadd E d_M_work_47 ?_
            refine J_callS (wr := [(mo, .inr (4, [.int (z_i len), .ref ms, .int (z_i stg), .int (z_i mv), .ref mb, .int (z_i stk), .int (z_i hol), .int (z_i cn), .int (z_i cs), .int (z_i hi), .int (z_i lo), .int (z_i hs), .int (z_i ls), .int (z_i du), .ref mt, .ref mf, .ref mc, .int (z_i kw)])), (ms, aI L 2 sco), (mb, aI L 52 bb), (mt, aI L 312 tr), (mf, aI L 6 fr), (mc, aL L 625 chn)]) (rest := []) E kb_M_outcomes t_3_46 t_3_47 (c_M_outcomes L x y (1 + (r / 6)) (1 + (r % 6)) ⟨by omega, by omega⟩ ⟨by omega, by omega⟩ ⟨by omega, by omega⟩ ⟨by omega, by omega⟩) (fun h => h) (Rm_h (by decide) (by decide)) [] [0, 1, 2, 3, 4, 5] rfl rfl rfl rfl (by decide) rfl rfl (Nat.le_of_ble_eq_true rfl) d_M_work_48 (fun w' hw => ?_)
            obtain rfl : w' = [] := hw
            obtain ⟨se, hse⟩ : ∃ se, se = r_out x.toNat y.toNat (1 + (r / 6)).toNat (1 + (r % 6)).toNat := ⟨_, rfl⟩
            rw [← hse]
            have hse2 : r_out x.toNat y.toNat (1 + r.toNat / 6) (1 + r.toNat % 6) = se := by rw [hse, show (1 + (r / 6)).toNat = 1 + r.toNat / 6 by omega, show (1 + (r % 6)).toNat = 1 + r.toNat % 6 by omega]
            have hse3 : se = r_tt x.toNat y.toNat r.toNat := by rw [← hse2]; exact r_out_is (by omega) (by omega) (by omega) (by omega)
            have hlt : se < 2 ^ 25 := by rw [hse3]; exact r_tt_lt _ (by omega) _ (by omega) _ (by omega)
            show J L X 14 0 0 [(mo, .inr (4, [.int (z_i len), .ref ms, .int (z_i stg), .int (z_i mv), .ref mb, .int (z_i stk), .int (z_i hol), .int (z_i cn), .int (z_i cs), .int (z_i hi), .int (z_i lo), .int (z_i hs), .int (z_i ls), .int (z_i du), .ref mt, .ref mf, .ref mc, .int (z_i kw)])), (ms, aI L 2 sco), (mb, aI L 52 bb), (mt, aI L 312 tr), (mf, aI L 6 fr), (mc, aL L 625 chn)] [(7, .int (z_i r)), (5, .long (z_l sm)), (0, .ref mo), (1, .int (z_i x)), (2, .int (z_i y)), (3, .int (z_i u)), (4, .int (z_i v))] [.int (z_i ((se : Nat) : Int))] 51
            refine J_istore E [(8, .int (z_i ((se : Nat) : Int))), (7, .int (z_i r)), (5, .long (z_l sm)), (0, .ref mo), (1, .int (z_i x)), (2, .int (z_i y)), (3, .int (z_i u)), (4, .int (z_i v))] d_M_work_51 (by decide) rfl ?_
            refine J_lconst (a := 0) E d_M_work_53 (by decide) ?_
            refine J_lstore E [(9, .long (z_l 0)), (8, .int (z_i ((se : Nat) : Int))), (7, .int (z_i r)), (5, .long (z_l sm)), (0, .ref mo), (1, .int (z_i x)), (2, .int (z_i y)), (3, .int (z_i u)), (4, .int (z_i v))] d_M_work_54 (by decide) rfl ?_
            refine J_iconst E d_M_work_56 ?_
            refine J_istore E [(11, .int (z_i 0)), (9, .long (z_l 0)), (8, .int (z_i ((se : Nat) : Int))), (7, .int (z_i r)), (5, .long (z_l sm)), (0, .ref mo), (1, .int (z_i x)), (2, .int (z_i y)), (3, .int (z_i u)), (4, .int (z_i v))] d_M_work_57 (by decide) rfl ?_
            have C59 : ∀ (mm : Nat) (k : Int) (bs : Int), (0 ≤ k ∧ k ≤ 25) → (bs = ((r_best se u.toNat v.toNat k.toNat : Nat) : Int)) → (25 - k).toNat < mm → J L X 14 0 0 [(mo, .inr (4, [.int (z_i len), .ref ms, .int (z_i stg), .int (z_i mv), .ref mb, .int (z_i stk), .int (z_i hol), .int (z_i cn), .int (z_i cs), .int (z_i hi), .int (z_i lo), .int (z_i hs), .int (z_i ls), .int (z_i du), .ref mt, .ref mf, .ref mc, .int (z_i kw)])), (ms, aI L 2 sco), (mb, aI L 52 bb), (mt, aI L 312 tr), (mf, aI L 6 fr), (mc, aL L 625 chn)] [(11, .int (z_i k)), (9, .long (z_l bs)), (8, .int (z_i ((se : Nat) : Int))), (7, .int (z_i r)), (5, .long (z_l sm)), (0, .ref mo), (1, .int (z_i x)), (2, .int (z_i y)), (3, .int (z_i u)), (4, .int (z_i v))] [] 59 := by
              intro mm
              induction mm with
              | zero => intro k bs hk hbs hme; exact absurd hme (Nat.not_lt_zero _)
              | succ mm ih59 =>
                intro k bs hk hbs hme
                have hbl := r_best_le se u.toNat v.toNat k.toNat
                refine J_iload E 0 d_M_work_59 rfl ?_
                refine J_bipush E d_M_work_61 (by decide) ?_
                refine J_icmp_ge E 127 d_M_work_63 (by decide) (by exact ⟨⟨by omega, by omega⟩, ⟨by omega, by omega⟩⟩) (fun h63 => ?_) (fun h63 => ?_)
                · refine J_lload E 4 d_M_work_127 rfl ?_
                  refine J_lload E 1 d_M_work_129 rfl ?_
                  refine J_ladd E d_M_work_131 ?_
                  refine J_lstore E [(5, .long (z_l (sm + bs))), (11, .int (z_i k)), (9, .long (z_l bs)), (8, .int (z_i ((se : Nat) : Int))), (7, .int (z_i r)), (0, .ref mo), (1, .int (z_i x)), (2, .int (z_i y)), (3, .int (z_i u)), (4, .int (z_i v))] d_M_work_132 (by decide) rfl ?_
                  refine J_iinc E 4 [(7, .int (z_i (r + 1))), (5, .long (z_l (sm + bs))), (11, .int (z_i k)), (9, .long (z_l bs)), (8, .int (z_i ((se : Nat) : Int))), (0, .ref mo), (1, .int (z_i x)), (2, .int (z_i y)), (3, .int (z_i u)), (4, .int (z_i v))] d_M_work_134 rfl (by decide) rfl ?_
                  refine J_goto E 25 d_M_work_137 (by decide) ?_
                  refine J_lv (lv' := [(7, .int (z_i (r + 1))), (5, .long (z_l (sm + bs))), (0, .ref mo), (1, .int (z_i x)), (2, .int (z_i y)), (3, .int (z_i u)), (4, .int (z_i v))]) [0, 1, 5, 6, 7, 8, 9] rfl ?_
                  exact ih25 (r + 1) (sm + bs) (by omega) (by rw [show (r + 1).toNat = r.toNat + 1 by omega]; simp only [r_su]; rw [hse2, hsm, hbs, show k = 25 by omega]; rfl) (by omega)
                · refine J_iload E 2 d_M_work_66 rfl ?_
                  refine J_iload E 0 d_M_work_68 rfl ?_
                  refine J_ishr (v := (z_i ((se / 2 ^ k.toNat : Nat) : Int))) E d_M_work_70 (z_shr hlt ⟨by omega, by omega⟩) ?_
                  refine J_iconst E d_M_work_71 ?_
                  refine J_iand (v := (z_i ((se / 2 ^ k.toNat % 2 : Nat) : Int))) E d_M_work_72 (z_and1 (Nat.lt_of_le_of_lt (Nat.div_le_self _ _) (by omega))) ?_
                  refine J_iconst E d_M_work_73 ?_
                  refine J_icmp_ne E 101 d_M_work_74 (by decide) (by have := Nat.mod_lt (se / 2 ^ k.toNat) (show 0 < 2 by decide); exact ⟨⟨by omega, by omega⟩, by omega, by omega⟩) (fun h74 => ?_) (fun h74 => ?_)
                  · have hqq := q_le u.toNat (by omega) v.toNat (by omega) (k / 5).toNat (by omega) (k % 5).toNat (by omega)
                    refine J_lconst (a := 0) E d_M_work_101 (by decide) ?_
                    refine J_lstore E [(12, .long (z_l 0)), (11, .int (z_i k)), (9, .long (z_l bs)), (8, .int (z_i ((se : Nat) : Int))), (7, .int (z_i r)), (5, .long (z_l sm)), (0, .ref mo), (1, .int (z_i x)), (2, .int (z_i y)), (3, .int (z_i u)), (4, .int (z_i v))] d_M_work_102 (by decide) rfl ?_
                    refine J_lload E 0 d_M_work_104 rfl ?_
                    refine J_lload E 2 d_M_work_106 rfl ?_
                    refine J_lcmp E d_M_work_108 ⟨⟨by omega, by omega⟩, by omega, by omega⟩ ?_
                    refine J_if_le E 117 d_M_work_109 (by decide) (z_cmp_r _ _) (fun h109 => ?_) (fun h109 => ?_)
                    · have hcm := z_cmp_le h109
                      refine J_lload E 2 d_M_work_117 rfl ?_
                      refine J_lstore E [(9, .long (z_l bs)), (12, .long (z_l 0)), (11, .int (z_i k)), (8, .int (z_i ((se : Nat) : Int))), (7, .int (z_i r)), (5, .long (z_l sm)), (0, .ref mo), (1, .int (z_i x)), (2, .int (z_i y)), (3, .int (z_i u)), (4, .int (z_i v))] d_M_work_119 (by decide) rfl ?_
                      refine J_iinc E 2 [(11, .int (z_i (k + 1))), (9, .long (z_l bs)), (12, .long (z_l 0)), (8, .int (z_i ((se : Nat) : Int))), (7, .int (z_i r)), (5, .long (z_l sm)), (0, .ref mo), (1, .int (z_i x)), (2, .int (z_i y)), (3, .int (z_i u)), (4, .int (z_i v))] d_M_work_121 rfl (by decide) rfl ?_
                      refine J_goto E 59 d_M_work_124 (by decide) ?_
                      refine J_lv (lv' := [(11, .int (z_i (k + 1))), (9, .long (z_l bs)), (8, .int (z_i ((se : Nat) : Int))), (7, .int (z_i r)), (5, .long (z_l sm)), (0, .ref mo), (1, .int (z_i x)), (2, .int (z_i y)), (3, .int (z_i u)), (4, .int (z_i v))]) [0, 1, 3, 4, 5, 6, 7, 8, 9, 10] rfl ?_
                      exact ih59 (k + 1) bs (by omega) (by rw [best_s (here := 0) hk.1 (by rw [if_neg h74]) hqq, ← hbs]; have := z_mx_is bs (0); omega) (by omega)
                    · have hcm := z_cmp_pos.mp h109
                      refine J_lload E 0 d_M_work_112 rfl ?_
                      refine J_goto E 119 d_M_work_114 (by decide) ?_
                      refine J_lstore E [(9, .long (z_l 0)), (12, .long (z_l 0)), (11, .int (z_i k)), (8, .int (z_i ((se : Nat) : Int))), (7, .int (z_i r)), (5, .long (z_l sm)), (0, .ref mo), (1, .int (z_i x)), (2, .int (z_i y)), (3, .int (z_i u)), (4, .int (z_i v))] d_M_work_119 (by decide) rfl ?_
                      refine J_iinc E 2 [(11, .int (z_i (k + 1))), (9, .long (z_l 0)), (12, .long (z_l 0)), (8, .int (z_i ((se : Nat) : Int))), (7, .int (z_i r)), (5, .long (z_l sm)), (0, .ref mo), (1, .int (z_i x)), (2, .int (z_i y)), (3, .int (z_i u)), (4, .int (z_i v))] d_M_work_121 rfl (by decide) rfl ?_
                      refine J_goto E 59 d_M_work_124 (by decide) ?_
                      refine J_lv (lv' := [(11, .int (z_i (k + 1))), (9, .long (z_l 0)), (8, .int (z_i ((se : Nat) : Int))), (7, .int (z_i r)), (5, .long (z_l sm)), (0, .ref mo), (1, .int (z_i x)), (2, .int (z_i y)), (3, .int (z_i u)), (4, .int (z_i v))]) [0, 1, 3, 4, 5, 6, 7, 8, 9, 10] rfl ?_
                      exact ih59 (k + 1) 0 (by omega) (by rw [best_s (here := 0) hk.1 (by rw [if_neg h74]) hqq, ← hbs]; have := z_mx_is bs (0); omega) (by omega)
                  · have hbt : se / 2 ^ k.toNat % 2 = 1 := by omega
                    have hb9 := r_bits (x := x.toNat) (y := y.toNat) (r := r.toNat) (k := k.toNat) (by omega) (by omega) (by omega) (by omega) (by omega) (by rw [← hse3]; exact hbt)
                    have hval : chn ((25 * ((5 * u) + v)) + k) = ((q_ch u.toNat v.toNat (k / 5).toNat (k % 5).toNat : Nat) : Int) := by rw [← hch u.toNat v.toNat (k / 5).toNat (k % 5).toNat (by omega) (by omega) (by omega) (by omega) (by omega)]; congr 1; omega
                    have hqq := q_le u.toNat (by omega) v.toNat (by omega) (k / 5).toNat (by omega) (k % 5).toNat (by omega)
                    have hqw : q_W = 2176782336 := rfl
                    refine J_ldc2 (a := 2176782336) E t_3_45 d_M_work_77 ?_
                    refine J_aload_n E 5 d_M_work_80 rfl rfl ?_
                    refine g_M_29 E 0 rfl rfl d_M_work_81 ?_
                    refine J_bipush E d_M_work_84 (by decide) ?_
                    refine J_iconst E d_M_work_86 ?_
                    refine J_iload_n E 8 d_M_work_87 rfl rfl ?_
                    refine J_imul E d_M_work_88 ?_
                    refine J_iload E 9 d_M_work_89 rfl ?_
                    refine J_iadd E d_M_work_91 ?_
                    refine J_imul E d_M_work_92 ?_
                    refine J_iload E 0 d_M_work_93 rfl ?_
                    refine J_iadd E d_M_work_95 ?_
                    refine J_lald E 5 rfl (by decide) (by exact ⟨by omega, by omega⟩) d_M_work_96 ?_
                    refine J_lsub E d_M_work_97 ?_
                    refine J_goto E 102 d_M_work_98 (by decide) ?_
                    refine J_lstore E [(12, .long (z_l (2176782336 - (chn ((25 * ((5 * u) + v)) + k))))), (11, .int (z_i k)), (9, .long (z_l bs)), (8, .int (z_i ((se : Nat) : Int))), (7, .int (z_i r)), (5, .long (z_l sm)), (0, .ref mo), (1, .int (z_i x)), (2, .int (z_i y)), (3, .int (z_i u)), (4, .int (z_i v))] d_M_work_102 (by decide) rfl ?_
                    refine J_lload E 0 d_M_work_104 rfl ?_
                    refine J_lload E 2 d_M_work_106 rfl ?_
                    refine J_lcmp E d_M_work_108 ⟨⟨by omega, by omega⟩, by omega, by omega⟩ ?_
                    refine J_if_le E 117 d_M_work_109 (by decide) (z_cmp_r _ _) (fun h109 => ?_) (fun h109 => ?_)
                    · have hcm := z_cmp_le h109
                      refine J_lload E 2 d_M_work_117 rfl ?_
                      refine J_lstore E [(9, .long (z_l bs)), (12, .long (z_l (2176782336 - (chn ((25 * ((5 * u) + v)) + k))))), (11, .int (z_i k)), (8, .int (z_i ((se : Nat) : Int))), (7, .int (z_i r)), (5, .long (z_l sm)), (0, .ref mo), (1, .int (z_i x)), (2, .int (z_i y)), (3, .int (z_i u)), (4, .int (z_i v))] d_M_work_119 (by decide) rfl ?_
                      refine J_iinc E 2 [(11, .int (z_i (k + 1))), (9, .long (z_l bs)), (12, .long (z_l (2176782336 - (chn ((25 * ((5 * u) + v)) + k))))), (8, .int (z_i ((se : Nat) : Int))), (7, .int (z_i r)), (5, .long (z_l sm)), (0, .ref mo), (1, .int (z_i x)), (2, .int (z_i y)), (3, .int (z_i u)), (4, .int (z_i v))] d_M_work_121 rfl (by decide) rfl ?_
                      refine J_goto E 59 d_M_work_124 (by decide) ?_
                      refine J_lv (lv' := [(11, .int (z_i (k + 1))), (9, .long (z_l bs)), (8, .int (z_i ((se : Nat) : Int))), (7, .int (z_i r)), (5, .long (z_l sm)), (0, .ref mo), (1, .int (z_i x)), (2, .int (z_i y)), (3, .int (z_i u)), (4, .int (z_i v))]) [0, 1, 3, 4, 5, 6, 7, 8, 9, 10] rfl ?_
                      exact ih59 (k + 1) bs (by omega) (by rw [best_s (here := 2176782336 - ((q_ch u.toNat v.toNat (k / 5).toNat (k % 5).toNat : Nat) : Int)) hk.1 (by rw [if_pos h74]) hqq, ← hbs]; have := z_mx_is bs (2176782336 - ((q_ch u.toNat v.toNat (k / 5).toNat (k % 5).toNat : Nat) : Int)); omega) (by omega)
                    · have hcm := z_cmp_pos.mp h109
                      refine J_lload E 0 d_M_work_112 rfl ?_
                      refine J_goto E 119 d_M_work_114 (by decide) ?_
                      refine J_lstore E [(9, .long (z_l (2176782336 - (chn ((25 * ((5 * u) + v)) + k))))), (12, .long (z_l (2176782336 - (chn ((25 * ((5 * u) + v)) + k))))), (11, .int (z_i k)), (8, .int (z_i ((se : Nat) : Int))), (7, .int (z_i r)), (5, .long (z_l sm)), (0, .ref mo), (1, .int (z_i x)), (2, .int (z_i y)), (3, .int (z_i u)), (4, .int (z_i v))] d_M_work_119 (by decide) rfl ?_
                      refine J_iinc E 2 [(11, .int (z_i (k + 1))), (9, .long (z_l (2176782336 - (chn ((25 * ((5 * u) + v)) + k))))), (12, .long (z_l (2176782336 - (chn ((25 * ((5 * u) + v)) + k))))), (8, .int (z_i ((se : Nat) : Int))), (7, .int (z_i r)), (5, .long (z_l sm)), (0, .ref mo), (1, .int (z_i x)), (2, .int (z_i y)), (3, .int (z_i u)), (4, .int (z_i v))] d_M_work_121 rfl (by decide) rfl ?_
                      refine J_goto E 59 d_M_work_124 (by decide) ?_
                      refine J_lv (lv' := [(11, .int (z_i (k + 1))), (9, .long (z_l (2176782336 - (chn ((25 * ((5 * u) + v)) + k))))), (8, .int (z_i ((se : Nat) : Int))), (7, .int (z_i r)), (5, .long (z_l sm)), (0, .ref mo), (1, .int (z_i x)), (2, .int (z_i y)), (3, .int (z_i u)), (4, .int (z_i v))]) [0, 1, 3, 4, 5, 6, 7, 8, 9, 10] rfl ?_
                      exact ih59 (k + 1) (2176782336 - (chn ((25 * ((5 * u) + v)) + k))) (by omega) (by rw [best_s (here := 2176782336 - ((q_ch u.toNat v.toNat (k / 5).toNat (k % 5).toNat : Nat) : Int)) hk.1 (by rw [if_pos h74]) hqq, ← hbs]; have := z_mx_is bs (2176782336 - ((q_ch u.toNat v.toNat (k / 5).toNat (k % 5).toNat : Nat) : Int)); omega) (by omega)
            exact C59 _ 0 0 (by decide) rfl (Nat.lt_succ_self _)
      exact C25 _ 0 0 (by decide) rfl (Nat.lt_succ_self _)
    · refine J_ldc2 (a := 2176782336) E t_3_45 d_M_work_15 ?_
      exact J_lreturn E F (qC_w ⟨by omega, by omega⟩ ⟨by omega, by omega⟩ (by omega) (by omega) (by omega)) rfl d_M_work_18
  · refine J_lconst (a := 0) E d_M_work_7 (by decide) ?_
    exact J_lreturn E F (qC_z ⟨by omega, by omega⟩ ⟨by omega, by omega⟩ (by omega) (by omega)) rfl d_M_work_8
