theorem z_cmp_neg (x y : Int) : z_cmp x y < 0 ↔ x < y := by
  unfold z_cmp
  split
  · omega
  · split <;> omega
theorem qC_z {a b c d : Int} (ha : r4 a) (hb : r4 b) (hc : c = 0) (hd : d = 0) : (0 : Int) = qC a b c d := by
  subst hc
  subst hd
  have := q_00 a.toNat (by omega) b.toNat (by omega)
  unfold qC
  rw [show ((0 : Int)).toNat = 0 from rfl]
  omega
theorem qC_w {a b c d : Int} (hc : r4 c) (hd : r4 d) (ha : a = 0) (hb : b = 0) (h : ¬ (c = 0 ∧ d = 0)) : (2176782336 : Int) = qC a b c d := by
  subst ha
  subst hb
  have e : q_W = 2176782336 := rfl
  have := q_of c.toNat (by omega) d.toNat (by omega) (by omega)
  unfold qC
  rw [show ((0 : Int)).toNat = 0 from rfl]
  omega
theorem t_m1T : Cond.constantLong "TablesMatch" 117 (z_l (-1)) ∈ my_tbl := by rw [show z_l (-1) = -1 by decide]; exact t_2_40
theorem t_m1M : Cond.constantLong "TablesMatchModel" 151 (z_l (-1)) ∈ my_tbl := by rw [show z_l (-1) = -1 by decide]; exact t_3_36
theorem Rm_1L {h q : Nat} (h1 : 1 ≤ h) (hq : q ≤ 20) : 1 ≤ (rmh h).frames ∧ q + 15 ≤ (rmh h).locals ∧ 0 ≤ (rmh h).cells ∧ 0 ≤ (rmh h).slots := by
  refine ⟨h1, ?_, Nat.le_refl _, Nat.le_refl _⟩
  show q + 15 ≤ 40 * h
  omega
theorem z_lmax (u v : Int) (hu : z_lr u) (hv : z_lr v) : (if z_l v < z_l u then z_l u else z_l v) = z_l (z_mx u v) := by
  have e := z_mx_is u v
  by_cases h : v < u
  · rw [if_pos ((z_llt hv hu).mpr h), show z_mx u v = u by omega]
  · rw [if_neg (fun q => h ((z_llt hv hu).mp q)), show z_mx u v = v by omega]
theorem J_mmaxL {L : Lx} {X : Cx} {cc : ByteArray} {nL : Nat} {own nm : String} {ret : Option FieldType} {rm : Room} {sb : Bool} {ce sl : Nat} {ws : va_W} {lv : List (Nat × Value)} {st : List Value} {pc index : Nat} (E : Ok L X cc nL own nm ret rm sb) {u v : Int} (hl : Cond.methodLink own index Lib.MathLoose.max_long.x ∈ my_tbl) (hs : Cond.static Lib.MathLoose.max_long.x ∈ my_tbl) (hi : Cond.initialized "java/lang/Math" ∈ my_tbl) (hc : Cond.code Lib.MathLoose.max_long.x Lib.MathLoose.max_long.code 4 (some .long) ∈ my_tbl) (hrm : 1 ≤ rm.frames ∧ (st.map fun v => v.category).sum + 15 ≤ rm.locals ∧ ce ≤ rm.cells ∧ sl ≤ rm.slots) (huv : z_lr u ∧ z_lr v) (hdg : decode cc pc = .ok (.invokestatic index, 3))
    (kk : J L X nL ce sl ws lv (.long (z_l (z_mx u v)) :: st) (pc + 3)) : J L X nL ce sl ws lv (.long (z_l v) :: .long (z_l u) :: st) pc := by
  intro H locs ls hP hD hS h T hT S
  rw [← E.R] at hrm
  obtain ⟨vm1, S1, stp⟩ := S.mathMaxLH E.x E.o (E.w hl) (E.w hs) (E.w hi) (E.w hc) (g := F0 (x_m X) pc ls (.long (z_l v) :: .long (z_l u) :: st)) rfl (by rw [E.n]; exact h.1) (a := z_l u) (b := z_l v) (rest := st) rfl (by rw [E.b]; exact hdg) hrm.1 (by show 2 * 0 + _ + 15 ≤ _; have := hrm.2.1; omega) hrm.2.2.1 hrm.2.2.2
  rw [z_lmax u v huv.1 huv.2] at stp
  obtain ⟨t, a1, b1⟩ := kk H locs ls hP hD hS h (T.setVm vm1) hT S1
  exact ⟨t, stp t a1, b1⟩
theorem qI_1 (a b c d g : Int) : qI a b c d g 1 = 0 := rfl
set_option maxHeartbeats 4000000 in
set_option maxRecDepth 100000 in
theorem c_R_frontCanMove (L : Lx) (r f d : Int) (hr : r4 r) (hf : r4 f) (hd : 1 ≤ d ∧ d ≤ 6) : CtG L y_R_frontCanMove b_R_frontCanMove 3 (some .boolean) (rmh 1) false 0 0 [.int (z_i r), .int (z_i f), .int (z_i d)] [] (fun u => u = []) (some (.int (z_i (b2 (f < r ∧ d ≤ f))))) := by
  refine CtG.of rfl (Nat.le_of_ble_eq_true rfl) (fun X E F => ?_)
  show J L X 3 0 0 [] [(0, .int (z_i r)), (1, .int (z_i f)), (2, .int (z_i d))] [] 0
  refine J_iload_n E 1 d_R_frontCanMove_0 rfl rfl ?_
  refine J_iload_n E 0 d_R_frontCanMove_1 rfl rfl ?_
  refine J_icmp_ge E 14 d_R_frontCanMove_2 (by decide) (by exact ⟨⟨by omega, by omega⟩, ⟨by omega, by omega⟩⟩) (fun h2 => ?_) (fun h2 => ?_)
  · refine J_iconst E d_R_frontCanMove_14 ?_
    exact J_zreturn E F (by omega) (b2_f (by omega)).symm rfl d_R_frontCanMove_15
  · refine J_iload_n E 1 d_R_frontCanMove_5 rfl rfl ?_
    refine J_iload_n E 2 d_R_frontCanMove_6 rfl rfl ?_
    refine J_icmp_lt E 14 d_R_frontCanMove_7 (by decide) (by exact ⟨⟨by omega, by omega⟩, ⟨by omega, by omega⟩⟩) (fun h7 => ?_) (fun h7 => ?_)
    · refine J_iconst E d_R_frontCanMove_14 ?_
      exact J_zreturn E F (by omega) (b2_f (by omega)).symm rfl d_R_frontCanMove_15
    · refine J_iconst E d_R_frontCanMove_10 ?_
      refine J_goto E 15 d_R_frontCanMove_11 (by decide) ?_
      exact J_zreturn E F (by omega) (b2_t (by omega)).symm rfl d_R_frontCanMove_15
set_option maxHeartbeats 4000000 in
set_option maxRecDepth 100000 in
theorem c_R_pairNumber (L : Lx) (a b : Int) (ha : r4 a) (hb : r4 b) : CtG L y_R_pairNumber b_R_pairNumber 3 (some .int) (rmh 2) false 0 0 [.int (z_i a), .int (z_i b)] [] (fun u => u = []) (some (.int (z_i (qP a b)))) := by
  refine CtG.of rfl (Nat.le_of_ble_eq_true rfl) (fun X E F => ?_)
  show J L X 3 0 0 [] [(0, .int (z_i a)), (1, .int (z_i b))] [] 0
  refine J_iload_n E 0 d_R_pairNumber_0 rfl rfl ?_
  refine J_iload_n E 1 d_R_pairNumber_1 rfl rfl ?_
  refine J_mmax E t_2_49 t_1_69 t_1_5 t_1_70 (Rm_1 (by decide) (Nat.le_of_ble_eq_true rfl)) (by exact ⟨⟨by omega, by omega⟩, ⟨by omega, by omega⟩⟩) d_R_pairNumber_2 ?_
  refine J_istore_n E [(2, .int (z_i (z_mx a b))), (0, .int (z_i a)), (1, .int (z_i b))] d_R_pairNumber_5 rfl (by decide) rfl ?_
  refine J_iload_n E 0 d_R_pairNumber_6 rfl rfl ?_
  refine J_iload_n E 0 d_R_pairNumber_7 rfl rfl ?_
  refine J_iconst E d_R_pairNumber_8 ?_
  refine J_iadd E d_R_pairNumber_9 ?_
  refine J_imul E d_R_pairNumber_10 ?_
  refine J_iconst E d_R_pairNumber_11 ?_
  refine J_idiv E d_R_pairNumber_12 (by have := z_mx_is a b; rcases (show z_mx a b = 0 ∨ z_mx a b = 1 ∨ z_mx a b = 2 ∨ z_mx a b = 3 ∨ z_mx a b = 4 by omega) with e | e | e | e | e <;> rw [e] <;> decide) ?_
  refine J_iload_n E 1 d_R_pairNumber_13 rfl rfl ?_
  refine J_iload_n E 2 d_R_pairNumber_14 rfl rfl ?_
  refine J_mmin E t_2_50 t_1_66 t_1_5 t_1_67 (Rm_1 (by decide) (Nat.le_of_ble_eq_true rfl)) (by exact ⟨⟨by omega, by omega⟩, ⟨by omega, by omega⟩⟩) d_R_pairNumber_15 ?_
  refine J_iadd E d_R_pairNumber_18 ?_
  exact J_ireturn E F (pn_eq ha hb) rfl d_R_pairNumber_19
def CHc (N : Nat) : Prop := ∀ (L : Lx) (rx kn : Nat) (kno : Int → Int) (a b c d : Int) (_ : mm_ok kno) (_ : r4 a) (_ : r4 b) (_ : r4 c) (_ : r4 d) (_ : a + b + c + d ≤ (N : Int)), CtG L y_R_chanceToRoll b_R_chanceToRoll 6 (some .long) (rmh (7 * N + 3)) false 0 0 [.ref rx, .int (z_i a), .int (z_i b), .int (z_i c), .int (z_i d)] [(rx, .inr (2, [.ref kn])), (kn, aL L 225 kno)] (fun u => ∃ k2 : Int → Int, mm_ok k2 ∧ u = [(rx, .inr (2, [.ref kn])), (kn, aL L 225 k2)]) (some (.long (z_l (qC a b c d))))
def BWc (N t : Nat) : Prop := ∀ (L : Lx) (rx kn : Nat) (kno : Int → Int) (a b c d die tt : Int) (_ : mm_ok kno) (_ : r4 a) (_ : r4 b) (_ : r4 c) (_ : r4 d) (_ : 1 ≤ die ∧ die ≤ 6) (_ : tt = (t : Int)) (_ : a + b + c + d ≤ (N : Int) ∨ (0 < t ∧ 0 < a + b ∧ a + b + c + d ≤ (N : Int) + 1)), CtG L y_R_bestWithEqual b_R_bestWithEqual 12 (some .long) (rmh (7 * N + 4 + t)) false 0 0 [.ref rx, .int (z_i a), .int (z_i b), .int (z_i c), .int (z_i d), .int (z_i die), .int (z_i tt)] [(rx, .inr (2, [.ref kn])), (kn, aL L 225 kno)] (fun u => ∃ k2 : Int → Int, mm_ok k2 ∧ u = [(rx, .inr (2, [.ref kn])), (kn, aL L 225 k2)]) (some (.long (z_l (qB c d die t a b))))
def IOc (N : Nat) : Prop := ∀ (L : Lx) (rx kn : Nat) (kno : Int → Int) (a b c d x y : Int) (_ : mm_ok kno) (_ : r4 a) (_ : r4 b) (_ : r4 c) (_ : r4 d) (_ : 1 ≤ x ∧ x ≤ 6) (_ : 1 ≤ y ∧ y ≤ 6) (_ : 0 < a + b ∧ a + b + c + d ≤ (N : Int) + 1), CtG L y_R_bestInOrder b_R_bestInOrder 11 (some .long) (rmh (7 * N + 7)) false 0 0 [.ref rx, .int (z_i a), .int (z_i b), .int (z_i c), .int (z_i d), .int (z_i x), .int (z_i y)] [(rx, .inr (2, [.ref kn])), (kn, aL L 225 kno)] (fun u => ∃ k2 : Int → Int, mm_ok k2 ∧ u = [(rx, .inr (2, [.ref kn])), (kn, aL L 225 k2)]) (some (.long (z_l (qO a b c d x y))))
def MEc (N : Nat) : Prop := ∀ (L : Lx) (rx kn : Nat) (kno : Int → Int) (a b c d : Int) (_ : mm_ok kno) (_ : r4 a) (_ : r4 b) (_ : r4 c) (_ : r4 d) (_ : ¬ (c = 0 ∧ d = 0)) (_ : 0 < a + b ∧ a + b + c + d ≤ (N : Int) + 1), CtG L y_R_meanOfRolls b_R_meanOfRolls 13 (some .long) (rmh (7 * N + 9)) false 0 0 [.ref rx, .int (z_i a), .int (z_i b), .int (z_i c), .int (z_i d)] [(rx, .inr (2, [.ref kn])), (kn, aL L 225 kno)] (fun u => ∃ k2 : Int → Int, mm_ok k2 ∧ u = [(rx, .inr (2, [.ref kn])), (kn, aL L 225 k2)]) (some (.long (z_l (qC a b c d))))
set_option maxHeartbeats 4000000 in
set_option maxRecDepth 100000 in
theorem c_R_bestWithEqual_s (L : Lx) (N t : Nat) (hC : CHc N) (hB : 0 < t → BWc N (t - 1)) (rx kn : Nat) (kno : Int → Int) (a b c d die tt : Int) (hmm : mm_ok kno) (ha : r4 a) (hb : r4 b) (hc : r4 c) (hd : r4 d) (hdie : 1 ≤ die ∧ die ≤ 6) (htt : tt = (t : Int)) (hle : t ≤ 4) (hok : a + b + c + d ≤ (N : Int) ∨ (0 < t ∧ 0 < a + b ∧ a + b + c + d ≤ (N : Int) + 1)) : CtG L y_R_bestWithEqual b_R_bestWithEqual 12 (some .long) (rmh (7 * N + 4 + t)) false 0 0 [.ref rx, .int (z_i a), .int (z_i b), .int (z_i c), .int (z_i d), .int (z_i die), .int (z_i tt)] [(rx, .inr (2, [.ref kn])), (kn, aL L 225 kno)] (fun u => ∃ k2 : Int → Int, mm_ok k2 ∧ u = [(rx, .inr (2, [.ref kn])), (kn, aL L 225 k2)]) (some (.long (z_l (qB c d die t a b)))) := by
  refine CtG.of rfl (Nat.le_of_ble_eq_true rfl) (fun X E F => ?_)
  show J L X 12 0 0 [(rx, .inr (2, [.ref kn])), (kn, aL L 225 kno)] [(0, .ref rx), (1, .int (z_i a)), (2, .int (z_i b)), (3, .int (z_i c)), (4, .int (z_i d)), (5, .int (z_i die)), (6, .int (z_i tt))] [] 0
  have f1 := z_mx_is a b
  have f2 := z_mn_is a b
  refine J_iload_n E 1 d_R_bestWithEqual_0 rfl rfl ?_
  refine J_iload_n E 2 d_R_bestWithEqual_1 rfl rfl ?_
  refine J_mmax E t_2_49 t_1_69 t_1_5 t_1_70 (Rm_1 (by omega) (Nat.le_of_ble_eq_true rfl)) (by exact ⟨⟨by omega, by omega⟩, ⟨by omega, by omega⟩⟩) d_R_bestWithEqual_2 ?_
  refine J_istore E [(7, .int (z_i (z_mx a b))), (0, .ref rx), (1, .int (z_i a)), (2, .int (z_i b)), (3, .int (z_i c)), (4, .int (z_i d)), (5, .int (z_i die)), (6, .int (z_i tt))] d_R_bestWithEqual_5 (by decide) rfl ?_
  refine J_iload_n E 2 d_R_bestWithEqual_7 rfl rfl ?_
  refine J_iload_n E 3 d_R_bestWithEqual_8 rfl rfl ?_
  refine J_mmin E t_2_50 t_1_66 t_1_5 t_1_67 (Rm_1 (by omega) (Nat.le_of_ble_eq_true rfl)) (by exact ⟨⟨by omega, by omega⟩, ⟨by omega, by omega⟩⟩) d_R_bestWithEqual_9 ?_
  refine J_istore E [(8, .int (z_i (z_mn a b))), (7, .int (z_i (z_mx a b))), (0, .ref rx), (1, .int (z_i a)), (2, .int (z_i b)), (3, .int (z_i c)), (4, .int (z_i d)), (5, .int (z_i die)), (6, .int (z_i tt))] d_R_bestWithEqual_12 (by decide) rfl ?_
  refine J_iload E 8 d_R_bestWithEqual_14 rfl ?_
  refine J_if_le E 24 d_R_bestWithEqual_16 (by decide) (by exact ⟨by omega, by omega⟩) (fun h16 => ?_) (fun h16 => ?_)
  · refine J_ldc2 (a := 2176782336) E t_2_45 d_R_bestWithEqual_24 ?_
    refine J_aload_n E 2 d_R_bestWithEqual_27 rfl rfl ?_
    refine J_iload_n E 5 d_R_bestWithEqual_28 rfl rfl ?_
    refine J_iload E 6 d_R_bestWithEqual_29 rfl ?_
    refine J_iload E 1 d_R_bestWithEqual_31 rfl ?_
    refine J_iload E 0 d_R_bestWithEqual_33 rfl ?_
    refine J_callV (wr := []) (rest := [.long (z_l 2176782336)]) E kb_R_chanceToRoll t_2_59 t_2_43 ts_R_chanceToRoll (hC L rx kn kno c d (z_mx a b) (z_mn a b) hmm hc hd (mx_r4 ha hb) (mn_r4 ha hb) (by omega)) (fun h => h) (Rm_h (by omega) (by decide)) [0, 1] [] rfl rfl rfl rfl (by decide) 0 rfl rfl rfl rfl (Nat.le_of_ble_eq_true rfl) d_R_bestWithEqual_35 (fun w' hw => ?_)
    obtain ⟨kq1, hq1, hw⟩ := hw
    obtain rfl : w' = [(rx, .inr (2, [.ref kn])), (kn, aL L 225 kq1)] := hw
    show J L X 12 0 0 [(rx, .inr (2, [.ref kn])), (kn, aL L 225 kq1)] [(8, .int (z_i (z_mn a b))), (7, .int (z_i (z_mx a b))), (0, .ref rx), (1, .int (z_i a)), (2, .int (z_i b)), (3, .int (z_i c)), (4, .int (z_i d)), (5, .int (z_i die)), (6, .int (z_i tt))] [.long (z_l (qC c d (z_mx a b) (z_mn a b))), .long (z_l 2176782336)] 38
    refine J_lsub E d_R_bestWithEqual_38 ?_
    exact J_lreturn E F (bw_end ha hb hc hd (by omega)) ⟨kq1, hq1, rfl⟩ d_R_bestWithEqual_39
  · refine J_iload E 1 d_R_bestWithEqual_19 rfl ?_
    refine J_if_ne E 40 d_R_bestWithEqual_21 (by decide) (by have := z_mx_is a b; exact ⟨by omega, by omega⟩) (fun h21 => ?_) (fun h21 => ?_)
    · obtain ⟨t, rfl⟩ : ∃ t2, t = t2 + 1 := ⟨t - 1, by omega⟩
      refine J_iconst E d_R_bestWithEqual_40 ?_
      refine J_iload E 1 d_R_bestWithEqual_41 rfl ?_
      refine J_iload E 7 d_R_bestWithEqual_43 rfl ?_
      refine J_isub E d_R_bestWithEqual_45 ?_
      refine J_mmax E t_2_49 t_1_69 t_1_5 t_1_70 (Rm_1 (by omega) (Nat.le_of_ble_eq_true rfl)) (by have := z_mx_is a b; exact ⟨⟨by omega, by omega⟩, ⟨by omega, by omega⟩⟩) d_R_bestWithEqual_46 ?_
      refine J_istore E [(9, .int (z_i (z_mx 0 ((z_mx a b) - die)))), (8, .int (z_i (z_mn a b))), (7, .int (z_i (z_mx a b))), (0, .ref rx), (1, .int (z_i a)), (2, .int (z_i b)), (3, .int (z_i c)), (4, .int (z_i d)), (5, .int (z_i die)), (6, .int (z_i tt))] d_R_bestWithEqual_49 (by decide) rfl ?_
      refine J_aload_n E 3 d_R_bestWithEqual_51 rfl rfl ?_
      refine J_iload E 0 d_R_bestWithEqual_52 rfl ?_
      refine J_iload E 1 d_R_bestWithEqual_54 rfl ?_
      refine J_iload_n E 6 d_R_bestWithEqual_56 rfl rfl ?_
      refine J_iload E 7 d_R_bestWithEqual_57 rfl ?_
      refine J_iload E 8 d_R_bestWithEqual_59 rfl ?_
      refine J_iload E 9 d_R_bestWithEqual_61 rfl ?_
      refine J_iconst E d_R_bestWithEqual_63 ?_
      refine J_isub E d_R_bestWithEqual_64 ?_
      refine J_callV (wr := []) (rest := []) E kb_R_bestWithEqual t_2_55 t_2_57 ts_R_bestWithEqual ((hB (by omega)) L rx kn kno (z_mx 0 ((z_mx a b) - die)) (z_mn a b) c d die (tt - 1) hmm (by have := z_mx_is a b; have := z_mx_is 0 ((z_mx a b) - die); exact ⟨by omega, by omega⟩) (by have := z_mn_is a b; exact ⟨by omega, by omega⟩) hc hd (by omega) (by omega) (Or.inl (by have := z_mx_is 0 (z_mx a b - die); omega))) (fun h => h) (Rm_h (by omega) (by decide)) [0, 1] [] rfl rfl rfl rfl (by decide) 0 rfl rfl rfl rfl (Nat.le_of_ble_eq_true rfl) d_R_bestWithEqual_65 (fun w' hw => ?_)
      obtain ⟨kq2, hq2, hw⟩ := hw
      obtain rfl : w' = [(rx, .inr (2, [.ref kn])), (kn, aL L 225 kq2)] := hw
      show J L X 12 0 0 [(rx, .inr (2, [.ref kn])), (kn, aL L 225 kq2)] [(9, .int (z_i (z_mx 0 ((z_mx a b) - die)))), (8, .int (z_i (z_mn a b))), (7, .int (z_i (z_mx a b))), (0, .ref rx), (1, .int (z_i a)), (2, .int (z_i b)), (3, .int (z_i c)), (4, .int (z_i d)), (5, .int (z_i die)), (6, .int (z_i tt))] [.long (z_l (qB c d die t (z_mx 0 ((z_mx a b) - die)) (z_mn a b)))] 68
      refine J_lstore E [(10, .long (z_l (qB c d die t (z_mx 0 ((z_mx a b) - die)) (z_mn a b)))), (9, .int (z_i (z_mx 0 ((z_mx a b) - die)))), (8, .int (z_i (z_mn a b))), (7, .int (z_i (z_mx a b))), (0, .ref rx), (1, .int (z_i a)), (2, .int (z_i b)), (3, .int (z_i c)), (4, .int (z_i d)), (5, .int (z_i die)), (6, .int (z_i tt))] d_R_bestWithEqual_68 (by decide) rfl ?_
      refine J_iload E 3 d_R_bestWithEqual_70 rfl ?_
      refine J_iload E 2 d_R_bestWithEqual_72 rfl ?_
      refine J_iload E 9 d_R_bestWithEqual_74 rfl ?_
      refine J_callS (wr := [(rx, .inr (2, [.ref kn])), (kn, aL L 225 kq2)]) (rest := []) E kb_R_frontCanMove t_2_60 t_2_61 (c_R_frontCanMove L (z_mx a b) (z_mn a b) die (mx_r4 ha hb) (mn_r4 ha hb) (by omega)) (fun h => h) (Rm_h (by omega) (by decide)) [] [0, 1] rfl rfl rfl rfl (by decide) rfl rfl (Nat.le_of_ble_eq_true rfl) d_R_bestWithEqual_76 (fun w' hw => ?_)
      obtain rfl : w' = [] := hw
      show J L X 12 0 0 [(rx, .inr (2, [.ref kn])), (kn, aL L 225 kq2)] [(10, .long (z_l (qB c d die t (z_mx 0 ((z_mx a b) - die)) (z_mn a b)))), (9, .int (z_i (z_mx 0 ((z_mx a b) - die)))), (8, .int (z_i (z_mn a b))), (7, .int (z_i (z_mx a b))), (0, .ref rx), (1, .int (z_i a)), (2, .int (z_i b)), (3, .int (z_i c)), (4, .int (z_i d)), (5, .int (z_i die)), (6, .int (z_i tt))] [.int (z_i (b2 ((z_mn a b) < (z_mx a b) ∧ die ≤ (z_mn a b))))] 79
      refine J_if_eq E 109 d_R_bestWithEqual_79 (by decide) (b2_r _) (fun h79 => ?_) (fun h79 => ?_)
      · refine J_lload E 0 d_R_bestWithEqual_109 rfl ?_
        exact J_lreturn E F (bw_no ha hb hdie h21 (b2_not h79)) ⟨kq2, hq2, rfl⟩ d_R_bestWithEqual_111
      · have hfm := b2_of h79
        refine J_lload E 0 d_R_bestWithEqual_82 rfl ?_
        refine J_aload_n E 4 d_R_bestWithEqual_84 rfl rfl ?_
        refine J_iload E 3 d_R_bestWithEqual_85 rfl ?_
        refine J_iload E 2 d_R_bestWithEqual_87 rfl ?_
        refine J_iload E 9 d_R_bestWithEqual_89 rfl ?_
        refine J_isub E d_R_bestWithEqual_91 ?_
        refine J_iload_n E 7 d_R_bestWithEqual_92 rfl rfl ?_
        refine J_iload E 8 d_R_bestWithEqual_93 rfl ?_
        refine J_iload E 9 d_R_bestWithEqual_95 rfl ?_
        refine J_iload E 10 d_R_bestWithEqual_97 rfl ?_
        refine J_iconst E d_R_bestWithEqual_99 ?_
        refine J_isub E d_R_bestWithEqual_100 ?_
        refine J_callV (wr := []) (rest := [.long (z_l (qB c d die t (z_mx 0 ((z_mx a b) - die)) (z_mn a b)))]) E kb_R_bestWithEqual t_2_55 t_2_57 ts_R_bestWithEqual ((hB (by omega)) L rx kn kq2 (z_mx a b) ((z_mn a b) - die) c d die (tt - 1) hq2 (by have := z_mx_is a b; exact ⟨by omega, by omega⟩) (by have := z_mn_is a b; exact ⟨by omega, by omega⟩) hc hd (by omega) (by omega) (Or.inl (by have := z_mx_is 0 (z_mx a b - die); omega))) (fun h => h) (Rm_h (by omega) (by decide)) [0, 1] [] rfl rfl rfl rfl (by decide) 0 rfl rfl rfl rfl (Nat.le_of_ble_eq_true rfl) d_R_bestWithEqual_101 (fun w' hw => ?_)
        obtain ⟨kq3, hq3, hw⟩ := hw
        obtain rfl : w' = [(rx, .inr (2, [.ref kn])), (kn, aL L 225 kq3)] := hw
        show J L X 12 0 0 [(rx, .inr (2, [.ref kn])), (kn, aL L 225 kq3)] [(10, .long (z_l (qB c d die t (z_mx 0 ((z_mx a b) - die)) (z_mn a b)))), (9, .int (z_i (z_mx 0 ((z_mx a b) - die)))), (8, .int (z_i (z_mn a b))), (7, .int (z_i (z_mx a b))), (0, .ref rx), (1, .int (z_i a)), (2, .int (z_i b)), (3, .int (z_i c)), (4, .int (z_i d)), (5, .int (z_i die)), (6, .int (z_i tt))] [.long (z_l (qB c d die t (z_mx a b) ((z_mn a b) - die))), .long (z_l (qB c d die t (z_mx 0 ((z_mx a b) - die)) (z_mn a b)))] 104
        refine J_mmaxL E t_2_63 t_2_64 t_1_5 t_2_65 (Rm_1L (by omega) (Nat.le_of_ble_eq_true rfl)) (by have := qB_in (c := c) (d := d) (g := die) (t := t) (a := (z_mx 0 ((z_mx a b) - die))) (b := (z_mn a b)); have := qB_in (c := c) (d := d) (g := die) (t := t) (a := (z_mx a b)) (b := ((z_mn a b) - die)); exact ⟨⟨by omega, by omega⟩, by omega, by omega⟩) d_R_bestWithEqual_104 ?_
        refine J_lstore E [(10, .long (z_l (z_mx (qB c d die t (z_mx 0 ((z_mx a b) - die)) (z_mn a b)) (qB c d die t (z_mx a b) ((z_mn a b) - die))))), (9, .int (z_i (z_mx 0 ((z_mx a b) - die)))), (8, .int (z_i (z_mn a b))), (7, .int (z_i (z_mx a b))), (0, .ref rx), (1, .int (z_i a)), (2, .int (z_i b)), (3, .int (z_i c)), (4, .int (z_i d)), (5, .int (z_i die)), (6, .int (z_i tt))] d_R_bestWithEqual_107 (by decide) rfl ?_
        refine J_lload E 0 d_R_bestWithEqual_109 rfl ?_
        exact J_lreturn E F (bw_yes ha hb hdie h21 (b2_of h79)) ⟨kq3, hq3, rfl⟩ d_R_bestWithEqual_111
    · refine J_ldc2 (a := 2176782336) E t_2_45 d_R_bestWithEqual_24 ?_
      refine J_aload_n E 2 d_R_bestWithEqual_27 rfl rfl ?_
      refine J_iload_n E 5 d_R_bestWithEqual_28 rfl rfl ?_
      refine J_iload E 6 d_R_bestWithEqual_29 rfl ?_
      refine J_iload E 1 d_R_bestWithEqual_31 rfl ?_
      refine J_iload E 0 d_R_bestWithEqual_33 rfl ?_
      refine J_callV (wr := []) (rest := [.long (z_l 2176782336)]) E kb_R_chanceToRoll t_2_59 t_2_43 ts_R_chanceToRoll (hC L rx kn kno c d (z_mx a b) (z_mn a b) hmm hc hd (mx_r4 ha hb) (mn_r4 ha hb) (by omega)) (fun h => h) (Rm_h (by omega) (by decide)) [0, 1] [] rfl rfl rfl rfl (by decide) 0 rfl rfl rfl rfl (Nat.le_of_ble_eq_true rfl) d_R_bestWithEqual_35 (fun w' hw => ?_)
      obtain ⟨kq4, hq4, hw⟩ := hw
      obtain rfl : w' = [(rx, .inr (2, [.ref kn])), (kn, aL L 225 kq4)] := hw
      show J L X 12 0 0 [(rx, .inr (2, [.ref kn])), (kn, aL L 225 kq4)] [(8, .int (z_i (z_mn a b))), (7, .int (z_i (z_mx a b))), (0, .ref rx), (1, .int (z_i a)), (2, .int (z_i b)), (3, .int (z_i c)), (4, .int (z_i d)), (5, .int (z_i die)), (6, .int (z_i tt))] [.long (z_l (qC c d (z_mx a b) (z_mn a b))), .long (z_l 2176782336)] 38
      refine J_lsub E d_R_bestWithEqual_38 ?_
      exact J_lreturn E F (bw_end ha hb hc hd (by omega)) ⟨kq4, hq4, rfl⟩ d_R_bestWithEqual_39
set_option maxHeartbeats 4000000 in
set_option maxRecDepth 100000 in
theorem c_R_bestInOrder_s (L : Lx) (N : Nat) (hB1 : BWc N 1) (rx kn : Nat) (kno : Int → Int) (a b c d x y : Int) (hmm : mm_ok kno) (ha : r4 a) (hb : r4 b) (hc : r4 c) (hd : r4 d) (hx : 1 ≤ x ∧ x ≤ 6) (hy : 1 ≤ y ∧ y ≤ 6) (hok : 0 < a + b ∧ a + b + c + d ≤ (N : Int) + 1) : CtG L y_R_bestInOrder b_R_bestInOrder 11 (some .long) (rmh (7 * N + 7)) false 0 0 [.ref rx, .int (z_i a), .int (z_i b), .int (z_i c), .int (z_i d), .int (z_i x), .int (z_i y)] [(rx, .inr (2, [.ref kn])), (kn, aL L 225 kno)] (fun u => ∃ k2 : Int → Int, mm_ok k2 ∧ u = [(rx, .inr (2, [.ref kn])), (kn, aL L 225 k2)]) (some (.long (z_l (qO a b c d x y)))) := by
  refine CtG.of rfl (Nat.le_of_ble_eq_true rfl) (fun X E F => ?_)
  show J L X 11 0 0 [(rx, .inr (2, [.ref kn])), (kn, aL L 225 kno)] [(0, .ref rx), (1, .int (z_i a)), (2, .int (z_i b)), (3, .int (z_i c)), (4, .int (z_i d)), (5, .int (z_i x)), (6, .int (z_i y))] [] 0
  have f1 := z_mx_is a b
  have f2 := z_mn_is a b
  refine J_iload_n E 1 d_R_bestInOrder_0 rfl rfl ?_
  refine J_iload_n E 2 d_R_bestInOrder_1 rfl rfl ?_
  refine J_mmax E t_2_49 t_1_69 t_1_5 t_1_70 (Rm_1 (by omega) (Nat.le_of_ble_eq_true rfl)) (by exact ⟨⟨by omega, by omega⟩, ⟨by omega, by omega⟩⟩) d_R_bestInOrder_2 ?_
  refine J_istore E [(7, .int (z_i (z_mx a b))), (0, .ref rx), (1, .int (z_i a)), (2, .int (z_i b)), (3, .int (z_i c)), (4, .int (z_i d)), (5, .int (z_i x)), (6, .int (z_i y))] d_R_bestInOrder_5 (by decide) rfl ?_
  refine J_iload_n E 2 d_R_bestInOrder_7 rfl rfl ?_
  refine J_iload_n E 3 d_R_bestInOrder_8 rfl rfl ?_
  refine J_mmin E t_2_50 t_1_66 t_1_5 t_1_67 (Rm_1 (by omega) (Nat.le_of_ble_eq_true rfl)) (by exact ⟨⟨by omega, by omega⟩, ⟨by omega, by omega⟩⟩) d_R_bestInOrder_9 ?_
  refine J_istore E [(8, .int (z_i (z_mn a b))), (7, .int (z_i (z_mx a b))), (0, .ref rx), (1, .int (z_i a)), (2, .int (z_i b)), (3, .int (z_i c)), (4, .int (z_i d)), (5, .int (z_i x)), (6, .int (z_i y))] d_R_bestInOrder_12 (by decide) rfl ?_
  refine J_aload_n E 2 d_R_bestInOrder_14 rfl rfl ?_
  refine J_iconst E d_R_bestInOrder_15 ?_
  refine J_iload E 1 d_R_bestInOrder_16 rfl ?_
  refine J_iload E 7 d_R_bestInOrder_18 rfl ?_
  refine J_isub E d_R_bestInOrder_20 ?_
  refine J_mmax E t_2_49 t_1_69 t_1_5 t_1_70 (Rm_1 (by omega) (Nat.le_of_ble_eq_true rfl)) (by have := z_mx_is a b; exact ⟨⟨by omega, by omega⟩, ⟨by omega, by omega⟩⟩) d_R_bestInOrder_21 ?_
  refine J_iload E 0 d_R_bestInOrder_24 rfl ?_
  refine J_iload_n E 5 d_R_bestInOrder_26 rfl rfl ?_
  refine J_iload E 6 d_R_bestInOrder_27 rfl ?_
  refine J_iload E 8 d_R_bestInOrder_29 rfl ?_
  refine J_iconst E d_R_bestInOrder_31 ?_
  refine J_callV (wr := []) (rest := []) E kb_R_bestWithEqual t_2_55 t_2_57 ts_R_bestWithEqual (hB1 L rx kn kno (z_mx 0 ((z_mx a b) - x)) (z_mn a b) c d y 1 hmm (by have := z_mx_is a b; have := z_mx_is 0 ((z_mx a b) - x); exact ⟨by omega, by omega⟩) (by have := z_mn_is a b; exact ⟨by omega, by omega⟩) hc hd (by omega) (by omega) (Or.inl (by have := z_mx_is 0 (z_mx a b - x); omega))) (fun h => h) (Rm_h (by omega) (by decide)) [0, 1] [] rfl rfl rfl rfl (by decide) 0 rfl rfl rfl rfl (Nat.le_of_ble_eq_true rfl) d_R_bestInOrder_32 (fun w' hw => ?_)
  obtain ⟨kq1, hq1, hw⟩ := hw
  obtain rfl : w' = [(rx, .inr (2, [.ref kn])), (kn, aL L 225 kq1)] := hw
  show J L X 11 0 0 [(rx, .inr (2, [.ref kn])), (kn, aL L 225 kq1)] [(8, .int (z_i (z_mn a b))), (7, .int (z_i (z_mx a b))), (0, .ref rx), (1, .int (z_i a)), (2, .int (z_i b)), (3, .int (z_i c)), (4, .int (z_i d)), (5, .int (z_i x)), (6, .int (z_i y))] [.long (z_l (qB c d y 1 (z_mx 0 ((z_mx a b) - x)) (z_mn a b)))] 35
  refine J_lstore E [(9, .long (z_l (qB c d y 1 (z_mx 0 ((z_mx a b) - x)) (z_mn a b)))), (8, .int (z_i (z_mn a b))), (7, .int (z_i (z_mx a b))), (0, .ref rx), (1, .int (z_i a)), (2, .int (z_i b)), (3, .int (z_i c)), (4, .int (z_i d)), (5, .int (z_i x)), (6, .int (z_i y))] d_R_bestInOrder_35 (by decide) rfl ?_
  refine J_iload E 2 d_R_bestInOrder_37 rfl ?_
  refine J_iload E 1 d_R_bestInOrder_39 rfl ?_
  refine J_iload E 8 d_R_bestInOrder_41 rfl ?_
  refine J_callS (wr := [(rx, .inr (2, [.ref kn])), (kn, aL L 225 kq1)]) (rest := []) E kb_R_frontCanMove t_2_60 t_2_61 (c_R_frontCanMove L (z_mx a b) (z_mn a b) x (mx_r4 ha hb) (mn_r4 ha hb) (by omega)) (fun h => h) (Rm_h (by omega) (by decide)) [] [0, 1] rfl rfl rfl rfl (by decide) rfl rfl (Nat.le_of_ble_eq_true rfl) d_R_bestInOrder_43 (fun w' hw => ?_)
  obtain rfl : w' = [] := hw
  show J L X 11 0 0 [(rx, .inr (2, [.ref kn])), (kn, aL L 225 kq1)] [(9, .long (z_l (qB c d y 1 (z_mx 0 ((z_mx a b) - x)) (z_mn a b)))), (8, .int (z_i (z_mn a b))), (7, .int (z_i (z_mx a b))), (0, .ref rx), (1, .int (z_i a)), (2, .int (z_i b)), (3, .int (z_i c)), (4, .int (z_i d)), (5, .int (z_i x)), (6, .int (z_i y))] [.int (z_i (b2 ((z_mn a b) < (z_mx a b) ∧ x ≤ (z_mn a b))))] 46
  refine J_if_eq E 73 d_R_bestInOrder_46 (by decide) (b2_r _) (fun h46 => ?_) (fun h46 => ?_)
  · refine J_lload E 0 d_R_bestInOrder_73 rfl ?_
    exact J_lreturn E F (io_no ha hb hx (b2_not h46)) ⟨kq1, hq1, rfl⟩ d_R_bestInOrder_75
  · have hfm := b2_of h46
    refine J_lload E 0 d_R_bestInOrder_49 rfl ?_
    refine J_aload_n E 3 d_R_bestInOrder_51 rfl rfl ?_
    refine J_iload E 2 d_R_bestInOrder_52 rfl ?_
    refine J_iload E 1 d_R_bestInOrder_54 rfl ?_
    refine J_iload E 8 d_R_bestInOrder_56 rfl ?_
    refine J_isub E d_R_bestInOrder_58 ?_
    refine J_iload_n E 6 d_R_bestInOrder_59 rfl rfl ?_
    refine J_iload E 7 d_R_bestInOrder_60 rfl ?_
    refine J_iload E 9 d_R_bestInOrder_62 rfl ?_
    refine J_iconst E d_R_bestInOrder_64 ?_
    refine J_callV (wr := []) (rest := [.long (z_l (qB c d y 1 (z_mx 0 ((z_mx a b) - x)) (z_mn a b)))]) E kb_R_bestWithEqual t_2_55 t_2_57 ts_R_bestWithEqual (hB1 L rx kn kq1 (z_mx a b) ((z_mn a b) - x) c d y 1 hq1 (by have := z_mx_is a b; exact ⟨by omega, by omega⟩) (by have := z_mn_is a b; exact ⟨by omega, by omega⟩) hc hd (by omega) (by omega) (Or.inl (by have := z_mx_is 0 (z_mx a b - x); omega))) (fun h => h) (Rm_h (by omega) (by decide)) [0, 1] [] rfl rfl rfl rfl (by decide) 0 rfl rfl rfl rfl (Nat.le_of_ble_eq_true rfl) d_R_bestInOrder_65 (fun w' hw => ?_)
    obtain ⟨kq2, hq2, hw⟩ := hw
    obtain rfl : w' = [(rx, .inr (2, [.ref kn])), (kn, aL L 225 kq2)] := hw
    show J L X 11 0 0 [(rx, .inr (2, [.ref kn])), (kn, aL L 225 kq2)] [(9, .long (z_l (qB c d y 1 (z_mx 0 ((z_mx a b) - x)) (z_mn a b)))), (8, .int (z_i (z_mn a b))), (7, .int (z_i (z_mx a b))), (0, .ref rx), (1, .int (z_i a)), (2, .int (z_i b)), (3, .int (z_i c)), (4, .int (z_i d)), (5, .int (z_i x)), (6, .int (z_i y))] [.long (z_l (qB c d y 1 (z_mx a b) ((z_mn a b) - x))), .long (z_l (qB c d y 1 (z_mx 0 ((z_mx a b) - x)) (z_mn a b)))] 68
    refine J_mmaxL E t_2_63 t_2_64 t_1_5 t_2_65 (Rm_1L (by omega) (Nat.le_of_ble_eq_true rfl)) (by have := qB_in (c := c) (d := d) (g := y) (t := 1) (a := (z_mx 0 ((z_mx a b) - x))) (b := (z_mn a b)); have := qB_in (c := c) (d := d) (g := y) (t := 1) (a := (z_mx a b)) (b := ((z_mn a b) - x)); exact ⟨⟨by omega, by omega⟩, by omega, by omega⟩) d_R_bestInOrder_68 ?_
    refine J_lstore E [(9, .long (z_l (z_mx (qB c d y 1 (z_mx 0 ((z_mx a b) - x)) (z_mn a b)) (qB c d y 1 (z_mx a b) ((z_mn a b) - x))))), (8, .int (z_i (z_mn a b))), (7, .int (z_i (z_mx a b))), (0, .ref rx), (1, .int (z_i a)), (2, .int (z_i b)), (3, .int (z_i c)), (4, .int (z_i d)), (5, .int (z_i x)), (6, .int (z_i y))] d_R_bestInOrder_71 (by decide) rfl ?_
    refine J_lload E 0 d_R_bestInOrder_73 rfl ?_
    exact J_lreturn E F (io_yes ha hb hx (b2_of h46)) ⟨kq2, hq2, rfl⟩ d_R_bestInOrder_75
set_option maxHeartbeats 4000000 in
set_option maxRecDepth 100000 in
theorem c_R_meanOfRolls_s (L : Lx) (N : Nat) (hB4 : BWc N 4) (hO : IOc N) (rx kn : Nat) (kno : Int → Int) (a b c d : Int) (hmm : mm_ok kno) (ha : r4 a) (hb : r4 b) (hc : r4 c) (hd : r4 d) (hcd : ¬ (c = 0 ∧ d = 0)) (hok : 0 < a + b ∧ a + b + c + d ≤ (N : Int) + 1) : CtG L y_R_meanOfRolls b_R_meanOfRolls 13 (some .long) (rmh (7 * N + 9)) false 0 0 [.ref rx, .int (z_i a), .int (z_i b), .int (z_i c), .int (z_i d)] [(rx, .inr (2, [.ref kn])), (kn, aL L 225 kno)] (fun u => ∃ k2 : Int → Int, mm_ok k2 ∧ u = [(rx, .inr (2, [.ref kn])), (kn, aL L 225 k2)]) (some (.long (z_l (qC a b c d)))) := by
  refine CtG.of rfl (Nat.le_of_ble_eq_true rfl) (fun X E F => ?_)
  show J L X 13 0 0 [(rx, .inr (2, [.ref kn])), (kn, aL L 225 kno)] [(0, .ref rx), (1, .int (z_i a)), (2, .int (z_i b)), (3, .int (z_i c)), (4, .int (z_i d))] [] 0
  have f1 := z_mx_is a b
  have f2 := z_mn_is a b
  refine J_lconst (a := 0) E d_R_meanOfRolls_0 (by decide) ?_
  refine J_lstore E [(5, .long (z_l 0)), (0, .ref rx), (1, .int (z_i a)), (2, .int (z_i b)), (3, .int (z_i c)), (4, .int (z_i d))] d_R_meanOfRolls_1 (by decide) rfl ?_
  refine J_iconst E d_R_meanOfRolls_3 ?_
  refine J_istore E [(7, .int (z_i 1)), (5, .long (z_l 0)), (0, .ref rx), (1, .int (z_i a)), (2, .int (z_i b)), (3, .int (z_i c)), (4, .int (z_i d))] d_R_meanOfRolls_4 (by decide) rfl ?_
  have C6 : ∀ (mm : Nat) (g : Int) (sm : Int) (kv : Int → Int), (1 ≤ g ∧ g ≤ 7) → (sm = qS a b c d g) → (mm_ok kv) → (7 - g).toNat < mm → J L X 13 0 0 [(rx, .inr (2, [.ref kn])), (kn, aL L 225 kv)] [(7, .int (z_i g)), (5, .long (z_l sm)), (0, .ref rx), (1, .int (z_i a)), (2, .int (z_i b)), (3, .int (z_i c)), (4, .int (z_i d))] [] 6 := by
    intro mm
    induction mm with
    | zero => intro g sm kv hg hsm hkv hme; exact absurd hme (Nat.not_lt_zero _)
    | succ mm ih6 =>
      intro g sm kv hg hsm hkv hme
      refine J_iload E 0 d_R_meanOfRolls_6 rfl ?_
      refine J_bipush E d_R_meanOfRolls_8 (by decide) ?_
      refine J_icmp_gt E 98 d_R_meanOfRolls_10 (by decide) (by exact ⟨⟨by omega, by omega⟩, ⟨by omega, by omega⟩⟩) (fun h10 => ?_) (fun h10 => ?_)
      · refine J_lload E 1 d_R_meanOfRolls_98 rfl ?_
        refine J_ldc2 (a := 36) E t_2_71 d_R_meanOfRolls_100 ?_
        refine J_ldiv E d_R_meanOfRolls_103 (by have := qS_in (a := a) (b := b) (c := c) (d := d) (g := g) (by omega); exact ⟨by omega, by omega, by omega, by omega⟩) ?_
        exact J_lreturn E F (by rw [hsm, show g = 7 by omega]; exact qS_end ha hb hc hd hcd (by omega)) ⟨kv, hkv, rfl⟩ d_R_meanOfRolls_104
      · refine J_lload E 1 d_R_meanOfRolls_13 rfl ?_
        refine J_aload_n E 2 d_R_meanOfRolls_15 rfl rfl ?_
        refine J_iload_n E 3 d_R_meanOfRolls_16 rfl rfl ?_
        refine J_iload_n E 4 d_R_meanOfRolls_17 rfl rfl ?_
        refine J_iload_n E 5 d_R_meanOfRolls_18 rfl rfl ?_
        refine J_iload E 6 d_R_meanOfRolls_19 rfl ?_
        refine J_iload E 0 d_R_meanOfRolls_21 rfl ?_
        refine J_iconst E d_R_meanOfRolls_23 ?_
        refine J_callV (wr := []) (rest := [.long (z_l sm)]) E kb_R_bestWithEqual t_2_55 t_2_57 ts_R_bestWithEqual (hB4 L rx kn kv a b c d g 4 hkv ha hb hc hd (by omega) rfl (Or.inr ⟨by decide, by omega, by omega⟩)) (fun h => h) (Rm_h (by omega) (by decide)) [0, 1] [] rfl rfl rfl rfl (by decide) 0 rfl rfl rfl rfl (Nat.le_of_ble_eq_true rfl) d_R_meanOfRolls_24 (fun w' hw => ?_)
        obtain ⟨kq3, hq3, hw⟩ := hw
        obtain rfl : w' = [(rx, .inr (2, [.ref kn])), (kn, aL L 225 kq3)] := hw
        show J L X 13 0 0 [(rx, .inr (2, [.ref kn])), (kn, aL L 225 kq3)] [(7, .int (z_i g)), (5, .long (z_l sm)), (0, .ref rx), (1, .int (z_i a)), (2, .int (z_i b)), (3, .int (z_i c)), (4, .int (z_i d))] [.long (z_l (qB c d g 4 a b)), .long (z_l sm)] 27
        refine J_ladd E d_R_meanOfRolls_27 ?_
        refine J_lstore E [(5, .long (z_l (sm + (qB c d g 4 a b)))), (7, .int (z_i g)), (0, .ref rx), (1, .int (z_i a)), (2, .int (z_i b)), (3, .int (z_i c)), (4, .int (z_i d))] d_R_meanOfRolls_28 (by decide) rfl ?_
        refine J_iconst E d_R_meanOfRolls_30 ?_
        refine J_istore E [(8, .int (z_i 1)), (5, .long (z_l (sm + (qB c d g 4 a b)))), (7, .int (z_i g)), (0, .ref rx), (1, .int (z_i a)), (2, .int (z_i b)), (3, .int (z_i c)), (4, .int (z_i d))] d_R_meanOfRolls_31 (by decide) rfl ?_
        have C33 : ∀ (mm : Nat) (s : Int) (sm2 : Int) (kv2 : Int → Int), (1 ≤ s ∧ s ≤ g) → (sm2 = qS a b c d g + qB c d g 4 a b + qI a b c d g s) → (mm_ok kv2) → (7 - s).toNat < mm → J L X 13 0 0 [(rx, .inr (2, [.ref kn])), (kn, aL L 225 kv2)] [(8, .int (z_i s)), (5, .long (z_l sm2)), (7, .int (z_i g)), (0, .ref rx), (1, .int (z_i a)), (2, .int (z_i b)), (3, .int (z_i c)), (4, .int (z_i d))] [] 33 := by
          intro mm
          induction mm with
          | zero => intro s sm2 kv2 hs hs2 hkv2 hme; exact absurd hme (Nat.not_lt_zero _)
          | succ mm ih33 =>
            intro s sm2 kv2 hs hs2 hkv2 hme
            refine J_iload E 0 d_R_meanOfRolls_33 rfl ?_
            refine J_iload E 2 d_R_meanOfRolls_35 rfl ?_
            refine J_icmp_ge E 92 d_R_meanOfRolls_37 (by decide) (by exact ⟨⟨by omega, by omega⟩, ⟨by omega, by omega⟩⟩) (fun h37 => ?_) (fun h37 => ?_)
            · refine J_iinc E 2 [(7, .int (z_i (g + 1))), (8, .int (z_i s)), (5, .long (z_l sm2)), (0, .ref rx), (1, .int (z_i a)), (2, .int (z_i b)), (3, .int (z_i c)), (4, .int (z_i d))] d_R_meanOfRolls_92 rfl (by decide) rfl ?_
              refine J_goto E 6 d_R_meanOfRolls_95 (by decide) ?_
              refine J_lv (lv' := [(7, .int (z_i (g + 1))), (5, .long (z_l sm2)), (0, .ref rx), (1, .int (z_i a)), (2, .int (z_i b)), (3, .int (z_i c)), (4, .int (z_i d))]) [0, 2, 3, 4, 5, 6, 7] rfl ?_
              exact ih6 (g + 1) sm2 kv2 (by omega) (by rw [hs2, show s = g by omega, qS_s (by omega)]) hkv2 (by omega)
            · refine J_aload_n E 3 d_R_meanOfRolls_40 rfl rfl ?_
              refine J_iload_n E 4 d_R_meanOfRolls_41 rfl rfl ?_
              refine J_iload_n E 5 d_R_meanOfRolls_42 rfl rfl ?_
              refine J_iload_n E 6 d_R_meanOfRolls_43 rfl rfl ?_
              refine J_iload E 7 d_R_meanOfRolls_44 rfl ?_
              refine J_iload E 2 d_R_meanOfRolls_46 rfl ?_
              refine J_iload E 0 d_R_meanOfRolls_48 rfl ?_
              refine J_callV (wr := []) (rest := []) E kb_R_bestInOrder t_2_66 t_2_68 ts_R_bestInOrder (hO L rx kn kv2 a b c d g s hkv2 ha hb hc hd (by omega) (by omega) hok) (fun h => h) (Rm_h (by omega) (by decide)) [0, 1] [] rfl rfl rfl rfl (by decide) 0 rfl rfl rfl rfl (Nat.le_of_ble_eq_true rfl) d_R_meanOfRolls_50 (fun w' hw => ?_)
              obtain ⟨kq4, hq4, hw⟩ := hw
              obtain rfl : w' = [(rx, .inr (2, [.ref kn])), (kn, aL L 225 kq4)] := hw
              show J L X 13 0 0 [(rx, .inr (2, [.ref kn])), (kn, aL L 225 kq4)] [(8, .int (z_i s)), (5, .long (z_l sm2)), (7, .int (z_i g)), (0, .ref rx), (1, .int (z_i a)), (2, .int (z_i b)), (3, .int (z_i c)), (4, .int (z_i d))] [.long (z_l (qO a b c d g s))] 53
              refine J_lstore E [(9, .long (z_l (qO a b c d g s))), (8, .int (z_i s)), (5, .long (z_l sm2)), (7, .int (z_i g)), (0, .ref rx), (1, .int (z_i a)), (2, .int (z_i b)), (3, .int (z_i c)), (4, .int (z_i d))] d_R_meanOfRolls_53 (by decide) rfl ?_
              refine J_aload_n E 4 d_R_meanOfRolls_55 rfl rfl ?_
              refine J_iload_n E 5 d_R_meanOfRolls_56 rfl rfl ?_
              refine J_iload_n E 6 d_R_meanOfRolls_57 rfl rfl ?_
              refine J_iload_n E 7 d_R_meanOfRolls_58 rfl rfl ?_
              refine J_iload E 8 d_R_meanOfRolls_59 rfl ?_
              refine J_iload E 1 d_R_meanOfRolls_61 rfl ?_
              refine J_iload E 3 d_R_meanOfRolls_63 rfl ?_
              refine J_callV (wr := []) (rest := []) E kb_R_bestInOrder t_2_66 t_2_68 ts_R_bestInOrder (hO L rx kn kq4 a b c d s g hq4 ha hb hc hd (by omega) (by omega) hok) (fun h => h) (Rm_h (by omega) (by decide)) [0, 1] [] rfl rfl rfl rfl (by decide) 0 rfl rfl rfl rfl (Nat.le_of_ble_eq_true rfl) d_R_meanOfRolls_65 (fun w' hw => ?_)
              obtain ⟨kq5, hq5, hw⟩ := hw
              obtain rfl : w' = [(rx, .inr (2, [.ref kn])), (kn, aL L 225 kq5)] := hw
              show J L X 13 0 0 [(rx, .inr (2, [.ref kn])), (kn, aL L 225 kq5)] [(9, .long (z_l (qO a b c d g s))), (8, .int (z_i s)), (5, .long (z_l sm2)), (7, .int (z_i g)), (0, .ref rx), (1, .int (z_i a)), (2, .int (z_i b)), (3, .int (z_i c)), (4, .int (z_i d))] [.long (z_l (qO a b c d s g))] 68
              refine J_lstore E [(11, .long (z_l (qO a b c d s g))), (9, .long (z_l (qO a b c d g s))), (8, .int (z_i s)), (5, .long (z_l sm2)), (7, .int (z_i g)), (0, .ref rx), (1, .int (z_i a)), (2, .int (z_i b)), (3, .int (z_i c)), (4, .int (z_i d))] d_R_meanOfRolls_68 (by decide) rfl ?_
              refine J_lload E 3 d_R_meanOfRolls_70 rfl ?_
              refine J_ldc2 (a := 2) E t_2_70 d_R_meanOfRolls_72 ?_
              refine J_lload E 1 d_R_meanOfRolls_75 rfl ?_
              refine J_lload E 0 d_R_meanOfRolls_77 rfl ?_
              refine J_mmaxL E t_2_63 t_2_64 t_1_5 t_2_65 (Rm_1L (by omega) (Nat.le_of_ble_eq_true rfl)) (by have := qO_in (a := a) (b := b) (c := c) (d := d) (x := g) (y := s); have := qO_in (a := a) (b := b) (c := c) (d := d) (x := s) (y := g); exact ⟨⟨by omega, by omega⟩, by omega, by omega⟩) d_R_meanOfRolls_79 ?_
              refine J_lmul E d_R_meanOfRolls_82 ?_
              refine J_ladd E d_R_meanOfRolls_83 ?_
              refine J_lstore E [(5, .long (z_l (sm2 + (2 * (z_mx (qO a b c d g s) (qO a b c d s g)))))), (11, .long (z_l (qO a b c d s g))), (9, .long (z_l (qO a b c d g s))), (8, .int (z_i s)), (7, .int (z_i g)), (0, .ref rx), (1, .int (z_i a)), (2, .int (z_i b)), (3, .int (z_i c)), (4, .int (z_i d))] d_R_meanOfRolls_84 (by decide) rfl ?_
              refine J_iinc E 3 [(8, .int (z_i (s + 1))), (5, .long (z_l (sm2 + (2 * (z_mx (qO a b c d g s) (qO a b c d s g)))))), (11, .long (z_l (qO a b c d s g))), (9, .long (z_l (qO a b c d g s))), (7, .int (z_i g)), (0, .ref rx), (1, .int (z_i a)), (2, .int (z_i b)), (3, .int (z_i c)), (4, .int (z_i d))] d_R_meanOfRolls_86 rfl (by decide) rfl ?_
              refine J_goto E 33 d_R_meanOfRolls_89 (by decide) ?_
              refine J_lv (lv' := [(8, .int (z_i (s + 1))), (5, .long (z_l (sm2 + (2 * (z_mx (qO a b c d g s) (qO a b c d s g)))))), (7, .int (z_i g)), (0, .ref rx), (1, .int (z_i a)), (2, .int (z_i b)), (3, .int (z_i c)), (4, .int (z_i d))]) [0, 1, 4, 5, 6, 7, 8, 9] rfl ?_
              exact ih33 (s + 1) (sm2 + (2 * (z_mx (qO a b c d g s) (qO a b c d s g)))) kq5 (by omega) (by rw [hs2, ← qI_s (by omega)]; omega) hq5 (by omega)
        exact C33 _ 1 (sm + (qB c d g 4 a b)) kq3 (by omega) (by rw [hsm, qI_1]; omega) hq3 (Nat.lt_succ_self _)
  exact C6 _ 1 0 kno (by decide) rfl hmm (Nat.lt_succ_self _)
set_option maxHeartbeats 4000000 in
set_option maxRecDepth 100000 in
theorem c_R_chanceToRoll_s (L : Lx) (N : Nat) (hM : 0 < N → MEc (N - 1)) (rx kn : Nat) (kno : Int → Int) (a b c d : Int) (hmm : mm_ok kno) (ha : r4 a) (hb : r4 b) (hc : r4 c) (hd : r4 d) (hok : a + b + c + d ≤ (N : Int)) : CtG L y_R_chanceToRoll b_R_chanceToRoll 6 (some .long) (rmh (7 * N + 3)) false 0 0 [.ref rx, .int (z_i a), .int (z_i b), .int (z_i c), .int (z_i d)] [(rx, .inr (2, [.ref kn])), (kn, aL L 225 kno)] (fun u => ∃ k2 : Int → Int, mm_ok k2 ∧ u = [(rx, .inr (2, [.ref kn])), (kn, aL L 225 k2)]) (some (.long (z_l (qC a b c d)))) := by
  refine CtG.of rfl (Nat.le_of_ble_eq_true rfl) (fun X E F => ?_)
  show J L X 6 0 0 [(rx, .inr (2, [.ref kn])), (kn, aL L 225 kno)] [(0, .ref rx), (1, .int (z_i a)), (2, .int (z_i b)), (3, .int (z_i c)), (4, .int (z_i d))] [] 0
  have hix : kno (((qP a b) * 15) + (qP c d)) = 0 ∨ kno (((qP a b) * 15) + (qP c d)) = 1 + qC a b c d := mm_at hmm ha hb hc hd
  have hqc := qC_in ha hb hc hd
  refine J_iload_n E 3 d_R_chanceToRoll_0 rfl rfl ?_
  refine J_if_ne E 11 d_R_chanceToRoll_1 (by decide) (by exact ⟨by omega, by omega⟩) (fun h1 => ?_) (fun h1 => ?_)
  · refine J_iload_n E 1 d_R_chanceToRoll_11 rfl rfl ?_
    refine J_if_ne E 23 d_R_chanceToRoll_12 (by decide) (by exact ⟨by omega, by omega⟩) (fun h12 => ?_) (fun h12 => ?_)
    · refine J_iload_n E 1 d_R_chanceToRoll_23 rfl rfl ?_
      refine J_iload_n E 2 d_R_chanceToRoll_24 rfl rfl ?_
      refine J_callS (wr := [(rx, .inr (2, [.ref kn])), (kn, aL L 225 kno)]) (rest := []) E kb_R_pairNumber t_2_46 t_2_47 (c_R_pairNumber L a b ha hb) (fun h => h) (Rm_h (by omega) (by decide)) [] [0, 1] rfl rfl rfl rfl (by decide) rfl rfl (Nat.le_of_ble_eq_true rfl) d_R_chanceToRoll_25 (fun w' hw => ?_)
      obtain rfl : w' = [] := hw
      show J L X 6 0 0 [(rx, .inr (2, [.ref kn])), (kn, aL L 225 kno)] [(0, .ref rx), (1, .int (z_i a)), (2, .int (z_i b)), (3, .int (z_i c)), (4, .int (z_i d))] [.int (z_i (qP a b))] 28
      refine J_bipush E d_R_chanceToRoll_28 (by decide) ?_
      refine J_imul E d_R_chanceToRoll_30 ?_
      refine J_iload_n E 3 d_R_chanceToRoll_31 rfl rfl ?_
      refine J_iload E 4 d_R_chanceToRoll_32 rfl ?_
      refine J_callS (wr := [(rx, .inr (2, [.ref kn])), (kn, aL L 225 kno)]) (rest := [.int (z_i ((qP a b) * 15))]) E kb_R_pairNumber t_2_46 t_2_47 (c_R_pairNumber L c d hc hd) (fun h => h) (Rm_h (by omega) (by decide)) [] [0, 1] rfl rfl rfl rfl (by decide) rfl rfl (Nat.le_of_ble_eq_true rfl) d_R_chanceToRoll_34 (fun w' hw => ?_)
      obtain rfl : w' = [] := hw
      show J L X 6 0 0 [(rx, .inr (2, [.ref kn])), (kn, aL L 225 kno)] [(0, .ref rx), (1, .int (z_i a)), (2, .int (z_i b)), (3, .int (z_i c)), (4, .int (z_i d))] [.int (z_i (qP c d)), .int (z_i ((qP a b) * 15))] 37
      refine J_iadd E d_R_chanceToRoll_37 ?_
      refine J_istore E [(5, .int (z_i (((qP a b) * 15) + (qP c d)))), (0, .ref rx), (1, .int (z_i a)), (2, .int (z_i b)), (3, .int (z_i c)), (4, .int (z_i d))] d_R_chanceToRoll_38 (by decide) rfl ?_
      refine J_aload_n E 1 d_R_chanceToRoll_40 rfl rfl ?_
      refine g_R_11 E 0 rfl rfl d_R_chanceToRoll_41 ?_
      refine J_iload E 0 d_R_chanceToRoll_44 rfl ?_
      refine J_lald E 1 rfl (by decide) (qX_in ha hb hc hd) d_R_chanceToRoll_46 ?_
      refine J_lconst (a := 0) E d_R_chanceToRoll_47 (by decide) ?_
      refine J_lcmp E d_R_chanceToRoll_48 ⟨⟨by omega, by omega⟩, by omega, by omega⟩ ?_
      refine J_if_ne E 70 d_R_chanceToRoll_49 (by decide) (z_cmp_r _ _) (fun h49 => ?_) (fun h49 => ?_)
      · have hne := mt z_cmp_0.mpr h49
        refine J_aload_n E 1 d_R_chanceToRoll_70 rfl rfl ?_
        refine g_R_11 E 0 rfl rfl d_R_chanceToRoll_71 ?_
        refine J_iload E 0 d_R_chanceToRoll_74 rfl ?_
        refine J_lald E 1 rfl (by decide) (qX_in ha hb hc hd) d_R_chanceToRoll_76 ?_
        refine J_lconst (a := 1) E d_R_chanceToRoll_77 (by decide) ?_
        refine J_lsub E d_R_chanceToRoll_78 ?_
        exact J_lreturn E F (by omega) ⟨kno, hmm, rfl⟩ d_R_chanceToRoll_79
      · have he0 := z_cmp_0.mp h49
        refine J_aload_n E 1 d_R_chanceToRoll_52 rfl rfl ?_
        refine g_R_11 E 0 rfl rfl d_R_chanceToRoll_53 ?_
        refine J_iload E 0 d_R_chanceToRoll_56 rfl ?_
        refine J_lconst (a := 1) E d_R_chanceToRoll_58 (by decide) ?_
        refine J_aload_n E 1 d_R_chanceToRoll_59 rfl rfl ?_
        refine J_iload_n E 2 d_R_chanceToRoll_60 rfl rfl ?_
        refine J_iload_n E 3 d_R_chanceToRoll_61 rfl rfl ?_
        refine J_iload_n E 4 d_R_chanceToRoll_62 rfl rfl ?_
        refine J_iload E 5 d_R_chanceToRoll_63 rfl ?_
        refine J_callV (wr := []) (rest := [.long (z_l 1), .int (z_i (((qP a b) * 15) + (qP c d))), .ref kn]) E kb_R_meanOfRolls t_2_51 t_2_53 ts_R_meanOfRolls (hM (by omega) L rx kn kno a b c d hmm ha hb hc hd (by omega) (by omega)) (fun h => h) (Rm_h (by omega) (by decide)) [0, 1] [] rfl rfl rfl rfl (by decide) 0 rfl rfl rfl rfl (Nat.le_of_ble_eq_true rfl) d_R_chanceToRoll_65 (fun w' hw => ?_)
        obtain ⟨kq1, hq1, hw⟩ := hw
        obtain rfl : w' = [(rx, .inr (2, [.ref kn])), (kn, aL L 225 kq1)] := hw
        show J L X 6 0 0 [(rx, .inr (2, [.ref kn])), (kn, aL L 225 kq1)] [(5, .int (z_i (((qP a b) * 15) + (qP c d)))), (0, .ref rx), (1, .int (z_i a)), (2, .int (z_i b)), (3, .int (z_i c)), (4, .int (z_i d))] [.long (z_l (qC a b c d)), .long (z_l 1), .int (z_i (((qP a b) * 15) + (qP c d))), .ref kn] 68
        refine J_ladd E d_R_chanceToRoll_68 ?_
        refine J_last E 1 [(rx, .inr (2, [.ref kn])), (kn, aL L 225 (z_u kq1 (((qP a b) * 15) + (qP c d)) (1 + (qC a b c d))))] rfl rfl (by decide) (qX_in ha hb hc hd) d_R_chanceToRoll_69 ?_
        refine J_aload_n E 1 d_R_chanceToRoll_70 rfl rfl ?_
        refine g_R_11 E 0 rfl rfl d_R_chanceToRoll_71 ?_
        refine J_iload E 0 d_R_chanceToRoll_74 rfl ?_
        refine J_lald E 1 rfl (by decide) (qX_in ha hb hc hd) d_R_chanceToRoll_76 ?_
        refine J_lconst (a := 1) E d_R_chanceToRoll_77 (by decide) ?_
        refine J_lsub E d_R_chanceToRoll_78 ?_
        exact J_lreturn E F (by rw [z_us]; omega) ⟨_, mm_set hq1 ha hb hc hd, rfl⟩ d_R_chanceToRoll_79
    · refine J_iload_n E 2 d_R_chanceToRoll_15 rfl rfl ?_
      refine J_if_ne E 23 d_R_chanceToRoll_16 (by decide) (by exact ⟨by omega, by omega⟩) (fun h16 => ?_) (fun h16 => ?_)
      · refine J_iload_n E 1 d_R_chanceToRoll_23 rfl rfl ?_
        refine J_iload_n E 2 d_R_chanceToRoll_24 rfl rfl ?_
        refine J_callS (wr := [(rx, .inr (2, [.ref kn])), (kn, aL L 225 kno)]) (rest := []) E kb_R_pairNumber t_2_46 t_2_47 (c_R_pairNumber L a b ha hb) (fun h => h) (Rm_h (by omega) (by decide)) [] [0, 1] rfl rfl rfl rfl (by decide) rfl rfl (Nat.le_of_ble_eq_true rfl) d_R_chanceToRoll_25 (fun w' hw => ?_)
        obtain rfl : w' = [] := hw
        show J L X 6 0 0 [(rx, .inr (2, [.ref kn])), (kn, aL L 225 kno)] [(0, .ref rx), (1, .int (z_i a)), (2, .int (z_i b)), (3, .int (z_i c)), (4, .int (z_i d))] [.int (z_i (qP a b))] 28
        refine J_bipush E d_R_chanceToRoll_28 (by decide) ?_
        refine J_imul E d_R_chanceToRoll_30 ?_
        refine J_iload_n E 3 d_R_chanceToRoll_31 rfl rfl ?_
        refine J_iload E 4 d_R_chanceToRoll_32 rfl ?_
        refine J_callS (wr := [(rx, .inr (2, [.ref kn])), (kn, aL L 225 kno)]) (rest := [.int (z_i ((qP a b) * 15))]) E kb_R_pairNumber t_2_46 t_2_47 (c_R_pairNumber L c d hc hd) (fun h => h) (Rm_h (by omega) (by decide)) [] [0, 1] rfl rfl rfl rfl (by decide) rfl rfl (Nat.le_of_ble_eq_true rfl) d_R_chanceToRoll_34 (fun w' hw => ?_)
        obtain rfl : w' = [] := hw
        show J L X 6 0 0 [(rx, .inr (2, [.ref kn])), (kn, aL L 225 kno)] [(0, .ref rx), (1, .int (z_i a)), (2, .int (z_i b)), (3, .int (z_i c)), (4, .int (z_i d))] [.int (z_i (qP c d)), .int (z_i ((qP a b) * 15))] 37
        refine J_iadd E d_R_chanceToRoll_37 ?_
        refine J_istore E [(5, .int (z_i (((qP a b) * 15) + (qP c d)))), (0, .ref rx), (1, .int (z_i a)), (2, .int (z_i b)), (3, .int (z_i c)), (4, .int (z_i d))] d_R_chanceToRoll_38 (by decide) rfl ?_
        refine J_aload_n E 1 d_R_chanceToRoll_40 rfl rfl ?_
        refine g_R_11 E 0 rfl rfl d_R_chanceToRoll_41 ?_
        refine J_iload E 0 d_R_chanceToRoll_44 rfl ?_
        refine J_lald E 1 rfl (by decide) (qX_in ha hb hc hd) d_R_chanceToRoll_46 ?_
        refine J_lconst (a := 0) E d_R_chanceToRoll_47 (by decide) ?_
        refine J_lcmp E d_R_chanceToRoll_48 ⟨⟨by omega, by omega⟩, by omega, by omega⟩ ?_
        refine J_if_ne E 70 d_R_chanceToRoll_49 (by decide) (z_cmp_r _ _) (fun h49 => ?_) (fun h49 => ?_)
        · have hne := mt z_cmp_0.mpr h49
          refine J_aload_n E 1 d_R_chanceToRoll_70 rfl rfl ?_
          refine g_R_11 E 0 rfl rfl d_R_chanceToRoll_71 ?_
          refine J_iload E 0 d_R_chanceToRoll_74 rfl ?_
          refine J_lald E 1 rfl (by decide) (qX_in ha hb hc hd) d_R_chanceToRoll_76 ?_
          refine J_lconst (a := 1) E d_R_chanceToRoll_77 (by decide) ?_
          refine J_lsub E d_R_chanceToRoll_78 ?_
          exact J_lreturn E F (by omega) ⟨kno, hmm, rfl⟩ d_R_chanceToRoll_79
        · have he0 := z_cmp_0.mp h49
          refine J_aload_n E 1 d_R_chanceToRoll_52 rfl rfl ?_
          refine g_R_11 E 0 rfl rfl d_R_chanceToRoll_53 ?_
          refine J_iload E 0 d_R_chanceToRoll_56 rfl ?_
          refine J_lconst (a := 1) E d_R_chanceToRoll_58 (by decide) ?_
          refine J_aload_n E 1 d_R_chanceToRoll_59 rfl rfl ?_
          refine J_iload_n E 2 d_R_chanceToRoll_60 rfl rfl ?_
          refine J_iload_n E 3 d_R_chanceToRoll_61 rfl rfl ?_
          refine J_iload_n E 4 d_R_chanceToRoll_62 rfl rfl ?_
          refine J_iload E 5 d_R_chanceToRoll_63 rfl ?_
          refine J_callV (wr := []) (rest := [.long (z_l 1), .int (z_i (((qP a b) * 15) + (qP c d))), .ref kn]) E kb_R_meanOfRolls t_2_51 t_2_53 ts_R_meanOfRolls (hM (by omega) L rx kn kno a b c d hmm ha hb hc hd (by omega) (by omega)) (fun h => h) (Rm_h (by omega) (by decide)) [0, 1] [] rfl rfl rfl rfl (by decide) 0 rfl rfl rfl rfl (Nat.le_of_ble_eq_true rfl) d_R_chanceToRoll_65 (fun w' hw => ?_)
          obtain ⟨kq2, hq2, hw⟩ := hw
          obtain rfl : w' = [(rx, .inr (2, [.ref kn])), (kn, aL L 225 kq2)] := hw
          show J L X 6 0 0 [(rx, .inr (2, [.ref kn])), (kn, aL L 225 kq2)] [(5, .int (z_i (((qP a b) * 15) + (qP c d)))), (0, .ref rx), (1, .int (z_i a)), (2, .int (z_i b)), (3, .int (z_i c)), (4, .int (z_i d))] [.long (z_l (qC a b c d)), .long (z_l 1), .int (z_i (((qP a b) * 15) + (qP c d))), .ref kn] 68
          refine J_ladd E d_R_chanceToRoll_68 ?_
          refine J_last E 1 [(rx, .inr (2, [.ref kn])), (kn, aL L 225 (z_u kq2 (((qP a b) * 15) + (qP c d)) (1 + (qC a b c d))))] rfl rfl (by decide) (qX_in ha hb hc hd) d_R_chanceToRoll_69 ?_
          refine J_aload_n E 1 d_R_chanceToRoll_70 rfl rfl ?_
          refine g_R_11 E 0 rfl rfl d_R_chanceToRoll_71 ?_
          refine J_iload E 0 d_R_chanceToRoll_74 rfl ?_
          refine J_lald E 1 rfl (by decide) (qX_in ha hb hc hd) d_R_chanceToRoll_76 ?_
          refine J_lconst (a := 1) E d_R_chanceToRoll_77 (by decide) ?_
          refine J_lsub E d_R_chanceToRoll_78 ?_
          exact J_lreturn E F (by rw [z_us]; omega) ⟨_, mm_set hq2 ha hb hc hd, rfl⟩ d_R_chanceToRoll_79
      · refine J_ldc2 (a := 2176782336) E t_2_45 d_R_chanceToRoll_19 ?_
        exact J_lreturn E F (qC_w hc hd h12 h16 (by omega)) ⟨kno, hmm, rfl⟩ d_R_chanceToRoll_22
  · refine J_iload E 4 d_R_chanceToRoll_4 rfl ?_
    refine J_if_ne E 11 d_R_chanceToRoll_6 (by decide) (by exact ⟨by omega, by omega⟩) (fun h6 => ?_) (fun h6 => ?_)
    · refine J_iload_n E 1 d_R_chanceToRoll_11 rfl rfl ?_
      refine J_if_ne E 23 d_R_chanceToRoll_12 (by decide) (by exact ⟨by omega, by omega⟩) (fun h12 => ?_) (fun h12 => ?_)
      · refine J_iload_n E 1 d_R_chanceToRoll_23 rfl rfl ?_
        refine J_iload_n E 2 d_R_chanceToRoll_24 rfl rfl ?_
        refine J_callS (wr := [(rx, .inr (2, [.ref kn])), (kn, aL L 225 kno)]) (rest := []) E kb_R_pairNumber t_2_46 t_2_47 (c_R_pairNumber L a b ha hb) (fun h => h) (Rm_h (by omega) (by decide)) [] [0, 1] rfl rfl rfl rfl (by decide) rfl rfl (Nat.le_of_ble_eq_true rfl) d_R_chanceToRoll_25 (fun w' hw => ?_)
        obtain rfl : w' = [] := hw
        show J L X 6 0 0 [(rx, .inr (2, [.ref kn])), (kn, aL L 225 kno)] [(0, .ref rx), (1, .int (z_i a)), (2, .int (z_i b)), (3, .int (z_i c)), (4, .int (z_i d))] [.int (z_i (qP a b))] 28
        refine J_bipush E d_R_chanceToRoll_28 (by decide) ?_
        refine J_imul E d_R_chanceToRoll_30 ?_
        refine J_iload_n E 3 d_R_chanceToRoll_31 rfl rfl ?_
        refine J_iload E 4 d_R_chanceToRoll_32 rfl ?_
        refine J_callS (wr := [(rx, .inr (2, [.ref kn])), (kn, aL L 225 kno)]) (rest := [.int (z_i ((qP a b) * 15))]) E kb_R_pairNumber t_2_46 t_2_47 (c_R_pairNumber L c d hc hd) (fun h => h) (Rm_h (by omega) (by decide)) [] [0, 1] rfl rfl rfl rfl (by decide) rfl rfl (Nat.le_of_ble_eq_true rfl) d_R_chanceToRoll_34 (fun w' hw => ?_)
        obtain rfl : w' = [] := hw
        show J L X 6 0 0 [(rx, .inr (2, [.ref kn])), (kn, aL L 225 kno)] [(0, .ref rx), (1, .int (z_i a)), (2, .int (z_i b)), (3, .int (z_i c)), (4, .int (z_i d))] [.int (z_i (qP c d)), .int (z_i ((qP a b) * 15))] 37
        refine J_iadd E d_R_chanceToRoll_37 ?_
        refine J_istore E [(5, .int (z_i (((qP a b) * 15) + (qP c d)))), (0, .ref rx), (1, .int (z_i a)), (2, .int (z_i b)), (3, .int (z_i c)), (4, .int (z_i d))] d_R_chanceToRoll_38 (by decide) rfl ?_
        refine J_aload_n E 1 d_R_chanceToRoll_40 rfl rfl ?_
        refine g_R_11 E 0 rfl rfl d_R_chanceToRoll_41 ?_
        refine J_iload E 0 d_R_chanceToRoll_44 rfl ?_
        refine J_lald E 1 rfl (by decide) (qX_in ha hb hc hd) d_R_chanceToRoll_46 ?_
        refine J_lconst (a := 0) E d_R_chanceToRoll_47 (by decide) ?_
        refine J_lcmp E d_R_chanceToRoll_48 ⟨⟨by omega, by omega⟩, by omega, by omega⟩ ?_
        refine J_if_ne E 70 d_R_chanceToRoll_49 (by decide) (z_cmp_r _ _) (fun h49 => ?_) (fun h49 => ?_)
        · have hne := mt z_cmp_0.mpr h49
          refine J_aload_n E 1 d_R_chanceToRoll_70 rfl rfl ?_
          refine g_R_11 E 0 rfl rfl d_R_chanceToRoll_71 ?_
          refine J_iload E 0 d_R_chanceToRoll_74 rfl ?_
          refine J_lald E 1 rfl (by decide) (qX_in ha hb hc hd) d_R_chanceToRoll_76 ?_
          refine J_lconst (a := 1) E d_R_chanceToRoll_77 (by decide) ?_
          refine J_lsub E d_R_chanceToRoll_78 ?_
          exact J_lreturn E F (by omega) ⟨kno, hmm, rfl⟩ d_R_chanceToRoll_79
        · have he0 := z_cmp_0.mp h49
          refine J_aload_n E 1 d_R_chanceToRoll_52 rfl rfl ?_
          refine g_R_11 E 0 rfl rfl d_R_chanceToRoll_53 ?_
          refine J_iload E 0 d_R_chanceToRoll_56 rfl ?_
          refine J_lconst (a := 1) E d_R_chanceToRoll_58 (by decide) ?_
          refine J_aload_n E 1 d_R_chanceToRoll_59 rfl rfl ?_
          refine J_iload_n E 2 d_R_chanceToRoll_60 rfl rfl ?_
          refine J_iload_n E 3 d_R_chanceToRoll_61 rfl rfl ?_
          refine J_iload_n E 4 d_R_chanceToRoll_62 rfl rfl ?_
          refine J_iload E 5 d_R_chanceToRoll_63 rfl ?_
          refine J_callV (wr := []) (rest := [.long (z_l 1), .int (z_i (((qP a b) * 15) + (qP c d))), .ref kn]) E kb_R_meanOfRolls t_2_51 t_2_53 ts_R_meanOfRolls (hM (by omega) L rx kn kno a b c d hmm ha hb hc hd (by omega) (by omega)) (fun h => h) (Rm_h (by omega) (by decide)) [0, 1] [] rfl rfl rfl rfl (by decide) 0 rfl rfl rfl rfl (Nat.le_of_ble_eq_true rfl) d_R_chanceToRoll_65 (fun w' hw => ?_)
          obtain ⟨kq3, hq3, hw⟩ := hw
          obtain rfl : w' = [(rx, .inr (2, [.ref kn])), (kn, aL L 225 kq3)] := hw
          show J L X 6 0 0 [(rx, .inr (2, [.ref kn])), (kn, aL L 225 kq3)] [(5, .int (z_i (((qP a b) * 15) + (qP c d)))), (0, .ref rx), (1, .int (z_i a)), (2, .int (z_i b)), (3, .int (z_i c)), (4, .int (z_i d))] [.long (z_l (qC a b c d)), .long (z_l 1), .int (z_i (((qP a b) * 15) + (qP c d))), .ref kn] 68
          refine J_ladd E d_R_chanceToRoll_68 ?_
          refine J_last E 1 [(rx, .inr (2, [.ref kn])), (kn, aL L 225 (z_u kq3 (((qP a b) * 15) + (qP c d)) (1 + (qC a b c d))))] rfl rfl (by decide) (qX_in ha hb hc hd) d_R_chanceToRoll_69 ?_
          refine J_aload_n E 1 d_R_chanceToRoll_70 rfl rfl ?_
          refine g_R_11 E 0 rfl rfl d_R_chanceToRoll_71 ?_
          refine J_iload E 0 d_R_chanceToRoll_74 rfl ?_
          refine J_lald E 1 rfl (by decide) (qX_in ha hb hc hd) d_R_chanceToRoll_76 ?_
          refine J_lconst (a := 1) E d_R_chanceToRoll_77 (by decide) ?_
          refine J_lsub E d_R_chanceToRoll_78 ?_
          exact J_lreturn E F (by rw [z_us]; omega) ⟨_, mm_set hq3 ha hb hc hd, rfl⟩ d_R_chanceToRoll_79
      · refine J_iload_n E 2 d_R_chanceToRoll_15 rfl rfl ?_
        refine J_if_ne E 23 d_R_chanceToRoll_16 (by decide) (by exact ⟨by omega, by omega⟩) (fun h16 => ?_) (fun h16 => ?_)
        · refine J_iload_n E 1 d_R_chanceToRoll_23 rfl rfl ?_
          refine J_iload_n E 2 d_R_chanceToRoll_24 rfl rfl ?_
          refine J_callS (wr := [(rx, .inr (2, [.ref kn])), (kn, aL L 225 kno)]) (rest := []) E kb_R_pairNumber t_2_46 t_2_47 (c_R_pairNumber L a b ha hb) (fun h => h) (Rm_h (by omega) (by decide)) [] [0, 1] rfl rfl rfl rfl (by decide) rfl rfl (Nat.le_of_ble_eq_true rfl) d_R_chanceToRoll_25 (fun w' hw => ?_)
          obtain rfl : w' = [] := hw
          show J L X 6 0 0 [(rx, .inr (2, [.ref kn])), (kn, aL L 225 kno)] [(0, .ref rx), (1, .int (z_i a)), (2, .int (z_i b)), (3, .int (z_i c)), (4, .int (z_i d))] [.int (z_i (qP a b))] 28
          refine J_bipush E d_R_chanceToRoll_28 (by decide) ?_
          refine J_imul E d_R_chanceToRoll_30 ?_
          refine J_iload_n E 3 d_R_chanceToRoll_31 rfl rfl ?_
          refine J_iload E 4 d_R_chanceToRoll_32 rfl ?_
          refine J_callS (wr := [(rx, .inr (2, [.ref kn])), (kn, aL L 225 kno)]) (rest := [.int (z_i ((qP a b) * 15))]) E kb_R_pairNumber t_2_46 t_2_47 (c_R_pairNumber L c d hc hd) (fun h => h) (Rm_h (by omega) (by decide)) [] [0, 1] rfl rfl rfl rfl (by decide) rfl rfl (Nat.le_of_ble_eq_true rfl) d_R_chanceToRoll_34 (fun w' hw => ?_)
          obtain rfl : w' = [] := hw
          show J L X 6 0 0 [(rx, .inr (2, [.ref kn])), (kn, aL L 225 kno)] [(0, .ref rx), (1, .int (z_i a)), (2, .int (z_i b)), (3, .int (z_i c)), (4, .int (z_i d))] [.int (z_i (qP c d)), .int (z_i ((qP a b) * 15))] 37
          refine J_iadd E d_R_chanceToRoll_37 ?_
          refine J_istore E [(5, .int (z_i (((qP a b) * 15) + (qP c d)))), (0, .ref rx), (1, .int (z_i a)), (2, .int (z_i b)), (3, .int (z_i c)), (4, .int (z_i d))] d_R_chanceToRoll_38 (by decide) rfl ?_
          refine J_aload_n E 1 d_R_chanceToRoll_40 rfl rfl ?_
          refine g_R_11 E 0 rfl rfl d_R_chanceToRoll_41 ?_
          refine J_iload E 0 d_R_chanceToRoll_44 rfl ?_
          refine J_lald E 1 rfl (by decide) (qX_in ha hb hc hd) d_R_chanceToRoll_46 ?_
          refine J_lconst (a := 0) E d_R_chanceToRoll_47 (by decide) ?_
          refine J_lcmp E d_R_chanceToRoll_48 ⟨⟨by omega, by omega⟩, by omega, by omega⟩ ?_
          refine J_if_ne E 70 d_R_chanceToRoll_49 (by decide) (z_cmp_r _ _) (fun h49 => ?_) (fun h49 => ?_)
          · have hne := mt z_cmp_0.mpr h49
            refine J_aload_n E 1 d_R_chanceToRoll_70 rfl rfl ?_
            refine g_R_11 E 0 rfl rfl d_R_chanceToRoll_71 ?_
            refine J_iload E 0 d_R_chanceToRoll_74 rfl ?_
            refine J_lald E 1 rfl (by decide) (qX_in ha hb hc hd) d_R_chanceToRoll_76 ?_
            refine J_lconst (a := 1) E d_R_chanceToRoll_77 (by decide) ?_
            refine J_lsub E d_R_chanceToRoll_78 ?_
            exact J_lreturn E F (by omega) ⟨kno, hmm, rfl⟩ d_R_chanceToRoll_79
          · have he0 := z_cmp_0.mp h49
            refine J_aload_n E 1 d_R_chanceToRoll_52 rfl rfl ?_
            refine g_R_11 E 0 rfl rfl d_R_chanceToRoll_53 ?_
            refine J_iload E 0 d_R_chanceToRoll_56 rfl ?_
            refine J_lconst (a := 1) E d_R_chanceToRoll_58 (by decide) ?_
            refine J_aload_n E 1 d_R_chanceToRoll_59 rfl rfl ?_
            refine J_iload_n E 2 d_R_chanceToRoll_60 rfl rfl ?_
            refine J_iload_n E 3 d_R_chanceToRoll_61 rfl rfl ?_
            refine J_iload_n E 4 d_R_chanceToRoll_62 rfl rfl ?_
            refine J_iload E 5 d_R_chanceToRoll_63 rfl ?_
            refine J_callV (wr := []) (rest := [.long (z_l 1), .int (z_i (((qP a b) * 15) + (qP c d))), .ref kn]) E kb_R_meanOfRolls t_2_51 t_2_53 ts_R_meanOfRolls (hM (by omega) L rx kn kno a b c d hmm ha hb hc hd (by omega) (by omega)) (fun h => h) (Rm_h (by omega) (by decide)) [0, 1] [] rfl rfl rfl rfl (by decide) 0 rfl rfl rfl rfl (Nat.le_of_ble_eq_true rfl) d_R_chanceToRoll_65 (fun w' hw => ?_)
            obtain ⟨kq4, hq4, hw⟩ := hw
            obtain rfl : w' = [(rx, .inr (2, [.ref kn])), (kn, aL L 225 kq4)] := hw
            show J L X 6 0 0 [(rx, .inr (2, [.ref kn])), (kn, aL L 225 kq4)] [(5, .int (z_i (((qP a b) * 15) + (qP c d)))), (0, .ref rx), (1, .int (z_i a)), (2, .int (z_i b)), (3, .int (z_i c)), (4, .int (z_i d))] [.long (z_l (qC a b c d)), .long (z_l 1), .int (z_i (((qP a b) * 15) + (qP c d))), .ref kn] 68
            refine J_ladd E d_R_chanceToRoll_68 ?_
            refine J_last E 1 [(rx, .inr (2, [.ref kn])), (kn, aL L 225 (z_u kq4 (((qP a b) * 15) + (qP c d)) (1 + (qC a b c d))))] rfl rfl (by decide) (qX_in ha hb hc hd) d_R_chanceToRoll_69 ?_
            refine J_aload_n E 1 d_R_chanceToRoll_70 rfl rfl ?_
            refine g_R_11 E 0 rfl rfl d_R_chanceToRoll_71 ?_
            refine J_iload E 0 d_R_chanceToRoll_74 rfl ?_
            refine J_lald E 1 rfl (by decide) (qX_in ha hb hc hd) d_R_chanceToRoll_76 ?_
            refine J_lconst (a := 1) E d_R_chanceToRoll_77 (by decide) ?_
            refine J_lsub E d_R_chanceToRoll_78 ?_
            exact J_lreturn E F (by rw [z_us]; omega) ⟨_, mm_set hq4 ha hb hc hd, rfl⟩ d_R_chanceToRoll_79
        · refine J_ldc2 (a := 2176782336) E t_2_45 d_R_chanceToRoll_19 ?_
          exact J_lreturn E F (qC_w hc hd h12 h16 (by omega)) ⟨kno, hmm, rfl⟩ d_R_chanceToRoll_22
    · refine J_lconst (a := 0) E d_R_chanceToRoll_9 (by decide) ?_
      exact J_lreturn E F (qC_z ha hb h1 h6) ⟨kno, hmm, rfl⟩ d_R_chanceToRoll_10
theorem c_BW {N : Nat} (hC : CHc N) : ∀ t : Nat, t ≤ 4 → BWc N t
  | 0, h => fun L rx kn kno a b c d die tt hmm ha hb hc hd hdie htt hok => c_R_bestWithEqual_s L N 0 hC (fun h => absurd h (Nat.lt_irrefl 0)) rx kn kno a b c d die tt hmm ha hb hc hd hdie htt h hok
  | t + 1, h => fun L rx kn kno a b c d die tt hmm ha hb hc hd hdie htt hok => c_R_bestWithEqual_s L N (t + 1) hC (fun _ => c_BW hC t (by omega)) rx kn kno a b c d die tt hmm ha hb hc hd hdie htt h hok
theorem c_IO {N : Nat} (hC : CHc N) : IOc N := fun L rx kn kno a b c d x y hmm ha hb hc hd hx hy hok => c_R_bestInOrder_s L N (c_BW hC 1 (by decide)) rx kn kno a b c d x y hmm ha hb hc hd hx hy hok
theorem c_ME {N : Nat} (hC : CHc N) : MEc N := fun L rx kn kno a b c d hmm ha hb hc hd hcd hok => c_R_meanOfRolls_s L N (c_BW hC 4 (by decide)) (c_IO hC) rx kn kno a b c d hmm ha hb hc hd hcd hok
theorem c_CH : ∀ N : Nat, CHc N
  | 0 => fun L rx kn kno a b c d hmm ha hb hc hd hok => c_R_chanceToRoll_s L 0 (fun h => absurd h (Nat.lt_irrefl 0)) rx kn kno a b c d hmm ha hb hc hd hok
  | N + 1 => fun L rx kn kno a b c d hmm ha hb hc hd hok => c_R_chanceToRoll_s L (N + 1) (fun _ => c_ME (c_CH N)) rx kn kno a b c d hmm ha hb hc hd hok
set_option maxHeartbeats 4000000 in
set_option maxRecDepth 100000 in
theorem c_T_chance (L : Lx) (tm sc bo ra r0 r1 ho di rx kn : Nat) (gr : Nat → Option Nat) (len stg mv stk hol cn cs : Int) (sco b0 b1 : Int → Int) (us pl ct : Int) (dice kno : Int → Int) (hi lo hs ls : Int) (a b c d : Int) (g0 : gr 0 = some r0) (g1 : gr 1 = some r1) (hS : st_ok (len, stg, mv, stk, hol, cn, cs, sco, b0, b1, hi, lo, hs, ls)) (hH : hd_ok stg mv b0 b1 hi lo hs ls dice us pl ct) (hmm : mm_ok kno) (ha : z_r a) (hb : z_r b) (hc : z_r c) (hd : z_r d) : CtG L y_T_chance b_T_chance 5 (some .long) (rmh 117) false 0 0 [.ref tm, .int (z_i a), .int (z_i b), .int (z_i c), .int (z_i d)] [(tm, .inr (3, [.int (z_i len), .ref sc, .ref bo, .ref ho, .ref rx, .int (z_i stg), .int (z_i mv), .int (z_i stk), .int (z_i hol), .int (z_i cn), .int (z_i cs)])), (sc, aI L 2 sco), (bo, .inr (0, [.ref ra])), (ra, aR L 2 gr), (r0, aI L 26 b0), (r1, aI L 26 b1), (ho, .inr (1, [.ref di, .int (z_i us), .ref bo, .int (z_i pl), .int (z_i ct)])), (di, aI L 7 dice), (rx, .inr (2, [.ref kn])), (kn, aL L 225 kno)] (RC L tm sc bo ra r0 r1 ho di rx kn gr (len, stg, mv, stk, hol, cn, cs, sco, b0, b1, hi, lo, hs, ls)) (some (.long (z_l (m_chance a b c d)))) := by
  obtain ⟨hlen, hstg, hmv, hstk, hhol, hcn, hcs, hsc, hsl, hb0, hb1, hdk⟩ := hS
  refine CtG.of rfl (Nat.le_of_ble_eq_true rfl) (fun X E F => ?_)
  show J L X 5 0 0 [(tm, .inr (3, [.int (z_i len), .ref sc, .ref bo, .ref ho, .ref rx, .int (z_i stg), .int (z_i mv), .int (z_i stk), .int (z_i hol), .int (z_i cn), .int (z_i cs)])), (sc, aI L 2 sco), (bo, .inr (0, [.ref ra])), (ra, aR L 2 gr), (r0, aI L 26 b0), (r1, aI L 26 b1), (ho, .inr (1, [.ref di, .int (z_i us), .ref bo, .int (z_i pl), .int (z_i ct)])), (di, aI L 7 dice), (rx, .inr (2, [.ref kn])), (kn, aL L 225 kno)] [(0, .ref tm), (1, .int (z_i a)), (2, .int (z_i b)), (3, .int (z_i c)), (4, .int (z_i d))] [] 0
  refine J_iload_n E 1 d_T_chance_0 rfl rfl ?_
  refine J_callS (wr := [(tm, .inr (3, [.int (z_i len), .ref sc, .ref bo, .ref ho, .ref rx, .int (z_i stg), .int (z_i mv), .int (z_i stk), .int (z_i hol), .int (z_i cn), .int (z_i cs)])), (sc, aI L 2 sco), (bo, .inr (0, [.ref ra])), (ra, aR L 2 gr), (r0, aI L 26 b0), (r1, aI L 26 b1), (ho, .inr (1, [.ref di, .int (z_i us), .ref bo, .int (z_i pl), .int (z_i ct)])), (di, aI L 7 dice), (rx, .inr (2, [.ref kn])), (kn, aL L 225 kno)]) (rest := []) E kb_T_isRacePoint t_2_37 t_2_38 (c_T_isRacePoint L a ha) (fun h => h) (Rm_h (by decide) (by decide)) [] [0, 1, 2, 3, 4, 5, 6, 7, 8, 9] rfl rfl rfl rfl (by decide) rfl rfl (Nat.le_of_ble_eq_true rfl) d_T_chance_1 (fun w' hw => ?_)
  obtain rfl : w' = [] := hw
  show J L X 5 0 0 [(tm, .inr (3, [.int (z_i len), .ref sc, .ref bo, .ref ho, .ref rx, .int (z_i stg), .int (z_i mv), .int (z_i stk), .int (z_i hol), .int (z_i cn), .int (z_i cs)])), (sc, aI L 2 sco), (bo, .inr (0, [.ref ra])), (ra, aR L 2 gr), (r0, aI L 26 b0), (r1, aI L 26 b1), (ho, .inr (1, [.ref di, .int (z_i us), .ref bo, .int (z_i pl), .int (z_i ct)])), (di, aI L 7 dice), (rx, .inr (2, [.ref kn])), (kn, aL L 225 kno)] [(0, .ref tm), (1, .int (z_i a)), (2, .int (z_i b)), (3, .int (z_i c)), (4, .int (z_i d))] [.int (z_i (b2 (0 ≤ a ∧ a ≤ 4)))] 4
  refine J_if_eq E 29 d_T_chance_4 (by decide) (b2_r _) (fun h4 => ?_) (fun h4 => ?_)
  · have na := b2_not h4
    refine J_ldc2 (a := -1) E t_m1T d_T_chance_29 ?_
    exact J_lreturn E F (if_neg (by omega)).symm ⟨us, pl, ct, dice, kno, hH, hmm, rfl⟩ d_T_chance_32
  · have na := b2_of h4
    refine J_iload_n E 2 d_T_chance_7 rfl rfl ?_
    refine J_callS (wr := [(tm, .inr (3, [.int (z_i len), .ref sc, .ref bo, .ref ho, .ref rx, .int (z_i stg), .int (z_i mv), .int (z_i stk), .int (z_i hol), .int (z_i cn), .int (z_i cs)])), (sc, aI L 2 sco), (bo, .inr (0, [.ref ra])), (ra, aR L 2 gr), (r0, aI L 26 b0), (r1, aI L 26 b1), (ho, .inr (1, [.ref di, .int (z_i us), .ref bo, .int (z_i pl), .int (z_i ct)])), (di, aI L 7 dice), (rx, .inr (2, [.ref kn])), (kn, aL L 225 kno)]) (rest := []) E kb_T_isRacePoint t_2_37 t_2_38 (c_T_isRacePoint L b hb) (fun h => h) (Rm_h (by decide) (by decide)) [] [0, 1, 2, 3, 4, 5, 6, 7, 8, 9] rfl rfl rfl rfl (by decide) rfl rfl (Nat.le_of_ble_eq_true rfl) d_T_chance_8 (fun w' hw => ?_)
    obtain rfl : w' = [] := hw
    show J L X 5 0 0 [(tm, .inr (3, [.int (z_i len), .ref sc, .ref bo, .ref ho, .ref rx, .int (z_i stg), .int (z_i mv), .int (z_i stk), .int (z_i hol), .int (z_i cn), .int (z_i cs)])), (sc, aI L 2 sco), (bo, .inr (0, [.ref ra])), (ra, aR L 2 gr), (r0, aI L 26 b0), (r1, aI L 26 b1), (ho, .inr (1, [.ref di, .int (z_i us), .ref bo, .int (z_i pl), .int (z_i ct)])), (di, aI L 7 dice), (rx, .inr (2, [.ref kn])), (kn, aL L 225 kno)] [(0, .ref tm), (1, .int (z_i a)), (2, .int (z_i b)), (3, .int (z_i c)), (4, .int (z_i d))] [.int (z_i (b2 (0 ≤ b ∧ b ≤ 4)))] 11
    refine J_if_eq E 29 d_T_chance_11 (by decide) (b2_r _) (fun h11 => ?_) (fun h11 => ?_)
    · have nb := b2_not h11
      refine J_ldc2 (a := -1) E t_m1T d_T_chance_29 ?_
      exact J_lreturn E F (if_neg (by omega)).symm ⟨us, pl, ct, dice, kno, hH, hmm, rfl⟩ d_T_chance_32
    · have nb := b2_of h11
      refine J_iload_n E 3 d_T_chance_14 rfl rfl ?_
      refine J_callS (wr := [(tm, .inr (3, [.int (z_i len), .ref sc, .ref bo, .ref ho, .ref rx, .int (z_i stg), .int (z_i mv), .int (z_i stk), .int (z_i hol), .int (z_i cn), .int (z_i cs)])), (sc, aI L 2 sco), (bo, .inr (0, [.ref ra])), (ra, aR L 2 gr), (r0, aI L 26 b0), (r1, aI L 26 b1), (ho, .inr (1, [.ref di, .int (z_i us), .ref bo, .int (z_i pl), .int (z_i ct)])), (di, aI L 7 dice), (rx, .inr (2, [.ref kn])), (kn, aL L 225 kno)]) (rest := []) E kb_T_isRacePoint t_2_37 t_2_38 (c_T_isRacePoint L c hc) (fun h => h) (Rm_h (by decide) (by decide)) [] [0, 1, 2, 3, 4, 5, 6, 7, 8, 9] rfl rfl rfl rfl (by decide) rfl rfl (Nat.le_of_ble_eq_true rfl) d_T_chance_15 (fun w' hw => ?_)
      obtain rfl : w' = [] := hw
      show J L X 5 0 0 [(tm, .inr (3, [.int (z_i len), .ref sc, .ref bo, .ref ho, .ref rx, .int (z_i stg), .int (z_i mv), .int (z_i stk), .int (z_i hol), .int (z_i cn), .int (z_i cs)])), (sc, aI L 2 sco), (bo, .inr (0, [.ref ra])), (ra, aR L 2 gr), (r0, aI L 26 b0), (r1, aI L 26 b1), (ho, .inr (1, [.ref di, .int (z_i us), .ref bo, .int (z_i pl), .int (z_i ct)])), (di, aI L 7 dice), (rx, .inr (2, [.ref kn])), (kn, aL L 225 kno)] [(0, .ref tm), (1, .int (z_i a)), (2, .int (z_i b)), (3, .int (z_i c)), (4, .int (z_i d))] [.int (z_i (b2 (0 ≤ c ∧ c ≤ 4)))] 18
      refine J_if_eq E 29 d_T_chance_18 (by decide) (b2_r _) (fun h18 => ?_) (fun h18 => ?_)
      · have nc := b2_not h18
        refine J_ldc2 (a := -1) E t_m1T d_T_chance_29 ?_
        exact J_lreturn E F (if_neg (by omega)).symm ⟨us, pl, ct, dice, kno, hH, hmm, rfl⟩ d_T_chance_32
      · have nc := b2_of h18
        refine J_iload E 4 d_T_chance_21 rfl ?_
        refine J_callS (wr := [(tm, .inr (3, [.int (z_i len), .ref sc, .ref bo, .ref ho, .ref rx, .int (z_i stg), .int (z_i mv), .int (z_i stk), .int (z_i hol), .int (z_i cn), .int (z_i cs)])), (sc, aI L 2 sco), (bo, .inr (0, [.ref ra])), (ra, aR L 2 gr), (r0, aI L 26 b0), (r1, aI L 26 b1), (ho, .inr (1, [.ref di, .int (z_i us), .ref bo, .int (z_i pl), .int (z_i ct)])), (di, aI L 7 dice), (rx, .inr (2, [.ref kn])), (kn, aL L 225 kno)]) (rest := []) E kb_T_isRacePoint t_2_37 t_2_38 (c_T_isRacePoint L d hd) (fun h => h) (Rm_h (by decide) (by decide)) [] [0, 1, 2, 3, 4, 5, 6, 7, 8, 9] rfl rfl rfl rfl (by decide) rfl rfl (Nat.le_of_ble_eq_true rfl) d_T_chance_23 (fun w' hw => ?_)
        obtain rfl : w' = [] := hw
        show J L X 5 0 0 [(tm, .inr (3, [.int (z_i len), .ref sc, .ref bo, .ref ho, .ref rx, .int (z_i stg), .int (z_i mv), .int (z_i stk), .int (z_i hol), .int (z_i cn), .int (z_i cs)])), (sc, aI L 2 sco), (bo, .inr (0, [.ref ra])), (ra, aR L 2 gr), (r0, aI L 26 b0), (r1, aI L 26 b1), (ho, .inr (1, [.ref di, .int (z_i us), .ref bo, .int (z_i pl), .int (z_i ct)])), (di, aI L 7 dice), (rx, .inr (2, [.ref kn])), (kn, aL L 225 kno)] [(0, .ref tm), (1, .int (z_i a)), (2, .int (z_i b)), (3, .int (z_i c)), (4, .int (z_i d))] [.int (z_i (b2 (0 ≤ d ∧ d ≤ 4)))] 26
        refine J_if_ne E 33 d_T_chance_26 (by decide) (b2_r _) (fun h26 => ?_) (fun h26 => ?_)
        · have nd := b2_of h26
          refine J_aload_n E 0 d_T_chance_33 rfl rfl ?_
          refine g_T_32 E 0 rfl rfl d_T_chance_34 ?_
          refine J_iload_n E 1 d_T_chance_37 rfl rfl ?_
          refine J_iload_n E 2 d_T_chance_38 rfl rfl ?_
          refine J_iload_n E 3 d_T_chance_39 rfl rfl ?_
          refine J_iload E 4 d_T_chance_40 rfl ?_
          refine J_callVN (wr := [(tm, .inr (3, [.int (z_i len), .ref sc, .ref bo, .ref ho, .ref rx, .int (z_i stg), .int (z_i mv), .int (z_i stk), .int (z_i hol), .int (z_i cn), .int (z_i cs)])), (sc, aI L 2 sco), (bo, .inr (0, [.ref ra])), (ra, aR L 2 gr), (r0, aI L 26 b0), (r1, aI L 26 b1), (ho, .inr (1, [.ref di, .int (z_i us), .ref bo, .int (z_i pl), .int (z_i ct)])), (di, aI L 7 dice)]) (rest := []) E kb_R_chanceToRoll t_2_41 t_2_43 ts_R_chanceToRoll (c_CH 16 L rx kn kno a b c d hmm na nb nc nd (by omega)) (fun h => h) (Rm_h (by decide) (by decide)) [8, 9] [0, 1, 2, 3, 4, 5, 6, 7] rfl rfl rfl rfl (by decide) 0 rfl rfl rfl rfl (Nat.le_of_ble_eq_true rfl) d_T_chance_42 (fun w' hw => ?_)
          obtain ⟨kq, hq, hw⟩ := hw
          obtain rfl : w' = [(rx, .inr (2, [.ref kn])), (kn, aL L 225 kq)] := hw
          show J L X 5 0 0 [(tm, .inr (3, [.int (z_i len), .ref sc, .ref bo, .ref ho, .ref rx, .int (z_i stg), .int (z_i mv), .int (z_i stk), .int (z_i hol), .int (z_i cn), .int (z_i cs)])), (sc, aI L 2 sco), (bo, .inr (0, [.ref ra])), (ra, aR L 2 gr), (r0, aI L 26 b0), (r1, aI L 26 b1), (ho, .inr (1, [.ref di, .int (z_i us), .ref bo, .int (z_i pl), .int (z_i ct)])), (di, aI L 7 dice), (rx, .inr (2, [.ref kn])), (kn, aL L 225 kq)] [(0, .ref tm), (1, .int (z_i a)), (2, .int (z_i b)), (3, .int (z_i c)), (4, .int (z_i d))] [.long (z_l (qC a b c d))] 45
          exact J_lreturn E F (if_pos ⟨na, nb, nc, nd⟩).symm ⟨us, pl, ct, dice, kq, hH, hq, rfl⟩ d_T_chance_45
        · have nd := b2_not h26
          refine J_ldc2 (a := -1) E t_m1T d_T_chance_29 ?_
          exact J_lreturn E F (if_neg (by omega)).symm ⟨us, pl, ct, dice, kno, hH, hmm, rfl⟩ d_T_chance_32
