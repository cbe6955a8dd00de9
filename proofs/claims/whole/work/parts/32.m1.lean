theorem lk_step {gk bb : Int → Int} {p k : Int} (hr : ∀ x, 0 ≤ x → x < k → gk x = bb (26 * p + x) ∧ gk (26 + x) = bb (26 * (1 - p) + x)) (x : Int) (x1 : 0 ≤ x) (x2 : x < k + 1) (hk : 0 ≤ k) (hk2 : k < 26) : z_u (z_u gk (52 * 0 + k) (bb (26 * p + k))) (52 * 0 + 26 + k) (bb (26 * (1 - p) + k)) x = bb (26 * p + x) ∧ z_u (z_u gk (52 * 0 + k) (bb (26 * p + k))) (52 * 0 + 26 + k) (bb (26 * (1 - p) + k)) (26 + x) = bb (26 * (1 - p) + x) := by
  by_cases e : x = k
  · subst e
    constructor
    · rw [z_un (by omega), show (52 * 0 + x : Int) = x by omega, z_us]
    · rw [show (52 * 0 + 26 + x : Int) = 26 + x by omega, z_us]
  · have := hr x x1 (by omega)
    constructor
    · rw [z_un (by omega), z_un (by omega)]; exact this.1
    · rw [z_un (by omega), z_un (by omega)]; exact this.2
set_option maxHeartbeats 4000000 in
set_option maxRecDepth 100000 in
theorem c_M_allHome (L : Lx) (mo ms mb mt mf mc : Nat) (len stg mv stk hol cn cs hi lo hs ls du kw : Int) (sco bb tr fr chn : Int → Int) (l : Int) (hg : gb tr) (hl : 0 ≤ l ∧ l ≤ 4) : CtG L y_M_allHome b_M_allHome 3 (some .boolean) (rmh 1) false 0 0 [.ref mo, .int (z_i l)] [(mo, .inr (4, [.int (z_i len), .ref ms, .int (z_i stg), .int (z_i mv), .ref mb, .int (z_i stk), .int (z_i hol), .int (z_i cn), .int (z_i cs), .int (z_i hi), .int (z_i lo), .int (z_i hs), .int (z_i ls), .int (z_i du), .ref mt, .ref mf, .ref mc, .int (z_i kw)])), (ms, aI L 2 sco), (mb, aI L 52 bb), (mt, aI L 312 tr), (mf, aI L 6 fr), (mc, aL L 625 chn)] (fun u => u = [(mo, .inr (4, [.int (z_i len), .ref ms, .int (z_i stg), .int (z_i mv), .ref mb, .int (z_i stk), .int (z_i hol), .int (z_i cn), .int (z_i cs), .int (z_i hi), .int (z_i lo), .int (z_i hs), .int (z_i ls), .int (z_i du), .ref mt, .ref mf, .ref mc, .int (z_i kw)])), (ms, aI L 2 sco), (mb, aI L 52 bb), (mt, aI L 312 tr), (mf, aI L 6 fr), (mc, aL L 625 chn)]) (some (.int (z_i (b2 (∀ x, 7 ≤ x → x ≤ 25 → tr (52 * l + x) ≤ 0))))) := by
  refine CtG.of rfl (Nat.le_of_ble_eq_true rfl) (fun X E F => ?_)
  show J L X 3 0 0 [(mo, .inr (4, [.int (z_i len), .ref ms, .int (z_i stg), .int (z_i mv), .ref mb, .int (z_i stk), .int (z_i hol), .int (z_i cn), .int (z_i cs), .int (z_i hi), .int (z_i lo), .int (z_i hs), .int (z_i ls), .int (z_i du), .ref mt, .ref mf, .ref mc, .int (z_i kw)])), (ms, aI L 2 sco), (mb, aI L 52 bb), (mt, aI L 312 tr), (mf, aI L 6 fr), (mc, aL L 625 chn)] [(0, .ref mo), (1, .int (z_i l))] [] 0
  refine J_bipush E d_M_allHome_0 (by decide) ?_
  refine J_istore_n E [(2, .int (z_i 7)), (0, .ref mo), (1, .int (z_i l))] d_M_allHome_2 rfl (by decide) rfl ?_
  have C3 : ∀ (mm : Nat) (k : Int), (7 ≤ k ∧ k ≤ 26) → (∀ x, 7 ≤ x → x < k → tr (52 * l + x) ≤ 0) → (26 - k).toNat < mm → J L X 3 0 0 [(mo, .inr (4, [.int (z_i len), .ref ms, .int (z_i stg), .int (z_i mv), .ref mb, .int (z_i stk), .int (z_i hol), .int (z_i cn), .int (z_i cs), .int (z_i hi), .int (z_i lo), .int (z_i hs), .int (z_i ls), .int (z_i du), .ref mt, .ref mf, .ref mc, .int (z_i kw)])), (ms, aI L 2 sco), (mb, aI L 52 bb), (mt, aI L 312 tr), (mf, aI L 6 fr), (mc, aL L 625 chn)] [(2, .int (z_i k)), (0, .ref mo), (1, .int (z_i l))] [] 3 := by
    intro mm
    induction mm with
    | zero => intro k hk hr hme; exact absurd hme (Nat.not_lt_zero _)
    | succ mm ih3 =>
      intro k hk hr hme
      refine J_iload_n E 0 d_M_allHome_3 rfl rfl ?_
      refine J_bipush E d_M_allHome_4 (by decide) ?_
      refine J_icmp_ge E 31 d_M_allHome_6 (by decide) (by exact ⟨⟨by omega, by omega⟩, ⟨by omega, by omega⟩⟩) (fun h6 => ?_) (fun h6 => ?_)
      · refine J_iconst E d_M_allHome_31 ?_
        exact J_zreturn E F (by omega) (b2_t (fun x x1 x2 => hr x x1 (by omega))).symm rfl d_M_allHome_32
      · refine J_aload_n E 1 d_M_allHome_9 rfl rfl ?_
        refine g_M_23 E 0 rfl rfl d_M_allHome_10 ?_
        refine J_bipush E d_M_allHome_13 (by decide) ?_
        refine J_iload_n E 2 d_M_allHome_15 rfl rfl ?_
        refine J_imul E d_M_allHome_16 ?_
        refine J_iload_n E 0 d_M_allHome_17 rfl rfl ?_
        refine J_iadd E d_M_allHome_18 ?_
        refine J_iald E 3 rfl (by decide) (by exact ⟨by omega, by omega⟩) d_M_allHome_19 ?_
        refine J_if_le E 25 d_M_allHome_20 (by decide) (by have := hg ((52 * l) + k); exact ⟨by omega, by omega⟩) (fun h20 => ?_) (fun h20 => ?_)
        · refine J_iinc E 0 [(2, .int (z_i (k + 1))), (0, .ref mo), (1, .int (z_i l))] d_M_allHome_25 rfl (by decide) rfl ?_
          refine J_goto E 3 d_M_allHome_28 (by decide) ?_
          exact ih3 (k + 1) (by omega) (fun x x1 x2 => by rcases (show x = k ∨ x < k by omega) with e | e; (rw [e]; exact h20); exact hr x x1 e) (by omega)
        · refine J_iconst E d_M_allHome_23 ?_
          exact J_zreturn E F (by omega) (b2_f (fun q => by have := q k (by omega) (by omega); omega)).symm rfl d_M_allHome_24
  exact C3 _ 7 (by decide) (fun x x1 x2 => by omega) (Nat.lt_succ_self _)
set_option maxHeartbeats 4000000 in
set_option maxRecDepth 100000 in
theorem c_M_noneAbove (L : Lx) (mo ms mb mt mf mc : Nat) (len stg mv stk hol cn cs hi lo hs ls du kw : Int) (sco bb tr fr chn : Int → Int) (l pt : Int) (hg : gb tr) (hl : 0 ≤ l ∧ l ≤ 4) (hpt : 1 ≤ pt ∧ pt ≤ 25) : CtG L y_M_noneAbove b_M_noneAbove 4 (some .boolean) (rmh 1) false 0 0 [.ref mo, .int (z_i l), .int (z_i pt)] [(mo, .inr (4, [.int (z_i len), .ref ms, .int (z_i stg), .int (z_i mv), .ref mb, .int (z_i stk), .int (z_i hol), .int (z_i cn), .int (z_i cs), .int (z_i hi), .int (z_i lo), .int (z_i hs), .int (z_i ls), .int (z_i du), .ref mt, .ref mf, .ref mc, .int (z_i kw)])), (ms, aI L 2 sco), (mb, aI L 52 bb), (mt, aI L 312 tr), (mf, aI L 6 fr), (mc, aL L 625 chn)] (fun u => u = [(mo, .inr (4, [.int (z_i len), .ref ms, .int (z_i stg), .int (z_i mv), .ref mb, .int (z_i stk), .int (z_i hol), .int (z_i cn), .int (z_i cs), .int (z_i hi), .int (z_i lo), .int (z_i hs), .int (z_i ls), .int (z_i du), .ref mt, .ref mf, .ref mc, .int (z_i kw)])), (ms, aI L 2 sco), (mb, aI L 52 bb), (mt, aI L 312 tr), (mf, aI L 6 fr), (mc, aL L 625 chn)]) (some (.int (z_i (b2 (∀ x, pt < x → x ≤ 25 → tr (52 * l + x) ≤ 0))))) := by
  refine CtG.of rfl (Nat.le_of_ble_eq_true rfl) (fun X E F => ?_)
  show J L X 4 0 0 [(mo, .inr (4, [.int (z_i len), .ref ms, .int (z_i stg), .int (z_i mv), .ref mb, .int (z_i stk), .int (z_i hol), .int (z_i cn), .int (z_i cs), .int (z_i hi), .int (z_i lo), .int (z_i hs), .int (z_i ls), .int (z_i du), .ref mt, .ref mf, .ref mc, .int (z_i kw)])), (ms, aI L 2 sco), (mb, aI L 52 bb), (mt, aI L 312 tr), (mf, aI L 6 fr), (mc, aL L 625 chn)] [(0, .ref mo), (1, .int (z_i l)), (2, .int (z_i pt))] [] 0
  refine J_iload_n E 2 d_M_noneAbove_0 rfl rfl ?_
  refine J_iconst E d_M_noneAbove_1 ?_
  refine J_iadd E d_M_noneAbove_2 ?_
  refine J_istore_n E [(3, .int (z_i (pt + 1))), (0, .ref mo), (1, .int (z_i l)), (2, .int (z_i pt))] d_M_noneAbove_3 rfl (by decide) rfl ?_
  have C4 : ∀ (mm : Nat) (k : Int), (pt < k ∧ k ≤ 26) → (∀ x, pt < x → x < k → tr (52 * l + x) ≤ 0) → (26 - k).toNat < mm → J L X 4 0 0 [(mo, .inr (4, [.int (z_i len), .ref ms, .int (z_i stg), .int (z_i mv), .ref mb, .int (z_i stk), .int (z_i hol), .int (z_i cn), .int (z_i cs), .int (z_i hi), .int (z_i lo), .int (z_i hs), .int (z_i ls), .int (z_i du), .ref mt, .ref mf, .ref mc, .int (z_i kw)])), (ms, aI L 2 sco), (mb, aI L 52 bb), (mt, aI L 312 tr), (mf, aI L 6 fr), (mc, aL L 625 chn)] [(3, .int (z_i k)), (0, .ref mo), (1, .int (z_i l)), (2, .int (z_i pt))] [] 4 := by
    intro mm
    induction mm with
    | zero => intro k hk hr hme; exact absurd hme (Nat.not_lt_zero _)
    | succ mm ih4 =>
      intro k hk hr hme
      refine J_iload_n E 0 d_M_noneAbove_4 rfl rfl ?_
      refine J_bipush E d_M_noneAbove_5 (by decide) ?_
      refine J_icmp_ge E 32 d_M_noneAbove_7 (by decide) (by exact ⟨⟨by omega, by omega⟩, ⟨by omega, by omega⟩⟩) (fun h7 => ?_) (fun h7 => ?_)
      · refine J_iconst E d_M_noneAbove_32 ?_
        exact J_zreturn E F (by omega) (b2_t (fun x x1 x2 => hr x x1 (by omega))).symm rfl d_M_noneAbove_33
      · refine J_aload_n E 1 d_M_noneAbove_10 rfl rfl ?_
        refine g_M_23 E 0 rfl rfl d_M_noneAbove_11 ?_
        refine J_bipush E d_M_noneAbove_14 (by decide) ?_
        refine J_iload_n E 2 d_M_noneAbove_16 rfl rfl ?_
        refine J_imul E d_M_noneAbove_17 ?_
        refine J_iload_n E 0 d_M_noneAbove_18 rfl rfl ?_
        refine J_iadd E d_M_noneAbove_19 ?_
        refine J_iald E 3 rfl (by decide) (by exact ⟨by omega, by omega⟩) d_M_noneAbove_20 ?_
        refine J_if_le E 26 d_M_noneAbove_21 (by decide) (by have := hg ((52 * l) + k); exact ⟨by omega, by omega⟩) (fun h21 => ?_) (fun h21 => ?_)
        · refine J_iinc E 0 [(3, .int (z_i (k + 1))), (0, .ref mo), (1, .int (z_i l)), (2, .int (z_i pt))] d_M_noneAbove_26 rfl (by decide) rfl ?_
          refine J_goto E 4 d_M_noneAbove_29 (by decide) ?_
          exact ih4 (k + 1) (by omega) (fun x x1 x2 => by rcases (show x = k ∨ x < k by omega) with e | e; (rw [e]; exact h21); exact hr x x1 e) (by omega)
        · refine J_iconst E d_M_noneAbove_24 ?_
          exact J_zreturn E F (by omega) (b2_f (fun q => by have := q k (by omega) (by omega); omega)).symm rfl d_M_noneAbove_25
  exact C4 _ (pt + 1) (by omega) (fun x x1 x2 => by omega) (Nat.lt_succ_self _)
set_option maxHeartbeats 4000000 in
set_option maxRecDepth 100000 in
theorem c_M_can (L : Lx) (mo ms mb mt mf mc : Nat) (len stg mv stk hol cn cs hi lo hs ls du kw : Int) (sco bb tr fr chn : Int → Int) (l pt d : Int) (hg : gb tr) (hpl : (0 ≤ l ∧ l ≤ 4) ∧ 1 ≤ pt ∧ pt ≤ 25) (hd : 1 ≤ d ∧ d ≤ 6) : CtG L y_M_can b_M_can 6 (some .boolean) (rmh 2) false 0 0 [.ref mo, .int (z_i l), .int (z_i pt), .int (z_i d)] [(mo, .inr (4, [.int (z_i len), .ref ms, .int (z_i stg), .int (z_i mv), .ref mb, .int (z_i stk), .int (z_i hol), .int (z_i cn), .int (z_i cs), .int (z_i hi), .int (z_i lo), .int (z_i hs), .int (z_i ls), .int (z_i du), .ref mt, .ref mf, .ref mc, .int (z_i kw)])), (ms, aI L 2 sco), (mb, aI L 52 bb), (mt, aI L 312 tr), (mf, aI L 6 fr), (mc, aL L 625 chn)] (fun u => u = [(mo, .inr (4, [.int (z_i len), .ref ms, .int (z_i stg), .int (z_i mv), .ref mb, .int (z_i stk), .int (z_i hol), .int (z_i cn), .int (z_i cs), .int (z_i hi), .int (z_i lo), .int (z_i hs), .int (z_i ls), .int (z_i du), .ref mt, .ref mf, .ref mc, .int (z_i kw)])), (ms, aI L 2 sco), (mb, aI L 52 bb), (mt, aI L 312 tr), (mf, aI L 6 fr), (mc, aL L 625 chn)]) (some (.int (z_i (b2 (bd_can (lvO tr l) (lvT tr l) pt d))))) := by
  refine CtG.of rfl (Nat.le_of_ble_eq_true rfl) (fun X E F => ?_)
  show J L X 6 0 0 [(mo, .inr (4, [.int (z_i len), .ref ms, .int (z_i stg), .int (z_i mv), .ref mb, .int (z_i stk), .int (z_i hol), .int (z_i cn), .int (z_i cs), .int (z_i hi), .int (z_i lo), .int (z_i hs), .int (z_i ls), .int (z_i du), .ref mt, .ref mf, .ref mc, .int (z_i kw)])), (ms, aI L 2 sco), (mb, aI L 52 bb), (mt, aI L 312 tr), (mf, aI L 6 fr), (mc, aL L 625 chn)] [(0, .ref mo), (1, .int (z_i l)), (2, .int (z_i pt)), (3, .int (z_i d))] [] 0
  have hcr := can_r (g := tr) (l := l) (f := pt) (d := d) hpl.2 hd
  refine J_bipush E d_M_can_0 (by decide) ?_
  refine J_iload_n E 1 d_M_can_2 rfl rfl ?_
  refine J_imul E d_M_can_3 ?_
  refine J_istore E [(4, .int (z_i (52 * l))), (0, .ref mo), (1, .int (z_i l)), (2, .int (z_i pt)), (3, .int (z_i d))] d_M_can_4 (by decide) rfl ?_
  refine J_aload_n E 1 d_M_can_6 rfl rfl ?_
  refine g_M_23 E 0 rfl rfl d_M_can_7 ?_
  refine J_iload E 0 d_M_can_10 rfl ?_
  refine J_iload_n E 3 d_M_can_12 rfl rfl ?_
  refine J_iadd E d_M_can_13 ?_
  refine J_iald E 3 rfl (by decide) (by exact ⟨by omega, by omega⟩) d_M_can_14 ?_
  refine J_if_eq E 37 d_M_can_15 (by decide) (by have := hg ((52 * l) + pt); exact ⟨by omega, by omega⟩) (fun h15 => ?_) (fun h15 => ?_)
  · refine J_iconst E d_M_can_37 ?_
    exact J_zreturn E F (by omega) (b2_f (fun q => by obtain ⟨q1, q2, q3⟩ := hcr.mp q; omega)).symm rfl d_M_can_38
  · refine J_iload_n E 3 d_M_can_18 rfl rfl ?_
    refine J_bipush E d_M_can_19 (by decide) ?_
    refine J_icmp_ge E 39 d_M_can_21 (by decide) (by exact ⟨⟨by omega, by omega⟩, ⟨by omega, by omega⟩⟩) (fun h21 => ?_) (fun h21 => ?_)
    · refine J_iload_n E 3 d_M_can_39 rfl rfl ?_
      refine J_iload_n E 4 d_M_can_40 rfl rfl ?_
      refine J_isub E d_M_can_41 ?_
      refine J_istore E [(5, .int (z_i (pt - d))), (4, .int (z_i (52 * l))), (0, .ref mo), (1, .int (z_i l)), (2, .int (z_i pt)), (3, .int (z_i d))] d_M_can_42 (by decide) rfl ?_
      refine J_iload E 0 d_M_can_44 rfl ?_
      refine J_if_le E 75 d_M_can_46 (by decide) (by exact ⟨by omega, by omega⟩) (fun h46 => ?_) (fun h46 => ?_)
      · refine J_aload_n E 2 d_M_can_75 rfl rfl ?_
        refine J_iload_n E 3 d_M_can_76 rfl rfl ?_
        refine J_callV (wr := []) (rest := []) E kb_M_allHome t_2_172 t_2_174 ts_M_allHome (c_M_allHome L mo ms mb mt mf mc len stg mv stk hol cn cs hi lo hs ls du kw sco bb tr fr chn l hg hpl.1) (fun h => h) (Rm_h (by decide) (by decide)) [0, 1, 2, 3, 4, 5] [] rfl rfl rfl rfl (by decide) 0 rfl rfl rfl rfl (Nat.le_of_ble_eq_true rfl) d_M_can_77 (fun w' hw => ?_)
        obtain rfl : w' = [(mo, .inr (4, [.int (z_i len), .ref ms, .int (z_i stg), .int (z_i mv), .ref mb, .int (z_i stk), .int (z_i hol), .int (z_i cn), .int (z_i cs), .int (z_i hi), .int (z_i lo), .int (z_i hs), .int (z_i ls), .int (z_i du), .ref mt, .ref mf, .ref mc, .int (z_i kw)])), (ms, aI L 2 sco), (mb, aI L 52 bb), (mt, aI L 312 tr), (mf, aI L 6 fr), (mc, aL L 625 chn)] := hw
        show J L X 6 0 0 [(mo, .inr (4, [.int (z_i len), .ref ms, .int (z_i stg), .int (z_i mv), .ref mb, .int (z_i stk), .int (z_i hol), .int (z_i cn), .int (z_i cs), .int (z_i hi), .int (z_i lo), .int (z_i hs), .int (z_i ls), .int (z_i du), .ref mt, .ref mf, .ref mc, .int (z_i kw)])), (ms, aI L 2 sco), (mb, aI L 52 bb), (mt, aI L 312 tr), (mf, aI L 6 fr), (mc, aL L 625 chn)] [(5, .int (z_i (pt - d))), (4, .int (z_i (52 * l))), (0, .ref mo), (1, .int (z_i l)), (2, .int (z_i pt)), (3, .int (z_i d))] [.int (z_i (b2 (∀ x, 7 ≤ x → x ≤ 25 → tr (52 * l + x) ≤ 0)))] 80
        refine J_if_eq E 101 d_M_can_80 (by decide) (b2_r _) (fun h80 => ?_) (fun h80 => ?_)
        · refine J_iconst E d_M_can_101 ?_
          exact J_zreturn E F (by omega) (b2_f (fun q => by obtain ⟨q1, q2, q3⟩ := hcr.mp q; rcases q3 with z | z; exact absurd z.1 (by omega); exact b2_not h80 z.2.1)).symm rfl d_M_can_102
        · refine J_iload E 0 d_M_can_83 rfl ?_
          refine J_if_eq E 97 d_M_can_85 (by decide) (by exact ⟨by omega, by omega⟩) (fun h85 => ?_) (fun h85 => ?_)
          · refine J_iconst E d_M_can_97 ?_
            refine J_goto E 102 d_M_can_98 (by decide) ?_
            exact J_zreturn E F (by omega) (b2_t (hcr.mpr ⟨h15, by omega, Or.inr ⟨h46, b2_of h80, Or.inl h85⟩⟩)).symm rfl d_M_can_102
          · refine J_aload_n E 2 d_M_can_88 rfl rfl ?_
            refine J_iload_n E 3 d_M_can_89 rfl rfl ?_
            refine J_iload_n E 4 d_M_can_90 rfl rfl ?_
            refine J_callV (wr := []) (rest := []) E kb_M_noneAbove t_2_176 t_2_178 ts_M_noneAbove (c_M_noneAbove L mo ms mb mt mf mc len stg mv stk hol cn cs hi lo hs ls du kw sco bb tr fr chn l pt hg hpl.1 hpl.2) (fun h => h) (Rm_h (by decide) (by decide)) [0, 1, 2, 3, 4, 5] [] rfl rfl rfl rfl (by decide) 0 rfl rfl rfl rfl (Nat.le_of_ble_eq_true rfl) d_M_can_91 (fun w' hw => ?_)
            obtain rfl : w' = [(mo, .inr (4, [.int (z_i len), .ref ms, .int (z_i stg), .int (z_i mv), .ref mb, .int (z_i stk), .int (z_i hol), .int (z_i cn), .int (z_i cs), .int (z_i hi), .int (z_i lo), .int (z_i hs), .int (z_i ls), .int (z_i du), .ref mt, .ref mf, .ref mc, .int (z_i kw)])), (ms, aI L 2 sco), (mb, aI L 52 bb), (mt, aI L 312 tr), (mf, aI L 6 fr), (mc, aL L 625 chn)] := hw
            show J L X 6 0 0 [(mo, .inr (4, [.int (z_i len), .ref ms, .int (z_i stg), .int (z_i mv), .ref mb, .int (z_i stk), .int (z_i hol), .int (z_i cn), .int (z_i cs), .int (z_i hi), .int (z_i lo), .int (z_i hs), .int (z_i ls), .int (z_i du), .ref mt, .ref mf, .ref mc, .int (z_i kw)])), (ms, aI L 2 sco), (mb, aI L 52 bb), (mt, aI L 312 tr), (mf, aI L 6 fr), (mc, aL L 625 chn)] [(5, .int (z_i (pt - d))), (4, .int (z_i (52 * l))), (0, .ref mo), (1, .int (z_i l)), (2, .int (z_i pt)), (3, .int (z_i d))] [.int (z_i (b2 (∀ x, pt < x → x ≤ 25 → tr (52 * l + x) ≤ 0)))] 94
            refine J_if_eq E 101 d_M_can_94 (by decide) (b2_r _) (fun h94 => ?_) (fun h94 => ?_)
            · refine J_iconst E d_M_can_101 ?_
              exact J_zreturn E F (by omega) (b2_f (fun q => by obtain ⟨q1, q2, q3⟩ := hcr.mp q; rcases q3 with z | z; exact absurd z.1 (by omega); rcases z.2.2 with y | y; exact h85 y; exact b2_not h94 y)).symm rfl d_M_can_102
            · refine J_iconst E d_M_can_97 ?_
              refine J_goto E 102 d_M_can_98 (by decide) ?_
              exact J_zreturn E F (by omega) (b2_t (hcr.mpr ⟨h15, by omega, Or.inr ⟨h46, b2_of h80, Or.inr (b2_of h94)⟩⟩)).symm rfl d_M_can_102
      · refine J_aload_n E 2 d_M_can_49 rfl rfl ?_
        refine g_M_23 E 0 rfl rfl d_M_can_50 ?_
        refine J_iload E 1 d_M_can_53 rfl ?_
        refine J_bipush E d_M_can_55 (by decide) ?_
        refine J_iadd E d_M_can_57 ?_
        refine J_bipush E d_M_can_58 (by decide) ?_
        refine J_iadd E d_M_can_60 ?_
        refine J_iload E 0 d_M_can_61 rfl ?_
        refine J_isub E d_M_can_63 ?_
        refine J_iald E 3 rfl (by decide) (by exact ⟨by omega, by omega⟩) d_M_can_64 ?_
        refine J_iconst E d_M_can_65 ?_
        refine J_icmp_ge E 73 d_M_can_66 (by decide) (by have := hg ((((52 * l) + 26) + 25) - (pt - d)); exact ⟨⟨by omega, by omega⟩, ⟨by omega, by omega⟩⟩) (fun h66 => ?_) (fun h66 => ?_)
        · refine J_iconst E d_M_can_73 ?_
          exact J_zreturn E F (by omega) (b2_f (fun q => by obtain ⟨q1, q2, q3⟩ := hcr.mp q; rcases q3 with z | z; omega; exact absurd z.1 (by omega))).symm rfl d_M_can_74
        · refine J_iconst E d_M_can_69 ?_
          refine J_goto E 74 d_M_can_70 (by decide) ?_
          exact J_zreturn E F (by omega) (b2_t (hcr.mpr ⟨h15, by omega, Or.inl ⟨h46, by omega⟩⟩)).symm rfl d_M_can_74
    · refine J_aload_n E 1 d_M_can_24 rfl rfl ?_
      refine g_M_23 E 0 rfl rfl d_M_can_25 ?_
      refine J_iload E 0 d_M_can_28 rfl ?_
      refine J_bipush E d_M_can_30 (by decide) ?_
      refine J_iadd E d_M_can_32 ?_
      refine J_iald E 3 rfl (by decide) (by exact ⟨by omega, by omega⟩) d_M_can_33 ?_
      refine J_if_le E 39 d_M_can_34 (by decide) (by have := hg ((52 * l) + 25); exact ⟨by omega, by omega⟩) (fun h34 => ?_) (fun h34 => ?_)
      · refine J_iload_n E 3 d_M_can_39 rfl rfl ?_
        refine J_iload_n E 4 d_M_can_40 rfl rfl ?_
        refine J_isub E d_M_can_41 ?_
        refine J_istore E [(5, .int (z_i (pt - d))), (4, .int (z_i (52 * l))), (0, .ref mo), (1, .int (z_i l)), (2, .int (z_i pt)), (3, .int (z_i d))] d_M_can_42 (by decide) rfl ?_
        refine J_iload E 0 d_M_can_44 rfl ?_
        refine J_if_le E 75 d_M_can_46 (by decide) (by exact ⟨by omega, by omega⟩) (fun h46 => ?_) (fun h46 => ?_)
        · refine J_aload_n E 2 d_M_can_75 rfl rfl ?_
          refine J_iload_n E 3 d_M_can_76 rfl rfl ?_
          refine J_callV (wr := []) (rest := []) E kb_M_allHome t_2_172 t_2_174 ts_M_allHome (c_M_allHome L mo ms mb mt mf mc len stg mv stk hol cn cs hi lo hs ls du kw sco bb tr fr chn l hg hpl.1) (fun h => h) (Rm_h (by decide) (by decide)) [0, 1, 2, 3, 4, 5] [] rfl rfl rfl rfl (by decide) 0 rfl rfl rfl rfl (Nat.le_of_ble_eq_true rfl) d_M_can_77 (fun w' hw => ?_)
          obtain rfl : w' = [(mo, .inr (4, [.int (z_i len), .ref ms, .int (z_i stg), .int (z_i mv), .ref mb, .int (z_i stk), .int (z_i hol), .int (z_i cn), .int (z_i cs), .int (z_i hi), .int (z_i lo), .int (z_i hs), .int (z_i ls), .int (z_i du), .ref mt, .ref mf, .ref mc, .int (z_i kw)])), (ms, aI L 2 sco), (mb, aI L 52 bb), (mt, aI L 312 tr), (mf, aI L 6 fr), (mc, aL L 625 chn)] := hw
          show J L X 6 0 0 [(mo, .inr (4, [.int (z_i len), .ref ms, .int (z_i stg), .int (z_i mv), .ref mb, .int (z_i stk), .int (z_i hol), .int (z_i cn), .int (z_i cs), .int (z_i hi), .int (z_i lo), .int (z_i hs), .int (z_i ls), .int (z_i du), .ref mt, .ref mf, .ref mc, .int (z_i kw)])), (ms, aI L 2 sco), (mb, aI L 52 bb), (mt, aI L 312 tr), (mf, aI L 6 fr), (mc, aL L 625 chn)] [(5, .int (z_i (pt - d))), (4, .int (z_i (52 * l))), (0, .ref mo), (1, .int (z_i l)), (2, .int (z_i pt)), (3, .int (z_i d))] [.int (z_i (b2 (∀ x, 7 ≤ x → x ≤ 25 → tr (52 * l + x) ≤ 0)))] 80
          refine J_if_eq E 101 d_M_can_80 (by decide) (b2_r _) (fun h80 => ?_) (fun h80 => ?_)
          · refine J_iconst E d_M_can_101 ?_
            exact J_zreturn E F (by omega) (b2_f (fun q => by obtain ⟨q1, q2, q3⟩ := hcr.mp q; rcases q3 with z | z; exact absurd z.1 (by omega); exact b2_not h80 z.2.1)).symm rfl d_M_can_102
          · refine J_iload E 0 d_M_can_83 rfl ?_
            refine J_if_eq E 97 d_M_can_85 (by decide) (by exact ⟨by omega, by omega⟩) (fun h85 => ?_) (fun h85 => ?_)
            · refine J_iconst E d_M_can_97 ?_
              refine J_goto E 102 d_M_can_98 (by decide) ?_
              exact J_zreturn E F (by omega) (b2_t (hcr.mpr ⟨h15, by omega, Or.inr ⟨h46, b2_of h80, Or.inl h85⟩⟩)).symm rfl d_M_can_102
            · refine J_aload_n E 2 d_M_can_88 rfl rfl ?_
              refine J_iload_n E 3 d_M_can_89 rfl rfl ?_
              refine J_iload_n E 4 d_M_can_90 rfl rfl ?_
              refine J_callV (wr := []) (rest := []) E kb_M_noneAbove t_2_176 t_2_178 ts_M_noneAbove (c_M_noneAbove L mo ms mb mt mf mc len stg mv stk hol cn cs hi lo hs ls du kw sco bb tr fr chn l pt hg hpl.1 hpl.2) (fun h => h) (Rm_h (by decide) (by decide)) [0, 1, 2, 3, 4, 5] [] rfl rfl rfl rfl (by decide) 0 rfl rfl rfl rfl (Nat.le_of_ble_eq_true rfl) d_M_can_91 (fun w' hw => ?_)
              obtain rfl : w' = [(mo, .inr (4, [.int (z_i len), .ref ms, .int (z_i stg), .int (z_i mv), .ref mb, .int (z_i stk), .int (z_i hol), .int (z_i cn), .int (z_i cs), .int (z_i hi), .int (z_i lo), .int (z_i hs), .int (z_i ls), .int (z_i du), .ref mt, .ref mf, .ref mc, .int (z_i kw)])), (ms, aI L 2 sco), (mb, aI L 52 bb), (mt, aI L 312 tr), (mf, aI L 6 fr), (mc, aL L 625 chn)] := hw
              show J L X 6 0 0 [(mo, .inr (4, [.int (z_i len), .ref ms, .int (z_i stg), .int (z_i mv), .ref mb, .int (z_i stk), .int (z_i hol), .int (z_i cn), .int (z_i cs), .int (z_i hi), .int (z_i lo), .int (z_i hs), .int (z_i ls), .int (z_i du), .ref mt, .ref mf, .ref mc, .int (z_i kw)])), (ms, aI L 2 sco), (mb, aI L 52 bb), (mt, aI L 312 tr), (mf, aI L 6 fr), (mc, aL L 625 chn)] [(5, .int (z_i (pt - d))), (4, .int (z_i (52 * l))), (0, .ref mo), (1, .int (z_i l)), (2, .int (z_i pt)), (3, .int (z_i d))] [.int (z_i (b2 (∀ x, pt < x → x ≤ 25 → tr (52 * l + x) ≤ 0)))] 94
              refine J_if_eq E 101 d_M_can_94 (by decide) (b2_r _) (fun h94 => ?_) (fun h94 => ?_)
              · refine J_iconst E d_M_can_101 ?_
                exact J_zreturn E F (by omega) (b2_f (fun q => by obtain ⟨q1, q2, q3⟩ := hcr.mp q; rcases q3 with z | z; exact absurd z.1 (by omega); rcases z.2.2 with y | y; exact h85 y; exact b2_not h94 y)).symm rfl d_M_can_102
              · refine J_iconst E d_M_can_97 ?_
                refine J_goto E 102 d_M_can_98 (by decide) ?_
                exact J_zreturn E F (by omega) (b2_t (hcr.mpr ⟨h15, by omega, Or.inr ⟨h46, b2_of h80, Or.inr (b2_of h94)⟩⟩)).symm rfl d_M_can_102
        · refine J_aload_n E 2 d_M_can_49 rfl rfl ?_
          refine g_M_23 E 0 rfl rfl d_M_can_50 ?_
          refine J_iload E 1 d_M_can_53 rfl ?_
          refine J_bipush E d_M_can_55 (by decide) ?_
          refine J_iadd E d_M_can_57 ?_
          refine J_bipush E d_M_can_58 (by decide) ?_
          refine J_iadd E d_M_can_60 ?_
          refine J_iload E 0 d_M_can_61 rfl ?_
          refine J_isub E d_M_can_63 ?_
          refine J_iald E 3 rfl (by decide) (by exact ⟨by omega, by omega⟩) d_M_can_64 ?_
          refine J_iconst E d_M_can_65 ?_
          refine J_icmp_ge E 73 d_M_can_66 (by decide) (by have := hg ((((52 * l) + 26) + 25) - (pt - d)); exact ⟨⟨by omega, by omega⟩, ⟨by omega, by omega⟩⟩) (fun h66 => ?_) (fun h66 => ?_)
          · refine J_iconst E d_M_can_73 ?_
            exact J_zreturn E F (by omega) (b2_f (fun q => by obtain ⟨q1, q2, q3⟩ := hcr.mp q; rcases q3 with z | z; omega; exact absurd z.1 (by omega))).symm rfl d_M_can_74
          · refine J_iconst E d_M_can_69 ?_
            refine J_goto E 74 d_M_can_70 (by decide) ?_
            exact J_zreturn E F (by omega) (b2_t (hcr.mpr ⟨h15, by omega, Or.inl ⟨h46, by omega⟩⟩)).symm rfl d_M_can_74
      · refine J_iconst E d_M_can_37 ?_
        exact J_zreturn E F (by omega) (b2_f (fun q => by obtain ⟨q1, q2, q3⟩ := hcr.mp q; omega)).symm rfl d_M_can_38
set_option maxHeartbeats 4000000 in
set_option maxRecDepth 100000 in
theorem c_M_any (L : Lx) (mo ms mb mt mf mc : Nat) (len stg mv stk hol cn cs hi lo hs ls du kw : Int) (sco bb tr fr chn : Int → Int) (l d : Int) (hg : gb tr) (hl : 0 ≤ l ∧ l ≤ 4) (hd : 1 ≤ d ∧ d ≤ 6) : CtG L y_M_any b_M_any 4 (some .boolean) (rmh 3) false 0 0 [.ref mo, .int (z_i l), .int (z_i d)] [(mo, .inr (4, [.int (z_i len), .ref ms, .int (z_i stg), .int (z_i mv), .ref mb, .int (z_i stk), .int (z_i hol), .int (z_i cn), .int (z_i cs), .int (z_i hi), .int (z_i lo), .int (z_i hs), .int (z_i ls), .int (z_i du), .ref mt, .ref mf, .ref mc, .int (z_i kw)])), (ms, aI L 2 sco), (mb, aI L 52 bb), (mt, aI L 312 tr), (mf, aI L 6 fr), (mc, aL L 625 chn)] (fun u => u = [(mo, .inr (4, [.int (z_i len), .ref ms, .int (z_i stg), .int (z_i mv), .ref mb, .int (z_i stk), .int (z_i hol), .int (z_i cn), .int (z_i cs), .int (z_i hi), .int (z_i lo), .int (z_i hs), .int (z_i ls), .int (z_i du), .ref mt, .ref mf, .ref mc, .int (z_i kw)])), (ms, aI L 2 sco), (mb, aI L 52 bb), (mt, aI L 312 tr), (mf, aI L 6 fr), (mc, aL L 625 chn)]) (some (.int (z_i (b2 (∃ f, bd_can (lvO tr l) (lvT tr l) f d))))) := by
  refine CtG.of rfl (Nat.le_of_ble_eq_true rfl) (fun X E F => ?_)
  show J L X 4 0 0 [(mo, .inr (4, [.int (z_i len), .ref ms, .int (z_i stg), .int (z_i mv), .ref mb, .int (z_i stk), .int (z_i hol), .int (z_i cn), .int (z_i cs), .int (z_i hi), .int (z_i lo), .int (z_i hs), .int (z_i ls), .int (z_i du), .ref mt, .ref mf, .ref mc, .int (z_i kw)])), (ms, aI L 2 sco), (mb, aI L 52 bb), (mt, aI L 312 tr), (mf, aI L 6 fr), (mc, aL L 625 chn)] [(0, .ref mo), (1, .int (z_i l)), (2, .int (z_i d))] [] 0
  refine J_iconst E d_M_any_0 ?_
  refine J_istore_n E [(3, .int (z_i 1)), (0, .ref mo), (1, .int (z_i l)), (2, .int (z_i d))] d_M_any_1 rfl (by decide) rfl ?_
  have C2 : ∀ (mm : Nat) (k : Int), (1 ≤ k ∧ k ≤ 26) → (∀ x, x < k → ¬ bd_can (lvO tr l) (lvT tr l) x d) → (26 - k).toNat < mm → J L X 4 0 0 [(mo, .inr (4, [.int (z_i len), .ref ms, .int (z_i stg), .int (z_i mv), .ref mb, .int (z_i stk), .int (z_i hol), .int (z_i cn), .int (z_i cs), .int (z_i hi), .int (z_i lo), .int (z_i hs), .int (z_i ls), .int (z_i du), .ref mt, .ref mf, .ref mc, .int (z_i kw)])), (ms, aI L 2 sco), (mb, aI L 52 bb), (mt, aI L 312 tr), (mf, aI L 6 fr), (mc, aL L 625 chn)] [(3, .int (z_i k)), (0, .ref mo), (1, .int (z_i l)), (2, .int (z_i d))] [] 2 := by
    intro mm
    induction mm with
    | zero => intro k hk hr hme; exact absurd hme (Nat.not_lt_zero _)
    | succ mm ih2 =>
      intro k hk hr hme
      refine J_iload_n E 0 d_M_any_2 rfl rfl ?_
      refine J_bipush E d_M_any_3 (by decide) ?_
      refine J_icmp_ge E 26 d_M_any_5 (by decide) (by exact ⟨⟨by omega, by omega⟩, ⟨by omega, by omega⟩⟩) (fun h5 => ?_) (fun h5 => ?_)
      · refine J_iconst E d_M_any_26 ?_
        exact J_zreturn E F (by omega) (b2_f (fun ⟨x, q⟩ => hr x (by have := q.2.1; omega) q)).symm rfl d_M_any_27
      · refine J_aload_n E 1 d_M_any_8 rfl rfl ?_
        refine J_iload_n E 2 d_M_any_9 rfl rfl ?_
        refine J_iload_n E 0 d_M_any_10 rfl rfl ?_
        refine J_iload_n E 3 d_M_any_11 rfl rfl ?_
        refine J_callV (wr := []) (rest := []) E kb_M_can t_2_168 t_2_170 ts_M_can (c_M_can L mo ms mb mt mf mc len stg mv stk hol cn cs hi lo hs ls du kw sco bb tr fr chn l k d hg ⟨hl, by omega, by omega⟩ hd) (fun h => h) (Rm_h (by decide) (by decide)) [0, 1, 2, 3, 4, 5] [] rfl rfl rfl rfl (by decide) 0 rfl rfl rfl rfl (Nat.le_of_ble_eq_true rfl) d_M_any_12 (fun w' hw => ?_)
        obtain rfl : w' = [(mo, .inr (4, [.int (z_i len), .ref ms, .int (z_i stg), .int (z_i mv), .ref mb, .int (z_i stk), .int (z_i hol), .int (z_i cn), .int (z_i cs), .int (z_i hi), .int (z_i lo), .int (z_i hs), .int (z_i ls), .int (z_i du), .ref mt, .ref mf, .ref mc, .int (z_i kw)])), (ms, aI L 2 sco), (mb, aI L 52 bb), (mt, aI L 312 tr), (mf, aI L 6 fr), (mc, aL L 625 chn)] := hw
        show J L X 4 0 0 [(mo, .inr (4, [.int (z_i len), .ref ms, .int (z_i stg), .int (z_i mv), .ref mb, .int (z_i stk), .int (z_i hol), .int (z_i cn), .int (z_i cs), .int (z_i hi), .int (z_i lo), .int (z_i hs), .int (z_i ls), .int (z_i du), .ref mt, .ref mf, .ref mc, .int (z_i kw)])), (ms, aI L 2 sco), (mb, aI L 52 bb), (mt, aI L 312 tr), (mf, aI L 6 fr), (mc, aL L 625 chn)] [(3, .int (z_i k)), (0, .ref mo), (1, .int (z_i l)), (2, .int (z_i d))] [.int (z_i (b2 (bd_can (lvO tr l) (lvT tr l) k d)))] 15
        refine J_if_eq E 20 d_M_any_15 (by decide) (b2_r _) (fun h15 => ?_) (fun h15 => ?_)
        · refine J_iinc E 0 [(3, .int (z_i (k + 1))), (0, .ref mo), (1, .int (z_i l)), (2, .int (z_i d))] d_M_any_20 rfl (by decide) rfl ?_
          refine J_goto E 2 d_M_any_23 (by decide) ?_
          exact ih2 (k + 1) (by omega) (fun x hx q => by rcases (show x = k ∨ x < k by omega) with e | e; exact b2_not h15 (e ▸ q); exact hr x e q) (by omega)
        · refine J_iconst E d_M_any_18 ?_
          exact J_zreturn E F (by omega) (b2_t ⟨k, b2_of h15⟩).symm rfl d_M_any_19
  exact C2 _ 1 (by decide) (fun x hx q => by have := q.1; omega) (Nat.lt_succ_self _)
set_option maxHeartbeats 4000000 in
set_option maxRecDepth 100000 in
theorem c_M_make (L : Lx) (mo ms mb mt mf mc : Nat) (len stg mv stk hol cn cs hi lo hs ls du kw : Int) (sco bb tr fr chn : Int → Int) (l pt d : Int) (hg : gb tr) (hl : 0 ≤ l ∧ l ≤ 4) (hO : bd_ok (lvO tr l)) (hT : bd_ok (lvT tr l)) (hc : bd_can (lvO tr l) (lvT tr l) pt d) : CtG L y_M_make b_M_make 6 none (rmh 1) false 0 0 [.ref mo, .int (z_i l), .int (z_i pt), .int (z_i d)] [(mo, .inr (4, [.int (z_i len), .ref ms, .int (z_i stg), .int (z_i mv), .ref mb, .int (z_i stk), .int (z_i hol), .int (z_i cn), .int (z_i cs), .int (z_i hi), .int (z_i lo), .int (z_i hs), .int (z_i ls), .int (z_i du), .ref mt, .ref mf, .ref mc, .int (z_i kw)])), (ms, aI L 2 sco), (mb, aI L 52 bb), (mt, aI L 312 tr), (mf, aI L 6 fr), (mc, aL L 625 chn)] (fun u => ∃ g2 : Int → Int, mk_ok tr g2 l pt d ∧ u = [(mo, .inr (4, [.int (z_i len), .ref ms, .int (z_i stg), .int (z_i mv), .ref mb, .int (z_i stk), .int (z_i hol), .int (z_i cn), .int (z_i cs), .int (z_i hi), .int (z_i lo), .int (z_i hs), .int (z_i ls), .int (z_i du), .ref mt, .ref mf, .ref mc, .int (z_i kw)])), (ms, aI L 2 sco), (mb, aI L 52 bb), (mt, aI L 312 g2), (mf, aI L 6 fr), (mc, aL L 625 chn)]) none := by
  refine CtG.of rfl (Nat.le_of_ble_eq_true rfl) (fun X E F => ?_)
  show J L X 6 0 0 [(mo, .inr (4, [.int (z_i len), .ref ms, .int (z_i stg), .int (z_i mv), .ref mb, .int (z_i stk), .int (z_i hol), .int (z_i cn), .int (z_i cs), .int (z_i hi), .int (z_i lo), .int (z_i hs), .int (z_i ls), .int (z_i du), .ref mt, .ref mf, .ref mc, .int (z_i kw)])), (ms, aI L 2 sco), (mb, aI L 52 bb), (mt, aI L 312 tr), (mf, aI L 6 fr), (mc, aL L 625 chn)] [(0, .ref mo), (1, .int (z_i l)), (2, .int (z_i pt)), (3, .int (z_i d))] [] 0
  have c1 := hc.1
  have c2 := hc.2.1
  have c3 := hc.2.2.1
  have c4 := hc.2.2.2.1
  refine J_bipush E d_M_make_0 (by decide) ?_
  refine J_iload_n E 1 d_M_make_2 rfl rfl ?_
  refine J_imul E d_M_make_3 ?_
  refine J_istore E [(4, .int (z_i (52 * l))), (0, .ref mo), (1, .int (z_i l)), (2, .int (z_i pt)), (3, .int (z_i d))] d_M_make_4 (by decide) rfl ?_
  refine J_iconst E d_M_make_6 ?_
  refine J_istore E [(5, .int (z_i 0)), (4, .int (z_i (52 * l))), (0, .ref mo), (1, .int (z_i l)), (2, .int (z_i pt)), (3, .int (z_i d))] d_M_make_7 (by decide) rfl ?_
  have C9 : ∀ (mm : Nat) (k : Int) (gk : Int → Int), (0 ≤ k ∧ k ≤ 52) → (gb gk) → (∀ j, j < 52 * l + 52 → gk j = tr j) → (∀ i, 0 ≤ i → i < k → gk (52 * l + 52 + i) = tr (52 * l + i)) → (52 - k).toNat < mm → J L X 6 0 0 [(mo, .inr (4, [.int (z_i len), .ref ms, .int (z_i stg), .int (z_i mv), .ref mb, .int (z_i stk), .int (z_i hol), .int (z_i cn), .int (z_i cs), .int (z_i hi), .int (z_i lo), .int (z_i hs), .int (z_i ls), .int (z_i du), .ref mt, .ref mf, .ref mc, .int (z_i kw)])), (ms, aI L 2 sco), (mb, aI L 52 bb), (mt, aI L 312 gk), (mf, aI L 6 fr), (mc, aL L 625 chn)] [(5, .int (z_i k)), (4, .int (z_i (52 * l))), (0, .ref mo), (1, .int (z_i l)), (2, .int (z_i pt)), (3, .int (z_i d))] [] 9 := by
    intro mm
    induction mm with
    | zero => intro k gk hk hgk hlo hup hme; exact absurd hme (Nat.not_lt_zero _)
    | succ mm ih9 =>
      intro k gk hk hgk hlo hup hme
      refine J_iload E 0 d_M_make_9 rfl ?_
      refine J_bipush E d_M_make_11 (by decide) ?_
      refine J_icmp_ge E 45 d_M_make_13 (by decide) (by exact ⟨⟨by omega, by omega⟩, ⟨by omega, by omega⟩⟩) (fun h13 => ?_) (fun h13 => ?_)
      · refine J_iload E 1 d_M_make_45 rfl ?_
        refine J_bipush E d_M_make_47 (by decide) ?_
        refine J_iadd E d_M_make_49 ?_
        refine J_istore E [(4, .int (z_i ((52 * l) + 52))), (5, .int (z_i k)), (0, .ref mo), (1, .int (z_i l)), (2, .int (z_i pt)), (3, .int (z_i d))] d_M_make_50 (by decide) rfl ?_
        refine J_iload_n E 4 d_M_make_52 rfl rfl ?_
        refine J_iload_n E 5 d_M_make_53 rfl rfl ?_
        refine J_isub E d_M_make_54 ?_
        refine J_if_ge E 62 d_M_make_55 (by decide) ⟨by omega, by omega⟩ (fun h55 => ?_) (fun h55 => ?_)
        · refine J_iload_n E 4 d_M_make_62 rfl rfl ?_
          refine J_iload_n E 5 d_M_make_63 rfl rfl ?_
          refine J_isub E d_M_make_64 ?_
          refine J_istore E [(5, .int (z_i (pt - d))), (4, .int (z_i ((52 * l) + 52))), (0, .ref mo), (1, .int (z_i l)), (2, .int (z_i pt)), (3, .int (z_i d))] d_M_make_65 (by decide) rfl ?_
          refine J_aload_n E 2 d_M_make_67 rfl rfl ?_
          refine g_M_23 E 0 rfl rfl d_M_make_68 ?_
          refine J_iload E 1 d_M_make_71 rfl ?_
          refine J_iload_n E 4 d_M_make_73 rfl rfl ?_
          refine J_iadd E d_M_make_74 ?_
          refine J_dup2 E d_M_make_75 rfl rfl ?_
          refine J_iald E 3 rfl (by decide) (by exact ⟨by omega, by omega⟩) d_M_make_76 ?_
          refine J_iconst E d_M_make_77 ?_
          refine J_isub E d_M_make_78 ?_
          refine J_iast E 3 [(mo, .inr (4, [.int (z_i len), .ref ms, .int (z_i stg), .int (z_i mv), .ref mb, .int (z_i stk), .int (z_i hol), .int (z_i cn), .int (z_i cs), .int (z_i hi), .int (z_i lo), .int (z_i hs), .int (z_i ls), .int (z_i du), .ref mt, .ref mf, .ref mc, .int (z_i kw)])), (ms, aI L 2 sco), (mb, aI L 52 bb), (mt, aI L 312 (z_u gk (((52 * l) + 52) + pt) ((gk (((52 * l) + 52) + pt)) - 1))), (mf, aI L 6 fr), (mc, aL L 625 chn)] rfl rfl (by decide) (by exact ⟨by omega, by omega⟩) d_M_make_79 ?_
          refine J_aload_n E 2 d_M_make_80 rfl rfl ?_
          refine g_M_23 E 0 rfl rfl d_M_make_81 ?_
          refine J_iload E 1 d_M_make_84 rfl ?_
          refine J_iload E 0 d_M_make_86 rfl ?_
          refine J_iadd E d_M_make_88 ?_
          refine J_dup2 E d_M_make_89 rfl rfl ?_
          refine J_iald E 3 rfl (by decide) (by exact ⟨by omega, by omega⟩) d_M_make_90 ?_
          refine J_iconst E d_M_make_91 ?_
          refine J_iadd E d_M_make_92 ?_
          refine J_iast E 3 [(mo, .inr (4, [.int (z_i len), .ref ms, .int (z_i stg), .int (z_i mv), .ref mb, .int (z_i stk), .int (z_i hol), .int (z_i cn), .int (z_i cs), .int (z_i hi), .int (z_i lo), .int (z_i hs), .int (z_i ls), .int (z_i du), .ref mt, .ref mf, .ref mc, .int (z_i kw)])), (ms, aI L 2 sco), (mb, aI L 52 bb), (mt, aI L 312 (z_u (z_u gk (((52 * l) + 52) + pt) ((gk (((52 * l) + 52) + pt)) - 1)) (((52 * l) + 52) + (pt - d)) (((z_u gk (((52 * l) + 52) + pt) ((gk (((52 * l) + 52) + pt)) - 1)) (((52 * l) + 52) + (pt - d))) + 1))), (mf, aI L 6 fr), (mc, aL L 625 chn)] rfl rfl (by decide) (by exact ⟨by omega, by omega⟩) d_M_make_93 ?_
          refine J_iload E 0 d_M_make_94 rfl ?_
          refine J_if_le E 153 d_M_make_96 (by decide) ⟨by omega, by omega⟩ (fun h96 => ?_) (fun h96 => ?_)
          · exact J_return E F ⟨_, (mk_fin (to := (pt - d)) hgk hlo (fun i i1 i2 => hup i i1 (by omega)) hO hT hc (by unfold bd_to; have := z_mx_is 0 (pt - d); omega) rfl).1 (by omega), rfl⟩ d_M_make_153
          · refine J_aload_n E 2 d_M_make_99 rfl rfl ?_
            refine g_M_23 E 0 rfl rfl d_M_make_100 ?_
            refine J_iload E 1 d_M_make_103 rfl ?_
            refine J_bipush E d_M_make_105 (by decide) ?_
            refine J_iadd E d_M_make_107 ?_
            refine J_bipush E d_M_make_108 (by decide) ?_
            refine J_iadd E d_M_make_110 ?_
            refine J_iload E 0 d_M_make_111 rfl ?_
            refine J_isub E d_M_make_113 ?_
            refine J_iald E 3 rfl (by decide) (by exact ⟨by omega, by omega⟩) d_M_make_114 ?_
            refine J_iconst E d_M_make_115 ?_
            refine J_icmp_ne E 153 d_M_make_116 (by decide) (by have := z_ui (z_u gk (((52 * l) + 52) + pt) ((gk (((52 * l) + 52) + pt)) - 1)) (((52 * l) + 52) + (pt - d)) (((z_u gk (((52 * l) + 52) + pt) ((gk (((52 * l) + 52) + pt)) - 1)) (((52 * l) + 52) + (pt - d))) + 1) (((((52 * l) + 52) + 26) + 25) - (pt - d)); have := z_ui gk (((52 * l) + 52) + pt) ((gk (((52 * l) + 52) + pt)) - 1) (((((52 * l) + 52) + 26) + 25) - (pt - d)); have := hgk (((((52 * l) + 52) + 26) + 25) - (pt - d)); have := z_ui gk (((52 * l) + 52) + pt) ((gk (((52 * l) + 52) + pt)) - 1) (((52 * l) + 52) + (pt - d)); have := hgk (((52 * l) + 52) + (pt - d)); have := hgk (((52 * l) + 52) + pt); exact ⟨⟨by omega, by omega⟩, ⟨by omega, by omega⟩⟩) (fun h116 => ?_) (fun h116 => ?_)
            · exact J_return E F ⟨_, (mk_fin (to := (pt - d)) hgk hlo (fun i i1 i2 => hup i i1 (by omega)) hO hT hc (by unfold bd_to; have := z_mx_is 0 (pt - d); omega) rfl).1 (by omega), rfl⟩ d_M_make_153
            · refine J_aload_n E 2 d_M_make_119 rfl rfl ?_
              refine g_M_23 E 0 rfl rfl d_M_make_120 ?_
              refine J_iload E 1 d_M_make_123 rfl ?_
              refine J_bipush E d_M_make_125 (by decide) ?_
              refine J_iadd E d_M_make_127 ?_
              refine J_bipush E d_M_make_128 (by decide) ?_
              refine J_iadd E d_M_make_130 ?_
              refine J_iload E 0 d_M_make_131 rfl ?_
              refine J_isub E d_M_make_133 ?_
              refine J_iconst E d_M_make_134 ?_
              refine J_iast E 3 [(mo, .inr (4, [.int (z_i len), .ref ms, .int (z_i stg), .int (z_i mv), .ref mb, .int (z_i stk), .int (z_i hol), .int (z_i cn), .int (z_i cs), .int (z_i hi), .int (z_i lo), .int (z_i hs), .int (z_i ls), .int (z_i du), .ref mt, .ref mf, .ref mc, .int (z_i kw)])), (ms, aI L 2 sco), (mb, aI L 52 bb), (mt, aI L 312 (z_u (z_u (z_u gk (((52 * l) + 52) + pt) ((gk (((52 * l) + 52) + pt)) - 1)) (((52 * l) + 52) + (pt - d)) (((z_u gk (((52 * l) + 52) + pt) ((gk (((52 * l) + 52) + pt)) - 1)) (((52 * l) + 52) + (pt - d))) + 1)) (((((52 * l) + 52) + 26) + 25) - (pt - d)) 0)), (mf, aI L 6 fr), (mc, aL L 625 chn)] rfl rfl (by decide) (by exact ⟨by omega, by omega⟩) d_M_make_135 ?_
              refine J_aload_n E 2 d_M_make_136 rfl rfl ?_
              refine g_M_23 E 0 rfl rfl d_M_make_137 ?_
              refine J_iload E 1 d_M_make_140 rfl ?_
              refine J_bipush E d_M_make_142 (by decide) ?_
              refine J_iadd E d_M_make_144 ?_
              refine J_bipush E d_M_make_145 (by decide) ?_
              refine J_iadd E d_M_make_147 ?_
              refine J_dup2 E d_M_make_148 rfl rfl ?_
              refine J_iald E 3 rfl (by decide) (by exact ⟨by omega, by omega⟩) d_M_make_149 ?_
              refine J_iconst E d_M_make_150 ?_
              refine J_iadd E d_M_make_151 ?_
              refine J_iast E 3 [(mo, .inr (4, [.int (z_i len), .ref ms, .int (z_i stg), .int (z_i mv), .ref mb, .int (z_i stk), .int (z_i hol), .int (z_i cn), .int (z_i cs), .int (z_i hi), .int (z_i lo), .int (z_i hs), .int (z_i ls), .int (z_i du), .ref mt, .ref mf, .ref mc, .int (z_i kw)])), (ms, aI L 2 sco), (mb, aI L 52 bb), (mt, aI L 312 (z_u (z_u (z_u (z_u gk (((52 * l) + 52) + pt) ((gk (((52 * l) + 52) + pt)) - 1)) (((52 * l) + 52) + (pt - d)) (((z_u gk (((52 * l) + 52) + pt) ((gk (((52 * l) + 52) + pt)) - 1)) (((52 * l) + 52) + (pt - d))) + 1)) (((((52 * l) + 52) + 26) + 25) - (pt - d)) 0) ((((52 * l) + 52) + 26) + 25) (((z_u (z_u (z_u gk (((52 * l) + 52) + pt) ((gk (((52 * l) + 52) + pt)) - 1)) (((52 * l) + 52) + (pt - d)) (((z_u gk (((52 * l) + 52) + pt) ((gk (((52 * l) + 52) + pt)) - 1)) (((52 * l) + 52) + (pt - d))) + 1)) (((((52 * l) + 52) + 26) + 25) - (pt - d)) 0) ((((52 * l) + 52) + 26) + 25)) + 1))), (mf, aI L 6 fr), (mc, aL L 625 chn)] rfl rfl (by decide) (by exact ⟨by omega, by omega⟩) d_M_make_152 ?_
              exact J_return E F ⟨_, (mk_fin (to := (pt - d)) hgk hlo (fun i i1 i2 => hup i i1 (by omega)) hO hT hc (by unfold bd_to; have := z_mx_is 0 (pt - d); omega) rfl).2 ⟨by omega, h116⟩, rfl⟩ d_M_make_153
        · refine J_iconst E d_M_make_58 ?_
          refine J_goto E 65 d_M_make_59 (by decide) ?_
          refine J_istore E [(5, .int (z_i 0)), (4, .int (z_i ((52 * l) + 52))), (0, .ref mo), (1, .int (z_i l)), (2, .int (z_i pt)), (3, .int (z_i d))] d_M_make_65 (by decide) rfl ?_
          refine J_aload_n E 2 d_M_make_67 rfl rfl ?_
          refine g_M_23 E 0 rfl rfl d_M_make_68 ?_
          refine J_iload E 1 d_M_make_71 rfl ?_
          refine J_iload_n E 4 d_M_make_73 rfl rfl ?_
          refine J_iadd E d_M_make_74 ?_
          refine J_dup2 E d_M_make_75 rfl rfl ?_
          refine J_iald E 3 rfl (by decide) (by exact ⟨by omega, by omega⟩) d_M_make_76 ?_
          refine J_iconst E d_M_make_77 ?_
          refine J_isub E d_M_make_78 ?_
          refine J_iast E 3 [(mo, .inr (4, [.int (z_i len), .ref ms, .int (z_i stg), .int (z_i mv), .ref mb, .int (z_i stk), .int (z_i hol), .int (z_i cn), .int (z_i cs), .int (z_i hi), .int (z_i lo), .int (z_i hs), .int (z_i ls), .int (z_i du), .ref mt, .ref mf, .ref mc, .int (z_i kw)])), (ms, aI L 2 sco), (mb, aI L 52 bb), (mt, aI L 312 (z_u gk (((52 * l) + 52) + pt) ((gk (((52 * l) + 52) + pt)) - 1))), (mf, aI L 6 fr), (mc, aL L 625 chn)] rfl rfl (by decide) (by exact ⟨by omega, by omega⟩) d_M_make_79 ?_
          refine J_aload_n E 2 d_M_make_80 rfl rfl ?_
          refine g_M_23 E 0 rfl rfl d_M_make_81 ?_
          refine J_iload E 1 d_M_make_84 rfl ?_
          refine J_iload E 0 d_M_make_86 rfl ?_
          refine J_iadd E d_M_make_88 ?_
          refine J_dup2 E d_M_make_89 rfl rfl ?_
          refine J_iald E 3 rfl (by decide) (by exact ⟨by omega, by omega⟩) d_M_make_90 ?_
          refine J_iconst E d_M_make_91 ?_
          refine J_iadd E d_M_make_92 ?_
          refine J_iast E 3 [(mo, .inr (4, [.int (z_i len), .ref ms, .int (z_i stg), .int (z_i mv), .ref mb, .int (z_i stk), .int (z_i hol), .int (z_i cn), .int (z_i cs), .int (z_i hi), .int (z_i lo), .int (z_i hs), .int (z_i ls), .int (z_i du), .ref mt, .ref mf, .ref mc, .int (z_i kw)])), (ms, aI L 2 sco), (mb, aI L 52 bb), (mt, aI L 312 (z_u (z_u gk (((52 * l) + 52) + pt) ((gk (((52 * l) + 52) + pt)) - 1)) (((52 * l) + 52) + 0) (((z_u gk (((52 * l) + 52) + pt) ((gk (((52 * l) + 52) + pt)) - 1)) (((52 * l) + 52) + 0)) + 1))), (mf, aI L 6 fr), (mc, aL L 625 chn)] rfl rfl (by decide) (by exact ⟨by omega, by omega⟩) d_M_make_93 ?_
          refine J_iload E 0 d_M_make_94 rfl ?_
          refine J_if_le E 153 d_M_make_96 (by decide) ⟨by omega, by omega⟩ (fun h96 => ?_) (fun h96 => ?_)
          · exact J_return E F ⟨_, (mk_fin (to := 0) hgk hlo (fun i i1 i2 => hup i i1 (by omega)) hO hT hc (by unfold bd_to; have := z_mx_is 0 (pt - d); omega) rfl).1 (by omega), rfl⟩ d_M_make_153
          · refine J_aload_n E 2 d_M_make_99 rfl rfl ?_
            refine g_M_23 E 0 rfl rfl d_M_make_100 ?_
            refine J_iload E 1 d_M_make_103 rfl ?_
            refine J_bipush E d_M_make_105 (by decide) ?_
            refine J_iadd E d_M_make_107 ?_
            refine J_bipush E d_M_make_108 (by decide) ?_
            refine J_iadd E d_M_make_110 ?_
            refine J_iload E 0 d_M_make_111 rfl ?_
            refine J_isub E d_M_make_113 ?_
            refine J_iald E 3 rfl (by decide) (by exact ⟨by omega, by omega⟩) d_M_make_114 ?_
            refine J_iconst E d_M_make_115 ?_
            refine J_icmp_ne E 153 d_M_make_116 (by decide) (by have := z_ui (z_u gk (((52 * l) + 52) + pt) ((gk (((52 * l) + 52) + pt)) - 1)) (((52 * l) + 52) + 0) (((z_u gk (((52 * l) + 52) + pt) ((gk (((52 * l) + 52) + pt)) - 1)) (((52 * l) + 52) + 0)) + 1) (((((52 * l) + 52) + 26) + 25) - 0); have := z_ui gk (((52 * l) + 52) + pt) ((gk (((52 * l) + 52) + pt)) - 1) (((((52 * l) + 52) + 26) + 25) - 0); have := hgk (((((52 * l) + 52) + 26) + 25) - 0); have := z_ui gk (((52 * l) + 52) + pt) ((gk (((52 * l) + 52) + pt)) - 1) (((52 * l) + 52) + 0); have := hgk (((52 * l) + 52) + 0); have := hgk (((52 * l) + 52) + pt); exact ⟨⟨by omega, by omega⟩, ⟨by omega, by omega⟩⟩) (fun h116 => ?_) (fun h116 => ?_)
            · exact J_return E F ⟨_, (mk_fin (to := 0) hgk hlo (fun i i1 i2 => hup i i1 (by omega)) hO hT hc (by unfold bd_to; have := z_mx_is 0 (pt - d); omega) rfl).1 (by omega), rfl⟩ d_M_make_153
            · refine J_aload_n E 2 d_M_make_119 rfl rfl ?_
              refine g_M_23 E 0 rfl rfl d_M_make_120 ?_
              refine J_iload E 1 d_M_make_123 rfl ?_
              refine J_bipush E d_M_make_125 (by decide) ?_
              refine J_iadd E d_M_make_127 ?_
              refine J_bipush E d_M_make_128 (by decide) ?_
              refine J_iadd E d_M_make_130 ?_
              refine J_iload E 0 d_M_make_131 rfl ?_
              refine J_isub E d_M_make_133 ?_
              refine J_iconst E d_M_make_134 ?_
              refine J_iast E 3 [(mo, .inr (4, [.int (z_i len), .ref ms, .int (z_i stg), .int (z_i mv), .ref mb, .int (z_i stk), .int (z_i hol), .int (z_i cn), .int (z_i cs), .int (z_i hi), .int (z_i lo), .int (z_i hs), .int (z_i ls), .int (z_i du), .ref mt, .ref mf, .ref mc, .int (z_i kw)])), (ms, aI L 2 sco), (mb, aI L 52 bb), (mt, aI L 312 (z_u (z_u (z_u gk (((52 * l) + 52) + pt) ((gk (((52 * l) + 52) + pt)) - 1)) (((52 * l) + 52) + 0) (((z_u gk (((52 * l) + 52) + pt) ((gk (((52 * l) + 52) + pt)) - 1)) (((52 * l) + 52) + 0)) + 1)) (((((52 * l) + 52) + 26) + 25) - 0) 0)), (mf, aI L 6 fr), (mc, aL L 625 chn)] rfl rfl (by decide) (by exact ⟨by omega, by omega⟩) d_M_make_135 ?_
              refine J_aload_n E 2 d_M_make_136 rfl rfl ?_
              refine g_M_23 E 0 rfl rfl d_M_make_137 ?_
              refine J_iload E 1 d_M_make_140 rfl ?_
              refine J_bipush E d_M_make_142 (by decide) ?_
              refine J_iadd E d_M_make_144 ?_
              refine J_bipush E d_M_make_145 (by decide) ?_
              refine J_iadd E d_M_make_147 ?_
              refine J_dup2 E d_M_make_148 rfl rfl ?_
              refine J_iald E 3 rfl (by decide) (by exact ⟨by omega, by omega⟩) d_M_make_149 ?_
              refine J_iconst E d_M_make_150 ?_
              refine J_iadd E d_M_make_151 ?_
              refine J_iast E 3 [(mo, .inr (4, [.int (z_i len), .ref ms, .int (z_i stg), .int (z_i mv), .ref mb, .int (z_i stk), .int (z_i hol), .int (z_i cn), .int (z_i cs), .int (z_i hi), .int (z_i lo), .int (z_i hs), .int (z_i ls), .int (z_i du), .ref mt, .ref mf, .ref mc, .int (z_i kw)])), (ms, aI L 2 sco), (mb, aI L 52 bb), (mt, aI L 312 (z_u (z_u (z_u (z_u gk (((52 * l) + 52) + pt) ((gk (((52 * l) + 52) + pt)) - 1)) (((52 * l) + 52) + 0) (((z_u gk (((52 * l) + 52) + pt) ((gk (((52 * l) + 52) + pt)) - 1)) (((52 * l) + 52) + 0)) + 1)) (((((52 * l) + 52) + 26) + 25) - 0) 0) ((((52 * l) + 52) + 26) + 25) (((z_u (z_u (z_u gk (((52 * l) + 52) + pt) ((gk (((52 * l) + 52) + pt)) - 1)) (((52 * l) + 52) + 0) (((z_u gk (((52 * l) + 52) + pt) ((gk (((52 * l) + 52) + pt)) - 1)) (((52 * l) + 52) + 0)) + 1)) (((((52 * l) + 52) + 26) + 25) - 0) 0) ((((52 * l) + 52) + 26) + 25)) + 1))), (mf, aI L 6 fr), (mc, aL L 625 chn)] rfl rfl (by decide) (by exact ⟨by omega, by omega⟩) d_M_make_152 ?_
              exact J_return E F ⟨_, (mk_fin (to := 0) hgk hlo (fun i i1 i2 => hup i i1 (by omega)) hO hT hc (by unfold bd_to; have := z_mx_is 0 (pt - d); omega) rfl).2 ⟨by omega, h116⟩, rfl⟩ d_M_make_153
      · refine J_aload_n E 2 d_M_make_16 rfl rfl ?_
        refine g_M_23 E 0 rfl rfl d_M_make_17 ?_
        refine J_iload E 1 d_M_make_20 rfl ?_
        refine J_bipush E d_M_make_22 (by decide) ?_
        refine J_iadd E d_M_make_24 ?_
        refine J_iload E 0 d_M_make_25 rfl ?_
        refine J_iadd E d_M_make_27 ?_
        refine J_aload_n E 2 d_M_make_28 rfl rfl ?_
        refine g_M_23 E 0 rfl rfl d_M_make_29 ?_
        refine J_iload E 1 d_M_make_32 rfl ?_
        refine J_iload E 0 d_M_make_34 rfl ?_
        refine J_iadd E d_M_make_36 ?_
        refine J_iald E 3 rfl (by decide) (by exact ⟨by omega, by omega⟩) d_M_make_37 ?_
        refine J_iast E 3 [(mo, .inr (4, [.int (z_i len), .ref ms, .int (z_i stg), .int (z_i mv), .ref mb, .int (z_i stk), .int (z_i hol), .int (z_i cn), .int (z_i cs), .int (z_i hi), .int (z_i lo), .int (z_i hs), .int (z_i ls), .int (z_i du), .ref mt, .ref mf, .ref mc, .int (z_i kw)])), (ms, aI L 2 sco), (mb, aI L 52 bb), (mt, aI L 312 (z_u gk (((52 * l) + 52) + k) (gk ((52 * l) + k)))), (mf, aI L 6 fr), (mc, aL L 625 chn)] rfl rfl (by decide) (by exact ⟨by omega, by omega⟩) d_M_make_38 ?_
        refine J_iinc E 0 [(5, .int (z_i (k + 1))), (4, .int (z_i (52 * l))), (0, .ref mo), (1, .int (z_i l)), (2, .int (z_i pt)), (3, .int (z_i d))] d_M_make_39 rfl (by decide) rfl ?_
        refine J_goto E 9 d_M_make_42 (by decide) ?_
        exact ih9 (k + 1) (z_u gk (((52 * l) + 52) + k) (gk ((52 * l) + k))) (by omega) (gb_u hgk (hgk _)) (fun j hj => by rw [z_un (by omega)]; exact hlo j hj) (fun i i1 i2 => by rcases (show i = k ∨ i < k by omega) with e | e; (rw [e, z_us]; exact hlo _ (by omega)); (rw [z_un (by omega)]; exact hup i i1 e)) (by omega)
  exact C9 _ 0 tr (by decide) hg (fun _ _ => rfl) (fun i i1 i2 => by omega) (Nat.lt_succ_self _)
set_option maxHeartbeats 4000000 in
set_option maxRecDepth 100000 in
theorem c_M_look (L : Lx) (mo ms mb mt mf mc : Nat) (len stg mv stk hol cn cs hi lo hs ls du kw : Int) (sco bb tr fr chn : Int → Int) (p : Int) (hg : gb tr) (hbb : gb bb) (hp : p = 0 ∨ p = 1) : CtG L y_M_look b_M_look 4 none (rmh 1) false 0 0 [.ref mo, .int (z_i p), .int (z_i 0)] [(mo, .inr (4, [.int (z_i len), .ref ms, .int (z_i stg), .int (z_i mv), .ref mb, .int (z_i stk), .int (z_i hol), .int (z_i cn), .int (z_i cs), .int (z_i hi), .int (z_i lo), .int (z_i hs), .int (z_i ls), .int (z_i du), .ref mt, .ref mf, .ref mc, .int (z_i kw)])), (ms, aI L 2 sco), (mb, aI L 52 bb), (mt, aI L 312 tr), (mf, aI L 6 fr), (mc, aL L 625 chn)] (fun u => ∃ g2 : Int → Int, gb g2 ∧ (∀ x, 0 ≤ x → x < 26 → g2 x = bb (26 * p + x) ∧ g2 (26 + x) = bb (26 * (1 - p) + x)) ∧ u = [(mo, .inr (4, [.int (z_i len), .ref ms, .int (z_i stg), .int (z_i mv), .ref mb, .int (z_i stk), .int (z_i hol), .int (z_i cn), .int (z_i cs), .int (z_i hi), .int (z_i lo), .int (z_i hs), .int (z_i ls), .int (z_i du), .ref mt, .ref mf, .ref mc, .int (z_i kw)])), (ms, aI L 2 sco), (mb, aI L 52 bb), (mt, aI L 312 g2), (mf, aI L 6 fr), (mc, aL L 625 chn)]) none := by
  refine CtG.of rfl (Nat.le_of_ble_eq_true rfl) (fun X E F => ?_)
  show J L X 4 0 0 [(mo, .inr (4, [.int (z_i len), .ref ms, .int (z_i stg), .int (z_i mv), .ref mb, .int (z_i stk), .int (z_i hol), .int (z_i cn), .int (z_i cs), .int (z_i hi), .int (z_i lo), .int (z_i hs), .int (z_i ls), .int (z_i du), .ref mt, .ref mf, .ref mc, .int (z_i kw)])), (ms, aI L 2 sco), (mb, aI L 52 bb), (mt, aI L 312 tr), (mf, aI L 6 fr), (mc, aL L 625 chn)] [(0, .ref mo), (1, .int (z_i p)), (2, .int (z_i 0))] [] 0
  refine J_iconst E d_M_look_0 ?_
  refine J_istore_n E [(3, .int (z_i 0)), (0, .ref mo), (1, .int (z_i p)), (2, .int (z_i 0))] d_M_look_1 rfl (by decide) rfl ?_
  have C2 : ∀ (mm : Nat) (k : Int) (gk : Int → Int), (0 ≤ k ∧ k ≤ 26) → (gb gk) → (∀ x, 0 ≤ x → x < k → gk x = bb (26 * p + x) ∧ gk (26 + x) = bb (26 * (1 - p) + x)) → (26 - k).toNat < mm → J L X 4 0 0 [(mo, .inr (4, [.int (z_i len), .ref ms, .int (z_i stg), .int (z_i mv), .ref mb, .int (z_i stk), .int (z_i hol), .int (z_i cn), .int (z_i cs), .int (z_i hi), .int (z_i lo), .int (z_i hs), .int (z_i ls), .int (z_i du), .ref mt, .ref mf, .ref mc, .int (z_i kw)])), (ms, aI L 2 sco), (mb, aI L 52 bb), (mt, aI L 312 gk), (mf, aI L 6 fr), (mc, aL L 625 chn)] [(3, .int (z_i k)), (0, .ref mo), (1, .int (z_i p)), (2, .int (z_i 0))] [] 2 := by
    intro mm
    induction mm with
    | zero => intro k gk hk hgk hr hme; exact absurd hme (Nat.not_lt_zero _)
    | succ mm ih2 =>
      intro k gk hk hgk hr hme
      refine J_iload_n E 0 d_M_look_2 rfl rfl ?_
      refine J_bipush E d_M_look_3 (by decide) ?_
      refine J_icmp_ge E 63 d_M_look_5 (by decide) (by exact ⟨⟨by omega, by omega⟩, ⟨by omega, by omega⟩⟩) (fun h5 => ?_) (fun h5 => ?_)
      · exact J_return E F ⟨gk, hgk, fun x x1 x2 => hr x x1 (by omega), rfl⟩ d_M_look_63
      · refine J_aload_n E 1 d_M_look_8 rfl rfl ?_
        refine g_M_23 E 0 rfl rfl d_M_look_9 ?_
        refine J_bipush E d_M_look_12 (by decide) ?_
        refine J_iload_n E 3 d_M_look_14 rfl rfl ?_
        refine J_imul E d_M_look_15 ?_
        refine J_iload_n E 0 d_M_look_16 rfl rfl ?_
        refine J_iadd E d_M_look_17 ?_
        refine J_aload_n E 1 d_M_look_18 rfl rfl ?_
        refine g_M_13 E 0 rfl rfl d_M_look_19 ?_
        refine J_bipush E d_M_look_22 (by decide) ?_
        refine J_iload_n E 2 d_M_look_24 rfl rfl ?_
        refine J_imul E d_M_look_25 ?_
        refine J_iload_n E 0 d_M_look_26 rfl rfl ?_
        refine J_iadd E d_M_look_27 ?_
        refine J_iald E 2 rfl (by decide) (by exact ⟨by omega, by omega⟩) d_M_look_28 ?_
        refine J_iast E 3 [(mo, .inr (4, [.int (z_i len), .ref ms, .int (z_i stg), .int (z_i mv), .ref mb, .int (z_i stk), .int (z_i hol), .int (z_i cn), .int (z_i cs), .int (z_i hi), .int (z_i lo), .int (z_i hs), .int (z_i ls), .int (z_i du), .ref mt, .ref mf, .ref mc, .int (z_i kw)])), (ms, aI L 2 sco), (mb, aI L 52 bb), (mt, aI L 312 (z_u gk ((52 * 0) + k) (bb ((26 * p) + k)))), (mf, aI L 6 fr), (mc, aL L 625 chn)] rfl rfl (by decide) (by exact ⟨by omega, by omega⟩) d_M_look_29 ?_
        refine J_aload_n E 1 d_M_look_30 rfl rfl ?_
        refine g_M_23 E 0 rfl rfl d_M_look_31 ?_
        refine J_bipush E d_M_look_34 (by decide) ?_
        refine J_iload_n E 3 d_M_look_36 rfl rfl ?_
        refine J_imul E d_M_look_37 ?_
        refine J_bipush E d_M_look_38 (by decide) ?_
        refine J_iadd E d_M_look_40 ?_
        refine J_iload_n E 0 d_M_look_41 rfl rfl ?_
        refine J_iadd E d_M_look_42 ?_
        refine J_aload_n E 1 d_M_look_43 rfl rfl ?_
        refine g_M_13 E 0 rfl rfl d_M_look_44 ?_
        refine J_bipush E d_M_look_47 (by decide) ?_
        refine J_iconst E d_M_look_49 ?_
        refine J_iload_n E 2 d_M_look_50 rfl rfl ?_
        refine J_isub E d_M_look_51 ?_
        refine J_imul E d_M_look_52 ?_
        refine J_iload_n E 0 d_M_look_53 rfl rfl ?_
        refine J_iadd E d_M_look_54 ?_
        refine J_iald E 2 rfl (by decide) (by exact ⟨by omega, by omega⟩) d_M_look_55 ?_
        refine J_iast E 3 [(mo, .inr (4, [.int (z_i len), .ref ms, .int (z_i stg), .int (z_i mv), .ref mb, .int (z_i stk), .int (z_i hol), .int (z_i cn), .int (z_i cs), .int (z_i hi), .int (z_i lo), .int (z_i hs), .int (z_i ls), .int (z_i du), .ref mt, .ref mf, .ref mc, .int (z_i kw)])), (ms, aI L 2 sco), (mb, aI L 52 bb), (mt, aI L 312 (z_u (z_u gk ((52 * 0) + k) (bb ((26 * p) + k))) (((52 * 0) + 26) + k) (bb ((26 * (1 - p)) + k)))), (mf, aI L 6 fr), (mc, aL L 625 chn)] rfl rfl (by decide) (by exact ⟨by omega, by omega⟩) d_M_look_56 ?_
        refine J_iinc E 0 [(3, .int (z_i (k + 1))), (0, .ref mo), (1, .int (z_i p)), (2, .int (z_i 0))] d_M_look_57 rfl (by decide) rfl ?_
        refine J_goto E 2 d_M_look_60 (by decide) ?_
        exact ih2 (k + 1) (z_u (z_u gk ((52 * 0) + k) (bb ((26 * p) + k))) (((52 * 0) + 26) + k) (bb ((26 * (1 - p)) + k))) (by omega) (gb_u (gb_u hgk (hbb _)) (hbb _)) (fun x x1 x2 => lk_step hr x x1 x2 hk.1 (by omega)) (by omega)
  exact C2 _ 0 tr (by decide) hg (fun x x1 x2 => by omega) (Nat.lt_succ_self _)
