set_option maxHeartbeats 4000000 in
set_option maxRecDepth 100000 in
theorem c_M_longest (L : Lx) (mo ms mb mt mf mc : Nat) (len stg mv stk hol cn cs hi lo hs ls du kw : Int) (sco bb tr fr chn : Int → Int) (l d n : Int) (hg : gb tr) (hl : 0 ≤ l ∧ l ≤ 1) (hO : bd_ok (lvO tr l)) (hT : bd_ok (lvT tr l)) (hn : 0 ≤ n ∧ n ≤ 4) (hdd : n = 0 ∨ (1 ≤ d ∧ d ≤ 6)) : CtG L y_M_longest b_M_longest 6 (some .int) (rmh 3) false 0 0 [.ref mo, .int (z_i l), .int (z_i d), .int (z_i n)] [(mo, .inr (4, [.int (z_i len), .ref ms, .int (z_i stg), .int (z_i mv), .ref mb, .int (z_i stk), .int (z_i hol), .int (z_i cn), .int (z_i cs), .int (z_i hi), .int (z_i lo), .int (z_i hs), .int (z_i ls), .int (z_i du), .ref mt, .ref mf, .ref mc, .int (z_i kw)])), (ms, aI L 2 sco), (mb, aI L 52 bb), (mt, aI L 312 tr), (mf, aI L 6 fr), (mc, aL L 625 chn)] (fun u => ∃ g2 f2 : Int → Int, gb g2 ∧ (∀ j, j < 52 * l + 52 → g2 j = tr j) ∧ u = [(mo, .inr (4, [.int (z_i len), .ref ms, .int (z_i stg), .int (z_i mv), .ref mb, .int (z_i stk), .int (z_i hol), .int (z_i cn), .int (z_i cs), .int (z_i hi), .int (z_i lo), .int (z_i hs), .int (z_i ls), .int (z_i du), .ref mt, .ref mf, .ref mc, .int (z_i kw)])), (ms, aI L 2 sco), (mb, aI L 52 bb), (mt, aI L 312 g2), (mf, aI L 6 f2), (mc, aL L 625 chn)]) (some (.int (z_i (((bd_due (lvT tr l) (dcf d 0 n 0) (lvO tr l) : Nat) : Int))))) := by
  refine CtG.of rfl (Nat.le_of_ble_eq_true rfl) (fun X E F => ?_)
  show J L X 6 0 0 [(mo, .inr (4, [.int (z_i len), .ref ms, .int (z_i stg), .int (z_i mv), .ref mb, .int (z_i stk), .int (z_i hol), .int (z_i cn), .int (z_i cs), .int (z_i hi), .int (z_i lo), .int (z_i hs), .int (z_i ls), .int (z_i du), .ref mt, .ref mf, .ref mc, .int (z_i kw)])), (ms, aI L 2 sco), (mb, aI L 52 bb), (mt, aI L 312 tr), (mf, aI L 6 fr), (mc, aL L 625 chn)] [(0, .ref mo), (1, .int (z_i l)), (2, .int (z_i d)), (3, .int (z_i n))] [] 0
  have C22 : ∀ (mm : Nat) (best : Int) (dep : Int) (gk : Int → Int) (fk : Int → Int), (lg_inv (lvO tr l) (lvT tr l) l d n best dep gk fk) → (∀ j, j < 52 * l + 52 → gk j = tr j) → lg_mu dep fk < mm → J L X 6 0 0 [(mo, .inr (4, [.int (z_i len), .ref ms, .int (z_i stg), .int (z_i mv), .ref mb, .int (z_i stk), .int (z_i hol), .int (z_i cn), .int (z_i cs), .int (z_i hi), .int (z_i lo), .int (z_i hs), .int (z_i ls), .int (z_i du), .ref mt, .ref mf, .ref mc, .int (z_i kw)])), (ms, aI L 2 sco), (mb, aI L 52 bb), (mt, aI L 312 gk), (mf, aI L 6 fk), (mc, aL L 625 chn)] [(4, .int (z_i best)), (5, .int (z_i dep)), (0, .ref mo), (1, .int (z_i l)), (2, .int (z_i d)), (3, .int (z_i n))] [] 22 := by
    intro mm
    induction mm with
    | zero => intro best dep gk fk hv hlo hme; exact absurd hme (Nat.not_lt_zero _)
    | succ mm ih22 =>
      intro best dep gk fk hv hlo hme
      have hv1 := hv.2.1
      have hv2 := hv.2.2.1
      have hf7 : 0 ≤ dep → 1 ≤ fk dep ∧ fk dep ≤ 26 := fun q => (hv.2.2.2.2.2.2.2.1 dep q (Int.le_refl _)).1
      refine J_iload E 1 d_M_longest_22 rfl ?_
      refine J_if_lt E 139 d_M_longest_24 (by decide) (by exact ⟨by omega, by omega⟩) (fun h24 => ?_) (fun h24 => ?_)
      · refine J_iload E 0 d_M_longest_139 rfl ?_
        exact J_ireturn E F (by rcases hdd with e | e; (subst e; rw [due_0]; omega); exact lg_fin e.1 hn hv (by omega)) ⟨gk, fk, hv.1, hlo, rfl⟩ d_M_longest_141
      · have hf8 := hf7 h24
        have hd6 : 1 ≤ d ∧ d ≤ 6 := by omega
        have h7d := hv.2.2.2.2.2.2.2.1 dep h24 (Int.le_refl _)
        refine J_iload E 0 d_M_longest_27 rfl ?_
        refine J_iload_n E 5 d_M_longest_29 rfl rfl ?_
        refine J_icmp_ge E 139 d_M_longest_30 (by decide) (by exact ⟨⟨by omega, by omega⟩, ⟨by omega, by omega⟩⟩) (fun h30 => ?_) (fun h30 => ?_)
        · refine J_iload E 0 d_M_longest_139 rfl ?_
          exact J_ireturn E F (by rcases hdd with e | e; (subst e; rw [due_0]; omega); exact lg_fin e.1 hn hv (by omega)) ⟨gk, fk, hv.1, hlo, rfl⟩ d_M_longest_141
        · refine J_aload_n E 2 d_M_longest_33 rfl rfl ?_
          refine g_M_26 E 0 rfl rfl d_M_longest_34 ?_
          refine J_iload E 1 d_M_longest_37 rfl ?_
          refine J_dup2 E d_M_longest_39 rfl rfl ?_
          refine J_iald E 4 rfl (by decide) (by exact ⟨by omega, by omega⟩) d_M_longest_40 ?_
          refine J_iconst E d_M_longest_41 ?_
          refine J_isub E d_M_longest_42 ?_
          refine J_iast E 4 [(mo, .inr (4, [.int (z_i len), .ref ms, .int (z_i stg), .int (z_i mv), .ref mb, .int (z_i stk), .int (z_i hol), .int (z_i cn), .int (z_i cs), .int (z_i hi), .int (z_i lo), .int (z_i hs), .int (z_i ls), .int (z_i du), .ref mt, .ref mf, .ref mc, .int (z_i kw)])), (ms, aI L 2 sco), (mb, aI L 52 bb), (mt, aI L 312 gk), (mf, aI L 6 (z_u fk dep ((fk dep) - 1))), (mc, aL L 625 chn)] rfl rfl (by decide) (by exact ⟨by omega, by omega⟩) d_M_longest_43 ?_
          refine J_aload_n E 2 d_M_longest_44 rfl rfl ?_
          refine g_M_26 E 0 rfl rfl d_M_longest_45 ?_
          refine J_iload E 1 d_M_longest_48 rfl ?_
          refine J_iald E 4 rfl (by decide) (by exact ⟨by omega, by omega⟩) d_M_longest_50 ?_
          refine J_top (v := .int (z_i ((fk dep) - 1))) (by rw [z_us]) ?_
          refine J_iconst E d_M_longest_51 ?_
          refine J_icmp_ge E 61 d_M_longest_52 (by decide) (by exact ⟨⟨by omega, by omega⟩, ⟨by omega, by omega⟩⟩) (fun h52 => ?_) (fun h52 => ?_)
          · refine J_aload_n E 2 d_M_longest_61 rfl rfl ?_
            refine J_iload_n E 3 d_M_longest_62 rfl rfl ?_
            refine J_iload E 1 d_M_longest_63 rfl ?_
            refine J_iadd E d_M_longest_65 ?_
            refine J_aload_n E 2 d_M_longest_66 rfl rfl ?_
            refine g_M_26 E 0 rfl rfl d_M_longest_67 ?_
            refine J_iload E 1 d_M_longest_70 rfl ?_
            refine J_iald E 4 rfl (by decide) (by exact ⟨by omega, by omega⟩) d_M_longest_72 ?_
            refine J_top (v := .int (z_i ((fk dep) - 1))) (by rw [z_us]) ?_
            refine J_iload_n E 4 d_M_longest_73 rfl rfl ?_
            refine J_callV (wr := []) (rest := []) E kb_M_can t_2_168 t_2_170 ts_M_can (c_M_can L mo ms mb mt mf mc len stg mv stk hol cn cs hi lo hs ls du kw sco bb gk (z_u fk dep ((fk dep) - 1)) chn (l + dep) ((fk dep) - 1) d hv.1 ⟨⟨by omega, by omega⟩, by omega, by omega⟩ hd6) (fun h => h) (Rm_h (by decide) (by decide)) [0, 1, 2, 3, 4, 5] [] rfl rfl rfl rfl (by decide) 0 rfl rfl rfl rfl (Nat.le_of_ble_eq_true rfl) d_M_longest_74 (fun w' hw => ?_)
            obtain rfl : w' = [(mo, .inr (4, [.int (z_i len), .ref ms, .int (z_i stg), .int (z_i mv), .ref mb, .int (z_i stk), .int (z_i hol), .int (z_i cn), .int (z_i cs), .int (z_i hi), .int (z_i lo), .int (z_i hs), .int (z_i ls), .int (z_i du), .ref mt, .ref mf, .ref mc, .int (z_i kw)])), (ms, aI L 2 sco), (mb, aI L 52 bb), (mt, aI L 312 gk), (mf, aI L 6 (z_u fk dep ((fk dep) - 1))), (mc, aL L 625 chn)] := hw
            show J L X 6 0 0 [(mo, .inr (4, [.int (z_i len), .ref ms, .int (z_i stg), .int (z_i mv), .ref mb, .int (z_i stk), .int (z_i hol), .int (z_i cn), .int (z_i cs), .int (z_i hi), .int (z_i lo), .int (z_i hs), .int (z_i ls), .int (z_i du), .ref mt, .ref mf, .ref mc, .int (z_i kw)])), (ms, aI L 2 sco), (mb, aI L 52 bb), (mt, aI L 312 gk), (mf, aI L 6 (z_u fk dep ((fk dep) - 1))), (mc, aL L 625 chn)] [(4, .int (z_i best)), (5, .int (z_i dep)), (0, .ref mo), (1, .int (z_i l)), (2, .int (z_i d)), (3, .int (z_i n))] [.int (z_i (b2 (bd_can (lvO gk (l + dep)) (lvT gk (l + dep)) ((fk dep) - 1) d)))] 77
            refine J_if_eq E 22 d_M_longest_77 (by decide) (b2_r _) (fun h77 => ?_) (fun h77 => ?_)
            · exact ih22 best dep gk (z_u fk dep ((fk dep) - 1)) (lg_c hv (by omega) h24 h52 (b2_not h77)) hlo (by have := lg_mu_dn hn.2 hv h24 (Or.inr (Or.inl ⟨rfl, rfl⟩)); omega)
            · have hcn := b2_of h77
              refine J_iload E 1 d_M_longest_80 rfl ?_
              refine J_iconst E d_M_longest_82 ?_
              refine J_iadd E d_M_longest_83 ?_
              refine J_iload E 0 d_M_longest_84 rfl ?_
              refine J_icmp_le E 96 d_M_longest_86 (by decide) (by exact ⟨⟨by omega, by omega⟩, ⟨by omega, by omega⟩⟩) (fun h86 => ?_) (fun h86 => ?_)
              · refine J_iload E 0 d_M_longest_96 rfl ?_
                refine J_istore E [(4, .int (z_i best)), (5, .int (z_i dep)), (0, .ref mo), (1, .int (z_i l)), (2, .int (z_i d)), (3, .int (z_i n))] d_M_longest_98 (by decide) rfl ?_
                refine J_iload E 1 d_M_longest_100 rfl ?_
                refine J_iconst E d_M_longest_102 ?_
                refine J_iadd E d_M_longest_103 ?_
                refine J_iload_n E 5 d_M_longest_104 rfl rfl ?_
                refine J_icmp_ge E 22 d_M_longest_105 (by decide) (by exact ⟨⟨by omega, by omega⟩, ⟨by omega, by omega⟩⟩) (fun h105 => ?_) (fun h105 => ?_)
                · exact ih22 best dep gk (z_u fk dep ((fk dep) - 1)) (lg_d hv h24 h52 hcn h105 (by omega)) hlo (by have := lg_mu_dn hn.2 hv h24 (Or.inr (Or.inl ⟨rfl, rfl⟩)); omega)
                · refine J_aload_n E 2 d_M_longest_108 rfl rfl ?_
                  refine J_iload_n E 3 d_M_longest_109 rfl rfl ?_
                  refine J_iload E 1 d_M_longest_110 rfl ?_
                  refine J_iadd E d_M_longest_112 ?_
                  refine J_aload_n E 2 d_M_longest_113 rfl rfl ?_
                  refine g_M_26 E 0 rfl rfl d_M_longest_114 ?_
                  refine J_iload E 1 d_M_longest_117 rfl ?_
                  refine J_iald E 4 rfl (by decide) (by exact ⟨by omega, by omega⟩) d_M_longest_119 ?_
                  refine J_top (v := .int (z_i ((fk dep) - 1))) (by rw [z_us]) ?_
                  refine J_iload_n E 4 d_M_longest_120 rfl rfl ?_
                  refine J_callV (wr := []) (rest := []) E kb_M_make t_2_180 t_2_182 ts_M_make (c_M_make L mo ms mb mt mf mc len stg mv stk hol cn cs hi lo hs ls du kw sco bb gk (z_u fk dep ((fk dep) - 1)) chn (l + dep) ((fk dep) - 1) d hv.1 (by omega) h7d.2.1 h7d.2.2.1 hcn) (fun h => h) (Rm_h (by decide) (by decide)) [0, 1, 2, 3, 4, 5] [] rfl rfl rfl rfl (by decide) 0 rfl rfl rfl rfl (Nat.le_of_ble_eq_true rfl) d_M_longest_121 (fun w' hw => ?_)
                  obtain ⟨gm, hm, hw⟩ := hw
                  obtain rfl : w' = [(mo, .inr (4, [.int (z_i len), .ref ms, .int (z_i stg), .int (z_i mv), .ref mb, .int (z_i stk), .int (z_i hol), .int (z_i cn), .int (z_i cs), .int (z_i hi), .int (z_i lo), .int (z_i hs), .int (z_i ls), .int (z_i du), .ref mt, .ref mf, .ref mc, .int (z_i kw)])), (ms, aI L 2 sco), (mb, aI L 52 bb), (mt, aI L 312 gm), (mf, aI L 6 (z_u fk dep ((fk dep) - 1))), (mc, aL L 625 chn)] := hw
                  show J L X 6 0 0 [(mo, .inr (4, [.int (z_i len), .ref ms, .int (z_i stg), .int (z_i mv), .ref mb, .int (z_i stk), .int (z_i hol), .int (z_i cn), .int (z_i cs), .int (z_i hi), .int (z_i lo), .int (z_i hs), .int (z_i ls), .int (z_i du), .ref mt, .ref mf, .ref mc, .int (z_i kw)])), (ms, aI L 2 sco), (mb, aI L 52 bb), (mt, aI L 312 gm), (mf, aI L 6 (z_u fk dep ((fk dep) - 1))), (mc, aL L 625 chn)] [(4, .int (z_i best)), (5, .int (z_i dep)), (0, .ref mo), (1, .int (z_i l)), (2, .int (z_i d)), (3, .int (z_i n))] [] 124
                  refine J_iinc E 1 [(5, .int (z_i (dep + 1))), (4, .int (z_i best)), (0, .ref mo), (1, .int (z_i l)), (2, .int (z_i d)), (3, .int (z_i n))] d_M_longest_124 rfl (by decide) rfl ?_
                  refine J_aload_n E 2 d_M_longest_127 rfl rfl ?_
                  refine g_M_26 E 0 rfl rfl d_M_longest_128 ?_
                  refine J_iload E 0 d_M_longest_131 rfl ?_
                  refine J_bipush E d_M_longest_133 (by decide) ?_
                  refine J_iast E 4 [(mo, .inr (4, [.int (z_i len), .ref ms, .int (z_i stg), .int (z_i mv), .ref mb, .int (z_i stk), .int (z_i hol), .int (z_i cn), .int (z_i cs), .int (z_i hi), .int (z_i lo), .int (z_i hs), .int (z_i ls), .int (z_i du), .ref mt, .ref mf, .ref mc, .int (z_i kw)])), (ms, aI L 2 sco), (mb, aI L 52 bb), (mt, aI L 312 gm), (mf, aI L 6 (z_u (z_u fk dep ((fk dep) - 1)) (dep + 1) 26)), (mc, aL L 625 chn)] rfl rfl (by decide) (by exact ⟨by omega, by omega⟩) d_M_longest_135 ?_
                  refine J_goto E 22 d_M_longest_136 (by decide) ?_
                  refine J_lv (lv' := [(4, .int (z_i best)), (5, .int (z_i (dep + 1))), (0, .ref mo), (1, .int (z_i l)), (2, .int (z_i d)), (3, .int (z_i n))]) [1, 0, 2, 3, 4, 5] rfl ?_
                  exact ih22 best (dep + 1) gm (z_u (z_u fk dep ((fk dep) - 1)) (dep + 1) 26) (lg_e hv h24 h52 hcn h105 (by omega) hm) (fun j hj => by rw [hm.2.1 j (by omega)]; exact hlo j hj) (by have := lg_mu_dn hn.2 hv h24 (Or.inr (Or.inr ⟨rfl, rfl⟩)); omega)
              · refine J_iload E 1 d_M_longest_89 rfl ?_
                refine J_iconst E d_M_longest_91 ?_
                refine J_iadd E d_M_longest_92 ?_
                refine J_goto E 98 d_M_longest_93 (by decide) ?_
                refine J_istore E [(4, .int (z_i (dep + 1))), (5, .int (z_i dep)), (0, .ref mo), (1, .int (z_i l)), (2, .int (z_i d)), (3, .int (z_i n))] d_M_longest_98 (by decide) rfl ?_
                refine J_iload E 1 d_M_longest_100 rfl ?_
                refine J_iconst E d_M_longest_102 ?_
                refine J_iadd E d_M_longest_103 ?_
                refine J_iload_n E 5 d_M_longest_104 rfl rfl ?_
                refine J_icmp_ge E 22 d_M_longest_105 (by decide) (by exact ⟨⟨by omega, by omega⟩, ⟨by omega, by omega⟩⟩) (fun h105 => ?_) (fun h105 => ?_)
                · exact ih22 (dep + 1) dep gk (z_u fk dep ((fk dep) - 1)) (lg_d hv h24 h52 hcn h105 (by omega)) hlo (by have := lg_mu_dn hn.2 hv h24 (Or.inr (Or.inl ⟨rfl, rfl⟩)); omega)
                · refine J_aload_n E 2 d_M_longest_108 rfl rfl ?_
                  refine J_iload_n E 3 d_M_longest_109 rfl rfl ?_
                  refine J_iload E 1 d_M_longest_110 rfl ?_
                  refine J_iadd E d_M_longest_112 ?_
                  refine J_aload_n E 2 d_M_longest_113 rfl rfl ?_
                  refine g_M_26 E 0 rfl rfl d_M_longest_114 ?_
                  refine J_iload E 1 d_M_longest_117 rfl ?_
                  refine J_iald E 4 rfl (by decide) (by exact ⟨by omega, by omega⟩) d_M_longest_119 ?_
                  refine J_top (v := .int (z_i ((fk dep) - 1))) (by rw [z_us]) ?_
                  refine J_iload_n E 4 d_M_longest_120 rfl rfl ?_
                  refine J_callV (wr := []) (rest := []) E kb_M_make t_2_180 t_2_182 ts_M_make (c_M_make L mo ms mb mt mf mc len stg mv stk hol cn cs hi lo hs ls du kw sco bb gk (z_u fk dep ((fk dep) - 1)) chn (l + dep) ((fk dep) - 1) d hv.1 (by omega) h7d.2.1 h7d.2.2.1 hcn) (fun h => h) (Rm_h (by decide) (by decide)) [0, 1, 2, 3, 4, 5] [] rfl rfl rfl rfl (by decide) 0 rfl rfl rfl rfl (Nat.le_of_ble_eq_true rfl) d_M_longest_121 (fun w' hw => ?_)
                  obtain ⟨gm, hm, hw⟩ := hw
                  obtain rfl : w' = [(mo, .inr (4, [.int (z_i len), .ref ms, .int (z_i stg), .int (z_i mv), .ref mb, .int (z_i stk), .int (z_i hol), .int (z_i cn), .int (z_i cs), .int (z_i hi), .int (z_i lo), .int (z_i hs), .int (z_i ls), .int (z_i du), .ref mt, .ref mf, .ref mc, .int (z_i kw)])), (ms, aI L 2 sco), (mb, aI L 52 bb), (mt, aI L 312 gm), (mf, aI L 6 (z_u fk dep ((fk dep) - 1))), (mc, aL L 625 chn)] := hw
                  show J L X 6 0 0 [(mo, .inr (4, [.int (z_i len), .ref ms, .int (z_i stg), .int (z_i mv), .ref mb, .int (z_i stk), .int (z_i hol), .int (z_i cn), .int (z_i cs), .int (z_i hi), .int (z_i lo), .int (z_i hs), .int (z_i ls), .int (z_i du), .ref mt, .ref mf, .ref mc, .int (z_i kw)])), (ms, aI L 2 sco), (mb, aI L 52 bb), (mt, aI L 312 gm), (mf, aI L 6 (z_u fk dep ((fk dep) - 1))), (mc, aL L 625 chn)] [(4, .int (z_i (dep + 1))), (5, .int (z_i dep)), (0, .ref mo), (1, .int (z_i l)), (2, .int (z_i d)), (3, .int (z_i n))] [] 124
                  refine J_iinc E 1 [(5, .int (z_i (dep + 1))), (4, .int (z_i (dep + 1))), (0, .ref mo), (1, .int (z_i l)), (2, .int (z_i d)), (3, .int (z_i n))] d_M_longest_124 rfl (by decide) rfl ?_
                  refine J_aload_n E 2 d_M_longest_127 rfl rfl ?_
                  refine g_M_26 E 0 rfl rfl d_M_longest_128 ?_
                  refine J_iload E 0 d_M_longest_131 rfl ?_
                  refine J_bipush E d_M_longest_133 (by decide) ?_
                  refine J_iast E 4 [(mo, .inr (4, [.int (z_i len), .ref ms, .int (z_i stg), .int (z_i mv), .ref mb, .int (z_i stk), .int (z_i hol), .int (z_i cn), .int (z_i cs), .int (z_i hi), .int (z_i lo), .int (z_i hs), .int (z_i ls), .int (z_i du), .ref mt, .ref mf, .ref mc, .int (z_i kw)])), (ms, aI L 2 sco), (mb, aI L 52 bb), (mt, aI L 312 gm), (mf, aI L 6 (z_u (z_u fk dep ((fk dep) - 1)) (dep + 1) 26)), (mc, aL L 625 chn)] rfl rfl (by decide) (by exact ⟨by omega, by omega⟩) d_M_longest_135 ?_
                  refine J_goto E 22 d_M_longest_136 (by decide) ?_
                  refine J_lv (lv' := [(4, .int (z_i (dep + 1))), (5, .int (z_i (dep + 1))), (0, .ref mo), (1, .int (z_i l)), (2, .int (z_i d)), (3, .int (z_i n))]) [1, 0, 2, 3, 4, 5] rfl ?_
                  exact ih22 (dep + 1) (dep + 1) gm (z_u (z_u fk dep ((fk dep) - 1)) (dep + 1) 26) (lg_e hv h24 h52 hcn h105 (by omega) hm) (fun j hj => by rw [hm.2.1 j (by omega)]; exact hlo j hj) (by have := lg_mu_dn hn.2 hv h24 (Or.inr (Or.inr ⟨rfl, rfl⟩)); omega)
          · refine J_iinc E 1 [(5, .int (z_i (dep + (-1)))), (4, .int (z_i best)), (0, .ref mo), (1, .int (z_i l)), (2, .int (z_i d)), (3, .int (z_i n))] d_M_longest_55 rfl (by decide) rfl ?_
            refine J_goto E 22 d_M_longest_58 (by decide) ?_
            refine J_lv (lv' := [(4, .int (z_i best)), (5, .int (z_i (dep + (-1)))), (0, .ref mo), (1, .int (z_i l)), (2, .int (z_i d)), (3, .int (z_i n))]) [1, 0, 2, 3, 4, 5] rfl ?_
            exact ih22 best (dep + (-1)) gk (z_u fk dep ((fk dep) - 1)) (lg_b hv (by omega) h24 h52) hlo (by have := lg_mu_dn hn.2 hv h24 (Or.inl ⟨rfl, rfl⟩); omega)
  refine J_iconst E d_M_longest_0 ?_
  refine J_istore E [(4, .int (z_i 0)), (0, .ref mo), (1, .int (z_i l)), (2, .int (z_i d)), (3, .int (z_i n))] d_M_longest_1 (by decide) rfl ?_
  refine J_iload_n E 4 d_M_longest_3 rfl rfl ?_
  refine J_if_le E 11 d_M_longest_4 (by decide) (by exact ⟨by omega, by omega⟩) (fun h4 => ?_) (fun h4 => ?_)
  · refine J_iconst E d_M_longest_11 ?_
    refine J_istore E [(5, .int (z_i (-1))), (4, .int (z_i 0)), (0, .ref mo), (1, .int (z_i l)), (2, .int (z_i d)), (3, .int (z_i n))] d_M_longest_12 (by decide) rfl ?_
    refine J_aload_n E 2 d_M_longest_14 rfl rfl ?_
    refine g_M_26 E 0 rfl rfl d_M_longest_15 ?_
    refine J_iconst E d_M_longest_18 ?_
    refine J_bipush E d_M_longest_19 (by decide) ?_
    refine J_iast E 4 [(mo, .inr (4, [.int (z_i len), .ref ms, .int (z_i stg), .int (z_i mv), .ref mb, .int (z_i stk), .int (z_i hol), .int (z_i cn), .int (z_i cs), .int (z_i hi), .int (z_i lo), .int (z_i hs), .int (z_i ls), .int (z_i du), .ref mt, .ref mf, .ref mc, .int (z_i kw)])), (ms, aI L 2 sco), (mb, aI L 52 bb), (mt, aI L 312 tr), (mf, aI L 6 (z_u fr 0 26)), (mc, aL L 625 chn)] rfl rfl (by decide) (by exact ⟨by omega, by omega⟩) d_M_longest_21 ?_
    refine J_lv (lv' := [(4, .int (z_i 0)), (5, .int (z_i (-1))), (0, .ref mo), (1, .int (z_i l)), (2, .int (z_i d)), (3, .int (z_i n))]) [1, 0, 2, 3, 4, 5] rfl ?_
    exact C22 _ 0 (-1) tr (z_u fr 0 26) (by obtain rfl : n = 0 := (by omega); exact lg_none hg rfl) (fun _ _ => rfl) (Nat.lt_succ_self _)
  · refine J_iconst E d_M_longest_7 ?_
    refine J_goto E 12 d_M_longest_8 (by decide) ?_
    refine J_istore E [(5, .int (z_i 0)), (4, .int (z_i 0)), (0, .ref mo), (1, .int (z_i l)), (2, .int (z_i d)), (3, .int (z_i n))] d_M_longest_12 (by decide) rfl ?_
    refine J_aload_n E 2 d_M_longest_14 rfl rfl ?_
    refine g_M_26 E 0 rfl rfl d_M_longest_15 ?_
    refine J_iconst E d_M_longest_18 ?_
    refine J_bipush E d_M_longest_19 (by decide) ?_
    refine J_iast E 4 [(mo, .inr (4, [.int (z_i len), .ref ms, .int (z_i stg), .int (z_i mv), .ref mb, .int (z_i stk), .int (z_i hol), .int (z_i cn), .int (z_i cs), .int (z_i hi), .int (z_i lo), .int (z_i hs), .int (z_i ls), .int (z_i du), .ref mt, .ref mf, .ref mc, .int (z_i kw)])), (ms, aI L 2 sco), (mb, aI L 52 bb), (mt, aI L 312 tr), (mf, aI L 6 (z_u fr 0 26)), (mc, aL L 625 chn)] rfl rfl (by decide) (by exact ⟨by omega, by omega⟩) d_M_longest_21 ?_
    refine J_lv (lv' := [(4, .int (z_i 0)), (5, .int (z_i 0)), (0, .ref mo), (1, .int (z_i l)), (2, .int (z_i d)), (3, .int (z_i n))]) [1, 0, 2, 3, 4, 5] rfl ?_
    exact C22 _ 0 0 tr (z_u fr 0 26) (lg_start hg (by omega) rfl rfl hO hT) (fun _ _ => rfl) (Nat.lt_succ_self _)
set_option maxHeartbeats 4000000 in
set_option maxRecDepth 100000 in
theorem c_M_both (L : Lx) (mo ms mb mt mf mc : Nat) (len stg mv stk hol cn cs hi lo hs ls du kw : Int) (sco bb tr fr chn : Int → Int) (l d1 d2 : Int) (hg : gb tr) (hl : 0 ≤ l ∧ l ≤ 1) (hO : bd_ok (lvO tr l)) (hT : bd_ok (lvT tr l)) (hd1 : 1 ≤ d1 ∧ d1 ≤ 6) (hd2 : 1 ≤ d2 ∧ d2 ≤ 6) : CtG L y_M_both b_M_both 5 (some .boolean) (rmh 4) false 0 0 [.ref mo, .int (z_i l), .int (z_i d1), .int (z_i d2)] [(mo, .inr (4, [.int (z_i len), .ref ms, .int (z_i stg), .int (z_i mv), .ref mb, .int (z_i stk), .int (z_i hol), .int (z_i cn), .int (z_i cs), .int (z_i hi), .int (z_i lo), .int (z_i hs), .int (z_i ls), .int (z_i du), .ref mt, .ref mf, .ref mc, .int (z_i kw)])), (ms, aI L 2 sco), (mb, aI L 52 bb), (mt, aI L 312 tr), (mf, aI L 6 fr), (mc, aL L 625 chn)] (fun u => ∃ g2 : Int → Int, gb g2 ∧ (∀ j, j < 52 * l + 52 → g2 j = tr j) ∧ u = [(mo, .inr (4, [.int (z_i len), .ref ms, .int (z_i stg), .int (z_i mv), .ref mb, .int (z_i stk), .int (z_i hol), .int (z_i cn), .int (z_i cs), .int (z_i hi), .int (z_i lo), .int (z_i hs), .int (z_i ls), .int (z_i du), .ref mt, .ref mf, .ref mc, .int (z_i kw)])), (ms, aI L 2 sco), (mb, aI L 52 bb), (mt, aI L 312 g2), (mf, aI L 6 fr), (mc, aL L 625 chn)]) (some (.int (z_i (b2 (bo_p (lvO tr l) (lvT tr l) d1 d2))))) := by
  refine CtG.of rfl (Nat.le_of_ble_eq_true rfl) (fun X E F => ?_)
  show J L X 5 0 0 [(mo, .inr (4, [.int (z_i len), .ref ms, .int (z_i stg), .int (z_i mv), .ref mb, .int (z_i stk), .int (z_i hol), .int (z_i cn), .int (z_i cs), .int (z_i hi), .int (z_i lo), .int (z_i hs), .int (z_i ls), .int (z_i du), .ref mt, .ref mf, .ref mc, .int (z_i kw)])), (ms, aI L 2 sco), (mb, aI L 52 bb), (mt, aI L 312 tr), (mf, aI L 6 fr), (mc, aL L 625 chn)] [(0, .ref mo), (1, .int (z_i l)), (2, .int (z_i d1)), (3, .int (z_i d2))] [] 0
  refine J_iconst E d_M_both_0 ?_
  refine J_istore E [(4, .int (z_i 1)), (0, .ref mo), (1, .int (z_i l)), (2, .int (z_i d1)), (3, .int (z_i d2))] d_M_both_1 (by decide) rfl ?_
  have C3 : ∀ (mm : Nat) (k : Int) (gk : Int → Int), (1 ≤ k ∧ k ≤ 26) → (gb gk) → (∀ j, j < 52 * l + 52 → gk j = tr j) → (∀ x, x < k → ¬ (bd_can (lvO tr l) (lvT tr l) x d1 ∧ ∃ y, bd_can (bd_sh (lvO tr l) x d1) (lvT tr l) y d2)) → (26 - k).toNat < mm → J L X 5 0 0 [(mo, .inr (4, [.int (z_i len), .ref ms, .int (z_i stg), .int (z_i mv), .ref mb, .int (z_i stk), .int (z_i hol), .int (z_i cn), .int (z_i cs), .int (z_i hi), .int (z_i lo), .int (z_i hs), .int (z_i ls), .int (z_i du), .ref mt, .ref mf, .ref mc, .int (z_i kw)])), (ms, aI L 2 sco), (mb, aI L 52 bb), (mt, aI L 312 gk), (mf, aI L 6 fr), (mc, aL L 625 chn)] [(4, .int (z_i k)), (0, .ref mo), (1, .int (z_i l)), (2, .int (z_i d1)), (3, .int (z_i d2))] [] 3 := by
    intro mm
    induction mm with
    | zero => intro k gk hk hgk hlo hr hme; exact absurd hme (Nat.not_lt_zero _)
    | succ mm ih3 =>
      intro k gk hk hgk hlo hr hme
      have hLv := lv_cong (g := tr) (g' := gk) (l := l) (fun j _ h => hlo j (by omega))
      refine J_iload E 0 d_M_both_3 rfl ?_
      refine J_bipush E d_M_both_5 (by decide) ?_
      refine J_icmp_ge E 48 d_M_both_7 (by decide) (by exact ⟨⟨by omega, by omega⟩, ⟨by omega, by omega⟩⟩) (fun h7 => ?_) (fun h7 => ?_)
      · refine J_iconst E d_M_both_48 ?_
        exact J_zreturn E F (by omega) (b2_f (fun ⟨x, q⟩ => hr x (by have := q.1.2.1; omega) q)).symm ⟨gk, hgk, hlo, rfl⟩ d_M_both_49
      · refine J_aload_n E 1 d_M_both_10 rfl rfl ?_
        refine J_iload_n E 2 d_M_both_11 rfl rfl ?_
        refine J_iload E 0 d_M_both_12 rfl ?_
        refine J_iload_n E 3 d_M_both_14 rfl rfl ?_
        refine J_callV (wr := []) (rest := []) E kb_M_can t_2_168 t_2_170 ts_M_can (c_M_can L mo ms mb mt mf mc len stg mv stk hol cn cs hi lo hs ls du kw sco bb gk fr chn l k d1 hgk ⟨by omega, by omega⟩ hd1) (fun h => h) (Rm_h (by decide) (by decide)) [0, 1, 2, 3, 4, 5] [] rfl rfl rfl rfl (by decide) 0 rfl rfl rfl rfl (Nat.le_of_ble_eq_true rfl) d_M_both_15 (fun w' hw => ?_)
        obtain rfl : w' = [(mo, .inr (4, [.int (z_i len), .ref ms, .int (z_i stg), .int (z_i mv), .ref mb, .int (z_i stk), .int (z_i hol), .int (z_i cn), .int (z_i cs), .int (z_i hi), .int (z_i lo), .int (z_i hs), .int (z_i ls), .int (z_i du), .ref mt, .ref mf, .ref mc, .int (z_i kw)])), (ms, aI L 2 sco), (mb, aI L 52 bb), (mt, aI L 312 gk), (mf, aI L 6 fr), (mc, aL L 625 chn)] := hw
        show J L X 5 0 0 [(mo, .inr (4, [.int (z_i len), .ref ms, .int (z_i stg), .int (z_i mv), .ref mb, .int (z_i stk), .int (z_i hol), .int (z_i cn), .int (z_i cs), .int (z_i hi), .int (z_i lo), .int (z_i hs), .int (z_i ls), .int (z_i du), .ref mt, .ref mf, .ref mc, .int (z_i kw)])), (ms, aI L 2 sco), (mb, aI L 52 bb), (mt, aI L 312 gk), (mf, aI L 6 fr), (mc, aL L 625 chn)] [(4, .int (z_i k)), (0, .ref mo), (1, .int (z_i l)), (2, .int (z_i d1)), (3, .int (z_i d2))] [.int (z_i (b2 (bd_can (lvO gk l) (lvT gk l) k d1)))] 18
        refine J_if_eq E 42 d_M_both_18 (by decide) (b2_r _) (fun h18 => ?_) (fun h18 => ?_)
        · have hcn := b2_not h18
          have hcn2 : ¬ bd_can (lvO tr l) (lvT tr l) k d1 := by rw [← hLv.1, ← hLv.2]; exact hcn
          refine J_iinc E 0 [(4, .int (z_i (k + 1))), (0, .ref mo), (1, .int (z_i l)), (2, .int (z_i d1)), (3, .int (z_i d2))] d_M_both_42 rfl (by decide) rfl ?_
          refine J_goto E 3 d_M_both_45 (by decide) ?_
          exact ih3 (k + 1) gk (by omega) hgk hlo (fun x hx q => by rcases (show x = k ∨ x < k by omega) with e | e; exact hcn2 (e ▸ q.1); exact hr x e q) (by omega)
        · have hcn := b2_of h18
          have hcn2 : bd_can (lvO tr l) (lvT tr l) k d1 := by rw [← hLv.1, ← hLv.2]; exact hcn
          refine J_aload_n E 1 d_M_both_21 rfl rfl ?_
          refine J_iload_n E 2 d_M_both_22 rfl rfl ?_
          refine J_iload E 0 d_M_both_23 rfl ?_
          refine J_iload_n E 3 d_M_both_25 rfl rfl ?_
          refine J_callV (wr := []) (rest := []) E kb_M_make t_2_180 t_2_182 ts_M_make (c_M_make L mo ms mb mt mf mc len stg mv stk hol cn cs hi lo hs ls du kw sco bb gk fr chn l k d1 hgk (by omega) (by rw [hLv.1]; exact hO) (by rw [hLv.2]; exact hT) hcn) (fun h => h) (Rm_h (by decide) (by decide)) [0, 1, 2, 3, 4, 5] [] rfl rfl rfl rfl (by decide) 0 rfl rfl rfl rfl (Nat.le_of_ble_eq_true rfl) d_M_both_26 (fun w' hw => ?_)
          obtain ⟨gm, hm, hw⟩ := hw
          obtain rfl : w' = [(mo, .inr (4, [.int (z_i len), .ref ms, .int (z_i stg), .int (z_i mv), .ref mb, .int (z_i stk), .int (z_i hol), .int (z_i cn), .int (z_i cs), .int (z_i hi), .int (z_i lo), .int (z_i hs), .int (z_i ls), .int (z_i du), .ref mt, .ref mf, .ref mc, .int (z_i kw)])), (ms, aI L 2 sco), (mb, aI L 52 bb), (mt, aI L 312 gm), (mf, aI L 6 fr), (mc, aL L 625 chn)] := hw
          show J L X 5 0 0 [(mo, .inr (4, [.int (z_i len), .ref ms, .int (z_i stg), .int (z_i mv), .ref mb, .int (z_i stk), .int (z_i hol), .int (z_i cn), .int (z_i cs), .int (z_i hi), .int (z_i lo), .int (z_i hs), .int (z_i ls), .int (z_i du), .ref mt, .ref mf, .ref mc, .int (z_i kw)])), (ms, aI L 2 sco), (mb, aI L 52 bb), (mt, aI L 312 gm), (mf, aI L 6 fr), (mc, aL L 625 chn)] [(4, .int (z_i k)), (0, .ref mo), (1, .int (z_i l)), (2, .int (z_i d1)), (3, .int (z_i d2))] [] 29
          refine J_aload_n E 1 d_M_both_29 rfl rfl ?_
          refine J_iload_n E 2 d_M_both_30 rfl rfl ?_
          refine J_iconst E d_M_both_31 ?_
          refine J_iadd E d_M_both_32 ?_
          refine J_iload_n E 4 d_M_both_33 rfl rfl ?_
          refine J_callV (wr := []) (rest := []) E kb_M_any t_2_184 t_2_186 ts_M_any (c_M_any L mo ms mb mt mf mc len stg mv stk hol cn cs hi lo hs ls du kw sco bb gm fr chn (l + 1) d2 hm.1 (by omega) hd2) (fun h => h) (Rm_h (by decide) (by decide)) [0, 1, 2, 3, 4, 5] [] rfl rfl rfl rfl (by decide) 0 rfl rfl rfl rfl (Nat.le_of_ble_eq_true rfl) d_M_both_34 (fun w' hw => ?_)
          obtain rfl : w' = [(mo, .inr (4, [.int (z_i len), .ref ms, .int (z_i stg), .int (z_i mv), .ref mb, .int (z_i stk), .int (z_i hol), .int (z_i cn), .int (z_i cs), .int (z_i hi), .int (z_i lo), .int (z_i hs), .int (z_i ls), .int (z_i du), .ref mt, .ref mf, .ref mc, .int (z_i kw)])), (ms, aI L 2 sco), (mb, aI L 52 bb), (mt, aI L 312 gm), (mf, aI L 6 fr), (mc, aL L 625 chn)] := hw
          show J L X 5 0 0 [(mo, .inr (4, [.int (z_i len), .ref ms, .int (z_i stg), .int (z_i mv), .ref mb, .int (z_i stk), .int (z_i hol), .int (z_i cn), .int (z_i cs), .int (z_i hi), .int (z_i lo), .int (z_i hs), .int (z_i ls), .int (z_i du), .ref mt, .ref mf, .ref mc, .int (z_i kw)])), (ms, aI L 2 sco), (mb, aI L 52 bb), (mt, aI L 312 gm), (mf, aI L 6 fr), (mc, aL L 625 chn)] [(4, .int (z_i k)), (0, .ref mo), (1, .int (z_i l)), (2, .int (z_i d1)), (3, .int (z_i d2))] [.int (z_i (b2 (∃ f, bd_can (lvO gm (l + 1)) (lvT gm (l + 1)) f d2)))] 37
          refine J_if_eq E 42 d_M_both_37 (by decide) (b2_r _) (fun h37 => ?_) (fun h37 => ?_)
          · have ha2 : ¬ ∃ y, bd_can (bd_sh (lvO gk l) k d1) (lvT gk l) y d2 := fun z => b2_not h37 ((bo_mk hcn hm).mpr z)
            rw [hLv.1, hLv.2] at ha2
            refine J_iinc E 0 [(4, .int (z_i (k + 1))), (0, .ref mo), (1, .int (z_i l)), (2, .int (z_i d1)), (3, .int (z_i d2))] d_M_both_42 rfl (by decide) rfl ?_
            refine J_goto E 3 d_M_both_45 (by decide) ?_
            exact ih3 (k + 1) gm (by omega) hm.1 (fun j hj => by rw [hm.2.1 j hj]; exact hlo j hj) (fun x hx q => by rcases (show x = k ∨ x < k by omega) with e | e; (subst e; exact ha2 q.2); exact hr x e q) (by omega)
          · have ha2 := (bo_mk hcn hm).mp (b2_of h37)
            rw [hLv.1, hLv.2] at ha2
            refine J_iconst E d_M_both_40 ?_
            exact J_zreturn E F (by omega) (b2_t ⟨k, hcn2, ha2⟩).symm ⟨gm, hm.1, fun j hj => by rw [hm.2.1 j hj]; exact hlo j hj, rfl⟩ d_M_both_41
  exact C3 _ 1 tr (by decide) hg (fun _ _ => rfl) (fun x hx q => by have := q.1.1; omega) (Nat.lt_succ_self _)
set_option maxHeartbeats 4000000 in
set_option maxRecDepth 100000 in
theorem c_M_dueAt (L : Lx) (mo ms mb mt mf mc : Nat) (len stg mv stk hol cn cs hi lo hs ls du kw : Int) (sco bb tr fr chn : Int → Int) (l oh ol : Int) (hg : gb tr) (hl : 0 ≤ l ∧ l ≤ 1) (hO : bd_ok (lvO tr l)) (hT : bd_ok (lvT tr l)) (hk : dk hi lo oh ol) : CtG L y_M_dueAt b_M_dueAt 4 (some .int) (rmh 5) false 0 0 [.ref mo, .int (z_i l), .int (z_i oh), .int (z_i ol)] [(mo, .inr (4, [.int (z_i len), .ref ms, .int (z_i stg), .int (z_i mv), .ref mb, .int (z_i stk), .int (z_i hol), .int (z_i cn), .int (z_i cs), .int (z_i hi), .int (z_i lo), .int (z_i hs), .int (z_i ls), .int (z_i du), .ref mt, .ref mf, .ref mc, .int (z_i kw)])), (ms, aI L 2 sco), (mb, aI L 52 bb), (mt, aI L 312 tr), (mf, aI L 6 fr), (mc, aL L 625 chn)] (fun u => ∃ g2 f2 : Int → Int, gb g2 ∧ (∀ j, j < 52 * l + 52 → g2 j = tr j) ∧ u = [(mo, .inr (4, [.int (z_i len), .ref ms, .int (z_i stg), .int (z_i mv), .ref mb, .int (z_i stk), .int (z_i hol), .int (z_i cn), .int (z_i cs), .int (z_i hi), .int (z_i lo), .int (z_i hs), .int (z_i ls), .int (z_i du), .ref mt, .ref mf, .ref mc, .int (z_i kw)])), (ms, aI L 2 sco), (mb, aI L 52 bb), (mt, aI L 312 g2), (mf, aI L 6 f2), (mc, aL L 625 chn)]) (some (.int (z_i (((bd_due (lvT tr l) (dcf hi lo oh ol) (lvO tr l) : Nat) : Int))))) := by
  refine CtG.of rfl (Nat.le_of_ble_eq_true rfl) (fun X E F => ?_)
  show J L X 4 0 0 [(mo, .inr (4, [.int (z_i len), .ref ms, .int (z_i stg), .int (z_i mv), .ref mb, .int (z_i stk), .int (z_i hol), .int (z_i cn), .int (z_i cs), .int (z_i hi), .int (z_i lo), .int (z_i hs), .int (z_i ls), .int (z_i du), .ref mt, .ref mf, .ref mc, .int (z_i kw)])), (ms, aI L 2 sco), (mb, aI L 52 bb), (mt, aI L 312 tr), (mf, aI L 6 fr), (mc, aL L 625 chn)] [(0, .ref mo), (1, .int (z_i l)), (2, .int (z_i oh)), (3, .int (z_i ol))] [] 0
  obtain ⟨k1, k2, k3, k4, k5, k6, k7⟩ := id hk
  refine J_iload_n E 2 d_M_dueAt_0 rfl rfl ?_
  refine J_if_le E 72 d_M_dueAt_1 (by decide) (by exact ⟨by omega, by omega⟩) (fun h1 => ?_) (fun h1 => ?_)
  · refine J_iload_n E 2 d_M_dueAt_72 rfl rfl ?_
    refine J_if_le E 89 d_M_dueAt_73 (by decide) (by exact ⟨by omega, by omega⟩) (fun h73 => ?_) (fun h73 => ?_)
    · refine J_aload_n E 0 d_M_dueAt_89 rfl rfl ?_
      refine J_iload_n E 1 d_M_dueAt_90 rfl rfl ?_
      refine J_aload_n E 0 d_M_dueAt_91 rfl rfl ?_
      refine g_M_64 E 0 rfl rfl d_M_dueAt_92 ?_
      refine J_iload_n E 3 d_M_dueAt_95 rfl rfl ?_
      refine J_callV (wr := []) (rest := []) E kb_M_longest t_2_188 t_2_190 ts_M_longest (c_M_longest L mo ms mb mt mf mc len stg mv stk hol cn cs hi lo hs ls du kw sco bb tr fr chn l lo ol hg hl hO hT (by omega) (by omega)) (fun h => h) (Rm_h (by decide) (by decide)) [0, 1, 2, 3, 4, 5] [] rfl rfl rfl rfl (by decide) 0 rfl rfl rfl rfl (Nat.le_of_ble_eq_true rfl) d_M_dueAt_96 (fun w' hw => ?_)
      obtain ⟨gl1, fl2, hgl1, hqgl1, hw⟩ := hw
      obtain rfl : w' = [(mo, .inr (4, [.int (z_i len), .ref ms, .int (z_i stg), .int (z_i mv), .ref mb, .int (z_i stk), .int (z_i hol), .int (z_i cn), .int (z_i cs), .int (z_i hi), .int (z_i lo), .int (z_i hs), .int (z_i ls), .int (z_i du), .ref mt, .ref mf, .ref mc, .int (z_i kw)])), (ms, aI L 2 sco), (mb, aI L 52 bb), (mt, aI L 312 gl1), (mf, aI L 6 fl2), (mc, aL L 625 chn)] := hw
      show J L X 4 0 0 [(mo, .inr (4, [.int (z_i len), .ref ms, .int (z_i stg), .int (z_i mv), .ref mb, .int (z_i stk), .int (z_i hol), .int (z_i cn), .int (z_i cs), .int (z_i hi), .int (z_i lo), .int (z_i hs), .int (z_i ls), .int (z_i du), .ref mt, .ref mf, .ref mc, .int (z_i kw)])), (ms, aI L 2 sco), (mb, aI L 52 bb), (mt, aI L 312 gl1), (mf, aI L 6 fl2), (mc, aL L 625 chn)] [(0, .ref mo), (1, .int (z_i l)), (2, .int (z_i oh)), (3, .int (z_i ol))] [.int (z_i (((bd_due (lvT tr l) (dcf lo 0 ol 0) (lvO tr l) : Nat) : Int)))] 99
      exact J_ireturn E F (by rw [due_lo (hi := hi) (hs := oh) (by omega) (by omega)]) ⟨gl1, fl2, hgl1, hqgl1, rfl⟩ d_M_dueAt_99
    · refine J_aload_n E 0 d_M_dueAt_76 rfl rfl ?_
      refine J_iload_n E 1 d_M_dueAt_77 rfl rfl ?_
      refine J_aload_n E 0 d_M_dueAt_78 rfl rfl ?_
      refine g_M_61 E 0 rfl rfl d_M_dueAt_79 ?_
      refine J_iload_n E 2 d_M_dueAt_82 rfl rfl ?_
      refine J_callV (wr := []) (rest := []) E kb_M_longest t_2_188 t_2_190 ts_M_longest (c_M_longest L mo ms mb mt mf mc len stg mv stk hol cn cs hi lo hs ls du kw sco bb tr fr chn l hi oh hg hl hO hT (by omega) (by omega)) (fun h => h) (Rm_h (by decide) (by decide)) [0, 1, 2, 3, 4, 5] [] rfl rfl rfl rfl (by decide) 0 rfl rfl rfl rfl (Nat.le_of_ble_eq_true rfl) d_M_dueAt_83 (fun w' hw => ?_)
      obtain ⟨gl3, fl4, hgl3, hqgl3, hw⟩ := hw
      obtain rfl : w' = [(mo, .inr (4, [.int (z_i len), .ref ms, .int (z_i stg), .int (z_i mv), .ref mb, .int (z_i stk), .int (z_i hol), .int (z_i cn), .int (z_i cs), .int (z_i hi), .int (z_i lo), .int (z_i hs), .int (z_i ls), .int (z_i du), .ref mt, .ref mf, .ref mc, .int (z_i kw)])), (ms, aI L 2 sco), (mb, aI L 52 bb), (mt, aI L 312 gl3), (mf, aI L 6 fl4), (mc, aL L 625 chn)] := hw
      show J L X 4 0 0 [(mo, .inr (4, [.int (z_i len), .ref ms, .int (z_i stg), .int (z_i mv), .ref mb, .int (z_i stk), .int (z_i hol), .int (z_i cn), .int (z_i cs), .int (z_i hi), .int (z_i lo), .int (z_i hs), .int (z_i ls), .int (z_i du), .ref mt, .ref mf, .ref mc, .int (z_i kw)])), (ms, aI L 2 sco), (mb, aI L 52 bb), (mt, aI L 312 gl3), (mf, aI L 6 fl4), (mc, aL L 625 chn)] [(0, .ref mo), (1, .int (z_i l)), (2, .int (z_i oh)), (3, .int (z_i ol))] [.int (z_i (((bd_due (lvT tr l) (dcf hi 0 oh 0) (lvO tr l) : Nat) : Int)))] 86
      refine J_goto E 99 d_M_dueAt_86 (by decide) ?_
      exact J_ireturn E F (by rw [due_hi (lo := lo) (ls := ol) (by omega)]) ⟨gl3, fl4, hgl3, hqgl3, rfl⟩ d_M_dueAt_99
  · refine J_iload_n E 3 d_M_dueAt_4 rfl rfl ?_
    refine J_if_le E 72 d_M_dueAt_5 (by decide) (by exact ⟨by omega, by omega⟩) (fun h5 => ?_) (fun h5 => ?_)
    · refine J_iload_n E 2 d_M_dueAt_72 rfl rfl ?_
      refine J_if_le E 89 d_M_dueAt_73 (by decide) (by exact ⟨by omega, by omega⟩) (fun h73 => ?_) (fun h73 => ?_)
      · refine J_aload_n E 0 d_M_dueAt_89 rfl rfl ?_
        refine J_iload_n E 1 d_M_dueAt_90 rfl rfl ?_
        refine J_aload_n E 0 d_M_dueAt_91 rfl rfl ?_
        refine g_M_64 E 0 rfl rfl d_M_dueAt_92 ?_
        refine J_iload_n E 3 d_M_dueAt_95 rfl rfl ?_
        refine J_callV (wr := []) (rest := []) E kb_M_longest t_2_188 t_2_190 ts_M_longest (c_M_longest L mo ms mb mt mf mc len stg mv stk hol cn cs hi lo hs ls du kw sco bb tr fr chn l lo ol hg hl hO hT (by omega) (by omega)) (fun h => h) (Rm_h (by decide) (by decide)) [0, 1, 2, 3, 4, 5] [] rfl rfl rfl rfl (by decide) 0 rfl rfl rfl rfl (Nat.le_of_ble_eq_true rfl) d_M_dueAt_96 (fun w' hw => ?_)
        obtain ⟨gl5, fl6, hgl5, hqgl5, hw⟩ := hw
        obtain rfl : w' = [(mo, .inr (4, [.int (z_i len), .ref ms, .int (z_i stg), .int (z_i mv), .ref mb, .int (z_i stk), .int (z_i hol), .int (z_i cn), .int (z_i cs), .int (z_i hi), .int (z_i lo), .int (z_i hs), .int (z_i ls), .int (z_i du), .ref mt, .ref mf, .ref mc, .int (z_i kw)])), (ms, aI L 2 sco), (mb, aI L 52 bb), (mt, aI L 312 gl5), (mf, aI L 6 fl6), (mc, aL L 625 chn)] := hw
        show J L X 4 0 0 [(mo, .inr (4, [.int (z_i len), .ref ms, .int (z_i stg), .int (z_i mv), .ref mb, .int (z_i stk), .int (z_i hol), .int (z_i cn), .int (z_i cs), .int (z_i hi), .int (z_i lo), .int (z_i hs), .int (z_i ls), .int (z_i du), .ref mt, .ref mf, .ref mc, .int (z_i kw)])), (ms, aI L 2 sco), (mb, aI L 52 bb), (mt, aI L 312 gl5), (mf, aI L 6 fl6), (mc, aL L 625 chn)] [(0, .ref mo), (1, .int (z_i l)), (2, .int (z_i oh)), (3, .int (z_i ol))] [.int (z_i (((bd_due (lvT tr l) (dcf lo 0 ol 0) (lvO tr l) : Nat) : Int)))] 99
        exact J_ireturn E F (by rw [due_lo (hi := hi) (hs := oh) (by omega) (by omega)]) ⟨gl5, fl6, hgl5, hqgl5, rfl⟩ d_M_dueAt_99
      · refine J_aload_n E 0 d_M_dueAt_76 rfl rfl ?_
        refine J_iload_n E 1 d_M_dueAt_77 rfl rfl ?_
        refine J_aload_n E 0 d_M_dueAt_78 rfl rfl ?_
        refine g_M_61 E 0 rfl rfl d_M_dueAt_79 ?_
        refine J_iload_n E 2 d_M_dueAt_82 rfl rfl ?_
        refine J_callV (wr := []) (rest := []) E kb_M_longest t_2_188 t_2_190 ts_M_longest (c_M_longest L mo ms mb mt mf mc len stg mv stk hol cn cs hi lo hs ls du kw sco bb tr fr chn l hi oh hg hl hO hT (by omega) (by omega)) (fun h => h) (Rm_h (by decide) (by decide)) [0, 1, 2, 3, 4, 5] [] rfl rfl rfl rfl (by decide) 0 rfl rfl rfl rfl (Nat.le_of_ble_eq_true rfl) d_M_dueAt_83 (fun w' hw => ?_)
        obtain ⟨gl7, fl8, hgl7, hqgl7, hw⟩ := hw
        obtain rfl : w' = [(mo, .inr (4, [.int (z_i len), .ref ms, .int (z_i stg), .int (z_i mv), .ref mb, .int (z_i stk), .int (z_i hol), .int (z_i cn), .int (z_i cs), .int (z_i hi), .int (z_i lo), .int (z_i hs), .int (z_i ls), .int (z_i du), .ref mt, .ref mf, .ref mc, .int (z_i kw)])), (ms, aI L 2 sco), (mb, aI L 52 bb), (mt, aI L 312 gl7), (mf, aI L 6 fl8), (mc, aL L 625 chn)] := hw
        show J L X 4 0 0 [(mo, .inr (4, [.int (z_i len), .ref ms, .int (z_i stg), .int (z_i mv), .ref mb, .int (z_i stk), .int (z_i hol), .int (z_i cn), .int (z_i cs), .int (z_i hi), .int (z_i lo), .int (z_i hs), .int (z_i ls), .int (z_i du), .ref mt, .ref mf, .ref mc, .int (z_i kw)])), (ms, aI L 2 sco), (mb, aI L 52 bb), (mt, aI L 312 gl7), (mf, aI L 6 fl8), (mc, aL L 625 chn)] [(0, .ref mo), (1, .int (z_i l)), (2, .int (z_i oh)), (3, .int (z_i ol))] [.int (z_i (((bd_due (lvT tr l) (dcf hi 0 oh 0) (lvO tr l) : Nat) : Int)))] 86
        refine J_goto E 99 d_M_dueAt_86 (by decide) ?_
        exact J_ireturn E F (by rw [due_hi (lo := lo) (ls := ol) (by omega)]) ⟨gl7, fl8, hgl7, hqgl7, rfl⟩ d_M_dueAt_99
    · refine J_aload_n E 0 d_M_dueAt_8 rfl rfl ?_
      refine J_iload_n E 1 d_M_dueAt_9 rfl rfl ?_
      refine J_aload_n E 0 d_M_dueAt_10 rfl rfl ?_
      refine g_M_61 E 0 rfl rfl d_M_dueAt_11 ?_
      refine J_aload_n E 0 d_M_dueAt_14 rfl rfl ?_
      refine g_M_64 E 0 rfl rfl d_M_dueAt_15 ?_
      refine J_callV (wr := []) (rest := []) E kb_M_both t_2_164 t_2_166 ts_M_both (c_M_both L mo ms mb mt mf mc len stg mv stk hol cn cs hi lo hs ls du kw sco bb tr fr chn l hi lo hg hl hO hT (by omega) (by omega)) (fun h => h) (Rm_h (by decide) (by decide)) [0, 1, 2, 3, 4, 5] [] rfl rfl rfl rfl (by decide) 0 rfl rfl rfl rfl (Nat.le_of_ble_eq_true rfl) d_M_dueAt_18 (fun w' hw => ?_)
      obtain ⟨gl9, hgl9, hgl9p, hw⟩ := hw
      obtain rfl : w' = [(mo, .inr (4, [.int (z_i len), .ref ms, .int (z_i stg), .int (z_i mv), .ref mb, .int (z_i stk), .int (z_i hol), .int (z_i cn), .int (z_i cs), .int (z_i hi), .int (z_i lo), .int (z_i hs), .int (z_i ls), .int (z_i du), .ref mt, .ref mf, .ref mc, .int (z_i kw)])), (ms, aI L 2 sco), (mb, aI L 52 bb), (mt, aI L 312 gl9), (mf, aI L 6 fr), (mc, aL L 625 chn)] := hw
      have hgl9q := hgl9p
      have hvgl9 := lv_cong (g := tr) (g' := gl9) (l := l) (fun j _ h => hgl9q j (by omega))
      show J L X 4 0 0 [(mo, .inr (4, [.int (z_i len), .ref ms, .int (z_i stg), .int (z_i mv), .ref mb, .int (z_i stk), .int (z_i hol), .int (z_i cn), .int (z_i cs), .int (z_i hi), .int (z_i lo), .int (z_i hs), .int (z_i ls), .int (z_i du), .ref mt, .ref mf, .ref mc, .int (z_i kw)])), (ms, aI L 2 sco), (mb, aI L 52 bb), (mt, aI L 312 gl9), (mf, aI L 6 fr), (mc, aL L 625 chn)] [(0, .ref mo), (1, .int (z_i l)), (2, .int (z_i oh)), (3, .int (z_i ol))] [.int (z_i (b2 (bo_p (lvO tr l) (lvT tr l) hi lo)))] 21
      refine J_if_ne E 40 d_M_dueAt_21 (by decide) (b2_r _) (fun h21 => ?_) (fun h21 => ?_)
      · have z21 := b2_of h21
        refine J_iconst E d_M_dueAt_40 ?_
        exact J_ireturn E F (by have e1 : oh = 1 := (by omega); have e2 : ol = 1 := (by omega); subst e1; subst e2; exact due2_2 hk (by first | exact Or.inl z21 | exact Or.inr z37)) ⟨gl9, fr, hgl9, hgl9q, rfl⟩ d_M_dueAt_41
      · have z21 := b2_not h21
        refine J_aload_n E 0 d_M_dueAt_24 rfl rfl ?_
        refine J_iload_n E 1 d_M_dueAt_25 rfl rfl ?_
        refine J_aload_n E 0 d_M_dueAt_26 rfl rfl ?_
        refine g_M_64 E 0 rfl rfl d_M_dueAt_27 ?_
        refine J_aload_n E 0 d_M_dueAt_30 rfl rfl ?_
        refine g_M_61 E 0 rfl rfl d_M_dueAt_31 ?_
        refine J_callV (wr := []) (rest := []) E kb_M_both t_2_164 t_2_166 ts_M_both (c_M_both L mo ms mb mt mf mc len stg mv stk hol cn cs hi lo hs ls du kw sco bb gl9 fr chn l lo hi hgl9 hl (by rw [hvgl9.1]; exact hO) (by rw [hvgl9.2]; exact hT) (by omega) (by omega)) (fun h => h) (Rm_h (by decide) (by decide)) [0, 1, 2, 3, 4, 5] [] rfl rfl rfl rfl (by decide) 0 rfl rfl rfl rfl (Nat.le_of_ble_eq_true rfl) d_M_dueAt_34 (fun w' hw => ?_)
        obtain ⟨gl10, hgl10, hgl10p, hw⟩ := hw
        obtain rfl : w' = [(mo, .inr (4, [.int (z_i len), .ref ms, .int (z_i stg), .int (z_i mv), .ref mb, .int (z_i stk), .int (z_i hol), .int (z_i cn), .int (z_i cs), .int (z_i hi), .int (z_i lo), .int (z_i hs), .int (z_i ls), .int (z_i du), .ref mt, .ref mf, .ref mc, .int (z_i kw)])), (ms, aI L 2 sco), (mb, aI L 52 bb), (mt, aI L 312 gl10), (mf, aI L 6 fr), (mc, aL L 625 chn)] := hw
        have hgl10q : ∀ j, j < 52 * l + 52 → gl10 j = tr j := fun j hj => (hgl10p j hj).trans (hgl9q j hj)
        have hvgl10 := lv_cong (g := tr) (g' := gl10) (l := l) (fun j _ h => hgl10q j (by omega))
        show J L X 4 0 0 [(mo, .inr (4, [.int (z_i len), .ref ms, .int (z_i stg), .int (z_i mv), .ref mb, .int (z_i stk), .int (z_i hol), .int (z_i cn), .int (z_i cs), .int (z_i hi), .int (z_i lo), .int (z_i hs), .int (z_i ls), .int (z_i du), .ref mt, .ref mf, .ref mc, .int (z_i kw)])), (ms, aI L 2 sco), (mb, aI L 52 bb), (mt, aI L 312 gl10), (mf, aI L 6 fr), (mc, aL L 625 chn)] [(0, .ref mo), (1, .int (z_i l)), (2, .int (z_i oh)), (3, .int (z_i ol))] [.int (z_i (b2 (bo_p (lvO gl9 l) (lvT gl9 l) lo hi)))] 37
        refine J_if_eq E 42 d_M_dueAt_37 (by decide) (b2_r _) (fun h37 => ?_) (fun h37 => ?_)
        · have z37 := b2_not h37
          rw [hvgl9.1, hvgl9.2] at z37
          refine J_aload_n E 0 d_M_dueAt_42 rfl rfl ?_
          refine J_iload_n E 1 d_M_dueAt_43 rfl rfl ?_
          refine J_aload_n E 0 d_M_dueAt_44 rfl rfl ?_
          refine g_M_61 E 0 rfl rfl d_M_dueAt_45 ?_
          refine J_callV (wr := []) (rest := []) E kb_M_any t_2_184 t_2_186 ts_M_any (c_M_any L mo ms mb mt mf mc len stg mv stk hol cn cs hi lo hs ls du kw sco bb gl10 fr chn l hi hgl10 (by omega) (by omega)) (fun h => h) (Rm_h (by decide) (by decide)) [0, 1, 2, 3, 4, 5] [] rfl rfl rfl rfl (by decide) 0 rfl rfl rfl rfl (Nat.le_of_ble_eq_true rfl) d_M_dueAt_48 (fun w' hw => ?_)
          obtain rfl : w' = [(mo, .inr (4, [.int (z_i len), .ref ms, .int (z_i stg), .int (z_i mv), .ref mb, .int (z_i stk), .int (z_i hol), .int (z_i cn), .int (z_i cs), .int (z_i hi), .int (z_i lo), .int (z_i hs), .int (z_i ls), .int (z_i du), .ref mt, .ref mf, .ref mc, .int (z_i kw)])), (ms, aI L 2 sco), (mb, aI L 52 bb), (mt, aI L 312 gl10), (mf, aI L 6 fr), (mc, aL L 625 chn)] := hw
          show J L X 4 0 0 [(mo, .inr (4, [.int (z_i len), .ref ms, .int (z_i stg), .int (z_i mv), .ref mb, .int (z_i stk), .int (z_i hol), .int (z_i cn), .int (z_i cs), .int (z_i hi), .int (z_i lo), .int (z_i hs), .int (z_i ls), .int (z_i du), .ref mt, .ref mf, .ref mc, .int (z_i kw)])), (ms, aI L 2 sco), (mb, aI L 52 bb), (mt, aI L 312 gl10), (mf, aI L 6 fr), (mc, aL L 625 chn)] [(0, .ref mo), (1, .int (z_i l)), (2, .int (z_i oh)), (3, .int (z_i ol))] [.int (z_i (b2 (∃ f, bd_can (lvO gl10 l) (lvT gl10 l) f hi)))] 51
          refine J_if_ne E 66 d_M_dueAt_51 (by decide) (b2_r _) (fun h51 => ?_) (fun h51 => ?_)
          · have z51 := b2_of h51
            rw [hvgl10.1, hvgl10.2] at z51
            refine J_iconst E d_M_dueAt_66 ?_
            refine J_goto E 71 d_M_dueAt_67 (by decide) ?_
            exact J_ireturn E F (by have e1 : oh = 1 := (by omega); have e2 : ol = 1 := (by omega); subst e1; subst e2; exact due2_1 hk (fun q => q.elim z21 z37) (by first | exact Or.inl z51 | exact Or.inr z63)) ⟨gl10, fr, hgl10, hgl10q, rfl⟩ d_M_dueAt_71
          · have z51 := b2_not h51
            rw [hvgl10.1, hvgl10.2] at z51
            refine J_aload_n E 0 d_M_dueAt_54 rfl rfl ?_
            refine J_iload_n E 1 d_M_dueAt_55 rfl rfl ?_
            refine J_aload_n E 0 d_M_dueAt_56 rfl rfl ?_
            refine g_M_64 E 0 rfl rfl d_M_dueAt_57 ?_
            refine J_callV (wr := []) (rest := []) E kb_M_any t_2_184 t_2_186 ts_M_any (c_M_any L mo ms mb mt mf mc len stg mv stk hol cn cs hi lo hs ls du kw sco bb gl10 fr chn l lo hgl10 (by omega) (by omega)) (fun h => h) (Rm_h (by decide) (by decide)) [0, 1, 2, 3, 4, 5] [] rfl rfl rfl rfl (by decide) 0 rfl rfl rfl rfl (Nat.le_of_ble_eq_true rfl) d_M_dueAt_60 (fun w' hw => ?_)
            obtain rfl : w' = [(mo, .inr (4, [.int (z_i len), .ref ms, .int (z_i stg), .int (z_i mv), .ref mb, .int (z_i stk), .int (z_i hol), .int (z_i cn), .int (z_i cs), .int (z_i hi), .int (z_i lo), .int (z_i hs), .int (z_i ls), .int (z_i du), .ref mt, .ref mf, .ref mc, .int (z_i kw)])), (ms, aI L 2 sco), (mb, aI L 52 bb), (mt, aI L 312 gl10), (mf, aI L 6 fr), (mc, aL L 625 chn)] := hw
            show J L X 4 0 0 [(mo, .inr (4, [.int (z_i len), .ref ms, .int (z_i stg), .int (z_i mv), .ref mb, .int (z_i stk), .int (z_i hol), .int (z_i cn), .int (z_i cs), .int (z_i hi), .int (z_i lo), .int (z_i hs), .int (z_i ls), .int (z_i du), .ref mt, .ref mf, .ref mc, .int (z_i kw)])), (ms, aI L 2 sco), (mb, aI L 52 bb), (mt, aI L 312 gl10), (mf, aI L 6 fr), (mc, aL L 625 chn)] [(0, .ref mo), (1, .int (z_i l)), (2, .int (z_i oh)), (3, .int (z_i ol))] [.int (z_i (b2 (∃ f, bd_can (lvO gl10 l) (lvT gl10 l) f lo)))] 63
            refine J_if_eq E 70 d_M_dueAt_63 (by decide) (b2_r _) (fun h63 => ?_) (fun h63 => ?_)
            · have z63 := b2_not h63
              rw [hvgl10.1, hvgl10.2] at z63
              refine J_iconst E d_M_dueAt_70 ?_
              exact J_ireturn E F (by have e1 : oh = 1 := (by omega); have e2 : ol = 1 := (by omega); subst e1; subst e2; exact due2_0 hk (fun q => q.elim z51 z63)) ⟨gl10, fr, hgl10, hgl10q, rfl⟩ d_M_dueAt_71
            · have z63 := b2_of h63
              rw [hvgl10.1, hvgl10.2] at z63
              refine J_iconst E d_M_dueAt_66 ?_
              refine J_goto E 71 d_M_dueAt_67 (by decide) ?_
              exact J_ireturn E F (by have e1 : oh = 1 := (by omega); have e2 : ol = 1 := (by omega); subst e1; subst e2; exact due2_1 hk (fun q => q.elim z21 z37) (by first | exact Or.inl z51 | exact Or.inr z63)) ⟨gl10, fr, hgl10, hgl10q, rfl⟩ d_M_dueAt_71
        · have z37 := b2_of h37
          rw [hvgl9.1, hvgl9.2] at z37
          refine J_iconst E d_M_dueAt_40 ?_
          exact J_ireturn E F (by have e1 : oh = 1 := (by omega); have e2 : ol = 1 := (by omega); subst e1; subst e2; exact due2_2 hk (by first | exact Or.inl z21 | exact Or.inr z37)) ⟨gl10, fr, hgl10, hgl10q, rfl⟩ d_M_dueAt_41
