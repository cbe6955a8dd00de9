theorem dec5 {k : Int} (h : 0 ≤ k ∧ k < 625) : k = 125 * (k / 125) + 25 * (k / 25 % 5) + 5 * (k / 5 % 5) + k % 5 ∧ (0 ≤ k / 125 ∧ k / 125 ≤ 4) ∧ (0 ≤ k / 25 % 5 ∧ k / 25 % 5 ≤ 4) ∧ (0 ≤ k / 5 % 5 ∧ k / 5 % 5 ≤ 4) ∧ (0 ≤ k % 5 ∧ k % 5 ≤ 4) := by
  have e1 : k = 5 * (k / 5) + k % 5 := by omega
  have e2 : k / 5 = 5 * (k / 5 / 5) + k / 5 % 5 := by omega
  have e3 : k / 25 = k / 5 / 5 := by omega
  have e4 : k / 25 = 5 * (k / 25 / 5) + k / 25 % 5 := by omega
  have e5 : k / 125 = k / 25 / 5 := by omega
  refine ⟨by omega, ⟨by omega, by omega⟩, ⟨by omega, by omega⟩, ⟨by omega, by omega⟩, by omega, by omega⟩
theorem dig {X Y U V : Nat} (h1 : X < 5) (h2 : Y < 5) (h3 : U < 5) (h4 : V < 5) {k x y u v : Int} (e : ((125 * X + 25 * Y + 5 * U + V : Nat) : Int) = k) (hd : k = 125 * x + 25 * y + 5 * u + v ∧ (0 ≤ x ∧ x ≤ 4) ∧ (0 ≤ y ∧ y ≤ 4) ∧ (0 ≤ u ∧ u ≤ 4) ∧ (0 ≤ v ∧ v ≤ 4)) : x = (X : Int) ∧ y = (Y : Int) ∧ u = (U : Int) ∧ v = (V : Int) := by
  obtain ⟨e1, hx, hy, hu, hv⟩ := hd
  have a : x = (X : Int) := by omega
  have b : y = (Y : Int) := by omega
  have c : u = (U : Int) := by omega
  exact ⟨a, b, c, by omega⟩
set_option maxHeartbeats 4000000 in
set_option maxRecDepth 100000 in
theorem c_M_workAll (L : Lx) (mo ms mb mt mf mc : Nat) (len stg mv stk hol cn cs hi lo hs ls du kw : Int) (sco bb tr fr chn : Int → Int)  : CtG L y_M_workAll b_M_workAll 7 none (rmh 5) false 0 0 [.ref mo] [(mo, .inr (4, [.int (z_i len), .ref ms, .int (z_i stg), .int (z_i mv), .ref mb, .int (z_i stk), .int (z_i hol), .int (z_i cn), .int (z_i cs), .int (z_i hi), .int (z_i lo), .int (z_i hs), .int (z_i ls), .int (z_i du), .ref mt, .ref mf, .ref mc, .int (z_i kw)])), (ms, aI L 2 sco), (mb, aI L 52 bb), (mt, aI L 312 tr), (mf, aI L 6 fr), (mc, aL L 625 chn)] (fun u => ∃ c2 : Int → Int, ch_ok c2 ∧ u = [(mo, .inr (4, [.int (z_i len), .ref ms, .int (z_i stg), .int (z_i mv), .ref mb, .int (z_i stk), .int (z_i hol), .int (z_i cn), .int (z_i cs), .int (z_i hi), .int (z_i lo), .int (z_i hs), .int (z_i ls), .int (z_i du), .ref mt, .ref mf, .ref mc, .int (z_i 1)])), (ms, aI L 2 sco), (mb, aI L 52 bb), (mt, aI L 312 tr), (mf, aI L 6 fr), (mc, aL L 625 c2)]) none := by
  refine CtG.of rfl (Nat.le_of_ble_eq_true rfl) (fun X E F => ?_)
  show J L X 7 0 0 [(mo, .inr (4, [.int (z_i len), .ref ms, .int (z_i stg), .int (z_i mv), .ref mb, .int (z_i stk), .int (z_i hol), .int (z_i cn), .int (z_i cs), .int (z_i hi), .int (z_i lo), .int (z_i hs), .int (z_i ls), .int (z_i du), .ref mt, .ref mf, .ref mc, .int (z_i kw)])), (ms, aI L 2 sco), (mb, aI L 52 bb), (mt, aI L 312 tr), (mf, aI L 6 fr), (mc, aL L 625 chn)] [(0, .ref mo)] [] 0
  refine J_iconst E d_M_workAll_0 ?_
  refine J_istore_n E [(1, .int (z_i 0)), (0, .ref mo)] d_M_workAll_1 rfl (by decide) rfl ?_
  have C2 : ∀ (mm : Nat) (p : Int) (ck : Int → Int), (0 ≤ p ∧ p ≤ 17) → (∀ X Y U V : Nat, X ≤ Y → Y < 5 → U ≤ V → V < 5 → ((X + Y + U + V : Nat) : Int) < p → ck ((125 * X + 25 * Y + 5 * U + V : Nat) : Int) = ((q_ch X Y U V : Nat) : Int)) → (17 - p).toNat < mm → J L X 7 0 0 [(mo, .inr (4, [.int (z_i len), .ref ms, .int (z_i stg), .int (z_i mv), .ref mb, .int (z_i stk), .int (z_i hol), .int (z_i cn), .int (z_i cs), .int (z_i hi), .int (z_i lo), .int (z_i hs), .int (z_i ls), .int (z_i du), .ref mt, .ref mf, .ref mc, .int (z_i kw)])), (ms, aI L 2 sco), (mb, aI L 52 bb), (mt, aI L 312 tr), (mf, aI L 6 fr), (mc, aL L 625 ck)] [(1, .int (z_i p)), (0, .ref mo)] [] 2 := by
    intro mm
    induction mm with
    | zero => intro p ck hp hc hme; exact absurd hme (Nat.not_lt_zero _)
    | succ mm ih2 =>
      intro p ck hp hc hme
      refine J_iload_n E 0 d_M_workAll_2 rfl rfl ?_
      refine J_bipush E d_M_workAll_3 (by decide) ?_
      refine J_icmp_gt E 98 d_M_workAll_5 (by decide) (by exact ⟨⟨by omega, by omega⟩, ⟨by omega, by omega⟩⟩) (fun h5 => ?_) (fun h5 => ?_)
      · refine J_aload_n E 1 d_M_workAll_98 rfl rfl ?_
        refine J_iconst E d_M_workAll_99 ?_
        refine p_M_145 E 0 [(mo, .inr (4, [.int (z_i len), .ref ms, .int (z_i stg), .int (z_i mv), .ref mb, .int (z_i stk), .int (z_i hol), .int (z_i cn), .int (z_i cs), .int (z_i hi), .int (z_i lo), .int (z_i hs), .int (z_i ls), .int (z_i du), .ref mt, .ref mf, .ref mc, .int (z_i 1)])), (ms, aI L 2 sco), (mb, aI L 52 bb), (mt, aI L 312 tr), (mf, aI L 6 fr), (mc, aL L 625 ck)] rfl rfl (Nat.le_of_ble_eq_true rfl) (by omega) d_M_workAll_100 ?_
        exact J_return E F ⟨ck, fun X Y U V a1 a2 a3 a4 => hc X Y U V a1 a2 a3 a4 (by omega), rfl⟩ d_M_workAll_103
      · refine J_iconst E d_M_workAll_8 ?_
        refine J_istore_n E [(2, .int (z_i 0)), (1, .int (z_i p)), (0, .ref mo)] d_M_workAll_9 rfl (by decide) rfl ?_
        have C10 : ∀ (mm : Nat) (k : Int) (ck2 : Int → Int), (0 ≤ k ∧ k ≤ 625) → (∀ X Y U V : Nat, X ≤ Y → Y < 5 → U ≤ V → V < 5 → (((X + Y + U + V : Nat) : Int) < p ∨ (((X + Y + U + V : Nat) : Int) = p ∧ ((125 * X + 25 * Y + 5 * U + V : Nat) : Int) < k)) → ck2 ((125 * X + 25 * Y + 5 * U + V : Nat) : Int) = ((q_ch X Y U V : Nat) : Int)) → (625 - k).toNat < mm → J L X 7 0 0 [(mo, .inr (4, [.int (z_i len), .ref ms, .int (z_i stg), .int (z_i mv), .ref mb, .int (z_i stk), .int (z_i hol), .int (z_i cn), .int (z_i cs), .int (z_i hi), .int (z_i lo), .int (z_i hs), .int (z_i ls), .int (z_i du), .ref mt, .ref mf, .ref mc, .int (z_i kw)])), (ms, aI L 2 sco), (mb, aI L 52 bb), (mt, aI L 312 tr), (mf, aI L 6 fr), (mc, aL L 625 ck2)] [(2, .int (z_i k)), (1, .int (z_i p)), (0, .ref mo)] [] 10 := by
          intro mm
          induction mm with
          | zero => intro k ck2 hk hc2 hme; exact absurd hme (Nat.not_lt_zero _)
          | succ mm ih10 =>
            intro k ck2 hk hc2 hme
            refine J_iload_n E 0 d_M_workAll_10 rfl rfl ?_
            refine J_sipush E d_M_workAll_11 (by decide) ?_
            refine J_icmp_ge E 92 d_M_workAll_14 (by decide) (by exact ⟨⟨by omega, by omega⟩, ⟨by omega, by omega⟩⟩) (fun h14 => ?_) (fun h14 => ?_)
            · refine J_iinc E 1 [(1, .int (z_i (p + 1))), (2, .int (z_i k)), (0, .ref mo)] d_M_workAll_92 rfl (by decide) rfl ?_
              refine J_goto E 2 d_M_workAll_95 (by decide) ?_
              refine J_lv (lv' := [(1, .int (z_i (p + 1))), (0, .ref mo)]) [0, 2] rfl ?_
              exact ih2 (p + 1) ck2 (by omega) (fun X Y U V a1 a2 a3 a4 a5 => hc2 X Y U V a1 a2 a3 a4 (by omega)) (by omega)
            · refine J_iload_n E 0 d_M_workAll_17 rfl rfl ?_
              refine J_bipush E d_M_workAll_18 (by decide) ?_
              refine J_idiv E d_M_workAll_20 (by exact ⟨by omega, by omega, by omega, by omega⟩) ?_
              refine J_istore_n E [(3, .int (z_i (k / 125))), (2, .int (z_i k)), (1, .int (z_i p)), (0, .ref mo)] d_M_workAll_21 rfl (by decide) rfl ?_
              refine J_iload_n E 1 d_M_workAll_22 rfl rfl ?_
              refine J_bipush E d_M_workAll_23 (by decide) ?_
              refine J_idiv E d_M_workAll_25 (by exact ⟨by omega, by omega, by omega, by omega⟩) ?_
              refine J_iconst E d_M_workAll_26 ?_
              refine J_irem E d_M_workAll_27 (by exact ⟨by omega, by omega, by omega, by omega⟩) ?_
              refine J_istore E [(4, .int (z_i ((k / 25) % 5))), (3, .int (z_i (k / 125))), (2, .int (z_i k)), (1, .int (z_i p)), (0, .ref mo)] d_M_workAll_28 (by decide) rfl ?_
              refine J_iload_n E 2 d_M_workAll_30 rfl rfl ?_
              refine J_iconst E d_M_workAll_31 ?_
              refine J_idiv E d_M_workAll_32 (by exact ⟨by omega, by omega, by omega, by omega⟩) ?_
              refine J_iconst E d_M_workAll_33 ?_
              refine J_irem E d_M_workAll_34 (by exact ⟨by omega, by omega, by omega, by omega⟩) ?_
              refine J_istore E [(5, .int (z_i ((k / 5) % 5))), (4, .int (z_i ((k / 25) % 5))), (3, .int (z_i (k / 125))), (2, .int (z_i k)), (1, .int (z_i p)), (0, .ref mo)] d_M_workAll_35 (by decide) rfl ?_
              refine J_iload_n E 3 d_M_workAll_37 rfl rfl ?_
              refine J_iconst E d_M_workAll_38 ?_
              refine J_irem E d_M_workAll_39 (by exact ⟨by omega, by omega, by omega, by omega⟩) ?_
              refine J_istore E [(6, .int (z_i (k % 5))), (5, .int (z_i ((k / 5) % 5))), (4, .int (z_i ((k / 25) % 5))), (3, .int (z_i (k / 125))), (2, .int (z_i k)), (1, .int (z_i p)), (0, .ref mo)] d_M_workAll_40 (by decide) rfl ?_
              obtain ⟨x, hxq⟩ : ∃ x, x = k / 125 := ⟨_, rfl⟩
              obtain ⟨y, hyq⟩ : ∃ y, y = k / 25 % 5 := ⟨_, rfl⟩
              obtain ⟨u, huq⟩ : ∃ u, u = k / 5 % 5 := ⟨_, rfl⟩
              obtain ⟨v, hvq⟩ : ∃ v, v = k % 5 := ⟨_, rfl⟩
              have hdec : k = 125 * x + 25 * y + 5 * u + v ∧ (0 ≤ x ∧ x ≤ 4) ∧ (0 ≤ y ∧ y ≤ 4) ∧ (0 ≤ u ∧ u ≤ 4) ∧ (0 ≤ v ∧ v ≤ 4) := by rw [hxq, hyq, huq, hvq]; exact dec5 (by omega)
              rw [← hxq, ← hyq, ← huq, ← hvq]
              clear hxq hyq huq hvq
              refine J_iload_n E 3 d_M_workAll_42 rfl rfl ?_
              refine J_iload E 2 d_M_workAll_43 rfl ?_
              refine J_icmp_gt E 86 d_M_workAll_45 (by decide) (by exact ⟨⟨by omega, by omega⟩, ⟨by omega, by omega⟩⟩) (fun h45 => ?_) (fun h45 => ?_)
              · refine J_iinc E 4 [(2, .int (z_i (k + 1))), (6, .int (z_i v)), (5, .int (z_i u)), (4, .int (z_i y)), (3, .int (z_i x)), (1, .int (z_i p)), (0, .ref mo)] d_M_workAll_86 rfl (by decide) rfl ?_
                refine J_goto E 10 d_M_workAll_89 (by decide) ?_
                refine J_lv (lv' := [(2, .int (z_i (k + 1))), (1, .int (z_i p)), (0, .ref mo)]) [0, 5, 6] rfl ?_
                exact ih10 (k + 1) ck2 (by omega) (fun X Y U V a1 a2 a3 a4 a5 => by by_cases e : ((125 * X + 25 * Y + 5 * U + V : Nat) : Int) = k; (obtain ⟨b1, b2, b3, b4⟩ := dig (by omega) a2 (by omega) a4 e hdec; exact hc2 X Y U V a1 a2 a3 a4 (by omega)); exact hc2 X Y U V a1 a2 a3 a4 (by omega)) (by omega)
              · refine J_iload E 1 d_M_workAll_48 rfl ?_
                refine J_iload E 0 d_M_workAll_50 rfl ?_
                refine J_icmp_gt E 86 d_M_workAll_52 (by decide) (by exact ⟨⟨by omega, by omega⟩, ⟨by omega, by omega⟩⟩) (fun h52 => ?_) (fun h52 => ?_)
                · refine J_iinc E 4 [(2, .int (z_i (k + 1))), (6, .int (z_i v)), (5, .int (z_i u)), (4, .int (z_i y)), (3, .int (z_i x)), (1, .int (z_i p)), (0, .ref mo)] d_M_workAll_86 rfl (by decide) rfl ?_
                  refine J_goto E 10 d_M_workAll_89 (by decide) ?_
                  refine J_lv (lv' := [(2, .int (z_i (k + 1))), (1, .int (z_i p)), (0, .ref mo)]) [0, 5, 6] rfl ?_
                  exact ih10 (k + 1) ck2 (by omega) (fun X Y U V a1 a2 a3 a4 a5 => by by_cases e : ((125 * X + 25 * Y + 5 * U + V : Nat) : Int) = k; (obtain ⟨b1, b2, b3, b4⟩ := dig (by omega) a2 (by omega) a4 e hdec; exact hc2 X Y U V a1 a2 a3 a4 (by omega)); exact hc2 X Y U V a1 a2 a3 a4 (by omega)) (by omega)
                · refine J_iload_n E 3 d_M_workAll_55 rfl rfl ?_
                  refine J_iload E 2 d_M_workAll_56 rfl ?_
                  refine J_iadd E d_M_workAll_58 ?_
                  refine J_iload E 1 d_M_workAll_59 rfl ?_
                  refine J_iadd E d_M_workAll_61 ?_
                  refine J_iload E 0 d_M_workAll_62 rfl ?_
                  refine J_iadd E d_M_workAll_64 ?_
                  refine J_iload_n E 5 d_M_workAll_65 rfl rfl ?_
                  refine J_icmp_ne E 86 d_M_workAll_66 (by decide) (by exact ⟨⟨by omega, by omega⟩, ⟨by omega, by omega⟩⟩) (fun h66 => ?_) (fun h66 => ?_)
                  · refine J_iinc E 4 [(2, .int (z_i (k + 1))), (6, .int (z_i v)), (5, .int (z_i u)), (4, .int (z_i y)), (3, .int (z_i x)), (1, .int (z_i p)), (0, .ref mo)] d_M_workAll_86 rfl (by decide) rfl ?_
                    refine J_goto E 10 d_M_workAll_89 (by decide) ?_
                    refine J_lv (lv' := [(2, .int (z_i (k + 1))), (1, .int (z_i p)), (0, .ref mo)]) [0, 5, 6] rfl ?_
                    exact ih10 (k + 1) ck2 (by omega) (fun X Y U V a1 a2 a3 a4 a5 => by by_cases e : ((125 * X + 25 * Y + 5 * U + V : Nat) : Int) = k; (obtain ⟨b1, b2, b3, b4⟩ := dig (by omega) a2 (by omega) a4 e hdec; exact hc2 X Y U V a1 a2 a3 a4 (by omega)); exact hc2 X Y U V a1 a2 a3 a4 (by omega)) (by omega)
                  · refine J_aload_n E 6 d_M_workAll_69 rfl rfl ?_
                    refine g_M_29 E 0 rfl rfl d_M_workAll_70 ?_
                    refine J_iload_n E 4 d_M_workAll_73 rfl rfl ?_
                    refine J_aload_n E 6 d_M_workAll_74 rfl rfl ?_
                    refine J_iload_n E 3 d_M_workAll_75 rfl rfl ?_
                    refine J_iload E 2 d_M_workAll_76 rfl ?_
                    refine J_iload E 1 d_M_workAll_78 rfl ?_
                    refine J_iload E 0 d_M_workAll_80 rfl ?_
                    refine J_callV (wr := []) (rest := [.int (z_i k), .ref mc]) E kb_M_work t_3_41 t_3_43 ts_M_work (c_M_work L mo ms mb mt mf mc len stg mv stk hol cn cs hi lo hs ls du kw sco bb tr fr ck2 x y u v ⟨by omega, by omega, by omega⟩ ⟨by omega, by omega, by omega⟩ (fun X Y U V a1 a2 a3 a4 a5 => hc2 X Y U V a1 a2 a3 a4 (Or.inl (by omega)))) (fun h => h) (Rm_h (by decide) (by decide)) [0, 1, 2, 3, 4, 5] [] rfl rfl rfl rfl (by decide) 0 rfl rfl rfl rfl (Nat.le_of_ble_eq_true rfl) d_M_workAll_82 (fun w' hw => ?_)
                    obtain rfl : w' = [(mo, .inr (4, [.int (z_i len), .ref ms, .int (z_i stg), .int (z_i mv), .ref mb, .int (z_i stk), .int (z_i hol), .int (z_i cn), .int (z_i cs), .int (z_i hi), .int (z_i lo), .int (z_i hs), .int (z_i ls), .int (z_i du), .ref mt, .ref mf, .ref mc, .int (z_i kw)])), (ms, aI L 2 sco), (mb, aI L 52 bb), (mt, aI L 312 tr), (mf, aI L 6 fr), (mc, aL L 625 ck2)] := hw
                    show J L X 7 0 0 [(mo, .inr (4, [.int (z_i len), .ref ms, .int (z_i stg), .int (z_i mv), .ref mb, .int (z_i stk), .int (z_i hol), .int (z_i cn), .int (z_i cs), .int (z_i hi), .int (z_i lo), .int (z_i hs), .int (z_i ls), .int (z_i du), .ref mt, .ref mf, .ref mc, .int (z_i kw)])), (ms, aI L 2 sco), (mb, aI L 52 bb), (mt, aI L 312 tr), (mf, aI L 6 fr), (mc, aL L 625 ck2)] [(6, .int (z_i v)), (5, .int (z_i u)), (4, .int (z_i y)), (3, .int (z_i x)), (2, .int (z_i k)), (1, .int (z_i p)), (0, .ref mo)] [.long (z_l (qC x y u v)), .int (z_i k), .ref mc] 85
                    refine J_last E 5 [(mo, .inr (4, [.int (z_i len), .ref ms, .int (z_i stg), .int (z_i mv), .ref mb, .int (z_i stk), .int (z_i hol), .int (z_i cn), .int (z_i cs), .int (z_i hi), .int (z_i lo), .int (z_i hs), .int (z_i ls), .int (z_i du), .ref mt, .ref mf, .ref mc, .int (z_i kw)])), (ms, aI L 2 sco), (mb, aI L 52 bb), (mt, aI L 312 tr), (mf, aI L 6 fr), (mc, aL L 625 (z_u ck2 k (qC x y u v)))] rfl rfl (by decide) (by exact ⟨by omega, by omega⟩) d_M_workAll_85 ?_
                    refine J_iinc E 4 [(2, .int (z_i (k + 1))), (6, .int (z_i v)), (5, .int (z_i u)), (4, .int (z_i y)), (3, .int (z_i x)), (1, .int (z_i p)), (0, .ref mo)] d_M_workAll_86 rfl (by decide) rfl ?_
                    refine J_goto E 10 d_M_workAll_89 (by decide) ?_
                    refine J_lv (lv' := [(2, .int (z_i (k + 1))), (1, .int (z_i p)), (0, .ref mo)]) [0, 5, 6] rfl ?_
                    exact ih10 (k + 1) (z_u ck2 k (qC x y u v)) (by omega) (fun X Y U V a1 a2 a3 a4 a5 => by by_cases e : ((125 * X + 25 * Y + 5 * U + V : Nat) : Int) = k; (obtain ⟨b1, b2, b3, b4⟩ := dig (by omega) a2 (by omega) a4 e hdec; rw [e, z_us]; unfold qC; rw [b1, b2, b3, b4]; rfl); (rw [z_un e]; exact hc2 X Y U V a1 a2 a3 a4 (by omega))) (by omega)
        exact C10 _ 0 ck (by decide) (fun X Y U V a1 a2 a3 a4 a5 => hc X Y U V a1 a2 a3 a4 (by omega)) (Nat.lt_succ_self _)
  exact C2 _ 0 chn (by decide) (fun X Y U V a1 a2 a3 a4 a5 => by omega) (Nat.lt_succ_self _)
