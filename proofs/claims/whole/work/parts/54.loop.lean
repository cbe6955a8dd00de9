/-! THE LAW'S LOOP -/
set_option maxHeartbeats 2000000 in
theorem law_loop {L : Lx} {X : Cx} {b n : Nat} {xs : Nat → Int32} {tm sc bo ra r0 r1 ho di rx kn : Nat} {gr : Nat → Option Nat} {mo ms mb mt mf mc : Nat} {nm : String} (E : Ok L X code 4 R_law nm ret room_1 true) (hsc : sc_ok X b n xs) (g0 : gr 0 = some r0) (g1 : gr 1 = some r1) (hX : lw_X X b) : ∀ (mm : Nat) (i : Int) (σ : AS) (wC wR : va_W), 1 ≤ i → i ≤ 10000 → in_ok σ → RC L tm sc bo ra r0 r1 ho di rx kn gr σ wC → RR L mo ms mb mt mf mc σ wR → ((n : Int) - i).toNat < mm → J L X 4 16 1321 (wC ++ wR) [(3, .int (z_i i)), (2, .ref mo), (1, .ref tm), (0, .ref b)] [] 28 := by
  have hn : n ≤ 2561 := hsc.2.2.2
  intro mm
  induction mm with
  | zero => intro i σ wC wR _ _ _ _ _ hme; exact absurd hme (Nat.not_lt_zero _)
  | succ mm ih =>
    intro i σ wC wR hi1 hi2 hσ hC hR hme
    refine J_iload_n E 0 d_W_law_28 rfl rfl ?_
    refine J_aload_n E 3 d_W_law_29 rfl rfl ?_
    refine J_slen E hsc d_W_law_30 ?_
    refine J_iconst E d_W_law_31 ?_
    refine J_isub E d_W_law_32 ?_
    refine J_icmp_gt E 565 d_W_law_33 (by decide) ⟨⟨by omega, by omega⟩, by omega, by omega⟩ (fun h33 => ?_) (fun h33 => ?_)
    · refine J_iconst E d_W_law_565 ?_
      exact J_end E hX (by decide) (by decide) d_W_law_566
    · have hin : 1 ≤ i ∧ i + 5 ≤ (n : Int) := ⟨hi1, by omega⟩
      have kk : ∀ (σ2 : AS) (wC2 wR2 : va_W), in_ok σ2 → RC L tm sc bo ra r0 r1 ho di rx kn gr σ2 wC2 → RR L mo ms mb mt mf mc σ2 wR2 → J L X 4 16 1321 (wC2 ++ wR2) [(3, .int (z_i i)), (2, .ref mo), (1, .ref tm), (0, .ref b)] [] 559 := by
        intro σ2 wC2 wR2 k1 k2 k3
        refine J_iinc E 0 [(3, .int (z_i (i + 5))), (2, .ref mo), (1, .ref tm), (0, .ref b)] d_W_law_559 rfl (by decide) rfl ?_
        refine J_goto E 28 d_W_law_562 (by decide) ?_
        exact ih (i + 5) σ2 wC2 wR2 (by omega) (by omega) k1 k2 k3 (by omega)
      refine J_aload_n E 3 d_W_law_36 rfl rfl ?_
      refine J_iload_n E 0 d_W_law_37 rfl rfl ?_
      refine J_sld E hsc ⟨by omega, by omega⟩ d_W_law_38 ?_
      refine J_bipush E d_W_law_39 (by decide) ?_
      refine J_iand E d_W_law_41 rfl ?_
      generalize hv : z_i (sv xs i) &&& z_i 31 = v
      rcases (show (v.toInt < 0 ∨ 17 < v.toInt) ∨ v.toInt = 0 ∨ v.toInt = 1 ∨ v.toInt = 2 ∨ v.toInt = 3 ∨ v.toInt = 4 ∨ v.toInt = 5 ∨ v.toInt = 6 ∨ v.toInt = 7 ∨ v.toInt = 8 ∨ v.toInt = 9 ∨ v.toInt = 10 ∨ v.toInt = 11 ∨ v.toInt = 12 ∨ v.toInt = 13 ∨ v.toInt = 14 ∨ v.toInt = 15 ∨ v.toInt = 16 ∨ v.toInt = 17 by omega) with q | q | q | q | q | q | q | q | q | q | q | q | q | q | q | q | q | q | q
      · exact J_tabO E 559 d_W_law_42 q (by decide) (kk σ wC wR hσ hC hR)
      · exact J_tabI E 86 128 0 d_W_law_42 q (by decide) (by decide) rfl (by decide) (lcase_0 E hsc g0 g1 hin hσ hC hR kk)
      · exact J_tabI E 129 171 1 d_W_law_42 q (by decide) (by decide) rfl (by decide) (lcase_1 E hsc g0 g1 hin hσ hC hR kk)
      · exact J_tabI E 162 204 2 d_W_law_42 q (by decide) (by decide) rfl (by decide) (lcase_2 E hsc g0 g1 hin hσ hC hR kk)
      · exact J_tabI E 195 237 3 d_W_law_42 q (by decide) (by decide) rfl (by decide) (lcase_3 E hsc g0 g1 hin hσ hC hR kk)
      · exact J_tabI E 218 260 4 d_W_law_42 q (by decide) (by decide) rfl (by decide) (lcase_4 E hsc g0 g1 hin hσ hC hR kk)
      · exact J_tabI E 231 273 5 d_W_law_42 q (by decide) (by decide) rfl (by decide) (lcase_5 E hsc g0 g1 hin hσ hC hR kk)
      · exact J_tabI E 244 286 6 d_W_law_42 q (by decide) (by decide) rfl (by decide) (lcase_6 E hsc g0 g1 hin hσ hC hR kk)
      · exact J_tabI E 267 309 7 d_W_law_42 q (by decide) (by decide) rfl (by decide) (lcase_7 E hsc g0 g1 hin hσ hC hR kk)
      · exact J_tabI E 280 322 8 d_W_law_42 q (by decide) (by decide) rfl (by decide) (lcase_8 E hsc g0 g1 hin hσ hC hR kk)
      · exact J_tabI E 319 361 9 d_W_law_42 q (by decide) (by decide) rfl (by decide) (lcase_9 E hsc g0 g1 hin hσ hC hR kk)
      · exact J_tabI E 332 374 10 d_W_law_42 q (by decide) (by decide) rfl (by decide) (lcase_10 E hsc g0 g1 hin hσ hC hR kk)
      · exact J_tabI E 345 387 11 d_W_law_42 q (by decide) (by decide) rfl (by decide) (lcase_11 E hsc g0 g1 hin hσ hC hR kk)
      · exact J_tabI E 378 420 12 d_W_law_42 q (by decide) (by decide) rfl (by decide) (lcase_12 E hsc g0 g1 hin hσ hC hR kk)
      · exact J_tabI E 401 443 13 d_W_law_42 q (by decide) (by decide) rfl (by decide) (lcase_13 E hsc g0 g1 hin hσ hC hR kk)
      · exact J_tabI E 414 456 14 d_W_law_42 q (by decide) (by decide) rfl (by decide) (lcase_14 E hsc g0 g1 hin hσ hC hR kk)
      · exact J_tabI E 427 469 15 d_W_law_42 q (by decide) (by decide) rfl (by decide) (lcase_15 E hsc g0 g1 hin hσ hC hR kk)
      · exact J_tabI E 450 492 16 d_W_law_42 q (by decide) (by decide) rfl (by decide) (lcase_16 E hsc g0 g1 hin hσ hC hR kk)
      · exact J_tabI E 463 505 17 d_W_law_42 q (by decide) (by decide) rfl (by decide) (lcase_17 E hsc g0 g1 hin hσ hC hR kk)
