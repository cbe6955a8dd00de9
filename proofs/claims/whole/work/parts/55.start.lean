/-! THE LAW'S ENTRY -/
theorem aro_of {args : Array Value} {s : State} {ty : FieldType} (h : (Cond.arrayClass ty).before args s = true) : ∃ c : ClassId, s.vm.findClass ("[" ++ ty.toString) = some c ∧ ArrOfT s c ty ∧ ∃ k comp, s.vm.classes[c]? = some k ∧ k.kind = .array comp ty := by
  obtain ⟨c, k, comp, h1, h2, h3⟩ := Cond.arrayClass_spec h
  exact ⟨c, h1, fun n z => ⟨fun q hq => (by cases hq), k, h2, comp, h3⟩, k, comp, h2, h3⟩
/-- what the tables' word of the class of rows of ints says -/
theorem rows_of {args : Array Value} {s : State} (h : (Cond.arrayOver (.array .int)).before args s = true) : ∃ (comp cR : ClassId) (kR : Class), s.vm.findClass "[I" = some comp ∧ s.vm.classes[cR]? = some kR ∧ kR.kind = .array comp (.array .int) ∧ s.vm.findClass "[[I" = some cR := by
  have hI : (FieldType.array .int).toString = "[I" := rfl
  simp only [Cond.before, Cond.holds, Cond.value, beq_iff_eq, hI] at h
  obtain ⟨comp, e1, h⟩ := Option.bind_eq_some_iff.mp h
  obtain ⟨cR, e2, h⟩ := Option.bind_eq_some_iff.mp h
  obtain ⟨kR, e3, h⟩ := Option.map_eq_some_iff.mp h
  have hp := (Array.findIdx?_eq_some_iff_getElem.mp e2).2.1
  rw [(Array.getElem?_eq_some_iff.mp e3).2] at hp
  refine ⟨comp, cR, kR, e1, e3, ?_, ?_⟩
  · cases hk : kR.kind with
    | array q ty =>
      rw [hk] at h hp
      have g1 : q = comp := by simpa using hp
      have g2 : ty = .array .int := (by simpa using h : _ ∧ _).1
      rw [g1, g2]
    | _ => rw [hk] at h; exact absurd h (by simp)
  · cases hk : kR.kind with
    | array q ty =>
      rw [hk] at h
      exact (by simpa using h : _ ∧ _).2
    | _ => rw [hk] at h; exact absurd h (by simp)
def st_el (j : Nat) : Cond := Cond.eq (.elem (.static "TablesMatch" "START" "[I") (.int (Int32.ofNat j))) (.int (z_i (st_men (j : Int))))
theorem st_flat : ∀ j : Nat, j < 26 → st_el j ∈ flatC (Cond.and given_1 narrow_1) := by
  decide +kernel
theorem st_arr : Cond.arrayOf (.static "TablesMatch" "START" "[I") .int ∈ flatC (Cond.and given_1 narrow_1) := by decide +kernel
theorem st_len : Cond.eq (.length (.static "TablesMatch" "START" "[I")) (.int (Int32.ofNat 26)) ∈ flatC (Cond.and given_1 narrow_1) := by decide +kernel
section JE
variable {L : Lx} {X : Cx} {cc : ByteArray} {nL : Nat} {own nm : String} {ret : Option FieldType} {rm : Room} {sb : Bool} {ce sl : Nat} {lv : List (Nat × Value)} {st : List Value} {pc index : Nat}
variable {tm sc bo ra r0 r1 ho di rx kn : Nat} {gr : Nat → Option Nat} {σ : AS} {wC : va_W}
theorem J_Mi (E : Ok L X cc nL own nm ret rm sb) (hl : Cond.methodLink own index y_M_init ∈ my_tbl) (mo : Nat) {len : Int} (hlen : z_r len) (hrm : Rm rm (rmc 3 5 997) 2 5 997 ce sl) (hC : RC L tm sc bo ra r0 r1 ho di rx kn gr σ wC) (hre : (st.map fun v => v.category).sum ≤ 8) (hdg : decode cc pc = .ok (.invokespecial index, 3))
    (kk : ∀ (w' : va_W), (∃ (ms mb mt mf mc : Nat), RR L mo ms mb mt mf mc (ini len) w') → J L X nL (ce + 5) (sl + 997) (wC ++ w') lv st (pc + 3)) : J L X nL ce sl (wC ++ [(mo, .inr (4, [.int (z_i 0), .null, .int (z_i 0), .int (z_i 0), .null, .int (z_i 0), .int (z_i 0), .int (z_i 0), .int (z_i 0), .int (z_i 0), .int (z_i 0), .int (z_i 0), .int (z_i 0), .int (z_i 0), .null, .null, .null, .int (z_i 0)]))]) lv (.int (z_i len) :: .ref mo :: st) pc := by
  obtain ⟨len2, stg2, mv2, stk2, hol2, cn2, cs2, sco2, b02, b12, hi2, lo2, hs2, ls2⟩ := σ
  obtain ⟨us, pl, ct, dice, kno, hH, hmm, rfl⟩ := hC
  exact J_callI E kb_M_init hl t_2_78 rfl (c_M_init L mo len hlen) (fun h => absurd h (by decide)) hrm [10] [0, 1, 2, 3, 4, 5, 6, 7, 8, 9] rfl rfl rfl rfl (by decide) rfl rfl hre hdg kk
end JE
set_option maxHeartbeats 2000000 in
theorem law_start {L : Lx} {X : Cx} {b n : Nat} {xs : Nat → Int32} {nm : String} (E : Ok L X code 4 R_law nm ret room_1 true) (hsc : sc_ok X b n xs) (hX : lw_X X b) : J L X 4 0 0 [] [(0, .ref b)] [] 0 := by
  refine J_new (ci := 3) (C := R_TM) (T := F_TM) (N := 11) E i_TM ft_TM_ok t_1_8 t_1_9 t_1_1 rfl [.int (z_i 0), .null, .null, .null, .null, .int (z_i 0), .int (z_i 0), .int (z_i 0), .int (z_i 0), .int (z_i 0), .int (z_i 0)] (fun j hj => by rcases (show j = 0 ∨ j = 1 ∨ j = 2 ∨ j = 3 ∨ j = 4 ∨ j = 5 ∨ j = 6 ∨ j = 7 ∨ j = 8 ∨ j = 9 ∨ j = 10 by omega) with rfl | rfl | rfl | rfl | rfl | rfl | rfl | rfl | rfl | rfl | rfl <;> rfl) ⟨Nat.le_of_ble_eq_true rfl, Nat.le_of_ble_eq_true rfl⟩ d_W_law_0 (fun tm => ?_)
  show J L X 4 1 11 [(tm, .inr (3, [.int (z_i 0), .null, .null, .null, .null, .int (z_i 0), .int (z_i 0), .int (z_i 0), .int (z_i 0), .int (z_i 0), .int (z_i 0)]))] [(0, .ref b)] [.ref tm] 3
  refine J_dup E d_W_law_3 rfl ?_
  refine J_aload_n E 0 d_W_law_4 rfl rfl ?_
  refine J_iconst E d_W_law_5 ?_
  refine J_cell E hsc t_2_72 t_2_73 (Rm_L (by decide) (by decide) (by decide) (by decide)) (Nat.le_of_ble_eq_true rfl) d_W_law_6 ?_
  refine J_callI (wr := []) (rest := [.ref tm]) E kb_T_init t_1_10 t_1_11 rfl (c_T_init L tm (c0 n xs) (c0_r n xs)) (fun _ => rfl) (Rm_Lc (by decide) (by decide) (by decide) (by decide)) [0] [] rfl rfl rfl rfl (by decide) rfl rfl (Nat.le_of_ble_eq_true rfl) d_W_law_9 (fun wC hw => ?_)
  obtain ⟨sc, bo, ra, r0, r1, ho, di, rx, kn, gr, g0, g1, hC⟩ := hw
  show J L X 4 10 306 wC [(0, .ref b)] [.ref tm] 12
  refine J_astore_n E [(1, .ref tm), (0, .ref b)] d_W_law_12 rfl (by decide) rfl ?_
  refine J_new (ci := 4) (C := R_Md) (T := F_Md) (N := 18) E i_Md ft_Md_ok t_2_75 t_2_76 t_1_7 rfl [.int (z_i 0), .null, .int (z_i 0), .int (z_i 0), .null, .int (z_i 0), .int (z_i 0), .int (z_i 0), .int (z_i 0), .int (z_i 0), .int (z_i 0), .int (z_i 0), .int (z_i 0), .int (z_i 0), .null, .null, .null, .int (z_i 0)] (fun j hj => by rcases (show j = 0 ∨ j = 1 ∨ j = 2 ∨ j = 3 ∨ j = 4 ∨ j = 5 ∨ j = 6 ∨ j = 7 ∨ j = 8 ∨ j = 9 ∨ j = 10 ∨ j = 11 ∨ j = 12 ∨ j = 13 ∨ j = 14 ∨ j = 15 ∨ j = 16 ∨ j = 17 by omega) with rfl | rfl | rfl | rfl | rfl | rfl | rfl | rfl | rfl | rfl | rfl | rfl | rfl | rfl | rfl | rfl | rfl | rfl <;> rfl) ⟨Nat.le_of_ble_eq_true rfl, Nat.le_of_ble_eq_true rfl⟩ d_W_law_13 (fun mo => ?_)
  show J L X 4 11 324 (wC ++ [(mo, .inr (4, [.int (z_i 0), .null, .int (z_i 0), .int (z_i 0), .null, .int (z_i 0), .int (z_i 0), .int (z_i 0), .int (z_i 0), .int (z_i 0), .int (z_i 0), .int (z_i 0), .int (z_i 0), .int (z_i 0), .null, .null, .null, .int (z_i 0)]))]) [(1, .ref tm), (0, .ref b)] [.ref mo] 16
  refine J_dup E d_W_law_16 rfl ?_
  refine J_aload_n E 1 d_W_law_17 rfl rfl ?_
  refine J_iconst E d_W_law_18 ?_
  refine J_cell E hsc t_2_72 t_2_73 (Rm_L (by decide) (by decide) (by decide) (by decide)) (Nat.le_of_ble_eq_true rfl) d_W_law_19 ?_
  refine J_Mi E t_2_77 mo (c0_r n xs) (Rm_Lc (by decide) (by decide) (by decide) (by decide)) hC (Nat.le_of_ble_eq_true rfl) d_W_law_22 (fun wR hw => ?_)
  obtain ⟨ms, mb, mt, mf, mc, hR⟩ := hw
  show J L X 4 16 1321 (wC ++ wR) [(1, .ref tm), (0, .ref b)] [.ref mo] 25
  refine J_astore_n E [(2, .ref mo), (1, .ref tm), (0, .ref b)] d_W_law_25 rfl (by decide) rfl ?_
  refine J_iconst E d_W_law_26 ?_
  refine J_istore_n E [(3, .int (z_i 1)), (2, .ref mo), (1, .ref tm), (0, .ref b)] d_W_law_27 rfl (by decide) rfl ?_
  exact law_loop E hsc g0 g1 hX _ 1 (ini (c0 n xs)) wC wR (by decide) (by decide) (ini_in _) hC hR (Nat.lt_succ_self _)
set_option maxHeartbeats 2000000 in
theorem whole_start {p : Program} {e : Env} {s : State} {m : MethodId} {below : List Frame} {meth : Method} {c : Code} (l : Launch) {b L : Nat} {xs : Nat → Int32} (hL : L ≤ 2561) (C0 : lw_At p s m meth c b L xs) : W p l e room_1 s m #[Value.ref b] below meth c s.heap [] 0 0 (lw_Z below #[Value.ref b] s) (entryFrame m ([Value.ref b] : List Value).toArray 4) := by
  obtain ⟨hx, hb, hr, hml, hown, hts, hX, hbl, hlk, hgv⟩ := C0
  have hmy : ∀ w ∈ my_tbl, w.before #[Value.ref b] s = true := fun w h => hts w (List.mem_filter.mp h).1
  obtain ⟨k0, j0, u0⟩ := u_known hmy i_Bd (hmy _ t_1_17)
  obtain ⟨k1, j1, u1⟩ := u_known hmy i_Hd (hmy _ t_1_31)
  obtain ⟨k2, j2, u2⟩ := u_known hmy i_Rc (hmy _ t_1_55)
  obtain ⟨k3, j3, u3⟩ := u_known hmy i_TM (hmy _ t_1_9)
  obtain ⟨k4, j4, u4⟩ := u_known hmy i_Md (hmy _ t_2_76)
  obtain ⟨cI, hI, aI1, -⟩ := aro_of (hmy _ t_1_29)
  obtain ⟨cL, hL1, aL1, -⟩ := aro_of (hmy _ t_1_64)
  obtain ⟨comp, cR, kR, hcomp, hkR, hkindR, hnameR⟩ := rows_of (hts _ (List.mem_append_right _ t_1_23))
  have ec : comp = cI := Option.some.inj (Eq.trans (Eq.symm hcomp) hI)
  subst ec
  have aR1 : ArrOfT s cR (.array .int) := fun n z => ⟨fun q hq => (by cases hq), kR, hkR, comp, hkindR⟩
  generalize hLx : ((l, ((fun q => match q with | 0 => k0 | 1 => k1 | 2 => k2 | 3 => k3 | _ => k4), (fun q => match q with | 0 => j0 | 1 => j1 | 2 => j2 | 3 => j3 | _ => j4)), comp, cL, cR) : Lx) = Lx0
  have hll : l_l Lx0 = l := by rw [← hLx]
  have hK : va_K (l_D Lx0) classes (tyl Lx0) s := by
    rw [← hLx]
    refine ⟨fun q x hq => ?_, fun q x hq => ?_⟩
    · match q, hq with
      | 0, hq => cases hq; exact u0
      | 1, hq => cases hq; exact u1
      | 2, hq => cases hq; exact u2
      | 3, hq => cases hq; exact u3
      | 4, hq => cases hq; exact u4
      | q + 5, hq => cases hq
    · match q, hq with
      | 0, hq => cases hq; exact ⟨aI1, hI⟩
      | 1, hq => cases hq; exact ⟨aL1, hL1⟩
      | 2, hq => cases hq; exact ⟨aR1, hnameR⟩
      | q + 3, hq => cases hq
  have hrr : rr_ok Lx0 s := by
    rw [← hLx]
    exact ⟨kR, hkR, hkindR⟩
  have hfl := flat_of_before _ hgv
  have hnA : ∀ a : Nat, a < s.heap.size → ¬ s.heap.size ≤ a := fun a h => Nat.not_le.mpr h
  have hss : ss_ok (fun q => s.heap.size ≤ q) s s.heap := by
    obtain ⟨t, ht, hT⟩ := va_Tof (tm := .static "TablesMatch" "START" "[I") (ty := .int) (N := 26) (f := fun j => .int (z_i (st_men (j : Int)))) (A := fun q => s.heap.size ≤ q) (by decide) (hfl _ st_arr) (va_eqt (hfl _ st_len)) (fun j hj => va_eqt (hfl _ (st_flat j hj))) hnA
    exact ⟨t, va_Zof (hts _ (List.mem_append_right _ t_1_80)) (hmy _ t_1_1) ht hnA, hT⟩
  have E : Ok Lx0 (p, e, room_1, s, m, #[Value.ref b], below, meth, c, lw_Z below #[Value.ref b] s, fun q => s.heap.size ≤ q) code 4 R_law meth.name ret room_1 true :=
    ⟨hx, hb, hml, hown, hmy, ⟨hK, fun w h => va_Nw.of (nest_tab h) (hts w (List.mem_filter.mp h).1), hrr, fun _ => hss⟩, fun q h => h, hlk, hr, rfl, rfl⟩
  have hJ := law_start (b := b) (n := L) (xs := xs) E ⟨hX, hbl, hnA b hbl, hL⟩ ⟨rfl, rfl, rfl, rfl⟩ s.heap [] _ (fun k q h => (by cases h)) ⟨fun i j p q h => (by cases h), fun k q h => (by cases h)⟩ va_S.rf (lv_entry [.ref b] (n := 4) (Nat.le_of_ble_eq_true rfl))
  rw [hll] at hJ
  rw [lg_entry_eq]
  exact hJ
