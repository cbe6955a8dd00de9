/-! WHAT IS MADE: an object, an array, rows of ints; Object's own constructor; constructors of nest mates -/
section JN
variable {L : Lx} {X : Cx} {cc : ByteArray} {nL : Nat} {own nm : String} {ret : Option FieldType} {rm : Room} {sb : Bool} {ce sl : Nat} {ws : va_W} {lv : List (Nat × Value)} {st st0 rest : List Value} {pc : Nat}
variable {y : MethodName} {b : ByteArray} {n : Nat} {ret2 : Option FieldType} {rm2 : Room} {sb2 : Bool} {mc ms : Nat} {av As : List Value} {w wr : va_W} {Wp : va_W → Prop} {ro : Option Value} {na index : Nat} {C : String} {a : Nat} {host : String}
theorem J_obj (E : Ok L X cc nL own nm ret rm sb) (hl : Cond.methodLink own index Lib.objectInit ∈ my_tbl) (hrm : 1 ≤ rm.frames ∧ (st.map fun v => v.category).sum + 12 ≤ rm.locals) (hdg : decode cc pc = .ok (.invokespecial index, 3)) (kk : J L X nL ce sl ws lv st (pc + 3)) : J L X nL ce sl ws lv (.ref a :: st) pc := fun H locs ls hP hD hS h => by
  rw [← E.R] at hrm
  exact W.objInit E.x E.b E.o (E.w hl) (E.w t_1_14) (E.w t_1_15) rfl (by rw [E.n]; exact h.1) rfl hdg hrm.1 (by show 2 * 0 + _ + 12 ≤ _; rw [Nat.mul_zero, Nat.zero_add]; exact hrm.2) (kk H locs ls hP hD hS h)
theorem J_new (E : Ok L X cc nL own nm ret rm sb) {T : u_T} {N ci : Nat} (hin : ∀ w ∈ u_ws C T N, w ∈ my_tbl) {ty : Nat → FieldType} (hty : ∀ k, k < N → parseFieldDescriptor (T k).2.2.1 = some (ty k)) (hcl : Cond.classLink own index C ∈ my_tbl) (hinst : Cond.instantiable C N ∈ my_tbl) (hini : Cond.initialized C ∈ my_tbl) (hc : classes[ci]? = some (C, T, N)) (fs : List Value) (hfs : ∀ j, j < N → defaultValue (ty j) = vp_V fs j) (hrm : ce + 1 ≤ rm.cells ∧ sl + N ≤ rm.slots) (hdg : decode cc pc = .ok (.new index, 3))
    (kk : ∀ q : Nat, J L X nL (ce + 1) (sl + N) (ws ++ [(q, .inr (ci, fs))]) lv (.ref q :: st) (pc + 3)) : J L X nL ce sl ws lv st pc := fun H locs ls hP hD hS h => by
  rw [← E.R] at hrm
  exact va_new E.x E.b E.2.2.2.2.1 hin ty hty E.o (E.w hcl) (E.w hinst) (E.w hini) E.K hP hD hS E.A hc hfs hrm.1 hrm.2 hdg (fun q H1 p1 d1 s1 => kk q H1 locs ls p1 d1 s1 h)
theorem J_newI (E : Ok L X cc nL own nm ret rm sb) {k : Int} (N : Nat) (hn : ¬ z_i k < 0) (hN : (z_i k).toNatClampNeg = N) (hb : N * 4 ≤ 536870912) (hrm : ce + 1 ≤ rm.cells ∧ sl + N ≤ rm.slots) (hdg : decode cc pc = .ok (.newarray .int, 2))
    (kk : ∀ q : Nat, J L X nL (ce + 1) (sl + N) (ws ++ [(q, aI L N (fun _ => 0))]) lv (.ref q :: st) (pc + 2)) : J L X nL ce sl ws lv (.int (z_i k) :: st) pc := fun H locs ls hP hD hS h => by
  rw [← E.R] at hrm
  refine va_newa (atype := .int) (ty := .int) (a0 := (N, .inl (z_a fun _ => 0))) E.x E.b (E.w t_1_29) rfl E.K hP hD hS E.A (fun cA => rfl) hn hN hb hrm.1 hrm.2 hdg (fun q cA H1 hK p1 d1 s1 => ?_)
  have e1 := (hK.2 3 (cA, .int) rfl).2
  have e2 := (E.K.2 0 (l_I L, .int) rfl).2
  have e : cA = l_I L := Option.some.inj (Eq.trans (Eq.symm e1) e2)
  subst e
  exact kk q H1 locs ls p1 d1 s1 h
theorem J_newL (E : Ok L X cc nL own nm ret rm sb) {k : Int} (N : Nat) (hn : ¬ z_i k < 0) (hN : (z_i k).toNatClampNeg = N) (hb : N * 8 ≤ 536870912) (hrm : ce + 1 ≤ rm.cells ∧ sl + N ≤ rm.slots) (hdg : decode cc pc = .ok (.newarray .long, 2))
    (kk : ∀ q : Nat, J L X nL (ce + 1) (sl + N) (ws ++ [(q, aL L N (fun _ => 0))]) lv (.ref q :: st) (pc + 2)) : J L X nL ce sl ws lv (.int (z_i k) :: st) pc := fun H locs ls hP hD hS h => by
  rw [← E.R] at hrm
  refine va_newa (atype := .long) (ty := .long) (a0 := (N, .inr (.inl (z_al fun _ => 0)))) E.x E.b (E.w t_1_64) rfl E.K hP hD hS E.A (fun cA => rfl) hn hN hb hrm.1 hrm.2 hdg (fun q cA H1 hK p1 d1 s1 => ?_)
  have e1 := (hK.2 3 (cA, .long) rfl).2
  have e2 := (E.K.2 1 (l_L L, .long) rfl).2
  have e : cA = l_L L := Option.some.inj (Eq.trans (Eq.symm e1) e2)
  subst e
  exact kk q H1 locs ls p1 d1 s1 h
theorem J_callIN (E : Ok L X cc nL own nm ret rm sb) (hB : KB y b n none na) (hl : Cond.methodLinkNest own index y host ∈ nest_tbl) (hi : Cond.instanceMethod y ∈ my_tbl) (hy1 : y.name = "<init>") (hM : CtG L y b n none rm2 sb2 mc ms (.ref a :: As) w Wp ro) (hsb : sb2 = true → sb = true) (hrm : Rm rm rm2 n mc ms ce sl)
    (isC isR : List Nat) (hC : isC.map (fun i => ws[i]?) = w.map some) (hR : isR.map (fun i => ws[i]?) = wr.map some) (hnC : va_nd isC = true) (hnR : va_nd isR = true) (hdis : ∀ i ∈ isR, i ∉ isC)
    (hst : st0 = As.reverse ++ .ref a :: rest) (hna : As.length = na) (hre : (rest.map fun v => v.category).sum ≤ 8) (hdg : decode cc pc = .ok (.invokespecial index, 3))
    (kk : ∀ w' : va_W, Wp w' → J L X nL (ce + mc) (sl + ms) (wr ++ w') lv (ro.toList ++ rest) (pc + 3)) : J L X nL ce sl ws lv st0 pc := by
  refine J_run (av := .ref a :: As) E hsb isC isR hC hR hnC hnR hdis (fun H locs ls hls hPc hU => ?_) kk
  obtain ⟨r1, r2, r3, r4, r5, r6⟩ := hrm
  exact va_runIN (Ts := my_tbl) ⟨E.x, E.b, E.n, E.o, E.2.2.2.2.1⟩ (hM H.size) ⟨va_cnB na E.2.2.2.2.1 (gd_my hB.1) rfl r1 r2 (E.2.2.2.2.2.1.2.1 _ hl) (E.w hB.2.1) hB.2.2 (by rw [E.R]; exact ⟨r3, r4⟩), hy1, E.w hi⟩ ⟨CtP.blind, fun U hU1 hW => ⟨rfl, hU U hU1 hW⟩⟩ rfl hna hls hst (lv_room hre) hdg (by rw [E.R]; exact ⟨r5, r6⟩)
end JN
