/-! the start's men: a static row that nobody writes, copied into a player's row -/
theorem t_nat : Cond.native ⟨"java/lang/System", "arraycopy", "(Ljava/lang/Object;ILjava/lang/Object;II)V"⟩ ∈ my_tbl := tm_t t_1_83 rfl
abbrev va_ZS (X : Cx) (t : Nat) : Prop := va_Z R_TM "START" "[I" (.ref t) (x_A X) (x_s X) (x_s X).heap
abbrev va_TS (X : Cx) (t : Nat) : Prop := va_T .int t 26 (fun j => .int (z_i (st_men (j : Int)))) (x_A X) (x_s X) (x_s X).heap
theorem st_all {own : Int → Int} (hz : ∀ x, x < 0 ∨ 25 < x → own x = 0) : va_cpy (fun j : Nat => z_i (st_men (j : Int))) (z_a own) 0 0 26 = z_a st_men := by
  funext j
  unfold va_cpy
  by_cases h : 0 ≤ j ∧ j < 0 + 26
  · rw [if_pos h]
    show z_i (st_men ((0 + (j - 0) : Nat) : Int)) = z_i (st_men (j : Int))
    rw [show 0 + (j - 0) = j by omega]
  · rw [if_neg h]
    show z_i (own (j : Int)) = z_i (st_men (j : Int))
    rw [hz _ (by omega), st_men_ok.2.1 _ (by omega)]
section JS
variable {L : Lx} {X : Cx} {cc : ByteArray} {nL : Nat} {own nm : String} {ret : Option FieldType} {rm : Room} {sb : Bool} {ce sl : Nat} {ws : va_W} {lv : List (Nat × Value)} {st : List Value} {pc : Nat} {t : Nat}
theorem J_gets (E : Ok L X cc nL own nm ret rm sb) (hZ : va_ZS X t) {i : Nat} {host : String} (hw : Cond.fieldLinkNest own i "TablesMatch" "START" "[I" host ∈ nest_tbl) (hdg : decode cc pc = .ok (.getstatic i, 3)) (kk : J L X nL ce sl ws lv (.ref t :: st) (pc + 3)) : J L X nL ce sl ws lv st pc :=
  fun H locs ls hP hD hS hl => va_getsN E.x E.b hZ hS E.o (E.nw hw (nest_tab hw)) (fun _ h => h) hdg (kk H locs ls hP hD hS hl)
theorem J_tlen (E : Ok L X cc nL own nm ret rm sb) (hT : va_TS X t) (hdg : decode cc pc = .ok (.arraylength, 1)) (kk : J L X nL ce sl ws lv (.int (z_i 26) :: st) (pc + 1)) : J L X nL ce sl ws lv (.ref t :: st) pc :=
  fun H locs ls hP hD hS hl => va_tlen E.x E.b hT hS (v := z_i 26) (by decide) hdg (kk H locs ls hP hD hS hl)
theorem J_cpy (E : Ok L X cc nL own nm ret rm sb) (hT : va_TS X t) (q0 : Nat) (ws' : va_W) {a : Nat} {g : Int → Int} {i : Nat} (ha : ws[q0]? = some (a, aI L 26 g)) (hw : ws.set q0 (a, aI L 26 st_men) = ws') (hz : ∀ x, x < 0 ∨ 25 < x → g x = 0) (hlk : Cond.methodLink own i ⟨"java/lang/System", "arraycopy", "(Ljava/lang/Object;ILjava/lang/Object;II)V"⟩ ∈ my_tbl)
    (hrm : 1 ≤ rm.frames ∧ (st.map fun v => v.category).sum + (nativeFrameWords "java/lang/System" "arraycopy" 5 + 11) ≤ rm.locals) (hdg : decode cc pc = .ok (.invokestatic i, 3)) (kk : J L X nL ce sl ws' lv st (pc + 3)) :
    J L X nL ce sl ws lv (.int (z_i 26) :: .int (z_i 0) :: .ref a :: .int (z_i 0) :: .ref t :: st) pc := by
  intro H locs ls hP hD hS hl T hH S
  rw [← E.R] at hrm
  obtain ⟨cs, k1, ⟨k2, kA, k3, cmp, k4⟩, k5, k6, -, k7, k8⟩ := hT
  have hsrc : H[t]? = some cs := by rw [hS.2.1 t (Array.getElem?_eq_some_iff.mp k1).1 k8]; exact k1
  have hdst : H[a]? = some (vp_cell (l_I L) (26, .inl (z_a g))) := hP q0 _ ha
  obtain ⟨-, kB, b1, cmb, b2'⟩ := (E.K.2 0 _ rfl).1 26 (fun j => .int (z_a g j))
  have e26 : (z_i 26).toNatClampNeg = 26 := by decide
  have e0 : (z_i 0).toNatClampNeg = 0 := by decide
  have i26 : (z_i 26).toInt = 26 := by decide
  have i0 : (z_i 0).toInt = 0 := by decide
  have hat : ∀ j : Nat, j < 26 → cs.slots.getD j .null = .int (z_i (st_men (j : Int))) := fun j hj => by
    rw [Array.getD_eq_getD_getElem?, k7 j hj]
    rfl
  obtain ⟨vm1, S1, stp⟩ := S.arraycopy E.x E.o (E.w hlk) (E.w t_nat) (E.w t_1_82) (E.w t_1_6) (src := t) (dst := a) (srcPos := z_i 0) (destPos := z_i 0) (n := z_i 26) (cs := cs) (cd := vp_cell (l_I L) (26, .inl (z_a g)))
    (by rw [hH]; exact hsrc) (by rw [hH]; exact hdst) k2 (fun _ h => by cases h) k5 (fun h => by cases h) k3 b1 k4 b2' rfl (by decide) (by decide) (by decide)
    (by rw [i0, i26]; omega) (by rw [i0, i26]; show ¬ _ > ((arrV (l_I L) 26 (fun j => .int (z_a g j))).slots.size : Int); rw [arrV_size]; omega)
    (fun vm2 _ j hj => by
      rw [e26] at hj
      rw [e0, Nat.zero_add, hat j hj]
      exact ⟨rfl, trivial⟩)
    (g := F0 (x_m X) pc ls (.int (z_i 26) :: .int (z_i 0) :: .ref a :: .int (z_i 0) :: .ref t :: st)) rfl (by rw [E.n]; exact hl.1) (rest := st) rfl (by rw [E.b]; exact hdg) hrm.1 (by show 2 * 0 + _ + _ ≤ _; have := hrm.2; omega)
  have ec : copied cs (vp_cell (l_I L) (26, .inl (z_a g))) (z_i 0) (z_i 0) (z_i 26) = vp_cell (l_I L) (26, .inl (z_a st_men)) := by
    have := va_copiedX (fun z => Value.int z) cs (l_I L) (n0 := 26) (n1 := 26) (sp := 0) (dp := 0) (n := 26) (fun j : Nat => z_i (st_men (j : Int))) (z_a g) k7 (Nat.le_refl _)
    rw [st_all hz] at this
    rw [copied, e0, e26]
    exact this
  rw [ec] at S1 stp
  have hlt : a < H.size := (Array.getElem?_eq_some_iff.mp hdst).1
  have heq : ((T.setVm vm1).setCell a (vp_cell (l_I L) (26, .inl (z_a st_men)))).heap = H.setIfInBounds a (vp_cell (l_I L) (26, .inl (z_a st_men))) := by rw [← hH]; rfl
  have hoth : ∀ q : Nat, q ≠ a → (H.setIfInBounds a (vp_cell (l_I L) (26, .inl (z_a st_men))))[q]? = H[q]? := fun q hq => by simp [Array.getElem?_setIfInBounds, Ne.symm hq]
  have hin : (H.setIfInBounds a (vp_cell (l_I L) (26, .inl (z_a st_men))))[a]? = some (vp_cell (l_I L) (26, .inl (z_a st_men))) := by simp [Array.getElem?_setIfInBounds, hlt]
  have hP2 := hP.set (e := .inl (l_I L, 26, .inl (z_a st_men))) hD ha hin hoth
  have hD2 := hD.set (e := .inl (l_I L, 26, .inl (z_a st_men))) ha
  rw [hw] at hP2 hD2
  obtain ⟨u, u1, u2⟩ := kk _ _ ls hP2 hD2 ⟨by simp; exact hS.1, fun q g1 g2 => by
      rw [hoth q (fun e => g2 (by rw [e]; exact hD.2 q0 _ ha))]
      exact hS.2.1 q g1 g2, fun q hq => by
      rcases List.mem_append.mp hq with h | h
      · exact hS.2.2 q h
      · obtain ⟨z, -, hz9⟩ := List.mem_map.mp h
        rw [← hz9]
        exact hD.2 q0 _ ha⟩ hl _ heq S1
  exact ⟨u, stp u u1, u2⟩
end JS
