/-! new int[2][26], walked by hand: an array of two nulls, then a row and its store, twice -/
def mw_r (c : ClassId) : Cell := { cls := c, slots := Array.replicate 26 (.int 0), vm := .none }
def mw_o (c : ClassId) : Cell := { cls := c, slots := Array.replicate 2 .null, vm := .none }
def mw_o1 (c : ClassId) (h : Nat) : Cell := (mw_o c).setSlot 0 (.ref (h + 1))
def mw_o2 (c : ClassId) (h : Nat) : Cell := (mw_o1 c h).setSlot 1 (.ref (h + 1 + 1))
def mw_1 (U : State) (cR cI : ClassId) : State := ((U.pushCell (mw_o cR)).pushCell (mw_r cI)).setCell U.heap.size (mw_o1 cR U.heap.size)
def mw_2 (U : State) (cR cI : ClassId) : State := ((mw_1 U cR cI).pushCell (mw_r cI)).setCell U.heap.size (mw_o2 cR U.heap.size)
theorem mw_1_at {U : State} {cR cI : ClassId} : (mw_1 U cR cI).heap.size = U.heap.size + 2 ∧ (mw_1 U cR cI).vm = U.vm ∧ (mw_1 U cR cI).slotsUsed = U.slotsUsed + 28 ∧ (mw_1 U cR cI).heap[U.heap.size]? = some (mw_o1 cR U.heap.size) ∧ (mw_1 U cR cI).heap[U.heap.size + 1]? = some (mw_r cI) ∧ ∀ q : Nat, q < U.heap.size → (mw_1 U cR cI).heap[q]? = U.heap[q]? := by
  have z1 : (U.pushCell (mw_o cR)).heap.size = U.heap.size + 1 := by simp
  have h1 : (U.pushCell (mw_o cR)).heap[U.heap.size]? = some (mw_o cR) := State.heap_pushCell_size _ _
  have h2 : ((U.pushCell (mw_o cR)).pushCell (mw_r cI)).heap[U.heap.size]? = some (mw_o cR) := by
    rw [State.heap_pushCell_of_lt (h := (show U.heap.size < (U.pushCell (mw_o cR)).heap.size by rw [z1]; omega))]
    exact h1
  refine ⟨?_, rfl, ?_, State.heap_setCell_self h2, ?_, fun q hq => ?_⟩
  · show (((U.pushCell (mw_o cR)).pushCell (mw_r cI)).setCell _ _).heap.size = _
    simp [State.setCell]
  · show (((U.pushCell (mw_o cR)).pushCell (mw_r cI)).setCell _ _).slotsUsed = _
    simp [mw_o, mw_r]
  · show (((U.pushCell (mw_o cR)).pushCell (mw_r cI)).setCell _ _).heap[U.heap.size + 1]? = _
    rw [State.heap_setCell_other (show U.heap.size ≠ U.heap.size + 1 by omega), ← z1]
    exact State.heap_pushCell_size _ _
  · show (((U.pushCell (mw_o cR)).pushCell (mw_r cI)).setCell _ _).heap[q]? = _
    rw [State.heap_setCell_other (show U.heap.size ≠ q by omega), State.heap_pushCell_of_lt (h := (show q < (U.pushCell (mw_o cR)).heap.size by rw [z1]; omega)), State.heap_pushCell_of_lt (h := hq)]
theorem mw_2_at {U : State} {cR cI : ClassId} : (mw_2 U cR cI).heap.size = U.heap.size + 3 ∧ (mw_2 U cR cI).heap[U.heap.size]? = some (mw_o2 cR U.heap.size) ∧ (mw_2 U cR cI).heap[U.heap.size + 1]? = some (mw_r cI) ∧ (mw_2 U cR cI).heap[U.heap.size + 1 + 1]? = some (mw_r cI) ∧ ∀ q : Nat, q < U.heap.size → (mw_2 U cR cI).heap[q]? = U.heap[q]? := by
  obtain ⟨z1, v1, u1, a0, a1, ao⟩ := mw_1_at (U := U) (cR := cR) (cI := cI)
  have h2 : ((mw_1 U cR cI).pushCell (mw_r cI)).heap[U.heap.size]? = some (mw_o1 cR U.heap.size) := by
    rw [State.heap_pushCell_of_lt (h := (show U.heap.size < (mw_1 U cR cI).heap.size by rw [z1]; omega))]
    exact a0
  refine ⟨?_, State.heap_setCell_self h2, ?_, ?_, fun q hq => ?_⟩
  · show (((mw_1 U cR cI).pushCell (mw_r cI)).setCell _ _).heap.size = _
    simp [State.setCell, z1]
  · show (((mw_1 U cR cI).pushCell (mw_r cI)).setCell _ _).heap[U.heap.size + 1]? = _
    rw [State.heap_setCell_other (show U.heap.size ≠ U.heap.size + 1 by omega), State.heap_pushCell_of_lt (h := (show U.heap.size + 1 < (mw_1 U cR cI).heap.size by rw [z1]; omega))]
    exact a1
  · show (((mw_1 U cR cI).pushCell (mw_r cI)).setCell _ _).heap[U.heap.size + 1 + 1]? = _
    rw [State.heap_setCell_other (show U.heap.size ≠ U.heap.size + 1 + 1 by omega), show U.heap.size + 1 + 1 = (mw_1 U cR cI).heap.size by rw [z1]]
    exact State.heap_pushCell_size _ _
  · show (((mw_1 U cR cI).pushCell (mw_r cI)).setCell _ _).heap[q]? = _
    rw [State.heap_setCell_other (show U.heap.size ≠ q by omega), State.heap_pushCell_of_lt (h := (show q < (mw_1 U cR cI).heap.size by rw [z1]; omega))]
    exact ao q hq
section MW
variable {E : CtlPost} {e : Env} {d : Bool} {acts : List Action} {U : State}
theorem mw_row {cI cc : ClassId} {k : Class} {V : State} {Q : Addr → Pre} (hk : V.vm.classes[cI]? = some k) (hkind : k.kind = .array cc .int) (hl : ¬ 26 > e.platform.arrayLengthLimit) (hh : ¬ 26 * componentBytes .int > e.platform.maxHeapBytes) (h1 : V.heap.size < e.platform.maxCells) (h2 : V.slotsUsed + 26 ≤ e.platform.maxSlots) (hq : ∀ acts', Q V.heap.size d acts' (V.pushCell (mw_r cI))) :
    wp (multianewarray.make cI [z_i 26]) Q E e d acts V := by
  have n26 : (z_i 26).toNatClampNeg = 26 := by decide
  have hn : ¬ z_i 26 < 0 := by decide
  rw [multianewarray.make]
  simp only [wp_bind', W.ite, hn, if_false, wp_pure', W.theClass, hk, hkind, Option.some.injEq, exists_eq_left', n26]
  exact W.newArray_of hk hkind hl hh h1 h2 rfl hq
set_option maxHeartbeats 1000000 in
theorem mw_make {cR cI cc : ClassId} {kA kC : Class} {Q : Addr → Pre} (hA : U.vm.classes[cR]? = some kA) (hkA : kA.kind = .array cI (.array .int)) (hC : U.vm.classes[cI]? = some kC) (hkC : kC.kind = .array cc .int)
    (hl1 : ¬ 2 > e.platform.arrayLengthLimit) (hh1 : ¬ 2 * componentBytes (.array .int) > e.platform.maxHeapBytes) (hl2 : ¬ 26 > e.platform.arrayLengthLimit) (hh2 : ¬ 26 * componentBytes .int > e.platform.maxHeapBytes) (h1 : U.heap.size + 3 ≤ e.platform.maxCells) (h2 : U.slotsUsed + 54 ≤ e.platform.maxSlots)
    (hq : ∀ d' acts', Q U.heap.size d' acts' (mw_2 U cR cI)) : wp (multianewarray.make cR [z_i 2, z_i 26]) Q E e d acts U := by
  have n2 : (z_i 2).toNatClampNeg = 2 := by decide
  have hn : ¬ z_i 2 < 0 := by decide
  have hz : (z_i 2 == 0) = false := by decide
  obtain ⟨z1, v1, u1, a0, a1, ao⟩ := mw_1_at (U := U) (cR := cR) (cI := cI)
  rw [multianewarray.make]
  simp only [wp_bind', W.ite, hn, if_false, wp_pure', W.theClass, hA, hkA, Option.some.injEq, exists_eq_left', n2, hz, Bool.false_eq_true]
  refine W.newArray_of hA hkA hl1 hh1 (by omega) (by omega) rfl (fun acts' => ?_)
  rw [wp_bind', Std.Legacy.Range.forIn_eq_forIn_range']
  show wp (forIn [0, 1] PUnit.unit _) _ E e d acts' (U.pushCell (mw_o cR))
  simp only [List.forIn_cons, List.forIn_nil, wp_bind', wp_pure']
  have hv0 : (U.pushCell (mw_o cR)).vm = U.vm := rfl
  have z0 : (U.pushCell (mw_o cR)).heap.size = U.heap.size + 1 := by simp
  have u0 : (U.pushCell (mw_o cR)).slotsUsed = U.slotsUsed + 2 := by simp [mw_o]
  have o0 : (U.pushCell (mw_o cR)).heap[U.heap.size]? = some (mw_o cR) := State.heap_pushCell_size _ _
  refine mw_row (k := kC) (cc := cc) (by rw [hv0]; exact hC) hkC hl2 hh2 (by rw [z0]; omega) (by rw [u0]; omega) (fun acts2 => ?_)
  simp only [wp_bind', W.writeLoc, wp_pure']
  refine ⟨mw_o cR, by rw [State.heap_pushCell_of_lt (h := (show U.heap.size < (U.pushCell (mw_o cR)).heap.size by rw [z0]; omega))]; exact o0, by simp [mw_o], by simp [mw_o], ?_, ?_⟩
  · simp [State.fitsSlot, State.slotType?, mw_o, hA, hkA, fits]
  have eS : (((U.pushCell (mw_o cR)).pushCell (mw_r cI)).setCell U.heap.size ((mw_o cR).setSlot 0 (.ref (U.pushCell (mw_o cR)).heap.size))) = mw_1 U cR cI := by rw [z0]; rfl
  rw [eS]
  refine mw_row (k := kC) (cc := cc) (by rw [v1]; exact hC) hkC hl2 hh2 (by rw [z1]; omega) (by rw [u1]; omega) (fun acts3 => ?_)
  simp only [wp_bind', W.writeLoc, wp_pure']
  refine ⟨mw_o1 cR U.heap.size, by rw [State.heap_pushCell_of_lt (h := (show U.heap.size < (mw_1 U cR cI).heap.size by rw [z1]; omega))]; exact a0, by simp [mw_o1, mw_o, Cell.setSlot], by simp [mw_o1, mw_o, Cell.setSlot], ?_, ?_⟩
  · simp [State.fitsSlot, State.slotType?, mw_o1, mw_o, Cell.setSlot, v1, hA, hkA, fits]
  have eS2 : (((mw_1 U cR cI).pushCell (mw_r cI)).setCell U.heap.size ((mw_o1 cR U.heap.size).setSlot 1 (.ref (mw_1 U cR cI).heap.size))) = mw_2 U cR cI := by rw [z1]; rfl
  rw [eS2]
  exact hq _ _
end MW
theorem mw_arr (cR : ClassId) (h : Nat) : mw_o2 cR h = vp_cell cR (2, .inr (.inr (.inr (.inr (fun i => if i < 2 then some (h + 1 + i) else none))))) := by
  have e0 : mw_o cR = arrV cR 2 (fun _ => .null) := by
    rw [← arrV_new]
    rfl
  rw [vp_cell_q]
  unfold mw_o2 mw_o1
  rw [e0, arrV_store, arrV_store]
  refine congrArg (arrV cR 2) (funext fun j => ?_)
  by_cases q : j = 1
  · subst q
    simp [updV, va_rf]
  · by_cases q0 : j = 0
    · subst q0
      simp [updV, va_rf]
    · simp [updV, q, q0, va_rf, show ¬ j < 2 by omega]
theorem mw_rw (cI : ClassId) : mw_r cI = vp_cell cI (26, .inl (z_a fun _ => 0)) := by
  show ({ cls := cI, slots := Array.replicate 26 (.int 0), vm := .none } : Cell) = _
  rw [arrV_new]
  rfl
theorem nr_push {A : Nat → Prop} {ws : va_W} {a : Nat} (e : va_E) (hD : va_D A ws) (hlt : ∀ (k : Nat) (x : Nat × va_E), ws[k]? = some x → x.1 < a) (hA : A a) : va_D A (ws ++ [(a, e)]) ∧ ∀ (k : Nat) (x : Nat × va_E), (ws ++ [(a, e)])[k]? = some x → x.1 < a + 1 := by
  have key : ∀ (k : Nat) (q : Nat × va_E), (ws ++ [(a, e)])[k]? = some q → (ws[k]? = some q ∧ q.1 < a) ∨ (k = ws.length ∧ q.1 = a) := by
    intro k q hk
    by_cases hl : k < ws.length
    · rw [List.getElem?_append_left hl] at hk
      exact Or.inl ⟨hk, hlt k q hk⟩
    · rw [List.getElem?_append_right (by omega)] at hk
      have hz : k - ws.length < 1 := (List.getElem?_eq_some_iff.mp hk).1
      rw [show k - ws.length = 0 by omega] at hk
      cases hk
      exact Or.inr ⟨by omega, rfl⟩
  refine ⟨⟨fun i j p q hi hj hpq => ?_, fun k q hk => ?_⟩, fun k q hk => ?_⟩
  · rcases key i p hi with ⟨h1, h2⟩ | ⟨h1, h2⟩ <;> rcases key j q hj with ⟨g1, g2⟩ | ⟨g1, g2⟩
    · exact hD.1 i j p q h1 g1 hpq
    · omega
    · omega
    · omega
  · rcases key k q hk with ⟨h1, h2⟩ | ⟨h1, h2⟩
    · exact hD.2 k q h1
    · rw [h2]; exact hA
  · rcases key k q hk with ⟨h1, h2⟩ | ⟨h1, h2⟩ <;> omega
section JM
variable {L : Lx} {X : Cx} {cc : ByteArray} {nL : Nat} {own nm : String} {ret : Option FieldType} {rm : Room} {sb : Bool} {ce sl : Nat} {ws : va_W} {lv : List (Nat × Value)} {st : List Value} {pc index : Nat}
set_option maxHeartbeats 1000000 in
theorem J_mna (E : Ok L X cc nL own nm ret rm sb) (hl : Cond.classLink own index "[[I" ∈ my_tbl) (hrm : ce + 3 ≤ rm.cells ∧ sl + 54 ≤ rm.slots) (hdg : decode cc pc = .ok (.multianewarray index 2, 4))
    (kk : ∀ (q : Nat), J L X nL (ce + 3) (sl + 54) (ws ++ [(q, aR L 2 (fun i => if i < 2 then some (q + 1 + i) else none)), (q + 1, aI L 26 (fun _ => 0)), (q + 1 + 1, aI L 26 (fun _ => 0))]) lv (.ref q :: st) (pc + 4)) : J L X nL ce sl ws lv (.int (z_i 26) :: .int (z_i 2) :: st) pc := by
  intro H locs ls hP hD hS h T hT Xs
  have hK := E.K
  obtain ⟨kA, hkA, hkindA⟩ := E.pre.2.2.1
  obtain ⟨kC, hkC, cI, hkindC⟩ := ((hK.2 0 (l_I L, .int) rfl).1 0 (fun _ => .null)).2
  have hnA : (x_s X).vm.findClass "[[I" = some (l_R L) := (hK.2 2 (l_R L, .array .int) rfl).2
  have hpl : (x_e X).platform.magicAccessors = ({} : Platform).magicAccessors := by rw [Xs.admits.platform]
  obtain ⟨c0, hfc0, hcl⟩ := Cond.classLink_spec E.o (E.w hl) (x_e X).platform hpl
  have ec : l_R L = c0 := Option.some.inj (hnA.symm.trans hfc0)
  subst ec
  obtain ⟨hg1, hwarm, hready⟩ := State.classEntry (e := x_e X) Xs.warmed hcl
  generalize T.vm.noted (x_m X).cls index (.cls (l_R L)) = vm1 at hg1 hwarm hready
  have hal : (x_s X).vm.Alike vm1 := hwarm.alike
  obtain ⟨kA1, hkA1, heA⟩ := hal.2.2 _ _ hkA
  obtain ⟨kC1, hkC1, heC⟩ := hal.2.2 _ _ hkC
  have hkindA1 : kA1.kind = .array (l_I L) (.array .int) := by rw [heA]; exact hkindA
  have hkindC1 : kC1.kind = .array cI .int := by rw [heC]; exact hkindC
  have X1 := Xs.noted hwarm
  rw [← E.R] at hrm
  obtain ⟨hr1, hr2⟩ := Xs.roomAbove hrm.1 hrm.2
  have n2 : (z_i 2).toNatClampNeg = 2 := by decide
  have n26 : (z_i 26).toNatClampNeg = 26 := by decide
  have hTh : (T.setVm vm1).heap = H := hT
  have hTz : (T.setVm vm1).heap.size = H.size := by rw [hTh]
  have XA := X1.pushed (mw_o (l_R L))
  have XB := XA.pushed (mw_r (l_I L))
  have hB : (((T.setVm vm1).pushCell (mw_o (l_R L))).pushCell (mw_r (l_I L))).heap[(T.setVm vm1).heap.size]? = some (mw_o (l_R L)) := by
    rw [State.heap_pushCell_of_lt (h := (show (T.setVm vm1).heap.size < ((T.setVm vm1).pushCell (mw_o (l_R L))).heap.size by simp))]
    exact State.heap_pushCell_size _ _
  have XC := XB.stored hB 0 (.ref ((T.setVm vm1).heap.size + 1))
  have XD := XC.pushed (mw_r (l_I L))
  have hB2 : ((mw_1 (T.setVm vm1) (l_R L) (l_I L)).pushCell (mw_r (l_I L))).heap[(T.setVm vm1).heap.size]? = some (mw_o1 (l_R L) (T.setVm vm1).heap.size) := by
    obtain ⟨z1, -, -, a0, -⟩ := mw_1_at (U := T.setVm vm1) (cR := l_R L) (cI := l_I L)
    rw [State.heap_pushCell_of_lt (h := (show (T.setVm vm1).heap.size < (mw_1 (T.setVm vm1) (l_R L) (l_I L)).heap.size by rw [z1]; omega))]
    exact a0
  have XE := XD.stored hB2 1 (.ref ((T.setVm vm1).heap.size + 1 + 1))
  have XF : Stand (x_p X) (l_l L) (x_e X) (x_R X) (x_s X) (x_m X) (x_a X) (x_b X) (x_t X) (x_c X) (mw_2 (T.setVm vm1) (l_R L) (l_I L)) (locs ++ [⟨(T.setVm vm1).heap.size, 0⟩] ++ [⟨(T.setVm vm1).heap.size, 1⟩]) (ce + 3) (sl + 54) := XE
  obtain ⟨f1, f2, f3, f4, hold0⟩ := mw_2_at (U := T.setVm vm1) (cR := l_R L) (cI := l_I L)
  generalize hF : mw_2 (T.setVm vm1) (l_R L) (l_I L) = F at XF f1 f2 f3 f4 hold0
  rw [hTh] at f1 f2 f3 f4 hold0
  have hold : ∀ x : Nat, x < H.size → F.heap[x]? = H[x]? := hold0
  have hk0 : ∀ (k : Nat) (x : Nat × va_E), ws[k]? = some x → F.heap[x.1]? = H[x.1]? := fun k x hx => hold x.1 ((hP k x hx).lt)
  have hA1 : ∀ q : Nat, H.size ≤ q → x_A X q := fun q hq => E.A q (Nat.le_trans hS.1 hq)
  have hd : ∀ (k : Nat) (x : Nat × va_E), ws[k]? = some x → x.1 < H.size := fun k x hx => (hP k x hx).lt
  have hP1 : va_P (l_D L) classes (ws ++ [(H.size, aR L 2 (fun i => if i < 2 then some (H.size + 1 + i) else none)), (H.size + 1, aI L 26 (fun _ => 0)), (H.size + 1 + 1, aI L 26 (fun _ => 0))]) F.heap := by
    refine (hP.kept hk0).app (fun k x hx => ?_)
    match k, hx with
    | 0, hx =>
      cases hx
      exact f2.trans (congrArg some (mw_arr _ _))
    | 1, hx =>
      cases hx
      exact f3.trans (congrArg some (mw_rw _))
    | 2, hx =>
      cases hx
      exact f4.trans (congrArg some (mw_rw _))
    | k + 3, hx => exact absurd hx (by simp)
  have hD1 : va_D (x_A X) (ws ++ [(H.size, aR L 2 (fun i => if i < 2 then some (H.size + 1 + i) else none)), (H.size + 1, aI L 26 (fun _ => 0)), (H.size + 1 + 1, aI L 26 (fun _ => 0))]) := by
    obtain ⟨d1, b1⟩ := nr_push (aR L 2 (fun i => if i < 2 then some (H.size + 1 + i) else none)) hD hd (hA1 _ (Nat.le_refl _))
    obtain ⟨d2, b2⟩ := nr_push (aI L 26 (fun _ => 0)) d1 b1 (hA1 _ (by omega))
    obtain ⟨d3, b3⟩ := nr_push (aI L 26 (fun _ => 0)) d2 b2 (hA1 _ (by omega))
    rw [List.append_assoc, List.append_assoc] at d3
    exact d3
  have hS1 : va_S (x_A X) (x_s X).heap F.heap (locs ++ [⟨(T.setVm vm1).heap.size, 0⟩] ++ [⟨(T.setVm vm1).heap.size, 1⟩]) := by
    refine ⟨Nat.le_trans hS.1 (by rw [f1]; omega), fun q h1 h2 => (hold q (Nat.lt_of_lt_of_le h1 hS.1)).trans (hS.2.1 q h1 h2), fun q hq => ?_⟩
    rw [List.append_assoc] at hq
    rcases List.mem_append.mp hq with g | g
    · exact hS.2.2 q g
    · rcases List.mem_append.mp g with g | g
      · rw [List.mem_singleton.mp g]
        exact hA1 _ (by rw [hTz]; exact Nat.le_refl _)
      · rw [List.mem_singleton.mp g]
        exact hA1 _ (by rw [hTz]; exact Nat.le_refl _)
  obtain ⟨t2, a1, b1⟩ := kk H.size F.heap _ ls hP1 hD1 hS1 h F rfl XF
  refine ⟨t2, ?_, b1⟩
  have hl1 : ¬ 2 > (x_e X).platform.arrayLengthLimit := by rw [Launch.admits_arrayLengthLimit Xs.admits]; decide
  have hh1 : ¬ 2 * componentBytes (.array .int) > (x_e X).platform.maxHeapBytes := by rw [Launch.admits_maxHeapBytes Xs.admits]; decide
  have hl2 : ¬ 26 > (x_e X).platform.arrayLengthLimit := by rw [Launch.admits_arrayLengthLimit Xs.admits]; decide
  have hh2 : ¬ 26 * componentBytes .int > (x_e X).platform.maxHeapBytes := by rw [Launch.admits_maxHeapBytes Xs.admits]; decide
  have hb := E.b
  have hexec := E.x
  jvm_step Xs.here [hexec, hb, hdg]
  simp only [multianewarray.sem, wp_bind', W.resolveClassAt_links (State.method?_setTop (F0 (x_m X) pc ls (.int (z_i 26) :: .int (z_i 2) :: st)) Xs.here.top) hg1]
  rw [W.popN, if_neg (by decide)]
  refine ⟨F0 (x_m X) pc ls (.int (z_i 26) :: .int (z_i 2) :: st), State.topJava?_setTop' (s := T.setVm vm1) _ Xs.here.top, [.int (z_i 2), .int (z_i 26)], st, rfl, rfl, ?_⟩
  simp only [List.mapM_cons, List.mapM_nil, wp_bind', wp_pure']
  have eS : ((T.setTop (F0 (x_m X) pc ls (.int (z_i 26) :: .int (z_i 2) :: st))).setVm vm1).setTop { F0 (x_m X) pc ls (.int (z_i 26) :: .int (z_i 2) :: st) with stack := st } = (T.setVm vm1).setTop { F0 (x_m X) pc ls (.int (z_i 26) :: .int (z_i 2) :: st) with stack := st } := by
    show ((T.setVm vm1).setTop _).setTop _ = _
    rw [State.setTop_setTop]
  refine mw_make (kA := kA1) (kC := kC1) (cc := cI) hkA1 hkindA1 hkC1 hkindC1 hl1 hh1 hl2 hh2 (by show T.heap.size + 3 ≤ _; omega) (by show T.slotsUsed + 54 ≤ _; omega) (fun d' acts' => ?_)
  have eF : mw_2 (((T.setTop (F0 (x_m X) pc ls (.int (z_i 26) :: .int (z_i 2) :: st))).setVm vm1).setTop { F0 (x_m X) pc ls (.int (z_i 26) :: .int (z_i 2) :: st) with stack := st }) (l_R L) (l_I L) = F.setTop { F0 (x_m X) pc ls (.int (z_i 26) :: .int (z_i 2) :: st) with stack := st } := by
    rw [eS, ← hF]
    rfl
  rw [eF]
  simp only [wp_bind', W.mark, W.pushRef, State.topJava?_setTop' _ XF.here.top, Option.some.injEq, exists_eq_left', State.setTop_setTop, State.heap_setTop]
  intro acts
  simp [jvm, XF.here.top]
  have hTs : (T.setVm vm1).heap.size = H.size := by rw [hTh]
  first | exact a1 | (rw [hT]; exact a1) | (rw [hTs]; exact a1) | (subst hT; exact a1)
end JM
