/-! CONTRACTS AND CALLS in J -/
def QX (ro : Option Value) (B : State → Prop) (A : Nat → Prop) : Array Value → State → Outcome → State → Prop := fun _ st oc t => (oc = .returned ro ∧ B t) ∧ va_F A st t
abbrev Wd (L : Lx) (w : va_W) (Wp : va_W → Prop) (sz : Nat) : State → Prop := fun t => ∃ w' : va_W, Wp w' ∧ va_P (l_D L) classes w' t.heap ∧ va_D (va_A w sz) w'
def CtP (L : Lx) (sb : Bool) (w : va_W) (sz : Nat) (U : State) : Prop := U.heap.size = sz ∧ va_P (l_D L) classes w U.heap ∧ va_D (fun _ => True) w ∧ pre_X L sb (va_A w sz) U U.heap
def CtG (L : Lx) (y : MethodName) (b : ByteArray) (n : Nat) (ret : Option FieldType) (rm : Room) (sb : Bool) (mc ms : Nat) (av : List Value) (w : va_W) (Wp : va_W → Prop) (ro : Option Value) : Prop :=
  ∀ sz : Nat, Met (l_l L) y (Cond.code y b n ret :: my_tbl) rm (va_Pc av (CtP L sb w sz)) (QX ro (Wd L w Wp sz) (va_A w sz)) mc ms (va_A w sz)
def Fin (L : Lx) (X : Cx) (w : va_W) (Wp : va_W → Prop) (ro : Option Value) (mc ms : Nat) : Prop :=
  ∃ sz : Nat, x_A X = va_A w sz ∧ x_Z X = MQ (x_b X) (QX ro (Wd L w Wp sz) (va_A w sz)) (x_a X) (x_s X) mc ms (va_A w sz)
theorem gd_my {y : MethodName} {b : ByteArray} {n : Nat} {r : Option FieldType} (h : Cond.code y b n r ∈ my_tbl) : GoodIn my_tbl (Cond.code y b n r :: my_tbl) := fun w hw => by
  have hm : w ∈ my_tbl := by
    rcases List.mem_cons.mp hw with e | e
    · rw [e]; exact h
    · exact e
  exact ⟨hm, good_of_word (List.mem_filter.mp hm).2⟩
theorem rr_ok.moved {L : Lx} {U V : State} (hvm : U.vm.Alike V.vm) (h : rr_ok L U) : rr_ok L V := by
  obtain ⟨k, h1, h2⟩ := h
  obtain ⟨k', hk', he⟩ := hvm.2.2 _ _ h1
  exact ⟨k', hk', by rw [he]; exact h2⟩
theorem nest_warm {w : Cond} (hw : w ∈ nest_tbl) {U V : State} (hW : U.WarmedH V.vm) (h : va_Nw w U) : va_Nw w V := by
  have hn : is_nest w = true := (List.mem_filter.mp hw).2
  cases w with
  | fieldLinkNest a i b n d q => exact va_Nw.warmF hW h
  | methodLinkNest a i x q => exact va_Nw.warmM hW h
  | _ => cases hn
theorem nest_tab {w : Cond} (hw : w ∈ nest_tbl) : w.onTables = true := by
  have hn : is_nest w = true := (List.mem_filter.mp hw).2
  cases w with
  | fieldLinkNest a i b n d q => rfl
  | methodLinkNest a i x q => rfl
  | _ => cases hn
theorem pre_X.go {L : Lx} {sb sb2 : Bool} {A B : Nat → Prop} {U V : State} {H0 H : Heap} (h : pre_X L sb A U H0) (hsb : sb2 = true → sb = true) (hW : U.WarmedH V.vm) (hq : ∀ a : Nat, a < H0.size → ¬ A a → H[a]? = H0[a]?) (hAB : ∀ q, B q → A q) : pre_X L sb2 B V H := by
  obtain ⟨h1, h2, h3, h4⟩ := h
  refine ⟨va_K.moved hW.alike h1, fun w hw => nest_warm hw hW (h2 w hw), h3.moved hW.alike, fun e => ?_⟩
  obtain ⟨t, g1, g2⟩ := h4 (hsb e)
  exact ⟨t, ((g1.kept hq).narrow hAB).moved hW.alike, ((g2.kept hq).narrow hAB).moved hW.alike⟩
theorem pre_X.blind {L : Lx} {sb : Bool} {A : Nat → Prop} {U : State} (h : pre_X L sb A U U.heap) (g : JFrame) (mk : MethodId) (a : Array Value) : pre_X L sb A (U.calling g mk a) (U.calling g mk a).heap := by
  obtain ⟨h1, h2, h3, h4⟩ := h
  refine ⟨va_K.moved (u := U) (U := U.calling g mk a) (Vm.Alike.refl U.vm) h1, fun w hw => va_Nw.same (nest_tab hw) (u := U) (U := U.calling g mk a) rfl (h2 w hw), h3, fun e => ?_⟩
  obtain ⟨t, g1, g2⟩ := h4 e
  exact ⟨t, va_Z.moved (u := U) (U := U.calling g mk a) (Vm.Alike.refl U.vm) g1, va_T.moved (u := U) (U := U.calling g mk a) (Vm.Alike.refl U.vm) g2⟩
theorem CtP.blind {L : Lx} {sb : Bool} {w : va_W} {sz : Nat} {av : List Value} : FrameBlind (va_Pc av (CtP L sb w sz)) := fun a U g mk q => by
  obtain ⟨q0, q1, qP, qD, qX⟩ := q
  exact ⟨q0, q1, qP, qD, qX.blind g mk a⟩
theorem CtG.of {L : Lx} {y : MethodName} {b : ByteArray} {n : Nat} {ret : Option FieldType} {rm : Room} {sb : Bool} {mc ms : Nat} {av : List Value} {w : va_W} {Wp : va_W → Prop} {ro : Option Value} (hy : plainName y.cls = true) (hn : (lg_sl av).length ≤ n)
    (body : ∀ X : Cx, Ok L X b n y.cls y.name ret rm sb → Fin L X w Wp ro mc ms → J L X n 0 0 w (lv_args 0 av) [] 0) : CtG L y b n ret rm sb mc ms av w Wp ro := by
  intro sz
  refine Met.ofW (cc := b) (maxL := n) (ret := ret) hy rfl ?_
  intro p e s m args below meth c s₁ B hml hv
  obtain ⟨rfl, hsz, hP, hD0, hpre⟩ := hv
  subst hsz
  have hts := atoms_spec (ws := Cond.code y b n ret :: my_tbl) B.pre
  have hD := hD0.self (sz := s.heap.size)
  rw [lg_entry_eq]
  exact body (p, e, (headSpec (Cond.code y b n ret :: my_tbl) rm).room, s, m, av.toArray, below, meth, c, MQ below (QX ro (Wd L w Wp s.heap.size) (va_A w s.heap.size)) av.toArray s mc ms (va_A w s.heap.size), va_A w s.heap.size)
    ⟨B.exec, B.bytes, hml, findClass_of_methodNamed B.named, fun v h => hts v (List.mem_cons_of_mem _ h), hpre, fun q h => Or.inr h, B.notSynchronized, B.returns, rfl, (name_of_methodNamed B.named B.method).1⟩ ⟨s.heap.size, rfl, rfl⟩ s.heap [] _ hP hD va_S.rf (lv_entry av hn)
/-- what a call must know of the tables: a virtual, a static, a special one; and the same by nest mates -/
def KB (y : MethodName) (b : ByteArray) (n : Nat) (ret : Option FieldType) (na : Nat) : Prop :=
  Cond.code y b n ret ∈ my_tbl ∧ Cond.initialized y.cls ∈ my_tbl ∧ (y.cls ≠ "java/lang/invoke/MethodHandle" ∧ y.cls ≠ "java/lang/invoke/VarHandle" ∧ (parseMethodDescriptor y.desc).map (fun d => d.parameters.length) = some na)
def Rm (rm rm2 : Room) (n mc ms ce sl : Nat) : Prop := rm2.cells = mc ∧ rm2.slots = ms ∧ rm2.frames + 1 ≤ rm.frames ∧ 8 + (n + 11) + rm2.locals ≤ rm.locals ∧ ce + mc ≤ rm.cells ∧ sl + ms ≤ rm.slots
/-- rooms by height -/
def rmh (h : Nat) : Room := { frames := h, locals := 40 * h, cells := 0, slots := 0 }
theorem Rm_h {h h2 n : Nat} (h1 : h2 + 1 ≤ h) (hn : n ≤ 21) : Rm (rmh h) (rmh h2) n 0 0 0 0 := by
  refine ⟨rfl, rfl, h1, ?_, Nat.le_refl _, Nat.le_refl _⟩
  show 8 + (n + 11) + 40 * h2 ≤ 40 * h
  omega
theorem Rm_1 {h q : Nat} (h1 : 1 ≤ h) (hq : q ≤ 20) : 1 ≤ (rmh h).frames ∧ q + 13 ≤ (rmh h).locals ∧ 0 ≤ (rmh h).cells ∧ 0 ≤ (rmh h).slots := by
  refine ⟨h1, ?_, Nat.le_refl _, Nat.le_refl _⟩
  show q + 13 ≤ 40 * h
  omega
section JC
variable {L : Lx} {X : Cx} {cc : ByteArray} {nL : Nat} {own nm : String} {ret : Option FieldType} {rm : Room} {sb : Bool} {ce sl : Nat} {ws : va_W} {lv : List (Nat × Value)} {st st0 rest : List Value} {pc : Nat}
variable {y : MethodName} {b : ByteArray} {n : Nat} {ret2 : Option FieldType} {rm2 : Room} {sb2 : Bool} {mc ms : Nat} {av As : List Value} {w wr : va_W} {Wp : va_W → Prop} {ro : Option Value} {na index : Nat} {C : String} {a : Nat} {host : String}
theorem J_run (E : Ok L X cc nL own nm ret rm sb) (hsb : sb2 = true → sb = true) (isC isR : List Nat) (hC : isC.map (fun i => ws[i]?) = w.map some) (hR : isR.map (fun i => ws[i]?) = wr.map some) (hnC : va_nd isC = true) (hnR : va_nd isR = true) (hdis : ∀ i ∈ isR, i ∉ isC)
    (run : ∀ (H : Heap) (locs : List Loc) (ls : Array Slot), ls.size = nL → va_P (l_D L) classes w H → (∀ U : State, U.heap = H → (x_s X).WarmedH U.vm → CtP L sb2 w H.size U) →
      va_Run (x_p X) (l_l L) (x_e X) (x_R X) (x_s X) (x_m X) (x_a X) (x_b X) (x_t X) (x_c X) H locs ce sl mc ms (F0 (x_m X) pc ls st0) rest (QX ro (Wd L w Wp H.size) (va_A w H.size) av.toArray) (va_A w H.size))
    (kk : ∀ w' : va_W, Wp w' → J L X nL (ce + mc) (sl + ms) (wr ++ w') lv (ro.toList ++ rest) (pc + 3)) : J L X nL ce sl ws lv st0 pc := by
  intro H locs ls hP hD hS hl
  have hPc := hP.sub isC (w_fm hC)
  have hDc := hD.sub isC hnC hC
  have hFc := va_free (wc := w) hD hS E.A isC hC
  have hr := run H locs ls hl.1 hPc (fun U hU hW => ⟨by rw [hU], by rw [hU]; exact hPc, hDc.weaken (fun _ _ _ _ => trivial), by
    rw [hU]
    exact E.pre.go hsb hW hS.2.1 hFc⟩)
  intro T hT S
  obtain ⟨v, st₀, t, T', G, h0, X', hG, e1, e2, ⟨⟨hv, w', hwp, hP1, hD1⟩, hz, hk⟩, stp⟩ := hr T hT S
  have hv' : v = ro := by injection hv
  subst hv'
  rw [h0] at hz hk
  rw [← e1] at hP1 hz hk
  obtain ⟨hP2, hD2⟩ := va_join (wr := wr) (w1 := w') hP hD isC isR hC hR hnR hdis (fun q h1 h2 => hk q h1 h2) hFc hP1 hD1
  obtain ⟨t2, a1, b1⟩ := kk w' hwp T'.heap (locs ++ G) ls hP2 hD2 ⟨Nat.le_trans hS.1 hz, fun q h1 h2 => by
      rw [hk q (Nat.lt_of_lt_of_le h1 hS.1) (fun z => h2 (hFc q z))]
      exact hS.2.1 q h1 h2, fun q hq => by
      rcases List.mem_append.mp hq with h | h
      · exact hS.2.2 q h
      · exact hFc _ (hG q h)⟩ hl T' rfl X'
  exact ⟨t2, stp t2 a1, b1⟩
theorem J_callV (E : Ok L X cc nL own nm ret rm sb) (hB : KB y b n ret2 na) (hl : Cond.methodLink own index y ∈ my_tbl) (hi : Cond.instanceMethod y ∈ my_tbl) (hse : Cond.selects C y y ∈ my_tbl) (hM : CtG L y b n ret2 rm2 sb2 mc ms (.ref a :: As) w Wp ro) (hsb : sb2 = true → sb = true) (hrm : Rm rm rm2 n mc ms ce sl)
    (isC isR : List Nat) (hC : isC.map (fun i => ws[i]?) = w.map some) (hR : isR.map (fun i => ws[i]?) = wr.map some) (hnC : va_nd isC = true) (hnR : va_nd isR = true) (hdis : ∀ i ∈ isR, i ∉ isC) (q0 : Nat) {ci N : Nat} {T : u_T} {fs : List Value} (hq : w[q0]? = some (a, .inr (ci, fs))) (hc : classes[ci]? = some (C, T, N))
    (hst : st0 = As.reverse ++ .ref a :: rest) (hna : As.length = na) (hre : (rest.map fun v => v.category).sum ≤ 8) (hdg : decode cc pc = .ok (.invokevirtual index, 3))
    (kk : ∀ w' : va_W, Wp w' → J L X nL (ce + mc) (sl + ms) (wr ++ w') lv (ro.toList ++ rest) (pc + 3)) : J L X nL ce sl ws lv st0 pc := by
  refine J_run (av := .ref a :: As) E hsb isC isR hC hR hnC hnR hdis (fun H locs ls hls hPc hU => ?_) kk
  obtain ⟨r1, r2, r3, r4, r5, r6⟩ := hrm
  exact va_runV (Ts := my_tbl) ⟨E.x, E.b, E.n, E.o, E.2.2.2.2.1⟩ (hM H.size) ⟨callB_of na E.2.2.2.2.1 (gd_my hB.1) rfl r1 r2 (E.w hB.2.1) (E.w hl) hB.2.2 (by rw [E.R]; exact ⟨r3, r4⟩), E.w hi, E.w hse⟩ ⟨CtP.blind, va_recv E.K hPc hc hq, fun U hU1 hW => ⟨rfl, hU U hU1 hW⟩⟩ rfl hna hls hst (lv_room hre) hdg (by rw [E.R]; exact ⟨r5, r6⟩)
theorem J_callVN (E : Ok L X cc nL own nm ret rm sb) (hB : KB y b n ret2 na) (hl : Cond.methodLinkNest own index y host ∈ nest_tbl) (hi : Cond.instanceMethod y ∈ my_tbl) (hse : Cond.selects C y y ∈ my_tbl) (hM : CtG L y b n ret2 rm2 sb2 mc ms (.ref a :: As) w Wp ro) (hsb : sb2 = true → sb = true) (hrm : Rm rm rm2 n mc ms ce sl)
    (isC isR : List Nat) (hC : isC.map (fun i => ws[i]?) = w.map some) (hR : isR.map (fun i => ws[i]?) = wr.map some) (hnC : va_nd isC = true) (hnR : va_nd isR = true) (hdis : ∀ i ∈ isR, i ∉ isC) (q0 : Nat) {ci N : Nat} {T : u_T} {fs : List Value} (hq : w[q0]? = some (a, .inr (ci, fs))) (hc : classes[ci]? = some (C, T, N))
    (hst : st0 = As.reverse ++ .ref a :: rest) (hna : As.length = na) (hre : (rest.map fun v => v.category).sum ≤ 8) (hdg : decode cc pc = .ok (.invokevirtual index, 3))
    (kk : ∀ w' : va_W, Wp w' → J L X nL (ce + mc) (sl + ms) (wr ++ w') lv (ro.toList ++ rest) (pc + 3)) : J L X nL ce sl ws lv st0 pc := by
  refine J_run (av := .ref a :: As) E hsb isC isR hC hR hnC hnR hdis (fun H locs ls hls hPc hU => ?_) kk
  obtain ⟨r1, r2, r3, r4, r5, r6⟩ := hrm
  exact va_runVN (Ts := my_tbl) ⟨E.x, E.b, E.n, E.o, E.2.2.2.2.1⟩ (hM H.size) ⟨va_cnB na E.2.2.2.2.1 (gd_my hB.1) rfl r1 r2 (E.2.2.2.2.2.1.2.1 _ hl) (E.w hB.2.1) hB.2.2 (by rw [E.R]; exact ⟨r3, r4⟩), E.w hi, E.w hse⟩ ⟨CtP.blind, va_recv E.K hPc hc hq, fun U hU1 hW => ⟨rfl, hU U hU1 hW⟩⟩ rfl hna hls hst (lv_room hre) hdg (by rw [E.R]; exact ⟨r5, r6⟩)
theorem J_callS (E : Ok L X cc nL own nm ret rm sb) (hB : KB y b n ret2 na) (hl : Cond.methodLink own index y ∈ my_tbl) (hi : Cond.static y ∈ my_tbl) (hM : CtG L y b n ret2 rm2 sb2 mc ms As w Wp ro) (hsb : sb2 = true → sb = true) (hrm : Rm rm rm2 n mc ms ce sl)
    (isC isR : List Nat) (hC : isC.map (fun i => ws[i]?) = w.map some) (hR : isR.map (fun i => ws[i]?) = wr.map some) (hnC : va_nd isC = true) (hnR : va_nd isR = true) (hdis : ∀ i ∈ isR, i ∉ isC)
    (hst : st0 = As.reverse ++ rest) (hna : As.length = na) (hre : (rest.map fun v => v.category).sum ≤ 8) (hdg : decode cc pc = .ok (.invokestatic index, 3))
    (kk : ∀ w' : va_W, Wp w' → J L X nL (ce + mc) (sl + ms) (wr ++ w') lv (ro.toList ++ rest) (pc + 3)) : J L X nL ce sl ws lv st0 pc := by
  refine J_run (av := As) E hsb isC isR hC hR hnC hnR hdis (fun H locs ls hls hPc hU => ?_) kk
  obtain ⟨r1, r2, r3, r4, r5, r6⟩ := hrm
  exact va_runS (Ts := my_tbl) ⟨E.x, E.b, E.n, E.o, E.2.2.2.2.1⟩ (hM H.size) ⟨callB_of na E.2.2.2.2.1 (gd_my hB.1) rfl r1 r2 (E.w hB.2.1) (E.w hl) hB.2.2 (by rw [E.R]; exact ⟨r3, r4⟩), E.w hi⟩ ⟨CtP.blind, fun U hU1 hW => ⟨rfl, hU U hU1 hW⟩⟩ rfl hna hls hst (lv_room hre) hdg (by rw [E.R]; exact ⟨r5, r6⟩)
theorem J_callSN (E : Ok L X cc nL own nm ret rm sb) (hB : KB y b n ret2 na) (hl : Cond.methodLinkNest own index y host ∈ nest_tbl) (hi : Cond.static y ∈ my_tbl) (hM : CtG L y b n ret2 rm2 sb2 mc ms As w Wp ro) (hsb : sb2 = true → sb = true) (hrm : Rm rm rm2 n mc ms ce sl)
    (isC isR : List Nat) (hC : isC.map (fun i => ws[i]?) = w.map some) (hR : isR.map (fun i => ws[i]?) = wr.map some) (hnC : va_nd isC = true) (hnR : va_nd isR = true) (hdis : ∀ i ∈ isR, i ∉ isC)
    (hst : st0 = As.reverse ++ rest) (hna : As.length = na) (hre : (rest.map fun v => v.category).sum ≤ 8) (hdg : decode cc pc = .ok (.invokestatic index, 3))
    (kk : ∀ w' : va_W, Wp w' → J L X nL (ce + mc) (sl + ms) (wr ++ w') lv (ro.toList ++ rest) (pc + 3)) : J L X nL ce sl ws lv st0 pc := by
  refine J_run (av := As) E hsb isC isR hC hR hnC hnR hdis (fun H locs ls hls hPc hU => ?_) kk
  obtain ⟨r1, r2, r3, r4, r5, r6⟩ := hrm
  exact va_runSN (Ts := my_tbl) ⟨E.x, E.b, E.n, E.o, E.2.2.2.2.1⟩ (hM H.size) ⟨va_cnB na E.2.2.2.2.1 (gd_my hB.1) rfl r1 r2 (E.2.2.2.2.2.1.2.1 _ hl) (E.w hB.2.1) hB.2.2 (by rw [E.R]; exact ⟨r3, r4⟩), E.w hi, trivial⟩ ⟨CtP.blind, fun U hU1 hW => ⟨rfl, hU U hU1 hW⟩⟩ rfl hna hls hst (lv_room hre) hdg (by rw [E.R]; exact ⟨r5, r6⟩)
theorem J_callI (E : Ok L X cc nL own nm ret rm sb) (hB : KB y b n none na) (hl : Cond.methodLink own index y ∈ my_tbl) (hi : Cond.instanceMethod y ∈ my_tbl) (hy1 : y.name = "<init>") (hM : CtG L y b n none rm2 sb2 mc ms (.ref a :: As) w Wp ro) (hsb : sb2 = true → sb = true) (hrm : Rm rm rm2 n mc ms ce sl)
    (isC isR : List Nat) (hC : isC.map (fun i => ws[i]?) = w.map some) (hR : isR.map (fun i => ws[i]?) = wr.map some) (hnC : va_nd isC = true) (hnR : va_nd isR = true) (hdis : ∀ i ∈ isR, i ∉ isC)
    (hst : st0 = As.reverse ++ .ref a :: rest) (hna : As.length = na) (hre : (rest.map fun v => v.category).sum ≤ 8) (hdg : decode cc pc = .ok (.invokespecial index, 3))
    (kk : ∀ w' : va_W, Wp w' → J L X nL (ce + mc) (sl + ms) (wr ++ w') lv (ro.toList ++ rest) (pc + 3)) : J L X nL ce sl ws lv st0 pc := by
  refine J_run (av := .ref a :: As) E hsb isC isR hC hR hnC hnR hdis (fun H locs ls hls hPc hU => ?_) kk
  obtain ⟨r1, r2, r3, r4, r5, r6⟩ := hrm
  exact va_runI (Ts := my_tbl) ⟨E.x, E.b, E.n, E.o, E.2.2.2.2.1⟩ (hM H.size) ⟨callB_of na E.2.2.2.2.1 (gd_my hB.1) rfl r1 r2 (E.w hB.2.1) (E.w hl) hB.2.2 (by rw [E.R]; exact ⟨r3, r4⟩), hy1, E.w hi⟩ ⟨CtP.blind, fun U hU1 hW => ⟨rfl, hU U hU1 hW⟩⟩ rfl hna hls hst (lv_room hre) hdg (by rw [E.R]; exact ⟨r5, r6⟩)
/-- returns -/
theorem J_ireturn {w0 : va_W} {x r : Int} (E : Ok L X cc nL own nm (some .int) rm sb) (F : Fin L X w0 Wp (some (.int (z_i r))) ce sl) (e : x = r) (hw : Wp ws) (hdg : decode cc pc = .ok (.ireturn, 1)) : J L X nL ce sl ws lv [.int (z_i x)] pc := fun H locs ls hP hD hS hl => by
  obtain ⟨sz, hA, hZ⟩ := F
  subst e
  rw [hA] at hD hS
  rw [hZ]
  exact W.iret E.x E.b E.r (fun t ht _ => ⟨⟨rfl, ws, hw, by rw [ht]; exact hP, hD⟩, hS.F ht⟩) hS.2.2 hdg (hlocks := E.k)
theorem J_zreturn {w0 : va_W} {x r : Int} (E : Ok L X cc nL own nm (some .boolean) rm sb) (F : Fin L X w0 Wp (some (.int (z_i r))) ce sl) (h01 : x = 0 ∨ x = 1) (e : x = r) (hw : Wp ws) (hdg : decode cc pc = .ok (.ireturn, 1)) : J L X nL ce sl ws lv [.int (z_i x)] pc := fun H locs ls hP hD hS hl => by
  obtain ⟨sz, hA, hZ⟩ := F
  subst e
  rw [hA] at hD hS
  rw [hZ]
  exact W.zret E.x E.b E.r (z_nar h01) (fun t ht _ => ⟨⟨rfl, ws, hw, by rw [ht]; exact hP, hD⟩, hS.F ht⟩) hS.2.2 hdg (hlocks := E.k)
theorem J_lreturn {w0 : va_W} {x r : Int} (E : Ok L X cc nL own nm (some .long) rm sb) (F : Fin L X w0 Wp (some (.long (z_l r))) ce sl) (e : x = r) (hw : Wp ws) (hdg : decode cc pc = .ok (.lreturn, 1)) : J L X nL ce sl ws lv [.long (z_l x)] pc := fun H locs ls hP hD hS hl => by
  obtain ⟨sz, hA, hZ⟩ := F
  subst e
  rw [hA] at hD hS
  rw [hZ]
  exact W.lret E.x E.b E.r (fun t ht _ => ⟨⟨rfl, ws, hw, by rw [ht]; exact hP, hD⟩, hS.F ht⟩) hS.2.2 hdg (hlocks := E.k)
theorem J_return {w0 : va_W} (E : Ok L X cc nL own nm none rm sb) (F : Fin L X w0 Wp none ce sl) (hw : Wp ws) (hdg : decode cc pc = .ok (.return_, 1)) : J L X nL ce sl ws lv [] pc := fun H locs ls hP hD hS hl => by
  obtain ⟨sz, hA, hZ⟩ := F
  rw [hA] at hD hS
  rw [hZ]
  exact W.vret E.x E.b E.r (fun t ht _ => ⟨⟨rfl, ws, hw, by rw [ht]; exact hP, hD⟩, hS.F ht⟩) hS.2.2 hdg (hlocks := E.k)
theorem J_mmax (E : Ok L X cc nL own nm ret rm sb) {u v : Int} (hl : Cond.methodLink own index Lib.Math.max.name ∈ my_tbl) (hs : Cond.static Lib.Math.max.name ∈ my_tbl) (hi : Cond.initialized "java/lang/Math" ∈ my_tbl) (hc : Cond.code Lib.Math.max.name Lib.Math.max.code 2 (some .int) ∈ my_tbl) (hrm : 1 ≤ rm.frames ∧ (st.map fun v => v.category).sum + 13 ≤ rm.locals ∧ ce ≤ rm.cells ∧ sl ≤ rm.slots) (huv : z_r u ∧ z_r v) (hdg : decode cc pc = .ok (.invokestatic index, 3))
    (kk : J L X nL ce sl ws lv (.int (z_i (z_mx u v)) :: st) (pc + 3)) : J L X nL ce sl ws lv (.int (z_i v) :: .int (z_i u) :: st) pc := fun H locs ls hP hD hS h => by
  rw [← E.R] at hrm
  exact va_mmax E.x E.b (by rw [E.n]; exact h.1.symm) E.o (E.w hl) (E.w hs) (E.w hi) (E.w hc) hrm.1 hrm.2.1 hrm.2.2.1 hrm.2.2.2 hdg (by rw [z_max u v huv.1 huv.2]; exact kk H locs ls hP hD hS h)
theorem J_mmin (E : Ok L X cc nL own nm ret rm sb) {u v : Int} (hl : Cond.methodLink own index Lib.Math.min.name ∈ my_tbl) (hs : Cond.static Lib.Math.min.name ∈ my_tbl) (hi : Cond.initialized "java/lang/Math" ∈ my_tbl) (hc : Cond.code Lib.Math.min.name Lib.Math.min.code 2 (some .int) ∈ my_tbl) (hrm : 1 ≤ rm.frames ∧ (st.map fun v => v.category).sum + 13 ≤ rm.locals ∧ ce ≤ rm.cells ∧ sl ≤ rm.slots) (huv : z_r u ∧ z_r v) (hdg : decode cc pc = .ok (.invokestatic index, 3))
    (kk : J L X nL ce sl ws lv (.int (z_i (z_mn u v)) :: st) (pc + 3)) : J L X nL ce sl ws lv (.int (z_i v) :: .int (z_i u) :: st) pc := fun H locs ls hP hD hS h => by
  rw [← E.R] at hrm
  exact va_mmin E.x E.b (by rw [E.n]; exact h.1.symm) E.o (E.w hl) (E.w hs) (E.w hi) (E.w hc) hrm.1 hrm.2.1 hrm.2.2.1 hrm.2.2.2 hdg (by rw [z_min u v huv.1 huv.2]; exact kk H locs ls hP hD hS h)
end JC
