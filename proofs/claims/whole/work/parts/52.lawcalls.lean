/-! THE CLAIM OUT OF ONE WALK OF THE LAW'S BODY. Your part is whole_start (and what it stands on); all else here is the same for every law, but numbers. -/
def lw_P (b : Addr) (xs : List Int32) (args : Array Value) (s : State) : Prop := args = #[.ref b] ∧ s.IntsAt b xs ∧ xs.length ≤ 2561 ∧ (Jvm.Cond.and given_1 narrow_1).before args s = true
def lw_Q (_ : Array Value) (s : State) (o : Outcome) (t : State) : Prop := o = .returned (some (.int 1)) ∧ Framed s o t [] 600000 7302250
def lw_Z (below : List Frame) (a : Array Value) (s : State) : State → Prop := fun t => ∃ o, t.status = .running ∧ Ended t below o ∧ lw_Q a s o t
/-- the law's own end, with 1 on the stack, nothing written that was there before, its room as the claim has it -/
theorem lw_ret {p : Program} {l : Launch} {e : Env} {s : State} {m : MethodId} {below : List Frame} {meth : Method} {c : Code} {b : Nat} (hx : p.tables.exec = Jvm.exec) (hb : c.code = code) (hr : meth.sig.returnType = ret) (hlocks : meth.locks = false) {pc : Nat} {H : Heap} {ls : Array Slot} (hdg : decode code pc = .ok (.ireturn, 1)) : W p l e room_1 s m #[Value.ref b] below meth c H [] 600000 7302250 (lw_Z below #[Value.ref b] s) (F0 m pc ls [.int 1]) := by
  intro T hT X
  obtain ⟨fs, hret, hrun, hended, hW, hframe⟩ := X.leave (v := some (.int 1)) (hlocks := hlocks) (fun h => by rw [hr] at h; cases h)
  have hmeth' : T.vm.method? m = some meth := X.method'
  refine ⟨T.setFrames fs, ?_, .returned (some (.int 1)), hrun, hended, rfl, ⟨_, rfl⟩, hW, hframe⟩
  jvm_step X.here [X.here.top, hx, hb, hdg, hmeth', hr, ret, narrow_b1]
  (try refine ⟨rfl, ?_⟩); (try refine ⟨rfl, ?_⟩)
  first | (intro acts; rw [hret _ acts rfl rfl rfl]) | rw [hret _ _ rfl rfl rfl]
  exact Steps.refl _
/-- what holds at the law's entry: the machine, the code, the tables' words (any of lw_tbl by 'hts w (by decide +kernel)'), the script of L ints xs at the cell b, what the Statement gives of the start (any of its parts by flat_of_before) -/
def lw_At (p : Program) (s : State) (m : MethodId) (meth : Method) (c : Code) (b L : Nat) (xs : Nat → Int32) : Prop :=
  p.tables.exec = Jvm.exec ∧ c.code = code ∧ meth.sig.returnType = ret ∧ c.maxLocals = 4 ∧ s.vm.findClass R_law = some m.cls ∧ (∀ w ∈ lw_tbl, w.before #[Value.ref b] s = true) ∧ va_X b L xs s s.heap ∧ b < s.heap.size ∧ meth.locks = false ∧ (Jvm.Cond.and given_1 narrow_1).before #[Value.ref b] s = true
/-- the law's own frame: its room, its end, what it may write -/
def lw_X (X : Cx) (b : Nat) : Prop := x_R X = room_1 ∧ x_Z X = lw_Z (x_b X) (x_a X) (x_s X) ∧ x_a X = #[Value.ref b] ∧ x_A X = fun q => (x_s X).heap.size ≤ q
theorem J_end {L : Lx} {X : Cx} {nL : Nat} {own nm : String} {rm : Room} {sb : Bool} {ce sl : Nat} {ws : va_W} {lv : List (Nat × Value)} {pc b : Nat} (E : Ok L X code nL own nm ret rm sb) (hX : lw_X X b) (hc : ce ≤ 600000) (hs : sl ≤ 7302250) (hdg : decode code pc = .ok (.ireturn, 1)) : J L X nL ce sl ws lv [.int (z_i 1)] pc := fun H locs ls hP hD hS h => by
  obtain ⟨h1, h2, h3, h4⟩ := hX
  rw [h1, h2, h3]
  refine va_forget (fun q hq => ?_) (W.widen hc hs (lw_ret E.x E.b E.r E.k hdg))
  have := hS.2.2 q hq
  rw [h4] at this
  exact this
theorem k_T_place (L : Lx) (tm sc bo ra r0 r1 ho di rx kn : Nat) (gr : Nat → Option Nat) (g0 : gr 0 = some r0) (g1 : gr 1 = some r1) {σ : AS} (hS : st_ok σ) (p pt n : Int) (hp_ : z_r p) (hpt_ : z_r pt) (hn_ : z_r n) (w : va_W) (hw : RC L tm sc bo ra r0 r1 ho di rx kn gr σ w) : CtG L y_T_place b_T_place 4 (some .boolean) (rmh 2) false 0 0 [.ref tm, .int (z_i p), .int (z_i pt), .int (z_i n)] w (RC L tm sc bo ra r0 r1 ho di rx kn gr ((m_place σ p pt n).2)) (some (.int (z_i (m_place σ p pt n).1))) := by
  obtain ⟨len, stg, mv, stk, hol, cn, cs, sco, b0, b1, hi, lo, hs, ls⟩ := σ
  obtain ⟨us, pl, ct, dice, kno, hH, hmm, rfl⟩ := hw
  exact c_T_place L tm sc bo ra r0 r1 ho di rx kn gr len stg mv stk hol cn cs sco b0 b1 us pl ct dice kno hi lo hs ls p pt n g0 g1 hS hH hmm hp_ hpt_ hn_
theorem k_M_place (L : Lx) (mo ms mb mt mf mc : Nat) {σ : AS} (hS : st_ok σ) (p pt n : Int) (hp_ : z_r p) (hpt_ : z_r pt) (hn_ : z_r n) (w : va_W) (hw : RR L mo ms mb mt mf mc σ w) : CtG L y_M_place b_M_place 5 (some .boolean) (rmh 1) false 0 0 [.ref mo, .int (z_i p), .int (z_i pt), .int (z_i n)] w (RR L mo ms mb mt mf mc ((m_place σ p pt n).2)) (some (.int (z_i (m_place σ p pt n).1))) := by
  obtain ⟨len, stg, mv, stk, hol, cn, cs, sco, b0, b1, hi, lo, hs, ls⟩ := σ
  obtain ⟨du, kw, bb, tr, fr, chn, hrb, hg, hdu, hkw, rfl⟩ := hw
  exact c_M_place L mo ms mb mt mf mc len stg mv stk hol cn cs hi lo hs ls du kw sco bb tr fr chn b0 b1 p pt n hS hrb hg hdu hkw hp_ hpt_ hn_
theorem k_T_roll (L : Lx) (tm sc bo ra r0 r1 ho di rx kn : Nat) (gr : Nat → Option Nat) (g0 : gr 0 = some r0) (g1 : gr 1 = some r1) {σ : AS} (hS : st_ok σ) (a b : Int) (ha_ : z_r a) (hb_ : z_r b) (w : va_W) (hw : RC L tm sc bo ra r0 r1 ho di rx kn gr σ w) : CtG L y_T_roll b_T_roll 3 (some .int) (rmh 13) false 0 0 [.ref tm, .int (z_i a), .int (z_i b)] w (RC L tm sc bo ra r0 r1 ho di rx kn gr ((m_roll σ a b).2)) (some (.int (z_i (m_roll σ a b).1))) := by
  obtain ⟨len, stg, mv, stk, hol, cn, cs, sco, b0, b1, hi, lo, hs, ls⟩ := σ
  obtain ⟨us, pl, ct, dice, kno, hH, hmm, rfl⟩ := hw
  exact c_T_roll L tm sc bo ra r0 r1 ho di rx kn gr len stg mv stk hol cn cs sco b0 b1 us pl ct dice kno hi lo hs ls a b g0 g1 hS hH hmm ha_ hb_
theorem k_M_roll (L : Lx) (mo ms mb mt mf mc : Nat) {σ : AS} (hS : st_ok σ) (a b : Int) (ha_ : z_r a) (hb_ : z_r b) (w : va_W) (hw : RR L mo ms mb mt mf mc σ w) : CtG L y_M_roll b_M_roll 3 (some .int) (rmh 8) false 0 0 [.ref mo, .int (z_i a), .int (z_i b)] w (RR L mo ms mb mt mf mc ((m_roll σ a b).2)) (some (.int (z_i (m_roll σ a b).1))) := by
  obtain ⟨len, stg, mv, stk, hol, cn, cs, sco, b0, b1, hi, lo, hs, ls⟩ := σ
  obtain ⟨du, kw, bb, tr, fr, chn, hrb, hg, hdu, hkw, rfl⟩ := hw
  exact c_M_roll L mo ms mb mt mf mc len stg mv stk hol cn cs hi lo hs ls du kw sco bb tr fr chn b0 b1 a b hS hrb hg hdu hkw ha_ hb_
theorem k_T_move (L : Lx) (tm sc bo ra r0 r1 ho di rx kn : Nat) (gr : Nat → Option Nat) (g0 : gr 0 = some r0) (g1 : gr 1 = some r1) {σ : AS} (hS : st_ok σ) (f d : Int) (hf_ : z_r f) (hd_ : z_r d) (w : va_W) (hw : RC L tm sc bo ra r0 r1 ho di rx kn gr σ w) : CtG L y_T_move b_T_move 3 (some .int) (rmh 13) true 0 0 [.ref tm, .int (z_i f), .int (z_i d)] w (RC L tm sc bo ra r0 r1 ho di rx kn gr ((m_move σ f d).2)) (some (.int (z_i (m_move σ f d).1))) := by
  obtain ⟨len, stg, mv, stk, hol, cn, cs, sco, b0, b1, hi, lo, hs, ls⟩ := σ
  obtain ⟨us, pl, ct, dice, kno, hH, hmm, rfl⟩ := hw
  exact c_T_move L tm sc bo ra r0 r1 ho di rx kn gr len stg mv stk hol cn cs sco b0 b1 us pl ct dice kno hi lo hs ls f d g0 g1 hS hH hmm hf_ hd_
theorem k_M_move (L : Lx) (mo ms mb mt mf mc : Nat) {σ : AS} (hS : st_ok σ) (f d : Int) (hf_ : z_r f) (hd_ : z_r d) (w : va_W) (hw : RR L mo ms mb mt mf mc σ w) : CtG L y_M_move b_M_move 4 (some .int) (rmh 7) false 0 0 [.ref mo, .int (z_i f), .int (z_i d)] w (RR L mo ms mb mt mf mc ((m_move σ f d).2)) (some (.int (z_i (m_move σ f d).1))) := by
  obtain ⟨len, stg, mv, stk, hol, cn, cs, sco, b0, b1, hi, lo, hs, ls⟩ := σ
  obtain ⟨du, kw, bb, tr, fr, chn, hrb, hg, hdu, hkw, rfl⟩ := hw
  exact c_M_move L mo ms mb mt mf mc len stg mv stk hol cn cs hi lo hs ls du kw sco bb tr fr chn b0 b1 f d hS hrb hg hdu hkw hf_ hd_
theorem k_T_step (L : Lx) (tm sc bo ra r0 r1 ho di rx kn : Nat) (gr : Nat → Option Nat) (g0 : gr 0 = some r0) (g1 : gr 1 = some r1) {σ : AS} (hS : st_ok σ) (k : Int) (hk_ : z_r k) (w : va_W) (hw : RC L tm sc bo ra r0 r1 ho di rx kn gr σ w) : CtG L y_T_step b_T_step 5 (some .int) (rmh 13) true 0 0 [.ref tm, .int (z_i k)] w (RC L tm sc bo ra r0 r1 ho di rx kn gr ((m_step σ k).2)) (some (.int (z_i (m_step σ k).1))) := by
  obtain ⟨len, stg, mv, stk, hol, cn, cs, sco, b0, b1, hi, lo, hs, ls⟩ := σ
  obtain ⟨us, pl, ct, dice, kno, hH, hmm, rfl⟩ := hw
  exact c_T_step L tm sc bo ra r0 r1 ho di rx kn gr len stg mv stk hol cn cs sco b0 b1 us pl ct dice kno hi lo hs ls k g0 g1 hS hH hmm hk_
theorem k_M_step (L : Lx) (mo ms mb mt mf mc : Nat) {σ : AS} (hS : st_ok σ) (k : Int) (hk_ : z_r k) (w : va_W) (hw : RR L mo ms mb mt mf mc σ w) : CtG L y_M_step b_M_step 3 (some .int) (rmh 8) false 0 0 [.ref mo, .int (z_i k)] w (RR L mo ms mb mt mf mc ((m_step σ k).2)) (some (.int (z_i (m_step σ k).1))) := by
  obtain ⟨len, stg, mv, stk, hol, cn, cs, sco, b0, b1, hi, lo, hs, ls⟩ := σ
  obtain ⟨du, kw, bb, tr, fr, chn, hrb, hg, hdu, hkw, rfl⟩ := hw
  exact c_M_step L mo ms mb mt mf mc len stg mv stk hol cn cs hi lo hs ls du kw sco bb tr fr chn b0 b1 k hS hrb hg hdu hkw hk_
theorem k_T_ways (L : Lx) (tm sc bo ra r0 r1 ho di rx kn : Nat) (gr : Nat → Option Nat) (g0 : gr 0 = some r0) (g1 : gr 1 = some r1) {σ : AS} (hS : st_ok σ)   (w : va_W) (hw : RC L tm sc bo ra r0 r1 ho di rx kn gr σ w) : CtG L y_T_ways b_T_ways 1 (some .int) (rmh 14) false 0 0 [.ref tm] w (RC L tm sc bo ra r0 r1 ho di rx kn gr (σ)) (some (.int (z_i (m_ways σ)))) := by
  obtain ⟨len, stg, mv, stk, hol, cn, cs, sco, b0, b1, hi, lo, hs, ls⟩ := σ
  obtain ⟨us, pl, ct, dice, kno, hH, hmm, rfl⟩ := hw
  exact c_T_ways L tm sc bo ra r0 r1 ho di rx kn gr len stg mv stk hol cn cs sco b0 b1 us pl ct dice kno hi lo hs ls  g0 g1 hS hH hmm 
theorem k_M_ways (L : Lx) (mo ms mb mt mf mc : Nat) {σ : AS} (hS : st_ok σ)   (w : va_W) (hw : RR L mo ms mb mt mf mc σ w) : CtG L y_M_ways b_M_ways 1 (some .int) (rmh 8) false 0 0 [.ref mo] w (RR L mo ms mb mt mf mc (σ)) (some (.int (z_i (m_ways σ)))) := by
  obtain ⟨len, stg, mv, stk, hol, cn, cs, sco, b0, b1, hi, lo, hs, ls⟩ := σ
  obtain ⟨du, kw, bb, tr, fr, chn, hrb, hg, hdu, hkw, rfl⟩ := hw
  exact c_M_ways L mo ms mb mt mf mc len stg mv stk hol cn cs hi lo hs ls du kw sco bb tr fr chn b0 b1  hS hrb hg hdu hkw 
theorem k_T_due (L : Lx) (tm sc bo ra r0 r1 ho di rx kn : Nat) (gr : Nat → Option Nat) (g0 : gr 0 = some r0) (g1 : gr 1 = some r1) {σ : AS} (hS : st_ok σ)   (w : va_W) (hw : RC L tm sc bo ra r0 r1 ho di rx kn gr σ w) : CtG L y_T_due b_T_due 1 (some .int) (rmh 1) false 0 0 [.ref tm] w (RC L tm sc bo ra r0 r1 ho di rx kn gr (σ)) (some (.int (z_i (m_dueA σ)))) := by
  obtain ⟨len, stg, mv, stk, hol, cn, cs, sco, b0, b1, hi, lo, hs, ls⟩ := σ
  obtain ⟨us, pl, ct, dice, kno, hH, hmm, rfl⟩ := hw
  exact c_T_due L tm sc bo ra r0 r1 ho di rx kn gr len stg mv stk hol cn cs sco b0 b1 us pl ct dice kno hi lo hs ls  g0 g1 hS hH hmm 
theorem k_M_due (L : Lx) (mo ms mb mt mf mc : Nat) {σ : AS} (hS : st_ok σ)   (w : va_W) (hw : RR L mo ms mb mt mf mc σ w) : CtG L y_M_due b_M_due 1 (some .int) (rmh 1) false 0 0 [.ref mo] w (RR L mo ms mb mt mf mc (σ)) (some (.int (z_i (m_dueA σ)))) := by
  obtain ⟨len, stg, mv, stk, hol, cn, cs, sco, b0, b1, hi, lo, hs, ls⟩ := σ
  obtain ⟨du, kw, bb, tr, fr, chn, hrb, hg, hdu, hkw, rfl⟩ := hw
  exact c_M_due L mo ms mb mt mf mc len stg mv stk hol cn cs hi lo hs ls du kw sco bb tr fr chn b0 b1  hS hrb hg hdu hkw 
theorem k_T_left (L : Lx) (tm sc bo ra r0 r1 ho di rx kn : Nat) (gr : Nat → Option Nat) (g0 : gr 0 = some r0) (g1 : gr 1 = some r1) {σ : AS} (hS : st_ok σ) (d : Int) (hd_ : z_r d) (w : va_W) (hw : RC L tm sc bo ra r0 r1 ho di rx kn gr σ w) : CtG L y_T_left b_T_left 2 (some .int) (rmh 2) false 0 0 [.ref tm, .int (z_i d)] w (RC L tm sc bo ra r0 r1 ho di rx kn gr (σ)) (some (.int (z_i (m_left σ d)))) := by
  obtain ⟨len, stg, mv, stk, hol, cn, cs, sco, b0, b1, hi, lo, hs, ls⟩ := σ
  obtain ⟨us, pl, ct, dice, kno, hH, hmm, rfl⟩ := hw
  exact c_T_left L tm sc bo ra r0 r1 ho di rx kn gr len stg mv stk hol cn cs sco b0 b1 us pl ct dice kno hi lo hs ls d g0 g1 hS hH hmm hd_
theorem k_M_left (L : Lx) (mo ms mb mt mf mc : Nat) {σ : AS} (hS : st_ok σ) (d : Int) (hd_ : z_r d) (w : va_W) (hw : RR L mo ms mb mt mf mc σ w) : CtG L y_M_left b_M_left 2 (some .int) (rmh 1) false 0 0 [.ref mo, .int (z_i d)] w (RR L mo ms mb mt mf mc (σ)) (some (.int (z_i (m_left σ d)))) := by
  obtain ⟨len, stg, mv, stk, hol, cn, cs, sco, b0, b1, hi, lo, hs, ls⟩ := σ
  obtain ⟨du, kw, bb, tr, fr, chn, hrb, hg, hdu, hkw, rfl⟩ := hw
  exact c_M_left L mo ms mb mt mf mc len stg mv stk hol cn cs hi lo hs ls du kw sco bb tr fr chn b0 b1 d hS hrb hg hdu hkw hd_
theorem k_T_offer (L : Lx) (tm sc bo ra r0 r1 ho di rx kn : Nat) (gr : Nat → Option Nat) (g0 : gr 0 = some r0) (g1 : gr 1 = some r1) {σ : AS} (hS : st_ok σ)   (w : va_W) (hw : RC L tm sc bo ra r0 r1 ho di rx kn gr σ w) : CtG L y_T_offer b_T_offer 1 (some .boolean) (rmh 1) false 0 0 [.ref tm] w (RC L tm sc bo ra r0 r1 ho di rx kn gr ((m_offer σ).2)) (some (.int (z_i (m_offer σ).1))) := by
  obtain ⟨len, stg, mv, stk, hol, cn, cs, sco, b0, b1, hi, lo, hs, ls⟩ := σ
  obtain ⟨us, pl, ct, dice, kno, hH, hmm, rfl⟩ := hw
  exact c_T_offer L tm sc bo ra r0 r1 ho di rx kn gr len stg mv stk hol cn cs sco b0 b1 us pl ct dice kno hi lo hs ls  g0 g1 hS hH hmm 
theorem k_M_offer (L : Lx) (mo ms mb mt mf mc : Nat) {σ : AS} (hS : st_ok σ)   (w : va_W) (hw : RR L mo ms mb mt mf mc σ w) : CtG L y_M_offer b_M_offer 1 (some .boolean) (rmh 1) false 0 0 [.ref mo] w (RR L mo ms mb mt mf mc ((m_offer σ).2)) (some (.int (z_i (m_offer σ).1))) := by
  obtain ⟨len, stg, mv, stk, hol, cn, cs, sco, b0, b1, hi, lo, hs, ls⟩ := σ
  obtain ⟨du, kw, bb, tr, fr, chn, hrb, hg, hdu, hkw, rfl⟩ := hw
  exact c_M_offer L mo ms mb mt mf mc len stg mv stk hol cn cs hi lo hs ls du kw sco bb tr fr chn b0 b1  hS hrb hg hdu hkw 
theorem k_T_answer (L : Lx) (tm sc bo ra r0 r1 ho di rx kn : Nat) (gr : Nat → Option Nat) (g0 : gr 0 = some r0) (g1 : gr 1 = some r1) {σ : AS} (hS : st_ok σ) (t : Int) (ht_ : z_r t) (w : va_W) (hw : RC L tm sc bo ra r0 r1 ho di rx kn gr σ w) : CtG L y_T_answer b_T_answer 2 (some .int) (rmh 5) true 0 0 [.ref tm, .int (z_i t)] w (RC L tm sc bo ra r0 r1 ho di rx kn gr ((m_answer σ t).2)) (some (.int (z_i (m_answer σ t).1))) := by
  obtain ⟨len, stg, mv, stk, hol, cn, cs, sco, b0, b1, hi, lo, hs, ls⟩ := σ
  obtain ⟨us, pl, ct, dice, kno, hH, hmm, rfl⟩ := hw
  exact c_T_answer L tm sc bo ra r0 r1 ho di rx kn gr len stg mv stk hol cn cs sco b0 b1 us pl ct dice kno hi lo hs ls t g0 g1 hS hH hmm ht_
theorem k_M_answer (L : Lx) (mo ms mb mt mf mc : Nat) {σ : AS} (hS : st_ok σ) (t : Int) (ht_ : z_r t) (w : va_W) (hw : RR L mo ms mb mt mf mc σ w) : CtG L y_M_answer b_M_answer 2 (some .int) (rmh 3) false 0 0 [.ref mo, .int (z_i t)] w (RR L mo ms mb mt mf mc ((m_answer σ t).2)) (some (.int (z_i (m_answer σ t).1))) := by
  obtain ⟨len, stg, mv, stk, hol, cn, cs, sco, b0, b1, hi, lo, hs, ls⟩ := σ
  obtain ⟨du, kw, bb, tr, fr, chn, hrb, hg, hdu, hkw, rfl⟩ := hw
  exact c_M_answer L mo ms mb mt mf mc len stg mv stk hol cn cs hi lo hs ls du kw sco bb tr fr chn b0 b1 t hS hrb hg hdu hkw ht_
theorem k_T_phase (L : Lx) (tm sc bo ra r0 r1 ho di rx kn : Nat) (gr : Nat → Option Nat) (g0 : gr 0 = some r0) (g1 : gr 1 = some r1) {σ : AS} (hS : st_ok σ)   (w : va_W) (hw : RC L tm sc bo ra r0 r1 ho di rx kn gr σ w) : CtG L y_T_phase b_T_phase 1 (some .int) (rmh 1) false 0 0 [.ref tm] w (RC L tm sc bo ra r0 r1 ho di rx kn gr (σ)) (some (.int (z_i (σ.2.1)))) := by
  obtain ⟨len, stg, mv, stk, hol, cn, cs, sco, b0, b1, hi, lo, hs, ls⟩ := σ
  obtain ⟨us, pl, ct, dice, kno, hH, hmm, rfl⟩ := hw
  exact c_T_phase L tm sc bo ra r0 r1 ho di rx kn gr len stg mv stk hol cn cs sco b0 b1 us pl ct dice kno hi lo hs ls  g0 g1 hS hH hmm 
theorem k_M_phase (L : Lx) (mo ms mb mt mf mc : Nat) {σ : AS} (hS : st_ok σ)   (w : va_W) (hw : RR L mo ms mb mt mf mc σ w) : CtG L y_M_phase b_M_phase 1 (some .int) (rmh 1) false 0 0 [.ref mo] w (RR L mo ms mb mt mf mc (σ)) (some (.int (z_i (σ.2.1)))) := by
  obtain ⟨len, stg, mv, stk, hol, cn, cs, sco, b0, b1, hi, lo, hs, ls⟩ := σ
  obtain ⟨du, kw, bb, tr, fr, chn, hrb, hg, hdu, hkw, rfl⟩ := hw
  exact c_M_phase L mo ms mb mt mf mc len stg mv stk hol cn cs hi lo hs ls du kw sco bb tr fr chn b0 b1  hS hrb hg hdu hkw 
theorem k_T_turn (L : Lx) (tm sc bo ra r0 r1 ho di rx kn : Nat) (gr : Nat → Option Nat) (g0 : gr 0 = some r0) (g1 : gr 1 = some r1) {σ : AS} (hS : st_ok σ)   (w : va_W) (hw : RC L tm sc bo ra r0 r1 ho di rx kn gr σ w) : CtG L y_T_turn b_T_turn 1 (some .int) (rmh 1) false 0 0 [.ref tm] w (RC L tm sc bo ra r0 r1 ho di rx kn gr (σ)) (some (.int (z_i (m_turn σ)))) := by
  obtain ⟨len, stg, mv, stk, hol, cn, cs, sco, b0, b1, hi, lo, hs, ls⟩ := σ
  obtain ⟨us, pl, ct, dice, kno, hH, hmm, rfl⟩ := hw
  exact c_T_turn L tm sc bo ra r0 r1 ho di rx kn gr len stg mv stk hol cn cs sco b0 b1 us pl ct dice kno hi lo hs ls  g0 g1 hS hH hmm 
theorem k_M_turn (L : Lx) (mo ms mb mt mf mc : Nat) {σ : AS} (hS : st_ok σ)   (w : va_W) (hw : RR L mo ms mb mt mf mc σ w) : CtG L y_M_turn b_M_turn 1 (some .int) (rmh 1) false 0 0 [.ref mo] w (RR L mo ms mb mt mf mc (σ)) (some (.int (z_i (m_turn σ)))) := by
  obtain ⟨len, stg, mv, stk, hol, cn, cs, sco, b0, b1, hi, lo, hs, ls⟩ := σ
  obtain ⟨du, kw, bb, tr, fr, chn, hrb, hg, hdu, hkw, rfl⟩ := hw
  exact c_M_turn L mo ms mb mt mf mc len stg mv stk hol cn cs hi lo hs ls du kw sco bb tr fr chn b0 b1  hS hrb hg hdu hkw 
theorem k_T_men (L : Lx) (tm sc bo ra r0 r1 ho di rx kn : Nat) (gr : Nat → Option Nat) (g0 : gr 0 = some r0) (g1 : gr 1 = some r1) {σ : AS} (hS : st_ok σ) (p x : Int) (hp_ : z_r p) (hx_ : z_r x) (w : va_W) (hw : RC L tm sc bo ra r0 r1 ho di rx kn gr σ w) : CtG L y_T_men b_T_men 3 (some .int) (rmh 2) false 0 0 [.ref tm, .int (z_i p), .int (z_i x)] w (RC L tm sc bo ra r0 r1 ho di rx kn gr (σ)) (some (.int (z_i (m_men σ p x)))) := by
  obtain ⟨len, stg, mv, stk, hol, cn, cs, sco, b0, b1, hi, lo, hs, ls⟩ := σ
  obtain ⟨us, pl, ct, dice, kno, hH, hmm, rfl⟩ := hw
  exact c_T_men L tm sc bo ra r0 r1 ho di rx kn gr len stg mv stk hol cn cs sco b0 b1 us pl ct dice kno hi lo hs ls p x g0 g1 hS hH hmm hp_ hx_
theorem k_M_men (L : Lx) (mo ms mb mt mf mc : Nat) {σ : AS} (hS : st_ok σ) (p x : Int) (hp_ : z_r p) (hx_ : z_r x) (w : va_W) (hw : RR L mo ms mb mt mf mc σ w) : CtG L y_M_men b_M_men 3 (some .int) (rmh 1) false 0 0 [.ref mo, .int (z_i p), .int (z_i x)] w (RR L mo ms mb mt mf mc (σ)) (some (.int (z_i (m_men σ p x)))) := by
  obtain ⟨len, stg, mv, stk, hol, cn, cs, sco, b0, b1, hi, lo, hs, ls⟩ := σ
  obtain ⟨du, kw, bb, tr, fr, chn, hrb, hg, hdu, hkw, rfl⟩ := hw
  exact c_M_men L mo ms mb mt mf mc len stg mv stk hol cn cs hi lo hs ls du kw sco bb tr fr chn b0 b1 p x hS hrb hg hdu hkw hp_ hx_
theorem k_T_pips (L : Lx) (tm sc bo ra r0 r1 ho di rx kn : Nat) (gr : Nat → Option Nat) (g0 : gr 0 = some r0) (g1 : gr 1 = some r1) {σ : AS} (hS : st_ok σ) (p : Int) (hp_ : z_r p) (w : va_W) (hw : RC L tm sc bo ra r0 r1 ho di rx kn gr σ w) : CtG L y_T_pips b_T_pips 2 (some .int) (rmh 3) false 0 0 [.ref tm, .int (z_i p)] w (RC L tm sc bo ra r0 r1 ho di rx kn gr (σ)) (some (.int (z_i (m_pips σ p)))) := by
  obtain ⟨len, stg, mv, stk, hol, cn, cs, sco, b0, b1, hi, lo, hs, ls⟩ := σ
  obtain ⟨us, pl, ct, dice, kno, hH, hmm, rfl⟩ := hw
  exact c_T_pips L tm sc bo ra r0 r1 ho di rx kn gr len stg mv stk hol cn cs sco b0 b1 us pl ct dice kno hi lo hs ls p g0 g1 hS hH hmm hp_
theorem k_M_pips (L : Lx) (mo ms mb mt mf mc : Nat) {σ : AS} (hS : st_ok σ) (p : Int) (hp_ : z_r p) (w : va_W) (hw : RR L mo ms mb mt mf mc σ w) : CtG L y_M_pips b_M_pips 4 (some .int) (rmh 1) false 0 0 [.ref mo, .int (z_i p)] w (RR L mo ms mb mt mf mc (σ)) (some (.int (z_i (m_pips σ p)))) := by
  obtain ⟨len, stg, mv, stk, hol, cn, cs, sco, b0, b1, hi, lo, hs, ls⟩ := σ
  obtain ⟨du, kw, bb, tr, fr, chn, hrb, hg, hdu, hkw, rfl⟩ := hw
  exact c_M_pips L mo ms mb mt mf mc len stg mv stk hol cn cs hi lo hs ls du kw sco bb tr fr chn b0 b1 p hS hrb hg hdu hkw hp_
theorem k_T_cube (L : Lx) (tm sc bo ra r0 r1 ho di rx kn : Nat) (gr : Nat → Option Nat) (g0 : gr 0 = some r0) (g1 : gr 1 = some r1) {σ : AS} (hS : st_ok σ)   (w : va_W) (hw : RC L tm sc bo ra r0 r1 ho di rx kn gr σ w) : CtG L y_T_cube b_T_cube 1 (some .int) (rmh 1) false 0 0 [.ref tm] w (RC L tm sc bo ra r0 r1 ho di rx kn gr (σ)) (some (.int (z_i (σ.2.2.2.1)))) := by
  obtain ⟨len, stg, mv, stk, hol, cn, cs, sco, b0, b1, hi, lo, hs, ls⟩ := σ
  obtain ⟨us, pl, ct, dice, kno, hH, hmm, rfl⟩ := hw
  exact c_T_cube L tm sc bo ra r0 r1 ho di rx kn gr len stg mv stk hol cn cs sco b0 b1 us pl ct dice kno hi lo hs ls  g0 g1 hS hH hmm 
theorem k_M_cube (L : Lx) (mo ms mb mt mf mc : Nat) {σ : AS} (hS : st_ok σ)   (w : va_W) (hw : RR L mo ms mb mt mf mc σ w) : CtG L y_M_cube b_M_cube 1 (some .int) (rmh 1) false 0 0 [.ref mo] w (RR L mo ms mb mt mf mc (σ)) (some (.int (z_i (σ.2.2.2.1)))) := by
  obtain ⟨len, stg, mv, stk, hol, cn, cs, sco, b0, b1, hi, lo, hs, ls⟩ := σ
  obtain ⟨du, kw, bb, tr, fr, chn, hrb, hg, hdu, hkw, rfl⟩ := hw
  exact c_M_cube L mo ms mb mt mf mc len stg mv stk hol cn cs hi lo hs ls du kw sco bb tr fr chn b0 b1  hS hrb hg hdu hkw 
theorem k_T_owner (L : Lx) (tm sc bo ra r0 r1 ho di rx kn : Nat) (gr : Nat → Option Nat) (g0 : gr 0 = some r0) (g1 : gr 1 = some r1) {σ : AS} (hS : st_ok σ)   (w : va_W) (hw : RC L tm sc bo ra r0 r1 ho di rx kn gr σ w) : CtG L y_T_owner b_T_owner 1 (some .int) (rmh 1) false 0 0 [.ref tm] w (RC L tm sc bo ra r0 r1 ho di rx kn gr (σ)) (some (.int (z_i (σ.2.2.2.2.1)))) := by
  obtain ⟨len, stg, mv, stk, hol, cn, cs, sco, b0, b1, hi, lo, hs, ls⟩ := σ
  obtain ⟨us, pl, ct, dice, kno, hH, hmm, rfl⟩ := hw
  exact c_T_owner L tm sc bo ra r0 r1 ho di rx kn gr len stg mv stk hol cn cs sco b0 b1 us pl ct dice kno hi lo hs ls  g0 g1 hS hH hmm 
theorem k_M_owner (L : Lx) (mo ms mb mt mf mc : Nat) {σ : AS} (hS : st_ok σ)   (w : va_W) (hw : RR L mo ms mb mt mf mc σ w) : CtG L y_M_owner b_M_owner 1 (some .int) (rmh 1) false 0 0 [.ref mo] w (RR L mo ms mb mt mf mc (σ)) (some (.int (z_i (σ.2.2.2.2.1)))) := by
  obtain ⟨len, stg, mv, stk, hol, cn, cs, sco, b0, b1, hi, lo, hs, ls⟩ := σ
  obtain ⟨du, kw, bb, tr, fr, chn, hrb, hg, hdu, hkw, rfl⟩ := hw
  exact c_M_owner L mo ms mb mt mf mc len stg mv stk hol cn cs hi lo hs ls du kw sco bb tr fr chn b0 b1  hS hrb hg hdu hkw 
theorem k_T_points (L : Lx) (tm sc bo ra r0 r1 ho di rx kn : Nat) (gr : Nat → Option Nat) (g0 : gr 0 = some r0) (g1 : gr 1 = some r1) {σ : AS} (hS : st_ok σ) (p : Int) (hp_ : z_r p) (w : va_W) (hw : RC L tm sc bo ra r0 r1 ho di rx kn gr σ w) : CtG L y_T_points b_T_points 2 (some .int) (rmh 2) false 0 0 [.ref tm, .int (z_i p)] w (RC L tm sc bo ra r0 r1 ho di rx kn gr (σ)) (some (.int (z_i (m_points σ p)))) := by
  obtain ⟨len, stg, mv, stk, hol, cn, cs, sco, b0, b1, hi, lo, hs, ls⟩ := σ
  obtain ⟨us, pl, ct, dice, kno, hH, hmm, rfl⟩ := hw
  exact c_T_points L tm sc bo ra r0 r1 ho di rx kn gr len stg mv stk hol cn cs sco b0 b1 us pl ct dice kno hi lo hs ls p g0 g1 hS hH hmm hp_
theorem k_M_points (L : Lx) (mo ms mb mt mf mc : Nat) {σ : AS} (hS : st_ok σ) (p : Int) (hp_ : z_r p) (w : va_W) (hw : RR L mo ms mb mt mf mc σ w) : CtG L y_M_points b_M_points 2 (some .int) (rmh 1) false 0 0 [.ref mo, .int (z_i p)] w (RR L mo ms mb mt mf mc (σ)) (some (.int (z_i (m_points σ p)))) := by
  obtain ⟨len, stg, mv, stk, hol, cn, cs, sco, b0, b1, hi, lo, hs, ls⟩ := σ
  obtain ⟨du, kw, bb, tr, fr, chn, hrb, hg, hdu, hkw, rfl⟩ := hw
  exact c_M_points L mo ms mb mt mf mc len stg mv stk hol cn cs hi lo hs ls du kw sco bb tr fr chn b0 b1 p hS hrb hg hdu hkw hp_
theorem k_T_crawford (L : Lx) (tm sc bo ra r0 r1 ho di rx kn : Nat) (gr : Nat → Option Nat) (g0 : gr 0 = some r0) (g1 : gr 1 = some r1) {σ : AS} (hS : st_ok σ)   (w : va_W) (hw : RC L tm sc bo ra r0 r1 ho di rx kn gr σ w) : CtG L y_T_crawford b_T_crawford 1 (some .boolean) (rmh 1) false 0 0 [.ref tm] w (RC L tm sc bo ra r0 r1 ho di rx kn gr (σ)) (some (.int (z_i (σ.2.2.2.2.2.1)))) := by
  obtain ⟨len, stg, mv, stk, hol, cn, cs, sco, b0, b1, hi, lo, hs, ls⟩ := σ
  obtain ⟨us, pl, ct, dice, kno, hH, hmm, rfl⟩ := hw
  exact c_T_crawford L tm sc bo ra r0 r1 ho di rx kn gr len stg mv stk hol cn cs sco b0 b1 us pl ct dice kno hi lo hs ls  g0 g1 hS hH hmm 
theorem k_M_crawford (L : Lx) (mo ms mb mt mf mc : Nat) {σ : AS} (hS : st_ok σ)   (w : va_W) (hw : RR L mo ms mb mt mf mc σ w) : CtG L y_M_crawford b_M_crawford 1 (some .boolean) (rmh 1) false 0 0 [.ref mo] w (RR L mo ms mb mt mf mc (σ)) (some (.int (z_i (σ.2.2.2.2.2.1)))) := by
  obtain ⟨len, stg, mv, stk, hol, cn, cs, sco, b0, b1, hi, lo, hs, ls⟩ := σ
  obtain ⟨du, kw, bb, tr, fr, chn, hrb, hg, hdu, hkw, rfl⟩ := hw
  exact c_M_crawford L mo ms mb mt mf mc len stg mv stk hol cn cs hi lo hs ls du kw sco bb tr fr chn b0 b1  hS hrb hg hdu hkw 
theorem k_T_chance (L : Lx) (tm sc bo ra r0 r1 ho di rx kn : Nat) (gr : Nat → Option Nat) (g0 : gr 0 = some r0) (g1 : gr 1 = some r1) {σ : AS} (hS : st_ok σ) (a b c d : Int) (ha_ : z_r a) (hb_ : z_r b) (hc_ : z_r c) (hd_ : z_r d) (w : va_W) (hw : RC L tm sc bo ra r0 r1 ho di rx kn gr σ w) : CtG L y_T_chance b_T_chance 5 (some .long) (rmh 117) false 0 0 [.ref tm, .int (z_i a), .int (z_i b), .int (z_i c), .int (z_i d)] w (RC L tm sc bo ra r0 r1 ho di rx kn gr (σ)) (some (.long (z_l (m_chance a b c d)))) := by
  obtain ⟨len, stg, mv, stk, hol, cn, cs, sco, b0, b1, hi, lo, hs, ls⟩ := σ
  obtain ⟨us, pl, ct, dice, kno, hH, hmm, rfl⟩ := hw
  exact c_T_chance L tm sc bo ra r0 r1 ho di rx kn gr len stg mv stk hol cn cs sco b0 b1 us pl ct dice kno hi lo hs ls a b c d g0 g1 hS hH hmm ha_ hb_ hc_ hd_
theorem k_M_chance (L : Lx) (mo ms mb mt mf mc : Nat) {σ : AS} (hS : st_ok σ) (a b c d : Int) (ha_ : z_r a) (hb_ : z_r b) (hc_ : z_r c) (hd_ : z_r d) (w : va_W) (hw : RR L mo ms mb mt mf mc σ w) : CtG L y_M_chance b_M_chance 9 (some .long) (rmh 6) false 0 0 [.ref mo, .int (z_i a), .int (z_i b), .int (z_i c), .int (z_i d)] w (RR L mo ms mb mt mf mc (σ)) (some (.long (z_l (m_chance a b c d)))) := by
  obtain ⟨len, stg, mv, stk, hol, cn, cs, sco, b0, b1, hi, lo, hs, ls⟩ := σ
  obtain ⟨du, kw, bb, tr, fr, chn, hrb, hg, hdu, hkw, rfl⟩ := hw
  exact c_M_chance L mo ms mb mt mf mc len stg mv stk hol cn cs hi lo hs ls du kw sco bb tr fr chn b0 b1 a b c d hS hrb hg hdu hkw ha_ hb_ hc_ hd_
section JTM
variable {L : Lx} {X : Cx} {cc : ByteArray} {nL : Nat} {own nm : String} {ret : Option FieldType} {rm : Room} {sb : Bool} {ce sl : Nat} {ws : va_W} {lv : List (Nat × Value)} {st st0 rest : List Value} {pc : Nat}
variable {y : MethodName} {b : ByteArray} {n : Nat} {ret2 : Option FieldType} {rm2 : Room} {sb2 : Bool} {As : List Value} {ro : Option Value} {na index : Nat}
variable {tm sc bo ra r0 r1 ho di rx kn : Nat} {gr : Nat → Option Nat} {mo ms mb mt mf mc : Nat} {σ σ2 τ : AS} {wC wR : va_W}
theorem JT (E : Ok L X cc nL own nm ret rm sb) (hB : KB y b n ret2 na) (hl : Cond.methodLink own index y ∈ my_tbl) (hIM : Cond.instanceMethod y ∈ my_tbl) (hse : Cond.selects R_TM y y ∈ my_tbl)
    (hM : ∀ w : va_W, RC L tm sc bo ra r0 r1 ho di rx kn gr σ w → CtG L y b n ret2 rm2 sb2 0 0 (.ref tm :: As) w (RC L tm sc bo ra r0 r1 ho di rx kn gr σ2) ro) (hsb : sb2 = true → sb = true) (hrm : Rm rm rm2 n 0 0 ce sl) (hC : RC L tm sc bo ra r0 r1 ho di rx kn gr σ wC) (hR : RR L mo ms mb mt mf mc τ wR)
    (hst : st0 = As.reverse ++ .ref tm :: rest) (hna : As.length = na) (hre : (rest.map fun v => v.category).sum ≤ 8) (hdg : decode cc pc = .ok (.invokevirtual index, 3))
    (kk : ∀ w' : va_W, RC L tm sc bo ra r0 r1 ho di rx kn gr σ2 w' → J L X nL ce sl (wR ++ w') lv (ro.toList ++ rest) (pc + 3)) : J L X nL ce sl (wC ++ wR) lv st0 pc := by
  have hM' := hM wC hC
  obtain ⟨len, stg, mv, stk, hol, cn, cs, sco, b0, b1, hi, lo, hs, ls⟩ := σ
  obtain ⟨us, pl, ct, dice, kno, hH, hmm, rfl⟩ := hC
  obtain ⟨len2, stg2, mv2, stk2, hol2, cn2, cs2, sco2, b02, b12, hi2, lo2, hs2, ls2⟩ := τ
  obtain ⟨du, kw, bb, tr, fr, chn, hrb, hg, hdu, hkw, rfl⟩ := hR
  exact J_callV E hB hl hIM hse hM' hsb hrm [0, 1, 2, 3, 4, 5, 6, 7, 8, 9] [10, 11, 12, 13, 14, 15] rfl rfl rfl rfl (by decide) 0 rfl rfl hst hna hre hdg kk
theorem JM (E : Ok L X cc nL own nm ret rm sb) (hB : KB y b n ret2 na) (hl : Cond.methodLink own index y ∈ my_tbl) (hIM : Cond.instanceMethod y ∈ my_tbl) (hse : Cond.selects R_Md y y ∈ my_tbl)
    (hM : ∀ w : va_W, RR L mo ms mb mt mf mc τ w → CtG L y b n ret2 rm2 sb2 0 0 (.ref mo :: As) w (RR L mo ms mb mt mf mc σ2) ro) (hsb : sb2 = true → sb = true) (hrm : Rm rm rm2 n 0 0 ce sl) (hC : RC L tm sc bo ra r0 r1 ho di rx kn gr σ wC) (hR : RR L mo ms mb mt mf mc τ wR)
    (hst : st0 = As.reverse ++ .ref mo :: rest) (hna : As.length = na) (hre : (rest.map fun v => v.category).sum ≤ 8) (hdg : decode cc pc = .ok (.invokevirtual index, 3))
    (kk : ∀ w' : va_W, RR L mo ms mb mt mf mc σ2 w' → J L X nL ce sl (wC ++ w') lv (ro.toList ++ rest) (pc + 3)) : J L X nL ce sl (wR ++ wC) lv st0 pc := by
  have hM' := hM wR hR
  obtain ⟨len, stg, mv, stk, hol, cn, cs, sco, b0, b1, hi, lo, hs, ls⟩ := σ
  obtain ⟨us, pl, ct, dice, kno, hH, hmm, rfl⟩ := hC
  obtain ⟨len2, stg2, mv2, stk2, hol2, cn2, cs2, sco2, b02, b12, hi2, lo2, hs2, ls2⟩ := τ
  obtain ⟨du, kw, bb, tr, fr, chn, hrb, hg, hdu, hkw, rfl⟩ := hR
  exact J_callV E hB hl hIM hse hM' hsb hrm [0, 1, 2, 3, 4, 5] [6, 7, 8, 9, 10, 11, 12, 13, 14, 15] rfl rfl rfl rfl (by decide) 0 rfl rfl hst hna hre hdg kk
end JTM
