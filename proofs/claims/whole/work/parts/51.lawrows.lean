/-! THE LAW'S OWN ROWS: the script, its helper, the switch, equal answers -/
def sv (xs : Nat → Int32) (j : Int) : Int := (xs j.toNat).toInt
theorem sv_i (xs : Nat → Int32) (j : Int) : z_i (sv xs j) = xs j.toNat := Int32.ofInt_toInt _
theorem sv_r (xs : Nat → Int32) (j : Int) : z_r (sv xs j) := ⟨Int32.le_toInt _, Int32.toInt_lt _⟩
def c0 (n : Nat) (xs : Nat → Int32) : Int := if 0 < n then sv xs 0 else 0
theorem c0_r (n : Nat) (xs : Nat → Int32) : z_r (c0 n xs) := by
  unfold c0
  split
  · exact sv_r xs 0
  · exact z_r0
theorem z_ofn (n : Nat) : Int32.ofNat n = z_i (n : Int) := rfl
set_option maxHeartbeats 1000000 in
theorem c_W_cell (L : Lx) {b n : Nat} {xs : Nat → Int32} (hn : n ≤ 2561) : Met (l_l L) y_W_cell (Cond.code y_W_cell b_W_cell 2 (some .int) :: my_tbl) (rmh 1) (va_Pc [.ref b, .int (z_i 0)] (fun U => va_X b n xs U U.heap)) (fun _ st oc t => oc = .returned (some (.int (z_i (c0 n xs)))) ∧ t.heap = st.heap) 0 0 (fun _ => False) := by
  refine Met.ofW (cc := b_W_cell) (maxL := 2) (ret := some .int) rfl rfl ?_
  intro p e s m args below meth c s₁ B hml hv
  obtain ⟨rfl, hX⟩ := hv
  have hx := B.exec
  have hb := B.bytes
  have hr := B.returns
  have hk := B.notSynchronized
  have hbl : b < s.heap.size := by
    obtain ⟨scr, h1, -⟩ := hX
    exact (Array.getElem?_eq_some_iff.mp h1).1
  rw [lg_entry_eq]
  have hl := lv_entry [.ref b, .int (z_i 0)] (n := 2) (Nat.le_of_ble_eq_true rfl)
  generalize (lg_sl [Value.ref b, Value.int (z_i 0)] ++ List.replicate (2 - (lg_sl [Value.ref b, Value.int (z_i 0)]).length) Slot.unset).toArray = ls at hl ⊢
  have hl : lv_has ls 2 [(0, .ref b), (1, .int (z_i 0))] := hl
  have hS : va_S (fun q : Nat => s.heap.size ≤ q) s.heap s.heap [] := va_S.rf
  have hnA : ¬ s.heap.size ≤ b := by omega
  refine lv_iload_n hx hb d_W_cell_0 rfl (lv_at hl 1 rfl) ?_
  refine lv_aload_n hx hb d_W_cell_1 rfl (lv_at hl 0 rfl) ?_
  refine va_slen hx hb hX hbl hnA hS d_W_cell_2 ?_
  have hzn : z_r (n : Int) := ⟨by omega, by omega⟩
  refine lv_icmp_ge hx hb d_W_cell_3 (tgt := 12) (by decide) (fun h => ?_) (fun h => ?_)
  · rw [z_ofn] at h
    have h2 := (z_le hzn z_r0).mp h
    have hc : c0 n xs = 0 := if_neg (by omega)
    refine lv_iconst hx hb d_W_cell_12 rfl ?_
    refine W.iret hx hb hr (fun t ht _ => ⟨?_, ht⟩) (fun q hq => absurd hq List.not_mem_nil) d_W_cell_13 (hlocks := hk)
    rw [hc]; rfl
  · rw [z_ofn] at h
    have h2 : (0 : Int) < n := by
      have := mt (z_le hzn z_r0).mpr h
      omega
    have hc : c0 n xs = sv xs 0 := if_pos (by omega)
    refine lv_aload_n hx hb d_W_cell_6 rfl (lv_at hl 0 rfl) ?_
    refine lv_iload_n hx hb d_W_cell_7 rfl (lv_at hl 1 rfl) ?_
    refine va_sld hx hb hX hbl hnA hS (z_in (a := 0) ⟨by decide, h2⟩ (by omega)) d_W_cell_8 ?_
    refine lv_goto hx hb d_W_cell_9 (tgt := 13) (by decide) ?_
    refine W.iret hx hb hr (fun t ht _ => ⟨?_, ht⟩) (fun q hq => absurd hq List.not_mem_nil) d_W_cell_13 (hlocks := hk)
    rw [hc, sv_i]; rfl
section JW
variable {L : Lx} {X : Cx} {cc : ByteArray} {nL : Nat} {own nm : String} {ret : Option FieldType} {rm : Room} {sb : Bool} {ce sl : Nat} {ws : va_W} {lv : List (Nat × Value)} {st : List Value} {pc index : Nat} {b n : Nat} {xs : Nat → Int32}
/-- the script lies where it lay, and no cell that may be written is it -/
def sc_ok (X : Cx) (b n : Nat) (xs : Nat → Int32) : Prop := va_X b n xs (x_s X) (x_s X).heap ∧ b < (x_s X).heap.size ∧ ¬ x_A X b ∧ n ≤ 2561
theorem J_sld (E : Ok L X cc nL own nm ret rm sb) (hX : sc_ok X b n xs) {j : Int} (hj : 0 ≤ j ∧ j < (n : Int)) (hdg : decode cc pc = .ok (.iaload, 1)) (kk : J L X nL ce sl ws lv (.int (z_i (sv xs j)) :: st) (pc + 1)) : J L X nL ce sl ws lv (.int (z_i j) :: .ref b :: st) pc := fun H locs ls hP hD hS h => by
  have h4 := hX.2.2.2
  refine va_sld E.x E.b hX.1 hX.2.1 hX.2.2.1 hS (z_in hj (by omega)) hdg ?_
  rw [z_clamp ⟨hj.1, by omega⟩, ← sv_i xs j]
  exact kk H locs ls hP hD hS h
theorem J_slen (E : Ok L X cc nL own nm ret rm sb) (hX : sc_ok X b n xs) (hdg : decode cc pc = .ok (.arraylength, 1)) (kk : J L X nL ce sl ws lv (.int (z_i (n : Int)) :: st) (pc + 1)) : J L X nL ce sl ws lv (.ref b :: st) pc := fun H locs ls hP hD hS h =>
  va_slen E.x E.b hX.1 hX.2.1 hX.2.2.1 hS hdg (kk H locs ls hP hD hS h)
theorem J_cell (E : Ok L X cc nL own nm ret rm sb) (hX : sc_ok X b n xs) (hl : Cond.methodLink own index y_W_cell ∈ my_tbl) (hi : Cond.static y_W_cell ∈ my_tbl) (hrm : Rm rm (rmh 1) 2 0 0 ce sl) (hre : (st.map fun v => v.category).sum ≤ 8) (hdg : decode cc pc = .ok (.invokestatic index, 3))
    (kk : J L X nL ce sl ws lv (.int (z_i (c0 n xs)) :: st) (pc + 3)) : J L X nL ce sl ws lv (.int (z_i 0) :: .ref b :: st) pc := by
  intro H locs ls hP hD hS h
  obtain ⟨r1, r2, r3, r4, r5, r6⟩ := hrm
  have hr := va_runS (Ts := my_tbl) (R := x_R X) (e := x_e X) (H := H) (locs := locs) (cells := ce) (slots := sl) (g := F0 (x_m X) pc ls (.int (z_i 0) :: .ref b :: st)) (As := [.ref b, .int (z_i 0)]) (rest := st) (below := x_b X) (meth := x_t X) ⟨E.x, E.b, E.n, E.o, E.2.2.2.2.1⟩ (c_W_cell L (b := b) (xs := xs) hX.2.2.2) ⟨callB_of 2 E.2.2.2.2.1 (gd_my kb_W_cell.1) rfl r1 r2 (E.w kb_W_cell.2.1) (E.w hl) kb_W_cell.2.2 (by rw [E.R]; exact ⟨r3, r4⟩), E.w hi⟩
    ⟨fun a U g mk q => ⟨q.1, va_X.moved (u := U) (U := U.calling g mk a) (Vm.Alike.refl U.vm) q.2⟩, fun U hU1 hW => ⟨rfl, (va_X.moved hW.alike hX.1).kept (by rw [hU1]; exact hS.2.1 b hX.2.1 hX.2.2.1)⟩⟩ rfl rfl h.1 rfl (lv_room hre) hdg (by rw [E.R]; exact ⟨r5, r6⟩)
  intro T hT S
  obtain ⟨v, st₀, t, T', G, h0, X', hG, e1, e2, ⟨hv, hh⟩, stp⟩ := hr T hT S
  have hv' : v = some (.int (z_i (c0 n xs))) := by injection hv
  subst hv'
  have hGn : G = [] := List.eq_nil_iff_forall_not_mem.mpr (fun q hq => hG q hq)
  subst hGn
  rw [List.append_nil] at X'
  have hH : T'.heap = H := by rw [e1, hh, h0]
  obtain ⟨t2, a1, b1⟩ := kk T'.heap locs ls (by rw [hH]; exact hP) hD (by rw [hH]; exact hS) h T' rfl X'
  exact ⟨t2, stp t2 a1, b1⟩
theorem J_tabO (E : Ok L X cc nL own nm ret rm sb) {dflt lo hi : Int} {offs : Array Int} {len : Nat} {x : Int32} (tgt : Nat) (hdg : decode cc pc = .ok (.tableswitch dflt lo hi offs, len)) (h : x.toInt < lo ∨ hi < x.toInt) (ht : (pc : Int) + dflt = (tgt : Int)) (kk : J L X nL ce sl ws lv st tgt) : J L X nL ce sl ws lv (.int x :: st) pc := fun H locs ls hP hD hS hl =>
  lv_tableOut E.x E.b hdg h ht (kk H locs ls hP hD hS hl)
theorem J_tabI (E : Ok L X cc nL own nm ret rm sb) {dflt lo hi : Int} {offs : Array Int} {len : Nat} {x : Int32} (off : Int) (tgt : Nat) (k : Int) (hdg : decode cc pc = .ok (.tableswitch dflt lo hi offs, len)) (hk : x.toInt = k) (h1 : ¬ k < lo) (h2 : ¬ hi < k) (ho : offs[(k - lo).toNat]? = some off) (ht : (pc : Int) + off = (tgt : Int)) (kk : J L X nL ce sl ws lv st tgt) : J L X nL ce sl ws lv (.int x :: st) pc := fun H locs ls hP hD hS hl =>
  lv_tableIn E.x E.b hdg (by rw [hk]; exact h1) (by rw [hk]; exact h2) (by rw [hk]; exact ho) ht (kk H locs ls hP hD hS hl)
theorem J_same (E : Ok L X cc nL own nm ret rm sb) {x : Int32} {off : Int} (tgt : Nat) (hdg : decode cc pc = .ok (.if_icmp .eq off, 3)) (ht : (pc : Int) + off = (tgt : Int)) (kk : J L X nL ce sl ws lv st tgt) : J L X nL ce sl ws lv (.int x :: .int x :: st) pc := fun H locs ls hP hD hS hl =>
  lv_icmp_eq E.x E.b hdg ht (fun _ => kk H locs ls hP hD hS hl) (fun h => absurd rfl h)
theorem z_cmp_self (a : Int) : z_cmp a a = 0 := by
  unfold z_cmp
  simp
theorem J_sameL (E : Ok L X cc nL own nm ret rm sb) {x : Int64} (hdg : decode cc pc = .ok (.lcmp, 1)) (kk : J L X nL ce sl ws lv (.int (z_i 0) :: st) (pc + 1)) : J L X nL ce sl ws lv (.long x :: .long x :: st) pc := by
  have e : z_l x.toInt = x := Int64.ofInt_toInt x
  have h := J_lcmp (a := x.toInt) (b := x.toInt) (L := L) (X := X) (nL := nL) (ce := ce) (sl := sl) (ws := ws) (lv := lv) (st := st) E hdg ⟨⟨Int64.le_toInt _, Int64.toInt_lt _⟩, Int64.le_toInt _, Int64.toInt_lt _⟩ (by rw [z_cmp_self]; exact kk)
  rw [e] at h
  exact h
end JW
theorem Rm_L {h2 n ce sl : Nat} (h1 : h2 ≤ 200) (hn : n ≤ 21) (hc : ce ≤ 600000) (hs : sl ≤ 7302250) : Rm room_1 (rmh h2) n 0 0 ce sl := by
  refine ⟨rfl, rfl, ?_, ?_, hc, hs⟩
  · show h2 + 1 ≤ 2048
    omega
  · show 8 + (n + 11) + 40 * h2 ≤ 84000
    omega
theorem Rm_Lc {h2 mc ms n ce sl : Nat} (h1 : h2 ≤ 200) (hn : n ≤ 21) (hc : ce + mc ≤ 600000) (hs : sl + ms ≤ 7302250) : Rm room_1 (rmc h2 mc ms) n mc ms ce sl := by
  refine ⟨rfl, rfl, ?_, ?_, hc, hs⟩
  · show h2 + 1 ≤ 2048
    omega
  · show 8 + (n + 11) + 40 * h2 ≤ 84000
    omega
