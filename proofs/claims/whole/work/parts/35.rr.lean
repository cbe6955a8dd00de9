/-! the relation of the reference to the match -/
def rb_ok (bb b0 b1 : Int → Int) : Prop := gb bb ∧ ∀ x, 0 ≤ x → x ≤ 25 → bb x = b0 x ∧ bb (26 + x) = b1 x
def ch_ok (chn : Int → Int) : Prop := ∀ x y u v : Nat, x ≤ y → y < 5 → u ≤ v → v < 5 → chn ((125 * x + 25 * y + 5 * u + v : Nat) : Int) = ((q_ch x y u v : Nat) : Int)
def RR (L : Lx) (mo ms mb mt mf mc : Nat) : AS → va_W → Prop := fun (len, stg, mv, stk, hol, cn, cs, sco, b0, b1, hi, lo, hs, ls) w =>
  ∃ (du kw : Int) (bb tr fr chn : Int → Int), rb_ok bb b0 b1 ∧ gb tr ∧ (stg = 2 → du = m_due (bp b0 b1 mv) (bp b0 b1 (1 - mv)) hi lo hs ls) ∧ (kw = 0 ∨ (kw = 1 ∧ ch_ok chn)) ∧ w = [(mo, .inr (4, [.int (z_i len), .ref ms, .int (z_i stg), .int (z_i mv), .ref mb, .int (z_i stk), .int (z_i hol), .int (z_i cn), .int (z_i cs), .int (z_i hi), .int (z_i lo), .int (z_i hs), .int (z_i ls), .int (z_i du), .ref mt, .ref mf, .ref mc, .int (z_i kw)])), (ms, aI L 2 sco), (mb, aI L 52 bb), (mt, aI L 312 tr), (mf, aI L 6 fr), (mc, aL L 625 chn)]
theorem rb_at {bb b0 b1 : Int → Int} (h : rb_ok bb b0 b1) {p x : Int} (hp : p = 0 ∨ p = 1) (hx : 0 ≤ x ∧ x ≤ 25) : bb (26 * p + x) = bp b0 b1 p x := by
  have := h.2 x hx.1 hx.2
  rcases hp with e | e
  · subst e
    rw [show (26 * 0 + x : Int) = x by omega, this.1]
    rfl
  · subst e
    rw [show (26 * 1 + x : Int) = 26 + x by omega, this.2]
    rfl
theorem lk_lv {g bb b0 b1 : Int → Int} {p : Int} (hp : p = 0 ∨ p = 1) (h : rb_ok bb b0 b1) (h0 : bd_ok b0) (h1 : bd_ok b1) (hg : ∀ x, 0 ≤ x → x < 26 → g x = bb (26 * p + x) ∧ g (26 + x) = bb (26 * (1 - p) + x)) : lvO g 0 = bp b0 b1 p ∧ lvT g 0 = bp b0 b1 (1 - p) := by
  constructor
  · refine lv_eq (bp_ok h0 h1 p) (lvO_out _ _) (fun x x1 x2 => ?_)
    rw [lvO_at ⟨x1, x2⟩, show (52 * 0 + x : Int) = x by omega, (hg x x1 (by omega)).1, rb_at h hp ⟨x1, x2⟩]
  · refine lv_eq (bp_ok h0 h1 (1 - p)) (lvT_out _ _) (fun x x1 x2 => ?_)
    rw [lvT_at ⟨x1, x2⟩, show (52 * 0 + 26 + x : Int) = 26 + x by omega, (hg x x1 (by omega)).2, rb_at h (by omega) ⟨x1, x2⟩]
theorem due_in {own oth : Int → Int} {hi lo hs ls : Int} (h : dk hi lo hs ls) : 0 ≤ ((bd_due oth (dcf hi lo hs ls) own : Nat) : Int) ∧ ((bd_due oth (dcf hi lo hs ls) own : Nat) : Int) ≤ 4 := m_due_in h
theorem dk_hi {hi lo hs ls : Int} (h : dk hi lo hs ls) (h1 : 0 < hs) : dk hi lo (hs - 1) ls := by
  obtain ⟨k1, k2, k3, k4, k5, k6, k7⟩ := h
  exact ⟨k1, k2, k3, by omega, k5, by omega, fun q => by have := k7 q; omega⟩
theorem dk_lo {hi lo hs ls : Int} (h : dk hi lo hs ls) (h1 : 0 < ls) : dk hi lo hs (ls - 1) := by
  obtain ⟨k1, k2, k3, k4, k5, k6, k7⟩ := h
  exact ⟨k1, k2, k3, k4, by omega, by omega, fun q => by have := k7 (by omega); omega⟩
theorem tc_18 {oth : Int → Int} (h0 : oth 0 ≤ 0) (h : ∀ x, 19 ≤ x → x ≤ 25 → oth x ≤ 0) : tc_f oth = 2 := by
  unfold tc_f
  rw [if_neg (by omega), if_neg]
  have := (rr_le oth (k := 18) (by decide) 25).mpr (fun x x1 x2 => h x (by omega) (by omega))
  omega
theorem tc_19 {oth : Int → Int} (h0 : oth 0 ≤ 0) {k : Int} (hk : 19 ≤ k ∧ k ≤ 25) (h : 0 < oth k) : tc_f oth = 3 := by
  unfold tc_f
  rw [if_neg (by omega), if_pos]
  by_cases e : 19 ≤ rr_f oth 25
  · exact e
  · have := (rr_le oth (k := 18) (by decide) 25).mp (by omega) k (by omega) (by omega)
    omega
theorem tc_0 {oth : Int → Int} (h : 0 < oth 0) : tc_f oth = 1 := if_pos h
theorem m_begin_z {len stg mv stk hol cn cs : Int} {sco b0 b1 : Int → Int} {a b : Int} (h : m_due (bp b0 b1 mv) (bp b0 b1 (1 - mv)) (b_hi a b) (b_lo a b) (b_hs a b) (b_ls a b) = 0) : m_begin len stg mv stk hol cn cs sco b0 b1 a b = (0, (len, 1, 1 - mv, stk, hol, cn, cs, sco, b0, b1, b_hi a b, b_lo a b, b_hs a b, b_ls a b)) := if_pos h
theorem m_begin_n {len stg mv stk hol cn cs : Int} {sco b0 b1 : Int → Int} {a b : Int} (h : m_due (bp b0 b1 mv) (bp b0 b1 (1 - mv)) (b_hi a b) (b_lo a b) (b_hs a b) (b_ls a b) ≠ 0) : m_begin len stg mv stk hol cn cs sco b0 b1 a b = (m_due (bp b0 b1 mv) (bp b0 b1 (1 - mv)) (b_hi a b) (b_lo a b) (b_hs a b) (b_ls a b), (len, 2, mv, stk, hol, cn, cs, sco, b0, b1, b_hi a b, b_lo a b, b_hs a b, b_ls a b)) := if_neg h
abbrev n0 (b0 b1 : Int → Int) (mv f d : Int) : Int → Int := if mv = 0 then bd_sh (bp b0 b1 mv) f d else bd_hit (bp b0 b1 (1 - mv)) (f - d)
abbrev n1 (b0 b1 : Int → Int) (mv f d : Int) : Int → Int := if mv = 0 then bd_hit (bp b0 b1 (1 - mv)) (f - d) else bd_sh (bp b0 b1 mv) f d
theorem m_play_w {len stg mv stk hol cn cs : Int} {sco b0 b1 : Int → Int} {hi lo hs ls f d : Int} (h : bd_sh (bp b0 b1 mv) f d 0 = 15) : m_play len stg mv stk hol cn cs sco b0 b1 hi lo hs ls f d = m_win len stg mv stk hol cn cs sco (n0 b0 b1 mv f d) (n1 b0 b1 mv f d) hi lo (dn_h hi hs d) (dn_l hi ls d) (stk * tc_f (bd_hit (bp b0 b1 (1 - mv)) (f - d))) := if_pos h
theorem m_play_z {len stg mv stk hol cn cs : Int} {sco b0 b1 : Int → Int} {hi lo hs ls f d : Int} (h : bd_sh (bp b0 b1 mv) f d 0 ≠ 15) (h2 : m_due (bd_sh (bp b0 b1 mv) f d) (bd_hit (bp b0 b1 (1 - mv)) (f - d)) hi lo (dn_h hi hs d) (dn_l hi ls d) = 0) : m_play len stg mv stk hol cn cs sco b0 b1 hi lo hs ls f d = (0, (len, 1, 1 - mv, stk, hol, cn, cs, sco, n0 b0 b1 mv f d, n1 b0 b1 mv f d, hi, lo, dn_h hi hs d, dn_l hi ls d)) := (if_neg h).trans (if_pos h2)
theorem m_play_n {len stg mv stk hol cn cs : Int} {sco b0 b1 : Int → Int} {hi lo hs ls f d : Int} (h : bd_sh (bp b0 b1 mv) f d 0 ≠ 15) (h2 : m_due (bd_sh (bp b0 b1 mv) f d) (bd_hit (bp b0 b1 (1 - mv)) (f - d)) hi lo (dn_h hi hs d) (dn_l hi ls d) ≠ 0) : m_play len stg mv stk hol cn cs sco b0 b1 hi lo hs ls f d = (m_due (bd_sh (bp b0 b1 mv) f d) (bd_hit (bp b0 b1 (1 - mv)) (f - d)) hi lo (dn_h hi hs d) (dn_l hi ls d), (len, 2, mv, stk, hol, cn, cs, sco, n0 b0 b1 mv f d, n1 b0 b1 mv f d, hi, lo, dn_h hi hs d, dn_l hi ls d)) := (if_neg h).trans (if_neg h2)
theorem n_bp {b0 b1 : Int → Int} {mv f d : Int} (h : mv = 0 ∨ mv = 1) : bp (n0 b0 b1 mv f d) (n1 b0 b1 mv f d) mv = bd_sh (bp b0 b1 mv) f d ∧ bp (n0 b0 b1 mv f d) (n1 b0 b1 mv f d) (1 - mv) = bd_hit (bp b0 b1 (1 - mv)) (f - d) := by
  rcases h with e | e <;> subst e <;> exact ⟨rfl, rfl⟩
theorem n_rb {bk gm b0 b1 : Int → Int} {mv f d : Int} (h : mv = 0 ∨ mv = 1) (hb : gb bk) (hr : ∀ x, 0 ≤ x → x < 26 → bk (26 * mv + x) = gm (52 + x) ∧ bk (26 * (1 - mv) + x) = gm (78 + x)) (hO : lvO gm 1 = bd_sh (bp b0 b1 mv) f d) (hT : lvT gm 1 = bd_hit (bp b0 b1 (1 - mv)) (f - d)) : rb_ok bk (n0 b0 b1 mv f d) (n1 b0 b1 mv f d) := by
  refine ⟨hb, fun x x1 x2 => ?_⟩
  have q := hr x x1 (by omega)
  have e1 : gm (52 + x) = bd_sh (bp b0 b1 mv) f d x := by rw [← hO, lvO_at ⟨x1, x2⟩, show (52 * 1 + x : Int) = 52 + x by omega]
  have e2 : gm (78 + x) = bd_hit (bp b0 b1 (1 - mv)) (f - d) x := by rw [← hT, lvT_at ⟨x1, x2⟩, show (52 * 1 + 26 + x : Int) = 78 + x by omega]
  rw [e1, e2] at q
  rcases h with e | e
  · subst e
    rw [show (26 * 0 + x : Int) = x by omega, show (26 * (1 - 0) + x : Int) = 26 + x by omega] at q
    exact q
  · subst e
    rw [show (26 * 1 + x : Int) = 26 + x by omega, show (26 * (1 - 1) + x : Int) = x by omega] at q
    exact ⟨q.2, q.1⟩
theorem n_ok {b0 b1 : Int → Int} {mv f d : Int} (h0 : bd_ok b0) (h1 : bd_ok b1) (hc : bd_can (bp b0 b1 mv) (bp b0 b1 (1 - mv)) f d) : bd_ok (n0 b0 b1 mv f d) ∧ bd_ok (n1 b0 b1 mv f d) := by
  have a := bd_sh_ok (bp_ok h0 h1 mv) hc.1 hc.2.1 hc.2.2.1 hc.2.2.2.2.1
  have b := bd_hit_ok (bp_ok h0 h1 (1 - mv)) (t := f - d) (by have := hc.2.1; have := hc.2.2.1; omega)
  unfold n0 n1
  split
  · exact ⟨a, b⟩
  · exact ⟨b, a⟩
theorem mv_step {bk gm : Int → Int} {mv k : Int} (h : mv = 0 ∨ mv = 1) (hr : ∀ x, 0 ≤ x → x < k → bk (26 * mv + x) = gm (52 + x) ∧ bk (26 * (1 - mv) + x) = gm (78 + x)) (x : Int) (x1 : 0 ≤ x) (x2 : x < k + 1) (hk : k < 26) : z_u (z_u bk (26 * mv + k) (gm (52 + k))) (26 * (1 - mv) + k) (gm (78 + k)) (26 * mv + x) = gm (52 + x) ∧ z_u (z_u bk (26 * mv + k) (gm (52 + k))) (26 * (1 - mv) + k) (gm (78 + k)) (26 * (1 - mv) + x) = gm (78 + x) := by
  by_cases e : x = k
  · subst e
    exact ⟨by rw [z_un (by omega), z_us], by rw [z_us]⟩
  · have := hr x x1 (by omega)
    exact ⟨by rw [z_un (by omega), z_un (by omega)]; exact this.1, by rw [z_un (by omega), z_un (by omega)]; exact this.2⟩
theorem su_fin {bk : Int → Int} (hb : gb bk) (h : ∀ j, 0 ≤ j → j < 26 * 2 + 0 → bk j = st_men (j % 26)) : rb_ok bk st_men st_men := by
  refine ⟨hb, fun x x1 x2 => ?_⟩
  rw [h x x1 (by omega), h (26 + x) (by omega) (by omega), show x % 26 = x by omega, show (26 + x) % 26 = x by omega]
  exact ⟨rfl, rfl⟩
theorem rb_place {bb b0 b1 : Int → Int} (h : rb_ok bb b0 b1) (h0 : bd_ok b0) (h1 : bd_ok b1) {p pt n : Int} (hp : p = 0 ∨ p = 1) (hpt : 1 ≤ pt ∧ pt ≤ 24) (hn : 0 ≤ n ∧ n ≤ 15) (hc : pm_c (bp b0 b1 p) (bp b0 b1 (1 - p)) pt n) {off : Int} (ho : off = bp b0 b1 p 0 + bp b0 b1 p pt - n) : rb_ok (z_u (z_u bb (26 * p) off) (26 * p + pt) n) (if p = 0 then pm_own b0 b1 pt n else b0) (if p = 0 then b1 else pm_own b1 b0 pt n) := by
  refine ⟨gb_u (gb_u h.1 (by have := hc.2; omega)) ⟨by omega, by omega⟩, fun x x1 x2 => ?_⟩
  have q := h.2 x x1 x2
  rcases hp with e | e
  · subst e
    have hc0 : pm_c b0 b1 pt n := hc
    rw [if_pos rfl, if_pos rfl, pm_own_t hc0]
    have hb : bp b0 b1 0 = b0 := rfl
    rw [hb] at ho
    have u1 := z_ui (z_u bb (26 * 0) off) (26 * 0 + pt) n x
    have u2 := z_ui bb (26 * 0) off x
    have u3 := z_ui (z_u bb (26 * 0) off) (26 * 0 + pt) n (26 + x)
    have u4 := z_ui bb (26 * 0) off (26 + x)
    have u5 := z_ui (z_u b0 0 (b0 0 + b0 pt - n)) pt n x
    have u6 := z_ui b0 0 (b0 0 + b0 pt - n) x
    constructor <;> omega
  · subst e
    have hc0 : pm_c b1 b0 pt n := hc
    rw [if_neg (by decide), if_neg (by decide), pm_own_t hc0]
    have hb : bp b0 b1 1 = b1 := rfl
    rw [hb] at ho
    have u1 := z_ui (z_u bb (26 * 1) off) (26 * 1 + pt) n x
    have u2 := z_ui bb (26 * 1) off x
    have u3 := z_ui (z_u bb (26 * 1) off) (26 * 1 + pt) n (26 + x)
    have u4 := z_ui bb (26 * 1) off (26 + x)
    have u5 := z_ui (z_u b1 0 (b1 0 + b1 pt - n)) pt n x
    have u6 := z_ui b1 0 (b1 0 + b1 pt - n) x
    constructor <;> omega
theorem rb_noplace {bb b0 b1 : Int → Int} (h : rb_ok bb b0 b1) {p pt n : Int} (hp : p = 0 ∨ p = 1) (hc : ¬ pm_c (bp b0 b1 p) (bp b0 b1 (1 - p)) pt n) : rb_ok bb (if p = 0 then pm_own b0 b1 pt n else b0) (if p = 0 then b1 else pm_own b1 b0 pt n) := by
  rcases hp with e | e
  · subst e
    have hc0 : ¬ pm_c b0 b1 pt n := hc
    rw [if_pos rfl, if_pos rfl, pm_own_f hc0]
    exact h
  · subst e
    have hc0 : ¬ pm_c b1 b0 pt n := hc
    rw [if_neg (by decide), if_neg (by decide), pm_own_f hc0]
    exact h
theorem m_place_t {len stg mv stk hol cn cs : Int} {sco b0 b1 : Int → Int} {hi lo hs ls p pt n : Int} (h : stg = 0) (hp : p = 0 ∨ p = 1) (h1 : 1 ≤ pt ∧ pt ≤ 24) (h2 : 0 ≤ n ∧ n ≤ 15) : m_place (len, stg, mv, stk, hol, cn, cs, sco, b0, b1, hi, lo, hs, ls) p pt n = (b2 (pm_c (bp b0 b1 p) (bp b0 b1 (1 - p)) pt n), (len, stg, mv, stk, hol, cn, cs, sco, (if p = 0 then pm_own b0 b1 pt n else b0), (if p = 0 then b1 else pm_own b1 b0 pt n), hi, lo, hs, ls)) := if_pos ⟨h, hp, h1, h2⟩
