/-! the search for one number: rs k: k moves of the number d one after the other -/
def rs (oth : Int → Int) (d : Int) : Nat → (Int → Int) → Prop
  | 0, _ => True
  | k + 1, own => ∃ f, bd_can own oth f d ∧ rs oth d k (bd_sh own f d)
theorem rs_mono (oth : Int → Int) (d : Int) : ∀ (k : Nat) (own : Int → Int), rs oth d (k + 1) own → rs oth d k own
  | 0, _, _ => trivial
  | k + 1, _, ⟨f, h1, h2⟩ => ⟨f, h1, rs_mono oth d k _ h2⟩
theorem rs_le (oth : Int → Int) (d : Int) (own : Int → Int) {j k : Nat} (h : j ≤ k) (q : rs oth d k own) : rs oth d j own := by
  induction k with
  | zero => rw [show j = 0 by omega]; trivial
  | succ k ih =>
    by_cases e : j = k + 1
    · rw [e]; exact q
    · exact ih (by omega) (rs_mono oth d k own q)
theorem dcf1_u (d n : Int) (hd : 1 ≤ d) : z_u (dcf d 0 n 0) d (dcf d 0 n 0 d - 1) = dcf d 0 (n - 1) 0 := by
  funext x
  have e : dcf d 0 n 0 d = n := if_pos rfl
  by_cases q : x = d
  · rw [q, z_us, e]
    exact (if_pos rfl).symm
  · rw [z_un q]
    unfold dcf
    rw [if_neg q, if_neg q]
theorem rs_reach (oth : Int → Int) (d : Int) (hd : 1 ≤ d) : ∀ (k : Nat) (n : Int) (own : Int → Int), 0 ≤ n → (bd_reach oth k (dcf d 0 n 0) own ↔ rs oth d k own ∧ (k : Int) ≤ n)
  | 0, n, own, hn => ⟨fun _ => ⟨trivial, hn⟩, fun _ => trivial⟩
  | k + 1, n, own, hn => by
    constructor
    · rintro ⟨f, d2, h1, h2, h3⟩
      have e : d2 = d := by
        by_cases q : d2 = d
        · exact q
        · exfalso
          have hz : dcf d 0 n 0 d2 = 0 := by
            unfold dcf
            rw [if_neg q]
            split <;> rfl
          omega
      subst e
      have hv : dcf d2 0 n 0 d2 = n := if_pos rfl
      rw [dcf1_u d2 n hd] at h3
      obtain ⟨a, b⟩ := (rs_reach oth d2 hd k (n - 1) _ (by omega)).mp h3
      exact ⟨⟨f, h2, a⟩, by omega⟩
    · rintro ⟨⟨f, h2, a⟩, b⟩
      have hv : dcf d 0 n 0 d = n := if_pos rfl
      refine ⟨f, d, by omega, h2, ?_⟩
      rw [dcf1_u d n hd]
      exact (rs_reach oth d hd k (n - 1) _ (by omega)).mpr ⟨a, by omega⟩
theorem rs_due {oth own : Int → Int} {d n best : Int} (hd : 1 ≤ d) (hn : 0 ≤ n ∧ n ≤ 4) (hb : 0 ≤ best ∧ best ≤ n) (h : rs oth d best.toNat own) (h2 : best = n ∨ ¬ rs oth d (best.toNat + 1) own) : best = ((bd_due oth (dcf d 0 n 0) own : Nat) : Int) := by
  rw [bd_due_is (n := best.toNat) (by omega) ((rs_reach oth d hd _ n own hn.1).mpr ⟨h, by omega⟩) (fun q => by
    obtain ⟨a, b⟩ := (rs_reach oth d hd _ n own hn.1).mp q
    rcases h2 with e | e
    · omega
    · exact e a)]
  omega
theorem due_0 (oth own : Int → Int) (d : Int) : ((bd_due oth (dcf d 0 0 0) own : Nat) : Int) = 0 := by
  rw [bd_due_is (n := 0) (by decide) trivial]
  · rfl
  · rintro ⟨f, d2, h1, h2, h3⟩
    have hz : dcf d 0 0 0 d2 = 0 := by
      unfold dcf
      split
      · rfl
      · split <;> rfl
    omega
/-- the state of the search -/
def lg_inv (own oth : Int → Int) (l d n best dep : Int) (g fr : Int → Int) : Prop :=
  gb g ∧ (0 ≤ best ∧ best ≤ n) ∧ (-1 ≤ dep ∧ dep < n) ∧ dep ≤ best ∧ (∀ j, j < 52 * l + 52 → 52 * l ≤ j → True) ∧ lvO g l = own ∧ rs oth d best.toNat own ∧
  (∀ i, 0 ≤ i → i ≤ dep → (1 ≤ fr i ∧ fr i ≤ 26) ∧ bd_ok (lvO g (l + i)) ∧ bd_ok (lvT g (l + i)) ∧ bd_blk oth (lvT g (l + i)) ∧ ∀ k : Nat, rs oth d k (lvO g (l + i)) → rs oth d (k + i.toNat) own) ∧
  (∀ i, 0 ≤ i → i < dep → fr i ≤ 25 ∧ lvO g (l + i + 1) = bd_sh (lvO g (l + i)) (fr i) d) ∧
  (best < n → ∀ i, 0 ≤ i → i ≤ dep → ∀ f, (fr i < f ∨ (i = dep ∧ fr i ≤ f)) → bd_can (lvO g (l + i)) oth f d → ¬ rs oth d (best - i).toNat (bd_sh (lvO g (l + i)) f d)) ∧
  (best < n → dep < 0 → ¬ rs oth d (best.toNat + 1) own)
theorem lg_fin {own oth : Int → Int} {l d n best dep : Int} {g fr : Int → Int} (hd : 1 ≤ d) (hn : 0 ≤ n ∧ n ≤ 4) (h : lg_inv own oth l d n best dep g fr) (hx : dep < 0 ∨ n ≤ best) : best = ((bd_due oth (dcf d 0 n 0) own : Nat) : Int) := by
  obtain ⟨h1, h2, h3, h4, -, h5, h6, h7, h8, h9, h10⟩ := h
  refine rs_due hd hn h2 h6 ?_
  by_cases e : best = n
  · exact Or.inl e
  · exact Or.inr (h10 (by omega) (by omega))
theorem lg_start {own oth : Int → Int} {l d n : Int} {g fr : Int → Int} (hg : gb g) (hn : 1 ≤ n) (hO : lvO g l = own) (hT : lvT g l = oth) (ho : bd_ok own) (ht : bd_ok oth) : lg_inv own oth l d n 0 0 g (z_u fr 0 26) := by
  refine ⟨hg, ⟨by omega, by omega⟩, ⟨by omega, by omega⟩, by omega, fun _ _ _ => trivial, hO, trivial, fun i i1 i2 => ?_, fun i i1 i2 => by omega, fun _ i i1 i2 f hf hc => ?_, fun _ q => by omega⟩
  · have e : i = 0 := by omega
    subst e
    rw [z_us, show l + 0 = l by omega, hO, hT]
    exact ⟨⟨by decide, by decide⟩, ho, ht, bd_blk_refl _, fun k q => q⟩
  · have e : i = 0 := by omega
    subst e
    rw [z_us] at hf
    have := hc.2.1
    omega
theorem lg_none {own oth : Int → Int} {l d : Int} {g fr : Int → Int} (hg : gb g) (hO : lvO g l = own) : lg_inv own oth l d 0 0 (-1) g fr :=
  ⟨hg, ⟨by omega, by omega⟩, ⟨by omega, by omega⟩, by omega, fun _ _ _ => trivial, hO, trivial, fun i i1 i2 => by omega, fun i i1 i2 => by omega, fun q => by omega, fun q => by omega⟩
/-- no more places: one depth less -/
theorem lg_b {own oth : Int → Int} {l d n best dep : Int} {g fr : Int → Int} (h : lg_inv own oth l d n best dep g fr) (hb : best < n) (h0 : 0 ≤ dep) (hf : fr dep - 1 < 1) : lg_inv own oth l d n best (dep + (-1)) g (z_u fr dep (fr dep - 1)) := by
  obtain ⟨h1, h2, h3, h4, h4b, h5, h6, h7, h8, h9, h10⟩ := h
  have hd := h7 dep h0 (by omega)
  have hne : ∀ i, i < dep → z_u fr dep (fr dep - 1) i = fr i := fun i hi => z_un (by omega)
  have hnone : ¬ rs oth d ((best - dep).toNat + 1) (lvO g (l + dep)) := by
    rintro ⟨f, q1, q2⟩
    exact h9 hb dep h0 (by omega) f (Or.inr ⟨rfl, by have := q1.1; omega⟩) q1 q2
  refine ⟨h1, h2, ⟨by omega, by omega⟩, by omega, h4b, h5, h6, fun i i1 i2 => ?_, fun i i1 i2 => ?_, fun _ i i1 i2 f hff hc => ?_, fun _ q => ?_⟩
  · rw [hne i (by omega)]
    exact h7 i i1 (by omega)
  · rw [hne i (by omega)]
    exact h8 i i1 (by omega)
  · rw [hne i (by omega)] at hff
    by_cases e : fr i < f
    · exact h9 hb i i1 (by omega) f (Or.inl e) hc
    · have ei : i = dep - 1 := by omega
      have ef : f = fr i := by omega
      subst ei
      have hl := (h8 (dep - 1) i1 (by omega)).2
      rw [show l + (dep - 1) + 1 = l + dep by omega] at hl
      rw [ef, ← hl, show (best - (dep - 1)).toNat = (best - dep).toNat + 1 by omega]
      exact hnone
  · have e : dep = 0 := by omega
    subst e
    rw [show l + 0 = l by omega, h5, show (best - 0).toNat = best.toNat by omega] at hnone
    exact hnone
/-- not playable: the next place -/
theorem lg_c {own oth : Int → Int} {l d n best dep : Int} {g fr : Int → Int} (h : lg_inv own oth l d n best dep g fr) (hb : best < n) (h0 : 0 ≤ dep) (hf : 1 ≤ fr dep - 1) (hc0 : ¬ bd_can (lvO g (l + dep)) (lvT g (l + dep)) (fr dep - 1) d) : lg_inv own oth l d n best dep g (z_u fr dep (fr dep - 1)) := by
  obtain ⟨h1, h2, h3, h4, h4b, h5, h6, h7, h8, h9, h10⟩ := h
  have hd := h7 dep h0 (by omega)
  have hne : ∀ i, i < dep → z_u fr dep (fr dep - 1) i = fr i := fun i hi => z_un (by omega)
  refine ⟨h1, h2, h3, h4, h4b, h5, h6, fun i i1 i2 => ?_, fun i i1 i2 => ?_, fun _ i i1 i2 f hff hc => ?_, fun _ q => by omega⟩
  · by_cases e : i = dep
    · subst e
      rw [z_us]
      exact ⟨⟨by omega, by omega⟩, hd.2⟩
    · rw [hne i (by omega)]
      exact h7 i i1 i2
  · rw [hne i i2]
    exact h8 i i1 i2
  · by_cases e : i = dep
    · subst e
      rw [z_us] at hff
      by_cases e2 : f = fr i - 1
      · rw [e2] at hc
        exact absurd (bd_can_cong (bd_same_refl _) hd.2.2.2.1 hc) hc0
      · exact h9 hb i i1 i2 f (Or.inr ⟨rfl, by omega⟩) hc
    · rw [hne i (by omega)] at hff
      exact h9 hb i i1 i2 f (by omega) hc
theorem lg_path {own oth : Int → Int} {l d n best dep : Int} {g fr : Int → Int} (h : lg_inv own oth l d n best dep g fr) (h0 : 0 ≤ dep) {f0 : Int} (hc0 : bd_can (lvO g (l + dep)) (lvT g (l + dep)) f0 d) : bd_can (lvO g (l + dep)) oth f0 d ∧ ∀ k : Nat, rs oth d k (bd_sh (lvO g (l + dep)) f0 d) → rs oth d (k + (dep + 1).toNat) own := by
  obtain ⟨h1, h2, h3, h4, h4b, h5, h6, h7, h8, h9, h10⟩ := h
  have hd := h7 dep h0 (by omega)
  have hc := bd_can_cong (bd_same_refl _) (bd_blk_symm hd.2.2.2.1) hc0
  refine ⟨hc, fun k q => ?_⟩
  have := hd.2.2.2.2 (k + 1) ⟨f0, hc, q⟩
  rw [show k + (dep + 1).toNat = k + 1 + dep.toNat by omega]
  exact this
theorem lg_best {own oth : Int → Int} {l d n best dep : Int} {g fr : Int → Int} (h : lg_inv own oth l d n best dep g fr) (h0 : 0 ≤ dep) {f0 : Int} (hc0 : bd_can (lvO g (l + dep)) (lvT g (l + dep)) f0 d) : rs oth d (dep + 1).toNat own := by
  have := (lg_path h h0 hc0).2 0 trivial
  rw [Nat.zero_add] at this
  exact this
/-- playable, and the last die: best is n -/
theorem lg_d {own oth : Int → Int} {l d n best b2v dep : Int} {g fr : Int → Int} (h : lg_inv own oth l d n best dep g fr) (h0 : 0 ≤ dep) (hf : 1 ≤ fr dep - 1) (hc0 : bd_can (lvO g (l + dep)) (lvT g (l + dep)) (fr dep - 1) d) (hlast : n ≤ dep + 1) (hbv : b2v = n) : lg_inv own oth l d n b2v dep g (z_u fr dep (fr dep - 1)) := by
  have hr := lg_best h h0 hc0
  obtain ⟨h1, h2, h3, h4, h4b, h5, h6, h7, h8, h9, h10⟩ := h
  have hd := h7 dep h0 (by omega)
  have hne : ∀ i, i < dep → z_u fr dep (fr dep - 1) i = fr i := fun i hi => z_un (by omega)
  subst hbv
  refine ⟨h1, ⟨by omega, by omega⟩, h3, by omega, h4b, h5, by rw [show b2v.toNat = (dep + 1).toNat by omega]; exact hr, fun i i1 i2 => ?_, fun i i1 i2 => ?_, fun q => by omega, fun q => by omega⟩
  · by_cases e : i = dep
    · subst e
      rw [z_us]
      exact ⟨⟨by omega, by omega⟩, hd.2⟩
    · rw [hne i (by omega)]
      exact h7 i i1 i2
  · rw [hne i i2]
    exact h8 i i1 i2
/-- playable, and dice left: one depth more -/
theorem lg_e {own oth : Int → Int} {l d n best b2v dep : Int} {g g' fr : Int → Int} (h : lg_inv own oth l d n best dep g fr) (h0 : 0 ≤ dep) (hf : 1 ≤ fr dep - 1) (hc0 : bd_can (lvO g (l + dep)) (lvT g (l + dep)) (fr dep - 1) d) (hmore : dep + 1 < n) (hbv : (b2v = dep + 1 ∧ best < dep + 1) ∨ (b2v = best ∧ dep + 1 ≤ best)) (hm : mk_ok g g' (l + dep) (fr dep - 1) d) : lg_inv own oth l d n b2v (dep + 1) g' (z_u (z_u fr dep (fr dep - 1)) (dep + 1) 26) := by
  have hr := lg_best h h0 hc0
  have hp := lg_path h h0 hc0
  obtain ⟨h1, h2, h3, h4, h4b, h5, h6, h7, h8, h9, h10⟩ := h
  obtain ⟨m1, m2, m3, m4⟩ := hm
  have hd := h7 dep h0 (by omega)
  have hlow : ∀ i, 0 ≤ i → i ≤ dep → lvO g' (l + i) = lvO g (l + i) ∧ lvT g' (l + i) = lvT g (l + i) := fun i i1 i2 => lv_cong (fun j j1 j2 => m2 j (by omega))
  have hne : ∀ i, i < dep → z_u (z_u fr dep (fr dep - 1)) (dep + 1) 26 i = fr i := fun i hi => by rw [z_un (by omega), z_un (by omega)]
  have hdp : z_u (z_u fr dep (fr dep - 1)) (dep + 1) 26 dep = fr dep - 1 := by rw [z_un (by omega), z_us]
  have hok1 : bd_ok (lvO g' (l + (dep + 1))) := by
    rw [show l + (dep + 1) = l + dep + 1 by omega, m3]
    exact bd_sh_ok hd.2.1 hc0.1 hc0.2.1 hc0.2.2.1 hc0.2.2.2.2.1
  have hok2 : bd_ok (lvT g' (l + (dep + 1))) := by
    rw [show l + (dep + 1) = l + dep + 1 by omega, m4]
    exact bd_hit_ok hd.2.2.1 (by have := hc0.2.1; have := hc0.2.2.1; omega)
  have hbl : bd_blk oth (lvT g' (l + (dep + 1))) := by
    rw [show l + (dep + 1) = l + dep + 1 by omega, m4]
    refine bd_blk_trans hd.2.2.2.1 (bd_hit_blk (by have := hc0.2.1; have := hc0.2.2.1; omega) ?_)
    rcases hc0.2.2.2.2.2.2 with q | q
    · exact Or.inl q.2
    · exact Or.inr q.1
  refine ⟨m1, ⟨by omega, by omega⟩, ⟨by omega, by omega⟩, by omega, h4b, ?_, ?_, fun i i1 i2 => ?_, fun i i1 i2 => ?_, fun hbn i i1 i2 f hff hc => ?_, fun _ q => by omega⟩
  · have := (hlow 0 (by omega) h0).1
    rw [show l + 0 = l by omega] at this
    rw [this, h5]
  · rcases hbv with ⟨e, -⟩ | ⟨e, -⟩
    · rw [e]; exact hr
    · rw [e]; exact h6
  · by_cases e : i = dep + 1
    · subst e
      rw [z_us]
      refine ⟨⟨by decide, by decide⟩, hok1, hok2, hbl, fun k q => ?_⟩
      rw [show l + (dep + 1) = l + dep + 1 by omega, m3] at q
      exact hp.2 k q
    · rw [(hlow i i1 (by omega)).1, (hlow i i1 (by omega)).2]
      by_cases e2 : i = dep
      · subst e2
        rw [hdp]
        exact ⟨⟨by omega, by omega⟩, hd.2⟩
      · rw [hne i (by omega)]
        exact h7 i i1 (by omega)
  · by_cases e2 : i = dep
    · subst e2
      rw [hdp, (hlow i i1 (by omega)).1, m3]
      exact ⟨by have := (h7 i i1 (by omega)).1; omega, rfl⟩
    · rw [hne i (by omega), (hlow i i1 (by omega)).1]
      have := (hlow (i + 1) (by omega) (by omega)).1
      rw [show l + (i + 1) = l + i + 1 by omega] at this
      rw [this]
      exact h8 i i1 (by omega)
  · by_cases e : i = dep + 1
    · subst e
      rw [z_us] at hff
      have := hc.2.1
      omega
    · rw [(hlow i i1 (by omega)).1] at hc ⊢
      have hle : (best - i).toNat ≤ (b2v - i).toNat := by omega
      by_cases e2 : i = dep
      · subst e2
        rw [hdp] at hff
        exact fun q => h9 (by omega) i i1 (by omega) f (Or.inr ⟨rfl, by omega⟩) hc (rs_le _ _ _ hle q)
      · rw [hne i (by omega)] at hff
        exact fun q => h9 (by omega) i i1 (by omega) f (by omega) hc (rs_le _ _ _ hle q)
/-- the measure -/
def lg_w (dep i w : Int) (fr : Int → Int) : Int := if i ≤ dep then fr i * w else 0
def lg_mu (dep : Int) (fr : Int → Int) : Nat := (lg_w dep 0 19683 fr + lg_w dep 1 729 fr + lg_w dep 2 27 fr + lg_w dep 3 1 fr).toNat
theorem lg_w_is (dep i w : Int) (fr : Int → Int) : (i ≤ dep ∧ lg_w dep i w fr = fr i * w) ∨ (dep < i ∧ lg_w dep i w fr = 0) := by
  unfold lg_w
  by_cases h : i ≤ dep
  · exact Or.inl ⟨h, if_pos h⟩
  · exact Or.inr ⟨by omega, if_neg h⟩
theorem lg_mu_dn {own oth : Int → Int} {l d n best dep dep' : Int} {g fr fr' : Int → Int} (hn : n ≤ 4) (h : lg_inv own oth l d n best dep g fr) (h0 : 0 ≤ dep) (hc : (dep' = dep + (-1) ∧ fr' = z_u fr dep (fr dep - 1)) ∨ (dep' = dep ∧ fr' = z_u fr dep (fr dep - 1)) ∨ (dep' = dep + 1 ∧ fr' = z_u (z_u fr dep (fr dep - 1)) (dep + 1) 26)) : lg_mu dep' fr' < lg_mu dep fr := by
  have h7 := h.2.2.2.2.2.2.2.1
  have hdn := h.2.2.1
  have hdep : dep' = dep + (-1) ∨ dep' = dep ∨ dep' = dep + 1 := by
    rcases hc with e | e | e
    · exact Or.inl e.1
    · exact Or.inr (Or.inl e.1)
    · exact Or.inr (Or.inr e.1)
  have key : ∀ x : Int, (x = dep + 1 ∧ dep' = dep + 1 ∧ fr' x = 26) ∨ (¬ (x = dep + 1 ∧ dep' = dep + 1) ∧ x = dep ∧ fr' x = fr dep - 1) ∨ (¬ (x = dep + 1 ∧ dep' = dep + 1) ∧ x ≠ dep ∧ fr' x = fr x) := by
    intro x
    have z1 := z_ui fr dep (fr dep - 1) x
    rcases hc with ⟨e1, e2⟩ | ⟨e1, e2⟩ | ⟨e1, e2⟩
    · rw [e2]; omega
    · rw [e2]; omega
    · rw [e2]
      have z2 := z_ui (z_u fr dep (fr dep - 1)) (dep + 1) 26 x
      omega
  have w0 := lg_w_is dep 0 19683 fr; have w1 := lg_w_is dep 1 729 fr; have w2 := lg_w_is dep 2 27 fr; have w3 := lg_w_is dep 3 1 fr
  have v0 := lg_w_is dep' 0 19683 fr'; have v1 := lg_w_is dep' 1 729 fr'; have v2 := lg_w_is dep' 2 27 fr'; have v3 := lg_w_is dep' 3 1 fr'
  have k0 := key 0; have k1 := key 1; have k2 := key 2; have k3 := key 3
  have f0 : 0 ≤ dep → 1 ≤ fr 0 ∧ fr 0 ≤ 26 := fun q => (h7 0 (by omega) q).1
  have f1 : 1 ≤ dep → 1 ≤ fr 1 ∧ fr 1 ≤ 26 := fun q => (h7 1 (by omega) q).1
  have f2 : 2 ≤ dep → 1 ≤ fr 2 ∧ fr 2 ≤ 26 := fun q => (h7 2 (by omega) q).1
  have f3 : 3 ≤ dep → 1 ≤ fr 3 ∧ fr 3 ≤ 26 := fun q => (h7 3 (by omega) q).1
  clear key hc h7
  unfold lg_mu
  generalize lg_w dep 0 19683 fr = a0 at *
  generalize lg_w dep 1 729 fr = a1 at *
  generalize lg_w dep 2 27 fr = a2 at *
  generalize lg_w dep 3 1 fr = a3 at *
  generalize lg_w dep' 0 19683 fr' = c0 at *
  generalize lg_w dep' 1 729 fr' = c1 at *
  generalize lg_w dep' 2 27 fr' = c2 at *
  generalize lg_w dep' 3 1 fr' = c3 at *
  have hdp : dep = 0 ∨ dep = 1 ∨ dep = 2 ∨ dep = 3 := by omega
  rcases hdp with e | e | e | e <;> rw [e] at k0 k1 k2 k3 w0 w1 w2 w3 hdep f0 f1 f2 f3 <;> rcases hdep with e2 | e2 | e2 <;> rw [e2] at k0 k1 k2 k3 v0 v1 v2 v3 <;> omega
