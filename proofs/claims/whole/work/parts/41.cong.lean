/-! ===== the two sides: what a part's bytes beyond its size don't say; one outcome ===== -/
theorem bz_cong {g g' : Nat → Nat} {z : Nat} (h : ∀ j, j < z → g j = g' j) : bz g z = bz g' z := by
  funext k; unfold bz
  by_cases q : k < z
  · rw [if_pos q, if_pos q, h k q]
  · rw [if_neg q, if_neg q]
theorem svn_cong {g g' : Nat → Nat} {z : Nat} (h : ∀ j, j < z → g j = g' j) : svn g z = svn g' z := by
  funext k; unfold svn; rw [bz_cong h]
theorem bitS_cong {g g' : Nat → Nat} {z : Nat} (h : ∀ j, j < z → g j = g' j) : bitS g z = bitS g' z := by
  funext k; unfold bitS; rw [bz_cong h]
theorem anyB_cong {g g' : Nat → Nat} {z : Nat} (h : ∀ j, j < z → g j = g' j) : ∀ m b, anyB g z m b = anyB g' z m b
  | 0, _ => rfl
  | m + 1, b => by unfold anyB; rw [bitS_cong h, anyB_cong h m (b + 1)]
theorem strayB_cong {g g' : Nat → Nat} {z : Nat} (h : ∀ j, j < z → g j = g' j) (hd el : Nat) : strayB g z hd el = strayB g' z hd el := by
  unfold strayB; rw [bitS_cong h, anyB_cong h]
theorem hdr_z {b e z : Nat} (h1 : ¬ wszP b e (z - 2)) (h2 : ¬ e < hlim b) : 8 ≤ z := by
  unfold wszP at h1
  unfold hlim at h2
  by_cases q : b = 0
  · rw [if_pos q] at h1 h2; unfold bfs at h1; omega
  · rw [if_neg q] at h1 h2; omega
theorem if_cg {A B : Prop} [Decidable A] [Decidable B] {x y : Nat} (h : A ↔ B) : (if A then x else y) = if B then x else y := by
  by_cases a : A
  · rw [if_pos a, if_pos (h.mp a)]
  · rw [if_neg a, if_neg (fun b => a (h.mpr b))]
theorem fault_cong {g g' : Nat → Nat} {z : Nat} (h : ∀ j, j < z → g j = g' j) : fault g z = fault g' z := by
  unfold fault
  by_cases h1 : z < 2
  · rw [if_pos h1, if_pos h1]
  have e0 := h 0 (by omega)
  have e1 := h 1 (by omega)
  rw [if_neg h1, if_neg h1, ← e0, ← e1, strayB_cong h]
  by_cases h2 : ¬ (g 0 = 0 ∨ g 0 = 1 ∨ g 0 = 4 ∨ g 0 = 5)
  · rw [if_pos h2, if_pos h2]
  rw [if_neg h2, if_neg h2]
  by_cases h3 : wszP (g 0 / 4) (g 1) (z - 2)
  · rw [if_pos h3, if_pos h3]
  rw [if_neg h3, if_neg h3]
  refine if_cg ?_
  by_cases q : g 1 < hlim (g 0 / 4)
  · exact ⟨fun x => ⟨x.1, Or.inl q⟩, fun x => ⟨x.1, Or.inl q⟩⟩
  · have hz := hdr_z h3 q
    unfold hdrBad
    rw [h 2 (by omega), h 3 (by omega), h 4 (by omega), h 6 (by omega), h 7 (by omega)]
theorem dP_cong {g g' : Nat → Nat} {z el : Nat} (h : ∀ j, j < z → g j = g' j) (he : el + 2 ≤ z) : ∀ m a, dP g el m a = dP g' el m a
  | 0, _ => rfl
  | m + 1, a => by
    unfold dP
    by_cases q : a + 1 < el
    · rw [if_pos q, if_pos q, h _ (by omega), h (2 + a) (by omega), dP_cong h he m (a + 2)]
    · rw [if_neg q, if_neg q]
theorem unitsL_cong {g g' : Nat → Nat} {z : Nat} (h : ∀ j, j < z → g j = g' j) (h0 : fault g z = 0) : unitsL g z = unitsL g' z := by
  obtain ⟨z2, -, hw, -⟩ := fault_0 h0
  unfold unitsL
  rw [← h 0 (by omega), ← h 1 (by omega), svn_cong h]
  by_cases q : g 0 / 4 = 0
  · rw [if_pos q, if_pos q]
  · rw [if_neg q, if_neg q]
    unfold wszP at hw
    rw [if_neg q] at hw
    exact dP_cong h (by omega) _ _
theorem acc_cong {c pt : Nat} {D : Nat → hDt} {g g' : Nat → Nat} {z s : Nat} {v : Int32} {c' pt' : Nat} {D' : Nat → hDt} {lt : Option (Nat × (Nat → List Nat))} (h : ∀ j, j < z → g j = g' j) (x : accR c pt D g z s v c' pt' D' lt) : accR c pt D g' z s v c' pt' D' lt := by
  unfold accR at x ⊢
  rw [← fault_cong h]
  rcases x with x | ⟨x0, x1, x2⟩ | ⟨x0, x1, v9, x2, x3⟩
  · exact Or.inl x
  · have := (fault_0 x0).1
    rw [unitsL_cong h x0] at x2
    exact Or.inr (Or.inl ⟨x0, by rw [← h 0 (by omega)]; exact x1, x2⟩)
  · obtain ⟨z2, -, hw, hh⟩ := fault_0 x0
    have hz := hdr_z hw (fun q => hh ⟨by omega, Or.inl q⟩)
    rw [unitsL_cong h x0, h 5 (by omega), h 6 (by omega), h 7 (by omega)] at x3
    exact Or.inr (Or.inr ⟨x0, by rw [← h 0 (by omega)]; exact x1, v9, x2, x3⟩)
/-- the same heap, wherever it lies -/
abbrev eqD (d d' : hDt) : Prop := d_s d = d_s d' ∧ d_r d = d_r d' ∧ d_n d = d_n d' ∧ d_t d = d_t d' ∧ d_l d = d_l d' ∧ d_L d = d_L d'
theorem eqD.rf (d : hDt) : eqD d d := ⟨rfl, rfl, rfl, rfl, rfl, rfl⟩
theorem sel_det {c : Nat} {D : Nat → hDt} {s r p c1 p1 c2 p2 : Nat} {D1 D2 : Nat → hDt} (x : selR c D s r p c1 p1 D1) (y : selR c D s r p c2 p2 D2) : c1 = c2 ∧ p1 = p2 ∧ ∀ i, eqD (D1 i) (D2 i) := by
  rcases x with ⟨x1, x2, x3, x4, x5⟩ | ⟨x1, x2, x3, d, x4, x5⟩
  · rcases y with ⟨y1, y2, y3, y4, y5⟩ | ⟨y1, -⟩
    · have e : p1 = p2 := by
        rcases Nat.lt_trichotomy p1 p2 with q | q | q
        · exact absurd x4 (y5 _ q)
        · exact q
        · exact absurd y4 (x5 _ q)
      exact ⟨x1.trans y1.symm, e, fun i => by rw [x2, y2]; exact eqD.rf _⟩
    · exact absurd x4 (y1 _ x3)
  · rcases y with ⟨y1, y2, y3, y4, y5⟩ | ⟨y1, y2, y3, d', y4, y5⟩
    · exact absurd y4 (x1 _ y3)
    · have e : p1 = p2 := x2.trans y2.symm
      subst e
      refine ⟨by omega, rfl, fun i => ?_⟩
      rw [x5, y5]
      by_cases q : i = p1
      · subst q
        rw [va_up_self, va_up_self]
        obtain ⟨a1, a2, a3, a4, -, a5, a6⟩ := x4
        obtain ⟨b1, b2, b3, b4, -, b5, b6⟩ := y4
        exact ⟨a1.trans b1.symm, a2.trans b2.symm, a3.trans b3.symm, a4.trans b4.symm, a5.trans b5.symm, a6.trans b6.symm⟩
      · rw [va_up_ne _ _ q, va_up_ne _ _ q]; exact eqD.rf _
theorem eqD.up {D1 D2 : Nat → hDt} {p : Nat} {d1 d2 : hDt} (h : ∀ i, eqD (D1 i) (D2 i)) (e : eqD d1 d2) : ∀ i, eqD (va_up D1 p d1 i) (va_up D2 p d2 i) := by
  intro i
  by_cases q : i = p
  · subst q; rw [va_up_self, va_up_self]; exact e
  · rw [va_up_ne _ _ q, va_up_ne _ _ q]; exact h i
theorem eqD.shf {D1 D2 : Nat → hDt} {p : Nat} (h : ∀ i, eqD (D1 i) (D2 i)) : ∀ i, eqD (shf D1 p i) (shf D2 p i) := by
  intro i
  show eqD (if i < p then D1 i else D1 (i + 1)) (if i < p then D2 i else D2 (i + 1))
  by_cases q : i < p
  · rw [if_pos q, if_pos q]; exact h i
  · rw [if_neg q, if_neg q]; exact h _
theorem eqD.add {d d' e e' : hDt} {t k : Nat} {L : List Nat} (h : eqD d d') (x : addH d e t k L) (y : addH d' e' t k L) : eqD e e' := by
  obtain ⟨a1, a2, a3, a4, a5, a6⟩ := x
  obtain ⟨b1, b2, b3, b4, b5, b6⟩ := y
  obtain ⟨h1, h2, h3, h4, h5, h6⟩ := h
  exact ⟨by rw [a1, b1, h1], by rw [a2, b2, h2], by rw [a3, b3, h3], by rw [a4, b4, h4], by rw [a5, b5], by rw [a6, b6, h6]⟩
theorem keep_det {c pt : Nat} {D : Nat → hDt} {s r p k : Nat} {L : List Nat} {v1 c1 pt1 v2 c2 pt2 : Nat} {D1 D2 : Nat → hDt} {l1 l2 : Option (Nat × (Nat → List Nat))} (x : keepR c pt D s r p k L v1 c1 pt1 D1 l1) (y : keepR c pt D s r p k L v2 c2 pt2 D2 l2) : v1 = v2 ∧ c1 = c2 ∧ pt1 = pt2 ∧ l1 = l2 ∧ ∀ i, eqD (D1 i) (D2 i) := by
  obtain ⟨cx, px, Dx, sx, x⟩ := x
  obtain ⟨cy, py, Dy, sy, y⟩ := y
  obtain ⟨ec, ep, eD⟩ := sel_det sx sy
  subst ec; subst ep
  have hp := eD px
  obtain ⟨-, -, -, ht, -, hL⟩ := hp
  rcases x with ⟨⟨L0, x1⟩, x2, x3, x4, x5, x6⟩ | ⟨x1, x2, d2, x3, x4⟩
  · rcases y with ⟨-, y2, y3, y4, y5, y6⟩ | ⟨y1, -⟩
    · exact ⟨by omega, by omega, by omega, x6.trans y6.symm, fun i => by rw [x5, y5]; exact eD i⟩
    · rw [hL, y1] at x1; cases x1
  · rcases y with ⟨⟨L0, y1⟩, -⟩ | ⟨y1, y2, d3, y3, y4⟩
    · rw [← hL, x1] at y1; cases y1
    · have e2 := eqD.add (eD px) x3 y3
      rcases x4 with ⟨a1, a2, a3, a4, a5⟩ | ⟨a1, a2, a3, a4, a5⟩ <;> rcases y4 with ⟨b1, b2, b3, b4, b5⟩ | ⟨b1, b2, b3, b4, b5⟩
      · exact ⟨by omega, by omega, by omega, a5.trans b5.symm, fun i => by rw [a4, b4]; exact eqD.up eD e2 i⟩
      · omega
      · omega
      · exact ⟨by omega, by omega, by omega, by rw [a5, b5, e2.2.2.2.2.2], fun i => by rw [a4, b4]; exact eqD.shf eD i⟩
theorem acc_det {c pt : Nat} {D : Nat → hDt} {g : Nat → Nat} {z s : Nat} {v1 v2 : Int32} {c1 pt1 c2 pt2 : Nat} {D1 D2 : Nat → hDt} {l1 l2 : Option (Nat × (Nat → List Nat))} (x : accR c pt D g z s v1 c1 pt1 D1 l1) (y : accR c pt D g z s v2 c2 pt2 D2 l2) : v1 = v2 ∧ c1 = c2 ∧ pt1 = pt2 ∧ l1 = l2 ∧ ∀ i, eqD (D1 i) (D2 i) := by
  rcases x with ⟨x0, x1, x2, x3, x4, x5⟩ | ⟨x0, x1, x2, x3, x4, x5, x6⟩ | ⟨x0, x1, v9, x2, x3⟩
  · rcases y with ⟨y0, y1, y2, y3, y4, y5⟩ | ⟨y0, -⟩ | ⟨y0, -⟩
    · exact ⟨x1.trans y1.symm, by omega, by omega, x5.trans y5.symm, fun i => by rw [x4, y4]; exact eqD.rf _⟩
    · exact absurd y0 x0
    · exact absurd y0 x0
  · rcases y with ⟨y0, -⟩ | ⟨y0, y1, y2, y3, y4, y5, y6⟩ | ⟨y0, y1, -⟩
    · exact absurd x0 y0
    · exact ⟨x2.trans y2.symm, by omega, by omega, x6.trans y6.symm, fun i => by rw [x5, y5]; exact eqD.rf _⟩
    · omega
  · rcases y with ⟨y0, -⟩ | ⟨y0, y1, -⟩ | ⟨y0, y1, v8, y2, y3⟩
    · exact absurd x0 y0
    · omega
    · obtain ⟨a, b⟩ := keep_det x3 y3
      exact ⟨by rw [x2, y2, a], b⟩
theorem HR.eqD {c : Nat} {D D' : Nat → hDt} {mp sd rc pr th sm : Nat → Nat} {pc : Nat → Int32} {pu : Nat → Nat} {e : Nat} (x : HR c D mp sd rc pr th sm pc pu e) (h : ∀ i, eqD (D i) (D' i)) : HR c D' mp sd rc pr th sm pc pu e := by
  refine ⟨fun i hi => ?_, x.2⟩
  obtain ⟨a1, a2, a3, a4, a5, a6, a7⟩ := x.1 i hi
  obtain ⟨h1, h2, h3, h4, h5, h6⟩ := h i
  exact ⟨a1, a2.trans h1, a3.trans h2, a4.trans h3, a5.trans h4, fun q => (a6 q).trans h5, fun k hk => by rw [← h6]; exact a7 k (by rw [h3]; exact hk)⟩
theorem acc_pt {c pt : Nat} {D : Nat → hDt} {g : Nat → Nat} {z s : Nat} {v : Int32} {c' pt' : Nat} {D' : Nat → hDt} {lt : Option (Nat × (Nat → List Nat))} (x : accR c pt D g z s v c' pt' D' lt) : pt' ≤ pt + 1 := by
  rcases x with ⟨-, -, -, x, -⟩ | ⟨-, -, -, -, x, -⟩ | ⟨-, -, v9, -, c1, p9, D1, -, ⟨-, -, -, x, -⟩ | ⟨-, x, -⟩⟩ <;> omega
theorem shf_key {c k : Nat} (D : Nat → hDt) (hk : k < c) (i : Nat) (hi : i < c - 1) : ∃ j, j < c ∧ shf D k i = D j ∧ (i < k ∧ j = i ∨ k ≤ i ∧ j = i + 1) := by
  by_cases h1 : i < k
  · exact ⟨i, by omega, if_pos h1, Or.inl ⟨h1, rfl⟩⟩
  · exact ⟨i + 1, by omega, if_neg h1, Or.inr ⟨by omega, rfl⟩⟩
theorem uq_shf {c k : Nat} {D : Nat → hDt} (x : uqH c D) (hk : k < c) : uqH (c - 1) (shf D k) := by
  intro i j hi hj a b d
  obtain ⟨i1, i2, i3, i4⟩ := shf_key D hk i hi
  obtain ⟨j1, j2, j3, j4⟩ := shf_key D hk j hj
  rw [i3, j3] at a b d
  have := x _ _ i2 j2 a b d
  omega
theorem uq_cg {c : Nat} {D D' : Nat → hDt} (x : uqH c D) (h : ∀ i, d_s (D' i) = d_s (D i) ∧ d_r (D' i) = d_r (D i) ∧ d_n (D' i) = d_n (D i)) : uqH c D' := by
  intro i j hi hj a b d
  obtain ⟨i1, i2, i3⟩ := h i
  obtain ⟨j1, j2, j3⟩ := h j
  exact x i j hi hj (by rw [← i1, ← j1]; exact a) (by rw [← i2, ← j2]; exact b) (by rw [← i3, ← j3]; exact d)
theorem uq_evc {c : Nat} {D : Nat → hDt} {s r p : Nat} (x : uqH c D) (hc : c ≤ 16) (n : ∀ j, j < c → ¬ isH D s r p j) : uqH (evc c D).1 (evc c D).2 ∧ ∀ j, j < (evc c D).1 → ¬ isH (evc c D).2 s r p j := by
  by_cases h : c = 16
  · have e : evc c D = (15, shf D (luR (fun i => d_l (D i)) 15 1 0)) := if_pos h
    rw [e]
    have hl : luR (fun i => d_l (D i)) 15 1 0 < c := luR_lt 15 1 0 (by omega) (by omega)
    refine ⟨?_, fun j hj => ?_⟩
    · have := uq_shf x hl; rw [h] at this; exact this
    · obtain ⟨i1, i2, i3, -⟩ := shf_key D hl j (by rw [h]; exact hj)
      have := n i1 i2
      show ¬ (d_s (shf D _ j) = s ∧ d_r (shf D _ j) = r ∧ d_n (shf D _ j) = p)
      rw [i3]; exact this
  · have e : evc c D = (c, D) := if_neg h
    rw [e]; exact ⟨x, n⟩
theorem uq_sel {c : Nat} {D : Nat → hDt} {s r p c1 p9 : Nat} {D1 : Nat → hDt} (x : uqH c D) (hc : c ≤ 16) (y : selR c D s r p c1 p9 D1) : uqH c1 D1 ∧ p9 < c1 := by
  rcases y with ⟨y1, y2, y3, -⟩ | ⟨y1, y2, y3, d, y4, y5⟩
  · rw [y1, y2]; exact ⟨x, y3⟩
  · obtain ⟨e1, e2⟩ := uq_evc x hc y1
    rw [← y2] at e1 e2
    refine ⟨?_, by omega⟩
    rw [y3, y5]
    obtain ⟨f1, f2, f3, -⟩ := y4
    intro i j hi hj a b d9
    by_cases qi : i = p9
    · by_cases qj : j = p9
      · omega
      · rw [qi, va_up_self, va_up_ne _ _ qj] at a b d9
        exact absurd ⟨a.symm.trans f1, b.symm.trans f2, d9.symm.trans f3⟩ (e2 j (by omega))
    · by_cases qj : j = p9
      · rw [qj, va_up_self, va_up_ne _ _ qi] at a b d9
        exact absurd ⟨a.trans f1, b.trans f2, d9.trans f3⟩ (e2 i (by omega))
      · rw [va_up_ne _ _ qi, va_up_ne _ _ qj] at a b d9
        exact e1 i j (by omega) (by omega) a b d9
theorem uq_acc {c pt : Nat} {D : Nat → hDt} {g : Nat → Nat} {z s : Nat} {v : Int32} {c' pt' : Nat} {D' : Nat → hDt} {lt : Option (Nat × (Nat → List Nat))} (q : uqH c D) (hc : c ≤ 16) (x : accR c pt D g z s v c' pt' D' lt) : uqH c' D' := by
  rcases x with ⟨-, -, a, -, b, -⟩ | ⟨-, -, -, a, -, b, -⟩ | ⟨-, -, v9, -, c1, p9, D1, sx, ⟨-, -, a, -, b, -⟩ | ⟨-, -, d2, ad, ⟨-, -, a, b, -⟩ | ⟨-, -, a, b, -⟩⟩⟩
  · rw [a, b]; exact q
  · rw [a, b]; exact q
  · rw [a, b]; exact (uq_sel q hc sx).1
  · rw [a, b]
    refine uq_cg (uq_sel q hc sx).1 (fun i => ?_)
    by_cases e : i = p9
    · subst e; rw [va_up_self]; exact ⟨ad.1, ad.2.1, ad.2.2.1⟩
    · rw [va_up_ne _ _ e]; exact ⟨rfl, rfl, rfl⟩
  · rw [a, b]
    obtain ⟨u1, u2⟩ := uq_sel q hc sx
    exact uq_shf u1 u2
theorem uq_drp (s9 : Nat) : ∀ (m : Nat) (st : Nat × (Nat → hDt)), m ≤ st.1 → uqH st.1 st.2 → uqH (drp s9 m st).1 (drp s9 m st).2
  | 0, _, _, h => h
  | m + 1, st, hm, h => by
    unfold drp
    by_cases e : d_s (st.2 m) = s9
    · rw [if_pos e]; exact uq_drp s9 m (st.1 - 1, shf st.2 m) (show m ≤ st.1 - 1 by omega) (uq_shf h (by omega))
    · rw [if_neg e]; exact uq_drp s9 m st (by omega) h
/-! the latest text on both sides -/
def latR (lat : Option (Nat × (Nat → List Nat))) (lc : Nat) (la : Nat → Nat) : Prop := match lat with
  | none => lc = 0
  | some x => lrel x lc la
theorem latR.le {lat : Option (Nat × (Nat → List Nat))} {lc : Nat} {la : Nat → Nat} (h : latR lat lc la) : lc ≤ 40800 := by
  cases lat with
  | none => have : lc = 0 := h; omega
  | some x => exact h.2.1
theorem latR.u {lat : Option (Nat × (Nat → List Nat))} {lc : Nat} {la : Nat → Nat} (h : latR lat lc la) : latU lat = lc := by
  cases lat with
  | none => have : lc = 0 := h; rw [this]; rfl
  | some x => exact h.1.symm
theorem totU_mn (Ls : Nat → List Nat) (k : Nat) : ∀ m, totU Ls k ≤ totU Ls (k + m)
  | 0 => Nat.le_refl _
  | m + 1 => Nat.le_trans (totU_mn Ls k m) (Nat.le_add_right _ _)
theorem uAt_tot {Ls : Nat → List Nat} {la : Nat → Nat} : ∀ (m k i : Nat), (∀ q, q < k + m → ∀ j, j < (Ls q).length → la (totU Ls q + j) = (Ls q).getD j 0) → uAt Ls m k i = if totU Ls k + i < totU Ls (k + m) then nI (la (totU Ls k + i)) else -1
  | 0, k, i, _ => by rw [if_neg (by show ¬ totU Ls k + i < totU Ls k; omega)]; rfl
  | m + 1, k, i, h => by
    unfold uAt
    have e1 : totU Ls (k + 1) = totU Ls k + (Ls k).length := rfl
    have e2 : k + (m + 1) = k + 1 + m := by omega
    have e3 := totU_mn Ls (k + 1) m
    by_cases q : i < (Ls k).length
    · rw [if_pos q, e2, if_pos (by omega), h k (by omega) i q]
    · rw [if_neg q, uAt_tot m (k + 1) _ (fun q hq => h q (by omega)), e2, e1, show totU Ls k + (Ls k).length + (i - (Ls k).length) = totU Ls k + i by omega]
theorem pos_nI {u : Int32} (h : ¬ u < 0) : u = nI u.toNatClampNeg ∧ u.toNatClampNeg < 2 ^ 31 := by
  by_cases q : nI 2147483647 ≤ u
  · have h1 : u ≤ nI 2147483647 := Int32.le_maxValue u
    have e : u = nI 2147483647 := Int32.le_antisymm h1 q
    rw [e]; exact ⟨by decide +kernel, by decide +kernel⟩
  · obtain ⟨j, hj, e⟩ := ix_of h q (by decide)
    rw [e, nI_clamp (by omega)]; exact ⟨rfl, by omega⟩
theorem latR.a {lat : Option (Nat × (Nat → List Nat))} {lc : Nat} {la : Nat → Nat} (h : latR lat lc la) (u : Int32) : latA lat u = rwA la lc u := by
  cases lat with
  | none =>
    have e : lc = 0 := h
    rw [e]; unfold rwA
    by_cases q : u < 0
    · rw [if_pos q]; rfl
    · rw [if_neg q, if_pos (show nI 0 ≤ u from Int32.not_lt.mp q)]; rfl
  | some x =>
    obtain ⟨h1, h2, h3⟩ := h
    by_cases q : u < 0
    · rw [rwA_neg q]; exact if_pos q
    · obtain ⟨e1, e2⟩ := pos_nI q
      have e3 : latA (some x) u = uAt x.2 x.1 0 u.toNatClampNeg := if_neg q
      rw [e3, uAt_tot x.1 0 u.toNatClampNeg (fun q hq => h3 q (by omega))]
      have e4 : totU x.2 0 = 0 := rfl
      rw [e4, Nat.zero_add, Nat.zero_add, ← h1]
      rw [e1]
      generalize u.toNatClampNeg = i at e2
      rw [nI_clamp e2]
      by_cases q2 : i < lc
      · rw [if_pos q2, rwA_in q2 (by omega)]
      · rw [if_neg q2, rwA_out (by omega) e2]
theorem latR.or {lat lt : Option (Nat × (Nat → List Nat))} {lc lc' : Nat} {la la' : Nat → Nat} (h : latR lat lc la) (a : lt = none → lc' = lc ∧ la' = la) (b : ∀ x, lt = some x → lrel x lc' la') : latR (lt.or lat) lc' la' := by
  cases lt with
  | none => obtain ⟨e1, e2⟩ := a rfl; rw [e1, e2]; exact h
  | some x => exact b x rfl
theorem hp_rwA {c : Nat} {v w : Nat → Nat} (hc : c < 2 ^ 31) (h : ∀ i, i < c → v i = w i) (u : Int32) : (if u < 0 then (-1 : Int32) else if nI c ≤ u then -1 else nI (w u.toNatClampNeg)) = rwA v c u := by
  unfold rwA
  by_cases q : u < 0
  · rw [if_pos q, if_pos q]
  by_cases q1 : nI c ≤ u
  · rw [if_neg q, if_neg q, if_pos q1, if_pos q1]
  · obtain ⟨j, hj, e⟩ := ix_of q q1 hc
    rw [if_neg q, if_neg q, if_neg q1, if_neg q1, e, nI_clamp (by omega), h j hj]
theorem rwA_cg {g g' : Nat → Nat} {z : Nat} (hz : z < 2 ^ 31) (h : ∀ i, i < z → g i = g' i) (u : Int32) : rwA g z u = rwA g' z u := by
  rw [← hp_rwA hz (fun i hi => (h i hi).symm) u]; rfl
theorem fdG_cg {gh hh : Nat → Nat} {zh : Nat} {w : Int64} (h : ∀ i, i < zh → gh i = hh i) : ∀ k i, i < zh + k → fdG gh zh w k i = fdG hh zh w k i
  | 0, i, hi => h i hi
  | k + 1, i, hi => by
    unfold fdG
    by_cases e : i = zh + k
    · subst e; rw [gU_s, gU_s]
    · rw [gU_n e, gU_n e]; exact fdG_cg h k i (by omega)
/-! how many parts at most -/
theorem sEnd_min {f : Nat → Nat} {n : Nat} : ∀ (m i q : Nat), i ≤ n → n - i < m → n ≤ sEnd f n m i q ∨ i + q / 2 ≤ sEnd f n m i q
  | 0, _, _, _, h => absurd h (Nat.not_lt_zero _)
  | m + 1, i, q, hi, hm => by
    have h2 := svFor_le (f i)
    unfold sEnd
    by_cases c1 : n ≤ i
    · rw [if_pos c1]; exact Or.inl (Nat.le_refl n)
    · rw [if_neg c1]
      by_cases c2 : q < svFor (f i)
      · rw [if_pos c2]; exact Or.inr (by omega)
      · rw [if_neg c2]
        rcases sEnd_min (f := f) (n := n) m (i + 1) (q - svFor (f i)) (by omega) (by omega) with z | z
        · exact Or.inl z
        · exact Or.inr (by omega)
theorem tEnd_min {f : Nat → Nat} {n os a : Nat} (h : a ≤ n) : n ≤ tEnd f n os a ∨ a + 66 ≤ tEnd f n os a := by
  unfold tEnd
  by_cases q : os = 0
  · rw [if_pos q]
    rcases sEnd_min (f := f) (n := n) (n - a + 1) a 153 h (by omega) with z | z
    · exact Or.inl z
    · exact Or.inr (by omega)
  · rw [if_neg q]; unfold pEnd
    by_cases c1 : n ≤ a + 67
    · rw [if_pos c1]; exact Or.inl (Nat.le_refl n)
    · rw [if_neg c1]; split <;> exact Or.inr (by omega)
theorem pcR_l8 {f : Nat → Nat} {n os : Nat} : ∀ (m k a : Nat), a ≤ n → pcR (tEnd f n os) n m k a ≤ k + (n - a + 65) / 66
  | 0, _, _, _ => Nat.zero_le _
  | m + 1, k, a, h => by
    unfold pcR
    by_cases q : n ≤ a
    · rw [if_pos q]; omega
    · rw [if_neg q]
      have h1 := pcR_l8 (f := f) (n := n) (os := os) m (k + 1) (tEnd f n os a) (tEnd_le h)
      have h2 := tEnd_le (f := f) (os := os) h
      rcases tEnd_min (f := f) (os := os) h with z | z <;> omega
theorem tParts_l8 {f : Nat → Nat} {n sv os : Nat} (h : n ≤ 512) : tParts f n sv os ≤ 8 := by
  unfold tParts
  split
  · omega
  · have := pcR_l8 (f := f) (n := n) (os := os) 256 0 0 (Nat.zero_le n)
    omega
