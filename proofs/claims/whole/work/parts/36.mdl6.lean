/-! ===== TextPartsModel: the heaps ===== -/
def shN (f : Nat → Nat) (k i : Nat) : Nat → Nat := fun j => if j < k then f j else if j < i then f (j + 1) else f j
theorem shN_0 (f : Nat → Nat) (k : Nat) : shN f k k = f := by
  funext j; unfold shN
  by_cases h : j < k
  · rw [if_pos h]
  · rw [if_neg h, if_neg h]
theorem shN_r {f : Nat → Nat} {k i : Nat} (h : k ≤ i) : shN f k i (i + 1) = f (i + 1) := by
  unfold shN; rw [if_neg (by omega), if_neg (by omega)]
theorem shN_s {f : Nat → Nat} {k i : Nat} (h : k ≤ i) : gU (shN f k i) i (shN f k i (i + 1)) = shN f k (i + 1) := by
  rw [shN_r h]
  funext j
  by_cases e : j = i
  · subst e; rw [gU_s]; unfold shN; rw [if_neg (by omega), if_pos (by omega)]
  · rw [gU_n e]; unfold shN
    by_cases h1 : j < k
    · rw [if_pos h1, if_pos h1]
    · rw [if_neg h1, if_neg h1]
      by_cases h2 : j < i
      · rw [if_pos h2, if_pos (by omega)]
      · rw [if_neg h2, if_neg (by omega)]
/-- copying: k things of src to b, b + 1, .. -/
def cpF (dst : Nat → Nat) (b : Nat) (src : Nat → Nat) (k : Nat) : Nat → Nat := fun x => if b ≤ x ∧ x < b + k then src (x - b) else dst x
theorem cpF_0 (dst : Nat → Nat) (b : Nat) (src : Nat → Nat) : cpF dst b src 0 = dst := by
  funext x; unfold cpF; rw [if_neg (by omega)]
theorem cpF_s (dst : Nat → Nat) (b : Nat) (src : Nat → Nat) (k : Nat) : gU (cpF dst b src k) (b + k) (src k) = cpF dst b src (k + 1) := by
  funext x
  by_cases e : x = b + k
  · subst e; rw [gU_s]; unfold cpF; rw [if_pos (by omega), show b + k - b = k by omega]
  · rw [gU_n e]; unfold cpF
    by_cases h : b ≤ x ∧ x < b + k
    · rw [if_pos h, if_pos (by omega)]
    · rw [if_neg h, if_neg (by omega)]
theorem cpF_in {dst : Nat → Nat} {b : Nat} {src : Nat → Nat} {k j : Nat} (h : j < k) : cpF dst b src k (b + j) = src j := by
  unfold cpF; rw [if_pos (by omega), show b + j - b = j by omega]
theorem cpF_out {dst : Nat → Nat} {b : Nat} {src : Nat → Nat} {k x : Nat} (h : x < b ∨ b + k ≤ x) : cpF dst b src k x = dst x := by
  unfold cpF; rw [if_neg (by omega)]
/-- a part's place in the reference's store -/
def pcell (o : Option (List Nat)) (x : Nat) (pc : Nat → Int32) (pu : Nat → Nat) : Prop := match o with
  | none => pc x = -1
  | some L => pc x = nI L.length ∧ ∀ j, j < L.length → pu (160 * x + j) = L.getD j 0
/-- the heaps of the class and those of the reference; e: whose stamp is not laid yet -/
def HR (c : Nat) (D : Nat → hDt) (mp sd rc pr th sm : Nat → Nat) (pc : Nat → Int32) (pu : Nat → Nat) (e : Nat) : Prop :=
  (∀ i, i < c → mp i < 16 ∧ sd i = d_s (D i) ∧ rc i = d_r (D i) ∧ pr i = d_n (D i) ∧ th i = d_t (D i) ∧ (i ≠ e → sm i = d_l (D i)) ∧ ∀ k, k < d_n (D i) → pcell (d_L (D i) k) (255 * mp i + k) pc pu) ∧
  ∀ i j, i < c → j < c → mp i = mp j → i = j
theorem HR.gone {c k : Nat} {D : Nat → hDt} {mp sd rc pr th sm : Nat → Nat} {pc : Nat → Int32} {pu : Nat → Nat} {e : Nat} (x : HR c D mp sd rc pr th sm pc pu e) (he : c ≤ e) (hk : k < c) :
    HR (c - 1) (shf D k) (gU (shN mp k (c - 1)) (c - 1) (mp k)) (shN sd k (c - 1)) (shN rc k (c - 1)) (shN pr k (c - 1)) (shN th k (c - 1)) (shN sm k (c - 1)) pc pu (c - 1) := by
  obtain ⟨x1, x2⟩ := x
  have key : ∀ i, i < c - 1 → ∃ j, j < c ∧ shf D k i = D j ∧ (∀ f : Nat → Nat, shN f k (c - 1) i = f j) ∧ (i < k ∧ j = i ∨ k ≤ i ∧ j = i + 1) := by
    intro i hi
    by_cases h1 : i < k
    · exact ⟨i, by omega, if_pos h1, fun f => if_pos h1, Or.inl ⟨h1, rfl⟩⟩
    · exact ⟨i + 1, by omega, if_neg h1, fun f => by unfold shN; rw [if_neg h1, if_pos hi], Or.inr ⟨by omega, rfl⟩⟩
  refine ⟨fun i hi => ?_, fun i j hi hj q => ?_⟩
  · obtain ⟨j, j1, j2, j3, -⟩ := key i hi
    rw [gU_n (by omega), j3, j3, j3, j3, j3, j3, j2]
    obtain ⟨a, b, c9, d, f, g, p⟩ := x1 j j1
    exact ⟨a, b, c9, d, f, fun _ => g (by omega), p⟩
  · obtain ⟨a, a1, -, a3, a4⟩ := key i hi
    obtain ⟨b, b1, -, b3, b4⟩ := key j hj
    rw [gU_n (by omega), gU_n (by omega), a3, b3] at q
    have := x2 a b a1 b1 q
    omega
/-- a heap more -/
theorem HR.push {c pl s r p : Nat} {D : Nat → hDt} {d : hDt} {mp sd rc pr th sm : Nat → Nat} {pc pc' : Nat → Int32} {pu : Nat → Nat} {e : Nat} (x : HR c D mp sd rc pr th sm pc pu e) (he : c ≤ e) (hpl : pl < 16) (hf : ∀ i, i < c → mp i ≠ pl) (hd : freshH s r p d) (hp : p ≤ 255) (hn : ∀ i, i < c → d_n (D i) ≤ 255)
    (h1 : ∀ k, k < 255 → pc' (255 * pl + k) = -1) (h2 : ∀ q, (q < 255 * pl ∨ 255 * pl + 255 ≤ q) → pc' q = pc q) : HR (c + 1) (va_up D c d) (gU mp c pl) (gU sd c s) (gU rc c r) (gU pr c p) (gU th c 0) sm pc' pu c := by
  obtain ⟨x1, x2⟩ := x
  obtain ⟨d1, d2, d3, d4, d5, d6, d7⟩ := hd
  refine ⟨fun i hi => ?_, fun i j hi hj q => ?_⟩
  · by_cases q : i = c
    · subst q
      rw [gU_s, gU_s, gU_s, gU_s, gU_s, va_up_self]
      refine ⟨hpl, d1.symm, d2.symm, d3.symm, d4.symm, fun z => absurd rfl z, fun k hk => ?_⟩
      rw [d7]; exact h1 k (by omega)
    · rw [gU_n q, gU_n q, gU_n q, gU_n q, gU_n q, va_up_ne _ _ q]
      obtain ⟨a, b, c9, d, f, g, p⟩ := x1 i (by omega)
      refine ⟨a, b, c9, d, f, fun _ => g (by omega), fun k hk => ?_⟩
      have hne := hf i (by omega)
      have hn9 := hn i (by omega)
      have e9 : pc' (255 * mp i + k) = pc (255 * mp i + k) := h2 _ (by omega)
      have p9 := p k hk
      unfold pcell at p9 ⊢
      split <;> rename_i hh <;> rw [hh] at p9 <;> rw [e9] <;> exact p9
  · by_cases q1 : i = c <;> by_cases q2 : j = c
    · omega
    · rw [q1, gU_s, gU_n q2] at q; exact absurd q.symm (hf j (by omega))
    · rw [q2, gU_s, gU_n q1] at q; exact absurd q (hf i (by omega))
    · rw [gU_n q1, gU_n q2] at q; exact x2 i j (by omega) (by omega) q
/-- the bounds of the heaps -/
def DB (c : Nat) (D : Nat → hDt) : Prop := ∀ i, i < c → d_s (D i) ≤ 999 ∧ d_r (D i) < 256 ∧ 1 ≤ d_n (D i) ∧ d_n (D i) ≤ 255 ∧ d_t (D i) ≤ 255 ∧ d_l (D i) < 2 ^ 20 ∧ d_t (D i) = cntS (d_L (D i)) (d_n (D i)) ∧ ∀ k, k < d_n (D i) → ∀ L, d_L (D i) k = some L → L.length ≤ 160
theorem ibOk.db {G : ah_G} {h : ah_H} {c : Nat} {D : Nat → hDt} {hf : Nat → Option Nat} (x : ibOk G h c D hf) : DB c D := fun i hi => by
  obtain ⟨-, -, p, a, b, c9, d, e, -, g, q, -⟩ := (x.1 i hi).2
  refine ⟨a, b, c9, d, e, g, q, fun k hk L hL => ?_⟩
  have h9 := p k hk
  rw [hL] at h9
  cases hf9 : d_f (D i) k with
  | none => rw [hf9] at h9; exact h9.elim
  | some q => rw [hf9] at h9; obtain ⟨ua, -, -, z⟩ := h9; exact z
theorem HR.add {c p9 k t : Nat} {L : List Nat} {D : Nat → hDt} {d2 : hDt} {mp sd rc pr th sm : Nat → Nat} {pc : Nat → Int32} {pu u : Nat → Nat} {e : Nat} (x : HR c D mp sd rc pr th sm pc pu e) (he : c ≤ e ∨ e = p9) (hp9 : p9 < c) (ha : addH (D p9) d2 t k L) (hk : k < 255) (hL : L.length ≤ 160) (hd : DB c D) (hu : ∀ j, j < L.length → u j = L.getD j 0) :
    HR c (va_up D p9 d2) mp sd rc pr (gU th p9 (th p9 + 1)) (gU sm p9 t) (upd pc (255 * mp p9 + k) (nI L.length)) (cpF pu (160 * (255 * mp p9 + k)) u L.length) c := by
  obtain ⟨x1, x2⟩ := x
  obtain ⟨a1, a2, a3, a4, a5, a6⟩ := ha
  have hpc : ∀ (o : Option (List Nat)) (q : Nat), q ≠ 255 * mp p9 + k → pcell o q pc pu → (∀ L, o = some L → L.length ≤ 160) → pcell o q (upd pc (255 * mp p9 + k) (nI L.length)) (cpF pu (160 * (255 * mp p9 + k)) u L.length) := by
    intro o q hq hc hl
    have e1 : upd pc (255 * mp p9 + k) (nI L.length) q = pc q := by simp [upd, hq]
    cases o with
    | none => show upd pc _ _ q = -1; rw [e1]; exact hc
    | some M => exact ⟨by rw [e1]; exact hc.1, fun j hj => by have := hl M rfl; rw [cpF_out (by omega)]; exact hc.2 j hj⟩
  refine ⟨fun i hi => ?_, x2⟩
  obtain ⟨b1, b2, b3, b4, b5, b6, b7⟩ := x1 i hi
  obtain ⟨-, -, -, n4, -, -, -, n8⟩ := hd i hi
  by_cases q : i = p9
  · subst q
    rw [gU_s, gU_s, va_up_self]
    refine ⟨b1, by rw [a1]; exact b2, by rw [a2]; exact b3, by rw [a3]; exact b4, by rw [a4, b5], fun _ => a5.symm, fun k' hk' => ?_⟩
    rw [a3] at hk'
    rw [a6]
    by_cases e9 : k' = k
    · rw [e9, va_up_self]
      exact ⟨by simp [upd], fun j hj => by rw [cpF_in hj]; exact hu j hj⟩
    · rw [va_up_ne _ _ e9]
      exact hpc _ _ (by omega) (b7 k' hk') (fun M hM => n8 k' hk' M hM)
  · rw [gU_n q, gU_n q, va_up_ne _ _ q]
    have hne : mp i ≠ mp p9 := fun z => q (x2 i p9 hi hp9 z)
    exact ⟨b1, b2, b3, b4, b5, fun _ => b6 (by omega), fun k' hk' => hpc _ _ (by omega) (b7 k' hk') (fun M hM => n8 k' hk' M hM)⟩
/-- how many of the first i are below v -/
def cLt (f : Nat → Nat) (v : Nat) : Nat → Nat
  | 0 => 0
  | i + 1 => cLt f v i + if f i < v then 1 else 0
theorem cLt_le (f : Nat → Nat) (v : Nat) : ∀ c, cLt f v c ≤ c
  | 0 => Nat.le_refl 0
  | c + 1 => by have := cLt_le f v c; unfold cLt; split <;> omega
theorem cLt_mono (f : Nat → Nat) (v : Nat) : ∀ c, cLt f v c ≤ cLt f (v + 1) c
  | 0 => Nat.le_refl 0
  | c + 1 => by
    have := cLt_mono f v c
    show cLt f v c + (if f c < v then 1 else 0) ≤ cLt f (v + 1) c + (if f c < v + 1 then 1 else 0)
    by_cases h : f c < v
    · rw [if_pos h, if_pos (by omega)]; omega
    · rw [if_neg h]; omega
theorem cLt_s {f : Nat → Nat} {v : Nat} : ∀ c, (∃ i, i < c ∧ f i = v) → cLt f v c + 1 ≤ cLt f (v + 1) c
  | 0, ⟨i, hi, _⟩ => absurd hi (Nat.not_lt_zero i)
  | c + 1, ⟨i, hi, e⟩ => by
    show cLt f v c + (if f c < v then 1 else 0) + 1 ≤ cLt f (v + 1) c + (if f c < v + 1 then 1 else 0)
    by_cases q : i = c
    · subst q
      have := cLt_mono f v i
      rw [if_neg (by omega), if_pos (by omega)]; omega
    · have := cLt_s c ⟨i, by omega, e⟩
      by_cases h : f c < v
      · rw [if_pos h, if_pos (by omega)]; omega
      · rw [if_neg h]; omega
theorem cLt_all {f : Nat → Nat} {c : Nat} : ∀ p, (∀ v, v < p → ∃ i, i < c ∧ f i = v) → p ≤ cLt f p c
  | 0, _ => Nat.zero_le _
  | p + 1, h => by
    have h1 := cLt_all p (fun v hv => h v (by omega))
    have h2 := cLt_s c (h p (by omega))
    omega
theorem free_le {f : Nat → Nat} {c p : Nat} (h : ∀ v, v < p → ∃ i, i < c ∧ f i = v) : p ≤ c := Nat.le_trans (cLt_all p h) (cLt_le f p c)
theorem free_ok {f : Nat → Nat} {c p : Nat} (h : ∀ v, v < p → ∃ i, i < c ∧ f i = v) (hp : c ≤ p ∨ ∀ i, i < c → f i ≠ p) : ∀ i, i < c → f i ≠ p := by
  rcases hp with hp | hp
  · intro i hi e
    have := free_le (p := p + 1) (f := f) (c := c) (fun v hv => by
      by_cases q : v = p
      · exact ⟨i, hi, by rw [e, q]⟩
      · exact h v (by omega))
    omega
  · exact hp
/-- the arrays after the oldest heap has gone, where there were 16 -/
def evM (c c1 : Nat) (mp sd rc pr th sm mp1 sd1 rc1 pr1 th1 sm1 : Nat → Nat) : Prop :=
  (c = 16 ∧ c1 = 15 ∧ mp1 = gU (shN mp (luR sm 15 1 0) 15) 15 (mp (luR sm 15 1 0)) ∧ sd1 = shN sd (luR sm 15 1 0) 15 ∧ rc1 = shN rc (luR sm 15 1 0) 15 ∧ pr1 = shN pr (luR sm 15 1 0) 15 ∧ th1 = shN th (luR sm 15 1 0) 15 ∧ sm1 = shN sm (luR sm 15 1 0) 15) ∨
  (c ≠ 16 ∧ c1 = c ∧ mp1 = mp ∧ sd1 = sd ∧ rc1 = rc ∧ pr1 = pr ∧ th1 = th ∧ sm1 = sm)
theorem luR_cong {f g : Nat → Nat} {c : Nat} (h : ∀ i, i < c → f i = g i) : ∀ (m i o : Nat), o < c → i + m ≤ c → luR f m i o = luR g m i o
  | 0, _, _, _, _ => rfl
  | m + 1, i, o, ho, hi => by
    show luR f m (i + 1) (if f i < f o then i else o) = luR g m (i + 1) (if g i < g o then i else o)
    rw [h i (by omega), h o ho]
    exact luR_cong h m (i + 1) _ (by split <;> omega) (by omega)
theorem HR.ev {c c1 : Nat} {D : Nat → hDt} {mp sd rc pr th sm mp1 sd1 rc1 pr1 th1 sm1 : Nat → Nat} {pc : Nat → Int32} {pu : Nat → Nat} (x : HR c D mp sd rc pr th sm pc pu c) (v : evM c c1 mp sd rc pr th sm mp1 sd1 rc1 pr1 th1 sm1) : c1 = (evc c D).1 ∧ HR c1 (evc c D).2 mp1 sd1 rc1 pr1 th1 sm1 pc pu c1 := by
  rcases v with ⟨e, e1, a1, a2, a3, a4, a5, a6⟩ | ⟨e, e1, a1, a2, a3, a4, a5, a6⟩
  · subst e e1 a1 a2 a3 a4 a5 a6
    have hs : ∀ i, i < 16 → sm i = d_l (D i) := fun i hi => (x.1 i hi).2.2.2.2.2.1 (by omega)
    have hl : luR sm 15 1 0 = luR (fun i => d_l (D i)) 15 1 0 := luR_cong hs 15 1 0 (by decide) (by decide)
    have hlt : luR sm 15 1 0 < 16 := luR_lt _ _ _ (by decide) (by decide)
    have h9 := x.gone (Nat.le_refl 16) hlt
    show 15 = (if 16 = 16 then (15, shf D (luR (fun i => d_l (D i)) 15 1 0)) else (16, D)).1 ∧ HR 15 (if 16 = 16 then (15, shf D (luR (fun i => d_l (D i)) 15 1 0)) else (16, D)).2 _ _ _ _ _ _ _ _ _
    rw [if_pos rfl, ← hl]
    exact ⟨rfl, h9⟩
  · subst e1 a1 a2 a3 a4 a5 a6
    show c1 = (if c1 = 16 then (15, shf D (luR (fun i => d_l (D i)) 15 1 0)) else (c1, D)).1 ∧ HR c1 (if c1 = 16 then (15, shf D (luR (fun i => d_l (D i)) 15 1 0)) else (c1, D)).2 _ _ _ _ _ _ _ _ _
    rw [if_neg e]
    exact ⟨rfl, x⟩
def pcN (pc : Nat → Int32) (pl k : Nat) : Nat → Int32 := fun x => if 255 * pl ≤ x ∧ x < 255 * pl + k then -1 else pc x
theorem pcN_0 (pc : Nat → Int32) (pl : Nat) : pcN pc pl 0 = pc := by funext x; unfold pcN; rw [if_neg (by omega)]
theorem pcN_s (pc : Nat → Int32) (pl k : Nat) : upd (pcN pc pl k) (255 * pl + k) (-1) = pcN pc pl (k + 1) := by
  funext x
  by_cases e : x = 255 * pl + k
  · subst e; simp [upd, pcN]
  · have e1 : upd (pcN pc pl k) (255 * pl + k) (-1) x = pcN pc pl k x := by simp [upd, e]
    rw [e1]; unfold pcN
    by_cases h : 255 * pl ≤ x ∧ x < 255 * pl + k
    · rw [if_pos h, if_pos (by omega)]
    · rw [if_neg h, if_neg (by omega)]
theorem gone_mp {mp : Nat → Nat} {o : Nat} (ho : o < 16) (h : ∀ i, i < 16 → mp i < 16) : ∀ i, i < 15 → gU (shN mp o 15) 15 (mp o) i < 16 := by
  intro i hi
  rw [gU_n (by omega)]
  unfold shN
  split
  · exact h i (by omega)
  · first | exact h (i + 1) (by omega) | (split; exact h (i + 1) (by omega); exact h i (by omega))
def plR (c1 : Nat) (mp1 : Nat → Nat) (i pl p2 : Nat) : Prop := (p2 = pl ∧ ∀ q, q < i → mp1 q ≠ pl) ∨ (pl < p2 ∧ ∃ q, q < c1 ∧ mp1 q = pl)
theorem pl_0 {c1 pl : Nat} {mp1 : Nat → Nat} : plR c1 mp1 0 pl pl := Or.inl ⟨rfl, fun q hq => absurd hq (Nat.not_lt_zero q)⟩
theorem pl_out {c1 k pl p2 : Nat} {mp1 : Nat → Nat} (h : k ≤ pl ∨ ∀ i, i < c1 → mp1 i ≠ pl) (hp : plR c1 mp1 c1 pl p2) : k + 1 ≤ p2 ∨ ∀ i, i < c1 → mp1 i ≠ p2 := by
  rcases hp with ⟨e, z⟩ | ⟨e, q, q1, q2⟩
  · rw [e]; exact Or.inr z
  · rcases h with h | h
    · exact Or.inl (by omega)
    · exact absurd q2 (h q q1)
theorem pl_hit {c1 i pl p2 : Nat} {mp1 : Nat → Nat} (hi : i < c1) (e : mp1 i = p2) (hp : plR c1 mp1 i pl p2) : plR c1 mp1 (i + 1) pl (p2 + 1) := by
  rcases hp with ⟨a, z⟩ | ⟨a, q, q1, q2⟩
  · exact Or.inr ⟨by omega, i, hi, by rw [e, a]⟩
  · exact Or.inr ⟨by omega, q, q1, q2⟩
theorem pl_miss {c1 i pl p2 : Nat} {mp1 : Nat → Nat} (e : ¬ mp1 i = p2) (hp : plR c1 mp1 i pl p2) : plR c1 mp1 (i + 1) pl p2 := by
  rcases hp with ⟨a, z⟩ | q
  · refine Or.inl ⟨a, fun q hq => ?_⟩
    by_cases e9 : q = i
    · rw [e9, ← a]; exact e
    · exact z q (by omega)
  · exact Or.inr q
theorem le_hit {c1 i p2 : Nat} {mp1 : Nat → Nat} (hi : i < c1) (e : mp1 i = p2) (h : ∀ v, v < p2 → ∃ i, i < c1 ∧ mp1 i = v) : ∀ v, v < p2 + 1 → ∃ i, i < c1 ∧ mp1 i = v := fun v hv => by
  by_cases q : v = p2
  · exact ⟨i, hi, by rw [e, q]⟩
  · exact h v (by omega)

set_option maxHeartbeats 4000000 in
set_option maxRecDepth 100000 in
theorem c_m_gone (l : Launch) (G : ah_G) (h : ah_H) (y : Nat) (A : Nat → Nat) (k0 n rf pm zh lc c pt gv un : Nat) (fy : h y = some (20, .inr (8, mF A k0 n rf pm zh lc c pt gv un))) (mp : Nat → Nat) (fa14 : h (A 14) = some (34, .inl (G.2.2.1 0, 16, .inl (nA mp)))) (sd : Nat → Nat) (fa15 : h (A 15) = some (35, .inl (G.2.2.1 0, 16, .inl (nA sd)))) (rc : Nat → Nat) (fa16 : h (A 16) = some (36, .inl (G.2.2.1 0, 16, .inl (nA rc)))) (pr : Nat → Nat) (fa17 : h (A 17) = some (37, .inl (G.2.2.1 0, 16, .inl (nA pr)))) (th : Nat → Nat) (fa18 : h (A 18) = some (38, .inl (G.2.2.1 0, 16, .inl (nA th)))) (sm : Nat → Nat) (fa19 : h (A 19) = some (39, .inl (G.2.2.1 0, 16, .inl (nA sm)))) (hc : c ≤ 16) (k : Nat) (hk : k < c) : Met l yX9_gone wsX9_gone ({ frames := 0, cells := 0, slots := 0, locals := 0 }) (ah_Pc G [.ref y, .int (nI k)] h) (ah_Qv G (fun h' => h' y = some (20, .inr (8, mF A k0 n rf pm zh lc (c - 1) pt gv un)) ∧ h' (A 14) = some (34, .inl (G.2.2.1 0, 16, .inl (nA (gU (shN mp k (c - 1)) (c - 1) (mp k))))) ∧ h' (A 15) = some (35, .inl (G.2.2.1 0, 16, .inl (nA (shN sd k (c - 1))))) ∧ h' (A 16) = some (36, .inl (G.2.2.1 0, 16, .inl (nA (shN rc k (c - 1))))) ∧ h' (A 17) = some (37, .inl (G.2.2.1 0, 16, .inl (nA (shN pr k (c - 1))))) ∧ h' (A 18) = some (38, .inl (G.2.2.1 0, 16, .inl (nA (shN th k (c - 1))))) ∧ h' (A 19) = some (39, .inl (G.2.2.1 0, 16, .inl (nA (shN sm k (c - 1))))) ∧ agr (fun t => t ≠ 20 ∧ ¬ (34 ≤ t ∧ t ≤ 39)) h h')) 0 0 (ah_A G) := by
  refine ah_ofW (cc := cX9_gone) (maxL := 4) (ret := none) (by decide) rfl (Nat.le_of_ble_eq_true rfl) ?_
  intro p e s m below meth cd9 ls hx hb hr hml hown hlocks hname hts hE hR hS hl
  have hown : s.vm.findClass RX9 = some m.cls := hown
  have hl : lv_has ls 4 [(0, .ref y), (1, .int (nI k))] := hl
  have k33 := hts (.fieldLink RX9 33 "TextPartsModel" "heapPlace" "[I") (by decide +kernel)
  have hinX9 : ∀ w ∈ wsX90, w ∈ wsX9_gone := by decide +kernel
  have k107 := hts (.fieldLink RX9 107 "TextPartsModel" "heaps" "I") (by decide +kernel)
  have k36 := hts (.fieldLink RX9 36 "TextPartsModel" "heapSender" "[I") (by decide +kernel)
  have k39 := hts (.fieldLink RX9 39 "TextPartsModel" "heapReference" "[I") (by decide +kernel)
  have k42 := hts (.fieldLink RX9 42 "TextPartsModel" "heapParts" "[I") (by decide +kernel)
  have k45 := hts (.fieldLink RX9 45 "TextPartsModel" "heapThere" "[I") (by decide +kernel)
  have k48 := hts (.fieldLink RX9 48 "TextPartsModel" "heapStamp" "[I") (by decide +kernel)
  refine lv_aload_n hx hb dX9_gone_0 rfl (lv_at hl 0 rfl) ?_
  refine ah_get (ci := 8) (v := .ref (A 14)) (C := RX9) (T := TX9) (N := 27) hx hb hE hR hts hinX9 hown fy rfl 14 (by decide) k33 (fun _ h9 => h9) rfl dX9_gone_1 ?_
  refine lv_iload_n hx hb dX9_gone_4 rfl (lv_at hl 1 rfl) ?_
  refine ah_iald (i := k) hx hb hE hR fa14 (by omega) (by omega) dX9_gone_5 ?_
  refine ah_toi (v := nI (mp k)) rfl ?_
  refine lv_istore_n (lv' := [(2, .int (nI (mp k))), (0, .ref y), (1, .int (nI k))]) hx hb dX9_gone_6 rfl hl (by decide) rfl (fun ls hl => ?_)
  refine lv_iload_n hx hb dX9_gone_7 rfl (lv_at hl 2 rfl) ?_
  refine lv_istore_n (lv' := [(3, .int (nI k)), (2, .int (nI (mp k))), (0, .ref y), (1, .int (nI k))]) hx hb dX9_gone_8 rfl hl (by decide) rfl (fun ls hl => ?_)
  have f014 : h (A 14) = some (34, .inl (G.2.2.1 0, 16, .inl (nA (shN mp k k)))) := by rw [shN_0]; exact fa14
  have f015 : h (A 15) = some (35, .inl (G.2.2.1 0, 16, .inl (nA (shN sd k k)))) := by rw [shN_0]; exact fa15
  have f016 : h (A 16) = some (36, .inl (G.2.2.1 0, 16, .inl (nA (shN rc k k)))) := by rw [shN_0]; exact fa16
  have f017 : h (A 17) = some (37, .inl (G.2.2.1 0, 16, .inl (nA (shN pr k k)))) := by rw [shN_0]; exact fa17
  have f018 : h (A 18) = some (38, .inl (G.2.2.1 0, 16, .inl (nA (shN th k k)))) := by rw [shN_0]; exact fa18
  have f019 : h (A 19) = some (39, .inl (G.2.2.1 0, 16, .inl (nA (shN sm k k)))) := by rw [shN_0]; exact fa19
  have L9 : ∀ (N9 : Nat) (i : Nat) (h1 : ah_H) (H : Heap) (locs : List Loc) (ls : Array Slot), c - i < N9 → (k ≤ i) → (i < c) → (agr (fun t => t ≠ 20 ∧ ¬ (34 ≤ t ∧ t ≤ 39)) h h1) → (h1 y = some (20, .inr (8, mF A k0 n rf pm zh lc c pt gv un))) → (h1 (A 14) = some (34, .inl (G.2.2.1 0, 16, .inl (nA (shN mp k i))))) → (h1 (A 15) = some (35, .inl (G.2.2.1 0, 16, .inl (nA (shN sd k i))))) → (h1 (A 16) = some (36, .inl (G.2.2.1 0, 16, .inl (nA (shN rc k i))))) → (h1 (A 17) = some (37, .inl (G.2.2.1 0, 16, .inl (nA (shN pr k i))))) → (h1 (A 18) = some (38, .inl (G.2.2.1 0, 16, .inl (nA (shN th k i))))) → (h1 (A 19) = some (39, .inl (G.2.2.1 0, 16, .inl (nA (shN sm k i))))) → ah_R G h1 H → va_S (ah_A G) s.heap H locs → lv_has ls 4 [(3, .int (nI i)), (2, .int (nI (mp k))), (0, .ref y), (1, .int (nI k))] → W p l e ({ frames := 0, cells := 0, slots := 0, locals := 0 }) s m ([.ref y, .int (nI k)] : List Value).toArray below meth cd9 H locs 0 0 (MQ below (ah_Qv G (fun h' => h' y = some (20, .inr (8, mF A k0 n rf pm zh lc (c - 1) pt gv un)) ∧ h' (A 14) = some (34, .inl (G.2.2.1 0, 16, .inl (nA (gU (shN mp k (c - 1)) (c - 1) (mp k))))) ∧ h' (A 15) = some (35, .inl (G.2.2.1 0, 16, .inl (nA (shN sd k (c - 1))))) ∧ h' (A 16) = some (36, .inl (G.2.2.1 0, 16, .inl (nA (shN rc k (c - 1))))) ∧ h' (A 17) = some (37, .inl (G.2.2.1 0, 16, .inl (nA (shN pr k (c - 1))))) ∧ h' (A 18) = some (38, .inl (G.2.2.1 0, 16, .inl (nA (shN th k (c - 1))))) ∧ h' (A 19) = some (39, .inl (G.2.2.1 0, 16, .inl (nA (shN sm k (c - 1))))) ∧ agr (fun t => t ≠ 20 ∧ ¬ (34 ≤ t ∧ t ≤ 39)) h h')) ([.ref y, .int (nI k)] : List Value).toArray s 0 0 (ah_A G)) (F0 m 9 ls []) := by
    intro N9
    induction N9 with
    | zero => intro i h1 H locs ls hN; exact absurd hN (Nat.not_lt_zero _)
    | succ N9 ih9 =>
      intro i h1 H locs ls hN9 hi hi2 ag1 fy1 fa141 fa151 fa161 fa171 fa181 fa191 hR hS hl
      refine lv_iload_n hx hb dX9_gone_9 rfl (lv_at hl 0 rfl) ?_
      refine lv_iconst (v := nI 1) hx hb dX9_gone_10 (by decide) ?_
      refine lv_iadd hx hb dX9_gone_11 ?_
      refine ah_toi (v := nI (i + 1)) (nI_add _ _) ?_
      refine lv_aload_n hx hb dX9_gone_12 rfl (lv_at hl 2 rfl) ?_
      refine ah_get (ci := 8) (v := .int (nI c)) (C := RX9) (T := TX9) (N := 27) hx hb hE hR hts hinX9 hown fy1 rfl 13 (by decide) k107 (fun _ h9 => h9) rfl dX9_gone_13 ?_
      refine lv_icmp_ge (tgt := 109) hx hb dX9_gone_16 (by decide) (fun c_1 => ?_) (fun c_1 => ?_)
      · skip
        have c_1 : c ≤ (i + 1) := (nI_leI (by omega) (by omega)).mp c_1
        refine lv_aload_n hx hb dX9_gone_109 rfl (lv_at hl 2 rfl) ?_
        refine lv_dup hx hb dX9_gone_110 rfl ?_
        refine ah_get (ci := 8) (v := .int (nI c)) (C := RX9) (T := TX9) (N := 27) hx hb hE hR hts hinX9 hown fy1 rfl 13 (by decide) k107 (fun _ h9 => h9) rfl dX9_gone_111 ?_
        refine lv_iconst (v := nI 1) hx hb dX9_gone_114 (by decide) ?_
        refine lv_isub hx hb dX9_gone_115 ?_
        refine ah_toi (v := nI (c - 1)) (pk_sub (by omega)) ?_
        refine ah_put (ci := 8) (v := .int (nI (c - 1))) (ty := .int) (C := RX9) (T := TX9) (N := 27) hx hb hE hR hS hts hinX9 tyX9 tyX9_ok nmX9 hown fy1 rfl 13 (by decide) k107 (fun _ h9 => h9) rfl (by decide +kernel) rfl rfl (Nat.le_of_ble_eq_true rfl) dX9_gone_116 (fun H locs hR hS => ?_)
        obtain ⟨h_2, e_3⟩ : ∃ zz9, zz9 = ah_up h1 y (20, .inr (8, mF A k0 n rf pm zh lc (c - 1) pt gv un)) := ⟨_, rfl⟩
        have hR : ah_R G h_2 H := by rw [e_3]; exact hR
        have f_4 : h_2 y = some (20, .inr (8, mF A k0 n rf pm zh lc (c - 1) pt gv un)) := by rw [e_3]; exact ah_up_s _ _ _
        have f_5 : h_2 (A 14) = some (34, .inl (G.2.2.1 0, 16, .inl (nA (shN mp k i)))) := by rw [e_3]; exact ah_keep fa141 fy1 (by omega)
        have f_6 : h_2 (A 15) = some (35, .inl (G.2.2.1 0, 16, .inl (nA (shN sd k i)))) := by rw [e_3]; exact ah_keep fa151 fy1 (by omega)
        have f_7 : h_2 (A 16) = some (36, .inl (G.2.2.1 0, 16, .inl (nA (shN rc k i)))) := by rw [e_3]; exact ah_keep fa161 fy1 (by omega)
        have f_8 : h_2 (A 17) = some (37, .inl (G.2.2.1 0, 16, .inl (nA (shN pr k i)))) := by rw [e_3]; exact ah_keep fa171 fy1 (by omega)
        have f_9 : h_2 (A 18) = some (38, .inl (G.2.2.1 0, 16, .inl (nA (shN th k i)))) := by rw [e_3]; exact ah_keep fa181 fy1 (by omega)
        have f_10 : h_2 (A 19) = some (39, .inl (G.2.2.1 0, 16, .inl (nA (shN sm k i)))) := by rw [e_3]; exact ah_keep fa191 fy1 (by omega)
        refine lv_aload_n hx hb dX9_gone_119 rfl (lv_at hl 2 rfl) ?_
        refine ah_get (ci := 8) (v := .ref (A 14)) (C := RX9) (T := TX9) (N := 27) hx hb hE hR hts hinX9 hown f_4 rfl 14 (by decide) k33 (fun _ h9 => h9) rfl dX9_gone_120 ?_
        refine lv_aload_n hx hb dX9_gone_123 rfl (lv_at hl 2 rfl) ?_
        refine ah_get (ci := 8) (v := .int (nI (c - 1))) (C := RX9) (T := TX9) (N := 27) hx hb hE hR hts hinX9 hown f_4 rfl 13 (by decide) k107 (fun _ h9 => h9) rfl dX9_gone_124 ?_
        refine lv_iload_n hx hb dX9_gone_127 rfl (lv_at hl 1 rfl) ?_
        refine ah_iast (i := (c - 1)) hx hb hE hR hS f_5 (by omega) (by omega) dX9_gone_128 (fun H locs hR hS => ?_)
        rw [nA_upd] at hR
        obtain ⟨h_11, e_12⟩ : ∃ zz9, zz9 = ah_up h_2 (A 14) (34, .inl (G.2.2.1 0, 16, .inl (nA (gU (shN mp k i) (c - 1) (mp k))))) := ⟨_, rfl⟩
        have hR : ah_R G h_11 H := by rw [e_12]; exact hR
        have f_13 : h_11 y = some (20, .inr (8, mF A k0 n rf pm zh lc (c - 1) pt gv un)) := by rw [e_12]; exact ah_keep f_4 f_5 (by omega)
        have f_14 : h_11 (A 14) = some (34, .inl (G.2.2.1 0, 16, .inl (nA (gU (shN mp k i) (c - 1) (mp k))))) := by rw [e_12]; exact ah_up_s _ _ _
        have f_15 : h_11 (A 15) = some (35, .inl (G.2.2.1 0, 16, .inl (nA (shN sd k i)))) := by rw [e_12]; exact ah_keep f_6 f_5 (by omega)
        have f_16 : h_11 (A 16) = some (36, .inl (G.2.2.1 0, 16, .inl (nA (shN rc k i)))) := by rw [e_12]; exact ah_keep f_7 f_5 (by omega)
        have f_17 : h_11 (A 17) = some (37, .inl (G.2.2.1 0, 16, .inl (nA (shN pr k i)))) := by rw [e_12]; exact ah_keep f_8 f_5 (by omega)
        have f_18 : h_11 (A 18) = some (38, .inl (G.2.2.1 0, 16, .inl (nA (shN th k i)))) := by rw [e_12]; exact ah_keep f_9 f_5 (by omega)
        have f_19 : h_11 (A 19) = some (39, .inl (G.2.2.1 0, 16, .inl (nA (shN sm k i)))) := by rw [e_12]; exact ah_keep f_10 f_5 (by omega)
        refine ah_vret hx hb hr hlocks hR hS dX9_gone_129 ?_
        have ei : i = c - 1 := by omega
        subst ei
        exact ⟨f_13, f_14, f_15, f_16, f_17, f_18, f_19, ag1.tr (by rw [e_12]; refine agr.up ?_ f_5 (by omega); rw [e_3]; refine agr.up ?_ fy1 (by omega); exact agr.rf)⟩
      · skip
        have c_1 : ¬ (c ≤ (i + 1)) := fun z9 => c_1 ((nI_leI (by omega) (by omega)).mpr z9)
        refine lv_aload_n hx hb dX9_gone_19 rfl (lv_at hl 2 rfl) ?_
        refine ah_get (ci := 8) (v := .ref (A 14)) (C := RX9) (T := TX9) (N := 27) hx hb hE hR hts hinX9 hown fy1 rfl 14 (by decide) k33 (fun _ h9 => h9) rfl dX9_gone_20 ?_
        refine lv_iload_n hx hb dX9_gone_23 rfl (lv_at hl 0 rfl) ?_
        refine lv_aload_n hx hb dX9_gone_24 rfl (lv_at hl 2 rfl) ?_
        refine ah_get (ci := 8) (v := .ref (A 14)) (C := RX9) (T := TX9) (N := 27) hx hb hE hR hts hinX9 hown fy1 rfl 14 (by decide) k33 (fun _ h9 => h9) rfl dX9_gone_25 ?_
        refine lv_iload_n hx hb dX9_gone_28 rfl (lv_at hl 0 rfl) ?_
        refine lv_iconst (v := nI 1) hx hb dX9_gone_29 (by decide) ?_
        refine lv_iadd hx hb dX9_gone_30 ?_
        refine ah_toi (v := nI (i + 1)) (nI_add _ _) ?_
        refine ah_iald (i := (i + 1)) hx hb hE hR fa141 (by omega) (by omega) dX9_gone_31 ?_
        refine ah_toi (v := nI ((shN mp k i) (i + 1))) rfl ?_
        refine ah_iast (i := i) hx hb hE hR hS fa141 (by omega) (by omega) dX9_gone_32 (fun H locs hR hS => ?_)
        rw [nA_upd] at hR
        obtain ⟨h_20, e_21⟩ : ∃ zz9, zz9 = ah_up h1 (A 14) (34, .inl (G.2.2.1 0, 16, .inl (nA (gU (shN mp k i) i ((shN mp k i) (i + 1)))))) := ⟨_, rfl⟩
        have hR : ah_R G h_20 H := by rw [e_21]; exact hR
        have f_22 : h_20 y = some (20, .inr (8, mF A k0 n rf pm zh lc c pt gv un)) := by rw [e_21]; exact ah_keep fy1 fa141 (by omega)
        have f_23 : h_20 (A 14) = some (34, .inl (G.2.2.1 0, 16, .inl (nA (gU (shN mp k i) i ((shN mp k i) (i + 1)))))) := by rw [e_21]; exact ah_up_s _ _ _
        have f_24 : h_20 (A 15) = some (35, .inl (G.2.2.1 0, 16, .inl (nA (shN sd k i)))) := by rw [e_21]; exact ah_keep fa151 fa141 (by omega)
        have f_25 : h_20 (A 16) = some (36, .inl (G.2.2.1 0, 16, .inl (nA (shN rc k i)))) := by rw [e_21]; exact ah_keep fa161 fa141 (by omega)
        have f_26 : h_20 (A 17) = some (37, .inl (G.2.2.1 0, 16, .inl (nA (shN pr k i)))) := by rw [e_21]; exact ah_keep fa171 fa141 (by omega)
        have f_27 : h_20 (A 18) = some (38, .inl (G.2.2.1 0, 16, .inl (nA (shN th k i)))) := by rw [e_21]; exact ah_keep fa181 fa141 (by omega)
        have f_28 : h_20 (A 19) = some (39, .inl (G.2.2.1 0, 16, .inl (nA (shN sm k i)))) := by rw [e_21]; exact ah_keep fa191 fa141 (by omega)
        refine lv_aload_n hx hb dX9_gone_33 rfl (lv_at hl 2 rfl) ?_
        refine ah_get (ci := 8) (v := .ref (A 15)) (C := RX9) (T := TX9) (N := 27) hx hb hE hR hts hinX9 hown f_22 rfl 15 (by decide) k36 (fun _ h9 => h9) rfl dX9_gone_34 ?_
        refine lv_iload_n hx hb dX9_gone_37 rfl (lv_at hl 0 rfl) ?_
        refine lv_aload_n hx hb dX9_gone_38 rfl (lv_at hl 2 rfl) ?_
        refine ah_get (ci := 8) (v := .ref (A 15)) (C := RX9) (T := TX9) (N := 27) hx hb hE hR hts hinX9 hown f_22 rfl 15 (by decide) k36 (fun _ h9 => h9) rfl dX9_gone_39 ?_
        refine lv_iload_n hx hb dX9_gone_42 rfl (lv_at hl 0 rfl) ?_
        refine lv_iconst (v := nI 1) hx hb dX9_gone_43 (by decide) ?_
        refine lv_iadd hx hb dX9_gone_44 ?_
        refine ah_toi (v := nI (i + 1)) (nI_add _ _) ?_
        refine ah_iald (i := (i + 1)) hx hb hE hR f_24 (by omega) (by omega) dX9_gone_45 ?_
        refine ah_toi (v := nI ((shN sd k i) (i + 1))) rfl ?_
        refine ah_iast (i := i) hx hb hE hR hS f_24 (by omega) (by omega) dX9_gone_46 (fun H locs hR hS => ?_)
        rw [nA_upd] at hR
        obtain ⟨h_29, e_30⟩ : ∃ zz9, zz9 = ah_up h_20 (A 15) (35, .inl (G.2.2.1 0, 16, .inl (nA (gU (shN sd k i) i ((shN sd k i) (i + 1)))))) := ⟨_, rfl⟩
        have hR : ah_R G h_29 H := by rw [e_30]; exact hR
        have f_31 : h_29 y = some (20, .inr (8, mF A k0 n rf pm zh lc c pt gv un)) := by rw [e_30]; exact ah_keep f_22 f_24 (by omega)
        have f_32 : h_29 (A 14) = some (34, .inl (G.2.2.1 0, 16, .inl (nA (gU (shN mp k i) i ((shN mp k i) (i + 1)))))) := by rw [e_30]; exact ah_keep f_23 f_24 (by omega)
        have f_33 : h_29 (A 15) = some (35, .inl (G.2.2.1 0, 16, .inl (nA (gU (shN sd k i) i ((shN sd k i) (i + 1)))))) := by rw [e_30]; exact ah_up_s _ _ _
        have f_34 : h_29 (A 16) = some (36, .inl (G.2.2.1 0, 16, .inl (nA (shN rc k i)))) := by rw [e_30]; exact ah_keep f_25 f_24 (by omega)
        have f_35 : h_29 (A 17) = some (37, .inl (G.2.2.1 0, 16, .inl (nA (shN pr k i)))) := by rw [e_30]; exact ah_keep f_26 f_24 (by omega)
        have f_36 : h_29 (A 18) = some (38, .inl (G.2.2.1 0, 16, .inl (nA (shN th k i)))) := by rw [e_30]; exact ah_keep f_27 f_24 (by omega)
        have f_37 : h_29 (A 19) = some (39, .inl (G.2.2.1 0, 16, .inl (nA (shN sm k i)))) := by rw [e_30]; exact ah_keep f_28 f_24 (by omega)
        refine lv_aload_n hx hb dX9_gone_47 rfl (lv_at hl 2 rfl) ?_
        refine ah_get (ci := 8) (v := .ref (A 16)) (C := RX9) (T := TX9) (N := 27) hx hb hE hR hts hinX9 hown f_31 rfl 16 (by decide) k39 (fun _ h9 => h9) rfl dX9_gone_48 ?_
        refine lv_iload_n hx hb dX9_gone_51 rfl (lv_at hl 0 rfl) ?_
        refine lv_aload_n hx hb dX9_gone_52 rfl (lv_at hl 2 rfl) ?_
        refine ah_get (ci := 8) (v := .ref (A 16)) (C := RX9) (T := TX9) (N := 27) hx hb hE hR hts hinX9 hown f_31 rfl 16 (by decide) k39 (fun _ h9 => h9) rfl dX9_gone_53 ?_
        refine lv_iload_n hx hb dX9_gone_56 rfl (lv_at hl 0 rfl) ?_
        refine lv_iconst (v := nI 1) hx hb dX9_gone_57 (by decide) ?_
        refine lv_iadd hx hb dX9_gone_58 ?_
        refine ah_toi (v := nI (i + 1)) (nI_add _ _) ?_
        refine ah_iald (i := (i + 1)) hx hb hE hR f_34 (by omega) (by omega) dX9_gone_59 ?_
        refine ah_toi (v := nI ((shN rc k i) (i + 1))) rfl ?_
        refine ah_iast (i := i) hx hb hE hR hS f_34 (by omega) (by omega) dX9_gone_60 (fun H locs hR hS => ?_)
        rw [nA_upd] at hR
        obtain ⟨h_38, e_39⟩ : ∃ zz9, zz9 = ah_up h_29 (A 16) (36, .inl (G.2.2.1 0, 16, .inl (nA (gU (shN rc k i) i ((shN rc k i) (i + 1)))))) := ⟨_, rfl⟩
        have hR : ah_R G h_38 H := by rw [e_39]; exact hR
        have f_40 : h_38 y = some (20, .inr (8, mF A k0 n rf pm zh lc c pt gv un)) := by rw [e_39]; exact ah_keep f_31 f_34 (by omega)
        have f_41 : h_38 (A 14) = some (34, .inl (G.2.2.1 0, 16, .inl (nA (gU (shN mp k i) i ((shN mp k i) (i + 1)))))) := by rw [e_39]; exact ah_keep f_32 f_34 (by omega)
        have f_42 : h_38 (A 15) = some (35, .inl (G.2.2.1 0, 16, .inl (nA (gU (shN sd k i) i ((shN sd k i) (i + 1)))))) := by rw [e_39]; exact ah_keep f_33 f_34 (by omega)
        have f_43 : h_38 (A 16) = some (36, .inl (G.2.2.1 0, 16, .inl (nA (gU (shN rc k i) i ((shN rc k i) (i + 1)))))) := by rw [e_39]; exact ah_up_s _ _ _
        have f_44 : h_38 (A 17) = some (37, .inl (G.2.2.1 0, 16, .inl (nA (shN pr k i)))) := by rw [e_39]; exact ah_keep f_35 f_34 (by omega)
        have f_45 : h_38 (A 18) = some (38, .inl (G.2.2.1 0, 16, .inl (nA (shN th k i)))) := by rw [e_39]; exact ah_keep f_36 f_34 (by omega)
        have f_46 : h_38 (A 19) = some (39, .inl (G.2.2.1 0, 16, .inl (nA (shN sm k i)))) := by rw [e_39]; exact ah_keep f_37 f_34 (by omega)
        refine lv_aload_n hx hb dX9_gone_61 rfl (lv_at hl 2 rfl) ?_
        refine ah_get (ci := 8) (v := .ref (A 17)) (C := RX9) (T := TX9) (N := 27) hx hb hE hR hts hinX9 hown f_40 rfl 17 (by decide) k42 (fun _ h9 => h9) rfl dX9_gone_62 ?_
        refine lv_iload_n hx hb dX9_gone_65 rfl (lv_at hl 0 rfl) ?_
        refine lv_aload_n hx hb dX9_gone_66 rfl (lv_at hl 2 rfl) ?_
        refine ah_get (ci := 8) (v := .ref (A 17)) (C := RX9) (T := TX9) (N := 27) hx hb hE hR hts hinX9 hown f_40 rfl 17 (by decide) k42 (fun _ h9 => h9) rfl dX9_gone_67 ?_
        refine lv_iload_n hx hb dX9_gone_70 rfl (lv_at hl 0 rfl) ?_
        refine lv_iconst (v := nI 1) hx hb dX9_gone_71 (by decide) ?_
        refine lv_iadd hx hb dX9_gone_72 ?_
        refine ah_toi (v := nI (i + 1)) (nI_add _ _) ?_
        refine ah_iald (i := (i + 1)) hx hb hE hR f_44 (by omega) (by omega) dX9_gone_73 ?_
        refine ah_toi (v := nI ((shN pr k i) (i + 1))) rfl ?_
        refine ah_iast (i := i) hx hb hE hR hS f_44 (by omega) (by omega) dX9_gone_74 (fun H locs hR hS => ?_)
        rw [nA_upd] at hR
        obtain ⟨h_47, e_48⟩ : ∃ zz9, zz9 = ah_up h_38 (A 17) (37, .inl (G.2.2.1 0, 16, .inl (nA (gU (shN pr k i) i ((shN pr k i) (i + 1)))))) := ⟨_, rfl⟩
        have hR : ah_R G h_47 H := by rw [e_48]; exact hR
        have f_49 : h_47 y = some (20, .inr (8, mF A k0 n rf pm zh lc c pt gv un)) := by rw [e_48]; exact ah_keep f_40 f_44 (by omega)
        have f_50 : h_47 (A 14) = some (34, .inl (G.2.2.1 0, 16, .inl (nA (gU (shN mp k i) i ((shN mp k i) (i + 1)))))) := by rw [e_48]; exact ah_keep f_41 f_44 (by omega)
        have f_51 : h_47 (A 15) = some (35, .inl (G.2.2.1 0, 16, .inl (nA (gU (shN sd k i) i ((shN sd k i) (i + 1)))))) := by rw [e_48]; exact ah_keep f_42 f_44 (by omega)
        have f_52 : h_47 (A 16) = some (36, .inl (G.2.2.1 0, 16, .inl (nA (gU (shN rc k i) i ((shN rc k i) (i + 1)))))) := by rw [e_48]; exact ah_keep f_43 f_44 (by omega)
        have f_53 : h_47 (A 17) = some (37, .inl (G.2.2.1 0, 16, .inl (nA (gU (shN pr k i) i ((shN pr k i) (i + 1)))))) := by rw [e_48]; exact ah_up_s _ _ _
        have f_54 : h_47 (A 18) = some (38, .inl (G.2.2.1 0, 16, .inl (nA (shN th k i)))) := by rw [e_48]; exact ah_keep f_45 f_44 (by omega)
        have f_55 : h_47 (A 19) = some (39, .inl (G.2.2.1 0, 16, .inl (nA (shN sm k i)))) := by rw [e_48]; exact ah_keep f_46 f_44 (by omega)
        refine lv_aload_n hx hb dX9_gone_75 rfl (lv_at hl 2 rfl) ?_
        refine ah_get (ci := 8) (v := .ref (A 18)) (C := RX9) (T := TX9) (N := 27) hx hb hE hR hts hinX9 hown f_49 rfl 18 (by decide) k45 (fun _ h9 => h9) rfl dX9_gone_76 ?_
        refine lv_iload_n hx hb dX9_gone_79 rfl (lv_at hl 0 rfl) ?_
        refine lv_aload_n hx hb dX9_gone_80 rfl (lv_at hl 2 rfl) ?_
        refine ah_get (ci := 8) (v := .ref (A 18)) (C := RX9) (T := TX9) (N := 27) hx hb hE hR hts hinX9 hown f_49 rfl 18 (by decide) k45 (fun _ h9 => h9) rfl dX9_gone_81 ?_
        refine lv_iload_n hx hb dX9_gone_84 rfl (lv_at hl 0 rfl) ?_
        refine lv_iconst (v := nI 1) hx hb dX9_gone_85 (by decide) ?_
        refine lv_iadd hx hb dX9_gone_86 ?_
        refine ah_toi (v := nI (i + 1)) (nI_add _ _) ?_
        refine ah_iald (i := (i + 1)) hx hb hE hR f_54 (by omega) (by omega) dX9_gone_87 ?_
        refine ah_toi (v := nI ((shN th k i) (i + 1))) rfl ?_
        refine ah_iast (i := i) hx hb hE hR hS f_54 (by omega) (by omega) dX9_gone_88 (fun H locs hR hS => ?_)
        rw [nA_upd] at hR
        obtain ⟨h_56, e_57⟩ : ∃ zz9, zz9 = ah_up h_47 (A 18) (38, .inl (G.2.2.1 0, 16, .inl (nA (gU (shN th k i) i ((shN th k i) (i + 1)))))) := ⟨_, rfl⟩
        have hR : ah_R G h_56 H := by rw [e_57]; exact hR
        have f_58 : h_56 y = some (20, .inr (8, mF A k0 n rf pm zh lc c pt gv un)) := by rw [e_57]; exact ah_keep f_49 f_54 (by omega)
        have f_59 : h_56 (A 14) = some (34, .inl (G.2.2.1 0, 16, .inl (nA (gU (shN mp k i) i ((shN mp k i) (i + 1)))))) := by rw [e_57]; exact ah_keep f_50 f_54 (by omega)
        have f_60 : h_56 (A 15) = some (35, .inl (G.2.2.1 0, 16, .inl (nA (gU (shN sd k i) i ((shN sd k i) (i + 1)))))) := by rw [e_57]; exact ah_keep f_51 f_54 (by omega)
        have f_61 : h_56 (A 16) = some (36, .inl (G.2.2.1 0, 16, .inl (nA (gU (shN rc k i) i ((shN rc k i) (i + 1)))))) := by rw [e_57]; exact ah_keep f_52 f_54 (by omega)
        have f_62 : h_56 (A 17) = some (37, .inl (G.2.2.1 0, 16, .inl (nA (gU (shN pr k i) i ((shN pr k i) (i + 1)))))) := by rw [e_57]; exact ah_keep f_53 f_54 (by omega)
        have f_63 : h_56 (A 18) = some (38, .inl (G.2.2.1 0, 16, .inl (nA (gU (shN th k i) i ((shN th k i) (i + 1)))))) := by rw [e_57]; exact ah_up_s _ _ _
        have f_64 : h_56 (A 19) = some (39, .inl (G.2.2.1 0, 16, .inl (nA (shN sm k i)))) := by rw [e_57]; exact ah_keep f_55 f_54 (by omega)
        refine lv_aload_n hx hb dX9_gone_89 rfl (lv_at hl 2 rfl) ?_
        refine ah_get (ci := 8) (v := .ref (A 19)) (C := RX9) (T := TX9) (N := 27) hx hb hE hR hts hinX9 hown f_58 rfl 19 (by decide) k48 (fun _ h9 => h9) rfl dX9_gone_90 ?_
        refine lv_iload_n hx hb dX9_gone_93 rfl (lv_at hl 0 rfl) ?_
        refine lv_aload_n hx hb dX9_gone_94 rfl (lv_at hl 2 rfl) ?_
        refine ah_get (ci := 8) (v := .ref (A 19)) (C := RX9) (T := TX9) (N := 27) hx hb hE hR hts hinX9 hown f_58 rfl 19 (by decide) k48 (fun _ h9 => h9) rfl dX9_gone_95 ?_
        refine lv_iload_n hx hb dX9_gone_98 rfl (lv_at hl 0 rfl) ?_
        refine lv_iconst (v := nI 1) hx hb dX9_gone_99 (by decide) ?_
        refine lv_iadd hx hb dX9_gone_100 ?_
        refine ah_toi (v := nI (i + 1)) (nI_add _ _) ?_
        refine ah_iald (i := (i + 1)) hx hb hE hR f_64 (by omega) (by omega) dX9_gone_101 ?_
        refine ah_toi (v := nI ((shN sm k i) (i + 1))) rfl ?_
        refine ah_iast (i := i) hx hb hE hR hS f_64 (by omega) (by omega) dX9_gone_102 (fun H locs hR hS => ?_)
        rw [nA_upd] at hR
        obtain ⟨h_65, e_66⟩ : ∃ zz9, zz9 = ah_up h_56 (A 19) (39, .inl (G.2.2.1 0, 16, .inl (nA (gU (shN sm k i) i ((shN sm k i) (i + 1)))))) := ⟨_, rfl⟩
        have hR : ah_R G h_65 H := by rw [e_66]; exact hR
        have f_67 : h_65 y = some (20, .inr (8, mF A k0 n rf pm zh lc c pt gv un)) := by rw [e_66]; exact ah_keep f_58 f_64 (by omega)
        have f_68 : h_65 (A 14) = some (34, .inl (G.2.2.1 0, 16, .inl (nA (gU (shN mp k i) i ((shN mp k i) (i + 1)))))) := by rw [e_66]; exact ah_keep f_59 f_64 (by omega)
        have f_69 : h_65 (A 15) = some (35, .inl (G.2.2.1 0, 16, .inl (nA (gU (shN sd k i) i ((shN sd k i) (i + 1)))))) := by rw [e_66]; exact ah_keep f_60 f_64 (by omega)
        have f_70 : h_65 (A 16) = some (36, .inl (G.2.2.1 0, 16, .inl (nA (gU (shN rc k i) i ((shN rc k i) (i + 1)))))) := by rw [e_66]; exact ah_keep f_61 f_64 (by omega)
        have f_71 : h_65 (A 17) = some (37, .inl (G.2.2.1 0, 16, .inl (nA (gU (shN pr k i) i ((shN pr k i) (i + 1)))))) := by rw [e_66]; exact ah_keep f_62 f_64 (by omega)
        have f_72 : h_65 (A 18) = some (38, .inl (G.2.2.1 0, 16, .inl (nA (gU (shN th k i) i ((shN th k i) (i + 1)))))) := by rw [e_66]; exact ah_keep f_63 f_64 (by omega)
        have f_73 : h_65 (A 19) = some (39, .inl (G.2.2.1 0, 16, .inl (nA (gU (shN sm k i) i ((shN sm k i) (i + 1)))))) := by rw [e_66]; exact ah_up_s _ _ _
        have f_74 : h_65 (A 14) = some (34, .inl (G.2.2.1 0, 16, .inl (nA (shN mp k (i + 1))))) := by rw [← shN_s hi]; exact f_68
        have f_75 : h_65 (A 15) = some (35, .inl (G.2.2.1 0, 16, .inl (nA (shN sd k (i + 1))))) := by rw [← shN_s hi]; exact f_69
        have f_76 : h_65 (A 16) = some (36, .inl (G.2.2.1 0, 16, .inl (nA (shN rc k (i + 1))))) := by rw [← shN_s hi]; exact f_70
        have f_77 : h_65 (A 17) = some (37, .inl (G.2.2.1 0, 16, .inl (nA (shN pr k (i + 1))))) := by rw [← shN_s hi]; exact f_71
        have f_78 : h_65 (A 18) = some (38, .inl (G.2.2.1 0, 16, .inl (nA (shN th k (i + 1))))) := by rw [← shN_s hi]; exact f_72
        have f_79 : h_65 (A 19) = some (39, .inl (G.2.2.1 0, 16, .inl (nA (shN sm k (i + 1))))) := by rw [← shN_s hi]; exact f_73
        refine lv_iinc (v := nI (i + 1)) (lv' := [(3, .int (nI (i + 1))), (2, .int (nI (mp k))), (0, .ref y), (1, .int (nI k))]) hx hb dX9_gone_103 hl (k := 0) rfl (show nI i + Int32.ofInt 1 = nI (i + 1) from nI_add _ 1) (by decide) rfl (fun ls hl => ?_)
        refine lv_goto (tgt := 9) hx hb dX9_gone_106 (by decide) ?_
        exact ih9  (i + 1) h_65 _ _ ls (by omega) (by omega) (by omega) (ag1.tr (by rw [e_66]; refine agr.up ?_ f_64 (by omega); rw [e_57]; refine agr.up ?_ f_54 (by omega); rw [e_48]; refine agr.up ?_ f_44 (by omega); rw [e_39]; refine agr.up ?_ f_34 (by omega); rw [e_30]; refine agr.up ?_ f_24 (by omega); rw [e_21]; refine agr.up ?_ fa141 (by omega); exact agr.rf)) f_67 f_74 f_75 f_76 f_77 f_78 f_79 hR hS (lv_sub hl [0, 1, 2, 3] rfl)
  exact L9 ((c - k) + 1) k h _ _ ls (by omega) (by omega) (by omega) agr.rf fy f014 f015 f016 f017 f018 f019 hR hS (lv_sub hl [0, 1, 2, 3] rfl)

set_option maxHeartbeats 4000000 in
set_option maxRecDepth 100000 in
theorem c_m_begin (l : Launch) (G : ah_G) (h : ah_H) (y : Nat) (A : Nat → Nat) (k0 n rf pm zh lc c pt gv un : Nat) (fy : h y = some (20, .inr (8, mF A k0 n rf pm zh lc c pt gv un))) (mp : Nat → Nat) (fa14 : h (A 14) = some (34, .inl (G.2.2.1 0, 16, .inl (nA mp)))) (sd : Nat → Nat) (fa15 : h (A 15) = some (35, .inl (G.2.2.1 0, 16, .inl (nA sd)))) (rc : Nat → Nat) (fa16 : h (A 16) = some (36, .inl (G.2.2.1 0, 16, .inl (nA rc)))) (pr : Nat → Nat) (fa17 : h (A 17) = some (37, .inl (G.2.2.1 0, 16, .inl (nA pr)))) (th : Nat → Nat) (fa18 : h (A 18) = some (38, .inl (G.2.2.1 0, 16, .inl (nA th)))) (sm : Nat → Nat) (fa19 : h (A 19) = some (39, .inl (G.2.2.1 0, 16, .inl (nA sm)))) (pc : Nat → Int32) (fa21 : h (A 21) = some (41, .inl (G.2.2.1 0, 4080, .inl pc))) (hc : c ≤ 16) (s9 r9 p9 : Nat) (hsm : ∀ i, i < c → sm i < 2 ^ 20) (hmp : ∀ i, i < c → mp i < 16) : Met l yX9_begin wsX9_begin ({ frames := 1, cells := 0, slots := 0, locals := 23 }) (ah_Pc G [.ref y, .int (nI s9), .int (nI r9), .int (nI p9)] h) (ah_Qi G (fun v h' => ∃ (c1 pl : Nat) (mp1 sd1 rc1 pr1 th1 sm1 : Nat → Nat), v = nI c1 ∧ c1 ≤ 15 ∧ evM c c1 mp sd rc pr th sm mp1 sd1 rc1 pr1 th1 sm1 ∧ pl < 16 ∧ (∀ i, i < c1 → mp1 i ≠ pl) ∧ h' y = some (20, .inr (8, mF A k0 n rf pm zh lc (c1 + 1) pt gv un)) ∧ h' (A 14) = some (34, .inl (G.2.2.1 0, 16, .inl (nA (gU mp1 c1 pl)))) ∧ h' (A 15) = some (35, .inl (G.2.2.1 0, 16, .inl (nA (gU sd1 c1 s9)))) ∧ h' (A 16) = some (36, .inl (G.2.2.1 0, 16, .inl (nA (gU rc1 c1 r9)))) ∧ h' (A 17) = some (37, .inl (G.2.2.1 0, 16, .inl (nA (gU pr1 c1 p9)))) ∧ h' (A 18) = some (38, .inl (G.2.2.1 0, 16, .inl (nA (gU th1 c1 0)))) ∧ h' (A 19) = some (39, .inl (G.2.2.1 0, 16, .inl (nA sm1))) ∧ h' (A 21) = some (41, .inl (G.2.2.1 0, 4080, .inl (pcN pc pl 255))) ∧ agr (fun t => t ≠ 20 ∧ ¬ (34 ≤ t ∧ t ≤ 39) ∧ t ≠ 41) h h')) 0 0 (ah_A G) := by
  refine ah_ofW (cc := cX9_begin) (maxL := 7) (ret := (some .int)) (by decide) rfl (Nat.le_of_ble_eq_true rfl) ?_
  intro p e s m below meth cd9 ls hx hb hr hml hown hlocks hname hts hE hR hS hl
  have hown : s.vm.findClass RX9 = some m.cls := hown
  have hl : lv_has ls 7 [(0, .ref y), (1, .int (nI s9)), (2, .int (nI r9)), (3, .int (nI p9))] := hl
  have k107 := hts (.fieldLink RX9 107 "TextPartsModel" "heaps" "I") (by decide +kernel)
  have hinX9 : ∀ w ∈ wsX90, w ∈ wsX9_begin := by decide +kernel
  have k33 := hts (.fieldLink RX9 33 "TextPartsModel" "heapPlace" "[I") (by decide +kernel)
  have k36 := hts (.fieldLink RX9 36 "TextPartsModel" "heapSender" "[I") (by decide +kernel)
  have k39 := hts (.fieldLink RX9 39 "TextPartsModel" "heapReference" "[I") (by decide +kernel)
  have k42 := hts (.fieldLink RX9 42 "TextPartsModel" "heapParts" "[I") (by decide +kernel)
  have k45 := hts (.fieldLink RX9 45 "TextPartsModel" "heapThere" "[I") (by decide +kernel)
  have k51 := hts (.fieldLink RX9 51 "TextPartsModel" "partCount" "[I") (by decide +kernel)
  have k48 := hts (.fieldLink RX9 48 "TextPartsModel" "heapStamp" "[I") (by decide +kernel)
  have J60 : ∀ (c1 : Nat) (mp1 : Nat → Nat) (sd1 : Nat → Nat) (rc1 : Nat → Nat) (pr1 : Nat → Nat) (th1 : Nat → Nat) (sm1 : Nat → Nat) (h1 : ah_H) (H : Heap) (locs : List Loc) (ls : Array Slot), (c1 ≤ 15) → (evM c c1 mp sd rc pr th sm mp1 sd1 rc1 pr1 th1 sm1) → (∀ i, i < c1 → mp1 i < 16) → (agr (fun t => t ≠ 20 ∧ ¬ (34 ≤ t ∧ t ≤ 39) ∧ t ≠ 41) h h1) → (h1 y = some (20, .inr (8, mF A k0 n rf pm zh lc c1 pt gv un))) → (h1 (A 14) = some (34, .inl (G.2.2.1 0, 16, .inl (nA mp1)))) → (h1 (A 15) = some (35, .inl (G.2.2.1 0, 16, .inl (nA sd1)))) → (h1 (A 16) = some (36, .inl (G.2.2.1 0, 16, .inl (nA rc1)))) → (h1 (A 17) = some (37, .inl (G.2.2.1 0, 16, .inl (nA pr1)))) → (h1 (A 18) = some (38, .inl (G.2.2.1 0, 16, .inl (nA th1)))) → (h1 (A 19) = some (39, .inl (G.2.2.1 0, 16, .inl (nA sm1)))) → (h1 (A 21) = some (41, .inl (G.2.2.1 0, 4080, .inl pc))) → ah_R G h1 H → va_S (ah_A G) s.heap H locs → lv_has ls 7 [(0, .ref y), (1, .int (nI s9)), (2, .int (nI r9)), (3, .int (nI p9))] → W p l e ({ frames := 1, cells := 0, slots := 0, locals := 23 }) s m ([.ref y, .int (nI s9), .int (nI r9), .int (nI p9)] : List Value).toArray below meth cd9 H locs 0 0 (MQ below (ah_Qi G (fun v h' => ∃ (c1 pl : Nat) (mp1 sd1 rc1 pr1 th1 sm1 : Nat → Nat), v = nI c1 ∧ c1 ≤ 15 ∧ evM c c1 mp sd rc pr th sm mp1 sd1 rc1 pr1 th1 sm1 ∧ pl < 16 ∧ (∀ i, i < c1 → mp1 i ≠ pl) ∧ h' y = some (20, .inr (8, mF A k0 n rf pm zh lc (c1 + 1) pt gv un)) ∧ h' (A 14) = some (34, .inl (G.2.2.1 0, 16, .inl (nA (gU mp1 c1 pl)))) ∧ h' (A 15) = some (35, .inl (G.2.2.1 0, 16, .inl (nA (gU sd1 c1 s9)))) ∧ h' (A 16) = some (36, .inl (G.2.2.1 0, 16, .inl (nA (gU rc1 c1 r9)))) ∧ h' (A 17) = some (37, .inl (G.2.2.1 0, 16, .inl (nA (gU pr1 c1 p9)))) ∧ h' (A 18) = some (38, .inl (G.2.2.1 0, 16, .inl (nA (gU th1 c1 0)))) ∧ h' (A 19) = some (39, .inl (G.2.2.1 0, 16, .inl (nA sm1))) ∧ h' (A 21) = some (41, .inl (G.2.2.1 0, 4080, .inl (pcN pc pl 255))) ∧ agr (fun t => t ≠ 20 ∧ ¬ (34 ≤ t ∧ t ≤ 39) ∧ t ≠ 41) h h')) ([.ref y, .int (nI s9), .int (nI r9), .int (nI p9)] : List Value).toArray s 0 0 (ah_A G)) (F0 m 60 ls []) := by
    intro c1 mp1 sd1 rc1 pr1 th1 sm1 h1 H locs ls hc1 ev1 hm1 ag1 fy1 fa141 fa151 fa161 fa171 fa181 fa191 fa211 hR hS hl
    refine lv_iconst (v := nI 0) hx hb dX9_begin_60 (by decide) ?_
    refine lv_istore (lv' := [(4, .int (nI 0)), (0, .ref y), (1, .int (nI s9)), (2, .int (nI r9)), (3, .int (nI p9))]) hx hb dX9_begin_61 hl (by decide) rfl (fun ls hl => ?_)
    refine lv_iconst (v := nI 0) hx hb dX9_begin_63 (by decide) ?_
    refine lv_istore (lv' := [(5, .int (nI 0)), (4, .int (nI 0)), (0, .ref y), (1, .int (nI s9)), (2, .int (nI r9)), (3, .int (nI p9))]) hx hb dX9_begin_64 hl (by decide) rfl (fun ls hl => ?_)
    have L66 : ∀ (N66 : Nat) (k : Nat) (pl : Nat) (H : Heap) (locs : List Loc) (ls : Array Slot), c1 - k < N66 → (k ≤ c1) → (∀ v, v < pl → ∃ i, i < c1 ∧ mp1 i = v) → (k ≤ pl ∨ ∀ i, i < c1 → mp1 i ≠ pl) → (h1 y = some (20, .inr (8, mF A k0 n rf pm zh lc c1 pt gv un))) → (h1 (A 14) = some (34, .inl (G.2.2.1 0, 16, .inl (nA mp1)))) → (h1 (A 15) = some (35, .inl (G.2.2.1 0, 16, .inl (nA sd1)))) → (h1 (A 16) = some (36, .inl (G.2.2.1 0, 16, .inl (nA rc1)))) → (h1 (A 17) = some (37, .inl (G.2.2.1 0, 16, .inl (nA pr1)))) → (h1 (A 18) = some (38, .inl (G.2.2.1 0, 16, .inl (nA th1)))) → (h1 (A 19) = some (39, .inl (G.2.2.1 0, 16, .inl (nA sm1)))) → (h1 (A 21) = some (41, .inl (G.2.2.1 0, 4080, .inl pc))) → ah_R G h1 H → va_S (ah_A G) s.heap H locs → lv_has ls 7 [(5, .int (nI k)), (4, .int (nI pl)), (0, .ref y), (1, .int (nI s9)), (2, .int (nI r9)), (3, .int (nI p9))] → W p l e ({ frames := 1, cells := 0, slots := 0, locals := 23 }) s m ([.ref y, .int (nI s9), .int (nI r9), .int (nI p9)] : List Value).toArray below meth cd9 H locs 0 0 (MQ below (ah_Qi G (fun v h' => ∃ (c1 pl : Nat) (mp1 sd1 rc1 pr1 th1 sm1 : Nat → Nat), v = nI c1 ∧ c1 ≤ 15 ∧ evM c c1 mp sd rc pr th sm mp1 sd1 rc1 pr1 th1 sm1 ∧ pl < 16 ∧ (∀ i, i < c1 → mp1 i ≠ pl) ∧ h' y = some (20, .inr (8, mF A k0 n rf pm zh lc (c1 + 1) pt gv un)) ∧ h' (A 14) = some (34, .inl (G.2.2.1 0, 16, .inl (nA (gU mp1 c1 pl)))) ∧ h' (A 15) = some (35, .inl (G.2.2.1 0, 16, .inl (nA (gU sd1 c1 s9)))) ∧ h' (A 16) = some (36, .inl (G.2.2.1 0, 16, .inl (nA (gU rc1 c1 r9)))) ∧ h' (A 17) = some (37, .inl (G.2.2.1 0, 16, .inl (nA (gU pr1 c1 p9)))) ∧ h' (A 18) = some (38, .inl (G.2.2.1 0, 16, .inl (nA (gU th1 c1 0)))) ∧ h' (A 19) = some (39, .inl (G.2.2.1 0, 16, .inl (nA sm1))) ∧ h' (A 21) = some (41, .inl (G.2.2.1 0, 4080, .inl (pcN pc pl 255))) ∧ agr (fun t => t ≠ 20 ∧ ¬ (34 ≤ t ∧ t ≤ 39) ∧ t ≠ 41) h h')) ([.ref y, .int (nI s9), .int (nI r9), .int (nI p9)] : List Value).toArray s 0 0 (ah_A G)) (F0 m 66 ls []) := by
      intro N66
      induction N66 with
      | zero => intro k pl  H locs ls hN; exact absurd hN (Nat.not_lt_zero _)
      | succ N66 ih66 =>
        intro k pl  H locs ls hN66 hk hle hpg fy1 fa141 fa151 fa161 fa171 fa181 fa191 fa211 hR hS hl
        refine lv_iload hx hb dX9_begin_66 (lv_at hl 0 rfl) ?_
        refine lv_aload_n hx hb dX9_begin_68 rfl (lv_at hl 2 rfl) ?_
        refine ah_get (ci := 8) (v := .int (nI c1)) (C := RX9) (T := TX9) (N := 27) hx hb hE hR hts hinX9 hown fy1 rfl 13 (by decide) k107 (fun _ h9 => h9) rfl dX9_begin_69 ?_
        refine lv_icmp_ge (tgt := 121) hx hb dX9_begin_72 (by decide) (fun c_1 => ?_) (fun c_1 => ?_)
        · skip
          have c_1 : c1 ≤ k := (nI_leI (by omega) (by omega)).mp c_1
          have hfl := free_le hle
          have hfo := free_ok hle (by rcases hpg with z | z; exact Or.inl (by omega); exact Or.inr z)
          refine lv_aload_n hx hb dX9_begin_121 rfl (lv_at hl 2 rfl) ?_
          refine ah_get (ci := 8) (v := .int (nI c1)) (C := RX9) (T := TX9) (N := 27) hx hb hE hR hts hinX9 hown fy1 rfl 13 (by decide) k107 (fun _ h9 => h9) rfl dX9_begin_122 ?_
          refine lv_istore (lv' := [(5, .int (nI c1)), (4, .int (nI pl)), (0, .ref y), (1, .int (nI s9)), (2, .int (nI r9)), (3, .int (nI p9))]) hx hb dX9_begin_125 hl (by decide) rfl (fun ls hl => ?_)
          refine lv_aload_n hx hb dX9_begin_127 rfl (lv_at hl 2 rfl) ?_
          refine lv_dup hx hb dX9_begin_128 rfl ?_
          refine ah_get (ci := 8) (v := .int (nI c1)) (C := RX9) (T := TX9) (N := 27) hx hb hE hR hts hinX9 hown fy1 rfl 13 (by decide) k107 (fun _ h9 => h9) rfl dX9_begin_129 ?_
          refine lv_iconst (v := nI 1) hx hb dX9_begin_132 (by decide) ?_
          refine lv_iadd hx hb dX9_begin_133 ?_
          refine ah_toi (v := nI (c1 + 1)) (nI_add _ _) ?_
          refine ah_put (ci := 8) (v := .int (nI (c1 + 1))) (ty := .int) (C := RX9) (T := TX9) (N := 27) hx hb hE hR hS hts hinX9 tyX9 tyX9_ok nmX9 hown fy1 rfl 13 (by decide) k107 (fun _ h9 => h9) rfl (by decide +kernel) rfl rfl (Nat.le_of_ble_eq_true rfl) dX9_begin_134 (fun H locs hR hS => ?_)
          obtain ⟨h_2, e_3⟩ : ∃ zz9, zz9 = ah_up h1 y (20, .inr (8, mF A k0 n rf pm zh lc (c1 + 1) pt gv un)) := ⟨_, rfl⟩
          have hR : ah_R G h_2 H := by rw [e_3]; exact hR
          have f_4 : h_2 y = some (20, .inr (8, mF A k0 n rf pm zh lc (c1 + 1) pt gv un)) := by rw [e_3]; exact ah_up_s _ _ _
          have f_5 : h_2 (A 14) = some (34, .inl (G.2.2.1 0, 16, .inl (nA mp1))) := by rw [e_3]; exact ah_keep fa141 fy1 (by omega)
          have f_6 : h_2 (A 15) = some (35, .inl (G.2.2.1 0, 16, .inl (nA sd1))) := by rw [e_3]; exact ah_keep fa151 fy1 (by omega)
          have f_7 : h_2 (A 16) = some (36, .inl (G.2.2.1 0, 16, .inl (nA rc1))) := by rw [e_3]; exact ah_keep fa161 fy1 (by omega)
          have f_8 : h_2 (A 17) = some (37, .inl (G.2.2.1 0, 16, .inl (nA pr1))) := by rw [e_3]; exact ah_keep fa171 fy1 (by omega)
          have f_9 : h_2 (A 18) = some (38, .inl (G.2.2.1 0, 16, .inl (nA th1))) := by rw [e_3]; exact ah_keep fa181 fy1 (by omega)
          have f_10 : h_2 (A 19) = some (39, .inl (G.2.2.1 0, 16, .inl (nA sm1))) := by rw [e_3]; exact ah_keep fa191 fy1 (by omega)
          have f_11 : h_2 (A 21) = some (41, .inl (G.2.2.1 0, 4080, .inl pc)) := by rw [e_3]; exact ah_keep fa211 fy1 (by omega)
          refine lv_aload_n hx hb dX9_begin_137 rfl (lv_at hl 2 rfl) ?_
          refine ah_get (ci := 8) (v := .ref (A 14)) (C := RX9) (T := TX9) (N := 27) hx hb hE hR hts hinX9 hown f_4 rfl 14 (by decide) k33 (fun _ h9 => h9) rfl dX9_begin_138 ?_
          refine lv_iload hx hb dX9_begin_141 (lv_at hl 0 rfl) ?_
          refine lv_iload hx hb dX9_begin_143 (lv_at hl 1 rfl) ?_
          refine ah_iast (i := c1) hx hb hE hR hS f_5 (by omega) (by omega) dX9_begin_145 (fun H locs hR hS => ?_)
          rw [nA_upd] at hR
          obtain ⟨h_12, e_13⟩ : ∃ zz9, zz9 = ah_up h_2 (A 14) (34, .inl (G.2.2.1 0, 16, .inl (nA (gU mp1 c1 pl)))) := ⟨_, rfl⟩
          have hR : ah_R G h_12 H := by rw [e_13]; exact hR
          have f_14 : h_12 y = some (20, .inr (8, mF A k0 n rf pm zh lc (c1 + 1) pt gv un)) := by rw [e_13]; exact ah_keep f_4 f_5 (by omega)
          have f_15 : h_12 (A 14) = some (34, .inl (G.2.2.1 0, 16, .inl (nA (gU mp1 c1 pl)))) := by rw [e_13]; exact ah_up_s _ _ _
          have f_16 : h_12 (A 15) = some (35, .inl (G.2.2.1 0, 16, .inl (nA sd1))) := by rw [e_13]; exact ah_keep f_6 f_5 (by omega)
          have f_17 : h_12 (A 16) = some (36, .inl (G.2.2.1 0, 16, .inl (nA rc1))) := by rw [e_13]; exact ah_keep f_7 f_5 (by omega)
          have f_18 : h_12 (A 17) = some (37, .inl (G.2.2.1 0, 16, .inl (nA pr1))) := by rw [e_13]; exact ah_keep f_8 f_5 (by omega)
          have f_19 : h_12 (A 18) = some (38, .inl (G.2.2.1 0, 16, .inl (nA th1))) := by rw [e_13]; exact ah_keep f_9 f_5 (by omega)
          have f_20 : h_12 (A 19) = some (39, .inl (G.2.2.1 0, 16, .inl (nA sm1))) := by rw [e_13]; exact ah_keep f_10 f_5 (by omega)
          have f_21 : h_12 (A 21) = some (41, .inl (G.2.2.1 0, 4080, .inl pc)) := by rw [e_13]; exact ah_keep f_11 f_5 (by omega)
          refine lv_aload_n hx hb dX9_begin_146 rfl (lv_at hl 2 rfl) ?_
          refine ah_get (ci := 8) (v := .ref (A 15)) (C := RX9) (T := TX9) (N := 27) hx hb hE hR hts hinX9 hown f_14 rfl 15 (by decide) k36 (fun _ h9 => h9) rfl dX9_begin_147 ?_
          refine lv_iload hx hb dX9_begin_150 (lv_at hl 0 rfl) ?_
          refine lv_iload_n hx hb dX9_begin_152 rfl (lv_at hl 3 rfl) ?_
          refine ah_iast (i := c1) hx hb hE hR hS f_16 (by omega) (by omega) dX9_begin_153 (fun H locs hR hS => ?_)
          rw [nA_upd] at hR
          obtain ⟨h_22, e_23⟩ : ∃ zz9, zz9 = ah_up h_12 (A 15) (35, .inl (G.2.2.1 0, 16, .inl (nA (gU sd1 c1 s9)))) := ⟨_, rfl⟩
          have hR : ah_R G h_22 H := by rw [e_23]; exact hR
          have f_24 : h_22 y = some (20, .inr (8, mF A k0 n rf pm zh lc (c1 + 1) pt gv un)) := by rw [e_23]; exact ah_keep f_14 f_16 (by omega)
          have f_25 : h_22 (A 14) = some (34, .inl (G.2.2.1 0, 16, .inl (nA (gU mp1 c1 pl)))) := by rw [e_23]; exact ah_keep f_15 f_16 (by omega)
          have f_26 : h_22 (A 15) = some (35, .inl (G.2.2.1 0, 16, .inl (nA (gU sd1 c1 s9)))) := by rw [e_23]; exact ah_up_s _ _ _
          have f_27 : h_22 (A 16) = some (36, .inl (G.2.2.1 0, 16, .inl (nA rc1))) := by rw [e_23]; exact ah_keep f_17 f_16 (by omega)
          have f_28 : h_22 (A 17) = some (37, .inl (G.2.2.1 0, 16, .inl (nA pr1))) := by rw [e_23]; exact ah_keep f_18 f_16 (by omega)
          have f_29 : h_22 (A 18) = some (38, .inl (G.2.2.1 0, 16, .inl (nA th1))) := by rw [e_23]; exact ah_keep f_19 f_16 (by omega)
          have f_30 : h_22 (A 19) = some (39, .inl (G.2.2.1 0, 16, .inl (nA sm1))) := by rw [e_23]; exact ah_keep f_20 f_16 (by omega)
          have f_31 : h_22 (A 21) = some (41, .inl (G.2.2.1 0, 4080, .inl pc)) := by rw [e_23]; exact ah_keep f_21 f_16 (by omega)
          refine lv_aload_n hx hb dX9_begin_154 rfl (lv_at hl 2 rfl) ?_
          refine ah_get (ci := 8) (v := .ref (A 16)) (C := RX9) (T := TX9) (N := 27) hx hb hE hR hts hinX9 hown f_24 rfl 16 (by decide) k39 (fun _ h9 => h9) rfl dX9_begin_155 ?_
          refine lv_iload hx hb dX9_begin_158 (lv_at hl 0 rfl) ?_
          refine lv_iload_n hx hb dX9_begin_160 rfl (lv_at hl 4 rfl) ?_
          refine ah_iast (i := c1) hx hb hE hR hS f_27 (by omega) (by omega) dX9_begin_161 (fun H locs hR hS => ?_)
          rw [nA_upd] at hR
          obtain ⟨h_32, e_33⟩ : ∃ zz9, zz9 = ah_up h_22 (A 16) (36, .inl (G.2.2.1 0, 16, .inl (nA (gU rc1 c1 r9)))) := ⟨_, rfl⟩
          have hR : ah_R G h_32 H := by rw [e_33]; exact hR
          have f_34 : h_32 y = some (20, .inr (8, mF A k0 n rf pm zh lc (c1 + 1) pt gv un)) := by rw [e_33]; exact ah_keep f_24 f_27 (by omega)
          have f_35 : h_32 (A 14) = some (34, .inl (G.2.2.1 0, 16, .inl (nA (gU mp1 c1 pl)))) := by rw [e_33]; exact ah_keep f_25 f_27 (by omega)
          have f_36 : h_32 (A 15) = some (35, .inl (G.2.2.1 0, 16, .inl (nA (gU sd1 c1 s9)))) := by rw [e_33]; exact ah_keep f_26 f_27 (by omega)
          have f_37 : h_32 (A 16) = some (36, .inl (G.2.2.1 0, 16, .inl (nA (gU rc1 c1 r9)))) := by rw [e_33]; exact ah_up_s _ _ _
          have f_38 : h_32 (A 17) = some (37, .inl (G.2.2.1 0, 16, .inl (nA pr1))) := by rw [e_33]; exact ah_keep f_28 f_27 (by omega)
          have f_39 : h_32 (A 18) = some (38, .inl (G.2.2.1 0, 16, .inl (nA th1))) := by rw [e_33]; exact ah_keep f_29 f_27 (by omega)
          have f_40 : h_32 (A 19) = some (39, .inl (G.2.2.1 0, 16, .inl (nA sm1))) := by rw [e_33]; exact ah_keep f_30 f_27 (by omega)
          have f_41 : h_32 (A 21) = some (41, .inl (G.2.2.1 0, 4080, .inl pc)) := by rw [e_33]; exact ah_keep f_31 f_27 (by omega)
          refine lv_aload_n hx hb dX9_begin_162 rfl (lv_at hl 2 rfl) ?_
          refine ah_get (ci := 8) (v := .ref (A 17)) (C := RX9) (T := TX9) (N := 27) hx hb hE hR hts hinX9 hown f_34 rfl 17 (by decide) k42 (fun _ h9 => h9) rfl dX9_begin_163 ?_
          refine lv_iload hx hb dX9_begin_166 (lv_at hl 0 rfl) ?_
          refine lv_iload_n hx hb dX9_begin_168 rfl (lv_at hl 5 rfl) ?_
          refine ah_iast (i := c1) hx hb hE hR hS f_38 (by omega) (by omega) dX9_begin_169 (fun H locs hR hS => ?_)
          rw [nA_upd] at hR
          obtain ⟨h_42, e_43⟩ : ∃ zz9, zz9 = ah_up h_32 (A 17) (37, .inl (G.2.2.1 0, 16, .inl (nA (gU pr1 c1 p9)))) := ⟨_, rfl⟩
          have hR : ah_R G h_42 H := by rw [e_43]; exact hR
          have f_44 : h_42 y = some (20, .inr (8, mF A k0 n rf pm zh lc (c1 + 1) pt gv un)) := by rw [e_43]; exact ah_keep f_34 f_38 (by omega)
          have f_45 : h_42 (A 14) = some (34, .inl (G.2.2.1 0, 16, .inl (nA (gU mp1 c1 pl)))) := by rw [e_43]; exact ah_keep f_35 f_38 (by omega)
          have f_46 : h_42 (A 15) = some (35, .inl (G.2.2.1 0, 16, .inl (nA (gU sd1 c1 s9)))) := by rw [e_43]; exact ah_keep f_36 f_38 (by omega)
          have f_47 : h_42 (A 16) = some (36, .inl (G.2.2.1 0, 16, .inl (nA (gU rc1 c1 r9)))) := by rw [e_43]; exact ah_keep f_37 f_38 (by omega)
          have f_48 : h_42 (A 17) = some (37, .inl (G.2.2.1 0, 16, .inl (nA (gU pr1 c1 p9)))) := by rw [e_43]; exact ah_up_s _ _ _
          have f_49 : h_42 (A 18) = some (38, .inl (G.2.2.1 0, 16, .inl (nA th1))) := by rw [e_43]; exact ah_keep f_39 f_38 (by omega)
          have f_50 : h_42 (A 19) = some (39, .inl (G.2.2.1 0, 16, .inl (nA sm1))) := by rw [e_43]; exact ah_keep f_40 f_38 (by omega)
          have f_51 : h_42 (A 21) = some (41, .inl (G.2.2.1 0, 4080, .inl pc)) := by rw [e_43]; exact ah_keep f_41 f_38 (by omega)
          refine lv_aload_n hx hb dX9_begin_170 rfl (lv_at hl 2 rfl) ?_
          refine ah_get (ci := 8) (v := .ref (A 18)) (C := RX9) (T := TX9) (N := 27) hx hb hE hR hts hinX9 hown f_44 rfl 18 (by decide) k45 (fun _ h9 => h9) rfl dX9_begin_171 ?_
          refine lv_iload hx hb dX9_begin_174 (lv_at hl 0 rfl) ?_
          refine lv_iconst (v := nI 0) hx hb dX9_begin_176 (by decide) ?_
          refine ah_iast (i := c1) hx hb hE hR hS f_49 (by omega) (by omega) dX9_begin_177 (fun H locs hR hS => ?_)
          rw [nA_upd] at hR
          obtain ⟨h_52, e_53⟩ : ∃ zz9, zz9 = ah_up h_42 (A 18) (38, .inl (G.2.2.1 0, 16, .inl (nA (gU th1 c1 0)))) := ⟨_, rfl⟩
          have hR : ah_R G h_52 H := by rw [e_53]; exact hR
          have f_54 : h_52 y = some (20, .inr (8, mF A k0 n rf pm zh lc (c1 + 1) pt gv un)) := by rw [e_53]; exact ah_keep f_44 f_49 (by omega)
          have f_55 : h_52 (A 14) = some (34, .inl (G.2.2.1 0, 16, .inl (nA (gU mp1 c1 pl)))) := by rw [e_53]; exact ah_keep f_45 f_49 (by omega)
          have f_56 : h_52 (A 15) = some (35, .inl (G.2.2.1 0, 16, .inl (nA (gU sd1 c1 s9)))) := by rw [e_53]; exact ah_keep f_46 f_49 (by omega)
          have f_57 : h_52 (A 16) = some (36, .inl (G.2.2.1 0, 16, .inl (nA (gU rc1 c1 r9)))) := by rw [e_53]; exact ah_keep f_47 f_49 (by omega)
          have f_58 : h_52 (A 17) = some (37, .inl (G.2.2.1 0, 16, .inl (nA (gU pr1 c1 p9)))) := by rw [e_53]; exact ah_keep f_48 f_49 (by omega)
          have f_59 : h_52 (A 18) = some (38, .inl (G.2.2.1 0, 16, .inl (nA (gU th1 c1 0)))) := by rw [e_53]; exact ah_up_s _ _ _
          have f_60 : h_52 (A 19) = some (39, .inl (G.2.2.1 0, 16, .inl (nA sm1))) := by rw [e_53]; exact ah_keep f_50 f_49 (by omega)
          have f_61 : h_52 (A 21) = some (41, .inl (G.2.2.1 0, 4080, .inl pc)) := by rw [e_53]; exact ah_keep f_51 f_49 (by omega)
          refine lv_iconst (v := nI 0) hx hb dX9_begin_178 (by decide) ?_
          refine lv_istore (lv' := [(6, .int (nI 0)), (5, .int (nI c1)), (4, .int (nI pl)), (0, .ref y), (1, .int (nI s9)), (2, .int (nI r9)), (3, .int (nI p9))]) hx hb dX9_begin_179 hl (by decide) rfl (fun ls hl => ?_)
          have ag2 : agr (fun t => t ≠ 20 ∧ ¬ (34 ≤ t ∧ t ≤ 39) ∧ t ≠ 41) h1 h_52 := by rw [e_53]; refine agr.up ?_ f_49 (by omega); rw [e_43]; refine agr.up ?_ f_38 (by omega); rw [e_33]; refine agr.up ?_ f_27 (by omega); rw [e_23]; refine agr.up ?_ f_16 (by omega); rw [e_13]; refine agr.up ?_ f_5 (by omega); rw [e_3]; refine agr.up ?_ fy1 (by omega); exact agr.rf
          have p21 : h_52 (A 21) = some (41, .inl (G.2.2.1 0, 4080, .inl (pcN pc pl 0))) := by rw [pcN_0]; exact f_61
          have L181 : ∀ (N181 : Nat) (k2 : Nat) (h3 : ah_H) (H : Heap) (locs : List Loc) (ls : Array Slot), 255 - k2 < N181 → (k2 ≤ 255) → (agr (fun t => t ≠ 20 ∧ ¬ (34 ≤ t ∧ t ≤ 39) ∧ t ≠ 41) h1 h3) → (h3 y = some (20, .inr (8, mF A k0 n rf pm zh lc (c1 + 1) pt gv un))) → (h3 (A 14) = some (34, .inl (G.2.2.1 0, 16, .inl (nA (gU mp1 c1 pl))))) → (h3 (A 15) = some (35, .inl (G.2.2.1 0, 16, .inl (nA (gU sd1 c1 s9))))) → (h3 (A 16) = some (36, .inl (G.2.2.1 0, 16, .inl (nA (gU rc1 c1 r9))))) → (h3 (A 17) = some (37, .inl (G.2.2.1 0, 16, .inl (nA (gU pr1 c1 p9))))) → (h3 (A 18) = some (38, .inl (G.2.2.1 0, 16, .inl (nA (gU th1 c1 0))))) → (h3 (A 19) = some (39, .inl (G.2.2.1 0, 16, .inl (nA sm1)))) → (h3 (A 21) = some (41, .inl (G.2.2.1 0, 4080, .inl (pcN pc pl k2)))) → ah_R G h3 H → va_S (ah_A G) s.heap H locs → lv_has ls 7 [(6, .int (nI k2)), (4, .int (nI pl)), (5, .int (nI c1)), (0, .ref y)] → W p l e ({ frames := 1, cells := 0, slots := 0, locals := 23 }) s m ([.ref y, .int (nI s9), .int (nI r9), .int (nI p9)] : List Value).toArray below meth cd9 H locs 0 0 (MQ below (ah_Qi G (fun v h' => ∃ (c1 pl : Nat) (mp1 sd1 rc1 pr1 th1 sm1 : Nat → Nat), v = nI c1 ∧ c1 ≤ 15 ∧ evM c c1 mp sd rc pr th sm mp1 sd1 rc1 pr1 th1 sm1 ∧ pl < 16 ∧ (∀ i, i < c1 → mp1 i ≠ pl) ∧ h' y = some (20, .inr (8, mF A k0 n rf pm zh lc (c1 + 1) pt gv un)) ∧ h' (A 14) = some (34, .inl (G.2.2.1 0, 16, .inl (nA (gU mp1 c1 pl)))) ∧ h' (A 15) = some (35, .inl (G.2.2.1 0, 16, .inl (nA (gU sd1 c1 s9)))) ∧ h' (A 16) = some (36, .inl (G.2.2.1 0, 16, .inl (nA (gU rc1 c1 r9)))) ∧ h' (A 17) = some (37, .inl (G.2.2.1 0, 16, .inl (nA (gU pr1 c1 p9)))) ∧ h' (A 18) = some (38, .inl (G.2.2.1 0, 16, .inl (nA (gU th1 c1 0)))) ∧ h' (A 19) = some (39, .inl (G.2.2.1 0, 16, .inl (nA sm1))) ∧ h' (A 21) = some (41, .inl (G.2.2.1 0, 4080, .inl (pcN pc pl 255))) ∧ agr (fun t => t ≠ 20 ∧ ¬ (34 ≤ t ∧ t ≤ 39) ∧ t ≠ 41) h h')) ([.ref y, .int (nI s9), .int (nI r9), .int (nI p9)] : List Value).toArray s 0 0 (ah_A G)) (F0 m 181 ls []) := by
            intro N181
            induction N181 with
            | zero => intro k2 h3 H locs ls hN; exact absurd hN (Nat.not_lt_zero _)
            | succ N181 ih181 =>
              intro k2 h3 H locs ls hN181 hk2 ag3 fy3 fa143 fa153 fa163 fa173 fa183 fa193 fa213 hR hS hl
              refine lv_iload hx hb dX9_begin_181 (lv_at hl 0 rfl) ?_
              refine lv_sipush (v := nI 255) hx hb dX9_begin_183 (by decide) ?_
              refine lv_icmp_ge (tgt := 210) hx hb dX9_begin_186 (by decide) (fun c_62 => ?_) (fun c_62 => ?_)
              · skip
                have c_62 : 255 ≤ k2 := (nI_leI (by omega) (by omega)).mp c_62
                refine lv_iload hx hb dX9_begin_210 (lv_at hl 2 rfl) ?_
                refine ah_iret (v := nI c1) hx hb hr hlocks hR hS dX9_begin_212 ?_
                have ek2 : k2 = 255 := by omega
                subst ek2
                exact ⟨c1, pl, mp1, sd1, rc1, pr1, th1, sm1, rfl, hc1, ev1, by omega, hfo, fy3, fa143, fa153, fa163, fa173, fa183, fa193, fa213, ag1.tr ag3⟩
              · skip
                have c_62 : ¬ (255 ≤ k2) := fun z9 => c_62 ((nI_leI (by omega) (by omega)).mpr z9)
                refine lv_aload_n hx hb dX9_begin_189 rfl (lv_at hl 3 rfl) ?_
                refine ah_get (ci := 8) (v := .ref (A 21)) (C := RX9) (T := TX9) (N := 27) hx hb hE hR hts hinX9 hown fy3 rfl 21 (by decide) k51 (fun _ h9 => h9) rfl dX9_begin_190 ?_
                refine lv_sipush (v := nI 255) hx hb dX9_begin_193 (by decide) ?_
                refine lv_iload hx hb dX9_begin_196 (lv_at hl 1 rfl) ?_
                refine lv_imul hx hb dX9_begin_198 ?_
                refine ah_toi (v := nI (255 * pl)) (pk_mul _ _) ?_
                refine lv_iload hx hb dX9_begin_199 (lv_at hl 0 rfl) ?_
                refine lv_iadd hx hb dX9_begin_201 ?_
                refine ah_toi (v := nI ((255 * pl) + k2)) (nI_add _ _) ?_
                refine lv_iconst (v := (-1)) hx hb dX9_begin_202 (by decide) ?_
                refine ah_iast (i := ((255 * pl) + k2)) hx hb hE hR hS fa213 (by omega) (by omega) dX9_begin_203 (fun H locs hR hS => ?_)
                obtain ⟨h_63, e_64⟩ : ∃ zz9, zz9 = ah_up h3 (A 21) (41, .inl (G.2.2.1 0, 4080, .inl (upd (pcN pc pl k2) ((255 * pl) + k2) (-1)))) := ⟨_, rfl⟩
                have hR : ah_R G h_63 H := by rw [e_64]; exact hR
                have f_65 : h_63 y = some (20, .inr (8, mF A k0 n rf pm zh lc (c1 + 1) pt gv un)) := by rw [e_64]; exact ah_keep fy3 fa213 (by omega)
                have f_66 : h_63 (A 14) = some (34, .inl (G.2.2.1 0, 16, .inl (nA (gU mp1 c1 pl)))) := by rw [e_64]; exact ah_keep fa143 fa213 (by omega)
                have f_67 : h_63 (A 15) = some (35, .inl (G.2.2.1 0, 16, .inl (nA (gU sd1 c1 s9)))) := by rw [e_64]; exact ah_keep fa153 fa213 (by omega)
                have f_68 : h_63 (A 16) = some (36, .inl (G.2.2.1 0, 16, .inl (nA (gU rc1 c1 r9)))) := by rw [e_64]; exact ah_keep fa163 fa213 (by omega)
                have f_69 : h_63 (A 17) = some (37, .inl (G.2.2.1 0, 16, .inl (nA (gU pr1 c1 p9)))) := by rw [e_64]; exact ah_keep fa173 fa213 (by omega)
                have f_70 : h_63 (A 18) = some (38, .inl (G.2.2.1 0, 16, .inl (nA (gU th1 c1 0)))) := by rw [e_64]; exact ah_keep fa183 fa213 (by omega)
                have f_71 : h_63 (A 19) = some (39, .inl (G.2.2.1 0, 16, .inl (nA sm1))) := by rw [e_64]; exact ah_keep fa193 fa213 (by omega)
                have f_72 : h_63 (A 21) = some (41, .inl (G.2.2.1 0, 4080, .inl (upd (pcN pc pl k2) ((255 * pl) + k2) (-1)))) := by rw [e_64]; exact ah_up_s _ _ _
                have f_73 : h_63 (A 21) = some (41, .inl (G.2.2.1 0, 4080, .inl (pcN pc pl (k2 + 1)))) := by rw [← pcN_s]; exact f_72
                refine lv_iinc (v := nI (k2 + 1)) (lv' := [(6, .int (nI (k2 + 1))), (4, .int (nI pl)), (5, .int (nI c1)), (0, .ref y)]) hx hb dX9_begin_204 hl (k := 0) rfl (show nI k2 + Int32.ofInt 1 = nI (k2 + 1) from nI_add _ 1) (by decide) rfl (fun ls hl => ?_)
                refine lv_goto (tgt := 181) hx hb dX9_begin_207 (by decide) ?_
                exact ih181  (k2 + 1) h_63 _ _ ls (by omega) (by omega) (ag3.tr (by rw [e_64]; refine agr.up ?_ fa213 (by omega); exact agr.rf)) f_65 f_66 f_67 f_68 f_69 f_70 f_71 f_73 hR hS (lv_sub hl [0, 1, 2, 3] rfl)
          exact L181 ((255 - 0) + 1) 0 h_52 _ _ ls (by omega) (by omega) ag2 f_54 f_55 f_56 f_57 f_58 f_59 f_60 p21 hR hS (lv_sub hl [0, 2, 1, 3] rfl)
        · skip
          have c_1 : ¬ (c1 ≤ k) := fun z9 => c_1 ((nI_leI (by omega) (by omega)).mpr z9)
          have hfl := free_le hle
          refine lv_iconst (v := nI 0) hx hb dX9_begin_75 (by decide) ?_
          refine lv_istore (lv' := [(6, .int (nI 0)), (5, .int (nI k)), (4, .int (nI pl)), (0, .ref y), (1, .int (nI s9)), (2, .int (nI r9)), (3, .int (nI p9))]) hx hb dX9_begin_76 hl (by decide) rfl (fun ls hl => ?_)
          have L78 : ∀ (N78 : Nat) (i : Nat) (p2 : Nat) (H : Heap) (locs : List Loc) (ls : Array Slot), c1 - i < N78 → (i ≤ c1) → (∀ v, v < p2 → ∃ i, i < c1 ∧ mp1 i = v) → (plR c1 mp1 i pl p2) → (h1 y = some (20, .inr (8, mF A k0 n rf pm zh lc c1 pt gv un))) → (h1 (A 14) = some (34, .inl (G.2.2.1 0, 16, .inl (nA mp1)))) → (h1 (A 15) = some (35, .inl (G.2.2.1 0, 16, .inl (nA sd1)))) → (h1 (A 16) = some (36, .inl (G.2.2.1 0, 16, .inl (nA rc1)))) → (h1 (A 17) = some (37, .inl (G.2.2.1 0, 16, .inl (nA pr1)))) → (h1 (A 18) = some (38, .inl (G.2.2.1 0, 16, .inl (nA th1)))) → (h1 (A 19) = some (39, .inl (G.2.2.1 0, 16, .inl (nA sm1)))) → (h1 (A 21) = some (41, .inl (G.2.2.1 0, 4080, .inl pc))) → ah_R G h1 H → va_S (ah_A G) s.heap H locs → lv_has ls 7 [(6, .int (nI i)), (4, .int (nI p2)), (5, .int (nI k)), (0, .ref y), (1, .int (nI s9)), (2, .int (nI r9)), (3, .int (nI p9))] → W p l e ({ frames := 1, cells := 0, slots := 0, locals := 23 }) s m ([.ref y, .int (nI s9), .int (nI r9), .int (nI p9)] : List Value).toArray below meth cd9 H locs 0 0 (MQ below (ah_Qi G (fun v h' => ∃ (c1 pl : Nat) (mp1 sd1 rc1 pr1 th1 sm1 : Nat → Nat), v = nI c1 ∧ c1 ≤ 15 ∧ evM c c1 mp sd rc pr th sm mp1 sd1 rc1 pr1 th1 sm1 ∧ pl < 16 ∧ (∀ i, i < c1 → mp1 i ≠ pl) ∧ h' y = some (20, .inr (8, mF A k0 n rf pm zh lc (c1 + 1) pt gv un)) ∧ h' (A 14) = some (34, .inl (G.2.2.1 0, 16, .inl (nA (gU mp1 c1 pl)))) ∧ h' (A 15) = some (35, .inl (G.2.2.1 0, 16, .inl (nA (gU sd1 c1 s9)))) ∧ h' (A 16) = some (36, .inl (G.2.2.1 0, 16, .inl (nA (gU rc1 c1 r9)))) ∧ h' (A 17) = some (37, .inl (G.2.2.1 0, 16, .inl (nA (gU pr1 c1 p9)))) ∧ h' (A 18) = some (38, .inl (G.2.2.1 0, 16, .inl (nA (gU th1 c1 0)))) ∧ h' (A 19) = some (39, .inl (G.2.2.1 0, 16, .inl (nA sm1))) ∧ h' (A 21) = some (41, .inl (G.2.2.1 0, 4080, .inl (pcN pc pl 255))) ∧ agr (fun t => t ≠ 20 ∧ ¬ (34 ≤ t ∧ t ≤ 39) ∧ t ≠ 41) h h')) ([.ref y, .int (nI s9), .int (nI r9), .int (nI p9)] : List Value).toArray s 0 0 (ah_A G)) (F0 m 78 ls []) := by
            intro N78
            induction N78 with
            | zero => intro i p2  H locs ls hN; exact absurd hN (Nat.not_lt_zero _)
            | succ N78 ih78 =>
              intro i p2  H locs ls hN78 hi hle2 hpr fy1 fa141 fa151 fa161 fa171 fa181 fa191 fa211 hR hS hl
              refine lv_iload hx hb dX9_begin_78 (lv_at hl 0 rfl) ?_
              refine lv_aload_n hx hb dX9_begin_80 rfl (lv_at hl 3 rfl) ?_
              refine ah_get (ci := 8) (v := .int (nI c1)) (C := RX9) (T := TX9) (N := 27) hx hb hE hR hts hinX9 hown fy1 rfl 13 (by decide) k107 (fun _ h9 => h9) rfl dX9_begin_81 ?_
              refine lv_icmp_ge (tgt := 115) hx hb dX9_begin_84 (by decide) (fun c_74 => ?_) (fun c_74 => ?_)
              · skip
                have c_74 : c1 ≤ i := (nI_leI (by omega) (by omega)).mp c_74
                have hpr : plR c1 mp1 c1 pl p2 := by rw [show i = c1 by omega] at hpr; exact hpr
                refine lv_iinc (v := nI (k + 1)) (lv' := [(5, .int (nI (k + 1))), (6, .int (nI i)), (4, .int (nI p2)), (0, .ref y), (1, .int (nI s9)), (2, .int (nI r9)), (3, .int (nI p9))]) hx hb dX9_begin_115 hl (k := 2) rfl (show nI k + Int32.ofInt 1 = nI (k + 1) from nI_add _ 1) (by decide) rfl (fun ls hl => ?_)
                refine lv_goto (tgt := 66) hx hb dX9_begin_118 (by decide) ?_
                exact ih66  (k + 1) p2 _ _ ls (by omega) (by omega) hle2 (pl_out hpg hpr) fy1 fa141 fa151 fa161 fa171 fa181 fa191 fa211 hR hS (lv_sub hl [0, 2, 3, 4, 5, 6] rfl)
              · skip
                have c_74 : ¬ (c1 ≤ i) := fun z9 => c_74 ((nI_leI (by omega) (by omega)).mpr z9)
                have hfl2 := free_le hle2
                have hm9 := hm1 i (by omega)
                refine lv_iload hx hb dX9_begin_87 (lv_at hl 1 rfl) ?_
                refine lv_aload_n hx hb dX9_begin_89 rfl (lv_at hl 3 rfl) ?_
                refine ah_get (ci := 8) (v := .ref (A 14)) (C := RX9) (T := TX9) (N := 27) hx hb hE hR hts hinX9 hown fy1 rfl 14 (by decide) k33 (fun _ h9 => h9) rfl dX9_begin_90 ?_
                refine lv_iload hx hb dX9_begin_93 (lv_at hl 0 rfl) ?_
                refine ah_iald (i := i) hx hb hE hR fa141 (by omega) (by omega) dX9_begin_95 ?_
                refine ah_toi (v := nI (mp1 i)) rfl ?_
                refine lv_iload hx hb dX9_begin_96 (lv_at hl 1 rfl) ?_
                refine lv_icmp_ne (tgt := 105) hx hb dX9_begin_98 (by decide) (fun c_75 => ?_) (fun c_75 => ?_)
                · skip
                  have c_75 : ¬ ((mp1 i) = p2) := fun z9 => c_75 ((nI_eq (by omega) (by omega)).mpr z9)
                  refine lv_iconst (v := nI 0) hx hb dX9_begin_105 (by decide) ?_
                  refine lv_iadd hx hb dX9_begin_106 ?_
                  refine ah_toi (v := nI (p2 + 0)) (nI_add _ _) ?_
                  refine ah_toi (v := nI p2) (by rw [Nat.add_zero]) ?_
                  refine lv_istore (lv' := [(4, .int (nI p2)), (6, .int (nI i)), (5, .int (nI k)), (0, .ref y), (1, .int (nI s9)), (2, .int (nI r9)), (3, .int (nI p9))]) hx hb dX9_begin_107 hl (by decide) rfl (fun ls hl => ?_)
                  refine lv_iinc (v := nI (i + 1)) (lv' := [(6, .int (nI (i + 1))), (4, .int (nI p2)), (5, .int (nI k)), (0, .ref y), (1, .int (nI s9)), (2, .int (nI r9)), (3, .int (nI p9))]) hx hb dX9_begin_109 hl (k := 1) rfl (show nI i + Int32.ofInt 1 = nI (i + 1) from nI_add _ 1) (by decide) rfl (fun ls hl => ?_)
                  refine lv_goto (tgt := 78) hx hb dX9_begin_112 (by decide) ?_
                  exact ih78  (i + 1) p2 _ _ ls (by omega) (by omega) hle2 (pl_miss c_75 hpr) fy1 fa141 fa151 fa161 fa171 fa181 fa191 fa211 hR hS (lv_sub hl [0, 1, 2, 3, 4, 5, 6] rfl)
                · skip
                  have c_75 : (mp1 i) = p2 := (nI_eq (by omega) (by omega)).mp c_75
                  refine lv_iconst (v := nI 1) hx hb dX9_begin_101 (by decide) ?_
                  refine lv_goto (tgt := 106) hx hb dX9_begin_102 (by decide) ?_
                  refine lv_iadd hx hb dX9_begin_106 ?_
                  refine ah_toi (v := nI (p2 + 1)) (nI_add _ _) ?_
                  refine lv_istore (lv' := [(4, .int (nI (p2 + 1))), (6, .int (nI i)), (5, .int (nI k)), (0, .ref y), (1, .int (nI s9)), (2, .int (nI r9)), (3, .int (nI p9))]) hx hb dX9_begin_107 hl (by decide) rfl (fun ls hl => ?_)
                  refine lv_iinc (v := nI (i + 1)) (lv' := [(6, .int (nI (i + 1))), (4, .int (nI (p2 + 1))), (5, .int (nI k)), (0, .ref y), (1, .int (nI s9)), (2, .int (nI r9)), (3, .int (nI p9))]) hx hb dX9_begin_109 hl (k := 1) rfl (show nI i + Int32.ofInt 1 = nI (i + 1) from nI_add _ 1) (by decide) rfl (fun ls hl => ?_)
                  refine lv_goto (tgt := 78) hx hb dX9_begin_112 (by decide) ?_
                  exact ih78  (i + 1) (p2 + 1) _ _ ls (by omega) (by omega) (le_hit (by omega) c_75 hle2) (pl_hit (by omega) c_75 hpr) fy1 fa141 fa151 fa161 fa171 fa181 fa191 fa211 hR hS (lv_sub hl [0, 1, 2, 3, 4, 5, 6] rfl)
          exact L78 ((c1 - 0) + 1) 0 pl _ _ ls (by omega) (by omega) hle pl_0 fy1 fa141 fa151 fa161 fa171 fa181 fa191 fa211 hR hS (lv_sub hl [0, 2, 1, 3, 4, 5, 6] rfl)
    exact L66 ((c1 - 0) + 1) 0 0 _ _ ls (by omega) (by omega) (fun v hv => absurd hv (Nat.not_lt_zero v)) (Or.inl (Nat.le_refl 0)) fy1 fa141 fa151 fa161 fa171 fa181 fa191 fa211 hR hS (lv_sub hl [0, 1, 2, 3, 4, 5] rfl)
  refine lv_aload_n hx hb dX9_begin_0 rfl (lv_at hl 0 rfl) ?_
  refine ah_get (ci := 8) (v := .int (nI c)) (C := RX9) (T := TX9) (N := 27) hx hb hE hR hts hinX9 hown fy rfl 13 (by decide) k107 (fun _ h9 => h9) rfl dX9_begin_1 ?_
  refine lv_bipush (v := nI 16) hx hb dX9_begin_4 (by decide) ?_
  refine lv_icmp_ne (tgt := 60) hx hb dX9_begin_6 (by decide) (fun c_76 => ?_) (fun c_76 => ?_)
  · skip
    have c_76 : ¬ (c = 16) := fun z9 => c_76 ((nI_eq (by omega) (by omega)).mpr z9)
    exact J60 c mp sd rc pr th sm h _ _ ls (by omega) (Or.inr ⟨by omega, rfl, rfl, rfl, rfl, rfl, rfl, rfl⟩) hmp agr.rf fy fa14 fa15 fa16 fa17 fa18 fa19 fa21 hR hS (lv_sub hl [0, 1, 2, 3] rfl)
  · skip
    have c_76 : c = 16 := (nI_eq (by omega) (by omega)).mp c_76
    have c16 : c = 16 := by omega
    refine lv_iconst (v := nI 0) hx hb dX9_begin_9 (by decide) ?_
    refine lv_istore (lv' := [(4, .int (nI 0)), (0, .ref y), (1, .int (nI s9)), (2, .int (nI r9)), (3, .int (nI p9))]) hx hb dX9_begin_10 hl (by decide) rfl (fun ls hl => ?_)
    refine lv_iconst (v := nI 1) hx hb dX9_begin_12 (by decide) ?_
    refine lv_istore (lv' := [(5, .int (nI 1)), (4, .int (nI 0)), (0, .ref y), (1, .int (nI s9)), (2, .int (nI r9)), (3, .int (nI p9))]) hx hb dX9_begin_13 hl (by decide) rfl (fun ls hl => ?_)
    have L15 : ∀ (N15 : Nat) (i : Nat) (o : Nat) (H : Heap) (locs : List Loc) (ls : Array Slot), 16 - i < N15 → (1 ≤ i) → (i ≤ 16) → (o < 16) → (luR sm (16 - i) i o = luR sm 15 1 0) → (h y = some (20, .inr (8, mF A k0 n rf pm zh lc c pt gv un))) → (h (A 14) = some (34, .inl (G.2.2.1 0, 16, .inl (nA mp)))) → (h (A 15) = some (35, .inl (G.2.2.1 0, 16, .inl (nA sd)))) → (h (A 16) = some (36, .inl (G.2.2.1 0, 16, .inl (nA rc)))) → (h (A 17) = some (37, .inl (G.2.2.1 0, 16, .inl (nA pr)))) → (h (A 18) = some (38, .inl (G.2.2.1 0, 16, .inl (nA th)))) → (h (A 19) = some (39, .inl (G.2.2.1 0, 16, .inl (nA sm)))) → (h (A 21) = some (41, .inl (G.2.2.1 0, 4080, .inl pc))) → ah_R G h H → va_S (ah_A G) s.heap H locs → lv_has ls 7 [(5, .int (nI i)), (4, .int (nI o)), (0, .ref y), (1, .int (nI s9)), (2, .int (nI r9)), (3, .int (nI p9))] → W p l e ({ frames := 1, cells := 0, slots := 0, locals := 23 }) s m ([.ref y, .int (nI s9), .int (nI r9), .int (nI p9)] : List Value).toArray below meth cd9 H locs 0 0 (MQ below (ah_Qi G (fun v h' => ∃ (c1 pl : Nat) (mp1 sd1 rc1 pr1 th1 sm1 : Nat → Nat), v = nI c1 ∧ c1 ≤ 15 ∧ evM c c1 mp sd rc pr th sm mp1 sd1 rc1 pr1 th1 sm1 ∧ pl < 16 ∧ (∀ i, i < c1 → mp1 i ≠ pl) ∧ h' y = some (20, .inr (8, mF A k0 n rf pm zh lc (c1 + 1) pt gv un)) ∧ h' (A 14) = some (34, .inl (G.2.2.1 0, 16, .inl (nA (gU mp1 c1 pl)))) ∧ h' (A 15) = some (35, .inl (G.2.2.1 0, 16, .inl (nA (gU sd1 c1 s9)))) ∧ h' (A 16) = some (36, .inl (G.2.2.1 0, 16, .inl (nA (gU rc1 c1 r9)))) ∧ h' (A 17) = some (37, .inl (G.2.2.1 0, 16, .inl (nA (gU pr1 c1 p9)))) ∧ h' (A 18) = some (38, .inl (G.2.2.1 0, 16, .inl (nA (gU th1 c1 0)))) ∧ h' (A 19) = some (39, .inl (G.2.2.1 0, 16, .inl (nA sm1))) ∧ h' (A 21) = some (41, .inl (G.2.2.1 0, 4080, .inl (pcN pc pl 255))) ∧ agr (fun t => t ≠ 20 ∧ ¬ (34 ≤ t ∧ t ≤ 39) ∧ t ≠ 41) h h')) ([.ref y, .int (nI s9), .int (nI r9), .int (nI p9)] : List Value).toArray s 0 0 (ah_A G)) (F0 m 15 ls []) := by
      intro N15
      induction N15 with
      | zero => intro i o  H locs ls hN; exact absurd hN (Nat.not_lt_zero _)
      | succ N15 ih15 =>
        intro i o  H locs ls hN15 hi hi2 ho eo fy fa14 fa15 fa16 fa17 fa18 fa19 fa21 hR hS hl
        refine lv_iload hx hb dX9_begin_15 (lv_at hl 0 rfl) ?_
        refine lv_bipush (v := nI 16) hx hb dX9_begin_17 (by decide) ?_
        refine lv_icmp_ge (tgt := 54) hx hb dX9_begin_19 (by decide) (fun c_77 => ?_) (fun c_77 => ?_)
        · skip
          have c_77 : 16 ≤ i := (nI_leI (by omega) (by omega)).mp c_77
          refine lv_aload_n hx hb dX9_begin_54 rfl (lv_at hl 2 rfl) ?_
          refine lv_iload hx hb dX9_begin_55 (lv_at hl 1 rfl) ?_
          have eou : o = luR sm 15 1 0 := by rw [← eo, show 16 - i = 0 by omega]; rfl
          refine ah_callv (va_runV (As := [.int (nI o)]) (rest := []) ⟨hx, hb, hml, hown, hts⟩ (c_m_gone l G h y A k0 n rf pm zh lc c pt gv un fy mp fa14 sd fa15 rc fa16 pr fa17 th fa18 sm fa19 hc o (by omega)) (cwV 1 hts gX9_begin_X9_gone rfl rfl rfl (by decide +kernel) ⟨Nat.le_of_ble_eq_true rfl, Nat.le_of_ble_eq_true rfl⟩) (ah_preV hE hR hS fy rfl) rfl rfl hl.1 rfl (lv_room (Nat.le_of_ble_eq_true rfl)) dX9_begin_57 ⟨Nat.le_of_ble_eq_true rfl, Nat.le_of_ble_eq_true rfl⟩) hS (fun h_78 H locs p_79 hR hS => ?_)
          obtain ⟨gy, g14, g15, g16, g17, g18, g19, ag9⟩ := p_79
          rw [c16] at gy g14 g15 g16 g17 g18 g19
          have g21 : h_78 (A 21) = some (41, .inl (G.2.2.1 0, 4080, .inl pc)) := ag9 _ _ _ (by omega) fa21
          exact J60 15 (gU (shN mp o 15) 15 (mp o)) (shN sd o 15) (shN rc o 15) (shN pr o 15) (shN th o 15) (shN sm o 15) h_78 _ _ ls (by omega) (Or.inl ⟨c16, rfl, by rw [eou], by rw [eou], by rw [eou], by rw [eou], by rw [eou], by rw [eou]⟩) (gone_mp (by omega) (fun i hi => hmp i (by omega))) (ag9.weak (fun t q => by omega)) gy g14 g15 g16 g17 g18 g19 g21 hR hS (lv_sub hl [2, 3, 4, 5] rfl)
        · skip
          have c_77 : ¬ (16 ≤ i) := fun z9 => c_77 ((nI_leI (by omega) (by omega)).mpr z9)
          have hs1 := hsm i (by omega); have hs2 := hsm o (by omega)
          refine lv_aload_n hx hb dX9_begin_22 rfl (lv_at hl 2 rfl) ?_
          refine ah_get (ci := 8) (v := .ref (A 19)) (C := RX9) (T := TX9) (N := 27) hx hb hE hR hts hinX9 hown fy rfl 19 (by decide) k48 (fun _ h9 => h9) rfl dX9_begin_23 ?_
          refine lv_iload hx hb dX9_begin_26 (lv_at hl 0 rfl) ?_
          refine ah_iald (i := i) hx hb hE hR fa19 (by omega) (by omega) dX9_begin_28 ?_
          refine ah_toi (v := nI (sm i)) rfl ?_
          refine lv_aload_n hx hb dX9_begin_29 rfl (lv_at hl 2 rfl) ?_
          refine ah_get (ci := 8) (v := .ref (A 19)) (C := RX9) (T := TX9) (N := 27) hx hb hE hR hts hinX9 hown fy rfl 19 (by decide) k48 (fun _ h9 => h9) rfl dX9_begin_30 ?_
          refine lv_iload hx hb dX9_begin_33 (lv_at hl 1 rfl) ?_
          refine ah_iald (i := o) hx hb hE hR fa19 (by omega) (by omega) dX9_begin_35 ?_
          refine ah_toi (v := nI (sm o)) rfl ?_
          refine lv_icmp_ge (tgt := 44) hx hb dX9_begin_36 (by decide) (fun c_81 => ?_) (fun c_81 => ?_)
          · skip
            have c_81 : (sm o) ≤ (sm i) := (nI_leI (by omega) (by omega)).mp c_81
            refine lv_iload hx hb dX9_begin_44 (lv_at hl 1 rfl) ?_
            refine lv_istore (lv' := [(4, .int (nI o)), (5, .int (nI i)), (0, .ref y), (1, .int (nI s9)), (2, .int (nI r9)), (3, .int (nI p9))]) hx hb dX9_begin_46 hl (by decide) rfl (fun ls hl => ?_)
            refine lv_iinc (v := nI (i + 1)) (lv' := [(5, .int (nI (i + 1))), (4, .int (nI o)), (0, .ref y), (1, .int (nI s9)), (2, .int (nI r9)), (3, .int (nI p9))]) hx hb dX9_begin_48 hl (k := 1) rfl (show nI i + Int32.ofInt 1 = nI (i + 1) from nI_add _ 1) (by decide) rfl (fun ls hl => ?_)
            refine lv_goto (tgt := 15) hx hb dX9_begin_51 (by decide) ?_
            exact ih15  (i + 1) o _ _ ls (by omega) (by omega) (by omega) (by omega) (by rw [← eo, show 16 - i = 16 - (i + 1) + 1 by omega]; show _ = luR sm _ (i + 1) (if sm i < sm o then i else o); rw [if_neg (show ¬ sm i < sm o by omega)]) fy fa14 fa15 fa16 fa17 fa18 fa19 fa21 hR hS (lv_sub hl [0, 1, 2, 3, 4, 5] rfl)
          · skip
            have c_81 : ¬ ((sm o) ≤ (sm i)) := fun z9 => c_81 ((nI_leI (by omega) (by omega)).mpr z9)
            refine lv_iload hx hb dX9_begin_39 (lv_at hl 0 rfl) ?_
            refine lv_goto (tgt := 46) hx hb dX9_begin_41 (by decide) ?_
            refine lv_istore (lv' := [(4, .int (nI i)), (5, .int (nI i)), (0, .ref y), (1, .int (nI s9)), (2, .int (nI r9)), (3, .int (nI p9))]) hx hb dX9_begin_46 hl (by decide) rfl (fun ls hl => ?_)
            refine lv_iinc (v := nI (i + 1)) (lv' := [(5, .int (nI (i + 1))), (4, .int (nI i)), (0, .ref y), (1, .int (nI s9)), (2, .int (nI r9)), (3, .int (nI p9))]) hx hb dX9_begin_48 hl (k := 1) rfl (show nI i + Int32.ofInt 1 = nI (i + 1) from nI_add _ 1) (by decide) rfl (fun ls hl => ?_)
            refine lv_goto (tgt := 15) hx hb dX9_begin_51 (by decide) ?_
            exact ih15  (i + 1) i _ _ ls (by omega) (by omega) (by omega) (by omega) (by rw [← eo, show 16 - i = 16 - (i + 1) + 1 by omega]; show _ = luR sm _ (i + 1) (if sm i < sm o then i else o); rw [if_pos (show sm i < sm o by omega)]) fy fa14 fa15 fa16 fa17 fa18 fa19 fa21 hR hS (lv_sub hl [0, 1, 2, 3, 4, 5] rfl)
    exact L15 ((16 - 1) + 1) 1 0 _ _ ls (by omega) (by omega) (by omega) (by omega) rfl fy fa14 fa15 fa16 fa17 fa18 fa19 fa21 hR hS (lv_sub hl [0, 1, 2, 3, 4, 5] rfl)
