/-! ===== TextPartsModel: the parts written ===== -/
/-- what bit b .. of a seven s gives to the byte q behind the first it touches; r: where in that byte it begins -/
def cR (r s : Nat) : Nat → Nat → Nat
  | 0, _ => 0
  | b + 1, q => cR r s b q ||| (if (r + b) / 8 = q then s / 2 ^ b % 2 * 2 ^ ((r + b) % 8) else 0)
theorem cR_all : ∀ r, r < 8 → ∀ s, s < 128 → cR r s 7 0 = s * 2 ^ r % 256 ∧ cR r s 7 1 = s * 2 ^ r / 2 ^ 8 := by decide +kernel
theorem cR_far {r s q : Nat} (hr : r < 8) (hq : 2 ≤ q) : ∀ b, b ≤ 7 → cR r s b q = 0
  | 0, _ => rfl
  | b + 1, hb => by
    show cR r s b q ||| (if (r + b) / 8 = q then s / 2 ^ b % 2 * 2 ^ ((r + b) % 8) else 0) = 0
    rw [cR_far hr hq b (by omega), if_neg (by omega)]; rfl
/-- what seven number i, s, gives to byte j of a row -/
def cAdd (i s j : Nat) : Nat := if j < 2 + 7 * i / 8 then 0 else cR (7 * i % 8) s 7 (j - (2 + 7 * i / 8))
theorem cAdd_lo {i s j : Nat} (h : j < 2 + 7 * i / 8) : cAdd i s j = 0 := if_pos h
theorem cAdd_0 {i s : Nat} (hs : s < 128) : cAdd i s (2 + 7 * i / 8) = s * 2 ^ (7 * i % 8) % 256 := by
  unfold cAdd; rw [if_neg (by omega), Nat.sub_self]; exact (cR_all _ (Nat.mod_lt _ (by decide)) s hs).1
theorem cAdd_1 {i s : Nat} (hs : s < 128) : cAdd i s (2 + 7 * i / 8 + 1) = s * 2 ^ (7 * i % 8) / 2 ^ 8 := by
  unfold cAdd; rw [if_neg (by omega), show 2 + 7 * i / 8 + 1 - (2 + 7 * i / 8) = 1 by omega]; exact (cR_all _ (Nat.mod_lt _ (by decide)) s hs).2
theorem cAdd_hi {i s j : Nat} (h : 2 + 7 * i / 8 + 1 < j) : cAdd i s j = 0 := by
  unfold cAdd; rw [if_neg (by omega)]; exact cR_far (Nat.mod_lt _ (by decide)) (by omega) 7 (Nat.le_refl 7)
theorem rwAdd_eq {g : Nat → Nat} {z k s j : Nat} (hs : s < 128) : rwAdd g z k s j = if j < z then g j ||| cAdd k s j else g j := by
  unfold rwAdd
  obtain ⟨a, ea⟩ : ∃ a, a = 2 + 7 * k / 8 := ⟨_, rfl⟩
  rw [← ea]
  have n1 : a + 1 ≠ a := by omega
  by_cases e0 : j = a
  · subst e0
    rw [ea, cAdd_0 hs, ← ea]
    by_cases hz : j < z
    · rw [if_pos hz]
      unfold rwS bz
      rw [if_pos hz, if_pos hz]
      by_cases hz1 : j + 1 < z
      · rw [if_pos hz1, gU_n (by omega), gU_s]
      · rw [if_neg hz1, gU_s]
    · rw [if_neg hz]
      unfold rwS bz
      rw [if_neg hz, if_neg (show ¬ j + 1 < z by omega)]
  · by_cases e1 : j = a + 1
    · subst e1
      rw [ea, cAdd_1 hs, ← ea]
      by_cases hz : a + 1 < z
      · rw [if_pos hz]
        unfold rwS bz
        rw [if_pos hz, gU_s, if_pos hz, if_pos (show a < z by omega), gU_n n1]
      · rw [if_neg hz]
        unfold rwS
        rw [if_neg hz]
        split
        · rw [gU_n n1]
        · rfl
    · have hc : cAdd k s j = 0 := by
        by_cases q : j < 2 + 7 * k / 8
        · exact cAdd_lo q
        · exact cAdd_hi (by omega)
      rw [hc, Nat.or_zero, ite_self]
      unfold rwS
      have k1 : ∀ v, (if a < z then gU g a v else g) j = g j := fun v => by split; exact gU_n e0; rfl
      split
      · rw [gU_n e1, k1]
      · rw [k1]
/-- what m units from a on give to byte j, laid from place pl on -/
def ctr (f : Nat → Nat) : Nat → Nat → Nat → Nat → Nat
  | 0, _, _, _ => 0
  | m + 1, a, pl, j => if plainSv (f a) = -1 then cAdd pl 27 j ||| (cAdd (pl + 1) (escN (f a)) j ||| ctr f m (a + 1) (pl + 2) j) else cAdd pl (plainN (f a)) j ||| ctr f m (a + 1) (pl + 1) j
theorem wSev_eq {f : Nat → Nat} {z j : Nat} : ∀ (m a : Nat) (g : Nat → Nat) (pl : Nat), wSev f z m a g pl j = if j < z then g j ||| ctr f m a pl j else g j
  | 0, _, g, _ => by show g j = if j < z then g j ||| 0 else g j; rw [Nat.or_zero, ite_self]
  | m + 1, a, g, pl => by
    unfold wSev ctr
    by_cases h : plainSv (f a) = -1
    · rw [if_pos h, if_pos h, wSev_eq m, rwAdd_eq (escN_lt _), rwAdd_eq (by decide)]
      by_cases hz : j < z
      · simp only [if_pos hz, Nat.or_assoc]
      · simp only [if_neg hz]
    · rw [if_neg h, if_neg h, wSev_eq m, rwAdd_eq (plainN_lt _)]
      by_cases hz : j < z
      · simp only [if_pos hz, Nat.or_assoc]
      · simp only [if_neg hz]
theorem ctr_lo {f : Nat → Nat} {j : Nat} : ∀ (m a pl : Nat), j < 2 + 7 * pl / 8 → ctr f m a pl j = 0
  | 0, _, _, _ => rfl
  | m + 1, a, pl, h => by
    unfold ctr
    have h1 : j < 2 + 7 * (pl + 1) / 8 := by omega
    have h2 : j < 2 + 7 * (pl + 2) / 8 := by omega
    split
    · rw [cAdd_lo h, cAdd_lo h1, ctr_lo m _ _ h2]; rfl
    · rw [cAdd_lo h, ctr_lo m _ _ h1]; rfl
/-- the bytes of pairs -/
def prB (f : Nat → Nat) (a t : Nat) : Nat := if t % 2 = 0 then f (a + t / 2) / 2 ^ 8 else f (a + t / 2) % 256
theorem wPair_eq {f : Nat → Nat} {z j : Nat} : ∀ (m a : Nat) (g : Nat → Nat) (pl : Nat), wPair f z m a g pl j = if j < z ∧ 2 + pl ≤ j ∧ j < 2 + pl + 2 * m then prB f a (j - (2 + pl)) else g j
  | 0, _, g, pl => by show g j = _; rw [if_neg (by omega)]
  | m + 1, a, g, pl => by
    unfold wPair
    rw [wPair_eq m]
    by_cases hz : j < z
    · by_cases h1 : 2 + (pl + 2) ≤ j ∧ j < 2 + (pl + 2) + 2 * m
      · rw [if_pos ⟨hz, h1⟩, if_pos ⟨hz, by omega, by omega⟩]
        unfold prB
        rw [show (j - (2 + (pl + 2))) % 2 = (j - (2 + pl)) % 2 by omega, show a + 1 + (j - (2 + (pl + 2))) / 2 = a + (j - (2 + pl)) / 2 by omega]
      · rw [if_neg (fun q => h1 q.2)]
        unfold rwS
        by_cases e1 : j = 2 + pl + 1
        · subst e1
          rw [if_pos hz, gU_s, if_pos ⟨hz, by omega, by omega⟩]
          unfold prB
          rw [show 2 + pl + 1 - (2 + pl) = 1 by omega]; rfl
        · by_cases e0 : j = 2 + pl
          · subst e0
            rw [if_pos (show 2 + pl < z ∧ 2 + pl ≤ 2 + pl ∧ 2 + pl < 2 + pl + 2 * (m + 1) from ⟨hz, by omega, by omega⟩)]
            have k1 : ∀ (x : Nat → Nat) v, (if 2 + pl + 1 < z then gU x (2 + pl + 1) v else x) (2 + pl) = x (2 + pl) := fun x v => by split; exact gU_n e1; rfl
            rw [k1, if_pos hz, gU_s]
            unfold prB
            rw [Nat.sub_self]; rfl
          · rw [if_neg (show ¬ (j < z ∧ 2 + pl ≤ j ∧ j < 2 + pl + 2 * (m + 1)) by omega)]
            have k1 : ∀ (x : Nat → Nat) v, (if 2 + pl + 1 < z then gU x (2 + pl + 1) v else x) j = x j := fun x v => by split; exact gU_n e1; rfl
            have k0 : ∀ (x : Nat → Nat) v, (if 2 + pl < z then gU x (2 + pl) v else x) j = x j := fun x v => by split; exact gU_n e0; rfl
            rw [k1, k0]
    · rw [if_neg (fun q => hz q.1), if_neg (fun q => hz q.1)]
      unfold rwS
      have k1 : ∀ (x : Nat → Nat) v, (if 2 + pl + 1 < z then gU x (2 + pl + 1) v else x) j = x j := fun x v => by split; exact gU_n (by omega); rfl
      have k0 : ∀ (x : Nat → Nat) v, (if 2 + pl < z then gU x (2 + pl) v else x) j = x j := fun x v => by split; exact gU_n (by omega); rfl
      rw [k1, k0]
theorem rwS_at {g : Nat → Nat} {z k v j : Nat} (hj : j < z) : rwS g z k v j = if j = k then v else g j := by
  unfold rwS gU
  by_cases hk : k < z
  · rw [if_pos hk]
  · rw [if_neg hk, if_neg (by omega)]
/-- a part's bytes within it: the first two, the header, the contents -/
def rowB (od k1 nn x y w : Nat) (cf : Nat → Nat) (j : Nat) : Nat :=
  if j = 0 then k1 else if j = 1 then nn else if od = 1 ∧ j < 8 then (if j = 2 then 5 else if j = 4 then 3 else if j = 5 then x else if j = 6 then y else if j = 7 then w else 0) else cf j
theorem hdrG_at {g : Nat → Nat} {z x y w j : Nat} (hj : j < z) : hdrG g z x y w j = if j = 7 then w else if j = 6 then y else if j = 5 then x else if j = 4 then 3 else if j = 3 then 0 else if j = 2 then 5 else g j := by
  unfold hdrG
  rw [rwS_at hj, rwS_at hj, rwS_at hj, rwS_at hj, rwS_at hj, rwS_at hj]
theorem sevG_at {f : Nat → Nat} {od a b x y w j : Nat} (ho : od ≤ 1) (hj : j < sevZ f od a b) : (if od = 1 then hdrG (sevG f od a b) (sevZ f od a b) x y w else sevG f od a b) j = rowB od od (7 * od + sumS f a (b - a)) x y w (ctr f (b - a) a (7 * od)) j := by
  have e1 : sevG f od a b j = (if j = 1 then 7 * od + sumS f a (b - a) else if j = 0 then od else 0) ||| ctr f (b - a) a (7 * od) j := by
    unfold sevG; rw [wSev_eq, if_pos hj, rwS_at hj, rwS_at hj]
  have c0 : j < 2 → ctr f (b - a) a (7 * od) j = 0 := fun h => ctr_lo _ _ _ (by omega)
  have c8 : od = 1 → j < 8 → ctr f (b - a) a (7 * od) j = 0 := fun h h2 => ctr_lo _ _ _ (by omega)
  unfold rowB
  by_cases j0 : j = 0
  · rw [if_pos j0]
    split
    · rw [hdrG_at hj, e1, c0 (by omega)]; simp [j0]
    · rw [e1, c0 (by omega)]; simp [j0]
  · rw [if_neg j0]
    by_cases j1 : j = 1
    · rw [if_pos j1]
      split
      · rw [hdrG_at hj, e1, c0 (by omega)]; simp [j1]
      · rw [e1, c0 (by omega)]; simp [j1]
    · rw [if_neg j1]
      by_cases o1 : od = 1
      · rw [if_pos o1, hdrG_at hj]
        by_cases j8 : j < 8
        · rw [if_pos (show od = 1 ∧ j < 8 from ⟨o1, j8⟩)]
          rcases (show j = 2 ∨ j = 3 ∨ j = 4 ∨ j = 5 ∨ j = 6 ∨ j = 7 by omega) with q | q | q | q | q | q <;> subst q <;> rfl
        · rw [if_neg (show ¬ (od = 1 ∧ j < 8) from fun q => j8 q.2), e1, if_neg j1, if_neg j0, Nat.zero_or, if_neg (by omega), if_neg (by omega), if_neg (by omega), if_neg (by omega), if_neg (by omega), if_neg (by omega)]
      · rw [if_neg o1, if_neg (show ¬ (od = 1 ∧ j < 8) from fun q => o1 q.1), e1, if_neg j1, if_neg j0, Nat.zero_or]
theorem pairG_at {f : Nat → Nat} {od a b x y w j : Nat} (ho : od ≤ 1) (hj : j < pairZ od a b) : (if od = 1 then hdrG (pairG f od a b) (pairZ od a b) x y w else pairG f od a b) j = rowB od (4 + od) (6 * od + 2 * (b - a)) x y w (fun j => prB f a (j - (2 + 6 * od))) j := by
  have e1 : pairG f od a b j = if 2 + 6 * od ≤ j then prB f a (j - (2 + 6 * od)) else (if j = 1 then 6 * od + 2 * (b - a) else if j = 0 then 4 + od else 0) := by
    unfold pairG; rw [wPair_eq, rwS_at hj, rwS_at hj]
    by_cases q : 2 + 6 * od ≤ j
    · rw [if_pos ⟨hj, q, by unfold pairZ at hj; omega⟩, if_pos q]
    · rw [if_neg (fun z => q z.2.1), if_neg q]
  unfold rowB
  by_cases j0 : j = 0
  · rw [if_pos j0]
    split
    · rw [hdrG_at hj, e1, if_neg (show ¬ 2 + 6 * od ≤ j by omega)]; simp [j0]
    · rw [e1, if_neg (show ¬ 2 + 6 * od ≤ j by omega)]; simp [j0]
  · rw [if_neg j0]
    by_cases j1 : j = 1
    · rw [if_pos j1]
      split
      · rw [hdrG_at hj, e1, if_neg (show ¬ 2 + 6 * od ≤ j by omega)]; simp [j1]
      · rw [e1, if_neg (show ¬ 2 + 6 * od ≤ j by omega)]; simp [j1]
    · rw [if_neg j1]
      by_cases o1 : od = 1
      · rw [if_pos o1, hdrG_at hj]
        by_cases j8 : j < 8
        · rw [if_pos (show od = 1 ∧ j < 8 from ⟨o1, j8⟩)]
          rcases (show j = 2 ∨ j = 3 ∨ j = 4 ∨ j = 5 ∨ j = 6 ∨ j = 7 by omega) with q | q | q | q | q | q <;> subst q <;> rfl
        · rw [if_neg (show ¬ (od = 1 ∧ j < 8) from fun q => j8 q.2), e1, if_pos (show 2 + 6 * od ≤ j by omega), if_neg (by omega), if_neg (by omega), if_neg (by omega), if_neg (by omega), if_neg (by omega), if_neg (by omega)]
      · rw [if_neg o1, if_neg (show ¬ (od = 1 ∧ j < 8) from fun q => o1 q.1), e1, if_pos (show 2 + 6 * od ≤ j by omega)]

/-- b bits of seven number i laid into row p9 -/
def orB (bb : Nat → Nat) (p9 i s b x : Nat) : Nat := bb x ||| (if 142 * p9 + 2 + 7 * i / 8 ≤ x then cR (7 * i % 8) s b (x - (142 * p9 + 2 + 7 * i / 8)) else 0)
theorem orB_0 (bb : Nat → Nat) (p9 i s : Nat) : orB bb p9 i s 0 = bb := by
  funext x; unfold orB
  show bb x ||| (if _ then 0 else 0) = bb x
  rw [ite_self, Nat.or_zero]
theorem orB_s {bb : Nat → Nat} {p9 i s b : Nat} : gU (orB bb p9 i s b) (142 * p9 + 2 + (7 * i + b) / 8) (orB bb p9 i s b (142 * p9 + 2 + (7 * i + b) / 8) ||| s / 2 ^ b % 2 * 2 ^ ((7 * i + b) % 8)) = orB bb p9 i s (b + 1) := by
  have e1 : (7 * i + b) / 8 = 7 * i / 8 + (7 * i % 8 + b) / 8 := by omega
  have e2 : (7 * i + b) % 8 = (7 * i % 8 + b) % 8 := by omega
  funext x
  by_cases q : x = 142 * p9 + 2 + (7 * i + b) / 8
  · subst q
    rw [gU_s]
    unfold orB
    rw [if_pos (by omega)]
    show _ = bb _ ||| (if _ then cR (7 * i % 8) s b _ ||| (if (7 * i % 8 + b) / 8 = _ then s / 2 ^ b % 2 * 2 ^ ((7 * i % 8 + b) % 8) else 0) else 0)
    rw [if_pos (by omega), if_pos (by omega), e2, Nat.or_assoc]
  · rw [gU_n q]
    unfold orB
    by_cases h1 : 142 * p9 + 2 + 7 * i / 8 ≤ x
    · rw [if_pos h1, if_pos h1]
      show _ = bb x ||| (cR (7 * i % 8) s b _ ||| (if (7 * i % 8 + b) / 8 = x - (142 * p9 + 2 + 7 * i / 8) then s / 2 ^ b % 2 * 2 ^ ((7 * i % 8 + b) % 8) else 0))
      rw [if_neg (by omega), Nat.or_zero]
    · rw [if_neg h1, if_neg h1]
theorem orB_row (bb : Nat → Nat) (p9 i s j : Nat) : orB bb p9 i s 7 (142 * p9 + j) = bb (142 * p9 + j) ||| cAdd i s j := by
  unfold orB cAdd
  by_cases h : j < 2 + 7 * i / 8
  · rw [if_pos h, if_neg (by omega)]
  · rw [if_neg h, if_pos (by omega), show 142 * p9 + j - (142 * p9 + 2 + 7 * i / 8) = j - (2 + 7 * i / 8) by omega]
theorem orB_out {bb : Nat → Nat} {p9 i s x : Nat} (hi : i < 160) (hs : s < 128) (hx : x < 142 * p9 ∨ 142 * p9 + 142 ≤ x) : orB bb p9 i s 7 x = bb x := by
  rcases hx with hx | hx
  · unfold orB; rw [if_neg (by omega), Nat.or_zero]
  · have e : x = 142 * p9 + (x - 142 * p9) := by omega
    rw [e, orB_row]
    have c : cAdd i s (x - 142 * p9) = 0 := by
      by_cases q : 2 + 7 * i / 8 + 1 < x - 142 * p9
      · exact cAdd_hi q
      · have i9 : i = 159 := by omega
        have x9 : x - 142 * p9 = 2 + 7 * i / 8 + 1 := by omega
        rw [x9, cAdd_1 hs, i9]
        show s * 2 ^ 1 / 2 ^ 8 = 0
        omega
    rw [c, Nat.or_zero]
def zR (bb : Nat → Nat) (p9 k x : Nat) : Nat := if 142 * p9 ≤ x ∧ x < 142 * p9 + k then 0 else bb x
theorem zR_0 (bb : Nat → Nat) (p9 : Nat) : zR bb p9 0 = bb := by funext x; unfold zR; rw [if_neg (by omega)]
theorem zR_s (bb : Nat → Nat) (p9 k : Nat) : gU (zR bb p9 k) (142 * p9 + k) 0 = zR bb p9 (k + 1) := by
  funext x
  by_cases q : x = 142 * p9 + k
  · subst q; rw [gU_s]; unfold zR; rw [if_pos (by omega)]
  · rw [gU_n q]; unfold zR
    by_cases h : 142 * p9 ≤ x ∧ x < 142 * p9 + k
    · rw [if_pos h, if_pos (by omega)]
    · rw [if_neg h, if_neg (by omega)]
/-- a row before its contents: first byte K, header -/
def hB (od K x y w j : Nat) : Nat := if j = 0 then K else if od = 1 ∧ j < 8 then (if j = 2 then 5 else if j = 4 then 3 else if j = 5 then x else if j = 6 then y else if j = 7 then w else 0) else 0
theorem hB0 {bb : Nat → Nat} {p9 K x y w : Nat} : (∀ j, j < 142 → gU (zR bb p9 142) (142 * p9) K (142 * p9 + j) = hB 0 K x y w j) ∧ ∀ q, (q < 142 * p9 ∨ 142 * p9 + 142 ≤ q) → gU (zR bb p9 142) (142 * p9) K q = bb q := by
  refine ⟨fun j hj => ?_, fun q hq => ?_⟩
  · unfold hB gU zR
    by_cases j0 : j = 0
    · subst j0; simp
    · rw [if_neg (by omega), if_pos (by omega), if_neg j0, if_neg (by omega)]
  · unfold gU zR; rw [if_neg (by omega), if_neg (by omega)]
theorem hB1 {bb : Nat → Nat} {p9 K x y w : Nat} : (∀ j, j < 142 → gU (gU (gU (gU (gU (gU (zR bb p9 142) (142 * p9) K) (142 * p9 + 2) 5) (142 * p9 + 4) 3) (142 * p9 + 5) x) (142 * p9 + 6) y) (142 * p9 + 7) w (142 * p9 + j) = hB 1 K x y w j) ∧ ∀ q, (q < 142 * p9 ∨ 142 * p9 + 142 ≤ q) → gU (gU (gU (gU (gU (gU (zR bb p9 142) (142 * p9) K) (142 * p9 + 2) 5) (142 * p9 + 4) 3) (142 * p9 + 5) x) (142 * p9 + 6) y) (142 * p9 + 7) w q = bb q := by
  refine ⟨fun j hj => ?_, fun q hq => ?_⟩
  · unfold hB gU zR
    rcases (show j = 0 ∨ j = 1 ∨ j = 2 ∨ j = 3 ∨ j = 4 ∨ j = 5 ∨ j = 6 ∨ j = 7 ∨ 8 ≤ j by omega) with q | q | q | q | q | q | q | q | q
    · subst q; simp
    · subst q; simp
    · subst q; simp
    · subst q; simp
    · subst q; simp
    · subst q; simp
    · subst q; simp
    · subst q; simp
    · rw [if_neg (by omega), if_neg (by omega), if_neg (by omega), if_neg (by omega), if_neg (by omega), if_neg (by omega), if_pos (by omega), if_neg (by omega), if_neg (by omega)]
  · unfold gU zR; rw [if_neg (by omega), if_neg (by omega), if_neg (by omega), if_neg (by omega), if_neg (by omega), if_neg (by omega), if_neg (by omega)]
theorem finS {f : Nat → Nat} {od m a nn x y w j : Nat} (ho : od ≤ 1) : rowB od od nn x y w (ctr f m a (7 * od)) j = if j = 1 then nn else hB od od x y w j ||| ctr f m a (7 * od) j := by
  unfold rowB hB
  by_cases j0 : j = 0
  · rw [if_pos j0, if_neg (by omega), if_pos j0, ctr_lo _ _ _ (by omega), Nat.or_zero]
  · rw [if_neg j0, if_neg j0]
    by_cases j1 : j = 1
    · rw [if_pos j1, if_pos j1]
    · rw [if_neg j1, if_neg j1]
      by_cases q : od = 1 ∧ j < 8
      · rw [if_pos q, if_pos q, ctr_lo _ _ _ (by omega), Nat.or_zero]
      · rw [if_neg q, if_neg q, Nat.zero_or]
theorem finP {f : Nat → Nat} {od m a nn x y w j : Nat} (ho : od ≤ 1) (hj : j < 2 + (6 * od + 2 * m)) : rowB od (4 + od) nn x y w (fun j => prB f a (j - (2 + 6 * od))) j = if j = 1 then nn else if 2 + 6 * od ≤ j ∧ j < 2 + (6 * od + 2 * m) then prB f a (j - (2 + 6 * od)) else hB od (4 + od) x y w j := by
  unfold rowB hB
  by_cases j0 : j = 0
  · rw [if_pos j0, if_neg (by omega), if_neg (by omega), if_pos j0]
  · rw [if_neg j0, if_neg j0]
    by_cases j1 : j = 1
    · rw [if_pos j1, if_pos j1]
    · rw [if_neg j1, if_neg j1]
      by_cases q : od = 1 ∧ j < 8
      · rw [if_pos q, if_neg (show ¬ (2 + 6 * od ≤ j ∧ j < 2 + (6 * od + 2 * m)) by omega), if_pos q]
      · rw [if_neg q, if_pos (show 2 + 6 * od ≤ j ∧ j < 2 + (6 * od + 2 * m) by omega)]
theorem prS {b1 b0 tx : Nat → Nat} {a k p9 od pl : Nat} (hpl : pl = 6 * od + 2 * (k - a)) (hk : a ≤ k) (inv : ∀ j, j < 142 → b1 (142 * p9 + j) = if 2 + 6 * od ≤ j ∧ j < 2 + pl then prB tx a (j - (2 + 6 * od)) else b0 (142 * p9 + j)) :
    ∀ j, j < 142 → gU (gU b1 (142 * p9 + 2 + pl) (tx k / 2 ^ 8)) (142 * p9 + 3 + pl) (tx k % 256) (142 * p9 + j) = if 2 + 6 * od ≤ j ∧ j < 2 + (pl + 2) then prB tx a (j - (2 + 6 * od)) else b0 (142 * p9 + j) := by
  intro j hj
  by_cases e1 : j = 3 + pl
  · rw [show 142 * p9 + j = 142 * p9 + 3 + pl by omega, gU_s, if_pos (by omega)]
    unfold prB
    rw [if_neg (by omega), show a + (j - (2 + 6 * od)) / 2 = k by omega]
  · rw [gU_n (by omega)]
    by_cases e0 : j = 2 + pl
    · rw [show 142 * p9 + j = 142 * p9 + 2 + pl by omega, gU_s, if_pos (by omega)]
      unfold prB
      rw [if_pos (by omega), show a + (j - (2 + 6 * od)) / 2 = k by omega]
    · rw [gU_n (by omega), inv j hj]
      by_cases q : 2 + 6 * od ≤ j ∧ j < 2 + pl
      · rw [if_pos q, if_pos (by omega)]
      · rw [if_neg q, if_neg (by omega)]
theorem sumS_mono (f : Nat → Nat) (a : Nat) : ∀ m k, k ≤ m → sumS f a k ≤ sumS f a m
  | 0, k, h => by rw [show k = 0 by omega]; exact Nat.le_refl _
  | m + 1, k, h => by
    by_cases e : k = m + 1
    · rw [e]; exact Nat.le_refl _
    · have := sumS_mono f a m k (by omega); show _ ≤ sumS f a m + _; omega
theorem sumS_k {f : Nat → Nat} {a k : Nat} (h : a ≤ k) : sumS f a (k + 1 - a) = sumS f a (k - a) + svFor (f k) := by
  rw [show k + 1 - a = k - a + 1 by omega]
  show sumS f a (k - a) + svFor (f (a + (k - a))) = _
  rw [show a + (k - a) = k by omega]
theorem ctr_e {f : Nat → Nat} {m a pl j : Nat} (h : plainSv (f a) = -1) : ctr f (m + 1) a pl j = cAdd pl 27 j ||| (cAdd (pl + 1) (escN (f a)) j ||| ctr f m (a + 1) (pl + 2) j) := if_pos h
theorem ctr_p {f : Nat → Nat} {m a pl j : Nat} (h : ¬ plainSv (f a) = -1) : ctr f (m + 1) a pl j = cAdd pl (plainN (f a)) j ||| ctr f m (a + 1) (pl + 1) j := if_neg h
theorem sv9_e {u : Nat} (h : plainSv u = -1) (h0 : svFor u ≠ 0) : sv9 u = nI (128 + escN u) := by
  unfold sv9; rw [if_pos h, if_neg (svFor2 h h0).2]
theorem sv9_p {u : Nat} (h : ¬ plainSv u = -1) : sv9 u = nI (plainN u) := if_neg h
theorem stepP {b1 b0 f : Nat → Nat} {p9 m k pl a m0 pl0 : Nat} (h : ¬ plainSv (f k) = -1) (inv : ∀ j, b1 (142 * p9 + j) ||| ctr f (m + 1) k pl j = b0 (142 * p9 + j) ||| ctr f m0 a pl0 j) : ∀ j, orB b1 p9 pl (plainN (f k)) 7 (142 * p9 + j) ||| ctr f m (k + 1) (pl + 1) j = b0 (142 * p9 + j) ||| ctr f m0 a pl0 j := fun j => by
  rw [orB_row, Nat.or_assoc, ← ctr_p h]; exact inv j
theorem stepE {b1 b0 f : Nat → Nat} {p9 m k pl a m0 pl0 : Nat} (h : plainSv (f k) = -1) (inv : ∀ j, b1 (142 * p9 + j) ||| ctr f (m + 1) k pl j = b0 (142 * p9 + j) ||| ctr f m0 a pl0 j) : ∀ j, orB (orB b1 p9 pl 27 7) p9 (pl + 1) (escN (f k)) 7 (142 * p9 + j) ||| ctr f m (k + 1) (pl + 2) j = b0 (142 * p9 + j) ||| ctr f m0 a pl0 j := fun j => by
  rw [orB_row, orB_row, Nat.or_assoc, Nat.or_assoc, ← ctr_e h]; exact inv j

set_option maxHeartbeats 4000000 in
set_option maxRecDepth 100000 in
theorem c_m_puts (l : Launch) (G : ah_G) (h : ah_H) (y : Nat) (A : Nat → Nat) (k0 n rf pm zh lc c pt gv un : Nat) (fy : h y = some (20, .inr (8, mF A k0 n rf pm zh lc c pt gv un))) (bb : Nat → Nat) (fa8 : h (A 8) = some (28, .inl (G.2.2.1 0, 36210, .inl (nA bb)))) (p9 i9 sv : Nat) (hp9 : p9 < 255) (hi9 : i9 < 160) (hsv : sv < 128) : Met l yX9_puts wsX9_puts ({ frames := 0, cells := 0, slots := 0, locals := 0 }) (ah_Pc G [.ref y, .int (nI p9), .int (nI i9), .int (nI sv)] h) (ah_Qv G (fun h' => h' = ah_up h (A 8) (28, .inl (G.2.2.1 0, 36210, .inl (nA (orB bb p9 i9 sv 7)))))) 0 0 (ah_A G) := by
  refine ah_ofW (cc := cX9_puts) (maxL := 6) (ret := none) (by decide) rfl (Nat.le_of_ble_eq_true rfl) ?_
  intro p e s m below meth cd9 ls hx hb hr hml hown hlocks hname hts hE hR hS hl
  have hown : s.vm.findClass RX9 = some m.cls := hown
  have hl : lv_has ls 6 [(0, .ref y), (1, .int (nI p9)), (2, .int (nI i9)), (3, .int (nI sv))] := hl
  have k23 := hts (.fieldLink RX9 23 "TextPartsModel" "bytes" "[I") (by decide +kernel)
  have hinX9 : ∀ w ∈ wsX90, w ∈ wsX9_puts := by decide +kernel
  refine lv_iconst (v := nI 0) hx hb dX9_puts_0 (by decide) ?_
  refine lv_istore (lv' := [(4, .int (nI 0)), (0, .ref y), (1, .int (nI p9)), (2, .int (nI i9)), (3, .int (nI sv))]) hx hb dX9_puts_1 hl (by decide) rfl (fun ls hl => ?_)
  have fa80 : h (A 8) = some (28, .inl (G.2.2.1 0, 36210, .inl (nA (orB bb p9 i9 sv 0)))) := by rw [orB_0]; exact fa8
  have L3 : ∀ (N3 : Nat) (b : Nat) (h1 : ah_H) (H : Heap) (locs : List Loc) (ls : Array Slot), 7 - b < N3 → (b ≤ 7) → (h1 = ah_up h (A 8) (28, .inl (G.2.2.1 0, 36210, .inl (nA (orB bb p9 i9 sv b))))) → (h1 y = some (20, .inr (8, mF A k0 n rf pm zh lc c pt gv un))) → (h1 (A 8) = some (28, .inl (G.2.2.1 0, 36210, .inl (nA (orB bb p9 i9 sv b))))) → ah_R G h1 H → va_S (ah_A G) s.heap H locs → lv_has ls 6 [(4, .int (nI b)), (0, .ref y), (1, .int (nI p9)), (2, .int (nI i9)), (3, .int (nI sv))] → W p l e ({ frames := 0, cells := 0, slots := 0, locals := 0 }) s m ([.ref y, .int (nI p9), .int (nI i9), .int (nI sv)] : List Value).toArray below meth cd9 H locs 0 0 (MQ below (ah_Qv G (fun h' => h' = ah_up h (A 8) (28, .inl (G.2.2.1 0, 36210, .inl (nA (orB bb p9 i9 sv 7)))))) ([.ref y, .int (nI p9), .int (nI i9), .int (nI sv)] : List Value).toArray s 0 0 (ah_A G)) (F0 m 3 ls []) := by
    intro N3
    induction N3 with
    | zero => intro b h1 H locs ls hN; exact absurd hN (Nat.not_lt_zero _)
    | succ N3 ih3 =>
      intro b h1 H locs ls hN3 hb7 eh1 fy1 fa81 hR hS hl
      refine lv_iload hx hb dX9_puts_3 (lv_at hl 0 rfl) ?_
      refine lv_bipush (v := nI 7) hx hb dX9_puts_5 (by decide) ?_
      refine lv_icmp_ge (tgt := 58) hx hb dX9_puts_7 (by decide) (fun c_1 => ?_) (fun c_1 => ?_)
      · skip
        have c_1 : 7 ≤ b := (nI_leI (by omega) (by omega)).mp c_1
        refine ah_vret hx hb hr hlocks hR hS dX9_puts_58 ?_
        rw [eh1, show b = 7 by omega]
      · skip
        have c_1 : ¬ (7 ≤ b) := fun z9 => c_1 ((nI_leI (by omega) (by omega)).mpr z9)
        refine lv_bipush (v := nI 7) hx hb dX9_puts_10 (by decide) ?_
        refine lv_iload_n hx hb dX9_puts_12 rfl (lv_at hl 3 rfl) ?_
        refine lv_imul hx hb dX9_puts_13 ?_
        refine ah_toi (v := nI (7 * i9)) (pk_mul _ _) ?_
        refine lv_iload hx hb dX9_puts_14 (lv_at hl 0 rfl) ?_
        refine lv_iadd hx hb dX9_puts_16 ?_
        refine ah_toi (v := nI ((7 * i9) + b)) (nI_add _ _) ?_
        refine lv_istore (lv' := [(5, .int (nI ((7 * i9) + b))), (4, .int (nI b)), (0, .ref y), (1, .int (nI p9)), (2, .int (nI i9)), (3, .int (nI sv))]) hx hb dX9_puts_17 hl (by decide) rfl (fun ls hl => ?_)
        refine lv_aload_n hx hb dX9_puts_19 rfl (lv_at hl 2 rfl) ?_
        refine ah_get (ci := 8) (v := .ref (A 8)) (C := RX9) (T := TX9) (N := 27) hx hb hE hR hts hinX9 hown fy1 rfl 8 (by decide) k23 (fun _ h9 => h9) rfl dX9_puts_20 ?_
        refine lv_sipush (v := nI 142) hx hb dX9_puts_23 (by decide) ?_
        refine lv_iload_n hx hb dX9_puts_26 rfl (lv_at hl 3 rfl) ?_
        refine lv_imul hx hb dX9_puts_27 ?_
        refine ah_toi (v := nI (142 * p9)) (pk_mul _ _) ?_
        refine lv_iconst (v := nI 2) hx hb dX9_puts_28 (by decide) ?_
        refine lv_iadd hx hb dX9_puts_29 ?_
        refine ah_toi (v := nI ((142 * p9) + 2)) (nI_add _ _) ?_
        refine lv_iload hx hb dX9_puts_30 (lv_at hl 0 rfl) ?_
        refine lv_bipush (v := nI 8) hx hb dX9_puts_32 (by decide) ?_
        refine lv_idiv hx hb dX9_puts_34 (by decide) ?_
        refine ah_toi (v := nI (((7 * i9) + b) / 8)) (pk_div (by omega) (by omega) (by omega)) ?_
        refine lv_iadd hx hb dX9_puts_35 ?_
        refine ah_toi (v := nI (((142 * p9) + 2) + (((7 * i9) + b) / 8))) (nI_add _ _) ?_
        refine lv_dup2_11 hx hb dX9_puts_36 rfl rfl ?_
        refine ah_iald (i := (((142 * p9) + 2) + (((7 * i9) + b) / 8))) hx hb hE hR fa81 (by omega) (by omega) dX9_puts_37 ?_
        refine ah_toi (v := nI ((orB bb p9 i9 sv b) (((142 * p9) + 2) + (((7 * i9) + b) / 8)))) rfl ?_
        refine lv_iload_n hx hb dX9_puts_38 rfl (lv_at hl 5 rfl) ?_
        refine lv_iload hx hb dX9_puts_39 (lv_at hl 1 rfl) ?_
        refine lv_ishr hx hb dX9_puts_41 ?_
        refine ah_toi (v := nI (sv / 2 ^ b)) (ny_shr (by omega) (by omega)) ?_
        refine lv_iconst (v := nI 1) hx hb dX9_puts_42 (by decide) ?_
        refine lv_iand hx hb dX9_puts_43 ?_
        refine ah_toi (v := nI (sv / 2 ^ b % 2)) (ny_a1 _) ?_
        refine lv_iload hx hb dX9_puts_44 (lv_at hl 0 rfl) ?_
        refine lv_bipush (v := nI 8) hx hb dX9_puts_46 (by decide) ?_
        refine lv_irem hx hb dX9_puts_48 (by decide) ?_
        refine ah_toi (v := nI (((7 * i9) + b) % 8)) (pk_rem (by omega) (by omega) (by omega)) ?_
        have hp7 : 2 ^ ((7 * i9 + b) % 8) ≤ 2 ^ 7 := Nat.pow_le_pow_right (by decide) (by omega)
        have hm7 : sv / 2 ^ b % 2 * 2 ^ ((7 * i9 + b) % 8) ≤ 1 * 2 ^ 7 := Nat.mul_le_mul (by omega) hp7
        refine lv_ishl hx hb dX9_puts_49 ?_
        refine ah_toi (v := nI (sv / 2 ^ b % 2 * 2 ^ ((7 * i9 + b) % 8))) (ny_shl (by omega) (by omega)) ?_
        refine lv_ior hx hb dX9_puts_50 ?_
        refine ah_toi (v := nI (orB bb p9 i9 sv b (142 * p9 + 2 + (7 * i9 + b) / 8) ||| sv / 2 ^ b % 2 * 2 ^ ((7 * i9 + b) % 8))) (ny_or _ _) ?_
        refine ah_iast (i := (((142 * p9) + 2) + (((7 * i9) + b) / 8))) hx hb hE hR hS fa81 (by omega) (by omega) dX9_puts_51 (fun H locs hR hS => ?_)
        rw [nA_upd] at hR
        obtain ⟨h_2, e_3⟩ : ∃ zz9, zz9 = ah_up h1 (A 8) (28, .inl (G.2.2.1 0, 36210, .inl (nA (gU (orB bb p9 i9 sv b) (((142 * p9) + 2) + (((7 * i9) + b) / 8)) (orB bb p9 i9 sv b (142 * p9 + 2 + (7 * i9 + b) / 8) ||| sv / 2 ^ b % 2 * 2 ^ ((7 * i9 + b) % 8)))))) := ⟨_, rfl⟩
        have hR : ah_R G h_2 H := by rw [e_3]; exact hR
        have f_4 : h_2 y = some (20, .inr (8, mF A k0 n rf pm zh lc c pt gv un)) := by rw [e_3]; exact ah_keep fy1 fa81 (by omega)
        have f_5 : h_2 (A 8) = some (28, .inl (G.2.2.1 0, 36210, .inl (nA (gU (orB bb p9 i9 sv b) (((142 * p9) + 2) + (((7 * i9) + b) / 8)) (orB bb p9 i9 sv b (142 * p9 + 2 + (7 * i9 + b) / 8) ||| sv / 2 ^ b % 2 * 2 ^ ((7 * i9 + b) % 8)))))) := by rw [e_3]; exact ah_up_s _ _ _
        have f_6 : h_2 (A 8) = some (28, .inl (G.2.2.1 0, 36210, .inl (nA (orB bb p9 i9 sv (b + 1))))) := by rw [← orB_s]; exact f_5
        refine lv_iinc (v := nI (b + 1)) (lv' := [(4, .int (nI (b + 1))), (5, .int (nI ((7 * i9) + b))), (0, .ref y), (1, .int (nI p9)), (2, .int (nI i9)), (3, .int (nI sv))]) hx hb dX9_puts_52 hl (k := 1) rfl (show nI b + Int32.ofInt 1 = nI (b + 1) from nI_add _ 1) (by decide) rfl (fun ls hl => ?_)
        refine lv_goto (tgt := 3) hx hb dX9_puts_55 (by decide) ?_
        exact ih3  (b + 1) h_2 _ _ ls (by omega) (by omega) (by rw [e_3, eh1, ah_up2, orB_s]) f_4 f_6 hR hS (lv_sub hl [0, 2, 3, 4, 5] rfl)
  exact L3 ((7 - 0) + 1) 0 h _ _ ls (by omega) (by omega) (by rw [orB_0, ah_up_id fa8]) fy fa80 hR hS (lv_sub hl [0, 1, 2, 3, 4] rfl)

set_option maxHeartbeats 4000000 in
set_option maxRecDepth 100000 in
theorem c_m_part (l : Launch) (G : ah_G) (h : ah_H) (y : Nat) (A : Nat → Nat) (k0 n rf pm zh lc c pt gv un : Nat) (fy : h y = some (20, .inr (8, mF A k0 n rf pm zh lc c pt gv un))) (fa1 : h (A 1) = some (21, .inl (G.2.2.1 0, 128, .inl plT))) (fa2 : h (A 2) = some (22, .inl (G.2.2.1 0, 128, .inl esT))) (tx : Nat → Nat) (fa4 : h (A 4) = some (24, .inl (G.2.2.1 0, 3000, .inl (nA tx)))) (ln : Nat → Nat) (fa7 : h (A 7) = some (27, .inl (G.2.2.1 0, 255, .inl (nA ln)))) (bb : Nat → Nat) (fa8 : h (A 8) = some (28, .inl (G.2.2.1 0, 36210, .inl (nA bb)))) (hn : n ≤ 3000) (hf : ∀ j, tx j < 65536) (p9 a mny pb of9 od : Nat) (hp9 : p9 < 255) (hab : a + mny ≤ n) (hpb : pb ≤ 1) (hof : of9 ≤ 255) (hod : od = if of9 = 0 then 0 else 1) (hrf : rf < 256) (hin : pb = 0 → ∀ i, a ≤ i → i < a + mny → svFor (tx i) ≠ 0) (htot : pb = 0 → 7 * od + sumS tx a mny ≤ 160) (htot2 : pb ≠ 0 → 6 * od + 2 * mny ≤ 140) : Met l yX9_part wsX9_part ({ frames := 1, cells := 0, slots := 0, locals := 25 }) (ah_Pc G [.ref y, .int (nI p9), .int (nI a), .int (nI mny), .int (nI pb), .int (nI of9)] h) (ah_Qv G (fun h' => ∃ (b2 : Nat → Nat) (zz : Nat), h' = ah_up (ah_up h (A 8) (28, .inl (G.2.2.1 0, 36210, .inl (nA b2)))) (A 7) (27, .inl (G.2.2.1 0, 255, .inl (nA (gU ln p9 zz)))) ∧ (∀ x, (x < 142 * p9 ∨ 142 * p9 + 142 ≤ x) → b2 x = bb x) ∧ (pb = 0 → zz = sevZ tx od a (a + mny) ∧ ∀ j, j < zz → b2 (142 * p9 + j) = (if od = 1 then hdrG (sevG tx od a (a + mny)) (sevZ tx od a (a + mny)) rf of9 (p9 + 1) else sevG tx od a (a + mny)) j) ∧ (pb ≠ 0 → zz = pairZ od a (a + mny) ∧ ∀ j, j < zz → b2 (142 * p9 + j) = (if od = 1 then hdrG (pairG tx od a (a + mny)) (pairZ od a (a + mny)) rf of9 (p9 + 1) else pairG tx od a (a + mny)) j))) 0 0 (ah_A G) := by
  refine ah_ofW (cc := cX9_part) (maxL := 10) (ret := none) (by decide) rfl (Nat.le_of_ble_eq_true rfl) ?_
  intro p e s m below meth cd9 ls hx hb hr hml hown hlocks hname hts hE hR hS hl
  have hown : s.vm.findClass RX9 = some m.cls := hown
  have hl : lv_has ls 10 [(0, .ref y), (1, .int (nI p9)), (2, .int (nI a)), (3, .int (nI mny)), (4, .int (nI pb)), (5, .int (nI of9))] := hl
  have k23 := hts (.fieldLink RX9 23 "TextPartsModel" "bytes" "[I") (by decide +kernel)
  have hinX9 : ∀ w ∈ wsX90, w ∈ wsX9_part := by decide +kernel
  have k19 := hts (.fieldLink RX9 19 "TextPartsModel" "lengths" "[I") (by decide +kernel)
  have k16 := hts (.fieldLink RX9 16 "TextPartsModel" "text" "[I") (by decide +kernel)
  have k101 := hts (.fieldLink RX9 101 "TextPartsModel" "reference" "I") (by decide +kernel)
  by_cases ho : of9 = 0
  · skip
    rw [if_pos ho] at hod
    by_cases hq : pb = 0
    · skip
      have htt := htot hq
      refine lv_sipush (v := nI 142) hx hb dX9_part_0 (by decide) ?_
      refine lv_iload_n hx hb dX9_part_3 rfl (lv_at hl 1 rfl) ?_
      refine lv_imul hx hb dX9_part_4 ?_
      refine ah_toi (v := nI (142 * p9)) (pk_mul _ _) ?_
      refine lv_istore (lv' := [(6, .int (nI (142 * p9))), (0, .ref y), (1, .int (nI p9)), (2, .int (nI a)), (3, .int (nI mny)), (4, .int (nI pb)), (5, .int (nI of9))]) hx hb dX9_part_5 hl (by decide) rfl (fun ls hl => ?_)
      refine lv_iconst (v := nI 0) hx hb dX9_part_7 (by decide) ?_
      refine lv_istore (lv' := [(7, .int (nI 0)), (6, .int (nI (142 * p9))), (0, .ref y), (1, .int (nI p9)), (2, .int (nI a)), (3, .int (nI mny)), (4, .int (nI pb)), (5, .int (nI of9))]) hx hb dX9_part_8 hl (by decide) rfl (fun ls hl => ?_)
      have fa80 : h (A 8) = some (28, .inl (G.2.2.1 0, 36210, .inl (nA (zR bb p9 0)))) := by rw [zR_0]; exact fa8
      have L10 : ∀ (N10 : Nat) (k : Nat) (h1 : ah_H) (H : Heap) (locs : List Loc) (ls : Array Slot), 142 - k < N10 → (k ≤ 142) → (h1 = ah_up h (A 8) (28, .inl (G.2.2.1 0, 36210, .inl (nA (zR bb p9 k))))) → (h1 y = some (20, .inr (8, mF A k0 n rf pm zh lc c pt gv un))) → (h1 (A 1) = some (21, .inl (G.2.2.1 0, 128, .inl plT))) → (h1 (A 2) = some (22, .inl (G.2.2.1 0, 128, .inl esT))) → (h1 (A 4) = some (24, .inl (G.2.2.1 0, 3000, .inl (nA tx)))) → (h1 (A 7) = some (27, .inl (G.2.2.1 0, 255, .inl (nA ln)))) → (h1 (A 8) = some (28, .inl (G.2.2.1 0, 36210, .inl (nA (zR bb p9 k))))) → ah_R G h1 H → va_S (ah_A G) s.heap H locs → lv_has ls 10 [(7, .int (nI k)), (0, .ref y), (1, .int (nI p9)), (2, .int (nI a)), (3, .int (nI mny)), (4, .int (nI pb)), (5, .int (nI of9)), (6, .int (nI (142 * p9)))] → W p l e ({ frames := 1, cells := 0, slots := 0, locals := 25 }) s m ([.ref y, .int (nI p9), .int (nI a), .int (nI mny), .int (nI pb), .int (nI of9)] : List Value).toArray below meth cd9 H locs 0 0 (MQ below (ah_Qv G (fun h' => ∃ (b2 : Nat → Nat) (zz : Nat), h' = ah_up (ah_up h (A 8) (28, .inl (G.2.2.1 0, 36210, .inl (nA b2)))) (A 7) (27, .inl (G.2.2.1 0, 255, .inl (nA (gU ln p9 zz)))) ∧ (∀ x, (x < 142 * p9 ∨ 142 * p9 + 142 ≤ x) → b2 x = bb x) ∧ (pb = 0 → zz = sevZ tx od a (a + mny) ∧ ∀ j, j < zz → b2 (142 * p9 + j) = (if od = 1 then hdrG (sevG tx od a (a + mny)) (sevZ tx od a (a + mny)) rf of9 (p9 + 1) else sevG tx od a (a + mny)) j) ∧ (pb ≠ 0 → zz = pairZ od a (a + mny) ∧ ∀ j, j < zz → b2 (142 * p9 + j) = (if od = 1 then hdrG (pairG tx od a (a + mny)) (pairZ od a (a + mny)) rf of9 (p9 + 1) else pairG tx od a (a + mny)) j))) ([.ref y, .int (nI p9), .int (nI a), .int (nI mny), .int (nI pb), .int (nI of9)] : List Value).toArray s 0 0 (ah_A G)) (F0 m 10 ls []) := by
        intro N10
        induction N10 with
        | zero => intro k h1 H locs ls hN; exact absurd hN (Nat.not_lt_zero _)
        | succ N10 ih10 =>
          intro k h1 H locs ls hN10 hk eh1 fy1 fa11 fa21 fa41 fa71 fa81 hR hS hl
          refine lv_iload hx hb dX9_part_10 (lv_at hl 0 rfl) ?_
          refine lv_sipush (v := nI 142) hx hb dX9_part_12 (by decide) ?_
          refine lv_icmp_ge (tgt := 35) hx hb dX9_part_15 (by decide) (fun c_1 => ?_) (fun c_1 => ?_)
          · skip
            have c_1 : 142 ≤ k := (nI_leI (by omega) (by omega)).mp c_1
            have ek : k = 142 := by omega
            subst ek
            refine lv_aload_n hx hb dX9_part_35 rfl (lv_at hl 1 rfl) ?_
            refine ah_get (ci := 8) (v := .ref (A 8)) (C := RX9) (T := TX9) (N := 27) hx hb hE hR hts hinX9 hown fy1 rfl 8 (by decide) k23 (fun _ h9 => h9) rfl dX9_part_36 ?_
            refine lv_iload hx hb dX9_part_39 (lv_at hl 7 rfl) ?_
            refine lv_iload hx hb dX9_part_41 (lv_at hl 6 rfl) ?_
            refine lv_if_le (tgt := 50) hx hb dX9_part_43 (by decide) (fun c_2 => ?_) (fun c_2 => ?_)
            · skip
              have c_2 : of9 ≤ 0 := (zi_le (by omega)).mp c_2
              refine lv_iconst (v := nI 0) hx hb dX9_part_50 (by decide) ?_
              refine lv_iload hx hb dX9_part_51 (lv_at hl 5 rfl) ?_
              refine lv_if_eq (tgt := 60) hx hb dX9_part_53 (by decide) (fun c_3 => ?_) (fun c_3 => ?_)
              · skip
                have c_3 : pb = 0 := (zi_eq (by omega)).mp c_3
                refine lv_iconst (v := nI 0) hx hb dX9_part_60 (by decide) ?_
                refine lv_iadd hx hb dX9_part_61 ?_
                refine ah_toi (v := nI (0)) (by decide +kernel) ?_
                refine ah_iast (i := (142 * p9)) hx hb hE hR hS fa81 (by omega) (by omega) dX9_part_62 (fun H locs hR hS => ?_)
                rw [nA_upd] at hR
                obtain ⟨h_4, e_5⟩ : ∃ zz9, zz9 = ah_up h1 (A 8) (28, .inl (G.2.2.1 0, 36210, .inl (nA (gU (zR bb p9 142) (142 * p9) 0)))) := ⟨_, rfl⟩
                have hR : ah_R G h_4 H := by rw [e_5]; exact hR
                have f_6 : h_4 y = some (20, .inr (8, mF A k0 n rf pm zh lc c pt gv un)) := by rw [e_5]; exact ah_keep fy1 fa81 (by omega)
                have f_7 : h_4 (A 1) = some (21, .inl (G.2.2.1 0, 128, .inl plT)) := by rw [e_5]; exact ah_keep fa11 fa81 (by omega)
                have f_8 : h_4 (A 2) = some (22, .inl (G.2.2.1 0, 128, .inl esT)) := by rw [e_5]; exact ah_keep fa21 fa81 (by omega)
                have f_9 : h_4 (A 4) = some (24, .inl (G.2.2.1 0, 3000, .inl (nA tx))) := by rw [e_5]; exact ah_keep fa41 fa81 (by omega)
                have f_10 : h_4 (A 7) = some (27, .inl (G.2.2.1 0, 255, .inl (nA ln))) := by rw [e_5]; exact ah_keep fa71 fa81 (by omega)
                have f_11 : h_4 (A 8) = some (28, .inl (G.2.2.1 0, 36210, .inl (nA (gU (zR bb p9 142) (142 * p9) 0)))) := by rw [e_5]; exact ah_up_s _ _ _
                refine lv_iload hx hb dX9_part_63 (lv_at hl 6 rfl) ?_
                refine lv_if_le (tgt := 126) hx hb dX9_part_65 (by decide) (fun c_12 => ?_) (fun c_12 => ?_)
                · skip
                  have c_12 : of9 ≤ 0 := (zi_le (by omega)).mp c_12
                  refine lv_iload hx hb dX9_part_126 (lv_at hl 6 rfl) ?_
                  refine lv_if_ne (tgt := 135) hx hb dX9_part_128 (by decide) (fun c_13 => ?_) (fun c_13 => ?_)
                  · skip
                    have c_13 : ¬ (of9 = 0) := fun z9 => c_13 ((zi_eq (by omega)).mpr z9)
                    exact absurd c_13 (by omega)
                  · skip
                    have c_13 : of9 = 0 := (zi_eq (by omega)).mp c_13
                    refine lv_iconst (v := nI 0) hx hb dX9_part_131 (by decide) ?_
                    refine lv_goto (tgt := 147) hx hb dX9_part_132 (by decide) ?_
                    refine lv_istore (lv' := [(7, .int (nI 0)), (0, .ref y), (1, .int (nI p9)), (2, .int (nI a)), (3, .int (nI mny)), (4, .int (nI pb)), (5, .int (nI of9)), (6, .int (nI (142 * p9)))]) hx hb dX9_part_147 hl (by decide) rfl (fun ls hl => ?_)
                    obtain ⟨b0, eb0⟩ : ∃ b9 : Nat → Nat, b9 = (gU (zR bb p9 142) (142 * p9) 0) := ⟨_, rfl⟩
                    have f_14 : h_4 (A 8) = some (28, .inl (G.2.2.1 0, 36210, .inl (nA b0))) := by rw [eb0]; exact f_11
                    have ehb : h_4 = ah_up h (A 8) (28, .inl (G.2.2.1 0, 36210, .inl (nA b0))) := by rw [eb0, e_5, eh1]; simp only [ah_up2]
                    have hb0 : (∀ j, j < 142 → b0 (142 * p9 + j) = hB od (od) rf of9 (p9 + 1) j) ∧ ∀ x, (x < 142 * p9 ∨ 142 * p9 + 142 ≤ x) → b0 x = bb x := by rw [eb0, hod]; exact hB0
                    refine lv_iload_n hx hb dX9_part_149 rfl (lv_at hl 3 rfl) ?_
                    refine lv_istore (lv' := [(8, .int (nI a)), (7, .int (nI 0)), (0, .ref y), (1, .int (nI p9)), (2, .int (nI a)), (3, .int (nI mny)), (4, .int (nI pb)), (5, .int (nI of9)), (6, .int (nI (142 * p9)))]) hx hb dX9_part_150 hl (by decide) rfl (fun ls hl => ?_)
                    have epl0 : 0 = 7 * od + sumS tx a (a - a) := by rw [hod, Nat.sub_self]; rfl
                    have L152 : ∀ (N152 : Nat) (k : Nat) (pl : Nat) (b1 : Nat → Nat) (h2 : ah_H) (H : Heap) (locs : List Loc) (ls : Array Slot), a + mny - k < N152 → (a ≤ k) → (k ≤ a + mny) → (pl = 7 * od + sumS tx a (k - a)) → (∀ j, b1 (142 * p9 + j) ||| ctr tx (a + mny - k) k pl j = b0 (142 * p9 + j) ||| ctr tx mny a (7 * od) j) → (∀ x, (x < 142 * p9 ∨ 142 * p9 + 142 ≤ x) → b1 x = b0 x) → (h2 = ah_up h (A 8) (28, .inl (G.2.2.1 0, 36210, .inl (nA b1)))) → (h2 y = some (20, .inr (8, mF A k0 n rf pm zh lc c pt gv un))) → (h2 (A 1) = some (21, .inl (G.2.2.1 0, 128, .inl plT))) → (h2 (A 2) = some (22, .inl (G.2.2.1 0, 128, .inl esT))) → (h2 (A 4) = some (24, .inl (G.2.2.1 0, 3000, .inl (nA tx)))) → (h2 (A 7) = some (27, .inl (G.2.2.1 0, 255, .inl (nA ln)))) → (h2 (A 8) = some (28, .inl (G.2.2.1 0, 36210, .inl (nA b1)))) → ah_R G h2 H → va_S (ah_A G) s.heap H locs → lv_has ls 10 [(8, .int (nI k)), (7, .int (nI pl)), (0, .ref y), (1, .int (nI p9)), (2, .int (nI a)), (3, .int (nI mny)), (4, .int (nI pb)), (5, .int (nI of9)), (6, .int (nI (142 * p9)))] → W p l e ({ frames := 1, cells := 0, slots := 0, locals := 25 }) s m ([.ref y, .int (nI p9), .int (nI a), .int (nI mny), .int (nI pb), .int (nI of9)] : List Value).toArray below meth cd9 H locs 0 0 (MQ below (ah_Qv G (fun h' => ∃ (b2 : Nat → Nat) (zz : Nat), h' = ah_up (ah_up h (A 8) (28, .inl (G.2.2.1 0, 36210, .inl (nA b2)))) (A 7) (27, .inl (G.2.2.1 0, 255, .inl (nA (gU ln p9 zz)))) ∧ (∀ x, (x < 142 * p9 ∨ 142 * p9 + 142 ≤ x) → b2 x = bb x) ∧ (pb = 0 → zz = sevZ tx od a (a + mny) ∧ ∀ j, j < zz → b2 (142 * p9 + j) = (if od = 1 then hdrG (sevG tx od a (a + mny)) (sevZ tx od a (a + mny)) rf of9 (p9 + 1) else sevG tx od a (a + mny)) j) ∧ (pb ≠ 0 → zz = pairZ od a (a + mny) ∧ ∀ j, j < zz → b2 (142 * p9 + j) = (if od = 1 then hdrG (pairG tx od a (a + mny)) (pairZ od a (a + mny)) rf of9 (p9 + 1) else pairG tx od a (a + mny)) j))) ([.ref y, .int (nI p9), .int (nI a), .int (nI mny), .int (nI pb), .int (nI of9)] : List Value).toArray s 0 0 (ah_A G)) (F0 m 152 ls []) := by
                      intro N152
                      induction N152 with
                      | zero => intro k pl b1 h2 H locs ls hN; exact absurd hN (Nat.not_lt_zero _)
                      | succ N152 ih152 =>
                        intro k pl b1 h2 H locs ls hN152 hk hkn epl inv out eh2 fy2 fa12 fa22 fa42 fa72 fa82 hR hS hl
                        refine lv_iload hx hb dX9_part_152 (lv_at hl 0 rfl) ?_
                        refine lv_iload_n hx hb dX9_part_154 rfl (lv_at hl 4 rfl) ?_
                        refine lv_iload_n hx hb dX9_part_155 rfl (lv_at hl 5 rfl) ?_
                        refine lv_iadd hx hb dX9_part_156 ?_
                        refine ah_toi (v := nI (a + mny)) (nI_add _ _) ?_
                        refine lv_icmp_ge (tgt := 269) hx hb dX9_part_157 (by decide) (fun c_15 => ?_) (fun c_15 => ?_)
                        · skip
                          have c_15 : (a + mny) ≤ k := (nI_leI (by omega) (by omega)).mp c_15
                          have ekk : k = a + mny := by omega
                          subst ekk
                          have eplF : pl = 7 * od + sumS tx a mny := by rw [epl, show a + mny - a = mny by omega]
                          have inv9 : ∀ j, b1 (142 * p9 + j) = b0 (142 * p9 + j) ||| ctr tx mny a (7 * od) j := fun j => by have := inv j; rw [Nat.sub_self] at this; rw [← this]; exact (Nat.or_zero _).symm
                          refine lv_aload_n hx hb dX9_part_269 rfl (lv_at hl 2 rfl) ?_
                          refine ah_get (ci := 8) (v := .ref (A 8)) (C := RX9) (T := TX9) (N := 27) hx hb hE hR hts hinX9 hown fy2 rfl 8 (by decide) k23 (fun _ h9 => h9) rfl dX9_part_270 ?_
                          refine lv_iload hx hb dX9_part_273 (lv_at hl 8 rfl) ?_
                          refine lv_iconst (v := nI 1) hx hb dX9_part_275 (by decide) ?_
                          refine lv_iadd hx hb dX9_part_276 ?_
                          refine ah_toi (v := nI ((142 * p9) + 1)) (nI_add _ _) ?_
                          refine lv_iload hx hb dX9_part_277 (lv_at hl 1 rfl) ?_
                          refine ah_iast (i := ((142 * p9) + 1)) hx hb hE hR hS fa82 (by omega) (by omega) dX9_part_279 (fun H locs hR hS => ?_)
                          rw [nA_upd] at hR
                          obtain ⟨h_16, e_17⟩ : ∃ zz9, zz9 = ah_up h2 (A 8) (28, .inl (G.2.2.1 0, 36210, .inl (nA (gU b1 ((142 * p9) + 1) pl)))) := ⟨_, rfl⟩
                          have hR : ah_R G h_16 H := by rw [e_17]; exact hR
                          have f_18 : h_16 y = some (20, .inr (8, mF A k0 n rf pm zh lc c pt gv un)) := by rw [e_17]; exact ah_keep fy2 fa82 (by omega)
                          have f_19 : h_16 (A 1) = some (21, .inl (G.2.2.1 0, 128, .inl plT)) := by rw [e_17]; exact ah_keep fa12 fa82 (by omega)
                          have f_20 : h_16 (A 2) = some (22, .inl (G.2.2.1 0, 128, .inl esT)) := by rw [e_17]; exact ah_keep fa22 fa82 (by omega)
                          have f_21 : h_16 (A 4) = some (24, .inl (G.2.2.1 0, 3000, .inl (nA tx))) := by rw [e_17]; exact ah_keep fa42 fa82 (by omega)
                          have f_22 : h_16 (A 7) = some (27, .inl (G.2.2.1 0, 255, .inl (nA ln))) := by rw [e_17]; exact ah_keep fa72 fa82 (by omega)
                          have f_23 : h_16 (A 8) = some (28, .inl (G.2.2.1 0, 36210, .inl (nA (gU b1 ((142 * p9) + 1) pl)))) := by rw [e_17]; exact ah_up_s _ _ _
                          refine lv_aload_n hx hb dX9_part_280 rfl (lv_at hl 2 rfl) ?_
                          refine ah_get (ci := 8) (v := .ref (A 7)) (C := RX9) (T := TX9) (N := 27) hx hb hE hR hts hinX9 hown f_18 rfl 7 (by decide) k19 (fun _ h9 => h9) rfl dX9_part_281 ?_
                          refine lv_iload_n hx hb dX9_part_284 rfl (lv_at hl 3 rfl) ?_
                          refine lv_iconst (v := nI 2) hx hb dX9_part_285 (by decide) ?_
                          refine lv_iload hx hb dX9_part_286 (lv_at hl 6 rfl) ?_
                          refine lv_if_eq (tgt := 296) hx hb dX9_part_288 (by decide) (fun c_24 => ?_) (fun c_24 => ?_)
                          · skip
                            have c_24 : pb = 0 := (zi_eq (by omega)).mp c_24
                            refine lv_bipush (v := nI 7) hx hb dX9_part_296 (by decide) ?_
                            refine lv_iload hx hb dX9_part_298 (lv_at hl 1 rfl) ?_
                            refine lv_imul hx hb dX9_part_300 ?_
                            refine ah_toi (v := nI (7 * pl)) (pk_mul _ _) ?_
                            refine lv_bipush (v := nI 7) hx hb dX9_part_301 (by decide) ?_
                            refine lv_iadd hx hb dX9_part_303 ?_
                            refine ah_toi (v := nI ((7 * pl) + 7)) (nI_add _ _) ?_
                            refine lv_bipush (v := nI 8) hx hb dX9_part_304 (by decide) ?_
                            refine lv_idiv hx hb dX9_part_306 (by decide) ?_
                            refine ah_toi (v := nI (((7 * pl) + 7) / 8)) (pk_div (by omega) (by omega) (by omega)) ?_
                            refine lv_iadd hx hb dX9_part_307 ?_
                            refine ah_toi (v := nI (2 + (((7 * pl) + 7) / 8))) (nI_add _ _) ?_
                            refine ah_iast (i := p9) hx hb hE hR hS f_22 (by omega) (by omega) dX9_part_308 (fun H locs hR hS => ?_)
                            rw [nA_upd] at hR
                            obtain ⟨h_25, e_26⟩ : ∃ zz9, zz9 = ah_up h_16 (A 7) (27, .inl (G.2.2.1 0, 255, .inl (nA (gU ln p9 (2 + (((7 * pl) + 7) / 8)))))) := ⟨_, rfl⟩
                            have hR : ah_R G h_25 H := by rw [e_26]; exact hR
                            have f_27 : h_25 y = some (20, .inr (8, mF A k0 n rf pm zh lc c pt gv un)) := by rw [e_26]; exact ah_keep f_18 f_22 (by omega)
                            have f_28 : h_25 (A 1) = some (21, .inl (G.2.2.1 0, 128, .inl plT)) := by rw [e_26]; exact ah_keep f_19 f_22 (by omega)
                            have f_29 : h_25 (A 2) = some (22, .inl (G.2.2.1 0, 128, .inl esT)) := by rw [e_26]; exact ah_keep f_20 f_22 (by omega)
                            have f_30 : h_25 (A 4) = some (24, .inl (G.2.2.1 0, 3000, .inl (nA tx))) := by rw [e_26]; exact ah_keep f_21 f_22 (by omega)
                            have f_31 : h_25 (A 7) = some (27, .inl (G.2.2.1 0, 255, .inl (nA (gU ln p9 (2 + (((7 * pl) + 7) / 8)))))) := by rw [e_26]; exact ah_up_s _ _ _
                            have f_32 : h_25 (A 8) = some (28, .inl (G.2.2.1 0, 36210, .inl (nA (gU b1 ((142 * p9) + 1) pl)))) := by rw [e_26]; exact ah_keep f_23 f_22 (by omega)
                            refine ah_vret hx hb hr hlocks hR hS dX9_part_309 ?_
                            refine ⟨gU b1 (142 * p9 + 1) pl, (2 + (((7 * pl) + 7) / 8)), by rw [e_26, e_17, eh2, ah_up2], fun x hx9 => by rw [gU_n (by omega), out x hx9]; exact hb0.2 x hx9, ?_, ?_⟩
                            · intro _
                              have ez : (2 + (((7 * pl) + 7) / 8)) = sevZ tx od a (a + mny) := by unfold sevZ bfs; rw [show a + mny - a = mny by omega, eplF]
                              refine ⟨ez, fun j hj => ?_⟩
                              rw [ez] at hj
                              have hj2 : j < 142 := by unfold sevZ bfs at hj; rw [show a + mny - a = mny by omega] at hj; omega
                              rw [sevG_at (by omega) hj, show a + mny - a = mny by omega, finS (by omega), ← eplF]
                              by_cases j1 : j = 1
                              · subst j1; rw [gU_s, if_pos rfl]
                              · rw [gU_n (by omega), if_neg j1, inv9, hb0.1 j hj2]
                            · intro z9; exact absurd hq z9
                          · skip
                            have c_24 : ¬ (pb = 0) := fun z9 => c_24 ((zi_eq (by omega)).mpr z9)
                            exact absurd c_24 (by omega)
                        · skip
                          have c_15 : ¬ ((a + mny) ≤ k) := fun z9 => c_15 ((nI_leI (by omega) (by omega)).mpr z9)
                          have hfk := hf k
                          have hsn := hin hq k hk (by omega)
                          have hmo := sumS_mono tx a mny (k + 1 - a) (by omega)
                          rw [sumS_k hk] at hmo
                          have hmm : a + mny - k = a + mny - (k + 1) + 1 := by omega
                          rw [hmm] at inv
                          refine lv_iload hx hb dX9_part_160 (lv_at hl 6 rfl) ?_
                          refine lv_if_eq (tgt := 216) hx hb dX9_part_162 (by decide) (fun c_33 => ?_) (fun c_33 => ?_)
                          · skip
                            have c_33 : pb = 0 := (zi_eq (by omega)).mp c_33
                            refine lv_aload_n hx hb dX9_part_216 rfl (lv_at hl 2 rfl) ?_
                            refine lv_aload_n hx hb dX9_part_217 rfl (lv_at hl 2 rfl) ?_
                            refine ah_get (ci := 8) (v := .ref (A 4)) (C := RX9) (T := TX9) (N := 27) hx hb hE hR hts hinX9 hown fy2 rfl 4 (by decide) k16 (fun _ h9 => h9) rfl dX9_part_218 ?_
                            refine lv_iload hx hb dX9_part_221 (lv_at hl 0 rfl) ?_
                            refine ah_iald (i := k) hx hb hE hR fa42 (by omega) (by omega) dX9_part_223 ?_
                            refine ah_toi (v := nI (tx k)) rfl ?_
                            refine ah_calli (va_runV (As := [.int (nI (tx k))]) (rest := []) ⟨hx, hb, hml, hown, hts⟩ (c_m_sevenOf l G h2 y A k0 n rf pm zh lc c pt gv un fy2 fa12 fa22 (tx k) (by omega)) (cwV 1 hts gX9_part_X9_sevenOf rfl rfl rfl (by decide +kernel) ⟨Nat.le_of_ble_eq_true rfl, Nat.le_of_ble_eq_true rfl⟩) (ah_preV hE hR hS fy2 rfl) rfl rfl hl.1 rfl (lv_room (Nat.le_of_ble_eq_true rfl)) dX9_part_224 ⟨Nat.le_of_ble_eq_true rfl, Nat.le_of_ble_eq_true rfl⟩) hS (fun r_36 h_34 H locs p_35 hR hS => ?_)
                            obtain ⟨e_37, e_38⟩ := p_35
                            rw [e_38] at hR
                            have hen := escN_lt (tx k); have hpn := plainN_lt (tx k)
                            by_cases hpl : plainSv (tx k) = -1
                            · skip
                              have hsf := (svFor2 hpl hsn).1
                              refine ah_toi (v := nI (128 + escN (tx k))) (by rw [e_37]; exact sv9_e hpl hsn) ?_
                              refine lv_istore (lv' := [(9, .int (nI (128 + escN (tx k)))), (8, .int (nI k)), (7, .int (nI pl)), (0, .ref y), (1, .int (nI p9)), (2, .int (nI a)), (3, .int (nI mny)), (4, .int (nI pb)), (5, .int (nI of9)), (6, .int (nI (142 * p9)))]) hx hb dX9_part_227 hl (by decide) rfl (fun ls hl => ?_)
                              refine lv_iload hx hb dX9_part_229 (lv_at hl 0 rfl) ?_
                              refine lv_bipush (v := nI 127) hx hb dX9_part_231 (by decide) ?_
                              refine lv_icmp_le (tgt := 248) hx hb dX9_part_233 (by decide) (fun c_39 => ?_) (fun c_39 => ?_)
                              · skip
                                have c_39 : (128 + escN (tx k)) ≤ 127 := (nI_leI (by omega) (by omega)).mp c_39
                                exact absurd c_39 (by omega)
                              · skip
                                have c_39 : ¬ ((128 + escN (tx k)) ≤ 127) := fun z9 => c_39 ((nI_leI (by omega) (by omega)).mpr z9)
                                refine lv_aload_n hx hb dX9_part_236 rfl (lv_at hl 3 rfl) ?_
                                refine lv_iload_n hx hb dX9_part_237 rfl (lv_at hl 4 rfl) ?_
                                refine lv_iload hx hb dX9_part_238 (lv_at hl 2 rfl) ?_
                                refine lv_bipush (v := nI 27) hx hb dX9_part_240 (by decide) ?_
                                refine ah_callv (va_runV (As := [.int (nI p9), .int (nI pl), .int (nI 27)]) (rest := []) ⟨hx, hb, hml, hown, hts⟩ (c_m_puts l G h2 y A k0 n rf pm zh lc c pt gv un fy2 b1 fa82 p9 pl 27 hp9 (by omega) (by omega)) (cwV 3 hts gX9_part_X9_puts rfl rfl rfl (by decide +kernel) ⟨Nat.le_of_ble_eq_true rfl, Nat.le_of_ble_eq_true rfl⟩) (ah_preV hE hR hS fy2 rfl) rfl rfl hl.1 rfl (lv_room (Nat.le_of_ble_eq_true rfl)) dX9_part_242 ⟨Nat.le_of_ble_eq_true rfl, Nat.le_of_ble_eq_true rfl⟩) hS (fun h_40 H locs p_41 hR hS => ?_)
                                have f_43 : h_40 y = some (20, .inr (8, mF A k0 n rf pm zh lc c pt gv un)) := by rw [p_41]; exact ah_keep fy2 fa82 (by omega)
                                have f_44 : h_40 (A 1) = some (21, .inl (G.2.2.1 0, 128, .inl plT)) := by rw [p_41]; exact ah_keep fa12 fa82 (by omega)
                                have f_45 : h_40 (A 2) = some (22, .inl (G.2.2.1 0, 128, .inl esT)) := by rw [p_41]; exact ah_keep fa22 fa82 (by omega)
                                have f_46 : h_40 (A 4) = some (24, .inl (G.2.2.1 0, 3000, .inl (nA tx))) := by rw [p_41]; exact ah_keep fa42 fa82 (by omega)
                                have f_47 : h_40 (A 7) = some (27, .inl (G.2.2.1 0, 255, .inl (nA ln))) := by rw [p_41]; exact ah_keep fa72 fa82 (by omega)
                                have f_48 : h_40 (A 8) = some (28, .inl (G.2.2.1 0, 36210, .inl (nA (orB b1 p9 pl 27 7)))) := by rw [p_41]; exact ah_up_s _ _ _
                                refine lv_iinc (v := nI (pl + 1)) (lv' := [(7, .int (nI (pl + 1))), (9, .int (nI (128 + escN (tx k)))), (8, .int (nI k)), (0, .ref y), (1, .int (nI p9)), (2, .int (nI a)), (3, .int (nI mny)), (4, .int (nI pb)), (5, .int (nI of9)), (6, .int (nI (142 * p9)))]) hx hb dX9_part_245 hl (k := 2) rfl (show nI pl + Int32.ofInt 1 = nI (pl + 1) from nI_add _ 1) (by decide) rfl (fun ls hl => ?_)
                                refine lv_aload_n hx hb dX9_part_248 rfl (lv_at hl 3 rfl) ?_
                                refine lv_iload_n hx hb dX9_part_249 rfl (lv_at hl 4 rfl) ?_
                                refine lv_iload hx hb dX9_part_250 (lv_at hl 0 rfl) ?_
                                refine lv_iload hx hb dX9_part_252 (lv_at hl 1 rfl) ?_
                                refine lv_bipush (v := nI 127) hx hb dX9_part_254 (by decide) ?_
                                refine lv_iand hx hb dX9_part_256 ?_
                                refine ah_toi (v := nI (escN (tx k))) (by rw [ny_a127, show (128 + escN (tx k)) % 128 = escN (tx k) by omega]) ?_
                                refine ah_callv (va_runV (As := [.int (nI p9), .int (nI (pl + 1)), .int (nI (escN (tx k)))]) (rest := []) ⟨hx, hb, hml, hown, hts⟩ (c_m_puts l G h_40 y A k0 n rf pm zh lc c pt gv un f_43 (orB b1 p9 pl 27 7) f_48 p9 (pl + 1) (escN (tx k)) hp9 (by omega) (by omega)) (cwV 3 hts gX9_part_X9_puts rfl rfl rfl (by decide +kernel) ⟨Nat.le_of_ble_eq_true rfl, Nat.le_of_ble_eq_true rfl⟩) (ah_preV hE hR hS f_43 rfl) rfl rfl hl.1 rfl (lv_room (Nat.le_of_ble_eq_true rfl)) dX9_part_257 ⟨Nat.le_of_ble_eq_true rfl, Nat.le_of_ble_eq_true rfl⟩) hS (fun h_49 H locs p_50 hR hS => ?_)
                                have f_52 : h_49 y = some (20, .inr (8, mF A k0 n rf pm zh lc c pt gv un)) := by rw [p_50]; exact ah_keep f_43 f_48 (by omega)
                                have f_53 : h_49 (A 1) = some (21, .inl (G.2.2.1 0, 128, .inl plT)) := by rw [p_50]; exact ah_keep f_44 f_48 (by omega)
                                have f_54 : h_49 (A 2) = some (22, .inl (G.2.2.1 0, 128, .inl esT)) := by rw [p_50]; exact ah_keep f_45 f_48 (by omega)
                                have f_55 : h_49 (A 4) = some (24, .inl (G.2.2.1 0, 3000, .inl (nA tx))) := by rw [p_50]; exact ah_keep f_46 f_48 (by omega)
                                have f_56 : h_49 (A 7) = some (27, .inl (G.2.2.1 0, 255, .inl (nA ln))) := by rw [p_50]; exact ah_keep f_47 f_48 (by omega)
                                have f_57 : h_49 (A 8) = some (28, .inl (G.2.2.1 0, 36210, .inl (nA (orB (orB b1 p9 pl 27 7) p9 (pl + 1) (escN (tx k)) 7)))) := by rw [p_50]; exact ah_up_s _ _ _
                                refine lv_iinc (v := nI ((pl + 1) + 1)) (lv' := [(7, .int (nI ((pl + 1) + 1))), (9, .int (nI (128 + escN (tx k)))), (8, .int (nI k)), (0, .ref y), (1, .int (nI p9)), (2, .int (nI a)), (3, .int (nI mny)), (4, .int (nI pb)), (5, .int (nI of9)), (6, .int (nI (142 * p9)))]) hx hb dX9_part_260 hl (k := 0) rfl (show nI (pl + 1) + Int32.ofInt 1 = nI ((pl + 1) + 1) from nI_add _ 1) (by decide) rfl (fun ls hl => ?_)
                                refine lv_iinc (v := nI (k + 1)) (lv' := [(8, .int (nI (k + 1))), (7, .int (nI ((pl + 1) + 1))), (9, .int (nI (128 + escN (tx k)))), (0, .ref y), (1, .int (nI p9)), (2, .int (nI a)), (3, .int (nI mny)), (4, .int (nI pb)), (5, .int (nI of9)), (6, .int (nI (142 * p9)))]) hx hb dX9_part_263 hl (k := 2) rfl (show nI k + Int32.ofInt 1 = nI (k + 1) from nI_add _ 1) (by decide) rfl (fun ls hl => ?_)
                                refine lv_goto (tgt := 152) hx hb dX9_part_266 (by decide) ?_
                                exact ih152  (k + 1) ((pl + 1) + 1) (orB (orB b1 p9 pl 27 7) p9 (pl + 1) (escN (tx k)) 7) h_49 _ _ ls (by omega) (by omega) (by omega) (by rw [sumS_k hk, hsf, epl]; omega) (stepE hpl inv) (fun x hx9 => by rw [orB_out (by omega) (by omega) hx9, orB_out (by omega) (by decide) hx9]; exact out x hx9) (by rw [p_50, p_41, eh2]; simp only [ah_up2]) f_52 f_53 f_54 f_55 f_56 f_57 hR hS (lv_sub hl [0, 1, 3, 4, 5, 6, 7, 8, 9] rfl)
                            · skip
                              have hsf := svFor1 hpl
                              refine ah_toi (v := nI (plainN (tx k))) (by rw [e_37]; exact sv9_p hpl) ?_
                              refine lv_istore (lv' := [(9, .int (nI (plainN (tx k)))), (8, .int (nI k)), (7, .int (nI pl)), (0, .ref y), (1, .int (nI p9)), (2, .int (nI a)), (3, .int (nI mny)), (4, .int (nI pb)), (5, .int (nI of9)), (6, .int (nI (142 * p9)))]) hx hb dX9_part_227 hl (by decide) rfl (fun ls hl => ?_)
                              refine lv_iload hx hb dX9_part_229 (lv_at hl 0 rfl) ?_
                              refine lv_bipush (v := nI 127) hx hb dX9_part_231 (by decide) ?_
                              refine lv_icmp_le (tgt := 248) hx hb dX9_part_233 (by decide) (fun c_58 => ?_) (fun c_58 => ?_)
                              · skip
                                have c_58 : (plainN (tx k)) ≤ 127 := (nI_leI (by omega) (by omega)).mp c_58
                                refine lv_aload_n hx hb dX9_part_248 rfl (lv_at hl 3 rfl) ?_
                                refine lv_iload_n hx hb dX9_part_249 rfl (lv_at hl 4 rfl) ?_
                                refine lv_iload hx hb dX9_part_250 (lv_at hl 2 rfl) ?_
                                refine lv_iload hx hb dX9_part_252 (lv_at hl 0 rfl) ?_
                                refine lv_bipush (v := nI 127) hx hb dX9_part_254 (by decide) ?_
                                refine lv_iand hx hb dX9_part_256 ?_
                                refine ah_toi (v := nI (plainN (tx k))) (by rw [ny_a127, show plainN (tx k) % 128 = plainN (tx k) by omega]) ?_
                                refine ah_callv (va_runV (As := [.int (nI p9), .int (nI pl), .int (nI (plainN (tx k)))]) (rest := []) ⟨hx, hb, hml, hown, hts⟩ (c_m_puts l G h2 y A k0 n rf pm zh lc c pt gv un fy2 b1 fa82 p9 pl (plainN (tx k)) hp9 (by omega) (by omega)) (cwV 3 hts gX9_part_X9_puts rfl rfl rfl (by decide +kernel) ⟨Nat.le_of_ble_eq_true rfl, Nat.le_of_ble_eq_true rfl⟩) (ah_preV hE hR hS fy2 rfl) rfl rfl hl.1 rfl (lv_room (Nat.le_of_ble_eq_true rfl)) dX9_part_257 ⟨Nat.le_of_ble_eq_true rfl, Nat.le_of_ble_eq_true rfl⟩) hS (fun h_59 H locs p_60 hR hS => ?_)
                                have f_62 : h_59 y = some (20, .inr (8, mF A k0 n rf pm zh lc c pt gv un)) := by rw [p_60]; exact ah_keep fy2 fa82 (by omega)
                                have f_63 : h_59 (A 1) = some (21, .inl (G.2.2.1 0, 128, .inl plT)) := by rw [p_60]; exact ah_keep fa12 fa82 (by omega)
                                have f_64 : h_59 (A 2) = some (22, .inl (G.2.2.1 0, 128, .inl esT)) := by rw [p_60]; exact ah_keep fa22 fa82 (by omega)
                                have f_65 : h_59 (A 4) = some (24, .inl (G.2.2.1 0, 3000, .inl (nA tx))) := by rw [p_60]; exact ah_keep fa42 fa82 (by omega)
                                have f_66 : h_59 (A 7) = some (27, .inl (G.2.2.1 0, 255, .inl (nA ln))) := by rw [p_60]; exact ah_keep fa72 fa82 (by omega)
                                have f_67 : h_59 (A 8) = some (28, .inl (G.2.2.1 0, 36210, .inl (nA (orB b1 p9 pl (plainN (tx k)) 7)))) := by rw [p_60]; exact ah_up_s _ _ _
                                refine lv_iinc (v := nI (pl + 1)) (lv' := [(7, .int (nI (pl + 1))), (9, .int (nI (plainN (tx k)))), (8, .int (nI k)), (0, .ref y), (1, .int (nI p9)), (2, .int (nI a)), (3, .int (nI mny)), (4, .int (nI pb)), (5, .int (nI of9)), (6, .int (nI (142 * p9)))]) hx hb dX9_part_260 hl (k := 2) rfl (show nI pl + Int32.ofInt 1 = nI (pl + 1) from nI_add _ 1) (by decide) rfl (fun ls hl => ?_)
                                refine lv_iinc (v := nI (k + 1)) (lv' := [(8, .int (nI (k + 1))), (7, .int (nI (pl + 1))), (9, .int (nI (plainN (tx k)))), (0, .ref y), (1, .int (nI p9)), (2, .int (nI a)), (3, .int (nI mny)), (4, .int (nI pb)), (5, .int (nI of9)), (6, .int (nI (142 * p9)))]) hx hb dX9_part_263 hl (k := 2) rfl (show nI k + Int32.ofInt 1 = nI (k + 1) from nI_add _ 1) (by decide) rfl (fun ls hl => ?_)
                                refine lv_goto (tgt := 152) hx hb dX9_part_266 (by decide) ?_
                                exact ih152  (k + 1) (pl + 1) (orB b1 p9 pl (plainN (tx k)) 7) h_59 _ _ ls (by omega) (by omega) (by omega) (by rw [sumS_k hk, hsf, epl]; omega) (stepP hpl inv) (fun x hx9 => by rw [orB_out (by omega) (by omega) hx9]; exact out x hx9) (by rw [p_60, eh2]; simp only [ah_up2]) f_62 f_63 f_64 f_65 f_66 f_67 hR hS (lv_sub hl [0, 1, 3, 4, 5, 6, 7, 8, 9] rfl)
                              · skip
                                have c_58 : ¬ ((plainN (tx k)) ≤ 127) := fun z9 => c_58 ((nI_leI (by omega) (by omega)).mpr z9)
                                exact absurd c_58 (by omega)
                          · skip
                            have c_33 : ¬ (pb = 0) := fun z9 => c_33 ((zi_eq (by omega)).mpr z9)
                            exact absurd c_33 (by omega)
                    exact L152 ((a + mny - a) + 1) a 0 b0 h_4 _ _ ls (by omega) (by omega) (by omega) epl0 (fun j => by rw [show a + mny - a = mny by omega, show 7 * od = 0 by rw [hod]]) (fun _ _ => rfl) ehb f_6 f_7 f_8 f_9 f_10 f_14 hR hS (lv_sub hl [0, 1, 2, 3, 4, 5, 6, 7, 8] rfl)
                · skip
                  have c_12 : ¬ (of9 ≤ 0) := fun z9 => c_12 ((zi_le (by omega)).mpr z9)
                  exact absurd c_12 (by omega)
              · skip
                have c_3 : ¬ (pb = 0) := fun z9 => c_3 ((zi_eq (by omega)).mpr z9)
                exact absurd c_3 (by omega)
            · skip
              have c_2 : ¬ (of9 ≤ 0) := fun z9 => c_2 ((zi_le (by omega)).mpr z9)
              exact absurd c_2 (by omega)
          · skip
            have c_1 : ¬ (142 ≤ k) := fun z9 => c_1 ((nI_leI (by omega) (by omega)).mpr z9)
            refine lv_aload_n hx hb dX9_part_18 rfl (lv_at hl 1 rfl) ?_
            refine ah_get (ci := 8) (v := .ref (A 8)) (C := RX9) (T := TX9) (N := 27) hx hb hE hR hts hinX9 hown fy1 rfl 8 (by decide) k23 (fun _ h9 => h9) rfl dX9_part_19 ?_
            refine lv_iload hx hb dX9_part_22 (lv_at hl 7 rfl) ?_
            refine lv_iload hx hb dX9_part_24 (lv_at hl 0 rfl) ?_
            refine lv_iadd hx hb dX9_part_26 ?_
            refine ah_toi (v := nI ((142 * p9) + k)) (nI_add _ _) ?_
            refine lv_iconst (v := nI 0) hx hb dX9_part_27 (by decide) ?_
            refine ah_iast (i := ((142 * p9) + k)) hx hb hE hR hS fa81 (by omega) (by omega) dX9_part_28 (fun H locs hR hS => ?_)
            rw [nA_upd] at hR
            obtain ⟨h_68, e_69⟩ : ∃ zz9, zz9 = ah_up h1 (A 8) (28, .inl (G.2.2.1 0, 36210, .inl (nA (gU (zR bb p9 k) ((142 * p9) + k) 0)))) := ⟨_, rfl⟩
            have hR : ah_R G h_68 H := by rw [e_69]; exact hR
            have f_70 : h_68 y = some (20, .inr (8, mF A k0 n rf pm zh lc c pt gv un)) := by rw [e_69]; exact ah_keep fy1 fa81 (by omega)
            have f_71 : h_68 (A 1) = some (21, .inl (G.2.2.1 0, 128, .inl plT)) := by rw [e_69]; exact ah_keep fa11 fa81 (by omega)
            have f_72 : h_68 (A 2) = some (22, .inl (G.2.2.1 0, 128, .inl esT)) := by rw [e_69]; exact ah_keep fa21 fa81 (by omega)
            have f_73 : h_68 (A 4) = some (24, .inl (G.2.2.1 0, 3000, .inl (nA tx))) := by rw [e_69]; exact ah_keep fa41 fa81 (by omega)
            have f_74 : h_68 (A 7) = some (27, .inl (G.2.2.1 0, 255, .inl (nA ln))) := by rw [e_69]; exact ah_keep fa71 fa81 (by omega)
            have f_75 : h_68 (A 8) = some (28, .inl (G.2.2.1 0, 36210, .inl (nA (gU (zR bb p9 k) ((142 * p9) + k) 0)))) := by rw [e_69]; exact ah_up_s _ _ _
            have f_76 : h_68 (A 8) = some (28, .inl (G.2.2.1 0, 36210, .inl (nA (zR bb p9 (k + 1))))) := by rw [← zR_s]; exact f_75
            refine lv_iinc (v := nI (k + 1)) (lv' := [(7, .int (nI (k + 1))), (0, .ref y), (1, .int (nI p9)), (2, .int (nI a)), (3, .int (nI mny)), (4, .int (nI pb)), (5, .int (nI of9)), (6, .int (nI (142 * p9)))]) hx hb dX9_part_29 hl (k := 0) rfl (show nI k + Int32.ofInt 1 = nI (k + 1) from nI_add _ 1) (by decide) rfl (fun ls hl => ?_)
            refine lv_goto (tgt := 10) hx hb dX9_part_32 (by decide) ?_
            exact ih10  (k + 1) h_68 _ _ ls (by omega) (by omega) (by rw [e_69, eh1, ah_up2, zR_s]) f_70 f_71 f_72 f_73 f_74 f_76 hR hS (lv_sub hl [0, 1, 2, 3, 4, 5, 6, 7] rfl)
      exact L10 ((142 - 0) + 1) 0 h _ _ ls (by omega) (by omega) (by rw [zR_0, ah_up_id fa8]) fy fa1 fa2 fa4 fa7 fa80 hR hS (lv_sub hl [0, 2, 3, 4, 5, 6, 7, 1] rfl)
    · skip
      have htt := htot2 hq
      refine lv_sipush (v := nI 142) hx hb dX9_part_0 (by decide) ?_
      refine lv_iload_n hx hb dX9_part_3 rfl (lv_at hl 1 rfl) ?_
      refine lv_imul hx hb dX9_part_4 ?_
      refine ah_toi (v := nI (142 * p9)) (pk_mul _ _) ?_
      refine lv_istore (lv' := [(6, .int (nI (142 * p9))), (0, .ref y), (1, .int (nI p9)), (2, .int (nI a)), (3, .int (nI mny)), (4, .int (nI pb)), (5, .int (nI of9))]) hx hb dX9_part_5 hl (by decide) rfl (fun ls hl => ?_)
      refine lv_iconst (v := nI 0) hx hb dX9_part_7 (by decide) ?_
      refine lv_istore (lv' := [(7, .int (nI 0)), (6, .int (nI (142 * p9))), (0, .ref y), (1, .int (nI p9)), (2, .int (nI a)), (3, .int (nI mny)), (4, .int (nI pb)), (5, .int (nI of9))]) hx hb dX9_part_8 hl (by decide) rfl (fun ls hl => ?_)
      have fa80 : h (A 8) = some (28, .inl (G.2.2.1 0, 36210, .inl (nA (zR bb p9 0)))) := by rw [zR_0]; exact fa8
      have L10 : ∀ (N10 : Nat) (k : Nat) (h1 : ah_H) (H : Heap) (locs : List Loc) (ls : Array Slot), 142 - k < N10 → (k ≤ 142) → (h1 = ah_up h (A 8) (28, .inl (G.2.2.1 0, 36210, .inl (nA (zR bb p9 k))))) → (h1 y = some (20, .inr (8, mF A k0 n rf pm zh lc c pt gv un))) → (h1 (A 1) = some (21, .inl (G.2.2.1 0, 128, .inl plT))) → (h1 (A 2) = some (22, .inl (G.2.2.1 0, 128, .inl esT))) → (h1 (A 4) = some (24, .inl (G.2.2.1 0, 3000, .inl (nA tx)))) → (h1 (A 7) = some (27, .inl (G.2.2.1 0, 255, .inl (nA ln)))) → (h1 (A 8) = some (28, .inl (G.2.2.1 0, 36210, .inl (nA (zR bb p9 k))))) → ah_R G h1 H → va_S (ah_A G) s.heap H locs → lv_has ls 10 [(7, .int (nI k)), (0, .ref y), (1, .int (nI p9)), (2, .int (nI a)), (3, .int (nI mny)), (4, .int (nI pb)), (5, .int (nI of9)), (6, .int (nI (142 * p9)))] → W p l e ({ frames := 1, cells := 0, slots := 0, locals := 25 }) s m ([.ref y, .int (nI p9), .int (nI a), .int (nI mny), .int (nI pb), .int (nI of9)] : List Value).toArray below meth cd9 H locs 0 0 (MQ below (ah_Qv G (fun h' => ∃ (b2 : Nat → Nat) (zz : Nat), h' = ah_up (ah_up h (A 8) (28, .inl (G.2.2.1 0, 36210, .inl (nA b2)))) (A 7) (27, .inl (G.2.2.1 0, 255, .inl (nA (gU ln p9 zz)))) ∧ (∀ x, (x < 142 * p9 ∨ 142 * p9 + 142 ≤ x) → b2 x = bb x) ∧ (pb = 0 → zz = sevZ tx od a (a + mny) ∧ ∀ j, j < zz → b2 (142 * p9 + j) = (if od = 1 then hdrG (sevG tx od a (a + mny)) (sevZ tx od a (a + mny)) rf of9 (p9 + 1) else sevG tx od a (a + mny)) j) ∧ (pb ≠ 0 → zz = pairZ od a (a + mny) ∧ ∀ j, j < zz → b2 (142 * p9 + j) = (if od = 1 then hdrG (pairG tx od a (a + mny)) (pairZ od a (a + mny)) rf of9 (p9 + 1) else pairG tx od a (a + mny)) j))) ([.ref y, .int (nI p9), .int (nI a), .int (nI mny), .int (nI pb), .int (nI of9)] : List Value).toArray s 0 0 (ah_A G)) (F0 m 10 ls []) := by
        intro N10
        induction N10 with
        | zero => intro k h1 H locs ls hN; exact absurd hN (Nat.not_lt_zero _)
        | succ N10 ih10 =>
          intro k h1 H locs ls hN10 hk eh1 fy1 fa11 fa21 fa41 fa71 fa81 hR hS hl
          refine lv_iload hx hb dX9_part_10 (lv_at hl 0 rfl) ?_
          refine lv_sipush (v := nI 142) hx hb dX9_part_12 (by decide) ?_
          refine lv_icmp_ge (tgt := 35) hx hb dX9_part_15 (by decide) (fun c_77 => ?_) (fun c_77 => ?_)
          · skip
            have c_77 : 142 ≤ k := (nI_leI (by omega) (by omega)).mp c_77
            have ek : k = 142 := by omega
            subst ek
            refine lv_aload_n hx hb dX9_part_35 rfl (lv_at hl 1 rfl) ?_
            refine ah_get (ci := 8) (v := .ref (A 8)) (C := RX9) (T := TX9) (N := 27) hx hb hE hR hts hinX9 hown fy1 rfl 8 (by decide) k23 (fun _ h9 => h9) rfl dX9_part_36 ?_
            refine lv_iload hx hb dX9_part_39 (lv_at hl 7 rfl) ?_
            refine lv_iload hx hb dX9_part_41 (lv_at hl 6 rfl) ?_
            refine lv_if_le (tgt := 50) hx hb dX9_part_43 (by decide) (fun c_78 => ?_) (fun c_78 => ?_)
            · skip
              have c_78 : of9 ≤ 0 := (zi_le (by omega)).mp c_78
              refine lv_iconst (v := nI 0) hx hb dX9_part_50 (by decide) ?_
              refine lv_iload hx hb dX9_part_51 (lv_at hl 5 rfl) ?_
              refine lv_if_eq (tgt := 60) hx hb dX9_part_53 (by decide) (fun c_79 => ?_) (fun c_79 => ?_)
              · skip
                have c_79 : pb = 0 := (zi_eq (by omega)).mp c_79
                exact absurd c_79 (by omega)
              · skip
                have c_79 : ¬ (pb = 0) := fun z9 => c_79 ((zi_eq (by omega)).mpr z9)
                refine lv_iconst (v := nI 4) hx hb dX9_part_56 (by decide) ?_
                refine lv_goto (tgt := 61) hx hb dX9_part_57 (by decide) ?_
                refine lv_iadd hx hb dX9_part_61 ?_
                refine ah_toi (v := nI (4)) (by decide +kernel) ?_
                refine ah_iast (i := (142 * p9)) hx hb hE hR hS fa81 (by omega) (by omega) dX9_part_62 (fun H locs hR hS => ?_)
                rw [nA_upd] at hR
                obtain ⟨h_80, e_81⟩ : ∃ zz9, zz9 = ah_up h1 (A 8) (28, .inl (G.2.2.1 0, 36210, .inl (nA (gU (zR bb p9 142) (142 * p9) 4)))) := ⟨_, rfl⟩
                have hR : ah_R G h_80 H := by rw [e_81]; exact hR
                have f_82 : h_80 y = some (20, .inr (8, mF A k0 n rf pm zh lc c pt gv un)) := by rw [e_81]; exact ah_keep fy1 fa81 (by omega)
                have f_83 : h_80 (A 1) = some (21, .inl (G.2.2.1 0, 128, .inl plT)) := by rw [e_81]; exact ah_keep fa11 fa81 (by omega)
                have f_84 : h_80 (A 2) = some (22, .inl (G.2.2.1 0, 128, .inl esT)) := by rw [e_81]; exact ah_keep fa21 fa81 (by omega)
                have f_85 : h_80 (A 4) = some (24, .inl (G.2.2.1 0, 3000, .inl (nA tx))) := by rw [e_81]; exact ah_keep fa41 fa81 (by omega)
                have f_86 : h_80 (A 7) = some (27, .inl (G.2.2.1 0, 255, .inl (nA ln))) := by rw [e_81]; exact ah_keep fa71 fa81 (by omega)
                have f_87 : h_80 (A 8) = some (28, .inl (G.2.2.1 0, 36210, .inl (nA (gU (zR bb p9 142) (142 * p9) 4)))) := by rw [e_81]; exact ah_up_s _ _ _
                refine lv_iload hx hb dX9_part_63 (lv_at hl 6 rfl) ?_
                refine lv_if_le (tgt := 126) hx hb dX9_part_65 (by decide) (fun c_88 => ?_) (fun c_88 => ?_)
                · skip
                  have c_88 : of9 ≤ 0 := (zi_le (by omega)).mp c_88
                  refine lv_iload hx hb dX9_part_126 (lv_at hl 6 rfl) ?_
                  refine lv_if_ne (tgt := 135) hx hb dX9_part_128 (by decide) (fun c_89 => ?_) (fun c_89 => ?_)
                  · skip
                    have c_89 : ¬ (of9 = 0) := fun z9 => c_89 ((zi_eq (by omega)).mpr z9)
                    exact absurd c_89 (by omega)
                  · skip
                    have c_89 : of9 = 0 := (zi_eq (by omega)).mp c_89
                    refine lv_iconst (v := nI 0) hx hb dX9_part_131 (by decide) ?_
                    refine lv_goto (tgt := 147) hx hb dX9_part_132 (by decide) ?_
                    refine lv_istore (lv' := [(7, .int (nI 0)), (0, .ref y), (1, .int (nI p9)), (2, .int (nI a)), (3, .int (nI mny)), (4, .int (nI pb)), (5, .int (nI of9)), (6, .int (nI (142 * p9)))]) hx hb dX9_part_147 hl (by decide) rfl (fun ls hl => ?_)
                    obtain ⟨b0, eb0⟩ : ∃ b9 : Nat → Nat, b9 = (gU (zR bb p9 142) (142 * p9) 4) := ⟨_, rfl⟩
                    have f_90 : h_80 (A 8) = some (28, .inl (G.2.2.1 0, 36210, .inl (nA b0))) := by rw [eb0]; exact f_87
                    have ehb : h_80 = ah_up h (A 8) (28, .inl (G.2.2.1 0, 36210, .inl (nA b0))) := by rw [eb0, e_81, eh1]; simp only [ah_up2]
                    have hb0 : (∀ j, j < 142 → b0 (142 * p9 + j) = hB od (4 + od) rf of9 (p9 + 1) j) ∧ ∀ x, (x < 142 * p9 ∨ 142 * p9 + 142 ≤ x) → b0 x = bb x := by rw [eb0, hod]; exact hB0
                    refine lv_iload_n hx hb dX9_part_149 rfl (lv_at hl 3 rfl) ?_
                    refine lv_istore (lv' := [(8, .int (nI a)), (7, .int (nI 0)), (0, .ref y), (1, .int (nI p9)), (2, .int (nI a)), (3, .int (nI mny)), (4, .int (nI pb)), (5, .int (nI of9)), (6, .int (nI (142 * p9)))]) hx hb dX9_part_150 hl (by decide) rfl (fun ls hl => ?_)
                    have epl0 : 0 = 6 * od + 2 * (a - a) := by rw [hod, Nat.sub_self]
                    have L152 : ∀ (N152 : Nat) (k : Nat) (pl : Nat) (b1 : Nat → Nat) (h2 : ah_H) (H : Heap) (locs : List Loc) (ls : Array Slot), a + mny - k < N152 → (a ≤ k) → (k ≤ a + mny) → (pl = 6 * od + 2 * (k - a)) → (∀ j, j < 142 → b1 (142 * p9 + j) = if 2 + 6 * od ≤ j ∧ j < 2 + pl then prB tx a (j - (2 + 6 * od)) else b0 (142 * p9 + j)) → (∀ x, (x < 142 * p9 ∨ 142 * p9 + 142 ≤ x) → b1 x = b0 x) → (h2 = ah_up h (A 8) (28, .inl (G.2.2.1 0, 36210, .inl (nA b1)))) → (h2 y = some (20, .inr (8, mF A k0 n rf pm zh lc c pt gv un))) → (h2 (A 1) = some (21, .inl (G.2.2.1 0, 128, .inl plT))) → (h2 (A 2) = some (22, .inl (G.2.2.1 0, 128, .inl esT))) → (h2 (A 4) = some (24, .inl (G.2.2.1 0, 3000, .inl (nA tx)))) → (h2 (A 7) = some (27, .inl (G.2.2.1 0, 255, .inl (nA ln)))) → (h2 (A 8) = some (28, .inl (G.2.2.1 0, 36210, .inl (nA b1)))) → ah_R G h2 H → va_S (ah_A G) s.heap H locs → lv_has ls 10 [(8, .int (nI k)), (7, .int (nI pl)), (0, .ref y), (1, .int (nI p9)), (2, .int (nI a)), (3, .int (nI mny)), (4, .int (nI pb)), (5, .int (nI of9)), (6, .int (nI (142 * p9)))] → W p l e ({ frames := 1, cells := 0, slots := 0, locals := 25 }) s m ([.ref y, .int (nI p9), .int (nI a), .int (nI mny), .int (nI pb), .int (nI of9)] : List Value).toArray below meth cd9 H locs 0 0 (MQ below (ah_Qv G (fun h' => ∃ (b2 : Nat → Nat) (zz : Nat), h' = ah_up (ah_up h (A 8) (28, .inl (G.2.2.1 0, 36210, .inl (nA b2)))) (A 7) (27, .inl (G.2.2.1 0, 255, .inl (nA (gU ln p9 zz)))) ∧ (∀ x, (x < 142 * p9 ∨ 142 * p9 + 142 ≤ x) → b2 x = bb x) ∧ (pb = 0 → zz = sevZ tx od a (a + mny) ∧ ∀ j, j < zz → b2 (142 * p9 + j) = (if od = 1 then hdrG (sevG tx od a (a + mny)) (sevZ tx od a (a + mny)) rf of9 (p9 + 1) else sevG tx od a (a + mny)) j) ∧ (pb ≠ 0 → zz = pairZ od a (a + mny) ∧ ∀ j, j < zz → b2 (142 * p9 + j) = (if od = 1 then hdrG (pairG tx od a (a + mny)) (pairZ od a (a + mny)) rf of9 (p9 + 1) else pairG tx od a (a + mny)) j))) ([.ref y, .int (nI p9), .int (nI a), .int (nI mny), .int (nI pb), .int (nI of9)] : List Value).toArray s 0 0 (ah_A G)) (F0 m 152 ls []) := by
                      intro N152
                      induction N152 with
                      | zero => intro k pl b1 h2 H locs ls hN; exact absurd hN (Nat.not_lt_zero _)
                      | succ N152 ih152 =>
                        intro k pl b1 h2 H locs ls hN152 hk hkn epl inv out eh2 fy2 fa12 fa22 fa42 fa72 fa82 hR hS hl
                        refine lv_iload hx hb dX9_part_152 (lv_at hl 0 rfl) ?_
                        refine lv_iload_n hx hb dX9_part_154 rfl (lv_at hl 4 rfl) ?_
                        refine lv_iload_n hx hb dX9_part_155 rfl (lv_at hl 5 rfl) ?_
                        refine lv_iadd hx hb dX9_part_156 ?_
                        refine ah_toi (v := nI (a + mny)) (nI_add _ _) ?_
                        refine lv_icmp_ge (tgt := 269) hx hb dX9_part_157 (by decide) (fun c_91 => ?_) (fun c_91 => ?_)
                        · skip
                          have c_91 : (a + mny) ≤ k := (nI_leI (by omega) (by omega)).mp c_91
                          have ekk : k = a + mny := by omega
                          subst ekk
                          have eplF : pl = 6 * od + 2 * mny := by omega
                          refine lv_aload_n hx hb dX9_part_269 rfl (lv_at hl 2 rfl) ?_
                          refine ah_get (ci := 8) (v := .ref (A 8)) (C := RX9) (T := TX9) (N := 27) hx hb hE hR hts hinX9 hown fy2 rfl 8 (by decide) k23 (fun _ h9 => h9) rfl dX9_part_270 ?_
                          refine lv_iload hx hb dX9_part_273 (lv_at hl 8 rfl) ?_
                          refine lv_iconst (v := nI 1) hx hb dX9_part_275 (by decide) ?_
                          refine lv_iadd hx hb dX9_part_276 ?_
                          refine ah_toi (v := nI ((142 * p9) + 1)) (nI_add _ _) ?_
                          refine lv_iload hx hb dX9_part_277 (lv_at hl 1 rfl) ?_
                          refine ah_iast (i := ((142 * p9) + 1)) hx hb hE hR hS fa82 (by omega) (by omega) dX9_part_279 (fun H locs hR hS => ?_)
                          rw [nA_upd] at hR
                          obtain ⟨h_92, e_93⟩ : ∃ zz9, zz9 = ah_up h2 (A 8) (28, .inl (G.2.2.1 0, 36210, .inl (nA (gU b1 ((142 * p9) + 1) pl)))) := ⟨_, rfl⟩
                          have hR : ah_R G h_92 H := by rw [e_93]; exact hR
                          have f_94 : h_92 y = some (20, .inr (8, mF A k0 n rf pm zh lc c pt gv un)) := by rw [e_93]; exact ah_keep fy2 fa82 (by omega)
                          have f_95 : h_92 (A 1) = some (21, .inl (G.2.2.1 0, 128, .inl plT)) := by rw [e_93]; exact ah_keep fa12 fa82 (by omega)
                          have f_96 : h_92 (A 2) = some (22, .inl (G.2.2.1 0, 128, .inl esT)) := by rw [e_93]; exact ah_keep fa22 fa82 (by omega)
                          have f_97 : h_92 (A 4) = some (24, .inl (G.2.2.1 0, 3000, .inl (nA tx))) := by rw [e_93]; exact ah_keep fa42 fa82 (by omega)
                          have f_98 : h_92 (A 7) = some (27, .inl (G.2.2.1 0, 255, .inl (nA ln))) := by rw [e_93]; exact ah_keep fa72 fa82 (by omega)
                          have f_99 : h_92 (A 8) = some (28, .inl (G.2.2.1 0, 36210, .inl (nA (gU b1 ((142 * p9) + 1) pl)))) := by rw [e_93]; exact ah_up_s _ _ _
                          refine lv_aload_n hx hb dX9_part_280 rfl (lv_at hl 2 rfl) ?_
                          refine ah_get (ci := 8) (v := .ref (A 7)) (C := RX9) (T := TX9) (N := 27) hx hb hE hR hts hinX9 hown f_94 rfl 7 (by decide) k19 (fun _ h9 => h9) rfl dX9_part_281 ?_
                          refine lv_iload_n hx hb dX9_part_284 rfl (lv_at hl 3 rfl) ?_
                          refine lv_iconst (v := nI 2) hx hb dX9_part_285 (by decide) ?_
                          refine lv_iload hx hb dX9_part_286 (lv_at hl 6 rfl) ?_
                          refine lv_if_eq (tgt := 296) hx hb dX9_part_288 (by decide) (fun c_100 => ?_) (fun c_100 => ?_)
                          · skip
                            have c_100 : pb = 0 := (zi_eq (by omega)).mp c_100
                            exact absurd c_100 (by omega)
                          · skip
                            have c_100 : ¬ (pb = 0) := fun z9 => c_100 ((zi_eq (by omega)).mpr z9)
                            refine lv_iload hx hb dX9_part_291 (lv_at hl 1 rfl) ?_
                            refine lv_goto (tgt := 307) hx hb dX9_part_293 (by decide) ?_
                            refine lv_iadd hx hb dX9_part_307 ?_
                            refine ah_toi (v := nI (2 + pl)) (nI_add _ _) ?_
                            refine ah_iast (i := p9) hx hb hE hR hS f_98 (by omega) (by omega) dX9_part_308 (fun H locs hR hS => ?_)
                            rw [nA_upd] at hR
                            obtain ⟨h_101, e_102⟩ : ∃ zz9, zz9 = ah_up h_92 (A 7) (27, .inl (G.2.2.1 0, 255, .inl (nA (gU ln p9 (2 + pl))))) := ⟨_, rfl⟩
                            have hR : ah_R G h_101 H := by rw [e_102]; exact hR
                            have f_103 : h_101 y = some (20, .inr (8, mF A k0 n rf pm zh lc c pt gv un)) := by rw [e_102]; exact ah_keep f_94 f_98 (by omega)
                            have f_104 : h_101 (A 1) = some (21, .inl (G.2.2.1 0, 128, .inl plT)) := by rw [e_102]; exact ah_keep f_95 f_98 (by omega)
                            have f_105 : h_101 (A 2) = some (22, .inl (G.2.2.1 0, 128, .inl esT)) := by rw [e_102]; exact ah_keep f_96 f_98 (by omega)
                            have f_106 : h_101 (A 4) = some (24, .inl (G.2.2.1 0, 3000, .inl (nA tx))) := by rw [e_102]; exact ah_keep f_97 f_98 (by omega)
                            have f_107 : h_101 (A 7) = some (27, .inl (G.2.2.1 0, 255, .inl (nA (gU ln p9 (2 + pl))))) := by rw [e_102]; exact ah_up_s _ _ _
                            have f_108 : h_101 (A 8) = some (28, .inl (G.2.2.1 0, 36210, .inl (nA (gU b1 ((142 * p9) + 1) pl)))) := by rw [e_102]; exact ah_keep f_99 f_98 (by omega)
                            refine ah_vret hx hb hr hlocks hR hS dX9_part_309 ?_
                            refine ⟨gU b1 (142 * p9 + 1) pl, (2 + pl), by rw [e_102, e_93, eh2, ah_up2], fun x hx9 => by rw [gU_n (by omega), out x hx9]; exact hb0.2 x hx9, ?_, ?_⟩
                            · intro z9; exact absurd z9 hq
                            · intro _
                              have ez : (2 + pl) = pairZ od a (a + mny) := by unfold pairZ; rw [show a + mny - a = mny by omega, eplF]
                              refine ⟨ez, fun j hj => ?_⟩
                              rw [ez] at hj
                              have hj1 : j < 2 + (6 * od + 2 * mny) := by unfold pairZ at hj; omega
                              have hj2 : j < 142 := by omega
                              rw [pairG_at (by omega) hj, show a + mny - a = mny by omega, finP (by omega) hj1, ← eplF]
                              by_cases j1 : j = 1
                              · subst j1; rw [gU_s, if_pos rfl]
                              · rw [gU_n (by omega), if_neg j1, inv j hj2, hb0.1 j hj2]
                        · skip
                          have c_91 : ¬ ((a + mny) ≤ k) := fun z9 => c_91 ((nI_leI (by omega) (by omega)).mpr z9)
                          have hfk := hf k
                          refine lv_iload hx hb dX9_part_160 (lv_at hl 6 rfl) ?_
                          refine lv_if_eq (tgt := 216) hx hb dX9_part_162 (by decide) (fun c_109 => ?_) (fun c_109 => ?_)
                          · skip
                            have c_109 : pb = 0 := (zi_eq (by omega)).mp c_109
                            exact absurd c_109 (by omega)
                          · skip
                            have c_109 : ¬ (pb = 0) := fun z9 => c_109 ((zi_eq (by omega)).mpr z9)
                            refine lv_aload_n hx hb dX9_part_165 rfl (lv_at hl 2 rfl) ?_
                            refine ah_get (ci := 8) (v := .ref (A 8)) (C := RX9) (T := TX9) (N := 27) hx hb hE hR hts hinX9 hown fy2 rfl 8 (by decide) k23 (fun _ h9 => h9) rfl dX9_part_166 ?_
                            refine lv_iload hx hb dX9_part_169 (lv_at hl 8 rfl) ?_
                            refine lv_iconst (v := nI 2) hx hb dX9_part_171 (by decide) ?_
                            refine lv_iadd hx hb dX9_part_172 ?_
                            refine ah_toi (v := nI ((142 * p9) + 2)) (nI_add _ _) ?_
                            refine lv_iload hx hb dX9_part_173 (lv_at hl 1 rfl) ?_
                            refine lv_iadd hx hb dX9_part_175 ?_
                            refine ah_toi (v := nI (((142 * p9) + 2) + pl)) (nI_add _ _) ?_
                            refine lv_aload_n hx hb dX9_part_176 rfl (lv_at hl 2 rfl) ?_
                            refine ah_get (ci := 8) (v := .ref (A 4)) (C := RX9) (T := TX9) (N := 27) hx hb hE hR hts hinX9 hown fy2 rfl 4 (by decide) k16 (fun _ h9 => h9) rfl dX9_part_177 ?_
                            refine lv_iload hx hb dX9_part_180 (lv_at hl 0 rfl) ?_
                            refine ah_iald (i := k) hx hb hE hR fa42 (by omega) (by omega) dX9_part_182 ?_
                            refine ah_toi (v := nI (tx k)) rfl ?_
                            refine lv_bipush (v := nI 8) hx hb dX9_part_183 (by decide) ?_
                            refine lv_ishr hx hb dX9_part_185 ?_
                            refine ah_toi (v := nI (tx k / 2 ^ 8)) (ny_shr (by decide) (by omega)) ?_
                            refine ah_iast (i := (((142 * p9) + 2) + pl)) hx hb hE hR hS fa82 (by omega) (by omega) dX9_part_186 (fun H locs hR hS => ?_)
                            rw [nA_upd] at hR
                            obtain ⟨h_110, e_111⟩ : ∃ zz9, zz9 = ah_up h2 (A 8) (28, .inl (G.2.2.1 0, 36210, .inl (nA (gU b1 (((142 * p9) + 2) + pl) (tx k / 2 ^ 8))))) := ⟨_, rfl⟩
                            have hR : ah_R G h_110 H := by rw [e_111]; exact hR
                            have f_112 : h_110 y = some (20, .inr (8, mF A k0 n rf pm zh lc c pt gv un)) := by rw [e_111]; exact ah_keep fy2 fa82 (by omega)
                            have f_113 : h_110 (A 1) = some (21, .inl (G.2.2.1 0, 128, .inl plT)) := by rw [e_111]; exact ah_keep fa12 fa82 (by omega)
                            have f_114 : h_110 (A 2) = some (22, .inl (G.2.2.1 0, 128, .inl esT)) := by rw [e_111]; exact ah_keep fa22 fa82 (by omega)
                            have f_115 : h_110 (A 4) = some (24, .inl (G.2.2.1 0, 3000, .inl (nA tx))) := by rw [e_111]; exact ah_keep fa42 fa82 (by omega)
                            have f_116 : h_110 (A 7) = some (27, .inl (G.2.2.1 0, 255, .inl (nA ln))) := by rw [e_111]; exact ah_keep fa72 fa82 (by omega)
                            have f_117 : h_110 (A 8) = some (28, .inl (G.2.2.1 0, 36210, .inl (nA (gU b1 (((142 * p9) + 2) + pl) (tx k / 2 ^ 8))))) := by rw [e_111]; exact ah_up_s _ _ _
                            refine lv_aload_n hx hb dX9_part_187 rfl (lv_at hl 2 rfl) ?_
                            refine ah_get (ci := 8) (v := .ref (A 8)) (C := RX9) (T := TX9) (N := 27) hx hb hE hR hts hinX9 hown f_112 rfl 8 (by decide) k23 (fun _ h9 => h9) rfl dX9_part_188 ?_
                            refine lv_iload hx hb dX9_part_191 (lv_at hl 8 rfl) ?_
                            refine lv_iconst (v := nI 3) hx hb dX9_part_193 (by decide) ?_
                            refine lv_iadd hx hb dX9_part_194 ?_
                            refine ah_toi (v := nI ((142 * p9) + 3)) (nI_add _ _) ?_
                            refine lv_iload hx hb dX9_part_195 (lv_at hl 1 rfl) ?_
                            refine lv_iadd hx hb dX9_part_197 ?_
                            refine ah_toi (v := nI (((142 * p9) + 3) + pl)) (nI_add _ _) ?_
                            refine lv_aload_n hx hb dX9_part_198 rfl (lv_at hl 2 rfl) ?_
                            refine ah_get (ci := 8) (v := .ref (A 4)) (C := RX9) (T := TX9) (N := 27) hx hb hE hR hts hinX9 hown f_112 rfl 4 (by decide) k16 (fun _ h9 => h9) rfl dX9_part_199 ?_
                            refine lv_iload hx hb dX9_part_202 (lv_at hl 0 rfl) ?_
                            refine ah_iald (i := k) hx hb hE hR f_115 (by omega) (by omega) dX9_part_204 ?_
                            refine ah_toi (v := nI (tx k)) rfl ?_
                            refine lv_sipush (v := nI 255) hx hb dX9_part_205 (by decide) ?_
                            refine lv_iand hx hb dX9_part_208 ?_
                            refine ah_toi (v := nI (tx k % 256)) (ny_a255 _) ?_
                            refine ah_iast (i := (((142 * p9) + 3) + pl)) hx hb hE hR hS f_117 (by omega) (by omega) dX9_part_209 (fun H locs hR hS => ?_)
                            rw [nA_upd] at hR
                            obtain ⟨h_118, e_119⟩ : ∃ zz9, zz9 = ah_up h_110 (A 8) (28, .inl (G.2.2.1 0, 36210, .inl (nA (gU (gU b1 (((142 * p9) + 2) + pl) (tx k / 2 ^ 8)) (((142 * p9) + 3) + pl) (tx k % 256))))) := ⟨_, rfl⟩
                            have hR : ah_R G h_118 H := by rw [e_119]; exact hR
                            have f_120 : h_118 y = some (20, .inr (8, mF A k0 n rf pm zh lc c pt gv un)) := by rw [e_119]; exact ah_keep f_112 f_117 (by omega)
                            have f_121 : h_118 (A 1) = some (21, .inl (G.2.2.1 0, 128, .inl plT)) := by rw [e_119]; exact ah_keep f_113 f_117 (by omega)
                            have f_122 : h_118 (A 2) = some (22, .inl (G.2.2.1 0, 128, .inl esT)) := by rw [e_119]; exact ah_keep f_114 f_117 (by omega)
                            have f_123 : h_118 (A 4) = some (24, .inl (G.2.2.1 0, 3000, .inl (nA tx))) := by rw [e_119]; exact ah_keep f_115 f_117 (by omega)
                            have f_124 : h_118 (A 7) = some (27, .inl (G.2.2.1 0, 255, .inl (nA ln))) := by rw [e_119]; exact ah_keep f_116 f_117 (by omega)
                            have f_125 : h_118 (A 8) = some (28, .inl (G.2.2.1 0, 36210, .inl (nA (gU (gU b1 (((142 * p9) + 2) + pl) (tx k / 2 ^ 8)) (((142 * p9) + 3) + pl) (tx k % 256))))) := by rw [e_119]; exact ah_up_s _ _ _
                            refine lv_iinc (v := nI (pl + 2)) (lv' := [(7, .int (nI (pl + 2))), (8, .int (nI k)), (0, .ref y), (1, .int (nI p9)), (2, .int (nI a)), (3, .int (nI mny)), (4, .int (nI pb)), (5, .int (nI of9)), (6, .int (nI (142 * p9)))]) hx hb dX9_part_210 hl (k := 1) rfl (show nI pl + Int32.ofInt 2 = nI (pl + 2) from nI_add _ 2) (by decide) rfl (fun ls hl => ?_)
                            refine lv_goto (tgt := 263) hx hb dX9_part_213 (by decide) ?_
                            refine lv_iinc (v := nI (k + 1)) (lv' := [(8, .int (nI (k + 1))), (7, .int (nI (pl + 2))), (0, .ref y), (1, .int (nI p9)), (2, .int (nI a)), (3, .int (nI mny)), (4, .int (nI pb)), (5, .int (nI of9)), (6, .int (nI (142 * p9)))]) hx hb dX9_part_263 hl (k := 1) rfl (show nI k + Int32.ofInt 1 = nI (k + 1) from nI_add _ 1) (by decide) rfl (fun ls hl => ?_)
                            refine lv_goto (tgt := 152) hx hb dX9_part_266 (by decide) ?_
                            exact ih152  (k + 1) (pl + 2) (gU (gU b1 (((142 * p9) + 2) + pl) (tx k / 2 ^ 8)) (((142 * p9) + 3) + pl) (tx k % 256)) h_118 _ _ ls (by omega) (by omega) (by omega) (by omega) (prS epl hk inv) (fun x hx9 => by rw [gU_n (by omega), gU_n (by omega)]; exact out x hx9) (by rw [e_119, e_111, eh2]; simp only [ah_up2]) f_120 f_121 f_122 f_123 f_124 f_125 hR hS (lv_sub hl [0, 1, 2, 3, 4, 5, 6, 7, 8] rfl)
                    exact L152 ((a + mny - a) + 1) a 0 b0 h_80 _ _ ls (by omega) (by omega) (by omega) epl0 (fun j hj => by rw [if_neg (by omega)]) (fun _ _ => rfl) ehb f_82 f_83 f_84 f_85 f_86 f_90 hR hS (lv_sub hl [0, 1, 2, 3, 4, 5, 6, 7, 8] rfl)
                · skip
                  have c_88 : ¬ (of9 ≤ 0) := fun z9 => c_88 ((zi_le (by omega)).mpr z9)
                  exact absurd c_88 (by omega)
            · skip
              have c_78 : ¬ (of9 ≤ 0) := fun z9 => c_78 ((zi_le (by omega)).mpr z9)
              exact absurd c_78 (by omega)
          · skip
            have c_77 : ¬ (142 ≤ k) := fun z9 => c_77 ((nI_leI (by omega) (by omega)).mpr z9)
            refine lv_aload_n hx hb dX9_part_18 rfl (lv_at hl 1 rfl) ?_
            refine ah_get (ci := 8) (v := .ref (A 8)) (C := RX9) (T := TX9) (N := 27) hx hb hE hR hts hinX9 hown fy1 rfl 8 (by decide) k23 (fun _ h9 => h9) rfl dX9_part_19 ?_
            refine lv_iload hx hb dX9_part_22 (lv_at hl 7 rfl) ?_
            refine lv_iload hx hb dX9_part_24 (lv_at hl 0 rfl) ?_
            refine lv_iadd hx hb dX9_part_26 ?_
            refine ah_toi (v := nI ((142 * p9) + k)) (nI_add _ _) ?_
            refine lv_iconst (v := nI 0) hx hb dX9_part_27 (by decide) ?_
            refine ah_iast (i := ((142 * p9) + k)) hx hb hE hR hS fa81 (by omega) (by omega) dX9_part_28 (fun H locs hR hS => ?_)
            rw [nA_upd] at hR
            obtain ⟨h_126, e_127⟩ : ∃ zz9, zz9 = ah_up h1 (A 8) (28, .inl (G.2.2.1 0, 36210, .inl (nA (gU (zR bb p9 k) ((142 * p9) + k) 0)))) := ⟨_, rfl⟩
            have hR : ah_R G h_126 H := by rw [e_127]; exact hR
            have f_128 : h_126 y = some (20, .inr (8, mF A k0 n rf pm zh lc c pt gv un)) := by rw [e_127]; exact ah_keep fy1 fa81 (by omega)
            have f_129 : h_126 (A 1) = some (21, .inl (G.2.2.1 0, 128, .inl plT)) := by rw [e_127]; exact ah_keep fa11 fa81 (by omega)
            have f_130 : h_126 (A 2) = some (22, .inl (G.2.2.1 0, 128, .inl esT)) := by rw [e_127]; exact ah_keep fa21 fa81 (by omega)
            have f_131 : h_126 (A 4) = some (24, .inl (G.2.2.1 0, 3000, .inl (nA tx))) := by rw [e_127]; exact ah_keep fa41 fa81 (by omega)
            have f_132 : h_126 (A 7) = some (27, .inl (G.2.2.1 0, 255, .inl (nA ln))) := by rw [e_127]; exact ah_keep fa71 fa81 (by omega)
            have f_133 : h_126 (A 8) = some (28, .inl (G.2.2.1 0, 36210, .inl (nA (gU (zR bb p9 k) ((142 * p9) + k) 0)))) := by rw [e_127]; exact ah_up_s _ _ _
            have f_134 : h_126 (A 8) = some (28, .inl (G.2.2.1 0, 36210, .inl (nA (zR bb p9 (k + 1))))) := by rw [← zR_s]; exact f_133
            refine lv_iinc (v := nI (k + 1)) (lv' := [(7, .int (nI (k + 1))), (0, .ref y), (1, .int (nI p9)), (2, .int (nI a)), (3, .int (nI mny)), (4, .int (nI pb)), (5, .int (nI of9)), (6, .int (nI (142 * p9)))]) hx hb dX9_part_29 hl (k := 0) rfl (show nI k + Int32.ofInt 1 = nI (k + 1) from nI_add _ 1) (by decide) rfl (fun ls hl => ?_)
            refine lv_goto (tgt := 10) hx hb dX9_part_32 (by decide) ?_
            exact ih10  (k + 1) h_126 _ _ ls (by omega) (by omega) (by rw [e_127, eh1, ah_up2, zR_s]) f_128 f_129 f_130 f_131 f_132 f_134 hR hS (lv_sub hl [0, 1, 2, 3, 4, 5, 6, 7] rfl)
      exact L10 ((142 - 0) + 1) 0 h _ _ ls (by omega) (by omega) (by rw [zR_0, ah_up_id fa8]) fy fa1 fa2 fa4 fa7 fa80 hR hS (lv_sub hl [0, 2, 3, 4, 5, 6, 7, 1] rfl)
  · skip
    rw [if_neg ho] at hod
    by_cases hq : pb = 0
    · skip
      have htt := htot hq
      refine lv_sipush (v := nI 142) hx hb dX9_part_0 (by decide) ?_
      refine lv_iload_n hx hb dX9_part_3 rfl (lv_at hl 1 rfl) ?_
      refine lv_imul hx hb dX9_part_4 ?_
      refine ah_toi (v := nI (142 * p9)) (pk_mul _ _) ?_
      refine lv_istore (lv' := [(6, .int (nI (142 * p9))), (0, .ref y), (1, .int (nI p9)), (2, .int (nI a)), (3, .int (nI mny)), (4, .int (nI pb)), (5, .int (nI of9))]) hx hb dX9_part_5 hl (by decide) rfl (fun ls hl => ?_)
      refine lv_iconst (v := nI 0) hx hb dX9_part_7 (by decide) ?_
      refine lv_istore (lv' := [(7, .int (nI 0)), (6, .int (nI (142 * p9))), (0, .ref y), (1, .int (nI p9)), (2, .int (nI a)), (3, .int (nI mny)), (4, .int (nI pb)), (5, .int (nI of9))]) hx hb dX9_part_8 hl (by decide) rfl (fun ls hl => ?_)
      have fa80 : h (A 8) = some (28, .inl (G.2.2.1 0, 36210, .inl (nA (zR bb p9 0)))) := by rw [zR_0]; exact fa8
      have L10 : ∀ (N10 : Nat) (k : Nat) (h1 : ah_H) (H : Heap) (locs : List Loc) (ls : Array Slot), 142 - k < N10 → (k ≤ 142) → (h1 = ah_up h (A 8) (28, .inl (G.2.2.1 0, 36210, .inl (nA (zR bb p9 k))))) → (h1 y = some (20, .inr (8, mF A k0 n rf pm zh lc c pt gv un))) → (h1 (A 1) = some (21, .inl (G.2.2.1 0, 128, .inl plT))) → (h1 (A 2) = some (22, .inl (G.2.2.1 0, 128, .inl esT))) → (h1 (A 4) = some (24, .inl (G.2.2.1 0, 3000, .inl (nA tx)))) → (h1 (A 7) = some (27, .inl (G.2.2.1 0, 255, .inl (nA ln)))) → (h1 (A 8) = some (28, .inl (G.2.2.1 0, 36210, .inl (nA (zR bb p9 k))))) → ah_R G h1 H → va_S (ah_A G) s.heap H locs → lv_has ls 10 [(7, .int (nI k)), (0, .ref y), (1, .int (nI p9)), (2, .int (nI a)), (3, .int (nI mny)), (4, .int (nI pb)), (5, .int (nI of9)), (6, .int (nI (142 * p9)))] → W p l e ({ frames := 1, cells := 0, slots := 0, locals := 25 }) s m ([.ref y, .int (nI p9), .int (nI a), .int (nI mny), .int (nI pb), .int (nI of9)] : List Value).toArray below meth cd9 H locs 0 0 (MQ below (ah_Qv G (fun h' => ∃ (b2 : Nat → Nat) (zz : Nat), h' = ah_up (ah_up h (A 8) (28, .inl (G.2.2.1 0, 36210, .inl (nA b2)))) (A 7) (27, .inl (G.2.2.1 0, 255, .inl (nA (gU ln p9 zz)))) ∧ (∀ x, (x < 142 * p9 ∨ 142 * p9 + 142 ≤ x) → b2 x = bb x) ∧ (pb = 0 → zz = sevZ tx od a (a + mny) ∧ ∀ j, j < zz → b2 (142 * p9 + j) = (if od = 1 then hdrG (sevG tx od a (a + mny)) (sevZ tx od a (a + mny)) rf of9 (p9 + 1) else sevG tx od a (a + mny)) j) ∧ (pb ≠ 0 → zz = pairZ od a (a + mny) ∧ ∀ j, j < zz → b2 (142 * p9 + j) = (if od = 1 then hdrG (pairG tx od a (a + mny)) (pairZ od a (a + mny)) rf of9 (p9 + 1) else pairG tx od a (a + mny)) j))) ([.ref y, .int (nI p9), .int (nI a), .int (nI mny), .int (nI pb), .int (nI of9)] : List Value).toArray s 0 0 (ah_A G)) (F0 m 10 ls []) := by
        intro N10
        induction N10 with
        | zero => intro k h1 H locs ls hN; exact absurd hN (Nat.not_lt_zero _)
        | succ N10 ih10 =>
          intro k h1 H locs ls hN10 hk eh1 fy1 fa11 fa21 fa41 fa71 fa81 hR hS hl
          refine lv_iload hx hb dX9_part_10 (lv_at hl 0 rfl) ?_
          refine lv_sipush (v := nI 142) hx hb dX9_part_12 (by decide) ?_
          refine lv_icmp_ge (tgt := 35) hx hb dX9_part_15 (by decide) (fun c_135 => ?_) (fun c_135 => ?_)
          · skip
            have c_135 : 142 ≤ k := (nI_leI (by omega) (by omega)).mp c_135
            have ek : k = 142 := by omega
            subst ek
            refine lv_aload_n hx hb dX9_part_35 rfl (lv_at hl 1 rfl) ?_
            refine ah_get (ci := 8) (v := .ref (A 8)) (C := RX9) (T := TX9) (N := 27) hx hb hE hR hts hinX9 hown fy1 rfl 8 (by decide) k23 (fun _ h9 => h9) rfl dX9_part_36 ?_
            refine lv_iload hx hb dX9_part_39 (lv_at hl 7 rfl) ?_
            refine lv_iload hx hb dX9_part_41 (lv_at hl 6 rfl) ?_
            refine lv_if_le (tgt := 50) hx hb dX9_part_43 (by decide) (fun c_136 => ?_) (fun c_136 => ?_)
            · skip
              have c_136 : of9 ≤ 0 := (zi_le (by omega)).mp c_136
              exact absurd c_136 (by omega)
            · skip
              have c_136 : ¬ (of9 ≤ 0) := fun z9 => c_136 ((zi_le (by omega)).mpr z9)
              refine lv_iconst (v := nI 1) hx hb dX9_part_46 (by decide) ?_
              refine lv_goto (tgt := 51) hx hb dX9_part_47 (by decide) ?_
              refine lv_iload hx hb dX9_part_51 (lv_at hl 5 rfl) ?_
              refine lv_if_eq (tgt := 60) hx hb dX9_part_53 (by decide) (fun c_137 => ?_) (fun c_137 => ?_)
              · skip
                have c_137 : pb = 0 := (zi_eq (by omega)).mp c_137
                refine lv_iconst (v := nI 0) hx hb dX9_part_60 (by decide) ?_
                refine lv_iadd hx hb dX9_part_61 ?_
                refine ah_toi (v := nI (1)) (by decide +kernel) ?_
                refine ah_iast (i := (142 * p9)) hx hb hE hR hS fa81 (by omega) (by omega) dX9_part_62 (fun H locs hR hS => ?_)
                rw [nA_upd] at hR
                obtain ⟨h_138, e_139⟩ : ∃ zz9, zz9 = ah_up h1 (A 8) (28, .inl (G.2.2.1 0, 36210, .inl (nA (gU (zR bb p9 142) (142 * p9) 1)))) := ⟨_, rfl⟩
                have hR : ah_R G h_138 H := by rw [e_139]; exact hR
                have f_140 : h_138 y = some (20, .inr (8, mF A k0 n rf pm zh lc c pt gv un)) := by rw [e_139]; exact ah_keep fy1 fa81 (by omega)
                have f_141 : h_138 (A 1) = some (21, .inl (G.2.2.1 0, 128, .inl plT)) := by rw [e_139]; exact ah_keep fa11 fa81 (by omega)
                have f_142 : h_138 (A 2) = some (22, .inl (G.2.2.1 0, 128, .inl esT)) := by rw [e_139]; exact ah_keep fa21 fa81 (by omega)
                have f_143 : h_138 (A 4) = some (24, .inl (G.2.2.1 0, 3000, .inl (nA tx))) := by rw [e_139]; exact ah_keep fa41 fa81 (by omega)
                have f_144 : h_138 (A 7) = some (27, .inl (G.2.2.1 0, 255, .inl (nA ln))) := by rw [e_139]; exact ah_keep fa71 fa81 (by omega)
                have f_145 : h_138 (A 8) = some (28, .inl (G.2.2.1 0, 36210, .inl (nA (gU (zR bb p9 142) (142 * p9) 1)))) := by rw [e_139]; exact ah_up_s _ _ _
                refine lv_iload hx hb dX9_part_63 (lv_at hl 6 rfl) ?_
                refine lv_if_le (tgt := 126) hx hb dX9_part_65 (by decide) (fun c_146 => ?_) (fun c_146 => ?_)
                · skip
                  have c_146 : of9 ≤ 0 := (zi_le (by omega)).mp c_146
                  exact absurd c_146 (by omega)
                · skip
                  have c_146 : ¬ (of9 ≤ 0) := fun z9 => c_146 ((zi_le (by omega)).mpr z9)
                  refine lv_aload_n hx hb dX9_part_68 rfl (lv_at hl 1 rfl) ?_
                  refine ah_get (ci := 8) (v := .ref (A 8)) (C := RX9) (T := TX9) (N := 27) hx hb hE hR hts hinX9 hown f_140 rfl 8 (by decide) k23 (fun _ h9 => h9) rfl dX9_part_69 ?_
                  refine lv_iload hx hb dX9_part_72 (lv_at hl 7 rfl) ?_
                  refine lv_iconst (v := nI 2) hx hb dX9_part_74 (by decide) ?_
                  refine lv_iadd hx hb dX9_part_75 ?_
                  refine ah_toi (v := nI ((142 * p9) + 2)) (nI_add _ _) ?_
                  refine lv_iconst (v := nI 5) hx hb dX9_part_76 (by decide) ?_
                  refine ah_iast (i := ((142 * p9) + 2)) hx hb hE hR hS f_145 (by omega) (by omega) dX9_part_77 (fun H locs hR hS => ?_)
                  rw [nA_upd] at hR
                  obtain ⟨h_147, e_148⟩ : ∃ zz9, zz9 = ah_up h_138 (A 8) (28, .inl (G.2.2.1 0, 36210, .inl (nA (gU (gU (zR bb p9 142) (142 * p9) 1) ((142 * p9) + 2) 5)))) := ⟨_, rfl⟩
                  have hR : ah_R G h_147 H := by rw [e_148]; exact hR
                  have f_149 : h_147 y = some (20, .inr (8, mF A k0 n rf pm zh lc c pt gv un)) := by rw [e_148]; exact ah_keep f_140 f_145 (by omega)
                  have f_150 : h_147 (A 1) = some (21, .inl (G.2.2.1 0, 128, .inl plT)) := by rw [e_148]; exact ah_keep f_141 f_145 (by omega)
                  have f_151 : h_147 (A 2) = some (22, .inl (G.2.2.1 0, 128, .inl esT)) := by rw [e_148]; exact ah_keep f_142 f_145 (by omega)
                  have f_152 : h_147 (A 4) = some (24, .inl (G.2.2.1 0, 3000, .inl (nA tx))) := by rw [e_148]; exact ah_keep f_143 f_145 (by omega)
                  have f_153 : h_147 (A 7) = some (27, .inl (G.2.2.1 0, 255, .inl (nA ln))) := by rw [e_148]; exact ah_keep f_144 f_145 (by omega)
                  have f_154 : h_147 (A 8) = some (28, .inl (G.2.2.1 0, 36210, .inl (nA (gU (gU (zR bb p9 142) (142 * p9) 1) ((142 * p9) + 2) 5)))) := by rw [e_148]; exact ah_up_s _ _ _
                  refine lv_aload_n hx hb dX9_part_78 rfl (lv_at hl 1 rfl) ?_
                  refine ah_get (ci := 8) (v := .ref (A 8)) (C := RX9) (T := TX9) (N := 27) hx hb hE hR hts hinX9 hown f_149 rfl 8 (by decide) k23 (fun _ h9 => h9) rfl dX9_part_79 ?_
                  refine lv_iload hx hb dX9_part_82 (lv_at hl 7 rfl) ?_
                  refine lv_iconst (v := nI 4) hx hb dX9_part_84 (by decide) ?_
                  refine lv_iadd hx hb dX9_part_85 ?_
                  refine ah_toi (v := nI ((142 * p9) + 4)) (nI_add _ _) ?_
                  refine lv_iconst (v := nI 3) hx hb dX9_part_86 (by decide) ?_
                  refine ah_iast (i := ((142 * p9) + 4)) hx hb hE hR hS f_154 (by omega) (by omega) dX9_part_87 (fun H locs hR hS => ?_)
                  rw [nA_upd] at hR
                  obtain ⟨h_155, e_156⟩ : ∃ zz9, zz9 = ah_up h_147 (A 8) (28, .inl (G.2.2.1 0, 36210, .inl (nA (gU (gU (gU (zR bb p9 142) (142 * p9) 1) ((142 * p9) + 2) 5) ((142 * p9) + 4) 3)))) := ⟨_, rfl⟩
                  have hR : ah_R G h_155 H := by rw [e_156]; exact hR
                  have f_157 : h_155 y = some (20, .inr (8, mF A k0 n rf pm zh lc c pt gv un)) := by rw [e_156]; exact ah_keep f_149 f_154 (by omega)
                  have f_158 : h_155 (A 1) = some (21, .inl (G.2.2.1 0, 128, .inl plT)) := by rw [e_156]; exact ah_keep f_150 f_154 (by omega)
                  have f_159 : h_155 (A 2) = some (22, .inl (G.2.2.1 0, 128, .inl esT)) := by rw [e_156]; exact ah_keep f_151 f_154 (by omega)
                  have f_160 : h_155 (A 4) = some (24, .inl (G.2.2.1 0, 3000, .inl (nA tx))) := by rw [e_156]; exact ah_keep f_152 f_154 (by omega)
                  have f_161 : h_155 (A 7) = some (27, .inl (G.2.2.1 0, 255, .inl (nA ln))) := by rw [e_156]; exact ah_keep f_153 f_154 (by omega)
                  have f_162 : h_155 (A 8) = some (28, .inl (G.2.2.1 0, 36210, .inl (nA (gU (gU (gU (zR bb p9 142) (142 * p9) 1) ((142 * p9) + 2) 5) ((142 * p9) + 4) 3)))) := by rw [e_156]; exact ah_up_s _ _ _
                  refine lv_aload_n hx hb dX9_part_88 rfl (lv_at hl 1 rfl) ?_
                  refine ah_get (ci := 8) (v := .ref (A 8)) (C := RX9) (T := TX9) (N := 27) hx hb hE hR hts hinX9 hown f_157 rfl 8 (by decide) k23 (fun _ h9 => h9) rfl dX9_part_89 ?_
                  refine lv_iload hx hb dX9_part_92 (lv_at hl 7 rfl) ?_
                  refine lv_iconst (v := nI 5) hx hb dX9_part_94 (by decide) ?_
                  refine lv_iadd hx hb dX9_part_95 ?_
                  refine ah_toi (v := nI ((142 * p9) + 5)) (nI_add _ _) ?_
                  refine lv_aload_n hx hb dX9_part_96 rfl (lv_at hl 1 rfl) ?_
                  refine ah_get (ci := 8) (v := .int (nI rf)) (C := RX9) (T := TX9) (N := 27) hx hb hE hR hts hinX9 hown f_157 rfl 5 (by decide) k101 (fun _ h9 => h9) rfl dX9_part_97 ?_
                  refine ah_iast (i := ((142 * p9) + 5)) hx hb hE hR hS f_162 (by omega) (by omega) dX9_part_100 (fun H locs hR hS => ?_)
                  rw [nA_upd] at hR
                  obtain ⟨h_163, e_164⟩ : ∃ zz9, zz9 = ah_up h_155 (A 8) (28, .inl (G.2.2.1 0, 36210, .inl (nA (gU (gU (gU (gU (zR bb p9 142) (142 * p9) 1) ((142 * p9) + 2) 5) ((142 * p9) + 4) 3) ((142 * p9) + 5) rf)))) := ⟨_, rfl⟩
                  have hR : ah_R G h_163 H := by rw [e_164]; exact hR
                  have f_165 : h_163 y = some (20, .inr (8, mF A k0 n rf pm zh lc c pt gv un)) := by rw [e_164]; exact ah_keep f_157 f_162 (by omega)
                  have f_166 : h_163 (A 1) = some (21, .inl (G.2.2.1 0, 128, .inl plT)) := by rw [e_164]; exact ah_keep f_158 f_162 (by omega)
                  have f_167 : h_163 (A 2) = some (22, .inl (G.2.2.1 0, 128, .inl esT)) := by rw [e_164]; exact ah_keep f_159 f_162 (by omega)
                  have f_168 : h_163 (A 4) = some (24, .inl (G.2.2.1 0, 3000, .inl (nA tx))) := by rw [e_164]; exact ah_keep f_160 f_162 (by omega)
                  have f_169 : h_163 (A 7) = some (27, .inl (G.2.2.1 0, 255, .inl (nA ln))) := by rw [e_164]; exact ah_keep f_161 f_162 (by omega)
                  have f_170 : h_163 (A 8) = some (28, .inl (G.2.2.1 0, 36210, .inl (nA (gU (gU (gU (gU (zR bb p9 142) (142 * p9) 1) ((142 * p9) + 2) 5) ((142 * p9) + 4) 3) ((142 * p9) + 5) rf)))) := by rw [e_164]; exact ah_up_s _ _ _
                  refine lv_aload_n hx hb dX9_part_101 rfl (lv_at hl 1 rfl) ?_
                  refine ah_get (ci := 8) (v := .ref (A 8)) (C := RX9) (T := TX9) (N := 27) hx hb hE hR hts hinX9 hown f_165 rfl 8 (by decide) k23 (fun _ h9 => h9) rfl dX9_part_102 ?_
                  refine lv_iload hx hb dX9_part_105 (lv_at hl 7 rfl) ?_
                  refine lv_bipush (v := nI 6) hx hb dX9_part_107 (by decide) ?_
                  refine lv_iadd hx hb dX9_part_109 ?_
                  refine ah_toi (v := nI ((142 * p9) + 6)) (nI_add _ _) ?_
                  refine lv_iload hx hb dX9_part_110 (lv_at hl 6 rfl) ?_
                  refine ah_iast (i := ((142 * p9) + 6)) hx hb hE hR hS f_170 (by omega) (by omega) dX9_part_112 (fun H locs hR hS => ?_)
                  rw [nA_upd] at hR
                  obtain ⟨h_171, e_172⟩ : ∃ zz9, zz9 = ah_up h_163 (A 8) (28, .inl (G.2.2.1 0, 36210, .inl (nA (gU (gU (gU (gU (gU (zR bb p9 142) (142 * p9) 1) ((142 * p9) + 2) 5) ((142 * p9) + 4) 3) ((142 * p9) + 5) rf) ((142 * p9) + 6) of9)))) := ⟨_, rfl⟩
                  have hR : ah_R G h_171 H := by rw [e_172]; exact hR
                  have f_173 : h_171 y = some (20, .inr (8, mF A k0 n rf pm zh lc c pt gv un)) := by rw [e_172]; exact ah_keep f_165 f_170 (by omega)
                  have f_174 : h_171 (A 1) = some (21, .inl (G.2.2.1 0, 128, .inl plT)) := by rw [e_172]; exact ah_keep f_166 f_170 (by omega)
                  have f_175 : h_171 (A 2) = some (22, .inl (G.2.2.1 0, 128, .inl esT)) := by rw [e_172]; exact ah_keep f_167 f_170 (by omega)
                  have f_176 : h_171 (A 4) = some (24, .inl (G.2.2.1 0, 3000, .inl (nA tx))) := by rw [e_172]; exact ah_keep f_168 f_170 (by omega)
                  have f_177 : h_171 (A 7) = some (27, .inl (G.2.2.1 0, 255, .inl (nA ln))) := by rw [e_172]; exact ah_keep f_169 f_170 (by omega)
                  have f_178 : h_171 (A 8) = some (28, .inl (G.2.2.1 0, 36210, .inl (nA (gU (gU (gU (gU (gU (zR bb p9 142) (142 * p9) 1) ((142 * p9) + 2) 5) ((142 * p9) + 4) 3) ((142 * p9) + 5) rf) ((142 * p9) + 6) of9)))) := by rw [e_172]; exact ah_up_s _ _ _
                  refine lv_aload_n hx hb dX9_part_113 rfl (lv_at hl 1 rfl) ?_
                  refine ah_get (ci := 8) (v := .ref (A 8)) (C := RX9) (T := TX9) (N := 27) hx hb hE hR hts hinX9 hown f_173 rfl 8 (by decide) k23 (fun _ h9 => h9) rfl dX9_part_114 ?_
                  refine lv_iload hx hb dX9_part_117 (lv_at hl 7 rfl) ?_
                  refine lv_bipush (v := nI 7) hx hb dX9_part_119 (by decide) ?_
                  refine lv_iadd hx hb dX9_part_121 ?_
                  refine ah_toi (v := nI ((142 * p9) + 7)) (nI_add _ _) ?_
                  refine lv_iload_n hx hb dX9_part_122 rfl (lv_at hl 2 rfl) ?_
                  refine lv_iconst (v := nI 1) hx hb dX9_part_123 (by decide) ?_
                  refine lv_iadd hx hb dX9_part_124 ?_
                  refine ah_toi (v := nI (p9 + 1)) (nI_add _ _) ?_
                  refine ah_iast (i := ((142 * p9) + 7)) hx hb hE hR hS f_178 (by omega) (by omega) dX9_part_125 (fun H locs hR hS => ?_)
                  rw [nA_upd] at hR
                  obtain ⟨h_179, e_180⟩ : ∃ zz9, zz9 = ah_up h_171 (A 8) (28, .inl (G.2.2.1 0, 36210, .inl (nA (gU (gU (gU (gU (gU (gU (zR bb p9 142) (142 * p9) 1) ((142 * p9) + 2) 5) ((142 * p9) + 4) 3) ((142 * p9) + 5) rf) ((142 * p9) + 6) of9) ((142 * p9) + 7) (p9 + 1))))) := ⟨_, rfl⟩
                  have hR : ah_R G h_179 H := by rw [e_180]; exact hR
                  have f_181 : h_179 y = some (20, .inr (8, mF A k0 n rf pm zh lc c pt gv un)) := by rw [e_180]; exact ah_keep f_173 f_178 (by omega)
                  have f_182 : h_179 (A 1) = some (21, .inl (G.2.2.1 0, 128, .inl plT)) := by rw [e_180]; exact ah_keep f_174 f_178 (by omega)
                  have f_183 : h_179 (A 2) = some (22, .inl (G.2.2.1 0, 128, .inl esT)) := by rw [e_180]; exact ah_keep f_175 f_178 (by omega)
                  have f_184 : h_179 (A 4) = some (24, .inl (G.2.2.1 0, 3000, .inl (nA tx))) := by rw [e_180]; exact ah_keep f_176 f_178 (by omega)
                  have f_185 : h_179 (A 7) = some (27, .inl (G.2.2.1 0, 255, .inl (nA ln))) := by rw [e_180]; exact ah_keep f_177 f_178 (by omega)
                  have f_186 : h_179 (A 8) = some (28, .inl (G.2.2.1 0, 36210, .inl (nA (gU (gU (gU (gU (gU (gU (zR bb p9 142) (142 * p9) 1) ((142 * p9) + 2) 5) ((142 * p9) + 4) 3) ((142 * p9) + 5) rf) ((142 * p9) + 6) of9) ((142 * p9) + 7) (p9 + 1))))) := by rw [e_180]; exact ah_up_s _ _ _
                  refine lv_iload hx hb dX9_part_126 (lv_at hl 6 rfl) ?_
                  refine lv_if_ne (tgt := 135) hx hb dX9_part_128 (by decide) (fun c_187 => ?_) (fun c_187 => ?_)
                  · skip
                    have c_187 : ¬ (of9 = 0) := fun z9 => c_187 ((zi_eq (by omega)).mpr z9)
                    refine lv_iload hx hb dX9_part_135 (lv_at hl 5 rfl) ?_
                    refine lv_if_eq (tgt := 145) hx hb dX9_part_137 (by decide) (fun c_188 => ?_) (fun c_188 => ?_)
                    · skip
                      have c_188 : pb = 0 := (zi_eq (by omega)).mp c_188
                      refine lv_bipush (v := nI 7) hx hb dX9_part_145 (by decide) ?_
                      refine lv_istore (lv' := [(7, .int (nI 7)), (0, .ref y), (1, .int (nI p9)), (2, .int (nI a)), (3, .int (nI mny)), (4, .int (nI pb)), (5, .int (nI of9)), (6, .int (nI (142 * p9)))]) hx hb dX9_part_147 hl (by decide) rfl (fun ls hl => ?_)
                      obtain ⟨b0, eb0⟩ : ∃ b9 : Nat → Nat, b9 = (gU (gU (gU (gU (gU (gU (zR bb p9 142) (142 * p9) 1) ((142 * p9) + 2) 5) ((142 * p9) + 4) 3) ((142 * p9) + 5) rf) ((142 * p9) + 6) of9) ((142 * p9) + 7) (p9 + 1)) := ⟨_, rfl⟩
                      have f_189 : h_179 (A 8) = some (28, .inl (G.2.2.1 0, 36210, .inl (nA b0))) := by rw [eb0]; exact f_186
                      have ehb : h_179 = ah_up h (A 8) (28, .inl (G.2.2.1 0, 36210, .inl (nA b0))) := by rw [eb0, e_180, e_172, e_164, e_156, e_148, e_139, eh1]; simp only [ah_up2]
                      have hb0 : (∀ j, j < 142 → b0 (142 * p9 + j) = hB od (od) rf of9 (p9 + 1) j) ∧ ∀ x, (x < 142 * p9 ∨ 142 * p9 + 142 ≤ x) → b0 x = bb x := by rw [eb0, hod]; exact hB1
                      refine lv_iload_n hx hb dX9_part_149 rfl (lv_at hl 3 rfl) ?_
                      refine lv_istore (lv' := [(8, .int (nI a)), (7, .int (nI 7)), (0, .ref y), (1, .int (nI p9)), (2, .int (nI a)), (3, .int (nI mny)), (4, .int (nI pb)), (5, .int (nI of9)), (6, .int (nI (142 * p9)))]) hx hb dX9_part_150 hl (by decide) rfl (fun ls hl => ?_)
                      have epl0 : 7 = 7 * od + sumS tx a (a - a) := by rw [hod, Nat.sub_self]; rfl
                      have L152 : ∀ (N152 : Nat) (k : Nat) (pl : Nat) (b1 : Nat → Nat) (h2 : ah_H) (H : Heap) (locs : List Loc) (ls : Array Slot), a + mny - k < N152 → (a ≤ k) → (k ≤ a + mny) → (pl = 7 * od + sumS tx a (k - a)) → (∀ j, b1 (142 * p9 + j) ||| ctr tx (a + mny - k) k pl j = b0 (142 * p9 + j) ||| ctr tx mny a (7 * od) j) → (∀ x, (x < 142 * p9 ∨ 142 * p9 + 142 ≤ x) → b1 x = b0 x) → (h2 = ah_up h (A 8) (28, .inl (G.2.2.1 0, 36210, .inl (nA b1)))) → (h2 y = some (20, .inr (8, mF A k0 n rf pm zh lc c pt gv un))) → (h2 (A 1) = some (21, .inl (G.2.2.1 0, 128, .inl plT))) → (h2 (A 2) = some (22, .inl (G.2.2.1 0, 128, .inl esT))) → (h2 (A 4) = some (24, .inl (G.2.2.1 0, 3000, .inl (nA tx)))) → (h2 (A 7) = some (27, .inl (G.2.2.1 0, 255, .inl (nA ln)))) → (h2 (A 8) = some (28, .inl (G.2.2.1 0, 36210, .inl (nA b1)))) → ah_R G h2 H → va_S (ah_A G) s.heap H locs → lv_has ls 10 [(8, .int (nI k)), (7, .int (nI pl)), (0, .ref y), (1, .int (nI p9)), (2, .int (nI a)), (3, .int (nI mny)), (4, .int (nI pb)), (5, .int (nI of9)), (6, .int (nI (142 * p9)))] → W p l e ({ frames := 1, cells := 0, slots := 0, locals := 25 }) s m ([.ref y, .int (nI p9), .int (nI a), .int (nI mny), .int (nI pb), .int (nI of9)] : List Value).toArray below meth cd9 H locs 0 0 (MQ below (ah_Qv G (fun h' => ∃ (b2 : Nat → Nat) (zz : Nat), h' = ah_up (ah_up h (A 8) (28, .inl (G.2.2.1 0, 36210, .inl (nA b2)))) (A 7) (27, .inl (G.2.2.1 0, 255, .inl (nA (gU ln p9 zz)))) ∧ (∀ x, (x < 142 * p9 ∨ 142 * p9 + 142 ≤ x) → b2 x = bb x) ∧ (pb = 0 → zz = sevZ tx od a (a + mny) ∧ ∀ j, j < zz → b2 (142 * p9 + j) = (if od = 1 then hdrG (sevG tx od a (a + mny)) (sevZ tx od a (a + mny)) rf of9 (p9 + 1) else sevG tx od a (a + mny)) j) ∧ (pb ≠ 0 → zz = pairZ od a (a + mny) ∧ ∀ j, j < zz → b2 (142 * p9 + j) = (if od = 1 then hdrG (pairG tx od a (a + mny)) (pairZ od a (a + mny)) rf of9 (p9 + 1) else pairG tx od a (a + mny)) j))) ([.ref y, .int (nI p9), .int (nI a), .int (nI mny), .int (nI pb), .int (nI of9)] : List Value).toArray s 0 0 (ah_A G)) (F0 m 152 ls []) := by
                        intro N152
                        induction N152 with
                        | zero => intro k pl b1 h2 H locs ls hN; exact absurd hN (Nat.not_lt_zero _)
                        | succ N152 ih152 =>
                          intro k pl b1 h2 H locs ls hN152 hk hkn epl inv out eh2 fy2 fa12 fa22 fa42 fa72 fa82 hR hS hl
                          refine lv_iload hx hb dX9_part_152 (lv_at hl 0 rfl) ?_
                          refine lv_iload_n hx hb dX9_part_154 rfl (lv_at hl 4 rfl) ?_
                          refine lv_iload_n hx hb dX9_part_155 rfl (lv_at hl 5 rfl) ?_
                          refine lv_iadd hx hb dX9_part_156 ?_
                          refine ah_toi (v := nI (a + mny)) (nI_add _ _) ?_
                          refine lv_icmp_ge (tgt := 269) hx hb dX9_part_157 (by decide) (fun c_190 => ?_) (fun c_190 => ?_)
                          · skip
                            have c_190 : (a + mny) ≤ k := (nI_leI (by omega) (by omega)).mp c_190
                            have ekk : k = a + mny := by omega
                            subst ekk
                            have eplF : pl = 7 * od + sumS tx a mny := by rw [epl, show a + mny - a = mny by omega]
                            have inv9 : ∀ j, b1 (142 * p9 + j) = b0 (142 * p9 + j) ||| ctr tx mny a (7 * od) j := fun j => by have := inv j; rw [Nat.sub_self] at this; rw [← this]; exact (Nat.or_zero _).symm
                            refine lv_aload_n hx hb dX9_part_269 rfl (lv_at hl 2 rfl) ?_
                            refine ah_get (ci := 8) (v := .ref (A 8)) (C := RX9) (T := TX9) (N := 27) hx hb hE hR hts hinX9 hown fy2 rfl 8 (by decide) k23 (fun _ h9 => h9) rfl dX9_part_270 ?_
                            refine lv_iload hx hb dX9_part_273 (lv_at hl 8 rfl) ?_
                            refine lv_iconst (v := nI 1) hx hb dX9_part_275 (by decide) ?_
                            refine lv_iadd hx hb dX9_part_276 ?_
                            refine ah_toi (v := nI ((142 * p9) + 1)) (nI_add _ _) ?_
                            refine lv_iload hx hb dX9_part_277 (lv_at hl 1 rfl) ?_
                            refine ah_iast (i := ((142 * p9) + 1)) hx hb hE hR hS fa82 (by omega) (by omega) dX9_part_279 (fun H locs hR hS => ?_)
                            rw [nA_upd] at hR
                            obtain ⟨h_191, e_192⟩ : ∃ zz9, zz9 = ah_up h2 (A 8) (28, .inl (G.2.2.1 0, 36210, .inl (nA (gU b1 ((142 * p9) + 1) pl)))) := ⟨_, rfl⟩
                            have hR : ah_R G h_191 H := by rw [e_192]; exact hR
                            have f_193 : h_191 y = some (20, .inr (8, mF A k0 n rf pm zh lc c pt gv un)) := by rw [e_192]; exact ah_keep fy2 fa82 (by omega)
                            have f_194 : h_191 (A 1) = some (21, .inl (G.2.2.1 0, 128, .inl plT)) := by rw [e_192]; exact ah_keep fa12 fa82 (by omega)
                            have f_195 : h_191 (A 2) = some (22, .inl (G.2.2.1 0, 128, .inl esT)) := by rw [e_192]; exact ah_keep fa22 fa82 (by omega)
                            have f_196 : h_191 (A 4) = some (24, .inl (G.2.2.1 0, 3000, .inl (nA tx))) := by rw [e_192]; exact ah_keep fa42 fa82 (by omega)
                            have f_197 : h_191 (A 7) = some (27, .inl (G.2.2.1 0, 255, .inl (nA ln))) := by rw [e_192]; exact ah_keep fa72 fa82 (by omega)
                            have f_198 : h_191 (A 8) = some (28, .inl (G.2.2.1 0, 36210, .inl (nA (gU b1 ((142 * p9) + 1) pl)))) := by rw [e_192]; exact ah_up_s _ _ _
                            refine lv_aload_n hx hb dX9_part_280 rfl (lv_at hl 2 rfl) ?_
                            refine ah_get (ci := 8) (v := .ref (A 7)) (C := RX9) (T := TX9) (N := 27) hx hb hE hR hts hinX9 hown f_193 rfl 7 (by decide) k19 (fun _ h9 => h9) rfl dX9_part_281 ?_
                            refine lv_iload_n hx hb dX9_part_284 rfl (lv_at hl 3 rfl) ?_
                            refine lv_iconst (v := nI 2) hx hb dX9_part_285 (by decide) ?_
                            refine lv_iload hx hb dX9_part_286 (lv_at hl 6 rfl) ?_
                            refine lv_if_eq (tgt := 296) hx hb dX9_part_288 (by decide) (fun c_199 => ?_) (fun c_199 => ?_)
                            · skip
                              have c_199 : pb = 0 := (zi_eq (by omega)).mp c_199
                              refine lv_bipush (v := nI 7) hx hb dX9_part_296 (by decide) ?_
                              refine lv_iload hx hb dX9_part_298 (lv_at hl 1 rfl) ?_
                              refine lv_imul hx hb dX9_part_300 ?_
                              refine ah_toi (v := nI (7 * pl)) (pk_mul _ _) ?_
                              refine lv_bipush (v := nI 7) hx hb dX9_part_301 (by decide) ?_
                              refine lv_iadd hx hb dX9_part_303 ?_
                              refine ah_toi (v := nI ((7 * pl) + 7)) (nI_add _ _) ?_
                              refine lv_bipush (v := nI 8) hx hb dX9_part_304 (by decide) ?_
                              refine lv_idiv hx hb dX9_part_306 (by decide) ?_
                              refine ah_toi (v := nI (((7 * pl) + 7) / 8)) (pk_div (by omega) (by omega) (by omega)) ?_
                              refine lv_iadd hx hb dX9_part_307 ?_
                              refine ah_toi (v := nI (2 + (((7 * pl) + 7) / 8))) (nI_add _ _) ?_
                              refine ah_iast (i := p9) hx hb hE hR hS f_197 (by omega) (by omega) dX9_part_308 (fun H locs hR hS => ?_)
                              rw [nA_upd] at hR
                              obtain ⟨h_200, e_201⟩ : ∃ zz9, zz9 = ah_up h_191 (A 7) (27, .inl (G.2.2.1 0, 255, .inl (nA (gU ln p9 (2 + (((7 * pl) + 7) / 8)))))) := ⟨_, rfl⟩
                              have hR : ah_R G h_200 H := by rw [e_201]; exact hR
                              have f_202 : h_200 y = some (20, .inr (8, mF A k0 n rf pm zh lc c pt gv un)) := by rw [e_201]; exact ah_keep f_193 f_197 (by omega)
                              have f_203 : h_200 (A 1) = some (21, .inl (G.2.2.1 0, 128, .inl plT)) := by rw [e_201]; exact ah_keep f_194 f_197 (by omega)
                              have f_204 : h_200 (A 2) = some (22, .inl (G.2.2.1 0, 128, .inl esT)) := by rw [e_201]; exact ah_keep f_195 f_197 (by omega)
                              have f_205 : h_200 (A 4) = some (24, .inl (G.2.2.1 0, 3000, .inl (nA tx))) := by rw [e_201]; exact ah_keep f_196 f_197 (by omega)
                              have f_206 : h_200 (A 7) = some (27, .inl (G.2.2.1 0, 255, .inl (nA (gU ln p9 (2 + (((7 * pl) + 7) / 8)))))) := by rw [e_201]; exact ah_up_s _ _ _
                              have f_207 : h_200 (A 8) = some (28, .inl (G.2.2.1 0, 36210, .inl (nA (gU b1 ((142 * p9) + 1) pl)))) := by rw [e_201]; exact ah_keep f_198 f_197 (by omega)
                              refine ah_vret hx hb hr hlocks hR hS dX9_part_309 ?_
                              refine ⟨gU b1 (142 * p9 + 1) pl, (2 + (((7 * pl) + 7) / 8)), by rw [e_201, e_192, eh2, ah_up2], fun x hx9 => by rw [gU_n (by omega), out x hx9]; exact hb0.2 x hx9, ?_, ?_⟩
                              · intro _
                                have ez : (2 + (((7 * pl) + 7) / 8)) = sevZ tx od a (a + mny) := by unfold sevZ bfs; rw [show a + mny - a = mny by omega, eplF]
                                refine ⟨ez, fun j hj => ?_⟩
                                rw [ez] at hj
                                have hj2 : j < 142 := by unfold sevZ bfs at hj; rw [show a + mny - a = mny by omega] at hj; omega
                                rw [sevG_at (by omega) hj, show a + mny - a = mny by omega, finS (by omega), ← eplF]
                                by_cases j1 : j = 1
                                · subst j1; rw [gU_s, if_pos rfl]
                                · rw [gU_n (by omega), if_neg j1, inv9, hb0.1 j hj2]
                              · intro z9; exact absurd hq z9
                            · skip
                              have c_199 : ¬ (pb = 0) := fun z9 => c_199 ((zi_eq (by omega)).mpr z9)
                              exact absurd c_199 (by omega)
                          · skip
                            have c_190 : ¬ ((a + mny) ≤ k) := fun z9 => c_190 ((nI_leI (by omega) (by omega)).mpr z9)
                            have hfk := hf k
                            have hsn := hin hq k hk (by omega)
                            have hmo := sumS_mono tx a mny (k + 1 - a) (by omega)
                            rw [sumS_k hk] at hmo
                            have hmm : a + mny - k = a + mny - (k + 1) + 1 := by omega
                            rw [hmm] at inv
                            refine lv_iload hx hb dX9_part_160 (lv_at hl 6 rfl) ?_
                            refine lv_if_eq (tgt := 216) hx hb dX9_part_162 (by decide) (fun c_208 => ?_) (fun c_208 => ?_)
                            · skip
                              have c_208 : pb = 0 := (zi_eq (by omega)).mp c_208
                              refine lv_aload_n hx hb dX9_part_216 rfl (lv_at hl 2 rfl) ?_
                              refine lv_aload_n hx hb dX9_part_217 rfl (lv_at hl 2 rfl) ?_
                              refine ah_get (ci := 8) (v := .ref (A 4)) (C := RX9) (T := TX9) (N := 27) hx hb hE hR hts hinX9 hown fy2 rfl 4 (by decide) k16 (fun _ h9 => h9) rfl dX9_part_218 ?_
                              refine lv_iload hx hb dX9_part_221 (lv_at hl 0 rfl) ?_
                              refine ah_iald (i := k) hx hb hE hR fa42 (by omega) (by omega) dX9_part_223 ?_
                              refine ah_toi (v := nI (tx k)) rfl ?_
                              refine ah_calli (va_runV (As := [.int (nI (tx k))]) (rest := []) ⟨hx, hb, hml, hown, hts⟩ (c_m_sevenOf l G h2 y A k0 n rf pm zh lc c pt gv un fy2 fa12 fa22 (tx k) (by omega)) (cwV 1 hts gX9_part_X9_sevenOf rfl rfl rfl (by decide +kernel) ⟨Nat.le_of_ble_eq_true rfl, Nat.le_of_ble_eq_true rfl⟩) (ah_preV hE hR hS fy2 rfl) rfl rfl hl.1 rfl (lv_room (Nat.le_of_ble_eq_true rfl)) dX9_part_224 ⟨Nat.le_of_ble_eq_true rfl, Nat.le_of_ble_eq_true rfl⟩) hS (fun r_211 h_209 H locs p_210 hR hS => ?_)
                              obtain ⟨e_212, e_213⟩ := p_210
                              rw [e_213] at hR
                              have hen := escN_lt (tx k); have hpn := plainN_lt (tx k)
                              by_cases hpl : plainSv (tx k) = -1
                              · skip
                                have hsf := (svFor2 hpl hsn).1
                                refine ah_toi (v := nI (128 + escN (tx k))) (by rw [e_212]; exact sv9_e hpl hsn) ?_
                                refine lv_istore (lv' := [(9, .int (nI (128 + escN (tx k)))), (8, .int (nI k)), (7, .int (nI pl)), (0, .ref y), (1, .int (nI p9)), (2, .int (nI a)), (3, .int (nI mny)), (4, .int (nI pb)), (5, .int (nI of9)), (6, .int (nI (142 * p9)))]) hx hb dX9_part_227 hl (by decide) rfl (fun ls hl => ?_)
                                refine lv_iload hx hb dX9_part_229 (lv_at hl 0 rfl) ?_
                                refine lv_bipush (v := nI 127) hx hb dX9_part_231 (by decide) ?_
                                refine lv_icmp_le (tgt := 248) hx hb dX9_part_233 (by decide) (fun c_214 => ?_) (fun c_214 => ?_)
                                · skip
                                  have c_214 : (128 + escN (tx k)) ≤ 127 := (nI_leI (by omega) (by omega)).mp c_214
                                  exact absurd c_214 (by omega)
                                · skip
                                  have c_214 : ¬ ((128 + escN (tx k)) ≤ 127) := fun z9 => c_214 ((nI_leI (by omega) (by omega)).mpr z9)
                                  refine lv_aload_n hx hb dX9_part_236 rfl (lv_at hl 3 rfl) ?_
                                  refine lv_iload_n hx hb dX9_part_237 rfl (lv_at hl 4 rfl) ?_
                                  refine lv_iload hx hb dX9_part_238 (lv_at hl 2 rfl) ?_
                                  refine lv_bipush (v := nI 27) hx hb dX9_part_240 (by decide) ?_
                                  refine ah_callv (va_runV (As := [.int (nI p9), .int (nI pl), .int (nI 27)]) (rest := []) ⟨hx, hb, hml, hown, hts⟩ (c_m_puts l G h2 y A k0 n rf pm zh lc c pt gv un fy2 b1 fa82 p9 pl 27 hp9 (by omega) (by omega)) (cwV 3 hts gX9_part_X9_puts rfl rfl rfl (by decide +kernel) ⟨Nat.le_of_ble_eq_true rfl, Nat.le_of_ble_eq_true rfl⟩) (ah_preV hE hR hS fy2 rfl) rfl rfl hl.1 rfl (lv_room (Nat.le_of_ble_eq_true rfl)) dX9_part_242 ⟨Nat.le_of_ble_eq_true rfl, Nat.le_of_ble_eq_true rfl⟩) hS (fun h_215 H locs p_216 hR hS => ?_)
                                  have f_218 : h_215 y = some (20, .inr (8, mF A k0 n rf pm zh lc c pt gv un)) := by rw [p_216]; exact ah_keep fy2 fa82 (by omega)
                                  have f_219 : h_215 (A 1) = some (21, .inl (G.2.2.1 0, 128, .inl plT)) := by rw [p_216]; exact ah_keep fa12 fa82 (by omega)
                                  have f_220 : h_215 (A 2) = some (22, .inl (G.2.2.1 0, 128, .inl esT)) := by rw [p_216]; exact ah_keep fa22 fa82 (by omega)
                                  have f_221 : h_215 (A 4) = some (24, .inl (G.2.2.1 0, 3000, .inl (nA tx))) := by rw [p_216]; exact ah_keep fa42 fa82 (by omega)
                                  have f_222 : h_215 (A 7) = some (27, .inl (G.2.2.1 0, 255, .inl (nA ln))) := by rw [p_216]; exact ah_keep fa72 fa82 (by omega)
                                  have f_223 : h_215 (A 8) = some (28, .inl (G.2.2.1 0, 36210, .inl (nA (orB b1 p9 pl 27 7)))) := by rw [p_216]; exact ah_up_s _ _ _
                                  refine lv_iinc (v := nI (pl + 1)) (lv' := [(7, .int (nI (pl + 1))), (9, .int (nI (128 + escN (tx k)))), (8, .int (nI k)), (0, .ref y), (1, .int (nI p9)), (2, .int (nI a)), (3, .int (nI mny)), (4, .int (nI pb)), (5, .int (nI of9)), (6, .int (nI (142 * p9)))]) hx hb dX9_part_245 hl (k := 2) rfl (show nI pl + Int32.ofInt 1 = nI (pl + 1) from nI_add _ 1) (by decide) rfl (fun ls hl => ?_)
                                  refine lv_aload_n hx hb dX9_part_248 rfl (lv_at hl 3 rfl) ?_
                                  refine lv_iload_n hx hb dX9_part_249 rfl (lv_at hl 4 rfl) ?_
                                  refine lv_iload hx hb dX9_part_250 (lv_at hl 0 rfl) ?_
                                  refine lv_iload hx hb dX9_part_252 (lv_at hl 1 rfl) ?_
                                  refine lv_bipush (v := nI 127) hx hb dX9_part_254 (by decide) ?_
                                  refine lv_iand hx hb dX9_part_256 ?_
                                  refine ah_toi (v := nI (escN (tx k))) (by rw [ny_a127, show (128 + escN (tx k)) % 128 = escN (tx k) by omega]) ?_
                                  refine ah_callv (va_runV (As := [.int (nI p9), .int (nI (pl + 1)), .int (nI (escN (tx k)))]) (rest := []) ⟨hx, hb, hml, hown, hts⟩ (c_m_puts l G h_215 y A k0 n rf pm zh lc c pt gv un f_218 (orB b1 p9 pl 27 7) f_223 p9 (pl + 1) (escN (tx k)) hp9 (by omega) (by omega)) (cwV 3 hts gX9_part_X9_puts rfl rfl rfl (by decide +kernel) ⟨Nat.le_of_ble_eq_true rfl, Nat.le_of_ble_eq_true rfl⟩) (ah_preV hE hR hS f_218 rfl) rfl rfl hl.1 rfl (lv_room (Nat.le_of_ble_eq_true rfl)) dX9_part_257 ⟨Nat.le_of_ble_eq_true rfl, Nat.le_of_ble_eq_true rfl⟩) hS (fun h_224 H locs p_225 hR hS => ?_)
                                  have f_227 : h_224 y = some (20, .inr (8, mF A k0 n rf pm zh lc c pt gv un)) := by rw [p_225]; exact ah_keep f_218 f_223 (by omega)
                                  have f_228 : h_224 (A 1) = some (21, .inl (G.2.2.1 0, 128, .inl plT)) := by rw [p_225]; exact ah_keep f_219 f_223 (by omega)
                                  have f_229 : h_224 (A 2) = some (22, .inl (G.2.2.1 0, 128, .inl esT)) := by rw [p_225]; exact ah_keep f_220 f_223 (by omega)
                                  have f_230 : h_224 (A 4) = some (24, .inl (G.2.2.1 0, 3000, .inl (nA tx))) := by rw [p_225]; exact ah_keep f_221 f_223 (by omega)
                                  have f_231 : h_224 (A 7) = some (27, .inl (G.2.2.1 0, 255, .inl (nA ln))) := by rw [p_225]; exact ah_keep f_222 f_223 (by omega)
                                  have f_232 : h_224 (A 8) = some (28, .inl (G.2.2.1 0, 36210, .inl (nA (orB (orB b1 p9 pl 27 7) p9 (pl + 1) (escN (tx k)) 7)))) := by rw [p_225]; exact ah_up_s _ _ _
                                  refine lv_iinc (v := nI ((pl + 1) + 1)) (lv' := [(7, .int (nI ((pl + 1) + 1))), (9, .int (nI (128 + escN (tx k)))), (8, .int (nI k)), (0, .ref y), (1, .int (nI p9)), (2, .int (nI a)), (3, .int (nI mny)), (4, .int (nI pb)), (5, .int (nI of9)), (6, .int (nI (142 * p9)))]) hx hb dX9_part_260 hl (k := 0) rfl (show nI (pl + 1) + Int32.ofInt 1 = nI ((pl + 1) + 1) from nI_add _ 1) (by decide) rfl (fun ls hl => ?_)
                                  refine lv_iinc (v := nI (k + 1)) (lv' := [(8, .int (nI (k + 1))), (7, .int (nI ((pl + 1) + 1))), (9, .int (nI (128 + escN (tx k)))), (0, .ref y), (1, .int (nI p9)), (2, .int (nI a)), (3, .int (nI mny)), (4, .int (nI pb)), (5, .int (nI of9)), (6, .int (nI (142 * p9)))]) hx hb dX9_part_263 hl (k := 2) rfl (show nI k + Int32.ofInt 1 = nI (k + 1) from nI_add _ 1) (by decide) rfl (fun ls hl => ?_)
                                  refine lv_goto (tgt := 152) hx hb dX9_part_266 (by decide) ?_
                                  exact ih152  (k + 1) ((pl + 1) + 1) (orB (orB b1 p9 pl 27 7) p9 (pl + 1) (escN (tx k)) 7) h_224 _ _ ls (by omega) (by omega) (by omega) (by rw [sumS_k hk, hsf, epl]; omega) (stepE hpl inv) (fun x hx9 => by rw [orB_out (by omega) (by omega) hx9, orB_out (by omega) (by decide) hx9]; exact out x hx9) (by rw [p_225, p_216, eh2]; simp only [ah_up2]) f_227 f_228 f_229 f_230 f_231 f_232 hR hS (lv_sub hl [0, 1, 3, 4, 5, 6, 7, 8, 9] rfl)
                              · skip
                                have hsf := svFor1 hpl
                                refine ah_toi (v := nI (plainN (tx k))) (by rw [e_212]; exact sv9_p hpl) ?_
                                refine lv_istore (lv' := [(9, .int (nI (plainN (tx k)))), (8, .int (nI k)), (7, .int (nI pl)), (0, .ref y), (1, .int (nI p9)), (2, .int (nI a)), (3, .int (nI mny)), (4, .int (nI pb)), (5, .int (nI of9)), (6, .int (nI (142 * p9)))]) hx hb dX9_part_227 hl (by decide) rfl (fun ls hl => ?_)
                                refine lv_iload hx hb dX9_part_229 (lv_at hl 0 rfl) ?_
                                refine lv_bipush (v := nI 127) hx hb dX9_part_231 (by decide) ?_
                                refine lv_icmp_le (tgt := 248) hx hb dX9_part_233 (by decide) (fun c_233 => ?_) (fun c_233 => ?_)
                                · skip
                                  have c_233 : (plainN (tx k)) ≤ 127 := (nI_leI (by omega) (by omega)).mp c_233
                                  refine lv_aload_n hx hb dX9_part_248 rfl (lv_at hl 3 rfl) ?_
                                  refine lv_iload_n hx hb dX9_part_249 rfl (lv_at hl 4 rfl) ?_
                                  refine lv_iload hx hb dX9_part_250 (lv_at hl 2 rfl) ?_
                                  refine lv_iload hx hb dX9_part_252 (lv_at hl 0 rfl) ?_
                                  refine lv_bipush (v := nI 127) hx hb dX9_part_254 (by decide) ?_
                                  refine lv_iand hx hb dX9_part_256 ?_
                                  refine ah_toi (v := nI (plainN (tx k))) (by rw [ny_a127, show plainN (tx k) % 128 = plainN (tx k) by omega]) ?_
                                  refine ah_callv (va_runV (As := [.int (nI p9), .int (nI pl), .int (nI (plainN (tx k)))]) (rest := []) ⟨hx, hb, hml, hown, hts⟩ (c_m_puts l G h2 y A k0 n rf pm zh lc c pt gv un fy2 b1 fa82 p9 pl (plainN (tx k)) hp9 (by omega) (by omega)) (cwV 3 hts gX9_part_X9_puts rfl rfl rfl (by decide +kernel) ⟨Nat.le_of_ble_eq_true rfl, Nat.le_of_ble_eq_true rfl⟩) (ah_preV hE hR hS fy2 rfl) rfl rfl hl.1 rfl (lv_room (Nat.le_of_ble_eq_true rfl)) dX9_part_257 ⟨Nat.le_of_ble_eq_true rfl, Nat.le_of_ble_eq_true rfl⟩) hS (fun h_234 H locs p_235 hR hS => ?_)
                                  have f_237 : h_234 y = some (20, .inr (8, mF A k0 n rf pm zh lc c pt gv un)) := by rw [p_235]; exact ah_keep fy2 fa82 (by omega)
                                  have f_238 : h_234 (A 1) = some (21, .inl (G.2.2.1 0, 128, .inl plT)) := by rw [p_235]; exact ah_keep fa12 fa82 (by omega)
                                  have f_239 : h_234 (A 2) = some (22, .inl (G.2.2.1 0, 128, .inl esT)) := by rw [p_235]; exact ah_keep fa22 fa82 (by omega)
                                  have f_240 : h_234 (A 4) = some (24, .inl (G.2.2.1 0, 3000, .inl (nA tx))) := by rw [p_235]; exact ah_keep fa42 fa82 (by omega)
                                  have f_241 : h_234 (A 7) = some (27, .inl (G.2.2.1 0, 255, .inl (nA ln))) := by rw [p_235]; exact ah_keep fa72 fa82 (by omega)
                                  have f_242 : h_234 (A 8) = some (28, .inl (G.2.2.1 0, 36210, .inl (nA (orB b1 p9 pl (plainN (tx k)) 7)))) := by rw [p_235]; exact ah_up_s _ _ _
                                  refine lv_iinc (v := nI (pl + 1)) (lv' := [(7, .int (nI (pl + 1))), (9, .int (nI (plainN (tx k)))), (8, .int (nI k)), (0, .ref y), (1, .int (nI p9)), (2, .int (nI a)), (3, .int (nI mny)), (4, .int (nI pb)), (5, .int (nI of9)), (6, .int (nI (142 * p9)))]) hx hb dX9_part_260 hl (k := 2) rfl (show nI pl + Int32.ofInt 1 = nI (pl + 1) from nI_add _ 1) (by decide) rfl (fun ls hl => ?_)
                                  refine lv_iinc (v := nI (k + 1)) (lv' := [(8, .int (nI (k + 1))), (7, .int (nI (pl + 1))), (9, .int (nI (plainN (tx k)))), (0, .ref y), (1, .int (nI p9)), (2, .int (nI a)), (3, .int (nI mny)), (4, .int (nI pb)), (5, .int (nI of9)), (6, .int (nI (142 * p9)))]) hx hb dX9_part_263 hl (k := 2) rfl (show nI k + Int32.ofInt 1 = nI (k + 1) from nI_add _ 1) (by decide) rfl (fun ls hl => ?_)
                                  refine lv_goto (tgt := 152) hx hb dX9_part_266 (by decide) ?_
                                  exact ih152  (k + 1) (pl + 1) (orB b1 p9 pl (plainN (tx k)) 7) h_234 _ _ ls (by omega) (by omega) (by omega) (by rw [sumS_k hk, hsf, epl]; omega) (stepP hpl inv) (fun x hx9 => by rw [orB_out (by omega) (by omega) hx9]; exact out x hx9) (by rw [p_235, eh2]; simp only [ah_up2]) f_237 f_238 f_239 f_240 f_241 f_242 hR hS (lv_sub hl [0, 1, 3, 4, 5, 6, 7, 8, 9] rfl)
                                · skip
                                  have c_233 : ¬ ((plainN (tx k)) ≤ 127) := fun z9 => c_233 ((nI_leI (by omega) (by omega)).mpr z9)
                                  exact absurd c_233 (by omega)
                            · skip
                              have c_208 : ¬ (pb = 0) := fun z9 => c_208 ((zi_eq (by omega)).mpr z9)
                              exact absurd c_208 (by omega)
                      exact L152 ((a + mny - a) + 1) a 7 b0 h_179 _ _ ls (by omega) (by omega) (by omega) epl0 (fun j => by rw [show a + mny - a = mny by omega, show 7 * od = 7 by rw [hod]]) (fun _ _ => rfl) ehb f_181 f_182 f_183 f_184 f_185 f_189 hR hS (lv_sub hl [0, 1, 2, 3, 4, 5, 6, 7, 8] rfl)
                    · skip
                      have c_188 : ¬ (pb = 0) := fun z9 => c_188 ((zi_eq (by omega)).mpr z9)
                      exact absurd c_188 (by omega)
                  · skip
                    have c_187 : of9 = 0 := (zi_eq (by omega)).mp c_187
                    exact absurd c_187 (by omega)
              · skip
                have c_137 : ¬ (pb = 0) := fun z9 => c_137 ((zi_eq (by omega)).mpr z9)
                exact absurd c_137 (by omega)
          · skip
            have c_135 : ¬ (142 ≤ k) := fun z9 => c_135 ((nI_leI (by omega) (by omega)).mpr z9)
            refine lv_aload_n hx hb dX9_part_18 rfl (lv_at hl 1 rfl) ?_
            refine ah_get (ci := 8) (v := .ref (A 8)) (C := RX9) (T := TX9) (N := 27) hx hb hE hR hts hinX9 hown fy1 rfl 8 (by decide) k23 (fun _ h9 => h9) rfl dX9_part_19 ?_
            refine lv_iload hx hb dX9_part_22 (lv_at hl 7 rfl) ?_
            refine lv_iload hx hb dX9_part_24 (lv_at hl 0 rfl) ?_
            refine lv_iadd hx hb dX9_part_26 ?_
            refine ah_toi (v := nI ((142 * p9) + k)) (nI_add _ _) ?_
            refine lv_iconst (v := nI 0) hx hb dX9_part_27 (by decide) ?_
            refine ah_iast (i := ((142 * p9) + k)) hx hb hE hR hS fa81 (by omega) (by omega) dX9_part_28 (fun H locs hR hS => ?_)
            rw [nA_upd] at hR
            obtain ⟨h_243, e_244⟩ : ∃ zz9, zz9 = ah_up h1 (A 8) (28, .inl (G.2.2.1 0, 36210, .inl (nA (gU (zR bb p9 k) ((142 * p9) + k) 0)))) := ⟨_, rfl⟩
            have hR : ah_R G h_243 H := by rw [e_244]; exact hR
            have f_245 : h_243 y = some (20, .inr (8, mF A k0 n rf pm zh lc c pt gv un)) := by rw [e_244]; exact ah_keep fy1 fa81 (by omega)
            have f_246 : h_243 (A 1) = some (21, .inl (G.2.2.1 0, 128, .inl plT)) := by rw [e_244]; exact ah_keep fa11 fa81 (by omega)
            have f_247 : h_243 (A 2) = some (22, .inl (G.2.2.1 0, 128, .inl esT)) := by rw [e_244]; exact ah_keep fa21 fa81 (by omega)
            have f_248 : h_243 (A 4) = some (24, .inl (G.2.2.1 0, 3000, .inl (nA tx))) := by rw [e_244]; exact ah_keep fa41 fa81 (by omega)
            have f_249 : h_243 (A 7) = some (27, .inl (G.2.2.1 0, 255, .inl (nA ln))) := by rw [e_244]; exact ah_keep fa71 fa81 (by omega)
            have f_250 : h_243 (A 8) = some (28, .inl (G.2.2.1 0, 36210, .inl (nA (gU (zR bb p9 k) ((142 * p9) + k) 0)))) := by rw [e_244]; exact ah_up_s _ _ _
            have f_251 : h_243 (A 8) = some (28, .inl (G.2.2.1 0, 36210, .inl (nA (zR bb p9 (k + 1))))) := by rw [← zR_s]; exact f_250
            refine lv_iinc (v := nI (k + 1)) (lv' := [(7, .int (nI (k + 1))), (0, .ref y), (1, .int (nI p9)), (2, .int (nI a)), (3, .int (nI mny)), (4, .int (nI pb)), (5, .int (nI of9)), (6, .int (nI (142 * p9)))]) hx hb dX9_part_29 hl (k := 0) rfl (show nI k + Int32.ofInt 1 = nI (k + 1) from nI_add _ 1) (by decide) rfl (fun ls hl => ?_)
            refine lv_goto (tgt := 10) hx hb dX9_part_32 (by decide) ?_
            exact ih10  (k + 1) h_243 _ _ ls (by omega) (by omega) (by rw [e_244, eh1, ah_up2, zR_s]) f_245 f_246 f_247 f_248 f_249 f_251 hR hS (lv_sub hl [0, 1, 2, 3, 4, 5, 6, 7] rfl)
      exact L10 ((142 - 0) + 1) 0 h _ _ ls (by omega) (by omega) (by rw [zR_0, ah_up_id fa8]) fy fa1 fa2 fa4 fa7 fa80 hR hS (lv_sub hl [0, 2, 3, 4, 5, 6, 7, 1] rfl)
    · skip
      have htt := htot2 hq
      refine lv_sipush (v := nI 142) hx hb dX9_part_0 (by decide) ?_
      refine lv_iload_n hx hb dX9_part_3 rfl (lv_at hl 1 rfl) ?_
      refine lv_imul hx hb dX9_part_4 ?_
      refine ah_toi (v := nI (142 * p9)) (pk_mul _ _) ?_
      refine lv_istore (lv' := [(6, .int (nI (142 * p9))), (0, .ref y), (1, .int (nI p9)), (2, .int (nI a)), (3, .int (nI mny)), (4, .int (nI pb)), (5, .int (nI of9))]) hx hb dX9_part_5 hl (by decide) rfl (fun ls hl => ?_)
      refine lv_iconst (v := nI 0) hx hb dX9_part_7 (by decide) ?_
      refine lv_istore (lv' := [(7, .int (nI 0)), (6, .int (nI (142 * p9))), (0, .ref y), (1, .int (nI p9)), (2, .int (nI a)), (3, .int (nI mny)), (4, .int (nI pb)), (5, .int (nI of9))]) hx hb dX9_part_8 hl (by decide) rfl (fun ls hl => ?_)
      have fa80 : h (A 8) = some (28, .inl (G.2.2.1 0, 36210, .inl (nA (zR bb p9 0)))) := by rw [zR_0]; exact fa8
      have L10 : ∀ (N10 : Nat) (k : Nat) (h1 : ah_H) (H : Heap) (locs : List Loc) (ls : Array Slot), 142 - k < N10 → (k ≤ 142) → (h1 = ah_up h (A 8) (28, .inl (G.2.2.1 0, 36210, .inl (nA (zR bb p9 k))))) → (h1 y = some (20, .inr (8, mF A k0 n rf pm zh lc c pt gv un))) → (h1 (A 1) = some (21, .inl (G.2.2.1 0, 128, .inl plT))) → (h1 (A 2) = some (22, .inl (G.2.2.1 0, 128, .inl esT))) → (h1 (A 4) = some (24, .inl (G.2.2.1 0, 3000, .inl (nA tx)))) → (h1 (A 7) = some (27, .inl (G.2.2.1 0, 255, .inl (nA ln)))) → (h1 (A 8) = some (28, .inl (G.2.2.1 0, 36210, .inl (nA (zR bb p9 k))))) → ah_R G h1 H → va_S (ah_A G) s.heap H locs → lv_has ls 10 [(7, .int (nI k)), (0, .ref y), (1, .int (nI p9)), (2, .int (nI a)), (3, .int (nI mny)), (4, .int (nI pb)), (5, .int (nI of9)), (6, .int (nI (142 * p9)))] → W p l e ({ frames := 1, cells := 0, slots := 0, locals := 25 }) s m ([.ref y, .int (nI p9), .int (nI a), .int (nI mny), .int (nI pb), .int (nI of9)] : List Value).toArray below meth cd9 H locs 0 0 (MQ below (ah_Qv G (fun h' => ∃ (b2 : Nat → Nat) (zz : Nat), h' = ah_up (ah_up h (A 8) (28, .inl (G.2.2.1 0, 36210, .inl (nA b2)))) (A 7) (27, .inl (G.2.2.1 0, 255, .inl (nA (gU ln p9 zz)))) ∧ (∀ x, (x < 142 * p9 ∨ 142 * p9 + 142 ≤ x) → b2 x = bb x) ∧ (pb = 0 → zz = sevZ tx od a (a + mny) ∧ ∀ j, j < zz → b2 (142 * p9 + j) = (if od = 1 then hdrG (sevG tx od a (a + mny)) (sevZ tx od a (a + mny)) rf of9 (p9 + 1) else sevG tx od a (a + mny)) j) ∧ (pb ≠ 0 → zz = pairZ od a (a + mny) ∧ ∀ j, j < zz → b2 (142 * p9 + j) = (if od = 1 then hdrG (pairG tx od a (a + mny)) (pairZ od a (a + mny)) rf of9 (p9 + 1) else pairG tx od a (a + mny)) j))) ([.ref y, .int (nI p9), .int (nI a), .int (nI mny), .int (nI pb), .int (nI of9)] : List Value).toArray s 0 0 (ah_A G)) (F0 m 10 ls []) := by
        intro N10
        induction N10 with
        | zero => intro k h1 H locs ls hN; exact absurd hN (Nat.not_lt_zero _)
        | succ N10 ih10 =>
          intro k h1 H locs ls hN10 hk eh1 fy1 fa11 fa21 fa41 fa71 fa81 hR hS hl
          refine lv_iload hx hb dX9_part_10 (lv_at hl 0 rfl) ?_
          refine lv_sipush (v := nI 142) hx hb dX9_part_12 (by decide) ?_
          refine lv_icmp_ge (tgt := 35) hx hb dX9_part_15 (by decide) (fun c_252 => ?_) (fun c_252 => ?_)
          · skip
            have c_252 : 142 ≤ k := (nI_leI (by omega) (by omega)).mp c_252
            have ek : k = 142 := by omega
            subst ek
            refine lv_aload_n hx hb dX9_part_35 rfl (lv_at hl 1 rfl) ?_
            refine ah_get (ci := 8) (v := .ref (A 8)) (C := RX9) (T := TX9) (N := 27) hx hb hE hR hts hinX9 hown fy1 rfl 8 (by decide) k23 (fun _ h9 => h9) rfl dX9_part_36 ?_
            refine lv_iload hx hb dX9_part_39 (lv_at hl 7 rfl) ?_
            refine lv_iload hx hb dX9_part_41 (lv_at hl 6 rfl) ?_
            refine lv_if_le (tgt := 50) hx hb dX9_part_43 (by decide) (fun c_253 => ?_) (fun c_253 => ?_)
            · skip
              have c_253 : of9 ≤ 0 := (zi_le (by omega)).mp c_253
              exact absurd c_253 (by omega)
            · skip
              have c_253 : ¬ (of9 ≤ 0) := fun z9 => c_253 ((zi_le (by omega)).mpr z9)
              refine lv_iconst (v := nI 1) hx hb dX9_part_46 (by decide) ?_
              refine lv_goto (tgt := 51) hx hb dX9_part_47 (by decide) ?_
              refine lv_iload hx hb dX9_part_51 (lv_at hl 5 rfl) ?_
              refine lv_if_eq (tgt := 60) hx hb dX9_part_53 (by decide) (fun c_254 => ?_) (fun c_254 => ?_)
              · skip
                have c_254 : pb = 0 := (zi_eq (by omega)).mp c_254
                exact absurd c_254 (by omega)
              · skip
                have c_254 : ¬ (pb = 0) := fun z9 => c_254 ((zi_eq (by omega)).mpr z9)
                refine lv_iconst (v := nI 4) hx hb dX9_part_56 (by decide) ?_
                refine lv_goto (tgt := 61) hx hb dX9_part_57 (by decide) ?_
                refine lv_iadd hx hb dX9_part_61 ?_
                refine ah_toi (v := nI (5)) (by decide +kernel) ?_
                refine ah_iast (i := (142 * p9)) hx hb hE hR hS fa81 (by omega) (by omega) dX9_part_62 (fun H locs hR hS => ?_)
                rw [nA_upd] at hR
                obtain ⟨h_255, e_256⟩ : ∃ zz9, zz9 = ah_up h1 (A 8) (28, .inl (G.2.2.1 0, 36210, .inl (nA (gU (zR bb p9 142) (142 * p9) 5)))) := ⟨_, rfl⟩
                have hR : ah_R G h_255 H := by rw [e_256]; exact hR
                have f_257 : h_255 y = some (20, .inr (8, mF A k0 n rf pm zh lc c pt gv un)) := by rw [e_256]; exact ah_keep fy1 fa81 (by omega)
                have f_258 : h_255 (A 1) = some (21, .inl (G.2.2.1 0, 128, .inl plT)) := by rw [e_256]; exact ah_keep fa11 fa81 (by omega)
                have f_259 : h_255 (A 2) = some (22, .inl (G.2.2.1 0, 128, .inl esT)) := by rw [e_256]; exact ah_keep fa21 fa81 (by omega)
                have f_260 : h_255 (A 4) = some (24, .inl (G.2.2.1 0, 3000, .inl (nA tx))) := by rw [e_256]; exact ah_keep fa41 fa81 (by omega)
                have f_261 : h_255 (A 7) = some (27, .inl (G.2.2.1 0, 255, .inl (nA ln))) := by rw [e_256]; exact ah_keep fa71 fa81 (by omega)
                have f_262 : h_255 (A 8) = some (28, .inl (G.2.2.1 0, 36210, .inl (nA (gU (zR bb p9 142) (142 * p9) 5)))) := by rw [e_256]; exact ah_up_s _ _ _
                refine lv_iload hx hb dX9_part_63 (lv_at hl 6 rfl) ?_
                refine lv_if_le (tgt := 126) hx hb dX9_part_65 (by decide) (fun c_263 => ?_) (fun c_263 => ?_)
                · skip
                  have c_263 : of9 ≤ 0 := (zi_le (by omega)).mp c_263
                  exact absurd c_263 (by omega)
                · skip
                  have c_263 : ¬ (of9 ≤ 0) := fun z9 => c_263 ((zi_le (by omega)).mpr z9)
                  refine lv_aload_n hx hb dX9_part_68 rfl (lv_at hl 1 rfl) ?_
                  refine ah_get (ci := 8) (v := .ref (A 8)) (C := RX9) (T := TX9) (N := 27) hx hb hE hR hts hinX9 hown f_257 rfl 8 (by decide) k23 (fun _ h9 => h9) rfl dX9_part_69 ?_
                  refine lv_iload hx hb dX9_part_72 (lv_at hl 7 rfl) ?_
                  refine lv_iconst (v := nI 2) hx hb dX9_part_74 (by decide) ?_
                  refine lv_iadd hx hb dX9_part_75 ?_
                  refine ah_toi (v := nI ((142 * p9) + 2)) (nI_add _ _) ?_
                  refine lv_iconst (v := nI 5) hx hb dX9_part_76 (by decide) ?_
                  refine ah_iast (i := ((142 * p9) + 2)) hx hb hE hR hS f_262 (by omega) (by omega) dX9_part_77 (fun H locs hR hS => ?_)
                  rw [nA_upd] at hR
                  obtain ⟨h_264, e_265⟩ : ∃ zz9, zz9 = ah_up h_255 (A 8) (28, .inl (G.2.2.1 0, 36210, .inl (nA (gU (gU (zR bb p9 142) (142 * p9) 5) ((142 * p9) + 2) 5)))) := ⟨_, rfl⟩
                  have hR : ah_R G h_264 H := by rw [e_265]; exact hR
                  have f_266 : h_264 y = some (20, .inr (8, mF A k0 n rf pm zh lc c pt gv un)) := by rw [e_265]; exact ah_keep f_257 f_262 (by omega)
                  have f_267 : h_264 (A 1) = some (21, .inl (G.2.2.1 0, 128, .inl plT)) := by rw [e_265]; exact ah_keep f_258 f_262 (by omega)
                  have f_268 : h_264 (A 2) = some (22, .inl (G.2.2.1 0, 128, .inl esT)) := by rw [e_265]; exact ah_keep f_259 f_262 (by omega)
                  have f_269 : h_264 (A 4) = some (24, .inl (G.2.2.1 0, 3000, .inl (nA tx))) := by rw [e_265]; exact ah_keep f_260 f_262 (by omega)
                  have f_270 : h_264 (A 7) = some (27, .inl (G.2.2.1 0, 255, .inl (nA ln))) := by rw [e_265]; exact ah_keep f_261 f_262 (by omega)
                  have f_271 : h_264 (A 8) = some (28, .inl (G.2.2.1 0, 36210, .inl (nA (gU (gU (zR bb p9 142) (142 * p9) 5) ((142 * p9) + 2) 5)))) := by rw [e_265]; exact ah_up_s _ _ _
                  refine lv_aload_n hx hb dX9_part_78 rfl (lv_at hl 1 rfl) ?_
                  refine ah_get (ci := 8) (v := .ref (A 8)) (C := RX9) (T := TX9) (N := 27) hx hb hE hR hts hinX9 hown f_266 rfl 8 (by decide) k23 (fun _ h9 => h9) rfl dX9_part_79 ?_
                  refine lv_iload hx hb dX9_part_82 (lv_at hl 7 rfl) ?_
                  refine lv_iconst (v := nI 4) hx hb dX9_part_84 (by decide) ?_
                  refine lv_iadd hx hb dX9_part_85 ?_
                  refine ah_toi (v := nI ((142 * p9) + 4)) (nI_add _ _) ?_
                  refine lv_iconst (v := nI 3) hx hb dX9_part_86 (by decide) ?_
                  refine ah_iast (i := ((142 * p9) + 4)) hx hb hE hR hS f_271 (by omega) (by omega) dX9_part_87 (fun H locs hR hS => ?_)
                  rw [nA_upd] at hR
                  obtain ⟨h_272, e_273⟩ : ∃ zz9, zz9 = ah_up h_264 (A 8) (28, .inl (G.2.2.1 0, 36210, .inl (nA (gU (gU (gU (zR bb p9 142) (142 * p9) 5) ((142 * p9) + 2) 5) ((142 * p9) + 4) 3)))) := ⟨_, rfl⟩
                  have hR : ah_R G h_272 H := by rw [e_273]; exact hR
                  have f_274 : h_272 y = some (20, .inr (8, mF A k0 n rf pm zh lc c pt gv un)) := by rw [e_273]; exact ah_keep f_266 f_271 (by omega)
                  have f_275 : h_272 (A 1) = some (21, .inl (G.2.2.1 0, 128, .inl plT)) := by rw [e_273]; exact ah_keep f_267 f_271 (by omega)
                  have f_276 : h_272 (A 2) = some (22, .inl (G.2.2.1 0, 128, .inl esT)) := by rw [e_273]; exact ah_keep f_268 f_271 (by omega)
                  have f_277 : h_272 (A 4) = some (24, .inl (G.2.2.1 0, 3000, .inl (nA tx))) := by rw [e_273]; exact ah_keep f_269 f_271 (by omega)
                  have f_278 : h_272 (A 7) = some (27, .inl (G.2.2.1 0, 255, .inl (nA ln))) := by rw [e_273]; exact ah_keep f_270 f_271 (by omega)
                  have f_279 : h_272 (A 8) = some (28, .inl (G.2.2.1 0, 36210, .inl (nA (gU (gU (gU (zR bb p9 142) (142 * p9) 5) ((142 * p9) + 2) 5) ((142 * p9) + 4) 3)))) := by rw [e_273]; exact ah_up_s _ _ _
                  refine lv_aload_n hx hb dX9_part_88 rfl (lv_at hl 1 rfl) ?_
                  refine ah_get (ci := 8) (v := .ref (A 8)) (C := RX9) (T := TX9) (N := 27) hx hb hE hR hts hinX9 hown f_274 rfl 8 (by decide) k23 (fun _ h9 => h9) rfl dX9_part_89 ?_
                  refine lv_iload hx hb dX9_part_92 (lv_at hl 7 rfl) ?_
                  refine lv_iconst (v := nI 5) hx hb dX9_part_94 (by decide) ?_
                  refine lv_iadd hx hb dX9_part_95 ?_
                  refine ah_toi (v := nI ((142 * p9) + 5)) (nI_add _ _) ?_
                  refine lv_aload_n hx hb dX9_part_96 rfl (lv_at hl 1 rfl) ?_
                  refine ah_get (ci := 8) (v := .int (nI rf)) (C := RX9) (T := TX9) (N := 27) hx hb hE hR hts hinX9 hown f_274 rfl 5 (by decide) k101 (fun _ h9 => h9) rfl dX9_part_97 ?_
                  refine ah_iast (i := ((142 * p9) + 5)) hx hb hE hR hS f_279 (by omega) (by omega) dX9_part_100 (fun H locs hR hS => ?_)
                  rw [nA_upd] at hR
                  obtain ⟨h_280, e_281⟩ : ∃ zz9, zz9 = ah_up h_272 (A 8) (28, .inl (G.2.2.1 0, 36210, .inl (nA (gU (gU (gU (gU (zR bb p9 142) (142 * p9) 5) ((142 * p9) + 2) 5) ((142 * p9) + 4) 3) ((142 * p9) + 5) rf)))) := ⟨_, rfl⟩
                  have hR : ah_R G h_280 H := by rw [e_281]; exact hR
                  have f_282 : h_280 y = some (20, .inr (8, mF A k0 n rf pm zh lc c pt gv un)) := by rw [e_281]; exact ah_keep f_274 f_279 (by omega)
                  have f_283 : h_280 (A 1) = some (21, .inl (G.2.2.1 0, 128, .inl plT)) := by rw [e_281]; exact ah_keep f_275 f_279 (by omega)
                  have f_284 : h_280 (A 2) = some (22, .inl (G.2.2.1 0, 128, .inl esT)) := by rw [e_281]; exact ah_keep f_276 f_279 (by omega)
                  have f_285 : h_280 (A 4) = some (24, .inl (G.2.2.1 0, 3000, .inl (nA tx))) := by rw [e_281]; exact ah_keep f_277 f_279 (by omega)
                  have f_286 : h_280 (A 7) = some (27, .inl (G.2.2.1 0, 255, .inl (nA ln))) := by rw [e_281]; exact ah_keep f_278 f_279 (by omega)
                  have f_287 : h_280 (A 8) = some (28, .inl (G.2.2.1 0, 36210, .inl (nA (gU (gU (gU (gU (zR bb p9 142) (142 * p9) 5) ((142 * p9) + 2) 5) ((142 * p9) + 4) 3) ((142 * p9) + 5) rf)))) := by rw [e_281]; exact ah_up_s _ _ _
                  refine lv_aload_n hx hb dX9_part_101 rfl (lv_at hl 1 rfl) ?_
                  refine ah_get (ci := 8) (v := .ref (A 8)) (C := RX9) (T := TX9) (N := 27) hx hb hE hR hts hinX9 hown f_282 rfl 8 (by decide) k23 (fun _ h9 => h9) rfl dX9_part_102 ?_
                  refine lv_iload hx hb dX9_part_105 (lv_at hl 7 rfl) ?_
                  refine lv_bipush (v := nI 6) hx hb dX9_part_107 (by decide) ?_
                  refine lv_iadd hx hb dX9_part_109 ?_
                  refine ah_toi (v := nI ((142 * p9) + 6)) (nI_add _ _) ?_
                  refine lv_iload hx hb dX9_part_110 (lv_at hl 6 rfl) ?_
                  refine ah_iast (i := ((142 * p9) + 6)) hx hb hE hR hS f_287 (by omega) (by omega) dX9_part_112 (fun H locs hR hS => ?_)
                  rw [nA_upd] at hR
                  obtain ⟨h_288, e_289⟩ : ∃ zz9, zz9 = ah_up h_280 (A 8) (28, .inl (G.2.2.1 0, 36210, .inl (nA (gU (gU (gU (gU (gU (zR bb p9 142) (142 * p9) 5) ((142 * p9) + 2) 5) ((142 * p9) + 4) 3) ((142 * p9) + 5) rf) ((142 * p9) + 6) of9)))) := ⟨_, rfl⟩
                  have hR : ah_R G h_288 H := by rw [e_289]; exact hR
                  have f_290 : h_288 y = some (20, .inr (8, mF A k0 n rf pm zh lc c pt gv un)) := by rw [e_289]; exact ah_keep f_282 f_287 (by omega)
                  have f_291 : h_288 (A 1) = some (21, .inl (G.2.2.1 0, 128, .inl plT)) := by rw [e_289]; exact ah_keep f_283 f_287 (by omega)
                  have f_292 : h_288 (A 2) = some (22, .inl (G.2.2.1 0, 128, .inl esT)) := by rw [e_289]; exact ah_keep f_284 f_287 (by omega)
                  have f_293 : h_288 (A 4) = some (24, .inl (G.2.2.1 0, 3000, .inl (nA tx))) := by rw [e_289]; exact ah_keep f_285 f_287 (by omega)
                  have f_294 : h_288 (A 7) = some (27, .inl (G.2.2.1 0, 255, .inl (nA ln))) := by rw [e_289]; exact ah_keep f_286 f_287 (by omega)
                  have f_295 : h_288 (A 8) = some (28, .inl (G.2.2.1 0, 36210, .inl (nA (gU (gU (gU (gU (gU (zR bb p9 142) (142 * p9) 5) ((142 * p9) + 2) 5) ((142 * p9) + 4) 3) ((142 * p9) + 5) rf) ((142 * p9) + 6) of9)))) := by rw [e_289]; exact ah_up_s _ _ _
                  refine lv_aload_n hx hb dX9_part_113 rfl (lv_at hl 1 rfl) ?_
                  refine ah_get (ci := 8) (v := .ref (A 8)) (C := RX9) (T := TX9) (N := 27) hx hb hE hR hts hinX9 hown f_290 rfl 8 (by decide) k23 (fun _ h9 => h9) rfl dX9_part_114 ?_
                  refine lv_iload hx hb dX9_part_117 (lv_at hl 7 rfl) ?_
                  refine lv_bipush (v := nI 7) hx hb dX9_part_119 (by decide) ?_
                  refine lv_iadd hx hb dX9_part_121 ?_
                  refine ah_toi (v := nI ((142 * p9) + 7)) (nI_add _ _) ?_
                  refine lv_iload_n hx hb dX9_part_122 rfl (lv_at hl 2 rfl) ?_
                  refine lv_iconst (v := nI 1) hx hb dX9_part_123 (by decide) ?_
                  refine lv_iadd hx hb dX9_part_124 ?_
                  refine ah_toi (v := nI (p9 + 1)) (nI_add _ _) ?_
                  refine ah_iast (i := ((142 * p9) + 7)) hx hb hE hR hS f_295 (by omega) (by omega) dX9_part_125 (fun H locs hR hS => ?_)
                  rw [nA_upd] at hR
                  obtain ⟨h_296, e_297⟩ : ∃ zz9, zz9 = ah_up h_288 (A 8) (28, .inl (G.2.2.1 0, 36210, .inl (nA (gU (gU (gU (gU (gU (gU (zR bb p9 142) (142 * p9) 5) ((142 * p9) + 2) 5) ((142 * p9) + 4) 3) ((142 * p9) + 5) rf) ((142 * p9) + 6) of9) ((142 * p9) + 7) (p9 + 1))))) := ⟨_, rfl⟩
                  have hR : ah_R G h_296 H := by rw [e_297]; exact hR
                  have f_298 : h_296 y = some (20, .inr (8, mF A k0 n rf pm zh lc c pt gv un)) := by rw [e_297]; exact ah_keep f_290 f_295 (by omega)
                  have f_299 : h_296 (A 1) = some (21, .inl (G.2.2.1 0, 128, .inl plT)) := by rw [e_297]; exact ah_keep f_291 f_295 (by omega)
                  have f_300 : h_296 (A 2) = some (22, .inl (G.2.2.1 0, 128, .inl esT)) := by rw [e_297]; exact ah_keep f_292 f_295 (by omega)
                  have f_301 : h_296 (A 4) = some (24, .inl (G.2.2.1 0, 3000, .inl (nA tx))) := by rw [e_297]; exact ah_keep f_293 f_295 (by omega)
                  have f_302 : h_296 (A 7) = some (27, .inl (G.2.2.1 0, 255, .inl (nA ln))) := by rw [e_297]; exact ah_keep f_294 f_295 (by omega)
                  have f_303 : h_296 (A 8) = some (28, .inl (G.2.2.1 0, 36210, .inl (nA (gU (gU (gU (gU (gU (gU (zR bb p9 142) (142 * p9) 5) ((142 * p9) + 2) 5) ((142 * p9) + 4) 3) ((142 * p9) + 5) rf) ((142 * p9) + 6) of9) ((142 * p9) + 7) (p9 + 1))))) := by rw [e_297]; exact ah_up_s _ _ _
                  refine lv_iload hx hb dX9_part_126 (lv_at hl 6 rfl) ?_
                  refine lv_if_ne (tgt := 135) hx hb dX9_part_128 (by decide) (fun c_304 => ?_) (fun c_304 => ?_)
                  · skip
                    have c_304 : ¬ (of9 = 0) := fun z9 => c_304 ((zi_eq (by omega)).mpr z9)
                    refine lv_iload hx hb dX9_part_135 (lv_at hl 5 rfl) ?_
                    refine lv_if_eq (tgt := 145) hx hb dX9_part_137 (by decide) (fun c_305 => ?_) (fun c_305 => ?_)
                    · skip
                      have c_305 : pb = 0 := (zi_eq (by omega)).mp c_305
                      exact absurd c_305 (by omega)
                    · skip
                      have c_305 : ¬ (pb = 0) := fun z9 => c_305 ((zi_eq (by omega)).mpr z9)
                      refine lv_bipush (v := nI 6) hx hb dX9_part_140 (by decide) ?_
                      refine lv_goto (tgt := 147) hx hb dX9_part_142 (by decide) ?_
                      refine lv_istore (lv' := [(7, .int (nI 6)), (0, .ref y), (1, .int (nI p9)), (2, .int (nI a)), (3, .int (nI mny)), (4, .int (nI pb)), (5, .int (nI of9)), (6, .int (nI (142 * p9)))]) hx hb dX9_part_147 hl (by decide) rfl (fun ls hl => ?_)
                      obtain ⟨b0, eb0⟩ : ∃ b9 : Nat → Nat, b9 = (gU (gU (gU (gU (gU (gU (zR bb p9 142) (142 * p9) 5) ((142 * p9) + 2) 5) ((142 * p9) + 4) 3) ((142 * p9) + 5) rf) ((142 * p9) + 6) of9) ((142 * p9) + 7) (p9 + 1)) := ⟨_, rfl⟩
                      have f_306 : h_296 (A 8) = some (28, .inl (G.2.2.1 0, 36210, .inl (nA b0))) := by rw [eb0]; exact f_303
                      have ehb : h_296 = ah_up h (A 8) (28, .inl (G.2.2.1 0, 36210, .inl (nA b0))) := by rw [eb0, e_297, e_289, e_281, e_273, e_265, e_256, eh1]; simp only [ah_up2]
                      have hb0 : (∀ j, j < 142 → b0 (142 * p9 + j) = hB od (4 + od) rf of9 (p9 + 1) j) ∧ ∀ x, (x < 142 * p9 ∨ 142 * p9 + 142 ≤ x) → b0 x = bb x := by rw [eb0, hod]; exact hB1
                      refine lv_iload_n hx hb dX9_part_149 rfl (lv_at hl 3 rfl) ?_
                      refine lv_istore (lv' := [(8, .int (nI a)), (7, .int (nI 6)), (0, .ref y), (1, .int (nI p9)), (2, .int (nI a)), (3, .int (nI mny)), (4, .int (nI pb)), (5, .int (nI of9)), (6, .int (nI (142 * p9)))]) hx hb dX9_part_150 hl (by decide) rfl (fun ls hl => ?_)
                      have epl0 : 6 = 6 * od + 2 * (a - a) := by rw [hod, Nat.sub_self]
                      have L152 : ∀ (N152 : Nat) (k : Nat) (pl : Nat) (b1 : Nat → Nat) (h2 : ah_H) (H : Heap) (locs : List Loc) (ls : Array Slot), a + mny - k < N152 → (a ≤ k) → (k ≤ a + mny) → (pl = 6 * od + 2 * (k - a)) → (∀ j, j < 142 → b1 (142 * p9 + j) = if 2 + 6 * od ≤ j ∧ j < 2 + pl then prB tx a (j - (2 + 6 * od)) else b0 (142 * p9 + j)) → (∀ x, (x < 142 * p9 ∨ 142 * p9 + 142 ≤ x) → b1 x = b0 x) → (h2 = ah_up h (A 8) (28, .inl (G.2.2.1 0, 36210, .inl (nA b1)))) → (h2 y = some (20, .inr (8, mF A k0 n rf pm zh lc c pt gv un))) → (h2 (A 1) = some (21, .inl (G.2.2.1 0, 128, .inl plT))) → (h2 (A 2) = some (22, .inl (G.2.2.1 0, 128, .inl esT))) → (h2 (A 4) = some (24, .inl (G.2.2.1 0, 3000, .inl (nA tx)))) → (h2 (A 7) = some (27, .inl (G.2.2.1 0, 255, .inl (nA ln)))) → (h2 (A 8) = some (28, .inl (G.2.2.1 0, 36210, .inl (nA b1)))) → ah_R G h2 H → va_S (ah_A G) s.heap H locs → lv_has ls 10 [(8, .int (nI k)), (7, .int (nI pl)), (0, .ref y), (1, .int (nI p9)), (2, .int (nI a)), (3, .int (nI mny)), (4, .int (nI pb)), (5, .int (nI of9)), (6, .int (nI (142 * p9)))] → W p l e ({ frames := 1, cells := 0, slots := 0, locals := 25 }) s m ([.ref y, .int (nI p9), .int (nI a), .int (nI mny), .int (nI pb), .int (nI of9)] : List Value).toArray below meth cd9 H locs 0 0 (MQ below (ah_Qv G (fun h' => ∃ (b2 : Nat → Nat) (zz : Nat), h' = ah_up (ah_up h (A 8) (28, .inl (G.2.2.1 0, 36210, .inl (nA b2)))) (A 7) (27, .inl (G.2.2.1 0, 255, .inl (nA (gU ln p9 zz)))) ∧ (∀ x, (x < 142 * p9 ∨ 142 * p9 + 142 ≤ x) → b2 x = bb x) ∧ (pb = 0 → zz = sevZ tx od a (a + mny) ∧ ∀ j, j < zz → b2 (142 * p9 + j) = (if od = 1 then hdrG (sevG tx od a (a + mny)) (sevZ tx od a (a + mny)) rf of9 (p9 + 1) else sevG tx od a (a + mny)) j) ∧ (pb ≠ 0 → zz = pairZ od a (a + mny) ∧ ∀ j, j < zz → b2 (142 * p9 + j) = (if od = 1 then hdrG (pairG tx od a (a + mny)) (pairZ od a (a + mny)) rf of9 (p9 + 1) else pairG tx od a (a + mny)) j))) ([.ref y, .int (nI p9), .int (nI a), .int (nI mny), .int (nI pb), .int (nI of9)] : List Value).toArray s 0 0 (ah_A G)) (F0 m 152 ls []) := by
                        intro N152
                        induction N152 with
                        | zero => intro k pl b1 h2 H locs ls hN; exact absurd hN (Nat.not_lt_zero _)
                        | succ N152 ih152 =>
                          intro k pl b1 h2 H locs ls hN152 hk hkn epl inv out eh2 fy2 fa12 fa22 fa42 fa72 fa82 hR hS hl
                          refine lv_iload hx hb dX9_part_152 (lv_at hl 0 rfl) ?_
                          refine lv_iload_n hx hb dX9_part_154 rfl (lv_at hl 4 rfl) ?_
                          refine lv_iload_n hx hb dX9_part_155 rfl (lv_at hl 5 rfl) ?_
                          refine lv_iadd hx hb dX9_part_156 ?_
                          refine ah_toi (v := nI (a + mny)) (nI_add _ _) ?_
                          refine lv_icmp_ge (tgt := 269) hx hb dX9_part_157 (by decide) (fun c_307 => ?_) (fun c_307 => ?_)
                          · skip
                            have c_307 : (a + mny) ≤ k := (nI_leI (by omega) (by omega)).mp c_307
                            have ekk : k = a + mny := by omega
                            subst ekk
                            have eplF : pl = 6 * od + 2 * mny := by omega
                            refine lv_aload_n hx hb dX9_part_269 rfl (lv_at hl 2 rfl) ?_
                            refine ah_get (ci := 8) (v := .ref (A 8)) (C := RX9) (T := TX9) (N := 27) hx hb hE hR hts hinX9 hown fy2 rfl 8 (by decide) k23 (fun _ h9 => h9) rfl dX9_part_270 ?_
                            refine lv_iload hx hb dX9_part_273 (lv_at hl 8 rfl) ?_
                            refine lv_iconst (v := nI 1) hx hb dX9_part_275 (by decide) ?_
                            refine lv_iadd hx hb dX9_part_276 ?_
                            refine ah_toi (v := nI ((142 * p9) + 1)) (nI_add _ _) ?_
                            refine lv_iload hx hb dX9_part_277 (lv_at hl 1 rfl) ?_
                            refine ah_iast (i := ((142 * p9) + 1)) hx hb hE hR hS fa82 (by omega) (by omega) dX9_part_279 (fun H locs hR hS => ?_)
                            rw [nA_upd] at hR
                            obtain ⟨h_308, e_309⟩ : ∃ zz9, zz9 = ah_up h2 (A 8) (28, .inl (G.2.2.1 0, 36210, .inl (nA (gU b1 ((142 * p9) + 1) pl)))) := ⟨_, rfl⟩
                            have hR : ah_R G h_308 H := by rw [e_309]; exact hR
                            have f_310 : h_308 y = some (20, .inr (8, mF A k0 n rf pm zh lc c pt gv un)) := by rw [e_309]; exact ah_keep fy2 fa82 (by omega)
                            have f_311 : h_308 (A 1) = some (21, .inl (G.2.2.1 0, 128, .inl plT)) := by rw [e_309]; exact ah_keep fa12 fa82 (by omega)
                            have f_312 : h_308 (A 2) = some (22, .inl (G.2.2.1 0, 128, .inl esT)) := by rw [e_309]; exact ah_keep fa22 fa82 (by omega)
                            have f_313 : h_308 (A 4) = some (24, .inl (G.2.2.1 0, 3000, .inl (nA tx))) := by rw [e_309]; exact ah_keep fa42 fa82 (by omega)
                            have f_314 : h_308 (A 7) = some (27, .inl (G.2.2.1 0, 255, .inl (nA ln))) := by rw [e_309]; exact ah_keep fa72 fa82 (by omega)
                            have f_315 : h_308 (A 8) = some (28, .inl (G.2.2.1 0, 36210, .inl (nA (gU b1 ((142 * p9) + 1) pl)))) := by rw [e_309]; exact ah_up_s _ _ _
                            refine lv_aload_n hx hb dX9_part_280 rfl (lv_at hl 2 rfl) ?_
                            refine ah_get (ci := 8) (v := .ref (A 7)) (C := RX9) (T := TX9) (N := 27) hx hb hE hR hts hinX9 hown f_310 rfl 7 (by decide) k19 (fun _ h9 => h9) rfl dX9_part_281 ?_
                            refine lv_iload_n hx hb dX9_part_284 rfl (lv_at hl 3 rfl) ?_
                            refine lv_iconst (v := nI 2) hx hb dX9_part_285 (by decide) ?_
                            refine lv_iload hx hb dX9_part_286 (lv_at hl 6 rfl) ?_
                            refine lv_if_eq (tgt := 296) hx hb dX9_part_288 (by decide) (fun c_316 => ?_) (fun c_316 => ?_)
                            · skip
                              have c_316 : pb = 0 := (zi_eq (by omega)).mp c_316
                              exact absurd c_316 (by omega)
                            · skip
                              have c_316 : ¬ (pb = 0) := fun z9 => c_316 ((zi_eq (by omega)).mpr z9)
                              refine lv_iload hx hb dX9_part_291 (lv_at hl 1 rfl) ?_
                              refine lv_goto (tgt := 307) hx hb dX9_part_293 (by decide) ?_
                              refine lv_iadd hx hb dX9_part_307 ?_
                              refine ah_toi (v := nI (2 + pl)) (nI_add _ _) ?_
                              refine ah_iast (i := p9) hx hb hE hR hS f_314 (by omega) (by omega) dX9_part_308 (fun H locs hR hS => ?_)
                              rw [nA_upd] at hR
                              obtain ⟨h_317, e_318⟩ : ∃ zz9, zz9 = ah_up h_308 (A 7) (27, .inl (G.2.2.1 0, 255, .inl (nA (gU ln p9 (2 + pl))))) := ⟨_, rfl⟩
                              have hR : ah_R G h_317 H := by rw [e_318]; exact hR
                              have f_319 : h_317 y = some (20, .inr (8, mF A k0 n rf pm zh lc c pt gv un)) := by rw [e_318]; exact ah_keep f_310 f_314 (by omega)
                              have f_320 : h_317 (A 1) = some (21, .inl (G.2.2.1 0, 128, .inl plT)) := by rw [e_318]; exact ah_keep f_311 f_314 (by omega)
                              have f_321 : h_317 (A 2) = some (22, .inl (G.2.2.1 0, 128, .inl esT)) := by rw [e_318]; exact ah_keep f_312 f_314 (by omega)
                              have f_322 : h_317 (A 4) = some (24, .inl (G.2.2.1 0, 3000, .inl (nA tx))) := by rw [e_318]; exact ah_keep f_313 f_314 (by omega)
                              have f_323 : h_317 (A 7) = some (27, .inl (G.2.2.1 0, 255, .inl (nA (gU ln p9 (2 + pl))))) := by rw [e_318]; exact ah_up_s _ _ _
                              have f_324 : h_317 (A 8) = some (28, .inl (G.2.2.1 0, 36210, .inl (nA (gU b1 ((142 * p9) + 1) pl)))) := by rw [e_318]; exact ah_keep f_315 f_314 (by omega)
                              refine ah_vret hx hb hr hlocks hR hS dX9_part_309 ?_
                              refine ⟨gU b1 (142 * p9 + 1) pl, (2 + pl), by rw [e_318, e_309, eh2, ah_up2], fun x hx9 => by rw [gU_n (by omega), out x hx9]; exact hb0.2 x hx9, ?_, ?_⟩
                              · intro z9; exact absurd z9 hq
                              · intro _
                                have ez : (2 + pl) = pairZ od a (a + mny) := by unfold pairZ; rw [show a + mny - a = mny by omega, eplF]
                                refine ⟨ez, fun j hj => ?_⟩
                                rw [ez] at hj
                                have hj1 : j < 2 + (6 * od + 2 * mny) := by unfold pairZ at hj; omega
                                have hj2 : j < 142 := by omega
                                rw [pairG_at (by omega) hj, show a + mny - a = mny by omega, finP (by omega) hj1, ← eplF]
                                by_cases j1 : j = 1
                                · subst j1; rw [gU_s, if_pos rfl]
                                · rw [gU_n (by omega), if_neg j1, inv j hj2, hb0.1 j hj2]
                          · skip
                            have c_307 : ¬ ((a + mny) ≤ k) := fun z9 => c_307 ((nI_leI (by omega) (by omega)).mpr z9)
                            have hfk := hf k
                            refine lv_iload hx hb dX9_part_160 (lv_at hl 6 rfl) ?_
                            refine lv_if_eq (tgt := 216) hx hb dX9_part_162 (by decide) (fun c_325 => ?_) (fun c_325 => ?_)
                            · skip
                              have c_325 : pb = 0 := (zi_eq (by omega)).mp c_325
                              exact absurd c_325 (by omega)
                            · skip
                              have c_325 : ¬ (pb = 0) := fun z9 => c_325 ((zi_eq (by omega)).mpr z9)
                              refine lv_aload_n hx hb dX9_part_165 rfl (lv_at hl 2 rfl) ?_
                              refine ah_get (ci := 8) (v := .ref (A 8)) (C := RX9) (T := TX9) (N := 27) hx hb hE hR hts hinX9 hown fy2 rfl 8 (by decide) k23 (fun _ h9 => h9) rfl dX9_part_166 ?_
                              refine lv_iload hx hb dX9_part_169 (lv_at hl 8 rfl) ?_
                              refine lv_iconst (v := nI 2) hx hb dX9_part_171 (by decide) ?_
                              refine lv_iadd hx hb dX9_part_172 ?_
                              refine ah_toi (v := nI ((142 * p9) + 2)) (nI_add _ _) ?_
                              refine lv_iload hx hb dX9_part_173 (lv_at hl 1 rfl) ?_
                              refine lv_iadd hx hb dX9_part_175 ?_
                              refine ah_toi (v := nI (((142 * p9) + 2) + pl)) (nI_add _ _) ?_
                              refine lv_aload_n hx hb dX9_part_176 rfl (lv_at hl 2 rfl) ?_
                              refine ah_get (ci := 8) (v := .ref (A 4)) (C := RX9) (T := TX9) (N := 27) hx hb hE hR hts hinX9 hown fy2 rfl 4 (by decide) k16 (fun _ h9 => h9) rfl dX9_part_177 ?_
                              refine lv_iload hx hb dX9_part_180 (lv_at hl 0 rfl) ?_
                              refine ah_iald (i := k) hx hb hE hR fa42 (by omega) (by omega) dX9_part_182 ?_
                              refine ah_toi (v := nI (tx k)) rfl ?_
                              refine lv_bipush (v := nI 8) hx hb dX9_part_183 (by decide) ?_
                              refine lv_ishr hx hb dX9_part_185 ?_
                              refine ah_toi (v := nI (tx k / 2 ^ 8)) (ny_shr (by decide) (by omega)) ?_
                              refine ah_iast (i := (((142 * p9) + 2) + pl)) hx hb hE hR hS fa82 (by omega) (by omega) dX9_part_186 (fun H locs hR hS => ?_)
                              rw [nA_upd] at hR
                              obtain ⟨h_326, e_327⟩ : ∃ zz9, zz9 = ah_up h2 (A 8) (28, .inl (G.2.2.1 0, 36210, .inl (nA (gU b1 (((142 * p9) + 2) + pl) (tx k / 2 ^ 8))))) := ⟨_, rfl⟩
                              have hR : ah_R G h_326 H := by rw [e_327]; exact hR
                              have f_328 : h_326 y = some (20, .inr (8, mF A k0 n rf pm zh lc c pt gv un)) := by rw [e_327]; exact ah_keep fy2 fa82 (by omega)
                              have f_329 : h_326 (A 1) = some (21, .inl (G.2.2.1 0, 128, .inl plT)) := by rw [e_327]; exact ah_keep fa12 fa82 (by omega)
                              have f_330 : h_326 (A 2) = some (22, .inl (G.2.2.1 0, 128, .inl esT)) := by rw [e_327]; exact ah_keep fa22 fa82 (by omega)
                              have f_331 : h_326 (A 4) = some (24, .inl (G.2.2.1 0, 3000, .inl (nA tx))) := by rw [e_327]; exact ah_keep fa42 fa82 (by omega)
                              have f_332 : h_326 (A 7) = some (27, .inl (G.2.2.1 0, 255, .inl (nA ln))) := by rw [e_327]; exact ah_keep fa72 fa82 (by omega)
                              have f_333 : h_326 (A 8) = some (28, .inl (G.2.2.1 0, 36210, .inl (nA (gU b1 (((142 * p9) + 2) + pl) (tx k / 2 ^ 8))))) := by rw [e_327]; exact ah_up_s _ _ _
                              refine lv_aload_n hx hb dX9_part_187 rfl (lv_at hl 2 rfl) ?_
                              refine ah_get (ci := 8) (v := .ref (A 8)) (C := RX9) (T := TX9) (N := 27) hx hb hE hR hts hinX9 hown f_328 rfl 8 (by decide) k23 (fun _ h9 => h9) rfl dX9_part_188 ?_
                              refine lv_iload hx hb dX9_part_191 (lv_at hl 8 rfl) ?_
                              refine lv_iconst (v := nI 3) hx hb dX9_part_193 (by decide) ?_
                              refine lv_iadd hx hb dX9_part_194 ?_
                              refine ah_toi (v := nI ((142 * p9) + 3)) (nI_add _ _) ?_
                              refine lv_iload hx hb dX9_part_195 (lv_at hl 1 rfl) ?_
                              refine lv_iadd hx hb dX9_part_197 ?_
                              refine ah_toi (v := nI (((142 * p9) + 3) + pl)) (nI_add _ _) ?_
                              refine lv_aload_n hx hb dX9_part_198 rfl (lv_at hl 2 rfl) ?_
                              refine ah_get (ci := 8) (v := .ref (A 4)) (C := RX9) (T := TX9) (N := 27) hx hb hE hR hts hinX9 hown f_328 rfl 4 (by decide) k16 (fun _ h9 => h9) rfl dX9_part_199 ?_
                              refine lv_iload hx hb dX9_part_202 (lv_at hl 0 rfl) ?_
                              refine ah_iald (i := k) hx hb hE hR f_331 (by omega) (by omega) dX9_part_204 ?_
                              refine ah_toi (v := nI (tx k)) rfl ?_
                              refine lv_sipush (v := nI 255) hx hb dX9_part_205 (by decide) ?_
                              refine lv_iand hx hb dX9_part_208 ?_
                              refine ah_toi (v := nI (tx k % 256)) (ny_a255 _) ?_
                              refine ah_iast (i := (((142 * p9) + 3) + pl)) hx hb hE hR hS f_333 (by omega) (by omega) dX9_part_209 (fun H locs hR hS => ?_)
                              rw [nA_upd] at hR
                              obtain ⟨h_334, e_335⟩ : ∃ zz9, zz9 = ah_up h_326 (A 8) (28, .inl (G.2.2.1 0, 36210, .inl (nA (gU (gU b1 (((142 * p9) + 2) + pl) (tx k / 2 ^ 8)) (((142 * p9) + 3) + pl) (tx k % 256))))) := ⟨_, rfl⟩
                              have hR : ah_R G h_334 H := by rw [e_335]; exact hR
                              have f_336 : h_334 y = some (20, .inr (8, mF A k0 n rf pm zh lc c pt gv un)) := by rw [e_335]; exact ah_keep f_328 f_333 (by omega)
                              have f_337 : h_334 (A 1) = some (21, .inl (G.2.2.1 0, 128, .inl plT)) := by rw [e_335]; exact ah_keep f_329 f_333 (by omega)
                              have f_338 : h_334 (A 2) = some (22, .inl (G.2.2.1 0, 128, .inl esT)) := by rw [e_335]; exact ah_keep f_330 f_333 (by omega)
                              have f_339 : h_334 (A 4) = some (24, .inl (G.2.2.1 0, 3000, .inl (nA tx))) := by rw [e_335]; exact ah_keep f_331 f_333 (by omega)
                              have f_340 : h_334 (A 7) = some (27, .inl (G.2.2.1 0, 255, .inl (nA ln))) := by rw [e_335]; exact ah_keep f_332 f_333 (by omega)
                              have f_341 : h_334 (A 8) = some (28, .inl (G.2.2.1 0, 36210, .inl (nA (gU (gU b1 (((142 * p9) + 2) + pl) (tx k / 2 ^ 8)) (((142 * p9) + 3) + pl) (tx k % 256))))) := by rw [e_335]; exact ah_up_s _ _ _
                              refine lv_iinc (v := nI (pl + 2)) (lv' := [(7, .int (nI (pl + 2))), (8, .int (nI k)), (0, .ref y), (1, .int (nI p9)), (2, .int (nI a)), (3, .int (nI mny)), (4, .int (nI pb)), (5, .int (nI of9)), (6, .int (nI (142 * p9)))]) hx hb dX9_part_210 hl (k := 1) rfl (show nI pl + Int32.ofInt 2 = nI (pl + 2) from nI_add _ 2) (by decide) rfl (fun ls hl => ?_)
                              refine lv_goto (tgt := 263) hx hb dX9_part_213 (by decide) ?_
                              refine lv_iinc (v := nI (k + 1)) (lv' := [(8, .int (nI (k + 1))), (7, .int (nI (pl + 2))), (0, .ref y), (1, .int (nI p9)), (2, .int (nI a)), (3, .int (nI mny)), (4, .int (nI pb)), (5, .int (nI of9)), (6, .int (nI (142 * p9)))]) hx hb dX9_part_263 hl (k := 1) rfl (show nI k + Int32.ofInt 1 = nI (k + 1) from nI_add _ 1) (by decide) rfl (fun ls hl => ?_)
                              refine lv_goto (tgt := 152) hx hb dX9_part_266 (by decide) ?_
                              exact ih152  (k + 1) (pl + 2) (gU (gU b1 (((142 * p9) + 2) + pl) (tx k / 2 ^ 8)) (((142 * p9) + 3) + pl) (tx k % 256)) h_334 _ _ ls (by omega) (by omega) (by omega) (by omega) (prS epl hk inv) (fun x hx9 => by rw [gU_n (by omega), gU_n (by omega)]; exact out x hx9) (by rw [e_335, e_327, eh2]; simp only [ah_up2]) f_336 f_337 f_338 f_339 f_340 f_341 hR hS (lv_sub hl [0, 1, 2, 3, 4, 5, 6, 7, 8] rfl)
                      exact L152 ((a + mny - a) + 1) a 6 b0 h_296 _ _ ls (by omega) (by omega) (by omega) epl0 (fun j hj => by rw [if_neg (by omega)]) (fun _ _ => rfl) ehb f_298 f_299 f_300 f_301 f_302 f_306 hR hS (lv_sub hl [0, 1, 2, 3, 4, 5, 6, 7, 8] rfl)
                  · skip
                    have c_304 : of9 = 0 := (zi_eq (by omega)).mp c_304
                    exact absurd c_304 (by omega)
          · skip
            have c_252 : ¬ (142 ≤ k) := fun z9 => c_252 ((nI_leI (by omega) (by omega)).mpr z9)
            refine lv_aload_n hx hb dX9_part_18 rfl (lv_at hl 1 rfl) ?_
            refine ah_get (ci := 8) (v := .ref (A 8)) (C := RX9) (T := TX9) (N := 27) hx hb hE hR hts hinX9 hown fy1 rfl 8 (by decide) k23 (fun _ h9 => h9) rfl dX9_part_19 ?_
            refine lv_iload hx hb dX9_part_22 (lv_at hl 7 rfl) ?_
            refine lv_iload hx hb dX9_part_24 (lv_at hl 0 rfl) ?_
            refine lv_iadd hx hb dX9_part_26 ?_
            refine ah_toi (v := nI ((142 * p9) + k)) (nI_add _ _) ?_
            refine lv_iconst (v := nI 0) hx hb dX9_part_27 (by decide) ?_
            refine ah_iast (i := ((142 * p9) + k)) hx hb hE hR hS fa81 (by omega) (by omega) dX9_part_28 (fun H locs hR hS => ?_)
            rw [nA_upd] at hR
            obtain ⟨h_342, e_343⟩ : ∃ zz9, zz9 = ah_up h1 (A 8) (28, .inl (G.2.2.1 0, 36210, .inl (nA (gU (zR bb p9 k) ((142 * p9) + k) 0)))) := ⟨_, rfl⟩
            have hR : ah_R G h_342 H := by rw [e_343]; exact hR
            have f_344 : h_342 y = some (20, .inr (8, mF A k0 n rf pm zh lc c pt gv un)) := by rw [e_343]; exact ah_keep fy1 fa81 (by omega)
            have f_345 : h_342 (A 1) = some (21, .inl (G.2.2.1 0, 128, .inl plT)) := by rw [e_343]; exact ah_keep fa11 fa81 (by omega)
            have f_346 : h_342 (A 2) = some (22, .inl (G.2.2.1 0, 128, .inl esT)) := by rw [e_343]; exact ah_keep fa21 fa81 (by omega)
            have f_347 : h_342 (A 4) = some (24, .inl (G.2.2.1 0, 3000, .inl (nA tx))) := by rw [e_343]; exact ah_keep fa41 fa81 (by omega)
            have f_348 : h_342 (A 7) = some (27, .inl (G.2.2.1 0, 255, .inl (nA ln))) := by rw [e_343]; exact ah_keep fa71 fa81 (by omega)
            have f_349 : h_342 (A 8) = some (28, .inl (G.2.2.1 0, 36210, .inl (nA (gU (zR bb p9 k) ((142 * p9) + k) 0)))) := by rw [e_343]; exact ah_up_s _ _ _
            have f_350 : h_342 (A 8) = some (28, .inl (G.2.2.1 0, 36210, .inl (nA (zR bb p9 (k + 1))))) := by rw [← zR_s]; exact f_349
            refine lv_iinc (v := nI (k + 1)) (lv' := [(7, .int (nI (k + 1))), (0, .ref y), (1, .int (nI p9)), (2, .int (nI a)), (3, .int (nI mny)), (4, .int (nI pb)), (5, .int (nI of9)), (6, .int (nI (142 * p9)))]) hx hb dX9_part_29 hl (k := 0) rfl (show nI k + Int32.ofInt 1 = nI (k + 1) from nI_add _ 1) (by decide) rfl (fun ls hl => ?_)
            refine lv_goto (tgt := 10) hx hb dX9_part_32 (by decide) ?_
            exact ih10  (k + 1) h_342 _ _ ls (by omega) (by omega) (by rw [e_343, eh1, ah_up2, zR_s]) f_344 f_345 f_346 f_347 f_348 f_350 hR hS (lv_sub hl [0, 1, 2, 3, 4, 5, 6, 7] rfl)
      exact L10 ((142 - 0) + 1) 0 h _ _ ls (by omega) (by omega) (by rw [zR_0, ah_up_id fa8]) fy fa1 fa2 fa4 fa7 fa80 hR hS (lv_sub hl [0, 2, 3, 4, 5, 6, 7, 1] rfl)
