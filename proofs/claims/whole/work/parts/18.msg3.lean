/-! ===== TextParts$Message.build ===== -/
theorem sumS_front (f : Nat → Nat) (a m : Nat) : sumS f a (m + 1) = svFor (f a) + sumS f (a + 1) m := by
  induction m with
  | zero => simp [sumS]
  | succ m ih =>
    have e : sumS f a (m + 1 + 1) = sumS f a (m + 1) + svFor (f (a + (m + 1))) := rfl
    have e2 : sumS f (a + 1) (m + 1) = sumS f (a + 1) m + svFor (f (a + 1 + m)) := rfl
    rw [e, ih, e2, show a + (m + 1) = a + 1 + m by omega]; omega
theorem sEnd_ge {f : Nat → Nat} {n : Nat} : ∀ (m i q : Nat), i ≤ n → i ≤ sEnd f n m i q
  | 0, _, _, _ => Nat.le_refl _
  | m + 1, i, q, h => by
    unfold sEnd
    split
    · exact h
    · split
      · exact Nat.le_refl i
      · have := sEnd_ge (f := f) (n := n) m (i + 1) (q - svFor (f i)) (by omega); omega
theorem sEnd_sum {f : Nat → Nat} {n : Nat} : ∀ (m i q : Nat), i ≤ n → n - i < m → sumS f i (sEnd f n m i q - i) ≤ q
  | 0, _, _, _, h => absurd h (Nat.not_lt_zero _)
  | m + 1, i, q, hi, h => by
    unfold sEnd
    split
    · rw [show n - i = 0 by omega]; exact Nat.zero_le q
    · split
      · rw [Nat.sub_self]; exact Nat.zero_le q
      · have h1 := sEnd_sum (f := f) (n := n) m (i + 1) (q - svFor (f i)) (by omega) (by omega)
        have h2 := sEnd_ge (f := f) (n := n) m (i + 1) (q - svFor (f i)) (by omega)
        rw [show sEnd f n m (i + 1) (q - svFor (f i)) - i = (sEnd f n m (i + 1) (q - svFor (f i)) - (i + 1)) + 1 by omega, sumS_front]
        omega
theorem tEnd_ge {f : Nat → Nat} {n os a : Nat} (h : a ≤ n) : a ≤ tEnd f n os a := by
  unfold tEnd; split
  · exact sEnd_ge _ _ _ h
  · unfold pEnd; split
    · exact h
    · split <;> omega
theorem pcR_le (e : Nat → Nat) (n : Nat) : ∀ (m k a : Nat), pcR e n m k a ≤ k + m - 1
  | 0, _, _ => Nat.zero_le _
  | m + 1, k, a => by
    unfold pcR; split
    · omega
    · have := pcR_le e n m (k + 1) (e a); omega
theorem tParts_le (f : Nat → Nat) (n sv os : Nat) : tParts f n sv os ≤ 255 := by
  unfold tParts; split
  · omega
  · have := pcR_le (tEnd f n os) n 256 0 0; omega
theorem pcR_gt (e : Nat → Nat) (n : Nat) : ∀ (m k a : Nat), pcR e n m k a = 0 ∨ k ≤ pcR e n m k a
  | 0, _, _ => Or.inl rfl
  | m + 1, k, a => by
    unfold pcR; split
    · exact Or.inr (Nat.le_refl k)
    · rcases pcR_gt e n m (k + 1) (e a) with h | h
      · exact Or.inl h
      · exact Or.inr (by omega)
/-- one part alone is one without header -/
theorem tParts_1 {f : Nat → Nat} {n sv os : Nat} (hsv : sv = sumS f 0 n) (h : tParts f n sv os = 1) : aloneP n sv os := by
  unfold tParts at h
  by_cases ha : aloneP n sv os
  · exact ha
  · exfalso
    rw [if_neg ha] at h
    have e : pcR (tEnd f n os) n 256 0 0 = if n ≤ 0 then 0 else if n ≤ tEnd f n os 0 then 1 else pcR (tEnd f n os) n 254 2 (tEnd f n os (tEnd f n os 0)) := rfl
    rw [e] at h
    by_cases h0 : n ≤ 0
    · rw [if_pos h0] at h; omega
    · rw [if_neg h0] at h
      by_cases h1 : n ≤ tEnd f n os 0
      · apply ha
        unfold aloneP
        unfold tEnd at h1
        by_cases ho : os = 0
        · rw [if_pos ho] at h1 ⊢
          have h2 := sEnd_sum (f := f) (n := n) (n - 0 + 1) 0 153 (by omega) (by omega)
          have h3 := sEnd_le (f := f) (n := n) (n - 0 + 1) 0 153 (by omega)
          rw [show sEnd f n (n - 0 + 1) 0 153 - 0 = n by omega] at h2
          omega
        · rw [if_neg ho] at h1 ⊢
          unfold pEnd at h1
          split at h1
          · omega
          · split at h1 <;> omega
      · rw [if_neg h1] at h
        have := pcR_gt (tEnd f n os) n 254 2 (tEnd f n os (tEnd f n os 0))
        omega
/-- where part k begins -/
def stA (e : Nat → Nat) : Nat → Nat
  | 0 => 0
  | k + 1 => e (stA e k)
def endF (f : Nat → Nat) (n os P : Nat) : Nat → Nat := fun a => if 1 < P then tEnd f n os a else n
def hbN (P : Nat) : Nat := if 1 < P then 1 else 0
def pZ (f : Nat → Nat) (n os P k : Nat) : Nat := if os = 0 then sevZ f (hbN P) (stA (endF f n os P) k) (stA (endF f n os P) (k + 1)) else pairZ (hbN P) (stA (endF f n os P) k) (stA (endF f n os P) (k + 1))
def pG0 (f : Nat → Nat) (n os P k : Nat) : Nat → Nat := if os = 0 then sevG f (hbN P) (stA (endF f n os P) k) (stA (endF f n os P) (k + 1)) else pairG f (hbN P) (stA (endF f n os P) k) (stA (endF f n os P) (k + 1))
def pG (f : Nat → Nat) (n os P ref k : Nat) : Nat → Nat := if 1 < P then hdrG (pG0 f n os P k) (pZ f n os P k) ref P (k + 1) else pG0 f n os P k
theorem stA_le {f : Nat → Nat} {n os P : Nat} : ∀ k, stA (endF f n os P) k ≤ n
  | 0 => Nat.zero_le n
  | k + 1 => by
    show endF f n os P (stA (endF f n os P) k) ≤ n
    have h := stA_le (f := f) (n := n) (os := os) (P := P) k
    revert h
    generalize stA (endF f n os P) k = a
    intro h
    unfold endF; split
    · exact tEnd_le h
    · exact Nat.le_refl n
theorem stA_ge {f : Nat → Nat} {n os P : Nat} (k : Nat) : stA (endF f n os P) k ≤ stA (endF f n os P) (k + 1) := by
  show stA (endF f n os P) k ≤ endF f n os P (stA (endF f n os P) k)
  have h := stA_le (f := f) (n := n) (os := os) (P := P) k
  revert h
  generalize stA (endF f n os P) k = a
  intro h
  unfold endF; split
  · exact tEnd_ge h
  · exact h
theorem hbN_le (P : Nat) : hbN P ≤ 1 := by unfold hbN; split <;> omega
/-- a part by the alphabet has room -/
theorem part_sev {f : Nat → Nat} {n sv os P k : Nat} (hsv : sv = sumS f 0 n) (hP : P = tParts f n sv os) (h0 : P ≠ 0) (hk : k < P) (ho : os = 0) : 7 * hbN P + sumS f (stA (endF f n os P) k) (stA (endF f n os P) (k + 1) - stA (endF f n os P) k) ≤ 160 := by
  have hl := stA_le (f := f) (n := n) (os := os) (P := P) k
  show 7 * hbN P + sumS f (stA (endF f n os P) k) (endF f n os P (stA (endF f n os P) k) - stA (endF f n os P) k) ≤ 160
  by_cases h1 : 1 < P
  · revert hl
    generalize stA (endF f n os P) k = a
    intro hl
    unfold endF hbN tEnd
    rw [if_pos h1, if_pos h1, if_pos ho]
    have := sEnd_sum (f := f) (n := n) (n - a + 1) a 153 hl (by omega)
    omega
  · have hP1 : tParts f n sv os = 1 := by omega
    have hal := tParts_1 hsv hP1
    unfold aloneP at hal
    rw [if_pos ho] at hal
    have hk0 : k = 0 := by omega
    subst hk0
    unfold endF hbN
    rw [if_neg h1, if_neg h1]
    show 7 * 0 + sumS f 0 (n - 0) ≤ 160
    rw [Nat.sub_zero]
    omega
theorem part_pair {f : Nat → Nat} {n sv os P k : Nat} (hsv : sv = sumS f 0 n) (hP : P = tParts f n sv os) (h0 : P ≠ 0) (hk : k < P) (ho : ¬ os = 0) : 6 * hbN P + 2 * (stA (endF f n os P) (k + 1) - stA (endF f n os P) k) ≤ 140 := by
  have hl := stA_le (f := f) (n := n) (os := os) (P := P) k
  show 6 * hbN P + 2 * (endF f n os P (stA (endF f n os P) k) - stA (endF f n os P) k) ≤ 140
  by_cases h1 : 1 < P
  · revert hl
    generalize stA (endF f n os P) k = a
    intro hl
    unfold endF hbN tEnd pEnd
    rw [if_pos h1, if_pos h1, if_neg ho]
    split
    · omega
    · split <;> omega
  · have hP1 : tParts f n sv os = 1 := by omega
    have hal := tParts_1 hsv hP1
    unfold aloneP at hal
    rw [if_neg ho] at hal
    have hk0 : k = 0 := by omega
    subst hk0
    unfold endF hbN
    rw [if_neg h1, if_neg h1]
    show 6 * 0 + 2 * (n - 0) ≤ 140
    omega
theorem escN_lt (u : Nat) : escN u < 128 := by
  rcases escSv_or u with h | h
  · unfold escN; rw [h]; decide
  · exact h.2
theorem plainN_lt (u : Nat) : plainN u < 128 := by
  rcases plainSv_or u with h | h
  · unfold plainN; rw [h]; decide
  · exact h.2
theorem wSev_lt {f : Nat → Nat} {z : Nat} : ∀ (m a : Nat) (g : Nat → Nat) (pl : Nat), (∀ j, g j < 256) → ∀ j, wSev f z m a g pl j < 256
  | 0, _, _, _, h => h
  | m + 1, a, g, pl, h => by
    unfold wSev; split
    · exact wSev_lt m _ _ _ (rwAdd_lt (rwAdd_lt h (by omega)) (escN_lt _))
    · exact wSev_lt m _ _ _ (rwAdd_lt h (plainN_lt _))
theorem wPair_lt {f : Nat → Nat} {z : Nat} (hf : ∀ j, f j < 65536) : ∀ (m a : Nat) (g : Nat → Nat) (pl : Nat), (∀ j, g j < 256) → ∀ j, wPair f z m a g pl j < 256
  | 0, _, _, _, h => h
  | m + 1, a, g, pl, h => by
    have := hf a
    unfold wPair
    exact wPair_lt hf m _ _ _ (rwS_lt (rwS_lt h (by omega)) (by omega))
theorem hdrG_lt {g : Nat → Nat} {z x y w : Nat} (hg : ∀ j, g j < 256) (hx : x < 256) (hy : y < 256) (hw : w < 256) : ∀ j, hdrG g z x y w j < 256 :=
  rwS_lt (rwS_lt (rwS_lt (rwS_lt (rwS_lt (rwS_lt hg (by omega)) (by omega)) (by omega)) hx) hy) hw
theorem sevG_lt {f : Nat → Nat} {hb a b : Nat} (h1 : hb ≤ 1) (h2 : 7 * hb + sumS f a (b - a) ≤ 160) : ∀ j, sevG f hb a b j < 256 := wSev_lt _ _ _ _ (rwS_lt (rwS_lt (fun _ => by omega) (by omega)) (by omega))
theorem pairG_lt {f : Nat → Nat} {hb a b : Nat} (hf : ∀ j, f j < 65536) (h1 : hb ≤ 1) (h2 : 6 * hb + 2 * (b - a) ≤ 140) : ∀ j, pairG f hb a b j < 256 := wPair_lt hf _ _ _ _ (rwS_lt (rwS_lt (fun _ => by omega) (by omega)) (by omega))

set_option maxHeartbeats 4000000 in
set_option maxRecDepth 100000 in
theorem c_Msg_build (l : Launch) (G : ah_G) (h : ah_H) (m0 ra pc : Nat) (rf : Nat → Option Nat) (fm : h m0 = some (4, .inr (2, [.ref ra, .int (nI pc)]))) (fa : h ra = some (5, .inl (G.2.2.1 3, 255, .inr (.inr (.inr (.inr rf)))))) (t ua n sv os : Nat) (f : Nat → Nat) (ft : h t = some (2, .inr (6, [.ref ua, .int (nI n), .int (nI sv), .int (nI os)]))) (fu : h ua = some (3, .inl (G.2.2.1 0, 3000, .inl (nA f)))) (hn : n ≤ 3000) (hsv : sv < 2 ^ 30) (hos : os < 2 ^ 30) (hf : ∀ j, f j < 65536) (rb z : Nat → Nat) (g : Nat → Nat → Nat) (hok : rowsOk G h rf rb z g) (hsum : sv = sumS f 0 n) (hin : os = 0 → ∀ i, i < n → svFor (f i) ≠ 0) (P ref : Nat) (hP : P = tParts f n sv os) (hP0 : P ≠ 0) (href : ref < 256) : Met l yX3_build wsX3_build ({ frames := 5, cells := 2 * P, slots := 144 * P, locals := 116 }) (ah_Pc G [.ref m0, .ref t, .int (nI P), .int (nI ref)] h) (ah_Qv G (fun h' => ∃ (rf' : Nat → Option Nat) (rb' z' : Nat → Nat) (g' : Nat → Nat → Nat), rowsOk G h' rf' rb' z' g' ∧ h' m0 = some (4, .inr (2, [.ref ra, .int (nI P)])) ∧ h' ra = some (5, .inl (G.2.2.1 3, 255, .inr (.inr (.inr (.inr rf'))))) ∧ agr (fun t => t ≠ 4 ∧ t ≠ 5 ∧ notRow t) h h' ∧ (∀ j, j < P → (∃ r, rf' j = some r) ∧ z' j = pZ f n os P j ∧ g' j = pG f n os P ref j))) (2 * P) (144 * P) (ah_A G) := by
  refine ah_ofW (cc := cX3_build) (maxL := 8) (ret := none) (by decide) rfl (Nat.le_of_ble_eq_true rfl) ?_
  intro p e s m below meth cd9 ls hx hb hr hml hown hlocks hname hts hE hR hS hl
  have hown : s.vm.findClass RX3 = some m.cls := hown
  have hl : lv_has ls 8 [(0, .ref m0), (1, .ref t), (2, .int (nI P)), (3, .int (nI ref))] := hl
  have k17 := hts (.fieldLink RX3 17 "TextParts$Message" "partCount" "I") (by decide +kernel)
  have hinX3 : ∀ w ∈ wsX30, w ∈ wsX3_build := by decide +kernel
  have k11 := hts (.fieldLink RX3 11 "TextParts$Message" "rows" "[LTextParts$Row;") (by decide +kernel)
  have k30 := hts (.fieldLink RX3 30 "TextParts$Text" "count" "I") (by decide +kernel)
  have hinX7 : ∀ w ∈ wsX70, w ∈ wsX3_build := by decide +kernel
  have hinX6 : ∀ w ∈ wsX60, w ∈ wsX3_build := by decide +kernel
  have wclassLink_RX3_9_RX6 := hts (.classLink RX3 9 RX6) (by decide +kernel)
  have winstantiable_RX6_2 := hts (.instantiable RX6 2) (by decide +kernel)
  have winitialized_RX6 := hts (.initialized RX6) (by decide +kernel)
  have wmethodLink_RX3_21_yX6_init := hts (.methodLink RX3 21 yX6_init) (by decide +kernel)
  have winstanceMethod_yX6_init := hts (.instanceMethod yX6_init) (by decide +kernel)
  have hP255 : P ≤ 255 := by rw [hP]; exact tParts_le f n sv os
  refine lv_iconst (v := nI 0) hx hb dX3_build_0 (by decide) ?_
  refine lv_istore (lv' := [(4, .int (nI 0)), (0, .ref m0), (1, .ref t), (2, .int (nI P)), (3, .int (nI ref))]) hx hb dX3_build_1 hl (by decide) rfl (fun ls hl => ?_)
  refine lv_iconst (v := nI 0) hx hb dX3_build_3 (by decide) ?_
  refine lv_istore (lv' := [(5, .int (nI 0)), (4, .int (nI 0)), (0, .ref m0), (1, .ref t), (2, .int (nI P)), (3, .int (nI ref))]) hx hb dX3_build_4 hl (by decide) rfl (fun ls hl => ?_)
  refine W.widen (k := 2 * 0) (n := 144 * 0) (by omega) (by omega) ?_
  have L6 : ∀ (N6 : Nat) (k : Nat) (a : Nat) (rf1 : Nat → Option Nat) (rb1 : Nat → Nat) (z1 : Nat → Nat) (g1 : Nat → Nat → Nat) (h1 : ah_H) (H : Heap) (locs : List Loc) (ls : Array Slot), P - k < N6 → (k ≤ P) → (a = stA (endF f n os P) k) → (rowsOk G h1 rf1 rb1 z1 g1) → (agr (fun t => t ≠ 4 ∧ t ≠ 5 ∧ notRow t) h h1) → (∀ j, j < k → (∃ r, rf1 j = some r) ∧ z1 j = pZ f n os P j ∧ g1 j = pG f n os P ref j) → (h1 m0 = some (4, .inr (2, [.ref ra, .int (nI pc)]))) → (h1 ra = some (5, .inl (G.2.2.1 3, 255, .inr (.inr (.inr (.inr rf1)))))) → (h1 t = some (2, .inr (6, [.ref ua, .int (nI n), .int (nI sv), .int (nI os)]))) → (h1 ua = some (3, .inl (G.2.2.1 0, 3000, .inl (nA f)))) → ah_R G h1 H → va_S (ah_A G) s.heap H locs → lv_has ls 8 [(5, .int (nI k)), (4, .int (nI a)), (0, .ref m0), (1, .ref t), (2, .int (nI P)), (3, .int (nI ref))] → W p l e ({ frames := 5, cells := 2 * P, slots := 144 * P, locals := 116 }) s m ([.ref m0, .ref t, .int (nI P), .int (nI ref)] : List Value).toArray below meth cd9 H locs (2 * k) (144 * k) (MQ below (ah_Qv G (fun h' => ∃ (rf' : Nat → Option Nat) (rb' z' : Nat → Nat) (g' : Nat → Nat → Nat), rowsOk G h' rf' rb' z' g' ∧ h' m0 = some (4, .inr (2, [.ref ra, .int (nI P)])) ∧ h' ra = some (5, .inl (G.2.2.1 3, 255, .inr (.inr (.inr (.inr rf'))))) ∧ agr (fun t => t ≠ 4 ∧ t ≠ 5 ∧ notRow t) h h' ∧ (∀ j, j < P → (∃ r, rf' j = some r) ∧ z' j = pZ f n os P j ∧ g' j = pG f n os P ref j))) ([.ref m0, .ref t, .int (nI P), .int (nI ref)] : List Value).toArray s (2 * P) (144 * P) (ah_A G)) (F0 m 6 ls []) := by
    intro N6
    induction N6 with
    | zero => intro k a rf1 rb1 z1 g1 h1 H locs ls hN; exact absurd hN (Nat.not_lt_zero _)
    | succ N6 ih6 =>
      intro k a rf1 rb1 z1 g1 h1 H locs ls hN6 hk ha hok1 hag1 hdn1 fm1 fa1 ft1 fu1 hR hS hl
      refine lv_iload hx hb dX3_build_6 (lv_at hl 0 rfl) ?_
      refine lv_iload_n hx hb dX3_build_8 rfl (lv_at hl 4 rfl) ?_
      refine lv_icmp_ge (tgt := 156) hx hb dX3_build_9 (by decide) (fun c_1 => ?_) (fun c_1 => ?_)
      · skip
        have c_1 : P ≤ k := (nI_leI (by omega) (by omega)).mp c_1
        refine lv_aload_n hx hb dX3_build_156 rfl (lv_at hl 2 rfl) ?_
        refine lv_iload_n hx hb dX3_build_157 rfl (lv_at hl 4 rfl) ?_
        refine ah_put (ci := 2) (v := .int (nI P)) (ty := .int) (C := RX3) (T := TX3) (N := 2) hx hb hE hR hS hts hinX3 tyX3 tyX3_ok nmX3 hown fm1 rfl 1 (by decide) k17 (fun _ h9 => h9) rfl (by decide +kernel) rfl rfl (Nat.le_of_ble_eq_true rfl) dX3_build_158 (fun H locs hR hS => ?_)
        obtain ⟨h_2, e_3⟩ : ∃ zz9, zz9 = ah_up h1 m0 (4, .inr (2, [.ref ra, .int (nI P)])) := ⟨_, rfl⟩
        have hR : ah_R G h_2 H := by rw [e_3]; exact hR
        have f_4 : h_2 m0 = some (4, .inr (2, [.ref ra, .int (nI P)])) := by rw [e_3]; exact ah_up_s _ _ _
        have f_5 : h_2 ra = some (5, .inl (G.2.2.1 3, 255, .inr (.inr (.inr (.inr rf1))))) := by rw [e_3]; exact ah_keep fa1 fm1 (by omega)
        have f_6 : h_2 t = some (2, .inr (6, [.ref ua, .int (nI n), .int (nI sv), .int (nI os)])) := by rw [e_3]; exact ah_keep ft1 fm1 (by omega)
        have f_7 : h_2 ua = some (3, .inl (G.2.2.1 0, 3000, .inl (nA f))) := by rw [e_3]; exact ah_keep fu1 fm1 (by omega)
        refine W.widen (k := 2 * P) (n := 144 * P) (by omega) (by omega) ?_
        refine ah_vret hx hb hr hlocks hR hS dX3_build_161 ?_
        exact ⟨rf1, rb1, z1, g1, by rw [e_3]; exact hok1.up fm1 (by omega), f_4, f_5, by rw [e_3]; exact hag1.up fm1 (by omega), fun j hj => hdn1 j (by omega)⟩
      · skip
        have c_1 : ¬ (P ≤ k) := fun z9 => c_1 ((nI_leI (by omega) (by omega)).mpr z9)
        refine lv_iload hx hb dX3_build_12 (lv_at hl 0 rfl) ?_
        refine lv_aload_n hx hb dX3_build_14 rfl (lv_at hl 2 rfl) ?_
        refine ah_get (ci := 2) (v := .ref ra) (C := RX3) (T := TX3) (N := 2) hx hb hE hR hts hinX3 hown fm1 rfl 0 (by decide) k11 (fun _ h9 => h9) rfl dX3_build_15 ?_
        refine ah_alen hx hb hE hR fa1 (show (ah_tys G)[3]? = some _ from rfl) dX3_build_18 ?_
        refine lv_icmp_ge (tgt := 156) hx hb dX3_build_19 (by decide) (fun c_8 => ?_) (fun c_8 => ?_)
        · skip
          have c_8 : 255 ≤ k := (nI_leI (by omega) (by omega)).mp c_8
          exact absurd c_8 (by omega)
        · skip
          have c_8 : ¬ (255 ≤ k) := fun z9 => c_8 ((nI_leI (by omega) (by omega)).mpr z9)
          have J49 : ∀ (rf2 : Nat → Option Nat) (rb2 : Nat → Nat) (z2 : Nat → Nat) (g2 : Nat → Nat → Nat) (r : Nat) (h2 : ah_H) (H : Heap) (locs : List Loc) (ls : Array Slot), (rf2 k = some r) → (rowsOk G h2 rf2 rb2 z2 g2) → (agr (fun t => t ≠ 4 ∧ t ≠ 5 ∧ notRow t) h h2) → (∀ j, j < k → (∃ r, rf2 j = some r) ∧ z2 j = pZ f n os P j ∧ g2 j = pG f n os P ref j) → (h2 m0 = some (4, .inr (2, [.ref ra, .int (nI pc)]))) → (h2 ra = some (5, .inl (G.2.2.1 3, 255, .inr (.inr (.inr (.inr rf2)))))) → (h2 t = some (2, .inr (6, [.ref ua, .int (nI n), .int (nI sv), .int (nI os)]))) → (h2 ua = some (3, .inl (G.2.2.1 0, 3000, .inl (nA f)))) → ah_R G h2 H → va_S (ah_A G) s.heap H locs → lv_has ls 8 [(5, .int (nI k)), (4, .int (nI a)), (0, .ref m0), (1, .ref t), (2, .int (nI P)), (3, .int (nI ref))] → W p l e ({ frames := 5, cells := 2 * P, slots := 144 * P, locals := 116 }) s m ([.ref m0, .ref t, .int (nI P), .int (nI ref)] : List Value).toArray below meth cd9 H locs (2 * (k + 1)) (144 * (k + 1)) (MQ below (ah_Qv G (fun h' => ∃ (rf' : Nat → Option Nat) (rb' z' : Nat → Nat) (g' : Nat → Nat → Nat), rowsOk G h' rf' rb' z' g' ∧ h' m0 = some (4, .inr (2, [.ref ra, .int (nI P)])) ∧ h' ra = some (5, .inl (G.2.2.1 3, 255, .inr (.inr (.inr (.inr rf'))))) ∧ agr (fun t => t ≠ 4 ∧ t ≠ 5 ∧ notRow t) h h' ∧ (∀ j, j < P → (∃ r, rf' j = some r) ∧ z' j = pZ f n os P j ∧ g' j = pG f n os P ref j))) ([.ref m0, .ref t, .int (nI P), .int (nI ref)] : List Value).toArray s (2 * P) (144 * P) (ah_A G)) (F0 m 49 ls []) := by
            intro rf2 rb2 z2 g2 r h2 H locs ls hrk hok2 hag2 hdn2 fm2 fa2 ft2 fu2 hR hS hl
            have hk9 : k < P := by omega
            have hal := stA_le (f := f) (n := n) (os := os) (P := P) k
            have hage := stA_ge (f := f) (n := n) (os := os) (P := P) k
            have hbl := stA_le (f := f) (n := n) (os := os) (P := P) (k + 1)
            have hst1 : stA (endF f n os P) (k + 1) = endF f n os P (stA (endF f n os P) k) := rfl
            rw [← ha] at hal hage hst1
            obtain ⟨fr, fb, hz2, hg2⟩ := hok2 k r (by omega) hrk
            refine lv_iload_n hx hb dX3_build_49 rfl (lv_at hl 4 rfl) ?_
            refine lv_iconst (v := nI 1) hx hb dX3_build_50 (by decide) ?_
            refine lv_icmp_le (tgt := 58) hx hb dX3_build_51 (by decide) (fun c_9 => ?_) (fun c_9 => ?_)
            · skip
              have c_9 : P ≤ 1 := (nI_leI (by omega) (by omega)).mp c_9
              have hb9 : hbN P = 0 := if_neg (by omega)
              have h1P : ¬ 1 < P := by omega
              refine lv_iconst (v := nI 0) hx hb dX3_build_58 (by decide) ?_
              refine lv_istore (lv' := [(6, .int (nI 0)), (5, .int (nI k)), (4, .int (nI a)), (0, .ref m0), (1, .ref t), (2, .int (nI P)), (3, .int (nI ref))]) hx hb dX3_build_59 hl (by decide) rfl (fun ls hl => ?_)
              refine lv_iload hx hb dX3_build_61 (lv_at hl 0 rfl) ?_
              refine lv_if_eq (tgt := 75) hx hb dX3_build_63 (by decide) (fun c_10 => ?_) (fun c_10 => ?_)
              · skip
                refine lv_aload_n hx hb dX3_build_75 rfl (lv_at hl 4 rfl) ?_
                refine ah_get (ci := 6) (v := .int (nI n)) (C := RX7) (T := TX7) (N := 4) hx hb hE hR hts hinX7 hown ft2 rfl 1 (by decide) k30 (fun _ h9 => h9) rfl dX3_build_76 ?_
                refine ah_toi (v := nI (stA (endF f n os P) (k + 1))) (by rw [hst1]; unfold endF; rw [if_neg h1P]) ?_
                refine lv_istore (lv' := [(7, .int (nI (stA (endF f n os P) (k + 1)))), (6, .int (nI 0)), (5, .int (nI k)), (4, .int (nI a)), (0, .ref m0), (1, .ref t), (2, .int (nI P)), (3, .int (nI ref))]) hx hb dX3_build_79 hl (by decide) rfl (fun ls hl => ?_)
                refine lv_aload_n hx hb dX3_build_81 rfl (lv_at hl 5 rfl) ?_
                refine ah_calli (va_runV (As := []) (rest := []) ⟨hx, hb, hml, hown, hts⟩ (c_Text_inAlphabet l G h2 t ua 2 3 n sv os f ft2 fu2 (by decide) hn hsv hos hf) (cwV 0 hts gX3_build_X7_inAlphabet rfl rfl rfl (by decide +kernel) ⟨Nat.le_of_ble_eq_true rfl, Nat.le_of_ble_eq_true rfl⟩) (ah_preV hE hR hS ft2 rfl) rfl rfl hl.1 rfl (lv_room (Nat.le_of_ble_eq_true rfl)) dX3_build_82 ⟨show (2 * (k + 1)) + 0 ≤ 2 * P by omega, show (144 * (k + 1)) + 0 ≤ 144 * P by omega⟩) hS (fun r_13 h_11 H locs p_12 hR hS => ?_)
                obtain ⟨e_14, e_15⟩ := p_12
                rw [e_15] at hR
                refine ah_toi e_14 ?_
                have h01 : (if os = 0 then 1 else 0) < 2 ^ 31 := if10
                refine lv_if_eq (tgt := 108) hx hb dX3_build_85 (by decide) (fun c_16 => ?_) (fun c_16 => ?_)
                · skip
                  have c_16 : (if os = 0 then 1 else 0) = 0 := (zi_eq (by omega)).mp c_16
                  have ho := if10f c_16
                  have hroom := part_pair hsum hP hP0 hk9 ho
                  rw [← ha, hb9] at hroom
                  refine lv_aload_n hx hb dX3_build_108 rfl (lv_at hl 4 rfl) ?_
                  refine ah_get (ci := 2) (v := .ref ra) (C := RX3) (T := TX3) (N := 2) hx hb hE hR hts hinX3 hown fm2 rfl 0 (by decide) k11 (fun _ h9 => h9) rfl dX3_build_109 ?_
                  refine lv_iload hx hb dX3_build_112 (lv_at hl 2 rfl) ?_
                  refine ah_aald (i := k) hx hb hE hR fa2 rfl (by omega) (by omega) dX3_build_114 ?_
                  rw [show rf2 k = some r from hrk]
                  refine lv_aload_n hx hb dX3_build_115 rfl (lv_at hl 5 rfl) ?_
                  refine lv_iload hx hb dX3_build_116 (lv_at hl 3 rfl) ?_
                  refine lv_iload hx hb dX3_build_118 (lv_at hl 0 rfl) ?_
                  refine lv_iload hx hb dX3_build_120 (lv_at hl 1 rfl) ?_
                  refine ah_callv (va_runS (As := [.ref r, .ref t, .int (nI a), .int (nI (stA (endF f n os P) (k + 1))), .int (nI 0)]) (rest := []) ⟨hx, hb, hml, hown, hts⟩ (c_Msg_writePairs l G h2 k r (rb2 k) (z2 k) (g2 k) fr fb hz2 t ua n sv os f ft2 fu2 hn hsv hos hf a (stA (endF f n os P) (k + 1)) 0 hage hbl (by omega) hroom) (va_cwS 5 hts gX3_build_X3_writePairs rfl rfl rfl (by decide +kernel) ⟨Nat.le_of_ble_eq_true rfl, Nat.le_of_ble_eq_true rfl⟩) (ah_preS hE hR hS) rfl rfl hl.1 rfl (lv_room (Nat.le_of_ble_eq_true rfl)) dX3_build_122 ⟨show (2 * (k + 1)) + 0 ≤ 2 * P by omega, show (144 * (k + 1)) + 0 ≤ 144 * P by omega⟩) hS (fun h_17 H locs p_18 hR hS => ?_)
                  have hz9 : pairZ 0 a (stA (endF f n os P) (k + 1)) ≤ 142 := by unfold pairZ; omega
                  have hg9 : ∀ j, (pairG f 0 a (stA (endF f n os P) (k + 1))) j < 256 := pairG_lt hf (by omega) hroom
                  have ok3 : rowsOk G h_17 rf2 rb2 (va_up z2 k (pairZ 0 a (stA (endF f n os P) (k + 1)))) (va_up g2 k (pairG f 0 a (stA (endF f n os P) (k + 1)))) := by rw [p_18]; exact hok2.set (by omega) hrk hz9 hg9
                  have ag3 : agr (fun t => t ≠ 4 ∧ t ≠ 5 ∧ notRow t) h h_17 := by rw [p_18]; exact (hag2.up fr (by omega)).up (ah_keep fb fr (by omega)) (by omega)
                  have f_20 : h_17 m0 = some (4, .inr (2, [.ref ra, .int (nI pc)])) := by rw [p_18]; exact ah_keep (ah_keep fm2 fr (by omega)) (ah_keep fb fr (by omega)) (by omega)
                  have f_21 : h_17 ra = some (5, .inl (G.2.2.1 3, 255, .inr (.inr (.inr (.inr rf2))))) := by rw [p_18]; exact ah_keep (ah_keep fa2 fr (by omega)) (ah_keep fb fr (by omega)) (by omega)
                  have f_22 : h_17 t = some (2, .inr (6, [.ref ua, .int (nI n), .int (nI sv), .int (nI os)])) := by rw [p_18]; exact ah_keep (ah_keep ft2 fr (by omega)) (ah_keep fb fr (by omega)) (by omega)
                  have f_23 : h_17 ua = some (3, .inl (G.2.2.1 0, 3000, .inl (nA f))) := by rw [p_18]; exact ah_keep (ah_keep fu2 fr (by omega)) (ah_keep fb fr (by omega)) (by omega)
                  have f_24 : h_17 r = some (100 + 2 * k, .inr (5, [.ref (rb2 k), .int (nI (pairZ 0 a (stA (endF f n os P) (k + 1))))])) := by rw [p_18]; exact ah_keep (ah_up_s _ _ _) (ah_keep fb fr (by omega)) (by omega)
                  have f_25 : h_17 (rb2 k) = some (101 + 2 * k, .inl (G.2.2.1 0, 142, .inl (nA (pairG f 0 a (stA (endF f n os P) (k + 1)))))) := by rw [p_18]; exact ah_up_s _ _ _
                  have eZ : pairZ 0 a (stA (endF f n os P) (k + 1)) = pZ f n os P k := by unfold pZ; rw [if_neg ho, hb9, ← ha]
                  have eG : pairG f 0 a (stA (endF f n os P) (k + 1)) = pG0 f n os P k := by unfold pG0; rw [if_neg ho, hb9, ← ha]
                  refine lv_iload hx hb dX3_build_125 (lv_at hl 1 rfl) ?_
                  refine lv_if_eq (tgt := 146) hx hb dX3_build_127 (by decide) (fun c_26 => ?_) (fun c_26 => ?_)
                  · skip
                    have dn5 : ∀ j, j < k + 1 → (∃ r, rf2 j = some r) ∧ (va_up z2 k (pairZ 0 a (stA (endF f n os P) (k + 1)))) j = pZ f n os P j ∧ (va_up g2 k (pairG f 0 a (stA (endF f n os P) (k + 1)))) j = pG f n os P ref j := by
                      intro j hj
                      by_cases e9 : j = k
                      · rw [e9, va_up_self, va_up_self]; exact ⟨⟨r, hrk⟩, eZ, show pairG f 0 a (stA (endF f n os P) (k + 1)) = pG f n os P ref k by unfold pG; rw [if_neg h1P]; exact eG⟩
                      · rw [va_up_ne _ _ e9, va_up_ne _ _ e9]; exact hdn2 j (by omega)
                    refine lv_iload hx hb dX3_build_146 (lv_at hl 0 rfl) ?_
                    refine lv_istore (lv' := [(4, .int (nI (stA (endF f n os P) (k + 1)))), (7, .int (nI (stA (endF f n os P) (k + 1)))), (6, .int (nI 0)), (5, .int (nI k)), (0, .ref m0), (1, .ref t), (2, .int (nI P)), (3, .int (nI ref))]) hx hb dX3_build_148 hl (by decide) rfl (fun ls hl => ?_)
                    refine lv_iinc (v := nI (k + 1)) (lv' := [(5, .int (nI (k + 1))), (4, .int (nI (stA (endF f n os P) (k + 1)))), (7, .int (nI (stA (endF f n os P) (k + 1)))), (6, .int (nI 0)), (0, .ref m0), (1, .ref t), (2, .int (nI P)), (3, .int (nI ref))]) hx hb dX3_build_150 hl (k := 3) rfl (show nI k + Int32.ofInt 1 = nI (k + 1) from nI_add _ 1) (by decide) rfl (fun ls hl => ?_)
                    refine lv_goto (tgt := 6) hx hb dX3_build_153 (by decide) ?_
                    exact ih6  (k + 1) (stA (endF f n os P) (k + 1)) rf2 rb2 (va_up z2 k (pairZ 0 a (stA (endF f n os P) (k + 1)))) (va_up g2 k (pairG f 0 a (stA (endF f n os P) (k + 1)))) h_17 _ _ ls (by omega) (by omega) rfl ok3 ag3 dn5 f_20 f_21 f_22 f_23 hR hS (lv_sub hl [0, 1, 4, 5, 6, 7] rfl)
                  · skip
                    exact absurd (by decide) c_26
                · skip
                  have c_16 : ¬ ((if os = 0 then 1 else 0) = 0) := fun z9 => c_16 ((zi_eq (by omega)).mpr z9)
                  have ho := if10t c_16
                  have hroom := part_sev hsum hP hP0 hk9 ho
                  rw [← ha, hb9] at hroom
                  refine lv_aload_n hx hb dX3_build_88 rfl (lv_at hl 4 rfl) ?_
                  refine ah_get (ci := 2) (v := .ref ra) (C := RX3) (T := TX3) (N := 2) hx hb hE hR hts hinX3 hown fm2 rfl 0 (by decide) k11 (fun _ h9 => h9) rfl dX3_build_89 ?_
                  refine lv_iload hx hb dX3_build_92 (lv_at hl 2 rfl) ?_
                  refine ah_aald (i := k) hx hb hE hR fa2 rfl (by omega) (by omega) dX3_build_94 ?_
                  rw [show rf2 k = some r from hrk]
                  refine lv_aload_n hx hb dX3_build_95 rfl (lv_at hl 5 rfl) ?_
                  refine lv_iload hx hb dX3_build_96 (lv_at hl 3 rfl) ?_
                  refine lv_iload hx hb dX3_build_98 (lv_at hl 0 rfl) ?_
                  refine lv_iload hx hb dX3_build_100 (lv_at hl 1 rfl) ?_
                  refine ah_callv (va_runS (As := [.ref r, .ref t, .int (nI a), .int (nI (stA (endF f n os P) (k + 1))), .int (nI 0)]) (rest := []) ⟨hx, hb, hml, hown, hts⟩ (c_Msg_writeSevens l G h2 k r (rb2 k) (z2 k) (g2 k) fr fb hz2 t ua n sv os f ft2 fu2 hn hsv hos hf a (stA (endF f n os P) (k + 1)) 0 hage hbl (by omega) hroom (fun i _ h9 => hin ho i (by omega))) (va_cwS 5 hts gX3_build_X3_writeSevens rfl rfl rfl (by decide +kernel) ⟨Nat.le_of_ble_eq_true rfl, Nat.le_of_ble_eq_true rfl⟩) (ah_preS hE hR hS) rfl rfl hl.1 rfl (lv_room (Nat.le_of_ble_eq_true rfl)) dX3_build_102 ⟨show (2 * (k + 1)) + 0 ≤ 2 * P by omega, show (144 * (k + 1)) + 0 ≤ 144 * P by omega⟩) hS (fun h_27 H locs p_28 hR hS => ?_)
                  have hz9 : sevZ f 0 a (stA (endF f n os P) (k + 1)) ≤ 142 := by unfold sevZ bfs; omega
                  have hg9 : ∀ j, (sevG f 0 a (stA (endF f n os P) (k + 1))) j < 256 := sevG_lt (by omega) hroom
                  have ok3 : rowsOk G h_27 rf2 rb2 (va_up z2 k (sevZ f 0 a (stA (endF f n os P) (k + 1)))) (va_up g2 k (sevG f 0 a (stA (endF f n os P) (k + 1)))) := by rw [p_28]; exact hok2.set (by omega) hrk hz9 hg9
                  have ag3 : agr (fun t => t ≠ 4 ∧ t ≠ 5 ∧ notRow t) h h_27 := by rw [p_28]; exact (hag2.up fr (by omega)).up (ah_keep fb fr (by omega)) (by omega)
                  have f_30 : h_27 m0 = some (4, .inr (2, [.ref ra, .int (nI pc)])) := by rw [p_28]; exact ah_keep (ah_keep fm2 fr (by omega)) (ah_keep fb fr (by omega)) (by omega)
                  have f_31 : h_27 ra = some (5, .inl (G.2.2.1 3, 255, .inr (.inr (.inr (.inr rf2))))) := by rw [p_28]; exact ah_keep (ah_keep fa2 fr (by omega)) (ah_keep fb fr (by omega)) (by omega)
                  have f_32 : h_27 t = some (2, .inr (6, [.ref ua, .int (nI n), .int (nI sv), .int (nI os)])) := by rw [p_28]; exact ah_keep (ah_keep ft2 fr (by omega)) (ah_keep fb fr (by omega)) (by omega)
                  have f_33 : h_27 ua = some (3, .inl (G.2.2.1 0, 3000, .inl (nA f))) := by rw [p_28]; exact ah_keep (ah_keep fu2 fr (by omega)) (ah_keep fb fr (by omega)) (by omega)
                  have f_34 : h_27 r = some (100 + 2 * k, .inr (5, [.ref (rb2 k), .int (nI (sevZ f 0 a (stA (endF f n os P) (k + 1))))])) := by rw [p_28]; exact ah_keep (ah_up_s _ _ _) (ah_keep fb fr (by omega)) (by omega)
                  have f_35 : h_27 (rb2 k) = some (101 + 2 * k, .inl (G.2.2.1 0, 142, .inl (nA (sevG f 0 a (stA (endF f n os P) (k + 1)))))) := by rw [p_28]; exact ah_up_s _ _ _
                  have eZ : sevZ f 0 a (stA (endF f n os P) (k + 1)) = pZ f n os P k := by unfold pZ; rw [if_pos ho, hb9, ← ha]
                  have eG : sevG f 0 a (stA (endF f n os P) (k + 1)) = pG0 f n os P k := by unfold pG0; rw [if_pos ho, hb9, ← ha]
                  refine lv_goto (tgt := 125) hx hb dX3_build_105 (by decide) ?_
                  refine lv_iload hx hb dX3_build_125 (lv_at hl 1 rfl) ?_
                  refine lv_if_eq (tgt := 146) hx hb dX3_build_127 (by decide) (fun c_36 => ?_) (fun c_36 => ?_)
                  · skip
                    have dn5 : ∀ j, j < k + 1 → (∃ r, rf2 j = some r) ∧ (va_up z2 k (sevZ f 0 a (stA (endF f n os P) (k + 1)))) j = pZ f n os P j ∧ (va_up g2 k (sevG f 0 a (stA (endF f n os P) (k + 1)))) j = pG f n os P ref j := by
                      intro j hj
                      by_cases e9 : j = k
                      · rw [e9, va_up_self, va_up_self]; exact ⟨⟨r, hrk⟩, eZ, show sevG f 0 a (stA (endF f n os P) (k + 1)) = pG f n os P ref k by unfold pG; rw [if_neg h1P]; exact eG⟩
                      · rw [va_up_ne _ _ e9, va_up_ne _ _ e9]; exact hdn2 j (by omega)
                    refine lv_iload hx hb dX3_build_146 (lv_at hl 0 rfl) ?_
                    refine lv_istore (lv' := [(4, .int (nI (stA (endF f n os P) (k + 1)))), (7, .int (nI (stA (endF f n os P) (k + 1)))), (6, .int (nI 0)), (5, .int (nI k)), (0, .ref m0), (1, .ref t), (2, .int (nI P)), (3, .int (nI ref))]) hx hb dX3_build_148 hl (by decide) rfl (fun ls hl => ?_)
                    refine lv_iinc (v := nI (k + 1)) (lv' := [(5, .int (nI (k + 1))), (4, .int (nI (stA (endF f n os P) (k + 1)))), (7, .int (nI (stA (endF f n os P) (k + 1)))), (6, .int (nI 0)), (0, .ref m0), (1, .ref t), (2, .int (nI P)), (3, .int (nI ref))]) hx hb dX3_build_150 hl (k := 3) rfl (show nI k + Int32.ofInt 1 = nI (k + 1) from nI_add _ 1) (by decide) rfl (fun ls hl => ?_)
                    refine lv_goto (tgt := 6) hx hb dX3_build_153 (by decide) ?_
                    exact ih6  (k + 1) (stA (endF f n os P) (k + 1)) rf2 rb2 (va_up z2 k (sevZ f 0 a (stA (endF f n os P) (k + 1)))) (va_up g2 k (sevG f 0 a (stA (endF f n os P) (k + 1)))) h_27 _ _ ls (by omega) (by omega) rfl ok3 ag3 dn5 f_30 f_31 f_32 f_33 hR hS (lv_sub hl [0, 1, 4, 5, 6, 7] rfl)
                  · skip
                    exact absurd (by decide) c_36
              · skip
                exact absurd (by decide) c_10
            · skip
              have c_9 : ¬ (P ≤ 1) := fun z9 => c_9 ((nI_leI (by omega) (by omega)).mpr z9)
              have hb9 : hbN P = 1 := if_pos (by omega)
              have h1P : 1 < P := by omega
              refine lv_iconst (v := nI 1) hx hb dX3_build_54 (by decide) ?_
              refine lv_goto (tgt := 59) hx hb dX3_build_55 (by decide) ?_
              refine lv_istore (lv' := [(6, .int (nI 1)), (5, .int (nI k)), (4, .int (nI a)), (0, .ref m0), (1, .ref t), (2, .int (nI P)), (3, .int (nI ref))]) hx hb dX3_build_59 hl (by decide) rfl (fun ls hl => ?_)
              refine lv_iload hx hb dX3_build_61 (lv_at hl 0 rfl) ?_
              refine lv_if_eq (tgt := 75) hx hb dX3_build_63 (by decide) (fun c_37 => ?_) (fun c_37 => ?_)
              · skip
                exact absurd c_37 (by decide)
              · skip
                refine lv_aload_n hx hb dX3_build_66 rfl (lv_at hl 4 rfl) ?_
                refine lv_iload hx hb dX3_build_67 (lv_at hl 2 rfl) ?_
                refine ah_calli (va_runV (As := [.int (nI a)]) (rest := []) ⟨hx, hb, hml, hown, hts⟩ (c_Text_partEnd l G h2 t ua 2 3 n sv os f ft2 fu2 (by decide) hn hsv hos hf a hal) (cwV 1 hts gX3_build_X7_partEnd rfl rfl rfl (by decide +kernel) ⟨Nat.le_of_ble_eq_true rfl, Nat.le_of_ble_eq_true rfl⟩) (ah_preV hE hR hS ft2 rfl) rfl rfl hl.1 rfl (lv_room (Nat.le_of_ble_eq_true rfl)) dX3_build_69 ⟨show (2 * (k + 1)) + 0 ≤ 2 * P by omega, show (144 * (k + 1)) + 0 ≤ 144 * P by omega⟩) hS (fun r_40 h_38 H locs p_39 hR hS => ?_)
                obtain ⟨e_41, e_42⟩ := p_39
                rw [e_42] at hR
                refine ah_toi e_41 ?_
                refine lv_goto (tgt := 79) hx hb dX3_build_72 (by decide) ?_
                refine ah_toi (v := nI (stA (endF f n os P) (k + 1))) (by rw [hst1]; unfold endF; rw [if_pos h1P]) ?_
                refine lv_istore (lv' := [(7, .int (nI (stA (endF f n os P) (k + 1)))), (6, .int (nI 1)), (5, .int (nI k)), (4, .int (nI a)), (0, .ref m0), (1, .ref t), (2, .int (nI P)), (3, .int (nI ref))]) hx hb dX3_build_79 hl (by decide) rfl (fun ls hl => ?_)
                refine lv_aload_n hx hb dX3_build_81 rfl (lv_at hl 5 rfl) ?_
                refine ah_calli (va_runV (As := []) (rest := []) ⟨hx, hb, hml, hown, hts⟩ (c_Text_inAlphabet l G h2 t ua 2 3 n sv os f ft2 fu2 (by decide) hn hsv hos hf) (cwV 0 hts gX3_build_X7_inAlphabet rfl rfl rfl (by decide +kernel) ⟨Nat.le_of_ble_eq_true rfl, Nat.le_of_ble_eq_true rfl⟩) (ah_preV hE hR hS ft2 rfl) rfl rfl hl.1 rfl (lv_room (Nat.le_of_ble_eq_true rfl)) dX3_build_82 ⟨show (2 * (k + 1)) + 0 ≤ 2 * P by omega, show (144 * (k + 1)) + 0 ≤ 144 * P by omega⟩) hS (fun r_45 h_43 H locs p_44 hR hS => ?_)
                obtain ⟨e_46, e_47⟩ := p_44
                rw [e_47] at hR
                refine ah_toi e_46 ?_
                have h01 : (if os = 0 then 1 else 0) < 2 ^ 31 := if10
                refine lv_if_eq (tgt := 108) hx hb dX3_build_85 (by decide) (fun c_48 => ?_) (fun c_48 => ?_)
                · skip
                  have c_48 : (if os = 0 then 1 else 0) = 0 := (zi_eq (by omega)).mp c_48
                  have ho := if10f c_48
                  have hroom := part_pair hsum hP hP0 hk9 ho
                  rw [← ha, hb9] at hroom
                  refine lv_aload_n hx hb dX3_build_108 rfl (lv_at hl 4 rfl) ?_
                  refine ah_get (ci := 2) (v := .ref ra) (C := RX3) (T := TX3) (N := 2) hx hb hE hR hts hinX3 hown fm2 rfl 0 (by decide) k11 (fun _ h9 => h9) rfl dX3_build_109 ?_
                  refine lv_iload hx hb dX3_build_112 (lv_at hl 2 rfl) ?_
                  refine ah_aald (i := k) hx hb hE hR fa2 rfl (by omega) (by omega) dX3_build_114 ?_
                  rw [show rf2 k = some r from hrk]
                  refine lv_aload_n hx hb dX3_build_115 rfl (lv_at hl 5 rfl) ?_
                  refine lv_iload hx hb dX3_build_116 (lv_at hl 3 rfl) ?_
                  refine lv_iload hx hb dX3_build_118 (lv_at hl 0 rfl) ?_
                  refine lv_iload hx hb dX3_build_120 (lv_at hl 1 rfl) ?_
                  refine ah_callv (va_runS (As := [.ref r, .ref t, .int (nI a), .int (nI (stA (endF f n os P) (k + 1))), .int (nI 1)]) (rest := []) ⟨hx, hb, hml, hown, hts⟩ (c_Msg_writePairs l G h2 k r (rb2 k) (z2 k) (g2 k) fr fb hz2 t ua n sv os f ft2 fu2 hn hsv hos hf a (stA (endF f n os P) (k + 1)) 1 hage hbl (by omega) hroom) (va_cwS 5 hts gX3_build_X3_writePairs rfl rfl rfl (by decide +kernel) ⟨Nat.le_of_ble_eq_true rfl, Nat.le_of_ble_eq_true rfl⟩) (ah_preS hE hR hS) rfl rfl hl.1 rfl (lv_room (Nat.le_of_ble_eq_true rfl)) dX3_build_122 ⟨show (2 * (k + 1)) + 0 ≤ 2 * P by omega, show (144 * (k + 1)) + 0 ≤ 144 * P by omega⟩) hS (fun h_49 H locs p_50 hR hS => ?_)
                  have hz9 : pairZ 1 a (stA (endF f n os P) (k + 1)) ≤ 142 := by unfold pairZ; omega
                  have hg9 : ∀ j, (pairG f 1 a (stA (endF f n os P) (k + 1))) j < 256 := pairG_lt hf (by omega) hroom
                  have ok3 : rowsOk G h_49 rf2 rb2 (va_up z2 k (pairZ 1 a (stA (endF f n os P) (k + 1)))) (va_up g2 k (pairG f 1 a (stA (endF f n os P) (k + 1)))) := by rw [p_50]; exact hok2.set (by omega) hrk hz9 hg9
                  have ag3 : agr (fun t => t ≠ 4 ∧ t ≠ 5 ∧ notRow t) h h_49 := by rw [p_50]; exact (hag2.up fr (by omega)).up (ah_keep fb fr (by omega)) (by omega)
                  have f_52 : h_49 m0 = some (4, .inr (2, [.ref ra, .int (nI pc)])) := by rw [p_50]; exact ah_keep (ah_keep fm2 fr (by omega)) (ah_keep fb fr (by omega)) (by omega)
                  have f_53 : h_49 ra = some (5, .inl (G.2.2.1 3, 255, .inr (.inr (.inr (.inr rf2))))) := by rw [p_50]; exact ah_keep (ah_keep fa2 fr (by omega)) (ah_keep fb fr (by omega)) (by omega)
                  have f_54 : h_49 t = some (2, .inr (6, [.ref ua, .int (nI n), .int (nI sv), .int (nI os)])) := by rw [p_50]; exact ah_keep (ah_keep ft2 fr (by omega)) (ah_keep fb fr (by omega)) (by omega)
                  have f_55 : h_49 ua = some (3, .inl (G.2.2.1 0, 3000, .inl (nA f))) := by rw [p_50]; exact ah_keep (ah_keep fu2 fr (by omega)) (ah_keep fb fr (by omega)) (by omega)
                  have f_56 : h_49 r = some (100 + 2 * k, .inr (5, [.ref (rb2 k), .int (nI (pairZ 1 a (stA (endF f n os P) (k + 1))))])) := by rw [p_50]; exact ah_keep (ah_up_s _ _ _) (ah_keep fb fr (by omega)) (by omega)
                  have f_57 : h_49 (rb2 k) = some (101 + 2 * k, .inl (G.2.2.1 0, 142, .inl (nA (pairG f 1 a (stA (endF f n os P) (k + 1)))))) := by rw [p_50]; exact ah_up_s _ _ _
                  have eZ : pairZ 1 a (stA (endF f n os P) (k + 1)) = pZ f n os P k := by unfold pZ; rw [if_neg ho, hb9, ← ha]
                  have eG : pairG f 1 a (stA (endF f n os P) (k + 1)) = pG0 f n os P k := by unfold pG0; rw [if_neg ho, hb9, ← ha]
                  refine lv_iload hx hb dX3_build_125 (lv_at hl 1 rfl) ?_
                  refine lv_if_eq (tgt := 146) hx hb dX3_build_127 (by decide) (fun c_58 => ?_) (fun c_58 => ?_)
                  · skip
                    exact absurd c_58 (by decide)
                  · skip
                    refine lv_aload_n hx hb dX3_build_130 rfl (lv_at hl 4 rfl) ?_
                    refine ah_get (ci := 2) (v := .ref ra) (C := RX3) (T := TX3) (N := 2) hx hb hE hR hts hinX3 hown f_52 rfl 0 (by decide) k11 (fun _ h9 => h9) rfl dX3_build_131 ?_
                    refine lv_iload hx hb dX3_build_134 (lv_at hl 2 rfl) ?_
                    refine ah_aald (i := k) hx hb hE hR f_53 rfl (by omega) (by omega) dX3_build_136 ?_
                    rw [show rf2 k = some r from hrk]
                    refine lv_iload_n hx hb dX3_build_137 rfl (lv_at hl 7 rfl) ?_
                    refine lv_iload_n hx hb dX3_build_138 rfl (lv_at hl 6 rfl) ?_
                    refine lv_iload hx hb dX3_build_139 (lv_at hl 2 rfl) ?_
                    refine lv_iconst (v := nI 1) hx hb dX3_build_141 (by decide) ?_
                    refine lv_iadd hx hb dX3_build_142 ?_
                    refine ah_toi (v := nI (k + 1)) (nI_add _ _) ?_
                    refine ah_callv (va_runS (As := [.ref r, .int (nI ref), .int (nI P), .int (nI (k + 1))]) (rest := []) ⟨hx, hb, hml, hown, hts⟩ (c_Msg_writeHeader l G h_49 k r (rb2 k) (pairZ 1 a (stA (endF f n os P) (k + 1))) (pairG f 1 a (stA (endF f n os P) (k + 1))) f_56 f_57 hz9 ref P (k + 1)) (va_cwS 4 hts gX3_build_X3_writeHeader rfl rfl rfl (by decide +kernel) ⟨Nat.le_of_ble_eq_true rfl, Nat.le_of_ble_eq_true rfl⟩) (ah_preS hE hR hS) rfl rfl hl.1 rfl (lv_room (Nat.le_of_ble_eq_true rfl)) dX3_build_143 ⟨show (2 * (k + 1)) + 0 ≤ 2 * P by omega, show (144 * (k + 1)) + 0 ≤ 144 * P by omega⟩) hS (fun h_59 H locs p_60 hR hS => ?_)
                    have ok4 : rowsOk G h_59 rf2 rb2 (va_up z2 k (pairZ 1 a (stA (endF f n os P) (k + 1)))) (va_up g2 k (hdrG (pairG f 1 a (stA (endF f n os P) (k + 1))) (pairZ 1 a (stA (endF f n os P) (k + 1))) ref P (k + 1))) := by rw [p_60, ← bx_uu g2 k (pairG f 1 a (stA (endF f n os P) (k + 1)))]; exact ok3.setB (by omega) hrk (hdrG_lt hg9 href (by omega) (by omega))
                    have ag4 : agr (fun t => t ≠ 4 ∧ t ≠ 5 ∧ notRow t) h h_59 := by rw [p_60]; exact ag3.up f_57 (by omega)
                    have f_62 : h_59 m0 = some (4, .inr (2, [.ref ra, .int (nI pc)])) := by rw [p_60]; exact ah_keep f_52 f_57 (by omega)
                    have f_63 : h_59 ra = some (5, .inl (G.2.2.1 3, 255, .inr (.inr (.inr (.inr rf2))))) := by rw [p_60]; exact ah_keep f_53 f_57 (by omega)
                    have f_64 : h_59 t = some (2, .inr (6, [.ref ua, .int (nI n), .int (nI sv), .int (nI os)])) := by rw [p_60]; exact ah_keep f_54 f_57 (by omega)
                    have f_65 : h_59 ua = some (3, .inl (G.2.2.1 0, 3000, .inl (nA f))) := by rw [p_60]; exact ah_keep f_55 f_57 (by omega)
                    have f_66 : h_59 r = some (100 + 2 * k, .inr (5, [.ref (rb2 k), .int (nI (pairZ 1 a (stA (endF f n os P) (k + 1))))])) := by rw [p_60]; exact ah_keep f_56 f_57 (by omega)
                    have f_67 : h_59 (rb2 k) = some (101 + 2 * k, .inl (G.2.2.1 0, 142, .inl (nA (hdrG (pairG f 1 a (stA (endF f n os P) (k + 1))) (pairZ 1 a (stA (endF f n os P) (k + 1))) ref P (k + 1))))) := by rw [p_60]; exact ah_up_s _ _ _
                    have dn5 : ∀ j, j < k + 1 → (∃ r, rf2 j = some r) ∧ (va_up z2 k (pairZ 1 a (stA (endF f n os P) (k + 1)))) j = pZ f n os P j ∧ (va_up g2 k (hdrG (pairG f 1 a (stA (endF f n os P) (k + 1))) (pairZ 1 a (stA (endF f n os P) (k + 1))) ref P (k + 1))) j = pG f n os P ref j := by
                      intro j hj
                      by_cases e9 : j = k
                      · rw [e9, va_up_self, va_up_self]; exact ⟨⟨r, hrk⟩, eZ, show hdrG (pairG f 1 a (stA (endF f n os P) (k + 1))) (pairZ 1 a (stA (endF f n os P) (k + 1))) ref P (k + 1) = pG f n os P ref k by unfold pG; rw [if_pos h1P, ← eG, ← eZ]⟩
                      · rw [va_up_ne _ _ e9, va_up_ne _ _ e9]; exact hdn2 j (by omega)
                    refine lv_iload hx hb dX3_build_146 (lv_at hl 0 rfl) ?_
                    refine lv_istore (lv' := [(4, .int (nI (stA (endF f n os P) (k + 1)))), (7, .int (nI (stA (endF f n os P) (k + 1)))), (6, .int (nI 1)), (5, .int (nI k)), (0, .ref m0), (1, .ref t), (2, .int (nI P)), (3, .int (nI ref))]) hx hb dX3_build_148 hl (by decide) rfl (fun ls hl => ?_)
                    refine lv_iinc (v := nI (k + 1)) (lv' := [(5, .int (nI (k + 1))), (4, .int (nI (stA (endF f n os P) (k + 1)))), (7, .int (nI (stA (endF f n os P) (k + 1)))), (6, .int (nI 1)), (0, .ref m0), (1, .ref t), (2, .int (nI P)), (3, .int (nI ref))]) hx hb dX3_build_150 hl (k := 3) rfl (show nI k + Int32.ofInt 1 = nI (k + 1) from nI_add _ 1) (by decide) rfl (fun ls hl => ?_)
                    refine lv_goto (tgt := 6) hx hb dX3_build_153 (by decide) ?_
                    exact ih6  (k + 1) (stA (endF f n os P) (k + 1)) rf2 rb2 (va_up z2 k (pairZ 1 a (stA (endF f n os P) (k + 1)))) (va_up g2 k (hdrG (pairG f 1 a (stA (endF f n os P) (k + 1))) (pairZ 1 a (stA (endF f n os P) (k + 1))) ref P (k + 1))) h_59 _ _ ls (by omega) (by omega) rfl ok4 ag4 dn5 f_62 f_63 f_64 f_65 hR hS (lv_sub hl [0, 1, 4, 5, 6, 7] rfl)
                · skip
                  have c_48 : ¬ ((if os = 0 then 1 else 0) = 0) := fun z9 => c_48 ((zi_eq (by omega)).mpr z9)
                  have ho := if10t c_48
                  have hroom := part_sev hsum hP hP0 hk9 ho
                  rw [← ha, hb9] at hroom
                  refine lv_aload_n hx hb dX3_build_88 rfl (lv_at hl 4 rfl) ?_
                  refine ah_get (ci := 2) (v := .ref ra) (C := RX3) (T := TX3) (N := 2) hx hb hE hR hts hinX3 hown fm2 rfl 0 (by decide) k11 (fun _ h9 => h9) rfl dX3_build_89 ?_
                  refine lv_iload hx hb dX3_build_92 (lv_at hl 2 rfl) ?_
                  refine ah_aald (i := k) hx hb hE hR fa2 rfl (by omega) (by omega) dX3_build_94 ?_
                  rw [show rf2 k = some r from hrk]
                  refine lv_aload_n hx hb dX3_build_95 rfl (lv_at hl 5 rfl) ?_
                  refine lv_iload hx hb dX3_build_96 (lv_at hl 3 rfl) ?_
                  refine lv_iload hx hb dX3_build_98 (lv_at hl 0 rfl) ?_
                  refine lv_iload hx hb dX3_build_100 (lv_at hl 1 rfl) ?_
                  refine ah_callv (va_runS (As := [.ref r, .ref t, .int (nI a), .int (nI (stA (endF f n os P) (k + 1))), .int (nI 1)]) (rest := []) ⟨hx, hb, hml, hown, hts⟩ (c_Msg_writeSevens l G h2 k r (rb2 k) (z2 k) (g2 k) fr fb hz2 t ua n sv os f ft2 fu2 hn hsv hos hf a (stA (endF f n os P) (k + 1)) 1 hage hbl (by omega) hroom (fun i _ h9 => hin ho i (by omega))) (va_cwS 5 hts gX3_build_X3_writeSevens rfl rfl rfl (by decide +kernel) ⟨Nat.le_of_ble_eq_true rfl, Nat.le_of_ble_eq_true rfl⟩) (ah_preS hE hR hS) rfl rfl hl.1 rfl (lv_room (Nat.le_of_ble_eq_true rfl)) dX3_build_102 ⟨show (2 * (k + 1)) + 0 ≤ 2 * P by omega, show (144 * (k + 1)) + 0 ≤ 144 * P by omega⟩) hS (fun h_68 H locs p_69 hR hS => ?_)
                  have hz9 : sevZ f 1 a (stA (endF f n os P) (k + 1)) ≤ 142 := by unfold sevZ bfs; omega
                  have hg9 : ∀ j, (sevG f 1 a (stA (endF f n os P) (k + 1))) j < 256 := sevG_lt (by omega) hroom
                  have ok3 : rowsOk G h_68 rf2 rb2 (va_up z2 k (sevZ f 1 a (stA (endF f n os P) (k + 1)))) (va_up g2 k (sevG f 1 a (stA (endF f n os P) (k + 1)))) := by rw [p_69]; exact hok2.set (by omega) hrk hz9 hg9
                  have ag3 : agr (fun t => t ≠ 4 ∧ t ≠ 5 ∧ notRow t) h h_68 := by rw [p_69]; exact (hag2.up fr (by omega)).up (ah_keep fb fr (by omega)) (by omega)
                  have f_71 : h_68 m0 = some (4, .inr (2, [.ref ra, .int (nI pc)])) := by rw [p_69]; exact ah_keep (ah_keep fm2 fr (by omega)) (ah_keep fb fr (by omega)) (by omega)
                  have f_72 : h_68 ra = some (5, .inl (G.2.2.1 3, 255, .inr (.inr (.inr (.inr rf2))))) := by rw [p_69]; exact ah_keep (ah_keep fa2 fr (by omega)) (ah_keep fb fr (by omega)) (by omega)
                  have f_73 : h_68 t = some (2, .inr (6, [.ref ua, .int (nI n), .int (nI sv), .int (nI os)])) := by rw [p_69]; exact ah_keep (ah_keep ft2 fr (by omega)) (ah_keep fb fr (by omega)) (by omega)
                  have f_74 : h_68 ua = some (3, .inl (G.2.2.1 0, 3000, .inl (nA f))) := by rw [p_69]; exact ah_keep (ah_keep fu2 fr (by omega)) (ah_keep fb fr (by omega)) (by omega)
                  have f_75 : h_68 r = some (100 + 2 * k, .inr (5, [.ref (rb2 k), .int (nI (sevZ f 1 a (stA (endF f n os P) (k + 1))))])) := by rw [p_69]; exact ah_keep (ah_up_s _ _ _) (ah_keep fb fr (by omega)) (by omega)
                  have f_76 : h_68 (rb2 k) = some (101 + 2 * k, .inl (G.2.2.1 0, 142, .inl (nA (sevG f 1 a (stA (endF f n os P) (k + 1)))))) := by rw [p_69]; exact ah_up_s _ _ _
                  have eZ : sevZ f 1 a (stA (endF f n os P) (k + 1)) = pZ f n os P k := by unfold pZ; rw [if_pos ho, hb9, ← ha]
                  have eG : sevG f 1 a (stA (endF f n os P) (k + 1)) = pG0 f n os P k := by unfold pG0; rw [if_pos ho, hb9, ← ha]
                  refine lv_goto (tgt := 125) hx hb dX3_build_105 (by decide) ?_
                  refine lv_iload hx hb dX3_build_125 (lv_at hl 1 rfl) ?_
                  refine lv_if_eq (tgt := 146) hx hb dX3_build_127 (by decide) (fun c_77 => ?_) (fun c_77 => ?_)
                  · skip
                    exact absurd c_77 (by decide)
                  · skip
                    refine lv_aload_n hx hb dX3_build_130 rfl (lv_at hl 4 rfl) ?_
                    refine ah_get (ci := 2) (v := .ref ra) (C := RX3) (T := TX3) (N := 2) hx hb hE hR hts hinX3 hown f_71 rfl 0 (by decide) k11 (fun _ h9 => h9) rfl dX3_build_131 ?_
                    refine lv_iload hx hb dX3_build_134 (lv_at hl 2 rfl) ?_
                    refine ah_aald (i := k) hx hb hE hR f_72 rfl (by omega) (by omega) dX3_build_136 ?_
                    rw [show rf2 k = some r from hrk]
                    refine lv_iload_n hx hb dX3_build_137 rfl (lv_at hl 7 rfl) ?_
                    refine lv_iload_n hx hb dX3_build_138 rfl (lv_at hl 6 rfl) ?_
                    refine lv_iload hx hb dX3_build_139 (lv_at hl 2 rfl) ?_
                    refine lv_iconst (v := nI 1) hx hb dX3_build_141 (by decide) ?_
                    refine lv_iadd hx hb dX3_build_142 ?_
                    refine ah_toi (v := nI (k + 1)) (nI_add _ _) ?_
                    refine ah_callv (va_runS (As := [.ref r, .int (nI ref), .int (nI P), .int (nI (k + 1))]) (rest := []) ⟨hx, hb, hml, hown, hts⟩ (c_Msg_writeHeader l G h_68 k r (rb2 k) (sevZ f 1 a (stA (endF f n os P) (k + 1))) (sevG f 1 a (stA (endF f n os P) (k + 1))) f_75 f_76 hz9 ref P (k + 1)) (va_cwS 4 hts gX3_build_X3_writeHeader rfl rfl rfl (by decide +kernel) ⟨Nat.le_of_ble_eq_true rfl, Nat.le_of_ble_eq_true rfl⟩) (ah_preS hE hR hS) rfl rfl hl.1 rfl (lv_room (Nat.le_of_ble_eq_true rfl)) dX3_build_143 ⟨show (2 * (k + 1)) + 0 ≤ 2 * P by omega, show (144 * (k + 1)) + 0 ≤ 144 * P by omega⟩) hS (fun h_78 H locs p_79 hR hS => ?_)
                    have ok4 : rowsOk G h_78 rf2 rb2 (va_up z2 k (sevZ f 1 a (stA (endF f n os P) (k + 1)))) (va_up g2 k (hdrG (sevG f 1 a (stA (endF f n os P) (k + 1))) (sevZ f 1 a (stA (endF f n os P) (k + 1))) ref P (k + 1))) := by rw [p_79, ← bx_uu g2 k (sevG f 1 a (stA (endF f n os P) (k + 1)))]; exact ok3.setB (by omega) hrk (hdrG_lt hg9 href (by omega) (by omega))
                    have ag4 : agr (fun t => t ≠ 4 ∧ t ≠ 5 ∧ notRow t) h h_78 := by rw [p_79]; exact ag3.up f_76 (by omega)
                    have f_81 : h_78 m0 = some (4, .inr (2, [.ref ra, .int (nI pc)])) := by rw [p_79]; exact ah_keep f_71 f_76 (by omega)
                    have f_82 : h_78 ra = some (5, .inl (G.2.2.1 3, 255, .inr (.inr (.inr (.inr rf2))))) := by rw [p_79]; exact ah_keep f_72 f_76 (by omega)
                    have f_83 : h_78 t = some (2, .inr (6, [.ref ua, .int (nI n), .int (nI sv), .int (nI os)])) := by rw [p_79]; exact ah_keep f_73 f_76 (by omega)
                    have f_84 : h_78 ua = some (3, .inl (G.2.2.1 0, 3000, .inl (nA f))) := by rw [p_79]; exact ah_keep f_74 f_76 (by omega)
                    have f_85 : h_78 r = some (100 + 2 * k, .inr (5, [.ref (rb2 k), .int (nI (sevZ f 1 a (stA (endF f n os P) (k + 1))))])) := by rw [p_79]; exact ah_keep f_75 f_76 (by omega)
                    have f_86 : h_78 (rb2 k) = some (101 + 2 * k, .inl (G.2.2.1 0, 142, .inl (nA (hdrG (sevG f 1 a (stA (endF f n os P) (k + 1))) (sevZ f 1 a (stA (endF f n os P) (k + 1))) ref P (k + 1))))) := by rw [p_79]; exact ah_up_s _ _ _
                    have dn5 : ∀ j, j < k + 1 → (∃ r, rf2 j = some r) ∧ (va_up z2 k (sevZ f 1 a (stA (endF f n os P) (k + 1)))) j = pZ f n os P j ∧ (va_up g2 k (hdrG (sevG f 1 a (stA (endF f n os P) (k + 1))) (sevZ f 1 a (stA (endF f n os P) (k + 1))) ref P (k + 1))) j = pG f n os P ref j := by
                      intro j hj
                      by_cases e9 : j = k
                      · rw [e9, va_up_self, va_up_self]; exact ⟨⟨r, hrk⟩, eZ, show hdrG (sevG f 1 a (stA (endF f n os P) (k + 1))) (sevZ f 1 a (stA (endF f n os P) (k + 1))) ref P (k + 1) = pG f n os P ref k by unfold pG; rw [if_pos h1P, ← eG, ← eZ]⟩
                      · rw [va_up_ne _ _ e9, va_up_ne _ _ e9]; exact hdn2 j (by omega)
                    refine lv_iload hx hb dX3_build_146 (lv_at hl 0 rfl) ?_
                    refine lv_istore (lv' := [(4, .int (nI (stA (endF f n os P) (k + 1)))), (7, .int (nI (stA (endF f n os P) (k + 1)))), (6, .int (nI 1)), (5, .int (nI k)), (0, .ref m0), (1, .ref t), (2, .int (nI P)), (3, .int (nI ref))]) hx hb dX3_build_148 hl (by decide) rfl (fun ls hl => ?_)
                    refine lv_iinc (v := nI (k + 1)) (lv' := [(5, .int (nI (k + 1))), (4, .int (nI (stA (endF f n os P) (k + 1)))), (7, .int (nI (stA (endF f n os P) (k + 1)))), (6, .int (nI 1)), (0, .ref m0), (1, .ref t), (2, .int (nI P)), (3, .int (nI ref))]) hx hb dX3_build_150 hl (k := 3) rfl (show nI k + Int32.ofInt 1 = nI (k + 1) from nI_add _ 1) (by decide) rfl (fun ls hl => ?_)
                    refine lv_goto (tgt := 6) hx hb dX3_build_153 (by decide) ?_
                    exact ih6  (k + 1) (stA (endF f n os P) (k + 1)) rf2 rb2 (va_up z2 k (sevZ f 1 a (stA (endF f n os P) (k + 1)))) (va_up g2 k (hdrG (sevG f 1 a (stA (endF f n os P) (k + 1))) (sevZ f 1 a (stA (endF f n os P) (k + 1))) ref P (k + 1))) h_78 _ _ ls (by omega) (by omega) rfl ok4 ag4 dn5 f_81 f_82 f_83 f_84 hR hS (lv_sub hl [0, 1, 4, 5, 6, 7] rfl)
          refine lv_aload_n hx hb dX3_build_22 rfl (lv_at hl 2 rfl) ?_
          refine ah_get (ci := 2) (v := .ref ra) (C := RX3) (T := TX3) (N := 2) hx hb hE hR hts hinX3 hown fm1 rfl 0 (by decide) k11 (fun _ h9 => h9) rfl dX3_build_23 ?_
          refine lv_iload hx hb dX3_build_26 (lv_at hl 0 rfl) ?_
          refine ah_aald (i := k) hx hb hE hR fa1 rfl (by omega) (by omega) dX3_build_28 ?_
          cases er_87 : rf1 k with
          | none =>
            refine lv_ifnonnullN hx hb dX3_build_29 ?_
            refine lv_aload_n hx hb dX3_build_32 rfl (lv_at hl 2 rfl) ?_
            refine ah_get (ci := 2) (v := .ref ra) (C := RX3) (T := TX3) (N := 2) hx hb hE hR hts hinX3 hown fm1 rfl 0 (by decide) k11 (fun _ h9 => h9) rfl dX3_build_33 ?_
            refine lv_iload hx hb dX3_build_36 (lv_at hl 0 rfl) ?_
            refine ah_newo (ci := 5) (fs := [.null, .int (nI 0)]) (C := RX6) (T := TX6) (N := 2) hx hb hE hR hS (100 + 2 * k) hts hinX6 tyX6 tyX6_ok hown wclassLink_RX3_9_RX6 winstantiable_RX6_2 winitialized_RX6 rfl (fun j hj => by rcases (show j = 0 ∨ j = 1 by omega) with rfl | rfl <;> rfl) (show 2 * k + 1 ≤ 2 * P by omega) (show 144 * k + 2 ≤ 144 * P by omega) dX3_build_38 (fun q_89 H hq_90 hR hS => ?_)
            obtain ⟨h_91, e_92⟩ : ∃ zz9, zz9 = ah_up h1 q_89 (100 + 2 * k, .inr (5, [.null, .int (nI 0)])) := ⟨_, rfl⟩
            have hR : ah_R G h_91 H := by rw [e_92]; exact hR
            have f_93 : h_91 m0 = some (4, .inr (2, [.ref ra, .int (nI pc)])) := by rw [e_92]; exact ah_new fm1 hq_90
            have f_94 : h_91 ra = some (5, .inl (G.2.2.1 3, 255, .inr (.inr (.inr (.inr rf1))))) := by rw [e_92]; exact ah_new fa1 hq_90
            have f_95 : h_91 t = some (2, .inr (6, [.ref ua, .int (nI n), .int (nI sv), .int (nI os)])) := by rw [e_92]; exact ah_new ft1 hq_90
            have f_96 : h_91 ua = some (3, .inl (G.2.2.1 0, 3000, .inl (nA f))) := by rw [e_92]; exact ah_new fu1 hq_90
            have f_97 : h_91 q_89 = some (100 + 2 * k, .inr (5, [.null, .int (nI 0)])) := by rw [e_92]; exact ah_up_s _ _ _
            refine lv_dup hx hb dX3_build_41 rfl ?_
            refine lv_sipush (v := nI 142) hx hb dX3_build_42 (by decide) ?_
            refine ah_callv (va_runI (As := [.int (nI 142)]) (rest := [.ref q_89, .int (nI k), .ref ra]) ⟨hx, hb, hml, hown, hts⟩ (c_Row_init l G h_91 q_89 (100 + 2 * k) (101 + 2 * k) 142 f_97 (by omega) (by decide)) (cwI 1 hts gX3_build_X6_init rfl rfl rfl winitialized_RX6 wmethodLink_RX3_21_yX6_init winstanceMethod_yX6_init rfl (by decide +kernel) ⟨Nat.le_of_ble_eq_true rfl, Nat.le_of_ble_eq_true rfl⟩) (ah_preS hE hR hS) rfl rfl hl.1 rfl (lv_room (Nat.le_of_ble_eq_true rfl)) dX3_build_45 ⟨show 2 * k + 1 + 1 ≤ 2 * P by omega, show 144 * k + 2 + 142 ≤ 144 * P by omega⟩) hS (fun h_98 H locs p_99 hR hS => ?_)
            obtain ⟨q_101, hq_102, e_103⟩ := p_99
            have yA : agr (fun t => 100 ≤ t ∧ t < 610) h1 h_91 := by rw [e_92]; exact agr.rf.upN hq_90
            have yB : agr (fun t => 100 ≤ t ∧ t < 610) h1 h_98 := by rw [e_103]; exact (yA.new hq_102).upN hq_90
            have xA : agr (fun t => t ≠ 4 ∧ t ≠ 5 ∧ notRow t) h h_91 := by rw [e_92]; exact hag1.new hq_90
            have xB : agr (fun t => t ≠ 4 ∧ t ≠ 5 ∧ notRow t) h h_98 := by rw [e_103]; exact (xA.new hq_102).up (ah_new f_97 hq_102) (by omega)
            have f_104 : h_98 m0 = some (4, .inr (2, [.ref ra, .int (nI pc)])) := by rw [e_103]; exact ah_keep (ah_new f_93 hq_102) (ah_new f_97 hq_102) (by omega)
            have f_105 : h_98 ra = some (5, .inl (G.2.2.1 3, 255, .inr (.inr (.inr (.inr rf1))))) := by rw [e_103]; exact ah_keep (ah_new f_94 hq_102) (ah_new f_97 hq_102) (by omega)
            have f_106 : h_98 t = some (2, .inr (6, [.ref ua, .int (nI n), .int (nI sv), .int (nI os)])) := by rw [e_103]; exact ah_keep (ah_new f_95 hq_102) (ah_new f_97 hq_102) (by omega)
            have f_107 : h_98 ua = some (3, .inl (G.2.2.1 0, 3000, .inl (nA f))) := by rw [e_103]; exact ah_keep (ah_new f_96 hq_102) (ah_new f_97 hq_102) (by omega)
            have f_108 : h_98 q_89 = some (100 + 2 * k, .inr (5, [.ref q_101, .int (nI 0)])) := by rw [e_103]; exact ah_up_s _ _ _
            have f_109 : h_98 q_101 = some (101 + 2 * k, .inl (G.2.2.1 0, 142, .inl (nA (fun _ => 0)))) := by rw [e_103]; exact ah_keep (ah_up_s _ _ _) (ah_new f_97 hq_102) (by omega)
            refine ah_aast (i := k) hx hb hE hR hS f_105 rfl f_108 rfl (by omega) (by omega) dX3_build_48 (fun H locs hR hS => ?_)
            obtain ⟨h_110, e_111⟩ : ∃ zz9, zz9 = ah_up h_98 ra (5, .inl (G.2.2.1 3, 255, .inr (.inr (.inr (.inr (va_up rf1 k (some q_89))))))) := ⟨_, rfl⟩
            have hR : ah_R G h_110 H := by rw [e_111]; exact hR
            have f_112 : h_110 m0 = some (4, .inr (2, [.ref ra, .int (nI pc)])) := by rw [e_111]; exact ah_keep f_104 f_105 (by omega)
            have f_113 : h_110 ra = some (5, .inl (G.2.2.1 3, 255, .inr (.inr (.inr (.inr (va_up rf1 k (some q_89))))))) := by rw [e_111]; exact ah_up_s _ _ _
            have f_114 : h_110 t = some (2, .inr (6, [.ref ua, .int (nI n), .int (nI sv), .int (nI os)])) := by rw [e_111]; exact ah_keep f_106 f_105 (by omega)
            have f_115 : h_110 ua = some (3, .inl (G.2.2.1 0, 3000, .inl (nA f))) := by rw [e_111]; exact ah_keep f_107 f_105 (by omega)
            have f_116 : h_110 q_89 = some (100 + 2 * k, .inr (5, [.ref q_101, .int (nI 0)])) := by rw [e_111]; exact ah_keep f_108 f_105 (by omega)
            have f_117 : h_110 q_101 = some (101 + 2 * k, .inl (G.2.2.1 0, 142, .inl (nA (fun _ => 0)))) := by rw [e_111]; exact ah_keep f_109 f_105 (by omega)
            have yC : agr (fun t => 100 ≤ t ∧ t < 610) h1 h_110 := by rw [e_111]; exact yB.up f_105 (by omega)
            have xC : agr (fun t => t ≠ 4 ∧ t ≠ 5 ∧ notRow t) h h_110 := by rw [e_111]; exact xB.up f_105 (by omega)
            refine W.widen (k := 2 * (k + 1)) (n := 144 * (k + 1)) (by omega) (by omega) ?_
            exact J49 (va_up rf1 k (some q_89)) (va_up rb1 k q_101) (va_up z1 k 0) (va_up g1 k (fun _ => 0)) q_89 h_110 _ _ ls (va_up_self _ _ _) (hok1.add yC f_116 f_117) xC (fun j hj => by rw [va_up_ne _ _ (show j ≠ k by omega), va_up_ne _ _ (show j ≠ k by omega), va_up_ne _ _ (show j ≠ k by omega)]; exact hdn1 j hj) f_112 f_113 f_114 f_115 hR hS (lv_sub hl [0, 1, 2, 3, 4, 5] rfl)
          | some rr_88 =>
            refine lv_ifnonnull (tgt := 49) hx hb dX3_build_29 (by decide) ?_
            refine W.widen (k := 2 * (k + 1)) (n := 144 * (k + 1)) (by omega) (by omega) ?_
            exact J49 rf1 rb1 z1 g1 rr_88 h1 _ _ ls er_87 hok1 hag1 hdn1 fm1 fa1 ft1 fu1 hR hS (lv_sub hl [0, 1, 2, 3, 4, 5] rfl)
  exact L6 ((P - 0) + 1) 0 0 rf rb z g h _ _ ls (by omega) (by omega) rfl hok agr.rf (fun j hj => absurd hj (Nat.not_lt_zero j)) fm fa ft fu hR hS (lv_sub hl [0, 1, 2, 3, 4, 5] rfl)
