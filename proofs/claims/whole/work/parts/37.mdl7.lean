/-! ===== TextPartsModel: reads ===== -/
def uqH (c : Nat) (D : Nat → hDt) : Prop := ∀ i j, i < c → j < c → d_s (D i) = d_s (D j) → d_r (D i) = d_r (D j) → d_n (D i) = d_n (D j) → i = j
/-- the latest text in the reference -/
def lrel (x : Nat × (Nat → List Nat)) (lc : Nat) (la : Nat → Nat) : Prop := lc = totU x.2 x.1 ∧ lc ≤ 40800 ∧ ∀ q, q < x.1 → ∀ j, j < (x.2 q).length → la (totU x.2 q + j) = (x.2 q).getD j 0
theorem cpF_s0 (dst : Nat → Nat) (src : Nat → Nat) (k : Nat) : gU (cpF dst 0 src k) k (src k) = cpF dst 0 src (k + 1) := by
  have h := cpF_s dst 0 src k
  rwa [Nat.zero_add] at h
/-- what was found among the first k heaps -/
def fndR (D : Nat → hDt) (s r p k : Nat) (o : Int32) : Prop := (o = -1 ∧ ∀ j, j < k → ¬ isH D s r p j) ∨ ∃ i, i < k ∧ isH D s r p i ∧ o = nI i
theorem fndR_0 {D : Nat → hDt} {s r p : Nat} : fndR D s r p 0 (-1) := Or.inl ⟨rfl, fun j hj => absurd hj (Nat.not_lt_zero j)⟩
theorem fndR_y {D : Nat → hDt} {s r p k : Nat} (h : isH D s r p k) : fndR D s r p (k + 1) (nI k) := Or.inr ⟨k, by omega, h, rfl⟩
theorem fndR_n {D : Nat → hDt} {s r p k : Nat} {o : Int32} (x : fndR D s r p k o) (h : ¬ isH D s r p k) : fndR D s r p (k + 1) o := by
  rcases x with ⟨a, b⟩ | ⟨i, a, b, d⟩
  · exact Or.inl ⟨a, isH_step b h⟩
  · exact Or.inr ⟨i, by omega, b, d⟩
theorem DB.drp1 {c k : Nat} {D : Nat → hDt} (x : DB c D) (hk : k < c) : DB (c - 1) (shf D k) := by
  intro i hi
  by_cases h : i < k
  · rw [show shf D k i = D i from if_pos h]; exact x i (by omega)
  · rw [show shf D k i = D (i + 1) from if_neg h]; exact x (i + 1) (by omega)
theorem DB.ev {c : Nat} {D : Nat → hDt} (x : DB c D) (hc : c ≤ 16) : DB (evc c D).1 (evc c D).2 := by
  unfold evc
  by_cases h : c = 16
  · rw [if_pos h]
    subst h
    exact x.drp1 (luR_lt _ _ _ (by decide) (by decide))
  · rw [if_neg h]; exact x
theorem cntS_0 : ∀ n, cntS (fun _ => none) n = 0
  | 0 => rfl
  | n + 1 => by show cntS _ n + 0 = 0; rw [cntS_0 n]
theorem DB.push {c s r p : Nat} {D : Nat → hDt} {d : hDt} (x : DB c D) (hd : freshH s r p d) (hs : s ≤ 999) (hr : r < 256) (hp1 : 1 ≤ p) (hp : p ≤ 255) : DB (c + 1) (va_up D c d) := by
  obtain ⟨d1, d2, d3, d4, d5, d6, d7⟩ := hd
  intro i hi
  by_cases q : i = c
  · rw [q, va_up_self, d1, d2, d3, d4, d6, d7]
    exact ⟨hs, hr, hp1, hp, by omega, by decide, (cntS_0 p).symm, fun k _ L hL => (nomatch hL)⟩
  · rw [va_up_ne _ _ q]; exact x i (by omega)
theorem shf_up {D : Nat → hDt} {k : Nat} {d : hDt} : shf (va_up D k d) k = shf D k := by
  funext i; unfold shf
  by_cases h : i < k
  · rw [if_pos h, if_pos h, va_up_ne _ _ (by omega)]
  · rw [if_neg h, if_neg h, va_up_ne _ _ (by omega)]
theorem totU_le {Ls : Nat → List Nat} : ∀ p, (∀ q, q < p → (Ls q).length ≤ 160) → totU Ls p ≤ 160 * p
  | 0, _ => Nat.le_refl 0
  | p + 1, h => by
    have h1 := totU_le p (fun q hq => h q (by omega))
    have h2 := h p (by omega)
    show totU Ls p + (Ls p).length ≤ 160 * (p + 1)
    omega
theorem totU_mono {Ls : Nat → List Nat} : ∀ m q, q < m → totU Ls q + (Ls q).length ≤ totU Ls m
  | 0, q, h => absurd h (Nat.not_lt_zero q)
  | m + 1, q, h => by
    show _ ≤ totU Ls m + (Ls m).length
    by_cases e : q = m
    · rw [e]; exact Nat.le_refl _
    · have := totU_mono (Ls := Ls) m q (by omega); omega
/-- one more part copied behind -/
theorem lat_s {Ls : Nat → List Nat} {p : Nat} {la src : Nat → Nat} (h : ∀ q, q < p → ∀ j, j < (Ls q).length → la (totU Ls q + j) = (Ls q).getD j 0) (hs : ∀ j, j < (Ls p).length → src j = (Ls p).getD j 0) :
    ∀ q, q < p + 1 → ∀ j, j < (Ls q).length → cpF la (totU Ls p) src (Ls p).length (totU Ls q + j) = (Ls q).getD j 0 := by
  intro q hq j hj
  by_cases e : q = p
  · subst e; rw [cpF_in hj]; exact hs j hj
  · have := totU_mono (Ls := Ls) p q (by omega)
    rw [cpF_out (by omega)]; exact h q (by omega) j hj
theorem HR.hit {c k s r p : Nat} {D : Nat → hDt} {mp sd rc pr th sm : Nat → Nat} {pc : Nat → Int32} {pu : Nat → Nat} {e : Nat} (x : HR c D mp sd rc pr th sm pc pu e) (hk : k < c) : isH D s r p k ↔ sd k = s ∧ rc k = r ∧ pr k = p := by
  obtain ⟨-, a, b, d, -⟩ := x.1 k hk
  unfold isH; rw [a, b, d]
theorem HR.exc {c : Nat} {D : Nat → hDt} {mp sd rc pr th sm : Nat → Nat} {pc : Nat → Int32} {pu : Nat → Nat} {e e2 : Nat} (x : HR c D mp sd rc pr th sm pc pu e) (h1 : c ≤ e) (h2 : c ≤ e2) : HR c D mp sd rc pr th sm pc pu e2 :=
  ⟨fun i hi => by obtain ⟨a, b, c9, d, f, g, p⟩ := x.1 i hi; exact ⟨a, b, c9, d, f, fun _ => g (by omega), p⟩, x.2⟩

set_option maxHeartbeats 4000000 in
set_option maxRecDepth 100000 in
theorem c_m_reads (l : Launch) (G : ah_G) (h : ah_H) (y : Nat) (A : Nat → Nat) (k0 n rf pm zh lc c pt gv un : Nat) (fy : h y = some (20, .inr (8, mF A k0 n rf pm zh lc c pt gv un))) (fa1 : h (A 1) = some (21, .inl (G.2.2.1 0, 128, .inl plT))) (fa2 : h (A 2) = some (22, .inl (G.2.2.1 0, 128, .inl esT))) (la : Nat → Nat) (fa12 : h (A 12) = some (32, .inl (G.2.2.1 0, 40800, .inl (nA la)))) (mp : Nat → Nat) (fa14 : h (A 14) = some (34, .inl (G.2.2.1 0, 16, .inl (nA mp)))) (sd : Nat → Nat) (fa15 : h (A 15) = some (35, .inl (G.2.2.1 0, 16, .inl (nA sd)))) (rc : Nat → Nat) (fa16 : h (A 16) = some (36, .inl (G.2.2.1 0, 16, .inl (nA rc)))) (pr : Nat → Nat) (fa17 : h (A 17) = some (37, .inl (G.2.2.1 0, 16, .inl (nA pr)))) (th : Nat → Nat) (fa18 : h (A 18) = some (38, .inl (G.2.2.1 0, 16, .inl (nA th)))) (sm : Nat → Nat) (fa19 : h (A 19) = some (39, .inl (G.2.2.1 0, 16, .inl (nA sm)))) (pc : Nat → Int32) (fa21 : h (A 21) = some (41, .inl (G.2.2.1 0, 4080, .inl pc))) (pu : Nat → Nat) (fa22 : h (A 22) = some (42, .inl (G.2.2.1 0, 652800, .inl (nA pu)))) (pa : Nat → Nat) (fa24 : h (A 24) = some (44, .inl (G.2.2.1 0, 200, .inl (nA pa)))) (ua : Nat → Nat) (fa26 : h (A 26) = some (46, .inl (G.2.2.1 0, 200, .inl (nA ua)))) (hpa : ∀ j, pa j < 256) (hgv : gv ≤ 200) (hc : c ≤ 16) (D : Nat → hDt) (hHR : HR c D mp sd rc pr th sm pc pu c) (hDB : DB c D) (huq : uqH c D) (hpt : pt < 2 ^ 19) (s9 : Nat) (hs9 : s9 ≤ 999) : Met l yX9_reads wsX9_reads ({ frames := 3, cells := 0, slots := 0, locals := 73 }) (ah_Pc G [.ref y, .int (nI s9)] h) (ah_Qi G (fun v h' => ∃ (c' pt' lc' un' : Nat) (D' : Nat → hDt) (lt : Option (Nat × (Nat → List Nat))) (la' mp' sd' rc' pr' th' sm' : Nat → Nat) (pc' : Nat → Int32) (pu' ua' : Nat → Nat), accR c pt D pa gv s9 v c' pt' D' lt ∧ HR c' D' mp' sd' rc' pr' th' sm' pc' pu' c' ∧ (lt = none → lc' = lc ∧ la' = la) ∧ (∀ x, lt = some x → lrel x lc' la') ∧ h' y = some (20, .inr (8, mF A k0 n rf pm zh lc' c' pt' gv un')) ∧ h' (A 12) = some (32, .inl (G.2.2.1 0, 40800, .inl (nA la'))) ∧ h' (A 14) = some (34, .inl (G.2.2.1 0, 16, .inl (nA mp'))) ∧ h' (A 15) = some (35, .inl (G.2.2.1 0, 16, .inl (nA sd'))) ∧ h' (A 16) = some (36, .inl (G.2.2.1 0, 16, .inl (nA rc'))) ∧ h' (A 17) = some (37, .inl (G.2.2.1 0, 16, .inl (nA pr'))) ∧ h' (A 18) = some (38, .inl (G.2.2.1 0, 16, .inl (nA th'))) ∧ h' (A 19) = some (39, .inl (G.2.2.1 0, 16, .inl (nA sm'))) ∧ h' (A 21) = some (41, .inl (G.2.2.1 0, 4080, .inl pc')) ∧ h' (A 22) = some (42, .inl (G.2.2.1 0, 652800, .inl (nA pu'))) ∧ h' (A 26) = some (46, .inl (G.2.2.1 0, 200, .inl (nA ua'))) ∧ agr (fun t => t ≠ 20 ∧ t ≠ 32 ∧ ¬ (34 ≤ t ∧ t ≤ 39) ∧ t ≠ 41 ∧ t ≠ 42 ∧ t ≠ 46) h h')) 0 0 (ah_A G) := by
  refine ah_ofW (cc := cX9_reads) (maxL := 8) (ret := (some .int)) (by decide) rfl (Nat.le_of_ble_eq_true rfl) ?_
  intro p e s m below meth cd9 ls hx hb hr hml hown hlocks hname hts hE hR hS hl
  have hown : s.vm.findClass RX9 = some m.cls := hown
  have hl : lv_has ls 8 [(0, .ref y), (1, .int (nI s9))] := hl
  have k58 := hts (.fieldLink RX9 58 "TextPartsModel" "part" "[I") (by decide +kernel)
  have hinX9 : ∀ w ∈ wsX90, w ∈ wsX9_reads := by decide +kernel
  have k33 := hts (.fieldLink RX9 33 "TextPartsModel" "heapPlace" "[I") (by decide +kernel)
  have k51 := hts (.fieldLink RX9 51 "TextPartsModel" "partCount" "[I") (by decide +kernel)
  have k129 := hts (.fieldLink RX9 129 "TextPartsModel" "units" "I") (by decide +kernel)
  have k45 := hts (.fieldLink RX9 45 "TextPartsModel" "heapThere" "[I") (by decide +kernel)
  have k149 := hts (.fieldLink RX9 149 "TextPartsModel" "stamps" "I") (by decide +kernel)
  have k48 := hts (.fieldLink RX9 48 "TextPartsModel" "heapStamp" "[I") (by decide +kernel)
  have k42 := hts (.fieldLink RX9 42 "TextPartsModel" "heapParts" "[I") (by decide +kernel)
  have k110 := hts (.fieldLink RX9 110 "TextPartsModel" "latestCount" "I") (by decide +kernel)
  have k30 := hts (.fieldLink RX9 30 "TextPartsModel" "latest" "[I") (by decide +kernel)
  have k55 := hts (.fieldLink RX9 55 "TextPartsModel" "partUnits" "[I") (by decide +kernel)
  have k61 := hts (.fieldLink RX9 61 "TextPartsModel" "unit" "[I") (by decide +kernel)
  have k107 := hts (.fieldLink RX9 107 "TextPartsModel" "heaps" "I") (by decide +kernel)
  have k36 := hts (.fieldLink RX9 36 "TextPartsModel" "heapSender" "[I") (by decide +kernel)
  have k39 := hts (.fieldLink RX9 39 "TextPartsModel" "heapReference" "[I") (by decide +kernel)
  have hfl := fault_le pa gv
  have hp0 := hpa 0; have hp5 := hpa 5; have hp6 := hpa 6; have hp7 := hpa 7
  refine lv_aload_n hx hb dX9_reads_0 rfl (lv_at hl 0 rfl) ?_
  refine ah_calli (va_runV (As := []) (rest := []) ⟨hx, hb, hml, hown, hts⟩ (c_m_fault l G h y A k0 n rf pm zh lc c pt gv un fy fa1 fa2 pa fa24 ua fa26 hpa hgv) (cwV 0 hts gX9_reads_X9_fault rfl rfl rfl (by decide +kernel) ⟨Nat.le_of_ble_eq_true rfl, Nat.le_of_ble_eq_true rfl⟩) (ah_preV hE hR hS fy rfl) rfl rfl hl.1 rfl (lv_room (Nat.le_of_ble_eq_true rfl)) dX9_reads_1 ⟨Nat.le_of_ble_eq_true rfl, Nat.le_of_ble_eq_true rfl⟩) hS (fun r_3 h_1 H locs p_2 hR hS => ?_)
  obtain ⟨ev9, hn9, hz9⟩ := p_2
  by_cases hf0 : fault pa gv = 0
  · skip
    obtain ⟨u2, fy2, fa262, ag2, hu2⟩ := hz9 hf0
    obtain ⟨L, eL⟩ : ∃ L9, L9 = unitsL pa gv := ⟨_, rfl⟩
    rw [← eL] at fy2 hu2
    have hLl : L.length ≤ 160 := by rw [eL]; exact unitsL_len (fault_sz hf0).2
    have q21 : h_1 (A 1) = some (21, .inl (G.2.2.1 0, 128, .inl plT)) := ag2 _ _ _ (by omega) fa1
    have q22 : h_1 (A 2) = some (22, .inl (G.2.2.1 0, 128, .inl esT)) := ag2 _ _ _ (by omega) fa2
    have q212 : h_1 (A 12) = some (32, .inl (G.2.2.1 0, 40800, .inl (nA la))) := ag2 _ _ _ (by omega) fa12
    have q214 : h_1 (A 14) = some (34, .inl (G.2.2.1 0, 16, .inl (nA mp))) := ag2 _ _ _ (by omega) fa14
    have q215 : h_1 (A 15) = some (35, .inl (G.2.2.1 0, 16, .inl (nA sd))) := ag2 _ _ _ (by omega) fa15
    have q216 : h_1 (A 16) = some (36, .inl (G.2.2.1 0, 16, .inl (nA rc))) := ag2 _ _ _ (by omega) fa16
    have q217 : h_1 (A 17) = some (37, .inl (G.2.2.1 0, 16, .inl (nA pr))) := ag2 _ _ _ (by omega) fa17
    have q218 : h_1 (A 18) = some (38, .inl (G.2.2.1 0, 16, .inl (nA th))) := ag2 _ _ _ (by omega) fa18
    have q219 : h_1 (A 19) = some (39, .inl (G.2.2.1 0, 16, .inl (nA sm))) := ag2 _ _ _ (by omega) fa19
    have q221 : h_1 (A 21) = some (41, .inl (G.2.2.1 0, 4080, .inl pc)) := ag2 _ _ _ (by omega) fa21
    have q222 : h_1 (A 22) = some (42, .inl (G.2.2.1 0, 652800, .inl (nA pu))) := ag2 _ _ _ (by omega) fa22
    have q224 : h_1 (A 24) = some (44, .inl (G.2.2.1 0, 200, .inl (nA pa))) := ag2 _ _ _ (by omega) fa24
    refine ah_toi (v := nI 0) (by rw [ev9, hf0]) ?_
    refine lv_istore_n (lv' := [(2, .int (nI 0)), (0, .ref y), (1, .int (nI s9))]) hx hb dX9_reads_4 rfl hl (by decide) rfl (fun ls hl => ?_)
    refine lv_iload_n hx hb dX9_reads_5 rfl (lv_at hl 0 rfl) ?_
    refine lv_if_le (tgt := 12) hx hb dX9_reads_6 (by decide) (fun c_4 => ?_) (fun c_4 => ?_)
    · skip
      refine lv_aload_n hx hb dX9_reads_12 rfl (lv_at hl 1 rfl) ?_
      refine ah_get (ci := 8) (v := .ref (A 24)) (C := RX9) (T := TX9) (N := 27) hx hb hE hR hts hinX9 hown fy2 rfl 24 (by decide) k58 (fun _ h9 => h9) rfl dX9_reads_13 ?_
      refine lv_iconst (v := nI 0) hx hb dX9_reads_16 (by decide) ?_
      refine ah_iald (i := 0) hx hb hE hR q224 (by omega) (by omega) dX9_reads_17 ?_
      refine ah_toi (v := nI (pa 0)) rfl ?_
      refine lv_iconst (v := nI 1) hx hb dX9_reads_18 (by decide) ?_
      refine lv_iand hx hb dX9_reads_19 ?_
      refine ah_toi (v := nI (pa 0 % 2)) (ny_a1 _) ?_
      refine lv_if_ne (tgt := 61) hx hb dX9_reads_20 (by decide) (fun c_5 => ?_) (fun c_5 => ?_)
      · skip
        have c_5 : ¬ ((pa 0 % 2) = 0) := fun z9 => c_5 ((zi_eq (by omega)).mpr z9)
        have hd1 : pa 0 % 2 = 1 := by omega
        have hhb : ¬ hdrBad pa := fun q => (fault_0 hf0).2.2.2 ⟨by omega, Or.inr q⟩
        unfold hdrBad at hhb
        have J160 : ∀ (c1 : Nat) (p9 : Nat) (e1 : Nat) (D1 : Nat → hDt) (mp1 : Nat → Nat) (sd1 : Nat → Nat) (rc1 : Nat → Nat) (pr1 : Nat → Nat) (th1 : Nat → Nat) (sm1 : Nat → Nat) (pc1 : Nat → Int32) (h4 : ah_H) (H : Heap) (locs : List Loc) (ls : Array Slot), (selR c D s9 (pa 5) (pa 6) c1 p9 D1) → (HR c1 D1 mp1 sd1 rc1 pr1 th1 sm1 pc1 pu e1) → (c1 ≤ e1 ∨ (e1 = p9 ∧ ∀ k, d_L (D1 p9) k = none)) → (DB c1 D1) → (p9 < c1) → (d_n (D1 p9) = pa 6) → (c1 ≤ 16) → (agr (fun t => t ≠ 20 ∧ t ≠ 32 ∧ ¬ (34 ≤ t ∧ t ≤ 39) ∧ t ≠ 41 ∧ t ≠ 42 ∧ t ≠ 46) h h4) → (h4 y = some (20, .inr (8, mF A k0 n rf pm zh lc c1 pt gv L.length))) → (h4 (A 1) = some (21, .inl (G.2.2.1 0, 128, .inl plT))) → (h4 (A 2) = some (22, .inl (G.2.2.1 0, 128, .inl esT))) → (h4 (A 12) = some (32, .inl (G.2.2.1 0, 40800, .inl (nA la)))) → (h4 (A 14) = some (34, .inl (G.2.2.1 0, 16, .inl (nA mp1)))) → (h4 (A 15) = some (35, .inl (G.2.2.1 0, 16, .inl (nA sd1)))) → (h4 (A 16) = some (36, .inl (G.2.2.1 0, 16, .inl (nA rc1)))) → (h4 (A 17) = some (37, .inl (G.2.2.1 0, 16, .inl (nA pr1)))) → (h4 (A 18) = some (38, .inl (G.2.2.1 0, 16, .inl (nA th1)))) → (h4 (A 19) = some (39, .inl (G.2.2.1 0, 16, .inl (nA sm1)))) → (h4 (A 21) = some (41, .inl (G.2.2.1 0, 4080, .inl pc1))) → (h4 (A 22) = some (42, .inl (G.2.2.1 0, 652800, .inl (nA pu)))) → (h4 (A 24) = some (44, .inl (G.2.2.1 0, 200, .inl (nA pa)))) → (h4 (A 26) = some (46, .inl (G.2.2.1 0, 200, .inl (nA u2)))) → ah_R G h4 H → va_S (ah_A G) s.heap H locs → lv_has ls 8 [(3, .int (nI p9)), (0, .ref y), (1, .int (nI s9))] → W p l e ({ frames := 3, cells := 0, slots := 0, locals := 73 }) s m ([.ref y, .int (nI s9)] : List Value).toArray below meth cd9 H locs 0 0 (MQ below (ah_Qi G (fun v h' => ∃ (c' pt' lc' un' : Nat) (D' : Nat → hDt) (lt : Option (Nat × (Nat → List Nat))) (la' mp' sd' rc' pr' th' sm' : Nat → Nat) (pc' : Nat → Int32) (pu' ua' : Nat → Nat), accR c pt D pa gv s9 v c' pt' D' lt ∧ HR c' D' mp' sd' rc' pr' th' sm' pc' pu' c' ∧ (lt = none → lc' = lc ∧ la' = la) ∧ (∀ x, lt = some x → lrel x lc' la') ∧ h' y = some (20, .inr (8, mF A k0 n rf pm zh lc' c' pt' gv un')) ∧ h' (A 12) = some (32, .inl (G.2.2.1 0, 40800, .inl (nA la'))) ∧ h' (A 14) = some (34, .inl (G.2.2.1 0, 16, .inl (nA mp'))) ∧ h' (A 15) = some (35, .inl (G.2.2.1 0, 16, .inl (nA sd'))) ∧ h' (A 16) = some (36, .inl (G.2.2.1 0, 16, .inl (nA rc'))) ∧ h' (A 17) = some (37, .inl (G.2.2.1 0, 16, .inl (nA pr'))) ∧ h' (A 18) = some (38, .inl (G.2.2.1 0, 16, .inl (nA th'))) ∧ h' (A 19) = some (39, .inl (G.2.2.1 0, 16, .inl (nA sm'))) ∧ h' (A 21) = some (41, .inl (G.2.2.1 0, 4080, .inl pc')) ∧ h' (A 22) = some (42, .inl (G.2.2.1 0, 652800, .inl (nA pu'))) ∧ h' (A 26) = some (46, .inl (G.2.2.1 0, 200, .inl (nA ua'))) ∧ agr (fun t => t ≠ 20 ∧ t ≠ 32 ∧ ¬ (34 ≤ t ∧ t ≤ 39) ∧ t ≠ 41 ∧ t ≠ 42 ∧ t ≠ 46) h h')) ([.ref y, .int (nI s9)] : List Value).toArray s 0 0 (ah_A G)) (F0 m 160 ls []) := by
          intro c1 p9 e1 D1 mp1 sd1 rc1 pr1 th1 sm1 pc1 h4 H locs ls sel1 hr1 he1 db1 hp9 hn1 hc1 ag4 fy4 fa14 fa24 fa124 fa144 fa154 fa164 fa174 fa184 fa194 fa214 fa224 fa244 fa264 hR hS hl
          obtain ⟨k1, k2, k3, k4, k5, k6, k7⟩ := hr1.1 p9 hp9
          obtain ⟨b1, b2, b3, b4, b5, b6, b7, b8⟩ := db1 p9 hp9
          have hcell := k7 (pa 7 - 1) (by omega)
          refine lv_sipush (v := nI 255) hx hb dX9_reads_160 (by decide) ?_
          refine lv_aload_n hx hb dX9_reads_163 rfl (lv_at hl 1 rfl) ?_
          refine ah_get (ci := 8) (v := .ref (A 14)) (C := RX9) (T := TX9) (N := 27) hx hb hE hR hts hinX9 hown fy4 rfl 14 (by decide) k33 (fun _ h9 => h9) rfl dX9_reads_164 ?_
          refine lv_iload_n hx hb dX9_reads_167 rfl (lv_at hl 0 rfl) ?_
          refine ah_iald (i := p9) hx hb hE hR fa144 (by omega) (by omega) dX9_reads_168 ?_
          refine ah_toi (v := nI (mp1 p9)) rfl ?_
          refine lv_imul hx hb dX9_reads_169 ?_
          refine ah_toi (v := nI (255 * (mp1 p9))) (pk_mul _ _) ?_
          refine lv_aload_n hx hb dX9_reads_170 rfl (lv_at hl 1 rfl) ?_
          refine ah_get (ci := 8) (v := .ref (A 24)) (C := RX9) (T := TX9) (N := 27) hx hb hE hR hts hinX9 hown fy4 rfl 24 (by decide) k58 (fun _ h9 => h9) rfl dX9_reads_171 ?_
          refine lv_bipush (v := nI 7) hx hb dX9_reads_174 (by decide) ?_
          refine ah_iald (i := 7) hx hb hE hR fa244 (by omega) (by omega) dX9_reads_176 ?_
          refine ah_toi (v := nI (pa 7)) rfl ?_
          refine lv_iadd hx hb dX9_reads_177 ?_
          refine ah_toi (v := nI ((255 * (mp1 p9)) + (pa 7))) (nI_add _ _) ?_
          refine lv_iconst (v := nI 1) hx hb dX9_reads_178 (by decide) ?_
          refine lv_isub hx hb dX9_reads_179 ?_
          refine ah_toi (v := nI (255 * mp1 p9 + (pa 7 - 1))) (by rw [pk_sub (by omega)]; congr 1; omega) ?_
          refine lv_istore (lv' := [(4, .int (nI (255 * mp1 p9 + (pa 7 - 1)))), (3, .int (nI p9)), (0, .ref y), (1, .int (nI s9))]) hx hb dX9_reads_180 hl (by decide) rfl (fun ls hl => ?_)
          cases eo9 : d_L (D1 p9) (pa 7 - 1) with
          | some M =>
            rw [eo9] at hcell
            obtain ⟨hc1a, hc1b⟩ := hcell
            have hML := b8 (pa 7 - 1) (by omega) M eo9
            refine lv_aload_n hx hb dX9_reads_182 rfl (lv_at hl 2 rfl) ?_
            refine ah_get (ci := 8) (v := .ref (A 21)) (C := RX9) (T := TX9) (N := 27) hx hb hE hR hts hinX9 hown fy4 rfl 21 (by decide) k51 (fun _ h9 => h9) rfl dX9_reads_183 ?_
            refine lv_iload hx hb dX9_reads_186 (lv_at hl 0 rfl) ?_
            refine ah_iald (i := (255 * mp1 p9 + (pa 7 - 1))) hx hb hE hR fa214 (by omega) (by omega) dX9_reads_188 ?_
            refine lv_iconst (v := (-1)) hx hb dX9_reads_189 (by decide) ?_
            refine lv_icmp_eq (tgt := 195) hx hb dX9_reads_190 (by decide) (fun c_6 => ?_) (fun c_6 => ?_)
            · skip
              exact absurd (hc1a.symm.trans c_6) (zi_ne (by omega))
            · skip
              refine lv_iconst (v := nI 0) hx hb dX9_reads_193 (by decide) ?_
              refine ah_iret (v := nI 0) hx hb hr hlocks hR hS dX9_reads_194 ?_
              exact ⟨c1, pt, lc, L.length, D1, none, la, mp1, sd1, rc1, pr1, th1, sm1, pc1, pu, u2, Or.inr (Or.inr ⟨hf0, hd1, 0, rfl, c1, p9, D1, sel1, Or.inl ⟨⟨M, eo9⟩, rfl, rfl, rfl, rfl, rfl⟩⟩), (he1.elim (fun z => hr1.exc z (Nat.le_refl _)) (fun z => absurd (eo9.symm.trans (z.2 _)) (fun q9 => (nomatch q9)))), fun _ => ⟨rfl, rfl⟩, fun _ q9 => (nomatch q9), fy4, fa124, fa144, fa154, fa164, fa174, fa184, fa194, fa214, fa224, fa264, ag4⟩
          | none =>
            rw [eo9] at hcell
            have hc1a : pc1 (255 * mp1 p9 + (pa 7 - 1)) = -1 := hcell
            refine lv_aload_n hx hb dX9_reads_182 rfl (lv_at hl 2 rfl) ?_
            refine ah_get (ci := 8) (v := .ref (A 21)) (C := RX9) (T := TX9) (N := 27) hx hb hE hR hts hinX9 hown fy4 rfl 21 (by decide) k51 (fun _ h9 => h9) rfl dX9_reads_183 ?_
            refine lv_iload hx hb dX9_reads_186 (lv_at hl 0 rfl) ?_
            refine ah_iald (i := (255 * mp1 p9 + (pa 7 - 1))) hx hb hE hR fa214 (by omega) (by omega) dX9_reads_188 ?_
            refine lv_iconst (v := (-1)) hx hb dX9_reads_189 (by decide) ?_
            refine lv_icmp_eq (tgt := 195) hx hb dX9_reads_190 (by decide) (fun c_7 => ?_) (fun c_7 => ?_)
            · skip
              refine lv_aload_n hx hb dX9_reads_195 rfl (lv_at hl 2 rfl) ?_
              refine ah_get (ci := 8) (v := .ref (A 21)) (C := RX9) (T := TX9) (N := 27) hx hb hE hR hts hinX9 hown fy4 rfl 21 (by decide) k51 (fun _ h9 => h9) rfl dX9_reads_196 ?_
              refine lv_iload hx hb dX9_reads_199 (lv_at hl 0 rfl) ?_
              refine lv_aload_n hx hb dX9_reads_201 rfl (lv_at hl 2 rfl) ?_
              refine ah_get (ci := 8) (v := .int (nI L.length)) (C := RX9) (T := TX9) (N := 27) hx hb hE hR hts hinX9 hown fy4 rfl 25 (by decide) k129 (fun _ h9 => h9) rfl dX9_reads_202 ?_
              refine ah_iast (i := (255 * mp1 p9 + (pa 7 - 1))) hx hb hE hR hS fa214 (by omega) (by omega) dX9_reads_205 (fun H locs hR hS => ?_)
              obtain ⟨h_8, e_9⟩ : ∃ zz9, zz9 = ah_up h4 (A 21) (41, .inl (G.2.2.1 0, 4080, .inl (upd pc1 (255 * mp1 p9 + (pa 7 - 1)) (nI L.length)))) := ⟨_, rfl⟩
              have hR : ah_R G h_8 H := by rw [e_9]; exact hR
              have f_10 : h_8 y = some (20, .inr (8, mF A k0 n rf pm zh lc c1 pt gv L.length)) := by rw [e_9]; exact ah_keep fy4 fa214 (by omega)
              have f_11 : h_8 (A 1) = some (21, .inl (G.2.2.1 0, 128, .inl plT)) := by rw [e_9]; exact ah_keep fa14 fa214 (by omega)
              have f_12 : h_8 (A 2) = some (22, .inl (G.2.2.1 0, 128, .inl esT)) := by rw [e_9]; exact ah_keep fa24 fa214 (by omega)
              have f_13 : h_8 (A 12) = some (32, .inl (G.2.2.1 0, 40800, .inl (nA la))) := by rw [e_9]; exact ah_keep fa124 fa214 (by omega)
              have f_14 : h_8 (A 14) = some (34, .inl (G.2.2.1 0, 16, .inl (nA mp1))) := by rw [e_9]; exact ah_keep fa144 fa214 (by omega)
              have f_15 : h_8 (A 15) = some (35, .inl (G.2.2.1 0, 16, .inl (nA sd1))) := by rw [e_9]; exact ah_keep fa154 fa214 (by omega)
              have f_16 : h_8 (A 16) = some (36, .inl (G.2.2.1 0, 16, .inl (nA rc1))) := by rw [e_9]; exact ah_keep fa164 fa214 (by omega)
              have f_17 : h_8 (A 17) = some (37, .inl (G.2.2.1 0, 16, .inl (nA pr1))) := by rw [e_9]; exact ah_keep fa174 fa214 (by omega)
              have f_18 : h_8 (A 18) = some (38, .inl (G.2.2.1 0, 16, .inl (nA th1))) := by rw [e_9]; exact ah_keep fa184 fa214 (by omega)
              have f_19 : h_8 (A 19) = some (39, .inl (G.2.2.1 0, 16, .inl (nA sm1))) := by rw [e_9]; exact ah_keep fa194 fa214 (by omega)
              have f_20 : h_8 (A 21) = some (41, .inl (G.2.2.1 0, 4080, .inl (upd pc1 (255 * mp1 p9 + (pa 7 - 1)) (nI L.length)))) := by rw [e_9]; exact ah_up_s _ _ _
              have f_21 : h_8 (A 22) = some (42, .inl (G.2.2.1 0, 652800, .inl (nA pu))) := by rw [e_9]; exact ah_keep fa224 fa214 (by omega)
              have f_22 : h_8 (A 24) = some (44, .inl (G.2.2.1 0, 200, .inl (nA pa))) := by rw [e_9]; exact ah_keep fa244 fa214 (by omega)
              have f_23 : h_8 (A 26) = some (46, .inl (G.2.2.1 0, 200, .inl (nA u2))) := by rw [e_9]; exact ah_keep fa264 fa214 (by omega)
              obtain ⟨pc2, epc2⟩ : ∃ f9 : Nat → Int32, f9 = upd pc1 (255 * mp1 p9 + (pa 7 - 1)) (nI L.length) := ⟨_, rfl⟩
              have f_24 : h_8 (A 21) = some (41, .inl (G.2.2.1 0, 4080, .inl pc2)) := by rw [epc2]; exact f_20
              have ag5 : agr (fun t => t ≠ 20 ∧ t ≠ 32 ∧ ¬ (34 ≤ t ∧ t ≤ 39) ∧ t ≠ 41 ∧ t ≠ 42 ∧ t ≠ 46) h4 h_8 := by rw [e_9]; refine agr.up ?_ fa214 (by omega); exact agr.rf
              refine lv_iconst (v := nI 0) hx hb dX9_reads_206 (by decide) ?_
              refine lv_istore (lv' := [(5, .int (nI 0)), (4, .int (nI (255 * mp1 p9 + (pa 7 - 1)))), (3, .int (nI p9)), (0, .ref y), (1, .int (nI s9))]) hx hb dX9_reads_207 hl (by decide) rfl (fun ls hl => ?_)
              have p0 : h_8 (A 22) = some (42, .inl (G.2.2.1 0, 652800, .inl (nA (cpF pu (160 * (255 * mp1 p9 + (pa 7 - 1))) u2 0)))) := by rw [cpF_0]; exact f_21
              have L209 : ∀ (N209 : Nat) (k : Nat) (h6 : ah_H) (H : Heap) (locs : List Loc) (ls : Array Slot), L.length - k < N209 → (k ≤ L.length) → (agr (fun t => t ≠ 20 ∧ t ≠ 32 ∧ ¬ (34 ≤ t ∧ t ≤ 39) ∧ t ≠ 41 ∧ t ≠ 42 ∧ t ≠ 46) h4 h6) → (h6 y = some (20, .inr (8, mF A k0 n rf pm zh lc c1 pt gv L.length))) → (h6 (A 1) = some (21, .inl (G.2.2.1 0, 128, .inl plT))) → (h6 (A 2) = some (22, .inl (G.2.2.1 0, 128, .inl esT))) → (h6 (A 12) = some (32, .inl (G.2.2.1 0, 40800, .inl (nA la)))) → (h6 (A 14) = some (34, .inl (G.2.2.1 0, 16, .inl (nA mp1)))) → (h6 (A 15) = some (35, .inl (G.2.2.1 0, 16, .inl (nA sd1)))) → (h6 (A 16) = some (36, .inl (G.2.2.1 0, 16, .inl (nA rc1)))) → (h6 (A 17) = some (37, .inl (G.2.2.1 0, 16, .inl (nA pr1)))) → (h6 (A 18) = some (38, .inl (G.2.2.1 0, 16, .inl (nA th1)))) → (h6 (A 19) = some (39, .inl (G.2.2.1 0, 16, .inl (nA sm1)))) → (h6 (A 21) = some (41, .inl (G.2.2.1 0, 4080, .inl pc2))) → (h6 (A 22) = some (42, .inl (G.2.2.1 0, 652800, .inl (nA (cpF pu (160 * (255 * mp1 p9 + (pa 7 - 1))) u2 k))))) → (h6 (A 24) = some (44, .inl (G.2.2.1 0, 200, .inl (nA pa)))) → (h6 (A 26) = some (46, .inl (G.2.2.1 0, 200, .inl (nA u2)))) → ah_R G h6 H → va_S (ah_A G) s.heap H locs → lv_has ls 8 [(5, .int (nI k)), (4, .int (nI (255 * mp1 p9 + (pa 7 - 1)))), (3, .int (nI p9)), (0, .ref y)] → W p l e ({ frames := 3, cells := 0, slots := 0, locals := 73 }) s m ([.ref y, .int (nI s9)] : List Value).toArray below meth cd9 H locs 0 0 (MQ below (ah_Qi G (fun v h' => ∃ (c' pt' lc' un' : Nat) (D' : Nat → hDt) (lt : Option (Nat × (Nat → List Nat))) (la' mp' sd' rc' pr' th' sm' : Nat → Nat) (pc' : Nat → Int32) (pu' ua' : Nat → Nat), accR c pt D pa gv s9 v c' pt' D' lt ∧ HR c' D' mp' sd' rc' pr' th' sm' pc' pu' c' ∧ (lt = none → lc' = lc ∧ la' = la) ∧ (∀ x, lt = some x → lrel x lc' la') ∧ h' y = some (20, .inr (8, mF A k0 n rf pm zh lc' c' pt' gv un')) ∧ h' (A 12) = some (32, .inl (G.2.2.1 0, 40800, .inl (nA la'))) ∧ h' (A 14) = some (34, .inl (G.2.2.1 0, 16, .inl (nA mp'))) ∧ h' (A 15) = some (35, .inl (G.2.2.1 0, 16, .inl (nA sd'))) ∧ h' (A 16) = some (36, .inl (G.2.2.1 0, 16, .inl (nA rc'))) ∧ h' (A 17) = some (37, .inl (G.2.2.1 0, 16, .inl (nA pr'))) ∧ h' (A 18) = some (38, .inl (G.2.2.1 0, 16, .inl (nA th'))) ∧ h' (A 19) = some (39, .inl (G.2.2.1 0, 16, .inl (nA sm'))) ∧ h' (A 21) = some (41, .inl (G.2.2.1 0, 4080, .inl pc')) ∧ h' (A 22) = some (42, .inl (G.2.2.1 0, 652800, .inl (nA pu'))) ∧ h' (A 26) = some (46, .inl (G.2.2.1 0, 200, .inl (nA ua'))) ∧ agr (fun t => t ≠ 20 ∧ t ≠ 32 ∧ ¬ (34 ≤ t ∧ t ≤ 39) ∧ t ≠ 41 ∧ t ≠ 42 ∧ t ≠ 46) h h')) ([.ref y, .int (nI s9)] : List Value).toArray s 0 0 (ah_A G)) (F0 m 209 ls []) := by
                intro N209
                induction N209 with
                | zero => intro k h6 H locs ls hN; exact absurd hN (Nat.not_lt_zero _)
                | succ N209 ih209 =>
                  intro k h6 H locs ls hN209 hk ag6 fy6 fa16 fa26 fa126 fa146 fa156 fa166 fa176 fa186 fa196 fa216 fa226 fa246 fa266 hR hS hl
                  refine lv_iload hx hb dX9_reads_209 (lv_at hl 0 rfl) ?_
                  refine lv_aload_n hx hb dX9_reads_211 rfl (lv_at hl 3 rfl) ?_
                  refine ah_get (ci := 8) (v := .int (nI L.length)) (C := RX9) (T := TX9) (N := 27) hx hb hE hR hts hinX9 hown fy6 rfl 25 (by decide) k129 (fun _ h9 => h9) rfl dX9_reads_212 ?_
                  refine lv_icmp_ge (tgt := 245) hx hb dX9_reads_215 (by decide) (fun c_25 => ?_) (fun c_25 => ?_)
                  · skip
                    have c_25 : L.length ≤ k := (nI_leI (by omega) (by omega)).mp c_25
                    have ekL : k = L.length := by omega
                    obtain ⟨pu2, epu2⟩ : ∃ f9 : Nat → Nat, f9 = cpF pu (160 * (255 * mp1 p9 + (pa 7 - 1))) u2 L.length := ⟨_, rfl⟩
                    have f_26 : h6 (A 22) = some (42, .inl (G.2.2.1 0, 652800, .inl (nA pu2))) := by rw [epu2, ← ekL]; exact fa226
                    refine lv_aload_n hx hb dX9_reads_245 rfl (lv_at hl 3 rfl) ?_
                    refine ah_get (ci := 8) (v := .ref (A 18)) (C := RX9) (T := TX9) (N := 27) hx hb hE hR hts hinX9 hown fy6 rfl 18 (by decide) k45 (fun _ h9 => h9) rfl dX9_reads_246 ?_
                    refine lv_iload_n hx hb dX9_reads_249 rfl (lv_at hl 2 rfl) ?_
                    refine lv_dup2_11 hx hb dX9_reads_250 rfl rfl ?_
                    refine ah_iald (i := p9) hx hb hE hR fa186 (by omega) (by omega) dX9_reads_251 ?_
                    refine ah_toi (v := nI (th1 p9)) rfl ?_
                    refine lv_iconst (v := nI 1) hx hb dX9_reads_252 (by decide) ?_
                    refine lv_iadd hx hb dX9_reads_253 ?_
                    refine ah_toi (v := nI ((th1 p9) + 1)) (nI_add _ _) ?_
                    refine ah_iast (i := p9) hx hb hE hR hS fa186 (by omega) (by omega) dX9_reads_254 (fun H locs hR hS => ?_)
                    rw [nA_upd] at hR
                    obtain ⟨h_27, e_28⟩ : ∃ zz9, zz9 = ah_up h6 (A 18) (38, .inl (G.2.2.1 0, 16, .inl (nA (gU th1 p9 ((th1 p9) + 1))))) := ⟨_, rfl⟩
                    have hR : ah_R G h_27 H := by rw [e_28]; exact hR
                    have f_29 : h_27 y = some (20, .inr (8, mF A k0 n rf pm zh lc c1 pt gv L.length)) := by rw [e_28]; exact ah_keep fy6 fa186 (by omega)
                    have f_30 : h_27 (A 1) = some (21, .inl (G.2.2.1 0, 128, .inl plT)) := by rw [e_28]; exact ah_keep fa16 fa186 (by omega)
                    have f_31 : h_27 (A 2) = some (22, .inl (G.2.2.1 0, 128, .inl esT)) := by rw [e_28]; exact ah_keep fa26 fa186 (by omega)
                    have f_32 : h_27 (A 12) = some (32, .inl (G.2.2.1 0, 40800, .inl (nA la))) := by rw [e_28]; exact ah_keep fa126 fa186 (by omega)
                    have f_33 : h_27 (A 14) = some (34, .inl (G.2.2.1 0, 16, .inl (nA mp1))) := by rw [e_28]; exact ah_keep fa146 fa186 (by omega)
                    have f_34 : h_27 (A 15) = some (35, .inl (G.2.2.1 0, 16, .inl (nA sd1))) := by rw [e_28]; exact ah_keep fa156 fa186 (by omega)
                    have f_35 : h_27 (A 16) = some (36, .inl (G.2.2.1 0, 16, .inl (nA rc1))) := by rw [e_28]; exact ah_keep fa166 fa186 (by omega)
                    have f_36 : h_27 (A 17) = some (37, .inl (G.2.2.1 0, 16, .inl (nA pr1))) := by rw [e_28]; exact ah_keep fa176 fa186 (by omega)
                    have f_37 : h_27 (A 18) = some (38, .inl (G.2.2.1 0, 16, .inl (nA (gU th1 p9 ((th1 p9) + 1))))) := by rw [e_28]; exact ah_up_s _ _ _
                    have f_38 : h_27 (A 19) = some (39, .inl (G.2.2.1 0, 16, .inl (nA sm1))) := by rw [e_28]; exact ah_keep fa196 fa186 (by omega)
                    have f_39 : h_27 (A 21) = some (41, .inl (G.2.2.1 0, 4080, .inl pc2)) := by rw [e_28]; exact ah_keep fa216 fa186 (by omega)
                    have f_40 : h_27 (A 22) = some (42, .inl (G.2.2.1 0, 652800, .inl (nA pu2))) := by rw [e_28]; exact ah_keep f_26 fa186 (by omega)
                    have f_41 : h_27 (A 24) = some (44, .inl (G.2.2.1 0, 200, .inl (nA pa))) := by rw [e_28]; exact ah_keep fa246 fa186 (by omega)
                    have f_42 : h_27 (A 26) = some (46, .inl (G.2.2.1 0, 200, .inl (nA u2))) := by rw [e_28]; exact ah_keep fa266 fa186 (by omega)
                    refine lv_aload_n hx hb dX9_reads_255 rfl (lv_at hl 3 rfl) ?_
                    refine lv_dup hx hb dX9_reads_256 rfl ?_
                    refine ah_get (ci := 8) (v := .int (nI pt)) (C := RX9) (T := TX9) (N := 27) hx hb hE hR hts hinX9 hown f_29 rfl 20 (by decide) k149 (fun _ h9 => h9) rfl dX9_reads_257 ?_
                    refine lv_iconst (v := nI 1) hx hb dX9_reads_260 (by decide) ?_
                    refine lv_iadd hx hb dX9_reads_261 ?_
                    refine ah_toi (v := nI (pt + 1)) (nI_add _ _) ?_
                    refine ah_put (ci := 8) (v := .int (nI (pt + 1))) (ty := .int) (C := RX9) (T := TX9) (N := 27) hx hb hE hR hS hts hinX9 tyX9 tyX9_ok nmX9 hown f_29 rfl 20 (by decide) k149 (fun _ h9 => h9) rfl (by decide +kernel) rfl rfl (Nat.le_of_ble_eq_true rfl) dX9_reads_262 (fun H locs hR hS => ?_)
                    obtain ⟨h_43, e_44⟩ : ∃ zz9, zz9 = ah_up h_27 y (20, .inr (8, mF A k0 n rf pm zh lc c1 (pt + 1) gv L.length)) := ⟨_, rfl⟩
                    have hR : ah_R G h_43 H := by rw [e_44]; exact hR
                    have f_45 : h_43 y = some (20, .inr (8, mF A k0 n rf pm zh lc c1 (pt + 1) gv L.length)) := by rw [e_44]; exact ah_up_s _ _ _
                    have f_46 : h_43 (A 1) = some (21, .inl (G.2.2.1 0, 128, .inl plT)) := by rw [e_44]; exact ah_keep f_30 f_29 (by omega)
                    have f_47 : h_43 (A 2) = some (22, .inl (G.2.2.1 0, 128, .inl esT)) := by rw [e_44]; exact ah_keep f_31 f_29 (by omega)
                    have f_48 : h_43 (A 12) = some (32, .inl (G.2.2.1 0, 40800, .inl (nA la))) := by rw [e_44]; exact ah_keep f_32 f_29 (by omega)
                    have f_49 : h_43 (A 14) = some (34, .inl (G.2.2.1 0, 16, .inl (nA mp1))) := by rw [e_44]; exact ah_keep f_33 f_29 (by omega)
                    have f_50 : h_43 (A 15) = some (35, .inl (G.2.2.1 0, 16, .inl (nA sd1))) := by rw [e_44]; exact ah_keep f_34 f_29 (by omega)
                    have f_51 : h_43 (A 16) = some (36, .inl (G.2.2.1 0, 16, .inl (nA rc1))) := by rw [e_44]; exact ah_keep f_35 f_29 (by omega)
                    have f_52 : h_43 (A 17) = some (37, .inl (G.2.2.1 0, 16, .inl (nA pr1))) := by rw [e_44]; exact ah_keep f_36 f_29 (by omega)
                    have f_53 : h_43 (A 18) = some (38, .inl (G.2.2.1 0, 16, .inl (nA (gU th1 p9 ((th1 p9) + 1))))) := by rw [e_44]; exact ah_keep f_37 f_29 (by omega)
                    have f_54 : h_43 (A 19) = some (39, .inl (G.2.2.1 0, 16, .inl (nA sm1))) := by rw [e_44]; exact ah_keep f_38 f_29 (by omega)
                    have f_55 : h_43 (A 21) = some (41, .inl (G.2.2.1 0, 4080, .inl pc2)) := by rw [e_44]; exact ah_keep f_39 f_29 (by omega)
                    have f_56 : h_43 (A 22) = some (42, .inl (G.2.2.1 0, 652800, .inl (nA pu2))) := by rw [e_44]; exact ah_keep f_40 f_29 (by omega)
                    have f_57 : h_43 (A 24) = some (44, .inl (G.2.2.1 0, 200, .inl (nA pa))) := by rw [e_44]; exact ah_keep f_41 f_29 (by omega)
                    have f_58 : h_43 (A 26) = some (46, .inl (G.2.2.1 0, 200, .inl (nA u2))) := by rw [e_44]; exact ah_keep f_42 f_29 (by omega)
                    refine lv_aload_n hx hb dX9_reads_265 rfl (lv_at hl 3 rfl) ?_
                    refine ah_get (ci := 8) (v := .ref (A 19)) (C := RX9) (T := TX9) (N := 27) hx hb hE hR hts hinX9 hown f_45 rfl 19 (by decide) k48 (fun _ h9 => h9) rfl dX9_reads_266 ?_
                    refine lv_iload_n hx hb dX9_reads_269 rfl (lv_at hl 2 rfl) ?_
                    refine lv_aload_n hx hb dX9_reads_270 rfl (lv_at hl 3 rfl) ?_
                    refine ah_get (ci := 8) (v := .int (nI (pt + 1))) (C := RX9) (T := TX9) (N := 27) hx hb hE hR hts hinX9 hown f_45 rfl 20 (by decide) k149 (fun _ h9 => h9) rfl dX9_reads_271 ?_
                    refine ah_iast (i := p9) hx hb hE hR hS f_54 (by omega) (by omega) dX9_reads_274 (fun H locs hR hS => ?_)
                    rw [nA_upd] at hR
                    obtain ⟨h_59, e_60⟩ : ∃ zz9, zz9 = ah_up h_43 (A 19) (39, .inl (G.2.2.1 0, 16, .inl (nA (gU sm1 p9 (pt + 1))))) := ⟨_, rfl⟩
                    have hR : ah_R G h_59 H := by rw [e_60]; exact hR
                    have f_61 : h_59 y = some (20, .inr (8, mF A k0 n rf pm zh lc c1 (pt + 1) gv L.length)) := by rw [e_60]; exact ah_keep f_45 f_54 (by omega)
                    have f_62 : h_59 (A 1) = some (21, .inl (G.2.2.1 0, 128, .inl plT)) := by rw [e_60]; exact ah_keep f_46 f_54 (by omega)
                    have f_63 : h_59 (A 2) = some (22, .inl (G.2.2.1 0, 128, .inl esT)) := by rw [e_60]; exact ah_keep f_47 f_54 (by omega)
                    have f_64 : h_59 (A 12) = some (32, .inl (G.2.2.1 0, 40800, .inl (nA la))) := by rw [e_60]; exact ah_keep f_48 f_54 (by omega)
                    have f_65 : h_59 (A 14) = some (34, .inl (G.2.2.1 0, 16, .inl (nA mp1))) := by rw [e_60]; exact ah_keep f_49 f_54 (by omega)
                    have f_66 : h_59 (A 15) = some (35, .inl (G.2.2.1 0, 16, .inl (nA sd1))) := by rw [e_60]; exact ah_keep f_50 f_54 (by omega)
                    have f_67 : h_59 (A 16) = some (36, .inl (G.2.2.1 0, 16, .inl (nA rc1))) := by rw [e_60]; exact ah_keep f_51 f_54 (by omega)
                    have f_68 : h_59 (A 17) = some (37, .inl (G.2.2.1 0, 16, .inl (nA pr1))) := by rw [e_60]; exact ah_keep f_52 f_54 (by omega)
                    have f_69 : h_59 (A 18) = some (38, .inl (G.2.2.1 0, 16, .inl (nA (gU th1 p9 ((th1 p9) + 1))))) := by rw [e_60]; exact ah_keep f_53 f_54 (by omega)
                    have f_70 : h_59 (A 19) = some (39, .inl (G.2.2.1 0, 16, .inl (nA (gU sm1 p9 (pt + 1))))) := by rw [e_60]; exact ah_up_s _ _ _
                    have f_71 : h_59 (A 21) = some (41, .inl (G.2.2.1 0, 4080, .inl pc2)) := by rw [e_60]; exact ah_keep f_55 f_54 (by omega)
                    have f_72 : h_59 (A 22) = some (42, .inl (G.2.2.1 0, 652800, .inl (nA pu2))) := by rw [e_60]; exact ah_keep f_56 f_54 (by omega)
                    have f_73 : h_59 (A 24) = some (44, .inl (G.2.2.1 0, 200, .inl (nA pa))) := by rw [e_60]; exact ah_keep f_57 f_54 (by omega)
                    have f_74 : h_59 (A 26) = some (46, .inl (G.2.2.1 0, 200, .inl (nA u2))) := by rw [e_60]; exact ah_keep f_58 f_54 (by omega)
                    obtain ⟨th2, eth2⟩ : ∃ f9 : Nat → Nat, f9 = gU th1 p9 (th1 p9 + 1) := ⟨_, rfl⟩
                    obtain ⟨sm2, esm2⟩ : ∃ f9 : Nat → Nat, f9 = gU sm1 p9 (pt + 1) := ⟨_, rfl⟩
                    have f_75 : h_59 (A 18) = some (38, .inl (G.2.2.1 0, 16, .inl (nA th2))) := by rw [eth2]; exact f_69
                    have f_76 : h_59 (A 19) = some (39, .inl (G.2.2.1 0, 16, .inl (nA sm2))) := by rw [esm2]; exact f_70
                    have hadd : addH (D1 p9) (0, 0, d_s (D1 p9), d_r (D1 p9), d_n (D1 p9), d_t (D1 p9) + 1, 0, pt + 1, (fun _ => none), va_up (d_L (D1 p9)) (pa 7 - 1) (some L)) (pt + 1) (pa 7 - 1) L := ⟨rfl, rfl, rfl, rfl, rfl, rfl⟩
                    have hr2 := hr1.add (he1.imp id And.left) hp9 hadd (by omega) hLl db1 (u := u2) hu2
                    rw [← eth2, ← esm2, ← epc2, ← epu2] at hr2
                    have ag7 : agr (fun t => t ≠ 20 ∧ t ≠ 32 ∧ ¬ (34 ≤ t ∧ t ≤ 39) ∧ t ≠ 41 ∧ t ≠ 42 ∧ t ≠ 46) h4 h_59 := ag6.tr (by rw [e_60]; refine agr.up ?_ f_54 (by omega); rw [e_44]; refine agr.up ?_ f_29 (by omega); rw [e_28]; refine agr.up ?_ fa186 (by omega); exact agr.rf)
                    have et2 : th2 p9 = d_t (D1 p9) + 1 := by rw [eth2, gU_s, k5]
                    have hcn := cntS_up (L := L) eo9 (d_n (D1 p9)); rw [if_pos (show pa 7 - 1 < d_n (D1 p9) by omega), ← b7] at hcn
                    have hcl := cntS_le (va_up (d_L (D1 p9)) (pa 7 - 1) (some L)) (d_n (D1 p9))
                    refine lv_aload_n hx hb dX9_reads_275 rfl (lv_at hl 3 rfl) ?_
                    refine ah_get (ci := 8) (v := .ref (A 18)) (C := RX9) (T := TX9) (N := 27) hx hb hE hR hts hinX9 hown f_61 rfl 18 (by decide) k45 (fun _ h9 => h9) rfl dX9_reads_276 ?_
                    refine lv_iload_n hx hb dX9_reads_279 rfl (lv_at hl 2 rfl) ?_
                    refine ah_iald (i := p9) hx hb hE hR f_75 (by omega) (by omega) dX9_reads_280 ?_
                    refine ah_toi (v := nI (th2 p9)) rfl ?_
                    refine lv_aload_n hx hb dX9_reads_281 rfl (lv_at hl 3 rfl) ?_
                    refine ah_get (ci := 8) (v := .ref (A 17)) (C := RX9) (T := TX9) (N := 27) hx hb hE hR hts hinX9 hown f_61 rfl 17 (by decide) k42 (fun _ h9 => h9) rfl dX9_reads_282 ?_
                    refine lv_iload_n hx hb dX9_reads_285 rfl (lv_at hl 2 rfl) ?_
                    refine ah_iald (i := p9) hx hb hE hR f_68 (by omega) (by omega) dX9_reads_286 ?_
                    refine ah_toi (v := nI (pr1 p9)) rfl ?_
                    refine lv_icmp_ge (tgt := 292) hx hb dX9_reads_287 (by decide) (fun c_77 => ?_) (fun c_77 => ?_)
                    · skip
                      have c_77 : (pr1 p9) ≤ (th2 p9) := (nI_leI (by omega) (by omega)).mp c_77
                      have hwh : d_t (D1 p9) + 1 = pa 6 := by omega
                      obtain ⟨Ls, eLs⟩ : ∃ f9 : Nat → List Nat, f9 = (fun j => (va_up (d_L (D1 p9)) (pa 7 - 1) (some L) j).getD []) := ⟨_, rfl⟩
                      have hfull : ∀ q, q < pa 6 → ∃ M, va_up (d_L (D1 p9)) (pa 7 - 1) (some L) q = some M := cntS_full (pa 6) (by rw [hn1] at hcn; omega)
                      have hpc2 : ∀ q, q < pa 6 → (pc2 (255 * mp1 p9 + q) = nI (Ls q).length ∧ ∀ j, j < (Ls q).length → pu2 (160 * (255 * mp1 p9 + q) + j) = (Ls q).getD j 0) := by
                        intro q hq
                        obtain ⟨M, hM⟩ := hfull q hq
                        have z9 := (hr2.1 p9 hp9).2.2.2.2.2.2 q (by rw [va_up_self]; show q < d_n (D1 p9); omega)
                        rw [va_up_self] at z9
                        have z8 : pcell (va_up (d_L (D1 p9)) (pa 7 - 1) (some L) q) (255 * mp1 p9 + q) pc2 pu2 := z9
                        rw [hM] at z8
                        have eM : Ls q = M := by rw [eLs]; show (va_up (d_L (D1 p9)) (pa 7 - 1) (some L) q).getD [] = M; rw [hM]; rfl
                        rw [eM]; exact z8
                      have hlen : ∀ q, q < pa 6 → (Ls q).length ≤ 160 := by
                        intro q hq
                        obtain ⟨M, hM⟩ := hfull q hq
                        have eM : Ls q = M := by rw [eLs]; show (va_up (d_L (D1 p9)) (pa 7 - 1) (some L) q).getD [] = M; rw [hM]; rfl
                        rw [eM]
                        by_cases e9 : q = pa 7 - 1
                        · rw [e9, va_up_self] at hM; cases hM; exact hLl
                        · rw [va_up_ne _ _ e9] at hM; exact b8 q (by omega) M hM
                      refine lv_aload_n hx hb dX9_reads_292 rfl (lv_at hl 3 rfl) ?_
                      refine lv_iconst (v := nI 0) hx hb dX9_reads_293 (by decide) ?_
                      refine ah_put (ci := 8) (v := .int (nI 0)) (ty := .int) (C := RX9) (T := TX9) (N := 27) hx hb hE hR hS hts hinX9 tyX9 tyX9_ok nmX9 hown f_61 rfl 11 (by decide) k110 (fun _ h9 => h9) rfl (by decide +kernel) rfl rfl (Nat.le_of_ble_eq_true rfl) dX9_reads_294 (fun H locs hR hS => ?_)
                      obtain ⟨h_78, e_79⟩ : ∃ zz9, zz9 = ah_up h_59 y (20, .inr (8, mF A k0 n rf pm zh 0 c1 (pt + 1) gv L.length)) := ⟨_, rfl⟩
                      have hR : ah_R G h_78 H := by rw [e_79]; exact hR
                      have f_80 : h_78 y = some (20, .inr (8, mF A k0 n rf pm zh 0 c1 (pt + 1) gv L.length)) := by rw [e_79]; exact ah_up_s _ _ _
                      have f_81 : h_78 (A 1) = some (21, .inl (G.2.2.1 0, 128, .inl plT)) := by rw [e_79]; exact ah_keep f_62 f_61 (by omega)
                      have f_82 : h_78 (A 2) = some (22, .inl (G.2.2.1 0, 128, .inl esT)) := by rw [e_79]; exact ah_keep f_63 f_61 (by omega)
                      have f_83 : h_78 (A 12) = some (32, .inl (G.2.2.1 0, 40800, .inl (nA la))) := by rw [e_79]; exact ah_keep f_64 f_61 (by omega)
                      have f_84 : h_78 (A 14) = some (34, .inl (G.2.2.1 0, 16, .inl (nA mp1))) := by rw [e_79]; exact ah_keep f_65 f_61 (by omega)
                      have f_85 : h_78 (A 15) = some (35, .inl (G.2.2.1 0, 16, .inl (nA sd1))) := by rw [e_79]; exact ah_keep f_66 f_61 (by omega)
                      have f_86 : h_78 (A 16) = some (36, .inl (G.2.2.1 0, 16, .inl (nA rc1))) := by rw [e_79]; exact ah_keep f_67 f_61 (by omega)
                      have f_87 : h_78 (A 17) = some (37, .inl (G.2.2.1 0, 16, .inl (nA pr1))) := by rw [e_79]; exact ah_keep f_68 f_61 (by omega)
                      have f_88 : h_78 (A 18) = some (38, .inl (G.2.2.1 0, 16, .inl (nA th2))) := by rw [e_79]; exact ah_keep f_75 f_61 (by omega)
                      have f_89 : h_78 (A 19) = some (39, .inl (G.2.2.1 0, 16, .inl (nA sm2))) := by rw [e_79]; exact ah_keep f_76 f_61 (by omega)
                      have f_90 : h_78 (A 21) = some (41, .inl (G.2.2.1 0, 4080, .inl pc2)) := by rw [e_79]; exact ah_keep f_71 f_61 (by omega)
                      have f_91 : h_78 (A 22) = some (42, .inl (G.2.2.1 0, 652800, .inl (nA pu2))) := by rw [e_79]; exact ah_keep f_72 f_61 (by omega)
                      have f_92 : h_78 (A 24) = some (44, .inl (G.2.2.1 0, 200, .inl (nA pa))) := by rw [e_79]; exact ah_keep f_73 f_61 (by omega)
                      have f_93 : h_78 (A 26) = some (46, .inl (G.2.2.1 0, 200, .inl (nA u2))) := by rw [e_79]; exact ah_keep f_74 f_61 (by omega)
                      refine lv_iconst (v := nI 0) hx hb dX9_reads_297 (by decide) ?_
                      refine lv_istore (lv' := [(5, .int (nI 0)), (4, .int (nI (255 * mp1 p9 + (pa 7 - 1)))), (3, .int (nI p9)), (0, .ref y)]) hx hb dX9_reads_298 hl (by decide) rfl (fun ls hl => ?_)
                      have ag9 : agr (fun t => t ≠ 20 ∧ t ≠ 32 ∧ ¬ (34 ≤ t ∧ t ≤ 39) ∧ t ≠ 41 ∧ t ≠ 42 ∧ t ≠ 46) h4 h_78 := ag7.tr (by rw [e_79]; refine agr.up ?_ f_61 (by omega); exact agr.rf)
                      have L300 : ∀ (N300 : Nat) (q : Nat) (la1 : Nat → Nat) (hA : ah_H) (H : Heap) (locs : List Loc) (ls : Array Slot), pa 6 - q < N300 → (q ≤ pa 6) → (∀ r, r < q → ∀ j, j < (Ls r).length → la1 (totU Ls r + j) = (Ls r).getD j 0) → (agr (fun t => t ≠ 20 ∧ t ≠ 32 ∧ ¬ (34 ≤ t ∧ t ≤ 39) ∧ t ≠ 41 ∧ t ≠ 42 ∧ t ≠ 46) h4 hA) → (hA y = some (20, .inr (8, mF A k0 n rf pm zh (totU Ls q) c1 (pt + 1) gv L.length))) → (hA (A 1) = some (21, .inl (G.2.2.1 0, 128, .inl plT))) → (hA (A 2) = some (22, .inl (G.2.2.1 0, 128, .inl esT))) → (hA (A 12) = some (32, .inl (G.2.2.1 0, 40800, .inl (nA la1)))) → (hA (A 14) = some (34, .inl (G.2.2.1 0, 16, .inl (nA mp1)))) → (hA (A 15) = some (35, .inl (G.2.2.1 0, 16, .inl (nA sd1)))) → (hA (A 16) = some (36, .inl (G.2.2.1 0, 16, .inl (nA rc1)))) → (hA (A 17) = some (37, .inl (G.2.2.1 0, 16, .inl (nA pr1)))) → (hA (A 18) = some (38, .inl (G.2.2.1 0, 16, .inl (nA th2)))) → (hA (A 19) = some (39, .inl (G.2.2.1 0, 16, .inl (nA sm2)))) → (hA (A 21) = some (41, .inl (G.2.2.1 0, 4080, .inl pc2))) → (hA (A 22) = some (42, .inl (G.2.2.1 0, 652800, .inl (nA pu2)))) → (hA (A 24) = some (44, .inl (G.2.2.1 0, 200, .inl (nA pa)))) → (hA (A 26) = some (46, .inl (G.2.2.1 0, 200, .inl (nA u2)))) → ah_R G hA H → va_S (ah_A G) s.heap H locs → lv_has ls 8 [(5, .int (nI q)), (3, .int (nI p9)), (0, .ref y)] → W p l e ({ frames := 3, cells := 0, slots := 0, locals := 73 }) s m ([.ref y, .int (nI s9)] : List Value).toArray below meth cd9 H locs 0 0 (MQ below (ah_Qi G (fun v h' => ∃ (c' pt' lc' un' : Nat) (D' : Nat → hDt) (lt : Option (Nat × (Nat → List Nat))) (la' mp' sd' rc' pr' th' sm' : Nat → Nat) (pc' : Nat → Int32) (pu' ua' : Nat → Nat), accR c pt D pa gv s9 v c' pt' D' lt ∧ HR c' D' mp' sd' rc' pr' th' sm' pc' pu' c' ∧ (lt = none → lc' = lc ∧ la' = la) ∧ (∀ x, lt = some x → lrel x lc' la') ∧ h' y = some (20, .inr (8, mF A k0 n rf pm zh lc' c' pt' gv un')) ∧ h' (A 12) = some (32, .inl (G.2.2.1 0, 40800, .inl (nA la'))) ∧ h' (A 14) = some (34, .inl (G.2.2.1 0, 16, .inl (nA mp'))) ∧ h' (A 15) = some (35, .inl (G.2.2.1 0, 16, .inl (nA sd'))) ∧ h' (A 16) = some (36, .inl (G.2.2.1 0, 16, .inl (nA rc'))) ∧ h' (A 17) = some (37, .inl (G.2.2.1 0, 16, .inl (nA pr'))) ∧ h' (A 18) = some (38, .inl (G.2.2.1 0, 16, .inl (nA th'))) ∧ h' (A 19) = some (39, .inl (G.2.2.1 0, 16, .inl (nA sm'))) ∧ h' (A 21) = some (41, .inl (G.2.2.1 0, 4080, .inl pc')) ∧ h' (A 22) = some (42, .inl (G.2.2.1 0, 652800, .inl (nA pu'))) ∧ h' (A 26) = some (46, .inl (G.2.2.1 0, 200, .inl (nA ua'))) ∧ agr (fun t => t ≠ 20 ∧ t ≠ 32 ∧ ¬ (34 ≤ t ∧ t ≤ 39) ∧ t ≠ 41 ∧ t ≠ 42 ∧ t ≠ 46) h h')) ([.ref y, .int (nI s9)] : List Value).toArray s 0 0 (ah_A G)) (F0 m 300 ls []) := by
                        intro N300
                        induction N300 with
                        | zero => intro q la1 hA H locs ls hN; exact absurd hN (Nat.not_lt_zero _)
                        | succ N300 ih300 =>
                          intro q la1 hA H locs ls hN300 hq hla agA fyA fa1A fa2A fa12A fa14A fa15A fa16A fa17A fa18A fa19A fa21A fa22A fa24A fa26A hR hS hl
                          refine lv_iload hx hb dX9_reads_300 (lv_at hl 0 rfl) ?_
                          refine lv_aload_n hx hb dX9_reads_302 rfl (lv_at hl 2 rfl) ?_
                          refine ah_get (ci := 8) (v := .ref (A 17)) (C := RX9) (T := TX9) (N := 27) hx hb hE hR hts hinX9 hown fyA rfl 17 (by decide) k42 (fun _ h9 => h9) rfl dX9_reads_303 ?_
                          refine lv_iload_n hx hb dX9_reads_306 rfl (lv_at hl 1 rfl) ?_
                          refine ah_iald (i := p9) hx hb hE hR fa17A (by omega) (by omega) dX9_reads_307 ?_
                          refine ah_toi (v := nI (pr1 p9)) rfl ?_
                          refine lv_icmp_ge (tgt := 386) hx hb dX9_reads_308 (by decide) (fun c_94 => ?_) (fun c_94 => ?_)
                          · skip
                            have c_94 : (pr1 p9) ≤ q := (nI_leI (by omega) (by omega)).mp c_94
                            have htu := totU_le q (fun r hr9 => hlen r (by omega))
                            refine lv_aload_n hx hb dX9_reads_386 rfl (lv_at hl 2 rfl) ?_
                            refine lv_iload_n hx hb dX9_reads_387 rfl (lv_at hl 1 rfl) ?_
                            have eq6 : q = pa 6 := by omega
                            refine ah_callv (va_runV (As := [.int (nI p9)]) (rest := []) ⟨hx, hb, hml, hown, hts⟩ (c_m_gone l G hA y A k0 n rf pm zh (totU Ls q) c1 (pt + 1) gv L.length fyA mp1 fa14A sd1 fa15A rc1 fa16A pr1 fa17A th2 fa18A sm2 fa19A hc1 p9 hp9) (cwV 1 hts gX9_reads_X9_gone rfl rfl rfl (by decide +kernel) ⟨Nat.le_of_ble_eq_true rfl, Nat.le_of_ble_eq_true rfl⟩) (ah_preV hE hR hS fyA rfl) rfl rfl hl.1 rfl (lv_room (Nat.le_of_ble_eq_true rfl)) dX9_reads_388 ⟨Nat.le_of_ble_eq_true rfl, Nat.le_of_ble_eq_true rfl⟩) hS (fun h_95 H locs p_96 hR hS => ?_)
                            obtain ⟨gy, g14, g15, g16, g17, g18, g19, agC⟩ := p_96
                            have v12 : h_95 (A 12) = some (32, .inl (G.2.2.1 0, 40800, .inl (nA la1))) := agC _ _ _ (by omega) fa12A
                            have v21 : h_95 (A 21) = some (41, .inl (G.2.2.1 0, 4080, .inl pc2)) := agC _ _ _ (by omega) fa21A
                            have v22 : h_95 (A 22) = some (42, .inl (G.2.2.1 0, 652800, .inl (nA pu2))) := agC _ _ _ (by omega) fa22A
                            have v26 : h_95 (A 26) = some (46, .inl (G.2.2.1 0, 200, .inl (nA u2))) := agC _ _ _ (by omega) fa26A
                            have hr3 := hr2.gone (Nat.le_refl c1) hp9
                            rw [shf_up] at hr3
                            refine lv_iconst (v := nI 1) hx hb dX9_reads_391 (by decide) ?_
                            refine ah_iret (v := nI 1) hx hb hr hlocks hR hS dX9_reads_392 ?_
                            exact ⟨c1 - 1, pt + 1, totU Ls q, L.length, shf D1 p9, some (pa 6, Ls), la1, gU (shN mp1 p9 (c1 - 1)) (c1 - 1) (mp1 p9), shN sd1 p9 (c1 - 1), shN rc1 p9 (c1 - 1), shN pr1 p9 (c1 - 1), shN th2 p9 (c1 - 1), shN sm2 p9 (c1 - 1), pc2, pu2, u2, Or.inr (Or.inr ⟨hf0, hd1, 1, rfl, c1, p9, D1, sel1, Or.inr ⟨eo9, rfl, (0, 0, d_s (D1 p9), d_r (D1 p9), d_n (D1 p9), d_t (D1 p9) + 1, 0, pt + 1, (fun _ => none), va_up (d_L (D1 p9)) (pa 7 - 1) (some L)), (by rw [← eL]; exact hadd), Or.inr ⟨hwh, rfl, rfl, rfl, by rw [eLs]⟩⟩⟩), hr3, fun q9 => (nomatch q9), fun x q9 => by cases q9; exact ⟨by rw [eq6], by omega, fun r hr9 => hla r (by rw [eq6]; exact hr9)⟩, gy, v12, g14, g15, g16, g17, g18, g19, v21, v22, v26, ag4.tr (agA.tr (agC.weak (fun t z => by omega)))⟩
                          · skip
                            have c_94 : ¬ ((pr1 p9) ≤ q) := fun z9 => c_94 ((nI_leI (by omega) (by omega)).mpr z9)
                            have htu := totU_le q (fun r hr9 => hlen r (by omega))
                            have hlq := hlen q (by omega)
                            refine lv_sipush (v := nI 255) hx hb dX9_reads_311 (by decide) ?_
                            refine lv_aload_n hx hb dX9_reads_314 rfl (lv_at hl 2 rfl) ?_
                            refine ah_get (ci := 8) (v := .ref (A 14)) (C := RX9) (T := TX9) (N := 27) hx hb hE hR hts hinX9 hown fyA rfl 14 (by decide) k33 (fun _ h9 => h9) rfl dX9_reads_315 ?_
                            refine lv_iload_n hx hb dX9_reads_318 rfl (lv_at hl 1 rfl) ?_
                            refine ah_iald (i := p9) hx hb hE hR fa14A (by omega) (by omega) dX9_reads_319 ?_
                            refine ah_toi (v := nI (mp1 p9)) rfl ?_
                            refine lv_imul hx hb dX9_reads_320 ?_
                            refine ah_toi (v := nI (255 * (mp1 p9))) (pk_mul _ _) ?_
                            refine lv_iload hx hb dX9_reads_321 (lv_at hl 0 rfl) ?_
                            refine lv_iadd hx hb dX9_reads_323 ?_
                            refine ah_toi (v := nI ((255 * (mp1 p9)) + q)) (nI_add _ _) ?_
                            refine lv_istore (lv' := [(6, .int (nI ((255 * (mp1 p9)) + q))), (5, .int (nI q)), (3, .int (nI p9)), (0, .ref y)]) hx hb dX9_reads_324 hl (by decide) rfl (fun ls hl => ?_)
                            refine lv_iconst (v := nI 0) hx hb dX9_reads_326 (by decide) ?_
                            refine lv_istore (lv' := [(7, .int (nI 0)), (6, .int (nI ((255 * (mp1 p9)) + q))), (5, .int (nI q)), (3, .int (nI p9)), (0, .ref y)]) hx hb dX9_reads_327 hl (by decide) rfl (fun ls hl => ?_)
                            have i0 : hA (A 12) = some (32, .inl (G.2.2.1 0, 40800, .inl (nA (cpF la1 (totU Ls q) (fun j => pu2 (160 * (255 * mp1 p9 + q) + j)) 0)))) := by rw [cpF_0]; exact fa12A
                            have iy : hA y = some (20, .inr (8, mF A k0 n rf pm zh (totU Ls q + 0) c1 (pt + 1) gv L.length)) := fyA
                            have L329 : ∀ (N329 : Nat) (k : Nat) (hB9 : ah_H) (H : Heap) (locs : List Loc) (ls : Array Slot), (Ls q).length - k < N329 → (k ≤ (Ls q).length) → (agr (fun t => t ≠ 20 ∧ t ≠ 32 ∧ ¬ (34 ≤ t ∧ t ≤ 39) ∧ t ≠ 41 ∧ t ≠ 42 ∧ t ≠ 46) h4 hB9) → (hB9 y = some (20, .inr (8, mF A k0 n rf pm zh (totU Ls q + k) c1 (pt + 1) gv L.length))) → (hB9 (A 1) = some (21, .inl (G.2.2.1 0, 128, .inl plT))) → (hB9 (A 2) = some (22, .inl (G.2.2.1 0, 128, .inl esT))) → (hB9 (A 12) = some (32, .inl (G.2.2.1 0, 40800, .inl (nA (cpF la1 (totU Ls q) (fun j => pu2 (160 * (255 * mp1 p9 + q) + j)) k))))) → (hB9 (A 14) = some (34, .inl (G.2.2.1 0, 16, .inl (nA mp1)))) → (hB9 (A 15) = some (35, .inl (G.2.2.1 0, 16, .inl (nA sd1)))) → (hB9 (A 16) = some (36, .inl (G.2.2.1 0, 16, .inl (nA rc1)))) → (hB9 (A 17) = some (37, .inl (G.2.2.1 0, 16, .inl (nA pr1)))) → (hB9 (A 18) = some (38, .inl (G.2.2.1 0, 16, .inl (nA th2)))) → (hB9 (A 19) = some (39, .inl (G.2.2.1 0, 16, .inl (nA sm2)))) → (hB9 (A 21) = some (41, .inl (G.2.2.1 0, 4080, .inl pc2))) → (hB9 (A 22) = some (42, .inl (G.2.2.1 0, 652800, .inl (nA pu2)))) → (hB9 (A 24) = some (44, .inl (G.2.2.1 0, 200, .inl (nA pa)))) → (hB9 (A 26) = some (46, .inl (G.2.2.1 0, 200, .inl (nA u2)))) → ah_R G hB9 H → va_S (ah_A G) s.heap H locs → lv_has ls 8 [(7, .int (nI k)), (6, .int (nI (255 * mp1 p9 + q))), (5, .int (nI q)), (3, .int (nI p9)), (0, .ref y)] → W p l e ({ frames := 3, cells := 0, slots := 0, locals := 73 }) s m ([.ref y, .int (nI s9)] : List Value).toArray below meth cd9 H locs 0 0 (MQ below (ah_Qi G (fun v h' => ∃ (c' pt' lc' un' : Nat) (D' : Nat → hDt) (lt : Option (Nat × (Nat → List Nat))) (la' mp' sd' rc' pr' th' sm' : Nat → Nat) (pc' : Nat → Int32) (pu' ua' : Nat → Nat), accR c pt D pa gv s9 v c' pt' D' lt ∧ HR c' D' mp' sd' rc' pr' th' sm' pc' pu' c' ∧ (lt = none → lc' = lc ∧ la' = la) ∧ (∀ x, lt = some x → lrel x lc' la') ∧ h' y = some (20, .inr (8, mF A k0 n rf pm zh lc' c' pt' gv un')) ∧ h' (A 12) = some (32, .inl (G.2.2.1 0, 40800, .inl (nA la'))) ∧ h' (A 14) = some (34, .inl (G.2.2.1 0, 16, .inl (nA mp'))) ∧ h' (A 15) = some (35, .inl (G.2.2.1 0, 16, .inl (nA sd'))) ∧ h' (A 16) = some (36, .inl (G.2.2.1 0, 16, .inl (nA rc'))) ∧ h' (A 17) = some (37, .inl (G.2.2.1 0, 16, .inl (nA pr'))) ∧ h' (A 18) = some (38, .inl (G.2.2.1 0, 16, .inl (nA th'))) ∧ h' (A 19) = some (39, .inl (G.2.2.1 0, 16, .inl (nA sm'))) ∧ h' (A 21) = some (41, .inl (G.2.2.1 0, 4080, .inl pc')) ∧ h' (A 22) = some (42, .inl (G.2.2.1 0, 652800, .inl (nA pu'))) ∧ h' (A 26) = some (46, .inl (G.2.2.1 0, 200, .inl (nA ua'))) ∧ agr (fun t => t ≠ 20 ∧ t ≠ 32 ∧ ¬ (34 ≤ t ∧ t ≤ 39) ∧ t ≠ 41 ∧ t ≠ 42 ∧ t ≠ 46) h h')) ([.ref y, .int (nI s9)] : List Value).toArray s 0 0 (ah_A G)) (F0 m 329 ls []) := by
                              intro N329
                              induction N329 with
                              | zero => intro k hB9 H locs ls hN; exact absurd hN (Nat.not_lt_zero _)
                              | succ N329 ih329 =>
                                intro k hB9 H locs ls hN329 hk2 agB fyB fa1B fa2B fa12B fa14B fa15B fa16B fa17B fa18B fa19B fa21B fa22B fa24B fa26B hR hS hl
                                refine lv_iload hx hb dX9_reads_329 (lv_at hl 0 rfl) ?_
                                refine lv_aload_n hx hb dX9_reads_331 rfl (lv_at hl 4 rfl) ?_
                                refine ah_get (ci := 8) (v := .ref (A 21)) (C := RX9) (T := TX9) (N := 27) hx hb hE hR hts hinX9 hown fyB rfl 21 (by decide) k51 (fun _ h9 => h9) rfl dX9_reads_332 ?_
                                refine lv_iload hx hb dX9_reads_335 (lv_at hl 1 rfl) ?_
                                refine ah_iald (i := (255 * mp1 p9 + q)) hx hb hE hR fa21B (by omega) (by omega) dX9_reads_337 ?_
                                refine ah_toi (v := nI ((Ls q).length)) (hpc2 q (by omega)).1 ?_
                                refine lv_icmp_ge (tgt := 380) hx hb dX9_reads_338 (by decide) (fun c_98 => ?_) (fun c_98 => ?_)
                                · skip
                                  have c_98 : ((Ls q).length) ≤ k := (nI_leI (by omega) (by omega)).mp c_98
                                  have ekq : k = (Ls q).length := by omega
                                  have f_99 : hB9 (A 12) = some (32, .inl (G.2.2.1 0, 40800, .inl (nA (cpF la1 (totU Ls q) (fun j => pu2 (160 * (255 * mp1 p9 + q) + j)) (Ls q).length)))) := by rw [← ekq]; exact fa12B
                                  have f_100 : hB9 y = some (20, .inr (8, mF A k0 n rf pm zh (totU Ls (q + 1)) c1 (pt + 1) gv L.length)) := by rw [show totU Ls (q + 1) = totU Ls q + k by rw [ekq]; rfl]; exact fyB
                                  refine lv_iinc (v := nI (q + 1)) (lv' := [(5, .int (nI (q + 1))), (7, .int (nI k)), (6, .int (nI (255 * mp1 p9 + q))), (3, .int (nI p9)), (0, .ref y)]) hx hb dX9_reads_380 hl (k := 2) rfl (show nI q + Int32.ofInt 1 = nI (q + 1) from nI_add _ 1) (by decide) rfl (fun ls hl => ?_)
                                  refine lv_goto (tgt := 300) hx hb dX9_reads_383 (by decide) ?_
                                  exact ih300  (q + 1) (cpF la1 (totU Ls q) (fun j => pu2 (160 * (255 * mp1 p9 + q) + j)) (Ls q).length) hB9 _ _ ls (by omega) (by omega) (lat_s hla (fun j hj => (hpc2 q (by omega)).2 j hj)) agB f_100 fa1B fa2B f_99 fa14B fa15B fa16B fa17B fa18B fa19B fa21B fa22B fa24B fa26B hR hS (lv_sub hl [0, 3, 4] rfl)
                                · skip
                                  have c_98 : ¬ (((Ls q).length) ≤ k) := fun z9 => c_98 ((nI_leI (by omega) (by omega)).mpr z9)
                                  refine lv_aload_n hx hb dX9_reads_341 rfl (lv_at hl 4 rfl) ?_
                                  refine ah_get (ci := 8) (v := .ref (A 12)) (C := RX9) (T := TX9) (N := 27) hx hb hE hR hts hinX9 hown fyB rfl 12 (by decide) k30 (fun _ h9 => h9) rfl dX9_reads_342 ?_
                                  refine lv_aload_n hx hb dX9_reads_345 rfl (lv_at hl 4 rfl) ?_
                                  refine ah_get (ci := 8) (v := .int (nI (totU Ls q + k))) (C := RX9) (T := TX9) (N := 27) hx hb hE hR hts hinX9 hown fyB rfl 11 (by decide) k110 (fun _ h9 => h9) rfl dX9_reads_346 ?_
                                  refine lv_aload_n hx hb dX9_reads_349 rfl (lv_at hl 4 rfl) ?_
                                  refine ah_get (ci := 8) (v := .ref (A 22)) (C := RX9) (T := TX9) (N := 27) hx hb hE hR hts hinX9 hown fyB rfl 22 (by decide) k55 (fun _ h9 => h9) rfl dX9_reads_350 ?_
                                  refine lv_sipush (v := nI 160) hx hb dX9_reads_353 (by decide) ?_
                                  refine lv_iload hx hb dX9_reads_356 (lv_at hl 1 rfl) ?_
                                  refine lv_imul hx hb dX9_reads_358 ?_
                                  refine ah_toi (v := nI (160 * (255 * mp1 p9 + q))) (pk_mul _ _) ?_
                                  refine lv_iload hx hb dX9_reads_359 (lv_at hl 0 rfl) ?_
                                  refine lv_iadd hx hb dX9_reads_361 ?_
                                  refine ah_toi (v := nI ((160 * (255 * mp1 p9 + q)) + k)) (nI_add _ _) ?_
                                  refine ah_iald (i := ((160 * (255 * mp1 p9 + q)) + k)) hx hb hE hR fa22B (by omega) (by omega) dX9_reads_362 ?_
                                  refine ah_toi (v := nI (pu2 ((160 * (255 * mp1 p9 + q)) + k))) rfl ?_
                                  refine ah_iast (i := (totU Ls q + k)) hx hb hE hR hS fa12B (by omega) (by omega) dX9_reads_363 (fun H locs hR hS => ?_)
                                  rw [nA_upd] at hR
                                  obtain ⟨h_101, e_102⟩ : ∃ zz9, zz9 = ah_up hB9 (A 12) (32, .inl (G.2.2.1 0, 40800, .inl (nA (gU (cpF la1 (totU Ls q) (fun j => pu2 (160 * (255 * mp1 p9 + q) + j)) k) (totU Ls q + k) (pu2 ((160 * (255 * mp1 p9 + q)) + k)))))) := ⟨_, rfl⟩
                                  have hR : ah_R G h_101 H := by rw [e_102]; exact hR
                                  have f_103 : h_101 y = some (20, .inr (8, mF A k0 n rf pm zh (totU Ls q + k) c1 (pt + 1) gv L.length)) := by rw [e_102]; exact ah_keep fyB fa12B (by omega)
                                  have f_104 : h_101 (A 1) = some (21, .inl (G.2.2.1 0, 128, .inl plT)) := by rw [e_102]; exact ah_keep fa1B fa12B (by omega)
                                  have f_105 : h_101 (A 2) = some (22, .inl (G.2.2.1 0, 128, .inl esT)) := by rw [e_102]; exact ah_keep fa2B fa12B (by omega)
                                  have f_106 : h_101 (A 12) = some (32, .inl (G.2.2.1 0, 40800, .inl (nA (gU (cpF la1 (totU Ls q) (fun j => pu2 (160 * (255 * mp1 p9 + q) + j)) k) (totU Ls q + k) (pu2 ((160 * (255 * mp1 p9 + q)) + k)))))) := by rw [e_102]; exact ah_up_s _ _ _
                                  have f_107 : h_101 (A 14) = some (34, .inl (G.2.2.1 0, 16, .inl (nA mp1))) := by rw [e_102]; exact ah_keep fa14B fa12B (by omega)
                                  have f_108 : h_101 (A 15) = some (35, .inl (G.2.2.1 0, 16, .inl (nA sd1))) := by rw [e_102]; exact ah_keep fa15B fa12B (by omega)
                                  have f_109 : h_101 (A 16) = some (36, .inl (G.2.2.1 0, 16, .inl (nA rc1))) := by rw [e_102]; exact ah_keep fa16B fa12B (by omega)
                                  have f_110 : h_101 (A 17) = some (37, .inl (G.2.2.1 0, 16, .inl (nA pr1))) := by rw [e_102]; exact ah_keep fa17B fa12B (by omega)
                                  have f_111 : h_101 (A 18) = some (38, .inl (G.2.2.1 0, 16, .inl (nA th2))) := by rw [e_102]; exact ah_keep fa18B fa12B (by omega)
                                  have f_112 : h_101 (A 19) = some (39, .inl (G.2.2.1 0, 16, .inl (nA sm2))) := by rw [e_102]; exact ah_keep fa19B fa12B (by omega)
                                  have f_113 : h_101 (A 21) = some (41, .inl (G.2.2.1 0, 4080, .inl pc2)) := by rw [e_102]; exact ah_keep fa21B fa12B (by omega)
                                  have f_114 : h_101 (A 22) = some (42, .inl (G.2.2.1 0, 652800, .inl (nA pu2))) := by rw [e_102]; exact ah_keep fa22B fa12B (by omega)
                                  have f_115 : h_101 (A 24) = some (44, .inl (G.2.2.1 0, 200, .inl (nA pa))) := by rw [e_102]; exact ah_keep fa24B fa12B (by omega)
                                  have f_116 : h_101 (A 26) = some (46, .inl (G.2.2.1 0, 200, .inl (nA u2))) := by rw [e_102]; exact ah_keep fa26B fa12B (by omega)
                                  have f_117 : h_101 (A 12) = some (32, .inl (G.2.2.1 0, 40800, .inl (nA (cpF la1 (totU Ls q) (fun j => pu2 (160 * (255 * mp1 p9 + q) + j)) (k + 1))))) := by rw [← cpF_s]; exact f_106
                                  refine lv_aload_n hx hb dX9_reads_364 rfl (lv_at hl 4 rfl) ?_
                                  refine lv_dup hx hb dX9_reads_365 rfl ?_
                                  refine ah_get (ci := 8) (v := .int (nI (totU Ls q + k))) (C := RX9) (T := TX9) (N := 27) hx hb hE hR hts hinX9 hown f_103 rfl 11 (by decide) k110 (fun _ h9 => h9) rfl dX9_reads_366 ?_
                                  refine lv_iconst (v := nI 1) hx hb dX9_reads_369 (by decide) ?_
                                  refine lv_iadd hx hb dX9_reads_370 ?_
                                  refine ah_toi (v := nI ((totU Ls q + k) + 1)) (nI_add _ _) ?_
                                  refine ah_put (ci := 8) (v := .int (nI ((totU Ls q + k) + 1))) (ty := .int) (C := RX9) (T := TX9) (N := 27) hx hb hE hR hS hts hinX9 tyX9 tyX9_ok nmX9 hown f_103 rfl 11 (by decide) k110 (fun _ h9 => h9) rfl (by decide +kernel) rfl rfl (Nat.le_of_ble_eq_true rfl) dX9_reads_371 (fun H locs hR hS => ?_)
                                  obtain ⟨h_118, e_119⟩ : ∃ zz9, zz9 = ah_up h_101 y (20, .inr (8, mF A k0 n rf pm zh ((totU Ls q + k) + 1) c1 (pt + 1) gv L.length)) := ⟨_, rfl⟩
                                  have hR : ah_R G h_118 H := by rw [e_119]; exact hR
                                  have f_120 : h_118 y = some (20, .inr (8, mF A k0 n rf pm zh ((totU Ls q + k) + 1) c1 (pt + 1) gv L.length)) := by rw [e_119]; exact ah_up_s _ _ _
                                  have f_121 : h_118 (A 1) = some (21, .inl (G.2.2.1 0, 128, .inl plT)) := by rw [e_119]; exact ah_keep f_104 f_103 (by omega)
                                  have f_122 : h_118 (A 2) = some (22, .inl (G.2.2.1 0, 128, .inl esT)) := by rw [e_119]; exact ah_keep f_105 f_103 (by omega)
                                  have f_123 : h_118 (A 12) = some (32, .inl (G.2.2.1 0, 40800, .inl (nA (cpF la1 (totU Ls q) (fun j => pu2 (160 * (255 * mp1 p9 + q) + j)) (k + 1))))) := by rw [e_119]; exact ah_keep f_117 f_103 (by omega)
                                  have f_124 : h_118 (A 14) = some (34, .inl (G.2.2.1 0, 16, .inl (nA mp1))) := by rw [e_119]; exact ah_keep f_107 f_103 (by omega)
                                  have f_125 : h_118 (A 15) = some (35, .inl (G.2.2.1 0, 16, .inl (nA sd1))) := by rw [e_119]; exact ah_keep f_108 f_103 (by omega)
                                  have f_126 : h_118 (A 16) = some (36, .inl (G.2.2.1 0, 16, .inl (nA rc1))) := by rw [e_119]; exact ah_keep f_109 f_103 (by omega)
                                  have f_127 : h_118 (A 17) = some (37, .inl (G.2.2.1 0, 16, .inl (nA pr1))) := by rw [e_119]; exact ah_keep f_110 f_103 (by omega)
                                  have f_128 : h_118 (A 18) = some (38, .inl (G.2.2.1 0, 16, .inl (nA th2))) := by rw [e_119]; exact ah_keep f_111 f_103 (by omega)
                                  have f_129 : h_118 (A 19) = some (39, .inl (G.2.2.1 0, 16, .inl (nA sm2))) := by rw [e_119]; exact ah_keep f_112 f_103 (by omega)
                                  have f_130 : h_118 (A 21) = some (41, .inl (G.2.2.1 0, 4080, .inl pc2)) := by rw [e_119]; exact ah_keep f_113 f_103 (by omega)
                                  have f_131 : h_118 (A 22) = some (42, .inl (G.2.2.1 0, 652800, .inl (nA pu2))) := by rw [e_119]; exact ah_keep f_114 f_103 (by omega)
                                  have f_132 : h_118 (A 24) = some (44, .inl (G.2.2.1 0, 200, .inl (nA pa))) := by rw [e_119]; exact ah_keep f_115 f_103 (by omega)
                                  have f_133 : h_118 (A 26) = some (46, .inl (G.2.2.1 0, 200, .inl (nA u2))) := by rw [e_119]; exact ah_keep f_116 f_103 (by omega)
                                  refine lv_iinc (v := nI (k + 1)) (lv' := [(7, .int (nI (k + 1))), (6, .int (nI (255 * mp1 p9 + q))), (5, .int (nI q)), (3, .int (nI p9)), (0, .ref y)]) hx hb dX9_reads_374 hl (k := 0) rfl (show nI k + Int32.ofInt 1 = nI (k + 1) from nI_add _ 1) (by decide) rfl (fun ls hl => ?_)
                                  refine lv_goto (tgt := 329) hx hb dX9_reads_377 (by decide) ?_
                                  exact ih329  (k + 1) h_118 _ _ ls (by omega) (by omega) (agB.tr (by rw [e_119]; refine agr.up ?_ f_103 (by omega); rw [e_102]; refine agr.up ?_ fa12B (by omega); exact agr.rf)) f_120 f_121 f_122 f_123 f_124 f_125 f_126 f_127 f_128 f_129 f_130 f_131 f_132 f_133 hR hS (lv_sub hl [0, 1, 2, 3, 4] rfl)
                            exact L329 (((Ls q).length - 0) + 1) 0 hA _ _ ls (by omega) (by omega) agA iy fa1A fa2A i0 fa14A fa15A fa16A fa17A fa18A fa19A fa21A fa22A fa24A fa26A hR hS (lv_sub hl [0, 1, 2, 3, 4] rfl)
                      exact L300 ((pa 6 - 0) + 1) 0 la h_78 _ _ ls (by omega) (by omega) (fun r hr9 => absurd hr9 (Nat.not_lt_zero r)) ag9 f_80 f_81 f_82 f_83 f_84 f_85 f_86 f_87 f_88 f_89 f_90 f_91 f_92 f_93 hR hS (lv_sub hl [0, 2, 3] rfl)
                    · skip
                      have c_77 : ¬ ((pr1 p9) ≤ (th2 p9)) := fun z9 => c_77 ((nI_leI (by omega) (by omega)).mpr z9)
                      refine lv_iconst (v := nI 0) hx hb dX9_reads_290 (by decide) ?_
                      refine ah_iret (v := nI 0) hx hb hr hlocks hR hS dX9_reads_291 ?_
                      exact ⟨c1, pt + 1, lc, L.length, va_up D1 p9 (0, 0, d_s (D1 p9), d_r (D1 p9), d_n (D1 p9), d_t (D1 p9) + 1, 0, pt + 1, (fun _ => none), va_up (d_L (D1 p9)) (pa 7 - 1) (some L)), none, la, mp1, sd1, rc1, pr1, th2, sm2, pc2, pu2, u2, Or.inr (Or.inr ⟨hf0, hd1, 0, rfl, c1, p9, D1, sel1, Or.inr ⟨eo9, rfl, (0, 0, d_s (D1 p9), d_r (D1 p9), d_n (D1 p9), d_t (D1 p9) + 1, 0, pt + 1, (fun _ => none), va_up (d_L (D1 p9)) (pa 7 - 1) (some L)), (by rw [← eL]; exact hadd), Or.inl ⟨by omega, rfl, rfl, rfl, rfl⟩⟩⟩), hr2, fun _ => ⟨rfl, rfl⟩, fun _ q9 => (nomatch q9), f_61, f_64, f_65, f_66, f_67, f_68, f_75, f_76, f_71, f_72, f_74, ag4.tr ag7⟩
                  · skip
                    have c_25 : ¬ (L.length ≤ k) := fun z9 => c_25 ((nI_leI (by omega) (by omega)).mpr z9)
                    refine lv_aload_n hx hb dX9_reads_218 rfl (lv_at hl 3 rfl) ?_
                    refine ah_get (ci := 8) (v := .ref (A 22)) (C := RX9) (T := TX9) (N := 27) hx hb hE hR hts hinX9 hown fy6 rfl 22 (by decide) k55 (fun _ h9 => h9) rfl dX9_reads_219 ?_
                    refine lv_sipush (v := nI 160) hx hb dX9_reads_222 (by decide) ?_
                    refine lv_iload hx hb dX9_reads_225 (lv_at hl 1 rfl) ?_
                    refine lv_imul hx hb dX9_reads_227 ?_
                    refine ah_toi (v := nI (160 * (255 * mp1 p9 + (pa 7 - 1)))) (pk_mul _ _) ?_
                    refine lv_iload hx hb dX9_reads_228 (lv_at hl 0 rfl) ?_
                    refine lv_iadd hx hb dX9_reads_230 ?_
                    refine ah_toi (v := nI ((160 * (255 * mp1 p9 + (pa 7 - 1))) + k)) (nI_add _ _) ?_
                    refine lv_aload_n hx hb dX9_reads_231 rfl (lv_at hl 3 rfl) ?_
                    refine ah_get (ci := 8) (v := .ref (A 26)) (C := RX9) (T := TX9) (N := 27) hx hb hE hR hts hinX9 hown fy6 rfl 26 (by decide) k61 (fun _ h9 => h9) rfl dX9_reads_232 ?_
                    refine lv_iload hx hb dX9_reads_235 (lv_at hl 0 rfl) ?_
                    refine ah_iald (i := k) hx hb hE hR fa266 (by omega) (by omega) dX9_reads_237 ?_
                    refine ah_toi (v := nI (u2 k)) rfl ?_
                    refine ah_iast (i := ((160 * (255 * mp1 p9 + (pa 7 - 1))) + k)) hx hb hE hR hS fa226 (by omega) (by omega) dX9_reads_238 (fun H locs hR hS => ?_)
                    rw [nA_upd] at hR
                    obtain ⟨h_134, e_135⟩ : ∃ zz9, zz9 = ah_up h6 (A 22) (42, .inl (G.2.2.1 0, 652800, .inl (nA (gU (cpF pu (160 * (255 * mp1 p9 + (pa 7 - 1))) u2 k) ((160 * (255 * mp1 p9 + (pa 7 - 1))) + k) (u2 k))))) := ⟨_, rfl⟩
                    have hR : ah_R G h_134 H := by rw [e_135]; exact hR
                    have f_136 : h_134 y = some (20, .inr (8, mF A k0 n rf pm zh lc c1 pt gv L.length)) := by rw [e_135]; exact ah_keep fy6 fa226 (by omega)
                    have f_137 : h_134 (A 1) = some (21, .inl (G.2.2.1 0, 128, .inl plT)) := by rw [e_135]; exact ah_keep fa16 fa226 (by omega)
                    have f_138 : h_134 (A 2) = some (22, .inl (G.2.2.1 0, 128, .inl esT)) := by rw [e_135]; exact ah_keep fa26 fa226 (by omega)
                    have f_139 : h_134 (A 12) = some (32, .inl (G.2.2.1 0, 40800, .inl (nA la))) := by rw [e_135]; exact ah_keep fa126 fa226 (by omega)
                    have f_140 : h_134 (A 14) = some (34, .inl (G.2.2.1 0, 16, .inl (nA mp1))) := by rw [e_135]; exact ah_keep fa146 fa226 (by omega)
                    have f_141 : h_134 (A 15) = some (35, .inl (G.2.2.1 0, 16, .inl (nA sd1))) := by rw [e_135]; exact ah_keep fa156 fa226 (by omega)
                    have f_142 : h_134 (A 16) = some (36, .inl (G.2.2.1 0, 16, .inl (nA rc1))) := by rw [e_135]; exact ah_keep fa166 fa226 (by omega)
                    have f_143 : h_134 (A 17) = some (37, .inl (G.2.2.1 0, 16, .inl (nA pr1))) := by rw [e_135]; exact ah_keep fa176 fa226 (by omega)
                    have f_144 : h_134 (A 18) = some (38, .inl (G.2.2.1 0, 16, .inl (nA th1))) := by rw [e_135]; exact ah_keep fa186 fa226 (by omega)
                    have f_145 : h_134 (A 19) = some (39, .inl (G.2.2.1 0, 16, .inl (nA sm1))) := by rw [e_135]; exact ah_keep fa196 fa226 (by omega)
                    have f_146 : h_134 (A 21) = some (41, .inl (G.2.2.1 0, 4080, .inl pc2)) := by rw [e_135]; exact ah_keep fa216 fa226 (by omega)
                    have f_147 : h_134 (A 22) = some (42, .inl (G.2.2.1 0, 652800, .inl (nA (gU (cpF pu (160 * (255 * mp1 p9 + (pa 7 - 1))) u2 k) ((160 * (255 * mp1 p9 + (pa 7 - 1))) + k) (u2 k))))) := by rw [e_135]; exact ah_up_s _ _ _
                    have f_148 : h_134 (A 24) = some (44, .inl (G.2.2.1 0, 200, .inl (nA pa))) := by rw [e_135]; exact ah_keep fa246 fa226 (by omega)
                    have f_149 : h_134 (A 26) = some (46, .inl (G.2.2.1 0, 200, .inl (nA u2))) := by rw [e_135]; exact ah_keep fa266 fa226 (by omega)
                    have f_150 : h_134 (A 22) = some (42, .inl (G.2.2.1 0, 652800, .inl (nA (cpF pu (160 * (255 * mp1 p9 + (pa 7 - 1))) u2 (k + 1))))) := by rw [← cpF_s]; exact f_147
                    refine lv_iinc (v := nI (k + 1)) (lv' := [(5, .int (nI (k + 1))), (4, .int (nI (255 * mp1 p9 + (pa 7 - 1)))), (3, .int (nI p9)), (0, .ref y)]) hx hb dX9_reads_239 hl (k := 0) rfl (show nI k + Int32.ofInt 1 = nI (k + 1) from nI_add _ 1) (by decide) rfl (fun ls hl => ?_)
                    refine lv_goto (tgt := 209) hx hb dX9_reads_242 (by decide) ?_
                    exact ih209  (k + 1) h_134 _ _ ls (by omega) (by omega) (ag6.tr (by rw [e_135]; refine agr.up ?_ fa226 (by omega); exact agr.rf)) f_136 f_137 f_138 f_139 f_140 f_141 f_142 f_143 f_144 f_145 f_146 f_150 f_148 f_149 hR hS (lv_sub hl [0, 1, 2, 3] rfl)
              exact L209 ((L.length - 0) + 1) 0 h_8 _ _ ls (by omega) (by omega) ag5 f_10 f_11 f_12 f_13 f_14 f_15 f_16 f_17 f_18 f_19 f_24 p0 f_22 f_23 hR hS (lv_sub hl [0, 1, 2, 3] rfl)
            · skip
              exact absurd hc1a c_7
        refine lv_iconst (v := (-1)) hx hb dX9_reads_61 (by decide) ?_
        refine lv_istore_n (lv' := [(3, .int (-1)), (2, .int (nI 0)), (0, .ref y), (1, .int (nI s9))]) hx hb dX9_reads_62 rfl hl (by decide) rfl (fun ls hl => ?_)
        refine lv_iconst (v := nI 0) hx hb dX9_reads_63 (by decide) ?_
        refine lv_istore (lv' := [(4, .int (nI 0)), (3, .int (-1)), (2, .int (nI 0)), (0, .ref y), (1, .int (nI s9))]) hx hb dX9_reads_64 hl (by decide) rfl (fun ls hl => ?_)
        have L66 : ∀ (N66 : Nat) (k : Nat) (o : Int32) (H : Heap) (locs : List Loc) (ls : Array Slot), c - k < N66 → (k ≤ c) → (fndR D s9 (pa 5) (pa 6) k o) → (h_1 y = some (20, .inr (8, mF A k0 n rf pm zh lc c pt gv L.length))) → (h_1 (A 1) = some (21, .inl (G.2.2.1 0, 128, .inl plT))) → (h_1 (A 2) = some (22, .inl (G.2.2.1 0, 128, .inl esT))) → (h_1 (A 12) = some (32, .inl (G.2.2.1 0, 40800, .inl (nA la)))) → (h_1 (A 14) = some (34, .inl (G.2.2.1 0, 16, .inl (nA mp)))) → (h_1 (A 15) = some (35, .inl (G.2.2.1 0, 16, .inl (nA sd)))) → (h_1 (A 16) = some (36, .inl (G.2.2.1 0, 16, .inl (nA rc)))) → (h_1 (A 17) = some (37, .inl (G.2.2.1 0, 16, .inl (nA pr)))) → (h_1 (A 18) = some (38, .inl (G.2.2.1 0, 16, .inl (nA th)))) → (h_1 (A 19) = some (39, .inl (G.2.2.1 0, 16, .inl (nA sm)))) → (h_1 (A 21) = some (41, .inl (G.2.2.1 0, 4080, .inl pc))) → (h_1 (A 22) = some (42, .inl (G.2.2.1 0, 652800, .inl (nA pu)))) → (h_1 (A 24) = some (44, .inl (G.2.2.1 0, 200, .inl (nA pa)))) → (h_1 (A 26) = some (46, .inl (G.2.2.1 0, 200, .inl (nA u2)))) → ah_R G h_1 H → va_S (ah_A G) s.heap H locs → lv_has ls 8 [(4, .int (nI k)), (3, .int o), (0, .ref y), (1, .int (nI s9))] → W p l e ({ frames := 3, cells := 0, slots := 0, locals := 73 }) s m ([.ref y, .int (nI s9)] : List Value).toArray below meth cd9 H locs 0 0 (MQ below (ah_Qi G (fun v h' => ∃ (c' pt' lc' un' : Nat) (D' : Nat → hDt) (lt : Option (Nat × (Nat → List Nat))) (la' mp' sd' rc' pr' th' sm' : Nat → Nat) (pc' : Nat → Int32) (pu' ua' : Nat → Nat), accR c pt D pa gv s9 v c' pt' D' lt ∧ HR c' D' mp' sd' rc' pr' th' sm' pc' pu' c' ∧ (lt = none → lc' = lc ∧ la' = la) ∧ (∀ x, lt = some x → lrel x lc' la') ∧ h' y = some (20, .inr (8, mF A k0 n rf pm zh lc' c' pt' gv un')) ∧ h' (A 12) = some (32, .inl (G.2.2.1 0, 40800, .inl (nA la'))) ∧ h' (A 14) = some (34, .inl (G.2.2.1 0, 16, .inl (nA mp'))) ∧ h' (A 15) = some (35, .inl (G.2.2.1 0, 16, .inl (nA sd'))) ∧ h' (A 16) = some (36, .inl (G.2.2.1 0, 16, .inl (nA rc'))) ∧ h' (A 17) = some (37, .inl (G.2.2.1 0, 16, .inl (nA pr'))) ∧ h' (A 18) = some (38, .inl (G.2.2.1 0, 16, .inl (nA th'))) ∧ h' (A 19) = some (39, .inl (G.2.2.1 0, 16, .inl (nA sm'))) ∧ h' (A 21) = some (41, .inl (G.2.2.1 0, 4080, .inl pc')) ∧ h' (A 22) = some (42, .inl (G.2.2.1 0, 652800, .inl (nA pu'))) ∧ h' (A 26) = some (46, .inl (G.2.2.1 0, 200, .inl (nA ua'))) ∧ agr (fun t => t ≠ 20 ∧ t ≠ 32 ∧ ¬ (34 ≤ t ∧ t ≤ 39) ∧ t ≠ 41 ∧ t ≠ 42 ∧ t ≠ 46) h h')) ([.ref y, .int (nI s9)] : List Value).toArray s 0 0 (ah_A G)) (F0 m 66 ls []) := by
          intro N66
          induction N66 with
          | zero => intro k o  H locs ls hN; exact absurd hN (Nat.not_lt_zero _)
          | succ N66 ih66 =>
            intro k o  H locs ls hN66 hk fnd fy2 q21 q22 q212 q214 q215 q216 q217 q218 q219 q221 q222 q224 fa262 hR hS hl
            refine lv_iload hx hb dX9_reads_66 (lv_at hl 0 rfl) ?_
            refine lv_aload_n hx hb dX9_reads_68 rfl (lv_at hl 2 rfl) ?_
            refine ah_get (ci := 8) (v := .int (nI c)) (C := RX9) (T := TX9) (N := 27) hx hb hE hR hts hinX9 hown fy2 rfl 13 (by decide) k107 (fun _ h9 => h9) rfl dX9_reads_69 ?_
            refine lv_icmp_ge (tgt := 132) hx hb dX9_reads_72 (by decide) (fun c_151 => ?_) (fun c_151 => ?_)
            · skip
              have c_151 : c ≤ k := (nI_leI (by omega) (by omega)).mp c_151
              have ekc : k = c := by omega
              rw [ekc] at fnd
              rcases fnd with ⟨eo, hno⟩ | ⟨i9, hi9, hy9, eo⟩
              · skip
                rw [eo] at hl
                refine lv_iload_n hx hb dX9_reads_132 rfl (lv_at hl 1 rfl) ?_
                refine lv_iconst (v := (-1)) hx hb dX9_reads_133 (by decide) ?_
                refine lv_icmp_ne (tgt := 158) hx hb dX9_reads_134 (by decide) (fun c_152 => ?_) (fun c_152 => ?_)
                · skip
                  exact absurd rfl c_152
                · skip
                  refine lv_aload_n hx hb dX9_reads_137 rfl (lv_at hl 2 rfl) ?_
                  refine lv_iload_n hx hb dX9_reads_138 rfl (lv_at hl 3 rfl) ?_
                  refine lv_aload_n hx hb dX9_reads_139 rfl (lv_at hl 2 rfl) ?_
                  refine ah_get (ci := 8) (v := .ref (A 24)) (C := RX9) (T := TX9) (N := 27) hx hb hE hR hts hinX9 hown fy2 rfl 24 (by decide) k58 (fun _ h9 => h9) rfl dX9_reads_140 ?_
                  refine lv_iconst (v := nI 5) hx hb dX9_reads_143 (by decide) ?_
                  refine ah_iald (i := 5) hx hb hE hR q224 (by omega) (by omega) dX9_reads_144 ?_
                  refine ah_toi (v := nI (pa 5)) rfl ?_
                  refine lv_aload_n hx hb dX9_reads_145 rfl (lv_at hl 2 rfl) ?_
                  refine ah_get (ci := 8) (v := .ref (A 24)) (C := RX9) (T := TX9) (N := 27) hx hb hE hR hts hinX9 hown fy2 rfl 24 (by decide) k58 (fun _ h9 => h9) rfl dX9_reads_146 ?_
                  refine lv_bipush (v := nI 6) hx hb dX9_reads_149 (by decide) ?_
                  refine ah_iald (i := 6) hx hb hE hR q224 (by omega) (by omega) dX9_reads_151 ?_
                  refine ah_toi (v := nI (pa 6)) rfl ?_
                  refine ah_calli (va_runV (As := [.int (nI s9), .int (nI (pa 5)), .int (nI (pa 6))]) (rest := []) ⟨hx, hb, hml, hown, hts⟩ (c_m_begin l G h_1 y A k0 n rf pm zh lc c pt gv L.length fy2 mp q214 sd q215 rc q216 pr q217 th q218 sm q219 pc q221 hc s9 (pa 5) (pa 6) (fun i hi => by rw [(hHR.1 i hi).2.2.2.2.2.1 (by omega)]; exact (hDB i hi).2.2.2.2.2.1) (fun i hi => (hHR.1 i hi).1)) (cwV 3 hts gX9_reads_X9_begin rfl rfl rfl (by decide +kernel) ⟨Nat.le_of_ble_eq_true rfl, Nat.le_of_ble_eq_true rfl⟩) (ah_preV hE hR hS fy2 rfl) rfl rfl hl.1 rfl (lv_room (Nat.le_of_ble_eq_true rfl)) dX9_reads_152 ⟨Nat.le_of_ble_eq_true rfl, Nat.le_of_ble_eq_true rfl⟩) hS (fun r_155 h_153 H locs p_154 hR hS => ?_)
                  obtain ⟨c8, pl8, m1, m2, m3, m4, m5, m6, ev8, hc8, em8, hp8, hf8, gy, g14, g15, g16, g17, g18, g19, g21, ag8⟩ := p_154
                  obtain ⟨ec8, hr8⟩ := hHR.ev em8
                  have db8 := hDB.ev hc
                  rw [← ec8] at db8
                  have frs : freshH s9 (pa 5) (pa 6) (0, 0, s9, pa 5, pa 6, 0, 0, 0, (fun _ => none), (fun _ => none)) := ⟨rfl, rfl, rfl, rfl, rfl, rfl, rfl⟩
                  have hr7 := hr8.push (Nat.le_refl c8) hp8 hf8 frs (by omega) (fun i hi => (db8 i hi).2.2.2.1) (pc' := pcN pc pl8 255) (fun k hk => if_pos (by omega)) (fun q hq => if_neg (by omega))
                  have db7 := db8.push frs hs9 (by omega) (by omega) (by omega)
                  have w1 : h_153 (A 1) = some (21, .inl (G.2.2.1 0, 128, .inl plT)) := ag8 _ _ _ (by omega) q21
                  have w2 : h_153 (A 2) = some (22, .inl (G.2.2.1 0, 128, .inl esT)) := ag8 _ _ _ (by omega) q22
                  have w12 : h_153 (A 12) = some (32, .inl (G.2.2.1 0, 40800, .inl (nA la))) := ag8 _ _ _ (by omega) q212
                  have w22 : h_153 (A 22) = some (42, .inl (G.2.2.1 0, 652800, .inl (nA pu))) := ag8 _ _ _ (by omega) q222
                  have w24 : h_153 (A 24) = some (44, .inl (G.2.2.1 0, 200, .inl (nA pa))) := ag8 _ _ _ (by omega) q224
                  have w26 : h_153 (A 26) = some (46, .inl (G.2.2.1 0, 200, .inl (nA u2))) := ag8 _ _ _ (by omega) fa262
                  refine ah_toi ev8 ?_
                  refine lv_goto (tgt := 159) hx hb dX9_reads_155 (by decide) ?_
                  refine lv_istore_n (lv' := [(3, .int (nI c8)), (4, .int (nI k)), (0, .ref y), (1, .int (nI s9))]) hx hb dX9_reads_159 rfl hl (by decide) rfl (fun ls hl => ?_)
                  exact J160 (c8 + 1) c8 c8 (va_up (evc c D).2 c8 (0, 0, s9, pa 5, pa 6, 0, 0, 0, (fun _ => none), (fun _ => none))) (gU m1 c8 pl8) (gU m2 c8 s9) (gU m3 c8 (pa 5)) (gU m4 c8 (pa 6)) (gU m5 c8 0) m6 (pcN pc pl8 255) h_153 _ _ ls (Or.inr ⟨hno, ec8, rfl, _, frs, rfl⟩) hr7 (Or.inr ⟨rfl, fun k => by rw [va_up_self]⟩) db7 (by omega) (by rw [va_up_self]) (by omega) ((ag2.weak (fun t q => by omega)).tr (ag8.weak (fun t q => by omega))) gy w1 w2 w12 g14 g15 g16 g17 g18 g19 g21 w22 w24 w26 hR hS (lv_sub hl [0, 2, 3] rfl)
              · skip
                rw [eo] at hl
                refine lv_iload_n hx hb dX9_reads_132 rfl (lv_at hl 1 rfl) ?_
                refine lv_iconst (v := (-1)) hx hb dX9_reads_133 (by decide) ?_
                refine lv_icmp_ne (tgt := 158) hx hb dX9_reads_134 (by decide) (fun c_156 => ?_) (fun c_156 => ?_)
                · skip
                  refine lv_iload_n hx hb dX9_reads_158 rfl (lv_at hl 1 rfl) ?_
                  refine lv_istore_n (lv' := [(3, .int (nI i9)), (4, .int (nI k)), (0, .ref y), (1, .int (nI s9))]) hx hb dX9_reads_159 rfl hl (by decide) rfl (fun ls hl => ?_)
                  exact J160 c i9 c D mp sd rc pr th sm pc h_1 _ _ ls (Or.inl ⟨rfl, rfl, hi9, hy9, fun j hj q9 => by have z9 := huq j i9 (by omega) hi9 (q9.1.trans hy9.1.symm) (q9.2.1.trans hy9.2.1.symm) (q9.2.2.trans hy9.2.2.symm); omega⟩) hHR (Or.inl (Nat.le_refl c)) hDB hi9 hy9.2.2 hc (ag2.weak (fun t q => by omega)) fy2 q21 q22 q212 q214 q215 q216 q217 q218 q219 q221 q222 q224 fa262 hR hS (lv_sub hl [0, 2, 3] rfl)
                · skip
                  exact absurd c_156 (zi_ne (by omega))
            · skip
              have c_151 : ¬ (c ≤ k) := fun z9 => c_151 ((nI_leI (by omega) (by omega)).mpr z9)
              obtain ⟨x1, x2, x3, x4, -⟩ := hHR.1 k (by omega)
              obtain ⟨z1, z2, z3, z4, -⟩ := hDB k (by omega)
              have hih := hHR.hit (s := s9) (r := pa 5) (p := pa 6) (k := k) (by omega)
              refine lv_aload_n hx hb dX9_reads_75 rfl (lv_at hl 2 rfl) ?_
              refine ah_get (ci := 8) (v := .ref (A 15)) (C := RX9) (T := TX9) (N := 27) hx hb hE hR hts hinX9 hown fy2 rfl 15 (by decide) k36 (fun _ h9 => h9) rfl dX9_reads_76 ?_
              refine lv_iload hx hb dX9_reads_79 (lv_at hl 0 rfl) ?_
              refine ah_iald (i := k) hx hb hE hR q215 (by omega) (by omega) dX9_reads_81 ?_
              refine ah_toi (v := nI (sd k)) rfl ?_
              refine lv_iload_n hx hb dX9_reads_82 rfl (lv_at hl 3 rfl) ?_
              refine lv_icmp_ne (tgt := 124) hx hb dX9_reads_83 (by decide) (fun c_157 => ?_) (fun c_157 => ?_)
              · skip
                have c_157 : ¬ ((sd k) = s9) := fun z9 => c_157 ((nI_eq (by omega) (by omega)).mpr z9)
                refine lv_iload_n hx hb dX9_reads_124 rfl (lv_at hl 1 rfl) ?_
                refine lv_istore_n (lv' := [(3, .int o), (4, .int (nI k)), (0, .ref y), (1, .int (nI s9))]) hx hb dX9_reads_125 rfl hl (by decide) rfl (fun ls hl => ?_)
                refine lv_iinc (v := nI (k + 1)) (lv' := [(4, .int (nI (k + 1))), (3, .int o), (0, .ref y), (1, .int (nI s9))]) hx hb dX9_reads_126 hl (k := 1) rfl (show nI k + Int32.ofInt 1 = nI (k + 1) from nI_add _ 1) (by decide) rfl (fun ls hl => ?_)
                refine lv_goto (tgt := 66) hx hb dX9_reads_129 (by decide) ?_
                exact ih66  (k + 1) o _ _ ls (by omega) (by omega) (fndR_n fnd (fun q9 => c_157 (hih.mp q9).1)) fy2 q21 q22 q212 q214 q215 q216 q217 q218 q219 q221 q222 q224 fa262 hR hS (lv_sub hl [0, 1, 2, 3] rfl)
              · skip
                have c_157 : (sd k) = s9 := (nI_eq (by omega) (by omega)).mp c_157
                refine lv_aload_n hx hb dX9_reads_86 rfl (lv_at hl 2 rfl) ?_
                refine ah_get (ci := 8) (v := .ref (A 16)) (C := RX9) (T := TX9) (N := 27) hx hb hE hR hts hinX9 hown fy2 rfl 16 (by decide) k39 (fun _ h9 => h9) rfl dX9_reads_87 ?_
                refine lv_iload hx hb dX9_reads_90 (lv_at hl 0 rfl) ?_
                refine ah_iald (i := k) hx hb hE hR q216 (by omega) (by omega) dX9_reads_92 ?_
                refine ah_toi (v := nI (rc k)) rfl ?_
                refine lv_aload_n hx hb dX9_reads_93 rfl (lv_at hl 2 rfl) ?_
                refine ah_get (ci := 8) (v := .ref (A 24)) (C := RX9) (T := TX9) (N := 27) hx hb hE hR hts hinX9 hown fy2 rfl 24 (by decide) k58 (fun _ h9 => h9) rfl dX9_reads_94 ?_
                refine lv_iconst (v := nI 5) hx hb dX9_reads_97 (by decide) ?_
                refine ah_iald (i := 5) hx hb hE hR q224 (by omega) (by omega) dX9_reads_98 ?_
                refine ah_toi (v := nI (pa 5)) rfl ?_
                refine lv_icmp_ne (tgt := 124) hx hb dX9_reads_99 (by decide) (fun c_158 => ?_) (fun c_158 => ?_)
                · skip
                  have c_158 : ¬ ((rc k) = (pa 5)) := fun z9 => c_158 ((nI_eq (by omega) (by omega)).mpr z9)
                  refine lv_iload_n hx hb dX9_reads_124 rfl (lv_at hl 1 rfl) ?_
                  refine lv_istore_n (lv' := [(3, .int o), (4, .int (nI k)), (0, .ref y), (1, .int (nI s9))]) hx hb dX9_reads_125 rfl hl (by decide) rfl (fun ls hl => ?_)
                  refine lv_iinc (v := nI (k + 1)) (lv' := [(4, .int (nI (k + 1))), (3, .int o), (0, .ref y), (1, .int (nI s9))]) hx hb dX9_reads_126 hl (k := 1) rfl (show nI k + Int32.ofInt 1 = nI (k + 1) from nI_add _ 1) (by decide) rfl (fun ls hl => ?_)
                  refine lv_goto (tgt := 66) hx hb dX9_reads_129 (by decide) ?_
                  exact ih66  (k + 1) o _ _ ls (by omega) (by omega) (fndR_n fnd (fun q9 => c_158 (hih.mp q9).2.1)) fy2 q21 q22 q212 q214 q215 q216 q217 q218 q219 q221 q222 q224 fa262 hR hS (lv_sub hl [0, 1, 2, 3] rfl)
                · skip
                  have c_158 : (rc k) = (pa 5) := (nI_eq (by omega) (by omega)).mp c_158
                  refine lv_aload_n hx hb dX9_reads_102 rfl (lv_at hl 2 rfl) ?_
                  refine ah_get (ci := 8) (v := .ref (A 17)) (C := RX9) (T := TX9) (N := 27) hx hb hE hR hts hinX9 hown fy2 rfl 17 (by decide) k42 (fun _ h9 => h9) rfl dX9_reads_103 ?_
                  refine lv_iload hx hb dX9_reads_106 (lv_at hl 0 rfl) ?_
                  refine ah_iald (i := k) hx hb hE hR q217 (by omega) (by omega) dX9_reads_108 ?_
                  refine ah_toi (v := nI (pr k)) rfl ?_
                  refine lv_aload_n hx hb dX9_reads_109 rfl (lv_at hl 2 rfl) ?_
                  refine ah_get (ci := 8) (v := .ref (A 24)) (C := RX9) (T := TX9) (N := 27) hx hb hE hR hts hinX9 hown fy2 rfl 24 (by decide) k58 (fun _ h9 => h9) rfl dX9_reads_110 ?_
                  refine lv_bipush (v := nI 6) hx hb dX9_reads_113 (by decide) ?_
                  refine ah_iald (i := 6) hx hb hE hR q224 (by omega) (by omega) dX9_reads_115 ?_
                  refine ah_toi (v := nI (pa 6)) rfl ?_
                  refine lv_icmp_ne (tgt := 124) hx hb dX9_reads_116 (by decide) (fun c_159 => ?_) (fun c_159 => ?_)
                  · skip
                    have c_159 : ¬ ((pr k) = (pa 6)) := fun z9 => c_159 ((nI_eq (by omega) (by omega)).mpr z9)
                    refine lv_iload_n hx hb dX9_reads_124 rfl (lv_at hl 1 rfl) ?_
                    refine lv_istore_n (lv' := [(3, .int o), (4, .int (nI k)), (0, .ref y), (1, .int (nI s9))]) hx hb dX9_reads_125 rfl hl (by decide) rfl (fun ls hl => ?_)
                    refine lv_iinc (v := nI (k + 1)) (lv' := [(4, .int (nI (k + 1))), (3, .int o), (0, .ref y), (1, .int (nI s9))]) hx hb dX9_reads_126 hl (k := 1) rfl (show nI k + Int32.ofInt 1 = nI (k + 1) from nI_add _ 1) (by decide) rfl (fun ls hl => ?_)
                    refine lv_goto (tgt := 66) hx hb dX9_reads_129 (by decide) ?_
                    exact ih66  (k + 1) o _ _ ls (by omega) (by omega) (fndR_n fnd (fun q9 => c_159 (hih.mp q9).2.2)) fy2 q21 q22 q212 q214 q215 q216 q217 q218 q219 q221 q222 q224 fa262 hR hS (lv_sub hl [0, 1, 2, 3] rfl)
                  · skip
                    have c_159 : (pr k) = (pa 6) := (nI_eq (by omega) (by omega)).mp c_159
                    refine lv_iload hx hb dX9_reads_119 (lv_at hl 0 rfl) ?_
                    refine lv_goto (tgt := 125) hx hb dX9_reads_121 (by decide) ?_
                    refine lv_istore_n (lv' := [(3, .int (nI k)), (4, .int (nI k)), (0, .ref y), (1, .int (nI s9))]) hx hb dX9_reads_125 rfl hl (by decide) rfl (fun ls hl => ?_)
                    refine lv_iinc (v := nI (k + 1)) (lv' := [(4, .int (nI (k + 1))), (3, .int (nI k)), (0, .ref y), (1, .int (nI s9))]) hx hb dX9_reads_126 hl (k := 1) rfl (show nI k + Int32.ofInt 1 = nI (k + 1) from nI_add _ 1) (by decide) rfl (fun ls hl => ?_)
                    refine lv_goto (tgt := 66) hx hb dX9_reads_129 (by decide) ?_
                    exact ih66  (k + 1) (nI k) _ _ ls (by omega) (by omega) (fndR_y (hih.mpr ⟨c_157, c_158, c_159⟩)) fy2 q21 q22 q212 q214 q215 q216 q217 q218 q219 q221 q222 q224 fa262 hR hS (lv_sub hl [0, 1, 2, 3] rfl)
        exact L66 ((c - 0) + 1) 0 (-1) _ _ ls (by omega) (by omega) fndR_0 fy2 q21 q22 q212 q214 q215 q216 q217 q218 q219 q221 q222 q224 fa262 hR hS (lv_sub hl [0, 1, 3, 4] rfl)
      · skip
        have c_5 : (pa 0 % 2) = 0 := (zi_eq (by omega)).mp c_5
        refine lv_iconst (v := nI 0) hx hb dX9_reads_23 (by decide) ?_
        refine lv_istore_n (lv' := [(3, .int (nI 0)), (2, .int (nI 0)), (0, .ref y), (1, .int (nI s9))]) hx hb dX9_reads_24 rfl hl (by decide) rfl (fun ls hl => ?_)
        have l0 : h_1 (A 12) = some (32, .inl (G.2.2.1 0, 40800, .inl (nA (cpF la 0 u2 0)))) := by rw [cpF_0]; exact q212
        have L25 : ∀ (N25 : Nat) (k : Nat) (h3 : ah_H) (H : Heap) (locs : List Loc) (ls : Array Slot), L.length - k < N25 → (k ≤ L.length) → (agr (fun t => t ≠ 32) h_1 h3) → (h3 y = some (20, .inr (8, mF A k0 n rf pm zh lc c pt gv L.length))) → (h3 (A 1) = some (21, .inl (G.2.2.1 0, 128, .inl plT))) → (h3 (A 2) = some (22, .inl (G.2.2.1 0, 128, .inl esT))) → (h3 (A 12) = some (32, .inl (G.2.2.1 0, 40800, .inl (nA (cpF la 0 u2 k))))) → (h3 (A 14) = some (34, .inl (G.2.2.1 0, 16, .inl (nA mp)))) → (h3 (A 15) = some (35, .inl (G.2.2.1 0, 16, .inl (nA sd)))) → (h3 (A 16) = some (36, .inl (G.2.2.1 0, 16, .inl (nA rc)))) → (h3 (A 17) = some (37, .inl (G.2.2.1 0, 16, .inl (nA pr)))) → (h3 (A 18) = some (38, .inl (G.2.2.1 0, 16, .inl (nA th)))) → (h3 (A 19) = some (39, .inl (G.2.2.1 0, 16, .inl (nA sm)))) → (h3 (A 21) = some (41, .inl (G.2.2.1 0, 4080, .inl pc))) → (h3 (A 22) = some (42, .inl (G.2.2.1 0, 652800, .inl (nA pu)))) → (h3 (A 24) = some (44, .inl (G.2.2.1 0, 200, .inl (nA pa)))) → (h3 (A 26) = some (46, .inl (G.2.2.1 0, 200, .inl (nA u2)))) → ah_R G h3 H → va_S (ah_A G) s.heap H locs → lv_has ls 8 [(3, .int (nI k)), (0, .ref y), (1, .int (nI s9))] → W p l e ({ frames := 3, cells := 0, slots := 0, locals := 73 }) s m ([.ref y, .int (nI s9)] : List Value).toArray below meth cd9 H locs 0 0 (MQ below (ah_Qi G (fun v h' => ∃ (c' pt' lc' un' : Nat) (D' : Nat → hDt) (lt : Option (Nat × (Nat → List Nat))) (la' mp' sd' rc' pr' th' sm' : Nat → Nat) (pc' : Nat → Int32) (pu' ua' : Nat → Nat), accR c pt D pa gv s9 v c' pt' D' lt ∧ HR c' D' mp' sd' rc' pr' th' sm' pc' pu' c' ∧ (lt = none → lc' = lc ∧ la' = la) ∧ (∀ x, lt = some x → lrel x lc' la') ∧ h' y = some (20, .inr (8, mF A k0 n rf pm zh lc' c' pt' gv un')) ∧ h' (A 12) = some (32, .inl (G.2.2.1 0, 40800, .inl (nA la'))) ∧ h' (A 14) = some (34, .inl (G.2.2.1 0, 16, .inl (nA mp'))) ∧ h' (A 15) = some (35, .inl (G.2.2.1 0, 16, .inl (nA sd'))) ∧ h' (A 16) = some (36, .inl (G.2.2.1 0, 16, .inl (nA rc'))) ∧ h' (A 17) = some (37, .inl (G.2.2.1 0, 16, .inl (nA pr'))) ∧ h' (A 18) = some (38, .inl (G.2.2.1 0, 16, .inl (nA th'))) ∧ h' (A 19) = some (39, .inl (G.2.2.1 0, 16, .inl (nA sm'))) ∧ h' (A 21) = some (41, .inl (G.2.2.1 0, 4080, .inl pc')) ∧ h' (A 22) = some (42, .inl (G.2.2.1 0, 652800, .inl (nA pu'))) ∧ h' (A 26) = some (46, .inl (G.2.2.1 0, 200, .inl (nA ua'))) ∧ agr (fun t => t ≠ 20 ∧ t ≠ 32 ∧ ¬ (34 ≤ t ∧ t ≤ 39) ∧ t ≠ 41 ∧ t ≠ 42 ∧ t ≠ 46) h h')) ([.ref y, .int (nI s9)] : List Value).toArray s 0 0 (ah_A G)) (F0 m 25 ls []) := by
          intro N25
          induction N25 with
          | zero => intro k h3 H locs ls hN; exact absurd hN (Nat.not_lt_zero _)
          | succ N25 ih25 =>
            intro k h3 H locs ls hN25 hk ag3 fy3 fa13 fa23 fa123 fa143 fa153 fa163 fa173 fa183 fa193 fa213 fa223 fa243 fa263 hR hS hl
            refine lv_iload_n hx hb dX9_reads_25 rfl (lv_at hl 0 rfl) ?_
            refine lv_aload_n hx hb dX9_reads_26 rfl (lv_at hl 1 rfl) ?_
            refine ah_get (ci := 8) (v := .int (nI L.length)) (C := RX9) (T := TX9) (N := 27) hx hb hE hR hts hinX9 hown fy3 rfl 25 (by decide) k129 (fun _ h9 => h9) rfl dX9_reads_27 ?_
            refine lv_icmp_ge (tgt := 51) hx hb dX9_reads_30 (by decide) (fun c_160 => ?_) (fun c_160 => ?_)
            · skip
              have c_160 : L.length ≤ k := (nI_leI (by omega) (by omega)).mp c_160
              refine lv_aload_n hx hb dX9_reads_51 rfl (lv_at hl 1 rfl) ?_
              refine lv_aload_n hx hb dX9_reads_52 rfl (lv_at hl 1 rfl) ?_
              refine ah_get (ci := 8) (v := .int (nI L.length)) (C := RX9) (T := TX9) (N := 27) hx hb hE hR hts hinX9 hown fy3 rfl 25 (by decide) k129 (fun _ h9 => h9) rfl dX9_reads_53 ?_
              refine ah_put (ci := 8) (v := .int (nI L.length)) (ty := .int) (C := RX9) (T := TX9) (N := 27) hx hb hE hR hS hts hinX9 tyX9 tyX9_ok nmX9 hown fy3 rfl 11 (by decide) k110 (fun _ h9 => h9) rfl (by decide +kernel) rfl rfl (Nat.le_of_ble_eq_true rfl) dX9_reads_56 (fun H locs hR hS => ?_)
              obtain ⟨h_161, e_162⟩ : ∃ zz9, zz9 = ah_up h3 y (20, .inr (8, mF A k0 n rf pm zh L.length c pt gv L.length)) := ⟨_, rfl⟩
              have hR : ah_R G h_161 H := by rw [e_162]; exact hR
              have f_163 : h_161 y = some (20, .inr (8, mF A k0 n rf pm zh L.length c pt gv L.length)) := by rw [e_162]; exact ah_up_s _ _ _
              have f_164 : h_161 (A 1) = some (21, .inl (G.2.2.1 0, 128, .inl plT)) := by rw [e_162]; exact ah_keep fa13 fy3 (by omega)
              have f_165 : h_161 (A 2) = some (22, .inl (G.2.2.1 0, 128, .inl esT)) := by rw [e_162]; exact ah_keep fa23 fy3 (by omega)
              have f_166 : h_161 (A 12) = some (32, .inl (G.2.2.1 0, 40800, .inl (nA (cpF la 0 u2 k)))) := by rw [e_162]; exact ah_keep fa123 fy3 (by omega)
              have f_167 : h_161 (A 14) = some (34, .inl (G.2.2.1 0, 16, .inl (nA mp))) := by rw [e_162]; exact ah_keep fa143 fy3 (by omega)
              have f_168 : h_161 (A 15) = some (35, .inl (G.2.2.1 0, 16, .inl (nA sd))) := by rw [e_162]; exact ah_keep fa153 fy3 (by omega)
              have f_169 : h_161 (A 16) = some (36, .inl (G.2.2.1 0, 16, .inl (nA rc))) := by rw [e_162]; exact ah_keep fa163 fy3 (by omega)
              have f_170 : h_161 (A 17) = some (37, .inl (G.2.2.1 0, 16, .inl (nA pr))) := by rw [e_162]; exact ah_keep fa173 fy3 (by omega)
              have f_171 : h_161 (A 18) = some (38, .inl (G.2.2.1 0, 16, .inl (nA th))) := by rw [e_162]; exact ah_keep fa183 fy3 (by omega)
              have f_172 : h_161 (A 19) = some (39, .inl (G.2.2.1 0, 16, .inl (nA sm))) := by rw [e_162]; exact ah_keep fa193 fy3 (by omega)
              have f_173 : h_161 (A 21) = some (41, .inl (G.2.2.1 0, 4080, .inl pc)) := by rw [e_162]; exact ah_keep fa213 fy3 (by omega)
              have f_174 : h_161 (A 22) = some (42, .inl (G.2.2.1 0, 652800, .inl (nA pu))) := by rw [e_162]; exact ah_keep fa223 fy3 (by omega)
              have f_175 : h_161 (A 24) = some (44, .inl (G.2.2.1 0, 200, .inl (nA pa))) := by rw [e_162]; exact ah_keep fa243 fy3 (by omega)
              have f_176 : h_161 (A 26) = some (46, .inl (G.2.2.1 0, 200, .inl (nA u2))) := by rw [e_162]; exact ah_keep fa263 fy3 (by omega)
              refine lv_iconst (v := nI 1) hx hb dX9_reads_59 (by decide) ?_
              refine ah_iret (v := nI 1) hx hb hr hlocks hR hS dX9_reads_60 ?_
              exact ⟨c, pt, L.length, L.length, D, some (1, fun _ => L), cpF la 0 u2 k, mp, sd, rc, pr, th, sm, pc, pu, u2, Or.inr (Or.inl ⟨hf0, by omega, rfl, rfl, rfl, rfl, by rw [eL]⟩), hHR, fun q9 => (nomatch q9), fun x q9 => by cases q9; refine ⟨by show L.length = 0 + L.length; omega, by omega, fun q hq j hj => ?_⟩; show cpF la 0 u2 k (totU (fun _ => L) q + j) = L.getD j 0; rw [show q = 0 by omega]; show cpF la 0 u2 k (0 + j) = L.getD j 0; have hj9 : j < L.length := hj; rw [cpF_in (by omega)]; exact hu2 j hj9, f_163, f_166, f_167, f_168, f_169, f_170, f_171, f_172, f_173, f_174, f_176, (ag2.weak (fun t q => by omega)).tr ((ag3.weak (fun t q => by omega)).tr (by rw [e_162]; refine agr.up ?_ fy3 (by omega); exact agr.rf))⟩
            · skip
              have c_160 : ¬ (L.length ≤ k) := fun z9 => c_160 ((nI_leI (by omega) (by omega)).mpr z9)
              refine lv_aload_n hx hb dX9_reads_33 rfl (lv_at hl 1 rfl) ?_
              refine ah_get (ci := 8) (v := .ref (A 12)) (C := RX9) (T := TX9) (N := 27) hx hb hE hR hts hinX9 hown fy3 rfl 12 (by decide) k30 (fun _ h9 => h9) rfl dX9_reads_34 ?_
              refine lv_iload_n hx hb dX9_reads_37 rfl (lv_at hl 0 rfl) ?_
              refine lv_aload_n hx hb dX9_reads_38 rfl (lv_at hl 1 rfl) ?_
              refine ah_get (ci := 8) (v := .ref (A 26)) (C := RX9) (T := TX9) (N := 27) hx hb hE hR hts hinX9 hown fy3 rfl 26 (by decide) k61 (fun _ h9 => h9) rfl dX9_reads_39 ?_
              refine lv_iload_n hx hb dX9_reads_42 rfl (lv_at hl 0 rfl) ?_
              refine ah_iald (i := k) hx hb hE hR fa263 (by omega) (by omega) dX9_reads_43 ?_
              refine ah_toi (v := nI (u2 k)) rfl ?_
              refine ah_iast (i := k) hx hb hE hR hS fa123 (by omega) (by omega) dX9_reads_44 (fun H locs hR hS => ?_)
              rw [nA_upd] at hR
              obtain ⟨h_177, e_178⟩ : ∃ zz9, zz9 = ah_up h3 (A 12) (32, .inl (G.2.2.1 0, 40800, .inl (nA (gU (cpF la 0 u2 k) k (u2 k))))) := ⟨_, rfl⟩
              have hR : ah_R G h_177 H := by rw [e_178]; exact hR
              have f_179 : h_177 y = some (20, .inr (8, mF A k0 n rf pm zh lc c pt gv L.length)) := by rw [e_178]; exact ah_keep fy3 fa123 (by omega)
              have f_180 : h_177 (A 1) = some (21, .inl (G.2.2.1 0, 128, .inl plT)) := by rw [e_178]; exact ah_keep fa13 fa123 (by omega)
              have f_181 : h_177 (A 2) = some (22, .inl (G.2.2.1 0, 128, .inl esT)) := by rw [e_178]; exact ah_keep fa23 fa123 (by omega)
              have f_182 : h_177 (A 12) = some (32, .inl (G.2.2.1 0, 40800, .inl (nA (gU (cpF la 0 u2 k) k (u2 k))))) := by rw [e_178]; exact ah_up_s _ _ _
              have f_183 : h_177 (A 14) = some (34, .inl (G.2.2.1 0, 16, .inl (nA mp))) := by rw [e_178]; exact ah_keep fa143 fa123 (by omega)
              have f_184 : h_177 (A 15) = some (35, .inl (G.2.2.1 0, 16, .inl (nA sd))) := by rw [e_178]; exact ah_keep fa153 fa123 (by omega)
              have f_185 : h_177 (A 16) = some (36, .inl (G.2.2.1 0, 16, .inl (nA rc))) := by rw [e_178]; exact ah_keep fa163 fa123 (by omega)
              have f_186 : h_177 (A 17) = some (37, .inl (G.2.2.1 0, 16, .inl (nA pr))) := by rw [e_178]; exact ah_keep fa173 fa123 (by omega)
              have f_187 : h_177 (A 18) = some (38, .inl (G.2.2.1 0, 16, .inl (nA th))) := by rw [e_178]; exact ah_keep fa183 fa123 (by omega)
              have f_188 : h_177 (A 19) = some (39, .inl (G.2.2.1 0, 16, .inl (nA sm))) := by rw [e_178]; exact ah_keep fa193 fa123 (by omega)
              have f_189 : h_177 (A 21) = some (41, .inl (G.2.2.1 0, 4080, .inl pc)) := by rw [e_178]; exact ah_keep fa213 fa123 (by omega)
              have f_190 : h_177 (A 22) = some (42, .inl (G.2.2.1 0, 652800, .inl (nA pu))) := by rw [e_178]; exact ah_keep fa223 fa123 (by omega)
              have f_191 : h_177 (A 24) = some (44, .inl (G.2.2.1 0, 200, .inl (nA pa))) := by rw [e_178]; exact ah_keep fa243 fa123 (by omega)
              have f_192 : h_177 (A 26) = some (46, .inl (G.2.2.1 0, 200, .inl (nA u2))) := by rw [e_178]; exact ah_keep fa263 fa123 (by omega)
              have f_193 : h_177 (A 12) = some (32, .inl (G.2.2.1 0, 40800, .inl (nA (cpF la 0 u2 (k + 1))))) := by rw [← cpF_s0]; exact f_182
              refine lv_iinc (v := nI (k + 1)) (lv' := [(3, .int (nI (k + 1))), (0, .ref y), (1, .int (nI s9))]) hx hb dX9_reads_45 hl (k := 0) rfl (show nI k + Int32.ofInt 1 = nI (k + 1) from nI_add _ 1) (by decide) rfl (fun ls hl => ?_)
              refine lv_goto (tgt := 25) hx hb dX9_reads_48 (by decide) ?_
              exact ih25  (k + 1) h_177 _ _ ls (by omega) (by omega) (ag3.tr (by rw [e_178]; refine agr.up ?_ fa123 (by omega); exact agr.rf)) f_179 f_180 f_181 f_193 f_183 f_184 f_185 f_186 f_187 f_188 f_189 f_190 f_191 f_192 hR hS (lv_sub hl [0, 1, 2] rfl)
        exact L25 ((L.length - 0) + 1) 0 h_1 _ _ ls (by omega) (by omega) agr.rf fy2 q21 q22 l0 q214 q215 q216 q217 q218 q219 q221 q222 q224 fa262 hR hS (lv_sub hl [0, 2, 3] rfl)
    · skip
      exact absurd (by decide) c_4
  · skip
    have eh9 := hn9 hf0
    rw [eh9] at hR
    refine ah_toi ev9 ?_
    refine lv_istore_n (lv' := [(2, .int (nI (fault pa gv))), (0, .ref y), (1, .int (nI s9))]) hx hb dX9_reads_4 rfl hl (by decide) rfl (fun ls hl => ?_)
    refine lv_iload_n hx hb dX9_reads_5 rfl (lv_at hl 0 rfl) ?_
    refine lv_if_le (tgt := 12) hx hb dX9_reads_6 (by decide) (fun c_194 => ?_) (fun c_194 => ?_)
    · skip
      have c_194 : (fault pa gv) ≤ 0 := (zi_le (by omega)).mp c_194
      exact absurd c_194 (by omega)
    · skip
      have c_194 : ¬ ((fault pa gv) ≤ 0) := fun z9 => c_194 ((zi_le (by omega)).mpr z9)
      refine lv_iload_n hx hb dX9_reads_9 rfl (lv_at hl 0 rfl) ?_
      refine lv_ineg hx hb dX9_reads_10 ?_
      refine ah_iret (v := -(nI (fault pa gv))) hx hb hr hlocks hR hS dX9_reads_11 ?_
      exact ⟨c, pt, lc, un, D, none, la, mp, sd, rc, pr, th, sm, pc, pu, ua, Or.inl ⟨hf0, rfl, rfl, rfl, rfl, rfl⟩, hHR, fun _ => ⟨rfl, rfl⟩, fun _ q9 => (nomatch q9), fy, fa12, fa14, fa15, fa16, fa17, fa18, fa19, fa21, fa22, fa26, agr.rf⟩
