/-! ===== TextParts$Inbox: the latest text, forgetting, beginning ===== -/
def totU (Ls : Nat → List Nat) : Nat → Nat
  | 0 => 0
  | k + 1 => totU Ls k + (Ls k).length
/-- the latest text: its heap, retired -/
def latOk (G : ah_G) (h : ah_H) (a P : Nat) (Ls : Nat → List Nat) : Prop :=
  ∃ (pa th uc lp : Nat) (x0 x1 : Int32) (pf : Nat → Option Nat) (qs : Nat → Nat), h a = some (810, .inr (0, [.int x0, .int x1, .ref pa, .int (nI th), .int (nI uc), .int (nI lp)])) ∧ h pa = some (811, .inl (G.2.2.1 2, P, .inr (.inr (.inr (.inr pf))))) ∧
    P ≤ 255 ∧ th ≤ 1000 ∧ uc < 2 ^ 20 ∧ uc = totU Ls P ∧ ∀ k, k < P → pf k = some (qs k) ∧ pieceOk G h (qs k) (Ls k)
theorem latOk.frame {G : ah_G} {h h' : ah_H} {a P : Nat} {Ls : Nat → List Nat} (x : latOk G h a P Ls) (y : agr (fun t => t = 810 ∨ t = 811 ∨ t = 900 ∨ t = 901) h h') : latOk G h' a P Ls := by
  obtain ⟨pa, th, uc, lp, x0, x1, pf, qs, h1, h2, h3, h4, h5, h6, h7⟩ := x
  exact ⟨pa, th, uc, lp, x0, x1, pf, qs, y _ _ _ (by omega) h1, y _ _ _ (by omega) h2, h3, h4, h5, h6, fun k hk => ⟨(h7 k hk).1, (h7 k hk).2.frame (y.weak (fun t q => by omega))⟩⟩
/-- a thing under another mark -/
theorem ah_retag {G : ah_G} {h : ah_H} {H : Heap} {a t : Nat} {e : va_E} (t' : Nat) (hR : ah_R G h H) (ha : h a = some (t, e)) : ah_R G (ah_up h a (t', e)) H := by
  obtain ⟨ws, hP, hD, hcv⟩ := hR
  refine ⟨ws, hP, hD, fun b u d hb => ?_⟩
  by_cases q : b = a
  · subst q; rw [ah_up_s] at hb; cases hb; exact hcv b t e ha
  · rw [ah_up_n q] at hb; exact hcv b u d hb
/-- all heaps of a sender go, the last one first -/
def drp (s9 : Nat) : Nat → Nat × (Nat → hDt) → Nat × (Nat → hDt)
  | 0, st => st
  | m + 1, st => drp s9 m (if d_s (st.2 m) = s9 then (st.1 - 1, shf st.2 m) else st)
theorem drp_le (s9 : Nat) : ∀ (m : Nat) (st : Nat × (Nat → hDt)), (drp s9 m st).1 ≤ st.1
  | 0, _ => Nat.le_refl _
  | m + 1, st => by
    unfold drp
    have := drp_le s9 m (if d_s (st.2 m) = s9 then (st.1 - 1, shf st.2 m) else st)
    split at this <;> split <;> simp_all <;> omega
/-- room for one more heap -/
def evc (c : Nat) (D : Nat → hDt) : Nat × (Nat → hDt) := if c = 16 then (15, shf D (luR (fun i => d_l (D i)) 15 1 0)) else (c, D)
theorem ibOk.push {G : ah_G} {h h' : ah_H} {c : Nat} {D : Nat → hDt} {hf : Nat → Option Nat} {d : hDt} (x : ibOk G h c D hf) (y : agr hTag h h') (hd : heapOk G h' d) (ha : h (d_a d) = none) (hp : h (d_p d) = none) : ibOk G h' (c + 1) (va_up D c d) (va_up hf c (some (d_a d))) := by
  obtain ⟨x1, x2, x3, x4⟩ := x
  have na : ∀ i, i < c → d_a (D i) ≠ d_a d := fun i hi e => by have := (x1 i hi).2.1; rw [e, ha] at this; cases this
  have np : ∀ i, i < c → d_p (D i) ≠ d_p d := fun i hi e => by have := (x1 i hi).2.2.1; rw [e, hp] at this; cases this
  refine ⟨fun i hi => ?_, fun i hi => ?_, fun i j hi hj e => ?_, fun i j hi hj e => ?_⟩
  · by_cases q : i = c
    · rw [q, va_up_self, va_up_self]; exact ⟨rfl, hd⟩
    · rw [va_up_ne _ _ q, va_up_ne _ _ q]; exact ⟨(x1 i (by omega)).1, (x1 i (by omega)).2.frame y⟩
  · rw [va_up_ne _ _ (by omega)]; exact x2 i (by omega)
  · by_cases q : i = c <;> by_cases r : j = c
    · omega
    · rw [q, va_up_self, va_up_ne _ _ r] at e; exact absurd e.symm (na j (by omega))
    · rw [r, va_up_self, va_up_ne _ _ q] at e; exact absurd e (na i (by omega))
    · rw [va_up_ne _ _ q, va_up_ne _ _ r] at e; exact x3 i j (by omega) (by omega) e
  · by_cases q : i = c <;> by_cases r : j = c
    · omega
    · rw [q, va_up_self, va_up_ne _ _ r] at e; exact absurd e.symm (np j (by omega))
    · rw [r, va_up_self, va_up_ne _ _ q] at e; exact absurd e (np i (by omega))
    · rw [va_up_ne _ _ q, va_up_ne _ _ r] at e; exact x4 i j (by omega) (by omega) e
theorem ah_up_swap {h : ah_H} {a b : Nat} {x y : Nat × va_E} (hab : a ≠ b) : ah_up (ah_up h a x) b y = ah_up (ah_up h b y) a x := by
  funext q
  by_cases h1 : q = b
  · subst h1; rw [ah_up_s, ah_up_n (Ne.symm hab), ah_up_s]
  · rw [ah_up_n h1]
    by_cases h2 : q = a
    · subst h2; rw [ah_up_s, ah_up_s]
    · rw [ah_up_n h2, ah_up_n h2, ah_up_n h1]

set_option maxHeartbeats 4000000 in
set_option maxRecDepth 100000 in
theorem c_Ib_latestUnits0 (l : Launch) (G : ah_G) (h : ah_H) (ib hp rd c pt : Nat) (fi : h ib = some (8, .inr (1, [.ref rd, .ref hp, .int (nI c), .int (nI pt), .null]))) : Met l yX2_latestUnits wsX2_latestUnits ({ frames := 0, cells := 0, slots := 0, locals := 0 }) (ah_Pc G [.ref ib] h) (ah_Qi G (fun v h' => v = nI 0 ∧ h' = h)) 0 0 (ah_A G) := by
  refine ah_ofW (cc := cX2_latestUnits) (maxL := 1) (ret := (some .int)) (by decide) rfl (Nat.le_of_ble_eq_true rfl) ?_
  intro p e s m below meth cd9 ls hx hb hr hml hown hlocks hname hts hE hR hS hl
  have hown : s.vm.findClass RX2 = some m.cls := hown
  have hl : lv_has ls 1 [(0, .ref ib)] := hl
  have k43 := hts (.fieldLink RX2 43 "TextParts$Inbox" "latest" "LTextParts$Heap;") (by decide +kernel)
  have hinX2 : ∀ w ∈ wsX20, w ∈ wsX2_latestUnits := by decide +kernel
  refine lv_aload_n hx hb dX2_latestUnits_0 rfl (lv_at hl 0 rfl) ?_
  refine ah_get (ci := 1) (v := .null) (C := RX2) (T := TX2) (N := 5) hx hb hE hR hts hinX2 hown fi rfl 4 (by decide) k43 (fun _ h9 => h9) rfl dX2_latestUnits_1 ?_
  refine lv_ifnonnullN hx hb dX2_latestUnits_4 ?_
  refine lv_iconst (v := nI 0) hx hb dX2_latestUnits_7 (by decide) ?_
  refine lv_goto (tgt := 18) hx hb dX2_latestUnits_8 (by decide) ?_
  refine ah_iret (v := nI 0) hx hb hr hlocks hR hS dX2_latestUnits_18 ?_
  exact ⟨rfl, rfl⟩

set_option maxHeartbeats 4000000 in
set_option maxRecDepth 100000 in
theorem c_Ib_latestUnits1 (l : Launch) (G : ah_G) (h : ah_H) (ib hp rd c pt la P : Nat) (Ls : Nat → List Nat) (fi : h ib = some (8, .inr (1, [.ref rd, .ref hp, .int (nI c), .int (nI pt), .ref la]))) (hlat : latOk G h la P Ls) : Met l yX2_latestUnits wsX2_latestUnits ({ frames := 0, cells := 0, slots := 0, locals := 0 }) (ah_Pc G [.ref ib] h) (ah_Qi G (fun v h' => v = nI (totU Ls P) ∧ h' = h)) 0 0 (ah_A G) := by
  refine ah_ofW (cc := cX2_latestUnits) (maxL := 1) (ret := (some .int)) (by decide) rfl (Nat.le_of_ble_eq_true rfl) ?_
  intro p e s m below meth cd9 ls hx hb hr hml hown hlocks hname hts hE hR hS hl
  have hown : s.vm.findClass RX2 = some m.cls := hown
  have hl : lv_has ls 1 [(0, .ref ib)] := hl
  have k43 := hts (.fieldLink RX2 43 "TextParts$Inbox" "latest" "LTextParts$Heap;") (by decide +kernel)
  have hinX2 : ∀ w ∈ wsX20, w ∈ wsX2_latestUnits := by decide +kernel
  have k50 := hts (.fieldLink RX2 50 "TextParts$Heap" "unitCount" "I") (by decide +kernel)
  have hinX1 : ∀ w ∈ wsX10, w ∈ wsX2_latestUnits := by decide +kernel
  obtain ⟨pa, th, uc, lp, x0, x1, pf, qs, g1, g2, g3, g4, g5, g6, g7⟩ := hlat
  refine lv_aload_n hx hb dX2_latestUnits_0 rfl (lv_at hl 0 rfl) ?_
  refine ah_get (ci := 1) (v := .ref la) (C := RX2) (T := TX2) (N := 5) hx hb hE hR hts hinX2 hown fi rfl 4 (by decide) k43 (fun _ h9 => h9) rfl dX2_latestUnits_1 ?_
  refine lv_ifnonnull (tgt := 11) hx hb dX2_latestUnits_4 (by decide) ?_
  refine lv_aload_n hx hb dX2_latestUnits_11 rfl (lv_at hl 0 rfl) ?_
  refine ah_get (ci := 1) (v := .ref la) (C := RX2) (T := TX2) (N := 5) hx hb hE hR hts hinX2 hown fi rfl 4 (by decide) k43 (fun _ h9 => h9) rfl dX2_latestUnits_12 ?_
  refine ah_get (ci := 0) (v := .int (nI uc)) (C := RX1) (T := TX1) (N := 6) hx hb hE hR hts hinX1 hown g1 rfl 4 (by decide) k50 (fun _ h9 => h9) rfl dX2_latestUnits_15 ?_
  refine ah_iret (v := nI uc) hx hb hr hlocks hR hS dX2_latestUnits_18 ?_
  exact ⟨by rw [g6], rfl⟩

set_option maxHeartbeats 4000000 in
set_option maxRecDepth 100000 in
theorem c_Ib_latestUnit0 (l : Launch) (G : ah_G) (h : ah_H) (ib hp rd c pt : Nat) (fi : h ib = some (8, .inr (1, [.ref rd, .ref hp, .int (nI c), .int (nI pt), .null]))) (x : Int32) : Met l yX2_latestUnit wsX2_latestUnit ({ frames := 1, cells := 0, slots := 0, locals := 26 }) (ah_Pc G [.ref ib, .int x] h) (ah_Qi G (fun v h' => v = -1 ∧ h' = h)) 0 0 (ah_A G) := by
  refine ah_ofW (cc := cX2_latestUnit) (maxL := 2) (ret := (some .int)) (by decide) rfl (Nat.le_of_ble_eq_true rfl) ?_
  intro p e s m below meth cd9 ls hx hb hr hml hown hlocks hname hts hE hR hS hl
  have hown : s.vm.findClass RX2 = some m.cls := hown
  have hl : lv_has ls 2 [(0, .ref ib), (1, .int x)] := hl
  have k43 := hts (.fieldLink RX2 43 "TextParts$Inbox" "latest" "LTextParts$Heap;") (by decide +kernel)
  have hinX2 : ∀ w ∈ wsX20, w ∈ wsX2_latestUnit := by decide +kernel
  refine lv_aload_n hx hb dX2_latestUnit_0 rfl (lv_at hl 0 rfl) ?_
  refine ah_get (ci := 1) (v := .null) (C := RX2) (T := TX2) (N := 5) hx hb hE hR hts hinX2 hown fi rfl 4 (by decide) k43 (fun _ h9 => h9) rfl dX2_latestUnit_1 ?_
  refine lv_ifnonnullN hx hb dX2_latestUnit_4 ?_
  refine lv_iconst (v := (-1)) hx hb dX2_latestUnit_7 (by decide) ?_
  refine lv_goto (tgt := 19) hx hb dX2_latestUnit_8 (by decide) ?_
  refine ah_iret (v := (-1)) hx hb hr hlocks hR hS dX2_latestUnit_19 ?_
  exact ⟨rfl, rfl⟩

set_option maxHeartbeats 4000000 in
set_option maxRecDepth 100000 in
theorem c_Ib_latestUnit1 (l : Launch) (G : ah_G) (h : ah_H) (ib hp rd c pt la P : Nat) (Ls : Nat → List Nat) (fi : h ib = some (8, .inr (1, [.ref rd, .ref hp, .int (nI c), .int (nI pt), .ref la]))) (hlat : latOk G h la P Ls) (i : Nat) (hi : i < 2 ^ 31) : Met l yX2_latestUnit wsX2_latestUnit ({ frames := 1, cells := 0, slots := 0, locals := 26 }) (ah_Pc G [.ref ib, .int (nI i)] h) (ah_Qi G (fun v h' => v = uAt Ls P 0 i ∧ h' = h)) 0 0 (ah_A G) := by
  refine ah_ofW (cc := cX2_latestUnit) (maxL := 2) (ret := (some .int)) (by decide) rfl (Nat.le_of_ble_eq_true rfl) ?_
  intro p e s m below meth cd9 ls hx hb hr hml hown hlocks hname hts hE hR hS hl
  have hown : s.vm.findClass RX2 = some m.cls := hown
  have hl : lv_has ls 2 [(0, .ref ib), (1, .int (nI i))] := hl
  have k43 := hts (.fieldLink RX2 43 "TextParts$Inbox" "latest" "LTextParts$Heap;") (by decide +kernel)
  have hinX2 : ∀ w ∈ wsX20, w ∈ wsX2_latestUnit := by decide +kernel
  obtain ⟨pa, th, uc, lp, x0, x1, pf, qs, g1, g2, g3, g4, g5, g6, g7⟩ := hlat
  refine lv_aload_n hx hb dX2_latestUnit_0 rfl (lv_at hl 0 rfl) ?_
  refine ah_get (ci := 1) (v := .ref la) (C := RX2) (T := TX2) (N := 5) hx hb hE hR hts hinX2 hown fi rfl 4 (by decide) k43 (fun _ h9 => h9) rfl dX2_latestUnit_1 ?_
  refine lv_ifnonnull (tgt := 11) hx hb dX2_latestUnit_4 (by decide) ?_
  refine lv_aload_n hx hb dX2_latestUnit_11 rfl (lv_at hl 0 rfl) ?_
  refine ah_get (ci := 1) (v := .ref la) (C := RX2) (T := TX2) (N := 5) hx hb hE hR hts hinX2 hown fi rfl 4 (by decide) k43 (fun _ h9 => h9) rfl dX2_latestUnit_12 ?_
  refine lv_iload_n hx hb dX2_latestUnit_15 rfl (lv_at hl 1 rfl) ?_
  refine ah_calli (va_runV (As := [.int (nI i)]) (rest := []) ⟨hx, hb, hml, hown, hts⟩ (c_Heap_unitAt l G h la pa 810 811 P th uc lp x0 x1 pf g1 g2 g3 g4 g5 qs Ls g7 i hi) (cwV 1 hts gX2_latestUnit_X1_unitAt rfl rfl rfl (by decide +kernel) ⟨Nat.le_of_ble_eq_true rfl, Nat.le_of_ble_eq_true rfl⟩) (ah_preV hE hR hS g1 rfl) rfl rfl hl.1 rfl (lv_room (Nat.le_of_ble_eq_true rfl)) dX2_latestUnit_16 ⟨Nat.le_of_ble_eq_true rfl, Nat.le_of_ble_eq_true rfl⟩) hS (fun r_3 h_1 H locs p_2 hR hS => ?_)
  obtain ⟨e_4, e_5⟩ := p_2
  rw [e_5] at hR
  refine ah_toi e_4 ?_
  refine ah_iret (v := (uAt Ls P 0 i)) hx hb hr hlocks hR hS dX2_latestUnit_19 ?_
  exact ⟨rfl, rfl⟩

set_option maxHeartbeats 4000000 in
set_option maxRecDepth 100000 in
theorem c_Ib_latestUnit2 (l : Launch) (G : ah_G) (h : ah_H) (ib hp rd c pt la P : Nat) (Ls : Nat → List Nat) (fi : h ib = some (8, .inr (1, [.ref rd, .ref hp, .int (nI c), .int (nI pt), .ref la]))) (hlat : latOk G h la P Ls) (x : Int32) (hx0 : x < 0) : Met l yX2_latestUnit wsX2_latestUnit ({ frames := 1, cells := 0, slots := 0, locals := 26 }) (ah_Pc G [.ref ib, .int x] h) (ah_Qi G (fun v h' => v = -1 ∧ h' = h)) 0 0 (ah_A G) := by
  refine ah_ofW (cc := cX2_latestUnit) (maxL := 2) (ret := (some .int)) (by decide) rfl (Nat.le_of_ble_eq_true rfl) ?_
  intro p e s m below meth cd9 ls hx hb hr hml hown hlocks hname hts hE hR hS hl
  have hown : s.vm.findClass RX2 = some m.cls := hown
  have hl : lv_has ls 2 [(0, .ref ib), (1, .int x)] := hl
  have k43 := hts (.fieldLink RX2 43 "TextParts$Inbox" "latest" "LTextParts$Heap;") (by decide +kernel)
  have hinX2 : ∀ w ∈ wsX20, w ∈ wsX2_latestUnit := by decide +kernel
  obtain ⟨pa, th, uc, lp, x0, x1, pf, qs, g1, g2, g3, g4, g5, g6, g7⟩ := hlat
  refine lv_aload_n hx hb dX2_latestUnit_0 rfl (lv_at hl 0 rfl) ?_
  refine ah_get (ci := 1) (v := .ref la) (C := RX2) (T := TX2) (N := 5) hx hb hE hR hts hinX2 hown fi rfl 4 (by decide) k43 (fun _ h9 => h9) rfl dX2_latestUnit_1 ?_
  refine lv_ifnonnull (tgt := 11) hx hb dX2_latestUnit_4 (by decide) ?_
  refine lv_aload_n hx hb dX2_latestUnit_11 rfl (lv_at hl 0 rfl) ?_
  refine ah_get (ci := 1) (v := .ref la) (C := RX2) (T := TX2) (N := 5) hx hb hE hR hts hinX2 hown fi rfl 4 (by decide) k43 (fun _ h9 => h9) rfl dX2_latestUnit_12 ?_
  refine lv_iload_n hx hb dX2_latestUnit_15 rfl (lv_at hl 1 rfl) ?_
  refine ah_calli (va_runV (As := [.int x]) (rest := []) ⟨hx, hb, hml, hown, hts⟩ (c_Heap_unitAt0 l G h la pa 810 811 P th uc lp x0 x1 pf g1 g2 g3 g4 g5 qs Ls g7 x hx0) (cwV 1 hts gX2_latestUnit_X1_unitAt rfl rfl rfl (by decide +kernel) ⟨Nat.le_of_ble_eq_true rfl, Nat.le_of_ble_eq_true rfl⟩) (ah_preV hE hR hS g1 rfl) rfl rfl hl.1 rfl (lv_room (Nat.le_of_ble_eq_true rfl)) dX2_latestUnit_16 ⟨Nat.le_of_ble_eq_true rfl, Nat.le_of_ble_eq_true rfl⟩) hS (fun r_3 h_1 H locs p_2 hR hS => ?_)
  obtain ⟨e_4, e_5⟩ := p_2
  rw [e_5] at hR
  refine ah_toi e_4 ?_
  refine ah_iret (v := (-1)) hx hb hr hlocks hR hS dX2_latestUnit_19 ?_
  exact ⟨rfl, rfl⟩

set_option maxHeartbeats 4000000 in
set_option maxRecDepth 100000 in
theorem c_Ib_dropSender (l : Launch) (G : ah_G) (h : ah_H) (ib hp rd c pt : Nat) (lo : Option Nat) (hf : Nat → Option Nat) (fi : h ib = some (8, .inr (1, [.ref rd, .ref hp, .int (nI c), .int (nI pt), va_rf lo]))) (fp : h hp = some (9, .inl (G.2.2.1 1, 16, .inr (.inr (.inr (.inr hf)))))) (hc : c ≤ 16) (D : Nat → hDt) (hok : ibOk G h c D hf) (s9 : Nat) (hs9 : s9 ≤ 999) : Met l yX2_dropSender wsX2_dropSender ({ frames := 2, cells := 0, slots := 0, locals := 43 }) (ah_Pc G [.ref ib, .int (nI s9)] h) (ah_Qi G (fun v h' => v = nI (c - (drp s9 c (c, D)).1) ∧ ∃ hf', h' = ah_up (ah_up h ib (8, .inr (1, [.ref rd, .ref hp, .int (nI ((drp s9 c (c, D)).1)), .int (nI pt), va_rf lo]))) hp (9, .inl (G.2.2.1 1, 16, .inr (.inr (.inr (.inr hf'))))) ∧ ibOk G h' (drp s9 c (c, D)).1 (drp s9 c (c, D)).2 hf')) 0 0 (ah_A G) := by
  refine ah_ofW (cc := cX2_dropSender) (maxL := 4) (ret := (some .int)) (by decide) rfl (Nat.le_of_ble_eq_true rfl) ?_
  intro p e s m below meth cd9 ls hx hb hr hml hown hlocks hname hts hE hR hS hl
  have hown : s.vm.findClass RX2 = some m.cls := hown
  have hl : lv_has ls 4 [(0, .ref ib), (1, .int (nI s9))] := hl
  have k58 := hts (.fieldLink RX2 58 "TextParts$Inbox" "heapCount" "I") (by decide +kernel)
  have hinX2 : ∀ w ∈ wsX20, w ∈ wsX2_dropSender := by decide +kernel
  refine lv_aload_n hx hb dX2_dropSender_0 rfl (lv_at hl 0 rfl) ?_
  refine ah_get (ci := 1) (v := .int (nI c)) (C := RX2) (T := TX2) (N := 5) hx hb hE hR hts hinX2 hown fi rfl 2 (by decide) k58 (fun _ h9 => h9) rfl dX2_dropSender_1 ?_
  refine lv_istore_n (lv' := [(2, .int (nI c)), (0, .ref ib), (1, .int (nI s9))]) hx hb dX2_dropSender_4 rfl hl (by decide) rfl (fun ls hl => ?_)
  refine lv_iload_n hx hb dX2_dropSender_5 rfl (lv_at hl 0 rfl) ?_
  refine lv_iconst (v := nI 1) hx hb dX2_dropSender_6 (by decide) ?_
  refine lv_isub hx hb dX2_dropSender_7 ?_
  refine ah_toi (v := nI c + (-1)) (Int32.sub_eq_add_neg _ _) ?_
  refine lv_istore_n (lv' := [(3, .int (nI c + (-1))), (2, .int (nI c)), (0, .ref ib), (1, .int (nI s9))]) hx hb dX2_dropSender_8 rfl hl (by decide) rfl (fun ls hl => ?_)
  have L9 : ∀ (N9 : Nat) (m9 : Nat) (c1 : Nat) (D1 : Nat → hDt) (hf1 : Nat → Option Nat) (h1 : ah_H) (H : Heap) (locs : List Loc) (ls : Array Slot), m9 < N9 → (m9 ≤ c1) → (c1 ≤ c) → (drp s9 m9 (c1, D1) = drp s9 c (c, D)) → (ibOk G h c1 D1 hf1) → (h1 = ah_up (ah_up h ib (8, .inr (1, [.ref rd, .ref hp, .int (nI c1), .int (nI pt), va_rf lo]))) hp (9, .inl (G.2.2.1 1, 16, .inr (.inr (.inr (.inr hf1)))))) → (h1 ib = some (8, .inr (1, [.ref rd, .ref hp, .int (nI c1), .int (nI pt), va_rf lo]))) → (h1 hp = some (9, .inl (G.2.2.1 1, 16, .inr (.inr (.inr (.inr hf1)))))) → ah_R G h1 H → va_S (ah_A G) s.heap H locs → lv_has ls 4 [(3, .int (nI m9 + (-1))), (2, .int (nI c)), (0, .ref ib), (1, .int (nI s9))] → W p l e ({ frames := 2, cells := 0, slots := 0, locals := 43 }) s m ([.ref ib, .int (nI s9)] : List Value).toArray below meth cd9 H locs 0 0 (MQ below (ah_Qi G (fun v h' => v = nI (c - (drp s9 c (c, D)).1) ∧ ∃ hf', h' = ah_up (ah_up h ib (8, .inr (1, [.ref rd, .ref hp, .int (nI ((drp s9 c (c, D)).1)), .int (nI pt), va_rf lo]))) hp (9, .inl (G.2.2.1 1, 16, .inr (.inr (.inr (.inr hf'))))) ∧ ibOk G h' (drp s9 c (c, D)).1 (drp s9 c (c, D)).2 hf')) ([.ref ib, .int (nI s9)] : List Value).toArray s 0 0 (ah_A G)) (F0 m 9 ls []) := by
    intro N9
    induction N9 with
    | zero => intro m9 c1 D1 hf1 h1 H locs ls hN; exact absurd hN (Nat.not_lt_zero _)
    | succ N9 ih9 =>
      intro m9 c1 D1 hf1 h1 H locs ls hN9 hm hc1 ed ok1 eh1 fi1 fp1 hR hS hl
      have fr1 : agr hTag h h1 := by rw [eh1]; exact (agr.rf.up fi (by unfold hTag; omega)).up (ah_keep fp fi (by omega)) (by unfold hTag; omega)
      have ok2 := ok1.frame fr1
      cases m9 with
      | zero =>
        refine lv_iload_n hx hb dX2_dropSender_9 rfl (lv_at hl 0 rfl) ?_
        refine lv_if_lt (tgt := 34) hx hb dX2_dropSender_10 (by decide) (fun c_1 => ?_) (fun c_1 => ?_)
        · skip
          refine lv_iload_n hx hb dX2_dropSender_34 rfl (lv_at hl 1 rfl) ?_
          refine lv_aload_n hx hb dX2_dropSender_35 rfl (lv_at hl 2 rfl) ?_
          refine ah_get (ci := 1) (v := .int (nI c1)) (C := RX2) (T := TX2) (N := 5) hx hb hE hR hts hinX2 hown fi1 rfl 2 (by decide) k58 (fun _ h9 => h9) rfl dX2_dropSender_36 ?_
          refine lv_isub hx hb dX2_dropSender_39 ?_
          refine ah_toi (v := nI (c - c1)) (pk_sub (by omega)) ?_
          refine ah_iret (v := nI (c - c1)) hx hb hr hlocks hR hS dX2_dropSender_40 ?_
          have ed0 : drp s9 c (c, D) = (c1, D1) := ed.symm
          rw [ed0]
          exact ⟨rfl, hf1, eh1, ok2⟩
        · skip
          exact absurd (by decide) c_1
      | succ m8 =>
        rw [pk_m1] at hl
        refine lv_iload_n hx hb dX2_dropSender_9 rfl (lv_at hl 0 rfl) ?_
        refine lv_if_lt (tgt := 34) hx hb dX2_dropSender_10 (by decide) (fun c_2 => ?_) (fun c_2 => ?_)
        · skip
          exact absurd c_2 (nI_pos (by omega))
        · skip
          refine lv_aload_n hx hb dX2_dropSender_13 rfl (lv_at hl 2 rfl) ?_
          refine lv_iload_n hx hb dX2_dropSender_14 rfl (lv_at hl 0 rfl) ?_
          refine lv_iconst (v := nI 0) hx hb dX2_dropSender_15 (by decide) ?_
          refine ah_calli (va_runV (As := [.int (nI m8), .int (nI 0)]) (rest := []) ⟨hx, hb, hml, hown, hts⟩ (c_Ib_about0 l G h1 ib hp rd c1 pt lo hf1 fi1 fp1 (by omega) D1 ok2 (nI m8)) (cwV 2 hts gX2_dropSender_X2_aboutHeap rfl rfl rfl (by decide +kernel) ⟨Nat.le_of_ble_eq_true rfl, Nat.le_of_ble_eq_true rfl⟩) (ah_preV hE hR hS fi1 rfl) rfl rfl hl.1 rfl (lv_room (Nat.le_of_ble_eq_true rfl)) dX2_dropSender_16 ⟨Nat.le_of_ble_eq_true rfl, Nat.le_of_ble_eq_true rfl⟩) hS (fun r_5 h_3 H locs p_4 hR hS => ?_)
          obtain ⟨e_6, e_7⟩ := p_4
          rw [e_7] at hR
          refine ah_toi e_6 ?_
          have hsd := (ok1.1 m8 (by omega)).2.2.2.2.1
          refine ah_toi (v := nI (d_s (D1 m8))) (by rw [if_neg (nI_pos (by omega)), if_neg (nI_ge (by omega) (by omega)), nI_clamp (by omega)]) ?_
          refine lv_iload_n hx hb dX2_dropSender_19 rfl (lv_at hl 3 rfl) ?_
          refine lv_icmp_ne (tgt := 28) hx hb dX2_dropSender_20 (by decide) (fun c_8 => ?_) (fun c_8 => ?_)
          · skip
            have c_8 : ¬ ((d_s (D1 m8)) = s9) := fun z9 => c_8 ((nI_eq (by omega) (by omega)).mpr z9)
            refine lv_iinc (v := nI m8 + -1) (lv' := [(3, .int (nI m8 + -1)), (2, .int (nI c)), (0, .ref ib), (1, .int (nI s9))]) hx hb dX2_dropSender_28 hl (k := 0) rfl rfl (by decide) rfl (fun ls hl => ?_)
            refine lv_goto (tgt := 9) hx hb dX2_dropSender_31 (by decide) ?_
            exact ih9  m8 c1 D1 hf1 h1 _ _ ls (by omega) (by omega) (by omega) (by rw [← ed]; show _ = drp s9 m8 (if d_s (D1 m8) = s9 then (c1 - 1, shf D1 m8) else (c1, D1)); rw [if_neg c_8]) ok1 eh1 fi1 fp1 hR hS (lv_sub hl [0, 1, 2, 3] rfl)
          · skip
            have c_8 : (d_s (D1 m8)) = s9 := (nI_eq (by omega) (by omega)).mp c_8
            refine lv_aload_n hx hb dX2_dropSender_23 rfl (lv_at hl 2 rfl) ?_
            refine lv_iload_n hx hb dX2_dropSender_24 rfl (lv_at hl 0 rfl) ?_
            refine ah_callv (va_runV (As := [.int (nI m8)]) (rest := []) ⟨hx, hb, hml, hown, hts⟩ (c_Ib_removeHeap l G h1 ib hp rd c1 pt lo hf1 fi1 fp1 (by omega) ok2.ob m8 (by omega)) (cwV 1 hts gX2_dropSender_X2_removeHeap rfl rfl rfl (by decide +kernel) ⟨Nat.le_of_ble_eq_true rfl, Nat.le_of_ble_eq_true rfl⟩) (ah_preV hE hR hS fi1 rfl) rfl rfl hl.1 rfl (lv_room (Nat.le_of_ble_eq_true rfl)) dX2_dropSender_25 ⟨Nat.le_of_ble_eq_true rfl, Nat.le_of_ble_eq_true rfl⟩) hS (fun h_9 H locs p_10 hR hS => ?_)
            have eh2 : h_9 = ah_up (ah_up h ib (8, .inr (1, [.ref rd, .ref hp, .int (nI (c1 - 1)), .int (nI pt), va_rf lo]))) hp (9, .inl (G.2.2.1 1, 16, .inr (.inr (.inr (.inr (rmA hf1 c1 m8)))))) := by rw [p_10, eh1, ah_up3 (ah_ne fi fp (by omega)), ah_up_swap (ah_ne fi fp (by omega)), ah_up2, ah_up_swap (ah_ne fp fi (by omega))]
            have f_12 : h_9 ib = some (8, .inr (1, [.ref rd, .ref hp, .int (nI (c1 - 1)), .int (nI pt), va_rf lo])) := by rw [p_10]; exact ah_keep (ah_up_s _ _ _) (ah_keep fp1 fi1 (by omega)) (by omega)
            have f_13 : h_9 hp = some (9, .inl (G.2.2.1 1, 16, .inr (.inr (.inr (.inr (rmA hf1 c1 m8)))))) := by rw [p_10]; exact ah_up_s _ _ _
            refine lv_iinc (v := nI m8 + -1) (lv' := [(3, .int (nI m8 + -1)), (2, .int (nI c)), (0, .ref ib), (1, .int (nI s9))]) hx hb dX2_dropSender_28 hl (k := 0) rfl rfl (by decide) rfl (fun ls hl => ?_)
            refine lv_goto (tgt := 9) hx hb dX2_dropSender_31 (by decide) ?_
            exact ih9  m8 (c1 - 1) (shf D1 m8) (rmA hf1 c1 m8) h_9 _ _ ls (by omega) (by omega) (by omega) (by rw [← ed]; show _ = drp s9 m8 (if d_s (D1 m8) = s9 then (c1 - 1, shf D1 m8) else (c1, D1)); rw [if_pos c_8]) (ok1.remove (by omega)) eh2 f_12 f_13 hR hS (lv_sub hl [0, 1, 2, 3] rfl)
  exact L9 ((c) + 1) c c D hf h _ _ ls (by omega) (by omega) (by omega) rfl hok (by rw [ah_up_id fi, ah_up_id fp]) fi fp hR hS (lv_sub hl [0, 1, 2, 3] rfl)
