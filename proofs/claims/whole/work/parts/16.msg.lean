/-! ===== TextParts.bytesForSevens, TextParts$Message: the parts written ===== -/
def bfs (n : Nat) : Nat := (7 * n + 7) / 8
theorem ptn_mem (f g : Nat → Int32) : ∀ (m k : Nat) (x : Int32), ptn f g m k x = -1 ∨ ∃ j, k ≤ j ∧ j < k + m ∧ f j = x ∧ ptn f g m k x = g j
  | 0, _, _ => Or.inl rfl
  | m + 1, k, x => by
    unfold ptn
    by_cases h : f k = x
    · rw [if_pos h]; exact Or.inr ⟨k, Nat.le_refl k, by omega, h, rfl⟩
    · rw [if_neg h]
      rcases ptn_mem f g m (k + 1) x with q | ⟨j, h1, h2, h3, h4⟩
      · exact Or.inl q
      · exact Or.inr ⟨j, by omega, by omega, h3, h4⟩
def plainN (u : Nat) : Nat := (plainSv u).toNatClampNeg
def escN (u : Nat) : Nat := (escSv u).toNatClampNeg
theorem tab1_ok : ∀ j, j < 11 → tabF 1 j = nI (tabF 1 j).toNatClampNeg ∧ (tabF 1 j).toNatClampNeg < 128 := by decide +kernel
theorem tab3_ok : ∀ j, j < 9 → tabF 3 j = nI (tabF 3 j).toNatClampNeg ∧ (tabF 3 j).toNatClampNeg < 128 := by decide +kernel
theorem plainSv_or (u : Nat) : plainSv u = -1 ∨ (plainSv u = nI (plainN u) ∧ plainN u < 128) := by
  unfold plainN plainSv
  by_cases h : ownP u
  · rw [if_pos h, nI_clamp (by omega)]; exact Or.inr ⟨rfl, by omega⟩
  · rw [if_neg h]
    rcases ptn_mem (tabF 0) (tabF 1) 11 0 (nI u) with q | ⟨j, h1, h2, h3, h4⟩
    · exact Or.inl q
    · rw [h4]; exact Or.inr (tab1_ok j (by omega))
theorem escSv_or (u : Nat) : escSv u = -1 ∨ (escSv u = nI (escN u) ∧ escN u < 128) := by
  unfold escN escSv
  rcases ptn_mem (tabF 2) (tabF 3) 9 0 (nI u) with q | ⟨j, h1, h2, h3, h4⟩
  · exact Or.inl q
  · rw [h4]; exact Or.inr (tab3_ok j (by omega))
theorem svFor1 {u : Nat} (h : ¬ plainSv u = -1) : svFor u = 1 := by unfold svFor; rw [if_neg h]
theorem svFor2 {u : Nat} (h : plainSv u = -1) (h0 : svFor u ≠ 0) : svFor u = 2 ∧ ¬ escSv u = -1 := by
  unfold svFor at h0 ⊢
  rw [if_pos h] at h0 ⊢
  by_cases h2 : escSv u = -1
  · rw [if_pos h2] at h0; exact absurd rfl h0
  · rw [if_neg h2]; exact ⟨rfl, h2⟩
theorem rwAdd_lt {g : Nat → Nat} {z k sv : Nat} (hg : ∀ j, g j < 256) (hs : sv < 128) : ∀ j, rwAdd g z k sv j < 256 := by
  have h7 : 7 * k % 8 < 8 := Nat.mod_lt _ (by omega)
  have hp : 2 ^ (7 * k % 8) ≤ 2 ^ 7 := Nat.pow_le_pow_right (by omega) (by omega)
  have hsh : sv * 2 ^ (7 * k % 8) < 2 ^ 15 := Nat.lt_of_le_of_lt (Nat.mul_le_mul_left _ hp) (by omega)
  have h1 := rwS_lt (z := z) (k := 2 + 7 * k / 8) hg (or_lt8 (bz_lt (z := z) (k := 2 + 7 * k / 8) hg) (show sv * 2 ^ (7 * k % 8) % 256 < 256 by omega))
  exact rwS_lt h1 (or_lt8 (bz_lt h1) (by omega))
/-- the sevens of m units from a on, laid from place pl on -/
def wSev (f : Nat → Nat) (z : Nat) : Nat → Nat → (Nat → Nat) → Nat → (Nat → Nat)
  | 0, _, g, _ => g
  | m + 1, a, g, pl => if plainSv (f a) = -1 then wSev f z m (a + 1) (rwAdd (rwAdd g z pl 27) z (pl + 1) (escN (f a))) (pl + 2) else wSev f z m (a + 1) (rwAdd g z pl (plainN (f a))) (pl + 1)
/-- .. and by pairs -/
def wPair (f : Nat → Nat) (z : Nat) : Nat → Nat → (Nat → Nat) → Nat → (Nat → Nat)
  | 0, _, g, _ => g
  | m + 1, a, g, pl => wPair f z m (a + 1) (rwS (rwS g z (2 + pl) (f a / 2 ^ 8)) z (2 + pl + 1) (f a % 256)) (pl + 2)
def sevZ (f : Nat → Nat) (od a b : Nat) : Nat := 2 + bfs (7 * od + sumS f a (b - a))
def sevG (f : Nat → Nat) (od a b : Nat) : Nat → Nat := wSev f (sevZ f od a b) (b - a) a (rwS (rwS (fun _ => 0) (sevZ f od a b) 0 od) (sevZ f od a b) 1 (7 * od + sumS f a (b - a))) (7 * od)
def pairZ (od a b : Nat) : Nat := 2 + (6 * od + 2 * (b - a))
def pairG (f : Nat → Nat) (od a b : Nat) : Nat → Nat := wPair f (pairZ od a b) (b - a) a (rwS (rwS (fun _ => 0) (pairZ od a b) 0 (4 + od)) (pairZ od a b) 1 (6 * od + 2 * (b - a))) (6 * od)
def hdrG (g : Nat → Nat) (z x y w : Nat) : Nat → Nat := rwS (rwS (rwS (rwS (rwS (rwS g z 2 5) z 3 0) z 4 3) z 5 x) z 6 y) z 7 w
theorem ah_up3 {h : ah_H} {a b : Nat} {x y z : Nat × va_E} (hab : a ≠ b) : ah_up (ah_up (ah_up h a x) b y) a z = ah_up (ah_up h b y) a z := by
  funext q
  by_cases h1 : q = a
  · subst h1; rw [ah_up_s, ah_up_s]
  · rw [ah_up_n h1, ah_up_n h1]
    by_cases h2 : q = b
    · subst h2; rw [ah_up_s, ah_up_s]
    · rw [ah_up_n h2, ah_up_n h2, ah_up_n h1]

set_option maxHeartbeats 4000000 in
set_option maxRecDepth 100000 in
theorem c_bytesForSevens (l : Launch) (G : ah_G) (h : ah_H) (u : Nat) (hu : u < 2 ^ 20) : Met l yX8_bytesForSevens wsX8_bytesForSevens ({ frames := 0, cells := 0, slots := 0, locals := 0 }) (ah_Pc G [.int (nI u)] h) (ah_Qi G (fun v h' => v = nI (bfs u) ∧ h' = h)) 0 0 (ah_A G) := by
  refine ah_ofW (cc := cX8_bytesForSevens) (maxL := 1) (ret := (some .int)) (by decide) rfl (Nat.le_of_ble_eq_true rfl) ?_
  intro p e s m below meth cd9 ls hx hb hr hml hown hlocks hname hts hE hR hS hl
  have hown : s.vm.findClass RX8 = some m.cls := hown
  have hl : lv_has ls 1 [(0, .int (nI u))] := hl
  refine lv_bipush (v := nI 7) hx hb dX8_bytesForSevens_0 (by decide) ?_
  refine lv_iload_n hx hb dX8_bytesForSevens_2 rfl (lv_at hl 0 rfl) ?_
  refine lv_imul hx hb dX8_bytesForSevens_3 ?_
  refine ah_toi (v := nI (7 * u)) (pk_mul _ _) ?_
  refine lv_bipush (v := nI 7) hx hb dX8_bytesForSevens_4 (by decide) ?_
  refine lv_iadd hx hb dX8_bytesForSevens_6 ?_
  refine ah_toi (v := nI ((7 * u) + 7)) (nI_add _ _) ?_
  refine lv_bipush (v := nI 8) hx hb dX8_bytesForSevens_7 (by decide) ?_
  refine lv_idiv hx hb dX8_bytesForSevens_9 (by decide) ?_
  refine ah_toi (v := nI (((7 * u) + 7) / 8)) (pk_div (by omega) (by omega) (by omega)) ?_
  refine ah_iret (v := nI (((7 * u) + 7) / 8)) hx hb hr hlocks hR hS dX8_bytesForSevens_10 ?_
  exact ⟨rfl, rfl⟩

set_option maxHeartbeats 4000000 in
set_option maxRecDepth 100000 in
theorem c_Msg_writeHeader (l : Launch) (G : ah_G) (h : ah_H) (k r bb z : Nat) (g : Nat → Nat) (fr : h r = some (100 + 2 * k, .inr (5, [.ref bb, .int (nI z)]))) (fb : h bb = some (101 + 2 * k, .inl (G.2.2.1 0, 142, .inl (nA g)))) (hz : z ≤ 142) (x y v : Nat) : Met l yX3_writeHeader wsX3_writeHeader ({ frames := 1, cells := 0, slots := 0, locals := 22 }) (ah_Pc G [.ref r, .int (nI x), .int (nI y), .int (nI v)] h) (ah_Qv G (fun h' => h' = ah_up h bb (101 + 2 * k, .inl (G.2.2.1 0, 142, .inl (nA (hdrG g z x y v)))))) 0 0 (ah_A G) := by
  refine ah_ofW (cc := cX3_writeHeader) (maxL := 4) (ret := none) (by decide) rfl (Nat.le_of_ble_eq_true rfl) ?_
  intro p e s m below meth cd9 ls hx hb hr hml hown hlocks hname hts hE hR hS hl
  have hown : s.vm.findClass RX3 = some m.cls := hown
  have hl : lv_has ls 4 [(0, .ref r), (1, .int (nI x)), (2, .int (nI y)), (3, .int (nI v))] := hl
  refine lv_aload_n hx hb dX3_writeHeader_0 rfl (lv_at hl 0 rfl) ?_
  refine lv_iconst (v := nI 2) hx hb dX3_writeHeader_1 (by decide) ?_
  refine lv_iconst (v := nI 5) hx hb dX3_writeHeader_2 (by decide) ?_
  refine ah_callv (va_runV (As := [.int (nI 2), .int (nI 5)]) (rest := []) ⟨hx, hb, hml, hown, hts⟩ (c_Row_setByte l G h r bb (100 + 2 * k) (101 + 2 * k) 142 z g fr fb (by omega) hz (by decide) 2 5 (by omega)) (cwV 2 hts gX3_writeHeader_X6_setByte rfl rfl rfl (by decide +kernel) ⟨Nat.le_of_ble_eq_true rfl, Nat.le_of_ble_eq_true rfl⟩) (ah_preV hE hR hS fr rfl) rfl rfl hl.1 rfl (lv_room (Nat.le_of_ble_eq_true rfl)) dX3_writeHeader_3 ⟨Nat.le_of_ble_eq_true rfl, Nat.le_of_ble_eq_true rfl⟩) hS (fun h_1 H locs p_2 hR hS => ?_)
  have f_4 : h_1 r = some (100 + 2 * k, .inr (5, [.ref bb, .int (nI z)])) := by rw [p_2]; exact ah_keep fr fb (by omega)
  have f_5 : h_1 bb = some (101 + 2 * k, .inl (G.2.2.1 0, 142, .inl (nA (rwS g z 2 5)))) := by rw [p_2]; exact ah_up_s _ _ _
  refine lv_aload_n hx hb dX3_writeHeader_6 rfl (lv_at hl 0 rfl) ?_
  refine lv_iconst (v := nI 3) hx hb dX3_writeHeader_7 (by decide) ?_
  refine lv_iconst (v := nI 0) hx hb dX3_writeHeader_8 (by decide) ?_
  refine ah_callv (va_runV (As := [.int (nI 3), .int (nI 0)]) (rest := []) ⟨hx, hb, hml, hown, hts⟩ (c_Row_setByte l G h_1 r bb (100 + 2 * k) (101 + 2 * k) 142 z (rwS g z 2 5) f_4 f_5 (by omega) hz (by decide) 3 0 (by omega)) (cwV 2 hts gX3_writeHeader_X6_setByte rfl rfl rfl (by decide +kernel) ⟨Nat.le_of_ble_eq_true rfl, Nat.le_of_ble_eq_true rfl⟩) (ah_preV hE hR hS f_4 rfl) rfl rfl hl.1 rfl (lv_room (Nat.le_of_ble_eq_true rfl)) dX3_writeHeader_9 ⟨Nat.le_of_ble_eq_true rfl, Nat.le_of_ble_eq_true rfl⟩) hS (fun h_6 H locs p_7 hR hS => ?_)
  have f_9 : h_6 r = some (100 + 2 * k, .inr (5, [.ref bb, .int (nI z)])) := by rw [p_7]; exact ah_keep f_4 f_5 (by omega)
  have f_10 : h_6 bb = some (101 + 2 * k, .inl (G.2.2.1 0, 142, .inl (nA (rwS (rwS g z 2 5) z 3 0)))) := by rw [p_7]; exact ah_up_s _ _ _
  refine lv_aload_n hx hb dX3_writeHeader_12 rfl (lv_at hl 0 rfl) ?_
  refine lv_iconst (v := nI 4) hx hb dX3_writeHeader_13 (by decide) ?_
  refine lv_iconst (v := nI 3) hx hb dX3_writeHeader_14 (by decide) ?_
  refine ah_callv (va_runV (As := [.int (nI 4), .int (nI 3)]) (rest := []) ⟨hx, hb, hml, hown, hts⟩ (c_Row_setByte l G h_6 r bb (100 + 2 * k) (101 + 2 * k) 142 z (rwS (rwS g z 2 5) z 3 0) f_9 f_10 (by omega) hz (by decide) 4 3 (by omega)) (cwV 2 hts gX3_writeHeader_X6_setByte rfl rfl rfl (by decide +kernel) ⟨Nat.le_of_ble_eq_true rfl, Nat.le_of_ble_eq_true rfl⟩) (ah_preV hE hR hS f_9 rfl) rfl rfl hl.1 rfl (lv_room (Nat.le_of_ble_eq_true rfl)) dX3_writeHeader_15 ⟨Nat.le_of_ble_eq_true rfl, Nat.le_of_ble_eq_true rfl⟩) hS (fun h_11 H locs p_12 hR hS => ?_)
  have f_14 : h_11 r = some (100 + 2 * k, .inr (5, [.ref bb, .int (nI z)])) := by rw [p_12]; exact ah_keep f_9 f_10 (by omega)
  have f_15 : h_11 bb = some (101 + 2 * k, .inl (G.2.2.1 0, 142, .inl (nA (rwS (rwS (rwS g z 2 5) z 3 0) z 4 3)))) := by rw [p_12]; exact ah_up_s _ _ _
  refine lv_aload_n hx hb dX3_writeHeader_18 rfl (lv_at hl 0 rfl) ?_
  refine lv_iconst (v := nI 5) hx hb dX3_writeHeader_19 (by decide) ?_
  refine lv_iload_n hx hb dX3_writeHeader_20 rfl (lv_at hl 1 rfl) ?_
  refine ah_callv (va_runV (As := [.int (nI 5), .int (nI x)]) (rest := []) ⟨hx, hb, hml, hown, hts⟩ (c_Row_setByte l G h_11 r bb (100 + 2 * k) (101 + 2 * k) 142 z (rwS (rwS (rwS g z 2 5) z 3 0) z 4 3) f_14 f_15 (by omega) hz (by decide) 5 x (by omega)) (cwV 2 hts gX3_writeHeader_X6_setByte rfl rfl rfl (by decide +kernel) ⟨Nat.le_of_ble_eq_true rfl, Nat.le_of_ble_eq_true rfl⟩) (ah_preV hE hR hS f_14 rfl) rfl rfl hl.1 rfl (lv_room (Nat.le_of_ble_eq_true rfl)) dX3_writeHeader_21 ⟨Nat.le_of_ble_eq_true rfl, Nat.le_of_ble_eq_true rfl⟩) hS (fun h_16 H locs p_17 hR hS => ?_)
  have f_19 : h_16 r = some (100 + 2 * k, .inr (5, [.ref bb, .int (nI z)])) := by rw [p_17]; exact ah_keep f_14 f_15 (by omega)
  have f_20 : h_16 bb = some (101 + 2 * k, .inl (G.2.2.1 0, 142, .inl (nA (rwS (rwS (rwS (rwS g z 2 5) z 3 0) z 4 3) z 5 x)))) := by rw [p_17]; exact ah_up_s _ _ _
  refine lv_aload_n hx hb dX3_writeHeader_24 rfl (lv_at hl 0 rfl) ?_
  refine lv_bipush (v := nI 6) hx hb dX3_writeHeader_25 (by decide) ?_
  refine lv_iload_n hx hb dX3_writeHeader_27 rfl (lv_at hl 2 rfl) ?_
  refine ah_callv (va_runV (As := [.int (nI 6), .int (nI y)]) (rest := []) ⟨hx, hb, hml, hown, hts⟩ (c_Row_setByte l G h_16 r bb (100 + 2 * k) (101 + 2 * k) 142 z (rwS (rwS (rwS (rwS g z 2 5) z 3 0) z 4 3) z 5 x) f_19 f_20 (by omega) hz (by decide) 6 y (by omega)) (cwV 2 hts gX3_writeHeader_X6_setByte rfl rfl rfl (by decide +kernel) ⟨Nat.le_of_ble_eq_true rfl, Nat.le_of_ble_eq_true rfl⟩) (ah_preV hE hR hS f_19 rfl) rfl rfl hl.1 rfl (lv_room (Nat.le_of_ble_eq_true rfl)) dX3_writeHeader_28 ⟨Nat.le_of_ble_eq_true rfl, Nat.le_of_ble_eq_true rfl⟩) hS (fun h_21 H locs p_22 hR hS => ?_)
  have f_24 : h_21 r = some (100 + 2 * k, .inr (5, [.ref bb, .int (nI z)])) := by rw [p_22]; exact ah_keep f_19 f_20 (by omega)
  have f_25 : h_21 bb = some (101 + 2 * k, .inl (G.2.2.1 0, 142, .inl (nA (rwS (rwS (rwS (rwS (rwS g z 2 5) z 3 0) z 4 3) z 5 x) z 6 y)))) := by rw [p_22]; exact ah_up_s _ _ _
  refine lv_aload_n hx hb dX3_writeHeader_31 rfl (lv_at hl 0 rfl) ?_
  refine lv_bipush (v := nI 7) hx hb dX3_writeHeader_32 (by decide) ?_
  refine lv_iload_n hx hb dX3_writeHeader_34 rfl (lv_at hl 3 rfl) ?_
  refine ah_callv (va_runV (As := [.int (nI 7), .int (nI v)]) (rest := []) ⟨hx, hb, hml, hown, hts⟩ (c_Row_setByte l G h_21 r bb (100 + 2 * k) (101 + 2 * k) 142 z (rwS (rwS (rwS (rwS (rwS g z 2 5) z 3 0) z 4 3) z 5 x) z 6 y) f_24 f_25 (by omega) hz (by decide) 7 v (by omega)) (cwV 2 hts gX3_writeHeader_X6_setByte rfl rfl rfl (by decide +kernel) ⟨Nat.le_of_ble_eq_true rfl, Nat.le_of_ble_eq_true rfl⟩) (ah_preV hE hR hS f_24 rfl) rfl rfl hl.1 rfl (lv_room (Nat.le_of_ble_eq_true rfl)) dX3_writeHeader_35 ⟨Nat.le_of_ble_eq_true rfl, Nat.le_of_ble_eq_true rfl⟩) hS (fun h_26 H locs p_27 hR hS => ?_)
  have f_29 : h_26 r = some (100 + 2 * k, .inr (5, [.ref bb, .int (nI z)])) := by rw [p_27]; exact ah_keep f_24 f_25 (by omega)
  have f_30 : h_26 bb = some (101 + 2 * k, .inl (G.2.2.1 0, 142, .inl (nA (rwS (rwS (rwS (rwS (rwS (rwS g z 2 5) z 3 0) z 4 3) z 5 x) z 6 y) z 7 v)))) := by rw [p_27]; exact ah_up_s _ _ _
  refine ah_vret hx hb hr hlocks hR hS dX3_writeHeader_38 ?_
  rw [p_27, p_22, p_17, p_12, p_7, p_2]
  simp only [ah_up2]
  rfl

set_option maxHeartbeats 4000000 in
set_option maxRecDepth 100000 in
theorem c_Msg_writeSevens (l : Launch) (G : ah_G) (h : ah_H) (k r bb z : Nat) (g : Nat → Nat) (fr : h r = some (100 + 2 * k, .inr (5, [.ref bb, .int (nI z)]))) (fb : h bb = some (101 + 2 * k, .inl (G.2.2.1 0, 142, .inl (nA g)))) (hz : z ≤ 142) (t ua n sv os : Nat) (f : Nat → Nat) (ft : h t = some (2, .inr (6, [.ref ua, .int (nI n), .int (nI sv), .int (nI os)]))) (fu : h ua = some (3, .inl (G.2.2.1 0, 3000, .inl (nA f)))) (hn : n ≤ 3000) (hsv : sv < 2 ^ 30) (hos : os < 2 ^ 30) (hf : ∀ j, f j < 65536) (a b od : Nat) (hab : a ≤ b) (hbn : b ≤ n) (hhb : od ≤ 1) (htot : 7 * od + sumS f a (b - a) ≤ 160) (hin : ∀ i, a ≤ i → i < b → svFor (f i) ≠ 0) : Met l yX3_writeSevens wsX3_writeSevens ({ frames := 4, cells := 0, slots := 0, locals := 87 }) (ah_Pc G [.ref r, .ref t, .int (nI a), .int (nI b), .int (nI od)] h) (ah_Qv G (fun h' => h' = ah_up (ah_up h r (100 + 2 * k, .inr (5, [.ref bb, .int (nI (sevZ f od a b))]))) bb (101 + 2 * k, .inl (G.2.2.1 0, 142, .inl (nA (sevG f od a b)))))) 0 0 (ah_A G) := by
  refine ah_ofW (cc := cX3_writeSevens) (maxL := 10) (ret := none) (by decide) rfl (Nat.le_of_ble_eq_true rfl) ?_
  intro p e s m below meth cd9 ls hx hb hr hml hown hlocks hname hts hE hR hS hl
  have hown : s.vm.findClass RX3 = some m.cls := hown
  have hl : lv_has ls 10 [(0, .ref r), (1, .ref t), (2, .int (nI a)), (3, .int (nI b)), (4, .int (nI od))] := hl
  have winitialized_RX8 := hts (.initialized RX8) (by decide +kernel)
  have wstatic_yX8_bytesForSevens := hts (.static yX8_bytesForSevens) (by decide +kernel)
  refine lv_iload hx hb dX3_writeSevens_0 (lv_at hl 4 rfl) ?_
  refine lv_if_eq (tgt := 10) hx hb dX3_writeSevens_2 (by decide) (fun c_1 => ?_) (fun c_1 => ?_)
  · skip
    have c_1 : od = 0 := (zi_eq (by omega)).mp c_1
    refine lv_iconst (v := nI 0) hx hb dX3_writeSevens_10 (by decide) ?_
    refine ah_toi (v := nI (7 * od)) (by rw [show 7 * od = 0 by omega]) ?_
    refine lv_istore (lv' := [(5, .int (nI (7 * od))), (0, .ref r), (1, .ref t), (2, .int (nI a)), (3, .int (nI b)), (4, .int (nI od))]) hx hb dX3_writeSevens_11 hl (by decide) rfl (fun ls hl => ?_)
    refine lv_iload hx hb dX3_writeSevens_13 (lv_at hl 0 rfl) ?_
    refine lv_aload_n hx hb dX3_writeSevens_15 rfl (lv_at hl 2 rfl) ?_
    refine lv_iload_n hx hb dX3_writeSevens_16 rfl (lv_at hl 3 rfl) ?_
    refine lv_iload_n hx hb dX3_writeSevens_17 rfl (lv_at hl 4 rfl) ?_
    refine ah_calli (va_runV (As := [.int (nI a), .int (nI b)]) (rest := [.int (nI (7 * od))]) ⟨hx, hb, hml, hown, hts⟩ (c_Text_sevensBetween l G h t ua 2 3 n sv os f ft fu (by decide) hn hsv hos hf a b hab hbn) (cwV 2 hts gX3_writeSevens_X7_sevensBetween rfl rfl rfl (by decide +kernel) ⟨Nat.le_of_ble_eq_true rfl, Nat.le_of_ble_eq_true rfl⟩) (ah_preV hE hR hS ft rfl) rfl rfl hl.1 rfl (lv_room (Nat.le_of_ble_eq_true rfl)) dX3_writeSevens_18 ⟨Nat.le_of_ble_eq_true rfl, Nat.le_of_ble_eq_true rfl⟩) hS (fun r_4 h_2 H locs p_3 hR hS => ?_)
    obtain ⟨e_5, e_6⟩ := p_3
    rw [e_6] at hR
    refine ah_toi e_5 ?_
    refine lv_iadd hx hb dX3_writeSevens_21 ?_
    refine ah_toi (v := nI ((7 * od) + (sumS f a (b - a)))) (nI_add _ _) ?_
    refine lv_istore (lv' := [(6, .int (nI ((7 * od) + (sumS f a (b - a))))), (5, .int (nI (7 * od))), (0, .ref r), (1, .ref t), (2, .int (nI a)), (3, .int (nI b)), (4, .int (nI od))]) hx hb dX3_writeSevens_22 hl (by decide) rfl (fun ls hl => ?_)
    refine lv_aload_n hx hb dX3_writeSevens_24 rfl (lv_at hl 2 rfl) ?_
    refine lv_iconst (v := nI 2) hx hb dX3_writeSevens_25 (by decide) ?_
    refine lv_iload hx hb dX3_writeSevens_26 (lv_at hl 0 rfl) ?_
    refine ah_calli (va_runSN (As := [.int (nI ((7 * od) + (sumS f a (b - a))))]) (rest := [.int (nI 2), .ref r]) ⟨hx, hb, hml, hown, hts⟩ (c_bytesForSevens l G h ((7 * od) + (sumS f a (b - a))) (by omega)) ⟨va_cnB 1 hts gX3_writeSevens_X8_bytesForSevens_n52 rfl rfl rfl hE.2.2.2.1.2.2.2.2.1 winitialized_RX8 (by decide +kernel) ⟨Nat.le_of_ble_eq_true rfl, Nat.le_of_ble_eq_true rfl⟩, wstatic_yX8_bytesForSevens, trivial⟩ (ah_preS hE hR hS) rfl rfl hl.1 rfl (lv_room (Nat.le_of_ble_eq_true rfl)) dX3_writeSevens_28 ⟨Nat.le_of_ble_eq_true rfl, Nat.le_of_ble_eq_true rfl⟩) hS (fun r_9 h_7 H locs p_8 hR hS => ?_)
    obtain ⟨e_10, e_11⟩ := p_8
    rw [e_11] at hR
    refine ah_toi e_10 ?_
    refine lv_iadd hx hb dX3_writeSevens_31 ?_
    refine ah_toi (v := nI (sevZ f od a b)) (nI_add _ _) ?_
    have hz142 : sevZ f od a b ≤ 142 := by unfold sevZ bfs; omega
    refine ah_callv (va_runV (As := [.int (nI (sevZ f od a b))]) (rest := []) ⟨hx, hb, hml, hown, hts⟩ (c_Row_restart l G h r bb (100 + 2 * k) (101 + 2 * k) 142 z g fr fb (by omega) hz (by decide) (sevZ f od a b) hz142) (cwV 1 hts gX3_writeSevens_X6_restart rfl rfl rfl (by decide +kernel) ⟨Nat.le_of_ble_eq_true rfl, Nat.le_of_ble_eq_true rfl⟩) (ah_preV hE hR hS fr rfl) rfl rfl hl.1 rfl (lv_room (Nat.le_of_ble_eq_true rfl)) dX3_writeSevens_32 ⟨Nat.le_of_ble_eq_true rfl, Nat.le_of_ble_eq_true rfl⟩) hS (fun h_12 H locs p_13 hR hS => ?_)
    have f_15 : h_12 r = some (100 + 2 * k, .inr (5, [.ref bb, .int (nI (sevZ f od a b))])) := by rw [p_13]; exact ah_up_s _ _ _
    have f_16 : h_12 bb = some (101 + 2 * k, .inl (G.2.2.1 0, 142, .inl (nA (fun _ => 0)))) := by rw [p_13]; exact ah_keep (ah_up_s _ _ _) (ah_keep fr fb (by omega)) (by omega)
    have f_17 : h_12 t = some (2, .inr (6, [.ref ua, .int (nI n), .int (nI sv), .int (nI os)])) := by rw [p_13]; exact ah_keep (ah_keep ft fb (by omega)) (ah_keep fr fb (by omega)) (by omega)
    have f_18 : h_12 ua = some (3, .inl (G.2.2.1 0, 3000, .inl (nA f))) := by rw [p_13]; exact ah_keep (ah_keep fu fb (by omega)) (ah_keep fr fb (by omega)) (by omega)
    refine lv_aload_n hx hb dX3_writeSevens_35 rfl (lv_at hl 2 rfl) ?_
    refine lv_iconst (v := nI 0) hx hb dX3_writeSevens_36 (by decide) ?_
    refine lv_iload hx hb dX3_writeSevens_37 (lv_at hl 6 rfl) ?_
    refine lv_if_eq (tgt := 46) hx hb dX3_writeSevens_39 (by decide) (fun c_19 => ?_) (fun c_19 => ?_)
    · skip
      have c_19 : od = 0 := (zi_eq (by omega)).mp c_19
      refine lv_iconst (v := nI 0) hx hb dX3_writeSevens_46 (by decide) ?_
      refine ah_toi (v := nI od) (by rw [show od = 0 by omega]) ?_
      refine ah_callv (va_runV (As := [.int (nI 0), .int (nI od)]) (rest := []) ⟨hx, hb, hml, hown, hts⟩ (c_Row_setByte l G h_12 r bb (100 + 2 * k) (101 + 2 * k) 142 (sevZ f od a b) (fun _ => 0) f_15 f_16 (by omega) hz142 (by decide) 0 od (by omega)) (cwV 2 hts gX3_writeSevens_X6_setByte rfl rfl rfl (by decide +kernel) ⟨Nat.le_of_ble_eq_true rfl, Nat.le_of_ble_eq_true rfl⟩) (ah_preV hE hR hS f_15 rfl) rfl rfl hl.1 rfl (lv_room (Nat.le_of_ble_eq_true rfl)) dX3_writeSevens_47 ⟨Nat.le_of_ble_eq_true rfl, Nat.le_of_ble_eq_true rfl⟩) hS (fun h_20 H locs p_21 hR hS => ?_)
      have f_23 : h_20 r = some (100 + 2 * k, .inr (5, [.ref bb, .int (nI (sevZ f od a b))])) := by rw [p_21]; exact ah_keep f_15 f_16 (by omega)
      have f_24 : h_20 bb = some (101 + 2 * k, .inl (G.2.2.1 0, 142, .inl (nA (rwS (fun _ => 0) (sevZ f od a b) 0 od)))) := by rw [p_21]; exact ah_up_s _ _ _
      have f_25 : h_20 t = some (2, .inr (6, [.ref ua, .int (nI n), .int (nI sv), .int (nI os)])) := by rw [p_21]; exact ah_keep f_17 f_16 (by omega)
      have f_26 : h_20 ua = some (3, .inl (G.2.2.1 0, 3000, .inl (nA f))) := by rw [p_21]; exact ah_keep f_18 f_16 (by omega)
      refine lv_aload_n hx hb dX3_writeSevens_50 rfl (lv_at hl 2 rfl) ?_
      refine lv_iconst (v := nI 1) hx hb dX3_writeSevens_51 (by decide) ?_
      refine lv_iload hx hb dX3_writeSevens_52 (lv_at hl 0 rfl) ?_
      refine ah_callv (va_runV (As := [.int (nI 1), .int (nI ((7 * od) + (sumS f a (b - a))))]) (rest := []) ⟨hx, hb, hml, hown, hts⟩ (c_Row_setByte l G h_20 r bb (100 + 2 * k) (101 + 2 * k) 142 (sevZ f od a b) (rwS (fun _ => 0) (sevZ f od a b) 0 od) f_23 f_24 (by omega) hz142 (by decide) 1 ((7 * od) + (sumS f a (b - a))) (by omega)) (cwV 2 hts gX3_writeSevens_X6_setByte rfl rfl rfl (by decide +kernel) ⟨Nat.le_of_ble_eq_true rfl, Nat.le_of_ble_eq_true rfl⟩) (ah_preV hE hR hS f_23 rfl) rfl rfl hl.1 rfl (lv_room (Nat.le_of_ble_eq_true rfl)) dX3_writeSevens_54 ⟨Nat.le_of_ble_eq_true rfl, Nat.le_of_ble_eq_true rfl⟩) hS (fun h_27 H locs p_28 hR hS => ?_)
      have f_30 : h_27 r = some (100 + 2 * k, .inr (5, [.ref bb, .int (nI (sevZ f od a b))])) := by rw [p_28]; exact ah_keep f_23 f_24 (by omega)
      have f_31 : h_27 bb = some (101 + 2 * k, .inl (G.2.2.1 0, 142, .inl (nA (rwS (rwS (fun _ => 0) (sevZ f od a b) 0 od) (sevZ f od a b) 1 ((7 * od) + (sumS f a (b - a))))))) := by rw [p_28]; exact ah_up_s _ _ _
      have f_32 : h_27 t = some (2, .inr (6, [.ref ua, .int (nI n), .int (nI sv), .int (nI os)])) := by rw [p_28]; exact ah_keep f_25 f_24 (by omega)
      have f_33 : h_27 ua = some (3, .inl (G.2.2.1 0, 3000, .inl (nA f))) := by rw [p_28]; exact ah_keep f_26 f_24 (by omega)
      refine lv_iload_n hx hb dX3_writeSevens_57 rfl (lv_at hl 4 rfl) ?_
      refine lv_istore (lv' := [(7, .int (nI a)), (6, .int (nI ((7 * od) + (sumS f a (b - a))))), (5, .int (nI (7 * od))), (0, .ref r), (1, .ref t), (2, .int (nI a)), (3, .int (nI b)), (4, .int (nI od))]) hx hb dX3_writeSevens_58 hl (by decide) rfl (fun ls hl => ?_)
      have hrb : bb ≠ r := ah_ne fb fr (by omega)
      have hg0 : ∀ j, (rwS (rwS (fun _ => 0) (sevZ f od a b) 0 od) (sevZ f od a b) 1 (7 * od + sumS f a (b - a))) j < 256 := rwS_lt (rwS_lt (fun _ => by omega) (by omega)) (by omega)
      have L60 : ∀ (N60 : Nat) (i : Nat) (pl : Nat) (g1 : Nat → Nat) (h1 : ah_H) (H : Heap) (locs : List Loc) (ls : Array Slot), b - i < N60 → (a ≤ i) → (i ≤ b) → (pl = 7 * od + sumS f a (i - a)) → (∀ j, g1 j < 256) → (wSev f (sevZ f od a b) (b - i) i g1 pl = sevG f od a b) → (h1 = ah_up (ah_up h r (100 + 2 * k, .inr (5, [.ref bb, .int (nI (sevZ f od a b))]))) bb (101 + 2 * k, .inl (G.2.2.1 0, 142, .inl (nA g1)))) → (h1 r = some (100 + 2 * k, .inr (5, [.ref bb, .int (nI (sevZ f od a b))]))) → (h1 bb = some (101 + 2 * k, .inl (G.2.2.1 0, 142, .inl (nA g1)))) → (h1 t = some (2, .inr (6, [.ref ua, .int (nI n), .int (nI sv), .int (nI os)]))) → (h1 ua = some (3, .inl (G.2.2.1 0, 3000, .inl (nA f)))) → ah_R G h1 H → va_S (ah_A G) s.heap H locs → lv_has ls 10 [(7, .int (nI i)), (5, .int (nI pl)), (0, .ref r), (1, .ref t), (2, .int (nI a)), (3, .int (nI b))] → W p l e ({ frames := 4, cells := 0, slots := 0, locals := 87 }) s m ([.ref r, .ref t, .int (nI a), .int (nI b), .int (nI od)] : List Value).toArray below meth cd9 H locs 0 0 (MQ below (ah_Qv G (fun h' => h' = ah_up (ah_up h r (100 + 2 * k, .inr (5, [.ref bb, .int (nI (sevZ f od a b))]))) bb (101 + 2 * k, .inl (G.2.2.1 0, 142, .inl (nA (sevG f od a b)))))) ([.ref r, .ref t, .int (nI a), .int (nI b), .int (nI od)] : List Value).toArray s 0 0 (ah_A G)) (F0 m 60 ls []) := by
        intro N60
        induction N60 with
        | zero => intro i pl g1 h1 H locs ls hN; exact absurd hN (Nat.not_lt_zero _)
        | succ N60 ih60 =>
          intro i pl g1 h1 H locs ls hN60 hi hi2 hpl hg1 ew eh1 fr1 fb1 ft1 fu1 hR hS hl
          refine lv_iload hx hb dX3_writeSevens_60 (lv_at hl 0 rfl) ?_
          refine lv_iload_n hx hb dX3_writeSevens_62 rfl (lv_at hl 5 rfl) ?_
          refine lv_icmp_ge (tgt := 122) hx hb dX3_writeSevens_63 (by decide) (fun c_34 => ?_) (fun c_34 => ?_)
          · skip
            have c_34 : b ≤ i := (nI_leI (by omega) (by omega)).mp c_34
            refine ah_vret hx hb hr hlocks hR hS dX3_writeSevens_122 ?_
            rw [eh1, ← ew, show b - i = 0 by omega]; rfl
          · skip
            have c_34 : ¬ (b ≤ i) := fun z9 => c_34 ((nI_leI (by omega) (by omega)).mpr z9)
            refine lv_aload_n hx hb dX3_writeSevens_66 rfl (lv_at hl 3 rfl) ?_
            refine lv_iload hx hb dX3_writeSevens_67 (lv_at hl 0 rfl) ?_
            refine ah_calli (va_runV (As := [.int (nI i)]) (rest := []) ⟨hx, hb, hml, hown, hts⟩ (c_Text_unitAt l G h1 t ua 2 3 n sv os f ft1 fu1 (by decide) hn hsv hos hf i (by omega)) (cwV 1 hts gX3_writeSevens_X7_unitAt rfl rfl rfl (by decide +kernel) ⟨Nat.le_of_ble_eq_true rfl, Nat.le_of_ble_eq_true rfl⟩) (ah_preV hE hR hS ft1 rfl) rfl rfl hl.1 rfl (lv_room (Nat.le_of_ble_eq_true rfl)) dX3_writeSevens_69 ⟨Nat.le_of_ble_eq_true rfl, Nat.le_of_ble_eq_true rfl⟩) hS (fun r_37 h_35 H locs p_36 hR hS => ?_)
            obtain ⟨e_38, e_39⟩ := p_36
            rw [e_39] at hR
            refine ah_toi e_38 ?_
            have hfu := hf i
            have hnz := hin i hi (by omega)
            have hss := sumS_le f a (i - a)
            refine lv_istore (lv' := [(8, .int (nI (f i))), (7, .int (nI i)), (5, .int (nI pl)), (0, .ref r), (1, .ref t), (2, .int (nI a)), (3, .int (nI b))]) hx hb dX3_writeSevens_72 hl (by decide) rfl (fun ls hl => ?_)
            refine lv_iload hx hb dX3_writeSevens_74 (lv_at hl 0 rfl) ?_
            refine ah_calli (va_runS (As := [.int (nI (f i))]) (rest := []) ⟨hx, hb, hml, hown, hts⟩ (c_plainSeven l G h1 (f i) (by omega)) (va_cwS 1 hts gX3_writeSevens_X0_plainSeven rfl rfl rfl (by decide +kernel) ⟨Nat.le_of_ble_eq_true rfl, Nat.le_of_ble_eq_true rfl⟩) (ah_preS hE hR hS) rfl rfl hl.1 rfl (lv_room (Nat.le_of_ble_eq_true rfl)) dX3_writeSevens_76 ⟨Nat.le_of_ble_eq_true rfl, Nat.le_of_ble_eq_true rfl⟩) hS (fun r_42 h_40 H locs p_41 hR hS => ?_)
            obtain ⟨e_43, e_44⟩ := p_41
            rw [e_44] at hR
            refine ah_toi e_43 ?_
            refine lv_istore (lv' := [(9, .int (plainSv (f i))), (8, .int (nI (f i))), (7, .int (nI i)), (5, .int (nI pl)), (0, .ref r), (1, .ref t), (2, .int (nI a)), (3, .int (nI b))]) hx hb dX3_writeSevens_79 hl (by decide) rfl (fun ls hl => ?_)
            refine lv_iload hx hb dX3_writeSevens_81 (lv_at hl 0 rfl) ?_
            refine lv_iconst (v := (-1)) hx hb dX3_writeSevens_83 (by decide) ?_
            refine lv_icmp_ne (tgt := 105) hx hb dX3_writeSevens_84 (by decide) (fun c_45 => ?_) (fun c_45 => ?_)
            · skip
              have hp := (plainSv_or (f i)).resolve_left c_45
              rw [hp.1] at hl
              have hsvi := svFor1 c_45
              refine lv_aload_n hx hb dX3_writeSevens_105 rfl (lv_at hl 4 rfl) ?_
              refine lv_iload hx hb dX3_writeSevens_106 (lv_at hl 3 rfl) ?_
              refine lv_iload hx hb dX3_writeSevens_108 (lv_at hl 0 rfl) ?_
              refine ah_callv (va_runV (As := [.int (nI pl), .int (nI (plainN (f i)))]) (rest := []) ⟨hx, hb, hml, hown, hts⟩ (c_Row_addSeven l G h1 r bb (100 + 2 * k) (101 + 2 * k) 142 (sevZ f od a b) g1 fr1 fb1 (by omega) hz142 (by decide) hg1 pl (plainN (f i)) (by omega) hp.2) (cwV 2 hts gX3_writeSevens_X6_addSeven rfl rfl rfl (by decide +kernel) ⟨Nat.le_of_ble_eq_true rfl, Nat.le_of_ble_eq_true rfl⟩) (ah_preV hE hR hS fr1 rfl) rfl rfl hl.1 rfl (lv_room (Nat.le_of_ble_eq_true rfl)) dX3_writeSevens_110 ⟨Nat.le_of_ble_eq_true rfl, Nat.le_of_ble_eq_true rfl⟩) hS (fun h_46 H locs p_47 hR hS => ?_)
              have hg_49 := rwAdd_lt (z := sevZ f od a b) (k := pl) hg1 (show plainN (f i) < 128 from hp.2)
              have f_50 : h_46 r = some (100 + 2 * k, .inr (5, [.ref bb, .int (nI (sevZ f od a b))])) := by rw [p_47]; exact ah_keep fr1 fb1 (by omega)
              have f_51 : h_46 bb = some (101 + 2 * k, .inl (G.2.2.1 0, 142, .inl (nA (rwAdd g1 (sevZ f od a b) pl (plainN (f i)))))) := by rw [p_47]; exact ah_up_s _ _ _
              have f_52 : h_46 t = some (2, .inr (6, [.ref ua, .int (nI n), .int (nI sv), .int (nI os)])) := by rw [p_47]; exact ah_keep ft1 fb1 (by omega)
              have f_53 : h_46 ua = some (3, .inl (G.2.2.1 0, 3000, .inl (nA f))) := by rw [p_47]; exact ah_keep fu1 fb1 (by omega)
              refine lv_iinc (v := nI (pl + 1)) (lv' := [(5, .int (nI (pl + 1))), (9, .int (nI (plainN (f i)))), (8, .int (nI (f i))), (7, .int (nI i)), (0, .ref r), (1, .ref t), (2, .int (nI a)), (3, .int (nI b))]) hx hb dX3_writeSevens_113 hl (k := 3) rfl (show nI pl + Int32.ofInt 1 = nI (pl + 1) from nI_add _ 1) (by decide) rfl (fun ls hl => ?_)
              refine lv_iinc (v := nI (i + 1)) (lv' := [(7, .int (nI (i + 1))), (5, .int (nI (pl + 1))), (9, .int (nI (plainN (f i)))), (8, .int (nI (f i))), (0, .ref r), (1, .ref t), (2, .int (nI a)), (3, .int (nI b))]) hx hb dX3_writeSevens_116 hl (k := 3) rfl (show nI i + Int32.ofInt 1 = nI (i + 1) from nI_add _ 1) (by decide) rfl (fun ls hl => ?_)
              refine lv_goto (tgt := 60) hx hb dX3_writeSevens_119 (by decide) ?_
              exact ih60  (i + 1) (pl + 1) (rwAdd g1 (sevZ f od a b) pl (plainN (f i))) h_46 _ _ ls (by omega) (by omega) (by omega) (by rw [show i + 1 - a = (i - a) + 1 by omega]; simp only [sumS]; rw [show a + (i - a) = i by omega, hsvi]; omega) hg_49 (by rw [← ew, show b - i = b - (i + 1) + 1 by omega]; simp only [wSev]; rw [if_neg c_45]) (by rw [p_47]; rw [eh1]; simp only [ah_up2]) f_50 f_51 f_52 f_53 hR hS (lv_sub hl [0, 1, 4, 5, 6, 7] rfl)
            · skip
              have hs2 := svFor2 c_45 hnz
              have hsvi := hs2.1
              have hp := (escSv_or (f i)).resolve_left hs2.2
              refine lv_aload_n hx hb dX3_writeSevens_87 rfl (lv_at hl 4 rfl) ?_
              refine lv_iload hx hb dX3_writeSevens_88 (lv_at hl 3 rfl) ?_
              refine lv_bipush (v := nI 27) hx hb dX3_writeSevens_90 (by decide) ?_
              refine ah_callv (va_runV (As := [.int (nI pl), .int (nI 27)]) (rest := []) ⟨hx, hb, hml, hown, hts⟩ (c_Row_addSeven l G h1 r bb (100 + 2 * k) (101 + 2 * k) 142 (sevZ f od a b) g1 fr1 fb1 (by omega) hz142 (by decide) hg1 pl 27 (by omega) (by omega)) (cwV 2 hts gX3_writeSevens_X6_addSeven rfl rfl rfl (by decide +kernel) ⟨Nat.le_of_ble_eq_true rfl, Nat.le_of_ble_eq_true rfl⟩) (ah_preV hE hR hS fr1 rfl) rfl rfl hl.1 rfl (lv_room (Nat.le_of_ble_eq_true rfl)) dX3_writeSevens_92 ⟨Nat.le_of_ble_eq_true rfl, Nat.le_of_ble_eq_true rfl⟩) hS (fun h_54 H locs p_55 hR hS => ?_)
              have hg_57 := rwAdd_lt (z := sevZ f od a b) (k := pl) hg1 (show 27 < 128 from by omega)
              have f_58 : h_54 r = some (100 + 2 * k, .inr (5, [.ref bb, .int (nI (sevZ f od a b))])) := by rw [p_55]; exact ah_keep fr1 fb1 (by omega)
              have f_59 : h_54 bb = some (101 + 2 * k, .inl (G.2.2.1 0, 142, .inl (nA (rwAdd g1 (sevZ f od a b) pl 27)))) := by rw [p_55]; exact ah_up_s _ _ _
              have f_60 : h_54 t = some (2, .inr (6, [.ref ua, .int (nI n), .int (nI sv), .int (nI os)])) := by rw [p_55]; exact ah_keep ft1 fb1 (by omega)
              have f_61 : h_54 ua = some (3, .inl (G.2.2.1 0, 3000, .inl (nA f))) := by rw [p_55]; exact ah_keep fu1 fb1 (by omega)
              refine lv_iinc (v := nI (pl + 1)) (lv' := [(5, .int (nI (pl + 1))), (9, .int (plainSv (f i))), (8, .int (nI (f i))), (7, .int (nI i)), (0, .ref r), (1, .ref t), (2, .int (nI a)), (3, .int (nI b))]) hx hb dX3_writeSevens_95 hl (k := 3) rfl (show nI pl + Int32.ofInt 1 = nI (pl + 1) from nI_add _ 1) (by decide) rfl (fun ls hl => ?_)
              refine lv_iload hx hb dX3_writeSevens_98 (lv_at hl 2 rfl) ?_
              refine ah_calli (va_runS (As := [.int (nI (f i))]) (rest := []) ⟨hx, hb, hml, hown, hts⟩ (c_escapedSeven l G h_54 (f i) (by omega)) (va_cwS 1 hts gX3_writeSevens_X0_escapedSeven rfl rfl rfl (by decide +kernel) ⟨Nat.le_of_ble_eq_true rfl, Nat.le_of_ble_eq_true rfl⟩) (ah_preS hE hR hS) rfl rfl hl.1 rfl (lv_room (Nat.le_of_ble_eq_true rfl)) dX3_writeSevens_100 ⟨Nat.le_of_ble_eq_true rfl, Nat.le_of_ble_eq_true rfl⟩) hS (fun r_64 h_62 H locs p_63 hR hS => ?_)
              obtain ⟨e_65, e_66⟩ := p_63
              rw [e_66] at hR
              refine ah_toi e_65 ?_
              refine ah_toi hp.1 ?_
              refine lv_istore (lv' := [(9, .int (nI (escN (f i)))), (5, .int (nI (pl + 1))), (8, .int (nI (f i))), (7, .int (nI i)), (0, .ref r), (1, .ref t), (2, .int (nI a)), (3, .int (nI b))]) hx hb dX3_writeSevens_103 hl (by decide) rfl (fun ls hl => ?_)
              refine lv_aload_n hx hb dX3_writeSevens_105 rfl (lv_at hl 4 rfl) ?_
              refine lv_iload hx hb dX3_writeSevens_106 (lv_at hl 1 rfl) ?_
              refine lv_iload hx hb dX3_writeSevens_108 (lv_at hl 0 rfl) ?_
              refine ah_callv (va_runV (As := [.int (nI (pl + 1)), .int (nI (escN (f i)))]) (rest := []) ⟨hx, hb, hml, hown, hts⟩ (c_Row_addSeven l G h_54 r bb (100 + 2 * k) (101 + 2 * k) 142 (sevZ f od a b) (rwAdd g1 (sevZ f od a b) pl 27) f_58 f_59 (by omega) hz142 (by decide) hg_57 (pl + 1) (escN (f i)) (by omega) hp.2) (cwV 2 hts gX3_writeSevens_X6_addSeven rfl rfl rfl (by decide +kernel) ⟨Nat.le_of_ble_eq_true rfl, Nat.le_of_ble_eq_true rfl⟩) (ah_preV hE hR hS f_58 rfl) rfl rfl hl.1 rfl (lv_room (Nat.le_of_ble_eq_true rfl)) dX3_writeSevens_110 ⟨Nat.le_of_ble_eq_true rfl, Nat.le_of_ble_eq_true rfl⟩) hS (fun h_67 H locs p_68 hR hS => ?_)
              have hg_70 := rwAdd_lt (z := sevZ f od a b) (k := pl + 1) hg_57 (show escN (f i) < 128 from hp.2)
              have f_71 : h_67 r = some (100 + 2 * k, .inr (5, [.ref bb, .int (nI (sevZ f od a b))])) := by rw [p_68]; exact ah_keep f_58 f_59 (by omega)
              have f_72 : h_67 bb = some (101 + 2 * k, .inl (G.2.2.1 0, 142, .inl (nA (rwAdd (rwAdd g1 (sevZ f od a b) pl 27) (sevZ f od a b) (pl + 1) (escN (f i)))))) := by rw [p_68]; exact ah_up_s _ _ _
              have f_73 : h_67 t = some (2, .inr (6, [.ref ua, .int (nI n), .int (nI sv), .int (nI os)])) := by rw [p_68]; exact ah_keep f_60 f_59 (by omega)
              have f_74 : h_67 ua = some (3, .inl (G.2.2.1 0, 3000, .inl (nA f))) := by rw [p_68]; exact ah_keep f_61 f_59 (by omega)
              refine lv_iinc (v := nI ((pl + 1) + 1)) (lv' := [(5, .int (nI ((pl + 1) + 1))), (9, .int (nI (escN (f i)))), (8, .int (nI (f i))), (7, .int (nI i)), (0, .ref r), (1, .ref t), (2, .int (nI a)), (3, .int (nI b))]) hx hb dX3_writeSevens_113 hl (k := 1) rfl (show nI (pl + 1) + Int32.ofInt 1 = nI ((pl + 1) + 1) from nI_add _ 1) (by decide) rfl (fun ls hl => ?_)
              refine lv_iinc (v := nI (i + 1)) (lv' := [(7, .int (nI (i + 1))), (5, .int (nI ((pl + 1) + 1))), (9, .int (nI (escN (f i)))), (8, .int (nI (f i))), (0, .ref r), (1, .ref t), (2, .int (nI a)), (3, .int (nI b))]) hx hb dX3_writeSevens_116 hl (k := 3) rfl (show nI i + Int32.ofInt 1 = nI (i + 1) from nI_add _ 1) (by decide) rfl (fun ls hl => ?_)
              refine lv_goto (tgt := 60) hx hb dX3_writeSevens_119 (by decide) ?_
              exact ih60  (i + 1) ((pl + 1) + 1) (rwAdd (rwAdd g1 (sevZ f od a b) pl 27) (sevZ f od a b) (pl + 1) (escN (f i))) h_67 _ _ ls (by omega) (by omega) (by omega) (by rw [show i + 1 - a = (i - a) + 1 by omega]; simp only [sumS]; rw [show a + (i - a) = i by omega, hsvi]; omega) hg_70 (by rw [← ew, show b - i = b - (i + 1) + 1 by omega]; simp only [wSev]; rw [if_pos c_45]) (by rw [p_68, p_55]; rw [eh1]; simp only [ah_up2]) f_71 f_72 f_73 f_74 hR hS (lv_sub hl [0, 1, 4, 5, 6, 7] rfl)
      exact L60 ((b - a) + 1) a (7 * od) (rwS (rwS (fun _ => 0) (sevZ f od a b) 0 od) (sevZ f od a b) 1 (7 * od + sumS f a (b - a))) h_27 _ _ ls (by omega) (by omega) (by omega) (by rw [Nat.sub_self]; rfl) hg0 rfl (by rw [p_28, p_21, p_13]; rw [ah_up2, ah_up3 hrb]) f_30 f_31 f_32 f_33 hR hS (lv_sub hl [0, 2, 3, 4, 5, 6] rfl)
    · skip
      have c_19 : ¬ (od = 0) := fun z9 => c_19 ((zi_eq (by omega)).mpr z9)
      refine lv_iconst (v := nI 1) hx hb dX3_writeSevens_42 (by decide) ?_
      refine lv_goto (tgt := 47) hx hb dX3_writeSevens_43 (by decide) ?_
      refine ah_toi (v := nI od) (by rw [show od = 1 by omega]) ?_
      refine ah_callv (va_runV (As := [.int (nI 0), .int (nI od)]) (rest := []) ⟨hx, hb, hml, hown, hts⟩ (c_Row_setByte l G h_12 r bb (100 + 2 * k) (101 + 2 * k) 142 (sevZ f od a b) (fun _ => 0) f_15 f_16 (by omega) hz142 (by decide) 0 od (by omega)) (cwV 2 hts gX3_writeSevens_X6_setByte rfl rfl rfl (by decide +kernel) ⟨Nat.le_of_ble_eq_true rfl, Nat.le_of_ble_eq_true rfl⟩) (ah_preV hE hR hS f_15 rfl) rfl rfl hl.1 rfl (lv_room (Nat.le_of_ble_eq_true rfl)) dX3_writeSevens_47 ⟨Nat.le_of_ble_eq_true rfl, Nat.le_of_ble_eq_true rfl⟩) hS (fun h_75 H locs p_76 hR hS => ?_)
      have f_78 : h_75 r = some (100 + 2 * k, .inr (5, [.ref bb, .int (nI (sevZ f od a b))])) := by rw [p_76]; exact ah_keep f_15 f_16 (by omega)
      have f_79 : h_75 bb = some (101 + 2 * k, .inl (G.2.2.1 0, 142, .inl (nA (rwS (fun _ => 0) (sevZ f od a b) 0 od)))) := by rw [p_76]; exact ah_up_s _ _ _
      have f_80 : h_75 t = some (2, .inr (6, [.ref ua, .int (nI n), .int (nI sv), .int (nI os)])) := by rw [p_76]; exact ah_keep f_17 f_16 (by omega)
      have f_81 : h_75 ua = some (3, .inl (G.2.2.1 0, 3000, .inl (nA f))) := by rw [p_76]; exact ah_keep f_18 f_16 (by omega)
      refine lv_aload_n hx hb dX3_writeSevens_50 rfl (lv_at hl 2 rfl) ?_
      refine lv_iconst (v := nI 1) hx hb dX3_writeSevens_51 (by decide) ?_
      refine lv_iload hx hb dX3_writeSevens_52 (lv_at hl 0 rfl) ?_
      refine ah_callv (va_runV (As := [.int (nI 1), .int (nI ((7 * od) + (sumS f a (b - a))))]) (rest := []) ⟨hx, hb, hml, hown, hts⟩ (c_Row_setByte l G h_75 r bb (100 + 2 * k) (101 + 2 * k) 142 (sevZ f od a b) (rwS (fun _ => 0) (sevZ f od a b) 0 od) f_78 f_79 (by omega) hz142 (by decide) 1 ((7 * od) + (sumS f a (b - a))) (by omega)) (cwV 2 hts gX3_writeSevens_X6_setByte rfl rfl rfl (by decide +kernel) ⟨Nat.le_of_ble_eq_true rfl, Nat.le_of_ble_eq_true rfl⟩) (ah_preV hE hR hS f_78 rfl) rfl rfl hl.1 rfl (lv_room (Nat.le_of_ble_eq_true rfl)) dX3_writeSevens_54 ⟨Nat.le_of_ble_eq_true rfl, Nat.le_of_ble_eq_true rfl⟩) hS (fun h_82 H locs p_83 hR hS => ?_)
      have f_85 : h_82 r = some (100 + 2 * k, .inr (5, [.ref bb, .int (nI (sevZ f od a b))])) := by rw [p_83]; exact ah_keep f_78 f_79 (by omega)
      have f_86 : h_82 bb = some (101 + 2 * k, .inl (G.2.2.1 0, 142, .inl (nA (rwS (rwS (fun _ => 0) (sevZ f od a b) 0 od) (sevZ f od a b) 1 ((7 * od) + (sumS f a (b - a))))))) := by rw [p_83]; exact ah_up_s _ _ _
      have f_87 : h_82 t = some (2, .inr (6, [.ref ua, .int (nI n), .int (nI sv), .int (nI os)])) := by rw [p_83]; exact ah_keep f_80 f_79 (by omega)
      have f_88 : h_82 ua = some (3, .inl (G.2.2.1 0, 3000, .inl (nA f))) := by rw [p_83]; exact ah_keep f_81 f_79 (by omega)
      refine lv_iload_n hx hb dX3_writeSevens_57 rfl (lv_at hl 4 rfl) ?_
      refine lv_istore (lv' := [(7, .int (nI a)), (6, .int (nI ((7 * od) + (sumS f a (b - a))))), (5, .int (nI (7 * od))), (0, .ref r), (1, .ref t), (2, .int (nI a)), (3, .int (nI b)), (4, .int (nI od))]) hx hb dX3_writeSevens_58 hl (by decide) rfl (fun ls hl => ?_)
      have hrb : bb ≠ r := ah_ne fb fr (by omega)
      have hg0 : ∀ j, (rwS (rwS (fun _ => 0) (sevZ f od a b) 0 od) (sevZ f od a b) 1 (7 * od + sumS f a (b - a))) j < 256 := rwS_lt (rwS_lt (fun _ => by omega) (by omega)) (by omega)
      have L60 : ∀ (N60 : Nat) (i : Nat) (pl : Nat) (g1 : Nat → Nat) (h1 : ah_H) (H : Heap) (locs : List Loc) (ls : Array Slot), b - i < N60 → (a ≤ i) → (i ≤ b) → (pl = 7 * od + sumS f a (i - a)) → (∀ j, g1 j < 256) → (wSev f (sevZ f od a b) (b - i) i g1 pl = sevG f od a b) → (h1 = ah_up (ah_up h r (100 + 2 * k, .inr (5, [.ref bb, .int (nI (sevZ f od a b))]))) bb (101 + 2 * k, .inl (G.2.2.1 0, 142, .inl (nA g1)))) → (h1 r = some (100 + 2 * k, .inr (5, [.ref bb, .int (nI (sevZ f od a b))]))) → (h1 bb = some (101 + 2 * k, .inl (G.2.2.1 0, 142, .inl (nA g1)))) → (h1 t = some (2, .inr (6, [.ref ua, .int (nI n), .int (nI sv), .int (nI os)]))) → (h1 ua = some (3, .inl (G.2.2.1 0, 3000, .inl (nA f)))) → ah_R G h1 H → va_S (ah_A G) s.heap H locs → lv_has ls 10 [(7, .int (nI i)), (5, .int (nI pl)), (0, .ref r), (1, .ref t), (2, .int (nI a)), (3, .int (nI b))] → W p l e ({ frames := 4, cells := 0, slots := 0, locals := 87 }) s m ([.ref r, .ref t, .int (nI a), .int (nI b), .int (nI od)] : List Value).toArray below meth cd9 H locs 0 0 (MQ below (ah_Qv G (fun h' => h' = ah_up (ah_up h r (100 + 2 * k, .inr (5, [.ref bb, .int (nI (sevZ f od a b))]))) bb (101 + 2 * k, .inl (G.2.2.1 0, 142, .inl (nA (sevG f od a b)))))) ([.ref r, .ref t, .int (nI a), .int (nI b), .int (nI od)] : List Value).toArray s 0 0 (ah_A G)) (F0 m 60 ls []) := by
        intro N60
        induction N60 with
        | zero => intro i pl g1 h1 H locs ls hN; exact absurd hN (Nat.not_lt_zero _)
        | succ N60 ih60 =>
          intro i pl g1 h1 H locs ls hN60 hi hi2 hpl hg1 ew eh1 fr1 fb1 ft1 fu1 hR hS hl
          refine lv_iload hx hb dX3_writeSevens_60 (lv_at hl 0 rfl) ?_
          refine lv_iload_n hx hb dX3_writeSevens_62 rfl (lv_at hl 5 rfl) ?_
          refine lv_icmp_ge (tgt := 122) hx hb dX3_writeSevens_63 (by decide) (fun c_89 => ?_) (fun c_89 => ?_)
          · skip
            have c_89 : b ≤ i := (nI_leI (by omega) (by omega)).mp c_89
            refine ah_vret hx hb hr hlocks hR hS dX3_writeSevens_122 ?_
            rw [eh1, ← ew, show b - i = 0 by omega]; rfl
          · skip
            have c_89 : ¬ (b ≤ i) := fun z9 => c_89 ((nI_leI (by omega) (by omega)).mpr z9)
            refine lv_aload_n hx hb dX3_writeSevens_66 rfl (lv_at hl 3 rfl) ?_
            refine lv_iload hx hb dX3_writeSevens_67 (lv_at hl 0 rfl) ?_
            refine ah_calli (va_runV (As := [.int (nI i)]) (rest := []) ⟨hx, hb, hml, hown, hts⟩ (c_Text_unitAt l G h1 t ua 2 3 n sv os f ft1 fu1 (by decide) hn hsv hos hf i (by omega)) (cwV 1 hts gX3_writeSevens_X7_unitAt rfl rfl rfl (by decide +kernel) ⟨Nat.le_of_ble_eq_true rfl, Nat.le_of_ble_eq_true rfl⟩) (ah_preV hE hR hS ft1 rfl) rfl rfl hl.1 rfl (lv_room (Nat.le_of_ble_eq_true rfl)) dX3_writeSevens_69 ⟨Nat.le_of_ble_eq_true rfl, Nat.le_of_ble_eq_true rfl⟩) hS (fun r_92 h_90 H locs p_91 hR hS => ?_)
            obtain ⟨e_93, e_94⟩ := p_91
            rw [e_94] at hR
            refine ah_toi e_93 ?_
            have hfu := hf i
            have hnz := hin i hi (by omega)
            have hss := sumS_le f a (i - a)
            refine lv_istore (lv' := [(8, .int (nI (f i))), (7, .int (nI i)), (5, .int (nI pl)), (0, .ref r), (1, .ref t), (2, .int (nI a)), (3, .int (nI b))]) hx hb dX3_writeSevens_72 hl (by decide) rfl (fun ls hl => ?_)
            refine lv_iload hx hb dX3_writeSevens_74 (lv_at hl 0 rfl) ?_
            refine ah_calli (va_runS (As := [.int (nI (f i))]) (rest := []) ⟨hx, hb, hml, hown, hts⟩ (c_plainSeven l G h1 (f i) (by omega)) (va_cwS 1 hts gX3_writeSevens_X0_plainSeven rfl rfl rfl (by decide +kernel) ⟨Nat.le_of_ble_eq_true rfl, Nat.le_of_ble_eq_true rfl⟩) (ah_preS hE hR hS) rfl rfl hl.1 rfl (lv_room (Nat.le_of_ble_eq_true rfl)) dX3_writeSevens_76 ⟨Nat.le_of_ble_eq_true rfl, Nat.le_of_ble_eq_true rfl⟩) hS (fun r_97 h_95 H locs p_96 hR hS => ?_)
            obtain ⟨e_98, e_99⟩ := p_96
            rw [e_99] at hR
            refine ah_toi e_98 ?_
            refine lv_istore (lv' := [(9, .int (plainSv (f i))), (8, .int (nI (f i))), (7, .int (nI i)), (5, .int (nI pl)), (0, .ref r), (1, .ref t), (2, .int (nI a)), (3, .int (nI b))]) hx hb dX3_writeSevens_79 hl (by decide) rfl (fun ls hl => ?_)
            refine lv_iload hx hb dX3_writeSevens_81 (lv_at hl 0 rfl) ?_
            refine lv_iconst (v := (-1)) hx hb dX3_writeSevens_83 (by decide) ?_
            refine lv_icmp_ne (tgt := 105) hx hb dX3_writeSevens_84 (by decide) (fun c_100 => ?_) (fun c_100 => ?_)
            · skip
              have hp := (plainSv_or (f i)).resolve_left c_100
              rw [hp.1] at hl
              have hsvi := svFor1 c_100
              refine lv_aload_n hx hb dX3_writeSevens_105 rfl (lv_at hl 4 rfl) ?_
              refine lv_iload hx hb dX3_writeSevens_106 (lv_at hl 3 rfl) ?_
              refine lv_iload hx hb dX3_writeSevens_108 (lv_at hl 0 rfl) ?_
              refine ah_callv (va_runV (As := [.int (nI pl), .int (nI (plainN (f i)))]) (rest := []) ⟨hx, hb, hml, hown, hts⟩ (c_Row_addSeven l G h1 r bb (100 + 2 * k) (101 + 2 * k) 142 (sevZ f od a b) g1 fr1 fb1 (by omega) hz142 (by decide) hg1 pl (plainN (f i)) (by omega) hp.2) (cwV 2 hts gX3_writeSevens_X6_addSeven rfl rfl rfl (by decide +kernel) ⟨Nat.le_of_ble_eq_true rfl, Nat.le_of_ble_eq_true rfl⟩) (ah_preV hE hR hS fr1 rfl) rfl rfl hl.1 rfl (lv_room (Nat.le_of_ble_eq_true rfl)) dX3_writeSevens_110 ⟨Nat.le_of_ble_eq_true rfl, Nat.le_of_ble_eq_true rfl⟩) hS (fun h_101 H locs p_102 hR hS => ?_)
              have hg_104 := rwAdd_lt (z := sevZ f od a b) (k := pl) hg1 (show plainN (f i) < 128 from hp.2)
              have f_105 : h_101 r = some (100 + 2 * k, .inr (5, [.ref bb, .int (nI (sevZ f od a b))])) := by rw [p_102]; exact ah_keep fr1 fb1 (by omega)
              have f_106 : h_101 bb = some (101 + 2 * k, .inl (G.2.2.1 0, 142, .inl (nA (rwAdd g1 (sevZ f od a b) pl (plainN (f i)))))) := by rw [p_102]; exact ah_up_s _ _ _
              have f_107 : h_101 t = some (2, .inr (6, [.ref ua, .int (nI n), .int (nI sv), .int (nI os)])) := by rw [p_102]; exact ah_keep ft1 fb1 (by omega)
              have f_108 : h_101 ua = some (3, .inl (G.2.2.1 0, 3000, .inl (nA f))) := by rw [p_102]; exact ah_keep fu1 fb1 (by omega)
              refine lv_iinc (v := nI (pl + 1)) (lv' := [(5, .int (nI (pl + 1))), (9, .int (nI (plainN (f i)))), (8, .int (nI (f i))), (7, .int (nI i)), (0, .ref r), (1, .ref t), (2, .int (nI a)), (3, .int (nI b))]) hx hb dX3_writeSevens_113 hl (k := 3) rfl (show nI pl + Int32.ofInt 1 = nI (pl + 1) from nI_add _ 1) (by decide) rfl (fun ls hl => ?_)
              refine lv_iinc (v := nI (i + 1)) (lv' := [(7, .int (nI (i + 1))), (5, .int (nI (pl + 1))), (9, .int (nI (plainN (f i)))), (8, .int (nI (f i))), (0, .ref r), (1, .ref t), (2, .int (nI a)), (3, .int (nI b))]) hx hb dX3_writeSevens_116 hl (k := 3) rfl (show nI i + Int32.ofInt 1 = nI (i + 1) from nI_add _ 1) (by decide) rfl (fun ls hl => ?_)
              refine lv_goto (tgt := 60) hx hb dX3_writeSevens_119 (by decide) ?_
              exact ih60  (i + 1) (pl + 1) (rwAdd g1 (sevZ f od a b) pl (plainN (f i))) h_101 _ _ ls (by omega) (by omega) (by omega) (by rw [show i + 1 - a = (i - a) + 1 by omega]; simp only [sumS]; rw [show a + (i - a) = i by omega, hsvi]; omega) hg_104 (by rw [← ew, show b - i = b - (i + 1) + 1 by omega]; simp only [wSev]; rw [if_neg c_100]) (by rw [p_102]; rw [eh1]; simp only [ah_up2]) f_105 f_106 f_107 f_108 hR hS (lv_sub hl [0, 1, 4, 5, 6, 7] rfl)
            · skip
              have hs2 := svFor2 c_100 hnz
              have hsvi := hs2.1
              have hp := (escSv_or (f i)).resolve_left hs2.2
              refine lv_aload_n hx hb dX3_writeSevens_87 rfl (lv_at hl 4 rfl) ?_
              refine lv_iload hx hb dX3_writeSevens_88 (lv_at hl 3 rfl) ?_
              refine lv_bipush (v := nI 27) hx hb dX3_writeSevens_90 (by decide) ?_
              refine ah_callv (va_runV (As := [.int (nI pl), .int (nI 27)]) (rest := []) ⟨hx, hb, hml, hown, hts⟩ (c_Row_addSeven l G h1 r bb (100 + 2 * k) (101 + 2 * k) 142 (sevZ f od a b) g1 fr1 fb1 (by omega) hz142 (by decide) hg1 pl 27 (by omega) (by omega)) (cwV 2 hts gX3_writeSevens_X6_addSeven rfl rfl rfl (by decide +kernel) ⟨Nat.le_of_ble_eq_true rfl, Nat.le_of_ble_eq_true rfl⟩) (ah_preV hE hR hS fr1 rfl) rfl rfl hl.1 rfl (lv_room (Nat.le_of_ble_eq_true rfl)) dX3_writeSevens_92 ⟨Nat.le_of_ble_eq_true rfl, Nat.le_of_ble_eq_true rfl⟩) hS (fun h_109 H locs p_110 hR hS => ?_)
              have hg_112 := rwAdd_lt (z := sevZ f od a b) (k := pl) hg1 (show 27 < 128 from by omega)
              have f_113 : h_109 r = some (100 + 2 * k, .inr (5, [.ref bb, .int (nI (sevZ f od a b))])) := by rw [p_110]; exact ah_keep fr1 fb1 (by omega)
              have f_114 : h_109 bb = some (101 + 2 * k, .inl (G.2.2.1 0, 142, .inl (nA (rwAdd g1 (sevZ f od a b) pl 27)))) := by rw [p_110]; exact ah_up_s _ _ _
              have f_115 : h_109 t = some (2, .inr (6, [.ref ua, .int (nI n), .int (nI sv), .int (nI os)])) := by rw [p_110]; exact ah_keep ft1 fb1 (by omega)
              have f_116 : h_109 ua = some (3, .inl (G.2.2.1 0, 3000, .inl (nA f))) := by rw [p_110]; exact ah_keep fu1 fb1 (by omega)
              refine lv_iinc (v := nI (pl + 1)) (lv' := [(5, .int (nI (pl + 1))), (9, .int (plainSv (f i))), (8, .int (nI (f i))), (7, .int (nI i)), (0, .ref r), (1, .ref t), (2, .int (nI a)), (3, .int (nI b))]) hx hb dX3_writeSevens_95 hl (k := 3) rfl (show nI pl + Int32.ofInt 1 = nI (pl + 1) from nI_add _ 1) (by decide) rfl (fun ls hl => ?_)
              refine lv_iload hx hb dX3_writeSevens_98 (lv_at hl 2 rfl) ?_
              refine ah_calli (va_runS (As := [.int (nI (f i))]) (rest := []) ⟨hx, hb, hml, hown, hts⟩ (c_escapedSeven l G h_109 (f i) (by omega)) (va_cwS 1 hts gX3_writeSevens_X0_escapedSeven rfl rfl rfl (by decide +kernel) ⟨Nat.le_of_ble_eq_true rfl, Nat.le_of_ble_eq_true rfl⟩) (ah_preS hE hR hS) rfl rfl hl.1 rfl (lv_room (Nat.le_of_ble_eq_true rfl)) dX3_writeSevens_100 ⟨Nat.le_of_ble_eq_true rfl, Nat.le_of_ble_eq_true rfl⟩) hS (fun r_119 h_117 H locs p_118 hR hS => ?_)
              obtain ⟨e_120, e_121⟩ := p_118
              rw [e_121] at hR
              refine ah_toi e_120 ?_
              refine ah_toi hp.1 ?_
              refine lv_istore (lv' := [(9, .int (nI (escN (f i)))), (5, .int (nI (pl + 1))), (8, .int (nI (f i))), (7, .int (nI i)), (0, .ref r), (1, .ref t), (2, .int (nI a)), (3, .int (nI b))]) hx hb dX3_writeSevens_103 hl (by decide) rfl (fun ls hl => ?_)
              refine lv_aload_n hx hb dX3_writeSevens_105 rfl (lv_at hl 4 rfl) ?_
              refine lv_iload hx hb dX3_writeSevens_106 (lv_at hl 1 rfl) ?_
              refine lv_iload hx hb dX3_writeSevens_108 (lv_at hl 0 rfl) ?_
              refine ah_callv (va_runV (As := [.int (nI (pl + 1)), .int (nI (escN (f i)))]) (rest := []) ⟨hx, hb, hml, hown, hts⟩ (c_Row_addSeven l G h_109 r bb (100 + 2 * k) (101 + 2 * k) 142 (sevZ f od a b) (rwAdd g1 (sevZ f od a b) pl 27) f_113 f_114 (by omega) hz142 (by decide) hg_112 (pl + 1) (escN (f i)) (by omega) hp.2) (cwV 2 hts gX3_writeSevens_X6_addSeven rfl rfl rfl (by decide +kernel) ⟨Nat.le_of_ble_eq_true rfl, Nat.le_of_ble_eq_true rfl⟩) (ah_preV hE hR hS f_113 rfl) rfl rfl hl.1 rfl (lv_room (Nat.le_of_ble_eq_true rfl)) dX3_writeSevens_110 ⟨Nat.le_of_ble_eq_true rfl, Nat.le_of_ble_eq_true rfl⟩) hS (fun h_122 H locs p_123 hR hS => ?_)
              have hg_125 := rwAdd_lt (z := sevZ f od a b) (k := pl + 1) hg_112 (show escN (f i) < 128 from hp.2)
              have f_126 : h_122 r = some (100 + 2 * k, .inr (5, [.ref bb, .int (nI (sevZ f od a b))])) := by rw [p_123]; exact ah_keep f_113 f_114 (by omega)
              have f_127 : h_122 bb = some (101 + 2 * k, .inl (G.2.2.1 0, 142, .inl (nA (rwAdd (rwAdd g1 (sevZ f od a b) pl 27) (sevZ f od a b) (pl + 1) (escN (f i)))))) := by rw [p_123]; exact ah_up_s _ _ _
              have f_128 : h_122 t = some (2, .inr (6, [.ref ua, .int (nI n), .int (nI sv), .int (nI os)])) := by rw [p_123]; exact ah_keep f_115 f_114 (by omega)
              have f_129 : h_122 ua = some (3, .inl (G.2.2.1 0, 3000, .inl (nA f))) := by rw [p_123]; exact ah_keep f_116 f_114 (by omega)
              refine lv_iinc (v := nI ((pl + 1) + 1)) (lv' := [(5, .int (nI ((pl + 1) + 1))), (9, .int (nI (escN (f i)))), (8, .int (nI (f i))), (7, .int (nI i)), (0, .ref r), (1, .ref t), (2, .int (nI a)), (3, .int (nI b))]) hx hb dX3_writeSevens_113 hl (k := 1) rfl (show nI (pl + 1) + Int32.ofInt 1 = nI ((pl + 1) + 1) from nI_add _ 1) (by decide) rfl (fun ls hl => ?_)
              refine lv_iinc (v := nI (i + 1)) (lv' := [(7, .int (nI (i + 1))), (5, .int (nI ((pl + 1) + 1))), (9, .int (nI (escN (f i)))), (8, .int (nI (f i))), (0, .ref r), (1, .ref t), (2, .int (nI a)), (3, .int (nI b))]) hx hb dX3_writeSevens_116 hl (k := 3) rfl (show nI i + Int32.ofInt 1 = nI (i + 1) from nI_add _ 1) (by decide) rfl (fun ls hl => ?_)
              refine lv_goto (tgt := 60) hx hb dX3_writeSevens_119 (by decide) ?_
              exact ih60  (i + 1) ((pl + 1) + 1) (rwAdd (rwAdd g1 (sevZ f od a b) pl 27) (sevZ f od a b) (pl + 1) (escN (f i))) h_122 _ _ ls (by omega) (by omega) (by omega) (by rw [show i + 1 - a = (i - a) + 1 by omega]; simp only [sumS]; rw [show a + (i - a) = i by omega, hsvi]; omega) hg_125 (by rw [← ew, show b - i = b - (i + 1) + 1 by omega]; simp only [wSev]; rw [if_pos c_100]) (by rw [p_123, p_110]; rw [eh1]; simp only [ah_up2]) f_126 f_127 f_128 f_129 hR hS (lv_sub hl [0, 1, 4, 5, 6, 7] rfl)
      exact L60 ((b - a) + 1) a (7 * od) (rwS (rwS (fun _ => 0) (sevZ f od a b) 0 od) (sevZ f od a b) 1 (7 * od + sumS f a (b - a))) h_82 _ _ ls (by omega) (by omega) (by omega) (by rw [Nat.sub_self]; rfl) hg0 rfl (by rw [p_83, p_76, p_13]; rw [ah_up2, ah_up3 hrb]) f_85 f_86 f_87 f_88 hR hS (lv_sub hl [0, 2, 3, 4, 5, 6] rfl)
  · skip
    have c_1 : ¬ (od = 0) := fun z9 => c_1 ((zi_eq (by omega)).mpr z9)
    refine lv_bipush (v := nI 7) hx hb dX3_writeSevens_5 (by decide) ?_
    refine lv_goto (tgt := 11) hx hb dX3_writeSevens_7 (by decide) ?_
    refine ah_toi (v := nI (7 * od)) (by rw [show 7 * od = 7 by omega]) ?_
    refine lv_istore (lv' := [(5, .int (nI (7 * od))), (0, .ref r), (1, .ref t), (2, .int (nI a)), (3, .int (nI b)), (4, .int (nI od))]) hx hb dX3_writeSevens_11 hl (by decide) rfl (fun ls hl => ?_)
    refine lv_iload hx hb dX3_writeSevens_13 (lv_at hl 0 rfl) ?_
    refine lv_aload_n hx hb dX3_writeSevens_15 rfl (lv_at hl 2 rfl) ?_
    refine lv_iload_n hx hb dX3_writeSevens_16 rfl (lv_at hl 3 rfl) ?_
    refine lv_iload_n hx hb dX3_writeSevens_17 rfl (lv_at hl 4 rfl) ?_
    refine ah_calli (va_runV (As := [.int (nI a), .int (nI b)]) (rest := [.int (nI (7 * od))]) ⟨hx, hb, hml, hown, hts⟩ (c_Text_sevensBetween l G h t ua 2 3 n sv os f ft fu (by decide) hn hsv hos hf a b hab hbn) (cwV 2 hts gX3_writeSevens_X7_sevensBetween rfl rfl rfl (by decide +kernel) ⟨Nat.le_of_ble_eq_true rfl, Nat.le_of_ble_eq_true rfl⟩) (ah_preV hE hR hS ft rfl) rfl rfl hl.1 rfl (lv_room (Nat.le_of_ble_eq_true rfl)) dX3_writeSevens_18 ⟨Nat.le_of_ble_eq_true rfl, Nat.le_of_ble_eq_true rfl⟩) hS (fun r_132 h_130 H locs p_131 hR hS => ?_)
    obtain ⟨e_133, e_134⟩ := p_131
    rw [e_134] at hR
    refine ah_toi e_133 ?_
    refine lv_iadd hx hb dX3_writeSevens_21 ?_
    refine ah_toi (v := nI ((7 * od) + (sumS f a (b - a)))) (nI_add _ _) ?_
    refine lv_istore (lv' := [(6, .int (nI ((7 * od) + (sumS f a (b - a))))), (5, .int (nI (7 * od))), (0, .ref r), (1, .ref t), (2, .int (nI a)), (3, .int (nI b)), (4, .int (nI od))]) hx hb dX3_writeSevens_22 hl (by decide) rfl (fun ls hl => ?_)
    refine lv_aload_n hx hb dX3_writeSevens_24 rfl (lv_at hl 2 rfl) ?_
    refine lv_iconst (v := nI 2) hx hb dX3_writeSevens_25 (by decide) ?_
    refine lv_iload hx hb dX3_writeSevens_26 (lv_at hl 0 rfl) ?_
    refine ah_calli (va_runSN (As := [.int (nI ((7 * od) + (sumS f a (b - a))))]) (rest := [.int (nI 2), .ref r]) ⟨hx, hb, hml, hown, hts⟩ (c_bytesForSevens l G h ((7 * od) + (sumS f a (b - a))) (by omega)) ⟨va_cnB 1 hts gX3_writeSevens_X8_bytesForSevens_n52 rfl rfl rfl hE.2.2.2.1.2.2.2.2.1 winitialized_RX8 (by decide +kernel) ⟨Nat.le_of_ble_eq_true rfl, Nat.le_of_ble_eq_true rfl⟩, wstatic_yX8_bytesForSevens, trivial⟩ (ah_preS hE hR hS) rfl rfl hl.1 rfl (lv_room (Nat.le_of_ble_eq_true rfl)) dX3_writeSevens_28 ⟨Nat.le_of_ble_eq_true rfl, Nat.le_of_ble_eq_true rfl⟩) hS (fun r_137 h_135 H locs p_136 hR hS => ?_)
    obtain ⟨e_138, e_139⟩ := p_136
    rw [e_139] at hR
    refine ah_toi e_138 ?_
    refine lv_iadd hx hb dX3_writeSevens_31 ?_
    refine ah_toi (v := nI (sevZ f od a b)) (nI_add _ _) ?_
    have hz142 : sevZ f od a b ≤ 142 := by unfold sevZ bfs; omega
    refine ah_callv (va_runV (As := [.int (nI (sevZ f od a b))]) (rest := []) ⟨hx, hb, hml, hown, hts⟩ (c_Row_restart l G h r bb (100 + 2 * k) (101 + 2 * k) 142 z g fr fb (by omega) hz (by decide) (sevZ f od a b) hz142) (cwV 1 hts gX3_writeSevens_X6_restart rfl rfl rfl (by decide +kernel) ⟨Nat.le_of_ble_eq_true rfl, Nat.le_of_ble_eq_true rfl⟩) (ah_preV hE hR hS fr rfl) rfl rfl hl.1 rfl (lv_room (Nat.le_of_ble_eq_true rfl)) dX3_writeSevens_32 ⟨Nat.le_of_ble_eq_true rfl, Nat.le_of_ble_eq_true rfl⟩) hS (fun h_140 H locs p_141 hR hS => ?_)
    have f_143 : h_140 r = some (100 + 2 * k, .inr (5, [.ref bb, .int (nI (sevZ f od a b))])) := by rw [p_141]; exact ah_up_s _ _ _
    have f_144 : h_140 bb = some (101 + 2 * k, .inl (G.2.2.1 0, 142, .inl (nA (fun _ => 0)))) := by rw [p_141]; exact ah_keep (ah_up_s _ _ _) (ah_keep fr fb (by omega)) (by omega)
    have f_145 : h_140 t = some (2, .inr (6, [.ref ua, .int (nI n), .int (nI sv), .int (nI os)])) := by rw [p_141]; exact ah_keep (ah_keep ft fb (by omega)) (ah_keep fr fb (by omega)) (by omega)
    have f_146 : h_140 ua = some (3, .inl (G.2.2.1 0, 3000, .inl (nA f))) := by rw [p_141]; exact ah_keep (ah_keep fu fb (by omega)) (ah_keep fr fb (by omega)) (by omega)
    refine lv_aload_n hx hb dX3_writeSevens_35 rfl (lv_at hl 2 rfl) ?_
    refine lv_iconst (v := nI 0) hx hb dX3_writeSevens_36 (by decide) ?_
    refine lv_iload hx hb dX3_writeSevens_37 (lv_at hl 6 rfl) ?_
    refine lv_if_eq (tgt := 46) hx hb dX3_writeSevens_39 (by decide) (fun c_147 => ?_) (fun c_147 => ?_)
    · skip
      have c_147 : od = 0 := (zi_eq (by omega)).mp c_147
      refine lv_iconst (v := nI 0) hx hb dX3_writeSevens_46 (by decide) ?_
      refine ah_toi (v := nI od) (by rw [show od = 0 by omega]) ?_
      refine ah_callv (va_runV (As := [.int (nI 0), .int (nI od)]) (rest := []) ⟨hx, hb, hml, hown, hts⟩ (c_Row_setByte l G h_140 r bb (100 + 2 * k) (101 + 2 * k) 142 (sevZ f od a b) (fun _ => 0) f_143 f_144 (by omega) hz142 (by decide) 0 od (by omega)) (cwV 2 hts gX3_writeSevens_X6_setByte rfl rfl rfl (by decide +kernel) ⟨Nat.le_of_ble_eq_true rfl, Nat.le_of_ble_eq_true rfl⟩) (ah_preV hE hR hS f_143 rfl) rfl rfl hl.1 rfl (lv_room (Nat.le_of_ble_eq_true rfl)) dX3_writeSevens_47 ⟨Nat.le_of_ble_eq_true rfl, Nat.le_of_ble_eq_true rfl⟩) hS (fun h_148 H locs p_149 hR hS => ?_)
      have f_151 : h_148 r = some (100 + 2 * k, .inr (5, [.ref bb, .int (nI (sevZ f od a b))])) := by rw [p_149]; exact ah_keep f_143 f_144 (by omega)
      have f_152 : h_148 bb = some (101 + 2 * k, .inl (G.2.2.1 0, 142, .inl (nA (rwS (fun _ => 0) (sevZ f od a b) 0 od)))) := by rw [p_149]; exact ah_up_s _ _ _
      have f_153 : h_148 t = some (2, .inr (6, [.ref ua, .int (nI n), .int (nI sv), .int (nI os)])) := by rw [p_149]; exact ah_keep f_145 f_144 (by omega)
      have f_154 : h_148 ua = some (3, .inl (G.2.2.1 0, 3000, .inl (nA f))) := by rw [p_149]; exact ah_keep f_146 f_144 (by omega)
      refine lv_aload_n hx hb dX3_writeSevens_50 rfl (lv_at hl 2 rfl) ?_
      refine lv_iconst (v := nI 1) hx hb dX3_writeSevens_51 (by decide) ?_
      refine lv_iload hx hb dX3_writeSevens_52 (lv_at hl 0 rfl) ?_
      refine ah_callv (va_runV (As := [.int (nI 1), .int (nI ((7 * od) + (sumS f a (b - a))))]) (rest := []) ⟨hx, hb, hml, hown, hts⟩ (c_Row_setByte l G h_148 r bb (100 + 2 * k) (101 + 2 * k) 142 (sevZ f od a b) (rwS (fun _ => 0) (sevZ f od a b) 0 od) f_151 f_152 (by omega) hz142 (by decide) 1 ((7 * od) + (sumS f a (b - a))) (by omega)) (cwV 2 hts gX3_writeSevens_X6_setByte rfl rfl rfl (by decide +kernel) ⟨Nat.le_of_ble_eq_true rfl, Nat.le_of_ble_eq_true rfl⟩) (ah_preV hE hR hS f_151 rfl) rfl rfl hl.1 rfl (lv_room (Nat.le_of_ble_eq_true rfl)) dX3_writeSevens_54 ⟨Nat.le_of_ble_eq_true rfl, Nat.le_of_ble_eq_true rfl⟩) hS (fun h_155 H locs p_156 hR hS => ?_)
      have f_158 : h_155 r = some (100 + 2 * k, .inr (5, [.ref bb, .int (nI (sevZ f od a b))])) := by rw [p_156]; exact ah_keep f_151 f_152 (by omega)
      have f_159 : h_155 bb = some (101 + 2 * k, .inl (G.2.2.1 0, 142, .inl (nA (rwS (rwS (fun _ => 0) (sevZ f od a b) 0 od) (sevZ f od a b) 1 ((7 * od) + (sumS f a (b - a))))))) := by rw [p_156]; exact ah_up_s _ _ _
      have f_160 : h_155 t = some (2, .inr (6, [.ref ua, .int (nI n), .int (nI sv), .int (nI os)])) := by rw [p_156]; exact ah_keep f_153 f_152 (by omega)
      have f_161 : h_155 ua = some (3, .inl (G.2.2.1 0, 3000, .inl (nA f))) := by rw [p_156]; exact ah_keep f_154 f_152 (by omega)
      refine lv_iload_n hx hb dX3_writeSevens_57 rfl (lv_at hl 4 rfl) ?_
      refine lv_istore (lv' := [(7, .int (nI a)), (6, .int (nI ((7 * od) + (sumS f a (b - a))))), (5, .int (nI (7 * od))), (0, .ref r), (1, .ref t), (2, .int (nI a)), (3, .int (nI b)), (4, .int (nI od))]) hx hb dX3_writeSevens_58 hl (by decide) rfl (fun ls hl => ?_)
      have hrb : bb ≠ r := ah_ne fb fr (by omega)
      have hg0 : ∀ j, (rwS (rwS (fun _ => 0) (sevZ f od a b) 0 od) (sevZ f od a b) 1 (7 * od + sumS f a (b - a))) j < 256 := rwS_lt (rwS_lt (fun _ => by omega) (by omega)) (by omega)
      have L60 : ∀ (N60 : Nat) (i : Nat) (pl : Nat) (g1 : Nat → Nat) (h1 : ah_H) (H : Heap) (locs : List Loc) (ls : Array Slot), b - i < N60 → (a ≤ i) → (i ≤ b) → (pl = 7 * od + sumS f a (i - a)) → (∀ j, g1 j < 256) → (wSev f (sevZ f od a b) (b - i) i g1 pl = sevG f od a b) → (h1 = ah_up (ah_up h r (100 + 2 * k, .inr (5, [.ref bb, .int (nI (sevZ f od a b))]))) bb (101 + 2 * k, .inl (G.2.2.1 0, 142, .inl (nA g1)))) → (h1 r = some (100 + 2 * k, .inr (5, [.ref bb, .int (nI (sevZ f od a b))]))) → (h1 bb = some (101 + 2 * k, .inl (G.2.2.1 0, 142, .inl (nA g1)))) → (h1 t = some (2, .inr (6, [.ref ua, .int (nI n), .int (nI sv), .int (nI os)]))) → (h1 ua = some (3, .inl (G.2.2.1 0, 3000, .inl (nA f)))) → ah_R G h1 H → va_S (ah_A G) s.heap H locs → lv_has ls 10 [(7, .int (nI i)), (5, .int (nI pl)), (0, .ref r), (1, .ref t), (2, .int (nI a)), (3, .int (nI b))] → W p l e ({ frames := 4, cells := 0, slots := 0, locals := 87 }) s m ([.ref r, .ref t, .int (nI a), .int (nI b), .int (nI od)] : List Value).toArray below meth cd9 H locs 0 0 (MQ below (ah_Qv G (fun h' => h' = ah_up (ah_up h r (100 + 2 * k, .inr (5, [.ref bb, .int (nI (sevZ f od a b))]))) bb (101 + 2 * k, .inl (G.2.2.1 0, 142, .inl (nA (sevG f od a b)))))) ([.ref r, .ref t, .int (nI a), .int (nI b), .int (nI od)] : List Value).toArray s 0 0 (ah_A G)) (F0 m 60 ls []) := by
        intro N60
        induction N60 with
        | zero => intro i pl g1 h1 H locs ls hN; exact absurd hN (Nat.not_lt_zero _)
        | succ N60 ih60 =>
          intro i pl g1 h1 H locs ls hN60 hi hi2 hpl hg1 ew eh1 fr1 fb1 ft1 fu1 hR hS hl
          refine lv_iload hx hb dX3_writeSevens_60 (lv_at hl 0 rfl) ?_
          refine lv_iload_n hx hb dX3_writeSevens_62 rfl (lv_at hl 5 rfl) ?_
          refine lv_icmp_ge (tgt := 122) hx hb dX3_writeSevens_63 (by decide) (fun c_162 => ?_) (fun c_162 => ?_)
          · skip
            have c_162 : b ≤ i := (nI_leI (by omega) (by omega)).mp c_162
            refine ah_vret hx hb hr hlocks hR hS dX3_writeSevens_122 ?_
            rw [eh1, ← ew, show b - i = 0 by omega]; rfl
          · skip
            have c_162 : ¬ (b ≤ i) := fun z9 => c_162 ((nI_leI (by omega) (by omega)).mpr z9)
            refine lv_aload_n hx hb dX3_writeSevens_66 rfl (lv_at hl 3 rfl) ?_
            refine lv_iload hx hb dX3_writeSevens_67 (lv_at hl 0 rfl) ?_
            refine ah_calli (va_runV (As := [.int (nI i)]) (rest := []) ⟨hx, hb, hml, hown, hts⟩ (c_Text_unitAt l G h1 t ua 2 3 n sv os f ft1 fu1 (by decide) hn hsv hos hf i (by omega)) (cwV 1 hts gX3_writeSevens_X7_unitAt rfl rfl rfl (by decide +kernel) ⟨Nat.le_of_ble_eq_true rfl, Nat.le_of_ble_eq_true rfl⟩) (ah_preV hE hR hS ft1 rfl) rfl rfl hl.1 rfl (lv_room (Nat.le_of_ble_eq_true rfl)) dX3_writeSevens_69 ⟨Nat.le_of_ble_eq_true rfl, Nat.le_of_ble_eq_true rfl⟩) hS (fun r_165 h_163 H locs p_164 hR hS => ?_)
            obtain ⟨e_166, e_167⟩ := p_164
            rw [e_167] at hR
            refine ah_toi e_166 ?_
            have hfu := hf i
            have hnz := hin i hi (by omega)
            have hss := sumS_le f a (i - a)
            refine lv_istore (lv' := [(8, .int (nI (f i))), (7, .int (nI i)), (5, .int (nI pl)), (0, .ref r), (1, .ref t), (2, .int (nI a)), (3, .int (nI b))]) hx hb dX3_writeSevens_72 hl (by decide) rfl (fun ls hl => ?_)
            refine lv_iload hx hb dX3_writeSevens_74 (lv_at hl 0 rfl) ?_
            refine ah_calli (va_runS (As := [.int (nI (f i))]) (rest := []) ⟨hx, hb, hml, hown, hts⟩ (c_plainSeven l G h1 (f i) (by omega)) (va_cwS 1 hts gX3_writeSevens_X0_plainSeven rfl rfl rfl (by decide +kernel) ⟨Nat.le_of_ble_eq_true rfl, Nat.le_of_ble_eq_true rfl⟩) (ah_preS hE hR hS) rfl rfl hl.1 rfl (lv_room (Nat.le_of_ble_eq_true rfl)) dX3_writeSevens_76 ⟨Nat.le_of_ble_eq_true rfl, Nat.le_of_ble_eq_true rfl⟩) hS (fun r_170 h_168 H locs p_169 hR hS => ?_)
            obtain ⟨e_171, e_172⟩ := p_169
            rw [e_172] at hR
            refine ah_toi e_171 ?_
            refine lv_istore (lv' := [(9, .int (plainSv (f i))), (8, .int (nI (f i))), (7, .int (nI i)), (5, .int (nI pl)), (0, .ref r), (1, .ref t), (2, .int (nI a)), (3, .int (nI b))]) hx hb dX3_writeSevens_79 hl (by decide) rfl (fun ls hl => ?_)
            refine lv_iload hx hb dX3_writeSevens_81 (lv_at hl 0 rfl) ?_
            refine lv_iconst (v := (-1)) hx hb dX3_writeSevens_83 (by decide) ?_
            refine lv_icmp_ne (tgt := 105) hx hb dX3_writeSevens_84 (by decide) (fun c_173 => ?_) (fun c_173 => ?_)
            · skip
              have hp := (plainSv_or (f i)).resolve_left c_173
              rw [hp.1] at hl
              have hsvi := svFor1 c_173
              refine lv_aload_n hx hb dX3_writeSevens_105 rfl (lv_at hl 4 rfl) ?_
              refine lv_iload hx hb dX3_writeSevens_106 (lv_at hl 3 rfl) ?_
              refine lv_iload hx hb dX3_writeSevens_108 (lv_at hl 0 rfl) ?_
              refine ah_callv (va_runV (As := [.int (nI pl), .int (nI (plainN (f i)))]) (rest := []) ⟨hx, hb, hml, hown, hts⟩ (c_Row_addSeven l G h1 r bb (100 + 2 * k) (101 + 2 * k) 142 (sevZ f od a b) g1 fr1 fb1 (by omega) hz142 (by decide) hg1 pl (plainN (f i)) (by omega) hp.2) (cwV 2 hts gX3_writeSevens_X6_addSeven rfl rfl rfl (by decide +kernel) ⟨Nat.le_of_ble_eq_true rfl, Nat.le_of_ble_eq_true rfl⟩) (ah_preV hE hR hS fr1 rfl) rfl rfl hl.1 rfl (lv_room (Nat.le_of_ble_eq_true rfl)) dX3_writeSevens_110 ⟨Nat.le_of_ble_eq_true rfl, Nat.le_of_ble_eq_true rfl⟩) hS (fun h_174 H locs p_175 hR hS => ?_)
              have hg_177 := rwAdd_lt (z := sevZ f od a b) (k := pl) hg1 (show plainN (f i) < 128 from hp.2)
              have f_178 : h_174 r = some (100 + 2 * k, .inr (5, [.ref bb, .int (nI (sevZ f od a b))])) := by rw [p_175]; exact ah_keep fr1 fb1 (by omega)
              have f_179 : h_174 bb = some (101 + 2 * k, .inl (G.2.2.1 0, 142, .inl (nA (rwAdd g1 (sevZ f od a b) pl (plainN (f i)))))) := by rw [p_175]; exact ah_up_s _ _ _
              have f_180 : h_174 t = some (2, .inr (6, [.ref ua, .int (nI n), .int (nI sv), .int (nI os)])) := by rw [p_175]; exact ah_keep ft1 fb1 (by omega)
              have f_181 : h_174 ua = some (3, .inl (G.2.2.1 0, 3000, .inl (nA f))) := by rw [p_175]; exact ah_keep fu1 fb1 (by omega)
              refine lv_iinc (v := nI (pl + 1)) (lv' := [(5, .int (nI (pl + 1))), (9, .int (nI (plainN (f i)))), (8, .int (nI (f i))), (7, .int (nI i)), (0, .ref r), (1, .ref t), (2, .int (nI a)), (3, .int (nI b))]) hx hb dX3_writeSevens_113 hl (k := 3) rfl (show nI pl + Int32.ofInt 1 = nI (pl + 1) from nI_add _ 1) (by decide) rfl (fun ls hl => ?_)
              refine lv_iinc (v := nI (i + 1)) (lv' := [(7, .int (nI (i + 1))), (5, .int (nI (pl + 1))), (9, .int (nI (plainN (f i)))), (8, .int (nI (f i))), (0, .ref r), (1, .ref t), (2, .int (nI a)), (3, .int (nI b))]) hx hb dX3_writeSevens_116 hl (k := 3) rfl (show nI i + Int32.ofInt 1 = nI (i + 1) from nI_add _ 1) (by decide) rfl (fun ls hl => ?_)
              refine lv_goto (tgt := 60) hx hb dX3_writeSevens_119 (by decide) ?_
              exact ih60  (i + 1) (pl + 1) (rwAdd g1 (sevZ f od a b) pl (plainN (f i))) h_174 _ _ ls (by omega) (by omega) (by omega) (by rw [show i + 1 - a = (i - a) + 1 by omega]; simp only [sumS]; rw [show a + (i - a) = i by omega, hsvi]; omega) hg_177 (by rw [← ew, show b - i = b - (i + 1) + 1 by omega]; simp only [wSev]; rw [if_neg c_173]) (by rw [p_175]; rw [eh1]; simp only [ah_up2]) f_178 f_179 f_180 f_181 hR hS (lv_sub hl [0, 1, 4, 5, 6, 7] rfl)
            · skip
              have hs2 := svFor2 c_173 hnz
              have hsvi := hs2.1
              have hp := (escSv_or (f i)).resolve_left hs2.2
              refine lv_aload_n hx hb dX3_writeSevens_87 rfl (lv_at hl 4 rfl) ?_
              refine lv_iload hx hb dX3_writeSevens_88 (lv_at hl 3 rfl) ?_
              refine lv_bipush (v := nI 27) hx hb dX3_writeSevens_90 (by decide) ?_
              refine ah_callv (va_runV (As := [.int (nI pl), .int (nI 27)]) (rest := []) ⟨hx, hb, hml, hown, hts⟩ (c_Row_addSeven l G h1 r bb (100 + 2 * k) (101 + 2 * k) 142 (sevZ f od a b) g1 fr1 fb1 (by omega) hz142 (by decide) hg1 pl 27 (by omega) (by omega)) (cwV 2 hts gX3_writeSevens_X6_addSeven rfl rfl rfl (by decide +kernel) ⟨Nat.le_of_ble_eq_true rfl, Nat.le_of_ble_eq_true rfl⟩) (ah_preV hE hR hS fr1 rfl) rfl rfl hl.1 rfl (lv_room (Nat.le_of_ble_eq_true rfl)) dX3_writeSevens_92 ⟨Nat.le_of_ble_eq_true rfl, Nat.le_of_ble_eq_true rfl⟩) hS (fun h_182 H locs p_183 hR hS => ?_)
              have hg_185 := rwAdd_lt (z := sevZ f od a b) (k := pl) hg1 (show 27 < 128 from by omega)
              have f_186 : h_182 r = some (100 + 2 * k, .inr (5, [.ref bb, .int (nI (sevZ f od a b))])) := by rw [p_183]; exact ah_keep fr1 fb1 (by omega)
              have f_187 : h_182 bb = some (101 + 2 * k, .inl (G.2.2.1 0, 142, .inl (nA (rwAdd g1 (sevZ f od a b) pl 27)))) := by rw [p_183]; exact ah_up_s _ _ _
              have f_188 : h_182 t = some (2, .inr (6, [.ref ua, .int (nI n), .int (nI sv), .int (nI os)])) := by rw [p_183]; exact ah_keep ft1 fb1 (by omega)
              have f_189 : h_182 ua = some (3, .inl (G.2.2.1 0, 3000, .inl (nA f))) := by rw [p_183]; exact ah_keep fu1 fb1 (by omega)
              refine lv_iinc (v := nI (pl + 1)) (lv' := [(5, .int (nI (pl + 1))), (9, .int (plainSv (f i))), (8, .int (nI (f i))), (7, .int (nI i)), (0, .ref r), (1, .ref t), (2, .int (nI a)), (3, .int (nI b))]) hx hb dX3_writeSevens_95 hl (k := 3) rfl (show nI pl + Int32.ofInt 1 = nI (pl + 1) from nI_add _ 1) (by decide) rfl (fun ls hl => ?_)
              refine lv_iload hx hb dX3_writeSevens_98 (lv_at hl 2 rfl) ?_
              refine ah_calli (va_runS (As := [.int (nI (f i))]) (rest := []) ⟨hx, hb, hml, hown, hts⟩ (c_escapedSeven l G h_182 (f i) (by omega)) (va_cwS 1 hts gX3_writeSevens_X0_escapedSeven rfl rfl rfl (by decide +kernel) ⟨Nat.le_of_ble_eq_true rfl, Nat.le_of_ble_eq_true rfl⟩) (ah_preS hE hR hS) rfl rfl hl.1 rfl (lv_room (Nat.le_of_ble_eq_true rfl)) dX3_writeSevens_100 ⟨Nat.le_of_ble_eq_true rfl, Nat.le_of_ble_eq_true rfl⟩) hS (fun r_192 h_190 H locs p_191 hR hS => ?_)
              obtain ⟨e_193, e_194⟩ := p_191
              rw [e_194] at hR
              refine ah_toi e_193 ?_
              refine ah_toi hp.1 ?_
              refine lv_istore (lv' := [(9, .int (nI (escN (f i)))), (5, .int (nI (pl + 1))), (8, .int (nI (f i))), (7, .int (nI i)), (0, .ref r), (1, .ref t), (2, .int (nI a)), (3, .int (nI b))]) hx hb dX3_writeSevens_103 hl (by decide) rfl (fun ls hl => ?_)
              refine lv_aload_n hx hb dX3_writeSevens_105 rfl (lv_at hl 4 rfl) ?_
              refine lv_iload hx hb dX3_writeSevens_106 (lv_at hl 1 rfl) ?_
              refine lv_iload hx hb dX3_writeSevens_108 (lv_at hl 0 rfl) ?_
              refine ah_callv (va_runV (As := [.int (nI (pl + 1)), .int (nI (escN (f i)))]) (rest := []) ⟨hx, hb, hml, hown, hts⟩ (c_Row_addSeven l G h_182 r bb (100 + 2 * k) (101 + 2 * k) 142 (sevZ f od a b) (rwAdd g1 (sevZ f od a b) pl 27) f_186 f_187 (by omega) hz142 (by decide) hg_185 (pl + 1) (escN (f i)) (by omega) hp.2) (cwV 2 hts gX3_writeSevens_X6_addSeven rfl rfl rfl (by decide +kernel) ⟨Nat.le_of_ble_eq_true rfl, Nat.le_of_ble_eq_true rfl⟩) (ah_preV hE hR hS f_186 rfl) rfl rfl hl.1 rfl (lv_room (Nat.le_of_ble_eq_true rfl)) dX3_writeSevens_110 ⟨Nat.le_of_ble_eq_true rfl, Nat.le_of_ble_eq_true rfl⟩) hS (fun h_195 H locs p_196 hR hS => ?_)
              have hg_198 := rwAdd_lt (z := sevZ f od a b) (k := pl + 1) hg_185 (show escN (f i) < 128 from hp.2)
              have f_199 : h_195 r = some (100 + 2 * k, .inr (5, [.ref bb, .int (nI (sevZ f od a b))])) := by rw [p_196]; exact ah_keep f_186 f_187 (by omega)
              have f_200 : h_195 bb = some (101 + 2 * k, .inl (G.2.2.1 0, 142, .inl (nA (rwAdd (rwAdd g1 (sevZ f od a b) pl 27) (sevZ f od a b) (pl + 1) (escN (f i)))))) := by rw [p_196]; exact ah_up_s _ _ _
              have f_201 : h_195 t = some (2, .inr (6, [.ref ua, .int (nI n), .int (nI sv), .int (nI os)])) := by rw [p_196]; exact ah_keep f_188 f_187 (by omega)
              have f_202 : h_195 ua = some (3, .inl (G.2.2.1 0, 3000, .inl (nA f))) := by rw [p_196]; exact ah_keep f_189 f_187 (by omega)
              refine lv_iinc (v := nI ((pl + 1) + 1)) (lv' := [(5, .int (nI ((pl + 1) + 1))), (9, .int (nI (escN (f i)))), (8, .int (nI (f i))), (7, .int (nI i)), (0, .ref r), (1, .ref t), (2, .int (nI a)), (3, .int (nI b))]) hx hb dX3_writeSevens_113 hl (k := 1) rfl (show nI (pl + 1) + Int32.ofInt 1 = nI ((pl + 1) + 1) from nI_add _ 1) (by decide) rfl (fun ls hl => ?_)
              refine lv_iinc (v := nI (i + 1)) (lv' := [(7, .int (nI (i + 1))), (5, .int (nI ((pl + 1) + 1))), (9, .int (nI (escN (f i)))), (8, .int (nI (f i))), (0, .ref r), (1, .ref t), (2, .int (nI a)), (3, .int (nI b))]) hx hb dX3_writeSevens_116 hl (k := 3) rfl (show nI i + Int32.ofInt 1 = nI (i + 1) from nI_add _ 1) (by decide) rfl (fun ls hl => ?_)
              refine lv_goto (tgt := 60) hx hb dX3_writeSevens_119 (by decide) ?_
              exact ih60  (i + 1) ((pl + 1) + 1) (rwAdd (rwAdd g1 (sevZ f od a b) pl 27) (sevZ f od a b) (pl + 1) (escN (f i))) h_195 _ _ ls (by omega) (by omega) (by omega) (by rw [show i + 1 - a = (i - a) + 1 by omega]; simp only [sumS]; rw [show a + (i - a) = i by omega, hsvi]; omega) hg_198 (by rw [← ew, show b - i = b - (i + 1) + 1 by omega]; simp only [wSev]; rw [if_pos c_173]) (by rw [p_196, p_183]; rw [eh1]; simp only [ah_up2]) f_199 f_200 f_201 f_202 hR hS (lv_sub hl [0, 1, 4, 5, 6, 7] rfl)
      exact L60 ((b - a) + 1) a (7 * od) (rwS (rwS (fun _ => 0) (sevZ f od a b) 0 od) (sevZ f od a b) 1 (7 * od + sumS f a (b - a))) h_155 _ _ ls (by omega) (by omega) (by omega) (by rw [Nat.sub_self]; rfl) hg0 rfl (by rw [p_156, p_149, p_141]; rw [ah_up2, ah_up3 hrb]) f_158 f_159 f_160 f_161 hR hS (lv_sub hl [0, 2, 3, 4, 5, 6] rfl)
    · skip
      have c_147 : ¬ (od = 0) := fun z9 => c_147 ((zi_eq (by omega)).mpr z9)
      refine lv_iconst (v := nI 1) hx hb dX3_writeSevens_42 (by decide) ?_
      refine lv_goto (tgt := 47) hx hb dX3_writeSevens_43 (by decide) ?_
      refine ah_toi (v := nI od) (by rw [show od = 1 by omega]) ?_
      refine ah_callv (va_runV (As := [.int (nI 0), .int (nI od)]) (rest := []) ⟨hx, hb, hml, hown, hts⟩ (c_Row_setByte l G h_140 r bb (100 + 2 * k) (101 + 2 * k) 142 (sevZ f od a b) (fun _ => 0) f_143 f_144 (by omega) hz142 (by decide) 0 od (by omega)) (cwV 2 hts gX3_writeSevens_X6_setByte rfl rfl rfl (by decide +kernel) ⟨Nat.le_of_ble_eq_true rfl, Nat.le_of_ble_eq_true rfl⟩) (ah_preV hE hR hS f_143 rfl) rfl rfl hl.1 rfl (lv_room (Nat.le_of_ble_eq_true rfl)) dX3_writeSevens_47 ⟨Nat.le_of_ble_eq_true rfl, Nat.le_of_ble_eq_true rfl⟩) hS (fun h_203 H locs p_204 hR hS => ?_)
      have f_206 : h_203 r = some (100 + 2 * k, .inr (5, [.ref bb, .int (nI (sevZ f od a b))])) := by rw [p_204]; exact ah_keep f_143 f_144 (by omega)
      have f_207 : h_203 bb = some (101 + 2 * k, .inl (G.2.2.1 0, 142, .inl (nA (rwS (fun _ => 0) (sevZ f od a b) 0 od)))) := by rw [p_204]; exact ah_up_s _ _ _
      have f_208 : h_203 t = some (2, .inr (6, [.ref ua, .int (nI n), .int (nI sv), .int (nI os)])) := by rw [p_204]; exact ah_keep f_145 f_144 (by omega)
      have f_209 : h_203 ua = some (3, .inl (G.2.2.1 0, 3000, .inl (nA f))) := by rw [p_204]; exact ah_keep f_146 f_144 (by omega)
      refine lv_aload_n hx hb dX3_writeSevens_50 rfl (lv_at hl 2 rfl) ?_
      refine lv_iconst (v := nI 1) hx hb dX3_writeSevens_51 (by decide) ?_
      refine lv_iload hx hb dX3_writeSevens_52 (lv_at hl 0 rfl) ?_
      refine ah_callv (va_runV (As := [.int (nI 1), .int (nI ((7 * od) + (sumS f a (b - a))))]) (rest := []) ⟨hx, hb, hml, hown, hts⟩ (c_Row_setByte l G h_203 r bb (100 + 2 * k) (101 + 2 * k) 142 (sevZ f od a b) (rwS (fun _ => 0) (sevZ f od a b) 0 od) f_206 f_207 (by omega) hz142 (by decide) 1 ((7 * od) + (sumS f a (b - a))) (by omega)) (cwV 2 hts gX3_writeSevens_X6_setByte rfl rfl rfl (by decide +kernel) ⟨Nat.le_of_ble_eq_true rfl, Nat.le_of_ble_eq_true rfl⟩) (ah_preV hE hR hS f_206 rfl) rfl rfl hl.1 rfl (lv_room (Nat.le_of_ble_eq_true rfl)) dX3_writeSevens_54 ⟨Nat.le_of_ble_eq_true rfl, Nat.le_of_ble_eq_true rfl⟩) hS (fun h_210 H locs p_211 hR hS => ?_)
      have f_213 : h_210 r = some (100 + 2 * k, .inr (5, [.ref bb, .int (nI (sevZ f od a b))])) := by rw [p_211]; exact ah_keep f_206 f_207 (by omega)
      have f_214 : h_210 bb = some (101 + 2 * k, .inl (G.2.2.1 0, 142, .inl (nA (rwS (rwS (fun _ => 0) (sevZ f od a b) 0 od) (sevZ f od a b) 1 ((7 * od) + (sumS f a (b - a))))))) := by rw [p_211]; exact ah_up_s _ _ _
      have f_215 : h_210 t = some (2, .inr (6, [.ref ua, .int (nI n), .int (nI sv), .int (nI os)])) := by rw [p_211]; exact ah_keep f_208 f_207 (by omega)
      have f_216 : h_210 ua = some (3, .inl (G.2.2.1 0, 3000, .inl (nA f))) := by rw [p_211]; exact ah_keep f_209 f_207 (by omega)
      refine lv_iload_n hx hb dX3_writeSevens_57 rfl (lv_at hl 4 rfl) ?_
      refine lv_istore (lv' := [(7, .int (nI a)), (6, .int (nI ((7 * od) + (sumS f a (b - a))))), (5, .int (nI (7 * od))), (0, .ref r), (1, .ref t), (2, .int (nI a)), (3, .int (nI b)), (4, .int (nI od))]) hx hb dX3_writeSevens_58 hl (by decide) rfl (fun ls hl => ?_)
      have hrb : bb ≠ r := ah_ne fb fr (by omega)
      have hg0 : ∀ j, (rwS (rwS (fun _ => 0) (sevZ f od a b) 0 od) (sevZ f od a b) 1 (7 * od + sumS f a (b - a))) j < 256 := rwS_lt (rwS_lt (fun _ => by omega) (by omega)) (by omega)
      have L60 : ∀ (N60 : Nat) (i : Nat) (pl : Nat) (g1 : Nat → Nat) (h1 : ah_H) (H : Heap) (locs : List Loc) (ls : Array Slot), b - i < N60 → (a ≤ i) → (i ≤ b) → (pl = 7 * od + sumS f a (i - a)) → (∀ j, g1 j < 256) → (wSev f (sevZ f od a b) (b - i) i g1 pl = sevG f od a b) → (h1 = ah_up (ah_up h r (100 + 2 * k, .inr (5, [.ref bb, .int (nI (sevZ f od a b))]))) bb (101 + 2 * k, .inl (G.2.2.1 0, 142, .inl (nA g1)))) → (h1 r = some (100 + 2 * k, .inr (5, [.ref bb, .int (nI (sevZ f od a b))]))) → (h1 bb = some (101 + 2 * k, .inl (G.2.2.1 0, 142, .inl (nA g1)))) → (h1 t = some (2, .inr (6, [.ref ua, .int (nI n), .int (nI sv), .int (nI os)]))) → (h1 ua = some (3, .inl (G.2.2.1 0, 3000, .inl (nA f)))) → ah_R G h1 H → va_S (ah_A G) s.heap H locs → lv_has ls 10 [(7, .int (nI i)), (5, .int (nI pl)), (0, .ref r), (1, .ref t), (2, .int (nI a)), (3, .int (nI b))] → W p l e ({ frames := 4, cells := 0, slots := 0, locals := 87 }) s m ([.ref r, .ref t, .int (nI a), .int (nI b), .int (nI od)] : List Value).toArray below meth cd9 H locs 0 0 (MQ below (ah_Qv G (fun h' => h' = ah_up (ah_up h r (100 + 2 * k, .inr (5, [.ref bb, .int (nI (sevZ f od a b))]))) bb (101 + 2 * k, .inl (G.2.2.1 0, 142, .inl (nA (sevG f od a b)))))) ([.ref r, .ref t, .int (nI a), .int (nI b), .int (nI od)] : List Value).toArray s 0 0 (ah_A G)) (F0 m 60 ls []) := by
        intro N60
        induction N60 with
        | zero => intro i pl g1 h1 H locs ls hN; exact absurd hN (Nat.not_lt_zero _)
        | succ N60 ih60 =>
          intro i pl g1 h1 H locs ls hN60 hi hi2 hpl hg1 ew eh1 fr1 fb1 ft1 fu1 hR hS hl
          refine lv_iload hx hb dX3_writeSevens_60 (lv_at hl 0 rfl) ?_
          refine lv_iload_n hx hb dX3_writeSevens_62 rfl (lv_at hl 5 rfl) ?_
          refine lv_icmp_ge (tgt := 122) hx hb dX3_writeSevens_63 (by decide) (fun c_217 => ?_) (fun c_217 => ?_)
          · skip
            have c_217 : b ≤ i := (nI_leI (by omega) (by omega)).mp c_217
            refine ah_vret hx hb hr hlocks hR hS dX3_writeSevens_122 ?_
            rw [eh1, ← ew, show b - i = 0 by omega]; rfl
          · skip
            have c_217 : ¬ (b ≤ i) := fun z9 => c_217 ((nI_leI (by omega) (by omega)).mpr z9)
            refine lv_aload_n hx hb dX3_writeSevens_66 rfl (lv_at hl 3 rfl) ?_
            refine lv_iload hx hb dX3_writeSevens_67 (lv_at hl 0 rfl) ?_
            refine ah_calli (va_runV (As := [.int (nI i)]) (rest := []) ⟨hx, hb, hml, hown, hts⟩ (c_Text_unitAt l G h1 t ua 2 3 n sv os f ft1 fu1 (by decide) hn hsv hos hf i (by omega)) (cwV 1 hts gX3_writeSevens_X7_unitAt rfl rfl rfl (by decide +kernel) ⟨Nat.le_of_ble_eq_true rfl, Nat.le_of_ble_eq_true rfl⟩) (ah_preV hE hR hS ft1 rfl) rfl rfl hl.1 rfl (lv_room (Nat.le_of_ble_eq_true rfl)) dX3_writeSevens_69 ⟨Nat.le_of_ble_eq_true rfl, Nat.le_of_ble_eq_true rfl⟩) hS (fun r_220 h_218 H locs p_219 hR hS => ?_)
            obtain ⟨e_221, e_222⟩ := p_219
            rw [e_222] at hR
            refine ah_toi e_221 ?_
            have hfu := hf i
            have hnz := hin i hi (by omega)
            have hss := sumS_le f a (i - a)
            refine lv_istore (lv' := [(8, .int (nI (f i))), (7, .int (nI i)), (5, .int (nI pl)), (0, .ref r), (1, .ref t), (2, .int (nI a)), (3, .int (nI b))]) hx hb dX3_writeSevens_72 hl (by decide) rfl (fun ls hl => ?_)
            refine lv_iload hx hb dX3_writeSevens_74 (lv_at hl 0 rfl) ?_
            refine ah_calli (va_runS (As := [.int (nI (f i))]) (rest := []) ⟨hx, hb, hml, hown, hts⟩ (c_plainSeven l G h1 (f i) (by omega)) (va_cwS 1 hts gX3_writeSevens_X0_plainSeven rfl rfl rfl (by decide +kernel) ⟨Nat.le_of_ble_eq_true rfl, Nat.le_of_ble_eq_true rfl⟩) (ah_preS hE hR hS) rfl rfl hl.1 rfl (lv_room (Nat.le_of_ble_eq_true rfl)) dX3_writeSevens_76 ⟨Nat.le_of_ble_eq_true rfl, Nat.le_of_ble_eq_true rfl⟩) hS (fun r_225 h_223 H locs p_224 hR hS => ?_)
            obtain ⟨e_226, e_227⟩ := p_224
            rw [e_227] at hR
            refine ah_toi e_226 ?_
            refine lv_istore (lv' := [(9, .int (plainSv (f i))), (8, .int (nI (f i))), (7, .int (nI i)), (5, .int (nI pl)), (0, .ref r), (1, .ref t), (2, .int (nI a)), (3, .int (nI b))]) hx hb dX3_writeSevens_79 hl (by decide) rfl (fun ls hl => ?_)
            refine lv_iload hx hb dX3_writeSevens_81 (lv_at hl 0 rfl) ?_
            refine lv_iconst (v := (-1)) hx hb dX3_writeSevens_83 (by decide) ?_
            refine lv_icmp_ne (tgt := 105) hx hb dX3_writeSevens_84 (by decide) (fun c_228 => ?_) (fun c_228 => ?_)
            · skip
              have hp := (plainSv_or (f i)).resolve_left c_228
              rw [hp.1] at hl
              have hsvi := svFor1 c_228
              refine lv_aload_n hx hb dX3_writeSevens_105 rfl (lv_at hl 4 rfl) ?_
              refine lv_iload hx hb dX3_writeSevens_106 (lv_at hl 3 rfl) ?_
              refine lv_iload hx hb dX3_writeSevens_108 (lv_at hl 0 rfl) ?_
              refine ah_callv (va_runV (As := [.int (nI pl), .int (nI (plainN (f i)))]) (rest := []) ⟨hx, hb, hml, hown, hts⟩ (c_Row_addSeven l G h1 r bb (100 + 2 * k) (101 + 2 * k) 142 (sevZ f od a b) g1 fr1 fb1 (by omega) hz142 (by decide) hg1 pl (plainN (f i)) (by omega) hp.2) (cwV 2 hts gX3_writeSevens_X6_addSeven rfl rfl rfl (by decide +kernel) ⟨Nat.le_of_ble_eq_true rfl, Nat.le_of_ble_eq_true rfl⟩) (ah_preV hE hR hS fr1 rfl) rfl rfl hl.1 rfl (lv_room (Nat.le_of_ble_eq_true rfl)) dX3_writeSevens_110 ⟨Nat.le_of_ble_eq_true rfl, Nat.le_of_ble_eq_true rfl⟩) hS (fun h_229 H locs p_230 hR hS => ?_)
              have hg_232 := rwAdd_lt (z := sevZ f od a b) (k := pl) hg1 (show plainN (f i) < 128 from hp.2)
              have f_233 : h_229 r = some (100 + 2 * k, .inr (5, [.ref bb, .int (nI (sevZ f od a b))])) := by rw [p_230]; exact ah_keep fr1 fb1 (by omega)
              have f_234 : h_229 bb = some (101 + 2 * k, .inl (G.2.2.1 0, 142, .inl (nA (rwAdd g1 (sevZ f od a b) pl (plainN (f i)))))) := by rw [p_230]; exact ah_up_s _ _ _
              have f_235 : h_229 t = some (2, .inr (6, [.ref ua, .int (nI n), .int (nI sv), .int (nI os)])) := by rw [p_230]; exact ah_keep ft1 fb1 (by omega)
              have f_236 : h_229 ua = some (3, .inl (G.2.2.1 0, 3000, .inl (nA f))) := by rw [p_230]; exact ah_keep fu1 fb1 (by omega)
              refine lv_iinc (v := nI (pl + 1)) (lv' := [(5, .int (nI (pl + 1))), (9, .int (nI (plainN (f i)))), (8, .int (nI (f i))), (7, .int (nI i)), (0, .ref r), (1, .ref t), (2, .int (nI a)), (3, .int (nI b))]) hx hb dX3_writeSevens_113 hl (k := 3) rfl (show nI pl + Int32.ofInt 1 = nI (pl + 1) from nI_add _ 1) (by decide) rfl (fun ls hl => ?_)
              refine lv_iinc (v := nI (i + 1)) (lv' := [(7, .int (nI (i + 1))), (5, .int (nI (pl + 1))), (9, .int (nI (plainN (f i)))), (8, .int (nI (f i))), (0, .ref r), (1, .ref t), (2, .int (nI a)), (3, .int (nI b))]) hx hb dX3_writeSevens_116 hl (k := 3) rfl (show nI i + Int32.ofInt 1 = nI (i + 1) from nI_add _ 1) (by decide) rfl (fun ls hl => ?_)
              refine lv_goto (tgt := 60) hx hb dX3_writeSevens_119 (by decide) ?_
              exact ih60  (i + 1) (pl + 1) (rwAdd g1 (sevZ f od a b) pl (plainN (f i))) h_229 _ _ ls (by omega) (by omega) (by omega) (by rw [show i + 1 - a = (i - a) + 1 by omega]; simp only [sumS]; rw [show a + (i - a) = i by omega, hsvi]; omega) hg_232 (by rw [← ew, show b - i = b - (i + 1) + 1 by omega]; simp only [wSev]; rw [if_neg c_228]) (by rw [p_230]; rw [eh1]; simp only [ah_up2]) f_233 f_234 f_235 f_236 hR hS (lv_sub hl [0, 1, 4, 5, 6, 7] rfl)
            · skip
              have hs2 := svFor2 c_228 hnz
              have hsvi := hs2.1
              have hp := (escSv_or (f i)).resolve_left hs2.2
              refine lv_aload_n hx hb dX3_writeSevens_87 rfl (lv_at hl 4 rfl) ?_
              refine lv_iload hx hb dX3_writeSevens_88 (lv_at hl 3 rfl) ?_
              refine lv_bipush (v := nI 27) hx hb dX3_writeSevens_90 (by decide) ?_
              refine ah_callv (va_runV (As := [.int (nI pl), .int (nI 27)]) (rest := []) ⟨hx, hb, hml, hown, hts⟩ (c_Row_addSeven l G h1 r bb (100 + 2 * k) (101 + 2 * k) 142 (sevZ f od a b) g1 fr1 fb1 (by omega) hz142 (by decide) hg1 pl 27 (by omega) (by omega)) (cwV 2 hts gX3_writeSevens_X6_addSeven rfl rfl rfl (by decide +kernel) ⟨Nat.le_of_ble_eq_true rfl, Nat.le_of_ble_eq_true rfl⟩) (ah_preV hE hR hS fr1 rfl) rfl rfl hl.1 rfl (lv_room (Nat.le_of_ble_eq_true rfl)) dX3_writeSevens_92 ⟨Nat.le_of_ble_eq_true rfl, Nat.le_of_ble_eq_true rfl⟩) hS (fun h_237 H locs p_238 hR hS => ?_)
              have hg_240 := rwAdd_lt (z := sevZ f od a b) (k := pl) hg1 (show 27 < 128 from by omega)
              have f_241 : h_237 r = some (100 + 2 * k, .inr (5, [.ref bb, .int (nI (sevZ f od a b))])) := by rw [p_238]; exact ah_keep fr1 fb1 (by omega)
              have f_242 : h_237 bb = some (101 + 2 * k, .inl (G.2.2.1 0, 142, .inl (nA (rwAdd g1 (sevZ f od a b) pl 27)))) := by rw [p_238]; exact ah_up_s _ _ _
              have f_243 : h_237 t = some (2, .inr (6, [.ref ua, .int (nI n), .int (nI sv), .int (nI os)])) := by rw [p_238]; exact ah_keep ft1 fb1 (by omega)
              have f_244 : h_237 ua = some (3, .inl (G.2.2.1 0, 3000, .inl (nA f))) := by rw [p_238]; exact ah_keep fu1 fb1 (by omega)
              refine lv_iinc (v := nI (pl + 1)) (lv' := [(5, .int (nI (pl + 1))), (9, .int (plainSv (f i))), (8, .int (nI (f i))), (7, .int (nI i)), (0, .ref r), (1, .ref t), (2, .int (nI a)), (3, .int (nI b))]) hx hb dX3_writeSevens_95 hl (k := 3) rfl (show nI pl + Int32.ofInt 1 = nI (pl + 1) from nI_add _ 1) (by decide) rfl (fun ls hl => ?_)
              refine lv_iload hx hb dX3_writeSevens_98 (lv_at hl 2 rfl) ?_
              refine ah_calli (va_runS (As := [.int (nI (f i))]) (rest := []) ⟨hx, hb, hml, hown, hts⟩ (c_escapedSeven l G h_237 (f i) (by omega)) (va_cwS 1 hts gX3_writeSevens_X0_escapedSeven rfl rfl rfl (by decide +kernel) ⟨Nat.le_of_ble_eq_true rfl, Nat.le_of_ble_eq_true rfl⟩) (ah_preS hE hR hS) rfl rfl hl.1 rfl (lv_room (Nat.le_of_ble_eq_true rfl)) dX3_writeSevens_100 ⟨Nat.le_of_ble_eq_true rfl, Nat.le_of_ble_eq_true rfl⟩) hS (fun r_247 h_245 H locs p_246 hR hS => ?_)
              obtain ⟨e_248, e_249⟩ := p_246
              rw [e_249] at hR
              refine ah_toi e_248 ?_
              refine ah_toi hp.1 ?_
              refine lv_istore (lv' := [(9, .int (nI (escN (f i)))), (5, .int (nI (pl + 1))), (8, .int (nI (f i))), (7, .int (nI i)), (0, .ref r), (1, .ref t), (2, .int (nI a)), (3, .int (nI b))]) hx hb dX3_writeSevens_103 hl (by decide) rfl (fun ls hl => ?_)
              refine lv_aload_n hx hb dX3_writeSevens_105 rfl (lv_at hl 4 rfl) ?_
              refine lv_iload hx hb dX3_writeSevens_106 (lv_at hl 1 rfl) ?_
              refine lv_iload hx hb dX3_writeSevens_108 (lv_at hl 0 rfl) ?_
              refine ah_callv (va_runV (As := [.int (nI (pl + 1)), .int (nI (escN (f i)))]) (rest := []) ⟨hx, hb, hml, hown, hts⟩ (c_Row_addSeven l G h_237 r bb (100 + 2 * k) (101 + 2 * k) 142 (sevZ f od a b) (rwAdd g1 (sevZ f od a b) pl 27) f_241 f_242 (by omega) hz142 (by decide) hg_240 (pl + 1) (escN (f i)) (by omega) hp.2) (cwV 2 hts gX3_writeSevens_X6_addSeven rfl rfl rfl (by decide +kernel) ⟨Nat.le_of_ble_eq_true rfl, Nat.le_of_ble_eq_true rfl⟩) (ah_preV hE hR hS f_241 rfl) rfl rfl hl.1 rfl (lv_room (Nat.le_of_ble_eq_true rfl)) dX3_writeSevens_110 ⟨Nat.le_of_ble_eq_true rfl, Nat.le_of_ble_eq_true rfl⟩) hS (fun h_250 H locs p_251 hR hS => ?_)
              have hg_253 := rwAdd_lt (z := sevZ f od a b) (k := pl + 1) hg_240 (show escN (f i) < 128 from hp.2)
              have f_254 : h_250 r = some (100 + 2 * k, .inr (5, [.ref bb, .int (nI (sevZ f od a b))])) := by rw [p_251]; exact ah_keep f_241 f_242 (by omega)
              have f_255 : h_250 bb = some (101 + 2 * k, .inl (G.2.2.1 0, 142, .inl (nA (rwAdd (rwAdd g1 (sevZ f od a b) pl 27) (sevZ f od a b) (pl + 1) (escN (f i)))))) := by rw [p_251]; exact ah_up_s _ _ _
              have f_256 : h_250 t = some (2, .inr (6, [.ref ua, .int (nI n), .int (nI sv), .int (nI os)])) := by rw [p_251]; exact ah_keep f_243 f_242 (by omega)
              have f_257 : h_250 ua = some (3, .inl (G.2.2.1 0, 3000, .inl (nA f))) := by rw [p_251]; exact ah_keep f_244 f_242 (by omega)
              refine lv_iinc (v := nI ((pl + 1) + 1)) (lv' := [(5, .int (nI ((pl + 1) + 1))), (9, .int (nI (escN (f i)))), (8, .int (nI (f i))), (7, .int (nI i)), (0, .ref r), (1, .ref t), (2, .int (nI a)), (3, .int (nI b))]) hx hb dX3_writeSevens_113 hl (k := 1) rfl (show nI (pl + 1) + Int32.ofInt 1 = nI ((pl + 1) + 1) from nI_add _ 1) (by decide) rfl (fun ls hl => ?_)
              refine lv_iinc (v := nI (i + 1)) (lv' := [(7, .int (nI (i + 1))), (5, .int (nI ((pl + 1) + 1))), (9, .int (nI (escN (f i)))), (8, .int (nI (f i))), (0, .ref r), (1, .ref t), (2, .int (nI a)), (3, .int (nI b))]) hx hb dX3_writeSevens_116 hl (k := 3) rfl (show nI i + Int32.ofInt 1 = nI (i + 1) from nI_add _ 1) (by decide) rfl (fun ls hl => ?_)
              refine lv_goto (tgt := 60) hx hb dX3_writeSevens_119 (by decide) ?_
              exact ih60  (i + 1) ((pl + 1) + 1) (rwAdd (rwAdd g1 (sevZ f od a b) pl 27) (sevZ f od a b) (pl + 1) (escN (f i))) h_250 _ _ ls (by omega) (by omega) (by omega) (by rw [show i + 1 - a = (i - a) + 1 by omega]; simp only [sumS]; rw [show a + (i - a) = i by omega, hsvi]; omega) hg_253 (by rw [← ew, show b - i = b - (i + 1) + 1 by omega]; simp only [wSev]; rw [if_pos c_228]) (by rw [p_251, p_238]; rw [eh1]; simp only [ah_up2]) f_254 f_255 f_256 f_257 hR hS (lv_sub hl [0, 1, 4, 5, 6, 7] rfl)
      exact L60 ((b - a) + 1) a (7 * od) (rwS (rwS (fun _ => 0) (sevZ f od a b) 0 od) (sevZ f od a b) 1 (7 * od + sumS f a (b - a))) h_210 _ _ ls (by omega) (by omega) (by omega) (by rw [Nat.sub_self]; rfl) hg0 rfl (by rw [p_211, p_204, p_141]; rw [ah_up2, ah_up3 hrb]) f_213 f_214 f_215 f_216 hR hS (lv_sub hl [0, 2, 3, 4, 5, 6] rfl)

set_option maxHeartbeats 4000000 in
set_option maxRecDepth 100000 in
theorem c_Msg_writePairs (l : Launch) (G : ah_G) (h : ah_H) (k r bb z : Nat) (g : Nat → Nat) (fr : h r = some (100 + 2 * k, .inr (5, [.ref bb, .int (nI z)]))) (fb : h bb = some (101 + 2 * k, .inl (G.2.2.1 0, 142, .inl (nA g)))) (hz : z ≤ 142) (t ua n sv os : Nat) (f : Nat → Nat) (ft : h t = some (2, .inr (6, [.ref ua, .int (nI n), .int (nI sv), .int (nI os)]))) (fu : h ua = some (3, .inl (G.2.2.1 0, 3000, .inl (nA f)))) (hn : n ≤ 3000) (hsv : sv < 2 ^ 30) (hos : os < 2 ^ 30) (hf : ∀ j, f j < 65536) (a b od : Nat) (hab : a ≤ b) (hbn : b ≤ n) (hhb : od ≤ 1) (htot : 6 * od + 2 * (b - a) ≤ 140) : Met l yX3_writePairs wsX3_writePairs ({ frames := 2, cells := 0, slots := 0, locals := 44 }) (ah_Pc G [.ref r, .ref t, .int (nI a), .int (nI b), .int (nI od)] h) (ah_Qv G (fun h' => h' = ah_up (ah_up h r (100 + 2 * k, .inr (5, [.ref bb, .int (nI (pairZ od a b))]))) bb (101 + 2 * k, .inl (G.2.2.1 0, 142, .inl (nA (pairG f od a b)))))) 0 0 (ah_A G) := by
  refine ah_ofW (cc := cX3_writePairs) (maxL := 8) (ret := none) (by decide) rfl (Nat.le_of_ble_eq_true rfl) ?_
  intro p e s m below meth cd9 ls hx hb hr hml hown hlocks hname hts hE hR hS hl
  have hown : s.vm.findClass RX3 = some m.cls := hown
  have hl : lv_has ls 8 [(0, .ref r), (1, .ref t), (2, .int (nI a)), (3, .int (nI b)), (4, .int (nI od))] := hl
  refine lv_iload hx hb dX3_writePairs_0 (lv_at hl 4 rfl) ?_
  refine lv_if_eq (tgt := 10) hx hb dX3_writePairs_2 (by decide) (fun c_1 => ?_) (fun c_1 => ?_)
  · skip
    have c_1 : od = 0 := (zi_eq (by omega)).mp c_1
    refine lv_iconst (v := nI 0) hx hb dX3_writePairs_10 (by decide) ?_
    refine ah_toi (v := nI (6 * od)) (by rw [show 6 * od = 0 by omega]) ?_
    refine lv_istore (lv' := [(5, .int (nI (6 * od))), (0, .ref r), (1, .ref t), (2, .int (nI a)), (3, .int (nI b)), (4, .int (nI od))]) hx hb dX3_writePairs_11 hl (by decide) rfl (fun ls hl => ?_)
    refine lv_iload hx hb dX3_writePairs_13 (lv_at hl 0 rfl) ?_
    refine lv_iconst (v := nI 2) hx hb dX3_writePairs_15 (by decide) ?_
    refine lv_iload_n hx hb dX3_writePairs_16 rfl (lv_at hl 4 rfl) ?_
    refine lv_iload_n hx hb dX3_writePairs_17 rfl (lv_at hl 3 rfl) ?_
    refine lv_isub hx hb dX3_writePairs_18 ?_
    refine ah_toi (v := nI (b - a)) (pk_sub (by omega)) ?_
    refine lv_imul hx hb dX3_writePairs_19 ?_
    refine ah_toi (v := nI (2 * (b - a))) (pk_mul _ _) ?_
    refine lv_iadd hx hb dX3_writePairs_20 ?_
    refine ah_toi (v := nI ((6 * od) + (2 * (b - a)))) (nI_add _ _) ?_
    refine lv_istore (lv' := [(6, .int (nI ((6 * od) + (2 * (b - a))))), (5, .int (nI (6 * od))), (0, .ref r), (1, .ref t), (2, .int (nI a)), (3, .int (nI b)), (4, .int (nI od))]) hx hb dX3_writePairs_21 hl (by decide) rfl (fun ls hl => ?_)
    refine lv_aload_n hx hb dX3_writePairs_23 rfl (lv_at hl 2 rfl) ?_
    refine lv_iconst (v := nI 2) hx hb dX3_writePairs_24 (by decide) ?_
    refine lv_iload hx hb dX3_writePairs_25 (lv_at hl 0 rfl) ?_
    refine lv_iadd hx hb dX3_writePairs_27 ?_
    refine ah_toi (v := nI (pairZ od a b)) (nI_add _ _) ?_
    have hz142 : pairZ od a b ≤ 142 := by unfold pairZ; omega
    refine ah_callv (va_runV (As := [.int (nI (pairZ od a b))]) (rest := []) ⟨hx, hb, hml, hown, hts⟩ (c_Row_restart l G h r bb (100 + 2 * k) (101 + 2 * k) 142 z g fr fb (by omega) hz (by decide) (pairZ od a b) hz142) (cwV 1 hts gX3_writePairs_X6_restart rfl rfl rfl (by decide +kernel) ⟨Nat.le_of_ble_eq_true rfl, Nat.le_of_ble_eq_true rfl⟩) (ah_preV hE hR hS fr rfl) rfl rfl hl.1 rfl (lv_room (Nat.le_of_ble_eq_true rfl)) dX3_writePairs_28 ⟨Nat.le_of_ble_eq_true rfl, Nat.le_of_ble_eq_true rfl⟩) hS (fun h_2 H locs p_3 hR hS => ?_)
    have f_5 : h_2 r = some (100 + 2 * k, .inr (5, [.ref bb, .int (nI (pairZ od a b))])) := by rw [p_3]; exact ah_up_s _ _ _
    have f_6 : h_2 bb = some (101 + 2 * k, .inl (G.2.2.1 0, 142, .inl (nA (fun _ => 0)))) := by rw [p_3]; exact ah_keep (ah_up_s _ _ _) (ah_keep fr fb (by omega)) (by omega)
    have f_7 : h_2 t = some (2, .inr (6, [.ref ua, .int (nI n), .int (nI sv), .int (nI os)])) := by rw [p_3]; exact ah_keep (ah_keep ft fb (by omega)) (ah_keep fr fb (by omega)) (by omega)
    have f_8 : h_2 ua = some (3, .inl (G.2.2.1 0, 3000, .inl (nA f))) := by rw [p_3]; exact ah_keep (ah_keep fu fb (by omega)) (ah_keep fr fb (by omega)) (by omega)
    refine lv_aload_n hx hb dX3_writePairs_31 rfl (lv_at hl 2 rfl) ?_
    refine lv_iconst (v := nI 0) hx hb dX3_writePairs_32 (by decide) ?_
    refine lv_iload hx hb dX3_writePairs_33 (lv_at hl 6 rfl) ?_
    refine lv_if_eq (tgt := 42) hx hb dX3_writePairs_35 (by decide) (fun c_9 => ?_) (fun c_9 => ?_)
    · skip
      have c_9 : od = 0 := (zi_eq (by omega)).mp c_9
      refine lv_iconst (v := nI 4) hx hb dX3_writePairs_42 (by decide) ?_
      refine ah_toi (v := nI (4 + od)) (by rw [show 4 + od = 4 by omega]) ?_
      refine ah_callv (va_runV (As := [.int (nI 0), .int (nI (4 + od))]) (rest := []) ⟨hx, hb, hml, hown, hts⟩ (c_Row_setByte l G h_2 r bb (100 + 2 * k) (101 + 2 * k) 142 (pairZ od a b) (fun _ => 0) f_5 f_6 (by omega) hz142 (by decide) 0 (4 + od) (by omega)) (cwV 2 hts gX3_writePairs_X6_setByte rfl rfl rfl (by decide +kernel) ⟨Nat.le_of_ble_eq_true rfl, Nat.le_of_ble_eq_true rfl⟩) (ah_preV hE hR hS f_5 rfl) rfl rfl hl.1 rfl (lv_room (Nat.le_of_ble_eq_true rfl)) dX3_writePairs_43 ⟨Nat.le_of_ble_eq_true rfl, Nat.le_of_ble_eq_true rfl⟩) hS (fun h_10 H locs p_11 hR hS => ?_)
      have f_13 : h_10 r = some (100 + 2 * k, .inr (5, [.ref bb, .int (nI (pairZ od a b))])) := by rw [p_11]; exact ah_keep f_5 f_6 (by omega)
      have f_14 : h_10 bb = some (101 + 2 * k, .inl (G.2.2.1 0, 142, .inl (nA (rwS (fun _ => 0) (pairZ od a b) 0 (4 + od))))) := by rw [p_11]; exact ah_up_s _ _ _
      have f_15 : h_10 t = some (2, .inr (6, [.ref ua, .int (nI n), .int (nI sv), .int (nI os)])) := by rw [p_11]; exact ah_keep f_7 f_6 (by omega)
      have f_16 : h_10 ua = some (3, .inl (G.2.2.1 0, 3000, .inl (nA f))) := by rw [p_11]; exact ah_keep f_8 f_6 (by omega)
      refine lv_aload_n hx hb dX3_writePairs_46 rfl (lv_at hl 2 rfl) ?_
      refine lv_iconst (v := nI 1) hx hb dX3_writePairs_47 (by decide) ?_
      refine lv_iload hx hb dX3_writePairs_48 (lv_at hl 0 rfl) ?_
      refine ah_callv (va_runV (As := [.int (nI 1), .int (nI ((6 * od) + (2 * (b - a))))]) (rest := []) ⟨hx, hb, hml, hown, hts⟩ (c_Row_setByte l G h_10 r bb (100 + 2 * k) (101 + 2 * k) 142 (pairZ od a b) (rwS (fun _ => 0) (pairZ od a b) 0 (4 + od)) f_13 f_14 (by omega) hz142 (by decide) 1 ((6 * od) + (2 * (b - a))) (by omega)) (cwV 2 hts gX3_writePairs_X6_setByte rfl rfl rfl (by decide +kernel) ⟨Nat.le_of_ble_eq_true rfl, Nat.le_of_ble_eq_true rfl⟩) (ah_preV hE hR hS f_13 rfl) rfl rfl hl.1 rfl (lv_room (Nat.le_of_ble_eq_true rfl)) dX3_writePairs_50 ⟨Nat.le_of_ble_eq_true rfl, Nat.le_of_ble_eq_true rfl⟩) hS (fun h_17 H locs p_18 hR hS => ?_)
      have f_20 : h_17 r = some (100 + 2 * k, .inr (5, [.ref bb, .int (nI (pairZ od a b))])) := by rw [p_18]; exact ah_keep f_13 f_14 (by omega)
      have f_21 : h_17 bb = some (101 + 2 * k, .inl (G.2.2.1 0, 142, .inl (nA (rwS (rwS (fun _ => 0) (pairZ od a b) 0 (4 + od)) (pairZ od a b) 1 ((6 * od) + (2 * (b - a))))))) := by rw [p_18]; exact ah_up_s _ _ _
      have f_22 : h_17 t = some (2, .inr (6, [.ref ua, .int (nI n), .int (nI sv), .int (nI os)])) := by rw [p_18]; exact ah_keep f_15 f_14 (by omega)
      have f_23 : h_17 ua = some (3, .inl (G.2.2.1 0, 3000, .inl (nA f))) := by rw [p_18]; exact ah_keep f_16 f_14 (by omega)
      refine lv_iload_n hx hb dX3_writePairs_53 rfl (lv_at hl 4 rfl) ?_
      refine lv_istore (lv' := [(7, .int (nI a)), (6, .int (nI ((6 * od) + (2 * (b - a))))), (5, .int (nI (6 * od))), (0, .ref r), (1, .ref t), (2, .int (nI a)), (3, .int (nI b)), (4, .int (nI od))]) hx hb dX3_writePairs_54 hl (by decide) rfl (fun ls hl => ?_)
      have hrb : bb ≠ r := ah_ne fb fr (by omega)
      have L56 : ∀ (N56 : Nat) (i : Nat) (pl : Nat) (g1 : Nat → Nat) (h1 : ah_H) (H : Heap) (locs : List Loc) (ls : Array Slot), b - i < N56 → (a ≤ i) → (i ≤ b) → (pl = 6 * od + 2 * (i - a)) → (wPair f (pairZ od a b) (b - i) i g1 pl = pairG f od a b) → (h1 = ah_up (ah_up h r (100 + 2 * k, .inr (5, [.ref bb, .int (nI (pairZ od a b))]))) bb (101 + 2 * k, .inl (G.2.2.1 0, 142, .inl (nA g1)))) → (h1 r = some (100 + 2 * k, .inr (5, [.ref bb, .int (nI (pairZ od a b))]))) → (h1 bb = some (101 + 2 * k, .inl (G.2.2.1 0, 142, .inl (nA g1)))) → (h1 t = some (2, .inr (6, [.ref ua, .int (nI n), .int (nI sv), .int (nI os)]))) → (h1 ua = some (3, .inl (G.2.2.1 0, 3000, .inl (nA f)))) → ah_R G h1 H → va_S (ah_A G) s.heap H locs → lv_has ls 8 [(7, .int (nI i)), (5, .int (nI pl)), (0, .ref r), (1, .ref t), (2, .int (nI a)), (3, .int (nI b))] → W p l e ({ frames := 2, cells := 0, slots := 0, locals := 44 }) s m ([.ref r, .ref t, .int (nI a), .int (nI b), .int (nI od)] : List Value).toArray below meth cd9 H locs 0 0 (MQ below (ah_Qv G (fun h' => h' = ah_up (ah_up h r (100 + 2 * k, .inr (5, [.ref bb, .int (nI (pairZ od a b))]))) bb (101 + 2 * k, .inl (G.2.2.1 0, 142, .inl (nA (pairG f od a b)))))) ([.ref r, .ref t, .int (nI a), .int (nI b), .int (nI od)] : List Value).toArray s 0 0 (ah_A G)) (F0 m 56 ls []) := by
        intro N56
        induction N56 with
        | zero => intro i pl g1 h1 H locs ls hN; exact absurd hN (Nat.not_lt_zero _)
        | succ N56 ih56 =>
          intro i pl g1 h1 H locs ls hN56 hi hi2 hpl ew eh1 fr1 fb1 ft1 fu1 hR hS hl
          refine lv_iload hx hb dX3_writePairs_56 (lv_at hl 0 rfl) ?_
          refine lv_iload_n hx hb dX3_writePairs_58 rfl (lv_at hl 5 rfl) ?_
          refine lv_icmp_ge (tgt := 108) hx hb dX3_writePairs_59 (by decide) (fun c_24 => ?_) (fun c_24 => ?_)
          · skip
            have c_24 : b ≤ i := (nI_leI (by omega) (by omega)).mp c_24
            refine ah_vret hx hb hr hlocks hR hS dX3_writePairs_108 ?_
            rw [eh1, ← ew, show b - i = 0 by omega]; rfl
          · skip
            have c_24 : ¬ (b ≤ i) := fun z9 => c_24 ((nI_leI (by omega) (by omega)).mpr z9)
            refine lv_aload_n hx hb dX3_writePairs_62 rfl (lv_at hl 2 rfl) ?_
            refine lv_iconst (v := nI 2) hx hb dX3_writePairs_63 (by decide) ?_
            refine lv_iload hx hb dX3_writePairs_64 (lv_at hl 1 rfl) ?_
            refine lv_iadd hx hb dX3_writePairs_66 ?_
            refine ah_toi (v := nI (2 + pl)) (nI_add _ _) ?_
            refine lv_aload_n hx hb dX3_writePairs_67 rfl (lv_at hl 3 rfl) ?_
            refine lv_iload hx hb dX3_writePairs_68 (lv_at hl 0 rfl) ?_
            refine ah_calli (va_runV (As := [.int (nI i)]) (rest := [.int (nI (2 + pl)), .ref r]) ⟨hx, hb, hml, hown, hts⟩ (c_Text_unitAt l G h1 t ua 2 3 n sv os f ft1 fu1 (by decide) hn hsv hos hf i (by omega)) (cwV 1 hts gX3_writePairs_X7_unitAt rfl rfl rfl (by decide +kernel) ⟨Nat.le_of_ble_eq_true rfl, Nat.le_of_ble_eq_true rfl⟩) (ah_preV hE hR hS ft1 rfl) rfl rfl hl.1 rfl (lv_room (Nat.le_of_ble_eq_true rfl)) dX3_writePairs_70 ⟨Nat.le_of_ble_eq_true rfl, Nat.le_of_ble_eq_true rfl⟩) hS (fun r_27 h_25 H locs p_26 hR hS => ?_)
            obtain ⟨e_28, e_29⟩ := p_26
            rw [e_29] at hR
            refine ah_toi e_28 ?_
            have hfu := hf i
            refine lv_bipush (v := nI 8) hx hb dX3_writePairs_73 (by decide) ?_
            refine lv_ishr hx hb dX3_writePairs_75 ?_
            refine ah_toi (v := nI (f i / 2 ^ 8)) (ny_shr (by omega) (by omega)) ?_
            refine ah_callv (va_runV (As := [.int (nI (2 + pl)), .int (nI (f i / 2 ^ 8))]) (rest := []) ⟨hx, hb, hml, hown, hts⟩ (c_Row_setByte l G h1 r bb (100 + 2 * k) (101 + 2 * k) 142 (pairZ od a b) g1 fr1 fb1 (by omega) hz142 (by decide) (2 + pl) (f i / 2 ^ 8) (by omega)) (cwV 2 hts gX3_writePairs_X6_setByte rfl rfl rfl (by decide +kernel) ⟨Nat.le_of_ble_eq_true rfl, Nat.le_of_ble_eq_true rfl⟩) (ah_preV hE hR hS fr1 rfl) rfl rfl hl.1 rfl (lv_room (Nat.le_of_ble_eq_true rfl)) dX3_writePairs_76 ⟨Nat.le_of_ble_eq_true rfl, Nat.le_of_ble_eq_true rfl⟩) hS (fun h_30 H locs p_31 hR hS => ?_)
            have f_33 : h_30 r = some (100 + 2 * k, .inr (5, [.ref bb, .int (nI (pairZ od a b))])) := by rw [p_31]; exact ah_keep fr1 fb1 (by omega)
            have f_34 : h_30 bb = some (101 + 2 * k, .inl (G.2.2.1 0, 142, .inl (nA (rwS g1 (pairZ od a b) (2 + pl) (f i / 2 ^ 8))))) := by rw [p_31]; exact ah_up_s _ _ _
            have f_35 : h_30 t = some (2, .inr (6, [.ref ua, .int (nI n), .int (nI sv), .int (nI os)])) := by rw [p_31]; exact ah_keep ft1 fb1 (by omega)
            have f_36 : h_30 ua = some (3, .inl (G.2.2.1 0, 3000, .inl (nA f))) := by rw [p_31]; exact ah_keep fu1 fb1 (by omega)
            refine lv_aload_n hx hb dX3_writePairs_79 rfl (lv_at hl 2 rfl) ?_
            refine lv_iconst (v := nI 2) hx hb dX3_writePairs_80 (by decide) ?_
            refine lv_iload hx hb dX3_writePairs_81 (lv_at hl 1 rfl) ?_
            refine lv_iadd hx hb dX3_writePairs_83 ?_
            refine ah_toi (v := nI (2 + pl)) (nI_add _ _) ?_
            refine lv_iconst (v := nI 1) hx hb dX3_writePairs_84 (by decide) ?_
            refine lv_iadd hx hb dX3_writePairs_85 ?_
            refine ah_toi (v := nI ((2 + pl) + 1)) (nI_add _ _) ?_
            refine lv_aload_n hx hb dX3_writePairs_86 rfl (lv_at hl 3 rfl) ?_
            refine lv_iload hx hb dX3_writePairs_87 (lv_at hl 0 rfl) ?_
            refine ah_calli (va_runV (As := [.int (nI i)]) (rest := [.int (nI ((2 + pl) + 1)), .ref r]) ⟨hx, hb, hml, hown, hts⟩ (c_Text_unitAt l G h_30 t ua 2 3 n sv os f f_35 f_36 (by decide) hn hsv hos hf i (by omega)) (cwV 1 hts gX3_writePairs_X7_unitAt rfl rfl rfl (by decide +kernel) ⟨Nat.le_of_ble_eq_true rfl, Nat.le_of_ble_eq_true rfl⟩) (ah_preV hE hR hS f_35 rfl) rfl rfl hl.1 rfl (lv_room (Nat.le_of_ble_eq_true rfl)) dX3_writePairs_89 ⟨Nat.le_of_ble_eq_true rfl, Nat.le_of_ble_eq_true rfl⟩) hS (fun r_39 h_37 H locs p_38 hR hS => ?_)
            obtain ⟨e_40, e_41⟩ := p_38
            rw [e_41] at hR
            refine ah_toi e_40 ?_
            have hfu := hf i
            refine lv_sipush (v := nI 255) hx hb dX3_writePairs_92 (by decide) ?_
            refine lv_iand hx hb dX3_writePairs_95 ?_
            refine ah_toi (v := nI (f i % 256)) (ny_a255 _) ?_
            refine ah_callv (va_runV (As := [.int (nI ((2 + pl) + 1)), .int (nI (f i % 256))]) (rest := []) ⟨hx, hb, hml, hown, hts⟩ (c_Row_setByte l G h_30 r bb (100 + 2 * k) (101 + 2 * k) 142 (pairZ od a b) (rwS g1 (pairZ od a b) (2 + pl) (f i / 2 ^ 8)) f_33 f_34 (by omega) hz142 (by decide) ((2 + pl) + 1) (f i % 256) (by omega)) (cwV 2 hts gX3_writePairs_X6_setByte rfl rfl rfl (by decide +kernel) ⟨Nat.le_of_ble_eq_true rfl, Nat.le_of_ble_eq_true rfl⟩) (ah_preV hE hR hS f_33 rfl) rfl rfl hl.1 rfl (lv_room (Nat.le_of_ble_eq_true rfl)) dX3_writePairs_96 ⟨Nat.le_of_ble_eq_true rfl, Nat.le_of_ble_eq_true rfl⟩) hS (fun h_42 H locs p_43 hR hS => ?_)
            have f_45 : h_42 r = some (100 + 2 * k, .inr (5, [.ref bb, .int (nI (pairZ od a b))])) := by rw [p_43]; exact ah_keep f_33 f_34 (by omega)
            have f_46 : h_42 bb = some (101 + 2 * k, .inl (G.2.2.1 0, 142, .inl (nA (rwS (rwS g1 (pairZ od a b) (2 + pl) (f i / 2 ^ 8)) (pairZ od a b) ((2 + pl) + 1) (f i % 256))))) := by rw [p_43]; exact ah_up_s _ _ _
            have f_47 : h_42 t = some (2, .inr (6, [.ref ua, .int (nI n), .int (nI sv), .int (nI os)])) := by rw [p_43]; exact ah_keep f_35 f_34 (by omega)
            have f_48 : h_42 ua = some (3, .inl (G.2.2.1 0, 3000, .inl (nA f))) := by rw [p_43]; exact ah_keep f_36 f_34 (by omega)
            refine lv_iinc (v := nI (pl + 2)) (lv' := [(5, .int (nI (pl + 2))), (7, .int (nI i)), (0, .ref r), (1, .ref t), (2, .int (nI a)), (3, .int (nI b))]) hx hb dX3_writePairs_99 hl (k := 1) rfl (show nI pl + Int32.ofInt 2 = nI (pl + 2) from nI_add _ 2) (by decide) rfl (fun ls hl => ?_)
            refine lv_iinc (v := nI (i + 1)) (lv' := [(7, .int (nI (i + 1))), (5, .int (nI (pl + 2))), (0, .ref r), (1, .ref t), (2, .int (nI a)), (3, .int (nI b))]) hx hb dX3_writePairs_102 hl (k := 1) rfl (show nI i + Int32.ofInt 1 = nI (i + 1) from nI_add _ 1) (by decide) rfl (fun ls hl => ?_)
            refine lv_goto (tgt := 56) hx hb dX3_writePairs_105 (by decide) ?_
            exact ih56  (i + 1) (pl + 2) (rwS (rwS g1 (pairZ od a b) (2 + pl) (f i / 2 ^ 8)) (pairZ od a b) ((2 + pl) + 1) (f i % 256)) h_42 _ _ ls (by omega) (by omega) (by omega) (by omega) (by rw [← ew, show b - i = b - (i + 1) + 1 by omega]; rfl) (by rw [p_43, p_31]; rw [eh1]; simp only [ah_up2]) f_45 f_46 f_47 f_48 hR hS (lv_sub hl [0, 1, 2, 3, 4, 5] rfl)
      exact L56 ((b - a) + 1) a (6 * od) (rwS (rwS (fun _ => 0) (pairZ od a b) 0 (4 + od)) (pairZ od a b) 1 (6 * od + 2 * (b - a))) h_17 _ _ ls (by omega) (by omega) (by omega) (by omega) rfl (by rw [p_18, p_11, p_3]; rw [ah_up2, ah_up3 hrb]) f_20 f_21 f_22 f_23 hR hS (lv_sub hl [0, 2, 3, 4, 5, 6] rfl)
    · skip
      have c_9 : ¬ (od = 0) := fun z9 => c_9 ((zi_eq (by omega)).mpr z9)
      refine lv_iconst (v := nI 5) hx hb dX3_writePairs_38 (by decide) ?_
      refine lv_goto (tgt := 43) hx hb dX3_writePairs_39 (by decide) ?_
      refine ah_toi (v := nI (4 + od)) (by rw [show 4 + od = 5 by omega]) ?_
      refine ah_callv (va_runV (As := [.int (nI 0), .int (nI (4 + od))]) (rest := []) ⟨hx, hb, hml, hown, hts⟩ (c_Row_setByte l G h_2 r bb (100 + 2 * k) (101 + 2 * k) 142 (pairZ od a b) (fun _ => 0) f_5 f_6 (by omega) hz142 (by decide) 0 (4 + od) (by omega)) (cwV 2 hts gX3_writePairs_X6_setByte rfl rfl rfl (by decide +kernel) ⟨Nat.le_of_ble_eq_true rfl, Nat.le_of_ble_eq_true rfl⟩) (ah_preV hE hR hS f_5 rfl) rfl rfl hl.1 rfl (lv_room (Nat.le_of_ble_eq_true rfl)) dX3_writePairs_43 ⟨Nat.le_of_ble_eq_true rfl, Nat.le_of_ble_eq_true rfl⟩) hS (fun h_49 H locs p_50 hR hS => ?_)
      have f_52 : h_49 r = some (100 + 2 * k, .inr (5, [.ref bb, .int (nI (pairZ od a b))])) := by rw [p_50]; exact ah_keep f_5 f_6 (by omega)
      have f_53 : h_49 bb = some (101 + 2 * k, .inl (G.2.2.1 0, 142, .inl (nA (rwS (fun _ => 0) (pairZ od a b) 0 (4 + od))))) := by rw [p_50]; exact ah_up_s _ _ _
      have f_54 : h_49 t = some (2, .inr (6, [.ref ua, .int (nI n), .int (nI sv), .int (nI os)])) := by rw [p_50]; exact ah_keep f_7 f_6 (by omega)
      have f_55 : h_49 ua = some (3, .inl (G.2.2.1 0, 3000, .inl (nA f))) := by rw [p_50]; exact ah_keep f_8 f_6 (by omega)
      refine lv_aload_n hx hb dX3_writePairs_46 rfl (lv_at hl 2 rfl) ?_
      refine lv_iconst (v := nI 1) hx hb dX3_writePairs_47 (by decide) ?_
      refine lv_iload hx hb dX3_writePairs_48 (lv_at hl 0 rfl) ?_
      refine ah_callv (va_runV (As := [.int (nI 1), .int (nI ((6 * od) + (2 * (b - a))))]) (rest := []) ⟨hx, hb, hml, hown, hts⟩ (c_Row_setByte l G h_49 r bb (100 + 2 * k) (101 + 2 * k) 142 (pairZ od a b) (rwS (fun _ => 0) (pairZ od a b) 0 (4 + od)) f_52 f_53 (by omega) hz142 (by decide) 1 ((6 * od) + (2 * (b - a))) (by omega)) (cwV 2 hts gX3_writePairs_X6_setByte rfl rfl rfl (by decide +kernel) ⟨Nat.le_of_ble_eq_true rfl, Nat.le_of_ble_eq_true rfl⟩) (ah_preV hE hR hS f_52 rfl) rfl rfl hl.1 rfl (lv_room (Nat.le_of_ble_eq_true rfl)) dX3_writePairs_50 ⟨Nat.le_of_ble_eq_true rfl, Nat.le_of_ble_eq_true rfl⟩) hS (fun h_56 H locs p_57 hR hS => ?_)
      have f_59 : h_56 r = some (100 + 2 * k, .inr (5, [.ref bb, .int (nI (pairZ od a b))])) := by rw [p_57]; exact ah_keep f_52 f_53 (by omega)
      have f_60 : h_56 bb = some (101 + 2 * k, .inl (G.2.2.1 0, 142, .inl (nA (rwS (rwS (fun _ => 0) (pairZ od a b) 0 (4 + od)) (pairZ od a b) 1 ((6 * od) + (2 * (b - a))))))) := by rw [p_57]; exact ah_up_s _ _ _
      have f_61 : h_56 t = some (2, .inr (6, [.ref ua, .int (nI n), .int (nI sv), .int (nI os)])) := by rw [p_57]; exact ah_keep f_54 f_53 (by omega)
      have f_62 : h_56 ua = some (3, .inl (G.2.2.1 0, 3000, .inl (nA f))) := by rw [p_57]; exact ah_keep f_55 f_53 (by omega)
      refine lv_iload_n hx hb dX3_writePairs_53 rfl (lv_at hl 4 rfl) ?_
      refine lv_istore (lv' := [(7, .int (nI a)), (6, .int (nI ((6 * od) + (2 * (b - a))))), (5, .int (nI (6 * od))), (0, .ref r), (1, .ref t), (2, .int (nI a)), (3, .int (nI b)), (4, .int (nI od))]) hx hb dX3_writePairs_54 hl (by decide) rfl (fun ls hl => ?_)
      have hrb : bb ≠ r := ah_ne fb fr (by omega)
      have L56 : ∀ (N56 : Nat) (i : Nat) (pl : Nat) (g1 : Nat → Nat) (h1 : ah_H) (H : Heap) (locs : List Loc) (ls : Array Slot), b - i < N56 → (a ≤ i) → (i ≤ b) → (pl = 6 * od + 2 * (i - a)) → (wPair f (pairZ od a b) (b - i) i g1 pl = pairG f od a b) → (h1 = ah_up (ah_up h r (100 + 2 * k, .inr (5, [.ref bb, .int (nI (pairZ od a b))]))) bb (101 + 2 * k, .inl (G.2.2.1 0, 142, .inl (nA g1)))) → (h1 r = some (100 + 2 * k, .inr (5, [.ref bb, .int (nI (pairZ od a b))]))) → (h1 bb = some (101 + 2 * k, .inl (G.2.2.1 0, 142, .inl (nA g1)))) → (h1 t = some (2, .inr (6, [.ref ua, .int (nI n), .int (nI sv), .int (nI os)]))) → (h1 ua = some (3, .inl (G.2.2.1 0, 3000, .inl (nA f)))) → ah_R G h1 H → va_S (ah_A G) s.heap H locs → lv_has ls 8 [(7, .int (nI i)), (5, .int (nI pl)), (0, .ref r), (1, .ref t), (2, .int (nI a)), (3, .int (nI b))] → W p l e ({ frames := 2, cells := 0, slots := 0, locals := 44 }) s m ([.ref r, .ref t, .int (nI a), .int (nI b), .int (nI od)] : List Value).toArray below meth cd9 H locs 0 0 (MQ below (ah_Qv G (fun h' => h' = ah_up (ah_up h r (100 + 2 * k, .inr (5, [.ref bb, .int (nI (pairZ od a b))]))) bb (101 + 2 * k, .inl (G.2.2.1 0, 142, .inl (nA (pairG f od a b)))))) ([.ref r, .ref t, .int (nI a), .int (nI b), .int (nI od)] : List Value).toArray s 0 0 (ah_A G)) (F0 m 56 ls []) := by
        intro N56
        induction N56 with
        | zero => intro i pl g1 h1 H locs ls hN; exact absurd hN (Nat.not_lt_zero _)
        | succ N56 ih56 =>
          intro i pl g1 h1 H locs ls hN56 hi hi2 hpl ew eh1 fr1 fb1 ft1 fu1 hR hS hl
          refine lv_iload hx hb dX3_writePairs_56 (lv_at hl 0 rfl) ?_
          refine lv_iload_n hx hb dX3_writePairs_58 rfl (lv_at hl 5 rfl) ?_
          refine lv_icmp_ge (tgt := 108) hx hb dX3_writePairs_59 (by decide) (fun c_63 => ?_) (fun c_63 => ?_)
          · skip
            have c_63 : b ≤ i := (nI_leI (by omega) (by omega)).mp c_63
            refine ah_vret hx hb hr hlocks hR hS dX3_writePairs_108 ?_
            rw [eh1, ← ew, show b - i = 0 by omega]; rfl
          · skip
            have c_63 : ¬ (b ≤ i) := fun z9 => c_63 ((nI_leI (by omega) (by omega)).mpr z9)
            refine lv_aload_n hx hb dX3_writePairs_62 rfl (lv_at hl 2 rfl) ?_
            refine lv_iconst (v := nI 2) hx hb dX3_writePairs_63 (by decide) ?_
            refine lv_iload hx hb dX3_writePairs_64 (lv_at hl 1 rfl) ?_
            refine lv_iadd hx hb dX3_writePairs_66 ?_
            refine ah_toi (v := nI (2 + pl)) (nI_add _ _) ?_
            refine lv_aload_n hx hb dX3_writePairs_67 rfl (lv_at hl 3 rfl) ?_
            refine lv_iload hx hb dX3_writePairs_68 (lv_at hl 0 rfl) ?_
            refine ah_calli (va_runV (As := [.int (nI i)]) (rest := [.int (nI (2 + pl)), .ref r]) ⟨hx, hb, hml, hown, hts⟩ (c_Text_unitAt l G h1 t ua 2 3 n sv os f ft1 fu1 (by decide) hn hsv hos hf i (by omega)) (cwV 1 hts gX3_writePairs_X7_unitAt rfl rfl rfl (by decide +kernel) ⟨Nat.le_of_ble_eq_true rfl, Nat.le_of_ble_eq_true rfl⟩) (ah_preV hE hR hS ft1 rfl) rfl rfl hl.1 rfl (lv_room (Nat.le_of_ble_eq_true rfl)) dX3_writePairs_70 ⟨Nat.le_of_ble_eq_true rfl, Nat.le_of_ble_eq_true rfl⟩) hS (fun r_66 h_64 H locs p_65 hR hS => ?_)
            obtain ⟨e_67, e_68⟩ := p_65
            rw [e_68] at hR
            refine ah_toi e_67 ?_
            have hfu := hf i
            refine lv_bipush (v := nI 8) hx hb dX3_writePairs_73 (by decide) ?_
            refine lv_ishr hx hb dX3_writePairs_75 ?_
            refine ah_toi (v := nI (f i / 2 ^ 8)) (ny_shr (by omega) (by omega)) ?_
            refine ah_callv (va_runV (As := [.int (nI (2 + pl)), .int (nI (f i / 2 ^ 8))]) (rest := []) ⟨hx, hb, hml, hown, hts⟩ (c_Row_setByte l G h1 r bb (100 + 2 * k) (101 + 2 * k) 142 (pairZ od a b) g1 fr1 fb1 (by omega) hz142 (by decide) (2 + pl) (f i / 2 ^ 8) (by omega)) (cwV 2 hts gX3_writePairs_X6_setByte rfl rfl rfl (by decide +kernel) ⟨Nat.le_of_ble_eq_true rfl, Nat.le_of_ble_eq_true rfl⟩) (ah_preV hE hR hS fr1 rfl) rfl rfl hl.1 rfl (lv_room (Nat.le_of_ble_eq_true rfl)) dX3_writePairs_76 ⟨Nat.le_of_ble_eq_true rfl, Nat.le_of_ble_eq_true rfl⟩) hS (fun h_69 H locs p_70 hR hS => ?_)
            have f_72 : h_69 r = some (100 + 2 * k, .inr (5, [.ref bb, .int (nI (pairZ od a b))])) := by rw [p_70]; exact ah_keep fr1 fb1 (by omega)
            have f_73 : h_69 bb = some (101 + 2 * k, .inl (G.2.2.1 0, 142, .inl (nA (rwS g1 (pairZ od a b) (2 + pl) (f i / 2 ^ 8))))) := by rw [p_70]; exact ah_up_s _ _ _
            have f_74 : h_69 t = some (2, .inr (6, [.ref ua, .int (nI n), .int (nI sv), .int (nI os)])) := by rw [p_70]; exact ah_keep ft1 fb1 (by omega)
            have f_75 : h_69 ua = some (3, .inl (G.2.2.1 0, 3000, .inl (nA f))) := by rw [p_70]; exact ah_keep fu1 fb1 (by omega)
            refine lv_aload_n hx hb dX3_writePairs_79 rfl (lv_at hl 2 rfl) ?_
            refine lv_iconst (v := nI 2) hx hb dX3_writePairs_80 (by decide) ?_
            refine lv_iload hx hb dX3_writePairs_81 (lv_at hl 1 rfl) ?_
            refine lv_iadd hx hb dX3_writePairs_83 ?_
            refine ah_toi (v := nI (2 + pl)) (nI_add _ _) ?_
            refine lv_iconst (v := nI 1) hx hb dX3_writePairs_84 (by decide) ?_
            refine lv_iadd hx hb dX3_writePairs_85 ?_
            refine ah_toi (v := nI ((2 + pl) + 1)) (nI_add _ _) ?_
            refine lv_aload_n hx hb dX3_writePairs_86 rfl (lv_at hl 3 rfl) ?_
            refine lv_iload hx hb dX3_writePairs_87 (lv_at hl 0 rfl) ?_
            refine ah_calli (va_runV (As := [.int (nI i)]) (rest := [.int (nI ((2 + pl) + 1)), .ref r]) ⟨hx, hb, hml, hown, hts⟩ (c_Text_unitAt l G h_69 t ua 2 3 n sv os f f_74 f_75 (by decide) hn hsv hos hf i (by omega)) (cwV 1 hts gX3_writePairs_X7_unitAt rfl rfl rfl (by decide +kernel) ⟨Nat.le_of_ble_eq_true rfl, Nat.le_of_ble_eq_true rfl⟩) (ah_preV hE hR hS f_74 rfl) rfl rfl hl.1 rfl (lv_room (Nat.le_of_ble_eq_true rfl)) dX3_writePairs_89 ⟨Nat.le_of_ble_eq_true rfl, Nat.le_of_ble_eq_true rfl⟩) hS (fun r_78 h_76 H locs p_77 hR hS => ?_)
            obtain ⟨e_79, e_80⟩ := p_77
            rw [e_80] at hR
            refine ah_toi e_79 ?_
            have hfu := hf i
            refine lv_sipush (v := nI 255) hx hb dX3_writePairs_92 (by decide) ?_
            refine lv_iand hx hb dX3_writePairs_95 ?_
            refine ah_toi (v := nI (f i % 256)) (ny_a255 _) ?_
            refine ah_callv (va_runV (As := [.int (nI ((2 + pl) + 1)), .int (nI (f i % 256))]) (rest := []) ⟨hx, hb, hml, hown, hts⟩ (c_Row_setByte l G h_69 r bb (100 + 2 * k) (101 + 2 * k) 142 (pairZ od a b) (rwS g1 (pairZ od a b) (2 + pl) (f i / 2 ^ 8)) f_72 f_73 (by omega) hz142 (by decide) ((2 + pl) + 1) (f i % 256) (by omega)) (cwV 2 hts gX3_writePairs_X6_setByte rfl rfl rfl (by decide +kernel) ⟨Nat.le_of_ble_eq_true rfl, Nat.le_of_ble_eq_true rfl⟩) (ah_preV hE hR hS f_72 rfl) rfl rfl hl.1 rfl (lv_room (Nat.le_of_ble_eq_true rfl)) dX3_writePairs_96 ⟨Nat.le_of_ble_eq_true rfl, Nat.le_of_ble_eq_true rfl⟩) hS (fun h_81 H locs p_82 hR hS => ?_)
            have f_84 : h_81 r = some (100 + 2 * k, .inr (5, [.ref bb, .int (nI (pairZ od a b))])) := by rw [p_82]; exact ah_keep f_72 f_73 (by omega)
            have f_85 : h_81 bb = some (101 + 2 * k, .inl (G.2.2.1 0, 142, .inl (nA (rwS (rwS g1 (pairZ od a b) (2 + pl) (f i / 2 ^ 8)) (pairZ od a b) ((2 + pl) + 1) (f i % 256))))) := by rw [p_82]; exact ah_up_s _ _ _
            have f_86 : h_81 t = some (2, .inr (6, [.ref ua, .int (nI n), .int (nI sv), .int (nI os)])) := by rw [p_82]; exact ah_keep f_74 f_73 (by omega)
            have f_87 : h_81 ua = some (3, .inl (G.2.2.1 0, 3000, .inl (nA f))) := by rw [p_82]; exact ah_keep f_75 f_73 (by omega)
            refine lv_iinc (v := nI (pl + 2)) (lv' := [(5, .int (nI (pl + 2))), (7, .int (nI i)), (0, .ref r), (1, .ref t), (2, .int (nI a)), (3, .int (nI b))]) hx hb dX3_writePairs_99 hl (k := 1) rfl (show nI pl + Int32.ofInt 2 = nI (pl + 2) from nI_add _ 2) (by decide) rfl (fun ls hl => ?_)
            refine lv_iinc (v := nI (i + 1)) (lv' := [(7, .int (nI (i + 1))), (5, .int (nI (pl + 2))), (0, .ref r), (1, .ref t), (2, .int (nI a)), (3, .int (nI b))]) hx hb dX3_writePairs_102 hl (k := 1) rfl (show nI i + Int32.ofInt 1 = nI (i + 1) from nI_add _ 1) (by decide) rfl (fun ls hl => ?_)
            refine lv_goto (tgt := 56) hx hb dX3_writePairs_105 (by decide) ?_
            exact ih56  (i + 1) (pl + 2) (rwS (rwS g1 (pairZ od a b) (2 + pl) (f i / 2 ^ 8)) (pairZ od a b) ((2 + pl) + 1) (f i % 256)) h_81 _ _ ls (by omega) (by omega) (by omega) (by omega) (by rw [← ew, show b - i = b - (i + 1) + 1 by omega]; rfl) (by rw [p_82, p_70]; rw [eh1]; simp only [ah_up2]) f_84 f_85 f_86 f_87 hR hS (lv_sub hl [0, 1, 2, 3, 4, 5] rfl)
      exact L56 ((b - a) + 1) a (6 * od) (rwS (rwS (fun _ => 0) (pairZ od a b) 0 (4 + od)) (pairZ od a b) 1 (6 * od + 2 * (b - a))) h_56 _ _ ls (by omega) (by omega) (by omega) (by omega) rfl (by rw [p_57, p_50, p_3]; rw [ah_up2, ah_up3 hrb]) f_59 f_60 f_61 f_62 hR hS (lv_sub hl [0, 2, 3, 4, 5, 6] rfl)
  · skip
    have c_1 : ¬ (od = 0) := fun z9 => c_1 ((zi_eq (by omega)).mpr z9)
    refine lv_bipush (v := nI 6) hx hb dX3_writePairs_5 (by decide) ?_
    refine lv_goto (tgt := 11) hx hb dX3_writePairs_7 (by decide) ?_
    refine ah_toi (v := nI (6 * od)) (by rw [show 6 * od = 6 by omega]) ?_
    refine lv_istore (lv' := [(5, .int (nI (6 * od))), (0, .ref r), (1, .ref t), (2, .int (nI a)), (3, .int (nI b)), (4, .int (nI od))]) hx hb dX3_writePairs_11 hl (by decide) rfl (fun ls hl => ?_)
    refine lv_iload hx hb dX3_writePairs_13 (lv_at hl 0 rfl) ?_
    refine lv_iconst (v := nI 2) hx hb dX3_writePairs_15 (by decide) ?_
    refine lv_iload_n hx hb dX3_writePairs_16 rfl (lv_at hl 4 rfl) ?_
    refine lv_iload_n hx hb dX3_writePairs_17 rfl (lv_at hl 3 rfl) ?_
    refine lv_isub hx hb dX3_writePairs_18 ?_
    refine ah_toi (v := nI (b - a)) (pk_sub (by omega)) ?_
    refine lv_imul hx hb dX3_writePairs_19 ?_
    refine ah_toi (v := nI (2 * (b - a))) (pk_mul _ _) ?_
    refine lv_iadd hx hb dX3_writePairs_20 ?_
    refine ah_toi (v := nI ((6 * od) + (2 * (b - a)))) (nI_add _ _) ?_
    refine lv_istore (lv' := [(6, .int (nI ((6 * od) + (2 * (b - a))))), (5, .int (nI (6 * od))), (0, .ref r), (1, .ref t), (2, .int (nI a)), (3, .int (nI b)), (4, .int (nI od))]) hx hb dX3_writePairs_21 hl (by decide) rfl (fun ls hl => ?_)
    refine lv_aload_n hx hb dX3_writePairs_23 rfl (lv_at hl 2 rfl) ?_
    refine lv_iconst (v := nI 2) hx hb dX3_writePairs_24 (by decide) ?_
    refine lv_iload hx hb dX3_writePairs_25 (lv_at hl 0 rfl) ?_
    refine lv_iadd hx hb dX3_writePairs_27 ?_
    refine ah_toi (v := nI (pairZ od a b)) (nI_add _ _) ?_
    have hz142 : pairZ od a b ≤ 142 := by unfold pairZ; omega
    refine ah_callv (va_runV (As := [.int (nI (pairZ od a b))]) (rest := []) ⟨hx, hb, hml, hown, hts⟩ (c_Row_restart l G h r bb (100 + 2 * k) (101 + 2 * k) 142 z g fr fb (by omega) hz (by decide) (pairZ od a b) hz142) (cwV 1 hts gX3_writePairs_X6_restart rfl rfl rfl (by decide +kernel) ⟨Nat.le_of_ble_eq_true rfl, Nat.le_of_ble_eq_true rfl⟩) (ah_preV hE hR hS fr rfl) rfl rfl hl.1 rfl (lv_room (Nat.le_of_ble_eq_true rfl)) dX3_writePairs_28 ⟨Nat.le_of_ble_eq_true rfl, Nat.le_of_ble_eq_true rfl⟩) hS (fun h_88 H locs p_89 hR hS => ?_)
    have f_91 : h_88 r = some (100 + 2 * k, .inr (5, [.ref bb, .int (nI (pairZ od a b))])) := by rw [p_89]; exact ah_up_s _ _ _
    have f_92 : h_88 bb = some (101 + 2 * k, .inl (G.2.2.1 0, 142, .inl (nA (fun _ => 0)))) := by rw [p_89]; exact ah_keep (ah_up_s _ _ _) (ah_keep fr fb (by omega)) (by omega)
    have f_93 : h_88 t = some (2, .inr (6, [.ref ua, .int (nI n), .int (nI sv), .int (nI os)])) := by rw [p_89]; exact ah_keep (ah_keep ft fb (by omega)) (ah_keep fr fb (by omega)) (by omega)
    have f_94 : h_88 ua = some (3, .inl (G.2.2.1 0, 3000, .inl (nA f))) := by rw [p_89]; exact ah_keep (ah_keep fu fb (by omega)) (ah_keep fr fb (by omega)) (by omega)
    refine lv_aload_n hx hb dX3_writePairs_31 rfl (lv_at hl 2 rfl) ?_
    refine lv_iconst (v := nI 0) hx hb dX3_writePairs_32 (by decide) ?_
    refine lv_iload hx hb dX3_writePairs_33 (lv_at hl 6 rfl) ?_
    refine lv_if_eq (tgt := 42) hx hb dX3_writePairs_35 (by decide) (fun c_95 => ?_) (fun c_95 => ?_)
    · skip
      have c_95 : od = 0 := (zi_eq (by omega)).mp c_95
      refine lv_iconst (v := nI 4) hx hb dX3_writePairs_42 (by decide) ?_
      refine ah_toi (v := nI (4 + od)) (by rw [show 4 + od = 4 by omega]) ?_
      refine ah_callv (va_runV (As := [.int (nI 0), .int (nI (4 + od))]) (rest := []) ⟨hx, hb, hml, hown, hts⟩ (c_Row_setByte l G h_88 r bb (100 + 2 * k) (101 + 2 * k) 142 (pairZ od a b) (fun _ => 0) f_91 f_92 (by omega) hz142 (by decide) 0 (4 + od) (by omega)) (cwV 2 hts gX3_writePairs_X6_setByte rfl rfl rfl (by decide +kernel) ⟨Nat.le_of_ble_eq_true rfl, Nat.le_of_ble_eq_true rfl⟩) (ah_preV hE hR hS f_91 rfl) rfl rfl hl.1 rfl (lv_room (Nat.le_of_ble_eq_true rfl)) dX3_writePairs_43 ⟨Nat.le_of_ble_eq_true rfl, Nat.le_of_ble_eq_true rfl⟩) hS (fun h_96 H locs p_97 hR hS => ?_)
      have f_99 : h_96 r = some (100 + 2 * k, .inr (5, [.ref bb, .int (nI (pairZ od a b))])) := by rw [p_97]; exact ah_keep f_91 f_92 (by omega)
      have f_100 : h_96 bb = some (101 + 2 * k, .inl (G.2.2.1 0, 142, .inl (nA (rwS (fun _ => 0) (pairZ od a b) 0 (4 + od))))) := by rw [p_97]; exact ah_up_s _ _ _
      have f_101 : h_96 t = some (2, .inr (6, [.ref ua, .int (nI n), .int (nI sv), .int (nI os)])) := by rw [p_97]; exact ah_keep f_93 f_92 (by omega)
      have f_102 : h_96 ua = some (3, .inl (G.2.2.1 0, 3000, .inl (nA f))) := by rw [p_97]; exact ah_keep f_94 f_92 (by omega)
      refine lv_aload_n hx hb dX3_writePairs_46 rfl (lv_at hl 2 rfl) ?_
      refine lv_iconst (v := nI 1) hx hb dX3_writePairs_47 (by decide) ?_
      refine lv_iload hx hb dX3_writePairs_48 (lv_at hl 0 rfl) ?_
      refine ah_callv (va_runV (As := [.int (nI 1), .int (nI ((6 * od) + (2 * (b - a))))]) (rest := []) ⟨hx, hb, hml, hown, hts⟩ (c_Row_setByte l G h_96 r bb (100 + 2 * k) (101 + 2 * k) 142 (pairZ od a b) (rwS (fun _ => 0) (pairZ od a b) 0 (4 + od)) f_99 f_100 (by omega) hz142 (by decide) 1 ((6 * od) + (2 * (b - a))) (by omega)) (cwV 2 hts gX3_writePairs_X6_setByte rfl rfl rfl (by decide +kernel) ⟨Nat.le_of_ble_eq_true rfl, Nat.le_of_ble_eq_true rfl⟩) (ah_preV hE hR hS f_99 rfl) rfl rfl hl.1 rfl (lv_room (Nat.le_of_ble_eq_true rfl)) dX3_writePairs_50 ⟨Nat.le_of_ble_eq_true rfl, Nat.le_of_ble_eq_true rfl⟩) hS (fun h_103 H locs p_104 hR hS => ?_)
      have f_106 : h_103 r = some (100 + 2 * k, .inr (5, [.ref bb, .int (nI (pairZ od a b))])) := by rw [p_104]; exact ah_keep f_99 f_100 (by omega)
      have f_107 : h_103 bb = some (101 + 2 * k, .inl (G.2.2.1 0, 142, .inl (nA (rwS (rwS (fun _ => 0) (pairZ od a b) 0 (4 + od)) (pairZ od a b) 1 ((6 * od) + (2 * (b - a))))))) := by rw [p_104]; exact ah_up_s _ _ _
      have f_108 : h_103 t = some (2, .inr (6, [.ref ua, .int (nI n), .int (nI sv), .int (nI os)])) := by rw [p_104]; exact ah_keep f_101 f_100 (by omega)
      have f_109 : h_103 ua = some (3, .inl (G.2.2.1 0, 3000, .inl (nA f))) := by rw [p_104]; exact ah_keep f_102 f_100 (by omega)
      refine lv_iload_n hx hb dX3_writePairs_53 rfl (lv_at hl 4 rfl) ?_
      refine lv_istore (lv' := [(7, .int (nI a)), (6, .int (nI ((6 * od) + (2 * (b - a))))), (5, .int (nI (6 * od))), (0, .ref r), (1, .ref t), (2, .int (nI a)), (3, .int (nI b)), (4, .int (nI od))]) hx hb dX3_writePairs_54 hl (by decide) rfl (fun ls hl => ?_)
      have hrb : bb ≠ r := ah_ne fb fr (by omega)
      have L56 : ∀ (N56 : Nat) (i : Nat) (pl : Nat) (g1 : Nat → Nat) (h1 : ah_H) (H : Heap) (locs : List Loc) (ls : Array Slot), b - i < N56 → (a ≤ i) → (i ≤ b) → (pl = 6 * od + 2 * (i - a)) → (wPair f (pairZ od a b) (b - i) i g1 pl = pairG f od a b) → (h1 = ah_up (ah_up h r (100 + 2 * k, .inr (5, [.ref bb, .int (nI (pairZ od a b))]))) bb (101 + 2 * k, .inl (G.2.2.1 0, 142, .inl (nA g1)))) → (h1 r = some (100 + 2 * k, .inr (5, [.ref bb, .int (nI (pairZ od a b))]))) → (h1 bb = some (101 + 2 * k, .inl (G.2.2.1 0, 142, .inl (nA g1)))) → (h1 t = some (2, .inr (6, [.ref ua, .int (nI n), .int (nI sv), .int (nI os)]))) → (h1 ua = some (3, .inl (G.2.2.1 0, 3000, .inl (nA f)))) → ah_R G h1 H → va_S (ah_A G) s.heap H locs → lv_has ls 8 [(7, .int (nI i)), (5, .int (nI pl)), (0, .ref r), (1, .ref t), (2, .int (nI a)), (3, .int (nI b))] → W p l e ({ frames := 2, cells := 0, slots := 0, locals := 44 }) s m ([.ref r, .ref t, .int (nI a), .int (nI b), .int (nI od)] : List Value).toArray below meth cd9 H locs 0 0 (MQ below (ah_Qv G (fun h' => h' = ah_up (ah_up h r (100 + 2 * k, .inr (5, [.ref bb, .int (nI (pairZ od a b))]))) bb (101 + 2 * k, .inl (G.2.2.1 0, 142, .inl (nA (pairG f od a b)))))) ([.ref r, .ref t, .int (nI a), .int (nI b), .int (nI od)] : List Value).toArray s 0 0 (ah_A G)) (F0 m 56 ls []) := by
        intro N56
        induction N56 with
        | zero => intro i pl g1 h1 H locs ls hN; exact absurd hN (Nat.not_lt_zero _)
        | succ N56 ih56 =>
          intro i pl g1 h1 H locs ls hN56 hi hi2 hpl ew eh1 fr1 fb1 ft1 fu1 hR hS hl
          refine lv_iload hx hb dX3_writePairs_56 (lv_at hl 0 rfl) ?_
          refine lv_iload_n hx hb dX3_writePairs_58 rfl (lv_at hl 5 rfl) ?_
          refine lv_icmp_ge (tgt := 108) hx hb dX3_writePairs_59 (by decide) (fun c_110 => ?_) (fun c_110 => ?_)
          · skip
            have c_110 : b ≤ i := (nI_leI (by omega) (by omega)).mp c_110
            refine ah_vret hx hb hr hlocks hR hS dX3_writePairs_108 ?_
            rw [eh1, ← ew, show b - i = 0 by omega]; rfl
          · skip
            have c_110 : ¬ (b ≤ i) := fun z9 => c_110 ((nI_leI (by omega) (by omega)).mpr z9)
            refine lv_aload_n hx hb dX3_writePairs_62 rfl (lv_at hl 2 rfl) ?_
            refine lv_iconst (v := nI 2) hx hb dX3_writePairs_63 (by decide) ?_
            refine lv_iload hx hb dX3_writePairs_64 (lv_at hl 1 rfl) ?_
            refine lv_iadd hx hb dX3_writePairs_66 ?_
            refine ah_toi (v := nI (2 + pl)) (nI_add _ _) ?_
            refine lv_aload_n hx hb dX3_writePairs_67 rfl (lv_at hl 3 rfl) ?_
            refine lv_iload hx hb dX3_writePairs_68 (lv_at hl 0 rfl) ?_
            refine ah_calli (va_runV (As := [.int (nI i)]) (rest := [.int (nI (2 + pl)), .ref r]) ⟨hx, hb, hml, hown, hts⟩ (c_Text_unitAt l G h1 t ua 2 3 n sv os f ft1 fu1 (by decide) hn hsv hos hf i (by omega)) (cwV 1 hts gX3_writePairs_X7_unitAt rfl rfl rfl (by decide +kernel) ⟨Nat.le_of_ble_eq_true rfl, Nat.le_of_ble_eq_true rfl⟩) (ah_preV hE hR hS ft1 rfl) rfl rfl hl.1 rfl (lv_room (Nat.le_of_ble_eq_true rfl)) dX3_writePairs_70 ⟨Nat.le_of_ble_eq_true rfl, Nat.le_of_ble_eq_true rfl⟩) hS (fun r_113 h_111 H locs p_112 hR hS => ?_)
            obtain ⟨e_114, e_115⟩ := p_112
            rw [e_115] at hR
            refine ah_toi e_114 ?_
            have hfu := hf i
            refine lv_bipush (v := nI 8) hx hb dX3_writePairs_73 (by decide) ?_
            refine lv_ishr hx hb dX3_writePairs_75 ?_
            refine ah_toi (v := nI (f i / 2 ^ 8)) (ny_shr (by omega) (by omega)) ?_
            refine ah_callv (va_runV (As := [.int (nI (2 + pl)), .int (nI (f i / 2 ^ 8))]) (rest := []) ⟨hx, hb, hml, hown, hts⟩ (c_Row_setByte l G h1 r bb (100 + 2 * k) (101 + 2 * k) 142 (pairZ od a b) g1 fr1 fb1 (by omega) hz142 (by decide) (2 + pl) (f i / 2 ^ 8) (by omega)) (cwV 2 hts gX3_writePairs_X6_setByte rfl rfl rfl (by decide +kernel) ⟨Nat.le_of_ble_eq_true rfl, Nat.le_of_ble_eq_true rfl⟩) (ah_preV hE hR hS fr1 rfl) rfl rfl hl.1 rfl (lv_room (Nat.le_of_ble_eq_true rfl)) dX3_writePairs_76 ⟨Nat.le_of_ble_eq_true rfl, Nat.le_of_ble_eq_true rfl⟩) hS (fun h_116 H locs p_117 hR hS => ?_)
            have f_119 : h_116 r = some (100 + 2 * k, .inr (5, [.ref bb, .int (nI (pairZ od a b))])) := by rw [p_117]; exact ah_keep fr1 fb1 (by omega)
            have f_120 : h_116 bb = some (101 + 2 * k, .inl (G.2.2.1 0, 142, .inl (nA (rwS g1 (pairZ od a b) (2 + pl) (f i / 2 ^ 8))))) := by rw [p_117]; exact ah_up_s _ _ _
            have f_121 : h_116 t = some (2, .inr (6, [.ref ua, .int (nI n), .int (nI sv), .int (nI os)])) := by rw [p_117]; exact ah_keep ft1 fb1 (by omega)
            have f_122 : h_116 ua = some (3, .inl (G.2.2.1 0, 3000, .inl (nA f))) := by rw [p_117]; exact ah_keep fu1 fb1 (by omega)
            refine lv_aload_n hx hb dX3_writePairs_79 rfl (lv_at hl 2 rfl) ?_
            refine lv_iconst (v := nI 2) hx hb dX3_writePairs_80 (by decide) ?_
            refine lv_iload hx hb dX3_writePairs_81 (lv_at hl 1 rfl) ?_
            refine lv_iadd hx hb dX3_writePairs_83 ?_
            refine ah_toi (v := nI (2 + pl)) (nI_add _ _) ?_
            refine lv_iconst (v := nI 1) hx hb dX3_writePairs_84 (by decide) ?_
            refine lv_iadd hx hb dX3_writePairs_85 ?_
            refine ah_toi (v := nI ((2 + pl) + 1)) (nI_add _ _) ?_
            refine lv_aload_n hx hb dX3_writePairs_86 rfl (lv_at hl 3 rfl) ?_
            refine lv_iload hx hb dX3_writePairs_87 (lv_at hl 0 rfl) ?_
            refine ah_calli (va_runV (As := [.int (nI i)]) (rest := [.int (nI ((2 + pl) + 1)), .ref r]) ⟨hx, hb, hml, hown, hts⟩ (c_Text_unitAt l G h_116 t ua 2 3 n sv os f f_121 f_122 (by decide) hn hsv hos hf i (by omega)) (cwV 1 hts gX3_writePairs_X7_unitAt rfl rfl rfl (by decide +kernel) ⟨Nat.le_of_ble_eq_true rfl, Nat.le_of_ble_eq_true rfl⟩) (ah_preV hE hR hS f_121 rfl) rfl rfl hl.1 rfl (lv_room (Nat.le_of_ble_eq_true rfl)) dX3_writePairs_89 ⟨Nat.le_of_ble_eq_true rfl, Nat.le_of_ble_eq_true rfl⟩) hS (fun r_125 h_123 H locs p_124 hR hS => ?_)
            obtain ⟨e_126, e_127⟩ := p_124
            rw [e_127] at hR
            refine ah_toi e_126 ?_
            have hfu := hf i
            refine lv_sipush (v := nI 255) hx hb dX3_writePairs_92 (by decide) ?_
            refine lv_iand hx hb dX3_writePairs_95 ?_
            refine ah_toi (v := nI (f i % 256)) (ny_a255 _) ?_
            refine ah_callv (va_runV (As := [.int (nI ((2 + pl) + 1)), .int (nI (f i % 256))]) (rest := []) ⟨hx, hb, hml, hown, hts⟩ (c_Row_setByte l G h_116 r bb (100 + 2 * k) (101 + 2 * k) 142 (pairZ od a b) (rwS g1 (pairZ od a b) (2 + pl) (f i / 2 ^ 8)) f_119 f_120 (by omega) hz142 (by decide) ((2 + pl) + 1) (f i % 256) (by omega)) (cwV 2 hts gX3_writePairs_X6_setByte rfl rfl rfl (by decide +kernel) ⟨Nat.le_of_ble_eq_true rfl, Nat.le_of_ble_eq_true rfl⟩) (ah_preV hE hR hS f_119 rfl) rfl rfl hl.1 rfl (lv_room (Nat.le_of_ble_eq_true rfl)) dX3_writePairs_96 ⟨Nat.le_of_ble_eq_true rfl, Nat.le_of_ble_eq_true rfl⟩) hS (fun h_128 H locs p_129 hR hS => ?_)
            have f_131 : h_128 r = some (100 + 2 * k, .inr (5, [.ref bb, .int (nI (pairZ od a b))])) := by rw [p_129]; exact ah_keep f_119 f_120 (by omega)
            have f_132 : h_128 bb = some (101 + 2 * k, .inl (G.2.2.1 0, 142, .inl (nA (rwS (rwS g1 (pairZ od a b) (2 + pl) (f i / 2 ^ 8)) (pairZ od a b) ((2 + pl) + 1) (f i % 256))))) := by rw [p_129]; exact ah_up_s _ _ _
            have f_133 : h_128 t = some (2, .inr (6, [.ref ua, .int (nI n), .int (nI sv), .int (nI os)])) := by rw [p_129]; exact ah_keep f_121 f_120 (by omega)
            have f_134 : h_128 ua = some (3, .inl (G.2.2.1 0, 3000, .inl (nA f))) := by rw [p_129]; exact ah_keep f_122 f_120 (by omega)
            refine lv_iinc (v := nI (pl + 2)) (lv' := [(5, .int (nI (pl + 2))), (7, .int (nI i)), (0, .ref r), (1, .ref t), (2, .int (nI a)), (3, .int (nI b))]) hx hb dX3_writePairs_99 hl (k := 1) rfl (show nI pl + Int32.ofInt 2 = nI (pl + 2) from nI_add _ 2) (by decide) rfl (fun ls hl => ?_)
            refine lv_iinc (v := nI (i + 1)) (lv' := [(7, .int (nI (i + 1))), (5, .int (nI (pl + 2))), (0, .ref r), (1, .ref t), (2, .int (nI a)), (3, .int (nI b))]) hx hb dX3_writePairs_102 hl (k := 1) rfl (show nI i + Int32.ofInt 1 = nI (i + 1) from nI_add _ 1) (by decide) rfl (fun ls hl => ?_)
            refine lv_goto (tgt := 56) hx hb dX3_writePairs_105 (by decide) ?_
            exact ih56  (i + 1) (pl + 2) (rwS (rwS g1 (pairZ od a b) (2 + pl) (f i / 2 ^ 8)) (pairZ od a b) ((2 + pl) + 1) (f i % 256)) h_128 _ _ ls (by omega) (by omega) (by omega) (by omega) (by rw [← ew, show b - i = b - (i + 1) + 1 by omega]; rfl) (by rw [p_129, p_117]; rw [eh1]; simp only [ah_up2]) f_131 f_132 f_133 f_134 hR hS (lv_sub hl [0, 1, 2, 3, 4, 5] rfl)
      exact L56 ((b - a) + 1) a (6 * od) (rwS (rwS (fun _ => 0) (pairZ od a b) 0 (4 + od)) (pairZ od a b) 1 (6 * od + 2 * (b - a))) h_103 _ _ ls (by omega) (by omega) (by omega) (by omega) rfl (by rw [p_104, p_97, p_89]; rw [ah_up2, ah_up3 hrb]) f_106 f_107 f_108 f_109 hR hS (lv_sub hl [0, 2, 3, 4, 5, 6] rfl)
    · skip
      have c_95 : ¬ (od = 0) := fun z9 => c_95 ((zi_eq (by omega)).mpr z9)
      refine lv_iconst (v := nI 5) hx hb dX3_writePairs_38 (by decide) ?_
      refine lv_goto (tgt := 43) hx hb dX3_writePairs_39 (by decide) ?_
      refine ah_toi (v := nI (4 + od)) (by rw [show 4 + od = 5 by omega]) ?_
      refine ah_callv (va_runV (As := [.int (nI 0), .int (nI (4 + od))]) (rest := []) ⟨hx, hb, hml, hown, hts⟩ (c_Row_setByte l G h_88 r bb (100 + 2 * k) (101 + 2 * k) 142 (pairZ od a b) (fun _ => 0) f_91 f_92 (by omega) hz142 (by decide) 0 (4 + od) (by omega)) (cwV 2 hts gX3_writePairs_X6_setByte rfl rfl rfl (by decide +kernel) ⟨Nat.le_of_ble_eq_true rfl, Nat.le_of_ble_eq_true rfl⟩) (ah_preV hE hR hS f_91 rfl) rfl rfl hl.1 rfl (lv_room (Nat.le_of_ble_eq_true rfl)) dX3_writePairs_43 ⟨Nat.le_of_ble_eq_true rfl, Nat.le_of_ble_eq_true rfl⟩) hS (fun h_135 H locs p_136 hR hS => ?_)
      have f_138 : h_135 r = some (100 + 2 * k, .inr (5, [.ref bb, .int (nI (pairZ od a b))])) := by rw [p_136]; exact ah_keep f_91 f_92 (by omega)
      have f_139 : h_135 bb = some (101 + 2 * k, .inl (G.2.2.1 0, 142, .inl (nA (rwS (fun _ => 0) (pairZ od a b) 0 (4 + od))))) := by rw [p_136]; exact ah_up_s _ _ _
      have f_140 : h_135 t = some (2, .inr (6, [.ref ua, .int (nI n), .int (nI sv), .int (nI os)])) := by rw [p_136]; exact ah_keep f_93 f_92 (by omega)
      have f_141 : h_135 ua = some (3, .inl (G.2.2.1 0, 3000, .inl (nA f))) := by rw [p_136]; exact ah_keep f_94 f_92 (by omega)
      refine lv_aload_n hx hb dX3_writePairs_46 rfl (lv_at hl 2 rfl) ?_
      refine lv_iconst (v := nI 1) hx hb dX3_writePairs_47 (by decide) ?_
      refine lv_iload hx hb dX3_writePairs_48 (lv_at hl 0 rfl) ?_
      refine ah_callv (va_runV (As := [.int (nI 1), .int (nI ((6 * od) + (2 * (b - a))))]) (rest := []) ⟨hx, hb, hml, hown, hts⟩ (c_Row_setByte l G h_135 r bb (100 + 2 * k) (101 + 2 * k) 142 (pairZ od a b) (rwS (fun _ => 0) (pairZ od a b) 0 (4 + od)) f_138 f_139 (by omega) hz142 (by decide) 1 ((6 * od) + (2 * (b - a))) (by omega)) (cwV 2 hts gX3_writePairs_X6_setByte rfl rfl rfl (by decide +kernel) ⟨Nat.le_of_ble_eq_true rfl, Nat.le_of_ble_eq_true rfl⟩) (ah_preV hE hR hS f_138 rfl) rfl rfl hl.1 rfl (lv_room (Nat.le_of_ble_eq_true rfl)) dX3_writePairs_50 ⟨Nat.le_of_ble_eq_true rfl, Nat.le_of_ble_eq_true rfl⟩) hS (fun h_142 H locs p_143 hR hS => ?_)
      have f_145 : h_142 r = some (100 + 2 * k, .inr (5, [.ref bb, .int (nI (pairZ od a b))])) := by rw [p_143]; exact ah_keep f_138 f_139 (by omega)
      have f_146 : h_142 bb = some (101 + 2 * k, .inl (G.2.2.1 0, 142, .inl (nA (rwS (rwS (fun _ => 0) (pairZ od a b) 0 (4 + od)) (pairZ od a b) 1 ((6 * od) + (2 * (b - a))))))) := by rw [p_143]; exact ah_up_s _ _ _
      have f_147 : h_142 t = some (2, .inr (6, [.ref ua, .int (nI n), .int (nI sv), .int (nI os)])) := by rw [p_143]; exact ah_keep f_140 f_139 (by omega)
      have f_148 : h_142 ua = some (3, .inl (G.2.2.1 0, 3000, .inl (nA f))) := by rw [p_143]; exact ah_keep f_141 f_139 (by omega)
      refine lv_iload_n hx hb dX3_writePairs_53 rfl (lv_at hl 4 rfl) ?_
      refine lv_istore (lv' := [(7, .int (nI a)), (6, .int (nI ((6 * od) + (2 * (b - a))))), (5, .int (nI (6 * od))), (0, .ref r), (1, .ref t), (2, .int (nI a)), (3, .int (nI b)), (4, .int (nI od))]) hx hb dX3_writePairs_54 hl (by decide) rfl (fun ls hl => ?_)
      have hrb : bb ≠ r := ah_ne fb fr (by omega)
      have L56 : ∀ (N56 : Nat) (i : Nat) (pl : Nat) (g1 : Nat → Nat) (h1 : ah_H) (H : Heap) (locs : List Loc) (ls : Array Slot), b - i < N56 → (a ≤ i) → (i ≤ b) → (pl = 6 * od + 2 * (i - a)) → (wPair f (pairZ od a b) (b - i) i g1 pl = pairG f od a b) → (h1 = ah_up (ah_up h r (100 + 2 * k, .inr (5, [.ref bb, .int (nI (pairZ od a b))]))) bb (101 + 2 * k, .inl (G.2.2.1 0, 142, .inl (nA g1)))) → (h1 r = some (100 + 2 * k, .inr (5, [.ref bb, .int (nI (pairZ od a b))]))) → (h1 bb = some (101 + 2 * k, .inl (G.2.2.1 0, 142, .inl (nA g1)))) → (h1 t = some (2, .inr (6, [.ref ua, .int (nI n), .int (nI sv), .int (nI os)]))) → (h1 ua = some (3, .inl (G.2.2.1 0, 3000, .inl (nA f)))) → ah_R G h1 H → va_S (ah_A G) s.heap H locs → lv_has ls 8 [(7, .int (nI i)), (5, .int (nI pl)), (0, .ref r), (1, .ref t), (2, .int (nI a)), (3, .int (nI b))] → W p l e ({ frames := 2, cells := 0, slots := 0, locals := 44 }) s m ([.ref r, .ref t, .int (nI a), .int (nI b), .int (nI od)] : List Value).toArray below meth cd9 H locs 0 0 (MQ below (ah_Qv G (fun h' => h' = ah_up (ah_up h r (100 + 2 * k, .inr (5, [.ref bb, .int (nI (pairZ od a b))]))) bb (101 + 2 * k, .inl (G.2.2.1 0, 142, .inl (nA (pairG f od a b)))))) ([.ref r, .ref t, .int (nI a), .int (nI b), .int (nI od)] : List Value).toArray s 0 0 (ah_A G)) (F0 m 56 ls []) := by
        intro N56
        induction N56 with
        | zero => intro i pl g1 h1 H locs ls hN; exact absurd hN (Nat.not_lt_zero _)
        | succ N56 ih56 =>
          intro i pl g1 h1 H locs ls hN56 hi hi2 hpl ew eh1 fr1 fb1 ft1 fu1 hR hS hl
          refine lv_iload hx hb dX3_writePairs_56 (lv_at hl 0 rfl) ?_
          refine lv_iload_n hx hb dX3_writePairs_58 rfl (lv_at hl 5 rfl) ?_
          refine lv_icmp_ge (tgt := 108) hx hb dX3_writePairs_59 (by decide) (fun c_149 => ?_) (fun c_149 => ?_)
          · skip
            have c_149 : b ≤ i := (nI_leI (by omega) (by omega)).mp c_149
            refine ah_vret hx hb hr hlocks hR hS dX3_writePairs_108 ?_
            rw [eh1, ← ew, show b - i = 0 by omega]; rfl
          · skip
            have c_149 : ¬ (b ≤ i) := fun z9 => c_149 ((nI_leI (by omega) (by omega)).mpr z9)
            refine lv_aload_n hx hb dX3_writePairs_62 rfl (lv_at hl 2 rfl) ?_
            refine lv_iconst (v := nI 2) hx hb dX3_writePairs_63 (by decide) ?_
            refine lv_iload hx hb dX3_writePairs_64 (lv_at hl 1 rfl) ?_
            refine lv_iadd hx hb dX3_writePairs_66 ?_
            refine ah_toi (v := nI (2 + pl)) (nI_add _ _) ?_
            refine lv_aload_n hx hb dX3_writePairs_67 rfl (lv_at hl 3 rfl) ?_
            refine lv_iload hx hb dX3_writePairs_68 (lv_at hl 0 rfl) ?_
            refine ah_calli (va_runV (As := [.int (nI i)]) (rest := [.int (nI (2 + pl)), .ref r]) ⟨hx, hb, hml, hown, hts⟩ (c_Text_unitAt l G h1 t ua 2 3 n sv os f ft1 fu1 (by decide) hn hsv hos hf i (by omega)) (cwV 1 hts gX3_writePairs_X7_unitAt rfl rfl rfl (by decide +kernel) ⟨Nat.le_of_ble_eq_true rfl, Nat.le_of_ble_eq_true rfl⟩) (ah_preV hE hR hS ft1 rfl) rfl rfl hl.1 rfl (lv_room (Nat.le_of_ble_eq_true rfl)) dX3_writePairs_70 ⟨Nat.le_of_ble_eq_true rfl, Nat.le_of_ble_eq_true rfl⟩) hS (fun r_152 h_150 H locs p_151 hR hS => ?_)
            obtain ⟨e_153, e_154⟩ := p_151
            rw [e_154] at hR
            refine ah_toi e_153 ?_
            have hfu := hf i
            refine lv_bipush (v := nI 8) hx hb dX3_writePairs_73 (by decide) ?_
            refine lv_ishr hx hb dX3_writePairs_75 ?_
            refine ah_toi (v := nI (f i / 2 ^ 8)) (ny_shr (by omega) (by omega)) ?_
            refine ah_callv (va_runV (As := [.int (nI (2 + pl)), .int (nI (f i / 2 ^ 8))]) (rest := []) ⟨hx, hb, hml, hown, hts⟩ (c_Row_setByte l G h1 r bb (100 + 2 * k) (101 + 2 * k) 142 (pairZ od a b) g1 fr1 fb1 (by omega) hz142 (by decide) (2 + pl) (f i / 2 ^ 8) (by omega)) (cwV 2 hts gX3_writePairs_X6_setByte rfl rfl rfl (by decide +kernel) ⟨Nat.le_of_ble_eq_true rfl, Nat.le_of_ble_eq_true rfl⟩) (ah_preV hE hR hS fr1 rfl) rfl rfl hl.1 rfl (lv_room (Nat.le_of_ble_eq_true rfl)) dX3_writePairs_76 ⟨Nat.le_of_ble_eq_true rfl, Nat.le_of_ble_eq_true rfl⟩) hS (fun h_155 H locs p_156 hR hS => ?_)
            have f_158 : h_155 r = some (100 + 2 * k, .inr (5, [.ref bb, .int (nI (pairZ od a b))])) := by rw [p_156]; exact ah_keep fr1 fb1 (by omega)
            have f_159 : h_155 bb = some (101 + 2 * k, .inl (G.2.2.1 0, 142, .inl (nA (rwS g1 (pairZ od a b) (2 + pl) (f i / 2 ^ 8))))) := by rw [p_156]; exact ah_up_s _ _ _
            have f_160 : h_155 t = some (2, .inr (6, [.ref ua, .int (nI n), .int (nI sv), .int (nI os)])) := by rw [p_156]; exact ah_keep ft1 fb1 (by omega)
            have f_161 : h_155 ua = some (3, .inl (G.2.2.1 0, 3000, .inl (nA f))) := by rw [p_156]; exact ah_keep fu1 fb1 (by omega)
            refine lv_aload_n hx hb dX3_writePairs_79 rfl (lv_at hl 2 rfl) ?_
            refine lv_iconst (v := nI 2) hx hb dX3_writePairs_80 (by decide) ?_
            refine lv_iload hx hb dX3_writePairs_81 (lv_at hl 1 rfl) ?_
            refine lv_iadd hx hb dX3_writePairs_83 ?_
            refine ah_toi (v := nI (2 + pl)) (nI_add _ _) ?_
            refine lv_iconst (v := nI 1) hx hb dX3_writePairs_84 (by decide) ?_
            refine lv_iadd hx hb dX3_writePairs_85 ?_
            refine ah_toi (v := nI ((2 + pl) + 1)) (nI_add _ _) ?_
            refine lv_aload_n hx hb dX3_writePairs_86 rfl (lv_at hl 3 rfl) ?_
            refine lv_iload hx hb dX3_writePairs_87 (lv_at hl 0 rfl) ?_
            refine ah_calli (va_runV (As := [.int (nI i)]) (rest := [.int (nI ((2 + pl) + 1)), .ref r]) ⟨hx, hb, hml, hown, hts⟩ (c_Text_unitAt l G h_155 t ua 2 3 n sv os f f_160 f_161 (by decide) hn hsv hos hf i (by omega)) (cwV 1 hts gX3_writePairs_X7_unitAt rfl rfl rfl (by decide +kernel) ⟨Nat.le_of_ble_eq_true rfl, Nat.le_of_ble_eq_true rfl⟩) (ah_preV hE hR hS f_160 rfl) rfl rfl hl.1 rfl (lv_room (Nat.le_of_ble_eq_true rfl)) dX3_writePairs_89 ⟨Nat.le_of_ble_eq_true rfl, Nat.le_of_ble_eq_true rfl⟩) hS (fun r_164 h_162 H locs p_163 hR hS => ?_)
            obtain ⟨e_165, e_166⟩ := p_163
            rw [e_166] at hR
            refine ah_toi e_165 ?_
            have hfu := hf i
            refine lv_sipush (v := nI 255) hx hb dX3_writePairs_92 (by decide) ?_
            refine lv_iand hx hb dX3_writePairs_95 ?_
            refine ah_toi (v := nI (f i % 256)) (ny_a255 _) ?_
            refine ah_callv (va_runV (As := [.int (nI ((2 + pl) + 1)), .int (nI (f i % 256))]) (rest := []) ⟨hx, hb, hml, hown, hts⟩ (c_Row_setByte l G h_155 r bb (100 + 2 * k) (101 + 2 * k) 142 (pairZ od a b) (rwS g1 (pairZ od a b) (2 + pl) (f i / 2 ^ 8)) f_158 f_159 (by omega) hz142 (by decide) ((2 + pl) + 1) (f i % 256) (by omega)) (cwV 2 hts gX3_writePairs_X6_setByte rfl rfl rfl (by decide +kernel) ⟨Nat.le_of_ble_eq_true rfl, Nat.le_of_ble_eq_true rfl⟩) (ah_preV hE hR hS f_158 rfl) rfl rfl hl.1 rfl (lv_room (Nat.le_of_ble_eq_true rfl)) dX3_writePairs_96 ⟨Nat.le_of_ble_eq_true rfl, Nat.le_of_ble_eq_true rfl⟩) hS (fun h_167 H locs p_168 hR hS => ?_)
            have f_170 : h_167 r = some (100 + 2 * k, .inr (5, [.ref bb, .int (nI (pairZ od a b))])) := by rw [p_168]; exact ah_keep f_158 f_159 (by omega)
            have f_171 : h_167 bb = some (101 + 2 * k, .inl (G.2.2.1 0, 142, .inl (nA (rwS (rwS g1 (pairZ od a b) (2 + pl) (f i / 2 ^ 8)) (pairZ od a b) ((2 + pl) + 1) (f i % 256))))) := by rw [p_168]; exact ah_up_s _ _ _
            have f_172 : h_167 t = some (2, .inr (6, [.ref ua, .int (nI n), .int (nI sv), .int (nI os)])) := by rw [p_168]; exact ah_keep f_160 f_159 (by omega)
            have f_173 : h_167 ua = some (3, .inl (G.2.2.1 0, 3000, .inl (nA f))) := by rw [p_168]; exact ah_keep f_161 f_159 (by omega)
            refine lv_iinc (v := nI (pl + 2)) (lv' := [(5, .int (nI (pl + 2))), (7, .int (nI i)), (0, .ref r), (1, .ref t), (2, .int (nI a)), (3, .int (nI b))]) hx hb dX3_writePairs_99 hl (k := 1) rfl (show nI pl + Int32.ofInt 2 = nI (pl + 2) from nI_add _ 2) (by decide) rfl (fun ls hl => ?_)
            refine lv_iinc (v := nI (i + 1)) (lv' := [(7, .int (nI (i + 1))), (5, .int (nI (pl + 2))), (0, .ref r), (1, .ref t), (2, .int (nI a)), (3, .int (nI b))]) hx hb dX3_writePairs_102 hl (k := 1) rfl (show nI i + Int32.ofInt 1 = nI (i + 1) from nI_add _ 1) (by decide) rfl (fun ls hl => ?_)
            refine lv_goto (tgt := 56) hx hb dX3_writePairs_105 (by decide) ?_
            exact ih56  (i + 1) (pl + 2) (rwS (rwS g1 (pairZ od a b) (2 + pl) (f i / 2 ^ 8)) (pairZ od a b) ((2 + pl) + 1) (f i % 256)) h_167 _ _ ls (by omega) (by omega) (by omega) (by omega) (by rw [← ew, show b - i = b - (i + 1) + 1 by omega]; rfl) (by rw [p_168, p_156]; rw [eh1]; simp only [ah_up2]) f_170 f_171 f_172 f_173 hR hS (lv_sub hl [0, 1, 2, 3, 4, 5] rfl)
      exact L56 ((b - a) + 1) a (6 * od) (rwS (rwS (fun _ => 0) (pairZ od a b) 0 (4 + od)) (pairZ od a b) 1 (6 * od + 2 * (b - a))) h_142 _ _ ls (by omega) (by omega) (by omega) (by omega) rfl (by rw [p_143, p_136, p_89]; rw [ah_up2, ah_up3 hrb]) f_145 f_146 f_147 f_148 hR hS (lv_sub hl [0, 2, 3, 4, 5, 6] rfl)
