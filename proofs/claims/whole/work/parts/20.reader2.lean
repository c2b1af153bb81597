/-! ===== TextParts$PartReader: faults, units ===== -/
theorem bit_t {P : Prop} [Decidable P] (c : ¬ (if P then (1 : Int32) else 0) = 0) : P := Classical.byContradiction (fun z => by rw [if_neg z] at c; exact c rfl)
theorem bit_f {P : Prop} [Decidable P] (c : (if P then (1 : Int32) else 0) = 0) : ¬ P := fun z => by rw [if_pos z] at c; exact absurd c (by decide)
theorem nb01 {k : Nat} (h : k ≤ 1) : narrow .boolean (.int (nI k)) = .int (nI k) := by
  rcases (show k = 0 ∨ k = 1 by omega) with rfl | rfl <;> rfl
theorem fb01 {k : Nat} (h : k ≤ 1) : fits .boolean (.int (nI k)) = true := by
  rcases (show k = 0 ∨ k = 1 by omega) with rfl | rfl <;> rfl
theorem dS_fuel {sv : Nat → Nat} {el : Nat} : ∀ (m m' a : Nat), el - a ≤ m → el - a ≤ m' → dS sv el m a = dS sv el m' a
  | 0, 0, _, _, _ => rfl
  | 0, m' + 1, a, h, _ => by
    unfold dS; rw [if_neg (show ¬ a < el by omega)]
  | m + 1, 0, a, _, h => by
    unfold dS; rw [if_neg (show ¬ a < el by omega)]
  | m + 1, m' + 1, a, h, h' => by
    unfold dS
    by_cases q : a < el
    · rw [if_pos q, if_pos q, dS_fuel m m' (a + 2) (by omega) (by omega), dS_fuel m m' (a + 1) (by omega) (by omega)]
    · rw [if_neg q, if_neg q]
theorem dS_step {sv : Nat → Nat} {el a : Nat} (h : a < el) : dS sv el (el - a) a = if sv a = 27 then (if a + 1 < el then escV (sv (a + 1)) else 32) :: dS sv el (el - (a + 2)) (a + 2) else plainV (sv a) :: dS sv el (el - (a + 1)) (a + 1) := by
  rw [show el - a = (el - a - 1) + 1 by omega, dS_fuel (el - (a + 2)) (el - a - 1) (a + 2) (by omega) (by omega), dS_fuel (el - (a + 1)) (el - a - 1) (a + 1) (by omega) (by omega)]
  show (if a < el then _ else _) = _
  rw [if_pos h]
theorem dS_end {sv : Nat → Nat} {el a : Nat} (h : el ≤ a) : dS sv el (el - a) a = [] := by
  rw [show el - a = 0 by omega]; rfl
theorem dP_fuel {g : Nat → Nat} {el : Nat} : ∀ (m m' a : Nat), el - a ≤ m → el - a ≤ m' → dP g el m a = dP g el m' a
  | 0, 0, _, _, _ => rfl
  | 0, m' + 1, a, h, _ => by
    unfold dP; rw [if_neg (show ¬ a + 1 < el by omega)]
  | m + 1, 0, a, _, h => by
    unfold dP; rw [if_neg (show ¬ a + 1 < el by omega)]
  | m + 1, m' + 1, a, h, h' => by
    unfold dP
    by_cases q : a + 1 < el
    · rw [if_pos q, if_pos q, dP_fuel m m' (a + 2) (by omega) (by omega)]
    · rw [if_neg q, if_neg q]
theorem dP_step {g : Nat → Nat} {el a : Nat} (h : a + 1 < el) : dP g el (el - a) a = (g (2 + a + 1) + 256 * g (2 + a)) :: dP g el (el - (a + 2)) (a + 2) := by
  rw [show el - a = (el - a - 1) + 1 by omega, dP_fuel (el - (a + 2)) (el - a - 1) (a + 2) (by omega) (by omega)]
  show (if a + 1 < el then _ else _) = _
  rw [if_pos h]
theorem dP_end {g : Nat → Nat} {el a : Nat} (h : el ≤ a + 1) : dP g el (el - a) a = [] := by
  rcases (show el - a = 0 ∨ el - a = 1 by omega) with e | e
  · rw [e]; rfl
  · rw [e]; show (if a + 1 < el then _ else _) = _; rw [if_neg (by omega)]
theorem svn_lt (g : Nat → Nat) (z k : Nat) : svn g z k < 128 := Nat.mod_lt _ (by omega)
theorem gU_list {L : List Nat} {u : Nat → Nat} {c x : Nat} (h : ∀ j, j < c → u j = L.getD j 0) (hx : L.getD c 0 = x) : ∀ j, j < c + 1 → gU u c x j = L.getD j 0 := by
  intro j hj
  by_cases e : j = c
  · rw [e, gU_s, hx]
  · rw [gU_n e]; exact h j (by omega)

set_option maxHeartbeats 4000000 in
set_option maxRecDepth 100000 in
theorem c_Rd_hasStrayBits (l : Launch) (G : ah_G) (h : ah_H) (rd ru hd rfr ps nm bp el : Nat) (uf : Nat → Nat) (fd : h rd = some (10, .inr (3, [.int (nI hd), .int (nI rfr), .int (nI ps), .int (nI nm), .int (nI bp), .int (nI el), .ref ru]))) (fu : h ru = some (11, .inl (G.2.2.1 0, 160, .inl (nA uf)))) (hhd : hd ≤ 1) (hbp : bp ≤ 1) (hhl : el < 256) (r b tr tb n z : Nat) (g : Nat → Nat) (fr : h r = some (tr, .inr (5, [.ref b, .int (nI z)]))) (fb : h b = some (tb, .inl (G.2.2.1 0, n, .inl (nA g)))) (hne : tr ≠ tb) (hz : z ≤ n) (hn : n < 1000) (hg : ∀ j, g j < 256) (h10 : tr ≠ 10) (h11 : tr ≠ 11) (b10 : tb ≠ 10) (b11 : tb ≠ 11) : Met l yX4_hasStrayBits wsX4_hasStrayBits ({ frames := 3, cells := 0, slots := 0, locals := 63 }) (ah_Pc G [.ref rd, .ref r] h) (ah_Qi G (fun v h' => v = nI (if strayB g z hd el = true then 1 else 0) ∧ h' = h)) 0 0 (ah_A G) := by
  refine ah_ofW (cc := cX4_hasStrayBits) (maxL := 4) (ret := (some .boolean)) (by decide) rfl (Nat.le_of_ble_eq_true rfl) ?_
  intro p e s m below meth cd9 ls hx hb hr hml hown hlocks hname hts hE hR hS hl
  have hown : s.vm.findClass RX4 = some m.cls := hown
  have hl : lv_has ls 4 [(0, .ref rd), (1, .ref r)] := hl
  have k25 := hts (.fieldLink RX4 25 "TextParts$PartReader" "headed" "Z") (by decide +kernel)
  have hinX4 : ∀ w ∈ wsX40, w ∈ wsX4_hasStrayBits := by decide +kernel
  have k32 := hts (.fieldLink RX4 32 "TextParts$PartReader" "held" "I") (by decide +kernel)
  have winitialized_RX8 := hts (.initialized RX8) (by decide +kernel)
  have wstatic_yX8_bytesForSevens := hts (.static yX8_bytesForSevens) (by decide +kernel)
  refine lv_aload_n hx hb dX4_hasStrayBits_0 rfl (lv_at hl 0 rfl) ?_
  refine ah_get (ci := 3) (v := .int (nI hd)) (C := RX4) (T := TX4) (N := 7) hx hb hE hR hts hinX4 hown fd rfl 0 (by decide) k25 (fun _ h9 => h9) rfl dX4_hasStrayBits_1 ?_
  refine lv_if_eq (tgt := 18) hx hb dX4_hasStrayBits_4 (by decide) (fun c_1 => ?_) (fun c_1 => ?_)
  · skip
    have c_1 : hd = 0 := (zi_eq (by omega)).mp c_1
    have hf0 : (decide (hd ≠ 0) && bitS g z 48) = false := by rw [decide_eq_false (by omega)]; rfl
    refine lv_bipush (v := nI 8) hx hb dX4_hasStrayBits_18 (by decide) ?_
    refine lv_aload_n hx hb dX4_hasStrayBits_20 rfl (lv_at hl 0 rfl) ?_
    refine ah_get (ci := 3) (v := .int (nI el)) (C := RX4) (T := TX4) (N := 7) hx hb hE hR hts hinX4 hown fd rfl 5 (by decide) k32 (fun _ h9 => h9) rfl dX4_hasStrayBits_21 ?_
    refine ah_calli (va_runSN (As := [.int (nI el)]) (rest := [.int (nI 8)]) ⟨hx, hb, hml, hown, hts⟩ (c_bytesForSevens l G h el (by omega)) ⟨va_cnB 1 hts gX4_hasStrayBits_X8_bytesForSevens_n59 rfl rfl rfl hE.2.2.2.1.2.2.2.2.2.1 winitialized_RX8 (by decide +kernel) ⟨Nat.le_of_ble_eq_true rfl, Nat.le_of_ble_eq_true rfl⟩, wstatic_yX8_bytesForSevens, trivial⟩ (ah_preS hE hR hS) rfl rfl hl.1 rfl (lv_room (Nat.le_of_ble_eq_true rfl)) dX4_hasStrayBits_24 ⟨Nat.le_of_ble_eq_true rfl, Nat.le_of_ble_eq_true rfl⟩) hS (fun r_4 h_2 H locs p_3 hR hS => ?_)
    obtain ⟨e_5, e_6⟩ := p_3
    rw [e_6] at hR
    refine ah_toi e_5 ?_
    have hbf : bfs el < 1000 ∧ 7 * el ≤ 8 * bfs el := by unfold bfs; omega
    refine lv_imul hx hb dX4_hasStrayBits_27 ?_
    refine ah_toi (v := nI (8 * (bfs el))) (pk_mul _ _) ?_
    refine lv_istore_n (lv' := [(2, .int (nI (8 * (bfs el)))), (0, .ref rd), (1, .ref r)]) hx hb dX4_hasStrayBits_28 rfl hl (by decide) rfl (fun ls hl => ?_)
    refine lv_bipush (v := nI 7) hx hb dX4_hasStrayBits_29 (by decide) ?_
    refine lv_aload_n hx hb dX4_hasStrayBits_31 rfl (lv_at hl 1 rfl) ?_
    refine ah_get (ci := 3) (v := .int (nI el)) (C := RX4) (T := TX4) (N := 7) hx hb hE hR hts hinX4 hown fd rfl 5 (by decide) k32 (fun _ h9 => h9) rfl dX4_hasStrayBits_32 ?_
    refine lv_imul hx hb dX4_hasStrayBits_35 ?_
    refine ah_toi (v := nI (7 * el)) (pk_mul _ _) ?_
    refine lv_istore_n (lv' := [(3, .int (nI (7 * el))), (2, .int (nI (8 * (bfs el)))), (0, .ref rd), (1, .ref r)]) hx hb dX4_hasStrayBits_36 rfl hl (by decide) rfl (fun ls hl => ?_)
    have L37 : ∀ (N37 : Nat) (b9 : Nat) (H : Heap) (locs : List Loc) (ls : Array Slot), 8 * bfs el - b9 < N37 → (7 * el ≤ b9) → (b9 ≤ 8 * bfs el) → (anyB g z (8 * bfs el - b9) b9 = anyB g z (8 * bfs el - 7 * el) (7 * el)) → (h rd = some (10, .inr (3, [.int (nI hd), .int (nI rfr), .int (nI ps), .int (nI nm), .int (nI bp), .int (nI el), .ref ru]))) → (h ru = some (11, .inl (G.2.2.1 0, 160, .inl (nA uf)))) → (h r = some (tr, .inr (5, [.ref b, .int (nI z)]))) → (h b = some (tb, .inl (G.2.2.1 0, n, .inl (nA g)))) → ah_R G h H → va_S (ah_A G) s.heap H locs → lv_has ls 4 [(3, .int (nI b9)), (2, .int (nI (8 * bfs el))), (0, .ref rd), (1, .ref r)] → W p l e ({ frames := 3, cells := 0, slots := 0, locals := 63 }) s m ([.ref rd, .ref r] : List Value).toArray below meth cd9 H locs 0 0 (MQ below (ah_Qi G (fun v h' => v = nI (if strayB g z hd el = true then 1 else 0) ∧ h' = h)) ([.ref rd, .ref r] : List Value).toArray s 0 0 (ah_A G)) (F0 m 37 ls []) := by
      intro N37
      induction N37 with
      | zero => intro b9  H locs ls hN; exact absurd hN (Nat.not_lt_zero _)
      | succ N37 ih37 =>
        intro b9  H locs ls hN37 hb1 hb2 ea fd fu fr fb hR hS hl
        refine lv_iload_n hx hb dX4_hasStrayBits_37 rfl (lv_at hl 0 rfl) ?_
        refine lv_iload_n hx hb dX4_hasStrayBits_38 rfl (lv_at hl 1 rfl) ?_
        refine lv_icmp_ge (tgt := 58) hx hb dX4_hasStrayBits_39 (by decide) (fun c_7 => ?_) (fun c_7 => ?_)
        · skip
          have c_7 : (8 * bfs el) ≤ b9 := (nI_leI (by omega) (by omega)).mp c_7
          refine lv_iconst (v := nI 0) hx hb dX4_hasStrayBits_58 (by decide) ?_
          refine ah_zret (v := nI 0) hx hb hr hlocks hR hS dX4_hasStrayBits_59 (by decide) ?_
          exact ⟨by rw [if_neg (by unfold strayB; rw [hf0, ← ea, show 8 * bfs el - b9 = 0 by omega]; show ¬ (false || false) = true; decide)], rfl⟩
        · skip
          have c_7 : ¬ ((8 * bfs el) ≤ b9) := fun z9 => c_7 ((nI_leI (by omega) (by omega)).mpr z9)
          refine lv_aload_n hx hb dX4_hasStrayBits_42 rfl (lv_at hl 3 rfl) ?_
          refine lv_iload_n hx hb dX4_hasStrayBits_43 rfl (lv_at hl 0 rfl) ?_
          refine ah_calli (va_runV (As := [.int (nI b9)]) (rest := []) ⟨hx, hb, hml, hown, hts⟩ (c_Row_isBitSet l G h r b tr tb n z g fr fb hne hz (by omega) hg b9 (by omega)) (cwV 1 hts gX4_hasStrayBits_X6_isBitSet rfl rfl rfl (by decide +kernel) ⟨Nat.le_of_ble_eq_true rfl, Nat.le_of_ble_eq_true rfl⟩) (ah_preV hE hR hS fr rfl) rfl rfl hl.1 rfl (lv_room (Nat.le_of_ble_eq_true rfl)) dX4_hasStrayBits_44 ⟨Nat.le_of_ble_eq_true rfl, Nat.le_of_ble_eq_true rfl⟩) hS (fun r_10 h_8 H locs p_9 hR hS => ?_)
          obtain ⟨e_11, e_12⟩ := p_9
          rw [e_12] at hR
          refine ah_toi e_11 ?_
          refine lv_if_eq (tgt := 52) hx hb dX4_hasStrayBits_47 (by decide) (fun c_13 => ?_) (fun c_13 => ?_)
          · skip
            refine lv_iinc (v := nI (b9 + 1)) (lv' := [(3, .int (nI (b9 + 1))), (2, .int (nI (8 * bfs el))), (0, .ref rd), (1, .ref r)]) hx hb dX4_hasStrayBits_52 hl (k := 0) rfl (show nI b9 + Int32.ofInt 1 = nI (b9 + 1) from nI_add _ 1) (by decide) rfl (fun ls hl => ?_)
            refine lv_goto (tgt := 37) hx hb dX4_hasStrayBits_55 (by decide) ?_
            exact ih37  (b9 + 1) _ _ ls (by omega) (by omega) (by omega) (by rw [← ea, show 8 * bfs el - b9 = 8 * bfs el - (b9 + 1) + 1 by omega]; show _ = (bitS g z b9 || anyB g z (8 * bfs el - (b9 + 1)) (b9 + 1)); unfold bitS; rw [decide_eq_false (bit_f c_13), Bool.false_or]) fd fu fr fb hR hS (lv_sub hl [0, 1, 2, 3] rfl)
          · skip
            have ht1 : anyB g z (8 * bfs el - 7 * el) (7 * el) = true := by rw [← ea, show 8 * bfs el - b9 = 8 * bfs el - (b9 + 1) + 1 by omega]; show (bitS g z b9 || _) = true; unfold bitS; rw [decide_eq_true (bit_t c_13), Bool.true_or]
            refine lv_iconst (v := nI 1) hx hb dX4_hasStrayBits_50 (by decide) ?_
            refine ah_zret (v := nI 1) hx hb hr hlocks hR hS dX4_hasStrayBits_51 (by decide) ?_
            exact ⟨by rw [if_pos (by unfold strayB; rw [ht1, Bool.or_true])], rfl⟩
    exact L37 ((8 * bfs el - (7 * el)) + 1) (7 * el) _ _ ls (by omega) (by omega) (by omega) rfl fd fu fr fb hR hS (lv_sub hl [0, 1, 2, 3] rfl)
  · skip
    have c_1 : ¬ (hd = 0) := fun z9 => c_1 ((zi_eq (by omega)).mpr z9)
    refine lv_aload_n hx hb dX4_hasStrayBits_7 rfl (lv_at hl 1 rfl) ?_
    refine lv_bipush (v := nI 48) hx hb dX4_hasStrayBits_8 (by decide) ?_
    refine ah_calli (va_runV (As := [.int (nI 48)]) (rest := []) ⟨hx, hb, hml, hown, hts⟩ (c_Row_isBitSet l G h r b tr tb n z g fr fb hne hz (by omega) hg 48 (by omega)) (cwV 1 hts gX4_hasStrayBits_X6_isBitSet rfl rfl rfl (by decide +kernel) ⟨Nat.le_of_ble_eq_true rfl, Nat.le_of_ble_eq_true rfl⟩) (ah_preV hE hR hS fr rfl) rfl rfl hl.1 rfl (lv_room (Nat.le_of_ble_eq_true rfl)) dX4_hasStrayBits_10 ⟨Nat.le_of_ble_eq_true rfl, Nat.le_of_ble_eq_true rfl⟩) hS (fun r_16 h_14 H locs p_15 hR hS => ?_)
    obtain ⟨e_17, e_18⟩ := p_15
    rw [e_18] at hR
    refine ah_toi e_17 ?_
    refine lv_if_eq (tgt := 18) hx hb dX4_hasStrayBits_13 (by decide) (fun c_19 => ?_) (fun c_19 => ?_)
    · skip
      have hf0 : (decide (hd ≠ 0) && bitS g z 48) = false := by unfold bitS; rw [decide_eq_false (bit_f c_19), Bool.and_false]
      refine lv_bipush (v := nI 8) hx hb dX4_hasStrayBits_18 (by decide) ?_
      refine lv_aload_n hx hb dX4_hasStrayBits_20 rfl (lv_at hl 0 rfl) ?_
      refine ah_get (ci := 3) (v := .int (nI el)) (C := RX4) (T := TX4) (N := 7) hx hb hE hR hts hinX4 hown fd rfl 5 (by decide) k32 (fun _ h9 => h9) rfl dX4_hasStrayBits_21 ?_
      refine ah_calli (va_runSN (As := [.int (nI el)]) (rest := [.int (nI 8)]) ⟨hx, hb, hml, hown, hts⟩ (c_bytesForSevens l G h el (by omega)) ⟨va_cnB 1 hts gX4_hasStrayBits_X8_bytesForSevens_n59 rfl rfl rfl hE.2.2.2.1.2.2.2.2.2.1 winitialized_RX8 (by decide +kernel) ⟨Nat.le_of_ble_eq_true rfl, Nat.le_of_ble_eq_true rfl⟩, wstatic_yX8_bytesForSevens, trivial⟩ (ah_preS hE hR hS) rfl rfl hl.1 rfl (lv_room (Nat.le_of_ble_eq_true rfl)) dX4_hasStrayBits_24 ⟨Nat.le_of_ble_eq_true rfl, Nat.le_of_ble_eq_true rfl⟩) hS (fun r_22 h_20 H locs p_21 hR hS => ?_)
      obtain ⟨e_23, e_24⟩ := p_21
      rw [e_24] at hR
      refine ah_toi e_23 ?_
      have hbf : bfs el < 1000 ∧ 7 * el ≤ 8 * bfs el := by unfold bfs; omega
      refine lv_imul hx hb dX4_hasStrayBits_27 ?_
      refine ah_toi (v := nI (8 * (bfs el))) (pk_mul _ _) ?_
      refine lv_istore_n (lv' := [(2, .int (nI (8 * (bfs el)))), (0, .ref rd), (1, .ref r)]) hx hb dX4_hasStrayBits_28 rfl hl (by decide) rfl (fun ls hl => ?_)
      refine lv_bipush (v := nI 7) hx hb dX4_hasStrayBits_29 (by decide) ?_
      refine lv_aload_n hx hb dX4_hasStrayBits_31 rfl (lv_at hl 1 rfl) ?_
      refine ah_get (ci := 3) (v := .int (nI el)) (C := RX4) (T := TX4) (N := 7) hx hb hE hR hts hinX4 hown fd rfl 5 (by decide) k32 (fun _ h9 => h9) rfl dX4_hasStrayBits_32 ?_
      refine lv_imul hx hb dX4_hasStrayBits_35 ?_
      refine ah_toi (v := nI (7 * el)) (pk_mul _ _) ?_
      refine lv_istore_n (lv' := [(3, .int (nI (7 * el))), (2, .int (nI (8 * (bfs el)))), (0, .ref rd), (1, .ref r)]) hx hb dX4_hasStrayBits_36 rfl hl (by decide) rfl (fun ls hl => ?_)
      have L37 : ∀ (N37 : Nat) (b9 : Nat) (H : Heap) (locs : List Loc) (ls : Array Slot), 8 * bfs el - b9 < N37 → (7 * el ≤ b9) → (b9 ≤ 8 * bfs el) → (anyB g z (8 * bfs el - b9) b9 = anyB g z (8 * bfs el - 7 * el) (7 * el)) → (h rd = some (10, .inr (3, [.int (nI hd), .int (nI rfr), .int (nI ps), .int (nI nm), .int (nI bp), .int (nI el), .ref ru]))) → (h ru = some (11, .inl (G.2.2.1 0, 160, .inl (nA uf)))) → (h r = some (tr, .inr (5, [.ref b, .int (nI z)]))) → (h b = some (tb, .inl (G.2.2.1 0, n, .inl (nA g)))) → ah_R G h H → va_S (ah_A G) s.heap H locs → lv_has ls 4 [(3, .int (nI b9)), (2, .int (nI (8 * bfs el))), (0, .ref rd), (1, .ref r)] → W p l e ({ frames := 3, cells := 0, slots := 0, locals := 63 }) s m ([.ref rd, .ref r] : List Value).toArray below meth cd9 H locs 0 0 (MQ below (ah_Qi G (fun v h' => v = nI (if strayB g z hd el = true then 1 else 0) ∧ h' = h)) ([.ref rd, .ref r] : List Value).toArray s 0 0 (ah_A G)) (F0 m 37 ls []) := by
        intro N37
        induction N37 with
        | zero => intro b9  H locs ls hN; exact absurd hN (Nat.not_lt_zero _)
        | succ N37 ih37 =>
          intro b9  H locs ls hN37 hb1 hb2 ea fd fu fr fb hR hS hl
          refine lv_iload_n hx hb dX4_hasStrayBits_37 rfl (lv_at hl 0 rfl) ?_
          refine lv_iload_n hx hb dX4_hasStrayBits_38 rfl (lv_at hl 1 rfl) ?_
          refine lv_icmp_ge (tgt := 58) hx hb dX4_hasStrayBits_39 (by decide) (fun c_25 => ?_) (fun c_25 => ?_)
          · skip
            have c_25 : (8 * bfs el) ≤ b9 := (nI_leI (by omega) (by omega)).mp c_25
            refine lv_iconst (v := nI 0) hx hb dX4_hasStrayBits_58 (by decide) ?_
            refine ah_zret (v := nI 0) hx hb hr hlocks hR hS dX4_hasStrayBits_59 (by decide) ?_
            exact ⟨by rw [if_neg (by unfold strayB; rw [hf0, ← ea, show 8 * bfs el - b9 = 0 by omega]; show ¬ (false || false) = true; decide)], rfl⟩
          · skip
            have c_25 : ¬ ((8 * bfs el) ≤ b9) := fun z9 => c_25 ((nI_leI (by omega) (by omega)).mpr z9)
            refine lv_aload_n hx hb dX4_hasStrayBits_42 rfl (lv_at hl 3 rfl) ?_
            refine lv_iload_n hx hb dX4_hasStrayBits_43 rfl (lv_at hl 0 rfl) ?_
            refine ah_calli (va_runV (As := [.int (nI b9)]) (rest := []) ⟨hx, hb, hml, hown, hts⟩ (c_Row_isBitSet l G h r b tr tb n z g fr fb hne hz (by omega) hg b9 (by omega)) (cwV 1 hts gX4_hasStrayBits_X6_isBitSet rfl rfl rfl (by decide +kernel) ⟨Nat.le_of_ble_eq_true rfl, Nat.le_of_ble_eq_true rfl⟩) (ah_preV hE hR hS fr rfl) rfl rfl hl.1 rfl (lv_room (Nat.le_of_ble_eq_true rfl)) dX4_hasStrayBits_44 ⟨Nat.le_of_ble_eq_true rfl, Nat.le_of_ble_eq_true rfl⟩) hS (fun r_28 h_26 H locs p_27 hR hS => ?_)
            obtain ⟨e_29, e_30⟩ := p_27
            rw [e_30] at hR
            refine ah_toi e_29 ?_
            refine lv_if_eq (tgt := 52) hx hb dX4_hasStrayBits_47 (by decide) (fun c_31 => ?_) (fun c_31 => ?_)
            · skip
              refine lv_iinc (v := nI (b9 + 1)) (lv' := [(3, .int (nI (b9 + 1))), (2, .int (nI (8 * bfs el))), (0, .ref rd), (1, .ref r)]) hx hb dX4_hasStrayBits_52 hl (k := 0) rfl (show nI b9 + Int32.ofInt 1 = nI (b9 + 1) from nI_add _ 1) (by decide) rfl (fun ls hl => ?_)
              refine lv_goto (tgt := 37) hx hb dX4_hasStrayBits_55 (by decide) ?_
              exact ih37  (b9 + 1) _ _ ls (by omega) (by omega) (by omega) (by rw [← ea, show 8 * bfs el - b9 = 8 * bfs el - (b9 + 1) + 1 by omega]; show _ = (bitS g z b9 || anyB g z (8 * bfs el - (b9 + 1)) (b9 + 1)); unfold bitS; rw [decide_eq_false (bit_f c_31), Bool.false_or]) fd fu fr fb hR hS (lv_sub hl [0, 1, 2, 3] rfl)
            · skip
              have ht1 : anyB g z (8 * bfs el - 7 * el) (7 * el) = true := by rw [← ea, show 8 * bfs el - b9 = 8 * bfs el - (b9 + 1) + 1 by omega]; show (bitS g z b9 || _) = true; unfold bitS; rw [decide_eq_true (bit_t c_31), Bool.true_or]
              refine lv_iconst (v := nI 1) hx hb dX4_hasStrayBits_50 (by decide) ?_
              refine ah_zret (v := nI 1) hx hb hr hlocks hR hS dX4_hasStrayBits_51 (by decide) ?_
              exact ⟨by rw [if_pos (by unfold strayB; rw [ht1, Bool.or_true])], rfl⟩
      exact L37 ((8 * bfs el - (7 * el)) + 1) (7 * el) _ _ ls (by omega) (by omega) (by omega) rfl fd fu fr fb hR hS (lv_sub hl [0, 1, 2, 3] rfl)
    · skip
      have ht0 : (decide (hd ≠ 0) && bitS g z 48) = true := by unfold bitS; rw [decide_eq_true (show hd ≠ 0 from c_1), decide_eq_true (bit_t c_19)]; rfl
      refine lv_iconst (v := nI 1) hx hb dX4_hasStrayBits_16 (by decide) ?_
      refine ah_zret (v := nI 1) hx hb hr hlocks hR hS dX4_hasStrayBits_17 (by decide) ?_
      exact ⟨by rw [if_pos (by unfold strayB; rw [ht0]; rfl)], rfl⟩

set_option maxHeartbeats 4000000 in
set_option maxRecDepth 100000 in
theorem c_Rd_collectPairs (l : Launch) (G : ah_G) (h : ah_H) (rd ru hd rfr ps nm bp el : Nat) (uf : Nat → Nat) (fd : h rd = some (10, .inr (3, [.int (nI hd), .int (nI rfr), .int (nI ps), .int (nI nm), .int (nI bp), .int (nI el), .ref ru]))) (fu : h ru = some (11, .inl (G.2.2.1 0, 160, .inl (nA uf)))) (hhd : hd ≤ 1) (hbp : bp ≤ 1) (hhl : el < 256) (r b tr tb n z : Nat) (g : Nat → Nat) (fr : h r = some (tr, .inr (5, [.ref b, .int (nI z)]))) (fb : h b = some (tb, .inl (G.2.2.1 0, n, .inl (nA g)))) (hne : tr ≠ tb) (hz : z ≤ n) (hn : n < 1000) (hg : ∀ j, g j < 256) (h10 : tr ≠ 10) (h11 : tr ≠ 11) (b10 : tb ≠ 10) (b11 : tb ≠ 11) (hz9 : z = 2 + el) (hel : el ≤ 160) : Met l yX4_collectPairs wsX4_collectPairs ({ frames := 1, cells := 0, slots := 0, locals := 21 }) (ah_Pc G [.ref rd, .ref r] h) (ah_Qi G (fun v h' => v = nI (dP g el (el - 6 * hd) (6 * hd)).length ∧ ∃ uf', (∀ j, j < (dP g el (el - 6 * hd) (6 * hd)).length → uf' j = (dP g el (el - 6 * hd) (6 * hd)).getD j 0) ∧ h' = ah_up h ru (11, .inl (G.2.2.1 0, 160, .inl (nA uf'))))) 0 0 (ah_A G) := by
  refine ah_ofW (cc := cX4_collectPairs) (maxL := 4) (ret := (some .int)) (by decide) rfl (Nat.le_of_ble_eq_true rfl) ?_
  intro p e s m below meth cd9 ls hx hb hr hml hown hlocks hname hts hE hR hS hl
  have hown : s.vm.findClass RX4 = some m.cls := hown
  have hl : lv_has ls 4 [(0, .ref rd), (1, .ref r)] := hl
  have k25 := hts (.fieldLink RX4 25 "TextParts$PartReader" "headed" "Z") (by decide +kernel)
  have hinX4 : ∀ w ∈ wsX40, w ∈ wsX4_collectPairs := by decide +kernel
  have k32 := hts (.fieldLink RX4 32 "TextParts$PartReader" "held" "I") (by decide +kernel)
  have k9 := hts (.fieldLink RX4 9 "TextParts$PartReader" "units" "[I") (by decide +kernel)
  obtain ⟨L, eL⟩ : ∃ L9, L9 = dP g el (el - 6 * hd) (6 * hd) := ⟨_, rfl⟩
  have hLl : L.length ≤ el := by rw [eL]; have := dP_len (g := g) (el := el) (el - 6 * hd) (6 * hd); omega
  refine lv_iconst (v := nI 0) hx hb dX4_collectPairs_0 (by decide) ?_
  refine lv_istore_n (lv' := [(2, .int (nI 0)), (0, .ref rd), (1, .ref r)]) hx hb dX4_collectPairs_1 rfl hl (by decide) rfl (fun ls hl => ?_)
  refine lv_aload_n hx hb dX4_collectPairs_2 rfl (lv_at hl 1 rfl) ?_
  refine ah_get (ci := 3) (v := .int (nI hd)) (C := RX4) (T := TX4) (N := 7) hx hb hE hR hts hinX4 hown fd rfl 0 (by decide) k25 (fun _ h9 => h9) rfl dX4_collectPairs_3 ?_
  refine lv_if_eq (tgt := 14) hx hb dX4_collectPairs_6 (by decide) (fun c_1 => ?_) (fun c_1 => ?_)
  · skip
    have c_1 : hd = 0 := (zi_eq (by omega)).mp c_1
    refine lv_iconst (v := nI 0) hx hb dX4_collectPairs_14 (by decide) ?_
    refine ah_toi (v := nI (6 * hd)) (by rw [show 6 * hd = 0 by omega]) ?_
    refine lv_istore_n (lv' := [(3, .int (nI (6 * hd))), (2, .int (nI 0)), (0, .ref rd), (1, .ref r)]) hx hb dX4_collectPairs_15 rfl hl (by decide) rfl (fun ls hl => ?_)
    have L16 : ∀ (N16 : Nat) (c9 : Nat) (a9 : Nat) (u1 : Nat → Nat) (h1 : ah_H) (H : Heap) (locs : List Loc) (ls : Array Slot), el - a9 < N16 → (2 * c9 ≤ a9) → (a9 ≤ 200) → (c9 ≤ L.length) → (L.drop c9 = dP g el (el - a9) a9) → (∀ j, j < c9 → u1 j = L.getD j 0) → (h1 = ah_up h ru (11, .inl (G.2.2.1 0, 160, .inl (nA u1)))) → (h1 rd = some (10, .inr (3, [.int (nI hd), .int (nI rfr), .int (nI ps), .int (nI nm), .int (nI bp), .int (nI el), .ref ru]))) → (h1 ru = some (11, .inl (G.2.2.1 0, 160, .inl (nA u1)))) → (h1 r = some (tr, .inr (5, [.ref b, .int (nI z)]))) → (h1 b = some (tb, .inl (G.2.2.1 0, n, .inl (nA g)))) → ah_R G h1 H → va_S (ah_A G) s.heap H locs → lv_has ls 4 [(3, .int (nI a9)), (2, .int (nI c9)), (0, .ref rd), (1, .ref r)] → W p l e ({ frames := 1, cells := 0, slots := 0, locals := 21 }) s m ([.ref rd, .ref r] : List Value).toArray below meth cd9 H locs 0 0 (MQ below (ah_Qi G (fun v h' => v = nI (dP g el (el - 6 * hd) (6 * hd)).length ∧ ∃ uf', (∀ j, j < (dP g el (el - 6 * hd) (6 * hd)).length → uf' j = (dP g el (el - 6 * hd) (6 * hd)).getD j 0) ∧ h' = ah_up h ru (11, .inl (G.2.2.1 0, 160, .inl (nA uf'))))) ([.ref rd, .ref r] : List Value).toArray s 0 0 (ah_A G)) (F0 m 16 ls []) := by
      intro N16
      induction N16 with
      | zero => intro c9 a9 u1 h1 H locs ls hN; exact absurd hN (Nat.not_lt_zero _)
      | succ N16 ih16 =>
        intro c9 a9 u1 h1 H locs ls hN16 hc ha9 hcl hd9 hu eh1 fd1 fu1 fr1 fb1 hR hS hl
        refine lv_iload_n hx hb dX4_collectPairs_16 rfl (lv_at hl 0 rfl) ?_
        refine lv_iconst (v := nI 1) hx hb dX4_collectPairs_17 (by decide) ?_
        refine lv_iadd hx hb dX4_collectPairs_18 ?_
        refine ah_toi (v := nI (a9 + 1)) (nI_add _ _) ?_
        refine lv_aload_n hx hb dX4_collectPairs_19 rfl (lv_at hl 2 rfl) ?_
        refine ah_get (ci := 3) (v := .int (nI el)) (C := RX4) (T := TX4) (N := 7) hx hb hE hR hts hinX4 hown fd1 rfl 5 (by decide) k32 (fun _ h9 => h9) rfl dX4_collectPairs_20 ?_
        refine lv_icmp_ge (tgt := 70) hx hb dX4_collectPairs_23 (by decide) (fun c_2 => ?_) (fun c_2 => ?_)
        · skip
          have c_2 : el ≤ (a9 + 1) := (nI_leI (by omega) (by omega)).mp c_2
          have hend : c9 = L.length := drop_nil (by rw [hd9, dP_end (by omega)]) hcl
          refine lv_iload_n hx hb dX4_collectPairs_70 rfl (lv_at hl 1 rfl) ?_
          refine ah_iret (v := nI c9) hx hb hr hlocks hR hS dX4_collectPairs_71 ?_
          rw [← eL]
          exact ⟨by rw [hend], u1, fun j hj => hu j (by omega), eh1⟩
        · skip
          have c_2 : ¬ (el ≤ (a9 + 1)) := fun z9 => c_2 ((nI_leI (by omega) (by omega)).mpr z9)
          have hdc := drop_cons (hd9.trans (dP_step (by omega)))
          refine lv_iload_n hx hb dX4_collectPairs_26 rfl (lv_at hl 1 rfl) ?_
          refine lv_aload_n hx hb dX4_collectPairs_27 rfl (lv_at hl 2 rfl) ?_
          refine ah_get (ci := 3) (v := .ref ru) (C := RX4) (T := TX4) (N := 7) hx hb hE hR hts hinX4 hown fd1 rfl 6 (by decide) k9 (fun _ h9 => h9) rfl dX4_collectPairs_28 ?_
          refine ah_alen hx hb hE hR fu1 (show (ah_tys G)[0]? = some _ from rfl) dX4_collectPairs_31 ?_
          refine lv_icmp_ge (tgt := 70) hx hb dX4_collectPairs_32 (by decide) (fun c_3 => ?_) (fun c_3 => ?_)
          · skip
            have c_3 : 160 ≤ c9 := (nI_leI (by omega) (by omega)).mp c_3
            exact absurd c_3 (by have := hdc.1; omega)
          · skip
            have c_3 : ¬ (160 ≤ c9) := fun z9 => c_3 ((nI_leI (by omega) (by omega)).mpr z9)
            refine lv_aload_n hx hb dX4_collectPairs_35 rfl (lv_at hl 2 rfl) ?_
            refine ah_get (ci := 3) (v := .ref ru) (C := RX4) (T := TX4) (N := 7) hx hb hE hR hts hinX4 hown fd1 rfl 6 (by decide) k9 (fun _ h9 => h9) rfl dX4_collectPairs_36 ?_
            refine lv_iload_n hx hb dX4_collectPairs_39 rfl (lv_at hl 1 rfl) ?_
            refine lv_aload_n hx hb dX4_collectPairs_40 rfl (lv_at hl 3 rfl) ?_
            refine lv_iconst (v := nI 2) hx hb dX4_collectPairs_41 (by decide) ?_
            refine lv_iload_n hx hb dX4_collectPairs_42 rfl (lv_at hl 0 rfl) ?_
            refine lv_iadd hx hb dX4_collectPairs_43 ?_
            refine ah_toi (v := nI (2 + a9)) (nI_add _ _) ?_
            refine ah_calli (va_runV (As := [.int (nI (2 + a9))]) (rest := [.int (nI c9), .ref ru]) ⟨hx, hb, hml, hown, hts⟩ (c_Row_byteAt l G h1 r b tr tb n z g fr1 fb1 hne hz (by omega) (nI (2 + a9))) (cwV 1 hts gX4_collectPairs_X6_byteAt rfl rfl rfl (by decide +kernel) ⟨Nat.le_of_ble_eq_true rfl, Nat.le_of_ble_eq_true rfl⟩) (ah_preV hE hR hS fr1 rfl) rfl rfl hl.1 rfl (lv_room (Nat.le_of_ble_eq_true rfl)) dX4_collectPairs_44 ⟨Nat.le_of_ble_eq_true rfl, Nat.le_of_ble_eq_true rfl⟩) hS (fun r_6 h_4 H locs p_5 hR hS => ?_)
            obtain ⟨e_7, e_8⟩ := p_5
            rw [e_8] at hR
            rw [rwA_in (show 2 + a9 < z by omega) (by omega)] at e_7
            refine ah_toi e_7 ?_
            have hgb_9 := hg (2 + a9)
            refine lv_bipush (v := nI 8) hx hb dX4_collectPairs_47 (by decide) ?_
            refine lv_ishl hx hb dX4_collectPairs_49 ?_
            refine ah_toi (v := nI (g (2 + a9) * 2 ^ 8)) (ny_shl (by omega) (by have := hg (2 + a9); omega)) ?_
            refine lv_aload_n hx hb dX4_collectPairs_50 rfl (lv_at hl 3 rfl) ?_
            refine lv_iconst (v := nI 2) hx hb dX4_collectPairs_51 (by decide) ?_
            refine lv_iload_n hx hb dX4_collectPairs_52 rfl (lv_at hl 0 rfl) ?_
            refine lv_iadd hx hb dX4_collectPairs_53 ?_
            refine ah_toi (v := nI (2 + a9)) (nI_add _ _) ?_
            refine lv_iconst (v := nI 1) hx hb dX4_collectPairs_54 (by decide) ?_
            refine lv_iadd hx hb dX4_collectPairs_55 ?_
            refine ah_toi (v := nI ((2 + a9) + 1)) (nI_add _ _) ?_
            refine ah_calli (va_runV (As := [.int (nI ((2 + a9) + 1))]) (rest := [.int (nI (g (2 + a9) * 2 ^ 8)), .int (nI c9), .ref ru]) ⟨hx, hb, hml, hown, hts⟩ (c_Row_byteAt l G h1 r b tr tb n z g fr1 fb1 hne hz (by omega) (nI ((2 + a9) + 1))) (cwV 1 hts gX4_collectPairs_X6_byteAt rfl rfl rfl (by decide +kernel) ⟨Nat.le_of_ble_eq_true rfl, Nat.le_of_ble_eq_true rfl⟩) (ah_preV hE hR hS fr1 rfl) rfl rfl hl.1 rfl (lv_room (Nat.le_of_ble_eq_true rfl)) dX4_collectPairs_56 ⟨Nat.le_of_ble_eq_true rfl, Nat.le_of_ble_eq_true rfl⟩) hS (fun r_12 h_10 H locs p_11 hR hS => ?_)
            obtain ⟨e_13, e_14⟩ := p_11
            rw [e_14] at hR
            rw [rwA_in (show (2 + a9) + 1 < z by omega) (by omega)] at e_13
            refine ah_toi e_13 ?_
            have hgb_15 := hg ((2 + a9) + 1)
            refine lv_ior hx hb dX4_collectPairs_59 ?_
            refine ah_toi (v := nI (g (2 + a9 + 1) + 256 * g (2 + a9))) (ny_or8' _ (hg _)) ?_
            refine ah_iast (i := c9) hx hb hE hR hS fu1 (by omega) (by omega) dX4_collectPairs_60 (fun H locs hR hS => ?_)
            rw [nA_upd] at hR
            obtain ⟨h_16, e_17⟩ : ∃ zz9, zz9 = ah_up h1 ru (11, .inl (G.2.2.1 0, 160, .inl (nA (gU u1 c9 (g (2 + a9 + 1) + 256 * g (2 + a9)))))) := ⟨_, rfl⟩
            have hR : ah_R G h_16 H := by rw [e_17]; exact hR
            have f_18 : h_16 rd = some (10, .inr (3, [.int (nI hd), .int (nI rfr), .int (nI ps), .int (nI nm), .int (nI bp), .int (nI el), .ref ru])) := by rw [e_17]; exact ah_keep fd1 fu1 (by omega)
            have f_19 : h_16 ru = some (11, .inl (G.2.2.1 0, 160, .inl (nA (gU u1 c9 (g (2 + a9 + 1) + 256 * g (2 + a9)))))) := by rw [e_17]; exact ah_up_s _ _ _
            have f_20 : h_16 r = some (tr, .inr (5, [.ref b, .int (nI z)])) := by rw [e_17]; exact ah_keep fr1 fu1 (by omega)
            have f_21 : h_16 b = some (tb, .inl (G.2.2.1 0, n, .inl (nA g))) := by rw [e_17]; exact ah_keep fb1 fu1 (by omega)
            refine lv_iinc (v := nI (c9 + 1)) (lv' := [(2, .int (nI (c9 + 1))), (3, .int (nI a9)), (0, .ref rd), (1, .ref r)]) hx hb dX4_collectPairs_61 hl (k := 1) rfl (show nI c9 + Int32.ofInt 1 = nI (c9 + 1) from nI_add _ 1) (by decide) rfl (fun ls hl => ?_)
            refine lv_iinc (v := nI (a9 + 2)) (lv' := [(3, .int (nI (a9 + 2))), (2, .int (nI (c9 + 1))), (0, .ref rd), (1, .ref r)]) hx hb dX4_collectPairs_64 hl (k := 1) rfl (show nI a9 + Int32.ofInt 2 = nI (a9 + 2) from nI_add _ 2) (by decide) rfl (fun ls hl => ?_)
            refine lv_goto (tgt := 16) hx hb dX4_collectPairs_67 (by decide) ?_
            exact ih16  (c9 + 1) (a9 + 2) (gU u1 c9 (g (2 + a9 + 1) + 256 * g (2 + a9))) h_16 _ _ ls (by omega) (by omega) (by omega) (by have := hdc.1; omega) hdc.2.2 (gU_list hu hdc.2.1) (by rw [e_17, eh1, ah_up2]) f_18 f_19 f_20 f_21 hR hS (lv_sub hl [0, 1, 2, 3] rfl)
    exact L16 ((el - (6 * hd)) + 1) 0 (6 * hd) uf h _ _ ls (by omega) (by omega) (by omega) (by omega) (by rw [eL]; rfl) (fun j hj => absurd hj (Nat.not_lt_zero j)) ((ah_up_id fu).symm) fd fu fr fb hR hS (lv_sub hl [0, 1, 2, 3] rfl)
  · skip
    have c_1 : ¬ (hd = 0) := fun z9 => c_1 ((zi_eq (by omega)).mpr z9)
    refine lv_bipush (v := nI 6) hx hb dX4_collectPairs_9 (by decide) ?_
    refine lv_goto (tgt := 15) hx hb dX4_collectPairs_11 (by decide) ?_
    refine ah_toi (v := nI (6 * hd)) (by rw [show 6 * hd = 6 by omega]) ?_
    refine lv_istore_n (lv' := [(3, .int (nI (6 * hd))), (2, .int (nI 0)), (0, .ref rd), (1, .ref r)]) hx hb dX4_collectPairs_15 rfl hl (by decide) rfl (fun ls hl => ?_)
    have L16 : ∀ (N16 : Nat) (c9 : Nat) (a9 : Nat) (u1 : Nat → Nat) (h1 : ah_H) (H : Heap) (locs : List Loc) (ls : Array Slot), el - a9 < N16 → (2 * c9 ≤ a9) → (a9 ≤ 200) → (c9 ≤ L.length) → (L.drop c9 = dP g el (el - a9) a9) → (∀ j, j < c9 → u1 j = L.getD j 0) → (h1 = ah_up h ru (11, .inl (G.2.2.1 0, 160, .inl (nA u1)))) → (h1 rd = some (10, .inr (3, [.int (nI hd), .int (nI rfr), .int (nI ps), .int (nI nm), .int (nI bp), .int (nI el), .ref ru]))) → (h1 ru = some (11, .inl (G.2.2.1 0, 160, .inl (nA u1)))) → (h1 r = some (tr, .inr (5, [.ref b, .int (nI z)]))) → (h1 b = some (tb, .inl (G.2.2.1 0, n, .inl (nA g)))) → ah_R G h1 H → va_S (ah_A G) s.heap H locs → lv_has ls 4 [(3, .int (nI a9)), (2, .int (nI c9)), (0, .ref rd), (1, .ref r)] → W p l e ({ frames := 1, cells := 0, slots := 0, locals := 21 }) s m ([.ref rd, .ref r] : List Value).toArray below meth cd9 H locs 0 0 (MQ below (ah_Qi G (fun v h' => v = nI (dP g el (el - 6 * hd) (6 * hd)).length ∧ ∃ uf', (∀ j, j < (dP g el (el - 6 * hd) (6 * hd)).length → uf' j = (dP g el (el - 6 * hd) (6 * hd)).getD j 0) ∧ h' = ah_up h ru (11, .inl (G.2.2.1 0, 160, .inl (nA uf'))))) ([.ref rd, .ref r] : List Value).toArray s 0 0 (ah_A G)) (F0 m 16 ls []) := by
      intro N16
      induction N16 with
      | zero => intro c9 a9 u1 h1 H locs ls hN; exact absurd hN (Nat.not_lt_zero _)
      | succ N16 ih16 =>
        intro c9 a9 u1 h1 H locs ls hN16 hc ha9 hcl hd9 hu eh1 fd1 fu1 fr1 fb1 hR hS hl
        refine lv_iload_n hx hb dX4_collectPairs_16 rfl (lv_at hl 0 rfl) ?_
        refine lv_iconst (v := nI 1) hx hb dX4_collectPairs_17 (by decide) ?_
        refine lv_iadd hx hb dX4_collectPairs_18 ?_
        refine ah_toi (v := nI (a9 + 1)) (nI_add _ _) ?_
        refine lv_aload_n hx hb dX4_collectPairs_19 rfl (lv_at hl 2 rfl) ?_
        refine ah_get (ci := 3) (v := .int (nI el)) (C := RX4) (T := TX4) (N := 7) hx hb hE hR hts hinX4 hown fd1 rfl 5 (by decide) k32 (fun _ h9 => h9) rfl dX4_collectPairs_20 ?_
        refine lv_icmp_ge (tgt := 70) hx hb dX4_collectPairs_23 (by decide) (fun c_22 => ?_) (fun c_22 => ?_)
        · skip
          have c_22 : el ≤ (a9 + 1) := (nI_leI (by omega) (by omega)).mp c_22
          have hend : c9 = L.length := drop_nil (by rw [hd9, dP_end (by omega)]) hcl
          refine lv_iload_n hx hb dX4_collectPairs_70 rfl (lv_at hl 1 rfl) ?_
          refine ah_iret (v := nI c9) hx hb hr hlocks hR hS dX4_collectPairs_71 ?_
          rw [← eL]
          exact ⟨by rw [hend], u1, fun j hj => hu j (by omega), eh1⟩
        · skip
          have c_22 : ¬ (el ≤ (a9 + 1)) := fun z9 => c_22 ((nI_leI (by omega) (by omega)).mpr z9)
          have hdc := drop_cons (hd9.trans (dP_step (by omega)))
          refine lv_iload_n hx hb dX4_collectPairs_26 rfl (lv_at hl 1 rfl) ?_
          refine lv_aload_n hx hb dX4_collectPairs_27 rfl (lv_at hl 2 rfl) ?_
          refine ah_get (ci := 3) (v := .ref ru) (C := RX4) (T := TX4) (N := 7) hx hb hE hR hts hinX4 hown fd1 rfl 6 (by decide) k9 (fun _ h9 => h9) rfl dX4_collectPairs_28 ?_
          refine ah_alen hx hb hE hR fu1 (show (ah_tys G)[0]? = some _ from rfl) dX4_collectPairs_31 ?_
          refine lv_icmp_ge (tgt := 70) hx hb dX4_collectPairs_32 (by decide) (fun c_23 => ?_) (fun c_23 => ?_)
          · skip
            have c_23 : 160 ≤ c9 := (nI_leI (by omega) (by omega)).mp c_23
            exact absurd c_23 (by have := hdc.1; omega)
          · skip
            have c_23 : ¬ (160 ≤ c9) := fun z9 => c_23 ((nI_leI (by omega) (by omega)).mpr z9)
            refine lv_aload_n hx hb dX4_collectPairs_35 rfl (lv_at hl 2 rfl) ?_
            refine ah_get (ci := 3) (v := .ref ru) (C := RX4) (T := TX4) (N := 7) hx hb hE hR hts hinX4 hown fd1 rfl 6 (by decide) k9 (fun _ h9 => h9) rfl dX4_collectPairs_36 ?_
            refine lv_iload_n hx hb dX4_collectPairs_39 rfl (lv_at hl 1 rfl) ?_
            refine lv_aload_n hx hb dX4_collectPairs_40 rfl (lv_at hl 3 rfl) ?_
            refine lv_iconst (v := nI 2) hx hb dX4_collectPairs_41 (by decide) ?_
            refine lv_iload_n hx hb dX4_collectPairs_42 rfl (lv_at hl 0 rfl) ?_
            refine lv_iadd hx hb dX4_collectPairs_43 ?_
            refine ah_toi (v := nI (2 + a9)) (nI_add _ _) ?_
            refine ah_calli (va_runV (As := [.int (nI (2 + a9))]) (rest := [.int (nI c9), .ref ru]) ⟨hx, hb, hml, hown, hts⟩ (c_Row_byteAt l G h1 r b tr tb n z g fr1 fb1 hne hz (by omega) (nI (2 + a9))) (cwV 1 hts gX4_collectPairs_X6_byteAt rfl rfl rfl (by decide +kernel) ⟨Nat.le_of_ble_eq_true rfl, Nat.le_of_ble_eq_true rfl⟩) (ah_preV hE hR hS fr1 rfl) rfl rfl hl.1 rfl (lv_room (Nat.le_of_ble_eq_true rfl)) dX4_collectPairs_44 ⟨Nat.le_of_ble_eq_true rfl, Nat.le_of_ble_eq_true rfl⟩) hS (fun r_26 h_24 H locs p_25 hR hS => ?_)
            obtain ⟨e_27, e_28⟩ := p_25
            rw [e_28] at hR
            rw [rwA_in (show 2 + a9 < z by omega) (by omega)] at e_27
            refine ah_toi e_27 ?_
            have hgb_29 := hg (2 + a9)
            refine lv_bipush (v := nI 8) hx hb dX4_collectPairs_47 (by decide) ?_
            refine lv_ishl hx hb dX4_collectPairs_49 ?_
            refine ah_toi (v := nI (g (2 + a9) * 2 ^ 8)) (ny_shl (by omega) (by have := hg (2 + a9); omega)) ?_
            refine lv_aload_n hx hb dX4_collectPairs_50 rfl (lv_at hl 3 rfl) ?_
            refine lv_iconst (v := nI 2) hx hb dX4_collectPairs_51 (by decide) ?_
            refine lv_iload_n hx hb dX4_collectPairs_52 rfl (lv_at hl 0 rfl) ?_
            refine lv_iadd hx hb dX4_collectPairs_53 ?_
            refine ah_toi (v := nI (2 + a9)) (nI_add _ _) ?_
            refine lv_iconst (v := nI 1) hx hb dX4_collectPairs_54 (by decide) ?_
            refine lv_iadd hx hb dX4_collectPairs_55 ?_
            refine ah_toi (v := nI ((2 + a9) + 1)) (nI_add _ _) ?_
            refine ah_calli (va_runV (As := [.int (nI ((2 + a9) + 1))]) (rest := [.int (nI (g (2 + a9) * 2 ^ 8)), .int (nI c9), .ref ru]) ⟨hx, hb, hml, hown, hts⟩ (c_Row_byteAt l G h1 r b tr tb n z g fr1 fb1 hne hz (by omega) (nI ((2 + a9) + 1))) (cwV 1 hts gX4_collectPairs_X6_byteAt rfl rfl rfl (by decide +kernel) ⟨Nat.le_of_ble_eq_true rfl, Nat.le_of_ble_eq_true rfl⟩) (ah_preV hE hR hS fr1 rfl) rfl rfl hl.1 rfl (lv_room (Nat.le_of_ble_eq_true rfl)) dX4_collectPairs_56 ⟨Nat.le_of_ble_eq_true rfl, Nat.le_of_ble_eq_true rfl⟩) hS (fun r_32 h_30 H locs p_31 hR hS => ?_)
            obtain ⟨e_33, e_34⟩ := p_31
            rw [e_34] at hR
            rw [rwA_in (show (2 + a9) + 1 < z by omega) (by omega)] at e_33
            refine ah_toi e_33 ?_
            have hgb_35 := hg ((2 + a9) + 1)
            refine lv_ior hx hb dX4_collectPairs_59 ?_
            refine ah_toi (v := nI (g (2 + a9 + 1) + 256 * g (2 + a9))) (ny_or8' _ (hg _)) ?_
            refine ah_iast (i := c9) hx hb hE hR hS fu1 (by omega) (by omega) dX4_collectPairs_60 (fun H locs hR hS => ?_)
            rw [nA_upd] at hR
            obtain ⟨h_36, e_37⟩ : ∃ zz9, zz9 = ah_up h1 ru (11, .inl (G.2.2.1 0, 160, .inl (nA (gU u1 c9 (g (2 + a9 + 1) + 256 * g (2 + a9)))))) := ⟨_, rfl⟩
            have hR : ah_R G h_36 H := by rw [e_37]; exact hR
            have f_38 : h_36 rd = some (10, .inr (3, [.int (nI hd), .int (nI rfr), .int (nI ps), .int (nI nm), .int (nI bp), .int (nI el), .ref ru])) := by rw [e_37]; exact ah_keep fd1 fu1 (by omega)
            have f_39 : h_36 ru = some (11, .inl (G.2.2.1 0, 160, .inl (nA (gU u1 c9 (g (2 + a9 + 1) + 256 * g (2 + a9)))))) := by rw [e_37]; exact ah_up_s _ _ _
            have f_40 : h_36 r = some (tr, .inr (5, [.ref b, .int (nI z)])) := by rw [e_37]; exact ah_keep fr1 fu1 (by omega)
            have f_41 : h_36 b = some (tb, .inl (G.2.2.1 0, n, .inl (nA g))) := by rw [e_37]; exact ah_keep fb1 fu1 (by omega)
            refine lv_iinc (v := nI (c9 + 1)) (lv' := [(2, .int (nI (c9 + 1))), (3, .int (nI a9)), (0, .ref rd), (1, .ref r)]) hx hb dX4_collectPairs_61 hl (k := 1) rfl (show nI c9 + Int32.ofInt 1 = nI (c9 + 1) from nI_add _ 1) (by decide) rfl (fun ls hl => ?_)
            refine lv_iinc (v := nI (a9 + 2)) (lv' := [(3, .int (nI (a9 + 2))), (2, .int (nI (c9 + 1))), (0, .ref rd), (1, .ref r)]) hx hb dX4_collectPairs_64 hl (k := 1) rfl (show nI a9 + Int32.ofInt 2 = nI (a9 + 2) from nI_add _ 2) (by decide) rfl (fun ls hl => ?_)
            refine lv_goto (tgt := 16) hx hb dX4_collectPairs_67 (by decide) ?_
            exact ih16  (c9 + 1) (a9 + 2) (gU u1 c9 (g (2 + a9 + 1) + 256 * g (2 + a9))) h_36 _ _ ls (by omega) (by omega) (by omega) (by have := hdc.1; omega) hdc.2.2 (gU_list hu hdc.2.1) (by rw [e_37, eh1, ah_up2]) f_38 f_39 f_40 f_41 hR hS (lv_sub hl [0, 1, 2, 3] rfl)
    exact L16 ((el - (6 * hd)) + 1) 0 (6 * hd) uf h _ _ ls (by omega) (by omega) (by omega) (by omega) (by rw [eL]; rfl) (fun j hj => absurd hj (Nat.not_lt_zero j)) ((ah_up_id fu).symm) fd fu fr fb hR hS (lv_sub hl [0, 1, 2, 3] rfl)

set_option maxHeartbeats 4000000 in
set_option maxRecDepth 100000 in
theorem c_Rd_collectSevens (l : Launch) (G : ah_G) (h : ah_H) (rd ru hd rfr ps nm bp el : Nat) (uf : Nat → Nat) (fd : h rd = some (10, .inr (3, [.int (nI hd), .int (nI rfr), .int (nI ps), .int (nI nm), .int (nI bp), .int (nI el), .ref ru]))) (fu : h ru = some (11, .inl (G.2.2.1 0, 160, .inl (nA uf)))) (hhd : hd ≤ 1) (hbp : bp ≤ 1) (hhl : el < 256) (r b tr tb n z : Nat) (g : Nat → Nat) (fr : h r = some (tr, .inr (5, [.ref b, .int (nI z)]))) (fb : h b = some (tb, .inl (G.2.2.1 0, n, .inl (nA g)))) (hne : tr ≠ tb) (hz : z ≤ n) (hn : n < 1000) (hg : ∀ j, g j < 256) (h10 : tr ≠ 10) (h11 : tr ≠ 11) (b10 : tb ≠ 10) (b11 : tb ≠ 11)  (hel : el ≤ 160) : Met l yX4_collectSevens wsX4_collectSevens ({ frames := 3, cells := 0, slots := 0, locals := 65 }) (ah_Pc G [.ref rd, .ref r] h) (ah_Qi G (fun v h' => v = nI (dS (svn g z) el (el - 7 * hd) (7 * hd)).length ∧ ∃ uf', (∀ j, j < (dS (svn g z) el (el - 7 * hd) (7 * hd)).length → uf' j = (dS (svn g z) el (el - 7 * hd) (7 * hd)).getD j 0) ∧ h' = ah_up h ru (11, .inl (G.2.2.1 0, 160, .inl (nA uf'))))) 0 0 (ah_A G) := by
  refine ah_ofW (cc := cX4_collectSevens) (maxL := 5) (ret := (some .int)) (by decide) rfl (Nat.le_of_ble_eq_true rfl) ?_
  intro p e s m below meth cd9 ls hx hb hr hml hown hlocks hname hts hE hR hS hl
  have hown : s.vm.findClass RX4 = some m.cls := hown
  have hl : lv_has ls 5 [(0, .ref rd), (1, .ref r)] := hl
  have k25 := hts (.fieldLink RX4 25 "TextParts$PartReader" "headed" "Z") (by decide +kernel)
  have hinX4 : ∀ w ∈ wsX40, w ∈ wsX4_collectSevens := by decide +kernel
  have k32 := hts (.fieldLink RX4 32 "TextParts$PartReader" "held" "I") (by decide +kernel)
  have k9 := hts (.fieldLink RX4 9 "TextParts$PartReader" "units" "[I") (by decide +kernel)
  obtain ⟨L, eL⟩ : ∃ L9, L9 = dS (svn g z) el (el - 7 * hd) (7 * hd) := ⟨_, rfl⟩
  have hLl : L.length ≤ el := by rw [eL]; have := dS_len (sv := svn g z) (el := el) (el - 7 * hd) (7 * hd); omega
  refine lv_iconst (v := nI 0) hx hb dX4_collectSevens_0 (by decide) ?_
  refine lv_istore_n (lv' := [(2, .int (nI 0)), (0, .ref rd), (1, .ref r)]) hx hb dX4_collectSevens_1 rfl hl (by decide) rfl (fun ls hl => ?_)
  refine lv_aload_n hx hb dX4_collectSevens_2 rfl (lv_at hl 1 rfl) ?_
  refine ah_get (ci := 3) (v := .int (nI hd)) (C := RX4) (T := TX4) (N := 7) hx hb hE hR hts hinX4 hown fd rfl 0 (by decide) k25 (fun _ h9 => h9) rfl dX4_collectSevens_3 ?_
  refine lv_if_eq (tgt := 14) hx hb dX4_collectSevens_6 (by decide) (fun c_1 => ?_) (fun c_1 => ?_)
  · skip
    have c_1 : hd = 0 := (zi_eq (by omega)).mp c_1
    refine lv_iconst (v := nI 0) hx hb dX4_collectSevens_14 (by decide) ?_
    refine ah_toi (v := nI (7 * hd)) (by rw [show 7 * hd = 0 by omega]) ?_
    refine lv_istore_n (lv' := [(3, .int (nI (7 * hd))), (2, .int (nI 0)), (0, .ref rd), (1, .ref r)]) hx hb dX4_collectSevens_15 rfl hl (by decide) rfl (fun ls hl => ?_)
    have L16 : ∀ (N16 : Nat) (c9 : Nat) (a9 : Nat) (u1 : Nat → Nat) (h1 : ah_H) (H : Heap) (locs : List Loc) (ls : Array Slot), el - a9 < N16 → (c9 ≤ a9) → (a9 ≤ 200) → (c9 ≤ L.length) → (L.drop c9 = dS (svn g z) el (el - a9) a9) → (∀ j, j < c9 → u1 j = L.getD j 0) → (h1 = ah_up h ru (11, .inl (G.2.2.1 0, 160, .inl (nA u1)))) → (h1 rd = some (10, .inr (3, [.int (nI hd), .int (nI rfr), .int (nI ps), .int (nI nm), .int (nI bp), .int (nI el), .ref ru]))) → (h1 ru = some (11, .inl (G.2.2.1 0, 160, .inl (nA u1)))) → (h1 r = some (tr, .inr (5, [.ref b, .int (nI z)]))) → (h1 b = some (tb, .inl (G.2.2.1 0, n, .inl (nA g)))) → ah_R G h1 H → va_S (ah_A G) s.heap H locs → lv_has ls 5 [(3, .int (nI a9)), (2, .int (nI c9)), (0, .ref rd), (1, .ref r)] → W p l e ({ frames := 3, cells := 0, slots := 0, locals := 65 }) s m ([.ref rd, .ref r] : List Value).toArray below meth cd9 H locs 0 0 (MQ below (ah_Qi G (fun v h' => v = nI (dS (svn g z) el (el - 7 * hd) (7 * hd)).length ∧ ∃ uf', (∀ j, j < (dS (svn g z) el (el - 7 * hd) (7 * hd)).length → uf' j = (dS (svn g z) el (el - 7 * hd) (7 * hd)).getD j 0) ∧ h' = ah_up h ru (11, .inl (G.2.2.1 0, 160, .inl (nA uf'))))) ([.ref rd, .ref r] : List Value).toArray s 0 0 (ah_A G)) (F0 m 16 ls []) := by
      intro N16
      induction N16 with
      | zero => intro c9 a9 u1 h1 H locs ls hN; exact absurd hN (Nat.not_lt_zero _)
      | succ N16 ih16 =>
        intro c9 a9 u1 h1 H locs ls hN16 hc ha9 hcl hd9 hu eh1 fd1 fu1 fr1 fb1 hR hS hl
        refine lv_iload_n hx hb dX4_collectSevens_16 rfl (lv_at hl 0 rfl) ?_
        refine lv_aload_n hx hb dX4_collectSevens_17 rfl (lv_at hl 2 rfl) ?_
        refine ah_get (ci := 3) (v := .int (nI el)) (C := RX4) (T := TX4) (N := 7) hx hb hE hR hts hinX4 hown fd1 rfl 5 (by decide) k32 (fun _ h9 => h9) rfl dX4_collectSevens_18 ?_
        refine lv_icmp_ge (tgt := 99) hx hb dX4_collectSevens_21 (by decide) (fun c_2 => ?_) (fun c_2 => ?_)
        · skip
          have c_2 : el ≤ a9 := (nI_leI (by omega) (by omega)).mp c_2
          have hend : c9 = L.length := drop_nil (by rw [hd9, dS_end (by omega)]) hcl
          refine lv_iload_n hx hb dX4_collectSevens_99 rfl (lv_at hl 1 rfl) ?_
          refine ah_iret (v := nI c9) hx hb hr hlocks hR hS dX4_collectSevens_100 ?_
          rw [← eL]
          exact ⟨by rw [hend], u1, fun j hj => hu j (by omega), eh1⟩
        · skip
          have c_2 : ¬ (el ≤ a9) := fun z9 => c_2 ((nI_leI (by omega) (by omega)).mpr z9)
          have hst := hd9.trans (dS_step (by omega))
          refine lv_iload_n hx hb dX4_collectSevens_24 rfl (lv_at hl 1 rfl) ?_
          refine lv_aload_n hx hb dX4_collectSevens_25 rfl (lv_at hl 2 rfl) ?_
          refine ah_get (ci := 3) (v := .ref ru) (C := RX4) (T := TX4) (N := 7) hx hb hE hR hts hinX4 hown fd1 rfl 6 (by decide) k9 (fun _ h9 => h9) rfl dX4_collectSevens_26 ?_
          refine ah_alen hx hb hE hR fu1 (show (ah_tys G)[0]? = some _ from rfl) dX4_collectSevens_29 ?_
          refine lv_icmp_ge (tgt := 99) hx hb dX4_collectSevens_30 (by decide) (fun c_3 => ?_) (fun c_3 => ?_)
          · skip
            have c_3 : 160 ≤ c9 := (nI_leI (by omega) (by omega)).mp c_3
            exact absurd c_3 (by omega)
          · skip
            have c_3 : ¬ (160 ≤ c9) := fun z9 => c_3 ((nI_leI (by omega) (by omega)).mpr z9)
            refine lv_aload_n hx hb dX4_collectSevens_33 rfl (lv_at hl 3 rfl) ?_
            refine lv_iload_n hx hb dX4_collectSevens_34 rfl (lv_at hl 0 rfl) ?_
            refine ah_calli (va_runV (As := [.int (nI a9)]) (rest := []) ⟨hx, hb, hml, hown, hts⟩ (c_Row_sevenAt l G h1 r b tr tb n z g fr1 fb1 hne hz (by omega) hg a9 (by omega)) (cwV 1 hts gX4_collectSevens_X6_sevenAt rfl rfl rfl (by decide +kernel) ⟨Nat.le_of_ble_eq_true rfl, Nat.le_of_ble_eq_true rfl⟩) (ah_preV hE hR hS fr1 rfl) rfl rfl hl.1 rfl (lv_room (Nat.le_of_ble_eq_true rfl)) dX4_collectSevens_35 ⟨Nat.le_of_ble_eq_true rfl, Nat.le_of_ble_eq_true rfl⟩) hS (fun r_6 h_4 H locs p_5 hR hS => ?_)
            obtain ⟨e_7, e_8⟩ := p_5
            rw [e_8] at hR
            refine ah_toi e_7 ?_
            have hs_9 := svn_lt g z a9
            refine lv_istore (lv' := [(4, .int (nI (svn g z a9))), (3, .int (nI a9)), (2, .int (nI c9)), (0, .ref rd), (1, .ref r)]) hx hb dX4_collectSevens_38 hl (by decide) rfl (fun ls hl => ?_)
            refine lv_iload hx hb dX4_collectSevens_40 (lv_at hl 0 rfl) ?_
            refine lv_bipush (v := nI 27) hx hb dX4_collectSevens_42 (by decide) ?_
            refine lv_icmp_ne (tgt := 79) hx hb dX4_collectSevens_44 (by decide) (fun c_10 => ?_) (fun c_10 => ?_)
            · skip
              have c_10 : ¬ ((svn g z a9) = 27) := fun z9 => c_10 ((nI_eq (by omega) (by omega)).mpr z9)
              rw [if_neg (show ¬ svn g z a9 = 27 from c_10)] at hst
              have hdc := drop_cons hst
              refine lv_aload_n hx hb dX4_collectSevens_79 rfl (lv_at hl 3 rfl) ?_
              refine ah_get (ci := 3) (v := .ref ru) (C := RX4) (T := TX4) (N := 7) hx hb hE hR hts hinX4 hown fd1 rfl 6 (by decide) k9 (fun _ h9 => h9) rfl dX4_collectSevens_80 ?_
              refine lv_iload_n hx hb dX4_collectSevens_83 rfl (lv_at hl 2 rfl) ?_
              refine lv_iload hx hb dX4_collectSevens_84 (lv_at hl 0 rfl) ?_
              refine ah_calli (va_runS (As := [.int (nI (svn g z a9))]) (rest := [.int (nI c9), .ref ru]) ⟨hx, hb, hml, hown, hts⟩ (c_plainUnit l G h1 (svn g z a9) (by omega)) (va_cwS 1 hts gX4_collectSevens_X0_plainUnit rfl rfl rfl (by decide +kernel) ⟨Nat.le_of_ble_eq_true rfl, Nat.le_of_ble_eq_true rfl⟩) (ah_preS hE hR hS) rfl rfl hl.1 rfl (lv_room (Nat.le_of_ble_eq_true rfl)) dX4_collectSevens_86 ⟨Nat.le_of_ble_eq_true rfl, Nat.le_of_ble_eq_true rfl⟩) hS (fun r_13 h_11 H locs p_12 hR hS => ?_)
              obtain ⟨e_14, e_15⟩ := p_12
              rw [e_15] at hR
              refine ah_toi e_14 ?_
              refine ah_toi (plainU_ok _).1 ?_
              refine ah_iast (i := c9) hx hb hE hR hS fu1 (by omega) (by omega) dX4_collectSevens_89 (fun H locs hR hS => ?_)
              rw [nA_upd] at hR
              obtain ⟨h_16, e_17⟩ : ∃ zz9, zz9 = ah_up h1 ru (11, .inl (G.2.2.1 0, 160, .inl (nA (gU u1 c9 (plainV (svn g z a9)))))) := ⟨_, rfl⟩
              have hR : ah_R G h_16 H := by rw [e_17]; exact hR
              have f_18 : h_16 rd = some (10, .inr (3, [.int (nI hd), .int (nI rfr), .int (nI ps), .int (nI nm), .int (nI bp), .int (nI el), .ref ru])) := by rw [e_17]; exact ah_keep fd1 fu1 (by omega)
              have f_19 : h_16 ru = some (11, .inl (G.2.2.1 0, 160, .inl (nA (gU u1 c9 (plainV (svn g z a9)))))) := by rw [e_17]; exact ah_up_s _ _ _
              have f_20 : h_16 r = some (tr, .inr (5, [.ref b, .int (nI z)])) := by rw [e_17]; exact ah_keep fr1 fu1 (by omega)
              have f_21 : h_16 b = some (tb, .inl (G.2.2.1 0, n, .inl (nA g))) := by rw [e_17]; exact ah_keep fb1 fu1 (by omega)
              refine lv_iinc (v := nI (c9 + 1)) (lv' := [(2, .int (nI (c9 + 1))), (4, .int (nI (svn g z a9))), (3, .int (nI a9)), (0, .ref rd), (1, .ref r)]) hx hb dX4_collectSevens_90 hl (k := 2) rfl (show nI c9 + Int32.ofInt 1 = nI (c9 + 1) from nI_add _ 1) (by decide) rfl (fun ls hl => ?_)
              refine lv_iinc (v := nI (a9 + 1)) (lv' := [(3, .int (nI (a9 + 1))), (2, .int (nI (c9 + 1))), (4, .int (nI (svn g z a9))), (0, .ref rd), (1, .ref r)]) hx hb dX4_collectSevens_93 hl (k := 2) rfl (show nI a9 + Int32.ofInt 1 = nI (a9 + 1) from nI_add _ 1) (by decide) rfl (fun ls hl => ?_)
              refine lv_goto (tgt := 16) hx hb dX4_collectSevens_96 (by decide) ?_
              exact ih16  (c9 + 1) (a9 + 1) (gU u1 c9 (plainV (svn g z a9))) h_16 _ _ ls (by omega) (by omega) (by omega) (by have := hdc.1; omega) hdc.2.2 (gU_list hu hdc.2.1) (by rw [e_17, eh1, ah_up2]) f_18 f_19 f_20 f_21 hR hS (lv_sub hl [0, 1, 3, 4] rfl)
            · skip
              have c_10 : (svn g z a9) = 27 := (nI_eq (by omega) (by omega)).mp c_10
              rw [if_pos (show svn g z a9 = 27 from c_10)] at hst
              refine lv_iinc (v := nI (a9 + 1)) (lv' := [(3, .int (nI (a9 + 1))), (4, .int (nI (svn g z a9))), (2, .int (nI c9)), (0, .ref rd), (1, .ref r)]) hx hb dX4_collectSevens_47 hl (k := 1) rfl (show nI a9 + Int32.ofInt 1 = nI (a9 + 1) from nI_add _ 1) (by decide) rfl (fun ls hl => ?_)
              refine lv_aload_n hx hb dX4_collectSevens_50 rfl (lv_at hl 3 rfl) ?_
              refine ah_get (ci := 3) (v := .ref ru) (C := RX4) (T := TX4) (N := 7) hx hb hE hR hts hinX4 hown fd1 rfl 6 (by decide) k9 (fun _ h9 => h9) rfl dX4_collectSevens_51 ?_
              refine lv_iload_n hx hb dX4_collectSevens_54 rfl (lv_at hl 2 rfl) ?_
              refine lv_iload_n hx hb dX4_collectSevens_55 rfl (lv_at hl 0 rfl) ?_
              refine lv_aload_n hx hb dX4_collectSevens_56 rfl (lv_at hl 3 rfl) ?_
              refine ah_get (ci := 3) (v := .int (nI el)) (C := RX4) (T := TX4) (N := 7) hx hb hE hR hts hinX4 hown fd1 rfl 5 (by decide) k32 (fun _ h9 => h9) rfl dX4_collectSevens_57 ?_
              refine lv_icmp_ge (tgt := 71) hx hb dX4_collectSevens_60 (by decide) (fun c_22 => ?_) (fun c_22 => ?_)
              · skip
                have c_22 : el ≤ (a9 + 1) := (nI_leI (by omega) (by omega)).mp c_22
                rw [if_neg (show ¬ a9 + 1 < el by omega)] at hst
                have hdc := drop_cons hst
                refine lv_iconst (v := (-1)) hx hb dX4_collectSevens_71 (by decide) ?_
                refine ah_calli (va_runS (As := [.int (-1)]) (rest := [.int (nI c9), .ref ru]) ⟨hx, hb, hml, hown, hts⟩ (c_escapedUnit0 l G h1) (va_cwS 1 hts gX4_collectSevens_X0_escapedUnit rfl rfl rfl (by decide +kernel) ⟨Nat.le_of_ble_eq_true rfl, Nat.le_of_ble_eq_true rfl⟩) (ah_preS hE hR hS) rfl rfl hl.1 rfl (lv_room (Nat.le_of_ble_eq_true rfl)) dX4_collectSevens_72 ⟨Nat.le_of_ble_eq_true rfl, Nat.le_of_ble_eq_true rfl⟩) hS (fun r_25 h_23 H locs p_24 hR hS => ?_)
                obtain ⟨e_26, e_27⟩ := p_24
                rw [e_27] at hR
                refine ah_toi e_26 ?_
                refine ah_iast (i := c9) hx hb hE hR hS fu1 (by omega) (by omega) dX4_collectSevens_75 (fun H locs hR hS => ?_)
                rw [nA_upd] at hR
                obtain ⟨h_28, e_29⟩ : ∃ zz9, zz9 = ah_up h1 ru (11, .inl (G.2.2.1 0, 160, .inl (nA (gU u1 c9 32)))) := ⟨_, rfl⟩
                have hR : ah_R G h_28 H := by rw [e_29]; exact hR
                have f_30 : h_28 rd = some (10, .inr (3, [.int (nI hd), .int (nI rfr), .int (nI ps), .int (nI nm), .int (nI bp), .int (nI el), .ref ru])) := by rw [e_29]; exact ah_keep fd1 fu1 (by omega)
                have f_31 : h_28 ru = some (11, .inl (G.2.2.1 0, 160, .inl (nA (gU u1 c9 32)))) := by rw [e_29]; exact ah_up_s _ _ _
                have f_32 : h_28 r = some (tr, .inr (5, [.ref b, .int (nI z)])) := by rw [e_29]; exact ah_keep fr1 fu1 (by omega)
                have f_33 : h_28 b = some (tb, .inl (G.2.2.1 0, n, .inl (nA g))) := by rw [e_29]; exact ah_keep fb1 fu1 (by omega)
                refine lv_goto (tgt := 90) hx hb dX4_collectSevens_76 (by decide) ?_
                refine lv_iinc (v := nI (c9 + 1)) (lv' := [(2, .int (nI (c9 + 1))), (3, .int (nI (a9 + 1))), (4, .int (nI (svn g z a9))), (0, .ref rd), (1, .ref r)]) hx hb dX4_collectSevens_90 hl (k := 2) rfl (show nI c9 + Int32.ofInt 1 = nI (c9 + 1) from nI_add _ 1) (by decide) rfl (fun ls hl => ?_)
                refine lv_iinc (v := nI ((a9 + 1) + 1)) (lv' := [(3, .int (nI ((a9 + 1) + 1))), (2, .int (nI (c9 + 1))), (4, .int (nI (svn g z a9))), (0, .ref rd), (1, .ref r)]) hx hb dX4_collectSevens_93 hl (k := 1) rfl (show nI (a9 + 1) + Int32.ofInt 1 = nI ((a9 + 1) + 1) from nI_add _ 1) (by decide) rfl (fun ls hl => ?_)
                refine lv_goto (tgt := 16) hx hb dX4_collectSevens_96 (by decide) ?_
                exact ih16  (c9 + 1) ((a9 + 1) + 1) (gU u1 c9 32) h_28 _ _ ls (by omega) (by omega) (by omega) (by have := hdc.1; omega) hdc.2.2 (gU_list hu hdc.2.1) (by rw [e_29, eh1, ah_up2]) f_30 f_31 f_32 f_33 hR hS (lv_sub hl [0, 1, 3, 4] rfl)
              · skip
                have c_22 : ¬ (el ≤ (a9 + 1)) := fun z9 => c_22 ((nI_leI (by omega) (by omega)).mpr z9)
                rw [if_pos (show a9 + 1 < el by omega)] at hst
                have hdc := drop_cons hst
                refine lv_aload_n hx hb dX4_collectSevens_63 rfl (lv_at hl 4 rfl) ?_
                refine lv_iload_n hx hb dX4_collectSevens_64 rfl (lv_at hl 0 rfl) ?_
                refine ah_calli (va_runV (As := [.int (nI (a9 + 1))]) (rest := [.int (nI c9), .ref ru]) ⟨hx, hb, hml, hown, hts⟩ (c_Row_sevenAt l G h1 r b tr tb n z g fr1 fb1 hne hz (by omega) hg (a9 + 1) (by omega)) (cwV 1 hts gX4_collectSevens_X6_sevenAt rfl rfl rfl (by decide +kernel) ⟨Nat.le_of_ble_eq_true rfl, Nat.le_of_ble_eq_true rfl⟩) (ah_preV hE hR hS fr1 rfl) rfl rfl hl.1 rfl (lv_room (Nat.le_of_ble_eq_true rfl)) dX4_collectSevens_65 ⟨Nat.le_of_ble_eq_true rfl, Nat.le_of_ble_eq_true rfl⟩) hS (fun r_36 h_34 H locs p_35 hR hS => ?_)
                obtain ⟨e_37, e_38⟩ := p_35
                rw [e_38] at hR
                refine ah_toi e_37 ?_
                have hs_39 := svn_lt g z (a9 + 1)
                refine lv_goto (tgt := 72) hx hb dX4_collectSevens_68 (by decide) ?_
                refine ah_calli (va_runS (As := [.int (nI (svn g z (a9 + 1)))]) (rest := [.int (nI c9), .ref ru]) ⟨hx, hb, hml, hown, hts⟩ (c_escapedUnit l G h1 (svn g z (a9 + 1)) (by omega)) (va_cwS 1 hts gX4_collectSevens_X0_escapedUnit rfl rfl rfl (by decide +kernel) ⟨Nat.le_of_ble_eq_true rfl, Nat.le_of_ble_eq_true rfl⟩) (ah_preS hE hR hS) rfl rfl hl.1 rfl (lv_room (Nat.le_of_ble_eq_true rfl)) dX4_collectSevens_72 ⟨Nat.le_of_ble_eq_true rfl, Nat.le_of_ble_eq_true rfl⟩) hS (fun r_42 h_40 H locs p_41 hR hS => ?_)
                obtain ⟨e_43, e_44⟩ := p_41
                rw [e_44] at hR
                refine ah_toi e_43 ?_
                refine ah_toi (escU_ok _).1 ?_
                refine ah_iast (i := c9) hx hb hE hR hS fu1 (by omega) (by omega) dX4_collectSevens_75 (fun H locs hR hS => ?_)
                rw [nA_upd] at hR
                obtain ⟨h_45, e_46⟩ : ∃ zz9, zz9 = ah_up h1 ru (11, .inl (G.2.2.1 0, 160, .inl (nA (gU u1 c9 (escV (svn g z (a9 + 1))))))) := ⟨_, rfl⟩
                have hR : ah_R G h_45 H := by rw [e_46]; exact hR
                have f_47 : h_45 rd = some (10, .inr (3, [.int (nI hd), .int (nI rfr), .int (nI ps), .int (nI nm), .int (nI bp), .int (nI el), .ref ru])) := by rw [e_46]; exact ah_keep fd1 fu1 (by omega)
                have f_48 : h_45 ru = some (11, .inl (G.2.2.1 0, 160, .inl (nA (gU u1 c9 (escV (svn g z (a9 + 1))))))) := by rw [e_46]; exact ah_up_s _ _ _
                have f_49 : h_45 r = some (tr, .inr (5, [.ref b, .int (nI z)])) := by rw [e_46]; exact ah_keep fr1 fu1 (by omega)
                have f_50 : h_45 b = some (tb, .inl (G.2.2.1 0, n, .inl (nA g))) := by rw [e_46]; exact ah_keep fb1 fu1 (by omega)
                refine lv_goto (tgt := 90) hx hb dX4_collectSevens_76 (by decide) ?_
                refine lv_iinc (v := nI (c9 + 1)) (lv' := [(2, .int (nI (c9 + 1))), (3, .int (nI (a9 + 1))), (4, .int (nI (svn g z a9))), (0, .ref rd), (1, .ref r)]) hx hb dX4_collectSevens_90 hl (k := 2) rfl (show nI c9 + Int32.ofInt 1 = nI (c9 + 1) from nI_add _ 1) (by decide) rfl (fun ls hl => ?_)
                refine lv_iinc (v := nI ((a9 + 1) + 1)) (lv' := [(3, .int (nI ((a9 + 1) + 1))), (2, .int (nI (c9 + 1))), (4, .int (nI (svn g z a9))), (0, .ref rd), (1, .ref r)]) hx hb dX4_collectSevens_93 hl (k := 1) rfl (show nI (a9 + 1) + Int32.ofInt 1 = nI ((a9 + 1) + 1) from nI_add _ 1) (by decide) rfl (fun ls hl => ?_)
                refine lv_goto (tgt := 16) hx hb dX4_collectSevens_96 (by decide) ?_
                exact ih16  (c9 + 1) ((a9 + 1) + 1) (gU u1 c9 (escV (svn g z (a9 + 1)))) h_45 _ _ ls (by omega) (by omega) (by omega) (by have := hdc.1; omega) hdc.2.2 (gU_list hu hdc.2.1) (by rw [e_46, eh1, ah_up2]) f_47 f_48 f_49 f_50 hR hS (lv_sub hl [0, 1, 3, 4] rfl)
    exact L16 ((el - (7 * hd)) + 1) 0 (7 * hd) uf h _ _ ls (by omega) (by omega) (by omega) (by omega) (by rw [eL]; rfl) (fun j hj => absurd hj (Nat.not_lt_zero j)) ((ah_up_id fu).symm) fd fu fr fb hR hS (lv_sub hl [0, 1, 2, 3] rfl)
  · skip
    have c_1 : ¬ (hd = 0) := fun z9 => c_1 ((zi_eq (by omega)).mpr z9)
    refine lv_bipush (v := nI 7) hx hb dX4_collectSevens_9 (by decide) ?_
    refine lv_goto (tgt := 15) hx hb dX4_collectSevens_11 (by decide) ?_
    refine ah_toi (v := nI (7 * hd)) (by rw [show 7 * hd = 7 by omega]) ?_
    refine lv_istore_n (lv' := [(3, .int (nI (7 * hd))), (2, .int (nI 0)), (0, .ref rd), (1, .ref r)]) hx hb dX4_collectSevens_15 rfl hl (by decide) rfl (fun ls hl => ?_)
    have L16 : ∀ (N16 : Nat) (c9 : Nat) (a9 : Nat) (u1 : Nat → Nat) (h1 : ah_H) (H : Heap) (locs : List Loc) (ls : Array Slot), el - a9 < N16 → (c9 ≤ a9) → (a9 ≤ 200) → (c9 ≤ L.length) → (L.drop c9 = dS (svn g z) el (el - a9) a9) → (∀ j, j < c9 → u1 j = L.getD j 0) → (h1 = ah_up h ru (11, .inl (G.2.2.1 0, 160, .inl (nA u1)))) → (h1 rd = some (10, .inr (3, [.int (nI hd), .int (nI rfr), .int (nI ps), .int (nI nm), .int (nI bp), .int (nI el), .ref ru]))) → (h1 ru = some (11, .inl (G.2.2.1 0, 160, .inl (nA u1)))) → (h1 r = some (tr, .inr (5, [.ref b, .int (nI z)]))) → (h1 b = some (tb, .inl (G.2.2.1 0, n, .inl (nA g)))) → ah_R G h1 H → va_S (ah_A G) s.heap H locs → lv_has ls 5 [(3, .int (nI a9)), (2, .int (nI c9)), (0, .ref rd), (1, .ref r)] → W p l e ({ frames := 3, cells := 0, slots := 0, locals := 65 }) s m ([.ref rd, .ref r] : List Value).toArray below meth cd9 H locs 0 0 (MQ below (ah_Qi G (fun v h' => v = nI (dS (svn g z) el (el - 7 * hd) (7 * hd)).length ∧ ∃ uf', (∀ j, j < (dS (svn g z) el (el - 7 * hd) (7 * hd)).length → uf' j = (dS (svn g z) el (el - 7 * hd) (7 * hd)).getD j 0) ∧ h' = ah_up h ru (11, .inl (G.2.2.1 0, 160, .inl (nA uf'))))) ([.ref rd, .ref r] : List Value).toArray s 0 0 (ah_A G)) (F0 m 16 ls []) := by
      intro N16
      induction N16 with
      | zero => intro c9 a9 u1 h1 H locs ls hN; exact absurd hN (Nat.not_lt_zero _)
      | succ N16 ih16 =>
        intro c9 a9 u1 h1 H locs ls hN16 hc ha9 hcl hd9 hu eh1 fd1 fu1 fr1 fb1 hR hS hl
        refine lv_iload_n hx hb dX4_collectSevens_16 rfl (lv_at hl 0 rfl) ?_
        refine lv_aload_n hx hb dX4_collectSevens_17 rfl (lv_at hl 2 rfl) ?_
        refine ah_get (ci := 3) (v := .int (nI el)) (C := RX4) (T := TX4) (N := 7) hx hb hE hR hts hinX4 hown fd1 rfl 5 (by decide) k32 (fun _ h9 => h9) rfl dX4_collectSevens_18 ?_
        refine lv_icmp_ge (tgt := 99) hx hb dX4_collectSevens_21 (by decide) (fun c_51 => ?_) (fun c_51 => ?_)
        · skip
          have c_51 : el ≤ a9 := (nI_leI (by omega) (by omega)).mp c_51
          have hend : c9 = L.length := drop_nil (by rw [hd9, dS_end (by omega)]) hcl
          refine lv_iload_n hx hb dX4_collectSevens_99 rfl (lv_at hl 1 rfl) ?_
          refine ah_iret (v := nI c9) hx hb hr hlocks hR hS dX4_collectSevens_100 ?_
          rw [← eL]
          exact ⟨by rw [hend], u1, fun j hj => hu j (by omega), eh1⟩
        · skip
          have c_51 : ¬ (el ≤ a9) := fun z9 => c_51 ((nI_leI (by omega) (by omega)).mpr z9)
          have hst := hd9.trans (dS_step (by omega))
          refine lv_iload_n hx hb dX4_collectSevens_24 rfl (lv_at hl 1 rfl) ?_
          refine lv_aload_n hx hb dX4_collectSevens_25 rfl (lv_at hl 2 rfl) ?_
          refine ah_get (ci := 3) (v := .ref ru) (C := RX4) (T := TX4) (N := 7) hx hb hE hR hts hinX4 hown fd1 rfl 6 (by decide) k9 (fun _ h9 => h9) rfl dX4_collectSevens_26 ?_
          refine ah_alen hx hb hE hR fu1 (show (ah_tys G)[0]? = some _ from rfl) dX4_collectSevens_29 ?_
          refine lv_icmp_ge (tgt := 99) hx hb dX4_collectSevens_30 (by decide) (fun c_52 => ?_) (fun c_52 => ?_)
          · skip
            have c_52 : 160 ≤ c9 := (nI_leI (by omega) (by omega)).mp c_52
            exact absurd c_52 (by omega)
          · skip
            have c_52 : ¬ (160 ≤ c9) := fun z9 => c_52 ((nI_leI (by omega) (by omega)).mpr z9)
            refine lv_aload_n hx hb dX4_collectSevens_33 rfl (lv_at hl 3 rfl) ?_
            refine lv_iload_n hx hb dX4_collectSevens_34 rfl (lv_at hl 0 rfl) ?_
            refine ah_calli (va_runV (As := [.int (nI a9)]) (rest := []) ⟨hx, hb, hml, hown, hts⟩ (c_Row_sevenAt l G h1 r b tr tb n z g fr1 fb1 hne hz (by omega) hg a9 (by omega)) (cwV 1 hts gX4_collectSevens_X6_sevenAt rfl rfl rfl (by decide +kernel) ⟨Nat.le_of_ble_eq_true rfl, Nat.le_of_ble_eq_true rfl⟩) (ah_preV hE hR hS fr1 rfl) rfl rfl hl.1 rfl (lv_room (Nat.le_of_ble_eq_true rfl)) dX4_collectSevens_35 ⟨Nat.le_of_ble_eq_true rfl, Nat.le_of_ble_eq_true rfl⟩) hS (fun r_55 h_53 H locs p_54 hR hS => ?_)
            obtain ⟨e_56, e_57⟩ := p_54
            rw [e_57] at hR
            refine ah_toi e_56 ?_
            have hs_58 := svn_lt g z a9
            refine lv_istore (lv' := [(4, .int (nI (svn g z a9))), (3, .int (nI a9)), (2, .int (nI c9)), (0, .ref rd), (1, .ref r)]) hx hb dX4_collectSevens_38 hl (by decide) rfl (fun ls hl => ?_)
            refine lv_iload hx hb dX4_collectSevens_40 (lv_at hl 0 rfl) ?_
            refine lv_bipush (v := nI 27) hx hb dX4_collectSevens_42 (by decide) ?_
            refine lv_icmp_ne (tgt := 79) hx hb dX4_collectSevens_44 (by decide) (fun c_59 => ?_) (fun c_59 => ?_)
            · skip
              have c_59 : ¬ ((svn g z a9) = 27) := fun z9 => c_59 ((nI_eq (by omega) (by omega)).mpr z9)
              rw [if_neg (show ¬ svn g z a9 = 27 from c_59)] at hst
              have hdc := drop_cons hst
              refine lv_aload_n hx hb dX4_collectSevens_79 rfl (lv_at hl 3 rfl) ?_
              refine ah_get (ci := 3) (v := .ref ru) (C := RX4) (T := TX4) (N := 7) hx hb hE hR hts hinX4 hown fd1 rfl 6 (by decide) k9 (fun _ h9 => h9) rfl dX4_collectSevens_80 ?_
              refine lv_iload_n hx hb dX4_collectSevens_83 rfl (lv_at hl 2 rfl) ?_
              refine lv_iload hx hb dX4_collectSevens_84 (lv_at hl 0 rfl) ?_
              refine ah_calli (va_runS (As := [.int (nI (svn g z a9))]) (rest := [.int (nI c9), .ref ru]) ⟨hx, hb, hml, hown, hts⟩ (c_plainUnit l G h1 (svn g z a9) (by omega)) (va_cwS 1 hts gX4_collectSevens_X0_plainUnit rfl rfl rfl (by decide +kernel) ⟨Nat.le_of_ble_eq_true rfl, Nat.le_of_ble_eq_true rfl⟩) (ah_preS hE hR hS) rfl rfl hl.1 rfl (lv_room (Nat.le_of_ble_eq_true rfl)) dX4_collectSevens_86 ⟨Nat.le_of_ble_eq_true rfl, Nat.le_of_ble_eq_true rfl⟩) hS (fun r_62 h_60 H locs p_61 hR hS => ?_)
              obtain ⟨e_63, e_64⟩ := p_61
              rw [e_64] at hR
              refine ah_toi e_63 ?_
              refine ah_toi (plainU_ok _).1 ?_
              refine ah_iast (i := c9) hx hb hE hR hS fu1 (by omega) (by omega) dX4_collectSevens_89 (fun H locs hR hS => ?_)
              rw [nA_upd] at hR
              obtain ⟨h_65, e_66⟩ : ∃ zz9, zz9 = ah_up h1 ru (11, .inl (G.2.2.1 0, 160, .inl (nA (gU u1 c9 (plainV (svn g z a9)))))) := ⟨_, rfl⟩
              have hR : ah_R G h_65 H := by rw [e_66]; exact hR
              have f_67 : h_65 rd = some (10, .inr (3, [.int (nI hd), .int (nI rfr), .int (nI ps), .int (nI nm), .int (nI bp), .int (nI el), .ref ru])) := by rw [e_66]; exact ah_keep fd1 fu1 (by omega)
              have f_68 : h_65 ru = some (11, .inl (G.2.2.1 0, 160, .inl (nA (gU u1 c9 (plainV (svn g z a9)))))) := by rw [e_66]; exact ah_up_s _ _ _
              have f_69 : h_65 r = some (tr, .inr (5, [.ref b, .int (nI z)])) := by rw [e_66]; exact ah_keep fr1 fu1 (by omega)
              have f_70 : h_65 b = some (tb, .inl (G.2.2.1 0, n, .inl (nA g))) := by rw [e_66]; exact ah_keep fb1 fu1 (by omega)
              refine lv_iinc (v := nI (c9 + 1)) (lv' := [(2, .int (nI (c9 + 1))), (4, .int (nI (svn g z a9))), (3, .int (nI a9)), (0, .ref rd), (1, .ref r)]) hx hb dX4_collectSevens_90 hl (k := 2) rfl (show nI c9 + Int32.ofInt 1 = nI (c9 + 1) from nI_add _ 1) (by decide) rfl (fun ls hl => ?_)
              refine lv_iinc (v := nI (a9 + 1)) (lv' := [(3, .int (nI (a9 + 1))), (2, .int (nI (c9 + 1))), (4, .int (nI (svn g z a9))), (0, .ref rd), (1, .ref r)]) hx hb dX4_collectSevens_93 hl (k := 2) rfl (show nI a9 + Int32.ofInt 1 = nI (a9 + 1) from nI_add _ 1) (by decide) rfl (fun ls hl => ?_)
              refine lv_goto (tgt := 16) hx hb dX4_collectSevens_96 (by decide) ?_
              exact ih16  (c9 + 1) (a9 + 1) (gU u1 c9 (plainV (svn g z a9))) h_65 _ _ ls (by omega) (by omega) (by omega) (by have := hdc.1; omega) hdc.2.2 (gU_list hu hdc.2.1) (by rw [e_66, eh1, ah_up2]) f_67 f_68 f_69 f_70 hR hS (lv_sub hl [0, 1, 3, 4] rfl)
            · skip
              have c_59 : (svn g z a9) = 27 := (nI_eq (by omega) (by omega)).mp c_59
              rw [if_pos (show svn g z a9 = 27 from c_59)] at hst
              refine lv_iinc (v := nI (a9 + 1)) (lv' := [(3, .int (nI (a9 + 1))), (4, .int (nI (svn g z a9))), (2, .int (nI c9)), (0, .ref rd), (1, .ref r)]) hx hb dX4_collectSevens_47 hl (k := 1) rfl (show nI a9 + Int32.ofInt 1 = nI (a9 + 1) from nI_add _ 1) (by decide) rfl (fun ls hl => ?_)
              refine lv_aload_n hx hb dX4_collectSevens_50 rfl (lv_at hl 3 rfl) ?_
              refine ah_get (ci := 3) (v := .ref ru) (C := RX4) (T := TX4) (N := 7) hx hb hE hR hts hinX4 hown fd1 rfl 6 (by decide) k9 (fun _ h9 => h9) rfl dX4_collectSevens_51 ?_
              refine lv_iload_n hx hb dX4_collectSevens_54 rfl (lv_at hl 2 rfl) ?_
              refine lv_iload_n hx hb dX4_collectSevens_55 rfl (lv_at hl 0 rfl) ?_
              refine lv_aload_n hx hb dX4_collectSevens_56 rfl (lv_at hl 3 rfl) ?_
              refine ah_get (ci := 3) (v := .int (nI el)) (C := RX4) (T := TX4) (N := 7) hx hb hE hR hts hinX4 hown fd1 rfl 5 (by decide) k32 (fun _ h9 => h9) rfl dX4_collectSevens_57 ?_
              refine lv_icmp_ge (tgt := 71) hx hb dX4_collectSevens_60 (by decide) (fun c_71 => ?_) (fun c_71 => ?_)
              · skip
                have c_71 : el ≤ (a9 + 1) := (nI_leI (by omega) (by omega)).mp c_71
                rw [if_neg (show ¬ a9 + 1 < el by omega)] at hst
                have hdc := drop_cons hst
                refine lv_iconst (v := (-1)) hx hb dX4_collectSevens_71 (by decide) ?_
                refine ah_calli (va_runS (As := [.int (-1)]) (rest := [.int (nI c9), .ref ru]) ⟨hx, hb, hml, hown, hts⟩ (c_escapedUnit0 l G h1) (va_cwS 1 hts gX4_collectSevens_X0_escapedUnit rfl rfl rfl (by decide +kernel) ⟨Nat.le_of_ble_eq_true rfl, Nat.le_of_ble_eq_true rfl⟩) (ah_preS hE hR hS) rfl rfl hl.1 rfl (lv_room (Nat.le_of_ble_eq_true rfl)) dX4_collectSevens_72 ⟨Nat.le_of_ble_eq_true rfl, Nat.le_of_ble_eq_true rfl⟩) hS (fun r_74 h_72 H locs p_73 hR hS => ?_)
                obtain ⟨e_75, e_76⟩ := p_73
                rw [e_76] at hR
                refine ah_toi e_75 ?_
                refine ah_iast (i := c9) hx hb hE hR hS fu1 (by omega) (by omega) dX4_collectSevens_75 (fun H locs hR hS => ?_)
                rw [nA_upd] at hR
                obtain ⟨h_77, e_78⟩ : ∃ zz9, zz9 = ah_up h1 ru (11, .inl (G.2.2.1 0, 160, .inl (nA (gU u1 c9 32)))) := ⟨_, rfl⟩
                have hR : ah_R G h_77 H := by rw [e_78]; exact hR
                have f_79 : h_77 rd = some (10, .inr (3, [.int (nI hd), .int (nI rfr), .int (nI ps), .int (nI nm), .int (nI bp), .int (nI el), .ref ru])) := by rw [e_78]; exact ah_keep fd1 fu1 (by omega)
                have f_80 : h_77 ru = some (11, .inl (G.2.2.1 0, 160, .inl (nA (gU u1 c9 32)))) := by rw [e_78]; exact ah_up_s _ _ _
                have f_81 : h_77 r = some (tr, .inr (5, [.ref b, .int (nI z)])) := by rw [e_78]; exact ah_keep fr1 fu1 (by omega)
                have f_82 : h_77 b = some (tb, .inl (G.2.2.1 0, n, .inl (nA g))) := by rw [e_78]; exact ah_keep fb1 fu1 (by omega)
                refine lv_goto (tgt := 90) hx hb dX4_collectSevens_76 (by decide) ?_
                refine lv_iinc (v := nI (c9 + 1)) (lv' := [(2, .int (nI (c9 + 1))), (3, .int (nI (a9 + 1))), (4, .int (nI (svn g z a9))), (0, .ref rd), (1, .ref r)]) hx hb dX4_collectSevens_90 hl (k := 2) rfl (show nI c9 + Int32.ofInt 1 = nI (c9 + 1) from nI_add _ 1) (by decide) rfl (fun ls hl => ?_)
                refine lv_iinc (v := nI ((a9 + 1) + 1)) (lv' := [(3, .int (nI ((a9 + 1) + 1))), (2, .int (nI (c9 + 1))), (4, .int (nI (svn g z a9))), (0, .ref rd), (1, .ref r)]) hx hb dX4_collectSevens_93 hl (k := 1) rfl (show nI (a9 + 1) + Int32.ofInt 1 = nI ((a9 + 1) + 1) from nI_add _ 1) (by decide) rfl (fun ls hl => ?_)
                refine lv_goto (tgt := 16) hx hb dX4_collectSevens_96 (by decide) ?_
                exact ih16  (c9 + 1) ((a9 + 1) + 1) (gU u1 c9 32) h_77 _ _ ls (by omega) (by omega) (by omega) (by have := hdc.1; omega) hdc.2.2 (gU_list hu hdc.2.1) (by rw [e_78, eh1, ah_up2]) f_79 f_80 f_81 f_82 hR hS (lv_sub hl [0, 1, 3, 4] rfl)
              · skip
                have c_71 : ¬ (el ≤ (a9 + 1)) := fun z9 => c_71 ((nI_leI (by omega) (by omega)).mpr z9)
                rw [if_pos (show a9 + 1 < el by omega)] at hst
                have hdc := drop_cons hst
                refine lv_aload_n hx hb dX4_collectSevens_63 rfl (lv_at hl 4 rfl) ?_
                refine lv_iload_n hx hb dX4_collectSevens_64 rfl (lv_at hl 0 rfl) ?_
                refine ah_calli (va_runV (As := [.int (nI (a9 + 1))]) (rest := [.int (nI c9), .ref ru]) ⟨hx, hb, hml, hown, hts⟩ (c_Row_sevenAt l G h1 r b tr tb n z g fr1 fb1 hne hz (by omega) hg (a9 + 1) (by omega)) (cwV 1 hts gX4_collectSevens_X6_sevenAt rfl rfl rfl (by decide +kernel) ⟨Nat.le_of_ble_eq_true rfl, Nat.le_of_ble_eq_true rfl⟩) (ah_preV hE hR hS fr1 rfl) rfl rfl hl.1 rfl (lv_room (Nat.le_of_ble_eq_true rfl)) dX4_collectSevens_65 ⟨Nat.le_of_ble_eq_true rfl, Nat.le_of_ble_eq_true rfl⟩) hS (fun r_85 h_83 H locs p_84 hR hS => ?_)
                obtain ⟨e_86, e_87⟩ := p_84
                rw [e_87] at hR
                refine ah_toi e_86 ?_
                have hs_88 := svn_lt g z (a9 + 1)
                refine lv_goto (tgt := 72) hx hb dX4_collectSevens_68 (by decide) ?_
                refine ah_calli (va_runS (As := [.int (nI (svn g z (a9 + 1)))]) (rest := [.int (nI c9), .ref ru]) ⟨hx, hb, hml, hown, hts⟩ (c_escapedUnit l G h1 (svn g z (a9 + 1)) (by omega)) (va_cwS 1 hts gX4_collectSevens_X0_escapedUnit rfl rfl rfl (by decide +kernel) ⟨Nat.le_of_ble_eq_true rfl, Nat.le_of_ble_eq_true rfl⟩) (ah_preS hE hR hS) rfl rfl hl.1 rfl (lv_room (Nat.le_of_ble_eq_true rfl)) dX4_collectSevens_72 ⟨Nat.le_of_ble_eq_true rfl, Nat.le_of_ble_eq_true rfl⟩) hS (fun r_91 h_89 H locs p_90 hR hS => ?_)
                obtain ⟨e_92, e_93⟩ := p_90
                rw [e_93] at hR
                refine ah_toi e_92 ?_
                refine ah_toi (escU_ok _).1 ?_
                refine ah_iast (i := c9) hx hb hE hR hS fu1 (by omega) (by omega) dX4_collectSevens_75 (fun H locs hR hS => ?_)
                rw [nA_upd] at hR
                obtain ⟨h_94, e_95⟩ : ∃ zz9, zz9 = ah_up h1 ru (11, .inl (G.2.2.1 0, 160, .inl (nA (gU u1 c9 (escV (svn g z (a9 + 1))))))) := ⟨_, rfl⟩
                have hR : ah_R G h_94 H := by rw [e_95]; exact hR
                have f_96 : h_94 rd = some (10, .inr (3, [.int (nI hd), .int (nI rfr), .int (nI ps), .int (nI nm), .int (nI bp), .int (nI el), .ref ru])) := by rw [e_95]; exact ah_keep fd1 fu1 (by omega)
                have f_97 : h_94 ru = some (11, .inl (G.2.2.1 0, 160, .inl (nA (gU u1 c9 (escV (svn g z (a9 + 1))))))) := by rw [e_95]; exact ah_up_s _ _ _
                have f_98 : h_94 r = some (tr, .inr (5, [.ref b, .int (nI z)])) := by rw [e_95]; exact ah_keep fr1 fu1 (by omega)
                have f_99 : h_94 b = some (tb, .inl (G.2.2.1 0, n, .inl (nA g))) := by rw [e_95]; exact ah_keep fb1 fu1 (by omega)
                refine lv_goto (tgt := 90) hx hb dX4_collectSevens_76 (by decide) ?_
                refine lv_iinc (v := nI (c9 + 1)) (lv' := [(2, .int (nI (c9 + 1))), (3, .int (nI (a9 + 1))), (4, .int (nI (svn g z a9))), (0, .ref rd), (1, .ref r)]) hx hb dX4_collectSevens_90 hl (k := 2) rfl (show nI c9 + Int32.ofInt 1 = nI (c9 + 1) from nI_add _ 1) (by decide) rfl (fun ls hl => ?_)
                refine lv_iinc (v := nI ((a9 + 1) + 1)) (lv' := [(3, .int (nI ((a9 + 1) + 1))), (2, .int (nI (c9 + 1))), (4, .int (nI (svn g z a9))), (0, .ref rd), (1, .ref r)]) hx hb dX4_collectSevens_93 hl (k := 1) rfl (show nI (a9 + 1) + Int32.ofInt 1 = nI ((a9 + 1) + 1) from nI_add _ 1) (by decide) rfl (fun ls hl => ?_)
                refine lv_goto (tgt := 16) hx hb dX4_collectSevens_96 (by decide) ?_
                exact ih16  (c9 + 1) ((a9 + 1) + 1) (gU u1 c9 (escV (svn g z (a9 + 1)))) h_94 _ _ ls (by omega) (by omega) (by omega) (by have := hdc.1; omega) hdc.2.2 (gU_list hu hdc.2.1) (by rw [e_95, eh1, ah_up2]) f_96 f_97 f_98 f_99 hR hS (lv_sub hl [0, 1, 3, 4] rfl)
    exact L16 ((el - (7 * hd)) + 1) 0 (7 * hd) uf h _ _ ls (by omega) (by omega) (by omega) (by omega) (by rw [eL]; rfl) (fun j hj => absurd hj (Nat.not_lt_zero j)) ((ah_up_id fu).symm) fd fu fr fb hR hS (lv_sub hl [0, 1, 2, 3] rfl)

set_option maxHeartbeats 4000000 in
set_option maxRecDepth 100000 in
theorem c_Rd_unitsOf (l : Launch) (G : ah_G) (h : ah_H) (rd ru hd rfr ps nm bp el : Nat) (uf : Nat → Nat) (fd : h rd = some (10, .inr (3, [.int (nI hd), .int (nI rfr), .int (nI ps), .int (nI nm), .int (nI bp), .int (nI el), .ref ru]))) (fu : h ru = some (11, .inl (G.2.2.1 0, 160, .inl (nA uf)))) (hhd : hd ≤ 1) (hbp : bp ≤ 1) (hhl : el < 256) (r b tr tb n z : Nat) (g : Nat → Nat) (fr : h r = some (tr, .inr (5, [.ref b, .int (nI z)]))) (fb : h b = some (tb, .inl (G.2.2.1 0, n, .inl (nA g)))) (hne : tr ≠ tb) (hz : z ≤ n) (hn : n < 1000) (hg : ∀ j, g j < 256) (h10 : tr ≠ 10) (h11 : tr ≠ 11) (b10 : tb ≠ 10) (b11 : tb ≠ 11) (hz9 : bp ≠ 0 → z = 2 + el) (hel : el ≤ 160) (tq : Nat) (hq11 : tq ≠ 11) : Met l yX4_unitsOf wsX4_unitsOf ({ frames := 4, cells := 1, slots := 160, locals := 89 }) (ah_Pc G [.ref rd, .ref r] h) (ah_Qq G (fun r9 h' => ∃ (q : Nat) (uf' : Nat → Nat), r9 = some q ∧ h q = none ∧ h' = ah_up (ah_up h ru (11, .inl (G.2.2.1 0, 160, .inl (nA uf')))) q (tq, .inl (G.2.2.1 0, (if bp = 0 then dS (svn g z) el (el - 7 * hd) (7 * hd) else dP g el (el - 6 * hd) (6 * hd)).length, .inl (nA (fun j => (if bp = 0 then dS (svn g z) el (el - 7 * hd) (7 * hd) else dP g el (el - 6 * hd) (6 * hd)).getD j 0)))))) 1 160 (ah_A G) := by
  refine ah_ofW (cc := cX4_unitsOf) (maxL := 3) (ret := (some (.array .int))) (by decide) rfl (Nat.le_of_ble_eq_true rfl) ?_
  intro p e s m below meth cd9 ls hx hb hr hml hown hlocks hname hts hE hR hS hl
  have hown : s.vm.findClass RX4 = some m.cls := hown
  have hl : lv_has ls 3 [(0, .ref rd), (1, .ref r)] := hl
  have k29 := hts (.fieldLink RX4 29 "TextParts$PartReader" "byPairs" "Z") (by decide +kernel)
  have hinX4 : ∀ w ∈ wsX40, w ∈ wsX4_unitsOf := by decide +kernel
  have k9 := hts (.fieldLink RX4 9 "TextParts$PartReader" "units" "[I") (by decide +kernel)
  refine lv_aload_n hx hb dX4_unitsOf_0 rfl (lv_at hl 0 rfl) ?_
  refine ah_get (ci := 3) (v := .int (nI bp)) (C := RX4) (T := TX4) (N := 7) hx hb hE hR hts hinX4 hown fd rfl 4 (by decide) k29 (fun _ h9 => h9) rfl dX4_unitsOf_1 ?_
  refine lv_if_eq (tgt := 15) hx hb dX4_unitsOf_4 (by decide) (fun c_1 => ?_) (fun c_1 => ?_)
  · skip
    have c_1 : bp = 0 := (zi_eq (by omega)).mp c_1
    refine lv_aload_n hx hb dX4_unitsOf_15 rfl (lv_at hl 0 rfl) ?_
    refine lv_aload_n hx hb dX4_unitsOf_16 rfl (lv_at hl 1 rfl) ?_
    refine ah_calli (va_runV (As := [.ref r]) (rest := []) ⟨hx, hb, hml, hown, hts⟩ (c_Rd_collectSevens l G h rd ru hd rfr ps nm bp el uf fd fu hhd hbp hhl r b tr tb n z g fr fb hne hz hn hg h10 h11 b10 b11 hel) (cwV 1 hts gX4_unitsOf_X4_collectSevens rfl rfl rfl (by decide +kernel) ⟨Nat.le_of_ble_eq_true rfl, Nat.le_of_ble_eq_true rfl⟩) (ah_preV hE hR hS fd rfl) rfl rfl hl.1 rfl (lv_room (Nat.le_of_ble_eq_true rfl)) dX4_unitsOf_17 ⟨Nat.le_of_ble_eq_true rfl, Nat.le_of_ble_eq_true rfl⟩) hS (fun r_4 h_2 H locs p_3 hR hS => ?_)
    obtain ⟨e9, uf1, hu9, eh9⟩ := p_3
    have eL : (if bp = 0 then dS (svn g z) el (el - 7 * hd) (7 * hd) else dP g el (el - 6 * hd) (6 * hd)) = dS (svn g z) el (el - 7 * hd) (7 * hd) := if_pos c_1
    rw [← eL] at e9 hu9
    have hLl : (if bp = 0 then dS (svn g z) el (el - 7 * hd) (7 * hd) else dP g el (el - 6 * hd) (6 * hd)).length ≤ 160 := by rw [eL]; have := dS_len (sv := svn g z) (el := el) (el - 7 * hd) (7 * hd); omega
    have f_5 : h_2 rd = some (10, .inr (3, [.int (nI hd), .int (nI rfr), .int (nI ps), .int (nI nm), .int (nI bp), .int (nI el), .ref ru])) := by rw [eh9]; exact ah_keep fd fu (by omega)
    have f_6 : h_2 ru = some (11, .inl (G.2.2.1 0, 160, .inl (nA uf1))) := by rw [eh9]; exact ah_up_s _ _ _
    have f_7 : h_2 r = some (tr, .inr (5, [.ref b, .int (nI z)])) := by rw [eh9]; exact ah_keep fr fu (by omega)
    have f_8 : h_2 b = some (tb, .inl (G.2.2.1 0, n, .inl (nA g))) := by rw [eh9]; exact ah_keep fb fu (by omega)
    refine ah_toi e9 ?_
    refine lv_istore_n (lv' := [(2, .int (nI ((if bp = 0 then dS (svn g z) el (el - 7 * hd) (7 * hd) else dP g el (el - 6 * hd) (6 * hd)).length))), (0, .ref rd), (1, .ref r)]) hx hb dX4_unitsOf_20 rfl hl (by decide) rfl (fun ls hl => ?_)
    refine lv_aload_n hx hb dX4_unitsOf_21 rfl (lv_at hl 1 rfl) ?_
    refine ah_get (ci := 3) (v := .ref ru) (C := RX4) (T := TX4) (N := 7) hx hb hE hR hts hinX4 hown f_5 rfl 6 (by decide) k9 (fun _ h9 => h9) rfl dX4_unitsOf_22 ?_
    refine lv_iload_n hx hb dX4_unitsOf_25 rfl (lv_at hl 0 rfl) ?_
    refine ah_callq (va_runS (As := [.ref ru, .int (nI ((if bp = 0 then dS (svn g z) el (el - 7 * hd) (7 * hd) else dP g el (el - 6 * hd) (6 * hd)).length))]) (rest := []) ⟨hx, hb, hml, hown, hts⟩ (c_copyOf l G h_2 ru 11 tq 160 ((if bp = 0 then dS (svn g z) el (el - 7 * hd) (7 * hd) else dP g el (el - 6 * hd) (6 * hd)).length) uf1 (fun j => (if bp = 0 then dS (svn g z) el (el - 7 * hd) (7 * hd) else dP g el (el - 6 * hd) (6 * hd)).getD j 0) f_6 (Ne.symm hq11) hLl (by decide) hu9) (va_cwS 2 hts gX4_unitsOf_J7_copyOf_59c91 rfl rfl rfl (by decide +kernel) ⟨Nat.le_of_ble_eq_true rfl, Nat.le_of_ble_eq_true rfl⟩) (ah_preS hE hR hS) rfl rfl hl.1 rfl (lv_room (Nat.le_of_ble_eq_true rfl)) dX4_unitsOf_26 ⟨Nat.le_of_ble_eq_true rfl, show 0 + 0 + (if bp = 0 then dS (svn g z) el (el - 7 * hd) (7 * hd) else dP g el (el - 6 * hd) (6 * hd)).length ≤ 160 by omega⟩) hS (fun r_11 h_9 H locs p_10 hR hS => ?_)
    obtain ⟨q9, er9, hq9, ec9⟩ := p_10
    rw [er9]
    refine W.widen (k := 1) (n := 160) (by omega) (by omega) ?_
    refine ah_aret (r := (some q9)) hx hb hr (by first | exact Or.inl ⟨_, rfl⟩ | exact Or.inr ⟨_, rfl⟩) hlocks hR hS dX4_unitsOf_29 rfl ?_
    refine ⟨q9, uf1, rfl, ?_, ?_⟩
    · rw [eh9] at hq9
      by_cases e8 : q9 = ru
      · subst e8; rw [ah_up_s] at hq9; cases hq9
      · rw [ah_up_n e8] at hq9; exact hq9
    · rw [ec9, eh9]
  · skip
    have c_1 : ¬ (bp = 0) := fun z9 => c_1 ((zi_eq (by omega)).mpr z9)
    refine lv_aload_n hx hb dX4_unitsOf_7 rfl (lv_at hl 0 rfl) ?_
    refine lv_aload_n hx hb dX4_unitsOf_8 rfl (lv_at hl 1 rfl) ?_
    refine ah_calli (va_runV (As := [.ref r]) (rest := []) ⟨hx, hb, hml, hown, hts⟩ (c_Rd_collectPairs l G h rd ru hd rfr ps nm bp el uf fd fu hhd hbp hhl r b tr tb n z g fr fb hne hz hn hg h10 h11 b10 b11 (hz9 c_1) hel) (cwV 1 hts gX4_unitsOf_X4_collectPairs rfl rfl rfl (by decide +kernel) ⟨Nat.le_of_ble_eq_true rfl, Nat.le_of_ble_eq_true rfl⟩) (ah_preV hE hR hS fd rfl) rfl rfl hl.1 rfl (lv_room (Nat.le_of_ble_eq_true rfl)) dX4_unitsOf_9 ⟨Nat.le_of_ble_eq_true rfl, Nat.le_of_ble_eq_true rfl⟩) hS (fun r_14 h_12 H locs p_13 hR hS => ?_)
    obtain ⟨e9, uf1, hu9, eh9⟩ := p_13
    have eL : (if bp = 0 then dS (svn g z) el (el - 7 * hd) (7 * hd) else dP g el (el - 6 * hd) (6 * hd)) = dP g el (el - 6 * hd) (6 * hd) := if_neg c_1
    rw [← eL] at e9 hu9
    have hLl : (if bp = 0 then dS (svn g z) el (el - 7 * hd) (7 * hd) else dP g el (el - 6 * hd) (6 * hd)).length ≤ 160 := by rw [eL]; have := dP_len (g := g) (el := el) (el - 6 * hd) (6 * hd); omega
    have f_15 : h_12 rd = some (10, .inr (3, [.int (nI hd), .int (nI rfr), .int (nI ps), .int (nI nm), .int (nI bp), .int (nI el), .ref ru])) := by rw [eh9]; exact ah_keep fd fu (by omega)
    have f_16 : h_12 ru = some (11, .inl (G.2.2.1 0, 160, .inl (nA uf1))) := by rw [eh9]; exact ah_up_s _ _ _
    have f_17 : h_12 r = some (tr, .inr (5, [.ref b, .int (nI z)])) := by rw [eh9]; exact ah_keep fr fu (by omega)
    have f_18 : h_12 b = some (tb, .inl (G.2.2.1 0, n, .inl (nA g))) := by rw [eh9]; exact ah_keep fb fu (by omega)
    refine ah_toi e9 ?_
    refine lv_goto (tgt := 20) hx hb dX4_unitsOf_12 (by decide) ?_
    refine lv_istore_n (lv' := [(2, .int (nI ((if bp = 0 then dS (svn g z) el (el - 7 * hd) (7 * hd) else dP g el (el - 6 * hd) (6 * hd)).length))), (0, .ref rd), (1, .ref r)]) hx hb dX4_unitsOf_20 rfl hl (by decide) rfl (fun ls hl => ?_)
    refine lv_aload_n hx hb dX4_unitsOf_21 rfl (lv_at hl 1 rfl) ?_
    refine ah_get (ci := 3) (v := .ref ru) (C := RX4) (T := TX4) (N := 7) hx hb hE hR hts hinX4 hown f_15 rfl 6 (by decide) k9 (fun _ h9 => h9) rfl dX4_unitsOf_22 ?_
    refine lv_iload_n hx hb dX4_unitsOf_25 rfl (lv_at hl 0 rfl) ?_
    refine ah_callq (va_runS (As := [.ref ru, .int (nI ((if bp = 0 then dS (svn g z) el (el - 7 * hd) (7 * hd) else dP g el (el - 6 * hd) (6 * hd)).length))]) (rest := []) ⟨hx, hb, hml, hown, hts⟩ (c_copyOf l G h_12 ru 11 tq 160 ((if bp = 0 then dS (svn g z) el (el - 7 * hd) (7 * hd) else dP g el (el - 6 * hd) (6 * hd)).length) uf1 (fun j => (if bp = 0 then dS (svn g z) el (el - 7 * hd) (7 * hd) else dP g el (el - 6 * hd) (6 * hd)).getD j 0) f_16 (Ne.symm hq11) hLl (by decide) hu9) (va_cwS 2 hts gX4_unitsOf_J7_copyOf_59c91 rfl rfl rfl (by decide +kernel) ⟨Nat.le_of_ble_eq_true rfl, Nat.le_of_ble_eq_true rfl⟩) (ah_preS hE hR hS) rfl rfl hl.1 rfl (lv_room (Nat.le_of_ble_eq_true rfl)) dX4_unitsOf_26 ⟨Nat.le_of_ble_eq_true rfl, show 0 + 0 + (if bp = 0 then dS (svn g z) el (el - 7 * hd) (7 * hd) else dP g el (el - 6 * hd) (6 * hd)).length ≤ 160 by omega⟩) hS (fun r_21 h_19 H locs p_20 hR hS => ?_)
    obtain ⟨q9, er9, hq9, ec9⟩ := p_20
    rw [er9]
    refine W.widen (k := 1) (n := 160) (by omega) (by omega) ?_
    refine ah_aret (r := (some q9)) hx hb hr (by first | exact Or.inl ⟨_, rfl⟩ | exact Or.inr ⟨_, rfl⟩) hlocks hR hS dX4_unitsOf_29 rfl ?_
    refine ⟨q9, uf1, rfl, ?_, ?_⟩
    · rw [eh9] at hq9
      by_cases e8 : q9 = ru
      · subst e8; rw [ah_up_s] at hq9; cases hq9
      · rw [ah_up_n e8] at hq9; exact hq9
    · rw [ec9, eh9]
