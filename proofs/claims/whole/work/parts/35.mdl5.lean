/-! ===== TextPartsModel: what is wrong with a part, its units ===== -/
def bt (pa : Nat → Nat) (k : Nat) : Nat := pa (2 + k / 8) / 2 ^ (k % 8) % 2
def s7L (pa : Nat → Nat) (i : Nat) : Nat → Nat
  | 0 => 0
  | b + 1 => s7L pa i b + bt pa (7 * i + b) * 2 ^ b
theorem v7 : ∀ V, V < 128 → 0 + V / 2 ^ 0 % 2 * 2 ^ 0 + V / 2 ^ 1 % 2 * 2 ^ 1 + V / 2 ^ 2 % 2 * 2 ^ 2 + V / 2 ^ 3 % 2 * 2 ^ 3 + V / 2 ^ 4 % 2 * 2 ^ 4 + V / 2 ^ 5 % 2 * 2 ^ 5 + V / 2 ^ 6 % 2 * 2 ^ 6 = V := by decide +kernel
theorem bitX {lo hi : Nat} (hl : lo < 256) : ∀ r, r < 8 → ∀ b, b < 7 → (lo + 256 * hi) / 2 ^ r % 128 / 2 ^ b % 2 = if r + b < 8 then lo / 2 ^ (r + b) % 2 else hi / 2 ^ (r + b - 8) % 2 := by
  intro r hr b hb
  rcases (show r = 0 ∨ r = 1 ∨ r = 2 ∨ r = 3 ∨ r = 4 ∨ r = 5 ∨ r = 6 ∨ r = 7 by omega) with q | q | q | q | q | q | q | q <;> subst q <;>
    rcases (show b = 0 ∨ b = 1 ∨ b = 2 ∨ b = 3 ∨ b = 4 ∨ b = 5 ∨ b = 6 by omega) with q | q | q | q | q | q | q <;> subst q <;> simp only [Nat.reduceAdd, Nat.reduceSub, Nat.reducePow, Nat.reduceLT, if_true, if_false, Nat.lt_irrefl] <;> omega
/-- seven number i, whatever stands behind the row's end -/
def s7 (pa : Nat → Nat) (i : Nat) : Nat := (pa (2 + 7 * i / 8) + 256 * pa (2 + 7 * i / 8 + 1)) / 2 ^ (7 * i % 8) % 128
theorem bt_s7 {pa : Nat → Nat} (hpa : ∀ j, pa j < 256) (i b : Nat) (hb : b < 7) : bt pa (7 * i + b) = s7 pa i / 2 ^ b % 2 := by
  unfold s7
  rw [bitX (hpa _) (7 * i % 8) (Nat.mod_lt _ (by decide)) b hb]
  unfold bt
  by_cases h : 7 * i % 8 + b < 8
  · rw [if_pos h, show (7 * i + b) / 8 = 7 * i / 8 by omega, show (7 * i + b) % 8 = 7 * i % 8 + b by omega]
  · rw [if_neg h, show 2 + (7 * i + b) / 8 = 2 + 7 * i / 8 + 1 by omega, show (7 * i + b) % 8 = 7 * i % 8 + b - 8 by omega]
theorem s7L_7 {pa : Nat → Nat} (hpa : ∀ j, pa j < 256) (i : Nat) : s7L pa i 7 = s7 pa i := by
  have h := v7 (s7 pa i) (Nat.mod_lt _ (by decide))
  have e : s7L pa i 7 = 0 + bt pa (7 * i + 0) * 2 ^ 0 + bt pa (7 * i + 1) * 2 ^ 1 + bt pa (7 * i + 2) * 2 ^ 2 + bt pa (7 * i + 3) * 2 ^ 3 + bt pa (7 * i + 4) * 2 ^ 4 + bt pa (7 * i + 5) * 2 ^ 5 + bt pa (7 * i + 6) * 2 ^ 6 := rfl
  rw [e, bt_s7 hpa i 0 (by decide), bt_s7 hpa i 1 (by decide), bt_s7 hpa i 2 (by decide), bt_s7 hpa i 3 (by decide), bt_s7 hpa i 4 (by decide), bt_s7 hpa i 5 (by decide), bt_s7 hpa i 6 (by decide)]
  exact h
theorem bt_le (pa : Nat → Nat) (k : Nat) : bt pa k < 2 := Nat.mod_lt _ (by decide)
theorem s7L_lt (pa : Nat → Nat) (i : Nat) : ∀ b, s7L pa i b < 2 ^ b
  | 0 => (show 0 < 1 by decide)
  | b + 1 => by
    have h1 := s7L_lt pa i b
    have h2 : bt pa (7 * i + b) * 2 ^ b ≤ 1 * 2 ^ b := Nat.mul_le_mul_right _ (by have := bt_le pa (7 * i + b); omega)
    show s7L pa i b + bt pa (7 * i + b) * 2 ^ b < 2 ^ (b + 1)
    rw [Nat.pow_succ]; omega
theorem s7_svn {pa : Nat → Nat} {z k : Nat} (hpa : ∀ j, pa j < 256) (h : 7 * k + 6 < 8 * (z - 2)) : s7 pa k = svn pa z k := by
  unfold s7 svn bz
  rw [if_pos (show 2 + 7 * k / 8 < z by omega)]
  by_cases q : 2 + 7 * k / 8 + 1 < z
  · rw [if_pos q]
  · rw [if_neg q]
    have hr : 7 * k % 8 = 0 ∨ 7 * k % 8 = 1 := by omega
    have hl := hpa (2 + 7 * k / 8)
    rcases hr with r | r <;> rw [r] <;> simp only [Nat.reducePow] <;> omega
theorem bt_bz {pa : Nat → Nat} {z k : Nat} (h : 2 + k / 8 < z) : bitS pa z k = decide (bt pa k = 1) := by
  unfold bitS bz bt; rw [if_pos h]
theorem fl_3 {g : Nat → Nat} {z : Nat} (h1 : ¬ z < 2) (h2 : g 0 = 0 ∨ g 0 = 1 ∨ g 0 = 4 ∨ g 0 = 5) (h3 : wszP (g 0 / 4) (g 1) (z - 2)) : fault g z = 3 := by
  unfold fault; rw [if_neg h1, if_neg (fun q => q h2), if_pos h3]
theorem fl_4 {g : Nat → Nat} {z : Nat} (h1 : ¬ z < 2) (h2 : g 0 = 0 ∨ g 0 = 1 ∨ g 0 = 4 ∨ g 0 = 5) (h3 : ¬ wszP (g 0 / 4) (g 1) (z - 2)) (h4 : g 0 % 2 ≠ 0 ∧ (g 1 < hlim (g 0 / 4) ∨ hdrBad g)) : fault g z = 4 := by
  unfold fault; rw [if_neg h1, if_neg (fun q => q h2), if_neg h3, if_pos h4]
theorem fl_5 {g : Nat → Nat} {z : Nat} (h1 : ¬ z < 2) (h2 : g 0 = 0 ∨ g 0 = 1 ∨ g 0 = 4 ∨ g 0 = 5) (h3 : ¬ wszP (g 0 / 4) (g 1) (z - 2)) (h4 : ¬ (g 0 % 2 ≠ 0 ∧ (g 1 < hlim (g 0 / 4) ∨ hdrBad g))) (h5 : g 0 / 4 ≠ 0 ∧ g 1 % 2 ≠ 0) : fault g z = 5 := by
  unfold fault; rw [if_neg h1, if_neg (fun q => q h2), if_neg h3, if_neg h4, if_pos h5]
theorem fl_6 {g : Nat → Nat} {z : Nat} (h1 : ¬ z < 2) (h2 : g 0 = 0 ∨ g 0 = 1 ∨ g 0 = 4 ∨ g 0 = 5) (h3 : ¬ wszP (g 0 / 4) (g 1) (z - 2)) (h4 : ¬ (g 0 % 2 ≠ 0 ∧ (g 1 < hlim (g 0 / 4) ∨ hdrBad g))) (h5 : ¬ (g 0 / 4 ≠ 0 ∧ g 1 % 2 ≠ 0)) (h6 : g 0 / 4 = 0 ∧ strayB g z (g 0 % 2) (g 1) = true) : fault g z = 6 := by
  unfold fault; rw [if_neg h1, if_neg (fun q => q h2), if_neg h3, if_neg h4, if_neg h5, if_pos h6]
theorem fl_0 {g : Nat → Nat} {z : Nat} (h1 : ¬ z < 2) (h2 : g 0 = 0 ∨ g 0 = 1 ∨ g 0 = 4 ∨ g 0 = 5) (h3 : ¬ wszP (g 0 / 4) (g 1) (z - 2)) (h4 : ¬ (g 0 % 2 ≠ 0 ∧ (g 1 < hlim (g 0 / 4) ∨ hdrBad g))) (h5 : ¬ (g 0 / 4 ≠ 0 ∧ g 1 % 2 ≠ 0)) (h6 : ¬ (g 0 / 4 = 0 ∧ strayB g z (g 0 % 2) (g 1) = true)) : fault g z = 0 := by
  unfold fault; rw [if_neg h1, if_neg (fun q => q h2), if_neg h3, if_neg h4, if_neg h5, if_neg h6]

set_option maxHeartbeats 4000000 in
set_option maxRecDepth 100000 in
theorem c_m_bit (l : Launch) (G : ah_G) (h : ah_H) (y : Nat) (A : Nat → Nat) (k0 n rf pm zh lc c pt gv un : Nat) (fy : h y = some (20, .inr (8, mF A k0 n rf pm zh lc c pt gv un))) (pa : Nat → Nat) (fa24 : h (A 24) = some (44, .inl (G.2.2.1 0, 200, .inl (nA pa)))) (hpa : ∀ j, pa j < 256) (k : Nat) (hk : k < 1584) : Met l yX9_bit wsX9_bit ({ frames := 0, cells := 0, slots := 0, locals := 0 }) (ah_Pc G [.ref y, .int (nI k)] h) (ah_Qi G (fun v h' => v = nI (bt pa k) ∧ h' = h)) 0 0 (ah_A G) := by
  refine ah_ofW (cc := cX9_bit) (maxL := 2) (ret := (some .int)) (by decide) rfl (Nat.le_of_ble_eq_true rfl) ?_
  intro p e s m below meth cd9 ls hx hb hr hml hown hlocks hname hts hE hR hS hl
  have hown : s.vm.findClass RX9 = some m.cls := hown
  have hl : lv_has ls 2 [(0, .ref y), (1, .int (nI k))] := hl
  have k58 := hts (.fieldLink RX9 58 "TextPartsModel" "part" "[I") (by decide +kernel)
  have hinX9 : ∀ w ∈ wsX90, w ∈ wsX9_bit := by decide +kernel
  refine lv_aload_n hx hb dX9_bit_0 rfl (lv_at hl 0 rfl) ?_
  refine ah_get (ci := 8) (v := .ref (A 24)) (C := RX9) (T := TX9) (N := 27) hx hb hE hR hts hinX9 hown fy rfl 24 (by decide) k58 (fun _ h9 => h9) rfl dX9_bit_1 ?_
  refine lv_iconst (v := nI 2) hx hb dX9_bit_4 (by decide) ?_
  refine lv_iload_n hx hb dX9_bit_5 rfl (lv_at hl 1 rfl) ?_
  refine lv_bipush (v := nI 8) hx hb dX9_bit_6 (by decide) ?_
  refine lv_idiv hx hb dX9_bit_8 (by decide) ?_
  refine ah_toi (v := nI (k / 8)) (pk_div (by omega) (by omega) (by omega)) ?_
  refine lv_iadd hx hb dX9_bit_9 ?_
  refine ah_toi (v := nI (2 + (k / 8))) (nI_add _ _) ?_
  refine ah_iald (i := (2 + (k / 8))) hx hb hE hR fa24 (by omega) (by omega) dX9_bit_10 ?_
  refine ah_toi (v := nI (pa (2 + (k / 8)))) rfl ?_
  refine lv_iload_n hx hb dX9_bit_11 rfl (lv_at hl 1 rfl) ?_
  refine lv_bipush (v := nI 8) hx hb dX9_bit_12 (by decide) ?_
  refine lv_irem hx hb dX9_bit_14 (by decide) ?_
  refine ah_toi (v := nI (k % 8)) (pk_rem (by omega) (by omega) (by omega)) ?_
  have hp9 := hpa (2 + k / 8)
  refine lv_ishr hx hb dX9_bit_15 ?_
  refine ah_toi (v := nI (pa (2 + k / 8) / 2 ^ (k % 8))) (ny_shr (by omega) (by omega)) ?_
  refine lv_iconst (v := nI 1) hx hb dX9_bit_16 (by decide) ?_
  refine lv_iand hx hb dX9_bit_17 ?_
  refine ah_toi (v := nI (bt pa k)) (ny_a1 _) ?_
  refine ah_iret (v := nI (bt pa k)) hx hb hr hlocks hR hS dX9_bit_18 ?_
  exact ⟨rfl, rfl⟩

set_option maxHeartbeats 4000000 in
set_option maxRecDepth 100000 in
theorem c_m_seven (l : Launch) (G : ah_G) (h : ah_H) (y : Nat) (A : Nat → Nat) (k0 n rf pm zh lc c pt gv un : Nat) (fy : h y = some (20, .inr (8, mF A k0 n rf pm zh lc c pt gv un))) (pa : Nat → Nat) (fa24 : h (A 24) = some (44, .inl (G.2.2.1 0, 200, .inl (nA pa)))) (hpa : ∀ j, pa j < 256) (k : Nat) (hk : k < 200) : Met l yX9_seven wsX9_seven ({ frames := 1, cells := 0, slots := 0, locals := 21 }) (ah_Pc G [.ref y, .int (nI k)] h) (ah_Qi G (fun v h' => v = nI (s7 pa k) ∧ h' = h)) 0 0 (ah_A G) := by
  refine ah_ofW (cc := cX9_seven) (maxL := 4) (ret := (some .int)) (by decide) rfl (Nat.le_of_ble_eq_true rfl) ?_
  intro p e s m below meth cd9 ls hx hb hr hml hown hlocks hname hts hE hR hS hl
  have hown : s.vm.findClass RX9 = some m.cls := hown
  have hl : lv_has ls 4 [(0, .ref y), (1, .int (nI k))] := hl
  refine lv_iconst (v := nI 0) hx hb dX9_seven_0 (by decide) ?_
  refine lv_istore_n (lv' := [(2, .int (nI 0)), (0, .ref y), (1, .int (nI k))]) hx hb dX9_seven_1 rfl hl (by decide) rfl (fun ls hl => ?_)
  refine lv_iconst (v := nI 0) hx hb dX9_seven_2 (by decide) ?_
  refine lv_istore_n (lv' := [(3, .int (nI 0)), (2, .int (nI 0)), (0, .ref y), (1, .int (nI k))]) hx hb dX9_seven_3 rfl hl (by decide) rfl (fun ls hl => ?_)
  have L4 : ∀ (N4 : Nat) (b : Nat) (H : Heap) (locs : List Loc) (ls : Array Slot), 7 - b < N4 → (b ≤ 7) → (h y = some (20, .inr (8, mF A k0 n rf pm zh lc c pt gv un))) → (h (A 24) = some (44, .inl (G.2.2.1 0, 200, .inl (nA pa)))) → ah_R G h H → va_S (ah_A G) s.heap H locs → lv_has ls 4 [(3, .int (nI b)), (2, .int (nI (s7L pa k b))), (0, .ref y), (1, .int (nI k))] → W p l e ({ frames := 1, cells := 0, slots := 0, locals := 21 }) s m ([.ref y, .int (nI k)] : List Value).toArray below meth cd9 H locs 0 0 (MQ below (ah_Qi G (fun v h' => v = nI (s7 pa k) ∧ h' = h)) ([.ref y, .int (nI k)] : List Value).toArray s 0 0 (ah_A G)) (F0 m 4 ls []) := by
    intro N4
    induction N4 with
    | zero => intro b  H locs ls hN; exact absurd hN (Nat.not_lt_zero _)
    | succ N4 ih4 =>
      intro b  H locs ls hN4 hb7 fy fa24 hR hS hl
      refine lv_iload_n hx hb dX9_seven_4 rfl (lv_at hl 0 rfl) ?_
      refine lv_bipush (v := nI 7) hx hb dX9_seven_5 (by decide) ?_
      refine lv_icmp_ge (tgt := 31) hx hb dX9_seven_7 (by decide) (fun c_1 => ?_) (fun c_1 => ?_)
      · skip
        have c_1 : 7 ≤ b := (nI_leI (by omega) (by omega)).mp c_1
        refine lv_iload_n hx hb dX9_seven_31 rfl (lv_at hl 1 rfl) ?_
        refine ah_iret (v := nI (s7L pa k b)) hx hb hr hlocks hR hS dX9_seven_32 ?_
        exact ⟨by rw [show b = 7 by omega, s7L_7 hpa], rfl⟩
      · skip
        have c_1 : ¬ (7 ≤ b) := fun z9 => c_1 ((nI_leI (by omega) (by omega)).mpr z9)
        refine lv_iload_n hx hb dX9_seven_10 rfl (lv_at hl 1 rfl) ?_
        refine lv_aload_n hx hb dX9_seven_11 rfl (lv_at hl 2 rfl) ?_
        refine lv_bipush (v := nI 7) hx hb dX9_seven_12 (by decide) ?_
        refine lv_iload_n hx hb dX9_seven_14 rfl (lv_at hl 3 rfl) ?_
        refine lv_imul hx hb dX9_seven_15 ?_
        refine ah_toi (v := nI (7 * k)) (pk_mul _ _) ?_
        refine lv_iload_n hx hb dX9_seven_16 rfl (lv_at hl 0 rfl) ?_
        refine lv_iadd hx hb dX9_seven_17 ?_
        refine ah_toi (v := nI ((7 * k) + b)) (nI_add _ _) ?_
        refine ah_calli (va_runV (As := [.int (nI ((7 * k) + b))]) (rest := [.int (nI (s7L pa k b))]) ⟨hx, hb, hml, hown, hts⟩ (c_m_bit l G h y A k0 n rf pm zh lc c pt gv un fy pa fa24 hpa (7 * k + b) (by omega)) (cwV 1 hts gX9_seven_X9_bit rfl rfl rfl (by decide +kernel) ⟨Nat.le_of_ble_eq_true rfl, Nat.le_of_ble_eq_true rfl⟩) (ah_preV hE hR hS fy rfl) rfl rfl hl.1 rfl (lv_room (Nat.le_of_ble_eq_true rfl)) dX9_seven_18 ⟨Nat.le_of_ble_eq_true rfl, Nat.le_of_ble_eq_true rfl⟩) hS (fun r_4 h_2 H locs p_3 hR hS => ?_)
        obtain ⟨e_5, e_6⟩ := p_3
        rw [e_6] at hR
        refine ah_toi e_5 ?_
        refine lv_iload_n hx hb dX9_seven_21 rfl (lv_at hl 0 rfl) ?_
        have hp7 : 2 ^ b ≤ 2 ^ 7 := Nat.pow_le_pow_right (by decide) hb7
        have hb1 := bt_le pa (7 * k + b)
        have hm7 : bt pa (7 * k + b) * 2 ^ b ≤ 1 * 2 ^ 7 := Nat.mul_le_mul (by omega) hp7
        refine lv_ishl hx hb dX9_seven_22 ?_
        refine ah_toi (v := nI (bt pa (7 * k + b) * 2 ^ b)) (ny_shl (by omega) (by omega)) ?_
        refine lv_iadd hx hb dX9_seven_23 ?_
        refine ah_toi (v := nI (s7L pa k (b + 1))) (nI_add _ _) ?_
        refine lv_istore_n (lv' := [(2, .int (nI (s7L pa k (b + 1)))), (3, .int (nI b)), (0, .ref y), (1, .int (nI k))]) hx hb dX9_seven_24 rfl hl (by decide) rfl (fun ls hl => ?_)
        refine lv_iinc (v := nI (b + 1)) (lv' := [(3, .int (nI (b + 1))), (2, .int (nI (s7L pa k (b + 1)))), (0, .ref y), (1, .int (nI k))]) hx hb dX9_seven_25 hl (k := 1) rfl (show nI b + Int32.ofInt 1 = nI (b + 1) from nI_add _ 1) (by decide) rfl (fun ls hl => ?_)
        refine lv_goto (tgt := 4) hx hb dX9_seven_28 (by decide) ?_
        exact ih4  (b + 1) _ _ ls (by omega) (by omega) fy fa24 hR hS (lv_sub hl [0, 1, 2, 3] rfl)
  exact L4 ((7 - 0) + 1) 0 _ _ ls (by omega) (by omega) fy fa24 hR hS (lv_sub hl [0, 1, 2, 3] rfl)

set_option maxHeartbeats 4000000 in
set_option maxRecDepth 100000 in
theorem c_m_alone (l : Launch) (G : ah_G) (h : ah_H) (y : Nat) (A : Nat → Nat) (k0 n rf pm zh lc c pt gv un : Nat) (fy : h y = some (20, .inr (8, mF A k0 n rf pm zh lc c pt gv un))) (fa1 : h (A 1) = some (21, .inl (G.2.2.1 0, 128, .inl plT))) (k : Nat) (hk : k < 128) : Met l yX9_alone wsX9_alone ({ frames := 0, cells := 0, slots := 0, locals := 0 }) (ah_Pc G [.ref y, .int (nI k)] h) (ah_Qi G (fun v h' => v = nI (plainV k) ∧ h' = h)) 0 0 (ah_A G) := by
  refine ah_ofW (cc := cX9_alone) (maxL := 2) (ret := (some .int)) (by decide) rfl (Nat.le_of_ble_eq_true rfl) ?_
  intro p e s m below meth cd9 ls hx hb hr hml hown hlocks hname hts hE hR hS hl
  have hown : s.vm.findClass RX9 = some m.cls := hown
  have hl : lv_has ls 2 [(0, .ref y), (1, .int (nI k))] := hl
  have k7 := hts (.fieldLink RX9 7 "TextPartsModel" "plain" "[I") (by decide +kernel)
  have hinX9 : ∀ w ∈ wsX90, w ∈ wsX9_alone := by decide +kernel
  refine lv_aload_n hx hb dX9_alone_0 rfl (lv_at hl 0 rfl) ?_
  refine ah_get (ci := 8) (v := .ref (A 1)) (C := RX9) (T := TX9) (N := 27) hx hb hE hR hts hinX9 hown fy rfl 1 (by decide) k7 (fun _ h9 => h9) rfl dX9_alone_1 ?_
  refine lv_iload_n hx hb dX9_alone_4 rfl (lv_at hl 1 rfl) ?_
  refine ah_iald (i := k) hx hb hE hR fa1 (by omega) (by omega) dX9_alone_5 ?_
  refine lv_iconst (v := (-1)) hx hb dX9_alone_6 (by decide) ?_
  refine lv_icmp_ne (tgt := 15) hx hb dX9_alone_7 (by decide) (fun c_1 => ?_) (fun c_1 => ?_)
  · skip
    refine lv_aload_n hx hb dX9_alone_15 rfl (lv_at hl 0 rfl) ?_
    refine ah_get (ci := 8) (v := .ref (A 1)) (C := RX9) (T := TX9) (N := 27) hx hb hE hR hts hinX9 hown fy rfl 1 (by decide) k7 (fun _ h9 => h9) rfl dX9_alone_16 ?_
    refine lv_iload_n hx hb dX9_alone_19 rfl (lv_at hl 1 rfl) ?_
    refine ah_iald (i := k) hx hb hE hR fa1 (by omega) (by omega) dX9_alone_20 ?_
    refine ah_iret (v := plT k) hx hb hr hlocks hR hS dX9_alone_21 ?_
    exact ⟨by rw [← (plainU_ok k).1]; exact (if_neg c_1).symm, rfl⟩
  · skip
    refine lv_bipush (v := nI 63) hx hb dX9_alone_10 (by decide) ?_
    refine lv_goto (tgt := 21) hx hb dX9_alone_12 (by decide) ?_
    refine ah_iret (v := nI 63) hx hb hr hlocks hR hS dX9_alone_21 ?_
    exact ⟨by rw [← (plainU_ok k).1]; exact (if_pos c_1).symm, rfl⟩

set_option maxHeartbeats 4000000 in
set_option maxRecDepth 100000 in
theorem c_m_fault (l : Launch) (G : ah_G) (h : ah_H) (y : Nat) (A : Nat → Nat) (k0 n rf pm zh lc c pt gv un : Nat) (fy : h y = some (20, .inr (8, mF A k0 n rf pm zh lc c pt gv un))) (fa1 : h (A 1) = some (21, .inl (G.2.2.1 0, 128, .inl plT))) (fa2 : h (A 2) = some (22, .inl (G.2.2.1 0, 128, .inl esT))) (pa : Nat → Nat) (fa24 : h (A 24) = some (44, .inl (G.2.2.1 0, 200, .inl (nA pa)))) (ua : Nat → Nat) (fa26 : h (A 26) = some (46, .inl (G.2.2.1 0, 200, .inl (nA ua)))) (hpa : ∀ j, pa j < 256) (hgv : gv ≤ 200) : Met l yX9_fault wsX9_fault ({ frames := 2, cells := 0, slots := 0, locals := 44 }) (ah_Pc G [.ref y] h) (ah_Qi G (fun v h' => v = nI (fault pa gv) ∧ (fault pa gv ≠ 0 → h' = h) ∧ (fault pa gv = 0 → ∃ u2 : Nat → Nat, h' y = some (20, .inr (8, mF A k0 n rf pm zh lc c pt gv ((unitsL pa gv).length))) ∧ h' (A 26) = some (46, .inl (G.2.2.1 0, 200, .inl (nA u2))) ∧ agr (fun t => t ≠ 20 ∧ t ≠ 46) h h' ∧ ∀ j, j < (unitsL pa gv).length → u2 j = (unitsL pa gv).getD j 0))) 0 0 (ah_A G) := by
  refine ah_ofW (cc := cX9_fault) (maxL := 10) (ret := (some .int)) (by decide) rfl (Nat.le_of_ble_eq_true rfl) ?_
  intro p e s m below meth cd9 ls hx hb hr hml hown hlocks hname hts hE hR hS hl
  have hown : s.vm.findClass RX9 = some m.cls := hown
  have hl : lv_has ls 10 [(0, .ref y)] := hl
  have k126 := hts (.fieldLink RX9 126 "TextPartsModel" "given" "I") (by decide +kernel)
  have hinX9 : ∀ w ∈ wsX90, w ∈ wsX9_fault := by decide +kernel
  have k58 := hts (.fieldLink RX9 58 "TextPartsModel" "part" "[I") (by decide +kernel)
  have k129 := hts (.fieldLink RX9 129 "TextPartsModel" "units" "I") (by decide +kernel)
  have k61 := hts (.fieldLink RX9 61 "TextPartsModel" "unit" "[I") (by decide +kernel)
  have k13 := hts (.fieldLink RX9 13 "TextPartsModel" "escaped" "[I") (by decide +kernel)
  have hp0 := hpa 0; have hp1 := hpa 1; have hp2 := hpa 2; have hp3 := hpa 3; have hp4 := hpa 4; have hp5 := hpa 5; have hp6 := hpa 6; have hp7 := hpa 7
  refine lv_aload_n hx hb dX9_fault_0 rfl (lv_at hl 0 rfl) ?_
  refine ah_get (ci := 8) (v := .int (nI gv)) (C := RX9) (T := TX9) (N := 27) hx hb hE hR hts hinX9 hown fy rfl 23 (by decide) k126 (fun _ h9 => h9) rfl dX9_fault_1 ?_
  refine lv_iconst (v := nI 2) hx hb dX9_fault_4 (by decide) ?_
  refine lv_icmp_ge (tgt := 10) hx hb dX9_fault_5 (by decide) (fun c_1 => ?_) (fun c_1 => ?_)
  · skip
    have c_1 : 2 ≤ gv := (nI_leI (by omega) (by omega)).mp c_1
    have hz2 : ¬ gv < 2 := by omega
    have J38 : ∀ (H : Heap) (locs : List Loc) (ls : Array Slot), (pa 0 = 0 ∨ pa 0 = 1 ∨ pa 0 = 4 ∨ pa 0 = 5) → ¬ gv < 2 → ah_R G h H → va_S (ah_A G) s.heap H locs → lv_has ls 10 [(1, .int (nI (pa 0))), (0, .ref y)] → W p l e ({ frames := 2, cells := 0, slots := 0, locals := 44 }) s m ([.ref y] : List Value).toArray below meth cd9 H locs 0 0 (MQ below (ah_Qi G (fun v h' => v = nI (fault pa gv) ∧ (fault pa gv ≠ 0 → h' = h) ∧ (fault pa gv = 0 → ∃ u2 : Nat → Nat, h' y = some (20, .inr (8, mF A k0 n rf pm zh lc c pt gv ((unitsL pa gv).length))) ∧ h' (A 26) = some (46, .inl (G.2.2.1 0, 200, .inl (nA u2))) ∧ agr (fun t => t ≠ 20 ∧ t ≠ 46) h h' ∧ ∀ j, j < (unitsL pa gv).length → u2 j = (unitsL pa gv).getD j 0))) ([.ref y] : List Value).toArray s 0 0 (ah_A G)) (F0 m 38 ls []) := by
      intro H locs ls hkk hz2 hR hS hl
      rcases hkk with hk9 | hk9 | hk9 | hk9
      · skip
        have hkk : pa 0 = 0 ∨ pa 0 = 1 ∨ pa 0 = 4 ∨ pa 0 = 5 := by omega
        rw [hk9] at hl
        refine lv_iload_n hx hb dX9_fault_38 rfl (lv_at hl 0 rfl) ?_
        refine lv_iconst (v := nI 3) hx hb dX9_fault_39 (by decide) ?_
        refine lv_icmp_le (tgt := 47) hx hb dX9_fault_40 (by decide) (fun c_2 => ?_) (fun c_2 => ?_)
        · skip
          have c_2 : 0 ≤ 3 := (nI_leI (by omega) (by omega)).mp c_2
          refine lv_iconst (v := nI 0) hx hb dX9_fault_47 (by decide) ?_
          refine lv_istore_n (lv' := [(2, .int (nI 0)), (1, .int (nI 0)), (0, .ref y)]) hx hb dX9_fault_48 rfl hl (by decide) rfl (fun ls hl => ?_)
          refine lv_iload_n hx hb dX9_fault_49 rfl (lv_at hl 1 rfl) ?_
          refine lv_iconst (v := nI 1) hx hb dX9_fault_50 (by decide) ?_
          refine lv_iand hx hb dX9_fault_51 ?_
          refine ah_toi (v := nI 0) (by decide) ?_
          refine lv_iconst (v := nI 1) hx hb dX9_fault_52 (by decide) ?_
          refine lv_icmp_ne (tgt := 60) hx hb dX9_fault_53 (by decide) (fun c_3 => ?_) (fun c_3 => ?_)
          · skip
            have c_3 : ¬ (0 = 1) := fun z9 => c_3 ((nI_eq (by omega) (by omega)).mpr z9)
            refine lv_iconst (v := nI 0) hx hb dX9_fault_60 (by decide) ?_
            refine lv_istore_n (lv' := [(3, .int (nI 0)), (2, .int (nI 0)), (1, .int (nI 0)), (0, .ref y)]) hx hb dX9_fault_61 rfl hl (by decide) rfl (fun ls hl => ?_)
            refine lv_aload_n hx hb dX9_fault_62 rfl (lv_at hl 3 rfl) ?_
            refine ah_get (ci := 8) (v := .ref (A 24)) (C := RX9) (T := TX9) (N := 27) hx hb hE hR hts hinX9 hown fy rfl 24 (by decide) k58 (fun _ h9 => h9) rfl dX9_fault_63 ?_
            refine lv_iconst (v := nI 1) hx hb dX9_fault_66 (by decide) ?_
            refine ah_iald (i := 1) hx hb hE hR fa24 (by omega) (by omega) dX9_fault_67 ?_
            refine ah_toi (v := nI (pa 1)) rfl ?_
            refine lv_istore (lv' := [(4, .int (nI (pa 1))), (3, .int (nI 0)), (2, .int (nI 0)), (1, .int (nI 0)), (0, .ref y)]) hx hb dX9_fault_68 hl (by decide) rfl (fun ls hl => ?_)
            refine lv_iload_n hx hb dX9_fault_70 rfl (lv_at hl 2 rfl) ?_
            refine lv_if_eq (tgt := 79) hx hb dX9_fault_71 (by decide) (fun c_4 => ?_) (fun c_4 => ?_)
            · skip
              refine lv_bipush (v := nI 7) hx hb dX9_fault_79 (by decide) ?_
              refine lv_iload hx hb dX9_fault_81 (lv_at hl 0 rfl) ?_
              refine lv_imul hx hb dX9_fault_83 ?_
              refine ah_toi (v := nI (7 * (pa 1))) (pk_mul _ _) ?_
              refine lv_bipush (v := nI 7) hx hb dX9_fault_84 (by decide) ?_
              refine lv_iadd hx hb dX9_fault_86 ?_
              refine ah_toi (v := nI ((7 * (pa 1)) + 7)) (nI_add _ _) ?_
              refine lv_bipush (v := nI 8) hx hb dX9_fault_87 (by decide) ?_
              refine lv_idiv hx hb dX9_fault_89 (by decide) ?_
              refine ah_toi (v := nI (((7 * (pa 1)) + 7) / 8)) (pk_div (by omega) (by omega) (by omega)) ?_
              refine lv_istore (lv' := [(5, .int (nI (((7 * (pa 1)) + 7) / 8))), (4, .int (nI (pa 1))), (3, .int (nI 0)), (2, .int (nI 0)), (1, .int (nI 0)), (0, .ref y)]) hx hb dX9_fault_90 hl (by decide) rfl (fun ls hl => ?_)
              refine lv_iload hx hb dX9_fault_92 (lv_at hl 1 rfl) ?_
              refine lv_iload_n hx hb dX9_fault_94 rfl (lv_at hl 3 rfl) ?_
              refine lv_if_eq (tgt := 104) hx hb dX9_fault_95 (by decide) (fun c_5 => ?_) (fun c_5 => ?_)
              · skip
                refine lv_sipush (v := nI 160) hx hb dX9_fault_104 (by decide) ?_
                refine lv_icmp_gt (tgt := 121) hx hb dX9_fault_107 (by decide) (fun c_6 => ?_) (fun c_6 => ?_)
                · skip
                  have c_6 : 160 < (pa 1) := (nI_ltI (by omega) (by omega)).mp c_6
                  refine lv_iconst (v := nI 3) hx hb dX9_fault_121 (by decide) ?_
                  refine ah_iret (v := nI 3) hx hb hr hlocks hR hS dX9_fault_122 ?_
                  have hf9 : fault pa gv = 3 := fl_3 hz2 hkk (show wszP (pa 0 / 4) (pa 1) (gv - 2) by rw [hk9]; show (160 < pa 1 ∨ gv - 2 ≠ (7 * pa 1 + 7) / 8); omega)
                  exact ⟨by rw [hf9], fun _ => rfl, fun q9 => absurd q9 (by rw [hf9]; decide)⟩
                · skip
                  have c_6 : ¬ (160 < (pa 1)) := fun z9 => c_6 ((nI_ltI (by omega) (by omega)).mpr z9)
                  refine lv_aload_n hx hb dX9_fault_110 rfl (lv_at hl 5 rfl) ?_
                  refine ah_get (ci := 8) (v := .int (nI gv)) (C := RX9) (T := TX9) (N := 27) hx hb hE hR hts hinX9 hown fy rfl 23 (by decide) k126 (fun _ h9 => h9) rfl dX9_fault_111 ?_
                  refine lv_iconst (v := nI 2) hx hb dX9_fault_114 (by decide) ?_
                  refine lv_isub hx hb dX9_fault_115 ?_
                  refine ah_toi (v := nI (gv - 2)) (pk_sub (by omega)) ?_
                  refine lv_iload hx hb dX9_fault_116 (lv_at hl 0 rfl) ?_
                  refine lv_icmp_eq (tgt := 123) hx hb dX9_fault_118 (by decide) (fun c_7 => ?_) (fun c_7 => ?_)
                  · skip
                    have c_7 : (gv - 2) = (((7 * (pa 1)) + 7) / 8) := (nI_eq (by omega) (by omega)).mp c_7
                    have hn3 : ¬ wszP (pa 0 / 4) (pa 1) (gv - 2) := by rw [hk9]; show ¬ (160 < pa 1 ∨ gv - 2 ≠ (7 * pa 1 + 7) / 8); omega
                    refine lv_iload_n hx hb dX9_fault_123 rfl (lv_at hl 2 rfl) ?_
                    refine lv_if_eq (tgt := 211) hx hb dX9_fault_124 (by decide) (fun c_8 => ?_) (fun c_8 => ?_)
                    · skip
                      have hn4 : ¬ (pa 0 % 2 ≠ 0 ∧ (pa 1 < hlim (pa 0 / 4) ∨ hdrBad pa)) := fun q9 => by have z9 := q9.1; rw [hk9] at z9; exact z9 rfl
                      refine lv_iload_n hx hb dX9_fault_211 rfl (lv_at hl 2 rfl) ?_
                      refine lv_if_eq (tgt := 229) hx hb dX9_fault_212 (by decide) (fun c_9 => ?_) (fun c_9 => ?_)
                      · skip
                        refine lv_iconst (v := nI 0) hx hb dX9_fault_229 (by decide) ?_
                        refine lv_istore (lv' := [(6, .int (nI 0)), (5, .int (nI (((7 * (pa 1)) + 7) / 8))), (4, .int (nI (pa 1))), (3, .int (nI 0)), (2, .int (nI 0)), (1, .int (nI 0)), (0, .ref y)]) hx hb dX9_fault_230 hl (by decide) rfl (fun ls hl => ?_)
                        refine lv_iload_n hx hb dX9_fault_232 rfl (lv_at hl 4 rfl) ?_
                        refine lv_if_eq (tgt := 249) hx hb dX9_fault_233 (by decide) (fun c_10 => ?_) (fun c_10 => ?_)
                        · skip
                          have hn5 : ¬ (pa 0 / 4 ≠ 0 ∧ pa 1 % 2 ≠ 0) := fun q9 => by have z9 := q9.1; rw [hk9] at z9; exact z9 rfl
                          refine lv_iload_n hx hb dX9_fault_249 rfl (lv_at hl 4 rfl) ?_
                          refine lv_if_ne (tgt := 271) hx hb dX9_fault_250 (by decide) (fun c_11 => ?_) (fun c_11 => ?_)
                          · skip
                            exact absurd c_11 (by decide)
                          · skip
                            refine lv_iload_n hx hb dX9_fault_253 rfl (lv_at hl 3 rfl) ?_
                            refine lv_if_eq (tgt := 271) hx hb dX9_fault_254 (by decide) (fun c_12 => ?_) (fun c_12 => ?_)
                            · skip
                              refine lv_iconst (v := nI 0) hx hb dX9_fault_271 (by decide) ?_
                              refine lv_istore (lv' := [(7, .int (nI 0)), (6, .int (nI 0)), (5, .int (nI (((7 * (pa 1)) + 7) / 8))), (4, .int (nI (pa 1))), (3, .int (nI 0)), (2, .int (nI 0)), (1, .int (nI 0)), (0, .ref y)]) hx hb dX9_fault_272 hl (by decide) rfl (fun ls hl => ?_)
                              refine lv_bipush (v := nI 7) hx hb dX9_fault_274 (by decide) ?_
                              refine lv_iload hx hb dX9_fault_276 (lv_at hl 3 rfl) ?_
                              refine lv_imul hx hb dX9_fault_278 ?_
                              refine ah_toi (v := nI (7 * (pa 1))) (pk_mul _ _) ?_
                              refine lv_istore (lv' := [(8, .int (nI (7 * (pa 1)))), (7, .int (nI 0)), (6, .int (nI 0)), (5, .int (nI (((7 * (pa 1)) + 7) / 8))), (4, .int (nI (pa 1))), (3, .int (nI 0)), (2, .int (nI 0)), (1, .int (nI 0)), (0, .ref y)]) hx hb dX9_fault_279 hl (by decide) rfl (fun ls hl => ?_)
                              have hi0 : decide (0 = 1) = (decide (0 ≠ 0) && bitS pa gv 48) := rfl
                              have L281 : ∀ (N281 : Nat) (b : Nat) (lf : Nat) (H : Heap) (locs : List Loc) (ls : Array Slot), 8 * ((7 * pa 1 + 7) / 8) - b < N281 → (7 * pa 1 ≤ b) → (b ≤ 8 * ((7 * pa 1 + 7) / 8)) → (lf ≤ 1) → ((decide (lf = 1) || anyB pa gv (8 * ((7 * pa 1 + 7) / 8) - b) b) = strayB pa gv 0 (pa 1)) → (h y = some (20, .inr (8, mF A k0 n rf pm zh lc c pt gv un))) → (h (A 1) = some (21, .inl (G.2.2.1 0, 128, .inl plT))) → (h (A 2) = some (22, .inl (G.2.2.1 0, 128, .inl esT))) → (h (A 24) = some (44, .inl (G.2.2.1 0, 200, .inl (nA pa)))) → (h (A 26) = some (46, .inl (G.2.2.1 0, 200, .inl (nA ua)))) → ah_R G h H → va_S (ah_A G) s.heap H locs → lv_has ls 10 [(8, .int (nI b)), (7, .int (nI lf)), (0, .ref y), (1, .int (nI 0)), (2, .int (nI 0)), (3, .int (nI 0)), (4, .int (nI (pa 1))), (5, .int (nI ((7 * pa 1 + 7) / 8))), (6, .int (nI 0))] → W p l e ({ frames := 2, cells := 0, slots := 0, locals := 44 }) s m ([.ref y] : List Value).toArray below meth cd9 H locs 0 0 (MQ below (ah_Qi G (fun v h' => v = nI (fault pa gv) ∧ (fault pa gv ≠ 0 → h' = h) ∧ (fault pa gv = 0 → ∃ u2 : Nat → Nat, h' y = some (20, .inr (8, mF A k0 n rf pm zh lc c pt gv ((unitsL pa gv).length))) ∧ h' (A 26) = some (46, .inl (G.2.2.1 0, 200, .inl (nA u2))) ∧ agr (fun t => t ≠ 20 ∧ t ≠ 46) h h' ∧ ∀ j, j < (unitsL pa gv).length → u2 j = (unitsL pa gv).getD j 0))) ([.ref y] : List Value).toArray s 0 0 (ah_A G)) (F0 m 281 ls []) := by
                                intro N281
                                induction N281 with
                                | zero => intro b lf  H locs ls hN; exact absurd hN (Nat.not_lt_zero _)
                                | succ N281 ih281 =>
                                  intro b lf  H locs ls hN281 hb1 hb2 hlf ei fy1 fa11 fa21 fa241 fa261 hR hS hl
                                  refine lv_iload hx hb dX9_fault_281 (lv_at hl 0 rfl) ?_
                                  refine lv_bipush (v := nI 8) hx hb dX9_fault_283 (by decide) ?_
                                  refine lv_iload hx hb dX9_fault_285 (lv_at hl 7 rfl) ?_
                                  refine lv_imul hx hb dX9_fault_287 ?_
                                  refine ah_toi (v := nI (8 * ((7 * pa 1 + 7) / 8))) (pk_mul _ _) ?_
                                  refine lv_icmp_ge (tgt := 323) hx hb dX9_fault_288 (by decide) (fun c_13 => ?_) (fun c_13 => ?_)
                                  · skip
                                    have c_13 : (8 * ((7 * pa 1 + 7) / 8)) ≤ b := (nI_leI (by omega) (by omega)).mp c_13
                                    refine lv_iload hx hb dX9_fault_323 (lv_at hl 1 rfl) ?_
                                    refine lv_if_eq (tgt := 331) hx hb dX9_fault_325 (by decide) (fun c_14 => ?_) (fun c_14 => ?_)
                                    · skip
                                      have c_14 : lf = 0 := (zi_eq (by omega)).mp c_14
                                      have hf0 : fault pa gv = 0 := fl_0 hz2 hkk hn3 hn4 hn5 (fun q9 => by have z9 := q9.2; rw [hk9] at z9; have z8 : strayB pa gv 0 (pa 1) = true := z9; rw [← ei, show lf = 0 by omega, show 8 * ((7 * pa 1 + 7) / 8) - b = 0 by omega] at z8; exact Bool.noConfusion (show false = true from z8))
                                      obtain ⟨L, eL⟩ : ∃ L9, L9 = unitsL pa gv := ⟨_, rfl⟩
                                      have eL2 : L = dS (svn pa gv) (pa 1) (pa 1 - 0) 0 := by rw [eL]; unfold unitsL; rw [hk9]; rfl
                                      have hLl : L.length ≤ 160 := by rw [eL]; exact unitsL_len (by omega)
                                      refine lv_aload_n hx hb dX9_fault_331 rfl (lv_at hl 2 rfl) ?_
                                      refine lv_iconst (v := nI 0) hx hb dX9_fault_332 (by decide) ?_
                                      refine ah_put (ci := 8) (v := .int (nI 0)) (ty := .int) (C := RX9) (T := TX9) (N := 27) hx hb hE hR hS hts hinX9 tyX9 tyX9_ok nmX9 hown fy1 rfl 25 (by decide) k129 (fun _ h9 => h9) rfl (by decide +kernel) rfl rfl (Nat.le_of_ble_eq_true rfl) dX9_fault_333 (fun H locs hR hS => ?_)
                                      obtain ⟨h_15, e_16⟩ : ∃ zz9, zz9 = ah_up h y (20, .inr (8, mF A k0 n rf pm zh lc c pt gv 0)) := ⟨_, rfl⟩
                                      have hR : ah_R G h_15 H := by rw [e_16]; exact hR
                                      have f_17 : h_15 y = some (20, .inr (8, mF A k0 n rf pm zh lc c pt gv 0)) := by rw [e_16]; exact ah_up_s _ _ _
                                      have f_18 : h_15 (A 1) = some (21, .inl (G.2.2.1 0, 128, .inl plT)) := by rw [e_16]; exact ah_keep fa11 fy1 (by omega)
                                      have f_19 : h_15 (A 2) = some (22, .inl (G.2.2.1 0, 128, .inl esT)) := by rw [e_16]; exact ah_keep fa21 fy1 (by omega)
                                      have f_20 : h_15 (A 24) = some (44, .inl (G.2.2.1 0, 200, .inl (nA pa))) := by rw [e_16]; exact ah_keep fa241 fy1 (by omega)
                                      have f_21 : h_15 (A 26) = some (46, .inl (G.2.2.1 0, 200, .inl (nA ua))) := by rw [e_16]; exact ah_keep fa261 fy1 (by omega)
                                      refine lv_iload hx hb dX9_fault_336 (lv_at hl 8 rfl) ?_
                                      refine lv_istore (lv' := [(8, .int (nI 0)), (7, .int (nI lf)), (0, .ref y), (1, .int (nI 0)), (2, .int (nI 0)), (3, .int (nI 0)), (4, .int (nI (pa 1))), (5, .int (nI ((7 * pa 1 + 7) / 8))), (6, .int (nI 0))]) hx hb dX9_fault_338 hl (by decide) rfl (fun ls hl => ?_)
                                      have ag0 : agr (fun t => t ≠ 20 ∧ t ≠ 46) h h_15 := by rw [e_16]; exact agr.rf.up fy1 (by omega)
                                      have L340 : ∀ (N340 : Nat) (c9 : Nat) (a9 : Nat) (u3 : Nat → Nat) (h3 : ah_H) (H : Heap) (locs : List Loc) (ls : Array Slot), pa 1 - a9 < N340 → (a9 ≤ pa 1 + 1) → (c9 ≤ L.length) → (L.drop c9 = dS (svn pa gv) (pa 1) (pa 1 - a9) a9) → (∀ j, j < c9 → u3 j = L.getD j 0) → (agr (fun t => t ≠ 20 ∧ t ≠ 46) h h3) → (h3 y = some (20, .inr (8, mF A k0 n rf pm zh lc c pt gv c9))) → (h3 (A 1) = some (21, .inl (G.2.2.1 0, 128, .inl plT))) → (h3 (A 2) = some (22, .inl (G.2.2.1 0, 128, .inl esT))) → (h3 (A 24) = some (44, .inl (G.2.2.1 0, 200, .inl (nA pa)))) → (h3 (A 26) = some (46, .inl (G.2.2.1 0, 200, .inl (nA u3)))) → ah_R G h3 H → va_S (ah_A G) s.heap H locs → lv_has ls 10 [(8, .int (nI a9)), (0, .ref y), (2, .int (nI 0)), (4, .int (nI (pa 1)))] → W p l e ({ frames := 2, cells := 0, slots := 0, locals := 44 }) s m ([.ref y] : List Value).toArray below meth cd9 H locs 0 0 (MQ below (ah_Qi G (fun v h' => v = nI (fault pa gv) ∧ (fault pa gv ≠ 0 → h' = h) ∧ (fault pa gv = 0 → ∃ u2 : Nat → Nat, h' y = some (20, .inr (8, mF A k0 n rf pm zh lc c pt gv ((unitsL pa gv).length))) ∧ h' (A 26) = some (46, .inl (G.2.2.1 0, 200, .inl (nA u2))) ∧ agr (fun t => t ≠ 20 ∧ t ≠ 46) h h' ∧ ∀ j, j < (unitsL pa gv).length → u2 j = (unitsL pa gv).getD j 0))) ([.ref y] : List Value).toArray s 0 0 (ah_A G)) (F0 m 340 ls []) := by
                                        intro N340
                                        induction N340 with
                                        | zero => intro c9 a9 u3 h3 H locs ls hN; exact absurd hN (Nat.not_lt_zero _)
                                        | succ N340 ih340 =>
                                          intro c9 a9 u3 h3 H locs ls hN340 ha9 hcl hd9 hu ag3 fy3 fa13 fa23 fa243 fa263 hR hS hl
                                          refine lv_iload hx hb dX9_fault_340 (lv_at hl 0 rfl) ?_
                                          refine lv_iload hx hb dX9_fault_342 (lv_at hl 3 rfl) ?_
                                          refine lv_icmp_ge (tgt := 505) hx hb dX9_fault_344 (by decide) (fun c_22 => ?_) (fun c_22 => ?_)
                                          · skip
                                            have c_22 : (pa 1) ≤ a9 := (nI_leI (by omega) (by omega)).mp c_22
                                            have hend : c9 = L.length := drop_nil (by rw [hd9, dS_end (by omega)]) hcl
                                            refine lv_iconst (v := nI 0) hx hb dX9_fault_505 (by decide) ?_
                                            refine ah_iret (v := nI 0) hx hb hr hlocks hR hS dX9_fault_506 ?_
                                            exact ⟨by rw [hf0], fun q9 => absurd hf0 q9, fun _ => ⟨u3, by rw [← eL, ← hend]; exact fy3, fa263, ag3, fun j hj => by rw [← eL] at hj ⊢; exact hu j (by omega)⟩⟩
                                          · skip
                                            have c_22 : ¬ ((pa 1) ≤ a9) := fun z9 => c_22 ((nI_leI (by omega) (by omega)).mpr z9)
                                            have hst := hd9.trans (dS_step (by omega))
                                            refine lv_iload_n hx hb dX9_fault_347 rfl (lv_at hl 2 rfl) ?_
                                            refine lv_if_eq (tgt := 377) hx hb dX9_fault_348 (by decide) (fun c_23 => ?_) (fun c_23 => ?_)
                                            · skip
                                              refine lv_aload_n hx hb dX9_fault_377 rfl (lv_at hl 1 rfl) ?_
                                              refine lv_iload hx hb dX9_fault_378 (lv_at hl 0 rfl) ?_
                                              refine ah_calli (va_runV (As := [.int (nI a9)]) (rest := []) ⟨hx, hb, hml, hown, hts⟩ (c_m_seven l G h3 y A k0 n rf pm zh lc c pt gv c9 fy3 pa fa243 hpa a9 (by omega)) (cwV 1 hts gX9_fault_X9_seven rfl rfl rfl (by decide +kernel) ⟨Nat.le_of_ble_eq_true rfl, Nat.le_of_ble_eq_true rfl⟩) (ah_preV hE hR hS fy3 rfl) rfl rfl hl.1 rfl (lv_room (Nat.le_of_ble_eq_true rfl)) dX9_fault_380 ⟨Nat.le_of_ble_eq_true rfl, Nat.le_of_ble_eq_true rfl⟩) hS (fun r_26 h_24 H locs p_25 hR hS => ?_)
                                              obtain ⟨e_27, e_28⟩ := p_25
                                              rw [e_28] at hR
                                              rw [s7_svn hpa (show 7 * a9 + 6 < 8 * (gv - 2) by omega)] at e_27
                                              refine ah_toi e_27 ?_
                                              have hs_29 := svn_lt pa gv a9
                                              refine lv_istore (lv' := [(9, .int (nI (svn pa gv a9))), (8, .int (nI a9)), (0, .ref y), (2, .int (nI 0)), (4, .int (nI (pa 1)))]) hx hb dX9_fault_383 hl (by decide) rfl (fun ls hl => ?_)
                                              refine lv_iload_n hx hb dX9_fault_385 rfl (lv_at hl 3 rfl) ?_
                                              refine lv_if_ne (tgt := 455) hx hb dX9_fault_386 (by decide) (fun c_30 => ?_) (fun c_30 => ?_)
                                              · skip
                                                exact absurd c_30 (by decide)
                                              · skip
                                                refine lv_iload hx hb dX9_fault_389 (lv_at hl 0 rfl) ?_
                                                refine lv_bipush (v := nI 27) hx hb dX9_fault_391 (by decide) ?_
                                                refine lv_icmp_ne (tgt := 455) hx hb dX9_fault_393 (by decide) (fun c_31 => ?_) (fun c_31 => ?_)
                                                · skip
                                                  have c_31 : ¬ ((svn pa gv a9) = 27) := fun z9 => c_31 ((nI_eq (by omega) (by omega)).mpr z9)
                                                  rw [if_neg (show ¬ svn pa gv a9 = 27 from c_31)] at hst
                                                  have hdc := drop_cons hst
                                                  refine lv_iload_n hx hb dX9_fault_455 rfl (lv_at hl 3 rfl) ?_
                                                  refine lv_if_ne (tgt := 467) hx hb dX9_fault_456 (by decide) (fun c_32 => ?_) (fun c_32 => ?_)
                                                  · skip
                                                    exact absurd c_32 (by decide)
                                                  · skip
                                                    refine lv_aload_n hx hb dX9_fault_459 rfl (lv_at hl 2 rfl) ?_
                                                    refine lv_iload hx hb dX9_fault_460 (lv_at hl 0 rfl) ?_
                                                    refine ah_calli (va_runV (As := [.int (nI (svn pa gv a9))]) (rest := []) ⟨hx, hb, hml, hown, hts⟩ (c_m_alone l G h3 y A k0 n rf pm zh lc c pt gv c9 fy3 fa13 (svn pa gv a9) (by omega)) (cwV 1 hts gX9_fault_X9_alone rfl rfl rfl (by decide +kernel) ⟨Nat.le_of_ble_eq_true rfl, Nat.le_of_ble_eq_true rfl⟩) (ah_preV hE hR hS fy3 rfl) rfl rfl hl.1 rfl (lv_room (Nat.le_of_ble_eq_true rfl)) dX9_fault_462 ⟨Nat.le_of_ble_eq_true rfl, Nat.le_of_ble_eq_true rfl⟩) hS (fun r_35 h_33 H locs p_34 hR hS => ?_)
                                                    obtain ⟨e_36, e_37⟩ := p_34
                                                    rw [e_37] at hR
                                                    refine ah_toi e_36 ?_
                                                    refine lv_istore (lv' := [(9, .int (nI (plainV (svn pa gv a9)))), (8, .int (nI a9)), (0, .ref y), (2, .int (nI 0)), (4, .int (nI (pa 1)))]) hx hb dX9_fault_465 hl (by decide) rfl (fun ls hl => ?_)
                                                    refine lv_aload_n hx hb dX9_fault_467 rfl (lv_at hl 2 rfl) ?_
                                                    refine ah_get (ci := 8) (v := .ref (A 26)) (C := RX9) (T := TX9) (N := 27) hx hb hE hR hts hinX9 hown fy3 rfl 26 (by decide) k61 (fun _ h9 => h9) rfl dX9_fault_468 ?_
                                                    refine lv_aload_n hx hb dX9_fault_471 rfl (lv_at hl 2 rfl) ?_
                                                    refine ah_get (ci := 8) (v := .int (nI c9)) (C := RX9) (T := TX9) (N := 27) hx hb hE hR hts hinX9 hown fy3 rfl 25 (by decide) k129 (fun _ h9 => h9) rfl dX9_fault_472 ?_
                                                    refine lv_iload hx hb dX9_fault_475 (lv_at hl 0 rfl) ?_
                                                    have hcl9 := hdc.1
                                                    refine ah_iast (i := c9) hx hb hE hR hS fa263 (by omega) (by omega) dX9_fault_477 (fun H locs hR hS => ?_)
                                                    rw [nA_upd] at hR
                                                    obtain ⟨h_38, e_39⟩ : ∃ zz9, zz9 = ah_up h3 (A 26) (46, .inl (G.2.2.1 0, 200, .inl (nA (gU u3 c9 (plainV (svn pa gv a9)))))) := ⟨_, rfl⟩
                                                    have hR : ah_R G h_38 H := by rw [e_39]; exact hR
                                                    have f_40 : h_38 y = some (20, .inr (8, mF A k0 n rf pm zh lc c pt gv c9)) := by rw [e_39]; exact ah_keep fy3 fa263 (by omega)
                                                    have f_41 : h_38 (A 1) = some (21, .inl (G.2.2.1 0, 128, .inl plT)) := by rw [e_39]; exact ah_keep fa13 fa263 (by omega)
                                                    have f_42 : h_38 (A 2) = some (22, .inl (G.2.2.1 0, 128, .inl esT)) := by rw [e_39]; exact ah_keep fa23 fa263 (by omega)
                                                    have f_43 : h_38 (A 24) = some (44, .inl (G.2.2.1 0, 200, .inl (nA pa))) := by rw [e_39]; exact ah_keep fa243 fa263 (by omega)
                                                    have f_44 : h_38 (A 26) = some (46, .inl (G.2.2.1 0, 200, .inl (nA (gU u3 c9 (plainV (svn pa gv a9)))))) := by rw [e_39]; exact ah_up_s _ _ _
                                                    refine lv_aload_n hx hb dX9_fault_478 rfl (lv_at hl 2 rfl) ?_
                                                    refine lv_dup hx hb dX9_fault_479 rfl ?_
                                                    refine ah_get (ci := 8) (v := .int (nI c9)) (C := RX9) (T := TX9) (N := 27) hx hb hE hR hts hinX9 hown f_40 rfl 25 (by decide) k129 (fun _ h9 => h9) rfl dX9_fault_480 ?_
                                                    refine lv_iconst (v := nI 1) hx hb dX9_fault_483 (by decide) ?_
                                                    refine lv_iadd hx hb dX9_fault_484 ?_
                                                    refine ah_toi (v := nI (c9 + 1)) (nI_add _ _) ?_
                                                    refine ah_put (ci := 8) (v := .int (nI (c9 + 1))) (ty := .int) (C := RX9) (T := TX9) (N := 27) hx hb hE hR hS hts hinX9 tyX9 tyX9_ok nmX9 hown f_40 rfl 25 (by decide) k129 (fun _ h9 => h9) rfl (by decide +kernel) rfl rfl (Nat.le_of_ble_eq_true rfl) dX9_fault_485 (fun H locs hR hS => ?_)
                                                    obtain ⟨h_45, e_46⟩ : ∃ zz9, zz9 = ah_up h_38 y (20, .inr (8, mF A k0 n rf pm zh lc c pt gv (c9 + 1))) := ⟨_, rfl⟩
                                                    have hR : ah_R G h_45 H := by rw [e_46]; exact hR
                                                    have f_47 : h_45 y = some (20, .inr (8, mF A k0 n rf pm zh lc c pt gv (c9 + 1))) := by rw [e_46]; exact ah_up_s _ _ _
                                                    have f_48 : h_45 (A 1) = some (21, .inl (G.2.2.1 0, 128, .inl plT)) := by rw [e_46]; exact ah_keep f_41 f_40 (by omega)
                                                    have f_49 : h_45 (A 2) = some (22, .inl (G.2.2.1 0, 128, .inl esT)) := by rw [e_46]; exact ah_keep f_42 f_40 (by omega)
                                                    have f_50 : h_45 (A 24) = some (44, .inl (G.2.2.1 0, 200, .inl (nA pa))) := by rw [e_46]; exact ah_keep f_43 f_40 (by omega)
                                                    have f_51 : h_45 (A 26) = some (46, .inl (G.2.2.1 0, 200, .inl (nA (gU u3 c9 (plainV (svn pa gv a9)))))) := by rw [e_46]; exact ah_keep f_44 f_40 (by omega)
                                                    have agq : agr (fun t => t ≠ 20 ∧ t ≠ 46) h3 h_45 := by rw [e_46]; refine agr.up ?_ f_40 (by omega); rw [e_39]; exact agr.rf.up fa263 (by omega)
                                                    refine lv_iload hx hb dX9_fault_488 (lv_at hl 1 rfl) ?_
                                                    refine lv_iload_n hx hb dX9_fault_490 rfl (lv_at hl 3 rfl) ?_
                                                    refine lv_if_eq (tgt := 498) hx hb dX9_fault_491 (by decide) (fun c_52 => ?_) (fun c_52 => ?_)
                                                    · skip
                                                      refine lv_iconst (v := nI 1) hx hb dX9_fault_498 (by decide) ?_
                                                      refine lv_iadd hx hb dX9_fault_499 ?_
                                                      refine ah_toi (v := nI (a9 + 1)) (nI_add _ _) ?_
                                                      refine lv_istore (lv' := [(8, .int (nI (a9 + 1))), (9, .int (nI (plainV (svn pa gv a9)))), (0, .ref y), (2, .int (nI 0)), (4, .int (nI (pa 1)))]) hx hb dX9_fault_500 hl (by decide) rfl (fun ls hl => ?_)
                                                      refine lv_goto (tgt := 340) hx hb dX9_fault_502 (by decide) ?_
                                                      exact ih340  (c9 + 1) (a9 + 1) (gU u3 c9 (plainV (svn pa gv a9))) h_45 _ _ ls (by omega) (by omega) (by have := hdc.1; omega) hdc.2.2 (gU_list hu hdc.2.1) (ag3.tr agq) f_47 f_48 f_49 f_50 f_51 hR hS (lv_sub hl [0, 2, 3, 4] rfl)
                                                    · skip
                                                      exact absurd (by decide) c_52
                                                · skip
                                                  have c_31 : (svn pa gv a9) = 27 := (nI_eq (by omega) (by omega)).mp c_31
                                                  rw [if_pos (show svn pa gv a9 = 27 from c_31)] at hst
                                                  refine lv_iinc (v := nI (a9 + 1)) (lv' := [(8, .int (nI (a9 + 1))), (9, .int (nI (svn pa gv a9))), (0, .ref y), (2, .int (nI 0)), (4, .int (nI (pa 1)))]) hx hb dX9_fault_396 hl (k := 1) rfl (show nI a9 + Int32.ofInt 1 = nI (a9 + 1) from nI_add _ 1) (by decide) rfl (fun ls hl => ?_)
                                                  refine lv_iload hx hb dX9_fault_399 (lv_at hl 0 rfl) ?_
                                                  refine lv_iload hx hb dX9_fault_401 (lv_at hl 4 rfl) ?_
                                                  refine lv_icmp_ne (tgt := 411) hx hb dX9_fault_403 (by decide) (fun c_53 => ?_) (fun c_53 => ?_)
                                                  · skip
                                                    have c_53 : ¬ ((a9 + 1) = (pa 1)) := fun z9 => c_53 ((nI_eq (by omega) (by omega)).mpr z9)
                                                    rw [if_pos (show a9 + 1 < pa 1 by omega)] at hst
                                                    have hdc := drop_cons hst
                                                    refine lv_aload_n hx hb dX9_fault_411 rfl (lv_at hl 2 rfl) ?_
                                                    refine ah_get (ci := 8) (v := .ref (A 2)) (C := RX9) (T := TX9) (N := 27) hx hb hE hR hts hinX9 hown fy3 rfl 2 (by decide) k13 (fun _ h9 => h9) rfl dX9_fault_412 ?_
                                                    refine lv_aload_n hx hb dX9_fault_415 rfl (lv_at hl 2 rfl) ?_
                                                    refine lv_iload hx hb dX9_fault_416 (lv_at hl 0 rfl) ?_
                                                    refine ah_calli (va_runV (As := [.int (nI (a9 + 1))]) (rest := [.ref (A 2)]) ⟨hx, hb, hml, hown, hts⟩ (c_m_seven l G h3 y A k0 n rf pm zh lc c pt gv c9 fy3 pa fa243 hpa (a9 + 1) (by omega)) (cwV 1 hts gX9_fault_X9_seven rfl rfl rfl (by decide +kernel) ⟨Nat.le_of_ble_eq_true rfl, Nat.le_of_ble_eq_true rfl⟩) (ah_preV hE hR hS fy3 rfl) rfl rfl hl.1 rfl (lv_room (Nat.le_of_ble_eq_true rfl)) dX9_fault_418 ⟨Nat.le_of_ble_eq_true rfl, Nat.le_of_ble_eq_true rfl⟩) hS (fun r_56 h_54 H locs p_55 hR hS => ?_)
                                                    obtain ⟨e_57, e_58⟩ := p_55
                                                    rw [e_58] at hR
                                                    rw [s7_svn hpa (show 7 * (a9 + 1) + 6 < 8 * (gv - 2) by omega)] at e_57
                                                    refine ah_toi e_57 ?_
                                                    have hs_59 := svn_lt pa gv (a9 + 1)
                                                    refine ah_iald (i := (svn pa gv (a9 + 1))) hx hb hE hR fa23 (by omega) (by omega) dX9_fault_421 ?_
                                                    refine lv_iconst (v := (-1)) hx hb dX9_fault_422 (by decide) ?_
                                                    refine lv_icmp_eq (tgt := 440) hx hb dX9_fault_423 (by decide) (fun c_60 => ?_) (fun c_60 => ?_)
                                                    · skip
                                                      refine lv_aload_n hx hb dX9_fault_440 rfl (lv_at hl 2 rfl) ?_
                                                      refine lv_aload_n hx hb dX9_fault_441 rfl (lv_at hl 2 rfl) ?_
                                                      refine lv_iload hx hb dX9_fault_442 (lv_at hl 0 rfl) ?_
                                                      refine ah_calli (va_runV (As := [.int (nI (a9 + 1))]) (rest := [.ref y]) ⟨hx, hb, hml, hown, hts⟩ (c_m_seven l G h3 y A k0 n rf pm zh lc c pt gv c9 fy3 pa fa243 hpa (a9 + 1) (by omega)) (cwV 1 hts gX9_fault_X9_seven rfl rfl rfl (by decide +kernel) ⟨Nat.le_of_ble_eq_true rfl, Nat.le_of_ble_eq_true rfl⟩) (ah_preV hE hR hS fy3 rfl) rfl rfl hl.1 rfl (lv_room (Nat.le_of_ble_eq_true rfl)) dX9_fault_444 ⟨Nat.le_of_ble_eq_true rfl, Nat.le_of_ble_eq_true rfl⟩) hS (fun r_63 h_61 H locs p_62 hR hS => ?_)
                                                      obtain ⟨e_64, e_65⟩ := p_62
                                                      rw [e_65] at hR
                                                      rw [s7_svn hpa (show 7 * (a9 + 1) + 6 < 8 * (gv - 2) by omega)] at e_64
                                                      refine ah_toi e_64 ?_
                                                      have hs_66 := svn_lt pa gv (a9 + 1)
                                                      refine ah_calli (va_runV (As := [.int (nI (svn pa gv (a9 + 1)))]) (rest := []) ⟨hx, hb, hml, hown, hts⟩ (c_m_alone l G h3 y A k0 n rf pm zh lc c pt gv c9 fy3 fa13 (svn pa gv (a9 + 1)) (by omega)) (cwV 1 hts gX9_fault_X9_alone rfl rfl rfl (by decide +kernel) ⟨Nat.le_of_ble_eq_true rfl, Nat.le_of_ble_eq_true rfl⟩) (ah_preV hE hR hS fy3 rfl) rfl rfl hl.1 rfl (lv_room (Nat.le_of_ble_eq_true rfl)) dX9_fault_447 ⟨Nat.le_of_ble_eq_true rfl, Nat.le_of_ble_eq_true rfl⟩) hS (fun r_69 h_67 H locs p_68 hR hS => ?_)
                                                      obtain ⟨e_70, e_71⟩ := p_68
                                                      rw [e_71] at hR
                                                      refine ah_toi e_70 ?_
                                                      refine ah_toi (v := nI (escV (svn pa gv (a9 + 1)))) (by rw [← (escU_ok _).1, ← (plainU_ok _).1]; exact (if_pos c_60).symm) ?_
                                                      refine lv_istore (lv' := [(9, .int (nI (escV (svn pa gv (a9 + 1))))), (8, .int (nI (a9 + 1))), (0, .ref y), (2, .int (nI 0)), (4, .int (nI (pa 1)))]) hx hb dX9_fault_450 hl (by decide) rfl (fun ls hl => ?_)
                                                      refine lv_goto (tgt := 467) hx hb dX9_fault_452 (by decide) ?_
                                                      refine lv_aload_n hx hb dX9_fault_467 rfl (lv_at hl 2 rfl) ?_
                                                      refine ah_get (ci := 8) (v := .ref (A 26)) (C := RX9) (T := TX9) (N := 27) hx hb hE hR hts hinX9 hown fy3 rfl 26 (by decide) k61 (fun _ h9 => h9) rfl dX9_fault_468 ?_
                                                      refine lv_aload_n hx hb dX9_fault_471 rfl (lv_at hl 2 rfl) ?_
                                                      refine ah_get (ci := 8) (v := .int (nI c9)) (C := RX9) (T := TX9) (N := 27) hx hb hE hR hts hinX9 hown fy3 rfl 25 (by decide) k129 (fun _ h9 => h9) rfl dX9_fault_472 ?_
                                                      refine lv_iload hx hb dX9_fault_475 (lv_at hl 0 rfl) ?_
                                                      have hcl9 := hdc.1
                                                      refine ah_iast (i := c9) hx hb hE hR hS fa263 (by omega) (by omega) dX9_fault_477 (fun H locs hR hS => ?_)
                                                      rw [nA_upd] at hR
                                                      obtain ⟨h_72, e_73⟩ : ∃ zz9, zz9 = ah_up h3 (A 26) (46, .inl (G.2.2.1 0, 200, .inl (nA (gU u3 c9 (escV (svn pa gv (a9 + 1))))))) := ⟨_, rfl⟩
                                                      have hR : ah_R G h_72 H := by rw [e_73]; exact hR
                                                      have f_74 : h_72 y = some (20, .inr (8, mF A k0 n rf pm zh lc c pt gv c9)) := by rw [e_73]; exact ah_keep fy3 fa263 (by omega)
                                                      have f_75 : h_72 (A 1) = some (21, .inl (G.2.2.1 0, 128, .inl plT)) := by rw [e_73]; exact ah_keep fa13 fa263 (by omega)
                                                      have f_76 : h_72 (A 2) = some (22, .inl (G.2.2.1 0, 128, .inl esT)) := by rw [e_73]; exact ah_keep fa23 fa263 (by omega)
                                                      have f_77 : h_72 (A 24) = some (44, .inl (G.2.2.1 0, 200, .inl (nA pa))) := by rw [e_73]; exact ah_keep fa243 fa263 (by omega)
                                                      have f_78 : h_72 (A 26) = some (46, .inl (G.2.2.1 0, 200, .inl (nA (gU u3 c9 (escV (svn pa gv (a9 + 1))))))) := by rw [e_73]; exact ah_up_s _ _ _
                                                      refine lv_aload_n hx hb dX9_fault_478 rfl (lv_at hl 2 rfl) ?_
                                                      refine lv_dup hx hb dX9_fault_479 rfl ?_
                                                      refine ah_get (ci := 8) (v := .int (nI c9)) (C := RX9) (T := TX9) (N := 27) hx hb hE hR hts hinX9 hown f_74 rfl 25 (by decide) k129 (fun _ h9 => h9) rfl dX9_fault_480 ?_
                                                      refine lv_iconst (v := nI 1) hx hb dX9_fault_483 (by decide) ?_
                                                      refine lv_iadd hx hb dX9_fault_484 ?_
                                                      refine ah_toi (v := nI (c9 + 1)) (nI_add _ _) ?_
                                                      refine ah_put (ci := 8) (v := .int (nI (c9 + 1))) (ty := .int) (C := RX9) (T := TX9) (N := 27) hx hb hE hR hS hts hinX9 tyX9 tyX9_ok nmX9 hown f_74 rfl 25 (by decide) k129 (fun _ h9 => h9) rfl (by decide +kernel) rfl rfl (Nat.le_of_ble_eq_true rfl) dX9_fault_485 (fun H locs hR hS => ?_)
                                                      obtain ⟨h_79, e_80⟩ : ∃ zz9, zz9 = ah_up h_72 y (20, .inr (8, mF A k0 n rf pm zh lc c pt gv (c9 + 1))) := ⟨_, rfl⟩
                                                      have hR : ah_R G h_79 H := by rw [e_80]; exact hR
                                                      have f_81 : h_79 y = some (20, .inr (8, mF A k0 n rf pm zh lc c pt gv (c9 + 1))) := by rw [e_80]; exact ah_up_s _ _ _
                                                      have f_82 : h_79 (A 1) = some (21, .inl (G.2.2.1 0, 128, .inl plT)) := by rw [e_80]; exact ah_keep f_75 f_74 (by omega)
                                                      have f_83 : h_79 (A 2) = some (22, .inl (G.2.2.1 0, 128, .inl esT)) := by rw [e_80]; exact ah_keep f_76 f_74 (by omega)
                                                      have f_84 : h_79 (A 24) = some (44, .inl (G.2.2.1 0, 200, .inl (nA pa))) := by rw [e_80]; exact ah_keep f_77 f_74 (by omega)
                                                      have f_85 : h_79 (A 26) = some (46, .inl (G.2.2.1 0, 200, .inl (nA (gU u3 c9 (escV (svn pa gv (a9 + 1))))))) := by rw [e_80]; exact ah_keep f_78 f_74 (by omega)
                                                      have agq : agr (fun t => t ≠ 20 ∧ t ≠ 46) h3 h_79 := by rw [e_80]; refine agr.up ?_ f_74 (by omega); rw [e_73]; exact agr.rf.up fa263 (by omega)
                                                      refine lv_iload hx hb dX9_fault_488 (lv_at hl 1 rfl) ?_
                                                      refine lv_iload_n hx hb dX9_fault_490 rfl (lv_at hl 3 rfl) ?_
                                                      refine lv_if_eq (tgt := 498) hx hb dX9_fault_491 (by decide) (fun c_86 => ?_) (fun c_86 => ?_)
                                                      · skip
                                                        refine lv_iconst (v := nI 1) hx hb dX9_fault_498 (by decide) ?_
                                                        refine lv_iadd hx hb dX9_fault_499 ?_
                                                        refine ah_toi (v := nI ((a9 + 1) + 1)) (nI_add _ _) ?_
                                                        refine lv_istore (lv' := [(8, .int (nI ((a9 + 1) + 1))), (9, .int (nI (escV (svn pa gv (a9 + 1))))), (0, .ref y), (2, .int (nI 0)), (4, .int (nI (pa 1)))]) hx hb dX9_fault_500 hl (by decide) rfl (fun ls hl => ?_)
                                                        refine lv_goto (tgt := 340) hx hb dX9_fault_502 (by decide) ?_
                                                        exact ih340  (c9 + 1) ((a9 + 1) + 1) (gU u3 c9 (escV (svn pa gv (a9 + 1)))) h_79 _ _ ls (by omega) (by omega) (by have := hdc.1; omega) hdc.2.2 (gU_list hu hdc.2.1) (ag3.tr agq) f_81 f_82 f_83 f_84 f_85 hR hS (lv_sub hl [0, 2, 3, 4] rfl)
                                                      · skip
                                                        exact absurd (by decide) c_86
                                                    · skip
                                                      refine lv_aload_n hx hb dX9_fault_426 rfl (lv_at hl 2 rfl) ?_
                                                      refine ah_get (ci := 8) (v := .ref (A 2)) (C := RX9) (T := TX9) (N := 27) hx hb hE hR hts hinX9 hown fy3 rfl 2 (by decide) k13 (fun _ h9 => h9) rfl dX9_fault_427 ?_
                                                      refine lv_aload_n hx hb dX9_fault_430 rfl (lv_at hl 2 rfl) ?_
                                                      refine lv_iload hx hb dX9_fault_431 (lv_at hl 0 rfl) ?_
                                                      refine ah_calli (va_runV (As := [.int (nI (a9 + 1))]) (rest := [.ref (A 2)]) ⟨hx, hb, hml, hown, hts⟩ (c_m_seven l G h3 y A k0 n rf pm zh lc c pt gv c9 fy3 pa fa243 hpa (a9 + 1) (by omega)) (cwV 1 hts gX9_fault_X9_seven rfl rfl rfl (by decide +kernel) ⟨Nat.le_of_ble_eq_true rfl, Nat.le_of_ble_eq_true rfl⟩) (ah_preV hE hR hS fy3 rfl) rfl rfl hl.1 rfl (lv_room (Nat.le_of_ble_eq_true rfl)) dX9_fault_433 ⟨Nat.le_of_ble_eq_true rfl, Nat.le_of_ble_eq_true rfl⟩) hS (fun r_89 h_87 H locs p_88 hR hS => ?_)
                                                      obtain ⟨e_90, e_91⟩ := p_88
                                                      rw [e_91] at hR
                                                      rw [s7_svn hpa (show 7 * (a9 + 1) + 6 < 8 * (gv - 2) by omega)] at e_90
                                                      refine ah_toi e_90 ?_
                                                      have hs_92 := svn_lt pa gv (a9 + 1)
                                                      refine ah_iald (i := (svn pa gv (a9 + 1))) hx hb hE hR fa23 (by omega) (by omega) dX9_fault_436 ?_
                                                      refine lv_goto (tgt := 450) hx hb dX9_fault_437 (by decide) ?_
                                                      refine ah_toi (v := nI (escV (svn pa gv (a9 + 1)))) (by rw [← (escU_ok _).1]; exact (if_neg c_60).symm) ?_
                                                      refine lv_istore (lv' := [(9, .int (nI (escV (svn pa gv (a9 + 1))))), (8, .int (nI (a9 + 1))), (0, .ref y), (2, .int (nI 0)), (4, .int (nI (pa 1)))]) hx hb dX9_fault_450 hl (by decide) rfl (fun ls hl => ?_)
                                                      refine lv_goto (tgt := 467) hx hb dX9_fault_452 (by decide) ?_
                                                      refine lv_aload_n hx hb dX9_fault_467 rfl (lv_at hl 2 rfl) ?_
                                                      refine ah_get (ci := 8) (v := .ref (A 26)) (C := RX9) (T := TX9) (N := 27) hx hb hE hR hts hinX9 hown fy3 rfl 26 (by decide) k61 (fun _ h9 => h9) rfl dX9_fault_468 ?_
                                                      refine lv_aload_n hx hb dX9_fault_471 rfl (lv_at hl 2 rfl) ?_
                                                      refine ah_get (ci := 8) (v := .int (nI c9)) (C := RX9) (T := TX9) (N := 27) hx hb hE hR hts hinX9 hown fy3 rfl 25 (by decide) k129 (fun _ h9 => h9) rfl dX9_fault_472 ?_
                                                      refine lv_iload hx hb dX9_fault_475 (lv_at hl 0 rfl) ?_
                                                      have hcl9 := hdc.1
                                                      refine ah_iast (i := c9) hx hb hE hR hS fa263 (by omega) (by omega) dX9_fault_477 (fun H locs hR hS => ?_)
                                                      rw [nA_upd] at hR
                                                      obtain ⟨h_93, e_94⟩ : ∃ zz9, zz9 = ah_up h3 (A 26) (46, .inl (G.2.2.1 0, 200, .inl (nA (gU u3 c9 (escV (svn pa gv (a9 + 1))))))) := ⟨_, rfl⟩
                                                      have hR : ah_R G h_93 H := by rw [e_94]; exact hR
                                                      have f_95 : h_93 y = some (20, .inr (8, mF A k0 n rf pm zh lc c pt gv c9)) := by rw [e_94]; exact ah_keep fy3 fa263 (by omega)
                                                      have f_96 : h_93 (A 1) = some (21, .inl (G.2.2.1 0, 128, .inl plT)) := by rw [e_94]; exact ah_keep fa13 fa263 (by omega)
                                                      have f_97 : h_93 (A 2) = some (22, .inl (G.2.2.1 0, 128, .inl esT)) := by rw [e_94]; exact ah_keep fa23 fa263 (by omega)
                                                      have f_98 : h_93 (A 24) = some (44, .inl (G.2.2.1 0, 200, .inl (nA pa))) := by rw [e_94]; exact ah_keep fa243 fa263 (by omega)
                                                      have f_99 : h_93 (A 26) = some (46, .inl (G.2.2.1 0, 200, .inl (nA (gU u3 c9 (escV (svn pa gv (a9 + 1))))))) := by rw [e_94]; exact ah_up_s _ _ _
                                                      refine lv_aload_n hx hb dX9_fault_478 rfl (lv_at hl 2 rfl) ?_
                                                      refine lv_dup hx hb dX9_fault_479 rfl ?_
                                                      refine ah_get (ci := 8) (v := .int (nI c9)) (C := RX9) (T := TX9) (N := 27) hx hb hE hR hts hinX9 hown f_95 rfl 25 (by decide) k129 (fun _ h9 => h9) rfl dX9_fault_480 ?_
                                                      refine lv_iconst (v := nI 1) hx hb dX9_fault_483 (by decide) ?_
                                                      refine lv_iadd hx hb dX9_fault_484 ?_
                                                      refine ah_toi (v := nI (c9 + 1)) (nI_add _ _) ?_
                                                      refine ah_put (ci := 8) (v := .int (nI (c9 + 1))) (ty := .int) (C := RX9) (T := TX9) (N := 27) hx hb hE hR hS hts hinX9 tyX9 tyX9_ok nmX9 hown f_95 rfl 25 (by decide) k129 (fun _ h9 => h9) rfl (by decide +kernel) rfl rfl (Nat.le_of_ble_eq_true rfl) dX9_fault_485 (fun H locs hR hS => ?_)
                                                      obtain ⟨h_100, e_101⟩ : ∃ zz9, zz9 = ah_up h_93 y (20, .inr (8, mF A k0 n rf pm zh lc c pt gv (c9 + 1))) := ⟨_, rfl⟩
                                                      have hR : ah_R G h_100 H := by rw [e_101]; exact hR
                                                      have f_102 : h_100 y = some (20, .inr (8, mF A k0 n rf pm zh lc c pt gv (c9 + 1))) := by rw [e_101]; exact ah_up_s _ _ _
                                                      have f_103 : h_100 (A 1) = some (21, .inl (G.2.2.1 0, 128, .inl plT)) := by rw [e_101]; exact ah_keep f_96 f_95 (by omega)
                                                      have f_104 : h_100 (A 2) = some (22, .inl (G.2.2.1 0, 128, .inl esT)) := by rw [e_101]; exact ah_keep f_97 f_95 (by omega)
                                                      have f_105 : h_100 (A 24) = some (44, .inl (G.2.2.1 0, 200, .inl (nA pa))) := by rw [e_101]; exact ah_keep f_98 f_95 (by omega)
                                                      have f_106 : h_100 (A 26) = some (46, .inl (G.2.2.1 0, 200, .inl (nA (gU u3 c9 (escV (svn pa gv (a9 + 1))))))) := by rw [e_101]; exact ah_keep f_99 f_95 (by omega)
                                                      have agq : agr (fun t => t ≠ 20 ∧ t ≠ 46) h3 h_100 := by rw [e_101]; refine agr.up ?_ f_95 (by omega); rw [e_94]; exact agr.rf.up fa263 (by omega)
                                                      refine lv_iload hx hb dX9_fault_488 (lv_at hl 1 rfl) ?_
                                                      refine lv_iload_n hx hb dX9_fault_490 rfl (lv_at hl 3 rfl) ?_
                                                      refine lv_if_eq (tgt := 498) hx hb dX9_fault_491 (by decide) (fun c_107 => ?_) (fun c_107 => ?_)
                                                      · skip
                                                        refine lv_iconst (v := nI 1) hx hb dX9_fault_498 (by decide) ?_
                                                        refine lv_iadd hx hb dX9_fault_499 ?_
                                                        refine ah_toi (v := nI ((a9 + 1) + 1)) (nI_add _ _) ?_
                                                        refine lv_istore (lv' := [(8, .int (nI ((a9 + 1) + 1))), (9, .int (nI (escV (svn pa gv (a9 + 1))))), (0, .ref y), (2, .int (nI 0)), (4, .int (nI (pa 1)))]) hx hb dX9_fault_500 hl (by decide) rfl (fun ls hl => ?_)
                                                        refine lv_goto (tgt := 340) hx hb dX9_fault_502 (by decide) ?_
                                                        exact ih340  (c9 + 1) ((a9 + 1) + 1) (gU u3 c9 (escV (svn pa gv (a9 + 1)))) h_100 _ _ ls (by omega) (by omega) (by have := hdc.1; omega) hdc.2.2 (gU_list hu hdc.2.1) (ag3.tr agq) f_102 f_103 f_104 f_105 f_106 hR hS (lv_sub hl [0, 2, 3, 4] rfl)
                                                      · skip
                                                        exact absurd (by decide) c_107
                                                  · skip
                                                    have c_53 : (a9 + 1) = (pa 1) := (nI_eq (by omega) (by omega)).mp c_53
                                                    rw [if_neg (show ¬ a9 + 1 < pa 1 by omega)] at hst
                                                    have hdc := drop_cons hst
                                                    refine lv_bipush (v := nI 32) hx hb dX9_fault_406 (by decide) ?_
                                                    refine lv_goto (tgt := 450) hx hb dX9_fault_408 (by decide) ?_
                                                    refine lv_istore (lv' := [(9, .int (nI 32)), (8, .int (nI (a9 + 1))), (0, .ref y), (2, .int (nI 0)), (4, .int (nI (pa 1)))]) hx hb dX9_fault_450 hl (by decide) rfl (fun ls hl => ?_)
                                                    refine lv_goto (tgt := 467) hx hb dX9_fault_452 (by decide) ?_
                                                    refine lv_aload_n hx hb dX9_fault_467 rfl (lv_at hl 2 rfl) ?_
                                                    refine ah_get (ci := 8) (v := .ref (A 26)) (C := RX9) (T := TX9) (N := 27) hx hb hE hR hts hinX9 hown fy3 rfl 26 (by decide) k61 (fun _ h9 => h9) rfl dX9_fault_468 ?_
                                                    refine lv_aload_n hx hb dX9_fault_471 rfl (lv_at hl 2 rfl) ?_
                                                    refine ah_get (ci := 8) (v := .int (nI c9)) (C := RX9) (T := TX9) (N := 27) hx hb hE hR hts hinX9 hown fy3 rfl 25 (by decide) k129 (fun _ h9 => h9) rfl dX9_fault_472 ?_
                                                    refine lv_iload hx hb dX9_fault_475 (lv_at hl 0 rfl) ?_
                                                    have hcl9 := hdc.1
                                                    refine ah_iast (i := c9) hx hb hE hR hS fa263 (by omega) (by omega) dX9_fault_477 (fun H locs hR hS => ?_)
                                                    rw [nA_upd] at hR
                                                    obtain ⟨h_108, e_109⟩ : ∃ zz9, zz9 = ah_up h3 (A 26) (46, .inl (G.2.2.1 0, 200, .inl (nA (gU u3 c9 32)))) := ⟨_, rfl⟩
                                                    have hR : ah_R G h_108 H := by rw [e_109]; exact hR
                                                    have f_110 : h_108 y = some (20, .inr (8, mF A k0 n rf pm zh lc c pt gv c9)) := by rw [e_109]; exact ah_keep fy3 fa263 (by omega)
                                                    have f_111 : h_108 (A 1) = some (21, .inl (G.2.2.1 0, 128, .inl plT)) := by rw [e_109]; exact ah_keep fa13 fa263 (by omega)
                                                    have f_112 : h_108 (A 2) = some (22, .inl (G.2.2.1 0, 128, .inl esT)) := by rw [e_109]; exact ah_keep fa23 fa263 (by omega)
                                                    have f_113 : h_108 (A 24) = some (44, .inl (G.2.2.1 0, 200, .inl (nA pa))) := by rw [e_109]; exact ah_keep fa243 fa263 (by omega)
                                                    have f_114 : h_108 (A 26) = some (46, .inl (G.2.2.1 0, 200, .inl (nA (gU u3 c9 32)))) := by rw [e_109]; exact ah_up_s _ _ _
                                                    refine lv_aload_n hx hb dX9_fault_478 rfl (lv_at hl 2 rfl) ?_
                                                    refine lv_dup hx hb dX9_fault_479 rfl ?_
                                                    refine ah_get (ci := 8) (v := .int (nI c9)) (C := RX9) (T := TX9) (N := 27) hx hb hE hR hts hinX9 hown f_110 rfl 25 (by decide) k129 (fun _ h9 => h9) rfl dX9_fault_480 ?_
                                                    refine lv_iconst (v := nI 1) hx hb dX9_fault_483 (by decide) ?_
                                                    refine lv_iadd hx hb dX9_fault_484 ?_
                                                    refine ah_toi (v := nI (c9 + 1)) (nI_add _ _) ?_
                                                    refine ah_put (ci := 8) (v := .int (nI (c9 + 1))) (ty := .int) (C := RX9) (T := TX9) (N := 27) hx hb hE hR hS hts hinX9 tyX9 tyX9_ok nmX9 hown f_110 rfl 25 (by decide) k129 (fun _ h9 => h9) rfl (by decide +kernel) rfl rfl (Nat.le_of_ble_eq_true rfl) dX9_fault_485 (fun H locs hR hS => ?_)
                                                    obtain ⟨h_115, e_116⟩ : ∃ zz9, zz9 = ah_up h_108 y (20, .inr (8, mF A k0 n rf pm zh lc c pt gv (c9 + 1))) := ⟨_, rfl⟩
                                                    have hR : ah_R G h_115 H := by rw [e_116]; exact hR
                                                    have f_117 : h_115 y = some (20, .inr (8, mF A k0 n rf pm zh lc c pt gv (c9 + 1))) := by rw [e_116]; exact ah_up_s _ _ _
                                                    have f_118 : h_115 (A 1) = some (21, .inl (G.2.2.1 0, 128, .inl plT)) := by rw [e_116]; exact ah_keep f_111 f_110 (by omega)
                                                    have f_119 : h_115 (A 2) = some (22, .inl (G.2.2.1 0, 128, .inl esT)) := by rw [e_116]; exact ah_keep f_112 f_110 (by omega)
                                                    have f_120 : h_115 (A 24) = some (44, .inl (G.2.2.1 0, 200, .inl (nA pa))) := by rw [e_116]; exact ah_keep f_113 f_110 (by omega)
                                                    have f_121 : h_115 (A 26) = some (46, .inl (G.2.2.1 0, 200, .inl (nA (gU u3 c9 32)))) := by rw [e_116]; exact ah_keep f_114 f_110 (by omega)
                                                    have agq : agr (fun t => t ≠ 20 ∧ t ≠ 46) h3 h_115 := by rw [e_116]; refine agr.up ?_ f_110 (by omega); rw [e_109]; exact agr.rf.up fa263 (by omega)
                                                    refine lv_iload hx hb dX9_fault_488 (lv_at hl 1 rfl) ?_
                                                    refine lv_iload_n hx hb dX9_fault_490 rfl (lv_at hl 3 rfl) ?_
                                                    refine lv_if_eq (tgt := 498) hx hb dX9_fault_491 (by decide) (fun c_122 => ?_) (fun c_122 => ?_)
                                                    · skip
                                                      refine lv_iconst (v := nI 1) hx hb dX9_fault_498 (by decide) ?_
                                                      refine lv_iadd hx hb dX9_fault_499 ?_
                                                      refine ah_toi (v := nI ((a9 + 1) + 1)) (nI_add _ _) ?_
                                                      refine lv_istore (lv' := [(8, .int (nI ((a9 + 1) + 1))), (9, .int (nI 32)), (0, .ref y), (2, .int (nI 0)), (4, .int (nI (pa 1)))]) hx hb dX9_fault_500 hl (by decide) rfl (fun ls hl => ?_)
                                                      refine lv_goto (tgt := 340) hx hb dX9_fault_502 (by decide) ?_
                                                      exact ih340  (c9 + 1) ((a9 + 1) + 1) (gU u3 c9 32) h_115 _ _ ls (by omega) (by omega) (by have := hdc.1; omega) hdc.2.2 (gU_list hu hdc.2.1) (ag3.tr agq) f_117 f_118 f_119 f_120 f_121 hR hS (lv_sub hl [0, 2, 3, 4] rfl)
                                                    · skip
                                                      exact absurd (by decide) c_122
                                            · skip
                                              exact absurd (by decide) c_23
                                      exact L340 ((pa 1 - 0) + 1) 0 0 ua h_15 _ _ ls (by omega) (by omega) (by omega) (by rw [eL2]; rfl) (fun j hj => absurd hj (Nat.not_lt_zero j)) ag0 f_17 f_18 f_19 f_20 f_21 hR hS (lv_sub hl [0, 2, 4, 6] rfl)
                                    · skip
                                      have c_14 : ¬ (lf = 0) := fun z9 => c_14 ((zi_eq (by omega)).mpr z9)
                                      refine lv_bipush (v := nI 6) hx hb dX9_fault_328 (by decide) ?_
                                      refine ah_iret (v := nI 6) hx hb hr hlocks hR hS dX9_fault_330 ?_
                                      have hf9 : fault pa gv = 6 := fl_6 hz2 hkk hn3 hn4 hn5 ⟨by rw [hk9], by rw [hk9]; show strayB pa gv 0 (pa 1) = true; rw [← ei, show lf = 1 by omega]; rfl⟩
                                      exact ⟨by rw [hf9], fun _ => rfl, fun q9 => absurd q9 (by rw [hf9]; decide)⟩
                                  · skip
                                    have c_13 : ¬ ((8 * ((7 * pa 1 + 7) / 8)) ≤ b) := fun z9 => c_13 ((nI_leI (by omega) (by omega)).mpr z9)
                                    refine lv_iload_n hx hb dX9_fault_291 rfl (lv_at hl 4 rfl) ?_
                                    refine lv_if_ne (tgt := 323) hx hb dX9_fault_292 (by decide) (fun c_123 => ?_) (fun c_123 => ?_)
                                    · skip
                                      exact absurd c_123 (by decide)
                                    · skip
                                      refine lv_iload hx hb dX9_fault_295 (lv_at hl 1 rfl) ?_
                                      refine lv_if_ne (tgt := 310) hx hb dX9_fault_297 (by decide) (fun c_124 => ?_) (fun c_124 => ?_)
                                      · skip
                                        have c_124 : ¬ (lf = 0) := fun z9 => c_124 ((zi_eq (by omega)).mpr z9)
                                        refine lv_iconst (v := nI 1) hx hb dX9_fault_310 (by decide) ?_
                                        refine lv_goto (tgt := 315) hx hb dX9_fault_311 (by decide) ?_
                                        refine lv_istore (lv' := [(7, .int (nI 1)), (8, .int (nI b)), (0, .ref y), (1, .int (nI 0)), (2, .int (nI 0)), (3, .int (nI 0)), (4, .int (nI (pa 1))), (5, .int (nI ((7 * pa 1 + 7) / 8))), (6, .int (nI 0))]) hx hb dX9_fault_315 hl (by decide) rfl (fun ls hl => ?_)
                                        refine lv_iinc (v := nI (b + 1)) (lv' := [(8, .int (nI (b + 1))), (7, .int (nI 1)), (0, .ref y), (1, .int (nI 0)), (2, .int (nI 0)), (3, .int (nI 0)), (4, .int (nI (pa 1))), (5, .int (nI ((7 * pa 1 + 7) / 8))), (6, .int (nI 0))]) hx hb dX9_fault_317 hl (k := 1) rfl (show nI b + Int32.ofInt 1 = nI (b + 1) from nI_add _ 1) (by decide) rfl (fun ls hl => ?_)
                                        refine lv_goto (tgt := 281) hx hb dX9_fault_320 (by decide) ?_
                                        exact ih281  (b + 1) 1 _ _ ls (by omega) (by omega) (by omega) (by omega) (by rw [← ei, show 8 * ((7 * pa 1 + 7) / 8) - b = 8 * ((7 * pa 1 + 7) / 8) - (b + 1) + 1 by omega]; show _ = (decide (lf = 1) || (bitS pa gv b || anyB pa gv (8 * ((7 * pa 1 + 7) / 8) - (b + 1)) (b + 1))); rw [show lf = 1 by omega]; simp) fy1 fa11 fa21 fa241 fa261 hR hS (lv_sub hl [0, 1, 2, 3, 4, 5, 6, 7, 8] rfl)
                                      · skip
                                        have c_124 : lf = 0 := (zi_eq (by omega)).mp c_124
                                        have hl0 : lf = 0 := by omega
                                        refine lv_aload_n hx hb dX9_fault_300 rfl (lv_at hl 2 rfl) ?_
                                        refine lv_iload hx hb dX9_fault_301 (lv_at hl 0 rfl) ?_
                                        refine ah_calli (va_runV (As := [.int (nI b)]) (rest := []) ⟨hx, hb, hml, hown, hts⟩ (c_m_bit l G h y A k0 n rf pm zh lc c pt gv un fy1 pa fa241 hpa b (by omega)) (cwV 1 hts gX9_fault_X9_bit rfl rfl rfl (by decide +kernel) ⟨Nat.le_of_ble_eq_true rfl, Nat.le_of_ble_eq_true rfl⟩) (ah_preV hE hR hS fy1 rfl) rfl rfl hl.1 rfl (lv_room (Nat.le_of_ble_eq_true rfl)) dX9_fault_303 ⟨Nat.le_of_ble_eq_true rfl, Nat.le_of_ble_eq_true rfl⟩) hS (fun r_127 h_125 H locs p_126 hR hS => ?_)
                                        obtain ⟨e_128, e_129⟩ := p_126
                                        rw [e_129] at hR
                                        refine ah_toi e_128 ?_
                                        have hb_130 := bt_le pa b
                                        refine lv_iconst (v := nI 1) hx hb dX9_fault_306 (by decide) ?_
                                        refine lv_icmp_ne (tgt := 314) hx hb dX9_fault_307 (by decide) (fun c_131 => ?_) (fun c_131 => ?_)
                                        · skip
                                          have c_131 : ¬ ((bt pa b) = 1) := fun z9 => c_131 ((nI_eq (by omega) (by omega)).mpr z9)
                                          refine lv_iconst (v := nI 0) hx hb dX9_fault_314 (by decide) ?_
                                          refine lv_istore (lv' := [(7, .int (nI 0)), (8, .int (nI b)), (0, .ref y), (1, .int (nI 0)), (2, .int (nI 0)), (3, .int (nI 0)), (4, .int (nI (pa 1))), (5, .int (nI ((7 * pa 1 + 7) / 8))), (6, .int (nI 0))]) hx hb dX9_fault_315 hl (by decide) rfl (fun ls hl => ?_)
                                          refine lv_iinc (v := nI (b + 1)) (lv' := [(8, .int (nI (b + 1))), (7, .int (nI 0)), (0, .ref y), (1, .int (nI 0)), (2, .int (nI 0)), (3, .int (nI 0)), (4, .int (nI (pa 1))), (5, .int (nI ((7 * pa 1 + 7) / 8))), (6, .int (nI 0))]) hx hb dX9_fault_317 hl (k := 1) rfl (show nI b + Int32.ofInt 1 = nI (b + 1) from nI_add _ 1) (by decide) rfl (fun ls hl => ?_)
                                          refine lv_goto (tgt := 281) hx hb dX9_fault_320 (by decide) ?_
                                          exact ih281  (b + 1) 0 _ _ ls (by omega) (by omega) (by omega) (by omega) (by rw [← ei, show 8 * ((7 * pa 1 + 7) / 8) - b = 8 * ((7 * pa 1 + 7) / 8) - (b + 1) + 1 by omega]; show _ = (decide (lf = 1) || (bitS pa gv b || anyB pa gv (8 * ((7 * pa 1 + 7) / 8) - (b + 1)) (b + 1))); rw [bt_bz (show 2 + b / 8 < gv by omega), hl0, show bt pa b = 0 by omega]; simp) fy1 fa11 fa21 fa241 fa261 hR hS (lv_sub hl [0, 1, 2, 3, 4, 5, 6, 7, 8] rfl)
                                        · skip
                                          have c_131 : (bt pa b) = 1 := (nI_eq (by omega) (by omega)).mp c_131
                                          refine lv_iconst (v := nI 1) hx hb dX9_fault_310 (by decide) ?_
                                          refine lv_goto (tgt := 315) hx hb dX9_fault_311 (by decide) ?_
                                          refine lv_istore (lv' := [(7, .int (nI 1)), (8, .int (nI b)), (0, .ref y), (1, .int (nI 0)), (2, .int (nI 0)), (3, .int (nI 0)), (4, .int (nI (pa 1))), (5, .int (nI ((7 * pa 1 + 7) / 8))), (6, .int (nI 0))]) hx hb dX9_fault_315 hl (by decide) rfl (fun ls hl => ?_)
                                          refine lv_iinc (v := nI (b + 1)) (lv' := [(8, .int (nI (b + 1))), (7, .int (nI 1)), (0, .ref y), (1, .int (nI 0)), (2, .int (nI 0)), (3, .int (nI 0)), (4, .int (nI (pa 1))), (5, .int (nI ((7 * pa 1 + 7) / 8))), (6, .int (nI 0))]) hx hb dX9_fault_317 hl (k := 1) rfl (show nI b + Int32.ofInt 1 = nI (b + 1) from nI_add _ 1) (by decide) rfl (fun ls hl => ?_)
                                          refine lv_goto (tgt := 281) hx hb dX9_fault_320 (by decide) ?_
                                          exact ih281  (b + 1) 1 _ _ ls (by omega) (by omega) (by omega) (by omega) (by rw [← ei, show 8 * ((7 * pa 1 + 7) / 8) - b = 8 * ((7 * pa 1 + 7) / 8) - (b + 1) + 1 by omega]; show _ = (decide (lf = 1) || (bitS pa gv b || anyB pa gv (8 * ((7 * pa 1 + 7) / 8) - (b + 1)) (b + 1))); rw [bt_bz (show 2 + b / 8 < gv by omega), show bt pa b = 1 by omega]; simp) fy1 fa11 fa21 fa241 fa261 hR hS (lv_sub hl [0, 1, 2, 3, 4, 5, 6, 7, 8] rfl)
                              exact L281 ((8 * ((7 * pa 1 + 7) / 8) - (7 * pa 1)) + 1) (7 * pa 1) 0 _ _ ls (by omega) (by omega) (by omega) (by omega) (by unfold strayB; rw [hi0]; rfl) fy fa1 fa2 fa24 fa26 hR hS (lv_sub hl [0, 1, 8, 7, 6, 5, 4, 3, 2] rfl)
                            · skip
                              exact absurd (by decide) c_12
                        · skip
                          exact absurd (by decide) c_10
                      · skip
                        exact absurd (by decide) c_9
                    · skip
                      exact absurd (by decide) c_8
                  · skip
                    have c_7 : ¬ ((gv - 2) = (((7 * (pa 1)) + 7) / 8)) := fun z9 => c_7 ((nI_eq (by omega) (by omega)).mpr z9)
                    refine lv_iconst (v := nI 3) hx hb dX9_fault_121 (by decide) ?_
                    refine ah_iret (v := nI 3) hx hb hr hlocks hR hS dX9_fault_122 ?_
                    have hf9 : fault pa gv = 3 := fl_3 hz2 hkk (show wszP (pa 0 / 4) (pa 1) (gv - 2) by rw [hk9]; show (160 < pa 1 ∨ gv - 2 ≠ (7 * pa 1 + 7) / 8); omega)
                    exact ⟨by rw [hf9], fun _ => rfl, fun q9 => absurd q9 (by rw [hf9]; decide)⟩
              · skip
                exact absurd (by decide) c_5
            · skip
              exact absurd (by decide) c_4
          · skip
            have c_3 : 0 = 1 := (nI_eq (by omega) (by omega)).mp c_3
            exact absurd c_3 (by omega)
        · skip
          have c_2 : ¬ (0 ≤ 3) := fun z9 => c_2 ((nI_leI (by omega) (by omega)).mpr z9)
          exact absurd c_2 (by omega)
      · skip
        have hkk : pa 0 = 0 ∨ pa 0 = 1 ∨ pa 0 = 4 ∨ pa 0 = 5 := by omega
        rw [hk9] at hl
        refine lv_iload_n hx hb dX9_fault_38 rfl (lv_at hl 0 rfl) ?_
        refine lv_iconst (v := nI 3) hx hb dX9_fault_39 (by decide) ?_
        refine lv_icmp_le (tgt := 47) hx hb dX9_fault_40 (by decide) (fun c_132 => ?_) (fun c_132 => ?_)
        · skip
          have c_132 : 1 ≤ 3 := (nI_leI (by omega) (by omega)).mp c_132
          refine lv_iconst (v := nI 0) hx hb dX9_fault_47 (by decide) ?_
          refine lv_istore_n (lv' := [(2, .int (nI 0)), (1, .int (nI 1)), (0, .ref y)]) hx hb dX9_fault_48 rfl hl (by decide) rfl (fun ls hl => ?_)
          refine lv_iload_n hx hb dX9_fault_49 rfl (lv_at hl 1 rfl) ?_
          refine lv_iconst (v := nI 1) hx hb dX9_fault_50 (by decide) ?_
          refine lv_iand hx hb dX9_fault_51 ?_
          refine ah_toi (v := nI 1) (by decide) ?_
          refine lv_iconst (v := nI 1) hx hb dX9_fault_52 (by decide) ?_
          refine lv_icmp_ne (tgt := 60) hx hb dX9_fault_53 (by decide) (fun c_133 => ?_) (fun c_133 => ?_)
          · skip
            have c_133 : ¬ (1 = 1) := fun z9 => c_133 ((nI_eq (by omega) (by omega)).mpr z9)
            exact absurd c_133 (by omega)
          · skip
            have c_133 : 1 = 1 := (nI_eq (by omega) (by omega)).mp c_133
            refine lv_iconst (v := nI 1) hx hb dX9_fault_56 (by decide) ?_
            refine lv_goto (tgt := 61) hx hb dX9_fault_57 (by decide) ?_
            refine lv_istore_n (lv' := [(3, .int (nI 1)), (2, .int (nI 0)), (1, .int (nI 1)), (0, .ref y)]) hx hb dX9_fault_61 rfl hl (by decide) rfl (fun ls hl => ?_)
            refine lv_aload_n hx hb dX9_fault_62 rfl (lv_at hl 3 rfl) ?_
            refine ah_get (ci := 8) (v := .ref (A 24)) (C := RX9) (T := TX9) (N := 27) hx hb hE hR hts hinX9 hown fy rfl 24 (by decide) k58 (fun _ h9 => h9) rfl dX9_fault_63 ?_
            refine lv_iconst (v := nI 1) hx hb dX9_fault_66 (by decide) ?_
            refine ah_iald (i := 1) hx hb hE hR fa24 (by omega) (by omega) dX9_fault_67 ?_
            refine ah_toi (v := nI (pa 1)) rfl ?_
            refine lv_istore (lv' := [(4, .int (nI (pa 1))), (3, .int (nI 1)), (2, .int (nI 0)), (1, .int (nI 1)), (0, .ref y)]) hx hb dX9_fault_68 hl (by decide) rfl (fun ls hl => ?_)
            refine lv_iload_n hx hb dX9_fault_70 rfl (lv_at hl 2 rfl) ?_
            refine lv_if_eq (tgt := 79) hx hb dX9_fault_71 (by decide) (fun c_134 => ?_) (fun c_134 => ?_)
            · skip
              refine lv_bipush (v := nI 7) hx hb dX9_fault_79 (by decide) ?_
              refine lv_iload hx hb dX9_fault_81 (lv_at hl 0 rfl) ?_
              refine lv_imul hx hb dX9_fault_83 ?_
              refine ah_toi (v := nI (7 * (pa 1))) (pk_mul _ _) ?_
              refine lv_bipush (v := nI 7) hx hb dX9_fault_84 (by decide) ?_
              refine lv_iadd hx hb dX9_fault_86 ?_
              refine ah_toi (v := nI ((7 * (pa 1)) + 7)) (nI_add _ _) ?_
              refine lv_bipush (v := nI 8) hx hb dX9_fault_87 (by decide) ?_
              refine lv_idiv hx hb dX9_fault_89 (by decide) ?_
              refine ah_toi (v := nI (((7 * (pa 1)) + 7) / 8)) (pk_div (by omega) (by omega) (by omega)) ?_
              refine lv_istore (lv' := [(5, .int (nI (((7 * (pa 1)) + 7) / 8))), (4, .int (nI (pa 1))), (3, .int (nI 1)), (2, .int (nI 0)), (1, .int (nI 1)), (0, .ref y)]) hx hb dX9_fault_90 hl (by decide) rfl (fun ls hl => ?_)
              refine lv_iload hx hb dX9_fault_92 (lv_at hl 1 rfl) ?_
              refine lv_iload_n hx hb dX9_fault_94 rfl (lv_at hl 3 rfl) ?_
              refine lv_if_eq (tgt := 104) hx hb dX9_fault_95 (by decide) (fun c_135 => ?_) (fun c_135 => ?_)
              · skip
                refine lv_sipush (v := nI 160) hx hb dX9_fault_104 (by decide) ?_
                refine lv_icmp_gt (tgt := 121) hx hb dX9_fault_107 (by decide) (fun c_136 => ?_) (fun c_136 => ?_)
                · skip
                  have c_136 : 160 < (pa 1) := (nI_ltI (by omega) (by omega)).mp c_136
                  refine lv_iconst (v := nI 3) hx hb dX9_fault_121 (by decide) ?_
                  refine ah_iret (v := nI 3) hx hb hr hlocks hR hS dX9_fault_122 ?_
                  have hf9 : fault pa gv = 3 := fl_3 hz2 hkk (show wszP (pa 0 / 4) (pa 1) (gv - 2) by rw [hk9]; show (160 < pa 1 ∨ gv - 2 ≠ (7 * pa 1 + 7) / 8); omega)
                  exact ⟨by rw [hf9], fun _ => rfl, fun q9 => absurd q9 (by rw [hf9]; decide)⟩
                · skip
                  have c_136 : ¬ (160 < (pa 1)) := fun z9 => c_136 ((nI_ltI (by omega) (by omega)).mpr z9)
                  refine lv_aload_n hx hb dX9_fault_110 rfl (lv_at hl 5 rfl) ?_
                  refine ah_get (ci := 8) (v := .int (nI gv)) (C := RX9) (T := TX9) (N := 27) hx hb hE hR hts hinX9 hown fy rfl 23 (by decide) k126 (fun _ h9 => h9) rfl dX9_fault_111 ?_
                  refine lv_iconst (v := nI 2) hx hb dX9_fault_114 (by decide) ?_
                  refine lv_isub hx hb dX9_fault_115 ?_
                  refine ah_toi (v := nI (gv - 2)) (pk_sub (by omega)) ?_
                  refine lv_iload hx hb dX9_fault_116 (lv_at hl 0 rfl) ?_
                  refine lv_icmp_eq (tgt := 123) hx hb dX9_fault_118 (by decide) (fun c_137 => ?_) (fun c_137 => ?_)
                  · skip
                    have c_137 : (gv - 2) = (((7 * (pa 1)) + 7) / 8) := (nI_eq (by omega) (by omega)).mp c_137
                    have hn3 : ¬ wszP (pa 0 / 4) (pa 1) (gv - 2) := by rw [hk9]; show ¬ (160 < pa 1 ∨ gv - 2 ≠ (7 * pa 1 + 7) / 8); omega
                    refine lv_iload_n hx hb dX9_fault_123 rfl (lv_at hl 2 rfl) ?_
                    refine lv_if_eq (tgt := 211) hx hb dX9_fault_124 (by decide) (fun c_138 => ?_) (fun c_138 => ?_)
                    · skip
                      exact absurd c_138 (by decide)
                    · skip
                      refine lv_iload hx hb dX9_fault_127 (lv_at hl 1 rfl) ?_
                      refine lv_iload_n hx hb dX9_fault_129 rfl (lv_at hl 3 rfl) ?_
                      refine lv_if_eq (tgt := 138) hx hb dX9_fault_130 (by decide) (fun c_139 => ?_) (fun c_139 => ?_)
                      · skip
                        refine lv_bipush (v := nI 7) hx hb dX9_fault_138 (by decide) ?_
                        refine lv_icmp_lt (tgt := 209) hx hb dX9_fault_140 (by decide) (fun c_140 => ?_) (fun c_140 => ?_)
                        · skip
                          have c_140 : (pa 1) < 7 := (nI_ltI (by omega) (by omega)).mp c_140
                          refine lv_iconst (v := nI 4) hx hb dX9_fault_209 (by decide) ?_
                          refine ah_iret (v := nI 4) hx hb hr hlocks hR hS dX9_fault_210 ?_
                          have hf9 : fault pa gv = 4 := fl_4 hz2 hkk hn3 ⟨by rw [hk9]; decide, by rw [hk9]; show pa 1 < 7 ∨ hdrBad pa; unfold hdrBad; omega⟩
                          exact ⟨by rw [hf9], fun _ => rfl, fun q9 => absurd q9 (by rw [hf9]; decide)⟩
                        · skip
                          have c_140 : ¬ ((pa 1) < 7) := fun z9 => c_140 ((nI_ltI (by omega) (by omega)).mpr z9)
                          refine lv_aload_n hx hb dX9_fault_143 rfl (lv_at hl 5 rfl) ?_
                          refine ah_get (ci := 8) (v := .ref (A 24)) (C := RX9) (T := TX9) (N := 27) hx hb hE hR hts hinX9 hown fy rfl 24 (by decide) k58 (fun _ h9 => h9) rfl dX9_fault_144 ?_
                          refine lv_iconst (v := nI 2) hx hb dX9_fault_147 (by decide) ?_
                          refine ah_iald (i := 2) hx hb hE hR fa24 (by omega) (by omega) dX9_fault_148 ?_
                          refine ah_toi (v := nI (pa 2)) rfl ?_
                          refine lv_iconst (v := nI 5) hx hb dX9_fault_149 (by decide) ?_
                          refine lv_icmp_ne (tgt := 209) hx hb dX9_fault_150 (by decide) (fun c_141 => ?_) (fun c_141 => ?_)
                          · skip
                            have c_141 : ¬ ((pa 2) = 5) := fun z9 => c_141 ((nI_eq (by omega) (by omega)).mpr z9)
                            refine lv_iconst (v := nI 4) hx hb dX9_fault_209 (by decide) ?_
                            refine ah_iret (v := nI 4) hx hb hr hlocks hR hS dX9_fault_210 ?_
                            have hf9 : fault pa gv = 4 := fl_4 hz2 hkk hn3 ⟨by rw [hk9]; decide, by rw [hk9]; show pa 1 < 7 ∨ hdrBad pa; unfold hdrBad; omega⟩
                            exact ⟨by rw [hf9], fun _ => rfl, fun q9 => absurd q9 (by rw [hf9]; decide)⟩
                          · skip
                            have c_141 : (pa 2) = 5 := (nI_eq (by omega) (by omega)).mp c_141
                            refine lv_aload_n hx hb dX9_fault_153 rfl (lv_at hl 5 rfl) ?_
                            refine ah_get (ci := 8) (v := .ref (A 24)) (C := RX9) (T := TX9) (N := 27) hx hb hE hR hts hinX9 hown fy rfl 24 (by decide) k58 (fun _ h9 => h9) rfl dX9_fault_154 ?_
                            refine lv_iconst (v := nI 3) hx hb dX9_fault_157 (by decide) ?_
                            refine ah_iald (i := 3) hx hb hE hR fa24 (by omega) (by omega) dX9_fault_158 ?_
                            refine ah_toi (v := nI (pa 3)) rfl ?_
                            refine lv_if_ne (tgt := 209) hx hb dX9_fault_159 (by decide) (fun c_142 => ?_) (fun c_142 => ?_)
                            · skip
                              have c_142 : ¬ ((pa 3) = 0) := fun z9 => c_142 ((zi_eq (by omega)).mpr z9)
                              refine lv_iconst (v := nI 4) hx hb dX9_fault_209 (by decide) ?_
                              refine ah_iret (v := nI 4) hx hb hr hlocks hR hS dX9_fault_210 ?_
                              have hf9 : fault pa gv = 4 := fl_4 hz2 hkk hn3 ⟨by rw [hk9]; decide, by rw [hk9]; show pa 1 < 7 ∨ hdrBad pa; unfold hdrBad; omega⟩
                              exact ⟨by rw [hf9], fun _ => rfl, fun q9 => absurd q9 (by rw [hf9]; decide)⟩
                            · skip
                              have c_142 : (pa 3) = 0 := (zi_eq (by omega)).mp c_142
                              refine lv_aload_n hx hb dX9_fault_162 rfl (lv_at hl 5 rfl) ?_
                              refine ah_get (ci := 8) (v := .ref (A 24)) (C := RX9) (T := TX9) (N := 27) hx hb hE hR hts hinX9 hown fy rfl 24 (by decide) k58 (fun _ h9 => h9) rfl dX9_fault_163 ?_
                              refine lv_iconst (v := nI 4) hx hb dX9_fault_166 (by decide) ?_
                              refine ah_iald (i := 4) hx hb hE hR fa24 (by omega) (by omega) dX9_fault_167 ?_
                              refine ah_toi (v := nI (pa 4)) rfl ?_
                              refine lv_iconst (v := nI 3) hx hb dX9_fault_168 (by decide) ?_
                              refine lv_icmp_ne (tgt := 209) hx hb dX9_fault_169 (by decide) (fun c_143 => ?_) (fun c_143 => ?_)
                              · skip
                                have c_143 : ¬ ((pa 4) = 3) := fun z9 => c_143 ((nI_eq (by omega) (by omega)).mpr z9)
                                refine lv_iconst (v := nI 4) hx hb dX9_fault_209 (by decide) ?_
                                refine ah_iret (v := nI 4) hx hb hr hlocks hR hS dX9_fault_210 ?_
                                have hf9 : fault pa gv = 4 := fl_4 hz2 hkk hn3 ⟨by rw [hk9]; decide, by rw [hk9]; show pa 1 < 7 ∨ hdrBad pa; unfold hdrBad; omega⟩
                                exact ⟨by rw [hf9], fun _ => rfl, fun q9 => absurd q9 (by rw [hf9]; decide)⟩
                              · skip
                                have c_143 : (pa 4) = 3 := (nI_eq (by omega) (by omega)).mp c_143
                                refine lv_aload_n hx hb dX9_fault_172 rfl (lv_at hl 5 rfl) ?_
                                refine ah_get (ci := 8) (v := .ref (A 24)) (C := RX9) (T := TX9) (N := 27) hx hb hE hR hts hinX9 hown fy rfl 24 (by decide) k58 (fun _ h9 => h9) rfl dX9_fault_173 ?_
                                refine lv_bipush (v := nI 6) hx hb dX9_fault_176 (by decide) ?_
                                refine ah_iald (i := 6) hx hb hE hR fa24 (by omega) (by omega) dX9_fault_178 ?_
                                refine ah_toi (v := nI (pa 6)) rfl ?_
                                refine lv_if_eq (tgt := 209) hx hb dX9_fault_179 (by decide) (fun c_144 => ?_) (fun c_144 => ?_)
                                · skip
                                  have c_144 : (pa 6) = 0 := (zi_eq (by omega)).mp c_144
                                  refine lv_iconst (v := nI 4) hx hb dX9_fault_209 (by decide) ?_
                                  refine ah_iret (v := nI 4) hx hb hr hlocks hR hS dX9_fault_210 ?_
                                  have hf9 : fault pa gv = 4 := fl_4 hz2 hkk hn3 ⟨by rw [hk9]; decide, by rw [hk9]; show pa 1 < 7 ∨ hdrBad pa; unfold hdrBad; omega⟩
                                  exact ⟨by rw [hf9], fun _ => rfl, fun q9 => absurd q9 (by rw [hf9]; decide)⟩
                                · skip
                                  have c_144 : ¬ ((pa 6) = 0) := fun z9 => c_144 ((zi_eq (by omega)).mpr z9)
                                  refine lv_aload_n hx hb dX9_fault_182 rfl (lv_at hl 5 rfl) ?_
                                  refine ah_get (ci := 8) (v := .ref (A 24)) (C := RX9) (T := TX9) (N := 27) hx hb hE hR hts hinX9 hown fy rfl 24 (by decide) k58 (fun _ h9 => h9) rfl dX9_fault_183 ?_
                                  refine lv_bipush (v := nI 7) hx hb dX9_fault_186 (by decide) ?_
                                  refine ah_iald (i := 7) hx hb hE hR fa24 (by omega) (by omega) dX9_fault_188 ?_
                                  refine ah_toi (v := nI (pa 7)) rfl ?_
                                  refine lv_if_eq (tgt := 209) hx hb dX9_fault_189 (by decide) (fun c_145 => ?_) (fun c_145 => ?_)
                                  · skip
                                    have c_145 : (pa 7) = 0 := (zi_eq (by omega)).mp c_145
                                    refine lv_iconst (v := nI 4) hx hb dX9_fault_209 (by decide) ?_
                                    refine ah_iret (v := nI 4) hx hb hr hlocks hR hS dX9_fault_210 ?_
                                    have hf9 : fault pa gv = 4 := fl_4 hz2 hkk hn3 ⟨by rw [hk9]; decide, by rw [hk9]; show pa 1 < 7 ∨ hdrBad pa; unfold hdrBad; omega⟩
                                    exact ⟨by rw [hf9], fun _ => rfl, fun q9 => absurd q9 (by rw [hf9]; decide)⟩
                                  · skip
                                    have c_145 : ¬ ((pa 7) = 0) := fun z9 => c_145 ((zi_eq (by omega)).mpr z9)
                                    refine lv_aload_n hx hb dX9_fault_192 rfl (lv_at hl 5 rfl) ?_
                                    refine ah_get (ci := 8) (v := .ref (A 24)) (C := RX9) (T := TX9) (N := 27) hx hb hE hR hts hinX9 hown fy rfl 24 (by decide) k58 (fun _ h9 => h9) rfl dX9_fault_193 ?_
                                    refine lv_bipush (v := nI 7) hx hb dX9_fault_196 (by decide) ?_
                                    refine ah_iald (i := 7) hx hb hE hR fa24 (by omega) (by omega) dX9_fault_198 ?_
                                    refine ah_toi (v := nI (pa 7)) rfl ?_
                                    refine lv_aload_n hx hb dX9_fault_199 rfl (lv_at hl 5 rfl) ?_
                                    refine ah_get (ci := 8) (v := .ref (A 24)) (C := RX9) (T := TX9) (N := 27) hx hb hE hR hts hinX9 hown fy rfl 24 (by decide) k58 (fun _ h9 => h9) rfl dX9_fault_200 ?_
                                    refine lv_bipush (v := nI 6) hx hb dX9_fault_203 (by decide) ?_
                                    refine ah_iald (i := 6) hx hb hE hR fa24 (by omega) (by omega) dX9_fault_205 ?_
                                    refine ah_toi (v := nI (pa 6)) rfl ?_
                                    refine lv_icmp_le (tgt := 211) hx hb dX9_fault_206 (by decide) (fun c_146 => ?_) (fun c_146 => ?_)
                                    · skip
                                      have c_146 : (pa 7) ≤ (pa 6) := (nI_leI (by omega) (by omega)).mp c_146
                                      have hn4 : ¬ (pa 0 % 2 ≠ 0 ∧ (pa 1 < hlim (pa 0 / 4) ∨ hdrBad pa)) := fun q9 => by have z9 := q9.2; rw [hk9] at z9; have z8 : pa 1 < 7 ∨ hdrBad pa := z9; unfold hdrBad at z8; omega
                                      refine lv_iload_n hx hb dX9_fault_211 rfl (lv_at hl 2 rfl) ?_
                                      refine lv_if_eq (tgt := 229) hx hb dX9_fault_212 (by decide) (fun c_147 => ?_) (fun c_147 => ?_)
                                      · skip
                                        exact absurd c_147 (by decide)
                                      · skip
                                        refine lv_iload_n hx hb dX9_fault_215 rfl (lv_at hl 3 rfl) ?_
                                        refine lv_if_eq (tgt := 224) hx hb dX9_fault_216 (by decide) (fun c_148 => ?_) (fun c_148 => ?_)
                                        · skip
                                          refine lv_bipush (v := nI 7) hx hb dX9_fault_224 (by decide) ?_
                                          refine lv_goto (tgt := 230) hx hb dX9_fault_226 (by decide) ?_
                                          refine lv_istore (lv' := [(6, .int (nI 7)), (5, .int (nI (((7 * (pa 1)) + 7) / 8))), (4, .int (nI (pa 1))), (3, .int (nI 1)), (2, .int (nI 0)), (1, .int (nI 1)), (0, .ref y)]) hx hb dX9_fault_230 hl (by decide) rfl (fun ls hl => ?_)
                                          refine lv_iload_n hx hb dX9_fault_232 rfl (lv_at hl 4 rfl) ?_
                                          refine lv_if_eq (tgt := 249) hx hb dX9_fault_233 (by decide) (fun c_149 => ?_) (fun c_149 => ?_)
                                          · skip
                                            have hn5 : ¬ (pa 0 / 4 ≠ 0 ∧ pa 1 % 2 ≠ 0) := fun q9 => by have z9 := q9.1; rw [hk9] at z9; exact z9 rfl
                                            refine lv_iload_n hx hb dX9_fault_249 rfl (lv_at hl 4 rfl) ?_
                                            refine lv_if_ne (tgt := 271) hx hb dX9_fault_250 (by decide) (fun c_150 => ?_) (fun c_150 => ?_)
                                            · skip
                                              exact absurd c_150 (by decide)
                                            · skip
                                              refine lv_iload_n hx hb dX9_fault_253 rfl (lv_at hl 3 rfl) ?_
                                              refine lv_if_eq (tgt := 271) hx hb dX9_fault_254 (by decide) (fun c_151 => ?_) (fun c_151 => ?_)
                                              · skip
                                                exact absurd c_151 (by decide)
                                              · skip
                                                refine lv_aload_n hx hb dX9_fault_257 rfl (lv_at hl 6 rfl) ?_
                                                refine lv_bipush (v := nI 48) hx hb dX9_fault_258 (by decide) ?_
                                                refine ah_calli (va_runV (As := [.int (nI 48)]) (rest := []) ⟨hx, hb, hml, hown, hts⟩ (c_m_bit l G h y A k0 n rf pm zh lc c pt gv un fy pa fa24 hpa 48 (by omega)) (cwV 1 hts gX9_fault_X9_bit rfl rfl rfl (by decide +kernel) ⟨Nat.le_of_ble_eq_true rfl, Nat.le_of_ble_eq_true rfl⟩) (ah_preV hE hR hS fy rfl) rfl rfl hl.1 rfl (lv_room (Nat.le_of_ble_eq_true rfl)) dX9_fault_260 ⟨Nat.le_of_ble_eq_true rfl, Nat.le_of_ble_eq_true rfl⟩) hS (fun r_154 h_152 H locs p_153 hR hS => ?_)
                                                obtain ⟨e_155, e_156⟩ := p_153
                                                rw [e_156] at hR
                                                refine ah_toi e_155 ?_
                                                have hb_157 := bt_le pa 48
                                                refine lv_iconst (v := nI 1) hx hb dX9_fault_263 (by decide) ?_
                                                refine lv_icmp_ne (tgt := 271) hx hb dX9_fault_264 (by decide) (fun c_158 => ?_) (fun c_158 => ?_)
                                                · skip
                                                  have c_158 : ¬ ((bt pa 48) = 1) := fun z9 => c_158 ((nI_eq (by omega) (by omega)).mpr z9)
                                                  refine lv_iconst (v := nI 0) hx hb dX9_fault_271 (by decide) ?_
                                                  refine lv_istore (lv' := [(7, .int (nI 0)), (6, .int (nI 7)), (5, .int (nI (((7 * (pa 1)) + 7) / 8))), (4, .int (nI (pa 1))), (3, .int (nI 1)), (2, .int (nI 0)), (1, .int (nI 1)), (0, .ref y)]) hx hb dX9_fault_272 hl (by decide) rfl (fun ls hl => ?_)
                                                  refine lv_bipush (v := nI 7) hx hb dX9_fault_274 (by decide) ?_
                                                  refine lv_iload hx hb dX9_fault_276 (lv_at hl 3 rfl) ?_
                                                  refine lv_imul hx hb dX9_fault_278 ?_
                                                  refine ah_toi (v := nI (7 * (pa 1))) (pk_mul _ _) ?_
                                                  refine lv_istore (lv' := [(8, .int (nI (7 * (pa 1)))), (7, .int (nI 0)), (6, .int (nI 7)), (5, .int (nI (((7 * (pa 1)) + 7) / 8))), (4, .int (nI (pa 1))), (3, .int (nI 1)), (2, .int (nI 0)), (1, .int (nI 1)), (0, .ref y)]) hx hb dX9_fault_279 hl (by decide) rfl (fun ls hl => ?_)
                                                  have hi0 : decide (0 = 1) = (decide (1 ≠ 0) && bitS pa gv 48) := by rw [bt_bz (by omega), show bt pa 48 = 0 by omega]; rfl
                                                  have L281 : ∀ (N281 : Nat) (b : Nat) (lf : Nat) (H : Heap) (locs : List Loc) (ls : Array Slot), 8 * ((7 * pa 1 + 7) / 8) - b < N281 → (7 * pa 1 ≤ b) → (b ≤ 8 * ((7 * pa 1 + 7) / 8)) → (lf ≤ 1) → ((decide (lf = 1) || anyB pa gv (8 * ((7 * pa 1 + 7) / 8) - b) b) = strayB pa gv 1 (pa 1)) → (h y = some (20, .inr (8, mF A k0 n rf pm zh lc c pt gv un))) → (h (A 1) = some (21, .inl (G.2.2.1 0, 128, .inl plT))) → (h (A 2) = some (22, .inl (G.2.2.1 0, 128, .inl esT))) → (h (A 24) = some (44, .inl (G.2.2.1 0, 200, .inl (nA pa)))) → (h (A 26) = some (46, .inl (G.2.2.1 0, 200, .inl (nA ua)))) → ah_R G h H → va_S (ah_A G) s.heap H locs → lv_has ls 10 [(8, .int (nI b)), (7, .int (nI lf)), (0, .ref y), (1, .int (nI 1)), (2, .int (nI 0)), (3, .int (nI 1)), (4, .int (nI (pa 1))), (5, .int (nI ((7 * pa 1 + 7) / 8))), (6, .int (nI 7))] → W p l e ({ frames := 2, cells := 0, slots := 0, locals := 44 }) s m ([.ref y] : List Value).toArray below meth cd9 H locs 0 0 (MQ below (ah_Qi G (fun v h' => v = nI (fault pa gv) ∧ (fault pa gv ≠ 0 → h' = h) ∧ (fault pa gv = 0 → ∃ u2 : Nat → Nat, h' y = some (20, .inr (8, mF A k0 n rf pm zh lc c pt gv ((unitsL pa gv).length))) ∧ h' (A 26) = some (46, .inl (G.2.2.1 0, 200, .inl (nA u2))) ∧ agr (fun t => t ≠ 20 ∧ t ≠ 46) h h' ∧ ∀ j, j < (unitsL pa gv).length → u2 j = (unitsL pa gv).getD j 0))) ([.ref y] : List Value).toArray s 0 0 (ah_A G)) (F0 m 281 ls []) := by
                                                    intro N281
                                                    induction N281 with
                                                    | zero => intro b lf  H locs ls hN; exact absurd hN (Nat.not_lt_zero _)
                                                    | succ N281 ih281 =>
                                                      intro b lf  H locs ls hN281 hb1 hb2 hlf ei fy1 fa11 fa21 fa241 fa261 hR hS hl
                                                      refine lv_iload hx hb dX9_fault_281 (lv_at hl 0 rfl) ?_
                                                      refine lv_bipush (v := nI 8) hx hb dX9_fault_283 (by decide) ?_
                                                      refine lv_iload hx hb dX9_fault_285 (lv_at hl 7 rfl) ?_
                                                      refine lv_imul hx hb dX9_fault_287 ?_
                                                      refine ah_toi (v := nI (8 * ((7 * pa 1 + 7) / 8))) (pk_mul _ _) ?_
                                                      refine lv_icmp_ge (tgt := 323) hx hb dX9_fault_288 (by decide) (fun c_159 => ?_) (fun c_159 => ?_)
                                                      · skip
                                                        have c_159 : (8 * ((7 * pa 1 + 7) / 8)) ≤ b := (nI_leI (by omega) (by omega)).mp c_159
                                                        refine lv_iload hx hb dX9_fault_323 (lv_at hl 1 rfl) ?_
                                                        refine lv_if_eq (tgt := 331) hx hb dX9_fault_325 (by decide) (fun c_160 => ?_) (fun c_160 => ?_)
                                                        · skip
                                                          have c_160 : lf = 0 := (zi_eq (by omega)).mp c_160
                                                          have hf0 : fault pa gv = 0 := fl_0 hz2 hkk hn3 hn4 hn5 (fun q9 => by have z9 := q9.2; rw [hk9] at z9; have z8 : strayB pa gv 1 (pa 1) = true := z9; rw [← ei, show lf = 0 by omega, show 8 * ((7 * pa 1 + 7) / 8) - b = 0 by omega] at z8; exact Bool.noConfusion (show false = true from z8))
                                                          obtain ⟨L, eL⟩ : ∃ L9, L9 = unitsL pa gv := ⟨_, rfl⟩
                                                          have eL2 : L = dS (svn pa gv) (pa 1) (pa 1 - 7) 7 := by rw [eL]; unfold unitsL; rw [hk9]; rfl
                                                          have hLl : L.length ≤ 160 := by rw [eL]; exact unitsL_len (by omega)
                                                          refine lv_aload_n hx hb dX9_fault_331 rfl (lv_at hl 2 rfl) ?_
                                                          refine lv_iconst (v := nI 0) hx hb dX9_fault_332 (by decide) ?_
                                                          refine ah_put (ci := 8) (v := .int (nI 0)) (ty := .int) (C := RX9) (T := TX9) (N := 27) hx hb hE hR hS hts hinX9 tyX9 tyX9_ok nmX9 hown fy1 rfl 25 (by decide) k129 (fun _ h9 => h9) rfl (by decide +kernel) rfl rfl (Nat.le_of_ble_eq_true rfl) dX9_fault_333 (fun H locs hR hS => ?_)
                                                          obtain ⟨h_161, e_162⟩ : ∃ zz9, zz9 = ah_up h y (20, .inr (8, mF A k0 n rf pm zh lc c pt gv 0)) := ⟨_, rfl⟩
                                                          have hR : ah_R G h_161 H := by rw [e_162]; exact hR
                                                          have f_163 : h_161 y = some (20, .inr (8, mF A k0 n rf pm zh lc c pt gv 0)) := by rw [e_162]; exact ah_up_s _ _ _
                                                          have f_164 : h_161 (A 1) = some (21, .inl (G.2.2.1 0, 128, .inl plT)) := by rw [e_162]; exact ah_keep fa11 fy1 (by omega)
                                                          have f_165 : h_161 (A 2) = some (22, .inl (G.2.2.1 0, 128, .inl esT)) := by rw [e_162]; exact ah_keep fa21 fy1 (by omega)
                                                          have f_166 : h_161 (A 24) = some (44, .inl (G.2.2.1 0, 200, .inl (nA pa))) := by rw [e_162]; exact ah_keep fa241 fy1 (by omega)
                                                          have f_167 : h_161 (A 26) = some (46, .inl (G.2.2.1 0, 200, .inl (nA ua))) := by rw [e_162]; exact ah_keep fa261 fy1 (by omega)
                                                          refine lv_iload hx hb dX9_fault_336 (lv_at hl 8 rfl) ?_
                                                          refine lv_istore (lv' := [(8, .int (nI 7)), (7, .int (nI lf)), (0, .ref y), (1, .int (nI 1)), (2, .int (nI 0)), (3, .int (nI 1)), (4, .int (nI (pa 1))), (5, .int (nI ((7 * pa 1 + 7) / 8))), (6, .int (nI 7))]) hx hb dX9_fault_338 hl (by decide) rfl (fun ls hl => ?_)
                                                          have ag0 : agr (fun t => t ≠ 20 ∧ t ≠ 46) h h_161 := by rw [e_162]; exact agr.rf.up fy1 (by omega)
                                                          have L340 : ∀ (N340 : Nat) (c9 : Nat) (a9 : Nat) (u3 : Nat → Nat) (h3 : ah_H) (H : Heap) (locs : List Loc) (ls : Array Slot), pa 1 - a9 < N340 → (a9 ≤ pa 1 + 1) → (c9 ≤ L.length) → (L.drop c9 = dS (svn pa gv) (pa 1) (pa 1 - a9) a9) → (∀ j, j < c9 → u3 j = L.getD j 0) → (agr (fun t => t ≠ 20 ∧ t ≠ 46) h h3) → (h3 y = some (20, .inr (8, mF A k0 n rf pm zh lc c pt gv c9))) → (h3 (A 1) = some (21, .inl (G.2.2.1 0, 128, .inl plT))) → (h3 (A 2) = some (22, .inl (G.2.2.1 0, 128, .inl esT))) → (h3 (A 24) = some (44, .inl (G.2.2.1 0, 200, .inl (nA pa)))) → (h3 (A 26) = some (46, .inl (G.2.2.1 0, 200, .inl (nA u3)))) → ah_R G h3 H → va_S (ah_A G) s.heap H locs → lv_has ls 10 [(8, .int (nI a9)), (0, .ref y), (2, .int (nI 0)), (4, .int (nI (pa 1)))] → W p l e ({ frames := 2, cells := 0, slots := 0, locals := 44 }) s m ([.ref y] : List Value).toArray below meth cd9 H locs 0 0 (MQ below (ah_Qi G (fun v h' => v = nI (fault pa gv) ∧ (fault pa gv ≠ 0 → h' = h) ∧ (fault pa gv = 0 → ∃ u2 : Nat → Nat, h' y = some (20, .inr (8, mF A k0 n rf pm zh lc c pt gv ((unitsL pa gv).length))) ∧ h' (A 26) = some (46, .inl (G.2.2.1 0, 200, .inl (nA u2))) ∧ agr (fun t => t ≠ 20 ∧ t ≠ 46) h h' ∧ ∀ j, j < (unitsL pa gv).length → u2 j = (unitsL pa gv).getD j 0))) ([.ref y] : List Value).toArray s 0 0 (ah_A G)) (F0 m 340 ls []) := by
                                                            intro N340
                                                            induction N340 with
                                                            | zero => intro c9 a9 u3 h3 H locs ls hN; exact absurd hN (Nat.not_lt_zero _)
                                                            | succ N340 ih340 =>
                                                              intro c9 a9 u3 h3 H locs ls hN340 ha9 hcl hd9 hu ag3 fy3 fa13 fa23 fa243 fa263 hR hS hl
                                                              refine lv_iload hx hb dX9_fault_340 (lv_at hl 0 rfl) ?_
                                                              refine lv_iload hx hb dX9_fault_342 (lv_at hl 3 rfl) ?_
                                                              refine lv_icmp_ge (tgt := 505) hx hb dX9_fault_344 (by decide) (fun c_168 => ?_) (fun c_168 => ?_)
                                                              · skip
                                                                have c_168 : (pa 1) ≤ a9 := (nI_leI (by omega) (by omega)).mp c_168
                                                                have hend : c9 = L.length := drop_nil (by rw [hd9, dS_end (by omega)]) hcl
                                                                refine lv_iconst (v := nI 0) hx hb dX9_fault_505 (by decide) ?_
                                                                refine ah_iret (v := nI 0) hx hb hr hlocks hR hS dX9_fault_506 ?_
                                                                exact ⟨by rw [hf0], fun q9 => absurd hf0 q9, fun _ => ⟨u3, by rw [← eL, ← hend]; exact fy3, fa263, ag3, fun j hj => by rw [← eL] at hj ⊢; exact hu j (by omega)⟩⟩
                                                              · skip
                                                                have c_168 : ¬ ((pa 1) ≤ a9) := fun z9 => c_168 ((nI_leI (by omega) (by omega)).mpr z9)
                                                                have hst := hd9.trans (dS_step (by omega))
                                                                refine lv_iload_n hx hb dX9_fault_347 rfl (lv_at hl 2 rfl) ?_
                                                                refine lv_if_eq (tgt := 377) hx hb dX9_fault_348 (by decide) (fun c_169 => ?_) (fun c_169 => ?_)
                                                                · skip
                                                                  refine lv_aload_n hx hb dX9_fault_377 rfl (lv_at hl 1 rfl) ?_
                                                                  refine lv_iload hx hb dX9_fault_378 (lv_at hl 0 rfl) ?_
                                                                  refine ah_calli (va_runV (As := [.int (nI a9)]) (rest := []) ⟨hx, hb, hml, hown, hts⟩ (c_m_seven l G h3 y A k0 n rf pm zh lc c pt gv c9 fy3 pa fa243 hpa a9 (by omega)) (cwV 1 hts gX9_fault_X9_seven rfl rfl rfl (by decide +kernel) ⟨Nat.le_of_ble_eq_true rfl, Nat.le_of_ble_eq_true rfl⟩) (ah_preV hE hR hS fy3 rfl) rfl rfl hl.1 rfl (lv_room (Nat.le_of_ble_eq_true rfl)) dX9_fault_380 ⟨Nat.le_of_ble_eq_true rfl, Nat.le_of_ble_eq_true rfl⟩) hS (fun r_172 h_170 H locs p_171 hR hS => ?_)
                                                                  obtain ⟨e_173, e_174⟩ := p_171
                                                                  rw [e_174] at hR
                                                                  rw [s7_svn hpa (show 7 * a9 + 6 < 8 * (gv - 2) by omega)] at e_173
                                                                  refine ah_toi e_173 ?_
                                                                  have hs_175 := svn_lt pa gv a9
                                                                  refine lv_istore (lv' := [(9, .int (nI (svn pa gv a9))), (8, .int (nI a9)), (0, .ref y), (2, .int (nI 0)), (4, .int (nI (pa 1)))]) hx hb dX9_fault_383 hl (by decide) rfl (fun ls hl => ?_)
                                                                  refine lv_iload_n hx hb dX9_fault_385 rfl (lv_at hl 3 rfl) ?_
                                                                  refine lv_if_ne (tgt := 455) hx hb dX9_fault_386 (by decide) (fun c_176 => ?_) (fun c_176 => ?_)
                                                                  · skip
                                                                    exact absurd c_176 (by decide)
                                                                  · skip
                                                                    refine lv_iload hx hb dX9_fault_389 (lv_at hl 0 rfl) ?_
                                                                    refine lv_bipush (v := nI 27) hx hb dX9_fault_391 (by decide) ?_
                                                                    refine lv_icmp_ne (tgt := 455) hx hb dX9_fault_393 (by decide) (fun c_177 => ?_) (fun c_177 => ?_)
                                                                    · skip
                                                                      have c_177 : ¬ ((svn pa gv a9) = 27) := fun z9 => c_177 ((nI_eq (by omega) (by omega)).mpr z9)
                                                                      rw [if_neg (show ¬ svn pa gv a9 = 27 from c_177)] at hst
                                                                      have hdc := drop_cons hst
                                                                      refine lv_iload_n hx hb dX9_fault_455 rfl (lv_at hl 3 rfl) ?_
                                                                      refine lv_if_ne (tgt := 467) hx hb dX9_fault_456 (by decide) (fun c_178 => ?_) (fun c_178 => ?_)
                                                                      · skip
                                                                        exact absurd c_178 (by decide)
                                                                      · skip
                                                                        refine lv_aload_n hx hb dX9_fault_459 rfl (lv_at hl 2 rfl) ?_
                                                                        refine lv_iload hx hb dX9_fault_460 (lv_at hl 0 rfl) ?_
                                                                        refine ah_calli (va_runV (As := [.int (nI (svn pa gv a9))]) (rest := []) ⟨hx, hb, hml, hown, hts⟩ (c_m_alone l G h3 y A k0 n rf pm zh lc c pt gv c9 fy3 fa13 (svn pa gv a9) (by omega)) (cwV 1 hts gX9_fault_X9_alone rfl rfl rfl (by decide +kernel) ⟨Nat.le_of_ble_eq_true rfl, Nat.le_of_ble_eq_true rfl⟩) (ah_preV hE hR hS fy3 rfl) rfl rfl hl.1 rfl (lv_room (Nat.le_of_ble_eq_true rfl)) dX9_fault_462 ⟨Nat.le_of_ble_eq_true rfl, Nat.le_of_ble_eq_true rfl⟩) hS (fun r_181 h_179 H locs p_180 hR hS => ?_)
                                                                        obtain ⟨e_182, e_183⟩ := p_180
                                                                        rw [e_183] at hR
                                                                        refine ah_toi e_182 ?_
                                                                        refine lv_istore (lv' := [(9, .int (nI (plainV (svn pa gv a9)))), (8, .int (nI a9)), (0, .ref y), (2, .int (nI 0)), (4, .int (nI (pa 1)))]) hx hb dX9_fault_465 hl (by decide) rfl (fun ls hl => ?_)
                                                                        refine lv_aload_n hx hb dX9_fault_467 rfl (lv_at hl 2 rfl) ?_
                                                                        refine ah_get (ci := 8) (v := .ref (A 26)) (C := RX9) (T := TX9) (N := 27) hx hb hE hR hts hinX9 hown fy3 rfl 26 (by decide) k61 (fun _ h9 => h9) rfl dX9_fault_468 ?_
                                                                        refine lv_aload_n hx hb dX9_fault_471 rfl (lv_at hl 2 rfl) ?_
                                                                        refine ah_get (ci := 8) (v := .int (nI c9)) (C := RX9) (T := TX9) (N := 27) hx hb hE hR hts hinX9 hown fy3 rfl 25 (by decide) k129 (fun _ h9 => h9) rfl dX9_fault_472 ?_
                                                                        refine lv_iload hx hb dX9_fault_475 (lv_at hl 0 rfl) ?_
                                                                        have hcl9 := hdc.1
                                                                        refine ah_iast (i := c9) hx hb hE hR hS fa263 (by omega) (by omega) dX9_fault_477 (fun H locs hR hS => ?_)
                                                                        rw [nA_upd] at hR
                                                                        obtain ⟨h_184, e_185⟩ : ∃ zz9, zz9 = ah_up h3 (A 26) (46, .inl (G.2.2.1 0, 200, .inl (nA (gU u3 c9 (plainV (svn pa gv a9)))))) := ⟨_, rfl⟩
                                                                        have hR : ah_R G h_184 H := by rw [e_185]; exact hR
                                                                        have f_186 : h_184 y = some (20, .inr (8, mF A k0 n rf pm zh lc c pt gv c9)) := by rw [e_185]; exact ah_keep fy3 fa263 (by omega)
                                                                        have f_187 : h_184 (A 1) = some (21, .inl (G.2.2.1 0, 128, .inl plT)) := by rw [e_185]; exact ah_keep fa13 fa263 (by omega)
                                                                        have f_188 : h_184 (A 2) = some (22, .inl (G.2.2.1 0, 128, .inl esT)) := by rw [e_185]; exact ah_keep fa23 fa263 (by omega)
                                                                        have f_189 : h_184 (A 24) = some (44, .inl (G.2.2.1 0, 200, .inl (nA pa))) := by rw [e_185]; exact ah_keep fa243 fa263 (by omega)
                                                                        have f_190 : h_184 (A 26) = some (46, .inl (G.2.2.1 0, 200, .inl (nA (gU u3 c9 (plainV (svn pa gv a9)))))) := by rw [e_185]; exact ah_up_s _ _ _
                                                                        refine lv_aload_n hx hb dX9_fault_478 rfl (lv_at hl 2 rfl) ?_
                                                                        refine lv_dup hx hb dX9_fault_479 rfl ?_
                                                                        refine ah_get (ci := 8) (v := .int (nI c9)) (C := RX9) (T := TX9) (N := 27) hx hb hE hR hts hinX9 hown f_186 rfl 25 (by decide) k129 (fun _ h9 => h9) rfl dX9_fault_480 ?_
                                                                        refine lv_iconst (v := nI 1) hx hb dX9_fault_483 (by decide) ?_
                                                                        refine lv_iadd hx hb dX9_fault_484 ?_
                                                                        refine ah_toi (v := nI (c9 + 1)) (nI_add _ _) ?_
                                                                        refine ah_put (ci := 8) (v := .int (nI (c9 + 1))) (ty := .int) (C := RX9) (T := TX9) (N := 27) hx hb hE hR hS hts hinX9 tyX9 tyX9_ok nmX9 hown f_186 rfl 25 (by decide) k129 (fun _ h9 => h9) rfl (by decide +kernel) rfl rfl (Nat.le_of_ble_eq_true rfl) dX9_fault_485 (fun H locs hR hS => ?_)
                                                                        obtain ⟨h_191, e_192⟩ : ∃ zz9, zz9 = ah_up h_184 y (20, .inr (8, mF A k0 n rf pm zh lc c pt gv (c9 + 1))) := ⟨_, rfl⟩
                                                                        have hR : ah_R G h_191 H := by rw [e_192]; exact hR
                                                                        have f_193 : h_191 y = some (20, .inr (8, mF A k0 n rf pm zh lc c pt gv (c9 + 1))) := by rw [e_192]; exact ah_up_s _ _ _
                                                                        have f_194 : h_191 (A 1) = some (21, .inl (G.2.2.1 0, 128, .inl plT)) := by rw [e_192]; exact ah_keep f_187 f_186 (by omega)
                                                                        have f_195 : h_191 (A 2) = some (22, .inl (G.2.2.1 0, 128, .inl esT)) := by rw [e_192]; exact ah_keep f_188 f_186 (by omega)
                                                                        have f_196 : h_191 (A 24) = some (44, .inl (G.2.2.1 0, 200, .inl (nA pa))) := by rw [e_192]; exact ah_keep f_189 f_186 (by omega)
                                                                        have f_197 : h_191 (A 26) = some (46, .inl (G.2.2.1 0, 200, .inl (nA (gU u3 c9 (plainV (svn pa gv a9)))))) := by rw [e_192]; exact ah_keep f_190 f_186 (by omega)
                                                                        have agq : agr (fun t => t ≠ 20 ∧ t ≠ 46) h3 h_191 := by rw [e_192]; refine agr.up ?_ f_186 (by omega); rw [e_185]; exact agr.rf.up fa263 (by omega)
                                                                        refine lv_iload hx hb dX9_fault_488 (lv_at hl 1 rfl) ?_
                                                                        refine lv_iload_n hx hb dX9_fault_490 rfl (lv_at hl 3 rfl) ?_
                                                                        refine lv_if_eq (tgt := 498) hx hb dX9_fault_491 (by decide) (fun c_198 => ?_) (fun c_198 => ?_)
                                                                        · skip
                                                                          refine lv_iconst (v := nI 1) hx hb dX9_fault_498 (by decide) ?_
                                                                          refine lv_iadd hx hb dX9_fault_499 ?_
                                                                          refine ah_toi (v := nI (a9 + 1)) (nI_add _ _) ?_
                                                                          refine lv_istore (lv' := [(8, .int (nI (a9 + 1))), (9, .int (nI (plainV (svn pa gv a9)))), (0, .ref y), (2, .int (nI 0)), (4, .int (nI (pa 1)))]) hx hb dX9_fault_500 hl (by decide) rfl (fun ls hl => ?_)
                                                                          refine lv_goto (tgt := 340) hx hb dX9_fault_502 (by decide) ?_
                                                                          exact ih340  (c9 + 1) (a9 + 1) (gU u3 c9 (plainV (svn pa gv a9))) h_191 _ _ ls (by omega) (by omega) (by have := hdc.1; omega) hdc.2.2 (gU_list hu hdc.2.1) (ag3.tr agq) f_193 f_194 f_195 f_196 f_197 hR hS (lv_sub hl [0, 2, 3, 4] rfl)
                                                                        · skip
                                                                          exact absurd (by decide) c_198
                                                                    · skip
                                                                      have c_177 : (svn pa gv a9) = 27 := (nI_eq (by omega) (by omega)).mp c_177
                                                                      rw [if_pos (show svn pa gv a9 = 27 from c_177)] at hst
                                                                      refine lv_iinc (v := nI (a9 + 1)) (lv' := [(8, .int (nI (a9 + 1))), (9, .int (nI (svn pa gv a9))), (0, .ref y), (2, .int (nI 0)), (4, .int (nI (pa 1)))]) hx hb dX9_fault_396 hl (k := 1) rfl (show nI a9 + Int32.ofInt 1 = nI (a9 + 1) from nI_add _ 1) (by decide) rfl (fun ls hl => ?_)
                                                                      refine lv_iload hx hb dX9_fault_399 (lv_at hl 0 rfl) ?_
                                                                      refine lv_iload hx hb dX9_fault_401 (lv_at hl 4 rfl) ?_
                                                                      refine lv_icmp_ne (tgt := 411) hx hb dX9_fault_403 (by decide) (fun c_199 => ?_) (fun c_199 => ?_)
                                                                      · skip
                                                                        have c_199 : ¬ ((a9 + 1) = (pa 1)) := fun z9 => c_199 ((nI_eq (by omega) (by omega)).mpr z9)
                                                                        rw [if_pos (show a9 + 1 < pa 1 by omega)] at hst
                                                                        have hdc := drop_cons hst
                                                                        refine lv_aload_n hx hb dX9_fault_411 rfl (lv_at hl 2 rfl) ?_
                                                                        refine ah_get (ci := 8) (v := .ref (A 2)) (C := RX9) (T := TX9) (N := 27) hx hb hE hR hts hinX9 hown fy3 rfl 2 (by decide) k13 (fun _ h9 => h9) rfl dX9_fault_412 ?_
                                                                        refine lv_aload_n hx hb dX9_fault_415 rfl (lv_at hl 2 rfl) ?_
                                                                        refine lv_iload hx hb dX9_fault_416 (lv_at hl 0 rfl) ?_
                                                                        refine ah_calli (va_runV (As := [.int (nI (a9 + 1))]) (rest := [.ref (A 2)]) ⟨hx, hb, hml, hown, hts⟩ (c_m_seven l G h3 y A k0 n rf pm zh lc c pt gv c9 fy3 pa fa243 hpa (a9 + 1) (by omega)) (cwV 1 hts gX9_fault_X9_seven rfl rfl rfl (by decide +kernel) ⟨Nat.le_of_ble_eq_true rfl, Nat.le_of_ble_eq_true rfl⟩) (ah_preV hE hR hS fy3 rfl) rfl rfl hl.1 rfl (lv_room (Nat.le_of_ble_eq_true rfl)) dX9_fault_418 ⟨Nat.le_of_ble_eq_true rfl, Nat.le_of_ble_eq_true rfl⟩) hS (fun r_202 h_200 H locs p_201 hR hS => ?_)
                                                                        obtain ⟨e_203, e_204⟩ := p_201
                                                                        rw [e_204] at hR
                                                                        rw [s7_svn hpa (show 7 * (a9 + 1) + 6 < 8 * (gv - 2) by omega)] at e_203
                                                                        refine ah_toi e_203 ?_
                                                                        have hs_205 := svn_lt pa gv (a9 + 1)
                                                                        refine ah_iald (i := (svn pa gv (a9 + 1))) hx hb hE hR fa23 (by omega) (by omega) dX9_fault_421 ?_
                                                                        refine lv_iconst (v := (-1)) hx hb dX9_fault_422 (by decide) ?_
                                                                        refine lv_icmp_eq (tgt := 440) hx hb dX9_fault_423 (by decide) (fun c_206 => ?_) (fun c_206 => ?_)
                                                                        · skip
                                                                          refine lv_aload_n hx hb dX9_fault_440 rfl (lv_at hl 2 rfl) ?_
                                                                          refine lv_aload_n hx hb dX9_fault_441 rfl (lv_at hl 2 rfl) ?_
                                                                          refine lv_iload hx hb dX9_fault_442 (lv_at hl 0 rfl) ?_
                                                                          refine ah_calli (va_runV (As := [.int (nI (a9 + 1))]) (rest := [.ref y]) ⟨hx, hb, hml, hown, hts⟩ (c_m_seven l G h3 y A k0 n rf pm zh lc c pt gv c9 fy3 pa fa243 hpa (a9 + 1) (by omega)) (cwV 1 hts gX9_fault_X9_seven rfl rfl rfl (by decide +kernel) ⟨Nat.le_of_ble_eq_true rfl, Nat.le_of_ble_eq_true rfl⟩) (ah_preV hE hR hS fy3 rfl) rfl rfl hl.1 rfl (lv_room (Nat.le_of_ble_eq_true rfl)) dX9_fault_444 ⟨Nat.le_of_ble_eq_true rfl, Nat.le_of_ble_eq_true rfl⟩) hS (fun r_209 h_207 H locs p_208 hR hS => ?_)
                                                                          obtain ⟨e_210, e_211⟩ := p_208
                                                                          rw [e_211] at hR
                                                                          rw [s7_svn hpa (show 7 * (a9 + 1) + 6 < 8 * (gv - 2) by omega)] at e_210
                                                                          refine ah_toi e_210 ?_
                                                                          have hs_212 := svn_lt pa gv (a9 + 1)
                                                                          refine ah_calli (va_runV (As := [.int (nI (svn pa gv (a9 + 1)))]) (rest := []) ⟨hx, hb, hml, hown, hts⟩ (c_m_alone l G h3 y A k0 n rf pm zh lc c pt gv c9 fy3 fa13 (svn pa gv (a9 + 1)) (by omega)) (cwV 1 hts gX9_fault_X9_alone rfl rfl rfl (by decide +kernel) ⟨Nat.le_of_ble_eq_true rfl, Nat.le_of_ble_eq_true rfl⟩) (ah_preV hE hR hS fy3 rfl) rfl rfl hl.1 rfl (lv_room (Nat.le_of_ble_eq_true rfl)) dX9_fault_447 ⟨Nat.le_of_ble_eq_true rfl, Nat.le_of_ble_eq_true rfl⟩) hS (fun r_215 h_213 H locs p_214 hR hS => ?_)
                                                                          obtain ⟨e_216, e_217⟩ := p_214
                                                                          rw [e_217] at hR
                                                                          refine ah_toi e_216 ?_
                                                                          refine ah_toi (v := nI (escV (svn pa gv (a9 + 1)))) (by rw [← (escU_ok _).1, ← (plainU_ok _).1]; exact (if_pos c_206).symm) ?_
                                                                          refine lv_istore (lv' := [(9, .int (nI (escV (svn pa gv (a9 + 1))))), (8, .int (nI (a9 + 1))), (0, .ref y), (2, .int (nI 0)), (4, .int (nI (pa 1)))]) hx hb dX9_fault_450 hl (by decide) rfl (fun ls hl => ?_)
                                                                          refine lv_goto (tgt := 467) hx hb dX9_fault_452 (by decide) ?_
                                                                          refine lv_aload_n hx hb dX9_fault_467 rfl (lv_at hl 2 rfl) ?_
                                                                          refine ah_get (ci := 8) (v := .ref (A 26)) (C := RX9) (T := TX9) (N := 27) hx hb hE hR hts hinX9 hown fy3 rfl 26 (by decide) k61 (fun _ h9 => h9) rfl dX9_fault_468 ?_
                                                                          refine lv_aload_n hx hb dX9_fault_471 rfl (lv_at hl 2 rfl) ?_
                                                                          refine ah_get (ci := 8) (v := .int (nI c9)) (C := RX9) (T := TX9) (N := 27) hx hb hE hR hts hinX9 hown fy3 rfl 25 (by decide) k129 (fun _ h9 => h9) rfl dX9_fault_472 ?_
                                                                          refine lv_iload hx hb dX9_fault_475 (lv_at hl 0 rfl) ?_
                                                                          have hcl9 := hdc.1
                                                                          refine ah_iast (i := c9) hx hb hE hR hS fa263 (by omega) (by omega) dX9_fault_477 (fun H locs hR hS => ?_)
                                                                          rw [nA_upd] at hR
                                                                          obtain ⟨h_218, e_219⟩ : ∃ zz9, zz9 = ah_up h3 (A 26) (46, .inl (G.2.2.1 0, 200, .inl (nA (gU u3 c9 (escV (svn pa gv (a9 + 1))))))) := ⟨_, rfl⟩
                                                                          have hR : ah_R G h_218 H := by rw [e_219]; exact hR
                                                                          have f_220 : h_218 y = some (20, .inr (8, mF A k0 n rf pm zh lc c pt gv c9)) := by rw [e_219]; exact ah_keep fy3 fa263 (by omega)
                                                                          have f_221 : h_218 (A 1) = some (21, .inl (G.2.2.1 0, 128, .inl plT)) := by rw [e_219]; exact ah_keep fa13 fa263 (by omega)
                                                                          have f_222 : h_218 (A 2) = some (22, .inl (G.2.2.1 0, 128, .inl esT)) := by rw [e_219]; exact ah_keep fa23 fa263 (by omega)
                                                                          have f_223 : h_218 (A 24) = some (44, .inl (G.2.2.1 0, 200, .inl (nA pa))) := by rw [e_219]; exact ah_keep fa243 fa263 (by omega)
                                                                          have f_224 : h_218 (A 26) = some (46, .inl (G.2.2.1 0, 200, .inl (nA (gU u3 c9 (escV (svn pa gv (a9 + 1))))))) := by rw [e_219]; exact ah_up_s _ _ _
                                                                          refine lv_aload_n hx hb dX9_fault_478 rfl (lv_at hl 2 rfl) ?_
                                                                          refine lv_dup hx hb dX9_fault_479 rfl ?_
                                                                          refine ah_get (ci := 8) (v := .int (nI c9)) (C := RX9) (T := TX9) (N := 27) hx hb hE hR hts hinX9 hown f_220 rfl 25 (by decide) k129 (fun _ h9 => h9) rfl dX9_fault_480 ?_
                                                                          refine lv_iconst (v := nI 1) hx hb dX9_fault_483 (by decide) ?_
                                                                          refine lv_iadd hx hb dX9_fault_484 ?_
                                                                          refine ah_toi (v := nI (c9 + 1)) (nI_add _ _) ?_
                                                                          refine ah_put (ci := 8) (v := .int (nI (c9 + 1))) (ty := .int) (C := RX9) (T := TX9) (N := 27) hx hb hE hR hS hts hinX9 tyX9 tyX9_ok nmX9 hown f_220 rfl 25 (by decide) k129 (fun _ h9 => h9) rfl (by decide +kernel) rfl rfl (Nat.le_of_ble_eq_true rfl) dX9_fault_485 (fun H locs hR hS => ?_)
                                                                          obtain ⟨h_225, e_226⟩ : ∃ zz9, zz9 = ah_up h_218 y (20, .inr (8, mF A k0 n rf pm zh lc c pt gv (c9 + 1))) := ⟨_, rfl⟩
                                                                          have hR : ah_R G h_225 H := by rw [e_226]; exact hR
                                                                          have f_227 : h_225 y = some (20, .inr (8, mF A k0 n rf pm zh lc c pt gv (c9 + 1))) := by rw [e_226]; exact ah_up_s _ _ _
                                                                          have f_228 : h_225 (A 1) = some (21, .inl (G.2.2.1 0, 128, .inl plT)) := by rw [e_226]; exact ah_keep f_221 f_220 (by omega)
                                                                          have f_229 : h_225 (A 2) = some (22, .inl (G.2.2.1 0, 128, .inl esT)) := by rw [e_226]; exact ah_keep f_222 f_220 (by omega)
                                                                          have f_230 : h_225 (A 24) = some (44, .inl (G.2.2.1 0, 200, .inl (nA pa))) := by rw [e_226]; exact ah_keep f_223 f_220 (by omega)
                                                                          have f_231 : h_225 (A 26) = some (46, .inl (G.2.2.1 0, 200, .inl (nA (gU u3 c9 (escV (svn pa gv (a9 + 1))))))) := by rw [e_226]; exact ah_keep f_224 f_220 (by omega)
                                                                          have agq : agr (fun t => t ≠ 20 ∧ t ≠ 46) h3 h_225 := by rw [e_226]; refine agr.up ?_ f_220 (by omega); rw [e_219]; exact agr.rf.up fa263 (by omega)
                                                                          refine lv_iload hx hb dX9_fault_488 (lv_at hl 1 rfl) ?_
                                                                          refine lv_iload_n hx hb dX9_fault_490 rfl (lv_at hl 3 rfl) ?_
                                                                          refine lv_if_eq (tgt := 498) hx hb dX9_fault_491 (by decide) (fun c_232 => ?_) (fun c_232 => ?_)
                                                                          · skip
                                                                            refine lv_iconst (v := nI 1) hx hb dX9_fault_498 (by decide) ?_
                                                                            refine lv_iadd hx hb dX9_fault_499 ?_
                                                                            refine ah_toi (v := nI ((a9 + 1) + 1)) (nI_add _ _) ?_
                                                                            refine lv_istore (lv' := [(8, .int (nI ((a9 + 1) + 1))), (9, .int (nI (escV (svn pa gv (a9 + 1))))), (0, .ref y), (2, .int (nI 0)), (4, .int (nI (pa 1)))]) hx hb dX9_fault_500 hl (by decide) rfl (fun ls hl => ?_)
                                                                            refine lv_goto (tgt := 340) hx hb dX9_fault_502 (by decide) ?_
                                                                            exact ih340  (c9 + 1) ((a9 + 1) + 1) (gU u3 c9 (escV (svn pa gv (a9 + 1)))) h_225 _ _ ls (by omega) (by omega) (by have := hdc.1; omega) hdc.2.2 (gU_list hu hdc.2.1) (ag3.tr agq) f_227 f_228 f_229 f_230 f_231 hR hS (lv_sub hl [0, 2, 3, 4] rfl)
                                                                          · skip
                                                                            exact absurd (by decide) c_232
                                                                        · skip
                                                                          refine lv_aload_n hx hb dX9_fault_426 rfl (lv_at hl 2 rfl) ?_
                                                                          refine ah_get (ci := 8) (v := .ref (A 2)) (C := RX9) (T := TX9) (N := 27) hx hb hE hR hts hinX9 hown fy3 rfl 2 (by decide) k13 (fun _ h9 => h9) rfl dX9_fault_427 ?_
                                                                          refine lv_aload_n hx hb dX9_fault_430 rfl (lv_at hl 2 rfl) ?_
                                                                          refine lv_iload hx hb dX9_fault_431 (lv_at hl 0 rfl) ?_
                                                                          refine ah_calli (va_runV (As := [.int (nI (a9 + 1))]) (rest := [.ref (A 2)]) ⟨hx, hb, hml, hown, hts⟩ (c_m_seven l G h3 y A k0 n rf pm zh lc c pt gv c9 fy3 pa fa243 hpa (a9 + 1) (by omega)) (cwV 1 hts gX9_fault_X9_seven rfl rfl rfl (by decide +kernel) ⟨Nat.le_of_ble_eq_true rfl, Nat.le_of_ble_eq_true rfl⟩) (ah_preV hE hR hS fy3 rfl) rfl rfl hl.1 rfl (lv_room (Nat.le_of_ble_eq_true rfl)) dX9_fault_433 ⟨Nat.le_of_ble_eq_true rfl, Nat.le_of_ble_eq_true rfl⟩) hS (fun r_235 h_233 H locs p_234 hR hS => ?_)
                                                                          obtain ⟨e_236, e_237⟩ := p_234
                                                                          rw [e_237] at hR
                                                                          rw [s7_svn hpa (show 7 * (a9 + 1) + 6 < 8 * (gv - 2) by omega)] at e_236
                                                                          refine ah_toi e_236 ?_
                                                                          have hs_238 := svn_lt pa gv (a9 + 1)
                                                                          refine ah_iald (i := (svn pa gv (a9 + 1))) hx hb hE hR fa23 (by omega) (by omega) dX9_fault_436 ?_
                                                                          refine lv_goto (tgt := 450) hx hb dX9_fault_437 (by decide) ?_
                                                                          refine ah_toi (v := nI (escV (svn pa gv (a9 + 1)))) (by rw [← (escU_ok _).1]; exact (if_neg c_206).symm) ?_
                                                                          refine lv_istore (lv' := [(9, .int (nI (escV (svn pa gv (a9 + 1))))), (8, .int (nI (a9 + 1))), (0, .ref y), (2, .int (nI 0)), (4, .int (nI (pa 1)))]) hx hb dX9_fault_450 hl (by decide) rfl (fun ls hl => ?_)
                                                                          refine lv_goto (tgt := 467) hx hb dX9_fault_452 (by decide) ?_
                                                                          refine lv_aload_n hx hb dX9_fault_467 rfl (lv_at hl 2 rfl) ?_
                                                                          refine ah_get (ci := 8) (v := .ref (A 26)) (C := RX9) (T := TX9) (N := 27) hx hb hE hR hts hinX9 hown fy3 rfl 26 (by decide) k61 (fun _ h9 => h9) rfl dX9_fault_468 ?_
                                                                          refine lv_aload_n hx hb dX9_fault_471 rfl (lv_at hl 2 rfl) ?_
                                                                          refine ah_get (ci := 8) (v := .int (nI c9)) (C := RX9) (T := TX9) (N := 27) hx hb hE hR hts hinX9 hown fy3 rfl 25 (by decide) k129 (fun _ h9 => h9) rfl dX9_fault_472 ?_
                                                                          refine lv_iload hx hb dX9_fault_475 (lv_at hl 0 rfl) ?_
                                                                          have hcl9 := hdc.1
                                                                          refine ah_iast (i := c9) hx hb hE hR hS fa263 (by omega) (by omega) dX9_fault_477 (fun H locs hR hS => ?_)
                                                                          rw [nA_upd] at hR
                                                                          obtain ⟨h_239, e_240⟩ : ∃ zz9, zz9 = ah_up h3 (A 26) (46, .inl (G.2.2.1 0, 200, .inl (nA (gU u3 c9 (escV (svn pa gv (a9 + 1))))))) := ⟨_, rfl⟩
                                                                          have hR : ah_R G h_239 H := by rw [e_240]; exact hR
                                                                          have f_241 : h_239 y = some (20, .inr (8, mF A k0 n rf pm zh lc c pt gv c9)) := by rw [e_240]; exact ah_keep fy3 fa263 (by omega)
                                                                          have f_242 : h_239 (A 1) = some (21, .inl (G.2.2.1 0, 128, .inl plT)) := by rw [e_240]; exact ah_keep fa13 fa263 (by omega)
                                                                          have f_243 : h_239 (A 2) = some (22, .inl (G.2.2.1 0, 128, .inl esT)) := by rw [e_240]; exact ah_keep fa23 fa263 (by omega)
                                                                          have f_244 : h_239 (A 24) = some (44, .inl (G.2.2.1 0, 200, .inl (nA pa))) := by rw [e_240]; exact ah_keep fa243 fa263 (by omega)
                                                                          have f_245 : h_239 (A 26) = some (46, .inl (G.2.2.1 0, 200, .inl (nA (gU u3 c9 (escV (svn pa gv (a9 + 1))))))) := by rw [e_240]; exact ah_up_s _ _ _
                                                                          refine lv_aload_n hx hb dX9_fault_478 rfl (lv_at hl 2 rfl) ?_
                                                                          refine lv_dup hx hb dX9_fault_479 rfl ?_
                                                                          refine ah_get (ci := 8) (v := .int (nI c9)) (C := RX9) (T := TX9) (N := 27) hx hb hE hR hts hinX9 hown f_241 rfl 25 (by decide) k129 (fun _ h9 => h9) rfl dX9_fault_480 ?_
                                                                          refine lv_iconst (v := nI 1) hx hb dX9_fault_483 (by decide) ?_
                                                                          refine lv_iadd hx hb dX9_fault_484 ?_
                                                                          refine ah_toi (v := nI (c9 + 1)) (nI_add _ _) ?_
                                                                          refine ah_put (ci := 8) (v := .int (nI (c9 + 1))) (ty := .int) (C := RX9) (T := TX9) (N := 27) hx hb hE hR hS hts hinX9 tyX9 tyX9_ok nmX9 hown f_241 rfl 25 (by decide) k129 (fun _ h9 => h9) rfl (by decide +kernel) rfl rfl (Nat.le_of_ble_eq_true rfl) dX9_fault_485 (fun H locs hR hS => ?_)
                                                                          obtain ⟨h_246, e_247⟩ : ∃ zz9, zz9 = ah_up h_239 y (20, .inr (8, mF A k0 n rf pm zh lc c pt gv (c9 + 1))) := ⟨_, rfl⟩
                                                                          have hR : ah_R G h_246 H := by rw [e_247]; exact hR
                                                                          have f_248 : h_246 y = some (20, .inr (8, mF A k0 n rf pm zh lc c pt gv (c9 + 1))) := by rw [e_247]; exact ah_up_s _ _ _
                                                                          have f_249 : h_246 (A 1) = some (21, .inl (G.2.2.1 0, 128, .inl plT)) := by rw [e_247]; exact ah_keep f_242 f_241 (by omega)
                                                                          have f_250 : h_246 (A 2) = some (22, .inl (G.2.2.1 0, 128, .inl esT)) := by rw [e_247]; exact ah_keep f_243 f_241 (by omega)
                                                                          have f_251 : h_246 (A 24) = some (44, .inl (G.2.2.1 0, 200, .inl (nA pa))) := by rw [e_247]; exact ah_keep f_244 f_241 (by omega)
                                                                          have f_252 : h_246 (A 26) = some (46, .inl (G.2.2.1 0, 200, .inl (nA (gU u3 c9 (escV (svn pa gv (a9 + 1))))))) := by rw [e_247]; exact ah_keep f_245 f_241 (by omega)
                                                                          have agq : agr (fun t => t ≠ 20 ∧ t ≠ 46) h3 h_246 := by rw [e_247]; refine agr.up ?_ f_241 (by omega); rw [e_240]; exact agr.rf.up fa263 (by omega)
                                                                          refine lv_iload hx hb dX9_fault_488 (lv_at hl 1 rfl) ?_
                                                                          refine lv_iload_n hx hb dX9_fault_490 rfl (lv_at hl 3 rfl) ?_
                                                                          refine lv_if_eq (tgt := 498) hx hb dX9_fault_491 (by decide) (fun c_253 => ?_) (fun c_253 => ?_)
                                                                          · skip
                                                                            refine lv_iconst (v := nI 1) hx hb dX9_fault_498 (by decide) ?_
                                                                            refine lv_iadd hx hb dX9_fault_499 ?_
                                                                            refine ah_toi (v := nI ((a9 + 1) + 1)) (nI_add _ _) ?_
                                                                            refine lv_istore (lv' := [(8, .int (nI ((a9 + 1) + 1))), (9, .int (nI (escV (svn pa gv (a9 + 1))))), (0, .ref y), (2, .int (nI 0)), (4, .int (nI (pa 1)))]) hx hb dX9_fault_500 hl (by decide) rfl (fun ls hl => ?_)
                                                                            refine lv_goto (tgt := 340) hx hb dX9_fault_502 (by decide) ?_
                                                                            exact ih340  (c9 + 1) ((a9 + 1) + 1) (gU u3 c9 (escV (svn pa gv (a9 + 1)))) h_246 _ _ ls (by omega) (by omega) (by have := hdc.1; omega) hdc.2.2 (gU_list hu hdc.2.1) (ag3.tr agq) f_248 f_249 f_250 f_251 f_252 hR hS (lv_sub hl [0, 2, 3, 4] rfl)
                                                                          · skip
                                                                            exact absurd (by decide) c_253
                                                                      · skip
                                                                        have c_199 : (a9 + 1) = (pa 1) := (nI_eq (by omega) (by omega)).mp c_199
                                                                        rw [if_neg (show ¬ a9 + 1 < pa 1 by omega)] at hst
                                                                        have hdc := drop_cons hst
                                                                        refine lv_bipush (v := nI 32) hx hb dX9_fault_406 (by decide) ?_
                                                                        refine lv_goto (tgt := 450) hx hb dX9_fault_408 (by decide) ?_
                                                                        refine lv_istore (lv' := [(9, .int (nI 32)), (8, .int (nI (a9 + 1))), (0, .ref y), (2, .int (nI 0)), (4, .int (nI (pa 1)))]) hx hb dX9_fault_450 hl (by decide) rfl (fun ls hl => ?_)
                                                                        refine lv_goto (tgt := 467) hx hb dX9_fault_452 (by decide) ?_
                                                                        refine lv_aload_n hx hb dX9_fault_467 rfl (lv_at hl 2 rfl) ?_
                                                                        refine ah_get (ci := 8) (v := .ref (A 26)) (C := RX9) (T := TX9) (N := 27) hx hb hE hR hts hinX9 hown fy3 rfl 26 (by decide) k61 (fun _ h9 => h9) rfl dX9_fault_468 ?_
                                                                        refine lv_aload_n hx hb dX9_fault_471 rfl (lv_at hl 2 rfl) ?_
                                                                        refine ah_get (ci := 8) (v := .int (nI c9)) (C := RX9) (T := TX9) (N := 27) hx hb hE hR hts hinX9 hown fy3 rfl 25 (by decide) k129 (fun _ h9 => h9) rfl dX9_fault_472 ?_
                                                                        refine lv_iload hx hb dX9_fault_475 (lv_at hl 0 rfl) ?_
                                                                        have hcl9 := hdc.1
                                                                        refine ah_iast (i := c9) hx hb hE hR hS fa263 (by omega) (by omega) dX9_fault_477 (fun H locs hR hS => ?_)
                                                                        rw [nA_upd] at hR
                                                                        obtain ⟨h_254, e_255⟩ : ∃ zz9, zz9 = ah_up h3 (A 26) (46, .inl (G.2.2.1 0, 200, .inl (nA (gU u3 c9 32)))) := ⟨_, rfl⟩
                                                                        have hR : ah_R G h_254 H := by rw [e_255]; exact hR
                                                                        have f_256 : h_254 y = some (20, .inr (8, mF A k0 n rf pm zh lc c pt gv c9)) := by rw [e_255]; exact ah_keep fy3 fa263 (by omega)
                                                                        have f_257 : h_254 (A 1) = some (21, .inl (G.2.2.1 0, 128, .inl plT)) := by rw [e_255]; exact ah_keep fa13 fa263 (by omega)
                                                                        have f_258 : h_254 (A 2) = some (22, .inl (G.2.2.1 0, 128, .inl esT)) := by rw [e_255]; exact ah_keep fa23 fa263 (by omega)
                                                                        have f_259 : h_254 (A 24) = some (44, .inl (G.2.2.1 0, 200, .inl (nA pa))) := by rw [e_255]; exact ah_keep fa243 fa263 (by omega)
                                                                        have f_260 : h_254 (A 26) = some (46, .inl (G.2.2.1 0, 200, .inl (nA (gU u3 c9 32)))) := by rw [e_255]; exact ah_up_s _ _ _
                                                                        refine lv_aload_n hx hb dX9_fault_478 rfl (lv_at hl 2 rfl) ?_
                                                                        refine lv_dup hx hb dX9_fault_479 rfl ?_
                                                                        refine ah_get (ci := 8) (v := .int (nI c9)) (C := RX9) (T := TX9) (N := 27) hx hb hE hR hts hinX9 hown f_256 rfl 25 (by decide) k129 (fun _ h9 => h9) rfl dX9_fault_480 ?_
                                                                        refine lv_iconst (v := nI 1) hx hb dX9_fault_483 (by decide) ?_
                                                                        refine lv_iadd hx hb dX9_fault_484 ?_
                                                                        refine ah_toi (v := nI (c9 + 1)) (nI_add _ _) ?_
                                                                        refine ah_put (ci := 8) (v := .int (nI (c9 + 1))) (ty := .int) (C := RX9) (T := TX9) (N := 27) hx hb hE hR hS hts hinX9 tyX9 tyX9_ok nmX9 hown f_256 rfl 25 (by decide) k129 (fun _ h9 => h9) rfl (by decide +kernel) rfl rfl (Nat.le_of_ble_eq_true rfl) dX9_fault_485 (fun H locs hR hS => ?_)
                                                                        obtain ⟨h_261, e_262⟩ : ∃ zz9, zz9 = ah_up h_254 y (20, .inr (8, mF A k0 n rf pm zh lc c pt gv (c9 + 1))) := ⟨_, rfl⟩
                                                                        have hR : ah_R G h_261 H := by rw [e_262]; exact hR
                                                                        have f_263 : h_261 y = some (20, .inr (8, mF A k0 n rf pm zh lc c pt gv (c9 + 1))) := by rw [e_262]; exact ah_up_s _ _ _
                                                                        have f_264 : h_261 (A 1) = some (21, .inl (G.2.2.1 0, 128, .inl plT)) := by rw [e_262]; exact ah_keep f_257 f_256 (by omega)
                                                                        have f_265 : h_261 (A 2) = some (22, .inl (G.2.2.1 0, 128, .inl esT)) := by rw [e_262]; exact ah_keep f_258 f_256 (by omega)
                                                                        have f_266 : h_261 (A 24) = some (44, .inl (G.2.2.1 0, 200, .inl (nA pa))) := by rw [e_262]; exact ah_keep f_259 f_256 (by omega)
                                                                        have f_267 : h_261 (A 26) = some (46, .inl (G.2.2.1 0, 200, .inl (nA (gU u3 c9 32)))) := by rw [e_262]; exact ah_keep f_260 f_256 (by omega)
                                                                        have agq : agr (fun t => t ≠ 20 ∧ t ≠ 46) h3 h_261 := by rw [e_262]; refine agr.up ?_ f_256 (by omega); rw [e_255]; exact agr.rf.up fa263 (by omega)
                                                                        refine lv_iload hx hb dX9_fault_488 (lv_at hl 1 rfl) ?_
                                                                        refine lv_iload_n hx hb dX9_fault_490 rfl (lv_at hl 3 rfl) ?_
                                                                        refine lv_if_eq (tgt := 498) hx hb dX9_fault_491 (by decide) (fun c_268 => ?_) (fun c_268 => ?_)
                                                                        · skip
                                                                          refine lv_iconst (v := nI 1) hx hb dX9_fault_498 (by decide) ?_
                                                                          refine lv_iadd hx hb dX9_fault_499 ?_
                                                                          refine ah_toi (v := nI ((a9 + 1) + 1)) (nI_add _ _) ?_
                                                                          refine lv_istore (lv' := [(8, .int (nI ((a9 + 1) + 1))), (9, .int (nI 32)), (0, .ref y), (2, .int (nI 0)), (4, .int (nI (pa 1)))]) hx hb dX9_fault_500 hl (by decide) rfl (fun ls hl => ?_)
                                                                          refine lv_goto (tgt := 340) hx hb dX9_fault_502 (by decide) ?_
                                                                          exact ih340  (c9 + 1) ((a9 + 1) + 1) (gU u3 c9 32) h_261 _ _ ls (by omega) (by omega) (by have := hdc.1; omega) hdc.2.2 (gU_list hu hdc.2.1) (ag3.tr agq) f_263 f_264 f_265 f_266 f_267 hR hS (lv_sub hl [0, 2, 3, 4] rfl)
                                                                        · skip
                                                                          exact absurd (by decide) c_268
                                                                · skip
                                                                  exact absurd (by decide) c_169
                                                          exact L340 ((pa 1 - 7) + 1) 0 7 ua h_161 _ _ ls (by omega) (by omega) (by omega) (by rw [eL2]; rfl) (fun j hj => absurd hj (Nat.not_lt_zero j)) ag0 f_163 f_164 f_165 f_166 f_167 hR hS (lv_sub hl [0, 2, 4, 6] rfl)
                                                        · skip
                                                          have c_160 : ¬ (lf = 0) := fun z9 => c_160 ((zi_eq (by omega)).mpr z9)
                                                          refine lv_bipush (v := nI 6) hx hb dX9_fault_328 (by decide) ?_
                                                          refine ah_iret (v := nI 6) hx hb hr hlocks hR hS dX9_fault_330 ?_
                                                          have hf9 : fault pa gv = 6 := fl_6 hz2 hkk hn3 hn4 hn5 ⟨by rw [hk9], by rw [hk9]; show strayB pa gv 1 (pa 1) = true; rw [← ei, show lf = 1 by omega]; rfl⟩
                                                          exact ⟨by rw [hf9], fun _ => rfl, fun q9 => absurd q9 (by rw [hf9]; decide)⟩
                                                      · skip
                                                        have c_159 : ¬ ((8 * ((7 * pa 1 + 7) / 8)) ≤ b) := fun z9 => c_159 ((nI_leI (by omega) (by omega)).mpr z9)
                                                        refine lv_iload_n hx hb dX9_fault_291 rfl (lv_at hl 4 rfl) ?_
                                                        refine lv_if_ne (tgt := 323) hx hb dX9_fault_292 (by decide) (fun c_269 => ?_) (fun c_269 => ?_)
                                                        · skip
                                                          exact absurd c_269 (by decide)
                                                        · skip
                                                          refine lv_iload hx hb dX9_fault_295 (lv_at hl 1 rfl) ?_
                                                          refine lv_if_ne (tgt := 310) hx hb dX9_fault_297 (by decide) (fun c_270 => ?_) (fun c_270 => ?_)
                                                          · skip
                                                            have c_270 : ¬ (lf = 0) := fun z9 => c_270 ((zi_eq (by omega)).mpr z9)
                                                            refine lv_iconst (v := nI 1) hx hb dX9_fault_310 (by decide) ?_
                                                            refine lv_goto (tgt := 315) hx hb dX9_fault_311 (by decide) ?_
                                                            refine lv_istore (lv' := [(7, .int (nI 1)), (8, .int (nI b)), (0, .ref y), (1, .int (nI 1)), (2, .int (nI 0)), (3, .int (nI 1)), (4, .int (nI (pa 1))), (5, .int (nI ((7 * pa 1 + 7) / 8))), (6, .int (nI 7))]) hx hb dX9_fault_315 hl (by decide) rfl (fun ls hl => ?_)
                                                            refine lv_iinc (v := nI (b + 1)) (lv' := [(8, .int (nI (b + 1))), (7, .int (nI 1)), (0, .ref y), (1, .int (nI 1)), (2, .int (nI 0)), (3, .int (nI 1)), (4, .int (nI (pa 1))), (5, .int (nI ((7 * pa 1 + 7) / 8))), (6, .int (nI 7))]) hx hb dX9_fault_317 hl (k := 1) rfl (show nI b + Int32.ofInt 1 = nI (b + 1) from nI_add _ 1) (by decide) rfl (fun ls hl => ?_)
                                                            refine lv_goto (tgt := 281) hx hb dX9_fault_320 (by decide) ?_
                                                            exact ih281  (b + 1) 1 _ _ ls (by omega) (by omega) (by omega) (by omega) (by rw [← ei, show 8 * ((7 * pa 1 + 7) / 8) - b = 8 * ((7 * pa 1 + 7) / 8) - (b + 1) + 1 by omega]; show _ = (decide (lf = 1) || (bitS pa gv b || anyB pa gv (8 * ((7 * pa 1 + 7) / 8) - (b + 1)) (b + 1))); rw [show lf = 1 by omega]; simp) fy1 fa11 fa21 fa241 fa261 hR hS (lv_sub hl [0, 1, 2, 3, 4, 5, 6, 7, 8] rfl)
                                                          · skip
                                                            have c_270 : lf = 0 := (zi_eq (by omega)).mp c_270
                                                            have hl0 : lf = 0 := by omega
                                                            refine lv_aload_n hx hb dX9_fault_300 rfl (lv_at hl 2 rfl) ?_
                                                            refine lv_iload hx hb dX9_fault_301 (lv_at hl 0 rfl) ?_
                                                            refine ah_calli (va_runV (As := [.int (nI b)]) (rest := []) ⟨hx, hb, hml, hown, hts⟩ (c_m_bit l G h y A k0 n rf pm zh lc c pt gv un fy1 pa fa241 hpa b (by omega)) (cwV 1 hts gX9_fault_X9_bit rfl rfl rfl (by decide +kernel) ⟨Nat.le_of_ble_eq_true rfl, Nat.le_of_ble_eq_true rfl⟩) (ah_preV hE hR hS fy1 rfl) rfl rfl hl.1 rfl (lv_room (Nat.le_of_ble_eq_true rfl)) dX9_fault_303 ⟨Nat.le_of_ble_eq_true rfl, Nat.le_of_ble_eq_true rfl⟩) hS (fun r_273 h_271 H locs p_272 hR hS => ?_)
                                                            obtain ⟨e_274, e_275⟩ := p_272
                                                            rw [e_275] at hR
                                                            refine ah_toi e_274 ?_
                                                            have hb_276 := bt_le pa b
                                                            refine lv_iconst (v := nI 1) hx hb dX9_fault_306 (by decide) ?_
                                                            refine lv_icmp_ne (tgt := 314) hx hb dX9_fault_307 (by decide) (fun c_277 => ?_) (fun c_277 => ?_)
                                                            · skip
                                                              have c_277 : ¬ ((bt pa b) = 1) := fun z9 => c_277 ((nI_eq (by omega) (by omega)).mpr z9)
                                                              refine lv_iconst (v := nI 0) hx hb dX9_fault_314 (by decide) ?_
                                                              refine lv_istore (lv' := [(7, .int (nI 0)), (8, .int (nI b)), (0, .ref y), (1, .int (nI 1)), (2, .int (nI 0)), (3, .int (nI 1)), (4, .int (nI (pa 1))), (5, .int (nI ((7 * pa 1 + 7) / 8))), (6, .int (nI 7))]) hx hb dX9_fault_315 hl (by decide) rfl (fun ls hl => ?_)
                                                              refine lv_iinc (v := nI (b + 1)) (lv' := [(8, .int (nI (b + 1))), (7, .int (nI 0)), (0, .ref y), (1, .int (nI 1)), (2, .int (nI 0)), (3, .int (nI 1)), (4, .int (nI (pa 1))), (5, .int (nI ((7 * pa 1 + 7) / 8))), (6, .int (nI 7))]) hx hb dX9_fault_317 hl (k := 1) rfl (show nI b + Int32.ofInt 1 = nI (b + 1) from nI_add _ 1) (by decide) rfl (fun ls hl => ?_)
                                                              refine lv_goto (tgt := 281) hx hb dX9_fault_320 (by decide) ?_
                                                              exact ih281  (b + 1) 0 _ _ ls (by omega) (by omega) (by omega) (by omega) (by rw [← ei, show 8 * ((7 * pa 1 + 7) / 8) - b = 8 * ((7 * pa 1 + 7) / 8) - (b + 1) + 1 by omega]; show _ = (decide (lf = 1) || (bitS pa gv b || anyB pa gv (8 * ((7 * pa 1 + 7) / 8) - (b + 1)) (b + 1))); rw [bt_bz (show 2 + b / 8 < gv by omega), hl0, show bt pa b = 0 by omega]; simp) fy1 fa11 fa21 fa241 fa261 hR hS (lv_sub hl [0, 1, 2, 3, 4, 5, 6, 7, 8] rfl)
                                                            · skip
                                                              have c_277 : (bt pa b) = 1 := (nI_eq (by omega) (by omega)).mp c_277
                                                              refine lv_iconst (v := nI 1) hx hb dX9_fault_310 (by decide) ?_
                                                              refine lv_goto (tgt := 315) hx hb dX9_fault_311 (by decide) ?_
                                                              refine lv_istore (lv' := [(7, .int (nI 1)), (8, .int (nI b)), (0, .ref y), (1, .int (nI 1)), (2, .int (nI 0)), (3, .int (nI 1)), (4, .int (nI (pa 1))), (5, .int (nI ((7 * pa 1 + 7) / 8))), (6, .int (nI 7))]) hx hb dX9_fault_315 hl (by decide) rfl (fun ls hl => ?_)
                                                              refine lv_iinc (v := nI (b + 1)) (lv' := [(8, .int (nI (b + 1))), (7, .int (nI 1)), (0, .ref y), (1, .int (nI 1)), (2, .int (nI 0)), (3, .int (nI 1)), (4, .int (nI (pa 1))), (5, .int (nI ((7 * pa 1 + 7) / 8))), (6, .int (nI 7))]) hx hb dX9_fault_317 hl (k := 1) rfl (show nI b + Int32.ofInt 1 = nI (b + 1) from nI_add _ 1) (by decide) rfl (fun ls hl => ?_)
                                                              refine lv_goto (tgt := 281) hx hb dX9_fault_320 (by decide) ?_
                                                              exact ih281  (b + 1) 1 _ _ ls (by omega) (by omega) (by omega) (by omega) (by rw [← ei, show 8 * ((7 * pa 1 + 7) / 8) - b = 8 * ((7 * pa 1 + 7) / 8) - (b + 1) + 1 by omega]; show _ = (decide (lf = 1) || (bitS pa gv b || anyB pa gv (8 * ((7 * pa 1 + 7) / 8) - (b + 1)) (b + 1))); rw [bt_bz (show 2 + b / 8 < gv by omega), show bt pa b = 1 by omega]; simp) fy1 fa11 fa21 fa241 fa261 hR hS (lv_sub hl [0, 1, 2, 3, 4, 5, 6, 7, 8] rfl)
                                                  exact L281 ((8 * ((7 * pa 1 + 7) / 8) - (7 * pa 1)) + 1) (7 * pa 1) 0 _ _ ls (by omega) (by omega) (by omega) (by omega) (by unfold strayB; rw [hi0]; rfl) fy fa1 fa2 fa24 fa26 hR hS (lv_sub hl [0, 1, 8, 7, 6, 5, 4, 3, 2] rfl)
                                                · skip
                                                  have c_158 : (bt pa 48) = 1 := (nI_eq (by omega) (by omega)).mp c_158
                                                  refine lv_iconst (v := nI 1) hx hb dX9_fault_267 (by decide) ?_
                                                  refine lv_goto (tgt := 272) hx hb dX9_fault_268 (by decide) ?_
                                                  refine lv_istore (lv' := [(7, .int (nI 1)), (6, .int (nI 7)), (5, .int (nI (((7 * (pa 1)) + 7) / 8))), (4, .int (nI (pa 1))), (3, .int (nI 1)), (2, .int (nI 0)), (1, .int (nI 1)), (0, .ref y)]) hx hb dX9_fault_272 hl (by decide) rfl (fun ls hl => ?_)
                                                  refine lv_bipush (v := nI 7) hx hb dX9_fault_274 (by decide) ?_
                                                  refine lv_iload hx hb dX9_fault_276 (lv_at hl 3 rfl) ?_
                                                  refine lv_imul hx hb dX9_fault_278 ?_
                                                  refine ah_toi (v := nI (7 * (pa 1))) (pk_mul _ _) ?_
                                                  refine lv_istore (lv' := [(8, .int (nI (7 * (pa 1)))), (7, .int (nI 1)), (6, .int (nI 7)), (5, .int (nI (((7 * (pa 1)) + 7) / 8))), (4, .int (nI (pa 1))), (3, .int (nI 1)), (2, .int (nI 0)), (1, .int (nI 1)), (0, .ref y)]) hx hb dX9_fault_279 hl (by decide) rfl (fun ls hl => ?_)
                                                  have hi0 : decide (1 = 1) = (decide (1 ≠ 0) && bitS pa gv 48) := by rw [bt_bz (by omega), show bt pa 48 = 1 by omega]; rfl
                                                  have L281 : ∀ (N281 : Nat) (b : Nat) (lf : Nat) (H : Heap) (locs : List Loc) (ls : Array Slot), 8 * ((7 * pa 1 + 7) / 8) - b < N281 → (7 * pa 1 ≤ b) → (b ≤ 8 * ((7 * pa 1 + 7) / 8)) → (lf ≤ 1) → ((decide (lf = 1) || anyB pa gv (8 * ((7 * pa 1 + 7) / 8) - b) b) = strayB pa gv 1 (pa 1)) → (h y = some (20, .inr (8, mF A k0 n rf pm zh lc c pt gv un))) → (h (A 1) = some (21, .inl (G.2.2.1 0, 128, .inl plT))) → (h (A 2) = some (22, .inl (G.2.2.1 0, 128, .inl esT))) → (h (A 24) = some (44, .inl (G.2.2.1 0, 200, .inl (nA pa)))) → (h (A 26) = some (46, .inl (G.2.2.1 0, 200, .inl (nA ua)))) → ah_R G h H → va_S (ah_A G) s.heap H locs → lv_has ls 10 [(8, .int (nI b)), (7, .int (nI lf)), (0, .ref y), (1, .int (nI 1)), (2, .int (nI 0)), (3, .int (nI 1)), (4, .int (nI (pa 1))), (5, .int (nI ((7 * pa 1 + 7) / 8))), (6, .int (nI 7))] → W p l e ({ frames := 2, cells := 0, slots := 0, locals := 44 }) s m ([.ref y] : List Value).toArray below meth cd9 H locs 0 0 (MQ below (ah_Qi G (fun v h' => v = nI (fault pa gv) ∧ (fault pa gv ≠ 0 → h' = h) ∧ (fault pa gv = 0 → ∃ u2 : Nat → Nat, h' y = some (20, .inr (8, mF A k0 n rf pm zh lc c pt gv ((unitsL pa gv).length))) ∧ h' (A 26) = some (46, .inl (G.2.2.1 0, 200, .inl (nA u2))) ∧ agr (fun t => t ≠ 20 ∧ t ≠ 46) h h' ∧ ∀ j, j < (unitsL pa gv).length → u2 j = (unitsL pa gv).getD j 0))) ([.ref y] : List Value).toArray s 0 0 (ah_A G)) (F0 m 281 ls []) := by
                                                    intro N281
                                                    induction N281 with
                                                    | zero => intro b lf  H locs ls hN; exact absurd hN (Nat.not_lt_zero _)
                                                    | succ N281 ih281 =>
                                                      intro b lf  H locs ls hN281 hb1 hb2 hlf ei fy1 fa11 fa21 fa241 fa261 hR hS hl
                                                      refine lv_iload hx hb dX9_fault_281 (lv_at hl 0 rfl) ?_
                                                      refine lv_bipush (v := nI 8) hx hb dX9_fault_283 (by decide) ?_
                                                      refine lv_iload hx hb dX9_fault_285 (lv_at hl 7 rfl) ?_
                                                      refine lv_imul hx hb dX9_fault_287 ?_
                                                      refine ah_toi (v := nI (8 * ((7 * pa 1 + 7) / 8))) (pk_mul _ _) ?_
                                                      refine lv_icmp_ge (tgt := 323) hx hb dX9_fault_288 (by decide) (fun c_278 => ?_) (fun c_278 => ?_)
                                                      · skip
                                                        have c_278 : (8 * ((7 * pa 1 + 7) / 8)) ≤ b := (nI_leI (by omega) (by omega)).mp c_278
                                                        refine lv_iload hx hb dX9_fault_323 (lv_at hl 1 rfl) ?_
                                                        refine lv_if_eq (tgt := 331) hx hb dX9_fault_325 (by decide) (fun c_279 => ?_) (fun c_279 => ?_)
                                                        · skip
                                                          have c_279 : lf = 0 := (zi_eq (by omega)).mp c_279
                                                          have hf0 : fault pa gv = 0 := fl_0 hz2 hkk hn3 hn4 hn5 (fun q9 => by have z9 := q9.2; rw [hk9] at z9; have z8 : strayB pa gv 1 (pa 1) = true := z9; rw [← ei, show lf = 0 by omega, show 8 * ((7 * pa 1 + 7) / 8) - b = 0 by omega] at z8; exact Bool.noConfusion (show false = true from z8))
                                                          obtain ⟨L, eL⟩ : ∃ L9, L9 = unitsL pa gv := ⟨_, rfl⟩
                                                          have eL2 : L = dS (svn pa gv) (pa 1) (pa 1 - 7) 7 := by rw [eL]; unfold unitsL; rw [hk9]; rfl
                                                          have hLl : L.length ≤ 160 := by rw [eL]; exact unitsL_len (by omega)
                                                          refine lv_aload_n hx hb dX9_fault_331 rfl (lv_at hl 2 rfl) ?_
                                                          refine lv_iconst (v := nI 0) hx hb dX9_fault_332 (by decide) ?_
                                                          refine ah_put (ci := 8) (v := .int (nI 0)) (ty := .int) (C := RX9) (T := TX9) (N := 27) hx hb hE hR hS hts hinX9 tyX9 tyX9_ok nmX9 hown fy1 rfl 25 (by decide) k129 (fun _ h9 => h9) rfl (by decide +kernel) rfl rfl (Nat.le_of_ble_eq_true rfl) dX9_fault_333 (fun H locs hR hS => ?_)
                                                          obtain ⟨h_280, e_281⟩ : ∃ zz9, zz9 = ah_up h y (20, .inr (8, mF A k0 n rf pm zh lc c pt gv 0)) := ⟨_, rfl⟩
                                                          have hR : ah_R G h_280 H := by rw [e_281]; exact hR
                                                          have f_282 : h_280 y = some (20, .inr (8, mF A k0 n rf pm zh lc c pt gv 0)) := by rw [e_281]; exact ah_up_s _ _ _
                                                          have f_283 : h_280 (A 1) = some (21, .inl (G.2.2.1 0, 128, .inl plT)) := by rw [e_281]; exact ah_keep fa11 fy1 (by omega)
                                                          have f_284 : h_280 (A 2) = some (22, .inl (G.2.2.1 0, 128, .inl esT)) := by rw [e_281]; exact ah_keep fa21 fy1 (by omega)
                                                          have f_285 : h_280 (A 24) = some (44, .inl (G.2.2.1 0, 200, .inl (nA pa))) := by rw [e_281]; exact ah_keep fa241 fy1 (by omega)
                                                          have f_286 : h_280 (A 26) = some (46, .inl (G.2.2.1 0, 200, .inl (nA ua))) := by rw [e_281]; exact ah_keep fa261 fy1 (by omega)
                                                          refine lv_iload hx hb dX9_fault_336 (lv_at hl 8 rfl) ?_
                                                          refine lv_istore (lv' := [(8, .int (nI 7)), (7, .int (nI lf)), (0, .ref y), (1, .int (nI 1)), (2, .int (nI 0)), (3, .int (nI 1)), (4, .int (nI (pa 1))), (5, .int (nI ((7 * pa 1 + 7) / 8))), (6, .int (nI 7))]) hx hb dX9_fault_338 hl (by decide) rfl (fun ls hl => ?_)
                                                          have ag0 : agr (fun t => t ≠ 20 ∧ t ≠ 46) h h_280 := by rw [e_281]; exact agr.rf.up fy1 (by omega)
                                                          have L340 : ∀ (N340 : Nat) (c9 : Nat) (a9 : Nat) (u3 : Nat → Nat) (h3 : ah_H) (H : Heap) (locs : List Loc) (ls : Array Slot), pa 1 - a9 < N340 → (a9 ≤ pa 1 + 1) → (c9 ≤ L.length) → (L.drop c9 = dS (svn pa gv) (pa 1) (pa 1 - a9) a9) → (∀ j, j < c9 → u3 j = L.getD j 0) → (agr (fun t => t ≠ 20 ∧ t ≠ 46) h h3) → (h3 y = some (20, .inr (8, mF A k0 n rf pm zh lc c pt gv c9))) → (h3 (A 1) = some (21, .inl (G.2.2.1 0, 128, .inl plT))) → (h3 (A 2) = some (22, .inl (G.2.2.1 0, 128, .inl esT))) → (h3 (A 24) = some (44, .inl (G.2.2.1 0, 200, .inl (nA pa)))) → (h3 (A 26) = some (46, .inl (G.2.2.1 0, 200, .inl (nA u3)))) → ah_R G h3 H → va_S (ah_A G) s.heap H locs → lv_has ls 10 [(8, .int (nI a9)), (0, .ref y), (2, .int (nI 0)), (4, .int (nI (pa 1)))] → W p l e ({ frames := 2, cells := 0, slots := 0, locals := 44 }) s m ([.ref y] : List Value).toArray below meth cd9 H locs 0 0 (MQ below (ah_Qi G (fun v h' => v = nI (fault pa gv) ∧ (fault pa gv ≠ 0 → h' = h) ∧ (fault pa gv = 0 → ∃ u2 : Nat → Nat, h' y = some (20, .inr (8, mF A k0 n rf pm zh lc c pt gv ((unitsL pa gv).length))) ∧ h' (A 26) = some (46, .inl (G.2.2.1 0, 200, .inl (nA u2))) ∧ agr (fun t => t ≠ 20 ∧ t ≠ 46) h h' ∧ ∀ j, j < (unitsL pa gv).length → u2 j = (unitsL pa gv).getD j 0))) ([.ref y] : List Value).toArray s 0 0 (ah_A G)) (F0 m 340 ls []) := by
                                                            intro N340
                                                            induction N340 with
                                                            | zero => intro c9 a9 u3 h3 H locs ls hN; exact absurd hN (Nat.not_lt_zero _)
                                                            | succ N340 ih340 =>
                                                              intro c9 a9 u3 h3 H locs ls hN340 ha9 hcl hd9 hu ag3 fy3 fa13 fa23 fa243 fa263 hR hS hl
                                                              refine lv_iload hx hb dX9_fault_340 (lv_at hl 0 rfl) ?_
                                                              refine lv_iload hx hb dX9_fault_342 (lv_at hl 3 rfl) ?_
                                                              refine lv_icmp_ge (tgt := 505) hx hb dX9_fault_344 (by decide) (fun c_287 => ?_) (fun c_287 => ?_)
                                                              · skip
                                                                have c_287 : (pa 1) ≤ a9 := (nI_leI (by omega) (by omega)).mp c_287
                                                                have hend : c9 = L.length := drop_nil (by rw [hd9, dS_end (by omega)]) hcl
                                                                refine lv_iconst (v := nI 0) hx hb dX9_fault_505 (by decide) ?_
                                                                refine ah_iret (v := nI 0) hx hb hr hlocks hR hS dX9_fault_506 ?_
                                                                exact ⟨by rw [hf0], fun q9 => absurd hf0 q9, fun _ => ⟨u3, by rw [← eL, ← hend]; exact fy3, fa263, ag3, fun j hj => by rw [← eL] at hj ⊢; exact hu j (by omega)⟩⟩
                                                              · skip
                                                                have c_287 : ¬ ((pa 1) ≤ a9) := fun z9 => c_287 ((nI_leI (by omega) (by omega)).mpr z9)
                                                                have hst := hd9.trans (dS_step (by omega))
                                                                refine lv_iload_n hx hb dX9_fault_347 rfl (lv_at hl 2 rfl) ?_
                                                                refine lv_if_eq (tgt := 377) hx hb dX9_fault_348 (by decide) (fun c_288 => ?_) (fun c_288 => ?_)
                                                                · skip
                                                                  refine lv_aload_n hx hb dX9_fault_377 rfl (lv_at hl 1 rfl) ?_
                                                                  refine lv_iload hx hb dX9_fault_378 (lv_at hl 0 rfl) ?_
                                                                  refine ah_calli (va_runV (As := [.int (nI a9)]) (rest := []) ⟨hx, hb, hml, hown, hts⟩ (c_m_seven l G h3 y A k0 n rf pm zh lc c pt gv c9 fy3 pa fa243 hpa a9 (by omega)) (cwV 1 hts gX9_fault_X9_seven rfl rfl rfl (by decide +kernel) ⟨Nat.le_of_ble_eq_true rfl, Nat.le_of_ble_eq_true rfl⟩) (ah_preV hE hR hS fy3 rfl) rfl rfl hl.1 rfl (lv_room (Nat.le_of_ble_eq_true rfl)) dX9_fault_380 ⟨Nat.le_of_ble_eq_true rfl, Nat.le_of_ble_eq_true rfl⟩) hS (fun r_291 h_289 H locs p_290 hR hS => ?_)
                                                                  obtain ⟨e_292, e_293⟩ := p_290
                                                                  rw [e_293] at hR
                                                                  rw [s7_svn hpa (show 7 * a9 + 6 < 8 * (gv - 2) by omega)] at e_292
                                                                  refine ah_toi e_292 ?_
                                                                  have hs_294 := svn_lt pa gv a9
                                                                  refine lv_istore (lv' := [(9, .int (nI (svn pa gv a9))), (8, .int (nI a9)), (0, .ref y), (2, .int (nI 0)), (4, .int (nI (pa 1)))]) hx hb dX9_fault_383 hl (by decide) rfl (fun ls hl => ?_)
                                                                  refine lv_iload_n hx hb dX9_fault_385 rfl (lv_at hl 3 rfl) ?_
                                                                  refine lv_if_ne (tgt := 455) hx hb dX9_fault_386 (by decide) (fun c_295 => ?_) (fun c_295 => ?_)
                                                                  · skip
                                                                    exact absurd c_295 (by decide)
                                                                  · skip
                                                                    refine lv_iload hx hb dX9_fault_389 (lv_at hl 0 rfl) ?_
                                                                    refine lv_bipush (v := nI 27) hx hb dX9_fault_391 (by decide) ?_
                                                                    refine lv_icmp_ne (tgt := 455) hx hb dX9_fault_393 (by decide) (fun c_296 => ?_) (fun c_296 => ?_)
                                                                    · skip
                                                                      have c_296 : ¬ ((svn pa gv a9) = 27) := fun z9 => c_296 ((nI_eq (by omega) (by omega)).mpr z9)
                                                                      rw [if_neg (show ¬ svn pa gv a9 = 27 from c_296)] at hst
                                                                      have hdc := drop_cons hst
                                                                      refine lv_iload_n hx hb dX9_fault_455 rfl (lv_at hl 3 rfl) ?_
                                                                      refine lv_if_ne (tgt := 467) hx hb dX9_fault_456 (by decide) (fun c_297 => ?_) (fun c_297 => ?_)
                                                                      · skip
                                                                        exact absurd c_297 (by decide)
                                                                      · skip
                                                                        refine lv_aload_n hx hb dX9_fault_459 rfl (lv_at hl 2 rfl) ?_
                                                                        refine lv_iload hx hb dX9_fault_460 (lv_at hl 0 rfl) ?_
                                                                        refine ah_calli (va_runV (As := [.int (nI (svn pa gv a9))]) (rest := []) ⟨hx, hb, hml, hown, hts⟩ (c_m_alone l G h3 y A k0 n rf pm zh lc c pt gv c9 fy3 fa13 (svn pa gv a9) (by omega)) (cwV 1 hts gX9_fault_X9_alone rfl rfl rfl (by decide +kernel) ⟨Nat.le_of_ble_eq_true rfl, Nat.le_of_ble_eq_true rfl⟩) (ah_preV hE hR hS fy3 rfl) rfl rfl hl.1 rfl (lv_room (Nat.le_of_ble_eq_true rfl)) dX9_fault_462 ⟨Nat.le_of_ble_eq_true rfl, Nat.le_of_ble_eq_true rfl⟩) hS (fun r_300 h_298 H locs p_299 hR hS => ?_)
                                                                        obtain ⟨e_301, e_302⟩ := p_299
                                                                        rw [e_302] at hR
                                                                        refine ah_toi e_301 ?_
                                                                        refine lv_istore (lv' := [(9, .int (nI (plainV (svn pa gv a9)))), (8, .int (nI a9)), (0, .ref y), (2, .int (nI 0)), (4, .int (nI (pa 1)))]) hx hb dX9_fault_465 hl (by decide) rfl (fun ls hl => ?_)
                                                                        refine lv_aload_n hx hb dX9_fault_467 rfl (lv_at hl 2 rfl) ?_
                                                                        refine ah_get (ci := 8) (v := .ref (A 26)) (C := RX9) (T := TX9) (N := 27) hx hb hE hR hts hinX9 hown fy3 rfl 26 (by decide) k61 (fun _ h9 => h9) rfl dX9_fault_468 ?_
                                                                        refine lv_aload_n hx hb dX9_fault_471 rfl (lv_at hl 2 rfl) ?_
                                                                        refine ah_get (ci := 8) (v := .int (nI c9)) (C := RX9) (T := TX9) (N := 27) hx hb hE hR hts hinX9 hown fy3 rfl 25 (by decide) k129 (fun _ h9 => h9) rfl dX9_fault_472 ?_
                                                                        refine lv_iload hx hb dX9_fault_475 (lv_at hl 0 rfl) ?_
                                                                        have hcl9 := hdc.1
                                                                        refine ah_iast (i := c9) hx hb hE hR hS fa263 (by omega) (by omega) dX9_fault_477 (fun H locs hR hS => ?_)
                                                                        rw [nA_upd] at hR
                                                                        obtain ⟨h_303, e_304⟩ : ∃ zz9, zz9 = ah_up h3 (A 26) (46, .inl (G.2.2.1 0, 200, .inl (nA (gU u3 c9 (plainV (svn pa gv a9)))))) := ⟨_, rfl⟩
                                                                        have hR : ah_R G h_303 H := by rw [e_304]; exact hR
                                                                        have f_305 : h_303 y = some (20, .inr (8, mF A k0 n rf pm zh lc c pt gv c9)) := by rw [e_304]; exact ah_keep fy3 fa263 (by omega)
                                                                        have f_306 : h_303 (A 1) = some (21, .inl (G.2.2.1 0, 128, .inl plT)) := by rw [e_304]; exact ah_keep fa13 fa263 (by omega)
                                                                        have f_307 : h_303 (A 2) = some (22, .inl (G.2.2.1 0, 128, .inl esT)) := by rw [e_304]; exact ah_keep fa23 fa263 (by omega)
                                                                        have f_308 : h_303 (A 24) = some (44, .inl (G.2.2.1 0, 200, .inl (nA pa))) := by rw [e_304]; exact ah_keep fa243 fa263 (by omega)
                                                                        have f_309 : h_303 (A 26) = some (46, .inl (G.2.2.1 0, 200, .inl (nA (gU u3 c9 (plainV (svn pa gv a9)))))) := by rw [e_304]; exact ah_up_s _ _ _
                                                                        refine lv_aload_n hx hb dX9_fault_478 rfl (lv_at hl 2 rfl) ?_
                                                                        refine lv_dup hx hb dX9_fault_479 rfl ?_
                                                                        refine ah_get (ci := 8) (v := .int (nI c9)) (C := RX9) (T := TX9) (N := 27) hx hb hE hR hts hinX9 hown f_305 rfl 25 (by decide) k129 (fun _ h9 => h9) rfl dX9_fault_480 ?_
                                                                        refine lv_iconst (v := nI 1) hx hb dX9_fault_483 (by decide) ?_
                                                                        refine lv_iadd hx hb dX9_fault_484 ?_
                                                                        refine ah_toi (v := nI (c9 + 1)) (nI_add _ _) ?_
                                                                        refine ah_put (ci := 8) (v := .int (nI (c9 + 1))) (ty := .int) (C := RX9) (T := TX9) (N := 27) hx hb hE hR hS hts hinX9 tyX9 tyX9_ok nmX9 hown f_305 rfl 25 (by decide) k129 (fun _ h9 => h9) rfl (by decide +kernel) rfl rfl (Nat.le_of_ble_eq_true rfl) dX9_fault_485 (fun H locs hR hS => ?_)
                                                                        obtain ⟨h_310, e_311⟩ : ∃ zz9, zz9 = ah_up h_303 y (20, .inr (8, mF A k0 n rf pm zh lc c pt gv (c9 + 1))) := ⟨_, rfl⟩
                                                                        have hR : ah_R G h_310 H := by rw [e_311]; exact hR
                                                                        have f_312 : h_310 y = some (20, .inr (8, mF A k0 n rf pm zh lc c pt gv (c9 + 1))) := by rw [e_311]; exact ah_up_s _ _ _
                                                                        have f_313 : h_310 (A 1) = some (21, .inl (G.2.2.1 0, 128, .inl plT)) := by rw [e_311]; exact ah_keep f_306 f_305 (by omega)
                                                                        have f_314 : h_310 (A 2) = some (22, .inl (G.2.2.1 0, 128, .inl esT)) := by rw [e_311]; exact ah_keep f_307 f_305 (by omega)
                                                                        have f_315 : h_310 (A 24) = some (44, .inl (G.2.2.1 0, 200, .inl (nA pa))) := by rw [e_311]; exact ah_keep f_308 f_305 (by omega)
                                                                        have f_316 : h_310 (A 26) = some (46, .inl (G.2.2.1 0, 200, .inl (nA (gU u3 c9 (plainV (svn pa gv a9)))))) := by rw [e_311]; exact ah_keep f_309 f_305 (by omega)
                                                                        have agq : agr (fun t => t ≠ 20 ∧ t ≠ 46) h3 h_310 := by rw [e_311]; refine agr.up ?_ f_305 (by omega); rw [e_304]; exact agr.rf.up fa263 (by omega)
                                                                        refine lv_iload hx hb dX9_fault_488 (lv_at hl 1 rfl) ?_
                                                                        refine lv_iload_n hx hb dX9_fault_490 rfl (lv_at hl 3 rfl) ?_
                                                                        refine lv_if_eq (tgt := 498) hx hb dX9_fault_491 (by decide) (fun c_317 => ?_) (fun c_317 => ?_)
                                                                        · skip
                                                                          refine lv_iconst (v := nI 1) hx hb dX9_fault_498 (by decide) ?_
                                                                          refine lv_iadd hx hb dX9_fault_499 ?_
                                                                          refine ah_toi (v := nI (a9 + 1)) (nI_add _ _) ?_
                                                                          refine lv_istore (lv' := [(8, .int (nI (a9 + 1))), (9, .int (nI (plainV (svn pa gv a9)))), (0, .ref y), (2, .int (nI 0)), (4, .int (nI (pa 1)))]) hx hb dX9_fault_500 hl (by decide) rfl (fun ls hl => ?_)
                                                                          refine lv_goto (tgt := 340) hx hb dX9_fault_502 (by decide) ?_
                                                                          exact ih340  (c9 + 1) (a9 + 1) (gU u3 c9 (plainV (svn pa gv a9))) h_310 _ _ ls (by omega) (by omega) (by have := hdc.1; omega) hdc.2.2 (gU_list hu hdc.2.1) (ag3.tr agq) f_312 f_313 f_314 f_315 f_316 hR hS (lv_sub hl [0, 2, 3, 4] rfl)
                                                                        · skip
                                                                          exact absurd (by decide) c_317
                                                                    · skip
                                                                      have c_296 : (svn pa gv a9) = 27 := (nI_eq (by omega) (by omega)).mp c_296
                                                                      rw [if_pos (show svn pa gv a9 = 27 from c_296)] at hst
                                                                      refine lv_iinc (v := nI (a9 + 1)) (lv' := [(8, .int (nI (a9 + 1))), (9, .int (nI (svn pa gv a9))), (0, .ref y), (2, .int (nI 0)), (4, .int (nI (pa 1)))]) hx hb dX9_fault_396 hl (k := 1) rfl (show nI a9 + Int32.ofInt 1 = nI (a9 + 1) from nI_add _ 1) (by decide) rfl (fun ls hl => ?_)
                                                                      refine lv_iload hx hb dX9_fault_399 (lv_at hl 0 rfl) ?_
                                                                      refine lv_iload hx hb dX9_fault_401 (lv_at hl 4 rfl) ?_
                                                                      refine lv_icmp_ne (tgt := 411) hx hb dX9_fault_403 (by decide) (fun c_318 => ?_) (fun c_318 => ?_)
                                                                      · skip
                                                                        have c_318 : ¬ ((a9 + 1) = (pa 1)) := fun z9 => c_318 ((nI_eq (by omega) (by omega)).mpr z9)
                                                                        rw [if_pos (show a9 + 1 < pa 1 by omega)] at hst
                                                                        have hdc := drop_cons hst
                                                                        refine lv_aload_n hx hb dX9_fault_411 rfl (lv_at hl 2 rfl) ?_
                                                                        refine ah_get (ci := 8) (v := .ref (A 2)) (C := RX9) (T := TX9) (N := 27) hx hb hE hR hts hinX9 hown fy3 rfl 2 (by decide) k13 (fun _ h9 => h9) rfl dX9_fault_412 ?_
                                                                        refine lv_aload_n hx hb dX9_fault_415 rfl (lv_at hl 2 rfl) ?_
                                                                        refine lv_iload hx hb dX9_fault_416 (lv_at hl 0 rfl) ?_
                                                                        refine ah_calli (va_runV (As := [.int (nI (a9 + 1))]) (rest := [.ref (A 2)]) ⟨hx, hb, hml, hown, hts⟩ (c_m_seven l G h3 y A k0 n rf pm zh lc c pt gv c9 fy3 pa fa243 hpa (a9 + 1) (by omega)) (cwV 1 hts gX9_fault_X9_seven rfl rfl rfl (by decide +kernel) ⟨Nat.le_of_ble_eq_true rfl, Nat.le_of_ble_eq_true rfl⟩) (ah_preV hE hR hS fy3 rfl) rfl rfl hl.1 rfl (lv_room (Nat.le_of_ble_eq_true rfl)) dX9_fault_418 ⟨Nat.le_of_ble_eq_true rfl, Nat.le_of_ble_eq_true rfl⟩) hS (fun r_321 h_319 H locs p_320 hR hS => ?_)
                                                                        obtain ⟨e_322, e_323⟩ := p_320
                                                                        rw [e_323] at hR
                                                                        rw [s7_svn hpa (show 7 * (a9 + 1) + 6 < 8 * (gv - 2) by omega)] at e_322
                                                                        refine ah_toi e_322 ?_
                                                                        have hs_324 := svn_lt pa gv (a9 + 1)
                                                                        refine ah_iald (i := (svn pa gv (a9 + 1))) hx hb hE hR fa23 (by omega) (by omega) dX9_fault_421 ?_
                                                                        refine lv_iconst (v := (-1)) hx hb dX9_fault_422 (by decide) ?_
                                                                        refine lv_icmp_eq (tgt := 440) hx hb dX9_fault_423 (by decide) (fun c_325 => ?_) (fun c_325 => ?_)
                                                                        · skip
                                                                          refine lv_aload_n hx hb dX9_fault_440 rfl (lv_at hl 2 rfl) ?_
                                                                          refine lv_aload_n hx hb dX9_fault_441 rfl (lv_at hl 2 rfl) ?_
                                                                          refine lv_iload hx hb dX9_fault_442 (lv_at hl 0 rfl) ?_
                                                                          refine ah_calli (va_runV (As := [.int (nI (a9 + 1))]) (rest := [.ref y]) ⟨hx, hb, hml, hown, hts⟩ (c_m_seven l G h3 y A k0 n rf pm zh lc c pt gv c9 fy3 pa fa243 hpa (a9 + 1) (by omega)) (cwV 1 hts gX9_fault_X9_seven rfl rfl rfl (by decide +kernel) ⟨Nat.le_of_ble_eq_true rfl, Nat.le_of_ble_eq_true rfl⟩) (ah_preV hE hR hS fy3 rfl) rfl rfl hl.1 rfl (lv_room (Nat.le_of_ble_eq_true rfl)) dX9_fault_444 ⟨Nat.le_of_ble_eq_true rfl, Nat.le_of_ble_eq_true rfl⟩) hS (fun r_328 h_326 H locs p_327 hR hS => ?_)
                                                                          obtain ⟨e_329, e_330⟩ := p_327
                                                                          rw [e_330] at hR
                                                                          rw [s7_svn hpa (show 7 * (a9 + 1) + 6 < 8 * (gv - 2) by omega)] at e_329
                                                                          refine ah_toi e_329 ?_
                                                                          have hs_331 := svn_lt pa gv (a9 + 1)
                                                                          refine ah_calli (va_runV (As := [.int (nI (svn pa gv (a9 + 1)))]) (rest := []) ⟨hx, hb, hml, hown, hts⟩ (c_m_alone l G h3 y A k0 n rf pm zh lc c pt gv c9 fy3 fa13 (svn pa gv (a9 + 1)) (by omega)) (cwV 1 hts gX9_fault_X9_alone rfl rfl rfl (by decide +kernel) ⟨Nat.le_of_ble_eq_true rfl, Nat.le_of_ble_eq_true rfl⟩) (ah_preV hE hR hS fy3 rfl) rfl rfl hl.1 rfl (lv_room (Nat.le_of_ble_eq_true rfl)) dX9_fault_447 ⟨Nat.le_of_ble_eq_true rfl, Nat.le_of_ble_eq_true rfl⟩) hS (fun r_334 h_332 H locs p_333 hR hS => ?_)
                                                                          obtain ⟨e_335, e_336⟩ := p_333
                                                                          rw [e_336] at hR
                                                                          refine ah_toi e_335 ?_
                                                                          refine ah_toi (v := nI (escV (svn pa gv (a9 + 1)))) (by rw [← (escU_ok _).1, ← (plainU_ok _).1]; exact (if_pos c_325).symm) ?_
                                                                          refine lv_istore (lv' := [(9, .int (nI (escV (svn pa gv (a9 + 1))))), (8, .int (nI (a9 + 1))), (0, .ref y), (2, .int (nI 0)), (4, .int (nI (pa 1)))]) hx hb dX9_fault_450 hl (by decide) rfl (fun ls hl => ?_)
                                                                          refine lv_goto (tgt := 467) hx hb dX9_fault_452 (by decide) ?_
                                                                          refine lv_aload_n hx hb dX9_fault_467 rfl (lv_at hl 2 rfl) ?_
                                                                          refine ah_get (ci := 8) (v := .ref (A 26)) (C := RX9) (T := TX9) (N := 27) hx hb hE hR hts hinX9 hown fy3 rfl 26 (by decide) k61 (fun _ h9 => h9) rfl dX9_fault_468 ?_
                                                                          refine lv_aload_n hx hb dX9_fault_471 rfl (lv_at hl 2 rfl) ?_
                                                                          refine ah_get (ci := 8) (v := .int (nI c9)) (C := RX9) (T := TX9) (N := 27) hx hb hE hR hts hinX9 hown fy3 rfl 25 (by decide) k129 (fun _ h9 => h9) rfl dX9_fault_472 ?_
                                                                          refine lv_iload hx hb dX9_fault_475 (lv_at hl 0 rfl) ?_
                                                                          have hcl9 := hdc.1
                                                                          refine ah_iast (i := c9) hx hb hE hR hS fa263 (by omega) (by omega) dX9_fault_477 (fun H locs hR hS => ?_)
                                                                          rw [nA_upd] at hR
                                                                          obtain ⟨h_337, e_338⟩ : ∃ zz9, zz9 = ah_up h3 (A 26) (46, .inl (G.2.2.1 0, 200, .inl (nA (gU u3 c9 (escV (svn pa gv (a9 + 1))))))) := ⟨_, rfl⟩
                                                                          have hR : ah_R G h_337 H := by rw [e_338]; exact hR
                                                                          have f_339 : h_337 y = some (20, .inr (8, mF A k0 n rf pm zh lc c pt gv c9)) := by rw [e_338]; exact ah_keep fy3 fa263 (by omega)
                                                                          have f_340 : h_337 (A 1) = some (21, .inl (G.2.2.1 0, 128, .inl plT)) := by rw [e_338]; exact ah_keep fa13 fa263 (by omega)
                                                                          have f_341 : h_337 (A 2) = some (22, .inl (G.2.2.1 0, 128, .inl esT)) := by rw [e_338]; exact ah_keep fa23 fa263 (by omega)
                                                                          have f_342 : h_337 (A 24) = some (44, .inl (G.2.2.1 0, 200, .inl (nA pa))) := by rw [e_338]; exact ah_keep fa243 fa263 (by omega)
                                                                          have f_343 : h_337 (A 26) = some (46, .inl (G.2.2.1 0, 200, .inl (nA (gU u3 c9 (escV (svn pa gv (a9 + 1))))))) := by rw [e_338]; exact ah_up_s _ _ _
                                                                          refine lv_aload_n hx hb dX9_fault_478 rfl (lv_at hl 2 rfl) ?_
                                                                          refine lv_dup hx hb dX9_fault_479 rfl ?_
                                                                          refine ah_get (ci := 8) (v := .int (nI c9)) (C := RX9) (T := TX9) (N := 27) hx hb hE hR hts hinX9 hown f_339 rfl 25 (by decide) k129 (fun _ h9 => h9) rfl dX9_fault_480 ?_
                                                                          refine lv_iconst (v := nI 1) hx hb dX9_fault_483 (by decide) ?_
                                                                          refine lv_iadd hx hb dX9_fault_484 ?_
                                                                          refine ah_toi (v := nI (c9 + 1)) (nI_add _ _) ?_
                                                                          refine ah_put (ci := 8) (v := .int (nI (c9 + 1))) (ty := .int) (C := RX9) (T := TX9) (N := 27) hx hb hE hR hS hts hinX9 tyX9 tyX9_ok nmX9 hown f_339 rfl 25 (by decide) k129 (fun _ h9 => h9) rfl (by decide +kernel) rfl rfl (Nat.le_of_ble_eq_true rfl) dX9_fault_485 (fun H locs hR hS => ?_)
                                                                          obtain ⟨h_344, e_345⟩ : ∃ zz9, zz9 = ah_up h_337 y (20, .inr (8, mF A k0 n rf pm zh lc c pt gv (c9 + 1))) := ⟨_, rfl⟩
                                                                          have hR : ah_R G h_344 H := by rw [e_345]; exact hR
                                                                          have f_346 : h_344 y = some (20, .inr (8, mF A k0 n rf pm zh lc c pt gv (c9 + 1))) := by rw [e_345]; exact ah_up_s _ _ _
                                                                          have f_347 : h_344 (A 1) = some (21, .inl (G.2.2.1 0, 128, .inl plT)) := by rw [e_345]; exact ah_keep f_340 f_339 (by omega)
                                                                          have f_348 : h_344 (A 2) = some (22, .inl (G.2.2.1 0, 128, .inl esT)) := by rw [e_345]; exact ah_keep f_341 f_339 (by omega)
                                                                          have f_349 : h_344 (A 24) = some (44, .inl (G.2.2.1 0, 200, .inl (nA pa))) := by rw [e_345]; exact ah_keep f_342 f_339 (by omega)
                                                                          have f_350 : h_344 (A 26) = some (46, .inl (G.2.2.1 0, 200, .inl (nA (gU u3 c9 (escV (svn pa gv (a9 + 1))))))) := by rw [e_345]; exact ah_keep f_343 f_339 (by omega)
                                                                          have agq : agr (fun t => t ≠ 20 ∧ t ≠ 46) h3 h_344 := by rw [e_345]; refine agr.up ?_ f_339 (by omega); rw [e_338]; exact agr.rf.up fa263 (by omega)
                                                                          refine lv_iload hx hb dX9_fault_488 (lv_at hl 1 rfl) ?_
                                                                          refine lv_iload_n hx hb dX9_fault_490 rfl (lv_at hl 3 rfl) ?_
                                                                          refine lv_if_eq (tgt := 498) hx hb dX9_fault_491 (by decide) (fun c_351 => ?_) (fun c_351 => ?_)
                                                                          · skip
                                                                            refine lv_iconst (v := nI 1) hx hb dX9_fault_498 (by decide) ?_
                                                                            refine lv_iadd hx hb dX9_fault_499 ?_
                                                                            refine ah_toi (v := nI ((a9 + 1) + 1)) (nI_add _ _) ?_
                                                                            refine lv_istore (lv' := [(8, .int (nI ((a9 + 1) + 1))), (9, .int (nI (escV (svn pa gv (a9 + 1))))), (0, .ref y), (2, .int (nI 0)), (4, .int (nI (pa 1)))]) hx hb dX9_fault_500 hl (by decide) rfl (fun ls hl => ?_)
                                                                            refine lv_goto (tgt := 340) hx hb dX9_fault_502 (by decide) ?_
                                                                            exact ih340  (c9 + 1) ((a9 + 1) + 1) (gU u3 c9 (escV (svn pa gv (a9 + 1)))) h_344 _ _ ls (by omega) (by omega) (by have := hdc.1; omega) hdc.2.2 (gU_list hu hdc.2.1) (ag3.tr agq) f_346 f_347 f_348 f_349 f_350 hR hS (lv_sub hl [0, 2, 3, 4] rfl)
                                                                          · skip
                                                                            exact absurd (by decide) c_351
                                                                        · skip
                                                                          refine lv_aload_n hx hb dX9_fault_426 rfl (lv_at hl 2 rfl) ?_
                                                                          refine ah_get (ci := 8) (v := .ref (A 2)) (C := RX9) (T := TX9) (N := 27) hx hb hE hR hts hinX9 hown fy3 rfl 2 (by decide) k13 (fun _ h9 => h9) rfl dX9_fault_427 ?_
                                                                          refine lv_aload_n hx hb dX9_fault_430 rfl (lv_at hl 2 rfl) ?_
                                                                          refine lv_iload hx hb dX9_fault_431 (lv_at hl 0 rfl) ?_
                                                                          refine ah_calli (va_runV (As := [.int (nI (a9 + 1))]) (rest := [.ref (A 2)]) ⟨hx, hb, hml, hown, hts⟩ (c_m_seven l G h3 y A k0 n rf pm zh lc c pt gv c9 fy3 pa fa243 hpa (a9 + 1) (by omega)) (cwV 1 hts gX9_fault_X9_seven rfl rfl rfl (by decide +kernel) ⟨Nat.le_of_ble_eq_true rfl, Nat.le_of_ble_eq_true rfl⟩) (ah_preV hE hR hS fy3 rfl) rfl rfl hl.1 rfl (lv_room (Nat.le_of_ble_eq_true rfl)) dX9_fault_433 ⟨Nat.le_of_ble_eq_true rfl, Nat.le_of_ble_eq_true rfl⟩) hS (fun r_354 h_352 H locs p_353 hR hS => ?_)
                                                                          obtain ⟨e_355, e_356⟩ := p_353
                                                                          rw [e_356] at hR
                                                                          rw [s7_svn hpa (show 7 * (a9 + 1) + 6 < 8 * (gv - 2) by omega)] at e_355
                                                                          refine ah_toi e_355 ?_
                                                                          have hs_357 := svn_lt pa gv (a9 + 1)
                                                                          refine ah_iald (i := (svn pa gv (a9 + 1))) hx hb hE hR fa23 (by omega) (by omega) dX9_fault_436 ?_
                                                                          refine lv_goto (tgt := 450) hx hb dX9_fault_437 (by decide) ?_
                                                                          refine ah_toi (v := nI (escV (svn pa gv (a9 + 1)))) (by rw [← (escU_ok _).1]; exact (if_neg c_325).symm) ?_
                                                                          refine lv_istore (lv' := [(9, .int (nI (escV (svn pa gv (a9 + 1))))), (8, .int (nI (a9 + 1))), (0, .ref y), (2, .int (nI 0)), (4, .int (nI (pa 1)))]) hx hb dX9_fault_450 hl (by decide) rfl (fun ls hl => ?_)
                                                                          refine lv_goto (tgt := 467) hx hb dX9_fault_452 (by decide) ?_
                                                                          refine lv_aload_n hx hb dX9_fault_467 rfl (lv_at hl 2 rfl) ?_
                                                                          refine ah_get (ci := 8) (v := .ref (A 26)) (C := RX9) (T := TX9) (N := 27) hx hb hE hR hts hinX9 hown fy3 rfl 26 (by decide) k61 (fun _ h9 => h9) rfl dX9_fault_468 ?_
                                                                          refine lv_aload_n hx hb dX9_fault_471 rfl (lv_at hl 2 rfl) ?_
                                                                          refine ah_get (ci := 8) (v := .int (nI c9)) (C := RX9) (T := TX9) (N := 27) hx hb hE hR hts hinX9 hown fy3 rfl 25 (by decide) k129 (fun _ h9 => h9) rfl dX9_fault_472 ?_
                                                                          refine lv_iload hx hb dX9_fault_475 (lv_at hl 0 rfl) ?_
                                                                          have hcl9 := hdc.1
                                                                          refine ah_iast (i := c9) hx hb hE hR hS fa263 (by omega) (by omega) dX9_fault_477 (fun H locs hR hS => ?_)
                                                                          rw [nA_upd] at hR
                                                                          obtain ⟨h_358, e_359⟩ : ∃ zz9, zz9 = ah_up h3 (A 26) (46, .inl (G.2.2.1 0, 200, .inl (nA (gU u3 c9 (escV (svn pa gv (a9 + 1))))))) := ⟨_, rfl⟩
                                                                          have hR : ah_R G h_358 H := by rw [e_359]; exact hR
                                                                          have f_360 : h_358 y = some (20, .inr (8, mF A k0 n rf pm zh lc c pt gv c9)) := by rw [e_359]; exact ah_keep fy3 fa263 (by omega)
                                                                          have f_361 : h_358 (A 1) = some (21, .inl (G.2.2.1 0, 128, .inl plT)) := by rw [e_359]; exact ah_keep fa13 fa263 (by omega)
                                                                          have f_362 : h_358 (A 2) = some (22, .inl (G.2.2.1 0, 128, .inl esT)) := by rw [e_359]; exact ah_keep fa23 fa263 (by omega)
                                                                          have f_363 : h_358 (A 24) = some (44, .inl (G.2.2.1 0, 200, .inl (nA pa))) := by rw [e_359]; exact ah_keep fa243 fa263 (by omega)
                                                                          have f_364 : h_358 (A 26) = some (46, .inl (G.2.2.1 0, 200, .inl (nA (gU u3 c9 (escV (svn pa gv (a9 + 1))))))) := by rw [e_359]; exact ah_up_s _ _ _
                                                                          refine lv_aload_n hx hb dX9_fault_478 rfl (lv_at hl 2 rfl) ?_
                                                                          refine lv_dup hx hb dX9_fault_479 rfl ?_
                                                                          refine ah_get (ci := 8) (v := .int (nI c9)) (C := RX9) (T := TX9) (N := 27) hx hb hE hR hts hinX9 hown f_360 rfl 25 (by decide) k129 (fun _ h9 => h9) rfl dX9_fault_480 ?_
                                                                          refine lv_iconst (v := nI 1) hx hb dX9_fault_483 (by decide) ?_
                                                                          refine lv_iadd hx hb dX9_fault_484 ?_
                                                                          refine ah_toi (v := nI (c9 + 1)) (nI_add _ _) ?_
                                                                          refine ah_put (ci := 8) (v := .int (nI (c9 + 1))) (ty := .int) (C := RX9) (T := TX9) (N := 27) hx hb hE hR hS hts hinX9 tyX9 tyX9_ok nmX9 hown f_360 rfl 25 (by decide) k129 (fun _ h9 => h9) rfl (by decide +kernel) rfl rfl (Nat.le_of_ble_eq_true rfl) dX9_fault_485 (fun H locs hR hS => ?_)
                                                                          obtain ⟨h_365, e_366⟩ : ∃ zz9, zz9 = ah_up h_358 y (20, .inr (8, mF A k0 n rf pm zh lc c pt gv (c9 + 1))) := ⟨_, rfl⟩
                                                                          have hR : ah_R G h_365 H := by rw [e_366]; exact hR
                                                                          have f_367 : h_365 y = some (20, .inr (8, mF A k0 n rf pm zh lc c pt gv (c9 + 1))) := by rw [e_366]; exact ah_up_s _ _ _
                                                                          have f_368 : h_365 (A 1) = some (21, .inl (G.2.2.1 0, 128, .inl plT)) := by rw [e_366]; exact ah_keep f_361 f_360 (by omega)
                                                                          have f_369 : h_365 (A 2) = some (22, .inl (G.2.2.1 0, 128, .inl esT)) := by rw [e_366]; exact ah_keep f_362 f_360 (by omega)
                                                                          have f_370 : h_365 (A 24) = some (44, .inl (G.2.2.1 0, 200, .inl (nA pa))) := by rw [e_366]; exact ah_keep f_363 f_360 (by omega)
                                                                          have f_371 : h_365 (A 26) = some (46, .inl (G.2.2.1 0, 200, .inl (nA (gU u3 c9 (escV (svn pa gv (a9 + 1))))))) := by rw [e_366]; exact ah_keep f_364 f_360 (by omega)
                                                                          have agq : agr (fun t => t ≠ 20 ∧ t ≠ 46) h3 h_365 := by rw [e_366]; refine agr.up ?_ f_360 (by omega); rw [e_359]; exact agr.rf.up fa263 (by omega)
                                                                          refine lv_iload hx hb dX9_fault_488 (lv_at hl 1 rfl) ?_
                                                                          refine lv_iload_n hx hb dX9_fault_490 rfl (lv_at hl 3 rfl) ?_
                                                                          refine lv_if_eq (tgt := 498) hx hb dX9_fault_491 (by decide) (fun c_372 => ?_) (fun c_372 => ?_)
                                                                          · skip
                                                                            refine lv_iconst (v := nI 1) hx hb dX9_fault_498 (by decide) ?_
                                                                            refine lv_iadd hx hb dX9_fault_499 ?_
                                                                            refine ah_toi (v := nI ((a9 + 1) + 1)) (nI_add _ _) ?_
                                                                            refine lv_istore (lv' := [(8, .int (nI ((a9 + 1) + 1))), (9, .int (nI (escV (svn pa gv (a9 + 1))))), (0, .ref y), (2, .int (nI 0)), (4, .int (nI (pa 1)))]) hx hb dX9_fault_500 hl (by decide) rfl (fun ls hl => ?_)
                                                                            refine lv_goto (tgt := 340) hx hb dX9_fault_502 (by decide) ?_
                                                                            exact ih340  (c9 + 1) ((a9 + 1) + 1) (gU u3 c9 (escV (svn pa gv (a9 + 1)))) h_365 _ _ ls (by omega) (by omega) (by have := hdc.1; omega) hdc.2.2 (gU_list hu hdc.2.1) (ag3.tr agq) f_367 f_368 f_369 f_370 f_371 hR hS (lv_sub hl [0, 2, 3, 4] rfl)
                                                                          · skip
                                                                            exact absurd (by decide) c_372
                                                                      · skip
                                                                        have c_318 : (a9 + 1) = (pa 1) := (nI_eq (by omega) (by omega)).mp c_318
                                                                        rw [if_neg (show ¬ a9 + 1 < pa 1 by omega)] at hst
                                                                        have hdc := drop_cons hst
                                                                        refine lv_bipush (v := nI 32) hx hb dX9_fault_406 (by decide) ?_
                                                                        refine lv_goto (tgt := 450) hx hb dX9_fault_408 (by decide) ?_
                                                                        refine lv_istore (lv' := [(9, .int (nI 32)), (8, .int (nI (a9 + 1))), (0, .ref y), (2, .int (nI 0)), (4, .int (nI (pa 1)))]) hx hb dX9_fault_450 hl (by decide) rfl (fun ls hl => ?_)
                                                                        refine lv_goto (tgt := 467) hx hb dX9_fault_452 (by decide) ?_
                                                                        refine lv_aload_n hx hb dX9_fault_467 rfl (lv_at hl 2 rfl) ?_
                                                                        refine ah_get (ci := 8) (v := .ref (A 26)) (C := RX9) (T := TX9) (N := 27) hx hb hE hR hts hinX9 hown fy3 rfl 26 (by decide) k61 (fun _ h9 => h9) rfl dX9_fault_468 ?_
                                                                        refine lv_aload_n hx hb dX9_fault_471 rfl (lv_at hl 2 rfl) ?_
                                                                        refine ah_get (ci := 8) (v := .int (nI c9)) (C := RX9) (T := TX9) (N := 27) hx hb hE hR hts hinX9 hown fy3 rfl 25 (by decide) k129 (fun _ h9 => h9) rfl dX9_fault_472 ?_
                                                                        refine lv_iload hx hb dX9_fault_475 (lv_at hl 0 rfl) ?_
                                                                        have hcl9 := hdc.1
                                                                        refine ah_iast (i := c9) hx hb hE hR hS fa263 (by omega) (by omega) dX9_fault_477 (fun H locs hR hS => ?_)
                                                                        rw [nA_upd] at hR
                                                                        obtain ⟨h_373, e_374⟩ : ∃ zz9, zz9 = ah_up h3 (A 26) (46, .inl (G.2.2.1 0, 200, .inl (nA (gU u3 c9 32)))) := ⟨_, rfl⟩
                                                                        have hR : ah_R G h_373 H := by rw [e_374]; exact hR
                                                                        have f_375 : h_373 y = some (20, .inr (8, mF A k0 n rf pm zh lc c pt gv c9)) := by rw [e_374]; exact ah_keep fy3 fa263 (by omega)
                                                                        have f_376 : h_373 (A 1) = some (21, .inl (G.2.2.1 0, 128, .inl plT)) := by rw [e_374]; exact ah_keep fa13 fa263 (by omega)
                                                                        have f_377 : h_373 (A 2) = some (22, .inl (G.2.2.1 0, 128, .inl esT)) := by rw [e_374]; exact ah_keep fa23 fa263 (by omega)
                                                                        have f_378 : h_373 (A 24) = some (44, .inl (G.2.2.1 0, 200, .inl (nA pa))) := by rw [e_374]; exact ah_keep fa243 fa263 (by omega)
                                                                        have f_379 : h_373 (A 26) = some (46, .inl (G.2.2.1 0, 200, .inl (nA (gU u3 c9 32)))) := by rw [e_374]; exact ah_up_s _ _ _
                                                                        refine lv_aload_n hx hb dX9_fault_478 rfl (lv_at hl 2 rfl) ?_
                                                                        refine lv_dup hx hb dX9_fault_479 rfl ?_
                                                                        refine ah_get (ci := 8) (v := .int (nI c9)) (C := RX9) (T := TX9) (N := 27) hx hb hE hR hts hinX9 hown f_375 rfl 25 (by decide) k129 (fun _ h9 => h9) rfl dX9_fault_480 ?_
                                                                        refine lv_iconst (v := nI 1) hx hb dX9_fault_483 (by decide) ?_
                                                                        refine lv_iadd hx hb dX9_fault_484 ?_
                                                                        refine ah_toi (v := nI (c9 + 1)) (nI_add _ _) ?_
                                                                        refine ah_put (ci := 8) (v := .int (nI (c9 + 1))) (ty := .int) (C := RX9) (T := TX9) (N := 27) hx hb hE hR hS hts hinX9 tyX9 tyX9_ok nmX9 hown f_375 rfl 25 (by decide) k129 (fun _ h9 => h9) rfl (by decide +kernel) rfl rfl (Nat.le_of_ble_eq_true rfl) dX9_fault_485 (fun H locs hR hS => ?_)
                                                                        obtain ⟨h_380, e_381⟩ : ∃ zz9, zz9 = ah_up h_373 y (20, .inr (8, mF A k0 n rf pm zh lc c pt gv (c9 + 1))) := ⟨_, rfl⟩
                                                                        have hR : ah_R G h_380 H := by rw [e_381]; exact hR
                                                                        have f_382 : h_380 y = some (20, .inr (8, mF A k0 n rf pm zh lc c pt gv (c9 + 1))) := by rw [e_381]; exact ah_up_s _ _ _
                                                                        have f_383 : h_380 (A 1) = some (21, .inl (G.2.2.1 0, 128, .inl plT)) := by rw [e_381]; exact ah_keep f_376 f_375 (by omega)
                                                                        have f_384 : h_380 (A 2) = some (22, .inl (G.2.2.1 0, 128, .inl esT)) := by rw [e_381]; exact ah_keep f_377 f_375 (by omega)
                                                                        have f_385 : h_380 (A 24) = some (44, .inl (G.2.2.1 0, 200, .inl (nA pa))) := by rw [e_381]; exact ah_keep f_378 f_375 (by omega)
                                                                        have f_386 : h_380 (A 26) = some (46, .inl (G.2.2.1 0, 200, .inl (nA (gU u3 c9 32)))) := by rw [e_381]; exact ah_keep f_379 f_375 (by omega)
                                                                        have agq : agr (fun t => t ≠ 20 ∧ t ≠ 46) h3 h_380 := by rw [e_381]; refine agr.up ?_ f_375 (by omega); rw [e_374]; exact agr.rf.up fa263 (by omega)
                                                                        refine lv_iload hx hb dX9_fault_488 (lv_at hl 1 rfl) ?_
                                                                        refine lv_iload_n hx hb dX9_fault_490 rfl (lv_at hl 3 rfl) ?_
                                                                        refine lv_if_eq (tgt := 498) hx hb dX9_fault_491 (by decide) (fun c_387 => ?_) (fun c_387 => ?_)
                                                                        · skip
                                                                          refine lv_iconst (v := nI 1) hx hb dX9_fault_498 (by decide) ?_
                                                                          refine lv_iadd hx hb dX9_fault_499 ?_
                                                                          refine ah_toi (v := nI ((a9 + 1) + 1)) (nI_add _ _) ?_
                                                                          refine lv_istore (lv' := [(8, .int (nI ((a9 + 1) + 1))), (9, .int (nI 32)), (0, .ref y), (2, .int (nI 0)), (4, .int (nI (pa 1)))]) hx hb dX9_fault_500 hl (by decide) rfl (fun ls hl => ?_)
                                                                          refine lv_goto (tgt := 340) hx hb dX9_fault_502 (by decide) ?_
                                                                          exact ih340  (c9 + 1) ((a9 + 1) + 1) (gU u3 c9 32) h_380 _ _ ls (by omega) (by omega) (by have := hdc.1; omega) hdc.2.2 (gU_list hu hdc.2.1) (ag3.tr agq) f_382 f_383 f_384 f_385 f_386 hR hS (lv_sub hl [0, 2, 3, 4] rfl)
                                                                        · skip
                                                                          exact absurd (by decide) c_387
                                                                · skip
                                                                  exact absurd (by decide) c_288
                                                          exact L340 ((pa 1 - 7) + 1) 0 7 ua h_280 _ _ ls (by omega) (by omega) (by omega) (by rw [eL2]; rfl) (fun j hj => absurd hj (Nat.not_lt_zero j)) ag0 f_282 f_283 f_284 f_285 f_286 hR hS (lv_sub hl [0, 2, 4, 6] rfl)
                                                        · skip
                                                          have c_279 : ¬ (lf = 0) := fun z9 => c_279 ((zi_eq (by omega)).mpr z9)
                                                          refine lv_bipush (v := nI 6) hx hb dX9_fault_328 (by decide) ?_
                                                          refine ah_iret (v := nI 6) hx hb hr hlocks hR hS dX9_fault_330 ?_
                                                          have hf9 : fault pa gv = 6 := fl_6 hz2 hkk hn3 hn4 hn5 ⟨by rw [hk9], by rw [hk9]; show strayB pa gv 1 (pa 1) = true; rw [← ei, show lf = 1 by omega]; rfl⟩
                                                          exact ⟨by rw [hf9], fun _ => rfl, fun q9 => absurd q9 (by rw [hf9]; decide)⟩
                                                      · skip
                                                        have c_278 : ¬ ((8 * ((7 * pa 1 + 7) / 8)) ≤ b) := fun z9 => c_278 ((nI_leI (by omega) (by omega)).mpr z9)
                                                        refine lv_iload_n hx hb dX9_fault_291 rfl (lv_at hl 4 rfl) ?_
                                                        refine lv_if_ne (tgt := 323) hx hb dX9_fault_292 (by decide) (fun c_388 => ?_) (fun c_388 => ?_)
                                                        · skip
                                                          exact absurd c_388 (by decide)
                                                        · skip
                                                          refine lv_iload hx hb dX9_fault_295 (lv_at hl 1 rfl) ?_
                                                          refine lv_if_ne (tgt := 310) hx hb dX9_fault_297 (by decide) (fun c_389 => ?_) (fun c_389 => ?_)
                                                          · skip
                                                            have c_389 : ¬ (lf = 0) := fun z9 => c_389 ((zi_eq (by omega)).mpr z9)
                                                            refine lv_iconst (v := nI 1) hx hb dX9_fault_310 (by decide) ?_
                                                            refine lv_goto (tgt := 315) hx hb dX9_fault_311 (by decide) ?_
                                                            refine lv_istore (lv' := [(7, .int (nI 1)), (8, .int (nI b)), (0, .ref y), (1, .int (nI 1)), (2, .int (nI 0)), (3, .int (nI 1)), (4, .int (nI (pa 1))), (5, .int (nI ((7 * pa 1 + 7) / 8))), (6, .int (nI 7))]) hx hb dX9_fault_315 hl (by decide) rfl (fun ls hl => ?_)
                                                            refine lv_iinc (v := nI (b + 1)) (lv' := [(8, .int (nI (b + 1))), (7, .int (nI 1)), (0, .ref y), (1, .int (nI 1)), (2, .int (nI 0)), (3, .int (nI 1)), (4, .int (nI (pa 1))), (5, .int (nI ((7 * pa 1 + 7) / 8))), (6, .int (nI 7))]) hx hb dX9_fault_317 hl (k := 1) rfl (show nI b + Int32.ofInt 1 = nI (b + 1) from nI_add _ 1) (by decide) rfl (fun ls hl => ?_)
                                                            refine lv_goto (tgt := 281) hx hb dX9_fault_320 (by decide) ?_
                                                            exact ih281  (b + 1) 1 _ _ ls (by omega) (by omega) (by omega) (by omega) (by rw [← ei, show 8 * ((7 * pa 1 + 7) / 8) - b = 8 * ((7 * pa 1 + 7) / 8) - (b + 1) + 1 by omega]; show _ = (decide (lf = 1) || (bitS pa gv b || anyB pa gv (8 * ((7 * pa 1 + 7) / 8) - (b + 1)) (b + 1))); rw [show lf = 1 by omega]; simp) fy1 fa11 fa21 fa241 fa261 hR hS (lv_sub hl [0, 1, 2, 3, 4, 5, 6, 7, 8] rfl)
                                                          · skip
                                                            have c_389 : lf = 0 := (zi_eq (by omega)).mp c_389
                                                            have hl0 : lf = 0 := by omega
                                                            refine lv_aload_n hx hb dX9_fault_300 rfl (lv_at hl 2 rfl) ?_
                                                            refine lv_iload hx hb dX9_fault_301 (lv_at hl 0 rfl) ?_
                                                            refine ah_calli (va_runV (As := [.int (nI b)]) (rest := []) ⟨hx, hb, hml, hown, hts⟩ (c_m_bit l G h y A k0 n rf pm zh lc c pt gv un fy1 pa fa241 hpa b (by omega)) (cwV 1 hts gX9_fault_X9_bit rfl rfl rfl (by decide +kernel) ⟨Nat.le_of_ble_eq_true rfl, Nat.le_of_ble_eq_true rfl⟩) (ah_preV hE hR hS fy1 rfl) rfl rfl hl.1 rfl (lv_room (Nat.le_of_ble_eq_true rfl)) dX9_fault_303 ⟨Nat.le_of_ble_eq_true rfl, Nat.le_of_ble_eq_true rfl⟩) hS (fun r_392 h_390 H locs p_391 hR hS => ?_)
                                                            obtain ⟨e_393, e_394⟩ := p_391
                                                            rw [e_394] at hR
                                                            refine ah_toi e_393 ?_
                                                            have hb_395 := bt_le pa b
                                                            refine lv_iconst (v := nI 1) hx hb dX9_fault_306 (by decide) ?_
                                                            refine lv_icmp_ne (tgt := 314) hx hb dX9_fault_307 (by decide) (fun c_396 => ?_) (fun c_396 => ?_)
                                                            · skip
                                                              have c_396 : ¬ ((bt pa b) = 1) := fun z9 => c_396 ((nI_eq (by omega) (by omega)).mpr z9)
                                                              refine lv_iconst (v := nI 0) hx hb dX9_fault_314 (by decide) ?_
                                                              refine lv_istore (lv' := [(7, .int (nI 0)), (8, .int (nI b)), (0, .ref y), (1, .int (nI 1)), (2, .int (nI 0)), (3, .int (nI 1)), (4, .int (nI (pa 1))), (5, .int (nI ((7 * pa 1 + 7) / 8))), (6, .int (nI 7))]) hx hb dX9_fault_315 hl (by decide) rfl (fun ls hl => ?_)
                                                              refine lv_iinc (v := nI (b + 1)) (lv' := [(8, .int (nI (b + 1))), (7, .int (nI 0)), (0, .ref y), (1, .int (nI 1)), (2, .int (nI 0)), (3, .int (nI 1)), (4, .int (nI (pa 1))), (5, .int (nI ((7 * pa 1 + 7) / 8))), (6, .int (nI 7))]) hx hb dX9_fault_317 hl (k := 1) rfl (show nI b + Int32.ofInt 1 = nI (b + 1) from nI_add _ 1) (by decide) rfl (fun ls hl => ?_)
                                                              refine lv_goto (tgt := 281) hx hb dX9_fault_320 (by decide) ?_
                                                              exact ih281  (b + 1) 0 _ _ ls (by omega) (by omega) (by omega) (by omega) (by rw [← ei, show 8 * ((7 * pa 1 + 7) / 8) - b = 8 * ((7 * pa 1 + 7) / 8) - (b + 1) + 1 by omega]; show _ = (decide (lf = 1) || (bitS pa gv b || anyB pa gv (8 * ((7 * pa 1 + 7) / 8) - (b + 1)) (b + 1))); rw [bt_bz (show 2 + b / 8 < gv by omega), hl0, show bt pa b = 0 by omega]; simp) fy1 fa11 fa21 fa241 fa261 hR hS (lv_sub hl [0, 1, 2, 3, 4, 5, 6, 7, 8] rfl)
                                                            · skip
                                                              have c_396 : (bt pa b) = 1 := (nI_eq (by omega) (by omega)).mp c_396
                                                              refine lv_iconst (v := nI 1) hx hb dX9_fault_310 (by decide) ?_
                                                              refine lv_goto (tgt := 315) hx hb dX9_fault_311 (by decide) ?_
                                                              refine lv_istore (lv' := [(7, .int (nI 1)), (8, .int (nI b)), (0, .ref y), (1, .int (nI 1)), (2, .int (nI 0)), (3, .int (nI 1)), (4, .int (nI (pa 1))), (5, .int (nI ((7 * pa 1 + 7) / 8))), (6, .int (nI 7))]) hx hb dX9_fault_315 hl (by decide) rfl (fun ls hl => ?_)
                                                              refine lv_iinc (v := nI (b + 1)) (lv' := [(8, .int (nI (b + 1))), (7, .int (nI 1)), (0, .ref y), (1, .int (nI 1)), (2, .int (nI 0)), (3, .int (nI 1)), (4, .int (nI (pa 1))), (5, .int (nI ((7 * pa 1 + 7) / 8))), (6, .int (nI 7))]) hx hb dX9_fault_317 hl (k := 1) rfl (show nI b + Int32.ofInt 1 = nI (b + 1) from nI_add _ 1) (by decide) rfl (fun ls hl => ?_)
                                                              refine lv_goto (tgt := 281) hx hb dX9_fault_320 (by decide) ?_
                                                              exact ih281  (b + 1) 1 _ _ ls (by omega) (by omega) (by omega) (by omega) (by rw [← ei, show 8 * ((7 * pa 1 + 7) / 8) - b = 8 * ((7 * pa 1 + 7) / 8) - (b + 1) + 1 by omega]; show _ = (decide (lf = 1) || (bitS pa gv b || anyB pa gv (8 * ((7 * pa 1 + 7) / 8) - (b + 1)) (b + 1))); rw [bt_bz (show 2 + b / 8 < gv by omega), show bt pa b = 1 by omega]; simp) fy1 fa11 fa21 fa241 fa261 hR hS (lv_sub hl [0, 1, 2, 3, 4, 5, 6, 7, 8] rfl)
                                                  exact L281 ((8 * ((7 * pa 1 + 7) / 8) - (7 * pa 1)) + 1) (7 * pa 1) 1 _ _ ls (by omega) (by omega) (by omega) (by omega) (by unfold strayB; rw [hi0]; rfl) fy fa1 fa2 fa24 fa26 hR hS (lv_sub hl [0, 1, 8, 7, 6, 5, 4, 3, 2] rfl)
                                          · skip
                                            exact absurd (by decide) c_149
                                        · skip
                                          exact absurd (by decide) c_148
                                    · skip
                                      have c_146 : ¬ ((pa 7) ≤ (pa 6)) := fun z9 => c_146 ((nI_leI (by omega) (by omega)).mpr z9)
                                      refine lv_iconst (v := nI 4) hx hb dX9_fault_209 (by decide) ?_
                                      refine ah_iret (v := nI 4) hx hb hr hlocks hR hS dX9_fault_210 ?_
                                      have hf9 : fault pa gv = 4 := fl_4 hz2 hkk hn3 ⟨by rw [hk9]; decide, by rw [hk9]; show pa 1 < 7 ∨ hdrBad pa; unfold hdrBad; omega⟩
                                      exact ⟨by rw [hf9], fun _ => rfl, fun q9 => absurd q9 (by rw [hf9]; decide)⟩
                      · skip
                        exact absurd (by decide) c_139
                  · skip
                    have c_137 : ¬ ((gv - 2) = (((7 * (pa 1)) + 7) / 8)) := fun z9 => c_137 ((nI_eq (by omega) (by omega)).mpr z9)
                    refine lv_iconst (v := nI 3) hx hb dX9_fault_121 (by decide) ?_
                    refine ah_iret (v := nI 3) hx hb hr hlocks hR hS dX9_fault_122 ?_
                    have hf9 : fault pa gv = 3 := fl_3 hz2 hkk (show wszP (pa 0 / 4) (pa 1) (gv - 2) by rw [hk9]; show (160 < pa 1 ∨ gv - 2 ≠ (7 * pa 1 + 7) / 8); omega)
                    exact ⟨by rw [hf9], fun _ => rfl, fun q9 => absurd q9 (by rw [hf9]; decide)⟩
              · skip
                exact absurd (by decide) c_135
            · skip
              exact absurd (by decide) c_134
        · skip
          have c_132 : ¬ (1 ≤ 3) := fun z9 => c_132 ((nI_leI (by omega) (by omega)).mpr z9)
          exact absurd c_132 (by omega)
      · skip
        have hkk : pa 0 = 0 ∨ pa 0 = 1 ∨ pa 0 = 4 ∨ pa 0 = 5 := by omega
        rw [hk9] at hl
        refine lv_iload_n hx hb dX9_fault_38 rfl (lv_at hl 0 rfl) ?_
        refine lv_iconst (v := nI 3) hx hb dX9_fault_39 (by decide) ?_
        refine lv_icmp_le (tgt := 47) hx hb dX9_fault_40 (by decide) (fun c_397 => ?_) (fun c_397 => ?_)
        · skip
          have c_397 : 4 ≤ 3 := (nI_leI (by omega) (by omega)).mp c_397
          exact absurd c_397 (by omega)
        · skip
          have c_397 : ¬ (4 ≤ 3) := fun z9 => c_397 ((nI_leI (by omega) (by omega)).mpr z9)
          refine lv_iconst (v := nI 1) hx hb dX9_fault_43 (by decide) ?_
          refine lv_goto (tgt := 48) hx hb dX9_fault_44 (by decide) ?_
          refine lv_istore_n (lv' := [(2, .int (nI 1)), (1, .int (nI 4)), (0, .ref y)]) hx hb dX9_fault_48 rfl hl (by decide) rfl (fun ls hl => ?_)
          refine lv_iload_n hx hb dX9_fault_49 rfl (lv_at hl 1 rfl) ?_
          refine lv_iconst (v := nI 1) hx hb dX9_fault_50 (by decide) ?_
          refine lv_iand hx hb dX9_fault_51 ?_
          refine ah_toi (v := nI 0) (by decide) ?_
          refine lv_iconst (v := nI 1) hx hb dX9_fault_52 (by decide) ?_
          refine lv_icmp_ne (tgt := 60) hx hb dX9_fault_53 (by decide) (fun c_398 => ?_) (fun c_398 => ?_)
          · skip
            have c_398 : ¬ (0 = 1) := fun z9 => c_398 ((nI_eq (by omega) (by omega)).mpr z9)
            refine lv_iconst (v := nI 0) hx hb dX9_fault_60 (by decide) ?_
            refine lv_istore_n (lv' := [(3, .int (nI 0)), (2, .int (nI 1)), (1, .int (nI 4)), (0, .ref y)]) hx hb dX9_fault_61 rfl hl (by decide) rfl (fun ls hl => ?_)
            refine lv_aload_n hx hb dX9_fault_62 rfl (lv_at hl 3 rfl) ?_
            refine ah_get (ci := 8) (v := .ref (A 24)) (C := RX9) (T := TX9) (N := 27) hx hb hE hR hts hinX9 hown fy rfl 24 (by decide) k58 (fun _ h9 => h9) rfl dX9_fault_63 ?_
            refine lv_iconst (v := nI 1) hx hb dX9_fault_66 (by decide) ?_
            refine ah_iald (i := 1) hx hb hE hR fa24 (by omega) (by omega) dX9_fault_67 ?_
            refine ah_toi (v := nI (pa 1)) rfl ?_
            refine lv_istore (lv' := [(4, .int (nI (pa 1))), (3, .int (nI 0)), (2, .int (nI 1)), (1, .int (nI 4)), (0, .ref y)]) hx hb dX9_fault_68 hl (by decide) rfl (fun ls hl => ?_)
            refine lv_iload_n hx hb dX9_fault_70 rfl (lv_at hl 2 rfl) ?_
            refine lv_if_eq (tgt := 79) hx hb dX9_fault_71 (by decide) (fun c_399 => ?_) (fun c_399 => ?_)
            · skip
              exact absurd c_399 (by decide)
            · skip
              refine lv_iload hx hb dX9_fault_74 (lv_at hl 0 rfl) ?_
              refine lv_goto (tgt := 90) hx hb dX9_fault_76 (by decide) ?_
              refine lv_istore (lv' := [(5, .int (nI (pa 1))), (4, .int (nI (pa 1))), (3, .int (nI 0)), (2, .int (nI 1)), (1, .int (nI 4)), (0, .ref y)]) hx hb dX9_fault_90 hl (by decide) rfl (fun ls hl => ?_)
              refine lv_iload hx hb dX9_fault_92 (lv_at hl 1 rfl) ?_
              refine lv_iload_n hx hb dX9_fault_94 rfl (lv_at hl 3 rfl) ?_
              refine lv_if_eq (tgt := 104) hx hb dX9_fault_95 (by decide) (fun c_400 => ?_) (fun c_400 => ?_)
              · skip
                exact absurd c_400 (by decide)
              · skip
                refine lv_sipush (v := nI 140) hx hb dX9_fault_98 (by decide) ?_
                refine lv_goto (tgt := 107) hx hb dX9_fault_101 (by decide) ?_
                refine lv_icmp_gt (tgt := 121) hx hb dX9_fault_107 (by decide) (fun c_401 => ?_) (fun c_401 => ?_)
                · skip
                  have c_401 : 140 < (pa 1) := (nI_ltI (by omega) (by omega)).mp c_401
                  refine lv_iconst (v := nI 3) hx hb dX9_fault_121 (by decide) ?_
                  refine ah_iret (v := nI 3) hx hb hr hlocks hR hS dX9_fault_122 ?_
                  have hf9 : fault pa gv = 3 := fl_3 hz2 hkk (show wszP (pa 0 / 4) (pa 1) (gv - 2) by rw [hk9]; show (140 < pa 1 ∨ gv - 2 ≠ pa 1); omega)
                  exact ⟨by rw [hf9], fun _ => rfl, fun q9 => absurd q9 (by rw [hf9]; decide)⟩
                · skip
                  have c_401 : ¬ (140 < (pa 1)) := fun z9 => c_401 ((nI_ltI (by omega) (by omega)).mpr z9)
                  refine lv_aload_n hx hb dX9_fault_110 rfl (lv_at hl 5 rfl) ?_
                  refine ah_get (ci := 8) (v := .int (nI gv)) (C := RX9) (T := TX9) (N := 27) hx hb hE hR hts hinX9 hown fy rfl 23 (by decide) k126 (fun _ h9 => h9) rfl dX9_fault_111 ?_
                  refine lv_iconst (v := nI 2) hx hb dX9_fault_114 (by decide) ?_
                  refine lv_isub hx hb dX9_fault_115 ?_
                  refine ah_toi (v := nI (gv - 2)) (pk_sub (by omega)) ?_
                  refine lv_iload hx hb dX9_fault_116 (lv_at hl 0 rfl) ?_
                  refine lv_icmp_eq (tgt := 123) hx hb dX9_fault_118 (by decide) (fun c_402 => ?_) (fun c_402 => ?_)
                  · skip
                    have c_402 : (gv - 2) = (pa 1) := (nI_eq (by omega) (by omega)).mp c_402
                    have hn3 : ¬ wszP (pa 0 / 4) (pa 1) (gv - 2) := by rw [hk9]; show ¬ (140 < pa 1 ∨ gv - 2 ≠ pa 1); omega
                    refine lv_iload_n hx hb dX9_fault_123 rfl (lv_at hl 2 rfl) ?_
                    refine lv_if_eq (tgt := 211) hx hb dX9_fault_124 (by decide) (fun c_403 => ?_) (fun c_403 => ?_)
                    · skip
                      have hn4 : ¬ (pa 0 % 2 ≠ 0 ∧ (pa 1 < hlim (pa 0 / 4) ∨ hdrBad pa)) := fun q9 => by have z9 := q9.1; rw [hk9] at z9; exact z9 rfl
                      refine lv_iload_n hx hb dX9_fault_211 rfl (lv_at hl 2 rfl) ?_
                      refine lv_if_eq (tgt := 229) hx hb dX9_fault_212 (by decide) (fun c_404 => ?_) (fun c_404 => ?_)
                      · skip
                        refine lv_iconst (v := nI 0) hx hb dX9_fault_229 (by decide) ?_
                        refine lv_istore (lv' := [(6, .int (nI 0)), (5, .int (nI (pa 1))), (4, .int (nI (pa 1))), (3, .int (nI 0)), (2, .int (nI 1)), (1, .int (nI 4)), (0, .ref y)]) hx hb dX9_fault_230 hl (by decide) rfl (fun ls hl => ?_)
                        refine lv_iload_n hx hb dX9_fault_232 rfl (lv_at hl 4 rfl) ?_
                        refine lv_if_eq (tgt := 249) hx hb dX9_fault_233 (by decide) (fun c_405 => ?_) (fun c_405 => ?_)
                        · skip
                          exact absurd c_405 (by decide)
                        · skip
                          refine lv_iload hx hb dX9_fault_236 (lv_at hl 2 rfl) ?_
                          refine lv_iload hx hb dX9_fault_238 (lv_at hl 0 rfl) ?_
                          refine lv_isub hx hb dX9_fault_240 ?_
                          refine ah_toi (v := nI ((pa 1) - 0)) (pk_sub (by omega)) ?_
                          refine lv_iconst (v := nI 2) hx hb dX9_fault_241 (by decide) ?_
                          refine lv_irem hx hb dX9_fault_242 (by decide) ?_
                          refine ah_toi (v := nI (((pa 1) - 0) % 2)) (pk_rem (by omega) (by omega) (by omega)) ?_
                          refine lv_iconst (v := nI 1) hx hb dX9_fault_243 (by decide) ?_
                          refine lv_icmp_ne (tgt := 249) hx hb dX9_fault_244 (by decide) (fun c_406 => ?_) (fun c_406 => ?_)
                          · skip
                            have c_406 : ¬ ((((pa 1) - 0) % 2) = 1) := fun z9 => c_406 ((nI_eq (by omega) (by omega)).mpr z9)
                            have hn5 : ¬ (pa 0 / 4 ≠ 0 ∧ pa 1 % 2 ≠ 0) := fun q9 => by omega
                            refine lv_iload_n hx hb dX9_fault_249 rfl (lv_at hl 4 rfl) ?_
                            refine lv_if_ne (tgt := 271) hx hb dX9_fault_250 (by decide) (fun c_407 => ?_) (fun c_407 => ?_)
                            · skip
                              refine lv_iconst (v := nI 0) hx hb dX9_fault_271 (by decide) ?_
                              refine lv_istore (lv' := [(7, .int (nI 0)), (6, .int (nI 0)), (5, .int (nI (pa 1))), (4, .int (nI (pa 1))), (3, .int (nI 0)), (2, .int (nI 1)), (1, .int (nI 4)), (0, .ref y)]) hx hb dX9_fault_272 hl (by decide) rfl (fun ls hl => ?_)
                              refine lv_bipush (v := nI 7) hx hb dX9_fault_274 (by decide) ?_
                              refine lv_iload hx hb dX9_fault_276 (lv_at hl 3 rfl) ?_
                              refine lv_imul hx hb dX9_fault_278 ?_
                              refine ah_toi (v := nI (7 * (pa 1))) (pk_mul _ _) ?_
                              refine lv_istore (lv' := [(8, .int (nI (7 * (pa 1)))), (7, .int (nI 0)), (6, .int (nI 0)), (5, .int (nI (pa 1))), (4, .int (nI (pa 1))), (3, .int (nI 0)), (2, .int (nI 1)), (1, .int (nI 4)), (0, .ref y)]) hx hb dX9_fault_279 hl (by decide) rfl (fun ls hl => ?_)
                              refine lv_iload hx hb dX9_fault_281 (lv_at hl 0 rfl) ?_
                              refine lv_bipush (v := nI 8) hx hb dX9_fault_283 (by decide) ?_
                              refine lv_iload hx hb dX9_fault_285 (lv_at hl 3 rfl) ?_
                              refine lv_imul hx hb dX9_fault_287 ?_
                              refine ah_toi (v := nI (8 * (pa 1))) (pk_mul _ _) ?_
                              refine lv_icmp_ge (tgt := 323) hx hb dX9_fault_288 (by decide) (fun c_408 => ?_) (fun c_408 => ?_)
                              · skip
                                have c_408 : (8 * (pa 1)) ≤ (7 * (pa 1)) := (nI_leI (by omega) (by omega)).mp c_408
                                refine lv_iload hx hb dX9_fault_323 (lv_at hl 1 rfl) ?_
                                refine lv_if_eq (tgt := 331) hx hb dX9_fault_325 (by decide) (fun c_409 => ?_) (fun c_409 => ?_)
                                · skip
                                  have hf0 : fault pa gv = 0 := fl_0 hz2 hkk hn3 hn4 hn5 (fun q9 => by have z9 := q9.1; rw [hk9] at z9; exact absurd z9 (by decide))
                                  obtain ⟨L, eL⟩ : ∃ L9, L9 = unitsL pa gv := ⟨_, rfl⟩
                                  have eL2 : L = dP pa (pa 1) (pa 1 - 0) 0 := by rw [eL]; unfold unitsL; rw [hk9]; rfl
                                  have hLl : L.length ≤ 160 := by rw [eL]; exact unitsL_len (by omega)
                                  refine lv_aload_n hx hb dX9_fault_331 rfl (lv_at hl 8 rfl) ?_
                                  refine lv_iconst (v := nI 0) hx hb dX9_fault_332 (by decide) ?_
                                  refine ah_put (ci := 8) (v := .int (nI 0)) (ty := .int) (C := RX9) (T := TX9) (N := 27) hx hb hE hR hS hts hinX9 tyX9 tyX9_ok nmX9 hown fy rfl 25 (by decide) k129 (fun _ h9 => h9) rfl (by decide +kernel) rfl rfl (Nat.le_of_ble_eq_true rfl) dX9_fault_333 (fun H locs hR hS => ?_)
                                  obtain ⟨h_410, e_411⟩ : ∃ zz9, zz9 = ah_up h y (20, .inr (8, mF A k0 n rf pm zh lc c pt gv 0)) := ⟨_, rfl⟩
                                  have hR : ah_R G h_410 H := by rw [e_411]; exact hR
                                  have f_412 : h_410 y = some (20, .inr (8, mF A k0 n rf pm zh lc c pt gv 0)) := by rw [e_411]; exact ah_up_s _ _ _
                                  have f_413 : h_410 (A 1) = some (21, .inl (G.2.2.1 0, 128, .inl plT)) := by rw [e_411]; exact ah_keep fa1 fy (by omega)
                                  have f_414 : h_410 (A 2) = some (22, .inl (G.2.2.1 0, 128, .inl esT)) := by rw [e_411]; exact ah_keep fa2 fy (by omega)
                                  have f_415 : h_410 (A 24) = some (44, .inl (G.2.2.1 0, 200, .inl (nA pa))) := by rw [e_411]; exact ah_keep fa24 fy (by omega)
                                  have f_416 : h_410 (A 26) = some (46, .inl (G.2.2.1 0, 200, .inl (nA ua))) := by rw [e_411]; exact ah_keep fa26 fy (by omega)
                                  refine lv_iload hx hb dX9_fault_336 (lv_at hl 2 rfl) ?_
                                  refine lv_istore (lv' := [(8, .int (nI 0)), (7, .int (nI 0)), (6, .int (nI 0)), (5, .int (nI (pa 1))), (4, .int (nI (pa 1))), (3, .int (nI 0)), (2, .int (nI 1)), (1, .int (nI 4)), (0, .ref y)]) hx hb dX9_fault_338 hl (by decide) rfl (fun ls hl => ?_)
                                  have ag0 : agr (fun t => t ≠ 20 ∧ t ≠ 46) h h_410 := by rw [e_411]; exact agr.rf.up fy (by omega)
                                  have L340 : ∀ (N340 : Nat) (c9 : Nat) (a9 : Nat) (u3 : Nat → Nat) (h3 : ah_H) (H : Heap) (locs : List Loc) (ls : Array Slot), pa 1 - a9 < N340 → (a9 ≤ pa 1 + 1) → ((pa 1 - a9) % 2 = 0 ∧ a9 ≤ pa 1) → (c9 ≤ L.length) → (L.drop c9 = dP pa (pa 1) (pa 1 - a9) a9) → (∀ j, j < c9 → u3 j = L.getD j 0) → (agr (fun t => t ≠ 20 ∧ t ≠ 46) h h3) → (h3 y = some (20, .inr (8, mF A k0 n rf pm zh lc c pt gv c9))) → (h3 (A 1) = some (21, .inl (G.2.2.1 0, 128, .inl plT))) → (h3 (A 2) = some (22, .inl (G.2.2.1 0, 128, .inl esT))) → (h3 (A 24) = some (44, .inl (G.2.2.1 0, 200, .inl (nA pa)))) → (h3 (A 26) = some (46, .inl (G.2.2.1 0, 200, .inl (nA u3)))) → ah_R G h3 H → va_S (ah_A G) s.heap H locs → lv_has ls 10 [(8, .int (nI a9)), (0, .ref y), (2, .int (nI 1)), (4, .int (nI (pa 1)))] → W p l e ({ frames := 2, cells := 0, slots := 0, locals := 44 }) s m ([.ref y] : List Value).toArray below meth cd9 H locs 0 0 (MQ below (ah_Qi G (fun v h' => v = nI (fault pa gv) ∧ (fault pa gv ≠ 0 → h' = h) ∧ (fault pa gv = 0 → ∃ u2 : Nat → Nat, h' y = some (20, .inr (8, mF A k0 n rf pm zh lc c pt gv ((unitsL pa gv).length))) ∧ h' (A 26) = some (46, .inl (G.2.2.1 0, 200, .inl (nA u2))) ∧ agr (fun t => t ≠ 20 ∧ t ≠ 46) h h' ∧ ∀ j, j < (unitsL pa gv).length → u2 j = (unitsL pa gv).getD j 0))) ([.ref y] : List Value).toArray s 0 0 (ah_A G)) (F0 m 340 ls []) := by
                                    intro N340
                                    induction N340 with
                                    | zero => intro c9 a9 u3 h3 H locs ls hN; exact absurd hN (Nat.not_lt_zero _)
                                    | succ N340 ih340 =>
                                      intro c9 a9 u3 h3 H locs ls hN340 ha9 hev hcl hd9 hu ag3 fy3 fa13 fa23 fa243 fa263 hR hS hl
                                      refine lv_iload hx hb dX9_fault_340 (lv_at hl 0 rfl) ?_
                                      refine lv_iload hx hb dX9_fault_342 (lv_at hl 3 rfl) ?_
                                      refine lv_icmp_ge (tgt := 505) hx hb dX9_fault_344 (by decide) (fun c_417 => ?_) (fun c_417 => ?_)
                                      · skip
                                        have c_417 : (pa 1) ≤ a9 := (nI_leI (by omega) (by omega)).mp c_417
                                        have hend : c9 = L.length := drop_nil (by rw [hd9, dP_end (by omega)]) hcl
                                        refine lv_iconst (v := nI 0) hx hb dX9_fault_505 (by decide) ?_
                                        refine ah_iret (v := nI 0) hx hb hr hlocks hR hS dX9_fault_506 ?_
                                        exact ⟨by rw [hf0], fun q9 => absurd hf0 q9, fun _ => ⟨u3, by rw [← eL, ← hend]; exact fy3, fa263, ag3, fun j hj => by rw [← eL] at hj ⊢; exact hu j (by omega)⟩⟩
                                      · skip
                                        have c_417 : ¬ ((pa 1) ≤ a9) := fun z9 => c_417 ((nI_leI (by omega) (by omega)).mpr z9)
                                        have hdc := drop_cons (hd9.trans (dP_step (by omega)))
                                        have hpx := hpa (2 + a9); have hpy := hpa (2 + a9 + 1)
                                        refine lv_iload_n hx hb dX9_fault_347 rfl (lv_at hl 2 rfl) ?_
                                        refine lv_if_eq (tgt := 377) hx hb dX9_fault_348 (by decide) (fun c_418 => ?_) (fun c_418 => ?_)
                                        · skip
                                          exact absurd c_418 (by decide)
                                        · skip
                                          refine lv_sipush (v := nI 256) hx hb dX9_fault_351 (by decide) ?_
                                          refine lv_aload_n hx hb dX9_fault_354 rfl (lv_at hl 1 rfl) ?_
                                          refine ah_get (ci := 8) (v := .ref (A 24)) (C := RX9) (T := TX9) (N := 27) hx hb hE hR hts hinX9 hown fy3 rfl 24 (by decide) k58 (fun _ h9 => h9) rfl dX9_fault_355 ?_
                                          refine lv_iconst (v := nI 2) hx hb dX9_fault_358 (by decide) ?_
                                          refine lv_iload hx hb dX9_fault_359 (lv_at hl 0 rfl) ?_
                                          refine lv_iadd hx hb dX9_fault_361 ?_
                                          refine ah_toi (v := nI (2 + a9)) (nI_add _ _) ?_
                                          refine ah_iald (i := (2 + a9)) hx hb hE hR fa243 (by omega) (by omega) dX9_fault_362 ?_
                                          refine ah_toi (v := nI (pa (2 + a9))) rfl ?_
                                          refine lv_imul hx hb dX9_fault_363 ?_
                                          refine ah_toi (v := nI (256 * (pa (2 + a9)))) (pk_mul _ _) ?_
                                          refine lv_aload_n hx hb dX9_fault_364 rfl (lv_at hl 1 rfl) ?_
                                          refine ah_get (ci := 8) (v := .ref (A 24)) (C := RX9) (T := TX9) (N := 27) hx hb hE hR hts hinX9 hown fy3 rfl 24 (by decide) k58 (fun _ h9 => h9) rfl dX9_fault_365 ?_
                                          refine lv_iconst (v := nI 3) hx hb dX9_fault_368 (by decide) ?_
                                          refine lv_iload hx hb dX9_fault_369 (lv_at hl 0 rfl) ?_
                                          refine lv_iadd hx hb dX9_fault_371 ?_
                                          refine ah_toi (v := nI (2 + a9 + 1)) (by rw [nI_add]; congr 1; omega) ?_
                                          refine ah_iald (i := (2 + a9 + 1)) hx hb hE hR fa243 (by omega) (by omega) dX9_fault_372 ?_
                                          refine ah_toi (v := nI (pa (2 + a9 + 1))) rfl ?_
                                          refine lv_iadd hx hb dX9_fault_373 ?_
                                          refine ah_toi (v := nI (pa (2 + a9 + 1) + 256 * pa (2 + a9))) (by rw [nI_add]; congr 1; omega) ?_
                                          refine lv_goto (tgt := 383) hx hb dX9_fault_374 (by decide) ?_
                                          refine lv_istore (lv' := [(9, .int (nI (pa (2 + a9 + 1) + 256 * pa (2 + a9)))), (8, .int (nI a9)), (0, .ref y), (2, .int (nI 1)), (4, .int (nI (pa 1)))]) hx hb dX9_fault_383 hl (by decide) rfl (fun ls hl => ?_)
                                          refine lv_iload_n hx hb dX9_fault_385 rfl (lv_at hl 3 rfl) ?_
                                          refine lv_if_ne (tgt := 455) hx hb dX9_fault_386 (by decide) (fun c_419 => ?_) (fun c_419 => ?_)
                                          · skip
                                            refine lv_iload_n hx hb dX9_fault_455 rfl (lv_at hl 3 rfl) ?_
                                            refine lv_if_ne (tgt := 467) hx hb dX9_fault_456 (by decide) (fun c_420 => ?_) (fun c_420 => ?_)
                                            · skip
                                              refine lv_aload_n hx hb dX9_fault_467 rfl (lv_at hl 2 rfl) ?_
                                              refine ah_get (ci := 8) (v := .ref (A 26)) (C := RX9) (T := TX9) (N := 27) hx hb hE hR hts hinX9 hown fy3 rfl 26 (by decide) k61 (fun _ h9 => h9) rfl dX9_fault_468 ?_
                                              refine lv_aload_n hx hb dX9_fault_471 rfl (lv_at hl 2 rfl) ?_
                                              refine ah_get (ci := 8) (v := .int (nI c9)) (C := RX9) (T := TX9) (N := 27) hx hb hE hR hts hinX9 hown fy3 rfl 25 (by decide) k129 (fun _ h9 => h9) rfl dX9_fault_472 ?_
                                              refine lv_iload hx hb dX9_fault_475 (lv_at hl 0 rfl) ?_
                                              have hcl9 := hdc.1
                                              refine ah_iast (i := c9) hx hb hE hR hS fa263 (by omega) (by omega) dX9_fault_477 (fun H locs hR hS => ?_)
                                              rw [nA_upd] at hR
                                              obtain ⟨h_421, e_422⟩ : ∃ zz9, zz9 = ah_up h3 (A 26) (46, .inl (G.2.2.1 0, 200, .inl (nA (gU u3 c9 (pa (2 + a9 + 1) + 256 * pa (2 + a9)))))) := ⟨_, rfl⟩
                                              have hR : ah_R G h_421 H := by rw [e_422]; exact hR
                                              have f_423 : h_421 y = some (20, .inr (8, mF A k0 n rf pm zh lc c pt gv c9)) := by rw [e_422]; exact ah_keep fy3 fa263 (by omega)
                                              have f_424 : h_421 (A 1) = some (21, .inl (G.2.2.1 0, 128, .inl plT)) := by rw [e_422]; exact ah_keep fa13 fa263 (by omega)
                                              have f_425 : h_421 (A 2) = some (22, .inl (G.2.2.1 0, 128, .inl esT)) := by rw [e_422]; exact ah_keep fa23 fa263 (by omega)
                                              have f_426 : h_421 (A 24) = some (44, .inl (G.2.2.1 0, 200, .inl (nA pa))) := by rw [e_422]; exact ah_keep fa243 fa263 (by omega)
                                              have f_427 : h_421 (A 26) = some (46, .inl (G.2.2.1 0, 200, .inl (nA (gU u3 c9 (pa (2 + a9 + 1) + 256 * pa (2 + a9)))))) := by rw [e_422]; exact ah_up_s _ _ _
                                              refine lv_aload_n hx hb dX9_fault_478 rfl (lv_at hl 2 rfl) ?_
                                              refine lv_dup hx hb dX9_fault_479 rfl ?_
                                              refine ah_get (ci := 8) (v := .int (nI c9)) (C := RX9) (T := TX9) (N := 27) hx hb hE hR hts hinX9 hown f_423 rfl 25 (by decide) k129 (fun _ h9 => h9) rfl dX9_fault_480 ?_
                                              refine lv_iconst (v := nI 1) hx hb dX9_fault_483 (by decide) ?_
                                              refine lv_iadd hx hb dX9_fault_484 ?_
                                              refine ah_toi (v := nI (c9 + 1)) (nI_add _ _) ?_
                                              refine ah_put (ci := 8) (v := .int (nI (c9 + 1))) (ty := .int) (C := RX9) (T := TX9) (N := 27) hx hb hE hR hS hts hinX9 tyX9 tyX9_ok nmX9 hown f_423 rfl 25 (by decide) k129 (fun _ h9 => h9) rfl (by decide +kernel) rfl rfl (Nat.le_of_ble_eq_true rfl) dX9_fault_485 (fun H locs hR hS => ?_)
                                              obtain ⟨h_428, e_429⟩ : ∃ zz9, zz9 = ah_up h_421 y (20, .inr (8, mF A k0 n rf pm zh lc c pt gv (c9 + 1))) := ⟨_, rfl⟩
                                              have hR : ah_R G h_428 H := by rw [e_429]; exact hR
                                              have f_430 : h_428 y = some (20, .inr (8, mF A k0 n rf pm zh lc c pt gv (c9 + 1))) := by rw [e_429]; exact ah_up_s _ _ _
                                              have f_431 : h_428 (A 1) = some (21, .inl (G.2.2.1 0, 128, .inl plT)) := by rw [e_429]; exact ah_keep f_424 f_423 (by omega)
                                              have f_432 : h_428 (A 2) = some (22, .inl (G.2.2.1 0, 128, .inl esT)) := by rw [e_429]; exact ah_keep f_425 f_423 (by omega)
                                              have f_433 : h_428 (A 24) = some (44, .inl (G.2.2.1 0, 200, .inl (nA pa))) := by rw [e_429]; exact ah_keep f_426 f_423 (by omega)
                                              have f_434 : h_428 (A 26) = some (46, .inl (G.2.2.1 0, 200, .inl (nA (gU u3 c9 (pa (2 + a9 + 1) + 256 * pa (2 + a9)))))) := by rw [e_429]; exact ah_keep f_427 f_423 (by omega)
                                              have agq : agr (fun t => t ≠ 20 ∧ t ≠ 46) h3 h_428 := by rw [e_429]; refine agr.up ?_ f_423 (by omega); rw [e_422]; exact agr.rf.up fa263 (by omega)
                                              refine lv_iload hx hb dX9_fault_488 (lv_at hl 1 rfl) ?_
                                              refine lv_iload_n hx hb dX9_fault_490 rfl (lv_at hl 3 rfl) ?_
                                              refine lv_if_eq (tgt := 498) hx hb dX9_fault_491 (by decide) (fun c_435 => ?_) (fun c_435 => ?_)
                                              · skip
                                                exact absurd c_435 (by decide)
                                              · skip
                                                refine lv_iconst (v := nI 2) hx hb dX9_fault_494 (by decide) ?_
                                                refine lv_goto (tgt := 499) hx hb dX9_fault_495 (by decide) ?_
                                                refine lv_iadd hx hb dX9_fault_499 ?_
                                                refine ah_toi (v := nI (a9 + 2)) (nI_add _ _) ?_
                                                refine lv_istore (lv' := [(8, .int (nI (a9 + 2))), (9, .int (nI (pa (2 + a9 + 1) + 256 * pa (2 + a9)))), (0, .ref y), (2, .int (nI 1)), (4, .int (nI (pa 1)))]) hx hb dX9_fault_500 hl (by decide) rfl (fun ls hl => ?_)
                                                refine lv_goto (tgt := 340) hx hb dX9_fault_502 (by decide) ?_
                                                exact ih340  (c9 + 1) (a9 + 2) (gU u3 c9 (pa (2 + a9 + 1) + 256 * pa (2 + a9))) h_428 _ _ ls (by omega) (by omega) (by omega) (by have := hdc.1; omega) hdc.2.2 (gU_list hu hdc.2.1) (ag3.tr agq) f_430 f_431 f_432 f_433 f_434 hR hS (lv_sub hl [0, 2, 3, 4] rfl)
                                            · skip
                                              exact absurd c_420 (by decide)
                                          · skip
                                            exact absurd c_419 (by decide)
                                  exact L340 ((pa 1 - 0) + 1) 0 0 ua h_410 _ _ ls (by omega) (by omega) (by omega) (by omega) (by rw [eL2]; rfl) (fun j hj => absurd hj (Nat.not_lt_zero j)) ag0 f_412 f_413 f_414 f_415 f_416 hR hS (lv_sub hl [0, 8, 6, 4] rfl)
                                · skip
                                  exact absurd (by decide) c_409
                              · skip
                                have c_408 : ¬ ((8 * (pa 1)) ≤ (7 * (pa 1))) := fun z9 => c_408 ((nI_leI (by omega) (by omega)).mpr z9)
                                refine lv_iload_n hx hb dX9_fault_291 rfl (lv_at hl 6 rfl) ?_
                                refine lv_if_ne (tgt := 323) hx hb dX9_fault_292 (by decide) (fun c_436 => ?_) (fun c_436 => ?_)
                                · skip
                                  refine lv_iload hx hb dX9_fault_323 (lv_at hl 1 rfl) ?_
                                  refine lv_if_eq (tgt := 331) hx hb dX9_fault_325 (by decide) (fun c_437 => ?_) (fun c_437 => ?_)
                                  · skip
                                    have hf0 : fault pa gv = 0 := fl_0 hz2 hkk hn3 hn4 hn5 (fun q9 => by have z9 := q9.1; rw [hk9] at z9; exact absurd z9 (by decide))
                                    obtain ⟨L, eL⟩ : ∃ L9, L9 = unitsL pa gv := ⟨_, rfl⟩
                                    have eL2 : L = dP pa (pa 1) (pa 1 - 0) 0 := by rw [eL]; unfold unitsL; rw [hk9]; rfl
                                    have hLl : L.length ≤ 160 := by rw [eL]; exact unitsL_len (by omega)
                                    refine lv_aload_n hx hb dX9_fault_331 rfl (lv_at hl 8 rfl) ?_
                                    refine lv_iconst (v := nI 0) hx hb dX9_fault_332 (by decide) ?_
                                    refine ah_put (ci := 8) (v := .int (nI 0)) (ty := .int) (C := RX9) (T := TX9) (N := 27) hx hb hE hR hS hts hinX9 tyX9 tyX9_ok nmX9 hown fy rfl 25 (by decide) k129 (fun _ h9 => h9) rfl (by decide +kernel) rfl rfl (Nat.le_of_ble_eq_true rfl) dX9_fault_333 (fun H locs hR hS => ?_)
                                    obtain ⟨h_438, e_439⟩ : ∃ zz9, zz9 = ah_up h y (20, .inr (8, mF A k0 n rf pm zh lc c pt gv 0)) := ⟨_, rfl⟩
                                    have hR : ah_R G h_438 H := by rw [e_439]; exact hR
                                    have f_440 : h_438 y = some (20, .inr (8, mF A k0 n rf pm zh lc c pt gv 0)) := by rw [e_439]; exact ah_up_s _ _ _
                                    have f_441 : h_438 (A 1) = some (21, .inl (G.2.2.1 0, 128, .inl plT)) := by rw [e_439]; exact ah_keep fa1 fy (by omega)
                                    have f_442 : h_438 (A 2) = some (22, .inl (G.2.2.1 0, 128, .inl esT)) := by rw [e_439]; exact ah_keep fa2 fy (by omega)
                                    have f_443 : h_438 (A 24) = some (44, .inl (G.2.2.1 0, 200, .inl (nA pa))) := by rw [e_439]; exact ah_keep fa24 fy (by omega)
                                    have f_444 : h_438 (A 26) = some (46, .inl (G.2.2.1 0, 200, .inl (nA ua))) := by rw [e_439]; exact ah_keep fa26 fy (by omega)
                                    refine lv_iload hx hb dX9_fault_336 (lv_at hl 2 rfl) ?_
                                    refine lv_istore (lv' := [(8, .int (nI 0)), (7, .int (nI 0)), (6, .int (nI 0)), (5, .int (nI (pa 1))), (4, .int (nI (pa 1))), (3, .int (nI 0)), (2, .int (nI 1)), (1, .int (nI 4)), (0, .ref y)]) hx hb dX9_fault_338 hl (by decide) rfl (fun ls hl => ?_)
                                    have ag0 : agr (fun t => t ≠ 20 ∧ t ≠ 46) h h_438 := by rw [e_439]; exact agr.rf.up fy (by omega)
                                    have L340 : ∀ (N340 : Nat) (c9 : Nat) (a9 : Nat) (u3 : Nat → Nat) (h3 : ah_H) (H : Heap) (locs : List Loc) (ls : Array Slot), pa 1 - a9 < N340 → (a9 ≤ pa 1 + 1) → ((pa 1 - a9) % 2 = 0 ∧ a9 ≤ pa 1) → (c9 ≤ L.length) → (L.drop c9 = dP pa (pa 1) (pa 1 - a9) a9) → (∀ j, j < c9 → u3 j = L.getD j 0) → (agr (fun t => t ≠ 20 ∧ t ≠ 46) h h3) → (h3 y = some (20, .inr (8, mF A k0 n rf pm zh lc c pt gv c9))) → (h3 (A 1) = some (21, .inl (G.2.2.1 0, 128, .inl plT))) → (h3 (A 2) = some (22, .inl (G.2.2.1 0, 128, .inl esT))) → (h3 (A 24) = some (44, .inl (G.2.2.1 0, 200, .inl (nA pa)))) → (h3 (A 26) = some (46, .inl (G.2.2.1 0, 200, .inl (nA u3)))) → ah_R G h3 H → va_S (ah_A G) s.heap H locs → lv_has ls 10 [(8, .int (nI a9)), (0, .ref y), (2, .int (nI 1)), (4, .int (nI (pa 1)))] → W p l e ({ frames := 2, cells := 0, slots := 0, locals := 44 }) s m ([.ref y] : List Value).toArray below meth cd9 H locs 0 0 (MQ below (ah_Qi G (fun v h' => v = nI (fault pa gv) ∧ (fault pa gv ≠ 0 → h' = h) ∧ (fault pa gv = 0 → ∃ u2 : Nat → Nat, h' y = some (20, .inr (8, mF A k0 n rf pm zh lc c pt gv ((unitsL pa gv).length))) ∧ h' (A 26) = some (46, .inl (G.2.2.1 0, 200, .inl (nA u2))) ∧ agr (fun t => t ≠ 20 ∧ t ≠ 46) h h' ∧ ∀ j, j < (unitsL pa gv).length → u2 j = (unitsL pa gv).getD j 0))) ([.ref y] : List Value).toArray s 0 0 (ah_A G)) (F0 m 340 ls []) := by
                                      intro N340
                                      induction N340 with
                                      | zero => intro c9 a9 u3 h3 H locs ls hN; exact absurd hN (Nat.not_lt_zero _)
                                      | succ N340 ih340 =>
                                        intro c9 a9 u3 h3 H locs ls hN340 ha9 hev hcl hd9 hu ag3 fy3 fa13 fa23 fa243 fa263 hR hS hl
                                        refine lv_iload hx hb dX9_fault_340 (lv_at hl 0 rfl) ?_
                                        refine lv_iload hx hb dX9_fault_342 (lv_at hl 3 rfl) ?_
                                        refine lv_icmp_ge (tgt := 505) hx hb dX9_fault_344 (by decide) (fun c_445 => ?_) (fun c_445 => ?_)
                                        · skip
                                          have c_445 : (pa 1) ≤ a9 := (nI_leI (by omega) (by omega)).mp c_445
                                          have hend : c9 = L.length := drop_nil (by rw [hd9, dP_end (by omega)]) hcl
                                          refine lv_iconst (v := nI 0) hx hb dX9_fault_505 (by decide) ?_
                                          refine ah_iret (v := nI 0) hx hb hr hlocks hR hS dX9_fault_506 ?_
                                          exact ⟨by rw [hf0], fun q9 => absurd hf0 q9, fun _ => ⟨u3, by rw [← eL, ← hend]; exact fy3, fa263, ag3, fun j hj => by rw [← eL] at hj ⊢; exact hu j (by omega)⟩⟩
                                        · skip
                                          have c_445 : ¬ ((pa 1) ≤ a9) := fun z9 => c_445 ((nI_leI (by omega) (by omega)).mpr z9)
                                          have hdc := drop_cons (hd9.trans (dP_step (by omega)))
                                          have hpx := hpa (2 + a9); have hpy := hpa (2 + a9 + 1)
                                          refine lv_iload_n hx hb dX9_fault_347 rfl (lv_at hl 2 rfl) ?_
                                          refine lv_if_eq (tgt := 377) hx hb dX9_fault_348 (by decide) (fun c_446 => ?_) (fun c_446 => ?_)
                                          · skip
                                            exact absurd c_446 (by decide)
                                          · skip
                                            refine lv_sipush (v := nI 256) hx hb dX9_fault_351 (by decide) ?_
                                            refine lv_aload_n hx hb dX9_fault_354 rfl (lv_at hl 1 rfl) ?_
                                            refine ah_get (ci := 8) (v := .ref (A 24)) (C := RX9) (T := TX9) (N := 27) hx hb hE hR hts hinX9 hown fy3 rfl 24 (by decide) k58 (fun _ h9 => h9) rfl dX9_fault_355 ?_
                                            refine lv_iconst (v := nI 2) hx hb dX9_fault_358 (by decide) ?_
                                            refine lv_iload hx hb dX9_fault_359 (lv_at hl 0 rfl) ?_
                                            refine lv_iadd hx hb dX9_fault_361 ?_
                                            refine ah_toi (v := nI (2 + a9)) (nI_add _ _) ?_
                                            refine ah_iald (i := (2 + a9)) hx hb hE hR fa243 (by omega) (by omega) dX9_fault_362 ?_
                                            refine ah_toi (v := nI (pa (2 + a9))) rfl ?_
                                            refine lv_imul hx hb dX9_fault_363 ?_
                                            refine ah_toi (v := nI (256 * (pa (2 + a9)))) (pk_mul _ _) ?_
                                            refine lv_aload_n hx hb dX9_fault_364 rfl (lv_at hl 1 rfl) ?_
                                            refine ah_get (ci := 8) (v := .ref (A 24)) (C := RX9) (T := TX9) (N := 27) hx hb hE hR hts hinX9 hown fy3 rfl 24 (by decide) k58 (fun _ h9 => h9) rfl dX9_fault_365 ?_
                                            refine lv_iconst (v := nI 3) hx hb dX9_fault_368 (by decide) ?_
                                            refine lv_iload hx hb dX9_fault_369 (lv_at hl 0 rfl) ?_
                                            refine lv_iadd hx hb dX9_fault_371 ?_
                                            refine ah_toi (v := nI (2 + a9 + 1)) (by rw [nI_add]; congr 1; omega) ?_
                                            refine ah_iald (i := (2 + a9 + 1)) hx hb hE hR fa243 (by omega) (by omega) dX9_fault_372 ?_
                                            refine ah_toi (v := nI (pa (2 + a9 + 1))) rfl ?_
                                            refine lv_iadd hx hb dX9_fault_373 ?_
                                            refine ah_toi (v := nI (pa (2 + a9 + 1) + 256 * pa (2 + a9))) (by rw [nI_add]; congr 1; omega) ?_
                                            refine lv_goto (tgt := 383) hx hb dX9_fault_374 (by decide) ?_
                                            refine lv_istore (lv' := [(9, .int (nI (pa (2 + a9 + 1) + 256 * pa (2 + a9)))), (8, .int (nI a9)), (0, .ref y), (2, .int (nI 1)), (4, .int (nI (pa 1)))]) hx hb dX9_fault_383 hl (by decide) rfl (fun ls hl => ?_)
                                            refine lv_iload_n hx hb dX9_fault_385 rfl (lv_at hl 3 rfl) ?_
                                            refine lv_if_ne (tgt := 455) hx hb dX9_fault_386 (by decide) (fun c_447 => ?_) (fun c_447 => ?_)
                                            · skip
                                              refine lv_iload_n hx hb dX9_fault_455 rfl (lv_at hl 3 rfl) ?_
                                              refine lv_if_ne (tgt := 467) hx hb dX9_fault_456 (by decide) (fun c_448 => ?_) (fun c_448 => ?_)
                                              · skip
                                                refine lv_aload_n hx hb dX9_fault_467 rfl (lv_at hl 2 rfl) ?_
                                                refine ah_get (ci := 8) (v := .ref (A 26)) (C := RX9) (T := TX9) (N := 27) hx hb hE hR hts hinX9 hown fy3 rfl 26 (by decide) k61 (fun _ h9 => h9) rfl dX9_fault_468 ?_
                                                refine lv_aload_n hx hb dX9_fault_471 rfl (lv_at hl 2 rfl) ?_
                                                refine ah_get (ci := 8) (v := .int (nI c9)) (C := RX9) (T := TX9) (N := 27) hx hb hE hR hts hinX9 hown fy3 rfl 25 (by decide) k129 (fun _ h9 => h9) rfl dX9_fault_472 ?_
                                                refine lv_iload hx hb dX9_fault_475 (lv_at hl 0 rfl) ?_
                                                have hcl9 := hdc.1
                                                refine ah_iast (i := c9) hx hb hE hR hS fa263 (by omega) (by omega) dX9_fault_477 (fun H locs hR hS => ?_)
                                                rw [nA_upd] at hR
                                                obtain ⟨h_449, e_450⟩ : ∃ zz9, zz9 = ah_up h3 (A 26) (46, .inl (G.2.2.1 0, 200, .inl (nA (gU u3 c9 (pa (2 + a9 + 1) + 256 * pa (2 + a9)))))) := ⟨_, rfl⟩
                                                have hR : ah_R G h_449 H := by rw [e_450]; exact hR
                                                have f_451 : h_449 y = some (20, .inr (8, mF A k0 n rf pm zh lc c pt gv c9)) := by rw [e_450]; exact ah_keep fy3 fa263 (by omega)
                                                have f_452 : h_449 (A 1) = some (21, .inl (G.2.2.1 0, 128, .inl plT)) := by rw [e_450]; exact ah_keep fa13 fa263 (by omega)
                                                have f_453 : h_449 (A 2) = some (22, .inl (G.2.2.1 0, 128, .inl esT)) := by rw [e_450]; exact ah_keep fa23 fa263 (by omega)
                                                have f_454 : h_449 (A 24) = some (44, .inl (G.2.2.1 0, 200, .inl (nA pa))) := by rw [e_450]; exact ah_keep fa243 fa263 (by omega)
                                                have f_455 : h_449 (A 26) = some (46, .inl (G.2.2.1 0, 200, .inl (nA (gU u3 c9 (pa (2 + a9 + 1) + 256 * pa (2 + a9)))))) := by rw [e_450]; exact ah_up_s _ _ _
                                                refine lv_aload_n hx hb dX9_fault_478 rfl (lv_at hl 2 rfl) ?_
                                                refine lv_dup hx hb dX9_fault_479 rfl ?_
                                                refine ah_get (ci := 8) (v := .int (nI c9)) (C := RX9) (T := TX9) (N := 27) hx hb hE hR hts hinX9 hown f_451 rfl 25 (by decide) k129 (fun _ h9 => h9) rfl dX9_fault_480 ?_
                                                refine lv_iconst (v := nI 1) hx hb dX9_fault_483 (by decide) ?_
                                                refine lv_iadd hx hb dX9_fault_484 ?_
                                                refine ah_toi (v := nI (c9 + 1)) (nI_add _ _) ?_
                                                refine ah_put (ci := 8) (v := .int (nI (c9 + 1))) (ty := .int) (C := RX9) (T := TX9) (N := 27) hx hb hE hR hS hts hinX9 tyX9 tyX9_ok nmX9 hown f_451 rfl 25 (by decide) k129 (fun _ h9 => h9) rfl (by decide +kernel) rfl rfl (Nat.le_of_ble_eq_true rfl) dX9_fault_485 (fun H locs hR hS => ?_)
                                                obtain ⟨h_456, e_457⟩ : ∃ zz9, zz9 = ah_up h_449 y (20, .inr (8, mF A k0 n rf pm zh lc c pt gv (c9 + 1))) := ⟨_, rfl⟩
                                                have hR : ah_R G h_456 H := by rw [e_457]; exact hR
                                                have f_458 : h_456 y = some (20, .inr (8, mF A k0 n rf pm zh lc c pt gv (c9 + 1))) := by rw [e_457]; exact ah_up_s _ _ _
                                                have f_459 : h_456 (A 1) = some (21, .inl (G.2.2.1 0, 128, .inl plT)) := by rw [e_457]; exact ah_keep f_452 f_451 (by omega)
                                                have f_460 : h_456 (A 2) = some (22, .inl (G.2.2.1 0, 128, .inl esT)) := by rw [e_457]; exact ah_keep f_453 f_451 (by omega)
                                                have f_461 : h_456 (A 24) = some (44, .inl (G.2.2.1 0, 200, .inl (nA pa))) := by rw [e_457]; exact ah_keep f_454 f_451 (by omega)
                                                have f_462 : h_456 (A 26) = some (46, .inl (G.2.2.1 0, 200, .inl (nA (gU u3 c9 (pa (2 + a9 + 1) + 256 * pa (2 + a9)))))) := by rw [e_457]; exact ah_keep f_455 f_451 (by omega)
                                                have agq : agr (fun t => t ≠ 20 ∧ t ≠ 46) h3 h_456 := by rw [e_457]; refine agr.up ?_ f_451 (by omega); rw [e_450]; exact agr.rf.up fa263 (by omega)
                                                refine lv_iload hx hb dX9_fault_488 (lv_at hl 1 rfl) ?_
                                                refine lv_iload_n hx hb dX9_fault_490 rfl (lv_at hl 3 rfl) ?_
                                                refine lv_if_eq (tgt := 498) hx hb dX9_fault_491 (by decide) (fun c_463 => ?_) (fun c_463 => ?_)
                                                · skip
                                                  exact absurd c_463 (by decide)
                                                · skip
                                                  refine lv_iconst (v := nI 2) hx hb dX9_fault_494 (by decide) ?_
                                                  refine lv_goto (tgt := 499) hx hb dX9_fault_495 (by decide) ?_
                                                  refine lv_iadd hx hb dX9_fault_499 ?_
                                                  refine ah_toi (v := nI (a9 + 2)) (nI_add _ _) ?_
                                                  refine lv_istore (lv' := [(8, .int (nI (a9 + 2))), (9, .int (nI (pa (2 + a9 + 1) + 256 * pa (2 + a9)))), (0, .ref y), (2, .int (nI 1)), (4, .int (nI (pa 1)))]) hx hb dX9_fault_500 hl (by decide) rfl (fun ls hl => ?_)
                                                  refine lv_goto (tgt := 340) hx hb dX9_fault_502 (by decide) ?_
                                                  exact ih340  (c9 + 1) (a9 + 2) (gU u3 c9 (pa (2 + a9 + 1) + 256 * pa (2 + a9))) h_456 _ _ ls (by omega) (by omega) (by omega) (by have := hdc.1; omega) hdc.2.2 (gU_list hu hdc.2.1) (ag3.tr agq) f_458 f_459 f_460 f_461 f_462 hR hS (lv_sub hl [0, 2, 3, 4] rfl)
                                              · skip
                                                exact absurd c_448 (by decide)
                                            · skip
                                              exact absurd c_447 (by decide)
                                    exact L340 ((pa 1 - 0) + 1) 0 0 ua h_438 _ _ ls (by omega) (by omega) (by omega) (by omega) (by rw [eL2]; rfl) (fun j hj => absurd hj (Nat.not_lt_zero j)) ag0 f_440 f_441 f_442 f_443 f_444 hR hS (lv_sub hl [0, 8, 6, 4] rfl)
                                  · skip
                                    exact absurd (by decide) c_437
                                · skip
                                  exact absurd c_436 (by decide)
                            · skip
                              exact absurd c_407 (by decide)
                          · skip
                            have c_406 : (((pa 1) - 0) % 2) = 1 := (nI_eq (by omega) (by omega)).mp c_406
                            refine lv_iconst (v := nI 5) hx hb dX9_fault_247 (by decide) ?_
                            refine ah_iret (v := nI 5) hx hb hr hlocks hR hS dX9_fault_248 ?_
                            have hf9 : fault pa gv = 5 := fl_5 hz2 hkk hn3 hn4 ⟨by rw [hk9]; decide, by omega⟩
                            exact ⟨by rw [hf9], fun _ => rfl, fun q9 => absurd q9 (by rw [hf9]; decide)⟩
                      · skip
                        exact absurd (by decide) c_404
                    · skip
                      exact absurd (by decide) c_403
                  · skip
                    have c_402 : ¬ ((gv - 2) = (pa 1)) := fun z9 => c_402 ((nI_eq (by omega) (by omega)).mpr z9)
                    refine lv_iconst (v := nI 3) hx hb dX9_fault_121 (by decide) ?_
                    refine ah_iret (v := nI 3) hx hb hr hlocks hR hS dX9_fault_122 ?_
                    have hf9 : fault pa gv = 3 := fl_3 hz2 hkk (show wszP (pa 0 / 4) (pa 1) (gv - 2) by rw [hk9]; show (140 < pa 1 ∨ gv - 2 ≠ pa 1); omega)
                    exact ⟨by rw [hf9], fun _ => rfl, fun q9 => absurd q9 (by rw [hf9]; decide)⟩
          · skip
            have c_398 : 0 = 1 := (nI_eq (by omega) (by omega)).mp c_398
            exact absurd c_398 (by omega)
      · skip
        have hkk : pa 0 = 0 ∨ pa 0 = 1 ∨ pa 0 = 4 ∨ pa 0 = 5 := by omega
        rw [hk9] at hl
        refine lv_iload_n hx hb dX9_fault_38 rfl (lv_at hl 0 rfl) ?_
        refine lv_iconst (v := nI 3) hx hb dX9_fault_39 (by decide) ?_
        refine lv_icmp_le (tgt := 47) hx hb dX9_fault_40 (by decide) (fun c_464 => ?_) (fun c_464 => ?_)
        · skip
          have c_464 : 5 ≤ 3 := (nI_leI (by omega) (by omega)).mp c_464
          exact absurd c_464 (by omega)
        · skip
          have c_464 : ¬ (5 ≤ 3) := fun z9 => c_464 ((nI_leI (by omega) (by omega)).mpr z9)
          refine lv_iconst (v := nI 1) hx hb dX9_fault_43 (by decide) ?_
          refine lv_goto (tgt := 48) hx hb dX9_fault_44 (by decide) ?_
          refine lv_istore_n (lv' := [(2, .int (nI 1)), (1, .int (nI 5)), (0, .ref y)]) hx hb dX9_fault_48 rfl hl (by decide) rfl (fun ls hl => ?_)
          refine lv_iload_n hx hb dX9_fault_49 rfl (lv_at hl 1 rfl) ?_
          refine lv_iconst (v := nI 1) hx hb dX9_fault_50 (by decide) ?_
          refine lv_iand hx hb dX9_fault_51 ?_
          refine ah_toi (v := nI 1) (by decide) ?_
          refine lv_iconst (v := nI 1) hx hb dX9_fault_52 (by decide) ?_
          refine lv_icmp_ne (tgt := 60) hx hb dX9_fault_53 (by decide) (fun c_465 => ?_) (fun c_465 => ?_)
          · skip
            have c_465 : ¬ (1 = 1) := fun z9 => c_465 ((nI_eq (by omega) (by omega)).mpr z9)
            exact absurd c_465 (by omega)
          · skip
            have c_465 : 1 = 1 := (nI_eq (by omega) (by omega)).mp c_465
            refine lv_iconst (v := nI 1) hx hb dX9_fault_56 (by decide) ?_
            refine lv_goto (tgt := 61) hx hb dX9_fault_57 (by decide) ?_
            refine lv_istore_n (lv' := [(3, .int (nI 1)), (2, .int (nI 1)), (1, .int (nI 5)), (0, .ref y)]) hx hb dX9_fault_61 rfl hl (by decide) rfl (fun ls hl => ?_)
            refine lv_aload_n hx hb dX9_fault_62 rfl (lv_at hl 3 rfl) ?_
            refine ah_get (ci := 8) (v := .ref (A 24)) (C := RX9) (T := TX9) (N := 27) hx hb hE hR hts hinX9 hown fy rfl 24 (by decide) k58 (fun _ h9 => h9) rfl dX9_fault_63 ?_
            refine lv_iconst (v := nI 1) hx hb dX9_fault_66 (by decide) ?_
            refine ah_iald (i := 1) hx hb hE hR fa24 (by omega) (by omega) dX9_fault_67 ?_
            refine ah_toi (v := nI (pa 1)) rfl ?_
            refine lv_istore (lv' := [(4, .int (nI (pa 1))), (3, .int (nI 1)), (2, .int (nI 1)), (1, .int (nI 5)), (0, .ref y)]) hx hb dX9_fault_68 hl (by decide) rfl (fun ls hl => ?_)
            refine lv_iload_n hx hb dX9_fault_70 rfl (lv_at hl 2 rfl) ?_
            refine lv_if_eq (tgt := 79) hx hb dX9_fault_71 (by decide) (fun c_466 => ?_) (fun c_466 => ?_)
            · skip
              exact absurd c_466 (by decide)
            · skip
              refine lv_iload hx hb dX9_fault_74 (lv_at hl 0 rfl) ?_
              refine lv_goto (tgt := 90) hx hb dX9_fault_76 (by decide) ?_
              refine lv_istore (lv' := [(5, .int (nI (pa 1))), (4, .int (nI (pa 1))), (3, .int (nI 1)), (2, .int (nI 1)), (1, .int (nI 5)), (0, .ref y)]) hx hb dX9_fault_90 hl (by decide) rfl (fun ls hl => ?_)
              refine lv_iload hx hb dX9_fault_92 (lv_at hl 1 rfl) ?_
              refine lv_iload_n hx hb dX9_fault_94 rfl (lv_at hl 3 rfl) ?_
              refine lv_if_eq (tgt := 104) hx hb dX9_fault_95 (by decide) (fun c_467 => ?_) (fun c_467 => ?_)
              · skip
                exact absurd c_467 (by decide)
              · skip
                refine lv_sipush (v := nI 140) hx hb dX9_fault_98 (by decide) ?_
                refine lv_goto (tgt := 107) hx hb dX9_fault_101 (by decide) ?_
                refine lv_icmp_gt (tgt := 121) hx hb dX9_fault_107 (by decide) (fun c_468 => ?_) (fun c_468 => ?_)
                · skip
                  have c_468 : 140 < (pa 1) := (nI_ltI (by omega) (by omega)).mp c_468
                  refine lv_iconst (v := nI 3) hx hb dX9_fault_121 (by decide) ?_
                  refine ah_iret (v := nI 3) hx hb hr hlocks hR hS dX9_fault_122 ?_
                  have hf9 : fault pa gv = 3 := fl_3 hz2 hkk (show wszP (pa 0 / 4) (pa 1) (gv - 2) by rw [hk9]; show (140 < pa 1 ∨ gv - 2 ≠ pa 1); omega)
                  exact ⟨by rw [hf9], fun _ => rfl, fun q9 => absurd q9 (by rw [hf9]; decide)⟩
                · skip
                  have c_468 : ¬ (140 < (pa 1)) := fun z9 => c_468 ((nI_ltI (by omega) (by omega)).mpr z9)
                  refine lv_aload_n hx hb dX9_fault_110 rfl (lv_at hl 5 rfl) ?_
                  refine ah_get (ci := 8) (v := .int (nI gv)) (C := RX9) (T := TX9) (N := 27) hx hb hE hR hts hinX9 hown fy rfl 23 (by decide) k126 (fun _ h9 => h9) rfl dX9_fault_111 ?_
                  refine lv_iconst (v := nI 2) hx hb dX9_fault_114 (by decide) ?_
                  refine lv_isub hx hb dX9_fault_115 ?_
                  refine ah_toi (v := nI (gv - 2)) (pk_sub (by omega)) ?_
                  refine lv_iload hx hb dX9_fault_116 (lv_at hl 0 rfl) ?_
                  refine lv_icmp_eq (tgt := 123) hx hb dX9_fault_118 (by decide) (fun c_469 => ?_) (fun c_469 => ?_)
                  · skip
                    have c_469 : (gv - 2) = (pa 1) := (nI_eq (by omega) (by omega)).mp c_469
                    have hn3 : ¬ wszP (pa 0 / 4) (pa 1) (gv - 2) := by rw [hk9]; show ¬ (140 < pa 1 ∨ gv - 2 ≠ pa 1); omega
                    refine lv_iload_n hx hb dX9_fault_123 rfl (lv_at hl 2 rfl) ?_
                    refine lv_if_eq (tgt := 211) hx hb dX9_fault_124 (by decide) (fun c_470 => ?_) (fun c_470 => ?_)
                    · skip
                      exact absurd c_470 (by decide)
                    · skip
                      refine lv_iload hx hb dX9_fault_127 (lv_at hl 1 rfl) ?_
                      refine lv_iload_n hx hb dX9_fault_129 rfl (lv_at hl 3 rfl) ?_
                      refine lv_if_eq (tgt := 138) hx hb dX9_fault_130 (by decide) (fun c_471 => ?_) (fun c_471 => ?_)
                      · skip
                        exact absurd c_471 (by decide)
                      · skip
                        refine lv_bipush (v := nI 6) hx hb dX9_fault_133 (by decide) ?_
                        refine lv_goto (tgt := 140) hx hb dX9_fault_135 (by decide) ?_
                        refine lv_icmp_lt (tgt := 209) hx hb dX9_fault_140 (by decide) (fun c_472 => ?_) (fun c_472 => ?_)
                        · skip
                          have c_472 : (pa 1) < 6 := (nI_ltI (by omega) (by omega)).mp c_472
                          refine lv_iconst (v := nI 4) hx hb dX9_fault_209 (by decide) ?_
                          refine ah_iret (v := nI 4) hx hb hr hlocks hR hS dX9_fault_210 ?_
                          have hf9 : fault pa gv = 4 := fl_4 hz2 hkk hn3 ⟨by rw [hk9]; decide, by rw [hk9]; show pa 1 < 6 ∨ hdrBad pa; unfold hdrBad; omega⟩
                          exact ⟨by rw [hf9], fun _ => rfl, fun q9 => absurd q9 (by rw [hf9]; decide)⟩
                        · skip
                          have c_472 : ¬ ((pa 1) < 6) := fun z9 => c_472 ((nI_ltI (by omega) (by omega)).mpr z9)
                          refine lv_aload_n hx hb dX9_fault_143 rfl (lv_at hl 5 rfl) ?_
                          refine ah_get (ci := 8) (v := .ref (A 24)) (C := RX9) (T := TX9) (N := 27) hx hb hE hR hts hinX9 hown fy rfl 24 (by decide) k58 (fun _ h9 => h9) rfl dX9_fault_144 ?_
                          refine lv_iconst (v := nI 2) hx hb dX9_fault_147 (by decide) ?_
                          refine ah_iald (i := 2) hx hb hE hR fa24 (by omega) (by omega) dX9_fault_148 ?_
                          refine ah_toi (v := nI (pa 2)) rfl ?_
                          refine lv_iconst (v := nI 5) hx hb dX9_fault_149 (by decide) ?_
                          refine lv_icmp_ne (tgt := 209) hx hb dX9_fault_150 (by decide) (fun c_473 => ?_) (fun c_473 => ?_)
                          · skip
                            have c_473 : ¬ ((pa 2) = 5) := fun z9 => c_473 ((nI_eq (by omega) (by omega)).mpr z9)
                            refine lv_iconst (v := nI 4) hx hb dX9_fault_209 (by decide) ?_
                            refine ah_iret (v := nI 4) hx hb hr hlocks hR hS dX9_fault_210 ?_
                            have hf9 : fault pa gv = 4 := fl_4 hz2 hkk hn3 ⟨by rw [hk9]; decide, by rw [hk9]; show pa 1 < 6 ∨ hdrBad pa; unfold hdrBad; omega⟩
                            exact ⟨by rw [hf9], fun _ => rfl, fun q9 => absurd q9 (by rw [hf9]; decide)⟩
                          · skip
                            have c_473 : (pa 2) = 5 := (nI_eq (by omega) (by omega)).mp c_473
                            refine lv_aload_n hx hb dX9_fault_153 rfl (lv_at hl 5 rfl) ?_
                            refine ah_get (ci := 8) (v := .ref (A 24)) (C := RX9) (T := TX9) (N := 27) hx hb hE hR hts hinX9 hown fy rfl 24 (by decide) k58 (fun _ h9 => h9) rfl dX9_fault_154 ?_
                            refine lv_iconst (v := nI 3) hx hb dX9_fault_157 (by decide) ?_
                            refine ah_iald (i := 3) hx hb hE hR fa24 (by omega) (by omega) dX9_fault_158 ?_
                            refine ah_toi (v := nI (pa 3)) rfl ?_
                            refine lv_if_ne (tgt := 209) hx hb dX9_fault_159 (by decide) (fun c_474 => ?_) (fun c_474 => ?_)
                            · skip
                              have c_474 : ¬ ((pa 3) = 0) := fun z9 => c_474 ((zi_eq (by omega)).mpr z9)
                              refine lv_iconst (v := nI 4) hx hb dX9_fault_209 (by decide) ?_
                              refine ah_iret (v := nI 4) hx hb hr hlocks hR hS dX9_fault_210 ?_
                              have hf9 : fault pa gv = 4 := fl_4 hz2 hkk hn3 ⟨by rw [hk9]; decide, by rw [hk9]; show pa 1 < 6 ∨ hdrBad pa; unfold hdrBad; omega⟩
                              exact ⟨by rw [hf9], fun _ => rfl, fun q9 => absurd q9 (by rw [hf9]; decide)⟩
                            · skip
                              have c_474 : (pa 3) = 0 := (zi_eq (by omega)).mp c_474
                              refine lv_aload_n hx hb dX9_fault_162 rfl (lv_at hl 5 rfl) ?_
                              refine ah_get (ci := 8) (v := .ref (A 24)) (C := RX9) (T := TX9) (N := 27) hx hb hE hR hts hinX9 hown fy rfl 24 (by decide) k58 (fun _ h9 => h9) rfl dX9_fault_163 ?_
                              refine lv_iconst (v := nI 4) hx hb dX9_fault_166 (by decide) ?_
                              refine ah_iald (i := 4) hx hb hE hR fa24 (by omega) (by omega) dX9_fault_167 ?_
                              refine ah_toi (v := nI (pa 4)) rfl ?_
                              refine lv_iconst (v := nI 3) hx hb dX9_fault_168 (by decide) ?_
                              refine lv_icmp_ne (tgt := 209) hx hb dX9_fault_169 (by decide) (fun c_475 => ?_) (fun c_475 => ?_)
                              · skip
                                have c_475 : ¬ ((pa 4) = 3) := fun z9 => c_475 ((nI_eq (by omega) (by omega)).mpr z9)
                                refine lv_iconst (v := nI 4) hx hb dX9_fault_209 (by decide) ?_
                                refine ah_iret (v := nI 4) hx hb hr hlocks hR hS dX9_fault_210 ?_
                                have hf9 : fault pa gv = 4 := fl_4 hz2 hkk hn3 ⟨by rw [hk9]; decide, by rw [hk9]; show pa 1 < 6 ∨ hdrBad pa; unfold hdrBad; omega⟩
                                exact ⟨by rw [hf9], fun _ => rfl, fun q9 => absurd q9 (by rw [hf9]; decide)⟩
                              · skip
                                have c_475 : (pa 4) = 3 := (nI_eq (by omega) (by omega)).mp c_475
                                refine lv_aload_n hx hb dX9_fault_172 rfl (lv_at hl 5 rfl) ?_
                                refine ah_get (ci := 8) (v := .ref (A 24)) (C := RX9) (T := TX9) (N := 27) hx hb hE hR hts hinX9 hown fy rfl 24 (by decide) k58 (fun _ h9 => h9) rfl dX9_fault_173 ?_
                                refine lv_bipush (v := nI 6) hx hb dX9_fault_176 (by decide) ?_
                                refine ah_iald (i := 6) hx hb hE hR fa24 (by omega) (by omega) dX9_fault_178 ?_
                                refine ah_toi (v := nI (pa 6)) rfl ?_
                                refine lv_if_eq (tgt := 209) hx hb dX9_fault_179 (by decide) (fun c_476 => ?_) (fun c_476 => ?_)
                                · skip
                                  have c_476 : (pa 6) = 0 := (zi_eq (by omega)).mp c_476
                                  refine lv_iconst (v := nI 4) hx hb dX9_fault_209 (by decide) ?_
                                  refine ah_iret (v := nI 4) hx hb hr hlocks hR hS dX9_fault_210 ?_
                                  have hf9 : fault pa gv = 4 := fl_4 hz2 hkk hn3 ⟨by rw [hk9]; decide, by rw [hk9]; show pa 1 < 6 ∨ hdrBad pa; unfold hdrBad; omega⟩
                                  exact ⟨by rw [hf9], fun _ => rfl, fun q9 => absurd q9 (by rw [hf9]; decide)⟩
                                · skip
                                  have c_476 : ¬ ((pa 6) = 0) := fun z9 => c_476 ((zi_eq (by omega)).mpr z9)
                                  refine lv_aload_n hx hb dX9_fault_182 rfl (lv_at hl 5 rfl) ?_
                                  refine ah_get (ci := 8) (v := .ref (A 24)) (C := RX9) (T := TX9) (N := 27) hx hb hE hR hts hinX9 hown fy rfl 24 (by decide) k58 (fun _ h9 => h9) rfl dX9_fault_183 ?_
                                  refine lv_bipush (v := nI 7) hx hb dX9_fault_186 (by decide) ?_
                                  refine ah_iald (i := 7) hx hb hE hR fa24 (by omega) (by omega) dX9_fault_188 ?_
                                  refine ah_toi (v := nI (pa 7)) rfl ?_
                                  refine lv_if_eq (tgt := 209) hx hb dX9_fault_189 (by decide) (fun c_477 => ?_) (fun c_477 => ?_)
                                  · skip
                                    have c_477 : (pa 7) = 0 := (zi_eq (by omega)).mp c_477
                                    refine lv_iconst (v := nI 4) hx hb dX9_fault_209 (by decide) ?_
                                    refine ah_iret (v := nI 4) hx hb hr hlocks hR hS dX9_fault_210 ?_
                                    have hf9 : fault pa gv = 4 := fl_4 hz2 hkk hn3 ⟨by rw [hk9]; decide, by rw [hk9]; show pa 1 < 6 ∨ hdrBad pa; unfold hdrBad; omega⟩
                                    exact ⟨by rw [hf9], fun _ => rfl, fun q9 => absurd q9 (by rw [hf9]; decide)⟩
                                  · skip
                                    have c_477 : ¬ ((pa 7) = 0) := fun z9 => c_477 ((zi_eq (by omega)).mpr z9)
                                    refine lv_aload_n hx hb dX9_fault_192 rfl (lv_at hl 5 rfl) ?_
                                    refine ah_get (ci := 8) (v := .ref (A 24)) (C := RX9) (T := TX9) (N := 27) hx hb hE hR hts hinX9 hown fy rfl 24 (by decide) k58 (fun _ h9 => h9) rfl dX9_fault_193 ?_
                                    refine lv_bipush (v := nI 7) hx hb dX9_fault_196 (by decide) ?_
                                    refine ah_iald (i := 7) hx hb hE hR fa24 (by omega) (by omega) dX9_fault_198 ?_
                                    refine ah_toi (v := nI (pa 7)) rfl ?_
                                    refine lv_aload_n hx hb dX9_fault_199 rfl (lv_at hl 5 rfl) ?_
                                    refine ah_get (ci := 8) (v := .ref (A 24)) (C := RX9) (T := TX9) (N := 27) hx hb hE hR hts hinX9 hown fy rfl 24 (by decide) k58 (fun _ h9 => h9) rfl dX9_fault_200 ?_
                                    refine lv_bipush (v := nI 6) hx hb dX9_fault_203 (by decide) ?_
                                    refine ah_iald (i := 6) hx hb hE hR fa24 (by omega) (by omega) dX9_fault_205 ?_
                                    refine ah_toi (v := nI (pa 6)) rfl ?_
                                    refine lv_icmp_le (tgt := 211) hx hb dX9_fault_206 (by decide) (fun c_478 => ?_) (fun c_478 => ?_)
                                    · skip
                                      have c_478 : (pa 7) ≤ (pa 6) := (nI_leI (by omega) (by omega)).mp c_478
                                      have hn4 : ¬ (pa 0 % 2 ≠ 0 ∧ (pa 1 < hlim (pa 0 / 4) ∨ hdrBad pa)) := fun q9 => by have z9 := q9.2; rw [hk9] at z9; have z8 : pa 1 < 6 ∨ hdrBad pa := z9; unfold hdrBad at z8; omega
                                      refine lv_iload_n hx hb dX9_fault_211 rfl (lv_at hl 2 rfl) ?_
                                      refine lv_if_eq (tgt := 229) hx hb dX9_fault_212 (by decide) (fun c_479 => ?_) (fun c_479 => ?_)
                                      · skip
                                        exact absurd c_479 (by decide)
                                      · skip
                                        refine lv_iload_n hx hb dX9_fault_215 rfl (lv_at hl 3 rfl) ?_
                                        refine lv_if_eq (tgt := 224) hx hb dX9_fault_216 (by decide) (fun c_480 => ?_) (fun c_480 => ?_)
                                        · skip
                                          exact absurd c_480 (by decide)
                                        · skip
                                          refine lv_bipush (v := nI 6) hx hb dX9_fault_219 (by decide) ?_
                                          refine lv_goto (tgt := 230) hx hb dX9_fault_221 (by decide) ?_
                                          refine lv_istore (lv' := [(6, .int (nI 6)), (5, .int (nI (pa 1))), (4, .int (nI (pa 1))), (3, .int (nI 1)), (2, .int (nI 1)), (1, .int (nI 5)), (0, .ref y)]) hx hb dX9_fault_230 hl (by decide) rfl (fun ls hl => ?_)
                                          refine lv_iload_n hx hb dX9_fault_232 rfl (lv_at hl 4 rfl) ?_
                                          refine lv_if_eq (tgt := 249) hx hb dX9_fault_233 (by decide) (fun c_481 => ?_) (fun c_481 => ?_)
                                          · skip
                                            exact absurd c_481 (by decide)
                                          · skip
                                            refine lv_iload hx hb dX9_fault_236 (lv_at hl 2 rfl) ?_
                                            refine lv_iload hx hb dX9_fault_238 (lv_at hl 0 rfl) ?_
                                            refine lv_isub hx hb dX9_fault_240 ?_
                                            refine ah_toi (v := nI ((pa 1) - 6)) (pk_sub (by omega)) ?_
                                            refine lv_iconst (v := nI 2) hx hb dX9_fault_241 (by decide) ?_
                                            refine lv_irem hx hb dX9_fault_242 (by decide) ?_
                                            refine ah_toi (v := nI (((pa 1) - 6) % 2)) (pk_rem (by omega) (by omega) (by omega)) ?_
                                            refine lv_iconst (v := nI 1) hx hb dX9_fault_243 (by decide) ?_
                                            refine lv_icmp_ne (tgt := 249) hx hb dX9_fault_244 (by decide) (fun c_482 => ?_) (fun c_482 => ?_)
                                            · skip
                                              have c_482 : ¬ ((((pa 1) - 6) % 2) = 1) := fun z9 => c_482 ((nI_eq (by omega) (by omega)).mpr z9)
                                              have hn5 : ¬ (pa 0 / 4 ≠ 0 ∧ pa 1 % 2 ≠ 0) := fun q9 => by omega
                                              refine lv_iload_n hx hb dX9_fault_249 rfl (lv_at hl 4 rfl) ?_
                                              refine lv_if_ne (tgt := 271) hx hb dX9_fault_250 (by decide) (fun c_483 => ?_) (fun c_483 => ?_)
                                              · skip
                                                refine lv_iconst (v := nI 0) hx hb dX9_fault_271 (by decide) ?_
                                                refine lv_istore (lv' := [(7, .int (nI 0)), (6, .int (nI 6)), (5, .int (nI (pa 1))), (4, .int (nI (pa 1))), (3, .int (nI 1)), (2, .int (nI 1)), (1, .int (nI 5)), (0, .ref y)]) hx hb dX9_fault_272 hl (by decide) rfl (fun ls hl => ?_)
                                                refine lv_bipush (v := nI 7) hx hb dX9_fault_274 (by decide) ?_
                                                refine lv_iload hx hb dX9_fault_276 (lv_at hl 3 rfl) ?_
                                                refine lv_imul hx hb dX9_fault_278 ?_
                                                refine ah_toi (v := nI (7 * (pa 1))) (pk_mul _ _) ?_
                                                refine lv_istore (lv' := [(8, .int (nI (7 * (pa 1)))), (7, .int (nI 0)), (6, .int (nI 6)), (5, .int (nI (pa 1))), (4, .int (nI (pa 1))), (3, .int (nI 1)), (2, .int (nI 1)), (1, .int (nI 5)), (0, .ref y)]) hx hb dX9_fault_279 hl (by decide) rfl (fun ls hl => ?_)
                                                refine lv_iload hx hb dX9_fault_281 (lv_at hl 0 rfl) ?_
                                                refine lv_bipush (v := nI 8) hx hb dX9_fault_283 (by decide) ?_
                                                refine lv_iload hx hb dX9_fault_285 (lv_at hl 3 rfl) ?_
                                                refine lv_imul hx hb dX9_fault_287 ?_
                                                refine ah_toi (v := nI (8 * (pa 1))) (pk_mul _ _) ?_
                                                refine lv_icmp_ge (tgt := 323) hx hb dX9_fault_288 (by decide) (fun c_484 => ?_) (fun c_484 => ?_)
                                                · skip
                                                  have c_484 : (8 * (pa 1)) ≤ (7 * (pa 1)) := (nI_leI (by omega) (by omega)).mp c_484
                                                  refine lv_iload hx hb dX9_fault_323 (lv_at hl 1 rfl) ?_
                                                  refine lv_if_eq (tgt := 331) hx hb dX9_fault_325 (by decide) (fun c_485 => ?_) (fun c_485 => ?_)
                                                  · skip
                                                    have hf0 : fault pa gv = 0 := fl_0 hz2 hkk hn3 hn4 hn5 (fun q9 => by have z9 := q9.1; rw [hk9] at z9; exact absurd z9 (by decide))
                                                    obtain ⟨L, eL⟩ : ∃ L9, L9 = unitsL pa gv := ⟨_, rfl⟩
                                                    have eL2 : L = dP pa (pa 1) (pa 1 - 6) 6 := by rw [eL]; unfold unitsL; rw [hk9]; rfl
                                                    have hLl : L.length ≤ 160 := by rw [eL]; exact unitsL_len (by omega)
                                                    refine lv_aload_n hx hb dX9_fault_331 rfl (lv_at hl 8 rfl) ?_
                                                    refine lv_iconst (v := nI 0) hx hb dX9_fault_332 (by decide) ?_
                                                    refine ah_put (ci := 8) (v := .int (nI 0)) (ty := .int) (C := RX9) (T := TX9) (N := 27) hx hb hE hR hS hts hinX9 tyX9 tyX9_ok nmX9 hown fy rfl 25 (by decide) k129 (fun _ h9 => h9) rfl (by decide +kernel) rfl rfl (Nat.le_of_ble_eq_true rfl) dX9_fault_333 (fun H locs hR hS => ?_)
                                                    obtain ⟨h_486, e_487⟩ : ∃ zz9, zz9 = ah_up h y (20, .inr (8, mF A k0 n rf pm zh lc c pt gv 0)) := ⟨_, rfl⟩
                                                    have hR : ah_R G h_486 H := by rw [e_487]; exact hR
                                                    have f_488 : h_486 y = some (20, .inr (8, mF A k0 n rf pm zh lc c pt gv 0)) := by rw [e_487]; exact ah_up_s _ _ _
                                                    have f_489 : h_486 (A 1) = some (21, .inl (G.2.2.1 0, 128, .inl plT)) := by rw [e_487]; exact ah_keep fa1 fy (by omega)
                                                    have f_490 : h_486 (A 2) = some (22, .inl (G.2.2.1 0, 128, .inl esT)) := by rw [e_487]; exact ah_keep fa2 fy (by omega)
                                                    have f_491 : h_486 (A 24) = some (44, .inl (G.2.2.1 0, 200, .inl (nA pa))) := by rw [e_487]; exact ah_keep fa24 fy (by omega)
                                                    have f_492 : h_486 (A 26) = some (46, .inl (G.2.2.1 0, 200, .inl (nA ua))) := by rw [e_487]; exact ah_keep fa26 fy (by omega)
                                                    refine lv_iload hx hb dX9_fault_336 (lv_at hl 2 rfl) ?_
                                                    refine lv_istore (lv' := [(8, .int (nI 6)), (7, .int (nI 0)), (6, .int (nI 6)), (5, .int (nI (pa 1))), (4, .int (nI (pa 1))), (3, .int (nI 1)), (2, .int (nI 1)), (1, .int (nI 5)), (0, .ref y)]) hx hb dX9_fault_338 hl (by decide) rfl (fun ls hl => ?_)
                                                    have ag0 : agr (fun t => t ≠ 20 ∧ t ≠ 46) h h_486 := by rw [e_487]; exact agr.rf.up fy (by omega)
                                                    have L340 : ∀ (N340 : Nat) (c9 : Nat) (a9 : Nat) (u3 : Nat → Nat) (h3 : ah_H) (H : Heap) (locs : List Loc) (ls : Array Slot), pa 1 - a9 < N340 → (a9 ≤ pa 1 + 1) → ((pa 1 - a9) % 2 = 0 ∧ a9 ≤ pa 1) → (c9 ≤ L.length) → (L.drop c9 = dP pa (pa 1) (pa 1 - a9) a9) → (∀ j, j < c9 → u3 j = L.getD j 0) → (agr (fun t => t ≠ 20 ∧ t ≠ 46) h h3) → (h3 y = some (20, .inr (8, mF A k0 n rf pm zh lc c pt gv c9))) → (h3 (A 1) = some (21, .inl (G.2.2.1 0, 128, .inl plT))) → (h3 (A 2) = some (22, .inl (G.2.2.1 0, 128, .inl esT))) → (h3 (A 24) = some (44, .inl (G.2.2.1 0, 200, .inl (nA pa)))) → (h3 (A 26) = some (46, .inl (G.2.2.1 0, 200, .inl (nA u3)))) → ah_R G h3 H → va_S (ah_A G) s.heap H locs → lv_has ls 10 [(8, .int (nI a9)), (0, .ref y), (2, .int (nI 1)), (4, .int (nI (pa 1)))] → W p l e ({ frames := 2, cells := 0, slots := 0, locals := 44 }) s m ([.ref y] : List Value).toArray below meth cd9 H locs 0 0 (MQ below (ah_Qi G (fun v h' => v = nI (fault pa gv) ∧ (fault pa gv ≠ 0 → h' = h) ∧ (fault pa gv = 0 → ∃ u2 : Nat → Nat, h' y = some (20, .inr (8, mF A k0 n rf pm zh lc c pt gv ((unitsL pa gv).length))) ∧ h' (A 26) = some (46, .inl (G.2.2.1 0, 200, .inl (nA u2))) ∧ agr (fun t => t ≠ 20 ∧ t ≠ 46) h h' ∧ ∀ j, j < (unitsL pa gv).length → u2 j = (unitsL pa gv).getD j 0))) ([.ref y] : List Value).toArray s 0 0 (ah_A G)) (F0 m 340 ls []) := by
                                                      intro N340
                                                      induction N340 with
                                                      | zero => intro c9 a9 u3 h3 H locs ls hN; exact absurd hN (Nat.not_lt_zero _)
                                                      | succ N340 ih340 =>
                                                        intro c9 a9 u3 h3 H locs ls hN340 ha9 hev hcl hd9 hu ag3 fy3 fa13 fa23 fa243 fa263 hR hS hl
                                                        refine lv_iload hx hb dX9_fault_340 (lv_at hl 0 rfl) ?_
                                                        refine lv_iload hx hb dX9_fault_342 (lv_at hl 3 rfl) ?_
                                                        refine lv_icmp_ge (tgt := 505) hx hb dX9_fault_344 (by decide) (fun c_493 => ?_) (fun c_493 => ?_)
                                                        · skip
                                                          have c_493 : (pa 1) ≤ a9 := (nI_leI (by omega) (by omega)).mp c_493
                                                          have hend : c9 = L.length := drop_nil (by rw [hd9, dP_end (by omega)]) hcl
                                                          refine lv_iconst (v := nI 0) hx hb dX9_fault_505 (by decide) ?_
                                                          refine ah_iret (v := nI 0) hx hb hr hlocks hR hS dX9_fault_506 ?_
                                                          exact ⟨by rw [hf0], fun q9 => absurd hf0 q9, fun _ => ⟨u3, by rw [← eL, ← hend]; exact fy3, fa263, ag3, fun j hj => by rw [← eL] at hj ⊢; exact hu j (by omega)⟩⟩
                                                        · skip
                                                          have c_493 : ¬ ((pa 1) ≤ a9) := fun z9 => c_493 ((nI_leI (by omega) (by omega)).mpr z9)
                                                          have hdc := drop_cons (hd9.trans (dP_step (by omega)))
                                                          have hpx := hpa (2 + a9); have hpy := hpa (2 + a9 + 1)
                                                          refine lv_iload_n hx hb dX9_fault_347 rfl (lv_at hl 2 rfl) ?_
                                                          refine lv_if_eq (tgt := 377) hx hb dX9_fault_348 (by decide) (fun c_494 => ?_) (fun c_494 => ?_)
                                                          · skip
                                                            exact absurd c_494 (by decide)
                                                          · skip
                                                            refine lv_sipush (v := nI 256) hx hb dX9_fault_351 (by decide) ?_
                                                            refine lv_aload_n hx hb dX9_fault_354 rfl (lv_at hl 1 rfl) ?_
                                                            refine ah_get (ci := 8) (v := .ref (A 24)) (C := RX9) (T := TX9) (N := 27) hx hb hE hR hts hinX9 hown fy3 rfl 24 (by decide) k58 (fun _ h9 => h9) rfl dX9_fault_355 ?_
                                                            refine lv_iconst (v := nI 2) hx hb dX9_fault_358 (by decide) ?_
                                                            refine lv_iload hx hb dX9_fault_359 (lv_at hl 0 rfl) ?_
                                                            refine lv_iadd hx hb dX9_fault_361 ?_
                                                            refine ah_toi (v := nI (2 + a9)) (nI_add _ _) ?_
                                                            refine ah_iald (i := (2 + a9)) hx hb hE hR fa243 (by omega) (by omega) dX9_fault_362 ?_
                                                            refine ah_toi (v := nI (pa (2 + a9))) rfl ?_
                                                            refine lv_imul hx hb dX9_fault_363 ?_
                                                            refine ah_toi (v := nI (256 * (pa (2 + a9)))) (pk_mul _ _) ?_
                                                            refine lv_aload_n hx hb dX9_fault_364 rfl (lv_at hl 1 rfl) ?_
                                                            refine ah_get (ci := 8) (v := .ref (A 24)) (C := RX9) (T := TX9) (N := 27) hx hb hE hR hts hinX9 hown fy3 rfl 24 (by decide) k58 (fun _ h9 => h9) rfl dX9_fault_365 ?_
                                                            refine lv_iconst (v := nI 3) hx hb dX9_fault_368 (by decide) ?_
                                                            refine lv_iload hx hb dX9_fault_369 (lv_at hl 0 rfl) ?_
                                                            refine lv_iadd hx hb dX9_fault_371 ?_
                                                            refine ah_toi (v := nI (2 + a9 + 1)) (by rw [nI_add]; congr 1; omega) ?_
                                                            refine ah_iald (i := (2 + a9 + 1)) hx hb hE hR fa243 (by omega) (by omega) dX9_fault_372 ?_
                                                            refine ah_toi (v := nI (pa (2 + a9 + 1))) rfl ?_
                                                            refine lv_iadd hx hb dX9_fault_373 ?_
                                                            refine ah_toi (v := nI (pa (2 + a9 + 1) + 256 * pa (2 + a9))) (by rw [nI_add]; congr 1; omega) ?_
                                                            refine lv_goto (tgt := 383) hx hb dX9_fault_374 (by decide) ?_
                                                            refine lv_istore (lv' := [(9, .int (nI (pa (2 + a9 + 1) + 256 * pa (2 + a9)))), (8, .int (nI a9)), (0, .ref y), (2, .int (nI 1)), (4, .int (nI (pa 1)))]) hx hb dX9_fault_383 hl (by decide) rfl (fun ls hl => ?_)
                                                            refine lv_iload_n hx hb dX9_fault_385 rfl (lv_at hl 3 rfl) ?_
                                                            refine lv_if_ne (tgt := 455) hx hb dX9_fault_386 (by decide) (fun c_495 => ?_) (fun c_495 => ?_)
                                                            · skip
                                                              refine lv_iload_n hx hb dX9_fault_455 rfl (lv_at hl 3 rfl) ?_
                                                              refine lv_if_ne (tgt := 467) hx hb dX9_fault_456 (by decide) (fun c_496 => ?_) (fun c_496 => ?_)
                                                              · skip
                                                                refine lv_aload_n hx hb dX9_fault_467 rfl (lv_at hl 2 rfl) ?_
                                                                refine ah_get (ci := 8) (v := .ref (A 26)) (C := RX9) (T := TX9) (N := 27) hx hb hE hR hts hinX9 hown fy3 rfl 26 (by decide) k61 (fun _ h9 => h9) rfl dX9_fault_468 ?_
                                                                refine lv_aload_n hx hb dX9_fault_471 rfl (lv_at hl 2 rfl) ?_
                                                                refine ah_get (ci := 8) (v := .int (nI c9)) (C := RX9) (T := TX9) (N := 27) hx hb hE hR hts hinX9 hown fy3 rfl 25 (by decide) k129 (fun _ h9 => h9) rfl dX9_fault_472 ?_
                                                                refine lv_iload hx hb dX9_fault_475 (lv_at hl 0 rfl) ?_
                                                                have hcl9 := hdc.1
                                                                refine ah_iast (i := c9) hx hb hE hR hS fa263 (by omega) (by omega) dX9_fault_477 (fun H locs hR hS => ?_)
                                                                rw [nA_upd] at hR
                                                                obtain ⟨h_497, e_498⟩ : ∃ zz9, zz9 = ah_up h3 (A 26) (46, .inl (G.2.2.1 0, 200, .inl (nA (gU u3 c9 (pa (2 + a9 + 1) + 256 * pa (2 + a9)))))) := ⟨_, rfl⟩
                                                                have hR : ah_R G h_497 H := by rw [e_498]; exact hR
                                                                have f_499 : h_497 y = some (20, .inr (8, mF A k0 n rf pm zh lc c pt gv c9)) := by rw [e_498]; exact ah_keep fy3 fa263 (by omega)
                                                                have f_500 : h_497 (A 1) = some (21, .inl (G.2.2.1 0, 128, .inl plT)) := by rw [e_498]; exact ah_keep fa13 fa263 (by omega)
                                                                have f_501 : h_497 (A 2) = some (22, .inl (G.2.2.1 0, 128, .inl esT)) := by rw [e_498]; exact ah_keep fa23 fa263 (by omega)
                                                                have f_502 : h_497 (A 24) = some (44, .inl (G.2.2.1 0, 200, .inl (nA pa))) := by rw [e_498]; exact ah_keep fa243 fa263 (by omega)
                                                                have f_503 : h_497 (A 26) = some (46, .inl (G.2.2.1 0, 200, .inl (nA (gU u3 c9 (pa (2 + a9 + 1) + 256 * pa (2 + a9)))))) := by rw [e_498]; exact ah_up_s _ _ _
                                                                refine lv_aload_n hx hb dX9_fault_478 rfl (lv_at hl 2 rfl) ?_
                                                                refine lv_dup hx hb dX9_fault_479 rfl ?_
                                                                refine ah_get (ci := 8) (v := .int (nI c9)) (C := RX9) (T := TX9) (N := 27) hx hb hE hR hts hinX9 hown f_499 rfl 25 (by decide) k129 (fun _ h9 => h9) rfl dX9_fault_480 ?_
                                                                refine lv_iconst (v := nI 1) hx hb dX9_fault_483 (by decide) ?_
                                                                refine lv_iadd hx hb dX9_fault_484 ?_
                                                                refine ah_toi (v := nI (c9 + 1)) (nI_add _ _) ?_
                                                                refine ah_put (ci := 8) (v := .int (nI (c9 + 1))) (ty := .int) (C := RX9) (T := TX9) (N := 27) hx hb hE hR hS hts hinX9 tyX9 tyX9_ok nmX9 hown f_499 rfl 25 (by decide) k129 (fun _ h9 => h9) rfl (by decide +kernel) rfl rfl (Nat.le_of_ble_eq_true rfl) dX9_fault_485 (fun H locs hR hS => ?_)
                                                                obtain ⟨h_504, e_505⟩ : ∃ zz9, zz9 = ah_up h_497 y (20, .inr (8, mF A k0 n rf pm zh lc c pt gv (c9 + 1))) := ⟨_, rfl⟩
                                                                have hR : ah_R G h_504 H := by rw [e_505]; exact hR
                                                                have f_506 : h_504 y = some (20, .inr (8, mF A k0 n rf pm zh lc c pt gv (c9 + 1))) := by rw [e_505]; exact ah_up_s _ _ _
                                                                have f_507 : h_504 (A 1) = some (21, .inl (G.2.2.1 0, 128, .inl plT)) := by rw [e_505]; exact ah_keep f_500 f_499 (by omega)
                                                                have f_508 : h_504 (A 2) = some (22, .inl (G.2.2.1 0, 128, .inl esT)) := by rw [e_505]; exact ah_keep f_501 f_499 (by omega)
                                                                have f_509 : h_504 (A 24) = some (44, .inl (G.2.2.1 0, 200, .inl (nA pa))) := by rw [e_505]; exact ah_keep f_502 f_499 (by omega)
                                                                have f_510 : h_504 (A 26) = some (46, .inl (G.2.2.1 0, 200, .inl (nA (gU u3 c9 (pa (2 + a9 + 1) + 256 * pa (2 + a9)))))) := by rw [e_505]; exact ah_keep f_503 f_499 (by omega)
                                                                have agq : agr (fun t => t ≠ 20 ∧ t ≠ 46) h3 h_504 := by rw [e_505]; refine agr.up ?_ f_499 (by omega); rw [e_498]; exact agr.rf.up fa263 (by omega)
                                                                refine lv_iload hx hb dX9_fault_488 (lv_at hl 1 rfl) ?_
                                                                refine lv_iload_n hx hb dX9_fault_490 rfl (lv_at hl 3 rfl) ?_
                                                                refine lv_if_eq (tgt := 498) hx hb dX9_fault_491 (by decide) (fun c_511 => ?_) (fun c_511 => ?_)
                                                                · skip
                                                                  exact absurd c_511 (by decide)
                                                                · skip
                                                                  refine lv_iconst (v := nI 2) hx hb dX9_fault_494 (by decide) ?_
                                                                  refine lv_goto (tgt := 499) hx hb dX9_fault_495 (by decide) ?_
                                                                  refine lv_iadd hx hb dX9_fault_499 ?_
                                                                  refine ah_toi (v := nI (a9 + 2)) (nI_add _ _) ?_
                                                                  refine lv_istore (lv' := [(8, .int (nI (a9 + 2))), (9, .int (nI (pa (2 + a9 + 1) + 256 * pa (2 + a9)))), (0, .ref y), (2, .int (nI 1)), (4, .int (nI (pa 1)))]) hx hb dX9_fault_500 hl (by decide) rfl (fun ls hl => ?_)
                                                                  refine lv_goto (tgt := 340) hx hb dX9_fault_502 (by decide) ?_
                                                                  exact ih340  (c9 + 1) (a9 + 2) (gU u3 c9 (pa (2 + a9 + 1) + 256 * pa (2 + a9))) h_504 _ _ ls (by omega) (by omega) (by omega) (by have := hdc.1; omega) hdc.2.2 (gU_list hu hdc.2.1) (ag3.tr agq) f_506 f_507 f_508 f_509 f_510 hR hS (lv_sub hl [0, 2, 3, 4] rfl)
                                                              · skip
                                                                exact absurd c_496 (by decide)
                                                            · skip
                                                              exact absurd c_495 (by decide)
                                                    exact L340 ((pa 1 - 6) + 1) 0 6 ua h_486 _ _ ls (by omega) (by omega) (by omega) (by omega) (by rw [eL2]; rfl) (fun j hj => absurd hj (Nat.not_lt_zero j)) ag0 f_488 f_489 f_490 f_491 f_492 hR hS (lv_sub hl [0, 8, 6, 4] rfl)
                                                  · skip
                                                    exact absurd (by decide) c_485
                                                · skip
                                                  have c_484 : ¬ ((8 * (pa 1)) ≤ (7 * (pa 1))) := fun z9 => c_484 ((nI_leI (by omega) (by omega)).mpr z9)
                                                  refine lv_iload_n hx hb dX9_fault_291 rfl (lv_at hl 6 rfl) ?_
                                                  refine lv_if_ne (tgt := 323) hx hb dX9_fault_292 (by decide) (fun c_512 => ?_) (fun c_512 => ?_)
                                                  · skip
                                                    refine lv_iload hx hb dX9_fault_323 (lv_at hl 1 rfl) ?_
                                                    refine lv_if_eq (tgt := 331) hx hb dX9_fault_325 (by decide) (fun c_513 => ?_) (fun c_513 => ?_)
                                                    · skip
                                                      have hf0 : fault pa gv = 0 := fl_0 hz2 hkk hn3 hn4 hn5 (fun q9 => by have z9 := q9.1; rw [hk9] at z9; exact absurd z9 (by decide))
                                                      obtain ⟨L, eL⟩ : ∃ L9, L9 = unitsL pa gv := ⟨_, rfl⟩
                                                      have eL2 : L = dP pa (pa 1) (pa 1 - 6) 6 := by rw [eL]; unfold unitsL; rw [hk9]; rfl
                                                      have hLl : L.length ≤ 160 := by rw [eL]; exact unitsL_len (by omega)
                                                      refine lv_aload_n hx hb dX9_fault_331 rfl (lv_at hl 8 rfl) ?_
                                                      refine lv_iconst (v := nI 0) hx hb dX9_fault_332 (by decide) ?_
                                                      refine ah_put (ci := 8) (v := .int (nI 0)) (ty := .int) (C := RX9) (T := TX9) (N := 27) hx hb hE hR hS hts hinX9 tyX9 tyX9_ok nmX9 hown fy rfl 25 (by decide) k129 (fun _ h9 => h9) rfl (by decide +kernel) rfl rfl (Nat.le_of_ble_eq_true rfl) dX9_fault_333 (fun H locs hR hS => ?_)
                                                      obtain ⟨h_514, e_515⟩ : ∃ zz9, zz9 = ah_up h y (20, .inr (8, mF A k0 n rf pm zh lc c pt gv 0)) := ⟨_, rfl⟩
                                                      have hR : ah_R G h_514 H := by rw [e_515]; exact hR
                                                      have f_516 : h_514 y = some (20, .inr (8, mF A k0 n rf pm zh lc c pt gv 0)) := by rw [e_515]; exact ah_up_s _ _ _
                                                      have f_517 : h_514 (A 1) = some (21, .inl (G.2.2.1 0, 128, .inl plT)) := by rw [e_515]; exact ah_keep fa1 fy (by omega)
                                                      have f_518 : h_514 (A 2) = some (22, .inl (G.2.2.1 0, 128, .inl esT)) := by rw [e_515]; exact ah_keep fa2 fy (by omega)
                                                      have f_519 : h_514 (A 24) = some (44, .inl (G.2.2.1 0, 200, .inl (nA pa))) := by rw [e_515]; exact ah_keep fa24 fy (by omega)
                                                      have f_520 : h_514 (A 26) = some (46, .inl (G.2.2.1 0, 200, .inl (nA ua))) := by rw [e_515]; exact ah_keep fa26 fy (by omega)
                                                      refine lv_iload hx hb dX9_fault_336 (lv_at hl 2 rfl) ?_
                                                      refine lv_istore (lv' := [(8, .int (nI 6)), (7, .int (nI 0)), (6, .int (nI 6)), (5, .int (nI (pa 1))), (4, .int (nI (pa 1))), (3, .int (nI 1)), (2, .int (nI 1)), (1, .int (nI 5)), (0, .ref y)]) hx hb dX9_fault_338 hl (by decide) rfl (fun ls hl => ?_)
                                                      have ag0 : agr (fun t => t ≠ 20 ∧ t ≠ 46) h h_514 := by rw [e_515]; exact agr.rf.up fy (by omega)
                                                      have L340 : ∀ (N340 : Nat) (c9 : Nat) (a9 : Nat) (u3 : Nat → Nat) (h3 : ah_H) (H : Heap) (locs : List Loc) (ls : Array Slot), pa 1 - a9 < N340 → (a9 ≤ pa 1 + 1) → ((pa 1 - a9) % 2 = 0 ∧ a9 ≤ pa 1) → (c9 ≤ L.length) → (L.drop c9 = dP pa (pa 1) (pa 1 - a9) a9) → (∀ j, j < c9 → u3 j = L.getD j 0) → (agr (fun t => t ≠ 20 ∧ t ≠ 46) h h3) → (h3 y = some (20, .inr (8, mF A k0 n rf pm zh lc c pt gv c9))) → (h3 (A 1) = some (21, .inl (G.2.2.1 0, 128, .inl plT))) → (h3 (A 2) = some (22, .inl (G.2.2.1 0, 128, .inl esT))) → (h3 (A 24) = some (44, .inl (G.2.2.1 0, 200, .inl (nA pa)))) → (h3 (A 26) = some (46, .inl (G.2.2.1 0, 200, .inl (nA u3)))) → ah_R G h3 H → va_S (ah_A G) s.heap H locs → lv_has ls 10 [(8, .int (nI a9)), (0, .ref y), (2, .int (nI 1)), (4, .int (nI (pa 1)))] → W p l e ({ frames := 2, cells := 0, slots := 0, locals := 44 }) s m ([.ref y] : List Value).toArray below meth cd9 H locs 0 0 (MQ below (ah_Qi G (fun v h' => v = nI (fault pa gv) ∧ (fault pa gv ≠ 0 → h' = h) ∧ (fault pa gv = 0 → ∃ u2 : Nat → Nat, h' y = some (20, .inr (8, mF A k0 n rf pm zh lc c pt gv ((unitsL pa gv).length))) ∧ h' (A 26) = some (46, .inl (G.2.2.1 0, 200, .inl (nA u2))) ∧ agr (fun t => t ≠ 20 ∧ t ≠ 46) h h' ∧ ∀ j, j < (unitsL pa gv).length → u2 j = (unitsL pa gv).getD j 0))) ([.ref y] : List Value).toArray s 0 0 (ah_A G)) (F0 m 340 ls []) := by
                                                        intro N340
                                                        induction N340 with
                                                        | zero => intro c9 a9 u3 h3 H locs ls hN; exact absurd hN (Nat.not_lt_zero _)
                                                        | succ N340 ih340 =>
                                                          intro c9 a9 u3 h3 H locs ls hN340 ha9 hev hcl hd9 hu ag3 fy3 fa13 fa23 fa243 fa263 hR hS hl
                                                          refine lv_iload hx hb dX9_fault_340 (lv_at hl 0 rfl) ?_
                                                          refine lv_iload hx hb dX9_fault_342 (lv_at hl 3 rfl) ?_
                                                          refine lv_icmp_ge (tgt := 505) hx hb dX9_fault_344 (by decide) (fun c_521 => ?_) (fun c_521 => ?_)
                                                          · skip
                                                            have c_521 : (pa 1) ≤ a9 := (nI_leI (by omega) (by omega)).mp c_521
                                                            have hend : c9 = L.length := drop_nil (by rw [hd9, dP_end (by omega)]) hcl
                                                            refine lv_iconst (v := nI 0) hx hb dX9_fault_505 (by decide) ?_
                                                            refine ah_iret (v := nI 0) hx hb hr hlocks hR hS dX9_fault_506 ?_
                                                            exact ⟨by rw [hf0], fun q9 => absurd hf0 q9, fun _ => ⟨u3, by rw [← eL, ← hend]; exact fy3, fa263, ag3, fun j hj => by rw [← eL] at hj ⊢; exact hu j (by omega)⟩⟩
                                                          · skip
                                                            have c_521 : ¬ ((pa 1) ≤ a9) := fun z9 => c_521 ((nI_leI (by omega) (by omega)).mpr z9)
                                                            have hdc := drop_cons (hd9.trans (dP_step (by omega)))
                                                            have hpx := hpa (2 + a9); have hpy := hpa (2 + a9 + 1)
                                                            refine lv_iload_n hx hb dX9_fault_347 rfl (lv_at hl 2 rfl) ?_
                                                            refine lv_if_eq (tgt := 377) hx hb dX9_fault_348 (by decide) (fun c_522 => ?_) (fun c_522 => ?_)
                                                            · skip
                                                              exact absurd c_522 (by decide)
                                                            · skip
                                                              refine lv_sipush (v := nI 256) hx hb dX9_fault_351 (by decide) ?_
                                                              refine lv_aload_n hx hb dX9_fault_354 rfl (lv_at hl 1 rfl) ?_
                                                              refine ah_get (ci := 8) (v := .ref (A 24)) (C := RX9) (T := TX9) (N := 27) hx hb hE hR hts hinX9 hown fy3 rfl 24 (by decide) k58 (fun _ h9 => h9) rfl dX9_fault_355 ?_
                                                              refine lv_iconst (v := nI 2) hx hb dX9_fault_358 (by decide) ?_
                                                              refine lv_iload hx hb dX9_fault_359 (lv_at hl 0 rfl) ?_
                                                              refine lv_iadd hx hb dX9_fault_361 ?_
                                                              refine ah_toi (v := nI (2 + a9)) (nI_add _ _) ?_
                                                              refine ah_iald (i := (2 + a9)) hx hb hE hR fa243 (by omega) (by omega) dX9_fault_362 ?_
                                                              refine ah_toi (v := nI (pa (2 + a9))) rfl ?_
                                                              refine lv_imul hx hb dX9_fault_363 ?_
                                                              refine ah_toi (v := nI (256 * (pa (2 + a9)))) (pk_mul _ _) ?_
                                                              refine lv_aload_n hx hb dX9_fault_364 rfl (lv_at hl 1 rfl) ?_
                                                              refine ah_get (ci := 8) (v := .ref (A 24)) (C := RX9) (T := TX9) (N := 27) hx hb hE hR hts hinX9 hown fy3 rfl 24 (by decide) k58 (fun _ h9 => h9) rfl dX9_fault_365 ?_
                                                              refine lv_iconst (v := nI 3) hx hb dX9_fault_368 (by decide) ?_
                                                              refine lv_iload hx hb dX9_fault_369 (lv_at hl 0 rfl) ?_
                                                              refine lv_iadd hx hb dX9_fault_371 ?_
                                                              refine ah_toi (v := nI (2 + a9 + 1)) (by rw [nI_add]; congr 1; omega) ?_
                                                              refine ah_iald (i := (2 + a9 + 1)) hx hb hE hR fa243 (by omega) (by omega) dX9_fault_372 ?_
                                                              refine ah_toi (v := nI (pa (2 + a9 + 1))) rfl ?_
                                                              refine lv_iadd hx hb dX9_fault_373 ?_
                                                              refine ah_toi (v := nI (pa (2 + a9 + 1) + 256 * pa (2 + a9))) (by rw [nI_add]; congr 1; omega) ?_
                                                              refine lv_goto (tgt := 383) hx hb dX9_fault_374 (by decide) ?_
                                                              refine lv_istore (lv' := [(9, .int (nI (pa (2 + a9 + 1) + 256 * pa (2 + a9)))), (8, .int (nI a9)), (0, .ref y), (2, .int (nI 1)), (4, .int (nI (pa 1)))]) hx hb dX9_fault_383 hl (by decide) rfl (fun ls hl => ?_)
                                                              refine lv_iload_n hx hb dX9_fault_385 rfl (lv_at hl 3 rfl) ?_
                                                              refine lv_if_ne (tgt := 455) hx hb dX9_fault_386 (by decide) (fun c_523 => ?_) (fun c_523 => ?_)
                                                              · skip
                                                                refine lv_iload_n hx hb dX9_fault_455 rfl (lv_at hl 3 rfl) ?_
                                                                refine lv_if_ne (tgt := 467) hx hb dX9_fault_456 (by decide) (fun c_524 => ?_) (fun c_524 => ?_)
                                                                · skip
                                                                  refine lv_aload_n hx hb dX9_fault_467 rfl (lv_at hl 2 rfl) ?_
                                                                  refine ah_get (ci := 8) (v := .ref (A 26)) (C := RX9) (T := TX9) (N := 27) hx hb hE hR hts hinX9 hown fy3 rfl 26 (by decide) k61 (fun _ h9 => h9) rfl dX9_fault_468 ?_
                                                                  refine lv_aload_n hx hb dX9_fault_471 rfl (lv_at hl 2 rfl) ?_
                                                                  refine ah_get (ci := 8) (v := .int (nI c9)) (C := RX9) (T := TX9) (N := 27) hx hb hE hR hts hinX9 hown fy3 rfl 25 (by decide) k129 (fun _ h9 => h9) rfl dX9_fault_472 ?_
                                                                  refine lv_iload hx hb dX9_fault_475 (lv_at hl 0 rfl) ?_
                                                                  have hcl9 := hdc.1
                                                                  refine ah_iast (i := c9) hx hb hE hR hS fa263 (by omega) (by omega) dX9_fault_477 (fun H locs hR hS => ?_)
                                                                  rw [nA_upd] at hR
                                                                  obtain ⟨h_525, e_526⟩ : ∃ zz9, zz9 = ah_up h3 (A 26) (46, .inl (G.2.2.1 0, 200, .inl (nA (gU u3 c9 (pa (2 + a9 + 1) + 256 * pa (2 + a9)))))) := ⟨_, rfl⟩
                                                                  have hR : ah_R G h_525 H := by rw [e_526]; exact hR
                                                                  have f_527 : h_525 y = some (20, .inr (8, mF A k0 n rf pm zh lc c pt gv c9)) := by rw [e_526]; exact ah_keep fy3 fa263 (by omega)
                                                                  have f_528 : h_525 (A 1) = some (21, .inl (G.2.2.1 0, 128, .inl plT)) := by rw [e_526]; exact ah_keep fa13 fa263 (by omega)
                                                                  have f_529 : h_525 (A 2) = some (22, .inl (G.2.2.1 0, 128, .inl esT)) := by rw [e_526]; exact ah_keep fa23 fa263 (by omega)
                                                                  have f_530 : h_525 (A 24) = some (44, .inl (G.2.2.1 0, 200, .inl (nA pa))) := by rw [e_526]; exact ah_keep fa243 fa263 (by omega)
                                                                  have f_531 : h_525 (A 26) = some (46, .inl (G.2.2.1 0, 200, .inl (nA (gU u3 c9 (pa (2 + a9 + 1) + 256 * pa (2 + a9)))))) := by rw [e_526]; exact ah_up_s _ _ _
                                                                  refine lv_aload_n hx hb dX9_fault_478 rfl (lv_at hl 2 rfl) ?_
                                                                  refine lv_dup hx hb dX9_fault_479 rfl ?_
                                                                  refine ah_get (ci := 8) (v := .int (nI c9)) (C := RX9) (T := TX9) (N := 27) hx hb hE hR hts hinX9 hown f_527 rfl 25 (by decide) k129 (fun _ h9 => h9) rfl dX9_fault_480 ?_
                                                                  refine lv_iconst (v := nI 1) hx hb dX9_fault_483 (by decide) ?_
                                                                  refine lv_iadd hx hb dX9_fault_484 ?_
                                                                  refine ah_toi (v := nI (c9 + 1)) (nI_add _ _) ?_
                                                                  refine ah_put (ci := 8) (v := .int (nI (c9 + 1))) (ty := .int) (C := RX9) (T := TX9) (N := 27) hx hb hE hR hS hts hinX9 tyX9 tyX9_ok nmX9 hown f_527 rfl 25 (by decide) k129 (fun _ h9 => h9) rfl (by decide +kernel) rfl rfl (Nat.le_of_ble_eq_true rfl) dX9_fault_485 (fun H locs hR hS => ?_)
                                                                  obtain ⟨h_532, e_533⟩ : ∃ zz9, zz9 = ah_up h_525 y (20, .inr (8, mF A k0 n rf pm zh lc c pt gv (c9 + 1))) := ⟨_, rfl⟩
                                                                  have hR : ah_R G h_532 H := by rw [e_533]; exact hR
                                                                  have f_534 : h_532 y = some (20, .inr (8, mF A k0 n rf pm zh lc c pt gv (c9 + 1))) := by rw [e_533]; exact ah_up_s _ _ _
                                                                  have f_535 : h_532 (A 1) = some (21, .inl (G.2.2.1 0, 128, .inl plT)) := by rw [e_533]; exact ah_keep f_528 f_527 (by omega)
                                                                  have f_536 : h_532 (A 2) = some (22, .inl (G.2.2.1 0, 128, .inl esT)) := by rw [e_533]; exact ah_keep f_529 f_527 (by omega)
                                                                  have f_537 : h_532 (A 24) = some (44, .inl (G.2.2.1 0, 200, .inl (nA pa))) := by rw [e_533]; exact ah_keep f_530 f_527 (by omega)
                                                                  have f_538 : h_532 (A 26) = some (46, .inl (G.2.2.1 0, 200, .inl (nA (gU u3 c9 (pa (2 + a9 + 1) + 256 * pa (2 + a9)))))) := by rw [e_533]; exact ah_keep f_531 f_527 (by omega)
                                                                  have agq : agr (fun t => t ≠ 20 ∧ t ≠ 46) h3 h_532 := by rw [e_533]; refine agr.up ?_ f_527 (by omega); rw [e_526]; exact agr.rf.up fa263 (by omega)
                                                                  refine lv_iload hx hb dX9_fault_488 (lv_at hl 1 rfl) ?_
                                                                  refine lv_iload_n hx hb dX9_fault_490 rfl (lv_at hl 3 rfl) ?_
                                                                  refine lv_if_eq (tgt := 498) hx hb dX9_fault_491 (by decide) (fun c_539 => ?_) (fun c_539 => ?_)
                                                                  · skip
                                                                    exact absurd c_539 (by decide)
                                                                  · skip
                                                                    refine lv_iconst (v := nI 2) hx hb dX9_fault_494 (by decide) ?_
                                                                    refine lv_goto (tgt := 499) hx hb dX9_fault_495 (by decide) ?_
                                                                    refine lv_iadd hx hb dX9_fault_499 ?_
                                                                    refine ah_toi (v := nI (a9 + 2)) (nI_add _ _) ?_
                                                                    refine lv_istore (lv' := [(8, .int (nI (a9 + 2))), (9, .int (nI (pa (2 + a9 + 1) + 256 * pa (2 + a9)))), (0, .ref y), (2, .int (nI 1)), (4, .int (nI (pa 1)))]) hx hb dX9_fault_500 hl (by decide) rfl (fun ls hl => ?_)
                                                                    refine lv_goto (tgt := 340) hx hb dX9_fault_502 (by decide) ?_
                                                                    exact ih340  (c9 + 1) (a9 + 2) (gU u3 c9 (pa (2 + a9 + 1) + 256 * pa (2 + a9))) h_532 _ _ ls (by omega) (by omega) (by omega) (by have := hdc.1; omega) hdc.2.2 (gU_list hu hdc.2.1) (ag3.tr agq) f_534 f_535 f_536 f_537 f_538 hR hS (lv_sub hl [0, 2, 3, 4] rfl)
                                                                · skip
                                                                  exact absurd c_524 (by decide)
                                                              · skip
                                                                exact absurd c_523 (by decide)
                                                      exact L340 ((pa 1 - 6) + 1) 0 6 ua h_514 _ _ ls (by omega) (by omega) (by omega) (by omega) (by rw [eL2]; rfl) (fun j hj => absurd hj (Nat.not_lt_zero j)) ag0 f_516 f_517 f_518 f_519 f_520 hR hS (lv_sub hl [0, 8, 6, 4] rfl)
                                                    · skip
                                                      exact absurd (by decide) c_513
                                                  · skip
                                                    exact absurd c_512 (by decide)
                                              · skip
                                                exact absurd c_483 (by decide)
                                            · skip
                                              have c_482 : (((pa 1) - 6) % 2) = 1 := (nI_eq (by omega) (by omega)).mp c_482
                                              refine lv_iconst (v := nI 5) hx hb dX9_fault_247 (by decide) ?_
                                              refine ah_iret (v := nI 5) hx hb hr hlocks hR hS dX9_fault_248 ?_
                                              have hf9 : fault pa gv = 5 := fl_5 hz2 hkk hn3 hn4 ⟨by rw [hk9]; decide, by omega⟩
                                              exact ⟨by rw [hf9], fun _ => rfl, fun q9 => absurd q9 (by rw [hf9]; decide)⟩
                                    · skip
                                      have c_478 : ¬ ((pa 7) ≤ (pa 6)) := fun z9 => c_478 ((nI_leI (by omega) (by omega)).mpr z9)
                                      refine lv_iconst (v := nI 4) hx hb dX9_fault_209 (by decide) ?_
                                      refine ah_iret (v := nI 4) hx hb hr hlocks hR hS dX9_fault_210 ?_
                                      have hf9 : fault pa gv = 4 := fl_4 hz2 hkk hn3 ⟨by rw [hk9]; decide, by rw [hk9]; show pa 1 < 6 ∨ hdrBad pa; unfold hdrBad; omega⟩
                                      exact ⟨by rw [hf9], fun _ => rfl, fun q9 => absurd q9 (by rw [hf9]; decide)⟩
                  · skip
                    have c_469 : ¬ ((gv - 2) = (pa 1)) := fun z9 => c_469 ((nI_eq (by omega) (by omega)).mpr z9)
                    refine lv_iconst (v := nI 3) hx hb dX9_fault_121 (by decide) ?_
                    refine ah_iret (v := nI 3) hx hb hr hlocks hR hS dX9_fault_122 ?_
                    have hf9 : fault pa gv = 3 := fl_3 hz2 hkk (show wszP (pa 0 / 4) (pa 1) (gv - 2) by rw [hk9]; show (140 < pa 1 ∨ gv - 2 ≠ pa 1); omega)
                    exact ⟨by rw [hf9], fun _ => rfl, fun q9 => absurd q9 (by rw [hf9]; decide)⟩
    refine lv_aload_n hx hb dX9_fault_10 rfl (lv_at hl 0 rfl) ?_
    refine ah_get (ci := 8) (v := .ref (A 24)) (C := RX9) (T := TX9) (N := 27) hx hb hE hR hts hinX9 hown fy rfl 24 (by decide) k58 (fun _ h9 => h9) rfl dX9_fault_11 ?_
    refine lv_iconst (v := nI 0) hx hb dX9_fault_14 (by decide) ?_
    refine ah_iald (i := 0) hx hb hE hR fa24 (by omega) (by omega) dX9_fault_15 ?_
    refine ah_toi (v := nI (pa 0)) rfl ?_
    refine lv_istore_n (lv' := [(1, .int (nI (pa 0))), (0, .ref y)]) hx hb dX9_fault_16 rfl hl (by decide) rfl (fun ls hl => ?_)
    refine lv_iload_n hx hb dX9_fault_17 rfl (lv_at hl 0 rfl) ?_
    refine lv_if_eq (tgt := 38) hx hb dX9_fault_18 (by decide) (fun c_540 => ?_) (fun c_540 => ?_)
    · skip
      have c_540 : (pa 0) = 0 := (zi_eq (by omega)).mp c_540
      exact J38 _ _ ls (by omega) (by omega) hR hS (lv_sub hl [0, 1] rfl)
    · skip
      have c_540 : ¬ ((pa 0) = 0) := fun z9 => c_540 ((zi_eq (by omega)).mpr z9)
      refine lv_iload_n hx hb dX9_fault_21 rfl (lv_at hl 0 rfl) ?_
      refine lv_iconst (v := nI 1) hx hb dX9_fault_22 (by decide) ?_
      refine lv_icmp_eq (tgt := 38) hx hb dX9_fault_23 (by decide) (fun c_541 => ?_) (fun c_541 => ?_)
      · skip
        have c_541 : (pa 0) = 1 := (nI_eq (by omega) (by omega)).mp c_541
        exact J38 _ _ ls (by omega) (by omega) hR hS (lv_sub hl [0, 1] rfl)
      · skip
        have c_541 : ¬ ((pa 0) = 1) := fun z9 => c_541 ((nI_eq (by omega) (by omega)).mpr z9)
        refine lv_iload_n hx hb dX9_fault_26 rfl (lv_at hl 0 rfl) ?_
        refine lv_iconst (v := nI 4) hx hb dX9_fault_27 (by decide) ?_
        refine lv_icmp_eq (tgt := 38) hx hb dX9_fault_28 (by decide) (fun c_542 => ?_) (fun c_542 => ?_)
        · skip
          have c_542 : (pa 0) = 4 := (nI_eq (by omega) (by omega)).mp c_542
          exact J38 _ _ ls (by omega) (by omega) hR hS (lv_sub hl [0, 1] rfl)
        · skip
          have c_542 : ¬ ((pa 0) = 4) := fun z9 => c_542 ((nI_eq (by omega) (by omega)).mpr z9)
          refine lv_iload_n hx hb dX9_fault_31 rfl (lv_at hl 0 rfl) ?_
          refine lv_iconst (v := nI 5) hx hb dX9_fault_32 (by decide) ?_
          refine lv_icmp_eq (tgt := 38) hx hb dX9_fault_33 (by decide) (fun c_543 => ?_) (fun c_543 => ?_)
          · skip
            have c_543 : (pa 0) = 5 := (nI_eq (by omega) (by omega)).mp c_543
            exact J38 _ _ ls (by omega) (by omega) hR hS (lv_sub hl [0, 1] rfl)
          · skip
            have c_543 : ¬ ((pa 0) = 5) := fun z9 => c_543 ((nI_eq (by omega) (by omega)).mpr z9)
            refine lv_iconst (v := nI 2) hx hb dX9_fault_36 (by decide) ?_
            refine ah_iret (v := nI 2) hx hb hr hlocks hR hS dX9_fault_37 ?_
            have hf9 : fault pa gv = 2 := by unfold fault; rw [if_neg hz2, if_pos (by omega)]
            exact ⟨by rw [hf9], fun _ => rfl, fun q9 => absurd q9 (by rw [hf9]; decide)⟩
  · skip
    have c_1 : ¬ (2 ≤ gv) := fun z9 => c_1 ((nI_leI (by omega) (by omega)).mpr z9)
    have hf9 : fault pa gv = 1 := if_pos (by omega)
    refine lv_iconst (v := nI 1) hx hb dX9_fault_8 (by decide) ?_
    refine ah_iret (v := nI 1) hx hb hr hlocks hR hS dX9_fault_9 ?_
    exact ⟨by rw [hf9], fun _ => rfl, fun q9 => absurd q9 (by rw [hf9]; decide)⟩
