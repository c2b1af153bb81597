/-! ===== TextParts$PartReader.faultOf ===== -/

set_option maxHeartbeats 4000000 in
set_option maxRecDepth 100000 in
theorem c_Rd_faultOf (l : Launch) (G : ah_G) (h : ah_H) (rd ru hd rfr ps nm bp el : Nat) (uf : Nat → Nat) (fd : h rd = some (10, .inr (3, [.int (nI hd), .int (nI rfr), .int (nI ps), .int (nI nm), .int (nI bp), .int (nI el), .ref ru]))) (fu : h ru = some (11, .inl (G.2.2.1 0, 160, .inl (nA uf)))) (hhd : hd ≤ 1) (hbp : bp ≤ 1) (hhl : el < 256) (r b tr tb n z : Nat) (g : Nat → Nat) (fr : h r = some (tr, .inr (5, [.ref b, .int (nI z)]))) (fb : h b = some (tb, .inl (G.2.2.1 0, n, .inl (nA g)))) (hne : tr ≠ tb) (hz : z ≤ n) (hn : n < 1000) (hg : ∀ j, g j < 256) (h10 : tr ≠ 10) (h11 : tr ≠ 11) (b10 : tb ≠ 10) (b11 : tb ≠ 11) : Met l yX4_faultOf wsX4_faultOf ({ frames := 4, cells := 0, slots := 0, locals := 86 }) (ah_Pc G [.ref rd, .ref r] h) (ah_Qi G (fun v h' => v = -(nI (fault g z)) ∧ ∃ a1 a2 a3 a4 a5 a6 : Nat, h' = ah_up h rd (10, .inr (3, [.int (nI a1), .int (nI a2), .int (nI a3), .int (nI a4), .int (nI a5), .int (nI a6), .ref ru])) ∧ a1 ≤ 1 ∧ a5 ≤ 1 ∧ a6 < 256 ∧ (fault g z = 0 → a1 = g 0 % 2 ∧ a5 = g 0 / 4 ∧ a6 = g 1 ∧ (g 0 % 2 = 1 → a2 = g 5 ∧ a3 = g 6 ∧ a4 = g 7)))) 0 0 (ah_A G) := by
  refine ah_ofW (cc := cX4_faultOf) (maxL := 3) (ret := (some .int)) (by decide) rfl (Nat.le_of_ble_eq_true rfl) ?_
  intro p e s m below meth cd9 ls hx hb hr hml hown hlocks hname hts hE hR hS hl
  have hown : s.vm.findClass RX4 = some m.cls := hown
  have hl : lv_has ls 3 [(0, .ref rd), (1, .ref r)] := hl
  have k15 := hts (.fieldLink RX4 15 "TextParts$Row" "size" "I") (by decide +kernel)
  have hinX6 : ∀ w ∈ wsX60, w ∈ wsX4_faultOf := by decide +kernel
  have k25 := hts (.fieldLink RX4 25 "TextParts$PartReader" "headed" "Z") (by decide +kernel)
  have hinX4 : ∀ w ∈ wsX40, w ∈ wsX4_faultOf := by decide +kernel
  have k29 := hts (.fieldLink RX4 29 "TextParts$PartReader" "byPairs" "Z") (by decide +kernel)
  have k32 := hts (.fieldLink RX4 32 "TextParts$PartReader" "held" "I") (by decide +kernel)
  refine lv_aload_n hx hb dX4_faultOf_0 rfl (lv_at hl 1 rfl) ?_
  refine ah_get (ci := 5) (v := .int (nI z)) (C := RX6) (T := TX6) (N := 2) hx hb hE hR hts hinX6 hown fr rfl 1 (by decide) k15 (fun _ h9 => h9) rfl dX4_faultOf_1 ?_
  refine lv_iconst (v := nI 2) hx hb dX4_faultOf_4 (by decide) ?_
  refine lv_icmp_ge (tgt := 10) hx hb dX4_faultOf_5 (by decide) (fun c_1 => ?_) (fun c_1 => ?_)
  · skip
    have c_1 : 2 ≤ z := (nI_leI (by omega) (by omega)).mp c_1
    have hz2 : ¬ z < 2 := by omega
    refine lv_aload_n hx hb dX4_faultOf_10 rfl (lv_at hl 1 rfl) ?_
    refine lv_iconst (v := nI 0) hx hb dX4_faultOf_11 (by decide) ?_
    refine ah_calli (va_runV (As := [.int (nI 0)]) (rest := []) ⟨hx, hb, hml, hown, hts⟩ (c_Row_byteAt l G h r b tr tb n z g fr fb hne hz (by omega) (nI 0)) (cwV 1 hts gX4_faultOf_X6_byteAt rfl rfl rfl (by decide +kernel) ⟨Nat.le_of_ble_eq_true rfl, Nat.le_of_ble_eq_true rfl⟩) (ah_preV hE hR hS fr rfl) rfl rfl hl.1 rfl (lv_room (Nat.le_of_ble_eq_true rfl)) dX4_faultOf_12 ⟨Nat.le_of_ble_eq_true rfl, Nat.le_of_ble_eq_true rfl⟩) hS (fun r_4 h_2 H locs p_3 hR hS => ?_)
    obtain ⟨e_5, e_6⟩ := p_3
    rw [e_6] at hR
    rw [rwA_in (show 0 < z by omega) (by omega)] at e_5
    refine ah_toi e_5 ?_
    have hgb_7 := hg 0
    refine lv_istore_n (lv' := [(2, .int (nI (g 0))), (0, .ref rd), (1, .ref r)]) hx hb dX4_faultOf_15 rfl hl (by decide) rfl (fun ls hl => ?_)
    refine lv_iload_n hx hb dX4_faultOf_16 rfl (lv_at hl 0 rfl) ?_
    refine lv_iload_n hx hb dX4_faultOf_17 rfl (lv_at hl 0 rfl) ?_
    refine lv_iconst (v := nI 5) hx hb dX4_faultOf_18 (by decide) ?_
    have hk5 : g 0 &&& 5 ≤ 5 := Nat.and_le_right
    have hg0 := hg 0
    refine lv_iand hx hb dX4_faultOf_19 ?_
    refine ah_toi (v := nI (g 0 &&& 5)) (ny_and _ _) ?_
    refine lv_icmp_eq (tgt := 26) hx hb dX4_faultOf_20 (by decide) (fun c_8 => ?_) (fun c_8 => ?_)
    · skip
      have c_8 : (g 0) = (g 0 &&& 5) := (nI_eq (by omega) (by omega)).mp c_8
      have hkk := (k5 _ hg0).mp c_8.symm
      have J38 : ∀  (H : Heap) (locs : List Loc) (ls : Array Slot), (h rd = some (10, .inr (3, [.int (nI hd), .int (nI rfr), .int (nI ps), .int (nI nm), .int (nI bp), .int (nI el), .ref ru]))) → (h ru = some (11, .inl (G.2.2.1 0, 160, .inl (nA uf)))) → (h r = some (tr, .inr (5, [.ref b, .int (nI z)]))) → (h b = some (tb, .inl (G.2.2.1 0, n, .inl (nA g)))) → ah_R G h H → va_S (ah_A G) s.heap H locs → lv_has ls 3 [(2, .int (nI (g 0))), (0, .ref rd), (1, .ref r)] → W p l e ({ frames := 4, cells := 0, slots := 0, locals := 86 }) s m ([.ref rd, .ref r] : List Value).toArray below meth cd9 H locs 0 0 (MQ below (ah_Qi G (fun v h' => v = -(nI (fault g z)) ∧ ∃ a1 a2 a3 a4 a5 a6 : Nat, h' = ah_up h rd (10, .inr (3, [.int (nI a1), .int (nI a2), .int (nI a3), .int (nI a4), .int (nI a5), .int (nI a6), .ref ru])) ∧ a1 ≤ 1 ∧ a5 ≤ 1 ∧ a6 < 256 ∧ (fault g z = 0 → a1 = g 0 % 2 ∧ a5 = g 0 / 4 ∧ a6 = g 1 ∧ (g 0 % 2 = 1 → a2 = g 5 ∧ a3 = g 6 ∧ a4 = g 7)))) ([.ref rd, .ref r] : List Value).toArray s 0 0 (ah_A G)) (F0 m 38 ls [.int (nI (g 0 % 2)), .ref rd]) := by
        intro   H locs ls fda fua fra fba hR hS hl
        refine ah_put (ci := 3) (v := .int (nI (g 0 % 2))) (ty := .boolean) (C := RX4) (T := TX4) (N := 7) hx hb hE hR hS hts hinX4 tyX4 tyX4_ok nmX4 hown fda rfl 0 (by decide) k25 (fun _ h9 => h9) rfl (by decide +kernel) (nb01 (by omega)) (fb01 (by omega)) (Nat.le_of_ble_eq_true rfl) dX4_faultOf_38 (fun H locs hR hS => ?_)
        obtain ⟨h_9, e_10⟩ : ∃ zz9, zz9 = ah_up h rd (10, .inr (3, [.int (nI (g 0 % 2)), .int (nI rfr), .int (nI ps), .int (nI nm), .int (nI bp), .int (nI el), .ref ru])) := ⟨_, rfl⟩
        have hR : ah_R G h_9 H := by rw [e_10]; exact hR
        have f_11 : h_9 rd = some (10, .inr (3, [.int (nI (g 0 % 2)), .int (nI rfr), .int (nI ps), .int (nI nm), .int (nI bp), .int (nI el), .ref ru])) := by rw [e_10]; exact ah_up_s _ _ _
        have f_12 : h_9 ru = some (11, .inl (G.2.2.1 0, 160, .inl (nA uf))) := by rw [e_10]; exact ah_keep fua fda (by omega)
        have f_13 : h_9 r = some (tr, .inr (5, [.ref b, .int (nI z)])) := by rw [e_10]; exact ah_keep fra fda (by omega)
        have f_14 : h_9 b = some (tb, .inl (G.2.2.1 0, n, .inl (nA g))) := by rw [e_10]; exact ah_keep fba fda (by omega)
        have J53 : ∀  (h5 : ah_H) (H : Heap) (locs : List Loc) (ls : Array Slot), (h5 = ah_up h rd (10, .inr (3, [.int (nI (g 0 % 2)), .int (nI rfr), .int (nI ps), .int (nI nm), .int (nI bp), .int (nI el), .ref ru]))) → (h5 rd = some (10, .inr (3, [.int (nI (g 0 % 2)), .int (nI rfr), .int (nI ps), .int (nI nm), .int (nI bp), .int (nI el), .ref ru]))) → (h5 ru = some (11, .inl (G.2.2.1 0, 160, .inl (nA uf)))) → (h5 r = some (tr, .inr (5, [.ref b, .int (nI z)]))) → (h5 b = some (tb, .inl (G.2.2.1 0, n, .inl (nA g)))) → ah_R G h5 H → va_S (ah_A G) s.heap H locs → lv_has ls 3 [(2, .int (nI (g 0))), (0, .ref rd), (1, .ref r)] → W p l e ({ frames := 4, cells := 0, slots := 0, locals := 86 }) s m ([.ref rd, .ref r] : List Value).toArray below meth cd9 H locs 0 0 (MQ below (ah_Qi G (fun v h' => v = -(nI (fault g z)) ∧ ∃ a1 a2 a3 a4 a5 a6 : Nat, h' = ah_up h rd (10, .inr (3, [.int (nI a1), .int (nI a2), .int (nI a3), .int (nI a4), .int (nI a5), .int (nI a6), .ref ru])) ∧ a1 ≤ 1 ∧ a5 ≤ 1 ∧ a6 < 256 ∧ (fault g z = 0 → a1 = g 0 % 2 ∧ a5 = g 0 / 4 ∧ a6 = g 1 ∧ (g 0 % 2 = 1 → a2 = g 5 ∧ a3 = g 6 ∧ a4 = g 7)))) ([.ref rd, .ref r] : List Value).toArray s 0 0 (ah_A G)) (F0 m 53 ls [.int (nI (g 0 / 4)), .ref rd]) := by
          intro  h5 H locs ls eh5 fdb fub frb fbb hR hS hl
          refine ah_put (ci := 3) (v := .int (nI (g 0 / 4))) (ty := .boolean) (C := RX4) (T := TX4) (N := 7) hx hb hE hR hS hts hinX4 tyX4 tyX4_ok nmX4 hown fdb rfl 4 (by decide) k29 (fun _ h9 => h9) rfl (by decide +kernel) (nb01 (by omega)) (fb01 (by omega)) (Nat.le_of_ble_eq_true rfl) dX4_faultOf_53 (fun H locs hR hS => ?_)
          obtain ⟨h_15, e_16⟩ : ∃ zz9, zz9 = ah_up h5 rd (10, .inr (3, [.int (nI (g 0 % 2)), .int (nI rfr), .int (nI ps), .int (nI nm), .int (nI (g 0 / 4)), .int (nI el), .ref ru])) := ⟨_, rfl⟩
          have hR : ah_R G h_15 H := by rw [e_16]; exact hR
          have f_17 : h_15 rd = some (10, .inr (3, [.int (nI (g 0 % 2)), .int (nI rfr), .int (nI ps), .int (nI nm), .int (nI (g 0 / 4)), .int (nI el), .ref ru])) := by rw [e_16]; exact ah_up_s _ _ _
          have f_18 : h_15 ru = some (11, .inl (G.2.2.1 0, 160, .inl (nA uf))) := by rw [e_16]; exact ah_keep fub fdb (by omega)
          have f_19 : h_15 r = some (tr, .inr (5, [.ref b, .int (nI z)])) := by rw [e_16]; exact ah_keep frb fdb (by omega)
          have f_20 : h_15 b = some (tb, .inl (G.2.2.1 0, n, .inl (nA g))) := by rw [e_16]; exact ah_keep fbb fdb (by omega)
          refine lv_aload_n hx hb dX4_faultOf_56 rfl (lv_at hl 1 rfl) ?_
          refine lv_aload_n hx hb dX4_faultOf_57 rfl (lv_at hl 2 rfl) ?_
          refine lv_iconst (v := nI 1) hx hb dX4_faultOf_58 (by decide) ?_
          refine ah_calli (va_runV (As := [.int (nI 1)]) (rest := [.ref rd]) ⟨hx, hb, hml, hown, hts⟩ (c_Row_byteAt l G h_15 r b tr tb n z g f_19 f_20 hne hz (by omega) (nI 1)) (cwV 1 hts gX4_faultOf_X6_byteAt rfl rfl rfl (by decide +kernel) ⟨Nat.le_of_ble_eq_true rfl, Nat.le_of_ble_eq_true rfl⟩) (ah_preV hE hR hS f_19 rfl) rfl rfl hl.1 rfl (lv_room (Nat.le_of_ble_eq_true rfl)) dX4_faultOf_59 ⟨Nat.le_of_ble_eq_true rfl, Nat.le_of_ble_eq_true rfl⟩) hS (fun r_23 h_21 H locs p_22 hR hS => ?_)
          obtain ⟨e_24, e_25⟩ := p_22
          rw [e_25] at hR
          rw [rwA_in (show 1 < z by omega) (by omega)] at e_24
          refine ah_toi e_24 ?_
          have hgb_26 := hg 1
          refine ah_put (ci := 3) (v := .int (nI (g 1))) (ty := .int) (C := RX4) (T := TX4) (N := 7) hx hb hE hR hS hts hinX4 tyX4 tyX4_ok nmX4 hown f_17 rfl 5 (by decide) k32 (fun _ h9 => h9) rfl (by decide +kernel) rfl rfl (Nat.le_of_ble_eq_true rfl) dX4_faultOf_62 (fun H locs hR hS => ?_)
          obtain ⟨h_27, e_28⟩ : ∃ zz9, zz9 = ah_up h_15 rd (10, .inr (3, [.int (nI (g 0 % 2)), .int (nI rfr), .int (nI ps), .int (nI nm), .int (nI (g 0 / 4)), .int (nI (g 1)), .ref ru])) := ⟨_, rfl⟩
          have hR : ah_R G h_27 H := by rw [e_28]; exact hR
          have f_29 : h_27 rd = some (10, .inr (3, [.int (nI (g 0 % 2)), .int (nI rfr), .int (nI ps), .int (nI nm), .int (nI (g 0 / 4)), .int (nI (g 1)), .ref ru])) := by rw [e_28]; exact ah_up_s _ _ _
          have f_30 : h_27 ru = some (11, .inl (G.2.2.1 0, 160, .inl (nA uf))) := by rw [e_28]; exact ah_keep f_18 f_17 (by omega)
          have f_31 : h_27 r = some (tr, .inr (5, [.ref b, .int (nI z)])) := by rw [e_28]; exact ah_keep f_19 f_17 (by omega)
          have f_32 : h_27 b = some (tb, .inl (G.2.2.1 0, n, .inl (nA g))) := by rw [e_28]; exact ah_keep f_20 f_17 (by omega)
          have eh6 : h_27 = ah_up h rd (10, .inr (3, [.int (nI (g 0 % 2)), .int (nI rfr), .int (nI ps), .int (nI nm), .int (nI (g 0 / 4)), .int (nI (g 1)), .ref ru])) := by rw [e_28, e_16, eh5]; simp only [ah_up2]
          refine lv_aload_n hx hb dX4_faultOf_65 rfl (lv_at hl 1 rfl) ?_
          refine lv_aload_n hx hb dX4_faultOf_66 rfl (lv_at hl 2 rfl) ?_
          refine ah_get (ci := 5) (v := .int (nI z)) (C := RX6) (T := TX6) (N := 2) hx hb hE hR hts hinX6 hown f_31 rfl 1 (by decide) k15 (fun _ h9 => h9) rfl dX4_faultOf_67 ?_
          refine lv_iconst (v := nI 2) hx hb dX4_faultOf_70 (by decide) ?_
          refine lv_isub hx hb dX4_faultOf_71 ?_
          refine ah_toi (v := nI (z - 2)) (pk_sub (by omega)) ?_
          refine ah_calli (va_runV (As := [.int (nI (z - 2))]) (rest := []) ⟨hx, hb, hml, hown, hts⟩ (c_Rd_isWrongSize l G h_27 rd ru (g 0 % 2) rfr ps nm (g 0 / 4) (g 1) uf f_29 f_30 (by omega) (by omega) (hg 1) (z - 2) (by omega)) (cwV 1 hts gX4_faultOf_X4_isWrongSize rfl rfl rfl (by decide +kernel) ⟨Nat.le_of_ble_eq_true rfl, Nat.le_of_ble_eq_true rfl⟩) (ah_preV hE hR hS f_29 rfl) rfl rfl hl.1 rfl (lv_room (Nat.le_of_ble_eq_true rfl)) dX4_faultOf_72 ⟨Nat.le_of_ble_eq_true rfl, Nat.le_of_ble_eq_true rfl⟩) hS (fun r_35 h_33 H locs p_34 hR hS => ?_)
          obtain ⟨e_36, e_37⟩ := p_34
          rw [e_37] at hR
          refine ah_toi e_36 ?_
          have h01 : (if wszP (g 0 / 4) (g 1) (z - 2) then 1 else 0) < 2 ^ 31 := if10
          refine lv_if_eq (tgt := 81) hx hb dX4_faultOf_75 (by decide) (fun c_38 => ?_) (fun c_38 => ?_)
          · skip
            have c_38 : (if wszP (g 0 / 4) (g 1) (z - 2) then 1 else 0) = 0 := (zi_eq (by omega)).mp c_38
            have hwz := if10f c_38
            have hsz : (g 0 / 4 = 0 → g 1 ≤ 160 ∧ z = 2 + bfs (g 1)) ∧ (g 0 / 4 ≠ 0 → g 1 ≤ 140 ∧ z = 2 + g 1) := by
              unfold wszP at hwz
              refine ⟨fun q => ?_, fun q => ?_⟩
              · rw [if_pos q] at hwz; omega
              · rw [if_neg q] at hwz; omega
            have J99 : ∀ (x2 : Nat) (x3 : Nat) (x4 : Nat) (h7 : ah_H) (H : Heap) (locs : List Loc) (ls : Array Slot), (g 0 % 2 = 1 → x2 = g 5 ∧ x3 = g 6 ∧ x4 = g 7) → (¬ (g 0 % 2 ≠ 0 ∧ (g 1 < hlim (g 0 / 4) ∨ hdrBad g))) → (h7 = ah_up h rd (10, .inr (3, [.int (nI (g 0 % 2)), .int (nI x2), .int (nI x3), .int (nI x4), .int (nI (g 0 / 4)), .int (nI (g 1)), .ref ru]))) → (h7 rd = some (10, .inr (3, [.int (nI (g 0 % 2)), .int (nI x2), .int (nI x3), .int (nI x4), .int (nI (g 0 / 4)), .int (nI (g 1)), .ref ru]))) → (h7 ru = some (11, .inl (G.2.2.1 0, 160, .inl (nA uf)))) → (h7 r = some (tr, .inr (5, [.ref b, .int (nI z)]))) → (h7 b = some (tb, .inl (G.2.2.1 0, n, .inl (nA g)))) → ah_R G h7 H → va_S (ah_A G) s.heap H locs → lv_has ls 3 [(2, .int (nI (g 0))), (0, .ref rd), (1, .ref r)] → W p l e ({ frames := 4, cells := 0, slots := 0, locals := 86 }) s m ([.ref rd, .ref r] : List Value).toArray below meth cd9 H locs 0 0 (MQ below (ah_Qi G (fun v h' => v = -(nI (fault g z)) ∧ ∃ a1 a2 a3 a4 a5 a6 : Nat, h' = ah_up h rd (10, .inr (3, [.int (nI a1), .int (nI a2), .int (nI a3), .int (nI a4), .int (nI a5), .int (nI a6), .ref ru])) ∧ a1 ≤ 1 ∧ a5 ≤ 1 ∧ a6 < 256 ∧ (fault g z = 0 → a1 = g 0 % 2 ∧ a5 = g 0 / 4 ∧ a6 = g 1 ∧ (g 0 % 2 = 1 → a2 = g 5 ∧ a3 = g 6 ∧ a4 = g 7)))) ([.ref rd, .ref r] : List Value).toArray s 0 0 (ah_A G)) (F0 m 99 ls []) := by
              intro x2 x3 x4 h7 H locs ls hx5 hn4 eh7 fdc fuc frc fbc hR hS hl
              refine lv_aload_n hx hb dX4_faultOf_99 rfl (lv_at hl 1 rfl) ?_
              refine ah_get (ci := 3) (v := .int (nI (g 0 / 4))) (C := RX4) (T := TX4) (N := 7) hx hb hE hR hts hinX4 hown fdc rfl 4 (by decide) k29 (fun _ h9 => h9) rfl dX4_faultOf_100 ?_
              refine lv_if_eq (tgt := 118) hx hb dX4_faultOf_103 (by decide) (fun c_39 => ?_) (fun c_39 => ?_)
              · skip
                have c_39 : (g 0 / 4) = 0 := (zi_eq (by omega)).mp c_39
                refine lv_aload_n hx hb dX4_faultOf_118 rfl (lv_at hl 1 rfl) ?_
                refine ah_get (ci := 3) (v := .int (nI (g 0 / 4))) (C := RX4) (T := TX4) (N := 7) hx hb hE hR hts hinX4 hown fdc rfl 4 (by decide) k29 (fun _ h9 => h9) rfl dX4_faultOf_119 ?_
                refine lv_if_ne (tgt := 138) hx hb dX4_faultOf_122 (by decide) (fun c_40 => ?_) (fun c_40 => ?_)
                · skip
                  have c_40 : ¬ ((g 0 / 4) = 0) := fun z9 => c_40 ((zi_eq (by omega)).mpr z9)
                  refine lv_iconst (v := nI 0) hx hb dX4_faultOf_138 (by decide) ?_
                  refine ah_iret (v := nI 0) hx hb hr hlocks hR hS dX4_faultOf_139 ?_
                  have hf0 : fault g z = 0 := by unfold fault; rw [if_neg hz2, if_neg (fun q => q hkk), if_neg hwz, if_neg hn4, if_neg (fun q => q.1 (by omega)), if_neg (fun q => c_40 q.1)]
                  exact ⟨by rw [hf0]; decide, ⟨g 0 % 2, x2, x3, x4, g 0 / 4, g 1, eh7, by omega, by omega, hg 1, fun _ => ⟨rfl, rfl, rfl, hx5⟩⟩⟩
                · skip
                  have c_40 : (g 0 / 4) = 0 := (zi_eq (by omega)).mp c_40
                  refine lv_aload_n hx hb dX4_faultOf_125 rfl (lv_at hl 1 rfl) ?_
                  refine lv_aload_n hx hb dX4_faultOf_126 rfl (lv_at hl 2 rfl) ?_
                  refine ah_calli (va_runV (As := [.ref r]) (rest := []) ⟨hx, hb, hml, hown, hts⟩ (c_Rd_hasStrayBits l G h7 rd ru (g 0 % 2) x2 x3 x4 (g 0 / 4) (g 1) uf fdc fuc (by omega) (by omega) (hg 1) r b tr tb n z g frc fbc hne hz hn hg h10 h11 b10 b11) (cwV 1 hts gX4_faultOf_X4_hasStrayBits rfl rfl rfl (by decide +kernel) ⟨Nat.le_of_ble_eq_true rfl, Nat.le_of_ble_eq_true rfl⟩) (ah_preV hE hR hS fdc rfl) rfl rfl hl.1 rfl (lv_room (Nat.le_of_ble_eq_true rfl)) dX4_faultOf_127 ⟨Nat.le_of_ble_eq_true rfl, Nat.le_of_ble_eq_true rfl⟩) hS (fun r_43 h_41 H locs p_42 hR hS => ?_)
                  obtain ⟨e_44, e_45⟩ := p_42
                  rw [e_45] at hR
                  refine ah_toi e_44 ?_
                  have h03 : (if strayB g z (g 0 % 2) (g 1) = true then 1 else 0) < 2 ^ 31 := if10
                  refine lv_if_eq (tgt := 138) hx hb dX4_faultOf_130 (by decide) (fun c_46 => ?_) (fun c_46 => ?_)
                  · skip
                    have c_46 : (if strayB g z (g 0 % 2) (g 1) = true then 1 else 0) = 0 := (zi_eq (by omega)).mp c_46
                    refine lv_iconst (v := nI 0) hx hb dX4_faultOf_138 (by decide) ?_
                    refine ah_iret (v := nI 0) hx hb hr hlocks hR hS dX4_faultOf_139 ?_
                    have hf0 : fault g z = 0 := by unfold fault; rw [if_neg hz2, if_neg (fun q => q hkk), if_neg hwz, if_neg hn4, if_neg (fun q => q.1 (by omega)), if_neg (fun q => if10f c_46 q.2)]
                    exact ⟨by rw [hf0]; decide, ⟨g 0 % 2, x2, x3, x4, g 0 / 4, g 1, eh7, by omega, by omega, hg 1, fun _ => ⟨rfl, rfl, rfl, hx5⟩⟩⟩
                  · skip
                    have c_46 : ¬ ((if strayB g z (g 0 % 2) (g 1) = true then 1 else 0) = 0) := fun z9 => c_46 ((zi_eq (by omega)).mpr z9)
                    refine lv_bipush (v := (-6)) hx hb dX4_faultOf_133 (by decide) ?_
                    refine lv_goto (tgt := 139) hx hb dX4_faultOf_135 (by decide) ?_
                    refine ah_iret (v := (-6)) hx hb hr hlocks hR hS dX4_faultOf_139 ?_
                    have hf6 : fault g z = 6 := by unfold fault; rw [if_neg hz2, if_neg (fun q => q hkk), if_neg hwz, if_neg hn4, if_neg (fun q => q.1 (by omega)), if_pos ⟨c_40, if10t c_46⟩]
                    exact ⟨by rw [hf6]; decide, ⟨g 0 % 2, x2, x3, x4, g 0 / 4, g 1, eh7, by omega, by omega, hg 1, fun q => absurd q (by rw [hf6]; decide)⟩⟩
              · skip
                have c_39 : ¬ ((g 0 / 4) = 0) := fun z9 => c_39 ((zi_eq (by omega)).mpr z9)
                refine lv_aload_n hx hb dX4_faultOf_106 rfl (lv_at hl 1 rfl) ?_
                refine ah_get (ci := 3) (v := .int (nI (g 1))) (C := RX4) (T := TX4) (N := 7) hx hb hE hR hts hinX4 hown fdc rfl 5 (by decide) k32 (fun _ h9 => h9) rfl dX4_faultOf_107 ?_
                refine lv_iconst (v := nI 2) hx hb dX4_faultOf_110 (by decide) ?_
                refine lv_irem hx hb dX4_faultOf_111 (by decide) ?_
                refine ah_toi (v := nI ((g 1) % 2)) (pk_rem (by omega) (by omega) (by omega)) ?_
                refine lv_if_eq (tgt := 118) hx hb dX4_faultOf_112 (by decide) (fun c_47 => ?_) (fun c_47 => ?_)
                · skip
                  have c_47 : ((g 1) % 2) = 0 := (zi_eq (by omega)).mp c_47
                  refine lv_aload_n hx hb dX4_faultOf_118 rfl (lv_at hl 1 rfl) ?_
                  refine ah_get (ci := 3) (v := .int (nI (g 0 / 4))) (C := RX4) (T := TX4) (N := 7) hx hb hE hR hts hinX4 hown fdc rfl 4 (by decide) k29 (fun _ h9 => h9) rfl dX4_faultOf_119 ?_
                  refine lv_if_ne (tgt := 138) hx hb dX4_faultOf_122 (by decide) (fun c_48 => ?_) (fun c_48 => ?_)
                  · skip
                    have c_48 : ¬ ((g 0 / 4) = 0) := fun z9 => c_48 ((zi_eq (by omega)).mpr z9)
                    refine lv_iconst (v := nI 0) hx hb dX4_faultOf_138 (by decide) ?_
                    refine ah_iret (v := nI 0) hx hb hr hlocks hR hS dX4_faultOf_139 ?_
                    have hf0 : fault g z = 0 := by unfold fault; rw [if_neg hz2, if_neg (fun q => q hkk), if_neg hwz, if_neg hn4, if_neg (fun q => q.2 (by omega)), if_neg (fun q => c_48 q.1)]
                    exact ⟨by rw [hf0]; decide, ⟨g 0 % 2, x2, x3, x4, g 0 / 4, g 1, eh7, by omega, by omega, hg 1, fun _ => ⟨rfl, rfl, rfl, hx5⟩⟩⟩
                  · skip
                    have c_48 : (g 0 / 4) = 0 := (zi_eq (by omega)).mp c_48
                    refine lv_aload_n hx hb dX4_faultOf_125 rfl (lv_at hl 1 rfl) ?_
                    refine lv_aload_n hx hb dX4_faultOf_126 rfl (lv_at hl 2 rfl) ?_
                    refine ah_calli (va_runV (As := [.ref r]) (rest := []) ⟨hx, hb, hml, hown, hts⟩ (c_Rd_hasStrayBits l G h7 rd ru (g 0 % 2) x2 x3 x4 (g 0 / 4) (g 1) uf fdc fuc (by omega) (by omega) (hg 1) r b tr tb n z g frc fbc hne hz hn hg h10 h11 b10 b11) (cwV 1 hts gX4_faultOf_X4_hasStrayBits rfl rfl rfl (by decide +kernel) ⟨Nat.le_of_ble_eq_true rfl, Nat.le_of_ble_eq_true rfl⟩) (ah_preV hE hR hS fdc rfl) rfl rfl hl.1 rfl (lv_room (Nat.le_of_ble_eq_true rfl)) dX4_faultOf_127 ⟨Nat.le_of_ble_eq_true rfl, Nat.le_of_ble_eq_true rfl⟩) hS (fun r_51 h_49 H locs p_50 hR hS => ?_)
                    obtain ⟨e_52, e_53⟩ := p_50
                    rw [e_53] at hR
                    refine ah_toi e_52 ?_
                    have h03 : (if strayB g z (g 0 % 2) (g 1) = true then 1 else 0) < 2 ^ 31 := if10
                    refine lv_if_eq (tgt := 138) hx hb dX4_faultOf_130 (by decide) (fun c_54 => ?_) (fun c_54 => ?_)
                    · skip
                      have c_54 : (if strayB g z (g 0 % 2) (g 1) = true then 1 else 0) = 0 := (zi_eq (by omega)).mp c_54
                      refine lv_iconst (v := nI 0) hx hb dX4_faultOf_138 (by decide) ?_
                      refine ah_iret (v := nI 0) hx hb hr hlocks hR hS dX4_faultOf_139 ?_
                      have hf0 : fault g z = 0 := by unfold fault; rw [if_neg hz2, if_neg (fun q => q hkk), if_neg hwz, if_neg hn4, if_neg (fun q => q.2 (by omega)), if_neg (fun q => if10f c_54 q.2)]
                      exact ⟨by rw [hf0]; decide, ⟨g 0 % 2, x2, x3, x4, g 0 / 4, g 1, eh7, by omega, by omega, hg 1, fun _ => ⟨rfl, rfl, rfl, hx5⟩⟩⟩
                    · skip
                      have c_54 : ¬ ((if strayB g z (g 0 % 2) (g 1) = true then 1 else 0) = 0) := fun z9 => c_54 ((zi_eq (by omega)).mpr z9)
                      refine lv_bipush (v := (-6)) hx hb dX4_faultOf_133 (by decide) ?_
                      refine lv_goto (tgt := 139) hx hb dX4_faultOf_135 (by decide) ?_
                      refine ah_iret (v := (-6)) hx hb hr hlocks hR hS dX4_faultOf_139 ?_
                      have hf6 : fault g z = 6 := by unfold fault; rw [if_neg hz2, if_neg (fun q => q hkk), if_neg hwz, if_neg hn4, if_neg (fun q => q.2 (by omega)), if_pos ⟨c_48, if10t c_54⟩]
                      exact ⟨by rw [hf6]; decide, ⟨g 0 % 2, x2, x3, x4, g 0 / 4, g 1, eh7, by omega, by omega, hg 1, fun q => absurd q (by rw [hf6]; decide)⟩⟩
                · skip
                  have c_47 : ¬ (((g 1) % 2) = 0) := fun z9 => c_47 ((zi_eq (by omega)).mpr z9)
                  have hf5 : fault g z = 5 := by unfold fault; rw [if_neg hz2, if_neg (fun q => q hkk), if_neg hwz, if_neg hn4, if_pos ⟨by omega, by omega⟩]
                  refine lv_bipush (v := (-5)) hx hb dX4_faultOf_115 (by decide) ?_
                  refine ah_iret (v := (-5)) hx hb hr hlocks hR hS dX4_faultOf_117 ?_
                  exact ⟨by rw [hf5]; decide, ⟨g 0 % 2, x2, x3, x4, g 0 / 4, g 1, eh7, by omega, by omega, hg 1, fun q => absurd q (by rw [hf5]; decide)⟩⟩
            refine lv_aload_n hx hb dX4_faultOf_81 rfl (lv_at hl 1 rfl) ?_
            refine ah_get (ci := 3) (v := .int (nI (g 0 % 2))) (C := RX4) (T := TX4) (N := 7) hx hb hE hR hts hinX4 hown f_29 rfl 0 (by decide) k25 (fun _ h9 => h9) rfl dX4_faultOf_82 ?_
            refine lv_if_eq (tgt := 99) hx hb dX4_faultOf_85 (by decide) (fun c_55 => ?_) (fun c_55 => ?_)
            · skip
              have c_55 : (g 0 % 2) = 0 := (zi_eq (by omega)).mp c_55
              exact J99 rfr ps nm h_27 _ _ ls (fun q => absurd q (by omega)) (fun q => q.1 (by omega)) eh6 f_29 f_30 f_31 f_32 hR hS (lv_sub hl [0, 1, 2] rfl)
            · skip
              have c_55 : ¬ ((g 0 % 2) = 0) := fun z9 => c_55 ((zi_eq (by omega)).mpr z9)
              refine lv_aload_n hx hb dX4_faultOf_88 rfl (lv_at hl 1 rfl) ?_
              refine lv_aload_n hx hb dX4_faultOf_89 rfl (lv_at hl 2 rfl) ?_
              refine ah_calli (va_runV (As := [.ref r]) (rest := []) ⟨hx, hb, hml, hown, hts⟩ (c_Rd_isWrongHeader l G h_27 rd ru (g 0 % 2) rfr ps nm (g 0 / 4) (g 1) uf f_29 f_30 (by omega) (by omega) (hg 1) r b tr tb n z g f_31 f_32 hne hz hn hg h10 h11 b10 b11 (fun q => by unfold hlim at q; unfold bfs at hsz; split at q <;> omega)) (cwV 1 hts gX4_faultOf_X4_isWrongHeader rfl rfl rfl (by decide +kernel) ⟨Nat.le_of_ble_eq_true rfl, Nat.le_of_ble_eq_true rfl⟩) (ah_preV hE hR hS f_29 rfl) rfl rfl hl.1 rfl (lv_room (Nat.le_of_ble_eq_true rfl)) dX4_faultOf_90 ⟨Nat.le_of_ble_eq_true rfl, Nat.le_of_ble_eq_true rfl⟩) hS (fun r_58 h_56 H locs p_57 hR hS => ?_)
              by_cases hlm : g 1 < hlim (g 0 / 4)
              · skip
                obtain ⟨e8, eh8⟩ := p_57.1 hlm
                rw [eh8] at hR
                refine ah_toi e8 ?_
                have hf4 : fault g z = 4 := by unfold fault; rw [if_neg hz2, if_neg (fun q => q hkk), if_neg hwz, if_pos ⟨c_55, Or.inl hlm⟩]
                refine lv_if_eq (tgt := 99) hx hb dX4_faultOf_93 (by decide) (fun c_59 => ?_) (fun c_59 => ?_)
                · skip
                  exact absurd c_59 (by decide)
                · skip
                  refine lv_bipush (v := (-4)) hx hb dX4_faultOf_96 (by decide) ?_
                  refine ah_iret (v := (-4)) hx hb hr hlocks hR hS dX4_faultOf_98 ?_
                  exact ⟨by rw [hf4]; decide, ⟨g 0 % 2, rfr, ps, nm, g 0 / 4, g 1, eh6, by omega, by omega, hg 1, fun q => absurd q (by rw [hf4]; decide)⟩⟩
              · skip
                obtain ⟨e8, eh8⟩ := p_57.2 (by omega)
                have f_60 : h_56 rd = some (10, .inr (3, [.int (nI (g 0 % 2)), .int (nI (g 5)), .int (nI (g 6)), .int (nI (g 7)), .int (nI (g 0 / 4)), .int (nI (g 1)), .ref ru])) := by rw [eh8]; exact ah_up_s _ _ _
                have f_61 : h_56 ru = some (11, .inl (G.2.2.1 0, 160, .inl (nA uf))) := by rw [eh8]; exact ah_keep f_30 f_29 (by omega)
                have f_62 : h_56 r = some (tr, .inr (5, [.ref b, .int (nI z)])) := by rw [eh8]; exact ah_keep f_31 f_29 (by omega)
                have f_63 : h_56 b = some (tb, .inl (G.2.2.1 0, n, .inl (nA g))) := by rw [eh8]; exact ah_keep f_32 f_29 (by omega)
                have eh9 : h_56 = ah_up h rd (10, .inr (3, [.int (nI (g 0 % 2)), .int (nI (g 5)), .int (nI (g 6)), .int (nI (g 7)), .int (nI (g 0 / 4)), .int (nI (g 1)), .ref ru])) := by rw [eh8, eh6, ah_up2]
                refine ah_toi e8 ?_
                have h02 : (if hdrBad g then 1 else 0) < 2 ^ 31 := if10
                refine lv_if_eq (tgt := 99) hx hb dX4_faultOf_93 (by decide) (fun c_64 => ?_) (fun c_64 => ?_)
                · skip
                  have c_64 : (if hdrBad g then 1 else 0) = 0 := (zi_eq (by omega)).mp c_64
                  have hhb := if10f c_64
                  exact J99 (g 5) (g 6) (g 7) h_56 _ _ ls (fun _ => ⟨rfl, rfl, rfl⟩) (fun q => q.2.elim hlm hhb) eh9 f_60 f_61 f_62 f_63 hR hS (lv_sub hl [0, 1, 2] rfl)
                · skip
                  have c_64 : ¬ ((if hdrBad g then 1 else 0) = 0) := fun z9 => c_64 ((zi_eq (by omega)).mpr z9)
                  have hf4 : fault g z = 4 := by unfold fault; rw [if_neg hz2, if_neg (fun q => q hkk), if_neg hwz, if_pos ⟨c_55, Or.inr (if10t c_64)⟩]
                  refine lv_bipush (v := (-4)) hx hb dX4_faultOf_96 (by decide) ?_
                  refine ah_iret (v := (-4)) hx hb hr hlocks hR hS dX4_faultOf_98 ?_
                  exact ⟨by rw [hf4]; decide, ⟨g 0 % 2, g 5, g 6, g 7, g 0 / 4, g 1, eh9, by omega, by omega, hg 1, fun q => absurd q (by rw [hf4]; decide)⟩⟩
          · skip
            have c_38 : ¬ ((if wszP (g 0 / 4) (g 1) (z - 2) then 1 else 0) = 0) := fun z9 => c_38 ((zi_eq (by omega)).mpr z9)
            have hf3 : fault g z = 3 := by unfold fault; rw [if_neg hz2, if_neg (fun q => q hkk), if_pos (if10t c_38)]
            refine lv_bipush (v := (-3)) hx hb dX4_faultOf_78 (by decide) ?_
            refine ah_iret (v := (-3)) hx hb hr hlocks hR hS dX4_faultOf_80 ?_
            exact ⟨by rw [hf3]; decide, ⟨g 0 % 2, rfr, ps, nm, g 0 / 4, g 1, eh6, by omega, by omega, hg 1, fun q => absurd q (by rw [hf3]; decide)⟩⟩
        refine lv_aload_n hx hb dX4_faultOf_41 rfl (lv_at hl 1 rfl) ?_
        refine lv_iload_n hx hb dX4_faultOf_42 rfl (lv_at hl 0 rfl) ?_
        refine lv_iconst (v := nI 4) hx hb dX4_faultOf_43 (by decide) ?_
        refine lv_iand hx hb dX4_faultOf_44 ?_
        refine ah_toi (v := nI (4 * (g 0 / 4))) (by rw [ny_and, k4 _ (by omega) hkk]) ?_
        refine lv_if_eq (tgt := 52) hx hb dX4_faultOf_45 (by decide) (fun c_65 => ?_) (fun c_65 => ?_)
        · skip
          have c_65 : (4 * (g 0 / 4)) = 0 := (zi_eq (by omega)).mp c_65
          refine lv_iconst (v := nI 0) hx hb dX4_faultOf_52 (by decide) ?_
          refine ah_toi (v := nI (g 0 / 4)) (by rw [show g 0 / 4 = 0 by omega]) ?_
          exact J53 h_9 _ _ ls e_10 f_11 f_12 f_13 f_14 hR hS (lv_sub hl [0, 1, 2] rfl)
        · skip
          have c_65 : ¬ ((4 * (g 0 / 4)) = 0) := fun z9 => c_65 ((zi_eq (by omega)).mpr z9)
          refine lv_iconst (v := nI 1) hx hb dX4_faultOf_48 (by decide) ?_
          refine lv_goto (tgt := 53) hx hb dX4_faultOf_49 (by decide) ?_
          refine ah_toi (v := nI (g 0 / 4)) (by rw [show g 0 / 4 = 1 by omega]) ?_
          exact J53 h_9 _ _ ls e_10 f_11 f_12 f_13 f_14 hR hS (lv_sub hl [0, 1, 2] rfl)
      refine lv_aload_n hx hb dX4_faultOf_26 rfl (lv_at hl 1 rfl) ?_
      refine lv_iload_n hx hb dX4_faultOf_27 rfl (lv_at hl 0 rfl) ?_
      refine lv_iconst (v := nI 1) hx hb dX4_faultOf_28 (by decide) ?_
      refine lv_iand hx hb dX4_faultOf_29 ?_
      refine ah_toi (v := nI (g 0 % 2)) (ny_a1 _) ?_
      refine lv_if_eq (tgt := 37) hx hb dX4_faultOf_30 (by decide) (fun c_66 => ?_) (fun c_66 => ?_)
      · skip
        have c_66 : (g 0 % 2) = 0 := (zi_eq (by omega)).mp c_66
        refine lv_iconst (v := nI 0) hx hb dX4_faultOf_37 (by decide) ?_
        refine ah_toi (v := nI (g 0 % 2)) (by rw [show g 0 % 2 = 0 by omega]) ?_
        exact J38  _ _ ls fd fu fr fb hR hS (lv_sub hl [0, 1, 2] rfl)
      · skip
        have c_66 : ¬ ((g 0 % 2) = 0) := fun z9 => c_66 ((zi_eq (by omega)).mpr z9)
        refine lv_iconst (v := nI 1) hx hb dX4_faultOf_33 (by decide) ?_
        refine lv_goto (tgt := 38) hx hb dX4_faultOf_34 (by decide) ?_
        refine ah_toi (v := nI (g 0 % 2)) (by rw [show g 0 % 2 = 1 by omega]) ?_
        exact J38  _ _ ls fd fu fr fb hR hS (lv_sub hl [0, 1, 2] rfl)
    · skip
      have c_8 : ¬ ((g 0) = (g 0 &&& 5)) := fun z9 => c_8 ((nI_eq (by omega) (by omega)).mpr z9)
      have hf2 : fault g z = 2 := by unfold fault; rw [if_neg hz2, if_pos (fun q => c_8 ((k5 _ hg0).mpr q).symm)]
      refine lv_bipush (v := (-2)) hx hb dX4_faultOf_23 (by decide) ?_
      refine ah_iret (v := (-2)) hx hb hr hlocks hR hS dX4_faultOf_25 ?_
      exact ⟨by rw [hf2]; decide, ⟨hd, rfr, ps, nm, bp, el, (ah_up_id fd).symm, hhd, hbp, hhl, fun q => absurd q (by rw [hf2]; decide)⟩⟩
  · skip
    have c_1 : ¬ (2 ≤ z) := fun z9 => c_1 ((nI_leI (by omega) (by omega)).mpr z9)
    have hf1 : fault g z = 1 := if_pos (by omega)
    refine lv_iconst (v := (-1)) hx hb dX4_faultOf_8 (by decide) ?_
    refine ah_iret (v := (-1)) hx hb hr hlocks hR hS dX4_faultOf_9 ?_
    exact ⟨by rw [hf1]; decide, ⟨hd, rfr, ps, nm, bp, el, (ah_up_id fd).symm, hhd, hbp, hhl, fun q => absurd q (by rw [hf1]; decide)⟩⟩
