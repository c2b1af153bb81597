/-! ===== TextPartsModel: take, feed, read, unit, heap, forget ===== -/
theorem cpF_lt {dst src : Nat → Nat} {b k : Nat} (h1 : ∀ j, dst j < 256) (h2 : ∀ j, j < k → src j < 256) : ∀ j, cpF dst b src k j < 256 := by
  intro j; unfold cpF; split
  · exact h2 _ (by omega)
  · exact h1 j

set_option maxHeartbeats 4000000 in
set_option maxRecDepth 100000 in
theorem c_m_take (l : Launch) (G : ah_G) (h : ah_H) (y : Nat) (A : Nat → Nat) (k0 n rf pm zh lc c pt gv un : Nat) (fy : h y = some (20, .inr (8, mF A k0 n rf pm zh lc c pt gv un))) (fa1 : h (A 1) = some (21, .inl (G.2.2.1 0, 128, .inl plT))) (fa2 : h (A 2) = some (22, .inl (G.2.2.1 0, 128, .inl esT))) (la : Nat → Nat) (fa12 : h (A 12) = some (32, .inl (G.2.2.1 0, 40800, .inl (nA la)))) (mp : Nat → Nat) (fa14 : h (A 14) = some (34, .inl (G.2.2.1 0, 16, .inl (nA mp)))) (sd : Nat → Nat) (fa15 : h (A 15) = some (35, .inl (G.2.2.1 0, 16, .inl (nA sd)))) (rc : Nat → Nat) (fa16 : h (A 16) = some (36, .inl (G.2.2.1 0, 16, .inl (nA rc)))) (pr : Nat → Nat) (fa17 : h (A 17) = some (37, .inl (G.2.2.1 0, 16, .inl (nA pr)))) (th : Nat → Nat) (fa18 : h (A 18) = some (38, .inl (G.2.2.1 0, 16, .inl (nA th)))) (sm : Nat → Nat) (fa19 : h (A 19) = some (39, .inl (G.2.2.1 0, 16, .inl (nA sm)))) (pc : Nat → Int32) (fa21 : h (A 21) = some (41, .inl (G.2.2.1 0, 4080, .inl pc))) (pu : Nat → Nat) (fa22 : h (A 22) = some (42, .inl (G.2.2.1 0, 652800, .inl (nA pu)))) (pa : Nat → Nat) (fa24 : h (A 24) = some (44, .inl (G.2.2.1 0, 200, .inl (nA pa)))) (ua : Nat → Nat) (fa26 : h (A 26) = some (46, .inl (G.2.2.1 0, 200, .inl (nA ua)))) (ln : Nat → Nat) (fa7 : h (A 7) = some (27, .inl (G.2.2.1 0, 255, .inl (nA ln)))) (bb : Nat → Nat) (fa8 : h (A 8) = some (28, .inl (G.2.2.1 0, 36210, .inl (nA bb)))) (hpa : ∀ j, pa j < 256) (hc : c ≤ 16) (D : Nat → hDt) (hHR : HR c D mp sd rc pr th sm pc pu c) (hDB : DB c D) (huq : uqH c D) (hpt : pt < 2 ^ 19) (hpm : pm ≤ 255) (hln : ∀ j, j < pm → ln j ≤ 142) (hbb : ∀ j, j < pm → ∀ k, k < ln j → bb (142 * j + k) < 256) (u0 u : Int32) : Met l yX9_take wsX9_take ({ frames := 4, cells := 0, slots := 0, locals := 100 }) (ah_Pc G [.ref y, .int u0, .int u] h) (ah_Qi G (fun v h' => (¬ (inR 1000 u0 ∧ inR pm u) ∧ h' = ah_up h y (20, .inr (8, mF A 1 n rf pm zh lc c pt gv un))) ∨ (∃ j s9, j < pm ∧ u = nI j ∧ s9 < 1000 ∧ u0 = nI s9 ∧ ∃ (c' pt' lc' un' : Nat) (D' : Nat → hDt) (lt : Option (Nat × (Nat → List Nat))) (la' mp' sd' rc' pr' th' sm' : Nat → Nat) (pc' : Nat → Int32) (pu' ua' : Nat → Nat), accR c pt D (cpF pa 0 (fun k => bb (142 * j + k)) (ln j)) (ln j) s9 v c' pt' D' lt ∧ HR c' D' mp' sd' rc' pr' th' sm' pc' pu' c' ∧ (lt = none → lc' = lc ∧ la' = la) ∧ (∀ x, lt = some x → lrel x lc' la') ∧ h' y = some (20, .inr (8, mF A 0 n rf pm zh lc' c' pt' (ln j) un')) ∧ h' (A 12) = some (32, .inl (G.2.2.1 0, 40800, .inl (nA la'))) ∧ h' (A 14) = some (34, .inl (G.2.2.1 0, 16, .inl (nA mp'))) ∧ h' (A 15) = some (35, .inl (G.2.2.1 0, 16, .inl (nA sd'))) ∧ h' (A 16) = some (36, .inl (G.2.2.1 0, 16, .inl (nA rc'))) ∧ h' (A 17) = some (37, .inl (G.2.2.1 0, 16, .inl (nA pr'))) ∧ h' (A 18) = some (38, .inl (G.2.2.1 0, 16, .inl (nA th'))) ∧ h' (A 19) = some (39, .inl (G.2.2.1 0, 16, .inl (nA sm'))) ∧ h' (A 21) = some (41, .inl (G.2.2.1 0, 4080, .inl pc')) ∧ h' (A 22) = some (42, .inl (G.2.2.1 0, 652800, .inl (nA pu'))) ∧ h' (A 26) = some (46, .inl (G.2.2.1 0, 200, .inl (nA ua'))) ∧ h' (A 24) = some (44, .inl (G.2.2.1 0, 200, .inl (nA (cpF pa 0 (fun k => bb (142 * j + k)) (ln j))))) ∧ agr (fun t => t ≠ 20 ∧ t ≠ 32 ∧ ¬ (34 ≤ t ∧ t ≤ 39) ∧ t ≠ 41 ∧ t ≠ 42 ∧ t ≠ 46 ∧ t ≠ 44) h h'))) 0 0 (ah_A G) := by
  refine ah_ofW (cc := cX9_take) (maxL := 4) (ret := (some .int)) (by decide) rfl (Nat.le_of_ble_eq_true rfl) ?_
  intro p e s m below meth cd9 ls hx hb hr hml hown hlocks hname hts hE hR hS hl
  have hown : s.vm.findClass RX9 = some m.cls := hown
  have hl : lv_has ls 4 [(0, .ref y), (1, .int u0), (2, .int u)] := hl
  have k104 := hts (.fieldLink RX9 104 "TextPartsModel" "made" "I") (by decide +kernel)
  have hinX9 : ∀ w ∈ wsX90, w ∈ wsX9_take := by decide +kernel
  have k19 := hts (.fieldLink RX9 19 "TextPartsModel" "lengths" "[I") (by decide +kernel)
  have k126 := hts (.fieldLink RX9 126 "TextPartsModel" "given" "I") (by decide +kernel)
  have k58 := hts (.fieldLink RX9 58 "TextPartsModel" "part" "[I") (by decide +kernel)
  have k23 := hts (.fieldLink RX9 23 "TextPartsModel" "bytes" "[I") (by decide +kernel)
  refine lv_aload_n hx hb dX9_take_0 rfl (lv_at hl 0 rfl) ?_
  refine lv_iload_n hx hb dX9_take_1 rfl (lv_at hl 1 rfl) ?_
  refine lv_if_lt (tgt := 24) hx hb dX9_take_2 (by decide) (fun c_1 => ?_) (fun c_1 => ?_)
  · skip
    refine lv_iconst (v := nI 1) hx hb dX9_take_24 (by decide) ?_
    refine lv_goto (tgt := 29) hx hb dX9_take_25 (by decide) ?_
    refine ah_calli (va_runV (As := [.int (nI 1)]) (rest := []) ⟨hx, hb, hml, hown, hts⟩ (c_m_refuses l G h y A k0 n rf pm zh lc c pt gv un fy 1 (by decide)) (cwV 1 hts gX9_take_X9_refuses rfl rfl rfl (by decide +kernel) ⟨Nat.le_of_ble_eq_true rfl, Nat.le_of_ble_eq_true rfl⟩) (ah_preV hE hR hS fy rfl) rfl rfl hl.1 rfl (lv_room (Nat.le_of_ble_eq_true rfl)) dX9_take_29 ⟨Nat.le_of_ble_eq_true rfl, Nat.le_of_ble_eq_true rfl⟩) hS (fun r_4 h_2 H locs p_3 hR hS => ?_)
    obtain ⟨e_5, e_6⟩ := p_3
    have f_7 : h_2 y = some (20, .inr (8, mF A 1 n rf pm zh lc c pt gv un)) := by rw [e_6]; exact ah_up_s _ _ _
    have f_8 : h_2 (A 1) = some (21, .inl (G.2.2.1 0, 128, .inl plT)) := by rw [e_6]; exact ah_keep fa1 fy (by omega)
    have f_9 : h_2 (A 2) = some (22, .inl (G.2.2.1 0, 128, .inl esT)) := by rw [e_6]; exact ah_keep fa2 fy (by omega)
    have f_10 : h_2 (A 12) = some (32, .inl (G.2.2.1 0, 40800, .inl (nA la))) := by rw [e_6]; exact ah_keep fa12 fy (by omega)
    have f_11 : h_2 (A 14) = some (34, .inl (G.2.2.1 0, 16, .inl (nA mp))) := by rw [e_6]; exact ah_keep fa14 fy (by omega)
    have f_12 : h_2 (A 15) = some (35, .inl (G.2.2.1 0, 16, .inl (nA sd))) := by rw [e_6]; exact ah_keep fa15 fy (by omega)
    have f_13 : h_2 (A 16) = some (36, .inl (G.2.2.1 0, 16, .inl (nA rc))) := by rw [e_6]; exact ah_keep fa16 fy (by omega)
    have f_14 : h_2 (A 17) = some (37, .inl (G.2.2.1 0, 16, .inl (nA pr))) := by rw [e_6]; exact ah_keep fa17 fy (by omega)
    have f_15 : h_2 (A 18) = some (38, .inl (G.2.2.1 0, 16, .inl (nA th))) := by rw [e_6]; exact ah_keep fa18 fy (by omega)
    have f_16 : h_2 (A 19) = some (39, .inl (G.2.2.1 0, 16, .inl (nA sm))) := by rw [e_6]; exact ah_keep fa19 fy (by omega)
    have f_17 : h_2 (A 21) = some (41, .inl (G.2.2.1 0, 4080, .inl pc)) := by rw [e_6]; exact ah_keep fa21 fy (by omega)
    have f_18 : h_2 (A 22) = some (42, .inl (G.2.2.1 0, 652800, .inl (nA pu))) := by rw [e_6]; exact ah_keep fa22 fy (by omega)
    have f_19 : h_2 (A 24) = some (44, .inl (G.2.2.1 0, 200, .inl (nA pa))) := by rw [e_6]; exact ah_keep fa24 fy (by omega)
    have f_20 : h_2 (A 26) = some (46, .inl (G.2.2.1 0, 200, .inl (nA ua))) := by rw [e_6]; exact ah_keep fa26 fy (by omega)
    have f_21 : h_2 (A 7) = some (27, .inl (G.2.2.1 0, 255, .inl (nA ln))) := by rw [e_6]; exact ah_keep fa7 fy (by omega)
    have f_22 : h_2 (A 8) = some (28, .inl (G.2.2.1 0, 36210, .inl (nA bb))) := by rw [e_6]; exact ah_keep fa8 fy (by omega)
    refine ah_toi (v := nI 1) (by rw [e_5]; rfl) ?_
    refine lv_if_eq (tgt := 37) hx hb dX9_take_32 (by decide) (fun c_23 => ?_) (fun c_23 => ?_)
    · skip
      exact absurd c_23 (by decide)
    · skip
      refine lv_iconst (v := nI 0) hx hb dX9_take_35 (by decide) ?_
      refine ah_iret (v := nI 0) hx hb hr hlocks hR hS dX9_take_36 ?_
      exact Or.inl ⟨fun q9 => inR_neg (by decide) c_1 q9.1, e_6⟩
  · skip
    refine lv_iload_n hx hb dX9_take_5 rfl (lv_at hl 1 rfl) ?_
    refine lv_sipush (v := nI 999) hx hb dX9_take_6 (by decide) ?_
    refine lv_icmp_gt (tgt := 24) hx hb dX9_take_9 (by decide) (fun c_24 => ?_) (fun c_24 => ?_)
    · skip
      refine lv_iconst (v := nI 1) hx hb dX9_take_24 (by decide) ?_
      refine lv_goto (tgt := 29) hx hb dX9_take_25 (by decide) ?_
      refine ah_calli (va_runV (As := [.int (nI 1)]) (rest := []) ⟨hx, hb, hml, hown, hts⟩ (c_m_refuses l G h y A k0 n rf pm zh lc c pt gv un fy 1 (by decide)) (cwV 1 hts gX9_take_X9_refuses rfl rfl rfl (by decide +kernel) ⟨Nat.le_of_ble_eq_true rfl, Nat.le_of_ble_eq_true rfl⟩) (ah_preV hE hR hS fy rfl) rfl rfl hl.1 rfl (lv_room (Nat.le_of_ble_eq_true rfl)) dX9_take_29 ⟨Nat.le_of_ble_eq_true rfl, Nat.le_of_ble_eq_true rfl⟩) hS (fun r_27 h_25 H locs p_26 hR hS => ?_)
      obtain ⟨e_28, e_29⟩ := p_26
      have f_30 : h_25 y = some (20, .inr (8, mF A 1 n rf pm zh lc c pt gv un)) := by rw [e_29]; exact ah_up_s _ _ _
      have f_31 : h_25 (A 1) = some (21, .inl (G.2.2.1 0, 128, .inl plT)) := by rw [e_29]; exact ah_keep fa1 fy (by omega)
      have f_32 : h_25 (A 2) = some (22, .inl (G.2.2.1 0, 128, .inl esT)) := by rw [e_29]; exact ah_keep fa2 fy (by omega)
      have f_33 : h_25 (A 12) = some (32, .inl (G.2.2.1 0, 40800, .inl (nA la))) := by rw [e_29]; exact ah_keep fa12 fy (by omega)
      have f_34 : h_25 (A 14) = some (34, .inl (G.2.2.1 0, 16, .inl (nA mp))) := by rw [e_29]; exact ah_keep fa14 fy (by omega)
      have f_35 : h_25 (A 15) = some (35, .inl (G.2.2.1 0, 16, .inl (nA sd))) := by rw [e_29]; exact ah_keep fa15 fy (by omega)
      have f_36 : h_25 (A 16) = some (36, .inl (G.2.2.1 0, 16, .inl (nA rc))) := by rw [e_29]; exact ah_keep fa16 fy (by omega)
      have f_37 : h_25 (A 17) = some (37, .inl (G.2.2.1 0, 16, .inl (nA pr))) := by rw [e_29]; exact ah_keep fa17 fy (by omega)
      have f_38 : h_25 (A 18) = some (38, .inl (G.2.2.1 0, 16, .inl (nA th))) := by rw [e_29]; exact ah_keep fa18 fy (by omega)
      have f_39 : h_25 (A 19) = some (39, .inl (G.2.2.1 0, 16, .inl (nA sm))) := by rw [e_29]; exact ah_keep fa19 fy (by omega)
      have f_40 : h_25 (A 21) = some (41, .inl (G.2.2.1 0, 4080, .inl pc)) := by rw [e_29]; exact ah_keep fa21 fy (by omega)
      have f_41 : h_25 (A 22) = some (42, .inl (G.2.2.1 0, 652800, .inl (nA pu))) := by rw [e_29]; exact ah_keep fa22 fy (by omega)
      have f_42 : h_25 (A 24) = some (44, .inl (G.2.2.1 0, 200, .inl (nA pa))) := by rw [e_29]; exact ah_keep fa24 fy (by omega)
      have f_43 : h_25 (A 26) = some (46, .inl (G.2.2.1 0, 200, .inl (nA ua))) := by rw [e_29]; exact ah_keep fa26 fy (by omega)
      have f_44 : h_25 (A 7) = some (27, .inl (G.2.2.1 0, 255, .inl (nA ln))) := by rw [e_29]; exact ah_keep fa7 fy (by omega)
      have f_45 : h_25 (A 8) = some (28, .inl (G.2.2.1 0, 36210, .inl (nA bb))) := by rw [e_29]; exact ah_keep fa8 fy (by omega)
      refine ah_toi (v := nI 1) (by rw [e_28]; rfl) ?_
      refine lv_if_eq (tgt := 37) hx hb dX9_take_32 (by decide) (fun c_46 => ?_) (fun c_46 => ?_)
      · skip
        exact absurd c_46 (by decide)
      · skip
        refine lv_iconst (v := nI 0) hx hb dX9_take_35 (by decide) ?_
        refine ah_iret (v := nI 0) hx hb hr hlocks hR hS dX9_take_36 ?_
        exact Or.inl ⟨fun q9 => inR_gt (n := 999) (by decide) (Int32.not_le.mpr c_24) q9.1, e_29⟩
    · skip
      obtain ⟨s9, hs9, es9⟩ := inR_in (n := 999) (by decide) c_1 (Int32.not_lt.mp c_24)
      rw [es9] at hl
      refine lv_iload_n hx hb dX9_take_12 rfl (lv_at hl 2 rfl) ?_
      refine lv_if_lt (tgt := 24) hx hb dX9_take_13 (by decide) (fun c_47 => ?_) (fun c_47 => ?_)
      · skip
        refine lv_iconst (v := nI 1) hx hb dX9_take_24 (by decide) ?_
        refine lv_goto (tgt := 29) hx hb dX9_take_25 (by decide) ?_
        refine ah_calli (va_runV (As := [.int (nI 1)]) (rest := []) ⟨hx, hb, hml, hown, hts⟩ (c_m_refuses l G h y A k0 n rf pm zh lc c pt gv un fy 1 (by decide)) (cwV 1 hts gX9_take_X9_refuses rfl rfl rfl (by decide +kernel) ⟨Nat.le_of_ble_eq_true rfl, Nat.le_of_ble_eq_true rfl⟩) (ah_preV hE hR hS fy rfl) rfl rfl hl.1 rfl (lv_room (Nat.le_of_ble_eq_true rfl)) dX9_take_29 ⟨Nat.le_of_ble_eq_true rfl, Nat.le_of_ble_eq_true rfl⟩) hS (fun r_50 h_48 H locs p_49 hR hS => ?_)
        obtain ⟨e_51, e_52⟩ := p_49
        have f_53 : h_48 y = some (20, .inr (8, mF A 1 n rf pm zh lc c pt gv un)) := by rw [e_52]; exact ah_up_s _ _ _
        have f_54 : h_48 (A 1) = some (21, .inl (G.2.2.1 0, 128, .inl plT)) := by rw [e_52]; exact ah_keep fa1 fy (by omega)
        have f_55 : h_48 (A 2) = some (22, .inl (G.2.2.1 0, 128, .inl esT)) := by rw [e_52]; exact ah_keep fa2 fy (by omega)
        have f_56 : h_48 (A 12) = some (32, .inl (G.2.2.1 0, 40800, .inl (nA la))) := by rw [e_52]; exact ah_keep fa12 fy (by omega)
        have f_57 : h_48 (A 14) = some (34, .inl (G.2.2.1 0, 16, .inl (nA mp))) := by rw [e_52]; exact ah_keep fa14 fy (by omega)
        have f_58 : h_48 (A 15) = some (35, .inl (G.2.2.1 0, 16, .inl (nA sd))) := by rw [e_52]; exact ah_keep fa15 fy (by omega)
        have f_59 : h_48 (A 16) = some (36, .inl (G.2.2.1 0, 16, .inl (nA rc))) := by rw [e_52]; exact ah_keep fa16 fy (by omega)
        have f_60 : h_48 (A 17) = some (37, .inl (G.2.2.1 0, 16, .inl (nA pr))) := by rw [e_52]; exact ah_keep fa17 fy (by omega)
        have f_61 : h_48 (A 18) = some (38, .inl (G.2.2.1 0, 16, .inl (nA th))) := by rw [e_52]; exact ah_keep fa18 fy (by omega)
        have f_62 : h_48 (A 19) = some (39, .inl (G.2.2.1 0, 16, .inl (nA sm))) := by rw [e_52]; exact ah_keep fa19 fy (by omega)
        have f_63 : h_48 (A 21) = some (41, .inl (G.2.2.1 0, 4080, .inl pc)) := by rw [e_52]; exact ah_keep fa21 fy (by omega)
        have f_64 : h_48 (A 22) = some (42, .inl (G.2.2.1 0, 652800, .inl (nA pu))) := by rw [e_52]; exact ah_keep fa22 fy (by omega)
        have f_65 : h_48 (A 24) = some (44, .inl (G.2.2.1 0, 200, .inl (nA pa))) := by rw [e_52]; exact ah_keep fa24 fy (by omega)
        have f_66 : h_48 (A 26) = some (46, .inl (G.2.2.1 0, 200, .inl (nA ua))) := by rw [e_52]; exact ah_keep fa26 fy (by omega)
        have f_67 : h_48 (A 7) = some (27, .inl (G.2.2.1 0, 255, .inl (nA ln))) := by rw [e_52]; exact ah_keep fa7 fy (by omega)
        have f_68 : h_48 (A 8) = some (28, .inl (G.2.2.1 0, 36210, .inl (nA bb))) := by rw [e_52]; exact ah_keep fa8 fy (by omega)
        refine ah_toi (v := nI 1) (by rw [e_51]; rfl) ?_
        refine lv_if_eq (tgt := 37) hx hb dX9_take_32 (by decide) (fun c_69 => ?_) (fun c_69 => ?_)
        · skip
          exact absurd c_69 (by decide)
        · skip
          refine lv_iconst (v := nI 0) hx hb dX9_take_35 (by decide) ?_
          refine ah_iret (v := nI 0) hx hb hr hlocks hR hS dX9_take_36 ?_
          exact Or.inl ⟨fun q9 => inR_neg (by omega) c_47 q9.2, e_52⟩
      · skip
        refine lv_iload_n hx hb dX9_take_16 rfl (lv_at hl 2 rfl) ?_
        refine lv_aload_n hx hb dX9_take_17 rfl (lv_at hl 0 rfl) ?_
        refine ah_get (ci := 8) (v := .int (nI pm)) (C := RX9) (T := TX9) (N := 27) hx hb hE hR hts hinX9 hown fy rfl 6 (by decide) k104 (fun _ h9 => h9) rfl dX9_take_18 ?_
        refine lv_icmp_lt (tgt := 28) hx hb dX9_take_21 (by decide) (fun c_70 => ?_) (fun c_70 => ?_)
        · skip
          obtain ⟨j, hj, ej⟩ := ix_of c_47 (Int32.not_le.mpr c_70) (show pm < 2 ^ 31 by omega)
          rw [ej] at hl
          have hlj := hln j hj
          refine lv_iconst (v := nI 0) hx hb dX9_take_28 (by decide) ?_
          refine ah_calli (va_runV (As := [.int (nI 0)]) (rest := []) ⟨hx, hb, hml, hown, hts⟩ (c_m_refuses l G h y A k0 n rf pm zh lc c pt gv un fy 0 (by decide)) (cwV 1 hts gX9_take_X9_refuses rfl rfl rfl (by decide +kernel) ⟨Nat.le_of_ble_eq_true rfl, Nat.le_of_ble_eq_true rfl⟩) (ah_preV hE hR hS fy rfl) rfl rfl hl.1 rfl (lv_room (Nat.le_of_ble_eq_true rfl)) dX9_take_29 ⟨Nat.le_of_ble_eq_true rfl, Nat.le_of_ble_eq_true rfl⟩) hS (fun r_73 h_71 H locs p_72 hR hS => ?_)
          obtain ⟨e_74, e_75⟩ := p_72
          have f_76 : h_71 y = some (20, .inr (8, mF A 0 n rf pm zh lc c pt gv un)) := by rw [e_75]; exact ah_up_s _ _ _
          have f_77 : h_71 (A 1) = some (21, .inl (G.2.2.1 0, 128, .inl plT)) := by rw [e_75]; exact ah_keep fa1 fy (by omega)
          have f_78 : h_71 (A 2) = some (22, .inl (G.2.2.1 0, 128, .inl esT)) := by rw [e_75]; exact ah_keep fa2 fy (by omega)
          have f_79 : h_71 (A 12) = some (32, .inl (G.2.2.1 0, 40800, .inl (nA la))) := by rw [e_75]; exact ah_keep fa12 fy (by omega)
          have f_80 : h_71 (A 14) = some (34, .inl (G.2.2.1 0, 16, .inl (nA mp))) := by rw [e_75]; exact ah_keep fa14 fy (by omega)
          have f_81 : h_71 (A 15) = some (35, .inl (G.2.2.1 0, 16, .inl (nA sd))) := by rw [e_75]; exact ah_keep fa15 fy (by omega)
          have f_82 : h_71 (A 16) = some (36, .inl (G.2.2.1 0, 16, .inl (nA rc))) := by rw [e_75]; exact ah_keep fa16 fy (by omega)
          have f_83 : h_71 (A 17) = some (37, .inl (G.2.2.1 0, 16, .inl (nA pr))) := by rw [e_75]; exact ah_keep fa17 fy (by omega)
          have f_84 : h_71 (A 18) = some (38, .inl (G.2.2.1 0, 16, .inl (nA th))) := by rw [e_75]; exact ah_keep fa18 fy (by omega)
          have f_85 : h_71 (A 19) = some (39, .inl (G.2.2.1 0, 16, .inl (nA sm))) := by rw [e_75]; exact ah_keep fa19 fy (by omega)
          have f_86 : h_71 (A 21) = some (41, .inl (G.2.2.1 0, 4080, .inl pc)) := by rw [e_75]; exact ah_keep fa21 fy (by omega)
          have f_87 : h_71 (A 22) = some (42, .inl (G.2.2.1 0, 652800, .inl (nA pu))) := by rw [e_75]; exact ah_keep fa22 fy (by omega)
          have f_88 : h_71 (A 24) = some (44, .inl (G.2.2.1 0, 200, .inl (nA pa))) := by rw [e_75]; exact ah_keep fa24 fy (by omega)
          have f_89 : h_71 (A 26) = some (46, .inl (G.2.2.1 0, 200, .inl (nA ua))) := by rw [e_75]; exact ah_keep fa26 fy (by omega)
          have f_90 : h_71 (A 7) = some (27, .inl (G.2.2.1 0, 255, .inl (nA ln))) := by rw [e_75]; exact ah_keep fa7 fy (by omega)
          have f_91 : h_71 (A 8) = some (28, .inl (G.2.2.1 0, 36210, .inl (nA bb))) := by rw [e_75]; exact ah_keep fa8 fy (by omega)
          refine ah_toi (v := nI 0) (by rw [e_74]; rfl) ?_
          refine lv_if_eq (tgt := 37) hx hb dX9_take_32 (by decide) (fun c_92 => ?_) (fun c_92 => ?_)
          · skip
            refine lv_aload_n hx hb dX9_take_37 rfl (lv_at hl 0 rfl) ?_
            refine lv_aload_n hx hb dX9_take_38 rfl (lv_at hl 0 rfl) ?_
            refine ah_get (ci := 8) (v := .ref (A 7)) (C := RX9) (T := TX9) (N := 27) hx hb hE hR hts hinX9 hown f_76 rfl 7 (by decide) k19 (fun _ h9 => h9) rfl dX9_take_39 ?_
            refine lv_iload_n hx hb dX9_take_42 rfl (lv_at hl 2 rfl) ?_
            refine ah_iald (i := j) hx hb hE hR f_90 (by omega) (by omega) dX9_take_43 ?_
            refine ah_toi (v := nI (ln j)) rfl ?_
            refine ah_put (ci := 8) (v := .int (nI (ln j))) (ty := .int) (C := RX9) (T := TX9) (N := 27) hx hb hE hR hS hts hinX9 tyX9 tyX9_ok nmX9 hown f_76 rfl 23 (by decide) k126 (fun _ h9 => h9) rfl (by decide +kernel) rfl rfl (Nat.le_of_ble_eq_true rfl) dX9_take_44 (fun H locs hR hS => ?_)
            obtain ⟨h_93, e_94⟩ : ∃ zz9, zz9 = ah_up h_71 y (20, .inr (8, mF A 0 n rf pm zh lc c pt (ln j) un)) := ⟨_, rfl⟩
            have hR : ah_R G h_93 H := by rw [e_94]; exact hR
            have f_95 : h_93 y = some (20, .inr (8, mF A 0 n rf pm zh lc c pt (ln j) un)) := by rw [e_94]; exact ah_up_s _ _ _
            have f_96 : h_93 (A 1) = some (21, .inl (G.2.2.1 0, 128, .inl plT)) := by rw [e_94]; exact ah_keep f_77 f_76 (by omega)
            have f_97 : h_93 (A 2) = some (22, .inl (G.2.2.1 0, 128, .inl esT)) := by rw [e_94]; exact ah_keep f_78 f_76 (by omega)
            have f_98 : h_93 (A 12) = some (32, .inl (G.2.2.1 0, 40800, .inl (nA la))) := by rw [e_94]; exact ah_keep f_79 f_76 (by omega)
            have f_99 : h_93 (A 14) = some (34, .inl (G.2.2.1 0, 16, .inl (nA mp))) := by rw [e_94]; exact ah_keep f_80 f_76 (by omega)
            have f_100 : h_93 (A 15) = some (35, .inl (G.2.2.1 0, 16, .inl (nA sd))) := by rw [e_94]; exact ah_keep f_81 f_76 (by omega)
            have f_101 : h_93 (A 16) = some (36, .inl (G.2.2.1 0, 16, .inl (nA rc))) := by rw [e_94]; exact ah_keep f_82 f_76 (by omega)
            have f_102 : h_93 (A 17) = some (37, .inl (G.2.2.1 0, 16, .inl (nA pr))) := by rw [e_94]; exact ah_keep f_83 f_76 (by omega)
            have f_103 : h_93 (A 18) = some (38, .inl (G.2.2.1 0, 16, .inl (nA th))) := by rw [e_94]; exact ah_keep f_84 f_76 (by omega)
            have f_104 : h_93 (A 19) = some (39, .inl (G.2.2.1 0, 16, .inl (nA sm))) := by rw [e_94]; exact ah_keep f_85 f_76 (by omega)
            have f_105 : h_93 (A 21) = some (41, .inl (G.2.2.1 0, 4080, .inl pc)) := by rw [e_94]; exact ah_keep f_86 f_76 (by omega)
            have f_106 : h_93 (A 22) = some (42, .inl (G.2.2.1 0, 652800, .inl (nA pu))) := by rw [e_94]; exact ah_keep f_87 f_76 (by omega)
            have f_107 : h_93 (A 24) = some (44, .inl (G.2.2.1 0, 200, .inl (nA pa))) := by rw [e_94]; exact ah_keep f_88 f_76 (by omega)
            have f_108 : h_93 (A 26) = some (46, .inl (G.2.2.1 0, 200, .inl (nA ua))) := by rw [e_94]; exact ah_keep f_89 f_76 (by omega)
            have f_109 : h_93 (A 7) = some (27, .inl (G.2.2.1 0, 255, .inl (nA ln))) := by rw [e_94]; exact ah_keep f_90 f_76 (by omega)
            have f_110 : h_93 (A 8) = some (28, .inl (G.2.2.1 0, 36210, .inl (nA bb))) := by rw [e_94]; exact ah_keep f_91 f_76 (by omega)
            refine lv_iconst (v := nI 0) hx hb dX9_take_47 (by decide) ?_
            refine lv_istore_n (lv' := [(3, .int (nI 0)), (0, .ref y), (1, .int (nI s9)), (2, .int (nI j))]) hx hb dX9_take_48 rfl hl (by decide) rfl (fun ls hl => ?_)
            have ag1 : agr (fun t => t ≠ 20 ∧ t ≠ 32 ∧ ¬ (34 ≤ t ∧ t ≤ 39) ∧ t ≠ 41 ∧ t ≠ 42 ∧ t ≠ 46 ∧ t ≠ 44) h h_93 := by rw [e_94]; refine agr.up ?_ f_76 (by omega); rw [e_75]; refine agr.up ?_ fy (by omega); exact agr.rf
            have p0 : h_93 (A 24) = some (44, .inl (G.2.2.1 0, 200, .inl (nA (cpF pa 0 (fun k => bb (142 * j + k)) 0)))) := by rw [cpF_0]; exact f_107
            have L49 : ∀ (N49 : Nat) (k : Nat) (h2 : ah_H) (H : Heap) (locs : List Loc) (ls : Array Slot), ln j - k < N49 → (k ≤ ln j) → (agr (fun t => t ≠ 20 ∧ t ≠ 32 ∧ ¬ (34 ≤ t ∧ t ≤ 39) ∧ t ≠ 41 ∧ t ≠ 42 ∧ t ≠ 46 ∧ t ≠ 44) h h2) → (h2 y = some (20, .inr (8, mF A 0 n rf pm zh lc c pt (ln j) un))) → (h2 (A 1) = some (21, .inl (G.2.2.1 0, 128, .inl plT))) → (h2 (A 2) = some (22, .inl (G.2.2.1 0, 128, .inl esT))) → (h2 (A 12) = some (32, .inl (G.2.2.1 0, 40800, .inl (nA la)))) → (h2 (A 14) = some (34, .inl (G.2.2.1 0, 16, .inl (nA mp)))) → (h2 (A 15) = some (35, .inl (G.2.2.1 0, 16, .inl (nA sd)))) → (h2 (A 16) = some (36, .inl (G.2.2.1 0, 16, .inl (nA rc)))) → (h2 (A 17) = some (37, .inl (G.2.2.1 0, 16, .inl (nA pr)))) → (h2 (A 18) = some (38, .inl (G.2.2.1 0, 16, .inl (nA th)))) → (h2 (A 19) = some (39, .inl (G.2.2.1 0, 16, .inl (nA sm)))) → (h2 (A 21) = some (41, .inl (G.2.2.1 0, 4080, .inl pc))) → (h2 (A 22) = some (42, .inl (G.2.2.1 0, 652800, .inl (nA pu)))) → (h2 (A 24) = some (44, .inl (G.2.2.1 0, 200, .inl (nA (cpF pa 0 (fun k => bb (142 * j + k)) k))))) → (h2 (A 26) = some (46, .inl (G.2.2.1 0, 200, .inl (nA ua)))) → (h2 (A 7) = some (27, .inl (G.2.2.1 0, 255, .inl (nA ln)))) → (h2 (A 8) = some (28, .inl (G.2.2.1 0, 36210, .inl (nA bb)))) → ah_R G h2 H → va_S (ah_A G) s.heap H locs → lv_has ls 4 [(3, .int (nI k)), (0, .ref y), (1, .int (nI s9)), (2, .int (nI j))] → W p l e ({ frames := 4, cells := 0, slots := 0, locals := 100 }) s m ([.ref y, .int u0, .int u] : List Value).toArray below meth cd9 H locs 0 0 (MQ below (ah_Qi G (fun v h' => (¬ (inR 1000 u0 ∧ inR pm u) ∧ h' = ah_up h y (20, .inr (8, mF A 1 n rf pm zh lc c pt gv un))) ∨ (∃ j s9, j < pm ∧ u = nI j ∧ s9 < 1000 ∧ u0 = nI s9 ∧ ∃ (c' pt' lc' un' : Nat) (D' : Nat → hDt) (lt : Option (Nat × (Nat → List Nat))) (la' mp' sd' rc' pr' th' sm' : Nat → Nat) (pc' : Nat → Int32) (pu' ua' : Nat → Nat), accR c pt D (cpF pa 0 (fun k => bb (142 * j + k)) (ln j)) (ln j) s9 v c' pt' D' lt ∧ HR c' D' mp' sd' rc' pr' th' sm' pc' pu' c' ∧ (lt = none → lc' = lc ∧ la' = la) ∧ (∀ x, lt = some x → lrel x lc' la') ∧ h' y = some (20, .inr (8, mF A 0 n rf pm zh lc' c' pt' (ln j) un')) ∧ h' (A 12) = some (32, .inl (G.2.2.1 0, 40800, .inl (nA la'))) ∧ h' (A 14) = some (34, .inl (G.2.2.1 0, 16, .inl (nA mp'))) ∧ h' (A 15) = some (35, .inl (G.2.2.1 0, 16, .inl (nA sd'))) ∧ h' (A 16) = some (36, .inl (G.2.2.1 0, 16, .inl (nA rc'))) ∧ h' (A 17) = some (37, .inl (G.2.2.1 0, 16, .inl (nA pr'))) ∧ h' (A 18) = some (38, .inl (G.2.2.1 0, 16, .inl (nA th'))) ∧ h' (A 19) = some (39, .inl (G.2.2.1 0, 16, .inl (nA sm'))) ∧ h' (A 21) = some (41, .inl (G.2.2.1 0, 4080, .inl pc')) ∧ h' (A 22) = some (42, .inl (G.2.2.1 0, 652800, .inl (nA pu'))) ∧ h' (A 26) = some (46, .inl (G.2.2.1 0, 200, .inl (nA ua'))) ∧ h' (A 24) = some (44, .inl (G.2.2.1 0, 200, .inl (nA (cpF pa 0 (fun k => bb (142 * j + k)) (ln j))))) ∧ agr (fun t => t ≠ 20 ∧ t ≠ 32 ∧ ¬ (34 ≤ t ∧ t ≤ 39) ∧ t ≠ 41 ∧ t ≠ 42 ∧ t ≠ 46 ∧ t ≠ 44) h h'))) ([.ref y, .int u0, .int u] : List Value).toArray s 0 0 (ah_A G)) (F0 m 49 ls []) := by
              intro N49
              induction N49 with
              | zero => intro k h2 H locs ls hN; exact absurd hN (Nat.not_lt_zero _)
              | succ N49 ih49 =>
                intro k h2 H locs ls hN49 hk ag2 fy2 fa12 fa22 fa122 fa142 fa152 fa162 fa172 fa182 fa192 fa212 fa222 fa242 fa262 fa72 fa82 hR hS hl
                refine lv_iload_n hx hb dX9_take_49 rfl (lv_at hl 0 rfl) ?_
                refine lv_aload_n hx hb dX9_take_50 rfl (lv_at hl 1 rfl) ?_
                refine ah_get (ci := 8) (v := .int (nI (ln j))) (C := RX9) (T := TX9) (N := 27) hx hb hE hR hts hinX9 hown fy2 rfl 23 (by decide) k126 (fun _ h9 => h9) rfl dX9_take_51 ?_
                refine lv_icmp_ge (tgt := 81) hx hb dX9_take_54 (by decide) (fun c_111 => ?_) (fun c_111 => ?_)
                · skip
                  have c_111 : (ln j) ≤ k := (nI_leI (by omega) (by omega)).mp c_111
                  have ekk : k = ln j := by omega
                  have f_112 : h2 (A 24) = some (44, .inl (G.2.2.1 0, 200, .inl (nA (cpF pa 0 (fun k => bb (142 * j + k)) (ln j))))) := by rw [← ekk]; exact fa242
                  refine lv_aload_n hx hb dX9_take_81 rfl (lv_at hl 1 rfl) ?_
                  refine lv_iload_n hx hb dX9_take_82 rfl (lv_at hl 2 rfl) ?_
                  refine ah_calli (va_runV (As := [.int (nI s9)]) (rest := []) ⟨hx, hb, hml, hown, hts⟩ (c_m_reads l G h2 y A 0 n rf pm zh lc c pt (ln j) un fy2 fa12 fa22 la fa122 mp fa142 sd fa152 rc fa162 pr fa172 th fa182 sm fa192 pc fa212 pu fa222 (cpF pa 0 (fun k => bb (142 * j + k)) (ln j)) f_112 ua fa262 (cpF_lt hpa (fun k9 hk9 => hbb j hj k9 hk9)) (by omega) hc D hHR hDB huq hpt s9 (by omega)) (cwV 1 hts gX9_take_X9_reads rfl rfl rfl (by decide +kernel) ⟨Nat.le_of_ble_eq_true rfl, Nat.le_of_ble_eq_true rfl⟩) (ah_preV hE hR hS fy2 rfl) rfl rfl hl.1 rfl (lv_room (Nat.le_of_ble_eq_true rfl)) dX9_take_83 ⟨Nat.le_of_ble_eq_true rfl, Nat.le_of_ble_eq_true rfl⟩) hS (fun r_115 h_113 H locs p_114 hR hS => ?_)
                  obtain ⟨c7, pt7, lc7, un7, D7, lt7, l7, a14, a15, a16, a17, a18, a19, a21, a22, a26, acc7, hr7, ln7, ls7, gy, g12, g14, g15, g16, g17, g18, g19, g21, g22, g26, ag7⟩ := p_114
                  have g24 : h_113 (A 24) = some (44, .inl (G.2.2.1 0, 200, .inl (nA (cpF pa 0 (fun k => bb (142 * j + k)) (ln j))))) := ag7 _ _ _ (by omega) f_112
                  refine ah_iret (v := r_115) hx hb hr hlocks hR hS dX9_take_86 ?_
                  exact Or.inr ⟨j, s9, hj, ej, hs9, es9, c7, pt7, lc7, un7, D7, lt7, l7, a14, a15, a16, a17, a18, a19, a21, a22, a26, acc7, hr7, ln7, ls7, gy, g12, g14, g15, g16, g17, g18, g19, g21, g22, g26, g24, ag2.tr (ag7.weak (fun t q => by omega))⟩
                · skip
                  have c_111 : ¬ ((ln j) ≤ k) := fun z9 => c_111 ((nI_leI (by omega) (by omega)).mpr z9)
                  refine lv_aload_n hx hb dX9_take_57 rfl (lv_at hl 1 rfl) ?_
                  refine ah_get (ci := 8) (v := .ref (A 24)) (C := RX9) (T := TX9) (N := 27) hx hb hE hR hts hinX9 hown fy2 rfl 24 (by decide) k58 (fun _ h9 => h9) rfl dX9_take_58 ?_
                  refine lv_iload_n hx hb dX9_take_61 rfl (lv_at hl 0 rfl) ?_
                  refine lv_aload_n hx hb dX9_take_62 rfl (lv_at hl 1 rfl) ?_
                  refine ah_get (ci := 8) (v := .ref (A 8)) (C := RX9) (T := TX9) (N := 27) hx hb hE hR hts hinX9 hown fy2 rfl 8 (by decide) k23 (fun _ h9 => h9) rfl dX9_take_63 ?_
                  refine lv_sipush (v := nI 142) hx hb dX9_take_66 (by decide) ?_
                  refine lv_iload_n hx hb dX9_take_69 rfl (lv_at hl 3 rfl) ?_
                  refine lv_imul hx hb dX9_take_70 ?_
                  refine ah_toi (v := nI (142 * j)) (pk_mul _ _) ?_
                  refine lv_iload_n hx hb dX9_take_71 rfl (lv_at hl 0 rfl) ?_
                  refine lv_iadd hx hb dX9_take_72 ?_
                  refine ah_toi (v := nI ((142 * j) + k)) (nI_add _ _) ?_
                  refine ah_iald (i := ((142 * j) + k)) hx hb hE hR fa82 (by omega) (by omega) dX9_take_73 ?_
                  refine ah_toi (v := nI (bb ((142 * j) + k))) rfl ?_
                  refine ah_iast (i := k) hx hb hE hR hS fa242 (by omega) (by omega) dX9_take_74 (fun H locs hR hS => ?_)
                  rw [nA_upd] at hR
                  obtain ⟨h_116, e_117⟩ : ∃ zz9, zz9 = ah_up h2 (A 24) (44, .inl (G.2.2.1 0, 200, .inl (nA (gU (cpF pa 0 (fun k => bb (142 * j + k)) k) k (bb ((142 * j) + k)))))) := ⟨_, rfl⟩
                  have hR : ah_R G h_116 H := by rw [e_117]; exact hR
                  have f_118 : h_116 y = some (20, .inr (8, mF A 0 n rf pm zh lc c pt (ln j) un)) := by rw [e_117]; exact ah_keep fy2 fa242 (by omega)
                  have f_119 : h_116 (A 1) = some (21, .inl (G.2.2.1 0, 128, .inl plT)) := by rw [e_117]; exact ah_keep fa12 fa242 (by omega)
                  have f_120 : h_116 (A 2) = some (22, .inl (G.2.2.1 0, 128, .inl esT)) := by rw [e_117]; exact ah_keep fa22 fa242 (by omega)
                  have f_121 : h_116 (A 12) = some (32, .inl (G.2.2.1 0, 40800, .inl (nA la))) := by rw [e_117]; exact ah_keep fa122 fa242 (by omega)
                  have f_122 : h_116 (A 14) = some (34, .inl (G.2.2.1 0, 16, .inl (nA mp))) := by rw [e_117]; exact ah_keep fa142 fa242 (by omega)
                  have f_123 : h_116 (A 15) = some (35, .inl (G.2.2.1 0, 16, .inl (nA sd))) := by rw [e_117]; exact ah_keep fa152 fa242 (by omega)
                  have f_124 : h_116 (A 16) = some (36, .inl (G.2.2.1 0, 16, .inl (nA rc))) := by rw [e_117]; exact ah_keep fa162 fa242 (by omega)
                  have f_125 : h_116 (A 17) = some (37, .inl (G.2.2.1 0, 16, .inl (nA pr))) := by rw [e_117]; exact ah_keep fa172 fa242 (by omega)
                  have f_126 : h_116 (A 18) = some (38, .inl (G.2.2.1 0, 16, .inl (nA th))) := by rw [e_117]; exact ah_keep fa182 fa242 (by omega)
                  have f_127 : h_116 (A 19) = some (39, .inl (G.2.2.1 0, 16, .inl (nA sm))) := by rw [e_117]; exact ah_keep fa192 fa242 (by omega)
                  have f_128 : h_116 (A 21) = some (41, .inl (G.2.2.1 0, 4080, .inl pc)) := by rw [e_117]; exact ah_keep fa212 fa242 (by omega)
                  have f_129 : h_116 (A 22) = some (42, .inl (G.2.2.1 0, 652800, .inl (nA pu))) := by rw [e_117]; exact ah_keep fa222 fa242 (by omega)
                  have f_130 : h_116 (A 24) = some (44, .inl (G.2.2.1 0, 200, .inl (nA (gU (cpF pa 0 (fun k => bb (142 * j + k)) k) k (bb ((142 * j) + k)))))) := by rw [e_117]; exact ah_up_s _ _ _
                  have f_131 : h_116 (A 26) = some (46, .inl (G.2.2.1 0, 200, .inl (nA ua))) := by rw [e_117]; exact ah_keep fa262 fa242 (by omega)
                  have f_132 : h_116 (A 7) = some (27, .inl (G.2.2.1 0, 255, .inl (nA ln))) := by rw [e_117]; exact ah_keep fa72 fa242 (by omega)
                  have f_133 : h_116 (A 8) = some (28, .inl (G.2.2.1 0, 36210, .inl (nA bb))) := by rw [e_117]; exact ah_keep fa82 fa242 (by omega)
                  have f_134 : h_116 (A 24) = some (44, .inl (G.2.2.1 0, 200, .inl (nA (cpF pa 0 (fun k => bb (142 * j + k)) (k + 1))))) := by rw [← cpF_s0]; exact f_130
                  refine lv_iinc (v := nI (k + 1)) (lv' := [(3, .int (nI (k + 1))), (0, .ref y), (1, .int (nI s9)), (2, .int (nI j))]) hx hb dX9_take_75 hl (k := 0) rfl (show nI k + Int32.ofInt 1 = nI (k + 1) from nI_add _ 1) (by decide) rfl (fun ls hl => ?_)
                  refine lv_goto (tgt := 49) hx hb dX9_take_78 (by decide) ?_
                  exact ih49  (k + 1) h_116 _ _ ls (by omega) (by omega) (ag2.tr (by rw [e_117]; refine agr.up ?_ fa242 (by omega); exact agr.rf)) f_118 f_119 f_120 f_121 f_122 f_123 f_124 f_125 f_126 f_127 f_128 f_129 f_134 f_131 f_132 f_133 hR hS (lv_sub hl [0, 1, 2, 3] rfl)
            exact L49 ((ln j - 0) + 1) 0 h_93 _ _ ls (by omega) (by omega) ag1 f_95 f_96 f_97 f_98 f_99 f_100 f_101 f_102 f_103 f_104 f_105 f_106 p0 f_108 f_109 f_110 hR hS (lv_sub hl [0, 1, 2, 3] rfl)
          · skip
            exact absurd (by decide) c_92
        · skip
          refine lv_iconst (v := nI 1) hx hb dX9_take_24 (by decide) ?_
          refine lv_goto (tgt := 29) hx hb dX9_take_25 (by decide) ?_
          refine ah_calli (va_runV (As := [.int (nI 1)]) (rest := []) ⟨hx, hb, hml, hown, hts⟩ (c_m_refuses l G h y A k0 n rf pm zh lc c pt gv un fy 1 (by decide)) (cwV 1 hts gX9_take_X9_refuses rfl rfl rfl (by decide +kernel) ⟨Nat.le_of_ble_eq_true rfl, Nat.le_of_ble_eq_true rfl⟩) (ah_preV hE hR hS fy rfl) rfl rfl hl.1 rfl (lv_room (Nat.le_of_ble_eq_true rfl)) dX9_take_29 ⟨Nat.le_of_ble_eq_true rfl, Nat.le_of_ble_eq_true rfl⟩) hS (fun r_137 h_135 H locs p_136 hR hS => ?_)
          obtain ⟨e_138, e_139⟩ := p_136
          have f_140 : h_135 y = some (20, .inr (8, mF A 1 n rf pm zh lc c pt gv un)) := by rw [e_139]; exact ah_up_s _ _ _
          have f_141 : h_135 (A 1) = some (21, .inl (G.2.2.1 0, 128, .inl plT)) := by rw [e_139]; exact ah_keep fa1 fy (by omega)
          have f_142 : h_135 (A 2) = some (22, .inl (G.2.2.1 0, 128, .inl esT)) := by rw [e_139]; exact ah_keep fa2 fy (by omega)
          have f_143 : h_135 (A 12) = some (32, .inl (G.2.2.1 0, 40800, .inl (nA la))) := by rw [e_139]; exact ah_keep fa12 fy (by omega)
          have f_144 : h_135 (A 14) = some (34, .inl (G.2.2.1 0, 16, .inl (nA mp))) := by rw [e_139]; exact ah_keep fa14 fy (by omega)
          have f_145 : h_135 (A 15) = some (35, .inl (G.2.2.1 0, 16, .inl (nA sd))) := by rw [e_139]; exact ah_keep fa15 fy (by omega)
          have f_146 : h_135 (A 16) = some (36, .inl (G.2.2.1 0, 16, .inl (nA rc))) := by rw [e_139]; exact ah_keep fa16 fy (by omega)
          have f_147 : h_135 (A 17) = some (37, .inl (G.2.2.1 0, 16, .inl (nA pr))) := by rw [e_139]; exact ah_keep fa17 fy (by omega)
          have f_148 : h_135 (A 18) = some (38, .inl (G.2.2.1 0, 16, .inl (nA th))) := by rw [e_139]; exact ah_keep fa18 fy (by omega)
          have f_149 : h_135 (A 19) = some (39, .inl (G.2.2.1 0, 16, .inl (nA sm))) := by rw [e_139]; exact ah_keep fa19 fy (by omega)
          have f_150 : h_135 (A 21) = some (41, .inl (G.2.2.1 0, 4080, .inl pc)) := by rw [e_139]; exact ah_keep fa21 fy (by omega)
          have f_151 : h_135 (A 22) = some (42, .inl (G.2.2.1 0, 652800, .inl (nA pu))) := by rw [e_139]; exact ah_keep fa22 fy (by omega)
          have f_152 : h_135 (A 24) = some (44, .inl (G.2.2.1 0, 200, .inl (nA pa))) := by rw [e_139]; exact ah_keep fa24 fy (by omega)
          have f_153 : h_135 (A 26) = some (46, .inl (G.2.2.1 0, 200, .inl (nA ua))) := by rw [e_139]; exact ah_keep fa26 fy (by omega)
          have f_154 : h_135 (A 7) = some (27, .inl (G.2.2.1 0, 255, .inl (nA ln))) := by rw [e_139]; exact ah_keep fa7 fy (by omega)
          have f_155 : h_135 (A 8) = some (28, .inl (G.2.2.1 0, 36210, .inl (nA bb))) := by rw [e_139]; exact ah_keep fa8 fy (by omega)
          refine ah_toi (v := nI 1) (by rw [e_138]; rfl) ?_
          refine lv_if_eq (tgt := 37) hx hb dX9_take_32 (by decide) (fun c_156 => ?_) (fun c_156 => ?_)
          · skip
            exact absurd c_156 (by decide)
          · skip
            refine lv_iconst (v := nI 0) hx hb dX9_take_35 (by decide) ?_
            refine ah_iret (v := nI 0) hx hb hr hlocks hR hS dX9_take_36 ?_
            exact Or.inl ⟨fun q9 => inR_big (by omega) (Int32.not_lt.mp c_70) q9.2, e_139⟩

set_option maxHeartbeats 4000000 in
set_option maxRecDepth 100000 in
theorem c_m_read (l : Launch) (G : ah_G) (h : ah_H) (y : Nat) (A : Nat → Nat) (k0 n rf pm zh lc c pt gv un : Nat) (fy : h y = some (20, .inr (8, mF A k0 n rf pm zh lc c pt gv un))) (fa1 : h (A 1) = some (21, .inl (G.2.2.1 0, 128, .inl plT))) (fa2 : h (A 2) = some (22, .inl (G.2.2.1 0, 128, .inl esT))) (la : Nat → Nat) (fa12 : h (A 12) = some (32, .inl (G.2.2.1 0, 40800, .inl (nA la)))) (mp : Nat → Nat) (fa14 : h (A 14) = some (34, .inl (G.2.2.1 0, 16, .inl (nA mp)))) (sd : Nat → Nat) (fa15 : h (A 15) = some (35, .inl (G.2.2.1 0, 16, .inl (nA sd)))) (rc : Nat → Nat) (fa16 : h (A 16) = some (36, .inl (G.2.2.1 0, 16, .inl (nA rc)))) (pr : Nat → Nat) (fa17 : h (A 17) = some (37, .inl (G.2.2.1 0, 16, .inl (nA pr)))) (th : Nat → Nat) (fa18 : h (A 18) = some (38, .inl (G.2.2.1 0, 16, .inl (nA th)))) (sm : Nat → Nat) (fa19 : h (A 19) = some (39, .inl (G.2.2.1 0, 16, .inl (nA sm)))) (pc : Nat → Int32) (fa21 : h (A 21) = some (41, .inl (G.2.2.1 0, 4080, .inl pc))) (pu : Nat → Nat) (fa22 : h (A 22) = some (42, .inl (G.2.2.1 0, 652800, .inl (nA pu)))) (pa : Nat → Nat) (fa24 : h (A 24) = some (44, .inl (G.2.2.1 0, 200, .inl (nA pa)))) (ua : Nat → Nat) (fa26 : h (A 26) = some (46, .inl (G.2.2.1 0, 200, .inl (nA ua)))) (hh : Nat → Nat) (fa10 : h (A 10) = some (30, .inl (G.2.2.1 0, 200, .inl (nA hh)))) (hpa : ∀ j, pa j < 256) (hc : c ≤ 16) (D : Nat → hDt) (hHR : HR c D mp sd rc pr th sm pc pu c) (hDB : DB c D) (huq : uqH c D) (hpt : pt < 2 ^ 19) (hzh : zh ≤ 200) (hhh : ∀ x, hh x < 256) (u0 : Int32) : Met l yX9_read wsX9_read ({ frames := 4, cells := 0, slots := 0, locals := 100 }) (ah_Pc G [.ref y, .int u0] h) (ah_Qi G (fun v h' => (¬ inR 1000 u0 ∧ h' = ah_up h y (20, .inr (8, mF A 1 n rf pm zh lc c pt gv un))) ∨ (∃ s9, s9 < 1000 ∧ u0 = nI s9 ∧ ∃ (c' pt' lc' un' : Nat) (D' : Nat → hDt) (lt : Option (Nat × (Nat → List Nat))) (la' mp' sd' rc' pr' th' sm' : Nat → Nat) (pc' : Nat → Int32) (pu' ua' : Nat → Nat), accR c pt D (cpF pa 0 hh zh) zh s9 v c' pt' D' lt ∧ HR c' D' mp' sd' rc' pr' th' sm' pc' pu' c' ∧ (lt = none → lc' = lc ∧ la' = la) ∧ (∀ x, lt = some x → lrel x lc' la') ∧ h' y = some (20, .inr (8, mF A 0 n rf pm 0 lc' c' pt' zh un')) ∧ h' (A 12) = some (32, .inl (G.2.2.1 0, 40800, .inl (nA la'))) ∧ h' (A 14) = some (34, .inl (G.2.2.1 0, 16, .inl (nA mp'))) ∧ h' (A 15) = some (35, .inl (G.2.2.1 0, 16, .inl (nA sd'))) ∧ h' (A 16) = some (36, .inl (G.2.2.1 0, 16, .inl (nA rc'))) ∧ h' (A 17) = some (37, .inl (G.2.2.1 0, 16, .inl (nA pr'))) ∧ h' (A 18) = some (38, .inl (G.2.2.1 0, 16, .inl (nA th'))) ∧ h' (A 19) = some (39, .inl (G.2.2.1 0, 16, .inl (nA sm'))) ∧ h' (A 21) = some (41, .inl (G.2.2.1 0, 4080, .inl pc')) ∧ h' (A 22) = some (42, .inl (G.2.2.1 0, 652800, .inl (nA pu'))) ∧ h' (A 26) = some (46, .inl (G.2.2.1 0, 200, .inl (nA ua'))) ∧ h' (A 24) = some (44, .inl (G.2.2.1 0, 200, .inl (nA (cpF pa 0 hh zh)))) ∧ agr (fun t => t ≠ 20 ∧ t ≠ 32 ∧ ¬ (34 ≤ t ∧ t ≤ 39) ∧ t ≠ 41 ∧ t ≠ 42 ∧ t ≠ 46 ∧ t ≠ 44) h h'))) 0 0 (ah_A G) := by
  refine ah_ofW (cc := cX9_read) (maxL := 3) (ret := (some .int)) (by decide) rfl (Nat.le_of_ble_eq_true rfl) ?_
  intro p e s m below meth cd9 ls hx hb hr hml hown hlocks hname hts hE hR hS hl
  have hown : s.vm.findClass RX9 = some m.cls := hown
  have hl : lv_has ls 3 [(0, .ref y), (1, .int u0)] := hl
  have k113 := hts (.fieldLink RX9 113 "TextPartsModel" "atHand" "I") (by decide +kernel)
  have hinX9 : ∀ w ∈ wsX90, w ∈ wsX9_read := by decide +kernel
  have k126 := hts (.fieldLink RX9 126 "TextPartsModel" "given" "I") (by decide +kernel)
  have k58 := hts (.fieldLink RX9 58 "TextPartsModel" "part" "[I") (by decide +kernel)
  have k26 := hts (.fieldLink RX9 26 "TextPartsModel" "hand" "[I") (by decide +kernel)
  refine lv_aload_n hx hb dX9_read_0 rfl (lv_at hl 0 rfl) ?_
  refine lv_iload_n hx hb dX9_read_1 rfl (lv_at hl 1 rfl) ?_
  refine lv_if_lt (tgt := 12) hx hb dX9_read_2 (by decide) (fun c_1 => ?_) (fun c_1 => ?_)
  · skip
    refine lv_iconst (v := nI 1) hx hb dX9_read_12 (by decide) ?_
    refine lv_goto (tgt := 17) hx hb dX9_read_13 (by decide) ?_
    refine ah_calli (va_runV (As := [.int (nI 1)]) (rest := []) ⟨hx, hb, hml, hown, hts⟩ (c_m_refuses l G h y A k0 n rf pm zh lc c pt gv un fy 1 (by decide)) (cwV 1 hts gX9_read_X9_refuses rfl rfl rfl (by decide +kernel) ⟨Nat.le_of_ble_eq_true rfl, Nat.le_of_ble_eq_true rfl⟩) (ah_preV hE hR hS fy rfl) rfl rfl hl.1 rfl (lv_room (Nat.le_of_ble_eq_true rfl)) dX9_read_17 ⟨Nat.le_of_ble_eq_true rfl, Nat.le_of_ble_eq_true rfl⟩) hS (fun r_4 h_2 H locs p_3 hR hS => ?_)
    obtain ⟨e_5, e_6⟩ := p_3
    have f_7 : h_2 y = some (20, .inr (8, mF A 1 n rf pm zh lc c pt gv un)) := by rw [e_6]; exact ah_up_s _ _ _
    have f_8 : h_2 (A 1) = some (21, .inl (G.2.2.1 0, 128, .inl plT)) := by rw [e_6]; exact ah_keep fa1 fy (by omega)
    have f_9 : h_2 (A 2) = some (22, .inl (G.2.2.1 0, 128, .inl esT)) := by rw [e_6]; exact ah_keep fa2 fy (by omega)
    have f_10 : h_2 (A 12) = some (32, .inl (G.2.2.1 0, 40800, .inl (nA la))) := by rw [e_6]; exact ah_keep fa12 fy (by omega)
    have f_11 : h_2 (A 14) = some (34, .inl (G.2.2.1 0, 16, .inl (nA mp))) := by rw [e_6]; exact ah_keep fa14 fy (by omega)
    have f_12 : h_2 (A 15) = some (35, .inl (G.2.2.1 0, 16, .inl (nA sd))) := by rw [e_6]; exact ah_keep fa15 fy (by omega)
    have f_13 : h_2 (A 16) = some (36, .inl (G.2.2.1 0, 16, .inl (nA rc))) := by rw [e_6]; exact ah_keep fa16 fy (by omega)
    have f_14 : h_2 (A 17) = some (37, .inl (G.2.2.1 0, 16, .inl (nA pr))) := by rw [e_6]; exact ah_keep fa17 fy (by omega)
    have f_15 : h_2 (A 18) = some (38, .inl (G.2.2.1 0, 16, .inl (nA th))) := by rw [e_6]; exact ah_keep fa18 fy (by omega)
    have f_16 : h_2 (A 19) = some (39, .inl (G.2.2.1 0, 16, .inl (nA sm))) := by rw [e_6]; exact ah_keep fa19 fy (by omega)
    have f_17 : h_2 (A 21) = some (41, .inl (G.2.2.1 0, 4080, .inl pc)) := by rw [e_6]; exact ah_keep fa21 fy (by omega)
    have f_18 : h_2 (A 22) = some (42, .inl (G.2.2.1 0, 652800, .inl (nA pu))) := by rw [e_6]; exact ah_keep fa22 fy (by omega)
    have f_19 : h_2 (A 24) = some (44, .inl (G.2.2.1 0, 200, .inl (nA pa))) := by rw [e_6]; exact ah_keep fa24 fy (by omega)
    have f_20 : h_2 (A 26) = some (46, .inl (G.2.2.1 0, 200, .inl (nA ua))) := by rw [e_6]; exact ah_keep fa26 fy (by omega)
    have f_21 : h_2 (A 10) = some (30, .inl (G.2.2.1 0, 200, .inl (nA hh))) := by rw [e_6]; exact ah_keep fa10 fy (by omega)
    refine ah_toi (v := nI 1) (by rw [e_5]; rfl) ?_
    refine lv_if_eq (tgt := 25) hx hb dX9_read_20 (by decide) (fun c_22 => ?_) (fun c_22 => ?_)
    · skip
      exact absurd c_22 (by decide)
    · skip
      refine lv_iconst (v := nI 0) hx hb dX9_read_23 (by decide) ?_
      refine ah_iret (v := nI 0) hx hb hr hlocks hR hS dX9_read_24 ?_
      exact Or.inl ⟨inR_neg (by decide) c_1, e_6⟩
  · skip
    refine lv_iload_n hx hb dX9_read_5 rfl (lv_at hl 1 rfl) ?_
    refine lv_sipush (v := nI 999) hx hb dX9_read_6 (by decide) ?_
    refine lv_icmp_le (tgt := 16) hx hb dX9_read_9 (by decide) (fun c_23 => ?_) (fun c_23 => ?_)
    · skip
      obtain ⟨s9, hs9, es9⟩ := inR_in (n := 999) (by decide) c_1 c_23
      rw [es9] at hl
      refine lv_iconst (v := nI 0) hx hb dX9_read_16 (by decide) ?_
      refine ah_calli (va_runV (As := [.int (nI 0)]) (rest := []) ⟨hx, hb, hml, hown, hts⟩ (c_m_refuses l G h y A k0 n rf pm zh lc c pt gv un fy 0 (by decide)) (cwV 1 hts gX9_read_X9_refuses rfl rfl rfl (by decide +kernel) ⟨Nat.le_of_ble_eq_true rfl, Nat.le_of_ble_eq_true rfl⟩) (ah_preV hE hR hS fy rfl) rfl rfl hl.1 rfl (lv_room (Nat.le_of_ble_eq_true rfl)) dX9_read_17 ⟨Nat.le_of_ble_eq_true rfl, Nat.le_of_ble_eq_true rfl⟩) hS (fun r_26 h_24 H locs p_25 hR hS => ?_)
      obtain ⟨e_27, e_28⟩ := p_25
      have f_29 : h_24 y = some (20, .inr (8, mF A 0 n rf pm zh lc c pt gv un)) := by rw [e_28]; exact ah_up_s _ _ _
      have f_30 : h_24 (A 1) = some (21, .inl (G.2.2.1 0, 128, .inl plT)) := by rw [e_28]; exact ah_keep fa1 fy (by omega)
      have f_31 : h_24 (A 2) = some (22, .inl (G.2.2.1 0, 128, .inl esT)) := by rw [e_28]; exact ah_keep fa2 fy (by omega)
      have f_32 : h_24 (A 12) = some (32, .inl (G.2.2.1 0, 40800, .inl (nA la))) := by rw [e_28]; exact ah_keep fa12 fy (by omega)
      have f_33 : h_24 (A 14) = some (34, .inl (G.2.2.1 0, 16, .inl (nA mp))) := by rw [e_28]; exact ah_keep fa14 fy (by omega)
      have f_34 : h_24 (A 15) = some (35, .inl (G.2.2.1 0, 16, .inl (nA sd))) := by rw [e_28]; exact ah_keep fa15 fy (by omega)
      have f_35 : h_24 (A 16) = some (36, .inl (G.2.2.1 0, 16, .inl (nA rc))) := by rw [e_28]; exact ah_keep fa16 fy (by omega)
      have f_36 : h_24 (A 17) = some (37, .inl (G.2.2.1 0, 16, .inl (nA pr))) := by rw [e_28]; exact ah_keep fa17 fy (by omega)
      have f_37 : h_24 (A 18) = some (38, .inl (G.2.2.1 0, 16, .inl (nA th))) := by rw [e_28]; exact ah_keep fa18 fy (by omega)
      have f_38 : h_24 (A 19) = some (39, .inl (G.2.2.1 0, 16, .inl (nA sm))) := by rw [e_28]; exact ah_keep fa19 fy (by omega)
      have f_39 : h_24 (A 21) = some (41, .inl (G.2.2.1 0, 4080, .inl pc)) := by rw [e_28]; exact ah_keep fa21 fy (by omega)
      have f_40 : h_24 (A 22) = some (42, .inl (G.2.2.1 0, 652800, .inl (nA pu))) := by rw [e_28]; exact ah_keep fa22 fy (by omega)
      have f_41 : h_24 (A 24) = some (44, .inl (G.2.2.1 0, 200, .inl (nA pa))) := by rw [e_28]; exact ah_keep fa24 fy (by omega)
      have f_42 : h_24 (A 26) = some (46, .inl (G.2.2.1 0, 200, .inl (nA ua))) := by rw [e_28]; exact ah_keep fa26 fy (by omega)
      have f_43 : h_24 (A 10) = some (30, .inl (G.2.2.1 0, 200, .inl (nA hh))) := by rw [e_28]; exact ah_keep fa10 fy (by omega)
      refine ah_toi (v := nI 0) (by rw [e_27]; rfl) ?_
      refine lv_if_eq (tgt := 25) hx hb dX9_read_20 (by decide) (fun c_44 => ?_) (fun c_44 => ?_)
      · skip
        refine lv_aload_n hx hb dX9_read_25 rfl (lv_at hl 0 rfl) ?_
        refine lv_aload_n hx hb dX9_read_26 rfl (lv_at hl 0 rfl) ?_
        refine ah_get (ci := 8) (v := .int (nI zh)) (C := RX9) (T := TX9) (N := 27) hx hb hE hR hts hinX9 hown f_29 rfl 9 (by decide) k113 (fun _ h9 => h9) rfl dX9_read_27 ?_
        refine ah_put (ci := 8) (v := .int (nI zh)) (ty := .int) (C := RX9) (T := TX9) (N := 27) hx hb hE hR hS hts hinX9 tyX9 tyX9_ok nmX9 hown f_29 rfl 23 (by decide) k126 (fun _ h9 => h9) rfl (by decide +kernel) rfl rfl (Nat.le_of_ble_eq_true rfl) dX9_read_30 (fun H locs hR hS => ?_)
        obtain ⟨h_45, e_46⟩ : ∃ zz9, zz9 = ah_up h_24 y (20, .inr (8, mF A 0 n rf pm zh lc c pt zh un)) := ⟨_, rfl⟩
        have hR : ah_R G h_45 H := by rw [e_46]; exact hR
        have f_47 : h_45 y = some (20, .inr (8, mF A 0 n rf pm zh lc c pt zh un)) := by rw [e_46]; exact ah_up_s _ _ _
        have f_48 : h_45 (A 1) = some (21, .inl (G.2.2.1 0, 128, .inl plT)) := by rw [e_46]; exact ah_keep f_30 f_29 (by omega)
        have f_49 : h_45 (A 2) = some (22, .inl (G.2.2.1 0, 128, .inl esT)) := by rw [e_46]; exact ah_keep f_31 f_29 (by omega)
        have f_50 : h_45 (A 12) = some (32, .inl (G.2.2.1 0, 40800, .inl (nA la))) := by rw [e_46]; exact ah_keep f_32 f_29 (by omega)
        have f_51 : h_45 (A 14) = some (34, .inl (G.2.2.1 0, 16, .inl (nA mp))) := by rw [e_46]; exact ah_keep f_33 f_29 (by omega)
        have f_52 : h_45 (A 15) = some (35, .inl (G.2.2.1 0, 16, .inl (nA sd))) := by rw [e_46]; exact ah_keep f_34 f_29 (by omega)
        have f_53 : h_45 (A 16) = some (36, .inl (G.2.2.1 0, 16, .inl (nA rc))) := by rw [e_46]; exact ah_keep f_35 f_29 (by omega)
        have f_54 : h_45 (A 17) = some (37, .inl (G.2.2.1 0, 16, .inl (nA pr))) := by rw [e_46]; exact ah_keep f_36 f_29 (by omega)
        have f_55 : h_45 (A 18) = some (38, .inl (G.2.2.1 0, 16, .inl (nA th))) := by rw [e_46]; exact ah_keep f_37 f_29 (by omega)
        have f_56 : h_45 (A 19) = some (39, .inl (G.2.2.1 0, 16, .inl (nA sm))) := by rw [e_46]; exact ah_keep f_38 f_29 (by omega)
        have f_57 : h_45 (A 21) = some (41, .inl (G.2.2.1 0, 4080, .inl pc)) := by rw [e_46]; exact ah_keep f_39 f_29 (by omega)
        have f_58 : h_45 (A 22) = some (42, .inl (G.2.2.1 0, 652800, .inl (nA pu))) := by rw [e_46]; exact ah_keep f_40 f_29 (by omega)
        have f_59 : h_45 (A 24) = some (44, .inl (G.2.2.1 0, 200, .inl (nA pa))) := by rw [e_46]; exact ah_keep f_41 f_29 (by omega)
        have f_60 : h_45 (A 26) = some (46, .inl (G.2.2.1 0, 200, .inl (nA ua))) := by rw [e_46]; exact ah_keep f_42 f_29 (by omega)
        have f_61 : h_45 (A 10) = some (30, .inl (G.2.2.1 0, 200, .inl (nA hh))) := by rw [e_46]; exact ah_keep f_43 f_29 (by omega)
        refine lv_iconst (v := nI 0) hx hb dX9_read_33 (by decide) ?_
        refine lv_istore_n (lv' := [(2, .int (nI 0)), (0, .ref y), (1, .int (nI s9))]) hx hb dX9_read_34 rfl hl (by decide) rfl (fun ls hl => ?_)
        have ag1 : agr (fun t => t ≠ 20 ∧ t ≠ 32 ∧ ¬ (34 ≤ t ∧ t ≤ 39) ∧ t ≠ 41 ∧ t ≠ 42 ∧ t ≠ 46 ∧ t ≠ 44) h h_45 := by rw [e_46]; refine agr.up ?_ f_29 (by omega); rw [e_28]; refine agr.up ?_ fy (by omega); exact agr.rf
        have p0 : h_45 (A 24) = some (44, .inl (G.2.2.1 0, 200, .inl (nA (cpF pa 0 hh 0)))) := by rw [cpF_0]; exact f_59
        have L35 : ∀ (N35 : Nat) (k : Nat) (h2 : ah_H) (H : Heap) (locs : List Loc) (ls : Array Slot), zh - k < N35 → (k ≤ zh) → (agr (fun t => t ≠ 20 ∧ t ≠ 32 ∧ ¬ (34 ≤ t ∧ t ≤ 39) ∧ t ≠ 41 ∧ t ≠ 42 ∧ t ≠ 46 ∧ t ≠ 44) h h2) → (h2 y = some (20, .inr (8, mF A 0 n rf pm zh lc c pt zh un))) → (h2 (A 1) = some (21, .inl (G.2.2.1 0, 128, .inl plT))) → (h2 (A 2) = some (22, .inl (G.2.2.1 0, 128, .inl esT))) → (h2 (A 12) = some (32, .inl (G.2.2.1 0, 40800, .inl (nA la)))) → (h2 (A 14) = some (34, .inl (G.2.2.1 0, 16, .inl (nA mp)))) → (h2 (A 15) = some (35, .inl (G.2.2.1 0, 16, .inl (nA sd)))) → (h2 (A 16) = some (36, .inl (G.2.2.1 0, 16, .inl (nA rc)))) → (h2 (A 17) = some (37, .inl (G.2.2.1 0, 16, .inl (nA pr)))) → (h2 (A 18) = some (38, .inl (G.2.2.1 0, 16, .inl (nA th)))) → (h2 (A 19) = some (39, .inl (G.2.2.1 0, 16, .inl (nA sm)))) → (h2 (A 21) = some (41, .inl (G.2.2.1 0, 4080, .inl pc))) → (h2 (A 22) = some (42, .inl (G.2.2.1 0, 652800, .inl (nA pu)))) → (h2 (A 24) = some (44, .inl (G.2.2.1 0, 200, .inl (nA (cpF pa 0 hh k))))) → (h2 (A 26) = some (46, .inl (G.2.2.1 0, 200, .inl (nA ua)))) → (h2 (A 10) = some (30, .inl (G.2.2.1 0, 200, .inl (nA hh)))) → ah_R G h2 H → va_S (ah_A G) s.heap H locs → lv_has ls 3 [(2, .int (nI k)), (0, .ref y), (1, .int (nI s9))] → W p l e ({ frames := 4, cells := 0, slots := 0, locals := 100 }) s m ([.ref y, .int u0] : List Value).toArray below meth cd9 H locs 0 0 (MQ below (ah_Qi G (fun v h' => (¬ inR 1000 u0 ∧ h' = ah_up h y (20, .inr (8, mF A 1 n rf pm zh lc c pt gv un))) ∨ (∃ s9, s9 < 1000 ∧ u0 = nI s9 ∧ ∃ (c' pt' lc' un' : Nat) (D' : Nat → hDt) (lt : Option (Nat × (Nat → List Nat))) (la' mp' sd' rc' pr' th' sm' : Nat → Nat) (pc' : Nat → Int32) (pu' ua' : Nat → Nat), accR c pt D (cpF pa 0 hh zh) zh s9 v c' pt' D' lt ∧ HR c' D' mp' sd' rc' pr' th' sm' pc' pu' c' ∧ (lt = none → lc' = lc ∧ la' = la) ∧ (∀ x, lt = some x → lrel x lc' la') ∧ h' y = some (20, .inr (8, mF A 0 n rf pm 0 lc' c' pt' zh un')) ∧ h' (A 12) = some (32, .inl (G.2.2.1 0, 40800, .inl (nA la'))) ∧ h' (A 14) = some (34, .inl (G.2.2.1 0, 16, .inl (nA mp'))) ∧ h' (A 15) = some (35, .inl (G.2.2.1 0, 16, .inl (nA sd'))) ∧ h' (A 16) = some (36, .inl (G.2.2.1 0, 16, .inl (nA rc'))) ∧ h' (A 17) = some (37, .inl (G.2.2.1 0, 16, .inl (nA pr'))) ∧ h' (A 18) = some (38, .inl (G.2.2.1 0, 16, .inl (nA th'))) ∧ h' (A 19) = some (39, .inl (G.2.2.1 0, 16, .inl (nA sm'))) ∧ h' (A 21) = some (41, .inl (G.2.2.1 0, 4080, .inl pc')) ∧ h' (A 22) = some (42, .inl (G.2.2.1 0, 652800, .inl (nA pu'))) ∧ h' (A 26) = some (46, .inl (G.2.2.1 0, 200, .inl (nA ua'))) ∧ h' (A 24) = some (44, .inl (G.2.2.1 0, 200, .inl (nA (cpF pa 0 hh zh)))) ∧ agr (fun t => t ≠ 20 ∧ t ≠ 32 ∧ ¬ (34 ≤ t ∧ t ≤ 39) ∧ t ≠ 41 ∧ t ≠ 42 ∧ t ≠ 46 ∧ t ≠ 44) h h'))) ([.ref y, .int u0] : List Value).toArray s 0 0 (ah_A G)) (F0 m 35 ls []) := by
          intro N35
          induction N35 with
          | zero => intro k h2 H locs ls hN; exact absurd hN (Nat.not_lt_zero _)
          | succ N35 ih35 =>
            intro k h2 H locs ls hN35 hk ag2 fy2 fa12 fa22 fa122 fa142 fa152 fa162 fa172 fa182 fa192 fa212 fa222 fa242 fa262 fa102 hR hS hl
            refine lv_iload_n hx hb dX9_read_35 rfl (lv_at hl 0 rfl) ?_
            refine lv_aload_n hx hb dX9_read_36 rfl (lv_at hl 1 rfl) ?_
            refine ah_get (ci := 8) (v := .int (nI zh)) (C := RX9) (T := TX9) (N := 27) hx hb hE hR hts hinX9 hown fy2 rfl 23 (by decide) k126 (fun _ h9 => h9) rfl dX9_read_37 ?_
            refine lv_icmp_ge (tgt := 61) hx hb dX9_read_40 (by decide) (fun c_62 => ?_) (fun c_62 => ?_)
            · skip
              have c_62 : zh ≤ k := (nI_leI (by omega) (by omega)).mp c_62
              have ekk : k = zh := by omega
              have f_63 : h2 (A 24) = some (44, .inl (G.2.2.1 0, 200, .inl (nA (cpF pa 0 hh (zh))))) := by rw [← ekk]; exact fa242
              refine lv_aload_n hx hb dX9_read_61 rfl (lv_at hl 1 rfl) ?_
              refine lv_iconst (v := nI 0) hx hb dX9_read_62 (by decide) ?_
              refine ah_put (ci := 8) (v := .int (nI 0)) (ty := .int) (C := RX9) (T := TX9) (N := 27) hx hb hE hR hS hts hinX9 tyX9 tyX9_ok nmX9 hown fy2 rfl 9 (by decide) k113 (fun _ h9 => h9) rfl (by decide +kernel) rfl rfl (Nat.le_of_ble_eq_true rfl) dX9_read_63 (fun H locs hR hS => ?_)
              obtain ⟨h_64, e_65⟩ : ∃ zz9, zz9 = ah_up h2 y (20, .inr (8, mF A 0 n rf pm 0 lc c pt zh un)) := ⟨_, rfl⟩
              have hR : ah_R G h_64 H := by rw [e_65]; exact hR
              have f_66 : h_64 y = some (20, .inr (8, mF A 0 n rf pm 0 lc c pt zh un)) := by rw [e_65]; exact ah_up_s _ _ _
              have f_67 : h_64 (A 1) = some (21, .inl (G.2.2.1 0, 128, .inl plT)) := by rw [e_65]; exact ah_keep fa12 fy2 (by omega)
              have f_68 : h_64 (A 2) = some (22, .inl (G.2.2.1 0, 128, .inl esT)) := by rw [e_65]; exact ah_keep fa22 fy2 (by omega)
              have f_69 : h_64 (A 12) = some (32, .inl (G.2.2.1 0, 40800, .inl (nA la))) := by rw [e_65]; exact ah_keep fa122 fy2 (by omega)
              have f_70 : h_64 (A 14) = some (34, .inl (G.2.2.1 0, 16, .inl (nA mp))) := by rw [e_65]; exact ah_keep fa142 fy2 (by omega)
              have f_71 : h_64 (A 15) = some (35, .inl (G.2.2.1 0, 16, .inl (nA sd))) := by rw [e_65]; exact ah_keep fa152 fy2 (by omega)
              have f_72 : h_64 (A 16) = some (36, .inl (G.2.2.1 0, 16, .inl (nA rc))) := by rw [e_65]; exact ah_keep fa162 fy2 (by omega)
              have f_73 : h_64 (A 17) = some (37, .inl (G.2.2.1 0, 16, .inl (nA pr))) := by rw [e_65]; exact ah_keep fa172 fy2 (by omega)
              have f_74 : h_64 (A 18) = some (38, .inl (G.2.2.1 0, 16, .inl (nA th))) := by rw [e_65]; exact ah_keep fa182 fy2 (by omega)
              have f_75 : h_64 (A 19) = some (39, .inl (G.2.2.1 0, 16, .inl (nA sm))) := by rw [e_65]; exact ah_keep fa192 fy2 (by omega)
              have f_76 : h_64 (A 21) = some (41, .inl (G.2.2.1 0, 4080, .inl pc)) := by rw [e_65]; exact ah_keep fa212 fy2 (by omega)
              have f_77 : h_64 (A 22) = some (42, .inl (G.2.2.1 0, 652800, .inl (nA pu))) := by rw [e_65]; exact ah_keep fa222 fy2 (by omega)
              have f_78 : h_64 (A 24) = some (44, .inl (G.2.2.1 0, 200, .inl (nA (cpF pa 0 hh (zh))))) := by rw [e_65]; exact ah_keep f_63 fy2 (by omega)
              have f_79 : h_64 (A 26) = some (46, .inl (G.2.2.1 0, 200, .inl (nA ua))) := by rw [e_65]; exact ah_keep fa262 fy2 (by omega)
              have f_80 : h_64 (A 10) = some (30, .inl (G.2.2.1 0, 200, .inl (nA hh))) := by rw [e_65]; exact ah_keep fa102 fy2 (by omega)
              have ag3 : agr (fun t => t ≠ 20 ∧ t ≠ 32 ∧ ¬ (34 ≤ t ∧ t ≤ 39) ∧ t ≠ 41 ∧ t ≠ 42 ∧ t ≠ 46 ∧ t ≠ 44) h2 h_64 := by rw [e_65]; refine agr.up ?_ fy2 (by omega); exact agr.rf
              refine lv_aload_n hx hb dX9_read_66 rfl (lv_at hl 1 rfl) ?_
              refine lv_iload_n hx hb dX9_read_67 rfl (lv_at hl 2 rfl) ?_
              refine ah_calli (va_runV (As := [.int (nI s9)]) (rest := []) ⟨hx, hb, hml, hown, hts⟩ (c_m_reads l G h_64 y A 0 n rf pm 0 lc c pt zh un f_66 f_67 f_68 la f_69 mp f_70 sd f_71 rc f_72 pr f_73 th f_74 sm f_75 pc f_76 pu f_77 (cpF pa 0 hh (zh)) f_78 ua f_79 (cpF_lt hpa (fun x9 _ => hhh x9)) (by omega) hc D hHR hDB huq hpt s9 (by omega)) (cwV 1 hts gX9_read_X9_reads rfl rfl rfl (by decide +kernel) ⟨Nat.le_of_ble_eq_true rfl, Nat.le_of_ble_eq_true rfl⟩) (ah_preV hE hR hS f_66 rfl) rfl rfl hl.1 rfl (lv_room (Nat.le_of_ble_eq_true rfl)) dX9_read_68 ⟨Nat.le_of_ble_eq_true rfl, Nat.le_of_ble_eq_true rfl⟩) hS (fun r_83 h_81 H locs p_82 hR hS => ?_)
              obtain ⟨c7, pt7, lc7, un7, D7, lt7, l7, a14, a15, a16, a17, a18, a19, a21, a22, a26, acc7, hr7, ln7, ls7, gy, g12, g14, g15, g16, g17, g18, g19, g21, g22, g26, ag7⟩ := p_82
              have g24 : h_81 (A 24) = some (44, .inl (G.2.2.1 0, 200, .inl (nA (cpF pa 0 hh (zh))))) := ag7 _ _ _ (by omega) f_78
              refine ah_iret (v := r_83) hx hb hr hlocks hR hS dX9_read_71 ?_
              exact Or.inr ⟨s9, hs9, es9, c7, pt7, lc7, un7, D7, lt7, l7, a14, a15, a16, a17, a18, a19, a21, a22, a26, acc7, hr7, ln7, ls7, gy, g12, g14, g15, g16, g17, g18, g19, g21, g22, g26, g24, ag2.tr (ag3.tr (ag7.weak (fun t q => by omega)))⟩
            · skip
              have c_62 : ¬ (zh ≤ k) := fun z9 => c_62 ((nI_leI (by omega) (by omega)).mpr z9)
              refine lv_aload_n hx hb dX9_read_43 rfl (lv_at hl 1 rfl) ?_
              refine ah_get (ci := 8) (v := .ref (A 24)) (C := RX9) (T := TX9) (N := 27) hx hb hE hR hts hinX9 hown fy2 rfl 24 (by decide) k58 (fun _ h9 => h9) rfl dX9_read_44 ?_
              refine lv_iload_n hx hb dX9_read_47 rfl (lv_at hl 0 rfl) ?_
              refine lv_aload_n hx hb dX9_read_48 rfl (lv_at hl 1 rfl) ?_
              refine ah_get (ci := 8) (v := .ref (A 10)) (C := RX9) (T := TX9) (N := 27) hx hb hE hR hts hinX9 hown fy2 rfl 10 (by decide) k26 (fun _ h9 => h9) rfl dX9_read_49 ?_
              refine lv_iload_n hx hb dX9_read_52 rfl (lv_at hl 0 rfl) ?_
              refine ah_iald (i := k) hx hb hE hR fa102 (by omega) (by omega) dX9_read_53 ?_
              refine ah_toi (v := nI (hh k)) rfl ?_
              refine ah_iast (i := k) hx hb hE hR hS fa242 (by omega) (by omega) dX9_read_54 (fun H locs hR hS => ?_)
              rw [nA_upd] at hR
              obtain ⟨h_84, e_85⟩ : ∃ zz9, zz9 = ah_up h2 (A 24) (44, .inl (G.2.2.1 0, 200, .inl (nA (gU (cpF pa 0 hh k) k (hh k))))) := ⟨_, rfl⟩
              have hR : ah_R G h_84 H := by rw [e_85]; exact hR
              have f_86 : h_84 y = some (20, .inr (8, mF A 0 n rf pm zh lc c pt zh un)) := by rw [e_85]; exact ah_keep fy2 fa242 (by omega)
              have f_87 : h_84 (A 1) = some (21, .inl (G.2.2.1 0, 128, .inl plT)) := by rw [e_85]; exact ah_keep fa12 fa242 (by omega)
              have f_88 : h_84 (A 2) = some (22, .inl (G.2.2.1 0, 128, .inl esT)) := by rw [e_85]; exact ah_keep fa22 fa242 (by omega)
              have f_89 : h_84 (A 12) = some (32, .inl (G.2.2.1 0, 40800, .inl (nA la))) := by rw [e_85]; exact ah_keep fa122 fa242 (by omega)
              have f_90 : h_84 (A 14) = some (34, .inl (G.2.2.1 0, 16, .inl (nA mp))) := by rw [e_85]; exact ah_keep fa142 fa242 (by omega)
              have f_91 : h_84 (A 15) = some (35, .inl (G.2.2.1 0, 16, .inl (nA sd))) := by rw [e_85]; exact ah_keep fa152 fa242 (by omega)
              have f_92 : h_84 (A 16) = some (36, .inl (G.2.2.1 0, 16, .inl (nA rc))) := by rw [e_85]; exact ah_keep fa162 fa242 (by omega)
              have f_93 : h_84 (A 17) = some (37, .inl (G.2.2.1 0, 16, .inl (nA pr))) := by rw [e_85]; exact ah_keep fa172 fa242 (by omega)
              have f_94 : h_84 (A 18) = some (38, .inl (G.2.2.1 0, 16, .inl (nA th))) := by rw [e_85]; exact ah_keep fa182 fa242 (by omega)
              have f_95 : h_84 (A 19) = some (39, .inl (G.2.2.1 0, 16, .inl (nA sm))) := by rw [e_85]; exact ah_keep fa192 fa242 (by omega)
              have f_96 : h_84 (A 21) = some (41, .inl (G.2.2.1 0, 4080, .inl pc)) := by rw [e_85]; exact ah_keep fa212 fa242 (by omega)
              have f_97 : h_84 (A 22) = some (42, .inl (G.2.2.1 0, 652800, .inl (nA pu))) := by rw [e_85]; exact ah_keep fa222 fa242 (by omega)
              have f_98 : h_84 (A 24) = some (44, .inl (G.2.2.1 0, 200, .inl (nA (gU (cpF pa 0 hh k) k (hh k))))) := by rw [e_85]; exact ah_up_s _ _ _
              have f_99 : h_84 (A 26) = some (46, .inl (G.2.2.1 0, 200, .inl (nA ua))) := by rw [e_85]; exact ah_keep fa262 fa242 (by omega)
              have f_100 : h_84 (A 10) = some (30, .inl (G.2.2.1 0, 200, .inl (nA hh))) := by rw [e_85]; exact ah_keep fa102 fa242 (by omega)
              have f_101 : h_84 (A 24) = some (44, .inl (G.2.2.1 0, 200, .inl (nA (cpF pa 0 hh (k + 1))))) := by rw [← cpF_s0]; exact f_98
              refine lv_iinc (v := nI (k + 1)) (lv' := [(2, .int (nI (k + 1))), (0, .ref y), (1, .int (nI s9))]) hx hb dX9_read_55 hl (k := 0) rfl (show nI k + Int32.ofInt 1 = nI (k + 1) from nI_add _ 1) (by decide) rfl (fun ls hl => ?_)
              refine lv_goto (tgt := 35) hx hb dX9_read_58 (by decide) ?_
              exact ih35  (k + 1) h_84 _ _ ls (by omega) (by omega) (ag2.tr (by rw [e_85]; refine agr.up ?_ fa242 (by omega); exact agr.rf)) f_86 f_87 f_88 f_89 f_90 f_91 f_92 f_93 f_94 f_95 f_96 f_97 f_101 f_99 f_100 hR hS (lv_sub hl [0, 1, 2] rfl)
        exact L35 ((zh - 0) + 1) 0 h_45 _ _ ls (by omega) (by omega) ag1 f_47 f_48 f_49 f_50 f_51 f_52 f_53 f_54 f_55 f_56 f_57 f_58 p0 f_60 f_61 hR hS (lv_sub hl [0, 1, 2] rfl)
      · skip
        exact absurd (by decide) c_44
    · skip
      refine lv_iconst (v := nI 1) hx hb dX9_read_12 (by decide) ?_
      refine lv_goto (tgt := 17) hx hb dX9_read_13 (by decide) ?_
      refine ah_calli (va_runV (As := [.int (nI 1)]) (rest := []) ⟨hx, hb, hml, hown, hts⟩ (c_m_refuses l G h y A k0 n rf pm zh lc c pt gv un fy 1 (by decide)) (cwV 1 hts gX9_read_X9_refuses rfl rfl rfl (by decide +kernel) ⟨Nat.le_of_ble_eq_true rfl, Nat.le_of_ble_eq_true rfl⟩) (ah_preV hE hR hS fy rfl) rfl rfl hl.1 rfl (lv_room (Nat.le_of_ble_eq_true rfl)) dX9_read_17 ⟨Nat.le_of_ble_eq_true rfl, Nat.le_of_ble_eq_true rfl⟩) hS (fun r_104 h_102 H locs p_103 hR hS => ?_)
      obtain ⟨e_105, e_106⟩ := p_103
      have f_107 : h_102 y = some (20, .inr (8, mF A 1 n rf pm zh lc c pt gv un)) := by rw [e_106]; exact ah_up_s _ _ _
      have f_108 : h_102 (A 1) = some (21, .inl (G.2.2.1 0, 128, .inl plT)) := by rw [e_106]; exact ah_keep fa1 fy (by omega)
      have f_109 : h_102 (A 2) = some (22, .inl (G.2.2.1 0, 128, .inl esT)) := by rw [e_106]; exact ah_keep fa2 fy (by omega)
      have f_110 : h_102 (A 12) = some (32, .inl (G.2.2.1 0, 40800, .inl (nA la))) := by rw [e_106]; exact ah_keep fa12 fy (by omega)
      have f_111 : h_102 (A 14) = some (34, .inl (G.2.2.1 0, 16, .inl (nA mp))) := by rw [e_106]; exact ah_keep fa14 fy (by omega)
      have f_112 : h_102 (A 15) = some (35, .inl (G.2.2.1 0, 16, .inl (nA sd))) := by rw [e_106]; exact ah_keep fa15 fy (by omega)
      have f_113 : h_102 (A 16) = some (36, .inl (G.2.2.1 0, 16, .inl (nA rc))) := by rw [e_106]; exact ah_keep fa16 fy (by omega)
      have f_114 : h_102 (A 17) = some (37, .inl (G.2.2.1 0, 16, .inl (nA pr))) := by rw [e_106]; exact ah_keep fa17 fy (by omega)
      have f_115 : h_102 (A 18) = some (38, .inl (G.2.2.1 0, 16, .inl (nA th))) := by rw [e_106]; exact ah_keep fa18 fy (by omega)
      have f_116 : h_102 (A 19) = some (39, .inl (G.2.2.1 0, 16, .inl (nA sm))) := by rw [e_106]; exact ah_keep fa19 fy (by omega)
      have f_117 : h_102 (A 21) = some (41, .inl (G.2.2.1 0, 4080, .inl pc)) := by rw [e_106]; exact ah_keep fa21 fy (by omega)
      have f_118 : h_102 (A 22) = some (42, .inl (G.2.2.1 0, 652800, .inl (nA pu))) := by rw [e_106]; exact ah_keep fa22 fy (by omega)
      have f_119 : h_102 (A 24) = some (44, .inl (G.2.2.1 0, 200, .inl (nA pa))) := by rw [e_106]; exact ah_keep fa24 fy (by omega)
      have f_120 : h_102 (A 26) = some (46, .inl (G.2.2.1 0, 200, .inl (nA ua))) := by rw [e_106]; exact ah_keep fa26 fy (by omega)
      have f_121 : h_102 (A 10) = some (30, .inl (G.2.2.1 0, 200, .inl (nA hh))) := by rw [e_106]; exact ah_keep fa10 fy (by omega)
      refine ah_toi (v := nI 1) (by rw [e_105]; rfl) ?_
      refine lv_if_eq (tgt := 25) hx hb dX9_read_20 (by decide) (fun c_122 => ?_) (fun c_122 => ?_)
      · skip
        exact absurd c_122 (by decide)
      · skip
        refine lv_iconst (v := nI 0) hx hb dX9_read_23 (by decide) ?_
        refine ah_iret (v := nI 0) hx hb hr hlocks hR hS dX9_read_24 ?_
        exact Or.inl ⟨inR_gt (n := 999) (by decide) c_23, e_106⟩

set_option maxHeartbeats 4000000 in
set_option maxRecDepth 100000 in
theorem c_m_feed (l : Launch) (G : ah_G) (h : ah_H) (y : Nat) (A : Nat → Nat) (k0 n rf pm zh lc c pt gv un : Nat) (fy : h y = some (20, .inr (8, mF A k0 n rf pm zh lc c pt gv un))) (hh : Nat → Nat) (fa10 : h (A 10) = some (30, .inl (G.2.2.1 0, 200, .inl (nA hh)))) (hzh : zh ≤ 200) (wv : Int64) (u : Int32) : Met l yX9_feed wsX9_feed ({ frames := 1, cells := 0, slots := 0, locals := 21 }) (ah_Pc G [.ref y, .long wv, .int u] h) (ah_Qi G (fun v h' => (¬ inR 9 u ∧ h' = ah_up h y (20, .inr (8, mF A 1 n rf pm zh lc c pt gv un))) ∨ ((∃ k, k < 9 ∧ u = nI k ∧ 200 < zh + k) ∧ h' = ah_up h y (20, .inr (8, mF A 2 n rf pm zh lc c pt gv un))) ∨ (∃ k, k < 9 ∧ u = nI k ∧ zh + k ≤ 200 ∧ v = nI (zh + k) ∧ h' y = some (20, .inr (8, mF A 0 n rf pm (zh + k) lc c pt gv un)) ∧ h' (A 10) = some (30, .inl (G.2.2.1 0, 200, .inl (nA (fdG hh zh wv k)))) ∧ agr (fun t => t ≠ 20 ∧ t ≠ 30) h h'))) 0 0 (ah_A G) := by
  refine ah_ofW (cc := cX9_feed) (maxL := 5) (ret := (some .int)) (by decide) rfl (Nat.le_of_ble_eq_true rfl) ?_
  intro p e s m below meth cd9 ls hx hb hr hml hown hlocks hname hts hE hR hS hl
  have hown : s.vm.findClass RX9 = some m.cls := hown
  have hl : lv_has ls 5 [(0, .ref y), (1, .long wv), (3, .int u)] := hl
  have k113 := hts (.fieldLink RX9 113 "TextPartsModel" "atHand" "I") (by decide +kernel)
  have hinX9 : ∀ w ∈ wsX90, w ∈ wsX9_feed := by decide +kernel
  have k26 := hts (.fieldLink RX9 26 "TextPartsModel" "hand" "[I") (by decide +kernel)
  refine lv_aload_n hx hb dX9_feed_0 rfl (lv_at hl 0 rfl) ?_
  refine lv_iload_n hx hb dX9_feed_1 rfl (lv_at hl 2 rfl) ?_
  refine lv_if_lt (tgt := 11) hx hb dX9_feed_2 (by decide) (fun c_1 => ?_) (fun c_1 => ?_)
  · skip
    refine lv_iconst (v := nI 1) hx hb dX9_feed_11 (by decide) ?_
    refine lv_goto (tgt := 32) hx hb dX9_feed_12 (by decide) ?_
    refine ah_calli (va_runV (As := [.int (nI 1)]) (rest := []) ⟨hx, hb, hml, hown, hts⟩ (c_m_refuses l G h y A k0 n rf pm zh lc c pt gv un fy 1 (by decide)) (cwV 1 hts gX9_feed_X9_refuses rfl rfl rfl (by decide +kernel) ⟨Nat.le_of_ble_eq_true rfl, Nat.le_of_ble_eq_true rfl⟩) (ah_preV hE hR hS fy rfl) rfl rfl hl.1 rfl (lv_room (Nat.le_of_ble_eq_true rfl)) dX9_feed_32 ⟨Nat.le_of_ble_eq_true rfl, Nat.le_of_ble_eq_true rfl⟩) hS (fun r_4 h_2 H locs p_3 hR hS => ?_)
    obtain ⟨e_5, e_6⟩ := p_3
    have f_7 : h_2 y = some (20, .inr (8, mF A 1 n rf pm zh lc c pt gv un)) := by rw [e_6]; exact ah_up_s _ _ _
    have f_8 : h_2 (A 10) = some (30, .inl (G.2.2.1 0, 200, .inl (nA hh))) := by rw [e_6]; exact ah_keep fa10 fy (by omega)
    refine ah_toi (v := nI 1) (by rw [e_5]; rfl) ?_
    refine lv_if_eq (tgt := 40) hx hb dX9_feed_35 (by decide) (fun c_9 => ?_) (fun c_9 => ?_)
    · skip
      exact absurd c_9 (by decide)
    · skip
      refine lv_iconst (v := nI 0) hx hb dX9_feed_38 (by decide) ?_
      refine ah_iret (v := nI 0) hx hb hr hlocks hR hS dX9_feed_39 ?_
      exact Or.inl ⟨inR_neg (by decide) c_1, e_6⟩
  · skip
    refine lv_iload_n hx hb dX9_feed_5 rfl (lv_at hl 2 rfl) ?_
    refine lv_bipush (v := nI 8) hx hb dX9_feed_6 (by decide) ?_
    refine lv_icmp_le (tgt := 15) hx hb dX9_feed_8 (by decide) (fun c_10 => ?_) (fun c_10 => ?_)
    · skip
      obtain ⟨k, hk, ek⟩ := inR_in (n := 8) (by decide) c_1 c_10
      rw [ek] at hl
      refine lv_aload_n hx hb dX9_feed_15 rfl (lv_at hl 0 rfl) ?_
      refine ah_get (ci := 8) (v := .int (nI zh)) (C := RX9) (T := TX9) (N := 27) hx hb hE hR hts hinX9 hown fy rfl 9 (by decide) k113 (fun _ h9 => h9) rfl dX9_feed_16 ?_
      refine lv_iload_n hx hb dX9_feed_19 rfl (lv_at hl 2 rfl) ?_
      refine lv_iadd hx hb dX9_feed_20 ?_
      refine ah_toi (v := nI (zh + k)) (nI_add _ _) ?_
      refine lv_sipush (v := nI 200) hx hb dX9_feed_21 (by decide) ?_
      refine lv_icmp_le (tgt := 31) hx hb dX9_feed_24 (by decide) (fun c_11 => ?_) (fun c_11 => ?_)
      · skip
        have c_11 : (zh + k) ≤ 200 := (nI_leI (by omega) (by omega)).mp c_11
        refine lv_iconst (v := nI 0) hx hb dX9_feed_31 (by decide) ?_
        refine ah_calli (va_runV (As := [.int (nI 0)]) (rest := []) ⟨hx, hb, hml, hown, hts⟩ (c_m_refuses l G h y A k0 n rf pm zh lc c pt gv un fy 0 (by decide)) (cwV 1 hts gX9_feed_X9_refuses rfl rfl rfl (by decide +kernel) ⟨Nat.le_of_ble_eq_true rfl, Nat.le_of_ble_eq_true rfl⟩) (ah_preV hE hR hS fy rfl) rfl rfl hl.1 rfl (lv_room (Nat.le_of_ble_eq_true rfl)) dX9_feed_32 ⟨Nat.le_of_ble_eq_true rfl, Nat.le_of_ble_eq_true rfl⟩) hS (fun r_14 h_12 H locs p_13 hR hS => ?_)
        obtain ⟨e_15, e_16⟩ := p_13
        have f_17 : h_12 y = some (20, .inr (8, mF A 0 n rf pm zh lc c pt gv un)) := by rw [e_16]; exact ah_up_s _ _ _
        have f_18 : h_12 (A 10) = some (30, .inl (G.2.2.1 0, 200, .inl (nA hh))) := by rw [e_16]; exact ah_keep fa10 fy (by omega)
        refine ah_toi (v := nI 0) (by rw [e_15]; rfl) ?_
        refine lv_if_eq (tgt := 40) hx hb dX9_feed_35 (by decide) (fun c_19 => ?_) (fun c_19 => ?_)
        · skip
          refine lv_iconst (v := nI 0) hx hb dX9_feed_40 (by decide) ?_
          refine lv_istore (lv' := [(4, .int (nI 0)), (0, .ref y), (1, .long wv), (3, .int (nI k))]) hx hb dX9_feed_41 hl (by decide) rfl (fun ls hl => ?_)
          have ag1 : agr (fun t => t ≠ 20 ∧ t ≠ 30) h h_12 := by rw [e_16]; refine agr.up ?_ fy (by omega); exact agr.rf
          have y0 : h_12 y = some (20, .inr (8, mF A 0 n rf pm (zh + 0) lc c pt gv un)) := f_17
          have p0 : h_12 (A 10) = some (30, .inl (G.2.2.1 0, 200, .inl (nA (fdG hh zh wv 0)))) := f_18
          have L43 : ∀ (N43 : Nat) (k1 : Nat) (h2 : ah_H) (H : Heap) (locs : List Loc) (ls : Array Slot), k - k1 < N43 → (k1 ≤ k) → (agr (fun t => t ≠ 20 ∧ t ≠ 30) h h2) → (h2 y = some (20, .inr (8, mF A 0 n rf pm (zh + k1) lc c pt gv un))) → (h2 (A 10) = some (30, .inl (G.2.2.1 0, 200, .inl (nA (fdG hh zh wv k1))))) → ah_R G h2 H → va_S (ah_A G) s.heap H locs → lv_has ls 5 [(4, .int (nI k1)), (0, .ref y), (1, .long wv), (3, .int (nI k))] → W p l e ({ frames := 1, cells := 0, slots := 0, locals := 21 }) s m ([.ref y, .long wv, .int u] : List Value).toArray below meth cd9 H locs 0 0 (MQ below (ah_Qi G (fun v h' => (¬ inR 9 u ∧ h' = ah_up h y (20, .inr (8, mF A 1 n rf pm zh lc c pt gv un))) ∨ ((∃ k, k < 9 ∧ u = nI k ∧ 200 < zh + k) ∧ h' = ah_up h y (20, .inr (8, mF A 2 n rf pm zh lc c pt gv un))) ∨ (∃ k, k < 9 ∧ u = nI k ∧ zh + k ≤ 200 ∧ v = nI (zh + k) ∧ h' y = some (20, .inr (8, mF A 0 n rf pm (zh + k) lc c pt gv un)) ∧ h' (A 10) = some (30, .inl (G.2.2.1 0, 200, .inl (nA (fdG hh zh wv k)))) ∧ agr (fun t => t ≠ 20 ∧ t ≠ 30) h h'))) ([.ref y, .long wv, .int u] : List Value).toArray s 0 0 (ah_A G)) (F0 m 43 ls []) := by
            intro N43
            induction N43 with
            | zero => intro k1 h2 H locs ls hN; exact absurd hN (Nat.not_lt_zero _)
            | succ N43 ih43 =>
              intro k1 h2 H locs ls hN43 hk1 ag2 fy2 fa102 hR hS hl
              refine lv_iload hx hb dX9_feed_43 (lv_at hl 0 rfl) ?_
              refine lv_iload_n hx hb dX9_feed_45 rfl (lv_at hl 3 rfl) ?_
              refine lv_icmp_ge (tgt := 86) hx hb dX9_feed_46 (by decide) (fun c_20 => ?_) (fun c_20 => ?_)
              · skip
                have c_20 : k ≤ k1 := (nI_leI (by omega) (by omega)).mp c_20
                refine lv_aload_n hx hb dX9_feed_86 rfl (lv_at hl 1 rfl) ?_
                refine ah_get (ci := 8) (v := .int (nI (zh + k1))) (C := RX9) (T := TX9) (N := 27) hx hb hE hR hts hinX9 hown fy2 rfl 9 (by decide) k113 (fun _ h9 => h9) rfl dX9_feed_87 ?_
                refine ah_iret (v := nI (zh + k1)) hx hb hr hlocks hR hS dX9_feed_90 ?_
                have ekk : k1 = k := by omega
                subst ekk
                exact Or.inr (Or.inr ⟨k1, hk, ek, by omega, rfl, fy2, fa102, ag2⟩)
              · skip
                have c_20 : ¬ (k ≤ k1) := fun z9 => c_20 ((nI_leI (by omega) (by omega)).mpr z9)
                refine lv_aload_n hx hb dX9_feed_49 rfl (lv_at hl 1 rfl) ?_
                refine ah_get (ci := 8) (v := .ref (A 10)) (C := RX9) (T := TX9) (N := 27) hx hb hE hR hts hinX9 hown fy2 rfl 10 (by decide) k26 (fun _ h9 => h9) rfl dX9_feed_50 ?_
                refine lv_aload_n hx hb dX9_feed_53 rfl (lv_at hl 1 rfl) ?_
                refine ah_get (ci := 8) (v := .int (nI (zh + k1))) (C := RX9) (T := TX9) (N := 27) hx hb hE hR hts hinX9 hown fy2 rfl 9 (by decide) k113 (fun _ h9 => h9) rfl dX9_feed_54 ?_
                refine lv_lload_n hx hb dX9_feed_57 rfl (lv_at hl 2 rfl) ?_
                refine lv_bipush (v := nI 8) hx hb dX9_feed_58 (by decide) ?_
                refine lv_iload hx hb dX9_feed_60 (lv_at hl 0 rfl) ?_
                refine lv_imul hx hb dX9_feed_62 ?_
                refine ah_toi (v := nI (8 * k1)) (pk_mul _ _) ?_
                refine lv_lshr (v := wv >>> ((nI (8 * k1)).toInt64 &&& 63)) hx hb dX9_feed_63 rfl ?_
                refine lv_l2i (v := (wv >>> ((nI (8 * k1)).toInt64 &&& 63)).toInt32) hx hb dX9_feed_64 rfl ?_
                refine lv_sipush (v := nI 255) hx hb dX9_feed_65 (by decide) ?_
                refine lv_iand hx hb dX9_feed_68 ?_
                refine ah_toi (v := nI (byteW wv k1)) (bwS wv k1 (by omega)) ?_
                refine ah_iast (i := (zh + k1)) hx hb hE hR hS fa102 (by omega) (by omega) dX9_feed_69 (fun H locs hR hS => ?_)
                rw [nA_upd] at hR
                obtain ⟨h_21, e_22⟩ : ∃ zz9, zz9 = ah_up h2 (A 10) (30, .inl (G.2.2.1 0, 200, .inl (nA (gU (fdG hh zh wv k1) (zh + k1) (byteW wv k1))))) := ⟨_, rfl⟩
                have hR : ah_R G h_21 H := by rw [e_22]; exact hR
                have f_23 : h_21 y = some (20, .inr (8, mF A 0 n rf pm (zh + k1) lc c pt gv un)) := by rw [e_22]; exact ah_keep fy2 fa102 (by omega)
                have f_24 : h_21 (A 10) = some (30, .inl (G.2.2.1 0, 200, .inl (nA (gU (fdG hh zh wv k1) (zh + k1) (byteW wv k1))))) := by rw [e_22]; exact ah_up_s _ _ _
                refine lv_aload_n hx hb dX9_feed_70 rfl (lv_at hl 1 rfl) ?_
                refine lv_dup hx hb dX9_feed_71 rfl ?_
                refine ah_get (ci := 8) (v := .int (nI (zh + k1))) (C := RX9) (T := TX9) (N := 27) hx hb hE hR hts hinX9 hown f_23 rfl 9 (by decide) k113 (fun _ h9 => h9) rfl dX9_feed_72 ?_
                refine lv_iconst (v := nI 1) hx hb dX9_feed_75 (by decide) ?_
                refine lv_iadd hx hb dX9_feed_76 ?_
                refine ah_toi (v := nI ((zh + k1) + 1)) (nI_add _ _) ?_
                refine ah_put (ci := 8) (v := .int (nI ((zh + k1) + 1))) (ty := .int) (C := RX9) (T := TX9) (N := 27) hx hb hE hR hS hts hinX9 tyX9 tyX9_ok nmX9 hown f_23 rfl 9 (by decide) k113 (fun _ h9 => h9) rfl (by decide +kernel) rfl rfl (Nat.le_of_ble_eq_true rfl) dX9_feed_77 (fun H locs hR hS => ?_)
                obtain ⟨h_25, e_26⟩ : ∃ zz9, zz9 = ah_up h_21 y (20, .inr (8, mF A 0 n rf pm ((zh + k1) + 1) lc c pt gv un)) := ⟨_, rfl⟩
                have hR : ah_R G h_25 H := by rw [e_26]; exact hR
                have f_27 : h_25 y = some (20, .inr (8, mF A 0 n rf pm ((zh + k1) + 1) lc c pt gv un)) := by rw [e_26]; exact ah_up_s _ _ _
                have f_28 : h_25 (A 10) = some (30, .inl (G.2.2.1 0, 200, .inl (nA (gU (fdG hh zh wv k1) (zh + k1) (byteW wv k1))))) := by rw [e_26]; exact ah_keep f_24 f_23 (by omega)
                refine lv_iinc (v := nI (k1 + 1)) (lv' := [(4, .int (nI (k1 + 1))), (0, .ref y), (1, .long wv), (3, .int (nI k))]) hx hb dX9_feed_80 hl (k := 0) rfl (show nI k1 + Int32.ofInt 1 = nI (k1 + 1) from nI_add _ 1) (by decide) rfl (fun ls hl => ?_)
                refine lv_goto (tgt := 43) hx hb dX9_feed_83 (by decide) ?_
                exact ih43  (k1 + 1) h_25 _ _ ls (by omega) (by omega) (ag2.tr (by rw [e_26]; refine agr.up ?_ f_23 (by omega); rw [e_22]; refine agr.up ?_ fa102 (by omega); exact agr.rf)) f_27 f_28 hR hS (lv_sub hl [0, 1, 2, 3] rfl)
          exact L43 ((k - 0) + 1) 0 h_12 _ _ ls (by omega) (by omega) ag1 y0 p0 hR hS (lv_sub hl [0, 1, 2, 3] rfl)
        · skip
          exact absurd (by decide) c_19
      · skip
        have c_11 : ¬ ((zh + k) ≤ 200) := fun z9 => c_11 ((nI_leI (by omega) (by omega)).mpr z9)
        refine lv_iconst (v := nI 2) hx hb dX9_feed_27 (by decide) ?_
        refine lv_goto (tgt := 32) hx hb dX9_feed_28 (by decide) ?_
        refine ah_calli (va_runV (As := [.int (nI 2)]) (rest := []) ⟨hx, hb, hml, hown, hts⟩ (c_m_refuses l G h y A k0 n rf pm zh lc c pt gv un fy 2 (by decide)) (cwV 1 hts gX9_feed_X9_refuses rfl rfl rfl (by decide +kernel) ⟨Nat.le_of_ble_eq_true rfl, Nat.le_of_ble_eq_true rfl⟩) (ah_preV hE hR hS fy rfl) rfl rfl hl.1 rfl (lv_room (Nat.le_of_ble_eq_true rfl)) dX9_feed_32 ⟨Nat.le_of_ble_eq_true rfl, Nat.le_of_ble_eq_true rfl⟩) hS (fun r_31 h_29 H locs p_30 hR hS => ?_)
        obtain ⟨e_32, e_33⟩ := p_30
        have f_34 : h_29 y = some (20, .inr (8, mF A 2 n rf pm zh lc c pt gv un)) := by rw [e_33]; exact ah_up_s _ _ _
        have f_35 : h_29 (A 10) = some (30, .inl (G.2.2.1 0, 200, .inl (nA hh))) := by rw [e_33]; exact ah_keep fa10 fy (by omega)
        refine ah_toi (v := nI 1) (by rw [e_32]; rfl) ?_
        refine lv_if_eq (tgt := 40) hx hb dX9_feed_35 (by decide) (fun c_36 => ?_) (fun c_36 => ?_)
        · skip
          exact absurd c_36 (by decide)
        · skip
          refine lv_iconst (v := nI 0) hx hb dX9_feed_38 (by decide) ?_
          refine ah_iret (v := nI 0) hx hb hr hlocks hR hS dX9_feed_39 ?_
          exact Or.inr (Or.inl ⟨⟨k, hk, ek, by omega⟩, e_33⟩)
    · skip
      refine lv_iconst (v := nI 1) hx hb dX9_feed_11 (by decide) ?_
      refine lv_goto (tgt := 32) hx hb dX9_feed_12 (by decide) ?_
      refine ah_calli (va_runV (As := [.int (nI 1)]) (rest := []) ⟨hx, hb, hml, hown, hts⟩ (c_m_refuses l G h y A k0 n rf pm zh lc c pt gv un fy 1 (by decide)) (cwV 1 hts gX9_feed_X9_refuses rfl rfl rfl (by decide +kernel) ⟨Nat.le_of_ble_eq_true rfl, Nat.le_of_ble_eq_true rfl⟩) (ah_preV hE hR hS fy rfl) rfl rfl hl.1 rfl (lv_room (Nat.le_of_ble_eq_true rfl)) dX9_feed_32 ⟨Nat.le_of_ble_eq_true rfl, Nat.le_of_ble_eq_true rfl⟩) hS (fun r_39 h_37 H locs p_38 hR hS => ?_)
      obtain ⟨e_40, e_41⟩ := p_38
      have f_42 : h_37 y = some (20, .inr (8, mF A 1 n rf pm zh lc c pt gv un)) := by rw [e_41]; exact ah_up_s _ _ _
      have f_43 : h_37 (A 10) = some (30, .inl (G.2.2.1 0, 200, .inl (nA hh))) := by rw [e_41]; exact ah_keep fa10 fy (by omega)
      refine ah_toi (v := nI 1) (by rw [e_40]; rfl) ?_
      refine lv_if_eq (tgt := 40) hx hb dX9_feed_35 (by decide) (fun c_44 => ?_) (fun c_44 => ?_)
      · skip
        exact absurd c_44 (by decide)
      · skip
        refine lv_iconst (v := nI 0) hx hb dX9_feed_38 (by decide) ?_
        refine ah_iret (v := nI 0) hx hb hr hlocks hR hS dX9_feed_39 ?_
        exact Or.inl ⟨inR_gt (n := 8) (by decide) c_10, e_41⟩

set_option maxHeartbeats 4000000 in
set_option maxRecDepth 100000 in
theorem c_m_unit (l : Launch) (G : ah_G) (h : ah_H) (y : Nat) (A : Nat → Nat) (k0 n rf pm zh lc c pt gv un : Nat) (fy : h y = some (20, .inr (8, mF A k0 n rf pm zh lc c pt gv un))) (la : Nat → Nat) (fa12 : h (A 12) = some (32, .inl (G.2.2.1 0, 40800, .inl (nA la)))) (hlc : lc ≤ 40800) (u : Int32) : Met l yX9_unit wsX9_unit ({ frames := 0, cells := 0, slots := 0, locals := 0 }) (ah_Pc G [.ref y, .int u] h) (ah_Qi G (fun v h' => v = rwA la lc u ∧ h' = ah_up h y (20, .inr (8, mF A 0 n rf pm zh lc c pt gv un)))) 0 0 (ah_A G) := by
  refine ah_ofW (cc := cX9_unit) (maxL := 2) (ret := (some .int)) (by decide) rfl (Nat.le_of_ble_eq_true rfl) ?_
  intro p e s m below meth cd9 ls hx hb hr hml hown hlocks hname hts hE hR hS hl
  have hown : s.vm.findClass RX9 = some m.cls := hown
  have hl : lv_has ls 2 [(0, .ref y), (1, .int u)] := hl
  have k64 := hts (.fieldLink RX9 64 "TextPartsModel" "code" "I") (by decide +kernel)
  have hinX9 : ∀ w ∈ wsX90, w ∈ wsX9_unit := by decide +kernel
  have k110 := hts (.fieldLink RX9 110 "TextPartsModel" "latestCount" "I") (by decide +kernel)
  have k30 := hts (.fieldLink RX9 30 "TextPartsModel" "latest" "[I") (by decide +kernel)
  refine lv_aload_n hx hb dX9_unit_0 rfl (lv_at hl 0 rfl) ?_
  refine lv_iconst (v := nI 0) hx hb dX9_unit_1 (by decide) ?_
  refine ah_put (ci := 8) (v := .int (nI 0)) (ty := .int) (C := RX9) (T := TX9) (N := 27) hx hb hE hR hS hts hinX9 tyX9 tyX9_ok nmX9 hown fy rfl 0 (by decide) k64 (fun _ h9 => h9) rfl (by decide +kernel) rfl rfl (Nat.le_of_ble_eq_true rfl) dX9_unit_2 (fun H locs hR hS => ?_)
  obtain ⟨h_1, e_2⟩ : ∃ zz9, zz9 = ah_up h y (20, .inr (8, mF A 0 n rf pm zh lc c pt gv un)) := ⟨_, rfl⟩
  have hR : ah_R G h_1 H := by rw [e_2]; exact hR
  have f_3 : h_1 y = some (20, .inr (8, mF A 0 n rf pm zh lc c pt gv un)) := by rw [e_2]; exact ah_up_s _ _ _
  have f_4 : h_1 (A 12) = some (32, .inl (G.2.2.1 0, 40800, .inl (nA la))) := by rw [e_2]; exact ah_keep fa12 fy (by omega)
  refine lv_iload_n hx hb dX9_unit_5 rfl (lv_at hl 1 rfl) ?_
  refine lv_if_lt (tgt := 26) hx hb dX9_unit_6 (by decide) (fun c_5 => ?_) (fun c_5 => ?_)
  · skip
    refine lv_iconst (v := (-1)) hx hb dX9_unit_26 (by decide) ?_
    refine ah_iret (v := (-1)) hx hb hr hlocks hR hS dX9_unit_27 ?_
    exact ⟨(rwA_neg c_5).symm, e_2⟩
  · skip
    refine lv_iload_n hx hb dX9_unit_9 rfl (lv_at hl 1 rfl) ?_
    refine lv_aload_n hx hb dX9_unit_10 rfl (lv_at hl 0 rfl) ?_
    refine ah_get (ci := 8) (v := .int (nI lc)) (C := RX9) (T := TX9) (N := 27) hx hb hE hR hts hinX9 hown f_3 rfl 11 (by decide) k110 (fun _ h9 => h9) rfl dX9_unit_11 ?_
    refine lv_icmp_ge (tgt := 26) hx hb dX9_unit_14 (by decide) (fun c_6 => ?_) (fun c_6 => ?_)
    · skip
      refine lv_iconst (v := (-1)) hx hb dX9_unit_26 (by decide) ?_
      refine ah_iret (v := (-1)) hx hb hr hlocks hR hS dX9_unit_27 ?_
      exact ⟨(rwA_big c_6).symm, e_2⟩
    · skip
      obtain ⟨j, hj, ej⟩ := ix_of c_5 c_6 (show lc < 2 ^ 31 by omega)
      rw [ej] at hl
      refine lv_aload_n hx hb dX9_unit_17 rfl (lv_at hl 0 rfl) ?_
      refine ah_get (ci := 8) (v := .ref (A 12)) (C := RX9) (T := TX9) (N := 27) hx hb hE hR hts hinX9 hown f_3 rfl 12 (by decide) k30 (fun _ h9 => h9) rfl dX9_unit_18 ?_
      refine lv_iload_n hx hb dX9_unit_21 rfl (lv_at hl 1 rfl) ?_
      refine ah_iald (i := j) hx hb hE hR f_4 (by omega) (by omega) dX9_unit_22 ?_
      refine ah_toi (v := nI (la j)) rfl ?_
      refine lv_goto (tgt := 27) hx hb dX9_unit_23 (by decide) ?_
      refine ah_iret (v := nI (la j)) hx hb hr hlocks hR hS dX9_unit_27 ?_
      exact ⟨by rw [ej, rwA_in hj (by omega)], e_2⟩

set_option maxHeartbeats 4000000 in
set_option maxRecDepth 100000 in
theorem c_m_heap0 (l : Launch) (G : ah_G) (h : ah_H) (y : Nat) (A : Nat → Nat) (k0 n rf pm zh lc c pt gv un : Nat) (fy : h y = some (20, .inr (8, mF A k0 n rf pm zh lc c pt gv un))) (sd : Nat → Nat) (fa15 : h (A 15) = some (35, .inl (G.2.2.1 0, 16, .inl (nA sd)))) (rc : Nat → Nat) (fa16 : h (A 16) = some (36, .inl (G.2.2.1 0, 16, .inl (nA rc)))) (pr : Nat → Nat) (fa17 : h (A 17) = some (37, .inl (G.2.2.1 0, 16, .inl (nA pr)))) (th : Nat → Nat) (fa18 : h (A 18) = some (38, .inl (G.2.2.1 0, 16, .inl (nA th)))) (hc : c ≤ 16) (u : Int32) : Met l yX9_heap wsX9_heap ({ frames := 1, cells := 0, slots := 0, locals := 21 }) (ah_Pc G [.ref y, .int u, .int (nI 0)] h) (ah_Qi G (fun v h' => v = rwA sd c u ∧ h' = ah_up h y (20, .inr (8, mF A 0 n rf pm zh lc c pt gv un)))) 0 0 (ah_A G) := by
  refine ah_ofW (cc := cX9_heap) (maxL := 3) (ret := (some .int)) (by decide) rfl (Nat.le_of_ble_eq_true rfl) ?_
  intro p e s m below meth cd9 ls hx hb hr hml hown hlocks hname hts hE hR hS hl
  have hown : s.vm.findClass RX9 = some m.cls := hown
  have hl : lv_has ls 3 [(0, .ref y), (1, .int u), (2, .int (nI 0))] := hl
  have k107 := hts (.fieldLink RX9 107 "TextPartsModel" "heaps" "I") (by decide +kernel)
  have hinX9 : ∀ w ∈ wsX90, w ∈ wsX9_heap := by decide +kernel
  have k36 := hts (.fieldLink RX9 36 "TextPartsModel" "heapSender" "[I") (by decide +kernel)
  refine lv_aload_n hx hb dX9_heap_0 rfl (lv_at hl 0 rfl) ?_
  refine lv_iload_n hx hb dX9_heap_1 rfl (lv_at hl 2 rfl) ?_
  refine lv_if_lt (tgt := 10) hx hb dX9_heap_2 (by decide) (fun c_1 => ?_) (fun c_1 => ?_)
  · skip
    exact absurd c_1 (nI_pos (by omega))
  · skip
    refine lv_iload_n hx hb dX9_heap_5 rfl (lv_at hl 2 rfl) ?_
    refine lv_iconst (v := nI 3) hx hb dX9_heap_6 (by decide) ?_
    refine lv_icmp_le (tgt := 14) hx hb dX9_heap_7 (by decide) (fun c_2 => ?_) (fun c_2 => ?_)
    · skip
      refine lv_iconst (v := nI 0) hx hb dX9_heap_14 (by decide) ?_
      refine ah_calli (va_runV (As := [.int (nI 0)]) (rest := []) ⟨hx, hb, hml, hown, hts⟩ (c_m_refuses l G h y A k0 n rf pm zh lc c pt gv un fy 0 (by decide)) (cwV 1 hts gX9_heap_X9_refuses rfl rfl rfl (by decide +kernel) ⟨Nat.le_of_ble_eq_true rfl, Nat.le_of_ble_eq_true rfl⟩) (ah_preV hE hR hS fy rfl) rfl rfl hl.1 rfl (lv_room (Nat.le_of_ble_eq_true rfl)) dX9_heap_15 ⟨Nat.le_of_ble_eq_true rfl, Nat.le_of_ble_eq_true rfl⟩) hS (fun r_5 h_3 H locs p_4 hR hS => ?_)
      obtain ⟨e_6, e_7⟩ := p_4
      have f_8 : h_3 y = some (20, .inr (8, mF A 0 n rf pm zh lc c pt gv un)) := by rw [e_7]; exact ah_up_s _ _ _
      have f_9 : h_3 (A 15) = some (35, .inl (G.2.2.1 0, 16, .inl (nA sd))) := by rw [e_7]; exact ah_keep fa15 fy (by omega)
      have f_10 : h_3 (A 16) = some (36, .inl (G.2.2.1 0, 16, .inl (nA rc))) := by rw [e_7]; exact ah_keep fa16 fy (by omega)
      have f_11 : h_3 (A 17) = some (37, .inl (G.2.2.1 0, 16, .inl (nA pr))) := by rw [e_7]; exact ah_keep fa17 fy (by omega)
      have f_12 : h_3 (A 18) = some (38, .inl (G.2.2.1 0, 16, .inl (nA th))) := by rw [e_7]; exact ah_keep fa18 fy (by omega)
      refine ah_toi (v := nI 0) (by rw [e_6]; rfl) ?_
      refine lv_if_eq (tgt := 23) hx hb dX9_heap_18 (by decide) (fun c_13 => ?_) (fun c_13 => ?_)
      · skip
        refine lv_iload_n hx hb dX9_heap_23 rfl (lv_at hl 1 rfl) ?_
        refine lv_if_lt (tgt := 35) hx hb dX9_heap_24 (by decide) (fun c_14 => ?_) (fun c_14 => ?_)
        · skip
          refine lv_iconst (v := (-1)) hx hb dX9_heap_35 (by decide) ?_
          refine ah_iret (v := (-1)) hx hb hr hlocks hR hS dX9_heap_36 ?_
          exact ⟨(rwA_neg c_14).symm, e_7⟩
        · skip
          refine lv_iload_n hx hb dX9_heap_27 rfl (lv_at hl 1 rfl) ?_
          refine lv_aload_n hx hb dX9_heap_28 rfl (lv_at hl 0 rfl) ?_
          refine ah_get (ci := 8) (v := .int (nI c)) (C := RX9) (T := TX9) (N := 27) hx hb hE hR hts hinX9 hown f_8 rfl 13 (by decide) k107 (fun _ h9 => h9) rfl dX9_heap_29 ?_
          refine lv_icmp_lt (tgt := 37) hx hb dX9_heap_32 (by decide) (fun c_15 => ?_) (fun c_15 => ?_)
          · skip
            obtain ⟨j, hj, ej⟩ := ix_of c_14 (Int32.not_le.mpr c_15) (show c < 2 ^ 31 by omega)
            rw [ej] at hl
            refine lv_iload_n hx hb dX9_heap_37 rfl (lv_at hl 2 rfl) ?_
            refine lv_if_ne (tgt := 50) hx hb dX9_heap_38 (by decide) (fun c_16 => ?_) (fun c_16 => ?_)
            · skip
              exact absurd c_16 (by decide)
            · skip
              refine lv_aload_n hx hb dX9_heap_41 rfl (lv_at hl 0 rfl) ?_
              refine ah_get (ci := 8) (v := .ref (A 15)) (C := RX9) (T := TX9) (N := 27) hx hb hE hR hts hinX9 hown f_8 rfl 15 (by decide) k36 (fun _ h9 => h9) rfl dX9_heap_42 ?_
              refine lv_iload_n hx hb dX9_heap_45 rfl (lv_at hl 1 rfl) ?_
              refine ah_iald (i := j) hx hb hE hR f_9 (by omega) (by omega) dX9_heap_46 ?_
              refine ah_toi (v := nI (sd j)) rfl ?_
              refine lv_goto (tgt := 84) hx hb dX9_heap_47 (by decide) ?_
              refine ah_iret (v := nI (sd j)) hx hb hr hlocks hR hS dX9_heap_84 ?_
              exact ⟨by rw [ej, rwA_in hj (by omega)], e_7⟩
          · skip
            refine lv_iconst (v := (-1)) hx hb dX9_heap_35 (by decide) ?_
            refine ah_iret (v := (-1)) hx hb hr hlocks hR hS dX9_heap_36 ?_
            exact ⟨(rwA_big (Int32.not_lt.mp c_15)).symm, e_7⟩
      · skip
        exact absurd (by decide) c_13
    · skip
      exact absurd (by decide) c_2

set_option maxHeartbeats 4000000 in
set_option maxRecDepth 100000 in
theorem c_m_heap1 (l : Launch) (G : ah_G) (h : ah_H) (y : Nat) (A : Nat → Nat) (k0 n rf pm zh lc c pt gv un : Nat) (fy : h y = some (20, .inr (8, mF A k0 n rf pm zh lc c pt gv un))) (sd : Nat → Nat) (fa15 : h (A 15) = some (35, .inl (G.2.2.1 0, 16, .inl (nA sd)))) (rc : Nat → Nat) (fa16 : h (A 16) = some (36, .inl (G.2.2.1 0, 16, .inl (nA rc)))) (pr : Nat → Nat) (fa17 : h (A 17) = some (37, .inl (G.2.2.1 0, 16, .inl (nA pr)))) (th : Nat → Nat) (fa18 : h (A 18) = some (38, .inl (G.2.2.1 0, 16, .inl (nA th)))) (hc : c ≤ 16) (u : Int32) : Met l yX9_heap wsX9_heap ({ frames := 1, cells := 0, slots := 0, locals := 21 }) (ah_Pc G [.ref y, .int u, .int (nI 1)] h) (ah_Qi G (fun v h' => v = rwA rc c u ∧ h' = ah_up h y (20, .inr (8, mF A 0 n rf pm zh lc c pt gv un)))) 0 0 (ah_A G) := by
  refine ah_ofW (cc := cX9_heap) (maxL := 3) (ret := (some .int)) (by decide) rfl (Nat.le_of_ble_eq_true rfl) ?_
  intro p e s m below meth cd9 ls hx hb hr hml hown hlocks hname hts hE hR hS hl
  have hown : s.vm.findClass RX9 = some m.cls := hown
  have hl : lv_has ls 3 [(0, .ref y), (1, .int u), (2, .int (nI 1))] := hl
  have k107 := hts (.fieldLink RX9 107 "TextPartsModel" "heaps" "I") (by decide +kernel)
  have hinX9 : ∀ w ∈ wsX90, w ∈ wsX9_heap := by decide +kernel
  have k39 := hts (.fieldLink RX9 39 "TextPartsModel" "heapReference" "[I") (by decide +kernel)
  refine lv_aload_n hx hb dX9_heap_0 rfl (lv_at hl 0 rfl) ?_
  refine lv_iload_n hx hb dX9_heap_1 rfl (lv_at hl 2 rfl) ?_
  refine lv_if_lt (tgt := 10) hx hb dX9_heap_2 (by decide) (fun c_1 => ?_) (fun c_1 => ?_)
  · skip
    exact absurd c_1 (nI_pos (by omega))
  · skip
    refine lv_iload_n hx hb dX9_heap_5 rfl (lv_at hl 2 rfl) ?_
    refine lv_iconst (v := nI 3) hx hb dX9_heap_6 (by decide) ?_
    refine lv_icmp_le (tgt := 14) hx hb dX9_heap_7 (by decide) (fun c_2 => ?_) (fun c_2 => ?_)
    · skip
      refine lv_iconst (v := nI 0) hx hb dX9_heap_14 (by decide) ?_
      refine ah_calli (va_runV (As := [.int (nI 0)]) (rest := []) ⟨hx, hb, hml, hown, hts⟩ (c_m_refuses l G h y A k0 n rf pm zh lc c pt gv un fy 0 (by decide)) (cwV 1 hts gX9_heap_X9_refuses rfl rfl rfl (by decide +kernel) ⟨Nat.le_of_ble_eq_true rfl, Nat.le_of_ble_eq_true rfl⟩) (ah_preV hE hR hS fy rfl) rfl rfl hl.1 rfl (lv_room (Nat.le_of_ble_eq_true rfl)) dX9_heap_15 ⟨Nat.le_of_ble_eq_true rfl, Nat.le_of_ble_eq_true rfl⟩) hS (fun r_5 h_3 H locs p_4 hR hS => ?_)
      obtain ⟨e_6, e_7⟩ := p_4
      have f_8 : h_3 y = some (20, .inr (8, mF A 0 n rf pm zh lc c pt gv un)) := by rw [e_7]; exact ah_up_s _ _ _
      have f_9 : h_3 (A 15) = some (35, .inl (G.2.2.1 0, 16, .inl (nA sd))) := by rw [e_7]; exact ah_keep fa15 fy (by omega)
      have f_10 : h_3 (A 16) = some (36, .inl (G.2.2.1 0, 16, .inl (nA rc))) := by rw [e_7]; exact ah_keep fa16 fy (by omega)
      have f_11 : h_3 (A 17) = some (37, .inl (G.2.2.1 0, 16, .inl (nA pr))) := by rw [e_7]; exact ah_keep fa17 fy (by omega)
      have f_12 : h_3 (A 18) = some (38, .inl (G.2.2.1 0, 16, .inl (nA th))) := by rw [e_7]; exact ah_keep fa18 fy (by omega)
      refine ah_toi (v := nI 0) (by rw [e_6]; rfl) ?_
      refine lv_if_eq (tgt := 23) hx hb dX9_heap_18 (by decide) (fun c_13 => ?_) (fun c_13 => ?_)
      · skip
        refine lv_iload_n hx hb dX9_heap_23 rfl (lv_at hl 1 rfl) ?_
        refine lv_if_lt (tgt := 35) hx hb dX9_heap_24 (by decide) (fun c_14 => ?_) (fun c_14 => ?_)
        · skip
          refine lv_iconst (v := (-1)) hx hb dX9_heap_35 (by decide) ?_
          refine ah_iret (v := (-1)) hx hb hr hlocks hR hS dX9_heap_36 ?_
          exact ⟨(rwA_neg c_14).symm, e_7⟩
        · skip
          refine lv_iload_n hx hb dX9_heap_27 rfl (lv_at hl 1 rfl) ?_
          refine lv_aload_n hx hb dX9_heap_28 rfl (lv_at hl 0 rfl) ?_
          refine ah_get (ci := 8) (v := .int (nI c)) (C := RX9) (T := TX9) (N := 27) hx hb hE hR hts hinX9 hown f_8 rfl 13 (by decide) k107 (fun _ h9 => h9) rfl dX9_heap_29 ?_
          refine lv_icmp_lt (tgt := 37) hx hb dX9_heap_32 (by decide) (fun c_15 => ?_) (fun c_15 => ?_)
          · skip
            obtain ⟨j, hj, ej⟩ := ix_of c_14 (Int32.not_le.mpr c_15) (show c < 2 ^ 31 by omega)
            rw [ej] at hl
            refine lv_iload_n hx hb dX9_heap_37 rfl (lv_at hl 2 rfl) ?_
            refine lv_if_ne (tgt := 50) hx hb dX9_heap_38 (by decide) (fun c_16 => ?_) (fun c_16 => ?_)
            · skip
              refine lv_iload_n hx hb dX9_heap_50 rfl (lv_at hl 2 rfl) ?_
              refine lv_iconst (v := nI 1) hx hb dX9_heap_51 (by decide) ?_
              refine lv_icmp_ne (tgt := 64) hx hb dX9_heap_52 (by decide) (fun c_17 => ?_) (fun c_17 => ?_)
              · skip
                exact absurd (by decide) c_17
              · skip
                refine lv_aload_n hx hb dX9_heap_55 rfl (lv_at hl 0 rfl) ?_
                refine ah_get (ci := 8) (v := .ref (A 16)) (C := RX9) (T := TX9) (N := 27) hx hb hE hR hts hinX9 hown f_8 rfl 16 (by decide) k39 (fun _ h9 => h9) rfl dX9_heap_56 ?_
                refine lv_iload_n hx hb dX9_heap_59 rfl (lv_at hl 1 rfl) ?_
                refine ah_iald (i := j) hx hb hE hR f_10 (by omega) (by omega) dX9_heap_60 ?_
                refine ah_toi (v := nI (rc j)) rfl ?_
                refine lv_goto (tgt := 84) hx hb dX9_heap_61 (by decide) ?_
                refine ah_iret (v := nI (rc j)) hx hb hr hlocks hR hS dX9_heap_84 ?_
                exact ⟨by rw [ej, rwA_in hj (by omega)], e_7⟩
            · skip
              exact absurd c_16 (by decide)
          · skip
            refine lv_iconst (v := (-1)) hx hb dX9_heap_35 (by decide) ?_
            refine ah_iret (v := (-1)) hx hb hr hlocks hR hS dX9_heap_36 ?_
            exact ⟨(rwA_big (Int32.not_lt.mp c_15)).symm, e_7⟩
      · skip
        exact absurd (by decide) c_13
    · skip
      exact absurd (by decide) c_2

set_option maxHeartbeats 4000000 in
set_option maxRecDepth 100000 in
theorem c_m_heap2 (l : Launch) (G : ah_G) (h : ah_H) (y : Nat) (A : Nat → Nat) (k0 n rf pm zh lc c pt gv un : Nat) (fy : h y = some (20, .inr (8, mF A k0 n rf pm zh lc c pt gv un))) (sd : Nat → Nat) (fa15 : h (A 15) = some (35, .inl (G.2.2.1 0, 16, .inl (nA sd)))) (rc : Nat → Nat) (fa16 : h (A 16) = some (36, .inl (G.2.2.1 0, 16, .inl (nA rc)))) (pr : Nat → Nat) (fa17 : h (A 17) = some (37, .inl (G.2.2.1 0, 16, .inl (nA pr)))) (th : Nat → Nat) (fa18 : h (A 18) = some (38, .inl (G.2.2.1 0, 16, .inl (nA th)))) (hc : c ≤ 16) (u : Int32) : Met l yX9_heap wsX9_heap ({ frames := 1, cells := 0, slots := 0, locals := 21 }) (ah_Pc G [.ref y, .int u, .int (nI 2)] h) (ah_Qi G (fun v h' => v = rwA pr c u ∧ h' = ah_up h y (20, .inr (8, mF A 0 n rf pm zh lc c pt gv un)))) 0 0 (ah_A G) := by
  refine ah_ofW (cc := cX9_heap) (maxL := 3) (ret := (some .int)) (by decide) rfl (Nat.le_of_ble_eq_true rfl) ?_
  intro p e s m below meth cd9 ls hx hb hr hml hown hlocks hname hts hE hR hS hl
  have hown : s.vm.findClass RX9 = some m.cls := hown
  have hl : lv_has ls 3 [(0, .ref y), (1, .int u), (2, .int (nI 2))] := hl
  have k107 := hts (.fieldLink RX9 107 "TextPartsModel" "heaps" "I") (by decide +kernel)
  have hinX9 : ∀ w ∈ wsX90, w ∈ wsX9_heap := by decide +kernel
  have k42 := hts (.fieldLink RX9 42 "TextPartsModel" "heapParts" "[I") (by decide +kernel)
  refine lv_aload_n hx hb dX9_heap_0 rfl (lv_at hl 0 rfl) ?_
  refine lv_iload_n hx hb dX9_heap_1 rfl (lv_at hl 2 rfl) ?_
  refine lv_if_lt (tgt := 10) hx hb dX9_heap_2 (by decide) (fun c_1 => ?_) (fun c_1 => ?_)
  · skip
    exact absurd c_1 (nI_pos (by omega))
  · skip
    refine lv_iload_n hx hb dX9_heap_5 rfl (lv_at hl 2 rfl) ?_
    refine lv_iconst (v := nI 3) hx hb dX9_heap_6 (by decide) ?_
    refine lv_icmp_le (tgt := 14) hx hb dX9_heap_7 (by decide) (fun c_2 => ?_) (fun c_2 => ?_)
    · skip
      refine lv_iconst (v := nI 0) hx hb dX9_heap_14 (by decide) ?_
      refine ah_calli (va_runV (As := [.int (nI 0)]) (rest := []) ⟨hx, hb, hml, hown, hts⟩ (c_m_refuses l G h y A k0 n rf pm zh lc c pt gv un fy 0 (by decide)) (cwV 1 hts gX9_heap_X9_refuses rfl rfl rfl (by decide +kernel) ⟨Nat.le_of_ble_eq_true rfl, Nat.le_of_ble_eq_true rfl⟩) (ah_preV hE hR hS fy rfl) rfl rfl hl.1 rfl (lv_room (Nat.le_of_ble_eq_true rfl)) dX9_heap_15 ⟨Nat.le_of_ble_eq_true rfl, Nat.le_of_ble_eq_true rfl⟩) hS (fun r_5 h_3 H locs p_4 hR hS => ?_)
      obtain ⟨e_6, e_7⟩ := p_4
      have f_8 : h_3 y = some (20, .inr (8, mF A 0 n rf pm zh lc c pt gv un)) := by rw [e_7]; exact ah_up_s _ _ _
      have f_9 : h_3 (A 15) = some (35, .inl (G.2.2.1 0, 16, .inl (nA sd))) := by rw [e_7]; exact ah_keep fa15 fy (by omega)
      have f_10 : h_3 (A 16) = some (36, .inl (G.2.2.1 0, 16, .inl (nA rc))) := by rw [e_7]; exact ah_keep fa16 fy (by omega)
      have f_11 : h_3 (A 17) = some (37, .inl (G.2.2.1 0, 16, .inl (nA pr))) := by rw [e_7]; exact ah_keep fa17 fy (by omega)
      have f_12 : h_3 (A 18) = some (38, .inl (G.2.2.1 0, 16, .inl (nA th))) := by rw [e_7]; exact ah_keep fa18 fy (by omega)
      refine ah_toi (v := nI 0) (by rw [e_6]; rfl) ?_
      refine lv_if_eq (tgt := 23) hx hb dX9_heap_18 (by decide) (fun c_13 => ?_) (fun c_13 => ?_)
      · skip
        refine lv_iload_n hx hb dX9_heap_23 rfl (lv_at hl 1 rfl) ?_
        refine lv_if_lt (tgt := 35) hx hb dX9_heap_24 (by decide) (fun c_14 => ?_) (fun c_14 => ?_)
        · skip
          refine lv_iconst (v := (-1)) hx hb dX9_heap_35 (by decide) ?_
          refine ah_iret (v := (-1)) hx hb hr hlocks hR hS dX9_heap_36 ?_
          exact ⟨(rwA_neg c_14).symm, e_7⟩
        · skip
          refine lv_iload_n hx hb dX9_heap_27 rfl (lv_at hl 1 rfl) ?_
          refine lv_aload_n hx hb dX9_heap_28 rfl (lv_at hl 0 rfl) ?_
          refine ah_get (ci := 8) (v := .int (nI c)) (C := RX9) (T := TX9) (N := 27) hx hb hE hR hts hinX9 hown f_8 rfl 13 (by decide) k107 (fun _ h9 => h9) rfl dX9_heap_29 ?_
          refine lv_icmp_lt (tgt := 37) hx hb dX9_heap_32 (by decide) (fun c_15 => ?_) (fun c_15 => ?_)
          · skip
            obtain ⟨j, hj, ej⟩ := ix_of c_14 (Int32.not_le.mpr c_15) (show c < 2 ^ 31 by omega)
            rw [ej] at hl
            refine lv_iload_n hx hb dX9_heap_37 rfl (lv_at hl 2 rfl) ?_
            refine lv_if_ne (tgt := 50) hx hb dX9_heap_38 (by decide) (fun c_16 => ?_) (fun c_16 => ?_)
            · skip
              refine lv_iload_n hx hb dX9_heap_50 rfl (lv_at hl 2 rfl) ?_
              refine lv_iconst (v := nI 1) hx hb dX9_heap_51 (by decide) ?_
              refine lv_icmp_ne (tgt := 64) hx hb dX9_heap_52 (by decide) (fun c_17 => ?_) (fun c_17 => ?_)
              · skip
                refine lv_iload_n hx hb dX9_heap_64 rfl (lv_at hl 2 rfl) ?_
                refine lv_iconst (v := nI 2) hx hb dX9_heap_65 (by decide) ?_
                refine lv_icmp_ne (tgt := 78) hx hb dX9_heap_66 (by decide) (fun c_18 => ?_) (fun c_18 => ?_)
                · skip
                  exact absurd (by decide) c_18
                · skip
                  refine lv_aload_n hx hb dX9_heap_69 rfl (lv_at hl 0 rfl) ?_
                  refine ah_get (ci := 8) (v := .ref (A 17)) (C := RX9) (T := TX9) (N := 27) hx hb hE hR hts hinX9 hown f_8 rfl 17 (by decide) k42 (fun _ h9 => h9) rfl dX9_heap_70 ?_
                  refine lv_iload_n hx hb dX9_heap_73 rfl (lv_at hl 1 rfl) ?_
                  refine ah_iald (i := j) hx hb hE hR f_11 (by omega) (by omega) dX9_heap_74 ?_
                  refine ah_toi (v := nI (pr j)) rfl ?_
                  refine lv_goto (tgt := 84) hx hb dX9_heap_75 (by decide) ?_
                  refine ah_iret (v := nI (pr j)) hx hb hr hlocks hR hS dX9_heap_84 ?_
                  exact ⟨by rw [ej, rwA_in hj (by omega)], e_7⟩
              · skip
                exact absurd c_17 (by decide)
            · skip
              exact absurd c_16 (by decide)
          · skip
            refine lv_iconst (v := (-1)) hx hb dX9_heap_35 (by decide) ?_
            refine ah_iret (v := (-1)) hx hb hr hlocks hR hS dX9_heap_36 ?_
            exact ⟨(rwA_big (Int32.not_lt.mp c_15)).symm, e_7⟩
      · skip
        exact absurd (by decide) c_13
    · skip
      exact absurd (by decide) c_2

set_option maxHeartbeats 4000000 in
set_option maxRecDepth 100000 in
theorem c_m_heap3 (l : Launch) (G : ah_G) (h : ah_H) (y : Nat) (A : Nat → Nat) (k0 n rf pm zh lc c pt gv un : Nat) (fy : h y = some (20, .inr (8, mF A k0 n rf pm zh lc c pt gv un))) (sd : Nat → Nat) (fa15 : h (A 15) = some (35, .inl (G.2.2.1 0, 16, .inl (nA sd)))) (rc : Nat → Nat) (fa16 : h (A 16) = some (36, .inl (G.2.2.1 0, 16, .inl (nA rc)))) (pr : Nat → Nat) (fa17 : h (A 17) = some (37, .inl (G.2.2.1 0, 16, .inl (nA pr)))) (th : Nat → Nat) (fa18 : h (A 18) = some (38, .inl (G.2.2.1 0, 16, .inl (nA th)))) (hc : c ≤ 16) (u : Int32) : Met l yX9_heap wsX9_heap ({ frames := 1, cells := 0, slots := 0, locals := 21 }) (ah_Pc G [.ref y, .int u, .int (nI 3)] h) (ah_Qi G (fun v h' => v = rwA th c u ∧ h' = ah_up h y (20, .inr (8, mF A 0 n rf pm zh lc c pt gv un)))) 0 0 (ah_A G) := by
  refine ah_ofW (cc := cX9_heap) (maxL := 3) (ret := (some .int)) (by decide) rfl (Nat.le_of_ble_eq_true rfl) ?_
  intro p e s m below meth cd9 ls hx hb hr hml hown hlocks hname hts hE hR hS hl
  have hown : s.vm.findClass RX9 = some m.cls := hown
  have hl : lv_has ls 3 [(0, .ref y), (1, .int u), (2, .int (nI 3))] := hl
  have k107 := hts (.fieldLink RX9 107 "TextPartsModel" "heaps" "I") (by decide +kernel)
  have hinX9 : ∀ w ∈ wsX90, w ∈ wsX9_heap := by decide +kernel
  have k45 := hts (.fieldLink RX9 45 "TextPartsModel" "heapThere" "[I") (by decide +kernel)
  refine lv_aload_n hx hb dX9_heap_0 rfl (lv_at hl 0 rfl) ?_
  refine lv_iload_n hx hb dX9_heap_1 rfl (lv_at hl 2 rfl) ?_
  refine lv_if_lt (tgt := 10) hx hb dX9_heap_2 (by decide) (fun c_1 => ?_) (fun c_1 => ?_)
  · skip
    exact absurd c_1 (nI_pos (by omega))
  · skip
    refine lv_iload_n hx hb dX9_heap_5 rfl (lv_at hl 2 rfl) ?_
    refine lv_iconst (v := nI 3) hx hb dX9_heap_6 (by decide) ?_
    refine lv_icmp_le (tgt := 14) hx hb dX9_heap_7 (by decide) (fun c_2 => ?_) (fun c_2 => ?_)
    · skip
      refine lv_iconst (v := nI 0) hx hb dX9_heap_14 (by decide) ?_
      refine ah_calli (va_runV (As := [.int (nI 0)]) (rest := []) ⟨hx, hb, hml, hown, hts⟩ (c_m_refuses l G h y A k0 n rf pm zh lc c pt gv un fy 0 (by decide)) (cwV 1 hts gX9_heap_X9_refuses rfl rfl rfl (by decide +kernel) ⟨Nat.le_of_ble_eq_true rfl, Nat.le_of_ble_eq_true rfl⟩) (ah_preV hE hR hS fy rfl) rfl rfl hl.1 rfl (lv_room (Nat.le_of_ble_eq_true rfl)) dX9_heap_15 ⟨Nat.le_of_ble_eq_true rfl, Nat.le_of_ble_eq_true rfl⟩) hS (fun r_5 h_3 H locs p_4 hR hS => ?_)
      obtain ⟨e_6, e_7⟩ := p_4
      have f_8 : h_3 y = some (20, .inr (8, mF A 0 n rf pm zh lc c pt gv un)) := by rw [e_7]; exact ah_up_s _ _ _
      have f_9 : h_3 (A 15) = some (35, .inl (G.2.2.1 0, 16, .inl (nA sd))) := by rw [e_7]; exact ah_keep fa15 fy (by omega)
      have f_10 : h_3 (A 16) = some (36, .inl (G.2.2.1 0, 16, .inl (nA rc))) := by rw [e_7]; exact ah_keep fa16 fy (by omega)
      have f_11 : h_3 (A 17) = some (37, .inl (G.2.2.1 0, 16, .inl (nA pr))) := by rw [e_7]; exact ah_keep fa17 fy (by omega)
      have f_12 : h_3 (A 18) = some (38, .inl (G.2.2.1 0, 16, .inl (nA th))) := by rw [e_7]; exact ah_keep fa18 fy (by omega)
      refine ah_toi (v := nI 0) (by rw [e_6]; rfl) ?_
      refine lv_if_eq (tgt := 23) hx hb dX9_heap_18 (by decide) (fun c_13 => ?_) (fun c_13 => ?_)
      · skip
        refine lv_iload_n hx hb dX9_heap_23 rfl (lv_at hl 1 rfl) ?_
        refine lv_if_lt (tgt := 35) hx hb dX9_heap_24 (by decide) (fun c_14 => ?_) (fun c_14 => ?_)
        · skip
          refine lv_iconst (v := (-1)) hx hb dX9_heap_35 (by decide) ?_
          refine ah_iret (v := (-1)) hx hb hr hlocks hR hS dX9_heap_36 ?_
          exact ⟨(rwA_neg c_14).symm, e_7⟩
        · skip
          refine lv_iload_n hx hb dX9_heap_27 rfl (lv_at hl 1 rfl) ?_
          refine lv_aload_n hx hb dX9_heap_28 rfl (lv_at hl 0 rfl) ?_
          refine ah_get (ci := 8) (v := .int (nI c)) (C := RX9) (T := TX9) (N := 27) hx hb hE hR hts hinX9 hown f_8 rfl 13 (by decide) k107 (fun _ h9 => h9) rfl dX9_heap_29 ?_
          refine lv_icmp_lt (tgt := 37) hx hb dX9_heap_32 (by decide) (fun c_15 => ?_) (fun c_15 => ?_)
          · skip
            obtain ⟨j, hj, ej⟩ := ix_of c_14 (Int32.not_le.mpr c_15) (show c < 2 ^ 31 by omega)
            rw [ej] at hl
            refine lv_iload_n hx hb dX9_heap_37 rfl (lv_at hl 2 rfl) ?_
            refine lv_if_ne (tgt := 50) hx hb dX9_heap_38 (by decide) (fun c_16 => ?_) (fun c_16 => ?_)
            · skip
              refine lv_iload_n hx hb dX9_heap_50 rfl (lv_at hl 2 rfl) ?_
              refine lv_iconst (v := nI 1) hx hb dX9_heap_51 (by decide) ?_
              refine lv_icmp_ne (tgt := 64) hx hb dX9_heap_52 (by decide) (fun c_17 => ?_) (fun c_17 => ?_)
              · skip
                refine lv_iload_n hx hb dX9_heap_64 rfl (lv_at hl 2 rfl) ?_
                refine lv_iconst (v := nI 2) hx hb dX9_heap_65 (by decide) ?_
                refine lv_icmp_ne (tgt := 78) hx hb dX9_heap_66 (by decide) (fun c_18 => ?_) (fun c_18 => ?_)
                · skip
                  refine lv_aload_n hx hb dX9_heap_78 rfl (lv_at hl 0 rfl) ?_
                  refine ah_get (ci := 8) (v := .ref (A 18)) (C := RX9) (T := TX9) (N := 27) hx hb hE hR hts hinX9 hown f_8 rfl 18 (by decide) k45 (fun _ h9 => h9) rfl dX9_heap_79 ?_
                  refine lv_iload_n hx hb dX9_heap_82 rfl (lv_at hl 1 rfl) ?_
                  refine ah_iald (i := j) hx hb hE hR f_12 (by omega) (by omega) dX9_heap_83 ?_
                  refine ah_toi (v := nI (th j)) rfl ?_
                  refine ah_iret (v := nI (th j)) hx hb hr hlocks hR hS dX9_heap_84 ?_
                  exact ⟨by rw [ej, rwA_in hj (by omega)], e_7⟩
                · skip
                  exact absurd c_18 (by decide)
              · skip
                exact absurd c_17 (by decide)
            · skip
              exact absurd c_16 (by decide)
          · skip
            refine lv_iconst (v := (-1)) hx hb dX9_heap_35 (by decide) ?_
            refine ah_iret (v := (-1)) hx hb hr hlocks hR hS dX9_heap_36 ?_
            exact ⟨(rwA_big (Int32.not_lt.mp c_15)).symm, e_7⟩
      · skip
        exact absurd (by decide) c_13
    · skip
      exact absurd (by decide) c_2

set_option maxHeartbeats 4000000 in
set_option maxRecDepth 100000 in
theorem c_m_heapX (l : Launch) (G : ah_G) (h : ah_H) (y : Nat) (A : Nat → Nat) (k0 n rf pm zh lc c pt gv un : Nat) (fy : h y = some (20, .inr (8, mF A k0 n rf pm zh lc c pt gv un))) (u u1 : Int32) (hu : ¬ inR 4 u1) : Met l yX9_heap wsX9_heap ({ frames := 1, cells := 0, slots := 0, locals := 21 }) (ah_Pc G [.ref y, .int u, .int u1] h) (ah_Qi G (fun v h' => h' = ah_up h y (20, .inr (8, mF A 1 n rf pm zh lc c pt gv un)))) 0 0 (ah_A G) := by
  refine ah_ofW (cc := cX9_heap) (maxL := 3) (ret := (some .int)) (by decide) rfl (Nat.le_of_ble_eq_true rfl) ?_
  intro p e s m below meth cd9 ls hx hb hr hml hown hlocks hname hts hE hR hS hl
  have hown : s.vm.findClass RX9 = some m.cls := hown
  have hl : lv_has ls 3 [(0, .ref y), (1, .int u), (2, .int u1)] := hl
  refine lv_aload_n hx hb dX9_heap_0 rfl (lv_at hl 0 rfl) ?_
  refine lv_iload_n hx hb dX9_heap_1 rfl (lv_at hl 2 rfl) ?_
  refine lv_if_lt (tgt := 10) hx hb dX9_heap_2 (by decide) (fun c_1 => ?_) (fun c_1 => ?_)
  · skip
    refine lv_iconst (v := nI 1) hx hb dX9_heap_10 (by decide) ?_
    refine lv_goto (tgt := 15) hx hb dX9_heap_11 (by decide) ?_
    refine ah_calli (va_runV (As := [.int (nI 1)]) (rest := []) ⟨hx, hb, hml, hown, hts⟩ (c_m_refuses l G h y A k0 n rf pm zh lc c pt gv un fy 1 (by decide)) (cwV 1 hts gX9_heap_X9_refuses rfl rfl rfl (by decide +kernel) ⟨Nat.le_of_ble_eq_true rfl, Nat.le_of_ble_eq_true rfl⟩) (ah_preV hE hR hS fy rfl) rfl rfl hl.1 rfl (lv_room (Nat.le_of_ble_eq_true rfl)) dX9_heap_15 ⟨Nat.le_of_ble_eq_true rfl, Nat.le_of_ble_eq_true rfl⟩) hS (fun r_4 h_2 H locs p_3 hR hS => ?_)
    obtain ⟨e_5, e_6⟩ := p_3
    have f_7 : h_2 y = some (20, .inr (8, mF A 1 n rf pm zh lc c pt gv un)) := by rw [e_6]; exact ah_up_s _ _ _
    refine ah_toi (v := nI 1) (by rw [e_5]; rfl) ?_
    refine lv_if_eq (tgt := 23) hx hb dX9_heap_18 (by decide) (fun c_8 => ?_) (fun c_8 => ?_)
    · skip
      exact absurd c_8 (by decide)
    · skip
      refine lv_iconst (v := nI 0) hx hb dX9_heap_21 (by decide) ?_
      refine ah_iret (v := nI 0) hx hb hr hlocks hR hS dX9_heap_22 ?_
      exact e_6
  · skip
    refine lv_iload_n hx hb dX9_heap_5 rfl (lv_at hl 2 rfl) ?_
    refine lv_iconst (v := nI 3) hx hb dX9_heap_6 (by decide) ?_
    refine lv_icmp_le (tgt := 14) hx hb dX9_heap_7 (by decide) (fun c_9 => ?_) (fun c_9 => ?_)
    · skip
      exact absurd (inR_in (n := 3) (by decide) c_1 c_9) hu
    · skip
      refine lv_iconst (v := nI 1) hx hb dX9_heap_10 (by decide) ?_
      refine lv_goto (tgt := 15) hx hb dX9_heap_11 (by decide) ?_
      refine ah_calli (va_runV (As := [.int (nI 1)]) (rest := []) ⟨hx, hb, hml, hown, hts⟩ (c_m_refuses l G h y A k0 n rf pm zh lc c pt gv un fy 1 (by decide)) (cwV 1 hts gX9_heap_X9_refuses rfl rfl rfl (by decide +kernel) ⟨Nat.le_of_ble_eq_true rfl, Nat.le_of_ble_eq_true rfl⟩) (ah_preV hE hR hS fy rfl) rfl rfl hl.1 rfl (lv_room (Nat.le_of_ble_eq_true rfl)) dX9_heap_15 ⟨Nat.le_of_ble_eq_true rfl, Nat.le_of_ble_eq_true rfl⟩) hS (fun r_12 h_10 H locs p_11 hR hS => ?_)
      obtain ⟨e_13, e_14⟩ := p_11
      have f_15 : h_10 y = some (20, .inr (8, mF A 1 n rf pm zh lc c pt gv un)) := by rw [e_14]; exact ah_up_s _ _ _
      refine ah_toi (v := nI 1) (by rw [e_13]; rfl) ?_
      refine lv_if_eq (tgt := 23) hx hb dX9_heap_18 (by decide) (fun c_16 => ?_) (fun c_16 => ?_)
      · skip
        exact absurd c_16 (by decide)
      · skip
        refine lv_iconst (v := nI 0) hx hb dX9_heap_21 (by decide) ?_
        refine ah_iret (v := nI 0) hx hb hr hlocks hR hS dX9_heap_22 ?_
        exact e_14

set_option maxHeartbeats 4000000 in
set_option maxRecDepth 100000 in
theorem c_m_forget (l : Launch) (G : ah_G) (h : ah_H) (y : Nat) (A : Nat → Nat) (k0 n rf pm zh lc c pt gv un : Nat) (fy : h y = some (20, .inr (8, mF A k0 n rf pm zh lc c pt gv un))) (mp : Nat → Nat) (fa14 : h (A 14) = some (34, .inl (G.2.2.1 0, 16, .inl (nA mp)))) (sd : Nat → Nat) (fa15 : h (A 15) = some (35, .inl (G.2.2.1 0, 16, .inl (nA sd)))) (rc : Nat → Nat) (fa16 : h (A 16) = some (36, .inl (G.2.2.1 0, 16, .inl (nA rc)))) (pr : Nat → Nat) (fa17 : h (A 17) = some (37, .inl (G.2.2.1 0, 16, .inl (nA pr)))) (th : Nat → Nat) (fa18 : h (A 18) = some (38, .inl (G.2.2.1 0, 16, .inl (nA th)))) (sm : Nat → Nat) (fa19 : h (A 19) = some (39, .inl (G.2.2.1 0, 16, .inl (nA sm)))) (hc : c ≤ 16) (D : Nat → hDt) (pc : Nat → Int32) (pu : Nat → Nat) (hHR : HR c D mp sd rc pr th sm pc pu c) (hDB : DB c D) (u0 : Int32) : Met l yX9_forget wsX9_forget ({ frames := 1, cells := 0, slots := 0, locals := 23 }) (ah_Pc G [.ref y, .int u0] h) (ah_Qi G (fun v h' => (¬ inR 1000 u0 ∧ h' = ah_up h y (20, .inr (8, mF A 1 n rf pm zh lc c pt gv un))) ∨ (∃ s9, s9 < 1000 ∧ u0 = nI s9 ∧ v = nI (c - (drp s9 c (c, D)).1) ∧ ∃ (mp' sd' rc' pr' th' sm' : Nat → Nat), HR (drp s9 c (c, D)).1 (drp s9 c (c, D)).2 mp' sd' rc' pr' th' sm' pc pu (drp s9 c (c, D)).1 ∧ h' y = some (20, .inr (8, mF A 0 n rf pm zh lc ((drp s9 c (c, D)).1) pt gv un)) ∧ h' (A 14) = some (34, .inl (G.2.2.1 0, 16, .inl (nA mp'))) ∧ h' (A 15) = some (35, .inl (G.2.2.1 0, 16, .inl (nA sd'))) ∧ h' (A 16) = some (36, .inl (G.2.2.1 0, 16, .inl (nA rc'))) ∧ h' (A 17) = some (37, .inl (G.2.2.1 0, 16, .inl (nA pr'))) ∧ h' (A 18) = some (38, .inl (G.2.2.1 0, 16, .inl (nA th'))) ∧ h' (A 19) = some (39, .inl (G.2.2.1 0, 16, .inl (nA sm'))) ∧ agr (fun t => t ≠ 20 ∧ ¬ (34 ≤ t ∧ t ≤ 39)) h h'))) 0 0 (ah_A G) := by
  refine ah_ofW (cc := cX9_forget) (maxL := 4) (ret := (some .int)) (by decide) rfl (Nat.le_of_ble_eq_true rfl) ?_
  intro p e s m below meth cd9 ls hx hb hr hml hown hlocks hname hts hE hR hS hl
  have hown : s.vm.findClass RX9 = some m.cls := hown
  have hl : lv_has ls 4 [(0, .ref y), (1, .int u0)] := hl
  have k107 := hts (.fieldLink RX9 107 "TextPartsModel" "heaps" "I") (by decide +kernel)
  have hinX9 : ∀ w ∈ wsX90, w ∈ wsX9_forget := by decide +kernel
  have k36 := hts (.fieldLink RX9 36 "TextPartsModel" "heapSender" "[I") (by decide +kernel)
  refine lv_aload_n hx hb dX9_forget_0 rfl (lv_at hl 0 rfl) ?_
  refine lv_iload_n hx hb dX9_forget_1 rfl (lv_at hl 1 rfl) ?_
  refine lv_if_lt (tgt := 12) hx hb dX9_forget_2 (by decide) (fun c_1 => ?_) (fun c_1 => ?_)
  · skip
    refine lv_iconst (v := nI 1) hx hb dX9_forget_12 (by decide) ?_
    refine lv_goto (tgt := 17) hx hb dX9_forget_13 (by decide) ?_
    refine ah_calli (va_runV (As := [.int (nI 1)]) (rest := []) ⟨hx, hb, hml, hown, hts⟩ (c_m_refuses l G h y A k0 n rf pm zh lc c pt gv un fy 1 (by decide)) (cwV 1 hts gX9_forget_X9_refuses rfl rfl rfl (by decide +kernel) ⟨Nat.le_of_ble_eq_true rfl, Nat.le_of_ble_eq_true rfl⟩) (ah_preV hE hR hS fy rfl) rfl rfl hl.1 rfl (lv_room (Nat.le_of_ble_eq_true rfl)) dX9_forget_17 ⟨Nat.le_of_ble_eq_true rfl, Nat.le_of_ble_eq_true rfl⟩) hS (fun r_4 h_2 H locs p_3 hR hS => ?_)
    obtain ⟨e_5, e_6⟩ := p_3
    have f_7 : h_2 y = some (20, .inr (8, mF A 1 n rf pm zh lc c pt gv un)) := by rw [e_6]; exact ah_up_s _ _ _
    have f_8 : h_2 (A 14) = some (34, .inl (G.2.2.1 0, 16, .inl (nA mp))) := by rw [e_6]; exact ah_keep fa14 fy (by omega)
    have f_9 : h_2 (A 15) = some (35, .inl (G.2.2.1 0, 16, .inl (nA sd))) := by rw [e_6]; exact ah_keep fa15 fy (by omega)
    have f_10 : h_2 (A 16) = some (36, .inl (G.2.2.1 0, 16, .inl (nA rc))) := by rw [e_6]; exact ah_keep fa16 fy (by omega)
    have f_11 : h_2 (A 17) = some (37, .inl (G.2.2.1 0, 16, .inl (nA pr))) := by rw [e_6]; exact ah_keep fa17 fy (by omega)
    have f_12 : h_2 (A 18) = some (38, .inl (G.2.2.1 0, 16, .inl (nA th))) := by rw [e_6]; exact ah_keep fa18 fy (by omega)
    have f_13 : h_2 (A 19) = some (39, .inl (G.2.2.1 0, 16, .inl (nA sm))) := by rw [e_6]; exact ah_keep fa19 fy (by omega)
    refine ah_toi (v := nI 1) (by rw [e_5]; rfl) ?_
    refine lv_if_eq (tgt := 25) hx hb dX9_forget_20 (by decide) (fun c_14 => ?_) (fun c_14 => ?_)
    · skip
      exact absurd c_14 (by decide)
    · skip
      refine lv_iconst (v := nI 0) hx hb dX9_forget_23 (by decide) ?_
      refine ah_iret (v := nI 0) hx hb hr hlocks hR hS dX9_forget_24 ?_
      exact Or.inl ⟨inR_neg (by decide) c_1, e_6⟩
  · skip
    refine lv_iload_n hx hb dX9_forget_5 rfl (lv_at hl 1 rfl) ?_
    refine lv_sipush (v := nI 999) hx hb dX9_forget_6 (by decide) ?_
    refine lv_icmp_le (tgt := 16) hx hb dX9_forget_9 (by decide) (fun c_15 => ?_) (fun c_15 => ?_)
    · skip
      obtain ⟨s9, hs9, es9⟩ := inR_in (n := 999) (by decide) c_1 c_15
      rw [es9] at hl
      refine lv_iconst (v := nI 0) hx hb dX9_forget_16 (by decide) ?_
      refine ah_calli (va_runV (As := [.int (nI 0)]) (rest := []) ⟨hx, hb, hml, hown, hts⟩ (c_m_refuses l G h y A k0 n rf pm zh lc c pt gv un fy 0 (by decide)) (cwV 1 hts gX9_forget_X9_refuses rfl rfl rfl (by decide +kernel) ⟨Nat.le_of_ble_eq_true rfl, Nat.le_of_ble_eq_true rfl⟩) (ah_preV hE hR hS fy rfl) rfl rfl hl.1 rfl (lv_room (Nat.le_of_ble_eq_true rfl)) dX9_forget_17 ⟨Nat.le_of_ble_eq_true rfl, Nat.le_of_ble_eq_true rfl⟩) hS (fun r_18 h_16 H locs p_17 hR hS => ?_)
      obtain ⟨e_19, e_20⟩ := p_17
      have f_21 : h_16 y = some (20, .inr (8, mF A 0 n rf pm zh lc c pt gv un)) := by rw [e_20]; exact ah_up_s _ _ _
      have f_22 : h_16 (A 14) = some (34, .inl (G.2.2.1 0, 16, .inl (nA mp))) := by rw [e_20]; exact ah_keep fa14 fy (by omega)
      have f_23 : h_16 (A 15) = some (35, .inl (G.2.2.1 0, 16, .inl (nA sd))) := by rw [e_20]; exact ah_keep fa15 fy (by omega)
      have f_24 : h_16 (A 16) = some (36, .inl (G.2.2.1 0, 16, .inl (nA rc))) := by rw [e_20]; exact ah_keep fa16 fy (by omega)
      have f_25 : h_16 (A 17) = some (37, .inl (G.2.2.1 0, 16, .inl (nA pr))) := by rw [e_20]; exact ah_keep fa17 fy (by omega)
      have f_26 : h_16 (A 18) = some (38, .inl (G.2.2.1 0, 16, .inl (nA th))) := by rw [e_20]; exact ah_keep fa18 fy (by omega)
      have f_27 : h_16 (A 19) = some (39, .inl (G.2.2.1 0, 16, .inl (nA sm))) := by rw [e_20]; exact ah_keep fa19 fy (by omega)
      refine ah_toi (v := nI 0) (by rw [e_19]; rfl) ?_
      refine lv_if_eq (tgt := 25) hx hb dX9_forget_20 (by decide) (fun c_28 => ?_) (fun c_28 => ?_)
      · skip
        refine lv_iconst (v := nI 0) hx hb dX9_forget_25 (by decide) ?_
        refine lv_istore_n (lv' := [(2, .int (nI 0)), (0, .ref y), (1, .int (nI s9))]) hx hb dX9_forget_26 rfl hl (by decide) rfl (fun ls hl => ?_)
        refine lv_aload_n hx hb dX9_forget_27 rfl (lv_at hl 1 rfl) ?_
        refine ah_get (ci := 8) (v := .int (nI c)) (C := RX9) (T := TX9) (N := 27) hx hb hE hR hts hinX9 hown f_21 rfl 13 (by decide) k107 (fun _ h9 => h9) rfl dX9_forget_28 ?_
        refine lv_iconst (v := nI 1) hx hb dX9_forget_31 (by decide) ?_
        refine lv_isub hx hb dX9_forget_32 ?_
        refine ah_toi (v := nI c + (-1)) (Int32.sub_eq_add_neg _ _) ?_
        refine lv_istore_n (lv' := [(3, .int (nI c + (-1))), (2, .int (nI 0)), (0, .ref y), (1, .int (nI s9))]) hx hb dX9_forget_33 rfl hl (by decide) rfl (fun ls hl => ?_)
        have hl : lv_has ls 4 [(3, .int (nI c + (-1))), (2, .int (nI (c - c))), (0, .ref y), (1, .int (nI s9))] := by rw [Nat.sub_self]; exact hl
        have ag0 : agr (fun t => t ≠ 20 ∧ ¬ (34 ≤ t ∧ t ≤ 39)) h h_16 := by rw [e_20]; refine agr.up ?_ fy (by omega); exact agr.rf
        have L34 : ∀ (N34 : Nat) (m9 : Nat) (c1 : Nat) (D1 : Nat → hDt) (mp1 : Nat → Nat) (sd1 : Nat → Nat) (rc1 : Nat → Nat) (pr1 : Nat → Nat) (th1 : Nat → Nat) (sm1 : Nat → Nat) (h1 : ah_H) (H : Heap) (locs : List Loc) (ls : Array Slot), m9 < N34 → (m9 ≤ c1) → (c1 ≤ c) → (drp s9 m9 (c1, D1) = drp s9 c (c, D)) → (HR c1 D1 mp1 sd1 rc1 pr1 th1 sm1 pc pu c1) → (DB c1 D1) → (agr (fun t => t ≠ 20 ∧ ¬ (34 ≤ t ∧ t ≤ 39)) h h1) → (h1 y = some (20, .inr (8, mF A 0 n rf pm zh lc c1 pt gv un))) → (h1 (A 14) = some (34, .inl (G.2.2.1 0, 16, .inl (nA mp1)))) → (h1 (A 15) = some (35, .inl (G.2.2.1 0, 16, .inl (nA sd1)))) → (h1 (A 16) = some (36, .inl (G.2.2.1 0, 16, .inl (nA rc1)))) → (h1 (A 17) = some (37, .inl (G.2.2.1 0, 16, .inl (nA pr1)))) → (h1 (A 18) = some (38, .inl (G.2.2.1 0, 16, .inl (nA th1)))) → (h1 (A 19) = some (39, .inl (G.2.2.1 0, 16, .inl (nA sm1)))) → ah_R G h1 H → va_S (ah_A G) s.heap H locs → lv_has ls 4 [(3, .int (nI m9 + (-1))), (2, .int (nI (c - c1))), (0, .ref y), (1, .int (nI s9))] → W p l e ({ frames := 1, cells := 0, slots := 0, locals := 23 }) s m ([.ref y, .int u0] : List Value).toArray below meth cd9 H locs 0 0 (MQ below (ah_Qi G (fun v h' => (¬ inR 1000 u0 ∧ h' = ah_up h y (20, .inr (8, mF A 1 n rf pm zh lc c pt gv un))) ∨ (∃ s9, s9 < 1000 ∧ u0 = nI s9 ∧ v = nI (c - (drp s9 c (c, D)).1) ∧ ∃ (mp' sd' rc' pr' th' sm' : Nat → Nat), HR (drp s9 c (c, D)).1 (drp s9 c (c, D)).2 mp' sd' rc' pr' th' sm' pc pu (drp s9 c (c, D)).1 ∧ h' y = some (20, .inr (8, mF A 0 n rf pm zh lc ((drp s9 c (c, D)).1) pt gv un)) ∧ h' (A 14) = some (34, .inl (G.2.2.1 0, 16, .inl (nA mp'))) ∧ h' (A 15) = some (35, .inl (G.2.2.1 0, 16, .inl (nA sd'))) ∧ h' (A 16) = some (36, .inl (G.2.2.1 0, 16, .inl (nA rc'))) ∧ h' (A 17) = some (37, .inl (G.2.2.1 0, 16, .inl (nA pr'))) ∧ h' (A 18) = some (38, .inl (G.2.2.1 0, 16, .inl (nA th'))) ∧ h' (A 19) = some (39, .inl (G.2.2.1 0, 16, .inl (nA sm'))) ∧ agr (fun t => t ≠ 20 ∧ ¬ (34 ≤ t ∧ t ≤ 39)) h h'))) ([.ref y, .int u0] : List Value).toArray s 0 0 (ah_A G)) (F0 m 34 ls []) := by
          intro N34
          induction N34 with
          | zero => intro m9 c1 D1 mp1 sd1 rc1 pr1 th1 sm1 h1 H locs ls hN; exact absurd hN (Nat.not_lt_zero _)
          | succ N34 ih34 =>
            intro m9 c1 D1 mp1 sd1 rc1 pr1 th1 sm1 h1 H locs ls hN34 hm hc1 ed hr1 db1 ag1 fy1 fa141 fa151 fa161 fa171 fa181 fa191 hR hS hl
            cases m9 with
            | zero =>
              refine lv_iload_n hx hb dX9_forget_34 rfl (lv_at hl 0 rfl) ?_
              refine lv_if_lt (tgt := 62) hx hb dX9_forget_35 (by decide) (fun c_29 => ?_) (fun c_29 => ?_)
              · skip
                refine lv_iload_n hx hb dX9_forget_62 rfl (lv_at hl 1 rfl) ?_
                refine ah_iret (v := nI (c - c1)) hx hb hr hlocks hR hS dX9_forget_63 ?_
                have ed0 : drp s9 c (c, D) = (c1, D1) := ed.symm
                refine Or.inr ⟨s9, hs9, es9, ?_⟩
                rw [ed0]
                exact ⟨rfl, mp1, sd1, rc1, pr1, th1, sm1, hr1, fy1, fa141, fa151, fa161, fa171, fa181, fa191, ag1⟩
              · skip
                exact absurd (by decide) c_29
            | succ m8 =>
              rw [pk_m1] at hl
              have hx8 := (hr1.1 m8 (by omega)).2.1; have hd8 := (db1 m8 (by omega)).1
              refine lv_iload_n hx hb dX9_forget_34 rfl (lv_at hl 0 rfl) ?_
              refine lv_if_lt (tgt := 62) hx hb dX9_forget_35 (by decide) (fun c_30 => ?_) (fun c_30 => ?_)
              · skip
                exact absurd c_30 (nI_pos (by omega))
              · skip
                refine lv_aload_n hx hb dX9_forget_38 rfl (lv_at hl 2 rfl) ?_
                refine ah_get (ci := 8) (v := .ref (A 15)) (C := RX9) (T := TX9) (N := 27) hx hb hE hR hts hinX9 hown fy1 rfl 15 (by decide) k36 (fun _ h9 => h9) rfl dX9_forget_39 ?_
                refine lv_iload_n hx hb dX9_forget_42 rfl (lv_at hl 0 rfl) ?_
                refine ah_iald (i := m8) hx hb hE hR fa151 (by omega) (by omega) dX9_forget_43 ?_
                refine ah_toi (v := nI (sd1 m8)) rfl ?_
                refine lv_iload_n hx hb dX9_forget_44 rfl (lv_at hl 3 rfl) ?_
                refine lv_icmp_ne (tgt := 56) hx hb dX9_forget_45 (by decide) (fun c_31 => ?_) (fun c_31 => ?_)
                · skip
                  have c_31 : ¬ ((sd1 m8) = s9) := fun z9 => c_31 ((nI_eq (by omega) (by omega)).mpr z9)
                  refine lv_iinc (v := nI m8 + -1) (lv' := [(3, .int (nI m8 + -1)), (2, .int (nI (c - c1))), (0, .ref y), (1, .int (nI s9))]) hx hb dX9_forget_56 hl (k := 0) rfl rfl (by decide) rfl (fun ls hl => ?_)
                  refine lv_goto (tgt := 34) hx hb dX9_forget_59 (by decide) ?_
                  exact ih34  m8 c1 D1 mp1 sd1 rc1 pr1 th1 sm1 h1 _ _ ls (by omega) (by omega) (by omega) (by rw [← ed]; show _ = drp s9 m8 (if d_s (D1 m8) = s9 then (c1 - 1, shf D1 m8) else (c1, D1)); rw [if_neg (by omega)]) hr1 db1 ag1 fy1 fa141 fa151 fa161 fa171 fa181 fa191 hR hS (lv_sub hl [0, 1, 2, 3] rfl)
                · skip
                  have c_31 : (sd1 m8) = s9 := (nI_eq (by omega) (by omega)).mp c_31
                  refine lv_aload_n hx hb dX9_forget_48 rfl (lv_at hl 2 rfl) ?_
                  refine lv_iload_n hx hb dX9_forget_49 rfl (lv_at hl 0 rfl) ?_
                  refine ah_callv (va_runV (As := [.int (nI m8)]) (rest := []) ⟨hx, hb, hml, hown, hts⟩ (c_m_gone l G h1 y A 0 n rf pm zh lc c1 pt gv un fy1 mp1 fa141 sd1 fa151 rc1 fa161 pr1 fa171 th1 fa181 sm1 fa191 (by omega) m8 (by omega)) (cwV 1 hts gX9_forget_X9_gone rfl rfl rfl (by decide +kernel) ⟨Nat.le_of_ble_eq_true rfl, Nat.le_of_ble_eq_true rfl⟩) (ah_preV hE hR hS fy1 rfl) rfl rfl hl.1 rfl (lv_room (Nat.le_of_ble_eq_true rfl)) dX9_forget_50 ⟨Nat.le_of_ble_eq_true rfl, Nat.le_of_ble_eq_true rfl⟩) hS (fun h_32 H locs p_33 hR hS => ?_)
                  obtain ⟨gy, g14, g15, g16, g17, g18, g19, agC⟩ := p_33
                  refine lv_iinc (v := nI ((c - c1) + 1)) (lv' := [(2, .int (nI ((c - c1) + 1))), (3, .int (nI m8)), (0, .ref y), (1, .int (nI s9))]) hx hb dX9_forget_53 hl (k := 1) rfl (show nI (c - c1) + Int32.ofInt 1 = nI ((c - c1) + 1) from nI_add _ 1) (by decide) rfl (fun ls hl => ?_)
                  rw [show c - c1 + 1 = c - (c1 - 1) by omega] at hl
                  refine lv_iinc (v := nI m8 + -1) (lv' := [(3, .int (nI m8 + -1)), (2, .int (nI (c - (c1 - 1)))), (0, .ref y), (1, .int (nI s9))]) hx hb dX9_forget_56 hl (k := 1) rfl rfl (by decide) rfl (fun ls hl => ?_)
                  refine lv_goto (tgt := 34) hx hb dX9_forget_59 (by decide) ?_
                  exact ih34  m8 (c1 - 1) (shf D1 m8) (gU (shN mp1 m8 (c1 - 1)) (c1 - 1) (mp1 m8)) (shN sd1 m8 (c1 - 1)) (shN rc1 m8 (c1 - 1)) (shN pr1 m8 (c1 - 1)) (shN th1 m8 (c1 - 1)) (shN sm1 m8 (c1 - 1)) h_32 _ _ ls (by omega) (by omega) (by omega) (by rw [← ed]; show _ = drp s9 m8 (if d_s (D1 m8) = s9 then (c1 - 1, shf D1 m8) else (c1, D1)); rw [if_pos (by omega)]) (hr1.gone (Nat.le_refl c1) (by omega)) (db1.drp1 (by omega)) (ag1.tr agC) gy g14 g15 g16 g17 g18 g19 hR hS (lv_sub hl [0, 1, 2, 3] rfl)
        exact L34 ((c) + 1) c c D mp sd rc pr th sm h_16 _ _ ls (by omega) (by omega) (by omega) rfl hHR hDB ag0 f_21 f_22 f_23 f_24 f_25 f_26 f_27 hR hS (lv_sub hl [0, 1, 2, 3] rfl)
      · skip
        exact absurd (by decide) c_28
    · skip
      refine lv_iconst (v := nI 1) hx hb dX9_forget_12 (by decide) ?_
      refine lv_goto (tgt := 17) hx hb dX9_forget_13 (by decide) ?_
      refine ah_calli (va_runV (As := [.int (nI 1)]) (rest := []) ⟨hx, hb, hml, hown, hts⟩ (c_m_refuses l G h y A k0 n rf pm zh lc c pt gv un fy 1 (by decide)) (cwV 1 hts gX9_forget_X9_refuses rfl rfl rfl (by decide +kernel) ⟨Nat.le_of_ble_eq_true rfl, Nat.le_of_ble_eq_true rfl⟩) (ah_preV hE hR hS fy rfl) rfl rfl hl.1 rfl (lv_room (Nat.le_of_ble_eq_true rfl)) dX9_forget_17 ⟨Nat.le_of_ble_eq_true rfl, Nat.le_of_ble_eq_true rfl⟩) hS (fun r_37 h_35 H locs p_36 hR hS => ?_)
      obtain ⟨e_38, e_39⟩ := p_36
      have f_40 : h_35 y = some (20, .inr (8, mF A 1 n rf pm zh lc c pt gv un)) := by rw [e_39]; exact ah_up_s _ _ _
      have f_41 : h_35 (A 14) = some (34, .inl (G.2.2.1 0, 16, .inl (nA mp))) := by rw [e_39]; exact ah_keep fa14 fy (by omega)
      have f_42 : h_35 (A 15) = some (35, .inl (G.2.2.1 0, 16, .inl (nA sd))) := by rw [e_39]; exact ah_keep fa15 fy (by omega)
      have f_43 : h_35 (A 16) = some (36, .inl (G.2.2.1 0, 16, .inl (nA rc))) := by rw [e_39]; exact ah_keep fa16 fy (by omega)
      have f_44 : h_35 (A 17) = some (37, .inl (G.2.2.1 0, 16, .inl (nA pr))) := by rw [e_39]; exact ah_keep fa17 fy (by omega)
      have f_45 : h_35 (A 18) = some (38, .inl (G.2.2.1 0, 16, .inl (nA th))) := by rw [e_39]; exact ah_keep fa18 fy (by omega)
      have f_46 : h_35 (A 19) = some (39, .inl (G.2.2.1 0, 16, .inl (nA sm))) := by rw [e_39]; exact ah_keep fa19 fy (by omega)
      refine ah_toi (v := nI 1) (by rw [e_38]; rfl) ?_
      refine lv_if_eq (tgt := 25) hx hb dX9_forget_20 (by decide) (fun c_47 => ?_) (fun c_47 => ?_)
      · skip
        exact absurd c_47 (by decide)
      · skip
        refine lv_iconst (v := nI 0) hx hb dX9_forget_23 (by decide) ?_
        refine ah_iret (v := nI 0) hx hb hr hlocks hR hS dX9_forget_24 ?_
        exact Or.inl ⟨inR_gt (n := 999) (by decide) c_15, e_39⟩
