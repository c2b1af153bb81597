/-! ===== TextPartsModel: make, length, byteOf, alter ===== -/
theorem pZ_le {f : Nat → Nat} {n os P k : Nat} (hP : P = tParts f n (sumS f 0 n) os) (h0 : P ≠ 0) (hk : k < P) : pZ f n os P k ≤ 142 := by
  unfold pZ
  by_cases ho : os = 0
  · rw [if_pos ho]
    have := part_sev rfl hP h0 hk ho
    unfold sevZ bfs; omega
  · rw [if_neg ho]
    have := part_pair rfl hP h0 hk ho
    unfold pairZ; omega
theorem hbN_1 {P : Nat} (h : 1 < P) : hbN P = 1 := if_pos h
theorem stA_s {f : Nat → Nat} {n os P k : Nat} (h : 1 < P) : stA (endF f n os P) (k + 1) = tEnd f n os (stA (endF f n os P) k) := by
  show endF f n os P (stA (endF f n os P) k) = _
  exact if_pos h
/-- the rows of the reference are those of the parts -/
def mRows (f : Nat → Nat) (n os P rf k : Nat) (l1 b1 : Nat → Nat) : Prop := ∀ q, q < k → l1 q = pZ f n os P q ∧ ∀ j, j < l1 q → b1 (142 * q + j) = pG f n os P rf q j
theorem mRows_s {f : Nat → Nat} {n os P rf k zz : Nat} {l1 b1 b2 : Nat → Nat} (hP : P = tParts f n (sumS f 0 n) os) (h0 : P ≠ 0) (hk : k < P) (r : mRows f n os P rf k l1 b1) (out : ∀ x, (x < 142 * k ∨ 142 * k + 142 ≤ x) → b2 x = b1 x) (ez : zz = pZ f n os P k) (eb : ∀ j, j < zz → b2 (142 * k + j) = pG f n os P rf k j) : mRows f n os P rf (k + 1) (gU l1 k zz) b2 := by
  intro q hq
  by_cases e : q = k
  · subst e; rw [gU_s]; exact ⟨ez, eb⟩
  · rw [gU_n e]
    obtain ⟨r1, r2⟩ := r q (by omega)
    refine ⟨r1, fun j hj => ?_⟩
    have h9 : pZ f n os P q ≤ 142 := pZ_le hP h0 (by omega)
    rw [out _ (by omega)]
    exact r2 j hj

set_option maxHeartbeats 4000000 in
set_option maxRecDepth 100000 in
theorem c_m_make (l : Launch) (G : ah_G) (h : ah_H) (y : Nat) (A : Nat → Nat) (k0 n rf pm zh lc c pt gv un : Nat) (fy : h y = some (20, .inr (8, mF A k0 n rf pm zh lc c pt gv un))) (fa1 : h (A 1) = some (21, .inl (G.2.2.1 0, 128, .inl plT))) (fa2 : h (A 2) = some (22, .inl (G.2.2.1 0, 128, .inl esT))) (tx : Nat → Nat) (fa4 : h (A 4) = some (24, .inl (G.2.2.1 0, 3000, .inl (nA tx)))) (ln : Nat → Nat) (fa7 : h (A 7) = some (27, .inl (G.2.2.1 0, 255, .inl (nA ln)))) (bb : Nat → Nat) (fa8 : h (A 8) = some (28, .inl (G.2.2.1 0, 36210, .inl (nA bb)))) (hn : n ≤ 3000) (hf : ∀ j, tx j < 65536) (hrf : rf < 256) (P : Nat) (hP : P = tParts tx n (sumS tx 0 n) (outs tx n)) : Met l yX9_make wsX9_make ({ frames := 3, cells := 0, slots := 0, locals := 73 }) (ah_Pc G [.ref y] h) (ah_Qi G (fun v h' => (P = 0 ∧ h' = ah_up h y (20, .inr (8, mF A 1 n rf pm zh lc c pt gv un))) ∨ (P ≠ 0 ∧ v = nI P ∧ ∃ (b2 l2 : Nat → Nat), h' y = some (20, .inr (8, mF A 0 n (if 1 < P then (rf + 1) % 256 else rf) P zh lc c pt gv un)) ∧ h' (A 8) = some (28, .inl (G.2.2.1 0, 36210, .inl (nA b2))) ∧ h' (A 7) = some (27, .inl (G.2.2.1 0, 255, .inl (nA l2))) ∧ agr (fun t => t ≠ 20 ∧ t ≠ 27 ∧ t ≠ 28) h h' ∧ mRows tx n (outs tx n) P rf P l2 b2))) 0 0 (ah_A G) := by
  refine ah_ofW (cc := cX9_make) (maxL := 7) (ret := (some .int)) (by decide) rfl (Nat.le_of_ble_eq_true rfl) ?_
  intro p e s m below meth cd9 ls hx hb hr hml hown hlocks hname hts hE hR hS hl
  have hown : s.vm.findClass RX9 = some m.cls := hown
  have hl : lv_has ls 7 [(0, .ref y)] := hl
  have k104 := hts (.fieldLink RX9 104 "TextPartsModel" "made" "I") (by decide +kernel)
  have hinX9 : ∀ w ∈ wsX90, w ∈ wsX9_make := by decide +kernel
  have k101 := hts (.fieldLink RX9 101 "TextPartsModel" "reference" "I") (by decide +kernel)
  have k69 := hts (.fieldLink RX9 69 "TextPartsModel" "count" "I") (by decide +kernel)
  have hsu := sumS_le tx 0 n
  have hP9 := tParts_le tx n (sumS tx 0 n) (outs tx n)
  rw [← hP] at hP9
  have hP8 : prC P ≤ 256 := by unfold prC; split <;> omega
  refine lv_aload_n hx hb dX9_make_0 rfl (lv_at hl 0 rfl) ?_
  refine ah_calli (va_runV (As := []) (rest := []) ⟨hx, hb, hml, hown, hts⟩ (c_m_sevens l G h y A k0 n rf pm zh lc c pt gv un fy fa1 fa2 tx fa4 hn hf) (cwV 0 hts gX9_make_X9_sevens rfl rfl rfl (by decide +kernel) ⟨Nat.le_of_ble_eq_true rfl, Nat.le_of_ble_eq_true rfl⟩) (ah_preV hE hR hS fy rfl) rfl rfl hl.1 rfl (lv_room (Nat.le_of_ble_eq_true rfl)) dX9_make_1 ⟨Nat.le_of_ble_eq_true rfl, Nat.le_of_ble_eq_true rfl⟩) hS (fun r_3 h_1 H locs p_2 hR hS => ?_)
  obtain ⟨e_4, e_5⟩ := p_2
  rw [e_5] at hR
  refine ah_toi e_4 ?_
  refine lv_istore_n (lv' := [(1, .int (if outs tx n = 0 then nI (sumS tx 0 n) else -1)), (0, .ref y)]) hx hb dX9_make_4 rfl hl (by decide) rfl (fun ls hl => ?_)
  refine lv_aload_n hx hb dX9_make_5 rfl (lv_at hl 1 rfl) ?_
  refine lv_iload_n hx hb dX9_make_6 rfl (lv_at hl 0 rfl) ?_
  refine ah_calli (va_runV (As := [.int (if outs tx n = 0 then nI (sumS tx 0 n) else -1)]) (rest := []) ⟨hx, hb, hml, hown, hts⟩ (c_m_partsOf l G h y A k0 n rf pm zh lc c pt gv un fy fa1 fa2 tx fa4 hn hf) (cwV 1 hts gX9_make_X9_partsOf rfl rfl rfl (by decide +kernel) ⟨Nat.le_of_ble_eq_true rfl, Nat.le_of_ble_eq_true rfl⟩) (ah_preV hE hR hS fy rfl) rfl rfl hl.1 rfl (lv_room (Nat.le_of_ble_eq_true rfl)) dX9_make_7 ⟨Nat.le_of_ble_eq_true rfl, Nat.le_of_ble_eq_true rfl⟩) hS (fun r_8 h_6 H locs p_7 hR hS => ?_)
  rw [← hP] at p_7
  obtain ⟨e_9, e_10⟩ := p_7
  rw [e_10] at hR
  refine ah_toi e_9 ?_
  refine lv_istore_n (lv' := [(2, .int (nI (prC P))), (1, .int (if outs tx n = 0 then nI (sumS tx 0 n) else -1)), (0, .ref y)]) hx hb dX9_make_10 rfl hl (by decide) rfl (fun ls hl => ?_)
  refine lv_aload_n hx hb dX9_make_11 rfl (lv_at hl 2 rfl) ?_
  refine lv_iload_n hx hb dX9_make_12 rfl (lv_at hl 0 rfl) ?_
  refine lv_sipush (v := nI 255) hx hb dX9_make_13 (by decide) ?_
  refine lv_icmp_le (tgt := 23) hx hb dX9_make_16 (by decide) (fun c_11 => ?_) (fun c_11 => ?_)
  · skip
    have c_11 : (prC P) ≤ 255 := (nI_leI (by omega) (by omega)).mp c_11
    have ePr := prC_le c_11
    have hP0 : P ≠ 0 := fun z9 => by rw [z9] at ePr; exact absurd ePr (by decide)
    rw [ePr] at hl
    refine lv_iconst (v := nI 0) hx hb dX9_make_23 (by decide) ?_
    refine ah_calli (va_runV (As := [.int (nI 0)]) (rest := []) ⟨hx, hb, hml, hown, hts⟩ (c_m_refuses l G h y A k0 n rf pm zh lc c pt gv un fy 0 (by decide)) (cwV 1 hts gX9_make_X9_refuses rfl rfl rfl (by decide +kernel) ⟨Nat.le_of_ble_eq_true rfl, Nat.le_of_ble_eq_true rfl⟩) (ah_preV hE hR hS fy rfl) rfl rfl hl.1 rfl (lv_room (Nat.le_of_ble_eq_true rfl)) dX9_make_24 ⟨Nat.le_of_ble_eq_true rfl, Nat.le_of_ble_eq_true rfl⟩) hS (fun r_14 h_12 H locs p_13 hR hS => ?_)
    obtain ⟨e_15, e_16⟩ := p_13
    have f_17 : h_12 y = some (20, .inr (8, mF A 0 n rf pm zh lc c pt gv un)) := by rw [e_16]; exact ah_up_s _ _ _
    have f_18 : h_12 (A 1) = some (21, .inl (G.2.2.1 0, 128, .inl plT)) := by rw [e_16]; exact ah_keep fa1 fy (by omega)
    have f_19 : h_12 (A 2) = some (22, .inl (G.2.2.1 0, 128, .inl esT)) := by rw [e_16]; exact ah_keep fa2 fy (by omega)
    have f_20 : h_12 (A 4) = some (24, .inl (G.2.2.1 0, 3000, .inl (nA tx))) := by rw [e_16]; exact ah_keep fa4 fy (by omega)
    have f_21 : h_12 (A 7) = some (27, .inl (G.2.2.1 0, 255, .inl (nA ln))) := by rw [e_16]; exact ah_keep fa7 fy (by omega)
    have f_22 : h_12 (A 8) = some (28, .inl (G.2.2.1 0, 36210, .inl (nA bb))) := by rw [e_16]; exact ah_keep fa8 fy (by omega)
    refine ah_toi (v := nI 0) (by rw [e_15]; rfl) ?_
    refine lv_if_eq (tgt := 32) hx hb dX9_make_27 (by decide) (fun c_23 => ?_) (fun c_23 => ?_)
    · skip
      by_cases ho : outs tx n = 0
      · skip
        rw [if_pos ho] at hl
        refine lv_iload_n hx hb dX9_make_32 rfl (lv_at hl 1 rfl) ?_
        refine lv_iconst (v := (-1)) hx hb dX9_make_33 (by decide) ?_
        refine lv_icmp_ne (tgt := 41) hx hb dX9_make_34 (by decide) (fun c_24 => ?_) (fun c_24 => ?_)
        · skip
          refine lv_iconst (v := nI 0) hx hb dX9_make_41 (by decide) ?_
          refine lv_istore_n (lv' := [(3, .int (nI 0)), (2, .int (nI P)), (1, .int (nI (sumS tx 0 n))), (0, .ref y)]) hx hb dX9_make_42 rfl hl (by decide) rfl (fun ls hl => ?_)
          refine lv_aload_n hx hb dX9_make_43 rfl (lv_at hl 3 rfl) ?_
          refine lv_iload_n hx hb dX9_make_44 rfl (lv_at hl 1 rfl) ?_
          refine ah_put (ci := 8) (v := .int (nI P)) (ty := .int) (C := RX9) (T := TX9) (N := 27) hx hb hE hR hS hts hinX9 tyX9 tyX9_ok nmX9 hown f_17 rfl 6 (by decide) k104 (fun _ h9 => h9) rfl (by decide +kernel) rfl rfl (Nat.le_of_ble_eq_true rfl) dX9_make_45 (fun H locs hR hS => ?_)
          obtain ⟨h_25, e_26⟩ : ∃ zz9, zz9 = ah_up h_12 y (20, .inr (8, mF A 0 n rf P zh lc c pt gv un)) := ⟨_, rfl⟩
          have hR : ah_R G h_25 H := by rw [e_26]; exact hR
          have f_27 : h_25 y = some (20, .inr (8, mF A 0 n rf P zh lc c pt gv un)) := by rw [e_26]; exact ah_up_s _ _ _
          have f_28 : h_25 (A 1) = some (21, .inl (G.2.2.1 0, 128, .inl plT)) := by rw [e_26]; exact ah_keep f_18 f_17 (by omega)
          have f_29 : h_25 (A 2) = some (22, .inl (G.2.2.1 0, 128, .inl esT)) := by rw [e_26]; exact ah_keep f_19 f_17 (by omega)
          have f_30 : h_25 (A 4) = some (24, .inl (G.2.2.1 0, 3000, .inl (nA tx))) := by rw [e_26]; exact ah_keep f_20 f_17 (by omega)
          have f_31 : h_25 (A 7) = some (27, .inl (G.2.2.1 0, 255, .inl (nA ln))) := by rw [e_26]; exact ah_keep f_21 f_17 (by omega)
          have f_32 : h_25 (A 8) = some (28, .inl (G.2.2.1 0, 36210, .inl (nA bb))) := by rw [e_26]; exact ah_keep f_22 f_17 (by omega)
          have ag48 : agr (fun t => t ≠ 20 ∧ t ≠ 27 ∧ t ≠ 28) h h_25 := by rw [e_26]; refine agr.up ?_ f_17 (by omega); rw [e_16]; exact agr.rf.up fy (by omega)
          refine lv_iload_n hx hb dX9_make_48 rfl (lv_at hl 0 rfl) ?_
          refine lv_if_eq (tgt := 64) hx hb dX9_make_49 (by decide) (fun c_33 => ?_) (fun c_33 => ?_)
          · skip
            refine lv_iload_n hx hb dX9_make_64 rfl (lv_at hl 2 rfl) ?_
            refine lv_sipush (v := nI 160) hx hb dX9_make_65 (by decide) ?_
            refine lv_icmp_gt (tgt := 85) hx hb dX9_make_68 (by decide) (fun c_34 => ?_) (fun c_34 => ?_)
            · skip
              have c_34 : 160 < (sumS tx 0 n) := (nI_ltI (by omega) (by omega)).mp c_34
              have hna : ¬ aloneP n (sumS tx 0 n) (outs tx n) := by unfold aloneP; rw [if_pos ho]; omega
              have h1P : 1 < P := by have z9 : P ≠ 1 := fun z8 => hna (tParts_1 rfl (hP.symm.trans z8)); omega
              refine lv_iconst (v := nI 0) hx hb dX9_make_85 (by decide) ?_
              refine lv_istore (lv' := [(4, .int (nI 0)), (3, .int (nI 0)), (2, .int (nI P)), (1, .int (nI (sumS tx 0 n))), (0, .ref y)]) hx hb dX9_make_86 hl (by decide) rfl (fun ls hl => ?_)
              refine lv_iconst (v := nI 0) hx hb dX9_make_88 (by decide) ?_
              refine lv_istore (lv' := [(5, .int (nI 0)), (4, .int (nI 0)), (3, .int (nI 0)), (2, .int (nI P)), (1, .int (nI (sumS tx 0 n))), (0, .ref y)]) hx hb dX9_make_89 hl (by decide) rfl (fun ls hl => ?_)
              have hej : ∀ a, tEnd tx n 0 a = tEnd tx n (outs tx n) a := outs_b tx n 0 (by rw [if_pos ho])
              have L91 : ∀ (N91 : Nat) (p1 : Nat) (l1 : Nat → Nat) (b1 : Nat → Nat) (h2 : ah_H) (H : Heap) (locs : List Loc) (ls : Array Slot), P - p1 < N91 → (p1 ≤ P) → (agr (fun t => t ≠ 20 ∧ t ≠ 27 ∧ t ≠ 28) h h2) → (mRows tx n (outs tx n) P rf p1 l1 b1) → (h2 y = some (20, .inr (8, mF A 0 n rf P zh lc c pt gv un))) → (h2 (A 1) = some (21, .inl (G.2.2.1 0, 128, .inl plT))) → (h2 (A 2) = some (22, .inl (G.2.2.1 0, 128, .inl esT))) → (h2 (A 4) = some (24, .inl (G.2.2.1 0, 3000, .inl (nA tx)))) → (h2 (A 7) = some (27, .inl (G.2.2.1 0, 255, .inl (nA l1)))) → (h2 (A 8) = some (28, .inl (G.2.2.1 0, 36210, .inl (nA b1)))) → ah_R G h2 H → va_S (ah_A G) s.heap H locs → lv_has ls 7 [(5, .int (nI p1)), (4, .int (nI (stA (endF tx n (outs tx n) P) p1))), (0, .ref y), (2, .int (nI P)), (3, .int (nI 0))] → W p l e ({ frames := 3, cells := 0, slots := 0, locals := 73 }) s m ([.ref y] : List Value).toArray below meth cd9 H locs 0 0 (MQ below (ah_Qi G (fun v h' => (P = 0 ∧ h' = ah_up h y (20, .inr (8, mF A 1 n rf pm zh lc c pt gv un))) ∨ (P ≠ 0 ∧ v = nI P ∧ ∃ (b2 l2 : Nat → Nat), h' y = some (20, .inr (8, mF A 0 n (if 1 < P then (rf + 1) % 256 else rf) P zh lc c pt gv un)) ∧ h' (A 8) = some (28, .inl (G.2.2.1 0, 36210, .inl (nA b2))) ∧ h' (A 7) = some (27, .inl (G.2.2.1 0, 255, .inl (nA l2))) ∧ agr (fun t => t ≠ 20 ∧ t ≠ 27 ∧ t ≠ 28) h h' ∧ mRows tx n (outs tx n) P rf P l2 b2))) ([.ref y] : List Value).toArray s 0 0 (ah_A G)) (F0 m 91 ls []) := by
                intro N91
                induction N91 with
                | zero => intro p1 l1 b1 h2 H locs ls hN; exact absurd hN (Nat.not_lt_zero _)
                | succ N91 ih91 =>
                  intro p1 l1 b1 h2 H locs ls hN91 hp1 ag1 hrw fy2 fa12 fa22 fa42 fa72 fa82 hR hS hl
                  refine lv_iload hx hb dX9_make_91 (lv_at hl 0 rfl) ?_
                  refine lv_iload_n hx hb dX9_make_93 rfl (lv_at hl 3 rfl) ?_
                  refine lv_icmp_ge (tgt := 131) hx hb dX9_make_94 (by decide) (fun c_35 => ?_) (fun c_35 => ?_)
                  · skip
                    have c_35 : P ≤ p1 := (nI_leI (by omega) (by omega)).mp c_35
                    refine lv_aload_n hx hb dX9_make_131 rfl (lv_at hl 2 rfl) ?_
                    refine lv_aload_n hx hb dX9_make_132 rfl (lv_at hl 2 rfl) ?_
                    refine ah_get (ci := 8) (v := .int (nI rf)) (C := RX9) (T := TX9) (N := 27) hx hb hE hR hts hinX9 hown fy2 rfl 5 (by decide) k101 (fun _ h9 => h9) rfl dX9_make_133 ?_
                    refine lv_iconst (v := nI 1) hx hb dX9_make_136 (by decide) ?_
                    refine lv_iadd hx hb dX9_make_137 ?_
                    refine ah_toi (v := nI (rf + 1)) (nI_add _ _) ?_
                    refine lv_sipush (v := nI 255) hx hb dX9_make_138 (by decide) ?_
                    refine lv_iand hx hb dX9_make_141 ?_
                    refine ah_toi (v := nI ((rf + 1) % 256)) (ny_a255 _) ?_
                    refine ah_put (ci := 8) (v := .int (nI ((rf + 1) % 256))) (ty := .int) (C := RX9) (T := TX9) (N := 27) hx hb hE hR hS hts hinX9 tyX9 tyX9_ok nmX9 hown fy2 rfl 5 (by decide) k101 (fun _ h9 => h9) rfl (by decide +kernel) rfl rfl (Nat.le_of_ble_eq_true rfl) dX9_make_142 (fun H locs hR hS => ?_)
                    obtain ⟨h_36, e_37⟩ : ∃ zz9, zz9 = ah_up h2 y (20, .inr (8, mF A 0 n ((rf + 1) % 256) P zh lc c pt gv un)) := ⟨_, rfl⟩
                    have hR : ah_R G h_36 H := by rw [e_37]; exact hR
                    have f_38 : h_36 y = some (20, .inr (8, mF A 0 n ((rf + 1) % 256) P zh lc c pt gv un)) := by rw [e_37]; exact ah_up_s _ _ _
                    have f_39 : h_36 (A 1) = some (21, .inl (G.2.2.1 0, 128, .inl plT)) := by rw [e_37]; exact ah_keep fa12 fy2 (by omega)
                    have f_40 : h_36 (A 2) = some (22, .inl (G.2.2.1 0, 128, .inl esT)) := by rw [e_37]; exact ah_keep fa22 fy2 (by omega)
                    have f_41 : h_36 (A 4) = some (24, .inl (G.2.2.1 0, 3000, .inl (nA tx))) := by rw [e_37]; exact ah_keep fa42 fy2 (by omega)
                    have f_42 : h_36 (A 7) = some (27, .inl (G.2.2.1 0, 255, .inl (nA l1))) := by rw [e_37]; exact ah_keep fa72 fy2 (by omega)
                    have f_43 : h_36 (A 8) = some (28, .inl (G.2.2.1 0, 36210, .inl (nA b1))) := by rw [e_37]; exact ah_keep fa82 fy2 (by omega)
                    refine lv_iload_n hx hb dX9_make_145 rfl (lv_at hl 3 rfl) ?_
                    refine ah_iret (v := nI P) hx hb hr hlocks hR hS dX9_make_146 ?_
                    have ep1 : p1 = P := by omega
                    subst ep1
                    exact Or.inr ⟨hP0, rfl, b1, l1, by rw [if_pos h1P]; exact f_38, f_43, f_42, ag1.tr (by rw [e_37]; exact agr.rf.up fy2 (by omega)), hrw⟩
                  · skip
                    have c_35 : ¬ (P ≤ p1) := fun z9 => c_35 ((nI_leI (by omega) (by omega)).mpr z9)
                    have hsl := stA_le (f := tx) (n := n) (os := outs tx n) (P := P) p1
                    have htg := tEnd_gm (f := tx) (os := 0) hsl
                    have hst := stA_s (f := tx) (n := n) (os := outs tx n) (k := p1) h1P
                    rw [← hej] at hst
                    refine lv_aload_n hx hb dX9_make_97 rfl (lv_at hl 2 rfl) ?_
                    refine lv_iload hx hb dX9_make_98 (lv_at hl 1 rfl) ?_
                    refine lv_iload_n hx hb dX9_make_100 rfl (lv_at hl 4 rfl) ?_
                    refine ah_calli (va_runV (As := [.int (nI (stA (endF tx n (outs tx n) P) p1)), .int (nI 0)]) (rest := []) ⟨hx, hb, hml, hown, hts⟩ (c_m_fitting l G h2 y A 0 n rf P zh lc c pt gv un fy2 fa12 fa22 tx fa42 hn hf (stA (endF tx n (outs tx n) P) p1) 0 hsl (by decide) (fun _ => outs_0 n ho)) (cwV 2 hts gX9_make_X9_fitting rfl rfl rfl (by decide +kernel) ⟨Nat.le_of_ble_eq_true rfl, Nat.le_of_ble_eq_true rfl⟩) (ah_preV hE hR hS fy2 rfl) rfl rfl hl.1 rfl (lv_room (Nat.le_of_ble_eq_true rfl)) dX9_make_101 ⟨Nat.le_of_ble_eq_true rfl, Nat.le_of_ble_eq_true rfl⟩) hS (fun r_46 h_44 H locs p_45 hR hS => ?_)
                    obtain ⟨e_47, e_48⟩ := p_45
                    rw [e_48] at hR
                    refine ah_toi e_47 ?_
                    refine lv_istore (lv' := [(6, .int (nI (tEnd tx n 0 (stA (endF tx n (outs tx n) P) p1) - stA (endF tx n (outs tx n) P) p1))), (5, .int (nI p1)), (4, .int (nI (stA (endF tx n (outs tx n) P) p1))), (0, .ref y), (2, .int (nI P)), (3, .int (nI 0))]) hx hb dX9_make_104 hl (by decide) rfl (fun ls hl => ?_)
                    refine lv_aload_n hx hb dX9_make_106 rfl (lv_at hl 3 rfl) ?_
                    refine lv_iload hx hb dX9_make_107 (lv_at hl 1 rfl) ?_
                    refine lv_iload hx hb dX9_make_109 (lv_at hl 2 rfl) ?_
                    refine lv_iload hx hb dX9_make_111 (lv_at hl 0 rfl) ?_
                    refine lv_iload_n hx hb dX9_make_113 rfl (lv_at hl 5 rfl) ?_
                    refine lv_iload_n hx hb dX9_make_114 rfl (lv_at hl 4 rfl) ?_
                    have htt := part_sev (f := tx) rfl hP hP0 (show p1 < P by omega) ho
                    rw [hbN_1 h1P, hst] at htt
                    refine ah_callv (va_runV (As := [.int (nI p1), .int (nI (stA (endF tx n (outs tx n) P) p1)), .int (nI (tEnd tx n 0 (stA (endF tx n (outs tx n) P) p1) - stA (endF tx n (outs tx n) P) p1)), .int (nI 0), .int (nI P)]) (rest := []) ⟨hx, hb, hml, hown, hts⟩ (c_m_part l G h2 y A 0 n rf P zh lc c pt gv un fy2 fa12 fa22 tx fa42 l1 fa72 b1 fa82 hn hf p1 (stA (endF tx n (outs tx n) P) p1) (tEnd tx n 0 (stA (endF tx n (outs tx n) P) p1) - stA (endF tx n (outs tx n) P) p1) 0 P 1 (by omega) (by omega) (by decide) (by omega) (by rw [if_neg (by omega)]) hrf (fun _ i _ hi => outs_0 n ho i (by omega)) (fun _ => by omega) (fun z9 => absurd rfl z9)) (cwV 5 hts gX9_make_X9_part rfl rfl rfl (by decide +kernel) ⟨Nat.le_of_ble_eq_true rfl, Nat.le_of_ble_eq_true rfl⟩) (ah_preV hE hR hS fy2 rfl) rfl rfl hl.1 rfl (lv_room (Nat.le_of_ble_eq_true rfl)) dX9_make_115 ⟨Nat.le_of_ble_eq_true rfl, Nat.le_of_ble_eq_true rfl⟩) hS (fun h_49 H locs p_50 hR hS => ?_)
                    obtain ⟨b2, zz, eh5, out5, hs5, hp5⟩ := p_50
                    have ag5 : agr (fun t => t ≠ 20 ∧ t ≠ 27 ∧ t ≠ 28) h2 h_49 := by rw [eh5]; exact (agr.rf.up fa82 (by omega)).up (ah_keep fa72 fa82 (by omega)) (by omega)
                    have f_52 : h_49 y = some (20, .inr (8, mF A 0 n rf P zh lc c pt gv un)) := by rw [eh5]; exact ah_keep (ah_keep fy2 fa82 (by omega)) (ah_keep fa72 fa82 (by omega)) (by omega)
                    have f_53 : h_49 (A 1) = some (21, .inl (G.2.2.1 0, 128, .inl plT)) := by rw [eh5]; exact ah_keep (ah_keep fa12 fa82 (by omega)) (ah_keep fa72 fa82 (by omega)) (by omega)
                    have f_54 : h_49 (A 2) = some (22, .inl (G.2.2.1 0, 128, .inl esT)) := by rw [eh5]; exact ah_keep (ah_keep fa22 fa82 (by omega)) (ah_keep fa72 fa82 (by omega)) (by omega)
                    have f_55 : h_49 (A 4) = some (24, .inl (G.2.2.1 0, 3000, .inl (nA tx))) := by rw [eh5]; exact ah_keep (ah_keep fa42 fa82 (by omega)) (ah_keep fa72 fa82 (by omega)) (by omega)
                    have f_56 : h_49 (A 7) = some (27, .inl (G.2.2.1 0, 255, .inl (nA (gU l1 p1 zz)))) := by rw [eh5]; exact ah_up_s _ _ _
                    have f_57 : h_49 (A 8) = some (28, .inl (G.2.2.1 0, 36210, .inl (nA b2))) := by rw [eh5]; exact ah_keep (ah_up_s _ _ _) (ah_keep fa72 fa82 (by omega)) (by omega)
                    have esu : stA (endF tx n (outs tx n) P) p1 + (tEnd tx n 0 (stA (endF tx n (outs tx n) P) p1) - stA (endF tx n (outs tx n) P) p1) = stA (endF tx n (outs tx n) P) (p1 + 1) := by rw [hst]; omega
                    rw [esu] at hs5 hp5
                    have hrw2 : mRows tx n (outs tx n) P rf (p1 + 1) (gU l1 p1 zz) b2 := by
                      refine mRows_s hP hP0 (by omega) hrw out5 ?_ ?_
                      · rw [(hs5 rfl).1]; unfold pZ; rw [if_pos ho, hbN_1 h1P]
                      · intro j hj; rw [(hs5 rfl).2 j hj]; unfold pG pG0 pZ; rw [if_pos rfl, if_pos h1P, if_pos ho, if_pos ho, hbN_1 h1P]
                    refine lv_iload hx hb dX9_make_118 (lv_at hl 2 rfl) ?_
                    refine lv_iload hx hb dX9_make_120 (lv_at hl 0 rfl) ?_
                    refine lv_iadd hx hb dX9_make_122 ?_
                    refine ah_toi (v := nI ((stA (endF tx n (outs tx n) P) p1) + (tEnd tx n 0 (stA (endF tx n (outs tx n) P) p1) - stA (endF tx n (outs tx n) P) p1))) (nI_add _ _) ?_
                    refine lv_istore (lv' := [(4, .int (nI ((stA (endF tx n (outs tx n) P) p1) + (tEnd tx n 0 (stA (endF tx n (outs tx n) P) p1) - stA (endF tx n (outs tx n) P) p1)))), (6, .int (nI (tEnd tx n 0 (stA (endF tx n (outs tx n) P) p1) - stA (endF tx n (outs tx n) P) p1))), (5, .int (nI p1)), (0, .ref y), (2, .int (nI P)), (3, .int (nI 0))]) hx hb dX9_make_123 hl (by decide) rfl (fun ls hl => ?_)
                    rw [show (stA (endF tx n (outs tx n) P) p1) + (tEnd tx n 0 (stA (endF tx n (outs tx n) P) p1) - stA (endF tx n (outs tx n) P) p1) = stA (endF tx n (outs tx n) P) (p1 + 1) from esu] at hl
                    refine lv_iinc (v := nI (p1 + 1)) (lv' := [(5, .int (nI (p1 + 1))), (4, .int (nI (stA (endF tx n (outs tx n) P) (p1 + 1)))), (6, .int (nI (tEnd tx n 0 (stA (endF tx n (outs tx n) P) p1) - stA (endF tx n (outs tx n) P) p1))), (0, .ref y), (2, .int (nI P)), (3, .int (nI 0))]) hx hb dX9_make_125 hl (k := 2) rfl (show nI p1 + Int32.ofInt 1 = nI (p1 + 1) from nI_add _ 1) (by decide) rfl (fun ls hl => ?_)
                    refine lv_goto (tgt := 91) hx hb dX9_make_128 (by decide) ?_
                    exact ih91  (p1 + 1) (gU l1 p1 zz) b2 h_49 _ _ ls (by omega) (by omega) (ag1.tr ag5) hrw2 f_52 f_53 f_54 f_55 f_56 f_57 hR hS (lv_sub hl [0, 1, 3, 4, 5] rfl)
              exact L91 ((P - 0) + 1) 0 ln bb h_25 _ _ ls (by omega) (by omega) ag48 (fun q hq9 => absurd hq9 (Nat.not_lt_zero q)) f_27 f_28 f_29 f_30 f_31 f_32 hR hS (lv_sub hl [0, 1, 5, 3, 2] rfl)
            · skip
              have c_34 : ¬ (160 < (sumS tx 0 n)) := fun z9 => c_34 ((nI_ltI (by omega) (by omega)).mpr z9)
              have eP1 : P = 1 := by rw [hP]; exact if_pos (by unfold aloneP; rw [if_pos ho]; omega)
              refine lv_aload_n hx hb dX9_make_71 rfl (lv_at hl 3 rfl) ?_
              refine lv_iconst (v := nI 0) hx hb dX9_make_72 (by decide) ?_
              refine lv_iconst (v := nI 0) hx hb dX9_make_73 (by decide) ?_
              refine lv_aload_n hx hb dX9_make_74 rfl (lv_at hl 3 rfl) ?_
              refine ah_get (ci := 8) (v := .int (nI n)) (C := RX9) (T := TX9) (N := 27) hx hb hE hR hts hinX9 hown f_27 rfl 3 (by decide) k69 (fun _ h9 => h9) rfl dX9_make_75 ?_
              refine lv_iload_n hx hb dX9_make_78 rfl (lv_at hl 0 rfl) ?_
              refine lv_iconst (v := nI 0) hx hb dX9_make_79 (by decide) ?_
              refine ah_callv (va_runV (As := [.int (nI 0), .int (nI 0), .int (nI n), .int (nI 0), .int (nI 0)]) (rest := []) ⟨hx, hb, hml, hown, hts⟩ (c_m_part l G h_25 y A 0 n rf P zh lc c pt gv un f_27 f_28 f_29 tx f_30 ln f_31 bb f_32 hn hf 0 0 n 0 0 0 (by omega) (by omega) (by decide) (by omega) rfl hrf (fun _ i _ hi => outs_0 n ho i (by omega)) (fun _ => by omega) (fun z9 => absurd rfl z9)) (cwV 5 hts gX9_make_X9_part rfl rfl rfl (by decide +kernel) ⟨Nat.le_of_ble_eq_true rfl, Nat.le_of_ble_eq_true rfl⟩) (ah_preV hE hR hS f_27 rfl) rfl rfl hl.1 rfl (lv_room (Nat.le_of_ble_eq_true rfl)) dX9_make_80 ⟨Nat.le_of_ble_eq_true rfl, Nat.le_of_ble_eq_true rfl⟩) hS (fun h_58 H locs p_59 hR hS => ?_)
              obtain ⟨b2, zz, eh5, out5, hs5, hp5⟩ := p_59
              have ag5 : agr (fun t => t ≠ 20 ∧ t ≠ 27 ∧ t ≠ 28) h_25 h_58 := by rw [eh5]; exact (agr.rf.up f_32 (by omega)).up (ah_keep f_31 f_32 (by omega)) (by omega)
              have f_61 : h_58 y = some (20, .inr (8, mF A 0 n rf P zh lc c pt gv un)) := by rw [eh5]; exact ah_keep (ah_keep f_27 f_32 (by omega)) (ah_keep f_31 f_32 (by omega)) (by omega)
              have f_62 : h_58 (A 1) = some (21, .inl (G.2.2.1 0, 128, .inl plT)) := by rw [eh5]; exact ah_keep (ah_keep f_28 f_32 (by omega)) (ah_keep f_31 f_32 (by omega)) (by omega)
              have f_63 : h_58 (A 2) = some (22, .inl (G.2.2.1 0, 128, .inl esT)) := by rw [eh5]; exact ah_keep (ah_keep f_29 f_32 (by omega)) (ah_keep f_31 f_32 (by omega)) (by omega)
              have f_64 : h_58 (A 4) = some (24, .inl (G.2.2.1 0, 3000, .inl (nA tx))) := by rw [eh5]; exact ah_keep (ah_keep f_30 f_32 (by omega)) (ah_keep f_31 f_32 (by omega)) (by omega)
              have f_65 : h_58 (A 7) = some (27, .inl (G.2.2.1 0, 255, .inl (nA (gU ln 0 zz)))) := by rw [eh5]; exact ah_up_s _ _ _
              have f_66 : h_58 (A 8) = some (28, .inl (G.2.2.1 0, 36210, .inl (nA b2))) := by rw [eh5]; exact ah_keep (ah_up_s _ _ _) (ah_keep f_31 f_32 (by omega)) (by omega)
              have hrw : mRows tx n (outs tx n) P rf P (gU ln 0 zz) b2 := by
                rw [eP1]
                refine mRows_s (P := 1) (by rw [← eP1]; exact hP) (by decide) (by decide) (fun q hq9 => absurd hq9 (Nat.not_lt_zero q)) out5 ?_ ?_
                · rw [(hs5 rfl).1]; unfold pZ; rw [if_pos ho]; show _ = sevZ tx 0 0 n; rw [Nat.zero_add]
                · intro j hj; rw [(hs5 rfl).2 j hj]; unfold pG pG0; rw [if_neg (by decide), if_neg (by decide), if_pos ho]; show _ = sevG tx 0 0 n j; rw [Nat.zero_add]
              refine lv_iconst (v := nI 1) hx hb dX9_make_83 (by decide) ?_
              refine ah_iret (v := nI 1) hx hb hr hlocks hR hS dX9_make_84 ?_
              exact Or.inr ⟨hP0, by rw [eP1], b2, gU ln 0 zz, by rw [if_neg (show ¬ 1 < P by omega)]; exact f_61, f_66, f_65, ag48.tr ag5, hrw⟩
          · skip
            exact absurd (by decide) c_33
        · skip
          exact absurd c_24 (zi_ne (by omega))
      · skip
        rw [if_neg ho] at hl
        refine lv_iload_n hx hb dX9_make_32 rfl (lv_at hl 1 rfl) ?_
        refine lv_iconst (v := (-1)) hx hb dX9_make_33 (by decide) ?_
        refine lv_icmp_ne (tgt := 41) hx hb dX9_make_34 (by decide) (fun c_67 => ?_) (fun c_67 => ?_)
        · skip
          exact absurd rfl c_67
        · skip
          refine lv_iconst (v := nI 1) hx hb dX9_make_37 (by decide) ?_
          refine lv_goto (tgt := 42) hx hb dX9_make_38 (by decide) ?_
          refine lv_istore_n (lv' := [(3, .int (nI 1)), (2, .int (nI P)), (1, .int (-1)), (0, .ref y)]) hx hb dX9_make_42 rfl hl (by decide) rfl (fun ls hl => ?_)
          refine lv_aload_n hx hb dX9_make_43 rfl (lv_at hl 3 rfl) ?_
          refine lv_iload_n hx hb dX9_make_44 rfl (lv_at hl 1 rfl) ?_
          refine ah_put (ci := 8) (v := .int (nI P)) (ty := .int) (C := RX9) (T := TX9) (N := 27) hx hb hE hR hS hts hinX9 tyX9 tyX9_ok nmX9 hown f_17 rfl 6 (by decide) k104 (fun _ h9 => h9) rfl (by decide +kernel) rfl rfl (Nat.le_of_ble_eq_true rfl) dX9_make_45 (fun H locs hR hS => ?_)
          obtain ⟨h_68, e_69⟩ : ∃ zz9, zz9 = ah_up h_12 y (20, .inr (8, mF A 0 n rf P zh lc c pt gv un)) := ⟨_, rfl⟩
          have hR : ah_R G h_68 H := by rw [e_69]; exact hR
          have f_70 : h_68 y = some (20, .inr (8, mF A 0 n rf P zh lc c pt gv un)) := by rw [e_69]; exact ah_up_s _ _ _
          have f_71 : h_68 (A 1) = some (21, .inl (G.2.2.1 0, 128, .inl plT)) := by rw [e_69]; exact ah_keep f_18 f_17 (by omega)
          have f_72 : h_68 (A 2) = some (22, .inl (G.2.2.1 0, 128, .inl esT)) := by rw [e_69]; exact ah_keep f_19 f_17 (by omega)
          have f_73 : h_68 (A 4) = some (24, .inl (G.2.2.1 0, 3000, .inl (nA tx))) := by rw [e_69]; exact ah_keep f_20 f_17 (by omega)
          have f_74 : h_68 (A 7) = some (27, .inl (G.2.2.1 0, 255, .inl (nA ln))) := by rw [e_69]; exact ah_keep f_21 f_17 (by omega)
          have f_75 : h_68 (A 8) = some (28, .inl (G.2.2.1 0, 36210, .inl (nA bb))) := by rw [e_69]; exact ah_keep f_22 f_17 (by omega)
          have ag48 : agr (fun t => t ≠ 20 ∧ t ≠ 27 ∧ t ≠ 28) h h_68 := by rw [e_69]; refine agr.up ?_ f_17 (by omega); rw [e_16]; exact agr.rf.up fy (by omega)
          refine lv_iload_n hx hb dX9_make_48 rfl (lv_at hl 0 rfl) ?_
          refine lv_if_eq (tgt := 64) hx hb dX9_make_49 (by decide) (fun c_76 => ?_) (fun c_76 => ?_)
          · skip
            exact absurd c_76 (by decide)
          · skip
            refine lv_aload_n hx hb dX9_make_52 rfl (lv_at hl 3 rfl) ?_
            refine ah_get (ci := 8) (v := .int (nI n)) (C := RX9) (T := TX9) (N := 27) hx hb hE hR hts hinX9 hown f_70 rfl 3 (by decide) k69 (fun _ h9 => h9) rfl dX9_make_53 ?_
            refine lv_bipush (v := nI 70) hx hb dX9_make_56 (by decide) ?_
            refine lv_icmp_gt (tgt := 85) hx hb dX9_make_58 (by decide) (fun c_77 => ?_) (fun c_77 => ?_)
            · skip
              have c_77 : 70 < n := (nI_ltI (by omega) (by omega)).mp c_77
              have hna : ¬ aloneP n (sumS tx 0 n) (outs tx n) := by unfold aloneP; rw [if_neg ho]; omega
              have h1P : 1 < P := by have z9 : P ≠ 1 := fun z8 => hna (tParts_1 rfl (hP.symm.trans z8)); omega
              refine lv_iconst (v := nI 0) hx hb dX9_make_85 (by decide) ?_
              refine lv_istore (lv' := [(4, .int (nI 0)), (3, .int (nI 1)), (2, .int (nI P)), (1, .int (-1)), (0, .ref y)]) hx hb dX9_make_86 hl (by decide) rfl (fun ls hl => ?_)
              refine lv_iconst (v := nI 0) hx hb dX9_make_88 (by decide) ?_
              refine lv_istore (lv' := [(5, .int (nI 0)), (4, .int (nI 0)), (3, .int (nI 1)), (2, .int (nI P)), (1, .int (-1)), (0, .ref y)]) hx hb dX9_make_89 hl (by decide) rfl (fun ls hl => ?_)
              have hej : ∀ a, tEnd tx n 1 a = tEnd tx n (outs tx n) a := outs_b tx n 1 (by rw [if_neg ho])
              have L91 : ∀ (N91 : Nat) (p1 : Nat) (l1 : Nat → Nat) (b1 : Nat → Nat) (h2 : ah_H) (H : Heap) (locs : List Loc) (ls : Array Slot), P - p1 < N91 → (p1 ≤ P) → (agr (fun t => t ≠ 20 ∧ t ≠ 27 ∧ t ≠ 28) h h2) → (mRows tx n (outs tx n) P rf p1 l1 b1) → (h2 y = some (20, .inr (8, mF A 0 n rf P zh lc c pt gv un))) → (h2 (A 1) = some (21, .inl (G.2.2.1 0, 128, .inl plT))) → (h2 (A 2) = some (22, .inl (G.2.2.1 0, 128, .inl esT))) → (h2 (A 4) = some (24, .inl (G.2.2.1 0, 3000, .inl (nA tx)))) → (h2 (A 7) = some (27, .inl (G.2.2.1 0, 255, .inl (nA l1)))) → (h2 (A 8) = some (28, .inl (G.2.2.1 0, 36210, .inl (nA b1)))) → ah_R G h2 H → va_S (ah_A G) s.heap H locs → lv_has ls 7 [(5, .int (nI p1)), (4, .int (nI (stA (endF tx n (outs tx n) P) p1))), (0, .ref y), (2, .int (nI P)), (3, .int (nI 1))] → W p l e ({ frames := 3, cells := 0, slots := 0, locals := 73 }) s m ([.ref y] : List Value).toArray below meth cd9 H locs 0 0 (MQ below (ah_Qi G (fun v h' => (P = 0 ∧ h' = ah_up h y (20, .inr (8, mF A 1 n rf pm zh lc c pt gv un))) ∨ (P ≠ 0 ∧ v = nI P ∧ ∃ (b2 l2 : Nat → Nat), h' y = some (20, .inr (8, mF A 0 n (if 1 < P then (rf + 1) % 256 else rf) P zh lc c pt gv un)) ∧ h' (A 8) = some (28, .inl (G.2.2.1 0, 36210, .inl (nA b2))) ∧ h' (A 7) = some (27, .inl (G.2.2.1 0, 255, .inl (nA l2))) ∧ agr (fun t => t ≠ 20 ∧ t ≠ 27 ∧ t ≠ 28) h h' ∧ mRows tx n (outs tx n) P rf P l2 b2))) ([.ref y] : List Value).toArray s 0 0 (ah_A G)) (F0 m 91 ls []) := by
                intro N91
                induction N91 with
                | zero => intro p1 l1 b1 h2 H locs ls hN; exact absurd hN (Nat.not_lt_zero _)
                | succ N91 ih91 =>
                  intro p1 l1 b1 h2 H locs ls hN91 hp1 ag1 hrw fy2 fa12 fa22 fa42 fa72 fa82 hR hS hl
                  refine lv_iload hx hb dX9_make_91 (lv_at hl 0 rfl) ?_
                  refine lv_iload_n hx hb dX9_make_93 rfl (lv_at hl 3 rfl) ?_
                  refine lv_icmp_ge (tgt := 131) hx hb dX9_make_94 (by decide) (fun c_78 => ?_) (fun c_78 => ?_)
                  · skip
                    have c_78 : P ≤ p1 := (nI_leI (by omega) (by omega)).mp c_78
                    refine lv_aload_n hx hb dX9_make_131 rfl (lv_at hl 2 rfl) ?_
                    refine lv_aload_n hx hb dX9_make_132 rfl (lv_at hl 2 rfl) ?_
                    refine ah_get (ci := 8) (v := .int (nI rf)) (C := RX9) (T := TX9) (N := 27) hx hb hE hR hts hinX9 hown fy2 rfl 5 (by decide) k101 (fun _ h9 => h9) rfl dX9_make_133 ?_
                    refine lv_iconst (v := nI 1) hx hb dX9_make_136 (by decide) ?_
                    refine lv_iadd hx hb dX9_make_137 ?_
                    refine ah_toi (v := nI (rf + 1)) (nI_add _ _) ?_
                    refine lv_sipush (v := nI 255) hx hb dX9_make_138 (by decide) ?_
                    refine lv_iand hx hb dX9_make_141 ?_
                    refine ah_toi (v := nI ((rf + 1) % 256)) (ny_a255 _) ?_
                    refine ah_put (ci := 8) (v := .int (nI ((rf + 1) % 256))) (ty := .int) (C := RX9) (T := TX9) (N := 27) hx hb hE hR hS hts hinX9 tyX9 tyX9_ok nmX9 hown fy2 rfl 5 (by decide) k101 (fun _ h9 => h9) rfl (by decide +kernel) rfl rfl (Nat.le_of_ble_eq_true rfl) dX9_make_142 (fun H locs hR hS => ?_)
                    obtain ⟨h_79, e_80⟩ : ∃ zz9, zz9 = ah_up h2 y (20, .inr (8, mF A 0 n ((rf + 1) % 256) P zh lc c pt gv un)) := ⟨_, rfl⟩
                    have hR : ah_R G h_79 H := by rw [e_80]; exact hR
                    have f_81 : h_79 y = some (20, .inr (8, mF A 0 n ((rf + 1) % 256) P zh lc c pt gv un)) := by rw [e_80]; exact ah_up_s _ _ _
                    have f_82 : h_79 (A 1) = some (21, .inl (G.2.2.1 0, 128, .inl plT)) := by rw [e_80]; exact ah_keep fa12 fy2 (by omega)
                    have f_83 : h_79 (A 2) = some (22, .inl (G.2.2.1 0, 128, .inl esT)) := by rw [e_80]; exact ah_keep fa22 fy2 (by omega)
                    have f_84 : h_79 (A 4) = some (24, .inl (G.2.2.1 0, 3000, .inl (nA tx))) := by rw [e_80]; exact ah_keep fa42 fy2 (by omega)
                    have f_85 : h_79 (A 7) = some (27, .inl (G.2.2.1 0, 255, .inl (nA l1))) := by rw [e_80]; exact ah_keep fa72 fy2 (by omega)
                    have f_86 : h_79 (A 8) = some (28, .inl (G.2.2.1 0, 36210, .inl (nA b1))) := by rw [e_80]; exact ah_keep fa82 fy2 (by omega)
                    refine lv_iload_n hx hb dX9_make_145 rfl (lv_at hl 3 rfl) ?_
                    refine ah_iret (v := nI P) hx hb hr hlocks hR hS dX9_make_146 ?_
                    have ep1 : p1 = P := by omega
                    subst ep1
                    exact Or.inr ⟨hP0, rfl, b1, l1, by rw [if_pos h1P]; exact f_81, f_86, f_85, ag1.tr (by rw [e_80]; exact agr.rf.up fy2 (by omega)), hrw⟩
                  · skip
                    have c_78 : ¬ (P ≤ p1) := fun z9 => c_78 ((nI_leI (by omega) (by omega)).mpr z9)
                    have hsl := stA_le (f := tx) (n := n) (os := outs tx n) (P := P) p1
                    have htg := tEnd_gm (f := tx) (os := 1) hsl
                    have hst := stA_s (f := tx) (n := n) (os := outs tx n) (k := p1) h1P
                    rw [← hej] at hst
                    refine lv_aload_n hx hb dX9_make_97 rfl (lv_at hl 2 rfl) ?_
                    refine lv_iload hx hb dX9_make_98 (lv_at hl 1 rfl) ?_
                    refine lv_iload_n hx hb dX9_make_100 rfl (lv_at hl 4 rfl) ?_
                    refine ah_calli (va_runV (As := [.int (nI (stA (endF tx n (outs tx n) P) p1)), .int (nI 1)]) (rest := []) ⟨hx, hb, hml, hown, hts⟩ (c_m_fitting l G h2 y A 0 n rf P zh lc c pt gv un fy2 fa12 fa22 tx fa42 hn hf (stA (endF tx n (outs tx n) P) p1) 1 hsl (by decide) (fun z9 => absurd z9 (by decide))) (cwV 2 hts gX9_make_X9_fitting rfl rfl rfl (by decide +kernel) ⟨Nat.le_of_ble_eq_true rfl, Nat.le_of_ble_eq_true rfl⟩) (ah_preV hE hR hS fy2 rfl) rfl rfl hl.1 rfl (lv_room (Nat.le_of_ble_eq_true rfl)) dX9_make_101 ⟨Nat.le_of_ble_eq_true rfl, Nat.le_of_ble_eq_true rfl⟩) hS (fun r_89 h_87 H locs p_88 hR hS => ?_)
                    obtain ⟨e_90, e_91⟩ := p_88
                    rw [e_91] at hR
                    refine ah_toi e_90 ?_
                    refine lv_istore (lv' := [(6, .int (nI (tEnd tx n 1 (stA (endF tx n (outs tx n) P) p1) - stA (endF tx n (outs tx n) P) p1))), (5, .int (nI p1)), (4, .int (nI (stA (endF tx n (outs tx n) P) p1))), (0, .ref y), (2, .int (nI P)), (3, .int (nI 1))]) hx hb dX9_make_104 hl (by decide) rfl (fun ls hl => ?_)
                    refine lv_aload_n hx hb dX9_make_106 rfl (lv_at hl 3 rfl) ?_
                    refine lv_iload hx hb dX9_make_107 (lv_at hl 1 rfl) ?_
                    refine lv_iload hx hb dX9_make_109 (lv_at hl 2 rfl) ?_
                    refine lv_iload hx hb dX9_make_111 (lv_at hl 0 rfl) ?_
                    refine lv_iload_n hx hb dX9_make_113 rfl (lv_at hl 5 rfl) ?_
                    refine lv_iload_n hx hb dX9_make_114 rfl (lv_at hl 4 rfl) ?_
                    have htt := part_pair (f := tx) rfl hP hP0 (show p1 < P by omega) ho
                    rw [hbN_1 h1P, hst] at htt
                    refine ah_callv (va_runV (As := [.int (nI p1), .int (nI (stA (endF tx n (outs tx n) P) p1)), .int (nI (tEnd tx n 1 (stA (endF tx n (outs tx n) P) p1) - stA (endF tx n (outs tx n) P) p1)), .int (nI 1), .int (nI P)]) (rest := []) ⟨hx, hb, hml, hown, hts⟩ (c_m_part l G h2 y A 0 n rf P zh lc c pt gv un fy2 fa12 fa22 tx fa42 l1 fa72 b1 fa82 hn hf p1 (stA (endF tx n (outs tx n) P) p1) (tEnd tx n 1 (stA (endF tx n (outs tx n) P) p1) - stA (endF tx n (outs tx n) P) p1) 1 P 1 (by omega) (by omega) (by decide) (by omega) (by rw [if_neg (by omega)]) hrf (fun z9 => absurd z9 (by decide)) (fun z9 => absurd z9 (by decide)) (fun _ => by omega)) (cwV 5 hts gX9_make_X9_part rfl rfl rfl (by decide +kernel) ⟨Nat.le_of_ble_eq_true rfl, Nat.le_of_ble_eq_true rfl⟩) (ah_preV hE hR hS fy2 rfl) rfl rfl hl.1 rfl (lv_room (Nat.le_of_ble_eq_true rfl)) dX9_make_115 ⟨Nat.le_of_ble_eq_true rfl, Nat.le_of_ble_eq_true rfl⟩) hS (fun h_92 H locs p_93 hR hS => ?_)
                    obtain ⟨b2, zz, eh5, out5, hs5, hp5⟩ := p_93
                    have ag5 : agr (fun t => t ≠ 20 ∧ t ≠ 27 ∧ t ≠ 28) h2 h_92 := by rw [eh5]; exact (agr.rf.up fa82 (by omega)).up (ah_keep fa72 fa82 (by omega)) (by omega)
                    have f_95 : h_92 y = some (20, .inr (8, mF A 0 n rf P zh lc c pt gv un)) := by rw [eh5]; exact ah_keep (ah_keep fy2 fa82 (by omega)) (ah_keep fa72 fa82 (by omega)) (by omega)
                    have f_96 : h_92 (A 1) = some (21, .inl (G.2.2.1 0, 128, .inl plT)) := by rw [eh5]; exact ah_keep (ah_keep fa12 fa82 (by omega)) (ah_keep fa72 fa82 (by omega)) (by omega)
                    have f_97 : h_92 (A 2) = some (22, .inl (G.2.2.1 0, 128, .inl esT)) := by rw [eh5]; exact ah_keep (ah_keep fa22 fa82 (by omega)) (ah_keep fa72 fa82 (by omega)) (by omega)
                    have f_98 : h_92 (A 4) = some (24, .inl (G.2.2.1 0, 3000, .inl (nA tx))) := by rw [eh5]; exact ah_keep (ah_keep fa42 fa82 (by omega)) (ah_keep fa72 fa82 (by omega)) (by omega)
                    have f_99 : h_92 (A 7) = some (27, .inl (G.2.2.1 0, 255, .inl (nA (gU l1 p1 zz)))) := by rw [eh5]; exact ah_up_s _ _ _
                    have f_100 : h_92 (A 8) = some (28, .inl (G.2.2.1 0, 36210, .inl (nA b2))) := by rw [eh5]; exact ah_keep (ah_up_s _ _ _) (ah_keep fa72 fa82 (by omega)) (by omega)
                    have esu : stA (endF tx n (outs tx n) P) p1 + (tEnd tx n 1 (stA (endF tx n (outs tx n) P) p1) - stA (endF tx n (outs tx n) P) p1) = stA (endF tx n (outs tx n) P) (p1 + 1) := by rw [hst]; omega
                    rw [esu] at hs5 hp5
                    have hrw2 : mRows tx n (outs tx n) P rf (p1 + 1) (gU l1 p1 zz) b2 := by
                      refine mRows_s hP hP0 (by omega) hrw out5 ?_ ?_
                      · rw [(hp5 (by decide)).1]; unfold pZ; rw [if_neg ho, hbN_1 h1P]
                      · intro j hj; rw [(hp5 (by decide)).2 j hj]; unfold pG pG0 pZ; rw [if_pos rfl, if_pos h1P, if_neg ho, if_neg ho, hbN_1 h1P]
                    refine lv_iload hx hb dX9_make_118 (lv_at hl 2 rfl) ?_
                    refine lv_iload hx hb dX9_make_120 (lv_at hl 0 rfl) ?_
                    refine lv_iadd hx hb dX9_make_122 ?_
                    refine ah_toi (v := nI ((stA (endF tx n (outs tx n) P) p1) + (tEnd tx n 1 (stA (endF tx n (outs tx n) P) p1) - stA (endF tx n (outs tx n) P) p1))) (nI_add _ _) ?_
                    refine lv_istore (lv' := [(4, .int (nI ((stA (endF tx n (outs tx n) P) p1) + (tEnd tx n 1 (stA (endF tx n (outs tx n) P) p1) - stA (endF tx n (outs tx n) P) p1)))), (6, .int (nI (tEnd tx n 1 (stA (endF tx n (outs tx n) P) p1) - stA (endF tx n (outs tx n) P) p1))), (5, .int (nI p1)), (0, .ref y), (2, .int (nI P)), (3, .int (nI 1))]) hx hb dX9_make_123 hl (by decide) rfl (fun ls hl => ?_)
                    rw [show (stA (endF tx n (outs tx n) P) p1) + (tEnd tx n 1 (stA (endF tx n (outs tx n) P) p1) - stA (endF tx n (outs tx n) P) p1) = stA (endF tx n (outs tx n) P) (p1 + 1) from esu] at hl
                    refine lv_iinc (v := nI (p1 + 1)) (lv' := [(5, .int (nI (p1 + 1))), (4, .int (nI (stA (endF tx n (outs tx n) P) (p1 + 1)))), (6, .int (nI (tEnd tx n 1 (stA (endF tx n (outs tx n) P) p1) - stA (endF tx n (outs tx n) P) p1))), (0, .ref y), (2, .int (nI P)), (3, .int (nI 1))]) hx hb dX9_make_125 hl (k := 2) rfl (show nI p1 + Int32.ofInt 1 = nI (p1 + 1) from nI_add _ 1) (by decide) rfl (fun ls hl => ?_)
                    refine lv_goto (tgt := 91) hx hb dX9_make_128 (by decide) ?_
                    exact ih91  (p1 + 1) (gU l1 p1 zz) b2 h_92 _ _ ls (by omega) (by omega) (ag1.tr ag5) hrw2 f_95 f_96 f_97 f_98 f_99 f_100 hR hS (lv_sub hl [0, 1, 3, 4, 5] rfl)
              exact L91 ((P - 0) + 1) 0 ln bb h_68 _ _ ls (by omega) (by omega) ag48 (fun q hq9 => absurd hq9 (Nat.not_lt_zero q)) f_70 f_71 f_72 f_73 f_74 f_75 hR hS (lv_sub hl [0, 1, 5, 3, 2] rfl)
            · skip
              have c_77 : ¬ (70 < n) := fun z9 => c_77 ((nI_ltI (by omega) (by omega)).mpr z9)
              have eP1 : P = 1 := by rw [hP]; exact if_pos (by unfold aloneP; rw [if_neg ho]; omega)
              refine lv_goto (tgt := 71) hx hb dX9_make_61 (by decide) ?_
              refine lv_aload_n hx hb dX9_make_71 rfl (lv_at hl 3 rfl) ?_
              refine lv_iconst (v := nI 0) hx hb dX9_make_72 (by decide) ?_
              refine lv_iconst (v := nI 0) hx hb dX9_make_73 (by decide) ?_
              refine lv_aload_n hx hb dX9_make_74 rfl (lv_at hl 3 rfl) ?_
              refine ah_get (ci := 8) (v := .int (nI n)) (C := RX9) (T := TX9) (N := 27) hx hb hE hR hts hinX9 hown f_70 rfl 3 (by decide) k69 (fun _ h9 => h9) rfl dX9_make_75 ?_
              refine lv_iload_n hx hb dX9_make_78 rfl (lv_at hl 0 rfl) ?_
              refine lv_iconst (v := nI 0) hx hb dX9_make_79 (by decide) ?_
              refine ah_callv (va_runV (As := [.int (nI 0), .int (nI 0), .int (nI n), .int (nI 1), .int (nI 0)]) (rest := []) ⟨hx, hb, hml, hown, hts⟩ (c_m_part l G h_68 y A 0 n rf P zh lc c pt gv un f_70 f_71 f_72 tx f_73 ln f_74 bb f_75 hn hf 0 0 n 1 0 0 (by omega) (by omega) (by decide) (by omega) rfl hrf (fun z9 => absurd z9 (by decide)) (fun z9 => absurd z9 (by decide)) (fun _ => by omega)) (cwV 5 hts gX9_make_X9_part rfl rfl rfl (by decide +kernel) ⟨Nat.le_of_ble_eq_true rfl, Nat.le_of_ble_eq_true rfl⟩) (ah_preV hE hR hS f_70 rfl) rfl rfl hl.1 rfl (lv_room (Nat.le_of_ble_eq_true rfl)) dX9_make_80 ⟨Nat.le_of_ble_eq_true rfl, Nat.le_of_ble_eq_true rfl⟩) hS (fun h_101 H locs p_102 hR hS => ?_)
              obtain ⟨b2, zz, eh5, out5, hs5, hp5⟩ := p_102
              have ag5 : agr (fun t => t ≠ 20 ∧ t ≠ 27 ∧ t ≠ 28) h_68 h_101 := by rw [eh5]; exact (agr.rf.up f_75 (by omega)).up (ah_keep f_74 f_75 (by omega)) (by omega)
              have f_104 : h_101 y = some (20, .inr (8, mF A 0 n rf P zh lc c pt gv un)) := by rw [eh5]; exact ah_keep (ah_keep f_70 f_75 (by omega)) (ah_keep f_74 f_75 (by omega)) (by omega)
              have f_105 : h_101 (A 1) = some (21, .inl (G.2.2.1 0, 128, .inl plT)) := by rw [eh5]; exact ah_keep (ah_keep f_71 f_75 (by omega)) (ah_keep f_74 f_75 (by omega)) (by omega)
              have f_106 : h_101 (A 2) = some (22, .inl (G.2.2.1 0, 128, .inl esT)) := by rw [eh5]; exact ah_keep (ah_keep f_72 f_75 (by omega)) (ah_keep f_74 f_75 (by omega)) (by omega)
              have f_107 : h_101 (A 4) = some (24, .inl (G.2.2.1 0, 3000, .inl (nA tx))) := by rw [eh5]; exact ah_keep (ah_keep f_73 f_75 (by omega)) (ah_keep f_74 f_75 (by omega)) (by omega)
              have f_108 : h_101 (A 7) = some (27, .inl (G.2.2.1 0, 255, .inl (nA (gU ln 0 zz)))) := by rw [eh5]; exact ah_up_s _ _ _
              have f_109 : h_101 (A 8) = some (28, .inl (G.2.2.1 0, 36210, .inl (nA b2))) := by rw [eh5]; exact ah_keep (ah_up_s _ _ _) (ah_keep f_74 f_75 (by omega)) (by omega)
              have hrw : mRows tx n (outs tx n) P rf P (gU ln 0 zz) b2 := by
                rw [eP1]
                refine mRows_s (P := 1) (by rw [← eP1]; exact hP) (by decide) (by decide) (fun q hq9 => absurd hq9 (Nat.not_lt_zero q)) out5 ?_ ?_
                · rw [(hp5 (by decide)).1]; unfold pZ; rw [if_neg ho]; show _ = pairZ 0 0 n; rw [Nat.zero_add]
                · intro j hj; rw [(hp5 (by decide)).2 j hj]; unfold pG pG0; rw [if_neg (by decide), if_neg (by decide), if_neg ho]; show _ = pairG tx 0 0 n j; rw [Nat.zero_add]
              refine lv_iconst (v := nI 1) hx hb dX9_make_83 (by decide) ?_
              refine ah_iret (v := nI 1) hx hb hr hlocks hR hS dX9_make_84 ?_
              exact Or.inr ⟨hP0, by rw [eP1], b2, gU ln 0 zz, by rw [if_neg (show ¬ 1 < P by omega)]; exact f_104, f_109, f_108, ag48.tr ag5, hrw⟩
    · skip
      exact absurd (by decide) c_23
  · skip
    have c_11 : ¬ ((prC P) ≤ 255) := fun z9 => c_11 ((nI_leI (by omega) (by omega)).mpr z9)
    have hP0 : P = 0 := (prC_gt c_11 hP9).symm
    refine lv_iconst (v := nI 1) hx hb dX9_make_19 (by decide) ?_
    refine lv_goto (tgt := 24) hx hb dX9_make_20 (by decide) ?_
    refine ah_calli (va_runV (As := [.int (nI 1)]) (rest := []) ⟨hx, hb, hml, hown, hts⟩ (c_m_refuses l G h y A k0 n rf pm zh lc c pt gv un fy 1 (by decide)) (cwV 1 hts gX9_make_X9_refuses rfl rfl rfl (by decide +kernel) ⟨Nat.le_of_ble_eq_true rfl, Nat.le_of_ble_eq_true rfl⟩) (ah_preV hE hR hS fy rfl) rfl rfl hl.1 rfl (lv_room (Nat.le_of_ble_eq_true rfl)) dX9_make_24 ⟨Nat.le_of_ble_eq_true rfl, Nat.le_of_ble_eq_true rfl⟩) hS (fun r_112 h_110 H locs p_111 hR hS => ?_)
    obtain ⟨e_113, e_114⟩ := p_111
    have f_115 : h_110 y = some (20, .inr (8, mF A 1 n rf pm zh lc c pt gv un)) := by rw [e_114]; exact ah_up_s _ _ _
    have f_116 : h_110 (A 1) = some (21, .inl (G.2.2.1 0, 128, .inl plT)) := by rw [e_114]; exact ah_keep fa1 fy (by omega)
    have f_117 : h_110 (A 2) = some (22, .inl (G.2.2.1 0, 128, .inl esT)) := by rw [e_114]; exact ah_keep fa2 fy (by omega)
    have f_118 : h_110 (A 4) = some (24, .inl (G.2.2.1 0, 3000, .inl (nA tx))) := by rw [e_114]; exact ah_keep fa4 fy (by omega)
    have f_119 : h_110 (A 7) = some (27, .inl (G.2.2.1 0, 255, .inl (nA ln))) := by rw [e_114]; exact ah_keep fa7 fy (by omega)
    have f_120 : h_110 (A 8) = some (28, .inl (G.2.2.1 0, 36210, .inl (nA bb))) := by rw [e_114]; exact ah_keep fa8 fy (by omega)
    refine ah_toi (v := nI 1) (by rw [e_113]; rfl) ?_
    refine lv_if_eq (tgt := 32) hx hb dX9_make_27 (by decide) (fun c_121 => ?_) (fun c_121 => ?_)
    · skip
      exact absurd c_121 (by decide)
    · skip
      refine lv_iconst (v := nI 0) hx hb dX9_make_30 (by decide) ?_
      refine ah_iret (v := nI 0) hx hb hr hlocks hR hS dX9_make_31 ?_
      exact Or.inl ⟨hP0, e_114⟩

set_option maxHeartbeats 4000000 in
set_option maxRecDepth 100000 in
theorem c_m_length (l : Launch) (G : ah_G) (h : ah_H) (y : Nat) (A : Nat → Nat) (k0 n rf pm zh lc c pt gv un : Nat) (fy : h y = some (20, .inr (8, mF A k0 n rf pm zh lc c pt gv un))) (ln : Nat → Nat) (fa7 : h (A 7) = some (27, .inl (G.2.2.1 0, 255, .inl (nA ln)))) (hpm : pm ≤ 255) (u : Int32) : Met l yX9_length wsX9_length ({ frames := 1, cells := 0, slots := 0, locals := 21 }) (ah_Pc G [.ref y, .int u] h) (ah_Qi G (fun v h' => (¬ inR pm u ∧ h' = ah_up h y (20, .inr (8, mF A 1 n rf pm zh lc c pt gv un))) ∨ (∃ j, j < pm ∧ u = nI j ∧ v = nI (ln j) ∧ h' = ah_up h y (20, .inr (8, mF A 0 n rf pm zh lc c pt gv un))))) 0 0 (ah_A G) := by
  refine ah_ofW (cc := cX9_length) (maxL := 2) (ret := (some .int)) (by decide) rfl (Nat.le_of_ble_eq_true rfl) ?_
  intro p e s m below meth cd9 ls hx hb hr hml hown hlocks hname hts hE hR hS hl
  have hown : s.vm.findClass RX9 = some m.cls := hown
  have hl : lv_has ls 2 [(0, .ref y), (1, .int u)] := hl
  have k104 := hts (.fieldLink RX9 104 "TextPartsModel" "made" "I") (by decide +kernel)
  have hinX9 : ∀ w ∈ wsX90, w ∈ wsX9_length := by decide +kernel
  have k19 := hts (.fieldLink RX9 19 "TextPartsModel" "lengths" "[I") (by decide +kernel)
  refine lv_aload_n hx hb dX9_length_0 rfl (lv_at hl 0 rfl) ?_
  refine lv_iload_n hx hb dX9_length_1 rfl (lv_at hl 1 rfl) ?_
  refine lv_if_lt (tgt := 13) hx hb dX9_length_2 (by decide) (fun c_1 => ?_) (fun c_1 => ?_)
  · skip
    refine lv_iconst (v := nI 1) hx hb dX9_length_13 (by decide) ?_
    refine lv_goto (tgt := 18) hx hb dX9_length_14 (by decide) ?_
    refine ah_calli (va_runV (As := [.int (nI 1)]) (rest := []) ⟨hx, hb, hml, hown, hts⟩ (c_m_refuses l G h y A k0 n rf pm zh lc c pt gv un fy 1 (by decide)) (cwV 1 hts gX9_length_X9_refuses rfl rfl rfl (by decide +kernel) ⟨Nat.le_of_ble_eq_true rfl, Nat.le_of_ble_eq_true rfl⟩) (ah_preV hE hR hS fy rfl) rfl rfl hl.1 rfl (lv_room (Nat.le_of_ble_eq_true rfl)) dX9_length_18 ⟨Nat.le_of_ble_eq_true rfl, Nat.le_of_ble_eq_true rfl⟩) hS (fun r_4 h_2 H locs p_3 hR hS => ?_)
    obtain ⟨e_5, e_6⟩ := p_3
    have f_7 : h_2 y = some (20, .inr (8, mF A 1 n rf pm zh lc c pt gv un)) := by rw [e_6]; exact ah_up_s _ _ _
    have f_8 : h_2 (A 7) = some (27, .inl (G.2.2.1 0, 255, .inl (nA ln))) := by rw [e_6]; exact ah_keep fa7 fy (by omega)
    refine ah_toi (v := nI 1) (by rw [e_5]; rfl) ?_
    refine lv_if_eq (tgt := 28) hx hb dX9_length_21 (by decide) (fun c_9 => ?_) (fun c_9 => ?_)
    · skip
      exact absurd c_9 (by decide)
    · skip
      refine lv_iconst (v := nI 0) hx hb dX9_length_24 (by decide) ?_
      refine lv_goto (tgt := 34) hx hb dX9_length_25 (by decide) ?_
      refine ah_iret (v := nI 0) hx hb hr hlocks hR hS dX9_length_34 ?_
      exact Or.inl ⟨inR_neg (by omega) c_1, e_6⟩
  · skip
    refine lv_iload_n hx hb dX9_length_5 rfl (lv_at hl 1 rfl) ?_
    refine lv_aload_n hx hb dX9_length_6 rfl (lv_at hl 0 rfl) ?_
    refine ah_get (ci := 8) (v := .int (nI pm)) (C := RX9) (T := TX9) (N := 27) hx hb hE hR hts hinX9 hown fy rfl 6 (by decide) k104 (fun _ h9 => h9) rfl dX9_length_7 ?_
    refine lv_icmp_lt (tgt := 17) hx hb dX9_length_10 (by decide) (fun c_10 => ?_) (fun c_10 => ?_)
    · skip
      obtain ⟨j, hj, ej⟩ := ix_of c_1 (Int32.not_le.mpr c_10) (show pm < 2 ^ 31 by omega)
      rw [ej] at hl
      refine lv_iconst (v := nI 0) hx hb dX9_length_17 (by decide) ?_
      refine ah_calli (va_runV (As := [.int (nI 0)]) (rest := []) ⟨hx, hb, hml, hown, hts⟩ (c_m_refuses l G h y A k0 n rf pm zh lc c pt gv un fy 0 (by decide)) (cwV 1 hts gX9_length_X9_refuses rfl rfl rfl (by decide +kernel) ⟨Nat.le_of_ble_eq_true rfl, Nat.le_of_ble_eq_true rfl⟩) (ah_preV hE hR hS fy rfl) rfl rfl hl.1 rfl (lv_room (Nat.le_of_ble_eq_true rfl)) dX9_length_18 ⟨Nat.le_of_ble_eq_true rfl, Nat.le_of_ble_eq_true rfl⟩) hS (fun r_13 h_11 H locs p_12 hR hS => ?_)
      obtain ⟨e_14, e_15⟩ := p_12
      have f_16 : h_11 y = some (20, .inr (8, mF A 0 n rf pm zh lc c pt gv un)) := by rw [e_15]; exact ah_up_s _ _ _
      have f_17 : h_11 (A 7) = some (27, .inl (G.2.2.1 0, 255, .inl (nA ln))) := by rw [e_15]; exact ah_keep fa7 fy (by omega)
      refine ah_toi (v := nI 0) (by rw [e_14]; rfl) ?_
      refine lv_if_eq (tgt := 28) hx hb dX9_length_21 (by decide) (fun c_18 => ?_) (fun c_18 => ?_)
      · skip
        refine lv_aload_n hx hb dX9_length_28 rfl (lv_at hl 0 rfl) ?_
        refine ah_get (ci := 8) (v := .ref (A 7)) (C := RX9) (T := TX9) (N := 27) hx hb hE hR hts hinX9 hown f_16 rfl 7 (by decide) k19 (fun _ h9 => h9) rfl dX9_length_29 ?_
        refine lv_iload_n hx hb dX9_length_32 rfl (lv_at hl 1 rfl) ?_
        refine ah_iald (i := j) hx hb hE hR f_17 (by omega) (by omega) dX9_length_33 ?_
        refine ah_toi (v := nI (ln j)) rfl ?_
        refine ah_iret (v := nI (ln j)) hx hb hr hlocks hR hS dX9_length_34 ?_
        exact Or.inr ⟨j, hj, ej, rfl, e_15⟩
      · skip
        exact absurd (by decide) c_18
    · skip
      refine lv_iconst (v := nI 1) hx hb dX9_length_13 (by decide) ?_
      refine lv_goto (tgt := 18) hx hb dX9_length_14 (by decide) ?_
      refine ah_calli (va_runV (As := [.int (nI 1)]) (rest := []) ⟨hx, hb, hml, hown, hts⟩ (c_m_refuses l G h y A k0 n rf pm zh lc c pt gv un fy 1 (by decide)) (cwV 1 hts gX9_length_X9_refuses rfl rfl rfl (by decide +kernel) ⟨Nat.le_of_ble_eq_true rfl, Nat.le_of_ble_eq_true rfl⟩) (ah_preV hE hR hS fy rfl) rfl rfl hl.1 rfl (lv_room (Nat.le_of_ble_eq_true rfl)) dX9_length_18 ⟨Nat.le_of_ble_eq_true rfl, Nat.le_of_ble_eq_true rfl⟩) hS (fun r_21 h_19 H locs p_20 hR hS => ?_)
      obtain ⟨e_22, e_23⟩ := p_20
      have f_24 : h_19 y = some (20, .inr (8, mF A 1 n rf pm zh lc c pt gv un)) := by rw [e_23]; exact ah_up_s _ _ _
      have f_25 : h_19 (A 7) = some (27, .inl (G.2.2.1 0, 255, .inl (nA ln))) := by rw [e_23]; exact ah_keep fa7 fy (by omega)
      refine ah_toi (v := nI 1) (by rw [e_22]; rfl) ?_
      refine lv_if_eq (tgt := 28) hx hb dX9_length_21 (by decide) (fun c_26 => ?_) (fun c_26 => ?_)
      · skip
        exact absurd c_26 (by decide)
      · skip
        refine lv_iconst (v := nI 0) hx hb dX9_length_24 (by decide) ?_
        refine lv_goto (tgt := 34) hx hb dX9_length_25 (by decide) ?_
        refine ah_iret (v := nI 0) hx hb hr hlocks hR hS dX9_length_34 ?_
        exact Or.inl ⟨inR_big (by omega) (Int32.not_lt.mp c_10), e_23⟩

set_option maxHeartbeats 4000000 in
set_option maxRecDepth 100000 in
theorem c_m_byteOf (l : Launch) (G : ah_G) (h : ah_H) (y : Nat) (A : Nat → Nat) (k0 n rf pm zh lc c pt gv un : Nat) (fy : h y = some (20, .inr (8, mF A k0 n rf pm zh lc c pt gv un))) (ln : Nat → Nat) (fa7 : h (A 7) = some (27, .inl (G.2.2.1 0, 255, .inl (nA ln)))) (bb : Nat → Nat) (fa8 : h (A 8) = some (28, .inl (G.2.2.1 0, 36210, .inl (nA bb)))) (hpm : pm ≤ 255) (hln : ∀ j, j < pm → ln j ≤ 142) (u i : Int32) : Met l yX9_byteOf wsX9_byteOf ({ frames := 1, cells := 0, slots := 0, locals := 21 }) (ah_Pc G [.ref y, .int u, .int i] h) (ah_Qi G (fun v h' => (¬ inR pm u ∧ h' = ah_up h y (20, .inr (8, mF A 1 n rf pm zh lc c pt gv un))) ∨ (∃ j, j < pm ∧ u = nI j ∧ v = rwA (fun q => bb (142 * j + q)) (ln j) i ∧ h' = ah_up h y (20, .inr (8, mF A 0 n rf pm zh lc c pt gv un))))) 0 0 (ah_A G) := by
  refine ah_ofW (cc := cX9_byteOf) (maxL := 3) (ret := (some .int)) (by decide) rfl (Nat.le_of_ble_eq_true rfl) ?_
  intro p e s m below meth cd9 ls hx hb hr hml hown hlocks hname hts hE hR hS hl
  have hown : s.vm.findClass RX9 = some m.cls := hown
  have hl : lv_has ls 3 [(0, .ref y), (1, .int u), (2, .int i)] := hl
  have k104 := hts (.fieldLink RX9 104 "TextPartsModel" "made" "I") (by decide +kernel)
  have hinX9 : ∀ w ∈ wsX90, w ∈ wsX9_byteOf := by decide +kernel
  have k19 := hts (.fieldLink RX9 19 "TextPartsModel" "lengths" "[I") (by decide +kernel)
  have k23 := hts (.fieldLink RX9 23 "TextPartsModel" "bytes" "[I") (by decide +kernel)
  refine lv_aload_n hx hb dX9_byteOf_0 rfl (lv_at hl 0 rfl) ?_
  refine lv_iload_n hx hb dX9_byteOf_1 rfl (lv_at hl 1 rfl) ?_
  refine lv_if_lt (tgt := 13) hx hb dX9_byteOf_2 (by decide) (fun c_1 => ?_) (fun c_1 => ?_)
  · skip
    refine lv_iconst (v := nI 1) hx hb dX9_byteOf_13 (by decide) ?_
    refine lv_goto (tgt := 18) hx hb dX9_byteOf_14 (by decide) ?_
    refine ah_calli (va_runV (As := [.int (nI 1)]) (rest := []) ⟨hx, hb, hml, hown, hts⟩ (c_m_refuses l G h y A k0 n rf pm zh lc c pt gv un fy 1 (by decide)) (cwV 1 hts gX9_byteOf_X9_refuses rfl rfl rfl (by decide +kernel) ⟨Nat.le_of_ble_eq_true rfl, Nat.le_of_ble_eq_true rfl⟩) (ah_preV hE hR hS fy rfl) rfl rfl hl.1 rfl (lv_room (Nat.le_of_ble_eq_true rfl)) dX9_byteOf_18 ⟨Nat.le_of_ble_eq_true rfl, Nat.le_of_ble_eq_true rfl⟩) hS (fun r_4 h_2 H locs p_3 hR hS => ?_)
    obtain ⟨e_5, e_6⟩ := p_3
    have f_7 : h_2 y = some (20, .inr (8, mF A 1 n rf pm zh lc c pt gv un)) := by rw [e_6]; exact ah_up_s _ _ _
    have f_8 : h_2 (A 7) = some (27, .inl (G.2.2.1 0, 255, .inl (nA ln))) := by rw [e_6]; exact ah_keep fa7 fy (by omega)
    have f_9 : h_2 (A 8) = some (28, .inl (G.2.2.1 0, 36210, .inl (nA bb))) := by rw [e_6]; exact ah_keep fa8 fy (by omega)
    refine ah_toi (v := nI 1) (by rw [e_5]; rfl) ?_
    refine lv_if_eq (tgt := 26) hx hb dX9_byteOf_21 (by decide) (fun c_10 => ?_) (fun c_10 => ?_)
    · skip
      exact absurd c_10 (by decide)
    · skip
      refine lv_iconst (v := nI 0) hx hb dX9_byteOf_24 (by decide) ?_
      refine ah_iret (v := nI 0) hx hb hr hlocks hR hS dX9_byteOf_25 ?_
      exact Or.inl ⟨inR_neg (by omega) c_1, e_6⟩
  · skip
    refine lv_iload_n hx hb dX9_byteOf_5 rfl (lv_at hl 1 rfl) ?_
    refine lv_aload_n hx hb dX9_byteOf_6 rfl (lv_at hl 0 rfl) ?_
    refine ah_get (ci := 8) (v := .int (nI pm)) (C := RX9) (T := TX9) (N := 27) hx hb hE hR hts hinX9 hown fy rfl 6 (by decide) k104 (fun _ h9 => h9) rfl dX9_byteOf_7 ?_
    refine lv_icmp_lt (tgt := 17) hx hb dX9_byteOf_10 (by decide) (fun c_11 => ?_) (fun c_11 => ?_)
    · skip
      obtain ⟨j, hj, ej⟩ := ix_of c_1 (Int32.not_le.mpr c_11) (show pm < 2 ^ 31 by omega)
      rw [ej] at hl
      refine lv_iconst (v := nI 0) hx hb dX9_byteOf_17 (by decide) ?_
      refine ah_calli (va_runV (As := [.int (nI 0)]) (rest := []) ⟨hx, hb, hml, hown, hts⟩ (c_m_refuses l G h y A k0 n rf pm zh lc c pt gv un fy 0 (by decide)) (cwV 1 hts gX9_byteOf_X9_refuses rfl rfl rfl (by decide +kernel) ⟨Nat.le_of_ble_eq_true rfl, Nat.le_of_ble_eq_true rfl⟩) (ah_preV hE hR hS fy rfl) rfl rfl hl.1 rfl (lv_room (Nat.le_of_ble_eq_true rfl)) dX9_byteOf_18 ⟨Nat.le_of_ble_eq_true rfl, Nat.le_of_ble_eq_true rfl⟩) hS (fun r_14 h_12 H locs p_13 hR hS => ?_)
      obtain ⟨e_15, e_16⟩ := p_13
      have f_17 : h_12 y = some (20, .inr (8, mF A 0 n rf pm zh lc c pt gv un)) := by rw [e_16]; exact ah_up_s _ _ _
      have f_18 : h_12 (A 7) = some (27, .inl (G.2.2.1 0, 255, .inl (nA ln))) := by rw [e_16]; exact ah_keep fa7 fy (by omega)
      have f_19 : h_12 (A 8) = some (28, .inl (G.2.2.1 0, 36210, .inl (nA bb))) := by rw [e_16]; exact ah_keep fa8 fy (by omega)
      refine ah_toi (v := nI 0) (by rw [e_15]; rfl) ?_
      refine lv_if_eq (tgt := 26) hx hb dX9_byteOf_21 (by decide) (fun c_20 => ?_) (fun c_20 => ?_)
      · skip
        have hlj := hln j hj
        refine lv_iload_n hx hb dX9_byteOf_26 rfl (lv_at hl 2 rfl) ?_
        refine lv_if_lt (tgt := 55) hx hb dX9_byteOf_27 (by decide) (fun c_21 => ?_) (fun c_21 => ?_)
        · skip
          refine lv_iconst (v := (-1)) hx hb dX9_byteOf_55 (by decide) ?_
          refine ah_iret (v := (-1)) hx hb hr hlocks hR hS dX9_byteOf_56 ?_
          exact Or.inr ⟨j, hj, ej, (rwA_neg c_21).symm, e_16⟩
        · skip
          refine lv_iload_n hx hb dX9_byteOf_30 rfl (lv_at hl 2 rfl) ?_
          refine lv_aload_n hx hb dX9_byteOf_31 rfl (lv_at hl 0 rfl) ?_
          refine ah_get (ci := 8) (v := .ref (A 7)) (C := RX9) (T := TX9) (N := 27) hx hb hE hR hts hinX9 hown f_17 rfl 7 (by decide) k19 (fun _ h9 => h9) rfl dX9_byteOf_32 ?_
          refine lv_iload_n hx hb dX9_byteOf_35 rfl (lv_at hl 1 rfl) ?_
          refine ah_iald (i := j) hx hb hE hR f_18 (by omega) (by omega) dX9_byteOf_36 ?_
          refine ah_toi (v := nI (ln j)) rfl ?_
          refine lv_icmp_ge (tgt := 55) hx hb dX9_byteOf_37 (by decide) (fun c_22 => ?_) (fun c_22 => ?_)
          · skip
            refine lv_iconst (v := (-1)) hx hb dX9_byteOf_55 (by decide) ?_
            refine ah_iret (v := (-1)) hx hb hr hlocks hR hS dX9_byteOf_56 ?_
            exact Or.inr ⟨j, hj, ej, (rwA_big c_22).symm, e_16⟩
          · skip
            obtain ⟨q, hq, eq⟩ := ix_of c_21 c_22 (show ln j < 2 ^ 31 by omega)
            rw [eq] at hl
            refine lv_aload_n hx hb dX9_byteOf_40 rfl (lv_at hl 0 rfl) ?_
            refine ah_get (ci := 8) (v := .ref (A 8)) (C := RX9) (T := TX9) (N := 27) hx hb hE hR hts hinX9 hown f_17 rfl 8 (by decide) k23 (fun _ h9 => h9) rfl dX9_byteOf_41 ?_
            refine lv_sipush (v := nI 142) hx hb dX9_byteOf_44 (by decide) ?_
            refine lv_iload_n hx hb dX9_byteOf_47 rfl (lv_at hl 1 rfl) ?_
            refine lv_imul hx hb dX9_byteOf_48 ?_
            refine ah_toi (v := nI (142 * j)) (pk_mul _ _) ?_
            refine lv_iload_n hx hb dX9_byteOf_49 rfl (lv_at hl 2 rfl) ?_
            refine lv_iadd hx hb dX9_byteOf_50 ?_
            refine ah_toi (v := nI ((142 * j) + q)) (nI_add _ _) ?_
            refine ah_iald (i := ((142 * j) + q)) hx hb hE hR f_19 (by omega) (by omega) dX9_byteOf_51 ?_
            refine ah_toi (v := nI (bb ((142 * j) + q))) rfl ?_
            refine lv_goto (tgt := 56) hx hb dX9_byteOf_52 (by decide) ?_
            refine ah_iret (v := nI (bb ((142 * j) + q))) hx hb hr hlocks hR hS dX9_byteOf_56 ?_
            exact Or.inr ⟨j, hj, ej, by rw [eq, rwA_in hq (by omega)], e_16⟩
      · skip
        exact absurd (by decide) c_20
    · skip
      refine lv_iconst (v := nI 1) hx hb dX9_byteOf_13 (by decide) ?_
      refine lv_goto (tgt := 18) hx hb dX9_byteOf_14 (by decide) ?_
      refine ah_calli (va_runV (As := [.int (nI 1)]) (rest := []) ⟨hx, hb, hml, hown, hts⟩ (c_m_refuses l G h y A k0 n rf pm zh lc c pt gv un fy 1 (by decide)) (cwV 1 hts gX9_byteOf_X9_refuses rfl rfl rfl (by decide +kernel) ⟨Nat.le_of_ble_eq_true rfl, Nat.le_of_ble_eq_true rfl⟩) (ah_preV hE hR hS fy rfl) rfl rfl hl.1 rfl (lv_room (Nat.le_of_ble_eq_true rfl)) dX9_byteOf_18 ⟨Nat.le_of_ble_eq_true rfl, Nat.le_of_ble_eq_true rfl⟩) hS (fun r_25 h_23 H locs p_24 hR hS => ?_)
      obtain ⟨e_26, e_27⟩ := p_24
      have f_28 : h_23 y = some (20, .inr (8, mF A 1 n rf pm zh lc c pt gv un)) := by rw [e_27]; exact ah_up_s _ _ _
      have f_29 : h_23 (A 7) = some (27, .inl (G.2.2.1 0, 255, .inl (nA ln))) := by rw [e_27]; exact ah_keep fa7 fy (by omega)
      have f_30 : h_23 (A 8) = some (28, .inl (G.2.2.1 0, 36210, .inl (nA bb))) := by rw [e_27]; exact ah_keep fa8 fy (by omega)
      refine ah_toi (v := nI 1) (by rw [e_26]; rfl) ?_
      refine lv_if_eq (tgt := 26) hx hb dX9_byteOf_21 (by decide) (fun c_31 => ?_) (fun c_31 => ?_)
      · skip
        exact absurd c_31 (by decide)
      · skip
        refine lv_iconst (v := nI 0) hx hb dX9_byteOf_24 (by decide) ?_
        refine ah_iret (v := nI 0) hx hb hr hlocks hR hS dX9_byteOf_25 ?_
        exact Or.inl ⟨inR_big (by omega) (Int32.not_lt.mp c_11), e_27⟩

set_option maxHeartbeats 4000000 in
set_option maxRecDepth 100000 in
theorem c_m_alter (l : Launch) (G : ah_G) (h : ah_H) (y : Nat) (A : Nat → Nat) (k0 n rf pm zh lc c pt gv un : Nat) (fy : h y = some (20, .inr (8, mF A k0 n rf pm zh lc c pt gv un))) (ln : Nat → Nat) (fa7 : h (A 7) = some (27, .inl (G.2.2.1 0, 255, .inl (nA ln)))) (bb : Nat → Nat) (fa8 : h (A 8) = some (28, .inl (G.2.2.1 0, 36210, .inl (nA bb)))) (hpm : pm ≤ 255) (hln : ∀ j, j < pm → ln j ≤ 142) (u i b9 : Int32) : Met l yX9_alter wsX9_alter ({ frames := 1, cells := 0, slots := 0, locals := 21 }) (ah_Pc G [.ref y, .int u, .int i, .int b9] h) (ah_Qi G (fun v h' => (¬ altOk pm ln u i b9 ∧ h' = ah_up h y (20, .inr (8, mF A 1 n rf pm zh lc c pt gv un))) ∨ (∃ j k b, j < pm ∧ u = nI j ∧ k < ln j ∧ i = nI k ∧ b < 256 ∧ b9 = nI b ∧ v = nI (bb (142 * j + k)) ∧ h' = ah_up (ah_up h y (20, .inr (8, mF A 0 n rf pm zh lc c pt gv un))) (A 8) (28, .inl (G.2.2.1 0, 36210, .inl (nA (gU bb (142 * j + k) b))))))) 0 0 (ah_A G) := by
  refine ah_ofW (cc := cX9_alter) (maxL := 6) (ret := (some .int)) (by decide) rfl (Nat.le_of_ble_eq_true rfl) ?_
  intro p e s m below meth cd9 ls hx hb hr hml hown hlocks hname hts hE hR hS hl
  have hown : s.vm.findClass RX9 = some m.cls := hown
  have hl : lv_has ls 6 [(0, .ref y), (1, .int u), (2, .int i), (3, .int b9)] := hl
  have k104 := hts (.fieldLink RX9 104 "TextPartsModel" "made" "I") (by decide +kernel)
  have hinX9 : ∀ w ∈ wsX90, w ∈ wsX9_alter := by decide +kernel
  have k19 := hts (.fieldLink RX9 19 "TextPartsModel" "lengths" "[I") (by decide +kernel)
  have k23 := hts (.fieldLink RX9 23 "TextPartsModel" "bytes" "[I") (by decide +kernel)
  have hinj : ∀ q, q < pm → ∀ j, j < pm → nI j = nI q → j = q := fun q hq j hj e => (nI_eq (by omega) (by omega)).mp e
  refine lv_iload_n hx hb dX9_alter_0 rfl (lv_at hl 1 rfl) ?_
  refine lv_if_lt (tgt := 31) hx hb dX9_alter_1 (by decide) (fun c_1 => ?_) (fun c_1 => ?_)
  · skip
    refine lv_iconst (v := nI 0) hx hb dX9_alter_31 (by decide) ?_
    refine lv_istore (lv' := [(4, .int (nI 0)), (0, .ref y), (1, .int u), (2, .int i), (3, .int b9)]) hx hb dX9_alter_32 hl (by decide) rfl (fun ls hl => ?_)
    refine lv_aload_n hx hb dX9_alter_34 rfl (lv_at hl 1 rfl) ?_
    refine lv_iload hx hb dX9_alter_35 (lv_at hl 0 rfl) ?_
    refine lv_if_eq (tgt := 50) hx hb dX9_alter_37 (by decide) (fun c_2 => ?_) (fun c_2 => ?_)
    · skip
      refine lv_iconst (v := nI 1) hx hb dX9_alter_50 (by decide) ?_
      refine lv_goto (tgt := 55) hx hb dX9_alter_51 (by decide) ?_
      refine ah_calli (va_runV (As := [.int (nI 1)]) (rest := []) ⟨hx, hb, hml, hown, hts⟩ (c_m_refuses l G h y A k0 n rf pm zh lc c pt gv un fy 1 (by decide)) (cwV 1 hts gX9_alter_X9_refuses rfl rfl rfl (by decide +kernel) ⟨Nat.le_of_ble_eq_true rfl, Nat.le_of_ble_eq_true rfl⟩) (ah_preV hE hR hS fy rfl) rfl rfl hl.1 rfl (lv_room (Nat.le_of_ble_eq_true rfl)) dX9_alter_55 ⟨Nat.le_of_ble_eq_true rfl, Nat.le_of_ble_eq_true rfl⟩) hS (fun r_5 h_3 H locs p_4 hR hS => ?_)
      obtain ⟨e_6, e_7⟩ := p_4
      have f_8 : h_3 y = some (20, .inr (8, mF A 1 n rf pm zh lc c pt gv un)) := by rw [e_7]; exact ah_up_s _ _ _
      have f_9 : h_3 (A 7) = some (27, .inl (G.2.2.1 0, 255, .inl (nA ln))) := by rw [e_7]; exact ah_keep fa7 fy (by omega)
      have f_10 : h_3 (A 8) = some (28, .inl (G.2.2.1 0, 36210, .inl (nA bb))) := by rw [e_7]; exact ah_keep fa8 fy (by omega)
      refine ah_toi (v := nI 1) (by rw [e_6]; rfl) ?_
      refine lv_if_eq (tgt := 63) hx hb dX9_alter_58 (by decide) (fun c_11 => ?_) (fun c_11 => ?_)
      · skip
        exact absurd c_11 (by decide)
      · skip
        refine lv_iconst (v := nI 0) hx hb dX9_alter_61 (by decide) ?_
        refine ah_iret (v := nI 0) hx hb hr hlocks hR hS dX9_alter_62 ?_
        exact Or.inl ⟨fun ⟨q, q1, q2, q3, q4⟩ => inR_neg (by omega) c_1 ⟨q, q1, q2⟩, e_7⟩
    · skip
      exact absurd (by decide) c_2
  · skip
    refine lv_iload_n hx hb dX9_alter_4 rfl (lv_at hl 1 rfl) ?_
    refine lv_aload_n hx hb dX9_alter_5 rfl (lv_at hl 0 rfl) ?_
    refine ah_get (ci := 8) (v := .int (nI pm)) (C := RX9) (T := TX9) (N := 27) hx hb hE hR hts hinX9 hown fy rfl 6 (by decide) k104 (fun _ h9 => h9) rfl dX9_alter_6 ?_
    refine lv_icmp_ge (tgt := 31) hx hb dX9_alter_9 (by decide) (fun c_12 => ?_) (fun c_12 => ?_)
    · skip
      refine lv_iconst (v := nI 0) hx hb dX9_alter_31 (by decide) ?_
      refine lv_istore (lv' := [(4, .int (nI 0)), (0, .ref y), (1, .int u), (2, .int i), (3, .int b9)]) hx hb dX9_alter_32 hl (by decide) rfl (fun ls hl => ?_)
      refine lv_aload_n hx hb dX9_alter_34 rfl (lv_at hl 1 rfl) ?_
      refine lv_iload hx hb dX9_alter_35 (lv_at hl 0 rfl) ?_
      refine lv_if_eq (tgt := 50) hx hb dX9_alter_37 (by decide) (fun c_13 => ?_) (fun c_13 => ?_)
      · skip
        refine lv_iconst (v := nI 1) hx hb dX9_alter_50 (by decide) ?_
        refine lv_goto (tgt := 55) hx hb dX9_alter_51 (by decide) ?_
        refine ah_calli (va_runV (As := [.int (nI 1)]) (rest := []) ⟨hx, hb, hml, hown, hts⟩ (c_m_refuses l G h y A k0 n rf pm zh lc c pt gv un fy 1 (by decide)) (cwV 1 hts gX9_alter_X9_refuses rfl rfl rfl (by decide +kernel) ⟨Nat.le_of_ble_eq_true rfl, Nat.le_of_ble_eq_true rfl⟩) (ah_preV hE hR hS fy rfl) rfl rfl hl.1 rfl (lv_room (Nat.le_of_ble_eq_true rfl)) dX9_alter_55 ⟨Nat.le_of_ble_eq_true rfl, Nat.le_of_ble_eq_true rfl⟩) hS (fun r_16 h_14 H locs p_15 hR hS => ?_)
        obtain ⟨e_17, e_18⟩ := p_15
        have f_19 : h_14 y = some (20, .inr (8, mF A 1 n rf pm zh lc c pt gv un)) := by rw [e_18]; exact ah_up_s _ _ _
        have f_20 : h_14 (A 7) = some (27, .inl (G.2.2.1 0, 255, .inl (nA ln))) := by rw [e_18]; exact ah_keep fa7 fy (by omega)
        have f_21 : h_14 (A 8) = some (28, .inl (G.2.2.1 0, 36210, .inl (nA bb))) := by rw [e_18]; exact ah_keep fa8 fy (by omega)
        refine ah_toi (v := nI 1) (by rw [e_17]; rfl) ?_
        refine lv_if_eq (tgt := 63) hx hb dX9_alter_58 (by decide) (fun c_22 => ?_) (fun c_22 => ?_)
        · skip
          exact absurd c_22 (by decide)
        · skip
          refine lv_iconst (v := nI 0) hx hb dX9_alter_61 (by decide) ?_
          refine ah_iret (v := nI 0) hx hb hr hlocks hR hS dX9_alter_62 ?_
          exact Or.inl ⟨fun ⟨q, q1, q2, q3, q4⟩ => inR_big (by omega) c_12 ⟨q, q1, q2⟩, e_18⟩
      · skip
        exact absurd (by decide) c_13
    · skip
      obtain ⟨j, hj, ej⟩ := ix_of c_1 c_12 (show pm < 2 ^ 31 by omega)
      rw [ej] at hl
      have hlj := hln j hj
      refine lv_iload_n hx hb dX9_alter_12 rfl (lv_at hl 2 rfl) ?_
      refine lv_if_lt (tgt := 31) hx hb dX9_alter_13 (by decide) (fun c_23 => ?_) (fun c_23 => ?_)
      · skip
        refine lv_iconst (v := nI 0) hx hb dX9_alter_31 (by decide) ?_
        refine lv_istore (lv' := [(4, .int (nI 0)), (0, .ref y), (1, .int (nI j)), (2, .int i), (3, .int b9)]) hx hb dX9_alter_32 hl (by decide) rfl (fun ls hl => ?_)
        refine lv_aload_n hx hb dX9_alter_34 rfl (lv_at hl 1 rfl) ?_
        refine lv_iload hx hb dX9_alter_35 (lv_at hl 0 rfl) ?_
        refine lv_if_eq (tgt := 50) hx hb dX9_alter_37 (by decide) (fun c_24 => ?_) (fun c_24 => ?_)
        · skip
          refine lv_iconst (v := nI 1) hx hb dX9_alter_50 (by decide) ?_
          refine lv_goto (tgt := 55) hx hb dX9_alter_51 (by decide) ?_
          refine ah_calli (va_runV (As := [.int (nI 1)]) (rest := []) ⟨hx, hb, hml, hown, hts⟩ (c_m_refuses l G h y A k0 n rf pm zh lc c pt gv un fy 1 (by decide)) (cwV 1 hts gX9_alter_X9_refuses rfl rfl rfl (by decide +kernel) ⟨Nat.le_of_ble_eq_true rfl, Nat.le_of_ble_eq_true rfl⟩) (ah_preV hE hR hS fy rfl) rfl rfl hl.1 rfl (lv_room (Nat.le_of_ble_eq_true rfl)) dX9_alter_55 ⟨Nat.le_of_ble_eq_true rfl, Nat.le_of_ble_eq_true rfl⟩) hS (fun r_27 h_25 H locs p_26 hR hS => ?_)
          obtain ⟨e_28, e_29⟩ := p_26
          have f_30 : h_25 y = some (20, .inr (8, mF A 1 n rf pm zh lc c pt gv un)) := by rw [e_29]; exact ah_up_s _ _ _
          have f_31 : h_25 (A 7) = some (27, .inl (G.2.2.1 0, 255, .inl (nA ln))) := by rw [e_29]; exact ah_keep fa7 fy (by omega)
          have f_32 : h_25 (A 8) = some (28, .inl (G.2.2.1 0, 36210, .inl (nA bb))) := by rw [e_29]; exact ah_keep fa8 fy (by omega)
          refine ah_toi (v := nI 1) (by rw [e_28]; rfl) ?_
          refine lv_if_eq (tgt := 63) hx hb dX9_alter_58 (by decide) (fun c_33 => ?_) (fun c_33 => ?_)
          · skip
            exact absurd c_33 (by decide)
          · skip
            refine lv_iconst (v := nI 0) hx hb dX9_alter_61 (by decide) ?_
            refine ah_iret (v := nI 0) hx hb hr hlocks hR hS dX9_alter_62 ?_
            exact Or.inl ⟨fun ⟨q, q1, q2, q3, q4⟩ => inR_neg (by have := hln q q1; omega) c_23 q3, e_29⟩
        · skip
          exact absurd (by decide) c_24
      · skip
        refine lv_iload_n hx hb dX9_alter_16 rfl (lv_at hl 3 rfl) ?_
        refine lv_if_lt (tgt := 31) hx hb dX9_alter_17 (by decide) (fun c_34 => ?_) (fun c_34 => ?_)
        · skip
          refine lv_iconst (v := nI 0) hx hb dX9_alter_31 (by decide) ?_
          refine lv_istore (lv' := [(4, .int (nI 0)), (0, .ref y), (1, .int (nI j)), (2, .int i), (3, .int b9)]) hx hb dX9_alter_32 hl (by decide) rfl (fun ls hl => ?_)
          refine lv_aload_n hx hb dX9_alter_34 rfl (lv_at hl 1 rfl) ?_
          refine lv_iload hx hb dX9_alter_35 (lv_at hl 0 rfl) ?_
          refine lv_if_eq (tgt := 50) hx hb dX9_alter_37 (by decide) (fun c_35 => ?_) (fun c_35 => ?_)
          · skip
            refine lv_iconst (v := nI 1) hx hb dX9_alter_50 (by decide) ?_
            refine lv_goto (tgt := 55) hx hb dX9_alter_51 (by decide) ?_
            refine ah_calli (va_runV (As := [.int (nI 1)]) (rest := []) ⟨hx, hb, hml, hown, hts⟩ (c_m_refuses l G h y A k0 n rf pm zh lc c pt gv un fy 1 (by decide)) (cwV 1 hts gX9_alter_X9_refuses rfl rfl rfl (by decide +kernel) ⟨Nat.le_of_ble_eq_true rfl, Nat.le_of_ble_eq_true rfl⟩) (ah_preV hE hR hS fy rfl) rfl rfl hl.1 rfl (lv_room (Nat.le_of_ble_eq_true rfl)) dX9_alter_55 ⟨Nat.le_of_ble_eq_true rfl, Nat.le_of_ble_eq_true rfl⟩) hS (fun r_38 h_36 H locs p_37 hR hS => ?_)
            obtain ⟨e_39, e_40⟩ := p_37
            have f_41 : h_36 y = some (20, .inr (8, mF A 1 n rf pm zh lc c pt gv un)) := by rw [e_40]; exact ah_up_s _ _ _
            have f_42 : h_36 (A 7) = some (27, .inl (G.2.2.1 0, 255, .inl (nA ln))) := by rw [e_40]; exact ah_keep fa7 fy (by omega)
            have f_43 : h_36 (A 8) = some (28, .inl (G.2.2.1 0, 36210, .inl (nA bb))) := by rw [e_40]; exact ah_keep fa8 fy (by omega)
            refine ah_toi (v := nI 1) (by rw [e_39]; rfl) ?_
            refine lv_if_eq (tgt := 63) hx hb dX9_alter_58 (by decide) (fun c_44 => ?_) (fun c_44 => ?_)
            · skip
              exact absurd c_44 (by decide)
            · skip
              refine lv_iconst (v := nI 0) hx hb dX9_alter_61 (by decide) ?_
              refine ah_iret (v := nI 0) hx hb hr hlocks hR hS dX9_alter_62 ?_
              exact Or.inl ⟨fun ⟨q, q1, q2, q3, q4⟩ => inR_neg (by decide) c_34 q4, e_40⟩
          · skip
            exact absurd (by decide) c_35
        · skip
          refine lv_iload_n hx hb dX9_alter_20 rfl (lv_at hl 3 rfl) ?_
          refine lv_sipush (v := nI 255) hx hb dX9_alter_21 (by decide) ?_
          refine lv_icmp_gt (tgt := 31) hx hb dX9_alter_24 (by decide) (fun c_45 => ?_) (fun c_45 => ?_)
          · skip
            refine lv_iconst (v := nI 0) hx hb dX9_alter_31 (by decide) ?_
            refine lv_istore (lv' := [(4, .int (nI 0)), (0, .ref y), (1, .int (nI j)), (2, .int i), (3, .int b9)]) hx hb dX9_alter_32 hl (by decide) rfl (fun ls hl => ?_)
            refine lv_aload_n hx hb dX9_alter_34 rfl (lv_at hl 1 rfl) ?_
            refine lv_iload hx hb dX9_alter_35 (lv_at hl 0 rfl) ?_
            refine lv_if_eq (tgt := 50) hx hb dX9_alter_37 (by decide) (fun c_46 => ?_) (fun c_46 => ?_)
            · skip
              refine lv_iconst (v := nI 1) hx hb dX9_alter_50 (by decide) ?_
              refine lv_goto (tgt := 55) hx hb dX9_alter_51 (by decide) ?_
              refine ah_calli (va_runV (As := [.int (nI 1)]) (rest := []) ⟨hx, hb, hml, hown, hts⟩ (c_m_refuses l G h y A k0 n rf pm zh lc c pt gv un fy 1 (by decide)) (cwV 1 hts gX9_alter_X9_refuses rfl rfl rfl (by decide +kernel) ⟨Nat.le_of_ble_eq_true rfl, Nat.le_of_ble_eq_true rfl⟩) (ah_preV hE hR hS fy rfl) rfl rfl hl.1 rfl (lv_room (Nat.le_of_ble_eq_true rfl)) dX9_alter_55 ⟨Nat.le_of_ble_eq_true rfl, Nat.le_of_ble_eq_true rfl⟩) hS (fun r_49 h_47 H locs p_48 hR hS => ?_)
              obtain ⟨e_50, e_51⟩ := p_48
              have f_52 : h_47 y = some (20, .inr (8, mF A 1 n rf pm zh lc c pt gv un)) := by rw [e_51]; exact ah_up_s _ _ _
              have f_53 : h_47 (A 7) = some (27, .inl (G.2.2.1 0, 255, .inl (nA ln))) := by rw [e_51]; exact ah_keep fa7 fy (by omega)
              have f_54 : h_47 (A 8) = some (28, .inl (G.2.2.1 0, 36210, .inl (nA bb))) := by rw [e_51]; exact ah_keep fa8 fy (by omega)
              refine ah_toi (v := nI 1) (by rw [e_50]; rfl) ?_
              refine lv_if_eq (tgt := 63) hx hb dX9_alter_58 (by decide) (fun c_55 => ?_) (fun c_55 => ?_)
              · skip
                exact absurd c_55 (by decide)
              · skip
                refine lv_iconst (v := nI 0) hx hb dX9_alter_61 (by decide) ?_
                refine ah_iret (v := nI 0) hx hb hr hlocks hR hS dX9_alter_62 ?_
                exact Or.inl ⟨fun ⟨q, q1, q2, q3, q4⟩ => inR_gt (n := 255) (by decide) (Int32.not_le.mpr c_45) q4, e_51⟩
            · skip
              exact absurd (by decide) c_46
          · skip
            obtain ⟨b, hb9, eb⟩ := inR_in (n := 255) (by decide) c_34 (Int32.not_lt.mp c_45)
            rw [eb] at hl
            refine lv_iconst (v := nI 1) hx hb dX9_alter_27 (by decide) ?_
            refine lv_goto (tgt := 32) hx hb dX9_alter_28 (by decide) ?_
            refine lv_istore (lv' := [(4, .int (nI 1)), (0, .ref y), (1, .int (nI j)), (2, .int i), (3, .int (nI b))]) hx hb dX9_alter_32 hl (by decide) rfl (fun ls hl => ?_)
            refine lv_aload_n hx hb dX9_alter_34 rfl (lv_at hl 1 rfl) ?_
            refine lv_iload hx hb dX9_alter_35 (lv_at hl 0 rfl) ?_
            refine lv_if_eq (tgt := 50) hx hb dX9_alter_37 (by decide) (fun c_56 => ?_) (fun c_56 => ?_)
            · skip
              exact absurd c_56 (by decide)
            · skip
              refine lv_iload_n hx hb dX9_alter_40 rfl (lv_at hl 3 rfl) ?_
              refine lv_aload_n hx hb dX9_alter_41 rfl (lv_at hl 1 rfl) ?_
              refine ah_get (ci := 8) (v := .ref (A 7)) (C := RX9) (T := TX9) (N := 27) hx hb hE hR hts hinX9 hown fy rfl 7 (by decide) k19 (fun _ h9 => h9) rfl dX9_alter_42 ?_
              refine lv_iload_n hx hb dX9_alter_45 rfl (lv_at hl 2 rfl) ?_
              refine ah_iald (i := j) hx hb hE hR fa7 (by omega) (by omega) dX9_alter_46 ?_
              refine ah_toi (v := nI (ln j)) rfl ?_
              refine lv_icmp_lt (tgt := 54) hx hb dX9_alter_47 (by decide) (fun c_57 => ?_) (fun c_57 => ?_)
              · skip
                obtain ⟨k, hk, ek⟩ := ix_of c_23 (Int32.not_le.mpr c_57) (show ln j < 2 ^ 31 by omega)
                rw [ek] at hl
                refine lv_iconst (v := nI 0) hx hb dX9_alter_54 (by decide) ?_
                refine ah_calli (va_runV (As := [.int (nI 0)]) (rest := []) ⟨hx, hb, hml, hown, hts⟩ (c_m_refuses l G h y A k0 n rf pm zh lc c pt gv un fy 0 (by decide)) (cwV 1 hts gX9_alter_X9_refuses rfl rfl rfl (by decide +kernel) ⟨Nat.le_of_ble_eq_true rfl, Nat.le_of_ble_eq_true rfl⟩) (ah_preV hE hR hS fy rfl) rfl rfl hl.1 rfl (lv_room (Nat.le_of_ble_eq_true rfl)) dX9_alter_55 ⟨Nat.le_of_ble_eq_true rfl, Nat.le_of_ble_eq_true rfl⟩) hS (fun r_60 h_58 H locs p_59 hR hS => ?_)
                obtain ⟨e_61, e_62⟩ := p_59
                have f_63 : h_58 y = some (20, .inr (8, mF A 0 n rf pm zh lc c pt gv un)) := by rw [e_62]; exact ah_up_s _ _ _
                have f_64 : h_58 (A 7) = some (27, .inl (G.2.2.1 0, 255, .inl (nA ln))) := by rw [e_62]; exact ah_keep fa7 fy (by omega)
                have f_65 : h_58 (A 8) = some (28, .inl (G.2.2.1 0, 36210, .inl (nA bb))) := by rw [e_62]; exact ah_keep fa8 fy (by omega)
                refine ah_toi (v := nI 0) (by rw [e_61]; rfl) ?_
                refine lv_if_eq (tgt := 63) hx hb dX9_alter_58 (by decide) (fun c_66 => ?_) (fun c_66 => ?_)
                · skip
                  refine lv_aload_n hx hb dX9_alter_63 rfl (lv_at hl 1 rfl) ?_
                  refine ah_get (ci := 8) (v := .ref (A 8)) (C := RX9) (T := TX9) (N := 27) hx hb hE hR hts hinX9 hown f_63 rfl 8 (by decide) k23 (fun _ h9 => h9) rfl dX9_alter_64 ?_
                  refine lv_sipush (v := nI 142) hx hb dX9_alter_67 (by decide) ?_
                  refine lv_iload_n hx hb dX9_alter_70 rfl (lv_at hl 2 rfl) ?_
                  refine lv_imul hx hb dX9_alter_71 ?_
                  refine ah_toi (v := nI (142 * j)) (pk_mul _ _) ?_
                  refine lv_iload_n hx hb dX9_alter_72 rfl (lv_at hl 3 rfl) ?_
                  refine lv_iadd hx hb dX9_alter_73 ?_
                  refine ah_toi (v := nI ((142 * j) + k)) (nI_add _ _) ?_
                  refine ah_iald (i := ((142 * j) + k)) hx hb hE hR f_65 (by omega) (by omega) dX9_alter_74 ?_
                  refine ah_toi (v := nI (bb ((142 * j) + k))) rfl ?_
                  refine lv_istore (lv' := [(5, .int (nI (bb ((142 * j) + k)))), (4, .int (nI 1)), (0, .ref y), (1, .int (nI j)), (2, .int (nI k)), (3, .int (nI b))]) hx hb dX9_alter_75 hl (by decide) rfl (fun ls hl => ?_)
                  refine lv_aload_n hx hb dX9_alter_77 rfl (lv_at hl 2 rfl) ?_
                  refine ah_get (ci := 8) (v := .ref (A 8)) (C := RX9) (T := TX9) (N := 27) hx hb hE hR hts hinX9 hown f_63 rfl 8 (by decide) k23 (fun _ h9 => h9) rfl dX9_alter_78 ?_
                  refine lv_sipush (v := nI 142) hx hb dX9_alter_81 (by decide) ?_
                  refine lv_iload_n hx hb dX9_alter_84 rfl (lv_at hl 3 rfl) ?_
                  refine lv_imul hx hb dX9_alter_85 ?_
                  refine ah_toi (v := nI (142 * j)) (pk_mul _ _) ?_
                  refine lv_iload_n hx hb dX9_alter_86 rfl (lv_at hl 4 rfl) ?_
                  refine lv_iadd hx hb dX9_alter_87 ?_
                  refine ah_toi (v := nI ((142 * j) + k)) (nI_add _ _) ?_
                  refine lv_iload_n hx hb dX9_alter_88 rfl (lv_at hl 5 rfl) ?_
                  refine ah_iast (i := ((142 * j) + k)) hx hb hE hR hS f_65 (by omega) (by omega) dX9_alter_89 (fun H locs hR hS => ?_)
                  rw [nA_upd] at hR
                  obtain ⟨h_67, e_68⟩ : ∃ zz9, zz9 = ah_up h_58 (A 8) (28, .inl (G.2.2.1 0, 36210, .inl (nA (gU bb ((142 * j) + k) b)))) := ⟨_, rfl⟩
                  have hR : ah_R G h_67 H := by rw [e_68]; exact hR
                  have f_69 : h_67 y = some (20, .inr (8, mF A 0 n rf pm zh lc c pt gv un)) := by rw [e_68]; exact ah_keep f_63 f_65 (by omega)
                  have f_70 : h_67 (A 7) = some (27, .inl (G.2.2.1 0, 255, .inl (nA ln))) := by rw [e_68]; exact ah_keep f_64 f_65 (by omega)
                  have f_71 : h_67 (A 8) = some (28, .inl (G.2.2.1 0, 36210, .inl (nA (gU bb ((142 * j) + k) b)))) := by rw [e_68]; exact ah_up_s _ _ _
                  refine lv_iload hx hb dX9_alter_90 (lv_at hl 0 rfl) ?_
                  refine ah_iret (v := nI (bb ((142 * j) + k))) hx hb hr hlocks hR hS dX9_alter_92 ?_
                  exact Or.inr ⟨j, k, b, hj, ej, hk, ek, hb9, eb, rfl, by rw [e_68, e_62]⟩
                · skip
                  exact absurd (by decide) c_66
              · skip
                refine lv_iconst (v := nI 1) hx hb dX9_alter_50 (by decide) ?_
                refine lv_goto (tgt := 55) hx hb dX9_alter_51 (by decide) ?_
                refine ah_calli (va_runV (As := [.int (nI 1)]) (rest := []) ⟨hx, hb, hml, hown, hts⟩ (c_m_refuses l G h y A k0 n rf pm zh lc c pt gv un fy 1 (by decide)) (cwV 1 hts gX9_alter_X9_refuses rfl rfl rfl (by decide +kernel) ⟨Nat.le_of_ble_eq_true rfl, Nat.le_of_ble_eq_true rfl⟩) (ah_preV hE hR hS fy rfl) rfl rfl hl.1 rfl (lv_room (Nat.le_of_ble_eq_true rfl)) dX9_alter_55 ⟨Nat.le_of_ble_eq_true rfl, Nat.le_of_ble_eq_true rfl⟩) hS (fun r_74 h_72 H locs p_73 hR hS => ?_)
                obtain ⟨e_75, e_76⟩ := p_73
                have f_77 : h_72 y = some (20, .inr (8, mF A 1 n rf pm zh lc c pt gv un)) := by rw [e_76]; exact ah_up_s _ _ _
                have f_78 : h_72 (A 7) = some (27, .inl (G.2.2.1 0, 255, .inl (nA ln))) := by rw [e_76]; exact ah_keep fa7 fy (by omega)
                have f_79 : h_72 (A 8) = some (28, .inl (G.2.2.1 0, 36210, .inl (nA bb))) := by rw [e_76]; exact ah_keep fa8 fy (by omega)
                refine ah_toi (v := nI 1) (by rw [e_75]; rfl) ?_
                refine lv_if_eq (tgt := 63) hx hb dX9_alter_58 (by decide) (fun c_80 => ?_) (fun c_80 => ?_)
                · skip
                  exact absurd c_80 (by decide)
                · skip
                  refine lv_iconst (v := nI 0) hx hb dX9_alter_61 (by decide) ?_
                  refine ah_iret (v := nI 0) hx hb hr hlocks hR hS dX9_alter_62 ?_
                  exact Or.inl ⟨fun ⟨q, q1, q2, q3, q4⟩ => inR_big (by omega) (Int32.not_lt.mp c_57) (by rw [hinj q q1 j hj (ej.symm.trans q2)]; exact q3), e_76⟩
