/-! ===== TextPartsModel: how many parts ===== -/
/-- what the reference counts: 256 where there are more than 255 -/
def prC (q : Nat) : Nat := if q = 0 then 256 else q
theorem prC_le {q : Nat} (h : prC q ≤ 255) : prC q = q := by
  unfold prC at h ⊢
  by_cases z : q = 0
  · rw [if_pos z] at h; omega
  · rw [if_neg z]
theorem prC_gt {q : Nat} (h : ¬ prC q ≤ 255) (h1 : q ≤ 255) : 0 = q := by
  unfold prC at h
  by_cases z : q = 0
  · exact z.symm
  · rw [if_neg z] at h; omega
theorem sEnd_gm {f : Nat → Nat} {n : Nat} : ∀ (m i q : Nat), i ≤ n → i ≤ sEnd f n m i q
  | 0, _, _, _ => Nat.le_refl _
  | m + 1, i, q, h => by
    unfold sEnd
    split
    · exact h
    · split
      · exact Nat.le_refl _
      · have := sEnd_gm (f := f) (n := n) m (i + 1) (q - svFor (f i)) (by omega); omega
theorem pEnd_gm {f : Nat → Nat} {n a : Nat} (h : a ≤ n) : a ≤ pEnd f n a ∧ pEnd f n a ≤ n := by
  unfold pEnd
  split
  · exact ⟨h, Nat.le_refl _⟩
  · split <;> omega
theorem tEnd_gm {f : Nat → Nat} {n os a : Nat} (h : a ≤ n) : a ≤ tEnd f n os a ∧ tEnd f n os a ≤ n := by
  unfold tEnd
  split
  · exact ⟨sEnd_gm _ _ _ h, sEnd_le _ _ _ h⟩
  · exact pEnd_gm h
theorem pF_2 {f : Nat → Nat} {n a k q : Nat} (hq : k + q = a + 67) (hlt : k + 1 < n) (yh : hiP (f k)) (yl : loP (f (k + 1))) (hs : q < 2) (h66 : k = a + 67 → ¬ (hiP (f (a + 66)) ∧ loP (f (a + 67))) ∨ n ≤ a + 67) : pEnd f n a = k := by
  unfold pEnd
  rw [if_neg (show ¬ n ≤ a + 67 by omega)]
  by_cases k66 : k = a + 66
  · subst k66; rw [if_pos ⟨yh, yl⟩]; omega
  · have k67 : k = a + 67 := by omega
    rw [if_neg (by rcases h66 k67 with z | z; exact z; omega)]; omega
theorem pF_1 {f : Nat → Nat} {n a k q : Nat} (hq : k + q = a + 67) (hlt : k < n) (hs : q < 1) (h66 : k = a + 67 → ¬ (hiP (f (a + 66)) ∧ loP (f (a + 67))) ∨ n ≤ a + 67) : pEnd f n a = k := by
  have k67 : k = a + 67 := by omega
  unfold pEnd
  rw [if_neg (show ¬ n ≤ a + 67 by omega), if_neg (by rcases h66 k67 with z | z; exact z; omega)]; omega
theorem pF_n {f : Nat → Nat} {a k : Nat} (yl : loP (f (k + 1))) (z : k + 2 = a + 67) : ¬ (hiP (f (a + 66)) ∧ loP (f (a + 67))) := fun q => by
  have z8 : k + 1 = a + 66 := by omega
  rw [z8] at yl
  have := q.1
  unfold hiP at this; unfold loP at yl; omega
theorem tEnd_p {f : Nat → Nat} {n pb a : Nat} (h : ¬ pb = 0) : tEnd f n pb a = pEnd f n a := if_neg h
theorem sE_go {f : Nat → Nat} {n m i q : Nat} (h1 : ¬ n ≤ i) (h2 : ¬ q < svFor (f i)) : sEnd f n (m + 1) i q = sEnd f n m (i + 1) (q - svFor (f i)) := by
  show (if n ≤ i then n else if q < svFor (f i) then i else sEnd f n m (i + 1) (q - svFor (f i))) = _
  rw [if_neg h1, if_neg h2]
theorem sE_stop {f : Nat → Nat} {n m i q : Nat} (h1 : ¬ n ≤ i) (h2 : q < svFor (f i)) : sEnd f n (m + 1) i q = i := by
  show (if n ≤ i then n else if q < svFor (f i) then i else sEnd f n m (i + 1) (q - svFor (f i))) = _
  rw [if_neg h1, if_pos h2]
theorem sE_end {f : Nat → Nat} {n m i q : Nat} (h1 : n ≤ i) : sEnd f n (m + 1) i q = n := by
  show (if n ≤ i then n else if q < svFor (f i) then i else sEnd f n m (i + 1) (q - svFor (f i))) = _
  rw [if_pos h1]

set_option maxHeartbeats 4000000 in
set_option maxRecDepth 100000 in
theorem c_m_isFirst (l : Launch) (G : ah_G) (h : ah_H) (u : Nat) (hu : u < 2 ^ 31) : Met l yX9_isFirst wsX9_isFirst ({ frames := 0, cells := 0, slots := 0, locals := 0 }) (ah_Pc G [.int (nI u)] h) (ah_Qi G (fun v h' => v = nI (if hiP u then 1 else 0) ∧ h' = h)) 0 0 (ah_A G) := by
  refine ah_ofW (cc := cX9_isFirst) (maxL := 1) (ret := (some .boolean)) (by decide) rfl (Nat.le_of_ble_eq_true rfl) ?_
  intro p e s m below meth cd9 ls hx hb hr hml hown hlocks hname hts hE hR hS hl
  have hown : s.vm.findClass RX9 = some m.cls := hown
  have hl : lv_has ls 1 [(0, .int (nI u))] := hl
  have wconstant_RX9_80_55296 := hts (.constant RX9 80 (55296)) (by decide +kernel)
  have wconstant_RX9_81_56319 := hts (.constant RX9 81 (56319)) (by decide +kernel)
  refine lv_iload_n hx hb dX9_isFirst_0 rfl (lv_at hl 0 rfl) ?_
  refine lv_ldc (v := 55296) hx hb hown wconstant_RX9_80_55296 dX9_isFirst_1 ?_
  refine ah_toi (v := nI 55296) (by decide) ?_
  refine lv_icmp_lt (tgt := 16) hx hb dX9_isFirst_3 (by decide) (fun c_1 => ?_) (fun c_1 => ?_)
  · skip
    have c_1 : u < 55296 := (nI_ltI (by omega) (by omega)).mp c_1
    refine lv_iconst (v := nI 0) hx hb dX9_isFirst_16 (by decide) ?_
    refine ah_zret (v := nI 0) hx hb hr hlocks hR hS dX9_isFirst_17 (by decide) ?_
    exact ⟨by rw [if_neg (show ¬ hiP u by unfold hiP; omega)], rfl⟩
  · skip
    have c_1 : ¬ (u < 55296) := fun z9 => c_1 ((nI_ltI (by omega) (by omega)).mpr z9)
    refine lv_iload_n hx hb dX9_isFirst_6 rfl (lv_at hl 0 rfl) ?_
    refine lv_ldc (v := 56319) hx hb hown wconstant_RX9_81_56319 dX9_isFirst_7 ?_
    refine ah_toi (v := nI 56319) (by decide) ?_
    refine lv_icmp_gt (tgt := 16) hx hb dX9_isFirst_9 (by decide) (fun c_2 => ?_) (fun c_2 => ?_)
    · skip
      have c_2 : 56319 < u := (nI_ltI (by omega) (by omega)).mp c_2
      refine lv_iconst (v := nI 0) hx hb dX9_isFirst_16 (by decide) ?_
      refine ah_zret (v := nI 0) hx hb hr hlocks hR hS dX9_isFirst_17 (by decide) ?_
      exact ⟨by rw [if_neg (show ¬ hiP u by unfold hiP; omega)], rfl⟩
    · skip
      have c_2 : ¬ (56319 < u) := fun z9 => c_2 ((nI_ltI (by omega) (by omega)).mpr z9)
      refine lv_iconst (v := nI 1) hx hb dX9_isFirst_12 (by decide) ?_
      refine lv_goto (tgt := 17) hx hb dX9_isFirst_13 (by decide) ?_
      refine ah_zret (v := nI 1) hx hb hr hlocks hR hS dX9_isFirst_17 (by decide) ?_
      exact ⟨by rw [if_pos (show hiP u by unfold hiP; omega)], rfl⟩

set_option maxHeartbeats 4000000 in
set_option maxRecDepth 100000 in
theorem c_m_isSecond (l : Launch) (G : ah_G) (h : ah_H) (u : Nat) (hu : u < 2 ^ 31) : Met l yX9_isSecond wsX9_isSecond ({ frames := 0, cells := 0, slots := 0, locals := 0 }) (ah_Pc G [.int (nI u)] h) (ah_Qi G (fun v h' => v = nI (if loP u then 1 else 0) ∧ h' = h)) 0 0 (ah_A G) := by
  refine ah_ofW (cc := cX9_isSecond) (maxL := 1) (ret := (some .boolean)) (by decide) rfl (Nat.le_of_ble_eq_true rfl) ?_
  intro p e s m below meth cd9 ls hx hb hr hml hown hlocks hname hts hE hR hS hl
  have hown : s.vm.findClass RX9 = some m.cls := hown
  have hl : lv_has ls 1 [(0, .int (nI u))] := hl
  have wconstant_RX9_82_56320 := hts (.constant RX9 82 (56320)) (by decide +kernel)
  have wconstant_RX9_83_57343 := hts (.constant RX9 83 (57343)) (by decide +kernel)
  refine lv_iload_n hx hb dX9_isSecond_0 rfl (lv_at hl 0 rfl) ?_
  refine lv_ldc (v := 56320) hx hb hown wconstant_RX9_82_56320 dX9_isSecond_1 ?_
  refine ah_toi (v := nI 56320) (by decide) ?_
  refine lv_icmp_lt (tgt := 16) hx hb dX9_isSecond_3 (by decide) (fun c_1 => ?_) (fun c_1 => ?_)
  · skip
    have c_1 : u < 56320 := (nI_ltI (by omega) (by omega)).mp c_1
    refine lv_iconst (v := nI 0) hx hb dX9_isSecond_16 (by decide) ?_
    refine ah_zret (v := nI 0) hx hb hr hlocks hR hS dX9_isSecond_17 (by decide) ?_
    exact ⟨by rw [if_neg (show ¬ loP u by unfold loP; omega)], rfl⟩
  · skip
    have c_1 : ¬ (u < 56320) := fun z9 => c_1 ((nI_ltI (by omega) (by omega)).mpr z9)
    refine lv_iload_n hx hb dX9_isSecond_6 rfl (lv_at hl 0 rfl) ?_
    refine lv_ldc (v := 57343) hx hb hown wconstant_RX9_83_57343 dX9_isSecond_7 ?_
    refine ah_toi (v := nI 57343) (by decide) ?_
    refine lv_icmp_gt (tgt := 16) hx hb dX9_isSecond_9 (by decide) (fun c_2 => ?_) (fun c_2 => ?_)
    · skip
      have c_2 : 57343 < u := (nI_ltI (by omega) (by omega)).mp c_2
      refine lv_iconst (v := nI 0) hx hb dX9_isSecond_16 (by decide) ?_
      refine ah_zret (v := nI 0) hx hb hr hlocks hR hS dX9_isSecond_17 (by decide) ?_
      exact ⟨by rw [if_neg (show ¬ loP u by unfold loP; omega)], rfl⟩
    · skip
      have c_2 : ¬ (57343 < u) := fun z9 => c_2 ((nI_ltI (by omega) (by omega)).mpr z9)
      refine lv_iconst (v := nI 1) hx hb dX9_isSecond_12 (by decide) ?_
      refine lv_goto (tgt := 17) hx hb dX9_isSecond_13 (by decide) ?_
      refine ah_zret (v := nI 1) hx hb hr hlocks hR hS dX9_isSecond_17 (by decide) ?_
      exact ⟨by rw [if_pos (show loP u by unfold loP; omega)], rfl⟩

set_option maxHeartbeats 4000000 in
set_option maxRecDepth 100000 in
theorem c_m_fitting (l : Launch) (G : ah_G) (h : ah_H) (y : Nat) (A : Nat → Nat) (k0 n rf pm zh lc c pt gv un : Nat) (fy : h y = some (20, .inr (8, mF A k0 n rf pm zh lc c pt gv un))) (fa1 : h (A 1) = some (21, .inl (G.2.2.1 0, 128, .inl plT))) (fa2 : h (A 2) = some (22, .inl (G.2.2.1 0, 128, .inl esT))) (tx : Nat → Nat) (fa4 : h (A 4) = some (24, .inl (G.2.2.1 0, 3000, .inl (nA tx)))) (hn : n ≤ 3000) (hf : ∀ j, tx j < 65536) (a pb : Nat) (ha : a ≤ n) (hpb : pb ≤ 1) (hin : pb = 0 → ∀ i, i < n → svFor (tx i) ≠ 0) : Met l yX9_fitting wsX9_fitting ({ frames := 1, cells := 0, slots := 0, locals := 23 }) (ah_Pc G [.ref y, .int (nI a), .int (nI pb)] h) (ah_Qi G (fun v h' => v = nI (tEnd tx n pb a - a) ∧ h' = h)) 0 0 (ah_A G) := by
  refine ah_ofW (cc := cX9_fitting) (maxL := 7) (ret := (some .int)) (by decide) rfl (Nat.le_of_ble_eq_true rfl) ?_
  intro p e s m below meth cd9 ls hx hb hr hml hown hlocks hname hts hE hR hS hl
  have hown : s.vm.findClass RX9 = some m.cls := hown
  have hl : lv_has ls 7 [(0, .ref y), (1, .int (nI a)), (2, .int (nI pb))] := hl
  have k69 := hts (.fieldLink RX9 69 "TextPartsModel" "count" "I") (by decide +kernel)
  have hinX9 : ∀ w ∈ wsX90, w ∈ wsX9_fitting := by decide +kernel
  have k16 := hts (.fieldLink RX9 16 "TextPartsModel" "text" "[I") (by decide +kernel)
  by_cases hp0 : pb = 0
  · skip
    refine lv_iload_n hx hb dX9_fitting_0 rfl (lv_at hl 2 rfl) ?_
    refine lv_if_eq (tgt := 9) hx hb dX9_fitting_1 (by decide) (fun c_1 => ?_) (fun c_1 => ?_)
    · skip
      have c_1 : pb = 0 := (zi_eq (by omega)).mp c_1
      refine lv_sipush (v := nI 153) hx hb dX9_fitting_9 (by decide) ?_
      refine lv_istore_n (lv' := [(3, .int (nI 153)), (0, .ref y), (1, .int (nI a)), (2, .int (nI pb))]) hx hb dX9_fitting_12 rfl hl (by decide) rfl (fun ls hl => ?_)
      refine lv_iload_n hx hb dX9_fitting_13 rfl (lv_at hl 2 rfl) ?_
      refine lv_istore (lv' := [(4, .int (nI a)), (3, .int (nI 153)), (0, .ref y), (1, .int (nI a)), (2, .int (nI pb))]) hx hb dX9_fitting_14 hl (by decide) rfl (fun ls hl => ?_)
      have L16 : ∀ (N16 : Nat) (k : Nat) (q : Nat) (H : Heap) (locs : List Loc) (ls : Array Slot), n - k < N16 → (a ≤ k) → (k ≤ n) → (q ≤ 153) → (sEnd tx n (n - k + 1) k q = tEnd tx n pb a) → (h y = some (20, .inr (8, mF A k0 n rf pm zh lc c pt gv un))) → (h (A 1) = some (21, .inl (G.2.2.1 0, 128, .inl plT))) → (h (A 2) = some (22, .inl (G.2.2.1 0, 128, .inl esT))) → (h (A 4) = some (24, .inl (G.2.2.1 0, 3000, .inl (nA tx)))) → ah_R G h H → va_S (ah_A G) s.heap H locs → lv_has ls 7 [(4, .int (nI k)), (3, .int (nI q)), (0, .ref y), (1, .int (nI a)), (2, .int (nI pb))] → W p l e ({ frames := 1, cells := 0, slots := 0, locals := 23 }) s m ([.ref y, .int (nI a), .int (nI pb)] : List Value).toArray below meth cd9 H locs 0 0 (MQ below (ah_Qi G (fun v h' => v = nI (tEnd tx n pb a - a) ∧ h' = h)) ([.ref y, .int (nI a), .int (nI pb)] : List Value).toArray s 0 0 (ah_A G)) (F0 m 16 ls []) := by
        intro N16
        induction N16 with
        | zero => intro k q  H locs ls hN; exact absurd hN (Nat.not_lt_zero _)
        | succ N16 ih16 =>
          intro k q  H locs ls hN16 hk hkn hq es fy fa1 fa2 fa4 hR hS hl
          refine lv_iload hx hb dX9_fitting_16 (lv_at hl 0 rfl) ?_
          refine lv_aload_n hx hb dX9_fitting_18 rfl (lv_at hl 2 rfl) ?_
          refine ah_get (ci := 8) (v := .int (nI n)) (C := RX9) (T := TX9) (N := 27) hx hb hE hR hts hinX9 hown fy rfl 3 (by decide) k69 (fun _ h9 => h9) rfl dX9_fitting_19 ?_
          refine lv_icmp_ge (tgt := 149) hx hb dX9_fitting_22 (by decide) (fun c_2 => ?_) (fun c_2 => ?_)
          · skip
            have c_2 : n ≤ k := (nI_leI (by omega) (by omega)).mp c_2
            refine lv_iload hx hb dX9_fitting_149 (lv_at hl 0 rfl) ?_
            refine lv_iload_n hx hb dX9_fitting_151 rfl (lv_at hl 3 rfl) ?_
            refine lv_isub hx hb dX9_fitting_152 ?_
            refine ah_toi (v := nI (k - a)) (pk_sub (by omega)) ?_
            refine ah_iret (v := nI (k - a)) hx hb hr hlocks hR hS dX9_fitting_153 ?_
            exact ⟨by rw [← es, sE_end (by omega), show k = n by omega], rfl⟩
          · skip
            have c_2 : ¬ (n ≤ k) := fun z9 => c_2 ((nI_leI (by omega) (by omega)).mpr z9)
            have hfk := hf k; have hfk1 := hf (k + 1)
            have hsn := hin hp0 k (by omega)
            refine lv_iload_n hx hb dX9_fitting_25 rfl (lv_at hl 4 rfl) ?_
            refine lv_if_eq (tgt := 72) hx hb dX9_fitting_26 (by decide) (fun c_3 => ?_) (fun c_3 => ?_)
            · skip
              have c_3 : pb = 0 := (zi_eq (by omega)).mp c_3
              refine lv_iconst (v := nI 0) hx hb dX9_fitting_72 (by decide) ?_
              refine lv_istore (lv' := [(5, .int (nI 0)), (4, .int (nI k)), (3, .int (nI q)), (0, .ref y), (1, .int (nI a)), (2, .int (nI pb))]) hx hb dX9_fitting_73 hl (by decide) rfl (fun ls hl => ?_)
              refine lv_iload_n hx hb dX9_fitting_75 rfl (lv_at hl 5 rfl) ?_
              refine lv_if_eq (tgt := 92) hx hb dX9_fitting_76 (by decide) (fun c_4 => ?_) (fun c_4 => ?_)
              · skip
                have c_4 : pb = 0 := (zi_eq (by omega)).mp c_4
                refine lv_aload_n hx hb dX9_fitting_92 rfl (lv_at hl 3 rfl) ?_
                refine lv_aload_n hx hb dX9_fitting_93 rfl (lv_at hl 3 rfl) ?_
                refine ah_get (ci := 8) (v := .ref (A 4)) (C := RX9) (T := TX9) (N := 27) hx hb hE hR hts hinX9 hown fy rfl 4 (by decide) k16 (fun _ h9 => h9) rfl dX9_fitting_94 ?_
                refine lv_iload hx hb dX9_fitting_97 (lv_at hl 1 rfl) ?_
                refine ah_iald (i := k) hx hb hE hR fa4 (by omega) (by omega) dX9_fitting_99 ?_
                refine ah_toi (v := nI (tx k)) rfl ?_
                refine ah_calli (va_runV (As := [.int (nI (tx k))]) (rest := []) ⟨hx, hb, hml, hown, hts⟩ (c_m_sevenOf l G h y A k0 n rf pm zh lc c pt gv un fy fa1 fa2 (tx k) (by omega)) (cwV 1 hts gX9_fitting_X9_sevenOf rfl rfl rfl (by decide +kernel) ⟨Nat.le_of_ble_eq_true rfl, Nat.le_of_ble_eq_true rfl⟩) (ah_preV hE hR hS fy rfl) rfl rfl hl.1 rfl (lv_room (Nat.le_of_ble_eq_true rfl)) dX9_fitting_100 ⟨Nat.le_of_ble_eq_true rfl, Nat.le_of_ble_eq_true rfl⟩) hS (fun r_7 h_5 H locs p_6 hR hS => ?_)
                obtain ⟨e_8, e_9⟩ := p_6
                rw [e_9] at hR
                obtain ⟨e9, l9, t9, o9⟩ := sv9_in hsn
                refine ah_toi (v := nI (sv9N (tx k))) (by rw [e_8]; exact e9) ?_
                refine lv_bipush (v := nI 127) hx hb dX9_fitting_103 (by decide) ?_
                refine lv_icmp_le (tgt := 112) hx hb dX9_fitting_105 (by decide) (fun c_10 => ?_) (fun c_10 => ?_)
                · skip
                  have c_10 : (sv9N (tx k)) ≤ 127 := (nI_leI (by omega) (by omega)).mp c_10
                  refine lv_iconst (v := nI 1) hx hb dX9_fitting_112 (by decide) ?_
                  have hv9 : svFor (tx k) = 1 := by omega
                  refine ah_toi (v := nI (svFor (tx k))) (by rw [hv9]) ?_
                  refine lv_istore (lv' := [(6, .int (nI (svFor (tx k)))), (5, .int (nI 0)), (4, .int (nI k)), (3, .int (nI q)), (0, .ref y), (1, .int (nI a)), (2, .int (nI pb))]) hx hb dX9_fitting_113 hl (by decide) rfl (fun ls hl => ?_)
                  refine lv_iload hx hb dX9_fitting_115 (lv_at hl 0 rfl) ?_
                  refine lv_iload_n hx hb dX9_fitting_117 rfl (lv_at hl 3 rfl) ?_
                  refine lv_icmp_le (tgt := 126) hx hb dX9_fitting_118 (by decide) (fun c_11 => ?_) (fun c_11 => ?_)
                  · skip
                    have c_11 : (svFor (tx k)) ≤ q := (nI_leI (by omega) (by omega)).mp c_11
                    refine lv_iload_n hx hb dX9_fitting_126 rfl (lv_at hl 3 rfl) ?_
                    refine lv_iload hx hb dX9_fitting_127 (lv_at hl 0 rfl) ?_
                    refine lv_isub hx hb dX9_fitting_129 ?_
                    refine ah_toi (v := nI (q - (svFor (tx k)))) (pk_sub (by omega)) ?_
                    refine lv_istore_n (lv' := [(3, .int (nI (q - (svFor (tx k))))), (6, .int (nI (svFor (tx k)))), (5, .int (nI 0)), (4, .int (nI k)), (0, .ref y), (1, .int (nI a)), (2, .int (nI pb))]) hx hb dX9_fitting_130 rfl hl (by decide) rfl (fun ls hl => ?_)
                    refine lv_iload hx hb dX9_fitting_131 (lv_at hl 3 rfl) ?_
                    refine lv_iload hx hb dX9_fitting_133 (lv_at hl 2 rfl) ?_
                    refine lv_if_eq (tgt := 142) hx hb dX9_fitting_135 (by decide) (fun c_12 => ?_) (fun c_12 => ?_)
                    · skip
                      refine lv_iconst (v := nI 1) hx hb dX9_fitting_142 (by decide) ?_
                      refine lv_iadd hx hb dX9_fitting_143 ?_
                      refine ah_toi (v := nI (k + 1)) (nI_add _ _) ?_
                      refine lv_istore (lv' := [(4, .int (nI (k + 1))), (3, .int (nI (q - (svFor (tx k))))), (6, .int (nI (svFor (tx k)))), (5, .int (nI 0)), (0, .ref y), (1, .int (nI a)), (2, .int (nI pb))]) hx hb dX9_fitting_144 hl (by decide) rfl (fun ls hl => ?_)
                      refine lv_goto (tgt := 16) hx hb dX9_fitting_146 (by decide) ?_
                      exact ih16  (k + 1) (q - svFor (tx k)) _ _ ls (by omega) (by omega) (by omega) (by omega) (by rw [← es, show n - k + 1 = (n - (k + 1) + 1) + 1 by omega]; exact (sE_go (by omega) (by omega)).symm) fy fa1 fa2 fa4 hR hS (lv_sub hl [0, 1, 4, 5, 6] rfl)
                    · skip
                      exact absurd (by decide) c_12
                  · skip
                    have c_11 : ¬ ((svFor (tx k)) ≤ q) := fun z9 => c_11 ((nI_leI (by omega) (by omega)).mpr z9)
                    refine lv_iload hx hb dX9_fitting_121 (lv_at hl 2 rfl) ?_
                    refine lv_iload_n hx hb dX9_fitting_123 rfl (lv_at hl 5 rfl) ?_
                    refine lv_isub hx hb dX9_fitting_124 ?_
                    refine ah_toi (v := nI (k - a)) (pk_sub (by omega)) ?_
                    refine ah_iret (v := nI (k - a)) hx hb hr hlocks hR hS dX9_fitting_125 ?_
                    exact ⟨by rw [← es, sE_stop (by omega) (by omega)], rfl⟩
                · skip
                  have c_10 : ¬ ((sv9N (tx k)) ≤ 127) := fun z9 => c_10 ((nI_leI (by omega) (by omega)).mpr z9)
                  refine lv_iconst (v := nI 2) hx hb dX9_fitting_108 (by decide) ?_
                  refine lv_goto (tgt := 113) hx hb dX9_fitting_109 (by decide) ?_
                  have hv9 : svFor (tx k) = 2 := by omega
                  refine ah_toi (v := nI (svFor (tx k))) (by rw [hv9]) ?_
                  refine lv_istore (lv' := [(6, .int (nI (svFor (tx k)))), (5, .int (nI 0)), (4, .int (nI k)), (3, .int (nI q)), (0, .ref y), (1, .int (nI a)), (2, .int (nI pb))]) hx hb dX9_fitting_113 hl (by decide) rfl (fun ls hl => ?_)
                  refine lv_iload hx hb dX9_fitting_115 (lv_at hl 0 rfl) ?_
                  refine lv_iload_n hx hb dX9_fitting_117 rfl (lv_at hl 3 rfl) ?_
                  refine lv_icmp_le (tgt := 126) hx hb dX9_fitting_118 (by decide) (fun c_13 => ?_) (fun c_13 => ?_)
                  · skip
                    have c_13 : (svFor (tx k)) ≤ q := (nI_leI (by omega) (by omega)).mp c_13
                    refine lv_iload_n hx hb dX9_fitting_126 rfl (lv_at hl 3 rfl) ?_
                    refine lv_iload hx hb dX9_fitting_127 (lv_at hl 0 rfl) ?_
                    refine lv_isub hx hb dX9_fitting_129 ?_
                    refine ah_toi (v := nI (q - (svFor (tx k)))) (pk_sub (by omega)) ?_
                    refine lv_istore_n (lv' := [(3, .int (nI (q - (svFor (tx k))))), (6, .int (nI (svFor (tx k)))), (5, .int (nI 0)), (4, .int (nI k)), (0, .ref y), (1, .int (nI a)), (2, .int (nI pb))]) hx hb dX9_fitting_130 rfl hl (by decide) rfl (fun ls hl => ?_)
                    refine lv_iload hx hb dX9_fitting_131 (lv_at hl 3 rfl) ?_
                    refine lv_iload hx hb dX9_fitting_133 (lv_at hl 2 rfl) ?_
                    refine lv_if_eq (tgt := 142) hx hb dX9_fitting_135 (by decide) (fun c_14 => ?_) (fun c_14 => ?_)
                    · skip
                      refine lv_iconst (v := nI 1) hx hb dX9_fitting_142 (by decide) ?_
                      refine lv_iadd hx hb dX9_fitting_143 ?_
                      refine ah_toi (v := nI (k + 1)) (nI_add _ _) ?_
                      refine lv_istore (lv' := [(4, .int (nI (k + 1))), (3, .int (nI (q - (svFor (tx k))))), (6, .int (nI (svFor (tx k)))), (5, .int (nI 0)), (0, .ref y), (1, .int (nI a)), (2, .int (nI pb))]) hx hb dX9_fitting_144 hl (by decide) rfl (fun ls hl => ?_)
                      refine lv_goto (tgt := 16) hx hb dX9_fitting_146 (by decide) ?_
                      exact ih16  (k + 1) (q - svFor (tx k)) _ _ ls (by omega) (by omega) (by omega) (by omega) (by rw [← es, show n - k + 1 = (n - (k + 1) + 1) + 1 by omega]; exact (sE_go (by omega) (by omega)).symm) fy fa1 fa2 fa4 hR hS (lv_sub hl [0, 1, 4, 5, 6] rfl)
                    · skip
                      exact absurd (by decide) c_14
                  · skip
                    have c_13 : ¬ ((svFor (tx k)) ≤ q) := fun z9 => c_13 ((nI_leI (by omega) (by omega)).mpr z9)
                    refine lv_iload hx hb dX9_fitting_121 (lv_at hl 2 rfl) ?_
                    refine lv_iload_n hx hb dX9_fitting_123 rfl (lv_at hl 5 rfl) ?_
                    refine lv_isub hx hb dX9_fitting_124 ?_
                    refine ah_toi (v := nI (k - a)) (pk_sub (by omega)) ?_
                    refine ah_iret (v := nI (k - a)) hx hb hr hlocks hR hS dX9_fitting_125 ?_
                    exact ⟨by rw [← es, sE_stop (by omega) (by omega)], rfl⟩
              · skip
                have c_4 : ¬ (pb = 0) := fun z9 => c_4 ((zi_eq (by omega)).mpr z9)
                exact absurd hp0 c_4
            · skip
              have c_3 : ¬ (pb = 0) := fun z9 => c_3 ((zi_eq (by omega)).mpr z9)
              exact absurd hp0 c_3
      exact L16 ((n - a) + 1) a 153 _ _ ls (by omega) (by omega) (by omega) (by omega) (by unfold tEnd; rw [if_pos hp0]) fy fa1 fa2 fa4 hR hS (lv_sub hl [0, 1, 2, 3, 4] rfl)
    · skip
      have c_1 : ¬ (pb = 0) := fun z9 => c_1 ((zi_eq (by omega)).mpr z9)
      exact absurd hp0 c_1
  · skip
    refine lv_iload_n hx hb dX9_fitting_0 rfl (lv_at hl 2 rfl) ?_
    refine lv_if_eq (tgt := 9) hx hb dX9_fitting_1 (by decide) (fun c_15 => ?_) (fun c_15 => ?_)
    · skip
      have c_15 : pb = 0 := (zi_eq (by omega)).mp c_15
      exact absurd c_15 hp0
    · skip
      have c_15 : ¬ (pb = 0) := fun z9 => c_15 ((zi_eq (by omega)).mpr z9)
      refine lv_bipush (v := nI 67) hx hb dX9_fitting_4 (by decide) ?_
      refine lv_goto (tgt := 12) hx hb dX9_fitting_6 (by decide) ?_
      refine lv_istore_n (lv' := [(3, .int (nI 67)), (0, .ref y), (1, .int (nI a)), (2, .int (nI pb))]) hx hb dX9_fitting_12 rfl hl (by decide) rfl (fun ls hl => ?_)
      refine lv_iload_n hx hb dX9_fitting_13 rfl (lv_at hl 2 rfl) ?_
      refine lv_istore (lv' := [(4, .int (nI a)), (3, .int (nI 67)), (0, .ref y), (1, .int (nI a)), (2, .int (nI pb))]) hx hb dX9_fitting_14 hl (by decide) rfl (fun ls hl => ?_)
      have L16 : ∀ (N16 : Nat) (k : Nat) (q : Nat) (H : Heap) (locs : List Loc) (ls : Array Slot), n - k < N16 → (a ≤ k) → (k ≤ n) → (k + q = a + 67) → (k = a + 67 → ¬ (hiP (tx (a + 66)) ∧ loP (tx (a + 67))) ∨ n ≤ a + 67) → (h y = some (20, .inr (8, mF A k0 n rf pm zh lc c pt gv un))) → (h (A 1) = some (21, .inl (G.2.2.1 0, 128, .inl plT))) → (h (A 2) = some (22, .inl (G.2.2.1 0, 128, .inl esT))) → (h (A 4) = some (24, .inl (G.2.2.1 0, 3000, .inl (nA tx)))) → ah_R G h H → va_S (ah_A G) s.heap H locs → lv_has ls 7 [(4, .int (nI k)), (3, .int (nI q)), (0, .ref y), (1, .int (nI a)), (2, .int (nI pb))] → W p l e ({ frames := 1, cells := 0, slots := 0, locals := 23 }) s m ([.ref y, .int (nI a), .int (nI pb)] : List Value).toArray below meth cd9 H locs 0 0 (MQ below (ah_Qi G (fun v h' => v = nI (tEnd tx n pb a - a) ∧ h' = h)) ([.ref y, .int (nI a), .int (nI pb)] : List Value).toArray s 0 0 (ah_A G)) (F0 m 16 ls []) := by
        intro N16
        induction N16 with
        | zero => intro k q  H locs ls hN; exact absurd hN (Nat.not_lt_zero _)
        | succ N16 ih16 =>
          intro k q  H locs ls hN16 hk hkn hq h66 fy fa1 fa2 fa4 hR hS hl
          refine lv_iload hx hb dX9_fitting_16 (lv_at hl 0 rfl) ?_
          refine lv_aload_n hx hb dX9_fitting_18 rfl (lv_at hl 2 rfl) ?_
          refine ah_get (ci := 8) (v := .int (nI n)) (C := RX9) (T := TX9) (N := 27) hx hb hE hR hts hinX9 hown fy rfl 3 (by decide) k69 (fun _ h9 => h9) rfl dX9_fitting_19 ?_
          refine lv_icmp_ge (tgt := 149) hx hb dX9_fitting_22 (by decide) (fun c_16 => ?_) (fun c_16 => ?_)
          · skip
            have c_16 : n ≤ k := (nI_leI (by omega) (by omega)).mp c_16
            refine lv_iload hx hb dX9_fitting_149 (lv_at hl 0 rfl) ?_
            refine lv_iload_n hx hb dX9_fitting_151 rfl (lv_at hl 3 rfl) ?_
            refine lv_isub hx hb dX9_fitting_152 ?_
            refine ah_toi (v := nI (k - a)) (pk_sub (by omega)) ?_
            refine ah_iret (v := nI (k - a)) hx hb hr hlocks hR hS dX9_fitting_153 ?_
            have kn : k = n := by omega
            exact ⟨by rw [tEnd_p hp0, show pEnd tx n a = n from if_pos (by omega), kn], rfl⟩
          · skip
            have c_16 : ¬ (n ≤ k) := fun z9 => c_16 ((nI_leI (by omega) (by omega)).mpr z9)
            have hfk := hf k; have hfk1 := hf (k + 1)
            refine lv_iload_n hx hb dX9_fitting_25 rfl (lv_at hl 4 rfl) ?_
            refine lv_if_eq (tgt := 72) hx hb dX9_fitting_26 (by decide) (fun c_17 => ?_) (fun c_17 => ?_)
            · skip
              have c_17 : pb = 0 := (zi_eq (by omega)).mp c_17
              exact absurd c_17 hp0
            · skip
              have c_17 : ¬ (pb = 0) := fun z9 => c_17 ((zi_eq (by omega)).mpr z9)
              refine lv_aload_n hx hb dX9_fitting_29 rfl (lv_at hl 2 rfl) ?_
              refine ah_get (ci := 8) (v := .ref (A 4)) (C := RX9) (T := TX9) (N := 27) hx hb hE hR hts hinX9 hown fy rfl 4 (by decide) k16 (fun _ h9 => h9) rfl dX9_fitting_30 ?_
              refine lv_iload hx hb dX9_fitting_33 (lv_at hl 0 rfl) ?_
              refine ah_iald (i := k) hx hb hE hR fa4 (by omega) (by omega) dX9_fitting_35 ?_
              refine ah_toi (v := nI (tx k)) rfl ?_
              refine ah_calli (va_runS (As := [.int (nI (tx k))]) (rest := []) ⟨hx, hb, hml, hown, hts⟩ (c_m_isFirst l G h (tx k) (by omega)) (va_cwS 1 hts gX9_fitting_X9_isFirst rfl rfl rfl (by decide +kernel) ⟨Nat.le_of_ble_eq_true rfl, Nat.le_of_ble_eq_true rfl⟩) (ah_preS hE hR hS) rfl rfl hl.1 rfl (lv_room (Nat.le_of_ble_eq_true rfl)) dX9_fitting_36 ⟨Nat.le_of_ble_eq_true rfl, Nat.le_of_ble_eq_true rfl⟩) hS (fun r_20 h_18 H locs p_19 hR hS => ?_)
              obtain ⟨e_21, e_22⟩ := p_19
              rw [e_22] at hR
              refine ah_toi e_21 ?_
              have h01 : (if hiP (tx k) then 1 else 0) < 2 ^ 31 := if10
              refine lv_if_eq (tgt := 72) hx hb dX9_fitting_39 (by decide) (fun c_23 => ?_) (fun c_23 => ?_)
              · skip
                have c_23 : (if hiP (tx k) then 1 else 0) = 0 := (zi_eq (by omega)).mp c_23
                have nh := if10f c_23
                refine lv_iconst (v := nI 0) hx hb dX9_fitting_72 (by decide) ?_
                refine lv_istore (lv' := [(5, .int (nI 0)), (4, .int (nI k)), (3, .int (nI q)), (0, .ref y), (1, .int (nI a)), (2, .int (nI pb))]) hx hb dX9_fitting_73 hl (by decide) rfl (fun ls hl => ?_)
                refine lv_iload_n hx hb dX9_fitting_75 rfl (lv_at hl 5 rfl) ?_
                refine lv_if_eq (tgt := 92) hx hb dX9_fitting_76 (by decide) (fun c_24 => ?_) (fun c_24 => ?_)
                · skip
                  have c_24 : pb = 0 := (zi_eq (by omega)).mp c_24
                  exact absurd c_24 hp0
                · skip
                  have c_24 : ¬ (pb = 0) := fun z9 => c_24 ((zi_eq (by omega)).mpr z9)
                  refine lv_iload hx hb dX9_fitting_79 (lv_at hl 0 rfl) ?_
                  refine lv_if_eq (tgt := 88) hx hb dX9_fitting_81 (by decide) (fun c_25 => ?_) (fun c_25 => ?_)
                  · skip
                    refine lv_iconst (v := nI 1) hx hb dX9_fitting_88 (by decide) ?_
                    refine lv_goto (tgt := 113) hx hb dX9_fitting_89 (by decide) ?_
                    refine lv_istore (lv' := [(6, .int (nI 1)), (5, .int (nI 0)), (4, .int (nI k)), (3, .int (nI q)), (0, .ref y), (1, .int (nI a)), (2, .int (nI pb))]) hx hb dX9_fitting_113 hl (by decide) rfl (fun ls hl => ?_)
                    refine lv_iload hx hb dX9_fitting_115 (lv_at hl 0 rfl) ?_
                    refine lv_iload_n hx hb dX9_fitting_117 rfl (lv_at hl 3 rfl) ?_
                    refine lv_icmp_le (tgt := 126) hx hb dX9_fitting_118 (by decide) (fun c_26 => ?_) (fun c_26 => ?_)
                    · skip
                      have c_26 : 1 ≤ q := (nI_leI (by omega) (by omega)).mp c_26
                      refine lv_iload_n hx hb dX9_fitting_126 rfl (lv_at hl 3 rfl) ?_
                      refine lv_iload hx hb dX9_fitting_127 (lv_at hl 0 rfl) ?_
                      refine lv_isub hx hb dX9_fitting_129 ?_
                      refine ah_toi (v := nI (q - 1)) (pk_sub (by omega)) ?_
                      refine lv_istore_n (lv' := [(3, .int (nI (q - 1))), (6, .int (nI 1)), (5, .int (nI 0)), (4, .int (nI k)), (0, .ref y), (1, .int (nI a)), (2, .int (nI pb))]) hx hb dX9_fitting_130 rfl hl (by decide) rfl (fun ls hl => ?_)
                      refine lv_iload hx hb dX9_fitting_131 (lv_at hl 3 rfl) ?_
                      refine lv_iload hx hb dX9_fitting_133 (lv_at hl 2 rfl) ?_
                      refine lv_if_eq (tgt := 142) hx hb dX9_fitting_135 (by decide) (fun c_27 => ?_) (fun c_27 => ?_)
                      · skip
                        refine lv_iconst (v := nI 1) hx hb dX9_fitting_142 (by decide) ?_
                        refine lv_iadd hx hb dX9_fitting_143 ?_
                        refine ah_toi (v := nI (k + 1)) (nI_add _ _) ?_
                        refine lv_istore (lv' := [(4, .int (nI (k + 1))), (3, .int (nI (q - 1))), (6, .int (nI 1)), (5, .int (nI 0)), (0, .ref y), (1, .int (nI a)), (2, .int (nI pb))]) hx hb dX9_fitting_144 hl (by decide) rfl (fun ls hl => ?_)
                        refine lv_goto (tgt := 16) hx hb dX9_fitting_146 (by decide) ?_
                        exact ih16  (k + 1) (q - 1) _ _ ls (by omega) (by omega) (by omega) (by omega) (fun z9 => Or.inl (fun q9 => nh (by rw [show k = a + 66 by omega]; exact q9.1))) fy fa1 fa2 fa4 hR hS (lv_sub hl [0, 1, 4, 5, 6] rfl)
                      · skip
                        exact absurd (by decide) c_27
                    · skip
                      have c_26 : ¬ (1 ≤ q) := fun z9 => c_26 ((nI_leI (by omega) (by omega)).mpr z9)
                      refine lv_iload hx hb dX9_fitting_121 (lv_at hl 2 rfl) ?_
                      refine lv_iload_n hx hb dX9_fitting_123 rfl (lv_at hl 5 rfl) ?_
                      refine lv_isub hx hb dX9_fitting_124 ?_
                      refine ah_toi (v := nI (k - a)) (pk_sub (by omega)) ?_
                      refine ah_iret (v := nI (k - a)) hx hb hr hlocks hR hS dX9_fitting_125 ?_
                      exact ⟨by rw [tEnd_p hp0, pF_1 hq (by omega) (by omega) h66], rfl⟩
                  · skip
                    exact absurd (by decide) c_25
              · skip
                have c_23 : ¬ ((if hiP (tx k) then 1 else 0) = 0) := fun z9 => c_23 ((zi_eq (by omega)).mpr z9)
                have yh := if10t c_23
                refine lv_iload hx hb dX9_fitting_42 (lv_at hl 0 rfl) ?_
                refine lv_iconst (v := nI 1) hx hb dX9_fitting_44 (by decide) ?_
                refine lv_iadd hx hb dX9_fitting_45 ?_
                refine ah_toi (v := nI (k + 1)) (nI_add _ _) ?_
                refine lv_aload_n hx hb dX9_fitting_46 rfl (lv_at hl 2 rfl) ?_
                refine ah_get (ci := 8) (v := .int (nI n)) (C := RX9) (T := TX9) (N := 27) hx hb hE hR hts hinX9 hown fy rfl 3 (by decide) k69 (fun _ h9 => h9) rfl dX9_fitting_47 ?_
                refine lv_icmp_ge (tgt := 72) hx hb dX9_fitting_50 (by decide) (fun c_28 => ?_) (fun c_28 => ?_)
                · skip
                  have c_28 : n ≤ (k + 1) := (nI_leI (by omega) (by omega)).mp c_28
                  refine lv_iconst (v := nI 0) hx hb dX9_fitting_72 (by decide) ?_
                  refine lv_istore (lv' := [(5, .int (nI 0)), (4, .int (nI k)), (3, .int (nI q)), (0, .ref y), (1, .int (nI a)), (2, .int (nI pb))]) hx hb dX9_fitting_73 hl (by decide) rfl (fun ls hl => ?_)
                  refine lv_iload_n hx hb dX9_fitting_75 rfl (lv_at hl 5 rfl) ?_
                  refine lv_if_eq (tgt := 92) hx hb dX9_fitting_76 (by decide) (fun c_29 => ?_) (fun c_29 => ?_)
                  · skip
                    have c_29 : pb = 0 := (zi_eq (by omega)).mp c_29
                    exact absurd c_29 hp0
                  · skip
                    have c_29 : ¬ (pb = 0) := fun z9 => c_29 ((zi_eq (by omega)).mpr z9)
                    refine lv_iload hx hb dX9_fitting_79 (lv_at hl 0 rfl) ?_
                    refine lv_if_eq (tgt := 88) hx hb dX9_fitting_81 (by decide) (fun c_30 => ?_) (fun c_30 => ?_)
                    · skip
                      refine lv_iconst (v := nI 1) hx hb dX9_fitting_88 (by decide) ?_
                      refine lv_goto (tgt := 113) hx hb dX9_fitting_89 (by decide) ?_
                      refine lv_istore (lv' := [(6, .int (nI 1)), (5, .int (nI 0)), (4, .int (nI k)), (3, .int (nI q)), (0, .ref y), (1, .int (nI a)), (2, .int (nI pb))]) hx hb dX9_fitting_113 hl (by decide) rfl (fun ls hl => ?_)
                      refine lv_iload hx hb dX9_fitting_115 (lv_at hl 0 rfl) ?_
                      refine lv_iload_n hx hb dX9_fitting_117 rfl (lv_at hl 3 rfl) ?_
                      refine lv_icmp_le (tgt := 126) hx hb dX9_fitting_118 (by decide) (fun c_31 => ?_) (fun c_31 => ?_)
                      · skip
                        have c_31 : 1 ≤ q := (nI_leI (by omega) (by omega)).mp c_31
                        refine lv_iload_n hx hb dX9_fitting_126 rfl (lv_at hl 3 rfl) ?_
                        refine lv_iload hx hb dX9_fitting_127 (lv_at hl 0 rfl) ?_
                        refine lv_isub hx hb dX9_fitting_129 ?_
                        refine ah_toi (v := nI (q - 1)) (pk_sub (by omega)) ?_
                        refine lv_istore_n (lv' := [(3, .int (nI (q - 1))), (6, .int (nI 1)), (5, .int (nI 0)), (4, .int (nI k)), (0, .ref y), (1, .int (nI a)), (2, .int (nI pb))]) hx hb dX9_fitting_130 rfl hl (by decide) rfl (fun ls hl => ?_)
                        refine lv_iload hx hb dX9_fitting_131 (lv_at hl 3 rfl) ?_
                        refine lv_iload hx hb dX9_fitting_133 (lv_at hl 2 rfl) ?_
                        refine lv_if_eq (tgt := 142) hx hb dX9_fitting_135 (by decide) (fun c_32 => ?_) (fun c_32 => ?_)
                        · skip
                          refine lv_iconst (v := nI 1) hx hb dX9_fitting_142 (by decide) ?_
                          refine lv_iadd hx hb dX9_fitting_143 ?_
                          refine ah_toi (v := nI (k + 1)) (nI_add _ _) ?_
                          refine lv_istore (lv' := [(4, .int (nI (k + 1))), (3, .int (nI (q - 1))), (6, .int (nI 1)), (5, .int (nI 0)), (0, .ref y), (1, .int (nI a)), (2, .int (nI pb))]) hx hb dX9_fitting_144 hl (by decide) rfl (fun ls hl => ?_)
                          refine lv_goto (tgt := 16) hx hb dX9_fitting_146 (by decide) ?_
                          exact ih16  (k + 1) (q - 1) _ _ ls (by omega) (by omega) (by omega) (by omega) (fun z9 => Or.inr (by omega)) fy fa1 fa2 fa4 hR hS (lv_sub hl [0, 1, 4, 5, 6] rfl)
                        · skip
                          exact absurd (by decide) c_32
                      · skip
                        have c_31 : ¬ (1 ≤ q) := fun z9 => c_31 ((nI_leI (by omega) (by omega)).mpr z9)
                        refine lv_iload hx hb dX9_fitting_121 (lv_at hl 2 rfl) ?_
                        refine lv_iload_n hx hb dX9_fitting_123 rfl (lv_at hl 5 rfl) ?_
                        refine lv_isub hx hb dX9_fitting_124 ?_
                        refine ah_toi (v := nI (k - a)) (pk_sub (by omega)) ?_
                        refine ah_iret (v := nI (k - a)) hx hb hr hlocks hR hS dX9_fitting_125 ?_
                        exact ⟨by rw [tEnd_p hp0, pF_1 hq (by omega) (by omega) h66], rfl⟩
                    · skip
                      exact absurd (by decide) c_30
                · skip
                  have c_28 : ¬ (n ≤ (k + 1)) := fun z9 => c_28 ((nI_leI (by omega) (by omega)).mpr z9)
                  refine lv_aload_n hx hb dX9_fitting_53 rfl (lv_at hl 2 rfl) ?_
                  refine ah_get (ci := 8) (v := .ref (A 4)) (C := RX9) (T := TX9) (N := 27) hx hb hE hR hts hinX9 hown fy rfl 4 (by decide) k16 (fun _ h9 => h9) rfl dX9_fitting_54 ?_
                  refine lv_iload hx hb dX9_fitting_57 (lv_at hl 0 rfl) ?_
                  refine lv_iconst (v := nI 1) hx hb dX9_fitting_59 (by decide) ?_
                  refine lv_iadd hx hb dX9_fitting_60 ?_
                  refine ah_toi (v := nI (k + 1)) (nI_add _ _) ?_
                  refine ah_iald (i := (k + 1)) hx hb hE hR fa4 (by omega) (by omega) dX9_fitting_61 ?_
                  refine ah_toi (v := nI (tx (k + 1))) rfl ?_
                  refine ah_calli (va_runS (As := [.int (nI (tx (k + 1)))]) (rest := []) ⟨hx, hb, hml, hown, hts⟩ (c_m_isSecond l G h (tx (k + 1)) (by omega)) (va_cwS 1 hts gX9_fitting_X9_isSecond rfl rfl rfl (by decide +kernel) ⟨Nat.le_of_ble_eq_true rfl, Nat.le_of_ble_eq_true rfl⟩) (ah_preS hE hR hS) rfl rfl hl.1 rfl (lv_room (Nat.le_of_ble_eq_true rfl)) dX9_fitting_62 ⟨Nat.le_of_ble_eq_true rfl, Nat.le_of_ble_eq_true rfl⟩) hS (fun r_35 h_33 H locs p_34 hR hS => ?_)
                  obtain ⟨e_36, e_37⟩ := p_34
                  rw [e_37] at hR
                  refine ah_toi e_36 ?_
                  have h02 : (if loP (tx (k + 1)) then 1 else 0) < 2 ^ 31 := if10
                  refine lv_if_eq (tgt := 72) hx hb dX9_fitting_65 (by decide) (fun c_38 => ?_) (fun c_38 => ?_)
                  · skip
                    have c_38 : (if loP (tx (k + 1)) then 1 else 0) = 0 := (zi_eq (by omega)).mp c_38
                    have nl := if10f c_38
                    refine lv_iconst (v := nI 0) hx hb dX9_fitting_72 (by decide) ?_
                    refine lv_istore (lv' := [(5, .int (nI 0)), (4, .int (nI k)), (3, .int (nI q)), (0, .ref y), (1, .int (nI a)), (2, .int (nI pb))]) hx hb dX9_fitting_73 hl (by decide) rfl (fun ls hl => ?_)
                    refine lv_iload_n hx hb dX9_fitting_75 rfl (lv_at hl 5 rfl) ?_
                    refine lv_if_eq (tgt := 92) hx hb dX9_fitting_76 (by decide) (fun c_39 => ?_) (fun c_39 => ?_)
                    · skip
                      have c_39 : pb = 0 := (zi_eq (by omega)).mp c_39
                      exact absurd c_39 hp0
                    · skip
                      have c_39 : ¬ (pb = 0) := fun z9 => c_39 ((zi_eq (by omega)).mpr z9)
                      refine lv_iload hx hb dX9_fitting_79 (lv_at hl 0 rfl) ?_
                      refine lv_if_eq (tgt := 88) hx hb dX9_fitting_81 (by decide) (fun c_40 => ?_) (fun c_40 => ?_)
                      · skip
                        refine lv_iconst (v := nI 1) hx hb dX9_fitting_88 (by decide) ?_
                        refine lv_goto (tgt := 113) hx hb dX9_fitting_89 (by decide) ?_
                        refine lv_istore (lv' := [(6, .int (nI 1)), (5, .int (nI 0)), (4, .int (nI k)), (3, .int (nI q)), (0, .ref y), (1, .int (nI a)), (2, .int (nI pb))]) hx hb dX9_fitting_113 hl (by decide) rfl (fun ls hl => ?_)
                        refine lv_iload hx hb dX9_fitting_115 (lv_at hl 0 rfl) ?_
                        refine lv_iload_n hx hb dX9_fitting_117 rfl (lv_at hl 3 rfl) ?_
                        refine lv_icmp_le (tgt := 126) hx hb dX9_fitting_118 (by decide) (fun c_41 => ?_) (fun c_41 => ?_)
                        · skip
                          have c_41 : 1 ≤ q := (nI_leI (by omega) (by omega)).mp c_41
                          refine lv_iload_n hx hb dX9_fitting_126 rfl (lv_at hl 3 rfl) ?_
                          refine lv_iload hx hb dX9_fitting_127 (lv_at hl 0 rfl) ?_
                          refine lv_isub hx hb dX9_fitting_129 ?_
                          refine ah_toi (v := nI (q - 1)) (pk_sub (by omega)) ?_
                          refine lv_istore_n (lv' := [(3, .int (nI (q - 1))), (6, .int (nI 1)), (5, .int (nI 0)), (4, .int (nI k)), (0, .ref y), (1, .int (nI a)), (2, .int (nI pb))]) hx hb dX9_fitting_130 rfl hl (by decide) rfl (fun ls hl => ?_)
                          refine lv_iload hx hb dX9_fitting_131 (lv_at hl 3 rfl) ?_
                          refine lv_iload hx hb dX9_fitting_133 (lv_at hl 2 rfl) ?_
                          refine lv_if_eq (tgt := 142) hx hb dX9_fitting_135 (by decide) (fun c_42 => ?_) (fun c_42 => ?_)
                          · skip
                            refine lv_iconst (v := nI 1) hx hb dX9_fitting_142 (by decide) ?_
                            refine lv_iadd hx hb dX9_fitting_143 ?_
                            refine ah_toi (v := nI (k + 1)) (nI_add _ _) ?_
                            refine lv_istore (lv' := [(4, .int (nI (k + 1))), (3, .int (nI (q - 1))), (6, .int (nI 1)), (5, .int (nI 0)), (0, .ref y), (1, .int (nI a)), (2, .int (nI pb))]) hx hb dX9_fitting_144 hl (by decide) rfl (fun ls hl => ?_)
                            refine lv_goto (tgt := 16) hx hb dX9_fitting_146 (by decide) ?_
                            exact ih16  (k + 1) (q - 1) _ _ ls (by omega) (by omega) (by omega) (by omega) (fun z9 => Or.inl (fun q9 => nl (by rw [show k + 1 = a + 67 by omega]; exact q9.2))) fy fa1 fa2 fa4 hR hS (lv_sub hl [0, 1, 4, 5, 6] rfl)
                          · skip
                            exact absurd (by decide) c_42
                        · skip
                          have c_41 : ¬ (1 ≤ q) := fun z9 => c_41 ((nI_leI (by omega) (by omega)).mpr z9)
                          refine lv_iload hx hb dX9_fitting_121 (lv_at hl 2 rfl) ?_
                          refine lv_iload_n hx hb dX9_fitting_123 rfl (lv_at hl 5 rfl) ?_
                          refine lv_isub hx hb dX9_fitting_124 ?_
                          refine ah_toi (v := nI (k - a)) (pk_sub (by omega)) ?_
                          refine ah_iret (v := nI (k - a)) hx hb hr hlocks hR hS dX9_fitting_125 ?_
                          exact ⟨by rw [tEnd_p hp0, pF_1 hq (by omega) (by omega) h66], rfl⟩
                      · skip
                        exact absurd (by decide) c_40
                  · skip
                    have c_38 : ¬ ((if loP (tx (k + 1)) then 1 else 0) = 0) := fun z9 => c_38 ((zi_eq (by omega)).mpr z9)
                    have yl := if10t c_38
                    refine lv_iconst (v := nI 1) hx hb dX9_fitting_68 (by decide) ?_
                    refine lv_goto (tgt := 73) hx hb dX9_fitting_69 (by decide) ?_
                    refine lv_istore (lv' := [(5, .int (nI 1)), (4, .int (nI k)), (3, .int (nI q)), (0, .ref y), (1, .int (nI a)), (2, .int (nI pb))]) hx hb dX9_fitting_73 hl (by decide) rfl (fun ls hl => ?_)
                    refine lv_iload_n hx hb dX9_fitting_75 rfl (lv_at hl 5 rfl) ?_
                    refine lv_if_eq (tgt := 92) hx hb dX9_fitting_76 (by decide) (fun c_43 => ?_) (fun c_43 => ?_)
                    · skip
                      have c_43 : pb = 0 := (zi_eq (by omega)).mp c_43
                      exact absurd c_43 hp0
                    · skip
                      have c_43 : ¬ (pb = 0) := fun z9 => c_43 ((zi_eq (by omega)).mpr z9)
                      refine lv_iload hx hb dX9_fitting_79 (lv_at hl 0 rfl) ?_
                      refine lv_if_eq (tgt := 88) hx hb dX9_fitting_81 (by decide) (fun c_44 => ?_) (fun c_44 => ?_)
                      · skip
                        exact absurd c_44 (by decide)
                      · skip
                        refine lv_iconst (v := nI 2) hx hb dX9_fitting_84 (by decide) ?_
                        refine lv_goto (tgt := 113) hx hb dX9_fitting_85 (by decide) ?_
                        refine lv_istore (lv' := [(6, .int (nI 2)), (5, .int (nI 1)), (4, .int (nI k)), (3, .int (nI q)), (0, .ref y), (1, .int (nI a)), (2, .int (nI pb))]) hx hb dX9_fitting_113 hl (by decide) rfl (fun ls hl => ?_)
                        refine lv_iload hx hb dX9_fitting_115 (lv_at hl 0 rfl) ?_
                        refine lv_iload_n hx hb dX9_fitting_117 rfl (lv_at hl 3 rfl) ?_
                        refine lv_icmp_le (tgt := 126) hx hb dX9_fitting_118 (by decide) (fun c_45 => ?_) (fun c_45 => ?_)
                        · skip
                          have c_45 : 2 ≤ q := (nI_leI (by omega) (by omega)).mp c_45
                          refine lv_iload_n hx hb dX9_fitting_126 rfl (lv_at hl 3 rfl) ?_
                          refine lv_iload hx hb dX9_fitting_127 (lv_at hl 0 rfl) ?_
                          refine lv_isub hx hb dX9_fitting_129 ?_
                          refine ah_toi (v := nI (q - 2)) (pk_sub (by omega)) ?_
                          refine lv_istore_n (lv' := [(3, .int (nI (q - 2))), (6, .int (nI 2)), (5, .int (nI 1)), (4, .int (nI k)), (0, .ref y), (1, .int (nI a)), (2, .int (nI pb))]) hx hb dX9_fitting_130 rfl hl (by decide) rfl (fun ls hl => ?_)
                          refine lv_iload hx hb dX9_fitting_131 (lv_at hl 3 rfl) ?_
                          refine lv_iload hx hb dX9_fitting_133 (lv_at hl 2 rfl) ?_
                          refine lv_if_eq (tgt := 142) hx hb dX9_fitting_135 (by decide) (fun c_46 => ?_) (fun c_46 => ?_)
                          · skip
                            exact absurd c_46 (by decide)
                          · skip
                            refine lv_iconst (v := nI 2) hx hb dX9_fitting_138 (by decide) ?_
                            refine lv_goto (tgt := 143) hx hb dX9_fitting_139 (by decide) ?_
                            refine lv_iadd hx hb dX9_fitting_143 ?_
                            refine ah_toi (v := nI (k + 2)) (nI_add _ _) ?_
                            refine lv_istore (lv' := [(4, .int (nI (k + 2))), (3, .int (nI (q - 2))), (6, .int (nI 2)), (5, .int (nI 1)), (0, .ref y), (1, .int (nI a)), (2, .int (nI pb))]) hx hb dX9_fitting_144 hl (by decide) rfl (fun ls hl => ?_)
                            refine lv_goto (tgt := 16) hx hb dX9_fitting_146 (by decide) ?_
                            exact ih16  (k + 2) (q - 2) _ _ ls (by omega) (by omega) (by omega) (by omega) (fun z9 => Or.inl (pF_n yl z9)) fy fa1 fa2 fa4 hR hS (lv_sub hl [0, 1, 4, 5, 6] rfl)
                        · skip
                          have c_45 : ¬ (2 ≤ q) := fun z9 => c_45 ((nI_leI (by omega) (by omega)).mpr z9)
                          refine lv_iload hx hb dX9_fitting_121 (lv_at hl 2 rfl) ?_
                          refine lv_iload_n hx hb dX9_fitting_123 rfl (lv_at hl 5 rfl) ?_
                          refine lv_isub hx hb dX9_fitting_124 ?_
                          refine ah_toi (v := nI (k - a)) (pk_sub (by omega)) ?_
                          refine ah_iret (v := nI (k - a)) hx hb hr hlocks hR hS dX9_fitting_125 ?_
                          exact ⟨by rw [tEnd_p hp0, pF_2 hq (by omega) yh yl (by omega) h66], rfl⟩
      exact L16 ((n - a) + 1) a 67 _ _ ls (by omega) (by omega) (by omega) (by omega) (fun z9 => by omega) fy fa1 fa2 fa4 hR hS (lv_sub hl [0, 1, 2, 3, 4] rfl)

theorem pcR_0 {e : Nat → Nat} {n k a : Nat} : pcR e n 0 k a = 0 := rfl
theorem pcR_s {e : Nat → Nat} {n m k a : Nat} : pcR e n (m + 1) k a = if n ≤ a then k else pcR e n m (k + 1) (e a) := rfl
theorem outs_b (f : Nat → Nat) (n : Nat) (pb : Nat) (h : pb = if outs f n = 0 then 0 else 1) : ∀ a, tEnd f n pb a = tEnd f n (outs f n) a := by
  intro a
  unfold tEnd
  by_cases q : outs f n = 0
  · rw [if_pos q] at h; rw [if_pos h, if_pos q]
  · rw [if_neg q] at h; rw [if_neg (by omega), if_neg q]
set_option maxHeartbeats 4000000 in
set_option maxRecDepth 100000 in
theorem c_m_partsOf (l : Launch) (G : ah_G) (h : ah_H) (y : Nat) (A : Nat → Nat) (k0 n rf pm zh lc c pt gv un : Nat) (fy : h y = some (20, .inr (8, mF A k0 n rf pm zh lc c pt gv un))) (fa1 : h (A 1) = some (21, .inl (G.2.2.1 0, 128, .inl plT))) (fa2 : h (A 2) = some (22, .inl (G.2.2.1 0, 128, .inl esT))) (tx : Nat → Nat) (fa4 : h (A 4) = some (24, .inl (G.2.2.1 0, 3000, .inl (nA tx)))) (hn : n ≤ 3000) (hf : ∀ j, tx j < 65536) : Met l yX9_partsOf wsX9_partsOf ({ frames := 2, cells := 0, slots := 0, locals := 49 }) (ah_Pc G [.ref y, .int (if outs tx n = 0 then nI (sumS tx 0 n) else -1)] h) (ah_Qi G (fun v h' => v = nI (prC (tParts tx n (sumS tx 0 n) (outs tx n))) ∧ h' = h)) 0 0 (ah_A G) := by
  refine ah_ofW (cc := cX9_partsOf) (maxL := 5) (ret := (some .int)) (by decide) rfl (Nat.le_of_ble_eq_true rfl) ?_
  intro p e s m below meth cd9 ls hx hb hr hml hown hlocks hname hts hE hR hS hl
  have hown : s.vm.findClass RX9 = some m.cls := hown
  have hl : lv_has ls 5 [(0, .ref y), (1, .int (if outs tx n = 0 then nI (sumS tx 0 n) else -1))] := hl
  have k69 := hts (.fieldLink RX9 69 "TextPartsModel" "count" "I") (by decide +kernel)
  have hinX9 : ∀ w ∈ wsX90, w ∈ wsX9_partsOf := by decide +kernel
  have hsu := sumS_le tx 0 n
  obtain ⟨pb, hpb⟩ : ∃ pb, pb = if outs tx n = 0 then 0 else 1 := ⟨_, rfl⟩
  by_cases ho : outs tx n = 0
  · skip
    rw [if_pos ho] at hpb
    have hl : lv_has ls 5 [(0, .ref y), (1, .int (nI (sumS tx 0 n)))] := by have hl9 := hl; rw [if_pos ho] at hl9; exact hl9
    refine lv_iload_n hx hb dX9_partsOf_0 rfl (lv_at hl 1 rfl) ?_
    refine lv_iconst (v := (-1)) hx hb dX9_partsOf_1 (by decide) ?_
    refine lv_icmp_ne (tgt := 9) hx hb dX9_partsOf_2 (by decide) (fun c_1 => ?_) (fun c_1 => ?_)
    · skip
      refine lv_iconst (v := nI 0) hx hb dX9_partsOf_9 (by decide) ?_
      refine lv_istore_n (lv' := [(2, .int (nI 0)), (0, .ref y), (1, .int (nI (sumS tx 0 n)))]) hx hb dX9_partsOf_10 rfl hl (by decide) rfl (fun ls hl => ?_)
      refine lv_iload_n hx hb dX9_partsOf_11 rfl (lv_at hl 0 rfl) ?_
      refine lv_if_eq (tgt := 27) hx hb dX9_partsOf_12 (by decide) (fun c_2 => ?_) (fun c_2 => ?_)
      · skip
        refine lv_iload_n hx hb dX9_partsOf_27 rfl (lv_at hl 2 rfl) ?_
        refine lv_sipush (v := nI 160) hx hb dX9_partsOf_28 (by decide) ?_
        refine lv_icmp_gt (tgt := 36) hx hb dX9_partsOf_31 (by decide) (fun c_3 => ?_) (fun c_3 => ?_)
        · skip
          have c_3 : 160 < (sumS tx 0 n) := (nI_ltI (by omega) (by omega)).mp c_3
          refine lv_iconst (v := nI 0) hx hb dX9_partsOf_36 (by decide) ?_
          refine lv_istore_n (lv' := [(3, .int (nI 0)), (2, .int (nI 0)), (0, .ref y), (1, .int (nI (sumS tx 0 n)))]) hx hb dX9_partsOf_37 rfl hl (by decide) rfl (fun ls hl => ?_)
          refine lv_iconst (v := nI 0) hx hb dX9_partsOf_38 (by decide) ?_
          refine lv_istore (lv' := [(4, .int (nI 0)), (3, .int (nI 0)), (2, .int (nI 0)), (0, .ref y), (1, .int (nI (sumS tx 0 n)))]) hx hb dX9_partsOf_39 hl (by decide) rfl (fun ls hl => ?_)
          have hej : ∀ a, tEnd tx n 0 a = tEnd tx n (outs tx n) a := outs_b tx n 0 (by rw [if_pos ho])
          have enp : tParts tx n (sumS tx 0 n) (outs tx n) = pcR (tEnd tx n (outs tx n)) n 256 0 0 := if_neg (by unfold aloneP; rw [if_pos ho]; omega)
          have L41 : ∀ (N41 : Nat) (a : Nat) (k : Nat) (H : Heap) (locs : List Loc) (ls : Array Slot), 256 - k < N41 → (a ≤ n) → (k ≤ 256) → (k = 0 → a = 0) → (pcR (tEnd tx n (outs tx n)) n (256 - k) k a = tParts tx n (sumS tx 0 n) (outs tx n)) → (h y = some (20, .inr (8, mF A k0 n rf pm zh lc c pt gv un))) → (h (A 1) = some (21, .inl (G.2.2.1 0, 128, .inl plT))) → (h (A 2) = some (22, .inl (G.2.2.1 0, 128, .inl esT))) → (h (A 4) = some (24, .inl (G.2.2.1 0, 3000, .inl (nA tx)))) → ah_R G h H → va_S (ah_A G) s.heap H locs → lv_has ls 5 [(4, .int (nI a)), (3, .int (nI k)), (0, .ref y), (2, .int (nI 0))] → W p l e ({ frames := 2, cells := 0, slots := 0, locals := 49 }) s m ([.ref y, .int (if outs tx n = 0 then nI (sumS tx 0 n) else -1)] : List Value).toArray below meth cd9 H locs 0 0 (MQ below (ah_Qi G (fun v h' => v = nI (prC (tParts tx n (sumS tx 0 n) (outs tx n))) ∧ h' = h)) ([.ref y, .int (if outs tx n = 0 then nI (sumS tx 0 n) else -1)] : List Value).toArray s 0 0 (ah_A G)) (F0 m 41 ls []) := by
            intro N41
            induction N41 with
            | zero => intro a k  H locs ls hN; exact absurd hN (Nat.not_lt_zero _)
            | succ N41 ih41 =>
              intro a k  H locs ls hN41 ha hk hk0 ep fy fa1 fa2 fa4 hR hS hl
              refine lv_iload hx hb dX9_partsOf_41 (lv_at hl 0 rfl) ?_
              refine lv_aload_n hx hb dX9_partsOf_43 rfl (lv_at hl 2 rfl) ?_
              refine ah_get (ci := 8) (v := .int (nI n)) (C := RX9) (T := TX9) (N := 27) hx hb hE hR hts hinX9 hown fy rfl 3 (by decide) k69 (fun _ h9 => h9) rfl dX9_partsOf_44 ?_
              refine lv_icmp_ge (tgt := 75) hx hb dX9_partsOf_47 (by decide) (fun c_4 => ?_) (fun c_4 => ?_)
              · skip
                have c_4 : n ≤ a := (nI_leI (by omega) (by omega)).mp c_4
                refine lv_iload_n hx hb dX9_partsOf_75 rfl (lv_at hl 1 rfl) ?_
                refine ah_iret (v := nI k) hx hb hr hlocks hR hS dX9_partsOf_76 ?_
                have eq9 : k = prC (tParts tx n (sumS tx 0 n) (outs tx n)) := by
                  rw [← ep]
                  by_cases k6 : k = 256
                  · rw [k6]; rfl
                  · rw [show 256 - k = 256 - (k + 1) + 1 by omega, pcR_s, if_pos (show n ≤ a by omega)]
                    unfold prC
                    by_cases k7 : k = 0
                    · exfalso; have := hk0 k7; omega
                    · rw [if_neg k7]
                exact ⟨by rw [← eq9], rfl⟩
              · skip
                have c_4 : ¬ (n ≤ a) := fun z9 => c_4 ((nI_leI (by omega) (by omega)).mpr z9)
                refine lv_iload_n hx hb dX9_partsOf_50 rfl (lv_at hl 1 rfl) ?_
                refine lv_sipush (v := nI 255) hx hb dX9_partsOf_51 (by decide) ?_
                refine lv_icmp_gt (tgt := 75) hx hb dX9_partsOf_54 (by decide) (fun c_5 => ?_) (fun c_5 => ?_)
                · skip
                  have c_5 : 255 < k := (nI_ltI (by omega) (by omega)).mp c_5
                  refine lv_iload_n hx hb dX9_partsOf_75 rfl (lv_at hl 1 rfl) ?_
                  refine ah_iret (v := nI k) hx hb hr hlocks hR hS dX9_partsOf_76 ?_
                  have eq9 : k = prC (tParts tx n (sumS tx 0 n) (outs tx n)) := by
                    rw [← ep]
                    by_cases k6 : k = 256
                    · rw [k6]; rfl
                    · rw [show 256 - k = 256 - (k + 1) + 1 by omega, pcR_s, if_pos (show n ≤ a by omega)]
                      unfold prC
                      by_cases k7 : k = 0
                      · exfalso; have := hk0 k7; omega
                      · rw [if_neg k7]
                  exact ⟨by rw [← eq9], rfl⟩
                · skip
                  have c_5 : ¬ (255 < k) := fun z9 => c_5 ((nI_ltI (by omega) (by omega)).mpr z9)
                  have htg := tEnd_gm (f := tx) (os := 0) ha
                  refine lv_iload hx hb dX9_partsOf_57 (lv_at hl 0 rfl) ?_
                  refine lv_aload_n hx hb dX9_partsOf_59 rfl (lv_at hl 2 rfl) ?_
                  refine lv_iload hx hb dX9_partsOf_60 (lv_at hl 0 rfl) ?_
                  refine lv_iload_n hx hb dX9_partsOf_62 rfl (lv_at hl 3 rfl) ?_
                  refine ah_calli (va_runV (As := [.int (nI a), .int (nI 0)]) (rest := [.int (nI a)]) ⟨hx, hb, hml, hown, hts⟩ (c_m_fitting l G h y A k0 n rf pm zh lc c pt gv un fy fa1 fa2 tx fa4 hn hf a 0 ha (by decide) (fun _ => outs_0 n ho)) (cwV 2 hts gX9_partsOf_X9_fitting rfl rfl rfl (by decide +kernel) ⟨Nat.le_of_ble_eq_true rfl, Nat.le_of_ble_eq_true rfl⟩) (ah_preV hE hR hS fy rfl) rfl rfl hl.1 rfl (lv_room (Nat.le_of_ble_eq_true rfl)) dX9_partsOf_63 ⟨Nat.le_of_ble_eq_true rfl, Nat.le_of_ble_eq_true rfl⟩) hS (fun r_8 h_6 H locs p_7 hR hS => ?_)
                  obtain ⟨e_9, e_10⟩ := p_7
                  rw [e_10] at hR
                  refine ah_toi e_9 ?_
                  refine lv_iadd hx hb dX9_partsOf_66 ?_
                  refine ah_toi (v := nI (a + (tEnd tx n 0 a - a))) (nI_add _ _) ?_
                  refine lv_istore (lv' := [(4, .int (nI (a + (tEnd tx n 0 a - a)))), (3, .int (nI k)), (0, .ref y), (2, .int (nI 0))]) hx hb dX9_partsOf_67 hl (by decide) rfl (fun ls hl => ?_)
                  refine lv_iinc (v := nI (k + 1)) (lv' := [(3, .int (nI (k + 1))), (4, .int (nI (a + (tEnd tx n 0 a - a)))), (0, .ref y), (2, .int (nI 0))]) hx hb dX9_partsOf_69 hl (k := 1) rfl (show nI k + Int32.ofInt 1 = nI (k + 1) from nI_add _ 1) (by decide) rfl (fun ls hl => ?_)
                  refine lv_goto (tgt := 41) hx hb dX9_partsOf_72 (by decide) ?_
                  exact ih41  (a + (tEnd tx n 0 a - a)) (k + 1) _ _ ls (by omega) (by omega) (by omega) (fun z9 => by omega) (by rw [← ep, show 256 - k = 256 - (k + 1) + 1 by omega, pcR_s, if_neg (by omega), ← hej, show a + (tEnd tx n 0 a - a) = tEnd tx n 0 a by omega]) fy fa1 fa2 fa4 hR hS (lv_sub hl [1, 0, 2, 3] rfl)
          exact L41 ((256 - 0) + 1) 0 0 _ _ ls (by omega) (by omega) (by omega) (fun _ => rfl) enp.symm fy fa1 fa2 fa4 hR hS (lv_sub hl [0, 1, 3, 2] rfl)
        · skip
          have c_3 : ¬ (160 < (sumS tx 0 n)) := fun z9 => c_3 ((nI_ltI (by omega) (by omega)).mpr z9)
          refine lv_iconst (v := nI 1) hx hb dX9_partsOf_34 (by decide) ?_
          refine ah_iret (v := nI 1) hx hb hr hlocks hR hS dX9_partsOf_35 ?_
          have e1 : tParts tx n (sumS tx 0 n) (outs tx n) = 1 := if_pos (by unfold aloneP; rw [if_pos ho]; omega)
          exact ⟨by rw [e1]; rfl, rfl⟩
      · skip
        exact absurd (by decide) c_2
    · skip
      exact absurd c_1 (zi_ne (by omega))
  · skip
    rw [if_neg ho] at hpb
    have hl : lv_has ls 5 [(0, .ref y), (1, .int (-1))] := by have hl9 := hl; rw [if_neg ho] at hl9; exact hl9
    refine lv_iload_n hx hb dX9_partsOf_0 rfl (lv_at hl 1 rfl) ?_
    refine lv_iconst (v := (-1)) hx hb dX9_partsOf_1 (by decide) ?_
    refine lv_icmp_ne (tgt := 9) hx hb dX9_partsOf_2 (by decide) (fun c_11 => ?_) (fun c_11 => ?_)
    · skip
      exact absurd rfl c_11
    · skip
      refine lv_iconst (v := nI 1) hx hb dX9_partsOf_5 (by decide) ?_
      refine lv_goto (tgt := 10) hx hb dX9_partsOf_6 (by decide) ?_
      refine lv_istore_n (lv' := [(2, .int (nI 1)), (0, .ref y), (1, .int (-1))]) hx hb dX9_partsOf_10 rfl hl (by decide) rfl (fun ls hl => ?_)
      refine lv_iload_n hx hb dX9_partsOf_11 rfl (lv_at hl 0 rfl) ?_
      refine lv_if_eq (tgt := 27) hx hb dX9_partsOf_12 (by decide) (fun c_12 => ?_) (fun c_12 => ?_)
      · skip
        exact absurd c_12 (by decide)
      · skip
        refine lv_aload_n hx hb dX9_partsOf_15 rfl (lv_at hl 1 rfl) ?_
        refine ah_get (ci := 8) (v := .int (nI n)) (C := RX9) (T := TX9) (N := 27) hx hb hE hR hts hinX9 hown fy rfl 3 (by decide) k69 (fun _ h9 => h9) rfl dX9_partsOf_16 ?_
        refine lv_bipush (v := nI 70) hx hb dX9_partsOf_19 (by decide) ?_
        refine lv_icmp_gt (tgt := 36) hx hb dX9_partsOf_21 (by decide) (fun c_13 => ?_) (fun c_13 => ?_)
        · skip
          have c_13 : 70 < n := (nI_ltI (by omega) (by omega)).mp c_13
          refine lv_iconst (v := nI 0) hx hb dX9_partsOf_36 (by decide) ?_
          refine lv_istore_n (lv' := [(3, .int (nI 0)), (2, .int (nI 1)), (0, .ref y), (1, .int (-1))]) hx hb dX9_partsOf_37 rfl hl (by decide) rfl (fun ls hl => ?_)
          refine lv_iconst (v := nI 0) hx hb dX9_partsOf_38 (by decide) ?_
          refine lv_istore (lv' := [(4, .int (nI 0)), (3, .int (nI 0)), (2, .int (nI 1)), (0, .ref y), (1, .int (-1))]) hx hb dX9_partsOf_39 hl (by decide) rfl (fun ls hl => ?_)
          have hej : ∀ a, tEnd tx n 1 a = tEnd tx n (outs tx n) a := outs_b tx n 1 (by rw [if_neg ho])
          have enp : tParts tx n (sumS tx 0 n) (outs tx n) = pcR (tEnd tx n (outs tx n)) n 256 0 0 := if_neg (by unfold aloneP; rw [if_neg ho]; omega)
          have L41 : ∀ (N41 : Nat) (a : Nat) (k : Nat) (H : Heap) (locs : List Loc) (ls : Array Slot), 256 - k < N41 → (a ≤ n) → (k ≤ 256) → (k = 0 → a = 0) → (pcR (tEnd tx n (outs tx n)) n (256 - k) k a = tParts tx n (sumS tx 0 n) (outs tx n)) → (h y = some (20, .inr (8, mF A k0 n rf pm zh lc c pt gv un))) → (h (A 1) = some (21, .inl (G.2.2.1 0, 128, .inl plT))) → (h (A 2) = some (22, .inl (G.2.2.1 0, 128, .inl esT))) → (h (A 4) = some (24, .inl (G.2.2.1 0, 3000, .inl (nA tx)))) → ah_R G h H → va_S (ah_A G) s.heap H locs → lv_has ls 5 [(4, .int (nI a)), (3, .int (nI k)), (0, .ref y), (2, .int (nI 1))] → W p l e ({ frames := 2, cells := 0, slots := 0, locals := 49 }) s m ([.ref y, .int (if outs tx n = 0 then nI (sumS tx 0 n) else -1)] : List Value).toArray below meth cd9 H locs 0 0 (MQ below (ah_Qi G (fun v h' => v = nI (prC (tParts tx n (sumS tx 0 n) (outs tx n))) ∧ h' = h)) ([.ref y, .int (if outs tx n = 0 then nI (sumS tx 0 n) else -1)] : List Value).toArray s 0 0 (ah_A G)) (F0 m 41 ls []) := by
            intro N41
            induction N41 with
            | zero => intro a k  H locs ls hN; exact absurd hN (Nat.not_lt_zero _)
            | succ N41 ih41 =>
              intro a k  H locs ls hN41 ha hk hk0 ep fy fa1 fa2 fa4 hR hS hl
              refine lv_iload hx hb dX9_partsOf_41 (lv_at hl 0 rfl) ?_
              refine lv_aload_n hx hb dX9_partsOf_43 rfl (lv_at hl 2 rfl) ?_
              refine ah_get (ci := 8) (v := .int (nI n)) (C := RX9) (T := TX9) (N := 27) hx hb hE hR hts hinX9 hown fy rfl 3 (by decide) k69 (fun _ h9 => h9) rfl dX9_partsOf_44 ?_
              refine lv_icmp_ge (tgt := 75) hx hb dX9_partsOf_47 (by decide) (fun c_14 => ?_) (fun c_14 => ?_)
              · skip
                have c_14 : n ≤ a := (nI_leI (by omega) (by omega)).mp c_14
                refine lv_iload_n hx hb dX9_partsOf_75 rfl (lv_at hl 1 rfl) ?_
                refine ah_iret (v := nI k) hx hb hr hlocks hR hS dX9_partsOf_76 ?_
                have eq9 : k = prC (tParts tx n (sumS tx 0 n) (outs tx n)) := by
                  rw [← ep]
                  by_cases k6 : k = 256
                  · rw [k6]; rfl
                  · rw [show 256 - k = 256 - (k + 1) + 1 by omega, pcR_s, if_pos (show n ≤ a by omega)]
                    unfold prC
                    by_cases k7 : k = 0
                    · exfalso; have := hk0 k7; omega
                    · rw [if_neg k7]
                exact ⟨by rw [← eq9], rfl⟩
              · skip
                have c_14 : ¬ (n ≤ a) := fun z9 => c_14 ((nI_leI (by omega) (by omega)).mpr z9)
                refine lv_iload_n hx hb dX9_partsOf_50 rfl (lv_at hl 1 rfl) ?_
                refine lv_sipush (v := nI 255) hx hb dX9_partsOf_51 (by decide) ?_
                refine lv_icmp_gt (tgt := 75) hx hb dX9_partsOf_54 (by decide) (fun c_15 => ?_) (fun c_15 => ?_)
                · skip
                  have c_15 : 255 < k := (nI_ltI (by omega) (by omega)).mp c_15
                  refine lv_iload_n hx hb dX9_partsOf_75 rfl (lv_at hl 1 rfl) ?_
                  refine ah_iret (v := nI k) hx hb hr hlocks hR hS dX9_partsOf_76 ?_
                  have eq9 : k = prC (tParts tx n (sumS tx 0 n) (outs tx n)) := by
                    rw [← ep]
                    by_cases k6 : k = 256
                    · rw [k6]; rfl
                    · rw [show 256 - k = 256 - (k + 1) + 1 by omega, pcR_s, if_pos (show n ≤ a by omega)]
                      unfold prC
                      by_cases k7 : k = 0
                      · exfalso; have := hk0 k7; omega
                      · rw [if_neg k7]
                  exact ⟨by rw [← eq9], rfl⟩
                · skip
                  have c_15 : ¬ (255 < k) := fun z9 => c_15 ((nI_ltI (by omega) (by omega)).mpr z9)
                  have htg := tEnd_gm (f := tx) (os := 1) ha
                  refine lv_iload hx hb dX9_partsOf_57 (lv_at hl 0 rfl) ?_
                  refine lv_aload_n hx hb dX9_partsOf_59 rfl (lv_at hl 2 rfl) ?_
                  refine lv_iload hx hb dX9_partsOf_60 (lv_at hl 0 rfl) ?_
                  refine lv_iload_n hx hb dX9_partsOf_62 rfl (lv_at hl 3 rfl) ?_
                  refine ah_calli (va_runV (As := [.int (nI a), .int (nI 1)]) (rest := [.int (nI a)]) ⟨hx, hb, hml, hown, hts⟩ (c_m_fitting l G h y A k0 n rf pm zh lc c pt gv un fy fa1 fa2 tx fa4 hn hf a 1 ha (by decide) (fun z9 => absurd z9 (by decide))) (cwV 2 hts gX9_partsOf_X9_fitting rfl rfl rfl (by decide +kernel) ⟨Nat.le_of_ble_eq_true rfl, Nat.le_of_ble_eq_true rfl⟩) (ah_preV hE hR hS fy rfl) rfl rfl hl.1 rfl (lv_room (Nat.le_of_ble_eq_true rfl)) dX9_partsOf_63 ⟨Nat.le_of_ble_eq_true rfl, Nat.le_of_ble_eq_true rfl⟩) hS (fun r_18 h_16 H locs p_17 hR hS => ?_)
                  obtain ⟨e_19, e_20⟩ := p_17
                  rw [e_20] at hR
                  refine ah_toi e_19 ?_
                  refine lv_iadd hx hb dX9_partsOf_66 ?_
                  refine ah_toi (v := nI (a + (tEnd tx n 1 a - a))) (nI_add _ _) ?_
                  refine lv_istore (lv' := [(4, .int (nI (a + (tEnd tx n 1 a - a)))), (3, .int (nI k)), (0, .ref y), (2, .int (nI 1))]) hx hb dX9_partsOf_67 hl (by decide) rfl (fun ls hl => ?_)
                  refine lv_iinc (v := nI (k + 1)) (lv' := [(3, .int (nI (k + 1))), (4, .int (nI (a + (tEnd tx n 1 a - a)))), (0, .ref y), (2, .int (nI 1))]) hx hb dX9_partsOf_69 hl (k := 1) rfl (show nI k + Int32.ofInt 1 = nI (k + 1) from nI_add _ 1) (by decide) rfl (fun ls hl => ?_)
                  refine lv_goto (tgt := 41) hx hb dX9_partsOf_72 (by decide) ?_
                  exact ih41  (a + (tEnd tx n 1 a - a)) (k + 1) _ _ ls (by omega) (by omega) (by omega) (fun z9 => by omega) (by rw [← ep, show 256 - k = 256 - (k + 1) + 1 by omega, pcR_s, if_neg (by omega), ← hej, show a + (tEnd tx n 1 a - a) = tEnd tx n 1 a by omega]) fy fa1 fa2 fa4 hR hS (lv_sub hl [1, 0, 2, 3] rfl)
          exact L41 ((256 - 0) + 1) 0 0 _ _ ls (by omega) (by omega) (by omega) (fun _ => rfl) enp.symm fy fa1 fa2 fa4 hR hS (lv_sub hl [0, 1, 3, 2] rfl)
        · skip
          have c_13 : ¬ (70 < n) := fun z9 => c_13 ((nI_ltI (by omega) (by omega)).mpr z9)
          refine lv_goto (tgt := 34) hx hb dX9_partsOf_24 (by decide) ?_
          refine lv_iconst (v := nI 1) hx hb dX9_partsOf_34 (by decide) ?_
          refine ah_iret (v := nI 1) hx hb hr hlocks hR hS dX9_partsOf_35 ?_
          have e1 : tParts tx n (sumS tx 0 n) (outs tx n) = 1 := if_pos (by unfold aloneP; rw [if_neg ho]; omega)
          exact ⟨by rw [e1]; rfl, rfl⟩

set_option maxHeartbeats 4000000 in
set_option maxRecDepth 100000 in
theorem c_m_about0 (l : Launch) (G : ah_G) (h : ah_H) (y : Nat) (A : Nat → Nat) (k0 n rf pm zh lc c pt gv un : Nat) (fy : h y = some (20, .inr (8, mF A k0 n rf pm zh lc c pt gv un))) (fa1 : h (A 1) = some (21, .inl (G.2.2.1 0, 128, .inl plT))) (fa2 : h (A 2) = some (22, .inl (G.2.2.1 0, 128, .inl esT))) (tx : Nat → Nat) (fa4 : h (A 4) = some (24, .inl (G.2.2.1 0, 3000, .inl (nA tx)))) (hn : n ≤ 3000) (hf : ∀ j, tx j < 65536) : Met l yX9_about wsX9_about ({ frames := 3, cells := 0, slots := 0, locals := 73 }) (ah_Pc G [.ref y, .int (nI 0)] h) (ah_Qi G (fun v h' => v = (if outs tx n = 0 then nI (sumS tx 0 n) else -1) ∧ h' = ah_up h y (20, .inr (8, mF A 0 n rf pm zh lc c pt gv un)))) 0 0 (ah_A G) := by
  refine ah_ofW (cc := cX9_about) (maxL := 3) (ret := (some .int)) (by decide) rfl (Nat.le_of_ble_eq_true rfl) ?_
  intro p e s m below meth cd9 ls hx hb hr hml hown hlocks hname hts hE hR hS hl
  have hown : s.vm.findClass RX9 = some m.cls := hown
  have hl : lv_has ls 3 [(0, .ref y), (1, .int (nI 0))] := hl
  refine lv_aload_n hx hb dX9_about_0 rfl (lv_at hl 0 rfl) ?_
  refine lv_iload_n hx hb dX9_about_1 rfl (lv_at hl 1 rfl) ?_
  refine lv_if_lt (tgt := 11) hx hb dX9_about_2 (by decide) (fun c_1 => ?_) (fun c_1 => ?_)
  · skip
    exact absurd c_1 (nI_pos (by omega))
  · skip
    refine lv_iload_n hx hb dX9_about_5 rfl (lv_at hl 1 rfl) ?_
    refine lv_bipush (v := nI 7) hx hb dX9_about_6 (by decide) ?_
    refine lv_icmp_le (tgt := 15) hx hb dX9_about_8 (by decide) (fun c_2 => ?_) (fun c_2 => ?_)
    · skip
      have c_2 : 0 ≤ 7 := (nI_leI (by omega) (by omega)).mp c_2
      refine lv_iconst (v := nI 0) hx hb dX9_about_15 (by decide) ?_
      refine ah_calli (va_runV (As := [.int (nI 0)]) (rest := []) ⟨hx, hb, hml, hown, hts⟩ (c_m_refuses l G h y A k0 n rf pm zh lc c pt gv un fy 0 (by decide)) (cwV 1 hts gX9_about_X9_refuses rfl rfl rfl (by decide +kernel) ⟨Nat.le_of_ble_eq_true rfl, Nat.le_of_ble_eq_true rfl⟩) (ah_preV hE hR hS fy rfl) rfl rfl hl.1 rfl (lv_room (Nat.le_of_ble_eq_true rfl)) dX9_about_16 ⟨Nat.le_of_ble_eq_true rfl, Nat.le_of_ble_eq_true rfl⟩) hS (fun r_5 h_3 H locs p_4 hR hS => ?_)
      obtain ⟨e_6, e_7⟩ := p_4
      have f_8 : h_3 y = some (20, .inr (8, mF A 0 n rf pm zh lc c pt gv un)) := by rw [e_7]; exact ah_up_s _ _ _
      have f_9 : h_3 (A 1) = some (21, .inl (G.2.2.1 0, 128, .inl plT)) := by rw [e_7]; exact ah_keep fa1 fy (by omega)
      have f_10 : h_3 (A 2) = some (22, .inl (G.2.2.1 0, 128, .inl esT)) := by rw [e_7]; exact ah_keep fa2 fy (by omega)
      have f_11 : h_3 (A 4) = some (24, .inl (G.2.2.1 0, 3000, .inl (nA tx))) := by rw [e_7]; exact ah_keep fa4 fy (by omega)
      refine ah_toi (v := nI 0) (by rw [e_6]; rfl) ?_
      refine lv_if_eq (tgt := 24) hx hb dX9_about_19 (by decide) (fun c_12 => ?_) (fun c_12 => ?_)
      · skip
        refine lv_iload_n hx hb dX9_about_24 rfl (lv_at hl 1 rfl) ?_
        refine lv_iconst (v := nI 1) hx hb dX9_about_25 (by decide) ?_
        refine lv_icmp_ne (tgt := 40) hx hb dX9_about_26 (by decide) (fun c_13 => ?_) (fun c_13 => ?_)
        · skip
          refine lv_iconst (v := nI 0) hx hb dX9_about_40 (by decide) ?_
          refine lv_istore_n (lv' := [(2, .int (nI 0)), (0, .ref y), (1, .int (nI 0))]) hx hb dX9_about_41 rfl hl (by decide) rfl (fun ls hl => ?_)
          refine lv_iload_n hx hb dX9_about_42 rfl (lv_at hl 2 rfl) ?_
          refine lv_tableIn (off := 41) (tgt := 84) hx hb dX9_about_43 (by decide) (by decide) rfl (by decide) ?_
          refine lv_aload_n hx hb dX9_about_84 rfl (lv_at hl 1 rfl) ?_
          refine ah_calli (va_runV (As := []) (rest := []) ⟨hx, hb, hml, hown, hts⟩ (c_m_sevens l G h_3 y A 0 n rf pm zh lc c pt gv un f_8 f_9 f_10 tx f_11 hn hf) (cwV 0 hts gX9_about_X9_sevens rfl rfl rfl (by decide +kernel) ⟨Nat.le_of_ble_eq_true rfl, Nat.le_of_ble_eq_true rfl⟩) (ah_preV hE hR hS f_8 rfl) rfl rfl hl.1 rfl (lv_room (Nat.le_of_ble_eq_true rfl)) dX9_about_85 ⟨Nat.le_of_ble_eq_true rfl, Nat.le_of_ble_eq_true rfl⟩) hS (fun r_16 h_14 H locs p_15 hR hS => ?_)
          obtain ⟨e_17, e_18⟩ := p_15
          rw [e_18] at hR
          refine ah_toi e_17 ?_
          refine ah_iret (v := (if outs tx n = 0 then nI (sumS tx 0 n) else -1)) hx hb hr hlocks hR hS dX9_about_88 ?_
          exact ⟨rfl, e_7⟩
        · skip
          exact absurd c_13 (by decide)
      · skip
        exact absurd (by decide) c_12
    · skip
      have c_2 : ¬ (0 ≤ 7) := fun z9 => c_2 ((nI_leI (by omega) (by omega)).mpr z9)
      exact absurd (by decide) c_2

set_option maxHeartbeats 4000000 in
set_option maxRecDepth 100000 in
theorem c_m_about1 (l : Launch) (G : ah_G) (h : ah_H) (y : Nat) (A : Nat → Nat) (k0 n rf pm zh lc c pt gv un : Nat) (fy : h y = some (20, .inr (8, mF A k0 n rf pm zh lc c pt gv un))) (fa1 : h (A 1) = some (21, .inl (G.2.2.1 0, 128, .inl plT))) (fa2 : h (A 2) = some (22, .inl (G.2.2.1 0, 128, .inl esT))) (tx : Nat → Nat) (fa4 : h (A 4) = some (24, .inl (G.2.2.1 0, 3000, .inl (nA tx)))) (hn : n ≤ 3000) (hf : ∀ j, tx j < 65536) : Met l yX9_about wsX9_about ({ frames := 3, cells := 0, slots := 0, locals := 73 }) (ah_Pc G [.ref y, .int (nI 1)] h) (ah_Qi G (fun v h' => v = nI (tParts tx n (sumS tx 0 n) (outs tx n)) ∧ h' = ah_up h y (20, .inr (8, mF A 0 n rf pm zh lc c pt gv un)))) 0 0 (ah_A G) := by
  refine ah_ofW (cc := cX9_about) (maxL := 3) (ret := (some .int)) (by decide) rfl (Nat.le_of_ble_eq_true rfl) ?_
  intro p e s m below meth cd9 ls hx hb hr hml hown hlocks hname hts hE hR hS hl
  have hown : s.vm.findClass RX9 = some m.cls := hown
  have hl : lv_has ls 3 [(0, .ref y), (1, .int (nI 1))] := hl
  refine lv_aload_n hx hb dX9_about_0 rfl (lv_at hl 0 rfl) ?_
  refine lv_iload_n hx hb dX9_about_1 rfl (lv_at hl 1 rfl) ?_
  refine lv_if_lt (tgt := 11) hx hb dX9_about_2 (by decide) (fun c_1 => ?_) (fun c_1 => ?_)
  · skip
    exact absurd c_1 (nI_pos (by omega))
  · skip
    refine lv_iload_n hx hb dX9_about_5 rfl (lv_at hl 1 rfl) ?_
    refine lv_bipush (v := nI 7) hx hb dX9_about_6 (by decide) ?_
    refine lv_icmp_le (tgt := 15) hx hb dX9_about_8 (by decide) (fun c_2 => ?_) (fun c_2 => ?_)
    · skip
      have c_2 : 1 ≤ 7 := (nI_leI (by omega) (by omega)).mp c_2
      refine lv_iconst (v := nI 0) hx hb dX9_about_15 (by decide) ?_
      refine ah_calli (va_runV (As := [.int (nI 0)]) (rest := []) ⟨hx, hb, hml, hown, hts⟩ (c_m_refuses l G h y A k0 n rf pm zh lc c pt gv un fy 0 (by decide)) (cwV 1 hts gX9_about_X9_refuses rfl rfl rfl (by decide +kernel) ⟨Nat.le_of_ble_eq_true rfl, Nat.le_of_ble_eq_true rfl⟩) (ah_preV hE hR hS fy rfl) rfl rfl hl.1 rfl (lv_room (Nat.le_of_ble_eq_true rfl)) dX9_about_16 ⟨Nat.le_of_ble_eq_true rfl, Nat.le_of_ble_eq_true rfl⟩) hS (fun r_5 h_3 H locs p_4 hR hS => ?_)
      obtain ⟨e_6, e_7⟩ := p_4
      have f_8 : h_3 y = some (20, .inr (8, mF A 0 n rf pm zh lc c pt gv un)) := by rw [e_7]; exact ah_up_s _ _ _
      have f_9 : h_3 (A 1) = some (21, .inl (G.2.2.1 0, 128, .inl plT)) := by rw [e_7]; exact ah_keep fa1 fy (by omega)
      have f_10 : h_3 (A 2) = some (22, .inl (G.2.2.1 0, 128, .inl esT)) := by rw [e_7]; exact ah_keep fa2 fy (by omega)
      have f_11 : h_3 (A 4) = some (24, .inl (G.2.2.1 0, 3000, .inl (nA tx))) := by rw [e_7]; exact ah_keep fa4 fy (by omega)
      refine ah_toi (v := nI 0) (by rw [e_6]; rfl) ?_
      refine lv_if_eq (tgt := 24) hx hb dX9_about_19 (by decide) (fun c_12 => ?_) (fun c_12 => ?_)
      · skip
        refine lv_iload_n hx hb dX9_about_24 rfl (lv_at hl 1 rfl) ?_
        refine lv_iconst (v := nI 1) hx hb dX9_about_25 (by decide) ?_
        refine lv_icmp_ne (tgt := 40) hx hb dX9_about_26 (by decide) (fun c_13 => ?_) (fun c_13 => ?_)
        · skip
          exact absurd (by decide) c_13
        · skip
          refine lv_aload_n hx hb dX9_about_29 rfl (lv_at hl 0 rfl) ?_
          refine lv_aload_n hx hb dX9_about_30 rfl (lv_at hl 0 rfl) ?_
          refine ah_calli (va_runV (As := []) (rest := [.ref y]) ⟨hx, hb, hml, hown, hts⟩ (c_m_sevens l G h_3 y A 0 n rf pm zh lc c pt gv un f_8 f_9 f_10 tx f_11 hn hf) (cwV 0 hts gX9_about_X9_sevens rfl rfl rfl (by decide +kernel) ⟨Nat.le_of_ble_eq_true rfl, Nat.le_of_ble_eq_true rfl⟩) (ah_preV hE hR hS f_8 rfl) rfl rfl hl.1 rfl (lv_room (Nat.le_of_ble_eq_true rfl)) dX9_about_31 ⟨Nat.le_of_ble_eq_true rfl, Nat.le_of_ble_eq_true rfl⟩) hS (fun r_16 h_14 H locs p_15 hR hS => ?_)
          obtain ⟨e_17, e_18⟩ := p_15
          rw [e_18] at hR
          refine ah_toi e_17 ?_
          refine ah_calli (va_runV (As := [.int (if outs tx n = 0 then nI (sumS tx 0 n) else -1)]) (rest := []) ⟨hx, hb, hml, hown, hts⟩ (c_m_partsOf l G h_3 y A 0 n rf pm zh lc c pt gv un f_8 f_9 f_10 tx f_11 hn hf) (cwV 1 hts gX9_about_X9_partsOf rfl rfl rfl (by decide +kernel) ⟨Nat.le_of_ble_eq_true rfl, Nat.le_of_ble_eq_true rfl⟩) (ah_preV hE hR hS f_8 rfl) rfl rfl hl.1 rfl (lv_room (Nat.le_of_ble_eq_true rfl)) dX9_about_34 ⟨Nat.le_of_ble_eq_true rfl, Nat.le_of_ble_eq_true rfl⟩) hS (fun r_21 h_19 H locs p_20 hR hS => ?_)
          obtain ⟨e_22, e_23⟩ := p_20
          rw [e_23] at hR
          refine ah_toi e_22 ?_
          have hP9 := tParts_le tx n (sumS tx 0 n) (outs tx n)
          have hP8 : prC (tParts tx n (sumS tx 0 n) (outs tx n)) ≤ 256 := by unfold prC; split <;> omega
          refine lv_goto (tgt := 41) hx hb dX9_about_37 (by decide) ?_
          refine lv_istore_n (lv' := [(2, .int (nI (prC (tParts tx n (sumS tx 0 n) (outs tx n))))), (0, .ref y), (1, .int (nI 1))]) hx hb dX9_about_41 rfl hl (by decide) rfl (fun ls hl => ?_)
          refine lv_iload_n hx hb dX9_about_42 rfl (lv_at hl 2 rfl) ?_
          refine lv_tableIn (off := 46) (tgt := 89) hx hb dX9_about_43 (by decide) (by decide) rfl (by decide) ?_
          refine lv_iload_n hx hb dX9_about_89 rfl (lv_at hl 0 rfl) ?_
          refine lv_sipush (v := nI 255) hx hb dX9_about_90 (by decide) ?_
          refine lv_icmp_le (tgt := 100) hx hb dX9_about_93 (by decide) (fun c_24 => ?_) (fun c_24 => ?_)
          · skip
            have c_24 : (prC (tParts tx n (sumS tx 0 n) (outs tx n))) ≤ 255 := (nI_leI (by omega) (by omega)).mp c_24
            refine lv_iload_n hx hb dX9_about_100 rfl (lv_at hl 0 rfl) ?_
            refine ah_iret (v := nI (prC (tParts tx n (sumS tx 0 n) (outs tx n)))) hx hb hr hlocks hR hS dX9_about_101 ?_
            exact ⟨by rw [prC_le c_24], e_7⟩
          · skip
            have c_24 : ¬ ((prC (tParts tx n (sumS tx 0 n) (outs tx n))) ≤ 255) := fun z9 => c_24 ((nI_leI (by omega) (by omega)).mpr z9)
            refine lv_iconst (v := nI 0) hx hb dX9_about_96 (by decide) ?_
            refine lv_goto (tgt := 101) hx hb dX9_about_97 (by decide) ?_
            refine ah_iret (v := nI 0) hx hb hr hlocks hR hS dX9_about_101 ?_
            exact ⟨by rw [← prC_gt c_24 hP9], e_7⟩
      · skip
        exact absurd (by decide) c_12
    · skip
      have c_2 : ¬ (1 ≤ 7) := fun z9 => c_2 ((nI_leI (by omega) (by omega)).mpr z9)
      exact absurd (by decide) c_2

set_option maxHeartbeats 4000000 in
set_option maxRecDepth 100000 in
theorem c_m_about2 (l : Launch) (G : ah_G) (h : ah_H) (y : Nat) (A : Nat → Nat) (k0 n rf pm zh lc c pt gv un : Nat) (fy : h y = some (20, .inr (8, mF A k0 n rf pm zh lc c pt gv un))) (fa1 : h (A 1) = some (21, .inl (G.2.2.1 0, 128, .inl plT))) (fa2 : h (A 2) = some (22, .inl (G.2.2.1 0, 128, .inl esT))) (tx : Nat → Nat) (fa4 : h (A 4) = some (24, .inl (G.2.2.1 0, 3000, .inl (nA tx)))) (hn : n ≤ 3000) (hf : ∀ j, tx j < 65536) : Met l yX9_about wsX9_about ({ frames := 3, cells := 0, slots := 0, locals := 73 }) (ah_Pc G [.ref y, .int (nI 2)] h) (ah_Qi G (fun v h' => v = nI n ∧ h' = ah_up h y (20, .inr (8, mF A 0 n rf pm zh lc c pt gv un)))) 0 0 (ah_A G) := by
  refine ah_ofW (cc := cX9_about) (maxL := 3) (ret := (some .int)) (by decide) rfl (Nat.le_of_ble_eq_true rfl) ?_
  intro p e s m below meth cd9 ls hx hb hr hml hown hlocks hname hts hE hR hS hl
  have hown : s.vm.findClass RX9 = some m.cls := hown
  have hl : lv_has ls 3 [(0, .ref y), (1, .int (nI 2))] := hl
  have k69 := hts (.fieldLink RX9 69 "TextPartsModel" "count" "I") (by decide +kernel)
  have hinX9 : ∀ w ∈ wsX90, w ∈ wsX9_about := by decide +kernel
  refine lv_aload_n hx hb dX9_about_0 rfl (lv_at hl 0 rfl) ?_
  refine lv_iload_n hx hb dX9_about_1 rfl (lv_at hl 1 rfl) ?_
  refine lv_if_lt (tgt := 11) hx hb dX9_about_2 (by decide) (fun c_1 => ?_) (fun c_1 => ?_)
  · skip
    exact absurd c_1 (nI_pos (by omega))
  · skip
    refine lv_iload_n hx hb dX9_about_5 rfl (lv_at hl 1 rfl) ?_
    refine lv_bipush (v := nI 7) hx hb dX9_about_6 (by decide) ?_
    refine lv_icmp_le (tgt := 15) hx hb dX9_about_8 (by decide) (fun c_2 => ?_) (fun c_2 => ?_)
    · skip
      have c_2 : 2 ≤ 7 := (nI_leI (by omega) (by omega)).mp c_2
      refine lv_iconst (v := nI 0) hx hb dX9_about_15 (by decide) ?_
      refine ah_calli (va_runV (As := [.int (nI 0)]) (rest := []) ⟨hx, hb, hml, hown, hts⟩ (c_m_refuses l G h y A k0 n rf pm zh lc c pt gv un fy 0 (by decide)) (cwV 1 hts gX9_about_X9_refuses rfl rfl rfl (by decide +kernel) ⟨Nat.le_of_ble_eq_true rfl, Nat.le_of_ble_eq_true rfl⟩) (ah_preV hE hR hS fy rfl) rfl rfl hl.1 rfl (lv_room (Nat.le_of_ble_eq_true rfl)) dX9_about_16 ⟨Nat.le_of_ble_eq_true rfl, Nat.le_of_ble_eq_true rfl⟩) hS (fun r_5 h_3 H locs p_4 hR hS => ?_)
      obtain ⟨e_6, e_7⟩ := p_4
      have f_8 : h_3 y = some (20, .inr (8, mF A 0 n rf pm zh lc c pt gv un)) := by rw [e_7]; exact ah_up_s _ _ _
      have f_9 : h_3 (A 1) = some (21, .inl (G.2.2.1 0, 128, .inl plT)) := by rw [e_7]; exact ah_keep fa1 fy (by omega)
      have f_10 : h_3 (A 2) = some (22, .inl (G.2.2.1 0, 128, .inl esT)) := by rw [e_7]; exact ah_keep fa2 fy (by omega)
      have f_11 : h_3 (A 4) = some (24, .inl (G.2.2.1 0, 3000, .inl (nA tx))) := by rw [e_7]; exact ah_keep fa4 fy (by omega)
      refine ah_toi (v := nI 0) (by rw [e_6]; rfl) ?_
      refine lv_if_eq (tgt := 24) hx hb dX9_about_19 (by decide) (fun c_12 => ?_) (fun c_12 => ?_)
      · skip
        refine lv_iload_n hx hb dX9_about_24 rfl (lv_at hl 1 rfl) ?_
        refine lv_iconst (v := nI 1) hx hb dX9_about_25 (by decide) ?_
        refine lv_icmp_ne (tgt := 40) hx hb dX9_about_26 (by decide) (fun c_13 => ?_) (fun c_13 => ?_)
        · skip
          refine lv_iconst (v := nI 0) hx hb dX9_about_40 (by decide) ?_
          refine lv_istore_n (lv' := [(2, .int (nI 0)), (0, .ref y), (1, .int (nI 2))]) hx hb dX9_about_41 rfl hl (by decide) rfl (fun ls hl => ?_)
          refine lv_iload_n hx hb dX9_about_42 rfl (lv_at hl 2 rfl) ?_
          refine lv_tableIn (off := 59) (tgt := 102) hx hb dX9_about_43 (by decide) (by decide) rfl (by decide) ?_
          refine lv_aload_n hx hb dX9_about_102 rfl (lv_at hl 1 rfl) ?_
          refine ah_get (ci := 8) (v := .int (nI n)) (C := RX9) (T := TX9) (N := 27) hx hb hE hR hts hinX9 hown f_8 rfl 3 (by decide) k69 (fun _ h9 => h9) rfl dX9_about_103 ?_
          refine ah_iret (v := nI n) hx hb hr hlocks hR hS dX9_about_106 ?_
          exact ⟨rfl, e_7⟩
        · skip
          exact absurd c_13 (by decide)
      · skip
        exact absurd (by decide) c_12
    · skip
      have c_2 : ¬ (2 ≤ 7) := fun z9 => c_2 ((nI_leI (by omega) (by omega)).mpr z9)
      exact absurd (by decide) c_2

set_option maxHeartbeats 4000000 in
set_option maxRecDepth 100000 in
theorem c_m_about3 (l : Launch) (G : ah_G) (h : ah_H) (y : Nat) (A : Nat → Nat) (k0 n rf pm zh lc c pt gv un : Nat) (fy : h y = some (20, .inr (8, mF A k0 n rf pm zh lc c pt gv un))) (fa1 : h (A 1) = some (21, .inl (G.2.2.1 0, 128, .inl plT))) (fa2 : h (A 2) = some (22, .inl (G.2.2.1 0, 128, .inl esT))) (tx : Nat → Nat) (fa4 : h (A 4) = some (24, .inl (G.2.2.1 0, 3000, .inl (nA tx)))) (hn : n ≤ 3000) (hf : ∀ j, tx j < 65536) : Met l yX9_about wsX9_about ({ frames := 3, cells := 0, slots := 0, locals := 73 }) (ah_Pc G [.ref y, .int (nI 3)] h) (ah_Qi G (fun v h' => v = nI rf ∧ h' = ah_up h y (20, .inr (8, mF A 0 n rf pm zh lc c pt gv un)))) 0 0 (ah_A G) := by
  refine ah_ofW (cc := cX9_about) (maxL := 3) (ret := (some .int)) (by decide) rfl (Nat.le_of_ble_eq_true rfl) ?_
  intro p e s m below meth cd9 ls hx hb hr hml hown hlocks hname hts hE hR hS hl
  have hown : s.vm.findClass RX9 = some m.cls := hown
  have hl : lv_has ls 3 [(0, .ref y), (1, .int (nI 3))] := hl
  have k101 := hts (.fieldLink RX9 101 "TextPartsModel" "reference" "I") (by decide +kernel)
  have hinX9 : ∀ w ∈ wsX90, w ∈ wsX9_about := by decide +kernel
  refine lv_aload_n hx hb dX9_about_0 rfl (lv_at hl 0 rfl) ?_
  refine lv_iload_n hx hb dX9_about_1 rfl (lv_at hl 1 rfl) ?_
  refine lv_if_lt (tgt := 11) hx hb dX9_about_2 (by decide) (fun c_1 => ?_) (fun c_1 => ?_)
  · skip
    exact absurd c_1 (nI_pos (by omega))
  · skip
    refine lv_iload_n hx hb dX9_about_5 rfl (lv_at hl 1 rfl) ?_
    refine lv_bipush (v := nI 7) hx hb dX9_about_6 (by decide) ?_
    refine lv_icmp_le (tgt := 15) hx hb dX9_about_8 (by decide) (fun c_2 => ?_) (fun c_2 => ?_)
    · skip
      have c_2 : 3 ≤ 7 := (nI_leI (by omega) (by omega)).mp c_2
      refine lv_iconst (v := nI 0) hx hb dX9_about_15 (by decide) ?_
      refine ah_calli (va_runV (As := [.int (nI 0)]) (rest := []) ⟨hx, hb, hml, hown, hts⟩ (c_m_refuses l G h y A k0 n rf pm zh lc c pt gv un fy 0 (by decide)) (cwV 1 hts gX9_about_X9_refuses rfl rfl rfl (by decide +kernel) ⟨Nat.le_of_ble_eq_true rfl, Nat.le_of_ble_eq_true rfl⟩) (ah_preV hE hR hS fy rfl) rfl rfl hl.1 rfl (lv_room (Nat.le_of_ble_eq_true rfl)) dX9_about_16 ⟨Nat.le_of_ble_eq_true rfl, Nat.le_of_ble_eq_true rfl⟩) hS (fun r_5 h_3 H locs p_4 hR hS => ?_)
      obtain ⟨e_6, e_7⟩ := p_4
      have f_8 : h_3 y = some (20, .inr (8, mF A 0 n rf pm zh lc c pt gv un)) := by rw [e_7]; exact ah_up_s _ _ _
      have f_9 : h_3 (A 1) = some (21, .inl (G.2.2.1 0, 128, .inl plT)) := by rw [e_7]; exact ah_keep fa1 fy (by omega)
      have f_10 : h_3 (A 2) = some (22, .inl (G.2.2.1 0, 128, .inl esT)) := by rw [e_7]; exact ah_keep fa2 fy (by omega)
      have f_11 : h_3 (A 4) = some (24, .inl (G.2.2.1 0, 3000, .inl (nA tx))) := by rw [e_7]; exact ah_keep fa4 fy (by omega)
      refine ah_toi (v := nI 0) (by rw [e_6]; rfl) ?_
      refine lv_if_eq (tgt := 24) hx hb dX9_about_19 (by decide) (fun c_12 => ?_) (fun c_12 => ?_)
      · skip
        refine lv_iload_n hx hb dX9_about_24 rfl (lv_at hl 1 rfl) ?_
        refine lv_iconst (v := nI 1) hx hb dX9_about_25 (by decide) ?_
        refine lv_icmp_ne (tgt := 40) hx hb dX9_about_26 (by decide) (fun c_13 => ?_) (fun c_13 => ?_)
        · skip
          refine lv_iconst (v := nI 0) hx hb dX9_about_40 (by decide) ?_
          refine lv_istore_n (lv' := [(2, .int (nI 0)), (0, .ref y), (1, .int (nI 3))]) hx hb dX9_about_41 rfl hl (by decide) rfl (fun ls hl => ?_)
          refine lv_iload_n hx hb dX9_about_42 rfl (lv_at hl 2 rfl) ?_
          refine lv_tableIn (off := 64) (tgt := 107) hx hb dX9_about_43 (by decide) (by decide) rfl (by decide) ?_
          refine lv_aload_n hx hb dX9_about_107 rfl (lv_at hl 1 rfl) ?_
          refine ah_get (ci := 8) (v := .int (nI rf)) (C := RX9) (T := TX9) (N := 27) hx hb hE hR hts hinX9 hown f_8 rfl 5 (by decide) k101 (fun _ h9 => h9) rfl dX9_about_108 ?_
          refine ah_iret (v := nI rf) hx hb hr hlocks hR hS dX9_about_111 ?_
          exact ⟨rfl, e_7⟩
        · skip
          exact absurd c_13 (by decide)
      · skip
        exact absurd (by decide) c_12
    · skip
      have c_2 : ¬ (3 ≤ 7) := fun z9 => c_2 ((nI_leI (by omega) (by omega)).mpr z9)
      exact absurd (by decide) c_2

set_option maxHeartbeats 4000000 in
set_option maxRecDepth 100000 in
theorem c_m_about4 (l : Launch) (G : ah_G) (h : ah_H) (y : Nat) (A : Nat → Nat) (k0 n rf pm zh lc c pt gv un : Nat) (fy : h y = some (20, .inr (8, mF A k0 n rf pm zh lc c pt gv un))) (fa1 : h (A 1) = some (21, .inl (G.2.2.1 0, 128, .inl plT))) (fa2 : h (A 2) = some (22, .inl (G.2.2.1 0, 128, .inl esT))) (tx : Nat → Nat) (fa4 : h (A 4) = some (24, .inl (G.2.2.1 0, 3000, .inl (nA tx)))) (hn : n ≤ 3000) (hf : ∀ j, tx j < 65536) : Met l yX9_about wsX9_about ({ frames := 3, cells := 0, slots := 0, locals := 73 }) (ah_Pc G [.ref y, .int (nI 4)] h) (ah_Qi G (fun v h' => v = nI pm ∧ h' = ah_up h y (20, .inr (8, mF A 0 n rf pm zh lc c pt gv un)))) 0 0 (ah_A G) := by
  refine ah_ofW (cc := cX9_about) (maxL := 3) (ret := (some .int)) (by decide) rfl (Nat.le_of_ble_eq_true rfl) ?_
  intro p e s m below meth cd9 ls hx hb hr hml hown hlocks hname hts hE hR hS hl
  have hown : s.vm.findClass RX9 = some m.cls := hown
  have hl : lv_has ls 3 [(0, .ref y), (1, .int (nI 4))] := hl
  have k104 := hts (.fieldLink RX9 104 "TextPartsModel" "made" "I") (by decide +kernel)
  have hinX9 : ∀ w ∈ wsX90, w ∈ wsX9_about := by decide +kernel
  refine lv_aload_n hx hb dX9_about_0 rfl (lv_at hl 0 rfl) ?_
  refine lv_iload_n hx hb dX9_about_1 rfl (lv_at hl 1 rfl) ?_
  refine lv_if_lt (tgt := 11) hx hb dX9_about_2 (by decide) (fun c_1 => ?_) (fun c_1 => ?_)
  · skip
    exact absurd c_1 (nI_pos (by omega))
  · skip
    refine lv_iload_n hx hb dX9_about_5 rfl (lv_at hl 1 rfl) ?_
    refine lv_bipush (v := nI 7) hx hb dX9_about_6 (by decide) ?_
    refine lv_icmp_le (tgt := 15) hx hb dX9_about_8 (by decide) (fun c_2 => ?_) (fun c_2 => ?_)
    · skip
      have c_2 : 4 ≤ 7 := (nI_leI (by omega) (by omega)).mp c_2
      refine lv_iconst (v := nI 0) hx hb dX9_about_15 (by decide) ?_
      refine ah_calli (va_runV (As := [.int (nI 0)]) (rest := []) ⟨hx, hb, hml, hown, hts⟩ (c_m_refuses l G h y A k0 n rf pm zh lc c pt gv un fy 0 (by decide)) (cwV 1 hts gX9_about_X9_refuses rfl rfl rfl (by decide +kernel) ⟨Nat.le_of_ble_eq_true rfl, Nat.le_of_ble_eq_true rfl⟩) (ah_preV hE hR hS fy rfl) rfl rfl hl.1 rfl (lv_room (Nat.le_of_ble_eq_true rfl)) dX9_about_16 ⟨Nat.le_of_ble_eq_true rfl, Nat.le_of_ble_eq_true rfl⟩) hS (fun r_5 h_3 H locs p_4 hR hS => ?_)
      obtain ⟨e_6, e_7⟩ := p_4
      have f_8 : h_3 y = some (20, .inr (8, mF A 0 n rf pm zh lc c pt gv un)) := by rw [e_7]; exact ah_up_s _ _ _
      have f_9 : h_3 (A 1) = some (21, .inl (G.2.2.1 0, 128, .inl plT)) := by rw [e_7]; exact ah_keep fa1 fy (by omega)
      have f_10 : h_3 (A 2) = some (22, .inl (G.2.2.1 0, 128, .inl esT)) := by rw [e_7]; exact ah_keep fa2 fy (by omega)
      have f_11 : h_3 (A 4) = some (24, .inl (G.2.2.1 0, 3000, .inl (nA tx))) := by rw [e_7]; exact ah_keep fa4 fy (by omega)
      refine ah_toi (v := nI 0) (by rw [e_6]; rfl) ?_
      refine lv_if_eq (tgt := 24) hx hb dX9_about_19 (by decide) (fun c_12 => ?_) (fun c_12 => ?_)
      · skip
        refine lv_iload_n hx hb dX9_about_24 rfl (lv_at hl 1 rfl) ?_
        refine lv_iconst (v := nI 1) hx hb dX9_about_25 (by decide) ?_
        refine lv_icmp_ne (tgt := 40) hx hb dX9_about_26 (by decide) (fun c_13 => ?_) (fun c_13 => ?_)
        · skip
          refine lv_iconst (v := nI 0) hx hb dX9_about_40 (by decide) ?_
          refine lv_istore_n (lv' := [(2, .int (nI 0)), (0, .ref y), (1, .int (nI 4))]) hx hb dX9_about_41 rfl hl (by decide) rfl (fun ls hl => ?_)
          refine lv_iload_n hx hb dX9_about_42 rfl (lv_at hl 2 rfl) ?_
          refine lv_tableIn (off := 69) (tgt := 112) hx hb dX9_about_43 (by decide) (by decide) rfl (by decide) ?_
          refine lv_aload_n hx hb dX9_about_112 rfl (lv_at hl 1 rfl) ?_
          refine ah_get (ci := 8) (v := .int (nI pm)) (C := RX9) (T := TX9) (N := 27) hx hb hE hR hts hinX9 hown f_8 rfl 6 (by decide) k104 (fun _ h9 => h9) rfl dX9_about_113 ?_
          refine ah_iret (v := nI pm) hx hb hr hlocks hR hS dX9_about_116 ?_
          exact ⟨rfl, e_7⟩
        · skip
          exact absurd c_13 (by decide)
      · skip
        exact absurd (by decide) c_12
    · skip
      have c_2 : ¬ (4 ≤ 7) := fun z9 => c_2 ((nI_leI (by omega) (by omega)).mpr z9)
      exact absurd (by decide) c_2

set_option maxHeartbeats 4000000 in
set_option maxRecDepth 100000 in
theorem c_m_about5 (l : Launch) (G : ah_G) (h : ah_H) (y : Nat) (A : Nat → Nat) (k0 n rf pm zh lc c pt gv un : Nat) (fy : h y = some (20, .inr (8, mF A k0 n rf pm zh lc c pt gv un))) (fa1 : h (A 1) = some (21, .inl (G.2.2.1 0, 128, .inl plT))) (fa2 : h (A 2) = some (22, .inl (G.2.2.1 0, 128, .inl esT))) (tx : Nat → Nat) (fa4 : h (A 4) = some (24, .inl (G.2.2.1 0, 3000, .inl (nA tx)))) (hn : n ≤ 3000) (hf : ∀ j, tx j < 65536) : Met l yX9_about wsX9_about ({ frames := 3, cells := 0, slots := 0, locals := 73 }) (ah_Pc G [.ref y, .int (nI 5)] h) (ah_Qi G (fun v h' => v = nI c ∧ h' = ah_up h y (20, .inr (8, mF A 0 n rf pm zh lc c pt gv un)))) 0 0 (ah_A G) := by
  refine ah_ofW (cc := cX9_about) (maxL := 3) (ret := (some .int)) (by decide) rfl (Nat.le_of_ble_eq_true rfl) ?_
  intro p e s m below meth cd9 ls hx hb hr hml hown hlocks hname hts hE hR hS hl
  have hown : s.vm.findClass RX9 = some m.cls := hown
  have hl : lv_has ls 3 [(0, .ref y), (1, .int (nI 5))] := hl
  have k107 := hts (.fieldLink RX9 107 "TextPartsModel" "heaps" "I") (by decide +kernel)
  have hinX9 : ∀ w ∈ wsX90, w ∈ wsX9_about := by decide +kernel
  refine lv_aload_n hx hb dX9_about_0 rfl (lv_at hl 0 rfl) ?_
  refine lv_iload_n hx hb dX9_about_1 rfl (lv_at hl 1 rfl) ?_
  refine lv_if_lt (tgt := 11) hx hb dX9_about_2 (by decide) (fun c_1 => ?_) (fun c_1 => ?_)
  · skip
    exact absurd c_1 (nI_pos (by omega))
  · skip
    refine lv_iload_n hx hb dX9_about_5 rfl (lv_at hl 1 rfl) ?_
    refine lv_bipush (v := nI 7) hx hb dX9_about_6 (by decide) ?_
    refine lv_icmp_le (tgt := 15) hx hb dX9_about_8 (by decide) (fun c_2 => ?_) (fun c_2 => ?_)
    · skip
      have c_2 : 5 ≤ 7 := (nI_leI (by omega) (by omega)).mp c_2
      refine lv_iconst (v := nI 0) hx hb dX9_about_15 (by decide) ?_
      refine ah_calli (va_runV (As := [.int (nI 0)]) (rest := []) ⟨hx, hb, hml, hown, hts⟩ (c_m_refuses l G h y A k0 n rf pm zh lc c pt gv un fy 0 (by decide)) (cwV 1 hts gX9_about_X9_refuses rfl rfl rfl (by decide +kernel) ⟨Nat.le_of_ble_eq_true rfl, Nat.le_of_ble_eq_true rfl⟩) (ah_preV hE hR hS fy rfl) rfl rfl hl.1 rfl (lv_room (Nat.le_of_ble_eq_true rfl)) dX9_about_16 ⟨Nat.le_of_ble_eq_true rfl, Nat.le_of_ble_eq_true rfl⟩) hS (fun r_5 h_3 H locs p_4 hR hS => ?_)
      obtain ⟨e_6, e_7⟩ := p_4
      have f_8 : h_3 y = some (20, .inr (8, mF A 0 n rf pm zh lc c pt gv un)) := by rw [e_7]; exact ah_up_s _ _ _
      have f_9 : h_3 (A 1) = some (21, .inl (G.2.2.1 0, 128, .inl plT)) := by rw [e_7]; exact ah_keep fa1 fy (by omega)
      have f_10 : h_3 (A 2) = some (22, .inl (G.2.2.1 0, 128, .inl esT)) := by rw [e_7]; exact ah_keep fa2 fy (by omega)
      have f_11 : h_3 (A 4) = some (24, .inl (G.2.2.1 0, 3000, .inl (nA tx))) := by rw [e_7]; exact ah_keep fa4 fy (by omega)
      refine ah_toi (v := nI 0) (by rw [e_6]; rfl) ?_
      refine lv_if_eq (tgt := 24) hx hb dX9_about_19 (by decide) (fun c_12 => ?_) (fun c_12 => ?_)
      · skip
        refine lv_iload_n hx hb dX9_about_24 rfl (lv_at hl 1 rfl) ?_
        refine lv_iconst (v := nI 1) hx hb dX9_about_25 (by decide) ?_
        refine lv_icmp_ne (tgt := 40) hx hb dX9_about_26 (by decide) (fun c_13 => ?_) (fun c_13 => ?_)
        · skip
          refine lv_iconst (v := nI 0) hx hb dX9_about_40 (by decide) ?_
          refine lv_istore_n (lv' := [(2, .int (nI 0)), (0, .ref y), (1, .int (nI 5))]) hx hb dX9_about_41 rfl hl (by decide) rfl (fun ls hl => ?_)
          refine lv_iload_n hx hb dX9_about_42 rfl (lv_at hl 2 rfl) ?_
          refine lv_tableIn (off := 74) (tgt := 117) hx hb dX9_about_43 (by decide) (by decide) rfl (by decide) ?_
          refine lv_aload_n hx hb dX9_about_117 rfl (lv_at hl 1 rfl) ?_
          refine ah_get (ci := 8) (v := .int (nI c)) (C := RX9) (T := TX9) (N := 27) hx hb hE hR hts hinX9 hown f_8 rfl 13 (by decide) k107 (fun _ h9 => h9) rfl dX9_about_118 ?_
          refine ah_iret (v := nI c) hx hb hr hlocks hR hS dX9_about_121 ?_
          exact ⟨rfl, e_7⟩
        · skip
          exact absurd c_13 (by decide)
      · skip
        exact absurd (by decide) c_12
    · skip
      have c_2 : ¬ (5 ≤ 7) := fun z9 => c_2 ((nI_leI (by omega) (by omega)).mpr z9)
      exact absurd (by decide) c_2

set_option maxHeartbeats 4000000 in
set_option maxRecDepth 100000 in
theorem c_m_about6 (l : Launch) (G : ah_G) (h : ah_H) (y : Nat) (A : Nat → Nat) (k0 n rf pm zh lc c pt gv un : Nat) (fy : h y = some (20, .inr (8, mF A k0 n rf pm zh lc c pt gv un))) (fa1 : h (A 1) = some (21, .inl (G.2.2.1 0, 128, .inl plT))) (fa2 : h (A 2) = some (22, .inl (G.2.2.1 0, 128, .inl esT))) (tx : Nat → Nat) (fa4 : h (A 4) = some (24, .inl (G.2.2.1 0, 3000, .inl (nA tx)))) (hn : n ≤ 3000) (hf : ∀ j, tx j < 65536) : Met l yX9_about wsX9_about ({ frames := 3, cells := 0, slots := 0, locals := 73 }) (ah_Pc G [.ref y, .int (nI 6)] h) (ah_Qi G (fun v h' => v = nI lc ∧ h' = ah_up h y (20, .inr (8, mF A 0 n rf pm zh lc c pt gv un)))) 0 0 (ah_A G) := by
  refine ah_ofW (cc := cX9_about) (maxL := 3) (ret := (some .int)) (by decide) rfl (Nat.le_of_ble_eq_true rfl) ?_
  intro p e s m below meth cd9 ls hx hb hr hml hown hlocks hname hts hE hR hS hl
  have hown : s.vm.findClass RX9 = some m.cls := hown
  have hl : lv_has ls 3 [(0, .ref y), (1, .int (nI 6))] := hl
  have k110 := hts (.fieldLink RX9 110 "TextPartsModel" "latestCount" "I") (by decide +kernel)
  have hinX9 : ∀ w ∈ wsX90, w ∈ wsX9_about := by decide +kernel
  refine lv_aload_n hx hb dX9_about_0 rfl (lv_at hl 0 rfl) ?_
  refine lv_iload_n hx hb dX9_about_1 rfl (lv_at hl 1 rfl) ?_
  refine lv_if_lt (tgt := 11) hx hb dX9_about_2 (by decide) (fun c_1 => ?_) (fun c_1 => ?_)
  · skip
    exact absurd c_1 (nI_pos (by omega))
  · skip
    refine lv_iload_n hx hb dX9_about_5 rfl (lv_at hl 1 rfl) ?_
    refine lv_bipush (v := nI 7) hx hb dX9_about_6 (by decide) ?_
    refine lv_icmp_le (tgt := 15) hx hb dX9_about_8 (by decide) (fun c_2 => ?_) (fun c_2 => ?_)
    · skip
      have c_2 : 6 ≤ 7 := (nI_leI (by omega) (by omega)).mp c_2
      refine lv_iconst (v := nI 0) hx hb dX9_about_15 (by decide) ?_
      refine ah_calli (va_runV (As := [.int (nI 0)]) (rest := []) ⟨hx, hb, hml, hown, hts⟩ (c_m_refuses l G h y A k0 n rf pm zh lc c pt gv un fy 0 (by decide)) (cwV 1 hts gX9_about_X9_refuses rfl rfl rfl (by decide +kernel) ⟨Nat.le_of_ble_eq_true rfl, Nat.le_of_ble_eq_true rfl⟩) (ah_preV hE hR hS fy rfl) rfl rfl hl.1 rfl (lv_room (Nat.le_of_ble_eq_true rfl)) dX9_about_16 ⟨Nat.le_of_ble_eq_true rfl, Nat.le_of_ble_eq_true rfl⟩) hS (fun r_5 h_3 H locs p_4 hR hS => ?_)
      obtain ⟨e_6, e_7⟩ := p_4
      have f_8 : h_3 y = some (20, .inr (8, mF A 0 n rf pm zh lc c pt gv un)) := by rw [e_7]; exact ah_up_s _ _ _
      have f_9 : h_3 (A 1) = some (21, .inl (G.2.2.1 0, 128, .inl plT)) := by rw [e_7]; exact ah_keep fa1 fy (by omega)
      have f_10 : h_3 (A 2) = some (22, .inl (G.2.2.1 0, 128, .inl esT)) := by rw [e_7]; exact ah_keep fa2 fy (by omega)
      have f_11 : h_3 (A 4) = some (24, .inl (G.2.2.1 0, 3000, .inl (nA tx))) := by rw [e_7]; exact ah_keep fa4 fy (by omega)
      refine ah_toi (v := nI 0) (by rw [e_6]; rfl) ?_
      refine lv_if_eq (tgt := 24) hx hb dX9_about_19 (by decide) (fun c_12 => ?_) (fun c_12 => ?_)
      · skip
        refine lv_iload_n hx hb dX9_about_24 rfl (lv_at hl 1 rfl) ?_
        refine lv_iconst (v := nI 1) hx hb dX9_about_25 (by decide) ?_
        refine lv_icmp_ne (tgt := 40) hx hb dX9_about_26 (by decide) (fun c_13 => ?_) (fun c_13 => ?_)
        · skip
          refine lv_iconst (v := nI 0) hx hb dX9_about_40 (by decide) ?_
          refine lv_istore_n (lv' := [(2, .int (nI 0)), (0, .ref y), (1, .int (nI 6))]) hx hb dX9_about_41 rfl hl (by decide) rfl (fun ls hl => ?_)
          refine lv_iload_n hx hb dX9_about_42 rfl (lv_at hl 2 rfl) ?_
          refine lv_tableIn (off := 79) (tgt := 122) hx hb dX9_about_43 (by decide) (by decide) rfl (by decide) ?_
          refine lv_aload_n hx hb dX9_about_122 rfl (lv_at hl 1 rfl) ?_
          refine ah_get (ci := 8) (v := .int (nI lc)) (C := RX9) (T := TX9) (N := 27) hx hb hE hR hts hinX9 hown f_8 rfl 11 (by decide) k110 (fun _ h9 => h9) rfl dX9_about_123 ?_
          refine ah_iret (v := nI lc) hx hb hr hlocks hR hS dX9_about_126 ?_
          exact ⟨rfl, e_7⟩
        · skip
          exact absurd c_13 (by decide)
      · skip
        exact absurd (by decide) c_12
    · skip
      have c_2 : ¬ (6 ≤ 7) := fun z9 => c_2 ((nI_leI (by omega) (by omega)).mpr z9)
      exact absurd (by decide) c_2

set_option maxHeartbeats 4000000 in
set_option maxRecDepth 100000 in
theorem c_m_about7 (l : Launch) (G : ah_G) (h : ah_H) (y : Nat) (A : Nat → Nat) (k0 n rf pm zh lc c pt gv un : Nat) (fy : h y = some (20, .inr (8, mF A k0 n rf pm zh lc c pt gv un))) (fa1 : h (A 1) = some (21, .inl (G.2.2.1 0, 128, .inl plT))) (fa2 : h (A 2) = some (22, .inl (G.2.2.1 0, 128, .inl esT))) (tx : Nat → Nat) (fa4 : h (A 4) = some (24, .inl (G.2.2.1 0, 3000, .inl (nA tx)))) (hn : n ≤ 3000) (hf : ∀ j, tx j < 65536) : Met l yX9_about wsX9_about ({ frames := 3, cells := 0, slots := 0, locals := 73 }) (ah_Pc G [.ref y, .int (nI 7)] h) (ah_Qi G (fun v h' => v = nI zh ∧ h' = ah_up h y (20, .inr (8, mF A 0 n rf pm zh lc c pt gv un)))) 0 0 (ah_A G) := by
  refine ah_ofW (cc := cX9_about) (maxL := 3) (ret := (some .int)) (by decide) rfl (Nat.le_of_ble_eq_true rfl) ?_
  intro p e s m below meth cd9 ls hx hb hr hml hown hlocks hname hts hE hR hS hl
  have hown : s.vm.findClass RX9 = some m.cls := hown
  have hl : lv_has ls 3 [(0, .ref y), (1, .int (nI 7))] := hl
  have k113 := hts (.fieldLink RX9 113 "TextPartsModel" "atHand" "I") (by decide +kernel)
  have hinX9 : ∀ w ∈ wsX90, w ∈ wsX9_about := by decide +kernel
  refine lv_aload_n hx hb dX9_about_0 rfl (lv_at hl 0 rfl) ?_
  refine lv_iload_n hx hb dX9_about_1 rfl (lv_at hl 1 rfl) ?_
  refine lv_if_lt (tgt := 11) hx hb dX9_about_2 (by decide) (fun c_1 => ?_) (fun c_1 => ?_)
  · skip
    exact absurd c_1 (nI_pos (by omega))
  · skip
    refine lv_iload_n hx hb dX9_about_5 rfl (lv_at hl 1 rfl) ?_
    refine lv_bipush (v := nI 7) hx hb dX9_about_6 (by decide) ?_
    refine lv_icmp_le (tgt := 15) hx hb dX9_about_8 (by decide) (fun c_2 => ?_) (fun c_2 => ?_)
    · skip
      have c_2 : 7 ≤ 7 := (nI_leI (by omega) (by omega)).mp c_2
      refine lv_iconst (v := nI 0) hx hb dX9_about_15 (by decide) ?_
      refine ah_calli (va_runV (As := [.int (nI 0)]) (rest := []) ⟨hx, hb, hml, hown, hts⟩ (c_m_refuses l G h y A k0 n rf pm zh lc c pt gv un fy 0 (by decide)) (cwV 1 hts gX9_about_X9_refuses rfl rfl rfl (by decide +kernel) ⟨Nat.le_of_ble_eq_true rfl, Nat.le_of_ble_eq_true rfl⟩) (ah_preV hE hR hS fy rfl) rfl rfl hl.1 rfl (lv_room (Nat.le_of_ble_eq_true rfl)) dX9_about_16 ⟨Nat.le_of_ble_eq_true rfl, Nat.le_of_ble_eq_true rfl⟩) hS (fun r_5 h_3 H locs p_4 hR hS => ?_)
      obtain ⟨e_6, e_7⟩ := p_4
      have f_8 : h_3 y = some (20, .inr (8, mF A 0 n rf pm zh lc c pt gv un)) := by rw [e_7]; exact ah_up_s _ _ _
      have f_9 : h_3 (A 1) = some (21, .inl (G.2.2.1 0, 128, .inl plT)) := by rw [e_7]; exact ah_keep fa1 fy (by omega)
      have f_10 : h_3 (A 2) = some (22, .inl (G.2.2.1 0, 128, .inl esT)) := by rw [e_7]; exact ah_keep fa2 fy (by omega)
      have f_11 : h_3 (A 4) = some (24, .inl (G.2.2.1 0, 3000, .inl (nA tx))) := by rw [e_7]; exact ah_keep fa4 fy (by omega)
      refine ah_toi (v := nI 0) (by rw [e_6]; rfl) ?_
      refine lv_if_eq (tgt := 24) hx hb dX9_about_19 (by decide) (fun c_12 => ?_) (fun c_12 => ?_)
      · skip
        refine lv_iload_n hx hb dX9_about_24 rfl (lv_at hl 1 rfl) ?_
        refine lv_iconst (v := nI 1) hx hb dX9_about_25 (by decide) ?_
        refine lv_icmp_ne (tgt := 40) hx hb dX9_about_26 (by decide) (fun c_13 => ?_) (fun c_13 => ?_)
        · skip
          refine lv_iconst (v := nI 0) hx hb dX9_about_40 (by decide) ?_
          refine lv_istore_n (lv' := [(2, .int (nI 0)), (0, .ref y), (1, .int (nI 7))]) hx hb dX9_about_41 rfl hl (by decide) rfl (fun ls hl => ?_)
          refine lv_iload_n hx hb dX9_about_42 rfl (lv_at hl 2 rfl) ?_
          refine lv_tableOut (tgt := 127) hx hb dX9_about_43 (by decide) (by decide) ?_
          refine lv_aload_n hx hb dX9_about_127 rfl (lv_at hl 1 rfl) ?_
          refine ah_get (ci := 8) (v := .int (nI zh)) (C := RX9) (T := TX9) (N := 27) hx hb hE hR hts hinX9 hown f_8 rfl 9 (by decide) k113 (fun _ h9 => h9) rfl dX9_about_128 ?_
          refine ah_iret (v := nI zh) hx hb hr hlocks hR hS dX9_about_131 ?_
          exact ⟨rfl, e_7⟩
        · skip
          exact absurd c_13 (by decide)
      · skip
        exact absurd (by decide) c_12
    · skip
      have c_2 : ¬ (7 ≤ 7) := fun z9 => c_2 ((nI_leI (by omega) (by omega)).mpr z9)
      exact absurd (by decide) c_2

set_option maxHeartbeats 4000000 in
set_option maxRecDepth 100000 in
theorem c_m_aboutX (l : Launch) (G : ah_G) (h : ah_H) (y : Nat) (A : Nat → Nat) (k0 n rf pm zh lc c pt gv un : Nat) (fy : h y = some (20, .inr (8, mF A k0 n rf pm zh lc c pt gv un))) (fa1 : h (A 1) = some (21, .inl (G.2.2.1 0, 128, .inl plT))) (fa2 : h (A 2) = some (22, .inl (G.2.2.1 0, 128, .inl esT))) (tx : Nat → Nat) (fa4 : h (A 4) = some (24, .inl (G.2.2.1 0, 3000, .inl (nA tx)))) (u : Int32) (hu : ¬ inR 8 u) : Met l yX9_about wsX9_about ({ frames := 3, cells := 0, slots := 0, locals := 73 }) (ah_Pc G [.ref y, .int u] h) (ah_Qi G (fun v h' => h' = ah_up h y (20, .inr (8, mF A 1 n rf pm zh lc c pt gv un)))) 0 0 (ah_A G) := by
  refine ah_ofW (cc := cX9_about) (maxL := 3) (ret := (some .int)) (by decide) rfl (Nat.le_of_ble_eq_true rfl) ?_
  intro p e s m below meth cd9 ls hx hb hr hml hown hlocks hname hts hE hR hS hl
  have hown : s.vm.findClass RX9 = some m.cls := hown
  have hl : lv_has ls 3 [(0, .ref y), (1, .int u)] := hl
  refine lv_aload_n hx hb dX9_about_0 rfl (lv_at hl 0 rfl) ?_
  refine lv_iload_n hx hb dX9_about_1 rfl (lv_at hl 1 rfl) ?_
  refine lv_if_lt (tgt := 11) hx hb dX9_about_2 (by decide) (fun c_1 => ?_) (fun c_1 => ?_)
  · skip
    refine lv_iconst (v := nI 1) hx hb dX9_about_11 (by decide) ?_
    refine lv_goto (tgt := 16) hx hb dX9_about_12 (by decide) ?_
    refine ah_calli (va_runV (As := [.int (nI 1)]) (rest := []) ⟨hx, hb, hml, hown, hts⟩ (c_m_refuses l G h y A k0 n rf pm zh lc c pt gv un fy 1 (by decide)) (cwV 1 hts gX9_about_X9_refuses rfl rfl rfl (by decide +kernel) ⟨Nat.le_of_ble_eq_true rfl, Nat.le_of_ble_eq_true rfl⟩) (ah_preV hE hR hS fy rfl) rfl rfl hl.1 rfl (lv_room (Nat.le_of_ble_eq_true rfl)) dX9_about_16 ⟨Nat.le_of_ble_eq_true rfl, Nat.le_of_ble_eq_true rfl⟩) hS (fun r_4 h_2 H locs p_3 hR hS => ?_)
    obtain ⟨e_5, e_6⟩ := p_3
    have f_7 : h_2 y = some (20, .inr (8, mF A 1 n rf pm zh lc c pt gv un)) := by rw [e_6]; exact ah_up_s _ _ _
    have f_8 : h_2 (A 1) = some (21, .inl (G.2.2.1 0, 128, .inl plT)) := by rw [e_6]; exact ah_keep fa1 fy (by omega)
    have f_9 : h_2 (A 2) = some (22, .inl (G.2.2.1 0, 128, .inl esT)) := by rw [e_6]; exact ah_keep fa2 fy (by omega)
    have f_10 : h_2 (A 4) = some (24, .inl (G.2.2.1 0, 3000, .inl (nA tx))) := by rw [e_6]; exact ah_keep fa4 fy (by omega)
    refine ah_toi (v := nI 1) (by rw [e_5]; rfl) ?_
    refine lv_if_eq (tgt := 24) hx hb dX9_about_19 (by decide) (fun c_11 => ?_) (fun c_11 => ?_)
    · skip
      exact absurd c_11 (by decide)
    · skip
      refine lv_iconst (v := nI 0) hx hb dX9_about_22 (by decide) ?_
      refine ah_iret (v := nI 0) hx hb hr hlocks hR hS dX9_about_23 ?_
      exact e_6
  · skip
    refine lv_iload_n hx hb dX9_about_5 rfl (lv_at hl 1 rfl) ?_
    refine lv_bipush (v := nI 7) hx hb dX9_about_6 (by decide) ?_
    refine lv_icmp_le (tgt := 15) hx hb dX9_about_8 (by decide) (fun c_12 => ?_) (fun c_12 => ?_)
    · skip
      exact absurd (inR_in (n := 7) (by decide) c_1 c_12) hu
    · skip
      refine lv_iconst (v := nI 1) hx hb dX9_about_11 (by decide) ?_
      refine lv_goto (tgt := 16) hx hb dX9_about_12 (by decide) ?_
      refine ah_calli (va_runV (As := [.int (nI 1)]) (rest := []) ⟨hx, hb, hml, hown, hts⟩ (c_m_refuses l G h y A k0 n rf pm zh lc c pt gv un fy 1 (by decide)) (cwV 1 hts gX9_about_X9_refuses rfl rfl rfl (by decide +kernel) ⟨Nat.le_of_ble_eq_true rfl, Nat.le_of_ble_eq_true rfl⟩) (ah_preV hE hR hS fy rfl) rfl rfl hl.1 rfl (lv_room (Nat.le_of_ble_eq_true rfl)) dX9_about_16 ⟨Nat.le_of_ble_eq_true rfl, Nat.le_of_ble_eq_true rfl⟩) hS (fun r_15 h_13 H locs p_14 hR hS => ?_)
      obtain ⟨e_16, e_17⟩ := p_14
      have f_18 : h_13 y = some (20, .inr (8, mF A 1 n rf pm zh lc c pt gv un)) := by rw [e_17]; exact ah_up_s _ _ _
      have f_19 : h_13 (A 1) = some (21, .inl (G.2.2.1 0, 128, .inl plT)) := by rw [e_17]; exact ah_keep fa1 fy (by omega)
      have f_20 : h_13 (A 2) = some (22, .inl (G.2.2.1 0, 128, .inl esT)) := by rw [e_17]; exact ah_keep fa2 fy (by omega)
      have f_21 : h_13 (A 4) = some (24, .inl (G.2.2.1 0, 3000, .inl (nA tx))) := by rw [e_17]; exact ah_keep fa4 fy (by omega)
      refine ah_toi (v := nI 1) (by rw [e_16]; rfl) ?_
      refine lv_if_eq (tgt := 24) hx hb dX9_about_19 (by decide) (fun c_22 => ?_) (fun c_22 => ?_)
      · skip
        exact absurd c_22 (by decide)
      · skip
        refine lv_iconst (v := nI 0) hx hb dX9_about_22 (by decide) ?_
        refine ah_iret (v := nI 0) hx hb hr hlocks hR hS dX9_about_23 ?_
        exact e_17
