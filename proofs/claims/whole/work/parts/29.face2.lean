/-! ===== TextParts: the calls of the parts, of the box ===== -/
theorem rowAt_none {rr : Nat → Option Nat} {pm : Nat} {x : Int32} (hpm : pm ≤ 255) (hs : ∀ j, j < pm → ∃ r, rr j = some r) (h : rowAt rr pm x = none) : ¬ inR pm x := fun ⟨j, hj, e⟩ => by
  obtain ⟨r, hr⟩ := hs j hj
  rw [e] at h
  unfold rowAt at h
  rw [if_neg (nI_pos (by omega)), if_neg (nI_ge hj (by omega)), nI_clamp (by omega), hr] at h
  cases h
theorem rowAt_some {rr : Nat → Option Nat} {pm r : Nat} {x : Int32} (hpm : pm ≤ 255) (h : rowAt rr pm x = some r) : ∃ j, j < pm ∧ x = nI j ∧ rr j = some r := by
  unfold rowAt at h
  by_cases h1 : x < 0
  · rw [if_pos h1] at h; cases h
  · rw [if_neg h1] at h
    by_cases h2 : nI pm ≤ x
    · rw [if_pos h2] at h; cases h
    · rw [if_neg h2] at h
      obtain ⟨j, hj, e⟩ := ix_of h1 h2 (by omega)
      rw [e, nI_clamp (by omega)] at h
      exact ⟨j, hj, e, h⟩
theorem rwA_no {g : Nat → Nat} {z : Nat} {i : Int32} (hz : z < 2 ^ 31) (h : rwA g z i = -1) (hg : ∀ j, g j < 256) : ¬ inR z i := fun ⟨j, hj, e⟩ => by
  rw [e, rwA_in hj hz] at h
  have := hg j
  exact zi_ne (by omega) h
theorem rwA_yes {g : Nat → Nat} {z : Nat} {i : Int32} (hz : z < 2 ^ 31) (h : ¬ rwA g z i = -1) : inR z i := by
  rcases pk_ix i hz with q | q | q
  · exact absurd (rwA_neg q) h
  · exact absurd (rwA_big q) h
  · exact q
def rowU (g : Nat → Nat → Nat) (j k v : Nat) : Nat → Nat → Nat := fun q => if q = j then gU (g j) k v else g q
theorem rowsOk.setC {G : ah_G} {h h' : ah_H} {rf : Nat → Option Nat} {rb z : Nat → Nat} {g : Nat → Nat → Nat} {j k v : Nat} (x : rowsOk G h rf rb z g) (hj : j < 255) {r : Nat} (hr : rf j = some r) (hv : v < 256) (e : h' = ah_up h (rb j) (101 + 2 * j, .inl (G.2.2.1 0, 142, .inl (nA (gU (g j) k v))))) : rowsOk G h' rf rb z (rowU g j k v) := by
  obtain ⟨j1, j2, j3, j4⟩ := x j r hj hr
  intro q r9 hq hr9
  obtain ⟨a, b, c, d⟩ := x q r9 hq hr9
  unfold rowU
  by_cases e9 : q = j
  · subst e9
    rw [if_pos rfl]
    refine ⟨by rw [e]; exact ah_keep a b (by omega), by rw [e]; exact ah_up_s _ _ _, c, fun i => ?_⟩
    unfold gU; split
    · exact hv
    · exact d i
  · rw [if_neg e9]
    exact ⟨by rw [e]; exact ah_keep a j2 (by omega), by rw [e]; exact ah_keep b j2 (by omega), c, d⟩
theorem nneg {u : Int32} (h : ¬ u < 0) : ∃ i : Nat, i < 2 ^ 31 ∧ u = nI i := by
  have h1 := Int32.le_iff_toInt_le.mp (Int32.not_lt.mp h)
  have h0 : (0 : Int32).toInt = 0 := by decide
  rw [h0] at h1
  have h2 := Int32.toInt_lt u
  refine ⟨u.toInt.toNat, by omega, ?_⟩
  apply Int32.toInt_inj.mp
  rw [nI_toInt (by omega)]
  omega

set_option maxHeartbeats 4000000 in
set_option maxRecDepth 100000 in
theorem c_length (l : Launch) (hlt : l.stackTraces = false) (G : ah_G) (h : ah_H) (x n pm zh rf c pt : Nat) (f z : Nat → Nat) (g : Nat → Nat → Nat) (gh : Nat → Nat) (D : Nat → hDt) (lat : Option (Nat × (Nat → List Nat))) (htp : tp G h x n f pm z g zh gh rf c pt D lat) (u : Int32) : vx_Met l yX8_length wsX8_length ({ frames := 6, cells := 1, slots := 6, locals := 100 }) (ah_Px G [.ref x, .int u] h) (ah_Qi G (fun v h' => ∃ j, j < pm ∧ u = nI j ∧ v = nI (z j) ∧ h' = h)) (ah_QX G (fun E h' => E = eIA ∧ ¬ inR pm u ∧ h' = h)) 1 6 (ah_A G) := by
  refine ah_ofX (cc := cX8_length) (maxL := 3) (ret := (some .int)) (by decide) rfl (Nat.le_of_ble_eq_true rfl) ?_
  intro p e s m below meth cd9 ls hx hb hr hml hown hlocks hname hts htb hX hE hR hS hl
  have hown : s.vm.findClass RX8 = some m.cls := hown
  have hl : lv_has ls 3 [(0, .ref x), (1, .int u)] := hl
  have k19 := hts (.fieldLink RX8 19 "TextParts" "made" "LTextParts$Message;") (by decide +kernel)
  have hinX8 : ∀ w ∈ wsX80, w ∈ wsX8_length := by decide +kernel
  have wclassLink_RX8_44_java_lang_IllegalArgumentException := hts (.classLink RX8 44 "java/lang/IllegalArgumentException") (by decide +kernel)
  have winitialized_java_lang_IllegalArgumentException := hts (.initialized "java/lang/IllegalArgumentException") (by decide +kernel)
  have k84 := hts (.fieldLink RX8 84 "TextParts$Row" "size" "I") (by decide +kernel)
  have hinX6 : ∀ w ∈ wsX60, w ∈ wsX8_length := by decide +kernel
  obtain ⟨t, ua, m0, ra, ah, ab, ib, hp, rd, ru, rr, rb, fx, ft, fu, hn, hf, fm, fa, hpm, hrows, hsome, fh, fb, hzh, hgh, hrf, hbox⟩ := htp
  have hss := sumS_le f 0 n; have hos := outs_le f n
  refine lv_aload_n hx hb dX8_length_0 rfl (lv_at hl 0 rfl) ?_
  refine ah_get (ci := 7) (v := .ref m0) (C := RX8) (T := TX8) (N := 5) hx hb hE hR hts hinX8 hown fx rfl 1 (by decide) k19 (fun _ h9 => h9) rfl dX8_length_1 ?_
  refine lv_iload_n hx hb dX8_length_4 rfl (lv_at hl 1 rfl) ?_
  refine ah_callq (va_runV (As := [.int u]) (rest := []) ⟨hx, hb, hml, hown, hts⟩ (c_Msg_rowOf l G h m0 ra pm rr fm fa hpm u) (cwV 1 hts gX8_length_X3_rowOf rfl rfl rfl (by decide +kernel) ⟨Nat.le_of_ble_eq_true rfl, Nat.le_of_ble_eq_true rfl⟩) (ah_preV hE hR hS fm rfl) rfl rfl hl.1 rfl (lv_room (Nat.le_of_ble_eq_true rfl)) dX8_length_5 ⟨Nat.le_of_ble_eq_true rfl, Nat.le_of_ble_eq_true rfl⟩) hS (fun r_3 h_1 H locs p_2 hR hS => ?_)
  obtain ⟨er, eh9⟩ := p_2
  rw [eh9] at hR
  rw [er]
  cases ec : rowAt rr pm u with
  | none =>
    have hno := rowAt_none hpm hsome ec
    rw [show va_rf none = .null from rfl]
    refine lv_astore_nN (lv' := [(2, .null), (0, .ref x), (1, .int u)]) hx hb dX8_length_8 rfl hl (by decide) rfl (fun ls hl => ?_)
    refine lv_aload_nN hx hb dX8_length_9 rfl (lv_at hl 0 rfl) ?_
    refine lv_ifnonnullN hx hb dX8_length_10 ?_
    exact ah_thr (E := eIA) (tx := "no such part") (ik := 44) (is := 102) (ic := 48) hx hb hlt hown (by decide) wclassLink_RX8_44_java_lang_IllegalArgumentException winitialized_java_lang_IllegalArgumentException hX.2.2.2.2.2.2.2.1 (fun w hw => hts w (List.mem_cons_of_mem _ (List.mem_append.mpr (Or.inr hw)))) (by decide +kernel) hX.2.2.1.2.2.2.1 (by decide +kernel) hX hR hS (hl.1.trans hml.symm) dX8_length_13 dX8_length_16 dX8_length_17 dX8_length_19 dX8_length_22 htb (Nat.le_of_ble_eq_true rfl) (Nat.le_of_ble_eq_true rfl) (Nat.le_of_ble_eq_true rfl) (Nat.le_of_ble_eq_true rfl) hlocks (⟨rfl, hno, rfl⟩) (Nat.le_of_ble_eq_true rfl) (Nat.le_of_ble_eq_true rfl)
  | some r9 =>
    obtain ⟨j, hj, ej, hr9⟩ := rowAt_some hpm ec
    subst ej
    obtain ⟨fr9, fb9, hz9, hg9⟩ := hrows j r9 (by omega) hr9
    rw [show va_rf (some r9) = .ref r9 from rfl]
    refine lv_astore_n (lv' := [(2, .ref r9), (0, .ref x), (1, .int (nI j))]) hx hb dX8_length_8 rfl hl (by decide) rfl (fun ls hl => ?_)
    refine lv_aload_n hx hb dX8_length_9 rfl (lv_at hl 0 rfl) ?_
    refine lv_ifnonnull (tgt := 23) hx hb dX8_length_10 (by decide) ?_
    refine lv_aload_n hx hb dX8_length_23 rfl (lv_at hl 0 rfl) ?_
    refine ah_get (ci := 5) (v := .int (nI (z j))) (C := RX6) (T := TX6) (N := 2) hx hb hE hR hts hinX6 hown fr9 rfl 1 (by decide) k84 (fun _ h9 => h9) rfl dX8_length_24 ?_
    refine W.widen (k := 1) (n := 6) (by omega) (by omega) ?_
    refine vx_ret ?_
    refine ah_iret (v := nI (z j)) hx hb hr hlocks hR hS dX8_length_27 ?_
    exact ⟨j, hj, rfl, rfl, rfl⟩

set_option maxHeartbeats 4000000 in
set_option maxRecDepth 100000 in
theorem c_byteOf (l : Launch) (hlt : l.stackTraces = false) (G : ah_G) (h : ah_H) (x n pm zh rf c pt : Nat) (f z : Nat → Nat) (g : Nat → Nat → Nat) (gh : Nat → Nat) (D : Nat → hDt) (lat : Option (Nat × (Nat → List Nat))) (htp : tp G h x n f pm z g zh gh rf c pt D lat) (u i : Int32) : vx_Met l yX8_byteOf wsX8_byteOf ({ frames := 6, cells := 1, slots := 6, locals := 100 }) (ah_Px G [.ref x, .int u, .int i] h) (ah_Qi G (fun v h' => ∃ j, j < pm ∧ u = nI j ∧ v = rwA (g j) (z j) i ∧ h' = h)) (ah_QX G (fun E h' => E = eIA ∧ ¬ inR pm u ∧ h' = h)) 1 6 (ah_A G) := by
  refine ah_ofX (cc := cX8_byteOf) (maxL := 4) (ret := (some .int)) (by decide) rfl (Nat.le_of_ble_eq_true rfl) ?_
  intro p e s m below meth cd9 ls hx hb hr hml hown hlocks hname hts htb hX hE hR hS hl
  have hown : s.vm.findClass RX8 = some m.cls := hown
  have hl : lv_has ls 4 [(0, .ref x), (1, .int u), (2, .int i)] := hl
  have k19 := hts (.fieldLink RX8 19 "TextParts" "made" "LTextParts$Message;") (by decide +kernel)
  have hinX8 : ∀ w ∈ wsX80, w ∈ wsX8_byteOf := by decide +kernel
  have wclassLink_RX8_44_java_lang_IllegalArgumentException := hts (.classLink RX8 44 "java/lang/IllegalArgumentException") (by decide +kernel)
  have winitialized_java_lang_IllegalArgumentException := hts (.initialized "java/lang/IllegalArgumentException") (by decide +kernel)
  obtain ⟨t, ua, m0, ra, ah, ab, ib, hp, rd, ru, rr, rb, fx, ft, fu, hn, hf, fm, fa, hpm, hrows, hsome, fh, fb, hzh, hgh, hrf, hbox⟩ := htp
  have hss := sumS_le f 0 n; have hos := outs_le f n
  refine lv_aload_n hx hb dX8_byteOf_0 rfl (lv_at hl 0 rfl) ?_
  refine ah_get (ci := 7) (v := .ref m0) (C := RX8) (T := TX8) (N := 5) hx hb hE hR hts hinX8 hown fx rfl 1 (by decide) k19 (fun _ h9 => h9) rfl dX8_byteOf_1 ?_
  refine lv_iload_n hx hb dX8_byteOf_4 rfl (lv_at hl 1 rfl) ?_
  refine ah_callq (va_runV (As := [.int u]) (rest := []) ⟨hx, hb, hml, hown, hts⟩ (c_Msg_rowOf l G h m0 ra pm rr fm fa hpm u) (cwV 1 hts gX8_byteOf_X3_rowOf rfl rfl rfl (by decide +kernel) ⟨Nat.le_of_ble_eq_true rfl, Nat.le_of_ble_eq_true rfl⟩) (ah_preV hE hR hS fm rfl) rfl rfl hl.1 rfl (lv_room (Nat.le_of_ble_eq_true rfl)) dX8_byteOf_5 ⟨Nat.le_of_ble_eq_true rfl, Nat.le_of_ble_eq_true rfl⟩) hS (fun r_3 h_1 H locs p_2 hR hS => ?_)
  obtain ⟨er, eh9⟩ := p_2
  rw [eh9] at hR
  rw [er]
  cases ec : rowAt rr pm u with
  | none =>
    have hno := rowAt_none hpm hsome ec
    rw [show va_rf none = .null from rfl]
    refine lv_astore_nN (lv' := [(3, .null), (0, .ref x), (1, .int u), (2, .int i)]) hx hb dX8_byteOf_8 rfl hl (by decide) rfl (fun ls hl => ?_)
    refine lv_aload_nN hx hb dX8_byteOf_9 rfl (lv_at hl 0 rfl) ?_
    refine lv_ifnonnullN hx hb dX8_byteOf_10 ?_
    exact ah_thr (E := eIA) (tx := "no such part") (ik := 44) (is := 102) (ic := 48) hx hb hlt hown (by decide) wclassLink_RX8_44_java_lang_IllegalArgumentException winitialized_java_lang_IllegalArgumentException hX.2.2.2.2.2.2.2.1 (fun w hw => hts w (List.mem_cons_of_mem _ (List.mem_append.mpr (Or.inr hw)))) (by decide +kernel) hX.2.2.1.2.2.2.1 (by decide +kernel) hX hR hS (hl.1.trans hml.symm) dX8_byteOf_13 dX8_byteOf_16 dX8_byteOf_17 dX8_byteOf_19 dX8_byteOf_22 htb (Nat.le_of_ble_eq_true rfl) (Nat.le_of_ble_eq_true rfl) (Nat.le_of_ble_eq_true rfl) (Nat.le_of_ble_eq_true rfl) hlocks (⟨rfl, hno, rfl⟩) (Nat.le_of_ble_eq_true rfl) (Nat.le_of_ble_eq_true rfl)
  | some r9 =>
    obtain ⟨j, hj, ej, hr9⟩ := rowAt_some hpm ec
    subst ej
    obtain ⟨fr9, fb9, hz9, hg9⟩ := hrows j r9 (by omega) hr9
    rw [show va_rf (some r9) = .ref r9 from rfl]
    refine lv_astore_n (lv' := [(3, .ref r9), (0, .ref x), (1, .int (nI j)), (2, .int i)]) hx hb dX8_byteOf_8 rfl hl (by decide) rfl (fun ls hl => ?_)
    refine lv_aload_n hx hb dX8_byteOf_9 rfl (lv_at hl 0 rfl) ?_
    refine lv_ifnonnull (tgt := 23) hx hb dX8_byteOf_10 (by decide) ?_
    refine lv_aload_n hx hb dX8_byteOf_23 rfl (lv_at hl 0 rfl) ?_
    refine lv_iload_n hx hb dX8_byteOf_24 rfl (lv_at hl 3 rfl) ?_
    refine ah_calli (va_runV (As := [.int i]) (rest := []) ⟨hx, hb, hml, hown, hts⟩ (c_Row_byteAt l G h r9 (rb j) (100 + 2 * j) (101 + 2 * j) 142 (z j) (g j) fr9 fb9 (by omega) hz9 (by decide) i) (cwV 1 hts gX8_byteOf_X6_byteAt rfl rfl rfl (by decide +kernel) ⟨Nat.le_of_ble_eq_true rfl, Nat.le_of_ble_eq_true rfl⟩) (ah_preV hE hR hS fr9 rfl) rfl rfl hl.1 rfl (lv_room (Nat.le_of_ble_eq_true rfl)) dX8_byteOf_25 ⟨Nat.le_of_ble_eq_true rfl, Nat.le_of_ble_eq_true rfl⟩) hS (fun r_6 h_4 H locs p_5 hR hS => ?_)
    obtain ⟨e_7, e_8⟩ := p_5
    rw [e_8] at hR
    refine ah_toi e_7 ?_
    refine W.widen (k := 1) (n := 6) (by omega) (by omega) ?_
    refine vx_ret ?_
    refine ah_iret (v := rwA (g j) (z j) i) hx hb hr hlocks hR hS dX8_byteOf_28 ?_
    exact ⟨j, hj, rfl, rfl, rfl⟩

set_option maxHeartbeats 4000000 in
set_option maxRecDepth 100000 in
theorem c_isSender (l : Launch) (G : ah_G) (h : ah_H) (u : Int32) : Met l yX8_isSender wsX8_isSender ({ frames := 0, cells := 0, slots := 0, locals := 0 }) (ah_Pc G [.int u] h) (ah_Qi G (fun v h' => (v = nI 1 ∧ inR 1000 u ∨ v = nI 0 ∧ ¬ inR 1000 u) ∧ h' = h)) 0 0 (ah_A G) := by
  refine ah_ofW (cc := cX8_isSender) (maxL := 1) (ret := (some .boolean)) (by decide) rfl (Nat.le_of_ble_eq_true rfl) ?_
  intro p e s m below meth cd9 ls hx hb hr hml hown hlocks hname hts hE hR hS hl
  have hown : s.vm.findClass RX8 = some m.cls := hown
  have hl : lv_has ls 1 [(0, .int u)] := hl
  refine lv_iload_n hx hb dX8_isSender_0 rfl (lv_at hl 0 rfl) ?_
  refine lv_if_lt (tgt := 15) hx hb dX8_isSender_1 (by decide) (fun c_1 => ?_) (fun c_1 => ?_)
  · skip
    refine lv_iconst (v := nI 0) hx hb dX8_isSender_15 (by decide) ?_
    refine ah_zret (v := nI 0) hx hb hr hlocks hR hS dX8_isSender_16 (by decide) ?_
    exact ⟨Or.inr ⟨rfl, inR_neg (by decide) c_1⟩, rfl⟩
  · skip
    refine lv_iload_n hx hb dX8_isSender_4 rfl (lv_at hl 0 rfl) ?_
    refine lv_sipush (v := nI 999) hx hb dX8_isSender_5 (by decide) ?_
    refine lv_icmp_gt (tgt := 15) hx hb dX8_isSender_8 (by decide) (fun c_2 => ?_) (fun c_2 => ?_)
    · skip
      refine lv_iconst (v := nI 0) hx hb dX8_isSender_15 (by decide) ?_
      refine ah_zret (v := nI 0) hx hb hr hlocks hR hS dX8_isSender_16 (by decide) ?_
      exact ⟨Or.inr ⟨rfl, inR_gt (n := 999) (by decide) (Int32.not_le.mpr c_2)⟩, rfl⟩
    · skip
      refine lv_iconst (v := nI 1) hx hb dX8_isSender_11 (by decide) ?_
      refine lv_goto (tgt := 16) hx hb dX8_isSender_12 (by decide) ?_
      refine ah_zret (v := nI 1) hx hb hr hlocks hR hS dX8_isSender_16 (by decide) ?_
      exact ⟨Or.inl ⟨rfl, inR_in (n := 999) (by decide) c_1 (Int32.not_lt.mp c_2)⟩, rfl⟩

set_option maxHeartbeats 4000000 in
set_option maxRecDepth 100000 in
theorem c_take (l : Launch) (hlt : l.stackTraces = false) (G : ah_G) (h : ah_H) (x n pm zh rf c pt : Nat) (f z : Nat → Nat) (g : Nat → Nat → Nat) (gh : Nat → Nat) (D : Nat → hDt) (lat : Option (Nat × (Nat → List Nat))) (htp : tp G h x n f pm z g zh gh rf c pt D lat) (hpt : pt < 2 ^ 19) (u0 u : Int32) : vx_Met l yX8_take wsX8_take ({ frames := 6, cells := 4, slots := 422, locals := 135 }) (ah_Px G [.ref x, .int u0, .int u] h) (ah_Qi G (fun v h' => ∃ j s9, j < pm ∧ u = nI j ∧ s9 < 1000 ∧ u0 = nI s9 ∧ ∃ (c' pt' : Nat) (D' : Nat → hDt) (lt : Option (Nat × (Nat → List Nat))), accR c pt D (g j) (z j) s9 v c' pt' D' lt ∧ tp G h' x n f pm z g zh gh rf c' pt' D' (lt.or lat) ∧ agr (fun t => ¬ cT t) h h')) (ah_QX G (fun E h' => E = eIA ∧ ¬ (inR 1000 u0 ∧ inR pm u) ∧ h' = h)) 4 422 (ah_A G) := by
  refine ah_ofX (cc := cX8_take) (maxL := 4) (ret := (some .int)) (by decide) rfl (Nat.le_of_ble_eq_true rfl) ?_
  intro p e s m below meth cd9 ls hx hb hr hml hown hlocks hname hts htb hX hE hR hS hl
  have hown : s.vm.findClass RX8 = some m.cls := hown
  have hl : lv_has ls 4 [(0, .ref x), (1, .int u0), (2, .int u)] := hl
  have k19 := hts (.fieldLink RX8 19 "TextParts" "made" "LTextParts$Message;") (by decide +kernel)
  have hinX8 : ∀ w ∈ wsX80, w ∈ wsX8_take := by decide +kernel
  have wclassLink_RX8_44_java_lang_IllegalArgumentException := hts (.classLink RX8 44 "java/lang/IllegalArgumentException") (by decide +kernel)
  have winitialized_java_lang_IllegalArgumentException := hts (.initialized "java/lang/IllegalArgumentException") (by decide +kernel)
  have k35 := hts (.fieldLink RX8 35 "TextParts" "inbox" "LTextParts$Inbox;") (by decide +kernel)
  obtain ⟨t, ua, m0, ra, ah, ab, ib, hp, rd, ru, rr, rb, fx, ft, fu, hn, hf, fm, fa, hpm, hrows, hsome, fh, fb, hzh, hgh, hrf, hbox⟩ := htp
  have hss := sumS_le f 0 n; have hos := outs_le f n
  refine lv_aload_n hx hb dX8_take_0 rfl (lv_at hl 0 rfl) ?_
  refine ah_get (ci := 7) (v := .ref m0) (C := RX8) (T := TX8) (N := 5) hx hb hE hR hts hinX8 hown fx rfl 1 (by decide) k19 (fun _ h9 => h9) rfl dX8_take_1 ?_
  refine lv_iload_n hx hb dX8_take_4 rfl (lv_at hl 2 rfl) ?_
  refine ah_callq (va_runV (As := [.int u]) (rest := []) ⟨hx, hb, hml, hown, hts⟩ (c_Msg_rowOf l G h m0 ra pm rr fm fa hpm u) (cwV 1 hts gX8_take_X3_rowOf rfl rfl rfl (by decide +kernel) ⟨Nat.le_of_ble_eq_true rfl, Nat.le_of_ble_eq_true rfl⟩) (ah_preV hE hR hS fm rfl) rfl rfl hl.1 rfl (lv_room (Nat.le_of_ble_eq_true rfl)) dX8_take_5 ⟨Nat.le_of_ble_eq_true rfl, Nat.le_of_ble_eq_true rfl⟩) hS (fun r_3 h_1 H locs p_2 hR hS => ?_)
  obtain ⟨er, eh9⟩ := p_2
  rw [eh9] at hR
  rw [er]
  cases ec : rowAt rr pm u with
  | none =>
    have hno := rowAt_none hpm hsome ec
    rw [show va_rf none = .null from rfl]
    refine lv_astore_nN (lv' := [(3, .null), (0, .ref x), (1, .int u0), (2, .int u)]) hx hb dX8_take_8 rfl hl (by decide) rfl (fun ls hl => ?_)
    refine lv_aload_nN hx hb dX8_take_9 rfl (lv_at hl 0 rfl) ?_
    refine lv_ifnullN (tgt := 20) hx hb dX8_take_10 (by decide) ?_
    exact ah_thr (E := eIA) (tx := "no such part or sender") (ik := 44) (is := 112) (ic := 48) hx hb hlt hown (by decide) wclassLink_RX8_44_java_lang_IllegalArgumentException winitialized_java_lang_IllegalArgumentException hX.2.2.2.2.2.2.2.2.1 (fun w hw => hts w (List.mem_cons_of_mem _ (List.mem_append.mpr (Or.inr hw)))) (by decide +kernel) hX.2.2.1.2.2.2.1 (by decide +kernel) hX hR hS (hl.1.trans hml.symm) dX8_take_20 dX8_take_23 dX8_take_24 dX8_take_26 dX8_take_29 htb (Nat.le_of_ble_eq_true rfl) (Nat.le_of_ble_eq_true rfl) (Nat.le_of_ble_eq_true rfl) (Nat.le_of_ble_eq_true rfl) hlocks (⟨rfl, fun q => hno q.2, rfl⟩) (Nat.le_of_ble_eq_true rfl) (Nat.le_of_ble_eq_true rfl)
  | some r9 =>
    obtain ⟨j, hj, ej, hr9⟩ := rowAt_some hpm ec
    subst ej
    obtain ⟨fr9, fb9, hz9, hg9⟩ := hrows j r9 (by omega) hr9
    rw [show va_rf (some r9) = .ref r9 from rfl]
    refine lv_astore_n (lv' := [(3, .ref r9), (0, .ref x), (1, .int u0), (2, .int (nI j))]) hx hb dX8_take_8 rfl hl (by decide) rfl (fun ls hl => ?_)
    refine lv_aload_n hx hb dX8_take_9 rfl (lv_at hl 0 rfl) ?_
    refine lv_ifnull hx hb dX8_take_10 ?_
    refine lv_iload_n hx hb dX8_take_13 rfl (lv_at hl 2 rfl) ?_
    refine ah_calli (va_runS (As := [.int u0]) (rest := []) ⟨hx, hb, hml, hown, hts⟩ (c_isSender l G h u0) (va_cwS 1 hts gX8_take_X8_isSender rfl rfl rfl (by decide +kernel) ⟨Nat.le_of_ble_eq_true rfl, Nat.le_of_ble_eq_true rfl⟩) (ah_preS hE hR hS) rfl rfl hl.1 rfl (lv_room (Nat.le_of_ble_eq_true rfl)) dX8_take_14 ⟨Nat.le_of_ble_eq_true rfl, Nat.le_of_ble_eq_true rfl⟩) hS (fun r_6 h_4 H locs p_5 hR hS => ?_)
    obtain ⟨hsn, eh8⟩ := p_5
    rw [eh8] at hR
    rcases hsn with ⟨ev8, s9, hs9, es9⟩ | ⟨ev8, hns⟩
    · skip
      subst es9
      refine ah_toi ev8 ?_
      refine lv_if_ne (tgt := 30) hx hb dX8_take_17 (by decide) (fun c_7 => ?_) (fun c_7 => ?_)
      · skip
        obtain ⟨lo9, hf9, fi9, hbx0⟩ := hbox
        have hbox : ibx G h ib hp rd ru c pt D lat := ⟨lo9, hf9, fi9, hbx0⟩
        refine lv_aload_n hx hb dX8_take_30 rfl (lv_at hl 1 rfl) ?_
        refine ah_get (ci := 7) (v := .ref ib) (C := RX8) (T := TX8) (N := 5) hx hb hE hR hts hinX8 hown fx rfl 3 (by decide) k35 (fun _ h9 => h9) rfl dX8_take_31 ?_
        refine lv_iload_n hx hb dX8_take_34 rfl (lv_at hl 2 rfl) ?_
        refine lv_aload_n hx hb dX8_take_35 rfl (lv_at hl 0 rfl) ?_
        refine ah_calli (va_runV (As := [.int (nI s9), .ref r9]) (rest := []) ⟨hx, hb, hml, hown, hts⟩ (c_Ib_accept l G h ib hp rd ru c pt D lat hbox hpt s9 (by omega) r9 (rb j) (100 + 2 * j) (101 + 2 * j) 142 (z j) (g j) fr9 fb9 (by omega) hz9 (by decide) hg9 (by unfold boxT; omega) (by unfold boxT; omega)) (cwV 2 hts gX8_take_X2_accept rfl rfl rfl (by decide +kernel) ⟨Nat.le_of_ble_eq_true rfl, Nat.le_of_ble_eq_true rfl⟩) (ah_preV hE hR hS fi9 rfl) rfl rfl hl.1 rfl (lv_room (Nat.le_of_ble_eq_true rfl)) dX8_take_36 ⟨Nat.le_of_ble_eq_true rfl, Nat.le_of_ble_eq_true rfl⟩) hS (fun r_10 h_8 H locs p_9 hR hS => ?_)
        obtain ⟨c7, pt7, D7, lt7, hac7, hbx7, ag6⟩ := p_9
        have f_11 : h_8 x = some (1, .inr (7, [.ref t, .ref m0, .ref ah, .ref ib, .int (nI rf)])) := ag6 _ _ _ (by omega) fx
        have f_12 : h_8 t = some (2, .inr (6, [.ref ua, .int (nI n), .int (nI (sumS f 0 n)), .int (nI (outs f n))])) := ag6 _ _ _ (by omega) ft
        have f_13 : h_8 ua = some (3, .inl (G.2.2.1 0, 3000, .inl (nA f))) := ag6 _ _ _ (by omega) fu
        have f_14 : h_8 m0 = some (4, .inr (2, [.ref ra, .int (nI pm)])) := ag6 _ _ _ (by omega) fm
        have f_15 : h_8 ra = some (5, .inl (G.2.2.1 3, 255, .inr (.inr (.inr (.inr rr))))) := ag6 _ _ _ (by omega) fa
        have f_16 : h_8 ah = some (6, .inr (5, [.ref ab, .int (nI zh)])) := ag6 _ _ _ (by omega) fh
        have f_17 : h_8 ab = some (7, .inl (G.2.2.1 0, 200, .inl (nA gh))) := ag6 _ _ _ (by omega) fb
        have f_18 : h_8 r9 = some (100 + 2 * j, .inr (5, [.ref (rb j), .int (nI (z j))])) := ag6 _ _ _ (by omega) fr9
        have f_19 : h_8 (rb j) = some (101 + 2 * j, .inl (G.2.2.1 0, 142, .inl (nA (g j)))) := ag6 _ _ _ (by omega) fb9
        refine W.widen (k := 4) (n := 422) (by omega) (by omega) ?_
        refine vx_ret ?_
        refine ah_iret (v := r_10) hx hb hr hlocks hR hS dX8_take_39 ?_
        exact ⟨j, s9, hj, rfl, hs9, rfl, c7, pt7, D7, lt7, hac7, ⟨t, ua, m0, ra, ah, ab, ib, hp, rd, ru, rr, rb, f_11, f_12, f_13, hn, hf, f_14, f_15, hpm, hrows.frame (ag6.weak (fun t9 q9 => by omega)), hsome, f_16, f_17, hzh, hgh, hrf, hbx7⟩, ag6.weak (fun t9 q9 => by unfold cT at q9; omega)⟩
      · skip
        exact absurd c_7 (by decide)
    · skip
      refine ah_toi ev8 ?_
      refine lv_if_ne (tgt := 30) hx hb dX8_take_17 (by decide) (fun c_20 => ?_) (fun c_20 => ?_)
      · skip
        exact absurd c_20 (by decide)
      · skip
        exact ah_thr (E := eIA) (tx := "no such part or sender") (ik := 44) (is := 112) (ic := 48) hx hb hlt hown (by decide) wclassLink_RX8_44_java_lang_IllegalArgumentException winitialized_java_lang_IllegalArgumentException hX.2.2.2.2.2.2.2.2.1 (fun w hw => hts w (List.mem_cons_of_mem _ (List.mem_append.mpr (Or.inr hw)))) (by decide +kernel) hX.2.2.1.2.2.2.1 (by decide +kernel) hX hR hS (hl.1.trans hml.symm) dX8_take_20 dX8_take_23 dX8_take_24 dX8_take_26 dX8_take_29 htb (Nat.le_of_ble_eq_true rfl) (Nat.le_of_ble_eq_true rfl) (Nat.le_of_ble_eq_true rfl) (Nat.le_of_ble_eq_true rfl) hlocks (⟨rfl, fun q => hns q.1, rfl⟩) (Nat.le_of_ble_eq_true rfl) (Nat.le_of_ble_eq_true rfl)

/-- a call of alter that is heard -/
def altOk (pm : Nat) (z : Nat → Nat) (u i b : Int32) : Prop := ∃ j, j < pm ∧ u = nI j ∧ inR (z j) i ∧ inR 256 b
set_option maxHeartbeats 4000000 in
set_option maxRecDepth 100000 in
theorem c_alter (l : Launch) (hlt : l.stackTraces = false) (G : ah_G) (h : ah_H) (x n pm zh rf c pt : Nat) (f z : Nat → Nat) (g : Nat → Nat → Nat) (gh : Nat → Nat) (D : Nat → hDt) (lat : Option (Nat × (Nat → List Nat))) (htp : tp G h x n f pm z g zh gh rf c pt D lat) (u i b9 : Int32) : vx_Met l yX8_alter wsX8_alter ({ frames := 6, cells := 1, slots := 6, locals := 100 }) (ah_Px G [.ref x, .int u, .int i, .int b9] h) (ah_Qi G (fun v h' => ∃ j k b, j < pm ∧ u = nI j ∧ k < z j ∧ i = nI k ∧ b < 256 ∧ b9 = nI b ∧ v = nI (g j k) ∧ tp G h' x n f pm z (rowU g j k b) zh gh rf c pt D lat ∧ agr (fun t => ¬ cT t) h h')) (ah_QX G (fun E h' => E = eIA ∧ ¬ altOk pm z u i b9 ∧ h' = h)) 1 6 (ah_A G) := by
  refine ah_ofX (cc := cX8_alter) (maxL := 6) (ret := (some .int)) (by decide) rfl (Nat.le_of_ble_eq_true rfl) ?_
  intro p e s m below meth cd9 ls hx hb hr hml hown hlocks hname hts htb hX hE hR hS hl
  have hown : s.vm.findClass RX8 = some m.cls := hown
  have hl : lv_has ls 6 [(0, .ref x), (1, .int u), (2, .int i), (3, .int b9)] := hl
  have k19 := hts (.fieldLink RX8 19 "TextParts" "made" "LTextParts$Message;") (by decide +kernel)
  have hinX8 : ∀ w ∈ wsX80, w ∈ wsX8_alter := by decide +kernel
  have wclassLink_RX8_44_java_lang_IllegalArgumentException := hts (.classLink RX8 44 "java/lang/IllegalArgumentException") (by decide +kernel)
  have winitialized_java_lang_IllegalArgumentException := hts (.initialized "java/lang/IllegalArgumentException") (by decide +kernel)
  obtain ⟨t, ua, m0, ra, ah, ab, ib, hp, rd, ru, rr, rb, fx, ft, fu, hn, hf, fm, fa, hpm, hrows, hsome, fh, fb, hzh, hgh, hrf, hbox⟩ := htp
  have hss := sumS_le f 0 n; have hos := outs_le f n
  have hinj : ∀ q, q < pm → ∀ j, j < pm → nI j = nI q → j = q := fun q hq j hj e => (nI_eq (by omega) (by omega)).mp e
  refine lv_aload_n hx hb dX8_alter_0 rfl (lv_at hl 0 rfl) ?_
  refine ah_get (ci := 7) (v := .ref m0) (C := RX8) (T := TX8) (N := 5) hx hb hE hR hts hinX8 hown fx rfl 1 (by decide) k19 (fun _ h9 => h9) rfl dX8_alter_1 ?_
  refine lv_iload_n hx hb dX8_alter_4 rfl (lv_at hl 1 rfl) ?_
  refine ah_callq (va_runV (As := [.int u]) (rest := []) ⟨hx, hb, hml, hown, hts⟩ (c_Msg_rowOf l G h m0 ra pm rr fm fa hpm u) (cwV 1 hts gX8_alter_X3_rowOf rfl rfl rfl (by decide +kernel) ⟨Nat.le_of_ble_eq_true rfl, Nat.le_of_ble_eq_true rfl⟩) (ah_preV hE hR hS fm rfl) rfl rfl hl.1 rfl (lv_room (Nat.le_of_ble_eq_true rfl)) dX8_alter_5 ⟨Nat.le_of_ble_eq_true rfl, Nat.le_of_ble_eq_true rfl⟩) hS (fun r_3 h_1 H locs p_2 hR hS => ?_)
  obtain ⟨er, eh9⟩ := p_2
  rw [eh9] at hR
  rw [er]
  cases ec : rowAt rr pm u with
  | none =>
    have hno := rowAt_none hpm hsome ec
    rw [show va_rf none = .null from rfl]
    refine lv_astoreN (lv' := [(4, .null), (0, .ref x), (1, .int u), (2, .int i), (3, .int b9)]) hx hb dX8_alter_8 hl (by decide) rfl (fun ls hl => ?_)
    refine lv_aloadN hx hb dX8_alter_10 (lv_at hl 0 rfl) ?_
    refine lv_ifnullN (tgt := 36) hx hb dX8_alter_12 (by decide) ?_
    exact ah_thr (E := eIA) (tx := "no such part or byte") (ik := 44) (is := 118) (ic := 48) hx hb hlt hown (by decide) wclassLink_RX8_44_java_lang_IllegalArgumentException winitialized_java_lang_IllegalArgumentException hX.2.2.2.2.2.2.2.2.2.1 (fun w hw => hts w (List.mem_cons_of_mem _ (List.mem_append.mpr (Or.inr hw)))) (by decide +kernel) hX.2.2.1.2.2.2.1 (by decide +kernel) hX hR hS (hl.1.trans hml.symm) dX8_alter_36 dX8_alter_39 dX8_alter_40 dX8_alter_42 dX8_alter_45 htb (Nat.le_of_ble_eq_true rfl) (Nat.le_of_ble_eq_true rfl) (Nat.le_of_ble_eq_true rfl) (Nat.le_of_ble_eq_true rfl) hlocks (⟨rfl, fun ⟨q, q1, q2, _⟩ => hno ⟨q, q1, q2⟩, rfl⟩) (Nat.le_of_ble_eq_true rfl) (Nat.le_of_ble_eq_true rfl)
  | some r9 =>
    obtain ⟨j, hj, ej, hr9⟩ := rowAt_some hpm ec
    subst ej
    obtain ⟨fr9, fb9, hz9, hg9⟩ := hrows j r9 (by omega) hr9
    rw [show va_rf (some r9) = .ref r9 from rfl]
    refine lv_astore (lv' := [(4, .ref r9), (0, .ref x), (1, .int (nI j)), (2, .int i), (3, .int b9)]) hx hb dX8_alter_8 hl (by decide) rfl (fun ls hl => ?_)
    refine lv_aload hx hb dX8_alter_10 (lv_at hl 0 rfl) ?_
    refine lv_ifnull hx hb dX8_alter_12 ?_
    refine lv_aload hx hb dX8_alter_15 (lv_at hl 0 rfl) ?_
    refine lv_iload_n hx hb dX8_alter_17 rfl (lv_at hl 3 rfl) ?_
    refine ah_calli (va_runV (As := [.int i]) (rest := []) ⟨hx, hb, hml, hown, hts⟩ (c_Row_byteAt l G h r9 (rb j) (100 + 2 * j) (101 + 2 * j) 142 (z j) (g j) fr9 fb9 (by omega) hz9 (by decide) i) (cwV 1 hts gX8_alter_X6_byteAt rfl rfl rfl (by decide +kernel) ⟨Nat.le_of_ble_eq_true rfl, Nat.le_of_ble_eq_true rfl⟩) (ah_preV hE hR hS fr9 rfl) rfl rfl hl.1 rfl (lv_room (Nat.le_of_ble_eq_true rfl)) dX8_alter_18 ⟨Nat.le_of_ble_eq_true rfl, Nat.le_of_ble_eq_true rfl⟩) hS (fun r_6 h_4 H locs p_5 hR hS => ?_)
    obtain ⟨e_7, e_8⟩ := p_5
    rw [e_8] at hR
    refine ah_toi e_7 ?_
    refine lv_iconst (v := (-1)) hx hb dX8_alter_21 (by decide) ?_
    refine lv_icmp_eq (tgt := 36) hx hb dX8_alter_22 (by decide) (fun c_9 => ?_) (fun c_9 => ?_)
    · skip
      exact ah_thr (E := eIA) (tx := "no such part or byte") (ik := 44) (is := 118) (ic := 48) hx hb hlt hown (by decide) wclassLink_RX8_44_java_lang_IllegalArgumentException winitialized_java_lang_IllegalArgumentException hX.2.2.2.2.2.2.2.2.2.1 (fun w hw => hts w (List.mem_cons_of_mem _ (List.mem_append.mpr (Or.inr hw)))) (by decide +kernel) hX.2.2.1.2.2.2.1 (by decide +kernel) hX hR hS (hl.1.trans hml.symm) dX8_alter_36 dX8_alter_39 dX8_alter_40 dX8_alter_42 dX8_alter_45 htb (Nat.le_of_ble_eq_true rfl) (Nat.le_of_ble_eq_true rfl) (Nat.le_of_ble_eq_true rfl) (Nat.le_of_ble_eq_true rfl) hlocks (⟨rfl, fun ⟨q, q1, q2, q3, q4⟩ => rwA_no (by omega) c_9 hg9 (by rw [hinj q q1 j hj q2]; exact q3), rfl⟩) (Nat.le_of_ble_eq_true rfl) (Nat.le_of_ble_eq_true rfl)
    · skip
      obtain ⟨k, hk, ek⟩ := rwA_yes (by omega) c_9
      subst ek
      refine lv_iload_n hx hb dX8_alter_25 rfl (lv_at hl 4 rfl) ?_
      refine lv_if_lt (tgt := 36) hx hb dX8_alter_26 (by decide) (fun c_10 => ?_) (fun c_10 => ?_)
      · skip
        exact ah_thr (E := eIA) (tx := "no such part or byte") (ik := 44) (is := 118) (ic := 48) hx hb hlt hown (by decide) wclassLink_RX8_44_java_lang_IllegalArgumentException winitialized_java_lang_IllegalArgumentException hX.2.2.2.2.2.2.2.2.2.1 (fun w hw => hts w (List.mem_cons_of_mem _ (List.mem_append.mpr (Or.inr hw)))) (by decide +kernel) hX.2.2.1.2.2.2.1 (by decide +kernel) hX hR hS (hl.1.trans hml.symm) dX8_alter_36 dX8_alter_39 dX8_alter_40 dX8_alter_42 dX8_alter_45 htb (Nat.le_of_ble_eq_true rfl) (Nat.le_of_ble_eq_true rfl) (Nat.le_of_ble_eq_true rfl) (Nat.le_of_ble_eq_true rfl) hlocks (⟨rfl, fun ⟨q, q1, q2, q3, q4⟩ => inR_neg (by decide) c_10 q4, rfl⟩) (Nat.le_of_ble_eq_true rfl) (Nat.le_of_ble_eq_true rfl)
      · skip
        refine lv_iload_n hx hb dX8_alter_29 rfl (lv_at hl 4 rfl) ?_
        refine lv_sipush (v := nI 255) hx hb dX8_alter_30 (by decide) ?_
        refine lv_icmp_le (tgt := 46) hx hb dX8_alter_33 (by decide) (fun c_11 => ?_) (fun c_11 => ?_)
        · skip
          obtain ⟨b, hb9, eb⟩ := inR_in (n := 255) (by decide) c_10 c_11
          subst eb
          refine lv_aload hx hb dX8_alter_46 (lv_at hl 0 rfl) ?_
          refine lv_iload_n hx hb dX8_alter_48 rfl (lv_at hl 3 rfl) ?_
          refine ah_calli (va_runV (As := [.int (nI k)]) (rest := []) ⟨hx, hb, hml, hown, hts⟩ (c_Row_byteAt l G h r9 (rb j) (100 + 2 * j) (101 + 2 * j) 142 (z j) (g j) fr9 fb9 (by omega) hz9 (by decide) (nI k)) (cwV 1 hts gX8_alter_X6_byteAt rfl rfl rfl (by decide +kernel) ⟨Nat.le_of_ble_eq_true rfl, Nat.le_of_ble_eq_true rfl⟩) (ah_preV hE hR hS fr9 rfl) rfl rfl hl.1 rfl (lv_room (Nat.le_of_ble_eq_true rfl)) dX8_alter_49 ⟨Nat.le_of_ble_eq_true rfl, Nat.le_of_ble_eq_true rfl⟩) hS (fun r_14 h_12 H locs p_13 hR hS => ?_)
          obtain ⟨e_15, e_16⟩ := p_13
          rw [e_16] at hR
          refine ah_toi e_15 ?_
          refine ah_toi (v := nI (g j k)) (rwA_in hk (by omega)) ?_
          refine lv_istore (lv' := [(5, .int (nI (g j k))), (4, .ref r9), (0, .ref x), (1, .int (nI j)), (2, .int (nI k)), (3, .int (nI b))]) hx hb dX8_alter_52 hl (by decide) rfl (fun ls hl => ?_)
          refine lv_aload hx hb dX8_alter_54 (lv_at hl 1 rfl) ?_
          refine lv_iload_n hx hb dX8_alter_56 rfl (lv_at hl 4 rfl) ?_
          refine lv_iload_n hx hb dX8_alter_57 rfl (lv_at hl 5 rfl) ?_
          refine ah_callv (va_runV (As := [.int (nI k), .int (nI b)]) (rest := []) ⟨hx, hb, hml, hown, hts⟩ (c_Row_setByte l G h r9 (rb j) (100 + 2 * j) (101 + 2 * j) 142 (z j) (g j) fr9 fb9 (by omega) hz9 (by decide) k b (by omega)) (cwV 2 hts gX8_alter_X6_setByte rfl rfl rfl (by decide +kernel) ⟨Nat.le_of_ble_eq_true rfl, Nat.le_of_ble_eq_true rfl⟩) (ah_preV hE hR hS fr9 rfl) rfl rfl hl.1 rfl (lv_room (Nat.le_of_ble_eq_true rfl)) dX8_alter_58 ⟨Nat.le_of_ble_eq_true rfl, Nat.le_of_ble_eq_true rfl⟩) hS (fun h_17 H locs p_18 hR hS => ?_)
          rw [show rwS (g j) (z j) k b = gU (g j) k b from if_pos hk] at p_18
          have ag6 : agr (fun t => ¬ (100 ≤ t ∧ t < 610)) h h_17 := by rw [p_18]; exact agr.rf.up fb9 (by omega)
          have f_20 : h_17 x = some (1, .inr (7, [.ref t, .ref m0, .ref ah, .ref ib, .int (nI rf)])) := ag6 _ _ _ (by omega) fx
          have f_21 : h_17 t = some (2, .inr (6, [.ref ua, .int (nI n), .int (nI (sumS f 0 n)), .int (nI (outs f n))])) := ag6 _ _ _ (by omega) ft
          have f_22 : h_17 ua = some (3, .inl (G.2.2.1 0, 3000, .inl (nA f))) := ag6 _ _ _ (by omega) fu
          have f_23 : h_17 m0 = some (4, .inr (2, [.ref ra, .int (nI pm)])) := ag6 _ _ _ (by omega) fm
          have f_24 : h_17 ra = some (5, .inl (G.2.2.1 3, 255, .inr (.inr (.inr (.inr rr))))) := ag6 _ _ _ (by omega) fa
          have f_25 : h_17 ah = some (6, .inr (5, [.ref ab, .int (nI zh)])) := ag6 _ _ _ (by omega) fh
          have f_26 : h_17 ab = some (7, .inl (G.2.2.1 0, 200, .inl (nA gh))) := ag6 _ _ _ (by omega) fb
          refine lv_iload hx hb dX8_alter_61 (lv_at hl 0 rfl) ?_
          refine W.widen (k := 1) (n := 6) (by omega) (by omega) ?_
          refine vx_ret ?_
          refine ah_iret (v := nI (g j k)) hx hb hr hlocks hR hS dX8_alter_63 ?_
          exact ⟨j, k, b, hj, rfl, hk, rfl, hb9, rfl, rfl, ⟨t, ua, m0, ra, ah, ab, ib, hp, rd, ru, rr, rb, f_20, f_21, f_22, hn, hf, f_23, f_24, hpm, (hrows.setC (by omega) hr9 hb9 p_18), hsome, f_25, f_26, hzh, hgh, hrf, hbox.frame (ag6.weak (fun t9 q9 => by unfold boxT at q9; omega))⟩, ag6.weak (fun t9 q9 => by unfold cT at q9; omega)⟩
        · skip
          exact ah_thr (E := eIA) (tx := "no such part or byte") (ik := 44) (is := 118) (ic := 48) hx hb hlt hown (by decide) wclassLink_RX8_44_java_lang_IllegalArgumentException winitialized_java_lang_IllegalArgumentException hX.2.2.2.2.2.2.2.2.2.1 (fun w hw => hts w (List.mem_cons_of_mem _ (List.mem_append.mpr (Or.inr hw)))) (by decide +kernel) hX.2.2.1.2.2.2.1 (by decide +kernel) hX hR hS (hl.1.trans hml.symm) dX8_alter_36 dX8_alter_39 dX8_alter_40 dX8_alter_42 dX8_alter_45 htb (Nat.le_of_ble_eq_true rfl) (Nat.le_of_ble_eq_true rfl) (Nat.le_of_ble_eq_true rfl) (Nat.le_of_ble_eq_true rfl) hlocks (⟨rfl, fun ⟨q, q1, q2, q3, q4⟩ => inR_gt (n := 255) (by decide) c_11 q4, rfl⟩) (Nat.le_of_ble_eq_true rfl) (Nat.le_of_ble_eq_true rfl)

set_option maxHeartbeats 4000000 in
set_option maxRecDepth 100000 in
theorem c_read (l : Launch) (hlt : l.stackTraces = false) (G : ah_G) (h : ah_H) (x n pm zh rf c pt : Nat) (f z : Nat → Nat) (g : Nat → Nat → Nat) (gh : Nat → Nat) (D : Nat → hDt) (lat : Option (Nat × (Nat → List Nat))) (htp : tp G h x n f pm z g zh gh rf c pt D lat) (hpt : pt < 2 ^ 19) (u0 : Int32) : vx_Met l yX8_read wsX8_read ({ frames := 6, cells := 4, slots := 422, locals := 135 }) (ah_Px G [.ref x, .int u0] h) (ah_Qi G (fun v h' => ∃ s9, s9 < 1000 ∧ u0 = nI s9 ∧ ∃ (c' pt' : Nat) (D' : Nat → hDt) (lt : Option (Nat × (Nat → List Nat))), accR c pt D gh zh s9 v c' pt' D' lt ∧ tp G h' x n f pm z g 0 (fun _ => 0) rf c' pt' D' (lt.or lat) ∧ agr (fun t => ¬ cT t) h h')) (ah_QX G (fun E h' => E = eIA ∧ ¬ inR 1000 u0 ∧ h' = h)) 4 422 (ah_A G) := by
  refine ah_ofX (cc := cX8_read) (maxL := 3) (ret := (some .int)) (by decide) rfl (Nat.le_of_ble_eq_true rfl) ?_
  intro p e s m below meth cd9 ls hx hb hr hml hown hlocks hname hts htb hX hE hR hS hl
  have hown : s.vm.findClass RX8 = some m.cls := hown
  have hl : lv_has ls 3 [(0, .ref x), (1, .int u0)] := hl
  have k35 := hts (.fieldLink RX8 35 "TextParts" "inbox" "LTextParts$Inbox;") (by decide +kernel)
  have hinX8 : ∀ w ∈ wsX80, w ∈ wsX8_read := by decide +kernel
  have k28 := hts (.fieldLink RX8 28 "TextParts" "atHand" "LTextParts$Row;") (by decide +kernel)
  have wclassLink_RX8_44_java_lang_IllegalArgumentException := hts (.classLink RX8 44 "java/lang/IllegalArgumentException") (by decide +kernel)
  have winitialized_java_lang_IllegalArgumentException := hts (.initialized "java/lang/IllegalArgumentException") (by decide +kernel)
  obtain ⟨t, ua, m0, ra, ah, ab, ib, hp, rd, ru, rr, rb, fx, ft, fu, hn, hf, fm, fa, hpm, hrows, hsome, fh, fb, hzh, hgh, hrf, hbox⟩ := htp
  have hss := sumS_le f 0 n; have hos := outs_le f n
  refine lv_iload_n hx hb dX8_read_0 rfl (lv_at hl 1 rfl) ?_
  refine ah_calli (va_runS (As := [.int u0]) (rest := []) ⟨hx, hb, hml, hown, hts⟩ (c_isSender l G h u0) (va_cwS 1 hts gX8_read_X8_isSender rfl rfl rfl (by decide +kernel) ⟨Nat.le_of_ble_eq_true rfl, Nat.le_of_ble_eq_true rfl⟩) (ah_preS hE hR hS) rfl rfl hl.1 rfl (lv_room (Nat.le_of_ble_eq_true rfl)) dX8_read_1 ⟨Nat.le_of_ble_eq_true rfl, Nat.le_of_ble_eq_true rfl⟩) hS (fun r_3 h_1 H locs p_2 hR hS => ?_)
  obtain ⟨hsn, eh8⟩ := p_2
  rw [eh8] at hR
  rcases hsn with ⟨ev8, s9, hs9, es9⟩ | ⟨ev8, hns⟩
  · skip
    subst es9
    refine ah_toi ev8 ?_
    refine lv_if_ne (tgt := 17) hx hb dX8_read_4 (by decide) (fun c_4 => ?_) (fun c_4 => ?_)
    · skip
      obtain ⟨lo9, hf9, fi9, hbx0⟩ := hbox
      have hbox : ibx G h ib hp rd ru c pt D lat := ⟨lo9, hf9, fi9, hbx0⟩
      refine lv_aload_n hx hb dX8_read_17 rfl (lv_at hl 0 rfl) ?_
      refine ah_get (ci := 7) (v := .ref ib) (C := RX8) (T := TX8) (N := 5) hx hb hE hR hts hinX8 hown fx rfl 3 (by decide) k35 (fun _ h9 => h9) rfl dX8_read_18 ?_
      refine lv_iload_n hx hb dX8_read_21 rfl (lv_at hl 1 rfl) ?_
      refine lv_aload_n hx hb dX8_read_22 rfl (lv_at hl 0 rfl) ?_
      refine ah_get (ci := 7) (v := .ref ah) (C := RX8) (T := TX8) (N := 5) hx hb hE hR hts hinX8 hown fx rfl 2 (by decide) k28 (fun _ h9 => h9) rfl dX8_read_23 ?_
      refine ah_calli (va_runV (As := [.int (nI s9), .ref ah]) (rest := []) ⟨hx, hb, hml, hown, hts⟩ (c_Ib_accept l G h ib hp rd ru c pt D lat hbox hpt s9 (by omega) ah ab 6 7 200 zh gh fh fb (by decide) hzh (by decide) hgh (by unfold boxT; omega) (by unfold boxT; omega)) (cwV 2 hts gX8_read_X2_accept rfl rfl rfl (by decide +kernel) ⟨Nat.le_of_ble_eq_true rfl, Nat.le_of_ble_eq_true rfl⟩) (ah_preV hE hR hS fi9 rfl) rfl rfl hl.1 rfl (lv_room (Nat.le_of_ble_eq_true rfl)) dX8_read_26 ⟨Nat.le_of_ble_eq_true rfl, Nat.le_of_ble_eq_true rfl⟩) hS (fun r_7 h_5 H locs p_6 hR hS => ?_)
      obtain ⟨c7, pt7, D7, lt7, hac7, hbx7, ag6⟩ := p_6
      have f_8 : h_5 x = some (1, .inr (7, [.ref t, .ref m0, .ref ah, .ref ib, .int (nI rf)])) := ag6 _ _ _ (by omega) fx
      have f_9 : h_5 t = some (2, .inr (6, [.ref ua, .int (nI n), .int (nI (sumS f 0 n)), .int (nI (outs f n))])) := ag6 _ _ _ (by omega) ft
      have f_10 : h_5 ua = some (3, .inl (G.2.2.1 0, 3000, .inl (nA f))) := ag6 _ _ _ (by omega) fu
      have f_11 : h_5 m0 = some (4, .inr (2, [.ref ra, .int (nI pm)])) := ag6 _ _ _ (by omega) fm
      have f_12 : h_5 ra = some (5, .inl (G.2.2.1 3, 255, .inr (.inr (.inr (.inr rr))))) := ag6 _ _ _ (by omega) fa
      have f_13 : h_5 ah = some (6, .inr (5, [.ref ab, .int (nI zh)])) := ag6 _ _ _ (by omega) fh
      have f_14 : h_5 ab = some (7, .inl (G.2.2.1 0, 200, .inl (nA gh))) := ag6 _ _ _ (by omega) fb
      refine lv_istore_n (lv' := [(2, .int r_7), (0, .ref x), (1, .int (nI s9))]) hx hb dX8_read_29 rfl hl (by decide) rfl (fun ls hl => ?_)
      refine lv_aload_n hx hb dX8_read_30 rfl (lv_at hl 1 rfl) ?_
      refine ah_get (ci := 7) (v := .ref ah) (C := RX8) (T := TX8) (N := 5) hx hb hE hR hts hinX8 hown f_8 rfl 2 (by decide) k28 (fun _ h9 => h9) rfl dX8_read_31 ?_
      refine lv_iconst (v := nI 0) hx hb dX8_read_34 (by decide) ?_
      refine ah_callv (va_runV (As := [.int (nI 0)]) (rest := []) ⟨hx, hb, hml, hown, hts⟩ (c_Row_restart l G h_5 ah ab 6 7 200 zh gh f_13 f_14 (by decide) hzh (by decide) 0 (by decide)) (cwV 1 hts gX8_read_X6_restart rfl rfl rfl (by decide +kernel) ⟨Nat.le_of_ble_eq_true rfl, Nat.le_of_ble_eq_true rfl⟩) (ah_preV hE hR hS f_13 rfl) rfl rfl hl.1 rfl (lv_room (Nat.le_of_ble_eq_true rfl)) dX8_read_35 ⟨Nat.le_of_ble_eq_true rfl, Nat.le_of_ble_eq_true rfl⟩) hS (fun h_15 H locs p_16 hR hS => ?_)
      have ag5 : agr (fun t => t ≠ 6 ∧ t ≠ 7) h_5 h_15 := by rw [p_16]; exact (agr.rf.up f_14 (by omega)).up (ah_keep f_13 f_14 (by omega)) (by omega)
      have f_18 : h_15 x = some (1, .inr (7, [.ref t, .ref m0, .ref ah, .ref ib, .int (nI rf)])) := by rw [p_16]; exact ah_keep (ah_keep f_8 f_14 (by omega)) (ah_keep f_13 f_14 (by omega)) (by omega)
      have f_19 : h_15 t = some (2, .inr (6, [.ref ua, .int (nI n), .int (nI (sumS f 0 n)), .int (nI (outs f n))])) := by rw [p_16]; exact ah_keep (ah_keep f_9 f_14 (by omega)) (ah_keep f_13 f_14 (by omega)) (by omega)
      have f_20 : h_15 ua = some (3, .inl (G.2.2.1 0, 3000, .inl (nA f))) := by rw [p_16]; exact ah_keep (ah_keep f_10 f_14 (by omega)) (ah_keep f_13 f_14 (by omega)) (by omega)
      have f_21 : h_15 m0 = some (4, .inr (2, [.ref ra, .int (nI pm)])) := by rw [p_16]; exact ah_keep (ah_keep f_11 f_14 (by omega)) (ah_keep f_13 f_14 (by omega)) (by omega)
      have f_22 : h_15 ra = some (5, .inl (G.2.2.1 3, 255, .inr (.inr (.inr (.inr rr))))) := by rw [p_16]; exact ah_keep (ah_keep f_12 f_14 (by omega)) (ah_keep f_13 f_14 (by omega)) (by omega)
      have f_23 : h_15 ah = some (6, .inr (5, [.ref ab, .int (nI 0)])) := by rw [p_16]; exact ah_up_s _ _ _
      have f_24 : h_15 ab = some (7, .inl (G.2.2.1 0, 200, .inl (nA (fun _ => 0)))) := by rw [p_16]; exact ah_keep (ah_up_s _ _ _) (ah_keep f_13 f_14 (by omega)) (by omega)
      refine lv_iload_n hx hb dX8_read_38 rfl (lv_at hl 0 rfl) ?_
      refine W.widen (k := 4) (n := 422) (by omega) (by omega) ?_
      refine vx_ret ?_
      refine ah_iret (v := r_7) hx hb hr hlocks hR hS dX8_read_39 ?_
      exact ⟨s9, hs9, rfl, c7, pt7, D7, lt7, hac7, ⟨t, ua, m0, ra, ah, ab, ib, hp, rd, ru, rr, rb, f_18, f_19, f_20, hn, hf, f_21, f_22, hpm, ((hrows.frame (ag6.weak (fun t9 q9 => by omega))).frame (ag5.weak (fun t9 q9 => by omega))), hsome, f_23, f_24, (Nat.zero_le _), (fun _ => (show 0 < 256 by decide)), hrf, (hbx7.frame (ag5.weak (fun t9 q9 => by unfold boxT at q9; omega)))⟩, (ag6.weak (fun t9 q9 => by unfold cT at q9; omega)).tr (ag5.weak (fun t9 q9 => by unfold cT at q9; omega))⟩
    · skip
      exact absurd c_4 (by decide)
  · skip
    refine ah_toi ev8 ?_
    refine lv_if_ne (tgt := 17) hx hb dX8_read_4 (by decide) (fun c_25 => ?_) (fun c_25 => ?_)
    · skip
      exact absurd c_25 (by decide)
    · skip
      exact ah_thr (E := eIA) (tx := "a sender is 0 .. 999") (ik := 44) (is := 129) (ic := 48) hx hb hlt hown (by decide) wclassLink_RX8_44_java_lang_IllegalArgumentException winitialized_java_lang_IllegalArgumentException hX.2.2.2.2.2.2.2.2.2.2.2.2.1 (fun w hw => hts w (List.mem_cons_of_mem _ (List.mem_append.mpr (Or.inr hw)))) (by decide +kernel) hX.2.2.1.2.2.2.1 (by decide +kernel) hX hR hS (hl.1.trans hml.symm) dX8_read_7 dX8_read_10 dX8_read_11 dX8_read_13 dX8_read_16 htb (Nat.le_of_ble_eq_true rfl) (Nat.le_of_ble_eq_true rfl) (Nat.le_of_ble_eq_true rfl) (Nat.le_of_ble_eq_true rfl) hlocks (⟨rfl, hns, rfl⟩) (Nat.le_of_ble_eq_true rfl) (Nat.le_of_ble_eq_true rfl)

def latA : Option (Nat × (Nat → List Nat)) → Int32 → Int32
  | none, _ => -1
  | some y, x => if x < 0 then -1 else uAt y.2 y.1 0 x.toNatClampNeg
set_option maxHeartbeats 4000000 in
set_option maxRecDepth 100000 in
theorem c_unit (l : Launch) (G : ah_G) (h : ah_H) (x n pm zh rf c pt : Nat) (f z : Nat → Nat) (g : Nat → Nat → Nat) (gh : Nat → Nat) (D : Nat → hDt) (lat : Option (Nat × (Nat → List Nat))) (htp : tp G h x n f pm z g zh gh rf c pt D lat) (u : Int32) : Met l yX8_unit wsX8_unit ({ frames := 2, cells := 0, slots := 0, locals := 47 }) (ah_Pc G [.ref x, .int u] h) (ah_Qi G (fun v h' => v = latA lat u ∧ h' = h)) 0 0 (ah_A G) := by
  refine ah_ofW (cc := cX8_unit) (maxL := 2) (ret := (some .int)) (by decide) rfl (Nat.le_of_ble_eq_true rfl) ?_
  intro p e s m below meth cd9 ls hx hb hr hml hown hlocks hname hts hE hR hS hl
  have hown : s.vm.findClass RX8 = some m.cls := hown
  have hl : lv_has ls 2 [(0, .ref x), (1, .int u)] := hl
  have k35 := hts (.fieldLink RX8 35 "TextParts" "inbox" "LTextParts$Inbox;") (by decide +kernel)
  have hinX8 : ∀ w ∈ wsX80, w ∈ wsX8_unit := by decide +kernel
  obtain ⟨t, ua, m0, ra, ah, ab, ib, hp, rd, ru, rr, rb, fx, ft, fu, hn, hf, fm, fa, hpm, hrows, hsome, fh, fb, hzh, hgh, hrf, hbox⟩ := htp
  have hss := sumS_le f 0 n; have hos := outs_le f n
  obtain ⟨lo, hf9, fi, fp, hc9, hok9, hrd9, hlat9⟩ := hbox
  cases lat with
  | none =>
    have e9 : lo = none := hlat9
    subst e9
    refine lv_aload_n hx hb dX8_unit_0 rfl (lv_at hl 0 rfl) ?_
    refine ah_get (ci := 7) (v := .ref ib) (C := RX8) (T := TX8) (N := 5) hx hb hE hR hts hinX8 hown fx rfl 3 (by decide) k35 (fun _ h9 => h9) rfl dX8_unit_1 ?_
    refine lv_iload_n hx hb dX8_unit_4 rfl (lv_at hl 1 rfl) ?_
    refine ah_calli (va_runV (As := [.int u]) (rest := []) ⟨hx, hb, hml, hown, hts⟩ (c_Ib_latestUnit0 l G h ib hp rd c pt fi u) (cwV 1 hts gX8_unit_X2_latestUnit rfl rfl rfl (by decide +kernel) ⟨Nat.le_of_ble_eq_true rfl, Nat.le_of_ble_eq_true rfl⟩) (ah_preV hE hR hS fi rfl) rfl rfl hl.1 rfl (lv_room (Nat.le_of_ble_eq_true rfl)) dX8_unit_5 ⟨Nat.le_of_ble_eq_true rfl, Nat.le_of_ble_eq_true rfl⟩) hS (fun r_3 h_1 H locs p_2 hR hS => ?_)
    obtain ⟨e_4, e_5⟩ := p_2
    rw [e_5] at hR
    refine ah_toi e_4 ?_
    refine ah_iret (v := (-1)) hx hb hr hlocks hR hS dX8_unit_8 ?_
    exact ⟨rfl, rfl⟩
  | some y9 =>
    obtain ⟨la, e9, hl9⟩ := hlat9
    subst e9
    by_cases hu0 : u < 0
    · skip
      refine lv_aload_n hx hb dX8_unit_0 rfl (lv_at hl 0 rfl) ?_
      refine ah_get (ci := 7) (v := .ref ib) (C := RX8) (T := TX8) (N := 5) hx hb hE hR hts hinX8 hown fx rfl 3 (by decide) k35 (fun _ h9 => h9) rfl dX8_unit_1 ?_
      refine lv_iload_n hx hb dX8_unit_4 rfl (lv_at hl 1 rfl) ?_
      refine ah_calli (va_runV (As := [.int u]) (rest := []) ⟨hx, hb, hml, hown, hts⟩ (c_Ib_latestUnit2 l G h ib hp rd c pt la y9.1 y9.2 fi hl9 u hu0) (cwV 1 hts gX8_unit_X2_latestUnit rfl rfl rfl (by decide +kernel) ⟨Nat.le_of_ble_eq_true rfl, Nat.le_of_ble_eq_true rfl⟩) (ah_preV hE hR hS fi rfl) rfl rfl hl.1 rfl (lv_room (Nat.le_of_ble_eq_true rfl)) dX8_unit_5 ⟨Nat.le_of_ble_eq_true rfl, Nat.le_of_ble_eq_true rfl⟩) hS (fun r_8 h_6 H locs p_7 hR hS => ?_)
      obtain ⟨e_9, e_10⟩ := p_7
      rw [e_10] at hR
      refine ah_toi e_9 ?_
      refine ah_iret (v := (-1)) hx hb hr hlocks hR hS dX8_unit_8 ?_
      exact ⟨(if_pos hu0).symm, rfl⟩
    · skip
      obtain ⟨i, hi, ei⟩ := nneg hu0
      subst ei
      refine lv_aload_n hx hb dX8_unit_0 rfl (lv_at hl 0 rfl) ?_
      refine ah_get (ci := 7) (v := .ref ib) (C := RX8) (T := TX8) (N := 5) hx hb hE hR hts hinX8 hown fx rfl 3 (by decide) k35 (fun _ h9 => h9) rfl dX8_unit_1 ?_
      refine lv_iload_n hx hb dX8_unit_4 rfl (lv_at hl 1 rfl) ?_
      refine ah_calli (va_runV (As := [.int (nI i)]) (rest := []) ⟨hx, hb, hml, hown, hts⟩ (c_Ib_latestUnit1 l G h ib hp rd c pt la y9.1 y9.2 fi hl9 i hi) (cwV 1 hts gX8_unit_X2_latestUnit rfl rfl rfl (by decide +kernel) ⟨Nat.le_of_ble_eq_true rfl, Nat.le_of_ble_eq_true rfl⟩) (ah_preV hE hR hS fi rfl) rfl rfl hl.1 rfl (lv_room (Nat.le_of_ble_eq_true rfl)) dX8_unit_5 ⟨Nat.le_of_ble_eq_true rfl, Nat.le_of_ble_eq_true rfl⟩) hS (fun r_13 h_11 H locs p_12 hR hS => ?_)
      obtain ⟨e_14, e_15⟩ := p_12
      rw [e_15] at hR
      refine ah_toi e_14 ?_
      refine ah_iret (v := uAt y9.2 y9.1 0 i) hx hb hr hlocks hR hS dX8_unit_8 ?_
      exact ⟨by show _ = (if nI i < 0 then -1 else uAt y9.2 y9.1 0 (nI i).toNatClampNeg); rw [if_neg (nI_pos hi), nI_clamp hi], rfl⟩

def hpV (c : Nat) (D : Nat → hDt) (x : Int32) (k : Nat) : Int32 := if x < 0 then -1 else if nI c ≤ x then -1 else nI (match k with | 0 => d_s (D x.toNatClampNeg) | 1 => d_r (D x.toNatClampNeg) | 2 => d_n (D x.toNatClampNeg) | _ => d_t (D x.toNatClampNeg))
set_option maxHeartbeats 4000000 in
set_option maxRecDepth 100000 in
theorem c_heap0 (l : Launch) (hlt : l.stackTraces = false) (G : ah_G) (h : ah_H) (x n pm zh rf c pt : Nat) (f z : Nat → Nat) (g : Nat → Nat → Nat) (gh : Nat → Nat) (D : Nat → hDt) (lat : Option (Nat × (Nat → List Nat))) (htp : tp G h x n f pm z g zh gh rf c pt D lat) (u : Int32) : vx_Met l yX8_heap wsX8_heap ({ frames := 6, cells := 1, slots := 6, locals := 100 }) (ah_Px G [.ref x, .int u, .int (nI 0)] h) (ah_Qi G (fun v h' => v = hpV c D u 0 ∧ h' = h)) (ah_QX G (fun _ _ => False)) 1 6 (ah_A G) := by
  refine ah_ofX (cc := cX8_heap) (maxL := 3) (ret := (some .int)) (by decide) rfl (Nat.le_of_ble_eq_true rfl) ?_
  intro p e s m below meth cd9 ls hx hb hr hml hown hlocks hname hts htb hX hE hR hS hl
  have hown : s.vm.findClass RX8 = some m.cls := hown
  have hl : lv_has ls 3 [(0, .ref x), (1, .int u), (2, .int (nI 0))] := hl
  have k35 := hts (.fieldLink RX8 35 "TextParts" "inbox" "LTextParts$Inbox;") (by decide +kernel)
  have hinX8 : ∀ w ∈ wsX80, w ∈ wsX8_heap := by decide +kernel
  obtain ⟨t, ua, m0, ra, ah, ab, ib, hp, rd, ru, rr, rb, fx, ft, fu, hn, hf, fm, fa, hpm, hrows, hsome, fh, fb, hzh, hgh, hrf, hbox⟩ := htp
  have hss := sumS_le f 0 n; have hos := outs_le f n
  obtain ⟨lo9, hf9, fi9, fp9, hc9, ok9, -⟩ := hbox
  refine lv_iload_n hx hb dX8_heap_0 rfl (lv_at hl 2 rfl) ?_
  refine lv_if_lt (tgt := 9) hx hb dX8_heap_1 (by decide) (fun c_1 => ?_) (fun c_1 => ?_)
  · skip
    exact absurd c_1 (nI_pos (by omega))
  · skip
    refine lv_iload_n hx hb dX8_heap_4 rfl (lv_at hl 2 rfl) ?_
    refine lv_iconst (v := nI 3) hx hb dX8_heap_5 (by decide) ?_
    refine lv_icmp_le (tgt := 19) hx hb dX8_heap_6 (by decide) (fun c_2 => ?_) (fun c_2 => ?_)
    · skip
      have c_2 : 0 ≤ 3 := (nI_leI (by omega) (by omega)).mp c_2
      refine lv_aload_n hx hb dX8_heap_19 rfl (lv_at hl 0 rfl) ?_
      refine ah_get (ci := 7) (v := .ref ib) (C := RX8) (T := TX8) (N := 5) hx hb hE hR hts hinX8 hown fx rfl 3 (by decide) k35 (fun _ h9 => h9) rfl dX8_heap_20 ?_
      refine lv_iload_n hx hb dX8_heap_23 rfl (lv_at hl 1 rfl) ?_
      refine lv_iload_n hx hb dX8_heap_24 rfl (lv_at hl 2 rfl) ?_
      refine ah_calli (va_runV (As := [.int u, .int (nI 0)]) (rest := []) ⟨hx, hb, hml, hown, hts⟩ (c_Ib_about0 l G h ib hp rd c pt lo9 hf9 fi9 fp9 hc9 D ok9 u) (cwV 2 hts gX8_heap_X2_aboutHeap rfl rfl rfl (by decide +kernel) ⟨Nat.le_of_ble_eq_true rfl, Nat.le_of_ble_eq_true rfl⟩) (ah_preV hE hR hS fi9 rfl) rfl rfl hl.1 rfl (lv_room (Nat.le_of_ble_eq_true rfl)) dX8_heap_25 ⟨Nat.le_of_ble_eq_true rfl, Nat.le_of_ble_eq_true rfl⟩) hS (fun r_5 h_3 H locs p_4 hR hS => ?_)
      obtain ⟨e_6, e_7⟩ := p_4
      rw [e_7] at hR
      refine ah_toi e_6 ?_
      refine W.widen (k := 1) (n := 6) (by omega) (by omega) ?_
      refine vx_ret ?_
      refine ah_iret (v := hpV c D u 0) hx hb hr hlocks hR hS dX8_heap_28 ?_
      exact ⟨rfl, rfl⟩
    · skip
      have c_2 : ¬ (0 ≤ 3) := fun z9 => c_2 ((nI_leI (by omega) (by omega)).mpr z9)
      exact absurd c_2 (by omega)

set_option maxHeartbeats 4000000 in
set_option maxRecDepth 100000 in
theorem c_heap1 (l : Launch) (hlt : l.stackTraces = false) (G : ah_G) (h : ah_H) (x n pm zh rf c pt : Nat) (f z : Nat → Nat) (g : Nat → Nat → Nat) (gh : Nat → Nat) (D : Nat → hDt) (lat : Option (Nat × (Nat → List Nat))) (htp : tp G h x n f pm z g zh gh rf c pt D lat) (u : Int32) : vx_Met l yX8_heap wsX8_heap ({ frames := 6, cells := 1, slots := 6, locals := 100 }) (ah_Px G [.ref x, .int u, .int (nI 1)] h) (ah_Qi G (fun v h' => v = hpV c D u 1 ∧ h' = h)) (ah_QX G (fun _ _ => False)) 1 6 (ah_A G) := by
  refine ah_ofX (cc := cX8_heap) (maxL := 3) (ret := (some .int)) (by decide) rfl (Nat.le_of_ble_eq_true rfl) ?_
  intro p e s m below meth cd9 ls hx hb hr hml hown hlocks hname hts htb hX hE hR hS hl
  have hown : s.vm.findClass RX8 = some m.cls := hown
  have hl : lv_has ls 3 [(0, .ref x), (1, .int u), (2, .int (nI 1))] := hl
  have k35 := hts (.fieldLink RX8 35 "TextParts" "inbox" "LTextParts$Inbox;") (by decide +kernel)
  have hinX8 : ∀ w ∈ wsX80, w ∈ wsX8_heap := by decide +kernel
  obtain ⟨t, ua, m0, ra, ah, ab, ib, hp, rd, ru, rr, rb, fx, ft, fu, hn, hf, fm, fa, hpm, hrows, hsome, fh, fb, hzh, hgh, hrf, hbox⟩ := htp
  have hss := sumS_le f 0 n; have hos := outs_le f n
  obtain ⟨lo9, hf9, fi9, fp9, hc9, ok9, -⟩ := hbox
  refine lv_iload_n hx hb dX8_heap_0 rfl (lv_at hl 2 rfl) ?_
  refine lv_if_lt (tgt := 9) hx hb dX8_heap_1 (by decide) (fun c_1 => ?_) (fun c_1 => ?_)
  · skip
    exact absurd c_1 (nI_pos (by omega))
  · skip
    refine lv_iload_n hx hb dX8_heap_4 rfl (lv_at hl 2 rfl) ?_
    refine lv_iconst (v := nI 3) hx hb dX8_heap_5 (by decide) ?_
    refine lv_icmp_le (tgt := 19) hx hb dX8_heap_6 (by decide) (fun c_2 => ?_) (fun c_2 => ?_)
    · skip
      have c_2 : 1 ≤ 3 := (nI_leI (by omega) (by omega)).mp c_2
      refine lv_aload_n hx hb dX8_heap_19 rfl (lv_at hl 0 rfl) ?_
      refine ah_get (ci := 7) (v := .ref ib) (C := RX8) (T := TX8) (N := 5) hx hb hE hR hts hinX8 hown fx rfl 3 (by decide) k35 (fun _ h9 => h9) rfl dX8_heap_20 ?_
      refine lv_iload_n hx hb dX8_heap_23 rfl (lv_at hl 1 rfl) ?_
      refine lv_iload_n hx hb dX8_heap_24 rfl (lv_at hl 2 rfl) ?_
      refine ah_calli (va_runV (As := [.int u, .int (nI 1)]) (rest := []) ⟨hx, hb, hml, hown, hts⟩ (c_Ib_about1 l G h ib hp rd c pt lo9 hf9 fi9 fp9 hc9 D ok9 u) (cwV 2 hts gX8_heap_X2_aboutHeap rfl rfl rfl (by decide +kernel) ⟨Nat.le_of_ble_eq_true rfl, Nat.le_of_ble_eq_true rfl⟩) (ah_preV hE hR hS fi9 rfl) rfl rfl hl.1 rfl (lv_room (Nat.le_of_ble_eq_true rfl)) dX8_heap_25 ⟨Nat.le_of_ble_eq_true rfl, Nat.le_of_ble_eq_true rfl⟩) hS (fun r_5 h_3 H locs p_4 hR hS => ?_)
      obtain ⟨e_6, e_7⟩ := p_4
      rw [e_7] at hR
      refine ah_toi e_6 ?_
      refine W.widen (k := 1) (n := 6) (by omega) (by omega) ?_
      refine vx_ret ?_
      refine ah_iret (v := hpV c D u 1) hx hb hr hlocks hR hS dX8_heap_28 ?_
      exact ⟨rfl, rfl⟩
    · skip
      have c_2 : ¬ (1 ≤ 3) := fun z9 => c_2 ((nI_leI (by omega) (by omega)).mpr z9)
      exact absurd c_2 (by omega)

set_option maxHeartbeats 4000000 in
set_option maxRecDepth 100000 in
theorem c_heap2 (l : Launch) (hlt : l.stackTraces = false) (G : ah_G) (h : ah_H) (x n pm zh rf c pt : Nat) (f z : Nat → Nat) (g : Nat → Nat → Nat) (gh : Nat → Nat) (D : Nat → hDt) (lat : Option (Nat × (Nat → List Nat))) (htp : tp G h x n f pm z g zh gh rf c pt D lat) (u : Int32) : vx_Met l yX8_heap wsX8_heap ({ frames := 6, cells := 1, slots := 6, locals := 100 }) (ah_Px G [.ref x, .int u, .int (nI 2)] h) (ah_Qi G (fun v h' => v = hpV c D u 2 ∧ h' = h)) (ah_QX G (fun _ _ => False)) 1 6 (ah_A G) := by
  refine ah_ofX (cc := cX8_heap) (maxL := 3) (ret := (some .int)) (by decide) rfl (Nat.le_of_ble_eq_true rfl) ?_
  intro p e s m below meth cd9 ls hx hb hr hml hown hlocks hname hts htb hX hE hR hS hl
  have hown : s.vm.findClass RX8 = some m.cls := hown
  have hl : lv_has ls 3 [(0, .ref x), (1, .int u), (2, .int (nI 2))] := hl
  have k35 := hts (.fieldLink RX8 35 "TextParts" "inbox" "LTextParts$Inbox;") (by decide +kernel)
  have hinX8 : ∀ w ∈ wsX80, w ∈ wsX8_heap := by decide +kernel
  obtain ⟨t, ua, m0, ra, ah, ab, ib, hp, rd, ru, rr, rb, fx, ft, fu, hn, hf, fm, fa, hpm, hrows, hsome, fh, fb, hzh, hgh, hrf, hbox⟩ := htp
  have hss := sumS_le f 0 n; have hos := outs_le f n
  obtain ⟨lo9, hf9, fi9, fp9, hc9, ok9, -⟩ := hbox
  refine lv_iload_n hx hb dX8_heap_0 rfl (lv_at hl 2 rfl) ?_
  refine lv_if_lt (tgt := 9) hx hb dX8_heap_1 (by decide) (fun c_1 => ?_) (fun c_1 => ?_)
  · skip
    exact absurd c_1 (nI_pos (by omega))
  · skip
    refine lv_iload_n hx hb dX8_heap_4 rfl (lv_at hl 2 rfl) ?_
    refine lv_iconst (v := nI 3) hx hb dX8_heap_5 (by decide) ?_
    refine lv_icmp_le (tgt := 19) hx hb dX8_heap_6 (by decide) (fun c_2 => ?_) (fun c_2 => ?_)
    · skip
      have c_2 : 2 ≤ 3 := (nI_leI (by omega) (by omega)).mp c_2
      refine lv_aload_n hx hb dX8_heap_19 rfl (lv_at hl 0 rfl) ?_
      refine ah_get (ci := 7) (v := .ref ib) (C := RX8) (T := TX8) (N := 5) hx hb hE hR hts hinX8 hown fx rfl 3 (by decide) k35 (fun _ h9 => h9) rfl dX8_heap_20 ?_
      refine lv_iload_n hx hb dX8_heap_23 rfl (lv_at hl 1 rfl) ?_
      refine lv_iload_n hx hb dX8_heap_24 rfl (lv_at hl 2 rfl) ?_
      refine ah_calli (va_runV (As := [.int u, .int (nI 2)]) (rest := []) ⟨hx, hb, hml, hown, hts⟩ (c_Ib_about2 l G h ib hp rd c pt lo9 hf9 fi9 fp9 hc9 D ok9 u) (cwV 2 hts gX8_heap_X2_aboutHeap rfl rfl rfl (by decide +kernel) ⟨Nat.le_of_ble_eq_true rfl, Nat.le_of_ble_eq_true rfl⟩) (ah_preV hE hR hS fi9 rfl) rfl rfl hl.1 rfl (lv_room (Nat.le_of_ble_eq_true rfl)) dX8_heap_25 ⟨Nat.le_of_ble_eq_true rfl, Nat.le_of_ble_eq_true rfl⟩) hS (fun r_5 h_3 H locs p_4 hR hS => ?_)
      obtain ⟨e_6, e_7⟩ := p_4
      rw [e_7] at hR
      refine ah_toi e_6 ?_
      refine W.widen (k := 1) (n := 6) (by omega) (by omega) ?_
      refine vx_ret ?_
      refine ah_iret (v := hpV c D u 2) hx hb hr hlocks hR hS dX8_heap_28 ?_
      exact ⟨rfl, rfl⟩
    · skip
      have c_2 : ¬ (2 ≤ 3) := fun z9 => c_2 ((nI_leI (by omega) (by omega)).mpr z9)
      exact absurd c_2 (by omega)

set_option maxHeartbeats 4000000 in
set_option maxRecDepth 100000 in
theorem c_heap3 (l : Launch) (hlt : l.stackTraces = false) (G : ah_G) (h : ah_H) (x n pm zh rf c pt : Nat) (f z : Nat → Nat) (g : Nat → Nat → Nat) (gh : Nat → Nat) (D : Nat → hDt) (lat : Option (Nat × (Nat → List Nat))) (htp : tp G h x n f pm z g zh gh rf c pt D lat) (u : Int32) : vx_Met l yX8_heap wsX8_heap ({ frames := 6, cells := 1, slots := 6, locals := 100 }) (ah_Px G [.ref x, .int u, .int (nI 3)] h) (ah_Qi G (fun v h' => v = hpV c D u 3 ∧ h' = h)) (ah_QX G (fun _ _ => False)) 1 6 (ah_A G) := by
  refine ah_ofX (cc := cX8_heap) (maxL := 3) (ret := (some .int)) (by decide) rfl (Nat.le_of_ble_eq_true rfl) ?_
  intro p e s m below meth cd9 ls hx hb hr hml hown hlocks hname hts htb hX hE hR hS hl
  have hown : s.vm.findClass RX8 = some m.cls := hown
  have hl : lv_has ls 3 [(0, .ref x), (1, .int u), (2, .int (nI 3))] := hl
  have k35 := hts (.fieldLink RX8 35 "TextParts" "inbox" "LTextParts$Inbox;") (by decide +kernel)
  have hinX8 : ∀ w ∈ wsX80, w ∈ wsX8_heap := by decide +kernel
  obtain ⟨t, ua, m0, ra, ah, ab, ib, hp, rd, ru, rr, rb, fx, ft, fu, hn, hf, fm, fa, hpm, hrows, hsome, fh, fb, hzh, hgh, hrf, hbox⟩ := htp
  have hss := sumS_le f 0 n; have hos := outs_le f n
  obtain ⟨lo9, hf9, fi9, fp9, hc9, ok9, -⟩ := hbox
  refine lv_iload_n hx hb dX8_heap_0 rfl (lv_at hl 2 rfl) ?_
  refine lv_if_lt (tgt := 9) hx hb dX8_heap_1 (by decide) (fun c_1 => ?_) (fun c_1 => ?_)
  · skip
    exact absurd c_1 (nI_pos (by omega))
  · skip
    refine lv_iload_n hx hb dX8_heap_4 rfl (lv_at hl 2 rfl) ?_
    refine lv_iconst (v := nI 3) hx hb dX8_heap_5 (by decide) ?_
    refine lv_icmp_le (tgt := 19) hx hb dX8_heap_6 (by decide) (fun c_2 => ?_) (fun c_2 => ?_)
    · skip
      have c_2 : 3 ≤ 3 := (nI_leI (by omega) (by omega)).mp c_2
      refine lv_aload_n hx hb dX8_heap_19 rfl (lv_at hl 0 rfl) ?_
      refine ah_get (ci := 7) (v := .ref ib) (C := RX8) (T := TX8) (N := 5) hx hb hE hR hts hinX8 hown fx rfl 3 (by decide) k35 (fun _ h9 => h9) rfl dX8_heap_20 ?_
      refine lv_iload_n hx hb dX8_heap_23 rfl (lv_at hl 1 rfl) ?_
      refine lv_iload_n hx hb dX8_heap_24 rfl (lv_at hl 2 rfl) ?_
      refine ah_calli (va_runV (As := [.int u, .int (nI 3)]) (rest := []) ⟨hx, hb, hml, hown, hts⟩ (c_Ib_about3 l G h ib hp rd c pt lo9 hf9 fi9 fp9 hc9 D ok9 u) (cwV 2 hts gX8_heap_X2_aboutHeap rfl rfl rfl (by decide +kernel) ⟨Nat.le_of_ble_eq_true rfl, Nat.le_of_ble_eq_true rfl⟩) (ah_preV hE hR hS fi9 rfl) rfl rfl hl.1 rfl (lv_room (Nat.le_of_ble_eq_true rfl)) dX8_heap_25 ⟨Nat.le_of_ble_eq_true rfl, Nat.le_of_ble_eq_true rfl⟩) hS (fun r_5 h_3 H locs p_4 hR hS => ?_)
      obtain ⟨e_6, e_7⟩ := p_4
      rw [e_7] at hR
      refine ah_toi e_6 ?_
      refine W.widen (k := 1) (n := 6) (by omega) (by omega) ?_
      refine vx_ret ?_
      refine ah_iret (v := hpV c D u 3) hx hb hr hlocks hR hS dX8_heap_28 ?_
      exact ⟨rfl, rfl⟩
    · skip
      have c_2 : ¬ (3 ≤ 3) := fun z9 => c_2 ((nI_leI (by omega) (by omega)).mpr z9)
      exact absurd c_2 (by omega)

set_option maxHeartbeats 4000000 in
set_option maxRecDepth 100000 in
theorem c_heapX (l : Launch) (hlt : l.stackTraces = false) (G : ah_G) (h : ah_H) (x n pm zh rf c pt : Nat) (f z : Nat → Nat) (g : Nat → Nat → Nat) (gh : Nat → Nat) (D : Nat → hDt) (lat : Option (Nat × (Nat → List Nat))) (htp : tp G h x n f pm z g zh gh rf c pt D lat) (u u1 : Int32) (hu : ¬ inR 4 u1) : vx_Met l yX8_heap wsX8_heap ({ frames := 6, cells := 1, slots := 6, locals := 100 }) (ah_Px G [.ref x, .int u, .int u1] h) (ah_Qi G (fun v h' => False)) (ah_QX G (fun E h' => E = eIA ∧ h' = h)) 1 6 (ah_A G) := by
  refine ah_ofX (cc := cX8_heap) (maxL := 3) (ret := (some .int)) (by decide) rfl (Nat.le_of_ble_eq_true rfl) ?_
  intro p e s m below meth cd9 ls hx hb hr hml hown hlocks hname hts htb hX hE hR hS hl
  have hown : s.vm.findClass RX8 = some m.cls := hown
  have hl : lv_has ls 3 [(0, .ref x), (1, .int u), (2, .int u1)] := hl
  have wclassLink_RX8_44_java_lang_IllegalArgumentException := hts (.classLink RX8 44 "java/lang/IllegalArgumentException") (by decide +kernel)
  have winitialized_java_lang_IllegalArgumentException := hts (.initialized "java/lang/IllegalArgumentException") (by decide +kernel)
  obtain ⟨t, ua, m0, ra, ah, ab, ib, hp, rd, ru, rr, rb, fx, ft, fu, hn, hf, fm, fa, hpm, hrows, hsome, fh, fb, hzh, hgh, hrf, hbox⟩ := htp
  have hss := sumS_le f 0 n; have hos := outs_le f n
  refine lv_iload_n hx hb dX8_heap_0 rfl (lv_at hl 2 rfl) ?_
  refine lv_if_lt (tgt := 9) hx hb dX8_heap_1 (by decide) (fun c_1 => ?_) (fun c_1 => ?_)
  · skip
    exact ah_thr (E := eIA) (tx := "what is 0 .. 3") (ik := 44) (is := 137) (ic := 48) hx hb hlt hown (by decide) wclassLink_RX8_44_java_lang_IllegalArgumentException winitialized_java_lang_IllegalArgumentException hX.2.2.2.2.2.2.2.2.2.2.2.2.2 (fun w hw => hts w (List.mem_cons_of_mem _ (List.mem_append.mpr (Or.inr hw)))) (by decide +kernel) hX.2.2.1.2.2.2.1 (by decide +kernel) hX hR hS (hl.1.trans hml.symm) dX8_heap_9 dX8_heap_12 dX8_heap_13 dX8_heap_15 dX8_heap_18 htb (Nat.le_of_ble_eq_true rfl) (Nat.le_of_ble_eq_true rfl) (Nat.le_of_ble_eq_true rfl) (Nat.le_of_ble_eq_true rfl) hlocks (⟨rfl, rfl⟩) (Nat.le_of_ble_eq_true rfl) (Nat.le_of_ble_eq_true rfl)
  · skip
    refine lv_iload_n hx hb dX8_heap_4 rfl (lv_at hl 2 rfl) ?_
    refine lv_iconst (v := nI 3) hx hb dX8_heap_5 (by decide) ?_
    refine lv_icmp_le (tgt := 19) hx hb dX8_heap_6 (by decide) (fun c_2 => ?_) (fun c_2 => ?_)
    · skip
      exact absurd (inR_in (n := 3) (by decide) c_1 c_2) hu
    · skip
      exact ah_thr (E := eIA) (tx := "what is 0 .. 3") (ik := 44) (is := 137) (ic := 48) hx hb hlt hown (by decide) wclassLink_RX8_44_java_lang_IllegalArgumentException winitialized_java_lang_IllegalArgumentException hX.2.2.2.2.2.2.2.2.2.2.2.2.2 (fun w hw => hts w (List.mem_cons_of_mem _ (List.mem_append.mpr (Or.inr hw)))) (by decide +kernel) hX.2.2.1.2.2.2.1 (by decide +kernel) hX hR hS (hl.1.trans hml.symm) dX8_heap_9 dX8_heap_12 dX8_heap_13 dX8_heap_15 dX8_heap_18 htb (Nat.le_of_ble_eq_true rfl) (Nat.le_of_ble_eq_true rfl) (Nat.le_of_ble_eq_true rfl) (Nat.le_of_ble_eq_true rfl) hlocks (⟨rfl, rfl⟩) (Nat.le_of_ble_eq_true rfl) (Nat.le_of_ble_eq_true rfl)

set_option maxHeartbeats 4000000 in
set_option maxRecDepth 100000 in
theorem c_forget (l : Launch) (hlt : l.stackTraces = false) (G : ah_G) (h : ah_H) (x n pm zh rf c pt : Nat) (f z : Nat → Nat) (g : Nat → Nat → Nat) (gh : Nat → Nat) (D : Nat → hDt) (lat : Option (Nat × (Nat → List Nat))) (htp : tp G h x n f pm z g zh gh rf c pt D lat) (u0 : Int32) : vx_Met l yX8_forget wsX8_forget ({ frames := 6, cells := 1, slots := 6, locals := 100 }) (ah_Px G [.ref x, .int u0] h) (ah_Qi G (fun v h' => ∃ s9, s9 < 1000 ∧ u0 = nI s9 ∧ v = nI (c - (drp s9 c (c, D)).1) ∧ tp G h' x n f pm z g zh gh rf (drp s9 c (c, D)).1 pt (drp s9 c (c, D)).2 lat ∧ agr (fun t => ¬ cT t) h h')) (ah_QX G (fun E h' => E = eIA ∧ ¬ inR 1000 u0 ∧ h' = h)) 1 6 (ah_A G) := by
  refine ah_ofX (cc := cX8_forget) (maxL := 2) (ret := (some .int)) (by decide) rfl (Nat.le_of_ble_eq_true rfl) ?_
  intro p e s m below meth cd9 ls hx hb hr hml hown hlocks hname hts htb hX hE hR hS hl
  have hown : s.vm.findClass RX8 = some m.cls := hown
  have hl : lv_has ls 2 [(0, .ref x), (1, .int u0)] := hl
  have k35 := hts (.fieldLink RX8 35 "TextParts" "inbox" "LTextParts$Inbox;") (by decide +kernel)
  have hinX8 : ∀ w ∈ wsX80, w ∈ wsX8_forget := by decide +kernel
  have wclassLink_RX8_44_java_lang_IllegalArgumentException := hts (.classLink RX8 44 "java/lang/IllegalArgumentException") (by decide +kernel)
  have winitialized_java_lang_IllegalArgumentException := hts (.initialized "java/lang/IllegalArgumentException") (by decide +kernel)
  obtain ⟨t, ua, m0, ra, ah, ab, ib, hp, rd, ru, rr, rb, fx, ft, fu, hn, hf, fm, fa, hpm, hrows, hsome, fh, fb, hzh, hgh, hrf, hbox⟩ := htp
  have hss := sumS_le f 0 n; have hos := outs_le f n
  refine lv_iload_n hx hb dX8_forget_0 rfl (lv_at hl 1 rfl) ?_
  refine ah_calli (va_runS (As := [.int u0]) (rest := []) ⟨hx, hb, hml, hown, hts⟩ (c_isSender l G h u0) (va_cwS 1 hts gX8_forget_X8_isSender rfl rfl rfl (by decide +kernel) ⟨Nat.le_of_ble_eq_true rfl, Nat.le_of_ble_eq_true rfl⟩) (ah_preS hE hR hS) rfl rfl hl.1 rfl (lv_room (Nat.le_of_ble_eq_true rfl)) dX8_forget_1 ⟨Nat.le_of_ble_eq_true rfl, Nat.le_of_ble_eq_true rfl⟩) hS (fun r_3 h_1 H locs p_2 hR hS => ?_)
  obtain ⟨hsn, eh8⟩ := p_2
  rw [eh8] at hR
  rcases hsn with ⟨ev8, s9, hs9, es9⟩ | ⟨ev8, hns⟩
  · skip
    subst es9
    refine ah_toi ev8 ?_
    refine lv_if_ne (tgt := 17) hx hb dX8_forget_4 (by decide) (fun c_4 => ?_) (fun c_4 => ?_)
    · skip
      obtain ⟨lo9, hf9, fi9, fp9, hc9, ok9, hrd9, hla9⟩ := hbox
      refine lv_aload_n hx hb dX8_forget_17 rfl (lv_at hl 0 rfl) ?_
      refine ah_get (ci := 7) (v := .ref ib) (C := RX8) (T := TX8) (N := 5) hx hb hE hR hts hinX8 hown fx rfl 3 (by decide) k35 (fun _ h9 => h9) rfl dX8_forget_18 ?_
      refine lv_iload_n hx hb dX8_forget_21 rfl (lv_at hl 1 rfl) ?_
      refine ah_calli (va_runV (As := [.int (nI s9)]) (rest := []) ⟨hx, hb, hml, hown, hts⟩ (c_Ib_dropSender l G h ib hp rd c pt lo9 hf9 fi9 fp9 hc9 D ok9 s9 (by omega)) (cwV 1 hts gX8_forget_X2_dropSender rfl rfl rfl (by decide +kernel) ⟨Nat.le_of_ble_eq_true rfl, Nat.le_of_ble_eq_true rfl⟩) (ah_preV hE hR hS fi9 rfl) rfl rfl hl.1 rfl (lv_room (Nat.le_of_ble_eq_true rfl)) dX8_forget_22 ⟨Nat.le_of_ble_eq_true rfl, Nat.le_of_ble_eq_true rfl⟩) hS (fun r_7 h_5 H locs p_6 hR hS => ?_)
      obtain ⟨ev7, hf7, eh7, ok7⟩ := p_6
      have hdl := drp_le s9 c (c, D)
      have hdl : (drp s9 c (c, D)).1 ≤ c := hdl
      have ag6 : agr (fun t => t ≠ 8 ∧ t ≠ 9) h h_5 := by rw [eh7]; exact (agr.rf.up fi9 (by omega)).up (ah_keep fp9 fi9 (by omega)) (by omega)
      have f_8 : h_5 x = some (1, .inr (7, [.ref t, .ref m0, .ref ah, .ref ib, .int (nI rf)])) := ag6 _ _ _ (by omega) fx
      have f_9 : h_5 t = some (2, .inr (6, [.ref ua, .int (nI n), .int (nI (sumS f 0 n)), .int (nI (outs f n))])) := ag6 _ _ _ (by omega) ft
      have f_10 : h_5 ua = some (3, .inl (G.2.2.1 0, 3000, .inl (nA f))) := ag6 _ _ _ (by omega) fu
      have f_11 : h_5 m0 = some (4, .inr (2, [.ref ra, .int (nI pm)])) := ag6 _ _ _ (by omega) fm
      have f_12 : h_5 ra = some (5, .inl (G.2.2.1 3, 255, .inr (.inr (.inr (.inr rr))))) := ag6 _ _ _ (by omega) fa
      have f_13 : h_5 ah = some (6, .inr (5, [.ref ab, .int (nI zh)])) := ag6 _ _ _ (by omega) fh
      have f_14 : h_5 ab = some (7, .inl (G.2.2.1 0, 200, .inl (nA gh))) := ag6 _ _ _ (by omega) fb
      have fi7 : h_5 ib = some (8, .inr (1, [.ref rd, .ref hp, .int (nI (drp s9 c (c, D)).1), .int (nI pt), va_rf lo9])) := by rw [eh7]; exact ah_keep (ah_up_s _ _ _) (ah_keep fp9 fi9 (by omega)) (by omega)
      have fp7 : h_5 hp = some (9, .inl (G.2.2.1 1, 16, .inr (.inr (.inr (.inr hf7))))) := by rw [eh7]; exact ah_up_s _ _ _
      obtain ⟨r1, r2, r3, r4, r5, r6, r7, g1, g2, g3⟩ := hrd9
      have hbx7 : ibx G h_5 ib hp rd ru (drp s9 c (c, D)).1 pt (drp s9 c (c, D)).2 lat := ⟨lo9, hf7, fi7, fp7, by omega, ok7, ⟨r1, r2, r3, r4, r5, r6, r7, ag6 _ _ _ (by omega) g1, ag6 _ _ _ (by omega) g2, g3⟩, hla9.frame (ag6.weak (fun t q => by omega))⟩
      refine ah_toi ev7 ?_
      refine W.widen (k := 1) (n := 6) (by omega) (by omega) ?_
      refine vx_ret ?_
      refine ah_iret (v := nI (c - (drp s9 c (c, D)).1)) hx hb hr hlocks hR hS dX8_forget_25 ?_
      exact ⟨s9, hs9, rfl, rfl, ⟨t, ua, m0, ra, ah, ab, ib, hp, rd, ru, rr, rb, f_8, f_9, f_10, hn, hf, f_11, f_12, hpm, hrows.frame (ag6.weak (fun t9 q9 => by omega)), hsome, f_13, f_14, hzh, hgh, hrf, hbx7⟩, ag6.weak (fun t9 q9 => by unfold cT at q9; omega)⟩
    · skip
      exact absurd c_4 (by decide)
  · skip
    refine ah_toi ev8 ?_
    refine lv_if_ne (tgt := 17) hx hb dX8_forget_4 (by decide) (fun c_15 => ?_) (fun c_15 => ?_)
    · skip
      exact absurd c_15 (by decide)
    · skip
      exact ah_thr (E := eIA) (tx := "a sender is 0 .. 999") (ik := 44) (is := 129) (ic := 48) hx hb hlt hown (by decide) wclassLink_RX8_44_java_lang_IllegalArgumentException winitialized_java_lang_IllegalArgumentException hX.2.2.2.2.2.2.2.2.2.2.2.2.1 (fun w hw => hts w (List.mem_cons_of_mem _ (List.mem_append.mpr (Or.inr hw)))) (by decide +kernel) hX.2.2.1.2.2.2.1 (by decide +kernel) hX hR hS (hl.1.trans hml.symm) dX8_forget_7 dX8_forget_10 dX8_forget_11 dX8_forget_13 dX8_forget_16 htb (Nat.le_of_ble_eq_true rfl) (Nat.le_of_ble_eq_true rfl) (Nat.le_of_ble_eq_true rfl) (Nat.le_of_ble_eq_true rfl) hlocks (⟨rfl, hns, rfl⟩) (Nat.le_of_ble_eq_true rfl) (Nat.le_of_ble_eq_true rfl)
