/-! ===== java.util.Arrays.fill, copyOf; TextParts$Row ===== -/
set_option maxHeartbeats 4000000 in
set_option maxRecDepth 100000 in
theorem c_fill (l : Launch) (G : ah_G) (h : ah_H) (a t n v : Nat) (g : Nat → Nat) (fa : h a = some (t, .inl (G.2.2.1 0, n, .inl (nA g)))) (hn : n < 2 ^ 31) : Met l yJ7_fill_53178 wsJ7_fill_53178 ({ frames := 0, cells := 0, slots := 0, locals := 0 }) (ah_Pc G [.ref a, .int (nI v)] h) (ah_Qv G (fun h' => h' = ah_up h a (t, .inl (G.2.2.1 0, n, .inl (nA (fun _ => v)))))) 0 0 (ah_A G) := by
  refine ah_ofW (cc := cJ7_fill_53178) (maxL := 4) (ret := none) (by decide) rfl (Nat.le_of_ble_eq_true rfl) ?_
  intro p e s m below meth cd9 ls hx hb hr hml hown hlocks hname hts hE hR hS hl
  have hown : s.vm.findClass RJ7 = some m.cls := hown
  have hl : lv_has ls 4 [(0, .ref a), (1, .int (nI v))] := hl
  refine lv_iconst (v := nI 0) hx hb dJ7_fill_53178_0 (by decide) ?_
  refine lv_istore_n (lv' := [(2, .int (nI 0)), (0, .ref a), (1, .int (nI v))]) hx hb dJ7_fill_53178_1 rfl hl (by decide) rfl (fun ls hl => ?_)
  refine lv_aload_n hx hb dJ7_fill_53178_2 rfl (lv_at hl 1 rfl) ?_
  refine ah_alen hx hb hE hR fa (show (ah_tys G)[0]? = some _ from rfl) dJ7_fill_53178_3 ?_
  have f_1 : h a = some (t, .inl (G.2.2.1 0, n, .inl (nA (gZ g 0 v)))) := by rw [gZ_0]; exact fa
  refine lv_istore_n (lv' := [(3, .int (nI n)), (2, .int (nI 0)), (0, .ref a), (1, .int (nI v))]) hx hb dJ7_fill_53178_4 rfl hl (by decide) rfl (fun ls hl => ?_)
  have L5 : ∀ (N5 : Nat) (i : Nat) (h1 : ah_H) (H : Heap) (locs : List Loc) (ls : Array Slot), n - i < N5 → (i ≤ n) → (h1 = ah_up h a (t, .inl (G.2.2.1 0, n, .inl (nA (gZ g i v))))) → (h1 a = some (t, .inl (G.2.2.1 0, n, .inl (nA (gZ g i v))))) → ah_R G h1 H → va_S (ah_A G) s.heap H locs → lv_has ls 4 [(3, .int (nI n)), (2, .int (nI i)), (0, .ref a), (1, .int (nI v))] → W p l e ({ frames := 0, cells := 0, slots := 0, locals := 0 }) s m ([.ref a, .int (nI v)] : List Value).toArray below meth cd9 H locs 0 0 (MQ below (ah_Qv G (fun h' => h' = ah_up h a (t, .inl (G.2.2.1 0, n, .inl (nA (fun _ => v)))))) ([.ref a, .int (nI v)] : List Value).toArray s 0 0 (ah_A G)) (F0 m 5 ls []) := by
    intro N5
    induction N5 with
    | zero => intro i h1 H locs ls hN; exact absurd hN (Nat.not_lt_zero _)
    | succ N5 ih5 =>
      intro i h1 H locs ls hN5 hi eh fa1 hR hS hl
      refine lv_iload_n hx hb dJ7_fill_53178_5 rfl (lv_at hl 1 rfl) ?_
      refine lv_iload_n hx hb dJ7_fill_53178_6 rfl (lv_at hl 0 rfl) ?_
      refine lv_icmp_ge (tgt := 20) hx hb dJ7_fill_53178_7 (by decide) (fun c_2 => ?_) (fun c_2 => ?_)
      · skip
        have c_2 : n ≤ i := (nI_leI (by omega) (by omega)).mp c_2
        have hR := ah_cong (g := nA (fun _ => v)) hR fa1 (fun j hj => by show nI (gZ g i v j) = nI v; unfold gZ; rw [if_pos (by omega)])
        refine ah_vret hx hb hr hlocks hR hS dJ7_fill_53178_20 ?_
        rw [eh, ah_up2]
      · skip
        have c_2 : ¬ (n ≤ i) := fun z9 => c_2 ((nI_leI (by omega) (by omega)).mpr z9)
        refine lv_aload_n hx hb dJ7_fill_53178_10 rfl (lv_at hl 2 rfl) ?_
        refine lv_iload_n hx hb dJ7_fill_53178_11 rfl (lv_at hl 1 rfl) ?_
        refine lv_iload_n hx hb dJ7_fill_53178_12 rfl (lv_at hl 3 rfl) ?_
        refine ah_iast (i := i) hx hb hE hR hS fa1 (by omega) (by omega) dJ7_fill_53178_13 (fun H locs hR hS => ?_)
        rw [nA_upd] at hR
        obtain ⟨h_3, e_4⟩ : ∃ zz9, zz9 = ah_up h1 a (t, .inl (G.2.2.1 0, n, .inl (nA (gU (gZ g i v) i v)))) := ⟨_, rfl⟩
        have hR : ah_R G h_3 H := by rw [e_4]; exact hR
        have f_5 : h_3 a = some (t, .inl (G.2.2.1 0, n, .inl (nA (gU (gZ g i v) i v)))) := by rw [e_4]; exact ah_up_s _ _ _
        have f_6 : h_3 a = some (t, .inl (G.2.2.1 0, n, .inl (nA (gZ g (i + 1) v)))) := by rw [← gZ_s]; exact f_5
        refine lv_iinc (v := nI (i + 1)) (lv' := [(2, .int (nI (i + 1))), (3, .int (nI n)), (0, .ref a), (1, .int (nI v))]) hx hb dJ7_fill_53178_14 hl (k := 1) rfl (show nI i + Int32.ofInt 1 = nI (i + 1) from nI_add _ 1) (by decide) rfl (fun ls hl => ?_)
        refine lv_goto (tgt := 5) hx hb dJ7_fill_53178_17 (by decide) ?_
        exact ih5  (i + 1) h_3 _ _ ls (by omega) (by omega) (by rw [e_4, eh, ah_up2, gZ_s]) f_6 hR hS (lv_sub hl [1, 0, 2, 3] rfl)
  exact L5 ((n - 0) + 1) 0 h _ _ ls (by omega) (by omega) (by rw [gZ_0, ah_up_id fa]) f_1 hR hS (lv_sub hl [0, 1, 2, 3] rfl)

set_option maxHeartbeats 4000000 in
set_option maxRecDepth 100000 in
theorem c_Row_byteAt (l : Launch) (G : ah_G) (h : ah_H) (r b tr tb n z : Nat) (g : Nat → Nat) (fr : h r = some (tr, .inr (5, [.ref b, .int (nI z)]))) (fb : h b = some (tb, .inl (G.2.2.1 0, n, .inl (nA g)))) (hne : tr ≠ tb) (hz : z ≤ n) (hn : n < 2 ^ 31) (i : Int32) : Met l yX6_byteAt wsX6_byteAt ({ frames := 0, cells := 0, slots := 0, locals := 0 }) (ah_Pc G [.ref r, .int i] h) (ah_Qi G (fun v h' => v = rwA g z i ∧ h' = h)) 0 0 (ah_A G) := by
  refine ah_ofW (cc := cX6_byteAt) (maxL := 2) (ret := (some .int)) (by decide) rfl (Nat.le_of_ble_eq_true rfl) ?_
  intro p e s m below meth cd9 ls hx hb hr hml hown hlocks hname hts hE hR hS hl
  have hown : s.vm.findClass RX6 = some m.cls := hown
  have hl : lv_has ls 2 [(0, .ref r), (1, .int i)] := hl
  have k30 := hts (.fieldLink RX6 30 "TextParts$Row" "size" "I") (by decide +kernel)
  have hinX6 : ∀ w ∈ wsX60, w ∈ wsX6_byteAt := by decide +kernel
  have k9 := hts (.fieldLink RX6 9 "TextParts$Row" "bytes" "[I") (by decide +kernel)
  refine lv_iload_n hx hb dX6_byteAt_0 rfl (lv_at hl 1 rfl) ?_
  refine lv_if_lt (tgt := 21) hx hb dX6_byteAt_1 (by decide) (fun c_1 => ?_) (fun c_1 => ?_)
  · skip
    refine lv_iconst (v := (-1)) hx hb dX6_byteAt_21 (by decide) ?_
    refine ah_iret (v := (-1)) hx hb hr hlocks hR hS dX6_byteAt_22 ?_
    exact ⟨(rwA_neg c_1).symm, rfl⟩
  · skip
    refine lv_iload_n hx hb dX6_byteAt_4 rfl (lv_at hl 1 rfl) ?_
    refine lv_aload_n hx hb dX6_byteAt_5 rfl (lv_at hl 0 rfl) ?_
    refine ah_get (ci := 5) (v := .int (nI z)) (C := RX6) (T := TX6) (N := 2) hx hb hE hR hts hinX6 hown fr rfl 1 (by decide) k30 (fun _ h9 => h9) rfl dX6_byteAt_6 ?_
    refine lv_icmp_ge (tgt := 21) hx hb dX6_byteAt_9 (by decide) (fun c_2 => ?_) (fun c_2 => ?_)
    · skip
      refine lv_iconst (v := (-1)) hx hb dX6_byteAt_21 (by decide) ?_
      refine ah_iret (v := (-1)) hx hb hr hlocks hR hS dX6_byteAt_22 ?_
      exact ⟨(rwA_big c_2).symm, rfl⟩
    · skip
      obtain ⟨j, hj, rfl⟩ := ix_of c_1 c_2 (show z < 2 ^ 31 by omega)
      refine lv_aload_n hx hb dX6_byteAt_12 rfl (lv_at hl 0 rfl) ?_
      refine ah_get (ci := 5) (v := .ref b) (C := RX6) (T := TX6) (N := 2) hx hb hE hR hts hinX6 hown fr rfl 0 (by decide) k9 (fun _ h9 => h9) rfl dX6_byteAt_13 ?_
      refine lv_iload_n hx hb dX6_byteAt_16 rfl (lv_at hl 1 rfl) ?_
      refine ah_iald (i := j) hx hb hE hR fb (by omega) (by omega) dX6_byteAt_17 ?_
      refine ah_toi (v := nI (g j)) rfl ?_
      refine lv_goto (tgt := 22) hx hb dX6_byteAt_18 (by decide) ?_
      refine ah_iret (v := nI (g j)) hx hb hr hlocks hR hS dX6_byteAt_22 ?_
      exact ⟨(rwA_in hj (by omega)).symm, rfl⟩

set_option maxHeartbeats 4000000 in
set_option maxRecDepth 100000 in
theorem c_Row_setByte (l : Launch) (G : ah_G) (h : ah_H) (r b tr tb n z : Nat) (g : Nat → Nat) (fr : h r = some (tr, .inr (5, [.ref b, .int (nI z)]))) (fb : h b = some (tb, .inl (G.2.2.1 0, n, .inl (nA g)))) (hne : tr ≠ tb) (hz : z ≤ n) (hn : n < 2 ^ 31) (k v : Nat) (hk : k < 2 ^ 31) : Met l yX6_setByte wsX6_setByte ({ frames := 0, cells := 0, slots := 0, locals := 0 }) (ah_Pc G [.ref r, .int (nI k), .int (nI v)] h) (ah_Qv G (fun h' => h' = ah_up h b (tb, .inl (G.2.2.1 0, n, .inl (nA (rwS g z k v)))))) 0 0 (ah_A G) := by
  refine ah_ofW (cc := cX6_setByte) (maxL := 3) (ret := none) (by decide) rfl (Nat.le_of_ble_eq_true rfl) ?_
  intro p e s m below meth cd9 ls hx hb hr hml hown hlocks hname hts hE hR hS hl
  have hown : s.vm.findClass RX6 = some m.cls := hown
  have hl : lv_has ls 3 [(0, .ref r), (1, .int (nI k)), (2, .int (nI v))] := hl
  have k30 := hts (.fieldLink RX6 30 "TextParts$Row" "size" "I") (by decide +kernel)
  have hinX6 : ∀ w ∈ wsX60, w ∈ wsX6_setByte := by decide +kernel
  have k9 := hts (.fieldLink RX6 9 "TextParts$Row" "bytes" "[I") (by decide +kernel)
  refine lv_iload_n hx hb dX6_setByte_0 rfl (lv_at hl 1 rfl) ?_
  refine lv_if_lt (tgt := 19) hx hb dX6_setByte_1 (by decide) (fun c_1 => ?_) (fun c_1 => ?_)
  · skip
    exact absurd c_1 (nI_pos (by omega))
  · skip
    refine lv_iload_n hx hb dX6_setByte_4 rfl (lv_at hl 1 rfl) ?_
    refine lv_aload_n hx hb dX6_setByte_5 rfl (lv_at hl 0 rfl) ?_
    refine ah_get (ci := 5) (v := .int (nI z)) (C := RX6) (T := TX6) (N := 2) hx hb hE hR hts hinX6 hown fr rfl 1 (by decide) k30 (fun _ h9 => h9) rfl dX6_setByte_6 ?_
    refine lv_icmp_ge (tgt := 19) hx hb dX6_setByte_9 (by decide) (fun c_2 => ?_) (fun c_2 => ?_)
    · skip
      have c_2 : z ≤ k := (nI_leI (by omega) (by omega)).mp c_2
      refine ah_vret hx hb hr hlocks hR hS dX6_setByte_19 ?_
      unfold rwS; rw [if_neg (by omega), ah_up_id fb]
    · skip
      have c_2 : ¬ (z ≤ k) := fun z9 => c_2 ((nI_leI (by omega) (by omega)).mpr z9)
      refine lv_aload_n hx hb dX6_setByte_12 rfl (lv_at hl 0 rfl) ?_
      refine ah_get (ci := 5) (v := .ref b) (C := RX6) (T := TX6) (N := 2) hx hb hE hR hts hinX6 hown fr rfl 0 (by decide) k9 (fun _ h9 => h9) rfl dX6_setByte_13 ?_
      refine lv_iload_n hx hb dX6_setByte_16 rfl (lv_at hl 1 rfl) ?_
      refine lv_iload_n hx hb dX6_setByte_17 rfl (lv_at hl 2 rfl) ?_
      refine ah_iast (i := k) hx hb hE hR hS fb (by omega) (by omega) dX6_setByte_18 (fun H locs hR hS => ?_)
      rw [nA_upd] at hR
      obtain ⟨h_3, e_4⟩ : ∃ zz9, zz9 = ah_up h b (tb, .inl (G.2.2.1 0, n, .inl (nA (gU g k v)))) := ⟨_, rfl⟩
      have hR : ah_R G h_3 H := by rw [e_4]; exact hR
      have f_5 : h_3 r = some (tr, .inr (5, [.ref b, .int (nI z)])) := by rw [e_4]; exact ah_keep fr fb hne
      have f_6 : h_3 b = some (tb, .inl (G.2.2.1 0, n, .inl (nA (gU g k v)))) := by rw [e_4]; exact ah_up_s _ _ _
      refine ah_vret hx hb hr hlocks hR hS dX6_setByte_19 ?_
      unfold rwS; rw [if_pos (by omega)]; exact e_4

set_option maxHeartbeats 4000000 in
set_option maxRecDepth 100000 in
theorem c_Row_append (l : Launch) (G : ah_G) (h : ah_H) (r b tr tb n z : Nat) (g : Nat → Nat) (fr : h r = some (tr, .inr (5, [.ref b, .int (nI z)]))) (fb : h b = some (tb, .inl (G.2.2.1 0, n, .inl (nA g)))) (hne : tr ≠ tb) (hz : z ≤ n) (hn : n < 2 ^ 31) (v : Nat) (hlt : z < n) : Met l yX6_append wsX6_append ({ frames := 0, cells := 0, slots := 0, locals := 0 }) (ah_Pc G [.ref r, .int (nI v)] h) (ah_Qv G (fun h' => h' = ah_up (ah_up h b (tb, .inl (G.2.2.1 0, n, .inl (nA (gU g z v))))) r (tr, .inr (5, [.ref b, .int (nI (z + 1))])))) 0 0 (ah_A G) := by
  refine ah_ofW (cc := cX6_append) (maxL := 2) (ret := none) (by decide) rfl (Nat.le_of_ble_eq_true rfl) ?_
  intro p e s m below meth cd9 ls hx hb hr hml hown hlocks hname hts hE hR hS hl
  have hown : s.vm.findClass RX6 = some m.cls := hown
  have hl : lv_has ls 2 [(0, .ref r), (1, .int (nI v))] := hl
  have k30 := hts (.fieldLink RX6 30 "TextParts$Row" "size" "I") (by decide +kernel)
  have hinX6 : ∀ w ∈ wsX60, w ∈ wsX6_append := by decide +kernel
  have k9 := hts (.fieldLink RX6 9 "TextParts$Row" "bytes" "[I") (by decide +kernel)
  refine lv_aload_n hx hb dX6_append_0 rfl (lv_at hl 0 rfl) ?_
  refine ah_get (ci := 5) (v := .int (nI z)) (C := RX6) (T := TX6) (N := 2) hx hb hE hR hts hinX6 hown fr rfl 1 (by decide) k30 (fun _ h9 => h9) rfl dX6_append_1 ?_
  refine lv_aload_n hx hb dX6_append_4 rfl (lv_at hl 0 rfl) ?_
  refine ah_get (ci := 5) (v := .ref b) (C := RX6) (T := TX6) (N := 2) hx hb hE hR hts hinX6 hown fr rfl 0 (by decide) k9 (fun _ h9 => h9) rfl dX6_append_5 ?_
  refine ah_alen hx hb hE hR fb (show (ah_tys G)[0]? = some _ from rfl) dX6_append_8 ?_
  refine lv_icmp_ge (tgt := 32) hx hb dX6_append_9 (by decide) (fun c_1 => ?_) (fun c_1 => ?_)
  · skip
    have c_1 : n ≤ z := (nI_leI (by omega) (by omega)).mp c_1
    exact absurd c_1 (by omega)
  · skip
    have c_1 : ¬ (n ≤ z) := fun z9 => c_1 ((nI_leI (by omega) (by omega)).mpr z9)
    refine lv_aload_n hx hb dX6_append_12 rfl (lv_at hl 0 rfl) ?_
    refine ah_get (ci := 5) (v := .ref b) (C := RX6) (T := TX6) (N := 2) hx hb hE hR hts hinX6 hown fr rfl 0 (by decide) k9 (fun _ h9 => h9) rfl dX6_append_13 ?_
    refine lv_aload_n hx hb dX6_append_16 rfl (lv_at hl 0 rfl) ?_
    refine ah_get (ci := 5) (v := .int (nI z)) (C := RX6) (T := TX6) (N := 2) hx hb hE hR hts hinX6 hown fr rfl 1 (by decide) k30 (fun _ h9 => h9) rfl dX6_append_17 ?_
    refine lv_iload_n hx hb dX6_append_20 rfl (lv_at hl 1 rfl) ?_
    refine ah_iast (i := z) hx hb hE hR hS fb (by omega) (by omega) dX6_append_21 (fun H locs hR hS => ?_)
    rw [nA_upd] at hR
    obtain ⟨h_2, e_3⟩ : ∃ zz9, zz9 = ah_up h b (tb, .inl (G.2.2.1 0, n, .inl (nA (gU g z v)))) := ⟨_, rfl⟩
    have hR : ah_R G h_2 H := by rw [e_3]; exact hR
    have f_4 : h_2 r = some (tr, .inr (5, [.ref b, .int (nI z)])) := by rw [e_3]; exact ah_keep fr fb hne
    have f_5 : h_2 b = some (tb, .inl (G.2.2.1 0, n, .inl (nA (gU g z v)))) := by rw [e_3]; exact ah_up_s _ _ _
    refine lv_aload_n hx hb dX6_append_22 rfl (lv_at hl 0 rfl) ?_
    refine lv_dup hx hb dX6_append_23 rfl ?_
    refine ah_get (ci := 5) (v := .int (nI z)) (C := RX6) (T := TX6) (N := 2) hx hb hE hR hts hinX6 hown f_4 rfl 1 (by decide) k30 (fun _ h9 => h9) rfl dX6_append_24 ?_
    refine lv_iconst (v := nI 1) hx hb dX6_append_27 (by decide) ?_
    refine lv_iadd hx hb dX6_append_28 ?_
    refine ah_toi (v := nI (z + 1)) (nI_add _ _) ?_
    refine ah_put (ci := 5) (v := .int (nI (z + 1))) (ty := .int) (C := RX6) (T := TX6) (N := 2) hx hb hE hR hS hts hinX6 tyX6 tyX6_ok nmX6 hown f_4 rfl 1 (by decide) k30 (fun _ h9 => h9) rfl (by decide +kernel) rfl rfl (Nat.le_of_ble_eq_true rfl) dX6_append_29 (fun H locs hR hS => ?_)
    obtain ⟨h_6, e_7⟩ : ∃ zz9, zz9 = ah_up h_2 r (tr, .inr (5, [.ref b, .int (nI (z + 1))])) := ⟨_, rfl⟩
    have hR : ah_R G h_6 H := by rw [e_7]; exact hR
    have f_8 : h_6 r = some (tr, .inr (5, [.ref b, .int (nI (z + 1))])) := by rw [e_7]; exact ah_up_s _ _ _
    have f_9 : h_6 b = some (tb, .inl (G.2.2.1 0, n, .inl (nA (gU g z v)))) := by rw [e_7]; exact ah_keep f_5 f_4 (Ne.symm hne)
    refine ah_vret hx hb hr hlocks hR hS dX6_append_32 ?_
    rw [e_7, e_3]

set_option maxHeartbeats 4000000 in
set_option maxRecDepth 100000 in
theorem c_Row_byteOrZero (l : Launch) (G : ah_G) (h : ah_H) (r b tr tb n z : Nat) (g : Nat → Nat) (fr : h r = some (tr, .inr (5, [.ref b, .int (nI z)]))) (fb : h b = some (tb, .inl (G.2.2.1 0, n, .inl (nA g)))) (hne : tr ≠ tb) (hz : z ≤ n) (hn : n < 2 ^ 31) (hg : ∀ j, g j < 256) (k : Nat) (hk : k < 2 ^ 31) : Met l yX6_byteOrZero wsX6_byteOrZero ({ frames := 1, cells := 0, slots := 0, locals := 21 }) (ah_Pc G [.ref r, .int (nI k)] h) (ah_Qi G (fun v h' => v = nI (bz g z k) ∧ h' = h)) 0 0 (ah_A G) := by
  refine ah_ofW (cc := cX6_byteOrZero) (maxL := 2) (ret := (some .int)) (by decide) rfl (Nat.le_of_ble_eq_true rfl) ?_
  intro p e s m below meth cd9 ls hx hb hr hml hown hlocks hname hts hE hR hS hl
  have hown : s.vm.findClass RX6 = some m.cls := hown
  have hl : lv_has ls 2 [(0, .ref r), (1, .int (nI k))] := hl
  have wmethodLink_RX6_27_Lib_Math_max_name := hts (.methodLink RX6 27 Lib.Math.max.name) (by decide +kernel)
  have wstatic_Lib_Math_max_name := hts (.static Lib.Math.max.name) (by decide +kernel)
  have winitialized_java_lang_Math := hts (.initialized "java/lang/Math") (by decide +kernel)
  have wcode_Lib_Math_max_name_Lib_Math_max_code_2_some_int := hts (.code Lib.Math.max.name Lib.Math.max.code 2 (some .int)) (by decide +kernel)
  refine lv_iconst (v := nI 0) hx hb dX6_byteOrZero_0 (by decide) ?_
  refine lv_aload_n hx hb dX6_byteOrZero_1 rfl (lv_at hl 0 rfl) ?_
  refine lv_iload_n hx hb dX6_byteOrZero_2 rfl (lv_at hl 1 rfl) ?_
  refine ah_calli (va_runV (As := [.int (nI k)]) (rest := [.int (nI 0)]) ⟨hx, hb, hml, hown, hts⟩ (c_Row_byteAt l G h r b tr tb n z g fr fb hne hz hn (nI k)) (cwV 1 hts gX6_byteOrZero_X6_byteAt rfl rfl rfl (by decide +kernel) ⟨Nat.le_of_ble_eq_true rfl, Nat.le_of_ble_eq_true rfl⟩) (ah_preV hE hR hS fr rfl) rfl rfl hl.1 rfl (lv_room (Nat.le_of_ble_eq_true rfl)) dX6_byteOrZero_3 ⟨Nat.le_of_ble_eq_true rfl, Nat.le_of_ble_eq_true rfl⟩) hS (fun r_3 h_1 H locs p_2 hR hS => ?_)
  obtain ⟨e9, eh9⟩ := p_2
  rw [eh9] at hR
  refine ah_toi e9 ?_
  refine va_mmax hx hb (hml.trans hl.1.symm) hown wmethodLink_RX6_27_Lib_Math_max_name wstatic_Lib_Math_max_name winitialized_java_lang_Math wcode_Lib_Math_max_name_Lib_Math_max_code_2_some_int (Nat.le_of_ble_eq_true rfl) (Nat.le_of_ble_eq_true rfl) (Nat.le_of_ble_eq_true rfl) (Nat.le_of_ble_eq_true rfl) dX6_byteOrZero_6 ?_
  refine ah_toi (v := nI (bz g z k)) (bz_max hg hz hn hk) ?_
  refine ah_iret (v := nI (bz g z k)) hx hb hr hlocks hR hS dX6_byteOrZero_9 ?_
  exact ⟨rfl, rfl⟩

set_option maxHeartbeats 4000000 in
set_option maxRecDepth 100000 in
theorem c_Row_isBitSet (l : Launch) (G : ah_G) (h : ah_H) (r b tr tb n z : Nat) (g : Nat → Nat) (fr : h r = some (tr, .inr (5, [.ref b, .int (nI z)]))) (fb : h b = some (tb, .inl (G.2.2.1 0, n, .inl (nA g)))) (hne : tr ≠ tb) (hz : z ≤ n) (hn : n < 2 ^ 31) (hg : ∀ j, g j < 256) (k : Nat) (hk : k < 2 ^ 30) : Met l yX6_isBitSet wsX6_isBitSet ({ frames := 2, cells := 0, slots := 0, locals := 42 }) (ah_Pc G [.ref r, .int (nI k)] h) (ah_Qi G (fun v h' => v = (if bz g z (2 + k / 8) / 2 ^ (k % 8) % 2 = 1 then 1 else 0) ∧ h' = h)) 0 0 (ah_A G) := by
  refine ah_ofW (cc := cX6_isBitSet) (maxL := 2) (ret := (some .boolean)) (by decide) rfl (Nat.le_of_ble_eq_true rfl) ?_
  intro p e s m below meth cd9 ls hx hb hr hml hown hlocks hname hts hE hR hS hl
  have hown : s.vm.findClass RX6 = some m.cls := hown
  have hl : lv_has ls 2 [(0, .ref r), (1, .int (nI k))] := hl
  refine lv_aload_n hx hb dX6_isBitSet_0 rfl (lv_at hl 0 rfl) ?_
  refine lv_iconst (v := nI 2) hx hb dX6_isBitSet_1 (by decide) ?_
  refine lv_iload_n hx hb dX6_isBitSet_2 rfl (lv_at hl 1 rfl) ?_
  refine lv_bipush (v := nI 8) hx hb dX6_isBitSet_3 (by decide) ?_
  refine lv_idiv hx hb dX6_isBitSet_5 (by decide) ?_
  refine ah_toi (v := nI (k / 8)) (pk_div (by omega) (by omega) (by omega)) ?_
  refine lv_iadd hx hb dX6_isBitSet_6 ?_
  refine ah_toi (v := nI (2 + (k / 8))) (nI_add _ _) ?_
  refine ah_calli (va_runV (As := [.int (nI (2 + (k / 8)))]) (rest := []) ⟨hx, hb, hml, hown, hts⟩ (c_Row_byteOrZero l G h r b tr tb n z g fr fb hne hz hn hg (2 + (k / 8)) (by omega)) (cwV 1 hts gX6_isBitSet_X6_byteOrZero rfl rfl rfl (by decide +kernel) ⟨Nat.le_of_ble_eq_true rfl, Nat.le_of_ble_eq_true rfl⟩) (ah_preV hE hR hS fr rfl) rfl rfl hl.1 rfl (lv_room (Nat.le_of_ble_eq_true rfl)) dX6_isBitSet_7 ⟨Nat.le_of_ble_eq_true rfl, Nat.le_of_ble_eq_true rfl⟩) hS (fun r_3 h_1 H locs p_2 hR hS => ?_)
  obtain ⟨e_4, e_5⟩ := p_2
  rw [e_5] at hR
  refine ah_toi e_4 ?_
  refine lv_iload_n hx hb dX6_isBitSet_10 rfl (lv_at hl 1 rfl) ?_
  refine lv_bipush (v := nI 8) hx hb dX6_isBitSet_11 (by decide) ?_
  refine lv_irem hx hb dX6_isBitSet_13 (by decide) ?_
  refine ah_toi (v := nI (k % 8)) (pk_rem (by omega) (by omega) (by omega)) ?_
  refine lv_ishr hx hb dX6_isBitSet_14 ?_
  refine ah_toi (v := nI (bz g z (2 + k / 8) / 2 ^ (k % 8))) (ny_shr (by omega) (by have := bz_lt (z := z) (k := 2 + k / 8) hg; omega)) ?_
  refine lv_iconst (v := nI 1) hx hb dX6_isBitSet_15 (by decide) ?_
  refine lv_iand hx hb dX6_isBitSet_16 ?_
  refine ah_toi (v := nI (bz g z (2 + k / 8) / 2 ^ (k % 8) % 2)) (ny_a1 _) ?_
  refine lv_iconst (v := nI 1) hx hb dX6_isBitSet_17 (by decide) ?_
  refine lv_icmp_ne (tgt := 25) hx hb dX6_isBitSet_18 (by decide) (fun c_6 => ?_) (fun c_6 => ?_)
  · skip
    have c_6 : ¬ ((bz g z (2 + k / 8) / 2 ^ (k % 8) % 2) = 1) := fun z9 => c_6 ((nI_eq (by omega) (by omega)).mpr z9)
    refine lv_iconst (v := nI 0) hx hb dX6_isBitSet_25 (by decide) ?_
    refine ah_zret (v := nI 0) hx hb hr hlocks hR hS dX6_isBitSet_26 (by decide) ?_
    exact ⟨(if_neg c_6).symm, rfl⟩
  · skip
    have c_6 : (bz g z (2 + k / 8) / 2 ^ (k % 8) % 2) = 1 := (nI_eq (by omega) (by omega)).mp c_6
    refine lv_iconst (v := nI 1) hx hb dX6_isBitSet_21 (by decide) ?_
    refine lv_goto (tgt := 26) hx hb dX6_isBitSet_22 (by decide) ?_
    refine ah_zret (v := nI 1) hx hb hr hlocks hR hS dX6_isBitSet_26 (by decide) ?_
    exact ⟨(if_pos c_6).symm, rfl⟩

set_option maxHeartbeats 4000000 in
set_option maxRecDepth 100000 in
theorem c_Row_sevenAt (l : Launch) (G : ah_G) (h : ah_H) (r b tr tb n z : Nat) (g : Nat → Nat) (fr : h r = some (tr, .inr (5, [.ref b, .int (nI z)]))) (fb : h b = some (tb, .inl (G.2.2.1 0, n, .inl (nA g)))) (hne : tr ≠ tb) (hz : z ≤ n) (hn : n < 2 ^ 31) (hg : ∀ j, g j < 256) (k : Nat) (hk : k < 2 ^ 20) : Met l yX6_sevenAt wsX6_sevenAt ({ frames := 2, cells := 0, slots := 0, locals := 42 }) (ah_Pc G [.ref r, .int (nI k)] h) (ah_Qi G (fun v h' => v = nI (svn g z k) ∧ h' = h)) 0 0 (ah_A G) := by
  refine ah_ofW (cc := cX6_sevenAt) (maxL := 4) (ret := (some .int)) (by decide) rfl (Nat.le_of_ble_eq_true rfl) ?_
  intro p e s m below meth cd9 ls hx hb hr hml hown hlocks hname hts hE hR hS hl
  have hown : s.vm.findClass RX6 = some m.cls := hown
  have hl : lv_has ls 4 [(0, .ref r), (1, .int (nI k))] := hl
  refine lv_iconst (v := nI 2) hx hb dX6_sevenAt_0 (by decide) ?_
  refine lv_bipush (v := nI 7) hx hb dX6_sevenAt_1 (by decide) ?_
  refine lv_iload_n hx hb dX6_sevenAt_3 rfl (lv_at hl 1 rfl) ?_
  refine lv_imul hx hb dX6_sevenAt_4 ?_
  refine ah_toi (v := nI (7 * k)) (pk_mul _ _) ?_
  refine lv_bipush (v := nI 8) hx hb dX6_sevenAt_5 (by decide) ?_
  refine lv_idiv hx hb dX6_sevenAt_7 (by decide) ?_
  refine ah_toi (v := nI ((7 * k) / 8)) (pk_div (by omega) (by omega) (by omega)) ?_
  refine lv_iadd hx hb dX6_sevenAt_8 ?_
  refine ah_toi (v := nI (2 + ((7 * k) / 8))) (nI_add _ _) ?_
  refine lv_istore_n (lv' := [(2, .int (nI (2 + ((7 * k) / 8)))), (0, .ref r), (1, .int (nI k))]) hx hb dX6_sevenAt_9 rfl hl (by decide) rfl (fun ls hl => ?_)
  refine lv_aload_n hx hb dX6_sevenAt_10 rfl (lv_at hl 1 rfl) ?_
  refine lv_iload_n hx hb dX6_sevenAt_11 rfl (lv_at hl 0 rfl) ?_
  refine ah_calli (va_runV (As := [.int (nI (2 + ((7 * k) / 8)))]) (rest := []) ⟨hx, hb, hml, hown, hts⟩ (c_Row_byteOrZero l G h r b tr tb n z g fr fb hne hz hn hg (2 + ((7 * k) / 8)) (by omega)) (cwV 1 hts gX6_sevenAt_X6_byteOrZero rfl rfl rfl (by decide +kernel) ⟨Nat.le_of_ble_eq_true rfl, Nat.le_of_ble_eq_true rfl⟩) (ah_preV hE hR hS fr rfl) rfl rfl hl.1 rfl (lv_room (Nat.le_of_ble_eq_true rfl)) dX6_sevenAt_12 ⟨Nat.le_of_ble_eq_true rfl, Nat.le_of_ble_eq_true rfl⟩) hS (fun r_3 h_1 H locs p_2 hR hS => ?_)
  obtain ⟨e_4, e_5⟩ := p_2
  rw [e_5] at hR
  refine ah_toi e_4 ?_
  refine lv_aload_n hx hb dX6_sevenAt_15 rfl (lv_at hl 1 rfl) ?_
  refine lv_iload_n hx hb dX6_sevenAt_16 rfl (lv_at hl 0 rfl) ?_
  refine lv_iconst (v := nI 1) hx hb dX6_sevenAt_17 (by decide) ?_
  refine lv_iadd hx hb dX6_sevenAt_18 ?_
  refine ah_toi (v := nI ((2 + ((7 * k) / 8)) + 1)) (nI_add _ _) ?_
  refine ah_calli (va_runV (As := [.int (nI ((2 + ((7 * k) / 8)) + 1))]) (rest := [.int (nI (bz g z (2 + ((7 * k) / 8))))]) ⟨hx, hb, hml, hown, hts⟩ (c_Row_byteOrZero l G h r b tr tb n z g fr fb hne hz hn hg ((2 + ((7 * k) / 8)) + 1) (by omega)) (cwV 1 hts gX6_sevenAt_X6_byteOrZero rfl rfl rfl (by decide +kernel) ⟨Nat.le_of_ble_eq_true rfl, Nat.le_of_ble_eq_true rfl⟩) (ah_preV hE hR hS fr rfl) rfl rfl hl.1 rfl (lv_room (Nat.le_of_ble_eq_true rfl)) dX6_sevenAt_19 ⟨Nat.le_of_ble_eq_true rfl, Nat.le_of_ble_eq_true rfl⟩) hS (fun r_8 h_6 H locs p_7 hR hS => ?_)
  obtain ⟨e_9, e_10⟩ := p_7
  rw [e_10] at hR
  refine ah_toi e_9 ?_
  refine lv_bipush (v := nI 8) hx hb dX6_sevenAt_22 (by decide) ?_
  have hA := bz_lt (z := z) (k := 2 + 7 * k / 8) hg
  have hB := bz_lt (z := z) (k := 2 + 7 * k / 8 + 1) hg
  refine lv_ishl hx hb dX6_sevenAt_24 ?_
  refine ah_toi (v := nI (bz g z (2 + 7 * k / 8 + 1) * 2 ^ 8)) (ny_shl (by omega) (by omega)) ?_
  refine lv_ior hx hb dX6_sevenAt_25 ?_
  refine ah_toi (v := nI (bz g z (2 + 7 * k / 8) + 256 * bz g z (2 + 7 * k / 8 + 1))) (ny_or8 _ hA) ?_
  refine lv_istore_n (lv' := [(3, .int (nI (bz g z (2 + 7 * k / 8) + 256 * bz g z (2 + 7 * k / 8 + 1)))), (2, .int (nI (2 + ((7 * k) / 8)))), (0, .ref r), (1, .int (nI k))]) hx hb dX6_sevenAt_26 rfl hl (by decide) rfl (fun ls hl => ?_)
  refine lv_iload_n hx hb dX6_sevenAt_27 rfl (lv_at hl 0 rfl) ?_
  refine lv_bipush (v := nI 7) hx hb dX6_sevenAt_28 (by decide) ?_
  refine lv_iload_n hx hb dX6_sevenAt_30 rfl (lv_at hl 3 rfl) ?_
  refine lv_imul hx hb dX6_sevenAt_31 ?_
  refine ah_toi (v := nI (7 * k)) (pk_mul _ _) ?_
  refine lv_bipush (v := nI 8) hx hb dX6_sevenAt_32 (by decide) ?_
  refine lv_irem hx hb dX6_sevenAt_34 (by decide) ?_
  refine ah_toi (v := nI ((7 * k) % 8)) (pk_rem (by omega) (by omega) (by omega)) ?_
  refine lv_ishr hx hb dX6_sevenAt_35 ?_
  refine ah_toi (v := nI ((bz g z (2 + 7 * k / 8) + 256 * bz g z (2 + 7 * k / 8 + 1)) / 2 ^ (7 * k % 8))) (ny_shr (by omega) (by omega)) ?_
  refine lv_bipush (v := nI 127) hx hb dX6_sevenAt_36 (by decide) ?_
  refine lv_iand hx hb dX6_sevenAt_38 ?_
  refine ah_toi (v := nI (svn g z k)) (ny_a127 _) ?_
  refine ah_iret (v := nI (svn g z k)) hx hb hr hlocks hR hS dX6_sevenAt_39 ?_
  exact ⟨rfl, rfl⟩

set_option maxHeartbeats 4000000 in
set_option maxRecDepth 100000 in
theorem c_Row_addSeven (l : Launch) (G : ah_G) (h : ah_H) (r b tr tb n z : Nat) (g : Nat → Nat) (fr : h r = some (tr, .inr (5, [.ref b, .int (nI z)]))) (fb : h b = some (tb, .inl (G.2.2.1 0, n, .inl (nA g)))) (hne : tr ≠ tb) (hz : z ≤ n) (hn : n < 2 ^ 31) (hg : ∀ j, g j < 256) (k sv : Nat) (hk : k < 2 ^ 20) (hs : sv < 128) : Met l yX6_addSeven wsX6_addSeven ({ frames := 2, cells := 0, slots := 0, locals := 42 }) (ah_Pc G [.ref r, .int (nI k), .int (nI sv)] h) (ah_Qv G (fun h' => h' = ah_up h b (tb, .inl (G.2.2.1 0, n, .inl (nA (rwAdd g z k sv)))))) 0 0 (ah_A G) := by
  refine ah_ofW (cc := cX6_addSeven) (maxL := 5) (ret := none) (by decide) rfl (Nat.le_of_ble_eq_true rfl) ?_
  intro p e s m below meth cd9 ls hx hb hr hml hown hlocks hname hts hE hR hS hl
  have hown : s.vm.findClass RX6 = some m.cls := hown
  have hl : lv_has ls 5 [(0, .ref r), (1, .int (nI k)), (2, .int (nI sv))] := hl
  refine lv_iconst (v := nI 2) hx hb dX6_addSeven_0 (by decide) ?_
  refine lv_bipush (v := nI 7) hx hb dX6_addSeven_1 (by decide) ?_
  refine lv_iload_n hx hb dX6_addSeven_3 rfl (lv_at hl 1 rfl) ?_
  refine lv_imul hx hb dX6_addSeven_4 ?_
  refine ah_toi (v := nI (7 * k)) (pk_mul _ _) ?_
  refine lv_bipush (v := nI 8) hx hb dX6_addSeven_5 (by decide) ?_
  refine lv_idiv hx hb dX6_addSeven_7 (by decide) ?_
  refine ah_toi (v := nI ((7 * k) / 8)) (pk_div (by omega) (by omega) (by omega)) ?_
  refine lv_iadd hx hb dX6_addSeven_8 ?_
  refine ah_toi (v := nI (2 + ((7 * k) / 8))) (nI_add _ _) ?_
  refine lv_istore_n (lv' := [(3, .int (nI (2 + ((7 * k) / 8)))), (0, .ref r), (1, .int (nI k)), (2, .int (nI sv))]) hx hb dX6_addSeven_9 rfl hl (by decide) rfl (fun ls hl => ?_)
  refine lv_iload_n hx hb dX6_addSeven_10 rfl (lv_at hl 3 rfl) ?_
  refine lv_bipush (v := nI 7) hx hb dX6_addSeven_11 (by decide) ?_
  refine lv_iload_n hx hb dX6_addSeven_13 rfl (lv_at hl 2 rfl) ?_
  refine lv_imul hx hb dX6_addSeven_14 ?_
  refine ah_toi (v := nI (7 * k)) (pk_mul _ _) ?_
  refine lv_bipush (v := nI 8) hx hb dX6_addSeven_15 (by decide) ?_
  refine lv_irem hx hb dX6_addSeven_17 (by decide) ?_
  refine ah_toi (v := nI ((7 * k) % 8)) (pk_rem (by omega) (by omega) (by omega)) ?_
  have hA := bz_lt (z := z) (k := 2 + 7 * k / 8) hg
  have h7 : 7 * k % 8 < 8 := Nat.mod_lt _ (by omega)
  have hp : 2 ^ (7 * k % 8) ≤ 2 ^ 7 := Nat.pow_le_pow_right (by omega) (by omega)
  have hsh : sv * 2 ^ (7 * k % 8) < 2 ^ 15 := Nat.lt_of_le_of_lt (Nat.mul_le_mul_left _ hp) (by omega)
  refine lv_ishl hx hb dX6_addSeven_18 ?_
  refine ah_toi (v := nI (sv * 2 ^ (7 * k % 8))) (ny_shl (by omega) (by omega)) ?_
  refine lv_istore (lv' := [(4, .int (nI (sv * 2 ^ (7 * k % 8)))), (3, .int (nI (2 + ((7 * k) / 8)))), (0, .ref r), (1, .int (nI k)), (2, .int (nI sv))]) hx hb dX6_addSeven_19 hl (by decide) rfl (fun ls hl => ?_)
  refine lv_aload_n hx hb dX6_addSeven_21 rfl (lv_at hl 2 rfl) ?_
  refine lv_iload_n hx hb dX6_addSeven_22 rfl (lv_at hl 1 rfl) ?_
  refine lv_aload_n hx hb dX6_addSeven_23 rfl (lv_at hl 2 rfl) ?_
  refine lv_iload_n hx hb dX6_addSeven_24 rfl (lv_at hl 1 rfl) ?_
  refine ah_calli (va_runV (As := [.int (nI (2 + ((7 * k) / 8)))]) (rest := [.int (nI (2 + ((7 * k) / 8))), .ref r]) ⟨hx, hb, hml, hown, hts⟩ (c_Row_byteOrZero l G h r b tr tb n z g fr fb hne hz hn hg (2 + ((7 * k) / 8)) (by omega)) (cwV 1 hts gX6_addSeven_X6_byteOrZero rfl rfl rfl (by decide +kernel) ⟨Nat.le_of_ble_eq_true rfl, Nat.le_of_ble_eq_true rfl⟩) (ah_preV hE hR hS fr rfl) rfl rfl hl.1 rfl (lv_room (Nat.le_of_ble_eq_true rfl)) dX6_addSeven_25 ⟨Nat.le_of_ble_eq_true rfl, Nat.le_of_ble_eq_true rfl⟩) hS (fun r_3 h_1 H locs p_2 hR hS => ?_)
  obtain ⟨e_4, e_5⟩ := p_2
  rw [e_5] at hR
  refine ah_toi e_4 ?_
  refine lv_iload hx hb dX6_addSeven_28 (lv_at hl 0 rfl) ?_
  refine lv_sipush (v := nI 255) hx hb dX6_addSeven_30 (by decide) ?_
  refine lv_iand hx hb dX6_addSeven_33 ?_
  refine ah_toi (v := nI (sv * 2 ^ (7 * k % 8) % 256)) (ny_a255 _) ?_
  refine lv_ior hx hb dX6_addSeven_34 ?_
  refine ah_toi (v := nI (bz g z (2 + 7 * k / 8) ||| sv * 2 ^ (7 * k % 8) % 256)) (ny_or _ _) ?_
  refine ah_callv (va_runV (As := [.int (nI (2 + ((7 * k) / 8))), .int (nI (bz g z (2 + 7 * k / 8) ||| sv * 2 ^ (7 * k % 8) % 256))]) (rest := []) ⟨hx, hb, hml, hown, hts⟩ (c_Row_setByte l G h r b tr tb n z g fr fb hne hz hn (2 + ((7 * k) / 8)) (bz g z (2 + 7 * k / 8) ||| sv * 2 ^ (7 * k % 8) % 256) (by omega)) (cwV 2 hts gX6_addSeven_X6_setByte rfl rfl rfl (by decide +kernel) ⟨Nat.le_of_ble_eq_true rfl, Nat.le_of_ble_eq_true rfl⟩) (ah_preV hE hR hS fr rfl) rfl rfl hl.1 rfl (lv_room (Nat.le_of_ble_eq_true rfl)) dX6_addSeven_35 ⟨Nat.le_of_ble_eq_true rfl, Nat.le_of_ble_eq_true rfl⟩) hS (fun h_6 H locs p_7 hR hS => ?_)
  have f_9 : h_6 r = some (tr, .inr (5, [.ref b, .int (nI z)])) := by rw [p_7]; exact ah_keep fr fb hne
  have f_10 : h_6 b = some (tb, .inl (G.2.2.1 0, n, .inl (nA (rwS g z (2 + ((7 * k) / 8)) (bz g z (2 + 7 * k / 8) ||| sv * 2 ^ (7 * k % 8) % 256))))) := by rw [p_7]; exact ah_up_s _ _ _
  have hg1 := rwS_lt (z := z) (k := 2 + 7 * k / 8) hg (or_lt8 hA (show sv * 2 ^ (7 * k % 8) % 256 < 256 by omega))
  refine lv_aload_n hx hb dX6_addSeven_38 rfl (lv_at hl 2 rfl) ?_
  refine lv_iload_n hx hb dX6_addSeven_39 rfl (lv_at hl 1 rfl) ?_
  refine lv_iconst (v := nI 1) hx hb dX6_addSeven_40 (by decide) ?_
  refine lv_iadd hx hb dX6_addSeven_41 ?_
  refine ah_toi (v := nI ((2 + ((7 * k) / 8)) + 1)) (nI_add _ _) ?_
  refine lv_aload_n hx hb dX6_addSeven_42 rfl (lv_at hl 2 rfl) ?_
  refine lv_iload_n hx hb dX6_addSeven_43 rfl (lv_at hl 1 rfl) ?_
  refine lv_iconst (v := nI 1) hx hb dX6_addSeven_44 (by decide) ?_
  refine lv_iadd hx hb dX6_addSeven_45 ?_
  refine ah_toi (v := nI ((2 + ((7 * k) / 8)) + 1)) (nI_add _ _) ?_
  refine ah_calli (va_runV (As := [.int (nI ((2 + ((7 * k) / 8)) + 1))]) (rest := [.int (nI ((2 + ((7 * k) / 8)) + 1)), .ref r]) ⟨hx, hb, hml, hown, hts⟩ (c_Row_byteOrZero l G h_6 r b tr tb n z (rwS g z (2 + ((7 * k) / 8)) (bz g z (2 + 7 * k / 8) ||| sv * 2 ^ (7 * k % 8) % 256)) f_9 f_10 hne hz hn hg1 ((2 + ((7 * k) / 8)) + 1) (by omega)) (cwV 1 hts gX6_addSeven_X6_byteOrZero rfl rfl rfl (by decide +kernel) ⟨Nat.le_of_ble_eq_true rfl, Nat.le_of_ble_eq_true rfl⟩) (ah_preV hE hR hS f_9 rfl) rfl rfl hl.1 rfl (lv_room (Nat.le_of_ble_eq_true rfl)) dX6_addSeven_46 ⟨Nat.le_of_ble_eq_true rfl, Nat.le_of_ble_eq_true rfl⟩) hS (fun r_13 h_11 H locs p_12 hR hS => ?_)
  obtain ⟨e_14, e_15⟩ := p_12
  rw [e_15] at hR
  refine ah_toi e_14 ?_
  refine lv_iload hx hb dX6_addSeven_49 (lv_at hl 0 rfl) ?_
  refine lv_bipush (v := nI 8) hx hb dX6_addSeven_51 (by decide) ?_
  refine lv_ishr hx hb dX6_addSeven_53 ?_
  refine ah_toi (v := nI (sv * 2 ^ (7 * k % 8) / 2 ^ 8)) (ny_shr (by omega) (by omega)) ?_
  refine lv_ior hx hb dX6_addSeven_54 ?_
  refine ah_toi (v := nI (bz (rwS g z (2 + 7 * k / 8) (bz g z (2 + 7 * k / 8) ||| sv * 2 ^ (7 * k % 8) % 256)) z (2 + 7 * k / 8 + 1) ||| sv * 2 ^ (7 * k % 8) / 2 ^ 8)) (ny_or _ _) ?_
  refine ah_callv (va_runV (As := [.int (nI ((2 + ((7 * k) / 8)) + 1)), .int (nI (bz (rwS g z (2 + 7 * k / 8) (bz g z (2 + 7 * k / 8) ||| sv * 2 ^ (7 * k % 8) % 256)) z (2 + 7 * k / 8 + 1) ||| sv * 2 ^ (7 * k % 8) / 2 ^ 8))]) (rest := []) ⟨hx, hb, hml, hown, hts⟩ (c_Row_setByte l G h_6 r b tr tb n z (rwS g z (2 + ((7 * k) / 8)) (bz g z (2 + 7 * k / 8) ||| sv * 2 ^ (7 * k % 8) % 256)) f_9 f_10 hne hz hn ((2 + ((7 * k) / 8)) + 1) (bz (rwS g z (2 + 7 * k / 8) (bz g z (2 + 7 * k / 8) ||| sv * 2 ^ (7 * k % 8) % 256)) z (2 + 7 * k / 8 + 1) ||| sv * 2 ^ (7 * k % 8) / 2 ^ 8) (by omega)) (cwV 2 hts gX6_addSeven_X6_setByte rfl rfl rfl (by decide +kernel) ⟨Nat.le_of_ble_eq_true rfl, Nat.le_of_ble_eq_true rfl⟩) (ah_preV hE hR hS f_9 rfl) rfl rfl hl.1 rfl (lv_room (Nat.le_of_ble_eq_true rfl)) dX6_addSeven_55 ⟨Nat.le_of_ble_eq_true rfl, Nat.le_of_ble_eq_true rfl⟩) hS (fun h_16 H locs p_17 hR hS => ?_)
  have f_19 : h_16 r = some (tr, .inr (5, [.ref b, .int (nI z)])) := by rw [p_17]; exact ah_keep f_9 f_10 hne
  have f_20 : h_16 b = some (tb, .inl (G.2.2.1 0, n, .inl (nA (rwS (rwS g z (2 + ((7 * k) / 8)) (bz g z (2 + 7 * k / 8) ||| sv * 2 ^ (7 * k % 8) % 256)) z ((2 + ((7 * k) / 8)) + 1) (bz (rwS g z (2 + 7 * k / 8) (bz g z (2 + 7 * k / 8) ||| sv * 2 ^ (7 * k % 8) % 256)) z (2 + 7 * k / 8 + 1) ||| sv * 2 ^ (7 * k % 8) / 2 ^ 8))))) := by rw [p_17]; exact ah_up_s _ _ _
  refine ah_vret hx hb hr hlocks hR hS dX6_addSeven_58 ?_
  rw [p_17, p_7, ah_up2]; rfl

set_option maxHeartbeats 4000000 in
set_option maxRecDepth 100000 in
theorem c_Row_restart (l : Launch) (G : ah_G) (h : ah_H) (r b tr tb n z : Nat) (g : Nat → Nat) (fr : h r = some (tr, .inr (5, [.ref b, .int (nI z)]))) (fb : h b = some (tb, .inl (G.2.2.1 0, n, .inl (nA g)))) (hne : tr ≠ tb) (hz : z ≤ n) (hn : n < 2 ^ 31) (k : Nat) (hk : k ≤ n) : Met l yX6_restart wsX6_restart ({ frames := 1, cells := 0, slots := 0, locals := 23 }) (ah_Pc G [.ref r, .int (nI k)] h) (ah_Qv G (fun h' => h' = ah_up (ah_up h b (tb, .inl (G.2.2.1 0, n, .inl (nA (fun _ => 0))))) r (tr, .inr (5, [.ref b, .int (nI k)])))) 0 0 (ah_A G) := by
  refine ah_ofW (cc := cX6_restart) (maxL := 2) (ret := none) (by decide) rfl (Nat.le_of_ble_eq_true rfl) ?_
  intro p e s m below meth cd9 ls hx hb hr hml hown hlocks hname hts hE hR hS hl
  have hown : s.vm.findClass RX6 = some m.cls := hown
  have hl : lv_has ls 2 [(0, .ref r), (1, .int (nI k))] := hl
  have k9 := hts (.fieldLink RX6 9 "TextParts$Row" "bytes" "[I") (by decide +kernel)
  have hinX6 : ∀ w ∈ wsX60, w ∈ wsX6_restart := by decide +kernel
  have wmethodLink_RX6_21_Lib_Math_min_name := hts (.methodLink RX6 21 Lib.Math.min.name) (by decide +kernel)
  have wstatic_Lib_Math_min_name := hts (.static Lib.Math.min.name) (by decide +kernel)
  have winitialized_java_lang_Math := hts (.initialized "java/lang/Math") (by decide +kernel)
  have wcode_Lib_Math_min_name_Lib_Math_min_code_2_some_int := hts (.code Lib.Math.min.name Lib.Math.min.code 2 (some .int)) (by decide +kernel)
  have wmethodLink_RX6_27_Lib_Math_max_name := hts (.methodLink RX6 27 Lib.Math.max.name) (by decide +kernel)
  have wstatic_Lib_Math_max_name := hts (.static Lib.Math.max.name) (by decide +kernel)
  have wcode_Lib_Math_max_name_Lib_Math_max_code_2_some_int := hts (.code Lib.Math.max.name Lib.Math.max.code 2 (some .int)) (by decide +kernel)
  have k30 := hts (.fieldLink RX6 30 "TextParts$Row" "size" "I") (by decide +kernel)
  refine lv_aload_n hx hb dX6_restart_0 rfl (lv_at hl 0 rfl) ?_
  refine ah_get (ci := 5) (v := .ref b) (C := RX6) (T := TX6) (N := 2) hx hb hE hR hts hinX6 hown fr rfl 0 (by decide) k9 (fun _ h9 => h9) rfl dX6_restart_1 ?_
  refine lv_iconst (v := nI 0) hx hb dX6_restart_4 (by decide) ?_
  refine ah_callv (va_runS (As := [.ref b, .int (nI 0)]) (rest := []) ⟨hx, hb, hml, hown, hts⟩ (c_fill l G h b tb n 0 g fb hn) (va_cwS 2 hts gX6_restart_J7_fill_53178 rfl rfl rfl (by decide +kernel) ⟨Nat.le_of_ble_eq_true rfl, Nat.le_of_ble_eq_true rfl⟩) (ah_preS hE hR hS) rfl rfl hl.1 rfl (lv_room (Nat.le_of_ble_eq_true rfl)) dX6_restart_5 ⟨Nat.le_of_ble_eq_true rfl, Nat.le_of_ble_eq_true rfl⟩) hS (fun h_1 H locs p_2 hR hS => ?_)
  have f_4 : h_1 r = some (tr, .inr (5, [.ref b, .int (nI z)])) := by rw [p_2]; exact ah_keep fr fb hne
  have f_5 : h_1 b = some (tb, .inl (G.2.2.1 0, n, .inl (nA (fun _ => 0)))) := by rw [p_2]; exact ah_up_s _ _ _
  refine lv_aload_n hx hb dX6_restart_8 rfl (lv_at hl 0 rfl) ?_
  refine lv_iconst (v := nI 0) hx hb dX6_restart_9 (by decide) ?_
  refine lv_iload_n hx hb dX6_restart_10 rfl (lv_at hl 1 rfl) ?_
  refine lv_aload_n hx hb dX6_restart_11 rfl (lv_at hl 0 rfl) ?_
  refine ah_get (ci := 5) (v := .ref b) (C := RX6) (T := TX6) (N := 2) hx hb hE hR hts hinX6 hown f_4 rfl 0 (by decide) k9 (fun _ h9 => h9) rfl dX6_restart_12 ?_
  refine ah_alen hx hb hE hR f_5 (show (ah_tys G)[0]? = some _ from rfl) dX6_restart_15 ?_
  refine va_mmin hx hb (hml.trans hl.1.symm) hown wmethodLink_RX6_21_Lib_Math_min_name wstatic_Lib_Math_min_name winitialized_java_lang_Math wcode_Lib_Math_min_name_Lib_Math_min_code_2_some_int (Nat.le_of_ble_eq_true rfl) (Nat.le_of_ble_eq_true rfl) (Nat.le_of_ble_eq_true rfl) (Nat.le_of_ble_eq_true rfl) dX6_restart_16 ?_
  refine ah_toi (v := nI k) (mm_min (by omega) (by omega) hk) ?_
  refine va_mmax hx hb (hml.trans hl.1.symm) hown wmethodLink_RX6_27_Lib_Math_max_name wstatic_Lib_Math_max_name winitialized_java_lang_Math wcode_Lib_Math_max_name_Lib_Math_max_code_2_some_int (Nat.le_of_ble_eq_true rfl) (Nat.le_of_ble_eq_true rfl) (Nat.le_of_ble_eq_true rfl) (Nat.le_of_ble_eq_true rfl) dX6_restart_19 ?_
  refine ah_toi (v := nI k) (mm_max (by omega)) ?_
  refine ah_put (ci := 5) (v := .int (nI k)) (ty := .int) (C := RX6) (T := TX6) (N := 2) hx hb hE hR hS hts hinX6 tyX6 tyX6_ok nmX6 hown f_4 rfl 1 (by decide) k30 (fun _ h9 => h9) rfl (by decide +kernel) rfl rfl (Nat.le_of_ble_eq_true rfl) dX6_restart_22 (fun H locs hR hS => ?_)
  obtain ⟨h_6, e_7⟩ : ∃ zz9, zz9 = ah_up h_1 r (tr, .inr (5, [.ref b, .int (nI k)])) := ⟨_, rfl⟩
  have hR : ah_R G h_6 H := by rw [e_7]; exact hR
  have f_8 : h_6 r = some (tr, .inr (5, [.ref b, .int (nI k)])) := by rw [e_7]; exact ah_up_s _ _ _
  have f_9 : h_6 b = some (tb, .inl (G.2.2.1 0, n, .inl (nA (fun _ => 0)))) := by rw [e_7]; exact ah_keep f_5 f_4 (Ne.symm hne)
  refine ah_vret hx hb hr hlocks hR hS dX6_restart_25 ?_
  rw [e_7, p_2]

set_option maxHeartbeats 4000000 in
set_option maxRecDepth 100000 in
theorem c_Row_init (l : Launch) (G : ah_G) (h : ah_H) (r tr tb n : Nat) (fr : h r = some (tr, .inr (5, [.null, .int (nI 0)]))) (hne : tr ≠ tb) (hn : n * 4 ≤ 536870912) : Met l yX6_init wsX6_init ({ frames := 1, cells := 1, slots := n, locals := 20 }) (ah_Pc G [.ref r, .int (nI n)] h) (ah_Qv G (fun h' => ∃ q, h q = none ∧ h' = ah_up (ah_up h q (tb, .inl (G.2.2.1 0, n, .inl (nA (fun _ => 0))))) r (tr, .inr (5, [.ref q, .int (nI 0)])))) 1 n (ah_A G) := by
  refine ah_ofW (cc := cX6_init) (maxL := 2) (ret := none) (by decide) rfl (Nat.le_of_ble_eq_true rfl) ?_
  intro p e s m below meth cd9 ls hx hb hr hml hown hlocks hname hts hE hR hS hl
  have hown : s.vm.findClass RX6 = some m.cls := hown
  have hl : lv_has ls 2 [(0, .ref r), (1, .int (nI n))] := hl
  have wmethodLink_RX6_3_objectInit := hts (.methodLink RX6 3 objectInit) (by decide +kernel)
  have winstanceMethod_objectInit := hts (.instanceMethod objectInit) (by decide +kernel)
  have wcode_objectInit_0xb1_1_none := hts (.code objectInit ⟨#[0xb1]⟩ 1 none) (by decide +kernel)
  have warrayClass_int := hts (.arrayClass .int) (by decide +kernel)
  have k9 := hts (.fieldLink RX6 9 "TextParts$Row" "bytes" "[I") (by decide +kernel)
  have hinX6 : ∀ w ∈ wsX60, w ∈ wsX6_init := by decide +kernel
  refine lv_aload_n hx hb dX6_init_0 rfl (lv_at hl 0 rfl) ?_
  refine W.objInit hx hb hown wmethodLink_RX6_3_objectInit winstanceMethod_objectInit wcode_objectInit_0xb1_1_none rfl (by rw [hml]; exact hl.1) rfl dX6_init_1 (Nat.le_of_ble_eq_true rfl) (Nat.le_of_ble_eq_true rfl) ?_
  refine W.eq (g2 := F0 m 4 ls []) rfl ?_
  refine lv_aload_n hx hb dX6_init_4 rfl (lv_at hl 0 rfl) ?_
  refine lv_iload_n hx hb dX6_init_5 rfl (lv_at hl 1 rfl) ?_
  refine ah_newi (n := n) hx hb hE hR hS warrayClass_int tb (by omega) (Nat.le_of_ble_eq_true rfl) (by simp) dX6_init_6 (fun q_1 H hq_2 hR hS => ?_)
  rw [nA_0] at hR
  obtain ⟨h_3, e_4⟩ : ∃ zz9, zz9 = ah_up h q_1 (tb, .inl (G.2.2.1 0, n, .inl (nA (fun _ => 0)))) := ⟨_, rfl⟩
  have hR : ah_R G h_3 H := by rw [e_4]; exact hR
  have f_5 : h_3 r = some (tr, .inr (5, [.null, .int (nI 0)])) := by rw [e_4]; exact ah_new fr hq_2
  have f_6 : h_3 q_1 = some (tb, .inl (G.2.2.1 0, n, .inl (nA (fun _ => 0)))) := by rw [e_4]; exact ah_up_s _ _ _
  refine ah_putF (ci := 5) (v := .ref q_1) (ty := .array .int) (C := RX6) (T := TX6) (N := 2) hx hb hE hR hS hts hinX6 tyX6 tyX6_ok nmX6 hown f_5 rfl 0 (by decide) k9 (fun _ h9 => h9) rfl hname rfl (by decide +kernel) rfl rfl (Nat.le_of_ble_eq_true rfl) dX6_init_8 (fun H locs hR hS => ?_)
  obtain ⟨h_7, e_8⟩ : ∃ zz9, zz9 = ah_up h_3 r (tr, .inr (5, [.ref q_1, .int (nI 0)])) := ⟨_, rfl⟩
  have hR : ah_R G h_7 H := by rw [e_8]; exact hR
  have f_9 : h_7 r = some (tr, .inr (5, [.ref q_1, .int (nI 0)])) := by rw [e_8]; exact ah_up_s _ _ _
  have f_10 : h_7 q_1 = some (tb, .inl (G.2.2.1 0, n, .inl (nA (fun _ => 0)))) := by rw [e_8]; exact ah_keep f_6 f_5 (Ne.symm hne)
  refine W.widen (k := 1) (n := n) (by omega) (by omega) ?_
  refine ah_vret hx hb hr hlocks hR hS dX6_init_11 ?_
  exact ⟨q_1, hq_2, by rw [e_8, e_4]⟩
