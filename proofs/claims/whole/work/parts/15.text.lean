/-! ===== TextParts$Text ===== -/
theorem svFor_le (u : Nat) : svFor u ≤ 2 := by
  unfold svFor; split
  · split <;> omega
  · omega
/-- the sevens of m units from a on -/
def sumS (f : Nat → Nat) (a : Nat) : Nat → Nat
  | 0 => 0
  | m + 1 => sumS f a m + svFor (f (a + m))
theorem sumS_le (f : Nat → Nat) (a m : Nat) : sumS f a m ≤ 2 * m := by
  induction m with
  | zero => exact Nat.le_refl 0
  | succ m ih => have := svFor_le (f (a + m)); simp only [sumS]; omega
/-- where a part by the alphabet ends: fuel, place, what is left -/
def sEnd (f : Nat → Nat) (n : Nat) : Nat → Nat → Nat → Nat
  | 0, i, _ => i
  | m + 1, i, q => if n ≤ i then n else if q < svFor (f i) then i else sEnd f n m (i + 1) (q - svFor (f i))
theorem sEnd_le {f : Nat → Nat} {n : Nat} : ∀ (m i q : Nat), i ≤ n → sEnd f n m i q ≤ n
  | 0, _, _, h => h
  | m + 1, i, q, h => by
    unfold sEnd
    split
    · exact Nat.le_refl n
    · split
      · exact h
      · exact sEnd_le m (i + 1) _ (by omega)
abbrev hiP (u : Nat) : Prop := 55296 ≤ u ∧ u ≤ 56319
abbrev loP (u : Nat) : Prop := 56320 ≤ u ∧ u ≤ 57343
def pEnd (f : Nat → Nat) (n a : Nat) : Nat := if n ≤ a + 67 then n else if hiP (f (a + 67 - 1)) ∧ loP (f (a + 67)) then a + 67 - 1 else a + 67
def tEnd (f : Nat → Nat) (n os a : Nat) : Nat := if os = 0 then sEnd f n (n - a + 1) a 153 else pEnd f n a
theorem tEnd_le {f : Nat → Nat} {n os a : Nat} (h : a ≤ n) : tEnd f n os a ≤ n := by
  unfold tEnd; split
  · exact sEnd_le _ _ _ h
  · unfold pEnd; split
    · exact Nat.le_refl n
    · split <;> omega
abbrev aloneP (n sv os : Nat) : Prop := if os = 0 then sv ≤ 160 else 2 * n ≤ 140
/-- how many parts: fuel, parts so far, where the next one begins -/
def pcR (e : Nat → Nat) (n : Nat) : Nat → Nat → Nat → Nat
  | 0, _, _ => 0
  | m + 1, k, a => if n ≤ a then k else pcR e n m (k + 1) (e a)
def tParts (f : Nat → Nat) (n sv os : Nat) : Nat := if aloneP n sv os then 1 else pcR (tEnd f n os) n 256 0 0
theorem if10 {P : Prop} [Decidable P] : (if P then 1 else 0) < 2 ^ 31 := by split <;> omega
theorem if10t {P : Prop} [Decidable P] (c : ¬ (if P then 1 else 0) = 0) : P := Classical.byContradiction (fun z => by rw [if_neg z] at c; omega)
theorem if10f {P : Prop} [Decidable P] (c : (if P then 1 else 0) = 0) : ¬ P := fun z => by rw [if_pos z] at c; omega

set_option maxHeartbeats 4000000 in
set_option maxRecDepth 100000 in
theorem c_Text_init (l : Launch) (G : ah_G) (h : ah_H) (t tt tu : Nat) (ft : h t = some (tt, .inr (6, [.null, .int (nI 0), .int (nI 0), .int (nI 0)]))) (hne : tt ≠ tu) : Met l yX7_init wsX7_init ({ frames := 1, cells := 1, slots := 3000, locals := 20 }) (ah_Pc G [.ref t] h) (ah_Qv G (fun h' => ∃ q, h q = none ∧ h' = ah_up (ah_up h q (tu, .inl (G.2.2.1 0, 3000, .inl (nA (fun _ => 0))))) t (tt, .inr (6, [.ref q, .int (nI 0), .int (nI 0), .int (nI 0)])))) 1 3000 (ah_A G) := by
  refine ah_ofW (cc := cX7_init) (maxL := 1) (ret := none) (by decide) rfl (Nat.le_of_ble_eq_true rfl) ?_
  intro p e s m below meth cd9 ls hx hb hr hml hown hlocks hname hts hE hR hS hl
  have hown : s.vm.findClass RX7 = some m.cls := hown
  have hl : lv_has ls 1 [(0, .ref t)] := hl
  have wmethodLink_RX7_3_objectInit := hts (.methodLink RX7 3 objectInit) (by decide +kernel)
  have winstanceMethod_objectInit := hts (.instanceMethod objectInit) (by decide +kernel)
  have wcode_objectInit_0xb1_1_none := hts (.code objectInit ⟨#[0xb1]⟩ 1 none) (by decide +kernel)
  have warrayClass_int := hts (.arrayClass .int) (by decide +kernel)
  have k9 := hts (.fieldLink RX7 9 "TextParts$Text" "units" "[I") (by decide +kernel)
  have hinX7 : ∀ w ∈ wsX70, w ∈ wsX7_init := by decide +kernel
  refine lv_aload_n hx hb dX7_init_0 rfl (lv_at hl 0 rfl) ?_
  refine W.objInit hx hb hown wmethodLink_RX7_3_objectInit winstanceMethod_objectInit wcode_objectInit_0xb1_1_none rfl (by rw [hml]; exact hl.1) rfl dX7_init_1 (Nat.le_of_ble_eq_true rfl) (Nat.le_of_ble_eq_true rfl) ?_
  refine W.eq (g2 := F0 m 4 ls []) rfl ?_
  refine lv_aload_n hx hb dX7_init_4 rfl (lv_at hl 0 rfl) ?_
  refine lv_sipush (v := nI 3000) hx hb dX7_init_5 (by decide) ?_
  refine ah_newi (n := 3000) hx hb hE hR hS warrayClass_int tu (by decide) (Nat.le_of_ble_eq_true rfl) (Nat.le_of_ble_eq_true rfl) dX7_init_8 (fun q_1 H hq_2 hR hS => ?_)
  rw [nA_0] at hR
  obtain ⟨h_3, e_4⟩ : ∃ zz9, zz9 = ah_up h q_1 (tu, .inl (G.2.2.1 0, 3000, .inl (nA (fun _ => 0)))) := ⟨_, rfl⟩
  have hR : ah_R G h_3 H := by rw [e_4]; exact hR
  have f_5 : h_3 t = some (tt, .inr (6, [.null, .int (nI 0), .int (nI 0), .int (nI 0)])) := by rw [e_4]; exact ah_new ft hq_2
  have f_6 : h_3 q_1 = some (tu, .inl (G.2.2.1 0, 3000, .inl (nA (fun _ => 0)))) := by rw [e_4]; exact ah_up_s _ _ _
  refine ah_putF (ci := 6) (v := .ref q_1) (ty := .array .int) (C := RX7) (T := TX7) (N := 4) hx hb hE hR hS hts hinX7 tyX7 tyX7_ok nmX7 hown f_5 rfl 0 (by decide) k9 (fun _ h9 => h9) rfl hname rfl (by decide +kernel) rfl rfl (Nat.le_of_ble_eq_true rfl) dX7_init_10 (fun H locs hR hS => ?_)
  obtain ⟨h_7, e_8⟩ : ∃ zz9, zz9 = ah_up h_3 t (tt, .inr (6, [.ref q_1, .int (nI 0), .int (nI 0), .int (nI 0)])) := ⟨_, rfl⟩
  have hR : ah_R G h_7 H := by rw [e_8]; exact hR
  have f_9 : h_7 t = some (tt, .inr (6, [.ref q_1, .int (nI 0), .int (nI 0), .int (nI 0)])) := by rw [e_8]; exact ah_up_s _ _ _
  have f_10 : h_7 q_1 = some (tu, .inl (G.2.2.1 0, 3000, .inl (nA (fun _ => 0)))) := by rw [e_8]; exact ah_keep f_6 f_5 (Ne.symm hne)
  refine ah_vret hx hb hr hlocks hR hS dX7_init_13 ?_
  exact ⟨q_1, hq_2, by rw [e_8, e_4]⟩

set_option maxHeartbeats 4000000 in
set_option maxRecDepth 100000 in
theorem c_Text_append (l : Launch) (G : ah_G) (h : ah_H) (t ua tt tu n sv os : Nat) (f : Nat → Nat) (ft : h t = some (tt, .inr (6, [.ref ua, .int (nI n), .int (nI sv), .int (nI os)]))) (fu : h ua = some (tu, .inl (G.2.2.1 0, 3000, .inl (nA f)))) (hne : tt ≠ tu) (hn : n ≤ 3000) (hsv : sv < 2 ^ 30) (hos : os < 2 ^ 30) (hf : ∀ j, f j < 65536) (u : Nat) (hu : u < 65536) (hlt : n < 3000) : Met l yX7_append wsX7_append ({ frames := 3, cells := 0, slots := 0, locals := 63 }) (ah_Pc G [.ref t, .int (nI u)] h) (ah_Qv G (fun h' => h' = ah_up (ah_up h ua (tu, .inl (G.2.2.1 0, 3000, .inl (nA (gU f n u))))) t (tt, .inr (6, [.ref ua, .int (nI (n + 1)), .int (nI (sv + svFor u)), .int (nI (os + if svFor u = 0 then 1 else 0))])))) 0 0 (ah_A G) := by
  refine ah_ofW (cc := cX7_append) (maxL := 3) (ret := none) (by decide) rfl (Nat.le_of_ble_eq_true rfl) ?_
  intro p e s m below meth cd9 ls hx hb hr hml hown hlocks hname hts hE hR hS hl
  have hown : s.vm.findClass RX7 = some m.cls := hown
  have hl : lv_has ls 3 [(0, .ref t), (1, .int (nI u))] := hl
  have k15 := hts (.fieldLink RX7 15 "TextParts$Text" "count" "I") (by decide +kernel)
  have hinX7 : ∀ w ∈ wsX70, w ∈ wsX7_append := by decide +kernel
  have k9 := hts (.fieldLink RX7 9 "TextParts$Text" "units" "[I") (by decide +kernel)
  have k25 := hts (.fieldLink RX7 25 "TextParts$Text" "sevens" "I") (by decide +kernel)
  have k28 := hts (.fieldLink RX7 28 "TextParts$Text" "outsiders" "I") (by decide +kernel)
  refine lv_aload_n hx hb dX7_append_0 rfl (lv_at hl 0 rfl) ?_
  refine ah_get (ci := 6) (v := .int (nI n)) (C := RX7) (T := TX7) (N := 4) hx hb hE hR hts hinX7 hown ft rfl 1 (by decide) k15 (fun _ h9 => h9) rfl dX7_append_1 ?_
  refine lv_aload_n hx hb dX7_append_4 rfl (lv_at hl 0 rfl) ?_
  refine ah_get (ci := 6) (v := .ref ua) (C := RX7) (T := TX7) (N := 4) hx hb hE hR hts hinX7 hown ft rfl 0 (by decide) k9 (fun _ h9 => h9) rfl dX7_append_5 ?_
  refine ah_alen hx hb hE hR fu (show (ah_tys G)[0]? = some _ from rfl) dX7_append_8 ?_
  refine lv_icmp_lt (tgt := 13) hx hb dX7_append_9 (by decide) (fun c_1 => ?_) (fun c_1 => ?_)
  · skip
    have c_1 : n < 3000 := (nI_ltI (by omega) (by omega)).mp c_1
    refine lv_aload_n hx hb dX7_append_13 rfl (lv_at hl 0 rfl) ?_
    refine ah_get (ci := 6) (v := .ref ua) (C := RX7) (T := TX7) (N := 4) hx hb hE hR hts hinX7 hown ft rfl 0 (by decide) k9 (fun _ h9 => h9) rfl dX7_append_14 ?_
    refine lv_aload_n hx hb dX7_append_17 rfl (lv_at hl 0 rfl) ?_
    refine ah_get (ci := 6) (v := .int (nI n)) (C := RX7) (T := TX7) (N := 4) hx hb hE hR hts hinX7 hown ft rfl 1 (by decide) k15 (fun _ h9 => h9) rfl dX7_append_18 ?_
    refine lv_iload_n hx hb dX7_append_21 rfl (lv_at hl 1 rfl) ?_
    refine ah_iast (i := n) hx hb hE hR hS fu (by omega) (by omega) dX7_append_22 (fun H locs hR hS => ?_)
    rw [nA_upd] at hR
    obtain ⟨h_2, e_3⟩ : ∃ zz9, zz9 = ah_up h ua (tu, .inl (G.2.2.1 0, 3000, .inl (nA (gU f n u)))) := ⟨_, rfl⟩
    have hR : ah_R G h_2 H := by rw [e_3]; exact hR
    have f_4 : h_2 t = some (tt, .inr (6, [.ref ua, .int (nI n), .int (nI sv), .int (nI os)])) := by rw [e_3]; exact ah_keep ft fu hne
    have f_5 : h_2 ua = some (tu, .inl (G.2.2.1 0, 3000, .inl (nA (gU f n u)))) := by rw [e_3]; exact ah_up_s _ _ _
    refine lv_aload_n hx hb dX7_append_23 rfl (lv_at hl 0 rfl) ?_
    refine lv_dup hx hb dX7_append_24 rfl ?_
    refine ah_get (ci := 6) (v := .int (nI n)) (C := RX7) (T := TX7) (N := 4) hx hb hE hR hts hinX7 hown f_4 rfl 1 (by decide) k15 (fun _ h9 => h9) rfl dX7_append_25 ?_
    refine lv_iconst (v := nI 1) hx hb dX7_append_28 (by decide) ?_
    refine lv_iadd hx hb dX7_append_29 ?_
    refine ah_toi (v := nI (n + 1)) (nI_add _ _) ?_
    refine ah_put (ci := 6) (v := .int (nI (n + 1))) (ty := .int) (C := RX7) (T := TX7) (N := 4) hx hb hE hR hS hts hinX7 tyX7 tyX7_ok nmX7 hown f_4 rfl 1 (by decide) k15 (fun _ h9 => h9) rfl (by decide +kernel) rfl rfl (Nat.le_of_ble_eq_true rfl) dX7_append_30 (fun H locs hR hS => ?_)
    obtain ⟨h_6, e_7⟩ : ∃ zz9, zz9 = ah_up h_2 t (tt, .inr (6, [.ref ua, .int (nI (n + 1)), .int (nI sv), .int (nI os)])) := ⟨_, rfl⟩
    have hR : ah_R G h_6 H := by rw [e_7]; exact hR
    have f_8 : h_6 t = some (tt, .inr (6, [.ref ua, .int (nI (n + 1)), .int (nI sv), .int (nI os)])) := by rw [e_7]; exact ah_up_s _ _ _
    have f_9 : h_6 ua = some (tu, .inl (G.2.2.1 0, 3000, .inl (nA (gU f n u)))) := by rw [e_7]; exact ah_keep f_5 f_4 (Ne.symm hne)
    refine lv_iload_n hx hb dX7_append_33 rfl (lv_at hl 1 rfl) ?_
    refine ah_calli (va_runS (As := [.int (nI u)]) (rest := []) ⟨hx, hb, hml, hown, hts⟩ (c_sevensFor l G h_6 u (by omega)) (va_cwS 1 hts gX7_append_X0_sevensFor rfl rfl rfl (by decide +kernel) ⟨Nat.le_of_ble_eq_true rfl, Nat.le_of_ble_eq_true rfl⟩) (ah_preS hE hR hS) rfl rfl hl.1 rfl (lv_room (Nat.le_of_ble_eq_true rfl)) dX7_append_34 ⟨Nat.le_of_ble_eq_true rfl, Nat.le_of_ble_eq_true rfl⟩) hS (fun r_12 h_10 H locs p_11 hR hS => ?_)
    obtain ⟨e_13, e_14⟩ := p_11
    rw [e_14] at hR
    refine ah_toi e_13 ?_
    have h2 := svFor_le u
    refine lv_istore_n (lv' := [(2, .int (nI (svFor u))), (0, .ref t), (1, .int (nI u))]) hx hb dX7_append_37 rfl hl (by decide) rfl (fun ls hl => ?_)
    refine lv_aload_n hx hb dX7_append_38 rfl (lv_at hl 1 rfl) ?_
    refine lv_dup hx hb dX7_append_39 rfl ?_
    refine ah_get (ci := 6) (v := .int (nI sv)) (C := RX7) (T := TX7) (N := 4) hx hb hE hR hts hinX7 hown f_8 rfl 2 (by decide) k25 (fun _ h9 => h9) rfl dX7_append_40 ?_
    refine lv_iload_n hx hb dX7_append_43 rfl (lv_at hl 0 rfl) ?_
    refine lv_iadd hx hb dX7_append_44 ?_
    refine ah_toi (v := nI (sv + (svFor u))) (nI_add _ _) ?_
    refine ah_put (ci := 6) (v := .int (nI (sv + (svFor u)))) (ty := .int) (C := RX7) (T := TX7) (N := 4) hx hb hE hR hS hts hinX7 tyX7 tyX7_ok nmX7 hown f_8 rfl 2 (by decide) k25 (fun _ h9 => h9) rfl (by decide +kernel) rfl rfl (Nat.le_of_ble_eq_true rfl) dX7_append_45 (fun H locs hR hS => ?_)
    obtain ⟨h_15, e_16⟩ : ∃ zz9, zz9 = ah_up h_6 t (tt, .inr (6, [.ref ua, .int (nI (n + 1)), .int (nI (sv + (svFor u))), .int (nI os)])) := ⟨_, rfl⟩
    have hR : ah_R G h_15 H := by rw [e_16]; exact hR
    have f_17 : h_15 t = some (tt, .inr (6, [.ref ua, .int (nI (n + 1)), .int (nI (sv + (svFor u))), .int (nI os)])) := by rw [e_16]; exact ah_up_s _ _ _
    have f_18 : h_15 ua = some (tu, .inl (G.2.2.1 0, 3000, .inl (nA (gU f n u)))) := by rw [e_16]; exact ah_keep f_9 f_8 (Ne.symm hne)
    refine lv_iload_n hx hb dX7_append_48 rfl (lv_at hl 0 rfl) ?_
    refine lv_if_ne (tgt := 62) hx hb dX7_append_49 (by decide) (fun c_19 => ?_) (fun c_19 => ?_)
    · skip
      have c_19 : ¬ ((svFor u) = 0) := fun z9 => c_19 ((zi_eq (by omega)).mpr z9)
      refine ah_vret hx hb hr hlocks hR hS dX7_append_62 ?_
      rw [e_16, e_7, e_3]
      rw [if_neg c_19]
      simp only [ah_up2, Nat.add_zero]
    · skip
      have c_19 : (svFor u) = 0 := (zi_eq (by omega)).mp c_19
      refine lv_aload_n hx hb dX7_append_52 rfl (lv_at hl 1 rfl) ?_
      refine lv_dup hx hb dX7_append_53 rfl ?_
      refine ah_get (ci := 6) (v := .int (nI os)) (C := RX7) (T := TX7) (N := 4) hx hb hE hR hts hinX7 hown f_17 rfl 3 (by decide) k28 (fun _ h9 => h9) rfl dX7_append_54 ?_
      refine lv_iconst (v := nI 1) hx hb dX7_append_57 (by decide) ?_
      refine lv_iadd hx hb dX7_append_58 ?_
      refine ah_toi (v := nI (os + 1)) (nI_add _ _) ?_
      refine ah_put (ci := 6) (v := .int (nI (os + 1))) (ty := .int) (C := RX7) (T := TX7) (N := 4) hx hb hE hR hS hts hinX7 tyX7 tyX7_ok nmX7 hown f_17 rfl 3 (by decide) k28 (fun _ h9 => h9) rfl (by decide +kernel) rfl rfl (Nat.le_of_ble_eq_true rfl) dX7_append_59 (fun H locs hR hS => ?_)
      obtain ⟨h_20, e_21⟩ : ∃ zz9, zz9 = ah_up h_15 t (tt, .inr (6, [.ref ua, .int (nI (n + 1)), .int (nI (sv + (svFor u))), .int (nI (os + 1))])) := ⟨_, rfl⟩
      have hR : ah_R G h_20 H := by rw [e_21]; exact hR
      have f_22 : h_20 t = some (tt, .inr (6, [.ref ua, .int (nI (n + 1)), .int (nI (sv + (svFor u))), .int (nI (os + 1))])) := by rw [e_21]; exact ah_up_s _ _ _
      have f_23 : h_20 ua = some (tu, .inl (G.2.2.1 0, 3000, .inl (nA (gU f n u)))) := by rw [e_21]; exact ah_keep f_18 f_17 (Ne.symm hne)
      refine ah_vret hx hb hr hlocks hR hS dX7_append_62 ?_
      rw [e_21, e_16, e_7, e_3]
      rw [if_pos c_19]
      simp only [ah_up2, Nat.add_zero]
  · skip
    have c_1 : ¬ (n < 3000) := fun z9 => c_1 ((nI_ltI (by omega) (by omega)).mpr z9)
    exact absurd c_1 (by omega)

set_option maxHeartbeats 4000000 in
set_option maxRecDepth 100000 in
theorem c_Text_empty (l : Launch) (G : ah_G) (h : ah_H) (t ua tt tu n sv os : Nat) (f : Nat → Nat) (ft : h t = some (tt, .inr (6, [.ref ua, .int (nI n), .int (nI sv), .int (nI os)]))) (fu : h ua = some (tu, .inl (G.2.2.1 0, 3000, .inl (nA f)))) (hne : tt ≠ tu) (hn : n ≤ 3000) (hsv : sv < 2 ^ 30) (hos : os < 2 ^ 30) (hf : ∀ j, f j < 65536) : Met l yX7_empty wsX7_empty ({ frames := 0, cells := 0, slots := 0, locals := 0 }) (ah_Pc G [.ref t] h) (ah_Qv G (fun h' => h' = ah_up h t (tt, .inr (6, [.ref ua, .int (nI 0), .int (nI 0), .int (nI 0)])))) 0 0 (ah_A G) := by
  refine ah_ofW (cc := cX7_empty) (maxL := 1) (ret := none) (by decide) rfl (Nat.le_of_ble_eq_true rfl) ?_
  intro p e s m below meth cd9 ls hx hb hr hml hown hlocks hname hts hE hR hS hl
  have hown : s.vm.findClass RX7 = some m.cls := hown
  have hl : lv_has ls 1 [(0, .ref t)] := hl
  have k15 := hts (.fieldLink RX7 15 "TextParts$Text" "count" "I") (by decide +kernel)
  have hinX7 : ∀ w ∈ wsX70, w ∈ wsX7_empty := by decide +kernel
  have k25 := hts (.fieldLink RX7 25 "TextParts$Text" "sevens" "I") (by decide +kernel)
  have k28 := hts (.fieldLink RX7 28 "TextParts$Text" "outsiders" "I") (by decide +kernel)
  refine lv_aload_n hx hb dX7_empty_0 rfl (lv_at hl 0 rfl) ?_
  refine lv_iconst (v := nI 0) hx hb dX7_empty_1 (by decide) ?_
  refine ah_put (ci := 6) (v := .int (nI 0)) (ty := .int) (C := RX7) (T := TX7) (N := 4) hx hb hE hR hS hts hinX7 tyX7 tyX7_ok nmX7 hown ft rfl 1 (by decide) k15 (fun _ h9 => h9) rfl (by decide +kernel) rfl rfl (Nat.le_of_ble_eq_true rfl) dX7_empty_2 (fun H locs hR hS => ?_)
  obtain ⟨h_1, e_2⟩ : ∃ zz9, zz9 = ah_up h t (tt, .inr (6, [.ref ua, .int (nI 0), .int (nI sv), .int (nI os)])) := ⟨_, rfl⟩
  have hR : ah_R G h_1 H := by rw [e_2]; exact hR
  have f_3 : h_1 t = some (tt, .inr (6, [.ref ua, .int (nI 0), .int (nI sv), .int (nI os)])) := by rw [e_2]; exact ah_up_s _ _ _
  have f_4 : h_1 ua = some (tu, .inl (G.2.2.1 0, 3000, .inl (nA f))) := by rw [e_2]; exact ah_keep fu ft (Ne.symm hne)
  refine lv_aload_n hx hb dX7_empty_5 rfl (lv_at hl 0 rfl) ?_
  refine lv_iconst (v := nI 0) hx hb dX7_empty_6 (by decide) ?_
  refine ah_put (ci := 6) (v := .int (nI 0)) (ty := .int) (C := RX7) (T := TX7) (N := 4) hx hb hE hR hS hts hinX7 tyX7 tyX7_ok nmX7 hown f_3 rfl 2 (by decide) k25 (fun _ h9 => h9) rfl (by decide +kernel) rfl rfl (Nat.le_of_ble_eq_true rfl) dX7_empty_7 (fun H locs hR hS => ?_)
  obtain ⟨h_5, e_6⟩ : ∃ zz9, zz9 = ah_up h_1 t (tt, .inr (6, [.ref ua, .int (nI 0), .int (nI 0), .int (nI os)])) := ⟨_, rfl⟩
  have hR : ah_R G h_5 H := by rw [e_6]; exact hR
  have f_7 : h_5 t = some (tt, .inr (6, [.ref ua, .int (nI 0), .int (nI 0), .int (nI os)])) := by rw [e_6]; exact ah_up_s _ _ _
  have f_8 : h_5 ua = some (tu, .inl (G.2.2.1 0, 3000, .inl (nA f))) := by rw [e_6]; exact ah_keep f_4 f_3 (Ne.symm hne)
  refine lv_aload_n hx hb dX7_empty_10 rfl (lv_at hl 0 rfl) ?_
  refine lv_iconst (v := nI 0) hx hb dX7_empty_11 (by decide) ?_
  refine ah_put (ci := 6) (v := .int (nI 0)) (ty := .int) (C := RX7) (T := TX7) (N := 4) hx hb hE hR hS hts hinX7 tyX7 tyX7_ok nmX7 hown f_7 rfl 3 (by decide) k28 (fun _ h9 => h9) rfl (by decide +kernel) rfl rfl (Nat.le_of_ble_eq_true rfl) dX7_empty_12 (fun H locs hR hS => ?_)
  obtain ⟨h_9, e_10⟩ : ∃ zz9, zz9 = ah_up h_5 t (tt, .inr (6, [.ref ua, .int (nI 0), .int (nI 0), .int (nI 0)])) := ⟨_, rfl⟩
  have hR : ah_R G h_9 H := by rw [e_10]; exact hR
  have f_11 : h_9 t = some (tt, .inr (6, [.ref ua, .int (nI 0), .int (nI 0), .int (nI 0)])) := by rw [e_10]; exact ah_up_s _ _ _
  have f_12 : h_9 ua = some (tu, .inl (G.2.2.1 0, 3000, .inl (nA f))) := by rw [e_10]; exact ah_keep f_8 f_7 (Ne.symm hne)
  refine ah_vret hx hb hr hlocks hR hS dX7_empty_15 ?_
  rw [e_10, e_6, e_2]
  simp only [ah_up2]

set_option maxHeartbeats 4000000 in
set_option maxRecDepth 100000 in
theorem c_Text_inAlphabet (l : Launch) (G : ah_G) (h : ah_H) (t ua tt tu n sv os : Nat) (f : Nat → Nat) (ft : h t = some (tt, .inr (6, [.ref ua, .int (nI n), .int (nI sv), .int (nI os)]))) (fu : h ua = some (tu, .inl (G.2.2.1 0, 3000, .inl (nA f)))) (hne : tt ≠ tu) (hn : n ≤ 3000) (hsv : sv < 2 ^ 30) (hos : os < 2 ^ 30) (hf : ∀ j, f j < 65536) : Met l yX7_inAlphabet wsX7_inAlphabet ({ frames := 0, cells := 0, slots := 0, locals := 0 }) (ah_Pc G [.ref t] h) (ah_Qi G (fun v h' => v = nI (if os = 0 then 1 else 0) ∧ h' = h)) 0 0 (ah_A G) := by
  refine ah_ofW (cc := cX7_inAlphabet) (maxL := 1) (ret := (some .boolean)) (by decide) rfl (Nat.le_of_ble_eq_true rfl) ?_
  intro p e s m below meth cd9 ls hx hb hr hml hown hlocks hname hts hE hR hS hl
  have hown : s.vm.findClass RX7 = some m.cls := hown
  have hl : lv_has ls 1 [(0, .ref t)] := hl
  have k28 := hts (.fieldLink RX7 28 "TextParts$Text" "outsiders" "I") (by decide +kernel)
  have hinX7 : ∀ w ∈ wsX70, w ∈ wsX7_inAlphabet := by decide +kernel
  refine lv_aload_n hx hb dX7_inAlphabet_0 rfl (lv_at hl 0 rfl) ?_
  refine ah_get (ci := 6) (v := .int (nI os)) (C := RX7) (T := TX7) (N := 4) hx hb hE hR hts hinX7 hown ft rfl 3 (by decide) k28 (fun _ h9 => h9) rfl dX7_inAlphabet_1 ?_
  refine lv_if_ne (tgt := 11) hx hb dX7_inAlphabet_4 (by decide) (fun c_1 => ?_) (fun c_1 => ?_)
  · skip
    have c_1 : ¬ (os = 0) := fun z9 => c_1 ((zi_eq (by omega)).mpr z9)
    refine lv_iconst (v := nI 0) hx hb dX7_inAlphabet_11 (by decide) ?_
    refine ah_zret (v := nI 0) hx hb hr hlocks hR hS dX7_inAlphabet_12 (by decide) ?_
    first | exact ⟨by rw [if_pos (by omega)], rfl⟩ | exact ⟨by rw [if_neg (by omega)], rfl⟩
  · skip
    have c_1 : os = 0 := (zi_eq (by omega)).mp c_1
    refine lv_iconst (v := nI 1) hx hb dX7_inAlphabet_7 (by decide) ?_
    refine lv_goto (tgt := 12) hx hb dX7_inAlphabet_8 (by decide) ?_
    refine ah_zret (v := nI 1) hx hb hr hlocks hR hS dX7_inAlphabet_12 (by decide) ?_
    first | exact ⟨by rw [if_pos (by omega)], rfl⟩ | exact ⟨by rw [if_neg (by omega)], rfl⟩

set_option maxHeartbeats 4000000 in
set_option maxRecDepth 100000 in
theorem c_Text_unitAt (l : Launch) (G : ah_G) (h : ah_H) (t ua tt tu n sv os : Nat) (f : Nat → Nat) (ft : h t = some (tt, .inr (6, [.ref ua, .int (nI n), .int (nI sv), .int (nI os)]))) (fu : h ua = some (tu, .inl (G.2.2.1 0, 3000, .inl (nA f)))) (hne : tt ≠ tu) (hn : n ≤ 3000) (hsv : sv < 2 ^ 30) (hos : os < 2 ^ 30) (hf : ∀ j, f j < 65536) (k : Nat) (hk : k < n) : Met l yX7_unitAt wsX7_unitAt ({ frames := 0, cells := 0, slots := 0, locals := 0 }) (ah_Pc G [.ref t, .int (nI k)] h) (ah_Qi G (fun v h' => v = nI (f k) ∧ h' = h)) 0 0 (ah_A G) := by
  refine ah_ofW (cc := cX7_unitAt) (maxL := 2) (ret := (some .int)) (by decide) rfl (Nat.le_of_ble_eq_true rfl) ?_
  intro p e s m below meth cd9 ls hx hb hr hml hown hlocks hname hts hE hR hS hl
  have hown : s.vm.findClass RX7 = some m.cls := hown
  have hl : lv_has ls 2 [(0, .ref t), (1, .int (nI k))] := hl
  have k15 := hts (.fieldLink RX7 15 "TextParts$Text" "count" "I") (by decide +kernel)
  have hinX7 : ∀ w ∈ wsX70, w ∈ wsX7_unitAt := by decide +kernel
  have k9 := hts (.fieldLink RX7 9 "TextParts$Text" "units" "[I") (by decide +kernel)
  refine lv_iload_n hx hb dX7_unitAt_0 rfl (lv_at hl 1 rfl) ?_
  refine lv_if_lt (tgt := 21) hx hb dX7_unitAt_1 (by decide) (fun c_1 => ?_) (fun c_1 => ?_)
  · skip
    exact absurd c_1 (nI_pos (by omega))
  · skip
    refine lv_iload_n hx hb dX7_unitAt_4 rfl (lv_at hl 1 rfl) ?_
    refine lv_aload_n hx hb dX7_unitAt_5 rfl (lv_at hl 0 rfl) ?_
    refine ah_get (ci := 6) (v := .int (nI n)) (C := RX7) (T := TX7) (N := 4) hx hb hE hR hts hinX7 hown ft rfl 1 (by decide) k15 (fun _ h9 => h9) rfl dX7_unitAt_6 ?_
    refine lv_icmp_ge (tgt := 21) hx hb dX7_unitAt_9 (by decide) (fun c_2 => ?_) (fun c_2 => ?_)
    · skip
      have c_2 : n ≤ k := (nI_leI (by omega) (by omega)).mp c_2
      exact absurd c_2 (by omega)
    · skip
      have c_2 : ¬ (n ≤ k) := fun z9 => c_2 ((nI_leI (by omega) (by omega)).mpr z9)
      refine lv_aload_n hx hb dX7_unitAt_12 rfl (lv_at hl 0 rfl) ?_
      refine ah_get (ci := 6) (v := .ref ua) (C := RX7) (T := TX7) (N := 4) hx hb hE hR hts hinX7 hown ft rfl 0 (by decide) k9 (fun _ h9 => h9) rfl dX7_unitAt_13 ?_
      refine lv_iload_n hx hb dX7_unitAt_16 rfl (lv_at hl 1 rfl) ?_
      refine ah_iald (i := k) hx hb hE hR fu (by omega) (by omega) dX7_unitAt_17 ?_
      refine ah_toi (v := nI (f k)) rfl ?_
      refine lv_goto (tgt := 22) hx hb dX7_unitAt_18 (by decide) ?_
      refine ah_iret (v := nI (f k)) hx hb hr hlocks hR hS dX7_unitAt_22 ?_
      exact ⟨rfl, rfl⟩

set_option maxHeartbeats 4000000 in
set_option maxRecDepth 100000 in
theorem c_Text_isHigh (l : Launch) (G : ah_G) (h : ah_H) (u : Nat) (hu : u < 2 ^ 31) : Met l yX7_isHigh wsX7_isHigh ({ frames := 0, cells := 0, slots := 0, locals := 0 }) (ah_Pc G [.int (nI u)] h) (ah_Qi G (fun v h' => v = nI (if hiP u then 1 else 0) ∧ h' = h)) 0 0 (ah_A G) := by
  refine ah_ofW (cc := cX7_isHigh) (maxL := 1) (ret := (some .boolean)) (by decide) rfl (Nat.le_of_ble_eq_true rfl) ?_
  intro p e s m below meth cd9 ls hx hb hr hml hown hlocks hname hts hE hR hS hl
  have hown : s.vm.findClass RX7 = some m.cls := hown
  have hl : lv_has ls 1 [(0, .int (nI u))] := hl
  have wconstant_RX7_57_55296 := hts (.constant RX7 57 (55296)) (by decide +kernel)
  have wconstant_RX7_58_56319 := hts (.constant RX7 58 (56319)) (by decide +kernel)
  refine lv_iload_n hx hb dX7_isHigh_0 rfl (lv_at hl 0 rfl) ?_
  refine lv_ldc (v := 55296) hx hb hown wconstant_RX7_57_55296 dX7_isHigh_1 ?_
  refine ah_toi (v := nI 55296) (by decide) ?_
  refine lv_icmp_lt (tgt := 16) hx hb dX7_isHigh_3 (by decide) (fun c_1 => ?_) (fun c_1 => ?_)
  · skip
    have c_1 : u < 55296 := (nI_ltI (by omega) (by omega)).mp c_1
    refine lv_iconst (v := nI 0) hx hb dX7_isHigh_16 (by decide) ?_
    refine ah_zret (v := nI 0) hx hb hr hlocks hR hS dX7_isHigh_17 (by decide) ?_
    first | (exfalso; omega) | exact ⟨by rw [if_pos (show hiP u by omega)], rfl⟩ | exact ⟨by rw [if_neg (show ¬ hiP u by omega)], rfl⟩
  · skip
    have c_1 : ¬ (u < 55296) := fun z9 => c_1 ((nI_ltI (by omega) (by omega)).mpr z9)
    refine lv_iload_n hx hb dX7_isHigh_6 rfl (lv_at hl 0 rfl) ?_
    refine lv_ldc (v := 56319) hx hb hown wconstant_RX7_58_56319 dX7_isHigh_7 ?_
    refine ah_toi (v := nI 56319) (by decide) ?_
    refine lv_icmp_gt (tgt := 16) hx hb dX7_isHigh_9 (by decide) (fun c_2 => ?_) (fun c_2 => ?_)
    · skip
      have c_2 : 56319 < u := (nI_ltI (by omega) (by omega)).mp c_2
      refine lv_iconst (v := nI 0) hx hb dX7_isHigh_16 (by decide) ?_
      refine ah_zret (v := nI 0) hx hb hr hlocks hR hS dX7_isHigh_17 (by decide) ?_
      first | (exfalso; omega) | exact ⟨by rw [if_pos (show hiP u by omega)], rfl⟩ | exact ⟨by rw [if_neg (show ¬ hiP u by omega)], rfl⟩
    · skip
      have c_2 : ¬ (56319 < u) := fun z9 => c_2 ((nI_ltI (by omega) (by omega)).mpr z9)
      refine lv_iconst (v := nI 1) hx hb dX7_isHigh_12 (by decide) ?_
      refine lv_goto (tgt := 17) hx hb dX7_isHigh_13 (by decide) ?_
      refine ah_zret (v := nI 1) hx hb hr hlocks hR hS dX7_isHigh_17 (by decide) ?_
      first | (exfalso; omega) | exact ⟨by rw [if_pos (show hiP u by omega)], rfl⟩ | exact ⟨by rw [if_neg (show ¬ hiP u by omega)], rfl⟩

set_option maxHeartbeats 4000000 in
set_option maxRecDepth 100000 in
theorem c_Text_isLow (l : Launch) (G : ah_G) (h : ah_H) (u : Nat) (hu : u < 2 ^ 31) : Met l yX7_isLow wsX7_isLow ({ frames := 0, cells := 0, slots := 0, locals := 0 }) (ah_Pc G [.int (nI u)] h) (ah_Qi G (fun v h' => v = nI (if loP u then 1 else 0) ∧ h' = h)) 0 0 (ah_A G) := by
  refine ah_ofW (cc := cX7_isLow) (maxL := 1) (ret := (some .boolean)) (by decide) rfl (Nat.le_of_ble_eq_true rfl) ?_
  intro p e s m below meth cd9 ls hx hb hr hml hown hlocks hname hts hE hR hS hl
  have hown : s.vm.findClass RX7 = some m.cls := hown
  have hl : lv_has ls 1 [(0, .int (nI u))] := hl
  have wconstant_RX7_59_56320 := hts (.constant RX7 59 (56320)) (by decide +kernel)
  have wconstant_RX7_60_57343 := hts (.constant RX7 60 (57343)) (by decide +kernel)
  refine lv_iload_n hx hb dX7_isLow_0 rfl (lv_at hl 0 rfl) ?_
  refine lv_ldc (v := 56320) hx hb hown wconstant_RX7_59_56320 dX7_isLow_1 ?_
  refine ah_toi (v := nI 56320) (by decide) ?_
  refine lv_icmp_lt (tgt := 16) hx hb dX7_isLow_3 (by decide) (fun c_1 => ?_) (fun c_1 => ?_)
  · skip
    have c_1 : u < 56320 := (nI_ltI (by omega) (by omega)).mp c_1
    refine lv_iconst (v := nI 0) hx hb dX7_isLow_16 (by decide) ?_
    refine ah_zret (v := nI 0) hx hb hr hlocks hR hS dX7_isLow_17 (by decide) ?_
    first | (exfalso; omega) | exact ⟨by rw [if_pos (show loP u by omega)], rfl⟩ | exact ⟨by rw [if_neg (show ¬ loP u by omega)], rfl⟩
  · skip
    have c_1 : ¬ (u < 56320) := fun z9 => c_1 ((nI_ltI (by omega) (by omega)).mpr z9)
    refine lv_iload_n hx hb dX7_isLow_6 rfl (lv_at hl 0 rfl) ?_
    refine lv_ldc (v := 57343) hx hb hown wconstant_RX7_60_57343 dX7_isLow_7 ?_
    refine ah_toi (v := nI 57343) (by decide) ?_
    refine lv_icmp_gt (tgt := 16) hx hb dX7_isLow_9 (by decide) (fun c_2 => ?_) (fun c_2 => ?_)
    · skip
      have c_2 : 57343 < u := (nI_ltI (by omega) (by omega)).mp c_2
      refine lv_iconst (v := nI 0) hx hb dX7_isLow_16 (by decide) ?_
      refine ah_zret (v := nI 0) hx hb hr hlocks hR hS dX7_isLow_17 (by decide) ?_
      first | (exfalso; omega) | exact ⟨by rw [if_pos (show loP u by omega)], rfl⟩ | exact ⟨by rw [if_neg (show ¬ loP u by omega)], rfl⟩
    · skip
      have c_2 : ¬ (57343 < u) := fun z9 => c_2 ((nI_ltI (by omega) (by omega)).mpr z9)
      refine lv_iconst (v := nI 1) hx hb dX7_isLow_12 (by decide) ?_
      refine lv_goto (tgt := 17) hx hb dX7_isLow_13 (by decide) ?_
      refine ah_zret (v := nI 1) hx hb hr hlocks hR hS dX7_isLow_17 (by decide) ?_
      first | (exfalso; omega) | exact ⟨by rw [if_pos (show loP u by omega)], rfl⟩ | exact ⟨by rw [if_neg (show ¬ loP u by omega)], rfl⟩

set_option maxHeartbeats 4000000 in
set_option maxRecDepth 100000 in
theorem c_Text_sevensBetween (l : Launch) (G : ah_G) (h : ah_H) (t ua tt tu n sv os : Nat) (f : Nat → Nat) (ft : h t = some (tt, .inr (6, [.ref ua, .int (nI n), .int (nI sv), .int (nI os)]))) (fu : h ua = some (tu, .inl (G.2.2.1 0, 3000, .inl (nA f)))) (hne : tt ≠ tu) (hn : n ≤ 3000) (hsv : sv < 2 ^ 30) (hos : os < 2 ^ 30) (hf : ∀ j, f j < 65536) (a b : Nat) (hab : a ≤ b) (hbn : b ≤ n) : Met l yX7_sevensBetween wsX7_sevensBetween ({ frames := 3, cells := 0, slots := 0, locals := 63 }) (ah_Pc G [.ref t, .int (nI a), .int (nI b)] h) (ah_Qi G (fun v h' => v = nI (sumS f a (b - a)) ∧ h' = h)) 0 0 (ah_A G) := by
  refine ah_ofW (cc := cX7_sevensBetween) (maxL := 5) (ret := (some .int)) (by decide) rfl (Nat.le_of_ble_eq_true rfl) ?_
  intro p e s m below meth cd9 ls hx hb hr hml hown hlocks hname hts hE hR hS hl
  have hown : s.vm.findClass RX7 = some m.cls := hown
  have hl : lv_has ls 5 [(0, .ref t), (1, .int (nI a)), (2, .int (nI b))] := hl
  refine lv_iconst (v := nI 0) hx hb dX7_sevensBetween_0 (by decide) ?_
  refine lv_istore_n (lv' := [(3, .int (nI 0)), (0, .ref t), (1, .int (nI a)), (2, .int (nI b))]) hx hb dX7_sevensBetween_1 rfl hl (by decide) rfl (fun ls hl => ?_)
  refine lv_iload_n hx hb dX7_sevensBetween_2 rfl (lv_at hl 2 rfl) ?_
  refine lv_istore (lv' := [(4, .int (nI a)), (3, .int (nI 0)), (0, .ref t), (1, .int (nI a)), (2, .int (nI b))]) hx hb dX7_sevensBetween_3 hl (by decide) rfl (fun ls hl => ?_)
  have e0 : nI 0 = nI (sumS f a (a - a)) := by rw [Nat.sub_self]; rfl
  rw [e0] at hl
  have L5 : ∀ (N5 : Nat) (i : Nat) (H : Heap) (locs : List Loc) (ls : Array Slot), b - i < N5 → (a ≤ i) → (i ≤ b) → (h t = some (tt, .inr (6, [.ref ua, .int (nI n), .int (nI sv), .int (nI os)]))) → (h ua = some (tu, .inl (G.2.2.1 0, 3000, .inl (nA f)))) → ah_R G h H → va_S (ah_A G) s.heap H locs → lv_has ls 5 [(4, .int (nI i)), (3, .int (nI (sumS f a (i - a)))), (0, .ref t), (1, .int (nI a)), (2, .int (nI b))] → W p l e ({ frames := 3, cells := 0, slots := 0, locals := 63 }) s m ([.ref t, .int (nI a), .int (nI b)] : List Value).toArray below meth cd9 H locs 0 0 (MQ below (ah_Qi G (fun v h' => v = nI (sumS f a (b - a)) ∧ h' = h)) ([.ref t, .int (nI a), .int (nI b)] : List Value).toArray s 0 0 (ah_A G)) (F0 m 5 ls []) := by
    intro N5
    induction N5 with
    | zero => intro i  H locs ls hN; exact absurd hN (Nat.not_lt_zero _)
    | succ N5 ih5 =>
      intro i  H locs ls hN5 hi hi2 ft fu hR hS hl
      refine lv_iload hx hb dX7_sevensBetween_5 (lv_at hl 0 rfl) ?_
      refine lv_iload_n hx hb dX7_sevensBetween_7 rfl (lv_at hl 4 rfl) ?_
      refine lv_icmp_ge (tgt := 29) hx hb dX7_sevensBetween_8 (by decide) (fun c_1 => ?_) (fun c_1 => ?_)
      · skip
        have c_1 : b ≤ i := (nI_leI (by omega) (by omega)).mp c_1
        refine lv_iload_n hx hb dX7_sevensBetween_29 rfl (lv_at hl 1 rfl) ?_
        refine ah_iret (v := nI (sumS f a (i - a))) hx hb hr hlocks hR hS dX7_sevensBetween_30 ?_
        exact ⟨by rw [show i = b by omega], rfl⟩
      · skip
        have c_1 : ¬ (b ≤ i) := fun z9 => c_1 ((nI_leI (by omega) (by omega)).mpr z9)
        refine lv_iload_n hx hb dX7_sevensBetween_11 rfl (lv_at hl 1 rfl) ?_
        refine lv_aload_n hx hb dX7_sevensBetween_12 rfl (lv_at hl 2 rfl) ?_
        refine lv_iload hx hb dX7_sevensBetween_13 (lv_at hl 0 rfl) ?_
        refine ah_calli (va_runV (As := [.int (nI i)]) (rest := [.int (nI (sumS f a (i - a)))]) ⟨hx, hb, hml, hown, hts⟩ (c_Text_unitAt l G h t ua tt tu n sv os f ft fu hne hn hsv hos hf i (by omega)) (cwV 1 hts gX7_sevensBetween_X7_unitAt rfl rfl rfl (by decide +kernel) ⟨Nat.le_of_ble_eq_true rfl, Nat.le_of_ble_eq_true rfl⟩) (ah_preV hE hR hS ft rfl) rfl rfl hl.1 rfl (lv_room (Nat.le_of_ble_eq_true rfl)) dX7_sevensBetween_15 ⟨Nat.le_of_ble_eq_true rfl, Nat.le_of_ble_eq_true rfl⟩) hS (fun r_4 h_2 H locs p_3 hR hS => ?_)
        obtain ⟨e_5, e_6⟩ := p_3
        rw [e_6] at hR
        refine ah_toi e_5 ?_
        have hfu := hf i
        refine ah_calli (va_runS (As := [.int (nI (f i))]) (rest := [.int (nI (sumS f a (i - a)))]) ⟨hx, hb, hml, hown, hts⟩ (c_sevensFor l G h (f i) (by omega)) (va_cwS 1 hts gX7_sevensBetween_X0_sevensFor rfl rfl rfl (by decide +kernel) ⟨Nat.le_of_ble_eq_true rfl, Nat.le_of_ble_eq_true rfl⟩) (ah_preS hE hR hS) rfl rfl hl.1 rfl (lv_room (Nat.le_of_ble_eq_true rfl)) dX7_sevensBetween_18 ⟨Nat.le_of_ble_eq_true rfl, Nat.le_of_ble_eq_true rfl⟩) hS (fun r_9 h_7 H locs p_8 hR hS => ?_)
        obtain ⟨e_10, e_11⟩ := p_8
        rw [e_11] at hR
        refine ah_toi e_10 ?_
        have hsf := svFor_le (f i)
        refine lv_iadd hx hb dX7_sevensBetween_21 ?_
        refine ah_toi (v := nI (sumS f a (i + 1 - a))) (by rw [nI_add, show i + 1 - a = (i - a) + 1 by omega]; simp only [sumS]; rw [show a + (i - a) = i by omega]) ?_
        refine lv_istore_n (lv' := [(3, .int (nI (sumS f a (i + 1 - a)))), (4, .int (nI i)), (0, .ref t), (1, .int (nI a)), (2, .int (nI b))]) hx hb dX7_sevensBetween_22 rfl hl (by decide) rfl (fun ls hl => ?_)
        refine lv_iinc (v := nI (i + 1)) (lv' := [(4, .int (nI (i + 1))), (3, .int (nI (sumS f a (i + 1 - a)))), (0, .ref t), (1, .int (nI a)), (2, .int (nI b))]) hx hb dX7_sevensBetween_23 hl (k := 1) rfl (show nI i + Int32.ofInt 1 = nI (i + 1) from nI_add _ 1) (by decide) rfl (fun ls hl => ?_)
        refine lv_goto (tgt := 5) hx hb dX7_sevensBetween_26 (by decide) ?_
        exact ih5  (i + 1) _ _ ls (by omega) (by omega) (by omega) ft fu hR hS (lv_sub hl [0, 1, 2, 3, 4] rfl)
  exact L5 ((b - a) + 1) a _ _ ls (by omega) (by omega) (by omega) ft fu hR hS (lv_sub hl [0, 1, 2, 3, 4] rfl)

set_option maxHeartbeats 4000000 in
set_option maxRecDepth 100000 in
theorem c_Text_fitsAlone (l : Launch) (G : ah_G) (h : ah_H) (t ua tt tu n sv os : Nat) (f : Nat → Nat) (ft : h t = some (tt, .inr (6, [.ref ua, .int (nI n), .int (nI sv), .int (nI os)]))) (fu : h ua = some (tu, .inl (G.2.2.1 0, 3000, .inl (nA f)))) (hne : tt ≠ tu) (hn : n ≤ 3000) (hsv : sv < 2 ^ 30) (hos : os < 2 ^ 30) (hf : ∀ j, f j < 65536) : Met l yX7_fitsAlone wsX7_fitsAlone ({ frames := 1, cells := 0, slots := 0, locals := 20 }) (ah_Pc G [.ref t] h) (ah_Qi G (fun v h' => v = nI (if aloneP n sv os then 1 else 0) ∧ h' = h)) 0 0 (ah_A G) := by
  refine ah_ofW (cc := cX7_fitsAlone) (maxL := 1) (ret := (some .boolean)) (by decide) rfl (Nat.le_of_ble_eq_true rfl) ?_
  intro p e s m below meth cd9 ls hx hb hr hml hown hlocks hname hts hE hR hS hl
  have hown : s.vm.findClass RX7 = some m.cls := hown
  have hl : lv_has ls 1 [(0, .ref t)] := hl
  have k15 := hts (.fieldLink RX7 15 "TextParts$Text" "count" "I") (by decide +kernel)
  have hinX7 : ∀ w ∈ wsX70, w ∈ wsX7_fitsAlone := by decide +kernel
  have k25 := hts (.fieldLink RX7 25 "TextParts$Text" "sevens" "I") (by decide +kernel)
  refine lv_aload_n hx hb dX7_fitsAlone_0 rfl (lv_at hl 0 rfl) ?_
  refine ah_calli (va_runV (As := []) (rest := []) ⟨hx, hb, hml, hown, hts⟩ (c_Text_inAlphabet l G h t ua tt tu n sv os f ft fu hne hn hsv hos hf) (cwV 0 hts gX7_fitsAlone_X7_inAlphabet rfl rfl rfl (by decide +kernel) ⟨Nat.le_of_ble_eq_true rfl, Nat.le_of_ble_eq_true rfl⟩) (ah_preV hE hR hS ft rfl) rfl rfl hl.1 rfl (lv_room (Nat.le_of_ble_eq_true rfl)) dX7_fitsAlone_1 ⟨Nat.le_of_ble_eq_true rfl, Nat.le_of_ble_eq_true rfl⟩) hS (fun r_3 h_1 H locs p_2 hR hS => ?_)
  obtain ⟨e_4, e_5⟩ := p_2
  rw [e_5] at hR
  refine ah_toi e_4 ?_
  have h01 : (if os = 0 then 1 else 0) < 2 ^ 31 := if10
  refine lv_if_eq (tgt := 25) hx hb dX7_fitsAlone_4 (by decide) (fun c_6 => ?_) (fun c_6 => ?_)
  · skip
    have c_6 : (if os = 0 then 1 else 0) = 0 := (zi_eq (by omega)).mp c_6
    have ho := if10f c_6
    refine lv_iconst (v := nI 2) hx hb dX7_fitsAlone_25 (by decide) ?_
    refine lv_aload_n hx hb dX7_fitsAlone_26 rfl (lv_at hl 0 rfl) ?_
    refine ah_get (ci := 6) (v := .int (nI n)) (C := RX7) (T := TX7) (N := 4) hx hb hE hR hts hinX7 hown ft rfl 1 (by decide) k15 (fun _ h9 => h9) rfl dX7_fitsAlone_27 ?_
    refine lv_imul hx hb dX7_fitsAlone_30 ?_
    refine ah_toi (v := nI (2 * n)) (pk_mul _ _) ?_
    refine lv_sipush (v := nI 140) hx hb dX7_fitsAlone_31 (by decide) ?_
    refine lv_icmp_gt (tgt := 41) hx hb dX7_fitsAlone_34 (by decide) (fun c_7 => ?_) (fun c_7 => ?_)
    · skip
      have c_7 : 140 < (2 * n) := (nI_ltI (by omega) (by omega)).mp c_7
      refine lv_iconst (v := nI 0) hx hb dX7_fitsAlone_41 (by decide) ?_
      refine ah_zret (v := nI 0) hx hb hr hlocks hR hS dX7_fitsAlone_42 (by decide) ?_
      first | exact ⟨by rw [if_pos (by unfold aloneP; first | (rw [if_pos ho]; omega) | (rw [if_neg ho]; omega))], rfl⟩ | exact ⟨by rw [if_neg (by unfold aloneP; first | (rw [if_pos ho]; omega) | (rw [if_neg ho]; omega))], rfl⟩
    · skip
      have c_7 : ¬ (140 < (2 * n)) := fun z9 => c_7 ((nI_ltI (by omega) (by omega)).mpr z9)
      refine lv_iconst (v := nI 1) hx hb dX7_fitsAlone_37 (by decide) ?_
      refine lv_goto (tgt := 42) hx hb dX7_fitsAlone_38 (by decide) ?_
      refine ah_zret (v := nI 1) hx hb hr hlocks hR hS dX7_fitsAlone_42 (by decide) ?_
      first | exact ⟨by rw [if_pos (by unfold aloneP; first | (rw [if_pos ho]; omega) | (rw [if_neg ho]; omega))], rfl⟩ | exact ⟨by rw [if_neg (by unfold aloneP; first | (rw [if_pos ho]; omega) | (rw [if_neg ho]; omega))], rfl⟩
  · skip
    have c_6 : ¬ ((if os = 0 then 1 else 0) = 0) := fun z9 => c_6 ((zi_eq (by omega)).mpr z9)
    have ho := if10t c_6
    refine lv_aload_n hx hb dX7_fitsAlone_7 rfl (lv_at hl 0 rfl) ?_
    refine ah_get (ci := 6) (v := .int (nI sv)) (C := RX7) (T := TX7) (N := 4) hx hb hE hR hts hinX7 hown ft rfl 2 (by decide) k25 (fun _ h9 => h9) rfl dX7_fitsAlone_8 ?_
    refine lv_sipush (v := nI 160) hx hb dX7_fitsAlone_11 (by decide) ?_
    refine lv_icmp_gt (tgt := 21) hx hb dX7_fitsAlone_14 (by decide) (fun c_8 => ?_) (fun c_8 => ?_)
    · skip
      have c_8 : 160 < sv := (nI_ltI (by omega) (by omega)).mp c_8
      refine lv_iconst (v := nI 0) hx hb dX7_fitsAlone_21 (by decide) ?_
      refine lv_goto (tgt := 42) hx hb dX7_fitsAlone_22 (by decide) ?_
      refine ah_zret (v := nI 0) hx hb hr hlocks hR hS dX7_fitsAlone_42 (by decide) ?_
      first | exact ⟨by rw [if_pos (by unfold aloneP; first | (rw [if_pos ho]; omega) | (rw [if_neg ho]; omega))], rfl⟩ | exact ⟨by rw [if_neg (by unfold aloneP; first | (rw [if_pos ho]; omega) | (rw [if_neg ho]; omega))], rfl⟩
    · skip
      have c_8 : ¬ (160 < sv) := fun z9 => c_8 ((nI_ltI (by omega) (by omega)).mpr z9)
      refine lv_iconst (v := nI 1) hx hb dX7_fitsAlone_17 (by decide) ?_
      refine lv_goto (tgt := 42) hx hb dX7_fitsAlone_18 (by decide) ?_
      refine ah_zret (v := nI 1) hx hb hr hlocks hR hS dX7_fitsAlone_42 (by decide) ?_
      first | exact ⟨by rw [if_pos (by unfold aloneP; first | (rw [if_pos ho]; omega) | (rw [if_neg ho]; omega))], rfl⟩ | exact ⟨by rw [if_neg (by unfold aloneP; first | (rw [if_pos ho]; omega) | (rw [if_neg ho]; omega))], rfl⟩

set_option maxHeartbeats 4000000 in
set_option maxRecDepth 100000 in
theorem c_Text_sevensEnd (l : Launch) (G : ah_G) (h : ah_H) (t ua tt tu n sv os : Nat) (f : Nat → Nat) (ft : h t = some (tt, .inr (6, [.ref ua, .int (nI n), .int (nI sv), .int (nI os)]))) (fu : h ua = some (tu, .inl (G.2.2.1 0, 3000, .inl (nA f)))) (hne : tt ≠ tu) (hn : n ≤ 3000) (hsv : sv < 2 ^ 30) (hos : os < 2 ^ 30) (hf : ∀ j, f j < 65536) (a : Nat) (ha : a ≤ n) : Met l yX7_sevensEnd wsX7_sevensEnd ({ frames := 3, cells := 0, slots := 0, locals := 63 }) (ah_Pc G [.ref t, .int (nI a)] h) (ah_Qi G (fun v h' => v = nI (sEnd f n (n - a + 1) a 153) ∧ h' = h)) 0 0 (ah_A G) := by
  refine ah_ofW (cc := cX7_sevensEnd) (maxL := 4) (ret := (some .int)) (by decide) rfl (Nat.le_of_ble_eq_true rfl) ?_
  intro p e s m below meth cd9 ls hx hb hr hml hown hlocks hname hts hE hR hS hl
  have hown : s.vm.findClass RX7 = some m.cls := hown
  have hl : lv_has ls 4 [(0, .ref t), (1, .int (nI a))] := hl
  have k15 := hts (.fieldLink RX7 15 "TextParts$Text" "count" "I") (by decide +kernel)
  have hinX7 : ∀ w ∈ wsX70, w ∈ wsX7_sevensEnd := by decide +kernel
  refine lv_sipush (v := nI 153) hx hb dX7_sevensEnd_0 (by decide) ?_
  refine lv_istore_n (lv' := [(2, .int (nI 153)), (0, .ref t), (1, .int (nI a))]) hx hb dX7_sevensEnd_3 rfl hl (by decide) rfl (fun ls hl => ?_)
  refine lv_iload_n hx hb dX7_sevensEnd_4 rfl (lv_at hl 2 rfl) ?_
  refine lv_istore_n (lv' := [(3, .int (nI a)), (2, .int (nI 153)), (0, .ref t), (1, .int (nI a))]) hx hb dX7_sevensEnd_5 rfl hl (by decide) rfl (fun ls hl => ?_)
  have L6 : ∀ (N6 : Nat) (i : Nat) (q : Nat) (H : Heap) (locs : List Loc) (ls : Array Slot), n - i < N6 → (i ≤ n) → (q ≤ 153) → (sEnd f n (n - i + 1) i q = sEnd f n (n - a + 1) a 153) → (h t = some (tt, .inr (6, [.ref ua, .int (nI n), .int (nI sv), .int (nI os)]))) → (h ua = some (tu, .inl (G.2.2.1 0, 3000, .inl (nA f)))) → ah_R G h H → va_S (ah_A G) s.heap H locs → lv_has ls 4 [(3, .int (nI i)), (2, .int (nI q)), (0, .ref t), (1, .int (nI a))] → W p l e ({ frames := 3, cells := 0, slots := 0, locals := 63 }) s m ([.ref t, .int (nI a)] : List Value).toArray below meth cd9 H locs 0 0 (MQ below (ah_Qi G (fun v h' => v = nI (sEnd f n (n - a + 1) a 153) ∧ h' = h)) ([.ref t, .int (nI a)] : List Value).toArray s 0 0 (ah_A G)) (F0 m 6 ls []) := by
    intro N6
    induction N6 with
    | zero => intro i q  H locs ls hN; exact absurd hN (Nat.not_lt_zero _)
    | succ N6 ih6 =>
      intro i q  H locs ls hN6 hi hq ei ft fu hR hS hl
      refine lv_iload_n hx hb dX7_sevensEnd_6 rfl (lv_at hl 0 rfl) ?_
      refine lv_aload_n hx hb dX7_sevensEnd_7 rfl (lv_at hl 2 rfl) ?_
      refine ah_get (ci := 6) (v := .int (nI n)) (C := RX7) (T := TX7) (N := 4) hx hb hE hR hts hinX7 hown ft rfl 1 (by decide) k15 (fun _ h9 => h9) rfl dX7_sevensEnd_8 ?_
      refine lv_icmp_ge (tgt := 37) hx hb dX7_sevensEnd_11 (by decide) (fun c_1 => ?_) (fun c_1 => ?_)
      · skip
        have c_1 : n ≤ i := (nI_leI (by omega) (by omega)).mp c_1
        refine lv_aload_n hx hb dX7_sevensEnd_37 rfl (lv_at hl 2 rfl) ?_
        refine ah_get (ci := 6) (v := .int (nI n)) (C := RX7) (T := TX7) (N := 4) hx hb hE hR hts hinX7 hown ft rfl 1 (by decide) k15 (fun _ h9 => h9) rfl dX7_sevensEnd_38 ?_
        refine ah_iret (v := nI n) hx hb hr hlocks hR hS dX7_sevensEnd_41 ?_
        exact ⟨by rw [← ei]; simp only [sEnd]; rw [if_pos (show n ≤ i by omega)], rfl⟩
      · skip
        have c_1 : ¬ (n ≤ i) := fun z9 => c_1 ((nI_leI (by omega) (by omega)).mpr z9)
        refine lv_iload_n hx hb dX7_sevensEnd_14 rfl (lv_at hl 1 rfl) ?_
        refine lv_aload_n hx hb dX7_sevensEnd_15 rfl (lv_at hl 2 rfl) ?_
        refine lv_iload_n hx hb dX7_sevensEnd_16 rfl (lv_at hl 0 rfl) ?_
        refine ah_calli (va_runV (As := [.int (nI i)]) (rest := [.int (nI q)]) ⟨hx, hb, hml, hown, hts⟩ (c_Text_unitAt l G h t ua tt tu n sv os f ft fu hne hn hsv hos hf i (by omega)) (cwV 1 hts gX7_sevensEnd_X7_unitAt rfl rfl rfl (by decide +kernel) ⟨Nat.le_of_ble_eq_true rfl, Nat.le_of_ble_eq_true rfl⟩) (ah_preV hE hR hS ft rfl) rfl rfl hl.1 rfl (lv_room (Nat.le_of_ble_eq_true rfl)) dX7_sevensEnd_17 ⟨Nat.le_of_ble_eq_true rfl, Nat.le_of_ble_eq_true rfl⟩) hS (fun r_4 h_2 H locs p_3 hR hS => ?_)
        obtain ⟨e_5, e_6⟩ := p_3
        rw [e_6] at hR
        refine ah_toi e_5 ?_
        have hfu := hf i
        refine ah_calli (va_runS (As := [.int (nI (f i))]) (rest := [.int (nI q)]) ⟨hx, hb, hml, hown, hts⟩ (c_sevensFor l G h (f i) (by omega)) (va_cwS 1 hts gX7_sevensEnd_X0_sevensFor rfl rfl rfl (by decide +kernel) ⟨Nat.le_of_ble_eq_true rfl, Nat.le_of_ble_eq_true rfl⟩) (ah_preS hE hR hS) rfl rfl hl.1 rfl (lv_room (Nat.le_of_ble_eq_true rfl)) dX7_sevensEnd_20 ⟨Nat.le_of_ble_eq_true rfl, Nat.le_of_ble_eq_true rfl⟩) hS (fun r_9 h_7 H locs p_8 hR hS => ?_)
        obtain ⟨e_10, e_11⟩ := p_8
        rw [e_11] at hR
        refine ah_toi e_10 ?_
        have hsf := svFor_le (f i)
        by_cases hlt : q < svFor (f i)
        · skip
          refine lv_isub hx hb dX7_sevensEnd_23 ?_
          refine lv_istore_n (lv' := [(2, .int ((nI q) - (nI (svFor (f i))))), (3, .int (nI i)), (0, .ref t), (1, .int (nI a))]) hx hb dX7_sevensEnd_24 rfl hl (by decide) rfl (fun ls hl => ?_)
          refine lv_iload_n hx hb dX7_sevensEnd_25 rfl (lv_at hl 0 rfl) ?_
          refine lv_if_ge (tgt := 31) hx hb dX7_sevensEnd_26 (by decide) (fun c_12 => ?_) (fun c_12 => ?_)
          · skip
            exact absurd c_12 (Int32.not_le.mpr (pk_sneg (by omega) hlt))
          · skip
            refine lv_iload_n hx hb dX7_sevensEnd_29 rfl (lv_at hl 1 rfl) ?_
            refine ah_iret (v := nI i) hx hb hr hlocks hR hS dX7_sevensEnd_30 ?_
            exact ⟨by rw [← ei]; simp only [sEnd]; rw [if_neg (show ¬ n ≤ i by omega), if_pos hlt], rfl⟩
        · skip
          refine lv_isub hx hb dX7_sevensEnd_23 ?_
          refine ah_toi (v := nI (q - svFor (f i))) (pk_sub (by omega)) ?_
          refine lv_istore_n (lv' := [(2, .int (nI (q - svFor (f i)))), (3, .int (nI i)), (0, .ref t), (1, .int (nI a))]) hx hb dX7_sevensEnd_24 rfl hl (by decide) rfl (fun ls hl => ?_)
          refine lv_iload_n hx hb dX7_sevensEnd_25 rfl (lv_at hl 0 rfl) ?_
          refine lv_if_ge (tgt := 31) hx hb dX7_sevensEnd_26 (by decide) (fun c_13 => ?_) (fun c_13 => ?_)
          · skip
            refine lv_iinc (v := nI (i + 1)) (lv' := [(3, .int (nI (i + 1))), (2, .int (nI (q - svFor (f i)))), (0, .ref t), (1, .int (nI a))]) hx hb dX7_sevensEnd_31 hl (k := 1) rfl (show nI i + Int32.ofInt 1 = nI (i + 1) from nI_add _ 1) (by decide) rfl (fun ls hl => ?_)
            refine lv_goto (tgt := 6) hx hb dX7_sevensEnd_34 (by decide) ?_
            exact ih6  (i + 1) (q - svFor (f i)) _ _ ls (by omega) (by omega) (by omega) (by rw [← ei]; show _ = sEnd f n (n - i + 1) i q; rw [show n - i + 1 = n - (i + 1) + 1 + 1 by omega]; simp only [sEnd]; rw [if_neg (show ¬ n ≤ i by omega), if_neg hlt]) ft fu hR hS (lv_sub hl [0, 1, 2, 3] rfl)
          · skip
            exact absurd (nI_pos' (by omega)) c_13
  exact L6 ((n - a) + 1) a 153 _ _ ls (by omega) (by omega) (by omega) rfl ft fu hR hS (lv_sub hl [0, 1, 2, 3] rfl)

set_option maxHeartbeats 4000000 in
set_option maxRecDepth 100000 in
theorem c_Text_pairsEnd (l : Launch) (G : ah_G) (h : ah_H) (t ua tt tu n sv os : Nat) (f : Nat → Nat) (ft : h t = some (tt, .inr (6, [.ref ua, .int (nI n), .int (nI sv), .int (nI os)]))) (fu : h ua = some (tu, .inl (G.2.2.1 0, 3000, .inl (nA f)))) (hne : tt ≠ tu) (hn : n ≤ 3000) (hsv : sv < 2 ^ 30) (hos : os < 2 ^ 30) (hf : ∀ j, f j < 65536) (a : Nat) (ha : a ≤ n) : Met l yX7_pairsEnd wsX7_pairsEnd ({ frames := 1, cells := 0, slots := 0, locals := 21 }) (ah_Pc G [.ref t, .int (nI a)] h) (ah_Qi G (fun v h' => v = nI (pEnd f n a) ∧ h' = h)) 0 0 (ah_A G) := by
  refine ah_ofW (cc := cX7_pairsEnd) (maxL := 3) (ret := (some .int)) (by decide) rfl (Nat.le_of_ble_eq_true rfl) ?_
  intro p e s m below meth cd9 ls hx hb hr hml hown hlocks hname hts hE hR hS hl
  have hown : s.vm.findClass RX7 = some m.cls := hown
  have hl : lv_has ls 3 [(0, .ref t), (1, .int (nI a))] := hl
  have k15 := hts (.fieldLink RX7 15 "TextParts$Text" "count" "I") (by decide +kernel)
  have hinX7 : ∀ w ∈ wsX70, w ∈ wsX7_pairsEnd := by decide +kernel
  refine lv_iload_n hx hb dX7_pairsEnd_0 rfl (lv_at hl 1 rfl) ?_
  refine lv_bipush (v := nI 67) hx hb dX7_pairsEnd_1 (by decide) ?_
  refine lv_iadd hx hb dX7_pairsEnd_3 ?_
  refine ah_toi (v := nI (a + 67)) (nI_add _ _) ?_
  refine lv_istore_n (lv' := [(2, .int (nI (a + 67))), (0, .ref t), (1, .int (nI a))]) hx hb dX7_pairsEnd_4 rfl hl (by decide) rfl (fun ls hl => ?_)
  refine lv_iload_n hx hb dX7_pairsEnd_5 rfl (lv_at hl 0 rfl) ?_
  refine lv_aload_n hx hb dX7_pairsEnd_6 rfl (lv_at hl 1 rfl) ?_
  refine ah_get (ci := 6) (v := .int (nI n)) (C := RX7) (T := TX7) (N := 4) hx hb hE hR hts hinX7 hown ft rfl 1 (by decide) k15 (fun _ h9 => h9) rfl dX7_pairsEnd_7 ?_
  refine lv_icmp_lt (tgt := 18) hx hb dX7_pairsEnd_10 (by decide) (fun c_1 => ?_) (fun c_1 => ?_)
  · skip
    have c_1 : (a + 67) < n := (nI_ltI (by omega) (by omega)).mp c_1
    refine lv_aload_n hx hb dX7_pairsEnd_18 rfl (lv_at hl 1 rfl) ?_
    refine lv_iload_n hx hb dX7_pairsEnd_19 rfl (lv_at hl 0 rfl) ?_
    refine lv_iconst (v := nI 1) hx hb dX7_pairsEnd_20 (by decide) ?_
    refine lv_isub hx hb dX7_pairsEnd_21 ?_
    refine ah_toi (v := nI ((a + 67) - 1)) (pk_sub (by omega)) ?_
    refine ah_calli (va_runV (As := [.int (nI ((a + 67) - 1))]) (rest := []) ⟨hx, hb, hml, hown, hts⟩ (c_Text_unitAt l G h t ua tt tu n sv os f ft fu hne hn hsv hos hf ((a + 67) - 1) (by omega)) (cwV 1 hts gX7_pairsEnd_X7_unitAt rfl rfl rfl (by decide +kernel) ⟨Nat.le_of_ble_eq_true rfl, Nat.le_of_ble_eq_true rfl⟩) (ah_preV hE hR hS ft rfl) rfl rfl hl.1 rfl (lv_room (Nat.le_of_ble_eq_true rfl)) dX7_pairsEnd_22 ⟨Nat.le_of_ble_eq_true rfl, Nat.le_of_ble_eq_true rfl⟩) hS (fun r_4 h_2 H locs p_3 hR hS => ?_)
    obtain ⟨e_5, e_6⟩ := p_3
    rw [e_6] at hR
    refine ah_toi e_5 ?_
    have hfu := hf ((a + 67) - 1)
    refine ah_calli (va_runS (As := [.int (nI (f ((a + 67) - 1)))]) (rest := []) ⟨hx, hb, hml, hown, hts⟩ (c_Text_isHigh l G h (f ((a + 67) - 1)) (by omega)) (va_cwS 1 hts gX7_pairsEnd_X7_isHigh rfl rfl rfl (by decide +kernel) ⟨Nat.le_of_ble_eq_true rfl, Nat.le_of_ble_eq_true rfl⟩) (ah_preS hE hR hS) rfl rfl hl.1 rfl (lv_room (Nat.le_of_ble_eq_true rfl)) dX7_pairsEnd_25 ⟨Nat.le_of_ble_eq_true rfl, Nat.le_of_ble_eq_true rfl⟩) hS (fun r_9 h_7 H locs p_8 hR hS => ?_)
    obtain ⟨e_10, e_11⟩ := p_8
    rw [e_11] at hR
    refine ah_toi e_10 ?_
    have h01a : (if hiP (f ((a + 67) - 1)) then 1 else 0) < 2 ^ 31 := if10
    refine lv_if_eq (tgt := 48) hx hb dX7_pairsEnd_28 (by decide) (fun c_12 => ?_) (fun c_12 => ?_)
    · skip
      have c_12 : (if hiP (f ((a + 67) - 1)) then 1 else 0) = 0 := (zi_eq (by omega)).mp c_12
      have hno := if10f c_12
      refine lv_iload_n hx hb dX7_pairsEnd_48 rfl (lv_at hl 0 rfl) ?_
      refine ah_iret (v := nI (a + 67)) hx hb hr hlocks hR hS dX7_pairsEnd_49 ?_
      exact ⟨by unfold pEnd; rw [if_neg (by omega), if_neg (fun z => hno z.1)], rfl⟩
    · skip
      have c_12 : ¬ ((if hiP (f ((a + 67) - 1)) then 1 else 0) = 0) := fun z9 => c_12 ((zi_eq (by omega)).mpr z9)
      have hh := if10t c_12
      refine lv_aload_n hx hb dX7_pairsEnd_31 rfl (lv_at hl 1 rfl) ?_
      refine lv_iload_n hx hb dX7_pairsEnd_32 rfl (lv_at hl 0 rfl) ?_
      refine ah_calli (va_runV (As := [.int (nI (a + 67))]) (rest := []) ⟨hx, hb, hml, hown, hts⟩ (c_Text_unitAt l G h t ua tt tu n sv os f ft fu hne hn hsv hos hf (a + 67) (by omega)) (cwV 1 hts gX7_pairsEnd_X7_unitAt rfl rfl rfl (by decide +kernel) ⟨Nat.le_of_ble_eq_true rfl, Nat.le_of_ble_eq_true rfl⟩) (ah_preV hE hR hS ft rfl) rfl rfl hl.1 rfl (lv_room (Nat.le_of_ble_eq_true rfl)) dX7_pairsEnd_33 ⟨Nat.le_of_ble_eq_true rfl, Nat.le_of_ble_eq_true rfl⟩) hS (fun r_15 h_13 H locs p_14 hR hS => ?_)
      obtain ⟨e_16, e_17⟩ := p_14
      rw [e_17] at hR
      refine ah_toi e_16 ?_
      have hfu := hf (a + 67)
      refine ah_calli (va_runS (As := [.int (nI (f (a + 67)))]) (rest := []) ⟨hx, hb, hml, hown, hts⟩ (c_Text_isLow l G h (f (a + 67)) (by omega)) (va_cwS 1 hts gX7_pairsEnd_X7_isLow rfl rfl rfl (by decide +kernel) ⟨Nat.le_of_ble_eq_true rfl, Nat.le_of_ble_eq_true rfl⟩) (ah_preS hE hR hS) rfl rfl hl.1 rfl (lv_room (Nat.le_of_ble_eq_true rfl)) dX7_pairsEnd_36 ⟨Nat.le_of_ble_eq_true rfl, Nat.le_of_ble_eq_true rfl⟩) hS (fun r_20 h_18 H locs p_19 hR hS => ?_)
      obtain ⟨e_21, e_22⟩ := p_19
      rw [e_22] at hR
      refine ah_toi e_21 ?_
      have h01b : (if loP (f (a + 67)) then 1 else 0) < 2 ^ 31 := if10
      refine lv_if_eq (tgt := 48) hx hb dX7_pairsEnd_39 (by decide) (fun c_23 => ?_) (fun c_23 => ?_)
      · skip
        have c_23 : (if loP (f (a + 67)) then 1 else 0) = 0 := (zi_eq (by omega)).mp c_23
        have hno := if10f c_23
        refine lv_iload_n hx hb dX7_pairsEnd_48 rfl (lv_at hl 0 rfl) ?_
        refine ah_iret (v := nI (a + 67)) hx hb hr hlocks hR hS dX7_pairsEnd_49 ?_
        exact ⟨by unfold pEnd; rw [if_neg (by omega), if_neg (fun z => hno z.2)], rfl⟩
      · skip
        have c_23 : ¬ ((if loP (f (a + 67)) then 1 else 0) = 0) := fun z9 => c_23 ((zi_eq (by omega)).mpr z9)
        have hlo := if10t c_23
        refine lv_iload_n hx hb dX7_pairsEnd_42 rfl (lv_at hl 0 rfl) ?_
        refine lv_iconst (v := nI 1) hx hb dX7_pairsEnd_43 (by decide) ?_
        refine lv_isub hx hb dX7_pairsEnd_44 ?_
        refine ah_toi (v := nI ((a + 67) - 1)) (pk_sub (by omega)) ?_
        refine lv_goto (tgt := 49) hx hb dX7_pairsEnd_45 (by decide) ?_
        refine ah_iret (v := nI ((a + 67) - 1)) hx hb hr hlocks hR hS dX7_pairsEnd_49 ?_
        exact ⟨by unfold pEnd; rw [if_neg (by omega), if_pos ⟨hh, hlo⟩], rfl⟩
  · skip
    have c_1 : ¬ ((a + 67) < n) := fun z9 => c_1 ((nI_ltI (by omega) (by omega)).mpr z9)
    refine lv_aload_n hx hb dX7_pairsEnd_13 rfl (lv_at hl 1 rfl) ?_
    refine ah_get (ci := 6) (v := .int (nI n)) (C := RX7) (T := TX7) (N := 4) hx hb hE hR hts hinX7 hown ft rfl 1 (by decide) k15 (fun _ h9 => h9) rfl dX7_pairsEnd_14 ?_
    refine ah_iret (v := nI n) hx hb hr hlocks hR hS dX7_pairsEnd_17 ?_
    exact ⟨by unfold pEnd; rw [if_pos (by omega)], rfl⟩

set_option maxHeartbeats 4000000 in
set_option maxRecDepth 100000 in
theorem c_Text_partEnd (l : Launch) (G : ah_G) (h : ah_H) (t ua tt tu n sv os : Nat) (f : Nat → Nat) (ft : h t = some (tt, .inr (6, [.ref ua, .int (nI n), .int (nI sv), .int (nI os)]))) (fu : h ua = some (tu, .inl (G.2.2.1 0, 3000, .inl (nA f)))) (hne : tt ≠ tu) (hn : n ≤ 3000) (hsv : sv < 2 ^ 30) (hos : os < 2 ^ 30) (hf : ∀ j, f j < 65536) (a : Nat) (ha : a ≤ n) : Met l yX7_partEnd wsX7_partEnd ({ frames := 4, cells := 0, slots := 0, locals := 86 }) (ah_Pc G [.ref t, .int (nI a)] h) (ah_Qi G (fun v h' => v = nI (tEnd f n os a) ∧ h' = h)) 0 0 (ah_A G) := by
  refine ah_ofW (cc := cX7_partEnd) (maxL := 2) (ret := (some .int)) (by decide) rfl (Nat.le_of_ble_eq_true rfl) ?_
  intro p e s m below meth cd9 ls hx hb hr hml hown hlocks hname hts hE hR hS hl
  have hown : s.vm.findClass RX7 = some m.cls := hown
  have hl : lv_has ls 2 [(0, .ref t), (1, .int (nI a))] := hl
  refine lv_aload_n hx hb dX7_partEnd_0 rfl (lv_at hl 0 rfl) ?_
  refine ah_calli (va_runV (As := []) (rest := []) ⟨hx, hb, hml, hown, hts⟩ (c_Text_inAlphabet l G h t ua tt tu n sv os f ft fu hne hn hsv hos hf) (cwV 0 hts gX7_partEnd_X7_inAlphabet rfl rfl rfl (by decide +kernel) ⟨Nat.le_of_ble_eq_true rfl, Nat.le_of_ble_eq_true rfl⟩) (ah_preV hE hR hS ft rfl) rfl rfl hl.1 rfl (lv_room (Nat.le_of_ble_eq_true rfl)) dX7_partEnd_1 ⟨Nat.le_of_ble_eq_true rfl, Nat.le_of_ble_eq_true rfl⟩) hS (fun r_3 h_1 H locs p_2 hR hS => ?_)
  obtain ⟨e_4, e_5⟩ := p_2
  rw [e_5] at hR
  refine ah_toi e_4 ?_
  have h01 : (if os = 0 then 1 else 0) < 2 ^ 31 := if10
  refine lv_if_eq (tgt := 15) hx hb dX7_partEnd_4 (by decide) (fun c_6 => ?_) (fun c_6 => ?_)
  · skip
    have c_6 : (if os = 0 then 1 else 0) = 0 := (zi_eq (by omega)).mp c_6
    have ho := if10f c_6
    refine lv_aload_n hx hb dX7_partEnd_15 rfl (lv_at hl 0 rfl) ?_
    refine lv_iload_n hx hb dX7_partEnd_16 rfl (lv_at hl 1 rfl) ?_
    refine ah_calli (va_runV (As := [.int (nI a)]) (rest := []) ⟨hx, hb, hml, hown, hts⟩ (c_Text_pairsEnd l G h t ua tt tu n sv os f ft fu hne hn hsv hos hf a ha) (cwV 1 hts gX7_partEnd_X7_pairsEnd rfl rfl rfl (by decide +kernel) ⟨Nat.le_of_ble_eq_true rfl, Nat.le_of_ble_eq_true rfl⟩) (ah_preV hE hR hS ft rfl) rfl rfl hl.1 rfl (lv_room (Nat.le_of_ble_eq_true rfl)) dX7_partEnd_17 ⟨Nat.le_of_ble_eq_true rfl, Nat.le_of_ble_eq_true rfl⟩) hS (fun r_9 h_7 H locs p_8 hR hS => ?_)
    obtain ⟨e_10, e_11⟩ := p_8
    rw [e_11] at hR
    refine ah_toi e_10 ?_
    refine ah_iret (v := nI (pEnd f n a)) hx hb hr hlocks hR hS dX7_partEnd_20 ?_
    exact ⟨by unfold tEnd; rw [if_neg ho], rfl⟩
  · skip
    have c_6 : ¬ ((if os = 0 then 1 else 0) = 0) := fun z9 => c_6 ((zi_eq (by omega)).mpr z9)
    have ho := if10t c_6
    refine lv_aload_n hx hb dX7_partEnd_7 rfl (lv_at hl 0 rfl) ?_
    refine lv_iload_n hx hb dX7_partEnd_8 rfl (lv_at hl 1 rfl) ?_
    refine ah_calli (va_runV (As := [.int (nI a)]) (rest := []) ⟨hx, hb, hml, hown, hts⟩ (c_Text_sevensEnd l G h t ua tt tu n sv os f ft fu hne hn hsv hos hf a ha) (cwV 1 hts gX7_partEnd_X7_sevensEnd rfl rfl rfl (by decide +kernel) ⟨Nat.le_of_ble_eq_true rfl, Nat.le_of_ble_eq_true rfl⟩) (ah_preV hE hR hS ft rfl) rfl rfl hl.1 rfl (lv_room (Nat.le_of_ble_eq_true rfl)) dX7_partEnd_9 ⟨Nat.le_of_ble_eq_true rfl, Nat.le_of_ble_eq_true rfl⟩) hS (fun r_14 h_12 H locs p_13 hR hS => ?_)
    obtain ⟨e_15, e_16⟩ := p_13
    rw [e_16] at hR
    refine ah_toi e_15 ?_
    refine lv_goto (tgt := 20) hx hb dX7_partEnd_12 (by decide) ?_
    refine ah_iret (v := nI (sEnd f n (n - a + 1) a 153)) hx hb hr hlocks hR hS dX7_partEnd_20 ?_
    exact ⟨by unfold tEnd; rw [if_pos ho], rfl⟩

set_option maxHeartbeats 4000000 in
set_option maxRecDepth 100000 in
theorem c_Text_partCount (l : Launch) (G : ah_G) (h : ah_H) (t ua tt tu n sv os : Nat) (f : Nat → Nat) (ft : h t = some (tt, .inr (6, [.ref ua, .int (nI n), .int (nI sv), .int (nI os)]))) (fu : h ua = some (tu, .inl (G.2.2.1 0, 3000, .inl (nA f)))) (hne : tt ≠ tu) (hn : n ≤ 3000) (hsv : sv < 2 ^ 30) (hos : os < 2 ^ 30) (hf : ∀ j, f j < 65536) : Met l yX7_partCount wsX7_partCount ({ frames := 5, cells := 0, slots := 0, locals := 107 }) (ah_Pc G [.ref t] h) (ah_Qi G (fun v h' => v = nI (tParts f n sv os) ∧ h' = h)) 0 0 (ah_A G) := by
  refine ah_ofW (cc := cX7_partCount) (maxL := 3) (ret := (some .int)) (by decide) rfl (Nat.le_of_ble_eq_true rfl) ?_
  intro p e s m below meth cd9 ls hx hb hr hml hown hlocks hname hts hE hR hS hl
  have hown : s.vm.findClass RX7 = some m.cls := hown
  have hl : lv_has ls 3 [(0, .ref t)] := hl
  have k15 := hts (.fieldLink RX7 15 "TextParts$Text" "count" "I") (by decide +kernel)
  have hinX7 : ∀ w ∈ wsX70, w ∈ wsX7_partCount := by decide +kernel
  refine lv_aload_n hx hb dX7_partCount_0 rfl (lv_at hl 0 rfl) ?_
  refine ah_calli (va_runV (As := []) (rest := []) ⟨hx, hb, hml, hown, hts⟩ (c_Text_fitsAlone l G h t ua tt tu n sv os f ft fu hne hn hsv hos hf) (cwV 0 hts gX7_partCount_X7_fitsAlone rfl rfl rfl (by decide +kernel) ⟨Nat.le_of_ble_eq_true rfl, Nat.le_of_ble_eq_true rfl⟩) (ah_preV hE hR hS ft rfl) rfl rfl hl.1 rfl (lv_room (Nat.le_of_ble_eq_true rfl)) dX7_partCount_1 ⟨Nat.le_of_ble_eq_true rfl, Nat.le_of_ble_eq_true rfl⟩) hS (fun r_3 h_1 H locs p_2 hR hS => ?_)
  obtain ⟨e_4, e_5⟩ := p_2
  rw [e_5] at hR
  refine ah_toi e_4 ?_
  have h01 : (if aloneP n sv os then 1 else 0) < 2 ^ 31 := if10
  refine lv_if_eq (tgt := 9) hx hb dX7_partCount_4 (by decide) (fun c_6 => ?_) (fun c_6 => ?_)
  · skip
    have c_6 : (if aloneP n sv os then 1 else 0) = 0 := (zi_eq (by omega)).mp c_6
    have hal := if10f c_6
    refine lv_iconst (v := nI 0) hx hb dX7_partCount_9 (by decide) ?_
    refine lv_istore_n (lv' := [(1, .int (nI 0)), (0, .ref t)]) hx hb dX7_partCount_10 rfl hl (by decide) rfl (fun ls hl => ?_)
    refine lv_iconst (v := nI 0) hx hb dX7_partCount_11 (by decide) ?_
    refine lv_istore_n (lv' := [(2, .int (nI 0)), (1, .int (nI 0)), (0, .ref t)]) hx hb dX7_partCount_12 rfl hl (by decide) rfl (fun ls hl => ?_)
    have L13 : ∀ (N13 : Nat) (k : Nat) (a : Nat) (H : Heap) (locs : List Loc) (ls : Array Slot), 256 - k < N13 → (k ≤ 256) → (a ≤ n) → (pcR (tEnd f n os) n (256 - k) k a = pcR (tEnd f n os) n 256 0 0) → (h t = some (tt, .inr (6, [.ref ua, .int (nI n), .int (nI sv), .int (nI os)]))) → (h ua = some (tu, .inl (G.2.2.1 0, 3000, .inl (nA f)))) → ah_R G h H → va_S (ah_A G) s.heap H locs → lv_has ls 3 [(2, .int (nI k)), (1, .int (nI a)), (0, .ref t)] → W p l e ({ frames := 5, cells := 0, slots := 0, locals := 107 }) s m ([.ref t] : List Value).toArray below meth cd9 H locs 0 0 (MQ below (ah_Qi G (fun v h' => v = nI (tParts f n sv os) ∧ h' = h)) ([.ref t] : List Value).toArray s 0 0 (ah_A G)) (F0 m 13 ls []) := by
      intro N13
      induction N13 with
      | zero => intro k a  H locs ls hN; exact absurd hN (Nat.not_lt_zero _)
      | succ N13 ih13 =>
        intro k a  H locs ls hN13 hk ha ek ft fu hR hS hl
        refine lv_iload_n hx hb dX7_partCount_13 rfl (lv_at hl 0 rfl) ?_
        refine lv_sipush (v := nI 255) hx hb dX7_partCount_14 (by decide) ?_
        refine lv_icmp_gt (tgt := 42) hx hb dX7_partCount_17 (by decide) (fun c_7 => ?_) (fun c_7 => ?_)
        · skip
          have c_7 : 255 < k := (nI_ltI (by omega) (by omega)).mp c_7
          refine lv_iconst (v := nI 0) hx hb dX7_partCount_42 (by decide) ?_
          refine ah_iret (v := nI 0) hx hb hr hlocks hR hS dX7_partCount_43 ?_
          exact ⟨by unfold tParts; rw [if_neg hal, ← ek, show 256 - k = 0 by omega]; rfl, rfl⟩
        · skip
          have c_7 : ¬ (255 < k) := fun z9 => c_7 ((nI_ltI (by omega) (by omega)).mpr z9)
          refine lv_iload_n hx hb dX7_partCount_20 rfl (lv_at hl 1 rfl) ?_
          refine lv_aload_n hx hb dX7_partCount_21 rfl (lv_at hl 2 rfl) ?_
          refine ah_get (ci := 6) (v := .int (nI n)) (C := RX7) (T := TX7) (N := 4) hx hb hE hR hts hinX7 hown ft rfl 1 (by decide) k15 (fun _ h9 => h9) rfl dX7_partCount_22 ?_
          refine lv_icmp_lt (tgt := 30) hx hb dX7_partCount_25 (by decide) (fun c_8 => ?_) (fun c_8 => ?_)
          · skip
            have c_8 : a < n := (nI_ltI (by omega) (by omega)).mp c_8
            refine lv_aload_n hx hb dX7_partCount_30 rfl (lv_at hl 2 rfl) ?_
            refine lv_iload_n hx hb dX7_partCount_31 rfl (lv_at hl 1 rfl) ?_
            refine ah_calli (va_runV (As := [.int (nI a)]) (rest := []) ⟨hx, hb, hml, hown, hts⟩ (c_Text_partEnd l G h t ua tt tu n sv os f ft fu hne hn hsv hos hf a ha) (cwV 1 hts gX7_partCount_X7_partEnd rfl rfl rfl (by decide +kernel) ⟨Nat.le_of_ble_eq_true rfl, Nat.le_of_ble_eq_true rfl⟩) (ah_preV hE hR hS ft rfl) rfl rfl hl.1 rfl (lv_room (Nat.le_of_ble_eq_true rfl)) dX7_partCount_32 ⟨Nat.le_of_ble_eq_true rfl, Nat.le_of_ble_eq_true rfl⟩) hS (fun r_11 h_9 H locs p_10 hR hS => ?_)
            obtain ⟨e_12, e_13⟩ := p_10
            rw [e_13] at hR
            refine ah_toi e_12 ?_
            refine lv_istore_n (lv' := [(1, .int (nI (tEnd f n os a))), (2, .int (nI k)), (0, .ref t)]) hx hb dX7_partCount_35 rfl hl (by decide) rfl (fun ls hl => ?_)
            refine lv_iinc (v := nI (k + 1)) (lv' := [(2, .int (nI (k + 1))), (1, .int (nI (tEnd f n os a))), (0, .ref t)]) hx hb dX7_partCount_36 hl (k := 1) rfl (show nI k + Int32.ofInt 1 = nI (k + 1) from nI_add _ 1) (by decide) rfl (fun ls hl => ?_)
            refine lv_goto (tgt := 13) hx hb dX7_partCount_39 (by decide) ?_
            exact ih13  (k + 1) (tEnd f n os a) _ _ ls (by omega) (by omega) (tEnd_le ha) (by rw [← ek, show 256 - k = 256 - (k + 1) + 1 by omega]; simp only [pcR]; rw [if_neg (show ¬ n ≤ a by omega)]) ft fu hR hS (lv_sub hl [0, 1, 2] rfl)
          · skip
            have c_8 : ¬ (a < n) := fun z9 => c_8 ((nI_ltI (by omega) (by omega)).mpr z9)
            refine lv_iload_n hx hb dX7_partCount_28 rfl (lv_at hl 0 rfl) ?_
            refine ah_iret (v := nI k) hx hb hr hlocks hR hS dX7_partCount_29 ?_
            exact ⟨by unfold tParts; rw [if_neg hal, ← ek, show 256 - k = 256 - (k + 1) + 1 by omega]; simp only [pcR]; rw [if_pos (show n ≤ a by omega)], rfl⟩
    exact L13 ((256 - 0) + 1) 0 0 _ _ ls (by omega) (by omega) (by omega) rfl ft fu hR hS (lv_sub hl [0, 1, 2] rfl)
  · skip
    have c_6 : ¬ ((if aloneP n sv os then 1 else 0) = 0) := fun z9 => c_6 ((zi_eq (by omega)).mpr z9)
    have hal := if10t c_6
    refine lv_iconst (v := nI 1) hx hb dX7_partCount_7 (by decide) ?_
    refine ah_iret (v := nI 1) hx hb hr hlocks hR hS dX7_partCount_8 ?_
    exact ⟨by unfold tParts; rw [if_pos hal], rfl⟩
