/-! ===== TextParts: its state, and the calls of the text ===== -/
def outs (f : Nat → Nat) : Nat → Nat
  | 0 => 0
  | k + 1 => outs f k + if svFor (f k) = 0 then 1 else 0
theorem outs_le (f : Nat → Nat) : ∀ n, outs f n ≤ n
  | 0 => Nat.le_refl 0
  | n + 1 => by have := outs_le f n; unfold outs; split <;> omega
theorem outs_0 {f : Nat → Nat} : ∀ n, outs f n = 0 → ∀ i, i < n → svFor (f i) ≠ 0
  | 0, _, i, hi => absurd hi (Nat.not_lt_zero i)
  | n + 1, h, i, hi => by
    unfold outs at h
    by_cases e : i = n
    · intro q; rw [e] at q; rw [if_pos q] at h; omega
    · exact outs_0 n (by omega) i (by omega)
theorem sumS_cong {f g : Nat → Nat} {a : Nat} : ∀ m, (∀ j, j < a + m → f j = g j) → sumS f a m = sumS g a m
  | 0, _ => rfl
  | m + 1, h => by unfold sumS; rw [sumS_cong m (fun j hj => h j (by omega)), h (a + m) (by omega)]
theorem outs_cong {f g : Nat → Nat} : ∀ n, (∀ j, j < n → f j = g j) → outs f n = outs g n
  | 0, _ => rfl
  | n + 1, h => by unfold outs; rw [outs_cong n (fun j hj => h j (by omega)), h n (by omega)]
theorem sumS_put (f : Nat → Nat) (n u : Nat) : sumS (gU f n u) 0 (n + 1) = sumS f 0 n + svFor u := by
  show sumS (gU f n u) 0 n + svFor (gU f n u (0 + n)) = _
  rw [Nat.zero_add, gU_s, sumS_cong n (g := f) (fun j hj => gU_n (by omega))]
theorem outs_put (f : Nat → Nat) (n u : Nat) : outs (gU f n u) (n + 1) = outs f n + if svFor u = 0 then 1 else 0 := by
  show outs (gU f n u) n + (if svFor (gU f n u n) = 0 then 1 else 0) = _
  rw [gU_s, outs_cong n (g := f) (fun j hj => gU_n (by omega))]
/-- the state: the text (n units f), the parts made (pm of them, sizes z, bytes g), the bytes at hand, the next reference, the box -/
def tp (G : ah_G) (h : ah_H) (x n : Nat) (f : Nat → Nat) (pm : Nat) (z : Nat → Nat) (g : Nat → Nat → Nat) (zh : Nat) (gh : Nat → Nat) (rf c pt : Nat) (D : Nat → hDt) (lat : Option (Nat × (Nat → List Nat))) : Prop :=
  ∃ (t ua m0 ra ah ab ib hp rd ru : Nat) (rr : Nat → Option Nat) (rb : Nat → Nat), h x = some (1, .inr (7, [.ref t, .ref m0, .ref ah, .ref ib, .int (nI rf)])) ∧
    h t = some (2, .inr (6, [.ref ua, .int (nI n), .int (nI (sumS f 0 n)), .int (nI (outs f n))])) ∧ h ua = some (3, .inl (G.2.2.1 0, 3000, .inl (nA f))) ∧ n ≤ 3000 ∧ (∀ j, f j < 65536) ∧
    h m0 = some (4, .inr (2, [.ref ra, .int (nI pm)])) ∧ h ra = some (5, .inl (G.2.2.1 3, 255, .inr (.inr (.inr (.inr rr))))) ∧ pm ≤ 255 ∧ rowsOk G h rr rb z g ∧ (∀ j, j < pm → ∃ r, rr j = some r) ∧
    h ah = some (6, .inr (5, [.ref ab, .int (nI zh)])) ∧ h ab = some (7, .inl (G.2.2.1 0, 200, .inl (nA gh))) ∧ zh ≤ 200 ∧ (∀ j, gh j < 256) ∧ rf < 256 ∧ ibx G h ib hp rd ru c pt D lat
abbrev cT (t : Nat) : Prop := (1 ≤ t ∧ t ≤ 11) ∨ 100 ≤ t
theorem tp.frame {G : ah_G} {h h' : ah_H} {x n : Nat} {f : Nat → Nat} {pm : Nat} {z : Nat → Nat} {g : Nat → Nat → Nat} {zh : Nat} {gh : Nat → Nat} {rf c pt : Nat} {D : Nat → hDt} {lat : Option (Nat × (Nat → List Nat))} (k : tp G h x n f pm z g zh gh rf c pt D lat) (y : agr cT h h') : tp G h' x n f pm z g zh gh rf c pt D lat := by
  obtain ⟨t, ua, m0, ra, ah, ab, ib, hp, rd, ru, rr, rb, fx, ft, fu, hn, hf, fm, fa, hpm, hrows, hsome, fh, fb, hzh, hgh, hrf, hbox⟩ := k
  exact ⟨t, ua, m0, ra, ah, ab, ib, hp, rd, ru, rr, rb, y _ _ _ (by omega) fx, y _ _ _ (by omega) ft, y _ _ _ (by omega) fu, hn, hf, y _ _ _ (by omega) fm, y _ _ _ (by omega) fa, hpm, hrows.frame (y.weak (fun t q => by unfold cT; omega)), hsome, y _ _ _ (by omega) fh, y _ _ _ (by omega) fb, hzh, hgh, hrf, hbox.frame (y.weak (fun t q => by unfold cT; unfold boxT at q; omega))⟩
abbrev inR (n : Nat) (x : Int32) : Prop := ∃ j, j < n ∧ x = nI j
theorem inR_neg {n : Nat} {x : Int32} (hn : n < 2 ^ 31) (h : x < 0) : ¬ inR n x := fun ⟨j, hj, e⟩ => by rw [e] at h; exact nI_pos (by omega) h
theorem inR_big {n : Nat} {x : Int32} (hn : n < 2 ^ 31) (h : nI n ≤ x) : ¬ inR n x := fun ⟨j, hj, e⟩ => by rw [e] at h; exact nI_ge hj hn h
theorem inR_gt {n : Nat} {x : Int32} (hn : n + 1 < 2 ^ 31) (h : ¬ x ≤ nI n) : ¬ inR (n + 1) x := fun ⟨j, hj, e⟩ => by rw [e] at h; exact h ((nI_leI (by omega) (by omega)).mpr (by omega))
theorem inR_in {n : Nat} {x : Int32} (hn : n + 1 < 2 ^ 31) (h0 : ¬ x < 0) (h1 : x ≤ nI n) : inR (n + 1) x := by
  rcases pk_ix x hn with q | q | q
  · exact absurd q h0
  · have := (nI_leI (by omega) (by omega)).mp (Int32.le_trans q h1); omega
  · exact q
theorem out_of {u : Int32} {n : Nat} (hu : ¬ inR (n + 1) u) (hn : n + 1 < 2 ^ 31 := by decide) : u.toInt < 0 ∨ (n : Int) < u.toInt := by
  rcases pk_ix u hn with q | q | q
  · have := Int32.lt_iff_toInt_lt.mp q; exact Or.inl (by simpa using this)
  · have := Int32.le_iff_toInt_le.mp q; rw [nI_toInt hn] at this; exact Or.inr (by omega)
  · exact absurd q hu

set_option maxHeartbeats 4000000 in
set_option maxRecDepth 100000 in
theorem c_put (l : Launch) (hlt : l.stackTraces = false) (G : ah_G) (h : ah_H) (x n pm zh rf c pt : Nat) (f z : Nat → Nat) (g : Nat → Nat → Nat) (gh : Nat → Nat) (D : Nat → hDt) (lat : Option (Nat × (Nat → List Nat))) (htp : tp G h x n f pm z g zh gh rf c pt D lat) (u : Int32) : vx_Met l yX8_put wsX8_put ({ frames := 6, cells := 1, slots := 6, locals := 100 }) (ah_Px G [.ref x, .int u] h) (ah_Qi G (fun v h' => ∃ k, k < 65536 ∧ u = nI k ∧ n < 3000 ∧ v = nI (n + 1) ∧ tp G h' x (n + 1) (gU f n k) pm z g zh gh rf c pt D lat ∧ agr (fun t => ¬ cT t) h h')) (ah_QX G (fun E h' => ((E = eIA ∧ ¬ inR 65536 u) ∨ (E = eIS ∧ inR 65536 u ∧ n = 3000)) ∧ h' = h)) 1 6 (ah_A G) := by
  refine ah_ofX (cc := cX8_put) (maxL := 2) (ret := (some .int)) (by decide) rfl (Nat.le_of_ble_eq_true rfl) ?_
  intro p e s m below meth cd9 ls hx hb hr hml hown hlocks hname hts htb hX hE hR hS hl
  have hown : s.vm.findClass RX8 = some m.cls := hown
  have hl : lv_has ls 2 [(0, .ref x), (1, .int u)] := hl
  have wclassLink_RX8_44_java_lang_IllegalArgumentException := hts (.classLink RX8 44 "java/lang/IllegalArgumentException") (by decide +kernel)
  have winitialized_java_lang_IllegalArgumentException := hts (.initialized "java/lang/IllegalArgumentException") (by decide +kernel)
  have wconstant_RX8_43_65535 := hts (.constant RX8 43 (65535)) (by decide +kernel)
  have k10 := hts (.fieldLink RX8 10 "TextParts" "text" "LTextParts$Text;") (by decide +kernel)
  have hinX8 : ∀ w ∈ wsX80, w ∈ wsX8_put := by decide +kernel
  have k51 := hts (.fieldLink RX8 51 "TextParts$Text" "count" "I") (by decide +kernel)
  have hinX7 : ∀ w ∈ wsX70, w ∈ wsX8_put := by decide +kernel
  have wclassLink_RX8_54_java_lang_IllegalStateException := hts (.classLink RX8 54 "java/lang/IllegalStateException") (by decide +kernel)
  have winitialized_java_lang_IllegalStateException := hts (.initialized "java/lang/IllegalStateException") (by decide +kernel)
  obtain ⟨t, ua, m0, ra, ah, ab, ib, hp, rd, ru, rr, rb, fx, ft, fu, hn, hf, fm, fa, hpm, hrows, hsome, fh, fb, hzh, hgh, hrf, hbox⟩ := htp
  have hss := sumS_le f 0 n; have hos := outs_le f n
  refine lv_iload_n hx hb dX8_put_0 rfl (lv_at hl 1 rfl) ?_
  refine lv_if_lt (tgt := 10) hx hb dX8_put_1 (by decide) (fun c_1 => ?_) (fun c_1 => ?_)
  · skip
    exact ah_thr (E := eIA) (tx := "a unit is 0 .. 65535") (ik := 44) (is := 46) (ic := 48) hx hb hlt hown (by decide) wclassLink_RX8_44_java_lang_IllegalArgumentException winitialized_java_lang_IllegalArgumentException hX.2.2.2.1 (fun w hw => hts w (List.mem_cons_of_mem _ (List.mem_append.mpr (Or.inl (List.mem_append.mpr (Or.inr hw)))))) (by decide +kernel) hX.2.2.1.2.2.2.1 (by decide +kernel) hX hR hS (hl.1.trans hml.symm) dX8_put_10 dX8_put_13 dX8_put_14 dX8_put_16 dX8_put_19 htb (Nat.le_of_ble_eq_true rfl) (Nat.le_of_ble_eq_true rfl) (Nat.le_of_ble_eq_true rfl) (Nat.le_of_ble_eq_true rfl) hlocks (⟨Or.inl ⟨rfl, inR_neg (by decide) c_1⟩, rfl⟩) (Nat.le_of_ble_eq_true rfl) (Nat.le_of_ble_eq_true rfl)
  · skip
    refine lv_iload_n hx hb dX8_put_4 rfl (lv_at hl 1 rfl) ?_
    refine lv_ldc (v := 65535) hx hb hown wconstant_RX8_43_65535 dX8_put_5 ?_
    refine ah_toi (v := nI 65535) (by decide) ?_
    refine lv_icmp_le (tgt := 20) hx hb dX8_put_7 (by decide) (fun c_2 => ?_) (fun c_2 => ?_)
    · skip
      obtain ⟨k, hk, rfl⟩ := inR_in (n := 65535) (by decide) c_1 c_2
      refine lv_aload_n hx hb dX8_put_20 rfl (lv_at hl 0 rfl) ?_
      refine ah_get (ci := 7) (v := .ref t) (C := RX8) (T := TX8) (N := 5) hx hb hE hR hts hinX8 hown fx rfl 0 (by decide) k10 (fun _ h9 => h9) rfl dX8_put_21 ?_
      refine ah_get (ci := 6) (v := .int (nI n)) (C := RX7) (T := TX7) (N := 4) hx hb hE hR hts hinX7 hown ft rfl 1 (by decide) k51 (fun _ h9 => h9) rfl dX8_put_24 ?_
      refine lv_sipush (v := nI 3000) hx hb dX8_put_27 (by decide) ?_
      refine lv_icmp_lt (tgt := 43) hx hb dX8_put_30 (by decide) (fun c_3 => ?_) (fun c_3 => ?_)
      · skip
        have c_3 : n < 3000 := (nI_ltI (by omega) (by omega)).mp c_3
        refine lv_aload_n hx hb dX8_put_43 rfl (lv_at hl 0 rfl) ?_
        refine ah_get (ci := 7) (v := .ref t) (C := RX8) (T := TX8) (N := 5) hx hb hE hR hts hinX8 hown fx rfl 0 (by decide) k10 (fun _ h9 => h9) rfl dX8_put_44 ?_
        refine lv_iload_n hx hb dX8_put_47 rfl (lv_at hl 1 rfl) ?_
        refine ah_callv (va_runV (As := [.int (nI k)]) (rest := []) ⟨hx, hb, hml, hown, hts⟩ (c_Text_append l G h t ua 2 3 n (sumS f 0 n) (outs f n) f ft fu (by decide) hn (by omega) (by omega) hf k hk (by omega)) (cwV 1 hts gX8_put_X7_append rfl rfl rfl (by decide +kernel) ⟨Nat.le_of_ble_eq_true rfl, Nat.le_of_ble_eq_true rfl⟩) (ah_preV hE hR hS ft rfl) rfl rfl hl.1 rfl (lv_room (Nat.le_of_ble_eq_true rfl)) dX8_put_48 ⟨Nat.le_of_ble_eq_true rfl, Nat.le_of_ble_eq_true rfl⟩) hS (fun h_4 H locs p_5 hR hS => ?_)
        have ag9 : agr (fun t => t ≠ 2 ∧ t ≠ 3) h h_4 := by rw [p_5]; exact (agr.rf.up fu (by omega)).up (ah_keep ft fu (by omega)) (by omega)
        have f_7 : h_4 x = some (1, .inr (7, [.ref t, .ref m0, .ref ah, .ref ib, .int (nI rf)])) := by rw [p_5]; exact ah_keep (ah_keep fx fu (by omega)) (ah_keep ft fu (by omega)) (by omega)
        have f_8 : h_4 t = some (2, .inr (6, [.ref ua, .int (nI (n + 1)), .int (nI (sumS f 0 n + svFor k)), .int (nI (outs f n + if svFor k = 0 then 1 else 0))])) := by rw [p_5]; exact ah_up_s _ _ _
        have f_9 : h_4 ua = some (3, .inl (G.2.2.1 0, 3000, .inl (nA (gU f n k)))) := by rw [p_5]; exact ah_keep (ah_up_s _ _ _) (ah_keep ft fu (by omega)) (by omega)
        have f_10 : h_4 m0 = some (4, .inr (2, [.ref ra, .int (nI pm)])) := by rw [p_5]; exact ah_keep (ah_keep fm fu (by omega)) (ah_keep ft fu (by omega)) (by omega)
        have f_11 : h_4 ra = some (5, .inl (G.2.2.1 3, 255, .inr (.inr (.inr (.inr rr))))) := by rw [p_5]; exact ah_keep (ah_keep fa fu (by omega)) (ah_keep ft fu (by omega)) (by omega)
        have f_12 : h_4 ah = some (6, .inr (5, [.ref ab, .int (nI zh)])) := by rw [p_5]; exact ah_keep (ah_keep fh fu (by omega)) (ah_keep ft fu (by omega)) (by omega)
        have f_13 : h_4 ab = some (7, .inl (G.2.2.1 0, 200, .inl (nA gh))) := by rw [p_5]; exact ah_keep (ah_keep fb fu (by omega)) (ah_keep ft fu (by omega)) (by omega)
        refine lv_aload_n hx hb dX8_put_51 rfl (lv_at hl 0 rfl) ?_
        refine ah_get (ci := 7) (v := .ref t) (C := RX8) (T := TX8) (N := 5) hx hb hE hR hts hinX8 hown f_7 rfl 0 (by decide) k10 (fun _ h9 => h9) rfl dX8_put_52 ?_
        refine ah_get (ci := 6) (v := .int (nI (n + 1))) (C := RX7) (T := TX7) (N := 4) hx hb hE hR hts hinX7 hown f_8 rfl 1 (by decide) k51 (fun _ h9 => h9) rfl dX8_put_55 ?_
        refine W.widen (k := 1) (n := 6) (by omega) (by omega) ?_
        refine vx_ret ?_
        refine ah_iret (v := nI (n + 1)) hx hb hr hlocks hR hS dX8_put_58 ?_
        exact ⟨k, hk, rfl, by omega, rfl, ⟨t, ua, m0, ra, ah, ab, ib, hp, rd, ru, rr, rb, f_7, (by rw [sumS_put, outs_put]; exact f_8), f_9, (by omega), (fun j => by unfold gU; split; exact hk; exact hf j), f_10, f_11, hpm, hrows.frame (ag9.weak (fun t9 q9 => by omega)), hsome, f_12, f_13, hzh, hgh, hrf, hbox.frame (ag9.weak (fun t9 q9 => by unfold boxT at q9; omega))⟩, ag9.weak (fun t q => by unfold cT at q; omega)⟩
      · skip
        have c_3 : ¬ (n < 3000) := fun z9 => c_3 ((nI_ltI (by omega) (by omega)).mpr z9)
        exact ah_thr (E := eIS) (tx := "the text is full") (ik := 54) (is := 56) (ic := 58) hx hb hlt hown (by decide) wclassLink_RX8_54_java_lang_IllegalStateException winitialized_java_lang_IllegalStateException hX.2.2.2.2.1 (fun w hw => hts w (List.mem_cons_of_mem _ (List.mem_append.mpr (Or.inr hw)))) (by decide +kernel) hX.2.2.1.2.2.2.2.1 (by decide +kernel) hX hR hS (hl.1.trans hml.symm) dX8_put_33 dX8_put_36 dX8_put_37 dX8_put_39 dX8_put_42 htb (Nat.le_of_ble_eq_true rfl) (Nat.le_of_ble_eq_true rfl) (Nat.le_of_ble_eq_true rfl) (Nat.le_of_ble_eq_true rfl) hlocks (⟨Or.inr ⟨rfl, ⟨k, hk, rfl⟩, by omega⟩, rfl⟩) (Nat.le_of_ble_eq_true rfl) (Nat.le_of_ble_eq_true rfl)
    · skip
      exact ah_thr (E := eIA) (tx := "a unit is 0 .. 65535") (ik := 44) (is := 46) (ic := 48) hx hb hlt hown (by decide) wclassLink_RX8_44_java_lang_IllegalArgumentException winitialized_java_lang_IllegalArgumentException hX.2.2.2.1 (fun w hw => hts w (List.mem_cons_of_mem _ (List.mem_append.mpr (Or.inl (List.mem_append.mpr (Or.inr hw)))))) (by decide +kernel) hX.2.2.1.2.2.2.1 (by decide +kernel) hX hR hS (hl.1.trans hml.symm) dX8_put_10 dX8_put_13 dX8_put_14 dX8_put_16 dX8_put_19 htb (Nat.le_of_ble_eq_true rfl) (Nat.le_of_ble_eq_true rfl) (Nat.le_of_ble_eq_true rfl) (Nat.le_of_ble_eq_true rfl) hlocks (⟨Or.inl ⟨rfl, inR_gt (n := 65535) (by decide) c_2⟩, rfl⟩) (Nat.le_of_ble_eq_true rfl) (Nat.le_of_ble_eq_true rfl)

set_option maxHeartbeats 4000000 in
set_option maxRecDepth 100000 in
theorem c_clear (l : Launch) (G : ah_G) (h : ah_H) (x n pm zh rf c pt : Nat) (f z : Nat → Nat) (g : Nat → Nat → Nat) (gh : Nat → Nat) (D : Nat → hDt) (lat : Option (Nat × (Nat → List Nat))) (htp : tp G h x n f pm z g zh gh rf c pt D lat) : Met l yX8_clear wsX8_clear ({ frames := 1, cells := 0, slots := 0, locals := 20 }) (ah_Pc G [.ref x] h) (ah_Qi G (fun v h' => v = nI n ∧ tp G h' x 0 f pm z g zh gh rf c pt D lat ∧ agr (fun t => ¬ cT t) h h')) 0 0 (ah_A G) := by
  refine ah_ofW (cc := cX8_clear) (maxL := 2) (ret := (some .int)) (by decide) rfl (Nat.le_of_ble_eq_true rfl) ?_
  intro p e s m below meth cd9 ls hx hb hr hml hown hlocks hname hts hE hR hS hl
  have hown : s.vm.findClass RX8 = some m.cls := hown
  have hl : lv_has ls 2 [(0, .ref x)] := hl
  have k10 := hts (.fieldLink RX8 10 "TextParts" "text" "LTextParts$Text;") (by decide +kernel)
  have hinX8 : ∀ w ∈ wsX80, w ∈ wsX8_clear := by decide +kernel
  have k51 := hts (.fieldLink RX8 51 "TextParts$Text" "count" "I") (by decide +kernel)
  have hinX7 : ∀ w ∈ wsX70, w ∈ wsX8_clear := by decide +kernel
  obtain ⟨t, ua, m0, ra, ah, ab, ib, hp, rd, ru, rr, rb, fx, ft, fu, hn, hf, fm, fa, hpm, hrows, hsome, fh, fb, hzh, hgh, hrf, hbox⟩ := htp
  have hss := sumS_le f 0 n; have hos := outs_le f n
  refine lv_aload_n hx hb dX8_clear_0 rfl (lv_at hl 0 rfl) ?_
  refine ah_get (ci := 7) (v := .ref t) (C := RX8) (T := TX8) (N := 5) hx hb hE hR hts hinX8 hown fx rfl 0 (by decide) k10 (fun _ h9 => h9) rfl dX8_clear_1 ?_
  refine ah_get (ci := 6) (v := .int (nI n)) (C := RX7) (T := TX7) (N := 4) hx hb hE hR hts hinX7 hown ft rfl 1 (by decide) k51 (fun _ h9 => h9) rfl dX8_clear_4 ?_
  refine lv_istore_n (lv' := [(1, .int (nI n)), (0, .ref x)]) hx hb dX8_clear_7 rfl hl (by decide) rfl (fun ls hl => ?_)
  refine lv_aload_n hx hb dX8_clear_8 rfl (lv_at hl 1 rfl) ?_
  refine ah_get (ci := 7) (v := .ref t) (C := RX8) (T := TX8) (N := 5) hx hb hE hR hts hinX8 hown fx rfl 0 (by decide) k10 (fun _ h9 => h9) rfl dX8_clear_9 ?_
  refine ah_callv (va_runV (As := []) (rest := []) ⟨hx, hb, hml, hown, hts⟩ (c_Text_empty l G h t ua 2 3 n (sumS f 0 n) (outs f n) f ft fu (by decide) hn (by omega) (by omega) hf) (cwV 0 hts gX8_clear_X7_empty rfl rfl rfl (by decide +kernel) ⟨Nat.le_of_ble_eq_true rfl, Nat.le_of_ble_eq_true rfl⟩) (ah_preV hE hR hS ft rfl) rfl rfl hl.1 rfl (lv_room (Nat.le_of_ble_eq_true rfl)) dX8_clear_12 ⟨Nat.le_of_ble_eq_true rfl, Nat.le_of_ble_eq_true rfl⟩) hS (fun h_1 H locs p_2 hR hS => ?_)
  have ag9 : agr (fun t => t ≠ 2) h h_1 := by rw [p_2]; exact agr.rf.up ft (by omega)
  have f_4 : h_1 x = some (1, .inr (7, [.ref t, .ref m0, .ref ah, .ref ib, .int (nI rf)])) := by rw [p_2]; exact ah_keep fx ft (by omega)
  have f_5 : h_1 t = some (2, .inr (6, [.ref ua, .int (nI 0), .int (nI 0), .int (nI 0)])) := by rw [p_2]; exact ah_up_s _ _ _
  have f_6 : h_1 ua = some (3, .inl (G.2.2.1 0, 3000, .inl (nA f))) := by rw [p_2]; exact ah_keep fu ft (by omega)
  have f_7 : h_1 m0 = some (4, .inr (2, [.ref ra, .int (nI pm)])) := by rw [p_2]; exact ah_keep fm ft (by omega)
  have f_8 : h_1 ra = some (5, .inl (G.2.2.1 3, 255, .inr (.inr (.inr (.inr rr))))) := by rw [p_2]; exact ah_keep fa ft (by omega)
  have f_9 : h_1 ah = some (6, .inr (5, [.ref ab, .int (nI zh)])) := by rw [p_2]; exact ah_keep fh ft (by omega)
  have f_10 : h_1 ab = some (7, .inl (G.2.2.1 0, 200, .inl (nA gh))) := by rw [p_2]; exact ah_keep fb ft (by omega)
  refine lv_iload_n hx hb dX8_clear_15 rfl (lv_at hl 0 rfl) ?_
  refine ah_iret (v := nI n) hx hb hr hlocks hR hS dX8_clear_16 ?_
  exact ⟨rfl, ⟨t, ua, m0, ra, ah, ab, ib, hp, rd, ru, rr, rb, f_4, f_5, f_6, (Nat.zero_le _), hf, f_7, f_8, hpm, hrows.frame (ag9.weak (fun t9 q9 => by omega)), hsome, f_9, f_10, hzh, hgh, hrf, hbox.frame (ag9.weak (fun t9 q9 => by unfold boxT at q9; omega))⟩, ag9.weak (fun t q => by unfold cT at q; omega)⟩

def latU : Option (Nat × (Nat → List Nat)) → Nat
  | none => 0
  | some x => totU x.2 x.1
def abV (n : Nat) (f : Nat → Nat) (pm zh rf c : Nat) (lat : Option (Nat × (Nat → List Nat))) : Nat → Int32
  | 0 => if outs f n = 0 then nI (sumS f 0 n) else -1
  | 1 => nI (tParts f n (sumS f 0 n) (outs f n))
  | 2 => nI n
  | 3 => nI rf
  | 4 => nI pm
  | 5 => nI c
  | 6 => nI (latU lat)
  | _ => nI zh

set_option maxHeartbeats 4000000 in
set_option maxRecDepth 100000 in
theorem c_about0 (l : Launch) (hlt : l.stackTraces = false) (G : ah_G) (h : ah_H) (x n pm zh rf c pt : Nat) (f z : Nat → Nat) (g : Nat → Nat → Nat) (gh : Nat → Nat) (D : Nat → hDt) (lat : Option (Nat × (Nat → List Nat))) (htp : tp G h x n f pm z g zh gh rf c pt D lat) : vx_Met l yX8_about wsX8_about ({ frames := 6, cells := 1, slots := 6, locals := 129 }) (ah_Px G [.ref x, .int (nI 0)] h) (ah_Qi G (fun v h' => v = abV n f pm zh rf c lat 0 ∧ h' = h)) (ah_QX G (fun _ _ => False)) 1 6 (ah_A G) := by
  refine ah_ofX (cc := cX8_about) (maxL := 2) (ret := (some .int)) (by decide) rfl (Nat.le_of_ble_eq_true rfl) ?_
  intro p e s m below meth cd9 ls hx hb hr hml hown hlocks hname hts htb hX hE hR hS hl
  have hown : s.vm.findClass RX8 = some m.cls := hown
  have hl : lv_has ls 2 [(0, .ref x), (1, .int (nI 0))] := hl
  have k10 := hts (.fieldLink RX8 10 "TextParts" "text" "LTextParts$Text;") (by decide +kernel)
  have hinX8 : ∀ w ∈ wsX80, w ∈ wsX8_about := by decide +kernel
  have k69 := hts (.fieldLink RX8 69 "TextParts$Text" "sevens" "I") (by decide +kernel)
  have hinX7 : ∀ w ∈ wsX70, w ∈ wsX8_about := by decide +kernel
  obtain ⟨t, ua, m0, ra, ah, ab, ib, hp, rd, ru, rr, rb, fx, ft, fu, hn, hf, fm, fa, hpm, hrows, hsome, fh, fb, hzh, hgh, hrf, hbox⟩ := htp
  have hss := sumS_le f 0 n; have hos := outs_le f n
  refine lv_iload_n hx hb dX8_about_0 rfl (lv_at hl 1 rfl) ?_
  refine lv_tableIn (off := 47) (tgt := 48) hx hb dX8_about_1 (by decide) (by decide) rfl (by decide) ?_
  refine lv_aload_n hx hb dX8_about_48 rfl (lv_at hl 0 rfl) ?_
  refine ah_get (ci := 7) (v := .ref t) (C := RX8) (T := TX8) (N := 5) hx hb hE hR hts hinX8 hown fx rfl 0 (by decide) k10 (fun _ h9 => h9) rfl dX8_about_49 ?_
  refine ah_calli (va_runV (As := []) (rest := []) ⟨hx, hb, hml, hown, hts⟩ (c_Text_inAlphabet l G h t ua 2 3 n (sumS f 0 n) (outs f n) f ft fu (by decide) hn (by omega) (by omega) hf) (cwV 0 hts gX8_about_X7_inAlphabet rfl rfl rfl (by decide +kernel) ⟨Nat.le_of_ble_eq_true rfl, Nat.le_of_ble_eq_true rfl⟩) (ah_preV hE hR hS ft rfl) rfl rfl hl.1 rfl (lv_room (Nat.le_of_ble_eq_true rfl)) dX8_about_52 ⟨Nat.le_of_ble_eq_true rfl, Nat.le_of_ble_eq_true rfl⟩) hS (fun r_3 h_1 H locs p_2 hR hS => ?_)
  obtain ⟨e_4, e_5⟩ := p_2
  rw [e_5] at hR
  refine ah_toi e_4 ?_
  have h01 : (if outs f n = 0 then 1 else 0) < 2 ^ 31 := if10
  refine lv_if_eq (tgt := 68) hx hb dX8_about_55 (by decide) (fun c_6 => ?_) (fun c_6 => ?_)
  · skip
    have c_6 : (if outs f n = 0 then 1 else 0) = 0 := (zi_eq (by omega)).mp c_6
    refine lv_iconst (v := (-1)) hx hb dX8_about_68 (by decide) ?_
    refine W.widen (k := 1) (n := 6) (by omega) (by omega) ?_
    refine vx_ret ?_
    refine ah_iret (v := (-1)) hx hb hr hlocks hR hS dX8_about_69 ?_
    exact ⟨(if_neg (if10f c_6)).symm, rfl⟩
  · skip
    have c_6 : ¬ ((if outs f n = 0 then 1 else 0) = 0) := fun z9 => c_6 ((zi_eq (by omega)).mpr z9)
    refine lv_aload_n hx hb dX8_about_58 rfl (lv_at hl 0 rfl) ?_
    refine ah_get (ci := 7) (v := .ref t) (C := RX8) (T := TX8) (N := 5) hx hb hE hR hts hinX8 hown fx rfl 0 (by decide) k10 (fun _ h9 => h9) rfl dX8_about_59 ?_
    refine ah_get (ci := 6) (v := .int (nI (sumS f 0 n))) (C := RX7) (T := TX7) (N := 4) hx hb hE hR hts hinX7 hown ft rfl 2 (by decide) k69 (fun _ h9 => h9) rfl dX8_about_62 ?_
    refine lv_goto (tgt := 69) hx hb dX8_about_65 (by decide) ?_
    refine W.widen (k := 1) (n := 6) (by omega) (by omega) ?_
    refine vx_ret ?_
    refine ah_iret (v := nI (sumS f 0 n)) hx hb hr hlocks hR hS dX8_about_69 ?_
    exact ⟨(if_pos (if10t c_6)).symm, rfl⟩

set_option maxHeartbeats 4000000 in
set_option maxRecDepth 100000 in
theorem c_about1 (l : Launch) (hlt : l.stackTraces = false) (G : ah_G) (h : ah_H) (x n pm zh rf c pt : Nat) (f z : Nat → Nat) (g : Nat → Nat → Nat) (gh : Nat → Nat) (D : Nat → hDt) (lat : Option (Nat × (Nat → List Nat))) (htp : tp G h x n f pm z g zh gh rf c pt D lat) : vx_Met l yX8_about wsX8_about ({ frames := 6, cells := 1, slots := 6, locals := 129 }) (ah_Px G [.ref x, .int (nI 1)] h) (ah_Qi G (fun v h' => v = abV n f pm zh rf c lat 1 ∧ h' = h)) (ah_QX G (fun _ _ => False)) 1 6 (ah_A G) := by
  refine ah_ofX (cc := cX8_about) (maxL := 2) (ret := (some .int)) (by decide) rfl (Nat.le_of_ble_eq_true rfl) ?_
  intro p e s m below meth cd9 ls hx hb hr hml hown hlocks hname hts htb hX hE hR hS hl
  have hown : s.vm.findClass RX8 = some m.cls := hown
  have hl : lv_has ls 2 [(0, .ref x), (1, .int (nI 1))] := hl
  have k10 := hts (.fieldLink RX8 10 "TextParts" "text" "LTextParts$Text;") (by decide +kernel)
  have hinX8 : ∀ w ∈ wsX80, w ∈ wsX8_about := by decide +kernel
  obtain ⟨t, ua, m0, ra, ah, ab, ib, hp, rd, ru, rr, rb, fx, ft, fu, hn, hf, fm, fa, hpm, hrows, hsome, fh, fb, hzh, hgh, hrf, hbox⟩ := htp
  have hss := sumS_le f 0 n; have hos := outs_le f n
  refine lv_iload_n hx hb dX8_about_0 rfl (lv_at hl 1 rfl) ?_
  refine lv_tableIn (off := 69) (tgt := 70) hx hb dX8_about_1 (by decide) (by decide) rfl (by decide) ?_
  refine lv_aload_n hx hb dX8_about_70 rfl (lv_at hl 0 rfl) ?_
  refine ah_get (ci := 7) (v := .ref t) (C := RX8) (T := TX8) (N := 5) hx hb hE hR hts hinX8 hown fx rfl 0 (by decide) k10 (fun _ h9 => h9) rfl dX8_about_71 ?_
  refine ah_calli (va_runV (As := []) (rest := []) ⟨hx, hb, hml, hown, hts⟩ (c_Text_partCount l G h t ua 2 3 n (sumS f 0 n) (outs f n) f ft fu (by decide) hn (by omega) (by omega) hf) (cwV 0 hts gX8_about_X7_partCount rfl rfl rfl (by decide +kernel) ⟨Nat.le_of_ble_eq_true rfl, Nat.le_of_ble_eq_true rfl⟩) (ah_preV hE hR hS ft rfl) rfl rfl hl.1 rfl (lv_room (Nat.le_of_ble_eq_true rfl)) dX8_about_74 ⟨Nat.le_of_ble_eq_true rfl, Nat.le_of_ble_eq_true rfl⟩) hS (fun r_3 h_1 H locs p_2 hR hS => ?_)
  obtain ⟨e_4, e_5⟩ := p_2
  rw [e_5] at hR
  refine ah_toi e_4 ?_
  refine W.widen (k := 1) (n := 6) (by omega) (by omega) ?_
  refine vx_ret ?_
  refine ah_iret (v := nI (tParts f n (sumS f 0 n) (outs f n))) hx hb hr hlocks hR hS dX8_about_77 ?_
  exact ⟨rfl, rfl⟩

set_option maxHeartbeats 4000000 in
set_option maxRecDepth 100000 in
theorem c_about2 (l : Launch) (hlt : l.stackTraces = false) (G : ah_G) (h : ah_H) (x n pm zh rf c pt : Nat) (f z : Nat → Nat) (g : Nat → Nat → Nat) (gh : Nat → Nat) (D : Nat → hDt) (lat : Option (Nat × (Nat → List Nat))) (htp : tp G h x n f pm z g zh gh rf c pt D lat) : vx_Met l yX8_about wsX8_about ({ frames := 6, cells := 1, slots := 6, locals := 129 }) (ah_Px G [.ref x, .int (nI 2)] h) (ah_Qi G (fun v h' => v = abV n f pm zh rf c lat 2 ∧ h' = h)) (ah_QX G (fun _ _ => False)) 1 6 (ah_A G) := by
  refine ah_ofX (cc := cX8_about) (maxL := 2) (ret := (some .int)) (by decide) rfl (Nat.le_of_ble_eq_true rfl) ?_
  intro p e s m below meth cd9 ls hx hb hr hml hown hlocks hname hts htb hX hE hR hS hl
  have hown : s.vm.findClass RX8 = some m.cls := hown
  have hl : lv_has ls 2 [(0, .ref x), (1, .int (nI 2))] := hl
  have k10 := hts (.fieldLink RX8 10 "TextParts" "text" "LTextParts$Text;") (by decide +kernel)
  have hinX8 : ∀ w ∈ wsX80, w ∈ wsX8_about := by decide +kernel
  have k51 := hts (.fieldLink RX8 51 "TextParts$Text" "count" "I") (by decide +kernel)
  have hinX7 : ∀ w ∈ wsX70, w ∈ wsX8_about := by decide +kernel
  obtain ⟨t, ua, m0, ra, ah, ab, ib, hp, rd, ru, rr, rb, fx, ft, fu, hn, hf, fm, fa, hpm, hrows, hsome, fh, fb, hzh, hgh, hrf, hbox⟩ := htp
  have hss := sumS_le f 0 n; have hos := outs_le f n
  refine lv_iload_n hx hb dX8_about_0 rfl (lv_at hl 1 rfl) ?_
  refine lv_tableIn (off := 77) (tgt := 78) hx hb dX8_about_1 (by decide) (by decide) rfl (by decide) ?_
  refine lv_aload_n hx hb dX8_about_78 rfl (lv_at hl 0 rfl) ?_
  refine ah_get (ci := 7) (v := .ref t) (C := RX8) (T := TX8) (N := 5) hx hb hE hR hts hinX8 hown fx rfl 0 (by decide) k10 (fun _ h9 => h9) rfl dX8_about_79 ?_
  refine ah_get (ci := 6) (v := .int (nI n)) (C := RX7) (T := TX7) (N := 4) hx hb hE hR hts hinX7 hown ft rfl 1 (by decide) k51 (fun _ h9 => h9) rfl dX8_about_82 ?_
  refine W.widen (k := 1) (n := 6) (by omega) (by omega) ?_
  refine vx_ret ?_
  refine ah_iret (v := nI n) hx hb hr hlocks hR hS dX8_about_85 ?_
  exact ⟨rfl, rfl⟩

set_option maxHeartbeats 4000000 in
set_option maxRecDepth 100000 in
theorem c_about3 (l : Launch) (hlt : l.stackTraces = false) (G : ah_G) (h : ah_H) (x n pm zh rf c pt : Nat) (f z : Nat → Nat) (g : Nat → Nat → Nat) (gh : Nat → Nat) (D : Nat → hDt) (lat : Option (Nat × (Nat → List Nat))) (htp : tp G h x n f pm z g zh gh rf c pt D lat) : vx_Met l yX8_about wsX8_about ({ frames := 6, cells := 1, slots := 6, locals := 129 }) (ah_Px G [.ref x, .int (nI 3)] h) (ah_Qi G (fun v h' => v = abV n f pm zh rf c lat 3 ∧ h' = h)) (ah_QX G (fun _ _ => False)) 1 6 (ah_A G) := by
  refine ah_ofX (cc := cX8_about) (maxL := 2) (ret := (some .int)) (by decide) rfl (Nat.le_of_ble_eq_true rfl) ?_
  intro p e s m below meth cd9 ls hx hb hr hml hown hlocks hname hts htb hX hE hR hS hl
  have hown : s.vm.findClass RX8 = some m.cls := hown
  have hl : lv_has ls 2 [(0, .ref x), (1, .int (nI 3))] := hl
  have k39 := hts (.fieldLink RX8 39 "TextParts" "nextReference" "I") (by decide +kernel)
  have hinX8 : ∀ w ∈ wsX80, w ∈ wsX8_about := by decide +kernel
  obtain ⟨t, ua, m0, ra, ah, ab, ib, hp, rd, ru, rr, rb, fx, ft, fu, hn, hf, fm, fa, hpm, hrows, hsome, fh, fb, hzh, hgh, hrf, hbox⟩ := htp
  have hss := sumS_le f 0 n; have hos := outs_le f n
  refine lv_iload_n hx hb dX8_about_0 rfl (lv_at hl 1 rfl) ?_
  refine lv_tableIn (off := 85) (tgt := 86) hx hb dX8_about_1 (by decide) (by decide) rfl (by decide) ?_
  refine lv_aload_n hx hb dX8_about_86 rfl (lv_at hl 0 rfl) ?_
  refine ah_get (ci := 7) (v := .int (nI rf)) (C := RX8) (T := TX8) (N := 5) hx hb hE hR hts hinX8 hown fx rfl 4 (by decide) k39 (fun _ h9 => h9) rfl dX8_about_87 ?_
  refine W.widen (k := 1) (n := 6) (by omega) (by omega) ?_
  refine vx_ret ?_
  refine ah_iret (v := nI rf) hx hb hr hlocks hR hS dX8_about_90 ?_
  exact ⟨rfl, rfl⟩

set_option maxHeartbeats 4000000 in
set_option maxRecDepth 100000 in
theorem c_about4 (l : Launch) (hlt : l.stackTraces = false) (G : ah_G) (h : ah_H) (x n pm zh rf c pt : Nat) (f z : Nat → Nat) (g : Nat → Nat → Nat) (gh : Nat → Nat) (D : Nat → hDt) (lat : Option (Nat × (Nat → List Nat))) (htp : tp G h x n f pm z g zh gh rf c pt D lat) : vx_Met l yX8_about wsX8_about ({ frames := 6, cells := 1, slots := 6, locals := 129 }) (ah_Px G [.ref x, .int (nI 4)] h) (ah_Qi G (fun v h' => v = abV n f pm zh rf c lat 4 ∧ h' = h)) (ah_QX G (fun _ _ => False)) 1 6 (ah_A G) := by
  refine ah_ofX (cc := cX8_about) (maxL := 2) (ret := (some .int)) (by decide) rfl (Nat.le_of_ble_eq_true rfl) ?_
  intro p e s m below meth cd9 ls hx hb hr hml hown hlocks hname hts htb hX hE hR hS hl
  have hown : s.vm.findClass RX8 = some m.cls := hown
  have hl : lv_has ls 2 [(0, .ref x), (1, .int (nI 4))] := hl
  have k19 := hts (.fieldLink RX8 19 "TextParts" "made" "LTextParts$Message;") (by decide +kernel)
  have hinX8 : ∀ w ∈ wsX80, w ∈ wsX8_about := by decide +kernel
  have k76 := hts (.fieldLink RX8 76 "TextParts$Message" "partCount" "I") (by decide +kernel)
  have hinX3 : ∀ w ∈ wsX30, w ∈ wsX8_about := by decide +kernel
  obtain ⟨t, ua, m0, ra, ah, ab, ib, hp, rd, ru, rr, rb, fx, ft, fu, hn, hf, fm, fa, hpm, hrows, hsome, fh, fb, hzh, hgh, hrf, hbox⟩ := htp
  have hss := sumS_le f 0 n; have hos := outs_le f n
  refine lv_iload_n hx hb dX8_about_0 rfl (lv_at hl 1 rfl) ?_
  refine lv_tableIn (off := 90) (tgt := 91) hx hb dX8_about_1 (by decide) (by decide) rfl (by decide) ?_
  refine lv_aload_n hx hb dX8_about_91 rfl (lv_at hl 0 rfl) ?_
  refine ah_get (ci := 7) (v := .ref m0) (C := RX8) (T := TX8) (N := 5) hx hb hE hR hts hinX8 hown fx rfl 1 (by decide) k19 (fun _ h9 => h9) rfl dX8_about_92 ?_
  refine ah_get (ci := 2) (v := .int (nI pm)) (C := RX3) (T := TX3) (N := 2) hx hb hE hR hts hinX3 hown fm rfl 1 (by decide) k76 (fun _ h9 => h9) rfl dX8_about_95 ?_
  refine W.widen (k := 1) (n := 6) (by omega) (by omega) ?_
  refine vx_ret ?_
  refine ah_iret (v := nI pm) hx hb hr hlocks hR hS dX8_about_98 ?_
  exact ⟨rfl, rfl⟩

set_option maxHeartbeats 4000000 in
set_option maxRecDepth 100000 in
theorem c_about5 (l : Launch) (hlt : l.stackTraces = false) (G : ah_G) (h : ah_H) (x n pm zh rf c pt : Nat) (f z : Nat → Nat) (g : Nat → Nat → Nat) (gh : Nat → Nat) (D : Nat → hDt) (lat : Option (Nat × (Nat → List Nat))) (htp : tp G h x n f pm z g zh gh rf c pt D lat) : vx_Met l yX8_about wsX8_about ({ frames := 6, cells := 1, slots := 6, locals := 129 }) (ah_Px G [.ref x, .int (nI 5)] h) (ah_Qi G (fun v h' => v = abV n f pm zh rf c lat 5 ∧ h' = h)) (ah_QX G (fun _ _ => False)) 1 6 (ah_A G) := by
  refine ah_ofX (cc := cX8_about) (maxL := 2) (ret := (some .int)) (by decide) rfl (Nat.le_of_ble_eq_true rfl) ?_
  intro p e s m below meth cd9 ls hx hb hr hml hown hlocks hname hts htb hX hE hR hS hl
  have hown : s.vm.findClass RX8 = some m.cls := hown
  have hl : lv_has ls 2 [(0, .ref x), (1, .int (nI 5))] := hl
  have k35 := hts (.fieldLink RX8 35 "TextParts" "inbox" "LTextParts$Inbox;") (by decide +kernel)
  have hinX8 : ∀ w ∈ wsX80, w ∈ wsX8_about := by decide +kernel
  have k78 := hts (.fieldLink RX8 78 "TextParts$Inbox" "heapCount" "I") (by decide +kernel)
  have hinX2 : ∀ w ∈ wsX20, w ∈ wsX8_about := by decide +kernel
  obtain ⟨t, ua, m0, ra, ah, ab, ib, hp, rd, ru, rr, rb, fx, ft, fu, hn, hf, fm, fa, hpm, hrows, hsome, fh, fb, hzh, hgh, hrf, hbox⟩ := htp
  have hss := sumS_le f 0 n; have hos := outs_le f n
  obtain ⟨lo, hf9, fi, fp, hc9, hok9, hrd9, hlat9⟩ := hbox
  refine lv_iload_n hx hb dX8_about_0 rfl (lv_at hl 1 rfl) ?_
  refine lv_tableIn (off := 98) (tgt := 99) hx hb dX8_about_1 (by decide) (by decide) rfl (by decide) ?_
  refine lv_aload_n hx hb dX8_about_99 rfl (lv_at hl 0 rfl) ?_
  refine ah_get (ci := 7) (v := .ref ib) (C := RX8) (T := TX8) (N := 5) hx hb hE hR hts hinX8 hown fx rfl 3 (by decide) k35 (fun _ h9 => h9) rfl dX8_about_100 ?_
  refine ah_get (ci := 1) (v := .int (nI c)) (C := RX2) (T := TX2) (N := 5) hx hb hE hR hts hinX2 hown fi rfl 2 (by decide) k78 (fun _ h9 => h9) rfl dX8_about_103 ?_
  refine W.widen (k := 1) (n := 6) (by omega) (by omega) ?_
  refine vx_ret ?_
  refine ah_iret (v := nI c) hx hb hr hlocks hR hS dX8_about_106 ?_
  exact ⟨rfl, rfl⟩

set_option maxHeartbeats 4000000 in
set_option maxRecDepth 100000 in
theorem c_about6 (l : Launch) (hlt : l.stackTraces = false) (G : ah_G) (h : ah_H) (x n pm zh rf c pt : Nat) (f z : Nat → Nat) (g : Nat → Nat → Nat) (gh : Nat → Nat) (D : Nat → hDt) (lat : Option (Nat × (Nat → List Nat))) (htp : tp G h x n f pm z g zh gh rf c pt D lat) : vx_Met l yX8_about wsX8_about ({ frames := 6, cells := 1, slots := 6, locals := 129 }) (ah_Px G [.ref x, .int (nI 6)] h) (ah_Qi G (fun v h' => v = abV n f pm zh rf c lat 6 ∧ h' = h)) (ah_QX G (fun _ _ => False)) 1 6 (ah_A G) := by
  refine ah_ofX (cc := cX8_about) (maxL := 2) (ret := (some .int)) (by decide) rfl (Nat.le_of_ble_eq_true rfl) ?_
  intro p e s m below meth cd9 ls hx hb hr hml hown hlocks hname hts htb hX hE hR hS hl
  have hown : s.vm.findClass RX8 = some m.cls := hown
  have hl : lv_has ls 2 [(0, .ref x), (1, .int (nI 6))] := hl
  have k35 := hts (.fieldLink RX8 35 "TextParts" "inbox" "LTextParts$Inbox;") (by decide +kernel)
  have hinX8 : ∀ w ∈ wsX80, w ∈ wsX8_about := by decide +kernel
  obtain ⟨t, ua, m0, ra, ah, ab, ib, hp, rd, ru, rr, rb, fx, ft, fu, hn, hf, fm, fa, hpm, hrows, hsome, fh, fb, hzh, hgh, hrf, hbox⟩ := htp
  have hss := sumS_le f 0 n; have hos := outs_le f n
  obtain ⟨lo, hf9, fi, fp, hc9, hok9, hrd9, hlat9⟩ := hbox
  cases lat with
  | none =>
    have e9 : lo = none := hlat9
    subst e9
    refine lv_iload_n hx hb dX8_about_0 rfl (lv_at hl 1 rfl) ?_
    refine lv_tableIn (off := 106) (tgt := 107) hx hb dX8_about_1 (by decide) (by decide) rfl (by decide) ?_
    refine lv_aload_n hx hb dX8_about_107 rfl (lv_at hl 0 rfl) ?_
    refine ah_get (ci := 7) (v := .ref ib) (C := RX8) (T := TX8) (N := 5) hx hb hE hR hts hinX8 hown fx rfl 3 (by decide) k35 (fun _ h9 => h9) rfl dX8_about_108 ?_
    refine ah_calli (va_runV (As := []) (rest := []) ⟨hx, hb, hml, hown, hts⟩ (c_Ib_latestUnits0 l G h ib hp rd c pt fi) (cwV 0 hts gX8_about_X2_latestUnits rfl rfl rfl (by decide +kernel) ⟨Nat.le_of_ble_eq_true rfl, Nat.le_of_ble_eq_true rfl⟩) (ah_preV hE hR hS fi rfl) rfl rfl hl.1 rfl (lv_room (Nat.le_of_ble_eq_true rfl)) dX8_about_111 ⟨Nat.le_of_ble_eq_true rfl, Nat.le_of_ble_eq_true rfl⟩) hS (fun r_3 h_1 H locs p_2 hR hS => ?_)
    obtain ⟨e_4, e_5⟩ := p_2
    rw [e_5] at hR
    refine ah_toi e_4 ?_
    refine W.widen (k := 1) (n := 6) (by omega) (by omega) ?_
    refine vx_ret ?_
    refine ah_iret (v := nI 0) hx hb hr hlocks hR hS dX8_about_114 ?_
    exact ⟨rfl, rfl⟩
  | some y9 =>
    obtain ⟨la, e9, hl9⟩ := hlat9
    subst e9
    refine lv_iload_n hx hb dX8_about_0 rfl (lv_at hl 1 rfl) ?_
    refine lv_tableIn (off := 106) (tgt := 107) hx hb dX8_about_1 (by decide) (by decide) rfl (by decide) ?_
    refine lv_aload_n hx hb dX8_about_107 rfl (lv_at hl 0 rfl) ?_
    refine ah_get (ci := 7) (v := .ref ib) (C := RX8) (T := TX8) (N := 5) hx hb hE hR hts hinX8 hown fx rfl 3 (by decide) k35 (fun _ h9 => h9) rfl dX8_about_108 ?_
    refine ah_calli (va_runV (As := []) (rest := []) ⟨hx, hb, hml, hown, hts⟩ (c_Ib_latestUnits1 l G h ib hp rd c pt la y9.1 y9.2 fi hl9) (cwV 0 hts gX8_about_X2_latestUnits rfl rfl rfl (by decide +kernel) ⟨Nat.le_of_ble_eq_true rfl, Nat.le_of_ble_eq_true rfl⟩) (ah_preV hE hR hS fi rfl) rfl rfl hl.1 rfl (lv_room (Nat.le_of_ble_eq_true rfl)) dX8_about_111 ⟨Nat.le_of_ble_eq_true rfl, Nat.le_of_ble_eq_true rfl⟩) hS (fun r_8 h_6 H locs p_7 hR hS => ?_)
    obtain ⟨e_9, e_10⟩ := p_7
    rw [e_10] at hR
    refine ah_toi e_9 ?_
    refine W.widen (k := 1) (n := 6) (by omega) (by omega) ?_
    refine vx_ret ?_
    refine ah_iret (v := nI (totU y9.2 y9.1)) hx hb hr hlocks hR hS dX8_about_114 ?_
    exact ⟨rfl, rfl⟩

set_option maxHeartbeats 4000000 in
set_option maxRecDepth 100000 in
theorem c_about7 (l : Launch) (hlt : l.stackTraces = false) (G : ah_G) (h : ah_H) (x n pm zh rf c pt : Nat) (f z : Nat → Nat) (g : Nat → Nat → Nat) (gh : Nat → Nat) (D : Nat → hDt) (lat : Option (Nat × (Nat → List Nat))) (htp : tp G h x n f pm z g zh gh rf c pt D lat) : vx_Met l yX8_about wsX8_about ({ frames := 6, cells := 1, slots := 6, locals := 129 }) (ah_Px G [.ref x, .int (nI 7)] h) (ah_Qi G (fun v h' => v = abV n f pm zh rf c lat 7 ∧ h' = h)) (ah_QX G (fun _ _ => False)) 1 6 (ah_A G) := by
  refine ah_ofX (cc := cX8_about) (maxL := 2) (ret := (some .int)) (by decide) rfl (Nat.le_of_ble_eq_true rfl) ?_
  intro p e s m below meth cd9 ls hx hb hr hml hown hlocks hname hts htb hX hE hR hS hl
  have hown : s.vm.findClass RX8 = some m.cls := hown
  have hl : lv_has ls 2 [(0, .ref x), (1, .int (nI 7))] := hl
  have k28 := hts (.fieldLink RX8 28 "TextParts" "atHand" "LTextParts$Row;") (by decide +kernel)
  have hinX8 : ∀ w ∈ wsX80, w ∈ wsX8_about := by decide +kernel
  have k84 := hts (.fieldLink RX8 84 "TextParts$Row" "size" "I") (by decide +kernel)
  have hinX6 : ∀ w ∈ wsX60, w ∈ wsX8_about := by decide +kernel
  obtain ⟨t, ua, m0, ra, ah, ab, ib, hp, rd, ru, rr, rb, fx, ft, fu, hn, hf, fm, fa, hpm, hrows, hsome, fh, fb, hzh, hgh, hrf, hbox⟩ := htp
  have hss := sumS_le f 0 n; have hos := outs_le f n
  refine lv_iload_n hx hb dX8_about_0 rfl (lv_at hl 1 rfl) ?_
  refine lv_tableIn (off := 114) (tgt := 115) hx hb dX8_about_1 (by decide) (by decide) rfl (by decide) ?_
  refine lv_aload_n hx hb dX8_about_115 rfl (lv_at hl 0 rfl) ?_
  refine ah_get (ci := 7) (v := .ref ah) (C := RX8) (T := TX8) (N := 5) hx hb hE hR hts hinX8 hown fx rfl 2 (by decide) k28 (fun _ h9 => h9) rfl dX8_about_116 ?_
  refine ah_get (ci := 5) (v := .int (nI zh)) (C := RX6) (T := TX6) (N := 2) hx hb hE hR hts hinX6 hown fh rfl 1 (by decide) k84 (fun _ h9 => h9) rfl dX8_about_119 ?_
  refine W.widen (k := 1) (n := 6) (by omega) (by omega) ?_
  refine vx_ret ?_
  refine ah_iret (v := nI zh) hx hb hr hlocks hR hS dX8_about_122 ?_
  exact ⟨rfl, rfl⟩

set_option maxHeartbeats 4000000 in
set_option maxRecDepth 100000 in
theorem c_aboutX (l : Launch) (hlt : l.stackTraces = false) (G : ah_G) (h : ah_H) (x n pm zh rf c pt : Nat) (f z : Nat → Nat) (g : Nat → Nat → Nat) (gh : Nat → Nat) (D : Nat → hDt) (lat : Option (Nat × (Nat → List Nat))) (htp : tp G h x n f pm z g zh gh rf c pt D lat) (u : Int32) (hu : ¬ inR 8 u) : vx_Met l yX8_about wsX8_about ({ frames := 6, cells := 1, slots := 6, locals := 129 }) (ah_Px G [.ref x, .int u] h) (ah_Qi G (fun v h' => False)) (ah_QX G (fun E h' => E = eIA ∧ h' = h)) 1 6 (ah_A G) := by
  refine ah_ofX (cc := cX8_about) (maxL := 2) (ret := (some .int)) (by decide) rfl (Nat.le_of_ble_eq_true rfl) ?_
  intro p e s m below meth cd9 ls hx hb hr hml hown hlocks hname hts htb hX hE hR hS hl
  have hown : s.vm.findClass RX8 = some m.cls := hown
  have hl : lv_has ls 2 [(0, .ref x), (1, .int u)] := hl
  have wclassLink_RX8_44_java_lang_IllegalArgumentException := hts (.classLink RX8 44 "java/lang/IllegalArgumentException") (by decide +kernel)
  have winitialized_java_lang_IllegalArgumentException := hts (.initialized "java/lang/IllegalArgumentException") (by decide +kernel)
  obtain ⟨t, ua, m0, ra, ah, ab, ib, hp, rd, ru, rr, rb, fx, ft, fu, hn, hf, fm, fa, hpm, hrows, hsome, fh, fb, hzh, hgh, hrf, hbox⟩ := htp
  have hss := sumS_le f 0 n; have hos := outs_le f n
  have hu9 : u.toInt < 0 ∨ 7 < u.toInt := out_of hu
  refine lv_iload_n hx hb dX8_about_0 rfl (lv_at hl 1 rfl) ?_
  refine lv_tableOut (tgt := 123) hx hb dX8_about_1 hu9 (by decide) ?_
  exact ah_thr (E := eIA) (tx := "what is 0 .. 7") (ik := 44) (is := 87) (ic := 48) hx hb hlt hown (by decide) wclassLink_RX8_44_java_lang_IllegalArgumentException winitialized_java_lang_IllegalArgumentException hX.2.2.2.2.2.1 (fun w hw => hts w (List.mem_cons_of_mem _ (List.mem_append.mpr (Or.inr hw)))) (by decide +kernel) hX.2.2.1.2.2.2.1 (by decide +kernel) hX hR hS (hl.1.trans hml.symm) dX8_about_123 dX8_about_126 dX8_about_127 dX8_about_129 dX8_about_132 htb (Nat.le_of_ble_eq_true rfl) (Nat.le_of_ble_eq_true rfl) (Nat.le_of_ble_eq_true rfl) (Nat.le_of_ble_eq_true rfl) hlocks (⟨rfl, rfl⟩) (Nat.le_of_ble_eq_true rfl) (Nat.le_of_ble_eq_true rfl)

set_option maxHeartbeats 4000000 in
set_option maxRecDepth 100000 in
theorem c_make (l : Launch) (hlt : l.stackTraces = false) (G : ah_G) (h : ah_H) (x n pm zh rf c pt : Nat) (f z : Nat → Nat) (g : Nat → Nat → Nat) (gh : Nat → Nat) (D : Nat → hDt) (lat : Option (Nat × (Nat → List Nat))) (htp : tp G h x n f pm z g zh gh rf c pt D lat) (P : Nat) (hP : P = tParts f n (sumS f 0 n) (outs f n)) : vx_Met l yX8_make wsX8_make ({ frames := 6, cells := 2 * P + 1, slots := 144 * P + 6, locals := 143 }) (ah_Px G [.ref x] h) (ah_Qi G (fun v h' => P ≠ 0 ∧ v = nI P ∧ ∃ z' g', tp G h' x n f P z' g' zh gh (if 1 < P then (rf + 1) % 256 else rf) c pt D lat ∧ (∀ j, j < P → z' j = pZ f n (outs f n) P j ∧ g' j = pG f n (outs f n) P rf j) ∧ agr (fun t => ¬ cT t) h h')) (ah_QX G (fun E h' => E = eUO ∧ P = 0 ∧ h' = h)) (2 * P + 1) (144 * P + 6) (ah_A G) := by
  refine ah_ofX (cc := cX8_make) (maxL := 2) (ret := (some .int)) (by decide) rfl (Nat.le_of_ble_eq_true rfl) ?_
  intro p e s m below meth cd9 ls hx hb hr hml hown hlocks hname hts htb hX hE hR hS hl
  have hown : s.vm.findClass RX8 = some m.cls := hown
  have hl : lv_has ls 2 [(0, .ref x)] := hl
  have k10 := hts (.fieldLink RX8 10 "TextParts" "text" "LTextParts$Text;") (by decide +kernel)
  have hinX8 : ∀ w ∈ wsX80, w ∈ wsX8_make := by decide +kernel
  have k19 := hts (.fieldLink RX8 19 "TextParts" "made" "LTextParts$Message;") (by decide +kernel)
  have k39 := hts (.fieldLink RX8 39 "TextParts" "nextReference" "I") (by decide +kernel)
  have wclassLink_RX8_89_java_lang_UnsupportedOperationException := hts (.classLink RX8 89 "java/lang/UnsupportedOperationException") (by decide +kernel)
  have winitialized_java_lang_UnsupportedOperationException := hts (.initialized "java/lang/UnsupportedOperationException") (by decide +kernel)
  obtain ⟨t, ua, m0, ra, ah, ab, ib, hp, rd, ru, rr, rb, fx, ft, fu, hn, hf, fm, fa, hpm, hrows, hsome, fh, fb, hzh, hgh, hrf, hbox⟩ := htp
  have hss := sumS_le f 0 n; have hos := outs_le f n
  have hP9 := tParts_le f n (sumS f 0 n) (outs f n)
  rw [← hP] at hP9
  refine lv_aload_n hx hb dX8_make_0 rfl (lv_at hl 0 rfl) ?_
  refine ah_get (ci := 7) (v := .ref t) (C := RX8) (T := TX8) (N := 5) hx hb hE hR hts hinX8 hown fx rfl 0 (by decide) k10 (fun _ h9 => h9) rfl dX8_make_1 ?_
  refine ah_calli (va_runV (As := []) (rest := []) ⟨hx, hb, hml, hown, hts⟩ (c_Text_partCount l G h t ua 2 3 n (sumS f 0 n) (outs f n) f ft fu (by decide) hn (by omega) (by omega) hf) (cwV 0 hts gX8_make_X7_partCount rfl rfl rfl (by decide +kernel) ⟨Nat.le_of_ble_eq_true rfl, Nat.le_of_ble_eq_true rfl⟩) (ah_preV hE hR hS ft rfl) rfl rfl hl.1 rfl (lv_room (Nat.le_of_ble_eq_true rfl)) dX8_make_4 ⟨Nat.le_of_ble_eq_true rfl, Nat.le_of_ble_eq_true rfl⟩) hS (fun r_3 h_1 H locs p_2 hR hS => ?_)
  rw [← hP] at p_2
  obtain ⟨e_4, e_5⟩ := p_2
  rw [e_5] at hR
  refine ah_toi e_4 ?_
  refine lv_istore_n (lv' := [(1, .int (nI P)), (0, .ref x)]) hx hb dX8_make_7 rfl hl (by decide) rfl (fun ls hl => ?_)
  refine lv_iload_n hx hb dX8_make_8 rfl (lv_at hl 0 rfl) ?_
  refine lv_if_ne (tgt := 22) hx hb dX8_make_9 (by decide) (fun c_6 => ?_) (fun c_6 => ?_)
  · skip
    have c_6 : ¬ (P = 0) := fun z9 => c_6 ((zi_eq (by omega)).mpr z9)
    refine lv_aload_n hx hb dX8_make_22 rfl (lv_at hl 1 rfl) ?_
    refine ah_get (ci := 7) (v := .ref m0) (C := RX8) (T := TX8) (N := 5) hx hb hE hR hts hinX8 hown fx rfl 1 (by decide) k19 (fun _ h9 => h9) rfl dX8_make_23 ?_
    refine lv_aload_n hx hb dX8_make_26 rfl (lv_at hl 1 rfl) ?_
    refine ah_get (ci := 7) (v := .ref t) (C := RX8) (T := TX8) (N := 5) hx hb hE hR hts hinX8 hown fx rfl 0 (by decide) k10 (fun _ h9 => h9) rfl dX8_make_27 ?_
    refine lv_iload_n hx hb dX8_make_30 rfl (lv_at hl 0 rfl) ?_
    refine lv_aload_n hx hb dX8_make_31 rfl (lv_at hl 1 rfl) ?_
    refine ah_get (ci := 7) (v := .int (nI rf)) (C := RX8) (T := TX8) (N := 5) hx hb hE hR hts hinX8 hown fx rfl 4 (by decide) k39 (fun _ h9 => h9) rfl dX8_make_32 ?_
    refine ah_callv (va_runV (As := [.ref t, .int (nI P), .int (nI rf)]) (rest := []) ⟨hx, hb, hml, hown, hts⟩ (c_Msg_build l G h m0 ra pm rr fm fa t ua n (sumS f 0 n) (outs f n) f ft fu hn (by omega) (by omega) hf rb z g hrows rfl (outs_0 n) P rf hP c_6 hrf) (cwV 3 hts gX8_make_X3_build rfl rfl rfl (by decide +kernel) ⟨Nat.le_of_ble_eq_true rfl, Nat.le_of_ble_eq_true rfl⟩) (ah_preV hE hR hS fm rfl) rfl rfl hl.1 rfl (lv_room (Nat.le_of_ble_eq_true rfl)) dX8_make_35 ⟨show 0 + 2 * P ≤ 2 * P + 1 by omega, show 0 + 144 * P ≤ 144 * P + 6 by omega⟩) hS (fun h_7 H locs p_8 hR hS => ?_)
    obtain ⟨rr9, rb9, z9, g9, hrw9, fm9, fa9, ag9, hz9⟩ := p_8
    have f_10 : h_7 x = some (1, .inr (7, [.ref t, .ref m0, .ref ah, .ref ib, .int (nI rf)])) := ag9 _ _ _ (by omega) fx
    have f_11 : h_7 t = some (2, .inr (6, [.ref ua, .int (nI n), .int (nI (sumS f 0 n)), .int (nI (outs f n))])) := ag9 _ _ _ (by omega) ft
    have f_12 : h_7 ua = some (3, .inl (G.2.2.1 0, 3000, .inl (nA f))) := ag9 _ _ _ (by omega) fu
    have f_13 : h_7 ah = some (6, .inr (5, [.ref ab, .int (nI zh)])) := ag9 _ _ _ (by omega) fh
    have f_14 : h_7 ab = some (7, .inl (G.2.2.1 0, 200, .inl (nA gh))) := ag9 _ _ _ (by omega) fb
    have hbx9 := hbox.frame (ag9.weak (fun t q => by unfold boxT at q; omega))
    refine lv_iload_n hx hb dX8_make_38 rfl (lv_at hl 0 rfl) ?_
    refine lv_iconst (v := nI 1) hx hb dX8_make_39 (by decide) ?_
    refine lv_icmp_le (tgt := 57) hx hb dX8_make_40 (by decide) (fun c_15 => ?_) (fun c_15 => ?_)
    · skip
      have c_15 : P ≤ 1 := (nI_leI (by omega) (by omega)).mp c_15
      refine lv_iload_n hx hb dX8_make_57 rfl (lv_at hl 0 rfl) ?_
      refine W.widen (k := 2 * P + 1) (n := 144 * P + 6) (by omega) (by omega) ?_
      refine vx_ret ?_
      refine ah_iret (v := nI P) hx hb hr hlocks hR hS dX8_make_58 ?_
      refine ⟨c_6, rfl, z9, g9, ?_, fun j hj => (hz9 j hj).2, ag9.weak (fun t q => by unfold cT at q; omega)⟩
      rw [if_neg (show ¬ 1 < P by omega)]
      exact ⟨t, ua, m0, ra, ah, ab, ib, hp, rd, ru, rr9, rb9, f_10, f_11, f_12, hn, hf, fm9, fa9, hP9, hrw9, (fun j hj => (hz9 j hj).1), f_13, f_14, hzh, hgh, hrf, hbx9⟩
    · skip
      have c_15 : ¬ (P ≤ 1) := fun z9 => c_15 ((nI_leI (by omega) (by omega)).mpr z9)
      refine lv_aload_n hx hb dX8_make_43 rfl (lv_at hl 1 rfl) ?_
      refine lv_aload_n hx hb dX8_make_44 rfl (lv_at hl 1 rfl) ?_
      refine ah_get (ci := 7) (v := .int (nI rf)) (C := RX8) (T := TX8) (N := 5) hx hb hE hR hts hinX8 hown f_10 rfl 4 (by decide) k39 (fun _ h9 => h9) rfl dX8_make_45 ?_
      refine lv_iconst (v := nI 1) hx hb dX8_make_48 (by decide) ?_
      refine lv_iadd hx hb dX8_make_49 ?_
      refine ah_toi (v := nI (rf + 1)) (nI_add _ _) ?_
      refine lv_sipush (v := nI 256) hx hb dX8_make_50 (by decide) ?_
      refine lv_irem hx hb dX8_make_53 (by decide) ?_
      refine ah_toi (v := nI ((rf + 1) % 256)) (pk_rem (by omega) (by omega) (by omega)) ?_
      refine ah_put (ci := 7) (v := .int (nI ((rf + 1) % 256))) (ty := .int) (C := RX8) (T := TX8) (N := 5) hx hb hE hR hS hts hinX8 tyX8 tyX8_ok nmX8 hown f_10 rfl 4 (by decide) k39 (fun _ h9 => h9) rfl (by decide +kernel) rfl rfl (Nat.le_of_ble_eq_true rfl) dX8_make_54 (fun H locs hR hS => ?_)
      obtain ⟨h_16, e_17⟩ : ∃ zz9, zz9 = ah_up h_7 x (1, .inr (7, [.ref t, .ref m0, .ref ah, .ref ib, .int (nI ((rf + 1) % 256))])) := ⟨_, rfl⟩
      have hR : ah_R G h_16 H := by rw [e_17]; exact hR
      have f_18 : h_16 x = some (1, .inr (7, [.ref t, .ref m0, .ref ah, .ref ib, .int (nI ((rf + 1) % 256))])) := by rw [e_17]; exact ah_up_s _ _ _
      have f_19 : h_16 t = some (2, .inr (6, [.ref ua, .int (nI n), .int (nI (sumS f 0 n)), .int (nI (outs f n))])) := by rw [e_17]; exact ah_keep f_11 f_10 (by omega)
      have f_20 : h_16 ua = some (3, .inl (G.2.2.1 0, 3000, .inl (nA f))) := by rw [e_17]; exact ah_keep f_12 f_10 (by omega)
      have f_21 : h_16 m0 = some (4, .inr (2, [.ref ra, .int (nI P)])) := by rw [e_17]; exact ah_keep fm9 f_10 (by omega)
      have f_22 : h_16 ra = some (5, .inl (G.2.2.1 3, 255, .inr (.inr (.inr (.inr rr9))))) := by rw [e_17]; exact ah_keep fa9 f_10 (by omega)
      have f_23 : h_16 ah = some (6, .inr (5, [.ref ab, .int (nI zh)])) := by rw [e_17]; exact ah_keep f_13 f_10 (by omega)
      have f_24 : h_16 ab = some (7, .inl (G.2.2.1 0, 200, .inl (nA gh))) := by rw [e_17]; exact ah_keep f_14 f_10 (by omega)
      have ag8 : agr (fun t => t ≠ 1) h_7 h_16 := by rw [e_17]; exact agr.rf.up f_10 (by omega)
      refine lv_iload_n hx hb dX8_make_57 rfl (lv_at hl 0 rfl) ?_
      refine W.widen (k := 2 * P + 1) (n := 144 * P + 6) (by omega) (by omega) ?_
      refine vx_ret ?_
      refine ah_iret (v := nI P) hx hb hr hlocks hR hS dX8_make_58 ?_
      refine ⟨c_6, rfl, z9, g9, ?_, fun j hj => (hz9 j hj).2, (ag9.weak (fun t q => by unfold cT at q; omega)).tr (ag8.weak (fun t q => by unfold cT at q; omega))⟩
      rw [if_pos (show 1 < P by omega)]
      exact ⟨t, ua, m0, ra, ah, ab, ib, hp, rd, ru, rr9, rb9, f_18, f_19, f_20, hn, hf, f_21, f_22, hP9, (hrw9.frame (ag8.weak (fun t q => by omega))), (fun j hj => (hz9 j hj).1), f_23, f_24, hzh, hgh, (by omega), (hbx9.frame (ag8.weak (fun t q => by unfold boxT at q; omega)))⟩
  · skip
    have c_6 : P = 0 := (zi_eq (by omega)).mp c_6
    exact ah_thr (E := eUO) (tx := "more than 255 parts") (ik := 89) (is := 91) (ic := 93) hx hb hlt hown (by decide) wclassLink_RX8_89_java_lang_UnsupportedOperationException winitialized_java_lang_UnsupportedOperationException hX.2.2.2.2.2.2.1 (fun w hw => hts w (List.mem_cons_of_mem _ (List.mem_append.mpr (Or.inr hw)))) (by decide +kernel) hX.2.2.1.2.2.2.2.2 (by decide +kernel) hX hR hS (hl.1.trans hml.symm) dX8_make_12 dX8_make_15 dX8_make_16 dX8_make_18 dX8_make_21 htb (Nat.le_of_ble_eq_true rfl) (Nat.le_of_ble_eq_true rfl) (Nat.le_of_ble_eq_true rfl) (Nat.le_of_ble_eq_true rfl) hlocks (⟨rfl, c_6, rfl⟩) (Nat.le_of_ble_eq_true rfl) (Nat.le_of_ble_eq_true rfl)
