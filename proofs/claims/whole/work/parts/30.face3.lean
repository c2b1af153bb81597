/-! ===== TextParts: feed, the constructor ===== -/
def byteW (w : Int64) (k : Nat) : Nat := w.toBitVec.toNat / 2 ^ (8 * k) % 256
theorem bw_bits (x : BitVec 64) (j i : Nat) (hi : i < 32) (y : BitVec 32) (hy : i < 8 → y.getLsbD i = x.getLsbD (j + i)) : (y &&& BitVec.ofNat 32 255).getLsbD i = (BitVec.ofNat 32 ((x.toNat >>> j) % 2 ^ 8)).getLsbD i := by
  rw [BitVec.getLsbD_and, BitVec.getLsbD_ofNat, BitVec.getLsbD_ofNat, Nat.testBit_mod_two_pow, Nat.testBit_shiftRight, show (255 : Nat) = 2 ^ 8 - 1 from rfl, Nat.testBit_two_pow_sub_one]
  by_cases h8 : i < 8
  · rw [hy h8]; simp [hi, h8, BitVec.getLsbD]
  · simp [h8]
theorem bwU (w : Int64) : ∀ k, k < 8 → ((w.toUInt64 >>> ((nI (8 * k)).toInt64.toUInt64 &&& Int64.toUInt64 63)).toInt64).toInt32 &&& nI 255 = nI (byteW w k) := by
  intro k hk
  have hs : (nI (8 * k)).toInt64.toUInt64 &&& Int64.toUInt64 63 = UInt64.ofNat (8 * k) := by
    revert k; decide +kernel
  rw [hs]
  apply Int32.toBitVec_inj.1
  apply BitVec.eq_of_getLsbD_eq
  intro i hi
  unfold byteW
  rw [← Nat.shiftRight_eq_div_pow]
  refine bw_bits w.toBitVec (8 * k) i hi ((w.toBitVec >>> (BitVec.ofNat 64 (8 * k) % 64)).signExtend 32) (fun h8 => ?_)
  rw [BitVec.getLsbD_signExtend, if_pos (by omega), BitVec.ushiftRight_eq', BitVec.getLsbD_ushiftRight]
  have e : (BitVec.ofNat 64 (8 * k) % 64).toNat = 8 * k := by
    rw [BitVec.toNat_umod, BitVec.toNat_ofNat]; show 8 * k % 2 ^ 64 % 64 = 8 * k; omega
  rw [e]; simp [hi]
theorem bwS (w : Int64) : ∀ k, k < 8 → (w >>> ((nI (8 * k)).toInt64 &&& 63)).toInt32 &&& nI 255 = nI (byteW w k) := by
  intro k hk
  have hs : ((nI (8 * k)).toInt64 &&& 63) = Int64.ofNat (8 * k) := by
    revert k; decide +kernel
  rw [hs]
  apply Int32.toBitVec_inj.1
  apply BitVec.eq_of_getLsbD_eq
  intro i hi
  unfold byteW
  rw [← Nat.shiftRight_eq_div_pow]
  refine bw_bits w.toBitVec (8 * k) i hi ((BitVec.sshiftRight' w.toBitVec ((Int64.ofNat (8 * k)).toBitVec.smod 64)).signExtend 32) (fun h8 => ?_)
  rw [BitVec.getLsbD_signExtend, if_pos (by omega)]
  have e : ((Int64.ofNat (8 * k)).toBitVec.smod 64).toNat = 8 * k := by
    revert k; decide +kernel
  unfold BitVec.sshiftRight'
  rw [e, BitVec.getLsbD_sshiftRight, if_pos (by omega)]
  simp [hi]; omega

/-- the bytes of a word, laid behind those at hand -/
def fdG (gh : Nat → Nat) (zh : Nat) (w : Int64) : Nat → (Nat → Nat)
  | 0 => gh
  | k + 1 => gU (fdG gh zh w k) (zh + k) (byteW w k)
theorem byteW_lt (w : Int64) (k : Nat) : byteW w k < 256 := Nat.mod_lt _ (by decide)
theorem fdG_lt {gh : Nat → Nat} {zh : Nat} {w : Int64} (h : ∀ j, gh j < 256) : ∀ k j, fdG gh zh w k j < 256
  | 0, j => h j
  | k + 1, j => by
    unfold fdG gU; split
    · exact byteW_lt w k
    · exact fdG_lt h k j
theorem ah_up3x {h : ah_H} {a b : Nat} {x1 x2 y1 y2 : Nat × va_E} (hab : a ≠ b) : ah_up (ah_up (ah_up (ah_up h a x1) b y1) a x2) b y2 = ah_up (ah_up h a x2) b y2 := by
  funext q
  by_cases h1 : q = b
  · subst h1; rw [ah_up_s, ah_up_s]
  · rw [ah_up_n h1, ah_up_n h1]
    by_cases h2 : q = a
    · subst h2; rw [ah_up_s, ah_up_s]
    · rw [ah_up_n h2, ah_up_n h1, ah_up_n h2, ah_up_n h2]

set_option maxHeartbeats 4000000 in
set_option maxRecDepth 100000 in
theorem c_feed (l : Launch) (hlt : l.stackTraces = false) (G : ah_G) (h : ah_H) (x n pm zh rf c pt : Nat) (f z : Nat → Nat) (g : Nat → Nat → Nat) (gh : Nat → Nat) (D : Nat → hDt) (lat : Option (Nat × (Nat → List Nat))) (htp : tp G h x n f pm z g zh gh rf c pt D lat) (wv : Int64) (u : Int32) : vx_Met l yX8_feed wsX8_feed ({ frames := 6, cells := 1, slots := 6, locals := 100 }) (ah_Px G [.ref x, .long wv, .int u] h) (ah_Qi G (fun v h' => ∃ k, k < 9 ∧ u = nI k ∧ zh + k ≤ 200 ∧ v = nI (zh + k) ∧ tp G h' x n f pm z g (zh + k) (fdG gh zh wv k) rf c pt D lat ∧ agr (fun t => ¬ cT t) h h')) (ah_QX G (fun E h' => ((E = eIA ∧ ¬ inR 9 u) ∨ (E = eIS ∧ ∃ k, k < 9 ∧ u = nI k ∧ 200 < zh + k)) ∧ h' = h)) 1 6 (ah_A G) := by
  refine ah_ofX (cc := cX8_feed) (maxL := 5) (ret := (some .int)) (by decide) rfl (Nat.le_of_ble_eq_true rfl) ?_
  intro p e s m below meth cd9 ls hx hb hr hml hown hlocks hname hts htb hX hE hR hS hl
  have hown : s.vm.findClass RX8 = some m.cls := hown
  have hl : lv_has ls 5 [(0, .ref x), (1, .long wv), (3, .int u)] := hl
  have wclassLink_RX8_44_java_lang_IllegalArgumentException := hts (.classLink RX8 44 "java/lang/IllegalArgumentException") (by decide +kernel)
  have winitialized_java_lang_IllegalArgumentException := hts (.initialized "java/lang/IllegalArgumentException") (by decide +kernel)
  have k28 := hts (.fieldLink RX8 28 "TextParts" "atHand" "LTextParts$Row;") (by decide +kernel)
  have hinX8 : ∀ w ∈ wsX80, w ∈ wsX8_feed := by decide +kernel
  have k84 := hts (.fieldLink RX8 84 "TextParts$Row" "size" "I") (by decide +kernel)
  have hinX6 : ∀ w ∈ wsX60, w ∈ wsX8_feed := by decide +kernel
  have wclassLink_RX8_54_java_lang_IllegalStateException := hts (.classLink RX8 54 "java/lang/IllegalStateException") (by decide +kernel)
  have winitialized_java_lang_IllegalStateException := hts (.initialized "java/lang/IllegalStateException") (by decide +kernel)
  obtain ⟨t, ua, m0, ra, ah, ab, ib, hp, rd, ru, rr, rb, fx, ft, fu, hn, hf, fm, fa, hpm, hrows, hsome, fh, fb, hzh, hgh, hrf, hbox⟩ := htp
  have hss := sumS_le f 0 n; have hos := outs_le f n
  refine lv_iload_n hx hb dX8_feed_0 rfl (lv_at hl 2 rfl) ?_
  refine lv_if_lt (tgt := 10) hx hb dX8_feed_1 (by decide) (fun c_1 => ?_) (fun c_1 => ?_)
  · skip
    exact ah_thr (E := eIA) (tx := "n is 0 .. 8") (ik := 44) (is := 124) (ic := 48) hx hb hlt hown (by decide) wclassLink_RX8_44_java_lang_IllegalArgumentException winitialized_java_lang_IllegalArgumentException hX.2.2.2.2.2.2.2.2.2.2.1 (fun w hw => hts w (List.mem_cons_of_mem _ (List.mem_append.mpr (Or.inl (List.mem_append.mpr (Or.inr hw)))))) (by decide +kernel) hX.2.2.1.2.2.2.1 (by decide +kernel) hX hR hS (hl.1.trans hml.symm) dX8_feed_10 dX8_feed_13 dX8_feed_14 dX8_feed_16 dX8_feed_19 htb (Nat.le_of_ble_eq_true rfl) (Nat.le_of_ble_eq_true rfl) (Nat.le_of_ble_eq_true rfl) (Nat.le_of_ble_eq_true rfl) hlocks (⟨Or.inl ⟨rfl, inR_neg (by decide) c_1⟩, rfl⟩) (Nat.le_of_ble_eq_true rfl) (Nat.le_of_ble_eq_true rfl)
  · skip
    refine lv_iload_n hx hb dX8_feed_4 rfl (lv_at hl 2 rfl) ?_
    refine lv_bipush (v := nI 8) hx hb dX8_feed_5 (by decide) ?_
    refine lv_icmp_le (tgt := 20) hx hb dX8_feed_7 (by decide) (fun c_2 => ?_) (fun c_2 => ?_)
    · skip
      obtain ⟨k, hk, ek⟩ := inR_in (n := 8) (by decide) c_1 c_2
      rw [ek] at hl
      refine lv_aload_n hx hb dX8_feed_20 rfl (lv_at hl 0 rfl) ?_
      refine ah_get (ci := 7) (v := .ref ah) (C := RX8) (T := TX8) (N := 5) hx hb hE hR hts hinX8 hown fx rfl 2 (by decide) k28 (fun _ h9 => h9) rfl dX8_feed_21 ?_
      refine ah_get (ci := 5) (v := .int (nI zh)) (C := RX6) (T := TX6) (N := 2) hx hb hE hR hts hinX6 hown fh rfl 1 (by decide) k84 (fun _ h9 => h9) rfl dX8_feed_24 ?_
      refine lv_iload_n hx hb dX8_feed_27 rfl (lv_at hl 2 rfl) ?_
      refine lv_iadd hx hb dX8_feed_28 ?_
      refine ah_toi (v := nI (zh + k)) (nI_add _ _) ?_
      refine lv_sipush (v := nI 200) hx hb dX8_feed_29 (by decide) ?_
      refine lv_icmp_le (tgt := 45) hx hb dX8_feed_32 (by decide) (fun c_3 => ?_) (fun c_3 => ?_)
      · skip
        have c_3 : (zh + k) ≤ 200 := (nI_leI (by omega) (by omega)).mp c_3
        refine lv_iconst (v := nI 0) hx hb dX8_feed_45 (by decide) ?_
        refine lv_istore (lv' := [(4, .int (nI 0)), (0, .ref x), (1, .long wv), (3, .int (nI k))]) hx hb dX8_feed_46 hl (by decide) rfl (fun ls hl => ?_)
        have fh0 : h ah = some (6, .inr (5, [.ref ab, .int (nI (zh + 0))])) := fh
        have fb0 : h ab = some (7, .inl (G.2.2.1 0, 200, .inl (nA (fdG gh zh wv 0)))) := fb
        have L48 : ∀ (N48 : Nat) (k1 : Nat) (h1 : ah_H) (H : Heap) (locs : List Loc) (ls : Array Slot), k - k1 < N48 → (k1 ≤ k) → (h1 = ah_up (ah_up h ab (7, .inl (G.2.2.1 0, 200, .inl (nA (fdG gh zh wv k1))))) ah (6, .inr (5, [.ref ab, .int (nI (zh + k1))]))) → (h1 x = some (1, .inr (7, [.ref t, .ref m0, .ref ah, .ref ib, .int (nI rf)]))) → (h1 ah = some (6, .inr (5, [.ref ab, .int (nI (zh + k1))]))) → (h1 ab = some (7, .inl (G.2.2.1 0, 200, .inl (nA (fdG gh zh wv k1))))) → ah_R G h1 H → va_S (ah_A G) s.heap H locs → lv_has ls 5 [(4, .int (nI k1)), (0, .ref x), (1, .long wv), (3, .int (nI k))] → W p l e ({ frames := 6, cells := 1, slots := 6, locals := 100 }) s m ([.ref x, .long wv, .int u] : List Value).toArray below meth cd9 H locs 0 0 (vx_MQ below (ah_Qi G (fun v h' => ∃ k, k < 9 ∧ u = nI k ∧ zh + k ≤ 200 ∧ v = nI (zh + k) ∧ tp G h' x n f pm z g (zh + k) (fdG gh zh wv k) rf c pt D lat ∧ agr (fun t => ¬ cT t) h h')) (ah_QX G (fun E h' => ((E = eIA ∧ ¬ inR 9 u) ∨ (E = eIS ∧ ∃ k, k < 9 ∧ u = nI k ∧ 200 < zh + k)) ∧ h' = h)) ([.ref x, .long wv, .int u] : List Value).toArray s 1 6 (ah_A G)) (F0 m 48 ls []) := by
          intro N48
          induction N48 with
          | zero => intro k1 h1 H locs ls hN; exact absurd hN (Nat.not_lt_zero _)
          | succ N48 ih48 =>
            intro k1 h1 H locs ls hN48 hk1 eh1 fx1 fh1 fb1 hR hS hl
            refine lv_iload hx hb dX8_feed_48 (lv_at hl 0 rfl) ?_
            refine lv_iload_n hx hb dX8_feed_50 rfl (lv_at hl 3 rfl) ?_
            refine lv_icmp_ge (tgt := 79) hx hb dX8_feed_51 (by decide) (fun c_4 => ?_) (fun c_4 => ?_)
            · skip
              have c_4 : k ≤ k1 := (nI_leI (by omega) (by omega)).mp c_4
              refine lv_aload_n hx hb dX8_feed_79 rfl (lv_at hl 1 rfl) ?_
              refine ah_get (ci := 7) (v := .ref ah) (C := RX8) (T := TX8) (N := 5) hx hb hE hR hts hinX8 hown fx1 rfl 2 (by decide) k28 (fun _ h9 => h9) rfl dX8_feed_80 ?_
              refine ah_get (ci := 5) (v := .int (nI (zh + k1))) (C := RX6) (T := TX6) (N := 2) hx hb hE hR hts hinX6 hown fh1 rfl 1 (by decide) k84 (fun _ h9 => h9) rfl dX8_feed_83 ?_
              refine W.widen (k := 1) (n := 6) (by omega) (by omega) ?_
              refine vx_ret ?_
              refine ah_iret (v := nI (zh + k1)) hx hb hr hlocks hR hS dX8_feed_86 ?_
              have ekk : k1 = k := by omega
              rw [← ekk] at ek
              have ag9 : agr (fun t => t ≠ 6 ∧ t ≠ 7) h h1 := by rw [eh1]; exact (agr.rf.up fb (by omega)).up (ah_keep fh fb (by omega)) (by omega)
              exact ⟨k1, by omega, ek, by omega, rfl, ⟨t, ua, m0, ra, ah, ab, ib, hp, rd, ru, rr, rb, fx1, (ag9 _ _ _ (by omega) ft), (ag9 _ _ _ (by omega) fu), hn, hf, (ag9 _ _ _ (by omega) fm), (ag9 _ _ _ (by omega) fa), hpm, hrows.frame (ag9.weak (fun t9 q9 => by omega)), hsome, fh1, fb1, (by omega), (fdG_lt hgh k1), hrf, hbox.frame (ag9.weak (fun t9 q9 => by unfold boxT at q9; omega))⟩, ag9.weak (fun t q => by unfold cT at q; omega)⟩
            · skip
              have c_4 : ¬ (k ≤ k1) := fun z9 => c_4 ((nI_leI (by omega) (by omega)).mpr z9)
              refine lv_aload_n hx hb dX8_feed_54 rfl (lv_at hl 1 rfl) ?_
              refine ah_get (ci := 7) (v := .ref ah) (C := RX8) (T := TX8) (N := 5) hx hb hE hR hts hinX8 hown fx1 rfl 2 (by decide) k28 (fun _ h9 => h9) rfl dX8_feed_55 ?_
              refine lv_lload_n hx hb dX8_feed_58 rfl (lv_at hl 2 rfl) ?_
              refine lv_bipush (v := nI 8) hx hb dX8_feed_59 (by decide) ?_
              refine lv_iload hx hb dX8_feed_61 (lv_at hl 0 rfl) ?_
              refine lv_imul hx hb dX8_feed_63 ?_
              refine ah_toi (v := nI (8 * k1)) (pk_mul _ _) ?_
              refine lv_lushr (v := (wv.toUInt64 >>> ((nI (8 * k1)).toInt64.toUInt64 &&& Int64.toUInt64 63)).toInt64) hx hb dX8_feed_64 rfl ?_
              refine lv_l2i (v := ((wv.toUInt64 >>> ((nI (8 * k1)).toInt64.toUInt64 &&& Int64.toUInt64 63)).toInt64).toInt32) hx hb dX8_feed_65 rfl ?_
              refine lv_sipush (v := nI 255) hx hb dX8_feed_66 (by decide) ?_
              refine lv_iand hx hb dX8_feed_69 ?_
              refine ah_toi (v := nI (byteW wv k1)) (bwU wv k1 (by omega)) ?_
              refine ah_callv (va_runV (As := [.int (nI (byteW wv k1))]) (rest := []) ⟨hx, hb, hml, hown, hts⟩ (c_Row_append l G h1 ah ab 6 7 200 (zh + k1) (fdG gh zh wv k1) fh1 fb1 (by decide) (by omega) (by decide) (byteW wv k1) (by omega)) (cwV 1 hts gX8_feed_X6_append rfl rfl rfl (by decide +kernel) ⟨Nat.le_of_ble_eq_true rfl, Nat.le_of_ble_eq_true rfl⟩) (ah_preV hE hR hS fh1 rfl) rfl rfl hl.1 rfl (lv_room (Nat.le_of_ble_eq_true rfl)) dX8_feed_70 ⟨Nat.le_of_ble_eq_true rfl, Nat.le_of_ble_eq_true rfl⟩) hS (fun h_5 H locs p_6 hR hS => ?_)
              have f_8 : h_5 x = some (1, .inr (7, [.ref t, .ref m0, .ref ah, .ref ib, .int (nI rf)])) := by rw [p_6]; exact ah_keep (ah_keep fx1 fb1 (by omega)) (ah_keep fh1 fb1 (by omega)) (by omega)
              have f_9 : h_5 ah = some (6, .inr (5, [.ref ab, .int (nI (zh + k1 + 1))])) := by rw [p_6]; exact ah_up_s _ _ _
              have f_10 : h_5 ab = some (7, .inl (G.2.2.1 0, 200, .inl (nA (gU (fdG gh zh wv k1) (zh + k1) (byteW wv k1))))) := by rw [p_6]; exact ah_keep (ah_up_s _ _ _) (ah_keep fh1 fb1 (by omega)) (by omega)
              refine lv_iinc (v := nI (k1 + 1)) (lv' := [(4, .int (nI (k1 + 1))), (0, .ref x), (1, .long wv), (3, .int (nI k))]) hx hb dX8_feed_73 hl (k := 0) rfl (show nI k1 + Int32.ofInt 1 = nI (k1 + 1) from nI_add _ 1) (by decide) rfl (fun ls hl => ?_)
              refine lv_goto (tgt := 48) hx hb dX8_feed_76 (by decide) ?_
              exact ih48  (k1 + 1) h_5 _ _ ls (by omega) (by omega) (by rw [p_6, eh1, ah_up3x (ah_ne fb fh (by omega))]; rfl) f_8 f_9 f_10 hR hS (lv_sub hl [0, 1, 2, 3] rfl)
        exact L48 ((k - 0) + 1) 0 h _ _ ls (by omega) (by omega) (by rw [ah_up_id fb0, ah_up_id fh0]) fx fh0 fb0 hR hS (lv_sub hl [0, 1, 2, 3] rfl)
      · skip
        have c_3 : ¬ ((zh + k) ≤ 200) := fun z9 => c_3 ((nI_leI (by omega) (by omega)).mpr z9)
        exact ah_thr (E := eIS) (tx := "more than 200 bytes at hand") (ik := 54) (is := 126) (ic := 58) hx hb hlt hown (by decide) wclassLink_RX8_54_java_lang_IllegalStateException winitialized_java_lang_IllegalStateException hX.2.2.2.2.2.2.2.2.2.2.2.1 (fun w hw => hts w (List.mem_cons_of_mem _ (List.mem_append.mpr (Or.inr hw)))) (by decide +kernel) hX.2.2.1.2.2.2.2.1 (by decide +kernel) hX hR hS (hl.1.trans hml.symm) dX8_feed_35 dX8_feed_38 dX8_feed_39 dX8_feed_41 dX8_feed_44 htb (Nat.le_of_ble_eq_true rfl) (Nat.le_of_ble_eq_true rfl) (Nat.le_of_ble_eq_true rfl) (Nat.le_of_ble_eq_true rfl) hlocks (⟨Or.inr ⟨rfl, k, hk, ek, by omega⟩, rfl⟩) (Nat.le_of_ble_eq_true rfl) (Nat.le_of_ble_eq_true rfl)
    · skip
      exact ah_thr (E := eIA) (tx := "n is 0 .. 8") (ik := 44) (is := 124) (ic := 48) hx hb hlt hown (by decide) wclassLink_RX8_44_java_lang_IllegalArgumentException winitialized_java_lang_IllegalArgumentException hX.2.2.2.2.2.2.2.2.2.2.1 (fun w hw => hts w (List.mem_cons_of_mem _ (List.mem_append.mpr (Or.inl (List.mem_append.mpr (Or.inr hw)))))) (by decide +kernel) hX.2.2.1.2.2.2.1 (by decide +kernel) hX hR hS (hl.1.trans hml.symm) dX8_feed_10 dX8_feed_13 dX8_feed_14 dX8_feed_16 dX8_feed_19 htb (Nat.le_of_ble_eq_true rfl) (Nat.le_of_ble_eq_true rfl) (Nat.le_of_ble_eq_true rfl) (Nat.le_of_ble_eq_true rfl) hlocks (⟨Or.inl ⟨rfl, inR_gt (n := 8) (by decide) c_2⟩, rfl⟩) (Nat.le_of_ble_eq_true rfl) (Nat.le_of_ble_eq_true rfl)

set_option maxHeartbeats 4000000 in
set_option maxRecDepth 100000 in
theorem c_init (l : Launch) (G : ah_G) (h : ah_H) (x : Nat) (fx : h x = some (1, .inr (7, [.null, .null, .null, .null, .int (nI 0)]))) : Met l yX8_init wsX8_init ({ frames := 3, cells := 10, slots := 3651, locals := 60 }) (ah_Pc G [.ref x] h) (ah_Qv G (fun h' => ∃ D, tp G h' x 0 (fun _ => 0) 0 (fun _ => 0) (fun _ _ => 0) 0 (fun _ => 0) 0 0 0 D none ∧ agr (fun t => ¬ cT t) h h')) 10 3651 (ah_A G) := by
  refine ah_ofW (cc := cX8_init) (maxL := 1) (ret := none) (by decide) rfl (Nat.le_of_ble_eq_true rfl) ?_
  intro p e s m below meth cd9 ls hx hb hr hml hown hlocks hname hts hE hR hS hl
  have hown : s.vm.findClass RX8 = some m.cls := hown
  have hl : lv_has ls 1 [(0, .ref x)] := hl
  have wmethodLink_RX8_1_objectInit := hts (.methodLink RX8 1 objectInit) (by decide +kernel)
  have winstanceMethod_objectInit := hts (.instanceMethod objectInit) (by decide +kernel)
  have wcode_objectInit_0xb1_1_none := hts (.code objectInit ⟨#[0xb1]⟩ 1 none) (by decide +kernel)
  have hinX7 : ∀ w ∈ wsX70, w ∈ wsX8_init := by decide +kernel
  have wclassLink_RX8_7_RX7 := hts (.classLink RX8 7 RX7) (by decide +kernel)
  have winstantiable_RX7_4 := hts (.instantiable RX7 4) (by decide +kernel)
  have winitialized_RX7 := hts (.initialized RX7) (by decide +kernel)
  have winstanceMethod_yX7_init := hts (.instanceMethod yX7_init) (by decide +kernel)
  have k10 := hts (.fieldLink RX8 10 "TextParts" "text" "LTextParts$Text;") (by decide +kernel)
  have hinX8 : ∀ w ∈ wsX80, w ∈ wsX8_init := by decide +kernel
  have hinX3 : ∀ w ∈ wsX30, w ∈ wsX8_init := by decide +kernel
  have wclassLink_RX8_16_RX3 := hts (.classLink RX8 16 RX3) (by decide +kernel)
  have winstantiable_RX3_2 := hts (.instantiable RX3 2) (by decide +kernel)
  have winitialized_RX3 := hts (.initialized RX3) (by decide +kernel)
  have winstanceMethod_yX3_init := hts (.instanceMethod yX3_init) (by decide +kernel)
  have k19 := hts (.fieldLink RX8 19 "TextParts" "made" "LTextParts$Message;") (by decide +kernel)
  have hinX6 : ∀ w ∈ wsX60, w ∈ wsX8_init := by decide +kernel
  have wclassLink_RX8_23_RX6 := hts (.classLink RX8 23 RX6) (by decide +kernel)
  have winstantiable_RX6_2 := hts (.instantiable RX6 2) (by decide +kernel)
  have winitialized_RX6 := hts (.initialized RX6) (by decide +kernel)
  have wmethodLink_RX8_25_yX6_init := hts (.methodLink RX8 25 yX6_init) (by decide +kernel)
  have winstanceMethod_yX6_init := hts (.instanceMethod yX6_init) (by decide +kernel)
  have k28 := hts (.fieldLink RX8 28 "TextParts" "atHand" "LTextParts$Row;") (by decide +kernel)
  have hinX2 : ∀ w ∈ wsX20, w ∈ wsX8_init := by decide +kernel
  have wclassLink_RX8_32_RX2 := hts (.classLink RX8 32 RX2) (by decide +kernel)
  have winstantiable_RX2_5 := hts (.instantiable RX2 5) (by decide +kernel)
  have winitialized_RX2 := hts (.initialized RX2) (by decide +kernel)
  have winstanceMethod_yX2_init := hts (.instanceMethod yX2_init) (by decide +kernel)
  have k35 := hts (.fieldLink RX8 35 "TextParts" "inbox" "LTextParts$Inbox;") (by decide +kernel)
  have k39 := hts (.fieldLink RX8 39 "TextParts" "nextReference" "I") (by decide +kernel)
  refine lv_aload_n hx hb dX8_init_0 rfl (lv_at hl 0 rfl) ?_
  refine W.objInit hx hb hown wmethodLink_RX8_1_objectInit winstanceMethod_objectInit wcode_objectInit_0xb1_1_none rfl (by rw [hml]; exact hl.1) rfl dX8_init_1 (Nat.le_of_ble_eq_true rfl) (Nat.le_of_ble_eq_true rfl) ?_
  refine W.eq (g2 := F0 m 4 ls []) rfl ?_
  refine lv_aload_n hx hb dX8_init_4 rfl (lv_at hl 0 rfl) ?_
  refine ah_newo (ci := 6) (fs := [.null, .int (nI 0), .int (nI 0), .int (nI 0)]) (C := RX7) (T := TX7) (N := 4) hx hb hE hR hS 2 hts hinX7 tyX7 tyX7_ok hown wclassLink_RX8_7_RX7 winstantiable_RX7_4 winitialized_RX7 rfl (fun j hj => by rcases (show j = 0 ∨ j = 1 ∨ j = 2 ∨ j = 3 by omega) with rfl | rfl | rfl | rfl <;> rfl) (Nat.le_of_ble_eq_true rfl) (Nat.le_of_ble_eq_true rfl) dX8_init_5 (fun q_1 H hq_2 hR hS => ?_)
  obtain ⟨h_3, e_4⟩ : ∃ zz9, zz9 = ah_up h q_1 (2, .inr (6, [.null, .int (nI 0), .int (nI 0), .int (nI 0)])) := ⟨_, rfl⟩
  have hR : ah_R G h_3 H := by rw [e_4]; exact hR
  have f_5 : h_3 x = some (1, .inr (7, [.null, .null, .null, .null, .int (nI 0)])) := by rw [e_4]; exact ah_new fx hq_2
  have f_6 : h_3 q_1 = some (2, .inr (6, [.null, .int (nI 0), .int (nI 0), .int (nI 0)])) := by rw [e_4]; exact ah_up_s _ _ _
  refine lv_dup hx hb dX8_init_8 rfl ?_
  refine ah_callv (va_runIN (As := []) (rest := [.ref q_1, .ref x]) ⟨hx, hb, hml, hown, hts⟩ (c_Text_init l G h_3 q_1 2 3 f_6 (by decide)) ⟨va_cnB 0 hts gX8_init_X7_init_n9 rfl rfl rfl hE.2.2.2.1.1 winitialized_RX7 (by decide +kernel) ⟨Nat.le_of_ble_eq_true rfl, Nat.le_of_ble_eq_true rfl⟩, rfl, winstanceMethod_yX7_init⟩ (ah_preS hE hR hS) rfl rfl hl.1 rfl (lv_room (Nat.le_of_ble_eq_true rfl)) dX8_init_9 ⟨Nat.le_of_ble_eq_true rfl, Nat.le_of_ble_eq_true rfl⟩) hS (fun h_7 H locs p_8 hR hS => ?_)
  obtain ⟨ua, hn_ua, eq_ua⟩ := p_8
  have ne_ua : ua ≠ q_1 := fun q9 => by rw [q9, f_6] at hn_ua; cases hn_ua
  have ag1 : agr (fun t => ¬ cT t) h h_7 := (agr.rf).tr (by rw [eq_ua]; refine agr.upN ?_ hq_2; refine agr.new ?_ hn_ua; rw [e_4]; exact agr.rf.new hq_2)
  have f_10 : h_7 x = some (1, .inr (7, [.null, .null, .null, .null, .int (nI 0)])) := by rw [eq_ua]; exact ah_keep (ah_new f_5 hn_ua) (ah_new f_6 hn_ua) (by omega)
  have f_11 : h_7 q_1 = some (2, .inr (6, [.ref ua, .int (nI 0), .int (nI 0), .int (nI 0)])) := by rw [eq_ua]; exact ah_up_s _ _ _
  have f_12 : h_7 ua = some (3, .inl (G.2.2.1 0, 3000, .inl (nA (fun _ => 0)))) := by rw [eq_ua, ah_up_n ne_ua]; exact ah_up_s _ _ _
  refine ah_putF (ci := 7) (v := .ref q_1) (ty := .object "TextParts$Text") (C := RX8) (T := TX8) (N := 5) hx hb hE hR hS hts hinX8 tyX8 tyX8_ok nmX8 hown f_10 rfl 0 (by decide) k10 (fun _ h9 => h9) rfl hname rfl (by decide +kernel) rfl rfl (Nat.le_of_ble_eq_true rfl) dX8_init_12 (fun H locs hR hS => ?_)
  obtain ⟨h_13, e_14⟩ : ∃ zz9, zz9 = ah_up h_7 x (1, .inr (7, [.ref q_1, .null, .null, .null, .int (nI 0)])) := ⟨_, rfl⟩
  have hR : ah_R G h_13 H := by rw [e_14]; exact hR
  have f_15 : h_13 x = some (1, .inr (7, [.ref q_1, .null, .null, .null, .int (nI 0)])) := by rw [e_14]; exact ah_up_s _ _ _
  have f_16 : h_13 q_1 = some (2, .inr (6, [.ref ua, .int (nI 0), .int (nI 0), .int (nI 0)])) := by rw [e_14]; exact ah_keep f_11 f_10 (by omega)
  have f_17 : h_13 ua = some (3, .inl (G.2.2.1 0, 3000, .inl (nA (fun _ => 0)))) := by rw [e_14]; exact ah_keep f_12 f_10 (by omega)
  have ag2 : agr (fun t => ¬ cT t) h h_13 := (ag1).tr (by rw [e_14]; exact agr.rf.up f_10 (by unfold cT; omega))
  refine lv_aload_n hx hb dX8_init_15 rfl (lv_at hl 0 rfl) ?_
  refine ah_newo (ci := 2) (fs := [.null, .int (nI 0)]) (C := RX3) (T := TX3) (N := 2) hx hb hE hR hS 4 hts hinX3 tyX3 tyX3_ok hown wclassLink_RX8_16_RX3 winstantiable_RX3_2 winitialized_RX3 rfl (fun j hj => by rcases (show j = 0 ∨ j = 1 by omega) with rfl | rfl <;> rfl) (Nat.le_of_ble_eq_true rfl) (Nat.le_of_ble_eq_true rfl) dX8_init_16 (fun q_18 H hq_19 hR hS => ?_)
  obtain ⟨h_20, e_21⟩ : ∃ zz9, zz9 = ah_up h_13 q_18 (4, .inr (2, [.null, .int (nI 0)])) := ⟨_, rfl⟩
  have hR : ah_R G h_20 H := by rw [e_21]; exact hR
  have f_22 : h_20 x = some (1, .inr (7, [.ref q_1, .null, .null, .null, .int (nI 0)])) := by rw [e_21]; exact ah_new f_15 hq_19
  have f_23 : h_20 q_1 = some (2, .inr (6, [.ref ua, .int (nI 0), .int (nI 0), .int (nI 0)])) := by rw [e_21]; exact ah_new f_16 hq_19
  have f_24 : h_20 ua = some (3, .inl (G.2.2.1 0, 3000, .inl (nA (fun _ => 0)))) := by rw [e_21]; exact ah_new f_17 hq_19
  have f_25 : h_20 q_18 = some (4, .inr (2, [.null, .int (nI 0)])) := by rw [e_21]; exact ah_up_s _ _ _
  refine lv_dup hx hb dX8_init_19 rfl ?_
  refine ah_callv (va_runIN (As := []) (rest := [.ref q_18, .ref x]) ⟨hx, hb, hml, hown, hts⟩ (c_Msg_init l G h_20 q_18 f_25) ⟨va_cnB 0 hts gX8_init_X3_init_n18 rfl rfl rfl hE.2.2.2.1.2.1 winitialized_RX3 (by decide +kernel) ⟨Nat.le_of_ble_eq_true rfl, Nat.le_of_ble_eq_true rfl⟩, rfl, winstanceMethod_yX3_init⟩ (ah_preS hE hR hS) rfl rfl hl.1 rfl (lv_room (Nat.le_of_ble_eq_true rfl)) dX8_init_20 ⟨Nat.le_of_ble_eq_true rfl, Nat.le_of_ble_eq_true rfl⟩) hS (fun h_26 H locs p_27 hR hS => ?_)
  obtain ⟨ra, hn_ra, eq_ra⟩ := p_27
  have ne_ra : ra ≠ q_18 := fun q9 => by rw [q9, f_25] at hn_ra; cases hn_ra
  have ag3 : agr (fun t => ¬ cT t) h h_26 := (ag2).tr (by rw [eq_ra]; refine agr.upN ?_ hq_19; refine agr.new ?_ hn_ra; rw [e_21]; exact agr.rf.new hq_19)
  have f_29 : h_26 x = some (1, .inr (7, [.ref q_1, .null, .null, .null, .int (nI 0)])) := by rw [eq_ra]; exact ah_keep (ah_new f_22 hn_ra) (ah_new f_25 hn_ra) (by omega)
  have f_30 : h_26 q_1 = some (2, .inr (6, [.ref ua, .int (nI 0), .int (nI 0), .int (nI 0)])) := by rw [eq_ra]; exact ah_keep (ah_new f_23 hn_ra) (ah_new f_25 hn_ra) (by omega)
  have f_31 : h_26 ua = some (3, .inl (G.2.2.1 0, 3000, .inl (nA (fun _ => 0)))) := by rw [eq_ra]; exact ah_keep (ah_new f_24 hn_ra) (ah_new f_25 hn_ra) (by omega)
  have f_32 : h_26 q_18 = some (4, .inr (2, [.ref ra, .int (nI 0)])) := by rw [eq_ra]; exact ah_up_s _ _ _
  have f_33 : h_26 ra = some (5, .inl (G.2.2.1 3, 255, .inr (.inr (.inr (.inr (fun _ => none)))))) := by rw [eq_ra, ah_up_n ne_ra]; exact ah_up_s _ _ _
  refine ah_putF (ci := 7) (v := .ref q_18) (ty := .object "TextParts$Message") (C := RX8) (T := TX8) (N := 5) hx hb hE hR hS hts hinX8 tyX8 tyX8_ok nmX8 hown f_29 rfl 1 (by decide) k19 (fun _ h9 => h9) rfl hname rfl (by decide +kernel) rfl rfl (Nat.le_of_ble_eq_true rfl) dX8_init_23 (fun H locs hR hS => ?_)
  obtain ⟨h_34, e_35⟩ : ∃ zz9, zz9 = ah_up h_26 x (1, .inr (7, [.ref q_1, .ref q_18, .null, .null, .int (nI 0)])) := ⟨_, rfl⟩
  have hR : ah_R G h_34 H := by rw [e_35]; exact hR
  have f_36 : h_34 x = some (1, .inr (7, [.ref q_1, .ref q_18, .null, .null, .int (nI 0)])) := by rw [e_35]; exact ah_up_s _ _ _
  have f_37 : h_34 q_1 = some (2, .inr (6, [.ref ua, .int (nI 0), .int (nI 0), .int (nI 0)])) := by rw [e_35]; exact ah_keep f_30 f_29 (by omega)
  have f_38 : h_34 ua = some (3, .inl (G.2.2.1 0, 3000, .inl (nA (fun _ => 0)))) := by rw [e_35]; exact ah_keep f_31 f_29 (by omega)
  have f_39 : h_34 q_18 = some (4, .inr (2, [.ref ra, .int (nI 0)])) := by rw [e_35]; exact ah_keep f_32 f_29 (by omega)
  have f_40 : h_34 ra = some (5, .inl (G.2.2.1 3, 255, .inr (.inr (.inr (.inr (fun _ => none)))))) := by rw [e_35]; exact ah_keep f_33 f_29 (by omega)
  have ag4 : agr (fun t => ¬ cT t) h h_34 := (ag3).tr (by rw [e_35]; exact agr.rf.up f_29 (by unfold cT; omega))
  refine lv_aload_n hx hb dX8_init_26 rfl (lv_at hl 0 rfl) ?_
  refine ah_newo (ci := 5) (fs := [.null, .int (nI 0)]) (C := RX6) (T := TX6) (N := 2) hx hb hE hR hS 6 hts hinX6 tyX6 tyX6_ok hown wclassLink_RX8_23_RX6 winstantiable_RX6_2 winitialized_RX6 rfl (fun j hj => by rcases (show j = 0 ∨ j = 1 by omega) with rfl | rfl <;> rfl) (Nat.le_of_ble_eq_true rfl) (Nat.le_of_ble_eq_true rfl) dX8_init_27 (fun q_41 H hq_42 hR hS => ?_)
  obtain ⟨h_43, e_44⟩ : ∃ zz9, zz9 = ah_up h_34 q_41 (6, .inr (5, [.null, .int (nI 0)])) := ⟨_, rfl⟩
  have hR : ah_R G h_43 H := by rw [e_44]; exact hR
  have f_45 : h_43 x = some (1, .inr (7, [.ref q_1, .ref q_18, .null, .null, .int (nI 0)])) := by rw [e_44]; exact ah_new f_36 hq_42
  have f_46 : h_43 q_1 = some (2, .inr (6, [.ref ua, .int (nI 0), .int (nI 0), .int (nI 0)])) := by rw [e_44]; exact ah_new f_37 hq_42
  have f_47 : h_43 ua = some (3, .inl (G.2.2.1 0, 3000, .inl (nA (fun _ => 0)))) := by rw [e_44]; exact ah_new f_38 hq_42
  have f_48 : h_43 q_18 = some (4, .inr (2, [.ref ra, .int (nI 0)])) := by rw [e_44]; exact ah_new f_39 hq_42
  have f_49 : h_43 ra = some (5, .inl (G.2.2.1 3, 255, .inr (.inr (.inr (.inr (fun _ => none)))))) := by rw [e_44]; exact ah_new f_40 hq_42
  have f_50 : h_43 q_41 = some (6, .inr (5, [.null, .int (nI 0)])) := by rw [e_44]; exact ah_up_s _ _ _
  refine lv_dup hx hb dX8_init_30 rfl ?_
  refine lv_sipush (v := nI 200) hx hb dX8_init_31 (by decide) ?_
  refine ah_callv (va_runI (As := [.int (nI 200)]) (rest := [.ref q_41, .ref x]) ⟨hx, hb, hml, hown, hts⟩ (c_Row_init l G h_43 q_41 6 7 200 f_50 (by decide) (by decide)) (cwI 1 hts gX8_init_X6_init rfl rfl rfl winitialized_RX6 wmethodLink_RX8_25_yX6_init winstanceMethod_yX6_init rfl (by decide +kernel) ⟨Nat.le_of_ble_eq_true rfl, Nat.le_of_ble_eq_true rfl⟩) (ah_preS hE hR hS) rfl rfl hl.1 rfl (lv_room (Nat.le_of_ble_eq_true rfl)) dX8_init_34 ⟨Nat.le_of_ble_eq_true rfl, Nat.le_of_ble_eq_true rfl⟩) hS (fun h_51 H locs p_52 hR hS => ?_)
  obtain ⟨ab, hn_ab, eq_ab⟩ := p_52
  have ne_ab : ab ≠ q_41 := fun q9 => by rw [q9, f_50] at hn_ab; cases hn_ab
  have ag5 : agr (fun t => ¬ cT t) h h_51 := (ag4).tr (by rw [eq_ab]; refine agr.upN ?_ hq_42; refine agr.new ?_ hn_ab; rw [e_44]; exact agr.rf.new hq_42)
  have f_54 : h_51 x = some (1, .inr (7, [.ref q_1, .ref q_18, .null, .null, .int (nI 0)])) := by rw [eq_ab]; exact ah_keep (ah_new f_45 hn_ab) (ah_new f_50 hn_ab) (by omega)
  have f_55 : h_51 q_1 = some (2, .inr (6, [.ref ua, .int (nI 0), .int (nI 0), .int (nI 0)])) := by rw [eq_ab]; exact ah_keep (ah_new f_46 hn_ab) (ah_new f_50 hn_ab) (by omega)
  have f_56 : h_51 ua = some (3, .inl (G.2.2.1 0, 3000, .inl (nA (fun _ => 0)))) := by rw [eq_ab]; exact ah_keep (ah_new f_47 hn_ab) (ah_new f_50 hn_ab) (by omega)
  have f_57 : h_51 q_18 = some (4, .inr (2, [.ref ra, .int (nI 0)])) := by rw [eq_ab]; exact ah_keep (ah_new f_48 hn_ab) (ah_new f_50 hn_ab) (by omega)
  have f_58 : h_51 ra = some (5, .inl (G.2.2.1 3, 255, .inr (.inr (.inr (.inr (fun _ => none)))))) := by rw [eq_ab]; exact ah_keep (ah_new f_49 hn_ab) (ah_new f_50 hn_ab) (by omega)
  have f_59 : h_51 q_41 = some (6, .inr (5, [.ref ab, .int (nI 0)])) := by rw [eq_ab]; exact ah_up_s _ _ _
  have f_60 : h_51 ab = some (7, .inl (G.2.2.1 0, 200, .inl (nA (fun _ => 0)))) := by rw [eq_ab, ah_up_n ne_ab]; exact ah_up_s _ _ _
  refine ah_putF (ci := 7) (v := .ref q_41) (ty := .object "TextParts$Row") (C := RX8) (T := TX8) (N := 5) hx hb hE hR hS hts hinX8 tyX8 tyX8_ok nmX8 hown f_54 rfl 2 (by decide) k28 (fun _ h9 => h9) rfl hname rfl (by decide +kernel) rfl rfl (Nat.le_of_ble_eq_true rfl) dX8_init_37 (fun H locs hR hS => ?_)
  obtain ⟨h_61, e_62⟩ : ∃ zz9, zz9 = ah_up h_51 x (1, .inr (7, [.ref q_1, .ref q_18, .ref q_41, .null, .int (nI 0)])) := ⟨_, rfl⟩
  have hR : ah_R G h_61 H := by rw [e_62]; exact hR
  have f_63 : h_61 x = some (1, .inr (7, [.ref q_1, .ref q_18, .ref q_41, .null, .int (nI 0)])) := by rw [e_62]; exact ah_up_s _ _ _
  have f_64 : h_61 q_1 = some (2, .inr (6, [.ref ua, .int (nI 0), .int (nI 0), .int (nI 0)])) := by rw [e_62]; exact ah_keep f_55 f_54 (by omega)
  have f_65 : h_61 ua = some (3, .inl (G.2.2.1 0, 3000, .inl (nA (fun _ => 0)))) := by rw [e_62]; exact ah_keep f_56 f_54 (by omega)
  have f_66 : h_61 q_18 = some (4, .inr (2, [.ref ra, .int (nI 0)])) := by rw [e_62]; exact ah_keep f_57 f_54 (by omega)
  have f_67 : h_61 ra = some (5, .inl (G.2.2.1 3, 255, .inr (.inr (.inr (.inr (fun _ => none)))))) := by rw [e_62]; exact ah_keep f_58 f_54 (by omega)
  have f_68 : h_61 q_41 = some (6, .inr (5, [.ref ab, .int (nI 0)])) := by rw [e_62]; exact ah_keep f_59 f_54 (by omega)
  have f_69 : h_61 ab = some (7, .inl (G.2.2.1 0, 200, .inl (nA (fun _ => 0)))) := by rw [e_62]; exact ah_keep f_60 f_54 (by omega)
  have ag6 : agr (fun t => ¬ cT t) h h_61 := (ag5).tr (by rw [e_62]; exact agr.rf.up f_54 (by unfold cT; omega))
  refine lv_aload_n hx hb dX8_init_40 rfl (lv_at hl 0 rfl) ?_
  refine ah_newo (ci := 1) (fs := [.null, .null, .int (nI 0), .int (nI 0), .null]) (C := RX2) (T := TX2) (N := 5) hx hb hE hR hS 8 hts hinX2 tyX2 tyX2_ok hown wclassLink_RX8_32_RX2 winstantiable_RX2_5 winitialized_RX2 rfl (fun j hj => by rcases (show j = 0 ∨ j = 1 ∨ j = 2 ∨ j = 3 ∨ j = 4 by omega) with rfl | rfl | rfl | rfl | rfl <;> rfl) (Nat.le_of_ble_eq_true rfl) (Nat.le_of_ble_eq_true rfl) dX8_init_41 (fun q_70 H hq_71 hR hS => ?_)
  obtain ⟨h_72, e_73⟩ : ∃ zz9, zz9 = ah_up h_61 q_70 (8, .inr (1, [.null, .null, .int (nI 0), .int (nI 0), .null])) := ⟨_, rfl⟩
  have hR : ah_R G h_72 H := by rw [e_73]; exact hR
  have f_74 : h_72 x = some (1, .inr (7, [.ref q_1, .ref q_18, .ref q_41, .null, .int (nI 0)])) := by rw [e_73]; exact ah_new f_63 hq_71
  have f_75 : h_72 q_1 = some (2, .inr (6, [.ref ua, .int (nI 0), .int (nI 0), .int (nI 0)])) := by rw [e_73]; exact ah_new f_64 hq_71
  have f_76 : h_72 ua = some (3, .inl (G.2.2.1 0, 3000, .inl (nA (fun _ => 0)))) := by rw [e_73]; exact ah_new f_65 hq_71
  have f_77 : h_72 q_18 = some (4, .inr (2, [.ref ra, .int (nI 0)])) := by rw [e_73]; exact ah_new f_66 hq_71
  have f_78 : h_72 ra = some (5, .inl (G.2.2.1 3, 255, .inr (.inr (.inr (.inr (fun _ => none)))))) := by rw [e_73]; exact ah_new f_67 hq_71
  have f_79 : h_72 q_41 = some (6, .inr (5, [.ref ab, .int (nI 0)])) := by rw [e_73]; exact ah_new f_68 hq_71
  have f_80 : h_72 ab = some (7, .inl (G.2.2.1 0, 200, .inl (nA (fun _ => 0)))) := by rw [e_73]; exact ah_new f_69 hq_71
  have f_81 : h_72 q_70 = some (8, .inr (1, [.null, .null, .int (nI 0), .int (nI 0), .null])) := by rw [e_73]; exact ah_up_s _ _ _
  refine lv_dup hx hb dX8_init_44 rfl ?_
  refine ah_callv (va_runIN (As := []) (rest := [.ref q_70, .ref x]) ⟨hx, hb, hml, hown, hts⟩ (c_Ib_init l G h_72 q_70 f_81) ⟨va_cnB 0 hts gX8_init_X2_init_n34 rfl rfl rfl hE.2.2.2.1.2.2.1 winitialized_RX2 (by decide +kernel) ⟨Nat.le_of_ble_eq_true rfl, Nat.le_of_ble_eq_true rfl⟩, rfl, winstanceMethod_yX2_init⟩ (ah_preS hE hR hS) rfl rfl hl.1 rfl (lv_room (Nat.le_of_ble_eq_true rfl)) dX8_init_45 ⟨Nat.le_of_ble_eq_true rfl, Nat.le_of_ble_eq_true rfl⟩) hS (fun h_82 H locs p_83 hR hS => ?_)
  obtain ⟨hp, rd, ru, D9, hbx, agb⟩ := p_83
  have ag7 : agr (fun t => ¬ cT t) h h_82 := ag6.tr (agr.tr (h1 := h_72) (by rw [e_73]; exact agr.rf.new hq_71) (agb.weak (fun t q => by unfold cT at q; omega)))
  have f_85 : h_82 x = some (1, .inr (7, [.ref q_1, .ref q_18, .ref q_41, .null, .int (nI 0)])) := agb _ _ _ (by omega) f_74
  have f_86 : h_82 q_1 = some (2, .inr (6, [.ref ua, .int (nI 0), .int (nI 0), .int (nI 0)])) := agb _ _ _ (by omega) f_75
  have f_87 : h_82 ua = some (3, .inl (G.2.2.1 0, 3000, .inl (nA (fun _ => 0)))) := agb _ _ _ (by omega) f_76
  have f_88 : h_82 q_18 = some (4, .inr (2, [.ref ra, .int (nI 0)])) := agb _ _ _ (by omega) f_77
  have f_89 : h_82 ra = some (5, .inl (G.2.2.1 3, 255, .inr (.inr (.inr (.inr (fun _ => none)))))) := agb _ _ _ (by omega) f_78
  have f_90 : h_82 q_41 = some (6, .inr (5, [.ref ab, .int (nI 0)])) := agb _ _ _ (by omega) f_79
  have f_91 : h_82 ab = some (7, .inl (G.2.2.1 0, 200, .inl (nA (fun _ => 0)))) := agb _ _ _ (by omega) f_80
  obtain ⟨lo9, hf9, fi9, hbx0⟩ := hbx
  have hbx : ibx G h_82 q_70 hp rd ru 0 0 D9 none := ⟨lo9, hf9, fi9, hbx0⟩
  refine ah_putF (ci := 7) (v := .ref q_70) (ty := .object "TextParts$Inbox") (C := RX8) (T := TX8) (N := 5) hx hb hE hR hS hts hinX8 tyX8 tyX8_ok nmX8 hown f_85 rfl 3 (by decide) k35 (fun _ h9 => h9) rfl hname rfl (by decide +kernel) rfl rfl (Nat.le_of_ble_eq_true rfl) dX8_init_48 (fun H locs hR hS => ?_)
  obtain ⟨h_92, e_93⟩ : ∃ zz9, zz9 = ah_up h_82 x (1, .inr (7, [.ref q_1, .ref q_18, .ref q_41, .ref q_70, .int (nI 0)])) := ⟨_, rfl⟩
  have hR : ah_R G h_92 H := by rw [e_93]; exact hR
  have f_94 : h_92 x = some (1, .inr (7, [.ref q_1, .ref q_18, .ref q_41, .ref q_70, .int (nI 0)])) := by rw [e_93]; exact ah_up_s _ _ _
  have f_95 : h_92 q_1 = some (2, .inr (6, [.ref ua, .int (nI 0), .int (nI 0), .int (nI 0)])) := by rw [e_93]; exact ah_keep f_86 f_85 (by omega)
  have f_96 : h_92 ua = some (3, .inl (G.2.2.1 0, 3000, .inl (nA (fun _ => 0)))) := by rw [e_93]; exact ah_keep f_87 f_85 (by omega)
  have f_97 : h_92 q_18 = some (4, .inr (2, [.ref ra, .int (nI 0)])) := by rw [e_93]; exact ah_keep f_88 f_85 (by omega)
  have f_98 : h_92 ra = some (5, .inl (G.2.2.1 3, 255, .inr (.inr (.inr (.inr (fun _ => none)))))) := by rw [e_93]; exact ah_keep f_89 f_85 (by omega)
  have f_99 : h_92 q_41 = some (6, .inr (5, [.ref ab, .int (nI 0)])) := by rw [e_93]; exact ah_keep f_90 f_85 (by omega)
  have f_100 : h_92 ab = some (7, .inl (G.2.2.1 0, 200, .inl (nA (fun _ => 0)))) := by rw [e_93]; exact ah_keep f_91 f_85 (by omega)
  have f_101 : h_92 q_70 = some (8, .inr (1, [.ref rd, .ref hp, .int (nI 0), .int (nI 0), va_rf lo9])) := by rw [e_93]; exact ah_keep fi9 f_85 (by omega)
  have ag8 : agr (fun t => ¬ cT t) h h_92 := (ag7).tr (by rw [e_93]; exact agr.rf.up f_85 (by unfold cT; omega))
  have agx : agr (fun t => t ≠ 1) h_82 h_92 := by rw [e_93]; exact agr.rf.up f_85 (by omega)
  refine lv_aload_n hx hb dX8_init_51 rfl (lv_at hl 0 rfl) ?_
  refine lv_iconst (v := nI 0) hx hb dX8_init_52 (by decide) ?_
  refine ah_put (ci := 7) (v := .int (nI 0)) (ty := .int) (C := RX8) (T := TX8) (N := 5) hx hb hE hR hS hts hinX8 tyX8 tyX8_ok nmX8 hown f_94 rfl 4 (by decide) k39 (fun _ h9 => h9) rfl (by decide +kernel) rfl rfl (Nat.le_of_ble_eq_true rfl) dX8_init_53 (fun H locs hR hS => ?_)
  obtain ⟨h_102, e_103⟩ : ∃ zz9, zz9 = ah_up h_92 x (1, .inr (7, [.ref q_1, .ref q_18, .ref q_41, .ref q_70, .int (nI 0)])) := ⟨_, rfl⟩
  have hR : ah_R G h_102 H := by rw [e_103]; exact hR
  have f_104 : h_102 x = some (1, .inr (7, [.ref q_1, .ref q_18, .ref q_41, .ref q_70, .int (nI 0)])) := by rw [e_103]; exact ah_up_s _ _ _
  have f_105 : h_102 q_1 = some (2, .inr (6, [.ref ua, .int (nI 0), .int (nI 0), .int (nI 0)])) := by rw [e_103]; exact ah_keep f_95 f_94 (by omega)
  have f_106 : h_102 ua = some (3, .inl (G.2.2.1 0, 3000, .inl (nA (fun _ => 0)))) := by rw [e_103]; exact ah_keep f_96 f_94 (by omega)
  have f_107 : h_102 q_18 = some (4, .inr (2, [.ref ra, .int (nI 0)])) := by rw [e_103]; exact ah_keep f_97 f_94 (by omega)
  have f_108 : h_102 ra = some (5, .inl (G.2.2.1 3, 255, .inr (.inr (.inr (.inr (fun _ => none)))))) := by rw [e_103]; exact ah_keep f_98 f_94 (by omega)
  have f_109 : h_102 q_41 = some (6, .inr (5, [.ref ab, .int (nI 0)])) := by rw [e_103]; exact ah_keep f_99 f_94 (by omega)
  have f_110 : h_102 ab = some (7, .inl (G.2.2.1 0, 200, .inl (nA (fun _ => 0)))) := by rw [e_103]; exact ah_keep f_100 f_94 (by omega)
  have f_111 : h_102 q_70 = some (8, .inr (1, [.ref rd, .ref hp, .int (nI 0), .int (nI 0), va_rf lo9])) := by rw [e_103]; exact ah_keep f_101 f_94 (by omega)
  have ag9 : agr (fun t => ¬ cT t) h h_102 := (ag8).tr (by rw [e_103]; exact agr.rf.up f_94 (by unfold cT; omega))
  refine W.widen (k := 10) (n := 3651) (by omega) (by omega) ?_
  have agy : agr (fun t => t ≠ 1) h_82 h_102 := agx.tr (by rw [e_103]; exact agr.rf.up f_94 (by omega))
  refine ah_vret hx hb hr hlocks hR hS dX8_init_56 ?_
  exact ⟨D9, ⟨q_1, ua, q_18, ra, q_41, ab, q_70, hp, rd, ru, (fun _ => none), (fun _ => 0), f_104, f_105, f_106, by decide, fun _ => (show 0 < 65536 by decide), f_107, f_108, by decide, fun _ _ _ q => (nomatch q), fun j hj => absurd hj (Nat.not_lt_zero j), f_109, f_110, by decide, fun _ => (show 0 < 256 by decide), by decide, hbx.frame (agy.weak (fun t q => by unfold boxT at q; omega))⟩, ag9⟩
