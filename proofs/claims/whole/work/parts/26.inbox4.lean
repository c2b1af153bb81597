/-! ===== TextParts$Inbox: accepting a part; the whole box ===== -/
def rdOk (G : ah_G) (h : ah_H) (rd ru : Nat) : Prop := ∃ (hd rfr ps nm bp el : Nat) (uf : Nat → Nat), h rd = some (10, .inr (3, [.int (nI hd), .int (nI rfr), .int (nI ps), .int (nI nm), .int (nI bp), .int (nI el), .ref ru])) ∧ h ru = some (11, .inl (G.2.2.1 0, 160, .inl (nA uf))) ∧ hd ≤ 1 ∧ bp ≤ 1 ∧ el < 256
def lastOk (G : ah_G) (h : ah_H) (lo : Option Nat) (lat : Option (Nat × (Nat → List Nat))) : Prop := match lat with
  | none => lo = none
  | some x => ∃ la, lo = some la ∧ latOk G h la x.1 x.2
theorem lastOk.frame {G : ah_G} {h h' : ah_H} {lo : Option Nat} {lat : Option (Nat × (Nat → List Nat))} (x : lastOk G h lo lat) (y : agr (fun t => t = 810 ∨ t = 811 ∨ t = 900 ∨ t = 901) h h') : lastOk G h' lo lat := by
  cases lat with
  | none => exact x
  | some q => obtain ⟨la, h1, h2⟩ := x; exact ⟨la, h1, h2.frame y⟩
/-- the box: c heaps D, pt puts, the latest text -/
def ibx (G : ah_G) (h : ah_H) (ib hp rd ru c pt : Nat) (D : Nat → hDt) (lat : Option (Nat × (Nat → List Nat))) : Prop :=
  ∃ (lo : Option Nat) (hf : Nat → Option Nat), h ib = some (8, .inr (1, [.ref rd, .ref hp, .int (nI c), .int (nI pt), va_rf lo])) ∧ h hp = some (9, .inl (G.2.2.1 1, 16, .inr (.inr (.inr (.inr hf))))) ∧ c ≤ 16 ∧ ibOk G h c D hf ∧ rdOk G h rd ru ∧ lastOk G h lo lat
abbrev boxT (t : Nat) : Prop := (8 ≤ t ∧ t ≤ 11) ∨ 800 ≤ t
theorem ibx.frame {G : ah_G} {h h' : ah_H} {ib hp rd ru c pt : Nat} {D : Nat → hDt} {lat : Option (Nat × (Nat → List Nat))} (x : ibx G h ib hp rd ru c pt D lat) (y : agr boxT h h') : ibx G h' ib hp rd ru c pt D lat := by
  obtain ⟨lo, hf, h1, h2, h3, h4, ⟨hd, rfr, ps, nm, bp, el, uf, g1, g2, g3⟩, h6⟩ := x
  exact ⟨lo, hf, y _ _ _ (by omega) h1, y _ _ _ (by omega) h2, h3, h4.frame (y.weak (fun t q => by unfold boxT; unfold hTag at q; omega)), ⟨hd, rfr, ps, nm, bp, el, uf, y _ _ _ (by omega) g1, y _ _ _ (by omega) g2, g3⟩, h6.frame (y.weak (fun t q => by unfold boxT; omega))⟩
/-- accepting a part: the bytes g, z of them, of a sender -/
def accR (c pt : Nat) (D : Nat → hDt) (g : Nat → Nat) (z s : Nat) (v : Int32) (c' pt' : Nat) (D' : Nat → hDt) (lt : Option (Nat × (Nat → List Nat))) : Prop :=
  (fault g z ≠ 0 ∧ v = -(nI (fault g z)) ∧ c' = c ∧ pt' = pt ∧ D' = D ∧ lt = none) ∨
  (fault g z = 0 ∧ g 0 % 2 = 0 ∧ v = nI 1 ∧ c' = c ∧ pt' = pt ∧ D' = D ∧ lt = some (1, fun _ => unitsL g z)) ∨
  (fault g z = 0 ∧ g 0 % 2 = 1 ∧ ∃ v9 : Nat, v = nI v9 ∧ keepR c pt D s (g 5) (g 6) (g 7 - 1) (unitsL g z) v9 c' pt' D' lt)
theorem fault_0 {g : Nat → Nat} {z : Nat} (h : fault g z = 0) : 2 ≤ z ∧ (g 0 = 0 ∨ g 0 = 1 ∨ g 0 = 4 ∨ g 0 = 5) ∧ ¬ wszP (g 0 / 4) (g 1) (z - 2) ∧ ¬ (g 0 % 2 ≠ 0 ∧ (g 1 < hlim (g 0 / 4) ∨ hdrBad g)) := by
  unfold fault at h
  by_cases h1 : z < 2
  · rw [if_pos h1] at h; omega
  rw [if_neg h1] at h
  by_cases h2 : ¬ (g 0 = 0 ∨ g 0 = 1 ∨ g 0 = 4 ∨ g 0 = 5)
  · rw [if_pos h2] at h; omega
  rw [if_neg h2] at h
  by_cases h3 : wszP (g 0 / 4) (g 1) (z - 2)
  · rw [if_pos h3] at h; omega
  rw [if_neg h3] at h
  by_cases h4 : g 0 % 2 ≠ 0 ∧ (g 1 < hlim (g 0 / 4) ∨ hdrBad g)
  · rw [if_pos h4] at h; omega
  exact ⟨by omega, Classical.not_not.mp h2, h3, h4⟩
theorem fault_le (g : Nat → Nat) (z : Nat) : fault g z ≤ 6 := by
  unfold fault
  repeat' split
  all_goals omega
theorem neg_0 : ∀ f, f < 7 → f ≠ 0 → ¬ (-(nI f) = 0) := by decide +kernel
theorem fault_sz {g : Nat → Nat} {z : Nat} (h : fault g z = 0) : (g 0 / 4 ≠ 0 → z = 2 + g 1) ∧ g 1 ≤ 160 := by
  obtain ⟨h1, h2, h3, h4⟩ := fault_0 h
  unfold wszP at h3
  by_cases q : g 0 / 4 = 0
  · rw [if_pos q] at h3; exact ⟨fun e => absurd q e, by omega⟩
  · rw [if_neg q] at h3; exact ⟨fun _ => by omega, by omega⟩
theorem unitsL_len {g : Nat → Nat} {z : Nat} (h : g 1 ≤ 160) : (unitsL g z).length ≤ 160 := by
  unfold unitsL; split
  · have := dS_len (sv := svn g z) (el := g 1) (g 1 - 7 * (g 0 % 2)) (7 * (g 0 % 2)); omega
  · have := dP_len (g := g) (el := g 1) (g 1 - 6 * (g 0 % 2)) (6 * (g 0 % 2)); omega

set_option maxHeartbeats 4000000 in
set_option maxRecDepth 100000 in
theorem c_Ib_accept (l : Launch) (G : ah_G) (h : ah_H) (ib hp rd ru c pt : Nat) (D : Nat → hDt) (lat : Option (Nat × (Nat → List Nat))) (hib : ibx G h ib hp rd ru c pt D lat) (hpt : pt < 2 ^ 19) (s9 : Nat) (hs9 : s9 ≤ 999) (r b tr tb n z : Nat) (g : Nat → Nat) (fr : h r = some (tr, .inr (5, [.ref b, .int (nI z)]))) (fb : h b = some (tb, .inl (G.2.2.1 0, n, .inl (nA g)))) (hne : tr ≠ tb) (hz : z ≤ n) (hn : n < 1000) (hg : ∀ j, g j < 256) (hnr : ¬ boxT tr) (hnb : ¬ boxT tb) : Met l yX2_accept wsX2_accept ({ frames := 5, cells := 4, slots := 422, locals := 111 }) (ah_Pc G [.ref ib, .int (nI s9), .ref r] h) (ah_Qi G (fun v h' => ∃ (c' pt' : Nat) (D' : Nat → hDt) (lt : Option (Nat × (Nat → List Nat))), accR c pt D g z s9 v c' pt' D' lt ∧ ibx G h' ib hp rd ru c' pt' D' (lt.or lat) ∧ agr (fun t => ¬ (8 ≤ t ∧ t ≤ 11) ∧ t ≠ 800 ∧ t ≠ 801) h h')) 4 422 (ah_A G) := by
  refine ah_ofW (cc := cX2_accept) (maxL := 5) (ret := (some .int)) (by decide) rfl (Nat.le_of_ble_eq_true rfl) ?_
  intro p e s m below meth cd9 ls hx hb hr hml hown hlocks hname hts hE hR hS hl
  have hown : s.vm.findClass RX2 = some m.cls := hown
  have hl : lv_has ls 5 [(0, .ref ib), (1, .int (nI s9)), (2, .ref r)] := hl
  have k12 := hts (.fieldLink RX2 12 "TextParts$Inbox" "reader" "LTextParts$PartReader;") (by decide +kernel)
  have hinX2 : ∀ w ∈ wsX20, w ∈ wsX2_accept := by decide +kernel
  have k32 := hts (.fieldLink RX2 32 "TextParts$PartReader" "headed" "Z") (by decide +kernel)
  have hinX4 : ∀ w ∈ wsX40, w ∈ wsX2_accept := by decide +kernel
  have hinX1 : ∀ w ∈ wsX10, w ∈ wsX2_accept := by decide +kernel
  have wclassLink_RX2_18_RX1 := hts (.classLink RX2 18 RX1) (by decide +kernel)
  have winstantiable_RX1_6 := hts (.instantiable RX1 6) (by decide +kernel)
  have winitialized_RX1 := hts (.initialized RX1) (by decide +kernel)
  have wmethodLink_RX2_40_yX1_init := hts (.methodLink RX2 40 yX1_init) (by decide +kernel)
  have winstanceMethod_yX1_init := hts (.instanceMethod yX1_init) (by decide +kernel)
  have k43 := hts (.fieldLink RX2 43 "TextParts$Inbox" "latest" "LTextParts$Heap;") (by decide +kernel)
  obtain ⟨lo, hf, fi, fp, hc, hok, ⟨hd, rfr, ps, nm, bp, el, uf, fd, fu, hhd, hbp, hhl⟩, hlat⟩ := hib
  unfold boxT at hnr hnb
  have hfl := fault_le g z
  refine lv_aload_n hx hb dX2_accept_0 rfl (lv_at hl 0 rfl) ?_
  refine ah_get (ci := 1) (v := .ref rd) (C := RX2) (T := TX2) (N := 5) hx hb hE hR hts hinX2 hown fi rfl 0 (by decide) k12 (fun _ h9 => h9) rfl dX2_accept_1 ?_
  refine lv_aload_n hx hb dX2_accept_4 rfl (lv_at hl 2 rfl) ?_
  refine ah_calli (va_runV (As := [.ref r]) (rest := []) ⟨hx, hb, hml, hown, hts⟩ (c_Rd_faultOf l G h rd ru hd rfr ps nm bp el uf fd fu hhd hbp hhl r b tr tb n z g fr fb hne hz hn hg (by omega) (by omega) (by omega) (by omega)) (cwV 1 hts gX2_accept_X4_faultOf rfl rfl rfl (by decide +kernel) ⟨Nat.le_of_ble_eq_true rfl, Nat.le_of_ble_eq_true rfl⟩) (ah_preV hE hR hS fd rfl) rfl rfl hl.1 rfl (lv_room (Nat.le_of_ble_eq_true rfl)) dX2_accept_5 ⟨Nat.le_of_ble_eq_true rfl, Nat.le_of_ble_eq_true rfl⟩) hS (fun r_3 h_1 H locs p_2 hR hS => ?_)
  obtain ⟨ev9, a1, a2, a3, a4, a5, a6, eh9, b1, b5, b6, hfz⟩ := p_2
  have ag9 : agr (fun t => t ≠ 10 ∧ t ≠ 11) h h_1 := by rw [eh9]; exact agr.rf.up fd (by omega)
  by_cases hf0 : fault g z = 0
  · skip
    obtain ⟨x1, x5, x6, hh⟩ := hfz hf0
    subst x1 x5 x6
    have hsz := fault_sz hf0
    have hLl := unitsL_len (z := z) hsz.2
    have f_4 : h_1 ib = some (8, .inr (1, [.ref rd, .ref hp, .int (nI c), .int (nI pt), va_rf lo])) := by rw [eh9]; exact ah_keep fi fd (by omega)
    have f_5 : h_1 hp = some (9, .inl (G.2.2.1 1, 16, .inr (.inr (.inr (.inr hf))))) := by rw [eh9]; exact ah_keep fp fd (by omega)
    have f_6 : h_1 rd = some (10, .inr (3, [.int (nI (g 0 % 2)), .int (nI a2), .int (nI a3), .int (nI a4), .int (nI (g 0 / 4)), .int (nI (g 1)), .ref ru])) := by rw [eh9]; exact ah_up_s _ _ _
    have f_7 : h_1 ru = some (11, .inl (G.2.2.1 0, 160, .inl (nA uf))) := by rw [eh9]; exact ah_keep fu fd (by omega)
    have f_8 : h_1 r = some (tr, .inr (5, [.ref b, .int (nI z)])) := by rw [eh9]; exact ah_keep fr fd (by omega)
    have f_9 : h_1 b = some (tb, .inl (G.2.2.1 0, n, .inl (nA g))) := by rw [eh9]; exact ah_keep fb fd (by omega)
    refine ah_toi (v := nI 0) (by rw [ev9, hf0]; decide) ?_
    refine lv_istore_n (lv' := [(3, .int (nI 0)), (0, .ref ib), (1, .int (nI s9)), (2, .ref r)]) hx hb dX2_accept_8 rfl hl (by decide) rfl (fun ls hl => ?_)
    refine lv_iload_n hx hb dX2_accept_9 rfl (lv_at hl 0 rfl) ?_
    refine lv_if_eq (tgt := 15) hx hb dX2_accept_10 (by decide) (fun c_10 => ?_) (fun c_10 => ?_)
    · skip
      refine lv_aload_n hx hb dX2_accept_15 rfl (lv_at hl 1 rfl) ?_
      refine ah_get (ci := 1) (v := .ref rd) (C := RX2) (T := TX2) (N := 5) hx hb hE hR hts hinX2 hown f_4 rfl 0 (by decide) k12 (fun _ h9 => h9) rfl dX2_accept_16 ?_
      refine lv_aload_n hx hb dX2_accept_19 rfl (lv_at hl 3 rfl) ?_
      refine ah_callq (va_runV (As := [.ref r]) (rest := []) ⟨hx, hb, hml, hown, hts⟩ (c_Rd_unitsOf l G h_1 rd ru (g 0 % 2) a2 a3 a4 (g 0 / 4) (g 1) uf f_6 f_7 b1 b5 b6 r b tr tb n z g f_8 f_9 hne hz hn hg (by omega) (by omega) (by omega) (by omega) hsz.1 hsz.2 901 (by decide)) (cwV 1 hts gX2_accept_X4_unitsOf rfl rfl rfl (by decide +kernel) ⟨Nat.le_of_ble_eq_true rfl, Nat.le_of_ble_eq_true rfl⟩) (ah_preV hE hR hS f_6 rfl) rfl rfl hl.1 rfl (lv_room (Nat.le_of_ble_eq_true rfl)) dX2_accept_20 ⟨Nat.le_of_ble_eq_true rfl, Nat.le_of_ble_eq_true rfl⟩) hS (fun r_13 h_11 H locs p_12 hR hS => ?_)
      obtain ⟨u8, uf8, er8, hu8, eh8⟩ := p_12
      rw [er8]
      rw [show (if g 0 / 4 = 0 then dS (svn g z) (g 1) (g 1 - 7 * (g 0 % 2)) (7 * (g 0 % 2)) else dP g (g 1) (g 1 - 6 * (g 0 % 2)) (6 * (g 0 % 2))) = unitsL g z from rfl] at eh8
      have hu7 : ah_up h_1 ru (11, .inl (G.2.2.1 0, 160, .inl (nA uf8))) u8 = none := by rw [ah_up_n (fun q => by rw [q, f_7] at hu8; cases hu8)]; exact hu8
      have ag8 : agr (fun t => t ≠ 10 ∧ t ≠ 11) h h_11 := by rw [eh8]; exact (ag9.up f_7 (by omega)).new hu7
      have f_14 : h_11 ib = some (8, .inr (1, [.ref rd, .ref hp, .int (nI c), .int (nI pt), va_rf lo])) := by rw [eh8]; exact ah_new (ah_keep f_4 f_7 (by omega)) hu7
      have f_15 : h_11 hp = some (9, .inl (G.2.2.1 1, 16, .inr (.inr (.inr (.inr hf))))) := by rw [eh8]; exact ah_new (ah_keep f_5 f_7 (by omega)) hu7
      have f_16 : h_11 rd = some (10, .inr (3, [.int (nI (g 0 % 2)), .int (nI a2), .int (nI a3), .int (nI a4), .int (nI (g 0 / 4)), .int (nI (g 1)), .ref ru])) := by rw [eh8]; exact ah_new (ah_keep f_6 f_7 (by omega)) hu7
      have f_17 : h_11 ru = some (11, .inl (G.2.2.1 0, 160, .inl (nA uf8))) := by rw [eh8]; exact ah_new (ah_up_s _ _ _) hu7
      have f_18 : h_11 r = some (tr, .inr (5, [.ref b, .int (nI z)])) := by rw [eh8]; exact ah_new (ah_keep f_8 f_7 (by omega)) hu7
      have f_19 : h_11 b = some (tb, .inl (G.2.2.1 0, n, .inl (nA g))) := by rw [eh8]; exact ah_new (ah_keep f_9 f_7 (by omega)) hu7
      have f_20 : h_11 u8 = some (901, .inl (G.2.2.1 0, (unitsL g z).length, .inl (liA (unitsL g z)))) := by rw [eh8]; exact ah_up_s _ _ _
      refine lv_astore (lv' := [(4, .ref u8), (3, .int (nI 0)), (0, .ref ib), (1, .int (nI s9)), (2, .ref r)]) hx hb dX2_accept_23 hl (by decide) rfl (fun ls hl => ?_)
      refine lv_aload_n hx hb dX2_accept_25 rfl (lv_at hl 2 rfl) ?_
      refine ah_get (ci := 1) (v := .ref rd) (C := RX2) (T := TX2) (N := 5) hx hb hE hR hts hinX2 hown f_14 rfl 0 (by decide) k12 (fun _ h9 => h9) rfl dX2_accept_26 ?_
      refine ah_get (ci := 3) (v := .int (nI (g 0 % 2))) (C := RX4) (T := TX4) (N := 7) hx hb hE hR hts hinX4 hown f_16 rfl 0 (by decide) k32 (fun _ h9 => h9) rfl dX2_accept_29 ?_
      refine lv_if_eq (tgt := 51) hx hb dX2_accept_32 (by decide) (fun c_21 => ?_) (fun c_21 => ?_)
      · skip
        have c_21 : (g 0 % 2) = 0 := (zi_eq (by omega)).mp c_21
        refine lv_aload_n hx hb dX2_accept_51 rfl (lv_at hl 2 rfl) ?_
        refine ah_newo (ci := 0) (fs := [.int (nI 0), .int (nI 0), .null, .int (nI 0), .int (nI 0), .int (nI 0)]) (C := RX1) (T := TX1) (N := 6) hx hb hE hR hS 800 hts hinX1 tyX1 tyX1_ok hown wclassLink_RX2_18_RX1 winstantiable_RX1_6 winitialized_RX1 rfl (fun j hj => by rcases (show j = 0 ∨ j = 1 ∨ j = 2 ∨ j = 3 ∨ j = 4 ∨ j = 5 by omega) with rfl | rfl | rfl | rfl | rfl | rfl <;> rfl) (Nat.le_of_ble_eq_true rfl) (Nat.le_of_ble_eq_true rfl) dX2_accept_52 (fun q_22 H hq_23 hR hS => ?_)
        obtain ⟨h_24, e_25⟩ : ∃ zz9, zz9 = ah_up h_11 q_22 (800, .inr (0, [.int (nI 0), .int (nI 0), .null, .int (nI 0), .int (nI 0), .int (nI 0)])) := ⟨_, rfl⟩
        have hR : ah_R G h_24 H := by rw [e_25]; exact hR
        have f_26 : h_24 ib = some (8, .inr (1, [.ref rd, .ref hp, .int (nI c), .int (nI pt), va_rf lo])) := by rw [e_25]; exact ah_new f_14 hq_23
        have f_27 : h_24 hp = some (9, .inl (G.2.2.1 1, 16, .inr (.inr (.inr (.inr hf))))) := by rw [e_25]; exact ah_new f_15 hq_23
        have f_28 : h_24 rd = some (10, .inr (3, [.int (nI (g 0 % 2)), .int (nI a2), .int (nI a3), .int (nI a4), .int (nI (g 0 / 4)), .int (nI (g 1)), .ref ru])) := by rw [e_25]; exact ah_new f_16 hq_23
        have f_29 : h_24 ru = some (11, .inl (G.2.2.1 0, 160, .inl (nA uf8))) := by rw [e_25]; exact ah_new f_17 hq_23
        have f_30 : h_24 r = some (tr, .inr (5, [.ref b, .int (nI z)])) := by rw [e_25]; exact ah_new f_18 hq_23
        have f_31 : h_24 b = some (tb, .inl (G.2.2.1 0, n, .inl (nA g))) := by rw [e_25]; exact ah_new f_19 hq_23
        have f_32 : h_24 u8 = some (901, .inl (G.2.2.1 0, (unitsL g z).length, .inl (liA (unitsL g z)))) := by rw [e_25]; exact ah_new f_20 hq_23
        have f_33 : h_24 q_22 = some (800, .inr (0, [.int (nI 0), .int (nI 0), .null, .int (nI 0), .int (nI 0), .int (nI 0)])) := by rw [e_25]; exact ah_up_s _ _ _
        refine lv_dup hx hb dX2_accept_55 rfl ?_
        refine lv_iload_n hx hb dX2_accept_56 rfl (lv_at hl 3 rfl) ?_
        refine lv_iconst (v := (-1)) hx hb dX2_accept_57 (by decide) ?_
        refine lv_iconst (v := nI 1) hx hb dX2_accept_58 (by decide) ?_
        refine ah_callv (va_runI (As := [.int (nI s9), .int (-1), .int (nI 1)]) (rest := [.ref q_22, .ref ib]) ⟨hx, hb, hml, hown, hts⟩ (c_Heap_init l G h_24 q_22 1 (nI s9) (-1) f_33 (by decide)) (cwI 3 hts gX2_accept_X1_init rfl rfl rfl winitialized_RX1 wmethodLink_RX2_40_yX1_init winstanceMethod_yX1_init rfl (by decide +kernel) ⟨Nat.le_of_ble_eq_true rfl, Nat.le_of_ble_eq_true rfl⟩) (ah_preS hE hR hS) rfl rfl hl.1 rfl (lv_room (Nat.le_of_ble_eq_true rfl)) dX2_accept_59 ⟨Nat.le_of_ble_eq_true rfl, Nat.le_of_ble_eq_true rfl⟩) hS (fun h_34 H locs p_35 hR hS => ?_)
        obtain ⟨q2, hn_q2, eq_q2⟩ := p_35
        have ne_q2 : q2 ≠ q_22 := fun q9 => by rw [q9, f_33] at hn_q2; cases hn_q2
        have f_37 : h_34 ib = some (8, .inr (1, [.ref rd, .ref hp, .int (nI c), .int (nI pt), va_rf lo])) := by rw [eq_q2]; exact ah_keep (ah_new f_26 hn_q2) (ah_new f_33 hn_q2) (by omega)
        have f_38 : h_34 hp = some (9, .inl (G.2.2.1 1, 16, .inr (.inr (.inr (.inr hf))))) := by rw [eq_q2]; exact ah_keep (ah_new f_27 hn_q2) (ah_new f_33 hn_q2) (by omega)
        have f_39 : h_34 rd = some (10, .inr (3, [.int (nI (g 0 % 2)), .int (nI a2), .int (nI a3), .int (nI a4), .int (nI (g 0 / 4)), .int (nI (g 1)), .ref ru])) := by rw [eq_q2]; exact ah_keep (ah_new f_28 hn_q2) (ah_new f_33 hn_q2) (by omega)
        have f_40 : h_34 ru = some (11, .inl (G.2.2.1 0, 160, .inl (nA uf8))) := by rw [eq_q2]; exact ah_keep (ah_new f_29 hn_q2) (ah_new f_33 hn_q2) (by omega)
        have f_41 : h_34 r = some (tr, .inr (5, [.ref b, .int (nI z)])) := by rw [eq_q2]; exact ah_keep (ah_new f_30 hn_q2) (ah_new f_33 hn_q2) (by omega)
        have f_42 : h_34 b = some (tb, .inl (G.2.2.1 0, n, .inl (nA g))) := by rw [eq_q2]; exact ah_keep (ah_new f_31 hn_q2) (ah_new f_33 hn_q2) (by omega)
        have f_43 : h_34 u8 = some (901, .inl (G.2.2.1 0, (unitsL g z).length, .inl (liA (unitsL g z)))) := by rw [eq_q2]; exact ah_keep (ah_new f_32 hn_q2) (ah_new f_33 hn_q2) (by omega)
        have f_44 : h_34 q_22 = some (800, .inr (0, [.int (nI s9), .int (-1), .ref q2, .int (nI 0), .int (nI 0), .int (nI 0)])) := by rw [eq_q2]; exact ah_up_s _ _ _
        have f_45 : h_34 q2 = some (801, .inl (G.2.2.1 2, 1, .inr (.inr (.inr (.inr (fun _ => none)))))) := by rw [eq_q2, ah_up_n ne_q2]; exact ah_up_s _ _ _
        have ag5 : agr (fun t => t ≠ 10 ∧ t ≠ 11) h_11 h_34 := by rw [eq_q2]; refine agr.upN ?_ hq_23; refine agr.new ?_ hn_q2; rw [e_25]; exact agr.rf.new hq_23
        refine ah_put (ci := 1) (v := .ref q_22) (ty := .object "TextParts$Heap") (C := RX2) (T := TX2) (N := 5) hx hb hE hR hS hts hinX2 tyX2 tyX2_ok nmX2 hown f_37 rfl 4 (by decide) k43 (fun _ h9 => h9) rfl (by decide +kernel) rfl rfl (Nat.le_of_ble_eq_true rfl) dX2_accept_62 (fun H locs hR hS => ?_)
        obtain ⟨h_46, e_47⟩ : ∃ zz9, zz9 = ah_up h_34 ib (8, .inr (1, [.ref rd, .ref hp, .int (nI c), .int (nI pt), .ref q_22])) := ⟨_, rfl⟩
        have hR : ah_R G h_46 H := by rw [e_47]; exact hR
        have f_48 : h_46 ib = some (8, .inr (1, [.ref rd, .ref hp, .int (nI c), .int (nI pt), .ref q_22])) := by rw [e_47]; exact ah_up_s _ _ _
        have f_49 : h_46 hp = some (9, .inl (G.2.2.1 1, 16, .inr (.inr (.inr (.inr hf))))) := by rw [e_47]; exact ah_keep f_38 f_37 (by omega)
        have f_50 : h_46 rd = some (10, .inr (3, [.int (nI (g 0 % 2)), .int (nI a2), .int (nI a3), .int (nI a4), .int (nI (g 0 / 4)), .int (nI (g 1)), .ref ru])) := by rw [e_47]; exact ah_keep f_39 f_37 (by omega)
        have f_51 : h_46 ru = some (11, .inl (G.2.2.1 0, 160, .inl (nA uf8))) := by rw [e_47]; exact ah_keep f_40 f_37 (by omega)
        have f_52 : h_46 r = some (tr, .inr (5, [.ref b, .int (nI z)])) := by rw [e_47]; exact ah_keep f_41 f_37 (by omega)
        have f_53 : h_46 b = some (tb, .inl (G.2.2.1 0, n, .inl (nA g))) := by rw [e_47]; exact ah_keep f_42 f_37 (by omega)
        have f_54 : h_46 u8 = some (901, .inl (G.2.2.1 0, (unitsL g z).length, .inl (liA (unitsL g z)))) := by rw [e_47]; exact ah_keep f_43 f_37 (by omega)
        have f_55 : h_46 q_22 = some (800, .inr (0, [.int (nI s9), .int (-1), .ref q2, .int (nI 0), .int (nI 0), .int (nI 0)])) := by rw [e_47]; exact ah_keep f_44 f_37 (by omega)
        have f_56 : h_46 q2 = some (801, .inl (G.2.2.1 2, 1, .inr (.inr (.inr (.inr (fun _ => none)))))) := by rw [e_47]; exact ah_keep f_45 f_37 (by omega)
        have ag4 : agr (fun t => t ≠ 8 ∧ t ≠ 10 ∧ t ≠ 11) h_11 h_46 := by rw [e_47]; exact (ag5.weak (fun t q => by omega)).up f_37 (by omega)
        refine lv_aload_n hx hb dX2_accept_65 rfl (lv_at hl 2 rfl) ?_
        refine ah_get (ci := 1) (v := .ref q_22) (C := RX2) (T := TX2) (N := 5) hx hb hE hR hts hinX2 hown f_48 rfl 4 (by decide) k43 (fun _ h9 => h9) rfl dX2_accept_66 ?_
        refine lv_iconst (v := nI 1) hx hb dX2_accept_69 (by decide) ?_
        refine lv_aload hx hb dX2_accept_70 (lv_at hl 0 rfl) ?_
        refine ah_calli (va_runV (As := [.int (nI 1), .ref u8]) (rest := []) ⟨hx, hb, hml, hown, hts⟩ (c_Heap_add l G h_46 q_22 q2 1 0 0 0 (nI s9) (-1) (fun _ => none) f_55 f_56 (by decide) (by decide) (by decide) 1 u8 (unitsL g z).length (fun j => (unitsL g z).getD j 0) f_54 (by decide) (by decide) (by omega)) (cwV 2 hts gX2_accept_X1_add rfl rfl rfl (by decide +kernel) ⟨Nat.le_of_ble_eq_true rfl, Nat.le_of_ble_eq_true rfl⟩) (ah_preV hE hR hS f_55 rfl) rfl rfl hl.1 rfl (lv_room (Nat.le_of_ble_eq_true rfl)) dX2_accept_72 ⟨Nat.le_of_ble_eq_true rfl, Nat.le_of_ble_eq_true rfl⟩) hS (fun r_59 h_57 H locs p_58 hR hS => ?_)
        obtain ⟨ev6, q8, hq8, eh6⟩ := p_58.2 rfl
        have fP8 : ah_up h_46 q8 (900, .inr (4, [.ref u8])) q2 = some (801, .inl (G.2.2.1 2, 1, .inr (.inr (.inr (.inr (fun _ => none)))))) := ah_new f_56 hq8
        have fA8 : ah_up h_46 q8 (900, .inr (4, [.ref u8])) q_22 = some (800, .inr (0, [.int (nI s9), .int (-1), .ref q2, .int (nI 0), .int (nI 0), .int (nI 0)])) := ah_new f_55 hq8
        have ne6 : q2 ≠ q_22 := ah_ne f_56 f_55 (by omega)
        have fA7 : h_57 q_22 = some (800, .inr (0, [.int (nI s9), .int (-1), .ref q2, .int (nI (0 + 1)), .int (nI (0 + (unitsL g z).length)), .int (nI 0)])) := by rw [eh6]; exact ah_up_s _ _ _
        have fP7 : ah_up h_57 q_22 (810, .inr (0, [.int (nI s9), .int (-1), .ref q2, .int (nI (0 + 1)), .int (nI (0 + (unitsL g z).length)), .int (nI 0)])) q2 = some (801, .inl (G.2.2.1 2, 1, .inr (.inr (.inr (.inr (va_up (fun _ => none) (1 - 1) (some q8))))))) := by rw [ah_up_n ne6, eh6, ah_up_n ne6]; exact ah_up_s _ _ _
        obtain ⟨h7, e7⟩ : ∃ zz9, zz9 = ah_up (ah_up h_57 q_22 (810, .inr (0, [.int (nI s9), .int (-1), .ref q2, .int (nI (0 + 1)), .int (nI (0 + (unitsL g z).length)), .int (nI 0)]))) q2 (811, .inl (G.2.2.1 2, 1, .inr (.inr (.inr (.inr (va_up (fun _ => none) (1 - 1) (some q8))))))) := ⟨_, rfl⟩
        have hR : ah_R G h7 H := by rw [e7]; exact ah_retag 811 (ah_retag 810 hR fA7) fP7
        have hA7 : h7 q_22 = some (810, .inr (0, [.int (nI s9), .int (-1), .ref q2, .int (nI (0 + 1)), .int (nI (0 + (unitsL g z).length)), .int (nI 0)])) := by rw [e7, ah_up_n (Ne.symm ne6)]; exact ah_up_s _ _ _
        have hP7 : h7 q2 = some (811, .inl (G.2.2.1 2, 1, .inr (.inr (.inr (.inr (va_up (fun _ => none) (1 - 1) (some q8))))))) := by rw [e7]; exact ah_up_s _ _ _
        have kp7 : ∀ (b u : Nat) (y : va_E), u ≠ 800 → u ≠ 801 → h_46 b = some (u, y) → h7 b = some (u, y) := by
          intro b u y n0 n1 hb
          have i1 : b ≠ q_22 := ah_ne hb f_55 n0
          have i2 : b ≠ q2 := ah_ne hb f_56 n1
          rw [e7, ah_up_n i2, ah_up_n i1, eh6, ah_up_n i1, ah_up_n i2]; exact ah_new hb hq8
        have fq7 : h7 q8 = some (900, .inr (4, [.ref u8])) := by
          have i1 : q8 ≠ q_22 := fun q => by rw [q, f_55] at hq8; cases hq8
          have i2 : q8 ≠ q2 := fun q => by rw [q, f_56] at hq8; cases hq8
          rw [e7, ah_up_n i2, ah_up_n i1, eh6, ah_up_n i1, ah_up_n i2]; exact ah_up_s _ _ _
        have hlat7 : latOk G h7 q_22 1 (fun _ => unitsL g z) := ⟨q2, 0 + 1, 0 + (unitsL g z).length, 0, nI s9, -1, va_up (fun _ => none) (1 - 1) (some q8), fun _ => q8, hA7, hP7, by decide, by decide, by omega, rfl, fun k hk => ⟨by rw [show k = 1 - 1 by omega, va_up_self], u8, fq7, kp7 _ _ _ (by decide) (by decide) f_54, hLl⟩⟩
        have kh7 : ∀ (b u : Nat) (y : va_E), u ≠ 8 → u ≠ 10 → u ≠ 11 → h b = some (u, y) → h7 b = some (u, y) := by
          intro b u y n8 n10 n11 hb
          have hb8 : h_11 b = some (u, y) := ag8 b u y ⟨n10, n11⟩ hb
          have hb4 : h_46 b = some (u, y) := ag4 b u y ⟨n8, n10, n11⟩ hb8
          have i1 : b ≠ q_22 := fun q => by rw [q, hq_23] at hb8; cases hb8
          have i2 : b ≠ q2 := fun q => by have z9 := hn_q2; rw [e_25, ah_up_n ne_q2, ← q, hb8] at z9; cases z9
          rw [e7, ah_up_n i2, ah_up_n i1, eh6, ah_up_n i1, ah_up_n i2]; exact ah_new hb4 hq8
        have fi7 := kp7 _ _ _ (by decide) (by decide) f_48
        have fp7 := kp7 _ _ _ (by decide) (by decide) f_49
        have hrd7 : rdOk G h7 rd ru := ⟨_, _, _, _, _, _, _, kp7 _ _ _ (by decide) (by decide) f_50, kp7 _ _ _ (by decide) (by decide) f_51, b1, b5, b6⟩
        refine ah_toi ev6 ?_
        refine lv_pop hx hb dX2_accept_75 rfl ?_
        refine lv_iconst (v := nI 1) hx hb dX2_accept_76 (by decide) ?_
        refine W.widen (k := 4) (n := 422) (by omega) (by omega) ?_
        refine ah_iret (v := nI 1) hx hb hr hlocks hR hS dX2_accept_77 ?_
        exact ⟨c, pt, D, some (1, fun _ => unitsL g z), Or.inr (Or.inl ⟨hf0, by omega, rfl, rfl, rfl, rfl, rfl⟩), ⟨some q_22, hf, fi7, fp7, hc, hok.frame (fun b u y q hb => kh7 b u y (by unfold hTag at q; omega) (by unfold hTag at q; omega) (by unfold hTag at q; omega) hb), hrd7, ⟨_, rfl, hlat7⟩⟩, fun b u y q hb => kh7 b u y (by omega) (by omega) (by omega) hb⟩
      · skip
        have c_21 : ¬ ((g 0 % 2) = 0) := fun z9 => c_21 ((zi_eq (by omega)).mpr z9)
        have hd1 : g 0 % 2 = 1 := by omega
        obtain ⟨e2, e3, e4⟩ := hh hd1
        have hg5 := hg 5; have hg6 := hg 6; have hg7 := hg 7
        have hhb : ¬ hdrBad g := fun q => (fault_0 hf0).2.2.2 ⟨by omega, Or.inr q⟩
        unfold hdrBad at hhb
        refine lv_aload_n hx hb dX2_accept_35 rfl (lv_at hl 2 rfl) ?_
        refine lv_iload_n hx hb dX2_accept_36 rfl (lv_at hl 3 rfl) ?_
        refine lv_aload hx hb dX2_accept_37 (lv_at hl 0 rfl) ?_
        refine ah_calli (va_runV (As := [.int (nI s9), .ref u8]) (rest := []) ⟨hx, hb, hml, hown, hts⟩ (c_Ib_keep l G h_11 ib hp rd c pt lo hf f_14 f_15 hc D (hok.frame (ag8.weak (fun t q => by unfold hTag at q; omega))) (g 0 % 2) a2 a3 a4 (g 0 / 4) (g 1) ru f_16 (by omega) (by omega) (by omega) s9 hs9 u8 (unitsL g z) f_20 hLl (by omega) (by omega) hpt) (cwV 2 hts gX2_accept_X2_keep rfl rfl rfl (by decide +kernel) ⟨Nat.le_of_ble_eq_true rfl, Nat.le_of_ble_eq_true rfl⟩) (ah_preV hE hR hS f_14 rfl) rfl rfl hl.1 rfl (lv_room (Nat.le_of_ble_eq_true rfl)) dX2_accept_39 ⟨Nat.le_of_ble_eq_true rfl, show 0 + 160 + (7 + a3) ≤ 422 by omega⟩) hS (fun r_62 h_60 H locs p_61 hR hS => ?_)
        obtain ⟨v9, c7, pt7, D7, lo7, hf7, lt7, ev7, hv7, hk7, fi7, fp7, hc7, ok7, ln7, ls7, ag7⟩ := p_61
        rw [e2, e3, e4] at hk7
        have hrd7 : rdOk G h_60 rd ru := ⟨_, _, _, _, _, _, _, ag7 _ _ _ (by omega) f_16, ag7 _ _ _ (by omega) f_17, b1, b5, b6⟩
        have hlt7 : lastOk G h_60 lo7 (lt7.or lat) := by
          cases lt7 with
          | none => rw [ln7 rfl]; exact (hlat.frame (ag8.weak (fun t q => by omega))).frame (ag7.weak (fun t q => by omega))
          | some x => obtain ⟨la, e, o⟩ := ls7 x.1 x.2 rfl; exact ⟨la, e, o⟩
        have ag6 : agr (fun t => ¬ (8 ≤ t ∧ t ≤ 11) ∧ t ≠ 800 ∧ t ≠ 801) h h_60 := (ag8.weak (fun t q => by omega)).tr (ag7.weak (fun t q => by omega))
        refine ah_toi ev7 ?_
        refine lv_if_eq (tgt := 49) hx hb dX2_accept_42 (by decide) (fun c_63 => ?_) (fun c_63 => ?_)
        · skip
          have c_63 : v9 = 0 := (zi_eq (by omega)).mp c_63
          refine lv_iconst (v := nI 0) hx hb dX2_accept_49 (by decide) ?_
          refine W.widen (k := 4) (n := 422) (by omega) (by omega) ?_
          refine ah_iret (v := nI 0) hx hb hr hlocks hR hS dX2_accept_50 ?_
          exact ⟨c7, pt7, D7, lt7, Or.inr (Or.inr ⟨hf0, hd1, v9, by rw [show v9 = 0 by omega], hk7⟩), ⟨lo7, hf7, fi7, fp7, hc7, ok7, hrd7, hlt7⟩, ag6⟩
        · skip
          have c_63 : ¬ (v9 = 0) := fun z9 => c_63 ((zi_eq (by omega)).mpr z9)
          refine lv_iconst (v := nI 1) hx hb dX2_accept_45 (by decide) ?_
          refine lv_goto (tgt := 50) hx hb dX2_accept_46 (by decide) ?_
          refine W.widen (k := 4) (n := 422) (by omega) (by omega) ?_
          refine ah_iret (v := nI 1) hx hb hr hlocks hR hS dX2_accept_50 ?_
          exact ⟨c7, pt7, D7, lt7, Or.inr (Or.inr ⟨hf0, hd1, v9, by rw [show v9 = 1 by omega], hk7⟩), ⟨lo7, hf7, fi7, fp7, hc7, ok7, hrd7, hlt7⟩, ag6⟩
    · skip
      exact absurd (by decide) c_10
  · skip
    have f_64 : h_1 ib = some (8, .inr (1, [.ref rd, .ref hp, .int (nI c), .int (nI pt), va_rf lo])) := by rw [eh9]; exact ah_keep fi fd (by omega)
    have f_65 : h_1 hp = some (9, .inl (G.2.2.1 1, 16, .inr (.inr (.inr (.inr hf))))) := by rw [eh9]; exact ah_keep fp fd (by omega)
    have f_66 : h_1 rd = some (10, .inr (3, [.int (nI a1), .int (nI a2), .int (nI a3), .int (nI a4), .int (nI a5), .int (nI a6), .ref ru])) := by rw [eh9]; exact ah_up_s _ _ _
    have f_67 : h_1 ru = some (11, .inl (G.2.2.1 0, 160, .inl (nA uf))) := by rw [eh9]; exact ah_keep fu fd (by omega)
    have f_68 : h_1 r = some (tr, .inr (5, [.ref b, .int (nI z)])) := by rw [eh9]; exact ah_keep fr fd (by omega)
    have f_69 : h_1 b = some (tb, .inl (G.2.2.1 0, n, .inl (nA g))) := by rw [eh9]; exact ah_keep fb fd (by omega)
    refine ah_toi ev9 ?_
    refine lv_istore_n (lv' := [(3, .int (-(nI (fault g z)))), (0, .ref ib), (1, .int (nI s9)), (2, .ref r)]) hx hb dX2_accept_8 rfl hl (by decide) rfl (fun ls hl => ?_)
    refine lv_iload_n hx hb dX2_accept_9 rfl (lv_at hl 0 rfl) ?_
    refine lv_if_eq (tgt := 15) hx hb dX2_accept_10 (by decide) (fun c_70 => ?_) (fun c_70 => ?_)
    · skip
      exact absurd c_70 (neg_0 _ (by omega) hf0)
    · skip
      refine lv_iload_n hx hb dX2_accept_13 rfl (lv_at hl 0 rfl) ?_
      refine W.widen (k := 4) (n := 422) (by omega) (by omega) ?_
      refine ah_iret (v := -(nI (fault g z))) hx hb hr hlocks hR hS dX2_accept_14 ?_
      exact ⟨c, pt, D, none, Or.inl ⟨hf0, rfl, rfl, rfl, rfl, rfl⟩, ⟨lo, hf, f_64, f_65, hc, hok.frame (ag9.weak (fun t q => by unfold hTag at q; omega)), ⟨a1, a2, a3, a4, a5, a6, uf, f_66, f_67, b1, b5, b6⟩, hlat.frame (ag9.weak (fun t q => by omega))⟩, ag9.weak (fun t q => by omega)⟩

set_option maxHeartbeats 4000000 in
set_option maxRecDepth 100000 in
theorem c_Ib_init (l : Launch) (G : ah_G) (h : ah_H) (ib : Nat) (fi : h ib = some (8, .inr (1, [.null, .null, .int (nI 0), .int (nI 0), .null]))) : Met l yX2_init wsX2_init ({ frames := 2, cells := 3, slots := 183, locals := 40 }) (ah_Pc G [.ref ib] h) (ah_Qv G (fun h' => ∃ (hp rd ru : Nat) (D : Nat → hDt), ibx G h' ib hp rd ru 0 0 D none ∧ agr (fun t => t ≠ 8) h h')) 3 183 (ah_A G) := by
  refine ah_ofW (cc := cX2_init) (maxL := 1) (ret := none) (by decide) rfl (Nat.le_of_ble_eq_true rfl) ?_
  intro p e s m below meth cd9 ls hx hb hr hml hown hlocks hname hts hE hR hS hl
  have hown : s.vm.findClass RX2 = some m.cls := hown
  have hl : lv_has ls 1 [(0, .ref ib)] := hl
  have wmethodLink_RX2_3_objectInit := hts (.methodLink RX2 3 objectInit) (by decide +kernel)
  have winstanceMethod_objectInit := hts (.instanceMethod objectInit) (by decide +kernel)
  have wcode_objectInit_0xb1_1_none := hts (.code objectInit ⟨#[0xb1]⟩ 1 none) (by decide +kernel)
  have hinX4 : ∀ w ∈ wsX40, w ∈ wsX2_init := by decide +kernel
  have wclassLink_RX2_9_RX4 := hts (.classLink RX2 9 RX4) (by decide +kernel)
  have winstantiable_RX4_7 := hts (.instantiable RX4 7) (by decide +kernel)
  have winitialized_RX4 := hts (.initialized RX4) (by decide +kernel)
  have winstanceMethod_yX4_init := hts (.instanceMethod yX4_init) (by decide +kernel)
  have k12 := hts (.fieldLink RX2 12 "TextParts$Inbox" "reader" "LTextParts$PartReader;") (by decide +kernel)
  have hinX2 : ∀ w ∈ wsX20, w ∈ wsX2_init := by decide +kernel
  have wclassLink_RX2_18_RX1 := hts (.classLink RX2 18 RX1) (by decide +kernel)
  have k20 := hts (.fieldLink RX2 20 "TextParts$Inbox" "heaps" "[LTextParts$Heap;") (by decide +kernel)
  refine lv_aload_n hx hb dX2_init_0 rfl (lv_at hl 0 rfl) ?_
  refine W.objInit hx hb hown wmethodLink_RX2_3_objectInit winstanceMethod_objectInit wcode_objectInit_0xb1_1_none rfl (by rw [hml]; exact hl.1) rfl dX2_init_1 (Nat.le_of_ble_eq_true rfl) (Nat.le_of_ble_eq_true rfl) ?_
  refine W.eq (g2 := F0 m 4 ls []) rfl ?_
  refine lv_aload_n hx hb dX2_init_4 rfl (lv_at hl 0 rfl) ?_
  refine ah_newo (ci := 3) (fs := [.int (nI 0), .int (nI 0), .int (nI 0), .int (nI 0), .int (nI 0), .int (nI 0), .null]) (C := RX4) (T := TX4) (N := 7) hx hb hE hR hS 10 hts hinX4 tyX4 tyX4_ok hown wclassLink_RX2_9_RX4 winstantiable_RX4_7 winitialized_RX4 rfl (fun j hj => by rcases (show j = 0 ∨ j = 1 ∨ j = 2 ∨ j = 3 ∨ j = 4 ∨ j = 5 ∨ j = 6 by omega) with rfl | rfl | rfl | rfl | rfl | rfl | rfl <;> rfl) (Nat.le_of_ble_eq_true rfl) (Nat.le_of_ble_eq_true rfl) dX2_init_5 (fun q_1 H hq_2 hR hS => ?_)
  obtain ⟨h_3, e_4⟩ : ∃ zz9, zz9 = ah_up h q_1 (10, .inr (3, [.int (nI 0), .int (nI 0), .int (nI 0), .int (nI 0), .int (nI 0), .int (nI 0), .null])) := ⟨_, rfl⟩
  have hR : ah_R G h_3 H := by rw [e_4]; exact hR
  have f_5 : h_3 ib = some (8, .inr (1, [.null, .null, .int (nI 0), .int (nI 0), .null])) := by rw [e_4]; exact ah_new fi hq_2
  have f_6 : h_3 q_1 = some (10, .inr (3, [.int (nI 0), .int (nI 0), .int (nI 0), .int (nI 0), .int (nI 0), .int (nI 0), .null])) := by rw [e_4]; exact ah_up_s _ _ _
  refine lv_dup hx hb dX2_init_8 rfl ?_
  refine ah_callv (va_runIN (As := []) (rest := [.ref q_1, .ref ib]) ⟨hx, hb, hml, hown, hts⟩ (c_Rd_init l G h_3 q_1 f_6) ⟨va_cnB 0 hts gX2_init_X4_init_n11 rfl rfl rfl hE.2.2.2.1.2.2.2.1 winitialized_RX4 (by decide +kernel) ⟨Nat.le_of_ble_eq_true rfl, Nat.le_of_ble_eq_true rfl⟩, rfl, winstanceMethod_yX4_init⟩ (ah_preS hE hR hS) rfl rfl hl.1 rfl (lv_room (Nat.le_of_ble_eq_true rfl)) dX2_init_9 ⟨Nat.le_of_ble_eq_true rfl, Nat.le_of_ble_eq_true rfl⟩) hS (fun h_7 H locs p_8 hR hS => ?_)
  obtain ⟨ru, hru, eru⟩ := p_8
  have nru : ru ≠ q_1 := fun q => by rw [q, f_6] at hru; cases hru
  have f_10 : h_7 q_1 = some (10, .inr (3, [.int (nI 0), .int (nI 0), .int (nI 0), .int (nI 0), .int (nI 0), .int (nI 0), .ref ru])) := by rw [eru]; exact ah_up_s _ _ _
  have f_11 : h_7 ib = some (8, .inr (1, [.null, .null, .int (nI 0), .int (nI 0), .null])) := by rw [eru]; exact ah_keep (ah_new f_5 hru) (ah_new f_6 hru) (by omega)
  have f_12 : h_7 ru = some (11, .inl (G.2.2.1 0, 160, .inl (nA (fun _ => 0)))) := by rw [eru, ah_up_n nru]; exact ah_up_s _ _ _
  have ag9 : agr (fun t => t ≠ 8) h h_7 := by rw [eru]; refine agr.upN ?_ hq_2; refine agr.new ?_ hru; rw [e_4]; exact agr.rf.new hq_2
  refine ah_putF (ci := 1) (v := .ref q_1) (ty := .object "TextParts$PartReader") (C := RX2) (T := TX2) (N := 5) hx hb hE hR hS hts hinX2 tyX2 tyX2_ok nmX2 hown f_11 rfl 0 (by decide) k12 (fun _ h9 => h9) rfl hname rfl (by decide +kernel) rfl rfl (Nat.le_of_ble_eq_true rfl) dX2_init_12 (fun H locs hR hS => ?_)
  obtain ⟨h_13, e_14⟩ : ∃ zz9, zz9 = ah_up h_7 ib (8, .inr (1, [.ref q_1, .null, .int (nI 0), .int (nI 0), .null])) := ⟨_, rfl⟩
  have hR : ah_R G h_13 H := by rw [e_14]; exact hR
  have f_15 : h_13 ib = some (8, .inr (1, [.ref q_1, .null, .int (nI 0), .int (nI 0), .null])) := by rw [e_14]; exact ah_up_s _ _ _
  have f_16 : h_13 q_1 = some (10, .inr (3, [.int (nI 0), .int (nI 0), .int (nI 0), .int (nI 0), .int (nI 0), .int (nI 0), .ref ru])) := by rw [e_14]; exact ah_keep f_10 f_11 (by omega)
  have f_17 : h_13 ru = some (11, .inl (G.2.2.1 0, 160, .inl (nA (fun _ => 0)))) := by rw [e_14]; exact ah_keep f_12 f_11 (by omega)
  have ag8 : agr (fun t => t ≠ 8) h h_13 := by rw [e_14]; exact ag9.up f_11 (by omega)
  refine lv_aload_n hx hb dX2_init_15 rfl (lv_at hl 0 rfl) ?_
  refine lv_bipush (v := nI 16) hx hb dX2_init_16 (by decide) ?_
  refine ah_newq (n := 16) hx hb hE hR hS 9 1 hown wclassLink_RX2_18_RX1 hE.2.2.1.1 rfl (by omega) (Nat.le_of_ble_eq_true rfl) (Nat.le_of_ble_eq_true rfl) dX2_init_18 (fun q_18 H hq_19 hR hS => ?_)
  obtain ⟨h_20, e_21⟩ : ∃ zz9, zz9 = ah_up h_13 q_18 (9, .inl (G.2.2.1 1, 16, .inr (.inr (.inr (.inr (fun _ => none)))))) := ⟨_, rfl⟩
  have hR : ah_R G h_20 H := by rw [e_21]; exact hR
  have f_22 : h_20 ib = some (8, .inr (1, [.ref q_1, .null, .int (nI 0), .int (nI 0), .null])) := by rw [e_21]; exact ah_new f_15 hq_19
  have f_23 : h_20 q_1 = some (10, .inr (3, [.int (nI 0), .int (nI 0), .int (nI 0), .int (nI 0), .int (nI 0), .int (nI 0), .ref ru])) := by rw [e_21]; exact ah_new f_16 hq_19
  have f_24 : h_20 ru = some (11, .inl (G.2.2.1 0, 160, .inl (nA (fun _ => 0)))) := by rw [e_21]; exact ah_new f_17 hq_19
  have f_25 : h_20 q_18 = some (9, .inl (G.2.2.1 1, 16, .inr (.inr (.inr (.inr (fun _ => none)))))) := by rw [e_21]; exact ah_up_s _ _ _
  have ag7 : agr (fun t => t ≠ 8) h h_20 := by rw [e_21]; exact ag8.new hq_19
  refine ah_putF (ci := 1) (v := .ref q_18) (ty := .array (.object "TextParts$Heap")) (C := RX2) (T := TX2) (N := 5) hx hb hE hR hS hts hinX2 tyX2 tyX2_ok nmX2 hown f_22 rfl 1 (by decide) k20 (fun _ h9 => h9) rfl hname rfl (by decide +kernel) rfl rfl (Nat.le_of_ble_eq_true rfl) dX2_init_21 (fun H locs hR hS => ?_)
  obtain ⟨h_26, e_27⟩ : ∃ zz9, zz9 = ah_up h_20 ib (8, .inr (1, [.ref q_1, .ref q_18, .int (nI 0), .int (nI 0), .null])) := ⟨_, rfl⟩
  have hR : ah_R G h_26 H := by rw [e_27]; exact hR
  have f_28 : h_26 ib = some (8, .inr (1, [.ref q_1, .ref q_18, .int (nI 0), .int (nI 0), .null])) := by rw [e_27]; exact ah_up_s _ _ _
  have f_29 : h_26 q_1 = some (10, .inr (3, [.int (nI 0), .int (nI 0), .int (nI 0), .int (nI 0), .int (nI 0), .int (nI 0), .ref ru])) := by rw [e_27]; exact ah_keep f_23 f_22 (by omega)
  have f_30 : h_26 ru = some (11, .inl (G.2.2.1 0, 160, .inl (nA (fun _ => 0)))) := by rw [e_27]; exact ah_keep f_24 f_22 (by omega)
  have f_31 : h_26 q_18 = some (9, .inl (G.2.2.1 1, 16, .inr (.inr (.inr (.inr (fun _ => none)))))) := by rw [e_27]; exact ah_keep f_25 f_22 (by omega)
  have ag6 : agr (fun t => t ≠ 8) h h_26 := by rw [e_27]; exact ag7.up f_22 (by omega)
  refine W.widen (k := 3) (n := 183) (by omega) (by omega) ?_
  refine ah_vret hx hb hr hlocks hR hS dX2_init_24 ?_
  exact ⟨q_18, q_1, ru, (fun _ => (0, 0, 0, 0, 0, 0, 0, 0, (fun _ => none), (fun _ => none))), ⟨none, (fun _ => none), f_28, f_31, by decide, ⟨fun i hi => absurd hi (Nat.not_lt_zero i), fun _ _ => rfl, fun i j hi => absurd hi (Nat.not_lt_zero i), fun i j hi => absurd hi (Nat.not_lt_zero i)⟩, ⟨0, 0, 0, 0, 0, 0, (fun _ => 0), f_29, f_30, by decide, by decide, by decide⟩, rfl⟩, ag6⟩
