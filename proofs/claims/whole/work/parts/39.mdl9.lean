/-! ===== TextPartsModel: the constructor ===== -/
def plI (k j : Nat) : Int32 := if j < k then (if ownP j then nI j else -1) else nI 0
def esI (k j : Nat) : Int32 := if j < k then -1 else nI 0
theorem plI_0 : plI 0 = nA (fun _ => 0) := by funext j; unfold plI; rw [if_neg (Nat.not_lt_zero j)]; rfl
theorem esI_0 : esI 0 = nA (fun _ => 0) := by funext j; unfold esI; rw [if_neg (Nat.not_lt_zero j)]; rfl
theorem plI_s {k : Nat} {v : Int32} (h : v = if ownP k then nI k else -1) : upd (plI k) k v = plI (k + 1) := by
  funext j
  by_cases e : j = k
  · subst e; simp [upd, plI, h]
  · have e1 : upd (plI k) k v j = plI k j := by simp [upd, e]
    rw [e1]; unfold plI
    by_cases q : j < k
    · rw [if_pos q, if_pos (show j < k + 1 by omega)]
    · rw [if_neg q, if_neg (show ¬ j < k + 1 by omega)]
theorem esI_s {k : Nat} : upd (esI k) k (-1) = esI (k + 1) := by
  funext j
  by_cases e : j = k
  · subst e; simp [upd, esI]
  · have e1 : upd (esI k) k (-1) j = esI k j := by simp [upd, e]
    rw [e1]; unfold esI
    by_cases q : j < k
    · rw [if_pos q, if_pos (by omega)]
    · rw [if_neg q, if_neg (by omega)]
theorem plF_ok : ∀ j, j < 128 → upd (upd (upd (upd (upd (upd (upd (upd (upd (upd (upd (plI 128) 0 (nI 64)) 1 (nI 163)) 2 (nI 36)) 3 (nI 165)) 4 (nI 232)) 5 (nI 233)) 17 (nI 95)) 95 (nI 167)) 123 (nI 228)) 124 (nI 246)) 126 (nI 252) j = plT j := by decide +kernel
theorem esF_ok : ∀ j, j < 128 → upd (upd (upd (upd (upd (upd (upd (upd (upd (esI 128) 20 (nI 94)) 40 (nI 123)) 41 (nI 125)) 47 (nI 92)) 60 (nI 91)) 61 (nI 126)) 62 (nI 93)) 64 (nI 124)) 101 (nI 8364) j = esT j := by decide +kernel

set_option maxHeartbeats 4000000 in
set_option maxRecDepth 100000 in
theorem c_m_init (l : Launch) (G : ah_G) (h : ah_H) (y : Nat) (fy : h y = some (20, .inr (8, [.int (nI 0), .null, .null, .int (nI 0), .null, .int (nI 0), .int (nI 0), .null, .null, .int (nI 0), .null, .int (nI 0), .null, .int (nI 0), .null, .null, .null, .null, .null, .null, .int (nI 0), .null, .null, .int (nI 0), .null, .int (nI 0), .null]))) : Met l yX9_init wsX9_init ({ frames := 1, cells := 17, slots := 738097, locals := 20 }) (ah_Pc G [.ref y] h) (ah_Qv G (fun h' => ∃ A : Nat → Nat, h' y = some (20, .inr (8, mF A 0 0 0 0 0 0 0 0 0 0)) ∧ h' (A 1) = some (21, .inl (G.2.2.1 0, 128, .inl plT)) ∧ h' (A 2) = some (22, .inl (G.2.2.1 0, 128, .inl esT)) ∧ h' (A 4) = some (24, .inl (G.2.2.1 0, 3000, .inl (nA (fun _ => 0)))) ∧ h' (A 7) = some (27, .inl (G.2.2.1 0, 255, .inl (nA (fun _ => 0)))) ∧ h' (A 8) = some (28, .inl (G.2.2.1 0, 36210, .inl (nA (fun _ => 0)))) ∧ h' (A 10) = some (30, .inl (G.2.2.1 0, 200, .inl (nA (fun _ => 0)))) ∧ h' (A 12) = some (32, .inl (G.2.2.1 0, 40800, .inl (nA (fun _ => 0)))) ∧ h' (A 14) = some (34, .inl (G.2.2.1 0, 16, .inl (nA (fun _ => 0)))) ∧ h' (A 15) = some (35, .inl (G.2.2.1 0, 16, .inl (nA (fun _ => 0)))) ∧ h' (A 16) = some (36, .inl (G.2.2.1 0, 16, .inl (nA (fun _ => 0)))) ∧ h' (A 17) = some (37, .inl (G.2.2.1 0, 16, .inl (nA (fun _ => 0)))) ∧ h' (A 18) = some (38, .inl (G.2.2.1 0, 16, .inl (nA (fun _ => 0)))) ∧ h' (A 19) = some (39, .inl (G.2.2.1 0, 16, .inl (nA (fun _ => 0)))) ∧ h' (A 21) = some (41, .inl (G.2.2.1 0, 4080, .inl (nA (fun _ => 0)))) ∧ h' (A 22) = some (42, .inl (G.2.2.1 0, 652800, .inl (nA (fun _ => 0)))) ∧ h' (A 24) = some (44, .inl (G.2.2.1 0, 200, .inl (nA (fun _ => 0)))) ∧ h' (A 26) = some (46, .inl (G.2.2.1 0, 200, .inl (nA (fun _ => 0)))) ∧ agr (fun t => ¬ (20 ≤ t ∧ t ≤ 46)) h h')) 17 738097 (ah_A G) := by
  refine ah_ofW (cc := cX9_init) (maxL := 3) (ret := none) (by decide) rfl (Nat.le_of_ble_eq_true rfl) ?_
  intro p e s m below meth cd9 ls hx hb hr hml hown hlocks hname hts hE hR hS hl
  have hown : s.vm.findClass RX9 = some m.cls := hown
  have hl : lv_has ls 3 [(0, .ref y)] := hl
  have wmethodLink_RX9_1_objectInit := hts (.methodLink RX9 1 objectInit) (by decide +kernel)
  have winstanceMethod_objectInit := hts (.instanceMethod objectInit) (by decide +kernel)
  have wcode_objectInit_0xb1_1_none := hts (.code objectInit ⟨#[0xb1]⟩ 1 none) (by decide +kernel)
  have warrayClass_int := hts (.arrayClass .int) (by decide +kernel)
  have k7 := hts (.fieldLink RX9 7 "TextPartsModel" "plain" "[I") (by decide +kernel)
  have hinX9 : ∀ w ∈ wsX90, w ∈ wsX9_init := by decide +kernel
  have k13 := hts (.fieldLink RX9 13 "TextPartsModel" "escaped" "[I") (by decide +kernel)
  have k16 := hts (.fieldLink RX9 16 "TextPartsModel" "text" "[I") (by decide +kernel)
  have k19 := hts (.fieldLink RX9 19 "TextPartsModel" "lengths" "[I") (by decide +kernel)
  have wconstant_RX9_22_36210 := hts (.constant RX9 22 (36210)) (by decide +kernel)
  have k23 := hts (.fieldLink RX9 23 "TextPartsModel" "bytes" "[I") (by decide +kernel)
  have k26 := hts (.fieldLink RX9 26 "TextPartsModel" "hand" "[I") (by decide +kernel)
  have wconstant_RX9_29_40800 := hts (.constant RX9 29 (40800)) (by decide +kernel)
  have k30 := hts (.fieldLink RX9 30 "TextPartsModel" "latest" "[I") (by decide +kernel)
  have k33 := hts (.fieldLink RX9 33 "TextPartsModel" "heapPlace" "[I") (by decide +kernel)
  have k36 := hts (.fieldLink RX9 36 "TextPartsModel" "heapSender" "[I") (by decide +kernel)
  have k39 := hts (.fieldLink RX9 39 "TextPartsModel" "heapReference" "[I") (by decide +kernel)
  have k42 := hts (.fieldLink RX9 42 "TextPartsModel" "heapParts" "[I") (by decide +kernel)
  have k45 := hts (.fieldLink RX9 45 "TextPartsModel" "heapThere" "[I") (by decide +kernel)
  have k48 := hts (.fieldLink RX9 48 "TextPartsModel" "heapStamp" "[I") (by decide +kernel)
  have k51 := hts (.fieldLink RX9 51 "TextPartsModel" "partCount" "[I") (by decide +kernel)
  have wconstant_RX9_54_652800 := hts (.constant RX9 54 (652800)) (by decide +kernel)
  have k55 := hts (.fieldLink RX9 55 "TextPartsModel" "partUnits" "[I") (by decide +kernel)
  have k58 := hts (.fieldLink RX9 58 "TextPartsModel" "part" "[I") (by decide +kernel)
  have k61 := hts (.fieldLink RX9 61 "TextPartsModel" "unit" "[I") (by decide +kernel)
  have ag_0 : agr (fun t => ¬ (20 ≤ t ∧ t ≤ 46)) h h := agr.rf
  refine lv_aload_n hx hb dX9_init_0 rfl (lv_at hl 0 rfl) ?_
  refine W.objInit hx hb hown wmethodLink_RX9_1_objectInit winstanceMethod_objectInit wcode_objectInit_0xb1_1_none rfl (by rw [hml]; exact hl.1) rfl dX9_init_1 (Nat.le_of_ble_eq_true rfl) (Nat.le_of_ble_eq_true rfl) ?_
  refine W.eq (g2 := F0 m 4 ls []) rfl ?_
  refine lv_aload_n hx hb dX9_init_4 rfl (lv_at hl 0 rfl) ?_
  refine lv_sipush (v := nI 128) hx hb dX9_init_5 (by decide) ?_
  refine ah_newi (n := 128) hx hb hE hR hS warrayClass_int 21 (by omega) (Nat.le_of_ble_eq_true rfl) (Nat.le_of_ble_eq_true rfl) dX9_init_8 (fun q_1 H hq_2 hR hS => ?_)
  rw [nA_0] at hR
  obtain ⟨h_3, e_4⟩ : ∃ zz9, zz9 = ah_up h q_1 (21, .inl (G.2.2.1 0, 128, .inl (nA (fun _ => 0)))) := ⟨_, rfl⟩
  have hR : ah_R G h_3 H := by rw [e_4]; exact hR
  have f_5 : h_3 y = some (20, .inr (8, [.int (nI 0), .null, .null, .int (nI 0), .null, .int (nI 0), .int (nI 0), .null, .null, .int (nI 0), .null, .int (nI 0), .null, .int (nI 0), .null, .null, .null, .null, .null, .null, .int (nI 0), .null, .null, .int (nI 0), .null, .int (nI 0), .null])) := by rw [e_4]; exact ah_new fy hq_2
  have f_6 : h_3 q_1 = some (21, .inl (G.2.2.1 0, 128, .inl (nA (fun _ => 0)))) := by rw [e_4]; exact ah_up_s _ _ _
  have ag_7 : agr (fun t => ¬ (20 ≤ t ∧ t ≤ 46)) h h_3 := by rw [e_4]; exact ag_0.new hq_2
  refine ah_putF (ci := 8) (v := .ref q_1) (ty := .array .int) (C := RX9) (T := TX9) (N := 27) hx hb hE hR hS hts hinX9 tyX9 tyX9_ok nmX9 hown f_5 rfl 1 (by decide) k7 (fun _ h9 => h9) rfl hname rfl (by decide +kernel) rfl rfl (Nat.le_of_ble_eq_true rfl) dX9_init_10 (fun H locs hR hS => ?_)
  obtain ⟨h_8, e_9⟩ : ∃ zz9, zz9 = ah_up h_3 y (20, .inr (8, [.int (nI 0), .ref q_1, .null, .int (nI 0), .null, .int (nI 0), .int (nI 0), .null, .null, .int (nI 0), .null, .int (nI 0), .null, .int (nI 0), .null, .null, .null, .null, .null, .null, .int (nI 0), .null, .null, .int (nI 0), .null, .int (nI 0), .null])) := ⟨_, rfl⟩
  have hR : ah_R G h_8 H := by rw [e_9]; exact hR
  have f_10 : h_8 y = some (20, .inr (8, [.int (nI 0), .ref q_1, .null, .int (nI 0), .null, .int (nI 0), .int (nI 0), .null, .null, .int (nI 0), .null, .int (nI 0), .null, .int (nI 0), .null, .null, .null, .null, .null, .null, .int (nI 0), .null, .null, .int (nI 0), .null, .int (nI 0), .null])) := by rw [e_9]; exact ah_up_s _ _ _
  have f_11 : h_8 q_1 = some (21, .inl (G.2.2.1 0, 128, .inl (nA (fun _ => 0)))) := by rw [e_9]; exact ah_keep f_6 f_5 (by omega)
  have ag_12 : agr (fun t => ¬ (20 ≤ t ∧ t ≤ 46)) h h_8 := by rw [e_9]; exact ag_7.up f_5 (by omega)
  refine lv_aload_n hx hb dX9_init_13 rfl (lv_at hl 0 rfl) ?_
  refine lv_sipush (v := nI 128) hx hb dX9_init_14 (by decide) ?_
  refine ah_newi (n := 128) hx hb hE hR hS warrayClass_int 22 (by omega) (Nat.le_of_ble_eq_true rfl) (Nat.le_of_ble_eq_true rfl) dX9_init_17 (fun q_13 H hq_14 hR hS => ?_)
  rw [nA_0] at hR
  obtain ⟨h_15, e_16⟩ : ∃ zz9, zz9 = ah_up h_8 q_13 (22, .inl (G.2.2.1 0, 128, .inl (nA (fun _ => 0)))) := ⟨_, rfl⟩
  have hR : ah_R G h_15 H := by rw [e_16]; exact hR
  have f_17 : h_15 y = some (20, .inr (8, [.int (nI 0), .ref q_1, .null, .int (nI 0), .null, .int (nI 0), .int (nI 0), .null, .null, .int (nI 0), .null, .int (nI 0), .null, .int (nI 0), .null, .null, .null, .null, .null, .null, .int (nI 0), .null, .null, .int (nI 0), .null, .int (nI 0), .null])) := by rw [e_16]; exact ah_new f_10 hq_14
  have f_18 : h_15 q_1 = some (21, .inl (G.2.2.1 0, 128, .inl (nA (fun _ => 0)))) := by rw [e_16]; exact ah_new f_11 hq_14
  have f_19 : h_15 q_13 = some (22, .inl (G.2.2.1 0, 128, .inl (nA (fun _ => 0)))) := by rw [e_16]; exact ah_up_s _ _ _
  have ag_20 : agr (fun t => ¬ (20 ≤ t ∧ t ≤ 46)) h h_15 := by rw [e_16]; exact ag_12.new hq_14
  refine ah_putF (ci := 8) (v := .ref q_13) (ty := .array .int) (C := RX9) (T := TX9) (N := 27) hx hb hE hR hS hts hinX9 tyX9 tyX9_ok nmX9 hown f_17 rfl 2 (by decide) k13 (fun _ h9 => h9) rfl hname rfl (by decide +kernel) rfl rfl (Nat.le_of_ble_eq_true rfl) dX9_init_19 (fun H locs hR hS => ?_)
  obtain ⟨h_21, e_22⟩ : ∃ zz9, zz9 = ah_up h_15 y (20, .inr (8, [.int (nI 0), .ref q_1, .ref q_13, .int (nI 0), .null, .int (nI 0), .int (nI 0), .null, .null, .int (nI 0), .null, .int (nI 0), .null, .int (nI 0), .null, .null, .null, .null, .null, .null, .int (nI 0), .null, .null, .int (nI 0), .null, .int (nI 0), .null])) := ⟨_, rfl⟩
  have hR : ah_R G h_21 H := by rw [e_22]; exact hR
  have f_23 : h_21 y = some (20, .inr (8, [.int (nI 0), .ref q_1, .ref q_13, .int (nI 0), .null, .int (nI 0), .int (nI 0), .null, .null, .int (nI 0), .null, .int (nI 0), .null, .int (nI 0), .null, .null, .null, .null, .null, .null, .int (nI 0), .null, .null, .int (nI 0), .null, .int (nI 0), .null])) := by rw [e_22]; exact ah_up_s _ _ _
  have f_24 : h_21 q_1 = some (21, .inl (G.2.2.1 0, 128, .inl (nA (fun _ => 0)))) := by rw [e_22]; exact ah_keep f_18 f_17 (by omega)
  have f_25 : h_21 q_13 = some (22, .inl (G.2.2.1 0, 128, .inl (nA (fun _ => 0)))) := by rw [e_22]; exact ah_keep f_19 f_17 (by omega)
  have ag_26 : agr (fun t => ¬ (20 ≤ t ∧ t ≤ 46)) h h_21 := by rw [e_22]; exact ag_20.up f_17 (by omega)
  refine lv_aload_n hx hb dX9_init_22 rfl (lv_at hl 0 rfl) ?_
  refine lv_sipush (v := nI 3000) hx hb dX9_init_23 (by decide) ?_
  refine ah_newi (n := 3000) hx hb hE hR hS warrayClass_int 24 (by omega) (Nat.le_of_ble_eq_true rfl) (Nat.le_of_ble_eq_true rfl) dX9_init_26 (fun q_27 H hq_28 hR hS => ?_)
  rw [nA_0] at hR
  obtain ⟨h_29, e_30⟩ : ∃ zz9, zz9 = ah_up h_21 q_27 (24, .inl (G.2.2.1 0, 3000, .inl (nA (fun _ => 0)))) := ⟨_, rfl⟩
  have hR : ah_R G h_29 H := by rw [e_30]; exact hR
  have f_31 : h_29 y = some (20, .inr (8, [.int (nI 0), .ref q_1, .ref q_13, .int (nI 0), .null, .int (nI 0), .int (nI 0), .null, .null, .int (nI 0), .null, .int (nI 0), .null, .int (nI 0), .null, .null, .null, .null, .null, .null, .int (nI 0), .null, .null, .int (nI 0), .null, .int (nI 0), .null])) := by rw [e_30]; exact ah_new f_23 hq_28
  have f_32 : h_29 q_1 = some (21, .inl (G.2.2.1 0, 128, .inl (nA (fun _ => 0)))) := by rw [e_30]; exact ah_new f_24 hq_28
  have f_33 : h_29 q_13 = some (22, .inl (G.2.2.1 0, 128, .inl (nA (fun _ => 0)))) := by rw [e_30]; exact ah_new f_25 hq_28
  have f_34 : h_29 q_27 = some (24, .inl (G.2.2.1 0, 3000, .inl (nA (fun _ => 0)))) := by rw [e_30]; exact ah_up_s _ _ _
  have ag_35 : agr (fun t => ¬ (20 ≤ t ∧ t ≤ 46)) h h_29 := by rw [e_30]; exact ag_26.new hq_28
  refine ah_putF (ci := 8) (v := .ref q_27) (ty := .array .int) (C := RX9) (T := TX9) (N := 27) hx hb hE hR hS hts hinX9 tyX9 tyX9_ok nmX9 hown f_31 rfl 4 (by decide) k16 (fun _ h9 => h9) rfl hname rfl (by decide +kernel) rfl rfl (Nat.le_of_ble_eq_true rfl) dX9_init_28 (fun H locs hR hS => ?_)
  obtain ⟨h_36, e_37⟩ : ∃ zz9, zz9 = ah_up h_29 y (20, .inr (8, [.int (nI 0), .ref q_1, .ref q_13, .int (nI 0), .ref q_27, .int (nI 0), .int (nI 0), .null, .null, .int (nI 0), .null, .int (nI 0), .null, .int (nI 0), .null, .null, .null, .null, .null, .null, .int (nI 0), .null, .null, .int (nI 0), .null, .int (nI 0), .null])) := ⟨_, rfl⟩
  have hR : ah_R G h_36 H := by rw [e_37]; exact hR
  have f_38 : h_36 y = some (20, .inr (8, [.int (nI 0), .ref q_1, .ref q_13, .int (nI 0), .ref q_27, .int (nI 0), .int (nI 0), .null, .null, .int (nI 0), .null, .int (nI 0), .null, .int (nI 0), .null, .null, .null, .null, .null, .null, .int (nI 0), .null, .null, .int (nI 0), .null, .int (nI 0), .null])) := by rw [e_37]; exact ah_up_s _ _ _
  have f_39 : h_36 q_1 = some (21, .inl (G.2.2.1 0, 128, .inl (nA (fun _ => 0)))) := by rw [e_37]; exact ah_keep f_32 f_31 (by omega)
  have f_40 : h_36 q_13 = some (22, .inl (G.2.2.1 0, 128, .inl (nA (fun _ => 0)))) := by rw [e_37]; exact ah_keep f_33 f_31 (by omega)
  have f_41 : h_36 q_27 = some (24, .inl (G.2.2.1 0, 3000, .inl (nA (fun _ => 0)))) := by rw [e_37]; exact ah_keep f_34 f_31 (by omega)
  have ag_42 : agr (fun t => ¬ (20 ≤ t ∧ t ≤ 46)) h h_36 := by rw [e_37]; exact ag_35.up f_31 (by omega)
  refine lv_aload_n hx hb dX9_init_31 rfl (lv_at hl 0 rfl) ?_
  refine lv_sipush (v := nI 255) hx hb dX9_init_32 (by decide) ?_
  refine ah_newi (n := 255) hx hb hE hR hS warrayClass_int 27 (by omega) (Nat.le_of_ble_eq_true rfl) (Nat.le_of_ble_eq_true rfl) dX9_init_35 (fun q_43 H hq_44 hR hS => ?_)
  rw [nA_0] at hR
  obtain ⟨h_45, e_46⟩ : ∃ zz9, zz9 = ah_up h_36 q_43 (27, .inl (G.2.2.1 0, 255, .inl (nA (fun _ => 0)))) := ⟨_, rfl⟩
  have hR : ah_R G h_45 H := by rw [e_46]; exact hR
  have f_47 : h_45 y = some (20, .inr (8, [.int (nI 0), .ref q_1, .ref q_13, .int (nI 0), .ref q_27, .int (nI 0), .int (nI 0), .null, .null, .int (nI 0), .null, .int (nI 0), .null, .int (nI 0), .null, .null, .null, .null, .null, .null, .int (nI 0), .null, .null, .int (nI 0), .null, .int (nI 0), .null])) := by rw [e_46]; exact ah_new f_38 hq_44
  have f_48 : h_45 q_1 = some (21, .inl (G.2.2.1 0, 128, .inl (nA (fun _ => 0)))) := by rw [e_46]; exact ah_new f_39 hq_44
  have f_49 : h_45 q_13 = some (22, .inl (G.2.2.1 0, 128, .inl (nA (fun _ => 0)))) := by rw [e_46]; exact ah_new f_40 hq_44
  have f_50 : h_45 q_27 = some (24, .inl (G.2.2.1 0, 3000, .inl (nA (fun _ => 0)))) := by rw [e_46]; exact ah_new f_41 hq_44
  have f_51 : h_45 q_43 = some (27, .inl (G.2.2.1 0, 255, .inl (nA (fun _ => 0)))) := by rw [e_46]; exact ah_up_s _ _ _
  have ag_52 : agr (fun t => ¬ (20 ≤ t ∧ t ≤ 46)) h h_45 := by rw [e_46]; exact ag_42.new hq_44
  refine ah_putF (ci := 8) (v := .ref q_43) (ty := .array .int) (C := RX9) (T := TX9) (N := 27) hx hb hE hR hS hts hinX9 tyX9 tyX9_ok nmX9 hown f_47 rfl 7 (by decide) k19 (fun _ h9 => h9) rfl hname rfl (by decide +kernel) rfl rfl (Nat.le_of_ble_eq_true rfl) dX9_init_37 (fun H locs hR hS => ?_)
  obtain ⟨h_53, e_54⟩ : ∃ zz9, zz9 = ah_up h_45 y (20, .inr (8, [.int (nI 0), .ref q_1, .ref q_13, .int (nI 0), .ref q_27, .int (nI 0), .int (nI 0), .ref q_43, .null, .int (nI 0), .null, .int (nI 0), .null, .int (nI 0), .null, .null, .null, .null, .null, .null, .int (nI 0), .null, .null, .int (nI 0), .null, .int (nI 0), .null])) := ⟨_, rfl⟩
  have hR : ah_R G h_53 H := by rw [e_54]; exact hR
  have f_55 : h_53 y = some (20, .inr (8, [.int (nI 0), .ref q_1, .ref q_13, .int (nI 0), .ref q_27, .int (nI 0), .int (nI 0), .ref q_43, .null, .int (nI 0), .null, .int (nI 0), .null, .int (nI 0), .null, .null, .null, .null, .null, .null, .int (nI 0), .null, .null, .int (nI 0), .null, .int (nI 0), .null])) := by rw [e_54]; exact ah_up_s _ _ _
  have f_56 : h_53 q_1 = some (21, .inl (G.2.2.1 0, 128, .inl (nA (fun _ => 0)))) := by rw [e_54]; exact ah_keep f_48 f_47 (by omega)
  have f_57 : h_53 q_13 = some (22, .inl (G.2.2.1 0, 128, .inl (nA (fun _ => 0)))) := by rw [e_54]; exact ah_keep f_49 f_47 (by omega)
  have f_58 : h_53 q_27 = some (24, .inl (G.2.2.1 0, 3000, .inl (nA (fun _ => 0)))) := by rw [e_54]; exact ah_keep f_50 f_47 (by omega)
  have f_59 : h_53 q_43 = some (27, .inl (G.2.2.1 0, 255, .inl (nA (fun _ => 0)))) := by rw [e_54]; exact ah_keep f_51 f_47 (by omega)
  have ag_60 : agr (fun t => ¬ (20 ≤ t ∧ t ≤ 46)) h h_53 := by rw [e_54]; exact ag_52.up f_47 (by omega)
  refine lv_aload_n hx hb dX9_init_40 rfl (lv_at hl 0 rfl) ?_
  refine lv_ldc (v := 36210) hx hb hown wconstant_RX9_22_36210 dX9_init_41 ?_
  refine ah_toi (v := nI 36210) (by decide) ?_
  refine ah_newi (n := 36210) hx hb hE hR hS warrayClass_int 28 (by omega) (Nat.le_of_ble_eq_true rfl) (Nat.le_of_ble_eq_true rfl) dX9_init_43 (fun q_61 H hq_62 hR hS => ?_)
  rw [nA_0] at hR
  obtain ⟨h_63, e_64⟩ : ∃ zz9, zz9 = ah_up h_53 q_61 (28, .inl (G.2.2.1 0, 36210, .inl (nA (fun _ => 0)))) := ⟨_, rfl⟩
  have hR : ah_R G h_63 H := by rw [e_64]; exact hR
  have f_65 : h_63 y = some (20, .inr (8, [.int (nI 0), .ref q_1, .ref q_13, .int (nI 0), .ref q_27, .int (nI 0), .int (nI 0), .ref q_43, .null, .int (nI 0), .null, .int (nI 0), .null, .int (nI 0), .null, .null, .null, .null, .null, .null, .int (nI 0), .null, .null, .int (nI 0), .null, .int (nI 0), .null])) := by rw [e_64]; exact ah_new f_55 hq_62
  have f_66 : h_63 q_1 = some (21, .inl (G.2.2.1 0, 128, .inl (nA (fun _ => 0)))) := by rw [e_64]; exact ah_new f_56 hq_62
  have f_67 : h_63 q_13 = some (22, .inl (G.2.2.1 0, 128, .inl (nA (fun _ => 0)))) := by rw [e_64]; exact ah_new f_57 hq_62
  have f_68 : h_63 q_27 = some (24, .inl (G.2.2.1 0, 3000, .inl (nA (fun _ => 0)))) := by rw [e_64]; exact ah_new f_58 hq_62
  have f_69 : h_63 q_43 = some (27, .inl (G.2.2.1 0, 255, .inl (nA (fun _ => 0)))) := by rw [e_64]; exact ah_new f_59 hq_62
  have f_70 : h_63 q_61 = some (28, .inl (G.2.2.1 0, 36210, .inl (nA (fun _ => 0)))) := by rw [e_64]; exact ah_up_s _ _ _
  have ag_71 : agr (fun t => ¬ (20 ≤ t ∧ t ≤ 46)) h h_63 := by rw [e_64]; exact ag_60.new hq_62
  refine ah_putF (ci := 8) (v := .ref q_61) (ty := .array .int) (C := RX9) (T := TX9) (N := 27) hx hb hE hR hS hts hinX9 tyX9 tyX9_ok nmX9 hown f_65 rfl 8 (by decide) k23 (fun _ h9 => h9) rfl hname rfl (by decide +kernel) rfl rfl (Nat.le_of_ble_eq_true rfl) dX9_init_45 (fun H locs hR hS => ?_)
  obtain ⟨h_72, e_73⟩ : ∃ zz9, zz9 = ah_up h_63 y (20, .inr (8, [.int (nI 0), .ref q_1, .ref q_13, .int (nI 0), .ref q_27, .int (nI 0), .int (nI 0), .ref q_43, .ref q_61, .int (nI 0), .null, .int (nI 0), .null, .int (nI 0), .null, .null, .null, .null, .null, .null, .int (nI 0), .null, .null, .int (nI 0), .null, .int (nI 0), .null])) := ⟨_, rfl⟩
  have hR : ah_R G h_72 H := by rw [e_73]; exact hR
  have f_74 : h_72 y = some (20, .inr (8, [.int (nI 0), .ref q_1, .ref q_13, .int (nI 0), .ref q_27, .int (nI 0), .int (nI 0), .ref q_43, .ref q_61, .int (nI 0), .null, .int (nI 0), .null, .int (nI 0), .null, .null, .null, .null, .null, .null, .int (nI 0), .null, .null, .int (nI 0), .null, .int (nI 0), .null])) := by rw [e_73]; exact ah_up_s _ _ _
  have f_75 : h_72 q_1 = some (21, .inl (G.2.2.1 0, 128, .inl (nA (fun _ => 0)))) := by rw [e_73]; exact ah_keep f_66 f_65 (by omega)
  have f_76 : h_72 q_13 = some (22, .inl (G.2.2.1 0, 128, .inl (nA (fun _ => 0)))) := by rw [e_73]; exact ah_keep f_67 f_65 (by omega)
  have f_77 : h_72 q_27 = some (24, .inl (G.2.2.1 0, 3000, .inl (nA (fun _ => 0)))) := by rw [e_73]; exact ah_keep f_68 f_65 (by omega)
  have f_78 : h_72 q_43 = some (27, .inl (G.2.2.1 0, 255, .inl (nA (fun _ => 0)))) := by rw [e_73]; exact ah_keep f_69 f_65 (by omega)
  have f_79 : h_72 q_61 = some (28, .inl (G.2.2.1 0, 36210, .inl (nA (fun _ => 0)))) := by rw [e_73]; exact ah_keep f_70 f_65 (by omega)
  have ag_80 : agr (fun t => ¬ (20 ≤ t ∧ t ≤ 46)) h h_72 := by rw [e_73]; exact ag_71.up f_65 (by omega)
  refine lv_aload_n hx hb dX9_init_48 rfl (lv_at hl 0 rfl) ?_
  refine lv_sipush (v := nI 200) hx hb dX9_init_49 (by decide) ?_
  refine ah_newi (n := 200) hx hb hE hR hS warrayClass_int 30 (by omega) (Nat.le_of_ble_eq_true rfl) (Nat.le_of_ble_eq_true rfl) dX9_init_52 (fun q_81 H hq_82 hR hS => ?_)
  rw [nA_0] at hR
  obtain ⟨h_83, e_84⟩ : ∃ zz9, zz9 = ah_up h_72 q_81 (30, .inl (G.2.2.1 0, 200, .inl (nA (fun _ => 0)))) := ⟨_, rfl⟩
  have hR : ah_R G h_83 H := by rw [e_84]; exact hR
  have f_85 : h_83 y = some (20, .inr (8, [.int (nI 0), .ref q_1, .ref q_13, .int (nI 0), .ref q_27, .int (nI 0), .int (nI 0), .ref q_43, .ref q_61, .int (nI 0), .null, .int (nI 0), .null, .int (nI 0), .null, .null, .null, .null, .null, .null, .int (nI 0), .null, .null, .int (nI 0), .null, .int (nI 0), .null])) := by rw [e_84]; exact ah_new f_74 hq_82
  have f_86 : h_83 q_1 = some (21, .inl (G.2.2.1 0, 128, .inl (nA (fun _ => 0)))) := by rw [e_84]; exact ah_new f_75 hq_82
  have f_87 : h_83 q_13 = some (22, .inl (G.2.2.1 0, 128, .inl (nA (fun _ => 0)))) := by rw [e_84]; exact ah_new f_76 hq_82
  have f_88 : h_83 q_27 = some (24, .inl (G.2.2.1 0, 3000, .inl (nA (fun _ => 0)))) := by rw [e_84]; exact ah_new f_77 hq_82
  have f_89 : h_83 q_43 = some (27, .inl (G.2.2.1 0, 255, .inl (nA (fun _ => 0)))) := by rw [e_84]; exact ah_new f_78 hq_82
  have f_90 : h_83 q_61 = some (28, .inl (G.2.2.1 0, 36210, .inl (nA (fun _ => 0)))) := by rw [e_84]; exact ah_new f_79 hq_82
  have f_91 : h_83 q_81 = some (30, .inl (G.2.2.1 0, 200, .inl (nA (fun _ => 0)))) := by rw [e_84]; exact ah_up_s _ _ _
  have ag_92 : agr (fun t => ¬ (20 ≤ t ∧ t ≤ 46)) h h_83 := by rw [e_84]; exact ag_80.new hq_82
  refine ah_putF (ci := 8) (v := .ref q_81) (ty := .array .int) (C := RX9) (T := TX9) (N := 27) hx hb hE hR hS hts hinX9 tyX9 tyX9_ok nmX9 hown f_85 rfl 10 (by decide) k26 (fun _ h9 => h9) rfl hname rfl (by decide +kernel) rfl rfl (Nat.le_of_ble_eq_true rfl) dX9_init_54 (fun H locs hR hS => ?_)
  obtain ⟨h_93, e_94⟩ : ∃ zz9, zz9 = ah_up h_83 y (20, .inr (8, [.int (nI 0), .ref q_1, .ref q_13, .int (nI 0), .ref q_27, .int (nI 0), .int (nI 0), .ref q_43, .ref q_61, .int (nI 0), .ref q_81, .int (nI 0), .null, .int (nI 0), .null, .null, .null, .null, .null, .null, .int (nI 0), .null, .null, .int (nI 0), .null, .int (nI 0), .null])) := ⟨_, rfl⟩
  have hR : ah_R G h_93 H := by rw [e_94]; exact hR
  have f_95 : h_93 y = some (20, .inr (8, [.int (nI 0), .ref q_1, .ref q_13, .int (nI 0), .ref q_27, .int (nI 0), .int (nI 0), .ref q_43, .ref q_61, .int (nI 0), .ref q_81, .int (nI 0), .null, .int (nI 0), .null, .null, .null, .null, .null, .null, .int (nI 0), .null, .null, .int (nI 0), .null, .int (nI 0), .null])) := by rw [e_94]; exact ah_up_s _ _ _
  have f_96 : h_93 q_1 = some (21, .inl (G.2.2.1 0, 128, .inl (nA (fun _ => 0)))) := by rw [e_94]; exact ah_keep f_86 f_85 (by omega)
  have f_97 : h_93 q_13 = some (22, .inl (G.2.2.1 0, 128, .inl (nA (fun _ => 0)))) := by rw [e_94]; exact ah_keep f_87 f_85 (by omega)
  have f_98 : h_93 q_27 = some (24, .inl (G.2.2.1 0, 3000, .inl (nA (fun _ => 0)))) := by rw [e_94]; exact ah_keep f_88 f_85 (by omega)
  have f_99 : h_93 q_43 = some (27, .inl (G.2.2.1 0, 255, .inl (nA (fun _ => 0)))) := by rw [e_94]; exact ah_keep f_89 f_85 (by omega)
  have f_100 : h_93 q_61 = some (28, .inl (G.2.2.1 0, 36210, .inl (nA (fun _ => 0)))) := by rw [e_94]; exact ah_keep f_90 f_85 (by omega)
  have f_101 : h_93 q_81 = some (30, .inl (G.2.2.1 0, 200, .inl (nA (fun _ => 0)))) := by rw [e_94]; exact ah_keep f_91 f_85 (by omega)
  have ag_102 : agr (fun t => ¬ (20 ≤ t ∧ t ≤ 46)) h h_93 := by rw [e_94]; exact ag_92.up f_85 (by omega)
  refine lv_aload_n hx hb dX9_init_57 rfl (lv_at hl 0 rfl) ?_
  refine lv_ldc (v := 40800) hx hb hown wconstant_RX9_29_40800 dX9_init_58 ?_
  refine ah_toi (v := nI 40800) (by decide) ?_
  refine ah_newi (n := 40800) hx hb hE hR hS warrayClass_int 32 (by omega) (Nat.le_of_ble_eq_true rfl) (Nat.le_of_ble_eq_true rfl) dX9_init_60 (fun q_103 H hq_104 hR hS => ?_)
  rw [nA_0] at hR
  obtain ⟨h_105, e_106⟩ : ∃ zz9, zz9 = ah_up h_93 q_103 (32, .inl (G.2.2.1 0, 40800, .inl (nA (fun _ => 0)))) := ⟨_, rfl⟩
  have hR : ah_R G h_105 H := by rw [e_106]; exact hR
  have f_107 : h_105 y = some (20, .inr (8, [.int (nI 0), .ref q_1, .ref q_13, .int (nI 0), .ref q_27, .int (nI 0), .int (nI 0), .ref q_43, .ref q_61, .int (nI 0), .ref q_81, .int (nI 0), .null, .int (nI 0), .null, .null, .null, .null, .null, .null, .int (nI 0), .null, .null, .int (nI 0), .null, .int (nI 0), .null])) := by rw [e_106]; exact ah_new f_95 hq_104
  have f_108 : h_105 q_1 = some (21, .inl (G.2.2.1 0, 128, .inl (nA (fun _ => 0)))) := by rw [e_106]; exact ah_new f_96 hq_104
  have f_109 : h_105 q_13 = some (22, .inl (G.2.2.1 0, 128, .inl (nA (fun _ => 0)))) := by rw [e_106]; exact ah_new f_97 hq_104
  have f_110 : h_105 q_27 = some (24, .inl (G.2.2.1 0, 3000, .inl (nA (fun _ => 0)))) := by rw [e_106]; exact ah_new f_98 hq_104
  have f_111 : h_105 q_43 = some (27, .inl (G.2.2.1 0, 255, .inl (nA (fun _ => 0)))) := by rw [e_106]; exact ah_new f_99 hq_104
  have f_112 : h_105 q_61 = some (28, .inl (G.2.2.1 0, 36210, .inl (nA (fun _ => 0)))) := by rw [e_106]; exact ah_new f_100 hq_104
  have f_113 : h_105 q_81 = some (30, .inl (G.2.2.1 0, 200, .inl (nA (fun _ => 0)))) := by rw [e_106]; exact ah_new f_101 hq_104
  have f_114 : h_105 q_103 = some (32, .inl (G.2.2.1 0, 40800, .inl (nA (fun _ => 0)))) := by rw [e_106]; exact ah_up_s _ _ _
  have ag_115 : agr (fun t => ¬ (20 ≤ t ∧ t ≤ 46)) h h_105 := by rw [e_106]; exact ag_102.new hq_104
  refine ah_putF (ci := 8) (v := .ref q_103) (ty := .array .int) (C := RX9) (T := TX9) (N := 27) hx hb hE hR hS hts hinX9 tyX9 tyX9_ok nmX9 hown f_107 rfl 12 (by decide) k30 (fun _ h9 => h9) rfl hname rfl (by decide +kernel) rfl rfl (Nat.le_of_ble_eq_true rfl) dX9_init_62 (fun H locs hR hS => ?_)
  obtain ⟨h_116, e_117⟩ : ∃ zz9, zz9 = ah_up h_105 y (20, .inr (8, [.int (nI 0), .ref q_1, .ref q_13, .int (nI 0), .ref q_27, .int (nI 0), .int (nI 0), .ref q_43, .ref q_61, .int (nI 0), .ref q_81, .int (nI 0), .ref q_103, .int (nI 0), .null, .null, .null, .null, .null, .null, .int (nI 0), .null, .null, .int (nI 0), .null, .int (nI 0), .null])) := ⟨_, rfl⟩
  have hR : ah_R G h_116 H := by rw [e_117]; exact hR
  have f_118 : h_116 y = some (20, .inr (8, [.int (nI 0), .ref q_1, .ref q_13, .int (nI 0), .ref q_27, .int (nI 0), .int (nI 0), .ref q_43, .ref q_61, .int (nI 0), .ref q_81, .int (nI 0), .ref q_103, .int (nI 0), .null, .null, .null, .null, .null, .null, .int (nI 0), .null, .null, .int (nI 0), .null, .int (nI 0), .null])) := by rw [e_117]; exact ah_up_s _ _ _
  have f_119 : h_116 q_1 = some (21, .inl (G.2.2.1 0, 128, .inl (nA (fun _ => 0)))) := by rw [e_117]; exact ah_keep f_108 f_107 (by omega)
  have f_120 : h_116 q_13 = some (22, .inl (G.2.2.1 0, 128, .inl (nA (fun _ => 0)))) := by rw [e_117]; exact ah_keep f_109 f_107 (by omega)
  have f_121 : h_116 q_27 = some (24, .inl (G.2.2.1 0, 3000, .inl (nA (fun _ => 0)))) := by rw [e_117]; exact ah_keep f_110 f_107 (by omega)
  have f_122 : h_116 q_43 = some (27, .inl (G.2.2.1 0, 255, .inl (nA (fun _ => 0)))) := by rw [e_117]; exact ah_keep f_111 f_107 (by omega)
  have f_123 : h_116 q_61 = some (28, .inl (G.2.2.1 0, 36210, .inl (nA (fun _ => 0)))) := by rw [e_117]; exact ah_keep f_112 f_107 (by omega)
  have f_124 : h_116 q_81 = some (30, .inl (G.2.2.1 0, 200, .inl (nA (fun _ => 0)))) := by rw [e_117]; exact ah_keep f_113 f_107 (by omega)
  have f_125 : h_116 q_103 = some (32, .inl (G.2.2.1 0, 40800, .inl (nA (fun _ => 0)))) := by rw [e_117]; exact ah_keep f_114 f_107 (by omega)
  have ag_126 : agr (fun t => ¬ (20 ≤ t ∧ t ≤ 46)) h h_116 := by rw [e_117]; exact ag_115.up f_107 (by omega)
  refine lv_aload_n hx hb dX9_init_65 rfl (lv_at hl 0 rfl) ?_
  refine lv_bipush (v := nI 16) hx hb dX9_init_66 (by decide) ?_
  refine ah_newi (n := 16) hx hb hE hR hS warrayClass_int 34 (by omega) (Nat.le_of_ble_eq_true rfl) (Nat.le_of_ble_eq_true rfl) dX9_init_68 (fun q_127 H hq_128 hR hS => ?_)
  rw [nA_0] at hR
  obtain ⟨h_129, e_130⟩ : ∃ zz9, zz9 = ah_up h_116 q_127 (34, .inl (G.2.2.1 0, 16, .inl (nA (fun _ => 0)))) := ⟨_, rfl⟩
  have hR : ah_R G h_129 H := by rw [e_130]; exact hR
  have f_131 : h_129 y = some (20, .inr (8, [.int (nI 0), .ref q_1, .ref q_13, .int (nI 0), .ref q_27, .int (nI 0), .int (nI 0), .ref q_43, .ref q_61, .int (nI 0), .ref q_81, .int (nI 0), .ref q_103, .int (nI 0), .null, .null, .null, .null, .null, .null, .int (nI 0), .null, .null, .int (nI 0), .null, .int (nI 0), .null])) := by rw [e_130]; exact ah_new f_118 hq_128
  have f_132 : h_129 q_1 = some (21, .inl (G.2.2.1 0, 128, .inl (nA (fun _ => 0)))) := by rw [e_130]; exact ah_new f_119 hq_128
  have f_133 : h_129 q_13 = some (22, .inl (G.2.2.1 0, 128, .inl (nA (fun _ => 0)))) := by rw [e_130]; exact ah_new f_120 hq_128
  have f_134 : h_129 q_27 = some (24, .inl (G.2.2.1 0, 3000, .inl (nA (fun _ => 0)))) := by rw [e_130]; exact ah_new f_121 hq_128
  have f_135 : h_129 q_43 = some (27, .inl (G.2.2.1 0, 255, .inl (nA (fun _ => 0)))) := by rw [e_130]; exact ah_new f_122 hq_128
  have f_136 : h_129 q_61 = some (28, .inl (G.2.2.1 0, 36210, .inl (nA (fun _ => 0)))) := by rw [e_130]; exact ah_new f_123 hq_128
  have f_137 : h_129 q_81 = some (30, .inl (G.2.2.1 0, 200, .inl (nA (fun _ => 0)))) := by rw [e_130]; exact ah_new f_124 hq_128
  have f_138 : h_129 q_103 = some (32, .inl (G.2.2.1 0, 40800, .inl (nA (fun _ => 0)))) := by rw [e_130]; exact ah_new f_125 hq_128
  have f_139 : h_129 q_127 = some (34, .inl (G.2.2.1 0, 16, .inl (nA (fun _ => 0)))) := by rw [e_130]; exact ah_up_s _ _ _
  have ag_140 : agr (fun t => ¬ (20 ≤ t ∧ t ≤ 46)) h h_129 := by rw [e_130]; exact ag_126.new hq_128
  refine ah_putF (ci := 8) (v := .ref q_127) (ty := .array .int) (C := RX9) (T := TX9) (N := 27) hx hb hE hR hS hts hinX9 tyX9 tyX9_ok nmX9 hown f_131 rfl 14 (by decide) k33 (fun _ h9 => h9) rfl hname rfl (by decide +kernel) rfl rfl (Nat.le_of_ble_eq_true rfl) dX9_init_70 (fun H locs hR hS => ?_)
  obtain ⟨h_141, e_142⟩ : ∃ zz9, zz9 = ah_up h_129 y (20, .inr (8, [.int (nI 0), .ref q_1, .ref q_13, .int (nI 0), .ref q_27, .int (nI 0), .int (nI 0), .ref q_43, .ref q_61, .int (nI 0), .ref q_81, .int (nI 0), .ref q_103, .int (nI 0), .ref q_127, .null, .null, .null, .null, .null, .int (nI 0), .null, .null, .int (nI 0), .null, .int (nI 0), .null])) := ⟨_, rfl⟩
  have hR : ah_R G h_141 H := by rw [e_142]; exact hR
  have f_143 : h_141 y = some (20, .inr (8, [.int (nI 0), .ref q_1, .ref q_13, .int (nI 0), .ref q_27, .int (nI 0), .int (nI 0), .ref q_43, .ref q_61, .int (nI 0), .ref q_81, .int (nI 0), .ref q_103, .int (nI 0), .ref q_127, .null, .null, .null, .null, .null, .int (nI 0), .null, .null, .int (nI 0), .null, .int (nI 0), .null])) := by rw [e_142]; exact ah_up_s _ _ _
  have f_144 : h_141 q_1 = some (21, .inl (G.2.2.1 0, 128, .inl (nA (fun _ => 0)))) := by rw [e_142]; exact ah_keep f_132 f_131 (by omega)
  have f_145 : h_141 q_13 = some (22, .inl (G.2.2.1 0, 128, .inl (nA (fun _ => 0)))) := by rw [e_142]; exact ah_keep f_133 f_131 (by omega)
  have f_146 : h_141 q_27 = some (24, .inl (G.2.2.1 0, 3000, .inl (nA (fun _ => 0)))) := by rw [e_142]; exact ah_keep f_134 f_131 (by omega)
  have f_147 : h_141 q_43 = some (27, .inl (G.2.2.1 0, 255, .inl (nA (fun _ => 0)))) := by rw [e_142]; exact ah_keep f_135 f_131 (by omega)
  have f_148 : h_141 q_61 = some (28, .inl (G.2.2.1 0, 36210, .inl (nA (fun _ => 0)))) := by rw [e_142]; exact ah_keep f_136 f_131 (by omega)
  have f_149 : h_141 q_81 = some (30, .inl (G.2.2.1 0, 200, .inl (nA (fun _ => 0)))) := by rw [e_142]; exact ah_keep f_137 f_131 (by omega)
  have f_150 : h_141 q_103 = some (32, .inl (G.2.2.1 0, 40800, .inl (nA (fun _ => 0)))) := by rw [e_142]; exact ah_keep f_138 f_131 (by omega)
  have f_151 : h_141 q_127 = some (34, .inl (G.2.2.1 0, 16, .inl (nA (fun _ => 0)))) := by rw [e_142]; exact ah_keep f_139 f_131 (by omega)
  have ag_152 : agr (fun t => ¬ (20 ≤ t ∧ t ≤ 46)) h h_141 := by rw [e_142]; exact ag_140.up f_131 (by omega)
  refine lv_aload_n hx hb dX9_init_73 rfl (lv_at hl 0 rfl) ?_
  refine lv_bipush (v := nI 16) hx hb dX9_init_74 (by decide) ?_
  refine ah_newi (n := 16) hx hb hE hR hS warrayClass_int 35 (by omega) (Nat.le_of_ble_eq_true rfl) (Nat.le_of_ble_eq_true rfl) dX9_init_76 (fun q_153 H hq_154 hR hS => ?_)
  rw [nA_0] at hR
  obtain ⟨h_155, e_156⟩ : ∃ zz9, zz9 = ah_up h_141 q_153 (35, .inl (G.2.2.1 0, 16, .inl (nA (fun _ => 0)))) := ⟨_, rfl⟩
  have hR : ah_R G h_155 H := by rw [e_156]; exact hR
  have f_157 : h_155 y = some (20, .inr (8, [.int (nI 0), .ref q_1, .ref q_13, .int (nI 0), .ref q_27, .int (nI 0), .int (nI 0), .ref q_43, .ref q_61, .int (nI 0), .ref q_81, .int (nI 0), .ref q_103, .int (nI 0), .ref q_127, .null, .null, .null, .null, .null, .int (nI 0), .null, .null, .int (nI 0), .null, .int (nI 0), .null])) := by rw [e_156]; exact ah_new f_143 hq_154
  have f_158 : h_155 q_1 = some (21, .inl (G.2.2.1 0, 128, .inl (nA (fun _ => 0)))) := by rw [e_156]; exact ah_new f_144 hq_154
  have f_159 : h_155 q_13 = some (22, .inl (G.2.2.1 0, 128, .inl (nA (fun _ => 0)))) := by rw [e_156]; exact ah_new f_145 hq_154
  have f_160 : h_155 q_27 = some (24, .inl (G.2.2.1 0, 3000, .inl (nA (fun _ => 0)))) := by rw [e_156]; exact ah_new f_146 hq_154
  have f_161 : h_155 q_43 = some (27, .inl (G.2.2.1 0, 255, .inl (nA (fun _ => 0)))) := by rw [e_156]; exact ah_new f_147 hq_154
  have f_162 : h_155 q_61 = some (28, .inl (G.2.2.1 0, 36210, .inl (nA (fun _ => 0)))) := by rw [e_156]; exact ah_new f_148 hq_154
  have f_163 : h_155 q_81 = some (30, .inl (G.2.2.1 0, 200, .inl (nA (fun _ => 0)))) := by rw [e_156]; exact ah_new f_149 hq_154
  have f_164 : h_155 q_103 = some (32, .inl (G.2.2.1 0, 40800, .inl (nA (fun _ => 0)))) := by rw [e_156]; exact ah_new f_150 hq_154
  have f_165 : h_155 q_127 = some (34, .inl (G.2.2.1 0, 16, .inl (nA (fun _ => 0)))) := by rw [e_156]; exact ah_new f_151 hq_154
  have f_166 : h_155 q_153 = some (35, .inl (G.2.2.1 0, 16, .inl (nA (fun _ => 0)))) := by rw [e_156]; exact ah_up_s _ _ _
  have ag_167 : agr (fun t => ¬ (20 ≤ t ∧ t ≤ 46)) h h_155 := by rw [e_156]; exact ag_152.new hq_154
  refine ah_putF (ci := 8) (v := .ref q_153) (ty := .array .int) (C := RX9) (T := TX9) (N := 27) hx hb hE hR hS hts hinX9 tyX9 tyX9_ok nmX9 hown f_157 rfl 15 (by decide) k36 (fun _ h9 => h9) rfl hname rfl (by decide +kernel) rfl rfl (Nat.le_of_ble_eq_true rfl) dX9_init_78 (fun H locs hR hS => ?_)
  obtain ⟨h_168, e_169⟩ : ∃ zz9, zz9 = ah_up h_155 y (20, .inr (8, [.int (nI 0), .ref q_1, .ref q_13, .int (nI 0), .ref q_27, .int (nI 0), .int (nI 0), .ref q_43, .ref q_61, .int (nI 0), .ref q_81, .int (nI 0), .ref q_103, .int (nI 0), .ref q_127, .ref q_153, .null, .null, .null, .null, .int (nI 0), .null, .null, .int (nI 0), .null, .int (nI 0), .null])) := ⟨_, rfl⟩
  have hR : ah_R G h_168 H := by rw [e_169]; exact hR
  have f_170 : h_168 y = some (20, .inr (8, [.int (nI 0), .ref q_1, .ref q_13, .int (nI 0), .ref q_27, .int (nI 0), .int (nI 0), .ref q_43, .ref q_61, .int (nI 0), .ref q_81, .int (nI 0), .ref q_103, .int (nI 0), .ref q_127, .ref q_153, .null, .null, .null, .null, .int (nI 0), .null, .null, .int (nI 0), .null, .int (nI 0), .null])) := by rw [e_169]; exact ah_up_s _ _ _
  have f_171 : h_168 q_1 = some (21, .inl (G.2.2.1 0, 128, .inl (nA (fun _ => 0)))) := by rw [e_169]; exact ah_keep f_158 f_157 (by omega)
  have f_172 : h_168 q_13 = some (22, .inl (G.2.2.1 0, 128, .inl (nA (fun _ => 0)))) := by rw [e_169]; exact ah_keep f_159 f_157 (by omega)
  have f_173 : h_168 q_27 = some (24, .inl (G.2.2.1 0, 3000, .inl (nA (fun _ => 0)))) := by rw [e_169]; exact ah_keep f_160 f_157 (by omega)
  have f_174 : h_168 q_43 = some (27, .inl (G.2.2.1 0, 255, .inl (nA (fun _ => 0)))) := by rw [e_169]; exact ah_keep f_161 f_157 (by omega)
  have f_175 : h_168 q_61 = some (28, .inl (G.2.2.1 0, 36210, .inl (nA (fun _ => 0)))) := by rw [e_169]; exact ah_keep f_162 f_157 (by omega)
  have f_176 : h_168 q_81 = some (30, .inl (G.2.2.1 0, 200, .inl (nA (fun _ => 0)))) := by rw [e_169]; exact ah_keep f_163 f_157 (by omega)
  have f_177 : h_168 q_103 = some (32, .inl (G.2.2.1 0, 40800, .inl (nA (fun _ => 0)))) := by rw [e_169]; exact ah_keep f_164 f_157 (by omega)
  have f_178 : h_168 q_127 = some (34, .inl (G.2.2.1 0, 16, .inl (nA (fun _ => 0)))) := by rw [e_169]; exact ah_keep f_165 f_157 (by omega)
  have f_179 : h_168 q_153 = some (35, .inl (G.2.2.1 0, 16, .inl (nA (fun _ => 0)))) := by rw [e_169]; exact ah_keep f_166 f_157 (by omega)
  have ag_180 : agr (fun t => ¬ (20 ≤ t ∧ t ≤ 46)) h h_168 := by rw [e_169]; exact ag_167.up f_157 (by omega)
  refine lv_aload_n hx hb dX9_init_81 rfl (lv_at hl 0 rfl) ?_
  refine lv_bipush (v := nI 16) hx hb dX9_init_82 (by decide) ?_
  refine ah_newi (n := 16) hx hb hE hR hS warrayClass_int 36 (by omega) (Nat.le_of_ble_eq_true rfl) (Nat.le_of_ble_eq_true rfl) dX9_init_84 (fun q_181 H hq_182 hR hS => ?_)
  rw [nA_0] at hR
  obtain ⟨h_183, e_184⟩ : ∃ zz9, zz9 = ah_up h_168 q_181 (36, .inl (G.2.2.1 0, 16, .inl (nA (fun _ => 0)))) := ⟨_, rfl⟩
  have hR : ah_R G h_183 H := by rw [e_184]; exact hR
  have f_185 : h_183 y = some (20, .inr (8, [.int (nI 0), .ref q_1, .ref q_13, .int (nI 0), .ref q_27, .int (nI 0), .int (nI 0), .ref q_43, .ref q_61, .int (nI 0), .ref q_81, .int (nI 0), .ref q_103, .int (nI 0), .ref q_127, .ref q_153, .null, .null, .null, .null, .int (nI 0), .null, .null, .int (nI 0), .null, .int (nI 0), .null])) := by rw [e_184]; exact ah_new f_170 hq_182
  have f_186 : h_183 q_1 = some (21, .inl (G.2.2.1 0, 128, .inl (nA (fun _ => 0)))) := by rw [e_184]; exact ah_new f_171 hq_182
  have f_187 : h_183 q_13 = some (22, .inl (G.2.2.1 0, 128, .inl (nA (fun _ => 0)))) := by rw [e_184]; exact ah_new f_172 hq_182
  have f_188 : h_183 q_27 = some (24, .inl (G.2.2.1 0, 3000, .inl (nA (fun _ => 0)))) := by rw [e_184]; exact ah_new f_173 hq_182
  have f_189 : h_183 q_43 = some (27, .inl (G.2.2.1 0, 255, .inl (nA (fun _ => 0)))) := by rw [e_184]; exact ah_new f_174 hq_182
  have f_190 : h_183 q_61 = some (28, .inl (G.2.2.1 0, 36210, .inl (nA (fun _ => 0)))) := by rw [e_184]; exact ah_new f_175 hq_182
  have f_191 : h_183 q_81 = some (30, .inl (G.2.2.1 0, 200, .inl (nA (fun _ => 0)))) := by rw [e_184]; exact ah_new f_176 hq_182
  have f_192 : h_183 q_103 = some (32, .inl (G.2.2.1 0, 40800, .inl (nA (fun _ => 0)))) := by rw [e_184]; exact ah_new f_177 hq_182
  have f_193 : h_183 q_127 = some (34, .inl (G.2.2.1 0, 16, .inl (nA (fun _ => 0)))) := by rw [e_184]; exact ah_new f_178 hq_182
  have f_194 : h_183 q_153 = some (35, .inl (G.2.2.1 0, 16, .inl (nA (fun _ => 0)))) := by rw [e_184]; exact ah_new f_179 hq_182
  have f_195 : h_183 q_181 = some (36, .inl (G.2.2.1 0, 16, .inl (nA (fun _ => 0)))) := by rw [e_184]; exact ah_up_s _ _ _
  have ag_196 : agr (fun t => ¬ (20 ≤ t ∧ t ≤ 46)) h h_183 := by rw [e_184]; exact ag_180.new hq_182
  refine ah_putF (ci := 8) (v := .ref q_181) (ty := .array .int) (C := RX9) (T := TX9) (N := 27) hx hb hE hR hS hts hinX9 tyX9 tyX9_ok nmX9 hown f_185 rfl 16 (by decide) k39 (fun _ h9 => h9) rfl hname rfl (by decide +kernel) rfl rfl (Nat.le_of_ble_eq_true rfl) dX9_init_86 (fun H locs hR hS => ?_)
  obtain ⟨h_197, e_198⟩ : ∃ zz9, zz9 = ah_up h_183 y (20, .inr (8, [.int (nI 0), .ref q_1, .ref q_13, .int (nI 0), .ref q_27, .int (nI 0), .int (nI 0), .ref q_43, .ref q_61, .int (nI 0), .ref q_81, .int (nI 0), .ref q_103, .int (nI 0), .ref q_127, .ref q_153, .ref q_181, .null, .null, .null, .int (nI 0), .null, .null, .int (nI 0), .null, .int (nI 0), .null])) := ⟨_, rfl⟩
  have hR : ah_R G h_197 H := by rw [e_198]; exact hR
  have f_199 : h_197 y = some (20, .inr (8, [.int (nI 0), .ref q_1, .ref q_13, .int (nI 0), .ref q_27, .int (nI 0), .int (nI 0), .ref q_43, .ref q_61, .int (nI 0), .ref q_81, .int (nI 0), .ref q_103, .int (nI 0), .ref q_127, .ref q_153, .ref q_181, .null, .null, .null, .int (nI 0), .null, .null, .int (nI 0), .null, .int (nI 0), .null])) := by rw [e_198]; exact ah_up_s _ _ _
  have f_200 : h_197 q_1 = some (21, .inl (G.2.2.1 0, 128, .inl (nA (fun _ => 0)))) := by rw [e_198]; exact ah_keep f_186 f_185 (by omega)
  have f_201 : h_197 q_13 = some (22, .inl (G.2.2.1 0, 128, .inl (nA (fun _ => 0)))) := by rw [e_198]; exact ah_keep f_187 f_185 (by omega)
  have f_202 : h_197 q_27 = some (24, .inl (G.2.2.1 0, 3000, .inl (nA (fun _ => 0)))) := by rw [e_198]; exact ah_keep f_188 f_185 (by omega)
  have f_203 : h_197 q_43 = some (27, .inl (G.2.2.1 0, 255, .inl (nA (fun _ => 0)))) := by rw [e_198]; exact ah_keep f_189 f_185 (by omega)
  have f_204 : h_197 q_61 = some (28, .inl (G.2.2.1 0, 36210, .inl (nA (fun _ => 0)))) := by rw [e_198]; exact ah_keep f_190 f_185 (by omega)
  have f_205 : h_197 q_81 = some (30, .inl (G.2.2.1 0, 200, .inl (nA (fun _ => 0)))) := by rw [e_198]; exact ah_keep f_191 f_185 (by omega)
  have f_206 : h_197 q_103 = some (32, .inl (G.2.2.1 0, 40800, .inl (nA (fun _ => 0)))) := by rw [e_198]; exact ah_keep f_192 f_185 (by omega)
  have f_207 : h_197 q_127 = some (34, .inl (G.2.2.1 0, 16, .inl (nA (fun _ => 0)))) := by rw [e_198]; exact ah_keep f_193 f_185 (by omega)
  have f_208 : h_197 q_153 = some (35, .inl (G.2.2.1 0, 16, .inl (nA (fun _ => 0)))) := by rw [e_198]; exact ah_keep f_194 f_185 (by omega)
  have f_209 : h_197 q_181 = some (36, .inl (G.2.2.1 0, 16, .inl (nA (fun _ => 0)))) := by rw [e_198]; exact ah_keep f_195 f_185 (by omega)
  have ag_210 : agr (fun t => ¬ (20 ≤ t ∧ t ≤ 46)) h h_197 := by rw [e_198]; exact ag_196.up f_185 (by omega)
  refine lv_aload_n hx hb dX9_init_89 rfl (lv_at hl 0 rfl) ?_
  refine lv_bipush (v := nI 16) hx hb dX9_init_90 (by decide) ?_
  refine ah_newi (n := 16) hx hb hE hR hS warrayClass_int 37 (by omega) (Nat.le_of_ble_eq_true rfl) (Nat.le_of_ble_eq_true rfl) dX9_init_92 (fun q_211 H hq_212 hR hS => ?_)
  rw [nA_0] at hR
  obtain ⟨h_213, e_214⟩ : ∃ zz9, zz9 = ah_up h_197 q_211 (37, .inl (G.2.2.1 0, 16, .inl (nA (fun _ => 0)))) := ⟨_, rfl⟩
  have hR : ah_R G h_213 H := by rw [e_214]; exact hR
  have f_215 : h_213 y = some (20, .inr (8, [.int (nI 0), .ref q_1, .ref q_13, .int (nI 0), .ref q_27, .int (nI 0), .int (nI 0), .ref q_43, .ref q_61, .int (nI 0), .ref q_81, .int (nI 0), .ref q_103, .int (nI 0), .ref q_127, .ref q_153, .ref q_181, .null, .null, .null, .int (nI 0), .null, .null, .int (nI 0), .null, .int (nI 0), .null])) := by rw [e_214]; exact ah_new f_199 hq_212
  have f_216 : h_213 q_1 = some (21, .inl (G.2.2.1 0, 128, .inl (nA (fun _ => 0)))) := by rw [e_214]; exact ah_new f_200 hq_212
  have f_217 : h_213 q_13 = some (22, .inl (G.2.2.1 0, 128, .inl (nA (fun _ => 0)))) := by rw [e_214]; exact ah_new f_201 hq_212
  have f_218 : h_213 q_27 = some (24, .inl (G.2.2.1 0, 3000, .inl (nA (fun _ => 0)))) := by rw [e_214]; exact ah_new f_202 hq_212
  have f_219 : h_213 q_43 = some (27, .inl (G.2.2.1 0, 255, .inl (nA (fun _ => 0)))) := by rw [e_214]; exact ah_new f_203 hq_212
  have f_220 : h_213 q_61 = some (28, .inl (G.2.2.1 0, 36210, .inl (nA (fun _ => 0)))) := by rw [e_214]; exact ah_new f_204 hq_212
  have f_221 : h_213 q_81 = some (30, .inl (G.2.2.1 0, 200, .inl (nA (fun _ => 0)))) := by rw [e_214]; exact ah_new f_205 hq_212
  have f_222 : h_213 q_103 = some (32, .inl (G.2.2.1 0, 40800, .inl (nA (fun _ => 0)))) := by rw [e_214]; exact ah_new f_206 hq_212
  have f_223 : h_213 q_127 = some (34, .inl (G.2.2.1 0, 16, .inl (nA (fun _ => 0)))) := by rw [e_214]; exact ah_new f_207 hq_212
  have f_224 : h_213 q_153 = some (35, .inl (G.2.2.1 0, 16, .inl (nA (fun _ => 0)))) := by rw [e_214]; exact ah_new f_208 hq_212
  have f_225 : h_213 q_181 = some (36, .inl (G.2.2.1 0, 16, .inl (nA (fun _ => 0)))) := by rw [e_214]; exact ah_new f_209 hq_212
  have f_226 : h_213 q_211 = some (37, .inl (G.2.2.1 0, 16, .inl (nA (fun _ => 0)))) := by rw [e_214]; exact ah_up_s _ _ _
  have ag_227 : agr (fun t => ¬ (20 ≤ t ∧ t ≤ 46)) h h_213 := by rw [e_214]; exact ag_210.new hq_212
  refine ah_putF (ci := 8) (v := .ref q_211) (ty := .array .int) (C := RX9) (T := TX9) (N := 27) hx hb hE hR hS hts hinX9 tyX9 tyX9_ok nmX9 hown f_215 rfl 17 (by decide) k42 (fun _ h9 => h9) rfl hname rfl (by decide +kernel) rfl rfl (Nat.le_of_ble_eq_true rfl) dX9_init_94 (fun H locs hR hS => ?_)
  obtain ⟨h_228, e_229⟩ : ∃ zz9, zz9 = ah_up h_213 y (20, .inr (8, [.int (nI 0), .ref q_1, .ref q_13, .int (nI 0), .ref q_27, .int (nI 0), .int (nI 0), .ref q_43, .ref q_61, .int (nI 0), .ref q_81, .int (nI 0), .ref q_103, .int (nI 0), .ref q_127, .ref q_153, .ref q_181, .ref q_211, .null, .null, .int (nI 0), .null, .null, .int (nI 0), .null, .int (nI 0), .null])) := ⟨_, rfl⟩
  have hR : ah_R G h_228 H := by rw [e_229]; exact hR
  have f_230 : h_228 y = some (20, .inr (8, [.int (nI 0), .ref q_1, .ref q_13, .int (nI 0), .ref q_27, .int (nI 0), .int (nI 0), .ref q_43, .ref q_61, .int (nI 0), .ref q_81, .int (nI 0), .ref q_103, .int (nI 0), .ref q_127, .ref q_153, .ref q_181, .ref q_211, .null, .null, .int (nI 0), .null, .null, .int (nI 0), .null, .int (nI 0), .null])) := by rw [e_229]; exact ah_up_s _ _ _
  have f_231 : h_228 q_1 = some (21, .inl (G.2.2.1 0, 128, .inl (nA (fun _ => 0)))) := by rw [e_229]; exact ah_keep f_216 f_215 (by omega)
  have f_232 : h_228 q_13 = some (22, .inl (G.2.2.1 0, 128, .inl (nA (fun _ => 0)))) := by rw [e_229]; exact ah_keep f_217 f_215 (by omega)
  have f_233 : h_228 q_27 = some (24, .inl (G.2.2.1 0, 3000, .inl (nA (fun _ => 0)))) := by rw [e_229]; exact ah_keep f_218 f_215 (by omega)
  have f_234 : h_228 q_43 = some (27, .inl (G.2.2.1 0, 255, .inl (nA (fun _ => 0)))) := by rw [e_229]; exact ah_keep f_219 f_215 (by omega)
  have f_235 : h_228 q_61 = some (28, .inl (G.2.2.1 0, 36210, .inl (nA (fun _ => 0)))) := by rw [e_229]; exact ah_keep f_220 f_215 (by omega)
  have f_236 : h_228 q_81 = some (30, .inl (G.2.2.1 0, 200, .inl (nA (fun _ => 0)))) := by rw [e_229]; exact ah_keep f_221 f_215 (by omega)
  have f_237 : h_228 q_103 = some (32, .inl (G.2.2.1 0, 40800, .inl (nA (fun _ => 0)))) := by rw [e_229]; exact ah_keep f_222 f_215 (by omega)
  have f_238 : h_228 q_127 = some (34, .inl (G.2.2.1 0, 16, .inl (nA (fun _ => 0)))) := by rw [e_229]; exact ah_keep f_223 f_215 (by omega)
  have f_239 : h_228 q_153 = some (35, .inl (G.2.2.1 0, 16, .inl (nA (fun _ => 0)))) := by rw [e_229]; exact ah_keep f_224 f_215 (by omega)
  have f_240 : h_228 q_181 = some (36, .inl (G.2.2.1 0, 16, .inl (nA (fun _ => 0)))) := by rw [e_229]; exact ah_keep f_225 f_215 (by omega)
  have f_241 : h_228 q_211 = some (37, .inl (G.2.2.1 0, 16, .inl (nA (fun _ => 0)))) := by rw [e_229]; exact ah_keep f_226 f_215 (by omega)
  have ag_242 : agr (fun t => ¬ (20 ≤ t ∧ t ≤ 46)) h h_228 := by rw [e_229]; exact ag_227.up f_215 (by omega)
  refine lv_aload_n hx hb dX9_init_97 rfl (lv_at hl 0 rfl) ?_
  refine lv_bipush (v := nI 16) hx hb dX9_init_98 (by decide) ?_
  refine ah_newi (n := 16) hx hb hE hR hS warrayClass_int 38 (by omega) (Nat.le_of_ble_eq_true rfl) (Nat.le_of_ble_eq_true rfl) dX9_init_100 (fun q_243 H hq_244 hR hS => ?_)
  rw [nA_0] at hR
  obtain ⟨h_245, e_246⟩ : ∃ zz9, zz9 = ah_up h_228 q_243 (38, .inl (G.2.2.1 0, 16, .inl (nA (fun _ => 0)))) := ⟨_, rfl⟩
  have hR : ah_R G h_245 H := by rw [e_246]; exact hR
  have f_247 : h_245 y = some (20, .inr (8, [.int (nI 0), .ref q_1, .ref q_13, .int (nI 0), .ref q_27, .int (nI 0), .int (nI 0), .ref q_43, .ref q_61, .int (nI 0), .ref q_81, .int (nI 0), .ref q_103, .int (nI 0), .ref q_127, .ref q_153, .ref q_181, .ref q_211, .null, .null, .int (nI 0), .null, .null, .int (nI 0), .null, .int (nI 0), .null])) := by rw [e_246]; exact ah_new f_230 hq_244
  have f_248 : h_245 q_1 = some (21, .inl (G.2.2.1 0, 128, .inl (nA (fun _ => 0)))) := by rw [e_246]; exact ah_new f_231 hq_244
  have f_249 : h_245 q_13 = some (22, .inl (G.2.2.1 0, 128, .inl (nA (fun _ => 0)))) := by rw [e_246]; exact ah_new f_232 hq_244
  have f_250 : h_245 q_27 = some (24, .inl (G.2.2.1 0, 3000, .inl (nA (fun _ => 0)))) := by rw [e_246]; exact ah_new f_233 hq_244
  have f_251 : h_245 q_43 = some (27, .inl (G.2.2.1 0, 255, .inl (nA (fun _ => 0)))) := by rw [e_246]; exact ah_new f_234 hq_244
  have f_252 : h_245 q_61 = some (28, .inl (G.2.2.1 0, 36210, .inl (nA (fun _ => 0)))) := by rw [e_246]; exact ah_new f_235 hq_244
  have f_253 : h_245 q_81 = some (30, .inl (G.2.2.1 0, 200, .inl (nA (fun _ => 0)))) := by rw [e_246]; exact ah_new f_236 hq_244
  have f_254 : h_245 q_103 = some (32, .inl (G.2.2.1 0, 40800, .inl (nA (fun _ => 0)))) := by rw [e_246]; exact ah_new f_237 hq_244
  have f_255 : h_245 q_127 = some (34, .inl (G.2.2.1 0, 16, .inl (nA (fun _ => 0)))) := by rw [e_246]; exact ah_new f_238 hq_244
  have f_256 : h_245 q_153 = some (35, .inl (G.2.2.1 0, 16, .inl (nA (fun _ => 0)))) := by rw [e_246]; exact ah_new f_239 hq_244
  have f_257 : h_245 q_181 = some (36, .inl (G.2.2.1 0, 16, .inl (nA (fun _ => 0)))) := by rw [e_246]; exact ah_new f_240 hq_244
  have f_258 : h_245 q_211 = some (37, .inl (G.2.2.1 0, 16, .inl (nA (fun _ => 0)))) := by rw [e_246]; exact ah_new f_241 hq_244
  have f_259 : h_245 q_243 = some (38, .inl (G.2.2.1 0, 16, .inl (nA (fun _ => 0)))) := by rw [e_246]; exact ah_up_s _ _ _
  have ag_260 : agr (fun t => ¬ (20 ≤ t ∧ t ≤ 46)) h h_245 := by rw [e_246]; exact ag_242.new hq_244
  refine ah_putF (ci := 8) (v := .ref q_243) (ty := .array .int) (C := RX9) (T := TX9) (N := 27) hx hb hE hR hS hts hinX9 tyX9 tyX9_ok nmX9 hown f_247 rfl 18 (by decide) k45 (fun _ h9 => h9) rfl hname rfl (by decide +kernel) rfl rfl (Nat.le_of_ble_eq_true rfl) dX9_init_102 (fun H locs hR hS => ?_)
  obtain ⟨h_261, e_262⟩ : ∃ zz9, zz9 = ah_up h_245 y (20, .inr (8, [.int (nI 0), .ref q_1, .ref q_13, .int (nI 0), .ref q_27, .int (nI 0), .int (nI 0), .ref q_43, .ref q_61, .int (nI 0), .ref q_81, .int (nI 0), .ref q_103, .int (nI 0), .ref q_127, .ref q_153, .ref q_181, .ref q_211, .ref q_243, .null, .int (nI 0), .null, .null, .int (nI 0), .null, .int (nI 0), .null])) := ⟨_, rfl⟩
  have hR : ah_R G h_261 H := by rw [e_262]; exact hR
  have f_263 : h_261 y = some (20, .inr (8, [.int (nI 0), .ref q_1, .ref q_13, .int (nI 0), .ref q_27, .int (nI 0), .int (nI 0), .ref q_43, .ref q_61, .int (nI 0), .ref q_81, .int (nI 0), .ref q_103, .int (nI 0), .ref q_127, .ref q_153, .ref q_181, .ref q_211, .ref q_243, .null, .int (nI 0), .null, .null, .int (nI 0), .null, .int (nI 0), .null])) := by rw [e_262]; exact ah_up_s _ _ _
  have f_264 : h_261 q_1 = some (21, .inl (G.2.2.1 0, 128, .inl (nA (fun _ => 0)))) := by rw [e_262]; exact ah_keep f_248 f_247 (by omega)
  have f_265 : h_261 q_13 = some (22, .inl (G.2.2.1 0, 128, .inl (nA (fun _ => 0)))) := by rw [e_262]; exact ah_keep f_249 f_247 (by omega)
  have f_266 : h_261 q_27 = some (24, .inl (G.2.2.1 0, 3000, .inl (nA (fun _ => 0)))) := by rw [e_262]; exact ah_keep f_250 f_247 (by omega)
  have f_267 : h_261 q_43 = some (27, .inl (G.2.2.1 0, 255, .inl (nA (fun _ => 0)))) := by rw [e_262]; exact ah_keep f_251 f_247 (by omega)
  have f_268 : h_261 q_61 = some (28, .inl (G.2.2.1 0, 36210, .inl (nA (fun _ => 0)))) := by rw [e_262]; exact ah_keep f_252 f_247 (by omega)
  have f_269 : h_261 q_81 = some (30, .inl (G.2.2.1 0, 200, .inl (nA (fun _ => 0)))) := by rw [e_262]; exact ah_keep f_253 f_247 (by omega)
  have f_270 : h_261 q_103 = some (32, .inl (G.2.2.1 0, 40800, .inl (nA (fun _ => 0)))) := by rw [e_262]; exact ah_keep f_254 f_247 (by omega)
  have f_271 : h_261 q_127 = some (34, .inl (G.2.2.1 0, 16, .inl (nA (fun _ => 0)))) := by rw [e_262]; exact ah_keep f_255 f_247 (by omega)
  have f_272 : h_261 q_153 = some (35, .inl (G.2.2.1 0, 16, .inl (nA (fun _ => 0)))) := by rw [e_262]; exact ah_keep f_256 f_247 (by omega)
  have f_273 : h_261 q_181 = some (36, .inl (G.2.2.1 0, 16, .inl (nA (fun _ => 0)))) := by rw [e_262]; exact ah_keep f_257 f_247 (by omega)
  have f_274 : h_261 q_211 = some (37, .inl (G.2.2.1 0, 16, .inl (nA (fun _ => 0)))) := by rw [e_262]; exact ah_keep f_258 f_247 (by omega)
  have f_275 : h_261 q_243 = some (38, .inl (G.2.2.1 0, 16, .inl (nA (fun _ => 0)))) := by rw [e_262]; exact ah_keep f_259 f_247 (by omega)
  have ag_276 : agr (fun t => ¬ (20 ≤ t ∧ t ≤ 46)) h h_261 := by rw [e_262]; exact ag_260.up f_247 (by omega)
  refine lv_aload_n hx hb dX9_init_105 rfl (lv_at hl 0 rfl) ?_
  refine lv_bipush (v := nI 16) hx hb dX9_init_106 (by decide) ?_
  refine ah_newi (n := 16) hx hb hE hR hS warrayClass_int 39 (by omega) (Nat.le_of_ble_eq_true rfl) (Nat.le_of_ble_eq_true rfl) dX9_init_108 (fun q_277 H hq_278 hR hS => ?_)
  rw [nA_0] at hR
  obtain ⟨h_279, e_280⟩ : ∃ zz9, zz9 = ah_up h_261 q_277 (39, .inl (G.2.2.1 0, 16, .inl (nA (fun _ => 0)))) := ⟨_, rfl⟩
  have hR : ah_R G h_279 H := by rw [e_280]; exact hR
  have f_281 : h_279 y = some (20, .inr (8, [.int (nI 0), .ref q_1, .ref q_13, .int (nI 0), .ref q_27, .int (nI 0), .int (nI 0), .ref q_43, .ref q_61, .int (nI 0), .ref q_81, .int (nI 0), .ref q_103, .int (nI 0), .ref q_127, .ref q_153, .ref q_181, .ref q_211, .ref q_243, .null, .int (nI 0), .null, .null, .int (nI 0), .null, .int (nI 0), .null])) := by rw [e_280]; exact ah_new f_263 hq_278
  have f_282 : h_279 q_1 = some (21, .inl (G.2.2.1 0, 128, .inl (nA (fun _ => 0)))) := by rw [e_280]; exact ah_new f_264 hq_278
  have f_283 : h_279 q_13 = some (22, .inl (G.2.2.1 0, 128, .inl (nA (fun _ => 0)))) := by rw [e_280]; exact ah_new f_265 hq_278
  have f_284 : h_279 q_27 = some (24, .inl (G.2.2.1 0, 3000, .inl (nA (fun _ => 0)))) := by rw [e_280]; exact ah_new f_266 hq_278
  have f_285 : h_279 q_43 = some (27, .inl (G.2.2.1 0, 255, .inl (nA (fun _ => 0)))) := by rw [e_280]; exact ah_new f_267 hq_278
  have f_286 : h_279 q_61 = some (28, .inl (G.2.2.1 0, 36210, .inl (nA (fun _ => 0)))) := by rw [e_280]; exact ah_new f_268 hq_278
  have f_287 : h_279 q_81 = some (30, .inl (G.2.2.1 0, 200, .inl (nA (fun _ => 0)))) := by rw [e_280]; exact ah_new f_269 hq_278
  have f_288 : h_279 q_103 = some (32, .inl (G.2.2.1 0, 40800, .inl (nA (fun _ => 0)))) := by rw [e_280]; exact ah_new f_270 hq_278
  have f_289 : h_279 q_127 = some (34, .inl (G.2.2.1 0, 16, .inl (nA (fun _ => 0)))) := by rw [e_280]; exact ah_new f_271 hq_278
  have f_290 : h_279 q_153 = some (35, .inl (G.2.2.1 0, 16, .inl (nA (fun _ => 0)))) := by rw [e_280]; exact ah_new f_272 hq_278
  have f_291 : h_279 q_181 = some (36, .inl (G.2.2.1 0, 16, .inl (nA (fun _ => 0)))) := by rw [e_280]; exact ah_new f_273 hq_278
  have f_292 : h_279 q_211 = some (37, .inl (G.2.2.1 0, 16, .inl (nA (fun _ => 0)))) := by rw [e_280]; exact ah_new f_274 hq_278
  have f_293 : h_279 q_243 = some (38, .inl (G.2.2.1 0, 16, .inl (nA (fun _ => 0)))) := by rw [e_280]; exact ah_new f_275 hq_278
  have f_294 : h_279 q_277 = some (39, .inl (G.2.2.1 0, 16, .inl (nA (fun _ => 0)))) := by rw [e_280]; exact ah_up_s _ _ _
  have ag_295 : agr (fun t => ¬ (20 ≤ t ∧ t ≤ 46)) h h_279 := by rw [e_280]; exact ag_276.new hq_278
  refine ah_putF (ci := 8) (v := .ref q_277) (ty := .array .int) (C := RX9) (T := TX9) (N := 27) hx hb hE hR hS hts hinX9 tyX9 tyX9_ok nmX9 hown f_281 rfl 19 (by decide) k48 (fun _ h9 => h9) rfl hname rfl (by decide +kernel) rfl rfl (Nat.le_of_ble_eq_true rfl) dX9_init_110 (fun H locs hR hS => ?_)
  obtain ⟨h_296, e_297⟩ : ∃ zz9, zz9 = ah_up h_279 y (20, .inr (8, [.int (nI 0), .ref q_1, .ref q_13, .int (nI 0), .ref q_27, .int (nI 0), .int (nI 0), .ref q_43, .ref q_61, .int (nI 0), .ref q_81, .int (nI 0), .ref q_103, .int (nI 0), .ref q_127, .ref q_153, .ref q_181, .ref q_211, .ref q_243, .ref q_277, .int (nI 0), .null, .null, .int (nI 0), .null, .int (nI 0), .null])) := ⟨_, rfl⟩
  have hR : ah_R G h_296 H := by rw [e_297]; exact hR
  have f_298 : h_296 y = some (20, .inr (8, [.int (nI 0), .ref q_1, .ref q_13, .int (nI 0), .ref q_27, .int (nI 0), .int (nI 0), .ref q_43, .ref q_61, .int (nI 0), .ref q_81, .int (nI 0), .ref q_103, .int (nI 0), .ref q_127, .ref q_153, .ref q_181, .ref q_211, .ref q_243, .ref q_277, .int (nI 0), .null, .null, .int (nI 0), .null, .int (nI 0), .null])) := by rw [e_297]; exact ah_up_s _ _ _
  have f_299 : h_296 q_1 = some (21, .inl (G.2.2.1 0, 128, .inl (nA (fun _ => 0)))) := by rw [e_297]; exact ah_keep f_282 f_281 (by omega)
  have f_300 : h_296 q_13 = some (22, .inl (G.2.2.1 0, 128, .inl (nA (fun _ => 0)))) := by rw [e_297]; exact ah_keep f_283 f_281 (by omega)
  have f_301 : h_296 q_27 = some (24, .inl (G.2.2.1 0, 3000, .inl (nA (fun _ => 0)))) := by rw [e_297]; exact ah_keep f_284 f_281 (by omega)
  have f_302 : h_296 q_43 = some (27, .inl (G.2.2.1 0, 255, .inl (nA (fun _ => 0)))) := by rw [e_297]; exact ah_keep f_285 f_281 (by omega)
  have f_303 : h_296 q_61 = some (28, .inl (G.2.2.1 0, 36210, .inl (nA (fun _ => 0)))) := by rw [e_297]; exact ah_keep f_286 f_281 (by omega)
  have f_304 : h_296 q_81 = some (30, .inl (G.2.2.1 0, 200, .inl (nA (fun _ => 0)))) := by rw [e_297]; exact ah_keep f_287 f_281 (by omega)
  have f_305 : h_296 q_103 = some (32, .inl (G.2.2.1 0, 40800, .inl (nA (fun _ => 0)))) := by rw [e_297]; exact ah_keep f_288 f_281 (by omega)
  have f_306 : h_296 q_127 = some (34, .inl (G.2.2.1 0, 16, .inl (nA (fun _ => 0)))) := by rw [e_297]; exact ah_keep f_289 f_281 (by omega)
  have f_307 : h_296 q_153 = some (35, .inl (G.2.2.1 0, 16, .inl (nA (fun _ => 0)))) := by rw [e_297]; exact ah_keep f_290 f_281 (by omega)
  have f_308 : h_296 q_181 = some (36, .inl (G.2.2.1 0, 16, .inl (nA (fun _ => 0)))) := by rw [e_297]; exact ah_keep f_291 f_281 (by omega)
  have f_309 : h_296 q_211 = some (37, .inl (G.2.2.1 0, 16, .inl (nA (fun _ => 0)))) := by rw [e_297]; exact ah_keep f_292 f_281 (by omega)
  have f_310 : h_296 q_243 = some (38, .inl (G.2.2.1 0, 16, .inl (nA (fun _ => 0)))) := by rw [e_297]; exact ah_keep f_293 f_281 (by omega)
  have f_311 : h_296 q_277 = some (39, .inl (G.2.2.1 0, 16, .inl (nA (fun _ => 0)))) := by rw [e_297]; exact ah_keep f_294 f_281 (by omega)
  have ag_312 : agr (fun t => ¬ (20 ≤ t ∧ t ≤ 46)) h h_296 := by rw [e_297]; exact ag_295.up f_281 (by omega)
  refine lv_aload_n hx hb dX9_init_113 rfl (lv_at hl 0 rfl) ?_
  refine lv_sipush (v := nI 4080) hx hb dX9_init_114 (by decide) ?_
  refine ah_newi (n := 4080) hx hb hE hR hS warrayClass_int 41 (by omega) (Nat.le_of_ble_eq_true rfl) (Nat.le_of_ble_eq_true rfl) dX9_init_117 (fun q_313 H hq_314 hR hS => ?_)
  rw [nA_0] at hR
  obtain ⟨h_315, e_316⟩ : ∃ zz9, zz9 = ah_up h_296 q_313 (41, .inl (G.2.2.1 0, 4080, .inl (nA (fun _ => 0)))) := ⟨_, rfl⟩
  have hR : ah_R G h_315 H := by rw [e_316]; exact hR
  have f_317 : h_315 y = some (20, .inr (8, [.int (nI 0), .ref q_1, .ref q_13, .int (nI 0), .ref q_27, .int (nI 0), .int (nI 0), .ref q_43, .ref q_61, .int (nI 0), .ref q_81, .int (nI 0), .ref q_103, .int (nI 0), .ref q_127, .ref q_153, .ref q_181, .ref q_211, .ref q_243, .ref q_277, .int (nI 0), .null, .null, .int (nI 0), .null, .int (nI 0), .null])) := by rw [e_316]; exact ah_new f_298 hq_314
  have f_318 : h_315 q_1 = some (21, .inl (G.2.2.1 0, 128, .inl (nA (fun _ => 0)))) := by rw [e_316]; exact ah_new f_299 hq_314
  have f_319 : h_315 q_13 = some (22, .inl (G.2.2.1 0, 128, .inl (nA (fun _ => 0)))) := by rw [e_316]; exact ah_new f_300 hq_314
  have f_320 : h_315 q_27 = some (24, .inl (G.2.2.1 0, 3000, .inl (nA (fun _ => 0)))) := by rw [e_316]; exact ah_new f_301 hq_314
  have f_321 : h_315 q_43 = some (27, .inl (G.2.2.1 0, 255, .inl (nA (fun _ => 0)))) := by rw [e_316]; exact ah_new f_302 hq_314
  have f_322 : h_315 q_61 = some (28, .inl (G.2.2.1 0, 36210, .inl (nA (fun _ => 0)))) := by rw [e_316]; exact ah_new f_303 hq_314
  have f_323 : h_315 q_81 = some (30, .inl (G.2.2.1 0, 200, .inl (nA (fun _ => 0)))) := by rw [e_316]; exact ah_new f_304 hq_314
  have f_324 : h_315 q_103 = some (32, .inl (G.2.2.1 0, 40800, .inl (nA (fun _ => 0)))) := by rw [e_316]; exact ah_new f_305 hq_314
  have f_325 : h_315 q_127 = some (34, .inl (G.2.2.1 0, 16, .inl (nA (fun _ => 0)))) := by rw [e_316]; exact ah_new f_306 hq_314
  have f_326 : h_315 q_153 = some (35, .inl (G.2.2.1 0, 16, .inl (nA (fun _ => 0)))) := by rw [e_316]; exact ah_new f_307 hq_314
  have f_327 : h_315 q_181 = some (36, .inl (G.2.2.1 0, 16, .inl (nA (fun _ => 0)))) := by rw [e_316]; exact ah_new f_308 hq_314
  have f_328 : h_315 q_211 = some (37, .inl (G.2.2.1 0, 16, .inl (nA (fun _ => 0)))) := by rw [e_316]; exact ah_new f_309 hq_314
  have f_329 : h_315 q_243 = some (38, .inl (G.2.2.1 0, 16, .inl (nA (fun _ => 0)))) := by rw [e_316]; exact ah_new f_310 hq_314
  have f_330 : h_315 q_277 = some (39, .inl (G.2.2.1 0, 16, .inl (nA (fun _ => 0)))) := by rw [e_316]; exact ah_new f_311 hq_314
  have f_331 : h_315 q_313 = some (41, .inl (G.2.2.1 0, 4080, .inl (nA (fun _ => 0)))) := by rw [e_316]; exact ah_up_s _ _ _
  have ag_332 : agr (fun t => ¬ (20 ≤ t ∧ t ≤ 46)) h h_315 := by rw [e_316]; exact ag_312.new hq_314
  refine ah_putF (ci := 8) (v := .ref q_313) (ty := .array .int) (C := RX9) (T := TX9) (N := 27) hx hb hE hR hS hts hinX9 tyX9 tyX9_ok nmX9 hown f_317 rfl 21 (by decide) k51 (fun _ h9 => h9) rfl hname rfl (by decide +kernel) rfl rfl (Nat.le_of_ble_eq_true rfl) dX9_init_119 (fun H locs hR hS => ?_)
  obtain ⟨h_333, e_334⟩ : ∃ zz9, zz9 = ah_up h_315 y (20, .inr (8, [.int (nI 0), .ref q_1, .ref q_13, .int (nI 0), .ref q_27, .int (nI 0), .int (nI 0), .ref q_43, .ref q_61, .int (nI 0), .ref q_81, .int (nI 0), .ref q_103, .int (nI 0), .ref q_127, .ref q_153, .ref q_181, .ref q_211, .ref q_243, .ref q_277, .int (nI 0), .ref q_313, .null, .int (nI 0), .null, .int (nI 0), .null])) := ⟨_, rfl⟩
  have hR : ah_R G h_333 H := by rw [e_334]; exact hR
  have f_335 : h_333 y = some (20, .inr (8, [.int (nI 0), .ref q_1, .ref q_13, .int (nI 0), .ref q_27, .int (nI 0), .int (nI 0), .ref q_43, .ref q_61, .int (nI 0), .ref q_81, .int (nI 0), .ref q_103, .int (nI 0), .ref q_127, .ref q_153, .ref q_181, .ref q_211, .ref q_243, .ref q_277, .int (nI 0), .ref q_313, .null, .int (nI 0), .null, .int (nI 0), .null])) := by rw [e_334]; exact ah_up_s _ _ _
  have f_336 : h_333 q_1 = some (21, .inl (G.2.2.1 0, 128, .inl (nA (fun _ => 0)))) := by rw [e_334]; exact ah_keep f_318 f_317 (by omega)
  have f_337 : h_333 q_13 = some (22, .inl (G.2.2.1 0, 128, .inl (nA (fun _ => 0)))) := by rw [e_334]; exact ah_keep f_319 f_317 (by omega)
  have f_338 : h_333 q_27 = some (24, .inl (G.2.2.1 0, 3000, .inl (nA (fun _ => 0)))) := by rw [e_334]; exact ah_keep f_320 f_317 (by omega)
  have f_339 : h_333 q_43 = some (27, .inl (G.2.2.1 0, 255, .inl (nA (fun _ => 0)))) := by rw [e_334]; exact ah_keep f_321 f_317 (by omega)
  have f_340 : h_333 q_61 = some (28, .inl (G.2.2.1 0, 36210, .inl (nA (fun _ => 0)))) := by rw [e_334]; exact ah_keep f_322 f_317 (by omega)
  have f_341 : h_333 q_81 = some (30, .inl (G.2.2.1 0, 200, .inl (nA (fun _ => 0)))) := by rw [e_334]; exact ah_keep f_323 f_317 (by omega)
  have f_342 : h_333 q_103 = some (32, .inl (G.2.2.1 0, 40800, .inl (nA (fun _ => 0)))) := by rw [e_334]; exact ah_keep f_324 f_317 (by omega)
  have f_343 : h_333 q_127 = some (34, .inl (G.2.2.1 0, 16, .inl (nA (fun _ => 0)))) := by rw [e_334]; exact ah_keep f_325 f_317 (by omega)
  have f_344 : h_333 q_153 = some (35, .inl (G.2.2.1 0, 16, .inl (nA (fun _ => 0)))) := by rw [e_334]; exact ah_keep f_326 f_317 (by omega)
  have f_345 : h_333 q_181 = some (36, .inl (G.2.2.1 0, 16, .inl (nA (fun _ => 0)))) := by rw [e_334]; exact ah_keep f_327 f_317 (by omega)
  have f_346 : h_333 q_211 = some (37, .inl (G.2.2.1 0, 16, .inl (nA (fun _ => 0)))) := by rw [e_334]; exact ah_keep f_328 f_317 (by omega)
  have f_347 : h_333 q_243 = some (38, .inl (G.2.2.1 0, 16, .inl (nA (fun _ => 0)))) := by rw [e_334]; exact ah_keep f_329 f_317 (by omega)
  have f_348 : h_333 q_277 = some (39, .inl (G.2.2.1 0, 16, .inl (nA (fun _ => 0)))) := by rw [e_334]; exact ah_keep f_330 f_317 (by omega)
  have f_349 : h_333 q_313 = some (41, .inl (G.2.2.1 0, 4080, .inl (nA (fun _ => 0)))) := by rw [e_334]; exact ah_keep f_331 f_317 (by omega)
  have ag_350 : agr (fun t => ¬ (20 ≤ t ∧ t ≤ 46)) h h_333 := by rw [e_334]; exact ag_332.up f_317 (by omega)
  refine lv_aload_n hx hb dX9_init_122 rfl (lv_at hl 0 rfl) ?_
  refine lv_ldc (v := 652800) hx hb hown wconstant_RX9_54_652800 dX9_init_123 ?_
  refine ah_toi (v := nI 652800) (by decide) ?_
  refine ah_newi (n := 652800) hx hb hE hR hS warrayClass_int 42 (by omega) (Nat.le_of_ble_eq_true rfl) (Nat.le_of_ble_eq_true rfl) dX9_init_125 (fun q_351 H hq_352 hR hS => ?_)
  rw [nA_0] at hR
  obtain ⟨h_353, e_354⟩ : ∃ zz9, zz9 = ah_up h_333 q_351 (42, .inl (G.2.2.1 0, 652800, .inl (nA (fun _ => 0)))) := ⟨_, rfl⟩
  have hR : ah_R G h_353 H := by rw [e_354]; exact hR
  have f_355 : h_353 y = some (20, .inr (8, [.int (nI 0), .ref q_1, .ref q_13, .int (nI 0), .ref q_27, .int (nI 0), .int (nI 0), .ref q_43, .ref q_61, .int (nI 0), .ref q_81, .int (nI 0), .ref q_103, .int (nI 0), .ref q_127, .ref q_153, .ref q_181, .ref q_211, .ref q_243, .ref q_277, .int (nI 0), .ref q_313, .null, .int (nI 0), .null, .int (nI 0), .null])) := by rw [e_354]; exact ah_new f_335 hq_352
  have f_356 : h_353 q_1 = some (21, .inl (G.2.2.1 0, 128, .inl (nA (fun _ => 0)))) := by rw [e_354]; exact ah_new f_336 hq_352
  have f_357 : h_353 q_13 = some (22, .inl (G.2.2.1 0, 128, .inl (nA (fun _ => 0)))) := by rw [e_354]; exact ah_new f_337 hq_352
  have f_358 : h_353 q_27 = some (24, .inl (G.2.2.1 0, 3000, .inl (nA (fun _ => 0)))) := by rw [e_354]; exact ah_new f_338 hq_352
  have f_359 : h_353 q_43 = some (27, .inl (G.2.2.1 0, 255, .inl (nA (fun _ => 0)))) := by rw [e_354]; exact ah_new f_339 hq_352
  have f_360 : h_353 q_61 = some (28, .inl (G.2.2.1 0, 36210, .inl (nA (fun _ => 0)))) := by rw [e_354]; exact ah_new f_340 hq_352
  have f_361 : h_353 q_81 = some (30, .inl (G.2.2.1 0, 200, .inl (nA (fun _ => 0)))) := by rw [e_354]; exact ah_new f_341 hq_352
  have f_362 : h_353 q_103 = some (32, .inl (G.2.2.1 0, 40800, .inl (nA (fun _ => 0)))) := by rw [e_354]; exact ah_new f_342 hq_352
  have f_363 : h_353 q_127 = some (34, .inl (G.2.2.1 0, 16, .inl (nA (fun _ => 0)))) := by rw [e_354]; exact ah_new f_343 hq_352
  have f_364 : h_353 q_153 = some (35, .inl (G.2.2.1 0, 16, .inl (nA (fun _ => 0)))) := by rw [e_354]; exact ah_new f_344 hq_352
  have f_365 : h_353 q_181 = some (36, .inl (G.2.2.1 0, 16, .inl (nA (fun _ => 0)))) := by rw [e_354]; exact ah_new f_345 hq_352
  have f_366 : h_353 q_211 = some (37, .inl (G.2.2.1 0, 16, .inl (nA (fun _ => 0)))) := by rw [e_354]; exact ah_new f_346 hq_352
  have f_367 : h_353 q_243 = some (38, .inl (G.2.2.1 0, 16, .inl (nA (fun _ => 0)))) := by rw [e_354]; exact ah_new f_347 hq_352
  have f_368 : h_353 q_277 = some (39, .inl (G.2.2.1 0, 16, .inl (nA (fun _ => 0)))) := by rw [e_354]; exact ah_new f_348 hq_352
  have f_369 : h_353 q_313 = some (41, .inl (G.2.2.1 0, 4080, .inl (nA (fun _ => 0)))) := by rw [e_354]; exact ah_new f_349 hq_352
  have f_370 : h_353 q_351 = some (42, .inl (G.2.2.1 0, 652800, .inl (nA (fun _ => 0)))) := by rw [e_354]; exact ah_up_s _ _ _
  have ag_371 : agr (fun t => ¬ (20 ≤ t ∧ t ≤ 46)) h h_353 := by rw [e_354]; exact ag_350.new hq_352
  refine ah_putF (ci := 8) (v := .ref q_351) (ty := .array .int) (C := RX9) (T := TX9) (N := 27) hx hb hE hR hS hts hinX9 tyX9 tyX9_ok nmX9 hown f_355 rfl 22 (by decide) k55 (fun _ h9 => h9) rfl hname rfl (by decide +kernel) rfl rfl (Nat.le_of_ble_eq_true rfl) dX9_init_127 (fun H locs hR hS => ?_)
  obtain ⟨h_372, e_373⟩ : ∃ zz9, zz9 = ah_up h_353 y (20, .inr (8, [.int (nI 0), .ref q_1, .ref q_13, .int (nI 0), .ref q_27, .int (nI 0), .int (nI 0), .ref q_43, .ref q_61, .int (nI 0), .ref q_81, .int (nI 0), .ref q_103, .int (nI 0), .ref q_127, .ref q_153, .ref q_181, .ref q_211, .ref q_243, .ref q_277, .int (nI 0), .ref q_313, .ref q_351, .int (nI 0), .null, .int (nI 0), .null])) := ⟨_, rfl⟩
  have hR : ah_R G h_372 H := by rw [e_373]; exact hR
  have f_374 : h_372 y = some (20, .inr (8, [.int (nI 0), .ref q_1, .ref q_13, .int (nI 0), .ref q_27, .int (nI 0), .int (nI 0), .ref q_43, .ref q_61, .int (nI 0), .ref q_81, .int (nI 0), .ref q_103, .int (nI 0), .ref q_127, .ref q_153, .ref q_181, .ref q_211, .ref q_243, .ref q_277, .int (nI 0), .ref q_313, .ref q_351, .int (nI 0), .null, .int (nI 0), .null])) := by rw [e_373]; exact ah_up_s _ _ _
  have f_375 : h_372 q_1 = some (21, .inl (G.2.2.1 0, 128, .inl (nA (fun _ => 0)))) := by rw [e_373]; exact ah_keep f_356 f_355 (by omega)
  have f_376 : h_372 q_13 = some (22, .inl (G.2.2.1 0, 128, .inl (nA (fun _ => 0)))) := by rw [e_373]; exact ah_keep f_357 f_355 (by omega)
  have f_377 : h_372 q_27 = some (24, .inl (G.2.2.1 0, 3000, .inl (nA (fun _ => 0)))) := by rw [e_373]; exact ah_keep f_358 f_355 (by omega)
  have f_378 : h_372 q_43 = some (27, .inl (G.2.2.1 0, 255, .inl (nA (fun _ => 0)))) := by rw [e_373]; exact ah_keep f_359 f_355 (by omega)
  have f_379 : h_372 q_61 = some (28, .inl (G.2.2.1 0, 36210, .inl (nA (fun _ => 0)))) := by rw [e_373]; exact ah_keep f_360 f_355 (by omega)
  have f_380 : h_372 q_81 = some (30, .inl (G.2.2.1 0, 200, .inl (nA (fun _ => 0)))) := by rw [e_373]; exact ah_keep f_361 f_355 (by omega)
  have f_381 : h_372 q_103 = some (32, .inl (G.2.2.1 0, 40800, .inl (nA (fun _ => 0)))) := by rw [e_373]; exact ah_keep f_362 f_355 (by omega)
  have f_382 : h_372 q_127 = some (34, .inl (G.2.2.1 0, 16, .inl (nA (fun _ => 0)))) := by rw [e_373]; exact ah_keep f_363 f_355 (by omega)
  have f_383 : h_372 q_153 = some (35, .inl (G.2.2.1 0, 16, .inl (nA (fun _ => 0)))) := by rw [e_373]; exact ah_keep f_364 f_355 (by omega)
  have f_384 : h_372 q_181 = some (36, .inl (G.2.2.1 0, 16, .inl (nA (fun _ => 0)))) := by rw [e_373]; exact ah_keep f_365 f_355 (by omega)
  have f_385 : h_372 q_211 = some (37, .inl (G.2.2.1 0, 16, .inl (nA (fun _ => 0)))) := by rw [e_373]; exact ah_keep f_366 f_355 (by omega)
  have f_386 : h_372 q_243 = some (38, .inl (G.2.2.1 0, 16, .inl (nA (fun _ => 0)))) := by rw [e_373]; exact ah_keep f_367 f_355 (by omega)
  have f_387 : h_372 q_277 = some (39, .inl (G.2.2.1 0, 16, .inl (nA (fun _ => 0)))) := by rw [e_373]; exact ah_keep f_368 f_355 (by omega)
  have f_388 : h_372 q_313 = some (41, .inl (G.2.2.1 0, 4080, .inl (nA (fun _ => 0)))) := by rw [e_373]; exact ah_keep f_369 f_355 (by omega)
  have f_389 : h_372 q_351 = some (42, .inl (G.2.2.1 0, 652800, .inl (nA (fun _ => 0)))) := by rw [e_373]; exact ah_keep f_370 f_355 (by omega)
  have ag_390 : agr (fun t => ¬ (20 ≤ t ∧ t ≤ 46)) h h_372 := by rw [e_373]; exact ag_371.up f_355 (by omega)
  refine lv_aload_n hx hb dX9_init_130 rfl (lv_at hl 0 rfl) ?_
  refine lv_sipush (v := nI 200) hx hb dX9_init_131 (by decide) ?_
  refine ah_newi (n := 200) hx hb hE hR hS warrayClass_int 44 (by omega) (Nat.le_of_ble_eq_true rfl) (Nat.le_of_ble_eq_true rfl) dX9_init_134 (fun q_391 H hq_392 hR hS => ?_)
  rw [nA_0] at hR
  obtain ⟨h_393, e_394⟩ : ∃ zz9, zz9 = ah_up h_372 q_391 (44, .inl (G.2.2.1 0, 200, .inl (nA (fun _ => 0)))) := ⟨_, rfl⟩
  have hR : ah_R G h_393 H := by rw [e_394]; exact hR
  have f_395 : h_393 y = some (20, .inr (8, [.int (nI 0), .ref q_1, .ref q_13, .int (nI 0), .ref q_27, .int (nI 0), .int (nI 0), .ref q_43, .ref q_61, .int (nI 0), .ref q_81, .int (nI 0), .ref q_103, .int (nI 0), .ref q_127, .ref q_153, .ref q_181, .ref q_211, .ref q_243, .ref q_277, .int (nI 0), .ref q_313, .ref q_351, .int (nI 0), .null, .int (nI 0), .null])) := by rw [e_394]; exact ah_new f_374 hq_392
  have f_396 : h_393 q_1 = some (21, .inl (G.2.2.1 0, 128, .inl (nA (fun _ => 0)))) := by rw [e_394]; exact ah_new f_375 hq_392
  have f_397 : h_393 q_13 = some (22, .inl (G.2.2.1 0, 128, .inl (nA (fun _ => 0)))) := by rw [e_394]; exact ah_new f_376 hq_392
  have f_398 : h_393 q_27 = some (24, .inl (G.2.2.1 0, 3000, .inl (nA (fun _ => 0)))) := by rw [e_394]; exact ah_new f_377 hq_392
  have f_399 : h_393 q_43 = some (27, .inl (G.2.2.1 0, 255, .inl (nA (fun _ => 0)))) := by rw [e_394]; exact ah_new f_378 hq_392
  have f_400 : h_393 q_61 = some (28, .inl (G.2.2.1 0, 36210, .inl (nA (fun _ => 0)))) := by rw [e_394]; exact ah_new f_379 hq_392
  have f_401 : h_393 q_81 = some (30, .inl (G.2.2.1 0, 200, .inl (nA (fun _ => 0)))) := by rw [e_394]; exact ah_new f_380 hq_392
  have f_402 : h_393 q_103 = some (32, .inl (G.2.2.1 0, 40800, .inl (nA (fun _ => 0)))) := by rw [e_394]; exact ah_new f_381 hq_392
  have f_403 : h_393 q_127 = some (34, .inl (G.2.2.1 0, 16, .inl (nA (fun _ => 0)))) := by rw [e_394]; exact ah_new f_382 hq_392
  have f_404 : h_393 q_153 = some (35, .inl (G.2.2.1 0, 16, .inl (nA (fun _ => 0)))) := by rw [e_394]; exact ah_new f_383 hq_392
  have f_405 : h_393 q_181 = some (36, .inl (G.2.2.1 0, 16, .inl (nA (fun _ => 0)))) := by rw [e_394]; exact ah_new f_384 hq_392
  have f_406 : h_393 q_211 = some (37, .inl (G.2.2.1 0, 16, .inl (nA (fun _ => 0)))) := by rw [e_394]; exact ah_new f_385 hq_392
  have f_407 : h_393 q_243 = some (38, .inl (G.2.2.1 0, 16, .inl (nA (fun _ => 0)))) := by rw [e_394]; exact ah_new f_386 hq_392
  have f_408 : h_393 q_277 = some (39, .inl (G.2.2.1 0, 16, .inl (nA (fun _ => 0)))) := by rw [e_394]; exact ah_new f_387 hq_392
  have f_409 : h_393 q_313 = some (41, .inl (G.2.2.1 0, 4080, .inl (nA (fun _ => 0)))) := by rw [e_394]; exact ah_new f_388 hq_392
  have f_410 : h_393 q_351 = some (42, .inl (G.2.2.1 0, 652800, .inl (nA (fun _ => 0)))) := by rw [e_394]; exact ah_new f_389 hq_392
  have f_411 : h_393 q_391 = some (44, .inl (G.2.2.1 0, 200, .inl (nA (fun _ => 0)))) := by rw [e_394]; exact ah_up_s _ _ _
  have ag_412 : agr (fun t => ¬ (20 ≤ t ∧ t ≤ 46)) h h_393 := by rw [e_394]; exact ag_390.new hq_392
  refine ah_putF (ci := 8) (v := .ref q_391) (ty := .array .int) (C := RX9) (T := TX9) (N := 27) hx hb hE hR hS hts hinX9 tyX9 tyX9_ok nmX9 hown f_395 rfl 24 (by decide) k58 (fun _ h9 => h9) rfl hname rfl (by decide +kernel) rfl rfl (Nat.le_of_ble_eq_true rfl) dX9_init_136 (fun H locs hR hS => ?_)
  obtain ⟨h_413, e_414⟩ : ∃ zz9, zz9 = ah_up h_393 y (20, .inr (8, [.int (nI 0), .ref q_1, .ref q_13, .int (nI 0), .ref q_27, .int (nI 0), .int (nI 0), .ref q_43, .ref q_61, .int (nI 0), .ref q_81, .int (nI 0), .ref q_103, .int (nI 0), .ref q_127, .ref q_153, .ref q_181, .ref q_211, .ref q_243, .ref q_277, .int (nI 0), .ref q_313, .ref q_351, .int (nI 0), .ref q_391, .int (nI 0), .null])) := ⟨_, rfl⟩
  have hR : ah_R G h_413 H := by rw [e_414]; exact hR
  have f_415 : h_413 y = some (20, .inr (8, [.int (nI 0), .ref q_1, .ref q_13, .int (nI 0), .ref q_27, .int (nI 0), .int (nI 0), .ref q_43, .ref q_61, .int (nI 0), .ref q_81, .int (nI 0), .ref q_103, .int (nI 0), .ref q_127, .ref q_153, .ref q_181, .ref q_211, .ref q_243, .ref q_277, .int (nI 0), .ref q_313, .ref q_351, .int (nI 0), .ref q_391, .int (nI 0), .null])) := by rw [e_414]; exact ah_up_s _ _ _
  have f_416 : h_413 q_1 = some (21, .inl (G.2.2.1 0, 128, .inl (nA (fun _ => 0)))) := by rw [e_414]; exact ah_keep f_396 f_395 (by omega)
  have f_417 : h_413 q_13 = some (22, .inl (G.2.2.1 0, 128, .inl (nA (fun _ => 0)))) := by rw [e_414]; exact ah_keep f_397 f_395 (by omega)
  have f_418 : h_413 q_27 = some (24, .inl (G.2.2.1 0, 3000, .inl (nA (fun _ => 0)))) := by rw [e_414]; exact ah_keep f_398 f_395 (by omega)
  have f_419 : h_413 q_43 = some (27, .inl (G.2.2.1 0, 255, .inl (nA (fun _ => 0)))) := by rw [e_414]; exact ah_keep f_399 f_395 (by omega)
  have f_420 : h_413 q_61 = some (28, .inl (G.2.2.1 0, 36210, .inl (nA (fun _ => 0)))) := by rw [e_414]; exact ah_keep f_400 f_395 (by omega)
  have f_421 : h_413 q_81 = some (30, .inl (G.2.2.1 0, 200, .inl (nA (fun _ => 0)))) := by rw [e_414]; exact ah_keep f_401 f_395 (by omega)
  have f_422 : h_413 q_103 = some (32, .inl (G.2.2.1 0, 40800, .inl (nA (fun _ => 0)))) := by rw [e_414]; exact ah_keep f_402 f_395 (by omega)
  have f_423 : h_413 q_127 = some (34, .inl (G.2.2.1 0, 16, .inl (nA (fun _ => 0)))) := by rw [e_414]; exact ah_keep f_403 f_395 (by omega)
  have f_424 : h_413 q_153 = some (35, .inl (G.2.2.1 0, 16, .inl (nA (fun _ => 0)))) := by rw [e_414]; exact ah_keep f_404 f_395 (by omega)
  have f_425 : h_413 q_181 = some (36, .inl (G.2.2.1 0, 16, .inl (nA (fun _ => 0)))) := by rw [e_414]; exact ah_keep f_405 f_395 (by omega)
  have f_426 : h_413 q_211 = some (37, .inl (G.2.2.1 0, 16, .inl (nA (fun _ => 0)))) := by rw [e_414]; exact ah_keep f_406 f_395 (by omega)
  have f_427 : h_413 q_243 = some (38, .inl (G.2.2.1 0, 16, .inl (nA (fun _ => 0)))) := by rw [e_414]; exact ah_keep f_407 f_395 (by omega)
  have f_428 : h_413 q_277 = some (39, .inl (G.2.2.1 0, 16, .inl (nA (fun _ => 0)))) := by rw [e_414]; exact ah_keep f_408 f_395 (by omega)
  have f_429 : h_413 q_313 = some (41, .inl (G.2.2.1 0, 4080, .inl (nA (fun _ => 0)))) := by rw [e_414]; exact ah_keep f_409 f_395 (by omega)
  have f_430 : h_413 q_351 = some (42, .inl (G.2.2.1 0, 652800, .inl (nA (fun _ => 0)))) := by rw [e_414]; exact ah_keep f_410 f_395 (by omega)
  have f_431 : h_413 q_391 = some (44, .inl (G.2.2.1 0, 200, .inl (nA (fun _ => 0)))) := by rw [e_414]; exact ah_keep f_411 f_395 (by omega)
  have ag_432 : agr (fun t => ¬ (20 ≤ t ∧ t ≤ 46)) h h_413 := by rw [e_414]; exact ag_412.up f_395 (by omega)
  refine lv_aload_n hx hb dX9_init_139 rfl (lv_at hl 0 rfl) ?_
  refine lv_sipush (v := nI 200) hx hb dX9_init_140 (by decide) ?_
  refine ah_newi (n := 200) hx hb hE hR hS warrayClass_int 46 (by omega) (Nat.le_of_ble_eq_true rfl) (Nat.le_of_ble_eq_true rfl) dX9_init_143 (fun q_433 H hq_434 hR hS => ?_)
  rw [nA_0] at hR
  obtain ⟨h_435, e_436⟩ : ∃ zz9, zz9 = ah_up h_413 q_433 (46, .inl (G.2.2.1 0, 200, .inl (nA (fun _ => 0)))) := ⟨_, rfl⟩
  have hR : ah_R G h_435 H := by rw [e_436]; exact hR
  have f_437 : h_435 y = some (20, .inr (8, [.int (nI 0), .ref q_1, .ref q_13, .int (nI 0), .ref q_27, .int (nI 0), .int (nI 0), .ref q_43, .ref q_61, .int (nI 0), .ref q_81, .int (nI 0), .ref q_103, .int (nI 0), .ref q_127, .ref q_153, .ref q_181, .ref q_211, .ref q_243, .ref q_277, .int (nI 0), .ref q_313, .ref q_351, .int (nI 0), .ref q_391, .int (nI 0), .null])) := by rw [e_436]; exact ah_new f_415 hq_434
  have f_438 : h_435 q_1 = some (21, .inl (G.2.2.1 0, 128, .inl (nA (fun _ => 0)))) := by rw [e_436]; exact ah_new f_416 hq_434
  have f_439 : h_435 q_13 = some (22, .inl (G.2.2.1 0, 128, .inl (nA (fun _ => 0)))) := by rw [e_436]; exact ah_new f_417 hq_434
  have f_440 : h_435 q_27 = some (24, .inl (G.2.2.1 0, 3000, .inl (nA (fun _ => 0)))) := by rw [e_436]; exact ah_new f_418 hq_434
  have f_441 : h_435 q_43 = some (27, .inl (G.2.2.1 0, 255, .inl (nA (fun _ => 0)))) := by rw [e_436]; exact ah_new f_419 hq_434
  have f_442 : h_435 q_61 = some (28, .inl (G.2.2.1 0, 36210, .inl (nA (fun _ => 0)))) := by rw [e_436]; exact ah_new f_420 hq_434
  have f_443 : h_435 q_81 = some (30, .inl (G.2.2.1 0, 200, .inl (nA (fun _ => 0)))) := by rw [e_436]; exact ah_new f_421 hq_434
  have f_444 : h_435 q_103 = some (32, .inl (G.2.2.1 0, 40800, .inl (nA (fun _ => 0)))) := by rw [e_436]; exact ah_new f_422 hq_434
  have f_445 : h_435 q_127 = some (34, .inl (G.2.2.1 0, 16, .inl (nA (fun _ => 0)))) := by rw [e_436]; exact ah_new f_423 hq_434
  have f_446 : h_435 q_153 = some (35, .inl (G.2.2.1 0, 16, .inl (nA (fun _ => 0)))) := by rw [e_436]; exact ah_new f_424 hq_434
  have f_447 : h_435 q_181 = some (36, .inl (G.2.2.1 0, 16, .inl (nA (fun _ => 0)))) := by rw [e_436]; exact ah_new f_425 hq_434
  have f_448 : h_435 q_211 = some (37, .inl (G.2.2.1 0, 16, .inl (nA (fun _ => 0)))) := by rw [e_436]; exact ah_new f_426 hq_434
  have f_449 : h_435 q_243 = some (38, .inl (G.2.2.1 0, 16, .inl (nA (fun _ => 0)))) := by rw [e_436]; exact ah_new f_427 hq_434
  have f_450 : h_435 q_277 = some (39, .inl (G.2.2.1 0, 16, .inl (nA (fun _ => 0)))) := by rw [e_436]; exact ah_new f_428 hq_434
  have f_451 : h_435 q_313 = some (41, .inl (G.2.2.1 0, 4080, .inl (nA (fun _ => 0)))) := by rw [e_436]; exact ah_new f_429 hq_434
  have f_452 : h_435 q_351 = some (42, .inl (G.2.2.1 0, 652800, .inl (nA (fun _ => 0)))) := by rw [e_436]; exact ah_new f_430 hq_434
  have f_453 : h_435 q_391 = some (44, .inl (G.2.2.1 0, 200, .inl (nA (fun _ => 0)))) := by rw [e_436]; exact ah_new f_431 hq_434
  have f_454 : h_435 q_433 = some (46, .inl (G.2.2.1 0, 200, .inl (nA (fun _ => 0)))) := by rw [e_436]; exact ah_up_s _ _ _
  have ag_455 : agr (fun t => ¬ (20 ≤ t ∧ t ≤ 46)) h h_435 := by rw [e_436]; exact ag_432.new hq_434
  refine ah_putF (ci := 8) (v := .ref q_433) (ty := .array .int) (C := RX9) (T := TX9) (N := 27) hx hb hE hR hS hts hinX9 tyX9 tyX9_ok nmX9 hown f_437 rfl 26 (by decide) k61 (fun _ h9 => h9) rfl hname rfl (by decide +kernel) rfl rfl (Nat.le_of_ble_eq_true rfl) dX9_init_145 (fun H locs hR hS => ?_)
  obtain ⟨h_456, e_457⟩ : ∃ zz9, zz9 = ah_up h_435 y (20, .inr (8, [.int (nI 0), .ref q_1, .ref q_13, .int (nI 0), .ref q_27, .int (nI 0), .int (nI 0), .ref q_43, .ref q_61, .int (nI 0), .ref q_81, .int (nI 0), .ref q_103, .int (nI 0), .ref q_127, .ref q_153, .ref q_181, .ref q_211, .ref q_243, .ref q_277, .int (nI 0), .ref q_313, .ref q_351, .int (nI 0), .ref q_391, .int (nI 0), .ref q_433])) := ⟨_, rfl⟩
  have hR : ah_R G h_456 H := by rw [e_457]; exact hR
  have f_458 : h_456 y = some (20, .inr (8, [.int (nI 0), .ref q_1, .ref q_13, .int (nI 0), .ref q_27, .int (nI 0), .int (nI 0), .ref q_43, .ref q_61, .int (nI 0), .ref q_81, .int (nI 0), .ref q_103, .int (nI 0), .ref q_127, .ref q_153, .ref q_181, .ref q_211, .ref q_243, .ref q_277, .int (nI 0), .ref q_313, .ref q_351, .int (nI 0), .ref q_391, .int (nI 0), .ref q_433])) := by rw [e_457]; exact ah_up_s _ _ _
  have f_459 : h_456 q_1 = some (21, .inl (G.2.2.1 0, 128, .inl (nA (fun _ => 0)))) := by rw [e_457]; exact ah_keep f_438 f_437 (by omega)
  have f_460 : h_456 q_13 = some (22, .inl (G.2.2.1 0, 128, .inl (nA (fun _ => 0)))) := by rw [e_457]; exact ah_keep f_439 f_437 (by omega)
  have f_461 : h_456 q_27 = some (24, .inl (G.2.2.1 0, 3000, .inl (nA (fun _ => 0)))) := by rw [e_457]; exact ah_keep f_440 f_437 (by omega)
  have f_462 : h_456 q_43 = some (27, .inl (G.2.2.1 0, 255, .inl (nA (fun _ => 0)))) := by rw [e_457]; exact ah_keep f_441 f_437 (by omega)
  have f_463 : h_456 q_61 = some (28, .inl (G.2.2.1 0, 36210, .inl (nA (fun _ => 0)))) := by rw [e_457]; exact ah_keep f_442 f_437 (by omega)
  have f_464 : h_456 q_81 = some (30, .inl (G.2.2.1 0, 200, .inl (nA (fun _ => 0)))) := by rw [e_457]; exact ah_keep f_443 f_437 (by omega)
  have f_465 : h_456 q_103 = some (32, .inl (G.2.2.1 0, 40800, .inl (nA (fun _ => 0)))) := by rw [e_457]; exact ah_keep f_444 f_437 (by omega)
  have f_466 : h_456 q_127 = some (34, .inl (G.2.2.1 0, 16, .inl (nA (fun _ => 0)))) := by rw [e_457]; exact ah_keep f_445 f_437 (by omega)
  have f_467 : h_456 q_153 = some (35, .inl (G.2.2.1 0, 16, .inl (nA (fun _ => 0)))) := by rw [e_457]; exact ah_keep f_446 f_437 (by omega)
  have f_468 : h_456 q_181 = some (36, .inl (G.2.2.1 0, 16, .inl (nA (fun _ => 0)))) := by rw [e_457]; exact ah_keep f_447 f_437 (by omega)
  have f_469 : h_456 q_211 = some (37, .inl (G.2.2.1 0, 16, .inl (nA (fun _ => 0)))) := by rw [e_457]; exact ah_keep f_448 f_437 (by omega)
  have f_470 : h_456 q_243 = some (38, .inl (G.2.2.1 0, 16, .inl (nA (fun _ => 0)))) := by rw [e_457]; exact ah_keep f_449 f_437 (by omega)
  have f_471 : h_456 q_277 = some (39, .inl (G.2.2.1 0, 16, .inl (nA (fun _ => 0)))) := by rw [e_457]; exact ah_keep f_450 f_437 (by omega)
  have f_472 : h_456 q_313 = some (41, .inl (G.2.2.1 0, 4080, .inl (nA (fun _ => 0)))) := by rw [e_457]; exact ah_keep f_451 f_437 (by omega)
  have f_473 : h_456 q_351 = some (42, .inl (G.2.2.1 0, 652800, .inl (nA (fun _ => 0)))) := by rw [e_457]; exact ah_keep f_452 f_437 (by omega)
  have f_474 : h_456 q_391 = some (44, .inl (G.2.2.1 0, 200, .inl (nA (fun _ => 0)))) := by rw [e_457]; exact ah_keep f_453 f_437 (by omega)
  have f_475 : h_456 q_433 = some (46, .inl (G.2.2.1 0, 200, .inl (nA (fun _ => 0)))) := by rw [e_457]; exact ah_keep f_454 f_437 (by omega)
  have ag_476 : agr (fun t => ¬ (20 ≤ t ∧ t ≤ 46)) h h_456 := by rw [e_457]; exact ag_455.up f_437 (by omega)
  refine lv_iconst (v := nI 0) hx hb dX9_init_148 (by decide) ?_
  refine lv_istore_n (lv' := [(1, .int (nI 0)), (0, .ref y)]) hx hb dX9_init_149 rfl hl (by decide) rfl (fun ls hl => ?_)
  have f_477 : h_456 q_1 = some (21, .inl (G.2.2.1 0, 128, .inl (plI 0))) := by rw [plI_0]; exact f_459
  have f_478 : h_456 q_13 = some (22, .inl (G.2.2.1 0, 128, .inl (esI 0))) := by rw [esI_0]; exact f_460
  have L150 : ∀ (N150 : Nat) (k : Nat) (h1 : ah_H) (H : Heap) (locs : List Loc) (ls : Array Slot), 128 - k < N150 → (k ≤ 128) → (agr (fun t => ¬ (20 ≤ t ∧ t ≤ 46)) h_456 h1) → (h1 y = some (20, .inr (8, [.int (nI 0), .ref q_1, .ref q_13, .int (nI 0), .ref q_27, .int (nI 0), .int (nI 0), .ref q_43, .ref q_61, .int (nI 0), .ref q_81, .int (nI 0), .ref q_103, .int (nI 0), .ref q_127, .ref q_153, .ref q_181, .ref q_211, .ref q_243, .ref q_277, .int (nI 0), .ref q_313, .ref q_351, .int (nI 0), .ref q_391, .int (nI 0), .ref q_433]))) → (h1 q_1 = some (21, .inl (G.2.2.1 0, 128, .inl (plI k)))) → (h1 q_13 = some (22, .inl (G.2.2.1 0, 128, .inl (esI k)))) → (h1 q_27 = some (24, .inl (G.2.2.1 0, 3000, .inl (nA (fun _ => 0))))) → (h1 q_43 = some (27, .inl (G.2.2.1 0, 255, .inl (nA (fun _ => 0))))) → (h1 q_61 = some (28, .inl (G.2.2.1 0, 36210, .inl (nA (fun _ => 0))))) → (h1 q_81 = some (30, .inl (G.2.2.1 0, 200, .inl (nA (fun _ => 0))))) → (h1 q_103 = some (32, .inl (G.2.2.1 0, 40800, .inl (nA (fun _ => 0))))) → (h1 q_127 = some (34, .inl (G.2.2.1 0, 16, .inl (nA (fun _ => 0))))) → (h1 q_153 = some (35, .inl (G.2.2.1 0, 16, .inl (nA (fun _ => 0))))) → (h1 q_181 = some (36, .inl (G.2.2.1 0, 16, .inl (nA (fun _ => 0))))) → (h1 q_211 = some (37, .inl (G.2.2.1 0, 16, .inl (nA (fun _ => 0))))) → (h1 q_243 = some (38, .inl (G.2.2.1 0, 16, .inl (nA (fun _ => 0))))) → (h1 q_277 = some (39, .inl (G.2.2.1 0, 16, .inl (nA (fun _ => 0))))) → (h1 q_313 = some (41, .inl (G.2.2.1 0, 4080, .inl (nA (fun _ => 0))))) → (h1 q_351 = some (42, .inl (G.2.2.1 0, 652800, .inl (nA (fun _ => 0))))) → (h1 q_391 = some (44, .inl (G.2.2.1 0, 200, .inl (nA (fun _ => 0))))) → (h1 q_433 = some (46, .inl (G.2.2.1 0, 200, .inl (nA (fun _ => 0))))) → ah_R G h1 H → va_S (ah_A G) s.heap H locs → lv_has ls 3 [(1, .int (nI k)), (0, .ref y)] → W p l e ({ frames := 1, cells := 17, slots := 738097, locals := 20 }) s m ([.ref y] : List Value).toArray below meth cd9 H locs (0 + 1 + 1 + 1 + 1 + 1 + 1 + 1 + 1 + 1 + 1 + 1 + 1 + 1 + 1 + 1 + 1 + 1) (0 + 128 + 128 + 3000 + 255 + 36210 + 200 + 40800 + 16 + 16 + 16 + 16 + 16 + 16 + 4080 + 652800 + 200 + 200) (MQ below (ah_Qv G (fun h' => ∃ A : Nat → Nat, h' y = some (20, .inr (8, mF A 0 0 0 0 0 0 0 0 0 0)) ∧ h' (A 1) = some (21, .inl (G.2.2.1 0, 128, .inl plT)) ∧ h' (A 2) = some (22, .inl (G.2.2.1 0, 128, .inl esT)) ∧ h' (A 4) = some (24, .inl (G.2.2.1 0, 3000, .inl (nA (fun _ => 0)))) ∧ h' (A 7) = some (27, .inl (G.2.2.1 0, 255, .inl (nA (fun _ => 0)))) ∧ h' (A 8) = some (28, .inl (G.2.2.1 0, 36210, .inl (nA (fun _ => 0)))) ∧ h' (A 10) = some (30, .inl (G.2.2.1 0, 200, .inl (nA (fun _ => 0)))) ∧ h' (A 12) = some (32, .inl (G.2.2.1 0, 40800, .inl (nA (fun _ => 0)))) ∧ h' (A 14) = some (34, .inl (G.2.2.1 0, 16, .inl (nA (fun _ => 0)))) ∧ h' (A 15) = some (35, .inl (G.2.2.1 0, 16, .inl (nA (fun _ => 0)))) ∧ h' (A 16) = some (36, .inl (G.2.2.1 0, 16, .inl (nA (fun _ => 0)))) ∧ h' (A 17) = some (37, .inl (G.2.2.1 0, 16, .inl (nA (fun _ => 0)))) ∧ h' (A 18) = some (38, .inl (G.2.2.1 0, 16, .inl (nA (fun _ => 0)))) ∧ h' (A 19) = some (39, .inl (G.2.2.1 0, 16, .inl (nA (fun _ => 0)))) ∧ h' (A 21) = some (41, .inl (G.2.2.1 0, 4080, .inl (nA (fun _ => 0)))) ∧ h' (A 22) = some (42, .inl (G.2.2.1 0, 652800, .inl (nA (fun _ => 0)))) ∧ h' (A 24) = some (44, .inl (G.2.2.1 0, 200, .inl (nA (fun _ => 0)))) ∧ h' (A 26) = some (46, .inl (G.2.2.1 0, 200, .inl (nA (fun _ => 0)))) ∧ agr (fun t => ¬ (20 ≤ t ∧ t ≤ 46)) h h')) ([.ref y] : List Value).toArray s 17 738097 (ah_A G)) (F0 m 150 ls []) := by
    intro N150
    induction N150 with
    | zero => intro k h1 H locs ls hN; exact absurd hN (Nat.not_lt_zero _)
    | succ N150 ih150 =>
      intro k h1 H locs ls hN150 hk ag1 f_458L fpL fqL f_461L f_462L f_463L f_464L f_465L f_466L f_467L f_468L f_469L f_470L f_471L f_472L f_473L f_474L f_475L hR hS hl
      refine lv_iload_n hx hb dX9_init_150 rfl (lv_at hl 0 rfl) ?_
      refine lv_sipush (v := nI 128) hx hb dX9_init_151 (by decide) ?_
      refine lv_icmp_ge (tgt := 239) hx hb dX9_init_154 (by decide) (fun c_479 => ?_) (fun c_479 => ?_)
      · skip
        have c_479 : 128 ≤ k := (nI_leI (by omega) (by omega)).mp c_479
        have ek : k = 128 := by omega
        subst ek
        refine lv_aload_n hx hb dX9_init_239 rfl (lv_at hl 1 rfl) ?_
        refine ah_get (ci := 8) (v := .ref q_1) (C := RX9) (T := TX9) (N := 27) hx hb hE hR hts hinX9 hown f_458L rfl 1 (by decide) k7 (fun _ h9 => h9) rfl dX9_init_240 ?_
        refine lv_iconst (v := nI 0) hx hb dX9_init_243 (by decide) ?_
        refine lv_bipush (v := nI 64) hx hb dX9_init_244 (by decide) ?_
        refine ah_iast (i := 0) hx hb hE hR hS fpL (by omega) (by omega) dX9_init_246 (fun H locs hR hS => ?_)
        obtain ⟨h_480, e_481⟩ : ∃ zz9, zz9 = ah_up h1 q_1 (21, .inl (G.2.2.1 0, 128, .inl (upd (plI 128) 0 (nI 64)))) := ⟨_, rfl⟩
        have hR : ah_R G h_480 H := by rw [e_481]; exact hR
        have f_482 : h_480 y = some (20, .inr (8, [.int (nI 0), .ref q_1, .ref q_13, .int (nI 0), .ref q_27, .int (nI 0), .int (nI 0), .ref q_43, .ref q_61, .int (nI 0), .ref q_81, .int (nI 0), .ref q_103, .int (nI 0), .ref q_127, .ref q_153, .ref q_181, .ref q_211, .ref q_243, .ref q_277, .int (nI 0), .ref q_313, .ref q_351, .int (nI 0), .ref q_391, .int (nI 0), .ref q_433])) := by rw [e_481]; exact ah_keep f_458L fpL (by omega)
        have f_483 : h_480 q_1 = some (21, .inl (G.2.2.1 0, 128, .inl (upd (plI 128) 0 (nI 64)))) := by rw [e_481]; exact ah_up_s _ _ _
        have f_484 : h_480 q_13 = some (22, .inl (G.2.2.1 0, 128, .inl (esI 128))) := by rw [e_481]; exact ah_keep fqL fpL (by omega)
        have f_485 : h_480 q_27 = some (24, .inl (G.2.2.1 0, 3000, .inl (nA (fun _ => 0)))) := by rw [e_481]; exact ah_keep f_461L fpL (by omega)
        have f_486 : h_480 q_43 = some (27, .inl (G.2.2.1 0, 255, .inl (nA (fun _ => 0)))) := by rw [e_481]; exact ah_keep f_462L fpL (by omega)
        have f_487 : h_480 q_61 = some (28, .inl (G.2.2.1 0, 36210, .inl (nA (fun _ => 0)))) := by rw [e_481]; exact ah_keep f_463L fpL (by omega)
        have f_488 : h_480 q_81 = some (30, .inl (G.2.2.1 0, 200, .inl (nA (fun _ => 0)))) := by rw [e_481]; exact ah_keep f_464L fpL (by omega)
        have f_489 : h_480 q_103 = some (32, .inl (G.2.2.1 0, 40800, .inl (nA (fun _ => 0)))) := by rw [e_481]; exact ah_keep f_465L fpL (by omega)
        have f_490 : h_480 q_127 = some (34, .inl (G.2.2.1 0, 16, .inl (nA (fun _ => 0)))) := by rw [e_481]; exact ah_keep f_466L fpL (by omega)
        have f_491 : h_480 q_153 = some (35, .inl (G.2.2.1 0, 16, .inl (nA (fun _ => 0)))) := by rw [e_481]; exact ah_keep f_467L fpL (by omega)
        have f_492 : h_480 q_181 = some (36, .inl (G.2.2.1 0, 16, .inl (nA (fun _ => 0)))) := by rw [e_481]; exact ah_keep f_468L fpL (by omega)
        have f_493 : h_480 q_211 = some (37, .inl (G.2.2.1 0, 16, .inl (nA (fun _ => 0)))) := by rw [e_481]; exact ah_keep f_469L fpL (by omega)
        have f_494 : h_480 q_243 = some (38, .inl (G.2.2.1 0, 16, .inl (nA (fun _ => 0)))) := by rw [e_481]; exact ah_keep f_470L fpL (by omega)
        have f_495 : h_480 q_277 = some (39, .inl (G.2.2.1 0, 16, .inl (nA (fun _ => 0)))) := by rw [e_481]; exact ah_keep f_471L fpL (by omega)
        have f_496 : h_480 q_313 = some (41, .inl (G.2.2.1 0, 4080, .inl (nA (fun _ => 0)))) := by rw [e_481]; exact ah_keep f_472L fpL (by omega)
        have f_497 : h_480 q_351 = some (42, .inl (G.2.2.1 0, 652800, .inl (nA (fun _ => 0)))) := by rw [e_481]; exact ah_keep f_473L fpL (by omega)
        have f_498 : h_480 q_391 = some (44, .inl (G.2.2.1 0, 200, .inl (nA (fun _ => 0)))) := by rw [e_481]; exact ah_keep f_474L fpL (by omega)
        have f_499 : h_480 q_433 = some (46, .inl (G.2.2.1 0, 200, .inl (nA (fun _ => 0)))) := by rw [e_481]; exact ah_keep f_475L fpL (by omega)
        refine lv_aload_n hx hb dX9_init_247 rfl (lv_at hl 1 rfl) ?_
        refine ah_get (ci := 8) (v := .ref q_1) (C := RX9) (T := TX9) (N := 27) hx hb hE hR hts hinX9 hown f_482 rfl 1 (by decide) k7 (fun _ h9 => h9) rfl dX9_init_248 ?_
        refine lv_iconst (v := nI 1) hx hb dX9_init_251 (by decide) ?_
        refine lv_sipush (v := nI 163) hx hb dX9_init_252 (by decide) ?_
        refine ah_iast (i := 1) hx hb hE hR hS f_483 (by omega) (by omega) dX9_init_255 (fun H locs hR hS => ?_)
        obtain ⟨h_500, e_501⟩ : ∃ zz9, zz9 = ah_up h_480 q_1 (21, .inl (G.2.2.1 0, 128, .inl (upd (upd (plI 128) 0 (nI 64)) 1 (nI 163)))) := ⟨_, rfl⟩
        have hR : ah_R G h_500 H := by rw [e_501]; exact hR
        have f_502 : h_500 y = some (20, .inr (8, [.int (nI 0), .ref q_1, .ref q_13, .int (nI 0), .ref q_27, .int (nI 0), .int (nI 0), .ref q_43, .ref q_61, .int (nI 0), .ref q_81, .int (nI 0), .ref q_103, .int (nI 0), .ref q_127, .ref q_153, .ref q_181, .ref q_211, .ref q_243, .ref q_277, .int (nI 0), .ref q_313, .ref q_351, .int (nI 0), .ref q_391, .int (nI 0), .ref q_433])) := by rw [e_501]; exact ah_keep f_482 f_483 (by omega)
        have f_503 : h_500 q_1 = some (21, .inl (G.2.2.1 0, 128, .inl (upd (upd (plI 128) 0 (nI 64)) 1 (nI 163)))) := by rw [e_501]; exact ah_up_s _ _ _
        have f_504 : h_500 q_13 = some (22, .inl (G.2.2.1 0, 128, .inl (esI 128))) := by rw [e_501]; exact ah_keep f_484 f_483 (by omega)
        have f_505 : h_500 q_27 = some (24, .inl (G.2.2.1 0, 3000, .inl (nA (fun _ => 0)))) := by rw [e_501]; exact ah_keep f_485 f_483 (by omega)
        have f_506 : h_500 q_43 = some (27, .inl (G.2.2.1 0, 255, .inl (nA (fun _ => 0)))) := by rw [e_501]; exact ah_keep f_486 f_483 (by omega)
        have f_507 : h_500 q_61 = some (28, .inl (G.2.2.1 0, 36210, .inl (nA (fun _ => 0)))) := by rw [e_501]; exact ah_keep f_487 f_483 (by omega)
        have f_508 : h_500 q_81 = some (30, .inl (G.2.2.1 0, 200, .inl (nA (fun _ => 0)))) := by rw [e_501]; exact ah_keep f_488 f_483 (by omega)
        have f_509 : h_500 q_103 = some (32, .inl (G.2.2.1 0, 40800, .inl (nA (fun _ => 0)))) := by rw [e_501]; exact ah_keep f_489 f_483 (by omega)
        have f_510 : h_500 q_127 = some (34, .inl (G.2.2.1 0, 16, .inl (nA (fun _ => 0)))) := by rw [e_501]; exact ah_keep f_490 f_483 (by omega)
        have f_511 : h_500 q_153 = some (35, .inl (G.2.2.1 0, 16, .inl (nA (fun _ => 0)))) := by rw [e_501]; exact ah_keep f_491 f_483 (by omega)
        have f_512 : h_500 q_181 = some (36, .inl (G.2.2.1 0, 16, .inl (nA (fun _ => 0)))) := by rw [e_501]; exact ah_keep f_492 f_483 (by omega)
        have f_513 : h_500 q_211 = some (37, .inl (G.2.2.1 0, 16, .inl (nA (fun _ => 0)))) := by rw [e_501]; exact ah_keep f_493 f_483 (by omega)
        have f_514 : h_500 q_243 = some (38, .inl (G.2.2.1 0, 16, .inl (nA (fun _ => 0)))) := by rw [e_501]; exact ah_keep f_494 f_483 (by omega)
        have f_515 : h_500 q_277 = some (39, .inl (G.2.2.1 0, 16, .inl (nA (fun _ => 0)))) := by rw [e_501]; exact ah_keep f_495 f_483 (by omega)
        have f_516 : h_500 q_313 = some (41, .inl (G.2.2.1 0, 4080, .inl (nA (fun _ => 0)))) := by rw [e_501]; exact ah_keep f_496 f_483 (by omega)
        have f_517 : h_500 q_351 = some (42, .inl (G.2.2.1 0, 652800, .inl (nA (fun _ => 0)))) := by rw [e_501]; exact ah_keep f_497 f_483 (by omega)
        have f_518 : h_500 q_391 = some (44, .inl (G.2.2.1 0, 200, .inl (nA (fun _ => 0)))) := by rw [e_501]; exact ah_keep f_498 f_483 (by omega)
        have f_519 : h_500 q_433 = some (46, .inl (G.2.2.1 0, 200, .inl (nA (fun _ => 0)))) := by rw [e_501]; exact ah_keep f_499 f_483 (by omega)
        refine lv_aload_n hx hb dX9_init_256 rfl (lv_at hl 1 rfl) ?_
        refine ah_get (ci := 8) (v := .ref q_1) (C := RX9) (T := TX9) (N := 27) hx hb hE hR hts hinX9 hown f_502 rfl 1 (by decide) k7 (fun _ h9 => h9) rfl dX9_init_257 ?_
        refine lv_iconst (v := nI 2) hx hb dX9_init_260 (by decide) ?_
        refine lv_bipush (v := nI 36) hx hb dX9_init_261 (by decide) ?_
        refine ah_iast (i := 2) hx hb hE hR hS f_503 (by omega) (by omega) dX9_init_263 (fun H locs hR hS => ?_)
        obtain ⟨h_520, e_521⟩ : ∃ zz9, zz9 = ah_up h_500 q_1 (21, .inl (G.2.2.1 0, 128, .inl (upd (upd (upd (plI 128) 0 (nI 64)) 1 (nI 163)) 2 (nI 36)))) := ⟨_, rfl⟩
        have hR : ah_R G h_520 H := by rw [e_521]; exact hR
        have f_522 : h_520 y = some (20, .inr (8, [.int (nI 0), .ref q_1, .ref q_13, .int (nI 0), .ref q_27, .int (nI 0), .int (nI 0), .ref q_43, .ref q_61, .int (nI 0), .ref q_81, .int (nI 0), .ref q_103, .int (nI 0), .ref q_127, .ref q_153, .ref q_181, .ref q_211, .ref q_243, .ref q_277, .int (nI 0), .ref q_313, .ref q_351, .int (nI 0), .ref q_391, .int (nI 0), .ref q_433])) := by rw [e_521]; exact ah_keep f_502 f_503 (by omega)
        have f_523 : h_520 q_1 = some (21, .inl (G.2.2.1 0, 128, .inl (upd (upd (upd (plI 128) 0 (nI 64)) 1 (nI 163)) 2 (nI 36)))) := by rw [e_521]; exact ah_up_s _ _ _
        have f_524 : h_520 q_13 = some (22, .inl (G.2.2.1 0, 128, .inl (esI 128))) := by rw [e_521]; exact ah_keep f_504 f_503 (by omega)
        have f_525 : h_520 q_27 = some (24, .inl (G.2.2.1 0, 3000, .inl (nA (fun _ => 0)))) := by rw [e_521]; exact ah_keep f_505 f_503 (by omega)
        have f_526 : h_520 q_43 = some (27, .inl (G.2.2.1 0, 255, .inl (nA (fun _ => 0)))) := by rw [e_521]; exact ah_keep f_506 f_503 (by omega)
        have f_527 : h_520 q_61 = some (28, .inl (G.2.2.1 0, 36210, .inl (nA (fun _ => 0)))) := by rw [e_521]; exact ah_keep f_507 f_503 (by omega)
        have f_528 : h_520 q_81 = some (30, .inl (G.2.2.1 0, 200, .inl (nA (fun _ => 0)))) := by rw [e_521]; exact ah_keep f_508 f_503 (by omega)
        have f_529 : h_520 q_103 = some (32, .inl (G.2.2.1 0, 40800, .inl (nA (fun _ => 0)))) := by rw [e_521]; exact ah_keep f_509 f_503 (by omega)
        have f_530 : h_520 q_127 = some (34, .inl (G.2.2.1 0, 16, .inl (nA (fun _ => 0)))) := by rw [e_521]; exact ah_keep f_510 f_503 (by omega)
        have f_531 : h_520 q_153 = some (35, .inl (G.2.2.1 0, 16, .inl (nA (fun _ => 0)))) := by rw [e_521]; exact ah_keep f_511 f_503 (by omega)
        have f_532 : h_520 q_181 = some (36, .inl (G.2.2.1 0, 16, .inl (nA (fun _ => 0)))) := by rw [e_521]; exact ah_keep f_512 f_503 (by omega)
        have f_533 : h_520 q_211 = some (37, .inl (G.2.2.1 0, 16, .inl (nA (fun _ => 0)))) := by rw [e_521]; exact ah_keep f_513 f_503 (by omega)
        have f_534 : h_520 q_243 = some (38, .inl (G.2.2.1 0, 16, .inl (nA (fun _ => 0)))) := by rw [e_521]; exact ah_keep f_514 f_503 (by omega)
        have f_535 : h_520 q_277 = some (39, .inl (G.2.2.1 0, 16, .inl (nA (fun _ => 0)))) := by rw [e_521]; exact ah_keep f_515 f_503 (by omega)
        have f_536 : h_520 q_313 = some (41, .inl (G.2.2.1 0, 4080, .inl (nA (fun _ => 0)))) := by rw [e_521]; exact ah_keep f_516 f_503 (by omega)
        have f_537 : h_520 q_351 = some (42, .inl (G.2.2.1 0, 652800, .inl (nA (fun _ => 0)))) := by rw [e_521]; exact ah_keep f_517 f_503 (by omega)
        have f_538 : h_520 q_391 = some (44, .inl (G.2.2.1 0, 200, .inl (nA (fun _ => 0)))) := by rw [e_521]; exact ah_keep f_518 f_503 (by omega)
        have f_539 : h_520 q_433 = some (46, .inl (G.2.2.1 0, 200, .inl (nA (fun _ => 0)))) := by rw [e_521]; exact ah_keep f_519 f_503 (by omega)
        refine lv_aload_n hx hb dX9_init_264 rfl (lv_at hl 1 rfl) ?_
        refine ah_get (ci := 8) (v := .ref q_1) (C := RX9) (T := TX9) (N := 27) hx hb hE hR hts hinX9 hown f_522 rfl 1 (by decide) k7 (fun _ h9 => h9) rfl dX9_init_265 ?_
        refine lv_iconst (v := nI 3) hx hb dX9_init_268 (by decide) ?_
        refine lv_sipush (v := nI 165) hx hb dX9_init_269 (by decide) ?_
        refine ah_iast (i := 3) hx hb hE hR hS f_523 (by omega) (by omega) dX9_init_272 (fun H locs hR hS => ?_)
        obtain ⟨h_540, e_541⟩ : ∃ zz9, zz9 = ah_up h_520 q_1 (21, .inl (G.2.2.1 0, 128, .inl (upd (upd (upd (upd (plI 128) 0 (nI 64)) 1 (nI 163)) 2 (nI 36)) 3 (nI 165)))) := ⟨_, rfl⟩
        have hR : ah_R G h_540 H := by rw [e_541]; exact hR
        have f_542 : h_540 y = some (20, .inr (8, [.int (nI 0), .ref q_1, .ref q_13, .int (nI 0), .ref q_27, .int (nI 0), .int (nI 0), .ref q_43, .ref q_61, .int (nI 0), .ref q_81, .int (nI 0), .ref q_103, .int (nI 0), .ref q_127, .ref q_153, .ref q_181, .ref q_211, .ref q_243, .ref q_277, .int (nI 0), .ref q_313, .ref q_351, .int (nI 0), .ref q_391, .int (nI 0), .ref q_433])) := by rw [e_541]; exact ah_keep f_522 f_523 (by omega)
        have f_543 : h_540 q_1 = some (21, .inl (G.2.2.1 0, 128, .inl (upd (upd (upd (upd (plI 128) 0 (nI 64)) 1 (nI 163)) 2 (nI 36)) 3 (nI 165)))) := by rw [e_541]; exact ah_up_s _ _ _
        have f_544 : h_540 q_13 = some (22, .inl (G.2.2.1 0, 128, .inl (esI 128))) := by rw [e_541]; exact ah_keep f_524 f_523 (by omega)
        have f_545 : h_540 q_27 = some (24, .inl (G.2.2.1 0, 3000, .inl (nA (fun _ => 0)))) := by rw [e_541]; exact ah_keep f_525 f_523 (by omega)
        have f_546 : h_540 q_43 = some (27, .inl (G.2.2.1 0, 255, .inl (nA (fun _ => 0)))) := by rw [e_541]; exact ah_keep f_526 f_523 (by omega)
        have f_547 : h_540 q_61 = some (28, .inl (G.2.2.1 0, 36210, .inl (nA (fun _ => 0)))) := by rw [e_541]; exact ah_keep f_527 f_523 (by omega)
        have f_548 : h_540 q_81 = some (30, .inl (G.2.2.1 0, 200, .inl (nA (fun _ => 0)))) := by rw [e_541]; exact ah_keep f_528 f_523 (by omega)
        have f_549 : h_540 q_103 = some (32, .inl (G.2.2.1 0, 40800, .inl (nA (fun _ => 0)))) := by rw [e_541]; exact ah_keep f_529 f_523 (by omega)
        have f_550 : h_540 q_127 = some (34, .inl (G.2.2.1 0, 16, .inl (nA (fun _ => 0)))) := by rw [e_541]; exact ah_keep f_530 f_523 (by omega)
        have f_551 : h_540 q_153 = some (35, .inl (G.2.2.1 0, 16, .inl (nA (fun _ => 0)))) := by rw [e_541]; exact ah_keep f_531 f_523 (by omega)
        have f_552 : h_540 q_181 = some (36, .inl (G.2.2.1 0, 16, .inl (nA (fun _ => 0)))) := by rw [e_541]; exact ah_keep f_532 f_523 (by omega)
        have f_553 : h_540 q_211 = some (37, .inl (G.2.2.1 0, 16, .inl (nA (fun _ => 0)))) := by rw [e_541]; exact ah_keep f_533 f_523 (by omega)
        have f_554 : h_540 q_243 = some (38, .inl (G.2.2.1 0, 16, .inl (nA (fun _ => 0)))) := by rw [e_541]; exact ah_keep f_534 f_523 (by omega)
        have f_555 : h_540 q_277 = some (39, .inl (G.2.2.1 0, 16, .inl (nA (fun _ => 0)))) := by rw [e_541]; exact ah_keep f_535 f_523 (by omega)
        have f_556 : h_540 q_313 = some (41, .inl (G.2.2.1 0, 4080, .inl (nA (fun _ => 0)))) := by rw [e_541]; exact ah_keep f_536 f_523 (by omega)
        have f_557 : h_540 q_351 = some (42, .inl (G.2.2.1 0, 652800, .inl (nA (fun _ => 0)))) := by rw [e_541]; exact ah_keep f_537 f_523 (by omega)
        have f_558 : h_540 q_391 = some (44, .inl (G.2.2.1 0, 200, .inl (nA (fun _ => 0)))) := by rw [e_541]; exact ah_keep f_538 f_523 (by omega)
        have f_559 : h_540 q_433 = some (46, .inl (G.2.2.1 0, 200, .inl (nA (fun _ => 0)))) := by rw [e_541]; exact ah_keep f_539 f_523 (by omega)
        refine lv_aload_n hx hb dX9_init_273 rfl (lv_at hl 1 rfl) ?_
        refine ah_get (ci := 8) (v := .ref q_1) (C := RX9) (T := TX9) (N := 27) hx hb hE hR hts hinX9 hown f_542 rfl 1 (by decide) k7 (fun _ h9 => h9) rfl dX9_init_274 ?_
        refine lv_iconst (v := nI 4) hx hb dX9_init_277 (by decide) ?_
        refine lv_sipush (v := nI 232) hx hb dX9_init_278 (by decide) ?_
        refine ah_iast (i := 4) hx hb hE hR hS f_543 (by omega) (by omega) dX9_init_281 (fun H locs hR hS => ?_)
        obtain ⟨h_560, e_561⟩ : ∃ zz9, zz9 = ah_up h_540 q_1 (21, .inl (G.2.2.1 0, 128, .inl (upd (upd (upd (upd (upd (plI 128) 0 (nI 64)) 1 (nI 163)) 2 (nI 36)) 3 (nI 165)) 4 (nI 232)))) := ⟨_, rfl⟩
        have hR : ah_R G h_560 H := by rw [e_561]; exact hR
        have f_562 : h_560 y = some (20, .inr (8, [.int (nI 0), .ref q_1, .ref q_13, .int (nI 0), .ref q_27, .int (nI 0), .int (nI 0), .ref q_43, .ref q_61, .int (nI 0), .ref q_81, .int (nI 0), .ref q_103, .int (nI 0), .ref q_127, .ref q_153, .ref q_181, .ref q_211, .ref q_243, .ref q_277, .int (nI 0), .ref q_313, .ref q_351, .int (nI 0), .ref q_391, .int (nI 0), .ref q_433])) := by rw [e_561]; exact ah_keep f_542 f_543 (by omega)
        have f_563 : h_560 q_1 = some (21, .inl (G.2.2.1 0, 128, .inl (upd (upd (upd (upd (upd (plI 128) 0 (nI 64)) 1 (nI 163)) 2 (nI 36)) 3 (nI 165)) 4 (nI 232)))) := by rw [e_561]; exact ah_up_s _ _ _
        have f_564 : h_560 q_13 = some (22, .inl (G.2.2.1 0, 128, .inl (esI 128))) := by rw [e_561]; exact ah_keep f_544 f_543 (by omega)
        have f_565 : h_560 q_27 = some (24, .inl (G.2.2.1 0, 3000, .inl (nA (fun _ => 0)))) := by rw [e_561]; exact ah_keep f_545 f_543 (by omega)
        have f_566 : h_560 q_43 = some (27, .inl (G.2.2.1 0, 255, .inl (nA (fun _ => 0)))) := by rw [e_561]; exact ah_keep f_546 f_543 (by omega)
        have f_567 : h_560 q_61 = some (28, .inl (G.2.2.1 0, 36210, .inl (nA (fun _ => 0)))) := by rw [e_561]; exact ah_keep f_547 f_543 (by omega)
        have f_568 : h_560 q_81 = some (30, .inl (G.2.2.1 0, 200, .inl (nA (fun _ => 0)))) := by rw [e_561]; exact ah_keep f_548 f_543 (by omega)
        have f_569 : h_560 q_103 = some (32, .inl (G.2.2.1 0, 40800, .inl (nA (fun _ => 0)))) := by rw [e_561]; exact ah_keep f_549 f_543 (by omega)
        have f_570 : h_560 q_127 = some (34, .inl (G.2.2.1 0, 16, .inl (nA (fun _ => 0)))) := by rw [e_561]; exact ah_keep f_550 f_543 (by omega)
        have f_571 : h_560 q_153 = some (35, .inl (G.2.2.1 0, 16, .inl (nA (fun _ => 0)))) := by rw [e_561]; exact ah_keep f_551 f_543 (by omega)
        have f_572 : h_560 q_181 = some (36, .inl (G.2.2.1 0, 16, .inl (nA (fun _ => 0)))) := by rw [e_561]; exact ah_keep f_552 f_543 (by omega)
        have f_573 : h_560 q_211 = some (37, .inl (G.2.2.1 0, 16, .inl (nA (fun _ => 0)))) := by rw [e_561]; exact ah_keep f_553 f_543 (by omega)
        have f_574 : h_560 q_243 = some (38, .inl (G.2.2.1 0, 16, .inl (nA (fun _ => 0)))) := by rw [e_561]; exact ah_keep f_554 f_543 (by omega)
        have f_575 : h_560 q_277 = some (39, .inl (G.2.2.1 0, 16, .inl (nA (fun _ => 0)))) := by rw [e_561]; exact ah_keep f_555 f_543 (by omega)
        have f_576 : h_560 q_313 = some (41, .inl (G.2.2.1 0, 4080, .inl (nA (fun _ => 0)))) := by rw [e_561]; exact ah_keep f_556 f_543 (by omega)
        have f_577 : h_560 q_351 = some (42, .inl (G.2.2.1 0, 652800, .inl (nA (fun _ => 0)))) := by rw [e_561]; exact ah_keep f_557 f_543 (by omega)
        have f_578 : h_560 q_391 = some (44, .inl (G.2.2.1 0, 200, .inl (nA (fun _ => 0)))) := by rw [e_561]; exact ah_keep f_558 f_543 (by omega)
        have f_579 : h_560 q_433 = some (46, .inl (G.2.2.1 0, 200, .inl (nA (fun _ => 0)))) := by rw [e_561]; exact ah_keep f_559 f_543 (by omega)
        refine lv_aload_n hx hb dX9_init_282 rfl (lv_at hl 1 rfl) ?_
        refine ah_get (ci := 8) (v := .ref q_1) (C := RX9) (T := TX9) (N := 27) hx hb hE hR hts hinX9 hown f_562 rfl 1 (by decide) k7 (fun _ h9 => h9) rfl dX9_init_283 ?_
        refine lv_iconst (v := nI 5) hx hb dX9_init_286 (by decide) ?_
        refine lv_sipush (v := nI 233) hx hb dX9_init_287 (by decide) ?_
        refine ah_iast (i := 5) hx hb hE hR hS f_563 (by omega) (by omega) dX9_init_290 (fun H locs hR hS => ?_)
        obtain ⟨h_580, e_581⟩ : ∃ zz9, zz9 = ah_up h_560 q_1 (21, .inl (G.2.2.1 0, 128, .inl (upd (upd (upd (upd (upd (upd (plI 128) 0 (nI 64)) 1 (nI 163)) 2 (nI 36)) 3 (nI 165)) 4 (nI 232)) 5 (nI 233)))) := ⟨_, rfl⟩
        have hR : ah_R G h_580 H := by rw [e_581]; exact hR
        have f_582 : h_580 y = some (20, .inr (8, [.int (nI 0), .ref q_1, .ref q_13, .int (nI 0), .ref q_27, .int (nI 0), .int (nI 0), .ref q_43, .ref q_61, .int (nI 0), .ref q_81, .int (nI 0), .ref q_103, .int (nI 0), .ref q_127, .ref q_153, .ref q_181, .ref q_211, .ref q_243, .ref q_277, .int (nI 0), .ref q_313, .ref q_351, .int (nI 0), .ref q_391, .int (nI 0), .ref q_433])) := by rw [e_581]; exact ah_keep f_562 f_563 (by omega)
        have f_583 : h_580 q_1 = some (21, .inl (G.2.2.1 0, 128, .inl (upd (upd (upd (upd (upd (upd (plI 128) 0 (nI 64)) 1 (nI 163)) 2 (nI 36)) 3 (nI 165)) 4 (nI 232)) 5 (nI 233)))) := by rw [e_581]; exact ah_up_s _ _ _
        have f_584 : h_580 q_13 = some (22, .inl (G.2.2.1 0, 128, .inl (esI 128))) := by rw [e_581]; exact ah_keep f_564 f_563 (by omega)
        have f_585 : h_580 q_27 = some (24, .inl (G.2.2.1 0, 3000, .inl (nA (fun _ => 0)))) := by rw [e_581]; exact ah_keep f_565 f_563 (by omega)
        have f_586 : h_580 q_43 = some (27, .inl (G.2.2.1 0, 255, .inl (nA (fun _ => 0)))) := by rw [e_581]; exact ah_keep f_566 f_563 (by omega)
        have f_587 : h_580 q_61 = some (28, .inl (G.2.2.1 0, 36210, .inl (nA (fun _ => 0)))) := by rw [e_581]; exact ah_keep f_567 f_563 (by omega)
        have f_588 : h_580 q_81 = some (30, .inl (G.2.2.1 0, 200, .inl (nA (fun _ => 0)))) := by rw [e_581]; exact ah_keep f_568 f_563 (by omega)
        have f_589 : h_580 q_103 = some (32, .inl (G.2.2.1 0, 40800, .inl (nA (fun _ => 0)))) := by rw [e_581]; exact ah_keep f_569 f_563 (by omega)
        have f_590 : h_580 q_127 = some (34, .inl (G.2.2.1 0, 16, .inl (nA (fun _ => 0)))) := by rw [e_581]; exact ah_keep f_570 f_563 (by omega)
        have f_591 : h_580 q_153 = some (35, .inl (G.2.2.1 0, 16, .inl (nA (fun _ => 0)))) := by rw [e_581]; exact ah_keep f_571 f_563 (by omega)
        have f_592 : h_580 q_181 = some (36, .inl (G.2.2.1 0, 16, .inl (nA (fun _ => 0)))) := by rw [e_581]; exact ah_keep f_572 f_563 (by omega)
        have f_593 : h_580 q_211 = some (37, .inl (G.2.2.1 0, 16, .inl (nA (fun _ => 0)))) := by rw [e_581]; exact ah_keep f_573 f_563 (by omega)
        have f_594 : h_580 q_243 = some (38, .inl (G.2.2.1 0, 16, .inl (nA (fun _ => 0)))) := by rw [e_581]; exact ah_keep f_574 f_563 (by omega)
        have f_595 : h_580 q_277 = some (39, .inl (G.2.2.1 0, 16, .inl (nA (fun _ => 0)))) := by rw [e_581]; exact ah_keep f_575 f_563 (by omega)
        have f_596 : h_580 q_313 = some (41, .inl (G.2.2.1 0, 4080, .inl (nA (fun _ => 0)))) := by rw [e_581]; exact ah_keep f_576 f_563 (by omega)
        have f_597 : h_580 q_351 = some (42, .inl (G.2.2.1 0, 652800, .inl (nA (fun _ => 0)))) := by rw [e_581]; exact ah_keep f_577 f_563 (by omega)
        have f_598 : h_580 q_391 = some (44, .inl (G.2.2.1 0, 200, .inl (nA (fun _ => 0)))) := by rw [e_581]; exact ah_keep f_578 f_563 (by omega)
        have f_599 : h_580 q_433 = some (46, .inl (G.2.2.1 0, 200, .inl (nA (fun _ => 0)))) := by rw [e_581]; exact ah_keep f_579 f_563 (by omega)
        refine lv_aload_n hx hb dX9_init_291 rfl (lv_at hl 1 rfl) ?_
        refine ah_get (ci := 8) (v := .ref q_1) (C := RX9) (T := TX9) (N := 27) hx hb hE hR hts hinX9 hown f_582 rfl 1 (by decide) k7 (fun _ h9 => h9) rfl dX9_init_292 ?_
        refine lv_bipush (v := nI 17) hx hb dX9_init_295 (by decide) ?_
        refine lv_bipush (v := nI 95) hx hb dX9_init_297 (by decide) ?_
        refine ah_iast (i := 17) hx hb hE hR hS f_583 (by omega) (by omega) dX9_init_299 (fun H locs hR hS => ?_)
        obtain ⟨h_600, e_601⟩ : ∃ zz9, zz9 = ah_up h_580 q_1 (21, .inl (G.2.2.1 0, 128, .inl (upd (upd (upd (upd (upd (upd (upd (plI 128) 0 (nI 64)) 1 (nI 163)) 2 (nI 36)) 3 (nI 165)) 4 (nI 232)) 5 (nI 233)) 17 (nI 95)))) := ⟨_, rfl⟩
        have hR : ah_R G h_600 H := by rw [e_601]; exact hR
        have f_602 : h_600 y = some (20, .inr (8, [.int (nI 0), .ref q_1, .ref q_13, .int (nI 0), .ref q_27, .int (nI 0), .int (nI 0), .ref q_43, .ref q_61, .int (nI 0), .ref q_81, .int (nI 0), .ref q_103, .int (nI 0), .ref q_127, .ref q_153, .ref q_181, .ref q_211, .ref q_243, .ref q_277, .int (nI 0), .ref q_313, .ref q_351, .int (nI 0), .ref q_391, .int (nI 0), .ref q_433])) := by rw [e_601]; exact ah_keep f_582 f_583 (by omega)
        have f_603 : h_600 q_1 = some (21, .inl (G.2.2.1 0, 128, .inl (upd (upd (upd (upd (upd (upd (upd (plI 128) 0 (nI 64)) 1 (nI 163)) 2 (nI 36)) 3 (nI 165)) 4 (nI 232)) 5 (nI 233)) 17 (nI 95)))) := by rw [e_601]; exact ah_up_s _ _ _
        have f_604 : h_600 q_13 = some (22, .inl (G.2.2.1 0, 128, .inl (esI 128))) := by rw [e_601]; exact ah_keep f_584 f_583 (by omega)
        have f_605 : h_600 q_27 = some (24, .inl (G.2.2.1 0, 3000, .inl (nA (fun _ => 0)))) := by rw [e_601]; exact ah_keep f_585 f_583 (by omega)
        have f_606 : h_600 q_43 = some (27, .inl (G.2.2.1 0, 255, .inl (nA (fun _ => 0)))) := by rw [e_601]; exact ah_keep f_586 f_583 (by omega)
        have f_607 : h_600 q_61 = some (28, .inl (G.2.2.1 0, 36210, .inl (nA (fun _ => 0)))) := by rw [e_601]; exact ah_keep f_587 f_583 (by omega)
        have f_608 : h_600 q_81 = some (30, .inl (G.2.2.1 0, 200, .inl (nA (fun _ => 0)))) := by rw [e_601]; exact ah_keep f_588 f_583 (by omega)
        have f_609 : h_600 q_103 = some (32, .inl (G.2.2.1 0, 40800, .inl (nA (fun _ => 0)))) := by rw [e_601]; exact ah_keep f_589 f_583 (by omega)
        have f_610 : h_600 q_127 = some (34, .inl (G.2.2.1 0, 16, .inl (nA (fun _ => 0)))) := by rw [e_601]; exact ah_keep f_590 f_583 (by omega)
        have f_611 : h_600 q_153 = some (35, .inl (G.2.2.1 0, 16, .inl (nA (fun _ => 0)))) := by rw [e_601]; exact ah_keep f_591 f_583 (by omega)
        have f_612 : h_600 q_181 = some (36, .inl (G.2.2.1 0, 16, .inl (nA (fun _ => 0)))) := by rw [e_601]; exact ah_keep f_592 f_583 (by omega)
        have f_613 : h_600 q_211 = some (37, .inl (G.2.2.1 0, 16, .inl (nA (fun _ => 0)))) := by rw [e_601]; exact ah_keep f_593 f_583 (by omega)
        have f_614 : h_600 q_243 = some (38, .inl (G.2.2.1 0, 16, .inl (nA (fun _ => 0)))) := by rw [e_601]; exact ah_keep f_594 f_583 (by omega)
        have f_615 : h_600 q_277 = some (39, .inl (G.2.2.1 0, 16, .inl (nA (fun _ => 0)))) := by rw [e_601]; exact ah_keep f_595 f_583 (by omega)
        have f_616 : h_600 q_313 = some (41, .inl (G.2.2.1 0, 4080, .inl (nA (fun _ => 0)))) := by rw [e_601]; exact ah_keep f_596 f_583 (by omega)
        have f_617 : h_600 q_351 = some (42, .inl (G.2.2.1 0, 652800, .inl (nA (fun _ => 0)))) := by rw [e_601]; exact ah_keep f_597 f_583 (by omega)
        have f_618 : h_600 q_391 = some (44, .inl (G.2.2.1 0, 200, .inl (nA (fun _ => 0)))) := by rw [e_601]; exact ah_keep f_598 f_583 (by omega)
        have f_619 : h_600 q_433 = some (46, .inl (G.2.2.1 0, 200, .inl (nA (fun _ => 0)))) := by rw [e_601]; exact ah_keep f_599 f_583 (by omega)
        refine lv_aload_n hx hb dX9_init_300 rfl (lv_at hl 1 rfl) ?_
        refine ah_get (ci := 8) (v := .ref q_1) (C := RX9) (T := TX9) (N := 27) hx hb hE hR hts hinX9 hown f_602 rfl 1 (by decide) k7 (fun _ h9 => h9) rfl dX9_init_301 ?_
        refine lv_bipush (v := nI 95) hx hb dX9_init_304 (by decide) ?_
        refine lv_sipush (v := nI 167) hx hb dX9_init_306 (by decide) ?_
        refine ah_iast (i := 95) hx hb hE hR hS f_603 (by omega) (by omega) dX9_init_309 (fun H locs hR hS => ?_)
        obtain ⟨h_620, e_621⟩ : ∃ zz9, zz9 = ah_up h_600 q_1 (21, .inl (G.2.2.1 0, 128, .inl (upd (upd (upd (upd (upd (upd (upd (upd (plI 128) 0 (nI 64)) 1 (nI 163)) 2 (nI 36)) 3 (nI 165)) 4 (nI 232)) 5 (nI 233)) 17 (nI 95)) 95 (nI 167)))) := ⟨_, rfl⟩
        have hR : ah_R G h_620 H := by rw [e_621]; exact hR
        have f_622 : h_620 y = some (20, .inr (8, [.int (nI 0), .ref q_1, .ref q_13, .int (nI 0), .ref q_27, .int (nI 0), .int (nI 0), .ref q_43, .ref q_61, .int (nI 0), .ref q_81, .int (nI 0), .ref q_103, .int (nI 0), .ref q_127, .ref q_153, .ref q_181, .ref q_211, .ref q_243, .ref q_277, .int (nI 0), .ref q_313, .ref q_351, .int (nI 0), .ref q_391, .int (nI 0), .ref q_433])) := by rw [e_621]; exact ah_keep f_602 f_603 (by omega)
        have f_623 : h_620 q_1 = some (21, .inl (G.2.2.1 0, 128, .inl (upd (upd (upd (upd (upd (upd (upd (upd (plI 128) 0 (nI 64)) 1 (nI 163)) 2 (nI 36)) 3 (nI 165)) 4 (nI 232)) 5 (nI 233)) 17 (nI 95)) 95 (nI 167)))) := by rw [e_621]; exact ah_up_s _ _ _
        have f_624 : h_620 q_13 = some (22, .inl (G.2.2.1 0, 128, .inl (esI 128))) := by rw [e_621]; exact ah_keep f_604 f_603 (by omega)
        have f_625 : h_620 q_27 = some (24, .inl (G.2.2.1 0, 3000, .inl (nA (fun _ => 0)))) := by rw [e_621]; exact ah_keep f_605 f_603 (by omega)
        have f_626 : h_620 q_43 = some (27, .inl (G.2.2.1 0, 255, .inl (nA (fun _ => 0)))) := by rw [e_621]; exact ah_keep f_606 f_603 (by omega)
        have f_627 : h_620 q_61 = some (28, .inl (G.2.2.1 0, 36210, .inl (nA (fun _ => 0)))) := by rw [e_621]; exact ah_keep f_607 f_603 (by omega)
        have f_628 : h_620 q_81 = some (30, .inl (G.2.2.1 0, 200, .inl (nA (fun _ => 0)))) := by rw [e_621]; exact ah_keep f_608 f_603 (by omega)
        have f_629 : h_620 q_103 = some (32, .inl (G.2.2.1 0, 40800, .inl (nA (fun _ => 0)))) := by rw [e_621]; exact ah_keep f_609 f_603 (by omega)
        have f_630 : h_620 q_127 = some (34, .inl (G.2.2.1 0, 16, .inl (nA (fun _ => 0)))) := by rw [e_621]; exact ah_keep f_610 f_603 (by omega)
        have f_631 : h_620 q_153 = some (35, .inl (G.2.2.1 0, 16, .inl (nA (fun _ => 0)))) := by rw [e_621]; exact ah_keep f_611 f_603 (by omega)
        have f_632 : h_620 q_181 = some (36, .inl (G.2.2.1 0, 16, .inl (nA (fun _ => 0)))) := by rw [e_621]; exact ah_keep f_612 f_603 (by omega)
        have f_633 : h_620 q_211 = some (37, .inl (G.2.2.1 0, 16, .inl (nA (fun _ => 0)))) := by rw [e_621]; exact ah_keep f_613 f_603 (by omega)
        have f_634 : h_620 q_243 = some (38, .inl (G.2.2.1 0, 16, .inl (nA (fun _ => 0)))) := by rw [e_621]; exact ah_keep f_614 f_603 (by omega)
        have f_635 : h_620 q_277 = some (39, .inl (G.2.2.1 0, 16, .inl (nA (fun _ => 0)))) := by rw [e_621]; exact ah_keep f_615 f_603 (by omega)
        have f_636 : h_620 q_313 = some (41, .inl (G.2.2.1 0, 4080, .inl (nA (fun _ => 0)))) := by rw [e_621]; exact ah_keep f_616 f_603 (by omega)
        have f_637 : h_620 q_351 = some (42, .inl (G.2.2.1 0, 652800, .inl (nA (fun _ => 0)))) := by rw [e_621]; exact ah_keep f_617 f_603 (by omega)
        have f_638 : h_620 q_391 = some (44, .inl (G.2.2.1 0, 200, .inl (nA (fun _ => 0)))) := by rw [e_621]; exact ah_keep f_618 f_603 (by omega)
        have f_639 : h_620 q_433 = some (46, .inl (G.2.2.1 0, 200, .inl (nA (fun _ => 0)))) := by rw [e_621]; exact ah_keep f_619 f_603 (by omega)
        refine lv_aload_n hx hb dX9_init_310 rfl (lv_at hl 1 rfl) ?_
        refine ah_get (ci := 8) (v := .ref q_1) (C := RX9) (T := TX9) (N := 27) hx hb hE hR hts hinX9 hown f_622 rfl 1 (by decide) k7 (fun _ h9 => h9) rfl dX9_init_311 ?_
        refine lv_bipush (v := nI 123) hx hb dX9_init_314 (by decide) ?_
        refine lv_sipush (v := nI 228) hx hb dX9_init_316 (by decide) ?_
        refine ah_iast (i := 123) hx hb hE hR hS f_623 (by omega) (by omega) dX9_init_319 (fun H locs hR hS => ?_)
        obtain ⟨h_640, e_641⟩ : ∃ zz9, zz9 = ah_up h_620 q_1 (21, .inl (G.2.2.1 0, 128, .inl (upd (upd (upd (upd (upd (upd (upd (upd (upd (plI 128) 0 (nI 64)) 1 (nI 163)) 2 (nI 36)) 3 (nI 165)) 4 (nI 232)) 5 (nI 233)) 17 (nI 95)) 95 (nI 167)) 123 (nI 228)))) := ⟨_, rfl⟩
        have hR : ah_R G h_640 H := by rw [e_641]; exact hR
        have f_642 : h_640 y = some (20, .inr (8, [.int (nI 0), .ref q_1, .ref q_13, .int (nI 0), .ref q_27, .int (nI 0), .int (nI 0), .ref q_43, .ref q_61, .int (nI 0), .ref q_81, .int (nI 0), .ref q_103, .int (nI 0), .ref q_127, .ref q_153, .ref q_181, .ref q_211, .ref q_243, .ref q_277, .int (nI 0), .ref q_313, .ref q_351, .int (nI 0), .ref q_391, .int (nI 0), .ref q_433])) := by rw [e_641]; exact ah_keep f_622 f_623 (by omega)
        have f_643 : h_640 q_1 = some (21, .inl (G.2.2.1 0, 128, .inl (upd (upd (upd (upd (upd (upd (upd (upd (upd (plI 128) 0 (nI 64)) 1 (nI 163)) 2 (nI 36)) 3 (nI 165)) 4 (nI 232)) 5 (nI 233)) 17 (nI 95)) 95 (nI 167)) 123 (nI 228)))) := by rw [e_641]; exact ah_up_s _ _ _
        have f_644 : h_640 q_13 = some (22, .inl (G.2.2.1 0, 128, .inl (esI 128))) := by rw [e_641]; exact ah_keep f_624 f_623 (by omega)
        have f_645 : h_640 q_27 = some (24, .inl (G.2.2.1 0, 3000, .inl (nA (fun _ => 0)))) := by rw [e_641]; exact ah_keep f_625 f_623 (by omega)
        have f_646 : h_640 q_43 = some (27, .inl (G.2.2.1 0, 255, .inl (nA (fun _ => 0)))) := by rw [e_641]; exact ah_keep f_626 f_623 (by omega)
        have f_647 : h_640 q_61 = some (28, .inl (G.2.2.1 0, 36210, .inl (nA (fun _ => 0)))) := by rw [e_641]; exact ah_keep f_627 f_623 (by omega)
        have f_648 : h_640 q_81 = some (30, .inl (G.2.2.1 0, 200, .inl (nA (fun _ => 0)))) := by rw [e_641]; exact ah_keep f_628 f_623 (by omega)
        have f_649 : h_640 q_103 = some (32, .inl (G.2.2.1 0, 40800, .inl (nA (fun _ => 0)))) := by rw [e_641]; exact ah_keep f_629 f_623 (by omega)
        have f_650 : h_640 q_127 = some (34, .inl (G.2.2.1 0, 16, .inl (nA (fun _ => 0)))) := by rw [e_641]; exact ah_keep f_630 f_623 (by omega)
        have f_651 : h_640 q_153 = some (35, .inl (G.2.2.1 0, 16, .inl (nA (fun _ => 0)))) := by rw [e_641]; exact ah_keep f_631 f_623 (by omega)
        have f_652 : h_640 q_181 = some (36, .inl (G.2.2.1 0, 16, .inl (nA (fun _ => 0)))) := by rw [e_641]; exact ah_keep f_632 f_623 (by omega)
        have f_653 : h_640 q_211 = some (37, .inl (G.2.2.1 0, 16, .inl (nA (fun _ => 0)))) := by rw [e_641]; exact ah_keep f_633 f_623 (by omega)
        have f_654 : h_640 q_243 = some (38, .inl (G.2.2.1 0, 16, .inl (nA (fun _ => 0)))) := by rw [e_641]; exact ah_keep f_634 f_623 (by omega)
        have f_655 : h_640 q_277 = some (39, .inl (G.2.2.1 0, 16, .inl (nA (fun _ => 0)))) := by rw [e_641]; exact ah_keep f_635 f_623 (by omega)
        have f_656 : h_640 q_313 = some (41, .inl (G.2.2.1 0, 4080, .inl (nA (fun _ => 0)))) := by rw [e_641]; exact ah_keep f_636 f_623 (by omega)
        have f_657 : h_640 q_351 = some (42, .inl (G.2.2.1 0, 652800, .inl (nA (fun _ => 0)))) := by rw [e_641]; exact ah_keep f_637 f_623 (by omega)
        have f_658 : h_640 q_391 = some (44, .inl (G.2.2.1 0, 200, .inl (nA (fun _ => 0)))) := by rw [e_641]; exact ah_keep f_638 f_623 (by omega)
        have f_659 : h_640 q_433 = some (46, .inl (G.2.2.1 0, 200, .inl (nA (fun _ => 0)))) := by rw [e_641]; exact ah_keep f_639 f_623 (by omega)
        refine lv_aload_n hx hb dX9_init_320 rfl (lv_at hl 1 rfl) ?_
        refine ah_get (ci := 8) (v := .ref q_1) (C := RX9) (T := TX9) (N := 27) hx hb hE hR hts hinX9 hown f_642 rfl 1 (by decide) k7 (fun _ h9 => h9) rfl dX9_init_321 ?_
        refine lv_bipush (v := nI 124) hx hb dX9_init_324 (by decide) ?_
        refine lv_sipush (v := nI 246) hx hb dX9_init_326 (by decide) ?_
        refine ah_iast (i := 124) hx hb hE hR hS f_643 (by omega) (by omega) dX9_init_329 (fun H locs hR hS => ?_)
        obtain ⟨h_660, e_661⟩ : ∃ zz9, zz9 = ah_up h_640 q_1 (21, .inl (G.2.2.1 0, 128, .inl (upd (upd (upd (upd (upd (upd (upd (upd (upd (upd (plI 128) 0 (nI 64)) 1 (nI 163)) 2 (nI 36)) 3 (nI 165)) 4 (nI 232)) 5 (nI 233)) 17 (nI 95)) 95 (nI 167)) 123 (nI 228)) 124 (nI 246)))) := ⟨_, rfl⟩
        have hR : ah_R G h_660 H := by rw [e_661]; exact hR
        have f_662 : h_660 y = some (20, .inr (8, [.int (nI 0), .ref q_1, .ref q_13, .int (nI 0), .ref q_27, .int (nI 0), .int (nI 0), .ref q_43, .ref q_61, .int (nI 0), .ref q_81, .int (nI 0), .ref q_103, .int (nI 0), .ref q_127, .ref q_153, .ref q_181, .ref q_211, .ref q_243, .ref q_277, .int (nI 0), .ref q_313, .ref q_351, .int (nI 0), .ref q_391, .int (nI 0), .ref q_433])) := by rw [e_661]; exact ah_keep f_642 f_643 (by omega)
        have f_663 : h_660 q_1 = some (21, .inl (G.2.2.1 0, 128, .inl (upd (upd (upd (upd (upd (upd (upd (upd (upd (upd (plI 128) 0 (nI 64)) 1 (nI 163)) 2 (nI 36)) 3 (nI 165)) 4 (nI 232)) 5 (nI 233)) 17 (nI 95)) 95 (nI 167)) 123 (nI 228)) 124 (nI 246)))) := by rw [e_661]; exact ah_up_s _ _ _
        have f_664 : h_660 q_13 = some (22, .inl (G.2.2.1 0, 128, .inl (esI 128))) := by rw [e_661]; exact ah_keep f_644 f_643 (by omega)
        have f_665 : h_660 q_27 = some (24, .inl (G.2.2.1 0, 3000, .inl (nA (fun _ => 0)))) := by rw [e_661]; exact ah_keep f_645 f_643 (by omega)
        have f_666 : h_660 q_43 = some (27, .inl (G.2.2.1 0, 255, .inl (nA (fun _ => 0)))) := by rw [e_661]; exact ah_keep f_646 f_643 (by omega)
        have f_667 : h_660 q_61 = some (28, .inl (G.2.2.1 0, 36210, .inl (nA (fun _ => 0)))) := by rw [e_661]; exact ah_keep f_647 f_643 (by omega)
        have f_668 : h_660 q_81 = some (30, .inl (G.2.2.1 0, 200, .inl (nA (fun _ => 0)))) := by rw [e_661]; exact ah_keep f_648 f_643 (by omega)
        have f_669 : h_660 q_103 = some (32, .inl (G.2.2.1 0, 40800, .inl (nA (fun _ => 0)))) := by rw [e_661]; exact ah_keep f_649 f_643 (by omega)
        have f_670 : h_660 q_127 = some (34, .inl (G.2.2.1 0, 16, .inl (nA (fun _ => 0)))) := by rw [e_661]; exact ah_keep f_650 f_643 (by omega)
        have f_671 : h_660 q_153 = some (35, .inl (G.2.2.1 0, 16, .inl (nA (fun _ => 0)))) := by rw [e_661]; exact ah_keep f_651 f_643 (by omega)
        have f_672 : h_660 q_181 = some (36, .inl (G.2.2.1 0, 16, .inl (nA (fun _ => 0)))) := by rw [e_661]; exact ah_keep f_652 f_643 (by omega)
        have f_673 : h_660 q_211 = some (37, .inl (G.2.2.1 0, 16, .inl (nA (fun _ => 0)))) := by rw [e_661]; exact ah_keep f_653 f_643 (by omega)
        have f_674 : h_660 q_243 = some (38, .inl (G.2.2.1 0, 16, .inl (nA (fun _ => 0)))) := by rw [e_661]; exact ah_keep f_654 f_643 (by omega)
        have f_675 : h_660 q_277 = some (39, .inl (G.2.2.1 0, 16, .inl (nA (fun _ => 0)))) := by rw [e_661]; exact ah_keep f_655 f_643 (by omega)
        have f_676 : h_660 q_313 = some (41, .inl (G.2.2.1 0, 4080, .inl (nA (fun _ => 0)))) := by rw [e_661]; exact ah_keep f_656 f_643 (by omega)
        have f_677 : h_660 q_351 = some (42, .inl (G.2.2.1 0, 652800, .inl (nA (fun _ => 0)))) := by rw [e_661]; exact ah_keep f_657 f_643 (by omega)
        have f_678 : h_660 q_391 = some (44, .inl (G.2.2.1 0, 200, .inl (nA (fun _ => 0)))) := by rw [e_661]; exact ah_keep f_658 f_643 (by omega)
        have f_679 : h_660 q_433 = some (46, .inl (G.2.2.1 0, 200, .inl (nA (fun _ => 0)))) := by rw [e_661]; exact ah_keep f_659 f_643 (by omega)
        refine lv_aload_n hx hb dX9_init_330 rfl (lv_at hl 1 rfl) ?_
        refine ah_get (ci := 8) (v := .ref q_1) (C := RX9) (T := TX9) (N := 27) hx hb hE hR hts hinX9 hown f_662 rfl 1 (by decide) k7 (fun _ h9 => h9) rfl dX9_init_331 ?_
        refine lv_bipush (v := nI 126) hx hb dX9_init_334 (by decide) ?_
        refine lv_sipush (v := nI 252) hx hb dX9_init_336 (by decide) ?_
        refine ah_iast (i := 126) hx hb hE hR hS f_663 (by omega) (by omega) dX9_init_339 (fun H locs hR hS => ?_)
        obtain ⟨h_680, e_681⟩ : ∃ zz9, zz9 = ah_up h_660 q_1 (21, .inl (G.2.2.1 0, 128, .inl (upd (upd (upd (upd (upd (upd (upd (upd (upd (upd (upd (plI 128) 0 (nI 64)) 1 (nI 163)) 2 (nI 36)) 3 (nI 165)) 4 (nI 232)) 5 (nI 233)) 17 (nI 95)) 95 (nI 167)) 123 (nI 228)) 124 (nI 246)) 126 (nI 252)))) := ⟨_, rfl⟩
        have hR : ah_R G h_680 H := by rw [e_681]; exact hR
        have f_682 : h_680 y = some (20, .inr (8, [.int (nI 0), .ref q_1, .ref q_13, .int (nI 0), .ref q_27, .int (nI 0), .int (nI 0), .ref q_43, .ref q_61, .int (nI 0), .ref q_81, .int (nI 0), .ref q_103, .int (nI 0), .ref q_127, .ref q_153, .ref q_181, .ref q_211, .ref q_243, .ref q_277, .int (nI 0), .ref q_313, .ref q_351, .int (nI 0), .ref q_391, .int (nI 0), .ref q_433])) := by rw [e_681]; exact ah_keep f_662 f_663 (by omega)
        have f_683 : h_680 q_1 = some (21, .inl (G.2.2.1 0, 128, .inl (upd (upd (upd (upd (upd (upd (upd (upd (upd (upd (upd (plI 128) 0 (nI 64)) 1 (nI 163)) 2 (nI 36)) 3 (nI 165)) 4 (nI 232)) 5 (nI 233)) 17 (nI 95)) 95 (nI 167)) 123 (nI 228)) 124 (nI 246)) 126 (nI 252)))) := by rw [e_681]; exact ah_up_s _ _ _
        have f_684 : h_680 q_13 = some (22, .inl (G.2.2.1 0, 128, .inl (esI 128))) := by rw [e_681]; exact ah_keep f_664 f_663 (by omega)
        have f_685 : h_680 q_27 = some (24, .inl (G.2.2.1 0, 3000, .inl (nA (fun _ => 0)))) := by rw [e_681]; exact ah_keep f_665 f_663 (by omega)
        have f_686 : h_680 q_43 = some (27, .inl (G.2.2.1 0, 255, .inl (nA (fun _ => 0)))) := by rw [e_681]; exact ah_keep f_666 f_663 (by omega)
        have f_687 : h_680 q_61 = some (28, .inl (G.2.2.1 0, 36210, .inl (nA (fun _ => 0)))) := by rw [e_681]; exact ah_keep f_667 f_663 (by omega)
        have f_688 : h_680 q_81 = some (30, .inl (G.2.2.1 0, 200, .inl (nA (fun _ => 0)))) := by rw [e_681]; exact ah_keep f_668 f_663 (by omega)
        have f_689 : h_680 q_103 = some (32, .inl (G.2.2.1 0, 40800, .inl (nA (fun _ => 0)))) := by rw [e_681]; exact ah_keep f_669 f_663 (by omega)
        have f_690 : h_680 q_127 = some (34, .inl (G.2.2.1 0, 16, .inl (nA (fun _ => 0)))) := by rw [e_681]; exact ah_keep f_670 f_663 (by omega)
        have f_691 : h_680 q_153 = some (35, .inl (G.2.2.1 0, 16, .inl (nA (fun _ => 0)))) := by rw [e_681]; exact ah_keep f_671 f_663 (by omega)
        have f_692 : h_680 q_181 = some (36, .inl (G.2.2.1 0, 16, .inl (nA (fun _ => 0)))) := by rw [e_681]; exact ah_keep f_672 f_663 (by omega)
        have f_693 : h_680 q_211 = some (37, .inl (G.2.2.1 0, 16, .inl (nA (fun _ => 0)))) := by rw [e_681]; exact ah_keep f_673 f_663 (by omega)
        have f_694 : h_680 q_243 = some (38, .inl (G.2.2.1 0, 16, .inl (nA (fun _ => 0)))) := by rw [e_681]; exact ah_keep f_674 f_663 (by omega)
        have f_695 : h_680 q_277 = some (39, .inl (G.2.2.1 0, 16, .inl (nA (fun _ => 0)))) := by rw [e_681]; exact ah_keep f_675 f_663 (by omega)
        have f_696 : h_680 q_313 = some (41, .inl (G.2.2.1 0, 4080, .inl (nA (fun _ => 0)))) := by rw [e_681]; exact ah_keep f_676 f_663 (by omega)
        have f_697 : h_680 q_351 = some (42, .inl (G.2.2.1 0, 652800, .inl (nA (fun _ => 0)))) := by rw [e_681]; exact ah_keep f_677 f_663 (by omega)
        have f_698 : h_680 q_391 = some (44, .inl (G.2.2.1 0, 200, .inl (nA (fun _ => 0)))) := by rw [e_681]; exact ah_keep f_678 f_663 (by omega)
        have f_699 : h_680 q_433 = some (46, .inl (G.2.2.1 0, 200, .inl (nA (fun _ => 0)))) := by rw [e_681]; exact ah_keep f_679 f_663 (by omega)
        refine lv_aload_n hx hb dX9_init_340 rfl (lv_at hl 1 rfl) ?_
        refine ah_get (ci := 8) (v := .ref q_13) (C := RX9) (T := TX9) (N := 27) hx hb hE hR hts hinX9 hown f_682 rfl 2 (by decide) k13 (fun _ h9 => h9) rfl dX9_init_341 ?_
        refine lv_bipush (v := nI 20) hx hb dX9_init_344 (by decide) ?_
        refine lv_bipush (v := nI 94) hx hb dX9_init_346 (by decide) ?_
        refine ah_iast (i := 20) hx hb hE hR hS f_684 (by omega) (by omega) dX9_init_348 (fun H locs hR hS => ?_)
        obtain ⟨h_700, e_701⟩ : ∃ zz9, zz9 = ah_up h_680 q_13 (22, .inl (G.2.2.1 0, 128, .inl (upd (esI 128) 20 (nI 94)))) := ⟨_, rfl⟩
        have hR : ah_R G h_700 H := by rw [e_701]; exact hR
        have f_702 : h_700 y = some (20, .inr (8, [.int (nI 0), .ref q_1, .ref q_13, .int (nI 0), .ref q_27, .int (nI 0), .int (nI 0), .ref q_43, .ref q_61, .int (nI 0), .ref q_81, .int (nI 0), .ref q_103, .int (nI 0), .ref q_127, .ref q_153, .ref q_181, .ref q_211, .ref q_243, .ref q_277, .int (nI 0), .ref q_313, .ref q_351, .int (nI 0), .ref q_391, .int (nI 0), .ref q_433])) := by rw [e_701]; exact ah_keep f_682 f_684 (by omega)
        have f_703 : h_700 q_1 = some (21, .inl (G.2.2.1 0, 128, .inl (upd (upd (upd (upd (upd (upd (upd (upd (upd (upd (upd (plI 128) 0 (nI 64)) 1 (nI 163)) 2 (nI 36)) 3 (nI 165)) 4 (nI 232)) 5 (nI 233)) 17 (nI 95)) 95 (nI 167)) 123 (nI 228)) 124 (nI 246)) 126 (nI 252)))) := by rw [e_701]; exact ah_keep f_683 f_684 (by omega)
        have f_704 : h_700 q_13 = some (22, .inl (G.2.2.1 0, 128, .inl (upd (esI 128) 20 (nI 94)))) := by rw [e_701]; exact ah_up_s _ _ _
        have f_705 : h_700 q_27 = some (24, .inl (G.2.2.1 0, 3000, .inl (nA (fun _ => 0)))) := by rw [e_701]; exact ah_keep f_685 f_684 (by omega)
        have f_706 : h_700 q_43 = some (27, .inl (G.2.2.1 0, 255, .inl (nA (fun _ => 0)))) := by rw [e_701]; exact ah_keep f_686 f_684 (by omega)
        have f_707 : h_700 q_61 = some (28, .inl (G.2.2.1 0, 36210, .inl (nA (fun _ => 0)))) := by rw [e_701]; exact ah_keep f_687 f_684 (by omega)
        have f_708 : h_700 q_81 = some (30, .inl (G.2.2.1 0, 200, .inl (nA (fun _ => 0)))) := by rw [e_701]; exact ah_keep f_688 f_684 (by omega)
        have f_709 : h_700 q_103 = some (32, .inl (G.2.2.1 0, 40800, .inl (nA (fun _ => 0)))) := by rw [e_701]; exact ah_keep f_689 f_684 (by omega)
        have f_710 : h_700 q_127 = some (34, .inl (G.2.2.1 0, 16, .inl (nA (fun _ => 0)))) := by rw [e_701]; exact ah_keep f_690 f_684 (by omega)
        have f_711 : h_700 q_153 = some (35, .inl (G.2.2.1 0, 16, .inl (nA (fun _ => 0)))) := by rw [e_701]; exact ah_keep f_691 f_684 (by omega)
        have f_712 : h_700 q_181 = some (36, .inl (G.2.2.1 0, 16, .inl (nA (fun _ => 0)))) := by rw [e_701]; exact ah_keep f_692 f_684 (by omega)
        have f_713 : h_700 q_211 = some (37, .inl (G.2.2.1 0, 16, .inl (nA (fun _ => 0)))) := by rw [e_701]; exact ah_keep f_693 f_684 (by omega)
        have f_714 : h_700 q_243 = some (38, .inl (G.2.2.1 0, 16, .inl (nA (fun _ => 0)))) := by rw [e_701]; exact ah_keep f_694 f_684 (by omega)
        have f_715 : h_700 q_277 = some (39, .inl (G.2.2.1 0, 16, .inl (nA (fun _ => 0)))) := by rw [e_701]; exact ah_keep f_695 f_684 (by omega)
        have f_716 : h_700 q_313 = some (41, .inl (G.2.2.1 0, 4080, .inl (nA (fun _ => 0)))) := by rw [e_701]; exact ah_keep f_696 f_684 (by omega)
        have f_717 : h_700 q_351 = some (42, .inl (G.2.2.1 0, 652800, .inl (nA (fun _ => 0)))) := by rw [e_701]; exact ah_keep f_697 f_684 (by omega)
        have f_718 : h_700 q_391 = some (44, .inl (G.2.2.1 0, 200, .inl (nA (fun _ => 0)))) := by rw [e_701]; exact ah_keep f_698 f_684 (by omega)
        have f_719 : h_700 q_433 = some (46, .inl (G.2.2.1 0, 200, .inl (nA (fun _ => 0)))) := by rw [e_701]; exact ah_keep f_699 f_684 (by omega)
        refine lv_aload_n hx hb dX9_init_349 rfl (lv_at hl 1 rfl) ?_
        refine ah_get (ci := 8) (v := .ref q_13) (C := RX9) (T := TX9) (N := 27) hx hb hE hR hts hinX9 hown f_702 rfl 2 (by decide) k13 (fun _ h9 => h9) rfl dX9_init_350 ?_
        refine lv_bipush (v := nI 40) hx hb dX9_init_353 (by decide) ?_
        refine lv_bipush (v := nI 123) hx hb dX9_init_355 (by decide) ?_
        refine ah_iast (i := 40) hx hb hE hR hS f_704 (by omega) (by omega) dX9_init_357 (fun H locs hR hS => ?_)
        obtain ⟨h_720, e_721⟩ : ∃ zz9, zz9 = ah_up h_700 q_13 (22, .inl (G.2.2.1 0, 128, .inl (upd (upd (esI 128) 20 (nI 94)) 40 (nI 123)))) := ⟨_, rfl⟩
        have hR : ah_R G h_720 H := by rw [e_721]; exact hR
        have f_722 : h_720 y = some (20, .inr (8, [.int (nI 0), .ref q_1, .ref q_13, .int (nI 0), .ref q_27, .int (nI 0), .int (nI 0), .ref q_43, .ref q_61, .int (nI 0), .ref q_81, .int (nI 0), .ref q_103, .int (nI 0), .ref q_127, .ref q_153, .ref q_181, .ref q_211, .ref q_243, .ref q_277, .int (nI 0), .ref q_313, .ref q_351, .int (nI 0), .ref q_391, .int (nI 0), .ref q_433])) := by rw [e_721]; exact ah_keep f_702 f_704 (by omega)
        have f_723 : h_720 q_1 = some (21, .inl (G.2.2.1 0, 128, .inl (upd (upd (upd (upd (upd (upd (upd (upd (upd (upd (upd (plI 128) 0 (nI 64)) 1 (nI 163)) 2 (nI 36)) 3 (nI 165)) 4 (nI 232)) 5 (nI 233)) 17 (nI 95)) 95 (nI 167)) 123 (nI 228)) 124 (nI 246)) 126 (nI 252)))) := by rw [e_721]; exact ah_keep f_703 f_704 (by omega)
        have f_724 : h_720 q_13 = some (22, .inl (G.2.2.1 0, 128, .inl (upd (upd (esI 128) 20 (nI 94)) 40 (nI 123)))) := by rw [e_721]; exact ah_up_s _ _ _
        have f_725 : h_720 q_27 = some (24, .inl (G.2.2.1 0, 3000, .inl (nA (fun _ => 0)))) := by rw [e_721]; exact ah_keep f_705 f_704 (by omega)
        have f_726 : h_720 q_43 = some (27, .inl (G.2.2.1 0, 255, .inl (nA (fun _ => 0)))) := by rw [e_721]; exact ah_keep f_706 f_704 (by omega)
        have f_727 : h_720 q_61 = some (28, .inl (G.2.2.1 0, 36210, .inl (nA (fun _ => 0)))) := by rw [e_721]; exact ah_keep f_707 f_704 (by omega)
        have f_728 : h_720 q_81 = some (30, .inl (G.2.2.1 0, 200, .inl (nA (fun _ => 0)))) := by rw [e_721]; exact ah_keep f_708 f_704 (by omega)
        have f_729 : h_720 q_103 = some (32, .inl (G.2.2.1 0, 40800, .inl (nA (fun _ => 0)))) := by rw [e_721]; exact ah_keep f_709 f_704 (by omega)
        have f_730 : h_720 q_127 = some (34, .inl (G.2.2.1 0, 16, .inl (nA (fun _ => 0)))) := by rw [e_721]; exact ah_keep f_710 f_704 (by omega)
        have f_731 : h_720 q_153 = some (35, .inl (G.2.2.1 0, 16, .inl (nA (fun _ => 0)))) := by rw [e_721]; exact ah_keep f_711 f_704 (by omega)
        have f_732 : h_720 q_181 = some (36, .inl (G.2.2.1 0, 16, .inl (nA (fun _ => 0)))) := by rw [e_721]; exact ah_keep f_712 f_704 (by omega)
        have f_733 : h_720 q_211 = some (37, .inl (G.2.2.1 0, 16, .inl (nA (fun _ => 0)))) := by rw [e_721]; exact ah_keep f_713 f_704 (by omega)
        have f_734 : h_720 q_243 = some (38, .inl (G.2.2.1 0, 16, .inl (nA (fun _ => 0)))) := by rw [e_721]; exact ah_keep f_714 f_704 (by omega)
        have f_735 : h_720 q_277 = some (39, .inl (G.2.2.1 0, 16, .inl (nA (fun _ => 0)))) := by rw [e_721]; exact ah_keep f_715 f_704 (by omega)
        have f_736 : h_720 q_313 = some (41, .inl (G.2.2.1 0, 4080, .inl (nA (fun _ => 0)))) := by rw [e_721]; exact ah_keep f_716 f_704 (by omega)
        have f_737 : h_720 q_351 = some (42, .inl (G.2.2.1 0, 652800, .inl (nA (fun _ => 0)))) := by rw [e_721]; exact ah_keep f_717 f_704 (by omega)
        have f_738 : h_720 q_391 = some (44, .inl (G.2.2.1 0, 200, .inl (nA (fun _ => 0)))) := by rw [e_721]; exact ah_keep f_718 f_704 (by omega)
        have f_739 : h_720 q_433 = some (46, .inl (G.2.2.1 0, 200, .inl (nA (fun _ => 0)))) := by rw [e_721]; exact ah_keep f_719 f_704 (by omega)
        refine lv_aload_n hx hb dX9_init_358 rfl (lv_at hl 1 rfl) ?_
        refine ah_get (ci := 8) (v := .ref q_13) (C := RX9) (T := TX9) (N := 27) hx hb hE hR hts hinX9 hown f_722 rfl 2 (by decide) k13 (fun _ h9 => h9) rfl dX9_init_359 ?_
        refine lv_bipush (v := nI 41) hx hb dX9_init_362 (by decide) ?_
        refine lv_bipush (v := nI 125) hx hb dX9_init_364 (by decide) ?_
        refine ah_iast (i := 41) hx hb hE hR hS f_724 (by omega) (by omega) dX9_init_366 (fun H locs hR hS => ?_)
        obtain ⟨h_740, e_741⟩ : ∃ zz9, zz9 = ah_up h_720 q_13 (22, .inl (G.2.2.1 0, 128, .inl (upd (upd (upd (esI 128) 20 (nI 94)) 40 (nI 123)) 41 (nI 125)))) := ⟨_, rfl⟩
        have hR : ah_R G h_740 H := by rw [e_741]; exact hR
        have f_742 : h_740 y = some (20, .inr (8, [.int (nI 0), .ref q_1, .ref q_13, .int (nI 0), .ref q_27, .int (nI 0), .int (nI 0), .ref q_43, .ref q_61, .int (nI 0), .ref q_81, .int (nI 0), .ref q_103, .int (nI 0), .ref q_127, .ref q_153, .ref q_181, .ref q_211, .ref q_243, .ref q_277, .int (nI 0), .ref q_313, .ref q_351, .int (nI 0), .ref q_391, .int (nI 0), .ref q_433])) := by rw [e_741]; exact ah_keep f_722 f_724 (by omega)
        have f_743 : h_740 q_1 = some (21, .inl (G.2.2.1 0, 128, .inl (upd (upd (upd (upd (upd (upd (upd (upd (upd (upd (upd (plI 128) 0 (nI 64)) 1 (nI 163)) 2 (nI 36)) 3 (nI 165)) 4 (nI 232)) 5 (nI 233)) 17 (nI 95)) 95 (nI 167)) 123 (nI 228)) 124 (nI 246)) 126 (nI 252)))) := by rw [e_741]; exact ah_keep f_723 f_724 (by omega)
        have f_744 : h_740 q_13 = some (22, .inl (G.2.2.1 0, 128, .inl (upd (upd (upd (esI 128) 20 (nI 94)) 40 (nI 123)) 41 (nI 125)))) := by rw [e_741]; exact ah_up_s _ _ _
        have f_745 : h_740 q_27 = some (24, .inl (G.2.2.1 0, 3000, .inl (nA (fun _ => 0)))) := by rw [e_741]; exact ah_keep f_725 f_724 (by omega)
        have f_746 : h_740 q_43 = some (27, .inl (G.2.2.1 0, 255, .inl (nA (fun _ => 0)))) := by rw [e_741]; exact ah_keep f_726 f_724 (by omega)
        have f_747 : h_740 q_61 = some (28, .inl (G.2.2.1 0, 36210, .inl (nA (fun _ => 0)))) := by rw [e_741]; exact ah_keep f_727 f_724 (by omega)
        have f_748 : h_740 q_81 = some (30, .inl (G.2.2.1 0, 200, .inl (nA (fun _ => 0)))) := by rw [e_741]; exact ah_keep f_728 f_724 (by omega)
        have f_749 : h_740 q_103 = some (32, .inl (G.2.2.1 0, 40800, .inl (nA (fun _ => 0)))) := by rw [e_741]; exact ah_keep f_729 f_724 (by omega)
        have f_750 : h_740 q_127 = some (34, .inl (G.2.2.1 0, 16, .inl (nA (fun _ => 0)))) := by rw [e_741]; exact ah_keep f_730 f_724 (by omega)
        have f_751 : h_740 q_153 = some (35, .inl (G.2.2.1 0, 16, .inl (nA (fun _ => 0)))) := by rw [e_741]; exact ah_keep f_731 f_724 (by omega)
        have f_752 : h_740 q_181 = some (36, .inl (G.2.2.1 0, 16, .inl (nA (fun _ => 0)))) := by rw [e_741]; exact ah_keep f_732 f_724 (by omega)
        have f_753 : h_740 q_211 = some (37, .inl (G.2.2.1 0, 16, .inl (nA (fun _ => 0)))) := by rw [e_741]; exact ah_keep f_733 f_724 (by omega)
        have f_754 : h_740 q_243 = some (38, .inl (G.2.2.1 0, 16, .inl (nA (fun _ => 0)))) := by rw [e_741]; exact ah_keep f_734 f_724 (by omega)
        have f_755 : h_740 q_277 = some (39, .inl (G.2.2.1 0, 16, .inl (nA (fun _ => 0)))) := by rw [e_741]; exact ah_keep f_735 f_724 (by omega)
        have f_756 : h_740 q_313 = some (41, .inl (G.2.2.1 0, 4080, .inl (nA (fun _ => 0)))) := by rw [e_741]; exact ah_keep f_736 f_724 (by omega)
        have f_757 : h_740 q_351 = some (42, .inl (G.2.2.1 0, 652800, .inl (nA (fun _ => 0)))) := by rw [e_741]; exact ah_keep f_737 f_724 (by omega)
        have f_758 : h_740 q_391 = some (44, .inl (G.2.2.1 0, 200, .inl (nA (fun _ => 0)))) := by rw [e_741]; exact ah_keep f_738 f_724 (by omega)
        have f_759 : h_740 q_433 = some (46, .inl (G.2.2.1 0, 200, .inl (nA (fun _ => 0)))) := by rw [e_741]; exact ah_keep f_739 f_724 (by omega)
        refine lv_aload_n hx hb dX9_init_367 rfl (lv_at hl 1 rfl) ?_
        refine ah_get (ci := 8) (v := .ref q_13) (C := RX9) (T := TX9) (N := 27) hx hb hE hR hts hinX9 hown f_742 rfl 2 (by decide) k13 (fun _ h9 => h9) rfl dX9_init_368 ?_
        refine lv_bipush (v := nI 47) hx hb dX9_init_371 (by decide) ?_
        refine lv_bipush (v := nI 92) hx hb dX9_init_373 (by decide) ?_
        refine ah_iast (i := 47) hx hb hE hR hS f_744 (by omega) (by omega) dX9_init_375 (fun H locs hR hS => ?_)
        obtain ⟨h_760, e_761⟩ : ∃ zz9, zz9 = ah_up h_740 q_13 (22, .inl (G.2.2.1 0, 128, .inl (upd (upd (upd (upd (esI 128) 20 (nI 94)) 40 (nI 123)) 41 (nI 125)) 47 (nI 92)))) := ⟨_, rfl⟩
        have hR : ah_R G h_760 H := by rw [e_761]; exact hR
        have f_762 : h_760 y = some (20, .inr (8, [.int (nI 0), .ref q_1, .ref q_13, .int (nI 0), .ref q_27, .int (nI 0), .int (nI 0), .ref q_43, .ref q_61, .int (nI 0), .ref q_81, .int (nI 0), .ref q_103, .int (nI 0), .ref q_127, .ref q_153, .ref q_181, .ref q_211, .ref q_243, .ref q_277, .int (nI 0), .ref q_313, .ref q_351, .int (nI 0), .ref q_391, .int (nI 0), .ref q_433])) := by rw [e_761]; exact ah_keep f_742 f_744 (by omega)
        have f_763 : h_760 q_1 = some (21, .inl (G.2.2.1 0, 128, .inl (upd (upd (upd (upd (upd (upd (upd (upd (upd (upd (upd (plI 128) 0 (nI 64)) 1 (nI 163)) 2 (nI 36)) 3 (nI 165)) 4 (nI 232)) 5 (nI 233)) 17 (nI 95)) 95 (nI 167)) 123 (nI 228)) 124 (nI 246)) 126 (nI 252)))) := by rw [e_761]; exact ah_keep f_743 f_744 (by omega)
        have f_764 : h_760 q_13 = some (22, .inl (G.2.2.1 0, 128, .inl (upd (upd (upd (upd (esI 128) 20 (nI 94)) 40 (nI 123)) 41 (nI 125)) 47 (nI 92)))) := by rw [e_761]; exact ah_up_s _ _ _
        have f_765 : h_760 q_27 = some (24, .inl (G.2.2.1 0, 3000, .inl (nA (fun _ => 0)))) := by rw [e_761]; exact ah_keep f_745 f_744 (by omega)
        have f_766 : h_760 q_43 = some (27, .inl (G.2.2.1 0, 255, .inl (nA (fun _ => 0)))) := by rw [e_761]; exact ah_keep f_746 f_744 (by omega)
        have f_767 : h_760 q_61 = some (28, .inl (G.2.2.1 0, 36210, .inl (nA (fun _ => 0)))) := by rw [e_761]; exact ah_keep f_747 f_744 (by omega)
        have f_768 : h_760 q_81 = some (30, .inl (G.2.2.1 0, 200, .inl (nA (fun _ => 0)))) := by rw [e_761]; exact ah_keep f_748 f_744 (by omega)
        have f_769 : h_760 q_103 = some (32, .inl (G.2.2.1 0, 40800, .inl (nA (fun _ => 0)))) := by rw [e_761]; exact ah_keep f_749 f_744 (by omega)
        have f_770 : h_760 q_127 = some (34, .inl (G.2.2.1 0, 16, .inl (nA (fun _ => 0)))) := by rw [e_761]; exact ah_keep f_750 f_744 (by omega)
        have f_771 : h_760 q_153 = some (35, .inl (G.2.2.1 0, 16, .inl (nA (fun _ => 0)))) := by rw [e_761]; exact ah_keep f_751 f_744 (by omega)
        have f_772 : h_760 q_181 = some (36, .inl (G.2.2.1 0, 16, .inl (nA (fun _ => 0)))) := by rw [e_761]; exact ah_keep f_752 f_744 (by omega)
        have f_773 : h_760 q_211 = some (37, .inl (G.2.2.1 0, 16, .inl (nA (fun _ => 0)))) := by rw [e_761]; exact ah_keep f_753 f_744 (by omega)
        have f_774 : h_760 q_243 = some (38, .inl (G.2.2.1 0, 16, .inl (nA (fun _ => 0)))) := by rw [e_761]; exact ah_keep f_754 f_744 (by omega)
        have f_775 : h_760 q_277 = some (39, .inl (G.2.2.1 0, 16, .inl (nA (fun _ => 0)))) := by rw [e_761]; exact ah_keep f_755 f_744 (by omega)
        have f_776 : h_760 q_313 = some (41, .inl (G.2.2.1 0, 4080, .inl (nA (fun _ => 0)))) := by rw [e_761]; exact ah_keep f_756 f_744 (by omega)
        have f_777 : h_760 q_351 = some (42, .inl (G.2.2.1 0, 652800, .inl (nA (fun _ => 0)))) := by rw [e_761]; exact ah_keep f_757 f_744 (by omega)
        have f_778 : h_760 q_391 = some (44, .inl (G.2.2.1 0, 200, .inl (nA (fun _ => 0)))) := by rw [e_761]; exact ah_keep f_758 f_744 (by omega)
        have f_779 : h_760 q_433 = some (46, .inl (G.2.2.1 0, 200, .inl (nA (fun _ => 0)))) := by rw [e_761]; exact ah_keep f_759 f_744 (by omega)
        refine lv_aload_n hx hb dX9_init_376 rfl (lv_at hl 1 rfl) ?_
        refine ah_get (ci := 8) (v := .ref q_13) (C := RX9) (T := TX9) (N := 27) hx hb hE hR hts hinX9 hown f_762 rfl 2 (by decide) k13 (fun _ h9 => h9) rfl dX9_init_377 ?_
        refine lv_bipush (v := nI 60) hx hb dX9_init_380 (by decide) ?_
        refine lv_bipush (v := nI 91) hx hb dX9_init_382 (by decide) ?_
        refine ah_iast (i := 60) hx hb hE hR hS f_764 (by omega) (by omega) dX9_init_384 (fun H locs hR hS => ?_)
        obtain ⟨h_780, e_781⟩ : ∃ zz9, zz9 = ah_up h_760 q_13 (22, .inl (G.2.2.1 0, 128, .inl (upd (upd (upd (upd (upd (esI 128) 20 (nI 94)) 40 (nI 123)) 41 (nI 125)) 47 (nI 92)) 60 (nI 91)))) := ⟨_, rfl⟩
        have hR : ah_R G h_780 H := by rw [e_781]; exact hR
        have f_782 : h_780 y = some (20, .inr (8, [.int (nI 0), .ref q_1, .ref q_13, .int (nI 0), .ref q_27, .int (nI 0), .int (nI 0), .ref q_43, .ref q_61, .int (nI 0), .ref q_81, .int (nI 0), .ref q_103, .int (nI 0), .ref q_127, .ref q_153, .ref q_181, .ref q_211, .ref q_243, .ref q_277, .int (nI 0), .ref q_313, .ref q_351, .int (nI 0), .ref q_391, .int (nI 0), .ref q_433])) := by rw [e_781]; exact ah_keep f_762 f_764 (by omega)
        have f_783 : h_780 q_1 = some (21, .inl (G.2.2.1 0, 128, .inl (upd (upd (upd (upd (upd (upd (upd (upd (upd (upd (upd (plI 128) 0 (nI 64)) 1 (nI 163)) 2 (nI 36)) 3 (nI 165)) 4 (nI 232)) 5 (nI 233)) 17 (nI 95)) 95 (nI 167)) 123 (nI 228)) 124 (nI 246)) 126 (nI 252)))) := by rw [e_781]; exact ah_keep f_763 f_764 (by omega)
        have f_784 : h_780 q_13 = some (22, .inl (G.2.2.1 0, 128, .inl (upd (upd (upd (upd (upd (esI 128) 20 (nI 94)) 40 (nI 123)) 41 (nI 125)) 47 (nI 92)) 60 (nI 91)))) := by rw [e_781]; exact ah_up_s _ _ _
        have f_785 : h_780 q_27 = some (24, .inl (G.2.2.1 0, 3000, .inl (nA (fun _ => 0)))) := by rw [e_781]; exact ah_keep f_765 f_764 (by omega)
        have f_786 : h_780 q_43 = some (27, .inl (G.2.2.1 0, 255, .inl (nA (fun _ => 0)))) := by rw [e_781]; exact ah_keep f_766 f_764 (by omega)
        have f_787 : h_780 q_61 = some (28, .inl (G.2.2.1 0, 36210, .inl (nA (fun _ => 0)))) := by rw [e_781]; exact ah_keep f_767 f_764 (by omega)
        have f_788 : h_780 q_81 = some (30, .inl (G.2.2.1 0, 200, .inl (nA (fun _ => 0)))) := by rw [e_781]; exact ah_keep f_768 f_764 (by omega)
        have f_789 : h_780 q_103 = some (32, .inl (G.2.2.1 0, 40800, .inl (nA (fun _ => 0)))) := by rw [e_781]; exact ah_keep f_769 f_764 (by omega)
        have f_790 : h_780 q_127 = some (34, .inl (G.2.2.1 0, 16, .inl (nA (fun _ => 0)))) := by rw [e_781]; exact ah_keep f_770 f_764 (by omega)
        have f_791 : h_780 q_153 = some (35, .inl (G.2.2.1 0, 16, .inl (nA (fun _ => 0)))) := by rw [e_781]; exact ah_keep f_771 f_764 (by omega)
        have f_792 : h_780 q_181 = some (36, .inl (G.2.2.1 0, 16, .inl (nA (fun _ => 0)))) := by rw [e_781]; exact ah_keep f_772 f_764 (by omega)
        have f_793 : h_780 q_211 = some (37, .inl (G.2.2.1 0, 16, .inl (nA (fun _ => 0)))) := by rw [e_781]; exact ah_keep f_773 f_764 (by omega)
        have f_794 : h_780 q_243 = some (38, .inl (G.2.2.1 0, 16, .inl (nA (fun _ => 0)))) := by rw [e_781]; exact ah_keep f_774 f_764 (by omega)
        have f_795 : h_780 q_277 = some (39, .inl (G.2.2.1 0, 16, .inl (nA (fun _ => 0)))) := by rw [e_781]; exact ah_keep f_775 f_764 (by omega)
        have f_796 : h_780 q_313 = some (41, .inl (G.2.2.1 0, 4080, .inl (nA (fun _ => 0)))) := by rw [e_781]; exact ah_keep f_776 f_764 (by omega)
        have f_797 : h_780 q_351 = some (42, .inl (G.2.2.1 0, 652800, .inl (nA (fun _ => 0)))) := by rw [e_781]; exact ah_keep f_777 f_764 (by omega)
        have f_798 : h_780 q_391 = some (44, .inl (G.2.2.1 0, 200, .inl (nA (fun _ => 0)))) := by rw [e_781]; exact ah_keep f_778 f_764 (by omega)
        have f_799 : h_780 q_433 = some (46, .inl (G.2.2.1 0, 200, .inl (nA (fun _ => 0)))) := by rw [e_781]; exact ah_keep f_779 f_764 (by omega)
        refine lv_aload_n hx hb dX9_init_385 rfl (lv_at hl 1 rfl) ?_
        refine ah_get (ci := 8) (v := .ref q_13) (C := RX9) (T := TX9) (N := 27) hx hb hE hR hts hinX9 hown f_782 rfl 2 (by decide) k13 (fun _ h9 => h9) rfl dX9_init_386 ?_
        refine lv_bipush (v := nI 61) hx hb dX9_init_389 (by decide) ?_
        refine lv_bipush (v := nI 126) hx hb dX9_init_391 (by decide) ?_
        refine ah_iast (i := 61) hx hb hE hR hS f_784 (by omega) (by omega) dX9_init_393 (fun H locs hR hS => ?_)
        obtain ⟨h_800, e_801⟩ : ∃ zz9, zz9 = ah_up h_780 q_13 (22, .inl (G.2.2.1 0, 128, .inl (upd (upd (upd (upd (upd (upd (esI 128) 20 (nI 94)) 40 (nI 123)) 41 (nI 125)) 47 (nI 92)) 60 (nI 91)) 61 (nI 126)))) := ⟨_, rfl⟩
        have hR : ah_R G h_800 H := by rw [e_801]; exact hR
        have f_802 : h_800 y = some (20, .inr (8, [.int (nI 0), .ref q_1, .ref q_13, .int (nI 0), .ref q_27, .int (nI 0), .int (nI 0), .ref q_43, .ref q_61, .int (nI 0), .ref q_81, .int (nI 0), .ref q_103, .int (nI 0), .ref q_127, .ref q_153, .ref q_181, .ref q_211, .ref q_243, .ref q_277, .int (nI 0), .ref q_313, .ref q_351, .int (nI 0), .ref q_391, .int (nI 0), .ref q_433])) := by rw [e_801]; exact ah_keep f_782 f_784 (by omega)
        have f_803 : h_800 q_1 = some (21, .inl (G.2.2.1 0, 128, .inl (upd (upd (upd (upd (upd (upd (upd (upd (upd (upd (upd (plI 128) 0 (nI 64)) 1 (nI 163)) 2 (nI 36)) 3 (nI 165)) 4 (nI 232)) 5 (nI 233)) 17 (nI 95)) 95 (nI 167)) 123 (nI 228)) 124 (nI 246)) 126 (nI 252)))) := by rw [e_801]; exact ah_keep f_783 f_784 (by omega)
        have f_804 : h_800 q_13 = some (22, .inl (G.2.2.1 0, 128, .inl (upd (upd (upd (upd (upd (upd (esI 128) 20 (nI 94)) 40 (nI 123)) 41 (nI 125)) 47 (nI 92)) 60 (nI 91)) 61 (nI 126)))) := by rw [e_801]; exact ah_up_s _ _ _
        have f_805 : h_800 q_27 = some (24, .inl (G.2.2.1 0, 3000, .inl (nA (fun _ => 0)))) := by rw [e_801]; exact ah_keep f_785 f_784 (by omega)
        have f_806 : h_800 q_43 = some (27, .inl (G.2.2.1 0, 255, .inl (nA (fun _ => 0)))) := by rw [e_801]; exact ah_keep f_786 f_784 (by omega)
        have f_807 : h_800 q_61 = some (28, .inl (G.2.2.1 0, 36210, .inl (nA (fun _ => 0)))) := by rw [e_801]; exact ah_keep f_787 f_784 (by omega)
        have f_808 : h_800 q_81 = some (30, .inl (G.2.2.1 0, 200, .inl (nA (fun _ => 0)))) := by rw [e_801]; exact ah_keep f_788 f_784 (by omega)
        have f_809 : h_800 q_103 = some (32, .inl (G.2.2.1 0, 40800, .inl (nA (fun _ => 0)))) := by rw [e_801]; exact ah_keep f_789 f_784 (by omega)
        have f_810 : h_800 q_127 = some (34, .inl (G.2.2.1 0, 16, .inl (nA (fun _ => 0)))) := by rw [e_801]; exact ah_keep f_790 f_784 (by omega)
        have f_811 : h_800 q_153 = some (35, .inl (G.2.2.1 0, 16, .inl (nA (fun _ => 0)))) := by rw [e_801]; exact ah_keep f_791 f_784 (by omega)
        have f_812 : h_800 q_181 = some (36, .inl (G.2.2.1 0, 16, .inl (nA (fun _ => 0)))) := by rw [e_801]; exact ah_keep f_792 f_784 (by omega)
        have f_813 : h_800 q_211 = some (37, .inl (G.2.2.1 0, 16, .inl (nA (fun _ => 0)))) := by rw [e_801]; exact ah_keep f_793 f_784 (by omega)
        have f_814 : h_800 q_243 = some (38, .inl (G.2.2.1 0, 16, .inl (nA (fun _ => 0)))) := by rw [e_801]; exact ah_keep f_794 f_784 (by omega)
        have f_815 : h_800 q_277 = some (39, .inl (G.2.2.1 0, 16, .inl (nA (fun _ => 0)))) := by rw [e_801]; exact ah_keep f_795 f_784 (by omega)
        have f_816 : h_800 q_313 = some (41, .inl (G.2.2.1 0, 4080, .inl (nA (fun _ => 0)))) := by rw [e_801]; exact ah_keep f_796 f_784 (by omega)
        have f_817 : h_800 q_351 = some (42, .inl (G.2.2.1 0, 652800, .inl (nA (fun _ => 0)))) := by rw [e_801]; exact ah_keep f_797 f_784 (by omega)
        have f_818 : h_800 q_391 = some (44, .inl (G.2.2.1 0, 200, .inl (nA (fun _ => 0)))) := by rw [e_801]; exact ah_keep f_798 f_784 (by omega)
        have f_819 : h_800 q_433 = some (46, .inl (G.2.2.1 0, 200, .inl (nA (fun _ => 0)))) := by rw [e_801]; exact ah_keep f_799 f_784 (by omega)
        refine lv_aload_n hx hb dX9_init_394 rfl (lv_at hl 1 rfl) ?_
        refine ah_get (ci := 8) (v := .ref q_13) (C := RX9) (T := TX9) (N := 27) hx hb hE hR hts hinX9 hown f_802 rfl 2 (by decide) k13 (fun _ h9 => h9) rfl dX9_init_395 ?_
        refine lv_bipush (v := nI 62) hx hb dX9_init_398 (by decide) ?_
        refine lv_bipush (v := nI 93) hx hb dX9_init_400 (by decide) ?_
        refine ah_iast (i := 62) hx hb hE hR hS f_804 (by omega) (by omega) dX9_init_402 (fun H locs hR hS => ?_)
        obtain ⟨h_820, e_821⟩ : ∃ zz9, zz9 = ah_up h_800 q_13 (22, .inl (G.2.2.1 0, 128, .inl (upd (upd (upd (upd (upd (upd (upd (esI 128) 20 (nI 94)) 40 (nI 123)) 41 (nI 125)) 47 (nI 92)) 60 (nI 91)) 61 (nI 126)) 62 (nI 93)))) := ⟨_, rfl⟩
        have hR : ah_R G h_820 H := by rw [e_821]; exact hR
        have f_822 : h_820 y = some (20, .inr (8, [.int (nI 0), .ref q_1, .ref q_13, .int (nI 0), .ref q_27, .int (nI 0), .int (nI 0), .ref q_43, .ref q_61, .int (nI 0), .ref q_81, .int (nI 0), .ref q_103, .int (nI 0), .ref q_127, .ref q_153, .ref q_181, .ref q_211, .ref q_243, .ref q_277, .int (nI 0), .ref q_313, .ref q_351, .int (nI 0), .ref q_391, .int (nI 0), .ref q_433])) := by rw [e_821]; exact ah_keep f_802 f_804 (by omega)
        have f_823 : h_820 q_1 = some (21, .inl (G.2.2.1 0, 128, .inl (upd (upd (upd (upd (upd (upd (upd (upd (upd (upd (upd (plI 128) 0 (nI 64)) 1 (nI 163)) 2 (nI 36)) 3 (nI 165)) 4 (nI 232)) 5 (nI 233)) 17 (nI 95)) 95 (nI 167)) 123 (nI 228)) 124 (nI 246)) 126 (nI 252)))) := by rw [e_821]; exact ah_keep f_803 f_804 (by omega)
        have f_824 : h_820 q_13 = some (22, .inl (G.2.2.1 0, 128, .inl (upd (upd (upd (upd (upd (upd (upd (esI 128) 20 (nI 94)) 40 (nI 123)) 41 (nI 125)) 47 (nI 92)) 60 (nI 91)) 61 (nI 126)) 62 (nI 93)))) := by rw [e_821]; exact ah_up_s _ _ _
        have f_825 : h_820 q_27 = some (24, .inl (G.2.2.1 0, 3000, .inl (nA (fun _ => 0)))) := by rw [e_821]; exact ah_keep f_805 f_804 (by omega)
        have f_826 : h_820 q_43 = some (27, .inl (G.2.2.1 0, 255, .inl (nA (fun _ => 0)))) := by rw [e_821]; exact ah_keep f_806 f_804 (by omega)
        have f_827 : h_820 q_61 = some (28, .inl (G.2.2.1 0, 36210, .inl (nA (fun _ => 0)))) := by rw [e_821]; exact ah_keep f_807 f_804 (by omega)
        have f_828 : h_820 q_81 = some (30, .inl (G.2.2.1 0, 200, .inl (nA (fun _ => 0)))) := by rw [e_821]; exact ah_keep f_808 f_804 (by omega)
        have f_829 : h_820 q_103 = some (32, .inl (G.2.2.1 0, 40800, .inl (nA (fun _ => 0)))) := by rw [e_821]; exact ah_keep f_809 f_804 (by omega)
        have f_830 : h_820 q_127 = some (34, .inl (G.2.2.1 0, 16, .inl (nA (fun _ => 0)))) := by rw [e_821]; exact ah_keep f_810 f_804 (by omega)
        have f_831 : h_820 q_153 = some (35, .inl (G.2.2.1 0, 16, .inl (nA (fun _ => 0)))) := by rw [e_821]; exact ah_keep f_811 f_804 (by omega)
        have f_832 : h_820 q_181 = some (36, .inl (G.2.2.1 0, 16, .inl (nA (fun _ => 0)))) := by rw [e_821]; exact ah_keep f_812 f_804 (by omega)
        have f_833 : h_820 q_211 = some (37, .inl (G.2.2.1 0, 16, .inl (nA (fun _ => 0)))) := by rw [e_821]; exact ah_keep f_813 f_804 (by omega)
        have f_834 : h_820 q_243 = some (38, .inl (G.2.2.1 0, 16, .inl (nA (fun _ => 0)))) := by rw [e_821]; exact ah_keep f_814 f_804 (by omega)
        have f_835 : h_820 q_277 = some (39, .inl (G.2.2.1 0, 16, .inl (nA (fun _ => 0)))) := by rw [e_821]; exact ah_keep f_815 f_804 (by omega)
        have f_836 : h_820 q_313 = some (41, .inl (G.2.2.1 0, 4080, .inl (nA (fun _ => 0)))) := by rw [e_821]; exact ah_keep f_816 f_804 (by omega)
        have f_837 : h_820 q_351 = some (42, .inl (G.2.2.1 0, 652800, .inl (nA (fun _ => 0)))) := by rw [e_821]; exact ah_keep f_817 f_804 (by omega)
        have f_838 : h_820 q_391 = some (44, .inl (G.2.2.1 0, 200, .inl (nA (fun _ => 0)))) := by rw [e_821]; exact ah_keep f_818 f_804 (by omega)
        have f_839 : h_820 q_433 = some (46, .inl (G.2.2.1 0, 200, .inl (nA (fun _ => 0)))) := by rw [e_821]; exact ah_keep f_819 f_804 (by omega)
        refine lv_aload_n hx hb dX9_init_403 rfl (lv_at hl 1 rfl) ?_
        refine ah_get (ci := 8) (v := .ref q_13) (C := RX9) (T := TX9) (N := 27) hx hb hE hR hts hinX9 hown f_822 rfl 2 (by decide) k13 (fun _ h9 => h9) rfl dX9_init_404 ?_
        refine lv_bipush (v := nI 64) hx hb dX9_init_407 (by decide) ?_
        refine lv_bipush (v := nI 124) hx hb dX9_init_409 (by decide) ?_
        refine ah_iast (i := 64) hx hb hE hR hS f_824 (by omega) (by omega) dX9_init_411 (fun H locs hR hS => ?_)
        obtain ⟨h_840, e_841⟩ : ∃ zz9, zz9 = ah_up h_820 q_13 (22, .inl (G.2.2.1 0, 128, .inl (upd (upd (upd (upd (upd (upd (upd (upd (esI 128) 20 (nI 94)) 40 (nI 123)) 41 (nI 125)) 47 (nI 92)) 60 (nI 91)) 61 (nI 126)) 62 (nI 93)) 64 (nI 124)))) := ⟨_, rfl⟩
        have hR : ah_R G h_840 H := by rw [e_841]; exact hR
        have f_842 : h_840 y = some (20, .inr (8, [.int (nI 0), .ref q_1, .ref q_13, .int (nI 0), .ref q_27, .int (nI 0), .int (nI 0), .ref q_43, .ref q_61, .int (nI 0), .ref q_81, .int (nI 0), .ref q_103, .int (nI 0), .ref q_127, .ref q_153, .ref q_181, .ref q_211, .ref q_243, .ref q_277, .int (nI 0), .ref q_313, .ref q_351, .int (nI 0), .ref q_391, .int (nI 0), .ref q_433])) := by rw [e_841]; exact ah_keep f_822 f_824 (by omega)
        have f_843 : h_840 q_1 = some (21, .inl (G.2.2.1 0, 128, .inl (upd (upd (upd (upd (upd (upd (upd (upd (upd (upd (upd (plI 128) 0 (nI 64)) 1 (nI 163)) 2 (nI 36)) 3 (nI 165)) 4 (nI 232)) 5 (nI 233)) 17 (nI 95)) 95 (nI 167)) 123 (nI 228)) 124 (nI 246)) 126 (nI 252)))) := by rw [e_841]; exact ah_keep f_823 f_824 (by omega)
        have f_844 : h_840 q_13 = some (22, .inl (G.2.2.1 0, 128, .inl (upd (upd (upd (upd (upd (upd (upd (upd (esI 128) 20 (nI 94)) 40 (nI 123)) 41 (nI 125)) 47 (nI 92)) 60 (nI 91)) 61 (nI 126)) 62 (nI 93)) 64 (nI 124)))) := by rw [e_841]; exact ah_up_s _ _ _
        have f_845 : h_840 q_27 = some (24, .inl (G.2.2.1 0, 3000, .inl (nA (fun _ => 0)))) := by rw [e_841]; exact ah_keep f_825 f_824 (by omega)
        have f_846 : h_840 q_43 = some (27, .inl (G.2.2.1 0, 255, .inl (nA (fun _ => 0)))) := by rw [e_841]; exact ah_keep f_826 f_824 (by omega)
        have f_847 : h_840 q_61 = some (28, .inl (G.2.2.1 0, 36210, .inl (nA (fun _ => 0)))) := by rw [e_841]; exact ah_keep f_827 f_824 (by omega)
        have f_848 : h_840 q_81 = some (30, .inl (G.2.2.1 0, 200, .inl (nA (fun _ => 0)))) := by rw [e_841]; exact ah_keep f_828 f_824 (by omega)
        have f_849 : h_840 q_103 = some (32, .inl (G.2.2.1 0, 40800, .inl (nA (fun _ => 0)))) := by rw [e_841]; exact ah_keep f_829 f_824 (by omega)
        have f_850 : h_840 q_127 = some (34, .inl (G.2.2.1 0, 16, .inl (nA (fun _ => 0)))) := by rw [e_841]; exact ah_keep f_830 f_824 (by omega)
        have f_851 : h_840 q_153 = some (35, .inl (G.2.2.1 0, 16, .inl (nA (fun _ => 0)))) := by rw [e_841]; exact ah_keep f_831 f_824 (by omega)
        have f_852 : h_840 q_181 = some (36, .inl (G.2.2.1 0, 16, .inl (nA (fun _ => 0)))) := by rw [e_841]; exact ah_keep f_832 f_824 (by omega)
        have f_853 : h_840 q_211 = some (37, .inl (G.2.2.1 0, 16, .inl (nA (fun _ => 0)))) := by rw [e_841]; exact ah_keep f_833 f_824 (by omega)
        have f_854 : h_840 q_243 = some (38, .inl (G.2.2.1 0, 16, .inl (nA (fun _ => 0)))) := by rw [e_841]; exact ah_keep f_834 f_824 (by omega)
        have f_855 : h_840 q_277 = some (39, .inl (G.2.2.1 0, 16, .inl (nA (fun _ => 0)))) := by rw [e_841]; exact ah_keep f_835 f_824 (by omega)
        have f_856 : h_840 q_313 = some (41, .inl (G.2.2.1 0, 4080, .inl (nA (fun _ => 0)))) := by rw [e_841]; exact ah_keep f_836 f_824 (by omega)
        have f_857 : h_840 q_351 = some (42, .inl (G.2.2.1 0, 652800, .inl (nA (fun _ => 0)))) := by rw [e_841]; exact ah_keep f_837 f_824 (by omega)
        have f_858 : h_840 q_391 = some (44, .inl (G.2.2.1 0, 200, .inl (nA (fun _ => 0)))) := by rw [e_841]; exact ah_keep f_838 f_824 (by omega)
        have f_859 : h_840 q_433 = some (46, .inl (G.2.2.1 0, 200, .inl (nA (fun _ => 0)))) := by rw [e_841]; exact ah_keep f_839 f_824 (by omega)
        refine lv_aload_n hx hb dX9_init_412 rfl (lv_at hl 1 rfl) ?_
        refine ah_get (ci := 8) (v := .ref q_13) (C := RX9) (T := TX9) (N := 27) hx hb hE hR hts hinX9 hown f_842 rfl 2 (by decide) k13 (fun _ h9 => h9) rfl dX9_init_413 ?_
        refine lv_bipush (v := nI 101) hx hb dX9_init_416 (by decide) ?_
        refine lv_sipush (v := nI 8364) hx hb dX9_init_418 (by decide) ?_
        refine ah_iast (i := 101) hx hb hE hR hS f_844 (by omega) (by omega) dX9_init_421 (fun H locs hR hS => ?_)
        obtain ⟨h_860, e_861⟩ : ∃ zz9, zz9 = ah_up h_840 q_13 (22, .inl (G.2.2.1 0, 128, .inl (upd (upd (upd (upd (upd (upd (upd (upd (upd (esI 128) 20 (nI 94)) 40 (nI 123)) 41 (nI 125)) 47 (nI 92)) 60 (nI 91)) 61 (nI 126)) 62 (nI 93)) 64 (nI 124)) 101 (nI 8364)))) := ⟨_, rfl⟩
        have hR : ah_R G h_860 H := by rw [e_861]; exact hR
        have f_862 : h_860 y = some (20, .inr (8, [.int (nI 0), .ref q_1, .ref q_13, .int (nI 0), .ref q_27, .int (nI 0), .int (nI 0), .ref q_43, .ref q_61, .int (nI 0), .ref q_81, .int (nI 0), .ref q_103, .int (nI 0), .ref q_127, .ref q_153, .ref q_181, .ref q_211, .ref q_243, .ref q_277, .int (nI 0), .ref q_313, .ref q_351, .int (nI 0), .ref q_391, .int (nI 0), .ref q_433])) := by rw [e_861]; exact ah_keep f_842 f_844 (by omega)
        have f_863 : h_860 q_1 = some (21, .inl (G.2.2.1 0, 128, .inl (upd (upd (upd (upd (upd (upd (upd (upd (upd (upd (upd (plI 128) 0 (nI 64)) 1 (nI 163)) 2 (nI 36)) 3 (nI 165)) 4 (nI 232)) 5 (nI 233)) 17 (nI 95)) 95 (nI 167)) 123 (nI 228)) 124 (nI 246)) 126 (nI 252)))) := by rw [e_861]; exact ah_keep f_843 f_844 (by omega)
        have f_864 : h_860 q_13 = some (22, .inl (G.2.2.1 0, 128, .inl (upd (upd (upd (upd (upd (upd (upd (upd (upd (esI 128) 20 (nI 94)) 40 (nI 123)) 41 (nI 125)) 47 (nI 92)) 60 (nI 91)) 61 (nI 126)) 62 (nI 93)) 64 (nI 124)) 101 (nI 8364)))) := by rw [e_861]; exact ah_up_s _ _ _
        have f_865 : h_860 q_27 = some (24, .inl (G.2.2.1 0, 3000, .inl (nA (fun _ => 0)))) := by rw [e_861]; exact ah_keep f_845 f_844 (by omega)
        have f_866 : h_860 q_43 = some (27, .inl (G.2.2.1 0, 255, .inl (nA (fun _ => 0)))) := by rw [e_861]; exact ah_keep f_846 f_844 (by omega)
        have f_867 : h_860 q_61 = some (28, .inl (G.2.2.1 0, 36210, .inl (nA (fun _ => 0)))) := by rw [e_861]; exact ah_keep f_847 f_844 (by omega)
        have f_868 : h_860 q_81 = some (30, .inl (G.2.2.1 0, 200, .inl (nA (fun _ => 0)))) := by rw [e_861]; exact ah_keep f_848 f_844 (by omega)
        have f_869 : h_860 q_103 = some (32, .inl (G.2.2.1 0, 40800, .inl (nA (fun _ => 0)))) := by rw [e_861]; exact ah_keep f_849 f_844 (by omega)
        have f_870 : h_860 q_127 = some (34, .inl (G.2.2.1 0, 16, .inl (nA (fun _ => 0)))) := by rw [e_861]; exact ah_keep f_850 f_844 (by omega)
        have f_871 : h_860 q_153 = some (35, .inl (G.2.2.1 0, 16, .inl (nA (fun _ => 0)))) := by rw [e_861]; exact ah_keep f_851 f_844 (by omega)
        have f_872 : h_860 q_181 = some (36, .inl (G.2.2.1 0, 16, .inl (nA (fun _ => 0)))) := by rw [e_861]; exact ah_keep f_852 f_844 (by omega)
        have f_873 : h_860 q_211 = some (37, .inl (G.2.2.1 0, 16, .inl (nA (fun _ => 0)))) := by rw [e_861]; exact ah_keep f_853 f_844 (by omega)
        have f_874 : h_860 q_243 = some (38, .inl (G.2.2.1 0, 16, .inl (nA (fun _ => 0)))) := by rw [e_861]; exact ah_keep f_854 f_844 (by omega)
        have f_875 : h_860 q_277 = some (39, .inl (G.2.2.1 0, 16, .inl (nA (fun _ => 0)))) := by rw [e_861]; exact ah_keep f_855 f_844 (by omega)
        have f_876 : h_860 q_313 = some (41, .inl (G.2.2.1 0, 4080, .inl (nA (fun _ => 0)))) := by rw [e_861]; exact ah_keep f_856 f_844 (by omega)
        have f_877 : h_860 q_351 = some (42, .inl (G.2.2.1 0, 652800, .inl (nA (fun _ => 0)))) := by rw [e_861]; exact ah_keep f_857 f_844 (by omega)
        have f_878 : h_860 q_391 = some (44, .inl (G.2.2.1 0, 200, .inl (nA (fun _ => 0)))) := by rw [e_861]; exact ah_keep f_858 f_844 (by omega)
        have f_879 : h_860 q_433 = some (46, .inl (G.2.2.1 0, 200, .inl (nA (fun _ => 0)))) := by rw [e_861]; exact ah_keep f_859 f_844 (by omega)
        have ag2 : agr (fun t => ¬ (20 ≤ t ∧ t ≤ 46)) h1 h_860 := by rw [e_861]; refine agr.up ?_ f_844 (by omega); rw [e_841]; refine agr.up ?_ f_824 (by omega); rw [e_821]; refine agr.up ?_ f_804 (by omega); rw [e_801]; refine agr.up ?_ f_784 (by omega); rw [e_781]; refine agr.up ?_ f_764 (by omega); rw [e_761]; refine agr.up ?_ f_744 (by omega); rw [e_741]; refine agr.up ?_ f_724 (by omega); rw [e_721]; refine agr.up ?_ f_704 (by omega); rw [e_701]; refine agr.up ?_ f_684 (by omega); rw [e_681]; refine agr.up ?_ f_663 (by omega); rw [e_661]; refine agr.up ?_ f_643 (by omega); rw [e_641]; refine agr.up ?_ f_623 (by omega); rw [e_621]; refine agr.up ?_ f_603 (by omega); rw [e_601]; refine agr.up ?_ f_583 (by omega); rw [e_581]; refine agr.up ?_ f_563 (by omega); rw [e_561]; refine agr.up ?_ f_543 (by omega); rw [e_541]; refine agr.up ?_ f_523 (by omega); rw [e_521]; refine agr.up ?_ f_503 (by omega); rw [e_501]; refine agr.up ?_ f_483 (by omega); rw [e_481]; refine agr.up ?_ fpL (by omega); exact agr.rf
        obtain ⟨h8, e8⟩ : ∃ zz9, zz9 = ah_up (ah_up h_860 q_1 (21, .inl (G.2.2.1 0, 128, .inl plT))) q_13 (22, .inl (G.2.2.1 0, 128, .inl esT)) := ⟨_, rfl⟩
        have fq8 : ah_up h_860 q_1 (21, .inl (G.2.2.1 0, 128, .inl plT)) q_13 = some (22, .inl (G.2.2.1 0, 128, .inl (upd (upd (upd (upd (upd (upd (upd (upd (upd (esI 128) 20 (nI 94)) 40 (nI 123)) 41 (nI 125)) 47 (nI 92)) 60 (nI 91)) 61 (nI 126)) 62 (nI 93)) 64 (nI 124)) 101 (nI 8364)))) := ah_keep f_864 f_863 (by omega)
        have hR : ah_R G h8 H := by rw [e8]; exact ah_cong (ah_cong hR f_863 plF_ok) fq8 esF_ok
        have z_880 : h8 y = some (20, .inr (8, [.int (nI 0), .ref q_1, .ref q_13, .int (nI 0), .ref q_27, .int (nI 0), .int (nI 0), .ref q_43, .ref q_61, .int (nI 0), .ref q_81, .int (nI 0), .ref q_103, .int (nI 0), .ref q_127, .ref q_153, .ref q_181, .ref q_211, .ref q_243, .ref q_277, .int (nI 0), .ref q_313, .ref q_351, .int (nI 0), .ref q_391, .int (nI 0), .ref q_433])) := by rw [e8]; exact ah_keep (ah_keep f_862 f_863 (by omega)) fq8 (by omega)
        have z_881 : h8 q_1 = some (21, .inl (G.2.2.1 0, 128, .inl plT)) := by rw [e8]; exact ah_keep (ah_up_s _ _ _) fq8 (by omega)
        have z_882 : h8 q_13 = some (22, .inl (G.2.2.1 0, 128, .inl esT)) := by rw [e8]; exact ah_up_s _ _ _
        have z_883 : h8 q_27 = some (24, .inl (G.2.2.1 0, 3000, .inl (nA (fun _ => 0)))) := by rw [e8]; exact ah_keep (ah_keep f_865 f_863 (by omega)) fq8 (by omega)
        have z_884 : h8 q_43 = some (27, .inl (G.2.2.1 0, 255, .inl (nA (fun _ => 0)))) := by rw [e8]; exact ah_keep (ah_keep f_866 f_863 (by omega)) fq8 (by omega)
        have z_885 : h8 q_61 = some (28, .inl (G.2.2.1 0, 36210, .inl (nA (fun _ => 0)))) := by rw [e8]; exact ah_keep (ah_keep f_867 f_863 (by omega)) fq8 (by omega)
        have z_886 : h8 q_81 = some (30, .inl (G.2.2.1 0, 200, .inl (nA (fun _ => 0)))) := by rw [e8]; exact ah_keep (ah_keep f_868 f_863 (by omega)) fq8 (by omega)
        have z_887 : h8 q_103 = some (32, .inl (G.2.2.1 0, 40800, .inl (nA (fun _ => 0)))) := by rw [e8]; exact ah_keep (ah_keep f_869 f_863 (by omega)) fq8 (by omega)
        have z_888 : h8 q_127 = some (34, .inl (G.2.2.1 0, 16, .inl (nA (fun _ => 0)))) := by rw [e8]; exact ah_keep (ah_keep f_870 f_863 (by omega)) fq8 (by omega)
        have z_889 : h8 q_153 = some (35, .inl (G.2.2.1 0, 16, .inl (nA (fun _ => 0)))) := by rw [e8]; exact ah_keep (ah_keep f_871 f_863 (by omega)) fq8 (by omega)
        have z_890 : h8 q_181 = some (36, .inl (G.2.2.1 0, 16, .inl (nA (fun _ => 0)))) := by rw [e8]; exact ah_keep (ah_keep f_872 f_863 (by omega)) fq8 (by omega)
        have z_891 : h8 q_211 = some (37, .inl (G.2.2.1 0, 16, .inl (nA (fun _ => 0)))) := by rw [e8]; exact ah_keep (ah_keep f_873 f_863 (by omega)) fq8 (by omega)
        have z_892 : h8 q_243 = some (38, .inl (G.2.2.1 0, 16, .inl (nA (fun _ => 0)))) := by rw [e8]; exact ah_keep (ah_keep f_874 f_863 (by omega)) fq8 (by omega)
        have z_893 : h8 q_277 = some (39, .inl (G.2.2.1 0, 16, .inl (nA (fun _ => 0)))) := by rw [e8]; exact ah_keep (ah_keep f_875 f_863 (by omega)) fq8 (by omega)
        have z_894 : h8 q_313 = some (41, .inl (G.2.2.1 0, 4080, .inl (nA (fun _ => 0)))) := by rw [e8]; exact ah_keep (ah_keep f_876 f_863 (by omega)) fq8 (by omega)
        have z_895 : h8 q_351 = some (42, .inl (G.2.2.1 0, 652800, .inl (nA (fun _ => 0)))) := by rw [e8]; exact ah_keep (ah_keep f_877 f_863 (by omega)) fq8 (by omega)
        have z_896 : h8 q_391 = some (44, .inl (G.2.2.1 0, 200, .inl (nA (fun _ => 0)))) := by rw [e8]; exact ah_keep (ah_keep f_878 f_863 (by omega)) fq8 (by omega)
        have z_897 : h8 q_433 = some (46, .inl (G.2.2.1 0, 200, .inl (nA (fun _ => 0)))) := by rw [e8]; exact ah_keep (ah_keep f_879 f_863 (by omega)) fq8 (by omega)
        refine ah_vret hx hb hr hlocks hR hS dX9_init_422 ?_
        exact ⟨(fun k => match k with | 1 => q_1 | 2 => q_13 | 4 => q_27 | 7 => q_43 | 8 => q_61 | 10 => q_81 | 12 => q_103 | 14 => q_127 | 15 => q_153 | 16 => q_181 | 17 => q_211 | 18 => q_243 | 19 => q_277 | 21 => q_313 | 22 => q_351 | 24 => q_391 | 26 => q_433 | _ => 0), z_880, z_881, z_882, z_883, z_884, z_885, z_886, z_887, z_888, z_889, z_890, z_891, z_892, z_893, z_894, z_895, z_896, z_897, ag_476.tr (ag1.tr (ag2.tr (by rw [e8]; exact (agr.rf.up f_863 (by omega)).up fq8 (by omega))))⟩
      · skip
        have c_479 : ¬ (128 ≤ k) := fun z9 => c_479 ((nI_leI (by omega) (by omega)).mpr z9)
        refine lv_aload_n hx hb dX9_init_157 rfl (lv_at hl 1 rfl) ?_
        refine ah_get (ci := 8) (v := .ref q_13) (C := RX9) (T := TX9) (N := 27) hx hb hE hR hts hinX9 hown f_458L rfl 2 (by decide) k13 (fun _ h9 => h9) rfl dX9_init_158 ?_
        refine lv_iload_n hx hb dX9_init_161 rfl (lv_at hl 0 rfl) ?_
        refine lv_iconst (v := (-1)) hx hb dX9_init_162 (by decide) ?_
        refine ah_iast (i := k) hx hb hE hR hS fqL (by omega) (by omega) dX9_init_163 (fun H locs hR hS => ?_)
        obtain ⟨h_898, e_899⟩ : ∃ zz9, zz9 = ah_up h1 q_13 (22, .inl (G.2.2.1 0, 128, .inl (upd (esI k) k (-1)))) := ⟨_, rfl⟩
        have hR : ah_R G h_898 H := by rw [e_899]; exact hR
        have f_900 : h_898 y = some (20, .inr (8, [.int (nI 0), .ref q_1, .ref q_13, .int (nI 0), .ref q_27, .int (nI 0), .int (nI 0), .ref q_43, .ref q_61, .int (nI 0), .ref q_81, .int (nI 0), .ref q_103, .int (nI 0), .ref q_127, .ref q_153, .ref q_181, .ref q_211, .ref q_243, .ref q_277, .int (nI 0), .ref q_313, .ref q_351, .int (nI 0), .ref q_391, .int (nI 0), .ref q_433])) := by rw [e_899]; exact ah_keep f_458L fqL (by omega)
        have f_901 : h_898 q_1 = some (21, .inl (G.2.2.1 0, 128, .inl (plI k))) := by rw [e_899]; exact ah_keep fpL fqL (by omega)
        have f_902 : h_898 q_13 = some (22, .inl (G.2.2.1 0, 128, .inl (upd (esI k) k (-1)))) := by rw [e_899]; exact ah_up_s _ _ _
        have f_903 : h_898 q_27 = some (24, .inl (G.2.2.1 0, 3000, .inl (nA (fun _ => 0)))) := by rw [e_899]; exact ah_keep f_461L fqL (by omega)
        have f_904 : h_898 q_43 = some (27, .inl (G.2.2.1 0, 255, .inl (nA (fun _ => 0)))) := by rw [e_899]; exact ah_keep f_462L fqL (by omega)
        have f_905 : h_898 q_61 = some (28, .inl (G.2.2.1 0, 36210, .inl (nA (fun _ => 0)))) := by rw [e_899]; exact ah_keep f_463L fqL (by omega)
        have f_906 : h_898 q_81 = some (30, .inl (G.2.2.1 0, 200, .inl (nA (fun _ => 0)))) := by rw [e_899]; exact ah_keep f_464L fqL (by omega)
        have f_907 : h_898 q_103 = some (32, .inl (G.2.2.1 0, 40800, .inl (nA (fun _ => 0)))) := by rw [e_899]; exact ah_keep f_465L fqL (by omega)
        have f_908 : h_898 q_127 = some (34, .inl (G.2.2.1 0, 16, .inl (nA (fun _ => 0)))) := by rw [e_899]; exact ah_keep f_466L fqL (by omega)
        have f_909 : h_898 q_153 = some (35, .inl (G.2.2.1 0, 16, .inl (nA (fun _ => 0)))) := by rw [e_899]; exact ah_keep f_467L fqL (by omega)
        have f_910 : h_898 q_181 = some (36, .inl (G.2.2.1 0, 16, .inl (nA (fun _ => 0)))) := by rw [e_899]; exact ah_keep f_468L fqL (by omega)
        have f_911 : h_898 q_211 = some (37, .inl (G.2.2.1 0, 16, .inl (nA (fun _ => 0)))) := by rw [e_899]; exact ah_keep f_469L fqL (by omega)
        have f_912 : h_898 q_243 = some (38, .inl (G.2.2.1 0, 16, .inl (nA (fun _ => 0)))) := by rw [e_899]; exact ah_keep f_470L fqL (by omega)
        have f_913 : h_898 q_277 = some (39, .inl (G.2.2.1 0, 16, .inl (nA (fun _ => 0)))) := by rw [e_899]; exact ah_keep f_471L fqL (by omega)
        have f_914 : h_898 q_313 = some (41, .inl (G.2.2.1 0, 4080, .inl (nA (fun _ => 0)))) := by rw [e_899]; exact ah_keep f_472L fqL (by omega)
        have f_915 : h_898 q_351 = some (42, .inl (G.2.2.1 0, 652800, .inl (nA (fun _ => 0)))) := by rw [e_899]; exact ah_keep f_473L fqL (by omega)
        have f_916 : h_898 q_391 = some (44, .inl (G.2.2.1 0, 200, .inl (nA (fun _ => 0)))) := by rw [e_899]; exact ah_keep f_474L fqL (by omega)
        have f_917 : h_898 q_433 = some (46, .inl (G.2.2.1 0, 200, .inl (nA (fun _ => 0)))) := by rw [e_899]; exact ah_keep f_475L fqL (by omega)
        have f_918 : h_898 q_13 = some (22, .inl (G.2.2.1 0, 128, .inl (esI (k + 1)))) := by rw [← esI_s]; exact f_902
        refine lv_iload_n hx hb dX9_init_164 rfl (lv_at hl 0 rfl) ?_
        refine lv_bipush (v := nI 10) hx hb dX9_init_165 (by decide) ?_
        refine lv_icmp_eq (tgt := 212) hx hb dX9_init_167 (by decide) (fun c_919 => ?_) (fun c_919 => ?_)
        · skip
          have c_919 : k = 10 := (nI_eq (by omega) (by omega)).mp c_919
          refine lv_iconst (v := nI 1) hx hb dX9_init_212 (by decide) ?_
          refine lv_goto (tgt := 217) hx hb dX9_init_213 (by decide) ?_
          refine lv_istore_n (lv' := [(2, .int (nI 1)), (1, .int (nI k)), (0, .ref y)]) hx hb dX9_init_217 rfl hl (by decide) rfl (fun ls hl => ?_)
          refine lv_aload_n hx hb dX9_init_218 rfl (lv_at hl 2 rfl) ?_
          refine ah_get (ci := 8) (v := .ref q_1) (C := RX9) (T := TX9) (N := 27) hx hb hE hR hts hinX9 hown f_900 rfl 1 (by decide) k7 (fun _ h9 => h9) rfl dX9_init_219 ?_
          refine lv_iload_n hx hb dX9_init_222 rfl (lv_at hl 1 rfl) ?_
          refine lv_iload_n hx hb dX9_init_223 rfl (lv_at hl 0 rfl) ?_
          refine lv_if_eq (tgt := 231) hx hb dX9_init_224 (by decide) (fun c_920 => ?_) (fun c_920 => ?_)
          · skip
            exact absurd c_920 (by decide)
          · skip
            refine lv_iload_n hx hb dX9_init_227 rfl (lv_at hl 1 rfl) ?_
            refine lv_goto (tgt := 232) hx hb dX9_init_228 (by decide) ?_
            refine ah_iast (i := k) hx hb hE hR hS f_901 (by omega) (by omega) dX9_init_232 (fun H locs hR hS => ?_)
            obtain ⟨h_921, e_922⟩ : ∃ zz9, zz9 = ah_up h_898 q_1 (21, .inl (G.2.2.1 0, 128, .inl (upd (plI k) k (nI k)))) := ⟨_, rfl⟩
            have hR : ah_R G h_921 H := by rw [e_922]; exact hR
            have f_923 : h_921 y = some (20, .inr (8, [.int (nI 0), .ref q_1, .ref q_13, .int (nI 0), .ref q_27, .int (nI 0), .int (nI 0), .ref q_43, .ref q_61, .int (nI 0), .ref q_81, .int (nI 0), .ref q_103, .int (nI 0), .ref q_127, .ref q_153, .ref q_181, .ref q_211, .ref q_243, .ref q_277, .int (nI 0), .ref q_313, .ref q_351, .int (nI 0), .ref q_391, .int (nI 0), .ref q_433])) := by rw [e_922]; exact ah_keep f_900 f_901 (by omega)
            have f_924 : h_921 q_1 = some (21, .inl (G.2.2.1 0, 128, .inl (upd (plI k) k (nI k)))) := by rw [e_922]; exact ah_up_s _ _ _
            have f_925 : h_921 q_13 = some (22, .inl (G.2.2.1 0, 128, .inl (esI (k + 1)))) := by rw [e_922]; exact ah_keep f_918 f_901 (by omega)
            have f_926 : h_921 q_27 = some (24, .inl (G.2.2.1 0, 3000, .inl (nA (fun _ => 0)))) := by rw [e_922]; exact ah_keep f_903 f_901 (by omega)
            have f_927 : h_921 q_43 = some (27, .inl (G.2.2.1 0, 255, .inl (nA (fun _ => 0)))) := by rw [e_922]; exact ah_keep f_904 f_901 (by omega)
            have f_928 : h_921 q_61 = some (28, .inl (G.2.2.1 0, 36210, .inl (nA (fun _ => 0)))) := by rw [e_922]; exact ah_keep f_905 f_901 (by omega)
            have f_929 : h_921 q_81 = some (30, .inl (G.2.2.1 0, 200, .inl (nA (fun _ => 0)))) := by rw [e_922]; exact ah_keep f_906 f_901 (by omega)
            have f_930 : h_921 q_103 = some (32, .inl (G.2.2.1 0, 40800, .inl (nA (fun _ => 0)))) := by rw [e_922]; exact ah_keep f_907 f_901 (by omega)
            have f_931 : h_921 q_127 = some (34, .inl (G.2.2.1 0, 16, .inl (nA (fun _ => 0)))) := by rw [e_922]; exact ah_keep f_908 f_901 (by omega)
            have f_932 : h_921 q_153 = some (35, .inl (G.2.2.1 0, 16, .inl (nA (fun _ => 0)))) := by rw [e_922]; exact ah_keep f_909 f_901 (by omega)
            have f_933 : h_921 q_181 = some (36, .inl (G.2.2.1 0, 16, .inl (nA (fun _ => 0)))) := by rw [e_922]; exact ah_keep f_910 f_901 (by omega)
            have f_934 : h_921 q_211 = some (37, .inl (G.2.2.1 0, 16, .inl (nA (fun _ => 0)))) := by rw [e_922]; exact ah_keep f_911 f_901 (by omega)
            have f_935 : h_921 q_243 = some (38, .inl (G.2.2.1 0, 16, .inl (nA (fun _ => 0)))) := by rw [e_922]; exact ah_keep f_912 f_901 (by omega)
            have f_936 : h_921 q_277 = some (39, .inl (G.2.2.1 0, 16, .inl (nA (fun _ => 0)))) := by rw [e_922]; exact ah_keep f_913 f_901 (by omega)
            have f_937 : h_921 q_313 = some (41, .inl (G.2.2.1 0, 4080, .inl (nA (fun _ => 0)))) := by rw [e_922]; exact ah_keep f_914 f_901 (by omega)
            have f_938 : h_921 q_351 = some (42, .inl (G.2.2.1 0, 652800, .inl (nA (fun _ => 0)))) := by rw [e_922]; exact ah_keep f_915 f_901 (by omega)
            have f_939 : h_921 q_391 = some (44, .inl (G.2.2.1 0, 200, .inl (nA (fun _ => 0)))) := by rw [e_922]; exact ah_keep f_916 f_901 (by omega)
            have f_940 : h_921 q_433 = some (46, .inl (G.2.2.1 0, 200, .inl (nA (fun _ => 0)))) := by rw [e_922]; exact ah_keep f_917 f_901 (by omega)
            have f_941 : h_921 q_1 = some (21, .inl (G.2.2.1 0, 128, .inl (plI (k + 1)))) := by rw [← plI_s (v := nI k) (if_pos (show ownP k by unfold ownP; omega)).symm]; exact f_924
            refine lv_iinc (v := nI (k + 1)) (lv' := [(1, .int (nI (k + 1))), (2, .int (nI 1)), (0, .ref y)]) hx hb dX9_init_233 hl (k := 1) rfl (show nI k + Int32.ofInt 1 = nI (k + 1) from nI_add _ 1) (by decide) rfl (fun ls hl => ?_)
            refine lv_goto (tgt := 150) hx hb dX9_init_236 (by decide) ?_
            exact ih150  (k + 1) h_921 _ _ ls (by omega) (by omega) (ag1.tr (by rw [e_922]; refine agr.up ?_ f_901 (by omega); rw [e_899]; refine agr.up ?_ fqL (by omega); exact agr.rf)) f_923 f_941 f_925 f_926 f_927 f_928 f_929 f_930 f_931 f_932 f_933 f_934 f_935 f_936 f_937 f_938 f_939 f_940 hR hS (lv_sub hl [0, 2] rfl)
        · skip
          have c_919 : ¬ (k = 10) := fun z9 => c_919 ((nI_eq (by omega) (by omega)).mpr z9)
          refine lv_iload_n hx hb dX9_init_170 rfl (lv_at hl 0 rfl) ?_
          refine lv_bipush (v := nI 13) hx hb dX9_init_171 (by decide) ?_
          refine lv_icmp_eq (tgt := 212) hx hb dX9_init_173 (by decide) (fun c_942 => ?_) (fun c_942 => ?_)
          · skip
            have c_942 : k = 13 := (nI_eq (by omega) (by omega)).mp c_942
            refine lv_iconst (v := nI 1) hx hb dX9_init_212 (by decide) ?_
            refine lv_goto (tgt := 217) hx hb dX9_init_213 (by decide) ?_
            refine lv_istore_n (lv' := [(2, .int (nI 1)), (1, .int (nI k)), (0, .ref y)]) hx hb dX9_init_217 rfl hl (by decide) rfl (fun ls hl => ?_)
            refine lv_aload_n hx hb dX9_init_218 rfl (lv_at hl 2 rfl) ?_
            refine ah_get (ci := 8) (v := .ref q_1) (C := RX9) (T := TX9) (N := 27) hx hb hE hR hts hinX9 hown f_900 rfl 1 (by decide) k7 (fun _ h9 => h9) rfl dX9_init_219 ?_
            refine lv_iload_n hx hb dX9_init_222 rfl (lv_at hl 1 rfl) ?_
            refine lv_iload_n hx hb dX9_init_223 rfl (lv_at hl 0 rfl) ?_
            refine lv_if_eq (tgt := 231) hx hb dX9_init_224 (by decide) (fun c_943 => ?_) (fun c_943 => ?_)
            · skip
              exact absurd c_943 (by decide)
            · skip
              refine lv_iload_n hx hb dX9_init_227 rfl (lv_at hl 1 rfl) ?_
              refine lv_goto (tgt := 232) hx hb dX9_init_228 (by decide) ?_
              refine ah_iast (i := k) hx hb hE hR hS f_901 (by omega) (by omega) dX9_init_232 (fun H locs hR hS => ?_)
              obtain ⟨h_944, e_945⟩ : ∃ zz9, zz9 = ah_up h_898 q_1 (21, .inl (G.2.2.1 0, 128, .inl (upd (plI k) k (nI k)))) := ⟨_, rfl⟩
              have hR : ah_R G h_944 H := by rw [e_945]; exact hR
              have f_946 : h_944 y = some (20, .inr (8, [.int (nI 0), .ref q_1, .ref q_13, .int (nI 0), .ref q_27, .int (nI 0), .int (nI 0), .ref q_43, .ref q_61, .int (nI 0), .ref q_81, .int (nI 0), .ref q_103, .int (nI 0), .ref q_127, .ref q_153, .ref q_181, .ref q_211, .ref q_243, .ref q_277, .int (nI 0), .ref q_313, .ref q_351, .int (nI 0), .ref q_391, .int (nI 0), .ref q_433])) := by rw [e_945]; exact ah_keep f_900 f_901 (by omega)
              have f_947 : h_944 q_1 = some (21, .inl (G.2.2.1 0, 128, .inl (upd (plI k) k (nI k)))) := by rw [e_945]; exact ah_up_s _ _ _
              have f_948 : h_944 q_13 = some (22, .inl (G.2.2.1 0, 128, .inl (esI (k + 1)))) := by rw [e_945]; exact ah_keep f_918 f_901 (by omega)
              have f_949 : h_944 q_27 = some (24, .inl (G.2.2.1 0, 3000, .inl (nA (fun _ => 0)))) := by rw [e_945]; exact ah_keep f_903 f_901 (by omega)
              have f_950 : h_944 q_43 = some (27, .inl (G.2.2.1 0, 255, .inl (nA (fun _ => 0)))) := by rw [e_945]; exact ah_keep f_904 f_901 (by omega)
              have f_951 : h_944 q_61 = some (28, .inl (G.2.2.1 0, 36210, .inl (nA (fun _ => 0)))) := by rw [e_945]; exact ah_keep f_905 f_901 (by omega)
              have f_952 : h_944 q_81 = some (30, .inl (G.2.2.1 0, 200, .inl (nA (fun _ => 0)))) := by rw [e_945]; exact ah_keep f_906 f_901 (by omega)
              have f_953 : h_944 q_103 = some (32, .inl (G.2.2.1 0, 40800, .inl (nA (fun _ => 0)))) := by rw [e_945]; exact ah_keep f_907 f_901 (by omega)
              have f_954 : h_944 q_127 = some (34, .inl (G.2.2.1 0, 16, .inl (nA (fun _ => 0)))) := by rw [e_945]; exact ah_keep f_908 f_901 (by omega)
              have f_955 : h_944 q_153 = some (35, .inl (G.2.2.1 0, 16, .inl (nA (fun _ => 0)))) := by rw [e_945]; exact ah_keep f_909 f_901 (by omega)
              have f_956 : h_944 q_181 = some (36, .inl (G.2.2.1 0, 16, .inl (nA (fun _ => 0)))) := by rw [e_945]; exact ah_keep f_910 f_901 (by omega)
              have f_957 : h_944 q_211 = some (37, .inl (G.2.2.1 0, 16, .inl (nA (fun _ => 0)))) := by rw [e_945]; exact ah_keep f_911 f_901 (by omega)
              have f_958 : h_944 q_243 = some (38, .inl (G.2.2.1 0, 16, .inl (nA (fun _ => 0)))) := by rw [e_945]; exact ah_keep f_912 f_901 (by omega)
              have f_959 : h_944 q_277 = some (39, .inl (G.2.2.1 0, 16, .inl (nA (fun _ => 0)))) := by rw [e_945]; exact ah_keep f_913 f_901 (by omega)
              have f_960 : h_944 q_313 = some (41, .inl (G.2.2.1 0, 4080, .inl (nA (fun _ => 0)))) := by rw [e_945]; exact ah_keep f_914 f_901 (by omega)
              have f_961 : h_944 q_351 = some (42, .inl (G.2.2.1 0, 652800, .inl (nA (fun _ => 0)))) := by rw [e_945]; exact ah_keep f_915 f_901 (by omega)
              have f_962 : h_944 q_391 = some (44, .inl (G.2.2.1 0, 200, .inl (nA (fun _ => 0)))) := by rw [e_945]; exact ah_keep f_916 f_901 (by omega)
              have f_963 : h_944 q_433 = some (46, .inl (G.2.2.1 0, 200, .inl (nA (fun _ => 0)))) := by rw [e_945]; exact ah_keep f_917 f_901 (by omega)
              have f_964 : h_944 q_1 = some (21, .inl (G.2.2.1 0, 128, .inl (plI (k + 1)))) := by rw [← plI_s (v := nI k) (if_pos (show ownP k by unfold ownP; omega)).symm]; exact f_947
              refine lv_iinc (v := nI (k + 1)) (lv' := [(1, .int (nI (k + 1))), (2, .int (nI 1)), (0, .ref y)]) hx hb dX9_init_233 hl (k := 1) rfl (show nI k + Int32.ofInt 1 = nI (k + 1) from nI_add _ 1) (by decide) rfl (fun ls hl => ?_)
              refine lv_goto (tgt := 150) hx hb dX9_init_236 (by decide) ?_
              exact ih150  (k + 1) h_944 _ _ ls (by omega) (by omega) (ag1.tr (by rw [e_945]; refine agr.up ?_ f_901 (by omega); rw [e_899]; refine agr.up ?_ fqL (by omega); exact agr.rf)) f_946 f_964 f_948 f_949 f_950 f_951 f_952 f_953 f_954 f_955 f_956 f_957 f_958 f_959 f_960 f_961 f_962 f_963 hR hS (lv_sub hl [0, 2] rfl)
          · skip
            have c_942 : ¬ (k = 13) := fun z9 => c_942 ((nI_eq (by omega) (by omega)).mpr z9)
            refine lv_iload_n hx hb dX9_init_176 rfl (lv_at hl 0 rfl) ?_
            refine lv_bipush (v := nI 32) hx hb dX9_init_177 (by decide) ?_
            refine lv_icmp_lt (tgt := 200) hx hb dX9_init_179 (by decide) (fun c_965 => ?_) (fun c_965 => ?_)
            · skip
              have c_965 : k < 32 := (nI_ltI (by omega) (by omega)).mp c_965
              refine lv_iload_n hx hb dX9_init_200 rfl (lv_at hl 0 rfl) ?_
              refine lv_bipush (v := nI 97) hx hb dX9_init_201 (by decide) ?_
              refine lv_icmp_lt (tgt := 216) hx hb dX9_init_203 (by decide) (fun c_966 => ?_) (fun c_966 => ?_)
              · skip
                have c_966 : k < 97 := (nI_ltI (by omega) (by omega)).mp c_966
                refine lv_iconst (v := nI 0) hx hb dX9_init_216 (by decide) ?_
                refine lv_istore_n (lv' := [(2, .int (nI 0)), (1, .int (nI k)), (0, .ref y)]) hx hb dX9_init_217 rfl hl (by decide) rfl (fun ls hl => ?_)
                refine lv_aload_n hx hb dX9_init_218 rfl (lv_at hl 2 rfl) ?_
                refine ah_get (ci := 8) (v := .ref q_1) (C := RX9) (T := TX9) (N := 27) hx hb hE hR hts hinX9 hown f_900 rfl 1 (by decide) k7 (fun _ h9 => h9) rfl dX9_init_219 ?_
                refine lv_iload_n hx hb dX9_init_222 rfl (lv_at hl 1 rfl) ?_
                refine lv_iload_n hx hb dX9_init_223 rfl (lv_at hl 0 rfl) ?_
                refine lv_if_eq (tgt := 231) hx hb dX9_init_224 (by decide) (fun c_967 => ?_) (fun c_967 => ?_)
                · skip
                  refine lv_iconst (v := (-1)) hx hb dX9_init_231 (by decide) ?_
                  refine ah_iast (i := k) hx hb hE hR hS f_901 (by omega) (by omega) dX9_init_232 (fun H locs hR hS => ?_)
                  obtain ⟨h_968, e_969⟩ : ∃ zz9, zz9 = ah_up h_898 q_1 (21, .inl (G.2.2.1 0, 128, .inl (upd (plI k) k (-1)))) := ⟨_, rfl⟩
                  have hR : ah_R G h_968 H := by rw [e_969]; exact hR
                  have f_970 : h_968 y = some (20, .inr (8, [.int (nI 0), .ref q_1, .ref q_13, .int (nI 0), .ref q_27, .int (nI 0), .int (nI 0), .ref q_43, .ref q_61, .int (nI 0), .ref q_81, .int (nI 0), .ref q_103, .int (nI 0), .ref q_127, .ref q_153, .ref q_181, .ref q_211, .ref q_243, .ref q_277, .int (nI 0), .ref q_313, .ref q_351, .int (nI 0), .ref q_391, .int (nI 0), .ref q_433])) := by rw [e_969]; exact ah_keep f_900 f_901 (by omega)
                  have f_971 : h_968 q_1 = some (21, .inl (G.2.2.1 0, 128, .inl (upd (plI k) k (-1)))) := by rw [e_969]; exact ah_up_s _ _ _
                  have f_972 : h_968 q_13 = some (22, .inl (G.2.2.1 0, 128, .inl (esI (k + 1)))) := by rw [e_969]; exact ah_keep f_918 f_901 (by omega)
                  have f_973 : h_968 q_27 = some (24, .inl (G.2.2.1 0, 3000, .inl (nA (fun _ => 0)))) := by rw [e_969]; exact ah_keep f_903 f_901 (by omega)
                  have f_974 : h_968 q_43 = some (27, .inl (G.2.2.1 0, 255, .inl (nA (fun _ => 0)))) := by rw [e_969]; exact ah_keep f_904 f_901 (by omega)
                  have f_975 : h_968 q_61 = some (28, .inl (G.2.2.1 0, 36210, .inl (nA (fun _ => 0)))) := by rw [e_969]; exact ah_keep f_905 f_901 (by omega)
                  have f_976 : h_968 q_81 = some (30, .inl (G.2.2.1 0, 200, .inl (nA (fun _ => 0)))) := by rw [e_969]; exact ah_keep f_906 f_901 (by omega)
                  have f_977 : h_968 q_103 = some (32, .inl (G.2.2.1 0, 40800, .inl (nA (fun _ => 0)))) := by rw [e_969]; exact ah_keep f_907 f_901 (by omega)
                  have f_978 : h_968 q_127 = some (34, .inl (G.2.2.1 0, 16, .inl (nA (fun _ => 0)))) := by rw [e_969]; exact ah_keep f_908 f_901 (by omega)
                  have f_979 : h_968 q_153 = some (35, .inl (G.2.2.1 0, 16, .inl (nA (fun _ => 0)))) := by rw [e_969]; exact ah_keep f_909 f_901 (by omega)
                  have f_980 : h_968 q_181 = some (36, .inl (G.2.2.1 0, 16, .inl (nA (fun _ => 0)))) := by rw [e_969]; exact ah_keep f_910 f_901 (by omega)
                  have f_981 : h_968 q_211 = some (37, .inl (G.2.2.1 0, 16, .inl (nA (fun _ => 0)))) := by rw [e_969]; exact ah_keep f_911 f_901 (by omega)
                  have f_982 : h_968 q_243 = some (38, .inl (G.2.2.1 0, 16, .inl (nA (fun _ => 0)))) := by rw [e_969]; exact ah_keep f_912 f_901 (by omega)
                  have f_983 : h_968 q_277 = some (39, .inl (G.2.2.1 0, 16, .inl (nA (fun _ => 0)))) := by rw [e_969]; exact ah_keep f_913 f_901 (by omega)
                  have f_984 : h_968 q_313 = some (41, .inl (G.2.2.1 0, 4080, .inl (nA (fun _ => 0)))) := by rw [e_969]; exact ah_keep f_914 f_901 (by omega)
                  have f_985 : h_968 q_351 = some (42, .inl (G.2.2.1 0, 652800, .inl (nA (fun _ => 0)))) := by rw [e_969]; exact ah_keep f_915 f_901 (by omega)
                  have f_986 : h_968 q_391 = some (44, .inl (G.2.2.1 0, 200, .inl (nA (fun _ => 0)))) := by rw [e_969]; exact ah_keep f_916 f_901 (by omega)
                  have f_987 : h_968 q_433 = some (46, .inl (G.2.2.1 0, 200, .inl (nA (fun _ => 0)))) := by rw [e_969]; exact ah_keep f_917 f_901 (by omega)
                  have f_988 : h_968 q_1 = some (21, .inl (G.2.2.1 0, 128, .inl (plI (k + 1)))) := by rw [← plI_s (v := (-1)) (if_neg (show ¬ ownP k by unfold ownP; omega)).symm]; exact f_971
                  refine lv_iinc (v := nI (k + 1)) (lv' := [(1, .int (nI (k + 1))), (2, .int (nI 0)), (0, .ref y)]) hx hb dX9_init_233 hl (k := 1) rfl (show nI k + Int32.ofInt 1 = nI (k + 1) from nI_add _ 1) (by decide) rfl (fun ls hl => ?_)
                  refine lv_goto (tgt := 150) hx hb dX9_init_236 (by decide) ?_
                  exact ih150  (k + 1) h_968 _ _ ls (by omega) (by omega) (ag1.tr (by rw [e_969]; refine agr.up ?_ f_901 (by omega); rw [e_899]; refine agr.up ?_ fqL (by omega); exact agr.rf)) f_970 f_988 f_972 f_973 f_974 f_975 f_976 f_977 f_978 f_979 f_980 f_981 f_982 f_983 f_984 f_985 f_986 f_987 hR hS (lv_sub hl [0, 2] rfl)
                · skip
                  exact absurd (by decide) c_967
              · skip
                have c_966 : ¬ (k < 97) := fun z9 => c_966 ((nI_ltI (by omega) (by omega)).mpr z9)
                refine lv_iload_n hx hb dX9_init_206 rfl (lv_at hl 0 rfl) ?_
                refine lv_bipush (v := nI 122) hx hb dX9_init_207 (by decide) ?_
                refine lv_icmp_gt (tgt := 216) hx hb dX9_init_209 (by decide) (fun c_989 => ?_) (fun c_989 => ?_)
                · skip
                  have c_989 : 122 < k := (nI_ltI (by omega) (by omega)).mp c_989
                  refine lv_iconst (v := nI 0) hx hb dX9_init_216 (by decide) ?_
                  refine lv_istore_n (lv' := [(2, .int (nI 0)), (1, .int (nI k)), (0, .ref y)]) hx hb dX9_init_217 rfl hl (by decide) rfl (fun ls hl => ?_)
                  refine lv_aload_n hx hb dX9_init_218 rfl (lv_at hl 2 rfl) ?_
                  refine ah_get (ci := 8) (v := .ref q_1) (C := RX9) (T := TX9) (N := 27) hx hb hE hR hts hinX9 hown f_900 rfl 1 (by decide) k7 (fun _ h9 => h9) rfl dX9_init_219 ?_
                  refine lv_iload_n hx hb dX9_init_222 rfl (lv_at hl 1 rfl) ?_
                  refine lv_iload_n hx hb dX9_init_223 rfl (lv_at hl 0 rfl) ?_
                  refine lv_if_eq (tgt := 231) hx hb dX9_init_224 (by decide) (fun c_990 => ?_) (fun c_990 => ?_)
                  · skip
                    refine lv_iconst (v := (-1)) hx hb dX9_init_231 (by decide) ?_
                    refine ah_iast (i := k) hx hb hE hR hS f_901 (by omega) (by omega) dX9_init_232 (fun H locs hR hS => ?_)
                    obtain ⟨h_991, e_992⟩ : ∃ zz9, zz9 = ah_up h_898 q_1 (21, .inl (G.2.2.1 0, 128, .inl (upd (plI k) k (-1)))) := ⟨_, rfl⟩
                    have hR : ah_R G h_991 H := by rw [e_992]; exact hR
                    have f_993 : h_991 y = some (20, .inr (8, [.int (nI 0), .ref q_1, .ref q_13, .int (nI 0), .ref q_27, .int (nI 0), .int (nI 0), .ref q_43, .ref q_61, .int (nI 0), .ref q_81, .int (nI 0), .ref q_103, .int (nI 0), .ref q_127, .ref q_153, .ref q_181, .ref q_211, .ref q_243, .ref q_277, .int (nI 0), .ref q_313, .ref q_351, .int (nI 0), .ref q_391, .int (nI 0), .ref q_433])) := by rw [e_992]; exact ah_keep f_900 f_901 (by omega)
                    have f_994 : h_991 q_1 = some (21, .inl (G.2.2.1 0, 128, .inl (upd (plI k) k (-1)))) := by rw [e_992]; exact ah_up_s _ _ _
                    have f_995 : h_991 q_13 = some (22, .inl (G.2.2.1 0, 128, .inl (esI (k + 1)))) := by rw [e_992]; exact ah_keep f_918 f_901 (by omega)
                    have f_996 : h_991 q_27 = some (24, .inl (G.2.2.1 0, 3000, .inl (nA (fun _ => 0)))) := by rw [e_992]; exact ah_keep f_903 f_901 (by omega)
                    have f_997 : h_991 q_43 = some (27, .inl (G.2.2.1 0, 255, .inl (nA (fun _ => 0)))) := by rw [e_992]; exact ah_keep f_904 f_901 (by omega)
                    have f_998 : h_991 q_61 = some (28, .inl (G.2.2.1 0, 36210, .inl (nA (fun _ => 0)))) := by rw [e_992]; exact ah_keep f_905 f_901 (by omega)
                    have f_999 : h_991 q_81 = some (30, .inl (G.2.2.1 0, 200, .inl (nA (fun _ => 0)))) := by rw [e_992]; exact ah_keep f_906 f_901 (by omega)
                    have f_1000 : h_991 q_103 = some (32, .inl (G.2.2.1 0, 40800, .inl (nA (fun _ => 0)))) := by rw [e_992]; exact ah_keep f_907 f_901 (by omega)
                    have f_1001 : h_991 q_127 = some (34, .inl (G.2.2.1 0, 16, .inl (nA (fun _ => 0)))) := by rw [e_992]; exact ah_keep f_908 f_901 (by omega)
                    have f_1002 : h_991 q_153 = some (35, .inl (G.2.2.1 0, 16, .inl (nA (fun _ => 0)))) := by rw [e_992]; exact ah_keep f_909 f_901 (by omega)
                    have f_1003 : h_991 q_181 = some (36, .inl (G.2.2.1 0, 16, .inl (nA (fun _ => 0)))) := by rw [e_992]; exact ah_keep f_910 f_901 (by omega)
                    have f_1004 : h_991 q_211 = some (37, .inl (G.2.2.1 0, 16, .inl (nA (fun _ => 0)))) := by rw [e_992]; exact ah_keep f_911 f_901 (by omega)
                    have f_1005 : h_991 q_243 = some (38, .inl (G.2.2.1 0, 16, .inl (nA (fun _ => 0)))) := by rw [e_992]; exact ah_keep f_912 f_901 (by omega)
                    have f_1006 : h_991 q_277 = some (39, .inl (G.2.2.1 0, 16, .inl (nA (fun _ => 0)))) := by rw [e_992]; exact ah_keep f_913 f_901 (by omega)
                    have f_1007 : h_991 q_313 = some (41, .inl (G.2.2.1 0, 4080, .inl (nA (fun _ => 0)))) := by rw [e_992]; exact ah_keep f_914 f_901 (by omega)
                    have f_1008 : h_991 q_351 = some (42, .inl (G.2.2.1 0, 652800, .inl (nA (fun _ => 0)))) := by rw [e_992]; exact ah_keep f_915 f_901 (by omega)
                    have f_1009 : h_991 q_391 = some (44, .inl (G.2.2.1 0, 200, .inl (nA (fun _ => 0)))) := by rw [e_992]; exact ah_keep f_916 f_901 (by omega)
                    have f_1010 : h_991 q_433 = some (46, .inl (G.2.2.1 0, 200, .inl (nA (fun _ => 0)))) := by rw [e_992]; exact ah_keep f_917 f_901 (by omega)
                    have f_1011 : h_991 q_1 = some (21, .inl (G.2.2.1 0, 128, .inl (plI (k + 1)))) := by rw [← plI_s (v := (-1)) (if_neg (show ¬ ownP k by unfold ownP; omega)).symm]; exact f_994
                    refine lv_iinc (v := nI (k + 1)) (lv' := [(1, .int (nI (k + 1))), (2, .int (nI 0)), (0, .ref y)]) hx hb dX9_init_233 hl (k := 1) rfl (show nI k + Int32.ofInt 1 = nI (k + 1) from nI_add _ 1) (by decide) rfl (fun ls hl => ?_)
                    refine lv_goto (tgt := 150) hx hb dX9_init_236 (by decide) ?_
                    exact ih150  (k + 1) h_991 _ _ ls (by omega) (by omega) (ag1.tr (by rw [e_992]; refine agr.up ?_ f_901 (by omega); rw [e_899]; refine agr.up ?_ fqL (by omega); exact agr.rf)) f_993 f_1011 f_995 f_996 f_997 f_998 f_999 f_1000 f_1001 f_1002 f_1003 f_1004 f_1005 f_1006 f_1007 f_1008 f_1009 f_1010 hR hS (lv_sub hl [0, 2] rfl)
                  · skip
                    exact absurd (by decide) c_990
                · skip
                  have c_989 : ¬ (122 < k) := fun z9 => c_989 ((nI_ltI (by omega) (by omega)).mpr z9)
                  refine lv_iconst (v := nI 1) hx hb dX9_init_212 (by decide) ?_
                  refine lv_goto (tgt := 217) hx hb dX9_init_213 (by decide) ?_
                  refine lv_istore_n (lv' := [(2, .int (nI 1)), (1, .int (nI k)), (0, .ref y)]) hx hb dX9_init_217 rfl hl (by decide) rfl (fun ls hl => ?_)
                  refine lv_aload_n hx hb dX9_init_218 rfl (lv_at hl 2 rfl) ?_
                  refine ah_get (ci := 8) (v := .ref q_1) (C := RX9) (T := TX9) (N := 27) hx hb hE hR hts hinX9 hown f_900 rfl 1 (by decide) k7 (fun _ h9 => h9) rfl dX9_init_219 ?_
                  refine lv_iload_n hx hb dX9_init_222 rfl (lv_at hl 1 rfl) ?_
                  refine lv_iload_n hx hb dX9_init_223 rfl (lv_at hl 0 rfl) ?_
                  refine lv_if_eq (tgt := 231) hx hb dX9_init_224 (by decide) (fun c_1012 => ?_) (fun c_1012 => ?_)
                  · skip
                    exact absurd c_1012 (by decide)
                  · skip
                    refine lv_iload_n hx hb dX9_init_227 rfl (lv_at hl 1 rfl) ?_
                    refine lv_goto (tgt := 232) hx hb dX9_init_228 (by decide) ?_
                    refine ah_iast (i := k) hx hb hE hR hS f_901 (by omega) (by omega) dX9_init_232 (fun H locs hR hS => ?_)
                    obtain ⟨h_1013, e_1014⟩ : ∃ zz9, zz9 = ah_up h_898 q_1 (21, .inl (G.2.2.1 0, 128, .inl (upd (plI k) k (nI k)))) := ⟨_, rfl⟩
                    have hR : ah_R G h_1013 H := by rw [e_1014]; exact hR
                    have f_1015 : h_1013 y = some (20, .inr (8, [.int (nI 0), .ref q_1, .ref q_13, .int (nI 0), .ref q_27, .int (nI 0), .int (nI 0), .ref q_43, .ref q_61, .int (nI 0), .ref q_81, .int (nI 0), .ref q_103, .int (nI 0), .ref q_127, .ref q_153, .ref q_181, .ref q_211, .ref q_243, .ref q_277, .int (nI 0), .ref q_313, .ref q_351, .int (nI 0), .ref q_391, .int (nI 0), .ref q_433])) := by rw [e_1014]; exact ah_keep f_900 f_901 (by omega)
                    have f_1016 : h_1013 q_1 = some (21, .inl (G.2.2.1 0, 128, .inl (upd (plI k) k (nI k)))) := by rw [e_1014]; exact ah_up_s _ _ _
                    have f_1017 : h_1013 q_13 = some (22, .inl (G.2.2.1 0, 128, .inl (esI (k + 1)))) := by rw [e_1014]; exact ah_keep f_918 f_901 (by omega)
                    have f_1018 : h_1013 q_27 = some (24, .inl (G.2.2.1 0, 3000, .inl (nA (fun _ => 0)))) := by rw [e_1014]; exact ah_keep f_903 f_901 (by omega)
                    have f_1019 : h_1013 q_43 = some (27, .inl (G.2.2.1 0, 255, .inl (nA (fun _ => 0)))) := by rw [e_1014]; exact ah_keep f_904 f_901 (by omega)
                    have f_1020 : h_1013 q_61 = some (28, .inl (G.2.2.1 0, 36210, .inl (nA (fun _ => 0)))) := by rw [e_1014]; exact ah_keep f_905 f_901 (by omega)
                    have f_1021 : h_1013 q_81 = some (30, .inl (G.2.2.1 0, 200, .inl (nA (fun _ => 0)))) := by rw [e_1014]; exact ah_keep f_906 f_901 (by omega)
                    have f_1022 : h_1013 q_103 = some (32, .inl (G.2.2.1 0, 40800, .inl (nA (fun _ => 0)))) := by rw [e_1014]; exact ah_keep f_907 f_901 (by omega)
                    have f_1023 : h_1013 q_127 = some (34, .inl (G.2.2.1 0, 16, .inl (nA (fun _ => 0)))) := by rw [e_1014]; exact ah_keep f_908 f_901 (by omega)
                    have f_1024 : h_1013 q_153 = some (35, .inl (G.2.2.1 0, 16, .inl (nA (fun _ => 0)))) := by rw [e_1014]; exact ah_keep f_909 f_901 (by omega)
                    have f_1025 : h_1013 q_181 = some (36, .inl (G.2.2.1 0, 16, .inl (nA (fun _ => 0)))) := by rw [e_1014]; exact ah_keep f_910 f_901 (by omega)
                    have f_1026 : h_1013 q_211 = some (37, .inl (G.2.2.1 0, 16, .inl (nA (fun _ => 0)))) := by rw [e_1014]; exact ah_keep f_911 f_901 (by omega)
                    have f_1027 : h_1013 q_243 = some (38, .inl (G.2.2.1 0, 16, .inl (nA (fun _ => 0)))) := by rw [e_1014]; exact ah_keep f_912 f_901 (by omega)
                    have f_1028 : h_1013 q_277 = some (39, .inl (G.2.2.1 0, 16, .inl (nA (fun _ => 0)))) := by rw [e_1014]; exact ah_keep f_913 f_901 (by omega)
                    have f_1029 : h_1013 q_313 = some (41, .inl (G.2.2.1 0, 4080, .inl (nA (fun _ => 0)))) := by rw [e_1014]; exact ah_keep f_914 f_901 (by omega)
                    have f_1030 : h_1013 q_351 = some (42, .inl (G.2.2.1 0, 652800, .inl (nA (fun _ => 0)))) := by rw [e_1014]; exact ah_keep f_915 f_901 (by omega)
                    have f_1031 : h_1013 q_391 = some (44, .inl (G.2.2.1 0, 200, .inl (nA (fun _ => 0)))) := by rw [e_1014]; exact ah_keep f_916 f_901 (by omega)
                    have f_1032 : h_1013 q_433 = some (46, .inl (G.2.2.1 0, 200, .inl (nA (fun _ => 0)))) := by rw [e_1014]; exact ah_keep f_917 f_901 (by omega)
                    have f_1033 : h_1013 q_1 = some (21, .inl (G.2.2.1 0, 128, .inl (plI (k + 1)))) := by rw [← plI_s (v := nI k) (if_pos (show ownP k by unfold ownP; omega)).symm]; exact f_1016
                    refine lv_iinc (v := nI (k + 1)) (lv' := [(1, .int (nI (k + 1))), (2, .int (nI 1)), (0, .ref y)]) hx hb dX9_init_233 hl (k := 1) rfl (show nI k + Int32.ofInt 1 = nI (k + 1) from nI_add _ 1) (by decide) rfl (fun ls hl => ?_)
                    refine lv_goto (tgt := 150) hx hb dX9_init_236 (by decide) ?_
                    exact ih150  (k + 1) h_1013 _ _ ls (by omega) (by omega) (ag1.tr (by rw [e_1014]; refine agr.up ?_ f_901 (by omega); rw [e_899]; refine agr.up ?_ fqL (by omega); exact agr.rf)) f_1015 f_1033 f_1017 f_1018 f_1019 f_1020 f_1021 f_1022 f_1023 f_1024 f_1025 f_1026 f_1027 f_1028 f_1029 f_1030 f_1031 f_1032 hR hS (lv_sub hl [0, 2] rfl)
            · skip
              have c_965 : ¬ (k < 32) := fun z9 => c_965 ((nI_ltI (by omega) (by omega)).mpr z9)
              refine lv_iload_n hx hb dX9_init_182 rfl (lv_at hl 0 rfl) ?_
              refine lv_bipush (v := nI 90) hx hb dX9_init_183 (by decide) ?_
              refine lv_icmp_gt (tgt := 200) hx hb dX9_init_185 (by decide) (fun c_1034 => ?_) (fun c_1034 => ?_)
              · skip
                have c_1034 : 90 < k := (nI_ltI (by omega) (by omega)).mp c_1034
                refine lv_iload_n hx hb dX9_init_200 rfl (lv_at hl 0 rfl) ?_
                refine lv_bipush (v := nI 97) hx hb dX9_init_201 (by decide) ?_
                refine lv_icmp_lt (tgt := 216) hx hb dX9_init_203 (by decide) (fun c_1035 => ?_) (fun c_1035 => ?_)
                · skip
                  have c_1035 : k < 97 := (nI_ltI (by omega) (by omega)).mp c_1035
                  refine lv_iconst (v := nI 0) hx hb dX9_init_216 (by decide) ?_
                  refine lv_istore_n (lv' := [(2, .int (nI 0)), (1, .int (nI k)), (0, .ref y)]) hx hb dX9_init_217 rfl hl (by decide) rfl (fun ls hl => ?_)
                  refine lv_aload_n hx hb dX9_init_218 rfl (lv_at hl 2 rfl) ?_
                  refine ah_get (ci := 8) (v := .ref q_1) (C := RX9) (T := TX9) (N := 27) hx hb hE hR hts hinX9 hown f_900 rfl 1 (by decide) k7 (fun _ h9 => h9) rfl dX9_init_219 ?_
                  refine lv_iload_n hx hb dX9_init_222 rfl (lv_at hl 1 rfl) ?_
                  refine lv_iload_n hx hb dX9_init_223 rfl (lv_at hl 0 rfl) ?_
                  refine lv_if_eq (tgt := 231) hx hb dX9_init_224 (by decide) (fun c_1036 => ?_) (fun c_1036 => ?_)
                  · skip
                    refine lv_iconst (v := (-1)) hx hb dX9_init_231 (by decide) ?_
                    refine ah_iast (i := k) hx hb hE hR hS f_901 (by omega) (by omega) dX9_init_232 (fun H locs hR hS => ?_)
                    obtain ⟨h_1037, e_1038⟩ : ∃ zz9, zz9 = ah_up h_898 q_1 (21, .inl (G.2.2.1 0, 128, .inl (upd (plI k) k (-1)))) := ⟨_, rfl⟩
                    have hR : ah_R G h_1037 H := by rw [e_1038]; exact hR
                    have f_1039 : h_1037 y = some (20, .inr (8, [.int (nI 0), .ref q_1, .ref q_13, .int (nI 0), .ref q_27, .int (nI 0), .int (nI 0), .ref q_43, .ref q_61, .int (nI 0), .ref q_81, .int (nI 0), .ref q_103, .int (nI 0), .ref q_127, .ref q_153, .ref q_181, .ref q_211, .ref q_243, .ref q_277, .int (nI 0), .ref q_313, .ref q_351, .int (nI 0), .ref q_391, .int (nI 0), .ref q_433])) := by rw [e_1038]; exact ah_keep f_900 f_901 (by omega)
                    have f_1040 : h_1037 q_1 = some (21, .inl (G.2.2.1 0, 128, .inl (upd (plI k) k (-1)))) := by rw [e_1038]; exact ah_up_s _ _ _
                    have f_1041 : h_1037 q_13 = some (22, .inl (G.2.2.1 0, 128, .inl (esI (k + 1)))) := by rw [e_1038]; exact ah_keep f_918 f_901 (by omega)
                    have f_1042 : h_1037 q_27 = some (24, .inl (G.2.2.1 0, 3000, .inl (nA (fun _ => 0)))) := by rw [e_1038]; exact ah_keep f_903 f_901 (by omega)
                    have f_1043 : h_1037 q_43 = some (27, .inl (G.2.2.1 0, 255, .inl (nA (fun _ => 0)))) := by rw [e_1038]; exact ah_keep f_904 f_901 (by omega)
                    have f_1044 : h_1037 q_61 = some (28, .inl (G.2.2.1 0, 36210, .inl (nA (fun _ => 0)))) := by rw [e_1038]; exact ah_keep f_905 f_901 (by omega)
                    have f_1045 : h_1037 q_81 = some (30, .inl (G.2.2.1 0, 200, .inl (nA (fun _ => 0)))) := by rw [e_1038]; exact ah_keep f_906 f_901 (by omega)
                    have f_1046 : h_1037 q_103 = some (32, .inl (G.2.2.1 0, 40800, .inl (nA (fun _ => 0)))) := by rw [e_1038]; exact ah_keep f_907 f_901 (by omega)
                    have f_1047 : h_1037 q_127 = some (34, .inl (G.2.2.1 0, 16, .inl (nA (fun _ => 0)))) := by rw [e_1038]; exact ah_keep f_908 f_901 (by omega)
                    have f_1048 : h_1037 q_153 = some (35, .inl (G.2.2.1 0, 16, .inl (nA (fun _ => 0)))) := by rw [e_1038]; exact ah_keep f_909 f_901 (by omega)
                    have f_1049 : h_1037 q_181 = some (36, .inl (G.2.2.1 0, 16, .inl (nA (fun _ => 0)))) := by rw [e_1038]; exact ah_keep f_910 f_901 (by omega)
                    have f_1050 : h_1037 q_211 = some (37, .inl (G.2.2.1 0, 16, .inl (nA (fun _ => 0)))) := by rw [e_1038]; exact ah_keep f_911 f_901 (by omega)
                    have f_1051 : h_1037 q_243 = some (38, .inl (G.2.2.1 0, 16, .inl (nA (fun _ => 0)))) := by rw [e_1038]; exact ah_keep f_912 f_901 (by omega)
                    have f_1052 : h_1037 q_277 = some (39, .inl (G.2.2.1 0, 16, .inl (nA (fun _ => 0)))) := by rw [e_1038]; exact ah_keep f_913 f_901 (by omega)
                    have f_1053 : h_1037 q_313 = some (41, .inl (G.2.2.1 0, 4080, .inl (nA (fun _ => 0)))) := by rw [e_1038]; exact ah_keep f_914 f_901 (by omega)
                    have f_1054 : h_1037 q_351 = some (42, .inl (G.2.2.1 0, 652800, .inl (nA (fun _ => 0)))) := by rw [e_1038]; exact ah_keep f_915 f_901 (by omega)
                    have f_1055 : h_1037 q_391 = some (44, .inl (G.2.2.1 0, 200, .inl (nA (fun _ => 0)))) := by rw [e_1038]; exact ah_keep f_916 f_901 (by omega)
                    have f_1056 : h_1037 q_433 = some (46, .inl (G.2.2.1 0, 200, .inl (nA (fun _ => 0)))) := by rw [e_1038]; exact ah_keep f_917 f_901 (by omega)
                    have f_1057 : h_1037 q_1 = some (21, .inl (G.2.2.1 0, 128, .inl (plI (k + 1)))) := by rw [← plI_s (v := (-1)) (if_neg (show ¬ ownP k by unfold ownP; omega)).symm]; exact f_1040
                    refine lv_iinc (v := nI (k + 1)) (lv' := [(1, .int (nI (k + 1))), (2, .int (nI 0)), (0, .ref y)]) hx hb dX9_init_233 hl (k := 1) rfl (show nI k + Int32.ofInt 1 = nI (k + 1) from nI_add _ 1) (by decide) rfl (fun ls hl => ?_)
                    refine lv_goto (tgt := 150) hx hb dX9_init_236 (by decide) ?_
                    exact ih150  (k + 1) h_1037 _ _ ls (by omega) (by omega) (ag1.tr (by rw [e_1038]; refine agr.up ?_ f_901 (by omega); rw [e_899]; refine agr.up ?_ fqL (by omega); exact agr.rf)) f_1039 f_1057 f_1041 f_1042 f_1043 f_1044 f_1045 f_1046 f_1047 f_1048 f_1049 f_1050 f_1051 f_1052 f_1053 f_1054 f_1055 f_1056 hR hS (lv_sub hl [0, 2] rfl)
                  · skip
                    exact absurd (by decide) c_1036
                · skip
                  have c_1035 : ¬ (k < 97) := fun z9 => c_1035 ((nI_ltI (by omega) (by omega)).mpr z9)
                  refine lv_iload_n hx hb dX9_init_206 rfl (lv_at hl 0 rfl) ?_
                  refine lv_bipush (v := nI 122) hx hb dX9_init_207 (by decide) ?_
                  refine lv_icmp_gt (tgt := 216) hx hb dX9_init_209 (by decide) (fun c_1058 => ?_) (fun c_1058 => ?_)
                  · skip
                    have c_1058 : 122 < k := (nI_ltI (by omega) (by omega)).mp c_1058
                    refine lv_iconst (v := nI 0) hx hb dX9_init_216 (by decide) ?_
                    refine lv_istore_n (lv' := [(2, .int (nI 0)), (1, .int (nI k)), (0, .ref y)]) hx hb dX9_init_217 rfl hl (by decide) rfl (fun ls hl => ?_)
                    refine lv_aload_n hx hb dX9_init_218 rfl (lv_at hl 2 rfl) ?_
                    refine ah_get (ci := 8) (v := .ref q_1) (C := RX9) (T := TX9) (N := 27) hx hb hE hR hts hinX9 hown f_900 rfl 1 (by decide) k7 (fun _ h9 => h9) rfl dX9_init_219 ?_
                    refine lv_iload_n hx hb dX9_init_222 rfl (lv_at hl 1 rfl) ?_
                    refine lv_iload_n hx hb dX9_init_223 rfl (lv_at hl 0 rfl) ?_
                    refine lv_if_eq (tgt := 231) hx hb dX9_init_224 (by decide) (fun c_1059 => ?_) (fun c_1059 => ?_)
                    · skip
                      refine lv_iconst (v := (-1)) hx hb dX9_init_231 (by decide) ?_
                      refine ah_iast (i := k) hx hb hE hR hS f_901 (by omega) (by omega) dX9_init_232 (fun H locs hR hS => ?_)
                      obtain ⟨h_1060, e_1061⟩ : ∃ zz9, zz9 = ah_up h_898 q_1 (21, .inl (G.2.2.1 0, 128, .inl (upd (plI k) k (-1)))) := ⟨_, rfl⟩
                      have hR : ah_R G h_1060 H := by rw [e_1061]; exact hR
                      have f_1062 : h_1060 y = some (20, .inr (8, [.int (nI 0), .ref q_1, .ref q_13, .int (nI 0), .ref q_27, .int (nI 0), .int (nI 0), .ref q_43, .ref q_61, .int (nI 0), .ref q_81, .int (nI 0), .ref q_103, .int (nI 0), .ref q_127, .ref q_153, .ref q_181, .ref q_211, .ref q_243, .ref q_277, .int (nI 0), .ref q_313, .ref q_351, .int (nI 0), .ref q_391, .int (nI 0), .ref q_433])) := by rw [e_1061]; exact ah_keep f_900 f_901 (by omega)
                      have f_1063 : h_1060 q_1 = some (21, .inl (G.2.2.1 0, 128, .inl (upd (plI k) k (-1)))) := by rw [e_1061]; exact ah_up_s _ _ _
                      have f_1064 : h_1060 q_13 = some (22, .inl (G.2.2.1 0, 128, .inl (esI (k + 1)))) := by rw [e_1061]; exact ah_keep f_918 f_901 (by omega)
                      have f_1065 : h_1060 q_27 = some (24, .inl (G.2.2.1 0, 3000, .inl (nA (fun _ => 0)))) := by rw [e_1061]; exact ah_keep f_903 f_901 (by omega)
                      have f_1066 : h_1060 q_43 = some (27, .inl (G.2.2.1 0, 255, .inl (nA (fun _ => 0)))) := by rw [e_1061]; exact ah_keep f_904 f_901 (by omega)
                      have f_1067 : h_1060 q_61 = some (28, .inl (G.2.2.1 0, 36210, .inl (nA (fun _ => 0)))) := by rw [e_1061]; exact ah_keep f_905 f_901 (by omega)
                      have f_1068 : h_1060 q_81 = some (30, .inl (G.2.2.1 0, 200, .inl (nA (fun _ => 0)))) := by rw [e_1061]; exact ah_keep f_906 f_901 (by omega)
                      have f_1069 : h_1060 q_103 = some (32, .inl (G.2.2.1 0, 40800, .inl (nA (fun _ => 0)))) := by rw [e_1061]; exact ah_keep f_907 f_901 (by omega)
                      have f_1070 : h_1060 q_127 = some (34, .inl (G.2.2.1 0, 16, .inl (nA (fun _ => 0)))) := by rw [e_1061]; exact ah_keep f_908 f_901 (by omega)
                      have f_1071 : h_1060 q_153 = some (35, .inl (G.2.2.1 0, 16, .inl (nA (fun _ => 0)))) := by rw [e_1061]; exact ah_keep f_909 f_901 (by omega)
                      have f_1072 : h_1060 q_181 = some (36, .inl (G.2.2.1 0, 16, .inl (nA (fun _ => 0)))) := by rw [e_1061]; exact ah_keep f_910 f_901 (by omega)
                      have f_1073 : h_1060 q_211 = some (37, .inl (G.2.2.1 0, 16, .inl (nA (fun _ => 0)))) := by rw [e_1061]; exact ah_keep f_911 f_901 (by omega)
                      have f_1074 : h_1060 q_243 = some (38, .inl (G.2.2.1 0, 16, .inl (nA (fun _ => 0)))) := by rw [e_1061]; exact ah_keep f_912 f_901 (by omega)
                      have f_1075 : h_1060 q_277 = some (39, .inl (G.2.2.1 0, 16, .inl (nA (fun _ => 0)))) := by rw [e_1061]; exact ah_keep f_913 f_901 (by omega)
                      have f_1076 : h_1060 q_313 = some (41, .inl (G.2.2.1 0, 4080, .inl (nA (fun _ => 0)))) := by rw [e_1061]; exact ah_keep f_914 f_901 (by omega)
                      have f_1077 : h_1060 q_351 = some (42, .inl (G.2.2.1 0, 652800, .inl (nA (fun _ => 0)))) := by rw [e_1061]; exact ah_keep f_915 f_901 (by omega)
                      have f_1078 : h_1060 q_391 = some (44, .inl (G.2.2.1 0, 200, .inl (nA (fun _ => 0)))) := by rw [e_1061]; exact ah_keep f_916 f_901 (by omega)
                      have f_1079 : h_1060 q_433 = some (46, .inl (G.2.2.1 0, 200, .inl (nA (fun _ => 0)))) := by rw [e_1061]; exact ah_keep f_917 f_901 (by omega)
                      have f_1080 : h_1060 q_1 = some (21, .inl (G.2.2.1 0, 128, .inl (plI (k + 1)))) := by rw [← plI_s (v := (-1)) (if_neg (show ¬ ownP k by unfold ownP; omega)).symm]; exact f_1063
                      refine lv_iinc (v := nI (k + 1)) (lv' := [(1, .int (nI (k + 1))), (2, .int (nI 0)), (0, .ref y)]) hx hb dX9_init_233 hl (k := 1) rfl (show nI k + Int32.ofInt 1 = nI (k + 1) from nI_add _ 1) (by decide) rfl (fun ls hl => ?_)
                      refine lv_goto (tgt := 150) hx hb dX9_init_236 (by decide) ?_
                      exact ih150  (k + 1) h_1060 _ _ ls (by omega) (by omega) (ag1.tr (by rw [e_1061]; refine agr.up ?_ f_901 (by omega); rw [e_899]; refine agr.up ?_ fqL (by omega); exact agr.rf)) f_1062 f_1080 f_1064 f_1065 f_1066 f_1067 f_1068 f_1069 f_1070 f_1071 f_1072 f_1073 f_1074 f_1075 f_1076 f_1077 f_1078 f_1079 hR hS (lv_sub hl [0, 2] rfl)
                    · skip
                      exact absurd (by decide) c_1059
                  · skip
                    have c_1058 : ¬ (122 < k) := fun z9 => c_1058 ((nI_ltI (by omega) (by omega)).mpr z9)
                    refine lv_iconst (v := nI 1) hx hb dX9_init_212 (by decide) ?_
                    refine lv_goto (tgt := 217) hx hb dX9_init_213 (by decide) ?_
                    refine lv_istore_n (lv' := [(2, .int (nI 1)), (1, .int (nI k)), (0, .ref y)]) hx hb dX9_init_217 rfl hl (by decide) rfl (fun ls hl => ?_)
                    refine lv_aload_n hx hb dX9_init_218 rfl (lv_at hl 2 rfl) ?_
                    refine ah_get (ci := 8) (v := .ref q_1) (C := RX9) (T := TX9) (N := 27) hx hb hE hR hts hinX9 hown f_900 rfl 1 (by decide) k7 (fun _ h9 => h9) rfl dX9_init_219 ?_
                    refine lv_iload_n hx hb dX9_init_222 rfl (lv_at hl 1 rfl) ?_
                    refine lv_iload_n hx hb dX9_init_223 rfl (lv_at hl 0 rfl) ?_
                    refine lv_if_eq (tgt := 231) hx hb dX9_init_224 (by decide) (fun c_1081 => ?_) (fun c_1081 => ?_)
                    · skip
                      exact absurd c_1081 (by decide)
                    · skip
                      refine lv_iload_n hx hb dX9_init_227 rfl (lv_at hl 1 rfl) ?_
                      refine lv_goto (tgt := 232) hx hb dX9_init_228 (by decide) ?_
                      refine ah_iast (i := k) hx hb hE hR hS f_901 (by omega) (by omega) dX9_init_232 (fun H locs hR hS => ?_)
                      obtain ⟨h_1082, e_1083⟩ : ∃ zz9, zz9 = ah_up h_898 q_1 (21, .inl (G.2.2.1 0, 128, .inl (upd (plI k) k (nI k)))) := ⟨_, rfl⟩
                      have hR : ah_R G h_1082 H := by rw [e_1083]; exact hR
                      have f_1084 : h_1082 y = some (20, .inr (8, [.int (nI 0), .ref q_1, .ref q_13, .int (nI 0), .ref q_27, .int (nI 0), .int (nI 0), .ref q_43, .ref q_61, .int (nI 0), .ref q_81, .int (nI 0), .ref q_103, .int (nI 0), .ref q_127, .ref q_153, .ref q_181, .ref q_211, .ref q_243, .ref q_277, .int (nI 0), .ref q_313, .ref q_351, .int (nI 0), .ref q_391, .int (nI 0), .ref q_433])) := by rw [e_1083]; exact ah_keep f_900 f_901 (by omega)
                      have f_1085 : h_1082 q_1 = some (21, .inl (G.2.2.1 0, 128, .inl (upd (plI k) k (nI k)))) := by rw [e_1083]; exact ah_up_s _ _ _
                      have f_1086 : h_1082 q_13 = some (22, .inl (G.2.2.1 0, 128, .inl (esI (k + 1)))) := by rw [e_1083]; exact ah_keep f_918 f_901 (by omega)
                      have f_1087 : h_1082 q_27 = some (24, .inl (G.2.2.1 0, 3000, .inl (nA (fun _ => 0)))) := by rw [e_1083]; exact ah_keep f_903 f_901 (by omega)
                      have f_1088 : h_1082 q_43 = some (27, .inl (G.2.2.1 0, 255, .inl (nA (fun _ => 0)))) := by rw [e_1083]; exact ah_keep f_904 f_901 (by omega)
                      have f_1089 : h_1082 q_61 = some (28, .inl (G.2.2.1 0, 36210, .inl (nA (fun _ => 0)))) := by rw [e_1083]; exact ah_keep f_905 f_901 (by omega)
                      have f_1090 : h_1082 q_81 = some (30, .inl (G.2.2.1 0, 200, .inl (nA (fun _ => 0)))) := by rw [e_1083]; exact ah_keep f_906 f_901 (by omega)
                      have f_1091 : h_1082 q_103 = some (32, .inl (G.2.2.1 0, 40800, .inl (nA (fun _ => 0)))) := by rw [e_1083]; exact ah_keep f_907 f_901 (by omega)
                      have f_1092 : h_1082 q_127 = some (34, .inl (G.2.2.1 0, 16, .inl (nA (fun _ => 0)))) := by rw [e_1083]; exact ah_keep f_908 f_901 (by omega)
                      have f_1093 : h_1082 q_153 = some (35, .inl (G.2.2.1 0, 16, .inl (nA (fun _ => 0)))) := by rw [e_1083]; exact ah_keep f_909 f_901 (by omega)
                      have f_1094 : h_1082 q_181 = some (36, .inl (G.2.2.1 0, 16, .inl (nA (fun _ => 0)))) := by rw [e_1083]; exact ah_keep f_910 f_901 (by omega)
                      have f_1095 : h_1082 q_211 = some (37, .inl (G.2.2.1 0, 16, .inl (nA (fun _ => 0)))) := by rw [e_1083]; exact ah_keep f_911 f_901 (by omega)
                      have f_1096 : h_1082 q_243 = some (38, .inl (G.2.2.1 0, 16, .inl (nA (fun _ => 0)))) := by rw [e_1083]; exact ah_keep f_912 f_901 (by omega)
                      have f_1097 : h_1082 q_277 = some (39, .inl (G.2.2.1 0, 16, .inl (nA (fun _ => 0)))) := by rw [e_1083]; exact ah_keep f_913 f_901 (by omega)
                      have f_1098 : h_1082 q_313 = some (41, .inl (G.2.2.1 0, 4080, .inl (nA (fun _ => 0)))) := by rw [e_1083]; exact ah_keep f_914 f_901 (by omega)
                      have f_1099 : h_1082 q_351 = some (42, .inl (G.2.2.1 0, 652800, .inl (nA (fun _ => 0)))) := by rw [e_1083]; exact ah_keep f_915 f_901 (by omega)
                      have f_1100 : h_1082 q_391 = some (44, .inl (G.2.2.1 0, 200, .inl (nA (fun _ => 0)))) := by rw [e_1083]; exact ah_keep f_916 f_901 (by omega)
                      have f_1101 : h_1082 q_433 = some (46, .inl (G.2.2.1 0, 200, .inl (nA (fun _ => 0)))) := by rw [e_1083]; exact ah_keep f_917 f_901 (by omega)
                      have f_1102 : h_1082 q_1 = some (21, .inl (G.2.2.1 0, 128, .inl (plI (k + 1)))) := by rw [← plI_s (v := nI k) (if_pos (show ownP k by unfold ownP; omega)).symm]; exact f_1085
                      refine lv_iinc (v := nI (k + 1)) (lv' := [(1, .int (nI (k + 1))), (2, .int (nI 1)), (0, .ref y)]) hx hb dX9_init_233 hl (k := 1) rfl (show nI k + Int32.ofInt 1 = nI (k + 1) from nI_add _ 1) (by decide) rfl (fun ls hl => ?_)
                      refine lv_goto (tgt := 150) hx hb dX9_init_236 (by decide) ?_
                      exact ih150  (k + 1) h_1082 _ _ ls (by omega) (by omega) (ag1.tr (by rw [e_1083]; refine agr.up ?_ f_901 (by omega); rw [e_899]; refine agr.up ?_ fqL (by omega); exact agr.rf)) f_1084 f_1102 f_1086 f_1087 f_1088 f_1089 f_1090 f_1091 f_1092 f_1093 f_1094 f_1095 f_1096 f_1097 f_1098 f_1099 f_1100 f_1101 hR hS (lv_sub hl [0, 2] rfl)
              · skip
                have c_1034 : ¬ (90 < k) := fun z9 => c_1034 ((nI_ltI (by omega) (by omega)).mpr z9)
                refine lv_iload_n hx hb dX9_init_188 rfl (lv_at hl 0 rfl) ?_
                refine lv_bipush (v := nI 36) hx hb dX9_init_189 (by decide) ?_
                refine lv_icmp_eq (tgt := 200) hx hb dX9_init_191 (by decide) (fun c_1103 => ?_) (fun c_1103 => ?_)
                · skip
                  have c_1103 : k = 36 := (nI_eq (by omega) (by omega)).mp c_1103
                  refine lv_iload_n hx hb dX9_init_200 rfl (lv_at hl 0 rfl) ?_
                  refine lv_bipush (v := nI 97) hx hb dX9_init_201 (by decide) ?_
                  refine lv_icmp_lt (tgt := 216) hx hb dX9_init_203 (by decide) (fun c_1104 => ?_) (fun c_1104 => ?_)
                  · skip
                    have c_1104 : k < 97 := (nI_ltI (by omega) (by omega)).mp c_1104
                    refine lv_iconst (v := nI 0) hx hb dX9_init_216 (by decide) ?_
                    refine lv_istore_n (lv' := [(2, .int (nI 0)), (1, .int (nI k)), (0, .ref y)]) hx hb dX9_init_217 rfl hl (by decide) rfl (fun ls hl => ?_)
                    refine lv_aload_n hx hb dX9_init_218 rfl (lv_at hl 2 rfl) ?_
                    refine ah_get (ci := 8) (v := .ref q_1) (C := RX9) (T := TX9) (N := 27) hx hb hE hR hts hinX9 hown f_900 rfl 1 (by decide) k7 (fun _ h9 => h9) rfl dX9_init_219 ?_
                    refine lv_iload_n hx hb dX9_init_222 rfl (lv_at hl 1 rfl) ?_
                    refine lv_iload_n hx hb dX9_init_223 rfl (lv_at hl 0 rfl) ?_
                    refine lv_if_eq (tgt := 231) hx hb dX9_init_224 (by decide) (fun c_1105 => ?_) (fun c_1105 => ?_)
                    · skip
                      refine lv_iconst (v := (-1)) hx hb dX9_init_231 (by decide) ?_
                      refine ah_iast (i := k) hx hb hE hR hS f_901 (by omega) (by omega) dX9_init_232 (fun H locs hR hS => ?_)
                      obtain ⟨h_1106, e_1107⟩ : ∃ zz9, zz9 = ah_up h_898 q_1 (21, .inl (G.2.2.1 0, 128, .inl (upd (plI k) k (-1)))) := ⟨_, rfl⟩
                      have hR : ah_R G h_1106 H := by rw [e_1107]; exact hR
                      have f_1108 : h_1106 y = some (20, .inr (8, [.int (nI 0), .ref q_1, .ref q_13, .int (nI 0), .ref q_27, .int (nI 0), .int (nI 0), .ref q_43, .ref q_61, .int (nI 0), .ref q_81, .int (nI 0), .ref q_103, .int (nI 0), .ref q_127, .ref q_153, .ref q_181, .ref q_211, .ref q_243, .ref q_277, .int (nI 0), .ref q_313, .ref q_351, .int (nI 0), .ref q_391, .int (nI 0), .ref q_433])) := by rw [e_1107]; exact ah_keep f_900 f_901 (by omega)
                      have f_1109 : h_1106 q_1 = some (21, .inl (G.2.2.1 0, 128, .inl (upd (plI k) k (-1)))) := by rw [e_1107]; exact ah_up_s _ _ _
                      have f_1110 : h_1106 q_13 = some (22, .inl (G.2.2.1 0, 128, .inl (esI (k + 1)))) := by rw [e_1107]; exact ah_keep f_918 f_901 (by omega)
                      have f_1111 : h_1106 q_27 = some (24, .inl (G.2.2.1 0, 3000, .inl (nA (fun _ => 0)))) := by rw [e_1107]; exact ah_keep f_903 f_901 (by omega)
                      have f_1112 : h_1106 q_43 = some (27, .inl (G.2.2.1 0, 255, .inl (nA (fun _ => 0)))) := by rw [e_1107]; exact ah_keep f_904 f_901 (by omega)
                      have f_1113 : h_1106 q_61 = some (28, .inl (G.2.2.1 0, 36210, .inl (nA (fun _ => 0)))) := by rw [e_1107]; exact ah_keep f_905 f_901 (by omega)
                      have f_1114 : h_1106 q_81 = some (30, .inl (G.2.2.1 0, 200, .inl (nA (fun _ => 0)))) := by rw [e_1107]; exact ah_keep f_906 f_901 (by omega)
                      have f_1115 : h_1106 q_103 = some (32, .inl (G.2.2.1 0, 40800, .inl (nA (fun _ => 0)))) := by rw [e_1107]; exact ah_keep f_907 f_901 (by omega)
                      have f_1116 : h_1106 q_127 = some (34, .inl (G.2.2.1 0, 16, .inl (nA (fun _ => 0)))) := by rw [e_1107]; exact ah_keep f_908 f_901 (by omega)
                      have f_1117 : h_1106 q_153 = some (35, .inl (G.2.2.1 0, 16, .inl (nA (fun _ => 0)))) := by rw [e_1107]; exact ah_keep f_909 f_901 (by omega)
                      have f_1118 : h_1106 q_181 = some (36, .inl (G.2.2.1 0, 16, .inl (nA (fun _ => 0)))) := by rw [e_1107]; exact ah_keep f_910 f_901 (by omega)
                      have f_1119 : h_1106 q_211 = some (37, .inl (G.2.2.1 0, 16, .inl (nA (fun _ => 0)))) := by rw [e_1107]; exact ah_keep f_911 f_901 (by omega)
                      have f_1120 : h_1106 q_243 = some (38, .inl (G.2.2.1 0, 16, .inl (nA (fun _ => 0)))) := by rw [e_1107]; exact ah_keep f_912 f_901 (by omega)
                      have f_1121 : h_1106 q_277 = some (39, .inl (G.2.2.1 0, 16, .inl (nA (fun _ => 0)))) := by rw [e_1107]; exact ah_keep f_913 f_901 (by omega)
                      have f_1122 : h_1106 q_313 = some (41, .inl (G.2.2.1 0, 4080, .inl (nA (fun _ => 0)))) := by rw [e_1107]; exact ah_keep f_914 f_901 (by omega)
                      have f_1123 : h_1106 q_351 = some (42, .inl (G.2.2.1 0, 652800, .inl (nA (fun _ => 0)))) := by rw [e_1107]; exact ah_keep f_915 f_901 (by omega)
                      have f_1124 : h_1106 q_391 = some (44, .inl (G.2.2.1 0, 200, .inl (nA (fun _ => 0)))) := by rw [e_1107]; exact ah_keep f_916 f_901 (by omega)
                      have f_1125 : h_1106 q_433 = some (46, .inl (G.2.2.1 0, 200, .inl (nA (fun _ => 0)))) := by rw [e_1107]; exact ah_keep f_917 f_901 (by omega)
                      have f_1126 : h_1106 q_1 = some (21, .inl (G.2.2.1 0, 128, .inl (plI (k + 1)))) := by rw [← plI_s (v := (-1)) (if_neg (show ¬ ownP k by unfold ownP; omega)).symm]; exact f_1109
                      refine lv_iinc (v := nI (k + 1)) (lv' := [(1, .int (nI (k + 1))), (2, .int (nI 0)), (0, .ref y)]) hx hb dX9_init_233 hl (k := 1) rfl (show nI k + Int32.ofInt 1 = nI (k + 1) from nI_add _ 1) (by decide) rfl (fun ls hl => ?_)
                      refine lv_goto (tgt := 150) hx hb dX9_init_236 (by decide) ?_
                      exact ih150  (k + 1) h_1106 _ _ ls (by omega) (by omega) (ag1.tr (by rw [e_1107]; refine agr.up ?_ f_901 (by omega); rw [e_899]; refine agr.up ?_ fqL (by omega); exact agr.rf)) f_1108 f_1126 f_1110 f_1111 f_1112 f_1113 f_1114 f_1115 f_1116 f_1117 f_1118 f_1119 f_1120 f_1121 f_1122 f_1123 f_1124 f_1125 hR hS (lv_sub hl [0, 2] rfl)
                    · skip
                      exact absurd (by decide) c_1105
                  · skip
                    have c_1104 : ¬ (k < 97) := fun z9 => c_1104 ((nI_ltI (by omega) (by omega)).mpr z9)
                    refine lv_iload_n hx hb dX9_init_206 rfl (lv_at hl 0 rfl) ?_
                    refine lv_bipush (v := nI 122) hx hb dX9_init_207 (by decide) ?_
                    refine lv_icmp_gt (tgt := 216) hx hb dX9_init_209 (by decide) (fun c_1127 => ?_) (fun c_1127 => ?_)
                    · skip
                      have c_1127 : 122 < k := (nI_ltI (by omega) (by omega)).mp c_1127
                      refine lv_iconst (v := nI 0) hx hb dX9_init_216 (by decide) ?_
                      refine lv_istore_n (lv' := [(2, .int (nI 0)), (1, .int (nI k)), (0, .ref y)]) hx hb dX9_init_217 rfl hl (by decide) rfl (fun ls hl => ?_)
                      refine lv_aload_n hx hb dX9_init_218 rfl (lv_at hl 2 rfl) ?_
                      refine ah_get (ci := 8) (v := .ref q_1) (C := RX9) (T := TX9) (N := 27) hx hb hE hR hts hinX9 hown f_900 rfl 1 (by decide) k7 (fun _ h9 => h9) rfl dX9_init_219 ?_
                      refine lv_iload_n hx hb dX9_init_222 rfl (lv_at hl 1 rfl) ?_
                      refine lv_iload_n hx hb dX9_init_223 rfl (lv_at hl 0 rfl) ?_
                      refine lv_if_eq (tgt := 231) hx hb dX9_init_224 (by decide) (fun c_1128 => ?_) (fun c_1128 => ?_)
                      · skip
                        refine lv_iconst (v := (-1)) hx hb dX9_init_231 (by decide) ?_
                        refine ah_iast (i := k) hx hb hE hR hS f_901 (by omega) (by omega) dX9_init_232 (fun H locs hR hS => ?_)
                        obtain ⟨h_1129, e_1130⟩ : ∃ zz9, zz9 = ah_up h_898 q_1 (21, .inl (G.2.2.1 0, 128, .inl (upd (plI k) k (-1)))) := ⟨_, rfl⟩
                        have hR : ah_R G h_1129 H := by rw [e_1130]; exact hR
                        have f_1131 : h_1129 y = some (20, .inr (8, [.int (nI 0), .ref q_1, .ref q_13, .int (nI 0), .ref q_27, .int (nI 0), .int (nI 0), .ref q_43, .ref q_61, .int (nI 0), .ref q_81, .int (nI 0), .ref q_103, .int (nI 0), .ref q_127, .ref q_153, .ref q_181, .ref q_211, .ref q_243, .ref q_277, .int (nI 0), .ref q_313, .ref q_351, .int (nI 0), .ref q_391, .int (nI 0), .ref q_433])) := by rw [e_1130]; exact ah_keep f_900 f_901 (by omega)
                        have f_1132 : h_1129 q_1 = some (21, .inl (G.2.2.1 0, 128, .inl (upd (plI k) k (-1)))) := by rw [e_1130]; exact ah_up_s _ _ _
                        have f_1133 : h_1129 q_13 = some (22, .inl (G.2.2.1 0, 128, .inl (esI (k + 1)))) := by rw [e_1130]; exact ah_keep f_918 f_901 (by omega)
                        have f_1134 : h_1129 q_27 = some (24, .inl (G.2.2.1 0, 3000, .inl (nA (fun _ => 0)))) := by rw [e_1130]; exact ah_keep f_903 f_901 (by omega)
                        have f_1135 : h_1129 q_43 = some (27, .inl (G.2.2.1 0, 255, .inl (nA (fun _ => 0)))) := by rw [e_1130]; exact ah_keep f_904 f_901 (by omega)
                        have f_1136 : h_1129 q_61 = some (28, .inl (G.2.2.1 0, 36210, .inl (nA (fun _ => 0)))) := by rw [e_1130]; exact ah_keep f_905 f_901 (by omega)
                        have f_1137 : h_1129 q_81 = some (30, .inl (G.2.2.1 0, 200, .inl (nA (fun _ => 0)))) := by rw [e_1130]; exact ah_keep f_906 f_901 (by omega)
                        have f_1138 : h_1129 q_103 = some (32, .inl (G.2.2.1 0, 40800, .inl (nA (fun _ => 0)))) := by rw [e_1130]; exact ah_keep f_907 f_901 (by omega)
                        have f_1139 : h_1129 q_127 = some (34, .inl (G.2.2.1 0, 16, .inl (nA (fun _ => 0)))) := by rw [e_1130]; exact ah_keep f_908 f_901 (by omega)
                        have f_1140 : h_1129 q_153 = some (35, .inl (G.2.2.1 0, 16, .inl (nA (fun _ => 0)))) := by rw [e_1130]; exact ah_keep f_909 f_901 (by omega)
                        have f_1141 : h_1129 q_181 = some (36, .inl (G.2.2.1 0, 16, .inl (nA (fun _ => 0)))) := by rw [e_1130]; exact ah_keep f_910 f_901 (by omega)
                        have f_1142 : h_1129 q_211 = some (37, .inl (G.2.2.1 0, 16, .inl (nA (fun _ => 0)))) := by rw [e_1130]; exact ah_keep f_911 f_901 (by omega)
                        have f_1143 : h_1129 q_243 = some (38, .inl (G.2.2.1 0, 16, .inl (nA (fun _ => 0)))) := by rw [e_1130]; exact ah_keep f_912 f_901 (by omega)
                        have f_1144 : h_1129 q_277 = some (39, .inl (G.2.2.1 0, 16, .inl (nA (fun _ => 0)))) := by rw [e_1130]; exact ah_keep f_913 f_901 (by omega)
                        have f_1145 : h_1129 q_313 = some (41, .inl (G.2.2.1 0, 4080, .inl (nA (fun _ => 0)))) := by rw [e_1130]; exact ah_keep f_914 f_901 (by omega)
                        have f_1146 : h_1129 q_351 = some (42, .inl (G.2.2.1 0, 652800, .inl (nA (fun _ => 0)))) := by rw [e_1130]; exact ah_keep f_915 f_901 (by omega)
                        have f_1147 : h_1129 q_391 = some (44, .inl (G.2.2.1 0, 200, .inl (nA (fun _ => 0)))) := by rw [e_1130]; exact ah_keep f_916 f_901 (by omega)
                        have f_1148 : h_1129 q_433 = some (46, .inl (G.2.2.1 0, 200, .inl (nA (fun _ => 0)))) := by rw [e_1130]; exact ah_keep f_917 f_901 (by omega)
                        have f_1149 : h_1129 q_1 = some (21, .inl (G.2.2.1 0, 128, .inl (plI (k + 1)))) := by rw [← plI_s (v := (-1)) (if_neg (show ¬ ownP k by unfold ownP; omega)).symm]; exact f_1132
                        refine lv_iinc (v := nI (k + 1)) (lv' := [(1, .int (nI (k + 1))), (2, .int (nI 0)), (0, .ref y)]) hx hb dX9_init_233 hl (k := 1) rfl (show nI k + Int32.ofInt 1 = nI (k + 1) from nI_add _ 1) (by decide) rfl (fun ls hl => ?_)
                        refine lv_goto (tgt := 150) hx hb dX9_init_236 (by decide) ?_
                        exact ih150  (k + 1) h_1129 _ _ ls (by omega) (by omega) (ag1.tr (by rw [e_1130]; refine agr.up ?_ f_901 (by omega); rw [e_899]; refine agr.up ?_ fqL (by omega); exact agr.rf)) f_1131 f_1149 f_1133 f_1134 f_1135 f_1136 f_1137 f_1138 f_1139 f_1140 f_1141 f_1142 f_1143 f_1144 f_1145 f_1146 f_1147 f_1148 hR hS (lv_sub hl [0, 2] rfl)
                      · skip
                        exact absurd (by decide) c_1128
                    · skip
                      have c_1127 : ¬ (122 < k) := fun z9 => c_1127 ((nI_ltI (by omega) (by omega)).mpr z9)
                      refine lv_iconst (v := nI 1) hx hb dX9_init_212 (by decide) ?_
                      refine lv_goto (tgt := 217) hx hb dX9_init_213 (by decide) ?_
                      refine lv_istore_n (lv' := [(2, .int (nI 1)), (1, .int (nI k)), (0, .ref y)]) hx hb dX9_init_217 rfl hl (by decide) rfl (fun ls hl => ?_)
                      refine lv_aload_n hx hb dX9_init_218 rfl (lv_at hl 2 rfl) ?_
                      refine ah_get (ci := 8) (v := .ref q_1) (C := RX9) (T := TX9) (N := 27) hx hb hE hR hts hinX9 hown f_900 rfl 1 (by decide) k7 (fun _ h9 => h9) rfl dX9_init_219 ?_
                      refine lv_iload_n hx hb dX9_init_222 rfl (lv_at hl 1 rfl) ?_
                      refine lv_iload_n hx hb dX9_init_223 rfl (lv_at hl 0 rfl) ?_
                      refine lv_if_eq (tgt := 231) hx hb dX9_init_224 (by decide) (fun c_1150 => ?_) (fun c_1150 => ?_)
                      · skip
                        exact absurd c_1150 (by decide)
                      · skip
                        refine lv_iload_n hx hb dX9_init_227 rfl (lv_at hl 1 rfl) ?_
                        refine lv_goto (tgt := 232) hx hb dX9_init_228 (by decide) ?_
                        refine ah_iast (i := k) hx hb hE hR hS f_901 (by omega) (by omega) dX9_init_232 (fun H locs hR hS => ?_)
                        obtain ⟨h_1151, e_1152⟩ : ∃ zz9, zz9 = ah_up h_898 q_1 (21, .inl (G.2.2.1 0, 128, .inl (upd (plI k) k (nI k)))) := ⟨_, rfl⟩
                        have hR : ah_R G h_1151 H := by rw [e_1152]; exact hR
                        have f_1153 : h_1151 y = some (20, .inr (8, [.int (nI 0), .ref q_1, .ref q_13, .int (nI 0), .ref q_27, .int (nI 0), .int (nI 0), .ref q_43, .ref q_61, .int (nI 0), .ref q_81, .int (nI 0), .ref q_103, .int (nI 0), .ref q_127, .ref q_153, .ref q_181, .ref q_211, .ref q_243, .ref q_277, .int (nI 0), .ref q_313, .ref q_351, .int (nI 0), .ref q_391, .int (nI 0), .ref q_433])) := by rw [e_1152]; exact ah_keep f_900 f_901 (by omega)
                        have f_1154 : h_1151 q_1 = some (21, .inl (G.2.2.1 0, 128, .inl (upd (plI k) k (nI k)))) := by rw [e_1152]; exact ah_up_s _ _ _
                        have f_1155 : h_1151 q_13 = some (22, .inl (G.2.2.1 0, 128, .inl (esI (k + 1)))) := by rw [e_1152]; exact ah_keep f_918 f_901 (by omega)
                        have f_1156 : h_1151 q_27 = some (24, .inl (G.2.2.1 0, 3000, .inl (nA (fun _ => 0)))) := by rw [e_1152]; exact ah_keep f_903 f_901 (by omega)
                        have f_1157 : h_1151 q_43 = some (27, .inl (G.2.2.1 0, 255, .inl (nA (fun _ => 0)))) := by rw [e_1152]; exact ah_keep f_904 f_901 (by omega)
                        have f_1158 : h_1151 q_61 = some (28, .inl (G.2.2.1 0, 36210, .inl (nA (fun _ => 0)))) := by rw [e_1152]; exact ah_keep f_905 f_901 (by omega)
                        have f_1159 : h_1151 q_81 = some (30, .inl (G.2.2.1 0, 200, .inl (nA (fun _ => 0)))) := by rw [e_1152]; exact ah_keep f_906 f_901 (by omega)
                        have f_1160 : h_1151 q_103 = some (32, .inl (G.2.2.1 0, 40800, .inl (nA (fun _ => 0)))) := by rw [e_1152]; exact ah_keep f_907 f_901 (by omega)
                        have f_1161 : h_1151 q_127 = some (34, .inl (G.2.2.1 0, 16, .inl (nA (fun _ => 0)))) := by rw [e_1152]; exact ah_keep f_908 f_901 (by omega)
                        have f_1162 : h_1151 q_153 = some (35, .inl (G.2.2.1 0, 16, .inl (nA (fun _ => 0)))) := by rw [e_1152]; exact ah_keep f_909 f_901 (by omega)
                        have f_1163 : h_1151 q_181 = some (36, .inl (G.2.2.1 0, 16, .inl (nA (fun _ => 0)))) := by rw [e_1152]; exact ah_keep f_910 f_901 (by omega)
                        have f_1164 : h_1151 q_211 = some (37, .inl (G.2.2.1 0, 16, .inl (nA (fun _ => 0)))) := by rw [e_1152]; exact ah_keep f_911 f_901 (by omega)
                        have f_1165 : h_1151 q_243 = some (38, .inl (G.2.2.1 0, 16, .inl (nA (fun _ => 0)))) := by rw [e_1152]; exact ah_keep f_912 f_901 (by omega)
                        have f_1166 : h_1151 q_277 = some (39, .inl (G.2.2.1 0, 16, .inl (nA (fun _ => 0)))) := by rw [e_1152]; exact ah_keep f_913 f_901 (by omega)
                        have f_1167 : h_1151 q_313 = some (41, .inl (G.2.2.1 0, 4080, .inl (nA (fun _ => 0)))) := by rw [e_1152]; exact ah_keep f_914 f_901 (by omega)
                        have f_1168 : h_1151 q_351 = some (42, .inl (G.2.2.1 0, 652800, .inl (nA (fun _ => 0)))) := by rw [e_1152]; exact ah_keep f_915 f_901 (by omega)
                        have f_1169 : h_1151 q_391 = some (44, .inl (G.2.2.1 0, 200, .inl (nA (fun _ => 0)))) := by rw [e_1152]; exact ah_keep f_916 f_901 (by omega)
                        have f_1170 : h_1151 q_433 = some (46, .inl (G.2.2.1 0, 200, .inl (nA (fun _ => 0)))) := by rw [e_1152]; exact ah_keep f_917 f_901 (by omega)
                        have f_1171 : h_1151 q_1 = some (21, .inl (G.2.2.1 0, 128, .inl (plI (k + 1)))) := by rw [← plI_s (v := nI k) (if_pos (show ownP k by unfold ownP; omega)).symm]; exact f_1154
                        refine lv_iinc (v := nI (k + 1)) (lv' := [(1, .int (nI (k + 1))), (2, .int (nI 1)), (0, .ref y)]) hx hb dX9_init_233 hl (k := 1) rfl (show nI k + Int32.ofInt 1 = nI (k + 1) from nI_add _ 1) (by decide) rfl (fun ls hl => ?_)
                        refine lv_goto (tgt := 150) hx hb dX9_init_236 (by decide) ?_
                        exact ih150  (k + 1) h_1151 _ _ ls (by omega) (by omega) (ag1.tr (by rw [e_1152]; refine agr.up ?_ f_901 (by omega); rw [e_899]; refine agr.up ?_ fqL (by omega); exact agr.rf)) f_1153 f_1171 f_1155 f_1156 f_1157 f_1158 f_1159 f_1160 f_1161 f_1162 f_1163 f_1164 f_1165 f_1166 f_1167 f_1168 f_1169 f_1170 hR hS (lv_sub hl [0, 2] rfl)
                · skip
                  have c_1103 : ¬ (k = 36) := fun z9 => c_1103 ((nI_eq (by omega) (by omega)).mpr z9)
                  refine lv_iload_n hx hb dX9_init_194 rfl (lv_at hl 0 rfl) ?_
                  refine lv_bipush (v := nI 64) hx hb dX9_init_195 (by decide) ?_
                  refine lv_icmp_ne (tgt := 212) hx hb dX9_init_197 (by decide) (fun c_1172 => ?_) (fun c_1172 => ?_)
                  · skip
                    have c_1172 : ¬ (k = 64) := fun z9 => c_1172 ((nI_eq (by omega) (by omega)).mpr z9)
                    refine lv_iconst (v := nI 1) hx hb dX9_init_212 (by decide) ?_
                    refine lv_goto (tgt := 217) hx hb dX9_init_213 (by decide) ?_
                    refine lv_istore_n (lv' := [(2, .int (nI 1)), (1, .int (nI k)), (0, .ref y)]) hx hb dX9_init_217 rfl hl (by decide) rfl (fun ls hl => ?_)
                    refine lv_aload_n hx hb dX9_init_218 rfl (lv_at hl 2 rfl) ?_
                    refine ah_get (ci := 8) (v := .ref q_1) (C := RX9) (T := TX9) (N := 27) hx hb hE hR hts hinX9 hown f_900 rfl 1 (by decide) k7 (fun _ h9 => h9) rfl dX9_init_219 ?_
                    refine lv_iload_n hx hb dX9_init_222 rfl (lv_at hl 1 rfl) ?_
                    refine lv_iload_n hx hb dX9_init_223 rfl (lv_at hl 0 rfl) ?_
                    refine lv_if_eq (tgt := 231) hx hb dX9_init_224 (by decide) (fun c_1173 => ?_) (fun c_1173 => ?_)
                    · skip
                      exact absurd c_1173 (by decide)
                    · skip
                      refine lv_iload_n hx hb dX9_init_227 rfl (lv_at hl 1 rfl) ?_
                      refine lv_goto (tgt := 232) hx hb dX9_init_228 (by decide) ?_
                      refine ah_iast (i := k) hx hb hE hR hS f_901 (by omega) (by omega) dX9_init_232 (fun H locs hR hS => ?_)
                      obtain ⟨h_1174, e_1175⟩ : ∃ zz9, zz9 = ah_up h_898 q_1 (21, .inl (G.2.2.1 0, 128, .inl (upd (plI k) k (nI k)))) := ⟨_, rfl⟩
                      have hR : ah_R G h_1174 H := by rw [e_1175]; exact hR
                      have f_1176 : h_1174 y = some (20, .inr (8, [.int (nI 0), .ref q_1, .ref q_13, .int (nI 0), .ref q_27, .int (nI 0), .int (nI 0), .ref q_43, .ref q_61, .int (nI 0), .ref q_81, .int (nI 0), .ref q_103, .int (nI 0), .ref q_127, .ref q_153, .ref q_181, .ref q_211, .ref q_243, .ref q_277, .int (nI 0), .ref q_313, .ref q_351, .int (nI 0), .ref q_391, .int (nI 0), .ref q_433])) := by rw [e_1175]; exact ah_keep f_900 f_901 (by omega)
                      have f_1177 : h_1174 q_1 = some (21, .inl (G.2.2.1 0, 128, .inl (upd (plI k) k (nI k)))) := by rw [e_1175]; exact ah_up_s _ _ _
                      have f_1178 : h_1174 q_13 = some (22, .inl (G.2.2.1 0, 128, .inl (esI (k + 1)))) := by rw [e_1175]; exact ah_keep f_918 f_901 (by omega)
                      have f_1179 : h_1174 q_27 = some (24, .inl (G.2.2.1 0, 3000, .inl (nA (fun _ => 0)))) := by rw [e_1175]; exact ah_keep f_903 f_901 (by omega)
                      have f_1180 : h_1174 q_43 = some (27, .inl (G.2.2.1 0, 255, .inl (nA (fun _ => 0)))) := by rw [e_1175]; exact ah_keep f_904 f_901 (by omega)
                      have f_1181 : h_1174 q_61 = some (28, .inl (G.2.2.1 0, 36210, .inl (nA (fun _ => 0)))) := by rw [e_1175]; exact ah_keep f_905 f_901 (by omega)
                      have f_1182 : h_1174 q_81 = some (30, .inl (G.2.2.1 0, 200, .inl (nA (fun _ => 0)))) := by rw [e_1175]; exact ah_keep f_906 f_901 (by omega)
                      have f_1183 : h_1174 q_103 = some (32, .inl (G.2.2.1 0, 40800, .inl (nA (fun _ => 0)))) := by rw [e_1175]; exact ah_keep f_907 f_901 (by omega)
                      have f_1184 : h_1174 q_127 = some (34, .inl (G.2.2.1 0, 16, .inl (nA (fun _ => 0)))) := by rw [e_1175]; exact ah_keep f_908 f_901 (by omega)
                      have f_1185 : h_1174 q_153 = some (35, .inl (G.2.2.1 0, 16, .inl (nA (fun _ => 0)))) := by rw [e_1175]; exact ah_keep f_909 f_901 (by omega)
                      have f_1186 : h_1174 q_181 = some (36, .inl (G.2.2.1 0, 16, .inl (nA (fun _ => 0)))) := by rw [e_1175]; exact ah_keep f_910 f_901 (by omega)
                      have f_1187 : h_1174 q_211 = some (37, .inl (G.2.2.1 0, 16, .inl (nA (fun _ => 0)))) := by rw [e_1175]; exact ah_keep f_911 f_901 (by omega)
                      have f_1188 : h_1174 q_243 = some (38, .inl (G.2.2.1 0, 16, .inl (nA (fun _ => 0)))) := by rw [e_1175]; exact ah_keep f_912 f_901 (by omega)
                      have f_1189 : h_1174 q_277 = some (39, .inl (G.2.2.1 0, 16, .inl (nA (fun _ => 0)))) := by rw [e_1175]; exact ah_keep f_913 f_901 (by omega)
                      have f_1190 : h_1174 q_313 = some (41, .inl (G.2.2.1 0, 4080, .inl (nA (fun _ => 0)))) := by rw [e_1175]; exact ah_keep f_914 f_901 (by omega)
                      have f_1191 : h_1174 q_351 = some (42, .inl (G.2.2.1 0, 652800, .inl (nA (fun _ => 0)))) := by rw [e_1175]; exact ah_keep f_915 f_901 (by omega)
                      have f_1192 : h_1174 q_391 = some (44, .inl (G.2.2.1 0, 200, .inl (nA (fun _ => 0)))) := by rw [e_1175]; exact ah_keep f_916 f_901 (by omega)
                      have f_1193 : h_1174 q_433 = some (46, .inl (G.2.2.1 0, 200, .inl (nA (fun _ => 0)))) := by rw [e_1175]; exact ah_keep f_917 f_901 (by omega)
                      have f_1194 : h_1174 q_1 = some (21, .inl (G.2.2.1 0, 128, .inl (plI (k + 1)))) := by rw [← plI_s (v := nI k) (if_pos (show ownP k by unfold ownP; omega)).symm]; exact f_1177
                      refine lv_iinc (v := nI (k + 1)) (lv' := [(1, .int (nI (k + 1))), (2, .int (nI 1)), (0, .ref y)]) hx hb dX9_init_233 hl (k := 1) rfl (show nI k + Int32.ofInt 1 = nI (k + 1) from nI_add _ 1) (by decide) rfl (fun ls hl => ?_)
                      refine lv_goto (tgt := 150) hx hb dX9_init_236 (by decide) ?_
                      exact ih150  (k + 1) h_1174 _ _ ls (by omega) (by omega) (ag1.tr (by rw [e_1175]; refine agr.up ?_ f_901 (by omega); rw [e_899]; refine agr.up ?_ fqL (by omega); exact agr.rf)) f_1176 f_1194 f_1178 f_1179 f_1180 f_1181 f_1182 f_1183 f_1184 f_1185 f_1186 f_1187 f_1188 f_1189 f_1190 f_1191 f_1192 f_1193 hR hS (lv_sub hl [0, 2] rfl)
                  · skip
                    have c_1172 : k = 64 := (nI_eq (by omega) (by omega)).mp c_1172
                    refine lv_iload_n hx hb dX9_init_200 rfl (lv_at hl 0 rfl) ?_
                    refine lv_bipush (v := nI 97) hx hb dX9_init_201 (by decide) ?_
                    refine lv_icmp_lt (tgt := 216) hx hb dX9_init_203 (by decide) (fun c_1195 => ?_) (fun c_1195 => ?_)
                    · skip
                      have c_1195 : k < 97 := (nI_ltI (by omega) (by omega)).mp c_1195
                      refine lv_iconst (v := nI 0) hx hb dX9_init_216 (by decide) ?_
                      refine lv_istore_n (lv' := [(2, .int (nI 0)), (1, .int (nI k)), (0, .ref y)]) hx hb dX9_init_217 rfl hl (by decide) rfl (fun ls hl => ?_)
                      refine lv_aload_n hx hb dX9_init_218 rfl (lv_at hl 2 rfl) ?_
                      refine ah_get (ci := 8) (v := .ref q_1) (C := RX9) (T := TX9) (N := 27) hx hb hE hR hts hinX9 hown f_900 rfl 1 (by decide) k7 (fun _ h9 => h9) rfl dX9_init_219 ?_
                      refine lv_iload_n hx hb dX9_init_222 rfl (lv_at hl 1 rfl) ?_
                      refine lv_iload_n hx hb dX9_init_223 rfl (lv_at hl 0 rfl) ?_
                      refine lv_if_eq (tgt := 231) hx hb dX9_init_224 (by decide) (fun c_1196 => ?_) (fun c_1196 => ?_)
                      · skip
                        refine lv_iconst (v := (-1)) hx hb dX9_init_231 (by decide) ?_
                        refine ah_iast (i := k) hx hb hE hR hS f_901 (by omega) (by omega) dX9_init_232 (fun H locs hR hS => ?_)
                        obtain ⟨h_1197, e_1198⟩ : ∃ zz9, zz9 = ah_up h_898 q_1 (21, .inl (G.2.2.1 0, 128, .inl (upd (plI k) k (-1)))) := ⟨_, rfl⟩
                        have hR : ah_R G h_1197 H := by rw [e_1198]; exact hR
                        have f_1199 : h_1197 y = some (20, .inr (8, [.int (nI 0), .ref q_1, .ref q_13, .int (nI 0), .ref q_27, .int (nI 0), .int (nI 0), .ref q_43, .ref q_61, .int (nI 0), .ref q_81, .int (nI 0), .ref q_103, .int (nI 0), .ref q_127, .ref q_153, .ref q_181, .ref q_211, .ref q_243, .ref q_277, .int (nI 0), .ref q_313, .ref q_351, .int (nI 0), .ref q_391, .int (nI 0), .ref q_433])) := by rw [e_1198]; exact ah_keep f_900 f_901 (by omega)
                        have f_1200 : h_1197 q_1 = some (21, .inl (G.2.2.1 0, 128, .inl (upd (plI k) k (-1)))) := by rw [e_1198]; exact ah_up_s _ _ _
                        have f_1201 : h_1197 q_13 = some (22, .inl (G.2.2.1 0, 128, .inl (esI (k + 1)))) := by rw [e_1198]; exact ah_keep f_918 f_901 (by omega)
                        have f_1202 : h_1197 q_27 = some (24, .inl (G.2.2.1 0, 3000, .inl (nA (fun _ => 0)))) := by rw [e_1198]; exact ah_keep f_903 f_901 (by omega)
                        have f_1203 : h_1197 q_43 = some (27, .inl (G.2.2.1 0, 255, .inl (nA (fun _ => 0)))) := by rw [e_1198]; exact ah_keep f_904 f_901 (by omega)
                        have f_1204 : h_1197 q_61 = some (28, .inl (G.2.2.1 0, 36210, .inl (nA (fun _ => 0)))) := by rw [e_1198]; exact ah_keep f_905 f_901 (by omega)
                        have f_1205 : h_1197 q_81 = some (30, .inl (G.2.2.1 0, 200, .inl (nA (fun _ => 0)))) := by rw [e_1198]; exact ah_keep f_906 f_901 (by omega)
                        have f_1206 : h_1197 q_103 = some (32, .inl (G.2.2.1 0, 40800, .inl (nA (fun _ => 0)))) := by rw [e_1198]; exact ah_keep f_907 f_901 (by omega)
                        have f_1207 : h_1197 q_127 = some (34, .inl (G.2.2.1 0, 16, .inl (nA (fun _ => 0)))) := by rw [e_1198]; exact ah_keep f_908 f_901 (by omega)
                        have f_1208 : h_1197 q_153 = some (35, .inl (G.2.2.1 0, 16, .inl (nA (fun _ => 0)))) := by rw [e_1198]; exact ah_keep f_909 f_901 (by omega)
                        have f_1209 : h_1197 q_181 = some (36, .inl (G.2.2.1 0, 16, .inl (nA (fun _ => 0)))) := by rw [e_1198]; exact ah_keep f_910 f_901 (by omega)
                        have f_1210 : h_1197 q_211 = some (37, .inl (G.2.2.1 0, 16, .inl (nA (fun _ => 0)))) := by rw [e_1198]; exact ah_keep f_911 f_901 (by omega)
                        have f_1211 : h_1197 q_243 = some (38, .inl (G.2.2.1 0, 16, .inl (nA (fun _ => 0)))) := by rw [e_1198]; exact ah_keep f_912 f_901 (by omega)
                        have f_1212 : h_1197 q_277 = some (39, .inl (G.2.2.1 0, 16, .inl (nA (fun _ => 0)))) := by rw [e_1198]; exact ah_keep f_913 f_901 (by omega)
                        have f_1213 : h_1197 q_313 = some (41, .inl (G.2.2.1 0, 4080, .inl (nA (fun _ => 0)))) := by rw [e_1198]; exact ah_keep f_914 f_901 (by omega)
                        have f_1214 : h_1197 q_351 = some (42, .inl (G.2.2.1 0, 652800, .inl (nA (fun _ => 0)))) := by rw [e_1198]; exact ah_keep f_915 f_901 (by omega)
                        have f_1215 : h_1197 q_391 = some (44, .inl (G.2.2.1 0, 200, .inl (nA (fun _ => 0)))) := by rw [e_1198]; exact ah_keep f_916 f_901 (by omega)
                        have f_1216 : h_1197 q_433 = some (46, .inl (G.2.2.1 0, 200, .inl (nA (fun _ => 0)))) := by rw [e_1198]; exact ah_keep f_917 f_901 (by omega)
                        have f_1217 : h_1197 q_1 = some (21, .inl (G.2.2.1 0, 128, .inl (plI (k + 1)))) := by rw [← plI_s (v := (-1)) (if_neg (show ¬ ownP k by unfold ownP; omega)).symm]; exact f_1200
                        refine lv_iinc (v := nI (k + 1)) (lv' := [(1, .int (nI (k + 1))), (2, .int (nI 0)), (0, .ref y)]) hx hb dX9_init_233 hl (k := 1) rfl (show nI k + Int32.ofInt 1 = nI (k + 1) from nI_add _ 1) (by decide) rfl (fun ls hl => ?_)
                        refine lv_goto (tgt := 150) hx hb dX9_init_236 (by decide) ?_
                        exact ih150  (k + 1) h_1197 _ _ ls (by omega) (by omega) (ag1.tr (by rw [e_1198]; refine agr.up ?_ f_901 (by omega); rw [e_899]; refine agr.up ?_ fqL (by omega); exact agr.rf)) f_1199 f_1217 f_1201 f_1202 f_1203 f_1204 f_1205 f_1206 f_1207 f_1208 f_1209 f_1210 f_1211 f_1212 f_1213 f_1214 f_1215 f_1216 hR hS (lv_sub hl [0, 2] rfl)
                      · skip
                        exact absurd (by decide) c_1196
                    · skip
                      have c_1195 : ¬ (k < 97) := fun z9 => c_1195 ((nI_ltI (by omega) (by omega)).mpr z9)
                      refine lv_iload_n hx hb dX9_init_206 rfl (lv_at hl 0 rfl) ?_
                      refine lv_bipush (v := nI 122) hx hb dX9_init_207 (by decide) ?_
                      refine lv_icmp_gt (tgt := 216) hx hb dX9_init_209 (by decide) (fun c_1218 => ?_) (fun c_1218 => ?_)
                      · skip
                        have c_1218 : 122 < k := (nI_ltI (by omega) (by omega)).mp c_1218
                        refine lv_iconst (v := nI 0) hx hb dX9_init_216 (by decide) ?_
                        refine lv_istore_n (lv' := [(2, .int (nI 0)), (1, .int (nI k)), (0, .ref y)]) hx hb dX9_init_217 rfl hl (by decide) rfl (fun ls hl => ?_)
                        refine lv_aload_n hx hb dX9_init_218 rfl (lv_at hl 2 rfl) ?_
                        refine ah_get (ci := 8) (v := .ref q_1) (C := RX9) (T := TX9) (N := 27) hx hb hE hR hts hinX9 hown f_900 rfl 1 (by decide) k7 (fun _ h9 => h9) rfl dX9_init_219 ?_
                        refine lv_iload_n hx hb dX9_init_222 rfl (lv_at hl 1 rfl) ?_
                        refine lv_iload_n hx hb dX9_init_223 rfl (lv_at hl 0 rfl) ?_
                        refine lv_if_eq (tgt := 231) hx hb dX9_init_224 (by decide) (fun c_1219 => ?_) (fun c_1219 => ?_)
                        · skip
                          refine lv_iconst (v := (-1)) hx hb dX9_init_231 (by decide) ?_
                          refine ah_iast (i := k) hx hb hE hR hS f_901 (by omega) (by omega) dX9_init_232 (fun H locs hR hS => ?_)
                          obtain ⟨h_1220, e_1221⟩ : ∃ zz9, zz9 = ah_up h_898 q_1 (21, .inl (G.2.2.1 0, 128, .inl (upd (plI k) k (-1)))) := ⟨_, rfl⟩
                          have hR : ah_R G h_1220 H := by rw [e_1221]; exact hR
                          have f_1222 : h_1220 y = some (20, .inr (8, [.int (nI 0), .ref q_1, .ref q_13, .int (nI 0), .ref q_27, .int (nI 0), .int (nI 0), .ref q_43, .ref q_61, .int (nI 0), .ref q_81, .int (nI 0), .ref q_103, .int (nI 0), .ref q_127, .ref q_153, .ref q_181, .ref q_211, .ref q_243, .ref q_277, .int (nI 0), .ref q_313, .ref q_351, .int (nI 0), .ref q_391, .int (nI 0), .ref q_433])) := by rw [e_1221]; exact ah_keep f_900 f_901 (by omega)
                          have f_1223 : h_1220 q_1 = some (21, .inl (G.2.2.1 0, 128, .inl (upd (plI k) k (-1)))) := by rw [e_1221]; exact ah_up_s _ _ _
                          have f_1224 : h_1220 q_13 = some (22, .inl (G.2.2.1 0, 128, .inl (esI (k + 1)))) := by rw [e_1221]; exact ah_keep f_918 f_901 (by omega)
                          have f_1225 : h_1220 q_27 = some (24, .inl (G.2.2.1 0, 3000, .inl (nA (fun _ => 0)))) := by rw [e_1221]; exact ah_keep f_903 f_901 (by omega)
                          have f_1226 : h_1220 q_43 = some (27, .inl (G.2.2.1 0, 255, .inl (nA (fun _ => 0)))) := by rw [e_1221]; exact ah_keep f_904 f_901 (by omega)
                          have f_1227 : h_1220 q_61 = some (28, .inl (G.2.2.1 0, 36210, .inl (nA (fun _ => 0)))) := by rw [e_1221]; exact ah_keep f_905 f_901 (by omega)
                          have f_1228 : h_1220 q_81 = some (30, .inl (G.2.2.1 0, 200, .inl (nA (fun _ => 0)))) := by rw [e_1221]; exact ah_keep f_906 f_901 (by omega)
                          have f_1229 : h_1220 q_103 = some (32, .inl (G.2.2.1 0, 40800, .inl (nA (fun _ => 0)))) := by rw [e_1221]; exact ah_keep f_907 f_901 (by omega)
                          have f_1230 : h_1220 q_127 = some (34, .inl (G.2.2.1 0, 16, .inl (nA (fun _ => 0)))) := by rw [e_1221]; exact ah_keep f_908 f_901 (by omega)
                          have f_1231 : h_1220 q_153 = some (35, .inl (G.2.2.1 0, 16, .inl (nA (fun _ => 0)))) := by rw [e_1221]; exact ah_keep f_909 f_901 (by omega)
                          have f_1232 : h_1220 q_181 = some (36, .inl (G.2.2.1 0, 16, .inl (nA (fun _ => 0)))) := by rw [e_1221]; exact ah_keep f_910 f_901 (by omega)
                          have f_1233 : h_1220 q_211 = some (37, .inl (G.2.2.1 0, 16, .inl (nA (fun _ => 0)))) := by rw [e_1221]; exact ah_keep f_911 f_901 (by omega)
                          have f_1234 : h_1220 q_243 = some (38, .inl (G.2.2.1 0, 16, .inl (nA (fun _ => 0)))) := by rw [e_1221]; exact ah_keep f_912 f_901 (by omega)
                          have f_1235 : h_1220 q_277 = some (39, .inl (G.2.2.1 0, 16, .inl (nA (fun _ => 0)))) := by rw [e_1221]; exact ah_keep f_913 f_901 (by omega)
                          have f_1236 : h_1220 q_313 = some (41, .inl (G.2.2.1 0, 4080, .inl (nA (fun _ => 0)))) := by rw [e_1221]; exact ah_keep f_914 f_901 (by omega)
                          have f_1237 : h_1220 q_351 = some (42, .inl (G.2.2.1 0, 652800, .inl (nA (fun _ => 0)))) := by rw [e_1221]; exact ah_keep f_915 f_901 (by omega)
                          have f_1238 : h_1220 q_391 = some (44, .inl (G.2.2.1 0, 200, .inl (nA (fun _ => 0)))) := by rw [e_1221]; exact ah_keep f_916 f_901 (by omega)
                          have f_1239 : h_1220 q_433 = some (46, .inl (G.2.2.1 0, 200, .inl (nA (fun _ => 0)))) := by rw [e_1221]; exact ah_keep f_917 f_901 (by omega)
                          have f_1240 : h_1220 q_1 = some (21, .inl (G.2.2.1 0, 128, .inl (plI (k + 1)))) := by rw [← plI_s (v := (-1)) (if_neg (show ¬ ownP k by unfold ownP; omega)).symm]; exact f_1223
                          refine lv_iinc (v := nI (k + 1)) (lv' := [(1, .int (nI (k + 1))), (2, .int (nI 0)), (0, .ref y)]) hx hb dX9_init_233 hl (k := 1) rfl (show nI k + Int32.ofInt 1 = nI (k + 1) from nI_add _ 1) (by decide) rfl (fun ls hl => ?_)
                          refine lv_goto (tgt := 150) hx hb dX9_init_236 (by decide) ?_
                          exact ih150  (k + 1) h_1220 _ _ ls (by omega) (by omega) (ag1.tr (by rw [e_1221]; refine agr.up ?_ f_901 (by omega); rw [e_899]; refine agr.up ?_ fqL (by omega); exact agr.rf)) f_1222 f_1240 f_1224 f_1225 f_1226 f_1227 f_1228 f_1229 f_1230 f_1231 f_1232 f_1233 f_1234 f_1235 f_1236 f_1237 f_1238 f_1239 hR hS (lv_sub hl [0, 2] rfl)
                        · skip
                          exact absurd (by decide) c_1219
                      · skip
                        have c_1218 : ¬ (122 < k) := fun z9 => c_1218 ((nI_ltI (by omega) (by omega)).mpr z9)
                        refine lv_iconst (v := nI 1) hx hb dX9_init_212 (by decide) ?_
                        refine lv_goto (tgt := 217) hx hb dX9_init_213 (by decide) ?_
                        refine lv_istore_n (lv' := [(2, .int (nI 1)), (1, .int (nI k)), (0, .ref y)]) hx hb dX9_init_217 rfl hl (by decide) rfl (fun ls hl => ?_)
                        refine lv_aload_n hx hb dX9_init_218 rfl (lv_at hl 2 rfl) ?_
                        refine ah_get (ci := 8) (v := .ref q_1) (C := RX9) (T := TX9) (N := 27) hx hb hE hR hts hinX9 hown f_900 rfl 1 (by decide) k7 (fun _ h9 => h9) rfl dX9_init_219 ?_
                        refine lv_iload_n hx hb dX9_init_222 rfl (lv_at hl 1 rfl) ?_
                        refine lv_iload_n hx hb dX9_init_223 rfl (lv_at hl 0 rfl) ?_
                        refine lv_if_eq (tgt := 231) hx hb dX9_init_224 (by decide) (fun c_1241 => ?_) (fun c_1241 => ?_)
                        · skip
                          exact absurd c_1241 (by decide)
                        · skip
                          refine lv_iload_n hx hb dX9_init_227 rfl (lv_at hl 1 rfl) ?_
                          refine lv_goto (tgt := 232) hx hb dX9_init_228 (by decide) ?_
                          refine ah_iast (i := k) hx hb hE hR hS f_901 (by omega) (by omega) dX9_init_232 (fun H locs hR hS => ?_)
                          obtain ⟨h_1242, e_1243⟩ : ∃ zz9, zz9 = ah_up h_898 q_1 (21, .inl (G.2.2.1 0, 128, .inl (upd (plI k) k (nI k)))) := ⟨_, rfl⟩
                          have hR : ah_R G h_1242 H := by rw [e_1243]; exact hR
                          have f_1244 : h_1242 y = some (20, .inr (8, [.int (nI 0), .ref q_1, .ref q_13, .int (nI 0), .ref q_27, .int (nI 0), .int (nI 0), .ref q_43, .ref q_61, .int (nI 0), .ref q_81, .int (nI 0), .ref q_103, .int (nI 0), .ref q_127, .ref q_153, .ref q_181, .ref q_211, .ref q_243, .ref q_277, .int (nI 0), .ref q_313, .ref q_351, .int (nI 0), .ref q_391, .int (nI 0), .ref q_433])) := by rw [e_1243]; exact ah_keep f_900 f_901 (by omega)
                          have f_1245 : h_1242 q_1 = some (21, .inl (G.2.2.1 0, 128, .inl (upd (plI k) k (nI k)))) := by rw [e_1243]; exact ah_up_s _ _ _
                          have f_1246 : h_1242 q_13 = some (22, .inl (G.2.2.1 0, 128, .inl (esI (k + 1)))) := by rw [e_1243]; exact ah_keep f_918 f_901 (by omega)
                          have f_1247 : h_1242 q_27 = some (24, .inl (G.2.2.1 0, 3000, .inl (nA (fun _ => 0)))) := by rw [e_1243]; exact ah_keep f_903 f_901 (by omega)
                          have f_1248 : h_1242 q_43 = some (27, .inl (G.2.2.1 0, 255, .inl (nA (fun _ => 0)))) := by rw [e_1243]; exact ah_keep f_904 f_901 (by omega)
                          have f_1249 : h_1242 q_61 = some (28, .inl (G.2.2.1 0, 36210, .inl (nA (fun _ => 0)))) := by rw [e_1243]; exact ah_keep f_905 f_901 (by omega)
                          have f_1250 : h_1242 q_81 = some (30, .inl (G.2.2.1 0, 200, .inl (nA (fun _ => 0)))) := by rw [e_1243]; exact ah_keep f_906 f_901 (by omega)
                          have f_1251 : h_1242 q_103 = some (32, .inl (G.2.2.1 0, 40800, .inl (nA (fun _ => 0)))) := by rw [e_1243]; exact ah_keep f_907 f_901 (by omega)
                          have f_1252 : h_1242 q_127 = some (34, .inl (G.2.2.1 0, 16, .inl (nA (fun _ => 0)))) := by rw [e_1243]; exact ah_keep f_908 f_901 (by omega)
                          have f_1253 : h_1242 q_153 = some (35, .inl (G.2.2.1 0, 16, .inl (nA (fun _ => 0)))) := by rw [e_1243]; exact ah_keep f_909 f_901 (by omega)
                          have f_1254 : h_1242 q_181 = some (36, .inl (G.2.2.1 0, 16, .inl (nA (fun _ => 0)))) := by rw [e_1243]; exact ah_keep f_910 f_901 (by omega)
                          have f_1255 : h_1242 q_211 = some (37, .inl (G.2.2.1 0, 16, .inl (nA (fun _ => 0)))) := by rw [e_1243]; exact ah_keep f_911 f_901 (by omega)
                          have f_1256 : h_1242 q_243 = some (38, .inl (G.2.2.1 0, 16, .inl (nA (fun _ => 0)))) := by rw [e_1243]; exact ah_keep f_912 f_901 (by omega)
                          have f_1257 : h_1242 q_277 = some (39, .inl (G.2.2.1 0, 16, .inl (nA (fun _ => 0)))) := by rw [e_1243]; exact ah_keep f_913 f_901 (by omega)
                          have f_1258 : h_1242 q_313 = some (41, .inl (G.2.2.1 0, 4080, .inl (nA (fun _ => 0)))) := by rw [e_1243]; exact ah_keep f_914 f_901 (by omega)
                          have f_1259 : h_1242 q_351 = some (42, .inl (G.2.2.1 0, 652800, .inl (nA (fun _ => 0)))) := by rw [e_1243]; exact ah_keep f_915 f_901 (by omega)
                          have f_1260 : h_1242 q_391 = some (44, .inl (G.2.2.1 0, 200, .inl (nA (fun _ => 0)))) := by rw [e_1243]; exact ah_keep f_916 f_901 (by omega)
                          have f_1261 : h_1242 q_433 = some (46, .inl (G.2.2.1 0, 200, .inl (nA (fun _ => 0)))) := by rw [e_1243]; exact ah_keep f_917 f_901 (by omega)
                          have f_1262 : h_1242 q_1 = some (21, .inl (G.2.2.1 0, 128, .inl (plI (k + 1)))) := by rw [← plI_s (v := nI k) (if_pos (show ownP k by unfold ownP; omega)).symm]; exact f_1245
                          refine lv_iinc (v := nI (k + 1)) (lv' := [(1, .int (nI (k + 1))), (2, .int (nI 1)), (0, .ref y)]) hx hb dX9_init_233 hl (k := 1) rfl (show nI k + Int32.ofInt 1 = nI (k + 1) from nI_add _ 1) (by decide) rfl (fun ls hl => ?_)
                          refine lv_goto (tgt := 150) hx hb dX9_init_236 (by decide) ?_
                          exact ih150  (k + 1) h_1242 _ _ ls (by omega) (by omega) (ag1.tr (by rw [e_1243]; refine agr.up ?_ f_901 (by omega); rw [e_899]; refine agr.up ?_ fqL (by omega); exact agr.rf)) f_1244 f_1262 f_1246 f_1247 f_1248 f_1249 f_1250 f_1251 f_1252 f_1253 f_1254 f_1255 f_1256 f_1257 f_1258 f_1259 f_1260 f_1261 hR hS (lv_sub hl [0, 2] rfl)
  exact L150 ((128 - 0) + 1) 0 h_456 _ _ ls (by omega) (by omega) agr.rf f_458 f_477 f_478 f_461 f_462 f_463 f_464 f_465 f_466 f_467 f_468 f_469 f_470 f_471 f_472 f_473 f_474 f_475 hR hS (lv_sub hl [0, 1] rfl)
