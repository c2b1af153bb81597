/-! ===== TextParts$Inbox: beginning a heap, keeping a part ===== -/
abbrev off8 (t : Nat) : Prop := t ≠ 8 ∧ t ≠ 9
/-- all but two things as they were -/
def agr2 (P : Nat → Prop) (a p : Nat) (h h' : ah_H) : Prop := ∀ (b t : Nat) (e : va_E), P t → b ≠ a → b ≠ p → h b = some (t, e) → h' b = some (t, e)
theorem agr2.rf {P : Nat → Prop} {a p : Nat} {h : ah_H} : agr2 P a p h h := fun _ _ _ _ _ _ z => z
theorem agr2.upT {P : Nat → Prop} {a p : Nat} {h h1 : ah_H} {b t : Nat} {e : va_E} {x : Nat × va_E} (y : agr2 P a p h h1) (hb : h1 b = some (t, e)) (hn : ¬ P t) : agr2 P a p h (ah_up h1 b x) := fun c u d hu n1 n2 z => by
  have hc := y c u d hu n1 n2 z
  rw [ah_up_n (fun q => by subst q; rw [hb] at hc; cases hc; exact hn hu)]; exact hc
theorem agr2.upA {P : Nat → Prop} {a p : Nat} {h h1 : ah_H} {x : Nat × va_E} (y : agr2 P a p h h1) : agr2 P a p h (ah_up h1 a x) := fun c u d hu n1 n2 z => by
  rw [ah_up_n n1]; exact y c u d hu n1 n2 z
theorem agr2.upP {P : Nat → Prop} {a p : Nat} {h h1 : ah_H} {x : Nat × va_E} (y : agr2 P a p h h1) : agr2 P a p h (ah_up h1 p x) := fun c u d hu n1 n2 z => by
  rw [ah_up_n n2]; exact y c u d hu n1 n2 z
theorem agr2.new {P : Nat → Prop} {a p : Nat} {h h1 : ah_H} {b : Nat} {x : Nat × va_E} (y : agr2 P a p h h1) (hb : h1 b = none) : agr2 P a p h (ah_up h1 b x) := fun c u d hu n1 n2 z => ah_new (y c u d hu n1 n2 z) hb
theorem agr2.off {a p : Nat} {h h' : ah_H} {x z : va_E} (y : agr2 off8 a p h h') (ha : h a = some (800, x)) (hp : h p = some (801, z)) : agr (fun t => t ≠ 8 ∧ t ≠ 9 ∧ t ≠ 800 ∧ t ≠ 801) h h' := fun b t e ht hb =>
  y b t e ⟨ht.1, ht.2.1⟩ (ah_ne hb ha ht.2.2.1) (ah_ne hb hp ht.2.2.2) hb
theorem pcOk.frame9 {G : ah_G} {h h' : ah_H} {o : Option Nat} {m : Option (List Nat)} (x : pcOk G h o m) (y : agr (fun t => t = 900 ∨ t = 901) h h') : pcOk G h' o m := by
  cases o with
  | none => cases m with
    | none => trivial
    | some L => exact x
  | some q => cases m with
    | none => exact x
    | some L => exact pieceOk.frame x y
theorem heapOk.frame2 {G : ah_G} {h h' : ah_H} {d : hDt} {a p : Nat} {xa xp : va_E} (x : heapOk G h d) (y : agr2 off8 a p h h') (ha : h a = some (800, xa)) (hp : h p = some (801, xp)) (na : d_a d ≠ a) (np : d_p d ≠ p) : heapOk G h' d := by
  have y9 : agr (fun t => t = 900 ∨ t = 901) h h' := (y.off ha hp).weak (fun t q => by omega)
  obtain ⟨x1, x2, x3, x4⟩ := x
  exact ⟨y _ _ _ (by unfold off8; omega) na (ah_ne x1 hp (by omega)) x1, y _ _ _ (by unfold off8; omega) (ah_ne x2 ha (by omega)) np x2, fun k hk => (x3 k hk).frame9 y9, x4⟩
/-- heap k is another one now, where it was -/
theorem ibOk.set {G : ah_G} {h h' : ah_H} {c k : Nat} {D : Nat → hDt} {hf : Nat → Option Nat} {d : hDt} (x : ibOk G h c D hf) (hk : k < c) (y : agr2 off8 (d_a (D k)) (d_p (D k)) h h') (hd : heapOk G h' d) (ea : d_a d = d_a (D k)) (ep : d_p d = d_p (D k)) : ibOk G h' c (va_up D k d) hf := by
  obtain ⟨x1, x2, x3, x4⟩ := x
  have ka : ∀ i, d_a (va_up D k d i) = d_a (D i) := fun i => by
    by_cases q : i = k
    · subst q; rw [va_up_self]; exact ea
    · rw [va_up_ne _ _ q]
  have kp : ∀ i, d_p (va_up D k d i) = d_p (D i) := fun i => by
    by_cases q : i = k
    · subst q; rw [va_up_self]; exact ep
    · rw [va_up_ne _ _ q]
  refine ⟨fun i hi => ?_, x2, fun i j hi hj e => ?_, fun i j hi hj e => ?_⟩
  · refine ⟨by rw [ka]; exact (x1 i hi).1, ?_⟩
    by_cases q : i = k
    · subst q; rw [va_up_self]; exact hd
    · rw [va_up_ne _ _ q]; exact (x1 i hi).2.frame2 y (x1 k hk).2.1 (x1 k hk).2.2.1 (fun z => q (x3 i k hi hk z)) (fun z => q (x4 i k hi hk z))
  · rw [ka, ka] at e; exact x3 i j hi hj e
  · rw [kp, kp] at e; exact x4 i j hi hj e
/-- heap k is out -/
theorem ibOk.out {G : ah_G} {h h' : ah_H} {c k : Nat} {D : Nat → hDt} {hf : Nat → Option Nat} (x : ibOk G h c D hf) (hk : k < c) (y : agr2 off8 (d_a (D k)) (d_p (D k)) h h') : ibOk G h' (c - 1) (shf D k) (rmA hf c k) := by
  obtain ⟨x1, x2, x3, x4⟩ := x
  obtain ⟨r1, r2, r3, r4⟩ := ibOk.remove ⟨x1, x2, x3, x4⟩ hk
  have key : ∀ i, i < c - 1 → ∃ j, j < c ∧ j ≠ k ∧ shf D k i = D j := by
    intro i hi
    unfold shf
    by_cases h1 : i < k
    · exact ⟨i, by omega, by omega, by rw [if_pos h1]⟩
    · exact ⟨i + 1, by omega, by omega, by rw [if_neg h1]⟩
  refine ⟨fun i hi => ⟨(r1 i hi).1, ?_⟩, r2, r3, r4⟩
  obtain ⟨j, j1, j2, j3⟩ := key i hi
  refine (r1 i hi).2.frame2 y (x1 k hk).2.1 (x1 k hk).2.2.1 ?_ ?_
  · rw [j3]; exact fun z => j2 (x3 j k j1 hk z)
  · rw [j3]; exact fun z => j2 (x4 j k j1 hk z)
abbrev freshH (s r p : Nat) (d : hDt) : Prop := d_s d = s ∧ d_r d = r ∧ d_n d = p ∧ d_t d = 0 ∧ d_u d = 0 ∧ d_l d = 0 ∧ d_L d = fun _ => none
/-- the heap that a part belongs to, begun where there is none -/
def selR (c : Nat) (D : Nat → hDt) (s r p c1 p9 : Nat) (D1 : Nat → hDt) : Prop :=
  (c1 = c ∧ D1 = D ∧ p9 < c ∧ isH D s r p p9 ∧ ∀ j, j < p9 → ¬ isH D s r p j) ∨
  ((∀ j, j < c → ¬ isH D s r p j) ∧ p9 = (evc c D).1 ∧ c1 = p9 + 1 ∧ ∃ d, freshH s r p d ∧ D1 = va_up (evc c D).2 p9 d)
abbrev addH (d d2 : hDt) (t k : Nat) (L : List Nat) : Prop := d_s d2 = d_s d ∧ d_r d2 = d_r d ∧ d_n d2 = d_n d ∧ d_t d2 = d_t d + 1 ∧ d_l d2 = t ∧ d_L d2 = va_up (d_L d) k (some L)
/-- keeping a part: what is answered and what becomes of the heaps, of the count of puts, of the latest text -/
def keepR (c pt : Nat) (D : Nat → hDt) (s r p k : Nat) (L : List Nat) (v c' pt' : Nat) (D' : Nat → hDt) (lt : Option (Nat × (Nat → List Nat))) : Prop :=
  ∃ (c1 p9 : Nat) (D1 : Nat → hDt), selR c D s r p c1 p9 D1 ∧
    (((∃ L0, d_L (D1 p9) k = some L0) ∧ v = 0 ∧ c' = c1 ∧ pt' = pt ∧ D' = D1 ∧ lt = none) ∨
     (d_L (D1 p9) k = none ∧ pt' = pt + 1 ∧ ∃ d2, addH (D1 p9) d2 (pt + 1) k L ∧
       ((d_t (D1 p9) + 1 ≠ p ∧ v = 0 ∧ c' = c1 ∧ D' = va_up D1 p9 d2 ∧ lt = none) ∨
        (d_t (D1 p9) + 1 = p ∧ v = 1 ∧ c' = c1 - 1 ∧ D' = shf D1 p9 ∧ lt = some (p, fun j => (d_L d2 j).getD [])))))
theorem sumU_tot (Lf : Nat → Option (List Nat)) : ∀ n, sumU Lf n = totU (fun k => (Lf k).getD []) n
  | 0 => rfl
  | n + 1 => by show sumU Lf n + _ = totU _ n + _; rw [sumU_tot Lf n]
theorem evc_le {c : Nat} {D : Nat → hDt} (h : c ≤ 16) : (evc c D).1 ≤ 15 := by
  unfold evc; split
  · exact Nat.le_refl _
  · show c ≤ 15; omega

set_option maxHeartbeats 4000000 in
set_option maxRecDepth 100000 in
theorem c_Ib_begin (l : Launch) (G : ah_G) (h : ah_H) (ib hp rd c pt : Nat) (lo : Option Nat) (hf : Nat → Option Nat) (fi : h ib = some (8, .inr (1, [.ref rd, .ref hp, .int (nI c), .int (nI pt), va_rf lo]))) (fp : h hp = some (9, .inl (G.2.2.1 1, 16, .inr (.inr (.inr (.inr hf)))))) (hc : c ≤ 16) (D : Nat → hDt) (hok : ibOk G h c D hf) (hd rfr ps nm bp el ru : Nat) (fd : h rd = some (10, .inr (3, [.int (nI hd), .int (nI rfr), .int (nI ps), .int (nI nm), .int (nI bp), .int (nI el), .ref ru]))) (hrf : rfr < 256) (hps1 : 1 ≤ ps) (hps : ps ≤ 255) (s9 : Nat) (hs9 : s9 ≤ 999) : Met l yX2_begin wsX2_begin ({ frames := 2, cells := 2, slots := 6 + ps, locals := 44 }) (ah_Pc G [.ref ib, .int (nI s9)] h) (ah_Qi G (fun v h' => ∃ (d : hDt) (hf' : Nat → Option Nat), v = nI (evc c D).1 ∧ freshH s9 rfr ps d ∧ h' ib = some (8, .inr (1, [.ref rd, .ref hp, .int (nI ((evc c D).1 + 1)), .int (nI pt), va_rf lo])) ∧ h' hp = some (9, .inl (G.2.2.1 1, 16, .inr (.inr (.inr (.inr hf'))))) ∧ ibOk G h' ((evc c D).1 + 1) (va_up (evc c D).2 (evc c D).1 d) hf' ∧ agr off8 h h')) 2 (6 + ps) (ah_A G) := by
  refine ah_ofW (cc := cX2_begin) (maxL := 3) (ret := (some .int)) (by decide) rfl (Nat.le_of_ble_eq_true rfl) ?_
  intro p e s m below meth cd9 ls hx hb hr hml hown hlocks hname hts hE hR hS hl
  have hown : s.vm.findClass RX2 = some m.cls := hown
  have hl : lv_has ls 3 [(0, .ref ib), (1, .int (nI s9))] := hl
  have k58 := hts (.fieldLink RX2 58 "TextParts$Inbox" "heapCount" "I") (by decide +kernel)
  have hinX2 : ∀ w ∈ wsX20, w ∈ wsX2_begin := by decide +kernel
  have k20 := hts (.fieldLink RX2 20 "TextParts$Inbox" "heaps" "[LTextParts$Heap;") (by decide +kernel)
  have wmethodLink_RX2_105_Lib_Math_min_name := hts (.methodLink RX2 105 Lib.Math.min.name) (by decide +kernel)
  have wstatic_Lib_Math_min_name := hts (.static Lib.Math.min.name) (by decide +kernel)
  have winitialized_java_lang_Math := hts (.initialized "java/lang/Math") (by decide +kernel)
  have wcode_Lib_Math_min_name_Lib_Math_min_code_2_some_int := hts (.code Lib.Math.min.name Lib.Math.min.code 2 (some .int)) (by decide +kernel)
  have wmethodLink_RX2_110_Lib_Math_max_name := hts (.methodLink RX2 110 Lib.Math.max.name) (by decide +kernel)
  have wstatic_Lib_Math_max_name := hts (.static Lib.Math.max.name) (by decide +kernel)
  have wcode_Lib_Math_max_name_Lib_Math_max_code_2_some_int := hts (.code Lib.Math.max.name Lib.Math.max.code 2 (some .int)) (by decide +kernel)
  have hinX1 : ∀ w ∈ wsX10, w ∈ wsX2_begin := by decide +kernel
  have wclassLink_RX2_18_RX1 := hts (.classLink RX2 18 RX1) (by decide +kernel)
  have winstantiable_RX1_6 := hts (.instantiable RX1 6) (by decide +kernel)
  have winitialized_RX1 := hts (.initialized RX1) (by decide +kernel)
  have k12 := hts (.fieldLink RX2 12 "TextParts$Inbox" "reader" "LTextParts$PartReader;") (by decide +kernel)
  have k91 := hts (.fieldLink RX2 91 "TextParts$PartReader" "reference" "I") (by decide +kernel)
  have hinX4 : ∀ w ∈ wsX40, w ∈ wsX2_begin := by decide +kernel
  have k94 := hts (.fieldLink RX2 94 "TextParts$PartReader" "parts" "I") (by decide +kernel)
  have wmethodLink_RX2_40_yX1_init := hts (.methodLink RX2 40 yX1_init) (by decide +kernel)
  have winstanceMethod_yX1_init := hts (.instanceMethod yX1_init) (by decide +kernel)
  have J20 : ∀ (c1 : Nat) (D1 : Nat → hDt) (hf1 : Nat → Option Nat) (h1 : ah_H) (H : Heap) (locs : List Loc) (ls : Array Slot), (evc c D = (c1, D1)) → (c1 ≤ 15) → (ibOk G h1 c1 D1 hf1) → (agr off8 h h1) → (h1 ib = some (8, .inr (1, [.ref rd, .ref hp, .int (nI c1), .int (nI pt), va_rf lo]))) → (h1 hp = some (9, .inl (G.2.2.1 1, 16, .inr (.inr (.inr (.inr hf1)))))) → (h1 rd = some (10, .inr (3, [.int (nI hd), .int (nI rfr), .int (nI ps), .int (nI nm), .int (nI bp), .int (nI el), .ref ru]))) → ah_R G h1 H → va_S (ah_A G) s.heap H locs → lv_has ls 3 [(0, .ref ib), (1, .int (nI s9))] → W p l e ({ frames := 2, cells := 2, slots := 6 + ps, locals := 44 }) s m ([.ref ib, .int (nI s9)] : List Value).toArray below meth cd9 H locs 0 0 (MQ below (ah_Qi G (fun v h' => ∃ (d : hDt) (hf' : Nat → Option Nat), v = nI (evc c D).1 ∧ freshH s9 rfr ps d ∧ h' ib = some (8, .inr (1, [.ref rd, .ref hp, .int (nI ((evc c D).1 + 1)), .int (nI pt), va_rf lo])) ∧ h' hp = some (9, .inl (G.2.2.1 1, 16, .inr (.inr (.inr (.inr hf'))))) ∧ ibOk G h' ((evc c D).1 + 1) (va_up (evc c D).2 (evc c D).1 d) hf' ∧ agr off8 h h')) ([.ref ib, .int (nI s9)] : List Value).toArray s 2 (6 + ps) (ah_A G)) (F0 m 20 ls []) := by
    intro c1 D1 hf1 h1 H locs ls ev1 hc1 ok1 ag1 fi1 fp1 fd1 hR hS hl
    refine lv_iconst (v := nI 0) hx hb dX2_begin_20 (by decide) ?_
    refine lv_aload_n hx hb dX2_begin_21 rfl (lv_at hl 0 rfl) ?_
    refine ah_get (ci := 1) (v := .int (nI c1)) (C := RX2) (T := TX2) (N := 5) hx hb hE hR hts hinX2 hown fi1 rfl 2 (by decide) k58 (fun _ h9 => h9) rfl dX2_begin_22 ?_
    refine lv_aload_n hx hb dX2_begin_25 rfl (lv_at hl 0 rfl) ?_
    refine ah_get (ci := 1) (v := .ref hp) (C := RX2) (T := TX2) (N := 5) hx hb hE hR hts hinX2 hown fi1 rfl 1 (by decide) k20 (fun _ h9 => h9) rfl dX2_begin_26 ?_
    refine ah_alen hx hb hE hR fp1 (show (ah_tys G)[1]? = some _ from rfl) dX2_begin_29 ?_
    refine lv_iconst (v := nI 1) hx hb dX2_begin_30 (by decide) ?_
    refine lv_isub hx hb dX2_begin_31 ?_
    refine ah_toi (v := nI (15)) (by decide +kernel) ?_
    refine va_mmin hx hb (hml.trans hl.1.symm) hown wmethodLink_RX2_105_Lib_Math_min_name wstatic_Lib_Math_min_name winitialized_java_lang_Math wcode_Lib_Math_min_name_Lib_Math_min_code_2_some_int (Nat.le_of_ble_eq_true rfl) (Nat.le_of_ble_eq_true rfl) (Nat.le_of_ble_eq_true rfl) (Nat.le_of_ble_eq_true rfl) dX2_begin_32 ?_
    refine ah_toi (v := nI c1) (mm_min (by omega) (by omega) (by omega)) ?_
    refine va_mmax hx hb (hml.trans hl.1.symm) hown wmethodLink_RX2_110_Lib_Math_max_name wstatic_Lib_Math_max_name winitialized_java_lang_Math wcode_Lib_Math_max_name_Lib_Math_max_code_2_some_int (Nat.le_of_ble_eq_true rfl) (Nat.le_of_ble_eq_true rfl) (Nat.le_of_ble_eq_true rfl) (Nat.le_of_ble_eq_true rfl) dX2_begin_35 ?_
    refine ah_toi (v := nI c1) (mm_max (by omega)) ?_
    refine lv_istore_n (lv' := [(2, .int (nI c1)), (0, .ref ib), (1, .int (nI s9))]) hx hb dX2_begin_38 rfl hl (by decide) rfl (fun ls hl => ?_)
    refine lv_aload_n hx hb dX2_begin_39 rfl (lv_at hl 1 rfl) ?_
    refine ah_get (ci := 1) (v := .ref hp) (C := RX2) (T := TX2) (N := 5) hx hb hE hR hts hinX2 hown fi1 rfl 1 (by decide) k20 (fun _ h9 => h9) rfl dX2_begin_40 ?_
    refine lv_iload_n hx hb dX2_begin_43 rfl (lv_at hl 0 rfl) ?_
    refine ah_newo (ci := 0) (fs := [.int (nI 0), .int (nI 0), .null, .int (nI 0), .int (nI 0), .int (nI 0)]) (C := RX1) (T := TX1) (N := 6) hx hb hE hR hS 800 hts hinX1 tyX1 tyX1_ok hown wclassLink_RX2_18_RX1 winstantiable_RX1_6 winitialized_RX1 rfl (fun j hj => by rcases (show j = 0 ∨ j = 1 ∨ j = 2 ∨ j = 3 ∨ j = 4 ∨ j = 5 by omega) with rfl | rfl | rfl | rfl | rfl | rfl <;> rfl) (Nat.le_of_ble_eq_true rfl) (show 0 + 6 ≤ 6 + ps by omega) dX2_begin_44 (fun q_1 H hq_2 hR hS => ?_)
    obtain ⟨h_3, e_4⟩ : ∃ zz9, zz9 = ah_up h1 q_1 (800, .inr (0, [.int (nI 0), .int (nI 0), .null, .int (nI 0), .int (nI 0), .int (nI 0)])) := ⟨_, rfl⟩
    have hR : ah_R G h_3 H := by rw [e_4]; exact hR
    have f_5 : h_3 ib = some (8, .inr (1, [.ref rd, .ref hp, .int (nI c1), .int (nI pt), va_rf lo])) := by rw [e_4]; exact ah_new fi1 hq_2
    have f_6 : h_3 hp = some (9, .inl (G.2.2.1 1, 16, .inr (.inr (.inr (.inr hf1))))) := by rw [e_4]; exact ah_new fp1 hq_2
    have f_7 : h_3 rd = some (10, .inr (3, [.int (nI hd), .int (nI rfr), .int (nI ps), .int (nI nm), .int (nI bp), .int (nI el), .ref ru])) := by rw [e_4]; exact ah_new fd1 hq_2
    have f_8 : h_3 q_1 = some (800, .inr (0, [.int (nI 0), .int (nI 0), .null, .int (nI 0), .int (nI 0), .int (nI 0)])) := by rw [e_4]; exact ah_up_s _ _ _
    refine lv_dup hx hb dX2_begin_47 rfl ?_
    refine lv_iload_n hx hb dX2_begin_48 rfl (lv_at hl 2 rfl) ?_
    refine lv_aload_n hx hb dX2_begin_49 rfl (lv_at hl 1 rfl) ?_
    refine ah_get (ci := 1) (v := .ref rd) (C := RX2) (T := TX2) (N := 5) hx hb hE hR hts hinX2 hown f_5 rfl 0 (by decide) k12 (fun _ h9 => h9) rfl dX2_begin_50 ?_
    refine ah_get (ci := 3) (v := .int (nI rfr)) (C := RX4) (T := TX4) (N := 7) hx hb hE hR hts hinX4 hown f_7 rfl 1 (by decide) k91 (fun _ h9 => h9) rfl dX2_begin_53 ?_
    refine lv_aload_n hx hb dX2_begin_56 rfl (lv_at hl 1 rfl) ?_
    refine ah_get (ci := 1) (v := .ref rd) (C := RX2) (T := TX2) (N := 5) hx hb hE hR hts hinX2 hown f_5 rfl 0 (by decide) k12 (fun _ h9 => h9) rfl dX2_begin_57 ?_
    refine ah_get (ci := 3) (v := .int (nI ps)) (C := RX4) (T := TX4) (N := 7) hx hb hE hR hts hinX4 hown f_7 rfl 2 (by decide) k94 (fun _ h9 => h9) rfl dX2_begin_60 ?_
    refine ah_callv (va_runI (As := [.int (nI s9), .int (nI rfr), .int (nI ps)]) (rest := [.ref q_1, .int (nI c1), .ref hp]) ⟨hx, hb, hml, hown, hts⟩ (c_Heap_init l G h_3 q_1 ps (nI s9) (nI rfr) f_8 hps) (cwI 3 hts gX2_begin_X1_init rfl rfl rfl winitialized_RX1 wmethodLink_RX2_40_yX1_init winstanceMethod_yX1_init rfl (by decide +kernel) ⟨Nat.le_of_ble_eq_true rfl, Nat.le_of_ble_eq_true rfl⟩) (ah_preS hE hR hS) rfl rfl hl.1 rfl (lv_room (Nat.le_of_ble_eq_true rfl)) dX2_begin_63 ⟨Nat.le_of_ble_eq_true rfl, show 0 + 6 + ps ≤ 6 + ps by omega⟩) hS (fun h_9 H locs p_10 hR hS => ?_)
    obtain ⟨q2, hn_q2, eq_q2⟩ := p_10
    have ne_q2 : q2 ≠ q_1 := fun q9 => by rw [q9, f_8] at hn_q2; cases hn_q2
    have f_12 : h_9 ib = some (8, .inr (1, [.ref rd, .ref hp, .int (nI c1), .int (nI pt), va_rf lo])) := by rw [eq_q2]; exact ah_keep (ah_new f_5 hn_q2) (ah_new f_8 hn_q2) (by omega)
    have f_13 : h_9 hp = some (9, .inl (G.2.2.1 1, 16, .inr (.inr (.inr (.inr hf1))))) := by rw [eq_q2]; exact ah_keep (ah_new f_6 hn_q2) (ah_new f_8 hn_q2) (by omega)
    have f_14 : h_9 rd = some (10, .inr (3, [.int (nI hd), .int (nI rfr), .int (nI ps), .int (nI nm), .int (nI bp), .int (nI el), .ref ru])) := by rw [eq_q2]; exact ah_keep (ah_new f_7 hn_q2) (ah_new f_8 hn_q2) (by omega)
    have f_15 : h_9 q_1 = some (800, .inr (0, [.int (nI s9), .int (nI rfr), .ref q2, .int (nI 0), .int (nI 0), .int (nI 0)])) := by rw [eq_q2]; exact ah_up_s _ _ _
    have f_16 : h_9 q2 = some (801, .inl (G.2.2.1 2, ps, .inr (.inr (.inr (.inr (fun _ => none)))))) := by rw [eq_q2, ah_up_n ne_q2]; exact ah_up_s _ _ _
    refine ah_aast (i := c1) hx hb hE hR hS f_13 rfl f_15 rfl (by omega) (by omega) dX2_begin_66 (fun H locs hR hS => ?_)
    obtain ⟨h_17, e_18⟩ : ∃ zz9, zz9 = ah_up h_9 hp (9, .inl (G.2.2.1 1, 16, .inr (.inr (.inr (.inr (va_up hf1 c1 (some q_1))))))) := ⟨_, rfl⟩
    have hR : ah_R G h_17 H := by rw [e_18]; exact hR
    have f_19 : h_17 ib = some (8, .inr (1, [.ref rd, .ref hp, .int (nI c1), .int (nI pt), va_rf lo])) := by rw [e_18]; exact ah_keep f_12 f_13 (by omega)
    have f_20 : h_17 hp = some (9, .inl (G.2.2.1 1, 16, .inr (.inr (.inr (.inr (va_up hf1 c1 (some q_1))))))) := by rw [e_18]; exact ah_up_s _ _ _
    have f_21 : h_17 rd = some (10, .inr (3, [.int (nI hd), .int (nI rfr), .int (nI ps), .int (nI nm), .int (nI bp), .int (nI el), .ref ru])) := by rw [e_18]; exact ah_keep f_14 f_13 (by omega)
    have f_22 : h_17 q_1 = some (800, .inr (0, [.int (nI s9), .int (nI rfr), .ref q2, .int (nI 0), .int (nI 0), .int (nI 0)])) := by rw [e_18]; exact ah_keep f_15 f_13 (by omega)
    have f_23 : h_17 q2 = some (801, .inl (G.2.2.1 2, ps, .inr (.inr (.inr (.inr (fun _ => none)))))) := by rw [e_18]; exact ah_keep f_16 f_13 (by omega)
    refine lv_aload_n hx hb dX2_begin_67 rfl (lv_at hl 1 rfl) ?_
    refine lv_iload_n hx hb dX2_begin_68 rfl (lv_at hl 0 rfl) ?_
    refine lv_iconst (v := nI 1) hx hb dX2_begin_69 (by decide) ?_
    refine lv_iadd hx hb dX2_begin_70 ?_
    refine ah_toi (v := nI (c1 + 1)) (nI_add _ _) ?_
    refine ah_put (ci := 1) (v := .int (nI (c1 + 1))) (ty := .int) (C := RX2) (T := TX2) (N := 5) hx hb hE hR hS hts hinX2 tyX2 tyX2_ok nmX2 hown f_19 rfl 2 (by decide) k58 (fun _ h9 => h9) rfl (by decide +kernel) rfl rfl (Nat.le_of_ble_eq_true rfl) dX2_begin_71 (fun H locs hR hS => ?_)
    obtain ⟨h_24, e_25⟩ : ∃ zz9, zz9 = ah_up h_17 ib (8, .inr (1, [.ref rd, .ref hp, .int (nI (c1 + 1)), .int (nI pt), va_rf lo])) := ⟨_, rfl⟩
    have hR : ah_R G h_24 H := by rw [e_25]; exact hR
    have f_26 : h_24 ib = some (8, .inr (1, [.ref rd, .ref hp, .int (nI (c1 + 1)), .int (nI pt), va_rf lo])) := by rw [e_25]; exact ah_up_s _ _ _
    have f_27 : h_24 hp = some (9, .inl (G.2.2.1 1, 16, .inr (.inr (.inr (.inr (va_up hf1 c1 (some q_1))))))) := by rw [e_25]; exact ah_keep f_20 f_19 (by omega)
    have f_28 : h_24 rd = some (10, .inr (3, [.int (nI hd), .int (nI rfr), .int (nI ps), .int (nI nm), .int (nI bp), .int (nI el), .ref ru])) := by rw [e_25]; exact ah_keep f_21 f_19 (by omega)
    have f_29 : h_24 q_1 = some (800, .inr (0, [.int (nI s9), .int (nI rfr), .ref q2, .int (nI 0), .int (nI 0), .int (nI 0)])) := by rw [e_25]; exact ah_keep f_22 f_19 (by omega)
    have f_30 : h_24 q2 = some (801, .inl (G.2.2.1 2, ps, .inr (.inr (.inr (.inr (fun _ => none)))))) := by rw [e_25]; exact ah_keep f_23 f_19 (by omega)
    refine lv_iload_n hx hb dX2_begin_74 rfl (lv_at hl 0 rfl) ?_
    refine W.widen (k := 2) (n := 6 + ps) (by omega) (by omega) ?_
    refine ah_iret (v := nI c1) hx hb hr hlocks hR hS dX2_begin_75 ?_
    have hq1n : h1 q_1 = none := hq_2
    have hq2n : h1 q2 = none := by have z9 := hn_q2; rw [e_4, ah_up_n ne_q2] at z9; exact z9
    have agF : agr off8 h1 h_24 := by
      rw [e_25]; refine agr.up ?_ f_19 (by unfold off8; omega)
      rw [e_18]; refine agr.up ?_ f_13 (by unfold off8; omega)
      rw [eq_q2]; refine agr.upN ?_ hq1n
      refine agr.new ?_ hn_q2
      rw [e_4]; exact agr.rf.new hq1n
    have hyF : agr hTag h1 h_24 := agF.weak (fun t q => by unfold off8; unfold hTag at q; omega)
    refine ⟨(q_1, q2, s9, rfr, ps, 0, 0, 0, (fun _ => none), (fun _ => none)), va_up hf1 c1 (some q_1), ?_⟩
    rw [ev1]
    refine ⟨rfl, ⟨rfl, rfl, rfl, rfl, rfl, rfl, rfl⟩, f_26, f_27, ok1.push hyF ⟨f_29, f_30, fun k _ => trivial, ?_⟩ hq1n hq2n, ag1.tr agF⟩
    refine ⟨hs9, hrf, hps1, hps, Nat.zero_le _, Nat.zero_le _, (show 0 < 2 ^ 20 by decide), ?_, ?_⟩
    · have z9 : ∀ n, cntS (fun _ => none) n = 0 := fun n => by induction n with | zero => rfl | succ n ih => show cntS _ n + 0 = 0; rw [ih]
      exact (z9 ps).symm
    · have z9 : ∀ n, sumU (fun _ => none) n = 0 := fun n => by induction n with | zero => rfl | succ n ih => show sumU _ n + 0 = 0; rw [ih]
      exact (z9 ps).symm
  refine lv_aload_n hx hb dX2_begin_0 rfl (lv_at hl 0 rfl) ?_
  refine ah_get (ci := 1) (v := .int (nI c)) (C := RX2) (T := TX2) (N := 5) hx hb hE hR hts hinX2 hown fi rfl 2 (by decide) k58 (fun _ h9 => h9) rfl dX2_begin_1 ?_
  refine lv_aload_n hx hb dX2_begin_4 rfl (lv_at hl 0 rfl) ?_
  refine ah_get (ci := 1) (v := .ref hp) (C := RX2) (T := TX2) (N := 5) hx hb hE hR hts hinX2 hown fi rfl 1 (by decide) k20 (fun _ h9 => h9) rfl dX2_begin_5 ?_
  refine ah_alen hx hb hE hR fp (show (ah_tys G)[1]? = some _ from rfl) dX2_begin_8 ?_
  refine lv_icmp_lt (tgt := 20) hx hb dX2_begin_9 (by decide) (fun c_31 => ?_) (fun c_31 => ?_)
  · skip
    have c_31 : c < 16 := (nI_ltI (by omega) (by omega)).mp c_31
    exact J20 c D hf h _ _ ls (if_neg (show ¬ c = 16 by omega)) (by omega) hok agr.rf fi fp fd hR hS (lv_sub hl [0, 1] rfl)
  · skip
    have c_31 : ¬ (c < 16) := fun z9 => c_31 ((nI_ltI (by omega) (by omega)).mpr z9)
    have c16 : c = 16 := by omega
    refine lv_aload_n hx hb dX2_begin_12 rfl (lv_at hl 0 rfl) ?_
    refine lv_aload_n hx hb dX2_begin_13 rfl (lv_at hl 0 rfl) ?_
    refine ah_calli (va_runV (As := []) (rest := [.ref ib]) ⟨hx, hb, hml, hown, hts⟩ (c_Ib_longest l G h ib hp rd c pt lo hf fi fp hc D hok (by omega)) (cwV 0 hts gX2_begin_X2_longestUntouched rfl rfl rfl (by decide +kernel) ⟨Nat.le_of_ble_eq_true rfl, Nat.le_of_ble_eq_true rfl⟩) (ah_preV hE hR hS fi rfl) rfl rfl hl.1 rfl (lv_room (Nat.le_of_ble_eq_true rfl)) dX2_begin_14 ⟨Nat.le_of_ble_eq_true rfl, Nat.le_of_ble_eq_true rfl⟩) hS (fun r_34 h_32 H locs p_33 hR hS => ?_)
    obtain ⟨e_35, e_36⟩ := p_33
    rw [e_36] at hR
    refine ah_toi e_35 ?_
    have hlu : luR (fun i => d_l (D i)) (c - 1) 1 0 < c := luR_lt _ _ _ (by omega) (by omega)
    refine ah_callv (va_runV (As := [.int (nI (luR (fun i => d_l (D i)) (c - 1) 1 0))]) (rest := []) ⟨hx, hb, hml, hown, hts⟩ (c_Ib_removeHeap l G h ib hp rd c pt lo hf fi fp hc hok.ob _ hlu) (cwV 1 hts gX2_begin_X2_removeHeap rfl rfl rfl (by decide +kernel) ⟨Nat.le_of_ble_eq_true rfl, Nat.le_of_ble_eq_true rfl⟩) (ah_preV hE hR hS fi rfl) rfl rfl hl.1 rfl (lv_room (Nat.le_of_ble_eq_true rfl)) dX2_begin_17 ⟨Nat.le_of_ble_eq_true rfl, Nat.le_of_ble_eq_true rfl⟩) hS (fun h_37 H locs p_38 hR hS => ?_)
    have agx : agr off8 h h_37 := by rw [p_38]; exact (agr.rf.up fi (by unfold off8; omega)).up (ah_keep fp fi (by omega)) (by unfold off8; omega)
    have f_40 : h_37 ib = some (8, .inr (1, [.ref rd, .ref hp, .int (nI (c - 1)), .int (nI pt), va_rf lo])) := by rw [p_38]; exact ah_keep (ah_up_s _ _ _) (ah_keep fp fi (by omega)) (by omega)
    have f_41 : h_37 hp = some (9, .inl (G.2.2.1 1, 16, .inr (.inr (.inr (.inr (rmA hf c (luR (fun i => d_l (D i)) (c - 1) 1 0))))))) := by rw [p_38]; exact ah_up_s _ _ _
    have f_42 : h_37 rd = some (10, .inr (3, [.int (nI hd), .int (nI rfr), .int (nI ps), .int (nI nm), .int (nI bp), .int (nI el), .ref ru])) := by rw [p_38]; exact ah_keep (ah_keep fd fi (by omega)) (ah_keep fp fi (by omega)) (by omega)
    exact J20 (c - 1) (shf D (luR (fun i => d_l (D i)) (c - 1) 1 0)) (rmA hf c (luR (fun i => d_l (D i)) (c - 1) 1 0)) h_37 _ _ ls (by rw [c16]; rfl) (by omega) ((hok.remove hlu).frame (agx.weak (fun t q => by unfold off8; unfold hTag at q; omega))) agx f_40 f_41 f_42 hR hS (lv_sub hl [0, 1] rfl)

set_option maxHeartbeats 4000000 in
set_option maxRecDepth 100000 in
theorem c_Ib_keep (l : Launch) (G : ah_G) (h : ah_H) (ib hp rd c pt : Nat) (lo : Option Nat) (hf : Nat → Option Nat) (fi : h ib = some (8, .inr (1, [.ref rd, .ref hp, .int (nI c), .int (nI pt), va_rf lo]))) (fp : h hp = some (9, .inl (G.2.2.1 1, 16, .inr (.inr (.inr (.inr hf)))))) (hc : c ≤ 16) (D : Nat → hDt) (hok : ibOk G h c D hf) (hd rfr ps nm bp el ru : Nat) (fd : h rd = some (10, .inr (3, [.int (nI hd), .int (nI rfr), .int (nI ps), .int (nI nm), .int (nI bp), .int (nI el), .ref ru]))) (hrf : rfr < 256) (hps1 : 1 ≤ ps) (hps : ps ≤ 255) (s9 : Nat) (hs9 : s9 ≤ 999) (ua : Nat) (L : List Nat) (fu : h ua = some (901, .inl (G.2.2.1 0, L.length, .inl (liA L)))) (hL : L.length ≤ 160) (hnm1 : 1 ≤ nm) (hnm : nm ≤ ps) (hpt : pt < 2 ^ 19) : Met l yX2_keep wsX2_keep ({ frames := 3, cells := 3, slots := 7 + ps, locals := 66 }) (ah_Pc G [.ref ib, .int (nI s9), .ref ua] h) (ah_Qi G (fun v h' => ∃ (v9 c' pt' : Nat) (D' : Nat → hDt) (lo' : Option Nat) (hf' : Nat → Option Nat) (lt : Option (Nat × (Nat → List Nat))), v = nI v9 ∧ v9 ≤ 1 ∧ keepR c pt D s9 rfr ps (nm - 1) L v9 c' pt' D' lt ∧ h' ib = some (8, .inr (1, [.ref rd, .ref hp, .int (nI c'), .int (nI pt'), va_rf lo'])) ∧ h' hp = some (9, .inl (G.2.2.1 1, 16, .inr (.inr (.inr (.inr hf'))))) ∧ c' ≤ 16 ∧ ibOk G h' c' D' hf' ∧ (lt = none → lo' = lo) ∧ (∀ P Ls, lt = some (P, Ls) → ∃ la, lo' = some la ∧ latOk G h' la P Ls) ∧ agr (fun t => t ≠ 8 ∧ t ≠ 9 ∧ t ≠ 800 ∧ t ≠ 801) h h')) 3 (7 + ps) (ah_A G) := by
  refine ah_ofW (cc := cX2_keep) (maxL := 5) (ret := (some .boolean)) (by decide) rfl (Nat.le_of_ble_eq_true rfl) ?_
  intro p e s m below meth cd9 ls hx hb hr hml hown hlocks hname hts hE hR hS hl
  have hown : s.vm.findClass RX2 = some m.cls := hown
  have hl : lv_has ls 5 [(0, .ref ib), (1, .int (nI s9)), (2, .ref ua)] := hl
  have k20 := hts (.fieldLink RX2 20 "TextParts$Inbox" "heaps" "[LTextParts$Heap;") (by decide +kernel)
  have hinX2 : ∀ w ∈ wsX20, w ∈ wsX2_keep := by decide +kernel
  have k12 := hts (.fieldLink RX2 12 "TextParts$Inbox" "reader" "LTextParts$PartReader;") (by decide +kernel)
  have k78 := hts (.fieldLink RX2 78 "TextParts$PartReader" "number" "I") (by decide +kernel)
  have hinX4 : ∀ w ∈ wsX40, w ∈ wsX2_keep := by decide +kernel
  have k81 := hts (.fieldLink RX2 81 "TextParts$Inbox" "puts" "I") (by decide +kernel)
  have k84 := hts (.fieldLink RX2 84 "TextParts$Heap" "lastPut" "I") (by decide +kernel)
  have hinX1 : ∀ w ∈ wsX10, w ∈ wsX2_keep := by decide +kernel
  have k43 := hts (.fieldLink RX2 43 "TextParts$Inbox" "latest" "LTextParts$Heap;") (by decide +kernel)
  have J17 : ∀ (c1 : Nat) (p9 : Nat) (D1 : Nat → hDt) (hf1 : Nat → Option Nat) (h1 : ah_H) (H : Heap) (locs : List Loc) (ls : Array Slot), (selR c D s9 rfr ps c1 p9 D1) → (c1 ≤ 16) → (p9 < c1) → (d_n (D1 p9) = ps) → (ibOk G h1 c1 D1 hf1) → (agr off8 h h1) → (h1 ib = some (8, .inr (1, [.ref rd, .ref hp, .int (nI c1), .int (nI pt), va_rf lo]))) → (h1 hp = some (9, .inl (G.2.2.1 1, 16, .inr (.inr (.inr (.inr hf1)))))) → (h1 rd = some (10, .inr (3, [.int (nI hd), .int (nI rfr), .int (nI ps), .int (nI nm), .int (nI bp), .int (nI el), .ref ru]))) → (h1 ua = some (901, .inl (G.2.2.1 0, L.length, .inl (liA L)))) → ah_R G h1 H → va_S (ah_A G) s.heap H locs → lv_has ls 5 [(3, .int (nI p9)), (0, .ref ib), (1, .int (nI s9)), (2, .ref ua)] → W p l e ({ frames := 3, cells := 3, slots := 7 + ps, locals := 66 }) s m ([.ref ib, .int (nI s9), .ref ua] : List Value).toArray below meth cd9 H locs 2 (6 + ps) (MQ below (ah_Qi G (fun v h' => ∃ (v9 c' pt' : Nat) (D' : Nat → hDt) (lo' : Option Nat) (hf' : Nat → Option Nat) (lt : Option (Nat × (Nat → List Nat))), v = nI v9 ∧ v9 ≤ 1 ∧ keepR c pt D s9 rfr ps (nm - 1) L v9 c' pt' D' lt ∧ h' ib = some (8, .inr (1, [.ref rd, .ref hp, .int (nI c'), .int (nI pt'), va_rf lo'])) ∧ h' hp = some (9, .inl (G.2.2.1 1, 16, .inr (.inr (.inr (.inr hf'))))) ∧ c' ≤ 16 ∧ ibOk G h' c' D' hf' ∧ (lt = none → lo' = lo) ∧ (∀ P Ls, lt = some (P, Ls) → ∃ la, lo' = some la ∧ latOk G h' la P Ls) ∧ agr (fun t => t ≠ 8 ∧ t ≠ 9 ∧ t ≠ 800 ∧ t ≠ 801) h h')) ([.ref ib, .int (nI s9), .ref ua] : List Value).toArray s 3 (7 + ps) (ah_A G)) (F0 m 17 ls []) := by
    intro c1 p9 D1 hf1 h1 H locs ls sel1 hc1 hp9 hn1 ok1 ag1 fi1 fp1 fd1 fu1 hR hS hl
    refine lv_aload_n hx hb dX2_keep_17 rfl (lv_at hl 1 rfl) ?_
    refine ah_get (ci := 1) (v := .ref hp) (C := RX2) (T := TX2) (N := 5) hx hb hE hR hts hinX2 hown fi1 rfl 1 (by decide) k20 (fun _ h9 => h9) rfl dX2_keep_18 ?_
    refine lv_iload_n hx hb dX2_keep_21 rfl (lv_at hl 0 rfl) ?_
    refine ah_aald (i := p9) hx hb hE hR fp1 rfl (by omega) (by omega) dX2_keep_22 ?_
    rw [show hf1 p9 = some (d_a (D1 p9)) from (ok1.1 p9 hp9).1]
    obtain ⟨ka, kb, kc, ks, kr, kn1, kn2, kt, ku, kl, kcn, ksu⟩ := (ok1.1 p9 hp9).2
    refine lv_astore (lv' := [(4, .ref (d_a (D1 p9))), (3, .int (nI p9)), (0, .ref ib), (1, .int (nI s9)), (2, .ref ua)]) hx hb dX2_keep_23 hl (by decide) rfl (fun ls hl => ?_)
    refine lv_aload hx hb dX2_keep_25 (lv_at hl 0 rfl) ?_
    refine lv_ifnull hx hb dX2_keep_27 ?_
    refine lv_aload hx hb dX2_keep_30 (lv_at hl 0 rfl) ?_
    refine lv_aload_n hx hb dX2_keep_32 rfl (lv_at hl 2 rfl) ?_
    refine ah_get (ci := 1) (v := .ref rd) (C := RX2) (T := TX2) (N := 5) hx hb hE hR hts hinX2 hown fi1 rfl 0 (by decide) k12 (fun _ h9 => h9) rfl dX2_keep_33 ?_
    refine ah_get (ci := 3) (v := .int (nI nm)) (C := RX4) (T := TX4) (N := 7) hx hb hE hR hts hinX4 hown fd1 rfl 3 (by decide) k78 (fun _ h9 => h9) rfl dX2_keep_36 ?_
    refine lv_aload_n hx hb dX2_keep_39 rfl (lv_at hl 4 rfl) ?_
    refine ah_calli (va_runV (As := [.int (nI nm), .ref ua]) (rest := []) ⟨hx, hb, hml, hown, hts⟩ (c_Heap_add l G h1 (d_a (D1 p9)) (d_p (D1 p9)) (d_n (D1 p9)) (d_t (D1 p9)) (d_u (D1 p9)) (d_l (D1 p9)) (nI (d_s (D1 p9))) (nI (d_r (D1 p9))) (d_f (D1 p9)) ka kb (by omega) (by omega) (by omega) nm ua L.length (fun j => L.getD j 0) fu1 hnm1 (by omega) (by omega)) (cwV 2 hts gX2_keep_X1_add rfl rfl rfl (by decide +kernel) ⟨Nat.le_of_ble_eq_true rfl, Nat.le_of_ble_eq_true rfl⟩) (ah_preV hE hR hS ka rfl) rfl rfl hl.1 rfl (lv_room (Nat.le_of_ble_eq_true rfl)) dX2_keep_40 ⟨Nat.le_of_ble_eq_true rfl, show 6 + ps + 1 ≤ 7 + ps by omega⟩) hS (fun r_3 h_1 H locs p_2 hR hS => ?_)
    have hpc9 := kc (nm - 1) (by omega)
    cases ef9 : d_f (D1 p9) (nm - 1) with
    | some q0 =>
      have hLs : ∃ L0, d_L (D1 p9) (nm - 1) = some L0 := by
        cases eL9 : d_L (D1 p9) (nm - 1) with
        | none => rw [ef9, eL9] at hpc9; exact hpc9.elim
        | some L0 => exact ⟨L0, rfl⟩
      obtain ⟨ev8, eh8⟩ := p_2.1 q0 ef9
      rw [eh8] at hR
      refine ah_toi ev8 ?_
      refine lv_if_ne (tgt := 48) hx hb dX2_keep_43 (by decide) (fun c_4 => ?_) (fun c_4 => ?_)
      · skip
        exact absurd c_4 (by decide)
      · skip
        refine lv_iconst (v := nI 0) hx hb dX2_keep_46 (by decide) ?_
        refine W.widen (k := 3) (n := 7 + ps) (by omega) (by omega) ?_
        refine ah_zret (v := nI 0) hx hb hr hlocks hR hS dX2_keep_47 (by decide) ?_
        exact ⟨0, c1, pt, D1, lo, hf1, none, rfl, by decide, ⟨c1, p9, D1, sel1, Or.inl ⟨hLs, rfl, rfl, rfl, rfl, rfl⟩⟩, fi1, fp1, hc1, ok1, fun _ => rfl, fun _ _ q => (nomatch q), ag1.weak (fun t q => ⟨q.1, q.2.1⟩)⟩
    | none =>
      have hLn : d_L (D1 p9) (nm - 1) = none := by
        cases eL9 : d_L (D1 p9) (nm - 1) with
        | none => rfl
        | some L0 => rw [ef9, eL9] at hpc9; exact hpc9.elim
      obtain ⟨ev8, q8, hq8, eh8⟩ := p_2.2 ef9
      have fP8 : ah_up h1 q8 (900, .inr (4, [.ref ua])) (d_p (D1 p9)) = some (801, .inl (G.2.2.1 2, d_n (D1 p9), .inr (.inr (.inr (.inr (d_f (D1 p9))))))) := ah_new kb hq8
      have fA8 : ah_up h1 q8 (900, .inr (4, [.ref ua])) (d_a (D1 p9)) = some (800, .inr (0, [.int (nI (d_s (D1 p9))), .int (nI (d_r (D1 p9))), .ref (d_p (D1 p9)), .int (nI (d_t (D1 p9))), .int (nI (d_u (D1 p9))), .int (nI (d_l (D1 p9)))])) := ah_new ka hq8
      have ag8 : agr2 off8 (d_a (D1 p9)) (d_p (D1 p9)) h1 h_1 := by rw [eh8]; exact ((agr2.rf.new hq8).upP).upA
      have f_5 : h_1 ib = some (8, .inr (1, [.ref rd, .ref hp, .int (nI c1), .int (nI pt), va_rf lo])) := by rw [eh8]; exact ah_keep (ah_keep (ah_new fi1 hq8) fP8 (by omega)) (ah_keep fA8 fP8 (by omega)) (by omega)
      have f_6 : h_1 hp = some (9, .inl (G.2.2.1 1, 16, .inr (.inr (.inr (.inr hf1))))) := by rw [eh8]; exact ah_keep (ah_keep (ah_new fp1 hq8) fP8 (by omega)) (ah_keep fA8 fP8 (by omega)) (by omega)
      have f_7 : h_1 rd = some (10, .inr (3, [.int (nI hd), .int (nI rfr), .int (nI ps), .int (nI nm), .int (nI bp), .int (nI el), .ref ru])) := ag8 _ _ _ (by unfold off8; omega) (ah_ne fd1 ka (by omega)) (ah_ne fd1 kb (by omega)) fd1
      have f_8 : h_1 ua = some (901, .inl (G.2.2.1 0, L.length, .inl (liA L))) := ag8 _ _ _ (by unfold off8; omega) (ah_ne fu1 ka (by omega)) (ah_ne fu1 kb (by omega)) fu1
      have f_9 : h_1 (d_a (D1 p9)) = some (800, .inr (0, [.int (nI (d_s (D1 p9))), .int (nI (d_r (D1 p9))), .ref (d_p (D1 p9)), .int (nI (d_t (D1 p9) + 1)), .int (nI (d_u (D1 p9) + L.length)), .int (nI (d_l (D1 p9)))])) := by rw [eh8]; exact ah_up_s _ _ _
      have f_10 : h_1 (d_p (D1 p9)) = some (801, .inl (G.2.2.1 2, d_n (D1 p9), .inr (.inr (.inr (.inr (va_up (d_f (D1 p9)) (nm - 1) (some q8))))))) := by rw [eh8, ah_up_n (ah_ne kb ka (by omega))]; exact ah_up_s _ _ _
      have f_11 : h_1 q8 = some (900, .inr (4, [.ref ua])) := by rw [eh8]; exact ah_keep (ah_keep (ah_up_s _ _ _) fP8 (by omega)) (ah_keep fA8 fP8 (by omega)) (by omega)
      refine ah_toi ev8 ?_
      refine lv_if_ne (tgt := 48) hx hb dX2_keep_43 (by decide) (fun c_12 => ?_) (fun c_12 => ?_)
      · skip
        refine lv_aload_n hx hb dX2_keep_48 rfl (lv_at hl 2 rfl) ?_
        refine lv_dup hx hb dX2_keep_49 rfl ?_
        refine ah_get (ci := 1) (v := .int (nI pt)) (C := RX2) (T := TX2) (N := 5) hx hb hE hR hts hinX2 hown f_5 rfl 3 (by decide) k81 (fun _ h9 => h9) rfl dX2_keep_50 ?_
        refine lv_iconst (v := nI 1) hx hb dX2_keep_53 (by decide) ?_
        refine lv_iadd hx hb dX2_keep_54 ?_
        refine ah_toi (v := nI (pt + 1)) (nI_add _ _) ?_
        refine ah_put (ci := 1) (v := .int (nI (pt + 1))) (ty := .int) (C := RX2) (T := TX2) (N := 5) hx hb hE hR hS hts hinX2 tyX2 tyX2_ok nmX2 hown f_5 rfl 3 (by decide) k81 (fun _ h9 => h9) rfl (by decide +kernel) rfl rfl (Nat.le_of_ble_eq_true rfl) dX2_keep_55 (fun H locs hR hS => ?_)
        obtain ⟨h_13, e_14⟩ : ∃ zz9, zz9 = ah_up h_1 ib (8, .inr (1, [.ref rd, .ref hp, .int (nI c1), .int (nI (pt + 1)), va_rf lo])) := ⟨_, rfl⟩
        have hR : ah_R G h_13 H := by rw [e_14]; exact hR
        have f_15 : h_13 ib = some (8, .inr (1, [.ref rd, .ref hp, .int (nI c1), .int (nI (pt + 1)), va_rf lo])) := by rw [e_14]; exact ah_up_s _ _ _
        have f_16 : h_13 hp = some (9, .inl (G.2.2.1 1, 16, .inr (.inr (.inr (.inr hf1))))) := by rw [e_14]; exact ah_keep f_6 f_5 (by omega)
        have f_17 : h_13 rd = some (10, .inr (3, [.int (nI hd), .int (nI rfr), .int (nI ps), .int (nI nm), .int (nI bp), .int (nI el), .ref ru])) := by rw [e_14]; exact ah_keep f_7 f_5 (by omega)
        have f_18 : h_13 ua = some (901, .inl (G.2.2.1 0, L.length, .inl (liA L))) := by rw [e_14]; exact ah_keep f_8 f_5 (by omega)
        have f_19 : h_13 (d_a (D1 p9)) = some (800, .inr (0, [.int (nI (d_s (D1 p9))), .int (nI (d_r (D1 p9))), .ref (d_p (D1 p9)), .int (nI (d_t (D1 p9) + 1)), .int (nI (d_u (D1 p9) + L.length)), .int (nI (d_l (D1 p9)))])) := by rw [e_14]; exact ah_keep f_9 f_5 (by omega)
        have f_20 : h_13 (d_p (D1 p9)) = some (801, .inl (G.2.2.1 2, d_n (D1 p9), .inr (.inr (.inr (.inr (va_up (d_f (D1 p9)) (nm - 1) (some q8))))))) := by rw [e_14]; exact ah_keep f_10 f_5 (by omega)
        have f_21 : h_13 q8 = some (900, .inr (4, [.ref ua])) := by rw [e_14]; exact ah_keep f_11 f_5 (by omega)
        have ag7 : agr2 off8 (d_a (D1 p9)) (d_p (D1 p9)) h1 h_13 := by rw [e_14]; exact ag8.upT f_5 (by unfold off8; omega)
        refine lv_aload hx hb dX2_keep_58 (lv_at hl 0 rfl) ?_
        refine lv_aload_n hx hb dX2_keep_60 rfl (lv_at hl 2 rfl) ?_
        refine ah_get (ci := 1) (v := .int (nI (pt + 1))) (C := RX2) (T := TX2) (N := 5) hx hb hE hR hts hinX2 hown f_15 rfl 3 (by decide) k81 (fun _ h9 => h9) rfl dX2_keep_61 ?_
        refine ah_put (ci := 0) (v := .int (nI (pt + 1))) (ty := .int) (C := RX1) (T := TX1) (N := 6) hx hb hE hR hS hts hinX1 tyX1 tyX1_ok nmX1 hown f_19 rfl 5 (by decide) k84 (fun _ h9 => h9) rfl (by decide +kernel) rfl rfl (Nat.le_of_ble_eq_true rfl) dX2_keep_64 (fun H locs hR hS => ?_)
        obtain ⟨h_22, e_23⟩ : ∃ zz9, zz9 = ah_up h_13 (d_a (D1 p9)) (800, .inr (0, [.int (nI (d_s (D1 p9))), .int (nI (d_r (D1 p9))), .ref (d_p (D1 p9)), .int (nI (d_t (D1 p9) + 1)), .int (nI (d_u (D1 p9) + L.length)), .int (nI (pt + 1))])) := ⟨_, rfl⟩
        have hR : ah_R G h_22 H := by rw [e_23]; exact hR
        have f_24 : h_22 ib = some (8, .inr (1, [.ref rd, .ref hp, .int (nI c1), .int (nI (pt + 1)), va_rf lo])) := by rw [e_23]; exact ah_keep f_15 f_19 (by omega)
        have f_25 : h_22 hp = some (9, .inl (G.2.2.1 1, 16, .inr (.inr (.inr (.inr hf1))))) := by rw [e_23]; exact ah_keep f_16 f_19 (by omega)
        have f_26 : h_22 rd = some (10, .inr (3, [.int (nI hd), .int (nI rfr), .int (nI ps), .int (nI nm), .int (nI bp), .int (nI el), .ref ru])) := by rw [e_23]; exact ah_keep f_17 f_19 (by omega)
        have f_27 : h_22 ua = some (901, .inl (G.2.2.1 0, L.length, .inl (liA L))) := by rw [e_23]; exact ah_keep f_18 f_19 (by omega)
        have f_28 : h_22 (d_a (D1 p9)) = some (800, .inr (0, [.int (nI (d_s (D1 p9))), .int (nI (d_r (D1 p9))), .ref (d_p (D1 p9)), .int (nI (d_t (D1 p9) + 1)), .int (nI (d_u (D1 p9) + L.length)), .int (nI (pt + 1))])) := by rw [e_23]; exact ah_up_s _ _ _
        have f_29 : h_22 (d_p (D1 p9)) = some (801, .inl (G.2.2.1 2, d_n (D1 p9), .inr (.inr (.inr (.inr (va_up (d_f (D1 p9)) (nm - 1) (some q8))))))) := by rw [e_23]; exact ah_keep f_20 f_19 (by omega)
        have f_30 : h_22 q8 = some (900, .inr (4, [.ref ua])) := by rw [e_23]; exact ah_keep f_21 f_19 (by omega)
        have ag6 : agr2 off8 (d_a (D1 p9)) (d_p (D1 p9)) h1 h_22 := by rw [e_23]; exact ag7.upA
        have ag69 : agr (fun t => t = 900 ∨ t = 901) h1 h_22 := (ag6.off ka kb).weak (fun t q => by omega)
        have hcn := cntS_up (L := L) hLn (d_n (D1 p9)); rw [if_pos (show nm - 1 < d_n (D1 p9) by omega), ← kcn] at hcn
        have hsn := sumU_up (L := L) hLn (d_n (D1 p9)); rw [if_pos (show nm - 1 < d_n (D1 p9) by omega), ← ksu] at hsn
        have hcl := cntS_le (va_up (d_L (D1 p9)) (nm - 1) (some L)) (d_n (D1 p9))
        have hps9 : ∀ k, k < d_n (D1 p9) → pcOk G h_22 (va_up (d_f (D1 p9)) (nm - 1) (some q8) k) (va_up (d_L (D1 p9)) (nm - 1) (some L) k) := by
          intro k hk
          by_cases e9 : k = nm - 1
          · rw [e9, va_up_self, va_up_self]; exact ⟨ua, f_30, f_27, hL⟩
          · rw [va_up_ne _ _ e9, va_up_ne _ _ e9]; exact (kc k hk).frame9 ag69
        have hk6 : heapOk G h_22 (d_a (D1 p9), d_p (D1 p9), d_s (D1 p9), d_r (D1 p9), d_n (D1 p9), d_t (D1 p9) + 1, d_u (D1 p9) + L.length, pt + 1, va_up (d_f (D1 p9)) (nm - 1) (some q8), va_up (d_L (D1 p9)) (nm - 1) (some L)) := ⟨f_28, f_29, hps9, ks, kr, kn1, kn2, (show d_t (D1 p9) + 1 ≤ 255 by omega), (show d_u (D1 p9) + L.length ≤ 160 * (d_t (D1 p9) + 1) by omega), (show pt + 1 < 2 ^ 20 by omega), hcn.symm, hsn.symm⟩
        have ok6 : ibOk G h_22 c1 (va_up D1 p9 (d_a (D1 p9), d_p (D1 p9), d_s (D1 p9), d_r (D1 p9), d_n (D1 p9), d_t (D1 p9) + 1, d_u (D1 p9) + L.length, pt + 1, va_up (d_f (D1 p9)) (nm - 1) (some q8), va_up (d_L (D1 p9)) (nm - 1) (some L))) hf1 := ok1.set hp9 ag6 hk6 rfl rfl
        refine lv_aload hx hb dX2_keep_67 (lv_at hl 0 rfl) ?_
        refine ah_calli (va_runV (As := []) (rest := []) ⟨hx, hb, hml, hown, hts⟩ (c_Heap_isWhole l G h_22 (d_a (D1 p9)) (d_p (D1 p9)) (d_n (D1 p9)) (d_t (D1 p9) + 1) (d_u (D1 p9) + L.length) (pt + 1) (nI (d_s (D1 p9))) (nI (d_r (D1 p9))) (va_up (d_f (D1 p9)) (nm - 1) (some q8)) f_28 f_29 (by omega) (by omega) (by omega)) (cwV 0 hts gX2_keep_X1_isWhole rfl rfl rfl (by decide +kernel) ⟨Nat.le_of_ble_eq_true rfl, Nat.le_of_ble_eq_true rfl⟩) (ah_preV hE hR hS f_28 rfl) rfl rfl hl.1 rfl (lv_room (Nat.le_of_ble_eq_true rfl)) dX2_keep_69 ⟨show (2 + 1) + 0 ≤ 3 by omega, show (6 + ps + 1) + 0 ≤ 7 + ps by omega⟩) hS (fun r_33 h_31 H locs p_32 hR hS => ?_)
        obtain ⟨e_34, e_35⟩ := p_32
        rw [e_35] at hR
        refine ah_toi e_34 ?_
        have h01 : (if d_t (D1 p9) + 1 = d_n (D1 p9) then 1 else 0) < 2 ^ 31 := if10
        refine lv_if_ne (tgt := 77) hx hb dX2_keep_72 (by decide) (fun c_36 => ?_) (fun c_36 => ?_)
        · skip
          have c_36 : ¬ ((if d_t (D1 p9) + 1 = d_n (D1 p9) then 1 else 0) = 0) := fun z9 => c_36 ((zi_eq (by omega)).mpr z9)
          have hwh := if10t c_36
          refine lv_aload_n hx hb dX2_keep_77 rfl (lv_at hl 2 rfl) ?_
          refine lv_iload_n hx hb dX2_keep_78 rfl (lv_at hl 1 rfl) ?_
          refine ah_callv (va_runV (As := [.int (nI p9)]) (rest := []) ⟨hx, hb, hml, hown, hts⟩ (c_Ib_removeHeap l G h_22 ib hp rd c1 (pt + 1) lo hf1 f_24 f_25 hc1 ok6.ob p9 hp9) (cwV 1 hts gX2_keep_X2_removeHeap rfl rfl rfl (by decide +kernel) ⟨Nat.le_of_ble_eq_true rfl, Nat.le_of_ble_eq_true rfl⟩) (ah_preV hE hR hS f_24 rfl) rfl rfl hl.1 rfl (lv_room (Nat.le_of_ble_eq_true rfl)) dX2_keep_79 ⟨show (2 + 1) + 0 ≤ 3 by omega, show (6 + ps + 1) + 0 ≤ 7 + ps by omega⟩) hS (fun h_37 H locs p_38 hR hS => ?_)
          have ag5 : agr2 off8 (d_a (D1 p9)) (d_p (D1 p9)) h1 h_37 := by rw [p_38]; exact (ag6.upT f_24 (by unfold off8; omega)).upT (ah_keep f_25 f_24 (by omega)) (by unfold off8; omega)
          have f_40 : h_37 ib = some (8, .inr (1, [.ref rd, .ref hp, .int (nI (c1 - 1)), .int (nI (pt + 1)), va_rf lo])) := by rw [p_38]; exact ah_keep (ah_up_s _ _ _) (ah_keep f_25 f_24 (by omega)) (by omega)
          have f_41 : h_37 hp = some (9, .inl (G.2.2.1 1, 16, .inr (.inr (.inr (.inr (rmA hf1 c1 p9)))))) := by rw [p_38]; exact ah_up_s _ _ _
          have f_42 : h_37 rd = some (10, .inr (3, [.int (nI hd), .int (nI rfr), .int (nI ps), .int (nI nm), .int (nI bp), .int (nI el), .ref ru])) := by rw [p_38]; exact ah_keep (ah_keep f_26 f_24 (by omega)) (ah_keep f_25 f_24 (by omega)) (by omega)
          have f_43 : h_37 ua = some (901, .inl (G.2.2.1 0, L.length, .inl (liA L))) := by rw [p_38]; exact ah_keep (ah_keep f_27 f_24 (by omega)) (ah_keep f_25 f_24 (by omega)) (by omega)
          have f_44 : h_37 (d_a (D1 p9)) = some (800, .inr (0, [.int (nI (d_s (D1 p9))), .int (nI (d_r (D1 p9))), .ref (d_p (D1 p9)), .int (nI (d_t (D1 p9) + 1)), .int (nI (d_u (D1 p9) + L.length)), .int (nI (pt + 1))])) := by rw [p_38]; exact ah_keep (ah_keep f_28 f_24 (by omega)) (ah_keep f_25 f_24 (by omega)) (by omega)
          have f_45 : h_37 (d_p (D1 p9)) = some (801, .inl (G.2.2.1 2, d_n (D1 p9), .inr (.inr (.inr (.inr (va_up (d_f (D1 p9)) (nm - 1) (some q8))))))) := by rw [p_38]; exact ah_keep (ah_keep f_29 f_24 (by omega)) (ah_keep f_25 f_24 (by omega)) (by omega)
          have f_46 : h_37 q8 = some (900, .inr (4, [.ref ua])) := by rw [p_38]; exact ah_keep (ah_keep f_30 f_24 (by omega)) (ah_keep f_25 f_24 (by omega)) (by omega)
          refine lv_aload_n hx hb dX2_keep_82 rfl (lv_at hl 2 rfl) ?_
          refine lv_aload hx hb dX2_keep_83 (lv_at hl 0 rfl) ?_
          refine ah_put (ci := 1) (v := .ref (d_a (D1 p9))) (ty := .object "TextParts$Heap") (C := RX2) (T := TX2) (N := 5) hx hb hE hR hS hts hinX2 tyX2 tyX2_ok nmX2 hown f_40 rfl 4 (by decide) k43 (fun _ h9 => h9) rfl (by decide +kernel) rfl rfl (Nat.le_of_ble_eq_true rfl) dX2_keep_85 (fun H locs hR hS => ?_)
          obtain ⟨h_47, e_48⟩ : ∃ zz9, zz9 = ah_up h_37 ib (8, .inr (1, [.ref rd, .ref hp, .int (nI (c1 - 1)), .int (nI (pt + 1)), .ref (d_a (D1 p9))])) := ⟨_, rfl⟩
          have hR : ah_R G h_47 H := by rw [e_48]; exact hR
          have f_49 : h_47 ib = some (8, .inr (1, [.ref rd, .ref hp, .int (nI (c1 - 1)), .int (nI (pt + 1)), .ref (d_a (D1 p9))])) := by rw [e_48]; exact ah_up_s _ _ _
          have f_50 : h_47 hp = some (9, .inl (G.2.2.1 1, 16, .inr (.inr (.inr (.inr (rmA hf1 c1 p9)))))) := by rw [e_48]; exact ah_keep f_41 f_40 (by omega)
          have f_51 : h_47 rd = some (10, .inr (3, [.int (nI hd), .int (nI rfr), .int (nI ps), .int (nI nm), .int (nI bp), .int (nI el), .ref ru])) := by rw [e_48]; exact ah_keep f_42 f_40 (by omega)
          have f_52 : h_47 ua = some (901, .inl (G.2.2.1 0, L.length, .inl (liA L))) := by rw [e_48]; exact ah_keep f_43 f_40 (by omega)
          have f_53 : h_47 (d_a (D1 p9)) = some (800, .inr (0, [.int (nI (d_s (D1 p9))), .int (nI (d_r (D1 p9))), .ref (d_p (D1 p9)), .int (nI (d_t (D1 p9) + 1)), .int (nI (d_u (D1 p9) + L.length)), .int (nI (pt + 1))])) := by rw [e_48]; exact ah_keep f_44 f_40 (by omega)
          have f_54 : h_47 (d_p (D1 p9)) = some (801, .inl (G.2.2.1 2, d_n (D1 p9), .inr (.inr (.inr (.inr (va_up (d_f (D1 p9)) (nm - 1) (some q8))))))) := by rw [e_48]; exact ah_keep f_45 f_40 (by omega)
          have f_55 : h_47 q8 = some (900, .inr (4, [.ref ua])) := by rw [e_48]; exact ah_keep f_46 f_40 (by omega)
          have ag4 : agr2 off8 (d_a (D1 p9)) (d_p (D1 p9)) h1 h_47 := by rw [e_48]; exact ag5.upT f_40 (by unfold off8; omega)
          have fP3 := f_54
          obtain ⟨h8, e8h⟩ : ∃ zz9, zz9 = ah_up (ah_up h_47 (d_a (D1 p9)) (810, .inr (0, [.int (nI (d_s (D1 p9))), .int (nI (d_r (D1 p9))), .ref (d_p (D1 p9)), .int (nI (d_t (D1 p9) + 1)), .int (nI (d_u (D1 p9) + L.length)), .int (nI (pt + 1))]))) (d_p (D1 p9)) (811, .inl (G.2.2.1 2, d_n (D1 p9), .inr (.inr (.inr (.inr (va_up (d_f (D1 p9)) (nm - 1) (some q8))))))) := ⟨_, rfl⟩
          have fP2 : ah_up h_47 (d_a (D1 p9)) (810, .inr (0, [.int (nI (d_s (D1 p9))), .int (nI (d_r (D1 p9))), .ref (d_p (D1 p9)), .int (nI (d_t (D1 p9) + 1)), .int (nI (d_u (D1 p9) + L.length)), .int (nI (pt + 1))])) (d_p (D1 p9)) = some (801, .inl (G.2.2.1 2, d_n (D1 p9), .inr (.inr (.inr (.inr (va_up (d_f (D1 p9)) (nm - 1) (some q8))))))) := ah_keep f_54 f_53 (by omega)
          have hR : ah_R G h8 H := by rw [e8h]; exact ah_retag 811 (ah_retag 810 hR f_53) fP2
          have ag3 : agr2 off8 (d_a (D1 p9)) (d_p (D1 p9)) h1 h8 := by rw [e8h]; exact (ag4.upA).upP
          have fA1 : h8 (d_a (D1 p9)) = some (810, .inr (0, [.int (nI (d_s (D1 p9))), .int (nI (d_r (D1 p9))), .ref (d_p (D1 p9)), .int (nI (d_t (D1 p9) + 1)), .int (nI (d_u (D1 p9) + L.length)), .int (nI (pt + 1))])) := by rw [e8h]; exact ah_keep (ah_up_s _ _ _) fP2 (by omega)
          have fP1 : h8 (d_p (D1 p9)) = some (811, .inl (G.2.2.1 2, d_n (D1 p9), .inr (.inr (.inr (.inr (va_up (d_f (D1 p9)) (nm - 1) (some q8))))))) := by rw [e8h]; exact ah_up_s _ _ _
          have gib : h8 ib = some (8, .inr (1, [.ref rd, .ref hp, .int (nI (c1 - 1)), .int (nI (pt + 1)), .ref (d_a (D1 p9))])) := by rw [e8h]; exact ah_keep (ah_keep f_49 f_53 (by omega)) fP2 (by omega)
          have ghp : h8 hp = some (9, .inl (G.2.2.1 1, 16, .inr (.inr (.inr (.inr (rmA hf1 c1 p9)))))) := by rw [e8h]; exact ah_keep (ah_keep f_50 f_53 (by omega)) fP2 (by omega)
          have ag39 : agr (fun t => t = 900 ∨ t = 901) h1 h8 := (ag3.off ka kb).weak (fun t q => by omega)
          have hps3 : ∀ k, k < d_n (D1 p9) → pcOk G h8 (va_up (d_f (D1 p9)) (nm - 1) (some q8) k) (va_up (d_L (D1 p9)) (nm - 1) (some L) k) := by
            intro k hk
            by_cases e9 : k = nm - 1
            · rw [e9, va_up_self, va_up_self]; exact ⟨ua, by rw [e8h]; exact ah_keep (ah_keep f_55 f_53 (by omega)) fP2 (by omega), by rw [e8h]; exact ah_keep (ah_keep f_52 f_53 (by omega)) fP2 (by omega), hL⟩
            · rw [va_up_ne _ _ e9, va_up_ne _ _ e9]; exact (kc k hk).frame9 ag39
          have hfull := cntS_full (Lf := va_up (d_L (D1 p9)) (nm - 1) (some L)) (d_n (D1 p9)) (by omega)
          have hlat : latOk G h8 (d_a (D1 p9)) ps (fun j => (va_up (d_L (D1 p9)) (nm - 1) (some L) j).getD []) := by
            rw [← hn1]
            refine ⟨d_p (D1 p9), d_t (D1 p9) + 1, d_u (D1 p9) + L.length, pt + 1, nI (d_s (D1 p9)), nI (d_r (D1 p9)), va_up (d_f (D1 p9)) (nm - 1) (some q8), (fun k => (va_up (d_f (D1 p9)) (nm - 1) (some q8) k).getD 0), fA1, fP1, by omega, by omega, by omega, by rw [← hsn, sumU_tot], fun k hk => ?_⟩
            obtain ⟨L9, eL9⟩ := hfull k hk
            have hp3 := hps3 k hk
            rw [eL9] at hp3
            cases ef8 : va_up (d_f (D1 p9)) (nm - 1) (some q8) k with
            | none => rw [ef8] at hp3; exact hp3.elim
            | some q7 => rw [ef8] at hp3; exact ⟨by show some q7 = some ((va_up (d_f (D1 p9)) (nm - 1) (some q8) k).getD 0); rw [ef8]; rfl, by show pieceOk G h8 ((va_up (d_f (D1 p9)) (nm - 1) (some q8) k).getD 0) ((va_up (d_L (D1 p9)) (nm - 1) (some L) k).getD []); rw [ef8, eL9]; exact hp3⟩
          refine lv_iconst (v := nI 1) hx hb dX2_keep_88 (by decide) ?_
          refine W.widen (k := 3) (n := 7 + ps) (by omega) (by omega) ?_
          refine ah_zret (v := nI 1) hx hb hr hlocks hR hS dX2_keep_89 (by decide) ?_
          exact ⟨1, c1 - 1, pt + 1, shf D1 p9, some (d_a (D1 p9)), rmA hf1 c1 p9, some (ps, fun j => (va_up (d_L (D1 p9)) (nm - 1) (some L) j).getD []), rfl, by decide, ⟨c1, p9, D1, sel1, Or.inr ⟨hLn, rfl, (d_a (D1 p9), d_p (D1 p9), d_s (D1 p9), d_r (D1 p9), d_n (D1 p9), d_t (D1 p9) + 1, d_u (D1 p9) + L.length, pt + 1, va_up (d_f (D1 p9)) (nm - 1) (some q8), va_up (d_L (D1 p9)) (nm - 1) (some L)), ⟨rfl, rfl, rfl, rfl, rfl, rfl⟩, Or.inr ⟨by omega, rfl, rfl, rfl, rfl⟩⟩⟩, gib, ghp, by omega, ok1.out hp9 ag3, fun q => (nomatch q), fun P Ls q => by cases q; exact ⟨_, rfl, hlat⟩, (ag1.weak (fun t q => ⟨q.1, q.2.1⟩)).tr (ag3.off ka kb)⟩
        · skip
          have c_36 : (if d_t (D1 p9) + 1 = d_n (D1 p9) then 1 else 0) = 0 := (zi_eq (by omega)).mp c_36
          have hwh := if10f c_36
          refine lv_iconst (v := nI 0) hx hb dX2_keep_75 (by decide) ?_
          refine W.widen (k := 3) (n := 7 + ps) (by omega) (by omega) ?_
          refine ah_zret (v := nI 0) hx hb hr hlocks hR hS dX2_keep_76 (by decide) ?_
          exact ⟨0, c1, pt + 1, _, lo, hf1, none, rfl, by decide, ⟨c1, p9, D1, sel1, Or.inr ⟨hLn, rfl, (d_a (D1 p9), d_p (D1 p9), d_s (D1 p9), d_r (D1 p9), d_n (D1 p9), d_t (D1 p9) + 1, d_u (D1 p9) + L.length, pt + 1, va_up (d_f (D1 p9)) (nm - 1) (some q8), va_up (d_L (D1 p9)) (nm - 1) (some L)), ⟨rfl, rfl, rfl, rfl, rfl, rfl⟩, Or.inl ⟨by omega, rfl, rfl, rfl, rfl⟩⟩⟩, f_24, f_25, hc1, ok6, fun _ => rfl, fun _ _ q => (nomatch q), (ag1.weak (fun t q => ⟨q.1, q.2.1⟩)).tr (ag6.off ka kb)⟩
      · skip
        exact absurd c_12 (by decide)
  refine lv_aload_n hx hb dX2_keep_0 rfl (lv_at hl 0 rfl) ?_
  refine lv_iload_n hx hb dX2_keep_1 rfl (lv_at hl 1 rfl) ?_
  refine ah_calli (va_runV (As := [.int (nI s9)]) (rest := []) ⟨hx, hb, hml, hown, hts⟩ (c_Ib_placeOf l G h ib hp rd c pt lo hf fi fp hc D hok hd rfr ps nm bp el ru fd hrf (by omega) s9 hs9) (cwV 1 hts gX2_keep_X2_placeOf rfl rfl rfl (by decide +kernel) ⟨Nat.le_of_ble_eq_true rfl, Nat.le_of_ble_eq_true rfl⟩) (ah_preV hE hR hS fi rfl) rfl rfl hl.1 rfl (lv_room (Nat.le_of_ble_eq_true rfl)) dX2_keep_2 ⟨Nat.le_of_ble_eq_true rfl, Nat.le_of_ble_eq_true rfl⟩) hS (fun r_58 h_56 H locs p_57 hR hS => ?_)
  obtain ⟨eh0, hpl⟩ := p_57
  rw [eh0] at hR
  rcases hpl with ⟨i9, hi9, hy9, hno9, ev9⟩ | ⟨hno9, ev9⟩
  · skip
    refine ah_toi ev9 ?_
    refine lv_istore_n (lv' := [(3, .int (nI i9)), (0, .ref ib), (1, .int (nI s9)), (2, .ref ua)]) hx hb dX2_keep_5 rfl hl (by decide) rfl (fun ls hl => ?_)
    refine lv_iload_n hx hb dX2_keep_6 rfl (lv_at hl 0 rfl) ?_
    refine lv_iconst (v := (-1)) hx hb dX2_keep_7 (by decide) ?_
    refine lv_icmp_ne (tgt := 17) hx hb dX2_keep_8 (by decide) (fun c_59 => ?_) (fun c_59 => ?_)
    · skip
      refine W.widen (k := 2) (n := 6 + ps) (by omega) (by omega) ?_
      exact J17 c i9 D hf h _ _ ls (Or.inl ⟨rfl, rfl, hi9, hy9, hno9⟩) hc hi9 hy9.2.2 hok agr.rf fi fp fd fu hR hS (lv_sub hl [0, 1, 2, 3] rfl)
    · skip
      exact absurd c_59 (zi_ne (by omega))
  · skip
    refine ah_toi ev9 ?_
    refine lv_istore_n (lv' := [(3, .int (-1)), (0, .ref ib), (1, .int (nI s9)), (2, .ref ua)]) hx hb dX2_keep_5 rfl hl (by decide) rfl (fun ls hl => ?_)
    refine lv_iload_n hx hb dX2_keep_6 rfl (lv_at hl 0 rfl) ?_
    refine lv_iconst (v := (-1)) hx hb dX2_keep_7 (by decide) ?_
    refine lv_icmp_ne (tgt := 17) hx hb dX2_keep_8 (by decide) (fun c_60 => ?_) (fun c_60 => ?_)
    · skip
      exact absurd rfl c_60
    · skip
      refine lv_aload_n hx hb dX2_keep_11 rfl (lv_at hl 1 rfl) ?_
      refine lv_iload_n hx hb dX2_keep_12 rfl (lv_at hl 2 rfl) ?_
      refine ah_calli (va_runV (As := [.int (nI s9)]) (rest := []) ⟨hx, hb, hml, hown, hts⟩ (c_Ib_begin l G h ib hp rd c pt lo hf fi fp hc D hok hd rfr ps nm bp el ru fd hrf hps1 hps s9 hs9) (cwV 1 hts gX2_keep_X2_begin rfl rfl rfl (by decide +kernel) ⟨Nat.le_of_ble_eq_true rfl, Nat.le_of_ble_eq_true rfl⟩) (ah_preV hE hR hS fi rfl) rfl rfl hl.1 rfl (lv_room (Nat.le_of_ble_eq_true rfl)) dX2_keep_13 ⟨Nat.le_of_ble_eq_true rfl, show 0 + (6 + ps) ≤ 7 + ps by omega⟩) hS (fun r_63 h_61 H locs p_62 hR hS => ?_)
      obtain ⟨d9, hf9, eb9, hfr9, fib9, fhp9, ok9, ag9⟩ := p_62
      have hev9 := evc_le (D := D) hc
      have f_64 : h_61 rd = some (10, .inr (3, [.int (nI hd), .int (nI rfr), .int (nI ps), .int (nI nm), .int (nI bp), .int (nI el), .ref ru])) := ag9 _ _ _ (by unfold off8; omega) fd
      have f_65 : h_61 ua = some (901, .inl (G.2.2.1 0, L.length, .inl (liA L))) := ag9 _ _ _ (by unfold off8; omega) fu
      refine ah_toi eb9 ?_
      refine lv_istore_n (lv' := [(3, .int (nI ((evc c D).1))), (0, .ref ib), (1, .int (nI s9)), (2, .ref ua)]) hx hb dX2_keep_16 rfl hl (by decide) rfl (fun ls hl => ?_)
      refine W.widen (k := 2) (n := 6 + ps) (by omega) (by omega) ?_
      exact J17 ((evc c D).1 + 1) ((evc c D).1) (va_up (evc c D).2 (evc c D).1 d9) hf9 h_61 _ _ ls (Or.inr ⟨hno9, rfl, rfl, d9, hfr9, rfl⟩) (by omega) (by omega) (by rw [va_up_self]; exact hfr9.2.2.1) ok9 ag9 fib9 fhp9 f_64 f_65 hR hS (lv_sub hl [0, 1, 2, 3] rfl)
