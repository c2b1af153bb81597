/-! ===== TextParts$Piece, TextParts$Heap ===== -/
/-- unit i of lists one behind the other: m lists from the k-th on -/
def uAt (Ls : Nat → List Nat) : Nat → Nat → Nat → Int32
  | 0, _, _ => -1
  | m + 1, k, i => if i < (Ls k).length then nI ((Ls k).getD i 0) else uAt Ls m (k + 1) (i - (Ls k).length)
abbrev liA (L : List Nat) : Nat → Int32 := nA (fun j => L.getD j 0)
/-- a piece: the units of a part, kept -/
def pieceOk (G : ah_G) (h : ah_H) (q : Nat) (L : List Nat) : Prop := ∃ ua, h q = some (900, .inr (4, [.ref ua])) ∧ h ua = some (901, .inl (G.2.2.1 0, L.length, .inl (liA L))) ∧ L.length ≤ 160
theorem pieceOk.frame {G : ah_G} {h h' : ah_H} {q : Nat} {L : List Nat} (x : pieceOk G h q L) (y : agr (fun t => t = 900 ∨ t = 901) h h') : pieceOk G h' q L := by
  obtain ⟨ua, a, b, c⟩ := x
  exact ⟨ua, y _ _ _ (Or.inl rfl) a, y _ _ _ (Or.inr rfl) b, c⟩

set_option maxHeartbeats 4000000 in
set_option maxRecDepth 100000 in
theorem c_Piece_init (l : Launch) (G : ah_G) (h : ah_H) (q ua : Nat) (fq : h q = some (900, .inr (4, [.null]))) : Met l yX5_init wsX5_init ({ frames := 1, cells := 0, slots := 0, locals := 20 }) (ah_Pc G [.ref q, .ref ua] h) (ah_Qv G (fun h' => h' = ah_up h q (900, .inr (4, [.ref ua])))) 0 0 (ah_A G) := by
  refine ah_ofW (cc := cX5_init) (maxL := 2) (ret := none) (by decide) rfl (Nat.le_of_ble_eq_true rfl) ?_
  intro p e s m below meth cd9 ls hx hb hr hml hown hlocks hname hts hE hR hS hl
  have hown : s.vm.findClass RX5 = some m.cls := hown
  have hl : lv_has ls 2 [(0, .ref q), (1, .ref ua)] := hl
  have wmethodLink_RX5_1_objectInit := hts (.methodLink RX5 1 objectInit) (by decide +kernel)
  have winstanceMethod_objectInit := hts (.instanceMethod objectInit) (by decide +kernel)
  have wcode_objectInit_0xb1_1_none := hts (.code objectInit ⟨#[0xb1]⟩ 1 none) (by decide +kernel)
  have k7 := hts (.fieldLink RX5 7 "TextParts$Piece" "units" "[I") (by decide +kernel)
  have hinX5 : ∀ w ∈ wsX50, w ∈ wsX5_init := by decide +kernel
  refine lv_aload_n hx hb dX5_init_0 rfl (lv_at hl 0 rfl) ?_
  refine W.objInit hx hb hown wmethodLink_RX5_1_objectInit winstanceMethod_objectInit wcode_objectInit_0xb1_1_none rfl (by rw [hml]; exact hl.1) rfl dX5_init_1 (Nat.le_of_ble_eq_true rfl) (Nat.le_of_ble_eq_true rfl) ?_
  refine W.eq (g2 := F0 m 4 ls []) rfl ?_
  refine lv_aload_n hx hb dX5_init_4 rfl (lv_at hl 0 rfl) ?_
  refine lv_aload_n hx hb dX5_init_5 rfl (lv_at hl 1 rfl) ?_
  refine ah_putF (ci := 4) (v := .ref ua) (ty := .array .int) (C := RX5) (T := TX5) (N := 1) hx hb hE hR hS hts hinX5 tyX5 tyX5_ok nmX5 hown fq rfl 0 (by decide) k7 (fun _ h9 => h9) rfl hname rfl (by decide +kernel) rfl rfl (Nat.le_of_ble_eq_true rfl) dX5_init_6 (fun H locs hR hS => ?_)
  obtain ⟨h_1, e_2⟩ : ∃ zz9, zz9 = ah_up h q (900, .inr (4, [.ref ua])) := ⟨_, rfl⟩
  have hR : ah_R G h_1 H := by rw [e_2]; exact hR
  have f_3 : h_1 q = some (900, .inr (4, [.ref ua])) := by rw [e_2]; exact ah_up_s _ _ _
  refine ah_vret hx hb hr hlocks hR hS dX5_init_9 ?_
  rw [e_2]

set_option maxHeartbeats 4000000 in
set_option maxRecDepth 100000 in
theorem c_Heap_init (l : Launch) (G : ah_G) (h : ah_H) (a P : Nat) (x0 x1 : Int32) (fh : h a = some (800, .inr (0, [.int (nI 0), .int (nI 0), .null, .int (nI 0), .int (nI 0), .int (nI 0)]))) (hP : P ≤ 255) : Met l yX1_init wsX1_init ({ frames := 1, cells := 1, slots := P, locals := 21 }) (ah_Pc G [.ref a, .int x0, .int x1, .int (nI P)] h) (ah_Qv G (fun h' => ∃ q, h q = none ∧ h' = ah_up (ah_up h q (801, .inl (G.2.2.1 2, P, .inr (.inr (.inr (.inr (fun _ => none))))))) a (800, .inr (0, [.int x0, .int x1, .ref q, .int (nI 0), .int (nI 0), .int (nI 0)])))) 1 P (ah_A G) := by
  refine ah_ofW (cc := cX1_init) (maxL := 4) (ret := none) (by decide) rfl (Nat.le_of_ble_eq_true rfl) ?_
  intro p e s m below meth cd9 ls hx hb hr hml hown hlocks hname hts hE hR hS hl
  have hown : s.vm.findClass RX1 = some m.cls := hown
  have hl : lv_has ls 4 [(0, .ref a), (1, .int x0), (2, .int x1), (3, .int (nI P))] := hl
  have wmethodLink_RX1_3_objectInit := hts (.methodLink RX1 3 objectInit) (by decide +kernel)
  have winstanceMethod_objectInit := hts (.instanceMethod objectInit) (by decide +kernel)
  have wcode_objectInit_0xb1_1_none := hts (.code objectInit ⟨#[0xb1]⟩ 1 none) (by decide +kernel)
  have k9 := hts (.fieldLink RX1 9 "TextParts$Heap" "sender" "I") (by decide +kernel)
  have hinX1 : ∀ w ∈ wsX10, w ∈ wsX1_init := by decide +kernel
  have k15 := hts (.fieldLink RX1 15 "TextParts$Heap" "reference" "I") (by decide +kernel)
  have wmethodLink_RX1_18_Lib_Math_max_name := hts (.methodLink RX1 18 Lib.Math.max.name) (by decide +kernel)
  have wstatic_Lib_Math_max_name := hts (.static Lib.Math.max.name) (by decide +kernel)
  have winitialized_java_lang_Math := hts (.initialized "java/lang/Math") (by decide +kernel)
  have wcode_Lib_Math_max_name_Lib_Math_max_code_2_some_int := hts (.code Lib.Math.max.name Lib.Math.max.code 2 (some .int)) (by decide +kernel)
  have wclassLink_RX1_24_RX5 := hts (.classLink RX1 24 RX5) (by decide +kernel)
  have k26 := hts (.fieldLink RX1 26 "TextParts$Heap" "pieces" "[LTextParts$Piece;") (by decide +kernel)
  refine lv_aload_n hx hb dX1_init_0 rfl (lv_at hl 0 rfl) ?_
  refine W.objInit hx hb hown wmethodLink_RX1_3_objectInit winstanceMethod_objectInit wcode_objectInit_0xb1_1_none rfl (by rw [hml]; exact hl.1) rfl dX1_init_1 (Nat.le_of_ble_eq_true rfl) (Nat.le_of_ble_eq_true rfl) ?_
  refine W.eq (g2 := F0 m 4 ls []) rfl ?_
  refine lv_aload_n hx hb dX1_init_4 rfl (lv_at hl 0 rfl) ?_
  refine lv_iload_n hx hb dX1_init_5 rfl (lv_at hl 1 rfl) ?_
  refine ah_putF (ci := 0) (v := .int x0) (ty := .int) (C := RX1) (T := TX1) (N := 6) hx hb hE hR hS hts hinX1 tyX1 tyX1_ok nmX1 hown fh rfl 0 (by decide) k9 (fun _ h9 => h9) rfl hname rfl (by decide +kernel) rfl rfl (Nat.le_of_ble_eq_true rfl) dX1_init_6 (fun H locs hR hS => ?_)
  obtain ⟨h_1, e_2⟩ : ∃ zz9, zz9 = ah_up h a (800, .inr (0, [.int x0, .int (nI 0), .null, .int (nI 0), .int (nI 0), .int (nI 0)])) := ⟨_, rfl⟩
  have hR : ah_R G h_1 H := by rw [e_2]; exact hR
  have f_3 : h_1 a = some (800, .inr (0, [.int x0, .int (nI 0), .null, .int (nI 0), .int (nI 0), .int (nI 0)])) := by rw [e_2]; exact ah_up_s _ _ _
  refine lv_aload_n hx hb dX1_init_9 rfl (lv_at hl 0 rfl) ?_
  refine lv_iload_n hx hb dX1_init_10 rfl (lv_at hl 2 rfl) ?_
  refine ah_putF (ci := 0) (v := .int x1) (ty := .int) (C := RX1) (T := TX1) (N := 6) hx hb hE hR hS hts hinX1 tyX1 tyX1_ok nmX1 hown f_3 rfl 1 (by decide) k15 (fun _ h9 => h9) rfl hname rfl (by decide +kernel) rfl rfl (Nat.le_of_ble_eq_true rfl) dX1_init_11 (fun H locs hR hS => ?_)
  obtain ⟨h_4, e_5⟩ : ∃ zz9, zz9 = ah_up h_1 a (800, .inr (0, [.int x0, .int x1, .null, .int (nI 0), .int (nI 0), .int (nI 0)])) := ⟨_, rfl⟩
  have hR : ah_R G h_4 H := by rw [e_5]; exact hR
  have f_6 : h_4 a = some (800, .inr (0, [.int x0, .int x1, .null, .int (nI 0), .int (nI 0), .int (nI 0)])) := by rw [e_5]; exact ah_up_s _ _ _
  refine lv_aload_n hx hb dX1_init_14 rfl (lv_at hl 0 rfl) ?_
  refine lv_iconst (v := nI 0) hx hb dX1_init_15 (by decide) ?_
  refine lv_iload_n hx hb dX1_init_16 rfl (lv_at hl 3 rfl) ?_
  refine va_mmax hx hb (hml.trans hl.1.symm) hown wmethodLink_RX1_18_Lib_Math_max_name wstatic_Lib_Math_max_name winitialized_java_lang_Math wcode_Lib_Math_max_name_Lib_Math_max_code_2_some_int (Nat.le_of_ble_eq_true rfl) (Nat.le_of_ble_eq_true rfl) (Nat.le_of_ble_eq_true rfl) (Nat.le_of_ble_eq_true rfl) dX1_init_17 ?_
  refine ah_toi (v := nI P) (mm_max (by omega)) ?_
  refine ah_newq (n := P) hx hb hE hR hS 801 2 hown wclassLink_RX1_24_RX5 hE.2.2.1.2.1 rfl (by omega) (Nat.le_of_ble_eq_true rfl) (by simp) dX1_init_20 (fun q_7 H hq_8 hR hS => ?_)
  obtain ⟨h_9, e_10⟩ : ∃ zz9, zz9 = ah_up h_4 q_7 (801, .inl (G.2.2.1 2, P, .inr (.inr (.inr (.inr (fun _ => none)))))) := ⟨_, rfl⟩
  have hR : ah_R G h_9 H := by rw [e_10]; exact hR
  have f_11 : h_9 a = some (800, .inr (0, [.int x0, .int x1, .null, .int (nI 0), .int (nI 0), .int (nI 0)])) := by rw [e_10]; exact ah_new f_6 hq_8
  have f_12 : h_9 q_7 = some (801, .inl (G.2.2.1 2, P, .inr (.inr (.inr (.inr (fun _ => none)))))) := by rw [e_10]; exact ah_up_s _ _ _
  refine ah_putF (ci := 0) (v := .ref q_7) (ty := .array (.object "TextParts$Piece")) (C := RX1) (T := TX1) (N := 6) hx hb hE hR hS hts hinX1 tyX1 tyX1_ok nmX1 hown f_11 rfl 2 (by decide) k26 (fun _ h9 => h9) rfl hname rfl (by decide +kernel) rfl rfl (Nat.le_of_ble_eq_true rfl) dX1_init_23 (fun H locs hR hS => ?_)
  obtain ⟨h_13, e_14⟩ : ∃ zz9, zz9 = ah_up h_9 a (800, .inr (0, [.int x0, .int x1, .ref q_7, .int (nI 0), .int (nI 0), .int (nI 0)])) := ⟨_, rfl⟩
  have hR : ah_R G h_13 H := by rw [e_14]; exact hR
  have f_15 : h_13 a = some (800, .inr (0, [.int x0, .int x1, .ref q_7, .int (nI 0), .int (nI 0), .int (nI 0)])) := by rw [e_14]; exact ah_up_s _ _ _
  have f_16 : h_13 q_7 = some (801, .inl (G.2.2.1 2, P, .inr (.inr (.inr (.inr (fun _ => none)))))) := by rw [e_14]; exact ah_keep f_12 f_11 (by omega)
  refine W.widen (k := 1) (n := P) (by omega) (by omega) ?_
  refine ah_vret hx hb hr hlocks hR hS dX1_init_26 ?_
  refine ⟨q_7, ?_, ?_⟩
  · have h9 := hq_8
    rw [e_5, e_2] at h9
    by_cases e9 : q_7 = a
    · subst e9; rw [ah_up_s] at h9; cases h9
    · rw [ah_up_n e9, ah_up_n e9] at h9; exact h9
  · rw [e_14, e_10, e_5, e_2]
    funext y
    by_cases e1 : y = a
    · subst e1; rw [ah_up_s, ah_up_s]
    · rw [ah_up_n e1, ah_up_n e1]
      by_cases e2 : y = q_7
      · subst e2; rw [ah_up_s, ah_up_s]
      · rw [ah_up_n e2, ah_up_n e2, ah_up_n e1, ah_up_n e1]

set_option maxHeartbeats 4000000 in
set_option maxRecDepth 100000 in
theorem c_Heap_isOf (l : Launch) (G : ah_G) (h : ah_H) (a pa P th uc lp : Nat) (x0 x1 : Int32) (pf : Nat → Option Nat) (fh : h a = some (800, .inr (0, [.int x0, .int x1, .ref pa, .int (nI th), .int (nI uc), .int (nI lp)]))) (fp : h pa = some (801, .inl (G.2.2.1 2, P, .inr (.inr (.inr (.inr pf)))))) (hP : P ≤ 255) (hth : th ≤ 1000) (huc : uc < 2 ^ 20) (y0 y1 : Int32) (k : Nat) (hk : k < 2 ^ 31) : Met l yX1_isOf wsX1_isOf ({ frames := 0, cells := 0, slots := 0, locals := 0 }) (ah_Pc G [.ref a, .int y0, .int y1, .int (nI k)] h) (ah_Qi G (fun v h' => v = nI (if x0 = y0 ∧ x1 = y1 ∧ P = k then 1 else 0) ∧ h' = h)) 0 0 (ah_A G) := by
  refine ah_ofW (cc := cX1_isOf) (maxL := 4) (ret := (some .boolean)) (by decide) rfl (Nat.le_of_ble_eq_true rfl) ?_
  intro p e s m below meth cd9 ls hx hb hr hml hown hlocks hname hts hE hR hS hl
  have hown : s.vm.findClass RX1 = some m.cls := hown
  have hl : lv_has ls 4 [(0, .ref a), (1, .int y0), (2, .int y1), (3, .int (nI k))] := hl
  have k9 := hts (.fieldLink RX1 9 "TextParts$Heap" "sender" "I") (by decide +kernel)
  have hinX1 : ∀ w ∈ wsX10, w ∈ wsX1_isOf := by decide +kernel
  have k15 := hts (.fieldLink RX1 15 "TextParts$Heap" "reference" "I") (by decide +kernel)
  have k26 := hts (.fieldLink RX1 26 "TextParts$Heap" "pieces" "[LTextParts$Piece;") (by decide +kernel)
  refine lv_aload_n hx hb dX1_isOf_0 rfl (lv_at hl 0 rfl) ?_
  refine ah_get (ci := 0) (v := .int x0) (C := RX1) (T := TX1) (N := 6) hx hb hE hR hts hinX1 hown fh rfl 0 (by decide) k9 (fun _ h9 => h9) rfl dX1_isOf_1 ?_
  refine lv_iload_n hx hb dX1_isOf_4 rfl (lv_at hl 1 rfl) ?_
  refine lv_icmp_ne (tgt := 29) hx hb dX1_isOf_5 (by decide) (fun c_1 => ?_) (fun c_1 => ?_)
  · skip
    refine lv_iconst (v := nI 0) hx hb dX1_isOf_29 (by decide) ?_
    refine ah_zret (v := nI 0) hx hb hr hlocks hR hS dX1_isOf_30 (by decide) ?_
    exact ⟨by rw [if_neg (fun q => c_1 q.1)], rfl⟩
  · skip
    refine lv_aload_n hx hb dX1_isOf_8 rfl (lv_at hl 0 rfl) ?_
    refine ah_get (ci := 0) (v := .int x1) (C := RX1) (T := TX1) (N := 6) hx hb hE hR hts hinX1 hown fh rfl 1 (by decide) k15 (fun _ h9 => h9) rfl dX1_isOf_9 ?_
    refine lv_iload_n hx hb dX1_isOf_12 rfl (lv_at hl 2 rfl) ?_
    refine lv_icmp_ne (tgt := 29) hx hb dX1_isOf_13 (by decide) (fun c_2 => ?_) (fun c_2 => ?_)
    · skip
      refine lv_iconst (v := nI 0) hx hb dX1_isOf_29 (by decide) ?_
      refine ah_zret (v := nI 0) hx hb hr hlocks hR hS dX1_isOf_30 (by decide) ?_
      exact ⟨by rw [if_neg (fun q => c_2 q.2.1)], rfl⟩
    · skip
      refine lv_aload_n hx hb dX1_isOf_16 rfl (lv_at hl 0 rfl) ?_
      refine ah_get (ci := 0) (v := .ref pa) (C := RX1) (T := TX1) (N := 6) hx hb hE hR hts hinX1 hown fh rfl 2 (by decide) k26 (fun _ h9 => h9) rfl dX1_isOf_17 ?_
      refine ah_alen hx hb hE hR fp (show (ah_tys G)[2]? = some _ from rfl) dX1_isOf_20 ?_
      refine lv_iload_n hx hb dX1_isOf_21 rfl (lv_at hl 3 rfl) ?_
      refine lv_icmp_ne (tgt := 29) hx hb dX1_isOf_22 (by decide) (fun c_3 => ?_) (fun c_3 => ?_)
      · skip
        have c_3 : ¬ (P = k) := fun z9 => c_3 ((nI_eq (by omega) (by omega)).mpr z9)
        refine lv_iconst (v := nI 0) hx hb dX1_isOf_29 (by decide) ?_
        refine ah_zret (v := nI 0) hx hb hr hlocks hR hS dX1_isOf_30 (by decide) ?_
        exact ⟨by rw [if_neg (fun q => c_3 q.2.2)], rfl⟩
      · skip
        have c_3 : P = k := (nI_eq (by omega) (by omega)).mp c_3
        refine lv_iconst (v := nI 1) hx hb dX1_isOf_25 (by decide) ?_
        refine lv_goto (tgt := 30) hx hb dX1_isOf_26 (by decide) ?_
        refine ah_zret (v := nI 1) hx hb hr hlocks hR hS dX1_isOf_30 (by decide) ?_
        exact ⟨by rw [if_pos ⟨c_1, c_2, c_3⟩], rfl⟩

set_option maxHeartbeats 4000000 in
set_option maxRecDepth 100000 in
theorem c_Heap_isWhole (l : Launch) (G : ah_G) (h : ah_H) (a pa P th uc lp : Nat) (x0 x1 : Int32) (pf : Nat → Option Nat) (fh : h a = some (800, .inr (0, [.int x0, .int x1, .ref pa, .int (nI th), .int (nI uc), .int (nI lp)]))) (fp : h pa = some (801, .inl (G.2.2.1 2, P, .inr (.inr (.inr (.inr pf)))))) (hP : P ≤ 255) (hth : th ≤ 1000) (huc : uc < 2 ^ 20) : Met l yX1_isWhole wsX1_isWhole ({ frames := 0, cells := 0, slots := 0, locals := 0 }) (ah_Pc G [.ref a] h) (ah_Qi G (fun v h' => v = nI (if th = P then 1 else 0) ∧ h' = h)) 0 0 (ah_A G) := by
  refine ah_ofW (cc := cX1_isWhole) (maxL := 1) (ret := (some .boolean)) (by decide) rfl (Nat.le_of_ble_eq_true rfl) ?_
  intro p e s m below meth cd9 ls hx hb hr hml hown hlocks hname hts hE hR hS hl
  have hown : s.vm.findClass RX1 = some m.cls := hown
  have hl : lv_has ls 1 [(0, .ref a)] := hl
  have k30 := hts (.fieldLink RX1 30 "TextParts$Heap" "there" "I") (by decide +kernel)
  have hinX1 : ∀ w ∈ wsX10, w ∈ wsX1_isWhole := by decide +kernel
  have k26 := hts (.fieldLink RX1 26 "TextParts$Heap" "pieces" "[LTextParts$Piece;") (by decide +kernel)
  refine lv_aload_n hx hb dX1_isWhole_0 rfl (lv_at hl 0 rfl) ?_
  refine ah_get (ci := 0) (v := .int (nI th)) (C := RX1) (T := TX1) (N := 6) hx hb hE hR hts hinX1 hown fh rfl 3 (by decide) k30 (fun _ h9 => h9) rfl dX1_isWhole_1 ?_
  refine lv_aload_n hx hb dX1_isWhole_4 rfl (lv_at hl 0 rfl) ?_
  refine ah_get (ci := 0) (v := .ref pa) (C := RX1) (T := TX1) (N := 6) hx hb hE hR hts hinX1 hown fh rfl 2 (by decide) k26 (fun _ h9 => h9) rfl dX1_isWhole_5 ?_
  refine ah_alen hx hb hE hR fp (show (ah_tys G)[2]? = some _ from rfl) dX1_isWhole_8 ?_
  refine lv_icmp_ne (tgt := 16) hx hb dX1_isWhole_9 (by decide) (fun c_1 => ?_) (fun c_1 => ?_)
  · skip
    have c_1 : ¬ (th = P) := fun z9 => c_1 ((nI_eq (by omega) (by omega)).mpr z9)
    refine lv_iconst (v := nI 0) hx hb dX1_isWhole_16 (by decide) ?_
    refine ah_zret (v := nI 0) hx hb hr hlocks hR hS dX1_isWhole_17 (by decide) ?_
    first | exact ⟨by rw [if_pos (by omega)], rfl⟩ | exact ⟨by rw [if_neg (by omega)], rfl⟩
  · skip
    have c_1 : th = P := (nI_eq (by omega) (by omega)).mp c_1
    refine lv_iconst (v := nI 1) hx hb dX1_isWhole_12 (by decide) ?_
    refine lv_goto (tgt := 17) hx hb dX1_isWhole_13 (by decide) ?_
    refine ah_zret (v := nI 1) hx hb hr hlocks hR hS dX1_isWhole_17 (by decide) ?_
    first | exact ⟨by rw [if_pos (by omega)], rfl⟩ | exact ⟨by rw [if_neg (by omega)], rfl⟩

set_option maxHeartbeats 4000000 in
set_option maxRecDepth 100000 in
theorem c_Heap_tell0 (l : Launch) (G : ah_G) (h : ah_H) (a pa P th uc lp : Nat) (x0 x1 : Int32) (pf : Nat → Option Nat) (fh : h a = some (800, .inr (0, [.int x0, .int x1, .ref pa, .int (nI th), .int (nI uc), .int (nI lp)]))) (fp : h pa = some (801, .inl (G.2.2.1 2, P, .inr (.inr (.inr (.inr pf)))))) (hP : P ≤ 255) (hth : th ≤ 1000) (huc : uc < 2 ^ 20) : Met l yX1_tell wsX1_tell ({ frames := 0, cells := 0, slots := 0, locals := 0 }) (ah_Pc G [.ref a, .int (nI 0)] h) (ah_Qi G (fun v h' => v = x0 ∧ h' = h)) 0 0 (ah_A G) := by
  refine ah_ofW (cc := cX1_tell) (maxL := 2) (ret := (some .int)) (by decide) rfl (Nat.le_of_ble_eq_true rfl) ?_
  intro p e s m below meth cd9 ls hx hb hr hml hown hlocks hname hts hE hR hS hl
  have hown : s.vm.findClass RX1 = some m.cls := hown
  have hl : lv_has ls 2 [(0, .ref a), (1, .int (nI 0))] := hl
  have k9 := hts (.fieldLink RX1 9 "TextParts$Heap" "sender" "I") (by decide +kernel)
  have hinX1 : ∀ w ∈ wsX10, w ∈ wsX1_tell := by decide +kernel
  refine lv_iload_n hx hb dX1_tell_0 rfl (lv_at hl 1 rfl) ?_
  refine lv_tableIn (off := 27) (tgt := 28) hx hb dX1_tell_1 (by decide) (by decide) rfl (by decide) ?_
  refine lv_aload_n hx hb dX1_tell_28 rfl (lv_at hl 0 rfl) ?_
  refine ah_get (ci := 0) (v := .int x0) (C := RX1) (T := TX1) (N := 6) hx hb hE hR hts hinX1 hown fh rfl 0 (by decide) k9 (fun _ h9 => h9) rfl dX1_tell_29 ?_
  refine ah_iret (v := x0) hx hb hr hlocks hR hS dX1_tell_32 ?_
  exact ⟨rfl, rfl⟩

set_option maxHeartbeats 4000000 in
set_option maxRecDepth 100000 in
theorem c_Heap_tell1 (l : Launch) (G : ah_G) (h : ah_H) (a pa P th uc lp : Nat) (x0 x1 : Int32) (pf : Nat → Option Nat) (fh : h a = some (800, .inr (0, [.int x0, .int x1, .ref pa, .int (nI th), .int (nI uc), .int (nI lp)]))) (fp : h pa = some (801, .inl (G.2.2.1 2, P, .inr (.inr (.inr (.inr pf)))))) (hP : P ≤ 255) (hth : th ≤ 1000) (huc : uc < 2 ^ 20) : Met l yX1_tell wsX1_tell ({ frames := 0, cells := 0, slots := 0, locals := 0 }) (ah_Pc G [.ref a, .int (nI 1)] h) (ah_Qi G (fun v h' => v = x1 ∧ h' = h)) 0 0 (ah_A G) := by
  refine ah_ofW (cc := cX1_tell) (maxL := 2) (ret := (some .int)) (by decide) rfl (Nat.le_of_ble_eq_true rfl) ?_
  intro p e s m below meth cd9 ls hx hb hr hml hown hlocks hname hts hE hR hS hl
  have hown : s.vm.findClass RX1 = some m.cls := hown
  have hl : lv_has ls 2 [(0, .ref a), (1, .int (nI 1))] := hl
  have k15 := hts (.fieldLink RX1 15 "TextParts$Heap" "reference" "I") (by decide +kernel)
  have hinX1 : ∀ w ∈ wsX10, w ∈ wsX1_tell := by decide +kernel
  refine lv_iload_n hx hb dX1_tell_0 rfl (lv_at hl 1 rfl) ?_
  refine lv_tableIn (off := 32) (tgt := 33) hx hb dX1_tell_1 (by decide) (by decide) rfl (by decide) ?_
  refine lv_aload_n hx hb dX1_tell_33 rfl (lv_at hl 0 rfl) ?_
  refine ah_get (ci := 0) (v := .int x1) (C := RX1) (T := TX1) (N := 6) hx hb hE hR hts hinX1 hown fh rfl 1 (by decide) k15 (fun _ h9 => h9) rfl dX1_tell_34 ?_
  refine ah_iret (v := x1) hx hb hr hlocks hR hS dX1_tell_37 ?_
  exact ⟨rfl, rfl⟩

set_option maxHeartbeats 4000000 in
set_option maxRecDepth 100000 in
theorem c_Heap_tell2 (l : Launch) (G : ah_G) (h : ah_H) (a pa P th uc lp : Nat) (x0 x1 : Int32) (pf : Nat → Option Nat) (fh : h a = some (800, .inr (0, [.int x0, .int x1, .ref pa, .int (nI th), .int (nI uc), .int (nI lp)]))) (fp : h pa = some (801, .inl (G.2.2.1 2, P, .inr (.inr (.inr (.inr pf)))))) (hP : P ≤ 255) (hth : th ≤ 1000) (huc : uc < 2 ^ 20) : Met l yX1_tell wsX1_tell ({ frames := 0, cells := 0, slots := 0, locals := 0 }) (ah_Pc G [.ref a, .int (nI 2)] h) (ah_Qi G (fun v h' => v = nI P ∧ h' = h)) 0 0 (ah_A G) := by
  refine ah_ofW (cc := cX1_tell) (maxL := 2) (ret := (some .int)) (by decide) rfl (Nat.le_of_ble_eq_true rfl) ?_
  intro p e s m below meth cd9 ls hx hb hr hml hown hlocks hname hts hE hR hS hl
  have hown : s.vm.findClass RX1 = some m.cls := hown
  have hl : lv_has ls 2 [(0, .ref a), (1, .int (nI 2))] := hl
  have k26 := hts (.fieldLink RX1 26 "TextParts$Heap" "pieces" "[LTextParts$Piece;") (by decide +kernel)
  have hinX1 : ∀ w ∈ wsX10, w ∈ wsX1_tell := by decide +kernel
  refine lv_iload_n hx hb dX1_tell_0 rfl (lv_at hl 1 rfl) ?_
  refine lv_tableIn (off := 37) (tgt := 38) hx hb dX1_tell_1 (by decide) (by decide) rfl (by decide) ?_
  refine lv_aload_n hx hb dX1_tell_38 rfl (lv_at hl 0 rfl) ?_
  refine ah_get (ci := 0) (v := .ref pa) (C := RX1) (T := TX1) (N := 6) hx hb hE hR hts hinX1 hown fh rfl 2 (by decide) k26 (fun _ h9 => h9) rfl dX1_tell_39 ?_
  refine ah_alen hx hb hE hR fp (show (ah_tys G)[2]? = some _ from rfl) dX1_tell_42 ?_
  refine ah_iret (v := nI P) hx hb hr hlocks hR hS dX1_tell_43 ?_
  exact ⟨rfl, rfl⟩

set_option maxHeartbeats 4000000 in
set_option maxRecDepth 100000 in
theorem c_Heap_tell3 (l : Launch) (G : ah_G) (h : ah_H) (a pa P th uc lp : Nat) (x0 x1 : Int32) (pf : Nat → Option Nat) (fh : h a = some (800, .inr (0, [.int x0, .int x1, .ref pa, .int (nI th), .int (nI uc), .int (nI lp)]))) (fp : h pa = some (801, .inl (G.2.2.1 2, P, .inr (.inr (.inr (.inr pf)))))) (hP : P ≤ 255) (hth : th ≤ 1000) (huc : uc < 2 ^ 20) : Met l yX1_tell wsX1_tell ({ frames := 0, cells := 0, slots := 0, locals := 0 }) (ah_Pc G [.ref a, .int (nI 3)] h) (ah_Qi G (fun v h' => v = nI th ∧ h' = h)) 0 0 (ah_A G) := by
  refine ah_ofW (cc := cX1_tell) (maxL := 2) (ret := (some .int)) (by decide) rfl (Nat.le_of_ble_eq_true rfl) ?_
  intro p e s m below meth cd9 ls hx hb hr hml hown hlocks hname hts hE hR hS hl
  have hown : s.vm.findClass RX1 = some m.cls := hown
  have hl : lv_has ls 2 [(0, .ref a), (1, .int (nI 3))] := hl
  have k30 := hts (.fieldLink RX1 30 "TextParts$Heap" "there" "I") (by decide +kernel)
  have hinX1 : ∀ w ∈ wsX10, w ∈ wsX1_tell := by decide +kernel
  refine lv_iload_n hx hb dX1_tell_0 rfl (lv_at hl 1 rfl) ?_
  refine lv_tableOut (tgt := 44) hx hb dX1_tell_1 (by decide) (by decide) ?_
  refine lv_aload_n hx hb dX1_tell_44 rfl (lv_at hl 0 rfl) ?_
  refine ah_get (ci := 0) (v := .int (nI th)) (C := RX1) (T := TX1) (N := 6) hx hb hE hR hts hinX1 hown fh rfl 3 (by decide) k30 (fun _ h9 => h9) rfl dX1_tell_45 ?_
  refine ah_iret (v := nI th) hx hb hr hlocks hR hS dX1_tell_48 ?_
  exact ⟨rfl, rfl⟩

set_option maxHeartbeats 4000000 in
set_option maxRecDepth 100000 in
theorem c_Heap_add (l : Launch) (G : ah_G) (h : ah_H) (a pa P th uc lp : Nat) (x0 x1 : Int32) (pf : Nat → Option Nat) (fh : h a = some (800, .inr (0, [.int x0, .int x1, .ref pa, .int (nI th), .int (nI uc), .int (nI lp)]))) (fp : h pa = some (801, .inl (G.2.2.1 2, P, .inr (.inr (.inr (.inr pf)))))) (hP : P ≤ 255) (hth : th ≤ 1000) (huc : uc < 2 ^ 20) (nm ua n9 : Nat) (uf : Nat → Nat) (fu : h ua = some (901, .inl (G.2.2.1 0, n9, .inl (nA uf)))) (h1 : 1 ≤ nm) (hnm : nm ≤ P) (hn9 : n9 < 2 ^ 20) : Met l yX1_add wsX1_add ({ frames := 2, cells := 1, slots := 1, locals := 41 }) (ah_Pc G [.ref a, .int (nI nm), .ref ua] h) (ah_Qi G (fun v h' => (∀ q0, pf (nm - 1) = some q0 → v = nI 0 ∧ h' = h) ∧ (pf (nm - 1) = none → v = nI 1 ∧ ∃ q, h q = none ∧ h' = ah_up (ah_up (ah_up h q (900, .inr (4, [.ref ua]))) pa (801, .inl (G.2.2.1 2, P, .inr (.inr (.inr (.inr (va_up pf (nm - 1) (some q)))))))) a (800, .inr (0, [.int x0, .int x1, .ref pa, .int (nI (th + 1)), .int (nI (uc + n9)), .int (nI lp)]))))) 1 1 (ah_A G) := by
  refine ah_ofW (cc := cX1_add) (maxL := 3) (ret := (some .boolean)) (by decide) rfl (Nat.le_of_ble_eq_true rfl) ?_
  intro p e s m below meth cd9 ls hx hb hr hml hown hlocks hname hts hE hR hS hl
  have hown : s.vm.findClass RX1 = some m.cls := hown
  have hl : lv_has ls 3 [(0, .ref a), (1, .int (nI nm)), (2, .ref ua)] := hl
  have k26 := hts (.fieldLink RX1 26 "TextParts$Heap" "pieces" "[LTextParts$Piece;") (by decide +kernel)
  have hinX1 : ∀ w ∈ wsX10, w ∈ wsX1_add := by decide +kernel
  have hinX5 : ∀ w ∈ wsX50, w ∈ wsX1_add := by decide +kernel
  have wclassLink_RX1_24_RX5 := hts (.classLink RX1 24 RX5) (by decide +kernel)
  have winstantiable_RX5_1 := hts (.instantiable RX5 1) (by decide +kernel)
  have winitialized_RX5 := hts (.initialized RX5) (by decide +kernel)
  have wmethodLink_RX1_33_yX5_init := hts (.methodLink RX1 33 yX5_init) (by decide +kernel)
  have winstanceMethod_yX5_init := hts (.instanceMethod yX5_init) (by decide +kernel)
  have k30 := hts (.fieldLink RX1 30 "TextParts$Heap" "there" "I") (by decide +kernel)
  have k36 := hts (.fieldLink RX1 36 "TextParts$Heap" "unitCount" "I") (by decide +kernel)
  refine lv_iload_n hx hb dX1_add_0 rfl (lv_at hl 1 rfl) ?_
  refine lv_iconst (v := nI 1) hx hb dX1_add_1 (by decide) ?_
  refine lv_icmp_lt (tgt := 25) hx hb dX1_add_2 (by decide) (fun c_1 => ?_) (fun c_1 => ?_)
  · skip
    have c_1 : nm < 1 := (nI_ltI (by omega) (by omega)).mp c_1
    exact absurd c_1 (by omega)
  · skip
    have c_1 : ¬ (nm < 1) := fun z9 => c_1 ((nI_ltI (by omega) (by omega)).mpr z9)
    refine lv_iload_n hx hb dX1_add_5 rfl (lv_at hl 1 rfl) ?_
    refine lv_aload_n hx hb dX1_add_6 rfl (lv_at hl 0 rfl) ?_
    refine ah_get (ci := 0) (v := .ref pa) (C := RX1) (T := TX1) (N := 6) hx hb hE hR hts hinX1 hown fh rfl 2 (by decide) k26 (fun _ h9 => h9) rfl dX1_add_7 ?_
    refine ah_alen hx hb hE hR fp (show (ah_tys G)[2]? = some _ from rfl) dX1_add_10 ?_
    refine lv_icmp_gt (tgt := 25) hx hb dX1_add_11 (by decide) (fun c_2 => ?_) (fun c_2 => ?_)
    · skip
      have c_2 : P < nm := (nI_ltI (by omega) (by omega)).mp c_2
      exact absurd c_2 (by omega)
    · skip
      have c_2 : ¬ (P < nm) := fun z9 => c_2 ((nI_ltI (by omega) (by omega)).mpr z9)
      refine lv_aload_n hx hb dX1_add_14 rfl (lv_at hl 0 rfl) ?_
      refine ah_get (ci := 0) (v := .ref pa) (C := RX1) (T := TX1) (N := 6) hx hb hE hR hts hinX1 hown fh rfl 2 (by decide) k26 (fun _ h9 => h9) rfl dX1_add_15 ?_
      refine lv_iload_n hx hb dX1_add_18 rfl (lv_at hl 1 rfl) ?_
      refine lv_iconst (v := nI 1) hx hb dX1_add_19 (by decide) ?_
      refine lv_isub hx hb dX1_add_20 ?_
      refine ah_toi (v := nI (nm - 1)) (pk_sub (by omega)) ?_
      refine ah_aald (i := (nm - 1)) hx hb hE hR fp rfl (by omega) (by omega) dX1_add_21 ?_
      cases er_3 : pf (nm - 1) with
      | none =>
        refine lv_ifnullN (tgt := 27) hx hb dX1_add_22 (by decide) ?_
        refine lv_aload_n hx hb dX1_add_27 rfl (lv_at hl 0 rfl) ?_
        refine ah_get (ci := 0) (v := .ref pa) (C := RX1) (T := TX1) (N := 6) hx hb hE hR hts hinX1 hown fh rfl 2 (by decide) k26 (fun _ h9 => h9) rfl dX1_add_28 ?_
        refine lv_iload_n hx hb dX1_add_31 rfl (lv_at hl 1 rfl) ?_
        refine lv_iconst (v := nI 1) hx hb dX1_add_32 (by decide) ?_
        refine lv_isub hx hb dX1_add_33 ?_
        refine ah_toi (v := nI (nm - 1)) (pk_sub (by omega)) ?_
        refine ah_newo (ci := 4) (fs := [.null]) (C := RX5) (T := TX5) (N := 1) hx hb hE hR hS 900 hts hinX5 tyX5 tyX5_ok hown wclassLink_RX1_24_RX5 winstantiable_RX5_1 winitialized_RX5 rfl (fun j hj => by rcases (show j = 0 by omega) with rfl <;> rfl) (Nat.le_of_ble_eq_true rfl) (Nat.le_of_ble_eq_true rfl) dX1_add_34 (fun q_5 H hq_6 hR hS => ?_)
        obtain ⟨h_7, e_8⟩ : ∃ zz9, zz9 = ah_up h q_5 (900, .inr (4, [.null])) := ⟨_, rfl⟩
        have hR : ah_R G h_7 H := by rw [e_8]; exact hR
        have f_9 : h_7 a = some (800, .inr (0, [.int x0, .int x1, .ref pa, .int (nI th), .int (nI uc), .int (nI lp)])) := by rw [e_8]; exact ah_new fh hq_6
        have f_10 : h_7 pa = some (801, .inl (G.2.2.1 2, P, .inr (.inr (.inr (.inr pf))))) := by rw [e_8]; exact ah_new fp hq_6
        have f_11 : h_7 ua = some (901, .inl (G.2.2.1 0, n9, .inl (nA uf))) := by rw [e_8]; exact ah_new fu hq_6
        have f_12 : h_7 q_5 = some (900, .inr (4, [.null])) := by rw [e_8]; exact ah_up_s _ _ _
        refine lv_dup hx hb dX1_add_37 rfl ?_
        refine lv_aload_n hx hb dX1_add_38 rfl (lv_at hl 2 rfl) ?_
        refine ah_callv (va_runI (As := [.ref ua]) (rest := [.ref q_5, .int (nI (nm - 1)), .ref pa]) ⟨hx, hb, hml, hown, hts⟩ (c_Piece_init l G h_7 q_5 ua f_12) (cwI 1 hts gX1_add_X5_init rfl rfl rfl winitialized_RX5 wmethodLink_RX1_33_yX5_init winstanceMethod_yX5_init rfl (by decide +kernel) ⟨Nat.le_of_ble_eq_true rfl, Nat.le_of_ble_eq_true rfl⟩) (ah_preS hE hR hS) rfl rfl hl.1 rfl (lv_room (Nat.le_of_ble_eq_true rfl)) dX1_add_39 ⟨Nat.le_of_ble_eq_true rfl, Nat.le_of_ble_eq_true rfl⟩) hS (fun h_13 H locs p_14 hR hS => ?_)
        have f_16 : h_13 a = some (800, .inr (0, [.int x0, .int x1, .ref pa, .int (nI th), .int (nI uc), .int (nI lp)])) := by rw [p_14]; exact ah_keep f_9 f_12 (by omega)
        have f_17 : h_13 pa = some (801, .inl (G.2.2.1 2, P, .inr (.inr (.inr (.inr pf))))) := by rw [p_14]; exact ah_keep f_10 f_12 (by omega)
        have f_18 : h_13 ua = some (901, .inl (G.2.2.1 0, n9, .inl (nA uf))) := by rw [p_14]; exact ah_keep f_11 f_12 (by omega)
        have f_19 : h_13 q_5 = some (900, .inr (4, [.ref ua])) := by rw [p_14]; exact ah_up_s _ _ _
        refine ah_aast (i := (nm - 1)) hx hb hE hR hS f_17 rfl f_19 rfl (by omega) (by omega) dX1_add_42 (fun H locs hR hS => ?_)
        obtain ⟨h_20, e_21⟩ : ∃ zz9, zz9 = ah_up h_13 pa (801, .inl (G.2.2.1 2, P, .inr (.inr (.inr (.inr (va_up pf (nm - 1) (some q_5))))))) := ⟨_, rfl⟩
        have hR : ah_R G h_20 H := by rw [e_21]; exact hR
        have f_22 : h_20 a = some (800, .inr (0, [.int x0, .int x1, .ref pa, .int (nI th), .int (nI uc), .int (nI lp)])) := by rw [e_21]; exact ah_keep f_16 f_17 (by omega)
        have f_23 : h_20 pa = some (801, .inl (G.2.2.1 2, P, .inr (.inr (.inr (.inr (va_up pf (nm - 1) (some q_5))))))) := by rw [e_21]; exact ah_up_s _ _ _
        have f_24 : h_20 ua = some (901, .inl (G.2.2.1 0, n9, .inl (nA uf))) := by rw [e_21]; exact ah_keep f_18 f_17 (by omega)
        have f_25 : h_20 q_5 = some (900, .inr (4, [.ref ua])) := by rw [e_21]; exact ah_keep f_19 f_17 (by omega)
        refine lv_aload_n hx hb dX1_add_43 rfl (lv_at hl 0 rfl) ?_
        refine lv_dup hx hb dX1_add_44 rfl ?_
        refine ah_get (ci := 0) (v := .int (nI th)) (C := RX1) (T := TX1) (N := 6) hx hb hE hR hts hinX1 hown f_22 rfl 3 (by decide) k30 (fun _ h9 => h9) rfl dX1_add_45 ?_
        refine lv_iconst (v := nI 1) hx hb dX1_add_48 (by decide) ?_
        refine lv_iadd hx hb dX1_add_49 ?_
        refine ah_toi (v := nI (th + 1)) (nI_add _ _) ?_
        refine ah_put (ci := 0) (v := .int (nI (th + 1))) (ty := .int) (C := RX1) (T := TX1) (N := 6) hx hb hE hR hS hts hinX1 tyX1 tyX1_ok nmX1 hown f_22 rfl 3 (by decide) k30 (fun _ h9 => h9) rfl (by decide +kernel) rfl rfl (Nat.le_of_ble_eq_true rfl) dX1_add_50 (fun H locs hR hS => ?_)
        obtain ⟨h_26, e_27⟩ : ∃ zz9, zz9 = ah_up h_20 a (800, .inr (0, [.int x0, .int x1, .ref pa, .int (nI (th + 1)), .int (nI uc), .int (nI lp)])) := ⟨_, rfl⟩
        have hR : ah_R G h_26 H := by rw [e_27]; exact hR
        have f_28 : h_26 a = some (800, .inr (0, [.int x0, .int x1, .ref pa, .int (nI (th + 1)), .int (nI uc), .int (nI lp)])) := by rw [e_27]; exact ah_up_s _ _ _
        have f_29 : h_26 pa = some (801, .inl (G.2.2.1 2, P, .inr (.inr (.inr (.inr (va_up pf (nm - 1) (some q_5))))))) := by rw [e_27]; exact ah_keep f_23 f_22 (by omega)
        have f_30 : h_26 ua = some (901, .inl (G.2.2.1 0, n9, .inl (nA uf))) := by rw [e_27]; exact ah_keep f_24 f_22 (by omega)
        have f_31 : h_26 q_5 = some (900, .inr (4, [.ref ua])) := by rw [e_27]; exact ah_keep f_25 f_22 (by omega)
        refine lv_aload_n hx hb dX1_add_53 rfl (lv_at hl 0 rfl) ?_
        refine lv_dup hx hb dX1_add_54 rfl ?_
        refine ah_get (ci := 0) (v := .int (nI uc)) (C := RX1) (T := TX1) (N := 6) hx hb hE hR hts hinX1 hown f_28 rfl 4 (by decide) k36 (fun _ h9 => h9) rfl dX1_add_55 ?_
        refine lv_aload_n hx hb dX1_add_58 rfl (lv_at hl 2 rfl) ?_
        refine ah_alen hx hb hE hR f_30 (show (ah_tys G)[0]? = some _ from rfl) dX1_add_59 ?_
        refine lv_iadd hx hb dX1_add_60 ?_
        refine ah_toi (v := nI (uc + n9)) (nI_add _ _) ?_
        refine ah_put (ci := 0) (v := .int (nI (uc + n9))) (ty := .int) (C := RX1) (T := TX1) (N := 6) hx hb hE hR hS hts hinX1 tyX1 tyX1_ok nmX1 hown f_28 rfl 4 (by decide) k36 (fun _ h9 => h9) rfl (by decide +kernel) rfl rfl (Nat.le_of_ble_eq_true rfl) dX1_add_61 (fun H locs hR hS => ?_)
        obtain ⟨h_32, e_33⟩ : ∃ zz9, zz9 = ah_up h_26 a (800, .inr (0, [.int x0, .int x1, .ref pa, .int (nI (th + 1)), .int (nI (uc + n9)), .int (nI lp)])) := ⟨_, rfl⟩
        have hR : ah_R G h_32 H := by rw [e_33]; exact hR
        have f_34 : h_32 a = some (800, .inr (0, [.int x0, .int x1, .ref pa, .int (nI (th + 1)), .int (nI (uc + n9)), .int (nI lp)])) := by rw [e_33]; exact ah_up_s _ _ _
        have f_35 : h_32 pa = some (801, .inl (G.2.2.1 2, P, .inr (.inr (.inr (.inr (va_up pf (nm - 1) (some q_5))))))) := by rw [e_33]; exact ah_keep f_29 f_28 (by omega)
        have f_36 : h_32 ua = some (901, .inl (G.2.2.1 0, n9, .inl (nA uf))) := by rw [e_33]; exact ah_keep f_30 f_28 (by omega)
        have f_37 : h_32 q_5 = some (900, .inr (4, [.ref ua])) := by rw [e_33]; exact ah_keep f_31 f_28 (by omega)
        refine lv_iconst (v := nI 1) hx hb dX1_add_64 (by decide) ?_
        refine W.widen (k := 1) (n := 1) (by omega) (by omega) ?_
        refine ah_zret (v := nI 1) hx hb hr hlocks hR hS dX1_add_65 (by decide) ?_
        exact ⟨fun _ q => (nomatch q), fun _ => ⟨rfl, q_5, hq_6, by rw [e_33, e_27, e_21, p_14, e_8]; simp only [ah_up2]⟩⟩
      | some rr_4 =>
        refine lv_ifnull hx hb dX1_add_22 ?_
        refine lv_iconst (v := nI 0) hx hb dX1_add_25 (by decide) ?_
        refine W.widen (k := 1) (n := 1) (by omega) (by omega) ?_
        refine ah_zret (v := nI 0) hx hb hr hlocks hR hS dX1_add_26 (by decide) ?_
        exact ⟨fun _ _ => ⟨rfl, rfl⟩, fun q => (nomatch q)⟩

set_option maxHeartbeats 4000000 in
set_option maxRecDepth 100000 in
theorem c_Heap_unitAt0 (l : Launch) (G : ah_G) (h : ah_H) (a pa ta tp P th uc lp : Nat) (x0 x1 : Int32) (pf : Nat → Option Nat) (fh : h a = some (ta, .inr (0, [.int x0, .int x1, .ref pa, .int (nI th), .int (nI uc), .int (nI lp)]))) (fp : h pa = some (tp, .inl (G.2.2.1 2, P, .inr (.inr (.inr (.inr pf)))))) (hP : P ≤ 255) (hth : th ≤ 1000) (huc : uc < 2 ^ 20) (qs : Nat → Nat) (Ls : Nat → List Nat) (hall : ∀ k, k < P → pf k = some (qs k) ∧ pieceOk G h (qs k) (Ls k)) (x : Int32) (hx0 : x < 0) : Met l yX1_unitAt wsX1_unitAt ({ frames := 0, cells := 0, slots := 0, locals := 0 }) (ah_Pc G [.ref a, .int x] h) (ah_Qi G (fun v h' => v = -1 ∧ h' = h)) 0 0 (ah_A G) := by
  refine ah_ofW (cc := cX1_unitAt) (maxL := 7) (ret := (some .int)) (by decide) rfl (Nat.le_of_ble_eq_true rfl) ?_
  intro p e s m below meth cd9 ls hx hb hr hml hown hlocks hname hts hE hR hS hl
  have hown : s.vm.findClass RX1 = some m.cls := hown
  have hl : lv_has ls 7 [(0, .ref a), (1, .int x)] := hl
  refine lv_iload_n hx hb dX1_unitAt_0 rfl (lv_at hl 1 rfl) ?_
  refine lv_if_ge (tgt := 6) hx hb dX1_unitAt_1 (by decide) (fun c_1 => ?_) (fun c_1 => ?_)
  · skip
    exact absurd hx0 (Int32.not_lt.mpr c_1)
  · skip
    refine lv_iconst (v := (-1)) hx hb dX1_unitAt_4 (by decide) ?_
    refine ah_iret (v := (-1)) hx hb hr hlocks hR hS dX1_unitAt_5 ?_
    exact ⟨rfl, rfl⟩

set_option maxHeartbeats 4000000 in
set_option maxRecDepth 100000 in
theorem c_Heap_unitAt (l : Launch) (G : ah_G) (h : ah_H) (a pa ta tp P th uc lp : Nat) (x0 x1 : Int32) (pf : Nat → Option Nat) (fh : h a = some (ta, .inr (0, [.int x0, .int x1, .ref pa, .int (nI th), .int (nI uc), .int (nI lp)]))) (fp : h pa = some (tp, .inl (G.2.2.1 2, P, .inr (.inr (.inr (.inr pf)))))) (hP : P ≤ 255) (hth : th ≤ 1000) (huc : uc < 2 ^ 20) (qs : Nat → Nat) (Ls : Nat → List Nat) (hall : ∀ k, k < P → pf k = some (qs k) ∧ pieceOk G h (qs k) (Ls k)) (i : Nat) (hi : i < 2 ^ 31) : Met l yX1_unitAt wsX1_unitAt ({ frames := 0, cells := 0, slots := 0, locals := 0 }) (ah_Pc G [.ref a, .int (nI i)] h) (ah_Qi G (fun v h' => v = uAt Ls P 0 i ∧ h' = h)) 0 0 (ah_A G) := by
  refine ah_ofW (cc := cX1_unitAt) (maxL := 7) (ret := (some .int)) (by decide) rfl (Nat.le_of_ble_eq_true rfl) ?_
  intro p e s m below meth cd9 ls hx hb hr hml hown hlocks hname hts hE hR hS hl
  have hown : s.vm.findClass RX1 = some m.cls := hown
  have hl : lv_has ls 7 [(0, .ref a), (1, .int (nI i))] := hl
  have k26 := hts (.fieldLink RX1 26 "TextParts$Heap" "pieces" "[LTextParts$Piece;") (by decide +kernel)
  have hinX1 : ∀ w ∈ wsX10, w ∈ wsX1_unitAt := by decide +kernel
  have k39 := hts (.fieldLink RX1 39 "TextParts$Piece" "units" "[I") (by decide +kernel)
  have hinX5 : ∀ w ∈ wsX50, w ∈ wsX1_unitAt := by decide +kernel
  refine lv_iload_n hx hb dX1_unitAt_0 rfl (lv_at hl 1 rfl) ?_
  refine lv_if_ge (tgt := 6) hx hb dX1_unitAt_1 (by decide) (fun c_1 => ?_) (fun c_1 => ?_)
  · skip
    refine lv_iload_n hx hb dX1_unitAt_6 rfl (lv_at hl 1 rfl) ?_
    refine lv_istore_n (lv' := [(2, .int (nI i)), (0, .ref a), (1, .int (nI i))]) hx hb dX1_unitAt_7 rfl hl (by decide) rfl (fun ls hl => ?_)
    refine lv_aload_n hx hb dX1_unitAt_8 rfl (lv_at hl 1 rfl) ?_
    refine ah_get (ci := 0) (v := .ref pa) (C := RX1) (T := TX1) (N := 6) hx hb hE hR hts hinX1 hown fh rfl 2 (by decide) k26 (fun _ h9 => h9) rfl dX1_unitAt_9 ?_
    refine lv_astore_n (lv' := [(3, .ref pa), (2, .int (nI i)), (0, .ref a), (1, .int (nI i))]) hx hb dX1_unitAt_12 rfl hl (by decide) rfl (fun ls hl => ?_)
    refine lv_aload_n hx hb dX1_unitAt_13 rfl (lv_at hl 0 rfl) ?_
    refine ah_alen hx hb hE hR fp (show (ah_tys G)[2]? = some _ from rfl) dX1_unitAt_14 ?_
    refine lv_istore (lv' := [(4, .int (nI P)), (3, .ref pa), (2, .int (nI i)), (0, .ref a), (1, .int (nI i))]) hx hb dX1_unitAt_15 hl (by decide) rfl (fun ls hl => ?_)
    refine lv_iconst (v := nI 0) hx hb dX1_unitAt_17 (by decide) ?_
    refine lv_istore (lv' := [(5, .int (nI 0)), (4, .int (nI P)), (3, .ref pa), (2, .int (nI i)), (0, .ref a), (1, .int (nI i))]) hx hb dX1_unitAt_18 hl (by decide) rfl (fun ls hl => ?_)
    have L20 : ∀ (N20 : Nat) (k : Nat) (j : Nat) (H : Heap) (locs : List Loc) (ls : Array Slot), P - k < N20 → (k ≤ P) → (j < 2 ^ 31) → (uAt Ls (P - k) k j = uAt Ls P 0 i) → (h a = some (ta, .inr (0, [.int x0, .int x1, .ref pa, .int (nI th), .int (nI uc), .int (nI lp)]))) → (h pa = some (tp, .inl (G.2.2.1 2, P, .inr (.inr (.inr (.inr pf)))))) → ah_R G h H → va_S (ah_A G) s.heap H locs → lv_has ls 7 [(5, .int (nI k)), (2, .int (nI j)), (4, .int (nI P)), (3, .ref pa), (0, .ref a)] → W p l e ({ frames := 0, cells := 0, slots := 0, locals := 0 }) s m ([.ref a, .int (nI i)] : List Value).toArray below meth cd9 H locs 0 0 (MQ below (ah_Qi G (fun v h' => v = uAt Ls P 0 i ∧ h' = h)) ([.ref a, .int (nI i)] : List Value).toArray s 0 0 (ah_A G)) (F0 m 20 ls []) := by
      intro N20
      induction N20 with
      | zero => intro k j  H locs ls hN; exact absurd hN (Nat.not_lt_zero _)
      | succ N20 ih20 =>
        intro k j  H locs ls hN20 hk hj ej fh fp hR hS hl
        refine lv_iload hx hb dX1_unitAt_20 (lv_at hl 0 rfl) ?_
        refine lv_iload hx hb dX1_unitAt_22 (lv_at hl 2 rfl) ?_
        refine lv_icmp_ge (tgt := 71) hx hb dX1_unitAt_24 (by decide) (fun c_2 => ?_) (fun c_2 => ?_)
        · skip
          have c_2 : P ≤ k := (nI_leI (by omega) (by omega)).mp c_2
          refine lv_iconst (v := (-1)) hx hb dX1_unitAt_71 (by decide) ?_
          refine ah_iret (v := (-1)) hx hb hr hlocks hR hS dX1_unitAt_72 ?_
          exact ⟨by rw [← ej, show P - k = 0 by omega]; rfl, rfl⟩
        · skip
          have c_2 : ¬ (P ≤ k) := fun z9 => c_2 ((nI_leI (by omega) (by omega)).mpr z9)
          obtain ⟨epf, u9, fq9, fu9, hl9⟩ := hall k (by omega)
          refine lv_aload_n hx hb dX1_unitAt_27 rfl (lv_at hl 3 rfl) ?_
          refine lv_iload hx hb dX1_unitAt_28 (lv_at hl 0 rfl) ?_
          refine ah_aald (i := k) hx hb hE hR fp rfl (by omega) (by omega) dX1_unitAt_30 ?_
          rw [show pf k = some (qs k) from epf]
          refine lv_astore (lv' := [(6, .ref (qs k)), (5, .int (nI k)), (2, .int (nI j)), (4, .int (nI P)), (3, .ref pa), (0, .ref a)]) hx hb dX1_unitAt_31 hl (by decide) rfl (fun ls hl => ?_)
          refine lv_aload hx hb dX1_unitAt_33 (lv_at hl 0 rfl) ?_
          refine lv_ifnull hx hb dX1_unitAt_35 ?_
          refine lv_iload_n hx hb dX1_unitAt_38 rfl (lv_at hl 2 rfl) ?_
          refine lv_aload hx hb dX1_unitAt_39 (lv_at hl 0 rfl) ?_
          refine ah_get (ci := 4) (v := .ref u9) (C := RX5) (T := TX5) (N := 1) hx hb hE hR hts hinX5 hown fq9 rfl 0 (by decide) k39 (fun _ h9 => h9) rfl dX1_unitAt_41 ?_
          refine ah_alen hx hb hE hR fu9 (show (ah_tys G)[0]? = some _ from rfl) dX1_unitAt_44 ?_
          refine lv_icmp_ge (tgt := 56) hx hb dX1_unitAt_45 (by decide) (fun c_3 => ?_) (fun c_3 => ?_)
          · skip
            have c_3 : ((Ls k).length) ≤ j := (nI_leI (by omega) (by omega)).mp c_3
            refine lv_iload_n hx hb dX1_unitAt_56 rfl (lv_at hl 2 rfl) ?_
            refine lv_aload hx hb dX1_unitAt_57 (lv_at hl 0 rfl) ?_
            refine ah_get (ci := 4) (v := .ref u9) (C := RX5) (T := TX5) (N := 1) hx hb hE hR hts hinX5 hown fq9 rfl 0 (by decide) k39 (fun _ h9 => h9) rfl dX1_unitAt_59 ?_
            refine ah_alen hx hb hE hR fu9 (show (ah_tys G)[0]? = some _ from rfl) dX1_unitAt_62 ?_
            refine lv_isub hx hb dX1_unitAt_63 ?_
            refine ah_toi (v := nI (j - ((Ls k).length))) (pk_sub (by omega)) ?_
            refine lv_istore_n (lv' := [(2, .int (nI (j - ((Ls k).length)))), (6, .ref (qs k)), (5, .int (nI k)), (4, .int (nI P)), (3, .ref pa), (0, .ref a)]) hx hb dX1_unitAt_64 rfl hl (by decide) rfl (fun ls hl => ?_)
            refine lv_iinc (v := nI (k + 1)) (lv' := [(5, .int (nI (k + 1))), (2, .int (nI (j - ((Ls k).length)))), (6, .ref (qs k)), (4, .int (nI P)), (3, .ref pa), (0, .ref a)]) hx hb dX1_unitAt_65 hl (k := 2) rfl (show nI k + Int32.ofInt 1 = nI (k + 1) from nI_add _ 1) (by decide) rfl (fun ls hl => ?_)
            refine lv_goto (tgt := 20) hx hb dX1_unitAt_68 (by decide) ?_
            exact ih20  (k + 1) (j - (Ls k).length) _ _ ls (by omega) (by omega) (by omega) (by rw [← ej, show P - k = P - (k + 1) + 1 by omega]; exact (if_neg (show ¬ j < (Ls k).length by omega)).symm) fh fp hR hS (lv_sub hl [0, 1, 3, 4, 5] rfl)
          · skip
            have c_3 : ¬ (((Ls k).length) ≤ j) := fun z9 => c_3 ((nI_leI (by omega) (by omega)).mpr z9)
            refine lv_aload hx hb dX1_unitAt_48 (lv_at hl 0 rfl) ?_
            refine ah_get (ci := 4) (v := .ref u9) (C := RX5) (T := TX5) (N := 1) hx hb hE hR hts hinX5 hown fq9 rfl 0 (by decide) k39 (fun _ h9 => h9) rfl dX1_unitAt_50 ?_
            refine lv_iload_n hx hb dX1_unitAt_53 rfl (lv_at hl 2 rfl) ?_
            refine ah_iald (i := j) hx hb hE hR fu9 (by omega) (by omega) dX1_unitAt_54 ?_
            refine ah_toi (v := nI ((fun j => (Ls k).getD j 0) j)) rfl ?_
            refine ah_iret (v := nI ((fun j => (Ls k).getD j 0) j)) hx hb hr hlocks hR hS dX1_unitAt_55 ?_
            exact ⟨by rw [← ej, show P - k = P - (k + 1) + 1 by omega]; exact (if_pos (show j < (Ls k).length by omega)).symm, rfl⟩
    exact L20 ((P - 0) + 1) 0 i _ _ ls (by omega) (by omega) (by omega) rfl fh fp hR hS (lv_sub hl [0, 3, 1, 2, 4] rfl)
  · skip
    exact absurd (nI_pos' (by omega)) c_1
