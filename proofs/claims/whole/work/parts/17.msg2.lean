/-! ===== TextParts$Message: the rows, the message ===== -/
/-- marks of a kind stay -/
def agr (P : Nat → Prop) (h h' : ah_H) : Prop := ∀ (a t : Nat) (e : va_E), P t → h a = some (t, e) → h' a = some (t, e)
theorem agr.rf {P : Nat → Prop} {h : ah_H} : agr P h h := fun _ _ _ _ z => z
theorem agr.tr {P : Nat → Prop} {h h1 h2 : ah_H} (x : agr P h h1) (y : agr P h1 h2) : agr P h h2 := fun a t e p z => y a t e p (x a t e p z)
theorem agr.weak {P Q : Nat → Prop} {h h' : ah_H} (x : agr P h h') (pq : ∀ t, Q t → P t) : agr Q h h' := fun a t e q z => x a t e (pq t q) z
theorem agr.up {P : Nat → Prop} {h h1 : ah_H} {a t : Nat} {e : va_E} {x : Nat × va_E} (y : agr P h h1) (ha : h1 a = some (t, e)) (hn : ¬ P t) : agr P h (ah_up h1 a x) := fun b u d p z => by
  have z1 := y b u d p z
  exact ah_keep z1 ha (fun e9 => hn (by rw [← e9]; exact p))
theorem agr.upN {P : Nat → Prop} {h h1 : ah_H} {a : Nat} {x : Nat × va_E} (y : agr P h h1) (ha : h a = none) : agr P h (ah_up h1 a x) := fun b u d p z => by
  rw [ah_up_n (fun e => by subst e; rw [ha] at z; cases z)]; exact y b u d p z
theorem agr.new {P : Nat → Prop} {h h1 : ah_H} {a : Nat} {x : Nat × va_E} (y : agr P h h1) (ha : h1 a = none) : agr P h (ah_up h1 a x) := fun b u d p z => ah_new (y b u d p z) ha
/-- the rows made: row k, where there is one, at rf k, its bytes at rb k, z k of them, g k -/
def rowsOk (G : ah_G) (h : ah_H) (rf : Nat → Option Nat) (rb z : Nat → Nat) (g : Nat → Nat → Nat) : Prop :=
  ∀ (k r : Nat), k < 255 → rf k = some r → h r = some (100 + 2 * k, .inr (5, [.ref (rb k), .int (nI (z k))])) ∧ h (rb k) = some (101 + 2 * k, .inl (G.2.2.1 0, 142, .inl (nA (g k)))) ∧ z k ≤ 142 ∧ ∀ j, g k j < 256
abbrev notRow (t : Nat) : Prop := t < 100 ∨ 610 ≤ t
theorem rowsOk.frame {G : ah_G} {h h' : ah_H} {rf : Nat → Option Nat} {rb z : Nat → Nat} {g : Nat → Nat → Nat} (x : rowsOk G h rf rb z g) (y : agr (fun t => 100 ≤ t ∧ t < 610) h h') : rowsOk G h' rf rb z g := fun k r hk hr => by
  obtain ⟨a, b, c, d⟩ := x k r hk hr
  exact ⟨y _ _ _ (by omega) a, y _ _ _ (by omega) b, c, d⟩
theorem rowsOk.up {G : ah_G} {h : ah_H} {rf : Nat → Option Nat} {rb z : Nat → Nat} {g : Nat → Nat → Nat} {a t : Nat} {e : va_E} {v : va_E} (x : rowsOk G h rf rb z g) (ha : h a = some (t, e)) (hn : notRow t) : rowsOk G (ah_up h a (t, v)) rf rb z g :=
  x.frame (agr.rf.up ha (by omega))
theorem rowsOk.new {G : ah_G} {h : ah_H} {rf : Nat → Option Nat} {rb z : Nat → Nat} {g : Nat → Nat → Nat} {a : Nat} {v : Nat × va_E} (x : rowsOk G h rf rb z g) (ha : h a = none) : rowsOk G (ah_up h a v) rf rb z g := x.frame (agr.rf.new ha)
/-- row k written anew -/
theorem rowsOk.set {G : ah_G} {h : ah_H} {rf : Nat → Option Nat} {rb z : Nat → Nat} {g : Nat → Nat → Nat} {k r z1 : Nat} {g1 : Nat → Nat} (x : rowsOk G h rf rb z g) (hk : k < 255) (hr : rf k = some r) (hz : z1 ≤ 142) (hg : ∀ j, g1 j < 256) :
    rowsOk G (ah_up (ah_up h r (100 + 2 * k, .inr (5, [.ref (rb k), .int (nI z1)]))) (rb k) (101 + 2 * k, .inl (G.2.2.1 0, 142, .inl (nA g1)))) rf rb (va_up z k z1) (va_up g k g1) := fun j q hj hq => by
  obtain ⟨a0, b0, -, -⟩ := x k r hk hr
  obtain ⟨a, b, c, d⟩ := x j q hj hq
  have k1 : ah_up h r (100 + 2 * k, .inr (5, [.ref (rb k), .int (nI z1)])) (rb k) = some (101 + 2 * k, .inl (G.2.2.1 0, 142, .inl (nA (g k)))) := ah_keep b0 a0 (by omega)
  by_cases e : j = k
  · subst e
    rw [hr] at hq
    cases hq
    rw [va_up_self, va_up_self]
    exact ⟨ah_keep (ah_up_s _ _ _) k1 (by omega), ah_up_s _ _ _, hz, hg⟩
  · rw [va_up_ne _ _ e, va_up_ne _ _ e]
    exact ⟨ah_keep (ah_keep a a0 (by omega)) k1 (by omega), ah_keep (ah_keep b a0 (by omega)) k1 (by omega), c, d⟩
/-- the bytes of row k written anew -/
theorem rowsOk.setB {G : ah_G} {h : ah_H} {rf : Nat → Option Nat} {rb z : Nat → Nat} {g : Nat → Nat → Nat} {k r : Nat} {g1 : Nat → Nat} (x : rowsOk G h rf rb z g) (hk : k < 255) (hr : rf k = some r) (hg : ∀ j, g1 j < 256) :
    rowsOk G (ah_up h (rb k) (101 + 2 * k, .inl (G.2.2.1 0, 142, .inl (nA g1)))) rf rb z (va_up g k g1) := fun j q hj hq => by
  obtain ⟨a0, b0, -, -⟩ := x k r hk hr
  obtain ⟨a, b, c, d⟩ := x j q hj hq
  by_cases e : j = k
  · subst e
    rw [hr] at hq
    cases hq
    rw [va_up_self]
    exact ⟨ah_keep a b0 (by omega), ah_up_s _ _ _, c, hg⟩
  · rw [va_up_ne _ _ e]
    exact ⟨ah_keep a b0 (by omega), ah_keep b b0 (by omega), c, d⟩
/-- a row made at the empty place k -/
theorem rowsOk.add {G : ah_G} {h h' : ah_H} {rf : Nat → Option Nat} {rb z : Nat → Nat} {g : Nat → Nat → Nat} {k q b : Nat} (x : rowsOk G h rf rb z g) (y : agr (fun t => 100 ≤ t ∧ t < 610) h h') (ha : h' q = some (100 + 2 * k, .inr (5, [.ref b, .int (nI 0)]))) (hb : h' b = some (101 + 2 * k, .inl (G.2.2.1 0, 142, .inl (nA (fun _ => 0))))) :
    rowsOk G h' (va_up rf k (some q)) (va_up rb k b) (va_up z k 0) (va_up g k (fun _ => 0)) := fun j r hj hr => by
  by_cases e : j = k
  · subst e
    rw [va_up_self] at hr
    cases hr
    rw [va_up_self, va_up_self, va_up_self]
    exact ⟨ha, hb, by omega, fun _ => by omega⟩
  · rw [va_up_ne _ _ e] at hr
    rw [va_up_ne _ _ e, va_up_ne _ _ e, va_up_ne _ _ e]
    obtain ⟨a, b, c, d⟩ := x j r hj hr
    exact ⟨y _ _ _ (by omega) a, y _ _ _ (by omega) b, c, d⟩
def rowAt (rf : Nat → Option Nat) (pc : Nat) (x : Int32) : Option Nat := if x < 0 then none else if nI pc ≤ x then none else rf x.toNatClampNeg

set_option maxHeartbeats 4000000 in
set_option maxRecDepth 100000 in
theorem c_Msg_init (l : Launch) (G : ah_G) (h : ah_H) (m0 : Nat) (fm : h m0 = some (4, .inr (2, [.null, .int (nI 0)]))) : Met l yX3_init wsX3_init ({ frames := 1, cells := 1, slots := 255, locals := 20 }) (ah_Pc G [.ref m0] h) (ah_Qv G (fun h' => ∃ q, h q = none ∧ h' = ah_up (ah_up h q (5, .inl (G.2.2.1 3, 255, .inr (.inr (.inr (.inr (fun _ => none))))))) m0 (4, .inr (2, [.ref q, .int (nI 0)])))) 1 255 (ah_A G) := by
  refine ah_ofW (cc := cX3_init) (maxL := 1) (ret := none) (by decide) rfl (Nat.le_of_ble_eq_true rfl) ?_
  intro p e s m below meth cd9 ls hx hb hr hml hown hlocks hname hts hE hR hS hl
  have hown : s.vm.findClass RX3 = some m.cls := hown
  have hl : lv_has ls 1 [(0, .ref m0)] := hl
  have wmethodLink_RX3_3_objectInit := hts (.methodLink RX3 3 objectInit) (by decide +kernel)
  have winstanceMethod_objectInit := hts (.instanceMethod objectInit) (by decide +kernel)
  have wcode_objectInit_0xb1_1_none := hts (.code objectInit ⟨#[0xb1]⟩ 1 none) (by decide +kernel)
  have wclassLink_RX3_9_RX6 := hts (.classLink RX3 9 RX6) (by decide +kernel)
  have k11 := hts (.fieldLink RX3 11 "TextParts$Message" "rows" "[LTextParts$Row;") (by decide +kernel)
  have hinX3 : ∀ w ∈ wsX30, w ∈ wsX3_init := by decide +kernel
  refine lv_aload_n hx hb dX3_init_0 rfl (lv_at hl 0 rfl) ?_
  refine W.objInit hx hb hown wmethodLink_RX3_3_objectInit winstanceMethod_objectInit wcode_objectInit_0xb1_1_none rfl (by rw [hml]; exact hl.1) rfl dX3_init_1 (Nat.le_of_ble_eq_true rfl) (Nat.le_of_ble_eq_true rfl) ?_
  refine W.eq (g2 := F0 m 4 ls []) rfl ?_
  refine lv_aload_n hx hb dX3_init_4 rfl (lv_at hl 0 rfl) ?_
  refine lv_sipush (v := nI 255) hx hb dX3_init_5 (by decide) ?_
  refine ah_newq (n := 255) hx hb hE hR hS 5 3 hown wclassLink_RX3_9_RX6 hE.2.2.1.2.2 rfl (by decide) (Nat.le_of_ble_eq_true rfl) (Nat.le_of_ble_eq_true rfl) dX3_init_8 (fun q_1 H hq_2 hR hS => ?_)
  obtain ⟨h_3, e_4⟩ : ∃ zz9, zz9 = ah_up h q_1 (5, .inl (G.2.2.1 3, 255, .inr (.inr (.inr (.inr (fun _ => none)))))) := ⟨_, rfl⟩
  have hR : ah_R G h_3 H := by rw [e_4]; exact hR
  have f_5 : h_3 m0 = some (4, .inr (2, [.null, .int (nI 0)])) := by rw [e_4]; exact ah_new fm hq_2
  have f_6 : h_3 q_1 = some (5, .inl (G.2.2.1 3, 255, .inr (.inr (.inr (.inr (fun _ => none)))))) := by rw [e_4]; exact ah_up_s _ _ _
  refine ah_putF (ci := 2) (v := .ref q_1) (ty := .array (.object "TextParts$Row")) (C := RX3) (T := TX3) (N := 2) hx hb hE hR hS hts hinX3 tyX3 tyX3_ok nmX3 hown f_5 rfl 0 (by decide) k11 (fun _ h9 => h9) rfl hname rfl (by decide +kernel) rfl rfl (Nat.le_of_ble_eq_true rfl) dX3_init_11 (fun H locs hR hS => ?_)
  obtain ⟨h_7, e_8⟩ : ∃ zz9, zz9 = ah_up h_3 m0 (4, .inr (2, [.ref q_1, .int (nI 0)])) := ⟨_, rfl⟩
  have hR : ah_R G h_7 H := by rw [e_8]; exact hR
  have f_9 : h_7 m0 = some (4, .inr (2, [.ref q_1, .int (nI 0)])) := by rw [e_8]; exact ah_up_s _ _ _
  have f_10 : h_7 q_1 = some (5, .inl (G.2.2.1 3, 255, .inr (.inr (.inr (.inr (fun _ => none)))))) := by rw [e_8]; exact ah_keep f_6 f_5 (by omega)
  refine ah_vret hx hb hr hlocks hR hS dX3_init_14 ?_
  exact ⟨q_1, hq_2, by rw [e_8, e_4]⟩

set_option maxHeartbeats 4000000 in
set_option maxRecDepth 100000 in
theorem c_Msg_rowOf (l : Launch) (G : ah_G) (h : ah_H) (m0 ra pc : Nat) (rf : Nat → Option Nat) (fm : h m0 = some (4, .inr (2, [.ref ra, .int (nI pc)]))) (fa : h ra = some (5, .inl (G.2.2.1 3, 255, .inr (.inr (.inr (.inr rf)))))) (hpc : pc ≤ 255) (x : Int32) : Met l yX3_rowOf wsX3_rowOf ({ frames := 0, cells := 0, slots := 0, locals := 0 }) (ah_Pc G [.ref m0, .int x] h) (ah_Qq G (fun v h' => v = rowAt rf pc x ∧ h' = h)) 0 0 (ah_A G) := by
  refine ah_ofW (cc := cX3_rowOf) (maxL := 2) (ret := (some (.object "TextParts$Row"))) (by decide) rfl (Nat.le_of_ble_eq_true rfl) ?_
  intro p e s m below meth cd9 ls hx hb hr hml hown hlocks hname hts hE hR hS hl
  have hown : s.vm.findClass RX3 = some m.cls := hown
  have hl : lv_has ls 2 [(0, .ref m0), (1, .int x)] := hl
  have k17 := hts (.fieldLink RX3 17 "TextParts$Message" "partCount" "I") (by decide +kernel)
  have hinX3 : ∀ w ∈ wsX30, w ∈ wsX3_rowOf := by decide +kernel
  have k11 := hts (.fieldLink RX3 11 "TextParts$Message" "rows" "[LTextParts$Row;") (by decide +kernel)
  refine lv_iload_n hx hb dX3_rowOf_0 rfl (lv_at hl 1 rfl) ?_
  refine lv_if_lt (tgt := 30) hx hb dX3_rowOf_1 (by decide) (fun c_1 => ?_) (fun c_1 => ?_)
  · skip
    refine lv_null hx hb dX3_rowOf_30 ?_
    refine ah_aret (r := none) hx hb hr (by first | exact Or.inl ⟨_, rfl⟩ | exact Or.inr ⟨_, rfl⟩) hlocks hR hS dX3_rowOf_31 rfl ?_
    exact ⟨(if_pos c_1).symm, rfl⟩
  · skip
    refine lv_iload_n hx hb dX3_rowOf_4 rfl (lv_at hl 1 rfl) ?_
    refine lv_aload_n hx hb dX3_rowOf_5 rfl (lv_at hl 0 rfl) ?_
    refine ah_get (ci := 2) (v := .int (nI pc)) (C := RX3) (T := TX3) (N := 2) hx hb hE hR hts hinX3 hown fm rfl 1 (by decide) k17 (fun _ h9 => h9) rfl dX3_rowOf_6 ?_
    refine lv_icmp_ge (tgt := 30) hx hb dX3_rowOf_9 (by decide) (fun c_2 => ?_) (fun c_2 => ?_)
    · skip
      refine lv_null hx hb dX3_rowOf_30 ?_
      refine ah_aret (r := none) hx hb hr (by first | exact Or.inl ⟨_, rfl⟩ | exact Or.inr ⟨_, rfl⟩) hlocks hR hS dX3_rowOf_31 rfl ?_
      exact ⟨by unfold rowAt; rw [if_neg c_1, if_pos c_2], rfl⟩
    · skip
      obtain ⟨j, hj, rfl⟩ := ix_of c_1 c_2 (show pc < 2 ^ 31 by omega)
      refine lv_iload_n hx hb dX3_rowOf_12 rfl (lv_at hl 1 rfl) ?_
      refine lv_aload_n hx hb dX3_rowOf_13 rfl (lv_at hl 0 rfl) ?_
      refine ah_get (ci := 2) (v := .ref ra) (C := RX3) (T := TX3) (N := 2) hx hb hE hR hts hinX3 hown fm rfl 0 (by decide) k11 (fun _ h9 => h9) rfl dX3_rowOf_14 ?_
      refine ah_alen hx hb hE hR fa (show (ah_tys G)[3]? = some _ from rfl) dX3_rowOf_17 ?_
      refine lv_icmp_ge (tgt := 30) hx hb dX3_rowOf_18 (by decide) (fun c_3 => ?_) (fun c_3 => ?_)
      · skip
        have c_3 : 255 ≤ j := (nI_leI (by omega) (by omega)).mp c_3
        exact absurd c_3 (by omega)
      · skip
        have c_3 : ¬ (255 ≤ j) := fun z9 => c_3 ((nI_leI (by omega) (by omega)).mpr z9)
        refine lv_aload_n hx hb dX3_rowOf_21 rfl (lv_at hl 0 rfl) ?_
        refine ah_get (ci := 2) (v := .ref ra) (C := RX3) (T := TX3) (N := 2) hx hb hE hR hts hinX3 hown fm rfl 0 (by decide) k11 (fun _ h9 => h9) rfl dX3_rowOf_22 ?_
        refine lv_iload_n hx hb dX3_rowOf_25 rfl (lv_at hl 1 rfl) ?_
        refine ah_aald (i := j) hx hb hE hR fa rfl (by omega) (by omega) dX3_rowOf_26 ?_
        refine lv_goto (tgt := 31) hx hb dX3_rowOf_27 (by decide) ?_
        refine ah_aret (r := (rf j)) hx hb hr (by first | exact Or.inl ⟨_, rfl⟩ | exact Or.inr ⟨_, rfl⟩) hlocks hR hS dX3_rowOf_31 rfl ?_
        exact ⟨by unfold rowAt; rw [if_neg c_1, if_neg c_2, nI_clamp (by omega)], rfl⟩
