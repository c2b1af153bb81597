/-! ===== TextPartsModel: its state, the text ===== -/
/-- the reference's fields -/
abbrev mF (A : Nat → Nat) (k0 n rf pm zh lc c pt gv un : Nat) : List Value := [.int (nI k0), .ref (A 1), .ref (A 2), .int (nI n), .ref (A 4), .int (nI rf), .int (nI pm), .ref (A 7), .ref (A 8), .int (nI zh), .ref (A 10), .int (nI lc), .ref (A 12), .int (nI c), .ref (A 14), .ref (A 15), .ref (A 16), .ref (A 17), .ref (A 18), .ref (A 19), .int (nI pt), .ref (A 21), .ref (A 22), .int (nI gv), .ref (A 24), .int (nI un), .ref (A 26)]
/-- what a seven reads alone, what it reads behind an escape; -1: nothing -/
def plT (k : Nat) : Int32 := if ownP k then nI k else ptn (tabF 1) (tabF 0) 11 0 (nI k)
def esT (k : Nat) : Int32 := ptn (tabF 3) (tabF 2) 9 0 (nI k)
def svL (u : Nat) : Nat → Nat → Int32 → Int32
  | 0, _, o => o
  | m + 1, k, o => svL u m (k + 1) (if plT k = nI u then nI k else if esT k = nI u then nI (128 + k) else o)
/-- the seven of a unit, by 128 more behind an escape, -1 if it has none -/
def sv9 (u : Nat) : Int32 := if plainSv u = -1 then (if escSv u = -1 then -1 else nI (128 + escN u)) else nI (plainN u)
theorem svL_same {u : Nat} {V : Int32} : ∀ (m k : Nat) (o : Int32), (∀ j, k ≤ j → j < k + m → (plT j = nI u → nI j = V) ∧ (esT j = nI u → nI (128 + j) = V)) → (o = V ∨ ∃ j, k ≤ j ∧ j < k + m ∧ (plT j = nI u ∨ esT j = nI u)) → svL u m k o = V
  | 0, k, o, _, h => by
    rcases h with h | ⟨j, h1, h2, -⟩
    · exact h
    · omega
  | m + 1, k, o, ha, h => by
    unfold svL
    refine svL_same m (k + 1) _ (fun j h1 h2 => ha j (by omega) (by omega)) ?_
    obtain ⟨a1, a2⟩ := ha k (Nat.le_refl k) (by omega)
    by_cases p1 : plT k = nI u
    · rw [if_pos p1]; exact Or.inl (a1 p1)
    · rw [if_neg p1]
      by_cases p2 : esT k = nI u
      · rw [if_pos p2]; exact Or.inl (a2 p2)
      · rw [if_neg p2]
        rcases h with h | ⟨j, h1, h2, h3⟩
        · exact Or.inl h
        · refine Or.inr ⟨j, ?_, by omega, h3⟩
          by_cases e : j = k
          · subst e; exact (h3.elim p1 p2).elim
          · omega
theorem svL_none {u : Nat} : ∀ (m k : Nat) (o : Int32), (∀ j, k ≤ j → j < k + m → ¬ plT j = nI u ∧ ¬ esT j = nI u) → svL u m k o = o
  | 0, _, _, _ => rfl
  | m + 1, k, o, h => by
    unfold svL
    obtain ⟨a1, a2⟩ := h k (Nat.le_refl k) (by omega)
    rw [if_neg a1, if_neg a2]
    exact svL_none m (k + 1) o (fun j h1 h2 => h j (by omega) (by omega))
theorem plT_ok : ∀ k, k < 128 → plT k = -1 ∨ sv9 (plT k).toNatClampNeg = nI k := by decide +kernel
theorem esT_ok : ∀ k, k < 128 → esT k = -1 ∨ sv9 (esT k).toNatClampNeg = nI (128 + k) := by decide +kernel
theorem tab01 : ∀ j, j < 11 → plT (tabF 1 j).toNatClampNeg = tabF 0 j := by decide +kernel
theorem tab23 : ∀ j, j < 9 → esT (tabF 3 j).toNatClampNeg = tabF 2 j := by decide +kernel
theorem plT_of {u : Nat} (h : ¬ plainSv u = -1) : plainN u < 128 ∧ plT (plainN u) = nI u := by
  unfold plainN
  unfold plainSv at h ⊢
  by_cases o : ownP u
  · rw [if_pos o, nI_clamp (by omega)]; exact ⟨by omega, if_pos o⟩
  · rw [if_neg o] at h ⊢
    rcases ptn_mem (tabF 0) (tabF 1) 11 0 (nI u) with q | ⟨j, h1, h2, h3, h4⟩
    · exact absurd q h
    · rw [h4]; exact ⟨(tab1_ok j (by omega)).2, (tab01 j (by omega)).trans h3⟩
theorem esT_of {u : Nat} (h : ¬ escSv u = -1) : escN u < 128 ∧ esT (escN u) = nI u := by
  unfold escN
  unfold escSv at h ⊢
  rcases ptn_mem (tabF 2) (tabF 3) 9 0 (nI u) with q | ⟨j, h1, h2, h3, h4⟩
  · exact absurd q h
  · rw [h4]; exact ⟨(tab3_ok j (by omega)).2, (tab23 j (by omega)).trans h3⟩
theorem svL_eq {u : Nat} (hu : u < 2 ^ 31) : svL u 128 0 (-1) = sv9 u := by
  have hall : ∀ j, 0 ≤ j → j < 0 + 128 → (plT j = nI u → nI j = sv9 u) ∧ (esT j = nI u → nI (128 + j) = sv9 u) := by
    intro j _ hj
    refine ⟨fun h => ?_, fun h => ?_⟩
    · rcases plT_ok j (by omega) with q | q
      · rw [h] at q; exact absurd q (zi_ne hu)
      · rw [h, nI_clamp hu] at q; exact q.symm
    · rcases esT_ok j (by omega) with q | q
      · rw [h] at q; exact absurd q (zi_ne hu)
      · rw [h, nI_clamp hu] at q; exact q.symm
  by_cases h1 : plainSv u = -1
  · by_cases h2 : escSv u = -1
    · have e : sv9 u = -1 := by unfold sv9; rw [if_pos h1, if_pos h2]
      rw [e]
      refine svL_none 128 0 _ (fun j h3 h4 => ⟨fun q => ?_, fun q => ?_⟩)
      · have := (hall j h3 h4).1 q; rw [e] at this; exact zi_ne (by omega) this
      · have := (hall j h3 h4).2 q; rw [e] at this; exact zi_ne (by omega) this
    · obtain ⟨a, b⟩ := esT_of h2
      exact svL_same 128 0 _ hall (Or.inr ⟨_, Nat.zero_le _, by omega, Or.inr b⟩)
  · obtain ⟨a, b⟩ := plT_of h1
    exact svL_same 128 0 _ hall (Or.inr ⟨_, Nat.zero_le _, by omega, Or.inl b⟩)
/-- .. as a number, where the unit has one -/
def sv9N (u : Nat) : Nat := if plainSv u = -1 then 128 + escN u else plainN u
theorem sv9_in {u : Nat} (h : svFor u ≠ 0) : sv9 u = nI (sv9N u) ∧ sv9N u < 256 ∧ (127 < sv9N u ↔ svFor u = 2) ∧ (svFor u = 1 ∨ svFor u = 2) := by
  unfold sv9 sv9N
  by_cases h1 : plainSv u = -1
  · obtain ⟨a, b⟩ := svFor2 h1 h
    have := (esT_of b).1
    rw [if_pos h1, if_neg b, if_pos h1]
    exact ⟨rfl, by omega, ⟨fun _ => a, fun _ => by omega⟩, Or.inr a⟩
  · have := (plT_of h1).1
    rw [if_neg h1, if_neg h1]
    have e := svFor1 h1
    exact ⟨rfl, by omega, ⟨fun _ => by omega, fun _ => by omega⟩, Or.inl e⟩
theorem sv9_out {u : Nat} : svFor u = 0 ↔ sv9 u = -1 := by
  constructor
  · intro h
    unfold svFor at h
    unfold sv9
    by_cases h1 : plainSv u = -1
    · rw [if_pos h1] at h ⊢
      by_cases h2 : escSv u = -1
      · rw [if_pos h2]
      · rw [if_neg h2] at h; omega
    · rw [if_neg h1] at h; omega
  · intro h
    refine Classical.byContradiction (fun q => ?_)
    have h9 := sv9_in q
    rw [h9.1] at h
    exact zi_ne (by omega) h

set_option maxHeartbeats 4000000 in
set_option maxRecDepth 100000 in
theorem c_m_thrown (l : Launch) (G : ah_G) (h : ah_H) (y : Nat) (A : Nat → Nat) (k0 n rf pm zh lc c pt gv un : Nat) (fy : h y = some (20, .inr (8, mF A k0 n rf pm zh lc c pt gv un))) : Met l yX9_thrown wsX9_thrown ({ frames := 0, cells := 0, slots := 0, locals := 0 }) (ah_Pc G [.ref y] h) (ah_Qi G (fun v h' => v = nI k0 ∧ h' = h)) 0 0 (ah_A G) := by
  refine ah_ofW (cc := cX9_thrown) (maxL := 1) (ret := (some .int)) (by decide) rfl (Nat.le_of_ble_eq_true rfl) ?_
  intro p e s m below meth cd9 ls hx hb hr hml hown hlocks hname hts hE hR hS hl
  have hown : s.vm.findClass RX9 = some m.cls := hown
  have hl : lv_has ls 1 [(0, .ref y)] := hl
  have k64 := hts (.fieldLink RX9 64 "TextPartsModel" "code" "I") (by decide +kernel)
  have hinX9 : ∀ w ∈ wsX90, w ∈ wsX9_thrown := by decide +kernel
  refine lv_aload_n hx hb dX9_thrown_0 rfl (lv_at hl 0 rfl) ?_
  refine ah_get (ci := 8) (v := .int (nI k0)) (C := RX9) (T := TX9) (N := 27) hx hb hE hR hts hinX9 hown fy rfl 0 (by decide) k64 (fun _ h9 => h9) rfl dX9_thrown_1 ?_
  refine ah_iret (v := nI k0) hx hb hr hlocks hR hS dX9_thrown_4 ?_
  exact ⟨rfl, rfl⟩

set_option maxHeartbeats 4000000 in
set_option maxRecDepth 100000 in
theorem c_m_refuses (l : Launch) (G : ah_G) (h : ah_H) (y : Nat) (A : Nat → Nat) (k0 n rf pm zh lc c pt gv un : Nat) (fy : h y = some (20, .inr (8, mF A k0 n rf pm zh lc c pt gv un))) (k : Nat) (hk : k < 3) : Met l yX9_refuses wsX9_refuses ({ frames := 0, cells := 0, slots := 0, locals := 0 }) (ah_Pc G [.ref y, .int (nI k)] h) (ah_Qi G (fun v h' => v = nI (if k = 0 then 0 else 1) ∧ h' = ah_up h y (20, .inr (8, mF A k n rf pm zh lc c pt gv un)))) 0 0 (ah_A G) := by
  refine ah_ofW (cc := cX9_refuses) (maxL := 2) (ret := (some .boolean)) (by decide) rfl (Nat.le_of_ble_eq_true rfl) ?_
  intro p e s m below meth cd9 ls hx hb hr hml hown hlocks hname hts hE hR hS hl
  have hown : s.vm.findClass RX9 = some m.cls := hown
  have hl : lv_has ls 2 [(0, .ref y), (1, .int (nI k))] := hl
  have k64 := hts (.fieldLink RX9 64 "TextPartsModel" "code" "I") (by decide +kernel)
  have hinX9 : ∀ w ∈ wsX90, w ∈ wsX9_refuses := by decide +kernel
  refine lv_aload_n hx hb dX9_refuses_0 rfl (lv_at hl 0 rfl) ?_
  refine lv_iload_n hx hb dX9_refuses_1 rfl (lv_at hl 1 rfl) ?_
  refine ah_put (ci := 8) (v := .int (nI k)) (ty := .int) (C := RX9) (T := TX9) (N := 27) hx hb hE hR hS hts hinX9 tyX9 tyX9_ok nmX9 hown fy rfl 0 (by decide) k64 (fun _ h9 => h9) rfl (by decide +kernel) rfl rfl (Nat.le_of_ble_eq_true rfl) dX9_refuses_2 (fun H locs hR hS => ?_)
  obtain ⟨h_1, e_2⟩ : ∃ zz9, zz9 = ah_up h y (20, .inr (8, mF A k n rf pm zh lc c pt gv un)) := ⟨_, rfl⟩
  have hR : ah_R G h_1 H := by rw [e_2]; exact hR
  have f_3 : h_1 y = some (20, .inr (8, mF A k n rf pm zh lc c pt gv un)) := by rw [e_2]; exact ah_up_s _ _ _
  refine lv_iload_n hx hb dX9_refuses_5 rfl (lv_at hl 1 rfl) ?_
  refine lv_if_le (tgt := 13) hx hb dX9_refuses_6 (by decide) (fun c_4 => ?_) (fun c_4 => ?_)
  · skip
    have c_4 : k ≤ 0 := (zi_le (by omega)).mp c_4
    refine lv_iconst (v := nI 0) hx hb dX9_refuses_13 (by decide) ?_
    refine ah_zret (v := nI 0) hx hb hr hlocks hR hS dX9_refuses_14 (by decide) ?_
    exact ⟨by rw [if_pos (show k = 0 by omega)], e_2⟩
  · skip
    have c_4 : ¬ (k ≤ 0) := fun z9 => c_4 ((zi_le (by omega)).mpr z9)
    refine lv_iconst (v := nI 1) hx hb dX9_refuses_9 (by decide) ?_
    refine lv_goto (tgt := 14) hx hb dX9_refuses_10 (by decide) ?_
    refine ah_zret (v := nI 1) hx hb hr hlocks hR hS dX9_refuses_14 (by decide) ?_
    exact ⟨by rw [if_neg (show ¬ k = 0 by omega)], e_2⟩

set_option maxHeartbeats 4000000 in
set_option maxRecDepth 100000 in
theorem c_m_sevenOf (l : Launch) (G : ah_G) (h : ah_H) (y : Nat) (A : Nat → Nat) (k0 n rf pm zh lc c pt gv un : Nat) (fy : h y = some (20, .inr (8, mF A k0 n rf pm zh lc c pt gv un))) (fa1 : h (A 1) = some (21, .inl (G.2.2.1 0, 128, .inl plT))) (fa2 : h (A 2) = some (22, .inl (G.2.2.1 0, 128, .inl esT))) (u : Nat) (hu : u < 2 ^ 31) : Met l yX9_sevenOf wsX9_sevenOf ({ frames := 0, cells := 0, slots := 0, locals := 0 }) (ah_Pc G [.ref y, .int (nI u)] h) (ah_Qi G (fun v h' => v = sv9 u ∧ h' = h)) 0 0 (ah_A G) := by
  refine ah_ofW (cc := cX9_sevenOf) (maxL := 4) (ret := (some .int)) (by decide) rfl (Nat.le_of_ble_eq_true rfl) ?_
  intro p e s m below meth cd9 ls hx hb hr hml hown hlocks hname hts hE hR hS hl
  have hown : s.vm.findClass RX9 = some m.cls := hown
  have hl : lv_has ls 4 [(0, .ref y), (1, .int (nI u))] := hl
  have k7 := hts (.fieldLink RX9 7 "TextPartsModel" "plain" "[I") (by decide +kernel)
  have hinX9 : ∀ w ∈ wsX90, w ∈ wsX9_sevenOf := by decide +kernel
  have k13 := hts (.fieldLink RX9 13 "TextPartsModel" "escaped" "[I") (by decide +kernel)
  refine lv_iconst (v := (-1)) hx hb dX9_sevenOf_0 (by decide) ?_
  refine lv_istore_n (lv' := [(2, .int (-1)), (0, .ref y), (1, .int (nI u))]) hx hb dX9_sevenOf_1 rfl hl (by decide) rfl (fun ls hl => ?_)
  refine lv_iconst (v := nI 0) hx hb dX9_sevenOf_2 (by decide) ?_
  refine lv_istore_n (lv' := [(3, .int (nI 0)), (2, .int (-1)), (0, .ref y), (1, .int (nI u))]) hx hb dX9_sevenOf_3 rfl hl (by decide) rfl (fun ls hl => ?_)
  have L4 : ∀ (N4 : Nat) (k : Nat) (o : Int32) (H : Heap) (locs : List Loc) (ls : Array Slot), 128 - k < N4 → (k ≤ 128) → (svL u (128 - k) k o = sv9 u) → (h y = some (20, .inr (8, mF A k0 n rf pm zh lc c pt gv un))) → (h (A 1) = some (21, .inl (G.2.2.1 0, 128, .inl plT))) → (h (A 2) = some (22, .inl (G.2.2.1 0, 128, .inl esT))) → ah_R G h H → va_S (ah_A G) s.heap H locs → lv_has ls 4 [(3, .int (nI k)), (2, .int o), (0, .ref y), (1, .int (nI u))] → W p l e ({ frames := 0, cells := 0, slots := 0, locals := 0 }) s m ([.ref y, .int (nI u)] : List Value).toArray below meth cd9 H locs 0 0 (MQ below (ah_Qi G (fun v h' => v = sv9 u ∧ h' = h)) ([.ref y, .int (nI u)] : List Value).toArray s 0 0 (ah_A G)) (F0 m 4 ls []) := by
    intro N4
    induction N4 with
    | zero => intro k o  H locs ls hN; exact absurd hN (Nat.not_lt_zero _)
    | succ N4 ih4 =>
      intro k o  H locs ls hN4 hk eo fy fa1 fa2 hR hS hl
      refine lv_iload_n hx hb dX9_sevenOf_4 rfl (lv_at hl 0 rfl) ?_
      refine lv_sipush (v := nI 128) hx hb dX9_sevenOf_5 (by decide) ?_
      refine lv_icmp_ge (tgt := 51) hx hb dX9_sevenOf_8 (by decide) (fun c_1 => ?_) (fun c_1 => ?_)
      · skip
        have c_1 : 128 ≤ k := (nI_leI (by omega) (by omega)).mp c_1
        refine lv_iload_n hx hb dX9_sevenOf_51 rfl (lv_at hl 1 rfl) ?_
        refine ah_iret (v := o) hx hb hr hlocks hR hS dX9_sevenOf_52 ?_
        exact ⟨by rw [← eo, show 128 - k = 0 by omega]; rfl, rfl⟩
      · skip
        have c_1 : ¬ (128 ≤ k) := fun z9 => c_1 ((nI_leI (by omega) (by omega)).mpr z9)
        refine lv_aload_n hx hb dX9_sevenOf_11 rfl (lv_at hl 2 rfl) ?_
        refine ah_get (ci := 8) (v := .ref (A 1)) (C := RX9) (T := TX9) (N := 27) hx hb hE hR hts hinX9 hown fy rfl 1 (by decide) k7 (fun _ h9 => h9) rfl dX9_sevenOf_12 ?_
        refine lv_iload_n hx hb dX9_sevenOf_15 rfl (lv_at hl 0 rfl) ?_
        refine ah_iald (i := k) hx hb hE hR fa1 (by omega) (by omega) dX9_sevenOf_16 ?_
        refine lv_iload_n hx hb dX9_sevenOf_17 rfl (lv_at hl 3 rfl) ?_
        refine lv_icmp_ne (tgt := 25) hx hb dX9_sevenOf_18 (by decide) (fun c_2 => ?_) (fun c_2 => ?_)
        · skip
          refine lv_aload_n hx hb dX9_sevenOf_25 rfl (lv_at hl 2 rfl) ?_
          refine ah_get (ci := 8) (v := .ref (A 2)) (C := RX9) (T := TX9) (N := 27) hx hb hE hR hts hinX9 hown fy rfl 2 (by decide) k13 (fun _ h9 => h9) rfl dX9_sevenOf_26 ?_
          refine lv_iload_n hx hb dX9_sevenOf_29 rfl (lv_at hl 0 rfl) ?_
          refine ah_iald (i := k) hx hb hE hR fa2 (by omega) (by omega) dX9_sevenOf_30 ?_
          refine lv_iload_n hx hb dX9_sevenOf_31 rfl (lv_at hl 3 rfl) ?_
          refine lv_icmp_ne (tgt := 43) hx hb dX9_sevenOf_32 (by decide) (fun c_3 => ?_) (fun c_3 => ?_)
          · skip
            refine lv_iload_n hx hb dX9_sevenOf_43 rfl (lv_at hl 1 rfl) ?_
            refine lv_istore_n (lv' := [(2, .int o), (3, .int (nI k)), (0, .ref y), (1, .int (nI u))]) hx hb dX9_sevenOf_44 rfl hl (by decide) rfl (fun ls hl => ?_)
            refine lv_iinc (v := nI (k + 1)) (lv' := [(3, .int (nI (k + 1))), (2, .int o), (0, .ref y), (1, .int (nI u))]) hx hb dX9_sevenOf_45 hl (k := 1) rfl (show nI k + Int32.ofInt 1 = nI (k + 1) from nI_add _ 1) (by decide) rfl (fun ls hl => ?_)
            refine lv_goto (tgt := 4) hx hb dX9_sevenOf_48 (by decide) ?_
            exact ih4  (k + 1) o _ _ ls (by omega) (by omega) (by rw [← eo, show 128 - k = 128 - (k + 1) + 1 by omega]; show _ = svL u _ (k + 1) _; rw [if_neg c_2, if_neg c_3]) fy fa1 fa2 hR hS (lv_sub hl [0, 1, 2, 3] rfl)
          · skip
            refine lv_sipush (v := nI 128) hx hb dX9_sevenOf_35 (by decide) ?_
            refine lv_iload_n hx hb dX9_sevenOf_38 rfl (lv_at hl 0 rfl) ?_
            refine lv_iadd hx hb dX9_sevenOf_39 ?_
            refine ah_toi (v := nI (128 + k)) (nI_add _ _) ?_
            refine lv_goto (tgt := 44) hx hb dX9_sevenOf_40 (by decide) ?_
            refine lv_istore_n (lv' := [(2, .int (nI (128 + k))), (3, .int (nI k)), (0, .ref y), (1, .int (nI u))]) hx hb dX9_sevenOf_44 rfl hl (by decide) rfl (fun ls hl => ?_)
            refine lv_iinc (v := nI (k + 1)) (lv' := [(3, .int (nI (k + 1))), (2, .int (nI (128 + k))), (0, .ref y), (1, .int (nI u))]) hx hb dX9_sevenOf_45 hl (k := 1) rfl (show nI k + Int32.ofInt 1 = nI (k + 1) from nI_add _ 1) (by decide) rfl (fun ls hl => ?_)
            refine lv_goto (tgt := 4) hx hb dX9_sevenOf_48 (by decide) ?_
            exact ih4  (k + 1) (nI (128 + k)) _ _ ls (by omega) (by omega) (by rw [← eo, show 128 - k = 128 - (k + 1) + 1 by omega]; show _ = svL u _ (k + 1) _; rw [if_neg c_2, if_pos c_3]) fy fa1 fa2 hR hS (lv_sub hl [0, 1, 2, 3] rfl)
        · skip
          refine lv_iload_n hx hb dX9_sevenOf_21 rfl (lv_at hl 0 rfl) ?_
          refine lv_goto (tgt := 44) hx hb dX9_sevenOf_22 (by decide) ?_
          refine lv_istore_n (lv' := [(2, .int (nI k)), (3, .int (nI k)), (0, .ref y), (1, .int (nI u))]) hx hb dX9_sevenOf_44 rfl hl (by decide) rfl (fun ls hl => ?_)
          refine lv_iinc (v := nI (k + 1)) (lv' := [(3, .int (nI (k + 1))), (2, .int (nI k)), (0, .ref y), (1, .int (nI u))]) hx hb dX9_sevenOf_45 hl (k := 1) rfl (show nI k + Int32.ofInt 1 = nI (k + 1) from nI_add _ 1) (by decide) rfl (fun ls hl => ?_)
          refine lv_goto (tgt := 4) hx hb dX9_sevenOf_48 (by decide) ?_
          exact ih4  (k + 1) (nI k) _ _ ls (by omega) (by omega) (by rw [← eo, show 128 - k = 128 - (k + 1) + 1 by omega]; show _ = svL u _ (k + 1) _; rw [if_pos c_2]) fy fa1 fa2 hR hS (lv_sub hl [0, 1, 2, 3] rfl)
  exact L4 ((128 - 0) + 1) 0 (-1) _ _ ls (by omega) (by omega) (svL_eq hu) fy fa1 fa2 hR hS (lv_sub hl [0, 1, 2, 3] rfl)

set_option maxHeartbeats 4000000 in
set_option maxRecDepth 100000 in
theorem c_m_sevens (l : Launch) (G : ah_G) (h : ah_H) (y : Nat) (A : Nat → Nat) (k0 n rf pm zh lc c pt gv un : Nat) (fy : h y = some (20, .inr (8, mF A k0 n rf pm zh lc c pt gv un))) (fa1 : h (A 1) = some (21, .inl (G.2.2.1 0, 128, .inl plT))) (fa2 : h (A 2) = some (22, .inl (G.2.2.1 0, 128, .inl esT))) (tx : Nat → Nat) (fa4 : h (A 4) = some (24, .inl (G.2.2.1 0, 3000, .inl (nA tx)))) (hn : n ≤ 3000) (hf : ∀ j, tx j < 65536) : Met l yX9_sevens wsX9_sevens ({ frames := 1, cells := 0, slots := 0, locals := 23 }) (ah_Pc G [.ref y] h) (ah_Qi G (fun v h' => v = (if outs tx n = 0 then nI (sumS tx 0 n) else -1) ∧ h' = h)) 0 0 (ah_A G) := by
  refine ah_ofW (cc := cX9_sevens) (maxL := 4) (ret := (some .int)) (by decide) rfl (Nat.le_of_ble_eq_true rfl) ?_
  intro p e s m below meth cd9 ls hx hb hr hml hown hlocks hname hts hE hR hS hl
  have hown : s.vm.findClass RX9 = some m.cls := hown
  have hl : lv_has ls 4 [(0, .ref y)] := hl
  have k69 := hts (.fieldLink RX9 69 "TextPartsModel" "count" "I") (by decide +kernel)
  have hinX9 : ∀ w ∈ wsX90, w ∈ wsX9_sevens := by decide +kernel
  have k16 := hts (.fieldLink RX9 16 "TextPartsModel" "text" "[I") (by decide +kernel)
  refine lv_iconst (v := nI 0) hx hb dX9_sevens_0 (by decide) ?_
  refine lv_istore_n (lv' := [(1, .int (nI 0)), (0, .ref y)]) hx hb dX9_sevens_1 rfl hl (by decide) rfl (fun ls hl => ?_)
  refine lv_iconst (v := nI 0) hx hb dX9_sevens_2 (by decide) ?_
  refine lv_istore_n (lv' := [(2, .int (nI 0)), (1, .int (nI 0)), (0, .ref y)]) hx hb dX9_sevens_3 rfl hl (by decide) rfl (fun ls hl => ?_)
  have L4 : ∀ (N4 : Nat) (k : Nat) (H : Heap) (locs : List Loc) (ls : Array Slot), n - k < N4 → (k ≤ n) → (outs tx k = 0) → (sumS tx 0 k ≤ 2 * k) → (h y = some (20, .inr (8, mF A k0 n rf pm zh lc c pt gv un))) → (h (A 1) = some (21, .inl (G.2.2.1 0, 128, .inl plT))) → (h (A 2) = some (22, .inl (G.2.2.1 0, 128, .inl esT))) → (h (A 4) = some (24, .inl (G.2.2.1 0, 3000, .inl (nA tx)))) → ah_R G h H → va_S (ah_A G) s.heap H locs → lv_has ls 4 [(2, .int (nI k)), (1, .int (nI (sumS tx 0 k))), (0, .ref y)] → W p l e ({ frames := 1, cells := 0, slots := 0, locals := 23 }) s m ([.ref y] : List Value).toArray below meth cd9 H locs 0 0 (MQ below (ah_Qi G (fun v h' => v = (if outs tx n = 0 then nI (sumS tx 0 n) else -1) ∧ h' = h)) ([.ref y] : List Value).toArray s 0 0 (ah_A G)) (F0 m 4 ls []) := by
    intro N4
    induction N4 with
    | zero => intro k  H locs ls hN; exact absurd hN (Nat.not_lt_zero _)
    | succ N4 ih4 =>
      intro k  H locs ls hN4 hk ho hs fy fa1 fa2 fa4 hR hS hl
      refine lv_iload_n hx hb dX9_sevens_4 rfl (lv_at hl 0 rfl) ?_
      refine lv_aload_n hx hb dX9_sevens_5 rfl (lv_at hl 2 rfl) ?_
      refine ah_get (ci := 8) (v := .int (nI n)) (C := RX9) (T := TX9) (N := 27) hx hb hE hR hts hinX9 hown fy rfl 3 (by decide) k69 (fun _ h9 => h9) rfl dX9_sevens_6 ?_
      refine lv_icmp_ge (tgt := 50) hx hb dX9_sevens_9 (by decide) (fun c_1 => ?_) (fun c_1 => ?_)
      · skip
        have c_1 : n ≤ k := (nI_leI (by omega) (by omega)).mp c_1
        refine lv_iload_n hx hb dX9_sevens_50 rfl (lv_at hl 1 rfl) ?_
        refine ah_iret (v := nI (sumS tx 0 k)) hx hb hr hlocks hR hS dX9_sevens_51 ?_
        have e9 : k = n := by omega
        subst e9
        exact ⟨(if_pos ho).symm, rfl⟩
      · skip
        have c_1 : ¬ (n ≤ k) := fun z9 => c_1 ((nI_leI (by omega) (by omega)).mpr z9)
        have hfk := hf k
        refine lv_aload_n hx hb dX9_sevens_12 rfl (lv_at hl 2 rfl) ?_
        refine lv_aload_n hx hb dX9_sevens_13 rfl (lv_at hl 2 rfl) ?_
        refine ah_get (ci := 8) (v := .ref (A 4)) (C := RX9) (T := TX9) (N := 27) hx hb hE hR hts hinX9 hown fy rfl 4 (by decide) k16 (fun _ h9 => h9) rfl dX9_sevens_14 ?_
        refine lv_iload_n hx hb dX9_sevens_17 rfl (lv_at hl 0 rfl) ?_
        refine ah_iald (i := k) hx hb hE hR fa4 (by omega) (by omega) dX9_sevens_18 ?_
        refine ah_toi (v := nI (tx k)) rfl ?_
        refine ah_calli (va_runV (As := [.int (nI (tx k))]) (rest := []) ⟨hx, hb, hml, hown, hts⟩ (c_m_sevenOf l G h y A k0 n rf pm zh lc c pt gv un fy fa1 fa2 (tx k) (by omega)) (cwV 1 hts gX9_sevens_X9_sevenOf rfl rfl rfl (by decide +kernel) ⟨Nat.le_of_ble_eq_true rfl, Nat.le_of_ble_eq_true rfl⟩) (ah_preV hE hR hS fy rfl) rfl rfl hl.1 rfl (lv_room (Nat.le_of_ble_eq_true rfl)) dX9_sevens_19 ⟨Nat.le_of_ble_eq_true rfl, Nat.le_of_ble_eq_true rfl⟩) hS (fun r_4 h_2 H locs p_3 hR hS => ?_)
        obtain ⟨e_5, e_6⟩ := p_3
        rw [e_6] at hR
        by_cases hne : svFor (tx k) = 0
        · skip
          refine ah_toi (v := (-1)) (by rw [e_5]; exact sv9_out.mp hne) ?_
          refine lv_istore_n (lv' := [(3, .int (-1)), (2, .int (nI k)), (1, .int (nI (sumS tx 0 k))), (0, .ref y)]) hx hb dX9_sevens_22 rfl hl (by decide) rfl (fun ls hl => ?_)
          refine lv_iload_n hx hb dX9_sevens_23 rfl (lv_at hl 0 rfl) ?_
          refine lv_iconst (v := (-1)) hx hb dX9_sevens_24 (by decide) ?_
          refine lv_icmp_ne (tgt := 30) hx hb dX9_sevens_25 (by decide) (fun c_7 => ?_) (fun c_7 => ?_)
          · skip
            exact absurd rfl c_7
          · skip
            refine lv_iconst (v := (-1)) hx hb dX9_sevens_28 (by decide) ?_
            refine ah_iret (v := (-1)) hx hb hr hlocks hR hS dX9_sevens_29 ?_
            exact ⟨(if_neg (fun q => by have := outs_0 n q k (by omega); exact this hne)).symm, rfl⟩
        · skip
          obtain ⟨e9, l9, t9, o9⟩ := sv9_in hne
          refine ah_toi (v := nI (sv9N (tx k))) (by rw [e_5]; exact e9) ?_
          refine lv_istore_n (lv' := [(3, .int (nI (sv9N (tx k)))), (2, .int (nI k)), (1, .int (nI (sumS tx 0 k))), (0, .ref y)]) hx hb dX9_sevens_22 rfl hl (by decide) rfl (fun ls hl => ?_)
          refine lv_iload_n hx hb dX9_sevens_23 rfl (lv_at hl 0 rfl) ?_
          refine lv_iconst (v := (-1)) hx hb dX9_sevens_24 (by decide) ?_
          refine lv_icmp_ne (tgt := 30) hx hb dX9_sevens_25 (by decide) (fun c_8 => ?_) (fun c_8 => ?_)
          · skip
            refine lv_iload_n hx hb dX9_sevens_30 rfl (lv_at hl 2 rfl) ?_
            refine lv_iload_n hx hb dX9_sevens_31 rfl (lv_at hl 0 rfl) ?_
            refine lv_bipush (v := nI 127) hx hb dX9_sevens_32 (by decide) ?_
            refine lv_icmp_le (tgt := 41) hx hb dX9_sevens_34 (by decide) (fun c_9 => ?_) (fun c_9 => ?_)
            · skip
              have c_9 : (sv9N (tx k)) ≤ 127 := (nI_leI (by omega) (by omega)).mp c_9
              refine lv_iconst (v := nI 1) hx hb dX9_sevens_41 (by decide) ?_
              refine lv_iadd hx hb dX9_sevens_42 ?_
              refine ah_toi (v := nI ((sumS tx 0 k) + 1)) (nI_add _ _) ?_
              refine lv_istore_n (lv' := [(1, .int (nI ((sumS tx 0 k) + 1))), (3, .int (nI (sv9N (tx k)))), (2, .int (nI k)), (0, .ref y)]) hx hb dX9_sevens_43 rfl hl (by decide) rfl (fun ls hl => ?_)
              have hv9 : svFor (tx k) = 1 := by omega
              rw [show (sumS tx 0 k) + 1 = sumS tx 0 (k + 1) by show _ = sumS tx 0 k + svFor (tx (0 + k)); rw [Nat.zero_add, hv9]] at hl
              refine lv_iinc (v := nI (k + 1)) (lv' := [(2, .int (nI (k + 1))), (1, .int (nI (sumS tx 0 (k + 1)))), (3, .int (nI (sv9N (tx k)))), (0, .ref y)]) hx hb dX9_sevens_44 hl (k := 2) rfl (show nI k + Int32.ofInt 1 = nI (k + 1) from nI_add _ 1) (by decide) rfl (fun ls hl => ?_)
              refine lv_goto (tgt := 4) hx hb dX9_sevens_47 (by decide) ?_
              exact ih4  (k + 1) _ _ ls (by omega) (by omega) (by unfold outs; rw [if_neg hne]; exact ho) (sumS_le tx 0 (k + 1)) fy fa1 fa2 fa4 hR hS (lv_sub hl [0, 1, 3] rfl)
            · skip
              have c_9 : ¬ ((sv9N (tx k)) ≤ 127) := fun z9 => c_9 ((nI_leI (by omega) (by omega)).mpr z9)
              refine lv_iconst (v := nI 2) hx hb dX9_sevens_37 (by decide) ?_
              refine lv_goto (tgt := 42) hx hb dX9_sevens_38 (by decide) ?_
              refine lv_iadd hx hb dX9_sevens_42 ?_
              refine ah_toi (v := nI ((sumS tx 0 k) + 2)) (nI_add _ _) ?_
              refine lv_istore_n (lv' := [(1, .int (nI ((sumS tx 0 k) + 2))), (3, .int (nI (sv9N (tx k)))), (2, .int (nI k)), (0, .ref y)]) hx hb dX9_sevens_43 rfl hl (by decide) rfl (fun ls hl => ?_)
              have hv9 : svFor (tx k) = 2 := by omega
              rw [show (sumS tx 0 k) + 2 = sumS tx 0 (k + 1) by show _ = sumS tx 0 k + svFor (tx (0 + k)); rw [Nat.zero_add, hv9]] at hl
              refine lv_iinc (v := nI (k + 1)) (lv' := [(2, .int (nI (k + 1))), (1, .int (nI (sumS tx 0 (k + 1)))), (3, .int (nI (sv9N (tx k)))), (0, .ref y)]) hx hb dX9_sevens_44 hl (k := 2) rfl (show nI k + Int32.ofInt 1 = nI (k + 1) from nI_add _ 1) (by decide) rfl (fun ls hl => ?_)
              refine lv_goto (tgt := 4) hx hb dX9_sevens_47 (by decide) ?_
              exact ih4  (k + 1) _ _ ls (by omega) (by omega) (by unfold outs; rw [if_neg hne]; exact ho) (sumS_le tx 0 (k + 1)) fy fa1 fa2 fa4 hR hS (lv_sub hl [0, 1, 3] rfl)
          · skip
            exact absurd c_8 (zi_ne (by omega))
  exact L4 ((n - 0) + 1) 0 _ _ ls (by omega) (by omega) rfl (Nat.le_refl 0) fy fa1 fa2 fa4 hR hS (lv_sub hl [0, 1, 2] rfl)

set_option maxHeartbeats 4000000 in
set_option maxRecDepth 100000 in
theorem c_m_put (l : Launch) (G : ah_G) (h : ah_H) (y : Nat) (A : Nat → Nat) (k0 n rf pm zh lc c pt gv un : Nat) (fy : h y = some (20, .inr (8, mF A k0 n rf pm zh lc c pt gv un))) (tx : Nat → Nat) (fa4 : h (A 4) = some (24, .inl (G.2.2.1 0, 3000, .inl (nA tx)))) (hn : n ≤ 3000) (u : Int32) : Met l yX9_put wsX9_put ({ frames := 1, cells := 0, slots := 0, locals := 21 }) (ah_Pc G [.ref y, .int u] h) (ah_Qi G (fun v h' => (¬ inR 65536 u ∧ h' = ah_up h y (20, .inr (8, mF A 1 n rf pm zh lc c pt gv un))) ∨ (inR 65536 u ∧ n = 3000 ∧ h' = ah_up h y (20, .inr (8, mF A 2 n rf pm zh lc c pt gv un))) ∨ (∃ k, k < 65536 ∧ u = nI k ∧ n < 3000 ∧ v = nI (n + 1) ∧ h' = ah_up (ah_up h (A 4) (24, .inl (G.2.2.1 0, 3000, .inl (nA (gU tx n k))))) y (20, .inr (8, mF A 0 (n + 1) rf pm zh lc c pt gv un))))) 0 0 (ah_A G) := by
  refine ah_ofW (cc := cX9_put) (maxL := 2) (ret := (some .int)) (by decide) rfl (Nat.le_of_ble_eq_true rfl) ?_
  intro p e s m below meth cd9 ls hx hb hr hml hown hlocks hname hts hE hR hS hl
  have hown : s.vm.findClass RX9 = some m.cls := hown
  have hl : lv_has ls 2 [(0, .ref y), (1, .int u)] := hl
  have wconstant_RX9_68_65535 := hts (.constant RX9 68 (65535)) (by decide +kernel)
  have k69 := hts (.fieldLink RX9 69 "TextPartsModel" "count" "I") (by decide +kernel)
  have hinX9 : ∀ w ∈ wsX90, w ∈ wsX9_put := by decide +kernel
  have k16 := hts (.fieldLink RX9 16 "TextPartsModel" "text" "[I") (by decide +kernel)
  refine lv_aload_n hx hb dX9_put_0 rfl (lv_at hl 0 rfl) ?_
  refine lv_iload_n hx hb dX9_put_1 rfl (lv_at hl 1 rfl) ?_
  refine lv_if_lt (tgt := 11) hx hb dX9_put_2 (by decide) (fun c_1 => ?_) (fun c_1 => ?_)
  · skip
    refine lv_iconst (v := nI 1) hx hb dX9_put_11 (by decide) ?_
    refine lv_goto (tgt := 30) hx hb dX9_put_12 (by decide) ?_
    refine ah_calli (va_runV (As := [.int (nI 1)]) (rest := []) ⟨hx, hb, hml, hown, hts⟩ (c_m_refuses l G h y A k0 n rf pm zh lc c pt gv un fy 1 (by decide)) (cwV 1 hts gX9_put_X9_refuses rfl rfl rfl (by decide +kernel) ⟨Nat.le_of_ble_eq_true rfl, Nat.le_of_ble_eq_true rfl⟩) (ah_preV hE hR hS fy rfl) rfl rfl hl.1 rfl (lv_room (Nat.le_of_ble_eq_true rfl)) dX9_put_30 ⟨Nat.le_of_ble_eq_true rfl, Nat.le_of_ble_eq_true rfl⟩) hS (fun r_4 h_2 H locs p_3 hR hS => ?_)
    obtain ⟨e_5, e_6⟩ := p_3
    have f_7 : h_2 y = some (20, .inr (8, mF A 1 n rf pm zh lc c pt gv un)) := by rw [e_6]; exact ah_up_s _ _ _
    have f_8 : h_2 (A 4) = some (24, .inl (G.2.2.1 0, 3000, .inl (nA tx))) := by rw [e_6]; exact ah_keep fa4 fy (by omega)
    refine ah_toi (v := nI 1) (by rw [e_5]; rfl) ?_
    refine lv_if_eq (tgt := 38) hx hb dX9_put_33 (by decide) (fun c_9 => ?_) (fun c_9 => ?_)
    · skip
      exact absurd c_9 (by decide)
    · skip
      refine lv_iconst (v := nI 0) hx hb dX9_put_36 (by decide) ?_
      refine ah_iret (v := nI 0) hx hb hr hlocks hR hS dX9_put_37 ?_
      exact Or.inl ⟨inR_neg (by decide) c_1, e_6⟩
  · skip
    refine lv_iload_n hx hb dX9_put_5 rfl (lv_at hl 1 rfl) ?_
    refine lv_ldc (v := 65535) hx hb hown wconstant_RX9_68_65535 dX9_put_6 ?_
    refine ah_toi (v := nI 65535) (by decide) ?_
    refine lv_icmp_le (tgt := 15) hx hb dX9_put_8 (by decide) (fun c_10 => ?_) (fun c_10 => ?_)
    · skip
      obtain ⟨k, hk, ek⟩ := inR_in (n := 65535) (by decide) c_1 c_10
      rw [ek] at hl
      refine lv_aload_n hx hb dX9_put_15 rfl (lv_at hl 0 rfl) ?_
      refine ah_get (ci := 8) (v := .int (nI n)) (C := RX9) (T := TX9) (N := 27) hx hb hE hR hts hinX9 hown fy rfl 3 (by decide) k69 (fun _ h9 => h9) rfl dX9_put_16 ?_
      refine lv_sipush (v := nI 3000) hx hb dX9_put_19 (by decide) ?_
      refine lv_icmp_ne (tgt := 29) hx hb dX9_put_22 (by decide) (fun c_11 => ?_) (fun c_11 => ?_)
      · skip
        have c_11 : ¬ (n = 3000) := fun z9 => c_11 ((nI_eq (by omega) (by omega)).mpr z9)
        refine lv_iconst (v := nI 0) hx hb dX9_put_29 (by decide) ?_
        refine ah_calli (va_runV (As := [.int (nI 0)]) (rest := []) ⟨hx, hb, hml, hown, hts⟩ (c_m_refuses l G h y A k0 n rf pm zh lc c pt gv un fy 0 (by decide)) (cwV 1 hts gX9_put_X9_refuses rfl rfl rfl (by decide +kernel) ⟨Nat.le_of_ble_eq_true rfl, Nat.le_of_ble_eq_true rfl⟩) (ah_preV hE hR hS fy rfl) rfl rfl hl.1 rfl (lv_room (Nat.le_of_ble_eq_true rfl)) dX9_put_30 ⟨Nat.le_of_ble_eq_true rfl, Nat.le_of_ble_eq_true rfl⟩) hS (fun r_14 h_12 H locs p_13 hR hS => ?_)
        obtain ⟨e_15, e_16⟩ := p_13
        have f_17 : h_12 y = some (20, .inr (8, mF A 0 n rf pm zh lc c pt gv un)) := by rw [e_16]; exact ah_up_s _ _ _
        have f_18 : h_12 (A 4) = some (24, .inl (G.2.2.1 0, 3000, .inl (nA tx))) := by rw [e_16]; exact ah_keep fa4 fy (by omega)
        refine ah_toi (v := nI 0) (by rw [e_15]; rfl) ?_
        refine lv_if_eq (tgt := 38) hx hb dX9_put_33 (by decide) (fun c_19 => ?_) (fun c_19 => ?_)
        · skip
          refine lv_aload_n hx hb dX9_put_38 rfl (lv_at hl 0 rfl) ?_
          refine ah_get (ci := 8) (v := .ref (A 4)) (C := RX9) (T := TX9) (N := 27) hx hb hE hR hts hinX9 hown f_17 rfl 4 (by decide) k16 (fun _ h9 => h9) rfl dX9_put_39 ?_
          refine lv_aload_n hx hb dX9_put_42 rfl (lv_at hl 0 rfl) ?_
          refine ah_get (ci := 8) (v := .int (nI n)) (C := RX9) (T := TX9) (N := 27) hx hb hE hR hts hinX9 hown f_17 rfl 3 (by decide) k69 (fun _ h9 => h9) rfl dX9_put_43 ?_
          refine lv_iload_n hx hb dX9_put_46 rfl (lv_at hl 1 rfl) ?_
          refine ah_iast (i := n) hx hb hE hR hS f_18 (by omega) (by omega) dX9_put_47 (fun H locs hR hS => ?_)
          rw [nA_upd] at hR
          obtain ⟨h_20, e_21⟩ : ∃ zz9, zz9 = ah_up h_12 (A 4) (24, .inl (G.2.2.1 0, 3000, .inl (nA (gU tx n k)))) := ⟨_, rfl⟩
          have hR : ah_R G h_20 H := by rw [e_21]; exact hR
          have f_22 : h_20 y = some (20, .inr (8, mF A 0 n rf pm zh lc c pt gv un)) := by rw [e_21]; exact ah_keep f_17 f_18 (by omega)
          have f_23 : h_20 (A 4) = some (24, .inl (G.2.2.1 0, 3000, .inl (nA (gU tx n k)))) := by rw [e_21]; exact ah_up_s _ _ _
          refine lv_aload_n hx hb dX9_put_48 rfl (lv_at hl 0 rfl) ?_
          refine lv_dup hx hb dX9_put_49 rfl ?_
          refine ah_get (ci := 8) (v := .int (nI n)) (C := RX9) (T := TX9) (N := 27) hx hb hE hR hts hinX9 hown f_22 rfl 3 (by decide) k69 (fun _ h9 => h9) rfl dX9_put_50 ?_
          refine lv_iconst (v := nI 1) hx hb dX9_put_53 (by decide) ?_
          refine lv_iadd hx hb dX9_put_54 ?_
          refine ah_toi (v := nI (n + 1)) (nI_add _ _) ?_
          refine ah_put (ci := 8) (v := .int (nI (n + 1))) (ty := .int) (C := RX9) (T := TX9) (N := 27) hx hb hE hR hS hts hinX9 tyX9 tyX9_ok nmX9 hown f_22 rfl 3 (by decide) k69 (fun _ h9 => h9) rfl (by decide +kernel) rfl rfl (Nat.le_of_ble_eq_true rfl) dX9_put_55 (fun H locs hR hS => ?_)
          obtain ⟨h_24, e_25⟩ : ∃ zz9, zz9 = ah_up h_20 y (20, .inr (8, mF A 0 (n + 1) rf pm zh lc c pt gv un)) := ⟨_, rfl⟩
          have hR : ah_R G h_24 H := by rw [e_25]; exact hR
          have f_26 : h_24 y = some (20, .inr (8, mF A 0 (n + 1) rf pm zh lc c pt gv un)) := by rw [e_25]; exact ah_up_s _ _ _
          have f_27 : h_24 (A 4) = some (24, .inl (G.2.2.1 0, 3000, .inl (nA (gU tx n k)))) := by rw [e_25]; exact ah_keep f_23 f_22 (by omega)
          refine lv_aload_n hx hb dX9_put_58 rfl (lv_at hl 0 rfl) ?_
          refine ah_get (ci := 8) (v := .int (nI (n + 1))) (C := RX9) (T := TX9) (N := 27) hx hb hE hR hts hinX9 hown f_26 rfl 3 (by decide) k69 (fun _ h9 => h9) rfl dX9_put_59 ?_
          refine ah_iret (v := nI (n + 1)) hx hb hr hlocks hR hS dX9_put_62 ?_
          refine Or.inr (Or.inr ⟨k, hk, ek, by omega, rfl, ?_⟩)
          rw [e_25, e_21, e_16]
          exact ah_up3 (ah_ne fy fa4 (by omega))
        · skip
          exact absurd (by decide) c_19
      · skip
        have c_11 : n = 3000 := (nI_eq (by omega) (by omega)).mp c_11
        refine lv_iconst (v := nI 2) hx hb dX9_put_25 (by decide) ?_
        refine lv_goto (tgt := 30) hx hb dX9_put_26 (by decide) ?_
        refine ah_calli (va_runV (As := [.int (nI 2)]) (rest := []) ⟨hx, hb, hml, hown, hts⟩ (c_m_refuses l G h y A k0 n rf pm zh lc c pt gv un fy 2 (by decide)) (cwV 1 hts gX9_put_X9_refuses rfl rfl rfl (by decide +kernel) ⟨Nat.le_of_ble_eq_true rfl, Nat.le_of_ble_eq_true rfl⟩) (ah_preV hE hR hS fy rfl) rfl rfl hl.1 rfl (lv_room (Nat.le_of_ble_eq_true rfl)) dX9_put_30 ⟨Nat.le_of_ble_eq_true rfl, Nat.le_of_ble_eq_true rfl⟩) hS (fun r_30 h_28 H locs p_29 hR hS => ?_)
        obtain ⟨e_31, e_32⟩ := p_29
        have f_33 : h_28 y = some (20, .inr (8, mF A 2 n rf pm zh lc c pt gv un)) := by rw [e_32]; exact ah_up_s _ _ _
        have f_34 : h_28 (A 4) = some (24, .inl (G.2.2.1 0, 3000, .inl (nA tx))) := by rw [e_32]; exact ah_keep fa4 fy (by omega)
        refine ah_toi (v := nI 1) (by rw [e_31]; rfl) ?_
        refine lv_if_eq (tgt := 38) hx hb dX9_put_33 (by decide) (fun c_35 => ?_) (fun c_35 => ?_)
        · skip
          exact absurd c_35 (by decide)
        · skip
          refine lv_iconst (v := nI 0) hx hb dX9_put_36 (by decide) ?_
          refine ah_iret (v := nI 0) hx hb hr hlocks hR hS dX9_put_37 ?_
          exact Or.inr (Or.inl ⟨⟨k, hk, ek⟩, by omega, e_32⟩)
    · skip
      refine lv_iconst (v := nI 1) hx hb dX9_put_11 (by decide) ?_
      refine lv_goto (tgt := 30) hx hb dX9_put_12 (by decide) ?_
      refine ah_calli (va_runV (As := [.int (nI 1)]) (rest := []) ⟨hx, hb, hml, hown, hts⟩ (c_m_refuses l G h y A k0 n rf pm zh lc c pt gv un fy 1 (by decide)) (cwV 1 hts gX9_put_X9_refuses rfl rfl rfl (by decide +kernel) ⟨Nat.le_of_ble_eq_true rfl, Nat.le_of_ble_eq_true rfl⟩) (ah_preV hE hR hS fy rfl) rfl rfl hl.1 rfl (lv_room (Nat.le_of_ble_eq_true rfl)) dX9_put_30 ⟨Nat.le_of_ble_eq_true rfl, Nat.le_of_ble_eq_true rfl⟩) hS (fun r_38 h_36 H locs p_37 hR hS => ?_)
      obtain ⟨e_39, e_40⟩ := p_37
      have f_41 : h_36 y = some (20, .inr (8, mF A 1 n rf pm zh lc c pt gv un)) := by rw [e_40]; exact ah_up_s _ _ _
      have f_42 : h_36 (A 4) = some (24, .inl (G.2.2.1 0, 3000, .inl (nA tx))) := by rw [e_40]; exact ah_keep fa4 fy (by omega)
      refine ah_toi (v := nI 1) (by rw [e_39]; rfl) ?_
      refine lv_if_eq (tgt := 38) hx hb dX9_put_33 (by decide) (fun c_43 => ?_) (fun c_43 => ?_)
      · skip
        exact absurd c_43 (by decide)
      · skip
        refine lv_iconst (v := nI 0) hx hb dX9_put_36 (by decide) ?_
        refine ah_iret (v := nI 0) hx hb hr hlocks hR hS dX9_put_37 ?_
        exact Or.inl ⟨inR_gt (n := 65535) (by decide) c_10, e_40⟩

set_option maxHeartbeats 4000000 in
set_option maxRecDepth 100000 in
theorem c_m_clear (l : Launch) (G : ah_G) (h : ah_H) (y : Nat) (A : Nat → Nat) (k0 n rf pm zh lc c pt gv un : Nat) (fy : h y = some (20, .inr (8, mF A k0 n rf pm zh lc c pt gv un))) : Met l yX9_clear wsX9_clear ({ frames := 0, cells := 0, slots := 0, locals := 0 }) (ah_Pc G [.ref y] h) (ah_Qi G (fun v h' => v = nI n ∧ h' = ah_up h y (20, .inr (8, mF A 0 0 rf pm zh lc c pt gv un)))) 0 0 (ah_A G) := by
  refine ah_ofW (cc := cX9_clear) (maxL := 2) (ret := (some .int)) (by decide) rfl (Nat.le_of_ble_eq_true rfl) ?_
  intro p e s m below meth cd9 ls hx hb hr hml hown hlocks hname hts hE hR hS hl
  have hown : s.vm.findClass RX9 = some m.cls := hown
  have hl : lv_has ls 2 [(0, .ref y)] := hl
  have k64 := hts (.fieldLink RX9 64 "TextPartsModel" "code" "I") (by decide +kernel)
  have hinX9 : ∀ w ∈ wsX90, w ∈ wsX9_clear := by decide +kernel
  have k69 := hts (.fieldLink RX9 69 "TextPartsModel" "count" "I") (by decide +kernel)
  refine lv_aload_n hx hb dX9_clear_0 rfl (lv_at hl 0 rfl) ?_
  refine lv_iconst (v := nI 0) hx hb dX9_clear_1 (by decide) ?_
  refine ah_put (ci := 8) (v := .int (nI 0)) (ty := .int) (C := RX9) (T := TX9) (N := 27) hx hb hE hR hS hts hinX9 tyX9 tyX9_ok nmX9 hown fy rfl 0 (by decide) k64 (fun _ h9 => h9) rfl (by decide +kernel) rfl rfl (Nat.le_of_ble_eq_true rfl) dX9_clear_2 (fun H locs hR hS => ?_)
  obtain ⟨h_1, e_2⟩ : ∃ zz9, zz9 = ah_up h y (20, .inr (8, mF A 0 n rf pm zh lc c pt gv un)) := ⟨_, rfl⟩
  have hR : ah_R G h_1 H := by rw [e_2]; exact hR
  have f_3 : h_1 y = some (20, .inr (8, mF A 0 n rf pm zh lc c pt gv un)) := by rw [e_2]; exact ah_up_s _ _ _
  refine lv_aload_n hx hb dX9_clear_5 rfl (lv_at hl 0 rfl) ?_
  refine ah_get (ci := 8) (v := .int (nI n)) (C := RX9) (T := TX9) (N := 27) hx hb hE hR hts hinX9 hown f_3 rfl 3 (by decide) k69 (fun _ h9 => h9) rfl dX9_clear_6 ?_
  refine lv_istore_n (lv' := [(1, .int (nI n)), (0, .ref y)]) hx hb dX9_clear_9 rfl hl (by decide) rfl (fun ls hl => ?_)
  refine lv_aload_n hx hb dX9_clear_10 rfl (lv_at hl 1 rfl) ?_
  refine lv_iconst (v := nI 0) hx hb dX9_clear_11 (by decide) ?_
  refine ah_put (ci := 8) (v := .int (nI 0)) (ty := .int) (C := RX9) (T := TX9) (N := 27) hx hb hE hR hS hts hinX9 tyX9 tyX9_ok nmX9 hown f_3 rfl 3 (by decide) k69 (fun _ h9 => h9) rfl (by decide +kernel) rfl rfl (Nat.le_of_ble_eq_true rfl) dX9_clear_12 (fun H locs hR hS => ?_)
  obtain ⟨h_4, e_5⟩ : ∃ zz9, zz9 = ah_up h_1 y (20, .inr (8, mF A 0 0 rf pm zh lc c pt gv un)) := ⟨_, rfl⟩
  have hR : ah_R G h_4 H := by rw [e_5]; exact hR
  have f_6 : h_4 y = some (20, .inr (8, mF A 0 0 rf pm zh lc c pt gv un)) := by rw [e_5]; exact ah_up_s _ _ _
  refine lv_iload_n hx hb dX9_clear_15 rfl (lv_at hl 0 rfl) ?_
  refine ah_iret (v := nI n) hx hb hr hlocks hR hS dX9_clear_16 ?_
  exact ⟨rfl, by rw [e_5, e_2, ah_up2]⟩
