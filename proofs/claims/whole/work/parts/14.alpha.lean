/-! ===== TextParts$Alphabet ===== -/
abbrev ownP (u : Nat) : Prop := ¬ (u = 36 ∨ u = 64) ∧ (u = 10 ∨ u = 13 ∨ (32 ≤ u ∧ u ≤ 90) ∨ (97 ≤ u ∧ u ≤ 122))
/-- what stands in g at the first place from k on, m places at most, where f holds x; -1 if there is none -/
def ptn (f g : Nat → Int32) : Nat → Nat → Int32 → Int32
  | 0, _, _ => -1
  | m + 1, k, x => if f k = x then g k else ptn f g m (k + 1) x
abbrev tab (k : Nat) : List Int32 := match k with
  | 0 => ah_ou
  | 1 => ah_os
  | 2 => ah_eu
  | _ => ah_es
abbrev tabF (k : Nat) : Nat → Int32 := fun j => (tab k).getD j 0
theorem ah_E.tab {G : ah_G} {s : State} (h : ah_E G s) : ∀ k, k < 4 → va_T .int (G.2.2.2 k) (_root_.List.length (tab k)) (fun j => .int ((tab k).getD j 0)) (ah_A G) s s.heap := by
  obtain ⟨-, -, -, -, z1, z2, z3, z4⟩ := h
  intro k hk
  match k, hk with
  | 0, _ => exact z1.2
  | 1, _ => exact z2.2
  | 2, _ => exact z3.2
  | 3, _ => exact z4.2
  | k + 4, hk => omega
def plainSv (u : Nat) : Int32 := if ownP u then nI u else ptn (tabF 0) (tabF 1) 11 0 (nI u)
def escSv (u : Nat) : Int32 := ptn (tabF 2) (tabF 3) 9 0 (nI u)
def svFor (u : Nat) : Nat := if plainSv u = -1 then (if escSv u = -1 then 0 else 2) else 1
def plainU (v : Nat) : Int32 := if (if ownP v then nI v else ptn (tabF 1) (tabF 0) 11 0 (nI v)) = -1 then nI 63 else (if ownP v then nI v else ptn (tabF 1) (tabF 0) 11 0 (nI v))
def escU (v : Nat) : Int32 := if ptn (tabF 3) (tabF 2) 9 0 (nI v) = -1 then plainU v else ptn (tabF 3) (tabF 2) 9 0 (nI v)

set_option maxHeartbeats 4000000 in
set_option maxRecDepth 100000 in
theorem c_own (l : Launch) (G : ah_G) (h : ah_H) (u : Nat) (hu : u < 2 ^ 31) : Met l yX0_isItsOwnSeven wsX0_isItsOwnSeven ({ frames := 0, cells := 0, slots := 0, locals := 0 }) (ah_Pc G [.int (nI u)] h) (ah_Qi G (fun v h' => v = nI (if ownP u then 1 else 0) ∧ h' = h)) 0 0 (ah_A G) := by
  refine ah_ofW (cc := cX0_isItsOwnSeven) (maxL := 1) (ret := (some .boolean)) (by decide) rfl (Nat.le_of_ble_eq_true rfl) ?_
  intro p e s m below meth cd9 ls hx hb hr hml hown hlocks hname hts hE hR hS hl
  have hown : s.vm.findClass RX0 = some m.cls := hown
  have hl : lv_has ls 1 [(0, .int (nI u))] := hl
  refine lv_iload_n hx hb dX0_isItsOwnSeven_0 rfl (lv_at hl 0 rfl) ?_
  refine lv_bipush (v := nI 36) hx hb dX0_isItsOwnSeven_1 (by decide) ?_
  refine lv_icmp_eq (tgt := 12) hx hb dX0_isItsOwnSeven_3 (by decide) (fun c_1 => ?_) (fun c_1 => ?_)
  · skip
    have c_1 : u = 36 := (nI_eq (by omega) (by omega)).mp c_1
    refine lv_iconst (v := nI 0) hx hb dX0_isItsOwnSeven_12 (by decide) ?_
    refine ah_zret (v := nI 0) hx hb hr hlocks hR hS dX0_isItsOwnSeven_13 (by decide) ?_
    first | (exfalso; omega) | exact ⟨by rw [if_pos (show ownP u by omega)], rfl⟩ | exact ⟨by rw [if_neg (show ¬ ownP u by omega)], rfl⟩
  · skip
    have c_1 : ¬ (u = 36) := fun z9 => c_1 ((nI_eq (by omega) (by omega)).mpr z9)
    refine lv_iload_n hx hb dX0_isItsOwnSeven_6 rfl (lv_at hl 0 rfl) ?_
    refine lv_bipush (v := nI 64) hx hb dX0_isItsOwnSeven_7 (by decide) ?_
    refine lv_icmp_ne (tgt := 14) hx hb dX0_isItsOwnSeven_9 (by decide) (fun c_2 => ?_) (fun c_2 => ?_)
    · skip
      have c_2 : ¬ (u = 64) := fun z9 => c_2 ((nI_eq (by omega) (by omega)).mpr z9)
      refine lv_iload_n hx hb dX0_isItsOwnSeven_14 rfl (lv_at hl 0 rfl) ?_
      refine lv_bipush (v := nI 10) hx hb dX0_isItsOwnSeven_15 (by decide) ?_
      refine lv_icmp_eq (tgt := 50) hx hb dX0_isItsOwnSeven_17 (by decide) (fun c_3 => ?_) (fun c_3 => ?_)
      · skip
        have c_3 : u = 10 := (nI_eq (by omega) (by omega)).mp c_3
        refine lv_iconst (v := nI 1) hx hb dX0_isItsOwnSeven_50 (by decide) ?_
        refine lv_goto (tgt := 55) hx hb dX0_isItsOwnSeven_51 (by decide) ?_
        refine ah_zret (v := nI 1) hx hb hr hlocks hR hS dX0_isItsOwnSeven_55 (by decide) ?_
        first | (exfalso; omega) | exact ⟨by rw [if_pos (show ownP u by omega)], rfl⟩ | exact ⟨by rw [if_neg (show ¬ ownP u by omega)], rfl⟩
      · skip
        have c_3 : ¬ (u = 10) := fun z9 => c_3 ((nI_eq (by omega) (by omega)).mpr z9)
        refine lv_iload_n hx hb dX0_isItsOwnSeven_20 rfl (lv_at hl 0 rfl) ?_
        refine lv_bipush (v := nI 13) hx hb dX0_isItsOwnSeven_21 (by decide) ?_
        refine lv_icmp_eq (tgt := 50) hx hb dX0_isItsOwnSeven_23 (by decide) (fun c_4 => ?_) (fun c_4 => ?_)
        · skip
          have c_4 : u = 13 := (nI_eq (by omega) (by omega)).mp c_4
          refine lv_iconst (v := nI 1) hx hb dX0_isItsOwnSeven_50 (by decide) ?_
          refine lv_goto (tgt := 55) hx hb dX0_isItsOwnSeven_51 (by decide) ?_
          refine ah_zret (v := nI 1) hx hb hr hlocks hR hS dX0_isItsOwnSeven_55 (by decide) ?_
          first | (exfalso; omega) | exact ⟨by rw [if_pos (show ownP u by omega)], rfl⟩ | exact ⟨by rw [if_neg (show ¬ ownP u by omega)], rfl⟩
        · skip
          have c_4 : ¬ (u = 13) := fun z9 => c_4 ((nI_eq (by omega) (by omega)).mpr z9)
          refine lv_iload_n hx hb dX0_isItsOwnSeven_26 rfl (lv_at hl 0 rfl) ?_
          refine lv_bipush (v := nI 32) hx hb dX0_isItsOwnSeven_27 (by decide) ?_
          refine lv_icmp_lt (tgt := 38) hx hb dX0_isItsOwnSeven_29 (by decide) (fun c_5 => ?_) (fun c_5 => ?_)
          · skip
            have c_5 : u < 32 := (nI_ltI (by omega) (by omega)).mp c_5
            refine lv_iload_n hx hb dX0_isItsOwnSeven_38 rfl (lv_at hl 0 rfl) ?_
            refine lv_bipush (v := nI 97) hx hb dX0_isItsOwnSeven_39 (by decide) ?_
            refine lv_icmp_lt (tgt := 54) hx hb dX0_isItsOwnSeven_41 (by decide) (fun c_6 => ?_) (fun c_6 => ?_)
            · skip
              have c_6 : u < 97 := (nI_ltI (by omega) (by omega)).mp c_6
              refine lv_iconst (v := nI 0) hx hb dX0_isItsOwnSeven_54 (by decide) ?_
              refine ah_zret (v := nI 0) hx hb hr hlocks hR hS dX0_isItsOwnSeven_55 (by decide) ?_
              first | (exfalso; omega) | exact ⟨by rw [if_pos (show ownP u by omega)], rfl⟩ | exact ⟨by rw [if_neg (show ¬ ownP u by omega)], rfl⟩
            · skip
              have c_6 : ¬ (u < 97) := fun z9 => c_6 ((nI_ltI (by omega) (by omega)).mpr z9)
              refine lv_iload_n hx hb dX0_isItsOwnSeven_44 rfl (lv_at hl 0 rfl) ?_
              refine lv_bipush (v := nI 122) hx hb dX0_isItsOwnSeven_45 (by decide) ?_
              refine lv_icmp_gt (tgt := 54) hx hb dX0_isItsOwnSeven_47 (by decide) (fun c_7 => ?_) (fun c_7 => ?_)
              · skip
                have c_7 : 122 < u := (nI_ltI (by omega) (by omega)).mp c_7
                refine lv_iconst (v := nI 0) hx hb dX0_isItsOwnSeven_54 (by decide) ?_
                refine ah_zret (v := nI 0) hx hb hr hlocks hR hS dX0_isItsOwnSeven_55 (by decide) ?_
                first | (exfalso; omega) | exact ⟨by rw [if_pos (show ownP u by omega)], rfl⟩ | exact ⟨by rw [if_neg (show ¬ ownP u by omega)], rfl⟩
              · skip
                have c_7 : ¬ (122 < u) := fun z9 => c_7 ((nI_ltI (by omega) (by omega)).mpr z9)
                refine lv_iconst (v := nI 1) hx hb dX0_isItsOwnSeven_50 (by decide) ?_
                refine lv_goto (tgt := 55) hx hb dX0_isItsOwnSeven_51 (by decide) ?_
                refine ah_zret (v := nI 1) hx hb hr hlocks hR hS dX0_isItsOwnSeven_55 (by decide) ?_
                first | (exfalso; omega) | exact ⟨by rw [if_pos (show ownP u by omega)], rfl⟩ | exact ⟨by rw [if_neg (show ¬ ownP u by omega)], rfl⟩
          · skip
            have c_5 : ¬ (u < 32) := fun z9 => c_5 ((nI_ltI (by omega) (by omega)).mpr z9)
            refine lv_iload_n hx hb dX0_isItsOwnSeven_32 rfl (lv_at hl 0 rfl) ?_
            refine lv_bipush (v := nI 90) hx hb dX0_isItsOwnSeven_33 (by decide) ?_
            refine lv_icmp_le (tgt := 50) hx hb dX0_isItsOwnSeven_35 (by decide) (fun c_8 => ?_) (fun c_8 => ?_)
            · skip
              have c_8 : u ≤ 90 := (nI_leI (by omega) (by omega)).mp c_8
              refine lv_iconst (v := nI 1) hx hb dX0_isItsOwnSeven_50 (by decide) ?_
              refine lv_goto (tgt := 55) hx hb dX0_isItsOwnSeven_51 (by decide) ?_
              refine ah_zret (v := nI 1) hx hb hr hlocks hR hS dX0_isItsOwnSeven_55 (by decide) ?_
              first | (exfalso; omega) | exact ⟨by rw [if_pos (show ownP u by omega)], rfl⟩ | exact ⟨by rw [if_neg (show ¬ ownP u by omega)], rfl⟩
            · skip
              have c_8 : ¬ (u ≤ 90) := fun z9 => c_8 ((nI_leI (by omega) (by omega)).mpr z9)
              refine lv_iload_n hx hb dX0_isItsOwnSeven_38 rfl (lv_at hl 0 rfl) ?_
              refine lv_bipush (v := nI 97) hx hb dX0_isItsOwnSeven_39 (by decide) ?_
              refine lv_icmp_lt (tgt := 54) hx hb dX0_isItsOwnSeven_41 (by decide) (fun c_9 => ?_) (fun c_9 => ?_)
              · skip
                have c_9 : u < 97 := (nI_ltI (by omega) (by omega)).mp c_9
                refine lv_iconst (v := nI 0) hx hb dX0_isItsOwnSeven_54 (by decide) ?_
                refine ah_zret (v := nI 0) hx hb hr hlocks hR hS dX0_isItsOwnSeven_55 (by decide) ?_
                first | (exfalso; omega) | exact ⟨by rw [if_pos (show ownP u by omega)], rfl⟩ | exact ⟨by rw [if_neg (show ¬ ownP u by omega)], rfl⟩
              · skip
                have c_9 : ¬ (u < 97) := fun z9 => c_9 ((nI_ltI (by omega) (by omega)).mpr z9)
                refine lv_iload_n hx hb dX0_isItsOwnSeven_44 rfl (lv_at hl 0 rfl) ?_
                refine lv_bipush (v := nI 122) hx hb dX0_isItsOwnSeven_45 (by decide) ?_
                refine lv_icmp_gt (tgt := 54) hx hb dX0_isItsOwnSeven_47 (by decide) (fun c_10 => ?_) (fun c_10 => ?_)
                · skip
                  have c_10 : 122 < u := (nI_ltI (by omega) (by omega)).mp c_10
                  refine lv_iconst (v := nI 0) hx hb dX0_isItsOwnSeven_54 (by decide) ?_
                  refine ah_zret (v := nI 0) hx hb hr hlocks hR hS dX0_isItsOwnSeven_55 (by decide) ?_
                  first | (exfalso; omega) | exact ⟨by rw [if_pos (show ownP u by omega)], rfl⟩ | exact ⟨by rw [if_neg (show ¬ ownP u by omega)], rfl⟩
                · skip
                  have c_10 : ¬ (122 < u) := fun z9 => c_10 ((nI_ltI (by omega) (by omega)).mpr z9)
                  refine lv_iconst (v := nI 1) hx hb dX0_isItsOwnSeven_50 (by decide) ?_
                  refine lv_goto (tgt := 55) hx hb dX0_isItsOwnSeven_51 (by decide) ?_
                  refine ah_zret (v := nI 1) hx hb hr hlocks hR hS dX0_isItsOwnSeven_55 (by decide) ?_
                  first | (exfalso; omega) | exact ⟨by rw [if_pos (show ownP u by omega)], rfl⟩ | exact ⟨by rw [if_neg (show ¬ ownP u by omega)], rfl⟩
    · skip
      have c_2 : u = 64 := (nI_eq (by omega) (by omega)).mp c_2
      refine lv_iconst (v := nI 0) hx hb dX0_isItsOwnSeven_12 (by decide) ?_
      refine ah_zret (v := nI 0) hx hb hr hlocks hR hS dX0_isItsOwnSeven_13 (by decide) ?_
      first | (exfalso; omega) | exact ⟨by rw [if_pos (show ownP u by omega)], rfl⟩ | exact ⟨by rw [if_neg (show ¬ ownP u by omega)], rfl⟩

set_option maxHeartbeats 4000000 in
set_option maxRecDepth 100000 in
theorem c_partner (l : Launch) (G : ah_G) (h : ah_H) (kx ky n : Nat) (hx4 : kx < 4) (hy4 : ky < 4) (ex : (tab kx).length = n) (ey : (tab ky).length = n) (hn : n < 100) (x : Int32) : Met l yX0_partner wsX0_partner ({ frames := 0, cells := 0, slots := 0, locals := 0 }) (ah_Pc G [.ref (G.2.2.2 kx), .ref (G.2.2.2 ky), .int x] h) (ah_Qi G (fun v h' => v = ptn (tabF kx) (tabF ky) n 0 x ∧ h' = h)) 0 0 (ah_A G) := by
  refine ah_ofW (cc := cX0_partner) (maxL := 4) (ret := (some .int)) (by decide) rfl (Nat.le_of_ble_eq_true rfl) ?_
  intro p e s m below meth cd9 ls hx hb hr hml hown hlocks hname hts hE hR hS hl
  have hown : s.vm.findClass RX0 = some m.cls := hown
  have hl : lv_has ls 4 [(0, .ref (G.2.2.2 kx)), (1, .ref (G.2.2.2 ky)), (2, .int x)] := hl
  have tx := hE.tab kx hx4
  have ty := hE.tab ky hy4
  rw [ex] at tx
  rw [ey] at ty
  refine lv_iconst (v := nI 0) hx hb dX0_partner_0 (by decide) ?_
  refine lv_istore_n (lv' := [(3, .int (nI 0)), (0, .ref (G.2.2.2 kx)), (1, .ref (G.2.2.2 ky)), (2, .int x)]) hx hb dX0_partner_1 rfl hl (by decide) rfl (fun ls hl => ?_)
  have L2 : ∀ (N2 : Nat) (k : Nat) (H : Heap) (locs : List Loc) (ls : Array Slot), n - k < N2 → (k ≤ n) → (ptn (tabF kx) (tabF ky) (n - k) k x = ptn (tabF kx) (tabF ky) n 0 x) → ah_R G h H → va_S (ah_A G) s.heap H locs → lv_has ls 4 [(3, .int (nI k)), (0, .ref (G.2.2.2 kx)), (1, .ref (G.2.2.2 ky)), (2, .int x)] → W p l e ({ frames := 0, cells := 0, slots := 0, locals := 0 }) s m ([.ref (G.2.2.2 kx), .ref (G.2.2.2 ky), .int x] : List Value).toArray below meth cd9 H locs 0 0 (MQ below (ah_Qi G (fun v h' => v = ptn (tabF kx) (tabF ky) n 0 x ∧ h' = h)) ([.ref (G.2.2.2 kx), .ref (G.2.2.2 ky), .int x] : List Value).toArray s 0 0 (ah_A G)) (F0 m 2 ls []) := by
    intro N2
    induction N2 with
    | zero => intro k  H locs ls hN; exact absurd hN (Nat.not_lt_zero _)
    | succ N2 ih2 =>
      intro k  H locs ls hN2 hk ek hR hS hl
      refine lv_iload_n hx hb dX0_partner_2 rfl (lv_at hl 0 rfl) ?_
      refine lv_aload_n hx hb dX0_partner_3 rfl (lv_at hl 1 rfl) ?_
      refine va_tlen (v := nI n) hx hb tx hS rfl dX0_partner_4 ?_
      refine lv_icmp_ge (tgt := 31) hx hb dX0_partner_5 (by decide) (fun c_1 => ?_) (fun c_1 => ?_)
      · skip
        have c_1 : n ≤ k := (nI_leI (by omega) (by omega)).mp c_1
        refine lv_iconst (v := (-1)) hx hb dX0_partner_31 (by decide) ?_
        refine ah_iret (v := (-1)) hx hb hr hlocks hR hS dX0_partner_32 ?_
        exact ⟨by rw [← ek, show n - k = 0 by omega]; rfl, rfl⟩
      · skip
        have c_1 : ¬ (n ≤ k) := fun z9 => c_1 ((nI_leI (by omega) (by omega)).mpr z9)
        refine lv_iload_n hx hb dX0_partner_8 rfl (lv_at hl 0 rfl) ?_
        refine lv_aload_n hx hb dX0_partner_9 rfl (lv_at hl 2 rfl) ?_
        refine va_tlen (v := nI n) hx hb ty hS rfl dX0_partner_10 ?_
        refine lv_icmp_ge (tgt := 31) hx hb dX0_partner_11 (by decide) (fun c_2 => ?_) (fun c_2 => ?_)
        · skip
          have c_2 : n ≤ k := (nI_leI (by omega) (by omega)).mp c_2
          refine lv_iconst (v := (-1)) hx hb dX0_partner_31 (by decide) ?_
          refine ah_iret (v := (-1)) hx hb hr hlocks hR hS dX0_partner_32 ?_
          exact ⟨by rw [← ek, show n - k = 0 by omega]; rfl, rfl⟩
        · skip
          have c_2 : ¬ (n ≤ k) := fun z9 => c_2 ((nI_leI (by omega) (by omega)).mpr z9)
          refine lv_aload_n hx hb dX0_partner_14 rfl (lv_at hl 1 rfl) ?_
          refine lv_iload_n hx hb dX0_partner_15 rfl (lv_at hl 0 rfl) ?_
          refine va_ti (v := .int ((tab kx).getD k 0)) hx hb tx hS (vp_in_nI (by omega) (by omega)) (by rw [nI_clamp (by omega)]) dX0_partner_16 ?_
          refine lv_iload_n hx hb dX0_partner_17 rfl (lv_at hl 3 rfl) ?_
          refine lv_icmp_ne (tgt := 25) hx hb dX0_partner_18 (by decide) (fun c_3 => ?_) (fun c_3 => ?_)
          · skip
            refine lv_iinc (v := nI (k + 1)) (lv' := [(3, .int (nI (k + 1))), (0, .ref (G.2.2.2 kx)), (1, .ref (G.2.2.2 ky)), (2, .int x)]) hx hb dX0_partner_25 hl (k := 0) rfl (show nI k + Int32.ofInt 1 = nI (k + 1) from nI_add _ 1) (by decide) rfl (fun ls hl => ?_)
            refine lv_goto (tgt := 2) hx hb dX0_partner_28 (by decide) ?_
            exact ih2  (k + 1) _ _ ls (by omega) (by omega) (by rw [← ek, show n - k = n - (k + 1) + 1 by omega]; exact (if_neg c_3).symm) hR hS (lv_sub hl [0, 1, 2, 3] rfl)
          · skip
            refine lv_aload_n hx hb dX0_partner_21 rfl (lv_at hl 2 rfl) ?_
            refine lv_iload_n hx hb dX0_partner_22 rfl (lv_at hl 0 rfl) ?_
            refine va_ti (v := .int ((tab ky).getD k 0)) hx hb ty hS (vp_in_nI (by omega) (by omega)) (by rw [nI_clamp (by omega)]) dX0_partner_23 ?_
            refine ah_iret (v := (tab ky).getD k 0) hx hb hr hlocks hR hS dX0_partner_24 ?_
            exact ⟨by rw [← ek, show n - k = n - (k + 1) + 1 by omega]; exact (if_pos c_3).symm, rfl⟩
  exact L2 ((n - 0) + 1) 0 _ _ ls (by omega) (by omega) (by rfl) hR hS (lv_sub hl [0, 1, 2, 3] rfl)

set_option maxHeartbeats 4000000 in
set_option maxRecDepth 100000 in
theorem c_plainSeven (l : Launch) (G : ah_G) (h : ah_H) (u : Nat) (hu : u < 2 ^ 31) : Met l yX0_plainSeven wsX0_plainSeven ({ frames := 1, cells := 0, slots := 0, locals := 23 }) (ah_Pc G [.int (nI u)] h) (ah_Qi G (fun v h' => v = plainSv u ∧ h' = h)) 0 0 (ah_A G) := by
  refine ah_ofW (cc := cX0_plainSeven) (maxL := 1) (ret := (some .int)) (by decide) rfl (Nat.le_of_ble_eq_true rfl) ?_
  intro p e s m below meth cd9 ls hx hb hr hml hown hlocks hname hts hE hR hS hl
  have hown : s.vm.findClass RX0 = some m.cls := hown
  have hl : lv_has ls 1 [(0, .int (nI u))] := hl
  have k22 := hts (.fieldLink RX0 22 "TextParts$Alphabet" "OTHER_UNITS" "[I") (by decide +kernel)
  have k26 := hts (.fieldLink RX0 26 "TextParts$Alphabet" "OTHER_SEVENS" "[I") (by decide +kernel)
  obtain ⟨-, -, -, -, z1, z2, z3, z4⟩ := id hE
  refine lv_iload_n hx hb dX0_plainSeven_0 rfl (lv_at hl 0 rfl) ?_
  refine ah_calli (va_runS (As := [.int (nI u)]) (rest := []) ⟨hx, hb, hml, hown, hts⟩ (c_own l G h u (by omega)) (va_cwS 1 hts gX0_plainSeven_X0_isItsOwnSeven rfl rfl rfl (by decide +kernel) ⟨Nat.le_of_ble_eq_true rfl, Nat.le_of_ble_eq_true rfl⟩) (ah_preS hE hR hS) rfl rfl hl.1 rfl (lv_room (Nat.le_of_ble_eq_true rfl)) dX0_plainSeven_1 ⟨Nat.le_of_ble_eq_true rfl, Nat.le_of_ble_eq_true rfl⟩) hS (fun r_3 h_1 H locs p_2 hR hS => ?_)
  obtain ⟨e_4, e_5⟩ := p_2
  rw [e_5] at hR
  refine ah_toi e_4 ?_
  have h01 : (if ownP u then 1 else 0) < 2 ^ 31 := by split <;> omega
  refine lv_if_eq (tgt := 11) hx hb dX0_plainSeven_4 (by decide) (fun c_6 => ?_) (fun c_6 => ?_)
  · skip
    have c_6 : (if ownP u then 1 else 0) = 0 := (zi_eq (by omega)).mp c_6
    have hno : ¬ ownP u := fun z9 => by rw [if_pos z9] at c_6; omega
    refine va_gets hx hb z1.1 hS hown k22 (fun _ h9 => h9) dX0_plainSeven_11 ?_
    refine va_gets hx hb z2.1 hS hown k26 (fun _ h9 => h9) dX0_plainSeven_14 ?_
    refine lv_iload_n hx hb dX0_plainSeven_17 rfl (lv_at hl 0 rfl) ?_
    refine ah_calli (va_runS (As := [.ref (G.2.2.2 0), .ref (G.2.2.2 1), .int (nI u)]) (rest := []) ⟨hx, hb, hml, hown, hts⟩ (c_partner l G h 0 1 11 (by decide) (by decide) rfl rfl (by decide) (nI u)) (va_cwS 3 hts gX0_plainSeven_X0_partner rfl rfl rfl (by decide +kernel) ⟨Nat.le_of_ble_eq_true rfl, Nat.le_of_ble_eq_true rfl⟩) (ah_preS hE hR hS) rfl rfl hl.1 rfl (lv_room (Nat.le_of_ble_eq_true rfl)) dX0_plainSeven_18 ⟨Nat.le_of_ble_eq_true rfl, Nat.le_of_ble_eq_true rfl⟩) hS (fun r_9 h_7 H locs p_8 hR hS => ?_)
    obtain ⟨e_10, e_11⟩ := p_8
    rw [e_11] at hR
    refine ah_toi e_10 ?_
    refine ah_iret (v := ptn (tabF 0) (tabF 1) 11 0 (nI u)) hx hb hr hlocks hR hS dX0_plainSeven_21 ?_
    exact ⟨(if_neg hno).symm, rfl⟩
  · skip
    have c_6 : ¬ ((if ownP u then 1 else 0) = 0) := fun z9 => c_6 ((zi_eq (by omega)).mpr z9)
    have hyes : ownP u := Classical.byContradiction (fun z9 => by rw [if_neg z9] at c_6; omega)
    refine lv_iload_n hx hb dX0_plainSeven_7 rfl (lv_at hl 0 rfl) ?_
    refine lv_goto (tgt := 21) hx hb dX0_plainSeven_8 (by decide) ?_
    refine ah_iret (v := nI u) hx hb hr hlocks hR hS dX0_plainSeven_21 ?_
    exact ⟨(if_pos hyes).symm, rfl⟩

set_option maxHeartbeats 4000000 in
set_option maxRecDepth 100000 in
theorem c_escapedSeven (l : Launch) (G : ah_G) (h : ah_H) (u : Nat) (hu : u < 2 ^ 31) : Met l yX0_escapedSeven wsX0_escapedSeven ({ frames := 1, cells := 0, slots := 0, locals := 23 }) (ah_Pc G [.int (nI u)] h) (ah_Qi G (fun v h' => v = escSv u ∧ h' = h)) 0 0 (ah_A G) := by
  refine ah_ofW (cc := cX0_escapedSeven) (maxL := 1) (ret := (some .int)) (by decide) rfl (Nat.le_of_ble_eq_true rfl) ?_
  intro p e s m below meth cd9 ls hx hb hr hml hown hlocks hname hts hE hR hS hl
  have hown : s.vm.findClass RX0 = some m.cls := hown
  have hl : lv_has ls 1 [(0, .int (nI u))] := hl
  have k33 := hts (.fieldLink RX0 33 "TextParts$Alphabet" "ESCAPED_UNITS" "[I") (by decide +kernel)
  have k36 := hts (.fieldLink RX0 36 "TextParts$Alphabet" "ESCAPED_SEVENS" "[I") (by decide +kernel)
  obtain ⟨-, -, -, -, z1, z2, z3, z4⟩ := id hE
  refine va_gets hx hb z3.1 hS hown k33 (fun _ h9 => h9) dX0_escapedSeven_0 ?_
  refine va_gets hx hb z4.1 hS hown k36 (fun _ h9 => h9) dX0_escapedSeven_3 ?_
  refine lv_iload_n hx hb dX0_escapedSeven_6 rfl (lv_at hl 0 rfl) ?_
  refine ah_calli (va_runS (As := [.ref (G.2.2.2 2), .ref (G.2.2.2 3), .int (nI u)]) (rest := []) ⟨hx, hb, hml, hown, hts⟩ (c_partner l G h 2 3 9 (by decide) (by decide) rfl rfl (by decide) (nI u)) (va_cwS 3 hts gX0_escapedSeven_X0_partner rfl rfl rfl (by decide +kernel) ⟨Nat.le_of_ble_eq_true rfl, Nat.le_of_ble_eq_true rfl⟩) (ah_preS hE hR hS) rfl rfl hl.1 rfl (lv_room (Nat.le_of_ble_eq_true rfl)) dX0_escapedSeven_7 ⟨Nat.le_of_ble_eq_true rfl, Nat.le_of_ble_eq_true rfl⟩) hS (fun r_3 h_1 H locs p_2 hR hS => ?_)
  obtain ⟨e_4, e_5⟩ := p_2
  rw [e_5] at hR
  refine ah_toi e_4 ?_
  refine ah_iret (v := ptn (tabF 2) (tabF 3) 9 0 (nI u)) hx hb hr hlocks hR hS dX0_escapedSeven_10 ?_
  exact ⟨rfl, rfl⟩

set_option maxHeartbeats 4000000 in
set_option maxRecDepth 100000 in
theorem c_sevensFor (l : Launch) (G : ah_G) (h : ah_H) (u : Nat) (hu : u < 2 ^ 31) : Met l yX0_sevensFor wsX0_sevensFor ({ frames := 2, cells := 0, slots := 0, locals := 43 }) (ah_Pc G [.int (nI u)] h) (ah_Qi G (fun v h' => v = nI (svFor u) ∧ h' = h)) 0 0 (ah_A G) := by
  refine ah_ofW (cc := cX0_sevensFor) (maxL := 1) (ret := (some .int)) (by decide) rfl (Nat.le_of_ble_eq_true rfl) ?_
  intro p e s m below meth cd9 ls hx hb hr hml hown hlocks hname hts hE hR hS hl
  have hown : s.vm.findClass RX0 = some m.cls := hown
  have hl : lv_has ls 1 [(0, .int (nI u))] := hl
  refine lv_iload_n hx hb dX0_sevensFor_0 rfl (lv_at hl 0 rfl) ?_
  refine ah_calli (va_runS (As := [.int (nI u)]) (rest := []) ⟨hx, hb, hml, hown, hts⟩ (c_plainSeven l G h u hu) (va_cwS 1 hts gX0_sevensFor_X0_plainSeven rfl rfl rfl (by decide +kernel) ⟨Nat.le_of_ble_eq_true rfl, Nat.le_of_ble_eq_true rfl⟩) (ah_preS hE hR hS) rfl rfl hl.1 rfl (lv_room (Nat.le_of_ble_eq_true rfl)) dX0_sevensFor_1 ⟨Nat.le_of_ble_eq_true rfl, Nat.le_of_ble_eq_true rfl⟩) hS (fun r_3 h_1 H locs p_2 hR hS => ?_)
  obtain ⟨e_4, e_5⟩ := p_2
  rw [e_5] at hR
  refine ah_toi e_4 ?_
  refine lv_iconst (v := (-1)) hx hb dX0_sevensFor_4 (by decide) ?_
  refine lv_icmp_eq (tgt := 10) hx hb dX0_sevensFor_5 (by decide) (fun c_6 => ?_) (fun c_6 => ?_)
  · skip
    refine lv_iload_n hx hb dX0_sevensFor_10 rfl (lv_at hl 0 rfl) ?_
    refine ah_calli (va_runS (As := [.int (nI u)]) (rest := []) ⟨hx, hb, hml, hown, hts⟩ (c_escapedSeven l G h u hu) (va_cwS 1 hts gX0_sevensFor_X0_escapedSeven rfl rfl rfl (by decide +kernel) ⟨Nat.le_of_ble_eq_true rfl, Nat.le_of_ble_eq_true rfl⟩) (ah_preS hE hR hS) rfl rfl hl.1 rfl (lv_room (Nat.le_of_ble_eq_true rfl)) dX0_sevensFor_11 ⟨Nat.le_of_ble_eq_true rfl, Nat.le_of_ble_eq_true rfl⟩) hS (fun r_9 h_7 H locs p_8 hR hS => ?_)
    obtain ⟨e_10, e_11⟩ := p_8
    rw [e_11] at hR
    refine ah_toi e_10 ?_
    refine lv_iconst (v := (-1)) hx hb dX0_sevensFor_14 (by decide) ?_
    refine lv_icmp_eq (tgt := 22) hx hb dX0_sevensFor_15 (by decide) (fun c_12 => ?_) (fun c_12 => ?_)
    · skip
      refine lv_iconst (v := nI 0) hx hb dX0_sevensFor_22 (by decide) ?_
      refine ah_iret (v := nI 0) hx hb hr hlocks hR hS dX0_sevensFor_23 ?_
      exact ⟨by unfold svFor; rw [if_pos c_6, if_pos c_12], rfl⟩
    · skip
      refine lv_iconst (v := nI 2) hx hb dX0_sevensFor_18 (by decide) ?_
      refine lv_goto (tgt := 23) hx hb dX0_sevensFor_19 (by decide) ?_
      refine ah_iret (v := nI 2) hx hb hr hlocks hR hS dX0_sevensFor_23 ?_
      exact ⟨by unfold svFor; rw [if_pos c_6, if_neg c_12], rfl⟩
  · skip
    refine lv_iconst (v := nI 1) hx hb dX0_sevensFor_8 (by decide) ?_
    refine ah_iret (v := nI 1) hx hb hr hlocks hR hS dX0_sevensFor_9 ?_
    exact ⟨by unfold svFor; rw [if_neg c_6], rfl⟩

set_option maxHeartbeats 4000000 in
set_option maxRecDepth 100000 in
theorem c_plainUnit (l : Launch) (G : ah_G) (h : ah_H) (u : Nat) (hu : u < 2 ^ 31) : Met l yX0_plainUnit wsX0_plainUnit ({ frames := 1, cells := 0, slots := 0, locals := 23 }) (ah_Pc G [.int (nI u)] h) (ah_Qi G (fun v h' => v = plainU u ∧ h' = h)) 0 0 (ah_A G) := by
  refine ah_ofW (cc := cX0_plainUnit) (maxL := 2) (ret := (some .int)) (by decide) rfl (Nat.le_of_ble_eq_true rfl) ?_
  intro p e s m below meth cd9 ls hx hb hr hml hown hlocks hname hts hE hR hS hl
  have hown : s.vm.findClass RX0 = some m.cls := hown
  have hl : lv_has ls 2 [(0, .int (nI u))] := hl
  have k26 := hts (.fieldLink RX0 26 "TextParts$Alphabet" "OTHER_SEVENS" "[I") (by decide +kernel)
  have k22 := hts (.fieldLink RX0 22 "TextParts$Alphabet" "OTHER_UNITS" "[I") (by decide +kernel)
  obtain ⟨-, -, -, -, z1, z2, z3, z4⟩ := id hE
  refine lv_iload_n hx hb dX0_plainUnit_0 rfl (lv_at hl 0 rfl) ?_
  refine ah_calli (va_runS (As := [.int (nI u)]) (rest := []) ⟨hx, hb, hml, hown, hts⟩ (c_own l G h u (by omega)) (va_cwS 1 hts gX0_plainUnit_X0_isItsOwnSeven rfl rfl rfl (by decide +kernel) ⟨Nat.le_of_ble_eq_true rfl, Nat.le_of_ble_eq_true rfl⟩) (ah_preS hE hR hS) rfl rfl hl.1 rfl (lv_room (Nat.le_of_ble_eq_true rfl)) dX0_plainUnit_1 ⟨Nat.le_of_ble_eq_true rfl, Nat.le_of_ble_eq_true rfl⟩) hS (fun r_3 h_1 H locs p_2 hR hS => ?_)
  obtain ⟨e_4, e_5⟩ := p_2
  rw [e_5] at hR
  refine ah_toi e_4 ?_
  have h01 : (if ownP u then 1 else 0) < 2 ^ 31 := by split <;> omega
  refine lv_if_eq (tgt := 11) hx hb dX0_plainUnit_4 (by decide) (fun c_6 => ?_) (fun c_6 => ?_)
  · skip
    have c_6 : (if ownP u then 1 else 0) = 0 := (zi_eq (by omega)).mp c_6
    have hno : ¬ ownP u := fun z9 => by rw [if_pos z9] at c_6; omega
    refine va_gets hx hb z2.1 hS hown k26 (fun _ h9 => h9) dX0_plainUnit_11 ?_
    refine va_gets hx hb z1.1 hS hown k22 (fun _ h9 => h9) dX0_plainUnit_14 ?_
    refine lv_iload_n hx hb dX0_plainUnit_17 rfl (lv_at hl 0 rfl) ?_
    refine ah_calli (va_runS (As := [.ref (G.2.2.2 1), .ref (G.2.2.2 0), .int (nI u)]) (rest := []) ⟨hx, hb, hml, hown, hts⟩ (c_partner l G h 1 0 11 (by decide) (by decide) rfl rfl (by decide) (nI u)) (va_cwS 3 hts gX0_plainUnit_X0_partner rfl rfl rfl (by decide +kernel) ⟨Nat.le_of_ble_eq_true rfl, Nat.le_of_ble_eq_true rfl⟩) (ah_preS hE hR hS) rfl rfl hl.1 rfl (lv_room (Nat.le_of_ble_eq_true rfl)) dX0_plainUnit_18 ⟨Nat.le_of_ble_eq_true rfl, Nat.le_of_ble_eq_true rfl⟩) hS (fun r_9 h_7 H locs p_8 hR hS => ?_)
    obtain ⟨e_10, e_11⟩ := p_8
    rw [e_11] at hR
    refine ah_toi e_10 ?_
    refine lv_istore_n (lv' := [(1, .int (ptn (tabF 1) (tabF 0) 11 0 (nI u))), (0, .int (nI u))]) hx hb dX0_plainUnit_21 rfl hl (by decide) rfl (fun ls hl => ?_)
    refine lv_iload_n hx hb dX0_plainUnit_22 rfl (lv_at hl 0 rfl) ?_
    refine lv_iconst (v := (-1)) hx hb dX0_plainUnit_23 (by decide) ?_
    refine lv_icmp_ne (tgt := 32) hx hb dX0_plainUnit_24 (by decide) (fun c_12 => ?_) (fun c_12 => ?_)
    · skip
      refine lv_iload_n hx hb dX0_plainUnit_32 rfl (lv_at hl 0 rfl) ?_
      refine ah_iret (v := ptn (tabF 1) (tabF 0) 11 0 (nI u)) hx hb hr hlocks hR hS dX0_plainUnit_33 ?_
      exact ⟨by unfold plainU; rw [if_neg hno, if_neg c_12], rfl⟩
    · skip
      refine lv_bipush (v := nI 63) hx hb dX0_plainUnit_27 (by decide) ?_
      refine lv_goto (tgt := 33) hx hb dX0_plainUnit_29 (by decide) ?_
      refine ah_iret (v := nI 63) hx hb hr hlocks hR hS dX0_plainUnit_33 ?_
      exact ⟨by unfold plainU; rw [if_neg hno, if_pos c_12], rfl⟩
  · skip
    have c_6 : ¬ ((if ownP u then 1 else 0) = 0) := fun z9 => c_6 ((zi_eq (by omega)).mpr z9)
    have hyes : ownP u := Classical.byContradiction (fun z9 => by rw [if_neg z9] at c_6; omega)
    refine lv_iload_n hx hb dX0_plainUnit_7 rfl (lv_at hl 0 rfl) ?_
    refine lv_goto (tgt := 21) hx hb dX0_plainUnit_8 (by decide) ?_
    refine lv_istore_n (lv' := [(1, .int (nI u)), (0, .int (nI u))]) hx hb dX0_plainUnit_21 rfl hl (by decide) rfl (fun ls hl => ?_)
    refine lv_iload_n hx hb dX0_plainUnit_22 rfl (lv_at hl 0 rfl) ?_
    refine lv_iconst (v := (-1)) hx hb dX0_plainUnit_23 (by decide) ?_
    refine lv_icmp_ne (tgt := 32) hx hb dX0_plainUnit_24 (by decide) (fun c_13 => ?_) (fun c_13 => ?_)
    · skip
      refine lv_iload_n hx hb dX0_plainUnit_32 rfl (lv_at hl 0 rfl) ?_
      refine ah_iret (v := nI u) hx hb hr hlocks hR hS dX0_plainUnit_33 ?_
      exact ⟨by unfold plainU; rw [if_pos hyes, if_neg c_13], rfl⟩
    · skip
      refine lv_bipush (v := nI 63) hx hb dX0_plainUnit_27 (by decide) ?_
      refine lv_goto (tgt := 33) hx hb dX0_plainUnit_29 (by decide) ?_
      refine ah_iret (v := nI 63) hx hb hr hlocks hR hS dX0_plainUnit_33 ?_
      exact ⟨by unfold plainU; rw [if_pos hyes, if_pos c_13], rfl⟩

set_option maxHeartbeats 4000000 in
set_option maxRecDepth 100000 in
theorem c_escapedUnit (l : Launch) (G : ah_G) (h : ah_H) (u : Nat) (hu : u < 2 ^ 31) : Met l yX0_escapedUnit wsX0_escapedUnit ({ frames := 2, cells := 0, slots := 0, locals := 44 }) (ah_Pc G [.int (nI u)] h) (ah_Qi G (fun v h' => v = escU u ∧ h' = h)) 0 0 (ah_A G) := by
  refine ah_ofW (cc := cX0_escapedUnit) (maxL := 2) (ret := (some .int)) (by decide) rfl (Nat.le_of_ble_eq_true rfl) ?_
  intro p e s m below meth cd9 ls hx hb hr hml hown hlocks hname hts hE hR hS hl
  have hown : s.vm.findClass RX0 = some m.cls := hown
  have hl : lv_has ls 2 [(0, .int (nI u))] := hl
  have k36 := hts (.fieldLink RX0 36 "TextParts$Alphabet" "ESCAPED_SEVENS" "[I") (by decide +kernel)
  have k33 := hts (.fieldLink RX0 33 "TextParts$Alphabet" "ESCAPED_UNITS" "[I") (by decide +kernel)
  obtain ⟨-, -, -, -, z1, z2, z3, z4⟩ := id hE
  refine lv_iload_n hx hb dX0_escapedUnit_0 rfl (lv_at hl 0 rfl) ?_
  refine lv_iconst (v := (-1)) hx hb dX0_escapedUnit_1 (by decide) ?_
  refine lv_icmp_ne (tgt := 8) hx hb dX0_escapedUnit_2 (by decide) (fun c_1 => ?_) (fun c_1 => ?_)
  · skip
    refine va_gets hx hb z4.1 hS hown k36 (fun _ h9 => h9) dX0_escapedUnit_8 ?_
    refine va_gets hx hb z3.1 hS hown k33 (fun _ h9 => h9) dX0_escapedUnit_11 ?_
    refine lv_iload_n hx hb dX0_escapedUnit_14 rfl (lv_at hl 0 rfl) ?_
    refine ah_calli (va_runS (As := [.ref (G.2.2.2 3), .ref (G.2.2.2 2), .int (nI u)]) (rest := []) ⟨hx, hb, hml, hown, hts⟩ (c_partner l G h 3 2 9 (by decide) (by decide) rfl rfl (by decide) (nI u)) (va_cwS 3 hts gX0_escapedUnit_X0_partner rfl rfl rfl (by decide +kernel) ⟨Nat.le_of_ble_eq_true rfl, Nat.le_of_ble_eq_true rfl⟩) (ah_preS hE hR hS) rfl rfl hl.1 rfl (lv_room (Nat.le_of_ble_eq_true rfl)) dX0_escapedUnit_15 ⟨Nat.le_of_ble_eq_true rfl, Nat.le_of_ble_eq_true rfl⟩) hS (fun r_4 h_2 H locs p_3 hR hS => ?_)
    obtain ⟨e_5, e_6⟩ := p_3
    rw [e_6] at hR
    refine ah_toi e_5 ?_
    refine lv_istore_n (lv' := [(1, .int (ptn (tabF 3) (tabF 2) 9 0 (nI u))), (0, .int (nI u))]) hx hb dX0_escapedUnit_18 rfl hl (by decide) rfl (fun ls hl => ?_)
    refine lv_iload_n hx hb dX0_escapedUnit_19 rfl (lv_at hl 0 rfl) ?_
    refine lv_iconst (v := (-1)) hx hb dX0_escapedUnit_20 (by decide) ?_
    refine lv_icmp_ne (tgt := 31) hx hb dX0_escapedUnit_21 (by decide) (fun c_7 => ?_) (fun c_7 => ?_)
    · skip
      refine lv_iload_n hx hb dX0_escapedUnit_31 rfl (lv_at hl 0 rfl) ?_
      refine ah_iret (v := ptn (tabF 3) (tabF 2) 9 0 (nI u)) hx hb hr hlocks hR hS dX0_escapedUnit_32 ?_
      exact ⟨by unfold escU; rw [if_neg c_7], rfl⟩
    · skip
      refine lv_iload_n hx hb dX0_escapedUnit_24 rfl (lv_at hl 1 rfl) ?_
      refine ah_calli (va_runS (As := [.int (nI u)]) (rest := []) ⟨hx, hb, hml, hown, hts⟩ (c_plainUnit l G h u hu) (va_cwS 1 hts gX0_escapedUnit_X0_plainUnit rfl rfl rfl (by decide +kernel) ⟨Nat.le_of_ble_eq_true rfl, Nat.le_of_ble_eq_true rfl⟩) (ah_preS hE hR hS) rfl rfl hl.1 rfl (lv_room (Nat.le_of_ble_eq_true rfl)) dX0_escapedUnit_25 ⟨Nat.le_of_ble_eq_true rfl, Nat.le_of_ble_eq_true rfl⟩) hS (fun r_10 h_8 H locs p_9 hR hS => ?_)
      obtain ⟨e_11, e_12⟩ := p_9
      rw [e_12] at hR
      refine ah_toi e_11 ?_
      refine lv_goto (tgt := 32) hx hb dX0_escapedUnit_28 (by decide) ?_
      refine ah_iret (v := plainU u) hx hb hr hlocks hR hS dX0_escapedUnit_32 ?_
      exact ⟨by unfold escU; rw [if_pos c_7], rfl⟩
  · skip
    exact absurd c_1 (zi_ne (by omega))

set_option maxHeartbeats 4000000 in
set_option maxRecDepth 100000 in
theorem c_escapedUnit0 (l : Launch) (G : ah_G) (h : ah_H)  : Met l yX0_escapedUnit wsX0_escapedUnit ({ frames := 2, cells := 0, slots := 0, locals := 44 }) (ah_Pc G [.int (-1)] h) (ah_Qi G (fun v h' => v = nI 32 ∧ h' = h)) 0 0 (ah_A G) := by
  refine ah_ofW (cc := cX0_escapedUnit) (maxL := 2) (ret := (some .int)) (by decide) rfl (Nat.le_of_ble_eq_true rfl) ?_
  intro p e s m below meth cd9 ls hx hb hr hml hown hlocks hname hts hE hR hS hl
  have hown : s.vm.findClass RX0 = some m.cls := hown
  have hl : lv_has ls 2 [(0, .int (-1))] := hl
  refine lv_iload_n hx hb dX0_escapedUnit_0 rfl (lv_at hl 0 rfl) ?_
  refine lv_iconst (v := (-1)) hx hb dX0_escapedUnit_1 (by decide) ?_
  refine lv_icmp_ne (tgt := 8) hx hb dX0_escapedUnit_2 (by decide) (fun c_1 => ?_) (fun c_1 => ?_)
  · skip
    exact absurd rfl c_1
  · skip
    refine lv_bipush (v := nI 32) hx hb dX0_escapedUnit_5 (by decide) ?_
    refine ah_iret (v := nI 32) hx hb hr hlocks hR hS dX0_escapedUnit_7 ?_
    exact ⟨rfl, rfl⟩
