theorem tw_skip {G : ah_G} {h : ah_H} {x y q k0 : Nat} (t : tw G h x y q k0) : tw G h x y (q + 1) k0 := by
  obtain ⟨n, pm, zh, rf, c, pt, lc, gv, un, f, z, g, gh, D, lat, A, ln, bb, hh, la, mp, sd, rc, pr, th, sm, pc, pu, pa, ua, T, M, B⟩ := t
  exact ⟨n, pm, zh, rf, c, pt, lc, gv, un, f, z, g, gh, D, lat, A, ln, bb, hh, la, mp, sd, rc, pr, th, sm, pc, pu, pa, ua, T, M, B.next⟩
set_option maxHeartbeats 4000000 in
set_option maxRecDepth 100000 in
theorem law_loop {p : Program} {l : Launch} {e : Env} {s : State} {m : MethodId} {below : List Frame} {meth : Method} {cd9 : Code} {Q : State → Prop} {b L : Nat} {xs : Nat → Int32} {G : ah_G} {x y o : Nat} (C : lwC p l s m cd9 b L xs G) (hL : L ≤ 2048) (KE : ∀ (H : Heap) (locs : List Loc) (ls : Array Slot), va_S (ah_A G) s.heap H locs → W p l e room_1 s m #[Value.ref b] below meth cd9 H locs 601024 7293034 Q (F0 m 857 ls [.int (nI 1)])) : ∀ (N q k0 : Nat) (fo : Nat → Int64) (h : ah_H) (H : Heap) (locs : List Loc) (ls : Array Slot), 512 - q < N → 4 * q ≤ L → tw G h x y q k0 → h o = some (oC G fo) → ah_R G h H → va_S (ah_A G) s.heap H locs → lv_has ls 7 [(4, .int (nI (4 * q))), (0, .ref b), (1, .ref x), (2, .ref y), (3, .ref o)] → W p l e room_1 s m #[Value.ref b] below meth cd9 H locs (30 + 20 * q) (741781 + 1200 * q) Q (F0 m 23 ls []) := by
  intro N
  induction N with
  | zero => intro q k0 fo h H locs ls hN; exact absurd hN (Nat.not_lt_zero _)
  | succ N ih =>
    intro q k0 fo h H locs ls hN hq4 htw O hR hS hl
    have C9 := C
    obtain ⟨hx, hb, hml, hown, hts, hXs, hbl, hbA, hE, hX, hN9, hlt⟩ := C9
    have K : 4 * q + 4 ≤ L → lwK p l e s m below meth cd9 Q b G x y o q (30 + 20 * q) (741781 + 1200 * q) := by
      intro hq k1 fo1 h H locs ls htw O hR hS hl
      refine lv_iinc (v := nI ((4 * q) + 4)) (lv' := [(4, .int (nI ((4 * q) + 4))), (0, .ref b), (1, .ref x), (2, .ref y), (3, .ref o)]) hx hb dL_law_850 hl (k := 0) rfl (show nI (4 * q) + Int32.ofInt 4 = nI ((4 * q) + 4) from nI_add _ 4) (by decide) rfl (fun ls hl => ?_)
      refine lv_goto (tgt := 23) hx hb dL_law_853 (by decide) ?_
      refine W.widen (k := 30 + 20 * (q + 1)) (n := 741781 + 1200 * (q + 1)) (by omega) (by omega) ?_
      exact ih (q + 1) k1 fo1 h H locs ls (by omega) (by omega) htw O hR hS (by rw [show 4 * (q + 1) = (4 * q) + 4 by omega]; exact hl)
    refine lv_iload hx hb dL_law_23 (lv_at hl 0 rfl) ?_
    refine lv_aload_n hx hb dL_law_25 rfl (lv_at hl 1 rfl) ?_
    refine va_slen hx hb hXs hbl hbA hS dL_law_26 ?_
    refine ah_toi (v := nI L) rfl ?_
    by_cases hL4 : 4 ≤ L
    · skip
      refine lv_iconst (v := nI 4) hx hb dL_law_27 (by decide) ?_
      refine lv_isub hx hb dL_law_28 ?_
      refine ah_toi (v := nI (L - 4)) (pk_sub (by omega)) ?_
      refine lv_icmp_gt (tgt := 856) hx hb dL_law_29 (by decide) (fun c_1 => ?_) (fun c_1 => ?_)
      · skip
        have c_1 : (L - 4) < (4 * q) := (nI_ltI (by omega) (by omega)).mp c_1
        refine lv_iconst (v := nI 1) hx hb dL_law_856 (by decide) ?_
        refine W.widen (k := 601024) (n := 7293034) (by omega) (by omega) ?_
        exact KE _ _ _ hS
      · skip
        have c_1 : ¬ ((L - 4) < (4 * q)) := fun z9 => c_1 ((nI_ltI (by omega) (by omega)).mpr z9)
        refine lv_aload_n hx hb dL_law_32 rfl (lv_at hl 1 rfl) ?_
        refine lv_iload hx hb dL_law_33 (lv_at hl 0 rfl) ?_
        refine va_sld (i := nI (4 * q)) hx hb hXs hbl hbA hS (vp_in_nI (by omega) (by omega)) dL_law_35 ?_
        refine ah_toi (v := xs (4 * q)) (by rw [nI_clamp (by omega)]) ?_
        refine lv_bipush (v := nI 15) hx hb dL_law_36 (by decide) ?_
        refine lv_iand hx hb dL_law_38 ?_
        obtain ⟨k, hk, ek⟩ := and15 (xs (4 * q))
        refine ah_toi (v := nI k) ek ?_
        have hq : 4 * q + 4 ≤ L := by omega
        have hcells : 30 + 20 * q + 20 ≤ room_1.cells := by show _ ≤ 601024; omega
        have hslots : 741781 + 1200 * q + 1200 ≤ room_1.slots := by show _ ≤ 7293034; omega
        rcases (show k = 0 ∨ k = 1 ∨ k = 2 ∨ k = 3 ∨ k = 4 ∨ k = 5 ∨ k = 6 ∨ k = 7 ∨ k = 8 ∨ k = 9 ∨ k = 10 ∨ k = 11 ∨ k = 12 ∨ k = 13 ∨ k = 14 ∨ k = 15 by omega) with rfl | rfl | rfl | rfl | rfl | rfl | rfl | rfl | rfl | rfl | rfl | rfl | rfl | rfl | rfl | rfl
        · skip
          refine lv_tableIn (off := 65) (tgt := 104) hx hb dL_law_39 (by decide) (by decide) rfl (by decide) ?_
          exact law_put C hL hq hcells hslots (K hq) htw O hR hS (lv_sub hl [0, 1, 2, 3, 4] rfl)
        · skip
          refine lv_tableIn (off := 121) (tgt := 160) hx hb dL_law_39 (by decide) (by decide) rfl (by decide) ?_
          exact law_clear C hL hq hcells hslots (K hq) htw O hR hS (lv_sub hl [0, 1, 2, 3, 4] rfl)
        · skip
          refine lv_tableIn (off := 134) (tgt := 173) hx hb dL_law_39 (by decide) (by decide) rfl (by decide) ?_
          exact law_about C hL hq hcells hslots (K hq) htw O hR hS (lv_sub hl [0, 1, 2, 3, 4] rfl)
        · skip
          refine lv_tableIn (off := 190) (tgt := 229) hx hb dL_law_39 (by decide) (by decide) rfl (by decide) ?_
          exact law_make C hL hq hcells hslots (K hq) htw O hR hS (lv_sub hl [0, 1, 2, 3, 4] rfl)
        · skip
          refine lv_tableIn (off := 234) (tgt := 273) hx hb dL_law_39 (by decide) (by decide) rfl (by decide) ?_
          exact law_length C hL hq hcells hslots (K hq) htw O hR hS (lv_sub hl [0, 1, 2, 3, 4] rfl)
        · skip
          refine lv_tableIn (off := 290) (tgt := 329) hx hb dL_law_39 (by decide) (by decide) rfl (by decide) ?_
          exact law_byteOf C hL hq hcells hslots (K hq) htw O hR hS (lv_sub hl [0, 1, 2, 3, 4] rfl)
        · skip
          refine lv_tableIn (off := 358) (tgt := 397) hx hb dL_law_39 (by decide) (by decide) rfl (by decide) ?_
          exact law_take C hL hq hcells hslots (K hq) htw O hR hS (lv_sub hl [0, 1, 2, 3, 4] rfl)
        · skip
          refine lv_tableIn (off := 426) (tgt := 465) hx hb dL_law_39 (by decide) (by decide) rfl (by decide) ?_
          exact law_alter C hL hq hcells hslots (K hq) htw O hR hS (lv_sub hl [0, 1, 2, 3, 4] rfl)
        · skip
          refine lv_tableIn (off := 506) (tgt := 545) hx hb dL_law_39 (by decide) (by decide) rfl (by decide) ?_
          exact law_feed C hL hq hcells hslots (K hq) htw O hR hS (lv_sub hl [0, 1, 2, 3, 4] rfl)
        · skip
          refine lv_tableIn (off := 606) (tgt := 645) hx hb dL_law_39 (by decide) (by decide) rfl (by decide) ?_
          exact law_read C hL hq hcells hslots (K hq) htw O hR hS (lv_sub hl [0, 1, 2, 3, 4] rfl)
        · skip
          refine lv_tableIn (off := 662) (tgt := 701) hx hb dL_law_39 (by decide) (by decide) rfl (by decide) ?_
          exact law_unit C hL hq hcells hslots (K hq) htw O hR hS (lv_sub hl [0, 1, 2, 3, 4] rfl)
        · skip
          refine lv_tableIn (off := 687) (tgt := 726) hx hb dL_law_39 (by decide) (by decide) rfl (by decide) ?_
          exact law_heap C hL hq hcells hslots (K hq) htw O hR hS (lv_sub hl [0, 1, 2, 3, 4] rfl)
        · skip
          refine lv_tableIn (off := 755) (tgt := 794) hx hb dL_law_39 (by decide) (by decide) rfl (by decide) ?_
          exact law_forget C hL hq hcells hslots (K hq) htw O hR hS (lv_sub hl [0, 1, 2, 3, 4] rfl)
        · skip
          refine lv_tableOut (tgt := 850) hx hb dL_law_39 (by decide) (by decide) ?_
          refine W.widen (k := 30 + 20 * q + 20) (n := 741781 + 1200 * q + 1200) (by omega) (by omega) ?_
          exact K hq k0 fo h H locs ls (tw_skip htw) O hR hS (lv_sub hl [0, 1, 2, 3, 4] rfl)
        · skip
          refine lv_tableOut (tgt := 850) hx hb dL_law_39 (by decide) (by decide) ?_
          refine W.widen (k := 30 + 20 * q + 20) (n := 741781 + 1200 * q + 1200) (by omega) (by omega) ?_
          exact K hq k0 fo h H locs ls (tw_skip htw) O hR hS (lv_sub hl [0, 1, 2, 3, 4] rfl)
        · skip
          refine lv_tableOut (tgt := 850) hx hb dL_law_39 (by decide) (by decide) ?_
          refine W.widen (k := 30 + 20 * q + 20) (n := 741781 + 1200 * q + 1200) (by omega) (by omega) ?_
          exact K hq k0 fo h H locs ls (tw_skip htw) O hR hS (lv_sub hl [0, 1, 2, 3, 4] rfl)
    · skip
      refine lv_iconst (v := nI 4) hx hb dL_law_27 (by decide) ?_
      refine lv_isub hx hb dL_law_28 ?_
      refine lv_icmp_gt (tgt := 856) hx hb dL_law_29 (by decide) (fun c_2 => ?_) (fun c_2 => ?_)
      · skip
        refine lv_iconst (v := nI 1) hx hb dL_law_856 (by decide) ?_
        refine W.widen (k := 601024) (n := 7293034) (by omega) (by omega) ?_
        exact KE _ _ _ hS
      · skip
        exact absurd (by rw [show 4 * q = 0 by omega]; exact short_gt (by omega)) c_2
